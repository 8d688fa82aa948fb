section
-- ===== PART A: goes FIRST, ahead of the names: the tables' words, and 'selects' of the private methods out of them =====
/-- a private method of a class that the tables say can be made, by its rows of tables_1 -/
def lw_okq (q : MethodName × Nat) : Prop := (q.1.cls ≠ "java/lang/invoke/MethodHandle" ∧ q.1.cls ≠ "java/lang/invoke/VarHandle") ∧ Cond.instantiable q.1.cls q.2 ∈ tables_1 ∧ Cond.privateMethod q.1 ∈ tables_1 ∧ Cond.instanceMethod q.1 ∈ tables_1
theorem lw_p0 : lw_okq (⟨"TailoredOrder$Table", "insert", "(III)V"⟩, 6) := ⟨⟨by decide +kernel, by decide +kernel⟩, List.mem_of_getElem? (i := 57) (by decide +kernel), List.mem_of_getElem? (i := 63) (by decide +kernel), List.mem_of_getElem? (i := 64) (by decide +kernel)⟩
theorem lw_p1 : lw_okq (⟨"TailoredOrder$Table", "weigh", "()V"⟩, 6) := ⟨⟨by decide +kernel, by decide +kernel⟩, List.mem_of_getElem? (i := 57) (by decide +kernel), List.mem_of_getElem? (i := 67) (by decide +kernel), List.mem_of_getElem? (i := 68) (by decide +kernel)⟩
theorem lw_p2 : lw_okq (⟨"TailoredOrder$Rule", "takes", "(C)Z"⟩, 5) := ⟨⟨by decide +kernel, by decide +kernel⟩, List.mem_of_getElem? (i := 100) (by decide +kernel), List.mem_of_getElem? (i := 248) (by decide +kernel), List.mem_of_getElem? (i := 249) (by decide +kernel)⟩
theorem lw_p3 : lw_okq (⟨"TailoredOrder$Rule", "sign", "(I)Z"⟩, 5) := ⟨⟨by decide +kernel, by decide +kernel⟩, List.mem_of_getElem? (i := 100) (by decide +kernel), List.mem_of_getElem? (i := 252) (by decide +kernel), List.mem_of_getElem? (i := 253) (by decide +kernel)⟩
theorem lw_p4 : lw_okq (⟨"TailoredOrder$Rule", "begin", "(C)Z"⟩, 5) := ⟨⟨by decide +kernel, by decide +kernel⟩, List.mem_of_getElem? (i := 100) (by decide +kernel), List.mem_of_getElem? (i := 257) (by decide +kernel), List.mem_of_getElem? (i := 258) (by decide +kernel)⟩
theorem lw_p5 : lw_okq (⟨"TailoredOrder$Rule", "goOn", "(C)Z"⟩, 5) := ⟨⟨by decide +kernel, by decide +kernel⟩, List.mem_of_getElem? (i := 100) (by decide +kernel), List.mem_of_getElem? (i := 261) (by decide +kernel), List.mem_of_getElem? (i := 262) (by decide +kernel)⟩
theorem lw_p6 : lw_okq (⟨"TailoredOrder$Table", "move", "(III)I"⟩, 6) := ⟨⟨by decide +kernel, by decide +kernel⟩, List.mem_of_getElem? (i := 57) (by decide +kernel), List.mem_of_getElem? (i := 288) (by decide +kernel), List.mem_of_getElem? (i := 289) (by decide +kernel)⟩
theorem lw_p7 : lw_okq (⟨"TailoredOrder$Table", "takeOut", "(I)V"⟩, 6) := ⟨⟨by decide +kernel, by decide +kernel⟩, List.mem_of_getElem? (i := 57) (by decide +kernel), List.mem_of_getElem? (i := 292) (by decide +kernel), List.mem_of_getElem? (i := 293) (by decide +kernel)⟩
theorem lw_p8 : lw_okq (⟨"TailoredOrder$Table", "putIn", "(III)V"⟩, 6) := ⟨⟨by decide +kernel, by decide +kernel⟩, List.mem_of_getElem? (i := 57) (by decide +kernel), List.mem_of_getElem? (i := 299) (by decide +kernel), List.mem_of_getElem? (i := 300) (by decide +kernel)⟩
theorem lw_p9 : lw_okq (⟨"TailoredOrder", "keyOf", "(I)LTailoredOrder$Key;"⟩, 7) := ⟨⟨by decide +kernel, by decide +kernel⟩, List.mem_of_getElem? (i := 12) (by decide +kernel), List.mem_of_getElem? (i := 329) (by decide +kernel), List.mem_of_getElem? (i := 330) (by decide +kernel)⟩
theorem lw_p10 : lw_okq (⟨"TailoredOrder$KeyMaker", "arrange", "(LTailoredOrder$Line;)V"⟩, 10) := ⟨⟨by decide +kernel, by decide +kernel⟩, List.mem_of_getElem? (i := 125) (by decide +kernel), List.mem_of_getElem? (i := 337) (by decide +kernel), List.mem_of_getElem? (i := 338) (by decide +kernel)⟩
theorem lw_p11 : lw_okq (⟨"TailoredOrder$KeyMaker", "findElements", "()V"⟩, 10) := ⟨⟨by decide +kernel, by decide +kernel⟩, List.mem_of_getElem? (i := 125) (by decide +kernel), List.mem_of_getElem? (i := 348) (by decide +kernel), List.mem_of_getElem? (i := 349) (by decide +kernel)⟩
theorem lw_p12 : lw_okq (⟨"TailoredOrder$KeyMaker", "addMark", "(C)V"⟩, 10) := ⟨⟨by decide +kernel, by decide +kernel⟩, List.mem_of_getElem? (i := 125) (by decide +kernel), List.mem_of_getElem? (i := 352) (by decide +kernel), List.mem_of_getElem? (i := 353) (by decide +kernel)⟩
theorem lw_p13 : lw_okq (⟨"TailoredOrder$KeyMaker", "addElement", "(IIII)V"⟩, 10) := ⟨⟨by decide +kernel, by decide +kernel⟩, List.mem_of_getElem? (i := 125) (by decide +kernel), List.mem_of_getElem? (i := 356) (by decide +kernel), List.mem_of_getElem? (i := 357) (by decide +kernel)⟩
theorem lw_p14 : lw_okq (⟨"TailoredOrder$KeyMaker", "takeEntry", "(I)I"⟩, 10) := ⟨⟨by decide +kernel, by decide +kernel⟩, List.mem_of_getElem? (i := 125) (by decide +kernel), List.mem_of_getElem? (i := 360) (by decide +kernel), List.mem_of_getElem? (i := 361) (by decide +kernel)⟩
theorem lw_p15 : lw_okq (⟨"TailoredOrder$KeyMaker", "headAt", "(I)I"⟩, 10) := ⟨⟨by decide +kernel, by decide +kernel⟩, List.mem_of_getElem? (i := 125) (by decide +kernel), List.mem_of_getElem? (i := 364) (by decide +kernel), List.mem_of_getElem? (i := 365) (by decide +kernel)⟩
def lw_privs_1 : List (MethodName × Nat) := [(⟨"TailoredOrder$Table", "insert", "(III)V"⟩, 6), (⟨"TailoredOrder$Table", "weigh", "()V"⟩, 6), (⟨"TailoredOrder$Rule", "takes", "(C)Z"⟩, 5), (⟨"TailoredOrder$Rule", "sign", "(I)Z"⟩, 5), (⟨"TailoredOrder$Rule", "begin", "(C)Z"⟩, 5), (⟨"TailoredOrder$Rule", "goOn", "(C)Z"⟩, 5), (⟨"TailoredOrder$Table", "move", "(III)I"⟩, 6), (⟨"TailoredOrder$Table", "takeOut", "(I)V"⟩, 6), (⟨"TailoredOrder$Table", "putIn", "(III)V"⟩, 6), (⟨"TailoredOrder", "keyOf", "(I)LTailoredOrder$Key;"⟩, 7), (⟨"TailoredOrder$KeyMaker", "arrange", "(LTailoredOrder$Line;)V"⟩, 10), (⟨"TailoredOrder$KeyMaker", "findElements", "()V"⟩, 10), (⟨"TailoredOrder$KeyMaker", "addMark", "(C)V"⟩, 10), (⟨"TailoredOrder$KeyMaker", "addElement", "(IIII)V"⟩, 10), (⟨"TailoredOrder$KeyMaker", "takeEntry", "(I)I"⟩, 10), (⟨"TailoredOrder$KeyMaker", "headAt", "(I)I"⟩, 10)]
theorem lw_r1 : ∀ q ∈ lw_privs_1, lw_okq q := List.forall_mem_cons.mpr ⟨lw_p0, List.forall_mem_cons.mpr ⟨lw_p1, List.forall_mem_cons.mpr ⟨lw_p2, List.forall_mem_cons.mpr ⟨lw_p3, List.forall_mem_cons.mpr ⟨lw_p4, List.forall_mem_cons.mpr ⟨lw_p5, List.forall_mem_cons.mpr ⟨lw_p6, List.forall_mem_cons.mpr ⟨lw_p7, List.forall_mem_cons.mpr ⟨lw_p8, List.forall_mem_cons.mpr ⟨lw_p9, List.forall_mem_cons.mpr ⟨lw_p10, List.forall_mem_cons.mpr ⟨lw_p11, List.forall_mem_cons.mpr ⟨lw_p12, List.forall_mem_cons.mpr ⟨lw_p13, List.forall_mem_cons.mpr ⟨lw_p14, List.forall_mem_cons.mpr ⟨lw_p15, fun _ h => absurd h List.not_mem_nil⟩⟩⟩⟩⟩⟩⟩⟩⟩⟩⟩⟩⟩⟩⟩⟩
theorem lw_p16 : lw_okq (⟨"TailoredOrder$KeyMaker", "isBlocked", "(CI)Z"⟩, 10) := ⟨⟨by decide +kernel, by decide +kernel⟩, List.mem_of_getElem? (i := 125) (by decide +kernel), List.mem_of_getElem? (i := 377) (by decide +kernel), List.mem_of_getElem? (i := 378) (by decide +kernel)⟩
theorem lw_p17 : lw_okq (⟨"TailoredOrder$KeyMaker", "findLonger", "(IC)I"⟩, 10) := ⟨⟨by decide +kernel, by decide +kernel⟩, List.mem_of_getElem? (i := 125) (by decide +kernel), List.mem_of_getElem? (i := 381) (by decide +kernel), List.mem_of_getElem? (i := 382) (by decide +kernel)⟩
theorem lw_p18 : lw_okq (⟨"TailoredOrder$KeyMaker", "addEntry", "(I)V"⟩, 10) := ⟨⟨by decide +kernel, by decide +kernel⟩, List.mem_of_getElem? (i := 125) (by decide +kernel), List.mem_of_getElem? (i := 387) (by decide +kernel), List.mem_of_getElem? (i := 388) (by decide +kernel)⟩
theorem lw_p19 : lw_okq (⟨"TailoredOrder$KeyMaker", "writeLevel", "(ILTailoredOrder$Key;)V"⟩, 10) := ⟨⟨by decide +kernel, by decide +kernel⟩, List.mem_of_getElem? (i := 125) (by decide +kernel), List.mem_of_getElem? (i := 392) (by decide +kernel), List.mem_of_getElem? (i := 393) (by decide +kernel)⟩
theorem lw_p20 : lw_okq (⟨"TailoredOrder$Folder", "closeUp", "(I)V"⟩, 5) := ⟨⟨by decide +kernel, by decide +kernel⟩, List.mem_of_getElem? (i := 164) (by decide +kernel), List.mem_of_getElem? (i := 435) (by decide +kernel), List.mem_of_getElem? (i := 436) (by decide +kernel)⟩
theorem lw_p21 : lw_okq (⟨"TailoredOrder", "makeFolderKeys", "()V"⟩, 7) := ⟨⟨by decide +kernel, by decide +kernel⟩, List.mem_of_getElem? (i := 12) (by decide +kernel), List.mem_of_getElem? (i := 447) (by decide +kernel), List.mem_of_getElem? (i := 448) (by decide +kernel)⟩
theorem lw_p22 : lw_okq (⟨"TailoredOrder$Folder", "placeOf", "(I)I"⟩, 5) := ⟨⟨by decide +kernel, by decide +kernel⟩, List.mem_of_getElem? (i := 164) (by decide +kernel), List.mem_of_getElem? (i := 455) (by decide +kernel), List.mem_of_getElem? (i := 456) (by decide +kernel)⟩
theorem lw_p23 : lw_okq (⟨"TailoredOrderModel", "isLine", "(I)Z"⟩, 23) := ⟨⟨by decide +kernel, by decide +kernel⟩, List.mem_of_getElem? (i := 469) (by decide +kernel), List.mem_of_getElem? (i := 555) (by decide +kernel), List.mem_of_getElem? (i := 556) (by decide +kernel)⟩
theorem lw_p24 : lw_okq (⟨"TailoredOrderModel", "fault", "()I"⟩, 23) := ⟨⟨by decide +kernel, by decide +kernel⟩, List.mem_of_getElem? (i := 469) (by decide +kernel), List.mem_of_getElem? (i := 567) (by decide +kernel), List.mem_of_getElem? (i := 568) (by decide +kernel)⟩
theorem lw_p25 : lw_okq (⟨"TailoredOrderModel", "done", "()I"⟩, 23) := ⟨⟨by decide +kernel, by decide +kernel⟩, List.mem_of_getElem? (i := 469) (by decide +kernel), List.mem_of_getElem? (i := 574) (by decide +kernel), List.mem_of_getElem? (i := 575) (by decide +kernel)⟩
theorem lw_p26 : lw_okq (⟨"TailoredOrderModel", "findNew", "(I)I"⟩, 23) := ⟨⟨by decide +kernel, by decide +kernel⟩, List.mem_of_getElem? (i := 469) (by decide +kernel), List.mem_of_getElem? (i := 578) (by decide +kernel), List.mem_of_getElem? (i := 579) (by decide +kernel)⟩
theorem lw_p27 : lw_okq (⟨"TailoredOrderModel", "relate", "(III)I"⟩, 23) := ⟨⟨by decide +kernel, by decide +kernel⟩, List.mem_of_getElem? (i := 469) (by decide +kernel), List.mem_of_getElem? (i := 582) (by decide +kernel), List.mem_of_getElem? (i := 583) (by decide +kernel)⟩
theorem lw_p28 : lw_okq (⟨"TailoredOrderModel", "takeOut", "(I)V"⟩, 23) := ⟨⟨by decide +kernel, by decide +kernel⟩, List.mem_of_getElem? (i := 469) (by decide +kernel), List.mem_of_getElem? (i := 586) (by decide +kernel), List.mem_of_getElem? (i := 587) (by decide +kernel)⟩
theorem lw_p29 : lw_okq (⟨"TailoredOrderModel", "putIn", "(III)V"⟩, 23) := ⟨⟨by decide +kernel, by decide +kernel⟩, List.mem_of_getElem? (i := 469) (by decide +kernel), List.mem_of_getElem? (i := 590) (by decide +kernel), List.mem_of_getElem? (i := 591) (by decide +kernel)⟩
theorem lw_p30 : lw_okq (⟨"TailoredOrderModel", "weight", "(II)I"⟩, 23) := ⟨⟨by decide +kernel, by decide +kernel⟩, List.mem_of_getElem? (i := 469) (by decide +kernel), List.mem_of_getElem? (i := 602) (by decide +kernel), List.mem_of_getElem? (i := 603) (by decide +kernel)⟩
theorem lw_p31 : lw_okq (⟨"TailoredOrderModel", "write", "(I)V"⟩, 23) := ⟨⟨by decide +kernel, by decide +kernel⟩, List.mem_of_getElem? (i := 469) (by decide +kernel), List.mem_of_getElem? (i := 614) (by decide +kernel), List.mem_of_getElem? (i := 615) (by decide +kernel)⟩
def lw_privs_2 : List (MethodName × Nat) := [(⟨"TailoredOrder$KeyMaker", "isBlocked", "(CI)Z"⟩, 10), (⟨"TailoredOrder$KeyMaker", "findLonger", "(IC)I"⟩, 10), (⟨"TailoredOrder$KeyMaker", "addEntry", "(I)V"⟩, 10), (⟨"TailoredOrder$KeyMaker", "writeLevel", "(ILTailoredOrder$Key;)V"⟩, 10), (⟨"TailoredOrder$Folder", "closeUp", "(I)V"⟩, 5), (⟨"TailoredOrder", "makeFolderKeys", "()V"⟩, 7), (⟨"TailoredOrder$Folder", "placeOf", "(I)I"⟩, 5), (⟨"TailoredOrderModel", "isLine", "(I)Z"⟩, 23), (⟨"TailoredOrderModel", "fault", "()I"⟩, 23), (⟨"TailoredOrderModel", "done", "()I"⟩, 23), (⟨"TailoredOrderModel", "findNew", "(I)I"⟩, 23), (⟨"TailoredOrderModel", "relate", "(III)I"⟩, 23), (⟨"TailoredOrderModel", "takeOut", "(I)V"⟩, 23), (⟨"TailoredOrderModel", "putIn", "(III)V"⟩, 23), (⟨"TailoredOrderModel", "weight", "(II)I"⟩, 23), (⟨"TailoredOrderModel", "write", "(I)V"⟩, 23)]
theorem lw_r2 : ∀ q ∈ lw_privs_2, lw_okq q := List.forall_mem_cons.mpr ⟨lw_p16, List.forall_mem_cons.mpr ⟨lw_p17, List.forall_mem_cons.mpr ⟨lw_p18, List.forall_mem_cons.mpr ⟨lw_p19, List.forall_mem_cons.mpr ⟨lw_p20, List.forall_mem_cons.mpr ⟨lw_p21, List.forall_mem_cons.mpr ⟨lw_p22, List.forall_mem_cons.mpr ⟨lw_p23, List.forall_mem_cons.mpr ⟨lw_p24, List.forall_mem_cons.mpr ⟨lw_p25, List.forall_mem_cons.mpr ⟨lw_p26, List.forall_mem_cons.mpr ⟨lw_p27, List.forall_mem_cons.mpr ⟨lw_p28, List.forall_mem_cons.mpr ⟨lw_p29, List.forall_mem_cons.mpr ⟨lw_p30, List.forall_mem_cons.mpr ⟨lw_p31, fun _ h => absurd h List.not_mem_nil⟩⟩⟩⟩⟩⟩⟩⟩⟩⟩⟩⟩⟩⟩⟩⟩
theorem lw_p32 : lw_okq (⟨"TailoredOrderModel", "findElements", "(I)V"⟩, 23) := ⟨⟨by decide +kernel, by decide +kernel⟩, List.mem_of_getElem? (i := 469) (by decide +kernel), List.mem_of_getElem? (i := 618) (by decide +kernel), List.mem_of_getElem? (i := 619) (by decide +kernel)⟩
theorem lw_p33 : lw_okq (⟨"TailoredOrderModel", "settle", "()V"⟩, 23) := ⟨⟨by decide +kernel, by decide +kernel⟩, List.mem_of_getElem? (i := 469) (by decide +kernel), List.mem_of_getElem? (i := 622) (by decide +kernel), List.mem_of_getElem? (i := 623) (by decide +kernel)⟩
theorem lw_p34 : lw_okq (⟨"TailoredOrderModel", "markElement", "(I)V"⟩, 23) := ⟨⟨by decide +kernel, by decide +kernel⟩, List.mem_of_getElem? (i := 469) (by decide +kernel), List.mem_of_getElem? (i := 629) (by decide +kernel), List.mem_of_getElem? (i := 630) (by decide +kernel)⟩
theorem lw_p35 : lw_okq (⟨"TailoredOrderModel", "element", "(IIII)V"⟩, 23) := ⟨⟨by decide +kernel, by decide +kernel⟩, List.mem_of_getElem? (i := 469) (by decide +kernel), List.mem_of_getElem? (i := 633) (by decide +kernel), List.mem_of_getElem? (i := 634) (by decide +kernel)⟩
theorem lw_p36 : lw_okq (⟨"TailoredOrderModel", "remove", "(I)V"⟩, 23) := ⟨⟨by decide +kernel, by decide +kernel⟩, List.mem_of_getElem? (i := 469) (by decide +kernel), List.mem_of_getElem? (i := 637) (by decide +kernel), List.mem_of_getElem? (i := 638) (by decide +kernel)⟩
theorem lw_p37 : lw_okq (⟨"TailoredOrderModel", "entryElement", "()V"⟩, 23) := ⟨⟨by decide +kernel, by decide +kernel⟩, List.mem_of_getElem? (i := 469) (by decide +kernel), List.mem_of_getElem? (i := 641) (by decide +kernel), List.mem_of_getElem? (i := 642) (by decide +kernel)⟩
theorem lw_p38 : lw_okq (⟨"TailoredOrderModel", "begins", "(I)I"⟩, 23) := ⟨⟨by decide +kernel, by decide +kernel⟩, List.mem_of_getElem? (i := 469) (by decide +kernel), List.mem_of_getElem? (i := 645) (by decide +kernel), List.mem_of_getElem? (i := 646) (by decide +kernel)⟩
theorem lw_p39 : lw_okq (⟨"TailoredOrderModel", "find", "(I)I"⟩, 23) := ⟨⟨by decide +kernel, by decide +kernel⟩, List.mem_of_getElem? (i := 469) (by decide +kernel), List.mem_of_getElem? (i := 649) (by decide +kernel), List.mem_of_getElem? (i := 650) (by decide +kernel)⟩
theorem lw_p40 : lw_okq (⟨"TailoredOrderModel", "order", "(II)I"⟩, 23) := ⟨⟨by decide +kernel, by decide +kernel⟩, List.mem_of_getElem? (i := 469) (by decide +kernel), List.mem_of_getElem? (i := 661) (by decide +kernel), List.mem_of_getElem? (i := 662) (by decide +kernel)⟩
def lw_privs_3 : List (MethodName × Nat) := [(⟨"TailoredOrderModel", "findElements", "(I)V"⟩, 23), (⟨"TailoredOrderModel", "settle", "()V"⟩, 23), (⟨"TailoredOrderModel", "markElement", "(I)V"⟩, 23), (⟨"TailoredOrderModel", "element", "(IIII)V"⟩, 23), (⟨"TailoredOrderModel", "remove", "(I)V"⟩, 23), (⟨"TailoredOrderModel", "entryElement", "()V"⟩, 23), (⟨"TailoredOrderModel", "begins", "(I)I"⟩, 23), (⟨"TailoredOrderModel", "find", "(I)I"⟩, 23), (⟨"TailoredOrderModel", "order", "(II)I"⟩, 23)]
theorem lw_r3 : ∀ q ∈ lw_privs_3, lw_okq q := List.forall_mem_cons.mpr ⟨lw_p32, List.forall_mem_cons.mpr ⟨lw_p33, List.forall_mem_cons.mpr ⟨lw_p34, List.forall_mem_cons.mpr ⟨lw_p35, List.forall_mem_cons.mpr ⟨lw_p36, List.forall_mem_cons.mpr ⟨lw_p37, List.forall_mem_cons.mpr ⟨lw_p38, List.forall_mem_cons.mpr ⟨lw_p39, List.forall_mem_cons.mpr ⟨lw_p40, fun _ h => absurd h List.not_mem_nil⟩⟩⟩⟩⟩⟩⟩⟩⟩
def lw_privs : List (MethodName × Nat) := lw_privs_1 ++ (lw_privs_2 ++ (lw_privs_3))
def lw_tbl : List Cond := k2_sels lw_privs ++ tables_1
theorem lw_privs_ok : ∀ q ∈ lw_privs, lw_okq q := by
  show ∀ q ∈ lw_privs_1 ++ (lw_privs_2 ++ (lw_privs_3)), lw_okq q
  exact List.forall_mem_append.mpr ⟨lw_r1, List.forall_mem_append.mpr ⟨lw_r2, lw_r3⟩⟩
end
section
/-! NAMES: classes, fields, methods (by program out of the listing and the tables of words) -/
def RX0 : String := "TailoredOrder$Folder"
def TX0 : u_T := fun k => match k with
  | 0 => ("TailoredOrder$Folder", "texts", "[LTailoredOrder$Line;", true)
  | 1 => ("TailoredOrder$Folder", "numbers", "[I", true)
  | 2 => ("TailoredOrder$Folder", "keys", "[LTailoredOrder$Key;", true)
  | 3 => ("TailoredOrder$Folder", "count", "I", false)
  | _ => ("TailoredOrder$Folder", "next", "I", false)
def RX1 : String := "TailoredOrder$Key"
def TX1 : u_T := fun k => match k with
  | 0 => ("TailoredOrder$Key", "numbers", "[I", true)
  | _ => ("TailoredOrder$Key", "length", "I", false)
def RX2 : String := "TailoredOrder$KeyMaker"
def TX2 : u_T := fun k => match k with
  | 0 => ("TailoredOrder$KeyMaker", "table", "LTailoredOrder$Table;", true)
  | 1 => ("TailoredOrder$KeyMaker", "text", "[C", true)
  | 2 => ("TailoredOrder$KeyMaker", "passed", "[C", true)
  | 3 => ("TailoredOrder$KeyMaker", "weights", "[[I", true)
  | 4 => ("TailoredOrder$KeyMaker", "length", "I", false)
  | 5 => ("TailoredOrder$KeyMaker", "elements", "I", false)
  | 6 => ("TailoredOrder$KeyMaker", "behindVariable", "Z", false)
  | 7 => ("TailoredOrder$KeyMaker", "strength", "I", false)
  | 8 => ("TailoredOrder$KeyMaker", "shifted", "Z", false)
  | _ => ("TailoredOrder$KeyMaker", "backward", "Z", false)
def RX3 : String := "TailoredOrder$Line"
def TX3 : u_T := fun k => match k with
  | 0 => ("TailoredOrder$Line", "chars", "[C", true)
  | _ => ("TailoredOrder$Line", "length", "I", false)
def RX4 : String := "TailoredOrder$Rule"
def TX4 : u_T := fun k => match k with
  | 0 => ("TailoredOrder$Rule", "strings", "[I", true)
  | 1 => ("TailoredOrder$Rule", "steps", "[I", true)
  | 2 => ("TailoredOrder$Rule", "count", "I", false)
  | 3 => ("TailoredOrder$Rule", "state", "I", false)
  | _ => ("TailoredOrder$Rule", "step", "I", false)
def RX5 : String := "TailoredOrder$Table"
def TX5 : u_T := fun k => match k with
  | 0 => ("TailoredOrder$Table", "strings", "[I", true)
  | 1 => ("TailoredOrder$Table", "steps", "[I", true)
  | 2 => ("TailoredOrder$Table", "primaries", "[I", true)
  | 3 => ("TailoredOrder$Table", "secondaries", "[I", true)
  | 4 => ("TailoredOrder$Table", "tertiaries", "[I", true)
  | _ => ("TailoredOrder$Table", "count", "I", false)
def RX6 : String := "TailoredOrder"
def TX6 : u_T := fun k => match k with
  | 0 => ("TailoredOrder", "lines", "[LTailoredOrder$Line;", true)
  | 1 => ("TailoredOrder", "lineKeys", "[LTailoredOrder$Key;", true)
  | 2 => ("TailoredOrder", "table", "LTailoredOrder$Table;", true)
  | 3 => ("TailoredOrder", "trial", "LTailoredOrder$Table;", true)
  | 4 => ("TailoredOrder", "rule", "LTailoredOrder$Rule;", true)
  | 5 => ("TailoredOrder", "maker", "LTailoredOrder$KeyMaker;", true)
  | _ => ("TailoredOrder", "folder", "LTailoredOrder$Folder;", true)
def RX7 : String := "TailoredOrderModel"
def TX7 : u_T := fun k => match k with
  | 0 => ("TailoredOrderModel", "count", "I", false)
  | 1 => ("TailoredOrderModel", "strings", "[I", true)
  | 2 => ("TailoredOrderModel", "steps", "[I", true)
  | 3 => ("TailoredOrderModel", "newCount", "I", false)
  | 4 => ("TailoredOrderModel", "newStrings", "[I", true)
  | 5 => ("TailoredOrderModel", "newSteps", "[I", true)
  | 6 => ("TailoredOrderModel", "rule", "[I", true)
  | 7 => ("TailoredOrderModel", "ruled", "I", false)
  | 8 => ("TailoredOrderModel", "texts", "[I", true)
  | 9 => ("TailoredOrderModel", "lengths", "[I", true)
  | 10 => ("TailoredOrderModel", "numbers", "[I", true)
  | 11 => ("TailoredOrderModel", "filed", "I", false)
  | 12 => ("TailoredOrderModel", "given", "I", false)
  | 13 => ("TailoredOrderModel", "strength", "I", false)
  | 14 => ("TailoredOrderModel", "shifted", "Z", false)
  | 15 => ("TailoredOrderModel", "backward", "Z", false)
  | 16 => ("TailoredOrderModel", "rest", "[I", true)
  | 17 => ("TailoredOrderModel", "left", "I", false)
  | 18 => ("TailoredOrderModel", "weights", "[I", true)
  | 19 => ("TailoredOrderModel", "elements", "I", false)
  | 20 => ("TailoredOrderModel", "variable", "Z", false)
  | 21 => ("TailoredOrderModel", "keys", "[I", true)
  | _ => ("TailoredOrderModel", "keyLengths", "[I", true)
abbrev vwCl : List vw_C := [(RX0, TX0, 5), (RX1, TX1, 2), (RX2, TX2, 10), (RX3, TX3, 2), (RX4, TX4, 5), (RX5, TX5, 6), (RX6, TX6, 7), (RX7, TX7, 23)]
def mx_ty : List FieldType := [.int, .char, .object RX3, .object RX1, .array .int]
def mx_KL : Nat := 35
def mx_ao : List String := [RX3, RX1]
def mx_good (w : Cond) : Bool := (w.onTables && w.keeps) || (match w with | .arrayClass _ => true | _ => false)
def mx_gw : List Cond := lw_tbl.filter mx_good
def mx_isn (w : Cond) : Bool := match w with | .fieldLinkNest .. => true | .methodLinkNest .. => true | _ => false
def mx_nw : List Cond := lw_tbl.filter mx_isn
theorem mx_in (i : Nat) {w : Cond} (h : lw_tbl[i]? = some w) (hg : mx_good w = true) : w ∈ mx_gw := List.mem_filter.mpr ⟨List.mem_of_getElem? h, hg⟩
theorem mx_inn (i : Nat) {w : Cond} (h : lw_tbl[i]? = some w) (hg : mx_isn w = true) : w ∈ mx_nw := List.mem_filter.mpr ⟨List.mem_of_getElem? h, hg⟩
def mx_NW (U : State) : Prop := (∀ w ∈ mx_nw, va_Nw w U) ∧ (∀ C ∈ mx_ao, va_AO C U)
abbrev mx_M : Type := MethodName × ByteArray × Nat × Option FieldType
def y_To_init : MethodName := ⟨"TailoredOrder", "<init>", "()V"⟩
abbrev m_To_init : mx_M := (y_To_init, prog_1_method_1_code, 2, none)
def y_To_type : MethodName := ⟨"TailoredOrder", "type", "(IC)Z"⟩
abbrev m_To_type : mx_M := (y_To_type, prog_1_method_2_code, 4, some .boolean)
def y_To_wipe : MethodName := ⟨"TailoredOrder", "wipe", "(I)I"⟩
abbrev m_To_wipe : mx_M := (y_To_wipe, prog_1_method_3_code, 2, some .int)
def y_To_tailor : MethodName := ⟨"TailoredOrder", "tailor", "()I"⟩
abbrev m_To_tailor : mx_M := (y_To_tailor, prog_1_method_4_code, 3, some .int)
def y_To_entries : MethodName := ⟨"TailoredOrder", "entries", "()I"⟩
abbrev m_To_entries : mx_M := (y_To_entries, prog_1_method_5_code, 1, some .int)
def y_To_entry : MethodName := ⟨"TailoredOrder", "entry", "(II)I"⟩
abbrev m_To_entry : mx_M := (y_To_entry, prog_1_method_6_code, 4, some .int)
def y_To_form : MethodName := ⟨"TailoredOrder", "form", "(IZZ)Z"⟩
abbrev m_To_form : mx_M := (y_To_form, prog_1_method_7_code, 4, some .boolean)
def y_To_keyLength : MethodName := ⟨"TailoredOrder", "keyLength", "(I)I"⟩
abbrev m_To_keyLength : mx_M := (y_To_keyLength, prog_1_method_8_code, 2, some .int)
def y_To_keyAt : MethodName := ⟨"TailoredOrder", "keyAt", "(II)I"⟩
abbrev m_To_keyAt : mx_M := (y_To_keyAt, prog_1_method_9_code, 4, some .int)
def y_To_compare : MethodName := ⟨"TailoredOrder", "compare", "()I"⟩
abbrev m_To_compare : mx_M := (y_To_compare, prog_1_method_10_code, 1, some .int)
def y_To_file : MethodName := ⟨"TailoredOrder", "file", "(I)I"⟩
abbrev m_To_file : mx_M := (y_To_file, prog_1_method_11_code, 2, some .int)
def y_To_unfile : MethodName := ⟨"TailoredOrder", "unfile", "(I)Z"⟩
abbrev m_To_unfile : mx_M := (y_To_unfile, prog_1_method_12_code, 2, some .boolean)
def y_To_filed : MethodName := ⟨"TailoredOrder", "filed", "()I"⟩
abbrev m_To_filed : mx_M := (y_To_filed, prog_1_method_13_code, 1, some .int)
def y_To_inOrder : MethodName := ⟨"TailoredOrder", "inOrder", "(I)I"⟩
abbrev m_To_inOrder : mx_M := (y_To_inOrder, prog_1_method_14_code, 2, some .int)
def y_To_below : MethodName := ⟨"TailoredOrder", "below", "(I)I"⟩
abbrev m_To_below : mx_M := (y_To_below, prog_1_method_15_code, 2, some .int)
def y_To_isTextLine : MethodName := ⟨"TailoredOrder", "isTextLine", "(I)Z"⟩
abbrev m_To_isTextLine : mx_M := (y_To_isTextLine, prog_1_method_16_code, 1, some .boolean)
def y_To_keyOf : MethodName := ⟨"TailoredOrder", "keyOf", "(I)LTailoredOrder$Key;"⟩
abbrev m_To_keyOf : mx_M := (y_To_keyOf, prog_1_method_17_code, 2, some (.object "TailoredOrder$Key"))
def y_To_makeFolderKeys : MethodName := ⟨"TailoredOrder", "makeFolderKeys", "()V"⟩
abbrev m_To_makeFolderKeys : mx_M := (y_To_makeFolderKeys, prog_1_method_18_code, 2, none)
def y_To_isLetter : MethodName := ⟨"TailoredOrder", "isLetter", "(I)Z"⟩
abbrev m_To_isLetter : mx_M := (y_To_isLetter, prog_1_method_19_code, 1, some .boolean)
def y_To_isVariable : MethodName := ⟨"TailoredOrder", "isVariable", "(I)Z"⟩
abbrev m_To_isVariable : mx_M := (y_To_isVariable, prog_1_method_20_code, 1, some .boolean)
def y_To_isMark : MethodName := ⟨"TailoredOrder", "isMark", "(I)Z"⟩
abbrev m_To_isMark : mx_M := (y_To_isMark, prog_1_method_21_code, 1, some .boolean)
def y_To_classOf : MethodName := ⟨"TailoredOrder", "classOf", "(I)I"⟩
abbrev m_To_classOf : mx_M := (y_To_classOf, prog_1_method_22_code, 1, some .int)
def y_To_characterOf : MethodName := ⟨"TailoredOrder", "characterOf", "(II)I"⟩
abbrev m_To_characterOf : mx_M := (y_To_characterOf, prog_1_method_23_code, 2, some .int)
def y_To_lengthOf : MethodName := ⟨"TailoredOrder", "lengthOf", "(I)I"⟩
abbrev m_To_lengthOf : mx_M := (y_To_lengthOf, prog_1_method_24_code, 1, some .int)
def y_To_joined : MethodName := ⟨"TailoredOrder", "joined", "(III)I"⟩
abbrev m_To_joined : mx_M := (y_To_joined, prog_1_method_25_code, 3, some .int)
def y_To_firstOf : MethodName := ⟨"TailoredOrder", "firstOf", "(II)I"⟩
abbrev m_To_firstOf : mx_M := (y_To_firstOf, prog_1_method_26_code, 2, some .int)
def y_Mo_init : MethodName := ⟨"TailoredOrderModel", "<init>", "()V"⟩
abbrev m_Mo_init : mx_M := (y_Mo_init, prog_9_method_1_code, 2, none)
def y_Mo_isLetter : MethodName := ⟨"TailoredOrderModel", "isLetter", "(I)Z"⟩
abbrev m_Mo_isLetter : mx_M := (y_Mo_isLetter, prog_9_method_2_code, 1, some .boolean)
def y_Mo_isMark : MethodName := ⟨"TailoredOrderModel", "isMark", "(I)Z"⟩
abbrev m_Mo_isMark : mx_M := (y_Mo_isMark, prog_9_method_3_code, 1, some .boolean)
def y_Mo_classOf : MethodName := ⟨"TailoredOrderModel", "classOf", "(I)I"⟩
abbrev m_Mo_classOf : mx_M := (y_Mo_classOf, prog_9_method_4_code, 1, some .int)
def y_Mo_isLine : MethodName := ⟨"TailoredOrderModel", "isLine", "(I)Z"⟩
abbrev m_Mo_isLine : mx_M := (y_Mo_isLine, prog_9_method_5_code, 2, some .boolean)
def y_Mo_type : MethodName := ⟨"TailoredOrderModel", "type", "(IC)Z"⟩
abbrev m_Mo_type : mx_M := (y_Mo_type, prog_9_method_6_code, 4, some .boolean)
def y_Mo_wipe : MethodName := ⟨"TailoredOrderModel", "wipe", "(I)I"⟩
abbrev m_Mo_wipe : mx_M := (y_Mo_wipe, prog_9_method_7_code, 3, some .int)
def y_Mo_after : MethodName := ⟨"TailoredOrderModel", "after", "(II)I"⟩
abbrev m_Mo_after : mx_M := (y_Mo_after, prog_9_method_8_code, 4, some .int)
def y_Mo_fault : MethodName := ⟨"TailoredOrderModel", "fault", "()I"⟩
abbrev m_Mo_fault : mx_M := (y_Mo_fault, prog_9_method_9_code, 3, some .int)
def y_Mo_findNew : MethodName := ⟨"TailoredOrderModel", "findNew", "(I)I"⟩
abbrev m_Mo_findNew : mx_M := (y_Mo_findNew, prog_9_method_10_code, 3, some .int)
def y_Mo_takeOut : MethodName := ⟨"TailoredOrderModel", "takeOut", "(I)V"⟩
abbrev m_Mo_takeOut : mx_M := (y_Mo_takeOut, prog_9_method_11_code, 3, none)
def y_Mo_putIn : MethodName := ⟨"TailoredOrderModel", "putIn", "(III)V"⟩
abbrev m_Mo_putIn : mx_M := (y_Mo_putIn, prog_9_method_12_code, 6, none)
def y_Mo_relate : MethodName := ⟨"TailoredOrderModel", "relate", "(III)I"⟩
abbrev m_Mo_relate : mx_M := (y_Mo_relate, prog_9_method_13_code, 6, some .int)
def y_Mo_done : MethodName := ⟨"TailoredOrderModel", "done", "()I"⟩
abbrev m_Mo_done : mx_M := (y_Mo_done, prog_9_method_14_code, 7, some .int)
def y_Mo_tailor : MethodName := ⟨"TailoredOrderModel", "tailor", "()I"⟩
abbrev m_Mo_tailor : mx_M := (y_Mo_tailor, prog_9_method_15_code, 3, some .int)
def y_Mo_entries : MethodName := ⟨"TailoredOrderModel", "entries", "()I"⟩
abbrev m_Mo_entries : mx_M := (y_Mo_entries, prog_9_method_16_code, 1, some .int)
def y_Mo_find : MethodName := ⟨"TailoredOrderModel", "find", "(I)I"⟩
abbrev m_Mo_find : mx_M := (y_Mo_find, prog_9_method_17_code, 3, some .int)
def y_Mo_weight : MethodName := ⟨"TailoredOrderModel", "weight", "(II)I"⟩
abbrev m_Mo_weight : mx_M := (y_Mo_weight, prog_9_method_18_code, 5, some .int)
def y_Mo_entry : MethodName := ⟨"TailoredOrderModel", "entry", "(II)I"⟩
abbrev m_Mo_entry : mx_M := (y_Mo_entry, prog_9_method_19_code, 4, some .int)
def y_Mo_settle : MethodName := ⟨"TailoredOrderModel", "settle", "()V"⟩
abbrev m_Mo_settle : mx_M := (y_Mo_settle, prog_9_method_20_code, 5, none)
def y_Mo_remove : MethodName := ⟨"TailoredOrderModel", "remove", "(I)V"⟩
abbrev m_Mo_remove : mx_M := (y_Mo_remove, prog_9_method_21_code, 3, none)
def y_Mo_element : MethodName := ⟨"TailoredOrderModel", "element", "(IIII)V"⟩
abbrev m_Mo_element : mx_M := (y_Mo_element, prog_9_method_22_code, 5, none)
def y_Mo_markElement : MethodName := ⟨"TailoredOrderModel", "markElement", "(I)V"⟩
abbrev m_Mo_markElement : mx_M := (y_Mo_markElement, prog_9_method_23_code, 2, none)
def y_Mo_begins : MethodName := ⟨"TailoredOrderModel", "begins", "(I)I"⟩
abbrev m_Mo_begins : mx_M := (y_Mo_begins, prog_9_method_24_code, 4, some .int)
def y_Mo_entryElement : MethodName := ⟨"TailoredOrderModel", "entryElement", "()V"⟩
abbrev m_Mo_entryElement : mx_M := (y_Mo_entryElement, prog_9_method_25_code, 9, none)
def y_Mo_findElements : MethodName := ⟨"TailoredOrderModel", "findElements", "(I)V"⟩
abbrev m_Mo_findElements : mx_M := (y_Mo_findElements, prog_9_method_26_code, 3, none)
def y_Mo_write : MethodName := ⟨"TailoredOrderModel", "write", "(I)V"⟩
abbrev m_Mo_write : mx_M := (y_Mo_write, prog_9_method_27_code, 7, none)
def y_Mo_order : MethodName := ⟨"TailoredOrderModel", "order", "(II)I"⟩
abbrev m_Mo_order : mx_M := (y_Mo_order, prog_9_method_28_code, 6, some .int)
def y_Mo_form : MethodName := ⟨"TailoredOrderModel", "form", "(IZZ)Z"⟩
abbrev m_Mo_form : mx_M := (y_Mo_form, prog_9_method_29_code, 4, some .boolean)
def y_Mo_keyLength : MethodName := ⟨"TailoredOrderModel", "keyLength", "(I)I"⟩
abbrev m_Mo_keyLength : mx_M := (y_Mo_keyLength, prog_9_method_30_code, 2, some .int)
def y_Mo_keyAt : MethodName := ⟨"TailoredOrderModel", "keyAt", "(II)I"⟩
abbrev m_Mo_keyAt : mx_M := (y_Mo_keyAt, prog_9_method_31_code, 3, some .int)
def y_Mo_compare : MethodName := ⟨"TailoredOrderModel", "compare", "()I"⟩
abbrev m_Mo_compare : mx_M := (y_Mo_compare, prog_9_method_32_code, 1, some .int)
def y_Mo_file : MethodName := ⟨"TailoredOrderModel", "file", "(I)I"⟩
abbrev m_Mo_file : mx_M := (y_Mo_file, prog_9_method_33_code, 4, some .int)
def y_Mo_unfile : MethodName := ⟨"TailoredOrderModel", "unfile", "(I)Z"⟩
abbrev m_Mo_unfile : mx_M := (y_Mo_unfile, prog_9_method_34_code, 5, some .boolean)
def y_Mo_filed : MethodName := ⟨"TailoredOrderModel", "filed", "()I"⟩
abbrev m_Mo_filed : mx_M := (y_Mo_filed, prog_9_method_35_code, 1, some .int)
def y_Mo_inOrder : MethodName := ⟨"TailoredOrderModel", "inOrder", "(I)I"⟩
abbrev m_Mo_inOrder : mx_M := (y_Mo_inOrder, prog_9_method_36_code, 7, some .int)
def y_Mo_below : MethodName := ⟨"TailoredOrderModel", "below", "(I)I"⟩
abbrev m_Mo_below : mx_M := (y_Mo_below, prog_9_method_37_code, 4, some .int)
def y_Fo_init : MethodName := ⟨"TailoredOrder$Folder", "<init>", "()V"⟩
abbrev m_Fo_init : mx_M := (y_Fo_init, prog_2_method_1_code, 2, none)
def y_Fo_add : MethodName := ⟨"TailoredOrder$Folder", "add", "(LTailoredOrder$Line;)I"⟩
abbrev m_Fo_add : mx_M := (y_Fo_add, prog_2_method_2_code, 3, some .int)
def y_Fo_remove : MethodName := ⟨"TailoredOrder$Folder", "remove", "(I)Z"⟩
abbrev m_Fo_remove : mx_M := (y_Fo_remove, prog_2_method_3_code, 3, some .boolean)
def y_Fo_closeUp : MethodName := ⟨"TailoredOrder$Folder", "closeUp", "(I)V"⟩
abbrev m_Fo_closeUp : mx_M := (y_Fo_closeUp, prog_2_method_4_code, 3, none)
def y_Fo_numberAt : MethodName := ⟨"TailoredOrder$Folder", "numberAt", "(I)I"⟩
abbrev m_Fo_numberAt : mx_M := (y_Fo_numberAt, prog_2_method_5_code, 3, some .int)
def y_Fo_placeOf : MethodName := ⟨"TailoredOrder$Folder", "placeOf", "(I)I"⟩
abbrev m_Fo_placeOf : mx_M := (y_Fo_placeOf, prog_2_method_6_code, 4, some .int)
def y_Fo_countLess : MethodName := ⟨"TailoredOrder$Folder", "countLess", "(LTailoredOrder$Key;)I"⟩
abbrev m_Fo_countLess : mx_M := (y_Fo_countLess, prog_2_method_7_code, 4, some .int)
def y_Ke_init : MethodName := ⟨"TailoredOrder$Key", "<init>", "()V"⟩
abbrev m_Ke_init : mx_M := (y_Ke_init, prog_3_method_1_code, 1, none)
def y_Ke_add : MethodName := ⟨"TailoredOrder$Key", "add", "(I)V"⟩
abbrev m_Ke_add : mx_M := (y_Ke_add, prog_3_method_2_code, 2, none)
def y_Ke_against : MethodName := ⟨"TailoredOrder$Key", "against", "(LTailoredOrder$Key;)I"⟩
abbrev m_Ke_against : mx_M := (y_Ke_against, prog_3_method_3_code, 4, some .int)
def y_Km_init : MethodName := ⟨"TailoredOrder$KeyMaker", "<init>", "(LTailoredOrder$Table;)V"⟩
abbrev m_Km_init : mx_M := (y_Km_init, prog_4_method_1_code, 2, none)
def y_Km_shape : MethodName := ⟨"TailoredOrder$KeyMaker", "shape", "(IZZ)V"⟩
abbrev m_Km_shape : mx_M := (y_Km_shape, prog_4_method_2_code, 4, none)
def y_Km_make : MethodName := ⟨"TailoredOrder$KeyMaker", "make", "(LTailoredOrder$Line;LTailoredOrder$Key;)V"⟩
abbrev m_Km_make : mx_M := (y_Km_make, prog_4_method_3_code, 4, none)
def y_Km_arrange : MethodName := ⟨"TailoredOrder$KeyMaker", "arrange", "(LTailoredOrder$Line;)V"⟩
abbrev m_Km_arrange : mx_M := (y_Km_arrange, prog_4_method_4_code, 4, none)
def y_Km_mustPass : MethodName := ⟨"TailoredOrder$KeyMaker", "mustPass", "(CC)Z"⟩
abbrev m_Km_mustPass : mx_M := (y_Km_mustPass, prog_4_method_5_code, 2, some .boolean)
def y_Km_findElements : MethodName := ⟨"TailoredOrder$KeyMaker", "findElements", "()V"⟩
abbrev m_Km_findElements : mx_M := (y_Km_findElements, prog_4_method_6_code, 3, none)
def y_Km_takeEntry : MethodName := ⟨"TailoredOrder$KeyMaker", "takeEntry", "(I)I"⟩
abbrev m_Km_takeEntry : mx_M := (y_Km_takeEntry, prog_4_method_7_code, 6, some .int)
def y_Km_headAt : MethodName := ⟨"TailoredOrder$KeyMaker", "headAt", "(I)I"⟩
abbrev m_Km_headAt : mx_M := (y_Km_headAt, prog_4_method_8_code, 4, some .int)
def y_Km_isBlocked : MethodName := ⟨"TailoredOrder$KeyMaker", "isBlocked", "(CI)Z"⟩
abbrev m_Km_isBlocked : mx_M := (y_Km_isBlocked, prog_4_method_9_code, 4, some .boolean)
def y_Km_findLonger : MethodName := ⟨"TailoredOrder$KeyMaker", "findLonger", "(IC)I"⟩
abbrev m_Km_findLonger : mx_M := (y_Km_findLonger, prog_4_method_10_code, 5, some .int)
def y_Km_addEntry : MethodName := ⟨"TailoredOrder$KeyMaker", "addEntry", "(I)V"⟩
abbrev m_Km_addEntry : mx_M := (y_Km_addEntry, prog_4_method_11_code, 2, none)
def y_Km_addMark : MethodName := ⟨"TailoredOrder$KeyMaker", "addMark", "(C)V"⟩
abbrev m_Km_addMark : mx_M := (y_Km_addMark, prog_4_method_12_code, 2, none)
def y_Km_addElement : MethodName := ⟨"TailoredOrder$KeyMaker", "addElement", "(IIII)V"⟩
abbrev m_Km_addElement : mx_M := (y_Km_addElement, prog_4_method_13_code, 5, none)
def y_Km_writeLevel : MethodName := ⟨"TailoredOrder$KeyMaker", "writeLevel", "(ILTailoredOrder$Key;)V"⟩
abbrev m_Km_writeLevel : mx_M := (y_Km_writeLevel, prog_4_method_14_code, 6, none)
def y_Li_init : MethodName := ⟨"TailoredOrder$Line", "<init>", "(I)V"⟩
abbrev m_Li_init : mx_M := (y_Li_init, prog_5_method_1_code, 2, none)
def y_Li_append : MethodName := ⟨"TailoredOrder$Line", "append", "(C)Z"⟩
abbrev m_Li_append : mx_M := (y_Li_append, prog_5_method_2_code, 2, some .boolean)
def y_Li_clear : MethodName := ⟨"TailoredOrder$Line", "clear", "()I"⟩
abbrev m_Li_clear : mx_M := (y_Li_clear, prog_5_method_3_code, 2, some .int)
def y_Li_copyFrom : MethodName := ⟨"TailoredOrder$Line", "copyFrom", "(LTailoredOrder$Line;)V"⟩
abbrev m_Li_copyFrom : mx_M := (y_Li_copyFrom, prog_5_method_4_code, 3, none)
def y_Ru_init : MethodName := ⟨"TailoredOrder$Rule", "<init>", "()V"⟩
abbrev m_Ru_init : mx_M := (y_Ru_init, prog_6_method_1_code, 1, none)
def y_Ru_read : MethodName := ⟨"TailoredOrder$Rule", "read", "(LTailoredOrder$Line;)I"⟩
abbrev m_Ru_read : mx_M := (y_Ru_read, prog_6_method_2_code, 3, some .int)
def y_Ru_takes : MethodName := ⟨"TailoredOrder$Rule", "takes", "(C)Z"⟩
abbrev m_Ru_takes : mx_M := (y_Ru_takes, prog_6_method_3_code, 2, some .boolean)
def y_Ru_sign : MethodName := ⟨"TailoredOrder$Rule", "sign", "(I)Z"⟩
abbrev m_Ru_sign : mx_M := (y_Ru_sign, prog_6_method_4_code, 2, some .boolean)
def y_Ru_begin : MethodName := ⟨"TailoredOrder$Rule", "begin", "(C)Z"⟩
abbrev m_Ru_begin : mx_M := (y_Ru_begin, prog_6_method_5_code, 2, some .boolean)
def y_Ru_goOn : MethodName := ⟨"TailoredOrder$Rule", "goOn", "(C)Z"⟩
abbrev m_Ru_goOn : mx_M := (y_Ru_goOn, prog_6_method_6_code, 5, some .boolean)
def y_Ta_init : MethodName := ⟨"TailoredOrder$Table", "<init>", "()V"⟩
abbrev m_Ta_init : mx_M := (y_Ta_init, prog_7_method_1_code, 2, none)
def y_Ta_copyFrom : MethodName := ⟨"TailoredOrder$Table", "copyFrom", "(LTailoredOrder$Table;)V"⟩
abbrev m_Ta_copyFrom : mx_M := (y_Ta_copyFrom, prog_7_method_2_code, 2, none)
def y_Ta_find : MethodName := ⟨"TailoredOrder$Table", "find", "(I)I"⟩
abbrev m_Ta_find : mx_M := (y_Ta_find, prog_7_method_3_code, 3, some .int)
def y_Ta_findLongest : MethodName := ⟨"TailoredOrder$Table", "findLongest", "(I)I"⟩
abbrev m_Ta_findLongest : mx_M := (y_Ta_findLongest, prog_7_method_4_code, 6, some .int)
def y_Ta_follow : MethodName := ⟨"TailoredOrder$Table", "follow", "(LTailoredOrder$Rule;)I"⟩
abbrev m_Ta_follow : mx_M := (y_Ta_follow, prog_7_method_5_code, 4, some .int)
def y_Ta_move : MethodName := ⟨"TailoredOrder$Table", "move", "(III)I"⟩
abbrev m_Ta_move : mx_M := (y_Ta_move, prog_7_method_6_code, 5, some .int)
def y_Ta_takeOut : MethodName := ⟨"TailoredOrder$Table", "takeOut", "(I)V"⟩
abbrev m_Ta_takeOut : mx_M := (y_Ta_takeOut, prog_7_method_7_code, 3, none)
def y_Ta_putIn : MethodName := ⟨"TailoredOrder$Table", "putIn", "(III)V"⟩
abbrev m_Ta_putIn : mx_M := (y_Ta_putIn, prog_7_method_8_code, 5, none)
def y_Ta_insert : MethodName := ⟨"TailoredOrder$Table", "insert", "(III)V"⟩
abbrev m_Ta_insert : mx_M := (y_Ta_insert, prog_7_method_9_code, 5, none)
def y_Ta_weigh : MethodName := ⟨"TailoredOrder$Table", "weigh", "()V"⟩
abbrev m_Ta_weigh : mx_M := (y_Ta_weigh, prog_7_method_10_code, 5, none)
def y_La_law : MethodName := ⟨"TailoredOrderLaw", "law", "([I)Z"⟩
abbrev m_La_law : mx_M := (y_La_law, code, 4, some .boolean)
end
section
/-! THE MACHINE IN SMALL: cells are numbered from the law's start on; numbers lie in one memory (cell, place), references in a shape.
EV G d M pc lc st S D S' Post: from pc of method M, with locals lc, stack st, shape S, memory D, call depth d left, the method returns, its answer and memory meet Post, and the shape is S'. -/
abbrev mx_Sh : Type := (Nat × List (Option (Option Nat))) ⊕ ((Nat × Nat) ⊕ (Nat × List (Option Nat)))
abbrev mx_Mem : Type := Nat → Nat → Int32
abbrev mx_G : Type := Launch × va_G × (Nat → ClassId) × Nat × Nat × Nat × (Nat → Int32)
def mx_dd (G : mx_G) : va_G := G.2.1
def mx_cA (G : mx_G) : Nat → ClassId := G.2.2.1
def mx_base (G : mx_G) : Nat := G.2.2.2.1
def mx_b (G : mx_G) : Nat := G.2.2.2.2.1
def mx_L (G : mx_G) : Nat := G.2.2.2.2.2.1
def mx_xs (G : mx_G) : Nat → Int32 := G.2.2.2.2.2.2
def mx_ad (G : mx_G) (k : Nat) : Nat := mx_base G + k
/-- a small value as the machine has it; the script is retAddr -/
def mx_cv (G : mx_G) : Value → Value
  | .ref k => .ref (mx_ad G k)
  | .retAddr _ => .ref (mx_b G)
  | v => v
def mx_fv (G : mx_G) (x : Int32) : Option (Option Nat) → Value
  | none => .int x
  | some r => va_rf (r.map (mx_ad G))
def mx_E (G : mx_G) (f : Nat → Int32) : mx_Sh → va_E
  | .inl o => .inr (o.1, (List.range o.2.length).map fun j => mx_fv G (f j) (o.2.getD j none))
  | .inr (.inl a) => .inl (mx_cA G a.1, a.2, .inl f)
  | .inr (.inr a) => .inl (mx_cA G a.1, a.2.length, .inr (.inr (.inr (.inr fun j => (a.2.getD j none).map (mx_ad G)))))
def mx_ws (G : mx_G) (S : List mx_Sh) (D : mx_Mem) : va_W := (List.range S.length).map fun k => (mx_ad G k, mx_E G (D k) (S.getD k (.inr (.inl (0, 0)))))
def mx_n (sh : mx_Sh) : Nat := match sh with
  | .inl o => o.2.length
  | .inr (.inl a) => a.2
  | .inr (.inr a) => a.2.length
def mx_sl (S : List mx_Sh) : Nat := (S.map mx_n).sum
def mx_tys (G : mx_G) : List (ClassId × FieldType) := (List.range mx_ty.length).map fun t => (mx_cA G t, mx_ty.getD t .int)
def mx_A (G : mx_G) : Nat → Prop := fun q => mx_base G ≤ q
def mx_H (G : mx_G) (S : List mx_Sh) (D : mx_Mem) (H : Heap) : Prop := H.size = mx_base G + S.length ∧ va_P (mx_dd G) vwCl (mx_ws G S D) H
/-- one number of the memory written -/
def mx_w (D : mx_Mem) (k j : Nat) (x : Int32) : mx_Mem := va_up D k (upd (D k) j x)
/-- a new cell's numbers are 0 -/
def mx_z (D : mx_Mem) (k : Nat) : mx_Mem := va_up D k (fun _ => 0)
theorem mx_w_at (D : mx_Mem) (k j : Nat) (x : Int32) (k' j' : Nat) : mx_w D k j x k' j' = if k' = k ∧ j' = j then x else D k' j' := by
  unfold mx_w va_up
  by_cases h : k' = k
  · subst h
    by_cases h2 : j' = j
    · subst h2; simp [upd]
    · simp [upd, h2]
  · simp [h]
theorem mx_ws_at {G : mx_G} {S : List mx_Sh} {D : mx_Mem} {k : Nat} {sh : mx_Sh} (h : S[k]? = some sh) : (mx_ws G S D)[k]? = some (mx_ad G k, mx_E G (D k) sh) := by
  obtain ⟨hk, he⟩ := List.getElem?_eq_some_iff.mp h
  simp [mx_ws, hk, he]
theorem mx_wsk {G : mx_G} {S : List mx_Sh} {D : mx_Mem} {k : Nat} {q : Nat × va_E} (h : (mx_ws G S D)[k]? = some q) : k < S.length ∧ q.1 = mx_ad G k := by
  have hk : k < (mx_ws G S D).length := (List.getElem?_eq_some_iff.mp h).1
  have hk2 : k < S.length := by simpa [mx_ws] using hk
  obtain ⟨sh, hs⟩ : ∃ sh, S[k]? = some sh := ⟨S[k], List.getElem?_eq_getElem hk2⟩
  rw [mx_ws_at hs] at h
  cases h
  exact ⟨hk2, rfl⟩
theorem mx_DD {G : mx_G} {S : List mx_Sh} {D : mx_Mem} : va_D (mx_A G) (mx_ws G S D) := by
  refine ⟨fun i j p q hi hj e => ?_, fun k q hk => ?_⟩
  · obtain ⟨h1, e1⟩ := mx_wsk hi
    obtain ⟨h2, e2⟩ := mx_wsk hj
    rw [e1, e2] at e
    unfold mx_ad at e
    omega
  · obtain ⟨h1, e1⟩ := mx_wsk hk
    show mx_base G ≤ q.1
    rw [e1]
    unfold mx_ad
    omega
theorem mx_set {G : mx_G} {S : List mx_Sh} {D : mx_Mem} {k : Nat} {sh sh' : mx_Sh} {f : Nat → Int32} (h : S[k]? = some sh) : (mx_ws G S D).set k (mx_ad G k, mx_E G f sh') = mx_ws G (S.set k sh') (va_up D k f) := by
  have hk : k < S.length := (List.getElem?_eq_some_iff.mp h).1
  apply List.ext_getElem?
  intro i
  by_cases hi : i = k
  · subst hi
    rw [mx_ws_at (sh := sh') (by simp [hk])]
    simp [mx_ws, hk, va_up]
  · rw [List.getElem?_set_ne (Ne.symm hi)]
    by_cases hl : i < S.length
    · have h1 : S[i]? = some S[i] := List.getElem?_eq_getElem hl
      rw [mx_ws_at h1, mx_ws_at (sh := S[i]) (by rw [List.getElem?_set_ne (Ne.symm hi)]; exact h1)]
      simp [va_up, hi]
    · rw [List.getElem?_eq_none (by simp [mx_ws]; omega), List.getElem?_eq_none (by simp [mx_ws]; omega)]
theorem mx_push {G : mx_G} {S : List mx_Sh} {D : mx_Mem} {sh : mx_Sh} {f : Nat → Int32} : mx_ws G S D ++ [(mx_ad G S.length, mx_E G f sh)] = mx_ws G (S ++ [sh]) (va_up D S.length f) := by
  apply List.ext_getElem?
  intro i
  by_cases hl : i < S.length
  · have h1 : S[i]? = some S[i] := List.getElem?_eq_getElem hl
    rw [List.getElem?_append_left (by simp [mx_ws]; exact hl), mx_ws_at h1, mx_ws_at (sh := S[i]) (by rw [List.getElem?_append_left hl]; exact h1)]
    simp [va_up, Nat.ne_of_lt hl]
  · by_cases he : i = S.length
    · subst he
      rw [List.getElem?_append_right (by simp [mx_ws]), mx_ws_at (sh := sh) (by simp)]
      simp [mx_ws, va_up]
    · rw [List.getElem?_eq_none (by simp [mx_ws]; omega), List.getElem?_eq_none (by simp [mx_ws]; omega)]
theorem mx_setS {S : List mx_Sh} {k : Nat} {sh : mx_Sh} (h : S[k]? = some sh) : S.set k sh = S := by
  apply List.ext_getElem?
  intro i
  by_cases hi : i = k
  · subst hi
    rw [List.getElem?_set_self (List.getElem?_eq_some_iff.mp h).1, h]
  · rw [List.getElem?_set_ne (Ne.symm hi)]
/-- locals: a place that holds nothing known is none -/
def mx_lv (G : mx_G) (lc : List (Option Value)) : List (Nat × Value) := (List.range lc.length).filterMap fun i => (lc.getD i none).bind fun v => if v.category = 1 then some (i, mx_cv G v) else none
theorem mx_lv_mem {G : mx_G} {lc : List (Option Value)} {q : Nat × Value} : q ∈ mx_lv G lc ↔ ∃ v, lc[q.1]? = some (some v) ∧ v.category = 1 ∧ q.2 = mx_cv G v := by
  unfold mx_lv
  rw [List.mem_filterMap]
  constructor
  · rintro ⟨i, hi, h⟩
    have hi : i < lc.length := by simpa using hi
    have e : lc.getD i none = lc[i] := by simp [hi]
    rw [e] at h
    cases hv : lc[i] with
    | none => rw [hv] at h; cases h
    | some v =>
      rw [hv, Option.bind_some] at h
      by_cases hc : v.category = 1
      · rw [if_pos hc] at h
        cases h
        exact ⟨v, by rw [List.getElem?_eq_getElem hi, hv], hc, rfl⟩
      · rw [if_neg hc] at h
        cases h
  · rintro ⟨v, h1, hc, h2⟩
    have hi : q.1 < lc.length := (List.getElem?_eq_some_iff.mp h1).1
    refine ⟨q.1, by simpa using hi, ?_⟩
    have e : lc.getD q.1 none = some v := by simp [h1]
    rw [e, Option.bind_some, if_pos hc, ← h2]
theorem mx_lv_sub {ls : Array Slot} {n : Nat} {l l' : List (Nat × Value)} (h : lv_has ls n l) (hs : ∀ q ∈ l', q ∈ l) : lv_has ls n l' := ⟨h.1, h.2.1, fun q hq => h.2.2 q (hs q hq)⟩
theorem mx_lv_at {G : mx_G} {ls : Array Slot} {n : Nat} {lc : List (Option Value)} {i : Nat} {v : Value} (h : lv_has ls n (mx_lv G lc)) (hi : lc[i]? = some (some v)) (hc : v.category = 1) : ls[i]? = some (.val (mx_cv G v)) := h.2.2 (i, mx_cv G v) (mx_lv_mem.mpr ⟨v, hi, hc, rfl⟩)
theorem mx_cv_cat {G : mx_G} {v : Value} : (mx_cv G v).category = v.category := by cases v <;> rfl
theorem mx_lv_put {G : mx_G} {ls : Array Slot} {n i : Nat} {lc : List (Option Value)} {v : Value} (h : lv_has ls n ((i, mx_cv G v) :: (mx_lv G lc).filter (fun q => !(q.1 == i) && !(q.1 + 1 == i && q.2.category == 2)))) : lv_has ls n (mx_lv G (lc.set i (some v))) := by
  refine mx_lv_sub h fun q hq => ?_
  obtain ⟨w, h1, hc, h2⟩ := mx_lv_mem.mp hq
  by_cases hi : q.1 = i
  · rw [hi] at h1
    have hl : i < lc.length := by
      have := (List.getElem?_eq_some_iff.mp h1).1
      simpa using this
    rw [List.getElem?_set_self hl] at h1
    cases h1
    have : q = (i, mx_cv G v) := by rw [← hi, ← h2]
    rw [this]
    exact List.mem_cons_self
  · rw [List.getElem?_set_ne (Ne.symm hi)] at h1
    refine List.mem_cons_of_mem _ (List.mem_filter.mpr ⟨mx_lv_mem.mpr ⟨w, h1, hc, h2⟩, ?_⟩)
    have hcat : q.2.category = 1 := by rw [h2, mx_cv_cat]; exact hc
    simp [hi, hcat]
theorem mx_cls0 : ∀ q ∈ vwCl, (∀ w ∈ u_ws q.1 q.2.1 q.2.2, w ∈ mx_gw) ∧ (∀ k, k < q.2.2 → parseFieldDescriptor (q.2.1 k).2.2.1 = some ((parseFieldDescriptor (q.2.1 k).2.2.1).getD .int)) ∧ ∀ a, a < q.2.2 → ∀ b, b < q.2.2 → a ≠ b → (q.2.1 a).2.1 ≠ (q.2.1 b).2.1 := by decide +kernel
theorem mx_nw_on {w : Cond} (h : w ∈ mx_nw) : w.onTables = true ∧ ∀ s U : State, s.WarmedH U.vm → va_Nw w s → va_Nw w U := by
  have h2 := (List.mem_filter.mp h).2
  unfold mx_isn at h2
  cases w <;> simp at h2
  · exact ⟨rfl, fun s U hW hZ => va_Nw.warmM hW hZ⟩
  · exact ⟨rfl, fun s U hW hZ => va_Nw.warmF hW hZ⟩
theorem mx_NW_same {u U : State} (h : u.vm = U.vm) (hN : mx_NW u) : mx_NW U :=
  ⟨fun w hw => va_Nw.same (mx_nw_on hw).1 h (hN.1 w hw), fun C hC => va_AO.moved (by rw [h]; exact Vm.Alike.refl _) (hN.2 C hC)⟩
theorem mx_NW_warm {s U : State} (h : s.WarmedH U.vm) (hN : mx_NW s) : mx_NW U :=
  ⟨fun w hw => (mx_nw_on hw).2 s U h (hN.1 w hw), fun C hC => va_AO.moved h.alike (hN.2 C hC)⟩
/-- what holds of the machine while method M runs -/
def mx_Cx (G : mx_G) (d : Nat) (M : mx_M) (p : Program) (R : Room) (s : State) (m : MethodId) (args : Array Value) (meth : Method) (c : Code) : Prop :=
  p.tables.exec = Jvm.exec ∧ c.code = M.2.1 ∧ meth.sig.returnType = M.2.2.2 ∧ c.maxLocals = M.2.2.1 ∧ s.vm.findClass M.1.cls = some m.cls ∧ (∀ w ∈ mx_gw, w.before args s = true) ∧ mx_NW s ∧ va_K (mx_dd G) vwCl (mx_tys G) s ∧ meth.locks = false ∧ meth.name = M.1.name ∧ (va_X (mx_b G) (mx_L G) (mx_xs G) s s.heap ∧ mx_b G < mx_base G ∧ mx_base G ≤ s.heap.size) ∧ d ≤ R.frames ∧ mx_KL * d ≤ R.locals
/-- the instruction with which the answer goes back -/
def mx_ret (M : mx_M) (pc : Nat) : Option Value → Prop
  | none => decode M.2.1 pc = .ok (.return_, 1) ∧ M.2.2.2 = none
  | some (.int v) => decode M.2.1 pc = .ok (.ireturn, 1) ∧ ∃ ty, M.2.2.2 = some ty ∧ narrow ty (.int v) = .int v
  | some (.ref _) => decode M.2.1 pc = .ok (.areturn, 1) ∧ ∃ n, M.2.2.2 = some (.object n)
  | _ => False
def EV (G : mx_G) (d : Nat) (M : mx_M) (pc : Nat) (lc : List (Option Value)) (st : List Value) (S : List mx_Sh) (D : mx_Mem) (S' : List mx_Sh) (Post : Option Value → mx_Mem → Prop) : Prop :=
  (S.length ≤ S'.length ∧ mx_sl S ≤ mx_sl S') ∧
  ∀ (p : Program) (e : Env) (R : Room) (s : State) (m : MethodId) (args : Array Value) (below : List Frame) (meth : Method) (c : Code) (H : Heap) (locs : List Loc) (cells slots : Nat) (Q : State → Prop) (ls : Array Slot),
    mx_Cx G d M p R s m args meth c → mx_H G S D H → va_S (mx_A G) s.heap H locs → lv_has ls M.2.2.1 (mx_lv G lc) → s.heap.size + cells = mx_base G + S.length → cells + S'.length ≤ R.cells + S.length → slots + mx_sl S' ≤ R.slots + mx_sl S →
    (∀ (rv : Option Value) (D' : mx_Mem) (H' : Heap) (locs' : List Loc) (pc' : Nat) (ls' : Array Slot), Post rv D' → mx_H G S' D' H' → va_S (mx_A G) s.heap H' locs' → mx_ret M pc' rv →
      W p G.1 e R s m args below meth c H' locs' (cells + (S'.length - S.length)) (slots + (mx_sl S' - mx_sl S)) Q (F0 m pc' ls' (rv.map (mx_cv G)).toList)) →
    W p G.1 e R s m args below meth c H locs cells slots Q (F0 m pc ls (st.map (mx_cv G)))
section MXR
variable {G : mx_G} {d : Nat} {M : mx_M} {pc : Nat} {lc : List (Option Value)} {st : List Value} {S S' : List mx_Sh} {D : mx_Mem} {Post : Option Value → mx_Mem → Prop}
/-- an instruction that touches the stack alone -/
theorem EV.go {pc2 : Nat} {st2 : List Value} (h : ∀ {p : Program} {e : Env} {R : Room} {s : State} {m : MethodId} {args : Array Value} {below : List Frame} {meth : Method} {c : Code} {H : Heap} {locs : List Loc} {cells slots : Nat} {Q : State → Prop} {ls : Array Slot}, p.tables.exec = Jvm.exec → c.code = M.2.1 →
    W p G.1 e R s m args below meth c H locs cells slots Q (F0 m pc2 ls (st2.map (mx_cv G))) → W p G.1 e R s m args below meth c H locs cells slots Q (F0 m pc ls (st.map (mx_cv G))))
    (k : EV G d M pc2 lc st2 S D S' Post) : EV G d M pc lc st S D S' Post :=
  ⟨k.1, fun p e R s m args below meth c H locs cells slots Q ls cx hH hS hl h0 h1 h2 hr => h cx.1 cx.2.1 (k.2 p e R s m args below meth c H locs cells slots Q ls cx hH hS hl h0 h1 h2 hr)⟩
theorem EV.iconst {n : Int} {v : Int32} (hd : decode M.2.1 pc = .ok (.iconst n, 1)) (hv : Int32.ofInt n = v) (k : EV G d M (pc + 1) lc (.int v :: st) S D S' Post) : EV G d M pc lc st S D S' Post :=
  EV.go (fun hx hb k => lv_iconst hx hb hd hv k) k
theorem EV.bipush {n : Int} {v : Int32} (hd : decode M.2.1 pc = .ok (.bipush n, 2)) (hv : (Int8.ofInt n).toInt32 = v) (k : EV G d M (pc + 2) lc (.int v :: st) S D S' Post) : EV G d M pc lc st S D S' Post :=
  EV.go (fun hx hb k => lv_bipush hx hb hd hv k) k
theorem EV.sipush {n : Int} {v : Int32} (hd : decode M.2.1 pc = .ok (.sipush n, 3)) (hv : (Int16.ofInt n).toInt32 = v) (k : EV G d M (pc + 3) lc (.int v :: st) S D S' Post) : EV G d M pc lc st S D S' Post :=
  EV.go (fun hx hb k => lv_sipush hx hb hd hv k) k
theorem EV.iadd {x y : Int32} (hd : decode M.2.1 pc = .ok (.iadd, 1)) (k : EV G d M (pc + 1) lc (.int (x + y) :: st) S D S' Post) : EV G d M pc lc (.int y :: .int x :: st) S D S' Post :=
  EV.go (fun hx hb k => lv_iadd hx hb hd k) k
theorem EV.isub {x y : Int32} (hd : decode M.2.1 pc = .ok (.isub, 1)) (k : EV G d M (pc + 1) lc (.int (x - y) :: st) S D S' Post) : EV G d M pc lc (.int y :: .int x :: st) S D S' Post :=
  EV.go (fun hx hb k => lv_isub hx hb hd k) k
theorem EV.imul {x y : Int32} (hd : decode M.2.1 pc = .ok (.imul, 1)) (k : EV G d M (pc + 1) lc (.int (x * y) :: st) S D S' Post) : EV G d M pc lc (.int y :: .int x :: st) S D S' Post :=
  EV.go (fun hx hb k => lv_imul hx hb hd k) k
theorem EV.iand {x y : Int32} (hd : decode M.2.1 pc = .ok (.iand, 1)) (k : EV G d M (pc + 1) lc (.int (x &&& y) :: st) S D S' Post) : EV G d M pc lc (.int y :: .int x :: st) S D S' Post :=
  EV.go (fun hx hb k => lv_iand hx hb hd k) k
theorem EV.ior {x y : Int32} (hd : decode M.2.1 pc = .ok (.ior, 1)) (k : EV G d M (pc + 1) lc (.int (x ||| y) :: st) S D S' Post) : EV G d M pc lc (.int y :: .int x :: st) S D S' Post :=
  EV.go (fun hx hb k => lv_ior hx hb hd k) k
theorem EV.ishl {x y : Int32} (hd : decode M.2.1 pc = .ok (.ishl, 1)) (k : EV G d M (pc + 1) lc (.int (x <<< (y &&& 31)) :: st) S D S' Post) : EV G d M pc lc (.int y :: .int x :: st) S D S' Post :=
  EV.go (fun hx hb k => lv_ishl hx hb hd k) k
theorem EV.ishr {x y : Int32} (hd : decode M.2.1 pc = .ok (.ishr, 1)) (k : EV G d M (pc + 1) lc (.int (x >>> (y &&& 31)) :: st) S D S' Post) : EV G d M pc lc (.int y :: .int x :: st) S D S' Post :=
  EV.go (fun hx hb k => lv_ishr hx hb hd k) k
theorem EV.irem {x y : Int32} (hd : decode M.2.1 pc = .ok (.irem, 1)) (hy : ¬ y = 0) (k : EV G d M (pc + 1) lc (.int (x - x / y * y) :: st) S D S' Post) : EV G d M pc lc (.int y :: .int x :: st) S D S' Post :=
  EV.go (fun hx hb k => lv_irem hx hb hd hy k) k
theorem EV.ineg {x : Int32} (hd : decode M.2.1 pc = .ok (.ineg, 1)) (k : EV G d M (pc + 1) lc (.int (-x) :: st) S D S' Post) : EV G d M pc lc (.int x :: st) S D S' Post :=
  EV.go (fun hx hb k => lv_ineg hx hb hd k) k
theorem EV.i2c {x v : Int32} (hd : decode M.2.1 pc = .ok (.i2c, 1)) (hv : (x.toUInt32 % 65536).toInt32 = v) (k : EV G d M (pc + 1) lc (.int v :: st) S D S' Post) : EV G d M pc lc (.int x :: st) S D S' Post :=
  EV.go (fun hx hb k => lv_i2c hx hb hd hv k) k
theorem EV.dup {v : Value} (hd : decode M.2.1 pc = .ok (.dup, 1)) (hv : v.category = 1) (k : EV G d M (pc + 1) lc (v :: v :: st) S D S' Post) : EV G d M pc lc (v :: st) S D S' Post :=
  EV.go (fun hx hb k => lv_dup hx hb hd (by rw [mx_cv_cat]; exact hv) k) k
theorem EV.pop {v : Value} (hd : decode M.2.1 pc = .ok (.pop, 1)) (hv : v.category = 1) (k : EV G d M (pc + 1) lc st S D S' Post) : EV G d M pc lc (v :: st) S D S' Post :=
  EV.go (fun hx hb k => lv_pop hx hb hd (by rw [mx_cv_cat]; exact hv) k) k
theorem EV.dup_x1 {v w : Value} (hd : decode M.2.1 pc = .ok (.dup_x1, 1)) (hv : v.category = 1) (hw : w.category = 1) (k : EV G d M (pc + 1) lc (v :: w :: v :: st) S D S' Post) : EV G d M pc lc (v :: w :: st) S D S' Post :=
  EV.go (fun hx hb k => lv_dup_x1 hx hb hd (by rw [mx_cv_cat]; exact hv) (by rw [mx_cv_cat]; exact hw) k) k
theorem EV.dup_x2 {v w u : Value} (hd : decode M.2.1 pc = .ok (.dup_x2, 1)) (hv : v.category = 1) (hw : w.category = 1) (hu : u.category = 1) (k : EV G d M (pc + 1) lc (v :: w :: u :: v :: st) S D S' Post) : EV G d M pc lc (v :: w :: u :: st) S D S' Post :=
  EV.go (fun hx hb k => lv_dup_x2 hx hb hd (by rw [mx_cv_cat]; exact hv) (by rw [mx_cv_cat]; exact hw) (by rw [mx_cv_cat]; exact hu) k) k
theorem EV.dup2 {v w : Value} (hd : decode M.2.1 pc = .ok (.dup2, 1)) (hv : v.category = 1) (hw : w.category = 1) (k : EV G d M (pc + 1) lc (v :: w :: v :: w :: st) S D S' Post) : EV G d M pc lc (v :: w :: st) S D S' Post :=
  EV.go (fun hx hb k => lv_dup2_11 hx hb hd (by rw [mx_cv_cat]; exact hv) (by rw [mx_cv_cat]; exact hw) k) k
theorem EV.goto {off : Int} {tgt : Nat} (hd : decode M.2.1 pc = .ok (.goto off, 3)) (ht : (pc : Int) + off = (tgt : Int)) (k : EV G d M tgt lc st S D S' Post) : EV G d M pc lc st S D S' Post :=
  EV.go (fun hx hb k => lv_goto hx hb hd ht k) k
/-- a number on the stack under another name -/
theorem EV.top {x y : Int32} (h : x = y) (k : EV G d M pc lc (.int y :: st) S D S' Post) : EV G d M pc lc (.int x :: st) S D S' Post := h ▸ k
theorem EV.at {lc2 : List (Option Value)} (h : lc = lc2) (k : EV G d M pc lc2 st S D S' Post) : EV G d M pc lc st S D S' Post := h ▸ k
theorem EV.mem {D2 : mx_Mem} (h : D = D2) (k : EV G d M pc lc st S D2 S' Post) : EV G d M pc lc st S D S' Post := h ▸ k
/-- fewer locals known -/
theorem EV.wk {lc2 : List (Option Value)} (h : ∀ (i : Nat) (v : Value), lc2[i]? = some (some v) → lc[i]? = some (some v)) (k : EV G d M pc lc2 st S D S' Post) : EV G d M pc lc st S D S' Post :=
  ⟨k.1, fun p e R s m args below meth c H locs cells slots Q ls cx hH hS hl h0 h1 h2 hr => k.2 p e R s m args below meth c H locs cells slots Q ls cx hH hS (mx_lv_sub hl fun q hq => by
    obtain ⟨v, a1, a2, a3⟩ := mx_lv_mem.mp hq
    exact mx_lv_mem.mpr ⟨v, h _ _ a1, a2, a3⟩) h0 h1 h2 hr⟩
theorem EV.post {P2 : Option Value → mx_Mem → Prop} (h : ∀ rv D', P2 rv D' → Post rv D') (k : EV G d M pc lc st S D S' P2) : EV G d M pc lc st S D S' Post :=
  ⟨k.1, fun p e R s m args below meth c H locs cells slots Q ls cx hH hS hl h0 h1 h2 hr => k.2 p e R s m args below meth c H locs cells slots Q ls cx hH hS hl h0 h1 h2 (fun rv D' H' locs' pc' ls' hp => hr rv D' H' locs' pc' ls' (h rv D' hp))⟩
theorem EV.deep {d2 : Nat} (h : d2 ≤ d) (k : EV G d2 M pc lc st S D S' Post) : EV G d M pc lc st S D S' Post :=
  ⟨k.1, fun p e R s m args below meth c H locs cells slots Q ls cx => k.2 p e R s m args below meth c H locs cells slots Q ls (by
    obtain ⟨a1, a2, a3, a4, a5, a6, a7, a8, a9, a10, a11, a12, a13⟩ := cx
    exact ⟨a1, a2, a3, a4, a5, a6, a7, a8, a9, a10, a11, Nat.le_trans h a12, Nat.le_trans (Nat.mul_le_mul_left _ h) a13⟩)⟩
theorem EV.iload_n {n : Fin 4} {x : Int32} (hd : decode M.2.1 pc = .ok (.iload_n n, 1)) (h : lc[(n : Nat)]? = some (some (.int x))) (k : EV G d M (pc + 1) lc (.int x :: st) S D S' Post) : EV G d M pc lc st S D S' Post :=
  ⟨k.1, fun p e R s m args below meth c H locs cells slots Q ls cx hH hS hl h0 h1 h2 hr => lv_iload_n cx.1 cx.2.1 hd rfl (mx_lv_at hl h rfl) (k.2 p e R s m args below meth c H locs cells slots Q ls cx hH hS hl h0 h1 h2 hr)⟩
theorem EV.iload {n : Nat} {x : Int32} (hd : decode M.2.1 pc = .ok (.iload n, 2)) (h : lc[n]? = some (some (.int x))) (k : EV G d M (pc + 2) lc (.int x :: st) S D S' Post) : EV G d M pc lc st S D S' Post :=
  ⟨k.1, fun p e R s m args below meth c H locs cells slots Q ls cx hH hS hl h0 h1 h2 hr => lv_iload cx.1 cx.2.1 hd (mx_lv_at hl h rfl) (k.2 p e R s m args below meth c H locs cells slots Q ls cx hH hS hl h0 h1 h2 hr)⟩
theorem EV.aload_n {n : Fin 4} {x : Nat} (hd : decode M.2.1 pc = .ok (.aload_n n, 1)) (h : lc[(n : Nat)]? = some (some (.ref x))) (k : EV G d M (pc + 1) lc (.ref x :: st) S D S' Post) : EV G d M pc lc st S D S' Post :=
  ⟨k.1, fun p e R s m args below meth c H locs cells slots Q ls cx hH hS hl h0 h1 h2 hr => lv_aload_n cx.1 cx.2.1 hd rfl (mx_lv_at hl h rfl) (k.2 p e R s m args below meth c H locs cells slots Q ls cx hH hS hl h0 h1 h2 hr)⟩
theorem EV.aload {n : Nat} {x : Nat} (hd : decode M.2.1 pc = .ok (.aload n, 2)) (h : lc[n]? = some (some (.ref x))) (k : EV G d M (pc + 2) lc (.ref x :: st) S D S' Post) : EV G d M pc lc st S D S' Post :=
  ⟨k.1, fun p e R s m args below meth c H locs cells slots Q ls cx hH hS hl h0 h1 h2 hr => lv_aload cx.1 cx.2.1 hd (mx_lv_at hl h rfl) (k.2 p e R s m args below meth c H locs cells slots Q ls cx hH hS hl h0 h1 h2 hr)⟩
theorem EV.istore_n {n : Fin 4} {x : Int32} (hd : decode M.2.1 pc = .ok (.istore_n n, 1)) (hn : (n : Nat) < M.2.2.1) (k : EV G d M (pc + 1) (lc.set (n : Nat) (some (.int x))) st S D S' Post) : EV G d M pc lc (.int x :: st) S D S' Post :=
  ⟨k.1, fun p e R s m args below meth c H locs cells slots Q ls cx hH hS hl h0 h1 h2 hr => lv_istore_n cx.1 cx.2.1 hd rfl hl hn rfl (fun ls hl => k.2 p e R s m args below meth c H locs cells slots Q ls cx hH hS (mx_lv_put (v := .int x) hl) h0 h1 h2 hr)⟩
theorem EV.istore {n : Nat} {x : Int32} (hd : decode M.2.1 pc = .ok (.istore n, 2)) (hn : n < M.2.2.1) (k : EV G d M (pc + 2) (lc.set n (some (.int x))) st S D S' Post) : EV G d M pc lc (.int x :: st) S D S' Post :=
  ⟨k.1, fun p e R s m args below meth c H locs cells slots Q ls cx hH hS hl h0 h1 h2 hr => lv_istore cx.1 cx.2.1 hd hl hn rfl (fun ls hl => k.2 p e R s m args below meth c H locs cells slots Q ls cx hH hS (mx_lv_put (v := .int x) hl) h0 h1 h2 hr)⟩
theorem EV.astore_n {n : Fin 4} {x : Nat} (hd : decode M.2.1 pc = .ok (.astore_n n, 1)) (hn : (n : Nat) < M.2.2.1) (k : EV G d M (pc + 1) (lc.set (n : Nat) (some (.ref x))) st S D S' Post) : EV G d M pc lc (.ref x :: st) S D S' Post :=
  ⟨k.1, fun p e R s m args below meth c H locs cells slots Q ls cx hH hS hl h0 h1 h2 hr => lv_astore_n cx.1 cx.2.1 hd rfl hl hn rfl (fun ls hl => k.2 p e R s m args below meth c H locs cells slots Q ls cx hH hS (mx_lv_put (v := .ref x) hl) h0 h1 h2 hr)⟩
theorem EV.astore {n : Nat} {x : Nat} (hd : decode M.2.1 pc = .ok (.astore n, 2)) (hn : n < M.2.2.1) (k : EV G d M (pc + 2) (lc.set n (some (.ref x))) st S D S' Post) : EV G d M pc lc (.ref x :: st) S D S' Post :=
  ⟨k.1, fun p e R s m args below meth c H locs cells slots Q ls cx hH hS hl h0 h1 h2 hr => lv_astore cx.1 cx.2.1 hd hl hn rfl (fun ls hl => k.2 p e R s m args below meth c H locs cells slots Q ls cx hH hS (mx_lv_put (v := .ref x) hl) h0 h1 h2 hr)⟩
theorem EV.iinc {n : Nat} {z : Int} {x v : Int32} (hd : decode M.2.1 pc = .ok (.iinc n z, 3)) (h : lc[n]? = some (some (.int x))) (hv : x + Int32.ofInt z = v) (hn : n < M.2.2.1) (k : EV G d M (pc + 3) (lc.set n (some (.int v))) st S D S' Post) : EV G d M pc lc st S D S' Post :=
  ⟨k.1, fun p e R s m args below meth c H locs cells slots Q ls cx hH hS hl h0 h1 h2 hr => by
    obtain ⟨q, hq⟩ := List.getElem?_of_mem (mx_lv_mem (G := G) (q := (n, .int x)).mpr ⟨.int x, h, rfl, rfl⟩)
    exact lv_iinc cx.1 cx.2.1 hd hl hq hv hn rfl (fun ls hl => k.2 p e R s m args below meth c H locs cells slots Q ls cx hH hS (mx_lv_put (v := .int v) hl) h0 h1 h2 hr)⟩
theorem EV.if_eq {x : Int32} {off : Int} {tgt : Nat} (hd : decode M.2.1 pc = .ok (.ifCond .eq off, 3)) (ht : (pc : Int) + off = (tgt : Int)) (kt : x = 0 → EV G d M tgt lc st S D S' Post) (kf : ¬ x = 0 → EV G d M (pc + 3) lc st S D S' Post) : EV G d M pc lc (.int x :: st) S D S' Post :=
  ⟨(Classical.em (x = 0)).elim (fun h => (kt h).1) (fun h => (kf h).1), fun p e R s m args below meth c H locs cells slots Q ls cx hH hS hl h0 h1 h2 hr => lv_if_eq cx.1 cx.2.1 hd ht (fun h => (kt h).2 p e R s m args below meth c H locs cells slots Q ls cx hH hS hl h0 h1 h2 hr) (fun h => (kf h).2 p e R s m args below meth c H locs cells slots Q ls cx hH hS hl h0 h1 h2 hr)⟩
theorem EV.if_ne {x : Int32} {off : Int} {tgt : Nat} (hd : decode M.2.1 pc = .ok (.ifCond .ne off, 3)) (ht : (pc : Int) + off = (tgt : Int)) (kt : ¬ x = 0 → EV G d M tgt lc st S D S' Post) (kf : x = 0 → EV G d M (pc + 3) lc st S D S' Post) : EV G d M pc lc (.int x :: st) S D S' Post :=
  ⟨(Classical.em (x = 0)).elim (fun h => (kf h).1) (fun h => (kt h).1), fun p e R s m args below meth c H locs cells slots Q ls cx hH hS hl h0 h1 h2 hr => lv_if_ne cx.1 cx.2.1 hd ht (fun h => (kt h).2 p e R s m args below meth c H locs cells slots Q ls cx hH hS hl h0 h1 h2 hr) (fun h => (kf h).2 p e R s m args below meth c H locs cells slots Q ls cx hH hS hl h0 h1 h2 hr)⟩
theorem EV.if_lt {x : Int32} {off : Int} {tgt : Nat} (hd : decode M.2.1 pc = .ok (.ifCond .lt off, 3)) (ht : (pc : Int) + off = (tgt : Int)) (kt : x < 0 → EV G d M tgt lc st S D S' Post) (kf : ¬ x < 0 → EV G d M (pc + 3) lc st S D S' Post) : EV G d M pc lc (.int x :: st) S D S' Post :=
  ⟨(Classical.em (x < 0)).elim (fun h => (kt h).1) (fun h => (kf h).1), fun p e R s m args below meth c H locs cells slots Q ls cx hH hS hl h0 h1 h2 hr => lv_if_lt cx.1 cx.2.1 hd ht (fun h => (kt h).2 p e R s m args below meth c H locs cells slots Q ls cx hH hS hl h0 h1 h2 hr) (fun h => (kf h).2 p e R s m args below meth c H locs cells slots Q ls cx hH hS hl h0 h1 h2 hr)⟩
theorem EV.if_ge {x : Int32} {off : Int} {tgt : Nat} (hd : decode M.2.1 pc = .ok (.ifCond .ge off, 3)) (ht : (pc : Int) + off = (tgt : Int)) (kt : 0 ≤ x → EV G d M tgt lc st S D S' Post) (kf : ¬ 0 ≤ x → EV G d M (pc + 3) lc st S D S' Post) : EV G d M pc lc (.int x :: st) S D S' Post :=
  ⟨(Classical.em (0 ≤ x)).elim (fun h => (kt h).1) (fun h => (kf h).1), fun p e R s m args below meth c H locs cells slots Q ls cx hH hS hl h0 h1 h2 hr => lv_if_ge cx.1 cx.2.1 hd ht (fun h => (kt h).2 p e R s m args below meth c H locs cells slots Q ls cx hH hS hl h0 h1 h2 hr) (fun h => (kf h).2 p e R s m args below meth c H locs cells slots Q ls cx hH hS hl h0 h1 h2 hr)⟩
theorem EV.if_gt {x : Int32} {off : Int} {tgt : Nat} (hd : decode M.2.1 pc = .ok (.ifCond .gt off, 3)) (ht : (pc : Int) + off = (tgt : Int)) (kt : 0 < x → EV G d M tgt lc st S D S' Post) (kf : ¬ 0 < x → EV G d M (pc + 3) lc st S D S' Post) : EV G d M pc lc (.int x :: st) S D S' Post :=
  ⟨(Classical.em (0 < x)).elim (fun h => (kt h).1) (fun h => (kf h).1), fun p e R s m args below meth c H locs cells slots Q ls cx hH hS hl h0 h1 h2 hr => lv_if_gt cx.1 cx.2.1 hd ht (fun h => (kt h).2 p e R s m args below meth c H locs cells slots Q ls cx hH hS hl h0 h1 h2 hr) (fun h => (kf h).2 p e R s m args below meth c H locs cells slots Q ls cx hH hS hl h0 h1 h2 hr)⟩
theorem EV.if_le {x : Int32} {off : Int} {tgt : Nat} (hd : decode M.2.1 pc = .ok (.ifCond .le off, 3)) (ht : (pc : Int) + off = (tgt : Int)) (kt : x ≤ 0 → EV G d M tgt lc st S D S' Post) (kf : ¬ x ≤ 0 → EV G d M (pc + 3) lc st S D S' Post) : EV G d M pc lc (.int x :: st) S D S' Post :=
  ⟨(Classical.em (x ≤ 0)).elim (fun h => (kt h).1) (fun h => (kf h).1), fun p e R s m args below meth c H locs cells slots Q ls cx hH hS hl h0 h1 h2 hr => lv_if_le cx.1 cx.2.1 hd ht (fun h => (kt h).2 p e R s m args below meth c H locs cells slots Q ls cx hH hS hl h0 h1 h2 hr) (fun h => (kf h).2 p e R s m args below meth c H locs cells slots Q ls cx hH hS hl h0 h1 h2 hr)⟩
theorem EV.icmp_eq {x y : Int32} {off : Int} {tgt : Nat} (hd : decode M.2.1 pc = .ok (.if_icmp .eq off, 3)) (ht : (pc : Int) + off = (tgt : Int)) (kt : x = y → EV G d M tgt lc st S D S' Post) (kf : ¬ x = y → EV G d M (pc + 3) lc st S D S' Post) : EV G d M pc lc (.int y :: .int x :: st) S D S' Post :=
  ⟨(Classical.em (x = y)).elim (fun h => (kt h).1) (fun h => (kf h).1), fun p e R s m args below meth c H locs cells slots Q ls cx hH hS hl h0 h1 h2 hr => lv_icmp_eq cx.1 cx.2.1 hd ht (fun h => (kt h).2 p e R s m args below meth c H locs cells slots Q ls cx hH hS hl h0 h1 h2 hr) (fun h => (kf h).2 p e R s m args below meth c H locs cells slots Q ls cx hH hS hl h0 h1 h2 hr)⟩
theorem EV.icmp_ne {x y : Int32} {off : Int} {tgt : Nat} (hd : decode M.2.1 pc = .ok (.if_icmp .ne off, 3)) (ht : (pc : Int) + off = (tgt : Int)) (kt : ¬ x = y → EV G d M tgt lc st S D S' Post) (kf : x = y → EV G d M (pc + 3) lc st S D S' Post) : EV G d M pc lc (.int y :: .int x :: st) S D S' Post :=
  ⟨(Classical.em (x = y)).elim (fun h => (kf h).1) (fun h => (kt h).1), fun p e R s m args below meth c H locs cells slots Q ls cx hH hS hl h0 h1 h2 hr => lv_icmp_ne cx.1 cx.2.1 hd ht (fun h => (kt h).2 p e R s m args below meth c H locs cells slots Q ls cx hH hS hl h0 h1 h2 hr) (fun h => (kf h).2 p e R s m args below meth c H locs cells slots Q ls cx hH hS hl h0 h1 h2 hr)⟩
theorem EV.icmp_lt {x y : Int32} {off : Int} {tgt : Nat} (hd : decode M.2.1 pc = .ok (.if_icmp .lt off, 3)) (ht : (pc : Int) + off = (tgt : Int)) (kt : x < y → EV G d M tgt lc st S D S' Post) (kf : ¬ x < y → EV G d M (pc + 3) lc st S D S' Post) : EV G d M pc lc (.int y :: .int x :: st) S D S' Post :=
  ⟨(Classical.em (x < y)).elim (fun h => (kt h).1) (fun h => (kf h).1), fun p e R s m args below meth c H locs cells slots Q ls cx hH hS hl h0 h1 h2 hr => lv_icmp_lt cx.1 cx.2.1 hd ht (fun h => (kt h).2 p e R s m args below meth c H locs cells slots Q ls cx hH hS hl h0 h1 h2 hr) (fun h => (kf h).2 p e R s m args below meth c H locs cells slots Q ls cx hH hS hl h0 h1 h2 hr)⟩
theorem EV.icmp_ge {x y : Int32} {off : Int} {tgt : Nat} (hd : decode M.2.1 pc = .ok (.if_icmp .ge off, 3)) (ht : (pc : Int) + off = (tgt : Int)) (kt : y ≤ x → EV G d M tgt lc st S D S' Post) (kf : ¬ y ≤ x → EV G d M (pc + 3) lc st S D S' Post) : EV G d M pc lc (.int y :: .int x :: st) S D S' Post :=
  ⟨(Classical.em (y ≤ x)).elim (fun h => (kt h).1) (fun h => (kf h).1), fun p e R s m args below meth c H locs cells slots Q ls cx hH hS hl h0 h1 h2 hr => lv_icmp_ge cx.1 cx.2.1 hd ht (fun h => (kt h).2 p e R s m args below meth c H locs cells slots Q ls cx hH hS hl h0 h1 h2 hr) (fun h => (kf h).2 p e R s m args below meth c H locs cells slots Q ls cx hH hS hl h0 h1 h2 hr)⟩
theorem EV.icmp_gt {x y : Int32} {off : Int} {tgt : Nat} (hd : decode M.2.1 pc = .ok (.if_icmp .gt off, 3)) (ht : (pc : Int) + off = (tgt : Int)) (kt : y < x → EV G d M tgt lc st S D S' Post) (kf : ¬ y < x → EV G d M (pc + 3) lc st S D S' Post) : EV G d M pc lc (.int y :: .int x :: st) S D S' Post :=
  ⟨(Classical.em (y < x)).elim (fun h => (kt h).1) (fun h => (kf h).1), fun p e R s m args below meth c H locs cells slots Q ls cx hH hS hl h0 h1 h2 hr => lv_icmp_gt cx.1 cx.2.1 hd ht (fun h => (kt h).2 p e R s m args below meth c H locs cells slots Q ls cx hH hS hl h0 h1 h2 hr) (fun h => (kf h).2 p e R s m args below meth c H locs cells slots Q ls cx hH hS hl h0 h1 h2 hr)⟩
theorem EV.icmp_le {x y : Int32} {off : Int} {tgt : Nat} (hd : decode M.2.1 pc = .ok (.if_icmp .le off, 3)) (ht : (pc : Int) + off = (tgt : Int)) (kt : x ≤ y → EV G d M tgt lc st S D S' Post) (kf : ¬ x ≤ y → EV G d M (pc + 3) lc st S D S' Post) : EV G d M pc lc (.int y :: .int x :: st) S D S' Post :=
  ⟨(Classical.em (x ≤ y)).elim (fun h => (kt h).1) (fun h => (kf h).1), fun p e R s m args below meth c H locs cells slots Q ls cx hH hS hl h0 h1 h2 hr => lv_icmp_le cx.1 cx.2.1 hd ht (fun h => (kt h).2 p e R s m args below meth c H locs cells slots Q ls cx hH hS hl h0 h1 h2 hr) (fun h => (kf h).2 p e R s m args below meth c H locs cells slots Q ls cx hH hS hl h0 h1 h2 hr)⟩
end MXR
theorem mx_Wsz {p : Program} {l : Launch} {e : Env} {R : Room} {s : State} {m : MethodId} {args : Array Value} {below : List Frame} {meth : Method} {c : Code} {H : Heap} {locs : List Loc} {cells slots : Nat} {Q : State → Prop} {g : JFrame} (k : H.size ≤ s.heap.size + cells → W p l e R s m args below meth c H locs cells slots Q g) : W p l e R s m args below meth c H locs cells slots Q g :=
  fun T hT X => k (by rw [← hT]; exact X.heapSize) T hT X
theorem mx_up_self (D : mx_Mem) (k : Nat) : va_up D k (D k) = D := by
  funext i
  unfold va_up
  by_cases h : i = k
  · rw [if_pos h, h]
  · rw [if_neg h]
theorem mx_S0 {A : Nat → Prop} {H0 H : Heap} {locs : List Loc} (h : va_S A H0 H locs) : va_S A H H locs := ⟨Nat.le_refl _, fun _ _ _ => rfl, h.2.2⟩
theorem mx_ST {A : Nat → Prop} {H0 H H1 : Heap} {locs locs1 : List Loc} (h : va_S A H0 H locs) (h1 : va_S A H H1 locs1) : va_S A H0 H1 locs1 :=
  ⟨Nat.le_trans h.1 h1.1, fun q hq hn => (h1.2.1 q (Nat.lt_of_lt_of_le hq h.1) hn).trans (h.2.1 q hq hn), h1.2.2⟩
theorem mx_tys_at {G : mx_G} {t : Nat} {ty : FieldType} (h : mx_ty[t]? = some ty) : (mx_tys G)[t]? = some (mx_cA G t, ty) := by
  obtain ⟨ht, he⟩ := List.getElem?_eq_some_iff.mp h
  simp [mx_tys, ht, he]
/-- a field's link: the field is number j of the class number ci, of type ty -/
def mx_lk (own : String) (idx ci j : Nat) (ty : FieldType) (fin : Bool) : Prop := ∃ q : vw_C, vwCl[ci]? = some q ∧ j < q.2.2 ∧ (q.2.1 j).2.2.2 = fin ∧ parseFieldDescriptor (q.2.1 j).2.2.1 = some ty ∧ (Cond.fieldLink own idx (q.2.1 j).1 (q.2.1 j).2.1 (q.2.1 j).2.2.1 ∈ mx_gw ∨ ∃ host, Cond.fieldLinkNest own idx (q.2.1 j).1 (q.2.1 j).2.1 (q.2.1 j).2.2.1 host ∈ mx_nw)
def mx_rd (x : Int32) : Option (Option Nat) → Value
  | none => .int x
  | some r => va_rf r
theorem mx_rd_cv {G : mx_G} {x : Int32} {fo : Option (Option Nat)} : mx_cv G (mx_rd x fo) = mx_fv G x fo := by
  rcases fo with _ | _ | r <;> rfl
theorem mx_fs_at {G : mx_G} {f : Nat → Int32} {fs : List (Option (Option Nat))} {j : Nat} {fo : Option (Option Nat)} (h : fs[j]? = some fo) : ((List.range fs.length).map fun j => mx_fv G (f j) (fs.getD j none))[j]? = some (mx_fv G (f j) fo) := by
  obtain ⟨hj, he⟩ := List.getElem?_eq_some_iff.mp h
  simp [hj, he]
theorem mx_fs_setI {G : mx_G} {f : Nat → Int32} {fs : List (Option (Option Nat))} {j : Nat} {x : Int32} (h : fs[j]? = some none) : ((List.range fs.length).map fun j => mx_fv G (f j) (fs.getD j none)).set j (.int x) = (List.range fs.length).map fun i => mx_fv G (upd f j x i) (fs.getD i none) := by
  obtain ⟨hj, he⟩ := List.getElem?_eq_some_iff.mp h
  apply List.ext_getElem?
  intro i
  by_cases hi : i = j
  · subst hi
    rw [List.getElem?_set_self (by simpa using hj)]
    simp [hj, he, upd, mx_fv]
  · rw [List.getElem?_set_ne (Ne.symm hi)]
    by_cases hl : i < fs.length
    · simp [hl, upd, hi]
    · rw [List.getElem?_eq_none (by simpa using hl), List.getElem?_eq_none (by simpa using hl)]
theorem mx_fs_setR {G : mx_G} {f : Nat → Int32} {fs : List (Option (Option Nat))} {j r : Nat} {fo : Option (Option Nat)} (h : fs[j]? = some fo) : ((List.range fs.length).map fun j => mx_fv G (f j) (fs.getD j none)).set j (.ref (mx_ad G r)) = (List.range (fs.set j (some (some r))).length).map fun i => mx_fv G (f i) ((fs.set j (some (some r))).getD i none) := by
  have hj : j < fs.length := (List.getElem?_eq_some_iff.mp h).1
  apply List.ext_getElem?
  intro i
  by_cases hi : i = j
  · subst hi
    rw [List.getElem?_set_self (by simpa using hj)]
    simp [hj, mx_fv, va_rf]
  · rw [List.getElem?_set_ne (Ne.symm hi)]
    by_cases hl : i < fs.length
    · simp [hl, List.getElem_set_ne (Ne.symm hi)]
    · rw [List.getElem?_eq_none (by simpa using hl), List.getElem?_eq_none (by simpa using hl)]
theorem mx_step {G : mx_G} {S S2 : List mx_Sh} {D D2 : mx_Mem} {H H1 : Heap} {s : State} {cells : Nat} {locs1 : List Loc} (hH : mx_H G S D H) (h0 : s.heap.size + cells = mx_base G + S.length) (hS1 : va_S (mx_A G) H H1 locs1) (hz : H1.size ≤ s.heap.size + cells) (hl : S2.length = S.length) (hP1 : va_P (mx_dd G) vwCl (mx_ws G S2 D2) H1) : mx_H G S2 D2 H1 := by
  refine ⟨?_, hP1⟩
  have h1 := hS1.1
  have h2 := hH.1
  rw [hl]
  omega
theorem mx_cls {ci : Nat} {q : vw_C} (h : vwCl[ci]? = some q) : (∀ w ∈ u_ws q.1 q.2.1 q.2.2, w ∈ mx_gw) ∧ (∀ k, k < q.2.2 → parseFieldDescriptor (q.2.1 k).2.2.1 = some ((parseFieldDescriptor (q.2.1 k).2.2.1).getD .int)) ∧ ∀ a, a < q.2.2 → ∀ b, b < q.2.2 → a ≠ b → (q.2.1 a).2.1 ≠ (q.2.1 b).2.1 := mx_cls0 q (List.mem_of_getElem? h)
theorem mx_sl_set {S : List mx_Sh} {k : Nat} {sh sh' : mx_Sh} (h : S[k]? = some sh) (hn : mx_n sh' = mx_n sh) : mx_sl (S.set k sh') = mx_sl S := by
  have e : (S.set k sh').map mx_n = S.map mx_n := by
    apply List.ext_getElem?
    intro i
    by_cases hi : i = k
    · subst hi
      have hk : i < S.length := (List.getElem?_eq_some_iff.mp h).1
      rw [List.getElem?_map, List.getElem?_map, List.getElem?_set_self hk, h]
      simp [hn]
    · rw [List.getElem?_map, List.getElem?_map, List.getElem?_set_ne (Ne.symm hi)]
  unfold mx_sl
  rw [e]
section MXH
variable {G : mx_G} {d : Nat} {M : mx_M} {pc : Nat} {lc : List (Option Value)} {st : List Value} {S S' : List mx_Sh} {D : mx_Mem} {Post : Option Value → mx_Mem → Prop}
theorem EV.getfield {idx ci j k : Nat} {ty : FieldType} {fin : Bool} {fs : List (Option (Option Nat))} {fo : Option (Option Nat)} (hl : mx_lk M.1.cls idx ci j ty fin) (hd : decode M.2.1 pc = .ok (.getfield idx, 3)) (hk : S[k]? = some (.inl (ci, fs))) (hj : fs[j]? = some fo) (kk : EV G d M (pc + 3) lc (mx_rd (D k j) fo :: st) S D S' Post) : EV G d M pc lc (.ref k :: st) S D S' Post := by
  refine ⟨kk.1, fun p e R s m args below meth c H locs cells slots Q ls cx hH hS hlv h0 h1 h2 hr => ?_⟩
  have K := kk.2 p e R s m args below meth c H locs cells slots Q ls cx hH hS hlv h0 h1 h2 hr
  obtain ⟨hx, hb, -, -, hown, hts, hnw, hK, -⟩ := cx
  obtain ⟨q, hq, hjN, -, -, hlink⟩ := hl
  obtain ⟨hin, -, -⟩ := mx_cls hq
  have hv : ((List.range fs.length).map fun j => mx_fv G (D k j) (fs.getD j none))[j]? = some (mx_cv G (mx_rd (D k j) fo)) := by rw [mx_rd_cv]; exact mx_fs_at hj
  rcases hlink with hlink | ⟨host, hlink⟩
  · exact va_get (C := q.1) (T := q.2.1) (N := q.2.2) hx hb hts hin hown hK hH.2 k (mx_ws_at hk) hq j hjN (hts _ hlink) (fun _ h => h) hv hd K
  · exact va_getN (C := q.1) (T := q.2.1) (N := q.2.2) hx hb hts hin hown hK hH.2 k (mx_ws_at hk) hq j hjN (va_Nw.use rfl (hnw.1 _ hlink)) (fun _ h => h) hv hd K
theorem EV.getI {idx ci j k : Nat} {ty : FieldType} {fin : Bool} {fs : List (Option (Option Nat))} (hl : mx_lk M.1.cls idx ci j ty fin) (hd : decode M.2.1 pc = .ok (.getfield idx, 3)) (hk : S[k]? = some (.inl (ci, fs))) (hj : fs[j]? = some none) (kk : EV G d M (pc + 3) lc (.int (D k j) :: st) S D S' Post) : EV G d M pc lc (.ref k :: st) S D S' Post := EV.getfield hl hd hk hj kk
theorem EV.getR {idx ci j k r : Nat} {ty : FieldType} {fin : Bool} {fs : List (Option (Option Nat))} (hl : mx_lk M.1.cls idx ci j ty fin) (hd : decode M.2.1 pc = .ok (.getfield idx, 3)) (hk : S[k]? = some (.inl (ci, fs))) (hj : fs[j]? = some (some (some r))) (kk : EV G d M (pc + 3) lc (.ref r :: st) S D S' Post) : EV G d M pc lc (.ref k :: st) S D S' Post := EV.getfield hl hd hk hj kk
theorem EV.putI {idx ci j k : Nat} {ty : FieldType} {fs : List (Option (Option Nat))} {x : Int32} (hl : mx_lk M.1.cls idx ci j ty false) (hd : decode M.2.1 pc = .ok (.putfield idx, 3)) (hk : S[k]? = some (.inl (ci, fs))) (hj : fs[j]? = some none) (hn : narrow ty (.int x) = .int x) (hf : fits ty (.int x) = true) (kk : EV G d M (pc + 3) lc st S (mx_w D k j x) S' Post) : EV G d M pc lc (.int x :: .ref k :: st) S D S' Post := by
  refine ⟨kk.1, fun p e R s m args below meth c H locs cells slots Q ls cx hH hS hlv h0 h1 h2 hr => ?_⟩
  have K := fun H1 locs1 hH1 hS1 => kk.2 p e R s m args below meth c H1 locs1 cells slots Q ls cx hH1 hS1 hlv h0 h1 h2 hr
  obtain ⟨hx, hb, -, -, hown, hts, hnw, hK, -⟩ := cx
  obtain ⟨q, hq, hjN, hfin, hty, hlink⟩ := hl
  obtain ⟨hin, hty0, hnm⟩ := mx_cls hq
  have hjl : j < fs.length := (List.getElem?_eq_some_iff.mp hj).1
  have fin : ∀ (H1 : Heap) (locs1 : List Loc), va_P (mx_dd G) vwCl ((mx_ws G S D).set k (mx_ad G k, .inr (ci, ((List.range fs.length).map fun j => mx_fv G (D k j) (fs.getD j none)).set j (.int x)))) H1 → va_S (mx_A G) H H1 locs1 → W p G.1 e R s m args below meth c H1 locs1 cells slots Q (F0 m (pc + 3) ls (st.map (mx_cv G))) := by
    intro H1 locs1 hP1 hS1
    refine mx_Wsz fun hz => ?_
    rw [mx_fs_setI hj] at hP1
    have e1 := mx_set (G := G) (D := D) (sh' := .inl (ci, fs)) (f := upd (D k) j x) hk
    have e2 : va_P (mx_dd G) vwCl ((mx_ws G S D).set k (mx_ad G k, mx_E G (upd (D k) j x) (.inl (ci, fs)))) H1 := hP1
    rw [e1, mx_setS hk] at e2
    exact K H1 locs1 (mx_step (s := s) hH h0 hS1 hz rfl e2) (mx_ST hS hS1)
  rcases hlink with hlink | ⟨host, hlink⟩
  · exact va_put (C := q.1) (T := q.2.1) (N := q.2.2) hx hb hts hin _ hty0 hnm hown hK hH.2 mx_DD (mx_S0 hS) k (mx_ws_at hk) hq j hjN (hts _ hlink) (fun _ h => h) hfin hty hn hf (by simpa using hjl) hd (fun H1 locs1 hP1 _ hS1 => fin H1 locs1 hP1 hS1)
  · exact va_putN (C := q.1) (T := q.2.1) (N := q.2.2) hx hb hts hin _ hty0 hnm hown hK hH.2 mx_DD (mx_S0 hS) k (mx_ws_at hk) hq j hjN (va_Nw.use rfl (hnw.1 _ hlink)) (fun _ h => h) hfin hty hn hf (by simpa using hjl) hd (fun H1 locs1 hP1 _ hS1 => fin H1 locs1 hP1 hS1)
/-- a reference into a final field, by the class's own constructor -/
theorem EV.putR {idx ci j k r : Nat} {ty : FieldType} {fs : List (Option (Option Nat))} {fo : Option Nat} (hl : ∃ q : vw_C, vwCl[ci]? = some q ∧ j < q.2.2 ∧ (q.2.1 j).2.2.2 = true ∧ parseFieldDescriptor (q.2.1 j).2.2.1 = some ty ∧ Cond.fieldLink M.1.cls idx (q.2.1 j).1 (q.2.1 j).2.1 (q.2.1 j).2.2.1 ∈ mx_gw ∧ (q.2.1 j).1 = M.1.cls) (hini : M.1.name = "<init>") (hd : decode M.2.1 pc = .ok (.putfield idx, 3)) (hk : S[k]? = some (.inl (ci, fs))) (hj : fs[j]? = some (some fo)) (hn : ∀ a : Nat, narrow ty (.ref a) = .ref a) (hf : ∀ a : Nat, fits ty (.ref a) = true) (kk : EV G d M (pc + 3) lc st (S.set k (.inl (ci, fs.set j (some (some r))))) D S' Post) : EV G d M pc lc (.ref r :: .ref k :: st) S D S' Post := by
  have hkl : k < S.length := (List.getElem?_eq_some_iff.mp hk).1
  have hsl : mx_sl (S.set k (.inl (ci, fs.set j (some (some r))))) = mx_sl S := mx_sl_set hk (by simp [mx_n])
  refine ⟨by have := kk.1; rw [hsl, List.length_set] at this; exact this, fun p e R s m args below meth c H locs cells slots Q ls cx hH hS hlv h0 h1 h2 hr => ?_⟩
  have K := fun H1 locs1 hH1 hS1 => kk.2 p e R s m args below meth c H1 locs1 cells slots Q ls cx hH1 hS1 hlv (by rw [List.length_set]; exact h0) (by rw [List.length_set]; exact h1) (by rw [hsl]; exact h2) (by rw [hsl, List.length_set]; exact hr)
  obtain ⟨hx, hb, -, -, hown, hts, hnw, hK, -, hname, -⟩ := cx
  obtain ⟨q, hq, hjN, hfin, hty, hlink, hdecl⟩ := hl
  obtain ⟨hin, hty0, hnm⟩ := mx_cls hq
  have hjl : j < fs.length := (List.getElem?_eq_some_iff.mp hj).1
  refine va_putF (C := q.1) (T := q.2.1) (N := q.2.2) hx hb hts hin _ hty0 hnm hown hK hH.2 mx_DD (mx_S0 hS) k (mx_ws_at hk) hq j hjN (hts _ hlink) (fun _ h => h) hfin (hname.trans hini) hdecl hty (hn _) (hf _) (by simpa using hjl) hd (fun H1 locs1 hP1 _ hS1 => ?_)
  refine mx_Wsz fun hz => ?_
  have hP1 : va_P (mx_dd G) vwCl ((mx_ws G S D).set k (mx_ad G k, .inr (ci, ((List.range fs.length).map fun j => mx_fv G (D k j) (fs.getD j none)).set j (.ref (mx_ad G r))))) H1 := hP1
  rw [mx_fs_setR hj] at hP1
  have e1 := mx_set (G := G) (D := D) (sh' := .inl (ci, fs.set j (some (some r)))) (f := D k) hk
  have e2 : va_P (mx_dd G) vwCl ((mx_ws G S D).set k (mx_ad G k, mx_E G (D k) (.inl (ci, fs.set j (some (some r)))))) H1 := hP1
  have e3 : va_up D k (D k) = D := mx_up_self D k
  rw [e1, e3] at e2
  exact K H1 locs1 (mx_step (s := s) hH h0 hS1 hz (by simp) e2) (mx_ST hS hS1)
theorem EV.iald {k t n : Nat} {i : Int32} (hd : decode M.2.1 pc = .ok (.iaload, 1)) (hk : S[k]? = some (.inr (.inl (t, n)))) (ht : mx_ty[t]? = some .int) (hi : vp_in i n) (kk : EV G d M (pc + 1) lc (.int (D k i.toNatClampNeg) :: st) S D S' Post) : EV G d M pc lc (.int i :: .ref k :: st) S D S' Post := by
  refine ⟨kk.1, fun p e R s m args below meth c H locs cells slots Q ls cx hH hS hlv h0 h1 h2 hr => ?_⟩
  have K := kk.2 p e R s m args below meth c H locs cells slots Q ls cx hH hS hlv h0 h1 h2 hr
  obtain ⟨hx, hb, -, -, hown, hts, hnw, hK, -⟩ := cx
  exact va_iald hx hb hK hH.2 k t (mx_ws_at hk) (mx_tys_at ht) hi hd K
theorem EV.cald {k t n : Nat} {i : Int32} (hd : decode M.2.1 pc = .ok (.caload, 1)) (hk : S[k]? = some (.inr (.inl (t, n)))) (ht : mx_ty[t]? = some .char) (hi : vp_in i n) (kk : EV G d M (pc + 1) lc (.int (D k i.toNatClampNeg) :: st) S D S' Post) : EV G d M pc lc (.int i :: .ref k :: st) S D S' Post := by
  refine ⟨kk.1, fun p e R s m args below meth c H locs cells slots Q ls cx hH hS hlv h0 h1 h2 hr => ?_⟩
  have K := kk.2 p e R s m args below meth c H locs cells slots Q ls cx hH hS hlv h0 h1 h2 hr
  obtain ⟨hx, hb, -, -, hown, hts, hnw, hK, -⟩ := cx
  exact va_cald hx hb hK hH.2 k t (mx_ws_at hk) (mx_tys_at ht) hi hd K
theorem EV.aald {k t r : Nat} {i : Int32} {ty : FieldType} {rs : List (Option Nat)} (hd : decode M.2.1 pc = .ok (.aaload, 1)) (hk : S[k]? = some (.inr (.inr (t, rs)))) (ht : mx_ty[t]? = some ty) (hty : ty.isReference = true) (hi0 : ¬ i < 0) (hi : rs[i.toNatClampNeg]? = some (some r)) (kk : EV G d M (pc + 1) lc (.ref r :: st) S D S' Post) : EV G d M pc lc (.int i :: .ref k :: st) S D S' Post := by
  refine ⟨kk.1, fun p e R s m args below meth c H locs cells slots Q ls cx hH hS hlv h0 h1 h2 hr => ?_⟩
  have K := kk.2 p e R s m args below meth c H locs cells slots Q ls cx hH hS hlv h0 h1 h2 hr
  obtain ⟨hx, hb, -, -, hown, hts, hnw, hK, -⟩ := cx
  have hlt : i.toNatClampNeg < rs.length := (List.getElem?_eq_some_iff.mp hi).1
  have hcell : H[mx_ad G k]? = some (vp_cell (mx_cA G t) (rs.length, .inr (.inr (.inr (.inr fun j => (rs.getD j none).map (mx_ad G)))))) := hH.2 k _ (mx_ws_at hk)
  refine W.aald (v := .ref (mx_ad G r)) (ty := ty) hx hb hcell ((hK.2 t _ (mx_tys_at ht)).1 rs.length (fun j => va_rf ((rs.getD j none).map (mx_ad G)))) hty (fun q => by cases q) (by show ¬ (i < 0 ∨ (arrV _ _ _).slots.size ≤ _); rw [arrV_size]; exact fun h => h.elim hi0 (fun h => by omega)) ?_ rfl rfl hd K
  show (arrV _ _ _).slots[_]? = _
  rw [arrV_read _ _ hlt]
  simp [hi, va_rf]
theorem EV.iast {k t n : Nat} {i x : Int32} (hd : decode M.2.1 pc = .ok (.iastore, 1)) (hk : S[k]? = some (.inr (.inl (t, n)))) (ht : mx_ty[t]? = some .int) (hi : vp_in i n) (kk : EV G d M (pc + 1) lc st S (mx_w D k i.toNatClampNeg x) S' Post) : EV G d M pc lc (.int x :: .int i :: .ref k :: st) S D S' Post := by
  refine ⟨kk.1, fun p e R s m args below meth c H locs cells slots Q ls cx hH hS hlv h0 h1 h2 hr => ?_⟩
  have K := fun H1 locs1 hH1 hS1 => kk.2 p e R s m args below meth c H1 locs1 cells slots Q ls cx hH1 hS1 hlv h0 h1 h2 hr
  obtain ⟨hx, hb, -, -, hown, hts, hnw, hK, -⟩ := cx
  refine va_iast hx hb hK hH.2 mx_DD (mx_S0 hS) k t (mx_ws_at hk) (mx_tys_at ht) hi hd (fun H1 locs1 hP1 _ hS1 => mx_Wsz fun hz => ?_)
  have e1 := mx_set (G := G) (D := D) (sh' := .inr (.inl (t, n))) (f := upd (D k) i.toNatClampNeg x) hk
  have e2 : va_P (mx_dd G) vwCl ((mx_ws G S D).set k (mx_ad G k, mx_E G (upd (D k) i.toNatClampNeg x) (.inr (.inl (t, n))))) H1 := hP1
  rw [e1, mx_setS hk] at e2
  exact K H1 locs1 (mx_step (s := s) hH h0 hS1 hz rfl e2) (mx_ST hS hS1)
theorem EV.cast {k t n : Nat} {i x : Int32} (hd : decode M.2.1 pc = .ok (.castore, 1)) (hk : S[k]? = some (.inr (.inl (t, n)))) (ht : mx_ty[t]? = some .char) (hi : vp_in i n) (hn : narrow .char (.int x) = .int x) (kk : EV G d M (pc + 1) lc st S (mx_w D k i.toNatClampNeg x) S' Post) : EV G d M pc lc (.int x :: .int i :: .ref k :: st) S D S' Post := by
  refine ⟨kk.1, fun p e R s m args below meth c H locs cells slots Q ls cx hH hS hlv h0 h1 h2 hr => ?_⟩
  have K := fun H1 locs1 hH1 hS1 => kk.2 p e R s m args below meth c H1 locs1 cells slots Q ls cx hH1 hS1 hlv h0 h1 h2 hr
  obtain ⟨hx, hb, -, -, hown, hts, hnw, hK, -⟩ := cx
  refine va_cast hx hb hK hH.2 mx_DD (mx_S0 hS) k t (mx_ws_at hk) (mx_tys_at ht) hi hd (fun H1 locs1 hP1 _ hS1 => mx_Wsz fun hz => ?_)
  have e0 : vp_nar .char x = x := by unfold vp_nar; rw [hn]
  have e1 := mx_set (G := G) (D := D) (sh' := .inr (.inl (t, n))) (f := upd (D k) i.toNatClampNeg x) hk
  rw [e0] at hP1
  have e2 : va_P (mx_dd G) vwCl ((mx_ws G S D).set k (mx_ad G k, mx_E G (upd (D k) i.toNatClampNeg x) (.inr (.inl (t, n))))) H1 := hP1
  rw [e1, mx_setS hk] at e2
  exact K H1 locs1 (mx_step (s := s) hH h0 hS1 hz rfl e2) (mx_ST hS hS1)
theorem EV.alen {k t n : Nat} {ty : FieldType} {v : Int32} (hd : decode M.2.1 pc = .ok (.arraylength, 1)) (hk : S[k]? = some (.inr (.inl (t, n)))) (ht : mx_ty[t]? = some ty) (hv : Int32.ofNat n = v) (kk : EV G d M (pc + 1) lc (.int v :: st) S D S' Post) : EV G d M pc lc (.ref k :: st) S D S' Post := by
  refine ⟨kk.1, fun p e R s m args below meth c H locs cells slots Q ls cx hH hS hlv h0 h1 h2 hr => ?_⟩
  have K := kk.2 p e R s m args below meth c H locs cells slots Q ls cx hH hS hlv h0 h1 h2 hr
  obtain ⟨hx, hb, -, -, hown, hts, hnw, hK, -⟩ := cx
  exact va_alen hx hb hK hH.2 k t (mx_ws_at hk) (mx_tys_at ht) hv hd K
/-- the script -/
theorem EV.aload_s {n : Fin 4} (hd : decode M.2.1 pc = .ok (.aload_n n, 1)) (h : lc[(n : Nat)]? = some (some (.retAddr 0))) (k : EV G d M (pc + 1) lc (.retAddr 0 :: st) S D S' Post) : EV G d M pc lc st S D S' Post :=
  ⟨k.1, fun p e R s m args below meth c H locs cells slots Q ls cx hH hS hl h0 h1 h2 hr => lv_aload_n cx.1 cx.2.1 hd rfl (mx_lv_at hl h rfl) (k.2 p e R s m args below meth c H locs cells slots Q ls cx hH hS hl h0 h1 h2 hr)⟩
theorem EV.sld {i : Int32} (hd : decode M.2.1 pc = .ok (.iaload, 1)) (hi : vp_in i (mx_L G)) (kk : EV G d M (pc + 1) lc (.int (mx_xs G i.toNatClampNeg) :: st) S D S' Post) : EV G d M pc lc (.int i :: .retAddr 0 :: st) S D S' Post := by
  refine ⟨kk.1, fun p e R s m args below meth c H locs cells slots Q ls cx hH hS hlv h0 h1 h2 hr => ?_⟩
  have K := kk.2 p e R s m args below meth c H locs cells slots Q ls cx hH hS hlv h0 h1 h2 hr
  obtain ⟨hx, hb, -, -, hown, hts, hnw, hK, -, -, ⟨hX, hbb, hbs⟩, -⟩ := cx
  show W p G.1 e R s m args below meth c H locs cells slots Q (F0 m pc ls (.int i :: .ref (mx_b G) :: st.map (mx_cv G)))
  exact va_sld hx hb hX (by omega) (by show ¬ mx_base G ≤ mx_b G; omega) hS hi hd K
theorem EV.slen {v : Int32} (hd : decode M.2.1 pc = .ok (.arraylength, 1)) (hv : Int32.ofNat (mx_L G) = v) (kk : EV G d M (pc + 1) lc (.int v :: st) S D S' Post) : EV G d M pc lc (.retAddr 0 :: st) S D S' Post := by
  subst hv
  refine ⟨kk.1, fun p e R s m args below meth c H locs cells slots Q ls cx hH hS hlv h0 h1 h2 hr => ?_⟩
  have K := kk.2 p e R s m args below meth c H locs cells slots Q ls cx hH hS hlv h0 h1 h2 hr
  obtain ⟨hx, hb, -, -, hown, hts, hnw, hK, -, -, ⟨hX, hbb, hbs⟩, -⟩ := cx
  show W p G.1 e R s m args below meth c H locs cells slots Q (F0 m pc ls (.ref (mx_b G) :: st.map (mx_cv G)))
  exact va_slen hx hb hX (by omega) (by show ¬ mx_base G ≤ mx_b G; omega) hS hd K
/-- the answer -/
theorem EV.ret {rv : Option Value} (hd : mx_ret M pc rv) (hp : Post rv D) : EV G d M pc lc rv.toList S D S Post := by
  refine ⟨⟨Nat.le_refl _, Nat.le_refl _⟩, fun p e R s m args below meth c H locs cells slots Q ls cx hH hS hlv h0 h1 h2 hr => ?_⟩
  have K := hr rv D H locs pc ls hp hH hS hd
  rw [Nat.sub_self, Nat.sub_self] at K
  cases rv <;> exact K
theorem EV.ireturn {x : Int32} (hd : decode M.2.1 pc = .ok (.ireturn, 1)) (hy : ∃ ty, M.2.2.2 = some ty ∧ narrow ty (.int x) = .int x) (hp : Post (some (.int x)) D) : EV G d M pc lc [.int x] S D S Post := EV.ret (rv := some (.int x)) ⟨hd, hy⟩ hp
theorem EV.areturn {r : Nat} (hd : decode M.2.1 pc = .ok (.areturn, 1)) (hy : ∃ n, M.2.2.2 = some (.object n)) (hp : Post (some (.ref r)) D) : EV G d M pc lc [.ref r] S D S Post := EV.ret (rv := some (.ref r)) ⟨hd, hy⟩ hp
theorem EV.return_ (hd : decode M.2.1 pc = .ok (.return_, 1)) (hy : M.2.2.2 = none) (hp : Post none D) : EV G d M pc lc [] S D S Post := EV.ret (rv := none) ⟨hd, hy⟩ hp
end MXH
def mx_lc0 (M : mx_M) (avs : List Value) : List (Option Value) := avs.map some ++ List.replicate (M.2.2.1 - avs.length) none
def mx_Pc (G : mx_G) (avs : List Value) (S : List mx_Sh) (D : mx_Mem) : Array Value → State → Prop := va_Pc (avs.map (mx_cv G)) (fun U => mx_H G S D U.heap ∧ va_K (mx_dd G) vwCl (mx_tys G) U ∧ mx_NW U ∧ va_X (mx_b G) (mx_L G) (mx_xs G) U U.heap ∧ mx_b G < mx_base G)
def mx_Qc (G : mx_G) (S' : List mx_Sh) (Post : Option Value → mx_Mem → Prop) : Array Value → State → Outcome → State → Prop := fun _ st o t => (∃ (rv : Option Value) (D' : mx_Mem), o = .returned (rv.map (mx_cv G)) ∧ Post rv D' ∧ mx_H G S' D' t.heap) ∧ va_F (mx_A G) st t
def mx_rm (d : Nat) (S S' : List mx_Sh) : Room := { frames := d, cells := S'.length - S.length, slots := mx_sl S' - mx_sl S, locals := mx_KL * d }
def mx_wM (M : mx_M) : List Cond := .code M.1 M.2.1 M.2.2.1 M.2.2.2 :: mx_gw
theorem mx_args : ∀ (vs : List Value) (i j : Nat) (v : Value), (∀ w ∈ vs, w.category = 1) → vs[j]? = some v → (i + j, v) ∈ lv_args i vs := by
  intro vs
  induction vs with
  | nil => intro i j v _ h; simp at h
  | cons w t ih =>
    intro i j v hc h
    have hw : w.category = 1 := hc w List.mem_cons_self
    cases j with
    | zero =>
      simp at h
      subst h
      exact List.mem_cons_self
    | succ j =>
      have h2 : t[j]? = some v := by simpa using h
      have := ih (i + 1) j v (fun w hw => hc w (List.mem_cons_of_mem _ hw)) h2
      unfold lv_args
      rw [if_neg (by omega)]
      refine List.mem_cons_of_mem _ ?_
      rw [show i + (j + 1) = i + 1 + j by omega]
      exact this
theorem mx_sl_len : ∀ vs : List Value, (∀ w ∈ vs, w.category = 1) → (lg_sl vs).length = vs.length := by
  intro vs
  induction vs with
  | nil => intro _; rfl
  | cons w t ih =>
    intro hc
    have hw : w.category = 1 := hc w List.mem_cons_self
    have h2 := ih (fun w hw => hc w (List.mem_cons_of_mem _ hw))
    unfold lg_sl at h2 ⊢
    rw [List.flatMap_cons, List.length_append, if_neg (by omega), h2]
    simp
    omega
theorem mx_lc0_at {M : mx_M} {avs : List Value} {i : Nat} {v : Value} (h : (mx_lc0 M avs)[i]? = some (some v)) : avs[i]? = some v := by
  unfold mx_lc0 at h
  by_cases hi : i < avs.length
  · rw [List.getElem?_append_left (by simpa using hi)] at h
    simpa using h
  · rw [List.getElem?_append_right (by simpa using hi)] at h
    have := List.mem_of_getElem? h
    simp at this
theorem mx_gw_good {w : Cond} (h : w ∈ mx_gw) : (w.onTables && w.keeps) = true ∨ ∃ ty, w = .arrayClass ty := by
  have h2 := (List.mem_filter.mp h).2
  unfold mx_good at h2
  rw [Bool.or_eq_true] at h2
  rcases h2 with h2 | h2
  · exact Or.inl h2
  · right
    cases w <;> simp at h2
    exact ⟨_, rfl⟩
section MXM
variable {G : mx_G} {d : Nat} {M : mx_M} {S S' : List mx_Sh} {D : mx_Mem} {Post : Option Value → mx_Mem → Prop}
theorem mx_met {avs : List Value} (hc : ∀ v ∈ avs, v.category = 1) (hn : avs.length ≤ M.2.2.1) (hy : plainName M.1.cls = true) (hE : EV G d M 0 (mx_lc0 M avs) [] S D S' Post) : Met G.1 M.1 (mx_wM M) (mx_rm d S S') (mx_Pc G avs S D) (mx_Qc G S' Post) (S'.length - S.length) (mx_sl S' - mx_sl S) (mx_A G) := by
  refine Met.ofW (cc := M.2.1) (maxL := M.2.2.1) (ret := M.2.2.2) hy rfl ?_
  intro p e s m args below meth c s₁ B hml hv
  obtain ⟨rfl, hH, hK, hNW, hX, hbb⟩ := hv
  have hts0 := atoms_spec (ws := mx_wM M) B.pre
  have hts : ∀ w ∈ mx_gw, w.before (avs.map (mx_cv G)).toArray s = true := fun w hw => hts0 w (List.mem_cons_of_mem _ hw)
  have hown : s.vm.findClass M.1.cls = some m.cls := findClass_of_methodNamed B.named
  have hname : meth.name = M.1.name := (name_of_methodNamed B.named B.method).1
  have hlocks := B.notSynchronized
  have hx := B.exec
  have hb := B.bytes
  have hr := B.returns
  have hcm : ∀ v ∈ avs.map (mx_cv G), v.category = 1 := by
    intro v hv
    obtain ⟨w, hw, rfl⟩ := List.mem_map.mp hv
    rw [mx_cv_cat]
    exact hc w hw
  have hl0 := lv_entry (avs.map (mx_cv G)) (n := M.2.2.1) (by rw [mx_sl_len _ hcm, List.length_map]; exact hn)
  rw [lg_entry_eq]
  generalize (lg_sl (avs.map (mx_cv G)) ++ List.replicate (M.2.2.1 - (lg_sl (avs.map (mx_cv G))).length) Slot.unset).toArray = ls at hl0 ⊢
  have hcx : mx_Cx G d M p (headSpec (mx_wM M) (mx_rm d S S')).room s m (avs.map (mx_cv G)).toArray meth c := ⟨hx, hb, hr, hml, hown, hts, hNW, hK, hlocks, hname, ⟨hX, hbb, by rw [hH.1]; omega⟩, Nat.le_refl _, Nat.le_refl _⟩
  refine hE.2 p e _ s m _ below meth c s.heap [] 0 0 _ ls hcx hH va_S.rf (mx_lv_sub hl0 fun q hq => ?_) (by rw [hH.1]; omega) (by show 0 + _ ≤ (S'.length - S.length) + S.length; have := hE.1.1; omega) (by show 0 + _ ≤ (mx_sl S' - mx_sl S) + mx_sl S; have := hE.1.2; omega) ?_
  · obtain ⟨v, a1, a2, a3⟩ := mx_lv_mem.mp hq
    have h2 := mx_lc0_at a1
    have := mx_args (avs.map (mx_cv G)) 0 q.1 (mx_cv G v) hcm (by rw [List.getElem?_map, h2]; rfl)
    rw [Nat.zero_add, ← a3] at this
    exact this
  · intro rv D' H' locs' pc' ls' hp hH' hS' hret
    rw [Nat.zero_add, Nat.zero_add]
    have hq : ∀ t : State, t.heap = H' → s.WarmedH t.vm → mx_Qc G S' Post (avs.map (mx_cv G)).toArray s (.returned (rv.map (mx_cv G))) t := fun t ht _ => ⟨⟨rv, D', rfl, hp, by rw [ht]; exact hH'⟩, hS'.F ht⟩
    cases rv with
    | none => exact W.vret hx hb (hr.trans hret.2) hq hS'.2.2 hret.1
    | some v =>
      cases v with
      | int x =>
        obtain ⟨hd, ty, hty, hnr⟩ := hret
        exact W.zret hx hb (hr.trans hty) hnr hq hS'.2.2 hd
      | ref r =>
        obtain ⟨hd, n, hty⟩ := hret
        exact W.aret hx hb (hr.trans hty) (Or.inl ⟨n, rfl⟩) (Or.inr ⟨_, rfl⟩) hq hS'.2.2 hd
      | _ => exact hret.elim
theorem mx_blind {avs : List Value} : FrameBlind (mx_Pc G avs S D) := by
  intro a U g mk h
  obtain ⟨h1, hH, hK, hNW, hX, hbb⟩ := h
  exact ⟨h1, hH, va_K.moved (u := U) (U := U.calling g mk a) (Vm.Alike.refl U.vm) hK, mx_NW_same (u := U) (U := U.calling g mk a) rfl hNW, va_X.moved (u := U) (U := U.calling g mk a) (Vm.Alike.refl U.vm) hX, hbb⟩
/-- what is known of a method that is called: n arguments (without the object) -/
def mx_cal (M2 : mx_M) (n : Nat) : Prop := Cond.code M2.1 M2.2.1 M2.2.2.1 M2.2.2.2 ∈ mx_gw ∧ Cond.initialized M2.1.cls ∈ mx_gw ∧ plainName M2.1.cls = true ∧ (M2.1.cls ≠ "java/lang/invoke/MethodHandle" ∧ M2.1.cls ≠ "java/lang/invoke/VarHandle" ∧ (parseMethodDescriptor M2.1.desc).map (fun d => d.parameters.length) = some n) ∧ 8 + (M2.2.2.1 + 11) ≤ mx_KL
def mx_ml (own : String) (idx : Nat) (M2 : mx_M) : Prop := Cond.methodLink own idx M2.1 ∈ mx_gw ∨ ∃ host, Cond.methodLinkNest own idx M2.1 host ∈ mx_nw
theorem mx_call {p : Program} {e : Env} {R : Room} {s : State} {m : MethodId} {args : Array Value} {below : List Frame} {meth : Method} {c : Code} {H : Heap} {locs : List Loc} {cells slots : Nat} {Q : State → Prop} {pc : Nat} {ls : Array Slot} {st0 rest : List Value} {S1 : List mx_Sh} {P1 : Option Value → mx_Mem → Prop} {a : Array Value} {mc ms : Nat}
    (hr : va_Run p G.1 e R s m args below meth c H locs cells slots mc ms (F0 m pc ls st0) rest (mx_Qc G S1 P1 a) (mx_A G)) (hS : va_S (mx_A G) s.heap H locs)
    (kk : ∀ (rv : Option Value) (D1 : mx_Mem) (H1 : Heap) (locs1 : List Loc), P1 rv D1 → mx_H G S1 D1 H1 → va_S (mx_A G) s.heap H1 locs1 → W p G.1 e R s m args below meth c H1 locs1 (cells + mc) (slots + ms) Q (F0 m (pc + 3) ls ((rv.map (mx_cv G)).toList ++ rest))) : W p G.1 e R s m args below meth c H locs cells slots Q (F0 m pc ls st0) := by
  intro T hT X
  obtain ⟨v, st₀, t, T', L, h0, X', hL, e1, e2, ⟨⟨rv, D1, hv, hp, hH1⟩, hz, hk⟩, stp⟩ := hr T hT X
  cases hv
  rw [h0] at hz hk
  obtain ⟨t2, a1, b1⟩ := kk rv D1 T'.heap (locs ++ L) hp (by rw [e1]; exact hH1)
    ⟨Nat.le_trans hS.1 (by rw [e1]; exact hz), fun q h1 h2 => by rw [e1, hk q (Nat.lt_of_lt_of_le h1 hS.1) h2]; exact hS.2.1 q h1 h2, fun q hq => by
      rcases List.mem_append.mp hq with h | h
      · exact hS.2.2 q h
      · exact hL q h⟩ T' rfl X'
  exact ⟨t2, stp t2 a1, b1⟩
theorem mx_pre {s : State} {H : Heap} {locs : List Loc} {avs : List Value} {d : Nat} {M : mx_M} {p : Program} {R : Room} {m : MethodId} {args : Array Value} {meth : Method} {c : Code} (cx : mx_Cx G d M p R s m args meth c) (hH : mx_H G S D H) (hS : va_S (mx_A G) s.heap H locs) : ∀ U : State, U.heap = H → s.WarmedH U.vm → mx_Pc G avs S D (avs.map (mx_cv G)).toArray U := by
  intro U hU hW
  obtain ⟨-, -, -, -, -, -, hNW, hK, -, -, ⟨hX, hbb, hbs⟩, -⟩ := cx
  refine ⟨rfl, by rw [hU]; exact hH, va_K.moved hW.alike hK, mx_NW_warm hW hNW, ?_, hbb⟩
  refine va_X.moved hW.alike (hX.kept ?_)
  rw [hU]
  exact hS.2.1 _ (by omega) (by show ¬ mx_base G ≤ mx_b G; omega)
theorem mx_goodM {M2 : mx_M} (h : Cond.code M2.1 M2.2.1 M2.2.2.1 M2.2.2.2 ∈ mx_gw) : GoodIn mx_gw (mx_wM M2) := by
  intro w hw
  rcases List.mem_cons.mp hw with rfl | hw
  · exact ⟨h, mx_gw_good h⟩
  · exact ⟨hw, mx_gw_good hw⟩
theorem mx_W8 {rest : List Value} (h : rest.length ≤ 8) (hc : ∀ v ∈ rest, v.category = 1) : ((rest.map (mx_cv G)).map fun v => v.category).sum ≤ 8 := by
  have : ((rest.map (mx_cv G)).map fun v => v.category).sum = rest.length := by
    clear h
    induction rest with
    | nil => rfl
    | cons v t ih =>
      have h2 := ih (fun v hv => hc v (List.mem_cons_of_mem _ hv))
      have h1 := hc v List.mem_cons_self
      simp only [List.map_cons, List.sum_cons, List.length_cons, mx_cv_cat, h1]
      rw [h2]
      omega
  omega
end MXM
def mx_V (own : String) (idx : Nat) (M2 : mx_M) (n ci : Nat) : Prop := mx_ml own idx M2 ∧ mx_cal M2 n ∧ (Cond.instanceMethod M2.1 ∈ mx_gw ∧ Cond.selects M2.1.cls M2.1 M2.1 ∈ mx_gw) ∧ (∃ q : vw_C, vwCl[ci]? = some q ∧ q.1 = M2.1.cls) ∧ n + 1 ≤ M2.2.2.1
def mx_Sc (own : String) (idx : Nat) (M2 : mx_M) (n : Nat) : Prop := mx_ml own idx M2 ∧ mx_cal M2 n ∧ Cond.static M2.1 ∈ mx_gw ∧ n ≤ M2.2.2.1
def mx_Ic (own : String) (idx : Nat) (M2 : mx_M) (n : Nat) : Prop := mx_ml own idx M2 ∧ mx_cal M2 n ∧ Cond.instanceMethod M2.1 ∈ mx_gw ∧ M2.1.name = "<init>" ∧ M2.2.2.2 = none ∧ n + 1 ≤ M2.2.2.1
theorem mx_all1 {l : List Value} (h : l.all (fun v => v.category == 1) = true) : ∀ v ∈ l, v.category = 1 := by
  intro v hv
  have := List.all_eq_true.mp h v hv
  simpa using this
section MXC
variable {G : mx_G} {d : Nat} {M M2 : mx_M} {pc : Nat} {lc : List (Option Value)} {st avs rest : List Value} {S S1 S' : List mx_Sh} {D : mx_Mem} {Post P1 : Option Value → mx_Mem → Prop}
theorem EV.callG {a : Array Value} (hrun : ∀ (p : Program) (e : Env) (R : Room) (s : State) (m : MethodId) (args : Array Value) (below : List Frame) (meth : Method) (c : Code) (H : Heap) (locs : List Loc) (cells slots : Nat) (ls : Array Slot), mx_Cx G (d + 1) M p R s m args meth c → mx_H G S D H → va_S (mx_A G) s.heap H locs → ls.size = M.2.2.1 → (cells + (S1.length - S.length) ≤ R.cells ∧ slots + (mx_sl S1 - mx_sl S) ≤ R.slots) →
      va_Run p G.1 e R s m args below meth c H locs cells slots (S1.length - S.length) (mx_sl S1 - mx_sl S) (F0 m pc ls (st.map (mx_cv G))) (rest.map (mx_cv G)) (mx_Qc G S1 P1 a) (mx_A G))
    (h01 : S.length ≤ S1.length ∧ mx_sl S ≤ mx_sl S1) (hle : S1.length ≤ S'.length ∧ mx_sl S1 ≤ mx_sl S') (kk : ∀ (rv : Option Value) (D1 : mx_Mem), P1 rv D1 → EV G (d + 1) M (pc + 3) lc (rv.toList ++ rest) S1 D1 S' Post) : EV G (d + 1) M pc lc st S D S' Post := by
  refine ⟨⟨Nat.le_trans h01.1 hle.1, Nat.le_trans h01.2 hle.2⟩, fun p e R s m args below meth c H locs cells slots Q ls cx hH hS hlv h0 h1 h2 hr => ?_⟩
  refine mx_call (hrun p e R s m args below meth c H locs cells slots ls cx hH hS hlv.1 ⟨by omega, by omega⟩) hS (fun rv D1 H1 locs1 hp hH1 hS1 => ?_)
  have K := (kk rv D1 hp).2 p e R s m args below meth c H1 locs1 (cells + (S1.length - S.length)) (slots + (mx_sl S1 - mx_sl S)) Q ls cx hH1 hS1 hlv (by omega) (by omega) (by omega) (fun rv' D' H' locs' pc' ls' q1 q2 q3 q4 => by
    have := hr rv' D' H' locs' pc' ls' q1 q2 q3 q4
    rw [show cells + (S1.length - S.length) + (S'.length - S1.length) = cells + (S'.length - S.length) by omega, show slots + (mx_sl S1 - mx_sl S) + (mx_sl S' - mx_sl S1) = slots + (mx_sl S' - mx_sl S) by omega]
    exact this)
  rw [List.map_append] at K
  cases rv <;> exact K
theorem mx_room {d K L : Nat} {x : Nat} (h : mx_KL * (d + 1) ≤ L) (hx : x ≤ mx_KL) : x + mx_KL * d ≤ L := by
  rw [Nat.mul_succ] at h
  omega
theorem EV.invV {idx n k ci : Nat} {fs : List (Option (Option Nat))} (hm : mx_V M.1.cls idx M2 n ci) (hd : decode M.2.1 pc = .ok (.invokevirtual idx, 3)) (hn : avs.length = n) (hk : S[k]? = some (.inl (ci, fs))) (hav : avs.all (fun v => v.category == 1) = true) (hrs : rest.all (fun v => v.category == 1) = true) (hr8 : rest.length ≤ 8) (hE : EV G d M2 0 (mx_lc0 M2 (.ref k :: avs)) [] S D S1 P1) (hle : S1.length ≤ S'.length ∧ mx_sl S1 ≤ mx_sl S') (kk : ∀ (rv : Option Value) (D1 : mx_Mem), P1 rv D1 → EV G (d + 1) M (pc + 3) lc (rv.toList ++ rest) S1 D1 S' Post) : EV G (d + 1) M pc lc (avs.reverse ++ .ref k :: rest) S D S' Post := by
  obtain ⟨hml2, ⟨hcode, hini, hpl, hdd, hKL⟩, hiv, ⟨q, hq, hqc⟩, hnl⟩ := hm
  have hM := mx_met (avs := .ref k :: avs) (fun v hv => by
    rcases List.mem_cons.mp hv with rfl | hv
    · rfl
    · exact mx_all1 hav v hv) (by rw [List.length_cons, hn]; exact hnl) hpl hE
  refine EV.callG (a := (Value.ref (mx_ad G k) :: avs.map (mx_cv G)).toArray) (fun p e R s m args below meth c H locs cells slots ls cx hH hS hsz hf => ?_) hE.1 hle kk
  have hpre := mx_pre (avs := .ref k :: avs) cx hH hS
  obtain ⟨hx, hb, -, hml, hown, hts, hnw, hK, -, -, -, hfr, hlo⟩ := cx
  have hrecv := va_recv hK hH.2 hq (mx_ws_at hk)
  rw [hqc] at hrecv
  have hstack : (F0 m pc ls ((avs.reverse ++ .ref k :: rest).map (mx_cv G))).stack = (avs.map (mx_cv G)).reverse ++ .ref (mx_ad G k) :: rest.map (mx_cv G) := by
    show (avs.reverse ++ .ref k :: rest).map (mx_cv G) = _
    rw [List.map_append, List.map_reverse]
    rfl
  have hR : (mx_rm d S S1).frames + 1 ≤ R.frames ∧ 8 + (M2.2.2.1 + 11) + (mx_rm d S S1).locals ≤ R.locals := ⟨hfr, mx_room (K := 0) hlo hKL⟩
  rcases hml2 with hlink | ⟨host, hlink⟩
  · exact va_runV (C := M2.1.cls) (b := mx_ad G k) (As := avs.map (mx_cv G)) (n := n) ⟨hx, hb, hml, hown, hts⟩ hM ⟨callB_of n hts (mx_goodM hcode) rfl rfl rfl (hts _ hini) (hts _ hlink) hdd hR, hts _ hiv.1, hts _ hiv.2⟩ ⟨mx_blind, hrecv, hpre⟩ rfl (by rw [List.length_map]; exact hn) hsz hstack (lv_room (mx_W8 hr8 (mx_all1 hrs))) hd hf
  · exact va_runVN (C := M2.1.cls) (b := mx_ad G k) (As := avs.map (mx_cv G)) (n := n) ⟨hx, hb, hml, hown, hts⟩ hM ⟨va_cnB n hts (mx_goodM hcode) rfl rfl rfl (hnw.1 _ hlink) (hts _ hini) hdd hR, hts _ hiv.1, hts _ hiv.2⟩ ⟨mx_blind, hrecv, hpre⟩ rfl (by rw [List.length_map]; exact hn) hsz hstack (lv_room (mx_W8 hr8 (mx_all1 hrs))) hd hf
theorem EV.invS {idx n : Nat} (hm : mx_Sc M.1.cls idx M2 n) (hd : decode M.2.1 pc = .ok (.invokestatic idx, 3)) (hn : avs.length = n) (hav : avs.all (fun v => v.category == 1) = true) (hrs : rest.all (fun v => v.category == 1) = true) (hr8 : rest.length ≤ 8) (hE : EV G d M2 0 (mx_lc0 M2 avs) [] S D S1 P1) (hle : S1.length ≤ S'.length ∧ mx_sl S1 ≤ mx_sl S') (kk : ∀ (rv : Option Value) (D1 : mx_Mem), P1 rv D1 → EV G (d + 1) M (pc + 3) lc (rv.toList ++ rest) S1 D1 S' Post) : EV G (d + 1) M pc lc (avs.reverse ++ rest) S D S' Post := by
  obtain ⟨hml2, ⟨hcode, hini, hpl, hdd, hKL⟩, hst, hnl⟩ := hm
  have hM := mx_met (avs := avs) (mx_all1 hav) (by rw [hn]; exact hnl) hpl hE
  refine EV.callG (a := (avs.map (mx_cv G)).toArray) (fun p e R s m args below meth c H locs cells slots ls cx hH hS hsz hf => ?_) hE.1 hle kk
  have hpre := mx_pre (avs := avs) cx hH hS
  obtain ⟨hx, hb, -, hml, hown, hts, hnw, hK, -, -, -, hfr, hlo⟩ := cx
  have hstack : (F0 m pc ls ((avs.reverse ++ rest).map (mx_cv G))).stack = (avs.map (mx_cv G)).reverse ++ rest.map (mx_cv G) := by
    show (avs.reverse ++ rest).map (mx_cv G) = _
    rw [List.map_append, List.map_reverse]
  have hR : (mx_rm d S S1).frames + 1 ≤ R.frames ∧ 8 + (M2.2.2.1 + 11) + (mx_rm d S S1).locals ≤ R.locals := ⟨hfr, mx_room (K := 0) hlo hKL⟩
  rcases hml2 with hlink | ⟨host, hlink⟩
  · exact va_runS (As := avs.map (mx_cv G)) (n := n) ⟨hx, hb, hml, hown, hts⟩ hM ⟨callB_of n hts (mx_goodM hcode) rfl rfl rfl (hts _ hini) (hts _ hlink) hdd hR, hts _ hst⟩ ⟨mx_blind, hpre⟩ rfl (by rw [List.length_map]; exact hn) hsz hstack (lv_room (mx_W8 hr8 (mx_all1 hrs))) hd hf
  · exact va_runSN (As := avs.map (mx_cv G)) (n := n) ⟨hx, hb, hml, hown, hts⟩ hM ⟨va_cnB n hts (mx_goodM hcode) rfl rfl rfl (hnw.1 _ hlink) (hts _ hini) hdd hR, hts _ hst, trivial⟩ ⟨mx_blind, hpre⟩ rfl (by rw [List.length_map]; exact hn) hsz hstack (lv_room (mx_W8 hr8 (mx_all1 hrs))) hd hf
theorem EV.invI {idx n k : Nat} (hm : mx_Ic M.1.cls idx M2 n) (hd : decode M.2.1 pc = .ok (.invokespecial idx, 3)) (hn : avs.length = n) (hav : avs.all (fun v => v.category == 1) = true) (hrs : rest.all (fun v => v.category == 1) = true) (hr8 : rest.length ≤ 8) (hE : EV G d M2 0 (mx_lc0 M2 (.ref k :: avs)) [] S D S1 P1) (hle : S1.length ≤ S'.length ∧ mx_sl S1 ≤ mx_sl S') (kk : ∀ (rv : Option Value) (D1 : mx_Mem), P1 rv D1 → EV G (d + 1) M (pc + 3) lc (rv.toList ++ rest) S1 D1 S' Post) : EV G (d + 1) M pc lc (avs.reverse ++ .ref k :: rest) S D S' Post := by
  obtain ⟨hml2, ⟨hcode, hini, hpl, hdd, hKL⟩, hiv, hinit, hret, hnl⟩ := hm
  have hM := mx_met (avs := .ref k :: avs) (fun v hv => by
    rcases List.mem_cons.mp hv with rfl | hv
    · rfl
    · exact mx_all1 hav v hv) (by rw [List.length_cons, hn]; exact hnl) hpl hE
  refine EV.callG (a := (Value.ref (mx_ad G k) :: avs.map (mx_cv G)).toArray) (fun p e R s m args below meth c H locs cells slots ls cx hH hS hsz hf => ?_) hE.1 hle kk
  have hpre := mx_pre (avs := .ref k :: avs) cx hH hS
  obtain ⟨hx, hb, -, hml, hown, hts, hnw, hK, -, -, -, hfr, hlo⟩ := cx
  have hstack : (F0 m pc ls ((avs.reverse ++ .ref k :: rest).map (mx_cv G))).stack = (avs.map (mx_cv G)).reverse ++ .ref (mx_ad G k) :: rest.map (mx_cv G) := by
    show (avs.reverse ++ .ref k :: rest).map (mx_cv G) = _
    rw [List.map_append, List.map_reverse]
    rfl
  have hR : (mx_rm d S S1).frames + 1 ≤ R.frames ∧ 8 + (M2.2.2.1 + 11) + (mx_rm d S S1).locals ≤ R.locals := ⟨hfr, mx_room (K := 0) hlo hKL⟩
  have hw : mx_wM M2 = Cond.code M2.1 M2.2.1 M2.2.2.1 none :: mx_gw := by unfold mx_wM; rw [hret]
  rcases hml2 with hlink | ⟨host, hlink⟩
  · exact va_runI (b := mx_ad G k) (As := avs.map (mx_cv G)) (n := n) (maxL := M2.2.2.1) (bytes := M2.2.1) ⟨hx, hb, hml, hown, hts⟩ hM ⟨callB_of n hts (mx_goodM hcode) hw rfl rfl (hts _ hini) (hts _ hlink) hdd hR, hinit, hts _ hiv⟩ ⟨mx_blind, hpre⟩ rfl (by rw [List.length_map]; exact hn) hsz hstack (lv_room (mx_W8 hr8 (mx_all1 hrs))) hd hf
  · exact va_runIN (b := mx_ad G k) (As := avs.map (mx_cv G)) (n := n) (maxL := M2.2.2.1) (bytes := M2.2.1) ⟨hx, hb, hml, hown, hts⟩ hM ⟨va_cnB n hts (mx_goodM hcode) hw rfl rfl (hnw.1 _ hlink) (hts _ hini) hdd hR, hinit, hts _ hiv⟩ ⟨mx_blind, hpre⟩ rfl (by rw [List.length_map]; exact hn) hsz hstack (lv_room (mx_W8 hr8 (mx_all1 hrs))) hd hf
theorem EV.V0 {idx k ci : Nat} {fs : List (Option (Option Nat))} (hm : mx_V M.1.cls idx M2 0 ci) (hd : decode M.2.1 pc = .ok (.invokevirtual idx, 3)) (hk : S[k]? = some (.inl (ci, fs))) (hE : EV G d M2 0 (mx_lc0 M2 (.ref k :: [])) [] S D S1 P1) (hle : S1.length ≤ S'.length ∧ mx_sl S1 ≤ mx_sl S') (hav : ([] : List Value).all (fun v => v.category == 1) = true) (hrs : rest.all (fun v => v.category == 1) = true) (hr8 : rest.length ≤ 8) (kk : ∀ (rv : Option Value) (D1 : mx_Mem), P1 rv D1 → EV G (d + 1) M (pc + 3) lc (rv.toList ++ rest) S1 D1 S' Post) : EV G (d + 1) M pc lc (.ref k :: rest) S D S' Post := EV.invV (avs := []) hm hd rfl hk hav hrs hr8 hE hle kk
theorem EV.T0 {idx : Nat} (hm : mx_Sc M.1.cls idx M2 0) (hd : decode M.2.1 pc = .ok (.invokestatic idx, 3)) (hE : EV G d M2 0 (mx_lc0 M2 []) [] S D S1 P1) (hle : S1.length ≤ S'.length ∧ mx_sl S1 ≤ mx_sl S') (hav : ([] : List Value).all (fun v => v.category == 1) = true) (hrs : rest.all (fun v => v.category == 1) = true) (hr8 : rest.length ≤ 8) (kk : ∀ (rv : Option Value) (D1 : mx_Mem), P1 rv D1 → EV G (d + 1) M (pc + 3) lc (rv.toList ++ rest) S1 D1 S' Post) : EV G (d + 1) M pc lc (rest) S D S' Post := EV.invS (avs := []) hm hd rfl hav hrs hr8 hE hle kk
theorem EV.I0 {idx k : Nat} (hm : mx_Ic M.1.cls idx M2 0) (hd : decode M.2.1 pc = .ok (.invokespecial idx, 3)) (hE : EV G d M2 0 (mx_lc0 M2 (.ref k :: [])) [] S D S1 P1) (hle : S1.length ≤ S'.length ∧ mx_sl S1 ≤ mx_sl S') (hav : ([] : List Value).all (fun v => v.category == 1) = true) (hrs : rest.all (fun v => v.category == 1) = true) (hr8 : rest.length ≤ 8) (kk : ∀ (rv : Option Value) (D1 : mx_Mem), P1 rv D1 → EV G (d + 1) M (pc + 3) lc (rv.toList ++ rest) S1 D1 S' Post) : EV G (d + 1) M pc lc (.ref k :: rest) S D S' Post := EV.invI (avs := []) hm hd rfl hav hrs hr8 hE hle kk
theorem EV.V1 {idx k ci : Nat} {a1 : Value} {fs : List (Option (Option Nat))} (hm : mx_V M.1.cls idx M2 1 ci) (hd : decode M.2.1 pc = .ok (.invokevirtual idx, 3)) (hk : S[k]? = some (.inl (ci, fs))) (hE : EV G d M2 0 (mx_lc0 M2 (.ref k :: [a1])) [] S D S1 P1) (hle : S1.length ≤ S'.length ∧ mx_sl S1 ≤ mx_sl S') (hav : ([a1] : List Value).all (fun v => v.category == 1) = true) (hrs : rest.all (fun v => v.category == 1) = true) (hr8 : rest.length ≤ 8) (kk : ∀ (rv : Option Value) (D1 : mx_Mem), P1 rv D1 → EV G (d + 1) M (pc + 3) lc (rv.toList ++ rest) S1 D1 S' Post) : EV G (d + 1) M pc lc (a1 :: .ref k :: rest) S D S' Post := EV.invV (avs := [a1]) hm hd rfl hk hav hrs hr8 hE hle kk
theorem EV.T1 {idx : Nat} {a1 : Value} (hm : mx_Sc M.1.cls idx M2 1) (hd : decode M.2.1 pc = .ok (.invokestatic idx, 3)) (hE : EV G d M2 0 (mx_lc0 M2 [a1]) [] S D S1 P1) (hle : S1.length ≤ S'.length ∧ mx_sl S1 ≤ mx_sl S') (hav : ([a1] : List Value).all (fun v => v.category == 1) = true) (hrs : rest.all (fun v => v.category == 1) = true) (hr8 : rest.length ≤ 8) (kk : ∀ (rv : Option Value) (D1 : mx_Mem), P1 rv D1 → EV G (d + 1) M (pc + 3) lc (rv.toList ++ rest) S1 D1 S' Post) : EV G (d + 1) M pc lc (a1 :: rest) S D S' Post := EV.invS (avs := [a1]) hm hd rfl hav hrs hr8 hE hle kk
theorem EV.I1 {idx k : Nat} {a1 : Value} (hm : mx_Ic M.1.cls idx M2 1) (hd : decode M.2.1 pc = .ok (.invokespecial idx, 3)) (hE : EV G d M2 0 (mx_lc0 M2 (.ref k :: [a1])) [] S D S1 P1) (hle : S1.length ≤ S'.length ∧ mx_sl S1 ≤ mx_sl S') (hav : ([a1] : List Value).all (fun v => v.category == 1) = true) (hrs : rest.all (fun v => v.category == 1) = true) (hr8 : rest.length ≤ 8) (kk : ∀ (rv : Option Value) (D1 : mx_Mem), P1 rv D1 → EV G (d + 1) M (pc + 3) lc (rv.toList ++ rest) S1 D1 S' Post) : EV G (d + 1) M pc lc (a1 :: .ref k :: rest) S D S' Post := EV.invI (avs := [a1]) hm hd rfl hav hrs hr8 hE hle kk
theorem EV.V2 {idx k ci : Nat} {a1 a2 : Value} {fs : List (Option (Option Nat))} (hm : mx_V M.1.cls idx M2 2 ci) (hd : decode M.2.1 pc = .ok (.invokevirtual idx, 3)) (hk : S[k]? = some (.inl (ci, fs))) (hE : EV G d M2 0 (mx_lc0 M2 (.ref k :: [a1, a2])) [] S D S1 P1) (hle : S1.length ≤ S'.length ∧ mx_sl S1 ≤ mx_sl S') (hav : ([a1, a2] : List Value).all (fun v => v.category == 1) = true) (hrs : rest.all (fun v => v.category == 1) = true) (hr8 : rest.length ≤ 8) (kk : ∀ (rv : Option Value) (D1 : mx_Mem), P1 rv D1 → EV G (d + 1) M (pc + 3) lc (rv.toList ++ rest) S1 D1 S' Post) : EV G (d + 1) M pc lc (a2 :: a1 :: .ref k :: rest) S D S' Post := EV.invV (avs := [a1, a2]) hm hd rfl hk hav hrs hr8 hE hle kk
theorem EV.T2 {idx : Nat} {a1 a2 : Value} (hm : mx_Sc M.1.cls idx M2 2) (hd : decode M.2.1 pc = .ok (.invokestatic idx, 3)) (hE : EV G d M2 0 (mx_lc0 M2 [a1, a2]) [] S D S1 P1) (hle : S1.length ≤ S'.length ∧ mx_sl S1 ≤ mx_sl S') (hav : ([a1, a2] : List Value).all (fun v => v.category == 1) = true) (hrs : rest.all (fun v => v.category == 1) = true) (hr8 : rest.length ≤ 8) (kk : ∀ (rv : Option Value) (D1 : mx_Mem), P1 rv D1 → EV G (d + 1) M (pc + 3) lc (rv.toList ++ rest) S1 D1 S' Post) : EV G (d + 1) M pc lc (a2 :: a1 :: rest) S D S' Post := EV.invS (avs := [a1, a2]) hm hd rfl hav hrs hr8 hE hle kk
theorem EV.V3 {idx k ci : Nat} {a1 a2 a3 : Value} {fs : List (Option (Option Nat))} (hm : mx_V M.1.cls idx M2 3 ci) (hd : decode M.2.1 pc = .ok (.invokevirtual idx, 3)) (hk : S[k]? = some (.inl (ci, fs))) (hE : EV G d M2 0 (mx_lc0 M2 (.ref k :: [a1, a2, a3])) [] S D S1 P1) (hle : S1.length ≤ S'.length ∧ mx_sl S1 ≤ mx_sl S') (hav : ([a1, a2, a3] : List Value).all (fun v => v.category == 1) = true) (hrs : rest.all (fun v => v.category == 1) = true) (hr8 : rest.length ≤ 8) (kk : ∀ (rv : Option Value) (D1 : mx_Mem), P1 rv D1 → EV G (d + 1) M (pc + 3) lc (rv.toList ++ rest) S1 D1 S' Post) : EV G (d + 1) M pc lc (a3 :: a2 :: a1 :: .ref k :: rest) S D S' Post := EV.invV (avs := [a1, a2, a3]) hm hd rfl hk hav hrs hr8 hE hle kk
theorem EV.T3 {idx : Nat} {a1 a2 a3 : Value} (hm : mx_Sc M.1.cls idx M2 3) (hd : decode M.2.1 pc = .ok (.invokestatic idx, 3)) (hE : EV G d M2 0 (mx_lc0 M2 [a1, a2, a3]) [] S D S1 P1) (hle : S1.length ≤ S'.length ∧ mx_sl S1 ≤ mx_sl S') (hav : ([a1, a2, a3] : List Value).all (fun v => v.category == 1) = true) (hrs : rest.all (fun v => v.category == 1) = true) (hr8 : rest.length ≤ 8) (kk : ∀ (rv : Option Value) (D1 : mx_Mem), P1 rv D1 → EV G (d + 1) M (pc + 3) lc (rv.toList ++ rest) S1 D1 S' Post) : EV G (d + 1) M pc lc (a3 :: a2 :: a1 :: rest) S D S' Post := EV.invS (avs := [a1, a2, a3]) hm hd rfl hav hrs hr8 hE hle kk
theorem EV.V4 {idx k ci : Nat} {a1 a2 a3 a4 : Value} {fs : List (Option (Option Nat))} (hm : mx_V M.1.cls idx M2 4 ci) (hd : decode M.2.1 pc = .ok (.invokevirtual idx, 3)) (hk : S[k]? = some (.inl (ci, fs))) (hE : EV G d M2 0 (mx_lc0 M2 (.ref k :: [a1, a2, a3, a4])) [] S D S1 P1) (hle : S1.length ≤ S'.length ∧ mx_sl S1 ≤ mx_sl S') (hav : ([a1, a2, a3, a4] : List Value).all (fun v => v.category == 1) = true) (hrs : rest.all (fun v => v.category == 1) = true) (hr8 : rest.length ≤ 8) (kk : ∀ (rv : Option Value) (D1 : mx_Mem), P1 rv D1 → EV G (d + 1) M (pc + 3) lc (rv.toList ++ rest) S1 D1 S' Post) : EV G (d + 1) M pc lc (a4 :: a3 :: a2 :: a1 :: .ref k :: rest) S D S' Post := EV.invV (avs := [a1, a2, a3, a4]) hm hd rfl hk hav hrs hr8 hE hle kk
theorem EV.T4 {idx : Nat} {a1 a2 a3 a4 : Value} (hm : mx_Sc M.1.cls idx M2 4) (hd : decode M.2.1 pc = .ok (.invokestatic idx, 3)) (hE : EV G d M2 0 (mx_lc0 M2 [a1, a2, a3, a4]) [] S D S1 P1) (hle : S1.length ≤ S'.length ∧ mx_sl S1 ≤ mx_sl S') (hav : ([a1, a2, a3, a4] : List Value).all (fun v => v.category == 1) = true) (hrs : rest.all (fun v => v.category == 1) = true) (hr8 : rest.length ≤ 8) (kk : ∀ (rv : Option Value) (D1 : mx_Mem), P1 rv D1 → EV G (d + 1) M (pc + 3) lc (rv.toList ++ rest) S1 D1 S' Post) : EV G (d + 1) M pc lc (a4 :: a3 :: a2 :: a1 :: rest) S D S' Post := EV.invS (avs := [a1, a2, a3, a4]) hm hd rfl hav hrs hr8 hE hle kk
end MXC
theorem mx_lt {D : va_G} {cl : List vw_C} {q : Nat × va_E} {H : Heap} (h : va_at D cl q H) : q.1 < H.size := h.lt
theorem mx_fresh {G : mx_G} {S : List mx_Sh} {D : mx_Mem} {H1 : Heap} {q : Nat} {x : va_E} (hP : va_P (mx_dd G) vwCl (mx_ws G S D ++ [(q, x)]) H1) (hD : va_D (mx_A G) (mx_ws G S D ++ [(q, x)])) (hz : H1.size ≤ mx_base G + S.length + 1) : q = mx_ad G S.length := by
  have hl : (mx_ws G S D).length = S.length := by simp [mx_ws]
  have hq : (mx_ws G S D ++ [(q, x)])[S.length]? = some (q, x) := by rw [List.getElem?_append_right (by omega), hl]; simp
  have h1 : q < H1.size := (hP _ _ hq).lt
  have h2 : mx_base G ≤ q := hD.2 _ _ hq
  unfold mx_ad
  rcases Nat.lt_or_ge q (mx_base G + S.length) with h | h
  · exfalso
    have hk : q - mx_base G < S.length := by omega
    have hs : S[q - mx_base G]? = some S[q - mx_base G] := List.getElem?_eq_getElem hk
    have h3 : (mx_ws G S D ++ [(q, x)])[q - mx_base G]? = some (mx_ad G (q - mx_base G), mx_E G (D (q - mx_base G)) S[q - mx_base G]) := by
      rw [List.getElem?_append_left (by omega)]
      exact mx_ws_at hs
    have := hD.1 _ _ _ _ h3 hq (by show mx_base G + (q - mx_base G) = q; omega)
    omega
  · omega
theorem mx_sl_app {S : List mx_Sh} {sh : mx_Sh} : mx_sl (S ++ [sh]) = mx_sl S + mx_n sh := by simp [mx_sl]
theorem mx_dv {ty : FieldType} {r : Nat} (h : defaultValue ty = mx_rd 0 (some (some r))) : False := by cases ty <;> simp [defaultValue, mx_rd, va_rf] at h
section MXN
variable {G : mx_G} {d : Nat} {M : mx_M} {pc : Nat} {lc : List (Option Value)} {st : List Value} {S S' : List mx_Sh} {D : mx_Mem} {Post : Option Value → mx_Mem → Prop}
theorem mx_RA {U : State} {a b : ClassId} {ty : FieldType} (h1 : va_RA U a ty) (h2 : va_RA U b ty) : a = b := by
  cases ty with
  | object C =>
    obtain ⟨_, _, -, -, -, e1⟩ := h1
    obtain ⟨_, _, -, -, -, e2⟩ := h2
    exact Option.some.inj (e1.symm.trans e2)
  | _ => exact Option.some.inj (Eq.trans (Eq.symm h1) h2)
theorem mx_last {D : va_G} {tys : List (ClassId × FieldType)} {U : State} {cA : ClassId} {ty : FieldType} (h : va_K D vwCl (tys ++ [(cA, ty)]) U) : va_RA U cA ty := (h.2 tys.length (cA, ty) (by simp)).2
/-- a cell of n places is put behind the others -/
theorem mx_put1 {p : Program} {e : Env} {R : Room} {s : State} {m : MethodId} {args : Array Value} {below : List Frame} {meth : Method} {c : Code} {H H1 : Heap} {locs : List Loc} {cells slots n pc2 qa : Nat} {Q : State → Prop} {ls : Array Slot} {sh : mx_Sh} {x : va_E} (hn : mx_n sh = n)
    (kk : EV G d M pc2 lc (.ref S.length :: st) (S ++ [sh]) (mx_z D S.length) S' Post)
    (cx : mx_Cx G d M p R s m args meth c) (hH : mx_H G S D H) (hS : va_S (mx_A G) s.heap H locs) (hlv : lv_has ls M.2.2.1 (mx_lv G lc)) (h0 : s.heap.size + cells = mx_base G + S.length) (h1 : cells + S'.length ≤ R.cells + S.length) (h2 : slots + mx_sl S' ≤ R.slots + mx_sl S)
    (hr : ∀ (rv : Option Value) (D' : mx_Mem) (H' : Heap) (locs' : List Loc) (pc' : Nat) (ls' : Array Slot), Post rv D' → mx_H G S' D' H' → va_S (mx_A G) s.heap H' locs' → mx_ret M pc' rv → W p G.1 e R s m args below meth c H' locs' (cells + (S'.length - S.length)) (slots + (mx_sl S' - mx_sl S)) Q (F0 m pc' ls' (rv.map (mx_cv G)).toList))
    (hx : x = mx_E G (fun _ => 0) sh) (hP1 : va_P (mx_dd G) vwCl (mx_ws G S D ++ [(qa, x)]) H1) (hD1 : va_D (mx_A G) (mx_ws G S D ++ [(qa, x)])) (hS1 : va_S (mx_A G) H H1 locs) :
    W p G.1 e R s m args below meth c H1 locs (cells + 1) (slots + n) Q (F0 m pc2 ls (.ref qa :: st.map (mx_cv G))) := by
  subst hx
  refine mx_Wsz fun hz => ?_
  have k1 := kk.1
  rw [mx_sl_app, List.length_append] at k1
  have hl1 : [sh].length = 1 := rfl
  have e : qa = mx_ad G S.length := mx_fresh hP1 hD1 (by omega)
  subst e
  have hq2 : (mx_ws G S D ++ [(mx_ad G S.length, mx_E G (fun _ => 0) sh)])[S.length]? = some (mx_ad G S.length, mx_E G (fun _ => 0) sh) := by rw [List.getElem?_append_right (by simp [mx_ws])]; simp [mx_ws]
  have h4 : mx_ad G S.length < H1.size := (hP1 _ _ hq2).lt
  unfold mx_ad at h4
  rw [mx_push] at hP1
  exact kk.2 p e R s m args below meth c H1 locs (cells + 1) (slots + n) Q ls cx ⟨by rw [List.length_append]; omega, hP1⟩ (mx_ST hS hS1) hlv (by rw [List.length_append]; omega) (by rw [List.length_append]; omega) (by rw [mx_sl_app]; omega) (fun rv' D' H' locs' pc' ls' q1 q2 q3 q4 => by
    have := hr rv' D' H' locs' pc' ls' q1 q2 q3 q4
    rw [mx_sl_app, List.length_append, hn, hl1]
    rw [show cells + 1 + (S'.length - (S.length + 1)) = cells + (S'.length - S.length) by omega, show slots + n + (mx_sl S' - (mx_sl S + n)) = slots + (mx_sl S' - mx_sl S) by omega]
    exact this)
theorem EV.new {idx ci : Nat} {q : vw_C} {fs : List (Option (Option Nat))} (hq : vwCl[ci]? = some q) (hl : Cond.classLink M.1.cls idx q.1 ∈ mx_gw ∧ Cond.instantiable q.1 q.2.2 ∈ mx_gw ∧ Cond.initialized q.1 ∈ mx_gw) (hfs : fs.length = q.2.2 ∧ ∀ j, j < q.2.2 → defaultValue ((parseFieldDescriptor (q.2.1 j).2.2.1).getD .int) = mx_rd 0 (fs.getD j none)) (hd : decode M.2.1 pc = .ok (.new idx, 3)) (kk : EV G d M (pc + 3) lc (.ref S.length :: st) (S ++ [.inl (ci, fs)]) (mx_z D S.length) S' Post) : EV G d M pc lc st S D S' Post := by
  have k1 := kk.1
  rw [mx_sl_app, List.length_append] at k1
  have hn : mx_n (.inl (ci, fs)) = q.2.2 := hfs.1
  have hl1 : [(Sum.inl (ci, fs) : mx_Sh)].length = 1 := rfl
  refine ⟨⟨by omega, by omega⟩, fun p e R s m args below meth c H locs cells slots Q ls cx hH hS hlv h0 h1 h2 hr => ?_⟩
  have K := fun H1 qa x hx hP1 hD1 hS1 => mx_put1 (p := p) (e := e) (R := R) (s := s) (m := m) (args := args) (below := below) (meth := meth) (c := c) (H := H) (H1 := H1) (locs := locs) (cells := cells) (slots := slots) (Q := Q) (qa := qa) (x := x) hn kk cx hH hS hlv h0 h1 h2 hr hx hP1 hD1 hS1
  obtain ⟨hx, hb, -, -, hown, hts, hnw, hK, -, -, ⟨-, -, hbs⟩, -⟩ := cx
  obtain ⟨hin, hty0, hnm⟩ := mx_cls hq
  refine va_new (C := q.1) (T := q.2.1) (N := q.2.2) (fs := (List.range fs.length).map fun j => mx_fv G 0 (fs.getD j none)) hx hb hts hin _ hty0 hown (hts _ hl.1) (hts _ hl.2.1) (hts _ hl.2.2) hK hH.2 mx_DD (mx_S0 hS) (fun x h => by show mx_base G ≤ x; have := hH.1; omega) hq ?_ (by omega) (by omega) hd (fun qa H1 hP1 hD1 hS1 => K H1 qa _ rfl hP1 hD1 hS1)
  intro j hj
  have h3 := hfs.2 j hj
  rw [h3]
  show _ = ((List.range fs.length).map fun j => mx_fv G 0 (fs.getD j none)).getD j .null
  have hjl : j < fs.length := by rw [hfs.1]; exact hj
  have e2 : ((List.range fs.length).map fun j => mx_fv G 0 (fs.getD j none)).getD j .null = mx_fv G 0 (fs.getD j none) := by simp [hjl]
  rw [e2]
  have e3 : fs.getD j none = none ∨ fs.getD j none = some none := by
    rcases hv : fs.getD j none with _ | _ | r
    · exact Or.inl rfl
    · exact Or.inr rfl
    · exfalso
      rw [hv] at h3
      exact mx_dv h3
  rcases e3 with e3 | e3 <;> rw [e3] <;> rfl
theorem EV.newa {t N : Nat} {atype : ArrayType} {ty : FieldType} {n : Int32} (hty : newarray.typeOf atype = ty) (ht : mx_ty[t]? = some ty) (hac : Cond.arrayClass ty ∈ mx_gw) (hdv : defaultValue ty = .int 0) (hn : ¬ n < 0) (hN : n.toNatClampNeg = N) (hb : N * componentBytes ty ≤ 536870912) (hd : decode M.2.1 pc = .ok (.newarray atype, 2)) (kk : EV G d M (pc + 2) lc (.ref S.length :: st) (S ++ [.inr (.inl (t, N))]) (mx_z D S.length) S' Post) : EV G d M pc lc (.int n :: st) S D S' Post := by
  have k1 := kk.1
  rw [mx_sl_app, List.length_append] at k1
  have hn1 : mx_n (.inr (.inl (t, N))) = N := rfl
  have hl1 : [(Sum.inr (Sum.inl (t, N)) : mx_Sh)].length = 1 := rfl
  refine ⟨⟨by omega, by omega⟩, fun p e R s m args below meth c H locs cells slots Q ls cx hH hS hlv h0 h1 h2 hr => ?_⟩
  have K := fun H1 qa x hx hP1 hD1 hS1 => mx_put1 (p := p) (e := e) (R := R) (s := s) (m := m) (args := args) (below := below) (meth := meth) (c := c) (H := H) (H1 := H1) (locs := locs) (cells := cells) (slots := slots) (Q := Q) (qa := qa) (x := x) hn1 kk cx hH hS hlv h0 h1 h2 hr hx hP1 hD1 hS1
  obtain ⟨hx, hcb, -, -, hown, hts, hnw, hK, -, -, ⟨-, -, hbs⟩, -⟩ := cx
  subst hty
  refine va_newa hx hcb (hts _ hac) rfl hK hH.2 mx_DD (mx_S0 hS) (fun x h => by show mx_base G ≤ x; have := hH.1; omega) (a0 := (N, .inl fun _ => 0)) (fun cA => by rw [vp_cell_i, hdv]) hn hN hb (by omega) (by omega) hd (fun qa cA H1 hK1 hP1 hD1 hS1 => ?_)
  have e1 : cA = mx_cA G t := mx_RA (mx_last hK1) (hK.2 t _ (mx_tys_at ht)).2
  subst e1
  exact K H1 qa _ rfl hP1 hD1 hS1
theorem EV.anew {idx t N : Nat} {C : String} {n : Int32} (ht : mx_ty[t]? = some (.object C)) (hl : Cond.classLink M.1.cls idx C ∈ mx_gw) (hao : C ∈ mx_ao) (hn : ¬ n < 0) (hN : n.toNatClampNeg = N) (hb : N * 4 ≤ 536870912) (hd : decode M.2.1 pc = .ok (.anewarray idx, 3)) (kk : EV G d M (pc + 3) lc (.ref S.length :: st) (S ++ [.inr (.inr (t, List.replicate N none))]) (mx_z D S.length) S' Post) : EV G d M pc lc (.int n :: st) S D S' Post := by
  have k1 := kk.1
  rw [mx_sl_app, List.length_append] at k1
  have hn1 : mx_n (.inr (.inr (t, List.replicate N none))) = N := by simp [mx_n]
  have hl1 : [(Sum.inr (Sum.inr (t, List.replicate N none)) : mx_Sh)].length = 1 := rfl
  refine ⟨⟨by omega, by omega⟩, fun p e R s m args below meth c H locs cells slots Q ls cx hH hS hlv h0 h1 h2 hr => ?_⟩
  have K := fun H1 qa x hx hP1 hD1 hS1 => mx_put1 (p := p) (e := e) (R := R) (s := s) (m := m) (args := args) (below := below) (meth := meth) (c := c) (H := H) (H1 := H1) (locs := locs) (cells := cells) (slots := slots) (Q := Q) (qa := qa) (x := x) hn1 kk cx hH hS hlv h0 h1 h2 hr hx hP1 hD1 hS1
  obtain ⟨hx, hcb, -, -, hown, hts, hnw, hK, -, -, ⟨-, -, hbs⟩, -⟩ := cx
  refine va_newq hx hcb hown (hts _ hl) (hnw.2 _ hao) hK hH.2 mx_DD (mx_S0 hS) (fun x h => by show mx_base G ≤ x; have := hH.1; omega) hn hN hb (by omega) (by omega) hd (fun qa cA H1 hK1 hP1 hD1 hS1 => ?_)
  have e1 : cA = mx_cA G t := mx_RA (mx_last hK1) (hK.2 t _ (mx_tys_at ht)).2
  subst e1
  refine K H1 qa _ ?_ hP1 hD1 hS1
  have ef : (fun j : Nat => ((List.replicate N (none : Option Nat)).getD j none).map (mx_ad G)) = fun _ => none := by
    funext j
    by_cases hj : j < N <;> simp [hj]
  show _ = (Sum.inl (mx_cA G t, (List.replicate N none).length, Sum.inr (Sum.inr (Sum.inr (Sum.inr fun j : Nat => ((List.replicate N (none : Option Nat)).getD j none).map (mx_ad G))))) : va_E)
  rw [List.length_replicate, ef]
theorem EV.aast {k t v ci : Nat} {i : Int32} {q : vw_C} {rs : List (Option Nat)} {fs : List (Option (Option Nat))} (hd : decode M.2.1 pc = .ok (.aastore, 1)) (hk : S[k]? = some (.inr (.inr (t, rs)))) (hq : vwCl[ci]? = some q) (ht : mx_ty[t]? = some (.object q.1)) (hv : S[v]? = some (.inl (ci, fs))) (hi : vp_in i rs.length) (kk : EV G d M (pc + 1) lc st (S.set k (.inr (.inr (t, rs.set i.toNatClampNeg (some v))))) D S' Post) : EV G d M pc lc (.ref v :: .int i :: .ref k :: st) S D S' Post := by
  have hsl : mx_sl (S.set k (.inr (.inr (t, rs.set i.toNatClampNeg (some v))))) = mx_sl S := mx_sl_set hk (by simp [mx_n])
  refine ⟨by have := kk.1; rw [hsl, List.length_set] at this; exact this, fun p e R s m args below meth c H locs cells slots Q ls cx hH hS hlv h0 h1 h2 hr => ?_⟩
  have K := fun H1 locs1 hH1 hS1 => kk.2 p e R s m args below meth c H1 locs1 cells slots Q ls cx hH1 hS1 hlv (by rw [List.length_set]; exact h0) (by rw [List.length_set]; exact h1) (by rw [hsl]; exact h2) (by rw [hsl, List.length_set]; exact hr)
  obtain ⟨hx, hb, -, -, hown, hts, hnw, hK, -⟩ := cx
  have hil : i.toNatClampNeg < rs.length := Nat.not_le.mp fun q => hi (Or.inr q)
  refine va_astq hx hb hK hH.2 mx_DD (mx_S0 hS) k t v ci (r := q) (mx_ws_at hk) (mx_tys_at ht) (mx_ws_at hv) hq hi hd (fun H1 locs1 hP1 _ hS1 => mx_Wsz fun hz => ?_)
  have e1 := mx_set (G := G) (D := D) (sh' := .inr (.inr (t, rs.set i.toNatClampNeg (some v)))) (f := D k) hk
  have e0 : mx_E G (D k) (.inr (.inr (t, rs.set i.toNatClampNeg (some v)))) = .inl (mx_cA G t, rs.length, .inr (.inr (.inr (.inr (va_up (fun j => (rs.getD j none).map (mx_ad G)) i.toNatClampNeg (some (mx_ad G v))))))) := by
    have ef : (fun j : Nat => ((rs.set i.toNatClampNeg (some v)).getD j none).map (mx_ad G)) = va_up (fun j => (rs.getD j none).map (mx_ad G)) i.toNatClampNeg (some (mx_ad G v)) := by
      funext j
      unfold va_up
      by_cases hj : j = i.toNatClampNeg
      · subst hj
        simp [hil]
      · simp [hj, List.getElem?_set_ne (Ne.symm hj)]
    show (Sum.inl (mx_cA G t, (rs.set i.toNatClampNeg (some v)).length, Sum.inr (Sum.inr (Sum.inr (Sum.inr fun j : Nat => ((rs.set i.toNatClampNeg (some v)).getD j none).map (mx_ad G))))) : va_E) = _
    rw [List.length_set, ef]
  have e3 : va_up D k (D k) = D := mx_up_self D k
  rw [e0, e3] at e1
  have e2 : va_P (mx_dd G) vwCl ((mx_ws G S D).set k (mx_ad G k, .inl (mx_cA G t, rs.length, .inr (.inr (.inr (.inr (va_up (fun j => (rs.getD j none).map (mx_ad G)) i.toNatClampNeg (some (mx_ad G v))))))))) H1 := hP1
  rw [e1] at e2
  exact K H1 locs1 (mx_step (s := s) hH h0 hS1 hz (by simp) e2) (mx_ST hS hS1)
theorem EV.oinit {idx k : Nat} (hl : Cond.methodLink M.1.cls idx Lib.objectInit ∈ mx_gw) (ho : Cond.instanceMethod Lib.objectInit ∈ mx_gw ∧ Cond.code Lib.objectInit ⟨#[0xb1]⟩ 1 none ∈ mx_gw) (hd : decode M.2.1 pc = .ok (.invokespecial idx, 3)) (hrs : st.all (fun v => v.category == 1) = true) (hr8 : st.length ≤ 8) (kk : EV G (d + 1) M (pc + 3) lc st S D S' Post) : EV G (d + 1) M pc lc (.ref k :: st) S D S' Post := by
  refine ⟨kk.1, fun p e R s m args below meth c H locs cells slots Q ls cx hH hS hlv h0 h1 h2 hr => ?_⟩
  have K := kk.2 p e R s m args below meth c H locs cells slots Q ls cx hH hS hlv h0 h1 h2 hr
  obtain ⟨hx, hb, -, hml, hown, hts, hnw, hK, -, -, -, hfr, hlo⟩ := cx
  have h8 := lv_room (m := m) (pc := pc) (ls := ls) (rest := .ref (mx_ad G k) :: st.map (mx_cv G)) (mx_W8 (G := G) hr8 (mx_all1 hrs))
  exact W.objInit hx hb hown (hts _ hl) (hts _ ho.1) (hts _ ho.2) (g := F0 m pc ls (.ref (mx_ad G k) :: st.map (mx_cv G))) rfl (by rw [hml]; exact hlv.1) rfl hd (by omega) (by have := mx_room (K := 0) (x := 20) hlo (by decide); omega) K
theorem EV.mmin {idx : Nat} {x y : Int32} (hl : Cond.methodLink M.1.cls idx Lib.Math.min.name ∈ mx_gw) (ho : Cond.static Lib.Math.min.name ∈ mx_gw ∧ Cond.initialized "java/lang/Math" ∈ mx_gw ∧ Cond.code Lib.Math.min.name Lib.Math.min.code 2 (some .int) ∈ mx_gw) (hd : decode M.2.1 pc = .ok (.invokestatic idx, 3)) (hrs : st.all (fun v => v.category == 1) = true) (hr8 : st.length ≤ 8) (kk : EV G (d + 1) M (pc + 3) lc (.int (if y < x then y else x) :: st) S D S' Post) : EV G (d + 1) M pc lc (.int y :: .int x :: st) S D S' Post := by
  refine ⟨kk.1, fun p e R s m args below meth c H locs cells slots Q ls cx hH hS hlv h0 h1 h2 hr => ?_⟩
  have K := kk.2 p e R s m args below meth c H locs cells slots Q ls cx hH hS hlv h0 h1 h2 hr
  have k1 := kk.1
  obtain ⟨hx, hb, -, hml, hown, hts, hnw, hK, -, -, -, hfr, hlo⟩ := cx
  have h8 := mx_W8 (G := G) hr8 (mx_all1 hrs)
  exact va_mmin hx hb (by rw [hml]; exact hlv.1.symm) hown (hts _ hl) (hts _ ho.1) (hts _ ho.2.1) (hts _ ho.2.2) (by omega) (by have := mx_room (K := 0) (x := 21) hlo (by decide); omega) (by omega) (by omega) hd K
theorem EV.acopy {idx k0 k1 t n0 n1 : Nat} {sp dp n : Int32} (hl : Cond.methodLink M.1.cls idx arraycopyName ∈ mx_gw) (ho : Cond.native arraycopyName ∈ mx_gw ∧ Cond.static arraycopyName ∈ mx_gw ∧ Cond.initialized "java/lang/System" ∈ mx_gw) (hd : decode M.2.1 pc = .ok (.invokestatic idx, 3)) (hk0 : S[k0]? = some (.inr (.inl (t, n0)))) (hk1 : S[k1]? = some (.inr (.inl (t, n1)))) (ht : mx_ty[t]? = some .int) (h1 : ¬ sp < 0) (h2 : ¬ dp < 0) (h3 : ¬ n < 0) (h4 : sp.toNatClampNeg + n.toNatClampNeg ≤ n0) (h5 : dp.toNatClampNeg + n.toNatClampNeg ≤ n1) (hrs : st.all (fun v => v.category == 1) = true) (hr8 : st.length ≤ 8) (kk : EV G (d + 1) M (pc + 3) lc st S (va_up D k1 (va_cpy (D k0) (D k1) sp.toNatClampNeg dp.toNatClampNeg n.toNatClampNeg)) S' Post) : EV G (d + 1) M pc lc (.int n :: .int dp :: .ref k1 :: .int sp :: .ref k0 :: st) S D S' Post := by
  refine ⟨kk.1, fun p e R s m args below meth c H locs cells slots Q ls cx hH hS hlv g0 g1 g2 hr => ?_⟩
  have K := fun H1 locs1 hH1 hS1 => kk.2 p e R s m args below meth c H1 locs1 cells slots Q ls cx hH1 hS1 hlv g0 g1 g2 hr
  obtain ⟨hx, hb, -, hml, hown, hts, hnw, hK, -, -, -, hfr, hlo⟩ := cx
  have h8 := mx_W8 (G := G) hr8 (mx_all1 hrs)
  refine va_copyi hx hb (by rw [hml]; exact hlv.1.symm) hown (hts _ hl) (hts _ ho.1) (hts _ ho.2.1) (hts _ ho.2.2) hK hH.2 mx_DD (mx_S0 hS) k0 k1 t t (mx_ws_at hk0) (mx_ws_at hk1) (mx_tys_at ht) (mx_tys_at ht) rfl h1 h2 h3 h4 h5 (fun _ _ => rfl) (by omega) (by have := mx_room (K := 0) (x := 8 + (nativeFrameWords "java/lang/System" "arraycopy" 5 + 11)) hlo (by decide); omega) hd (fun H1 locs1 hP1 _ hS1 => mx_Wsz fun hz => ?_)
  have e1 := mx_set (G := G) (D := D) (sh' := .inr (.inl (t, n1))) (f := va_cpy (D k0) (D k1) sp.toNatClampNeg dp.toNatClampNeg n.toNatClampNeg) hk1
  have e2 : va_P (mx_dd G) vwCl ((mx_ws G S D).set k1 (mx_ad G k1, mx_E G (va_cpy (D k0) (D k1) sp.toNatClampNeg dp.toNatClampNeg n.toNatClampNeg) (.inr (.inl (t, n1))))) H1 := hP1
  rw [e1, mx_setS hk1] at e2
  exact K H1 locs1 (mx_step (s := s) hH g0 hS1 hz rfl e2) (mx_ST hS hS1)
end MXN
end
section
theorem fl_Li_7 : mx_lk "TailoredOrder$Line" 7 3 0 (.array .char) true := ⟨_, rfl, by decide, rfl, by decide +kernel, Or.inl (mx_in 69 (by decide +kernel) (by decide +kernel))⟩
theorem ff_Li_7 : ∃ q : vw_C, vwCl[3]? = some q ∧ 0 < q.2.2 ∧ (q.2.1 0).2.2.2 = true ∧ parseFieldDescriptor (q.2.1 0).2.2.1 = some (.array .char) ∧ Cond.fieldLink "TailoredOrder$Line" 7 (q.2.1 0).1 (q.2.1 0).2.1 (q.2.1 0).2.2.1 ∈ mx_gw ∧ (q.2.1 0).1 = "TailoredOrder$Line" := ⟨_, rfl, by decide, rfl, by decide +kernel, (mx_in 69 (by decide +kernel) (by decide +kernel)), rfl⟩
theorem fl_Ru_33 : mx_lk "TailoredOrder$Rule" 33 3 0 (.array .char) true := ⟨_, rfl, by decide, rfl, by decide +kernel, Or.inl (mx_in 70 (by decide +kernel) (by decide +kernel))⟩
theorem fl_Km_58 : mx_lk "TailoredOrder$KeyMaker" 58 3 0 (.array .char) true := ⟨_, rfl, by decide, rfl, by decide +kernel, Or.inl (mx_in 71 (by decide +kernel) (by decide +kernel))⟩
theorem fl_Li_13 : mx_lk "TailoredOrder$Line" 13 3 1 .int false := ⟨_, rfl, by decide, rfl, by decide +kernel, Or.inl (mx_in 72 (by decide +kernel) (by decide +kernel))⟩
theorem fl_Ru_28 : mx_lk "TailoredOrder$Rule" 28 3 1 .int false := ⟨_, rfl, by decide, rfl, by decide +kernel, Or.inl (mx_in 73 (by decide +kernel) (by decide +kernel))⟩
theorem fl_Km_54 : mx_lk "TailoredOrder$KeyMaker" 54 3 1 .int false := ⟨_, rfl, by decide, rfl, by decide +kernel, Or.inl (mx_in 74 (by decide +kernel) (by decide +kernel))⟩
theorem fl_Ke_9 : mx_lk "TailoredOrder$Key" 9 1 0 (.array .int) true := ⟨_, rfl, by decide, rfl, by decide +kernel, Or.inl (mx_in 86 (by decide +kernel) (by decide +kernel))⟩
theorem ff_Ke_9 : ∃ q : vw_C, vwCl[1]? = some q ∧ 0 < q.2.2 ∧ (q.2.1 0).2.2.2 = true ∧ parseFieldDescriptor (q.2.1 0).2.2.1 = some (.array .int) ∧ Cond.fieldLink "TailoredOrder$Key" 9 (q.2.1 0).1 (q.2.1 0).2.1 (q.2.1 0).2.2.1 ∈ mx_gw ∧ (q.2.1 0).1 = "TailoredOrder$Key" := ⟨_, rfl, by decide, rfl, by decide +kernel, (mx_in 86 (by decide +kernel) (by decide +kernel)), rfl⟩
theorem fl_To_125 : mx_lk "TailoredOrder" 125 1 0 (.array .int) true := ⟨_, rfl, by decide, rfl, by decide +kernel, Or.inl (mx_in 87 (by decide +kernel) (by decide +kernel))⟩
theorem fl_Ke_15 : mx_lk "TailoredOrder$Key" 15 1 1 .int false := ⟨_, rfl, by decide, rfl, by decide +kernel, Or.inl (mx_in 88 (by decide +kernel) (by decide +kernel))⟩
theorem fl_Km_45 : mx_lk "TailoredOrder$KeyMaker" 45 1 1 .int false := ⟨_, rfl, by decide, rfl, by decide +kernel, Or.inl (mx_in 89 (by decide +kernel) (by decide +kernel))⟩
theorem fl_To_122 : mx_lk "TailoredOrder" 122 1 1 .int false := ⟨_, rfl, by decide, rfl, by decide +kernel, Or.inl (mx_in 90 (by decide +kernel) (by decide +kernel))⟩
theorem fl_Ta_9 : mx_lk "TailoredOrder$Table" 9 5 0 (.array .int) true := ⟨_, rfl, by decide, rfl, by decide +kernel, Or.inl (mx_in 111 (by decide +kernel) (by decide +kernel))⟩
theorem ff_Ta_9 : ∃ q : vw_C, vwCl[5]? = some q ∧ 0 < q.2.2 ∧ (q.2.1 0).2.2.2 = true ∧ parseFieldDescriptor (q.2.1 0).2.2.1 = some (.array .int) ∧ Cond.fieldLink "TailoredOrder$Table" 9 (q.2.1 0).1 (q.2.1 0).2.1 (q.2.1 0).2.2.1 ∈ mx_gw ∧ (q.2.1 0).1 = "TailoredOrder$Table" := ⟨_, rfl, by decide, rfl, by decide +kernel, (mx_in 111 (by decide +kernel) (by decide +kernel)), rfl⟩
theorem fl_To_91 : mx_lk "TailoredOrder" 91 5 0 (.array .int) true := ⟨_, rfl, by decide, rfl, by decide +kernel, Or.inl (mx_in 112 (by decide +kernel) (by decide +kernel))⟩
theorem fl_Km_94 : mx_lk "TailoredOrder$KeyMaker" 94 5 0 (.array .int) true := ⟨_, rfl, by decide, rfl, by decide +kernel, Or.inl (mx_in 113 (by decide +kernel) (by decide +kernel))⟩
theorem fl_Ta_15 : mx_lk "TailoredOrder$Table" 15 5 1 (.array .int) true := ⟨_, rfl, by decide, rfl, by decide +kernel, Or.inl (mx_in 114 (by decide +kernel) (by decide +kernel))⟩
theorem ff_Ta_15 : ∃ q : vw_C, vwCl[5]? = some q ∧ 1 < q.2.2 ∧ (q.2.1 1).2.2.2 = true ∧ parseFieldDescriptor (q.2.1 1).2.2.1 = some (.array .int) ∧ Cond.fieldLink "TailoredOrder$Table" 15 (q.2.1 1).1 (q.2.1 1).2.1 (q.2.1 1).2.2.1 ∈ mx_gw ∧ (q.2.1 1).1 = "TailoredOrder$Table" := ⟨_, rfl, by decide, rfl, by decide +kernel, (mx_in 114 (by decide +kernel) (by decide +kernel)), rfl⟩
theorem fl_To_99 : mx_lk "TailoredOrder" 99 5 1 (.array .int) true := ⟨_, rfl, by decide, rfl, by decide +kernel, Or.inl (mx_in 115 (by decide +kernel) (by decide +kernel))⟩
theorem fl_Ta_18 : mx_lk "TailoredOrder$Table" 18 5 2 (.array .int) true := ⟨_, rfl, by decide, rfl, by decide +kernel, Or.inl (mx_in 116 (by decide +kernel) (by decide +kernel))⟩
theorem ff_Ta_18 : ∃ q : vw_C, vwCl[5]? = some q ∧ 2 < q.2.2 ∧ (q.2.1 2).2.2.2 = true ∧ parseFieldDescriptor (q.2.1 2).2.2.1 = some (.array .int) ∧ Cond.fieldLink "TailoredOrder$Table" 18 (q.2.1 2).1 (q.2.1 2).2.1 (q.2.1 2).2.2.1 ∈ mx_gw ∧ (q.2.1 2).1 = "TailoredOrder$Table" := ⟨_, rfl, by decide, rfl, by decide +kernel, (mx_in 116 (by decide +kernel) (by decide +kernel)), rfl⟩
theorem fl_To_102 : mx_lk "TailoredOrder" 102 5 2 (.array .int) true := ⟨_, rfl, by decide, rfl, by decide +kernel, Or.inl (mx_in 117 (by decide +kernel) (by decide +kernel))⟩
theorem fl_Km_123 : mx_lk "TailoredOrder$KeyMaker" 123 5 2 (.array .int) true := ⟨_, rfl, by decide, rfl, by decide +kernel, Or.inl (mx_in 118 (by decide +kernel) (by decide +kernel))⟩
theorem fl_Ta_21 : mx_lk "TailoredOrder$Table" 21 5 3 (.array .int) true := ⟨_, rfl, by decide, rfl, by decide +kernel, Or.inl (mx_in 119 (by decide +kernel) (by decide +kernel))⟩
theorem ff_Ta_21 : ∃ q : vw_C, vwCl[5]? = some q ∧ 3 < q.2.2 ∧ (q.2.1 3).2.2.2 = true ∧ parseFieldDescriptor (q.2.1 3).2.2.1 = some (.array .int) ∧ Cond.fieldLink "TailoredOrder$Table" 21 (q.2.1 3).1 (q.2.1 3).2.1 (q.2.1 3).2.2.1 ∈ mx_gw ∧ (q.2.1 3).1 = "TailoredOrder$Table" := ⟨_, rfl, by decide, rfl, by decide +kernel, (mx_in 119 (by decide +kernel) (by decide +kernel)), rfl⟩
theorem fl_To_105 : mx_lk "TailoredOrder" 105 5 3 (.array .int) true := ⟨_, rfl, by decide, rfl, by decide +kernel, Or.inl (mx_in 120 (by decide +kernel) (by decide +kernel))⟩
theorem fl_Km_130 : mx_lk "TailoredOrder$KeyMaker" 130 5 3 (.array .int) true := ⟨_, rfl, by decide, rfl, by decide +kernel, Or.inl (mx_in 121 (by decide +kernel) (by decide +kernel))⟩
theorem fl_Ta_24 : mx_lk "TailoredOrder$Table" 24 5 4 (.array .int) true := ⟨_, rfl, by decide, rfl, by decide +kernel, Or.inl (mx_in 122 (by decide +kernel) (by decide +kernel))⟩
theorem ff_Ta_24 : ∃ q : vw_C, vwCl[5]? = some q ∧ 4 < q.2.2 ∧ (q.2.1 4).2.2.2 = true ∧ parseFieldDescriptor (q.2.1 4).2.2.1 = some (.array .int) ∧ Cond.fieldLink "TailoredOrder$Table" 24 (q.2.1 4).1 (q.2.1 4).2.1 (q.2.1 4).2.2.1 ∈ mx_gw ∧ (q.2.1 4).1 = "TailoredOrder$Table" := ⟨_, rfl, by decide, rfl, by decide +kernel, (mx_in 122 (by decide +kernel) (by decide +kernel)), rfl⟩
theorem fl_To_108 : mx_lk "TailoredOrder" 108 5 4 (.array .int) true := ⟨_, rfl, by decide, rfl, by decide +kernel, Or.inl (mx_in 123 (by decide +kernel) (by decide +kernel))⟩
theorem fl_Km_133 : mx_lk "TailoredOrder$KeyMaker" 133 5 4 (.array .int) true := ⟨_, rfl, by decide, rfl, by decide +kernel, Or.inl (mx_in 124 (by decide +kernel) (by decide +kernel))⟩
theorem fl_Ta_34 : mx_lk "TailoredOrder$Table" 34 5 5 .int false := ⟨_, rfl, by decide, rfl, by decide +kernel, Or.inl (mx_in 125 (by decide +kernel) (by decide +kernel))⟩
theorem fl_To_87 : mx_lk "TailoredOrder" 87 5 5 .int false := ⟨_, rfl, by decide, rfl, by decide +kernel, Or.inl (mx_in 126 (by decide +kernel) (by decide +kernel))⟩
theorem fl_Ru_9 : mx_lk "TailoredOrder$Rule" 9 4 0 (.array .int) true := ⟨_, rfl, by decide, rfl, by decide +kernel, Or.inl (mx_in 146 (by decide +kernel) (by decide +kernel))⟩
theorem ff_Ru_9 : ∃ q : vw_C, vwCl[4]? = some q ∧ 0 < q.2.2 ∧ (q.2.1 0).2.2.2 = true ∧ parseFieldDescriptor (q.2.1 0).2.2.1 = some (.array .int) ∧ Cond.fieldLink "TailoredOrder$Rule" 9 (q.2.1 0).1 (q.2.1 0).2.1 (q.2.1 0).2.2.1 ∈ mx_gw ∧ (q.2.1 0).1 = "TailoredOrder$Rule" := ⟨_, rfl, by decide, rfl, by decide +kernel, (mx_in 146 (by decide +kernel) (by decide +kernel)), rfl⟩
theorem fl_Ta_52 : mx_lk "TailoredOrder$Table" 52 4 0 (.array .int) true := ⟨_, rfl, by decide, rfl, by decide +kernel, Or.inl (mx_in 147 (by decide +kernel) (by decide +kernel))⟩
theorem fl_Ru_15 : mx_lk "TailoredOrder$Rule" 15 4 1 (.array .int) true := ⟨_, rfl, by decide, rfl, by decide +kernel, Or.inl (mx_in 148 (by decide +kernel) (by decide +kernel))⟩
theorem ff_Ru_15 : ∃ q : vw_C, vwCl[4]? = some q ∧ 1 < q.2.2 ∧ (q.2.1 1).2.2.2 = true ∧ parseFieldDescriptor (q.2.1 1).2.2.1 = some (.array .int) ∧ Cond.fieldLink "TailoredOrder$Rule" 15 (q.2.1 1).1 (q.2.1 1).2.1 (q.2.1 1).2.2.1 ∈ mx_gw ∧ (q.2.1 1).1 = "TailoredOrder$Rule" := ⟨_, rfl, by decide, rfl, by decide +kernel, (mx_in 148 (by decide +kernel) (by decide +kernel)), rfl⟩
theorem fl_Ta_59 : mx_lk "TailoredOrder$Table" 59 4 1 (.array .int) true := ⟨_, rfl, by decide, rfl, by decide +kernel, Or.inl (mx_in 149 (by decide +kernel) (by decide +kernel))⟩
theorem fl_Ru_18 : mx_lk "TailoredOrder$Rule" 18 4 2 .int false := ⟨_, rfl, by decide, rfl, by decide +kernel, Or.inl (mx_in 150 (by decide +kernel) (by decide +kernel))⟩
theorem fl_Ta_58 : mx_lk "TailoredOrder$Table" 58 4 2 .int false := ⟨_, rfl, by decide, rfl, by decide +kernel, Or.inl (mx_in 151 (by decide +kernel) (by decide +kernel))⟩
theorem fl_Ru_22 : mx_lk "TailoredOrder$Rule" 22 4 3 .int false := ⟨_, rfl, by decide, rfl, by decide +kernel, Or.inl (mx_in 152 (by decide +kernel) (by decide +kernel))⟩
theorem fl_Ru_25 : mx_lk "TailoredOrder$Rule" 25 4 4 .int false := ⟨_, rfl, by decide, rfl, by decide +kernel, Or.inl (mx_in 153 (by decide +kernel) (by decide +kernel))⟩
theorem fl_Km_9 : mx_lk "TailoredOrder$KeyMaker" 9 2 0 (.object "TailoredOrder$Table") true := ⟨_, rfl, by decide, rfl, by decide +kernel, Or.inl (mx_in 173 (by decide +kernel) (by decide +kernel))⟩
theorem ff_Km_9 : ∃ q : vw_C, vwCl[2]? = some q ∧ 0 < q.2.2 ∧ (q.2.1 0).2.2.2 = true ∧ parseFieldDescriptor (q.2.1 0).2.2.1 = some (.object "TailoredOrder$Table") ∧ Cond.fieldLink "TailoredOrder$KeyMaker" 9 (q.2.1 0).1 (q.2.1 0).2.1 (q.2.1 0).2.2.1 ∈ mx_gw ∧ (q.2.1 0).1 = "TailoredOrder$KeyMaker" := ⟨_, rfl, by decide, rfl, by decide +kernel, (mx_in 173 (by decide +kernel) (by decide +kernel)), rfl⟩
theorem fl_Km_15 : mx_lk "TailoredOrder$KeyMaker" 15 2 1 (.array .char) true := ⟨_, rfl, by decide, rfl, by decide +kernel, Or.inl (mx_in 174 (by decide +kernel) (by decide +kernel))⟩
theorem ff_Km_15 : ∃ q : vw_C, vwCl[2]? = some q ∧ 1 < q.2.2 ∧ (q.2.1 1).2.2.2 = true ∧ parseFieldDescriptor (q.2.1 1).2.2.1 = some (.array .char) ∧ Cond.fieldLink "TailoredOrder$KeyMaker" 15 (q.2.1 1).1 (q.2.1 1).2.1 (q.2.1 1).2.2.1 ∈ mx_gw ∧ (q.2.1 1).1 = "TailoredOrder$KeyMaker" := ⟨_, rfl, by decide, rfl, by decide +kernel, (mx_in 174 (by decide +kernel) (by decide +kernel)), rfl⟩
theorem fl_Km_19 : mx_lk "TailoredOrder$KeyMaker" 19 2 2 (.array .char) true := ⟨_, rfl, by decide, rfl, by decide +kernel, Or.inl (mx_in 175 (by decide +kernel) (by decide +kernel))⟩
theorem ff_Km_19 : ∃ q : vw_C, vwCl[2]? = some q ∧ 2 < q.2.2 ∧ (q.2.1 2).2.2.2 = true ∧ parseFieldDescriptor (q.2.1 2).2.2.1 = some (.array .char) ∧ Cond.fieldLink "TailoredOrder$KeyMaker" 19 (q.2.1 2).1 (q.2.1 2).2.1 (q.2.1 2).2.2.1 ∈ mx_gw ∧ (q.2.1 2).1 = "TailoredOrder$KeyMaker" := ⟨_, rfl, by decide, rfl, by decide +kernel, (mx_in 175 (by decide +kernel) (by decide +kernel)), rfl⟩
theorem fl_Km_24 : mx_lk "TailoredOrder$KeyMaker" 24 2 3 (.array (.array .int)) true := ⟨_, rfl, by decide, rfl, by decide +kernel, Or.inl (mx_in 176 (by decide +kernel) (by decide +kernel))⟩
theorem ff_Km_24 : ∃ q : vw_C, vwCl[2]? = some q ∧ 3 < q.2.2 ∧ (q.2.1 3).2.2.2 = true ∧ parseFieldDescriptor (q.2.1 3).2.2.1 = some (.array (.array .int)) ∧ Cond.fieldLink "TailoredOrder$KeyMaker" 24 (q.2.1 3).1 (q.2.1 3).2.1 (q.2.1 3).2.2.1 ∈ mx_gw ∧ (q.2.1 3).1 = "TailoredOrder$KeyMaker" := ⟨_, rfl, by decide, rfl, by decide +kernel, (mx_in 176 (by decide +kernel) (by decide +kernel)), rfl⟩
theorem fl_Km_57 : mx_lk "TailoredOrder$KeyMaker" 57 2 4 .int false := ⟨_, rfl, by decide, rfl, by decide +kernel, Or.inl (mx_in 177 (by decide +kernel) (by decide +kernel))⟩
theorem fl_Km_73 : mx_lk "TailoredOrder$KeyMaker" 73 2 5 .int false := ⟨_, rfl, by decide, rfl, by decide +kernel, Or.inl (mx_in 178 (by decide +kernel) (by decide +kernel))⟩
theorem fl_Km_76 : mx_lk "TailoredOrder$KeyMaker" 76 2 6 .boolean false := ⟨_, rfl, by decide, rfl, by decide +kernel, Or.inl (mx_in 179 (by decide +kernel) (by decide +kernel))⟩
theorem fl_Km_27 : mx_lk "TailoredOrder$KeyMaker" 27 2 7 .int false := ⟨_, rfl, by decide, rfl, by decide +kernel, Or.inl (mx_in 180 (by decide +kernel) (by decide +kernel))⟩
theorem fl_Km_31 : mx_lk "TailoredOrder$KeyMaker" 31 2 8 .boolean false := ⟨_, rfl, by decide, rfl, by decide +kernel, Or.inl (mx_in 181 (by decide +kernel) (by decide +kernel))⟩
theorem fl_Km_35 : mx_lk "TailoredOrder$KeyMaker" 35 2 9 .boolean false := ⟨_, rfl, by decide, rfl, by decide +kernel, Or.inl (mx_in 182 (by decide +kernel) (by decide +kernel))⟩
theorem fl_Fo_11 : mx_lk "TailoredOrder$Folder" 11 0 0 (.array (.object "TailoredOrder$Line")) true := ⟨_, rfl, by decide, rfl, by decide +kernel, Or.inl (mx_in 214 (by decide +kernel) (by decide +kernel))⟩
theorem ff_Fo_11 : ∃ q : vw_C, vwCl[0]? = some q ∧ 0 < q.2.2 ∧ (q.2.1 0).2.2.2 = true ∧ parseFieldDescriptor (q.2.1 0).2.2.1 = some (.array (.object "TailoredOrder$Line")) ∧ Cond.fieldLink "TailoredOrder$Folder" 11 (q.2.1 0).1 (q.2.1 0).2.1 (q.2.1 0).2.2.1 ∈ mx_gw ∧ (q.2.1 0).1 = "TailoredOrder$Folder" := ⟨_, rfl, by decide, rfl, by decide +kernel, (mx_in 214 (by decide +kernel) (by decide +kernel)), rfl⟩
theorem fl_To_153 : mx_lk "TailoredOrder" 153 0 0 (.array (.object "TailoredOrder$Line")) true := ⟨_, rfl, by decide, rfl, by decide +kernel, Or.inl (mx_in 215 (by decide +kernel) (by decide +kernel))⟩
theorem fl_Fo_17 : mx_lk "TailoredOrder$Folder" 17 0 1 (.array .int) true := ⟨_, rfl, by decide, rfl, by decide +kernel, Or.inl (mx_in 216 (by decide +kernel) (by decide +kernel))⟩
theorem ff_Fo_17 : ∃ q : vw_C, vwCl[0]? = some q ∧ 1 < q.2.2 ∧ (q.2.1 1).2.2.2 = true ∧ parseFieldDescriptor (q.2.1 1).2.2.1 = some (.array .int) ∧ Cond.fieldLink "TailoredOrder$Folder" 17 (q.2.1 1).1 (q.2.1 1).2.1 (q.2.1 1).2.2.1 ∈ mx_gw ∧ (q.2.1 1).1 = "TailoredOrder$Folder" := ⟨_, rfl, by decide, rfl, by decide +kernel, (mx_in 216 (by decide +kernel) (by decide +kernel)), rfl⟩
theorem fl_Fo_23 : mx_lk "TailoredOrder$Folder" 23 0 2 (.array (.object "TailoredOrder$Key")) true := ⟨_, rfl, by decide, rfl, by decide +kernel, Or.inl (mx_in 217 (by decide +kernel) (by decide +kernel))⟩
theorem ff_Fo_23 : ∃ q : vw_C, vwCl[0]? = some q ∧ 2 < q.2.2 ∧ (q.2.1 2).2.2.2 = true ∧ parseFieldDescriptor (q.2.1 2).2.2.1 = some (.array (.object "TailoredOrder$Key")) ∧ Cond.fieldLink "TailoredOrder$Folder" 23 (q.2.1 2).1 (q.2.1 2).2.1 (q.2.1 2).2.2.1 ∈ mx_gw ∧ (q.2.1 2).1 = "TailoredOrder$Folder" := ⟨_, rfl, by decide, rfl, by decide +kernel, (mx_in 217 (by decide +kernel) (by decide +kernel)), rfl⟩
theorem fl_To_156 : mx_lk "TailoredOrder" 156 0 2 (.array (.object "TailoredOrder$Key")) true := ⟨_, rfl, by decide, rfl, by decide +kernel, Or.inl (mx_in 218 (by decide +kernel) (by decide +kernel))⟩
theorem fl_Fo_31 : mx_lk "TailoredOrder$Folder" 31 0 3 .int false := ⟨_, rfl, by decide, rfl, by decide +kernel, Or.inl (mx_in 219 (by decide +kernel) (by decide +kernel))⟩
theorem fl_To_138 : mx_lk "TailoredOrder" 138 0 3 .int false := ⟨_, rfl, by decide, rfl, by decide +kernel, Or.inl (mx_in 220 (by decide +kernel) (by decide +kernel))⟩
theorem fl_Fo_35 : mx_lk "TailoredOrder$Folder" 35 0 4 .int false := ⟨_, rfl, by decide, rfl, by decide +kernel, Or.inl (mx_in 221 (by decide +kernel) (by decide +kernel))⟩
theorem fl_To_11 : mx_lk "TailoredOrder" 11 6 0 (.array (.object "TailoredOrder$Line")) true := ⟨_, rfl, by decide, rfl, by decide +kernel, Or.inl (mx_in 233 (by decide +kernel) (by decide +kernel))⟩
theorem ff_To_11 : ∃ q : vw_C, vwCl[6]? = some q ∧ 0 < q.2.2 ∧ (q.2.1 0).2.2.2 = true ∧ parseFieldDescriptor (q.2.1 0).2.2.1 = some (.array (.object "TailoredOrder$Line")) ∧ Cond.fieldLink "TailoredOrder" 11 (q.2.1 0).1 (q.2.1 0).2.1 (q.2.1 0).2.2.1 ∈ mx_gw ∧ (q.2.1 0).1 = "TailoredOrder" := ⟨_, rfl, by decide, rfl, by decide +kernel, (mx_in 233 (by decide +kernel) (by decide +kernel)), rfl⟩
theorem fl_To_17 : mx_lk "TailoredOrder" 17 6 1 (.array (.object "TailoredOrder$Key")) true := ⟨_, rfl, by decide, rfl, by decide +kernel, Or.inl (mx_in 234 (by decide +kernel) (by decide +kernel))⟩
theorem ff_To_17 : ∃ q : vw_C, vwCl[6]? = some q ∧ 1 < q.2.2 ∧ (q.2.1 1).2.2.2 = true ∧ parseFieldDescriptor (q.2.1 1).2.2.1 = some (.array (.object "TailoredOrder$Key")) ∧ Cond.fieldLink "TailoredOrder" 17 (q.2.1 1).1 (q.2.1 1).2.1 (q.2.1 1).2.2.1 ∈ mx_gw ∧ (q.2.1 1).1 = "TailoredOrder" := ⟨_, rfl, by decide, rfl, by decide +kernel, (mx_in 234 (by decide +kernel) (by decide +kernel)), rfl⟩
theorem fl_To_28 : mx_lk "TailoredOrder" 28 6 2 (.object "TailoredOrder$Table") true := ⟨_, rfl, by decide, rfl, by decide +kernel, Or.inl (mx_in 235 (by decide +kernel) (by decide +kernel))⟩
theorem ff_To_28 : ∃ q : vw_C, vwCl[6]? = some q ∧ 2 < q.2.2 ∧ (q.2.1 2).2.2.2 = true ∧ parseFieldDescriptor (q.2.1 2).2.2.1 = some (.object "TailoredOrder$Table") ∧ Cond.fieldLink "TailoredOrder" 28 (q.2.1 2).1 (q.2.1 2).2.1 (q.2.1 2).2.2.1 ∈ mx_gw ∧ (q.2.1 2).1 = "TailoredOrder" := ⟨_, rfl, by decide, rfl, by decide +kernel, (mx_in 235 (by decide +kernel) (by decide +kernel)), rfl⟩
theorem fl_To_32 : mx_lk "TailoredOrder" 32 6 3 (.object "TailoredOrder$Table") true := ⟨_, rfl, by decide, rfl, by decide +kernel, Or.inl (mx_in 236 (by decide +kernel) (by decide +kernel))⟩
theorem ff_To_32 : ∃ q : vw_C, vwCl[6]? = some q ∧ 3 < q.2.2 ∧ (q.2.1 3).2.2.2 = true ∧ parseFieldDescriptor (q.2.1 3).2.2.1 = some (.object "TailoredOrder$Table") ∧ Cond.fieldLink "TailoredOrder" 32 (q.2.1 3).1 (q.2.1 3).2.1 (q.2.1 3).2.2.1 ∈ mx_gw ∧ (q.2.1 3).1 = "TailoredOrder" := ⟨_, rfl, by decide, rfl, by decide +kernel, (mx_in 236 (by decide +kernel) (by decide +kernel)), rfl⟩
theorem fl_To_38 : mx_lk "TailoredOrder" 38 6 4 (.object "TailoredOrder$Rule") true := ⟨_, rfl, by decide, rfl, by decide +kernel, Or.inl (mx_in 237 (by decide +kernel) (by decide +kernel))⟩
theorem ff_To_38 : ∃ q : vw_C, vwCl[6]? = some q ∧ 4 < q.2.2 ∧ (q.2.1 4).2.2.2 = true ∧ parseFieldDescriptor (q.2.1 4).2.2.1 = some (.object "TailoredOrder$Rule") ∧ Cond.fieldLink "TailoredOrder" 38 (q.2.1 4).1 (q.2.1 4).2.1 (q.2.1 4).2.2.1 ∈ mx_gw ∧ (q.2.1 4).1 = "TailoredOrder" := ⟨_, rfl, by decide, rfl, by decide +kernel, (mx_in 237 (by decide +kernel) (by decide +kernel)), rfl⟩
theorem fl_To_47 : mx_lk "TailoredOrder" 47 6 5 (.object "TailoredOrder$KeyMaker") true := ⟨_, rfl, by decide, rfl, by decide +kernel, Or.inl (mx_in 238 (by decide +kernel) (by decide +kernel))⟩
theorem ff_To_47 : ∃ q : vw_C, vwCl[6]? = some q ∧ 5 < q.2.2 ∧ (q.2.1 5).2.2.2 = true ∧ parseFieldDescriptor (q.2.1 5).2.2.1 = some (.object "TailoredOrder$KeyMaker") ∧ Cond.fieldLink "TailoredOrder" 47 (q.2.1 5).1 (q.2.1 5).2.1 (q.2.1 5).2.2.1 ∈ mx_gw ∧ (q.2.1 5).1 = "TailoredOrder" := ⟨_, rfl, by decide, rfl, by decide +kernel, (mx_in 238 (by decide +kernel) (by decide +kernel)), rfl⟩
theorem fl_To_54 : mx_lk "TailoredOrder" 54 6 6 (.object "TailoredOrder$Folder") true := ⟨_, rfl, by decide, rfl, by decide +kernel, Or.inl (mx_in 239 (by decide +kernel) (by decide +kernel))⟩
theorem ff_To_54 : ∃ q : vw_C, vwCl[6]? = some q ∧ 6 < q.2.2 ∧ (q.2.1 6).2.2.2 = true ∧ parseFieldDescriptor (q.2.1 6).2.2.1 = some (.object "TailoredOrder$Folder") ∧ Cond.fieldLink "TailoredOrder" 54 (q.2.1 6).1 (q.2.1 6).2.1 (q.2.1 6).2.2.1 ∈ mx_gw ∧ (q.2.1 6).1 = "TailoredOrder" := ⟨_, rfl, by decide, rfl, by decide +kernel, (mx_in 239 (by decide +kernel) (by decide +kernel)), rfl⟩
theorem fl_Mo_50 : mx_lk "TailoredOrderModel" 50 7 0 .int false := ⟨_, rfl, by decide, rfl, by decide +kernel, Or.inl (mx_in 515 (by decide +kernel) (by decide +kernel))⟩
theorem fl_Mo_7 : mx_lk "TailoredOrderModel" 7 7 1 (.array .int) true := ⟨_, rfl, by decide, rfl, by decide +kernel, Or.inl (mx_in 516 (by decide +kernel) (by decide +kernel))⟩
theorem ff_Mo_7 : ∃ q : vw_C, vwCl[7]? = some q ∧ 1 < q.2.2 ∧ (q.2.1 1).2.2.2 = true ∧ parseFieldDescriptor (q.2.1 1).2.2.1 = some (.array .int) ∧ Cond.fieldLink "TailoredOrderModel" 7 (q.2.1 1).1 (q.2.1 1).2.1 (q.2.1 1).2.2.1 ∈ mx_gw ∧ (q.2.1 1).1 = "TailoredOrderModel" := ⟨_, rfl, by decide, rfl, by decide +kernel, (mx_in 516 (by decide +kernel) (by decide +kernel)), rfl⟩
theorem fl_Mo_13 : mx_lk "TailoredOrderModel" 13 7 2 (.array .int) true := ⟨_, rfl, by decide, rfl, by decide +kernel, Or.inl (mx_in 517 (by decide +kernel) (by decide +kernel))⟩
theorem ff_Mo_13 : ∃ q : vw_C, vwCl[7]? = some q ∧ 2 < q.2.2 ∧ (q.2.1 2).2.2.2 = true ∧ parseFieldDescriptor (q.2.1 2).2.2.1 = some (.array .int) ∧ Cond.fieldLink "TailoredOrderModel" 13 (q.2.1 2).1 (q.2.1 2).2.1 (q.2.1 2).2.2.1 ∈ mx_gw ∧ (q.2.1 2).1 = "TailoredOrderModel" := ⟨_, rfl, by decide, rfl, by decide +kernel, (mx_in 517 (by decide +kernel) (by decide +kernel)), rfl⟩
theorem fl_Mo_70 : mx_lk "TailoredOrderModel" 70 7 3 .int false := ⟨_, rfl, by decide, rfl, by decide +kernel, Or.inl (mx_in 518 (by decide +kernel) (by decide +kernel))⟩
theorem fl_Mo_16 : mx_lk "TailoredOrderModel" 16 7 4 (.array .int) true := ⟨_, rfl, by decide, rfl, by decide +kernel, Or.inl (mx_in 519 (by decide +kernel) (by decide +kernel))⟩
theorem ff_Mo_16 : ∃ q : vw_C, vwCl[7]? = some q ∧ 4 < q.2.2 ∧ (q.2.1 4).2.2.2 = true ∧ parseFieldDescriptor (q.2.1 4).2.2.1 = some (.array .int) ∧ Cond.fieldLink "TailoredOrderModel" 16 (q.2.1 4).1 (q.2.1 4).2.1 (q.2.1 4).2.2.1 ∈ mx_gw ∧ (q.2.1 4).1 = "TailoredOrderModel" := ⟨_, rfl, by decide, rfl, by decide +kernel, (mx_in 519 (by decide +kernel) (by decide +kernel)), rfl⟩
theorem fl_Mo_19 : mx_lk "TailoredOrderModel" 19 7 5 (.array .int) true := ⟨_, rfl, by decide, rfl, by decide +kernel, Or.inl (mx_in 520 (by decide +kernel) (by decide +kernel))⟩
theorem ff_Mo_19 : ∃ q : vw_C, vwCl[7]? = some q ∧ 5 < q.2.2 ∧ (q.2.1 5).2.2.2 = true ∧ parseFieldDescriptor (q.2.1 5).2.2.1 = some (.array .int) ∧ Cond.fieldLink "TailoredOrderModel" 19 (q.2.1 5).1 (q.2.1 5).2.1 (q.2.1 5).2.2.1 ∈ mx_gw ∧ (q.2.1 5).1 = "TailoredOrderModel" := ⟨_, rfl, by decide, rfl, by decide +kernel, (mx_in 520 (by decide +kernel) (by decide +kernel)), rfl⟩
theorem fl_Mo_22 : mx_lk "TailoredOrderModel" 22 7 6 (.array .int) true := ⟨_, rfl, by decide, rfl, by decide +kernel, Or.inl (mx_in 521 (by decide +kernel) (by decide +kernel))⟩
theorem ff_Mo_22 : ∃ q : vw_C, vwCl[7]? = some q ∧ 6 < q.2.2 ∧ (q.2.1 6).2.2.2 = true ∧ parseFieldDescriptor (q.2.1 6).2.2.1 = some (.array .int) ∧ Cond.fieldLink "TailoredOrderModel" 22 (q.2.1 6).1 (q.2.1 6).2.1 (q.2.1 6).2.2.1 ∈ mx_gw ∧ (q.2.1 6).1 = "TailoredOrderModel" := ⟨_, rfl, by decide, rfl, by decide +kernel, (mx_in 521 (by decide +kernel) (by decide +kernel)), rfl⟩
theorem fl_Mo_53 : mx_lk "TailoredOrderModel" 53 7 7 .int false := ⟨_, rfl, by decide, rfl, by decide +kernel, Or.inl (mx_in 522 (by decide +kernel) (by decide +kernel))⟩
theorem fl_Mo_25 : mx_lk "TailoredOrderModel" 25 7 8 (.array .int) true := ⟨_, rfl, by decide, rfl, by decide +kernel, Or.inl (mx_in 523 (by decide +kernel) (by decide +kernel))⟩
theorem ff_Mo_25 : ∃ q : vw_C, vwCl[7]? = some q ∧ 8 < q.2.2 ∧ (q.2.1 8).2.2.2 = true ∧ parseFieldDescriptor (q.2.1 8).2.2.1 = some (.array .int) ∧ Cond.fieldLink "TailoredOrderModel" 25 (q.2.1 8).1 (q.2.1 8).2.1 (q.2.1 8).2.2.1 ∈ mx_gw ∧ (q.2.1 8).1 = "TailoredOrderModel" := ⟨_, rfl, by decide, rfl, by decide +kernel, (mx_in 523 (by decide +kernel) (by decide +kernel)), rfl⟩
theorem fl_Mo_28 : mx_lk "TailoredOrderModel" 28 7 9 (.array .int) true := ⟨_, rfl, by decide, rfl, by decide +kernel, Or.inl (mx_in 524 (by decide +kernel) (by decide +kernel))⟩
theorem ff_Mo_28 : ∃ q : vw_C, vwCl[7]? = some q ∧ 9 < q.2.2 ∧ (q.2.1 9).2.2.2 = true ∧ parseFieldDescriptor (q.2.1 9).2.2.1 = some (.array .int) ∧ Cond.fieldLink "TailoredOrderModel" 28 (q.2.1 9).1 (q.2.1 9).2.1 (q.2.1 9).2.2.1 ∈ mx_gw ∧ (q.2.1 9).1 = "TailoredOrderModel" := ⟨_, rfl, by decide, rfl, by decide +kernel, (mx_in 524 (by decide +kernel) (by decide +kernel)), rfl⟩
theorem fl_Mo_31 : mx_lk "TailoredOrderModel" 31 7 10 (.array .int) true := ⟨_, rfl, by decide, rfl, by decide +kernel, Or.inl (mx_in 525 (by decide +kernel) (by decide +kernel))⟩
theorem ff_Mo_31 : ∃ q : vw_C, vwCl[7]? = some q ∧ 10 < q.2.2 ∧ (q.2.1 10).2.2.2 = true ∧ parseFieldDescriptor (q.2.1 10).2.2.1 = some (.array .int) ∧ Cond.fieldLink "TailoredOrderModel" 31 (q.2.1 10).1 (q.2.1 10).2.1 (q.2.1 10).2.2.1 ∈ mx_gw ∧ (q.2.1 10).1 = "TailoredOrderModel" := ⟨_, rfl, by decide, rfl, by decide +kernel, (mx_in 525 (by decide +kernel) (by decide +kernel)), rfl⟩
theorem fl_Mo_149 : mx_lk "TailoredOrderModel" 149 7 11 .int false := ⟨_, rfl, by decide, rfl, by decide +kernel, Or.inl (mx_in 526 (by decide +kernel) (by decide +kernel))⟩
theorem fl_Mo_152 : mx_lk "TailoredOrderModel" 152 7 12 .int false := ⟨_, rfl, by decide, rfl, by decide +kernel, Or.inl (mx_in 527 (by decide +kernel) (by decide +kernel))⟩
theorem fl_Mo_34 : mx_lk "TailoredOrderModel" 34 7 13 .int false := ⟨_, rfl, by decide, rfl, by decide +kernel, Or.inl (mx_in 528 (by decide +kernel) (by decide +kernel))⟩
theorem fl_Mo_108 : mx_lk "TailoredOrderModel" 108 7 14 .boolean false := ⟨_, rfl, by decide, rfl, by decide +kernel, Or.inl (mx_in 529 (by decide +kernel) (by decide +kernel))⟩
theorem fl_Mo_140 : mx_lk "TailoredOrderModel" 140 7 15 .boolean false := ⟨_, rfl, by decide, rfl, by decide +kernel, Or.inl (mx_in 530 (by decide +kernel) (by decide +kernel))⟩
theorem fl_Mo_38 : mx_lk "TailoredOrderModel" 38 7 16 (.array .int) true := ⟨_, rfl, by decide, rfl, by decide +kernel, Or.inl (mx_in 531 (by decide +kernel) (by decide +kernel))⟩
theorem ff_Mo_38 : ∃ q : vw_C, vwCl[7]? = some q ∧ 16 < q.2.2 ∧ (q.2.1 16).2.2.2 = true ∧ parseFieldDescriptor (q.2.1 16).2.2.1 = some (.array .int) ∧ Cond.fieldLink "TailoredOrderModel" 38 (q.2.1 16).1 (q.2.1 16).2.1 (q.2.1 16).2.2.1 ∈ mx_gw ∧ (q.2.1 16).1 = "TailoredOrderModel" := ⟨_, rfl, by decide, rfl, by decide +kernel, (mx_in 531 (by decide +kernel) (by decide +kernel)), rfl⟩
theorem fl_Mo_99 : mx_lk "TailoredOrderModel" 99 7 17 .int false := ⟨_, rfl, by decide, rfl, by decide +kernel, Or.inl (mx_in 532 (by decide +kernel) (by decide +kernel))⟩
theorem fl_Mo_41 : mx_lk "TailoredOrderModel" 41 7 18 (.array .int) true := ⟨_, rfl, by decide, rfl, by decide +kernel, Or.inl (mx_in 533 (by decide +kernel) (by decide +kernel))⟩
theorem ff_Mo_41 : ∃ q : vw_C, vwCl[7]? = some q ∧ 18 < q.2.2 ∧ (q.2.1 18).2.2.2 = true ∧ parseFieldDescriptor (q.2.1 18).2.2.1 = some (.array .int) ∧ Cond.fieldLink "TailoredOrderModel" 41 (q.2.1 18).1 (q.2.1 18).2.1 (q.2.1 18).2.2.1 ∈ mx_gw ∧ (q.2.1 18).1 = "TailoredOrderModel" := ⟨_, rfl, by decide, rfl, by decide +kernel, (mx_in 533 (by decide +kernel) (by decide +kernel)), rfl⟩
theorem fl_Mo_105 : mx_lk "TailoredOrderModel" 105 7 19 .int false := ⟨_, rfl, by decide, rfl, by decide +kernel, Or.inl (mx_in 534 (by decide +kernel) (by decide +kernel))⟩
theorem fl_Mo_112 : mx_lk "TailoredOrderModel" 112 7 20 .boolean false := ⟨_, rfl, by decide, rfl, by decide +kernel, Or.inl (mx_in 535 (by decide +kernel) (by decide +kernel))⟩
theorem fl_Mo_44 : mx_lk "TailoredOrderModel" 44 7 21 (.array .int) true := ⟨_, rfl, by decide, rfl, by decide +kernel, Or.inl (mx_in 536 (by decide +kernel) (by decide +kernel))⟩
theorem ff_Mo_44 : ∃ q : vw_C, vwCl[7]? = some q ∧ 21 < q.2.2 ∧ (q.2.1 21).2.2.2 = true ∧ parseFieldDescriptor (q.2.1 21).2.2.1 = some (.array .int) ∧ Cond.fieldLink "TailoredOrderModel" 44 (q.2.1 21).1 (q.2.1 21).2.1 (q.2.1 21).2.2.1 ∈ mx_gw ∧ (q.2.1 21).1 = "TailoredOrderModel" := ⟨_, rfl, by decide, rfl, by decide +kernel, (mx_in 536 (by decide +kernel) (by decide +kernel)), rfl⟩
theorem fl_Mo_47 : mx_lk "TailoredOrderModel" 47 7 22 (.array .int) true := ⟨_, rfl, by decide, rfl, by decide +kernel, Or.inl (mx_in 537 (by decide +kernel) (by decide +kernel))⟩
theorem ff_Mo_47 : ∃ q : vw_C, vwCl[7]? = some q ∧ 22 < q.2.2 ∧ (q.2.1 22).2.2.2 = true ∧ parseFieldDescriptor (q.2.1 22).2.2.1 = some (.array .int) ∧ Cond.fieldLink "TailoredOrderModel" 47 (q.2.1 22).1 (q.2.1 22).2.1 (q.2.1 22).2.2.1 ∈ mx_gw ∧ (q.2.1 22).1 = "TailoredOrderModel" := ⟨_, rfl, by decide, rfl, by decide +kernel, (mx_in 537 (by decide +kernel) (by decide +kernel)), rfl⟩
theorem ca_Li_init : mx_cal m_Li_init 1 := ⟨(mx_in 67 (by decide +kernel) (by decide +kernel)), (mx_in 43 (by decide +kernel) (by decide +kernel)), by decide +kernel, ⟨by decide +kernel, by decide +kernel, by decide +kernel⟩, by decide⟩
theorem ci_To_21 : mx_Ic "TailoredOrder" 21 m_Li_init 1 := ⟨Or.inl (mx_in 65 (by decide +kernel) (by decide +kernel)), ca_Li_init, (mx_in 66 (by decide +kernel) (by decide +kernel)), rfl, rfl, by decide⟩
theorem ca_Ke_init : mx_cal m_Ke_init 0 := ⟨(mx_in 84 (by decide +kernel) (by decide +kernel)), (mx_in 44 (by decide +kernel) (by decide +kernel)), by decide +kernel, ⟨by decide +kernel, by decide +kernel, by decide +kernel⟩, by decide⟩
theorem ci_To_24 : mx_Ic "TailoredOrder" 24 m_Ke_init 0 := ⟨Or.inl (mx_in 82 (by decide +kernel) (by decide +kernel)), ca_Ke_init, (mx_in 83 (by decide +kernel) (by decide +kernel)), rfl, rfl, by decide⟩
theorem ca_Ta_init : mx_cal m_Ta_init 0 := ⟨(mx_in 101 (by decide +kernel) (by decide +kernel)), (mx_in 45 (by decide +kernel) (by decide +kernel)), by decide +kernel, ⟨by decide +kernel, by decide +kernel, by decide +kernel⟩, by decide⟩
theorem ci_To_27 : mx_Ic "TailoredOrder" 27 m_Ta_init 0 := ⟨Or.inl (mx_in 99 (by decide +kernel) (by decide +kernel)), ca_Ta_init, (mx_in 100 (by decide +kernel) (by decide +kernel)), rfl, rfl, by decide⟩
theorem ca_Ru_init : mx_cal m_Ru_init 0 := ⟨(mx_in 144 (by decide +kernel) (by decide +kernel)), (mx_in 46 (by decide +kernel) (by decide +kernel)), by decide +kernel, ⟨by decide +kernel, by decide +kernel, by decide +kernel⟩, by decide⟩
theorem ci_To_37 : mx_Ic "TailoredOrder" 37 m_Ru_init 0 := ⟨Or.inl (mx_in 142 (by decide +kernel) (by decide +kernel)), ca_Ru_init, (mx_in 143 (by decide +kernel) (by decide +kernel)), rfl, rfl, by decide⟩
theorem ca_Km_init : mx_cal m_Km_init 1 := ⟨(mx_in 169 (by decide +kernel) (by decide +kernel)), (mx_in 47 (by decide +kernel) (by decide +kernel)), by decide +kernel, ⟨by decide +kernel, by decide +kernel, by decide +kernel⟩, by decide⟩
theorem ci_To_44 : mx_Ic "TailoredOrder" 44 m_Km_init 1 := ⟨Or.inl (mx_in 167 (by decide +kernel) (by decide +kernel)), ca_Km_init, (mx_in 168 (by decide +kernel) (by decide +kernel)), rfl, rfl, by decide⟩
theorem ca_Fo_init : mx_cal m_Fo_init 0 := ⟨(mx_in 208 (by decide +kernel) (by decide +kernel)), (mx_in 48 (by decide +kernel) (by decide +kernel)), by decide +kernel, ⟨by decide +kernel, by decide +kernel, by decide +kernel⟩, by decide⟩
theorem ci_To_53 : mx_Ic "TailoredOrder" 53 m_Fo_init 0 := ⟨Or.inl (mx_in 206 (by decide +kernel) (by decide +kernel)), ca_Fo_init, (mx_in 207 (by decide +kernel) (by decide +kernel)), rfl, rfl, by decide⟩
theorem ca_To_isLetter : mx_cal m_To_isLetter 1 := ⟨(mx_in 261 (by decide +kernel) (by decide +kernel)), (mx_in 42 (by decide +kernel) (by decide +kernel)), by decide +kernel, ⟨by decide +kernel, by decide +kernel, by decide +kernel⟩, by decide⟩
theorem cs_To_58 : mx_Sc "TailoredOrder" 58 m_To_isLetter 1 := ⟨Or.inl (mx_in 259 (by decide +kernel) (by decide +kernel)), ca_To_isLetter, (mx_in 260 (by decide +kernel) (by decide +kernel)), by decide⟩
theorem ca_To_isVariable : mx_cal m_To_isVariable 1 := ⟨(mx_in 264 (by decide +kernel) (by decide +kernel)), (mx_in 42 (by decide +kernel) (by decide +kernel)), by decide +kernel, ⟨by decide +kernel, by decide +kernel, by decide +kernel⟩, by decide⟩
theorem cs_To_62 : mx_Sc "TailoredOrder" 62 m_To_isVariable 1 := ⟨Or.inl (mx_in 262 (by decide +kernel) (by decide +kernel)), ca_To_isVariable, (mx_in 263 (by decide +kernel) (by decide +kernel)), by decide⟩
theorem ca_To_isMark : mx_cal m_To_isMark 1 := ⟨(mx_in 267 (by decide +kernel) (by decide +kernel)), (mx_in 42 (by decide +kernel) (by decide +kernel)), by decide +kernel, ⟨by decide +kernel, by decide +kernel, by decide +kernel⟩, by decide⟩
theorem cs_To_65 : mx_Sc "TailoredOrder" 65 m_To_isMark 1 := ⟨Or.inl (mx_in 265 (by decide +kernel) (by decide +kernel)), ca_To_isMark, (mx_in 266 (by decide +kernel) (by decide +kernel)), by decide⟩
theorem ca_Li_append : mx_cal m_Li_append 1 := ⟨(mx_in 271 (by decide +kernel) (by decide +kernel)), (mx_in 43 (by decide +kernel) (by decide +kernel)), by decide +kernel, ⟨by decide +kernel, by decide +kernel, by decide +kernel⟩, by decide⟩
theorem cv_To_68 : mx_V "TailoredOrder" 68 m_Li_append 1 3 := ⟨Or.inl (mx_in 268 (by decide +kernel) (by decide +kernel)), ca_Li_append, ⟨(mx_in 269 (by decide +kernel) (by decide +kernel)), (mx_in 270 (by decide +kernel) (by decide +kernel))⟩, ⟨_, rfl, rfl⟩, by decide⟩
theorem ca_Li_clear : mx_cal m_Li_clear 0 := ⟨(mx_in 279 (by decide +kernel) (by decide +kernel)), (mx_in 43 (by decide +kernel) (by decide +kernel)), by decide +kernel, ⟨by decide +kernel, by decide +kernel, by decide +kernel⟩, by decide⟩
theorem cv_To_72 : mx_V "TailoredOrder" 72 m_Li_clear 0 3 := ⟨Or.inl (mx_in 276 (by decide +kernel) (by decide +kernel)), ca_Li_clear, ⟨(mx_in 277 (by decide +kernel) (by decide +kernel)), (mx_in 278 (by decide +kernel) (by decide +kernel))⟩, ⟨_, rfl, rfl⟩, by decide⟩
theorem ca_Ru_read : mx_cal m_Ru_read 1 := ⟨(mx_in 287 (by decide +kernel) (by decide +kernel)), (mx_in 46 (by decide +kernel) (by decide +kernel)), by decide +kernel, ⟨by decide +kernel, by decide +kernel, by decide +kernel⟩, by decide⟩
theorem cv_To_76 : mx_V "TailoredOrder" 76 m_Ru_read 1 4 := ⟨Or.inl (mx_in 284 (by decide +kernel) (by decide +kernel)), ca_Ru_read, ⟨(mx_in 285 (by decide +kernel) (by decide +kernel)), (mx_in 286 (by decide +kernel) (by decide +kernel))⟩, ⟨_, rfl, rfl⟩, by decide⟩
theorem ca_Ta_copyFrom : mx_cal m_Ta_copyFrom 1 := ⟨(mx_in 316 (by decide +kernel) (by decide +kernel)), (mx_in 45 (by decide +kernel) (by decide +kernel)), by decide +kernel, ⟨by decide +kernel, by decide +kernel, by decide +kernel⟩, by decide⟩
theorem cv_To_80 : mx_V "TailoredOrder" 80 m_Ta_copyFrom 1 5 := ⟨Or.inl (mx_in 313 (by decide +kernel) (by decide +kernel)), ca_Ta_copyFrom, ⟨(mx_in 314 (by decide +kernel) (by decide +kernel)), (mx_in 315 (by decide +kernel) (by decide +kernel))⟩, ⟨_, rfl, rfl⟩, by decide⟩
theorem ca_Ta_follow : mx_cal m_Ta_follow 1 := ⟨(mx_in 323 (by decide +kernel) (by decide +kernel)), (mx_in 45 (by decide +kernel) (by decide +kernel)), by decide +kernel, ⟨by decide +kernel, by decide +kernel, by decide +kernel⟩, by decide⟩
theorem cv_To_83 : mx_V "TailoredOrder" 83 m_Ta_follow 1 5 := ⟨Or.inl (mx_in 320 (by decide +kernel) (by decide +kernel)), ca_Ta_follow, ⟨(mx_in 321 (by decide +kernel) (by decide +kernel)), (mx_in 322 (by decide +kernel) (by decide +kernel))⟩, ⟨_, rfl, rfl⟩, by decide⟩
theorem ca_To_characterOf : mx_cal m_To_characterOf 2 := ⟨(mx_in 353 (by decide +kernel) (by decide +kernel)), (mx_in 42 (by decide +kernel) (by decide +kernel)), by decide +kernel, ⟨by decide +kernel, by decide +kernel, by decide +kernel⟩, by decide⟩
theorem cs_To_95 : mx_Sc "TailoredOrder" 95 m_To_characterOf 2 := ⟨Or.inl (mx_in 351 (by decide +kernel) (by decide +kernel)), ca_To_characterOf, (mx_in 352 (by decide +kernel) (by decide +kernel)), by decide⟩
theorem ca_Km_shape : mx_cal m_Km_shape 3 := ⟨(mx_in 361 (by decide +kernel) (by decide +kernel)), (mx_in 47 (by decide +kernel) (by decide +kernel)), by decide +kernel, ⟨by decide +kernel, by decide +kernel, by decide +kernel⟩, by decide⟩
theorem cv_To_111 : mx_V "TailoredOrder" 111 m_Km_shape 3 2 := ⟨Or.inl (mx_in 358 (by decide +kernel) (by decide +kernel)), ca_Km_shape, ⟨(mx_in 359 (by decide +kernel) (by decide +kernel)), (mx_in 360 (by decide +kernel) (by decide +kernel))⟩, ⟨_, rfl, rfl⟩, by decide⟩
theorem ca_To_isTextLine : mx_cal m_To_isTextLine 1 := ⟨(mx_in 368 (by decide +kernel) (by decide +kernel)), (mx_in 42 (by decide +kernel) (by decide +kernel)), by decide +kernel, ⟨by decide +kernel, by decide +kernel, by decide +kernel⟩, by decide⟩
theorem cs_To_115 : mx_Sc "TailoredOrder" 115 m_To_isTextLine 1 := ⟨Or.inl (mx_in 366 (by decide +kernel) (by decide +kernel)), ca_To_isTextLine, (mx_in 367 (by decide +kernel) (by decide +kernel)), by decide⟩
theorem ca_To_keyOf : mx_cal m_To_keyOf 1 := ⟨(mx_in 372 (by decide +kernel) (by decide +kernel)), (mx_in 42 (by decide +kernel) (by decide +kernel)), by decide +kernel, ⟨by decide +kernel, by decide +kernel, by decide +kernel⟩, by decide⟩
theorem cv_To_118 : mx_V "TailoredOrder" 118 m_To_keyOf 1 6 := ⟨Or.inl (mx_in 369 (by decide +kernel) (by decide +kernel)), ca_To_keyOf, ⟨(mx_in 371 (by decide +kernel) (by decide +kernel)), (mx_in 9 (by decide +kernel) (by decide +kernel))⟩, ⟨_, rfl, rfl⟩, by decide⟩
theorem ca_Ke_against : mx_cal m_Ke_against 1 := ⟨(mx_in 451 (by decide +kernel) (by decide +kernel)), (mx_in 44 (by decide +kernel) (by decide +kernel)), by decide +kernel, ⟨by decide +kernel, by decide +kernel, by decide +kernel⟩, by decide⟩
theorem cv_To_128 : mx_V "TailoredOrder" 128 m_Ke_against 1 1 := ⟨Or.inl (mx_in 448 (by decide +kernel) (by decide +kernel)), ca_Ke_against, ⟨(mx_in 449 (by decide +kernel) (by decide +kernel)), (mx_in 450 (by decide +kernel) (by decide +kernel))⟩, ⟨_, rfl, rfl⟩, by decide⟩
theorem ca_Fo_add : mx_cal m_Fo_add 1 := ⟨(mx_in 460 (by decide +kernel) (by decide +kernel)), (mx_in 48 (by decide +kernel) (by decide +kernel)), by decide +kernel, ⟨by decide +kernel, by decide +kernel, by decide +kernel⟩, by decide⟩
theorem cv_To_132 : mx_V "TailoredOrder" 132 m_Fo_add 1 0 := ⟨Or.inl (mx_in 457 (by decide +kernel) (by decide +kernel)), ca_Fo_add, ⟨(mx_in 458 (by decide +kernel) (by decide +kernel)), (mx_in 459 (by decide +kernel) (by decide +kernel))⟩, ⟨_, rfl, rfl⟩, by decide⟩
theorem ca_Fo_remove : mx_cal m_Fo_remove 1 := ⟨(mx_in 474 (by decide +kernel) (by decide +kernel)), (mx_in 48 (by decide +kernel) (by decide +kernel)), by decide +kernel, ⟨by decide +kernel, by decide +kernel, by decide +kernel⟩, by decide⟩
theorem cv_To_135 : mx_V "TailoredOrder" 135 m_Fo_remove 1 0 := ⟨Or.inl (mx_in 471 (by decide +kernel) (by decide +kernel)), ca_Fo_remove, ⟨(mx_in 472 (by decide +kernel) (by decide +kernel)), (mx_in 473 (by decide +kernel) (by decide +kernel))⟩, ⟨_, rfl, rfl⟩, by decide⟩
theorem ca_To_makeFolderKeys : mx_cal m_To_makeFolderKeys 0 := ⟨(mx_in 490 (by decide +kernel) (by decide +kernel)), (mx_in 42 (by decide +kernel) (by decide +kernel)), by decide +kernel, ⟨by decide +kernel, by decide +kernel, by decide +kernel⟩, by decide⟩
theorem cv_To_139 : mx_V "TailoredOrder" 139 m_To_makeFolderKeys 0 6 := ⟨Or.inl (mx_in 487 (by decide +kernel) (by decide +kernel)), ca_To_makeFolderKeys, ⟨(mx_in 489 (by decide +kernel) (by decide +kernel)), (mx_in 21 (by decide +kernel) (by decide +kernel))⟩, ⟨_, rfl, rfl⟩, by decide⟩
theorem ca_Fo_numberAt : mx_cal m_Fo_numberAt 1 := ⟨(mx_in 494 (by decide +kernel) (by decide +kernel)), (mx_in 48 (by decide +kernel) (by decide +kernel)), by decide +kernel, ⟨by decide +kernel, by decide +kernel, by decide +kernel⟩, by decide⟩
theorem cv_To_142 : mx_V "TailoredOrder" 142 m_Fo_numberAt 1 0 := ⟨Or.inl (mx_in 491 (by decide +kernel) (by decide +kernel)), ca_Fo_numberAt, ⟨(mx_in 492 (by decide +kernel) (by decide +kernel)), (mx_in 493 (by decide +kernel) (by decide +kernel))⟩, ⟨_, rfl, rfl⟩, by decide⟩
theorem ca_Fo_countLess : mx_cal m_Fo_countLess 1 := ⟨(mx_in 502 (by decide +kernel) (by decide +kernel)), (mx_in 48 (by decide +kernel) (by decide +kernel)), by decide +kernel, ⟨by decide +kernel, by decide +kernel, by decide +kernel⟩, by decide⟩
theorem cv_To_146 : mx_V "TailoredOrder" 146 m_Fo_countLess 1 0 := ⟨Or.inl (mx_in 508 (by decide +kernel) (by decide +kernel)), ca_Fo_countLess, ⟨(mx_in 500 (by decide +kernel) (by decide +kernel)), (mx_in 501 (by decide +kernel) (by decide +kernel))⟩, ⟨_, rfl, rfl⟩, by decide⟩
theorem ca_Km_make : mx_cal m_Km_make 2 := ⟨(mx_in 376 (by decide +kernel) (by decide +kernel)), (mx_in 47 (by decide +kernel) (by decide +kernel)), by decide +kernel, ⟨by decide +kernel, by decide +kernel, by decide +kernel⟩, by decide⟩
theorem cv_To_149 : mx_V "TailoredOrder" 149 m_Km_make 2 2 := ⟨Or.inl (mx_in 373 (by decide +kernel) (by decide +kernel)), ca_Km_make, ⟨(mx_in 374 (by decide +kernel) (by decide +kernel)), (mx_in 375 (by decide +kernel) (by decide +kernel))⟩, ⟨_, rfl, rfl⟩, by decide⟩
theorem ci_Fo_27 : mx_Ic "TailoredOrder$Folder" 27 m_Li_init 1 := ⟨Or.inl (mx_in 212 (by decide +kernel) (by decide +kernel)), ca_Li_init, (mx_in 66 (by decide +kernel) (by decide +kernel)), rfl, rfl, by decide⟩
theorem ci_Fo_30 : mx_Ic "TailoredOrder$Folder" 30 m_Ke_init 0 := ⟨Or.inl (mx_in 213 (by decide +kernel) (by decide +kernel)), ca_Ke_init, (mx_in 83 (by decide +kernel) (by decide +kernel)), rfl, rfl, by decide⟩
theorem ca_Li_copyFrom : mx_cal m_Li_copyFrom 1 := ⟨(mx_in 464 (by decide +kernel) (by decide +kernel)), (mx_in 43 (by decide +kernel) (by decide +kernel)), by decide +kernel, ⟨by decide +kernel, by decide +kernel, by decide +kernel⟩, by decide⟩
theorem cv_Fo_38 : mx_V "TailoredOrder$Folder" 38 m_Li_copyFrom 1 3 := ⟨Or.inl (mx_in 461 (by decide +kernel) (by decide +kernel)), ca_Li_copyFrom, ⟨(mx_in 462 (by decide +kernel) (by decide +kernel)), (mx_in 463 (by decide +kernel) (by decide +kernel))⟩, ⟨_, rfl, rfl⟩, by decide⟩
theorem ca_Fo_closeUp : mx_cal m_Fo_closeUp 1 := ⟨(mx_in 478 (by decide +kernel) (by decide +kernel)), (mx_in 48 (by decide +kernel) (by decide +kernel)), by decide +kernel, ⟨by decide +kernel, by decide +kernel, by decide +kernel⟩, by decide⟩
theorem cv_Fo_42 : mx_V "TailoredOrder$Folder" 42 m_Fo_closeUp 1 0 := ⟨Or.inl (mx_in 475 (by decide +kernel) (by decide +kernel)), ca_Fo_closeUp, ⟨(mx_in 477 (by decide +kernel) (by decide +kernel)), (mx_in 20 (by decide +kernel) (by decide +kernel))⟩, ⟨_, rfl, rfl⟩, by decide⟩
theorem ca_Fo_placeOf : mx_cal m_Fo_placeOf 1 := ⟨(mx_in 498 (by decide +kernel) (by decide +kernel)), (mx_in 48 (by decide +kernel) (by decide +kernel)), by decide +kernel, ⟨by decide +kernel, by decide +kernel, by decide +kernel⟩, by decide⟩
theorem cv_Fo_45 : mx_V "TailoredOrder$Folder" 45 m_Fo_placeOf 1 0 := ⟨Or.inl (mx_in 495 (by decide +kernel) (by decide +kernel)), ca_Fo_placeOf, ⟨(mx_in 497 (by decide +kernel) (by decide +kernel)), (mx_in 22 (by decide +kernel) (by decide +kernel))⟩, ⟨_, rfl, rfl⟩, by decide⟩
theorem cv_Fo_49 : mx_V "TailoredOrder$Folder" 49 m_Fo_countLess 1 0 := ⟨Or.inl (mx_in 499 (by decide +kernel) (by decide +kernel)), ca_Fo_countLess, ⟨(mx_in 500 (by decide +kernel) (by decide +kernel)), (mx_in 501 (by decide +kernel) (by decide +kernel))⟩, ⟨_, rfl, rfl⟩, by decide⟩
theorem cv_Fo_53 : mx_V "TailoredOrder$Folder" 53 m_Ke_against 1 1 := ⟨Or.inl (mx_in 503 (by decide +kernel) (by decide +kernel)), ca_Ke_against, ⟨(mx_in 449 (by decide +kernel) (by decide +kernel)), (mx_in 450 (by decide +kernel) (by decide +kernel))⟩, ⟨_, rfl, rfl⟩, by decide⟩
theorem ca_Km_arrange : mx_cal m_Km_arrange 1 := ⟨(mx_in 380 (by decide +kernel) (by decide +kernel)), (mx_in 47 (by decide +kernel) (by decide +kernel)), by decide +kernel, ⟨by decide +kernel, by decide +kernel, by decide +kernel⟩, by decide⟩
theorem cv_Km_38 : mx_V "TailoredOrder$KeyMaker" 38 m_Km_arrange 1 2 := ⟨Or.inl (mx_in 377 (by decide +kernel) (by decide +kernel)), ca_Km_arrange, ⟨(mx_in 379 (by decide +kernel) (by decide +kernel)), (mx_in 10 (by decide +kernel) (by decide +kernel))⟩, ⟨_, rfl, rfl⟩, by decide⟩
theorem ca_Km_findElements : mx_cal m_Km_findElements 0 := ⟨(mx_in 391 (by decide +kernel) (by decide +kernel)), (mx_in 47 (by decide +kernel) (by decide +kernel)), by decide +kernel, ⟨by decide +kernel, by decide +kernel, by decide +kernel⟩, by decide⟩
theorem cv_Km_42 : mx_V "TailoredOrder$KeyMaker" 42 m_Km_findElements 0 2 := ⟨Or.inl (mx_in 388 (by decide +kernel) (by decide +kernel)), ca_Km_findElements, ⟨(mx_in 390 (by decide +kernel) (by decide +kernel)), (mx_in 11 (by decide +kernel) (by decide +kernel))⟩, ⟨_, rfl, rfl⟩, by decide⟩
theorem ca_Km_writeLevel : mx_cal m_Km_writeLevel 2 := ⟨(mx_in 435 (by decide +kernel) (by decide +kernel)), (mx_in 47 (by decide +kernel) (by decide +kernel)), by decide +kernel, ⟨by decide +kernel, by decide +kernel, by decide +kernel⟩, by decide⟩
theorem cv_Km_50 : mx_V "TailoredOrder$KeyMaker" 50 m_Km_writeLevel 2 2 := ⟨Or.inl (mx_in 432 (by decide +kernel) (by decide +kernel)), ca_Km_writeLevel, ⟨(mx_in 434 (by decide +kernel) (by decide +kernel)), (mx_in 19 (by decide +kernel) (by decide +kernel))⟩, ⟨_, rfl, rfl⟩, by decide⟩
theorem ca_Km_mustPass : mx_cal m_Km_mustPass 2 := ⟨(mx_in 383 (by decide +kernel) (by decide +kernel)), (mx_in 47 (by decide +kernel) (by decide +kernel)), by decide +kernel, ⟨by decide +kernel, by decide +kernel, by decide +kernel⟩, by decide⟩
theorem cs_Km_61 : mx_Sc "TailoredOrder$KeyMaker" 61 m_Km_mustPass 2 := ⟨Or.inl (mx_in 381 (by decide +kernel) (by decide +kernel)), ca_Km_mustPass, (mx_in 382 (by decide +kernel) (by decide +kernel)), by decide⟩
theorem cs_Km_65 : mx_Sc "TailoredOrder$KeyMaker" 65 m_To_isMark 1 := ⟨Or.inr ⟨_, (mx_inn 384 (w := .methodLinkNest "TailoredOrder$KeyMaker" 65 y_To_isMark "TailoredOrder") (by decide +kernel) (by decide +kernel))⟩, ca_To_isMark, (mx_in 266 (by decide +kernel) (by decide +kernel)), by decide⟩
theorem ca_To_classOf : mx_cal m_To_classOf 1 := ⟨(mx_in 387 (by decide +kernel) (by decide +kernel)), (mx_in 42 (by decide +kernel) (by decide +kernel)), by decide +kernel, ⟨by decide +kernel, by decide +kernel, by decide +kernel⟩, by decide⟩
theorem cs_Km_69 : mx_Sc "TailoredOrder$KeyMaker" 69 m_To_classOf 1 := ⟨Or.inr ⟨_, (mx_inn 385 (w := .methodLinkNest "TailoredOrder$KeyMaker" 69 y_To_classOf "TailoredOrder") (by decide +kernel) (by decide +kernel))⟩, ca_To_classOf, (mx_in 386 (by decide +kernel) (by decide +kernel)), by decide⟩
theorem ca_Km_addMark : mx_cal m_Km_addMark 1 := ⟨(mx_in 395 (by decide +kernel) (by decide +kernel)), (mx_in 47 (by decide +kernel) (by decide +kernel)), by decide +kernel, ⟨by decide +kernel, by decide +kernel, by decide +kernel⟩, by decide⟩
theorem cv_Km_79 : mx_V "TailoredOrder$KeyMaker" 79 m_Km_addMark 1 2 := ⟨Or.inl (mx_in 392 (by decide +kernel) (by decide +kernel)), ca_Km_addMark, ⟨(mx_in 394 (by decide +kernel) (by decide +kernel)), (mx_in 12 (by decide +kernel) (by decide +kernel))⟩, ⟨_, rfl, rfl⟩, by decide⟩
theorem ca_Km_takeEntry : mx_cal m_Km_takeEntry 1 := ⟨(mx_in 403 (by decide +kernel) (by decide +kernel)), (mx_in 47 (by decide +kernel) (by decide +kernel)), by decide +kernel, ⟨by decide +kernel, by decide +kernel, by decide +kernel⟩, by decide⟩
theorem cv_Km_83 : mx_V "TailoredOrder$KeyMaker" 83 m_Km_takeEntry 1 2 := ⟨Or.inl (mx_in 400 (by decide +kernel) (by decide +kernel)), ca_Km_takeEntry, ⟨(mx_in 402 (by decide +kernel) (by decide +kernel)), (mx_in 14 (by decide +kernel) (by decide +kernel))⟩, ⟨_, rfl, rfl⟩, by decide⟩
theorem ca_Km_headAt : mx_cal m_Km_headAt 1 := ⟨(mx_in 407 (by decide +kernel) (by decide +kernel)), (mx_in 47 (by decide +kernel) (by decide +kernel)), by decide +kernel, ⟨by decide +kernel, by decide +kernel, by decide +kernel⟩, by decide⟩
theorem cv_Km_86 : mx_V "TailoredOrder$KeyMaker" 86 m_Km_headAt 1 2 := ⟨Or.inl (mx_in 404 (by decide +kernel) (by decide +kernel)), ca_Km_headAt, ⟨(mx_in 406 (by decide +kernel) (by decide +kernel)), (mx_in 15 (by decide +kernel) (by decide +kernel))⟩, ⟨_, rfl, rfl⟩, by decide⟩
theorem ca_Ta_findLongest : mx_cal m_Ta_findLongest 1 := ⟨(mx_in 411 (by decide +kernel) (by decide +kernel)), (mx_in 45 (by decide +kernel) (by decide +kernel)), by decide +kernel, ⟨by decide +kernel, by decide +kernel, by decide +kernel⟩, by decide⟩
theorem cv_Km_89 : mx_V "TailoredOrder$KeyMaker" 89 m_Ta_findLongest 1 5 := ⟨Or.inl (mx_in 408 (by decide +kernel) (by decide +kernel)), ca_Ta_findLongest, ⟨(mx_in 409 (by decide +kernel) (by decide +kernel)), (mx_in 410 (by decide +kernel) (by decide +kernel))⟩, ⟨_, rfl, rfl⟩, by decide⟩
theorem ca_To_lengthOf : mx_cal m_To_lengthOf 1 := ⟨(mx_in 308 (by decide +kernel) (by decide +kernel)), (mx_in 42 (by decide +kernel) (by decide +kernel)), by decide +kernel, ⟨by decide +kernel, by decide +kernel, by decide +kernel⟩, by decide⟩
theorem cs_Km_98 : mx_Sc "TailoredOrder$KeyMaker" 98 m_To_lengthOf 1 := ⟨Or.inr ⟨_, (mx_inn 416 (w := .methodLinkNest "TailoredOrder$KeyMaker" 98 y_To_lengthOf "TailoredOrder") (by decide +kernel) (by decide +kernel))⟩, ca_To_lengthOf, (mx_in 307 (by decide +kernel) (by decide +kernel)), by decide⟩
theorem ca_Km_isBlocked : mx_cal m_Km_isBlocked 2 := ⟨(mx_in 420 (by decide +kernel) (by decide +kernel)), (mx_in 47 (by decide +kernel) (by decide +kernel)), by decide +kernel, ⟨by decide +kernel, by decide +kernel, by decide +kernel⟩, by decide⟩
theorem cv_Km_101 : mx_V "TailoredOrder$KeyMaker" 101 m_Km_isBlocked 2 2 := ⟨Or.inl (mx_in 417 (by decide +kernel) (by decide +kernel)), ca_Km_isBlocked, ⟨(mx_in 419 (by decide +kernel) (by decide +kernel)), (mx_in 16 (by decide +kernel) (by decide +kernel))⟩, ⟨_, rfl, rfl⟩, by decide⟩
theorem ca_Km_findLonger : mx_cal m_Km_findLonger 2 := ⟨(mx_in 424 (by decide +kernel) (by decide +kernel)), (mx_in 47 (by decide +kernel) (by decide +kernel)), by decide +kernel, ⟨by decide +kernel, by decide +kernel, by decide +kernel⟩, by decide⟩
theorem cv_Km_105 : mx_V "TailoredOrder$KeyMaker" 105 m_Km_findLonger 2 2 := ⟨Or.inl (mx_in 421 (by decide +kernel) (by decide +kernel)), ca_Km_findLonger, ⟨(mx_in 423 (by decide +kernel) (by decide +kernel)), (mx_in 17 (by decide +kernel) (by decide +kernel))⟩, ⟨_, rfl, rfl⟩, by decide⟩
theorem ca_Km_addEntry : mx_cal m_Km_addEntry 1 := ⟨(mx_in 430 (by decide +kernel) (by decide +kernel)), (mx_in 47 (by decide +kernel) (by decide +kernel)), by decide +kernel, ⟨by decide +kernel, by decide +kernel, by decide +kernel⟩, by decide⟩
theorem cv_Km_109 : mx_V "TailoredOrder$KeyMaker" 109 m_Km_addEntry 1 2 := ⟨Or.inl (mx_in 427 (by decide +kernel) (by decide +kernel)), ca_Km_addEntry, ⟨(mx_in 429 (by decide +kernel) (by decide +kernel)), (mx_in 18 (by decide +kernel) (by decide +kernel))⟩, ⟨_, rfl, rfl⟩, by decide⟩
theorem ca_To_joined : mx_cal m_To_joined 3 := ⟨(mx_in 312 (by decide +kernel) (by decide +kernel)), (mx_in 42 (by decide +kernel) (by decide +kernel)), by decide +kernel, ⟨by decide +kernel, by decide +kernel, by decide +kernel⟩, by decide⟩
theorem cs_Km_113 : mx_Sc "TailoredOrder$KeyMaker" 113 m_To_joined 3 := ⟨Or.inr ⟨_, (mx_inn 425 (w := .methodLinkNest "TailoredOrder$KeyMaker" 113 y_To_joined "TailoredOrder") (by decide +kernel) (by decide +kernel))⟩, ca_To_joined, (mx_in 311 (by decide +kernel) (by decide +kernel)), by decide⟩
theorem ca_Ta_find : mx_cal m_Ta_find 1 := ⟨(mx_in 327 (by decide +kernel) (by decide +kernel)), (mx_in 45 (by decide +kernel) (by decide +kernel)), by decide +kernel, ⟨by decide +kernel, by decide +kernel, by decide +kernel⟩, by decide⟩
theorem cv_Km_117 : mx_V "TailoredOrder$KeyMaker" 117 m_Ta_find 1 5 := ⟨Or.inl (mx_in 426 (by decide +kernel) (by decide +kernel)), ca_Ta_find, ⟨(mx_in 325 (by decide +kernel) (by decide +kernel)), (mx_in 326 (by decide +kernel) (by decide +kernel))⟩, ⟨_, rfl, rfl⟩, by decide⟩
theorem cs_Km_120 : mx_Sc "TailoredOrder$KeyMaker" 120 m_To_isVariable 1 := ⟨Or.inr ⟨_, (mx_inn 431 (w := .methodLinkNest "TailoredOrder$KeyMaker" 120 y_To_isVariable "TailoredOrder") (by decide +kernel) (by decide +kernel))⟩, ca_To_isVariable, (mx_in 263 (by decide +kernel) (by decide +kernel)), by decide⟩
theorem ca_Km_addElement : mx_cal m_Km_addElement 4 := ⟨(mx_in 399 (by decide +kernel) (by decide +kernel)), (mx_in 47 (by decide +kernel) (by decide +kernel)), by decide +kernel, ⟨by decide +kernel, by decide +kernel, by decide +kernel⟩, by decide⟩
theorem cv_Km_126 : mx_V "TailoredOrder$KeyMaker" 126 m_Km_addElement 4 2 := ⟨Or.inl (mx_in 396 (by decide +kernel) (by decide +kernel)), ca_Km_addElement, ⟨(mx_in 398 (by decide +kernel) (by decide +kernel)), (mx_in 13 (by decide +kernel) (by decide +kernel))⟩, ⟨_, rfl, rfl⟩, by decide⟩
theorem ca_Ke_add : mx_cal m_Ke_add 1 := ⟨(mx_in 439 (by decide +kernel) (by decide +kernel)), (mx_in 44 (by decide +kernel) (by decide +kernel)), by decide +kernel, ⟨by decide +kernel, by decide +kernel, by decide +kernel⟩, by decide⟩
theorem cv_Km_136 : mx_V "TailoredOrder$KeyMaker" 136 m_Ke_add 1 1 := ⟨Or.inl (mx_in 436 (by decide +kernel) (by decide +kernel)), ca_Ke_add, ⟨(mx_in 437 (by decide +kernel) (by decide +kernel)), (mx_in 438 (by decide +kernel) (by decide +kernel))⟩, ⟨_, rfl, rfl⟩, by decide⟩
theorem cv_Li_17 : mx_V "TailoredOrder$Line" 17 m_Li_clear 0 3 := ⟨Or.inl (mx_in 465 (by decide +kernel) (by decide +kernel)), ca_Li_clear, ⟨(mx_in 277 (by decide +kernel) (by decide +kernel)), (mx_in 278 (by decide +kernel) (by decide +kernel))⟩, ⟨_, rfl, rfl⟩, by decide⟩
theorem cv_Li_21 : mx_V "TailoredOrder$Line" 21 m_Li_append 1 3 := ⟨Or.inl (mx_in 466 (by decide +kernel) (by decide +kernel)), ca_Li_append, ⟨(mx_in 269 (by decide +kernel) (by decide +kernel)), (mx_in 270 (by decide +kernel) (by decide +kernel))⟩, ⟨_, rfl, rfl⟩, by decide⟩
theorem ca_Ru_takes : mx_cal m_Ru_takes 1 := ⟨(mx_in 291 (by decide +kernel) (by decide +kernel)), (mx_in 46 (by decide +kernel) (by decide +kernel)), by decide +kernel, ⟨by decide +kernel, by decide +kernel, by decide +kernel⟩, by decide⟩
theorem cv_Ru_37 : mx_V "TailoredOrder$Rule" 37 m_Ru_takes 1 4 := ⟨Or.inl (mx_in 288 (by decide +kernel) (by decide +kernel)), ca_Ru_takes, ⟨(mx_in 290 (by decide +kernel) (by decide +kernel)), (mx_in 2 (by decide +kernel) (by decide +kernel))⟩, ⟨_, rfl, rfl⟩, by decide⟩
theorem ca_Ru_sign : mx_cal m_Ru_sign 1 := ⟨(mx_in 295 (by decide +kernel) (by decide +kernel)), (mx_in 46 (by decide +kernel) (by decide +kernel)), by decide +kernel, ⟨by decide +kernel, by decide +kernel, by decide +kernel⟩, by decide⟩
theorem cv_Ru_41 : mx_V "TailoredOrder$Rule" 41 m_Ru_sign 1 4 := ⟨Or.inl (mx_in 292 (by decide +kernel) (by decide +kernel)), ca_Ru_sign, ⟨(mx_in 294 (by decide +kernel) (by decide +kernel)), (mx_in 3 (by decide +kernel) (by decide +kernel))⟩, ⟨_, rfl, rfl⟩, by decide⟩
theorem cs_Ru_45 : mx_Sc "TailoredOrder$Rule" 45 m_To_isLetter 1 := ⟨Or.inr ⟨_, (mx_inn 296 (w := .methodLinkNest "TailoredOrder$Rule" 45 y_To_isLetter "TailoredOrder") (by decide +kernel) (by decide +kernel))⟩, ca_To_isLetter, (mx_in 260 (by decide +kernel) (by decide +kernel)), by decide⟩
theorem ca_Ru_begin : mx_cal m_Ru_begin 1 := ⟨(mx_in 300 (by decide +kernel) (by decide +kernel)), (mx_in 46 (by decide +kernel) (by decide +kernel)), by decide +kernel, ⟨by decide +kernel, by decide +kernel, by decide +kernel⟩, by decide⟩
theorem cv_Ru_48 : mx_V "TailoredOrder$Rule" 48 m_Ru_begin 1 4 := ⟨Or.inl (mx_in 297 (by decide +kernel) (by decide +kernel)), ca_Ru_begin, ⟨(mx_in 299 (by decide +kernel) (by decide +kernel)), (mx_in 4 (by decide +kernel) (by decide +kernel))⟩, ⟨_, rfl, rfl⟩, by decide⟩
theorem ca_Ru_goOn : mx_cal m_Ru_goOn 1 := ⟨(mx_in 304 (by decide +kernel) (by decide +kernel)), (mx_in 46 (by decide +kernel) (by decide +kernel)), by decide +kernel, ⟨by decide +kernel, by decide +kernel, by decide +kernel⟩, by decide⟩
theorem cv_Ru_51 : mx_V "TailoredOrder$Rule" 51 m_Ru_goOn 1 4 := ⟨Or.inl (mx_in 301 (by decide +kernel) (by decide +kernel)), ca_Ru_goOn, ⟨(mx_in 303 (by decide +kernel) (by decide +kernel)), (mx_in 5 (by decide +kernel) (by decide +kernel))⟩, ⟨_, rfl, rfl⟩, by decide⟩
theorem cs_Ru_54 : mx_Sc "TailoredOrder$Rule" 54 m_To_isMark 1 := ⟨Or.inr ⟨_, (mx_inn 305 (w := .methodLinkNest "TailoredOrder$Rule" 54 y_To_isMark "TailoredOrder") (by decide +kernel) (by decide +kernel))⟩, ca_To_isMark, (mx_in 266 (by decide +kernel) (by decide +kernel)), by decide⟩
theorem cs_Ru_57 : mx_Sc "TailoredOrder$Rule" 57 m_To_lengthOf 1 := ⟨Or.inr ⟨_, (mx_inn 306 (w := .methodLinkNest "TailoredOrder$Rule" 57 y_To_lengthOf "TailoredOrder") (by decide +kernel) (by decide +kernel))⟩, ca_To_lengthOf, (mx_in 307 (by decide +kernel) (by decide +kernel)), by decide⟩
theorem cs_Ru_61 : mx_Sc "TailoredOrder$Rule" 61 m_To_joined 3 := ⟨Or.inr ⟨_, (mx_inn 310 (w := .methodLinkNest "TailoredOrder$Rule" 61 y_To_joined "TailoredOrder") (by decide +kernel) (by decide +kernel))⟩, ca_To_joined, (mx_in 311 (by decide +kernel) (by decide +kernel)), by decide⟩
theorem ca_Ta_insert : mx_cal m_Ta_insert 3 := ⟨(mx_in 106 (by decide +kernel) (by decide +kernel)), (mx_in 45 (by decide +kernel) (by decide +kernel)), by decide +kernel, ⟨by decide +kernel, by decide +kernel, by decide +kernel⟩, by decide⟩
theorem cv_Ta_27 : mx_V "TailoredOrder$Table" 27 m_Ta_insert 3 5 := ⟨Or.inl (mx_in 103 (by decide +kernel) (by decide +kernel)), ca_Ta_insert, ⟨(mx_in 105 (by decide +kernel) (by decide +kernel)), (mx_in 0 (by decide +kernel) (by decide +kernel))⟩, ⟨_, rfl, rfl⟩, by decide⟩
theorem ca_Ta_weigh : mx_cal m_Ta_weigh 0 := ⟨(mx_in 110 (by decide +kernel) (by decide +kernel)), (mx_in 45 (by decide +kernel) (by decide +kernel)), by decide +kernel, ⟨by decide +kernel, by decide +kernel, by decide +kernel⟩, by decide⟩
theorem cv_Ta_31 : mx_V "TailoredOrder$Table" 31 m_Ta_weigh 0 5 := ⟨Or.inl (mx_in 107 (by decide +kernel) (by decide +kernel)), ca_Ta_weigh, ⟨(mx_in 109 (by decide +kernel) (by decide +kernel)), (mx_in 1 (by decide +kernel) (by decide +kernel))⟩, ⟨_, rfl, rfl⟩, by decide⟩
theorem cs_Ta_44 : mx_Sc "TailoredOrder$Table" 44 m_To_lengthOf 1 := ⟨Or.inr ⟨_, (mx_inn 412 (w := .methodLinkNest "TailoredOrder$Table" 44 y_To_lengthOf "TailoredOrder") (by decide +kernel) (by decide +kernel))⟩, ca_To_lengthOf, (mx_in 307 (by decide +kernel) (by decide +kernel)), by decide⟩
theorem ca_To_firstOf : mx_cal m_To_firstOf 2 := ⟨(mx_in 415 (by decide +kernel) (by decide +kernel)), (mx_in 42 (by decide +kernel) (by decide +kernel)), by decide +kernel, ⟨by decide +kernel, by decide +kernel, by decide +kernel⟩, by decide⟩
theorem cs_Ta_48 : mx_Sc "TailoredOrder$Table" 48 m_To_firstOf 2 := ⟨Or.inr ⟨_, (mx_inn 413 (w := .methodLinkNest "TailoredOrder$Table" 48 y_To_firstOf "TailoredOrder") (by decide +kernel) (by decide +kernel))⟩, ca_To_firstOf, (mx_in 414 (by decide +kernel) (by decide +kernel)), by decide⟩
theorem cv_Ta_55 : mx_V "TailoredOrder$Table" 55 m_Ta_find 1 5 := ⟨Or.inl (mx_in 324 (by decide +kernel) (by decide +kernel)), ca_Ta_find, ⟨(mx_in 325 (by decide +kernel) (by decide +kernel)), (mx_in 326 (by decide +kernel) (by decide +kernel))⟩, ⟨_, rfl, rfl⟩, by decide⟩
theorem ca_Ta_move : mx_cal m_Ta_move 3 := ⟨(mx_in 331 (by decide +kernel) (by decide +kernel)), (mx_in 45 (by decide +kernel) (by decide +kernel)), by decide +kernel, ⟨by decide +kernel, by decide +kernel, by decide +kernel⟩, by decide⟩
theorem cv_Ta_60 : mx_V "TailoredOrder$Table" 60 m_Ta_move 3 5 := ⟨Or.inl (mx_in 328 (by decide +kernel) (by decide +kernel)), ca_Ta_move, ⟨(mx_in 330 (by decide +kernel) (by decide +kernel)), (mx_in 6 (by decide +kernel) (by decide +kernel))⟩, ⟨_, rfl, rfl⟩, by decide⟩
theorem ca_Ta_takeOut : mx_cal m_Ta_takeOut 1 := ⟨(mx_in 335 (by decide +kernel) (by decide +kernel)), (mx_in 45 (by decide +kernel) (by decide +kernel)), by decide +kernel, ⟨by decide +kernel, by decide +kernel, by decide +kernel⟩, by decide⟩
theorem cv_Ta_64 : mx_V "TailoredOrder$Table" 64 m_Ta_takeOut 1 5 := ⟨Or.inl (mx_in 332 (by decide +kernel) (by decide +kernel)), ca_Ta_takeOut, ⟨(mx_in 334 (by decide +kernel) (by decide +kernel)), (mx_in 7 (by decide +kernel) (by decide +kernel))⟩, ⟨_, rfl, rfl⟩, by decide⟩
theorem ca_Ta_putIn : mx_cal m_Ta_putIn 3 := ⟨(mx_in 342 (by decide +kernel) (by decide +kernel)), (mx_in 45 (by decide +kernel) (by decide +kernel)), by decide +kernel, ⟨by decide +kernel, by decide +kernel, by decide +kernel⟩, by decide⟩
theorem cv_Ta_68 : mx_V "TailoredOrder$Table" 68 m_Ta_putIn 3 5 := ⟨Or.inl (mx_in 339 (by decide +kernel) (by decide +kernel)), ca_Ta_putIn, ⟨(mx_in 341 (by decide +kernel) (by decide +kernel)), (mx_in 8 (by decide +kernel) (by decide +kernel))⟩, ⟨_, rfl, rfl⟩, by decide⟩
theorem ca_To_init : mx_cal m_To_init 0 := ⟨(mx_in 56 (by decide +kernel) (by decide +kernel)), (mx_in 42 (by decide +kernel) (by decide +kernel)), by decide +kernel, ⟨by decide +kernel, by decide +kernel, by decide +kernel⟩, by decide⟩
theorem ci_La_9 : mx_Ic "TailoredOrderLaw" 9 m_To_init 0 := ⟨Or.inl (mx_in 54 (by decide +kernel) (by decide +kernel)), ca_To_init, (mx_in 55 (by decide +kernel) (by decide +kernel)), rfl, rfl, by decide⟩
theorem ca_Mo_init : mx_cal m_Mo_init 0 := ⟨(mx_in 513 (by decide +kernel) (by decide +kernel)), (mx_in 49 (by decide +kernel) (by decide +kernel)), by decide +kernel, ⟨by decide +kernel, by decide +kernel, by decide +kernel⟩, by decide⟩
theorem ci_La_12 : mx_Ic "TailoredOrderLaw" 12 m_Mo_init 0 := ⟨Or.inl (mx_in 511 (by decide +kernel) (by decide +kernel)), ca_Mo_init, (mx_in 512 (by decide +kernel) (by decide +kernel)), rfl, rfl, by decide⟩
theorem ca_To_type : mx_cal m_To_type 2 := ⟨(mx_in 258 (by decide +kernel) (by decide +kernel)), (mx_in 42 (by decide +kernel) (by decide +kernel)), by decide +kernel, ⟨by decide +kernel, by decide +kernel, by decide +kernel⟩, by decide⟩
theorem cv_La_13 : mx_V "TailoredOrderLaw" 13 m_To_type 2 6 := ⟨Or.inl (mx_in 255 (by decide +kernel) (by decide +kernel)), ca_To_type, ⟨(mx_in 256 (by decide +kernel) (by decide +kernel)), (mx_in 257 (by decide +kernel) (by decide +kernel))⟩, ⟨_, rfl, rfl⟩, by decide⟩
theorem ca_Mo_type : mx_cal m_Mo_type 2 := ⟨(mx_in 588 (by decide +kernel) (by decide +kernel)), (mx_in 49 (by decide +kernel) (by decide +kernel)), by decide +kernel, ⟨by decide +kernel, by decide +kernel, by decide +kernel⟩, by decide⟩
theorem cv_La_17 : mx_V "TailoredOrderLaw" 17 m_Mo_type 2 7 := ⟨Or.inl (mx_in 585 (by decide +kernel) (by decide +kernel)), ca_Mo_type, ⟨(mx_in 586 (by decide +kernel) (by decide +kernel)), (mx_in 587 (by decide +kernel) (by decide +kernel))⟩, ⟨_, rfl, rfl⟩, by decide⟩
theorem ca_To_wipe : mx_cal m_To_wipe 1 := ⟨(mx_in 275 (by decide +kernel) (by decide +kernel)), (mx_in 42 (by decide +kernel) (by decide +kernel)), by decide +kernel, ⟨by decide +kernel, by decide +kernel, by decide +kernel⟩, by decide⟩
theorem cv_La_18 : mx_V "TailoredOrderLaw" 18 m_To_wipe 1 6 := ⟨Or.inl (mx_in 272 (by decide +kernel) (by decide +kernel)), ca_To_wipe, ⟨(mx_in 273 (by decide +kernel) (by decide +kernel)), (mx_in 274 (by decide +kernel) (by decide +kernel))⟩, ⟨_, rfl, rfl⟩, by decide⟩
theorem ca_Mo_wipe : mx_cal m_Mo_wipe 1 := ⟨(mx_in 602 (by decide +kernel) (by decide +kernel)), (mx_in 49 (by decide +kernel) (by decide +kernel)), by decide +kernel, ⟨by decide +kernel, by decide +kernel, by decide +kernel⟩, by decide⟩
theorem cv_La_22 : mx_V "TailoredOrderLaw" 22 m_Mo_wipe 1 7 := ⟨Or.inl (mx_in 599 (by decide +kernel) (by decide +kernel)), ca_Mo_wipe, ⟨(mx_in 600 (by decide +kernel) (by decide +kernel)), (mx_in 601 (by decide +kernel) (by decide +kernel))⟩, ⟨_, rfl, rfl⟩, by decide⟩
theorem ca_To_tailor : mx_cal m_To_tailor 0 := ⟨(mx_in 283 (by decide +kernel) (by decide +kernel)), (mx_in 42 (by decide +kernel) (by decide +kernel)), by decide +kernel, ⟨by decide +kernel, by decide +kernel, by decide +kernel⟩, by decide⟩
theorem cv_La_23 : mx_V "TailoredOrderLaw" 23 m_To_tailor 0 6 := ⟨Or.inl (mx_in 280 (by decide +kernel) (by decide +kernel)), ca_To_tailor, ⟨(mx_in 281 (by decide +kernel) (by decide +kernel)), (mx_in 282 (by decide +kernel) (by decide +kernel))⟩, ⟨_, rfl, rfl⟩, by decide⟩
theorem ca_Mo_tailor : mx_cal m_Mo_tailor 0 := ⟨(mx_in 606 (by decide +kernel) (by decide +kernel)), (mx_in 49 (by decide +kernel) (by decide +kernel)), by decide +kernel, ⟨by decide +kernel, by decide +kernel, by decide +kernel⟩, by decide⟩
theorem cv_La_27 : mx_V "TailoredOrderLaw" 27 m_Mo_tailor 0 7 := ⟨Or.inl (mx_in 603 (by decide +kernel) (by decide +kernel)), ca_Mo_tailor, ⟨(mx_in 604 (by decide +kernel) (by decide +kernel)), (mx_in 605 (by decide +kernel) (by decide +kernel))⟩, ⟨_, rfl, rfl⟩, by decide⟩
theorem ca_To_entries : mx_cal m_To_entries 0 := ⟨(mx_in 346 (by decide +kernel) (by decide +kernel)), (mx_in 42 (by decide +kernel) (by decide +kernel)), by decide +kernel, ⟨by decide +kernel, by decide +kernel, by decide +kernel⟩, by decide⟩
theorem cv_La_28 : mx_V "TailoredOrderLaw" 28 m_To_entries 0 6 := ⟨Or.inl (mx_in 343 (by decide +kernel) (by decide +kernel)), ca_To_entries, ⟨(mx_in 344 (by decide +kernel) (by decide +kernel)), (mx_in 345 (by decide +kernel) (by decide +kernel))⟩, ⟨_, rfl, rfl⟩, by decide⟩
theorem ca_Mo_entries : mx_cal m_Mo_entries 0 := ⟨(mx_in 637 (by decide +kernel) (by decide +kernel)), (mx_in 49 (by decide +kernel) (by decide +kernel)), by decide +kernel, ⟨by decide +kernel, by decide +kernel, by decide +kernel⟩, by decide⟩
theorem cv_La_31 : mx_V "TailoredOrderLaw" 31 m_Mo_entries 0 7 := ⟨Or.inl (mx_in 634 (by decide +kernel) (by decide +kernel)), ca_Mo_entries, ⟨(mx_in 635 (by decide +kernel) (by decide +kernel)), (mx_in 636 (by decide +kernel) (by decide +kernel))⟩, ⟨_, rfl, rfl⟩, by decide⟩
theorem ca_To_entry : mx_cal m_To_entry 2 := ⟨(mx_in 350 (by decide +kernel) (by decide +kernel)), (mx_in 42 (by decide +kernel) (by decide +kernel)), by decide +kernel, ⟨by decide +kernel, by decide +kernel, by decide +kernel⟩, by decide⟩
theorem cv_La_32 : mx_V "TailoredOrderLaw" 32 m_To_entry 2 6 := ⟨Or.inl (mx_in 347 (by decide +kernel) (by decide +kernel)), ca_To_entry, ⟨(mx_in 348 (by decide +kernel) (by decide +kernel)), (mx_in 349 (by decide +kernel) (by decide +kernel))⟩, ⟨_, rfl, rfl⟩, by decide⟩
theorem ca_Mo_entry : mx_cal m_Mo_entry 2 := ⟨(mx_in 641 (by decide +kernel) (by decide +kernel)), (mx_in 49 (by decide +kernel) (by decide +kernel)), by decide +kernel, ⟨by decide +kernel, by decide +kernel, by decide +kernel⟩, by decide⟩
theorem cv_La_36 : mx_V "TailoredOrderLaw" 36 m_Mo_entry 2 7 := ⟨Or.inl (mx_in 638 (by decide +kernel) (by decide +kernel)), ca_Mo_entry, ⟨(mx_in 639 (by decide +kernel) (by decide +kernel)), (mx_in 640 (by decide +kernel) (by decide +kernel))⟩, ⟨_, rfl, rfl⟩, by decide⟩
theorem ca_To_form : mx_cal m_To_form 3 := ⟨(mx_in 357 (by decide +kernel) (by decide +kernel)), (mx_in 42 (by decide +kernel) (by decide +kernel)), by decide +kernel, ⟨by decide +kernel, by decide +kernel, by decide +kernel⟩, by decide⟩
theorem cv_La_37 : mx_V "TailoredOrderLaw" 37 m_To_form 3 6 := ⟨Or.inl (mx_in 354 (by decide +kernel) (by decide +kernel)), ca_To_form, ⟨(mx_in 355 (by decide +kernel) (by decide +kernel)), (mx_in 356 (by decide +kernel) (by decide +kernel))⟩, ⟨_, rfl, rfl⟩, by decide⟩
theorem ca_Mo_form : mx_cal m_Mo_form 3 := ⟨(mx_in 649 (by decide +kernel) (by decide +kernel)), (mx_in 49 (by decide +kernel) (by decide +kernel)), by decide +kernel, ⟨by decide +kernel, by decide +kernel, by decide +kernel⟩, by decide⟩
theorem cv_La_41 : mx_V "TailoredOrderLaw" 41 m_Mo_form 3 7 := ⟨Or.inl (mx_in 646 (by decide +kernel) (by decide +kernel)), ca_Mo_form, ⟨(mx_in 647 (by decide +kernel) (by decide +kernel)), (mx_in 648 (by decide +kernel) (by decide +kernel))⟩, ⟨_, rfl, rfl⟩, by decide⟩
theorem ca_To_keyLength : mx_cal m_To_keyLength 1 := ⟨(mx_in 365 (by decide +kernel) (by decide +kernel)), (mx_in 42 (by decide +kernel) (by decide +kernel)), by decide +kernel, ⟨by decide +kernel, by decide +kernel, by decide +kernel⟩, by decide⟩
theorem cv_La_42 : mx_V "TailoredOrderLaw" 42 m_To_keyLength 1 6 := ⟨Or.inl (mx_in 362 (by decide +kernel) (by decide +kernel)), ca_To_keyLength, ⟨(mx_in 363 (by decide +kernel) (by decide +kernel)), (mx_in 364 (by decide +kernel) (by decide +kernel))⟩, ⟨_, rfl, rfl⟩, by decide⟩
theorem ca_Mo_keyLength : mx_cal m_Mo_keyLength 1 := ⟨(mx_in 653 (by decide +kernel) (by decide +kernel)), (mx_in 49 (by decide +kernel) (by decide +kernel)), by decide +kernel, ⟨by decide +kernel, by decide +kernel, by decide +kernel⟩, by decide⟩
theorem cv_La_45 : mx_V "TailoredOrderLaw" 45 m_Mo_keyLength 1 7 := ⟨Or.inl (mx_in 650 (by decide +kernel) (by decide +kernel)), ca_Mo_keyLength, ⟨(mx_in 651 (by decide +kernel) (by decide +kernel)), (mx_in 652 (by decide +kernel) (by decide +kernel))⟩, ⟨_, rfl, rfl⟩, by decide⟩
theorem ca_To_keyAt : mx_cal m_To_keyAt 2 := ⟨(mx_in 443 (by decide +kernel) (by decide +kernel)), (mx_in 42 (by decide +kernel) (by decide +kernel)), by decide +kernel, ⟨by decide +kernel, by decide +kernel, by decide +kernel⟩, by decide⟩
theorem cv_La_46 : mx_V "TailoredOrderLaw" 46 m_To_keyAt 2 6 := ⟨Or.inl (mx_in 440 (by decide +kernel) (by decide +kernel)), ca_To_keyAt, ⟨(mx_in 441 (by decide +kernel) (by decide +kernel)), (mx_in 442 (by decide +kernel) (by decide +kernel))⟩, ⟨_, rfl, rfl⟩, by decide⟩
theorem ca_Mo_keyAt : mx_cal m_Mo_keyAt 2 := ⟨(mx_in 696 (by decide +kernel) (by decide +kernel)), (mx_in 49 (by decide +kernel) (by decide +kernel)), by decide +kernel, ⟨by decide +kernel, by decide +kernel, by decide +kernel⟩, by decide⟩
theorem cv_La_49 : mx_V "TailoredOrderLaw" 49 m_Mo_keyAt 2 7 := ⟨Or.inl (mx_in 693 (by decide +kernel) (by decide +kernel)), ca_Mo_keyAt, ⟨(mx_in 694 (by decide +kernel) (by decide +kernel)), (mx_in 695 (by decide +kernel) (by decide +kernel))⟩, ⟨_, rfl, rfl⟩, by decide⟩
theorem ca_To_compare : mx_cal m_To_compare 0 := ⟨(mx_in 447 (by decide +kernel) (by decide +kernel)), (mx_in 42 (by decide +kernel) (by decide +kernel)), by decide +kernel, ⟨by decide +kernel, by decide +kernel, by decide +kernel⟩, by decide⟩
theorem cv_La_50 : mx_V "TailoredOrderLaw" 50 m_To_compare 0 6 := ⟨Or.inl (mx_in 444 (by decide +kernel) (by decide +kernel)), ca_To_compare, ⟨(mx_in 445 (by decide +kernel) (by decide +kernel)), (mx_in 446 (by decide +kernel) (by decide +kernel))⟩, ⟨_, rfl, rfl⟩, by decide⟩
theorem ca_Mo_compare : mx_cal m_Mo_compare 0 := ⟨(mx_in 700 (by decide +kernel) (by decide +kernel)), (mx_in 49 (by decide +kernel) (by decide +kernel)), by decide +kernel, ⟨by decide +kernel, by decide +kernel, by decide +kernel⟩, by decide⟩
theorem cv_La_53 : mx_V "TailoredOrderLaw" 53 m_Mo_compare 0 7 := ⟨Or.inl (mx_in 697 (by decide +kernel) (by decide +kernel)), ca_Mo_compare, ⟨(mx_in 698 (by decide +kernel) (by decide +kernel)), (mx_in 699 (by decide +kernel) (by decide +kernel))⟩, ⟨_, rfl, rfl⟩, by decide⟩
theorem ca_To_file : mx_cal m_To_file 1 := ⟨(mx_in 456 (by decide +kernel) (by decide +kernel)), (mx_in 42 (by decide +kernel) (by decide +kernel)), by decide +kernel, ⟨by decide +kernel, by decide +kernel, by decide +kernel⟩, by decide⟩
theorem cv_La_54 : mx_V "TailoredOrderLaw" 54 m_To_file 1 6 := ⟨Or.inl (mx_in 453 (by decide +kernel) (by decide +kernel)), ca_To_file, ⟨(mx_in 454 (by decide +kernel) (by decide +kernel)), (mx_in 455 (by decide +kernel) (by decide +kernel))⟩, ⟨_, rfl, rfl⟩, by decide⟩
theorem ca_Mo_file : mx_cal m_Mo_file 1 := ⟨(mx_in 708 (by decide +kernel) (by decide +kernel)), (mx_in 49 (by decide +kernel) (by decide +kernel)), by decide +kernel, ⟨by decide +kernel, by decide +kernel, by decide +kernel⟩, by decide⟩
theorem cv_La_57 : mx_V "TailoredOrderLaw" 57 m_Mo_file 1 7 := ⟨Or.inl (mx_in 705 (by decide +kernel) (by decide +kernel)), ca_Mo_file, ⟨(mx_in 706 (by decide +kernel) (by decide +kernel)), (mx_in 707 (by decide +kernel) (by decide +kernel))⟩, ⟨_, rfl, rfl⟩, by decide⟩
theorem ca_To_unfile : mx_cal m_To_unfile 1 := ⟨(mx_in 470 (by decide +kernel) (by decide +kernel)), (mx_in 42 (by decide +kernel) (by decide +kernel)), by decide +kernel, ⟨by decide +kernel, by decide +kernel, by decide +kernel⟩, by decide⟩
theorem cv_La_58 : mx_V "TailoredOrderLaw" 58 m_To_unfile 1 6 := ⟨Or.inl (mx_in 467 (by decide +kernel) (by decide +kernel)), ca_To_unfile, ⟨(mx_in 468 (by decide +kernel) (by decide +kernel)), (mx_in 469 (by decide +kernel) (by decide +kernel))⟩, ⟨_, rfl, rfl⟩, by decide⟩
theorem ca_Mo_unfile : mx_cal m_Mo_unfile 1 := ⟨(mx_in 712 (by decide +kernel) (by decide +kernel)), (mx_in 49 (by decide +kernel) (by decide +kernel)), by decide +kernel, ⟨by decide +kernel, by decide +kernel, by decide +kernel⟩, by decide⟩
theorem cv_La_62 : mx_V "TailoredOrderLaw" 62 m_Mo_unfile 1 7 := ⟨Or.inl (mx_in 709 (by decide +kernel) (by decide +kernel)), ca_Mo_unfile, ⟨(mx_in 710 (by decide +kernel) (by decide +kernel)), (mx_in 711 (by decide +kernel) (by decide +kernel))⟩, ⟨_, rfl, rfl⟩, by decide⟩
theorem ca_To_filed : mx_cal m_To_filed 0 := ⟨(mx_in 482 (by decide +kernel) (by decide +kernel)), (mx_in 42 (by decide +kernel) (by decide +kernel)), by decide +kernel, ⟨by decide +kernel, by decide +kernel, by decide +kernel⟩, by decide⟩
theorem cv_La_63 : mx_V "TailoredOrderLaw" 63 m_To_filed 0 6 := ⟨Or.inl (mx_in 479 (by decide +kernel) (by decide +kernel)), ca_To_filed, ⟨(mx_in 480 (by decide +kernel) (by decide +kernel)), (mx_in 481 (by decide +kernel) (by decide +kernel))⟩, ⟨_, rfl, rfl⟩, by decide⟩
theorem ca_Mo_filed : mx_cal m_Mo_filed 0 := ⟨(mx_in 716 (by decide +kernel) (by decide +kernel)), (mx_in 49 (by decide +kernel) (by decide +kernel)), by decide +kernel, ⟨by decide +kernel, by decide +kernel, by decide +kernel⟩, by decide⟩
theorem cv_La_66 : mx_V "TailoredOrderLaw" 66 m_Mo_filed 0 7 := ⟨Or.inl (mx_in 713 (by decide +kernel) (by decide +kernel)), ca_Mo_filed, ⟨(mx_in 714 (by decide +kernel) (by decide +kernel)), (mx_in 715 (by decide +kernel) (by decide +kernel))⟩, ⟨_, rfl, rfl⟩, by decide⟩
theorem ca_To_inOrder : mx_cal m_To_inOrder 1 := ⟨(mx_in 486 (by decide +kernel) (by decide +kernel)), (mx_in 42 (by decide +kernel) (by decide +kernel)), by decide +kernel, ⟨by decide +kernel, by decide +kernel, by decide +kernel⟩, by decide⟩
theorem cv_La_67 : mx_V "TailoredOrderLaw" 67 m_To_inOrder 1 6 := ⟨Or.inl (mx_in 483 (by decide +kernel) (by decide +kernel)), ca_To_inOrder, ⟨(mx_in 484 (by decide +kernel) (by decide +kernel)), (mx_in 485 (by decide +kernel) (by decide +kernel))⟩, ⟨_, rfl, rfl⟩, by decide⟩
theorem ca_Mo_inOrder : mx_cal m_Mo_inOrder 1 := ⟨(mx_in 720 (by decide +kernel) (by decide +kernel)), (mx_in 49 (by decide +kernel) (by decide +kernel)), by decide +kernel, ⟨by decide +kernel, by decide +kernel, by decide +kernel⟩, by decide⟩
theorem cv_La_70 : mx_V "TailoredOrderLaw" 70 m_Mo_inOrder 1 7 := ⟨Or.inl (mx_in 717 (by decide +kernel) (by decide +kernel)), ca_Mo_inOrder, ⟨(mx_in 718 (by decide +kernel) (by decide +kernel)), (mx_in 719 (by decide +kernel) (by decide +kernel))⟩, ⟨_, rfl, rfl⟩, by decide⟩
theorem ca_To_below : mx_cal m_To_below 1 := ⟨(mx_in 507 (by decide +kernel) (by decide +kernel)), (mx_in 42 (by decide +kernel) (by decide +kernel)), by decide +kernel, ⟨by decide +kernel, by decide +kernel, by decide +kernel⟩, by decide⟩
theorem cv_La_71 : mx_V "TailoredOrderLaw" 71 m_To_below 1 6 := ⟨Or.inl (mx_in 504 (by decide +kernel) (by decide +kernel)), ca_To_below, ⟨(mx_in 505 (by decide +kernel) (by decide +kernel)), (mx_in 506 (by decide +kernel) (by decide +kernel))⟩, ⟨_, rfl, rfl⟩, by decide⟩
theorem ca_Mo_below : mx_cal m_Mo_below 1 := ⟨(mx_in 724 (by decide +kernel) (by decide +kernel)), (mx_in 49 (by decide +kernel) (by decide +kernel)), by decide +kernel, ⟨by decide +kernel, by decide +kernel, by decide +kernel⟩, by decide⟩
theorem cv_La_74 : mx_V "TailoredOrderLaw" 74 m_Mo_below 1 7 := ⟨Or.inl (mx_in 721 (by decide +kernel) (by decide +kernel)), ca_Mo_below, ⟨(mx_in 722 (by decide +kernel) (by decide +kernel)), (mx_in 723 (by decide +kernel) (by decide +kernel))⟩, ⟨_, rfl, rfl⟩, by decide⟩
theorem ca_Mo_isLetter : mx_cal m_Mo_isLetter 1 := ⟨(mx_in 591 (by decide +kernel) (by decide +kernel)), (mx_in 49 (by decide +kernel) (by decide +kernel)), by decide +kernel, ⟨by decide +kernel, by decide +kernel, by decide +kernel⟩, by decide⟩
theorem cs_Mo_56 : mx_Sc "TailoredOrderModel" 56 m_Mo_isLetter 1 := ⟨Or.inl (mx_in 589 (by decide +kernel) (by decide +kernel)), ca_Mo_isLetter, (mx_in 590 (by decide +kernel) (by decide +kernel)), by decide⟩
theorem ca_Mo_isMark : mx_cal m_Mo_isMark 1 := ⟨(mx_in 594 (by decide +kernel) (by decide +kernel)), (mx_in 49 (by decide +kernel) (by decide +kernel)), by decide +kernel, ⟨by decide +kernel, by decide +kernel, by decide +kernel⟩, by decide⟩
theorem cs_Mo_60 : mx_Sc "TailoredOrderModel" 60 m_Mo_isMark 1 := ⟨Or.inl (mx_in 592 (by decide +kernel) (by decide +kernel)), ca_Mo_isMark, (mx_in 593 (by decide +kernel) (by decide +kernel)), by decide⟩
theorem ca_Mo_isLine : mx_cal m_Mo_isLine 1 := ⟨(mx_in 598 (by decide +kernel) (by decide +kernel)), (mx_in 49 (by decide +kernel) (by decide +kernel)), by decide +kernel, ⟨by decide +kernel, by decide +kernel, by decide +kernel⟩, by decide⟩
theorem cv_Mo_63 : mx_V "TailoredOrderModel" 63 m_Mo_isLine 1 7 := ⟨Or.inl (mx_in 595 (by decide +kernel) (by decide +kernel)), ca_Mo_isLine, ⟨(mx_in 597 (by decide +kernel) (by decide +kernel)), (mx_in 23 (by decide +kernel) (by decide +kernel))⟩, ⟨_, rfl, rfl⟩, by decide⟩
theorem ca_Mo_after : mx_cal m_Mo_after 2 := ⟨(mx_in 613 (by decide +kernel) (by decide +kernel)), (mx_in 49 (by decide +kernel) (by decide +kernel)), by decide +kernel, ⟨by decide +kernel, by decide +kernel, by decide +kernel⟩, by decide⟩
theorem cs_Mo_66 : mx_Sc "TailoredOrderModel" 66 m_Mo_after 2 := ⟨Or.inl (mx_in 611 (by decide +kernel) (by decide +kernel)), ca_Mo_after, (mx_in 612 (by decide +kernel) (by decide +kernel)), by decide⟩
theorem ca_Mo_findNew : mx_cal m_Mo_findNew 1 := ⟨(mx_in 621 (by decide +kernel) (by decide +kernel)), (mx_in 49 (by decide +kernel) (by decide +kernel)), by decide +kernel, ⟨by decide +kernel, by decide +kernel, by decide +kernel⟩, by decide⟩
theorem cv_Mo_73 : mx_V "TailoredOrderModel" 73 m_Mo_findNew 1 7 := ⟨Or.inl (mx_in 618 (by decide +kernel) (by decide +kernel)), ca_Mo_findNew, ⟨(mx_in 620 (by decide +kernel) (by decide +kernel)), (mx_in 26 (by decide +kernel) (by decide +kernel))⟩, ⟨_, rfl, rfl⟩, by decide⟩
theorem ca_Mo_takeOut : mx_cal m_Mo_takeOut 1 := ⟨(mx_in 629 (by decide +kernel) (by decide +kernel)), (mx_in 49 (by decide +kernel) (by decide +kernel)), by decide +kernel, ⟨by decide +kernel, by decide +kernel, by decide +kernel⟩, by decide⟩
theorem cv_Mo_77 : mx_V "TailoredOrderModel" 77 m_Mo_takeOut 1 7 := ⟨Or.inl (mx_in 626 (by decide +kernel) (by decide +kernel)), ca_Mo_takeOut, ⟨(mx_in 628 (by decide +kernel) (by decide +kernel)), (mx_in 28 (by decide +kernel) (by decide +kernel))⟩, ⟨_, rfl, rfl⟩, by decide⟩
theorem ca_Mo_putIn : mx_cal m_Mo_putIn 3 := ⟨(mx_in 633 (by decide +kernel) (by decide +kernel)), (mx_in 49 (by decide +kernel) (by decide +kernel)), by decide +kernel, ⟨by decide +kernel, by decide +kernel, by decide +kernel⟩, by decide⟩
theorem cv_Mo_81 : mx_V "TailoredOrderModel" 81 m_Mo_putIn 3 7 := ⟨Or.inl (mx_in 630 (by decide +kernel) (by decide +kernel)), ca_Mo_putIn, ⟨(mx_in 632 (by decide +kernel) (by decide +kernel)), (mx_in 29 (by decide +kernel) (by decide +kernel))⟩, ⟨_, rfl, rfl⟩, by decide⟩
theorem ca_Mo_relate : mx_cal m_Mo_relate 3 := ⟨(mx_in 625 (by decide +kernel) (by decide +kernel)), (mx_in 49 (by decide +kernel) (by decide +kernel)), by decide +kernel, ⟨by decide +kernel, by decide +kernel, by decide +kernel⟩, by decide⟩
theorem cv_Mo_85 : mx_V "TailoredOrderModel" 85 m_Mo_relate 3 7 := ⟨Or.inl (mx_in 622 (by decide +kernel) (by decide +kernel)), ca_Mo_relate, ⟨(mx_in 624 (by decide +kernel) (by decide +kernel)), (mx_in 27 (by decide +kernel) (by decide +kernel))⟩, ⟨_, rfl, rfl⟩, by decide⟩
theorem ca_Mo_fault : mx_cal m_Mo_fault 0 := ⟨(mx_in 610 (by decide +kernel) (by decide +kernel)), (mx_in 49 (by decide +kernel) (by decide +kernel)), by decide +kernel, ⟨by decide +kernel, by decide +kernel, by decide +kernel⟩, by decide⟩
theorem cv_Mo_89 : mx_V "TailoredOrderModel" 89 m_Mo_fault 0 7 := ⟨Or.inl (mx_in 607 (by decide +kernel) (by decide +kernel)), ca_Mo_fault, ⟨(mx_in 609 (by decide +kernel) (by decide +kernel)), (mx_in 24 (by decide +kernel) (by decide +kernel))⟩, ⟨_, rfl, rfl⟩, by decide⟩
theorem ca_Mo_done : mx_cal m_Mo_done 0 := ⟨(mx_in 617 (by decide +kernel) (by decide +kernel)), (mx_in 49 (by decide +kernel) (by decide +kernel)), by decide +kernel, ⟨by decide +kernel, by decide +kernel, by decide +kernel⟩, by decide⟩
theorem cv_Mo_93 : mx_V "TailoredOrderModel" 93 m_Mo_done 0 7 := ⟨Or.inl (mx_in 614 (by decide +kernel) (by decide +kernel)), ca_Mo_done, ⟨(mx_in 616 (by decide +kernel) (by decide +kernel)), (mx_in 25 (by decide +kernel) (by decide +kernel))⟩, ⟨_, rfl, rfl⟩, by decide⟩
theorem ca_Mo_weight : mx_cal m_Mo_weight 2 := ⟨(mx_in 645 (by decide +kernel) (by decide +kernel)), (mx_in 49 (by decide +kernel) (by decide +kernel)), by decide +kernel, ⟨by decide +kernel, by decide +kernel, by decide +kernel⟩, by decide⟩
theorem cv_Mo_96 : mx_V "TailoredOrderModel" 96 m_Mo_weight 2 7 := ⟨Or.inl (mx_in 642 (by decide +kernel) (by decide +kernel)), ca_Mo_weight, ⟨(mx_in 644 (by decide +kernel) (by decide +kernel)), (mx_in 30 (by decide +kernel) (by decide +kernel))⟩, ⟨_, rfl, rfl⟩, by decide⟩
theorem ca_Mo_classOf : mx_cal m_Mo_classOf 1 := ⟨(mx_in 668 (by decide +kernel) (by decide +kernel)), (mx_in 49 (by decide +kernel) (by decide +kernel)), by decide +kernel, ⟨by decide +kernel, by decide +kernel, by decide +kernel⟩, by decide⟩
theorem cs_Mo_102 : mx_Sc "TailoredOrderModel" 102 m_Mo_classOf 1 := ⟨Or.inl (mx_in 666 (by decide +kernel) (by decide +kernel)), ca_Mo_classOf, (mx_in 667 (by decide +kernel) (by decide +kernel)), by decide⟩
theorem ca_Mo_element : mx_cal m_Mo_element 4 := ⟨(mx_in 676 (by decide +kernel) (by decide +kernel)), (mx_in 49 (by decide +kernel) (by decide +kernel)), by decide +kernel, ⟨by decide +kernel, by decide +kernel, by decide +kernel⟩, by decide⟩
theorem cv_Mo_115 : mx_V "TailoredOrderModel" 115 m_Mo_element 4 7 := ⟨Or.inl (mx_in 673 (by decide +kernel) (by decide +kernel)), ca_Mo_element, ⟨(mx_in 675 (by decide +kernel) (by decide +kernel)), (mx_in 35 (by decide +kernel) (by decide +kernel))⟩, ⟨_, rfl, rfl⟩, by decide⟩
theorem ca_Mo_begins : mx_cal m_Mo_begins 1 := ⟨(mx_in 688 (by decide +kernel) (by decide +kernel)), (mx_in 49 (by decide +kernel) (by decide +kernel)), by decide +kernel, ⟨by decide +kernel, by decide +kernel, by decide +kernel⟩, by decide⟩
theorem cv_Mo_119 : mx_V "TailoredOrderModel" 119 m_Mo_begins 1 7 := ⟨Or.inl (mx_in 685 (by decide +kernel) (by decide +kernel)), ca_Mo_begins, ⟨(mx_in 687 (by decide +kernel) (by decide +kernel)), (mx_in 38 (by decide +kernel) (by decide +kernel))⟩, ⟨_, rfl, rfl⟩, by decide⟩
theorem ca_Mo_find : mx_cal m_Mo_find 1 := ⟨(mx_in 692 (by decide +kernel) (by decide +kernel)), (mx_in 49 (by decide +kernel) (by decide +kernel)), by decide +kernel, ⟨by decide +kernel, by decide +kernel, by decide +kernel⟩, by decide⟩
theorem cv_Mo_122 : mx_V "TailoredOrderModel" 122 m_Mo_find 1 7 := ⟨Or.inl (mx_in 689 (by decide +kernel) (by decide +kernel)), ca_Mo_find, ⟨(mx_in 691 (by decide +kernel) (by decide +kernel)), (mx_in 39 (by decide +kernel) (by decide +kernel))⟩, ⟨_, rfl, rfl⟩, by decide⟩
theorem ca_Mo_remove : mx_cal m_Mo_remove 1 := ⟨(mx_in 680 (by decide +kernel) (by decide +kernel)), (mx_in 49 (by decide +kernel) (by decide +kernel)), by decide +kernel, ⟨by decide +kernel, by decide +kernel, by decide +kernel⟩, by decide⟩
theorem cv_Mo_125 : mx_V "TailoredOrderModel" 125 m_Mo_remove 1 7 := ⟨Or.inl (mx_in 677 (by decide +kernel) (by decide +kernel)), ca_Mo_remove, ⟨(mx_in 679 (by decide +kernel) (by decide +kernel)), (mx_in 36 (by decide +kernel) (by decide +kernel))⟩, ⟨_, rfl, rfl⟩, by decide⟩
theorem ca_Mo_settle : mx_cal m_Mo_settle 0 := ⟨(mx_in 665 (by decide +kernel) (by decide +kernel)), (mx_in 49 (by decide +kernel) (by decide +kernel)), by decide +kernel, ⟨by decide +kernel, by decide +kernel, by decide +kernel⟩, by decide⟩
theorem cv_Mo_128 : mx_V "TailoredOrderModel" 128 m_Mo_settle 0 7 := ⟨Or.inl (mx_in 662 (by decide +kernel) (by decide +kernel)), ca_Mo_settle, ⟨(mx_in 664 (by decide +kernel) (by decide +kernel)), (mx_in 33 (by decide +kernel) (by decide +kernel))⟩, ⟨_, rfl, rfl⟩, by decide⟩
theorem ca_Mo_markElement : mx_cal m_Mo_markElement 1 := ⟨(mx_in 672 (by decide +kernel) (by decide +kernel)), (mx_in 49 (by decide +kernel) (by decide +kernel)), by decide +kernel, ⟨by decide +kernel, by decide +kernel, by decide +kernel⟩, by decide⟩
theorem cv_Mo_131 : mx_V "TailoredOrderModel" 131 m_Mo_markElement 1 7 := ⟨Or.inl (mx_in 669 (by decide +kernel) (by decide +kernel)), ca_Mo_markElement, ⟨(mx_in 671 (by decide +kernel) (by decide +kernel)), (mx_in 34 (by decide +kernel) (by decide +kernel))⟩, ⟨_, rfl, rfl⟩, by decide⟩
theorem ca_Mo_entryElement : mx_cal m_Mo_entryElement 0 := ⟨(mx_in 684 (by decide +kernel) (by decide +kernel)), (mx_in 49 (by decide +kernel) (by decide +kernel)), by decide +kernel, ⟨by decide +kernel, by decide +kernel, by decide +kernel⟩, by decide⟩
theorem cv_Mo_134 : mx_V "TailoredOrderModel" 134 m_Mo_entryElement 0 7 := ⟨Or.inl (mx_in 681 (by decide +kernel) (by decide +kernel)), ca_Mo_entryElement, ⟨(mx_in 683 (by decide +kernel) (by decide +kernel)), (mx_in 37 (by decide +kernel) (by decide +kernel))⟩, ⟨_, rfl, rfl⟩, by decide⟩
theorem ca_Mo_findElements : mx_cal m_Mo_findElements 1 := ⟨(mx_in 661 (by decide +kernel) (by decide +kernel)), (mx_in 49 (by decide +kernel) (by decide +kernel)), by decide +kernel, ⟨by decide +kernel, by decide +kernel, by decide +kernel⟩, by decide⟩
theorem cv_Mo_137 : mx_V "TailoredOrderModel" 137 m_Mo_findElements 1 7 := ⟨Or.inl (mx_in 658 (by decide +kernel) (by decide +kernel)), ca_Mo_findElements, ⟨(mx_in 660 (by decide +kernel) (by decide +kernel)), (mx_in 32 (by decide +kernel) (by decide +kernel))⟩, ⟨_, rfl, rfl⟩, by decide⟩
theorem ca_Mo_write : mx_cal m_Mo_write 1 := ⟨(mx_in 657 (by decide +kernel) (by decide +kernel)), (mx_in 49 (by decide +kernel) (by decide +kernel)), by decide +kernel, ⟨by decide +kernel, by decide +kernel, by decide +kernel⟩, by decide⟩
theorem cv_Mo_143 : mx_V "TailoredOrderModel" 143 m_Mo_write 1 7 := ⟨Or.inl (mx_in 654 (by decide +kernel) (by decide +kernel)), ca_Mo_write, ⟨(mx_in 656 (by decide +kernel) (by decide +kernel)), (mx_in 31 (by decide +kernel) (by decide +kernel))⟩, ⟨_, rfl, rfl⟩, by decide⟩
theorem ca_Mo_order : mx_cal m_Mo_order 2 := ⟨(mx_in 704 (by decide +kernel) (by decide +kernel)), (mx_in 49 (by decide +kernel) (by decide +kernel)), by decide +kernel, ⟨by decide +kernel, by decide +kernel, by decide +kernel⟩, by decide⟩
theorem cv_Mo_146 : mx_V "TailoredOrderModel" 146 m_Mo_order 2 7 := ⟨Or.inl (mx_in 701 (by decide +kernel) (by decide +kernel)), ca_Mo_order, ⟨(mx_in 703 (by decide +kernel) (by decide +kernel)), (mx_in 40 (by decide +kernel) (by decide +kernel))⟩, ⟨_, rfl, rfl⟩, by decide⟩
end
section
theorem d_Ta_init_0 : decode m_Ta_init.2.1 0 = .ok (.aload_n 0, 1) := by decide +kernel
theorem d_Ta_init_1 : decode m_Ta_init.2.1 1 = .ok (.invokespecial 3, 3) := by decide +kernel
theorem d_Ta_init_4 : decode m_Ta_init.2.1 4 = .ok (.aload_n 0, 1) := by decide +kernel
theorem d_Ta_init_5 : decode m_Ta_init.2.1 5 = .ok (.bipush 30, 2) := by decide +kernel
theorem d_Ta_init_7 : decode m_Ta_init.2.1 7 = .ok (.newarray .int, 2) := by decide +kernel
theorem d_Ta_init_9 : decode m_Ta_init.2.1 9 = .ok (.putfield 9, 3) := by decide +kernel
theorem d_Ta_init_12 : decode m_Ta_init.2.1 12 = .ok (.aload_n 0, 1) := by decide +kernel
theorem d_Ta_init_13 : decode m_Ta_init.2.1 13 = .ok (.bipush 30, 2) := by decide +kernel
theorem d_Ta_init_15 : decode m_Ta_init.2.1 15 = .ok (.newarray .int, 2) := by decide +kernel
theorem d_Ta_init_17 : decode m_Ta_init.2.1 17 = .ok (.putfield 15, 3) := by decide +kernel
theorem d_Ta_init_20 : decode m_Ta_init.2.1 20 = .ok (.aload_n 0, 1) := by decide +kernel
theorem d_Ta_init_21 : decode m_Ta_init.2.1 21 = .ok (.bipush 30, 2) := by decide +kernel
theorem d_Ta_init_23 : decode m_Ta_init.2.1 23 = .ok (.newarray .int, 2) := by decide +kernel
theorem d_Ta_init_25 : decode m_Ta_init.2.1 25 = .ok (.putfield 18, 3) := by decide +kernel
theorem d_Ta_init_28 : decode m_Ta_init.2.1 28 = .ok (.aload_n 0, 1) := by decide +kernel
theorem d_Ta_init_29 : decode m_Ta_init.2.1 29 = .ok (.bipush 30, 2) := by decide +kernel
theorem d_Ta_init_31 : decode m_Ta_init.2.1 31 = .ok (.newarray .int, 2) := by decide +kernel
theorem d_Ta_init_33 : decode m_Ta_init.2.1 33 = .ok (.putfield 21, 3) := by decide +kernel
theorem d_Ta_init_36 : decode m_Ta_init.2.1 36 = .ok (.aload_n 0, 1) := by decide +kernel
theorem d_Ta_init_37 : decode m_Ta_init.2.1 37 = .ok (.bipush 30, 2) := by decide +kernel
theorem d_Ta_init_39 : decode m_Ta_init.2.1 39 = .ok (.newarray .int, 2) := by decide +kernel
theorem d_Ta_init_41 : decode m_Ta_init.2.1 41 = .ok (.putfield 24, 3) := by decide +kernel
theorem d_Ta_init_44 : decode m_Ta_init.2.1 44 = .ok (.aload_n 0, 1) := by decide +kernel
theorem d_Ta_init_45 : decode m_Ta_init.2.1 45 = .ok (.iconst 0, 1) := by decide +kernel
theorem d_Ta_init_46 : decode m_Ta_init.2.1 46 = .ok (.bipush 32, 2) := by decide +kernel
theorem d_Ta_init_48 : decode m_Ta_init.2.1 48 = .ok (.iconst 1, 1) := by decide +kernel
theorem d_Ta_init_49 : decode m_Ta_init.2.1 49 = .ok (.invokevirtual 27, 3) := by decide +kernel
theorem d_Ta_init_52 : decode m_Ta_init.2.1 52 = .ok (.aload_n 0, 1) := by decide +kernel
theorem d_Ta_init_53 : decode m_Ta_init.2.1 53 = .ok (.iconst 1, 1) := by decide +kernel
theorem d_Ta_init_54 : decode m_Ta_init.2.1 54 = .ok (.bipush 45, 2) := by decide +kernel
theorem d_Ta_init_56 : decode m_Ta_init.2.1 56 = .ok (.iconst 1, 1) := by decide +kernel
theorem d_Ta_init_57 : decode m_Ta_init.2.1 57 = .ok (.invokevirtual 27, 3) := by decide +kernel
theorem d_Ta_init_60 : decode m_Ta_init.2.1 60 = .ok (.iconst 0, 1) := by decide +kernel
theorem d_Ta_init_61 : decode m_Ta_init.2.1 61 = .ok (.istore_n 1, 1) := by decide +kernel
theorem d_Ta_init_62 : decode m_Ta_init.2.1 62 = .ok (.iload_n 1, 1) := by decide +kernel
theorem d_Ta_init_63 : decode m_Ta_init.2.1 63 = .ok (.bipush 8, 2) := by decide +kernel
theorem d_Ta_init_65 : decode m_Ta_init.2.1 65 = .ok (.if_icmp .ge 37, 3) := by decide +kernel
theorem d_Ta_init_68 : decode m_Ta_init.2.1 68 = .ok (.aload_n 0, 1) := by decide +kernel
theorem d_Ta_init_69 : decode m_Ta_init.2.1 69 = .ok (.iconst 2, 1) := by decide +kernel
theorem d_Ta_init_70 : decode m_Ta_init.2.1 70 = .ok (.iconst 2, 1) := by decide +kernel
theorem d_Ta_init_71 : decode m_Ta_init.2.1 71 = .ok (.iload_n 1, 1) := by decide +kernel
theorem d_Ta_init_72 : decode m_Ta_init.2.1 72 = .ok (.imul, 1) := by decide +kernel
theorem d_Ta_init_73 : decode m_Ta_init.2.1 73 = .ok (.iadd, 1) := by decide +kernel
theorem d_Ta_init_74 : decode m_Ta_init.2.1 74 = .ok (.bipush 97, 2) := by decide +kernel
theorem d_Ta_init_76 : decode m_Ta_init.2.1 76 = .ok (.iload_n 1, 1) := by decide +kernel
theorem d_Ta_init_77 : decode m_Ta_init.2.1 77 = .ok (.iadd, 1) := by decide +kernel
theorem d_Ta_init_78 : decode m_Ta_init.2.1 78 = .ok (.iconst 1, 1) := by decide +kernel
theorem d_Ta_init_79 : decode m_Ta_init.2.1 79 = .ok (.invokevirtual 27, 3) := by decide +kernel
theorem d_Ta_init_82 : decode m_Ta_init.2.1 82 = .ok (.aload_n 0, 1) := by decide +kernel
theorem d_Ta_init_83 : decode m_Ta_init.2.1 83 = .ok (.iconst 3, 1) := by decide +kernel
theorem d_Ta_init_84 : decode m_Ta_init.2.1 84 = .ok (.iconst 2, 1) := by decide +kernel
theorem d_Ta_init_85 : decode m_Ta_init.2.1 85 = .ok (.iload_n 1, 1) := by decide +kernel
theorem d_Ta_init_86 : decode m_Ta_init.2.1 86 = .ok (.imul, 1) := by decide +kernel
theorem d_Ta_init_87 : decode m_Ta_init.2.1 87 = .ok (.iadd, 1) := by decide +kernel
theorem d_Ta_init_88 : decode m_Ta_init.2.1 88 = .ok (.bipush 65, 2) := by decide +kernel
theorem d_Ta_init_90 : decode m_Ta_init.2.1 90 = .ok (.iload_n 1, 1) := by decide +kernel
theorem d_Ta_init_91 : decode m_Ta_init.2.1 91 = .ok (.iadd, 1) := by decide +kernel
theorem d_Ta_init_92 : decode m_Ta_init.2.1 92 = .ok (.iconst 3, 1) := by decide +kernel
theorem d_Ta_init_93 : decode m_Ta_init.2.1 93 = .ok (.invokevirtual 27, 3) := by decide +kernel
theorem d_Ta_init_96 : decode m_Ta_init.2.1 96 = .ok (.iinc 1 1, 3) := by decide +kernel
theorem d_Ta_init_99 : decode m_Ta_init.2.1 99 = .ok (.goto (-37), 3) := by decide +kernel
theorem d_Ta_init_102 : decode m_Ta_init.2.1 102 = .ok (.aload_n 0, 1) := by decide +kernel
theorem d_Ta_init_103 : decode m_Ta_init.2.1 103 = .ok (.invokevirtual 31, 3) := by decide +kernel
theorem d_Ta_init_106 : decode m_Ta_init.2.1 106 = .ok (.return_, 1) := by decide +kernel
theorem d_Ta_copyFrom_0 : decode m_Ta_copyFrom.2.1 0 = .ok (.aload_n 0, 1) := by decide +kernel
theorem d_Ta_copyFrom_1 : decode m_Ta_copyFrom.2.1 1 = .ok (.aload_n 1, 1) := by decide +kernel
theorem d_Ta_copyFrom_2 : decode m_Ta_copyFrom.2.1 2 = .ok (.getfield 34, 3) := by decide +kernel
theorem d_Ta_copyFrom_5 : decode m_Ta_copyFrom.2.1 5 = .ok (.putfield 34, 3) := by decide +kernel
theorem d_Ta_copyFrom_8 : decode m_Ta_copyFrom.2.1 8 = .ok (.aload_n 1, 1) := by decide +kernel
theorem d_Ta_copyFrom_9 : decode m_Ta_copyFrom.2.1 9 = .ok (.getfield 9, 3) := by decide +kernel
theorem d_Ta_copyFrom_12 : decode m_Ta_copyFrom.2.1 12 = .ok (.iconst 0, 1) := by decide +kernel
theorem d_Ta_copyFrom_13 : decode m_Ta_copyFrom.2.1 13 = .ok (.aload_n 0, 1) := by decide +kernel
theorem d_Ta_copyFrom_14 : decode m_Ta_copyFrom.2.1 14 = .ok (.getfield 9, 3) := by decide +kernel
theorem d_Ta_copyFrom_17 : decode m_Ta_copyFrom.2.1 17 = .ok (.iconst 0, 1) := by decide +kernel
theorem d_Ta_copyFrom_18 : decode m_Ta_copyFrom.2.1 18 = .ok (.bipush 30, 2) := by decide +kernel
theorem d_Ta_copyFrom_20 : decode m_Ta_copyFrom.2.1 20 = .ok (.invokestatic 38, 3) := by decide +kernel
theorem d_Ta_copyFrom_23 : decode m_Ta_copyFrom.2.1 23 = .ok (.aload_n 1, 1) := by decide +kernel
theorem d_Ta_copyFrom_24 : decode m_Ta_copyFrom.2.1 24 = .ok (.getfield 15, 3) := by decide +kernel
theorem d_Ta_copyFrom_27 : decode m_Ta_copyFrom.2.1 27 = .ok (.iconst 0, 1) := by decide +kernel
theorem d_Ta_copyFrom_28 : decode m_Ta_copyFrom.2.1 28 = .ok (.aload_n 0, 1) := by decide +kernel
theorem d_Ta_copyFrom_29 : decode m_Ta_copyFrom.2.1 29 = .ok (.getfield 15, 3) := by decide +kernel
theorem d_Ta_copyFrom_32 : decode m_Ta_copyFrom.2.1 32 = .ok (.iconst 0, 1) := by decide +kernel
theorem d_Ta_copyFrom_33 : decode m_Ta_copyFrom.2.1 33 = .ok (.bipush 30, 2) := by decide +kernel
theorem d_Ta_copyFrom_35 : decode m_Ta_copyFrom.2.1 35 = .ok (.invokestatic 38, 3) := by decide +kernel
theorem d_Ta_copyFrom_38 : decode m_Ta_copyFrom.2.1 38 = .ok (.aload_n 0, 1) := by decide +kernel
theorem d_Ta_copyFrom_39 : decode m_Ta_copyFrom.2.1 39 = .ok (.invokevirtual 31, 3) := by decide +kernel
theorem d_Ta_copyFrom_42 : decode m_Ta_copyFrom.2.1 42 = .ok (.return_, 1) := by decide +kernel
theorem d_Ta_find_0 : decode m_Ta_find.2.1 0 = .ok (.iconst 0, 1) := by decide +kernel
theorem d_Ta_find_1 : decode m_Ta_find.2.1 1 = .ok (.istore_n 2, 1) := by decide +kernel
theorem d_Ta_find_2 : decode m_Ta_find.2.1 2 = .ok (.iload_n 2, 1) := by decide +kernel
theorem d_Ta_find_3 : decode m_Ta_find.2.1 3 = .ok (.aload_n 0, 1) := by decide +kernel
theorem d_Ta_find_4 : decode m_Ta_find.2.1 4 = .ok (.getfield 34, 3) := by decide +kernel
theorem d_Ta_find_7 : decode m_Ta_find.2.1 7 = .ok (.if_icmp .ge 21, 3) := by decide +kernel
theorem d_Ta_find_10 : decode m_Ta_find.2.1 10 = .ok (.aload_n 0, 1) := by decide +kernel
theorem d_Ta_find_11 : decode m_Ta_find.2.1 11 = .ok (.getfield 9, 3) := by decide +kernel
theorem d_Ta_find_14 : decode m_Ta_find.2.1 14 = .ok (.iload_n 2, 1) := by decide +kernel
theorem d_Ta_find_15 : decode m_Ta_find.2.1 15 = .ok (.iaload, 1) := by decide +kernel
theorem d_Ta_find_16 : decode m_Ta_find.2.1 16 = .ok (.iload_n 1, 1) := by decide +kernel
theorem d_Ta_find_17 : decode m_Ta_find.2.1 17 = .ok (.if_icmp .ne 5, 3) := by decide +kernel
theorem d_Ta_find_20 : decode m_Ta_find.2.1 20 = .ok (.iload_n 2, 1) := by decide +kernel
theorem d_Ta_find_21 : decode m_Ta_find.2.1 21 = .ok (.ireturn, 1) := by decide +kernel
theorem d_Ta_find_22 : decode m_Ta_find.2.1 22 = .ok (.iinc 2 1, 3) := by decide +kernel
theorem d_Ta_find_25 : decode m_Ta_find.2.1 25 = .ok (.goto (-23), 3) := by decide +kernel
theorem d_Ta_find_28 : decode m_Ta_find.2.1 28 = .ok (.iconst (-1), 1) := by decide +kernel
theorem d_Ta_find_29 : decode m_Ta_find.2.1 29 = .ok (.ireturn, 1) := by decide +kernel
theorem d_Ta_findLongest_0 : decode m_Ta_findLongest.2.1 0 = .ok (.iconst 0, 1) := by decide +kernel
theorem d_Ta_findLongest_1 : decode m_Ta_findLongest.2.1 1 = .ok (.istore_n 2, 1) := by decide +kernel
theorem d_Ta_findLongest_2 : decode m_Ta_findLongest.2.1 2 = .ok (.iconst 0, 1) := by decide +kernel
theorem d_Ta_findLongest_3 : decode m_Ta_findLongest.2.1 3 = .ok (.istore_n 3, 1) := by decide +kernel
theorem d_Ta_findLongest_4 : decode m_Ta_findLongest.2.1 4 = .ok (.iconst 0, 1) := by decide +kernel
theorem d_Ta_findLongest_5 : decode m_Ta_findLongest.2.1 5 = .ok (.istore 4, 2) := by decide +kernel
theorem d_Ta_findLongest_7 : decode m_Ta_findLongest.2.1 7 = .ok (.iload 4, 2) := by decide +kernel
theorem d_Ta_findLongest_9 : decode m_Ta_findLongest.2.1 9 = .ok (.aload_n 0, 1) := by decide +kernel
theorem d_Ta_findLongest_10 : decode m_Ta_findLongest.2.1 10 = .ok (.getfield 34, 3) := by decide +kernel
theorem d_Ta_findLongest_13 : decode m_Ta_findLongest.2.1 13 = .ok (.if_icmp .ge 49, 3) := by decide +kernel
theorem d_Ta_findLongest_16 : decode m_Ta_findLongest.2.1 16 = .ok (.aload_n 0, 1) := by decide +kernel
theorem d_Ta_findLongest_17 : decode m_Ta_findLongest.2.1 17 = .ok (.getfield 9, 3) := by decide +kernel
theorem d_Ta_findLongest_20 : decode m_Ta_findLongest.2.1 20 = .ok (.iload 4, 2) := by decide +kernel
theorem d_Ta_findLongest_22 : decode m_Ta_findLongest.2.1 22 = .ok (.iaload, 1) := by decide +kernel
theorem d_Ta_findLongest_23 : decode m_Ta_findLongest.2.1 23 = .ok (.invokestatic 44, 3) := by decide +kernel
theorem d_Ta_findLongest_26 : decode m_Ta_findLongest.2.1 26 = .ok (.istore 5, 2) := by decide +kernel
theorem d_Ta_findLongest_28 : decode m_Ta_findLongest.2.1 28 = .ok (.iload 5, 2) := by decide +kernel
theorem d_Ta_findLongest_30 : decode m_Ta_findLongest.2.1 30 = .ok (.iload_n 3, 1) := by decide +kernel
theorem d_Ta_findLongest_31 : decode m_Ta_findLongest.2.1 31 = .ok (.if_icmp .le 25, 3) := by decide +kernel
theorem d_Ta_findLongest_34 : decode m_Ta_findLongest.2.1 34 = .ok (.iload_n 1, 1) := by decide +kernel
theorem d_Ta_findLongest_35 : decode m_Ta_findLongest.2.1 35 = .ok (.iload 5, 2) := by decide +kernel
theorem d_Ta_findLongest_37 : decode m_Ta_findLongest.2.1 37 = .ok (.invokestatic 48, 3) := by decide +kernel
theorem d_Ta_findLongest_40 : decode m_Ta_findLongest.2.1 40 = .ok (.aload_n 0, 1) := by decide +kernel
theorem d_Ta_findLongest_41 : decode m_Ta_findLongest.2.1 41 = .ok (.getfield 9, 3) := by decide +kernel
theorem d_Ta_findLongest_44 : decode m_Ta_findLongest.2.1 44 = .ok (.iload 4, 2) := by decide +kernel
theorem d_Ta_findLongest_46 : decode m_Ta_findLongest.2.1 46 = .ok (.iaload, 1) := by decide +kernel
theorem d_Ta_findLongest_47 : decode m_Ta_findLongest.2.1 47 = .ok (.if_icmp .ne 9, 3) := by decide +kernel
theorem d_Ta_findLongest_50 : decode m_Ta_findLongest.2.1 50 = .ok (.iload 4, 2) := by decide +kernel
theorem d_Ta_findLongest_52 : decode m_Ta_findLongest.2.1 52 = .ok (.istore_n 2, 1) := by decide +kernel
theorem d_Ta_findLongest_53 : decode m_Ta_findLongest.2.1 53 = .ok (.iload 5, 2) := by decide +kernel
theorem d_Ta_findLongest_55 : decode m_Ta_findLongest.2.1 55 = .ok (.istore_n 3, 1) := by decide +kernel
theorem d_Ta_findLongest_56 : decode m_Ta_findLongest.2.1 56 = .ok (.iinc 4 1, 3) := by decide +kernel
theorem d_Ta_findLongest_59 : decode m_Ta_findLongest.2.1 59 = .ok (.goto (-52), 3) := by decide +kernel
theorem d_Ta_findLongest_62 : decode m_Ta_findLongest.2.1 62 = .ok (.iload_n 2, 1) := by decide +kernel
theorem d_Ta_findLongest_63 : decode m_Ta_findLongest.2.1 63 = .ok (.ireturn, 1) := by decide +kernel
theorem d_Ta_follow_0 : decode m_Ta_follow.2.1 0 = .ok (.aload_n 0, 1) := by decide +kernel
theorem d_Ta_follow_1 : decode m_Ta_follow.2.1 1 = .ok (.aload_n 1, 1) := by decide +kernel
theorem d_Ta_follow_2 : decode m_Ta_follow.2.1 2 = .ok (.getfield 52, 3) := by decide +kernel
theorem d_Ta_follow_5 : decode m_Ta_follow.2.1 5 = .ok (.iconst 0, 1) := by decide +kernel
theorem d_Ta_follow_6 : decode m_Ta_follow.2.1 6 = .ok (.iaload, 1) := by decide +kernel
theorem d_Ta_follow_7 : decode m_Ta_follow.2.1 7 = .ok (.invokevirtual 55, 3) := by decide +kernel
theorem d_Ta_follow_10 : decode m_Ta_follow.2.1 10 = .ok (.iconst (-1), 1) := by decide +kernel
theorem d_Ta_follow_11 : decode m_Ta_follow.2.1 11 = .ok (.if_icmp .ne 6, 3) := by decide +kernel
theorem d_Ta_follow_14 : decode m_Ta_follow.2.1 14 = .ok (.bipush (-100), 2) := by decide +kernel
theorem d_Ta_follow_16 : decode m_Ta_follow.2.1 16 = .ok (.ireturn, 1) := by decide +kernel
theorem d_Ta_follow_17 : decode m_Ta_follow.2.1 17 = .ok (.iconst 1, 1) := by decide +kernel
theorem d_Ta_follow_18 : decode m_Ta_follow.2.1 18 = .ok (.istore_n 2, 1) := by decide +kernel
theorem d_Ta_follow_19 : decode m_Ta_follow.2.1 19 = .ok (.iload_n 2, 1) := by decide +kernel
theorem d_Ta_follow_20 : decode m_Ta_follow.2.1 20 = .ok (.aload_n 1, 1) := by decide +kernel
theorem d_Ta_follow_21 : decode m_Ta_follow.2.1 21 = .ok (.getfield 58, 3) := by decide +kernel
theorem d_Ta_follow_24 : decode m_Ta_follow.2.1 24 = .ok (.if_icmp .ge 40, 3) := by decide +kernel
theorem d_Ta_follow_27 : decode m_Ta_follow.2.1 27 = .ok (.aload_n 0, 1) := by decide +kernel
theorem d_Ta_follow_28 : decode m_Ta_follow.2.1 28 = .ok (.aload_n 1, 1) := by decide +kernel
theorem d_Ta_follow_29 : decode m_Ta_follow.2.1 29 = .ok (.getfield 52, 3) := by decide +kernel
theorem d_Ta_follow_32 : decode m_Ta_follow.2.1 32 = .ok (.iload_n 2, 1) := by decide +kernel
theorem d_Ta_follow_33 : decode m_Ta_follow.2.1 33 = .ok (.iaload, 1) := by decide +kernel
theorem d_Ta_follow_34 : decode m_Ta_follow.2.1 34 = .ok (.aload_n 1, 1) := by decide +kernel
theorem d_Ta_follow_35 : decode m_Ta_follow.2.1 35 = .ok (.getfield 52, 3) := by decide +kernel
theorem d_Ta_follow_38 : decode m_Ta_follow.2.1 38 = .ok (.iload_n 2, 1) := by decide +kernel
theorem d_Ta_follow_39 : decode m_Ta_follow.2.1 39 = .ok (.iconst 1, 1) := by decide +kernel
theorem d_Ta_follow_40 : decode m_Ta_follow.2.1 40 = .ok (.isub, 1) := by decide +kernel
theorem d_Ta_follow_41 : decode m_Ta_follow.2.1 41 = .ok (.iaload, 1) := by decide +kernel
theorem d_Ta_follow_42 : decode m_Ta_follow.2.1 42 = .ok (.aload_n 1, 1) := by decide +kernel
theorem d_Ta_follow_43 : decode m_Ta_follow.2.1 43 = .ok (.getfield 59, 3) := by decide +kernel
theorem d_Ta_follow_46 : decode m_Ta_follow.2.1 46 = .ok (.iload_n 2, 1) := by decide +kernel
theorem d_Ta_follow_47 : decode m_Ta_follow.2.1 47 = .ok (.iaload, 1) := by decide +kernel
theorem d_Ta_follow_48 : decode m_Ta_follow.2.1 48 = .ok (.invokevirtual 60, 3) := by decide +kernel
theorem d_Ta_follow_51 : decode m_Ta_follow.2.1 51 = .ok (.istore_n 3, 1) := by decide +kernel
theorem d_Ta_follow_52 : decode m_Ta_follow.2.1 52 = .ok (.iload_n 3, 1) := by decide +kernel
theorem d_Ta_follow_53 : decode m_Ta_follow.2.1 53 = .ok (.ifCond .eq 5, 3) := by decide +kernel
theorem d_Ta_follow_56 : decode m_Ta_follow.2.1 56 = .ok (.iload_n 3, 1) := by decide +kernel
theorem d_Ta_follow_57 : decode m_Ta_follow.2.1 57 = .ok (.ireturn, 1) := by decide +kernel
theorem d_Ta_follow_58 : decode m_Ta_follow.2.1 58 = .ok (.iinc 2 1, 3) := by decide +kernel
theorem d_Ta_follow_61 : decode m_Ta_follow.2.1 61 = .ok (.goto (-42), 3) := by decide +kernel
theorem d_Ta_follow_64 : decode m_Ta_follow.2.1 64 = .ok (.aload_n 0, 1) := by decide +kernel
theorem d_Ta_follow_65 : decode m_Ta_follow.2.1 65 = .ok (.getfield 34, 3) := by decide +kernel
theorem d_Ta_follow_68 : decode m_Ta_follow.2.1 68 = .ok (.ireturn, 1) := by decide +kernel
theorem d_Ta_move_0 : decode m_Ta_move.2.1 0 = .ok (.iload_n 1, 1) := by decide +kernel
theorem d_Ta_move_1 : decode m_Ta_move.2.1 1 = .ok (.iload_n 2, 1) := by decide +kernel
theorem d_Ta_move_2 : decode m_Ta_move.2.1 2 = .ok (.if_icmp .ne 6, 3) := by decide +kernel
theorem d_Ta_move_5 : decode m_Ta_move.2.1 5 = .ok (.bipush (-101), 2) := by decide +kernel
theorem d_Ta_move_7 : decode m_Ta_move.2.1 7 = .ok (.ireturn, 1) := by decide +kernel
theorem d_Ta_move_8 : decode m_Ta_move.2.1 8 = .ok (.aload_n 0, 1) := by decide +kernel
theorem d_Ta_move_9 : decode m_Ta_move.2.1 9 = .ok (.iload_n 1, 1) := by decide +kernel
theorem d_Ta_move_10 : decode m_Ta_move.2.1 10 = .ok (.invokevirtual 55, 3) := by decide +kernel
theorem d_Ta_move_13 : decode m_Ta_move.2.1 13 = .ok (.istore 4, 2) := by decide +kernel
theorem d_Ta_move_15 : decode m_Ta_move.2.1 15 = .ok (.iload 4, 2) := by decide +kernel
theorem d_Ta_move_17 : decode m_Ta_move.2.1 17 = .ok (.iconst (-1), 1) := by decide +kernel
theorem d_Ta_move_18 : decode m_Ta_move.2.1 18 = .ok (.if_icmp .eq 9, 3) := by decide +kernel
theorem d_Ta_move_21 : decode m_Ta_move.2.1 21 = .ok (.aload_n 0, 1) := by decide +kernel
theorem d_Ta_move_22 : decode m_Ta_move.2.1 22 = .ok (.iload 4, 2) := by decide +kernel
theorem d_Ta_move_24 : decode m_Ta_move.2.1 24 = .ok (.invokevirtual 64, 3) := by decide +kernel
theorem d_Ta_move_27 : decode m_Ta_move.2.1 27 = .ok (.aload_n 0, 1) := by decide +kernel
theorem d_Ta_move_28 : decode m_Ta_move.2.1 28 = .ok (.getfield 34, 3) := by decide +kernel
theorem d_Ta_move_31 : decode m_Ta_move.2.1 31 = .ok (.bipush 30, 2) := by decide +kernel
theorem d_Ta_move_33 : decode m_Ta_move.2.1 33 = .ok (.if_icmp .lt 6, 3) := by decide +kernel
theorem d_Ta_move_36 : decode m_Ta_move.2.1 36 = .ok (.bipush (-102), 2) := by decide +kernel
theorem d_Ta_move_38 : decode m_Ta_move.2.1 38 = .ok (.ireturn, 1) := by decide +kernel
theorem d_Ta_move_39 : decode m_Ta_move.2.1 39 = .ok (.aload_n 0, 1) := by decide +kernel
theorem d_Ta_move_40 : decode m_Ta_move.2.1 40 = .ok (.iload_n 1, 1) := by decide +kernel
theorem d_Ta_move_41 : decode m_Ta_move.2.1 41 = .ok (.iload_n 3, 1) := by decide +kernel
theorem d_Ta_move_42 : decode m_Ta_move.2.1 42 = .ok (.aload_n 0, 1) := by decide +kernel
theorem d_Ta_move_43 : decode m_Ta_move.2.1 43 = .ok (.iload_n 2, 1) := by decide +kernel
theorem d_Ta_move_44 : decode m_Ta_move.2.1 44 = .ok (.invokevirtual 55, 3) := by decide +kernel
theorem d_Ta_move_47 : decode m_Ta_move.2.1 47 = .ok (.invokevirtual 68, 3) := by decide +kernel
theorem d_Ta_move_50 : decode m_Ta_move.2.1 50 = .ok (.iconst 0, 1) := by decide +kernel
theorem d_Ta_move_51 : decode m_Ta_move.2.1 51 = .ok (.ireturn, 1) := by decide +kernel
theorem d_Ta_takeOut_0 : decode m_Ta_takeOut.2.1 0 = .ok (.iload_n 1, 1) := by decide +kernel
theorem d_Ta_takeOut_1 : decode m_Ta_takeOut.2.1 1 = .ok (.iconst 1, 1) := by decide +kernel
theorem d_Ta_takeOut_2 : decode m_Ta_takeOut.2.1 2 = .ok (.iadd, 1) := by decide +kernel
theorem d_Ta_takeOut_3 : decode m_Ta_takeOut.2.1 3 = .ok (.aload_n 0, 1) := by decide +kernel
theorem d_Ta_takeOut_4 : decode m_Ta_takeOut.2.1 4 = .ok (.getfield 34, 3) := by decide +kernel
theorem d_Ta_takeOut_7 : decode m_Ta_takeOut.2.1 7 = .ok (.if_icmp .ge 28, 3) := by decide +kernel
theorem d_Ta_takeOut_10 : decode m_Ta_takeOut.2.1 10 = .ok (.aload_n 0, 1) := by decide +kernel
theorem d_Ta_takeOut_11 : decode m_Ta_takeOut.2.1 11 = .ok (.getfield 15, 3) := by decide +kernel
theorem d_Ta_takeOut_14 : decode m_Ta_takeOut.2.1 14 = .ok (.iload_n 1, 1) := by decide +kernel
theorem d_Ta_takeOut_15 : decode m_Ta_takeOut.2.1 15 = .ok (.iconst 1, 1) := by decide +kernel
theorem d_Ta_takeOut_16 : decode m_Ta_takeOut.2.1 16 = .ok (.iadd, 1) := by decide +kernel
theorem d_Ta_takeOut_17 : decode m_Ta_takeOut.2.1 17 = .ok (.aload_n 0, 1) := by decide +kernel
theorem d_Ta_takeOut_18 : decode m_Ta_takeOut.2.1 18 = .ok (.getfield 15, 3) := by decide +kernel
theorem d_Ta_takeOut_21 : decode m_Ta_takeOut.2.1 21 = .ok (.iload_n 1, 1) := by decide +kernel
theorem d_Ta_takeOut_22 : decode m_Ta_takeOut.2.1 22 = .ok (.iaload, 1) := by decide +kernel
theorem d_Ta_takeOut_23 : decode m_Ta_takeOut.2.1 23 = .ok (.aload_n 0, 1) := by decide +kernel
theorem d_Ta_takeOut_24 : decode m_Ta_takeOut.2.1 24 = .ok (.getfield 15, 3) := by decide +kernel
theorem d_Ta_takeOut_27 : decode m_Ta_takeOut.2.1 27 = .ok (.iload_n 1, 1) := by decide +kernel
theorem d_Ta_takeOut_28 : decode m_Ta_takeOut.2.1 28 = .ok (.iconst 1, 1) := by decide +kernel
theorem d_Ta_takeOut_29 : decode m_Ta_takeOut.2.1 29 = .ok (.iadd, 1) := by decide +kernel
theorem d_Ta_takeOut_30 : decode m_Ta_takeOut.2.1 30 = .ok (.iaload, 1) := by decide +kernel
theorem d_Ta_takeOut_31 : decode m_Ta_takeOut.2.1 31 = .ok (.invokestatic 71, 3) := by decide +kernel
theorem d_Ta_takeOut_34 : decode m_Ta_takeOut.2.1 34 = .ok (.iastore, 1) := by decide +kernel
theorem d_Ta_takeOut_35 : decode m_Ta_takeOut.2.1 35 = .ok (.iload_n 1, 1) := by decide +kernel
theorem d_Ta_takeOut_36 : decode m_Ta_takeOut.2.1 36 = .ok (.iconst 1, 1) := by decide +kernel
theorem d_Ta_takeOut_37 : decode m_Ta_takeOut.2.1 37 = .ok (.iadd, 1) := by decide +kernel
theorem d_Ta_takeOut_38 : decode m_Ta_takeOut.2.1 38 = .ok (.istore_n 2, 1) := by decide +kernel
theorem d_Ta_takeOut_39 : decode m_Ta_takeOut.2.1 39 = .ok (.iload_n 2, 1) := by decide +kernel
theorem d_Ta_takeOut_40 : decode m_Ta_takeOut.2.1 40 = .ok (.aload_n 0, 1) := by decide +kernel
theorem d_Ta_takeOut_41 : decode m_Ta_takeOut.2.1 41 = .ok (.getfield 34, 3) := by decide +kernel
theorem d_Ta_takeOut_44 : decode m_Ta_takeOut.2.1 44 = .ok (.if_icmp .ge 37, 3) := by decide +kernel
theorem d_Ta_takeOut_47 : decode m_Ta_takeOut.2.1 47 = .ok (.aload_n 0, 1) := by decide +kernel
theorem d_Ta_takeOut_48 : decode m_Ta_takeOut.2.1 48 = .ok (.getfield 9, 3) := by decide +kernel
theorem d_Ta_takeOut_51 : decode m_Ta_takeOut.2.1 51 = .ok (.iload_n 2, 1) := by decide +kernel
theorem d_Ta_takeOut_52 : decode m_Ta_takeOut.2.1 52 = .ok (.iconst 1, 1) := by decide +kernel
theorem d_Ta_takeOut_53 : decode m_Ta_takeOut.2.1 53 = .ok (.isub, 1) := by decide +kernel
theorem d_Ta_takeOut_54 : decode m_Ta_takeOut.2.1 54 = .ok (.aload_n 0, 1) := by decide +kernel
theorem d_Ta_takeOut_55 : decode m_Ta_takeOut.2.1 55 = .ok (.getfield 9, 3) := by decide +kernel
theorem d_Ta_takeOut_58 : decode m_Ta_takeOut.2.1 58 = .ok (.iload_n 2, 1) := by decide +kernel
theorem d_Ta_takeOut_59 : decode m_Ta_takeOut.2.1 59 = .ok (.iaload, 1) := by decide +kernel
theorem d_Ta_takeOut_60 : decode m_Ta_takeOut.2.1 60 = .ok (.iastore, 1) := by decide +kernel
theorem d_Ta_takeOut_61 : decode m_Ta_takeOut.2.1 61 = .ok (.aload_n 0, 1) := by decide +kernel
theorem d_Ta_takeOut_62 : decode m_Ta_takeOut.2.1 62 = .ok (.getfield 15, 3) := by decide +kernel
theorem d_Ta_takeOut_65 : decode m_Ta_takeOut.2.1 65 = .ok (.iload_n 2, 1) := by decide +kernel
theorem d_Ta_takeOut_66 : decode m_Ta_takeOut.2.1 66 = .ok (.iconst 1, 1) := by decide +kernel
theorem d_Ta_takeOut_67 : decode m_Ta_takeOut.2.1 67 = .ok (.isub, 1) := by decide +kernel
theorem d_Ta_takeOut_68 : decode m_Ta_takeOut.2.1 68 = .ok (.aload_n 0, 1) := by decide +kernel
theorem d_Ta_takeOut_69 : decode m_Ta_takeOut.2.1 69 = .ok (.getfield 15, 3) := by decide +kernel
theorem d_Ta_takeOut_72 : decode m_Ta_takeOut.2.1 72 = .ok (.iload_n 2, 1) := by decide +kernel
theorem d_Ta_takeOut_73 : decode m_Ta_takeOut.2.1 73 = .ok (.iaload, 1) := by decide +kernel
theorem d_Ta_takeOut_74 : decode m_Ta_takeOut.2.1 74 = .ok (.iastore, 1) := by decide +kernel
theorem d_Ta_takeOut_75 : decode m_Ta_takeOut.2.1 75 = .ok (.iinc 2 1, 3) := by decide +kernel
theorem d_Ta_takeOut_78 : decode m_Ta_takeOut.2.1 78 = .ok (.goto (-39), 3) := by decide +kernel
theorem d_Ta_takeOut_81 : decode m_Ta_takeOut.2.1 81 = .ok (.aload_n 0, 1) := by decide +kernel
theorem d_Ta_takeOut_82 : decode m_Ta_takeOut.2.1 82 = .ok (.dup, 1) := by decide +kernel
theorem d_Ta_takeOut_83 : decode m_Ta_takeOut.2.1 83 = .ok (.getfield 34, 3) := by decide +kernel
theorem d_Ta_takeOut_86 : decode m_Ta_takeOut.2.1 86 = .ok (.iconst 1, 1) := by decide +kernel
theorem d_Ta_takeOut_87 : decode m_Ta_takeOut.2.1 87 = .ok (.isub, 1) := by decide +kernel
theorem d_Ta_takeOut_88 : decode m_Ta_takeOut.2.1 88 = .ok (.putfield 34, 3) := by decide +kernel
theorem d_Ta_takeOut_91 : decode m_Ta_takeOut.2.1 91 = .ok (.return_, 1) := by decide +kernel
theorem d_Ta_putIn_0 : decode m_Ta_putIn.2.1 0 = .ok (.iload_n 3, 1) := by decide +kernel
theorem d_Ta_putIn_1 : decode m_Ta_putIn.2.1 1 = .ok (.iconst 1, 1) := by decide +kernel
theorem d_Ta_putIn_2 : decode m_Ta_putIn.2.1 2 = .ok (.iadd, 1) := by decide +kernel
theorem d_Ta_putIn_3 : decode m_Ta_putIn.2.1 3 = .ok (.istore 4, 2) := by decide +kernel
theorem d_Ta_putIn_5 : decode m_Ta_putIn.2.1 5 = .ok (.iload 4, 2) := by decide +kernel
theorem d_Ta_putIn_7 : decode m_Ta_putIn.2.1 7 = .ok (.aload_n 0, 1) := by decide +kernel
theorem d_Ta_putIn_8 : decode m_Ta_putIn.2.1 8 = .ok (.getfield 34, 3) := by decide +kernel
theorem d_Ta_putIn_11 : decode m_Ta_putIn.2.1 11 = .ok (.if_icmp .ge 20, 3) := by decide +kernel
theorem d_Ta_putIn_14 : decode m_Ta_putIn.2.1 14 = .ok (.aload_n 0, 1) := by decide +kernel
theorem d_Ta_putIn_15 : decode m_Ta_putIn.2.1 15 = .ok (.getfield 15, 3) := by decide +kernel
theorem d_Ta_putIn_18 : decode m_Ta_putIn.2.1 18 = .ok (.iload 4, 2) := by decide +kernel
theorem d_Ta_putIn_20 : decode m_Ta_putIn.2.1 20 = .ok (.iaload, 1) := by decide +kernel
theorem d_Ta_putIn_21 : decode m_Ta_putIn.2.1 21 = .ok (.iload_n 2, 1) := by decide +kernel
theorem d_Ta_putIn_22 : decode m_Ta_putIn.2.1 22 = .ok (.if_icmp .le 9, 3) := by decide +kernel
theorem d_Ta_putIn_25 : decode m_Ta_putIn.2.1 25 = .ok (.iinc 4 1, 3) := by decide +kernel
theorem d_Ta_putIn_28 : decode m_Ta_putIn.2.1 28 = .ok (.goto (-23), 3) := by decide +kernel
theorem d_Ta_putIn_31 : decode m_Ta_putIn.2.1 31 = .ok (.aload_n 0, 1) := by decide +kernel
theorem d_Ta_putIn_32 : decode m_Ta_putIn.2.1 32 = .ok (.iload 4, 2) := by decide +kernel
theorem d_Ta_putIn_34 : decode m_Ta_putIn.2.1 34 = .ok (.iload_n 1, 1) := by decide +kernel
theorem d_Ta_putIn_35 : decode m_Ta_putIn.2.1 35 = .ok (.iload_n 2, 1) := by decide +kernel
theorem d_Ta_putIn_36 : decode m_Ta_putIn.2.1 36 = .ok (.invokevirtual 27, 3) := by decide +kernel
theorem d_Ta_putIn_39 : decode m_Ta_putIn.2.1 39 = .ok (.return_, 1) := by decide +kernel
theorem d_Ta_insert_0 : decode m_Ta_insert.2.1 0 = .ok (.aload_n 0, 1) := by decide +kernel
theorem d_Ta_insert_1 : decode m_Ta_insert.2.1 1 = .ok (.getfield 34, 3) := by decide +kernel
theorem d_Ta_insert_4 : decode m_Ta_insert.2.1 4 = .ok (.istore 4, 2) := by decide +kernel
theorem d_Ta_insert_6 : decode m_Ta_insert.2.1 6 = .ok (.iload 4, 2) := by decide +kernel
theorem d_Ta_insert_8 : decode m_Ta_insert.2.1 8 = .ok (.iload_n 1, 1) := by decide +kernel
theorem d_Ta_insert_9 : decode m_Ta_insert.2.1 9 = .ok (.if_icmp .le 41, 3) := by decide +kernel
theorem d_Ta_insert_12 : decode m_Ta_insert.2.1 12 = .ok (.aload_n 0, 1) := by decide +kernel
theorem d_Ta_insert_13 : decode m_Ta_insert.2.1 13 = .ok (.getfield 9, 3) := by decide +kernel
theorem d_Ta_insert_16 : decode m_Ta_insert.2.1 16 = .ok (.iload 4, 2) := by decide +kernel
theorem d_Ta_insert_18 : decode m_Ta_insert.2.1 18 = .ok (.aload_n 0, 1) := by decide +kernel
theorem d_Ta_insert_19 : decode m_Ta_insert.2.1 19 = .ok (.getfield 9, 3) := by decide +kernel
theorem d_Ta_insert_22 : decode m_Ta_insert.2.1 22 = .ok (.iload 4, 2) := by decide +kernel
theorem d_Ta_insert_24 : decode m_Ta_insert.2.1 24 = .ok (.iconst 1, 1) := by decide +kernel
theorem d_Ta_insert_25 : decode m_Ta_insert.2.1 25 = .ok (.isub, 1) := by decide +kernel
theorem d_Ta_insert_26 : decode m_Ta_insert.2.1 26 = .ok (.iaload, 1) := by decide +kernel
theorem d_Ta_insert_27 : decode m_Ta_insert.2.1 27 = .ok (.iastore, 1) := by decide +kernel
theorem d_Ta_insert_28 : decode m_Ta_insert.2.1 28 = .ok (.aload_n 0, 1) := by decide +kernel
theorem d_Ta_insert_29 : decode m_Ta_insert.2.1 29 = .ok (.getfield 15, 3) := by decide +kernel
theorem d_Ta_insert_32 : decode m_Ta_insert.2.1 32 = .ok (.iload 4, 2) := by decide +kernel
theorem d_Ta_insert_34 : decode m_Ta_insert.2.1 34 = .ok (.aload_n 0, 1) := by decide +kernel
theorem d_Ta_insert_35 : decode m_Ta_insert.2.1 35 = .ok (.getfield 15, 3) := by decide +kernel
theorem d_Ta_insert_38 : decode m_Ta_insert.2.1 38 = .ok (.iload 4, 2) := by decide +kernel
theorem d_Ta_insert_40 : decode m_Ta_insert.2.1 40 = .ok (.iconst 1, 1) := by decide +kernel
theorem d_Ta_insert_41 : decode m_Ta_insert.2.1 41 = .ok (.isub, 1) := by decide +kernel
theorem d_Ta_insert_42 : decode m_Ta_insert.2.1 42 = .ok (.iaload, 1) := by decide +kernel
theorem d_Ta_insert_43 : decode m_Ta_insert.2.1 43 = .ok (.iastore, 1) := by decide +kernel
theorem d_Ta_insert_44 : decode m_Ta_insert.2.1 44 = .ok (.iinc 4 (-1), 3) := by decide +kernel
theorem d_Ta_insert_47 : decode m_Ta_insert.2.1 47 = .ok (.goto (-41), 3) := by decide +kernel
theorem d_Ta_insert_50 : decode m_Ta_insert.2.1 50 = .ok (.aload_n 0, 1) := by decide +kernel
theorem d_Ta_insert_51 : decode m_Ta_insert.2.1 51 = .ok (.getfield 9, 3) := by decide +kernel
theorem d_Ta_insert_54 : decode m_Ta_insert.2.1 54 = .ok (.iload_n 1, 1) := by decide +kernel
theorem d_Ta_insert_55 : decode m_Ta_insert.2.1 55 = .ok (.iload_n 2, 1) := by decide +kernel
theorem d_Ta_insert_56 : decode m_Ta_insert.2.1 56 = .ok (.iastore, 1) := by decide +kernel
theorem d_Ta_insert_57 : decode m_Ta_insert.2.1 57 = .ok (.aload_n 0, 1) := by decide +kernel
theorem d_Ta_insert_58 : decode m_Ta_insert.2.1 58 = .ok (.getfield 15, 3) := by decide +kernel
theorem d_Ta_insert_61 : decode m_Ta_insert.2.1 61 = .ok (.iload_n 1, 1) := by decide +kernel
theorem d_Ta_insert_62 : decode m_Ta_insert.2.1 62 = .ok (.iload_n 3, 1) := by decide +kernel
theorem d_Ta_insert_63 : decode m_Ta_insert.2.1 63 = .ok (.iastore, 1) := by decide +kernel
theorem d_Ta_insert_64 : decode m_Ta_insert.2.1 64 = .ok (.aload_n 0, 1) := by decide +kernel
theorem d_Ta_insert_65 : decode m_Ta_insert.2.1 65 = .ok (.dup, 1) := by decide +kernel
theorem d_Ta_insert_66 : decode m_Ta_insert.2.1 66 = .ok (.getfield 34, 3) := by decide +kernel
theorem d_Ta_insert_69 : decode m_Ta_insert.2.1 69 = .ok (.iconst 1, 1) := by decide +kernel
theorem d_Ta_insert_70 : decode m_Ta_insert.2.1 70 = .ok (.iadd, 1) := by decide +kernel
theorem d_Ta_insert_71 : decode m_Ta_insert.2.1 71 = .ok (.putfield 34, 3) := by decide +kernel
theorem d_Ta_insert_74 : decode m_Ta_insert.2.1 74 = .ok (.return_, 1) := by decide +kernel
theorem d_Ta_weigh_0 : decode m_Ta_weigh.2.1 0 = .ok (.iconst 0, 1) := by decide +kernel
theorem d_Ta_weigh_1 : decode m_Ta_weigh.2.1 1 = .ok (.istore_n 1, 1) := by decide +kernel
theorem d_Ta_weigh_2 : decode m_Ta_weigh.2.1 2 = .ok (.iconst 1, 1) := by decide +kernel
theorem d_Ta_weigh_3 : decode m_Ta_weigh.2.1 3 = .ok (.istore_n 2, 1) := by decide +kernel
theorem d_Ta_weigh_4 : decode m_Ta_weigh.2.1 4 = .ok (.iconst 1, 1) := by decide +kernel
theorem d_Ta_weigh_5 : decode m_Ta_weigh.2.1 5 = .ok (.istore_n 3, 1) := by decide +kernel
theorem d_Ta_weigh_6 : decode m_Ta_weigh.2.1 6 = .ok (.iconst 0, 1) := by decide +kernel
theorem d_Ta_weigh_7 : decode m_Ta_weigh.2.1 7 = .ok (.istore 4, 2) := by decide +kernel
theorem d_Ta_weigh_9 : decode m_Ta_weigh.2.1 9 = .ok (.iload 4, 2) := by decide +kernel
theorem d_Ta_weigh_11 : decode m_Ta_weigh.2.1 11 = .ok (.aload_n 0, 1) := by decide +kernel
theorem d_Ta_weigh_12 : decode m_Ta_weigh.2.1 12 = .ok (.getfield 34, 3) := by decide +kernel
theorem d_Ta_weigh_15 : decode m_Ta_weigh.2.1 15 = .ok (.if_icmp .ge 87, 3) := by decide +kernel
theorem d_Ta_weigh_18 : decode m_Ta_weigh.2.1 18 = .ok (.aload_n 0, 1) := by decide +kernel
theorem d_Ta_weigh_19 : decode m_Ta_weigh.2.1 19 = .ok (.getfield 15, 3) := by decide +kernel
theorem d_Ta_weigh_22 : decode m_Ta_weigh.2.1 22 = .ok (.iload 4, 2) := by decide +kernel
theorem d_Ta_weigh_24 : decode m_Ta_weigh.2.1 24 = .ok (.iaload, 1) := by decide +kernel
theorem d_Ta_weigh_25 : decode m_Ta_weigh.2.1 25 = .ok (.iconst 1, 1) := by decide +kernel
theorem d_Ta_weigh_26 : decode m_Ta_weigh.2.1 26 = .ok (.if_icmp .ne 13, 3) := by decide +kernel
theorem d_Ta_weigh_29 : decode m_Ta_weigh.2.1 29 = .ok (.iinc 1 1, 3) := by decide +kernel
theorem d_Ta_weigh_32 : decode m_Ta_weigh.2.1 32 = .ok (.iconst 1, 1) := by decide +kernel
theorem d_Ta_weigh_33 : decode m_Ta_weigh.2.1 33 = .ok (.istore_n 2, 1) := by decide +kernel
theorem d_Ta_weigh_34 : decode m_Ta_weigh.2.1 34 = .ok (.iconst 1, 1) := by decide +kernel
theorem d_Ta_weigh_35 : decode m_Ta_weigh.2.1 35 = .ok (.istore_n 3, 1) := by decide +kernel
theorem d_Ta_weigh_36 : decode m_Ta_weigh.2.1 36 = .ok (.goto 36, 3) := by decide +kernel
theorem d_Ta_weigh_39 : decode m_Ta_weigh.2.1 39 = .ok (.aload_n 0, 1) := by decide +kernel
theorem d_Ta_weigh_40 : decode m_Ta_weigh.2.1 40 = .ok (.getfield 15, 3) := by decide +kernel
theorem d_Ta_weigh_43 : decode m_Ta_weigh.2.1 43 = .ok (.iload 4, 2) := by decide +kernel
theorem d_Ta_weigh_45 : decode m_Ta_weigh.2.1 45 = .ok (.iaload, 1) := by decide +kernel
theorem d_Ta_weigh_46 : decode m_Ta_weigh.2.1 46 = .ok (.iconst 2, 1) := by decide +kernel
theorem d_Ta_weigh_47 : decode m_Ta_weigh.2.1 47 = .ok (.if_icmp .ne 11, 3) := by decide +kernel
theorem d_Ta_weigh_50 : decode m_Ta_weigh.2.1 50 = .ok (.iinc 2 1, 3) := by decide +kernel
theorem d_Ta_weigh_53 : decode m_Ta_weigh.2.1 53 = .ok (.iconst 1, 1) := by decide +kernel
theorem d_Ta_weigh_54 : decode m_Ta_weigh.2.1 54 = .ok (.istore_n 3, 1) := by decide +kernel
theorem d_Ta_weigh_55 : decode m_Ta_weigh.2.1 55 = .ok (.goto 17, 3) := by decide +kernel
theorem d_Ta_weigh_58 : decode m_Ta_weigh.2.1 58 = .ok (.aload_n 0, 1) := by decide +kernel
theorem d_Ta_weigh_59 : decode m_Ta_weigh.2.1 59 = .ok (.getfield 15, 3) := by decide +kernel
theorem d_Ta_weigh_62 : decode m_Ta_weigh.2.1 62 = .ok (.iload 4, 2) := by decide +kernel
theorem d_Ta_weigh_64 : decode m_Ta_weigh.2.1 64 = .ok (.iaload, 1) := by decide +kernel
theorem d_Ta_weigh_65 : decode m_Ta_weigh.2.1 65 = .ok (.iconst 3, 1) := by decide +kernel
theorem d_Ta_weigh_66 : decode m_Ta_weigh.2.1 66 = .ok (.if_icmp .ne 6, 3) := by decide +kernel
theorem d_Ta_weigh_69 : decode m_Ta_weigh.2.1 69 = .ok (.iinc 3 1, 3) := by decide +kernel
theorem d_Ta_weigh_72 : decode m_Ta_weigh.2.1 72 = .ok (.aload_n 0, 1) := by decide +kernel
theorem d_Ta_weigh_73 : decode m_Ta_weigh.2.1 73 = .ok (.getfield 18, 3) := by decide +kernel
theorem d_Ta_weigh_76 : decode m_Ta_weigh.2.1 76 = .ok (.iload 4, 2) := by decide +kernel
theorem d_Ta_weigh_78 : decode m_Ta_weigh.2.1 78 = .ok (.iload_n 1, 1) := by decide +kernel
theorem d_Ta_weigh_79 : decode m_Ta_weigh.2.1 79 = .ok (.iastore, 1) := by decide +kernel
theorem d_Ta_weigh_80 : decode m_Ta_weigh.2.1 80 = .ok (.aload_n 0, 1) := by decide +kernel
theorem d_Ta_weigh_81 : decode m_Ta_weigh.2.1 81 = .ok (.getfield 21, 3) := by decide +kernel
theorem d_Ta_weigh_84 : decode m_Ta_weigh.2.1 84 = .ok (.iload 4, 2) := by decide +kernel
theorem d_Ta_weigh_86 : decode m_Ta_weigh.2.1 86 = .ok (.iload_n 2, 1) := by decide +kernel
theorem d_Ta_weigh_87 : decode m_Ta_weigh.2.1 87 = .ok (.iastore, 1) := by decide +kernel
theorem d_Ta_weigh_88 : decode m_Ta_weigh.2.1 88 = .ok (.aload_n 0, 1) := by decide +kernel
theorem d_Ta_weigh_89 : decode m_Ta_weigh.2.1 89 = .ok (.getfield 24, 3) := by decide +kernel
theorem d_Ta_weigh_92 : decode m_Ta_weigh.2.1 92 = .ok (.iload 4, 2) := by decide +kernel
theorem d_Ta_weigh_94 : decode m_Ta_weigh.2.1 94 = .ok (.iload_n 3, 1) := by decide +kernel
theorem d_Ta_weigh_95 : decode m_Ta_weigh.2.1 95 = .ok (.iastore, 1) := by decide +kernel
theorem d_Ta_weigh_96 : decode m_Ta_weigh.2.1 96 = .ok (.iinc 4 1, 3) := by decide +kernel
theorem d_Ta_weigh_99 : decode m_Ta_weigh.2.1 99 = .ok (.goto (-90), 3) := by decide +kernel
theorem d_Ta_weigh_102 : decode m_Ta_weigh.2.1 102 = .ok (.return_, 1) := by decide +kernel
end
section
theorem d_Li_init_0 : decode m_Li_init.2.1 0 = .ok (.aload_n 0, 1) := by decide +kernel
theorem d_Li_init_1 : decode m_Li_init.2.1 1 = .ok (.invokespecial 1, 3) := by decide +kernel
theorem d_Li_init_4 : decode m_Li_init.2.1 4 = .ok (.aload_n 0, 1) := by decide +kernel
theorem d_Li_init_5 : decode m_Li_init.2.1 5 = .ok (.iload_n 1, 1) := by decide +kernel
theorem d_Li_init_6 : decode m_Li_init.2.1 6 = .ok (.newarray .char, 2) := by decide +kernel
theorem d_Li_init_8 : decode m_Li_init.2.1 8 = .ok (.putfield 7, 3) := by decide +kernel
theorem d_Li_init_11 : decode m_Li_init.2.1 11 = .ok (.aload_n 0, 1) := by decide +kernel
theorem d_Li_init_12 : decode m_Li_init.2.1 12 = .ok (.iconst 0, 1) := by decide +kernel
theorem d_Li_init_13 : decode m_Li_init.2.1 13 = .ok (.putfield 13, 3) := by decide +kernel
theorem d_Li_init_16 : decode m_Li_init.2.1 16 = .ok (.return_, 1) := by decide +kernel
theorem d_Li_append_0 : decode m_Li_append.2.1 0 = .ok (.aload_n 0, 1) := by decide +kernel
theorem d_Li_append_1 : decode m_Li_append.2.1 1 = .ok (.getfield 13, 3) := by decide +kernel
theorem d_Li_append_4 : decode m_Li_append.2.1 4 = .ok (.aload_n 0, 1) := by decide +kernel
theorem d_Li_append_5 : decode m_Li_append.2.1 5 = .ok (.getfield 7, 3) := by decide +kernel
theorem d_Li_append_8 : decode m_Li_append.2.1 8 = .ok (.arraylength, 1) := by decide +kernel
theorem d_Li_append_9 : decode m_Li_append.2.1 9 = .ok (.if_icmp .lt 5, 3) := by decide +kernel
theorem d_Li_append_12 : decode m_Li_append.2.1 12 = .ok (.iconst 0, 1) := by decide +kernel
theorem d_Li_append_13 : decode m_Li_append.2.1 13 = .ok (.ireturn, 1) := by decide +kernel
theorem d_Li_append_14 : decode m_Li_append.2.1 14 = .ok (.aload_n 0, 1) := by decide +kernel
theorem d_Li_append_15 : decode m_Li_append.2.1 15 = .ok (.getfield 7, 3) := by decide +kernel
theorem d_Li_append_18 : decode m_Li_append.2.1 18 = .ok (.aload_n 0, 1) := by decide +kernel
theorem d_Li_append_19 : decode m_Li_append.2.1 19 = .ok (.getfield 13, 3) := by decide +kernel
theorem d_Li_append_22 : decode m_Li_append.2.1 22 = .ok (.iload_n 1, 1) := by decide +kernel
theorem d_Li_append_23 : decode m_Li_append.2.1 23 = .ok (.castore, 1) := by decide +kernel
theorem d_Li_append_24 : decode m_Li_append.2.1 24 = .ok (.aload_n 0, 1) := by decide +kernel
theorem d_Li_append_25 : decode m_Li_append.2.1 25 = .ok (.dup, 1) := by decide +kernel
theorem d_Li_append_26 : decode m_Li_append.2.1 26 = .ok (.getfield 13, 3) := by decide +kernel
theorem d_Li_append_29 : decode m_Li_append.2.1 29 = .ok (.iconst 1, 1) := by decide +kernel
theorem d_Li_append_30 : decode m_Li_append.2.1 30 = .ok (.iadd, 1) := by decide +kernel
theorem d_Li_append_31 : decode m_Li_append.2.1 31 = .ok (.putfield 13, 3) := by decide +kernel
theorem d_Li_append_34 : decode m_Li_append.2.1 34 = .ok (.iconst 1, 1) := by decide +kernel
theorem d_Li_append_35 : decode m_Li_append.2.1 35 = .ok (.ireturn, 1) := by decide +kernel
theorem d_Li_clear_0 : decode m_Li_clear.2.1 0 = .ok (.aload_n 0, 1) := by decide +kernel
theorem d_Li_clear_1 : decode m_Li_clear.2.1 1 = .ok (.getfield 13, 3) := by decide +kernel
theorem d_Li_clear_4 : decode m_Li_clear.2.1 4 = .ok (.istore_n 1, 1) := by decide +kernel
theorem d_Li_clear_5 : decode m_Li_clear.2.1 5 = .ok (.aload_n 0, 1) := by decide +kernel
theorem d_Li_clear_6 : decode m_Li_clear.2.1 6 = .ok (.iconst 0, 1) := by decide +kernel
theorem d_Li_clear_7 : decode m_Li_clear.2.1 7 = .ok (.putfield 13, 3) := by decide +kernel
theorem d_Li_clear_10 : decode m_Li_clear.2.1 10 = .ok (.iload_n 1, 1) := by decide +kernel
theorem d_Li_clear_11 : decode m_Li_clear.2.1 11 = .ok (.ireturn, 1) := by decide +kernel
theorem d_Li_copyFrom_0 : decode m_Li_copyFrom.2.1 0 = .ok (.aload_n 0, 1) := by decide +kernel
theorem d_Li_copyFrom_1 : decode m_Li_copyFrom.2.1 1 = .ok (.invokevirtual 17, 3) := by decide +kernel
theorem d_Li_copyFrom_4 : decode m_Li_copyFrom.2.1 4 = .ok (.pop, 1) := by decide +kernel
theorem d_Li_copyFrom_5 : decode m_Li_copyFrom.2.1 5 = .ok (.iconst 0, 1) := by decide +kernel
theorem d_Li_copyFrom_6 : decode m_Li_copyFrom.2.1 6 = .ok (.istore_n 2, 1) := by decide +kernel
theorem d_Li_copyFrom_7 : decode m_Li_copyFrom.2.1 7 = .ok (.iload_n 2, 1) := by decide +kernel
theorem d_Li_copyFrom_8 : decode m_Li_copyFrom.2.1 8 = .ok (.aload_n 1, 1) := by decide +kernel
theorem d_Li_copyFrom_9 : decode m_Li_copyFrom.2.1 9 = .ok (.getfield 13, 3) := by decide +kernel
theorem d_Li_copyFrom_12 : decode m_Li_copyFrom.2.1 12 = .ok (.if_icmp .ge 20, 3) := by decide +kernel
theorem d_Li_copyFrom_15 : decode m_Li_copyFrom.2.1 15 = .ok (.aload_n 0, 1) := by decide +kernel
theorem d_Li_copyFrom_16 : decode m_Li_copyFrom.2.1 16 = .ok (.aload_n 1, 1) := by decide +kernel
theorem d_Li_copyFrom_17 : decode m_Li_copyFrom.2.1 17 = .ok (.getfield 7, 3) := by decide +kernel
theorem d_Li_copyFrom_20 : decode m_Li_copyFrom.2.1 20 = .ok (.iload_n 2, 1) := by decide +kernel
theorem d_Li_copyFrom_21 : decode m_Li_copyFrom.2.1 21 = .ok (.caload, 1) := by decide +kernel
theorem d_Li_copyFrom_22 : decode m_Li_copyFrom.2.1 22 = .ok (.invokevirtual 21, 3) := by decide +kernel
theorem d_Li_copyFrom_25 : decode m_Li_copyFrom.2.1 25 = .ok (.pop, 1) := by decide +kernel
theorem d_Li_copyFrom_26 : decode m_Li_copyFrom.2.1 26 = .ok (.iinc 2 1, 3) := by decide +kernel
theorem d_Li_copyFrom_29 : decode m_Li_copyFrom.2.1 29 = .ok (.goto (-22), 3) := by decide +kernel
theorem d_Li_copyFrom_32 : decode m_Li_copyFrom.2.1 32 = .ok (.return_, 1) := by decide +kernel
theorem d_Ke_init_0 : decode m_Ke_init.2.1 0 = .ok (.aload_n 0, 1) := by decide +kernel
theorem d_Ke_init_1 : decode m_Ke_init.2.1 1 = .ok (.invokespecial 3, 3) := by decide +kernel
theorem d_Ke_init_4 : decode m_Ke_init.2.1 4 = .ok (.aload_n 0, 1) := by decide +kernel
theorem d_Ke_init_5 : decode m_Ke_init.2.1 5 = .ok (.bipush 52, 2) := by decide +kernel
theorem d_Ke_init_7 : decode m_Ke_init.2.1 7 = .ok (.newarray .int, 2) := by decide +kernel
theorem d_Ke_init_9 : decode m_Ke_init.2.1 9 = .ok (.putfield 9, 3) := by decide +kernel
theorem d_Ke_init_12 : decode m_Ke_init.2.1 12 = .ok (.aload_n 0, 1) := by decide +kernel
theorem d_Ke_init_13 : decode m_Ke_init.2.1 13 = .ok (.iconst 0, 1) := by decide +kernel
theorem d_Ke_init_14 : decode m_Ke_init.2.1 14 = .ok (.putfield 15, 3) := by decide +kernel
theorem d_Ke_init_17 : decode m_Ke_init.2.1 17 = .ok (.return_, 1) := by decide +kernel
theorem d_Ke_add_0 : decode m_Ke_add.2.1 0 = .ok (.aload_n 0, 1) := by decide +kernel
theorem d_Ke_add_1 : decode m_Ke_add.2.1 1 = .ok (.getfield 15, 3) := by decide +kernel
theorem d_Ke_add_4 : decode m_Ke_add.2.1 4 = .ok (.aload_n 0, 1) := by decide +kernel
theorem d_Ke_add_5 : decode m_Ke_add.2.1 5 = .ok (.getfield 9, 3) := by decide +kernel
theorem d_Ke_add_8 : decode m_Ke_add.2.1 8 = .ok (.arraylength, 1) := by decide +kernel
theorem d_Ke_add_9 : decode m_Ke_add.2.1 9 = .ok (.if_icmp .ge 23, 3) := by decide +kernel
theorem d_Ke_add_12 : decode m_Ke_add.2.1 12 = .ok (.aload_n 0, 1) := by decide +kernel
theorem d_Ke_add_13 : decode m_Ke_add.2.1 13 = .ok (.getfield 9, 3) := by decide +kernel
theorem d_Ke_add_16 : decode m_Ke_add.2.1 16 = .ok (.aload_n 0, 1) := by decide +kernel
theorem d_Ke_add_17 : decode m_Ke_add.2.1 17 = .ok (.getfield 15, 3) := by decide +kernel
theorem d_Ke_add_20 : decode m_Ke_add.2.1 20 = .ok (.iload_n 1, 1) := by decide +kernel
theorem d_Ke_add_21 : decode m_Ke_add.2.1 21 = .ok (.iastore, 1) := by decide +kernel
theorem d_Ke_add_22 : decode m_Ke_add.2.1 22 = .ok (.aload_n 0, 1) := by decide +kernel
theorem d_Ke_add_23 : decode m_Ke_add.2.1 23 = .ok (.dup, 1) := by decide +kernel
theorem d_Ke_add_24 : decode m_Ke_add.2.1 24 = .ok (.getfield 15, 3) := by decide +kernel
theorem d_Ke_add_27 : decode m_Ke_add.2.1 27 = .ok (.iconst 1, 1) := by decide +kernel
theorem d_Ke_add_28 : decode m_Ke_add.2.1 28 = .ok (.iadd, 1) := by decide +kernel
theorem d_Ke_add_29 : decode m_Ke_add.2.1 29 = .ok (.putfield 15, 3) := by decide +kernel
theorem d_Ke_add_32 : decode m_Ke_add.2.1 32 = .ok (.return_, 1) := by decide +kernel
theorem d_Ke_against_0 : decode m_Ke_against.2.1 0 = .ok (.aload_n 0, 1) := by decide +kernel
theorem d_Ke_against_1 : decode m_Ke_against.2.1 1 = .ok (.getfield 15, 3) := by decide +kernel
theorem d_Ke_against_4 : decode m_Ke_against.2.1 4 = .ok (.aload_n 1, 1) := by decide +kernel
theorem d_Ke_against_5 : decode m_Ke_against.2.1 5 = .ok (.getfield 15, 3) := by decide +kernel
theorem d_Ke_against_8 : decode m_Ke_against.2.1 8 = .ok (.invokestatic 19, 3) := by decide +kernel
theorem d_Ke_against_11 : decode m_Ke_against.2.1 11 = .ok (.istore_n 2, 1) := by decide +kernel
theorem d_Ke_against_12 : decode m_Ke_against.2.1 12 = .ok (.iconst 0, 1) := by decide +kernel
theorem d_Ke_against_13 : decode m_Ke_against.2.1 13 = .ok (.istore_n 3, 1) := by decide +kernel
theorem d_Ke_against_14 : decode m_Ke_against.2.1 14 = .ok (.iload_n 3, 1) := by decide +kernel
theorem d_Ke_against_15 : decode m_Ke_against.2.1 15 = .ok (.iload_n 2, 1) := by decide +kernel
theorem d_Ke_against_16 : decode m_Ke_against.2.1 16 = .ok (.if_icmp .ge 45, 3) := by decide +kernel
theorem d_Ke_against_19 : decode m_Ke_against.2.1 19 = .ok (.aload_n 0, 1) := by decide +kernel
theorem d_Ke_against_20 : decode m_Ke_against.2.1 20 = .ok (.getfield 9, 3) := by decide +kernel
theorem d_Ke_against_23 : decode m_Ke_against.2.1 23 = .ok (.iload_n 3, 1) := by decide +kernel
theorem d_Ke_against_24 : decode m_Ke_against.2.1 24 = .ok (.iaload, 1) := by decide +kernel
theorem d_Ke_against_25 : decode m_Ke_against.2.1 25 = .ok (.aload_n 1, 1) := by decide +kernel
theorem d_Ke_against_26 : decode m_Ke_against.2.1 26 = .ok (.getfield 9, 3) := by decide +kernel
theorem d_Ke_against_29 : decode m_Ke_against.2.1 29 = .ok (.iload_n 3, 1) := by decide +kernel
theorem d_Ke_against_30 : decode m_Ke_against.2.1 30 = .ok (.iaload, 1) := by decide +kernel
theorem d_Ke_against_31 : decode m_Ke_against.2.1 31 = .ok (.if_icmp .eq 24, 3) := by decide +kernel
theorem d_Ke_against_34 : decode m_Ke_against.2.1 34 = .ok (.aload_n 0, 1) := by decide +kernel
theorem d_Ke_against_35 : decode m_Ke_against.2.1 35 = .ok (.getfield 9, 3) := by decide +kernel
theorem d_Ke_against_38 : decode m_Ke_against.2.1 38 = .ok (.iload_n 3, 1) := by decide +kernel
theorem d_Ke_against_39 : decode m_Ke_against.2.1 39 = .ok (.iaload, 1) := by decide +kernel
theorem d_Ke_against_40 : decode m_Ke_against.2.1 40 = .ok (.aload_n 1, 1) := by decide +kernel
theorem d_Ke_against_41 : decode m_Ke_against.2.1 41 = .ok (.getfield 9, 3) := by decide +kernel
theorem d_Ke_against_44 : decode m_Ke_against.2.1 44 = .ok (.iload_n 3, 1) := by decide +kernel
theorem d_Ke_against_45 : decode m_Ke_against.2.1 45 = .ok (.iaload, 1) := by decide +kernel
theorem d_Ke_against_46 : decode m_Ke_against.2.1 46 = .ok (.if_icmp .ge 7, 3) := by decide +kernel
theorem d_Ke_against_49 : decode m_Ke_against.2.1 49 = .ok (.iconst (-1), 1) := by decide +kernel
theorem d_Ke_against_50 : decode m_Ke_against.2.1 50 = .ok (.goto 4, 3) := by decide +kernel
theorem d_Ke_against_53 : decode m_Ke_against.2.1 53 = .ok (.iconst 1, 1) := by decide +kernel
theorem d_Ke_against_54 : decode m_Ke_against.2.1 54 = .ok (.ireturn, 1) := by decide +kernel
theorem d_Ke_against_55 : decode m_Ke_against.2.1 55 = .ok (.iinc 3 1, 3) := by decide +kernel
theorem d_Ke_against_58 : decode m_Ke_against.2.1 58 = .ok (.goto (-44), 3) := by decide +kernel
theorem d_Ke_against_61 : decode m_Ke_against.2.1 61 = .ok (.iconst 0, 1) := by decide +kernel
theorem d_Ke_against_62 : decode m_Ke_against.2.1 62 = .ok (.ireturn, 1) := by decide +kernel
theorem d_Fo_init_0 : decode m_Fo_init.2.1 0 = .ok (.aload_n 0, 1) := by decide +kernel
theorem d_Fo_init_1 : decode m_Fo_init.2.1 1 = .ok (.invokespecial 3, 3) := by decide +kernel
theorem d_Fo_init_4 : decode m_Fo_init.2.1 4 = .ok (.aload_n 0, 1) := by decide +kernel
theorem d_Fo_init_5 : decode m_Fo_init.2.1 5 = .ok (.bipush 10, 2) := by decide +kernel
theorem d_Fo_init_7 : decode m_Fo_init.2.1 7 = .ok (.anewarray 9, 3) := by decide +kernel
theorem d_Fo_init_10 : decode m_Fo_init.2.1 10 = .ok (.putfield 11, 3) := by decide +kernel
theorem d_Fo_init_13 : decode m_Fo_init.2.1 13 = .ok (.aload_n 0, 1) := by decide +kernel
theorem d_Fo_init_14 : decode m_Fo_init.2.1 14 = .ok (.bipush 10, 2) := by decide +kernel
theorem d_Fo_init_16 : decode m_Fo_init.2.1 16 = .ok (.newarray .int, 2) := by decide +kernel
theorem d_Fo_init_18 : decode m_Fo_init.2.1 18 = .ok (.putfield 17, 3) := by decide +kernel
theorem d_Fo_init_21 : decode m_Fo_init.2.1 21 = .ok (.aload_n 0, 1) := by decide +kernel
theorem d_Fo_init_22 : decode m_Fo_init.2.1 22 = .ok (.bipush 10, 2) := by decide +kernel
theorem d_Fo_init_24 : decode m_Fo_init.2.1 24 = .ok (.anewarray 21, 3) := by decide +kernel
theorem d_Fo_init_27 : decode m_Fo_init.2.1 27 = .ok (.putfield 23, 3) := by decide +kernel
theorem d_Fo_init_30 : decode m_Fo_init.2.1 30 = .ok (.iconst 0, 1) := by decide +kernel
theorem d_Fo_init_31 : decode m_Fo_init.2.1 31 = .ok (.istore_n 1, 1) := by decide +kernel
theorem d_Fo_init_32 : decode m_Fo_init.2.1 32 = .ok (.iload_n 1, 1) := by decide +kernel
theorem d_Fo_init_33 : decode m_Fo_init.2.1 33 = .ok (.bipush 10, 2) := by decide +kernel
theorem d_Fo_init_35 : decode m_Fo_init.2.1 35 = .ok (.if_icmp .ge 37, 3) := by decide +kernel
theorem d_Fo_init_38 : decode m_Fo_init.2.1 38 = .ok (.aload_n 0, 1) := by decide +kernel
theorem d_Fo_init_39 : decode m_Fo_init.2.1 39 = .ok (.getfield 11, 3) := by decide +kernel
theorem d_Fo_init_42 : decode m_Fo_init.2.1 42 = .ok (.iload_n 1, 1) := by decide +kernel
theorem d_Fo_init_43 : decode m_Fo_init.2.1 43 = .ok (.new 9, 3) := by decide +kernel
theorem d_Fo_init_46 : decode m_Fo_init.2.1 46 = .ok (.dup, 1) := by decide +kernel
theorem d_Fo_init_47 : decode m_Fo_init.2.1 47 = .ok (.bipush 12, 2) := by decide +kernel
theorem d_Fo_init_49 : decode m_Fo_init.2.1 49 = .ok (.invokespecial 27, 3) := by decide +kernel
theorem d_Fo_init_52 : decode m_Fo_init.2.1 52 = .ok (.aastore, 1) := by decide +kernel
theorem d_Fo_init_53 : decode m_Fo_init.2.1 53 = .ok (.aload_n 0, 1) := by decide +kernel
theorem d_Fo_init_54 : decode m_Fo_init.2.1 54 = .ok (.getfield 23, 3) := by decide +kernel
theorem d_Fo_init_57 : decode m_Fo_init.2.1 57 = .ok (.iload_n 1, 1) := by decide +kernel
theorem d_Fo_init_58 : decode m_Fo_init.2.1 58 = .ok (.new 21, 3) := by decide +kernel
theorem d_Fo_init_61 : decode m_Fo_init.2.1 61 = .ok (.dup, 1) := by decide +kernel
theorem d_Fo_init_62 : decode m_Fo_init.2.1 62 = .ok (.invokespecial 30, 3) := by decide +kernel
theorem d_Fo_init_65 : decode m_Fo_init.2.1 65 = .ok (.aastore, 1) := by decide +kernel
theorem d_Fo_init_66 : decode m_Fo_init.2.1 66 = .ok (.iinc 1 1, 3) := by decide +kernel
theorem d_Fo_init_69 : decode m_Fo_init.2.1 69 = .ok (.goto (-37), 3) := by decide +kernel
theorem d_Fo_init_72 : decode m_Fo_init.2.1 72 = .ok (.aload_n 0, 1) := by decide +kernel
theorem d_Fo_init_73 : decode m_Fo_init.2.1 73 = .ok (.iconst 0, 1) := by decide +kernel
theorem d_Fo_init_74 : decode m_Fo_init.2.1 74 = .ok (.putfield 31, 3) := by decide +kernel
theorem d_Fo_init_77 : decode m_Fo_init.2.1 77 = .ok (.aload_n 0, 1) := by decide +kernel
theorem d_Fo_init_78 : decode m_Fo_init.2.1 78 = .ok (.iconst 0, 1) := by decide +kernel
theorem d_Fo_init_79 : decode m_Fo_init.2.1 79 = .ok (.putfield 35, 3) := by decide +kernel
theorem d_Fo_init_82 : decode m_Fo_init.2.1 82 = .ok (.return_, 1) := by decide +kernel
theorem d_Fo_add_0 : decode m_Fo_add.2.1 0 = .ok (.aload_n 0, 1) := by decide +kernel
theorem d_Fo_add_1 : decode m_Fo_add.2.1 1 = .ok (.getfield 31, 3) := by decide +kernel
theorem d_Fo_add_4 : decode m_Fo_add.2.1 4 = .ok (.bipush 10, 2) := by decide +kernel
theorem d_Fo_add_6 : decode m_Fo_add.2.1 6 = .ok (.if_icmp .lt 5, 3) := by decide +kernel
theorem d_Fo_add_9 : decode m_Fo_add.2.1 9 = .ok (.iconst (-1), 1) := by decide +kernel
theorem d_Fo_add_10 : decode m_Fo_add.2.1 10 = .ok (.ireturn, 1) := by decide +kernel
theorem d_Fo_add_11 : decode m_Fo_add.2.1 11 = .ok (.aload_n 0, 1) := by decide +kernel
theorem d_Fo_add_12 : decode m_Fo_add.2.1 12 = .ok (.getfield 35, 3) := by decide +kernel
theorem d_Fo_add_15 : decode m_Fo_add.2.1 15 = .ok (.istore_n 2, 1) := by decide +kernel
theorem d_Fo_add_16 : decode m_Fo_add.2.1 16 = .ok (.aload_n 0, 1) := by decide +kernel
theorem d_Fo_add_17 : decode m_Fo_add.2.1 17 = .ok (.dup, 1) := by decide +kernel
theorem d_Fo_add_18 : decode m_Fo_add.2.1 18 = .ok (.getfield 35, 3) := by decide +kernel
theorem d_Fo_add_21 : decode m_Fo_add.2.1 21 = .ok (.iconst 1, 1) := by decide +kernel
theorem d_Fo_add_22 : decode m_Fo_add.2.1 22 = .ok (.iadd, 1) := by decide +kernel
theorem d_Fo_add_23 : decode m_Fo_add.2.1 23 = .ok (.putfield 35, 3) := by decide +kernel
theorem d_Fo_add_26 : decode m_Fo_add.2.1 26 = .ok (.aload_n 0, 1) := by decide +kernel
theorem d_Fo_add_27 : decode m_Fo_add.2.1 27 = .ok (.getfield 11, 3) := by decide +kernel
theorem d_Fo_add_30 : decode m_Fo_add.2.1 30 = .ok (.aload_n 0, 1) := by decide +kernel
theorem d_Fo_add_31 : decode m_Fo_add.2.1 31 = .ok (.getfield 31, 3) := by decide +kernel
theorem d_Fo_add_34 : decode m_Fo_add.2.1 34 = .ok (.aaload, 1) := by decide +kernel
theorem d_Fo_add_35 : decode m_Fo_add.2.1 35 = .ok (.aload_n 1, 1) := by decide +kernel
theorem d_Fo_add_36 : decode m_Fo_add.2.1 36 = .ok (.invokevirtual 38, 3) := by decide +kernel
theorem d_Fo_add_39 : decode m_Fo_add.2.1 39 = .ok (.aload_n 0, 1) := by decide +kernel
theorem d_Fo_add_40 : decode m_Fo_add.2.1 40 = .ok (.getfield 17, 3) := by decide +kernel
theorem d_Fo_add_43 : decode m_Fo_add.2.1 43 = .ok (.aload_n 0, 1) := by decide +kernel
theorem d_Fo_add_44 : decode m_Fo_add.2.1 44 = .ok (.getfield 31, 3) := by decide +kernel
theorem d_Fo_add_47 : decode m_Fo_add.2.1 47 = .ok (.iload_n 2, 1) := by decide +kernel
theorem d_Fo_add_48 : decode m_Fo_add.2.1 48 = .ok (.iastore, 1) := by decide +kernel
theorem d_Fo_add_49 : decode m_Fo_add.2.1 49 = .ok (.aload_n 0, 1) := by decide +kernel
theorem d_Fo_add_50 : decode m_Fo_add.2.1 50 = .ok (.dup, 1) := by decide +kernel
theorem d_Fo_add_51 : decode m_Fo_add.2.1 51 = .ok (.getfield 31, 3) := by decide +kernel
theorem d_Fo_add_54 : decode m_Fo_add.2.1 54 = .ok (.iconst 1, 1) := by decide +kernel
theorem d_Fo_add_55 : decode m_Fo_add.2.1 55 = .ok (.iadd, 1) := by decide +kernel
theorem d_Fo_add_56 : decode m_Fo_add.2.1 56 = .ok (.putfield 31, 3) := by decide +kernel
theorem d_Fo_add_59 : decode m_Fo_add.2.1 59 = .ok (.iload_n 2, 1) := by decide +kernel
theorem d_Fo_add_60 : decode m_Fo_add.2.1 60 = .ok (.ireturn, 1) := by decide +kernel
theorem d_Fo_remove_0 : decode m_Fo_remove.2.1 0 = .ok (.iconst 0, 1) := by decide +kernel
theorem d_Fo_remove_1 : decode m_Fo_remove.2.1 1 = .ok (.istore_n 2, 1) := by decide +kernel
theorem d_Fo_remove_2 : decode m_Fo_remove.2.1 2 = .ok (.iload_n 2, 1) := by decide +kernel
theorem d_Fo_remove_3 : decode m_Fo_remove.2.1 3 = .ok (.aload_n 0, 1) := by decide +kernel
theorem d_Fo_remove_4 : decode m_Fo_remove.2.1 4 = .ok (.getfield 31, 3) := by decide +kernel
theorem d_Fo_remove_7 : decode m_Fo_remove.2.1 7 = .ok (.if_icmp .ge 26, 3) := by decide +kernel
theorem d_Fo_remove_10 : decode m_Fo_remove.2.1 10 = .ok (.aload_n 0, 1) := by decide +kernel
theorem d_Fo_remove_11 : decode m_Fo_remove.2.1 11 = .ok (.getfield 17, 3) := by decide +kernel
theorem d_Fo_remove_14 : decode m_Fo_remove.2.1 14 = .ok (.iload_n 2, 1) := by decide +kernel
theorem d_Fo_remove_15 : decode m_Fo_remove.2.1 15 = .ok (.iaload, 1) := by decide +kernel
theorem d_Fo_remove_16 : decode m_Fo_remove.2.1 16 = .ok (.iload_n 1, 1) := by decide +kernel
theorem d_Fo_remove_17 : decode m_Fo_remove.2.1 17 = .ok (.if_icmp .ne 10, 3) := by decide +kernel
theorem d_Fo_remove_20 : decode m_Fo_remove.2.1 20 = .ok (.aload_n 0, 1) := by decide +kernel
theorem d_Fo_remove_21 : decode m_Fo_remove.2.1 21 = .ok (.iload_n 2, 1) := by decide +kernel
theorem d_Fo_remove_22 : decode m_Fo_remove.2.1 22 = .ok (.invokevirtual 42, 3) := by decide +kernel
theorem d_Fo_remove_25 : decode m_Fo_remove.2.1 25 = .ok (.iconst 1, 1) := by decide +kernel
theorem d_Fo_remove_26 : decode m_Fo_remove.2.1 26 = .ok (.ireturn, 1) := by decide +kernel
theorem d_Fo_remove_27 : decode m_Fo_remove.2.1 27 = .ok (.iinc 2 1, 3) := by decide +kernel
theorem d_Fo_remove_30 : decode m_Fo_remove.2.1 30 = .ok (.goto (-28), 3) := by decide +kernel
theorem d_Fo_remove_33 : decode m_Fo_remove.2.1 33 = .ok (.iconst 0, 1) := by decide +kernel
theorem d_Fo_remove_34 : decode m_Fo_remove.2.1 34 = .ok (.ireturn, 1) := by decide +kernel
theorem d_Fo_closeUp_0 : decode m_Fo_closeUp.2.1 0 = .ok (.iload_n 1, 1) := by decide +kernel
theorem d_Fo_closeUp_1 : decode m_Fo_closeUp.2.1 1 = .ok (.iconst 1, 1) := by decide +kernel
theorem d_Fo_closeUp_2 : decode m_Fo_closeUp.2.1 2 = .ok (.iadd, 1) := by decide +kernel
theorem d_Fo_closeUp_3 : decode m_Fo_closeUp.2.1 3 = .ok (.istore_n 2, 1) := by decide +kernel
theorem d_Fo_closeUp_4 : decode m_Fo_closeUp.2.1 4 = .ok (.iload_n 2, 1) := by decide +kernel
theorem d_Fo_closeUp_5 : decode m_Fo_closeUp.2.1 5 = .ok (.aload_n 0, 1) := by decide +kernel
theorem d_Fo_closeUp_6 : decode m_Fo_closeUp.2.1 6 = .ok (.getfield 31, 3) := by decide +kernel
theorem d_Fo_closeUp_9 : decode m_Fo_closeUp.2.1 9 = .ok (.if_icmp .ge 40, 3) := by decide +kernel
theorem d_Fo_closeUp_12 : decode m_Fo_closeUp.2.1 12 = .ok (.aload_n 0, 1) := by decide +kernel
theorem d_Fo_closeUp_13 : decode m_Fo_closeUp.2.1 13 = .ok (.getfield 17, 3) := by decide +kernel
theorem d_Fo_closeUp_16 : decode m_Fo_closeUp.2.1 16 = .ok (.iload_n 2, 1) := by decide +kernel
theorem d_Fo_closeUp_17 : decode m_Fo_closeUp.2.1 17 = .ok (.iconst 1, 1) := by decide +kernel
theorem d_Fo_closeUp_18 : decode m_Fo_closeUp.2.1 18 = .ok (.isub, 1) := by decide +kernel
theorem d_Fo_closeUp_19 : decode m_Fo_closeUp.2.1 19 = .ok (.aload_n 0, 1) := by decide +kernel
theorem d_Fo_closeUp_20 : decode m_Fo_closeUp.2.1 20 = .ok (.getfield 17, 3) := by decide +kernel
theorem d_Fo_closeUp_23 : decode m_Fo_closeUp.2.1 23 = .ok (.iload_n 2, 1) := by decide +kernel
theorem d_Fo_closeUp_24 : decode m_Fo_closeUp.2.1 24 = .ok (.iaload, 1) := by decide +kernel
theorem d_Fo_closeUp_25 : decode m_Fo_closeUp.2.1 25 = .ok (.iastore, 1) := by decide +kernel
theorem d_Fo_closeUp_26 : decode m_Fo_closeUp.2.1 26 = .ok (.aload_n 0, 1) := by decide +kernel
theorem d_Fo_closeUp_27 : decode m_Fo_closeUp.2.1 27 = .ok (.getfield 11, 3) := by decide +kernel
theorem d_Fo_closeUp_30 : decode m_Fo_closeUp.2.1 30 = .ok (.iload_n 2, 1) := by decide +kernel
theorem d_Fo_closeUp_31 : decode m_Fo_closeUp.2.1 31 = .ok (.iconst 1, 1) := by decide +kernel
theorem d_Fo_closeUp_32 : decode m_Fo_closeUp.2.1 32 = .ok (.isub, 1) := by decide +kernel
theorem d_Fo_closeUp_33 : decode m_Fo_closeUp.2.1 33 = .ok (.aaload, 1) := by decide +kernel
theorem d_Fo_closeUp_34 : decode m_Fo_closeUp.2.1 34 = .ok (.aload_n 0, 1) := by decide +kernel
theorem d_Fo_closeUp_35 : decode m_Fo_closeUp.2.1 35 = .ok (.getfield 11, 3) := by decide +kernel
theorem d_Fo_closeUp_38 : decode m_Fo_closeUp.2.1 38 = .ok (.iload_n 2, 1) := by decide +kernel
theorem d_Fo_closeUp_39 : decode m_Fo_closeUp.2.1 39 = .ok (.aaload, 1) := by decide +kernel
theorem d_Fo_closeUp_40 : decode m_Fo_closeUp.2.1 40 = .ok (.invokevirtual 38, 3) := by decide +kernel
theorem d_Fo_closeUp_43 : decode m_Fo_closeUp.2.1 43 = .ok (.iinc 2 1, 3) := by decide +kernel
theorem d_Fo_closeUp_46 : decode m_Fo_closeUp.2.1 46 = .ok (.goto (-42), 3) := by decide +kernel
theorem d_Fo_closeUp_49 : decode m_Fo_closeUp.2.1 49 = .ok (.aload_n 0, 1) := by decide +kernel
theorem d_Fo_closeUp_50 : decode m_Fo_closeUp.2.1 50 = .ok (.dup, 1) := by decide +kernel
theorem d_Fo_closeUp_51 : decode m_Fo_closeUp.2.1 51 = .ok (.getfield 31, 3) := by decide +kernel
theorem d_Fo_closeUp_54 : decode m_Fo_closeUp.2.1 54 = .ok (.iconst 1, 1) := by decide +kernel
theorem d_Fo_closeUp_55 : decode m_Fo_closeUp.2.1 55 = .ok (.isub, 1) := by decide +kernel
theorem d_Fo_closeUp_56 : decode m_Fo_closeUp.2.1 56 = .ok (.putfield 31, 3) := by decide +kernel
theorem d_Fo_closeUp_59 : decode m_Fo_closeUp.2.1 59 = .ok (.return_, 1) := by decide +kernel
theorem d_Fo_numberAt_0 : decode m_Fo_numberAt.2.1 0 = .ok (.iconst 0, 1) := by decide +kernel
theorem d_Fo_numberAt_1 : decode m_Fo_numberAt.2.1 1 = .ok (.istore_n 2, 1) := by decide +kernel
theorem d_Fo_numberAt_2 : decode m_Fo_numberAt.2.1 2 = .ok (.iload_n 2, 1) := by decide +kernel
theorem d_Fo_numberAt_3 : decode m_Fo_numberAt.2.1 3 = .ok (.aload_n 0, 1) := by decide +kernel
theorem d_Fo_numberAt_4 : decode m_Fo_numberAt.2.1 4 = .ok (.getfield 31, 3) := by decide +kernel
theorem d_Fo_numberAt_7 : decode m_Fo_numberAt.2.1 7 = .ok (.if_icmp .ge 25, 3) := by decide +kernel
theorem d_Fo_numberAt_10 : decode m_Fo_numberAt.2.1 10 = .ok (.aload_n 0, 1) := by decide +kernel
theorem d_Fo_numberAt_11 : decode m_Fo_numberAt.2.1 11 = .ok (.iload_n 2, 1) := by decide +kernel
theorem d_Fo_numberAt_12 : decode m_Fo_numberAt.2.1 12 = .ok (.invokevirtual 45, 3) := by decide +kernel
theorem d_Fo_numberAt_15 : decode m_Fo_numberAt.2.1 15 = .ok (.iload_n 1, 1) := by decide +kernel
theorem d_Fo_numberAt_16 : decode m_Fo_numberAt.2.1 16 = .ok (.if_icmp .ne 10, 3) := by decide +kernel
theorem d_Fo_numberAt_19 : decode m_Fo_numberAt.2.1 19 = .ok (.aload_n 0, 1) := by decide +kernel
theorem d_Fo_numberAt_20 : decode m_Fo_numberAt.2.1 20 = .ok (.getfield 17, 3) := by decide +kernel
theorem d_Fo_numberAt_23 : decode m_Fo_numberAt.2.1 23 = .ok (.iload_n 2, 1) := by decide +kernel
theorem d_Fo_numberAt_24 : decode m_Fo_numberAt.2.1 24 = .ok (.iaload, 1) := by decide +kernel
theorem d_Fo_numberAt_25 : decode m_Fo_numberAt.2.1 25 = .ok (.ireturn, 1) := by decide +kernel
theorem d_Fo_numberAt_26 : decode m_Fo_numberAt.2.1 26 = .ok (.iinc 2 1, 3) := by decide +kernel
theorem d_Fo_numberAt_29 : decode m_Fo_numberAt.2.1 29 = .ok (.goto (-27), 3) := by decide +kernel
theorem d_Fo_numberAt_32 : decode m_Fo_numberAt.2.1 32 = .ok (.iconst (-1), 1) := by decide +kernel
theorem d_Fo_numberAt_33 : decode m_Fo_numberAt.2.1 33 = .ok (.ireturn, 1) := by decide +kernel
theorem d_Fo_placeOf_0 : decode m_Fo_placeOf.2.1 0 = .ok (.aload_n 0, 1) := by decide +kernel
theorem d_Fo_placeOf_1 : decode m_Fo_placeOf.2.1 1 = .ok (.aload_n 0, 1) := by decide +kernel
theorem d_Fo_placeOf_2 : decode m_Fo_placeOf.2.1 2 = .ok (.getfield 23, 3) := by decide +kernel
theorem d_Fo_placeOf_5 : decode m_Fo_placeOf.2.1 5 = .ok (.iload_n 1, 1) := by decide +kernel
theorem d_Fo_placeOf_6 : decode m_Fo_placeOf.2.1 6 = .ok (.aaload, 1) := by decide +kernel
theorem d_Fo_placeOf_7 : decode m_Fo_placeOf.2.1 7 = .ok (.invokevirtual 49, 3) := by decide +kernel
theorem d_Fo_placeOf_10 : decode m_Fo_placeOf.2.1 10 = .ok (.istore_n 2, 1) := by decide +kernel
theorem d_Fo_placeOf_11 : decode m_Fo_placeOf.2.1 11 = .ok (.iconst 0, 1) := by decide +kernel
theorem d_Fo_placeOf_12 : decode m_Fo_placeOf.2.1 12 = .ok (.istore_n 3, 1) := by decide +kernel
theorem d_Fo_placeOf_13 : decode m_Fo_placeOf.2.1 13 = .ok (.iload_n 3, 1) := by decide +kernel
theorem d_Fo_placeOf_14 : decode m_Fo_placeOf.2.1 14 = .ok (.iload_n 1, 1) := by decide +kernel
theorem d_Fo_placeOf_15 : decode m_Fo_placeOf.2.1 15 = .ok (.if_icmp .ge 30, 3) := by decide +kernel
theorem d_Fo_placeOf_18 : decode m_Fo_placeOf.2.1 18 = .ok (.aload_n 0, 1) := by decide +kernel
theorem d_Fo_placeOf_19 : decode m_Fo_placeOf.2.1 19 = .ok (.getfield 23, 3) := by decide +kernel
theorem d_Fo_placeOf_22 : decode m_Fo_placeOf.2.1 22 = .ok (.iload_n 3, 1) := by decide +kernel
theorem d_Fo_placeOf_23 : decode m_Fo_placeOf.2.1 23 = .ok (.aaload, 1) := by decide +kernel
theorem d_Fo_placeOf_24 : decode m_Fo_placeOf.2.1 24 = .ok (.aload_n 0, 1) := by decide +kernel
theorem d_Fo_placeOf_25 : decode m_Fo_placeOf.2.1 25 = .ok (.getfield 23, 3) := by decide +kernel
theorem d_Fo_placeOf_28 : decode m_Fo_placeOf.2.1 28 = .ok (.iload_n 1, 1) := by decide +kernel
theorem d_Fo_placeOf_29 : decode m_Fo_placeOf.2.1 29 = .ok (.aaload, 1) := by decide +kernel
theorem d_Fo_placeOf_30 : decode m_Fo_placeOf.2.1 30 = .ok (.invokevirtual 53, 3) := by decide +kernel
theorem d_Fo_placeOf_33 : decode m_Fo_placeOf.2.1 33 = .ok (.ifCond .ne 6, 3) := by decide +kernel
theorem d_Fo_placeOf_36 : decode m_Fo_placeOf.2.1 36 = .ok (.iinc 2 1, 3) := by decide +kernel
theorem d_Fo_placeOf_39 : decode m_Fo_placeOf.2.1 39 = .ok (.iinc 3 1, 3) := by decide +kernel
theorem d_Fo_placeOf_42 : decode m_Fo_placeOf.2.1 42 = .ok (.goto (-29), 3) := by decide +kernel
theorem d_Fo_placeOf_45 : decode m_Fo_placeOf.2.1 45 = .ok (.iload_n 2, 1) := by decide +kernel
theorem d_Fo_placeOf_46 : decode m_Fo_placeOf.2.1 46 = .ok (.ireturn, 1) := by decide +kernel
theorem d_Fo_countLess_0 : decode m_Fo_countLess.2.1 0 = .ok (.iconst 0, 1) := by decide +kernel
theorem d_Fo_countLess_1 : decode m_Fo_countLess.2.1 1 = .ok (.istore_n 2, 1) := by decide +kernel
theorem d_Fo_countLess_2 : decode m_Fo_countLess.2.1 2 = .ok (.iconst 0, 1) := by decide +kernel
theorem d_Fo_countLess_3 : decode m_Fo_countLess.2.1 3 = .ok (.istore_n 3, 1) := by decide +kernel
theorem d_Fo_countLess_4 : decode m_Fo_countLess.2.1 4 = .ok (.iload_n 3, 1) := by decide +kernel
theorem d_Fo_countLess_5 : decode m_Fo_countLess.2.1 5 = .ok (.aload_n 0, 1) := by decide +kernel
theorem d_Fo_countLess_6 : decode m_Fo_countLess.2.1 6 = .ok (.getfield 31, 3) := by decide +kernel
theorem d_Fo_countLess_9 : decode m_Fo_countLess.2.1 9 = .ok (.if_icmp .ge 25, 3) := by decide +kernel
theorem d_Fo_countLess_12 : decode m_Fo_countLess.2.1 12 = .ok (.aload_n 0, 1) := by decide +kernel
theorem d_Fo_countLess_13 : decode m_Fo_countLess.2.1 13 = .ok (.getfield 23, 3) := by decide +kernel
theorem d_Fo_countLess_16 : decode m_Fo_countLess.2.1 16 = .ok (.iload_n 3, 1) := by decide +kernel
theorem d_Fo_countLess_17 : decode m_Fo_countLess.2.1 17 = .ok (.aaload, 1) := by decide +kernel
theorem d_Fo_countLess_18 : decode m_Fo_countLess.2.1 18 = .ok (.aload_n 1, 1) := by decide +kernel
theorem d_Fo_countLess_19 : decode m_Fo_countLess.2.1 19 = .ok (.invokevirtual 53, 3) := by decide +kernel
theorem d_Fo_countLess_22 : decode m_Fo_countLess.2.1 22 = .ok (.ifCond .ge 6, 3) := by decide +kernel
theorem d_Fo_countLess_25 : decode m_Fo_countLess.2.1 25 = .ok (.iinc 2 1, 3) := by decide +kernel
theorem d_Fo_countLess_28 : decode m_Fo_countLess.2.1 28 = .ok (.iinc 3 1, 3) := by decide +kernel
theorem d_Fo_countLess_31 : decode m_Fo_countLess.2.1 31 = .ok (.goto (-27), 3) := by decide +kernel
theorem d_Fo_countLess_34 : decode m_Fo_countLess.2.1 34 = .ok (.iload_n 2, 1) := by decide +kernel
theorem d_Fo_countLess_35 : decode m_Fo_countLess.2.1 35 = .ok (.ireturn, 1) := by decide +kernel
theorem d_Ru_init_0 : decode m_Ru_init.2.1 0 = .ok (.aload_n 0, 1) := by decide +kernel
theorem d_Ru_init_1 : decode m_Ru_init.2.1 1 = .ok (.invokespecial 3, 3) := by decide +kernel
theorem d_Ru_init_4 : decode m_Ru_init.2.1 4 = .ok (.aload_n 0, 1) := by decide +kernel
theorem d_Ru_init_5 : decode m_Ru_init.2.1 5 = .ok (.bipush 24, 2) := by decide +kernel
theorem d_Ru_init_7 : decode m_Ru_init.2.1 7 = .ok (.newarray .int, 2) := by decide +kernel
theorem d_Ru_init_9 : decode m_Ru_init.2.1 9 = .ok (.putfield 9, 3) := by decide +kernel
theorem d_Ru_init_12 : decode m_Ru_init.2.1 12 = .ok (.aload_n 0, 1) := by decide +kernel
theorem d_Ru_init_13 : decode m_Ru_init.2.1 13 = .ok (.bipush 24, 2) := by decide +kernel
theorem d_Ru_init_15 : decode m_Ru_init.2.1 15 = .ok (.newarray .int, 2) := by decide +kernel
theorem d_Ru_init_17 : decode m_Ru_init.2.1 17 = .ok (.putfield 15, 3) := by decide +kernel
theorem d_Ru_init_20 : decode m_Ru_init.2.1 20 = .ok (.return_, 1) := by decide +kernel
theorem d_Ru_read_0 : decode m_Ru_read.2.1 0 = .ok (.aload_n 0, 1) := by decide +kernel
theorem d_Ru_read_1 : decode m_Ru_read.2.1 1 = .ok (.iconst 0, 1) := by decide +kernel
theorem d_Ru_read_2 : decode m_Ru_read.2.1 2 = .ok (.putfield 18, 3) := by decide +kernel
theorem d_Ru_read_5 : decode m_Ru_read.2.1 5 = .ok (.aload_n 0, 1) := by decide +kernel
theorem d_Ru_read_6 : decode m_Ru_read.2.1 6 = .ok (.iconst 0, 1) := by decide +kernel
theorem d_Ru_read_7 : decode m_Ru_read.2.1 7 = .ok (.putfield 22, 3) := by decide +kernel
theorem d_Ru_read_10 : decode m_Ru_read.2.1 10 = .ok (.aload_n 0, 1) := by decide +kernel
theorem d_Ru_read_11 : decode m_Ru_read.2.1 11 = .ok (.iconst 0, 1) := by decide +kernel
theorem d_Ru_read_12 : decode m_Ru_read.2.1 12 = .ok (.putfield 25, 3) := by decide +kernel
theorem d_Ru_read_15 : decode m_Ru_read.2.1 15 = .ok (.iconst 0, 1) := by decide +kernel
theorem d_Ru_read_16 : decode m_Ru_read.2.1 16 = .ok (.istore_n 2, 1) := by decide +kernel
theorem d_Ru_read_17 : decode m_Ru_read.2.1 17 = .ok (.iload_n 2, 1) := by decide +kernel
theorem d_Ru_read_18 : decode m_Ru_read.2.1 18 = .ok (.aload_n 1, 1) := by decide +kernel
theorem d_Ru_read_19 : decode m_Ru_read.2.1 19 = .ok (.getfield 28, 3) := by decide +kernel
theorem d_Ru_read_22 : decode m_Ru_read.2.1 22 = .ok (.if_icmp .ge 26, 3) := by decide +kernel
theorem d_Ru_read_25 : decode m_Ru_read.2.1 25 = .ok (.aload_n 0, 1) := by decide +kernel
theorem d_Ru_read_26 : decode m_Ru_read.2.1 26 = .ok (.aload_n 1, 1) := by decide +kernel
theorem d_Ru_read_27 : decode m_Ru_read.2.1 27 = .ok (.getfield 33, 3) := by decide +kernel
theorem d_Ru_read_30 : decode m_Ru_read.2.1 30 = .ok (.iload_n 2, 1) := by decide +kernel
theorem d_Ru_read_31 : decode m_Ru_read.2.1 31 = .ok (.caload, 1) := by decide +kernel
theorem d_Ru_read_32 : decode m_Ru_read.2.1 32 = .ok (.invokevirtual 37, 3) := by decide +kernel
theorem d_Ru_read_35 : decode m_Ru_read.2.1 35 = .ok (.ifCond .ne 7, 3) := by decide +kernel
theorem d_Ru_read_38 : decode m_Ru_read.2.1 38 = .ok (.iconst (-1), 1) := by decide +kernel
theorem d_Ru_read_39 : decode m_Ru_read.2.1 39 = .ok (.iload_n 2, 1) := by decide +kernel
theorem d_Ru_read_40 : decode m_Ru_read.2.1 40 = .ok (.isub, 1) := by decide +kernel
theorem d_Ru_read_41 : decode m_Ru_read.2.1 41 = .ok (.ireturn, 1) := by decide +kernel
theorem d_Ru_read_42 : decode m_Ru_read.2.1 42 = .ok (.iinc 2 1, 3) := by decide +kernel
theorem d_Ru_read_45 : decode m_Ru_read.2.1 45 = .ok (.goto (-28), 3) := by decide +kernel
theorem d_Ru_read_48 : decode m_Ru_read.2.1 48 = .ok (.aload_n 0, 1) := by decide +kernel
theorem d_Ru_read_49 : decode m_Ru_read.2.1 49 = .ok (.getfield 22, 3) := by decide +kernel
theorem d_Ru_read_52 : decode m_Ru_read.2.1 52 = .ok (.iconst 2, 1) := by decide +kernel
theorem d_Ru_read_53 : decode m_Ru_read.2.1 53 = .ok (.if_icmp .ne 18, 3) := by decide +kernel
theorem d_Ru_read_56 : decode m_Ru_read.2.1 56 = .ok (.aload_n 0, 1) := by decide +kernel
theorem d_Ru_read_57 : decode m_Ru_read.2.1 57 = .ok (.getfield 18, 3) := by decide +kernel
theorem d_Ru_read_60 : decode m_Ru_read.2.1 60 = .ok (.iconst 1, 1) := by decide +kernel
theorem d_Ru_read_61 : decode m_Ru_read.2.1 61 = .ok (.if_icmp .le 10, 3) := by decide +kernel
theorem d_Ru_read_64 : decode m_Ru_read.2.1 64 = .ok (.aload_n 0, 1) := by decide +kernel
theorem d_Ru_read_65 : decode m_Ru_read.2.1 65 = .ok (.getfield 18, 3) := by decide +kernel
theorem d_Ru_read_68 : decode m_Ru_read.2.1 68 = .ok (.goto 9, 3) := by decide +kernel
theorem d_Ru_read_71 : decode m_Ru_read.2.1 71 = .ok (.iconst (-1), 1) := by decide +kernel
theorem d_Ru_read_72 : decode m_Ru_read.2.1 72 = .ok (.aload_n 1, 1) := by decide +kernel
theorem d_Ru_read_73 : decode m_Ru_read.2.1 73 = .ok (.getfield 28, 3) := by decide +kernel
theorem d_Ru_read_76 : decode m_Ru_read.2.1 76 = .ok (.isub, 1) := by decide +kernel
theorem d_Ru_read_77 : decode m_Ru_read.2.1 77 = .ok (.ireturn, 1) := by decide +kernel
theorem d_Ru_takes_0 : decode m_Ru_takes.2.1 0 = .ok (.aload_n 0, 1) := by decide +kernel
theorem d_Ru_takes_1 : decode m_Ru_takes.2.1 1 = .ok (.getfield 22, 3) := by decide +kernel
theorem d_Ru_takes_4 : decode m_Ru_takes.2.1 4 = .ok (.lookupswitch 104 #[(0, 28), (1, 48)], 28) := by decide +kernel
theorem d_Ru_takes_32 : decode m_Ru_takes.2.1 32 = .ok (.iload_n 1, 1) := by decide +kernel
theorem d_Ru_takes_33 : decode m_Ru_takes.2.1 33 = .ok (.bipush 38, 2) := by decide +kernel
theorem d_Ru_takes_35 : decode m_Ru_takes.2.1 35 = .ok (.if_icmp .ne 15, 3) := by decide +kernel
theorem d_Ru_takes_38 : decode m_Ru_takes.2.1 38 = .ok (.aload_n 0, 1) := by decide +kernel
theorem d_Ru_takes_39 : decode m_Ru_takes.2.1 39 = .ok (.iconst 0, 1) := by decide +kernel
theorem d_Ru_takes_40 : decode m_Ru_takes.2.1 40 = .ok (.invokevirtual 41, 3) := by decide +kernel
theorem d_Ru_takes_43 : decode m_Ru_takes.2.1 43 = .ok (.ifCond .eq 7, 3) := by decide +kernel
theorem d_Ru_takes_46 : decode m_Ru_takes.2.1 46 = .ok (.iconst 1, 1) := by decide +kernel
theorem d_Ru_takes_47 : decode m_Ru_takes.2.1 47 = .ok (.goto 4, 3) := by decide +kernel
theorem d_Ru_takes_50 : decode m_Ru_takes.2.1 50 = .ok (.iconst 0, 1) := by decide +kernel
theorem d_Ru_takes_51 : decode m_Ru_takes.2.1 51 = .ok (.ireturn, 1) := by decide +kernel
theorem d_Ru_takes_52 : decode m_Ru_takes.2.1 52 = .ok (.iload_n 1, 1) := by decide +kernel
theorem d_Ru_takes_53 : decode m_Ru_takes.2.1 53 = .ok (.bipush 60, 2) := by decide +kernel
theorem d_Ru_takes_55 : decode m_Ru_takes.2.1 55 = .ok (.if_icmp .ne 32, 3) := by decide +kernel
theorem d_Ru_takes_58 : decode m_Ru_takes.2.1 58 = .ok (.aload_n 0, 1) := by decide +kernel
theorem d_Ru_takes_59 : decode m_Ru_takes.2.1 59 = .ok (.getfield 25, 3) := by decide +kernel
theorem d_Ru_takes_62 : decode m_Ru_takes.2.1 62 = .ok (.iconst 1, 1) := by decide +kernel
theorem d_Ru_takes_63 : decode m_Ru_takes.2.1 63 = .ok (.if_icmp .eq 11, 3) := by decide +kernel
theorem d_Ru_takes_66 : decode m_Ru_takes.2.1 66 = .ok (.aload_n 0, 1) := by decide +kernel
theorem d_Ru_takes_67 : decode m_Ru_takes.2.1 67 = .ok (.getfield 25, 3) := by decide +kernel
theorem d_Ru_takes_70 : decode m_Ru_takes.2.1 70 = .ok (.iconst 2, 1) := by decide +kernel
theorem d_Ru_takes_71 : decode m_Ru_takes.2.1 71 = .ok (.if_icmp .ne 16, 3) := by decide +kernel
theorem d_Ru_takes_74 : decode m_Ru_takes.2.1 74 = .ok (.aload_n 0, 1) := by decide +kernel
theorem d_Ru_takes_75 : decode m_Ru_takes.2.1 75 = .ok (.aload_n 0, 1) := by decide +kernel
theorem d_Ru_takes_76 : decode m_Ru_takes.2.1 76 = .ok (.getfield 25, 3) := by decide +kernel
theorem d_Ru_takes_79 : decode m_Ru_takes.2.1 79 = .ok (.iconst 1, 1) := by decide +kernel
theorem d_Ru_takes_80 : decode m_Ru_takes.2.1 80 = .ok (.iadd, 1) := by decide +kernel
theorem d_Ru_takes_81 : decode m_Ru_takes.2.1 81 = .ok (.invokevirtual 41, 3) := by decide +kernel
theorem d_Ru_takes_84 : decode m_Ru_takes.2.1 84 = .ok (.goto 23, 3) := by decide +kernel
theorem d_Ru_takes_87 : decode m_Ru_takes.2.1 87 = .ok (.iload_n 1, 1) := by decide +kernel
theorem d_Ru_takes_88 : decode m_Ru_takes.2.1 88 = .ok (.invokestatic 45, 3) := by decide +kernel
theorem d_Ru_takes_91 : decode m_Ru_takes.2.1 91 = .ok (.ifCond .eq 15, 3) := by decide +kernel
theorem d_Ru_takes_94 : decode m_Ru_takes.2.1 94 = .ok (.aload_n 0, 1) := by decide +kernel
theorem d_Ru_takes_95 : decode m_Ru_takes.2.1 95 = .ok (.iload_n 1, 1) := by decide +kernel
theorem d_Ru_takes_96 : decode m_Ru_takes.2.1 96 = .ok (.invokevirtual 48, 3) := by decide +kernel
theorem d_Ru_takes_99 : decode m_Ru_takes.2.1 99 = .ok (.ifCond .eq 7, 3) := by decide +kernel
theorem d_Ru_takes_102 : decode m_Ru_takes.2.1 102 = .ok (.iconst 1, 1) := by decide +kernel
theorem d_Ru_takes_103 : decode m_Ru_takes.2.1 103 = .ok (.goto 4, 3) := by decide +kernel
theorem d_Ru_takes_106 : decode m_Ru_takes.2.1 106 = .ok (.iconst 0, 1) := by decide +kernel
theorem d_Ru_takes_107 : decode m_Ru_takes.2.1 107 = .ok (.ireturn, 1) := by decide +kernel
theorem d_Ru_takes_108 : decode m_Ru_takes.2.1 108 = .ok (.iload_n 1, 1) := by decide +kernel
theorem d_Ru_takes_109 : decode m_Ru_takes.2.1 109 = .ok (.bipush 60, 2) := by decide +kernel
theorem d_Ru_takes_111 : decode m_Ru_takes.2.1 111 = .ok (.if_icmp .ne 11, 3) := by decide +kernel
theorem d_Ru_takes_114 : decode m_Ru_takes.2.1 114 = .ok (.aload_n 0, 1) := by decide +kernel
theorem d_Ru_takes_115 : decode m_Ru_takes.2.1 115 = .ok (.iconst 1, 1) := by decide +kernel
theorem d_Ru_takes_116 : decode m_Ru_takes.2.1 116 = .ok (.invokevirtual 41, 3) := by decide +kernel
theorem d_Ru_takes_119 : decode m_Ru_takes.2.1 119 = .ok (.goto 22, 3) := by decide +kernel
theorem d_Ru_takes_122 : decode m_Ru_takes.2.1 122 = .ok (.iload_n 1, 1) := by decide +kernel
theorem d_Ru_takes_123 : decode m_Ru_takes.2.1 123 = .ok (.bipush 61, 2) := by decide +kernel
theorem d_Ru_takes_125 : decode m_Ru_takes.2.1 125 = .ok (.if_icmp .ne 11, 3) := by decide +kernel
theorem d_Ru_takes_128 : decode m_Ru_takes.2.1 128 = .ok (.aload_n 0, 1) := by decide +kernel
theorem d_Ru_takes_129 : decode m_Ru_takes.2.1 129 = .ok (.iconst 4, 1) := by decide +kernel
theorem d_Ru_takes_130 : decode m_Ru_takes.2.1 130 = .ok (.invokevirtual 41, 3) := by decide +kernel
theorem d_Ru_takes_133 : decode m_Ru_takes.2.1 133 = .ok (.goto 8, 3) := by decide +kernel
theorem d_Ru_takes_136 : decode m_Ru_takes.2.1 136 = .ok (.aload_n 0, 1) := by decide +kernel
theorem d_Ru_takes_137 : decode m_Ru_takes.2.1 137 = .ok (.iload_n 1, 1) := by decide +kernel
theorem d_Ru_takes_138 : decode m_Ru_takes.2.1 138 = .ok (.invokevirtual 51, 3) := by decide +kernel
theorem d_Ru_takes_141 : decode m_Ru_takes.2.1 141 = .ok (.ireturn, 1) := by decide +kernel
theorem d_Ru_sign_0 : decode m_Ru_sign.2.1 0 = .ok (.aload_n 0, 1) := by decide +kernel
theorem d_Ru_sign_1 : decode m_Ru_sign.2.1 1 = .ok (.iconst 1, 1) := by decide +kernel
theorem d_Ru_sign_2 : decode m_Ru_sign.2.1 2 = .ok (.putfield 22, 3) := by decide +kernel
theorem d_Ru_sign_5 : decode m_Ru_sign.2.1 5 = .ok (.aload_n 0, 1) := by decide +kernel
theorem d_Ru_sign_6 : decode m_Ru_sign.2.1 6 = .ok (.iload_n 1, 1) := by decide +kernel
theorem d_Ru_sign_7 : decode m_Ru_sign.2.1 7 = .ok (.putfield 25, 3) := by decide +kernel
theorem d_Ru_sign_10 : decode m_Ru_sign.2.1 10 = .ok (.iconst 1, 1) := by decide +kernel
theorem d_Ru_sign_11 : decode m_Ru_sign.2.1 11 = .ok (.ireturn, 1) := by decide +kernel
theorem d_Ru_begin_0 : decode m_Ru_begin.2.1 0 = .ok (.aload_n 0, 1) := by decide +kernel
theorem d_Ru_begin_1 : decode m_Ru_begin.2.1 1 = .ok (.getfield 18, 3) := by decide +kernel
theorem d_Ru_begin_4 : decode m_Ru_begin.2.1 4 = .ok (.bipush 24, 2) := by decide +kernel
theorem d_Ru_begin_6 : decode m_Ru_begin.2.1 6 = .ok (.if_icmp .lt 5, 3) := by decide +kernel
theorem d_Ru_begin_9 : decode m_Ru_begin.2.1 9 = .ok (.iconst 0, 1) := by decide +kernel
theorem d_Ru_begin_10 : decode m_Ru_begin.2.1 10 = .ok (.ireturn, 1) := by decide +kernel
theorem d_Ru_begin_11 : decode m_Ru_begin.2.1 11 = .ok (.aload_n 0, 1) := by decide +kernel
theorem d_Ru_begin_12 : decode m_Ru_begin.2.1 12 = .ok (.getfield 9, 3) := by decide +kernel
theorem d_Ru_begin_15 : decode m_Ru_begin.2.1 15 = .ok (.aload_n 0, 1) := by decide +kernel
theorem d_Ru_begin_16 : decode m_Ru_begin.2.1 16 = .ok (.getfield 18, 3) := by decide +kernel
theorem d_Ru_begin_19 : decode m_Ru_begin.2.1 19 = .ok (.iload_n 1, 1) := by decide +kernel
theorem d_Ru_begin_20 : decode m_Ru_begin.2.1 20 = .ok (.iastore, 1) := by decide +kernel
theorem d_Ru_begin_21 : decode m_Ru_begin.2.1 21 = .ok (.aload_n 0, 1) := by decide +kernel
theorem d_Ru_begin_22 : decode m_Ru_begin.2.1 22 = .ok (.getfield 15, 3) := by decide +kernel
theorem d_Ru_begin_25 : decode m_Ru_begin.2.1 25 = .ok (.aload_n 0, 1) := by decide +kernel
theorem d_Ru_begin_26 : decode m_Ru_begin.2.1 26 = .ok (.getfield 18, 3) := by decide +kernel
theorem d_Ru_begin_29 : decode m_Ru_begin.2.1 29 = .ok (.aload_n 0, 1) := by decide +kernel
theorem d_Ru_begin_30 : decode m_Ru_begin.2.1 30 = .ok (.getfield 25, 3) := by decide +kernel
theorem d_Ru_begin_33 : decode m_Ru_begin.2.1 33 = .ok (.iastore, 1) := by decide +kernel
theorem d_Ru_begin_34 : decode m_Ru_begin.2.1 34 = .ok (.aload_n 0, 1) := by decide +kernel
theorem d_Ru_begin_35 : decode m_Ru_begin.2.1 35 = .ok (.dup, 1) := by decide +kernel
theorem d_Ru_begin_36 : decode m_Ru_begin.2.1 36 = .ok (.getfield 18, 3) := by decide +kernel
theorem d_Ru_begin_39 : decode m_Ru_begin.2.1 39 = .ok (.iconst 1, 1) := by decide +kernel
theorem d_Ru_begin_40 : decode m_Ru_begin.2.1 40 = .ok (.iadd, 1) := by decide +kernel
theorem d_Ru_begin_41 : decode m_Ru_begin.2.1 41 = .ok (.putfield 18, 3) := by decide +kernel
theorem d_Ru_begin_44 : decode m_Ru_begin.2.1 44 = .ok (.aload_n 0, 1) := by decide +kernel
theorem d_Ru_begin_45 : decode m_Ru_begin.2.1 45 = .ok (.iconst 2, 1) := by decide +kernel
theorem d_Ru_begin_46 : decode m_Ru_begin.2.1 46 = .ok (.putfield 22, 3) := by decide +kernel
theorem d_Ru_begin_49 : decode m_Ru_begin.2.1 49 = .ok (.iconst 1, 1) := by decide +kernel
theorem d_Ru_begin_50 : decode m_Ru_begin.2.1 50 = .ok (.ireturn, 1) := by decide +kernel
theorem d_Ru_goOn_0 : decode m_Ru_goOn.2.1 0 = .ok (.aload_n 0, 1) := by decide +kernel
theorem d_Ru_goOn_1 : decode m_Ru_goOn.2.1 1 = .ok (.getfield 18, 3) := by decide +kernel
theorem d_Ru_goOn_4 : decode m_Ru_goOn.2.1 4 = .ok (.iconst 1, 1) := by decide +kernel
theorem d_Ru_goOn_5 : decode m_Ru_goOn.2.1 5 = .ok (.isub, 1) := by decide +kernel
theorem d_Ru_goOn_6 : decode m_Ru_goOn.2.1 6 = .ok (.istore_n 2, 1) := by decide +kernel
theorem d_Ru_goOn_7 : decode m_Ru_goOn.2.1 7 = .ok (.iload_n 1, 1) := by decide +kernel
theorem d_Ru_goOn_8 : decode m_Ru_goOn.2.1 8 = .ok (.invokestatic 45, 3) := by decide +kernel
theorem d_Ru_goOn_11 : decode m_Ru_goOn.2.1 11 = .ok (.ifCond .ne 10, 3) := by decide +kernel
theorem d_Ru_goOn_14 : decode m_Ru_goOn.2.1 14 = .ok (.iload_n 1, 1) := by decide +kernel
theorem d_Ru_goOn_15 : decode m_Ru_goOn.2.1 15 = .ok (.invokestatic 54, 3) := by decide +kernel
theorem d_Ru_goOn_18 : decode m_Ru_goOn.2.1 18 = .ok (.ifCond .eq 7, 3) := by decide +kernel
theorem d_Ru_goOn_21 : decode m_Ru_goOn.2.1 21 = .ok (.iconst 1, 1) := by decide +kernel
theorem d_Ru_goOn_22 : decode m_Ru_goOn.2.1 22 = .ok (.goto 4, 3) := by decide +kernel
theorem d_Ru_goOn_25 : decode m_Ru_goOn.2.1 25 = .ok (.iconst 0, 1) := by decide +kernel
theorem d_Ru_goOn_26 : decode m_Ru_goOn.2.1 26 = .ok (.istore_n 3, 1) := by decide +kernel
theorem d_Ru_goOn_27 : decode m_Ru_goOn.2.1 27 = .ok (.iload_n 3, 1) := by decide +kernel
theorem d_Ru_goOn_28 : decode m_Ru_goOn.2.1 28 = .ok (.ifCond .eq 7, 3) := by decide +kernel
theorem d_Ru_goOn_31 : decode m_Ru_goOn.2.1 31 = .ok (.iload_n 2, 1) := by decide +kernel
theorem d_Ru_goOn_32 : decode m_Ru_goOn.2.1 32 = .ok (.ifCond .ge 5, 3) := by decide +kernel
theorem d_Ru_goOn_35 : decode m_Ru_goOn.2.1 35 = .ok (.iconst 0, 1) := by decide +kernel
theorem d_Ru_goOn_36 : decode m_Ru_goOn.2.1 36 = .ok (.ireturn, 1) := by decide +kernel
theorem d_Ru_goOn_37 : decode m_Ru_goOn.2.1 37 = .ok (.aload_n 0, 1) := by decide +kernel
theorem d_Ru_goOn_38 : decode m_Ru_goOn.2.1 38 = .ok (.getfield 9, 3) := by decide +kernel
theorem d_Ru_goOn_41 : decode m_Ru_goOn.2.1 41 = .ok (.iload_n 2, 1) := by decide +kernel
theorem d_Ru_goOn_42 : decode m_Ru_goOn.2.1 42 = .ok (.iaload, 1) := by decide +kernel
theorem d_Ru_goOn_43 : decode m_Ru_goOn.2.1 43 = .ok (.invokestatic 57, 3) := by decide +kernel
theorem d_Ru_goOn_46 : decode m_Ru_goOn.2.1 46 = .ok (.istore 4, 2) := by decide +kernel
theorem d_Ru_goOn_48 : decode m_Ru_goOn.2.1 48 = .ok (.iload 4, 2) := by decide +kernel
theorem d_Ru_goOn_50 : decode m_Ru_goOn.2.1 50 = .ok (.iconst 3, 1) := by decide +kernel
theorem d_Ru_goOn_51 : decode m_Ru_goOn.2.1 51 = .ok (.if_icmp .lt 5, 3) := by decide +kernel
theorem d_Ru_goOn_54 : decode m_Ru_goOn.2.1 54 = .ok (.iconst 0, 1) := by decide +kernel
theorem d_Ru_goOn_55 : decode m_Ru_goOn.2.1 55 = .ok (.ireturn, 1) := by decide +kernel
theorem d_Ru_goOn_56 : decode m_Ru_goOn.2.1 56 = .ok (.aload_n 0, 1) := by decide +kernel
theorem d_Ru_goOn_57 : decode m_Ru_goOn.2.1 57 = .ok (.getfield 9, 3) := by decide +kernel
theorem d_Ru_goOn_60 : decode m_Ru_goOn.2.1 60 = .ok (.iload_n 2, 1) := by decide +kernel
theorem d_Ru_goOn_61 : decode m_Ru_goOn.2.1 61 = .ok (.aload_n 0, 1) := by decide +kernel
theorem d_Ru_goOn_62 : decode m_Ru_goOn.2.1 62 = .ok (.getfield 9, 3) := by decide +kernel
theorem d_Ru_goOn_65 : decode m_Ru_goOn.2.1 65 = .ok (.iload_n 2, 1) := by decide +kernel
theorem d_Ru_goOn_66 : decode m_Ru_goOn.2.1 66 = .ok (.iaload, 1) := by decide +kernel
theorem d_Ru_goOn_67 : decode m_Ru_goOn.2.1 67 = .ok (.iload 4, 2) := by decide +kernel
theorem d_Ru_goOn_69 : decode m_Ru_goOn.2.1 69 = .ok (.iload_n 1, 1) := by decide +kernel
theorem d_Ru_goOn_70 : decode m_Ru_goOn.2.1 70 = .ok (.invokestatic 61, 3) := by decide +kernel
theorem d_Ru_goOn_73 : decode m_Ru_goOn.2.1 73 = .ok (.iastore, 1) := by decide +kernel
theorem d_Ru_goOn_74 : decode m_Ru_goOn.2.1 74 = .ok (.iconst 1, 1) := by decide +kernel
theorem d_Ru_goOn_75 : decode m_Ru_goOn.2.1 75 = .ok (.ireturn, 1) := by decide +kernel
end
section
theorem d_To_init_0 : decode m_To_init.2.1 0 = .ok (.aload_n 0, 1) := by decide +kernel
theorem d_To_init_1 : decode m_To_init.2.1 1 = .ok (.invokespecial 1, 3) := by decide +kernel
theorem d_To_init_4 : decode m_To_init.2.1 4 = .ok (.aload_n 0, 1) := by decide +kernel
theorem d_To_init_5 : decode m_To_init.2.1 5 = .ok (.iconst 3, 1) := by decide +kernel
theorem d_To_init_6 : decode m_To_init.2.1 6 = .ok (.anewarray 9, 3) := by decide +kernel
theorem d_To_init_9 : decode m_To_init.2.1 9 = .ok (.putfield 11, 3) := by decide +kernel
theorem d_To_init_12 : decode m_To_init.2.1 12 = .ok (.aload_n 0, 1) := by decide +kernel
theorem d_To_init_13 : decode m_To_init.2.1 13 = .ok (.iconst 2, 1) := by decide +kernel
theorem d_To_init_14 : decode m_To_init.2.1 14 = .ok (.anewarray 15, 3) := by decide +kernel
theorem d_To_init_17 : decode m_To_init.2.1 17 = .ok (.putfield 17, 3) := by decide +kernel
theorem d_To_init_20 : decode m_To_init.2.1 20 = .ok (.iconst 0, 1) := by decide +kernel
theorem d_To_init_21 : decode m_To_init.2.1 21 = .ok (.istore_n 1, 1) := by decide +kernel
theorem d_To_init_22 : decode m_To_init.2.1 22 = .ok (.iload_n 1, 1) := by decide +kernel
theorem d_To_init_23 : decode m_To_init.2.1 23 = .ok (.iconst 2, 1) := by decide +kernel
theorem d_To_init_24 : decode m_To_init.2.1 24 = .ok (.if_icmp .ge 37, 3) := by decide +kernel
theorem d_To_init_27 : decode m_To_init.2.1 27 = .ok (.aload_n 0, 1) := by decide +kernel
theorem d_To_init_28 : decode m_To_init.2.1 28 = .ok (.getfield 11, 3) := by decide +kernel
theorem d_To_init_31 : decode m_To_init.2.1 31 = .ok (.iload_n 1, 1) := by decide +kernel
theorem d_To_init_32 : decode m_To_init.2.1 32 = .ok (.new 9, 3) := by decide +kernel
theorem d_To_init_35 : decode m_To_init.2.1 35 = .ok (.dup, 1) := by decide +kernel
theorem d_To_init_36 : decode m_To_init.2.1 36 = .ok (.bipush 12, 2) := by decide +kernel
theorem d_To_init_38 : decode m_To_init.2.1 38 = .ok (.invokespecial 21, 3) := by decide +kernel
theorem d_To_init_41 : decode m_To_init.2.1 41 = .ok (.aastore, 1) := by decide +kernel
theorem d_To_init_42 : decode m_To_init.2.1 42 = .ok (.aload_n 0, 1) := by decide +kernel
theorem d_To_init_43 : decode m_To_init.2.1 43 = .ok (.getfield 17, 3) := by decide +kernel
theorem d_To_init_46 : decode m_To_init.2.1 46 = .ok (.iload_n 1, 1) := by decide +kernel
theorem d_To_init_47 : decode m_To_init.2.1 47 = .ok (.new 15, 3) := by decide +kernel
theorem d_To_init_50 : decode m_To_init.2.1 50 = .ok (.dup, 1) := by decide +kernel
theorem d_To_init_51 : decode m_To_init.2.1 51 = .ok (.invokespecial 24, 3) := by decide +kernel
theorem d_To_init_54 : decode m_To_init.2.1 54 = .ok (.aastore, 1) := by decide +kernel
theorem d_To_init_55 : decode m_To_init.2.1 55 = .ok (.iinc 1 1, 3) := by decide +kernel
theorem d_To_init_58 : decode m_To_init.2.1 58 = .ok (.goto (-36), 3) := by decide +kernel
theorem d_To_init_61 : decode m_To_init.2.1 61 = .ok (.aload_n 0, 1) := by decide +kernel
theorem d_To_init_62 : decode m_To_init.2.1 62 = .ok (.getfield 11, 3) := by decide +kernel
theorem d_To_init_65 : decode m_To_init.2.1 65 = .ok (.iconst 2, 1) := by decide +kernel
theorem d_To_init_66 : decode m_To_init.2.1 66 = .ok (.new 9, 3) := by decide +kernel
theorem d_To_init_69 : decode m_To_init.2.1 69 = .ok (.dup, 1) := by decide +kernel
theorem d_To_init_70 : decode m_To_init.2.1 70 = .ok (.bipush 24, 2) := by decide +kernel
theorem d_To_init_72 : decode m_To_init.2.1 72 = .ok (.invokespecial 21, 3) := by decide +kernel
theorem d_To_init_75 : decode m_To_init.2.1 75 = .ok (.aastore, 1) := by decide +kernel
theorem d_To_init_76 : decode m_To_init.2.1 76 = .ok (.aload_n 0, 1) := by decide +kernel
theorem d_To_init_77 : decode m_To_init.2.1 77 = .ok (.new 25, 3) := by decide +kernel
theorem d_To_init_80 : decode m_To_init.2.1 80 = .ok (.dup, 1) := by decide +kernel
theorem d_To_init_81 : decode m_To_init.2.1 81 = .ok (.invokespecial 27, 3) := by decide +kernel
theorem d_To_init_84 : decode m_To_init.2.1 84 = .ok (.putfield 28, 3) := by decide +kernel
theorem d_To_init_87 : decode m_To_init.2.1 87 = .ok (.aload_n 0, 1) := by decide +kernel
theorem d_To_init_88 : decode m_To_init.2.1 88 = .ok (.new 25, 3) := by decide +kernel
theorem d_To_init_91 : decode m_To_init.2.1 91 = .ok (.dup, 1) := by decide +kernel
theorem d_To_init_92 : decode m_To_init.2.1 92 = .ok (.invokespecial 27, 3) := by decide +kernel
theorem d_To_init_95 : decode m_To_init.2.1 95 = .ok (.putfield 32, 3) := by decide +kernel
theorem d_To_init_98 : decode m_To_init.2.1 98 = .ok (.aload_n 0, 1) := by decide +kernel
theorem d_To_init_99 : decode m_To_init.2.1 99 = .ok (.new 35, 3) := by decide +kernel
theorem d_To_init_102 : decode m_To_init.2.1 102 = .ok (.dup, 1) := by decide +kernel
theorem d_To_init_103 : decode m_To_init.2.1 103 = .ok (.invokespecial 37, 3) := by decide +kernel
theorem d_To_init_106 : decode m_To_init.2.1 106 = .ok (.putfield 38, 3) := by decide +kernel
theorem d_To_init_109 : decode m_To_init.2.1 109 = .ok (.aload_n 0, 1) := by decide +kernel
theorem d_To_init_110 : decode m_To_init.2.1 110 = .ok (.new 42, 3) := by decide +kernel
theorem d_To_init_113 : decode m_To_init.2.1 113 = .ok (.dup, 1) := by decide +kernel
theorem d_To_init_114 : decode m_To_init.2.1 114 = .ok (.aload_n 0, 1) := by decide +kernel
theorem d_To_init_115 : decode m_To_init.2.1 115 = .ok (.getfield 28, 3) := by decide +kernel
theorem d_To_init_118 : decode m_To_init.2.1 118 = .ok (.invokespecial 44, 3) := by decide +kernel
theorem d_To_init_121 : decode m_To_init.2.1 121 = .ok (.putfield 47, 3) := by decide +kernel
theorem d_To_init_124 : decode m_To_init.2.1 124 = .ok (.aload_n 0, 1) := by decide +kernel
theorem d_To_init_125 : decode m_To_init.2.1 125 = .ok (.new 51, 3) := by decide +kernel
theorem d_To_init_128 : decode m_To_init.2.1 128 = .ok (.dup, 1) := by decide +kernel
theorem d_To_init_129 : decode m_To_init.2.1 129 = .ok (.invokespecial 53, 3) := by decide +kernel
theorem d_To_init_132 : decode m_To_init.2.1 132 = .ok (.putfield 54, 3) := by decide +kernel
theorem d_To_init_135 : decode m_To_init.2.1 135 = .ok (.return_, 1) := by decide +kernel
theorem d_To_type_0 : decode m_To_type.2.1 0 = .ok (.iload_n 1, 1) := by decide +kernel
theorem d_To_type_1 : decode m_To_type.2.1 1 = .ok (.ifCond .lt 8, 3) := by decide +kernel
theorem d_To_type_4 : decode m_To_type.2.1 4 = .ok (.iload_n 1, 1) := by decide +kernel
theorem d_To_type_5 : decode m_To_type.2.1 5 = .ok (.iconst 3, 1) := by decide +kernel
theorem d_To_type_6 : decode m_To_type.2.1 6 = .ok (.if_icmp .lt 5, 3) := by decide +kernel
theorem d_To_type_9 : decode m_To_type.2.1 9 = .ok (.iconst 0, 1) := by decide +kernel
theorem d_To_type_10 : decode m_To_type.2.1 10 = .ok (.ireturn, 1) := by decide +kernel
theorem d_To_type_11 : decode m_To_type.2.1 11 = .ok (.iload_n 1, 1) := by decide +kernel
theorem d_To_type_12 : decode m_To_type.2.1 12 = .ok (.iconst 2, 1) := by decide +kernel
theorem d_To_type_13 : decode m_To_type.2.1 13 = .ok (.if_icmp .ne 23, 3) := by decide +kernel
theorem d_To_type_16 : decode m_To_type.2.1 16 = .ok (.iload_n 2, 1) := by decide +kernel
theorem d_To_type_17 : decode m_To_type.2.1 17 = .ok (.bipush 32, 2) := by decide +kernel
theorem d_To_type_19 : decode m_To_type.2.1 19 = .ok (.if_icmp .lt 13, 3) := by decide +kernel
theorem d_To_type_22 : decode m_To_type.2.1 22 = .ok (.iload_n 2, 1) := by decide +kernel
theorem d_To_type_23 : decode m_To_type.2.1 23 = .ok (.bipush 126, 2) := by decide +kernel
theorem d_To_type_25 : decode m_To_type.2.1 25 = .ok (.if_icmp .gt 7, 3) := by decide +kernel
theorem d_To_type_28 : decode m_To_type.2.1 28 = .ok (.iconst 1, 1) := by decide +kernel
theorem d_To_type_29 : decode m_To_type.2.1 29 = .ok (.goto 33, 3) := by decide +kernel
theorem d_To_type_32 : decode m_To_type.2.1 32 = .ok (.iconst 0, 1) := by decide +kernel
theorem d_To_type_33 : decode m_To_type.2.1 33 = .ok (.goto 29, 3) := by decide +kernel
theorem d_To_type_36 : decode m_To_type.2.1 36 = .ok (.iload_n 2, 1) := by decide +kernel
theorem d_To_type_37 : decode m_To_type.2.1 37 = .ok (.invokestatic 58, 3) := by decide +kernel
theorem d_To_type_40 : decode m_To_type.2.1 40 = .ok (.ifCond .ne 17, 3) := by decide +kernel
theorem d_To_type_43 : decode m_To_type.2.1 43 = .ok (.iload_n 2, 1) := by decide +kernel
theorem d_To_type_44 : decode m_To_type.2.1 44 = .ok (.invokestatic 62, 3) := by decide +kernel
theorem d_To_type_47 : decode m_To_type.2.1 47 = .ok (.ifCond .ne 10, 3) := by decide +kernel
theorem d_To_type_50 : decode m_To_type.2.1 50 = .ok (.iload_n 2, 1) := by decide +kernel
theorem d_To_type_51 : decode m_To_type.2.1 51 = .ok (.invokestatic 65, 3) := by decide +kernel
theorem d_To_type_54 : decode m_To_type.2.1 54 = .ok (.ifCond .eq 7, 3) := by decide +kernel
theorem d_To_type_57 : decode m_To_type.2.1 57 = .ok (.iconst 1, 1) := by decide +kernel
theorem d_To_type_58 : decode m_To_type.2.1 58 = .ok (.goto 4, 3) := by decide +kernel
theorem d_To_type_61 : decode m_To_type.2.1 61 = .ok (.iconst 0, 1) := by decide +kernel
theorem d_To_type_62 : decode m_To_type.2.1 62 = .ok (.istore_n 3, 1) := by decide +kernel
theorem d_To_type_63 : decode m_To_type.2.1 63 = .ok (.iload_n 3, 1) := by decide +kernel
theorem d_To_type_64 : decode m_To_type.2.1 64 = .ok (.ifCond .eq 20, 3) := by decide +kernel
theorem d_To_type_67 : decode m_To_type.2.1 67 = .ok (.aload_n 0, 1) := by decide +kernel
theorem d_To_type_68 : decode m_To_type.2.1 68 = .ok (.getfield 11, 3) := by decide +kernel
theorem d_To_type_71 : decode m_To_type.2.1 71 = .ok (.iload_n 1, 1) := by decide +kernel
theorem d_To_type_72 : decode m_To_type.2.1 72 = .ok (.aaload, 1) := by decide +kernel
theorem d_To_type_73 : decode m_To_type.2.1 73 = .ok (.iload_n 2, 1) := by decide +kernel
theorem d_To_type_74 : decode m_To_type.2.1 74 = .ok (.invokevirtual 68, 3) := by decide +kernel
theorem d_To_type_77 : decode m_To_type.2.1 77 = .ok (.ifCond .eq 7, 3) := by decide +kernel
theorem d_To_type_80 : decode m_To_type.2.1 80 = .ok (.iconst 1, 1) := by decide +kernel
theorem d_To_type_81 : decode m_To_type.2.1 81 = .ok (.goto 4, 3) := by decide +kernel
theorem d_To_type_84 : decode m_To_type.2.1 84 = .ok (.iconst 0, 1) := by decide +kernel
theorem d_To_type_85 : decode m_To_type.2.1 85 = .ok (.ireturn, 1) := by decide +kernel
theorem d_To_wipe_0 : decode m_To_wipe.2.1 0 = .ok (.iload_n 1, 1) := by decide +kernel
theorem d_To_wipe_1 : decode m_To_wipe.2.1 1 = .ok (.ifCond .lt 8, 3) := by decide +kernel
theorem d_To_wipe_4 : decode m_To_wipe.2.1 4 = .ok (.iload_n 1, 1) := by decide +kernel
theorem d_To_wipe_5 : decode m_To_wipe.2.1 5 = .ok (.iconst 3, 1) := by decide +kernel
theorem d_To_wipe_6 : decode m_To_wipe.2.1 6 = .ok (.if_icmp .lt 7, 3) := by decide +kernel
theorem d_To_wipe_9 : decode m_To_wipe.2.1 9 = .ok (.iconst (-1), 1) := by decide +kernel
theorem d_To_wipe_10 : decode m_To_wipe.2.1 10 = .ok (.goto 12, 3) := by decide +kernel
theorem d_To_wipe_13 : decode m_To_wipe.2.1 13 = .ok (.aload_n 0, 1) := by decide +kernel
theorem d_To_wipe_14 : decode m_To_wipe.2.1 14 = .ok (.getfield 11, 3) := by decide +kernel
theorem d_To_wipe_17 : decode m_To_wipe.2.1 17 = .ok (.iload_n 1, 1) := by decide +kernel
theorem d_To_wipe_18 : decode m_To_wipe.2.1 18 = .ok (.aaload, 1) := by decide +kernel
theorem d_To_wipe_19 : decode m_To_wipe.2.1 19 = .ok (.invokevirtual 72, 3) := by decide +kernel
theorem d_To_wipe_22 : decode m_To_wipe.2.1 22 = .ok (.ireturn, 1) := by decide +kernel
theorem d_To_tailor_0 : decode m_To_tailor.2.1 0 = .ok (.aload_n 0, 1) := by decide +kernel
theorem d_To_tailor_1 : decode m_To_tailor.2.1 1 = .ok (.getfield 38, 3) := by decide +kernel
theorem d_To_tailor_4 : decode m_To_tailor.2.1 4 = .ok (.aload_n 0, 1) := by decide +kernel
theorem d_To_tailor_5 : decode m_To_tailor.2.1 5 = .ok (.getfield 11, 3) := by decide +kernel
theorem d_To_tailor_8 : decode m_To_tailor.2.1 8 = .ok (.iconst 2, 1) := by decide +kernel
theorem d_To_tailor_9 : decode m_To_tailor.2.1 9 = .ok (.aaload, 1) := by decide +kernel
theorem d_To_tailor_10 : decode m_To_tailor.2.1 10 = .ok (.invokevirtual 76, 3) := by decide +kernel
theorem d_To_tailor_13 : decode m_To_tailor.2.1 13 = .ok (.istore_n 1, 1) := by decide +kernel
theorem d_To_tailor_14 : decode m_To_tailor.2.1 14 = .ok (.aload_n 0, 1) := by decide +kernel
theorem d_To_tailor_15 : decode m_To_tailor.2.1 15 = .ok (.getfield 11, 3) := by decide +kernel
theorem d_To_tailor_18 : decode m_To_tailor.2.1 18 = .ok (.iconst 2, 1) := by decide +kernel
theorem d_To_tailor_19 : decode m_To_tailor.2.1 19 = .ok (.aaload, 1) := by decide +kernel
theorem d_To_tailor_20 : decode m_To_tailor.2.1 20 = .ok (.invokevirtual 72, 3) := by decide +kernel
theorem d_To_tailor_23 : decode m_To_tailor.2.1 23 = .ok (.pop, 1) := by decide +kernel
theorem d_To_tailor_24 : decode m_To_tailor.2.1 24 = .ok (.iload_n 1, 1) := by decide +kernel
theorem d_To_tailor_25 : decode m_To_tailor.2.1 25 = .ok (.ifCond .ge 5, 3) := by decide +kernel
theorem d_To_tailor_28 : decode m_To_tailor.2.1 28 = .ok (.iload_n 1, 1) := by decide +kernel
theorem d_To_tailor_29 : decode m_To_tailor.2.1 29 = .ok (.ireturn, 1) := by decide +kernel
theorem d_To_tailor_30 : decode m_To_tailor.2.1 30 = .ok (.aload_n 0, 1) := by decide +kernel
theorem d_To_tailor_31 : decode m_To_tailor.2.1 31 = .ok (.getfield 32, 3) := by decide +kernel
theorem d_To_tailor_34 : decode m_To_tailor.2.1 34 = .ok (.aload_n 0, 1) := by decide +kernel
theorem d_To_tailor_35 : decode m_To_tailor.2.1 35 = .ok (.getfield 28, 3) := by decide +kernel
theorem d_To_tailor_38 : decode m_To_tailor.2.1 38 = .ok (.invokevirtual 80, 3) := by decide +kernel
theorem d_To_tailor_41 : decode m_To_tailor.2.1 41 = .ok (.aload_n 0, 1) := by decide +kernel
theorem d_To_tailor_42 : decode m_To_tailor.2.1 42 = .ok (.getfield 32, 3) := by decide +kernel
theorem d_To_tailor_45 : decode m_To_tailor.2.1 45 = .ok (.aload_n 0, 1) := by decide +kernel
theorem d_To_tailor_46 : decode m_To_tailor.2.1 46 = .ok (.getfield 38, 3) := by decide +kernel
theorem d_To_tailor_49 : decode m_To_tailor.2.1 49 = .ok (.invokevirtual 83, 3) := by decide +kernel
theorem d_To_tailor_52 : decode m_To_tailor.2.1 52 = .ok (.istore_n 2, 1) := by decide +kernel
theorem d_To_tailor_53 : decode m_To_tailor.2.1 53 = .ok (.iload_n 2, 1) := by decide +kernel
theorem d_To_tailor_54 : decode m_To_tailor.2.1 54 = .ok (.ifCond .lt 14, 3) := by decide +kernel
theorem d_To_tailor_57 : decode m_To_tailor.2.1 57 = .ok (.aload_n 0, 1) := by decide +kernel
theorem d_To_tailor_58 : decode m_To_tailor.2.1 58 = .ok (.getfield 28, 3) := by decide +kernel
theorem d_To_tailor_61 : decode m_To_tailor.2.1 61 = .ok (.aload_n 0, 1) := by decide +kernel
theorem d_To_tailor_62 : decode m_To_tailor.2.1 62 = .ok (.getfield 32, 3) := by decide +kernel
theorem d_To_tailor_65 : decode m_To_tailor.2.1 65 = .ok (.invokevirtual 80, 3) := by decide +kernel
theorem d_To_tailor_68 : decode m_To_tailor.2.1 68 = .ok (.iload_n 2, 1) := by decide +kernel
theorem d_To_tailor_69 : decode m_To_tailor.2.1 69 = .ok (.ireturn, 1) := by decide +kernel
theorem d_To_entries_0 : decode m_To_entries.2.1 0 = .ok (.aload_n 0, 1) := by decide +kernel
theorem d_To_entries_1 : decode m_To_entries.2.1 1 = .ok (.getfield 28, 3) := by decide +kernel
theorem d_To_entries_4 : decode m_To_entries.2.1 4 = .ok (.getfield 87, 3) := by decide +kernel
theorem d_To_entries_7 : decode m_To_entries.2.1 7 = .ok (.ireturn, 1) := by decide +kernel
theorem d_To_entry_0 : decode m_To_entry.2.1 0 = .ok (.iload_n 1, 1) := by decide +kernel
theorem d_To_entry_1 : decode m_To_entry.2.1 1 = .ok (.ifCond .lt 14, 3) := by decide +kernel
theorem d_To_entry_4 : decode m_To_entry.2.1 4 = .ok (.iload_n 1, 1) := by decide +kernel
theorem d_To_entry_5 : decode m_To_entry.2.1 5 = .ok (.aload_n 0, 1) := by decide +kernel
theorem d_To_entry_6 : decode m_To_entry.2.1 6 = .ok (.getfield 28, 3) := by decide +kernel
theorem d_To_entry_9 : decode m_To_entry.2.1 9 = .ok (.getfield 87, 3) := by decide +kernel
theorem d_To_entry_12 : decode m_To_entry.2.1 12 = .ok (.if_icmp .lt 6, 3) := by decide +kernel
theorem d_To_entry_15 : decode m_To_entry.2.1 15 = .ok (.bipush (-2), 2) := by decide +kernel
theorem d_To_entry_17 : decode m_To_entry.2.1 17 = .ok (.ireturn, 1) := by decide +kernel
theorem d_To_entry_18 : decode m_To_entry.2.1 18 = .ok (.iload_n 2, 1) := by decide +kernel
theorem d_To_entry_19 : decode m_To_entry.2.1 19 = .ok (.tableswitch 105 0 6 #[41, 41, 41, 65, 75, 85, 95], 41) := by decide +kernel
theorem d_To_entry_60 : decode m_To_entry.2.1 60 = .ok (.aload_n 0, 1) := by decide +kernel
theorem d_To_entry_61 : decode m_To_entry.2.1 61 = .ok (.getfield 28, 3) := by decide +kernel
theorem d_To_entry_64 : decode m_To_entry.2.1 64 = .ok (.getfield 91, 3) := by decide +kernel
theorem d_To_entry_67 : decode m_To_entry.2.1 67 = .ok (.iload_n 1, 1) := by decide +kernel
theorem d_To_entry_68 : decode m_To_entry.2.1 68 = .ok (.iaload, 1) := by decide +kernel
theorem d_To_entry_69 : decode m_To_entry.2.1 69 = .ok (.iload_n 2, 1) := by decide +kernel
theorem d_To_entry_70 : decode m_To_entry.2.1 70 = .ok (.invokestatic 95, 3) := by decide +kernel
theorem d_To_entry_73 : decode m_To_entry.2.1 73 = .ok (.istore_n 3, 1) := by decide +kernel
theorem d_To_entry_74 : decode m_To_entry.2.1 74 = .ok (.iload_n 3, 1) := by decide +kernel
theorem d_To_entry_75 : decode m_To_entry.2.1 75 = .ok (.ifCond .ne 7, 3) := by decide +kernel
theorem d_To_entry_78 : decode m_To_entry.2.1 78 = .ok (.iconst (-1), 1) := by decide +kernel
theorem d_To_entry_79 : decode m_To_entry.2.1 79 = .ok (.goto 4, 3) := by decide +kernel
theorem d_To_entry_82 : decode m_To_entry.2.1 82 = .ok (.iload_n 3, 1) := by decide +kernel
theorem d_To_entry_83 : decode m_To_entry.2.1 83 = .ok (.ireturn, 1) := by decide +kernel
theorem d_To_entry_84 : decode m_To_entry.2.1 84 = .ok (.aload_n 0, 1) := by decide +kernel
theorem d_To_entry_85 : decode m_To_entry.2.1 85 = .ok (.getfield 28, 3) := by decide +kernel
theorem d_To_entry_88 : decode m_To_entry.2.1 88 = .ok (.getfield 99, 3) := by decide +kernel
theorem d_To_entry_91 : decode m_To_entry.2.1 91 = .ok (.iload_n 1, 1) := by decide +kernel
theorem d_To_entry_92 : decode m_To_entry.2.1 92 = .ok (.iaload, 1) := by decide +kernel
theorem d_To_entry_93 : decode m_To_entry.2.1 93 = .ok (.ireturn, 1) := by decide +kernel
theorem d_To_entry_94 : decode m_To_entry.2.1 94 = .ok (.aload_n 0, 1) := by decide +kernel
theorem d_To_entry_95 : decode m_To_entry.2.1 95 = .ok (.getfield 28, 3) := by decide +kernel
theorem d_To_entry_98 : decode m_To_entry.2.1 98 = .ok (.getfield 102, 3) := by decide +kernel
theorem d_To_entry_101 : decode m_To_entry.2.1 101 = .ok (.iload_n 1, 1) := by decide +kernel
theorem d_To_entry_102 : decode m_To_entry.2.1 102 = .ok (.iaload, 1) := by decide +kernel
theorem d_To_entry_103 : decode m_To_entry.2.1 103 = .ok (.ireturn, 1) := by decide +kernel
theorem d_To_entry_104 : decode m_To_entry.2.1 104 = .ok (.aload_n 0, 1) := by decide +kernel
theorem d_To_entry_105 : decode m_To_entry.2.1 105 = .ok (.getfield 28, 3) := by decide +kernel
theorem d_To_entry_108 : decode m_To_entry.2.1 108 = .ok (.getfield 105, 3) := by decide +kernel
theorem d_To_entry_111 : decode m_To_entry.2.1 111 = .ok (.iload_n 1, 1) := by decide +kernel
theorem d_To_entry_112 : decode m_To_entry.2.1 112 = .ok (.iaload, 1) := by decide +kernel
theorem d_To_entry_113 : decode m_To_entry.2.1 113 = .ok (.ireturn, 1) := by decide +kernel
theorem d_To_entry_114 : decode m_To_entry.2.1 114 = .ok (.aload_n 0, 1) := by decide +kernel
theorem d_To_entry_115 : decode m_To_entry.2.1 115 = .ok (.getfield 28, 3) := by decide +kernel
theorem d_To_entry_118 : decode m_To_entry.2.1 118 = .ok (.getfield 108, 3) := by decide +kernel
theorem d_To_entry_121 : decode m_To_entry.2.1 121 = .ok (.iload_n 1, 1) := by decide +kernel
theorem d_To_entry_122 : decode m_To_entry.2.1 122 = .ok (.iaload, 1) := by decide +kernel
theorem d_To_entry_123 : decode m_To_entry.2.1 123 = .ok (.ireturn, 1) := by decide +kernel
theorem d_To_entry_124 : decode m_To_entry.2.1 124 = .ok (.bipush (-2), 2) := by decide +kernel
theorem d_To_entry_126 : decode m_To_entry.2.1 126 = .ok (.ireturn, 1) := by decide +kernel
theorem d_To_form_0 : decode m_To_form.2.1 0 = .ok (.iload_n 1, 1) := by decide +kernel
theorem d_To_form_1 : decode m_To_form.2.1 1 = .ok (.iconst 1, 1) := by decide +kernel
theorem d_To_form_2 : decode m_To_form.2.1 2 = .ok (.if_icmp .lt 8, 3) := by decide +kernel
theorem d_To_form_5 : decode m_To_form.2.1 5 = .ok (.iload_n 1, 1) := by decide +kernel
theorem d_To_form_6 : decode m_To_form.2.1 6 = .ok (.iconst 4, 1) := by decide +kernel
theorem d_To_form_7 : decode m_To_form.2.1 7 = .ok (.if_icmp .le 5, 3) := by decide +kernel
theorem d_To_form_10 : decode m_To_form.2.1 10 = .ok (.iconst 0, 1) := by decide +kernel
theorem d_To_form_11 : decode m_To_form.2.1 11 = .ok (.ireturn, 1) := by decide +kernel
theorem d_To_form_12 : decode m_To_form.2.1 12 = .ok (.aload_n 0, 1) := by decide +kernel
theorem d_To_form_13 : decode m_To_form.2.1 13 = .ok (.getfield 47, 3) := by decide +kernel
theorem d_To_form_16 : decode m_To_form.2.1 16 = .ok (.iload_n 1, 1) := by decide +kernel
theorem d_To_form_17 : decode m_To_form.2.1 17 = .ok (.iload_n 2, 1) := by decide +kernel
theorem d_To_form_18 : decode m_To_form.2.1 18 = .ok (.iload_n 3, 1) := by decide +kernel
theorem d_To_form_19 : decode m_To_form.2.1 19 = .ok (.invokevirtual 111, 3) := by decide +kernel
theorem d_To_form_22 : decode m_To_form.2.1 22 = .ok (.iconst 1, 1) := by decide +kernel
theorem d_To_form_23 : decode m_To_form.2.1 23 = .ok (.ireturn, 1) := by decide +kernel
theorem d_To_keyLength_0 : decode m_To_keyLength.2.1 0 = .ok (.iload_n 1, 1) := by decide +kernel
theorem d_To_keyLength_1 : decode m_To_keyLength.2.1 1 = .ok (.invokestatic 115, 3) := by decide +kernel
theorem d_To_keyLength_4 : decode m_To_keyLength.2.1 4 = .ok (.ifCond .eq 14, 3) := by decide +kernel
theorem d_To_keyLength_7 : decode m_To_keyLength.2.1 7 = .ok (.aload_n 0, 1) := by decide +kernel
theorem d_To_keyLength_8 : decode m_To_keyLength.2.1 8 = .ok (.iload_n 1, 1) := by decide +kernel
theorem d_To_keyLength_9 : decode m_To_keyLength.2.1 9 = .ok (.invokevirtual 118, 3) := by decide +kernel
theorem d_To_keyLength_12 : decode m_To_keyLength.2.1 12 = .ok (.getfield 122, 3) := by decide +kernel
theorem d_To_keyLength_15 : decode m_To_keyLength.2.1 15 = .ok (.goto 4, 3) := by decide +kernel
theorem d_To_keyLength_18 : decode m_To_keyLength.2.1 18 = .ok (.iconst (-1), 1) := by decide +kernel
theorem d_To_keyLength_19 : decode m_To_keyLength.2.1 19 = .ok (.ireturn, 1) := by decide +kernel
theorem d_To_keyAt_0 : decode m_To_keyAt.2.1 0 = .ok (.iload_n 1, 1) := by decide +kernel
theorem d_To_keyAt_1 : decode m_To_keyAt.2.1 1 = .ok (.invokestatic 115, 3) := by decide +kernel
theorem d_To_keyAt_4 : decode m_To_keyAt.2.1 4 = .ok (.ifCond .ne 5, 3) := by decide +kernel
theorem d_To_keyAt_7 : decode m_To_keyAt.2.1 7 = .ok (.iconst (-1), 1) := by decide +kernel
theorem d_To_keyAt_8 : decode m_To_keyAt.2.1 8 = .ok (.ireturn, 1) := by decide +kernel
theorem d_To_keyAt_9 : decode m_To_keyAt.2.1 9 = .ok (.aload_n 0, 1) := by decide +kernel
theorem d_To_keyAt_10 : decode m_To_keyAt.2.1 10 = .ok (.iload_n 1, 1) := by decide +kernel
theorem d_To_keyAt_11 : decode m_To_keyAt.2.1 11 = .ok (.invokevirtual 118, 3) := by decide +kernel
theorem d_To_keyAt_14 : decode m_To_keyAt.2.1 14 = .ok (.astore_n 3, 1) := by decide +kernel
theorem d_To_keyAt_15 : decode m_To_keyAt.2.1 15 = .ok (.iload_n 2, 1) := by decide +kernel
theorem d_To_keyAt_16 : decode m_To_keyAt.2.1 16 = .ok (.ifCond .lt 11, 3) := by decide +kernel
theorem d_To_keyAt_19 : decode m_To_keyAt.2.1 19 = .ok (.iload_n 2, 1) := by decide +kernel
theorem d_To_keyAt_20 : decode m_To_keyAt.2.1 20 = .ok (.aload_n 3, 1) := by decide +kernel
theorem d_To_keyAt_21 : decode m_To_keyAt.2.1 21 = .ok (.getfield 122, 3) := by decide +kernel
theorem d_To_keyAt_24 : decode m_To_keyAt.2.1 24 = .ok (.if_icmp .lt 7, 3) := by decide +kernel
theorem d_To_keyAt_27 : decode m_To_keyAt.2.1 27 = .ok (.iconst (-1), 1) := by decide +kernel
theorem d_To_keyAt_28 : decode m_To_keyAt.2.1 28 = .ok (.goto 9, 3) := by decide +kernel
theorem d_To_keyAt_31 : decode m_To_keyAt.2.1 31 = .ok (.aload_n 3, 1) := by decide +kernel
theorem d_To_keyAt_32 : decode m_To_keyAt.2.1 32 = .ok (.getfield 125, 3) := by decide +kernel
theorem d_To_keyAt_35 : decode m_To_keyAt.2.1 35 = .ok (.iload_n 2, 1) := by decide +kernel
theorem d_To_keyAt_36 : decode m_To_keyAt.2.1 36 = .ok (.iaload, 1) := by decide +kernel
theorem d_To_keyAt_37 : decode m_To_keyAt.2.1 37 = .ok (.ireturn, 1) := by decide +kernel
theorem d_To_compare_0 : decode m_To_compare.2.1 0 = .ok (.aload_n 0, 1) := by decide +kernel
theorem d_To_compare_1 : decode m_To_compare.2.1 1 = .ok (.iconst 0, 1) := by decide +kernel
theorem d_To_compare_2 : decode m_To_compare.2.1 2 = .ok (.invokevirtual 118, 3) := by decide +kernel
theorem d_To_compare_5 : decode m_To_compare.2.1 5 = .ok (.aload_n 0, 1) := by decide +kernel
theorem d_To_compare_6 : decode m_To_compare.2.1 6 = .ok (.iconst 1, 1) := by decide +kernel
theorem d_To_compare_7 : decode m_To_compare.2.1 7 = .ok (.invokevirtual 118, 3) := by decide +kernel
theorem d_To_compare_10 : decode m_To_compare.2.1 10 = .ok (.invokevirtual 128, 3) := by decide +kernel
theorem d_To_compare_13 : decode m_To_compare.2.1 13 = .ok (.ireturn, 1) := by decide +kernel
theorem d_To_file_0 : decode m_To_file.2.1 0 = .ok (.iload_n 1, 1) := by decide +kernel
theorem d_To_file_1 : decode m_To_file.2.1 1 = .ok (.invokestatic 115, 3) := by decide +kernel
theorem d_To_file_4 : decode m_To_file.2.1 4 = .ok (.ifCond .eq 19, 3) := by decide +kernel
theorem d_To_file_7 : decode m_To_file.2.1 7 = .ok (.aload_n 0, 1) := by decide +kernel
theorem d_To_file_8 : decode m_To_file.2.1 8 = .ok (.getfield 54, 3) := by decide +kernel
theorem d_To_file_11 : decode m_To_file.2.1 11 = .ok (.aload_n 0, 1) := by decide +kernel
theorem d_To_file_12 : decode m_To_file.2.1 12 = .ok (.getfield 11, 3) := by decide +kernel
theorem d_To_file_15 : decode m_To_file.2.1 15 = .ok (.iload_n 1, 1) := by decide +kernel
theorem d_To_file_16 : decode m_To_file.2.1 16 = .ok (.aaload, 1) := by decide +kernel
theorem d_To_file_17 : decode m_To_file.2.1 17 = .ok (.invokevirtual 132, 3) := by decide +kernel
theorem d_To_file_20 : decode m_To_file.2.1 20 = .ok (.goto 4, 3) := by decide +kernel
theorem d_To_file_23 : decode m_To_file.2.1 23 = .ok (.iconst (-1), 1) := by decide +kernel
theorem d_To_file_24 : decode m_To_file.2.1 24 = .ok (.ireturn, 1) := by decide +kernel
theorem d_To_unfile_0 : decode m_To_unfile.2.1 0 = .ok (.aload_n 0, 1) := by decide +kernel
theorem d_To_unfile_1 : decode m_To_unfile.2.1 1 = .ok (.getfield 54, 3) := by decide +kernel
theorem d_To_unfile_4 : decode m_To_unfile.2.1 4 = .ok (.iload_n 1, 1) := by decide +kernel
theorem d_To_unfile_5 : decode m_To_unfile.2.1 5 = .ok (.invokevirtual 135, 3) := by decide +kernel
theorem d_To_unfile_8 : decode m_To_unfile.2.1 8 = .ok (.ireturn, 1) := by decide +kernel
theorem d_To_filed_0 : decode m_To_filed.2.1 0 = .ok (.aload_n 0, 1) := by decide +kernel
theorem d_To_filed_1 : decode m_To_filed.2.1 1 = .ok (.getfield 54, 3) := by decide +kernel
theorem d_To_filed_4 : decode m_To_filed.2.1 4 = .ok (.getfield 138, 3) := by decide +kernel
theorem d_To_filed_7 : decode m_To_filed.2.1 7 = .ok (.ireturn, 1) := by decide +kernel
theorem d_To_inOrder_0 : decode m_To_inOrder.2.1 0 = .ok (.aload_n 0, 1) := by decide +kernel
theorem d_To_inOrder_1 : decode m_To_inOrder.2.1 1 = .ok (.invokevirtual 139, 3) := by decide +kernel
theorem d_To_inOrder_4 : decode m_To_inOrder.2.1 4 = .ok (.aload_n 0, 1) := by decide +kernel
theorem d_To_inOrder_5 : decode m_To_inOrder.2.1 5 = .ok (.getfield 54, 3) := by decide +kernel
theorem d_To_inOrder_8 : decode m_To_inOrder.2.1 8 = .ok (.iload_n 1, 1) := by decide +kernel
theorem d_To_inOrder_9 : decode m_To_inOrder.2.1 9 = .ok (.invokevirtual 142, 3) := by decide +kernel
theorem d_To_inOrder_12 : decode m_To_inOrder.2.1 12 = .ok (.ireturn, 1) := by decide +kernel
theorem d_To_below_0 : decode m_To_below.2.1 0 = .ok (.iload_n 1, 1) := by decide +kernel
theorem d_To_below_1 : decode m_To_below.2.1 1 = .ok (.invokestatic 115, 3) := by decide +kernel
theorem d_To_below_4 : decode m_To_below.2.1 4 = .ok (.ifCond .ne 5, 3) := by decide +kernel
theorem d_To_below_7 : decode m_To_below.2.1 7 = .ok (.iconst (-1), 1) := by decide +kernel
theorem d_To_below_8 : decode m_To_below.2.1 8 = .ok (.ireturn, 1) := by decide +kernel
theorem d_To_below_9 : decode m_To_below.2.1 9 = .ok (.aload_n 0, 1) := by decide +kernel
theorem d_To_below_10 : decode m_To_below.2.1 10 = .ok (.invokevirtual 139, 3) := by decide +kernel
theorem d_To_below_13 : decode m_To_below.2.1 13 = .ok (.aload_n 0, 1) := by decide +kernel
theorem d_To_below_14 : decode m_To_below.2.1 14 = .ok (.getfield 54, 3) := by decide +kernel
theorem d_To_below_17 : decode m_To_below.2.1 17 = .ok (.aload_n 0, 1) := by decide +kernel
theorem d_To_below_18 : decode m_To_below.2.1 18 = .ok (.iload_n 1, 1) := by decide +kernel
theorem d_To_below_19 : decode m_To_below.2.1 19 = .ok (.invokevirtual 118, 3) := by decide +kernel
theorem d_To_below_22 : decode m_To_below.2.1 22 = .ok (.invokevirtual 146, 3) := by decide +kernel
theorem d_To_below_25 : decode m_To_below.2.1 25 = .ok (.ireturn, 1) := by decide +kernel
theorem d_To_isTextLine_0 : decode m_To_isTextLine.2.1 0 = .ok (.iload_n 0, 1) := by decide +kernel
theorem d_To_isTextLine_1 : decode m_To_isTextLine.2.1 1 = .ok (.ifCond .lt 12, 3) := by decide +kernel
theorem d_To_isTextLine_4 : decode m_To_isTextLine.2.1 4 = .ok (.iload_n 0, 1) := by decide +kernel
theorem d_To_isTextLine_5 : decode m_To_isTextLine.2.1 5 = .ok (.iconst 2, 1) := by decide +kernel
theorem d_To_isTextLine_6 : decode m_To_isTextLine.2.1 6 = .ok (.if_icmp .ge 7, 3) := by decide +kernel
theorem d_To_isTextLine_9 : decode m_To_isTextLine.2.1 9 = .ok (.iconst 1, 1) := by decide +kernel
theorem d_To_isTextLine_10 : decode m_To_isTextLine.2.1 10 = .ok (.goto 4, 3) := by decide +kernel
theorem d_To_isTextLine_13 : decode m_To_isTextLine.2.1 13 = .ok (.iconst 0, 1) := by decide +kernel
theorem d_To_isTextLine_14 : decode m_To_isTextLine.2.1 14 = .ok (.ireturn, 1) := by decide +kernel
theorem d_To_keyOf_0 : decode m_To_keyOf.2.1 0 = .ok (.aload_n 0, 1) := by decide +kernel
theorem d_To_keyOf_1 : decode m_To_keyOf.2.1 1 = .ok (.getfield 47, 3) := by decide +kernel
theorem d_To_keyOf_4 : decode m_To_keyOf.2.1 4 = .ok (.aload_n 0, 1) := by decide +kernel
theorem d_To_keyOf_5 : decode m_To_keyOf.2.1 5 = .ok (.getfield 11, 3) := by decide +kernel
theorem d_To_keyOf_8 : decode m_To_keyOf.2.1 8 = .ok (.iload_n 1, 1) := by decide +kernel
theorem d_To_keyOf_9 : decode m_To_keyOf.2.1 9 = .ok (.aaload, 1) := by decide +kernel
theorem d_To_keyOf_10 : decode m_To_keyOf.2.1 10 = .ok (.aload_n 0, 1) := by decide +kernel
theorem d_To_keyOf_11 : decode m_To_keyOf.2.1 11 = .ok (.getfield 17, 3) := by decide +kernel
theorem d_To_keyOf_14 : decode m_To_keyOf.2.1 14 = .ok (.iload_n 1, 1) := by decide +kernel
theorem d_To_keyOf_15 : decode m_To_keyOf.2.1 15 = .ok (.aaload, 1) := by decide +kernel
theorem d_To_keyOf_16 : decode m_To_keyOf.2.1 16 = .ok (.invokevirtual 149, 3) := by decide +kernel
theorem d_To_keyOf_19 : decode m_To_keyOf.2.1 19 = .ok (.aload_n 0, 1) := by decide +kernel
theorem d_To_keyOf_20 : decode m_To_keyOf.2.1 20 = .ok (.getfield 17, 3) := by decide +kernel
theorem d_To_keyOf_23 : decode m_To_keyOf.2.1 23 = .ok (.iload_n 1, 1) := by decide +kernel
theorem d_To_keyOf_24 : decode m_To_keyOf.2.1 24 = .ok (.aaload, 1) := by decide +kernel
theorem d_To_keyOf_25 : decode m_To_keyOf.2.1 25 = .ok (.areturn, 1) := by decide +kernel
theorem d_To_makeFolderKeys_0 : decode m_To_makeFolderKeys.2.1 0 = .ok (.iconst 0, 1) := by decide +kernel
theorem d_To_makeFolderKeys_1 : decode m_To_makeFolderKeys.2.1 1 = .ok (.istore_n 1, 1) := by decide +kernel
theorem d_To_makeFolderKeys_2 : decode m_To_makeFolderKeys.2.1 2 = .ok (.iload_n 1, 1) := by decide +kernel
theorem d_To_makeFolderKeys_3 : decode m_To_makeFolderKeys.2.1 3 = .ok (.aload_n 0, 1) := by decide +kernel
theorem d_To_makeFolderKeys_4 : decode m_To_makeFolderKeys.2.1 4 = .ok (.getfield 54, 3) := by decide +kernel
theorem d_To_makeFolderKeys_7 : decode m_To_makeFolderKeys.2.1 7 = .ok (.getfield 138, 3) := by decide +kernel
theorem d_To_makeFolderKeys_10 : decode m_To_makeFolderKeys.2.1 10 = .ok (.if_icmp .ge 34, 3) := by decide +kernel
theorem d_To_makeFolderKeys_13 : decode m_To_makeFolderKeys.2.1 13 = .ok (.aload_n 0, 1) := by decide +kernel
theorem d_To_makeFolderKeys_14 : decode m_To_makeFolderKeys.2.1 14 = .ok (.getfield 47, 3) := by decide +kernel
theorem d_To_makeFolderKeys_17 : decode m_To_makeFolderKeys.2.1 17 = .ok (.aload_n 0, 1) := by decide +kernel
theorem d_To_makeFolderKeys_18 : decode m_To_makeFolderKeys.2.1 18 = .ok (.getfield 54, 3) := by decide +kernel
theorem d_To_makeFolderKeys_21 : decode m_To_makeFolderKeys.2.1 21 = .ok (.getfield 153, 3) := by decide +kernel
theorem d_To_makeFolderKeys_24 : decode m_To_makeFolderKeys.2.1 24 = .ok (.iload_n 1, 1) := by decide +kernel
theorem d_To_makeFolderKeys_25 : decode m_To_makeFolderKeys.2.1 25 = .ok (.aaload, 1) := by decide +kernel
theorem d_To_makeFolderKeys_26 : decode m_To_makeFolderKeys.2.1 26 = .ok (.aload_n 0, 1) := by decide +kernel
theorem d_To_makeFolderKeys_27 : decode m_To_makeFolderKeys.2.1 27 = .ok (.getfield 54, 3) := by decide +kernel
theorem d_To_makeFolderKeys_30 : decode m_To_makeFolderKeys.2.1 30 = .ok (.getfield 156, 3) := by decide +kernel
theorem d_To_makeFolderKeys_33 : decode m_To_makeFolderKeys.2.1 33 = .ok (.iload_n 1, 1) := by decide +kernel
theorem d_To_makeFolderKeys_34 : decode m_To_makeFolderKeys.2.1 34 = .ok (.aaload, 1) := by decide +kernel
theorem d_To_makeFolderKeys_35 : decode m_To_makeFolderKeys.2.1 35 = .ok (.invokevirtual 149, 3) := by decide +kernel
theorem d_To_makeFolderKeys_38 : decode m_To_makeFolderKeys.2.1 38 = .ok (.iinc 1 1, 3) := by decide +kernel
theorem d_To_makeFolderKeys_41 : decode m_To_makeFolderKeys.2.1 41 = .ok (.goto (-39), 3) := by decide +kernel
theorem d_To_makeFolderKeys_44 : decode m_To_makeFolderKeys.2.1 44 = .ok (.return_, 1) := by decide +kernel
theorem d_To_isLetter_0 : decode m_To_isLetter.2.1 0 = .ok (.iload_n 0, 1) := by decide +kernel
theorem d_To_isLetter_1 : decode m_To_isLetter.2.1 1 = .ok (.bipush 97, 2) := by decide +kernel
theorem d_To_isLetter_3 : decode m_To_isLetter.2.1 3 = .ok (.if_icmp .lt 9, 3) := by decide +kernel
theorem d_To_isLetter_6 : decode m_To_isLetter.2.1 6 = .ok (.iload_n 0, 1) := by decide +kernel
theorem d_To_isLetter_7 : decode m_To_isLetter.2.1 7 = .ok (.bipush 104, 2) := by decide +kernel
theorem d_To_isLetter_9 : decode m_To_isLetter.2.1 9 = .ok (.if_icmp .le 15, 3) := by decide +kernel
theorem d_To_isLetter_12 : decode m_To_isLetter.2.1 12 = .ok (.iload_n 0, 1) := by decide +kernel
theorem d_To_isLetter_13 : decode m_To_isLetter.2.1 13 = .ok (.bipush 65, 2) := by decide +kernel
theorem d_To_isLetter_15 : decode m_To_isLetter.2.1 15 = .ok (.if_icmp .lt 13, 3) := by decide +kernel
theorem d_To_isLetter_18 : decode m_To_isLetter.2.1 18 = .ok (.iload_n 0, 1) := by decide +kernel
theorem d_To_isLetter_19 : decode m_To_isLetter.2.1 19 = .ok (.bipush 72, 2) := by decide +kernel
theorem d_To_isLetter_21 : decode m_To_isLetter.2.1 21 = .ok (.if_icmp .gt 7, 3) := by decide +kernel
theorem d_To_isLetter_24 : decode m_To_isLetter.2.1 24 = .ok (.iconst 1, 1) := by decide +kernel
theorem d_To_isLetter_25 : decode m_To_isLetter.2.1 25 = .ok (.goto 4, 3) := by decide +kernel
theorem d_To_isLetter_28 : decode m_To_isLetter.2.1 28 = .ok (.iconst 0, 1) := by decide +kernel
theorem d_To_isLetter_29 : decode m_To_isLetter.2.1 29 = .ok (.ireturn, 1) := by decide +kernel
theorem d_To_isVariable_0 : decode m_To_isVariable.2.1 0 = .ok (.iload_n 0, 1) := by decide +kernel
theorem d_To_isVariable_1 : decode m_To_isVariable.2.1 1 = .ok (.bipush 32, 2) := by decide +kernel
theorem d_To_isVariable_3 : decode m_To_isVariable.2.1 3 = .ok (.if_icmp .eq 9, 3) := by decide +kernel
theorem d_To_isVariable_6 : decode m_To_isVariable.2.1 6 = .ok (.iload_n 0, 1) := by decide +kernel
theorem d_To_isVariable_7 : decode m_To_isVariable.2.1 7 = .ok (.bipush 45, 2) := by decide +kernel
theorem d_To_isVariable_9 : decode m_To_isVariable.2.1 9 = .ok (.if_icmp .ne 7, 3) := by decide +kernel
theorem d_To_isVariable_12 : decode m_To_isVariable.2.1 12 = .ok (.iconst 1, 1) := by decide +kernel
theorem d_To_isVariable_13 : decode m_To_isVariable.2.1 13 = .ok (.goto 4, 3) := by decide +kernel
theorem d_To_isVariable_16 : decode m_To_isVariable.2.1 16 = .ok (.iconst 0, 1) := by decide +kernel
theorem d_To_isVariable_17 : decode m_To_isVariable.2.1 17 = .ok (.ireturn, 1) := by decide +kernel
theorem d_To_isMark_0 : decode m_To_isMark.2.1 0 = .ok (.iload_n 0, 1) := by decide +kernel
theorem d_To_isMark_1 : decode m_To_isMark.2.1 1 = .ok (.bipush 49, 2) := by decide +kernel
theorem d_To_isMark_3 : decode m_To_isMark.2.1 3 = .ok (.if_icmp .lt 13, 3) := by decide +kernel
theorem d_To_isMark_6 : decode m_To_isMark.2.1 6 = .ok (.iload_n 0, 1) := by decide +kernel
theorem d_To_isMark_7 : decode m_To_isMark.2.1 7 = .ok (.bipush 52, 2) := by decide +kernel
theorem d_To_isMark_9 : decode m_To_isMark.2.1 9 = .ok (.if_icmp .gt 7, 3) := by decide +kernel
theorem d_To_isMark_12 : decode m_To_isMark.2.1 12 = .ok (.iconst 1, 1) := by decide +kernel
theorem d_To_isMark_13 : decode m_To_isMark.2.1 13 = .ok (.goto 4, 3) := by decide +kernel
theorem d_To_isMark_16 : decode m_To_isMark.2.1 16 = .ok (.iconst 0, 1) := by decide +kernel
theorem d_To_isMark_17 : decode m_To_isMark.2.1 17 = .ok (.ireturn, 1) := by decide +kernel
theorem d_To_classOf_0 : decode m_To_classOf.2.1 0 = .ok (.iload_n 0, 1) := by decide +kernel
theorem d_To_classOf_1 : decode m_To_classOf.2.1 1 = .ok (.bipush 50, 2) := by decide +kernel
theorem d_To_classOf_3 : decode m_To_classOf.2.1 3 = .ok (.if_icmp .gt 7, 3) := by decide +kernel
theorem d_To_classOf_6 : decode m_To_classOf.2.1 6 = .ok (.iconst 1, 1) := by decide +kernel
theorem d_To_classOf_7 : decode m_To_classOf.2.1 7 = .ok (.goto 4, 3) := by decide +kernel
theorem d_To_classOf_10 : decode m_To_classOf.2.1 10 = .ok (.iconst 2, 1) := by decide +kernel
theorem d_To_classOf_11 : decode m_To_classOf.2.1 11 = .ok (.ireturn, 1) := by decide +kernel
theorem d_To_characterOf_0 : decode m_To_characterOf.2.1 0 = .ok (.iload_n 0, 1) := by decide +kernel
theorem d_To_characterOf_1 : decode m_To_characterOf.2.1 1 = .ok (.bipush 8, 2) := by decide +kernel
theorem d_To_characterOf_3 : decode m_To_characterOf.2.1 3 = .ok (.iload_n 1, 1) := by decide +kernel
theorem d_To_characterOf_4 : decode m_To_characterOf.2.1 4 = .ok (.imul, 1) := by decide +kernel
theorem d_To_characterOf_5 : decode m_To_characterOf.2.1 5 = .ok (.ishr, 1) := by decide +kernel
theorem d_To_characterOf_6 : decode m_To_characterOf.2.1 6 = .ok (.sipush 255, 3) := by decide +kernel
theorem d_To_characterOf_9 : decode m_To_characterOf.2.1 9 = .ok (.iand, 1) := by decide +kernel
theorem d_To_characterOf_10 : decode m_To_characterOf.2.1 10 = .ok (.ireturn, 1) := by decide +kernel
theorem d_To_lengthOf_0 : decode m_To_lengthOf.2.1 0 = .ok (.iload_n 0, 1) := by decide +kernel
theorem d_To_lengthOf_1 : decode m_To_lengthOf.2.1 1 = .ok (.sipush 256, 3) := by decide +kernel
theorem d_To_lengthOf_4 : decode m_To_lengthOf.2.1 4 = .ok (.if_icmp .ge 7, 3) := by decide +kernel
theorem d_To_lengthOf_7 : decode m_To_lengthOf.2.1 7 = .ok (.iconst 1, 1) := by decide +kernel
theorem d_To_lengthOf_8 : decode m_To_lengthOf.2.1 8 = .ok (.goto 14, 3) := by decide +kernel
theorem d_To_lengthOf_11 : decode m_To_lengthOf.2.1 11 = .ok (.iload_n 0, 1) := by decide +kernel
theorem d_To_lengthOf_12 : decode m_To_lengthOf.2.1 12 = .ok (.ldc 159, 2) := by decide +kernel
theorem d_To_lengthOf_14 : decode m_To_lengthOf.2.1 14 = .ok (.if_icmp .ge 7, 3) := by decide +kernel
theorem d_To_lengthOf_17 : decode m_To_lengthOf.2.1 17 = .ok (.iconst 2, 1) := by decide +kernel
theorem d_To_lengthOf_18 : decode m_To_lengthOf.2.1 18 = .ok (.goto 4, 3) := by decide +kernel
theorem d_To_lengthOf_21 : decode m_To_lengthOf.2.1 21 = .ok (.iconst 3, 1) := by decide +kernel
theorem d_To_lengthOf_22 : decode m_To_lengthOf.2.1 22 = .ok (.ireturn, 1) := by decide +kernel
theorem d_To_joined_0 : decode m_To_joined.2.1 0 = .ok (.iload_n 0, 1) := by decide +kernel
theorem d_To_joined_1 : decode m_To_joined.2.1 1 = .ok (.iload_n 2, 1) := by decide +kernel
theorem d_To_joined_2 : decode m_To_joined.2.1 2 = .ok (.bipush 8, 2) := by decide +kernel
theorem d_To_joined_4 : decode m_To_joined.2.1 4 = .ok (.iload_n 1, 1) := by decide +kernel
theorem d_To_joined_5 : decode m_To_joined.2.1 5 = .ok (.imul, 1) := by decide +kernel
theorem d_To_joined_6 : decode m_To_joined.2.1 6 = .ok (.ishl, 1) := by decide +kernel
theorem d_To_joined_7 : decode m_To_joined.2.1 7 = .ok (.ior, 1) := by decide +kernel
theorem d_To_joined_8 : decode m_To_joined.2.1 8 = .ok (.ireturn, 1) := by decide +kernel
theorem d_To_firstOf_0 : decode m_To_firstOf.2.1 0 = .ok (.iload_n 0, 1) := by decide +kernel
theorem d_To_firstOf_1 : decode m_To_firstOf.2.1 1 = .ok (.iconst 1, 1) := by decide +kernel
theorem d_To_firstOf_2 : decode m_To_firstOf.2.1 2 = .ok (.bipush 8, 2) := by decide +kernel
theorem d_To_firstOf_4 : decode m_To_firstOf.2.1 4 = .ok (.iload_n 1, 1) := by decide +kernel
theorem d_To_firstOf_5 : decode m_To_firstOf.2.1 5 = .ok (.imul, 1) := by decide +kernel
theorem d_To_firstOf_6 : decode m_To_firstOf.2.1 6 = .ok (.ishl, 1) := by decide +kernel
theorem d_To_firstOf_7 : decode m_To_firstOf.2.1 7 = .ok (.iconst 1, 1) := by decide +kernel
theorem d_To_firstOf_8 : decode m_To_firstOf.2.1 8 = .ok (.isub, 1) := by decide +kernel
theorem d_To_firstOf_9 : decode m_To_firstOf.2.1 9 = .ok (.iand, 1) := by decide +kernel
theorem d_To_firstOf_10 : decode m_To_firstOf.2.1 10 = .ok (.ireturn, 1) := by decide +kernel
theorem d_Km_init_0 : decode m_Km_init.2.1 0 = .ok (.aload_n 0, 1) := by decide +kernel
theorem d_Km_init_1 : decode m_Km_init.2.1 1 = .ok (.invokespecial 3, 3) := by decide +kernel
theorem d_Km_init_4 : decode m_Km_init.2.1 4 = .ok (.aload_n 0, 1) := by decide +kernel
theorem d_Km_init_5 : decode m_Km_init.2.1 5 = .ok (.aload_n 1, 1) := by decide +kernel
theorem d_Km_init_6 : decode m_Km_init.2.1 6 = .ok (.putfield 9, 3) := by decide +kernel
theorem d_Km_init_9 : decode m_Km_init.2.1 9 = .ok (.aload_n 0, 1) := by decide +kernel
theorem d_Km_init_10 : decode m_Km_init.2.1 10 = .ok (.bipush 12, 2) := by decide +kernel
theorem d_Km_init_12 : decode m_Km_init.2.1 12 = .ok (.newarray .char, 2) := by decide +kernel
theorem d_Km_init_14 : decode m_Km_init.2.1 14 = .ok (.putfield 15, 3) := by decide +kernel
theorem d_Km_init_17 : decode m_Km_init.2.1 17 = .ok (.aload_n 0, 1) := by decide +kernel
theorem d_Km_init_18 : decode m_Km_init.2.1 18 = .ok (.bipush 12, 2) := by decide +kernel
theorem d_Km_init_20 : decode m_Km_init.2.1 20 = .ok (.newarray .char, 2) := by decide +kernel
theorem d_Km_init_22 : decode m_Km_init.2.1 22 = .ok (.putfield 19, 3) := by decide +kernel
theorem d_Km_init_25 : decode m_Km_init.2.1 25 = .ok (.aload_n 0, 1) := by decide +kernel
theorem d_Km_init_26 : decode m_Km_init.2.1 26 = .ok (.iconst 4, 1) := by decide +kernel
theorem d_Km_init_27 : decode m_Km_init.2.1 27 = .ok (.bipush 12, 2) := by decide +kernel
theorem d_Km_init_29 : decode m_Km_init.2.1 29 = .ok (.multianewarray 22 2, 4) := by decide +kernel
theorem d_Km_init_33 : decode m_Km_init.2.1 33 = .ok (.putfield 24, 3) := by decide +kernel
theorem d_Km_init_36 : decode m_Km_init.2.1 36 = .ok (.aload_n 0, 1) := by decide +kernel
theorem d_Km_init_37 : decode m_Km_init.2.1 37 = .ok (.iconst 3, 1) := by decide +kernel
theorem d_Km_init_38 : decode m_Km_init.2.1 38 = .ok (.putfield 27, 3) := by decide +kernel
theorem d_Km_init_41 : decode m_Km_init.2.1 41 = .ok (.aload_n 0, 1) := by decide +kernel
theorem d_Km_init_42 : decode m_Km_init.2.1 42 = .ok (.iconst 0, 1) := by decide +kernel
theorem d_Km_init_43 : decode m_Km_init.2.1 43 = .ok (.putfield 31, 3) := by decide +kernel
theorem d_Km_init_46 : decode m_Km_init.2.1 46 = .ok (.aload_n 0, 1) := by decide +kernel
theorem d_Km_init_47 : decode m_Km_init.2.1 47 = .ok (.iconst 0, 1) := by decide +kernel
theorem d_Km_init_48 : decode m_Km_init.2.1 48 = .ok (.putfield 35, 3) := by decide +kernel
theorem d_Km_init_51 : decode m_Km_init.2.1 51 = .ok (.return_, 1) := by decide +kernel
theorem d_Km_shape_0 : decode m_Km_shape.2.1 0 = .ok (.aload_n 0, 1) := by decide +kernel
theorem d_Km_shape_1 : decode m_Km_shape.2.1 1 = .ok (.iload_n 1, 1) := by decide +kernel
theorem d_Km_shape_2 : decode m_Km_shape.2.1 2 = .ok (.putfield 27, 3) := by decide +kernel
theorem d_Km_shape_5 : decode m_Km_shape.2.1 5 = .ok (.aload_n 0, 1) := by decide +kernel
theorem d_Km_shape_6 : decode m_Km_shape.2.1 6 = .ok (.iload_n 2, 1) := by decide +kernel
theorem d_Km_shape_7 : decode m_Km_shape.2.1 7 = .ok (.putfield 31, 3) := by decide +kernel
theorem d_Km_shape_10 : decode m_Km_shape.2.1 10 = .ok (.aload_n 0, 1) := by decide +kernel
theorem d_Km_shape_11 : decode m_Km_shape.2.1 11 = .ok (.iload_n 3, 1) := by decide +kernel
theorem d_Km_shape_12 : decode m_Km_shape.2.1 12 = .ok (.putfield 35, 3) := by decide +kernel
theorem d_Km_shape_15 : decode m_Km_shape.2.1 15 = .ok (.return_, 1) := by decide +kernel
theorem d_Km_make_0 : decode m_Km_make.2.1 0 = .ok (.aload_n 0, 1) := by decide +kernel
theorem d_Km_make_1 : decode m_Km_make.2.1 1 = .ok (.aload_n 1, 1) := by decide +kernel
theorem d_Km_make_2 : decode m_Km_make.2.1 2 = .ok (.invokevirtual 38, 3) := by decide +kernel
theorem d_Km_make_5 : decode m_Km_make.2.1 5 = .ok (.aload_n 0, 1) := by decide +kernel
theorem d_Km_make_6 : decode m_Km_make.2.1 6 = .ok (.invokevirtual 42, 3) := by decide +kernel
theorem d_Km_make_9 : decode m_Km_make.2.1 9 = .ok (.aload_n 2, 1) := by decide +kernel
theorem d_Km_make_10 : decode m_Km_make.2.1 10 = .ok (.iconst 0, 1) := by decide +kernel
theorem d_Km_make_11 : decode m_Km_make.2.1 11 = .ok (.putfield 45, 3) := by decide +kernel
theorem d_Km_make_14 : decode m_Km_make.2.1 14 = .ok (.iconst 0, 1) := by decide +kernel
theorem d_Km_make_15 : decode m_Km_make.2.1 15 = .ok (.istore_n 3, 1) := by decide +kernel
theorem d_Km_make_16 : decode m_Km_make.2.1 16 = .ok (.iload_n 3, 1) := by decide +kernel
theorem d_Km_make_17 : decode m_Km_make.2.1 17 = .ok (.aload_n 0, 1) := by decide +kernel
theorem d_Km_make_18 : decode m_Km_make.2.1 18 = .ok (.getfield 27, 3) := by decide +kernel
theorem d_Km_make_21 : decode m_Km_make.2.1 21 = .ok (.if_icmp .ge 15, 3) := by decide +kernel
theorem d_Km_make_24 : decode m_Km_make.2.1 24 = .ok (.aload_n 0, 1) := by decide +kernel
theorem d_Km_make_25 : decode m_Km_make.2.1 25 = .ok (.iload_n 3, 1) := by decide +kernel
theorem d_Km_make_26 : decode m_Km_make.2.1 26 = .ok (.aload_n 2, 1) := by decide +kernel
theorem d_Km_make_27 : decode m_Km_make.2.1 27 = .ok (.invokevirtual 50, 3) := by decide +kernel
theorem d_Km_make_30 : decode m_Km_make.2.1 30 = .ok (.iinc 3 1, 3) := by decide +kernel
theorem d_Km_make_33 : decode m_Km_make.2.1 33 = .ok (.goto (-17), 3) := by decide +kernel
theorem d_Km_make_36 : decode m_Km_make.2.1 36 = .ok (.return_, 1) := by decide +kernel
theorem d_Km_arrange_0 : decode m_Km_arrange.2.1 0 = .ok (.aload_n 0, 1) := by decide +kernel
theorem d_Km_arrange_1 : decode m_Km_arrange.2.1 1 = .ok (.aload_n 1, 1) := by decide +kernel
theorem d_Km_arrange_2 : decode m_Km_arrange.2.1 2 = .ok (.getfield 54, 3) := by decide +kernel
theorem d_Km_arrange_5 : decode m_Km_arrange.2.1 5 = .ok (.putfield 57, 3) := by decide +kernel
theorem d_Km_arrange_8 : decode m_Km_arrange.2.1 8 = .ok (.iconst 0, 1) := by decide +kernel
theorem d_Km_arrange_9 : decode m_Km_arrange.2.1 9 = .ok (.istore_n 2, 1) := by decide +kernel
theorem d_Km_arrange_10 : decode m_Km_arrange.2.1 10 = .ok (.iload_n 2, 1) := by decide +kernel
theorem d_Km_arrange_11 : decode m_Km_arrange.2.1 11 = .ok (.aload_n 0, 1) := by decide +kernel
theorem d_Km_arrange_12 : decode m_Km_arrange.2.1 12 = .ok (.getfield 57, 3) := by decide +kernel
theorem d_Km_arrange_15 : decode m_Km_arrange.2.1 15 = .ok (.if_icmp .ge 67, 3) := by decide +kernel
theorem d_Km_arrange_18 : decode m_Km_arrange.2.1 18 = .ok (.iload_n 2, 1) := by decide +kernel
theorem d_Km_arrange_19 : decode m_Km_arrange.2.1 19 = .ok (.istore_n 3, 1) := by decide +kernel
theorem d_Km_arrange_20 : decode m_Km_arrange.2.1 20 = .ok (.iload_n 3, 1) := by decide +kernel
theorem d_Km_arrange_21 : decode m_Km_arrange.2.1 21 = .ok (.ifCond .le 43, 3) := by decide +kernel
theorem d_Km_arrange_24 : decode m_Km_arrange.2.1 24 = .ok (.aload_n 1, 1) := by decide +kernel
theorem d_Km_arrange_25 : decode m_Km_arrange.2.1 25 = .ok (.getfield 58, 3) := by decide +kernel
theorem d_Km_arrange_28 : decode m_Km_arrange.2.1 28 = .ok (.iload_n 2, 1) := by decide +kernel
theorem d_Km_arrange_29 : decode m_Km_arrange.2.1 29 = .ok (.caload, 1) := by decide +kernel
theorem d_Km_arrange_30 : decode m_Km_arrange.2.1 30 = .ok (.aload_n 0, 1) := by decide +kernel
theorem d_Km_arrange_31 : decode m_Km_arrange.2.1 31 = .ok (.getfield 15, 3) := by decide +kernel
theorem d_Km_arrange_34 : decode m_Km_arrange.2.1 34 = .ok (.iload_n 3, 1) := by decide +kernel
theorem d_Km_arrange_35 : decode m_Km_arrange.2.1 35 = .ok (.iconst 1, 1) := by decide +kernel
theorem d_Km_arrange_36 : decode m_Km_arrange.2.1 36 = .ok (.isub, 1) := by decide +kernel
theorem d_Km_arrange_37 : decode m_Km_arrange.2.1 37 = .ok (.caload, 1) := by decide +kernel
theorem d_Km_arrange_38 : decode m_Km_arrange.2.1 38 = .ok (.invokestatic 61, 3) := by decide +kernel
theorem d_Km_arrange_41 : decode m_Km_arrange.2.1 41 = .ok (.ifCond .eq 23, 3) := by decide +kernel
theorem d_Km_arrange_44 : decode m_Km_arrange.2.1 44 = .ok (.aload_n 0, 1) := by decide +kernel
theorem d_Km_arrange_45 : decode m_Km_arrange.2.1 45 = .ok (.getfield 15, 3) := by decide +kernel
theorem d_Km_arrange_48 : decode m_Km_arrange.2.1 48 = .ok (.iload_n 3, 1) := by decide +kernel
theorem d_Km_arrange_49 : decode m_Km_arrange.2.1 49 = .ok (.aload_n 0, 1) := by decide +kernel
theorem d_Km_arrange_50 : decode m_Km_arrange.2.1 50 = .ok (.getfield 15, 3) := by decide +kernel
theorem d_Km_arrange_53 : decode m_Km_arrange.2.1 53 = .ok (.iload_n 3, 1) := by decide +kernel
theorem d_Km_arrange_54 : decode m_Km_arrange.2.1 54 = .ok (.iconst 1, 1) := by decide +kernel
theorem d_Km_arrange_55 : decode m_Km_arrange.2.1 55 = .ok (.isub, 1) := by decide +kernel
theorem d_Km_arrange_56 : decode m_Km_arrange.2.1 56 = .ok (.caload, 1) := by decide +kernel
theorem d_Km_arrange_57 : decode m_Km_arrange.2.1 57 = .ok (.castore, 1) := by decide +kernel
theorem d_Km_arrange_58 : decode m_Km_arrange.2.1 58 = .ok (.iinc 3 (-1), 3) := by decide +kernel
theorem d_Km_arrange_61 : decode m_Km_arrange.2.1 61 = .ok (.goto (-41), 3) := by decide +kernel
theorem d_Km_arrange_64 : decode m_Km_arrange.2.1 64 = .ok (.aload_n 0, 1) := by decide +kernel
theorem d_Km_arrange_65 : decode m_Km_arrange.2.1 65 = .ok (.getfield 15, 3) := by decide +kernel
theorem d_Km_arrange_68 : decode m_Km_arrange.2.1 68 = .ok (.iload_n 3, 1) := by decide +kernel
theorem d_Km_arrange_69 : decode m_Km_arrange.2.1 69 = .ok (.aload_n 1, 1) := by decide +kernel
theorem d_Km_arrange_70 : decode m_Km_arrange.2.1 70 = .ok (.getfield 58, 3) := by decide +kernel
theorem d_Km_arrange_73 : decode m_Km_arrange.2.1 73 = .ok (.iload_n 2, 1) := by decide +kernel
theorem d_Km_arrange_74 : decode m_Km_arrange.2.1 74 = .ok (.caload, 1) := by decide +kernel
theorem d_Km_arrange_75 : decode m_Km_arrange.2.1 75 = .ok (.castore, 1) := by decide +kernel
theorem d_Km_arrange_76 : decode m_Km_arrange.2.1 76 = .ok (.iinc 2 1, 3) := by decide +kernel
theorem d_Km_arrange_79 : decode m_Km_arrange.2.1 79 = .ok (.goto (-69), 3) := by decide +kernel
theorem d_Km_arrange_82 : decode m_Km_arrange.2.1 82 = .ok (.return_, 1) := by decide +kernel
theorem d_Km_mustPass_0 : decode m_Km_mustPass.2.1 0 = .ok (.iload_n 0, 1) := by decide +kernel
theorem d_Km_mustPass_1 : decode m_Km_mustPass.2.1 1 = .ok (.invokestatic 65, 3) := by decide +kernel
theorem d_Km_mustPass_4 : decode m_Km_mustPass.2.1 4 = .ok (.ifCond .eq 25, 3) := by decide +kernel
theorem d_Km_mustPass_7 : decode m_Km_mustPass.2.1 7 = .ok (.iload_n 1, 1) := by decide +kernel
theorem d_Km_mustPass_8 : decode m_Km_mustPass.2.1 8 = .ok (.invokestatic 65, 3) := by decide +kernel
theorem d_Km_mustPass_11 : decode m_Km_mustPass.2.1 11 = .ok (.ifCond .eq 18, 3) := by decide +kernel
theorem d_Km_mustPass_14 : decode m_Km_mustPass.2.1 14 = .ok (.iload_n 0, 1) := by decide +kernel
theorem d_Km_mustPass_15 : decode m_Km_mustPass.2.1 15 = .ok (.invokestatic 69, 3) := by decide +kernel
theorem d_Km_mustPass_18 : decode m_Km_mustPass.2.1 18 = .ok (.iload_n 1, 1) := by decide +kernel
theorem d_Km_mustPass_19 : decode m_Km_mustPass.2.1 19 = .ok (.invokestatic 69, 3) := by decide +kernel
theorem d_Km_mustPass_22 : decode m_Km_mustPass.2.1 22 = .ok (.if_icmp .ge 7, 3) := by decide +kernel
theorem d_Km_mustPass_25 : decode m_Km_mustPass.2.1 25 = .ok (.iconst 1, 1) := by decide +kernel
theorem d_Km_mustPass_26 : decode m_Km_mustPass.2.1 26 = .ok (.goto 4, 3) := by decide +kernel
theorem d_Km_mustPass_29 : decode m_Km_mustPass.2.1 29 = .ok (.iconst 0, 1) := by decide +kernel
theorem d_Km_mustPass_30 : decode m_Km_mustPass.2.1 30 = .ok (.ireturn, 1) := by decide +kernel
theorem d_Km_findElements_0 : decode m_Km_findElements.2.1 0 = .ok (.aload_n 0, 1) := by decide +kernel
theorem d_Km_findElements_1 : decode m_Km_findElements.2.1 1 = .ok (.iconst 0, 1) := by decide +kernel
theorem d_Km_findElements_2 : decode m_Km_findElements.2.1 2 = .ok (.putfield 73, 3) := by decide +kernel
theorem d_Km_findElements_5 : decode m_Km_findElements.2.1 5 = .ok (.aload_n 0, 1) := by decide +kernel
theorem d_Km_findElements_6 : decode m_Km_findElements.2.1 6 = .ok (.iconst 0, 1) := by decide +kernel
theorem d_Km_findElements_7 : decode m_Km_findElements.2.1 7 = .ok (.putfield 76, 3) := by decide +kernel
theorem d_Km_findElements_10 : decode m_Km_findElements.2.1 10 = .ok (.iconst 0, 1) := by decide +kernel
theorem d_Km_findElements_11 : decode m_Km_findElements.2.1 11 = .ok (.istore_n 1, 1) := by decide +kernel
theorem d_Km_findElements_12 : decode m_Km_findElements.2.1 12 = .ok (.iconst 0, 1) := by decide +kernel
theorem d_Km_findElements_13 : decode m_Km_findElements.2.1 13 = .ok (.istore_n 2, 1) := by decide +kernel
theorem d_Km_findElements_14 : decode m_Km_findElements.2.1 14 = .ok (.iload_n 2, 1) := by decide +kernel
theorem d_Km_findElements_15 : decode m_Km_findElements.2.1 15 = .ok (.aload_n 0, 1) := by decide +kernel
theorem d_Km_findElements_16 : decode m_Km_findElements.2.1 16 = .ok (.getfield 57, 3) := by decide +kernel
theorem d_Km_findElements_19 : decode m_Km_findElements.2.1 19 = .ok (.if_icmp .ge 51, 3) := by decide +kernel
theorem d_Km_findElements_22 : decode m_Km_findElements.2.1 22 = .ok (.iload_n 1, 1) := by decide +kernel
theorem d_Km_findElements_23 : decode m_Km_findElements.2.1 23 = .ok (.aload_n 0, 1) := by decide +kernel
theorem d_Km_findElements_24 : decode m_Km_findElements.2.1 24 = .ok (.getfield 57, 3) := by decide +kernel
theorem d_Km_findElements_27 : decode m_Km_findElements.2.1 27 = .ok (.if_icmp .ge 43, 3) := by decide +kernel
theorem d_Km_findElements_30 : decode m_Km_findElements.2.1 30 = .ok (.aload_n 0, 1) := by decide +kernel
theorem d_Km_findElements_31 : decode m_Km_findElements.2.1 31 = .ok (.getfield 15, 3) := by decide +kernel
theorem d_Km_findElements_34 : decode m_Km_findElements.2.1 34 = .ok (.iload_n 1, 1) := by decide +kernel
theorem d_Km_findElements_35 : decode m_Km_findElements.2.1 35 = .ok (.caload, 1) := by decide +kernel
theorem d_Km_findElements_36 : decode m_Km_findElements.2.1 36 = .ok (.invokestatic 65, 3) := by decide +kernel
theorem d_Km_findElements_39 : decode m_Km_findElements.2.1 39 = .ok (.ifCond .eq 19, 3) := by decide +kernel
theorem d_Km_findElements_42 : decode m_Km_findElements.2.1 42 = .ok (.aload_n 0, 1) := by decide +kernel
theorem d_Km_findElements_43 : decode m_Km_findElements.2.1 43 = .ok (.aload_n 0, 1) := by decide +kernel
theorem d_Km_findElements_44 : decode m_Km_findElements.2.1 44 = .ok (.getfield 15, 3) := by decide +kernel
theorem d_Km_findElements_47 : decode m_Km_findElements.2.1 47 = .ok (.iload_n 1, 1) := by decide +kernel
theorem d_Km_findElements_48 : decode m_Km_findElements.2.1 48 = .ok (.caload, 1) := by decide +kernel
theorem d_Km_findElements_49 : decode m_Km_findElements.2.1 49 = .ok (.invokevirtual 79, 3) := by decide +kernel
theorem d_Km_findElements_52 : decode m_Km_findElements.2.1 52 = .ok (.iinc 1 1, 3) := by decide +kernel
theorem d_Km_findElements_55 : decode m_Km_findElements.2.1 55 = .ok (.goto 9, 3) := by decide +kernel
theorem d_Km_findElements_58 : decode m_Km_findElements.2.1 58 = .ok (.aload_n 0, 1) := by decide +kernel
theorem d_Km_findElements_59 : decode m_Km_findElements.2.1 59 = .ok (.iload_n 1, 1) := by decide +kernel
theorem d_Km_findElements_60 : decode m_Km_findElements.2.1 60 = .ok (.invokevirtual 83, 3) := by decide +kernel
theorem d_Km_findElements_63 : decode m_Km_findElements.2.1 63 = .ok (.istore_n 1, 1) := by decide +kernel
theorem d_Km_findElements_64 : decode m_Km_findElements.2.1 64 = .ok (.iinc 2 1, 3) := by decide +kernel
theorem d_Km_findElements_67 : decode m_Km_findElements.2.1 67 = .ok (.goto (-53), 3) := by decide +kernel
theorem d_Km_findElements_70 : decode m_Km_findElements.2.1 70 = .ok (.return_, 1) := by decide +kernel
theorem d_Km_takeEntry_0 : decode m_Km_takeEntry.2.1 0 = .ok (.aload_n 0, 1) := by decide +kernel
theorem d_Km_takeEntry_1 : decode m_Km_takeEntry.2.1 1 = .ok (.getfield 9, 3) := by decide +kernel
theorem d_Km_takeEntry_4 : decode m_Km_takeEntry.2.1 4 = .ok (.aload_n 0, 1) := by decide +kernel
theorem d_Km_takeEntry_5 : decode m_Km_takeEntry.2.1 5 = .ok (.iload_n 1, 1) := by decide +kernel
theorem d_Km_takeEntry_6 : decode m_Km_takeEntry.2.1 6 = .ok (.invokevirtual 86, 3) := by decide +kernel
theorem d_Km_takeEntry_9 : decode m_Km_takeEntry.2.1 9 = .ok (.invokevirtual 89, 3) := by decide +kernel
theorem d_Km_takeEntry_12 : decode m_Km_takeEntry.2.1 12 = .ok (.istore_n 2, 1) := by decide +kernel
theorem d_Km_takeEntry_13 : decode m_Km_takeEntry.2.1 13 = .ok (.iload_n 1, 1) := by decide +kernel
theorem d_Km_takeEntry_14 : decode m_Km_takeEntry.2.1 14 = .ok (.aload_n 0, 1) := by decide +kernel
theorem d_Km_takeEntry_15 : decode m_Km_takeEntry.2.1 15 = .ok (.getfield 9, 3) := by decide +kernel
theorem d_Km_takeEntry_18 : decode m_Km_takeEntry.2.1 18 = .ok (.getfield 94, 3) := by decide +kernel
theorem d_Km_takeEntry_21 : decode m_Km_takeEntry.2.1 21 = .ok (.iload_n 2, 1) := by decide +kernel
theorem d_Km_takeEntry_22 : decode m_Km_takeEntry.2.1 22 = .ok (.iaload, 1) := by decide +kernel
theorem d_Km_takeEntry_23 : decode m_Km_takeEntry.2.1 23 = .ok (.invokestatic 98, 3) := by decide +kernel
theorem d_Km_takeEntry_26 : decode m_Km_takeEntry.2.1 26 = .ok (.iadd, 1) := by decide +kernel
theorem d_Km_takeEntry_27 : decode m_Km_takeEntry.2.1 27 = .ok (.istore_n 3, 1) := by decide +kernel
theorem d_Km_takeEntry_28 : decode m_Km_takeEntry.2.1 28 = .ok (.iconst 0, 1) := by decide +kernel
theorem d_Km_takeEntry_29 : decode m_Km_takeEntry.2.1 29 = .ok (.istore 4, 2) := by decide +kernel
theorem d_Km_takeEntry_31 : decode m_Km_takeEntry.2.1 31 = .ok (.iload_n 3, 1) := by decide +kernel
theorem d_Km_takeEntry_32 : decode m_Km_takeEntry.2.1 32 = .ok (.aload_n 0, 1) := by decide +kernel
theorem d_Km_takeEntry_33 : decode m_Km_takeEntry.2.1 33 = .ok (.getfield 57, 3) := by decide +kernel
theorem d_Km_takeEntry_36 : decode m_Km_takeEntry.2.1 36 = .ok (.if_icmp .ge 81, 3) := by decide +kernel
theorem d_Km_takeEntry_39 : decode m_Km_takeEntry.2.1 39 = .ok (.aload_n 0, 1) := by decide +kernel
theorem d_Km_takeEntry_40 : decode m_Km_takeEntry.2.1 40 = .ok (.getfield 15, 3) := by decide +kernel
theorem d_Km_takeEntry_43 : decode m_Km_takeEntry.2.1 43 = .ok (.iload_n 3, 1) := by decide +kernel
theorem d_Km_takeEntry_44 : decode m_Km_takeEntry.2.1 44 = .ok (.caload, 1) := by decide +kernel
theorem d_Km_takeEntry_45 : decode m_Km_takeEntry.2.1 45 = .ok (.invokestatic 65, 3) := by decide +kernel
theorem d_Km_takeEntry_48 : decode m_Km_takeEntry.2.1 48 = .ok (.ifCond .eq 69, 3) := by decide +kernel
theorem d_Km_takeEntry_51 : decode m_Km_takeEntry.2.1 51 = .ok (.aload_n 0, 1) := by decide +kernel
theorem d_Km_takeEntry_52 : decode m_Km_takeEntry.2.1 52 = .ok (.aload_n 0, 1) := by decide +kernel
theorem d_Km_takeEntry_53 : decode m_Km_takeEntry.2.1 53 = .ok (.getfield 15, 3) := by decide +kernel
theorem d_Km_takeEntry_56 : decode m_Km_takeEntry.2.1 56 = .ok (.iload_n 3, 1) := by decide +kernel
theorem d_Km_takeEntry_57 : decode m_Km_takeEntry.2.1 57 = .ok (.caload, 1) := by decide +kernel
theorem d_Km_takeEntry_58 : decode m_Km_takeEntry.2.1 58 = .ok (.iload 4, 2) := by decide +kernel
theorem d_Km_takeEntry_60 : decode m_Km_takeEntry.2.1 60 = .ok (.invokevirtual 101, 3) := by decide +kernel
theorem d_Km_takeEntry_63 : decode m_Km_takeEntry.2.1 63 = .ok (.ifCond .eq 7, 3) := by decide +kernel
theorem d_Km_takeEntry_66 : decode m_Km_takeEntry.2.1 66 = .ok (.iconst (-1), 1) := by decide +kernel
theorem d_Km_takeEntry_67 : decode m_Km_takeEntry.2.1 67 = .ok (.goto 14, 3) := by decide +kernel
theorem d_Km_takeEntry_70 : decode m_Km_takeEntry.2.1 70 = .ok (.aload_n 0, 1) := by decide +kernel
theorem d_Km_takeEntry_71 : decode m_Km_takeEntry.2.1 71 = .ok (.iload_n 2, 1) := by decide +kernel
theorem d_Km_takeEntry_72 : decode m_Km_takeEntry.2.1 72 = .ok (.aload_n 0, 1) := by decide +kernel
theorem d_Km_takeEntry_73 : decode m_Km_takeEntry.2.1 73 = .ok (.getfield 15, 3) := by decide +kernel
theorem d_Km_takeEntry_76 : decode m_Km_takeEntry.2.1 76 = .ok (.iload_n 3, 1) := by decide +kernel
theorem d_Km_takeEntry_77 : decode m_Km_takeEntry.2.1 77 = .ok (.caload, 1) := by decide +kernel
theorem d_Km_takeEntry_78 : decode m_Km_takeEntry.2.1 78 = .ok (.invokevirtual 105, 3) := by decide +kernel
theorem d_Km_takeEntry_81 : decode m_Km_takeEntry.2.1 81 = .ok (.istore 5, 2) := by decide +kernel
theorem d_Km_takeEntry_83 : decode m_Km_takeEntry.2.1 83 = .ok (.iload 5, 2) := by decide +kernel
theorem d_Km_takeEntry_85 : decode m_Km_takeEntry.2.1 85 = .ok (.iconst (-1), 1) := by decide +kernel
theorem d_Km_takeEntry_86 : decode m_Km_takeEntry.2.1 86 = .ok (.if_icmp .eq 9, 3) := by decide +kernel
theorem d_Km_takeEntry_89 : decode m_Km_takeEntry.2.1 89 = .ok (.iload 5, 2) := by decide +kernel
theorem d_Km_takeEntry_91 : decode m_Km_takeEntry.2.1 91 = .ok (.istore_n 2, 1) := by decide +kernel
theorem d_Km_takeEntry_92 : decode m_Km_takeEntry.2.1 92 = .ok (.goto 19, 3) := by decide +kernel
theorem d_Km_takeEntry_95 : decode m_Km_takeEntry.2.1 95 = .ok (.aload_n 0, 1) := by decide +kernel
theorem d_Km_takeEntry_96 : decode m_Km_takeEntry.2.1 96 = .ok (.getfield 19, 3) := by decide +kernel
theorem d_Km_takeEntry_99 : decode m_Km_takeEntry.2.1 99 = .ok (.iload 4, 2) := by decide +kernel
theorem d_Km_takeEntry_101 : decode m_Km_takeEntry.2.1 101 = .ok (.aload_n 0, 1) := by decide +kernel
theorem d_Km_takeEntry_102 : decode m_Km_takeEntry.2.1 102 = .ok (.getfield 15, 3) := by decide +kernel
theorem d_Km_takeEntry_105 : decode m_Km_takeEntry.2.1 105 = .ok (.iload_n 3, 1) := by decide +kernel
theorem d_Km_takeEntry_106 : decode m_Km_takeEntry.2.1 106 = .ok (.caload, 1) := by decide +kernel
theorem d_Km_takeEntry_107 : decode m_Km_takeEntry.2.1 107 = .ok (.castore, 1) := by decide +kernel
theorem d_Km_takeEntry_108 : decode m_Km_takeEntry.2.1 108 = .ok (.iinc 4 1, 3) := by decide +kernel
theorem d_Km_takeEntry_111 : decode m_Km_takeEntry.2.1 111 = .ok (.iinc 3 1, 3) := by decide +kernel
theorem d_Km_takeEntry_114 : decode m_Km_takeEntry.2.1 114 = .ok (.goto (-83), 3) := by decide +kernel
theorem d_Km_takeEntry_117 : decode m_Km_takeEntry.2.1 117 = .ok (.aload_n 0, 1) := by decide +kernel
theorem d_Km_takeEntry_118 : decode m_Km_takeEntry.2.1 118 = .ok (.iload_n 2, 1) := by decide +kernel
theorem d_Km_takeEntry_119 : decode m_Km_takeEntry.2.1 119 = .ok (.invokevirtual 109, 3) := by decide +kernel
theorem d_Km_takeEntry_122 : decode m_Km_takeEntry.2.1 122 = .ok (.iconst 0, 1) := by decide +kernel
theorem d_Km_takeEntry_123 : decode m_Km_takeEntry.2.1 123 = .ok (.istore 5, 2) := by decide +kernel
theorem d_Km_takeEntry_125 : decode m_Km_takeEntry.2.1 125 = .ok (.iload 5, 2) := by decide +kernel
theorem d_Km_takeEntry_127 : decode m_Km_takeEntry.2.1 127 = .ok (.iload 4, 2) := by decide +kernel
theorem d_Km_takeEntry_129 : decode m_Km_takeEntry.2.1 129 = .ok (.if_icmp .ge 20, 3) := by decide +kernel
theorem d_Km_takeEntry_132 : decode m_Km_takeEntry.2.1 132 = .ok (.aload_n 0, 1) := by decide +kernel
theorem d_Km_takeEntry_133 : decode m_Km_takeEntry.2.1 133 = .ok (.aload_n 0, 1) := by decide +kernel
theorem d_Km_takeEntry_134 : decode m_Km_takeEntry.2.1 134 = .ok (.getfield 19, 3) := by decide +kernel
theorem d_Km_takeEntry_137 : decode m_Km_takeEntry.2.1 137 = .ok (.iload 5, 2) := by decide +kernel
theorem d_Km_takeEntry_139 : decode m_Km_takeEntry.2.1 139 = .ok (.caload, 1) := by decide +kernel
theorem d_Km_takeEntry_140 : decode m_Km_takeEntry.2.1 140 = .ok (.invokevirtual 79, 3) := by decide +kernel
theorem d_Km_takeEntry_143 : decode m_Km_takeEntry.2.1 143 = .ok (.iinc 5 1, 3) := by decide +kernel
theorem d_Km_takeEntry_146 : decode m_Km_takeEntry.2.1 146 = .ok (.goto (-21), 3) := by decide +kernel
theorem d_Km_takeEntry_149 : decode m_Km_takeEntry.2.1 149 = .ok (.iload_n 3, 1) := by decide +kernel
theorem d_Km_takeEntry_150 : decode m_Km_takeEntry.2.1 150 = .ok (.ireturn, 1) := by decide +kernel
theorem d_Km_headAt_0 : decode m_Km_headAt.2.1 0 = .ok (.aload_n 0, 1) := by decide +kernel
theorem d_Km_headAt_1 : decode m_Km_headAt.2.1 1 = .ok (.getfield 15, 3) := by decide +kernel
theorem d_Km_headAt_4 : decode m_Km_headAt.2.1 4 = .ok (.iload_n 1, 1) := by decide +kernel
theorem d_Km_headAt_5 : decode m_Km_headAt.2.1 5 = .ok (.caload, 1) := by decide +kernel
theorem d_Km_headAt_6 : decode m_Km_headAt.2.1 6 = .ok (.istore_n 2, 1) := by decide +kernel
theorem d_Km_headAt_7 : decode m_Km_headAt.2.1 7 = .ok (.iconst 1, 1) := by decide +kernel
theorem d_Km_headAt_8 : decode m_Km_headAt.2.1 8 = .ok (.istore_n 3, 1) := by decide +kernel
theorem d_Km_headAt_9 : decode m_Km_headAt.2.1 9 = .ok (.iload_n 3, 1) := by decide +kernel
theorem d_Km_headAt_10 : decode m_Km_headAt.2.1 10 = .ok (.iconst 3, 1) := by decide +kernel
theorem d_Km_headAt_11 : decode m_Km_headAt.2.1 11 = .ok (.if_icmp .ge 35, 3) := by decide +kernel
theorem d_Km_headAt_14 : decode m_Km_headAt.2.1 14 = .ok (.iload_n 1, 1) := by decide +kernel
theorem d_Km_headAt_15 : decode m_Km_headAt.2.1 15 = .ok (.iload_n 3, 1) := by decide +kernel
theorem d_Km_headAt_16 : decode m_Km_headAt.2.1 16 = .ok (.iadd, 1) := by decide +kernel
theorem d_Km_headAt_17 : decode m_Km_headAt.2.1 17 = .ok (.aload_n 0, 1) := by decide +kernel
theorem d_Km_headAt_18 : decode m_Km_headAt.2.1 18 = .ok (.getfield 57, 3) := by decide +kernel
theorem d_Km_headAt_21 : decode m_Km_headAt.2.1 21 = .ok (.if_icmp .ge 25, 3) := by decide +kernel
theorem d_Km_headAt_24 : decode m_Km_headAt.2.1 24 = .ok (.iload_n 2, 1) := by decide +kernel
theorem d_Km_headAt_25 : decode m_Km_headAt.2.1 25 = .ok (.aload_n 0, 1) := by decide +kernel
theorem d_Km_headAt_26 : decode m_Km_headAt.2.1 26 = .ok (.getfield 15, 3) := by decide +kernel
theorem d_Km_headAt_29 : decode m_Km_headAt.2.1 29 = .ok (.iload_n 1, 1) := by decide +kernel
theorem d_Km_headAt_30 : decode m_Km_headAt.2.1 30 = .ok (.iload_n 3, 1) := by decide +kernel
theorem d_Km_headAt_31 : decode m_Km_headAt.2.1 31 = .ok (.iadd, 1) := by decide +kernel
theorem d_Km_headAt_32 : decode m_Km_headAt.2.1 32 = .ok (.caload, 1) := by decide +kernel
theorem d_Km_headAt_33 : decode m_Km_headAt.2.1 33 = .ok (.bipush 8, 2) := by decide +kernel
theorem d_Km_headAt_35 : decode m_Km_headAt.2.1 35 = .ok (.iload_n 3, 1) := by decide +kernel
theorem d_Km_headAt_36 : decode m_Km_headAt.2.1 36 = .ok (.imul, 1) := by decide +kernel
theorem d_Km_headAt_37 : decode m_Km_headAt.2.1 37 = .ok (.ishl, 1) := by decide +kernel
theorem d_Km_headAt_38 : decode m_Km_headAt.2.1 38 = .ok (.ior, 1) := by decide +kernel
theorem d_Km_headAt_39 : decode m_Km_headAt.2.1 39 = .ok (.istore_n 2, 1) := by decide +kernel
theorem d_Km_headAt_40 : decode m_Km_headAt.2.1 40 = .ok (.iinc 3 1, 3) := by decide +kernel
theorem d_Km_headAt_43 : decode m_Km_headAt.2.1 43 = .ok (.goto (-34), 3) := by decide +kernel
theorem d_Km_headAt_46 : decode m_Km_headAt.2.1 46 = .ok (.iload_n 2, 1) := by decide +kernel
theorem d_Km_headAt_47 : decode m_Km_headAt.2.1 47 = .ok (.ireturn, 1) := by decide +kernel
theorem d_Km_isBlocked_0 : decode m_Km_isBlocked.2.1 0 = .ok (.iconst 0, 1) := by decide +kernel
theorem d_Km_isBlocked_1 : decode m_Km_isBlocked.2.1 1 = .ok (.istore_n 3, 1) := by decide +kernel
theorem d_Km_isBlocked_2 : decode m_Km_isBlocked.2.1 2 = .ok (.iload_n 3, 1) := by decide +kernel
theorem d_Km_isBlocked_3 : decode m_Km_isBlocked.2.1 3 = .ok (.iload_n 2, 1) := by decide +kernel
theorem d_Km_isBlocked_4 : decode m_Km_isBlocked.2.1 4 = .ok (.if_icmp .ge 27, 3) := by decide +kernel
theorem d_Km_isBlocked_7 : decode m_Km_isBlocked.2.1 7 = .ok (.aload_n 0, 1) := by decide +kernel
theorem d_Km_isBlocked_8 : decode m_Km_isBlocked.2.1 8 = .ok (.getfield 19, 3) := by decide +kernel
theorem d_Km_isBlocked_11 : decode m_Km_isBlocked.2.1 11 = .ok (.iload_n 3, 1) := by decide +kernel
theorem d_Km_isBlocked_12 : decode m_Km_isBlocked.2.1 12 = .ok (.caload, 1) := by decide +kernel
theorem d_Km_isBlocked_13 : decode m_Km_isBlocked.2.1 13 = .ok (.invokestatic 69, 3) := by decide +kernel
theorem d_Km_isBlocked_16 : decode m_Km_isBlocked.2.1 16 = .ok (.iload_n 1, 1) := by decide +kernel
theorem d_Km_isBlocked_17 : decode m_Km_isBlocked.2.1 17 = .ok (.invokestatic 69, 3) := by decide +kernel
theorem d_Km_isBlocked_20 : decode m_Km_isBlocked.2.1 20 = .ok (.if_icmp .ne 5, 3) := by decide +kernel
theorem d_Km_isBlocked_23 : decode m_Km_isBlocked.2.1 23 = .ok (.iconst 1, 1) := by decide +kernel
theorem d_Km_isBlocked_24 : decode m_Km_isBlocked.2.1 24 = .ok (.ireturn, 1) := by decide +kernel
theorem d_Km_isBlocked_25 : decode m_Km_isBlocked.2.1 25 = .ok (.iinc 3 1, 3) := by decide +kernel
theorem d_Km_isBlocked_28 : decode m_Km_isBlocked.2.1 28 = .ok (.goto (-26), 3) := by decide +kernel
theorem d_Km_isBlocked_31 : decode m_Km_isBlocked.2.1 31 = .ok (.iconst 0, 1) := by decide +kernel
theorem d_Km_isBlocked_32 : decode m_Km_isBlocked.2.1 32 = .ok (.ireturn, 1) := by decide +kernel
theorem d_Km_findLonger_0 : decode m_Km_findLonger.2.1 0 = .ok (.aload_n 0, 1) := by decide +kernel
theorem d_Km_findLonger_1 : decode m_Km_findLonger.2.1 1 = .ok (.getfield 9, 3) := by decide +kernel
theorem d_Km_findLonger_4 : decode m_Km_findLonger.2.1 4 = .ok (.getfield 94, 3) := by decide +kernel
theorem d_Km_findLonger_7 : decode m_Km_findLonger.2.1 7 = .ok (.iload_n 1, 1) := by decide +kernel
theorem d_Km_findLonger_8 : decode m_Km_findLonger.2.1 8 = .ok (.iaload, 1) := by decide +kernel
theorem d_Km_findLonger_9 : decode m_Km_findLonger.2.1 9 = .ok (.istore_n 3, 1) := by decide +kernel
theorem d_Km_findLonger_10 : decode m_Km_findLonger.2.1 10 = .ok (.iload_n 3, 1) := by decide +kernel
theorem d_Km_findLonger_11 : decode m_Km_findLonger.2.1 11 = .ok (.invokestatic 98, 3) := by decide +kernel
theorem d_Km_findLonger_14 : decode m_Km_findLonger.2.1 14 = .ok (.istore 4, 2) := by decide +kernel
theorem d_Km_findLonger_16 : decode m_Km_findLonger.2.1 16 = .ok (.iload 4, 2) := by decide +kernel
theorem d_Km_findLonger_18 : decode m_Km_findLonger.2.1 18 = .ok (.iconst 3, 1) := by decide +kernel
theorem d_Km_findLonger_19 : decode m_Km_findLonger.2.1 19 = .ok (.if_icmp .lt 7, 3) := by decide +kernel
theorem d_Km_findLonger_22 : decode m_Km_findLonger.2.1 22 = .ok (.iconst (-1), 1) := by decide +kernel
theorem d_Km_findLonger_23 : decode m_Km_findLonger.2.1 23 = .ok (.goto 17, 3) := by decide +kernel
theorem d_Km_findLonger_26 : decode m_Km_findLonger.2.1 26 = .ok (.aload_n 0, 1) := by decide +kernel
theorem d_Km_findLonger_27 : decode m_Km_findLonger.2.1 27 = .ok (.getfield 9, 3) := by decide +kernel
theorem d_Km_findLonger_30 : decode m_Km_findLonger.2.1 30 = .ok (.iload_n 3, 1) := by decide +kernel
theorem d_Km_findLonger_31 : decode m_Km_findLonger.2.1 31 = .ok (.iload 4, 2) := by decide +kernel
theorem d_Km_findLonger_33 : decode m_Km_findLonger.2.1 33 = .ok (.iload_n 2, 1) := by decide +kernel
theorem d_Km_findLonger_34 : decode m_Km_findLonger.2.1 34 = .ok (.invokestatic 113, 3) := by decide +kernel
theorem d_Km_findLonger_37 : decode m_Km_findLonger.2.1 37 = .ok (.invokevirtual 117, 3) := by decide +kernel
theorem d_Km_findLonger_40 : decode m_Km_findLonger.2.1 40 = .ok (.ireturn, 1) := by decide +kernel
theorem d_Km_addEntry_0 : decode m_Km_addEntry.2.1 0 = .ok (.aload_n 0, 1) := by decide +kernel
theorem d_Km_addEntry_1 : decode m_Km_addEntry.2.1 1 = .ok (.aload_n 0, 1) := by decide +kernel
theorem d_Km_addEntry_2 : decode m_Km_addEntry.2.1 2 = .ok (.getfield 9, 3) := by decide +kernel
theorem d_Km_addEntry_5 : decode m_Km_addEntry.2.1 5 = .ok (.getfield 94, 3) := by decide +kernel
theorem d_Km_addEntry_8 : decode m_Km_addEntry.2.1 8 = .ok (.iload_n 1, 1) := by decide +kernel
theorem d_Km_addEntry_9 : decode m_Km_addEntry.2.1 9 = .ok (.iaload, 1) := by decide +kernel
theorem d_Km_addEntry_10 : decode m_Km_addEntry.2.1 10 = .ok (.invokestatic 120, 3) := by decide +kernel
theorem d_Km_addEntry_13 : decode m_Km_addEntry.2.1 13 = .ok (.putfield 76, 3) := by decide +kernel
theorem d_Km_addEntry_16 : decode m_Km_addEntry.2.1 16 = .ok (.aload_n 0, 1) := by decide +kernel
theorem d_Km_addEntry_17 : decode m_Km_addEntry.2.1 17 = .ok (.getfield 31, 3) := by decide +kernel
theorem d_Km_addEntry_20 : decode m_Km_addEntry.2.1 20 = .ok (.ifCond .eq 29, 3) := by decide +kernel
theorem d_Km_addEntry_23 : decode m_Km_addEntry.2.1 23 = .ok (.aload_n 0, 1) := by decide +kernel
theorem d_Km_addEntry_24 : decode m_Km_addEntry.2.1 24 = .ok (.getfield 76, 3) := by decide +kernel
theorem d_Km_addEntry_27 : decode m_Km_addEntry.2.1 27 = .ok (.ifCond .eq 22, 3) := by decide +kernel
theorem d_Km_addEntry_30 : decode m_Km_addEntry.2.1 30 = .ok (.aload_n 0, 1) := by decide +kernel
theorem d_Km_addEntry_31 : decode m_Km_addEntry.2.1 31 = .ok (.iconst 0, 1) := by decide +kernel
theorem d_Km_addEntry_32 : decode m_Km_addEntry.2.1 32 = .ok (.iconst 0, 1) := by decide +kernel
theorem d_Km_addEntry_33 : decode m_Km_addEntry.2.1 33 = .ok (.iconst 0, 1) := by decide +kernel
theorem d_Km_addEntry_34 : decode m_Km_addEntry.2.1 34 = .ok (.aload_n 0, 1) := by decide +kernel
theorem d_Km_addEntry_35 : decode m_Km_addEntry.2.1 35 = .ok (.getfield 9, 3) := by decide +kernel
theorem d_Km_addEntry_38 : decode m_Km_addEntry.2.1 38 = .ok (.getfield 123, 3) := by decide +kernel
theorem d_Km_addEntry_41 : decode m_Km_addEntry.2.1 41 = .ok (.iload_n 1, 1) := by decide +kernel
theorem d_Km_addEntry_42 : decode m_Km_addEntry.2.1 42 = .ok (.iaload, 1) := by decide +kernel
theorem d_Km_addEntry_43 : decode m_Km_addEntry.2.1 43 = .ok (.invokevirtual 126, 3) := by decide +kernel
theorem d_Km_addEntry_46 : decode m_Km_addEntry.2.1 46 = .ok (.goto 37, 3) := by decide +kernel
theorem d_Km_addEntry_49 : decode m_Km_addEntry.2.1 49 = .ok (.aload_n 0, 1) := by decide +kernel
theorem d_Km_addEntry_50 : decode m_Km_addEntry.2.1 50 = .ok (.aload_n 0, 1) := by decide +kernel
theorem d_Km_addEntry_51 : decode m_Km_addEntry.2.1 51 = .ok (.getfield 9, 3) := by decide +kernel
theorem d_Km_addEntry_54 : decode m_Km_addEntry.2.1 54 = .ok (.getfield 123, 3) := by decide +kernel
theorem d_Km_addEntry_57 : decode m_Km_addEntry.2.1 57 = .ok (.iload_n 1, 1) := by decide +kernel
theorem d_Km_addEntry_58 : decode m_Km_addEntry.2.1 58 = .ok (.iaload, 1) := by decide +kernel
theorem d_Km_addEntry_59 : decode m_Km_addEntry.2.1 59 = .ok (.aload_n 0, 1) := by decide +kernel
theorem d_Km_addEntry_60 : decode m_Km_addEntry.2.1 60 = .ok (.getfield 9, 3) := by decide +kernel
theorem d_Km_addEntry_63 : decode m_Km_addEntry.2.1 63 = .ok (.getfield 130, 3) := by decide +kernel
theorem d_Km_addEntry_66 : decode m_Km_addEntry.2.1 66 = .ok (.iload_n 1, 1) := by decide +kernel
theorem d_Km_addEntry_67 : decode m_Km_addEntry.2.1 67 = .ok (.iaload, 1) := by decide +kernel
theorem d_Km_addEntry_68 : decode m_Km_addEntry.2.1 68 = .ok (.aload_n 0, 1) := by decide +kernel
theorem d_Km_addEntry_69 : decode m_Km_addEntry.2.1 69 = .ok (.getfield 9, 3) := by decide +kernel
theorem d_Km_addEntry_72 : decode m_Km_addEntry.2.1 72 = .ok (.getfield 133, 3) := by decide +kernel
theorem d_Km_addEntry_75 : decode m_Km_addEntry.2.1 75 = .ok (.iload_n 1, 1) := by decide +kernel
theorem d_Km_addEntry_76 : decode m_Km_addEntry.2.1 76 = .ok (.iaload, 1) := by decide +kernel
theorem d_Km_addEntry_77 : decode m_Km_addEntry.2.1 77 = .ok (.sipush 1000, 3) := by decide +kernel
theorem d_Km_addEntry_80 : decode m_Km_addEntry.2.1 80 = .ok (.invokevirtual 126, 3) := by decide +kernel
theorem d_Km_addEntry_83 : decode m_Km_addEntry.2.1 83 = .ok (.return_, 1) := by decide +kernel
theorem d_Km_addMark_0 : decode m_Km_addMark.2.1 0 = .ok (.aload_n 0, 1) := by decide +kernel
theorem d_Km_addMark_1 : decode m_Km_addMark.2.1 1 = .ok (.getfield 31, 3) := by decide +kernel
theorem d_Km_addMark_4 : decode m_Km_addMark.2.1 4 = .ok (.ifCond .eq 10, 3) := by decide +kernel
theorem d_Km_addMark_7 : decode m_Km_addMark.2.1 7 = .ok (.aload_n 0, 1) := by decide +kernel
theorem d_Km_addMark_8 : decode m_Km_addMark.2.1 8 = .ok (.getfield 76, 3) := by decide +kernel
theorem d_Km_addMark_11 : decode m_Km_addMark.2.1 11 = .ok (.ifCond .ne 17, 3) := by decide +kernel
theorem d_Km_addMark_14 : decode m_Km_addMark.2.1 14 = .ok (.aload_n 0, 1) := by decide +kernel
theorem d_Km_addMark_15 : decode m_Km_addMark.2.1 15 = .ok (.iconst 0, 1) := by decide +kernel
theorem d_Km_addMark_16 : decode m_Km_addMark.2.1 16 = .ok (.bipush 100, 2) := by decide +kernel
theorem d_Km_addMark_18 : decode m_Km_addMark.2.1 18 = .ok (.iload_n 1, 1) := by decide +kernel
theorem d_Km_addMark_19 : decode m_Km_addMark.2.1 19 = .ok (.iadd, 1) := by decide +kernel
theorem d_Km_addMark_20 : decode m_Km_addMark.2.1 20 = .ok (.bipush 48, 2) := by decide +kernel
theorem d_Km_addMark_22 : decode m_Km_addMark.2.1 22 = .ok (.isub, 1) := by decide +kernel
theorem d_Km_addMark_23 : decode m_Km_addMark.2.1 23 = .ok (.iconst 1, 1) := by decide +kernel
theorem d_Km_addMark_24 : decode m_Km_addMark.2.1 24 = .ok (.iconst 0, 1) := by decide +kernel
theorem d_Km_addMark_25 : decode m_Km_addMark.2.1 25 = .ok (.invokevirtual 126, 3) := by decide +kernel
theorem d_Km_addMark_28 : decode m_Km_addMark.2.1 28 = .ok (.return_, 1) := by decide +kernel
theorem d_Km_addElement_0 : decode m_Km_addElement.2.1 0 = .ok (.aload_n 0, 1) := by decide +kernel
theorem d_Km_addElement_1 : decode m_Km_addElement.2.1 1 = .ok (.getfield 73, 3) := by decide +kernel
theorem d_Km_addElement_4 : decode m_Km_addElement.2.1 4 = .ok (.bipush 12, 2) := by decide +kernel
theorem d_Km_addElement_6 : decode m_Km_addElement.2.1 6 = .ok (.if_icmp .lt 4, 3) := by decide +kernel
theorem d_Km_addElement_9 : decode m_Km_addElement.2.1 9 = .ok (.return_, 1) := by decide +kernel
theorem d_Km_addElement_10 : decode m_Km_addElement.2.1 10 = .ok (.aload_n 0, 1) := by decide +kernel
theorem d_Km_addElement_11 : decode m_Km_addElement.2.1 11 = .ok (.getfield 24, 3) := by decide +kernel
theorem d_Km_addElement_14 : decode m_Km_addElement.2.1 14 = .ok (.iconst 0, 1) := by decide +kernel
theorem d_Km_addElement_15 : decode m_Km_addElement.2.1 15 = .ok (.aaload, 1) := by decide +kernel
theorem d_Km_addElement_16 : decode m_Km_addElement.2.1 16 = .ok (.aload_n 0, 1) := by decide +kernel
theorem d_Km_addElement_17 : decode m_Km_addElement.2.1 17 = .ok (.getfield 73, 3) := by decide +kernel
theorem d_Km_addElement_20 : decode m_Km_addElement.2.1 20 = .ok (.iload_n 1, 1) := by decide +kernel
theorem d_Km_addElement_21 : decode m_Km_addElement.2.1 21 = .ok (.iastore, 1) := by decide +kernel
theorem d_Km_addElement_22 : decode m_Km_addElement.2.1 22 = .ok (.aload_n 0, 1) := by decide +kernel
theorem d_Km_addElement_23 : decode m_Km_addElement.2.1 23 = .ok (.getfield 24, 3) := by decide +kernel
theorem d_Km_addElement_26 : decode m_Km_addElement.2.1 26 = .ok (.iconst 1, 1) := by decide +kernel
theorem d_Km_addElement_27 : decode m_Km_addElement.2.1 27 = .ok (.aaload, 1) := by decide +kernel
theorem d_Km_addElement_28 : decode m_Km_addElement.2.1 28 = .ok (.aload_n 0, 1) := by decide +kernel
theorem d_Km_addElement_29 : decode m_Km_addElement.2.1 29 = .ok (.getfield 73, 3) := by decide +kernel
theorem d_Km_addElement_32 : decode m_Km_addElement.2.1 32 = .ok (.iload_n 2, 1) := by decide +kernel
theorem d_Km_addElement_33 : decode m_Km_addElement.2.1 33 = .ok (.iastore, 1) := by decide +kernel
theorem d_Km_addElement_34 : decode m_Km_addElement.2.1 34 = .ok (.aload_n 0, 1) := by decide +kernel
theorem d_Km_addElement_35 : decode m_Km_addElement.2.1 35 = .ok (.getfield 24, 3) := by decide +kernel
theorem d_Km_addElement_38 : decode m_Km_addElement.2.1 38 = .ok (.iconst 2, 1) := by decide +kernel
theorem d_Km_addElement_39 : decode m_Km_addElement.2.1 39 = .ok (.aaload, 1) := by decide +kernel
theorem d_Km_addElement_40 : decode m_Km_addElement.2.1 40 = .ok (.aload_n 0, 1) := by decide +kernel
theorem d_Km_addElement_41 : decode m_Km_addElement.2.1 41 = .ok (.getfield 73, 3) := by decide +kernel
theorem d_Km_addElement_44 : decode m_Km_addElement.2.1 44 = .ok (.iload_n 3, 1) := by decide +kernel
theorem d_Km_addElement_45 : decode m_Km_addElement.2.1 45 = .ok (.iastore, 1) := by decide +kernel
theorem d_Km_addElement_46 : decode m_Km_addElement.2.1 46 = .ok (.aload_n 0, 1) := by decide +kernel
theorem d_Km_addElement_47 : decode m_Km_addElement.2.1 47 = .ok (.getfield 24, 3) := by decide +kernel
theorem d_Km_addElement_50 : decode m_Km_addElement.2.1 50 = .ok (.iconst 3, 1) := by decide +kernel
theorem d_Km_addElement_51 : decode m_Km_addElement.2.1 51 = .ok (.aaload, 1) := by decide +kernel
theorem d_Km_addElement_52 : decode m_Km_addElement.2.1 52 = .ok (.aload_n 0, 1) := by decide +kernel
theorem d_Km_addElement_53 : decode m_Km_addElement.2.1 53 = .ok (.getfield 73, 3) := by decide +kernel
theorem d_Km_addElement_56 : decode m_Km_addElement.2.1 56 = .ok (.aload_n 0, 1) := by decide +kernel
theorem d_Km_addElement_57 : decode m_Km_addElement.2.1 57 = .ok (.getfield 31, 3) := by decide +kernel
theorem d_Km_addElement_60 : decode m_Km_addElement.2.1 60 = .ok (.ifCond .eq 8, 3) := by decide +kernel
theorem d_Km_addElement_63 : decode m_Km_addElement.2.1 63 = .ok (.iload 4, 2) := by decide +kernel
theorem d_Km_addElement_65 : decode m_Km_addElement.2.1 65 = .ok (.goto 4, 3) := by decide +kernel
theorem d_Km_addElement_68 : decode m_Km_addElement.2.1 68 = .ok (.iconst 0, 1) := by decide +kernel
theorem d_Km_addElement_69 : decode m_Km_addElement.2.1 69 = .ok (.iastore, 1) := by decide +kernel
theorem d_Km_addElement_70 : decode m_Km_addElement.2.1 70 = .ok (.aload_n 0, 1) := by decide +kernel
theorem d_Km_addElement_71 : decode m_Km_addElement.2.1 71 = .ok (.dup, 1) := by decide +kernel
theorem d_Km_addElement_72 : decode m_Km_addElement.2.1 72 = .ok (.getfield 73, 3) := by decide +kernel
theorem d_Km_addElement_75 : decode m_Km_addElement.2.1 75 = .ok (.iconst 1, 1) := by decide +kernel
theorem d_Km_addElement_76 : decode m_Km_addElement.2.1 76 = .ok (.iadd, 1) := by decide +kernel
theorem d_Km_addElement_77 : decode m_Km_addElement.2.1 77 = .ok (.putfield 73, 3) := by decide +kernel
theorem d_Km_addElement_80 : decode m_Km_addElement.2.1 80 = .ok (.return_, 1) := by decide +kernel
theorem d_Km_writeLevel_0 : decode m_Km_writeLevel.2.1 0 = .ok (.aload_n 0, 1) := by decide +kernel
theorem d_Km_writeLevel_1 : decode m_Km_writeLevel.2.1 1 = .ok (.getfield 35, 3) := by decide +kernel
theorem d_Km_writeLevel_4 : decode m_Km_writeLevel.2.1 4 = .ok (.ifCond .eq 12, 3) := by decide +kernel
theorem d_Km_writeLevel_7 : decode m_Km_writeLevel.2.1 7 = .ok (.iload_n 1, 1) := by decide +kernel
theorem d_Km_writeLevel_8 : decode m_Km_writeLevel.2.1 8 = .ok (.iconst 1, 1) := by decide +kernel
theorem d_Km_writeLevel_9 : decode m_Km_writeLevel.2.1 9 = .ok (.if_icmp .ne 7, 3) := by decide +kernel
theorem d_Km_writeLevel_12 : decode m_Km_writeLevel.2.1 12 = .ok (.iconst 1, 1) := by decide +kernel
theorem d_Km_writeLevel_13 : decode m_Km_writeLevel.2.1 13 = .ok (.goto 4, 3) := by decide +kernel
theorem d_Km_writeLevel_16 : decode m_Km_writeLevel.2.1 16 = .ok (.iconst 0, 1) := by decide +kernel
theorem d_Km_writeLevel_17 : decode m_Km_writeLevel.2.1 17 = .ok (.istore_n 3, 1) := by decide +kernel
theorem d_Km_writeLevel_18 : decode m_Km_writeLevel.2.1 18 = .ok (.iconst 0, 1) := by decide +kernel
theorem d_Km_writeLevel_19 : decode m_Km_writeLevel.2.1 19 = .ok (.istore 4, 2) := by decide +kernel
theorem d_Km_writeLevel_21 : decode m_Km_writeLevel.2.1 21 = .ok (.iload 4, 2) := by decide +kernel
theorem d_Km_writeLevel_23 : decode m_Km_writeLevel.2.1 23 = .ok (.aload_n 0, 1) := by decide +kernel
theorem d_Km_writeLevel_24 : decode m_Km_writeLevel.2.1 24 = .ok (.getfield 73, 3) := by decide +kernel
theorem d_Km_writeLevel_27 : decode m_Km_writeLevel.2.1 27 = .ok (.if_icmp .ge 47, 3) := by decide +kernel
theorem d_Km_writeLevel_30 : decode m_Km_writeLevel.2.1 30 = .ok (.aload_n 0, 1) := by decide +kernel
theorem d_Km_writeLevel_31 : decode m_Km_writeLevel.2.1 31 = .ok (.getfield 24, 3) := by decide +kernel
theorem d_Km_writeLevel_34 : decode m_Km_writeLevel.2.1 34 = .ok (.iload_n 1, 1) := by decide +kernel
theorem d_Km_writeLevel_35 : decode m_Km_writeLevel.2.1 35 = .ok (.aaload, 1) := by decide +kernel
theorem d_Km_writeLevel_36 : decode m_Km_writeLevel.2.1 36 = .ok (.iload_n 3, 1) := by decide +kernel
theorem d_Km_writeLevel_37 : decode m_Km_writeLevel.2.1 37 = .ok (.ifCond .eq 15, 3) := by decide +kernel
theorem d_Km_writeLevel_40 : decode m_Km_writeLevel.2.1 40 = .ok (.aload_n 0, 1) := by decide +kernel
theorem d_Km_writeLevel_41 : decode m_Km_writeLevel.2.1 41 = .ok (.getfield 73, 3) := by decide +kernel
theorem d_Km_writeLevel_44 : decode m_Km_writeLevel.2.1 44 = .ok (.iconst 1, 1) := by decide +kernel
theorem d_Km_writeLevel_45 : decode m_Km_writeLevel.2.1 45 = .ok (.isub, 1) := by decide +kernel
theorem d_Km_writeLevel_46 : decode m_Km_writeLevel.2.1 46 = .ok (.iload 4, 2) := by decide +kernel
theorem d_Km_writeLevel_48 : decode m_Km_writeLevel.2.1 48 = .ok (.isub, 1) := by decide +kernel
theorem d_Km_writeLevel_49 : decode m_Km_writeLevel.2.1 49 = .ok (.goto 5, 3) := by decide +kernel
theorem d_Km_writeLevel_52 : decode m_Km_writeLevel.2.1 52 = .ok (.iload 4, 2) := by decide +kernel
theorem d_Km_writeLevel_54 : decode m_Km_writeLevel.2.1 54 = .ok (.iaload, 1) := by decide +kernel
theorem d_Km_writeLevel_55 : decode m_Km_writeLevel.2.1 55 = .ok (.istore 5, 2) := by decide +kernel
theorem d_Km_writeLevel_57 : decode m_Km_writeLevel.2.1 57 = .ok (.iload 5, 2) := by decide +kernel
theorem d_Km_writeLevel_59 : decode m_Km_writeLevel.2.1 59 = .ok (.ifCond .eq 9, 3) := by decide +kernel
theorem d_Km_writeLevel_62 : decode m_Km_writeLevel.2.1 62 = .ok (.aload_n 2, 1) := by decide +kernel
theorem d_Km_writeLevel_63 : decode m_Km_writeLevel.2.1 63 = .ok (.iload 5, 2) := by decide +kernel
theorem d_Km_writeLevel_65 : decode m_Km_writeLevel.2.1 65 = .ok (.invokevirtual 136, 3) := by decide +kernel
theorem d_Km_writeLevel_68 : decode m_Km_writeLevel.2.1 68 = .ok (.iinc 4 1, 3) := by decide +kernel
theorem d_Km_writeLevel_71 : decode m_Km_writeLevel.2.1 71 = .ok (.goto (-50), 3) := by decide +kernel
theorem d_Km_writeLevel_74 : decode m_Km_writeLevel.2.1 74 = .ok (.aload_n 2, 1) := by decide +kernel
theorem d_Km_writeLevel_75 : decode m_Km_writeLevel.2.1 75 = .ok (.iconst 0, 1) := by decide +kernel
theorem d_Km_writeLevel_76 : decode m_Km_writeLevel.2.1 76 = .ok (.invokevirtual 136, 3) := by decide +kernel
theorem d_Km_writeLevel_79 : decode m_Km_writeLevel.2.1 79 = .ok (.return_, 1) := by decide +kernel
end
section
theorem d_Mo_init_0 : decode m_Mo_init.2.1 0 = .ok (.aload_n 0, 1) := by decide +kernel
theorem d_Mo_init_1 : decode m_Mo_init.2.1 1 = .ok (.invokespecial 1, 3) := by decide +kernel
theorem d_Mo_init_4 : decode m_Mo_init.2.1 4 = .ok (.aload_n 0, 1) := by decide +kernel
theorem d_Mo_init_5 : decode m_Mo_init.2.1 5 = .ok (.bipush 30, 2) := by decide +kernel
theorem d_Mo_init_7 : decode m_Mo_init.2.1 7 = .ok (.newarray .int, 2) := by decide +kernel
theorem d_Mo_init_9 : decode m_Mo_init.2.1 9 = .ok (.putfield 7, 3) := by decide +kernel
theorem d_Mo_init_12 : decode m_Mo_init.2.1 12 = .ok (.aload_n 0, 1) := by decide +kernel
theorem d_Mo_init_13 : decode m_Mo_init.2.1 13 = .ok (.bipush 30, 2) := by decide +kernel
theorem d_Mo_init_15 : decode m_Mo_init.2.1 15 = .ok (.newarray .int, 2) := by decide +kernel
theorem d_Mo_init_17 : decode m_Mo_init.2.1 17 = .ok (.putfield 13, 3) := by decide +kernel
theorem d_Mo_init_20 : decode m_Mo_init.2.1 20 = .ok (.aload_n 0, 1) := by decide +kernel
theorem d_Mo_init_21 : decode m_Mo_init.2.1 21 = .ok (.bipush 30, 2) := by decide +kernel
theorem d_Mo_init_23 : decode m_Mo_init.2.1 23 = .ok (.newarray .int, 2) := by decide +kernel
theorem d_Mo_init_25 : decode m_Mo_init.2.1 25 = .ok (.putfield 16, 3) := by decide +kernel
theorem d_Mo_init_28 : decode m_Mo_init.2.1 28 = .ok (.aload_n 0, 1) := by decide +kernel
theorem d_Mo_init_29 : decode m_Mo_init.2.1 29 = .ok (.bipush 30, 2) := by decide +kernel
theorem d_Mo_init_31 : decode m_Mo_init.2.1 31 = .ok (.newarray .int, 2) := by decide +kernel
theorem d_Mo_init_33 : decode m_Mo_init.2.1 33 = .ok (.putfield 19, 3) := by decide +kernel
theorem d_Mo_init_36 : decode m_Mo_init.2.1 36 = .ok (.aload_n 0, 1) := by decide +kernel
theorem d_Mo_init_37 : decode m_Mo_init.2.1 37 = .ok (.bipush 24, 2) := by decide +kernel
theorem d_Mo_init_39 : decode m_Mo_init.2.1 39 = .ok (.newarray .int, 2) := by decide +kernel
theorem d_Mo_init_41 : decode m_Mo_init.2.1 41 = .ok (.putfield 22, 3) := by decide +kernel
theorem d_Mo_init_44 : decode m_Mo_init.2.1 44 = .ok (.aload_n 0, 1) := by decide +kernel
theorem d_Mo_init_45 : decode m_Mo_init.2.1 45 = .ok (.sipush 144, 3) := by decide +kernel
theorem d_Mo_init_48 : decode m_Mo_init.2.1 48 = .ok (.newarray .int, 2) := by decide +kernel
theorem d_Mo_init_50 : decode m_Mo_init.2.1 50 = .ok (.putfield 25, 3) := by decide +kernel
theorem d_Mo_init_53 : decode m_Mo_init.2.1 53 = .ok (.aload_n 0, 1) := by decide +kernel
theorem d_Mo_init_54 : decode m_Mo_init.2.1 54 = .ok (.bipush 12, 2) := by decide +kernel
theorem d_Mo_init_56 : decode m_Mo_init.2.1 56 = .ok (.newarray .int, 2) := by decide +kernel
theorem d_Mo_init_58 : decode m_Mo_init.2.1 58 = .ok (.putfield 28, 3) := by decide +kernel
theorem d_Mo_init_61 : decode m_Mo_init.2.1 61 = .ok (.aload_n 0, 1) := by decide +kernel
theorem d_Mo_init_62 : decode m_Mo_init.2.1 62 = .ok (.bipush 12, 2) := by decide +kernel
theorem d_Mo_init_64 : decode m_Mo_init.2.1 64 = .ok (.newarray .int, 2) := by decide +kernel
theorem d_Mo_init_66 : decode m_Mo_init.2.1 66 = .ok (.putfield 31, 3) := by decide +kernel
theorem d_Mo_init_69 : decode m_Mo_init.2.1 69 = .ok (.aload_n 0, 1) := by decide +kernel
theorem d_Mo_init_70 : decode m_Mo_init.2.1 70 = .ok (.iconst 3, 1) := by decide +kernel
theorem d_Mo_init_71 : decode m_Mo_init.2.1 71 = .ok (.putfield 34, 3) := by decide +kernel
theorem d_Mo_init_74 : decode m_Mo_init.2.1 74 = .ok (.aload_n 0, 1) := by decide +kernel
theorem d_Mo_init_75 : decode m_Mo_init.2.1 75 = .ok (.bipush 12, 2) := by decide +kernel
theorem d_Mo_init_77 : decode m_Mo_init.2.1 77 = .ok (.newarray .int, 2) := by decide +kernel
theorem d_Mo_init_79 : decode m_Mo_init.2.1 79 = .ok (.putfield 38, 3) := by decide +kernel
theorem d_Mo_init_82 : decode m_Mo_init.2.1 82 = .ok (.aload_n 0, 1) := by decide +kernel
theorem d_Mo_init_83 : decode m_Mo_init.2.1 83 = .ok (.bipush 48, 2) := by decide +kernel
theorem d_Mo_init_85 : decode m_Mo_init.2.1 85 = .ok (.newarray .int, 2) := by decide +kernel
theorem d_Mo_init_87 : decode m_Mo_init.2.1 87 = .ok (.putfield 41, 3) := by decide +kernel
theorem d_Mo_init_90 : decode m_Mo_init.2.1 90 = .ok (.aload_n 0, 1) := by decide +kernel
theorem d_Mo_init_91 : decode m_Mo_init.2.1 91 = .ok (.sipush 768, 3) := by decide +kernel
theorem d_Mo_init_94 : decode m_Mo_init.2.1 94 = .ok (.newarray .int, 2) := by decide +kernel
theorem d_Mo_init_96 : decode m_Mo_init.2.1 96 = .ok (.putfield 44, 3) := by decide +kernel
theorem d_Mo_init_99 : decode m_Mo_init.2.1 99 = .ok (.aload_n 0, 1) := by decide +kernel
theorem d_Mo_init_100 : decode m_Mo_init.2.1 100 = .ok (.bipush 12, 2) := by decide +kernel
theorem d_Mo_init_102 : decode m_Mo_init.2.1 102 = .ok (.newarray .int, 2) := by decide +kernel
theorem d_Mo_init_104 : decode m_Mo_init.2.1 104 = .ok (.putfield 47, 3) := by decide +kernel
theorem d_Mo_init_107 : decode m_Mo_init.2.1 107 = .ok (.aload_n 0, 1) := by decide +kernel
theorem d_Mo_init_108 : decode m_Mo_init.2.1 108 = .ok (.getfield 7, 3) := by decide +kernel
theorem d_Mo_init_111 : decode m_Mo_init.2.1 111 = .ok (.iconst 0, 1) := by decide +kernel
theorem d_Mo_init_112 : decode m_Mo_init.2.1 112 = .ok (.bipush 32, 2) := by decide +kernel
theorem d_Mo_init_114 : decode m_Mo_init.2.1 114 = .ok (.iastore, 1) := by decide +kernel
theorem d_Mo_init_115 : decode m_Mo_init.2.1 115 = .ok (.aload_n 0, 1) := by decide +kernel
theorem d_Mo_init_116 : decode m_Mo_init.2.1 116 = .ok (.getfield 7, 3) := by decide +kernel
theorem d_Mo_init_119 : decode m_Mo_init.2.1 119 = .ok (.iconst 1, 1) := by decide +kernel
theorem d_Mo_init_120 : decode m_Mo_init.2.1 120 = .ok (.bipush 45, 2) := by decide +kernel
theorem d_Mo_init_122 : decode m_Mo_init.2.1 122 = .ok (.iastore, 1) := by decide +kernel
theorem d_Mo_init_123 : decode m_Mo_init.2.1 123 = .ok (.aload_n 0, 1) := by decide +kernel
theorem d_Mo_init_124 : decode m_Mo_init.2.1 124 = .ok (.getfield 13, 3) := by decide +kernel
theorem d_Mo_init_127 : decode m_Mo_init.2.1 127 = .ok (.iconst 0, 1) := by decide +kernel
theorem d_Mo_init_128 : decode m_Mo_init.2.1 128 = .ok (.iconst 1, 1) := by decide +kernel
theorem d_Mo_init_129 : decode m_Mo_init.2.1 129 = .ok (.iastore, 1) := by decide +kernel
theorem d_Mo_init_130 : decode m_Mo_init.2.1 130 = .ok (.aload_n 0, 1) := by decide +kernel
theorem d_Mo_init_131 : decode m_Mo_init.2.1 131 = .ok (.getfield 13, 3) := by decide +kernel
theorem d_Mo_init_134 : decode m_Mo_init.2.1 134 = .ok (.iconst 1, 1) := by decide +kernel
theorem d_Mo_init_135 : decode m_Mo_init.2.1 135 = .ok (.iconst 1, 1) := by decide +kernel
theorem d_Mo_init_136 : decode m_Mo_init.2.1 136 = .ok (.iastore, 1) := by decide +kernel
theorem d_Mo_init_137 : decode m_Mo_init.2.1 137 = .ok (.iconst 0, 1) := by decide +kernel
theorem d_Mo_init_138 : decode m_Mo_init.2.1 138 = .ok (.istore_n 1, 1) := by decide +kernel
theorem d_Mo_init_139 : decode m_Mo_init.2.1 139 = .ok (.iload_n 1, 1) := by decide +kernel
theorem d_Mo_init_140 : decode m_Mo_init.2.1 140 = .ok (.bipush 8, 2) := by decide +kernel
theorem d_Mo_init_142 : decode m_Mo_init.2.1 142 = .ok (.if_icmp .ge 59, 3) := by decide +kernel
theorem d_Mo_init_145 : decode m_Mo_init.2.1 145 = .ok (.aload_n 0, 1) := by decide +kernel
theorem d_Mo_init_146 : decode m_Mo_init.2.1 146 = .ok (.getfield 7, 3) := by decide +kernel
theorem d_Mo_init_149 : decode m_Mo_init.2.1 149 = .ok (.iconst 2, 1) := by decide +kernel
theorem d_Mo_init_150 : decode m_Mo_init.2.1 150 = .ok (.iconst 2, 1) := by decide +kernel
theorem d_Mo_init_151 : decode m_Mo_init.2.1 151 = .ok (.iload_n 1, 1) := by decide +kernel
theorem d_Mo_init_152 : decode m_Mo_init.2.1 152 = .ok (.imul, 1) := by decide +kernel
theorem d_Mo_init_153 : decode m_Mo_init.2.1 153 = .ok (.iadd, 1) := by decide +kernel
theorem d_Mo_init_154 : decode m_Mo_init.2.1 154 = .ok (.bipush 97, 2) := by decide +kernel
theorem d_Mo_init_156 : decode m_Mo_init.2.1 156 = .ok (.iload_n 1, 1) := by decide +kernel
theorem d_Mo_init_157 : decode m_Mo_init.2.1 157 = .ok (.iadd, 1) := by decide +kernel
theorem d_Mo_init_158 : decode m_Mo_init.2.1 158 = .ok (.iastore, 1) := by decide +kernel
theorem d_Mo_init_159 : decode m_Mo_init.2.1 159 = .ok (.aload_n 0, 1) := by decide +kernel
theorem d_Mo_init_160 : decode m_Mo_init.2.1 160 = .ok (.getfield 7, 3) := by decide +kernel
theorem d_Mo_init_163 : decode m_Mo_init.2.1 163 = .ok (.iconst 3, 1) := by decide +kernel
theorem d_Mo_init_164 : decode m_Mo_init.2.1 164 = .ok (.iconst 2, 1) := by decide +kernel
theorem d_Mo_init_165 : decode m_Mo_init.2.1 165 = .ok (.iload_n 1, 1) := by decide +kernel
theorem d_Mo_init_166 : decode m_Mo_init.2.1 166 = .ok (.imul, 1) := by decide +kernel
theorem d_Mo_init_167 : decode m_Mo_init.2.1 167 = .ok (.iadd, 1) := by decide +kernel
theorem d_Mo_init_168 : decode m_Mo_init.2.1 168 = .ok (.bipush 65, 2) := by decide +kernel
theorem d_Mo_init_170 : decode m_Mo_init.2.1 170 = .ok (.iload_n 1, 1) := by decide +kernel
theorem d_Mo_init_171 : decode m_Mo_init.2.1 171 = .ok (.iadd, 1) := by decide +kernel
theorem d_Mo_init_172 : decode m_Mo_init.2.1 172 = .ok (.iastore, 1) := by decide +kernel
theorem d_Mo_init_173 : decode m_Mo_init.2.1 173 = .ok (.aload_n 0, 1) := by decide +kernel
theorem d_Mo_init_174 : decode m_Mo_init.2.1 174 = .ok (.getfield 13, 3) := by decide +kernel
theorem d_Mo_init_177 : decode m_Mo_init.2.1 177 = .ok (.iconst 2, 1) := by decide +kernel
theorem d_Mo_init_178 : decode m_Mo_init.2.1 178 = .ok (.iconst 2, 1) := by decide +kernel
theorem d_Mo_init_179 : decode m_Mo_init.2.1 179 = .ok (.iload_n 1, 1) := by decide +kernel
theorem d_Mo_init_180 : decode m_Mo_init.2.1 180 = .ok (.imul, 1) := by decide +kernel
theorem d_Mo_init_181 : decode m_Mo_init.2.1 181 = .ok (.iadd, 1) := by decide +kernel
theorem d_Mo_init_182 : decode m_Mo_init.2.1 182 = .ok (.iconst 1, 1) := by decide +kernel
theorem d_Mo_init_183 : decode m_Mo_init.2.1 183 = .ok (.iastore, 1) := by decide +kernel
theorem d_Mo_init_184 : decode m_Mo_init.2.1 184 = .ok (.aload_n 0, 1) := by decide +kernel
theorem d_Mo_init_185 : decode m_Mo_init.2.1 185 = .ok (.getfield 13, 3) := by decide +kernel
theorem d_Mo_init_188 : decode m_Mo_init.2.1 188 = .ok (.iconst 3, 1) := by decide +kernel
theorem d_Mo_init_189 : decode m_Mo_init.2.1 189 = .ok (.iconst 2, 1) := by decide +kernel
theorem d_Mo_init_190 : decode m_Mo_init.2.1 190 = .ok (.iload_n 1, 1) := by decide +kernel
theorem d_Mo_init_191 : decode m_Mo_init.2.1 191 = .ok (.imul, 1) := by decide +kernel
theorem d_Mo_init_192 : decode m_Mo_init.2.1 192 = .ok (.iadd, 1) := by decide +kernel
theorem d_Mo_init_193 : decode m_Mo_init.2.1 193 = .ok (.iconst 3, 1) := by decide +kernel
theorem d_Mo_init_194 : decode m_Mo_init.2.1 194 = .ok (.iastore, 1) := by decide +kernel
theorem d_Mo_init_195 : decode m_Mo_init.2.1 195 = .ok (.iinc 1 1, 3) := by decide +kernel
theorem d_Mo_init_198 : decode m_Mo_init.2.1 198 = .ok (.goto (-59), 3) := by decide +kernel
theorem d_Mo_init_201 : decode m_Mo_init.2.1 201 = .ok (.aload_n 0, 1) := by decide +kernel
theorem d_Mo_init_202 : decode m_Mo_init.2.1 202 = .ok (.bipush 18, 2) := by decide +kernel
theorem d_Mo_init_204 : decode m_Mo_init.2.1 204 = .ok (.putfield 50, 3) := by decide +kernel
theorem d_Mo_init_207 : decode m_Mo_init.2.1 207 = .ok (.return_, 1) := by decide +kernel
theorem d_Mo_isLetter_0 : decode m_Mo_isLetter.2.1 0 = .ok (.iload_n 0, 1) := by decide +kernel
theorem d_Mo_isLetter_1 : decode m_Mo_isLetter.2.1 1 = .ok (.bipush 97, 2) := by decide +kernel
theorem d_Mo_isLetter_3 : decode m_Mo_isLetter.2.1 3 = .ok (.if_icmp .lt 9, 3) := by decide +kernel
theorem d_Mo_isLetter_6 : decode m_Mo_isLetter.2.1 6 = .ok (.iload_n 0, 1) := by decide +kernel
theorem d_Mo_isLetter_7 : decode m_Mo_isLetter.2.1 7 = .ok (.bipush 104, 2) := by decide +kernel
theorem d_Mo_isLetter_9 : decode m_Mo_isLetter.2.1 9 = .ok (.if_icmp .le 15, 3) := by decide +kernel
theorem d_Mo_isLetter_12 : decode m_Mo_isLetter.2.1 12 = .ok (.iload_n 0, 1) := by decide +kernel
theorem d_Mo_isLetter_13 : decode m_Mo_isLetter.2.1 13 = .ok (.bipush 65, 2) := by decide +kernel
theorem d_Mo_isLetter_15 : decode m_Mo_isLetter.2.1 15 = .ok (.if_icmp .lt 13, 3) := by decide +kernel
theorem d_Mo_isLetter_18 : decode m_Mo_isLetter.2.1 18 = .ok (.iload_n 0, 1) := by decide +kernel
theorem d_Mo_isLetter_19 : decode m_Mo_isLetter.2.1 19 = .ok (.bipush 72, 2) := by decide +kernel
theorem d_Mo_isLetter_21 : decode m_Mo_isLetter.2.1 21 = .ok (.if_icmp .gt 7, 3) := by decide +kernel
theorem d_Mo_isLetter_24 : decode m_Mo_isLetter.2.1 24 = .ok (.iconst 1, 1) := by decide +kernel
theorem d_Mo_isLetter_25 : decode m_Mo_isLetter.2.1 25 = .ok (.goto 4, 3) := by decide +kernel
theorem d_Mo_isLetter_28 : decode m_Mo_isLetter.2.1 28 = .ok (.iconst 0, 1) := by decide +kernel
theorem d_Mo_isLetter_29 : decode m_Mo_isLetter.2.1 29 = .ok (.ireturn, 1) := by decide +kernel
theorem d_Mo_isMark_0 : decode m_Mo_isMark.2.1 0 = .ok (.iload_n 0, 1) := by decide +kernel
theorem d_Mo_isMark_1 : decode m_Mo_isMark.2.1 1 = .ok (.bipush 49, 2) := by decide +kernel
theorem d_Mo_isMark_3 : decode m_Mo_isMark.2.1 3 = .ok (.if_icmp .lt 13, 3) := by decide +kernel
theorem d_Mo_isMark_6 : decode m_Mo_isMark.2.1 6 = .ok (.iload_n 0, 1) := by decide +kernel
theorem d_Mo_isMark_7 : decode m_Mo_isMark.2.1 7 = .ok (.bipush 52, 2) := by decide +kernel
theorem d_Mo_isMark_9 : decode m_Mo_isMark.2.1 9 = .ok (.if_icmp .gt 7, 3) := by decide +kernel
theorem d_Mo_isMark_12 : decode m_Mo_isMark.2.1 12 = .ok (.iconst 1, 1) := by decide +kernel
theorem d_Mo_isMark_13 : decode m_Mo_isMark.2.1 13 = .ok (.goto 4, 3) := by decide +kernel
theorem d_Mo_isMark_16 : decode m_Mo_isMark.2.1 16 = .ok (.iconst 0, 1) := by decide +kernel
theorem d_Mo_isMark_17 : decode m_Mo_isMark.2.1 17 = .ok (.ireturn, 1) := by decide +kernel
theorem d_Mo_classOf_0 : decode m_Mo_classOf.2.1 0 = .ok (.iload_n 0, 1) := by decide +kernel
theorem d_Mo_classOf_1 : decode m_Mo_classOf.2.1 1 = .ok (.bipush 51, 2) := by decide +kernel
theorem d_Mo_classOf_3 : decode m_Mo_classOf.2.1 3 = .ok (.if_icmp .ge 7, 3) := by decide +kernel
theorem d_Mo_classOf_6 : decode m_Mo_classOf.2.1 6 = .ok (.iconst 1, 1) := by decide +kernel
theorem d_Mo_classOf_7 : decode m_Mo_classOf.2.1 7 = .ok (.goto 4, 3) := by decide +kernel
theorem d_Mo_classOf_10 : decode m_Mo_classOf.2.1 10 = .ok (.iconst 2, 1) := by decide +kernel
theorem d_Mo_classOf_11 : decode m_Mo_classOf.2.1 11 = .ok (.ireturn, 1) := by decide +kernel
theorem d_Mo_isLine_0 : decode m_Mo_isLine.2.1 0 = .ok (.iload_n 1, 1) := by decide +kernel
theorem d_Mo_isLine_1 : decode m_Mo_isLine.2.1 1 = .ok (.ifCond .eq 8, 3) := by decide +kernel
theorem d_Mo_isLine_4 : decode m_Mo_isLine.2.1 4 = .ok (.iload_n 1, 1) := by decide +kernel
theorem d_Mo_isLine_5 : decode m_Mo_isLine.2.1 5 = .ok (.iconst 1, 1) := by decide +kernel
theorem d_Mo_isLine_6 : decode m_Mo_isLine.2.1 6 = .ok (.if_icmp .ne 7, 3) := by decide +kernel
theorem d_Mo_isLine_9 : decode m_Mo_isLine.2.1 9 = .ok (.iconst 1, 1) := by decide +kernel
theorem d_Mo_isLine_10 : decode m_Mo_isLine.2.1 10 = .ok (.goto 4, 3) := by decide +kernel
theorem d_Mo_isLine_13 : decode m_Mo_isLine.2.1 13 = .ok (.iconst 0, 1) := by decide +kernel
theorem d_Mo_isLine_14 : decode m_Mo_isLine.2.1 14 = .ok (.ireturn, 1) := by decide +kernel
theorem d_Mo_type_0 : decode m_Mo_type.2.1 0 = .ok (.iload_n 1, 1) := by decide +kernel
theorem d_Mo_type_1 : decode m_Mo_type.2.1 1 = .ok (.iconst 2, 1) := by decide +kernel
theorem d_Mo_type_2 : decode m_Mo_type.2.1 2 = .ok (.if_icmp .ne 48, 3) := by decide +kernel
theorem d_Mo_type_5 : decode m_Mo_type.2.1 5 = .ok (.aload_n 0, 1) := by decide +kernel
theorem d_Mo_type_6 : decode m_Mo_type.2.1 6 = .ok (.getfield 53, 3) := by decide +kernel
theorem d_Mo_type_9 : decode m_Mo_type.2.1 9 = .ok (.bipush 24, 2) := by decide +kernel
theorem d_Mo_type_11 : decode m_Mo_type.2.1 11 = .ok (.if_icmp .eq 15, 3) := by decide +kernel
theorem d_Mo_type_14 : decode m_Mo_type.2.1 14 = .ok (.iload_n 2, 1) := by decide +kernel
theorem d_Mo_type_15 : decode m_Mo_type.2.1 15 = .ok (.bipush 32, 2) := by decide +kernel
theorem d_Mo_type_17 : decode m_Mo_type.2.1 17 = .ok (.if_icmp .lt 9, 3) := by decide +kernel
theorem d_Mo_type_20 : decode m_Mo_type.2.1 20 = .ok (.iload_n 2, 1) := by decide +kernel
theorem d_Mo_type_21 : decode m_Mo_type.2.1 21 = .ok (.bipush 126, 2) := by decide +kernel
theorem d_Mo_type_23 : decode m_Mo_type.2.1 23 = .ok (.if_icmp .le 5, 3) := by decide +kernel
theorem d_Mo_type_26 : decode m_Mo_type.2.1 26 = .ok (.iconst 0, 1) := by decide +kernel
theorem d_Mo_type_27 : decode m_Mo_type.2.1 27 = .ok (.ireturn, 1) := by decide +kernel
theorem d_Mo_type_28 : decode m_Mo_type.2.1 28 = .ok (.aload_n 0, 1) := by decide +kernel
theorem d_Mo_type_29 : decode m_Mo_type.2.1 29 = .ok (.getfield 22, 3) := by decide +kernel
theorem d_Mo_type_32 : decode m_Mo_type.2.1 32 = .ok (.aload_n 0, 1) := by decide +kernel
theorem d_Mo_type_33 : decode m_Mo_type.2.1 33 = .ok (.getfield 53, 3) := by decide +kernel
theorem d_Mo_type_36 : decode m_Mo_type.2.1 36 = .ok (.iload_n 2, 1) := by decide +kernel
theorem d_Mo_type_37 : decode m_Mo_type.2.1 37 = .ok (.iastore, 1) := by decide +kernel
theorem d_Mo_type_38 : decode m_Mo_type.2.1 38 = .ok (.aload_n 0, 1) := by decide +kernel
theorem d_Mo_type_39 : decode m_Mo_type.2.1 39 = .ok (.dup, 1) := by decide +kernel
theorem d_Mo_type_40 : decode m_Mo_type.2.1 40 = .ok (.getfield 53, 3) := by decide +kernel
theorem d_Mo_type_43 : decode m_Mo_type.2.1 43 = .ok (.iconst 1, 1) := by decide +kernel
theorem d_Mo_type_44 : decode m_Mo_type.2.1 44 = .ok (.iadd, 1) := by decide +kernel
theorem d_Mo_type_45 : decode m_Mo_type.2.1 45 = .ok (.putfield 53, 3) := by decide +kernel
theorem d_Mo_type_48 : decode m_Mo_type.2.1 48 = .ok (.iconst 1, 1) := by decide +kernel
theorem d_Mo_type_49 : decode m_Mo_type.2.1 49 = .ok (.ireturn, 1) := by decide +kernel
theorem d_Mo_type_50 : decode m_Mo_type.2.1 50 = .ok (.iload_n 2, 1) := by decide +kernel
theorem d_Mo_type_51 : decode m_Mo_type.2.1 51 = .ok (.invokestatic 56, 3) := by decide +kernel
theorem d_Mo_type_54 : decode m_Mo_type.2.1 54 = .ok (.ifCond .ne 22, 3) := by decide +kernel
theorem d_Mo_type_57 : decode m_Mo_type.2.1 57 = .ok (.iload_n 2, 1) := by decide +kernel
theorem d_Mo_type_58 : decode m_Mo_type.2.1 58 = .ok (.invokestatic 60, 3) := by decide +kernel
theorem d_Mo_type_61 : decode m_Mo_type.2.1 61 = .ok (.ifCond .ne 15, 3) := by decide +kernel
theorem d_Mo_type_64 : decode m_Mo_type.2.1 64 = .ok (.iload_n 2, 1) := by decide +kernel
theorem d_Mo_type_65 : decode m_Mo_type.2.1 65 = .ok (.bipush 32, 2) := by decide +kernel
theorem d_Mo_type_67 : decode m_Mo_type.2.1 67 = .ok (.if_icmp .eq 9, 3) := by decide +kernel
theorem d_Mo_type_70 : decode m_Mo_type.2.1 70 = .ok (.iload_n 2, 1) := by decide +kernel
theorem d_Mo_type_71 : decode m_Mo_type.2.1 71 = .ok (.bipush 45, 2) := by decide +kernel
theorem d_Mo_type_73 : decode m_Mo_type.2.1 73 = .ok (.if_icmp .ne 7, 3) := by decide +kernel
theorem d_Mo_type_76 : decode m_Mo_type.2.1 76 = .ok (.iconst 1, 1) := by decide +kernel
theorem d_Mo_type_77 : decode m_Mo_type.2.1 77 = .ok (.goto 4, 3) := by decide +kernel
theorem d_Mo_type_80 : decode m_Mo_type.2.1 80 = .ok (.iconst 0, 1) := by decide +kernel
theorem d_Mo_type_81 : decode m_Mo_type.2.1 81 = .ok (.istore_n 3, 1) := by decide +kernel
theorem d_Mo_type_82 : decode m_Mo_type.2.1 82 = .ok (.aload_n 0, 1) := by decide +kernel
theorem d_Mo_type_83 : decode m_Mo_type.2.1 83 = .ok (.iload_n 1, 1) := by decide +kernel
theorem d_Mo_type_84 : decode m_Mo_type.2.1 84 = .ok (.invokevirtual 63, 3) := by decide +kernel
theorem d_Mo_type_87 : decode m_Mo_type.2.1 87 = .ok (.ifCond .eq 18, 3) := by decide +kernel
theorem d_Mo_type_90 : decode m_Mo_type.2.1 90 = .ok (.iload_n 3, 1) := by decide +kernel
theorem d_Mo_type_91 : decode m_Mo_type.2.1 91 = .ok (.ifCond .eq 14, 3) := by decide +kernel
theorem d_Mo_type_94 : decode m_Mo_type.2.1 94 = .ok (.aload_n 0, 1) := by decide +kernel
theorem d_Mo_type_95 : decode m_Mo_type.2.1 95 = .ok (.getfield 28, 3) := by decide +kernel
theorem d_Mo_type_98 : decode m_Mo_type.2.1 98 = .ok (.iload_n 1, 1) := by decide +kernel
theorem d_Mo_type_99 : decode m_Mo_type.2.1 99 = .ok (.iaload, 1) := by decide +kernel
theorem d_Mo_type_100 : decode m_Mo_type.2.1 100 = .ok (.bipush 12, 2) := by decide +kernel
theorem d_Mo_type_102 : decode m_Mo_type.2.1 102 = .ok (.if_icmp .ne 5, 3) := by decide +kernel
theorem d_Mo_type_105 : decode m_Mo_type.2.1 105 = .ok (.iconst 0, 1) := by decide +kernel
theorem d_Mo_type_106 : decode m_Mo_type.2.1 106 = .ok (.ireturn, 1) := by decide +kernel
theorem d_Mo_type_107 : decode m_Mo_type.2.1 107 = .ok (.aload_n 0, 1) := by decide +kernel
theorem d_Mo_type_108 : decode m_Mo_type.2.1 108 = .ok (.getfield 25, 3) := by decide +kernel
theorem d_Mo_type_111 : decode m_Mo_type.2.1 111 = .ok (.bipush 12, 2) := by decide +kernel
theorem d_Mo_type_113 : decode m_Mo_type.2.1 113 = .ok (.iload_n 1, 1) := by decide +kernel
theorem d_Mo_type_114 : decode m_Mo_type.2.1 114 = .ok (.imul, 1) := by decide +kernel
theorem d_Mo_type_115 : decode m_Mo_type.2.1 115 = .ok (.aload_n 0, 1) := by decide +kernel
theorem d_Mo_type_116 : decode m_Mo_type.2.1 116 = .ok (.getfield 28, 3) := by decide +kernel
theorem d_Mo_type_119 : decode m_Mo_type.2.1 119 = .ok (.iload_n 1, 1) := by decide +kernel
theorem d_Mo_type_120 : decode m_Mo_type.2.1 120 = .ok (.iaload, 1) := by decide +kernel
theorem d_Mo_type_121 : decode m_Mo_type.2.1 121 = .ok (.iadd, 1) := by decide +kernel
theorem d_Mo_type_122 : decode m_Mo_type.2.1 122 = .ok (.iload_n 2, 1) := by decide +kernel
theorem d_Mo_type_123 : decode m_Mo_type.2.1 123 = .ok (.iastore, 1) := by decide +kernel
theorem d_Mo_type_124 : decode m_Mo_type.2.1 124 = .ok (.aload_n 0, 1) := by decide +kernel
theorem d_Mo_type_125 : decode m_Mo_type.2.1 125 = .ok (.getfield 28, 3) := by decide +kernel
theorem d_Mo_type_128 : decode m_Mo_type.2.1 128 = .ok (.iload_n 1, 1) := by decide +kernel
theorem d_Mo_type_129 : decode m_Mo_type.2.1 129 = .ok (.dup2, 1) := by decide +kernel
theorem d_Mo_type_130 : decode m_Mo_type.2.1 130 = .ok (.iaload, 1) := by decide +kernel
theorem d_Mo_type_131 : decode m_Mo_type.2.1 131 = .ok (.iconst 1, 1) := by decide +kernel
theorem d_Mo_type_132 : decode m_Mo_type.2.1 132 = .ok (.iadd, 1) := by decide +kernel
theorem d_Mo_type_133 : decode m_Mo_type.2.1 133 = .ok (.iastore, 1) := by decide +kernel
theorem d_Mo_type_134 : decode m_Mo_type.2.1 134 = .ok (.iconst 1, 1) := by decide +kernel
theorem d_Mo_type_135 : decode m_Mo_type.2.1 135 = .ok (.ireturn, 1) := by decide +kernel
theorem d_Mo_wipe_0 : decode m_Mo_wipe.2.1 0 = .ok (.iload_n 1, 1) := by decide +kernel
theorem d_Mo_wipe_1 : decode m_Mo_wipe.2.1 1 = .ok (.ifCond .lt 8, 3) := by decide +kernel
theorem d_Mo_wipe_4 : decode m_Mo_wipe.2.1 4 = .ok (.iload_n 1, 1) := by decide +kernel
theorem d_Mo_wipe_5 : decode m_Mo_wipe.2.1 5 = .ok (.iconst 2, 1) := by decide +kernel
theorem d_Mo_wipe_6 : decode m_Mo_wipe.2.1 6 = .ok (.if_icmp .le 5, 3) := by decide +kernel
theorem d_Mo_wipe_9 : decode m_Mo_wipe.2.1 9 = .ok (.iconst (-1), 1) := by decide +kernel
theorem d_Mo_wipe_10 : decode m_Mo_wipe.2.1 10 = .ok (.ireturn, 1) := by decide +kernel
theorem d_Mo_wipe_11 : decode m_Mo_wipe.2.1 11 = .ok (.iload_n 1, 1) := by decide +kernel
theorem d_Mo_wipe_12 : decode m_Mo_wipe.2.1 12 = .ok (.iconst 2, 1) := by decide +kernel
theorem d_Mo_wipe_13 : decode m_Mo_wipe.2.1 13 = .ok (.if_icmp .ne 10, 3) := by decide +kernel
theorem d_Mo_wipe_16 : decode m_Mo_wipe.2.1 16 = .ok (.aload_n 0, 1) := by decide +kernel
theorem d_Mo_wipe_17 : decode m_Mo_wipe.2.1 17 = .ok (.getfield 53, 3) := by decide +kernel
theorem d_Mo_wipe_20 : decode m_Mo_wipe.2.1 20 = .ok (.goto 9, 3) := by decide +kernel
theorem d_Mo_wipe_23 : decode m_Mo_wipe.2.1 23 = .ok (.aload_n 0, 1) := by decide +kernel
theorem d_Mo_wipe_24 : decode m_Mo_wipe.2.1 24 = .ok (.getfield 28, 3) := by decide +kernel
theorem d_Mo_wipe_27 : decode m_Mo_wipe.2.1 27 = .ok (.iload_n 1, 1) := by decide +kernel
theorem d_Mo_wipe_28 : decode m_Mo_wipe.2.1 28 = .ok (.iaload, 1) := by decide +kernel
theorem d_Mo_wipe_29 : decode m_Mo_wipe.2.1 29 = .ok (.istore_n 2, 1) := by decide +kernel
theorem d_Mo_wipe_30 : decode m_Mo_wipe.2.1 30 = .ok (.iload_n 1, 1) := by decide +kernel
theorem d_Mo_wipe_31 : decode m_Mo_wipe.2.1 31 = .ok (.iconst 2, 1) := by decide +kernel
theorem d_Mo_wipe_32 : decode m_Mo_wipe.2.1 32 = .ok (.if_icmp .ne 11, 3) := by decide +kernel
theorem d_Mo_wipe_35 : decode m_Mo_wipe.2.1 35 = .ok (.aload_n 0, 1) := by decide +kernel
theorem d_Mo_wipe_36 : decode m_Mo_wipe.2.1 36 = .ok (.iconst 0, 1) := by decide +kernel
theorem d_Mo_wipe_37 : decode m_Mo_wipe.2.1 37 = .ok (.putfield 53, 3) := by decide +kernel
theorem d_Mo_wipe_40 : decode m_Mo_wipe.2.1 40 = .ok (.goto 10, 3) := by decide +kernel
theorem d_Mo_wipe_43 : decode m_Mo_wipe.2.1 43 = .ok (.aload_n 0, 1) := by decide +kernel
theorem d_Mo_wipe_44 : decode m_Mo_wipe.2.1 44 = .ok (.getfield 28, 3) := by decide +kernel
theorem d_Mo_wipe_47 : decode m_Mo_wipe.2.1 47 = .ok (.iload_n 1, 1) := by decide +kernel
theorem d_Mo_wipe_48 : decode m_Mo_wipe.2.1 48 = .ok (.iconst 0, 1) := by decide +kernel
theorem d_Mo_wipe_49 : decode m_Mo_wipe.2.1 49 = .ok (.iastore, 1) := by decide +kernel
theorem d_Mo_wipe_50 : decode m_Mo_wipe.2.1 50 = .ok (.iload_n 2, 1) := by decide +kernel
theorem d_Mo_wipe_51 : decode m_Mo_wipe.2.1 51 = .ok (.ireturn, 1) := by decide +kernel
theorem d_Mo_after_0 : decode m_Mo_after.2.1 0 = .ok (.iload_n 0, 1) := by decide +kernel
theorem d_Mo_after_1 : decode m_Mo_after.2.1 1 = .ok (.bipush 10, 2) := by decide +kernel
theorem d_Mo_after_3 : decode m_Mo_after.2.1 3 = .ok (.irem, 1) := by decide +kernel
theorem d_Mo_after_4 : decode m_Mo_after.2.1 4 = .ok (.istore_n 2, 1) := by decide +kernel
theorem d_Mo_after_5 : decode m_Mo_after.2.1 5 = .ok (.iload_n 0, 1) := by decide +kernel
theorem d_Mo_after_6 : decode m_Mo_after.2.1 6 = .ok (.iload_n 2, 1) := by decide +kernel
theorem d_Mo_after_7 : decode m_Mo_after.2.1 7 = .ok (.isub, 1) := by decide +kernel
theorem d_Mo_after_8 : decode m_Mo_after.2.1 8 = .ok (.istore_n 3, 1) := by decide +kernel
theorem d_Mo_after_9 : decode m_Mo_after.2.1 9 = .ok (.iload_n 2, 1) := by decide +kernel
theorem d_Mo_after_10 : decode m_Mo_after.2.1 10 = .ok (.ifCond .ne 15, 3) := by decide +kernel
theorem d_Mo_after_13 : decode m_Mo_after.2.1 13 = .ok (.iload_n 1, 1) := by decide +kernel
theorem d_Mo_after_14 : decode m_Mo_after.2.1 14 = .ok (.bipush 38, 2) := by decide +kernel
theorem d_Mo_after_16 : decode m_Mo_after.2.1 16 = .ok (.if_icmp .ne 7, 3) := by decide +kernel
theorem d_Mo_after_19 : decode m_Mo_after.2.1 19 = .ok (.iconst 1, 1) := by decide +kernel
theorem d_Mo_after_20 : decode m_Mo_after.2.1 20 = .ok (.goto 4, 3) := by decide +kernel
theorem d_Mo_after_23 : decode m_Mo_after.2.1 23 = .ok (.iconst (-1), 1) := by decide +kernel
theorem d_Mo_after_24 : decode m_Mo_after.2.1 24 = .ok (.ireturn, 1) := by decide +kernel
theorem d_Mo_after_25 : decode m_Mo_after.2.1 25 = .ok (.iload_n 1, 1) := by decide +kernel
theorem d_Mo_after_26 : decode m_Mo_after.2.1 26 = .ok (.invokestatic 56, 3) := by decide +kernel
theorem d_Mo_after_29 : decode m_Mo_after.2.1 29 = .ok (.ifCond .eq 33, 3) := by decide +kernel
theorem d_Mo_after_32 : decode m_Mo_after.2.1 32 = .ok (.iload_n 2, 1) := by decide +kernel
theorem d_Mo_after_33 : decode m_Mo_after.2.1 33 = .ok (.iconst 4, 1) := by decide +kernel
theorem d_Mo_after_34 : decode m_Mo_after.2.1 34 = .ok (.if_icmp .lt 8, 3) := by decide +kernel
theorem d_Mo_after_37 : decode m_Mo_after.2.1 37 = .ok (.iload_n 2, 1) := by decide +kernel
theorem d_Mo_after_38 : decode m_Mo_after.2.1 38 = .ok (.iconst 4, 1) := by decide +kernel
theorem d_Mo_after_39 : decode m_Mo_after.2.1 39 = .ok (.if_icmp .le 23, 3) := by decide +kernel
theorem d_Mo_after_42 : decode m_Mo_after.2.1 42 = .ok (.iload_n 3, 1) := by decide +kernel
theorem d_Mo_after_43 : decode m_Mo_after.2.1 43 = .ok (.iload_n 2, 1) := by decide +kernel
theorem d_Mo_after_44 : decode m_Mo_after.2.1 44 = .ok (.iconst 2, 1) := by decide +kernel
theorem d_Mo_after_45 : decode m_Mo_after.2.1 45 = .ok (.if_icmp .eq 8, 3) := by decide +kernel
theorem d_Mo_after_48 : decode m_Mo_after.2.1 48 = .ok (.iload_n 2, 1) := by decide +kernel
theorem d_Mo_after_49 : decode m_Mo_after.2.1 49 = .ok (.iconst 3, 1) := by decide +kernel
theorem d_Mo_after_50 : decode m_Mo_after.2.1 50 = .ok (.if_icmp .ne 9, 3) := by decide +kernel
theorem d_Mo_after_53 : decode m_Mo_after.2.1 53 = .ok (.iload_n 2, 1) := by decide +kernel
theorem d_Mo_after_54 : decode m_Mo_after.2.1 54 = .ok (.iconst 1, 1) := by decide +kernel
theorem d_Mo_after_55 : decode m_Mo_after.2.1 55 = .ok (.iadd, 1) := by decide +kernel
theorem d_Mo_after_56 : decode m_Mo_after.2.1 56 = .ok (.goto 4, 3) := by decide +kernel
theorem d_Mo_after_59 : decode m_Mo_after.2.1 59 = .ok (.iconst 2, 1) := by decide +kernel
theorem d_Mo_after_60 : decode m_Mo_after.2.1 60 = .ok (.iadd, 1) := by decide +kernel
theorem d_Mo_after_61 : decode m_Mo_after.2.1 61 = .ok (.ireturn, 1) := by decide +kernel
theorem d_Mo_after_62 : decode m_Mo_after.2.1 62 = .ok (.iload_n 1, 1) := by decide +kernel
theorem d_Mo_after_63 : decode m_Mo_after.2.1 63 = .ok (.invokestatic 60, 3) := by decide +kernel
theorem d_Mo_after_66 : decode m_Mo_after.2.1 66 = .ok (.ifCond .eq 21, 3) := by decide +kernel
theorem d_Mo_after_69 : decode m_Mo_after.2.1 69 = .ok (.iload_n 2, 1) := by decide +kernel
theorem d_Mo_after_70 : decode m_Mo_after.2.1 70 = .ok (.iconst 2, 1) := by decide +kernel
theorem d_Mo_after_71 : decode m_Mo_after.2.1 71 = .ok (.if_icmp .eq 8, 3) := by decide +kernel
theorem d_Mo_after_74 : decode m_Mo_after.2.1 74 = .ok (.iload_n 2, 1) := by decide +kernel
theorem d_Mo_after_75 : decode m_Mo_after.2.1 75 = .ok (.iconst 3, 1) := by decide +kernel
theorem d_Mo_after_76 : decode m_Mo_after.2.1 76 = .ok (.if_icmp .ne 9, 3) := by decide +kernel
theorem d_Mo_after_79 : decode m_Mo_after.2.1 79 = .ok (.iload_n 0, 1) := by decide +kernel
theorem d_Mo_after_80 : decode m_Mo_after.2.1 80 = .ok (.iconst 1, 1) := by decide +kernel
theorem d_Mo_after_81 : decode m_Mo_after.2.1 81 = .ok (.iadd, 1) := by decide +kernel
theorem d_Mo_after_82 : decode m_Mo_after.2.1 82 = .ok (.goto 4, 3) := by decide +kernel
theorem d_Mo_after_85 : decode m_Mo_after.2.1 85 = .ok (.iconst (-1), 1) := by decide +kernel
theorem d_Mo_after_86 : decode m_Mo_after.2.1 86 = .ok (.ireturn, 1) := by decide +kernel
theorem d_Mo_after_87 : decode m_Mo_after.2.1 87 = .ok (.iload_n 1, 1) := by decide +kernel
theorem d_Mo_after_88 : decode m_Mo_after.2.1 88 = .ok (.bipush 61, 2) := by decide +kernel
theorem d_Mo_after_90 : decode m_Mo_after.2.1 90 = .ok (.if_icmp .ne 20, 3) := by decide +kernel
theorem d_Mo_after_93 : decode m_Mo_after.2.1 93 = .ok (.iload_n 2, 1) := by decide +kernel
theorem d_Mo_after_94 : decode m_Mo_after.2.1 94 = .ok (.iconst 1, 1) := by decide +kernel
theorem d_Mo_after_95 : decode m_Mo_after.2.1 95 = .ok (.if_icmp .le 13, 3) := by decide +kernel
theorem d_Mo_after_98 : decode m_Mo_after.2.1 98 = .ok (.iload_n 2, 1) := by decide +kernel
theorem d_Mo_after_99 : decode m_Mo_after.2.1 99 = .ok (.iconst 5, 1) := by decide +kernel
theorem d_Mo_after_100 : decode m_Mo_after.2.1 100 = .ok (.if_icmp .ge 8, 3) := by decide +kernel
theorem d_Mo_after_103 : decode m_Mo_after.2.1 103 = .ok (.bipush 11, 2) := by decide +kernel
theorem d_Mo_after_105 : decode m_Mo_after.2.1 105 = .ok (.goto 4, 3) := by decide +kernel
theorem d_Mo_after_108 : decode m_Mo_after.2.1 108 = .ok (.iconst (-1), 1) := by decide +kernel
theorem d_Mo_after_109 : decode m_Mo_after.2.1 109 = .ok (.ireturn, 1) := by decide +kernel
theorem d_Mo_after_110 : decode m_Mo_after.2.1 110 = .ok (.iload_n 1, 1) := by decide +kernel
theorem d_Mo_after_111 : decode m_Mo_after.2.1 111 = .ok (.bipush 60, 2) := by decide +kernel
theorem d_Mo_after_113 : decode m_Mo_after.2.1 113 = .ok (.if_icmp .ne 8, 3) := by decide +kernel
theorem d_Mo_after_116 : decode m_Mo_after.2.1 116 = .ok (.iload_n 2, 1) := by decide +kernel
theorem d_Mo_after_117 : decode m_Mo_after.2.1 117 = .ok (.iconst 1, 1) := by decide +kernel
theorem d_Mo_after_118 : decode m_Mo_after.2.1 118 = .ok (.if_icmp .ne 5, 3) := by decide +kernel
theorem d_Mo_after_121 : decode m_Mo_after.2.1 121 = .ok (.iconst (-1), 1) := by decide +kernel
theorem d_Mo_after_122 : decode m_Mo_after.2.1 122 = .ok (.ireturn, 1) := by decide +kernel
theorem d_Mo_after_123 : decode m_Mo_after.2.1 123 = .ok (.iload_n 2, 1) := by decide +kernel
theorem d_Mo_after_124 : decode m_Mo_after.2.1 124 = .ok (.iconst 5, 1) := by decide +kernel
theorem d_Mo_after_125 : decode m_Mo_after.2.1 125 = .ok (.if_icmp .ge 8, 3) := by decide +kernel
theorem d_Mo_after_128 : decode m_Mo_after.2.1 128 = .ok (.bipush 15, 2) := by decide +kernel
theorem d_Mo_after_130 : decode m_Mo_after.2.1 130 = .ok (.goto 15, 3) := by decide +kernel
theorem d_Mo_after_133 : decode m_Mo_after.2.1 133 = .ok (.iload_n 2, 1) := by decide +kernel
theorem d_Mo_after_134 : decode m_Mo_after.2.1 134 = .ok (.iconst 5, 1) := by decide +kernel
theorem d_Mo_after_135 : decode m_Mo_after.2.1 135 = .ok (.if_icmp .ne 8, 3) := by decide +kernel
theorem d_Mo_after_138 : decode m_Mo_after.2.1 138 = .ok (.bipush 16, 2) := by decide +kernel
theorem d_Mo_after_140 : decode m_Mo_after.2.1 140 = .ok (.goto 5, 3) := by decide +kernel
theorem d_Mo_after_143 : decode m_Mo_after.2.1 143 = .ok (.bipush 11, 2) := by decide +kernel
theorem d_Mo_after_145 : decode m_Mo_after.2.1 145 = .ok (.ireturn, 1) := by decide +kernel
theorem d_Mo_fault_0 : decode m_Mo_fault.2.1 0 = .ok (.iconst 0, 1) := by decide +kernel
theorem d_Mo_fault_1 : decode m_Mo_fault.2.1 1 = .ok (.istore_n 1, 1) := by decide +kernel
theorem d_Mo_fault_2 : decode m_Mo_fault.2.1 2 = .ok (.iconst 0, 1) := by decide +kernel
theorem d_Mo_fault_3 : decode m_Mo_fault.2.1 3 = .ok (.istore_n 2, 1) := by decide +kernel
theorem d_Mo_fault_4 : decode m_Mo_fault.2.1 4 = .ok (.iload_n 2, 1) := by decide +kernel
theorem d_Mo_fault_5 : decode m_Mo_fault.2.1 5 = .ok (.aload_n 0, 1) := by decide +kernel
theorem d_Mo_fault_6 : decode m_Mo_fault.2.1 6 = .ok (.getfield 53, 3) := by decide +kernel
theorem d_Mo_fault_9 : decode m_Mo_fault.2.1 9 = .ok (.if_icmp .ge 26, 3) := by decide +kernel
theorem d_Mo_fault_12 : decode m_Mo_fault.2.1 12 = .ok (.iload_n 1, 1) := by decide +kernel
theorem d_Mo_fault_13 : decode m_Mo_fault.2.1 13 = .ok (.aload_n 0, 1) := by decide +kernel
theorem d_Mo_fault_14 : decode m_Mo_fault.2.1 14 = .ok (.getfield 22, 3) := by decide +kernel
theorem d_Mo_fault_17 : decode m_Mo_fault.2.1 17 = .ok (.iload_n 2, 1) := by decide +kernel
theorem d_Mo_fault_18 : decode m_Mo_fault.2.1 18 = .ok (.iaload, 1) := by decide +kernel
theorem d_Mo_fault_19 : decode m_Mo_fault.2.1 19 = .ok (.invokestatic 66, 3) := by decide +kernel
theorem d_Mo_fault_22 : decode m_Mo_fault.2.1 22 = .ok (.istore_n 1, 1) := by decide +kernel
theorem d_Mo_fault_23 : decode m_Mo_fault.2.1 23 = .ok (.iload_n 1, 1) := by decide +kernel
theorem d_Mo_fault_24 : decode m_Mo_fault.2.1 24 = .ok (.ifCond .ge 5, 3) := by decide +kernel
theorem d_Mo_fault_27 : decode m_Mo_fault.2.1 27 = .ok (.iload_n 2, 1) := by decide +kernel
theorem d_Mo_fault_28 : decode m_Mo_fault.2.1 28 = .ok (.ireturn, 1) := by decide +kernel
theorem d_Mo_fault_29 : decode m_Mo_fault.2.1 29 = .ok (.iinc 2 1, 3) := by decide +kernel
theorem d_Mo_fault_32 : decode m_Mo_fault.2.1 32 = .ok (.goto (-28), 3) := by decide +kernel
theorem d_Mo_fault_35 : decode m_Mo_fault.2.1 35 = .ok (.iload_n 1, 1) := by decide +kernel
theorem d_Mo_fault_36 : decode m_Mo_fault.2.1 36 = .ok (.bipush 11, 2) := by decide +kernel
theorem d_Mo_fault_38 : decode m_Mo_fault.2.1 38 = .ok (.if_icmp .le 13, 3) := by decide +kernel
theorem d_Mo_fault_41 : decode m_Mo_fault.2.1 41 = .ok (.iload_n 1, 1) := by decide +kernel
theorem d_Mo_fault_42 : decode m_Mo_fault.2.1 42 = .ok (.bipush 15, 2) := by decide +kernel
theorem d_Mo_fault_44 : decode m_Mo_fault.2.1 44 = .ok (.if_icmp .ge 7, 3) := by decide +kernel
theorem d_Mo_fault_47 : decode m_Mo_fault.2.1 47 = .ok (.iconst (-1), 1) := by decide +kernel
theorem d_Mo_fault_48 : decode m_Mo_fault.2.1 48 = .ok (.goto 7, 3) := by decide +kernel
theorem d_Mo_fault_51 : decode m_Mo_fault.2.1 51 = .ok (.aload_n 0, 1) := by decide +kernel
theorem d_Mo_fault_52 : decode m_Mo_fault.2.1 52 = .ok (.getfield 53, 3) := by decide +kernel
theorem d_Mo_fault_55 : decode m_Mo_fault.2.1 55 = .ok (.ireturn, 1) := by decide +kernel
theorem d_Mo_findNew_0 : decode m_Mo_findNew.2.1 0 = .ok (.iconst 0, 1) := by decide +kernel
theorem d_Mo_findNew_1 : decode m_Mo_findNew.2.1 1 = .ok (.istore_n 2, 1) := by decide +kernel
theorem d_Mo_findNew_2 : decode m_Mo_findNew.2.1 2 = .ok (.iload_n 2, 1) := by decide +kernel
theorem d_Mo_findNew_3 : decode m_Mo_findNew.2.1 3 = .ok (.aload_n 0, 1) := by decide +kernel
theorem d_Mo_findNew_4 : decode m_Mo_findNew.2.1 4 = .ok (.getfield 70, 3) := by decide +kernel
theorem d_Mo_findNew_7 : decode m_Mo_findNew.2.1 7 = .ok (.if_icmp .ge 21, 3) := by decide +kernel
theorem d_Mo_findNew_10 : decode m_Mo_findNew.2.1 10 = .ok (.aload_n 0, 1) := by decide +kernel
theorem d_Mo_findNew_11 : decode m_Mo_findNew.2.1 11 = .ok (.getfield 16, 3) := by decide +kernel
theorem d_Mo_findNew_14 : decode m_Mo_findNew.2.1 14 = .ok (.iload_n 2, 1) := by decide +kernel
theorem d_Mo_findNew_15 : decode m_Mo_findNew.2.1 15 = .ok (.iaload, 1) := by decide +kernel
theorem d_Mo_findNew_16 : decode m_Mo_findNew.2.1 16 = .ok (.iload_n 1, 1) := by decide +kernel
theorem d_Mo_findNew_17 : decode m_Mo_findNew.2.1 17 = .ok (.if_icmp .ne 5, 3) := by decide +kernel
theorem d_Mo_findNew_20 : decode m_Mo_findNew.2.1 20 = .ok (.iload_n 2, 1) := by decide +kernel
theorem d_Mo_findNew_21 : decode m_Mo_findNew.2.1 21 = .ok (.ireturn, 1) := by decide +kernel
theorem d_Mo_findNew_22 : decode m_Mo_findNew.2.1 22 = .ok (.iinc 2 1, 3) := by decide +kernel
theorem d_Mo_findNew_25 : decode m_Mo_findNew.2.1 25 = .ok (.goto (-23), 3) := by decide +kernel
theorem d_Mo_findNew_28 : decode m_Mo_findNew.2.1 28 = .ok (.iconst (-1), 1) := by decide +kernel
theorem d_Mo_findNew_29 : decode m_Mo_findNew.2.1 29 = .ok (.ireturn, 1) := by decide +kernel
theorem d_Mo_takeOut_0 : decode m_Mo_takeOut.2.1 0 = .ok (.iload_n 1, 1) := by decide +kernel
theorem d_Mo_takeOut_1 : decode m_Mo_takeOut.2.1 1 = .ok (.iconst 1, 1) := by decide +kernel
theorem d_Mo_takeOut_2 : decode m_Mo_takeOut.2.1 2 = .ok (.iadd, 1) := by decide +kernel
theorem d_Mo_takeOut_3 : decode m_Mo_takeOut.2.1 3 = .ok (.aload_n 0, 1) := by decide +kernel
theorem d_Mo_takeOut_4 : decode m_Mo_takeOut.2.1 4 = .ok (.getfield 70, 3) := by decide +kernel
theorem d_Mo_takeOut_7 : decode m_Mo_takeOut.2.1 7 = .ok (.if_icmp .ge 34, 3) := by decide +kernel
theorem d_Mo_takeOut_10 : decode m_Mo_takeOut.2.1 10 = .ok (.aload_n 0, 1) := by decide +kernel
theorem d_Mo_takeOut_11 : decode m_Mo_takeOut.2.1 11 = .ok (.getfield 19, 3) := by decide +kernel
theorem d_Mo_takeOut_14 : decode m_Mo_takeOut.2.1 14 = .ok (.iload_n 1, 1) := by decide +kernel
theorem d_Mo_takeOut_15 : decode m_Mo_takeOut.2.1 15 = .ok (.iaload, 1) := by decide +kernel
theorem d_Mo_takeOut_16 : decode m_Mo_takeOut.2.1 16 = .ok (.aload_n 0, 1) := by decide +kernel
theorem d_Mo_takeOut_17 : decode m_Mo_takeOut.2.1 17 = .ok (.getfield 19, 3) := by decide +kernel
theorem d_Mo_takeOut_20 : decode m_Mo_takeOut.2.1 20 = .ok (.iload_n 1, 1) := by decide +kernel
theorem d_Mo_takeOut_21 : decode m_Mo_takeOut.2.1 21 = .ok (.iconst 1, 1) := by decide +kernel
theorem d_Mo_takeOut_22 : decode m_Mo_takeOut.2.1 22 = .ok (.iadd, 1) := by decide +kernel
theorem d_Mo_takeOut_23 : decode m_Mo_takeOut.2.1 23 = .ok (.iaload, 1) := by decide +kernel
theorem d_Mo_takeOut_24 : decode m_Mo_takeOut.2.1 24 = .ok (.if_icmp .ge 17, 3) := by decide +kernel
theorem d_Mo_takeOut_27 : decode m_Mo_takeOut.2.1 27 = .ok (.aload_n 0, 1) := by decide +kernel
theorem d_Mo_takeOut_28 : decode m_Mo_takeOut.2.1 28 = .ok (.getfield 19, 3) := by decide +kernel
theorem d_Mo_takeOut_31 : decode m_Mo_takeOut.2.1 31 = .ok (.iload_n 1, 1) := by decide +kernel
theorem d_Mo_takeOut_32 : decode m_Mo_takeOut.2.1 32 = .ok (.iconst 1, 1) := by decide +kernel
theorem d_Mo_takeOut_33 : decode m_Mo_takeOut.2.1 33 = .ok (.iadd, 1) := by decide +kernel
theorem d_Mo_takeOut_34 : decode m_Mo_takeOut.2.1 34 = .ok (.aload_n 0, 1) := by decide +kernel
theorem d_Mo_takeOut_35 : decode m_Mo_takeOut.2.1 35 = .ok (.getfield 19, 3) := by decide +kernel
theorem d_Mo_takeOut_38 : decode m_Mo_takeOut.2.1 38 = .ok (.iload_n 1, 1) := by decide +kernel
theorem d_Mo_takeOut_39 : decode m_Mo_takeOut.2.1 39 = .ok (.iaload, 1) := by decide +kernel
theorem d_Mo_takeOut_40 : decode m_Mo_takeOut.2.1 40 = .ok (.iastore, 1) := by decide +kernel
theorem d_Mo_takeOut_41 : decode m_Mo_takeOut.2.1 41 = .ok (.iload_n 1, 1) := by decide +kernel
theorem d_Mo_takeOut_42 : decode m_Mo_takeOut.2.1 42 = .ok (.istore_n 2, 1) := by decide +kernel
theorem d_Mo_takeOut_43 : decode m_Mo_takeOut.2.1 43 = .ok (.iload_n 2, 1) := by decide +kernel
theorem d_Mo_takeOut_44 : decode m_Mo_takeOut.2.1 44 = .ok (.iconst 1, 1) := by decide +kernel
theorem d_Mo_takeOut_45 : decode m_Mo_takeOut.2.1 45 = .ok (.iadd, 1) := by decide +kernel
theorem d_Mo_takeOut_46 : decode m_Mo_takeOut.2.1 46 = .ok (.aload_n 0, 1) := by decide +kernel
theorem d_Mo_takeOut_47 : decode m_Mo_takeOut.2.1 47 = .ok (.getfield 70, 3) := by decide +kernel
theorem d_Mo_takeOut_50 : decode m_Mo_takeOut.2.1 50 = .ok (.if_icmp .ge 37, 3) := by decide +kernel
theorem d_Mo_takeOut_53 : decode m_Mo_takeOut.2.1 53 = .ok (.aload_n 0, 1) := by decide +kernel
theorem d_Mo_takeOut_54 : decode m_Mo_takeOut.2.1 54 = .ok (.getfield 16, 3) := by decide +kernel
theorem d_Mo_takeOut_57 : decode m_Mo_takeOut.2.1 57 = .ok (.iload_n 2, 1) := by decide +kernel
theorem d_Mo_takeOut_58 : decode m_Mo_takeOut.2.1 58 = .ok (.aload_n 0, 1) := by decide +kernel
theorem d_Mo_takeOut_59 : decode m_Mo_takeOut.2.1 59 = .ok (.getfield 16, 3) := by decide +kernel
theorem d_Mo_takeOut_62 : decode m_Mo_takeOut.2.1 62 = .ok (.iload_n 2, 1) := by decide +kernel
theorem d_Mo_takeOut_63 : decode m_Mo_takeOut.2.1 63 = .ok (.iconst 1, 1) := by decide +kernel
theorem d_Mo_takeOut_64 : decode m_Mo_takeOut.2.1 64 = .ok (.iadd, 1) := by decide +kernel
theorem d_Mo_takeOut_65 : decode m_Mo_takeOut.2.1 65 = .ok (.iaload, 1) := by decide +kernel
theorem d_Mo_takeOut_66 : decode m_Mo_takeOut.2.1 66 = .ok (.iastore, 1) := by decide +kernel
theorem d_Mo_takeOut_67 : decode m_Mo_takeOut.2.1 67 = .ok (.aload_n 0, 1) := by decide +kernel
theorem d_Mo_takeOut_68 : decode m_Mo_takeOut.2.1 68 = .ok (.getfield 19, 3) := by decide +kernel
theorem d_Mo_takeOut_71 : decode m_Mo_takeOut.2.1 71 = .ok (.iload_n 2, 1) := by decide +kernel
theorem d_Mo_takeOut_72 : decode m_Mo_takeOut.2.1 72 = .ok (.aload_n 0, 1) := by decide +kernel
theorem d_Mo_takeOut_73 : decode m_Mo_takeOut.2.1 73 = .ok (.getfield 19, 3) := by decide +kernel
theorem d_Mo_takeOut_76 : decode m_Mo_takeOut.2.1 76 = .ok (.iload_n 2, 1) := by decide +kernel
theorem d_Mo_takeOut_77 : decode m_Mo_takeOut.2.1 77 = .ok (.iconst 1, 1) := by decide +kernel
theorem d_Mo_takeOut_78 : decode m_Mo_takeOut.2.1 78 = .ok (.iadd, 1) := by decide +kernel
theorem d_Mo_takeOut_79 : decode m_Mo_takeOut.2.1 79 = .ok (.iaload, 1) := by decide +kernel
theorem d_Mo_takeOut_80 : decode m_Mo_takeOut.2.1 80 = .ok (.iastore, 1) := by decide +kernel
theorem d_Mo_takeOut_81 : decode m_Mo_takeOut.2.1 81 = .ok (.iinc 2 1, 3) := by decide +kernel
theorem d_Mo_takeOut_84 : decode m_Mo_takeOut.2.1 84 = .ok (.goto (-41), 3) := by decide +kernel
theorem d_Mo_takeOut_87 : decode m_Mo_takeOut.2.1 87 = .ok (.aload_n 0, 1) := by decide +kernel
theorem d_Mo_takeOut_88 : decode m_Mo_takeOut.2.1 88 = .ok (.dup, 1) := by decide +kernel
theorem d_Mo_takeOut_89 : decode m_Mo_takeOut.2.1 89 = .ok (.getfield 70, 3) := by decide +kernel
theorem d_Mo_takeOut_92 : decode m_Mo_takeOut.2.1 92 = .ok (.iconst 1, 1) := by decide +kernel
theorem d_Mo_takeOut_93 : decode m_Mo_takeOut.2.1 93 = .ok (.isub, 1) := by decide +kernel
theorem d_Mo_takeOut_94 : decode m_Mo_takeOut.2.1 94 = .ok (.putfield 70, 3) := by decide +kernel
theorem d_Mo_takeOut_97 : decode m_Mo_takeOut.2.1 97 = .ok (.return_, 1) := by decide +kernel
theorem d_Mo_putIn_0 : decode m_Mo_putIn.2.1 0 = .ok (.iload_n 3, 1) := by decide +kernel
theorem d_Mo_putIn_1 : decode m_Mo_putIn.2.1 1 = .ok (.iconst 1, 1) := by decide +kernel
theorem d_Mo_putIn_2 : decode m_Mo_putIn.2.1 2 = .ok (.iadd, 1) := by decide +kernel
theorem d_Mo_putIn_3 : decode m_Mo_putIn.2.1 3 = .ok (.istore 4, 2) := by decide +kernel
theorem d_Mo_putIn_5 : decode m_Mo_putIn.2.1 5 = .ok (.iload 4, 2) := by decide +kernel
theorem d_Mo_putIn_7 : decode m_Mo_putIn.2.1 7 = .ok (.aload_n 0, 1) := by decide +kernel
theorem d_Mo_putIn_8 : decode m_Mo_putIn.2.1 8 = .ok (.getfield 70, 3) := by decide +kernel
theorem d_Mo_putIn_11 : decode m_Mo_putIn.2.1 11 = .ok (.if_icmp .ge 20, 3) := by decide +kernel
theorem d_Mo_putIn_14 : decode m_Mo_putIn.2.1 14 = .ok (.aload_n 0, 1) := by decide +kernel
theorem d_Mo_putIn_15 : decode m_Mo_putIn.2.1 15 = .ok (.getfield 19, 3) := by decide +kernel
theorem d_Mo_putIn_18 : decode m_Mo_putIn.2.1 18 = .ok (.iload 4, 2) := by decide +kernel
theorem d_Mo_putIn_20 : decode m_Mo_putIn.2.1 20 = .ok (.iaload, 1) := by decide +kernel
theorem d_Mo_putIn_21 : decode m_Mo_putIn.2.1 21 = .ok (.iload_n 2, 1) := by decide +kernel
theorem d_Mo_putIn_22 : decode m_Mo_putIn.2.1 22 = .ok (.if_icmp .le 9, 3) := by decide +kernel
theorem d_Mo_putIn_25 : decode m_Mo_putIn.2.1 25 = .ok (.iinc 4 1, 3) := by decide +kernel
theorem d_Mo_putIn_28 : decode m_Mo_putIn.2.1 28 = .ok (.goto (-23), 3) := by decide +kernel
theorem d_Mo_putIn_31 : decode m_Mo_putIn.2.1 31 = .ok (.aload_n 0, 1) := by decide +kernel
theorem d_Mo_putIn_32 : decode m_Mo_putIn.2.1 32 = .ok (.getfield 70, 3) := by decide +kernel
theorem d_Mo_putIn_35 : decode m_Mo_putIn.2.1 35 = .ok (.istore 5, 2) := by decide +kernel
theorem d_Mo_putIn_37 : decode m_Mo_putIn.2.1 37 = .ok (.iload 5, 2) := by decide +kernel
theorem d_Mo_putIn_39 : decode m_Mo_putIn.2.1 39 = .ok (.iload 4, 2) := by decide +kernel
theorem d_Mo_putIn_41 : decode m_Mo_putIn.2.1 41 = .ok (.if_icmp .le 41, 3) := by decide +kernel
theorem d_Mo_putIn_44 : decode m_Mo_putIn.2.1 44 = .ok (.aload_n 0, 1) := by decide +kernel
theorem d_Mo_putIn_45 : decode m_Mo_putIn.2.1 45 = .ok (.getfield 16, 3) := by decide +kernel
theorem d_Mo_putIn_48 : decode m_Mo_putIn.2.1 48 = .ok (.iload 5, 2) := by decide +kernel
theorem d_Mo_putIn_50 : decode m_Mo_putIn.2.1 50 = .ok (.aload_n 0, 1) := by decide +kernel
theorem d_Mo_putIn_51 : decode m_Mo_putIn.2.1 51 = .ok (.getfield 16, 3) := by decide +kernel
theorem d_Mo_putIn_54 : decode m_Mo_putIn.2.1 54 = .ok (.iload 5, 2) := by decide +kernel
theorem d_Mo_putIn_56 : decode m_Mo_putIn.2.1 56 = .ok (.iconst 1, 1) := by decide +kernel
theorem d_Mo_putIn_57 : decode m_Mo_putIn.2.1 57 = .ok (.isub, 1) := by decide +kernel
theorem d_Mo_putIn_58 : decode m_Mo_putIn.2.1 58 = .ok (.iaload, 1) := by decide +kernel
theorem d_Mo_putIn_59 : decode m_Mo_putIn.2.1 59 = .ok (.iastore, 1) := by decide +kernel
theorem d_Mo_putIn_60 : decode m_Mo_putIn.2.1 60 = .ok (.aload_n 0, 1) := by decide +kernel
theorem d_Mo_putIn_61 : decode m_Mo_putIn.2.1 61 = .ok (.getfield 19, 3) := by decide +kernel
theorem d_Mo_putIn_64 : decode m_Mo_putIn.2.1 64 = .ok (.iload 5, 2) := by decide +kernel
theorem d_Mo_putIn_66 : decode m_Mo_putIn.2.1 66 = .ok (.aload_n 0, 1) := by decide +kernel
theorem d_Mo_putIn_67 : decode m_Mo_putIn.2.1 67 = .ok (.getfield 19, 3) := by decide +kernel
theorem d_Mo_putIn_70 : decode m_Mo_putIn.2.1 70 = .ok (.iload 5, 2) := by decide +kernel
theorem d_Mo_putIn_72 : decode m_Mo_putIn.2.1 72 = .ok (.iconst 1, 1) := by decide +kernel
theorem d_Mo_putIn_73 : decode m_Mo_putIn.2.1 73 = .ok (.isub, 1) := by decide +kernel
theorem d_Mo_putIn_74 : decode m_Mo_putIn.2.1 74 = .ok (.iaload, 1) := by decide +kernel
theorem d_Mo_putIn_75 : decode m_Mo_putIn.2.1 75 = .ok (.iastore, 1) := by decide +kernel
theorem d_Mo_putIn_76 : decode m_Mo_putIn.2.1 76 = .ok (.iinc 5 (-1), 3) := by decide +kernel
theorem d_Mo_putIn_79 : decode m_Mo_putIn.2.1 79 = .ok (.goto (-42), 3) := by decide +kernel
theorem d_Mo_putIn_82 : decode m_Mo_putIn.2.1 82 = .ok (.aload_n 0, 1) := by decide +kernel
theorem d_Mo_putIn_83 : decode m_Mo_putIn.2.1 83 = .ok (.getfield 16, 3) := by decide +kernel
theorem d_Mo_putIn_86 : decode m_Mo_putIn.2.1 86 = .ok (.iload 4, 2) := by decide +kernel
theorem d_Mo_putIn_88 : decode m_Mo_putIn.2.1 88 = .ok (.iload_n 1, 1) := by decide +kernel
theorem d_Mo_putIn_89 : decode m_Mo_putIn.2.1 89 = .ok (.iastore, 1) := by decide +kernel
theorem d_Mo_putIn_90 : decode m_Mo_putIn.2.1 90 = .ok (.aload_n 0, 1) := by decide +kernel
theorem d_Mo_putIn_91 : decode m_Mo_putIn.2.1 91 = .ok (.getfield 19, 3) := by decide +kernel
theorem d_Mo_putIn_94 : decode m_Mo_putIn.2.1 94 = .ok (.iload 4, 2) := by decide +kernel
theorem d_Mo_putIn_96 : decode m_Mo_putIn.2.1 96 = .ok (.iload_n 2, 1) := by decide +kernel
theorem d_Mo_putIn_97 : decode m_Mo_putIn.2.1 97 = .ok (.iastore, 1) := by decide +kernel
theorem d_Mo_putIn_98 : decode m_Mo_putIn.2.1 98 = .ok (.aload_n 0, 1) := by decide +kernel
theorem d_Mo_putIn_99 : decode m_Mo_putIn.2.1 99 = .ok (.dup, 1) := by decide +kernel
theorem d_Mo_putIn_100 : decode m_Mo_putIn.2.1 100 = .ok (.getfield 70, 3) := by decide +kernel
theorem d_Mo_putIn_103 : decode m_Mo_putIn.2.1 103 = .ok (.iconst 1, 1) := by decide +kernel
theorem d_Mo_putIn_104 : decode m_Mo_putIn.2.1 104 = .ok (.iadd, 1) := by decide +kernel
theorem d_Mo_putIn_105 : decode m_Mo_putIn.2.1 105 = .ok (.putfield 70, 3) := by decide +kernel
theorem d_Mo_putIn_108 : decode m_Mo_putIn.2.1 108 = .ok (.return_, 1) := by decide +kernel
theorem d_Mo_relate_0 : decode m_Mo_relate.2.1 0 = .ok (.iload_n 3, 1) := by decide +kernel
theorem d_Mo_relate_1 : decode m_Mo_relate.2.1 1 = .ok (.iload_n 1, 1) := by decide +kernel
theorem d_Mo_relate_2 : decode m_Mo_relate.2.1 2 = .ok (.if_icmp .ne 6, 3) := by decide +kernel
theorem d_Mo_relate_5 : decode m_Mo_relate.2.1 5 = .ok (.bipush (-101), 2) := by decide +kernel
theorem d_Mo_relate_7 : decode m_Mo_relate.2.1 7 = .ok (.ireturn, 1) := by decide +kernel
theorem d_Mo_relate_8 : decode m_Mo_relate.2.1 8 = .ok (.aload_n 0, 1) := by decide +kernel
theorem d_Mo_relate_9 : decode m_Mo_relate.2.1 9 = .ok (.iload_n 3, 1) := by decide +kernel
theorem d_Mo_relate_10 : decode m_Mo_relate.2.1 10 = .ok (.invokevirtual 73, 3) := by decide +kernel
theorem d_Mo_relate_13 : decode m_Mo_relate.2.1 13 = .ok (.istore 4, 2) := by decide +kernel
theorem d_Mo_relate_15 : decode m_Mo_relate.2.1 15 = .ok (.iload 4, 2) := by decide +kernel
theorem d_Mo_relate_17 : decode m_Mo_relate.2.1 17 = .ok (.ifCond .lt 12, 3) := by decide +kernel
theorem d_Mo_relate_20 : decode m_Mo_relate.2.1 20 = .ok (.aload_n 0, 1) := by decide +kernel
theorem d_Mo_relate_21 : decode m_Mo_relate.2.1 21 = .ok (.iload 4, 2) := by decide +kernel
theorem d_Mo_relate_23 : decode m_Mo_relate.2.1 23 = .ok (.invokevirtual 77, 3) := by decide +kernel
theorem d_Mo_relate_26 : decode m_Mo_relate.2.1 26 = .ok (.goto 15, 3) := by decide +kernel
theorem d_Mo_relate_29 : decode m_Mo_relate.2.1 29 = .ok (.aload_n 0, 1) := by decide +kernel
theorem d_Mo_relate_30 : decode m_Mo_relate.2.1 30 = .ok (.getfield 70, 3) := by decide +kernel
theorem d_Mo_relate_33 : decode m_Mo_relate.2.1 33 = .ok (.bipush 30, 2) := by decide +kernel
theorem d_Mo_relate_35 : decode m_Mo_relate.2.1 35 = .ok (.if_icmp .ne 6, 3) := by decide +kernel
theorem d_Mo_relate_38 : decode m_Mo_relate.2.1 38 = .ok (.bipush (-102), 2) := by decide +kernel
theorem d_Mo_relate_40 : decode m_Mo_relate.2.1 40 = .ok (.ireturn, 1) := by decide +kernel
theorem d_Mo_relate_41 : decode m_Mo_relate.2.1 41 = .ok (.aload_n 0, 1) := by decide +kernel
theorem d_Mo_relate_42 : decode m_Mo_relate.2.1 42 = .ok (.iload_n 1, 1) := by decide +kernel
theorem d_Mo_relate_43 : decode m_Mo_relate.2.1 43 = .ok (.invokevirtual 73, 3) := by decide +kernel
theorem d_Mo_relate_46 : decode m_Mo_relate.2.1 46 = .ok (.istore 5, 2) := by decide +kernel
theorem d_Mo_relate_48 : decode m_Mo_relate.2.1 48 = .ok (.aload_n 0, 1) := by decide +kernel
theorem d_Mo_relate_49 : decode m_Mo_relate.2.1 49 = .ok (.iload_n 3, 1) := by decide +kernel
theorem d_Mo_relate_50 : decode m_Mo_relate.2.1 50 = .ok (.iload_n 2, 1) := by decide +kernel
theorem d_Mo_relate_51 : decode m_Mo_relate.2.1 51 = .ok (.iload 5, 2) := by decide +kernel
theorem d_Mo_relate_53 : decode m_Mo_relate.2.1 53 = .ok (.invokevirtual 81, 3) := by decide +kernel
theorem d_Mo_relate_56 : decode m_Mo_relate.2.1 56 = .ok (.iconst 0, 1) := by decide +kernel
theorem d_Mo_relate_57 : decode m_Mo_relate.2.1 57 = .ok (.ireturn, 1) := by decide +kernel
theorem d_Mo_done_0 : decode m_Mo_done.2.1 0 = .ok (.aload_n 0, 1) := by decide +kernel
theorem d_Mo_done_1 : decode m_Mo_done.2.1 1 = .ok (.aload_n 0, 1) := by decide +kernel
theorem d_Mo_done_2 : decode m_Mo_done.2.1 2 = .ok (.getfield 50, 3) := by decide +kernel
theorem d_Mo_done_5 : decode m_Mo_done.2.1 5 = .ok (.putfield 70, 3) := by decide +kernel
theorem d_Mo_done_8 : decode m_Mo_done.2.1 8 = .ok (.iconst 0, 1) := by decide +kernel
theorem d_Mo_done_9 : decode m_Mo_done.2.1 9 = .ok (.istore_n 1, 1) := by decide +kernel
theorem d_Mo_done_10 : decode m_Mo_done.2.1 10 = .ok (.iload_n 1, 1) := by decide +kernel
theorem d_Mo_done_11 : decode m_Mo_done.2.1 11 = .ok (.aload_n 0, 1) := by decide +kernel
theorem d_Mo_done_12 : decode m_Mo_done.2.1 12 = .ok (.getfield 50, 3) := by decide +kernel
theorem d_Mo_done_15 : decode m_Mo_done.2.1 15 = .ok (.if_icmp .ge 33, 3) := by decide +kernel
theorem d_Mo_done_18 : decode m_Mo_done.2.1 18 = .ok (.aload_n 0, 1) := by decide +kernel
theorem d_Mo_done_19 : decode m_Mo_done.2.1 19 = .ok (.getfield 16, 3) := by decide +kernel
theorem d_Mo_done_22 : decode m_Mo_done.2.1 22 = .ok (.iload_n 1, 1) := by decide +kernel
theorem d_Mo_done_23 : decode m_Mo_done.2.1 23 = .ok (.aload_n 0, 1) := by decide +kernel
theorem d_Mo_done_24 : decode m_Mo_done.2.1 24 = .ok (.getfield 7, 3) := by decide +kernel
theorem d_Mo_done_27 : decode m_Mo_done.2.1 27 = .ok (.iload_n 1, 1) := by decide +kernel
theorem d_Mo_done_28 : decode m_Mo_done.2.1 28 = .ok (.iaload, 1) := by decide +kernel
theorem d_Mo_done_29 : decode m_Mo_done.2.1 29 = .ok (.iastore, 1) := by decide +kernel
theorem d_Mo_done_30 : decode m_Mo_done.2.1 30 = .ok (.aload_n 0, 1) := by decide +kernel
theorem d_Mo_done_31 : decode m_Mo_done.2.1 31 = .ok (.getfield 19, 3) := by decide +kernel
theorem d_Mo_done_34 : decode m_Mo_done.2.1 34 = .ok (.iload_n 1, 1) := by decide +kernel
theorem d_Mo_done_35 : decode m_Mo_done.2.1 35 = .ok (.aload_n 0, 1) := by decide +kernel
theorem d_Mo_done_36 : decode m_Mo_done.2.1 36 = .ok (.getfield 13, 3) := by decide +kernel
theorem d_Mo_done_39 : decode m_Mo_done.2.1 39 = .ok (.iload_n 1, 1) := by decide +kernel
theorem d_Mo_done_40 : decode m_Mo_done.2.1 40 = .ok (.iaload, 1) := by decide +kernel
theorem d_Mo_done_41 : decode m_Mo_done.2.1 41 = .ok (.iastore, 1) := by decide +kernel
theorem d_Mo_done_42 : decode m_Mo_done.2.1 42 = .ok (.iinc 1 1, 3) := by decide +kernel
theorem d_Mo_done_45 : decode m_Mo_done.2.1 45 = .ok (.goto (-35), 3) := by decide +kernel
theorem d_Mo_done_48 : decode m_Mo_done.2.1 48 = .ok (.iconst 0, 1) := by decide +kernel
theorem d_Mo_done_49 : decode m_Mo_done.2.1 49 = .ok (.istore_n 1, 1) := by decide +kernel
theorem d_Mo_done_50 : decode m_Mo_done.2.1 50 = .ok (.iconst 1, 1) := by decide +kernel
theorem d_Mo_done_51 : decode m_Mo_done.2.1 51 = .ok (.istore_n 2, 1) := by decide +kernel
theorem d_Mo_done_52 : decode m_Mo_done.2.1 52 = .ok (.iconst 0, 1) := by decide +kernel
theorem d_Mo_done_53 : decode m_Mo_done.2.1 53 = .ok (.istore_n 3, 1) := by decide +kernel
theorem d_Mo_done_54 : decode m_Mo_done.2.1 54 = .ok (.iload_n 2, 1) := by decide +kernel
theorem d_Mo_done_55 : decode m_Mo_done.2.1 55 = .ok (.aload_n 0, 1) := by decide +kernel
theorem d_Mo_done_56 : decode m_Mo_done.2.1 56 = .ok (.getfield 53, 3) := by decide +kernel
theorem d_Mo_done_59 : decode m_Mo_done.2.1 59 = .ok (.if_icmp .ge 173, 3) := by decide +kernel
theorem d_Mo_done_62 : decode m_Mo_done.2.1 62 = .ok (.iconst 0, 1) := by decide +kernel
theorem d_Mo_done_63 : decode m_Mo_done.2.1 63 = .ok (.istore 4, 2) := by decide +kernel
theorem d_Mo_done_65 : decode m_Mo_done.2.1 65 = .ok (.iconst 0, 1) := by decide +kernel
theorem d_Mo_done_66 : decode m_Mo_done.2.1 66 = .ok (.istore 5, 2) := by decide +kernel
theorem d_Mo_done_68 : decode m_Mo_done.2.1 68 = .ok (.iload_n 2, 1) := by decide +kernel
theorem d_Mo_done_69 : decode m_Mo_done.2.1 69 = .ok (.aload_n 0, 1) := by decide +kernel
theorem d_Mo_done_70 : decode m_Mo_done.2.1 70 = .ok (.getfield 53, 3) := by decide +kernel
theorem d_Mo_done_73 : decode m_Mo_done.2.1 73 = .ok (.if_icmp .ge 54, 3) := by decide +kernel
theorem d_Mo_done_76 : decode m_Mo_done.2.1 76 = .ok (.aload_n 0, 1) := by decide +kernel
theorem d_Mo_done_77 : decode m_Mo_done.2.1 77 = .ok (.getfield 22, 3) := by decide +kernel
theorem d_Mo_done_80 : decode m_Mo_done.2.1 80 = .ok (.iload_n 2, 1) := by decide +kernel
theorem d_Mo_done_81 : decode m_Mo_done.2.1 81 = .ok (.iaload, 1) := by decide +kernel
theorem d_Mo_done_82 : decode m_Mo_done.2.1 82 = .ok (.invokestatic 56, 3) := by decide +kernel
theorem d_Mo_done_85 : decode m_Mo_done.2.1 85 = .ok (.ifCond .ne 15, 3) := by decide +kernel
theorem d_Mo_done_88 : decode m_Mo_done.2.1 88 = .ok (.aload_n 0, 1) := by decide +kernel
theorem d_Mo_done_89 : decode m_Mo_done.2.1 89 = .ok (.getfield 22, 3) := by decide +kernel
theorem d_Mo_done_92 : decode m_Mo_done.2.1 92 = .ok (.iload_n 2, 1) := by decide +kernel
theorem d_Mo_done_93 : decode m_Mo_done.2.1 93 = .ok (.iaload, 1) := by decide +kernel
theorem d_Mo_done_94 : decode m_Mo_done.2.1 94 = .ok (.invokestatic 60, 3) := by decide +kernel
theorem d_Mo_done_97 : decode m_Mo_done.2.1 97 = .ok (.ifCond .eq 30, 3) := by decide +kernel
theorem d_Mo_done_100 : decode m_Mo_done.2.1 100 = .ok (.iload 4, 2) := by decide +kernel
theorem d_Mo_done_102 : decode m_Mo_done.2.1 102 = .ok (.aload_n 0, 1) := by decide +kernel
theorem d_Mo_done_103 : decode m_Mo_done.2.1 103 = .ok (.getfield 22, 3) := by decide +kernel
theorem d_Mo_done_106 : decode m_Mo_done.2.1 106 = .ok (.iload_n 2, 1) := by decide +kernel
theorem d_Mo_done_107 : decode m_Mo_done.2.1 107 = .ok (.iaload, 1) := by decide +kernel
theorem d_Mo_done_108 : decode m_Mo_done.2.1 108 = .ok (.iload 5, 2) := by decide +kernel
theorem d_Mo_done_110 : decode m_Mo_done.2.1 110 = .ok (.ishl, 1) := by decide +kernel
theorem d_Mo_done_111 : decode m_Mo_done.2.1 111 = .ok (.iadd, 1) := by decide +kernel
theorem d_Mo_done_112 : decode m_Mo_done.2.1 112 = .ok (.istore 4, 2) := by decide +kernel
theorem d_Mo_done_114 : decode m_Mo_done.2.1 114 = .ok (.iload 5, 2) := by decide +kernel
theorem d_Mo_done_116 : decode m_Mo_done.2.1 116 = .ok (.bipush 7, 2) := by decide +kernel
theorem d_Mo_done_118 : decode m_Mo_done.2.1 118 = .ok (.iadd, 1) := by decide +kernel
theorem d_Mo_done_119 : decode m_Mo_done.2.1 119 = .ok (.istore 5, 2) := by decide +kernel
theorem d_Mo_done_121 : decode m_Mo_done.2.1 121 = .ok (.iinc 2 1, 3) := by decide +kernel
theorem d_Mo_done_124 : decode m_Mo_done.2.1 124 = .ok (.goto (-56), 3) := by decide +kernel
theorem d_Mo_done_127 : decode m_Mo_done.2.1 127 = .ok (.iload_n 3, 1) := by decide +kernel
theorem d_Mo_done_128 : decode m_Mo_done.2.1 128 = .ok (.ifCond .ne 15, 3) := by decide +kernel
theorem d_Mo_done_131 : decode m_Mo_done.2.1 131 = .ok (.aload_n 0, 1) := by decide +kernel
theorem d_Mo_done_132 : decode m_Mo_done.2.1 132 = .ok (.iload 4, 2) := by decide +kernel
theorem d_Mo_done_134 : decode m_Mo_done.2.1 134 = .ok (.invokevirtual 73, 3) := by decide +kernel
theorem d_Mo_done_137 : decode m_Mo_done.2.1 137 = .ok (.ifCond .ge 6, 3) := by decide +kernel
theorem d_Mo_done_140 : decode m_Mo_done.2.1 140 = .ok (.bipush (-100), 2) := by decide +kernel
theorem d_Mo_done_142 : decode m_Mo_done.2.1 142 = .ok (.ireturn, 1) := by decide +kernel
theorem d_Mo_done_143 : decode m_Mo_done.2.1 143 = .ok (.iload_n 3, 1) := by decide +kernel
theorem d_Mo_done_144 : decode m_Mo_done.2.1 144 = .ok (.ifCond .ne 7, 3) := by decide +kernel
theorem d_Mo_done_147 : decode m_Mo_done.2.1 147 = .ok (.iconst 0, 1) := by decide +kernel
theorem d_Mo_done_148 : decode m_Mo_done.2.1 148 = .ok (.goto 11, 3) := by decide +kernel
theorem d_Mo_done_151 : decode m_Mo_done.2.1 151 = .ok (.aload_n 0, 1) := by decide +kernel
theorem d_Mo_done_152 : decode m_Mo_done.2.1 152 = .ok (.iload_n 1, 1) := by decide +kernel
theorem d_Mo_done_153 : decode m_Mo_done.2.1 153 = .ok (.iload_n 3, 1) := by decide +kernel
theorem d_Mo_done_154 : decode m_Mo_done.2.1 154 = .ok (.iload 4, 2) := by decide +kernel
theorem d_Mo_done_156 : decode m_Mo_done.2.1 156 = .ok (.invokevirtual 85, 3) := by decide +kernel
theorem d_Mo_done_159 : decode m_Mo_done.2.1 159 = .ok (.istore 6, 2) := by decide +kernel
theorem d_Mo_done_161 : decode m_Mo_done.2.1 161 = .ok (.iload 6, 2) := by decide +kernel
theorem d_Mo_done_163 : decode m_Mo_done.2.1 163 = .ok (.ifCond .ge 6, 3) := by decide +kernel
theorem d_Mo_done_166 : decode m_Mo_done.2.1 166 = .ok (.iload 6, 2) := by decide +kernel
theorem d_Mo_done_168 : decode m_Mo_done.2.1 168 = .ok (.ireturn, 1) := by decide +kernel
theorem d_Mo_done_169 : decode m_Mo_done.2.1 169 = .ok (.iload 4, 2) := by decide +kernel
theorem d_Mo_done_171 : decode m_Mo_done.2.1 171 = .ok (.istore_n 1, 1) := by decide +kernel
theorem d_Mo_done_172 : decode m_Mo_done.2.1 172 = .ok (.iconst 0, 1) := by decide +kernel
theorem d_Mo_done_173 : decode m_Mo_done.2.1 173 = .ok (.istore_n 3, 1) := by decide +kernel
theorem d_Mo_done_174 : decode m_Mo_done.2.1 174 = .ok (.iload_n 2, 1) := by decide +kernel
theorem d_Mo_done_175 : decode m_Mo_done.2.1 175 = .ok (.aload_n 0, 1) := by decide +kernel
theorem d_Mo_done_176 : decode m_Mo_done.2.1 176 = .ok (.getfield 53, 3) := by decide +kernel
theorem d_Mo_done_179 : decode m_Mo_done.2.1 179 = .ok (.if_icmp .ge 50, 3) := by decide +kernel
theorem d_Mo_done_182 : decode m_Mo_done.2.1 182 = .ok (.aload_n 0, 1) := by decide +kernel
theorem d_Mo_done_183 : decode m_Mo_done.2.1 183 = .ok (.getfield 22, 3) := by decide +kernel
theorem d_Mo_done_186 : decode m_Mo_done.2.1 186 = .ok (.iload_n 2, 1) := by decide +kernel
theorem d_Mo_done_187 : decode m_Mo_done.2.1 187 = .ok (.iaload, 1) := by decide +kernel
theorem d_Mo_done_188 : decode m_Mo_done.2.1 188 = .ok (.bipush 60, 2) := by decide +kernel
theorem d_Mo_done_190 : decode m_Mo_done.2.1 190 = .ok (.if_icmp .eq 14, 3) := by decide +kernel
theorem d_Mo_done_193 : decode m_Mo_done.2.1 193 = .ok (.aload_n 0, 1) := by decide +kernel
theorem d_Mo_done_194 : decode m_Mo_done.2.1 194 = .ok (.getfield 22, 3) := by decide +kernel
theorem d_Mo_done_197 : decode m_Mo_done.2.1 197 = .ok (.iload_n 2, 1) := by decide +kernel
theorem d_Mo_done_198 : decode m_Mo_done.2.1 198 = .ok (.iaload, 1) := by decide +kernel
theorem d_Mo_done_199 : decode m_Mo_done.2.1 199 = .ok (.bipush 61, 2) := by decide +kernel
theorem d_Mo_done_201 : decode m_Mo_done.2.1 201 = .ok (.if_icmp .ne 28, 3) := by decide +kernel
theorem d_Mo_done_204 : decode m_Mo_done.2.1 204 = .ok (.aload_n 0, 1) := by decide +kernel
theorem d_Mo_done_205 : decode m_Mo_done.2.1 205 = .ok (.getfield 22, 3) := by decide +kernel
theorem d_Mo_done_208 : decode m_Mo_done.2.1 208 = .ok (.iload_n 2, 1) := by decide +kernel
theorem d_Mo_done_209 : decode m_Mo_done.2.1 209 = .ok (.iaload, 1) := by decide +kernel
theorem d_Mo_done_210 : decode m_Mo_done.2.1 210 = .ok (.bipush 61, 2) := by decide +kernel
theorem d_Mo_done_212 : decode m_Mo_done.2.1 212 = .ok (.if_icmp .ne 7, 3) := by decide +kernel
theorem d_Mo_done_215 : decode m_Mo_done.2.1 215 = .ok (.iconst 4, 1) := by decide +kernel
theorem d_Mo_done_216 : decode m_Mo_done.2.1 216 = .ok (.goto 6, 3) := by decide +kernel
theorem d_Mo_done_219 : decode m_Mo_done.2.1 219 = .ok (.iload_n 3, 1) := by decide +kernel
theorem d_Mo_done_220 : decode m_Mo_done.2.1 220 = .ok (.iconst 1, 1) := by decide +kernel
theorem d_Mo_done_221 : decode m_Mo_done.2.1 221 = .ok (.iadd, 1) := by decide +kernel
theorem d_Mo_done_222 : decode m_Mo_done.2.1 222 = .ok (.istore_n 3, 1) := by decide +kernel
theorem d_Mo_done_223 : decode m_Mo_done.2.1 223 = .ok (.iinc 2 1, 3) := by decide +kernel
theorem d_Mo_done_226 : decode m_Mo_done.2.1 226 = .ok (.goto (-52), 3) := by decide +kernel
theorem d_Mo_done_229 : decode m_Mo_done.2.1 229 = .ok (.goto (-175), 3) := by decide +kernel
theorem d_Mo_done_232 : decode m_Mo_done.2.1 232 = .ok (.aload_n 0, 1) := by decide +kernel
theorem d_Mo_done_233 : decode m_Mo_done.2.1 233 = .ok (.aload_n 0, 1) := by decide +kernel
theorem d_Mo_done_234 : decode m_Mo_done.2.1 234 = .ok (.getfield 70, 3) := by decide +kernel
theorem d_Mo_done_237 : decode m_Mo_done.2.1 237 = .ok (.putfield 50, 3) := by decide +kernel
theorem d_Mo_done_240 : decode m_Mo_done.2.1 240 = .ok (.iconst 0, 1) := by decide +kernel
theorem d_Mo_done_241 : decode m_Mo_done.2.1 241 = .ok (.istore 4, 2) := by decide +kernel
theorem d_Mo_done_243 : decode m_Mo_done.2.1 243 = .ok (.iload 4, 2) := by decide +kernel
theorem d_Mo_done_245 : decode m_Mo_done.2.1 245 = .ok (.aload_n 0, 1) := by decide +kernel
theorem d_Mo_done_246 : decode m_Mo_done.2.1 246 = .ok (.getfield 50, 3) := by decide +kernel
theorem d_Mo_done_249 : decode m_Mo_done.2.1 249 = .ok (.if_icmp .ge 37, 3) := by decide +kernel
theorem d_Mo_done_252 : decode m_Mo_done.2.1 252 = .ok (.aload_n 0, 1) := by decide +kernel
theorem d_Mo_done_253 : decode m_Mo_done.2.1 253 = .ok (.getfield 7, 3) := by decide +kernel
theorem d_Mo_done_256 : decode m_Mo_done.2.1 256 = .ok (.iload 4, 2) := by decide +kernel
theorem d_Mo_done_258 : decode m_Mo_done.2.1 258 = .ok (.aload_n 0, 1) := by decide +kernel
theorem d_Mo_done_259 : decode m_Mo_done.2.1 259 = .ok (.getfield 16, 3) := by decide +kernel
theorem d_Mo_done_262 : decode m_Mo_done.2.1 262 = .ok (.iload 4, 2) := by decide +kernel
theorem d_Mo_done_264 : decode m_Mo_done.2.1 264 = .ok (.iaload, 1) := by decide +kernel
theorem d_Mo_done_265 : decode m_Mo_done.2.1 265 = .ok (.iastore, 1) := by decide +kernel
theorem d_Mo_done_266 : decode m_Mo_done.2.1 266 = .ok (.aload_n 0, 1) := by decide +kernel
theorem d_Mo_done_267 : decode m_Mo_done.2.1 267 = .ok (.getfield 13, 3) := by decide +kernel
theorem d_Mo_done_270 : decode m_Mo_done.2.1 270 = .ok (.iload 4, 2) := by decide +kernel
theorem d_Mo_done_272 : decode m_Mo_done.2.1 272 = .ok (.aload_n 0, 1) := by decide +kernel
theorem d_Mo_done_273 : decode m_Mo_done.2.1 273 = .ok (.getfield 19, 3) := by decide +kernel
theorem d_Mo_done_276 : decode m_Mo_done.2.1 276 = .ok (.iload 4, 2) := by decide +kernel
theorem d_Mo_done_278 : decode m_Mo_done.2.1 278 = .ok (.iaload, 1) := by decide +kernel
theorem d_Mo_done_279 : decode m_Mo_done.2.1 279 = .ok (.iastore, 1) := by decide +kernel
theorem d_Mo_done_280 : decode m_Mo_done.2.1 280 = .ok (.iinc 4 1, 3) := by decide +kernel
theorem d_Mo_done_283 : decode m_Mo_done.2.1 283 = .ok (.goto (-40), 3) := by decide +kernel
theorem d_Mo_done_286 : decode m_Mo_done.2.1 286 = .ok (.aload_n 0, 1) := by decide +kernel
theorem d_Mo_done_287 : decode m_Mo_done.2.1 287 = .ok (.getfield 50, 3) := by decide +kernel
theorem d_Mo_done_290 : decode m_Mo_done.2.1 290 = .ok (.ireturn, 1) := by decide +kernel
theorem d_Mo_tailor_0 : decode m_Mo_tailor.2.1 0 = .ok (.aload_n 0, 1) := by decide +kernel
theorem d_Mo_tailor_1 : decode m_Mo_tailor.2.1 1 = .ok (.invokevirtual 89, 3) := by decide +kernel
theorem d_Mo_tailor_4 : decode m_Mo_tailor.2.1 4 = .ok (.istore_n 1, 1) := by decide +kernel
theorem d_Mo_tailor_5 : decode m_Mo_tailor.2.1 5 = .ok (.iload_n 1, 1) := by decide +kernel
theorem d_Mo_tailor_6 : decode m_Mo_tailor.2.1 6 = .ok (.ifCond .ge 10, 3) := by decide +kernel
theorem d_Mo_tailor_9 : decode m_Mo_tailor.2.1 9 = .ok (.aload_n 0, 1) := by decide +kernel
theorem d_Mo_tailor_10 : decode m_Mo_tailor.2.1 10 = .ok (.invokevirtual 93, 3) := by decide +kernel
theorem d_Mo_tailor_13 : decode m_Mo_tailor.2.1 13 = .ok (.goto 6, 3) := by decide +kernel
theorem d_Mo_tailor_16 : decode m_Mo_tailor.2.1 16 = .ok (.iconst (-1), 1) := by decide +kernel
theorem d_Mo_tailor_17 : decode m_Mo_tailor.2.1 17 = .ok (.iload_n 1, 1) := by decide +kernel
theorem d_Mo_tailor_18 : decode m_Mo_tailor.2.1 18 = .ok (.isub, 1) := by decide +kernel
theorem d_Mo_tailor_19 : decode m_Mo_tailor.2.1 19 = .ok (.istore_n 2, 1) := by decide +kernel
theorem d_Mo_tailor_20 : decode m_Mo_tailor.2.1 20 = .ok (.aload_n 0, 1) := by decide +kernel
theorem d_Mo_tailor_21 : decode m_Mo_tailor.2.1 21 = .ok (.iconst 0, 1) := by decide +kernel
theorem d_Mo_tailor_22 : decode m_Mo_tailor.2.1 22 = .ok (.putfield 53, 3) := by decide +kernel
theorem d_Mo_tailor_25 : decode m_Mo_tailor.2.1 25 = .ok (.iload_n 2, 1) := by decide +kernel
theorem d_Mo_tailor_26 : decode m_Mo_tailor.2.1 26 = .ok (.ireturn, 1) := by decide +kernel
theorem d_Mo_entries_0 : decode m_Mo_entries.2.1 0 = .ok (.aload_n 0, 1) := by decide +kernel
theorem d_Mo_entries_1 : decode m_Mo_entries.2.1 1 = .ok (.getfield 50, 3) := by decide +kernel
theorem d_Mo_entries_4 : decode m_Mo_entries.2.1 4 = .ok (.ireturn, 1) := by decide +kernel
theorem d_Mo_find_0 : decode m_Mo_find.2.1 0 = .ok (.iconst 0, 1) := by decide +kernel
theorem d_Mo_find_1 : decode m_Mo_find.2.1 1 = .ok (.istore_n 2, 1) := by decide +kernel
theorem d_Mo_find_2 : decode m_Mo_find.2.1 2 = .ok (.iload_n 2, 1) := by decide +kernel
theorem d_Mo_find_3 : decode m_Mo_find.2.1 3 = .ok (.aload_n 0, 1) := by decide +kernel
theorem d_Mo_find_4 : decode m_Mo_find.2.1 4 = .ok (.getfield 50, 3) := by decide +kernel
theorem d_Mo_find_7 : decode m_Mo_find.2.1 7 = .ok (.if_icmp .ge 21, 3) := by decide +kernel
theorem d_Mo_find_10 : decode m_Mo_find.2.1 10 = .ok (.aload_n 0, 1) := by decide +kernel
theorem d_Mo_find_11 : decode m_Mo_find.2.1 11 = .ok (.getfield 7, 3) := by decide +kernel
theorem d_Mo_find_14 : decode m_Mo_find.2.1 14 = .ok (.iload_n 2, 1) := by decide +kernel
theorem d_Mo_find_15 : decode m_Mo_find.2.1 15 = .ok (.iaload, 1) := by decide +kernel
theorem d_Mo_find_16 : decode m_Mo_find.2.1 16 = .ok (.iload_n 1, 1) := by decide +kernel
theorem d_Mo_find_17 : decode m_Mo_find.2.1 17 = .ok (.if_icmp .ne 5, 3) := by decide +kernel
theorem d_Mo_find_20 : decode m_Mo_find.2.1 20 = .ok (.iload_n 2, 1) := by decide +kernel
theorem d_Mo_find_21 : decode m_Mo_find.2.1 21 = .ok (.ireturn, 1) := by decide +kernel
theorem d_Mo_find_22 : decode m_Mo_find.2.1 22 = .ok (.iinc 2 1, 3) := by decide +kernel
theorem d_Mo_find_25 : decode m_Mo_find.2.1 25 = .ok (.goto (-23), 3) := by decide +kernel
theorem d_Mo_find_28 : decode m_Mo_find.2.1 28 = .ok (.iconst (-1), 1) := by decide +kernel
theorem d_Mo_find_29 : decode m_Mo_find.2.1 29 = .ok (.ireturn, 1) := by decide +kernel
theorem d_Mo_weight_0 : decode m_Mo_weight.2.1 0 = .ok (.iload_n 2, 1) := by decide +kernel
theorem d_Mo_weight_1 : decode m_Mo_weight.2.1 1 = .ok (.iconst 1, 1) := by decide +kernel
theorem d_Mo_weight_2 : decode m_Mo_weight.2.1 2 = .ok (.if_icmp .ne 7, 3) := by decide +kernel
theorem d_Mo_weight_5 : decode m_Mo_weight.2.1 5 = .ok (.iconst 0, 1) := by decide +kernel
theorem d_Mo_weight_6 : decode m_Mo_weight.2.1 6 = .ok (.goto 4, 3) := by decide +kernel
theorem d_Mo_weight_9 : decode m_Mo_weight.2.1 9 = .ok (.iconst 1, 1) := by decide +kernel
theorem d_Mo_weight_10 : decode m_Mo_weight.2.1 10 = .ok (.istore_n 3, 1) := by decide +kernel
theorem d_Mo_weight_11 : decode m_Mo_weight.2.1 11 = .ok (.iconst 0, 1) := by decide +kernel
theorem d_Mo_weight_12 : decode m_Mo_weight.2.1 12 = .ok (.istore 4, 2) := by decide +kernel
theorem d_Mo_weight_14 : decode m_Mo_weight.2.1 14 = .ok (.iload 4, 2) := by decide +kernel
theorem d_Mo_weight_16 : decode m_Mo_weight.2.1 16 = .ok (.iload_n 1, 1) := by decide +kernel
theorem d_Mo_weight_17 : decode m_Mo_weight.2.1 17 = .ok (.if_icmp .gt 39, 3) := by decide +kernel
theorem d_Mo_weight_20 : decode m_Mo_weight.2.1 20 = .ok (.aload_n 0, 1) := by decide +kernel
theorem d_Mo_weight_21 : decode m_Mo_weight.2.1 21 = .ok (.getfield 13, 3) := by decide +kernel
theorem d_Mo_weight_24 : decode m_Mo_weight.2.1 24 = .ok (.iload 4, 2) := by decide +kernel
theorem d_Mo_weight_26 : decode m_Mo_weight.2.1 26 = .ok (.iaload, 1) := by decide +kernel
theorem d_Mo_weight_27 : decode m_Mo_weight.2.1 27 = .ok (.iload_n 2, 1) := by decide +kernel
theorem d_Mo_weight_28 : decode m_Mo_weight.2.1 28 = .ok (.if_icmp .ge 8, 3) := by decide +kernel
theorem d_Mo_weight_31 : decode m_Mo_weight.2.1 31 = .ok (.iconst 1, 1) := by decide +kernel
theorem d_Mo_weight_32 : decode m_Mo_weight.2.1 32 = .ok (.istore_n 3, 1) := by decide +kernel
theorem d_Mo_weight_33 : decode m_Mo_weight.2.1 33 = .ok (.goto 17, 3) := by decide +kernel
theorem d_Mo_weight_36 : decode m_Mo_weight.2.1 36 = .ok (.aload_n 0, 1) := by decide +kernel
theorem d_Mo_weight_37 : decode m_Mo_weight.2.1 37 = .ok (.getfield 13, 3) := by decide +kernel
theorem d_Mo_weight_40 : decode m_Mo_weight.2.1 40 = .ok (.iload 4, 2) := by decide +kernel
theorem d_Mo_weight_42 : decode m_Mo_weight.2.1 42 = .ok (.iaload, 1) := by decide +kernel
theorem d_Mo_weight_43 : decode m_Mo_weight.2.1 43 = .ok (.iload_n 2, 1) := by decide +kernel
theorem d_Mo_weight_44 : decode m_Mo_weight.2.1 44 = .ok (.if_icmp .ne 6, 3) := by decide +kernel
theorem d_Mo_weight_47 : decode m_Mo_weight.2.1 47 = .ok (.iinc 3 1, 3) := by decide +kernel
theorem d_Mo_weight_50 : decode m_Mo_weight.2.1 50 = .ok (.iinc 4 1, 3) := by decide +kernel
theorem d_Mo_weight_53 : decode m_Mo_weight.2.1 53 = .ok (.goto (-39), 3) := by decide +kernel
theorem d_Mo_weight_56 : decode m_Mo_weight.2.1 56 = .ok (.iload_n 3, 1) := by decide +kernel
theorem d_Mo_weight_57 : decode m_Mo_weight.2.1 57 = .ok (.ireturn, 1) := by decide +kernel
theorem d_Mo_entry_0 : decode m_Mo_entry.2.1 0 = .ok (.iload_n 1, 1) := by decide +kernel
theorem d_Mo_entry_1 : decode m_Mo_entry.2.1 1 = .ok (.ifCond .lt 21, 3) := by decide +kernel
theorem d_Mo_entry_4 : decode m_Mo_entry.2.1 4 = .ok (.iload_n 1, 1) := by decide +kernel
theorem d_Mo_entry_5 : decode m_Mo_entry.2.1 5 = .ok (.aload_n 0, 1) := by decide +kernel
theorem d_Mo_entry_6 : decode m_Mo_entry.2.1 6 = .ok (.getfield 50, 3) := by decide +kernel
theorem d_Mo_entry_9 : decode m_Mo_entry.2.1 9 = .ok (.if_icmp .ge 13, 3) := by decide +kernel
theorem d_Mo_entry_12 : decode m_Mo_entry.2.1 12 = .ok (.iload_n 2, 1) := by decide +kernel
theorem d_Mo_entry_13 : decode m_Mo_entry.2.1 13 = .ok (.ifCond .lt 9, 3) := by decide +kernel
theorem d_Mo_entry_16 : decode m_Mo_entry.2.1 16 = .ok (.iload_n 2, 1) := by decide +kernel
theorem d_Mo_entry_17 : decode m_Mo_entry.2.1 17 = .ok (.bipush 6, 2) := by decide +kernel
theorem d_Mo_entry_19 : decode m_Mo_entry.2.1 19 = .ok (.if_icmp .le 6, 3) := by decide +kernel
theorem d_Mo_entry_22 : decode m_Mo_entry.2.1 22 = .ok (.bipush (-2), 2) := by decide +kernel
theorem d_Mo_entry_24 : decode m_Mo_entry.2.1 24 = .ok (.ireturn, 1) := by decide +kernel
theorem d_Mo_entry_25 : decode m_Mo_entry.2.1 25 = .ok (.iload_n 2, 1) := by decide +kernel
theorem d_Mo_entry_26 : decode m_Mo_entry.2.1 26 = .ok (.iconst 3, 1) := by decide +kernel
theorem d_Mo_entry_27 : decode m_Mo_entry.2.1 27 = .ok (.if_icmp .ge 28, 3) := by decide +kernel
theorem d_Mo_entry_30 : decode m_Mo_entry.2.1 30 = .ok (.aload_n 0, 1) := by decide +kernel
theorem d_Mo_entry_31 : decode m_Mo_entry.2.1 31 = .ok (.getfield 7, 3) := by decide +kernel
theorem d_Mo_entry_34 : decode m_Mo_entry.2.1 34 = .ok (.iload_n 1, 1) := by decide +kernel
theorem d_Mo_entry_35 : decode m_Mo_entry.2.1 35 = .ok (.iaload, 1) := by decide +kernel
theorem d_Mo_entry_36 : decode m_Mo_entry.2.1 36 = .ok (.bipush 7, 2) := by decide +kernel
theorem d_Mo_entry_38 : decode m_Mo_entry.2.1 38 = .ok (.iload_n 2, 1) := by decide +kernel
theorem d_Mo_entry_39 : decode m_Mo_entry.2.1 39 = .ok (.imul, 1) := by decide +kernel
theorem d_Mo_entry_40 : decode m_Mo_entry.2.1 40 = .ok (.ishr, 1) := by decide +kernel
theorem d_Mo_entry_41 : decode m_Mo_entry.2.1 41 = .ok (.bipush 127, 2) := by decide +kernel
theorem d_Mo_entry_43 : decode m_Mo_entry.2.1 43 = .ok (.iand, 1) := by decide +kernel
theorem d_Mo_entry_44 : decode m_Mo_entry.2.1 44 = .ok (.istore_n 3, 1) := by decide +kernel
theorem d_Mo_entry_45 : decode m_Mo_entry.2.1 45 = .ok (.iload_n 3, 1) := by decide +kernel
theorem d_Mo_entry_46 : decode m_Mo_entry.2.1 46 = .ok (.ifCond .ne 7, 3) := by decide +kernel
theorem d_Mo_entry_49 : decode m_Mo_entry.2.1 49 = .ok (.iconst (-1), 1) := by decide +kernel
theorem d_Mo_entry_50 : decode m_Mo_entry.2.1 50 = .ok (.goto 4, 3) := by decide +kernel
theorem d_Mo_entry_53 : decode m_Mo_entry.2.1 53 = .ok (.iload_n 3, 1) := by decide +kernel
theorem d_Mo_entry_54 : decode m_Mo_entry.2.1 54 = .ok (.ireturn, 1) := by decide +kernel
theorem d_Mo_entry_55 : decode m_Mo_entry.2.1 55 = .ok (.iload_n 2, 1) := by decide +kernel
theorem d_Mo_entry_56 : decode m_Mo_entry.2.1 56 = .ok (.iconst 3, 1) := by decide +kernel
theorem d_Mo_entry_57 : decode m_Mo_entry.2.1 57 = .ok (.if_icmp .ne 12, 3) := by decide +kernel
theorem d_Mo_entry_60 : decode m_Mo_entry.2.1 60 = .ok (.aload_n 0, 1) := by decide +kernel
theorem d_Mo_entry_61 : decode m_Mo_entry.2.1 61 = .ok (.getfield 13, 3) := by decide +kernel
theorem d_Mo_entry_64 : decode m_Mo_entry.2.1 64 = .ok (.iload_n 1, 1) := by decide +kernel
theorem d_Mo_entry_65 : decode m_Mo_entry.2.1 65 = .ok (.iaload, 1) := by decide +kernel
theorem d_Mo_entry_66 : decode m_Mo_entry.2.1 66 = .ok (.goto 11, 3) := by decide +kernel
theorem d_Mo_entry_69 : decode m_Mo_entry.2.1 69 = .ok (.aload_n 0, 1) := by decide +kernel
theorem d_Mo_entry_70 : decode m_Mo_entry.2.1 70 = .ok (.iload_n 1, 1) := by decide +kernel
theorem d_Mo_entry_71 : decode m_Mo_entry.2.1 71 = .ok (.iload_n 2, 1) := by decide +kernel
theorem d_Mo_entry_72 : decode m_Mo_entry.2.1 72 = .ok (.iconst 3, 1) := by decide +kernel
theorem d_Mo_entry_73 : decode m_Mo_entry.2.1 73 = .ok (.isub, 1) := by decide +kernel
theorem d_Mo_entry_74 : decode m_Mo_entry.2.1 74 = .ok (.invokevirtual 96, 3) := by decide +kernel
theorem d_Mo_entry_77 : decode m_Mo_entry.2.1 77 = .ok (.ireturn, 1) := by decide +kernel
theorem d_Mo_settle_0 : decode m_Mo_settle.2.1 0 = .ok (.iconst 0, 1) := by decide +kernel
theorem d_Mo_settle_1 : decode m_Mo_settle.2.1 1 = .ok (.istore_n 1, 1) := by decide +kernel
theorem d_Mo_settle_2 : decode m_Mo_settle.2.1 2 = .ok (.iload_n 1, 1) := by decide +kernel
theorem d_Mo_settle_3 : decode m_Mo_settle.2.1 3 = .ok (.aload_n 0, 1) := by decide +kernel
theorem d_Mo_settle_4 : decode m_Mo_settle.2.1 4 = .ok (.getfield 99, 3) := by decide +kernel
theorem d_Mo_settle_7 : decode m_Mo_settle.2.1 7 = .ok (.if_icmp .ge 93, 3) := by decide +kernel
theorem d_Mo_settle_10 : decode m_Mo_settle.2.1 10 = .ok (.iconst 0, 1) := by decide +kernel
theorem d_Mo_settle_11 : decode m_Mo_settle.2.1 11 = .ok (.istore_n 2, 1) := by decide +kernel
theorem d_Mo_settle_12 : decode m_Mo_settle.2.1 12 = .ok (.iload_n 2, 1) := by decide +kernel
theorem d_Mo_settle_13 : decode m_Mo_settle.2.1 13 = .ok (.iconst 1, 1) := by decide +kernel
theorem d_Mo_settle_14 : decode m_Mo_settle.2.1 14 = .ok (.iadd, 1) := by decide +kernel
theorem d_Mo_settle_15 : decode m_Mo_settle.2.1 15 = .ok (.aload_n 0, 1) := by decide +kernel
theorem d_Mo_settle_16 : decode m_Mo_settle.2.1 16 = .ok (.getfield 99, 3) := by decide +kernel
theorem d_Mo_settle_19 : decode m_Mo_settle.2.1 19 = .ok (.if_icmp .ge 75, 3) := by decide +kernel
theorem d_Mo_settle_22 : decode m_Mo_settle.2.1 22 = .ok (.aload_n 0, 1) := by decide +kernel
theorem d_Mo_settle_23 : decode m_Mo_settle.2.1 23 = .ok (.getfield 38, 3) := by decide +kernel
theorem d_Mo_settle_26 : decode m_Mo_settle.2.1 26 = .ok (.iload_n 2, 1) := by decide +kernel
theorem d_Mo_settle_27 : decode m_Mo_settle.2.1 27 = .ok (.iaload, 1) := by decide +kernel
theorem d_Mo_settle_28 : decode m_Mo_settle.2.1 28 = .ok (.istore_n 3, 1) := by decide +kernel
theorem d_Mo_settle_29 : decode m_Mo_settle.2.1 29 = .ok (.aload_n 0, 1) := by decide +kernel
theorem d_Mo_settle_30 : decode m_Mo_settle.2.1 30 = .ok (.getfield 38, 3) := by decide +kernel
theorem d_Mo_settle_33 : decode m_Mo_settle.2.1 33 = .ok (.iload_n 2, 1) := by decide +kernel
theorem d_Mo_settle_34 : decode m_Mo_settle.2.1 34 = .ok (.iconst 1, 1) := by decide +kernel
theorem d_Mo_settle_35 : decode m_Mo_settle.2.1 35 = .ok (.iadd, 1) := by decide +kernel
theorem d_Mo_settle_36 : decode m_Mo_settle.2.1 36 = .ok (.iaload, 1) := by decide +kernel
theorem d_Mo_settle_37 : decode m_Mo_settle.2.1 37 = .ok (.istore 4, 2) := by decide +kernel
theorem d_Mo_settle_39 : decode m_Mo_settle.2.1 39 = .ok (.iload_n 3, 1) := by decide +kernel
theorem d_Mo_settle_40 : decode m_Mo_settle.2.1 40 = .ok (.invokestatic 60, 3) := by decide +kernel
theorem d_Mo_settle_43 : decode m_Mo_settle.2.1 43 = .ok (.ifCond .eq 45, 3) := by decide +kernel
theorem d_Mo_settle_46 : decode m_Mo_settle.2.1 46 = .ok (.iload 4, 2) := by decide +kernel
theorem d_Mo_settle_48 : decode m_Mo_settle.2.1 48 = .ok (.invokestatic 60, 3) := by decide +kernel
theorem d_Mo_settle_51 : decode m_Mo_settle.2.1 51 = .ok (.ifCond .eq 37, 3) := by decide +kernel
theorem d_Mo_settle_54 : decode m_Mo_settle.2.1 54 = .ok (.iload_n 3, 1) := by decide +kernel
theorem d_Mo_settle_55 : decode m_Mo_settle.2.1 55 = .ok (.invokestatic 102, 3) := by decide +kernel
theorem d_Mo_settle_58 : decode m_Mo_settle.2.1 58 = .ok (.iconst 2, 1) := by decide +kernel
theorem d_Mo_settle_59 : decode m_Mo_settle.2.1 59 = .ok (.if_icmp .ne 29, 3) := by decide +kernel
theorem d_Mo_settle_62 : decode m_Mo_settle.2.1 62 = .ok (.iload 4, 2) := by decide +kernel
theorem d_Mo_settle_64 : decode m_Mo_settle.2.1 64 = .ok (.invokestatic 102, 3) := by decide +kernel
theorem d_Mo_settle_67 : decode m_Mo_settle.2.1 67 = .ok (.iconst 1, 1) := by decide +kernel
theorem d_Mo_settle_68 : decode m_Mo_settle.2.1 68 = .ok (.if_icmp .ne 20, 3) := by decide +kernel
theorem d_Mo_settle_71 : decode m_Mo_settle.2.1 71 = .ok (.aload_n 0, 1) := by decide +kernel
theorem d_Mo_settle_72 : decode m_Mo_settle.2.1 72 = .ok (.getfield 38, 3) := by decide +kernel
theorem d_Mo_settle_75 : decode m_Mo_settle.2.1 75 = .ok (.iload_n 2, 1) := by decide +kernel
theorem d_Mo_settle_76 : decode m_Mo_settle.2.1 76 = .ok (.iload 4, 2) := by decide +kernel
theorem d_Mo_settle_78 : decode m_Mo_settle.2.1 78 = .ok (.iastore, 1) := by decide +kernel
theorem d_Mo_settle_79 : decode m_Mo_settle.2.1 79 = .ok (.aload_n 0, 1) := by decide +kernel
theorem d_Mo_settle_80 : decode m_Mo_settle.2.1 80 = .ok (.getfield 38, 3) := by decide +kernel
theorem d_Mo_settle_83 : decode m_Mo_settle.2.1 83 = .ok (.iload_n 2, 1) := by decide +kernel
theorem d_Mo_settle_84 : decode m_Mo_settle.2.1 84 = .ok (.iconst 1, 1) := by decide +kernel
theorem d_Mo_settle_85 : decode m_Mo_settle.2.1 85 = .ok (.iadd, 1) := by decide +kernel
theorem d_Mo_settle_86 : decode m_Mo_settle.2.1 86 = .ok (.iload_n 3, 1) := by decide +kernel
theorem d_Mo_settle_87 : decode m_Mo_settle.2.1 87 = .ok (.iastore, 1) := by decide +kernel
theorem d_Mo_settle_88 : decode m_Mo_settle.2.1 88 = .ok (.iinc 2 1, 3) := by decide +kernel
theorem d_Mo_settle_91 : decode m_Mo_settle.2.1 91 = .ok (.goto (-79), 3) := by decide +kernel
theorem d_Mo_settle_94 : decode m_Mo_settle.2.1 94 = .ok (.iinc 1 1, 3) := by decide +kernel
theorem d_Mo_settle_97 : decode m_Mo_settle.2.1 97 = .ok (.goto (-95), 3) := by decide +kernel
theorem d_Mo_settle_100 : decode m_Mo_settle.2.1 100 = .ok (.return_, 1) := by decide +kernel
theorem d_Mo_remove_0 : decode m_Mo_remove.2.1 0 = .ok (.iload_n 1, 1) := by decide +kernel
theorem d_Mo_remove_1 : decode m_Mo_remove.2.1 1 = .ok (.istore_n 2, 1) := by decide +kernel
theorem d_Mo_remove_2 : decode m_Mo_remove.2.1 2 = .ok (.iload_n 2, 1) := by decide +kernel
theorem d_Mo_remove_3 : decode m_Mo_remove.2.1 3 = .ok (.iconst 1, 1) := by decide +kernel
theorem d_Mo_remove_4 : decode m_Mo_remove.2.1 4 = .ok (.iadd, 1) := by decide +kernel
theorem d_Mo_remove_5 : decode m_Mo_remove.2.1 5 = .ok (.aload_n 0, 1) := by decide +kernel
theorem d_Mo_remove_6 : decode m_Mo_remove.2.1 6 = .ok (.getfield 99, 3) := by decide +kernel
theorem d_Mo_remove_9 : decode m_Mo_remove.2.1 9 = .ok (.if_icmp .ge 23, 3) := by decide +kernel
theorem d_Mo_remove_12 : decode m_Mo_remove.2.1 12 = .ok (.aload_n 0, 1) := by decide +kernel
theorem d_Mo_remove_13 : decode m_Mo_remove.2.1 13 = .ok (.getfield 38, 3) := by decide +kernel
theorem d_Mo_remove_16 : decode m_Mo_remove.2.1 16 = .ok (.iload_n 2, 1) := by decide +kernel
theorem d_Mo_remove_17 : decode m_Mo_remove.2.1 17 = .ok (.aload_n 0, 1) := by decide +kernel
theorem d_Mo_remove_18 : decode m_Mo_remove.2.1 18 = .ok (.getfield 38, 3) := by decide +kernel
theorem d_Mo_remove_21 : decode m_Mo_remove.2.1 21 = .ok (.iload_n 2, 1) := by decide +kernel
theorem d_Mo_remove_22 : decode m_Mo_remove.2.1 22 = .ok (.iconst 1, 1) := by decide +kernel
theorem d_Mo_remove_23 : decode m_Mo_remove.2.1 23 = .ok (.iadd, 1) := by decide +kernel
theorem d_Mo_remove_24 : decode m_Mo_remove.2.1 24 = .ok (.iaload, 1) := by decide +kernel
theorem d_Mo_remove_25 : decode m_Mo_remove.2.1 25 = .ok (.iastore, 1) := by decide +kernel
theorem d_Mo_remove_26 : decode m_Mo_remove.2.1 26 = .ok (.iinc 2 1, 3) := by decide +kernel
theorem d_Mo_remove_29 : decode m_Mo_remove.2.1 29 = .ok (.goto (-27), 3) := by decide +kernel
theorem d_Mo_remove_32 : decode m_Mo_remove.2.1 32 = .ok (.aload_n 0, 1) := by decide +kernel
theorem d_Mo_remove_33 : decode m_Mo_remove.2.1 33 = .ok (.dup, 1) := by decide +kernel
theorem d_Mo_remove_34 : decode m_Mo_remove.2.1 34 = .ok (.getfield 99, 3) := by decide +kernel
theorem d_Mo_remove_37 : decode m_Mo_remove.2.1 37 = .ok (.iconst 1, 1) := by decide +kernel
theorem d_Mo_remove_38 : decode m_Mo_remove.2.1 38 = .ok (.isub, 1) := by decide +kernel
theorem d_Mo_remove_39 : decode m_Mo_remove.2.1 39 = .ok (.putfield 99, 3) := by decide +kernel
theorem d_Mo_remove_42 : decode m_Mo_remove.2.1 42 = .ok (.return_, 1) := by decide +kernel
theorem d_Mo_element_0 : decode m_Mo_element.2.1 0 = .ok (.aload_n 0, 1) := by decide +kernel
theorem d_Mo_element_1 : decode m_Mo_element.2.1 1 = .ok (.getfield 41, 3) := by decide +kernel
theorem d_Mo_element_4 : decode m_Mo_element.2.1 4 = .ok (.iconst 4, 1) := by decide +kernel
theorem d_Mo_element_5 : decode m_Mo_element.2.1 5 = .ok (.aload_n 0, 1) := by decide +kernel
theorem d_Mo_element_6 : decode m_Mo_element.2.1 6 = .ok (.getfield 105, 3) := by decide +kernel
theorem d_Mo_element_9 : decode m_Mo_element.2.1 9 = .ok (.imul, 1) := by decide +kernel
theorem d_Mo_element_10 : decode m_Mo_element.2.1 10 = .ok (.iload_n 1, 1) := by decide +kernel
theorem d_Mo_element_11 : decode m_Mo_element.2.1 11 = .ok (.iastore, 1) := by decide +kernel
theorem d_Mo_element_12 : decode m_Mo_element.2.1 12 = .ok (.aload_n 0, 1) := by decide +kernel
theorem d_Mo_element_13 : decode m_Mo_element.2.1 13 = .ok (.getfield 41, 3) := by decide +kernel
theorem d_Mo_element_16 : decode m_Mo_element.2.1 16 = .ok (.iconst 4, 1) := by decide +kernel
theorem d_Mo_element_17 : decode m_Mo_element.2.1 17 = .ok (.aload_n 0, 1) := by decide +kernel
theorem d_Mo_element_18 : decode m_Mo_element.2.1 18 = .ok (.getfield 105, 3) := by decide +kernel
theorem d_Mo_element_21 : decode m_Mo_element.2.1 21 = .ok (.imul, 1) := by decide +kernel
theorem d_Mo_element_22 : decode m_Mo_element.2.1 22 = .ok (.iconst 1, 1) := by decide +kernel
theorem d_Mo_element_23 : decode m_Mo_element.2.1 23 = .ok (.iadd, 1) := by decide +kernel
theorem d_Mo_element_24 : decode m_Mo_element.2.1 24 = .ok (.iload_n 2, 1) := by decide +kernel
theorem d_Mo_element_25 : decode m_Mo_element.2.1 25 = .ok (.iastore, 1) := by decide +kernel
theorem d_Mo_element_26 : decode m_Mo_element.2.1 26 = .ok (.aload_n 0, 1) := by decide +kernel
theorem d_Mo_element_27 : decode m_Mo_element.2.1 27 = .ok (.getfield 41, 3) := by decide +kernel
theorem d_Mo_element_30 : decode m_Mo_element.2.1 30 = .ok (.iconst 4, 1) := by decide +kernel
theorem d_Mo_element_31 : decode m_Mo_element.2.1 31 = .ok (.aload_n 0, 1) := by decide +kernel
theorem d_Mo_element_32 : decode m_Mo_element.2.1 32 = .ok (.getfield 105, 3) := by decide +kernel
theorem d_Mo_element_35 : decode m_Mo_element.2.1 35 = .ok (.imul, 1) := by decide +kernel
theorem d_Mo_element_36 : decode m_Mo_element.2.1 36 = .ok (.iconst 2, 1) := by decide +kernel
theorem d_Mo_element_37 : decode m_Mo_element.2.1 37 = .ok (.iadd, 1) := by decide +kernel
theorem d_Mo_element_38 : decode m_Mo_element.2.1 38 = .ok (.iload_n 3, 1) := by decide +kernel
theorem d_Mo_element_39 : decode m_Mo_element.2.1 39 = .ok (.iastore, 1) := by decide +kernel
theorem d_Mo_element_40 : decode m_Mo_element.2.1 40 = .ok (.aload_n 0, 1) := by decide +kernel
theorem d_Mo_element_41 : decode m_Mo_element.2.1 41 = .ok (.getfield 41, 3) := by decide +kernel
theorem d_Mo_element_44 : decode m_Mo_element.2.1 44 = .ok (.iconst 4, 1) := by decide +kernel
theorem d_Mo_element_45 : decode m_Mo_element.2.1 45 = .ok (.aload_n 0, 1) := by decide +kernel
theorem d_Mo_element_46 : decode m_Mo_element.2.1 46 = .ok (.getfield 105, 3) := by decide +kernel
theorem d_Mo_element_49 : decode m_Mo_element.2.1 49 = .ok (.imul, 1) := by decide +kernel
theorem d_Mo_element_50 : decode m_Mo_element.2.1 50 = .ok (.iconst 3, 1) := by decide +kernel
theorem d_Mo_element_51 : decode m_Mo_element.2.1 51 = .ok (.iadd, 1) := by decide +kernel
theorem d_Mo_element_52 : decode m_Mo_element.2.1 52 = .ok (.aload_n 0, 1) := by decide +kernel
theorem d_Mo_element_53 : decode m_Mo_element.2.1 53 = .ok (.getfield 108, 3) := by decide +kernel
theorem d_Mo_element_56 : decode m_Mo_element.2.1 56 = .ok (.ifCond .eq 8, 3) := by decide +kernel
theorem d_Mo_element_59 : decode m_Mo_element.2.1 59 = .ok (.iload 4, 2) := by decide +kernel
theorem d_Mo_element_61 : decode m_Mo_element.2.1 61 = .ok (.goto 4, 3) := by decide +kernel
theorem d_Mo_element_64 : decode m_Mo_element.2.1 64 = .ok (.iconst 0, 1) := by decide +kernel
theorem d_Mo_element_65 : decode m_Mo_element.2.1 65 = .ok (.iastore, 1) := by decide +kernel
theorem d_Mo_element_66 : decode m_Mo_element.2.1 66 = .ok (.aload_n 0, 1) := by decide +kernel
theorem d_Mo_element_67 : decode m_Mo_element.2.1 67 = .ok (.dup, 1) := by decide +kernel
theorem d_Mo_element_68 : decode m_Mo_element.2.1 68 = .ok (.getfield 105, 3) := by decide +kernel
theorem d_Mo_element_71 : decode m_Mo_element.2.1 71 = .ok (.iconst 1, 1) := by decide +kernel
theorem d_Mo_element_72 : decode m_Mo_element.2.1 72 = .ok (.iadd, 1) := by decide +kernel
theorem d_Mo_element_73 : decode m_Mo_element.2.1 73 = .ok (.putfield 105, 3) := by decide +kernel
theorem d_Mo_element_76 : decode m_Mo_element.2.1 76 = .ok (.return_, 1) := by decide +kernel
theorem d_Mo_markElement_0 : decode m_Mo_markElement.2.1 0 = .ok (.aload_n 0, 1) := by decide +kernel
theorem d_Mo_markElement_1 : decode m_Mo_markElement.2.1 1 = .ok (.getfield 108, 3) := by decide +kernel
theorem d_Mo_markElement_4 : decode m_Mo_markElement.2.1 4 = .ok (.ifCond .eq 21, 3) := by decide +kernel
theorem d_Mo_markElement_7 : decode m_Mo_markElement.2.1 7 = .ok (.aload_n 0, 1) := by decide +kernel
theorem d_Mo_markElement_8 : decode m_Mo_markElement.2.1 8 = .ok (.getfield 112, 3) := by decide +kernel
theorem d_Mo_markElement_11 : decode m_Mo_markElement.2.1 11 = .ok (.ifCond .eq 14, 3) := by decide +kernel
theorem d_Mo_markElement_14 : decode m_Mo_markElement.2.1 14 = .ok (.aload_n 0, 1) := by decide +kernel
theorem d_Mo_markElement_15 : decode m_Mo_markElement.2.1 15 = .ok (.iconst 0, 1) := by decide +kernel
theorem d_Mo_markElement_16 : decode m_Mo_markElement.2.1 16 = .ok (.iconst 0, 1) := by decide +kernel
theorem d_Mo_markElement_17 : decode m_Mo_markElement.2.1 17 = .ok (.iconst 0, 1) := by decide +kernel
theorem d_Mo_markElement_18 : decode m_Mo_markElement.2.1 18 = .ok (.iconst 0, 1) := by decide +kernel
theorem d_Mo_markElement_19 : decode m_Mo_markElement.2.1 19 = .ok (.invokevirtual 115, 3) := by decide +kernel
theorem d_Mo_markElement_22 : decode m_Mo_markElement.2.1 22 = .ok (.goto 17, 3) := by decide +kernel
theorem d_Mo_markElement_25 : decode m_Mo_markElement.2.1 25 = .ok (.aload_n 0, 1) := by decide +kernel
theorem d_Mo_markElement_26 : decode m_Mo_markElement.2.1 26 = .ok (.iconst 0, 1) := by decide +kernel
theorem d_Mo_markElement_27 : decode m_Mo_markElement.2.1 27 = .ok (.bipush 100, 2) := by decide +kernel
theorem d_Mo_markElement_29 : decode m_Mo_markElement.2.1 29 = .ok (.iload_n 1, 1) := by decide +kernel
theorem d_Mo_markElement_30 : decode m_Mo_markElement.2.1 30 = .ok (.iadd, 1) := by decide +kernel
theorem d_Mo_markElement_31 : decode m_Mo_markElement.2.1 31 = .ok (.bipush 48, 2) := by decide +kernel
theorem d_Mo_markElement_33 : decode m_Mo_markElement.2.1 33 = .ok (.isub, 1) := by decide +kernel
theorem d_Mo_markElement_34 : decode m_Mo_markElement.2.1 34 = .ok (.iconst 1, 1) := by decide +kernel
theorem d_Mo_markElement_35 : decode m_Mo_markElement.2.1 35 = .ok (.iconst 0, 1) := by decide +kernel
theorem d_Mo_markElement_36 : decode m_Mo_markElement.2.1 36 = .ok (.invokevirtual 115, 3) := by decide +kernel
theorem d_Mo_markElement_39 : decode m_Mo_markElement.2.1 39 = .ok (.return_, 1) := by decide +kernel
theorem d_Mo_begins_0 : decode m_Mo_begins.2.1 0 = .ok (.iconst 0, 1) := by decide +kernel
theorem d_Mo_begins_1 : decode m_Mo_begins.2.1 1 = .ok (.istore_n 2, 1) := by decide +kernel
theorem d_Mo_begins_2 : decode m_Mo_begins.2.1 2 = .ok (.iload_n 1, 1) := by decide +kernel
theorem d_Mo_begins_3 : decode m_Mo_begins.2.1 3 = .ok (.iconst 1, 1) := by decide +kernel
theorem d_Mo_begins_4 : decode m_Mo_begins.2.1 4 = .ok (.isub, 1) := by decide +kernel
theorem d_Mo_begins_5 : decode m_Mo_begins.2.1 5 = .ok (.istore_n 3, 1) := by decide +kernel
theorem d_Mo_begins_6 : decode m_Mo_begins.2.1 6 = .ok (.iload_n 3, 1) := by decide +kernel
theorem d_Mo_begins_7 : decode m_Mo_begins.2.1 7 = .ok (.ifCond .lt 22, 3) := by decide +kernel
theorem d_Mo_begins_10 : decode m_Mo_begins.2.1 10 = .ok (.sipush 128, 3) := by decide +kernel
theorem d_Mo_begins_13 : decode m_Mo_begins.2.1 13 = .ok (.iload_n 2, 1) := by decide +kernel
theorem d_Mo_begins_14 : decode m_Mo_begins.2.1 14 = .ok (.imul, 1) := by decide +kernel
theorem d_Mo_begins_15 : decode m_Mo_begins.2.1 15 = .ok (.aload_n 0, 1) := by decide +kernel
theorem d_Mo_begins_16 : decode m_Mo_begins.2.1 16 = .ok (.getfield 38, 3) := by decide +kernel
theorem d_Mo_begins_19 : decode m_Mo_begins.2.1 19 = .ok (.iload_n 3, 1) := by decide +kernel
theorem d_Mo_begins_20 : decode m_Mo_begins.2.1 20 = .ok (.iaload, 1) := by decide +kernel
theorem d_Mo_begins_21 : decode m_Mo_begins.2.1 21 = .ok (.iadd, 1) := by decide +kernel
theorem d_Mo_begins_22 : decode m_Mo_begins.2.1 22 = .ok (.istore_n 2, 1) := by decide +kernel
theorem d_Mo_begins_23 : decode m_Mo_begins.2.1 23 = .ok (.iinc 3 (-1), 3) := by decide +kernel
theorem d_Mo_begins_26 : decode m_Mo_begins.2.1 26 = .ok (.goto (-20), 3) := by decide +kernel
theorem d_Mo_begins_29 : decode m_Mo_begins.2.1 29 = .ok (.iload_n 2, 1) := by decide +kernel
theorem d_Mo_begins_30 : decode m_Mo_begins.2.1 30 = .ok (.ireturn, 1) := by decide +kernel
theorem d_Mo_entryElement_0 : decode m_Mo_entryElement.2.1 0 = .ok (.aload_n 0, 1) := by decide +kernel
theorem d_Mo_entryElement_1 : decode m_Mo_entryElement.2.1 1 = .ok (.getfield 99, 3) := by decide +kernel
theorem d_Mo_entryElement_4 : decode m_Mo_entryElement.2.1 4 = .ok (.iconst 3, 1) := by decide +kernel
theorem d_Mo_entryElement_5 : decode m_Mo_entryElement.2.1 5 = .ok (.if_icmp .ge 10, 3) := by decide +kernel
theorem d_Mo_entryElement_8 : decode m_Mo_entryElement.2.1 8 = .ok (.aload_n 0, 1) := by decide +kernel
theorem d_Mo_entryElement_9 : decode m_Mo_entryElement.2.1 9 = .ok (.getfield 99, 3) := by decide +kernel
theorem d_Mo_entryElement_12 : decode m_Mo_entryElement.2.1 12 = .ok (.goto 4, 3) := by decide +kernel
theorem d_Mo_entryElement_15 : decode m_Mo_entryElement.2.1 15 = .ok (.iconst 3, 1) := by decide +kernel
theorem d_Mo_entryElement_16 : decode m_Mo_entryElement.2.1 16 = .ok (.istore_n 1, 1) := by decide +kernel
theorem d_Mo_entryElement_17 : decode m_Mo_entryElement.2.1 17 = .ok (.aload_n 0, 1) := by decide +kernel
theorem d_Mo_entryElement_18 : decode m_Mo_entryElement.2.1 18 = .ok (.iload_n 1, 1) := by decide +kernel
theorem d_Mo_entryElement_19 : decode m_Mo_entryElement.2.1 19 = .ok (.invokevirtual 119, 3) := by decide +kernel
theorem d_Mo_entryElement_22 : decode m_Mo_entryElement.2.1 22 = .ok (.istore_n 2, 1) := by decide +kernel
theorem d_Mo_entryElement_23 : decode m_Mo_entryElement.2.1 23 = .ok (.aload_n 0, 1) := by decide +kernel
theorem d_Mo_entryElement_24 : decode m_Mo_entryElement.2.1 24 = .ok (.iload_n 2, 1) := by decide +kernel
theorem d_Mo_entryElement_25 : decode m_Mo_entryElement.2.1 25 = .ok (.invokevirtual 122, 3) := by decide +kernel
theorem d_Mo_entryElement_28 : decode m_Mo_entryElement.2.1 28 = .ok (.ifCond .ge 15, 3) := by decide +kernel
theorem d_Mo_entryElement_31 : decode m_Mo_entryElement.2.1 31 = .ok (.iinc 1 (-1), 3) := by decide +kernel
theorem d_Mo_entryElement_34 : decode m_Mo_entryElement.2.1 34 = .ok (.aload_n 0, 1) := by decide +kernel
theorem d_Mo_entryElement_35 : decode m_Mo_entryElement.2.1 35 = .ok (.iload_n 1, 1) := by decide +kernel
theorem d_Mo_entryElement_36 : decode m_Mo_entryElement.2.1 36 = .ok (.invokevirtual 119, 3) := by decide +kernel
theorem d_Mo_entryElement_39 : decode m_Mo_entryElement.2.1 39 = .ok (.istore_n 2, 1) := by decide +kernel
theorem d_Mo_entryElement_40 : decode m_Mo_entryElement.2.1 40 = .ok (.goto (-17), 3) := by decide +kernel
theorem d_Mo_entryElement_43 : decode m_Mo_entryElement.2.1 43 = .ok (.iconst 0, 1) := by decide +kernel
theorem d_Mo_entryElement_44 : decode m_Mo_entryElement.2.1 44 = .ok (.istore_n 3, 1) := by decide +kernel
theorem d_Mo_entryElement_45 : decode m_Mo_entryElement.2.1 45 = .ok (.iload_n 3, 1) := by decide +kernel
theorem d_Mo_entryElement_46 : decode m_Mo_entryElement.2.1 46 = .ok (.iload_n 1, 1) := by decide +kernel
theorem d_Mo_entryElement_47 : decode m_Mo_entryElement.2.1 47 = .ok (.if_icmp .ge 14, 3) := by decide +kernel
theorem d_Mo_entryElement_50 : decode m_Mo_entryElement.2.1 50 = .ok (.aload_n 0, 1) := by decide +kernel
theorem d_Mo_entryElement_51 : decode m_Mo_entryElement.2.1 51 = .ok (.iconst 0, 1) := by decide +kernel
theorem d_Mo_entryElement_52 : decode m_Mo_entryElement.2.1 52 = .ok (.invokevirtual 125, 3) := by decide +kernel
theorem d_Mo_entryElement_55 : decode m_Mo_entryElement.2.1 55 = .ok (.iinc 3 1, 3) := by decide +kernel
theorem d_Mo_entryElement_58 : decode m_Mo_entryElement.2.1 58 = .ok (.goto (-13), 3) := by decide +kernel
theorem d_Mo_entryElement_61 : decode m_Mo_entryElement.2.1 61 = .ok (.iconst 0, 1) := by decide +kernel
theorem d_Mo_entryElement_62 : decode m_Mo_entryElement.2.1 62 = .ok (.istore_n 3, 1) := by decide +kernel
theorem d_Mo_entryElement_63 : decode m_Mo_entryElement.2.1 63 = .ok (.iconst 0, 1) := by decide +kernel
theorem d_Mo_entryElement_64 : decode m_Mo_entryElement.2.1 64 = .ok (.istore 4, 2) := by decide +kernel
theorem d_Mo_entryElement_66 : decode m_Mo_entryElement.2.1 66 = .ok (.iconst 0, 1) := by decide +kernel
theorem d_Mo_entryElement_67 : decode m_Mo_entryElement.2.1 67 = .ok (.istore 5, 2) := by decide +kernel
theorem d_Mo_entryElement_69 : decode m_Mo_entryElement.2.1 69 = .ok (.iload 5, 2) := by decide +kernel
theorem d_Mo_entryElement_71 : decode m_Mo_entryElement.2.1 71 = .ok (.aload_n 0, 1) := by decide +kernel
theorem d_Mo_entryElement_72 : decode m_Mo_entryElement.2.1 72 = .ok (.getfield 99, 3) := by decide +kernel
theorem d_Mo_entryElement_75 : decode m_Mo_entryElement.2.1 75 = .ok (.if_icmp .ge 132, 3) := by decide +kernel
theorem d_Mo_entryElement_78 : decode m_Mo_entryElement.2.1 78 = .ok (.aload_n 0, 1) := by decide +kernel
theorem d_Mo_entryElement_79 : decode m_Mo_entryElement.2.1 79 = .ok (.getfield 38, 3) := by decide +kernel
theorem d_Mo_entryElement_82 : decode m_Mo_entryElement.2.1 82 = .ok (.iload 5, 2) := by decide +kernel
theorem d_Mo_entryElement_84 : decode m_Mo_entryElement.2.1 84 = .ok (.iaload, 1) := by decide +kernel
theorem d_Mo_entryElement_85 : decode m_Mo_entryElement.2.1 85 = .ok (.invokestatic 60, 3) := by decide +kernel
theorem d_Mo_entryElement_88 : decode m_Mo_entryElement.2.1 88 = .ok (.ifCond .eq 119, 3) := by decide +kernel
theorem d_Mo_entryElement_91 : decode m_Mo_entryElement.2.1 91 = .ok (.aload_n 0, 1) := by decide +kernel
theorem d_Mo_entryElement_92 : decode m_Mo_entryElement.2.1 92 = .ok (.getfield 38, 3) := by decide +kernel
theorem d_Mo_entryElement_95 : decode m_Mo_entryElement.2.1 95 = .ok (.iload 5, 2) := by decide +kernel
theorem d_Mo_entryElement_97 : decode m_Mo_entryElement.2.1 97 = .ok (.iaload, 1) := by decide +kernel
theorem d_Mo_entryElement_98 : decode m_Mo_entryElement.2.1 98 = .ok (.invokestatic 102, 3) := by decide +kernel
theorem d_Mo_entryElement_101 : decode m_Mo_entryElement.2.1 101 = .ok (.istore 6, 2) := by decide +kernel
theorem d_Mo_entryElement_103 : decode m_Mo_entryElement.2.1 103 = .ok (.iload 6, 2) := by decide +kernel
theorem d_Mo_entryElement_105 : decode m_Mo_entryElement.2.1 105 = .ok (.iconst 1, 1) := by decide +kernel
theorem d_Mo_entryElement_106 : decode m_Mo_entryElement.2.1 106 = .ok (.if_icmp .ne 7, 3) := by decide +kernel
theorem d_Mo_entryElement_109 : decode m_Mo_entryElement.2.1 109 = .ok (.iload_n 3, 1) := by decide +kernel
theorem d_Mo_entryElement_110 : decode m_Mo_entryElement.2.1 110 = .ok (.goto 5, 3) := by decide +kernel
theorem d_Mo_entryElement_113 : decode m_Mo_entryElement.2.1 113 = .ok (.iload 4, 2) := by decide +kernel
theorem d_Mo_entryElement_115 : decode m_Mo_entryElement.2.1 115 = .ok (.istore 7, 2) := by decide +kernel
theorem d_Mo_entryElement_117 : decode m_Mo_entryElement.2.1 117 = .ok (.iload_n 2, 1) := by decide +kernel
theorem d_Mo_entryElement_118 : decode m_Mo_entryElement.2.1 118 = .ok (.aload_n 0, 1) := by decide +kernel
theorem d_Mo_entryElement_119 : decode m_Mo_entryElement.2.1 119 = .ok (.getfield 38, 3) := by decide +kernel
theorem d_Mo_entryElement_122 : decode m_Mo_entryElement.2.1 122 = .ok (.iload 5, 2) := by decide +kernel
theorem d_Mo_entryElement_124 : decode m_Mo_entryElement.2.1 124 = .ok (.iaload, 1) := by decide +kernel
theorem d_Mo_entryElement_125 : decode m_Mo_entryElement.2.1 125 = .ok (.bipush 7, 2) := by decide +kernel
theorem d_Mo_entryElement_127 : decode m_Mo_entryElement.2.1 127 = .ok (.iload_n 1, 1) := by decide +kernel
theorem d_Mo_entryElement_128 : decode m_Mo_entryElement.2.1 128 = .ok (.imul, 1) := by decide +kernel
theorem d_Mo_entryElement_129 : decode m_Mo_entryElement.2.1 129 = .ok (.ishl, 1) := by decide +kernel
theorem d_Mo_entryElement_130 : decode m_Mo_entryElement.2.1 130 = .ok (.iadd, 1) := by decide +kernel
theorem d_Mo_entryElement_131 : decode m_Mo_entryElement.2.1 131 = .ok (.istore 8, 2) := by decide +kernel
theorem d_Mo_entryElement_133 : decode m_Mo_entryElement.2.1 133 = .ok (.iload 7, 2) := by decide +kernel
theorem d_Mo_entryElement_135 : decode m_Mo_entryElement.2.1 135 = .ok (.ifCond .ne 32, 3) := by decide +kernel
theorem d_Mo_entryElement_138 : decode m_Mo_entryElement.2.1 138 = .ok (.iload_n 1, 1) := by decide +kernel
theorem d_Mo_entryElement_139 : decode m_Mo_entryElement.2.1 139 = .ok (.iconst 3, 1) := by decide +kernel
theorem d_Mo_entryElement_140 : decode m_Mo_entryElement.2.1 140 = .ok (.if_icmp .ge 27, 3) := by decide +kernel
theorem d_Mo_entryElement_143 : decode m_Mo_entryElement.2.1 143 = .ok (.aload_n 0, 1) := by decide +kernel
theorem d_Mo_entryElement_144 : decode m_Mo_entryElement.2.1 144 = .ok (.iload 8, 2) := by decide +kernel
theorem d_Mo_entryElement_146 : decode m_Mo_entryElement.2.1 146 = .ok (.invokevirtual 122, 3) := by decide +kernel
theorem d_Mo_entryElement_149 : decode m_Mo_entryElement.2.1 149 = .ok (.ifCond .lt 18, 3) := by decide +kernel
theorem d_Mo_entryElement_152 : decode m_Mo_entryElement.2.1 152 = .ok (.iload 8, 2) := by decide +kernel
theorem d_Mo_entryElement_154 : decode m_Mo_entryElement.2.1 154 = .ok (.istore_n 2, 1) := by decide +kernel
theorem d_Mo_entryElement_155 : decode m_Mo_entryElement.2.1 155 = .ok (.iinc 1 1, 3) := by decide +kernel
theorem d_Mo_entryElement_158 : decode m_Mo_entryElement.2.1 158 = .ok (.aload_n 0, 1) := by decide +kernel
theorem d_Mo_entryElement_159 : decode m_Mo_entryElement.2.1 159 = .ok (.iload 5, 2) := by decide +kernel
theorem d_Mo_entryElement_161 : decode m_Mo_entryElement.2.1 161 = .ok (.invokevirtual 125, 3) := by decide +kernel
theorem d_Mo_entryElement_164 : decode m_Mo_entryElement.2.1 164 = .ok (.goto 40, 3) := by decide +kernel
theorem d_Mo_entryElement_167 : decode m_Mo_entryElement.2.1 167 = .ok (.iload_n 3, 1) := by decide +kernel
theorem d_Mo_entryElement_168 : decode m_Mo_entryElement.2.1 168 = .ok (.ifCond .ne 9, 3) := by decide +kernel
theorem d_Mo_entryElement_171 : decode m_Mo_entryElement.2.1 171 = .ok (.iload 6, 2) := by decide +kernel
theorem d_Mo_entryElement_173 : decode m_Mo_entryElement.2.1 173 = .ok (.iconst 1, 1) := by decide +kernel
theorem d_Mo_entryElement_174 : decode m_Mo_entryElement.2.1 174 = .ok (.if_icmp .ne 7, 3) := by decide +kernel
theorem d_Mo_entryElement_177 : decode m_Mo_entryElement.2.1 177 = .ok (.iconst 1, 1) := by decide +kernel
theorem d_Mo_entryElement_178 : decode m_Mo_entryElement.2.1 178 = .ok (.goto 4, 3) := by decide +kernel
theorem d_Mo_entryElement_181 : decode m_Mo_entryElement.2.1 181 = .ok (.iconst 0, 1) := by decide +kernel
theorem d_Mo_entryElement_182 : decode m_Mo_entryElement.2.1 182 = .ok (.istore_n 3, 1) := by decide +kernel
theorem d_Mo_entryElement_183 : decode m_Mo_entryElement.2.1 183 = .ok (.iload 4, 2) := by decide +kernel
theorem d_Mo_entryElement_185 : decode m_Mo_entryElement.2.1 185 = .ok (.ifCond .ne 9, 3) := by decide +kernel
theorem d_Mo_entryElement_188 : decode m_Mo_entryElement.2.1 188 = .ok (.iload 6, 2) := by decide +kernel
theorem d_Mo_entryElement_190 : decode m_Mo_entryElement.2.1 190 = .ok (.iconst 2, 1) := by decide +kernel
theorem d_Mo_entryElement_191 : decode m_Mo_entryElement.2.1 191 = .ok (.if_icmp .ne 7, 3) := by decide +kernel
theorem d_Mo_entryElement_194 : decode m_Mo_entryElement.2.1 194 = .ok (.iconst 1, 1) := by decide +kernel
theorem d_Mo_entryElement_195 : decode m_Mo_entryElement.2.1 195 = .ok (.goto 4, 3) := by decide +kernel
theorem d_Mo_entryElement_198 : decode m_Mo_entryElement.2.1 198 = .ok (.iconst 0, 1) := by decide +kernel
theorem d_Mo_entryElement_199 : decode m_Mo_entryElement.2.1 199 = .ok (.istore 4, 2) := by decide +kernel
theorem d_Mo_entryElement_201 : decode m_Mo_entryElement.2.1 201 = .ok (.iinc 5 1, 3) := by decide +kernel
theorem d_Mo_entryElement_204 : decode m_Mo_entryElement.2.1 204 = .ok (.goto (-135), 3) := by decide +kernel
theorem d_Mo_entryElement_207 : decode m_Mo_entryElement.2.1 207 = .ok (.aload_n 0, 1) := by decide +kernel
theorem d_Mo_entryElement_208 : decode m_Mo_entryElement.2.1 208 = .ok (.iload_n 2, 1) := by decide +kernel
theorem d_Mo_entryElement_209 : decode m_Mo_entryElement.2.1 209 = .ok (.invokevirtual 122, 3) := by decide +kernel
theorem d_Mo_entryElement_212 : decode m_Mo_entryElement.2.1 212 = .ok (.istore 6, 2) := by decide +kernel
theorem d_Mo_entryElement_214 : decode m_Mo_entryElement.2.1 214 = .ok (.aload_n 0, 1) := by decide +kernel
theorem d_Mo_entryElement_215 : decode m_Mo_entryElement.2.1 215 = .ok (.iload_n 2, 1) := by decide +kernel
theorem d_Mo_entryElement_216 : decode m_Mo_entryElement.2.1 216 = .ok (.bipush 32, 2) := by decide +kernel
theorem d_Mo_entryElement_218 : decode m_Mo_entryElement.2.1 218 = .ok (.if_icmp .eq 9, 3) := by decide +kernel
theorem d_Mo_entryElement_221 : decode m_Mo_entryElement.2.1 221 = .ok (.iload_n 2, 1) := by decide +kernel
theorem d_Mo_entryElement_222 : decode m_Mo_entryElement.2.1 222 = .ok (.bipush 45, 2) := by decide +kernel
theorem d_Mo_entryElement_224 : decode m_Mo_entryElement.2.1 224 = .ok (.if_icmp .ne 7, 3) := by decide +kernel
theorem d_Mo_entryElement_227 : decode m_Mo_entryElement.2.1 227 = .ok (.iconst 1, 1) := by decide +kernel
theorem d_Mo_entryElement_228 : decode m_Mo_entryElement.2.1 228 = .ok (.goto 4, 3) := by decide +kernel
theorem d_Mo_entryElement_231 : decode m_Mo_entryElement.2.1 231 = .ok (.iconst 0, 1) := by decide +kernel
theorem d_Mo_entryElement_232 : decode m_Mo_entryElement.2.1 232 = .ok (.putfield 112, 3) := by decide +kernel
theorem d_Mo_entryElement_235 : decode m_Mo_entryElement.2.1 235 = .ok (.aload_n 0, 1) := by decide +kernel
theorem d_Mo_entryElement_236 : decode m_Mo_entryElement.2.1 236 = .ok (.getfield 108, 3) := by decide +kernel
theorem d_Mo_entryElement_239 : decode m_Mo_entryElement.2.1 239 = .ok (.ifCond .eq 27, 3) := by decide +kernel
theorem d_Mo_entryElement_242 : decode m_Mo_entryElement.2.1 242 = .ok (.aload_n 0, 1) := by decide +kernel
theorem d_Mo_entryElement_243 : decode m_Mo_entryElement.2.1 243 = .ok (.getfield 112, 3) := by decide +kernel
theorem d_Mo_entryElement_246 : decode m_Mo_entryElement.2.1 246 = .ok (.ifCond .eq 20, 3) := by decide +kernel
theorem d_Mo_entryElement_249 : decode m_Mo_entryElement.2.1 249 = .ok (.aload_n 0, 1) := by decide +kernel
theorem d_Mo_entryElement_250 : decode m_Mo_entryElement.2.1 250 = .ok (.iconst 0, 1) := by decide +kernel
theorem d_Mo_entryElement_251 : decode m_Mo_entryElement.2.1 251 = .ok (.iconst 0, 1) := by decide +kernel
theorem d_Mo_entryElement_252 : decode m_Mo_entryElement.2.1 252 = .ok (.iconst 0, 1) := by decide +kernel
theorem d_Mo_entryElement_253 : decode m_Mo_entryElement.2.1 253 = .ok (.aload_n 0, 1) := by decide +kernel
theorem d_Mo_entryElement_254 : decode m_Mo_entryElement.2.1 254 = .ok (.iload 6, 2) := by decide +kernel
theorem d_Mo_entryElement_256 : decode m_Mo_entryElement.2.1 256 = .ok (.iconst 1, 1) := by decide +kernel
theorem d_Mo_entryElement_257 : decode m_Mo_entryElement.2.1 257 = .ok (.invokevirtual 96, 3) := by decide +kernel
theorem d_Mo_entryElement_260 : decode m_Mo_entryElement.2.1 260 = .ok (.invokevirtual 115, 3) := by decide +kernel
theorem d_Mo_entryElement_263 : decode m_Mo_entryElement.2.1 263 = .ok (.goto 31, 3) := by decide +kernel
theorem d_Mo_entryElement_266 : decode m_Mo_entryElement.2.1 266 = .ok (.aload_n 0, 1) := by decide +kernel
theorem d_Mo_entryElement_267 : decode m_Mo_entryElement.2.1 267 = .ok (.aload_n 0, 1) := by decide +kernel
theorem d_Mo_entryElement_268 : decode m_Mo_entryElement.2.1 268 = .ok (.iload 6, 2) := by decide +kernel
theorem d_Mo_entryElement_270 : decode m_Mo_entryElement.2.1 270 = .ok (.iconst 1, 1) := by decide +kernel
theorem d_Mo_entryElement_271 : decode m_Mo_entryElement.2.1 271 = .ok (.invokevirtual 96, 3) := by decide +kernel
theorem d_Mo_entryElement_274 : decode m_Mo_entryElement.2.1 274 = .ok (.aload_n 0, 1) := by decide +kernel
theorem d_Mo_entryElement_275 : decode m_Mo_entryElement.2.1 275 = .ok (.iload 6, 2) := by decide +kernel
theorem d_Mo_entryElement_277 : decode m_Mo_entryElement.2.1 277 = .ok (.iconst 2, 1) := by decide +kernel
theorem d_Mo_entryElement_278 : decode m_Mo_entryElement.2.1 278 = .ok (.invokevirtual 96, 3) := by decide +kernel
theorem d_Mo_entryElement_281 : decode m_Mo_entryElement.2.1 281 = .ok (.aload_n 0, 1) := by decide +kernel
theorem d_Mo_entryElement_282 : decode m_Mo_entryElement.2.1 282 = .ok (.iload 6, 2) := by decide +kernel
theorem d_Mo_entryElement_284 : decode m_Mo_entryElement.2.1 284 = .ok (.iconst 3, 1) := by decide +kernel
theorem d_Mo_entryElement_285 : decode m_Mo_entryElement.2.1 285 = .ok (.invokevirtual 96, 3) := by decide +kernel
theorem d_Mo_entryElement_288 : decode m_Mo_entryElement.2.1 288 = .ok (.sipush 1000, 3) := by decide +kernel
theorem d_Mo_entryElement_291 : decode m_Mo_entryElement.2.1 291 = .ok (.invokevirtual 115, 3) := by decide +kernel
theorem d_Mo_entryElement_294 : decode m_Mo_entryElement.2.1 294 = .ok (.return_, 1) := by decide +kernel
theorem d_Mo_findElements_0 : decode m_Mo_findElements.2.1 0 = .ok (.aload_n 0, 1) := by decide +kernel
theorem d_Mo_findElements_1 : decode m_Mo_findElements.2.1 1 = .ok (.aload_n 0, 1) := by decide +kernel
theorem d_Mo_findElements_2 : decode m_Mo_findElements.2.1 2 = .ok (.getfield 28, 3) := by decide +kernel
theorem d_Mo_findElements_5 : decode m_Mo_findElements.2.1 5 = .ok (.iload_n 1, 1) := by decide +kernel
theorem d_Mo_findElements_6 : decode m_Mo_findElements.2.1 6 = .ok (.iaload, 1) := by decide +kernel
theorem d_Mo_findElements_7 : decode m_Mo_findElements.2.1 7 = .ok (.putfield 99, 3) := by decide +kernel
theorem d_Mo_findElements_10 : decode m_Mo_findElements.2.1 10 = .ok (.iconst 0, 1) := by decide +kernel
theorem d_Mo_findElements_11 : decode m_Mo_findElements.2.1 11 = .ok (.istore_n 2, 1) := by decide +kernel
theorem d_Mo_findElements_12 : decode m_Mo_findElements.2.1 12 = .ok (.iload_n 2, 1) := by decide +kernel
theorem d_Mo_findElements_13 : decode m_Mo_findElements.2.1 13 = .ok (.aload_n 0, 1) := by decide +kernel
theorem d_Mo_findElements_14 : decode m_Mo_findElements.2.1 14 = .ok (.getfield 99, 3) := by decide +kernel
theorem d_Mo_findElements_17 : decode m_Mo_findElements.2.1 17 = .ok (.if_icmp .ge 26, 3) := by decide +kernel
theorem d_Mo_findElements_20 : decode m_Mo_findElements.2.1 20 = .ok (.aload_n 0, 1) := by decide +kernel
theorem d_Mo_findElements_21 : decode m_Mo_findElements.2.1 21 = .ok (.getfield 38, 3) := by decide +kernel
theorem d_Mo_findElements_24 : decode m_Mo_findElements.2.1 24 = .ok (.iload_n 2, 1) := by decide +kernel
theorem d_Mo_findElements_25 : decode m_Mo_findElements.2.1 25 = .ok (.aload_n 0, 1) := by decide +kernel
theorem d_Mo_findElements_26 : decode m_Mo_findElements.2.1 26 = .ok (.getfield 25, 3) := by decide +kernel
theorem d_Mo_findElements_29 : decode m_Mo_findElements.2.1 29 = .ok (.bipush 12, 2) := by decide +kernel
theorem d_Mo_findElements_31 : decode m_Mo_findElements.2.1 31 = .ok (.iload_n 1, 1) := by decide +kernel
theorem d_Mo_findElements_32 : decode m_Mo_findElements.2.1 32 = .ok (.imul, 1) := by decide +kernel
theorem d_Mo_findElements_33 : decode m_Mo_findElements.2.1 33 = .ok (.iload_n 2, 1) := by decide +kernel
theorem d_Mo_findElements_34 : decode m_Mo_findElements.2.1 34 = .ok (.iadd, 1) := by decide +kernel
theorem d_Mo_findElements_35 : decode m_Mo_findElements.2.1 35 = .ok (.iaload, 1) := by decide +kernel
theorem d_Mo_findElements_36 : decode m_Mo_findElements.2.1 36 = .ok (.iastore, 1) := by decide +kernel
theorem d_Mo_findElements_37 : decode m_Mo_findElements.2.1 37 = .ok (.iinc 2 1, 3) := by decide +kernel
theorem d_Mo_findElements_40 : decode m_Mo_findElements.2.1 40 = .ok (.goto (-28), 3) := by decide +kernel
theorem d_Mo_findElements_43 : decode m_Mo_findElements.2.1 43 = .ok (.aload_n 0, 1) := by decide +kernel
theorem d_Mo_findElements_44 : decode m_Mo_findElements.2.1 44 = .ok (.invokevirtual 128, 3) := by decide +kernel
theorem d_Mo_findElements_47 : decode m_Mo_findElements.2.1 47 = .ok (.aload_n 0, 1) := by decide +kernel
theorem d_Mo_findElements_48 : decode m_Mo_findElements.2.1 48 = .ok (.iconst 0, 1) := by decide +kernel
theorem d_Mo_findElements_49 : decode m_Mo_findElements.2.1 49 = .ok (.putfield 105, 3) := by decide +kernel
theorem d_Mo_findElements_52 : decode m_Mo_findElements.2.1 52 = .ok (.aload_n 0, 1) := by decide +kernel
theorem d_Mo_findElements_53 : decode m_Mo_findElements.2.1 53 = .ok (.iconst 0, 1) := by decide +kernel
theorem d_Mo_findElements_54 : decode m_Mo_findElements.2.1 54 = .ok (.putfield 112, 3) := by decide +kernel
theorem d_Mo_findElements_57 : decode m_Mo_findElements.2.1 57 = .ok (.aload_n 0, 1) := by decide +kernel
theorem d_Mo_findElements_58 : decode m_Mo_findElements.2.1 58 = .ok (.getfield 99, 3) := by decide +kernel
theorem d_Mo_findElements_61 : decode m_Mo_findElements.2.1 61 = .ok (.ifCond .le 40, 3) := by decide +kernel
theorem d_Mo_findElements_64 : decode m_Mo_findElements.2.1 64 = .ok (.aload_n 0, 1) := by decide +kernel
theorem d_Mo_findElements_65 : decode m_Mo_findElements.2.1 65 = .ok (.getfield 38, 3) := by decide +kernel
theorem d_Mo_findElements_68 : decode m_Mo_findElements.2.1 68 = .ok (.iconst 0, 1) := by decide +kernel
theorem d_Mo_findElements_69 : decode m_Mo_findElements.2.1 69 = .ok (.iaload, 1) := by decide +kernel
theorem d_Mo_findElements_70 : decode m_Mo_findElements.2.1 70 = .ok (.invokestatic 60, 3) := by decide +kernel
theorem d_Mo_findElements_73 : decode m_Mo_findElements.2.1 73 = .ok (.ifCond .eq 21, 3) := by decide +kernel
theorem d_Mo_findElements_76 : decode m_Mo_findElements.2.1 76 = .ok (.aload_n 0, 1) := by decide +kernel
theorem d_Mo_findElements_77 : decode m_Mo_findElements.2.1 77 = .ok (.aload_n 0, 1) := by decide +kernel
theorem d_Mo_findElements_78 : decode m_Mo_findElements.2.1 78 = .ok (.getfield 38, 3) := by decide +kernel
theorem d_Mo_findElements_81 : decode m_Mo_findElements.2.1 81 = .ok (.iconst 0, 1) := by decide +kernel
theorem d_Mo_findElements_82 : decode m_Mo_findElements.2.1 82 = .ok (.iaload, 1) := by decide +kernel
theorem d_Mo_findElements_83 : decode m_Mo_findElements.2.1 83 = .ok (.invokevirtual 131, 3) := by decide +kernel
theorem d_Mo_findElements_86 : decode m_Mo_findElements.2.1 86 = .ok (.aload_n 0, 1) := by decide +kernel
theorem d_Mo_findElements_87 : decode m_Mo_findElements.2.1 87 = .ok (.iconst 0, 1) := by decide +kernel
theorem d_Mo_findElements_88 : decode m_Mo_findElements.2.1 88 = .ok (.invokevirtual 125, 3) := by decide +kernel
theorem d_Mo_findElements_91 : decode m_Mo_findElements.2.1 91 = .ok (.goto (-34), 3) := by decide +kernel
theorem d_Mo_findElements_94 : decode m_Mo_findElements.2.1 94 = .ok (.aload_n 0, 1) := by decide +kernel
theorem d_Mo_findElements_95 : decode m_Mo_findElements.2.1 95 = .ok (.invokevirtual 134, 3) := by decide +kernel
theorem d_Mo_findElements_98 : decode m_Mo_findElements.2.1 98 = .ok (.goto (-41), 3) := by decide +kernel
theorem d_Mo_findElements_101 : decode m_Mo_findElements.2.1 101 = .ok (.return_, 1) := by decide +kernel
theorem d_Mo_write_0 : decode m_Mo_write.2.1 0 = .ok (.aload_n 0, 1) := by decide +kernel
theorem d_Mo_write_1 : decode m_Mo_write.2.1 1 = .ok (.iload_n 1, 1) := by decide +kernel
theorem d_Mo_write_2 : decode m_Mo_write.2.1 2 = .ok (.invokevirtual 137, 3) := by decide +kernel
theorem d_Mo_write_5 : decode m_Mo_write.2.1 5 = .ok (.iconst 0, 1) := by decide +kernel
theorem d_Mo_write_6 : decode m_Mo_write.2.1 6 = .ok (.istore_n 2, 1) := by decide +kernel
theorem d_Mo_write_7 : decode m_Mo_write.2.1 7 = .ok (.iconst 0, 1) := by decide +kernel
theorem d_Mo_write_8 : decode m_Mo_write.2.1 8 = .ok (.istore_n 3, 1) := by decide +kernel
theorem d_Mo_write_9 : decode m_Mo_write.2.1 9 = .ok (.iload_n 3, 1) := by decide +kernel
theorem d_Mo_write_10 : decode m_Mo_write.2.1 10 = .ok (.aload_n 0, 1) := by decide +kernel
theorem d_Mo_write_11 : decode m_Mo_write.2.1 11 = .ok (.getfield 34, 3) := by decide +kernel
theorem d_Mo_write_14 : decode m_Mo_write.2.1 14 = .ok (.if_icmp .ge 104, 3) := by decide +kernel
theorem d_Mo_write_17 : decode m_Mo_write.2.1 17 = .ok (.iconst 0, 1) := by decide +kernel
theorem d_Mo_write_18 : decode m_Mo_write.2.1 18 = .ok (.istore 4, 2) := by decide +kernel
theorem d_Mo_write_20 : decode m_Mo_write.2.1 20 = .ok (.iload 4, 2) := by decide +kernel
theorem d_Mo_write_22 : decode m_Mo_write.2.1 22 = .ok (.aload_n 0, 1) := by decide +kernel
theorem d_Mo_write_23 : decode m_Mo_write.2.1 23 = .ok (.getfield 105, 3) := by decide +kernel
theorem d_Mo_write_26 : decode m_Mo_write.2.1 26 = .ok (.if_icmp .ge 71, 3) := by decide +kernel
theorem d_Mo_write_29 : decode m_Mo_write.2.1 29 = .ok (.iload_n 3, 1) := by decide +kernel
theorem d_Mo_write_30 : decode m_Mo_write.2.1 30 = .ok (.iconst 1, 1) := by decide +kernel
theorem d_Mo_write_31 : decode m_Mo_write.2.1 31 = .ok (.if_icmp .ne 22, 3) := by decide +kernel
theorem d_Mo_write_34 : decode m_Mo_write.2.1 34 = .ok (.aload_n 0, 1) := by decide +kernel
theorem d_Mo_write_35 : decode m_Mo_write.2.1 35 = .ok (.getfield 140, 3) := by decide +kernel
theorem d_Mo_write_38 : decode m_Mo_write.2.1 38 = .ok (.ifCond .eq 15, 3) := by decide +kernel
theorem d_Mo_write_41 : decode m_Mo_write.2.1 41 = .ok (.aload_n 0, 1) := by decide +kernel
theorem d_Mo_write_42 : decode m_Mo_write.2.1 42 = .ok (.getfield 105, 3) := by decide +kernel
theorem d_Mo_write_45 : decode m_Mo_write.2.1 45 = .ok (.iconst 1, 1) := by decide +kernel
theorem d_Mo_write_46 : decode m_Mo_write.2.1 46 = .ok (.isub, 1) := by decide +kernel
theorem d_Mo_write_47 : decode m_Mo_write.2.1 47 = .ok (.iload 4, 2) := by decide +kernel
theorem d_Mo_write_49 : decode m_Mo_write.2.1 49 = .ok (.isub, 1) := by decide +kernel
theorem d_Mo_write_50 : decode m_Mo_write.2.1 50 = .ok (.goto 5, 3) := by decide +kernel
theorem d_Mo_write_53 : decode m_Mo_write.2.1 53 = .ok (.iload 4, 2) := by decide +kernel
theorem d_Mo_write_55 : decode m_Mo_write.2.1 55 = .ok (.istore 5, 2) := by decide +kernel
theorem d_Mo_write_57 : decode m_Mo_write.2.1 57 = .ok (.aload_n 0, 1) := by decide +kernel
theorem d_Mo_write_58 : decode m_Mo_write.2.1 58 = .ok (.getfield 41, 3) := by decide +kernel
theorem d_Mo_write_61 : decode m_Mo_write.2.1 61 = .ok (.iconst 4, 1) := by decide +kernel
theorem d_Mo_write_62 : decode m_Mo_write.2.1 62 = .ok (.iload 5, 2) := by decide +kernel
theorem d_Mo_write_64 : decode m_Mo_write.2.1 64 = .ok (.imul, 1) := by decide +kernel
theorem d_Mo_write_65 : decode m_Mo_write.2.1 65 = .ok (.iload_n 3, 1) := by decide +kernel
theorem d_Mo_write_66 : decode m_Mo_write.2.1 66 = .ok (.iadd, 1) := by decide +kernel
theorem d_Mo_write_67 : decode m_Mo_write.2.1 67 = .ok (.iaload, 1) := by decide +kernel
theorem d_Mo_write_68 : decode m_Mo_write.2.1 68 = .ok (.istore 6, 2) := by decide +kernel
theorem d_Mo_write_70 : decode m_Mo_write.2.1 70 = .ok (.iload 6, 2) := by decide +kernel
theorem d_Mo_write_72 : decode m_Mo_write.2.1 72 = .ok (.ifCond .eq 19, 3) := by decide +kernel
theorem d_Mo_write_75 : decode m_Mo_write.2.1 75 = .ok (.aload_n 0, 1) := by decide +kernel
theorem d_Mo_write_76 : decode m_Mo_write.2.1 76 = .ok (.getfield 44, 3) := by decide +kernel
theorem d_Mo_write_79 : decode m_Mo_write.2.1 79 = .ok (.bipush 64, 2) := by decide +kernel
theorem d_Mo_write_81 : decode m_Mo_write.2.1 81 = .ok (.iload_n 1, 1) := by decide +kernel
theorem d_Mo_write_82 : decode m_Mo_write.2.1 82 = .ok (.imul, 1) := by decide +kernel
theorem d_Mo_write_83 : decode m_Mo_write.2.1 83 = .ok (.iload_n 2, 1) := by decide +kernel
theorem d_Mo_write_84 : decode m_Mo_write.2.1 84 = .ok (.iadd, 1) := by decide +kernel
theorem d_Mo_write_85 : decode m_Mo_write.2.1 85 = .ok (.iload 6, 2) := by decide +kernel
theorem d_Mo_write_87 : decode m_Mo_write.2.1 87 = .ok (.iastore, 1) := by decide +kernel
theorem d_Mo_write_88 : decode m_Mo_write.2.1 88 = .ok (.iinc 2 1, 3) := by decide +kernel
theorem d_Mo_write_91 : decode m_Mo_write.2.1 91 = .ok (.iinc 4 1, 3) := by decide +kernel
theorem d_Mo_write_94 : decode m_Mo_write.2.1 94 = .ok (.goto (-74), 3) := by decide +kernel
theorem d_Mo_write_97 : decode m_Mo_write.2.1 97 = .ok (.aload_n 0, 1) := by decide +kernel
theorem d_Mo_write_98 : decode m_Mo_write.2.1 98 = .ok (.getfield 44, 3) := by decide +kernel
theorem d_Mo_write_101 : decode m_Mo_write.2.1 101 = .ok (.bipush 64, 2) := by decide +kernel
theorem d_Mo_write_103 : decode m_Mo_write.2.1 103 = .ok (.iload_n 1, 1) := by decide +kernel
theorem d_Mo_write_104 : decode m_Mo_write.2.1 104 = .ok (.imul, 1) := by decide +kernel
theorem d_Mo_write_105 : decode m_Mo_write.2.1 105 = .ok (.iload_n 2, 1) := by decide +kernel
theorem d_Mo_write_106 : decode m_Mo_write.2.1 106 = .ok (.iadd, 1) := by decide +kernel
theorem d_Mo_write_107 : decode m_Mo_write.2.1 107 = .ok (.iconst 0, 1) := by decide +kernel
theorem d_Mo_write_108 : decode m_Mo_write.2.1 108 = .ok (.iastore, 1) := by decide +kernel
theorem d_Mo_write_109 : decode m_Mo_write.2.1 109 = .ok (.iinc 2 1, 3) := by decide +kernel
theorem d_Mo_write_112 : decode m_Mo_write.2.1 112 = .ok (.iinc 3 1, 3) := by decide +kernel
theorem d_Mo_write_115 : decode m_Mo_write.2.1 115 = .ok (.goto (-106), 3) := by decide +kernel
theorem d_Mo_write_118 : decode m_Mo_write.2.1 118 = .ok (.aload_n 0, 1) := by decide +kernel
theorem d_Mo_write_119 : decode m_Mo_write.2.1 119 = .ok (.getfield 47, 3) := by decide +kernel
theorem d_Mo_write_122 : decode m_Mo_write.2.1 122 = .ok (.iload_n 1, 1) := by decide +kernel
theorem d_Mo_write_123 : decode m_Mo_write.2.1 123 = .ok (.iload_n 2, 1) := by decide +kernel
theorem d_Mo_write_124 : decode m_Mo_write.2.1 124 = .ok (.iastore, 1) := by decide +kernel
theorem d_Mo_write_125 : decode m_Mo_write.2.1 125 = .ok (.return_, 1) := by decide +kernel
theorem d_Mo_order_0 : decode m_Mo_order.2.1 0 = .ok (.iconst 0, 1) := by decide +kernel
theorem d_Mo_order_1 : decode m_Mo_order.2.1 1 = .ok (.istore_n 3, 1) := by decide +kernel
theorem d_Mo_order_2 : decode m_Mo_order.2.1 2 = .ok (.iload_n 3, 1) := by decide +kernel
theorem d_Mo_order_3 : decode m_Mo_order.2.1 3 = .ok (.aload_n 0, 1) := by decide +kernel
theorem d_Mo_order_4 : decode m_Mo_order.2.1 4 = .ok (.getfield 47, 3) := by decide +kernel
theorem d_Mo_order_7 : decode m_Mo_order.2.1 7 = .ok (.iload_n 1, 1) := by decide +kernel
theorem d_Mo_order_8 : decode m_Mo_order.2.1 8 = .ok (.iaload, 1) := by decide +kernel
theorem d_Mo_order_9 : decode m_Mo_order.2.1 9 = .ok (.if_icmp .ge 65, 3) := by decide +kernel
theorem d_Mo_order_12 : decode m_Mo_order.2.1 12 = .ok (.iload_n 3, 1) := by decide +kernel
theorem d_Mo_order_13 : decode m_Mo_order.2.1 13 = .ok (.aload_n 0, 1) := by decide +kernel
theorem d_Mo_order_14 : decode m_Mo_order.2.1 14 = .ok (.getfield 47, 3) := by decide +kernel
theorem d_Mo_order_17 : decode m_Mo_order.2.1 17 = .ok (.iload_n 2, 1) := by decide +kernel
theorem d_Mo_order_18 : decode m_Mo_order.2.1 18 = .ok (.iaload, 1) := by decide +kernel
theorem d_Mo_order_19 : decode m_Mo_order.2.1 19 = .ok (.if_icmp .ge 55, 3) := by decide +kernel
theorem d_Mo_order_22 : decode m_Mo_order.2.1 22 = .ok (.aload_n 0, 1) := by decide +kernel
theorem d_Mo_order_23 : decode m_Mo_order.2.1 23 = .ok (.getfield 44, 3) := by decide +kernel
theorem d_Mo_order_26 : decode m_Mo_order.2.1 26 = .ok (.bipush 64, 2) := by decide +kernel
theorem d_Mo_order_28 : decode m_Mo_order.2.1 28 = .ok (.iload_n 1, 1) := by decide +kernel
theorem d_Mo_order_29 : decode m_Mo_order.2.1 29 = .ok (.imul, 1) := by decide +kernel
theorem d_Mo_order_30 : decode m_Mo_order.2.1 30 = .ok (.iload_n 3, 1) := by decide +kernel
theorem d_Mo_order_31 : decode m_Mo_order.2.1 31 = .ok (.iadd, 1) := by decide +kernel
theorem d_Mo_order_32 : decode m_Mo_order.2.1 32 = .ok (.iaload, 1) := by decide +kernel
theorem d_Mo_order_33 : decode m_Mo_order.2.1 33 = .ok (.istore 4, 2) := by decide +kernel
theorem d_Mo_order_35 : decode m_Mo_order.2.1 35 = .ok (.aload_n 0, 1) := by decide +kernel
theorem d_Mo_order_36 : decode m_Mo_order.2.1 36 = .ok (.getfield 44, 3) := by decide +kernel
theorem d_Mo_order_39 : decode m_Mo_order.2.1 39 = .ok (.bipush 64, 2) := by decide +kernel
theorem d_Mo_order_41 : decode m_Mo_order.2.1 41 = .ok (.iload_n 2, 1) := by decide +kernel
theorem d_Mo_order_42 : decode m_Mo_order.2.1 42 = .ok (.imul, 1) := by decide +kernel
theorem d_Mo_order_43 : decode m_Mo_order.2.1 43 = .ok (.iload_n 3, 1) := by decide +kernel
theorem d_Mo_order_44 : decode m_Mo_order.2.1 44 = .ok (.iadd, 1) := by decide +kernel
theorem d_Mo_order_45 : decode m_Mo_order.2.1 45 = .ok (.iaload, 1) := by decide +kernel
theorem d_Mo_order_46 : decode m_Mo_order.2.1 46 = .ok (.istore 5, 2) := by decide +kernel
theorem d_Mo_order_48 : decode m_Mo_order.2.1 48 = .ok (.iload 4, 2) := by decide +kernel
theorem d_Mo_order_50 : decode m_Mo_order.2.1 50 = .ok (.iload 5, 2) := by decide +kernel
theorem d_Mo_order_52 : decode m_Mo_order.2.1 52 = .ok (.if_icmp .eq 16, 3) := by decide +kernel
theorem d_Mo_order_55 : decode m_Mo_order.2.1 55 = .ok (.iload 4, 2) := by decide +kernel
theorem d_Mo_order_57 : decode m_Mo_order.2.1 57 = .ok (.iload 5, 2) := by decide +kernel
theorem d_Mo_order_59 : decode m_Mo_order.2.1 59 = .ok (.if_icmp .ge 7, 3) := by decide +kernel
theorem d_Mo_order_62 : decode m_Mo_order.2.1 62 = .ok (.iconst (-1), 1) := by decide +kernel
theorem d_Mo_order_63 : decode m_Mo_order.2.1 63 = .ok (.goto 4, 3) := by decide +kernel
theorem d_Mo_order_66 : decode m_Mo_order.2.1 66 = .ok (.iconst 1, 1) := by decide +kernel
theorem d_Mo_order_67 : decode m_Mo_order.2.1 67 = .ok (.ireturn, 1) := by decide +kernel
theorem d_Mo_order_68 : decode m_Mo_order.2.1 68 = .ok (.iinc 3 1, 3) := by decide +kernel
theorem d_Mo_order_71 : decode m_Mo_order.2.1 71 = .ok (.goto (-69), 3) := by decide +kernel
theorem d_Mo_order_74 : decode m_Mo_order.2.1 74 = .ok (.iconst 0, 1) := by decide +kernel
theorem d_Mo_order_75 : decode m_Mo_order.2.1 75 = .ok (.ireturn, 1) := by decide +kernel
theorem d_Mo_form_0 : decode m_Mo_form.2.1 0 = .ok (.iload_n 1, 1) := by decide +kernel
theorem d_Mo_form_1 : decode m_Mo_form.2.1 1 = .ok (.iconst 1, 1) := by decide +kernel
theorem d_Mo_form_2 : decode m_Mo_form.2.1 2 = .ok (.if_icmp .lt 8, 3) := by decide +kernel
theorem d_Mo_form_5 : decode m_Mo_form.2.1 5 = .ok (.iload_n 1, 1) := by decide +kernel
theorem d_Mo_form_6 : decode m_Mo_form.2.1 6 = .ok (.iconst 4, 1) := by decide +kernel
theorem d_Mo_form_7 : decode m_Mo_form.2.1 7 = .ok (.if_icmp .le 5, 3) := by decide +kernel
theorem d_Mo_form_10 : decode m_Mo_form.2.1 10 = .ok (.iconst 0, 1) := by decide +kernel
theorem d_Mo_form_11 : decode m_Mo_form.2.1 11 = .ok (.ireturn, 1) := by decide +kernel
theorem d_Mo_form_12 : decode m_Mo_form.2.1 12 = .ok (.aload_n 0, 1) := by decide +kernel
theorem d_Mo_form_13 : decode m_Mo_form.2.1 13 = .ok (.iload_n 1, 1) := by decide +kernel
theorem d_Mo_form_14 : decode m_Mo_form.2.1 14 = .ok (.putfield 34, 3) := by decide +kernel
theorem d_Mo_form_17 : decode m_Mo_form.2.1 17 = .ok (.aload_n 0, 1) := by decide +kernel
theorem d_Mo_form_18 : decode m_Mo_form.2.1 18 = .ok (.iload_n 2, 1) := by decide +kernel
theorem d_Mo_form_19 : decode m_Mo_form.2.1 19 = .ok (.putfield 108, 3) := by decide +kernel
theorem d_Mo_form_22 : decode m_Mo_form.2.1 22 = .ok (.aload_n 0, 1) := by decide +kernel
theorem d_Mo_form_23 : decode m_Mo_form.2.1 23 = .ok (.iload_n 3, 1) := by decide +kernel
theorem d_Mo_form_24 : decode m_Mo_form.2.1 24 = .ok (.putfield 140, 3) := by decide +kernel
theorem d_Mo_form_27 : decode m_Mo_form.2.1 27 = .ok (.iconst 1, 1) := by decide +kernel
theorem d_Mo_form_28 : decode m_Mo_form.2.1 28 = .ok (.ireturn, 1) := by decide +kernel
theorem d_Mo_keyLength_0 : decode m_Mo_keyLength.2.1 0 = .ok (.aload_n 0, 1) := by decide +kernel
theorem d_Mo_keyLength_1 : decode m_Mo_keyLength.2.1 1 = .ok (.iload_n 1, 1) := by decide +kernel
theorem d_Mo_keyLength_2 : decode m_Mo_keyLength.2.1 2 = .ok (.invokevirtual 63, 3) := by decide +kernel
theorem d_Mo_keyLength_5 : decode m_Mo_keyLength.2.1 5 = .ok (.ifCond .ne 5, 3) := by decide +kernel
theorem d_Mo_keyLength_8 : decode m_Mo_keyLength.2.1 8 = .ok (.iconst (-1), 1) := by decide +kernel
theorem d_Mo_keyLength_9 : decode m_Mo_keyLength.2.1 9 = .ok (.ireturn, 1) := by decide +kernel
theorem d_Mo_keyLength_10 : decode m_Mo_keyLength.2.1 10 = .ok (.aload_n 0, 1) := by decide +kernel
theorem d_Mo_keyLength_11 : decode m_Mo_keyLength.2.1 11 = .ok (.iload_n 1, 1) := by decide +kernel
theorem d_Mo_keyLength_12 : decode m_Mo_keyLength.2.1 12 = .ok (.invokevirtual 143, 3) := by decide +kernel
theorem d_Mo_keyLength_15 : decode m_Mo_keyLength.2.1 15 = .ok (.aload_n 0, 1) := by decide +kernel
theorem d_Mo_keyLength_16 : decode m_Mo_keyLength.2.1 16 = .ok (.getfield 47, 3) := by decide +kernel
theorem d_Mo_keyLength_19 : decode m_Mo_keyLength.2.1 19 = .ok (.iload_n 1, 1) := by decide +kernel
theorem d_Mo_keyLength_20 : decode m_Mo_keyLength.2.1 20 = .ok (.iaload, 1) := by decide +kernel
theorem d_Mo_keyLength_21 : decode m_Mo_keyLength.2.1 21 = .ok (.ireturn, 1) := by decide +kernel
theorem d_Mo_keyAt_0 : decode m_Mo_keyAt.2.1 0 = .ok (.aload_n 0, 1) := by decide +kernel
theorem d_Mo_keyAt_1 : decode m_Mo_keyAt.2.1 1 = .ok (.iload_n 1, 1) := by decide +kernel
theorem d_Mo_keyAt_2 : decode m_Mo_keyAt.2.1 2 = .ok (.invokevirtual 63, 3) := by decide +kernel
theorem d_Mo_keyAt_5 : decode m_Mo_keyAt.2.1 5 = .ok (.ifCond .ne 5, 3) := by decide +kernel
theorem d_Mo_keyAt_8 : decode m_Mo_keyAt.2.1 8 = .ok (.iconst (-1), 1) := by decide +kernel
theorem d_Mo_keyAt_9 : decode m_Mo_keyAt.2.1 9 = .ok (.ireturn, 1) := by decide +kernel
theorem d_Mo_keyAt_10 : decode m_Mo_keyAt.2.1 10 = .ok (.aload_n 0, 1) := by decide +kernel
theorem d_Mo_keyAt_11 : decode m_Mo_keyAt.2.1 11 = .ok (.iload_n 1, 1) := by decide +kernel
theorem d_Mo_keyAt_12 : decode m_Mo_keyAt.2.1 12 = .ok (.invokevirtual 143, 3) := by decide +kernel
theorem d_Mo_keyAt_15 : decode m_Mo_keyAt.2.1 15 = .ok (.iload_n 2, 1) := by decide +kernel
theorem d_Mo_keyAt_16 : decode m_Mo_keyAt.2.1 16 = .ok (.ifCond .lt 27, 3) := by decide +kernel
theorem d_Mo_keyAt_19 : decode m_Mo_keyAt.2.1 19 = .ok (.iload_n 2, 1) := by decide +kernel
theorem d_Mo_keyAt_20 : decode m_Mo_keyAt.2.1 20 = .ok (.aload_n 0, 1) := by decide +kernel
theorem d_Mo_keyAt_21 : decode m_Mo_keyAt.2.1 21 = .ok (.getfield 47, 3) := by decide +kernel
theorem d_Mo_keyAt_24 : decode m_Mo_keyAt.2.1 24 = .ok (.iload_n 1, 1) := by decide +kernel
theorem d_Mo_keyAt_25 : decode m_Mo_keyAt.2.1 25 = .ok (.iaload, 1) := by decide +kernel
theorem d_Mo_keyAt_26 : decode m_Mo_keyAt.2.1 26 = .ok (.if_icmp .ge 17, 3) := by decide +kernel
theorem d_Mo_keyAt_29 : decode m_Mo_keyAt.2.1 29 = .ok (.aload_n 0, 1) := by decide +kernel
theorem d_Mo_keyAt_30 : decode m_Mo_keyAt.2.1 30 = .ok (.getfield 44, 3) := by decide +kernel
theorem d_Mo_keyAt_33 : decode m_Mo_keyAt.2.1 33 = .ok (.bipush 64, 2) := by decide +kernel
theorem d_Mo_keyAt_35 : decode m_Mo_keyAt.2.1 35 = .ok (.iload_n 1, 1) := by decide +kernel
theorem d_Mo_keyAt_36 : decode m_Mo_keyAt.2.1 36 = .ok (.imul, 1) := by decide +kernel
theorem d_Mo_keyAt_37 : decode m_Mo_keyAt.2.1 37 = .ok (.iload_n 2, 1) := by decide +kernel
theorem d_Mo_keyAt_38 : decode m_Mo_keyAt.2.1 38 = .ok (.iadd, 1) := by decide +kernel
theorem d_Mo_keyAt_39 : decode m_Mo_keyAt.2.1 39 = .ok (.iaload, 1) := by decide +kernel
theorem d_Mo_keyAt_40 : decode m_Mo_keyAt.2.1 40 = .ok (.goto 4, 3) := by decide +kernel
theorem d_Mo_keyAt_43 : decode m_Mo_keyAt.2.1 43 = .ok (.iconst (-1), 1) := by decide +kernel
theorem d_Mo_keyAt_44 : decode m_Mo_keyAt.2.1 44 = .ok (.ireturn, 1) := by decide +kernel
theorem d_Mo_compare_0 : decode m_Mo_compare.2.1 0 = .ok (.aload_n 0, 1) := by decide +kernel
theorem d_Mo_compare_1 : decode m_Mo_compare.2.1 1 = .ok (.iconst 0, 1) := by decide +kernel
theorem d_Mo_compare_2 : decode m_Mo_compare.2.1 2 = .ok (.invokevirtual 143, 3) := by decide +kernel
theorem d_Mo_compare_5 : decode m_Mo_compare.2.1 5 = .ok (.aload_n 0, 1) := by decide +kernel
theorem d_Mo_compare_6 : decode m_Mo_compare.2.1 6 = .ok (.iconst 1, 1) := by decide +kernel
theorem d_Mo_compare_7 : decode m_Mo_compare.2.1 7 = .ok (.invokevirtual 143, 3) := by decide +kernel
theorem d_Mo_compare_10 : decode m_Mo_compare.2.1 10 = .ok (.aload_n 0, 1) := by decide +kernel
theorem d_Mo_compare_11 : decode m_Mo_compare.2.1 11 = .ok (.iconst 0, 1) := by decide +kernel
theorem d_Mo_compare_12 : decode m_Mo_compare.2.1 12 = .ok (.iconst 1, 1) := by decide +kernel
theorem d_Mo_compare_13 : decode m_Mo_compare.2.1 13 = .ok (.invokevirtual 146, 3) := by decide +kernel
theorem d_Mo_compare_16 : decode m_Mo_compare.2.1 16 = .ok (.ireturn, 1) := by decide +kernel
theorem d_Mo_file_0 : decode m_Mo_file.2.1 0 = .ok (.aload_n 0, 1) := by decide +kernel
theorem d_Mo_file_1 : decode m_Mo_file.2.1 1 = .ok (.iload_n 1, 1) := by decide +kernel
theorem d_Mo_file_2 : decode m_Mo_file.2.1 2 = .ok (.invokevirtual 63, 3) := by decide +kernel
theorem d_Mo_file_5 : decode m_Mo_file.2.1 5 = .ok (.ifCond .eq 12, 3) := by decide +kernel
theorem d_Mo_file_8 : decode m_Mo_file.2.1 8 = .ok (.aload_n 0, 1) := by decide +kernel
theorem d_Mo_file_9 : decode m_Mo_file.2.1 9 = .ok (.getfield 149, 3) := by decide +kernel
theorem d_Mo_file_12 : decode m_Mo_file.2.1 12 = .ok (.bipush 10, 2) := by decide +kernel
theorem d_Mo_file_14 : decode m_Mo_file.2.1 14 = .ok (.if_icmp .ne 5, 3) := by decide +kernel
theorem d_Mo_file_17 : decode m_Mo_file.2.1 17 = .ok (.iconst (-1), 1) := by decide +kernel
theorem d_Mo_file_18 : decode m_Mo_file.2.1 18 = .ok (.ireturn, 1) := by decide +kernel
theorem d_Mo_file_19 : decode m_Mo_file.2.1 19 = .ok (.iconst 2, 1) := by decide +kernel
theorem d_Mo_file_20 : decode m_Mo_file.2.1 20 = .ok (.aload_n 0, 1) := by decide +kernel
theorem d_Mo_file_21 : decode m_Mo_file.2.1 21 = .ok (.getfield 149, 3) := by decide +kernel
theorem d_Mo_file_24 : decode m_Mo_file.2.1 24 = .ok (.iadd, 1) := by decide +kernel
theorem d_Mo_file_25 : decode m_Mo_file.2.1 25 = .ok (.istore_n 2, 1) := by decide +kernel
theorem d_Mo_file_26 : decode m_Mo_file.2.1 26 = .ok (.iconst 0, 1) := by decide +kernel
theorem d_Mo_file_27 : decode m_Mo_file.2.1 27 = .ok (.istore_n 3, 1) := by decide +kernel
theorem d_Mo_file_28 : decode m_Mo_file.2.1 28 = .ok (.iload_n 3, 1) := by decide +kernel
theorem d_Mo_file_29 : decode m_Mo_file.2.1 29 = .ok (.bipush 12, 2) := by decide +kernel
theorem d_Mo_file_31 : decode m_Mo_file.2.1 31 = .ok (.if_icmp .ge 31, 3) := by decide +kernel
theorem d_Mo_file_34 : decode m_Mo_file.2.1 34 = .ok (.aload_n 0, 1) := by decide +kernel
theorem d_Mo_file_35 : decode m_Mo_file.2.1 35 = .ok (.getfield 25, 3) := by decide +kernel
theorem d_Mo_file_38 : decode m_Mo_file.2.1 38 = .ok (.bipush 12, 2) := by decide +kernel
theorem d_Mo_file_40 : decode m_Mo_file.2.1 40 = .ok (.iload_n 2, 1) := by decide +kernel
theorem d_Mo_file_41 : decode m_Mo_file.2.1 41 = .ok (.imul, 1) := by decide +kernel
theorem d_Mo_file_42 : decode m_Mo_file.2.1 42 = .ok (.iload_n 3, 1) := by decide +kernel
theorem d_Mo_file_43 : decode m_Mo_file.2.1 43 = .ok (.iadd, 1) := by decide +kernel
theorem d_Mo_file_44 : decode m_Mo_file.2.1 44 = .ok (.aload_n 0, 1) := by decide +kernel
theorem d_Mo_file_45 : decode m_Mo_file.2.1 45 = .ok (.getfield 25, 3) := by decide +kernel
theorem d_Mo_file_48 : decode m_Mo_file.2.1 48 = .ok (.bipush 12, 2) := by decide +kernel
theorem d_Mo_file_50 : decode m_Mo_file.2.1 50 = .ok (.iload_n 1, 1) := by decide +kernel
theorem d_Mo_file_51 : decode m_Mo_file.2.1 51 = .ok (.imul, 1) := by decide +kernel
theorem d_Mo_file_52 : decode m_Mo_file.2.1 52 = .ok (.iload_n 3, 1) := by decide +kernel
theorem d_Mo_file_53 : decode m_Mo_file.2.1 53 = .ok (.iadd, 1) := by decide +kernel
theorem d_Mo_file_54 : decode m_Mo_file.2.1 54 = .ok (.iaload, 1) := by decide +kernel
theorem d_Mo_file_55 : decode m_Mo_file.2.1 55 = .ok (.iastore, 1) := by decide +kernel
theorem d_Mo_file_56 : decode m_Mo_file.2.1 56 = .ok (.iinc 3 1, 3) := by decide +kernel
theorem d_Mo_file_59 : decode m_Mo_file.2.1 59 = .ok (.goto (-31), 3) := by decide +kernel
theorem d_Mo_file_62 : decode m_Mo_file.2.1 62 = .ok (.aload_n 0, 1) := by decide +kernel
theorem d_Mo_file_63 : decode m_Mo_file.2.1 63 = .ok (.getfield 28, 3) := by decide +kernel
theorem d_Mo_file_66 : decode m_Mo_file.2.1 66 = .ok (.iload_n 2, 1) := by decide +kernel
theorem d_Mo_file_67 : decode m_Mo_file.2.1 67 = .ok (.aload_n 0, 1) := by decide +kernel
theorem d_Mo_file_68 : decode m_Mo_file.2.1 68 = .ok (.getfield 28, 3) := by decide +kernel
theorem d_Mo_file_71 : decode m_Mo_file.2.1 71 = .ok (.iload_n 1, 1) := by decide +kernel
theorem d_Mo_file_72 : decode m_Mo_file.2.1 72 = .ok (.iaload, 1) := by decide +kernel
theorem d_Mo_file_73 : decode m_Mo_file.2.1 73 = .ok (.iastore, 1) := by decide +kernel
theorem d_Mo_file_74 : decode m_Mo_file.2.1 74 = .ok (.aload_n 0, 1) := by decide +kernel
theorem d_Mo_file_75 : decode m_Mo_file.2.1 75 = .ok (.getfield 31, 3) := by decide +kernel
theorem d_Mo_file_78 : decode m_Mo_file.2.1 78 = .ok (.iload_n 2, 1) := by decide +kernel
theorem d_Mo_file_79 : decode m_Mo_file.2.1 79 = .ok (.aload_n 0, 1) := by decide +kernel
theorem d_Mo_file_80 : decode m_Mo_file.2.1 80 = .ok (.getfield 152, 3) := by decide +kernel
theorem d_Mo_file_83 : decode m_Mo_file.2.1 83 = .ok (.iastore, 1) := by decide +kernel
theorem d_Mo_file_84 : decode m_Mo_file.2.1 84 = .ok (.aload_n 0, 1) := by decide +kernel
theorem d_Mo_file_85 : decode m_Mo_file.2.1 85 = .ok (.dup, 1) := by decide +kernel
theorem d_Mo_file_86 : decode m_Mo_file.2.1 86 = .ok (.getfield 149, 3) := by decide +kernel
theorem d_Mo_file_89 : decode m_Mo_file.2.1 89 = .ok (.iconst 1, 1) := by decide +kernel
theorem d_Mo_file_90 : decode m_Mo_file.2.1 90 = .ok (.iadd, 1) := by decide +kernel
theorem d_Mo_file_91 : decode m_Mo_file.2.1 91 = .ok (.putfield 149, 3) := by decide +kernel
theorem d_Mo_file_94 : decode m_Mo_file.2.1 94 = .ok (.aload_n 0, 1) := by decide +kernel
theorem d_Mo_file_95 : decode m_Mo_file.2.1 95 = .ok (.dup, 1) := by decide +kernel
theorem d_Mo_file_96 : decode m_Mo_file.2.1 96 = .ok (.getfield 152, 3) := by decide +kernel
theorem d_Mo_file_99 : decode m_Mo_file.2.1 99 = .ok (.iconst 1, 1) := by decide +kernel
theorem d_Mo_file_100 : decode m_Mo_file.2.1 100 = .ok (.iadd, 1) := by decide +kernel
theorem d_Mo_file_101 : decode m_Mo_file.2.1 101 = .ok (.putfield 152, 3) := by decide +kernel
theorem d_Mo_file_104 : decode m_Mo_file.2.1 104 = .ok (.aload_n 0, 1) := by decide +kernel
theorem d_Mo_file_105 : decode m_Mo_file.2.1 105 = .ok (.getfield 152, 3) := by decide +kernel
theorem d_Mo_file_108 : decode m_Mo_file.2.1 108 = .ok (.iconst 1, 1) := by decide +kernel
theorem d_Mo_file_109 : decode m_Mo_file.2.1 109 = .ok (.isub, 1) := by decide +kernel
theorem d_Mo_file_110 : decode m_Mo_file.2.1 110 = .ok (.ireturn, 1) := by decide +kernel
theorem d_Mo_unfile_0 : decode m_Mo_unfile.2.1 0 = .ok (.iconst (-1), 1) := by decide +kernel
theorem d_Mo_unfile_1 : decode m_Mo_unfile.2.1 1 = .ok (.istore_n 2, 1) := by decide +kernel
theorem d_Mo_unfile_2 : decode m_Mo_unfile.2.1 2 = .ok (.iconst 2, 1) := by decide +kernel
theorem d_Mo_unfile_3 : decode m_Mo_unfile.2.1 3 = .ok (.istore_n 3, 1) := by decide +kernel
theorem d_Mo_unfile_4 : decode m_Mo_unfile.2.1 4 = .ok (.iload_n 3, 1) := by decide +kernel
theorem d_Mo_unfile_5 : decode m_Mo_unfile.2.1 5 = .ok (.iconst 2, 1) := by decide +kernel
theorem d_Mo_unfile_6 : decode m_Mo_unfile.2.1 6 = .ok (.aload_n 0, 1) := by decide +kernel
theorem d_Mo_unfile_7 : decode m_Mo_unfile.2.1 7 = .ok (.getfield 149, 3) := by decide +kernel
theorem d_Mo_unfile_10 : decode m_Mo_unfile.2.1 10 = .ok (.iadd, 1) := by decide +kernel
theorem d_Mo_unfile_11 : decode m_Mo_unfile.2.1 11 = .ok (.if_icmp .ge 25, 3) := by decide +kernel
theorem d_Mo_unfile_14 : decode m_Mo_unfile.2.1 14 = .ok (.aload_n 0, 1) := by decide +kernel
theorem d_Mo_unfile_15 : decode m_Mo_unfile.2.1 15 = .ok (.getfield 31, 3) := by decide +kernel
theorem d_Mo_unfile_18 : decode m_Mo_unfile.2.1 18 = .ok (.iload_n 3, 1) := by decide +kernel
theorem d_Mo_unfile_19 : decode m_Mo_unfile.2.1 19 = .ok (.iaload, 1) := by decide +kernel
theorem d_Mo_unfile_20 : decode m_Mo_unfile.2.1 20 = .ok (.iload_n 1, 1) := by decide +kernel
theorem d_Mo_unfile_21 : decode m_Mo_unfile.2.1 21 = .ok (.if_icmp .ne 7, 3) := by decide +kernel
theorem d_Mo_unfile_24 : decode m_Mo_unfile.2.1 24 = .ok (.iload_n 3, 1) := by decide +kernel
theorem d_Mo_unfile_25 : decode m_Mo_unfile.2.1 25 = .ok (.goto 4, 3) := by decide +kernel
theorem d_Mo_unfile_28 : decode m_Mo_unfile.2.1 28 = .ok (.iload_n 2, 1) := by decide +kernel
theorem d_Mo_unfile_29 : decode m_Mo_unfile.2.1 29 = .ok (.istore_n 2, 1) := by decide +kernel
theorem d_Mo_unfile_30 : decode m_Mo_unfile.2.1 30 = .ok (.iinc 3 1, 3) := by decide +kernel
theorem d_Mo_unfile_33 : decode m_Mo_unfile.2.1 33 = .ok (.goto (-29), 3) := by decide +kernel
theorem d_Mo_unfile_36 : decode m_Mo_unfile.2.1 36 = .ok (.iload_n 2, 1) := by decide +kernel
theorem d_Mo_unfile_37 : decode m_Mo_unfile.2.1 37 = .ok (.ifCond .ge 5, 3) := by decide +kernel
theorem d_Mo_unfile_40 : decode m_Mo_unfile.2.1 40 = .ok (.iconst 0, 1) := by decide +kernel
theorem d_Mo_unfile_41 : decode m_Mo_unfile.2.1 41 = .ok (.ireturn, 1) := by decide +kernel
theorem d_Mo_unfile_42 : decode m_Mo_unfile.2.1 42 = .ok (.iload_n 2, 1) := by decide +kernel
theorem d_Mo_unfile_43 : decode m_Mo_unfile.2.1 43 = .ok (.istore_n 3, 1) := by decide +kernel
theorem d_Mo_unfile_44 : decode m_Mo_unfile.2.1 44 = .ok (.iload_n 3, 1) := by decide +kernel
theorem d_Mo_unfile_45 : decode m_Mo_unfile.2.1 45 = .ok (.iconst 1, 1) := by decide +kernel
theorem d_Mo_unfile_46 : decode m_Mo_unfile.2.1 46 = .ok (.aload_n 0, 1) := by decide +kernel
theorem d_Mo_unfile_47 : decode m_Mo_unfile.2.1 47 = .ok (.getfield 149, 3) := by decide +kernel
theorem d_Mo_unfile_50 : decode m_Mo_unfile.2.1 50 = .ok (.iadd, 1) := by decide +kernel
theorem d_Mo_unfile_51 : decode m_Mo_unfile.2.1 51 = .ok (.if_icmp .ge 80, 3) := by decide +kernel
theorem d_Mo_unfile_54 : decode m_Mo_unfile.2.1 54 = .ok (.iconst 0, 1) := by decide +kernel
theorem d_Mo_unfile_55 : decode m_Mo_unfile.2.1 55 = .ok (.istore 4, 2) := by decide +kernel
theorem d_Mo_unfile_57 : decode m_Mo_unfile.2.1 57 = .ok (.iload 4, 2) := by decide +kernel
theorem d_Mo_unfile_59 : decode m_Mo_unfile.2.1 59 = .ok (.bipush 12, 2) := by decide +kernel
theorem d_Mo_unfile_61 : decode m_Mo_unfile.2.1 61 = .ok (.if_icmp .ge 36, 3) := by decide +kernel
theorem d_Mo_unfile_64 : decode m_Mo_unfile.2.1 64 = .ok (.aload_n 0, 1) := by decide +kernel
theorem d_Mo_unfile_65 : decode m_Mo_unfile.2.1 65 = .ok (.getfield 25, 3) := by decide +kernel
theorem d_Mo_unfile_68 : decode m_Mo_unfile.2.1 68 = .ok (.bipush 12, 2) := by decide +kernel
theorem d_Mo_unfile_70 : decode m_Mo_unfile.2.1 70 = .ok (.iload_n 3, 1) := by decide +kernel
theorem d_Mo_unfile_71 : decode m_Mo_unfile.2.1 71 = .ok (.imul, 1) := by decide +kernel
theorem d_Mo_unfile_72 : decode m_Mo_unfile.2.1 72 = .ok (.iload 4, 2) := by decide +kernel
theorem d_Mo_unfile_74 : decode m_Mo_unfile.2.1 74 = .ok (.iadd, 1) := by decide +kernel
theorem d_Mo_unfile_75 : decode m_Mo_unfile.2.1 75 = .ok (.aload_n 0, 1) := by decide +kernel
theorem d_Mo_unfile_76 : decode m_Mo_unfile.2.1 76 = .ok (.getfield 25, 3) := by decide +kernel
theorem d_Mo_unfile_79 : decode m_Mo_unfile.2.1 79 = .ok (.bipush 12, 2) := by decide +kernel
theorem d_Mo_unfile_81 : decode m_Mo_unfile.2.1 81 = .ok (.iload_n 3, 1) := by decide +kernel
theorem d_Mo_unfile_82 : decode m_Mo_unfile.2.1 82 = .ok (.imul, 1) := by decide +kernel
theorem d_Mo_unfile_83 : decode m_Mo_unfile.2.1 83 = .ok (.bipush 12, 2) := by decide +kernel
theorem d_Mo_unfile_85 : decode m_Mo_unfile.2.1 85 = .ok (.iadd, 1) := by decide +kernel
theorem d_Mo_unfile_86 : decode m_Mo_unfile.2.1 86 = .ok (.iload 4, 2) := by decide +kernel
theorem d_Mo_unfile_88 : decode m_Mo_unfile.2.1 88 = .ok (.iadd, 1) := by decide +kernel
theorem d_Mo_unfile_89 : decode m_Mo_unfile.2.1 89 = .ok (.iaload, 1) := by decide +kernel
theorem d_Mo_unfile_90 : decode m_Mo_unfile.2.1 90 = .ok (.iastore, 1) := by decide +kernel
theorem d_Mo_unfile_91 : decode m_Mo_unfile.2.1 91 = .ok (.iinc 4 1, 3) := by decide +kernel
theorem d_Mo_unfile_94 : decode m_Mo_unfile.2.1 94 = .ok (.goto (-37), 3) := by decide +kernel
theorem d_Mo_unfile_97 : decode m_Mo_unfile.2.1 97 = .ok (.aload_n 0, 1) := by decide +kernel
theorem d_Mo_unfile_98 : decode m_Mo_unfile.2.1 98 = .ok (.getfield 28, 3) := by decide +kernel
theorem d_Mo_unfile_101 : decode m_Mo_unfile.2.1 101 = .ok (.iload_n 3, 1) := by decide +kernel
theorem d_Mo_unfile_102 : decode m_Mo_unfile.2.1 102 = .ok (.aload_n 0, 1) := by decide +kernel
theorem d_Mo_unfile_103 : decode m_Mo_unfile.2.1 103 = .ok (.getfield 28, 3) := by decide +kernel
theorem d_Mo_unfile_106 : decode m_Mo_unfile.2.1 106 = .ok (.iload_n 3, 1) := by decide +kernel
theorem d_Mo_unfile_107 : decode m_Mo_unfile.2.1 107 = .ok (.iconst 1, 1) := by decide +kernel
theorem d_Mo_unfile_108 : decode m_Mo_unfile.2.1 108 = .ok (.iadd, 1) := by decide +kernel
theorem d_Mo_unfile_109 : decode m_Mo_unfile.2.1 109 = .ok (.iaload, 1) := by decide +kernel
theorem d_Mo_unfile_110 : decode m_Mo_unfile.2.1 110 = .ok (.iastore, 1) := by decide +kernel
theorem d_Mo_unfile_111 : decode m_Mo_unfile.2.1 111 = .ok (.aload_n 0, 1) := by decide +kernel
theorem d_Mo_unfile_112 : decode m_Mo_unfile.2.1 112 = .ok (.getfield 31, 3) := by decide +kernel
theorem d_Mo_unfile_115 : decode m_Mo_unfile.2.1 115 = .ok (.iload_n 3, 1) := by decide +kernel
theorem d_Mo_unfile_116 : decode m_Mo_unfile.2.1 116 = .ok (.aload_n 0, 1) := by decide +kernel
theorem d_Mo_unfile_117 : decode m_Mo_unfile.2.1 117 = .ok (.getfield 31, 3) := by decide +kernel
theorem d_Mo_unfile_120 : decode m_Mo_unfile.2.1 120 = .ok (.iload_n 3, 1) := by decide +kernel
theorem d_Mo_unfile_121 : decode m_Mo_unfile.2.1 121 = .ok (.iconst 1, 1) := by decide +kernel
theorem d_Mo_unfile_122 : decode m_Mo_unfile.2.1 122 = .ok (.iadd, 1) := by decide +kernel
theorem d_Mo_unfile_123 : decode m_Mo_unfile.2.1 123 = .ok (.iaload, 1) := by decide +kernel
theorem d_Mo_unfile_124 : decode m_Mo_unfile.2.1 124 = .ok (.iastore, 1) := by decide +kernel
theorem d_Mo_unfile_125 : decode m_Mo_unfile.2.1 125 = .ok (.iinc 3 1, 3) := by decide +kernel
theorem d_Mo_unfile_128 : decode m_Mo_unfile.2.1 128 = .ok (.goto (-84), 3) := by decide +kernel
theorem d_Mo_unfile_131 : decode m_Mo_unfile.2.1 131 = .ok (.aload_n 0, 1) := by decide +kernel
theorem d_Mo_unfile_132 : decode m_Mo_unfile.2.1 132 = .ok (.dup, 1) := by decide +kernel
theorem d_Mo_unfile_133 : decode m_Mo_unfile.2.1 133 = .ok (.getfield 149, 3) := by decide +kernel
theorem d_Mo_unfile_136 : decode m_Mo_unfile.2.1 136 = .ok (.iconst 1, 1) := by decide +kernel
theorem d_Mo_unfile_137 : decode m_Mo_unfile.2.1 137 = .ok (.isub, 1) := by decide +kernel
theorem d_Mo_unfile_138 : decode m_Mo_unfile.2.1 138 = .ok (.putfield 149, 3) := by decide +kernel
theorem d_Mo_unfile_141 : decode m_Mo_unfile.2.1 141 = .ok (.iconst 1, 1) := by decide +kernel
theorem d_Mo_unfile_142 : decode m_Mo_unfile.2.1 142 = .ok (.ireturn, 1) := by decide +kernel
theorem d_Mo_filed_0 : decode m_Mo_filed.2.1 0 = .ok (.aload_n 0, 1) := by decide +kernel
theorem d_Mo_filed_1 : decode m_Mo_filed.2.1 1 = .ok (.getfield 149, 3) := by decide +kernel
theorem d_Mo_filed_4 : decode m_Mo_filed.2.1 4 = .ok (.ireturn, 1) := by decide +kernel
theorem d_Mo_inOrder_0 : decode m_Mo_inOrder.2.1 0 = .ok (.iconst 2, 1) := by decide +kernel
theorem d_Mo_inOrder_1 : decode m_Mo_inOrder.2.1 1 = .ok (.istore_n 2, 1) := by decide +kernel
theorem d_Mo_inOrder_2 : decode m_Mo_inOrder.2.1 2 = .ok (.iload_n 2, 1) := by decide +kernel
theorem d_Mo_inOrder_3 : decode m_Mo_inOrder.2.1 3 = .ok (.iconst 2, 1) := by decide +kernel
theorem d_Mo_inOrder_4 : decode m_Mo_inOrder.2.1 4 = .ok (.aload_n 0, 1) := by decide +kernel
theorem d_Mo_inOrder_5 : decode m_Mo_inOrder.2.1 5 = .ok (.getfield 149, 3) := by decide +kernel
theorem d_Mo_inOrder_8 : decode m_Mo_inOrder.2.1 8 = .ok (.iadd, 1) := by decide +kernel
theorem d_Mo_inOrder_9 : decode m_Mo_inOrder.2.1 9 = .ok (.if_icmp .ge 14, 3) := by decide +kernel
theorem d_Mo_inOrder_12 : decode m_Mo_inOrder.2.1 12 = .ok (.aload_n 0, 1) := by decide +kernel
theorem d_Mo_inOrder_13 : decode m_Mo_inOrder.2.1 13 = .ok (.iload_n 2, 1) := by decide +kernel
theorem d_Mo_inOrder_14 : decode m_Mo_inOrder.2.1 14 = .ok (.invokevirtual 143, 3) := by decide +kernel
theorem d_Mo_inOrder_17 : decode m_Mo_inOrder.2.1 17 = .ok (.iinc 2 1, 3) := by decide +kernel
theorem d_Mo_inOrder_20 : decode m_Mo_inOrder.2.1 20 = .ok (.goto (-18), 3) := by decide +kernel
theorem d_Mo_inOrder_23 : decode m_Mo_inOrder.2.1 23 = .ok (.iconst (-1), 1) := by decide +kernel
theorem d_Mo_inOrder_24 : decode m_Mo_inOrder.2.1 24 = .ok (.istore_n 2, 1) := by decide +kernel
theorem d_Mo_inOrder_25 : decode m_Mo_inOrder.2.1 25 = .ok (.iconst 2, 1) := by decide +kernel
theorem d_Mo_inOrder_26 : decode m_Mo_inOrder.2.1 26 = .ok (.istore_n 3, 1) := by decide +kernel
theorem d_Mo_inOrder_27 : decode m_Mo_inOrder.2.1 27 = .ok (.iload_n 3, 1) := by decide +kernel
theorem d_Mo_inOrder_28 : decode m_Mo_inOrder.2.1 28 = .ok (.iconst 2, 1) := by decide +kernel
theorem d_Mo_inOrder_29 : decode m_Mo_inOrder.2.1 29 = .ok (.aload_n 0, 1) := by decide +kernel
theorem d_Mo_inOrder_30 : decode m_Mo_inOrder.2.1 30 = .ok (.getfield 149, 3) := by decide +kernel
theorem d_Mo_inOrder_33 : decode m_Mo_inOrder.2.1 33 = .ok (.iadd, 1) := by decide +kernel
theorem d_Mo_inOrder_34 : decode m_Mo_inOrder.2.1 34 = .ok (.if_icmp .ge 85, 3) := by decide +kernel
theorem d_Mo_inOrder_37 : decode m_Mo_inOrder.2.1 37 = .ok (.iconst 0, 1) := by decide +kernel
theorem d_Mo_inOrder_38 : decode m_Mo_inOrder.2.1 38 = .ok (.istore 4, 2) := by decide +kernel
theorem d_Mo_inOrder_40 : decode m_Mo_inOrder.2.1 40 = .ok (.iconst 2, 1) := by decide +kernel
theorem d_Mo_inOrder_41 : decode m_Mo_inOrder.2.1 41 = .ok (.istore 5, 2) := by decide +kernel
theorem d_Mo_inOrder_43 : decode m_Mo_inOrder.2.1 43 = .ok (.iload 5, 2) := by decide +kernel
theorem d_Mo_inOrder_45 : decode m_Mo_inOrder.2.1 45 = .ok (.iconst 2, 1) := by decide +kernel
theorem d_Mo_inOrder_46 : decode m_Mo_inOrder.2.1 46 = .ok (.aload_n 0, 1) := by decide +kernel
theorem d_Mo_inOrder_47 : decode m_Mo_inOrder.2.1 47 = .ok (.getfield 149, 3) := by decide +kernel
theorem d_Mo_inOrder_50 : decode m_Mo_inOrder.2.1 50 = .ok (.iadd, 1) := by decide +kernel
theorem d_Mo_inOrder_51 : decode m_Mo_inOrder.2.1 51 = .ok (.if_icmp .ge 45, 3) := by decide +kernel
theorem d_Mo_inOrder_54 : decode m_Mo_inOrder.2.1 54 = .ok (.aload_n 0, 1) := by decide +kernel
theorem d_Mo_inOrder_55 : decode m_Mo_inOrder.2.1 55 = .ok (.iload 5, 2) := by decide +kernel
theorem d_Mo_inOrder_57 : decode m_Mo_inOrder.2.1 57 = .ok (.iload_n 3, 1) := by decide +kernel
theorem d_Mo_inOrder_58 : decode m_Mo_inOrder.2.1 58 = .ok (.invokevirtual 146, 3) := by decide +kernel
theorem d_Mo_inOrder_61 : decode m_Mo_inOrder.2.1 61 = .ok (.istore 6, 2) := by decide +kernel
theorem d_Mo_inOrder_63 : decode m_Mo_inOrder.2.1 63 = .ok (.iload 6, 2) := by decide +kernel
theorem d_Mo_inOrder_65 : decode m_Mo_inOrder.2.1 65 = .ok (.ifCond .lt 14, 3) := by decide +kernel
theorem d_Mo_inOrder_68 : decode m_Mo_inOrder.2.1 68 = .ok (.iload 6, 2) := by decide +kernel
theorem d_Mo_inOrder_70 : decode m_Mo_inOrder.2.1 70 = .ok (.ifCond .ne 16, 3) := by decide +kernel
theorem d_Mo_inOrder_73 : decode m_Mo_inOrder.2.1 73 = .ok (.iload 5, 2) := by decide +kernel
theorem d_Mo_inOrder_75 : decode m_Mo_inOrder.2.1 75 = .ok (.iload_n 3, 1) := by decide +kernel
theorem d_Mo_inOrder_76 : decode m_Mo_inOrder.2.1 76 = .ok (.if_icmp .ge 10, 3) := by decide +kernel
theorem d_Mo_inOrder_79 : decode m_Mo_inOrder.2.1 79 = .ok (.iload 4, 2) := by decide +kernel
theorem d_Mo_inOrder_81 : decode m_Mo_inOrder.2.1 81 = .ok (.iconst 1, 1) := by decide +kernel
theorem d_Mo_inOrder_82 : decode m_Mo_inOrder.2.1 82 = .ok (.iadd, 1) := by decide +kernel
theorem d_Mo_inOrder_83 : decode m_Mo_inOrder.2.1 83 = .ok (.goto 5, 3) := by decide +kernel
theorem d_Mo_inOrder_86 : decode m_Mo_inOrder.2.1 86 = .ok (.iload 4, 2) := by decide +kernel
theorem d_Mo_inOrder_88 : decode m_Mo_inOrder.2.1 88 = .ok (.istore 4, 2) := by decide +kernel
theorem d_Mo_inOrder_90 : decode m_Mo_inOrder.2.1 90 = .ok (.iinc 5 1, 3) := by decide +kernel
theorem d_Mo_inOrder_93 : decode m_Mo_inOrder.2.1 93 = .ok (.goto (-50), 3) := by decide +kernel
theorem d_Mo_inOrder_96 : decode m_Mo_inOrder.2.1 96 = .ok (.iload 4, 2) := by decide +kernel
theorem d_Mo_inOrder_98 : decode m_Mo_inOrder.2.1 98 = .ok (.iload_n 1, 1) := by decide +kernel
theorem d_Mo_inOrder_99 : decode m_Mo_inOrder.2.1 99 = .ok (.if_icmp .ne 12, 3) := by decide +kernel
theorem d_Mo_inOrder_102 : decode m_Mo_inOrder.2.1 102 = .ok (.aload_n 0, 1) := by decide +kernel
theorem d_Mo_inOrder_103 : decode m_Mo_inOrder.2.1 103 = .ok (.getfield 31, 3) := by decide +kernel
theorem d_Mo_inOrder_106 : decode m_Mo_inOrder.2.1 106 = .ok (.iload_n 3, 1) := by decide +kernel
theorem d_Mo_inOrder_107 : decode m_Mo_inOrder.2.1 107 = .ok (.iaload, 1) := by decide +kernel
theorem d_Mo_inOrder_108 : decode m_Mo_inOrder.2.1 108 = .ok (.goto 4, 3) := by decide +kernel
theorem d_Mo_inOrder_111 : decode m_Mo_inOrder.2.1 111 = .ok (.iload_n 2, 1) := by decide +kernel
theorem d_Mo_inOrder_112 : decode m_Mo_inOrder.2.1 112 = .ok (.istore_n 2, 1) := by decide +kernel
theorem d_Mo_inOrder_113 : decode m_Mo_inOrder.2.1 113 = .ok (.iinc 3 1, 3) := by decide +kernel
theorem d_Mo_inOrder_116 : decode m_Mo_inOrder.2.1 116 = .ok (.goto (-89), 3) := by decide +kernel
theorem d_Mo_inOrder_119 : decode m_Mo_inOrder.2.1 119 = .ok (.iload_n 2, 1) := by decide +kernel
theorem d_Mo_inOrder_120 : decode m_Mo_inOrder.2.1 120 = .ok (.ireturn, 1) := by decide +kernel
theorem d_Mo_below_0 : decode m_Mo_below.2.1 0 = .ok (.aload_n 0, 1) := by decide +kernel
theorem d_Mo_below_1 : decode m_Mo_below.2.1 1 = .ok (.iload_n 1, 1) := by decide +kernel
theorem d_Mo_below_2 : decode m_Mo_below.2.1 2 = .ok (.invokevirtual 63, 3) := by decide +kernel
theorem d_Mo_below_5 : decode m_Mo_below.2.1 5 = .ok (.ifCond .ne 5, 3) := by decide +kernel
theorem d_Mo_below_8 : decode m_Mo_below.2.1 8 = .ok (.iconst (-1), 1) := by decide +kernel
theorem d_Mo_below_9 : decode m_Mo_below.2.1 9 = .ok (.ireturn, 1) := by decide +kernel
theorem d_Mo_below_10 : decode m_Mo_below.2.1 10 = .ok (.aload_n 0, 1) := by decide +kernel
theorem d_Mo_below_11 : decode m_Mo_below.2.1 11 = .ok (.iload_n 1, 1) := by decide +kernel
theorem d_Mo_below_12 : decode m_Mo_below.2.1 12 = .ok (.invokevirtual 143, 3) := by decide +kernel
theorem d_Mo_below_15 : decode m_Mo_below.2.1 15 = .ok (.iconst 0, 1) := by decide +kernel
theorem d_Mo_below_16 : decode m_Mo_below.2.1 16 = .ok (.istore_n 2, 1) := by decide +kernel
theorem d_Mo_below_17 : decode m_Mo_below.2.1 17 = .ok (.iconst 2, 1) := by decide +kernel
theorem d_Mo_below_18 : decode m_Mo_below.2.1 18 = .ok (.istore_n 3, 1) := by decide +kernel
theorem d_Mo_below_19 : decode m_Mo_below.2.1 19 = .ok (.iload_n 3, 1) := by decide +kernel
theorem d_Mo_below_20 : decode m_Mo_below.2.1 20 = .ok (.iconst 2, 1) := by decide +kernel
theorem d_Mo_below_21 : decode m_Mo_below.2.1 21 = .ok (.aload_n 0, 1) := by decide +kernel
theorem d_Mo_below_22 : decode m_Mo_below.2.1 22 = .ok (.getfield 149, 3) := by decide +kernel
theorem d_Mo_below_25 : decode m_Mo_below.2.1 25 = .ok (.iadd, 1) := by decide +kernel
theorem d_Mo_below_26 : decode m_Mo_below.2.1 26 = .ok (.if_icmp .ge 31, 3) := by decide +kernel
theorem d_Mo_below_29 : decode m_Mo_below.2.1 29 = .ok (.aload_n 0, 1) := by decide +kernel
theorem d_Mo_below_30 : decode m_Mo_below.2.1 30 = .ok (.iload_n 3, 1) := by decide +kernel
theorem d_Mo_below_31 : decode m_Mo_below.2.1 31 = .ok (.invokevirtual 143, 3) := by decide +kernel
theorem d_Mo_below_34 : decode m_Mo_below.2.1 34 = .ok (.aload_n 0, 1) := by decide +kernel
theorem d_Mo_below_35 : decode m_Mo_below.2.1 35 = .ok (.iload_n 3, 1) := by decide +kernel
theorem d_Mo_below_36 : decode m_Mo_below.2.1 36 = .ok (.iload_n 1, 1) := by decide +kernel
theorem d_Mo_below_37 : decode m_Mo_below.2.1 37 = .ok (.invokevirtual 146, 3) := by decide +kernel
theorem d_Mo_below_40 : decode m_Mo_below.2.1 40 = .ok (.ifCond .ge 9, 3) := by decide +kernel
theorem d_Mo_below_43 : decode m_Mo_below.2.1 43 = .ok (.iload_n 2, 1) := by decide +kernel
theorem d_Mo_below_44 : decode m_Mo_below.2.1 44 = .ok (.iconst 1, 1) := by decide +kernel
theorem d_Mo_below_45 : decode m_Mo_below.2.1 45 = .ok (.iadd, 1) := by decide +kernel
theorem d_Mo_below_46 : decode m_Mo_below.2.1 46 = .ok (.goto 4, 3) := by decide +kernel
theorem d_Mo_below_49 : decode m_Mo_below.2.1 49 = .ok (.iload_n 2, 1) := by decide +kernel
theorem d_Mo_below_50 : decode m_Mo_below.2.1 50 = .ok (.istore_n 2, 1) := by decide +kernel
theorem d_Mo_below_51 : decode m_Mo_below.2.1 51 = .ok (.iinc 3 1, 3) := by decide +kernel
theorem d_Mo_below_54 : decode m_Mo_below.2.1 54 = .ok (.goto (-35), 3) := by decide +kernel
theorem d_Mo_below_57 : decode m_Mo_below.2.1 57 = .ok (.iload_n 2, 1) := by decide +kernel
theorem d_Mo_below_58 : decode m_Mo_below.2.1 58 = .ok (.ireturn, 1) := by decide +kernel
end
section
theorem d_La_law_0 : decode m_La_law.2.1 0 = .ok (.new 7, 3) := by decide +kernel
theorem d_La_law_3 : decode m_La_law.2.1 3 = .ok (.dup, 1) := by decide +kernel
theorem d_La_law_4 : decode m_La_law.2.1 4 = .ok (.invokespecial 9, 3) := by decide +kernel
theorem d_La_law_7 : decode m_La_law.2.1 7 = .ok (.astore_n 1, 1) := by decide +kernel
theorem d_La_law_8 : decode m_La_law.2.1 8 = .ok (.new 10, 3) := by decide +kernel
theorem d_La_law_11 : decode m_La_law.2.1 11 = .ok (.dup, 1) := by decide +kernel
theorem d_La_law_12 : decode m_La_law.2.1 12 = .ok (.invokespecial 12, 3) := by decide +kernel
theorem d_La_law_15 : decode m_La_law.2.1 15 = .ok (.astore_n 2, 1) := by decide +kernel
theorem d_La_law_16 : decode m_La_law.2.1 16 = .ok (.iconst 0, 1) := by decide +kernel
theorem d_La_law_17 : decode m_La_law.2.1 17 = .ok (.istore_n 3, 1) := by decide +kernel
theorem d_La_law_18 : decode m_La_law.2.1 18 = .ok (.iload_n 3, 1) := by decide +kernel
theorem d_La_law_19 : decode m_La_law.2.1 19 = .ok (.aload_n 0, 1) := by decide +kernel
theorem d_La_law_20 : decode m_La_law.2.1 20 = .ok (.arraylength, 1) := by decide +kernel
theorem d_La_law_21 : decode m_La_law.2.1 21 = .ok (.iconst 4, 1) := by decide +kernel
theorem d_La_law_22 : decode m_La_law.2.1 22 = .ok (.isub, 1) := by decide +kernel
theorem d_La_law_23 : decode m_La_law.2.1 23 = .ok (.if_icmp .gt 453, 3) := by decide +kernel
theorem d_La_law_26 : decode m_La_law.2.1 26 = .ok (.aload_n 0, 1) := by decide +kernel
theorem d_La_law_27 : decode m_La_law.2.1 27 = .ok (.iload_n 3, 1) := by decide +kernel
theorem d_La_law_28 : decode m_La_law.2.1 28 = .ok (.iaload, 1) := by decide +kernel
theorem d_La_law_29 : decode m_La_law.2.1 29 = .ok (.bipush 15, 2) := by decide +kernel
theorem d_La_law_31 : decode m_La_law.2.1 31 = .ok (.iand, 1) := by decide +kernel
theorem d_La_law_32 : decode m_La_law.2.1 32 = .ok (.tableswitch 438 0 13 #[72, 107, 130, 143, 156, 189, 264, 287, 320, 333, 356, 379, 392, 415], 72) := by decide +kernel
theorem d_La_law_104 : decode m_La_law.2.1 104 = .ok (.aload_n 1, 1) := by decide +kernel
theorem d_La_law_105 : decode m_La_law.2.1 105 = .ok (.aload_n 0, 1) := by decide +kernel
theorem d_La_law_106 : decode m_La_law.2.1 106 = .ok (.iload_n 3, 1) := by decide +kernel
theorem d_La_law_107 : decode m_La_law.2.1 107 = .ok (.iconst 1, 1) := by decide +kernel
theorem d_La_law_108 : decode m_La_law.2.1 108 = .ok (.iadd, 1) := by decide +kernel
theorem d_La_law_109 : decode m_La_law.2.1 109 = .ok (.iaload, 1) := by decide +kernel
theorem d_La_law_110 : decode m_La_law.2.1 110 = .ok (.aload_n 0, 1) := by decide +kernel
theorem d_La_law_111 : decode m_La_law.2.1 111 = .ok (.iload_n 3, 1) := by decide +kernel
theorem d_La_law_112 : decode m_La_law.2.1 112 = .ok (.iconst 2, 1) := by decide +kernel
theorem d_La_law_113 : decode m_La_law.2.1 113 = .ok (.iadd, 1) := by decide +kernel
theorem d_La_law_114 : decode m_La_law.2.1 114 = .ok (.iaload, 1) := by decide +kernel
theorem d_La_law_115 : decode m_La_law.2.1 115 = .ok (.i2c, 1) := by decide +kernel
theorem d_La_law_116 : decode m_La_law.2.1 116 = .ok (.invokevirtual 13, 3) := by decide +kernel
theorem d_La_law_119 : decode m_La_law.2.1 119 = .ok (.aload_n 2, 1) := by decide +kernel
theorem d_La_law_120 : decode m_La_law.2.1 120 = .ok (.aload_n 0, 1) := by decide +kernel
theorem d_La_law_121 : decode m_La_law.2.1 121 = .ok (.iload_n 3, 1) := by decide +kernel
theorem d_La_law_122 : decode m_La_law.2.1 122 = .ok (.iconst 1, 1) := by decide +kernel
theorem d_La_law_123 : decode m_La_law.2.1 123 = .ok (.iadd, 1) := by decide +kernel
theorem d_La_law_124 : decode m_La_law.2.1 124 = .ok (.iaload, 1) := by decide +kernel
theorem d_La_law_125 : decode m_La_law.2.1 125 = .ok (.aload_n 0, 1) := by decide +kernel
theorem d_La_law_126 : decode m_La_law.2.1 126 = .ok (.iload_n 3, 1) := by decide +kernel
theorem d_La_law_127 : decode m_La_law.2.1 127 = .ok (.iconst 2, 1) := by decide +kernel
theorem d_La_law_128 : decode m_La_law.2.1 128 = .ok (.iadd, 1) := by decide +kernel
theorem d_La_law_129 : decode m_La_law.2.1 129 = .ok (.iaload, 1) := by decide +kernel
theorem d_La_law_130 : decode m_La_law.2.1 130 = .ok (.i2c, 1) := by decide +kernel
theorem d_La_law_131 : decode m_La_law.2.1 131 = .ok (.invokevirtual 17, 3) := by decide +kernel
theorem d_La_law_134 : decode m_La_law.2.1 134 = .ok (.if_icmp .eq 336, 3) := by decide +kernel
theorem d_La_law_137 : decode m_La_law.2.1 137 = .ok (.iconst 0, 1) := by decide +kernel
theorem d_La_law_138 : decode m_La_law.2.1 138 = .ok (.ireturn, 1) := by decide +kernel
theorem d_La_law_139 : decode m_La_law.2.1 139 = .ok (.aload_n 1, 1) := by decide +kernel
theorem d_La_law_140 : decode m_La_law.2.1 140 = .ok (.aload_n 0, 1) := by decide +kernel
theorem d_La_law_141 : decode m_La_law.2.1 141 = .ok (.iload_n 3, 1) := by decide +kernel
theorem d_La_law_142 : decode m_La_law.2.1 142 = .ok (.iconst 1, 1) := by decide +kernel
theorem d_La_law_143 : decode m_La_law.2.1 143 = .ok (.iadd, 1) := by decide +kernel
theorem d_La_law_144 : decode m_La_law.2.1 144 = .ok (.iaload, 1) := by decide +kernel
theorem d_La_law_145 : decode m_La_law.2.1 145 = .ok (.invokevirtual 18, 3) := by decide +kernel
theorem d_La_law_148 : decode m_La_law.2.1 148 = .ok (.aload_n 2, 1) := by decide +kernel
theorem d_La_law_149 : decode m_La_law.2.1 149 = .ok (.aload_n 0, 1) := by decide +kernel
theorem d_La_law_150 : decode m_La_law.2.1 150 = .ok (.iload_n 3, 1) := by decide +kernel
theorem d_La_law_151 : decode m_La_law.2.1 151 = .ok (.iconst 1, 1) := by decide +kernel
theorem d_La_law_152 : decode m_La_law.2.1 152 = .ok (.iadd, 1) := by decide +kernel
theorem d_La_law_153 : decode m_La_law.2.1 153 = .ok (.iaload, 1) := by decide +kernel
theorem d_La_law_154 : decode m_La_law.2.1 154 = .ok (.invokevirtual 22, 3) := by decide +kernel
theorem d_La_law_157 : decode m_La_law.2.1 157 = .ok (.if_icmp .eq 313, 3) := by decide +kernel
theorem d_La_law_160 : decode m_La_law.2.1 160 = .ok (.iconst 0, 1) := by decide +kernel
theorem d_La_law_161 : decode m_La_law.2.1 161 = .ok (.ireturn, 1) := by decide +kernel
theorem d_La_law_162 : decode m_La_law.2.1 162 = .ok (.aload_n 1, 1) := by decide +kernel
theorem d_La_law_163 : decode m_La_law.2.1 163 = .ok (.invokevirtual 23, 3) := by decide +kernel
theorem d_La_law_166 : decode m_La_law.2.1 166 = .ok (.aload_n 2, 1) := by decide +kernel
theorem d_La_law_167 : decode m_La_law.2.1 167 = .ok (.invokevirtual 27, 3) := by decide +kernel
theorem d_La_law_170 : decode m_La_law.2.1 170 = .ok (.if_icmp .eq 300, 3) := by decide +kernel
theorem d_La_law_173 : decode m_La_law.2.1 173 = .ok (.iconst 0, 1) := by decide +kernel
theorem d_La_law_174 : decode m_La_law.2.1 174 = .ok (.ireturn, 1) := by decide +kernel
theorem d_La_law_175 : decode m_La_law.2.1 175 = .ok (.aload_n 1, 1) := by decide +kernel
theorem d_La_law_176 : decode m_La_law.2.1 176 = .ok (.invokevirtual 28, 3) := by decide +kernel
theorem d_La_law_179 : decode m_La_law.2.1 179 = .ok (.aload_n 2, 1) := by decide +kernel
theorem d_La_law_180 : decode m_La_law.2.1 180 = .ok (.invokevirtual 31, 3) := by decide +kernel
theorem d_La_law_183 : decode m_La_law.2.1 183 = .ok (.if_icmp .eq 287, 3) := by decide +kernel
theorem d_La_law_186 : decode m_La_law.2.1 186 = .ok (.iconst 0, 1) := by decide +kernel
theorem d_La_law_187 : decode m_La_law.2.1 187 = .ok (.ireturn, 1) := by decide +kernel
theorem d_La_law_188 : decode m_La_law.2.1 188 = .ok (.aload_n 1, 1) := by decide +kernel
theorem d_La_law_189 : decode m_La_law.2.1 189 = .ok (.aload_n 0, 1) := by decide +kernel
theorem d_La_law_190 : decode m_La_law.2.1 190 = .ok (.iload_n 3, 1) := by decide +kernel
theorem d_La_law_191 : decode m_La_law.2.1 191 = .ok (.iconst 1, 1) := by decide +kernel
theorem d_La_law_192 : decode m_La_law.2.1 192 = .ok (.iadd, 1) := by decide +kernel
theorem d_La_law_193 : decode m_La_law.2.1 193 = .ok (.iaload, 1) := by decide +kernel
theorem d_La_law_194 : decode m_La_law.2.1 194 = .ok (.aload_n 0, 1) := by decide +kernel
theorem d_La_law_195 : decode m_La_law.2.1 195 = .ok (.iload_n 3, 1) := by decide +kernel
theorem d_La_law_196 : decode m_La_law.2.1 196 = .ok (.iconst 2, 1) := by decide +kernel
theorem d_La_law_197 : decode m_La_law.2.1 197 = .ok (.iadd, 1) := by decide +kernel
theorem d_La_law_198 : decode m_La_law.2.1 198 = .ok (.iaload, 1) := by decide +kernel
theorem d_La_law_199 : decode m_La_law.2.1 199 = .ok (.invokevirtual 32, 3) := by decide +kernel
theorem d_La_law_202 : decode m_La_law.2.1 202 = .ok (.aload_n 2, 1) := by decide +kernel
theorem d_La_law_203 : decode m_La_law.2.1 203 = .ok (.aload_n 0, 1) := by decide +kernel
theorem d_La_law_204 : decode m_La_law.2.1 204 = .ok (.iload_n 3, 1) := by decide +kernel
theorem d_La_law_205 : decode m_La_law.2.1 205 = .ok (.iconst 1, 1) := by decide +kernel
theorem d_La_law_206 : decode m_La_law.2.1 206 = .ok (.iadd, 1) := by decide +kernel
theorem d_La_law_207 : decode m_La_law.2.1 207 = .ok (.iaload, 1) := by decide +kernel
theorem d_La_law_208 : decode m_La_law.2.1 208 = .ok (.aload_n 0, 1) := by decide +kernel
theorem d_La_law_209 : decode m_La_law.2.1 209 = .ok (.iload_n 3, 1) := by decide +kernel
theorem d_La_law_210 : decode m_La_law.2.1 210 = .ok (.iconst 2, 1) := by decide +kernel
theorem d_La_law_211 : decode m_La_law.2.1 211 = .ok (.iadd, 1) := by decide +kernel
theorem d_La_law_212 : decode m_La_law.2.1 212 = .ok (.iaload, 1) := by decide +kernel
theorem d_La_law_213 : decode m_La_law.2.1 213 = .ok (.invokevirtual 36, 3) := by decide +kernel
theorem d_La_law_216 : decode m_La_law.2.1 216 = .ok (.if_icmp .eq 254, 3) := by decide +kernel
theorem d_La_law_219 : decode m_La_law.2.1 219 = .ok (.iconst 0, 1) := by decide +kernel
theorem d_La_law_220 : decode m_La_law.2.1 220 = .ok (.ireturn, 1) := by decide +kernel
theorem d_La_law_221 : decode m_La_law.2.1 221 = .ok (.aload_n 1, 1) := by decide +kernel
theorem d_La_law_222 : decode m_La_law.2.1 222 = .ok (.aload_n 0, 1) := by decide +kernel
theorem d_La_law_223 : decode m_La_law.2.1 223 = .ok (.iload_n 3, 1) := by decide +kernel
theorem d_La_law_224 : decode m_La_law.2.1 224 = .ok (.iconst 1, 1) := by decide +kernel
theorem d_La_law_225 : decode m_La_law.2.1 225 = .ok (.iadd, 1) := by decide +kernel
theorem d_La_law_226 : decode m_La_law.2.1 226 = .ok (.iaload, 1) := by decide +kernel
theorem d_La_law_227 : decode m_La_law.2.1 227 = .ok (.aload_n 0, 1) := by decide +kernel
theorem d_La_law_228 : decode m_La_law.2.1 228 = .ok (.iload_n 3, 1) := by decide +kernel
theorem d_La_law_229 : decode m_La_law.2.1 229 = .ok (.iconst 2, 1) := by decide +kernel
theorem d_La_law_230 : decode m_La_law.2.1 230 = .ok (.iadd, 1) := by decide +kernel
theorem d_La_law_231 : decode m_La_law.2.1 231 = .ok (.iaload, 1) := by decide +kernel
theorem d_La_law_232 : decode m_La_law.2.1 232 = .ok (.ifCond .eq 7, 3) := by decide +kernel
theorem d_La_law_235 : decode m_La_law.2.1 235 = .ok (.iconst 1, 1) := by decide +kernel
theorem d_La_law_236 : decode m_La_law.2.1 236 = .ok (.goto 4, 3) := by decide +kernel
theorem d_La_law_239 : decode m_La_law.2.1 239 = .ok (.iconst 0, 1) := by decide +kernel
theorem d_La_law_240 : decode m_La_law.2.1 240 = .ok (.aload_n 0, 1) := by decide +kernel
theorem d_La_law_241 : decode m_La_law.2.1 241 = .ok (.iload_n 3, 1) := by decide +kernel
theorem d_La_law_242 : decode m_La_law.2.1 242 = .ok (.iconst 3, 1) := by decide +kernel
theorem d_La_law_243 : decode m_La_law.2.1 243 = .ok (.iadd, 1) := by decide +kernel
theorem d_La_law_244 : decode m_La_law.2.1 244 = .ok (.iaload, 1) := by decide +kernel
theorem d_La_law_245 : decode m_La_law.2.1 245 = .ok (.ifCond .eq 7, 3) := by decide +kernel
theorem d_La_law_248 : decode m_La_law.2.1 248 = .ok (.iconst 1, 1) := by decide +kernel
theorem d_La_law_249 : decode m_La_law.2.1 249 = .ok (.goto 4, 3) := by decide +kernel
theorem d_La_law_252 : decode m_La_law.2.1 252 = .ok (.iconst 0, 1) := by decide +kernel
theorem d_La_law_253 : decode m_La_law.2.1 253 = .ok (.invokevirtual 37, 3) := by decide +kernel
theorem d_La_law_256 : decode m_La_law.2.1 256 = .ok (.aload_n 2, 1) := by decide +kernel
theorem d_La_law_257 : decode m_La_law.2.1 257 = .ok (.aload_n 0, 1) := by decide +kernel
theorem d_La_law_258 : decode m_La_law.2.1 258 = .ok (.iload_n 3, 1) := by decide +kernel
theorem d_La_law_259 : decode m_La_law.2.1 259 = .ok (.iconst 1, 1) := by decide +kernel
theorem d_La_law_260 : decode m_La_law.2.1 260 = .ok (.iadd, 1) := by decide +kernel
theorem d_La_law_261 : decode m_La_law.2.1 261 = .ok (.iaload, 1) := by decide +kernel
theorem d_La_law_262 : decode m_La_law.2.1 262 = .ok (.aload_n 0, 1) := by decide +kernel
theorem d_La_law_263 : decode m_La_law.2.1 263 = .ok (.iload_n 3, 1) := by decide +kernel
theorem d_La_law_264 : decode m_La_law.2.1 264 = .ok (.iconst 2, 1) := by decide +kernel
theorem d_La_law_265 : decode m_La_law.2.1 265 = .ok (.iadd, 1) := by decide +kernel
theorem d_La_law_266 : decode m_La_law.2.1 266 = .ok (.iaload, 1) := by decide +kernel
theorem d_La_law_267 : decode m_La_law.2.1 267 = .ok (.ifCond .eq 7, 3) := by decide +kernel
theorem d_La_law_270 : decode m_La_law.2.1 270 = .ok (.iconst 1, 1) := by decide +kernel
theorem d_La_law_271 : decode m_La_law.2.1 271 = .ok (.goto 4, 3) := by decide +kernel
theorem d_La_law_274 : decode m_La_law.2.1 274 = .ok (.iconst 0, 1) := by decide +kernel
theorem d_La_law_275 : decode m_La_law.2.1 275 = .ok (.aload_n 0, 1) := by decide +kernel
theorem d_La_law_276 : decode m_La_law.2.1 276 = .ok (.iload_n 3, 1) := by decide +kernel
theorem d_La_law_277 : decode m_La_law.2.1 277 = .ok (.iconst 3, 1) := by decide +kernel
theorem d_La_law_278 : decode m_La_law.2.1 278 = .ok (.iadd, 1) := by decide +kernel
theorem d_La_law_279 : decode m_La_law.2.1 279 = .ok (.iaload, 1) := by decide +kernel
theorem d_La_law_280 : decode m_La_law.2.1 280 = .ok (.ifCond .eq 7, 3) := by decide +kernel
theorem d_La_law_283 : decode m_La_law.2.1 283 = .ok (.iconst 1, 1) := by decide +kernel
theorem d_La_law_284 : decode m_La_law.2.1 284 = .ok (.goto 4, 3) := by decide +kernel
theorem d_La_law_287 : decode m_La_law.2.1 287 = .ok (.iconst 0, 1) := by decide +kernel
theorem d_La_law_288 : decode m_La_law.2.1 288 = .ok (.invokevirtual 41, 3) := by decide +kernel
theorem d_La_law_291 : decode m_La_law.2.1 291 = .ok (.if_icmp .eq 179, 3) := by decide +kernel
theorem d_La_law_294 : decode m_La_law.2.1 294 = .ok (.iconst 0, 1) := by decide +kernel
theorem d_La_law_295 : decode m_La_law.2.1 295 = .ok (.ireturn, 1) := by decide +kernel
theorem d_La_law_296 : decode m_La_law.2.1 296 = .ok (.aload_n 1, 1) := by decide +kernel
theorem d_La_law_297 : decode m_La_law.2.1 297 = .ok (.aload_n 0, 1) := by decide +kernel
theorem d_La_law_298 : decode m_La_law.2.1 298 = .ok (.iload_n 3, 1) := by decide +kernel
theorem d_La_law_299 : decode m_La_law.2.1 299 = .ok (.iconst 1, 1) := by decide +kernel
theorem d_La_law_300 : decode m_La_law.2.1 300 = .ok (.iadd, 1) := by decide +kernel
theorem d_La_law_301 : decode m_La_law.2.1 301 = .ok (.iaload, 1) := by decide +kernel
theorem d_La_law_302 : decode m_La_law.2.1 302 = .ok (.invokevirtual 42, 3) := by decide +kernel
theorem d_La_law_305 : decode m_La_law.2.1 305 = .ok (.aload_n 2, 1) := by decide +kernel
theorem d_La_law_306 : decode m_La_law.2.1 306 = .ok (.aload_n 0, 1) := by decide +kernel
theorem d_La_law_307 : decode m_La_law.2.1 307 = .ok (.iload_n 3, 1) := by decide +kernel
theorem d_La_law_308 : decode m_La_law.2.1 308 = .ok (.iconst 1, 1) := by decide +kernel
theorem d_La_law_309 : decode m_La_law.2.1 309 = .ok (.iadd, 1) := by decide +kernel
theorem d_La_law_310 : decode m_La_law.2.1 310 = .ok (.iaload, 1) := by decide +kernel
theorem d_La_law_311 : decode m_La_law.2.1 311 = .ok (.invokevirtual 45, 3) := by decide +kernel
theorem d_La_law_314 : decode m_La_law.2.1 314 = .ok (.if_icmp .eq 156, 3) := by decide +kernel
theorem d_La_law_317 : decode m_La_law.2.1 317 = .ok (.iconst 0, 1) := by decide +kernel
theorem d_La_law_318 : decode m_La_law.2.1 318 = .ok (.ireturn, 1) := by decide +kernel
theorem d_La_law_319 : decode m_La_law.2.1 319 = .ok (.aload_n 1, 1) := by decide +kernel
theorem d_La_law_320 : decode m_La_law.2.1 320 = .ok (.aload_n 0, 1) := by decide +kernel
theorem d_La_law_321 : decode m_La_law.2.1 321 = .ok (.iload_n 3, 1) := by decide +kernel
theorem d_La_law_322 : decode m_La_law.2.1 322 = .ok (.iconst 1, 1) := by decide +kernel
theorem d_La_law_323 : decode m_La_law.2.1 323 = .ok (.iadd, 1) := by decide +kernel
theorem d_La_law_324 : decode m_La_law.2.1 324 = .ok (.iaload, 1) := by decide +kernel
theorem d_La_law_325 : decode m_La_law.2.1 325 = .ok (.aload_n 0, 1) := by decide +kernel
theorem d_La_law_326 : decode m_La_law.2.1 326 = .ok (.iload_n 3, 1) := by decide +kernel
theorem d_La_law_327 : decode m_La_law.2.1 327 = .ok (.iconst 2, 1) := by decide +kernel
theorem d_La_law_328 : decode m_La_law.2.1 328 = .ok (.iadd, 1) := by decide +kernel
theorem d_La_law_329 : decode m_La_law.2.1 329 = .ok (.iaload, 1) := by decide +kernel
theorem d_La_law_330 : decode m_La_law.2.1 330 = .ok (.invokevirtual 46, 3) := by decide +kernel
theorem d_La_law_333 : decode m_La_law.2.1 333 = .ok (.aload_n 2, 1) := by decide +kernel
theorem d_La_law_334 : decode m_La_law.2.1 334 = .ok (.aload_n 0, 1) := by decide +kernel
theorem d_La_law_335 : decode m_La_law.2.1 335 = .ok (.iload_n 3, 1) := by decide +kernel
theorem d_La_law_336 : decode m_La_law.2.1 336 = .ok (.iconst 1, 1) := by decide +kernel
theorem d_La_law_337 : decode m_La_law.2.1 337 = .ok (.iadd, 1) := by decide +kernel
theorem d_La_law_338 : decode m_La_law.2.1 338 = .ok (.iaload, 1) := by decide +kernel
theorem d_La_law_339 : decode m_La_law.2.1 339 = .ok (.aload_n 0, 1) := by decide +kernel
theorem d_La_law_340 : decode m_La_law.2.1 340 = .ok (.iload_n 3, 1) := by decide +kernel
theorem d_La_law_341 : decode m_La_law.2.1 341 = .ok (.iconst 2, 1) := by decide +kernel
theorem d_La_law_342 : decode m_La_law.2.1 342 = .ok (.iadd, 1) := by decide +kernel
theorem d_La_law_343 : decode m_La_law.2.1 343 = .ok (.iaload, 1) := by decide +kernel
theorem d_La_law_344 : decode m_La_law.2.1 344 = .ok (.invokevirtual 49, 3) := by decide +kernel
theorem d_La_law_347 : decode m_La_law.2.1 347 = .ok (.if_icmp .eq 123, 3) := by decide +kernel
theorem d_La_law_350 : decode m_La_law.2.1 350 = .ok (.iconst 0, 1) := by decide +kernel
theorem d_La_law_351 : decode m_La_law.2.1 351 = .ok (.ireturn, 1) := by decide +kernel
theorem d_La_law_352 : decode m_La_law.2.1 352 = .ok (.aload_n 1, 1) := by decide +kernel
theorem d_La_law_353 : decode m_La_law.2.1 353 = .ok (.invokevirtual 50, 3) := by decide +kernel
theorem d_La_law_356 : decode m_La_law.2.1 356 = .ok (.aload_n 2, 1) := by decide +kernel
theorem d_La_law_357 : decode m_La_law.2.1 357 = .ok (.invokevirtual 53, 3) := by decide +kernel
theorem d_La_law_360 : decode m_La_law.2.1 360 = .ok (.if_icmp .eq 110, 3) := by decide +kernel
theorem d_La_law_363 : decode m_La_law.2.1 363 = .ok (.iconst 0, 1) := by decide +kernel
theorem d_La_law_364 : decode m_La_law.2.1 364 = .ok (.ireturn, 1) := by decide +kernel
theorem d_La_law_365 : decode m_La_law.2.1 365 = .ok (.aload_n 1, 1) := by decide +kernel
theorem d_La_law_366 : decode m_La_law.2.1 366 = .ok (.aload_n 0, 1) := by decide +kernel
theorem d_La_law_367 : decode m_La_law.2.1 367 = .ok (.iload_n 3, 1) := by decide +kernel
theorem d_La_law_368 : decode m_La_law.2.1 368 = .ok (.iconst 1, 1) := by decide +kernel
theorem d_La_law_369 : decode m_La_law.2.1 369 = .ok (.iadd, 1) := by decide +kernel
theorem d_La_law_370 : decode m_La_law.2.1 370 = .ok (.iaload, 1) := by decide +kernel
theorem d_La_law_371 : decode m_La_law.2.1 371 = .ok (.invokevirtual 54, 3) := by decide +kernel
theorem d_La_law_374 : decode m_La_law.2.1 374 = .ok (.aload_n 2, 1) := by decide +kernel
theorem d_La_law_375 : decode m_La_law.2.1 375 = .ok (.aload_n 0, 1) := by decide +kernel
theorem d_La_law_376 : decode m_La_law.2.1 376 = .ok (.iload_n 3, 1) := by decide +kernel
theorem d_La_law_377 : decode m_La_law.2.1 377 = .ok (.iconst 1, 1) := by decide +kernel
theorem d_La_law_378 : decode m_La_law.2.1 378 = .ok (.iadd, 1) := by decide +kernel
theorem d_La_law_379 : decode m_La_law.2.1 379 = .ok (.iaload, 1) := by decide +kernel
theorem d_La_law_380 : decode m_La_law.2.1 380 = .ok (.invokevirtual 57, 3) := by decide +kernel
theorem d_La_law_383 : decode m_La_law.2.1 383 = .ok (.if_icmp .eq 87, 3) := by decide +kernel
theorem d_La_law_386 : decode m_La_law.2.1 386 = .ok (.iconst 0, 1) := by decide +kernel
theorem d_La_law_387 : decode m_La_law.2.1 387 = .ok (.ireturn, 1) := by decide +kernel
theorem d_La_law_388 : decode m_La_law.2.1 388 = .ok (.aload_n 1, 1) := by decide +kernel
theorem d_La_law_389 : decode m_La_law.2.1 389 = .ok (.aload_n 0, 1) := by decide +kernel
theorem d_La_law_390 : decode m_La_law.2.1 390 = .ok (.iload_n 3, 1) := by decide +kernel
theorem d_La_law_391 : decode m_La_law.2.1 391 = .ok (.iconst 1, 1) := by decide +kernel
theorem d_La_law_392 : decode m_La_law.2.1 392 = .ok (.iadd, 1) := by decide +kernel
theorem d_La_law_393 : decode m_La_law.2.1 393 = .ok (.iaload, 1) := by decide +kernel
theorem d_La_law_394 : decode m_La_law.2.1 394 = .ok (.invokevirtual 58, 3) := by decide +kernel
theorem d_La_law_397 : decode m_La_law.2.1 397 = .ok (.aload_n 2, 1) := by decide +kernel
theorem d_La_law_398 : decode m_La_law.2.1 398 = .ok (.aload_n 0, 1) := by decide +kernel
theorem d_La_law_399 : decode m_La_law.2.1 399 = .ok (.iload_n 3, 1) := by decide +kernel
theorem d_La_law_400 : decode m_La_law.2.1 400 = .ok (.iconst 1, 1) := by decide +kernel
theorem d_La_law_401 : decode m_La_law.2.1 401 = .ok (.iadd, 1) := by decide +kernel
theorem d_La_law_402 : decode m_La_law.2.1 402 = .ok (.iaload, 1) := by decide +kernel
theorem d_La_law_403 : decode m_La_law.2.1 403 = .ok (.invokevirtual 62, 3) := by decide +kernel
theorem d_La_law_406 : decode m_La_law.2.1 406 = .ok (.if_icmp .eq 64, 3) := by decide +kernel
theorem d_La_law_409 : decode m_La_law.2.1 409 = .ok (.iconst 0, 1) := by decide +kernel
theorem d_La_law_410 : decode m_La_law.2.1 410 = .ok (.ireturn, 1) := by decide +kernel
theorem d_La_law_411 : decode m_La_law.2.1 411 = .ok (.aload_n 1, 1) := by decide +kernel
theorem d_La_law_412 : decode m_La_law.2.1 412 = .ok (.invokevirtual 63, 3) := by decide +kernel
theorem d_La_law_415 : decode m_La_law.2.1 415 = .ok (.aload_n 2, 1) := by decide +kernel
theorem d_La_law_416 : decode m_La_law.2.1 416 = .ok (.invokevirtual 66, 3) := by decide +kernel
theorem d_La_law_419 : decode m_La_law.2.1 419 = .ok (.if_icmp .eq 51, 3) := by decide +kernel
theorem d_La_law_422 : decode m_La_law.2.1 422 = .ok (.iconst 0, 1) := by decide +kernel
theorem d_La_law_423 : decode m_La_law.2.1 423 = .ok (.ireturn, 1) := by decide +kernel
theorem d_La_law_424 : decode m_La_law.2.1 424 = .ok (.aload_n 1, 1) := by decide +kernel
theorem d_La_law_425 : decode m_La_law.2.1 425 = .ok (.aload_n 0, 1) := by decide +kernel
theorem d_La_law_426 : decode m_La_law.2.1 426 = .ok (.iload_n 3, 1) := by decide +kernel
theorem d_La_law_427 : decode m_La_law.2.1 427 = .ok (.iconst 1, 1) := by decide +kernel
theorem d_La_law_428 : decode m_La_law.2.1 428 = .ok (.iadd, 1) := by decide +kernel
theorem d_La_law_429 : decode m_La_law.2.1 429 = .ok (.iaload, 1) := by decide +kernel
theorem d_La_law_430 : decode m_La_law.2.1 430 = .ok (.invokevirtual 67, 3) := by decide +kernel
theorem d_La_law_433 : decode m_La_law.2.1 433 = .ok (.aload_n 2, 1) := by decide +kernel
theorem d_La_law_434 : decode m_La_law.2.1 434 = .ok (.aload_n 0, 1) := by decide +kernel
theorem d_La_law_435 : decode m_La_law.2.1 435 = .ok (.iload_n 3, 1) := by decide +kernel
theorem d_La_law_436 : decode m_La_law.2.1 436 = .ok (.iconst 1, 1) := by decide +kernel
theorem d_La_law_437 : decode m_La_law.2.1 437 = .ok (.iadd, 1) := by decide +kernel
theorem d_La_law_438 : decode m_La_law.2.1 438 = .ok (.iaload, 1) := by decide +kernel
theorem d_La_law_439 : decode m_La_law.2.1 439 = .ok (.invokevirtual 70, 3) := by decide +kernel
theorem d_La_law_442 : decode m_La_law.2.1 442 = .ok (.if_icmp .eq 28, 3) := by decide +kernel
theorem d_La_law_445 : decode m_La_law.2.1 445 = .ok (.iconst 0, 1) := by decide +kernel
theorem d_La_law_446 : decode m_La_law.2.1 446 = .ok (.ireturn, 1) := by decide +kernel
theorem d_La_law_447 : decode m_La_law.2.1 447 = .ok (.aload_n 1, 1) := by decide +kernel
theorem d_La_law_448 : decode m_La_law.2.1 448 = .ok (.aload_n 0, 1) := by decide +kernel
theorem d_La_law_449 : decode m_La_law.2.1 449 = .ok (.iload_n 3, 1) := by decide +kernel
theorem d_La_law_450 : decode m_La_law.2.1 450 = .ok (.iconst 1, 1) := by decide +kernel
theorem d_La_law_451 : decode m_La_law.2.1 451 = .ok (.iadd, 1) := by decide +kernel
theorem d_La_law_452 : decode m_La_law.2.1 452 = .ok (.iaload, 1) := by decide +kernel
theorem d_La_law_453 : decode m_La_law.2.1 453 = .ok (.invokevirtual 71, 3) := by decide +kernel
theorem d_La_law_456 : decode m_La_law.2.1 456 = .ok (.aload_n 2, 1) := by decide +kernel
theorem d_La_law_457 : decode m_La_law.2.1 457 = .ok (.aload_n 0, 1) := by decide +kernel
theorem d_La_law_458 : decode m_La_law.2.1 458 = .ok (.iload_n 3, 1) := by decide +kernel
theorem d_La_law_459 : decode m_La_law.2.1 459 = .ok (.iconst 1, 1) := by decide +kernel
theorem d_La_law_460 : decode m_La_law.2.1 460 = .ok (.iadd, 1) := by decide +kernel
theorem d_La_law_461 : decode m_La_law.2.1 461 = .ok (.iaload, 1) := by decide +kernel
theorem d_La_law_462 : decode m_La_law.2.1 462 = .ok (.invokevirtual 74, 3) := by decide +kernel
theorem d_La_law_465 : decode m_La_law.2.1 465 = .ok (.if_icmp .eq 5, 3) := by decide +kernel
theorem d_La_law_468 : decode m_La_law.2.1 468 = .ok (.iconst 0, 1) := by decide +kernel
theorem d_La_law_469 : decode m_La_law.2.1 469 = .ok (.ireturn, 1) := by decide +kernel
theorem d_La_law_470 : decode m_La_law.2.1 470 = .ok (.iinc 3 4, 3) := by decide +kernel
theorem d_La_law_473 : decode m_La_law.2.1 473 = .ok (.goto (-455), 3) := by decide +kernel
theorem d_La_law_476 : decode m_La_law.2.1 476 = .ok (.iconst 1, 1) := by decide +kernel
theorem d_La_law_477 : decode m_La_law.2.1 477 = .ok (.ireturn, 1) := by decide +kernel
end
section
section MXQ
variable {G : mx_G} {d : Nat} {M : mx_M} {pc : Nat} {lc : List (Option Value)} {st : List Value} {S S' : List mx_Sh} {D : mx_Mem} {Post : Option Value → mx_Mem → Prop}
theorem EV.ldc {idx : Nat} {v : Int32} (hl : Cond.constant M.1.cls idx v ∈ mx_gw) (hd : decode M.2.1 pc = .ok (.ldc idx, 2)) (k : EV G d M (pc + 2) lc (.int v :: st) S D S' Post) : EV G d M pc lc st S D S' Post :=
  ⟨k.1, fun p e R s m args below meth c H locs cells slots Q ls cx hH hS hlv h0 h1 h2 hr => by
    have K := k.2 p e R s m args below meth c H locs cells slots Q ls cx hH hS hlv h0 h1 h2 hr
    obtain ⟨hx, hb, -, -, hown, hts, -⟩ := cx
    exact lv_ldc hx hb hown (hts _ hl) hd K⟩
theorem EV.tIn {dflt lo hi : Int} {offs : Array Int} {len : Nat} {x : Int32} {off : Int} {tgt : Nat} (hd : decode M.2.1 pc = .ok (.tableswitch dflt lo hi offs, len)) (h1 : ¬ x.toInt < lo) (h2 : ¬ hi < x.toInt) (ho : offs[(x.toInt - lo).toNat]? = some off) (ht : (pc : Int) + off = (tgt : Int)) (k : EV G d M tgt lc st S D S' Post) : EV G d M pc lc (.int x :: st) S D S' Post :=
  EV.go (fun hx hb k => lv_tableIn hx hb hd h1 h2 ho ht k) k
theorem EV.tOut {dflt lo hi : Int} {offs : Array Int} {len : Nat} {x : Int32} {tgt : Nat} (hd : decode M.2.1 pc = .ok (.tableswitch dflt lo hi offs, len)) (h : x.toInt < lo ∨ hi < x.toInt) (ht : (pc : Int) + dflt = (tgt : Int)) (k : EV G d M tgt lc st S D S' Post) : EV G d M pc lc (.int x :: st) S D S' Post :=
  EV.go (fun hx hb k => lv_tableOut hx hb hd h ht k) k
theorem EV.lsw {dflt : Int} {ps : Array (Int × Int)} {len : Nat} {x : Int32} {off : Int} {tgt : Nat} (hd : decode M.2.1 pc = .ok (.lookupswitch dflt ps, len)) (hp : (ps.toList.zip (ps.toList.drop 1)).all (fun (a, next) => a.1 < next.1) = true) (ho : Op.lookupswitch.offset ps.toList dflt x.toInt = off) (ht : (pc : Int) + off = (tgt : Int)) (k : EV G d M tgt lc st S D S' Post) : EV G d M pc lc (.int x :: st) S D S' Post :=
  EV.go (fun hx hb k => lv_lookup hx hb hd hp ho ht k) k
theorem EV.iinc1 {n : Nat} {x : Int32} (hd : decode M.2.1 pc = .ok (.iinc n 1, 3)) (h : lc[n]? = some (some (.int x))) (hn : n < M.2.2.1) (k : EV G d M (pc + 3) (lc.set n (some (.int (x + 1)))) st S D S' Post) : EV G d M pc lc st S D S' Post := EV.iinc hd h (v := x + 1) rfl hn k
theorem EV.iincN {n i : Nat} (hd : decode M.2.1 pc = .ok (.iinc n 1, 3)) (h : lc[n]? = some (some (.int (nI i)))) (hn : n < M.2.2.1) (k : EV G d M (pc + 3) (lc.set n (some (.int (nI (i + 1))))) st S D S' Post) : EV G d M pc lc st S D S' Post := EV.iinc hd h (v := nI (i + 1)) (nI_1 i) hn k
theorem EV.iincM {n i : Nat} (hd : decode M.2.1 pc = .ok (.iinc n (-1), 3)) (h : lc[n]? = some (some (.int (nI (i + 1))))) (hn : n < M.2.2.1) (k : EV G d M (pc + 3) (lc.set n (some (.int (nI i)))) st S D S' Post) : EV G d M pc lc st S D S' Post := EV.iinc hd h (v := nI i) (pk_m1 i) hn k
theorem EV.ialdN {k t n j : Nat} {i : Int32} (hd : decode M.2.1 pc = .ok (.iaload, 1)) (hk : S[k]? = some (.inr (.inl (t, n)))) (ht : mx_ty[t]? = some .int) (hi : i = nI j) (hj : j < n) (hn : n < 2 ^ 31) (kk : EV G d M (pc + 1) lc (.int (D k j) :: st) S D S' Post) : EV G d M pc lc (.int i :: .ref k :: st) S D S' Post := by
  subst hi
  refine EV.iald hd hk ht (vp_in_nI hj hn) ?_
  rw [nI_clamp (by omega)]
  exact kk
theorem EV.caldN {k t n j : Nat} {i : Int32} (hd : decode M.2.1 pc = .ok (.caload, 1)) (hk : S[k]? = some (.inr (.inl (t, n)))) (ht : mx_ty[t]? = some .char) (hi : i = nI j) (hj : j < n) (hn : n < 2 ^ 31) (kk : EV G d M (pc + 1) lc (.int (D k j) :: st) S D S' Post) : EV G d M pc lc (.int i :: .ref k :: st) S D S' Post := by
  subst hi
  refine EV.cald hd hk ht (vp_in_nI hj hn) ?_
  rw [nI_clamp (by omega)]
  exact kk
theorem EV.iastN {k t n j : Nat} {i x : Int32} (hd : decode M.2.1 pc = .ok (.iastore, 1)) (hk : S[k]? = some (.inr (.inl (t, n)))) (ht : mx_ty[t]? = some .int) (hi : i = nI j) (hj : j < n) (hn : n < 2 ^ 31) (kk : EV G d M (pc + 1) lc st S (mx_w D k j x) S' Post) : EV G d M pc lc (.int x :: .int i :: .ref k :: st) S D S' Post := by
  subst hi
  refine EV.iast hd hk ht (vp_in_nI hj hn) ?_
  rw [nI_clamp (by omega)]
  exact kk
theorem EV.castN {k t n j : Nat} {i x : Int32} (hd : decode M.2.1 pc = .ok (.castore, 1)) (hk : S[k]? = some (.inr (.inl (t, n)))) (ht : mx_ty[t]? = some .char) (hi : i = nI j) (hj : j < n) (hn : n < 2 ^ 31) (hc : ∃ q : Nat, q < 65536 ∧ x = nI q) (kk : EV G d M (pc + 1) lc st S (mx_w D k j x) S' Post) : EV G d M pc lc (.int x :: .int i :: .ref k :: st) S D S' Post := by
  subst hi
  obtain ⟨q, hq, rfl⟩ := hc
  refine EV.cast hd hk ht (vp_in_nI hj hn) (pk_charN hq).1 ?_
  rw [nI_clamp (by omega)]
  exact kk
theorem EV.aaldN {k t r j : Nat} {i : Int32} {ty : FieldType} {rs : List (Option Nat)} (hd : decode M.2.1 pc = .ok (.aaload, 1)) (hk : S[k]? = some (.inr (.inr (t, rs)))) (ht : mx_ty[t]? = some ty) (hty : ty.isReference = true) (hi : i = nI j) (hj : j < 2 ^ 31) (hr : rs[j]? = some (some r)) (kk : EV G d M (pc + 1) lc (.ref r :: st) S D S' Post) : EV G d M pc lc (.int i :: .ref k :: st) S D S' Post := by
  subst hi
  refine EV.aald hd hk ht hty (nI_pos hj) ?_ kk
  rw [nI_clamp hj]
  exact hr
theorem EV.icmp_eqN {x y : Int32} {a b : Nat} {off : Int} {tgt : Nat} (hd : decode M.2.1 pc = .ok (.if_icmp .eq off, 3)) (ht : (pc : Int) + off = (tgt : Int)) (hx : x = nI a) (hy : y = nI b) (ha : a < 2 ^ 31) (hb : b < 2 ^ 31) (kt : a = b → EV G d M tgt lc st S D S' Post) (kf : ¬ a = b → EV G d M (pc + 3) lc st S D S' Post) : EV G d M pc lc (.int y :: .int x :: st) S D S' Post := by
  subst hx
  subst hy
  exact EV.icmp_eq hd ht (fun h => kt ((nI_eq ha hb).mp h)) (fun h => kf (fun e => h ((nI_eq ha hb).mpr e)))
theorem EV.icmp_neN {x y : Int32} {a b : Nat} {off : Int} {tgt : Nat} (hd : decode M.2.1 pc = .ok (.if_icmp .ne off, 3)) (ht : (pc : Int) + off = (tgt : Int)) (hx : x = nI a) (hy : y = nI b) (ha : a < 2 ^ 31) (hb : b < 2 ^ 31) (kt : ¬ a = b → EV G d M tgt lc st S D S' Post) (kf : a = b → EV G d M (pc + 3) lc st S D S' Post) : EV G d M pc lc (.int y :: .int x :: st) S D S' Post := by
  subst hx
  subst hy
  exact EV.icmp_ne hd ht (fun h => kt (fun e => h ((nI_eq ha hb).mpr e))) (fun h => kf ((nI_eq ha hb).mp h))
theorem EV.icmp_ltN {x y : Int32} {a b : Nat} {off : Int} {tgt : Nat} (hd : decode M.2.1 pc = .ok (.if_icmp .lt off, 3)) (ht : (pc : Int) + off = (tgt : Int)) (hx : x = nI a) (hy : y = nI b) (ha : a < 2 ^ 31) (hb : b < 2 ^ 31) (kt : a < b → EV G d M tgt lc st S D S' Post) (kf : b ≤ a → EV G d M (pc + 3) lc st S D S' Post) : EV G d M pc lc (.int y :: .int x :: st) S D S' Post := by
  subst hx
  subst hy
  exact EV.icmp_lt hd ht (fun h => kt ((nI_ltI ha hb).mp h)) (fun h => kf (Nat.not_lt.mp (fun e => h ((nI_ltI ha hb).mpr e))))
theorem EV.icmp_geN {x y : Int32} {a b : Nat} {off : Int} {tgt : Nat} (hd : decode M.2.1 pc = .ok (.if_icmp .ge off, 3)) (ht : (pc : Int) + off = (tgt : Int)) (hx : x = nI a) (hy : y = nI b) (ha : a < 2 ^ 31) (hb : b < 2 ^ 31) (kt : b ≤ a → EV G d M tgt lc st S D S' Post) (kf : a < b → EV G d M (pc + 3) lc st S D S' Post) : EV G d M pc lc (.int y :: .int x :: st) S D S' Post := by
  subst hx
  subst hy
  exact EV.icmp_ge hd ht (fun h => kt ((nI_leI hb ha).mp h)) (fun h => kf (Nat.not_le.mp (fun e => h ((nI_leI hb ha).mpr e))))
theorem EV.icmp_gtN {x y : Int32} {a b : Nat} {off : Int} {tgt : Nat} (hd : decode M.2.1 pc = .ok (.if_icmp .gt off, 3)) (ht : (pc : Int) + off = (tgt : Int)) (hx : x = nI a) (hy : y = nI b) (ha : a < 2 ^ 31) (hb : b < 2 ^ 31) (kt : b < a → EV G d M tgt lc st S D S' Post) (kf : a ≤ b → EV G d M (pc + 3) lc st S D S' Post) : EV G d M pc lc (.int y :: .int x :: st) S D S' Post := by
  subst hx
  subst hy
  exact EV.icmp_gt hd ht (fun h => kt ((nI_ltI hb ha).mp h)) (fun h => kf (Nat.not_lt.mp (fun e => h ((nI_ltI hb ha).mpr e))))
theorem EV.icmp_leN {x y : Int32} {a b : Nat} {off : Int} {tgt : Nat} (hd : decode M.2.1 pc = .ok (.if_icmp .le off, 3)) (ht : (pc : Int) + off = (tgt : Int)) (hx : x = nI a) (hy : y = nI b) (ha : a < 2 ^ 31) (hb : b < 2 ^ 31) (kt : a ≤ b → EV G d M tgt lc st S D S' Post) (kf : b < a → EV G d M (pc + 3) lc st S D S' Post) : EV G d M pc lc (.int y :: .int x :: st) S D S' Post := by
  subst hx
  subst hy
  exact EV.icmp_le hd ht (fun h => kt ((nI_leI ha hb).mp h)) (fun h => kf (Nat.not_le.mp (fun e => h ((nI_leI ha hb).mpr e))))
theorem EV.if_eqN {x : Int32} {a : Nat} {off : Int} {tgt : Nat} (hd : decode M.2.1 pc = .ok (.ifCond .eq off, 3)) (ht : (pc : Int) + off = (tgt : Int)) (hx : x = nI a) (ha : a < 2 ^ 31) (kt : a = 0 → EV G d M tgt lc st S D S' Post) (kf : ¬ a = 0 → EV G d M (pc + 3) lc st S D S' Post) : EV G d M pc lc (.int x :: st) S D S' Post := by
  subst hx
  exact EV.if_eq hd ht (fun h => kt ((nI_eq ha (b := 0) (by decide)).mp (h.trans nI_0.symm))) (fun h => kf (fun e => h (((nI_eq ha (b := 0) (by decide)).mpr e).trans nI_0)))
theorem EV.if_neN {x : Int32} {a : Nat} {off : Int} {tgt : Nat} (hd : decode M.2.1 pc = .ok (.ifCond .ne off, 3)) (ht : (pc : Int) + off = (tgt : Int)) (hx : x = nI a) (ha : a < 2 ^ 31) (kt : ¬ a = 0 → EV G d M tgt lc st S D S' Post) (kf : a = 0 → EV G d M (pc + 3) lc st S D S' Post) : EV G d M pc lc (.int x :: st) S D S' Post := by
  subst hx
  exact EV.if_ne hd ht (fun h => kt (fun e => h (((nI_eq ha (b := 0) (by decide)).mpr e).trans nI_0))) (fun h => kf ((nI_eq ha (b := 0) (by decide)).mp (h.trans nI_0.symm)))
theorem EV.if_gtN {x : Int32} {a : Nat} {off : Int} {tgt : Nat} (hd : decode M.2.1 pc = .ok (.ifCond .gt off, 3)) (ht : (pc : Int) + off = (tgt : Int)) (hx : x = nI a) (ha : a < 2 ^ 31) (kt : 0 < a → EV G d M tgt lc st S D S' Post) (kf : a = 0 → EV G d M (pc + 3) lc st S D S' Post) : EV G d M pc lc (.int x :: st) S D S' Post := by
  subst hx
  exact EV.if_gt hd ht (fun h => kt ((nI_ltI (a := 0) (by decide) ha).mp (by rw [nI_0]; exact h))) (fun h => kf (Nat.eq_zero_of_not_pos (fun e => h (by rw [← nI_0]; exact (nI_ltI (a := 0) (by decide) ha).mpr e))))
theorem EV.if_leN {x : Int32} {a : Nat} {off : Int} {tgt : Nat} (hd : decode M.2.1 pc = .ok (.ifCond .le off, 3)) (ht : (pc : Int) + off = (tgt : Int)) (hx : x = nI a) (ha : a < 2 ^ 31) (kt : a = 0 → EV G d M tgt lc st S D S' Post) (kf : 0 < a → EV G d M (pc + 3) lc st S D S' Post) : EV G d M pc lc (.int x :: st) S D S' Post := by
  subst hx
  exact EV.if_le hd ht (fun h => kt (Nat.le_zero.mp ((nI_leI ha (b := 0) (by decide)).mp (by rw [nI_0]; exact h)))) (fun h => kf (Nat.pos_of_ne_zero (fun e => h (by rw [e, nI_0]; exact Int32.le_refl 0))))
theorem EV.if_ltN {x : Int32} {a : Nat} {off : Int} (hd : decode M.2.1 pc = .ok (.ifCond .lt off, 3)) (hx : x = nI a) (ha : a < 2 ^ 31) {tgt : Nat} (ht : (pc : Int) + off = (tgt : Int)) (kf : EV G d M (pc + 3) lc st S D S' Post) : EV G d M pc lc (.int x :: st) S D S' Post := by
  subst hx
  exact EV.if_lt hd ht (fun h => absurd h (nI_pos ha)) (fun _ => kf)
theorem EV.if_geN {x : Int32} {a : Nat} {off : Int} {tgt : Nat} (hd : decode M.2.1 pc = .ok (.ifCond .ge off, 3)) (hx : x = nI a) (ha : a < 2 ^ 31) (ht : (pc : Int) + off = (tgt : Int)) (kt : EV G d M tgt lc st S D S' Post) : EV G d M pc lc (.int x :: st) S D S' Post := by
  subst hx
  exact EV.if_ge hd ht (fun _ => kt) (fun h => absurd (nI_pos' ha) h)
end MXQ
end
section
/-! PURE: strings, marks, arranging. No machine here. -/
def ps_letter (c : Nat) : Bool := (decide (97 ≤ c) && decide (c ≤ 104)) || (decide (65 ≤ c) && decide (c ≤ 72))
def ps_mark (c : Nat) : Bool := decide (49 ≤ c) && decide (c ≤ 52)
def ps_var (c : Nat) : Bool := decide (c = 32) || decide (c = 45)
def ps_cls (c : Nat) : Nat := if c ≤ 50 then 1 else 2
def ps_enc (b : Nat) : List Nat → Nat
  | [] => 0
  | c :: r => c + b * ps_enc b r
theorem ps_enc_inj {b : Nat} : ∀ {s t : List Nat}, (∀ c ∈ s, 0 < c ∧ c < b) → (∀ c ∈ t, 0 < c ∧ c < b) → ps_enc b s = ps_enc b t → s = t := by
  intro s
  induction s with
  | nil =>
    intro t _ ht h
    cases t with
    | nil => rfl
    | cons c r =>
      have := ht c List.mem_cons_self
      simp only [ps_enc] at h
      omega
  | cons a u ih =>
    intro t hs ht h
    cases t with
    | nil =>
      have := hs a List.mem_cons_self
      simp only [ps_enc] at h
      omega
    | cons c r =>
      have h1 := hs a List.mem_cons_self
      have h2 := ht c List.mem_cons_self
      simp only [ps_enc] at h
      have e1 : (a + b * ps_enc b u) % b = a := by rw [Nat.add_mul_mod_self_left, Nat.mod_eq_of_lt h1.2]
      have e2 : (c + b * ps_enc b r) % b = c := by rw [Nat.add_mul_mod_self_left, Nat.mod_eq_of_lt h2.2]
      have e3 : a = c := by rw [← e1, h, e2]
      subst e3
      have e4 : b * ps_enc b u = b * ps_enc b r := by omega
      have e5 : ps_enc b u = ps_enc b r := Nat.eq_of_mul_eq_mul_left (by omega) e4
      rw [ih (fun x hx => hs x (List.mem_cons_of_mem _ hx)) (fun x hx => ht x (List.mem_cons_of_mem _ hx)) e5]
theorem ps_enc_snoc (b : Nat) (s : List Nat) (c : Nat) : ps_enc b (s ++ [c]) = ps_enc b s + c * b ^ s.length := by
  induction s with
  | nil => simp [ps_enc]
  | cons a u ih =>
    simp only [List.cons_append, ps_enc, ih, List.length_cons, Nat.pow_succ, Nat.mul_add]
    rw [show c * (b ^ u.length * b) = b * (c * b ^ u.length) by rw [Nat.mul_comm (b ^ u.length) b, Nat.mul_left_comm]]
    omega
theorem ps_enc_lt {b : Nat} : ∀ {s : List Nat}, (∀ c ∈ s, c < b) → ps_enc b s < b ^ s.length := by
  intro s
  induction s with
  | nil => intro _; simp [ps_enc]
  | cons a u ih =>
    intro h
    have h1 := h a List.mem_cons_self
    have h2 := ih (fun x hx => h x (List.mem_cons_of_mem _ hx))
    simp only [ps_enc, List.length_cons, Nat.pow_succ]
    have h3 : b * (ps_enc b u + 1) ≤ b * b ^ u.length := Nat.mul_le_mul_left b h2
    rw [Nat.mul_add] at h3
    rw [Nat.mul_comm (b ^ u.length) b]
    omega
/-! arranging: a mark of class 1 goes ahead of marks of class 2 -/
def ps_must (c b : Nat) : Bool := ps_mark c && ps_mark b && decide (ps_cls c < ps_cls b)
def ps_ins (c : Nat) : List Nat → List Nat
  | [] => [c]
  | b :: r => if ps_must c b then b :: ps_ins c r else c :: b :: r
def ps_fold (acc : List Nat) (l : List Nat) : List Nat := l.foldl (fun acc c => ps_ins c acc) acc
def ps_arr (l : List Nat) : List Nat := (ps_fold [] l).reverse
def ps_pass : List Nat → List Nat
  | [] => []
  | [a] => [a]
  | a :: b :: r => if ps_must b a then b :: ps_pass (a :: r) else a :: ps_pass (b :: r)
termination_by l => l.length
def ps_it : Nat → List Nat → List Nat
  | 0, l => l
  | n + 1, l => ps_it n (ps_pass l)
theorem ps_cls_or (c : Nat) : ps_cls c = 1 ∨ ps_cls c = 2 := by unfold ps_cls; split <;> simp
theorem ps_must_c {a b : Nat} (h : ps_must b a = true) : ps_mark b = true ∧ ps_mark a = true ∧ ps_cls b = 1 ∧ ps_cls a = 2 := by
  unfold ps_must at h
  simp only [Bool.and_eq_true, decide_eq_true_eq] at h
  have h1 := ps_cls_or a
  have h2 := ps_cls_or b
  refine ⟨h.1.1, h.1.2, ?_, ?_⟩ <;> omega
theorem ps_ins2 {a : Nat} (h : ps_cls a = 2) (acc : List Nat) : ps_ins a acc = a :: acc := by
  cases acc with
  | nil => rfl
  | cons b r =>
    have : ps_must a b = false := by
      have h1 := ps_cls_or b
      unfold ps_must
      simp only [Bool.and_eq_false_iff, decide_eq_false_iff_not]
      right
      omega
    simp [ps_ins, this]
theorem ps_fold_pass (l : List Nat) : ∀ acc, ps_fold acc (ps_pass l) = ps_fold acc l := by
  induction l using ps_pass.induct with
  | case1 => intro acc; simp [ps_pass]
  | case2 a => intro acc; simp [ps_pass]
  | case3 a b r h ih =>
    intro acc
    rw [ps_pass, if_pos h]
    have hc := ps_must_c h
    show ps_fold (ps_ins b acc) (ps_pass (a :: r)) = ps_fold (ps_ins b (ps_ins a acc)) r
    rw [ih]
    show ps_fold (ps_ins a (ps_ins b acc)) r = _
    rw [ps_ins2 hc.2.2.2, ps_ins2 hc.2.2.2]
    simp [ps_ins, h]
  | case4 a b r h ih =>
    intro acc
    rw [ps_pass, if_neg h]
    show ps_fold (ps_ins a acc) (ps_pass (b :: r)) = _
    rw [ih]
    rfl
def ps_h : Nat → List Nat → Nat
  | _, [] => 0
  | c, x :: r => if ps_mark x then (if ps_cls x = 1 then max c (ps_h c r) else ps_h (c + 1) r) else ps_h 0 r
theorem ps_pass_ab (l : List Nat) : ps_h 0 (ps_pass l) ≤ ps_h 0 l - 1 ∧ ∀ a r, l = a :: r → ps_mark a = true → ps_cls a = 2 → ∀ c, ps_h c (ps_pass l) ≤ ps_h (c + 1) r - 1 := by
  induction l using ps_pass.induct with
  | case1 => exact ⟨by simp [ps_pass, ps_h], fun a r h => by cases h⟩
  | case2 a =>
    refine ⟨?_, fun a' r h hm hc c => ?_⟩
    · simp only [ps_pass, ps_h]
      split
      · split <;> simp
      · simp
    · cases h
      simp [ps_pass, ps_h, hm, hc]
  | case3 a b r h ih =>
    have hc := ps_must_c h
    have hB : ∀ a' r', a :: b :: r = a' :: r' → ps_mark a' = true → ps_cls a' = 2 → ∀ c, ps_h c (ps_pass (a :: b :: r)) ≤ ps_h (c + 1) r' - 1 := by
      intro a' r' e _ _ c
      cases e
      rw [ps_pass, if_pos h]
      have h2 := ih.2 a r rfl hc.2.1 hc.2.2.2 c
      simp only [ps_h, hc.1, hc.2.2.1, if_true]
      omega
    refine ⟨?_, hB⟩
    have h3 := hB a (b :: r) rfl hc.2.1 hc.2.2.2 0
    have h4 : ps_h 0 (a :: b :: r) = ps_h 1 (b :: r) := by rw [ps_h]; simp [hc.2.1, hc.2.2.2]
    rw [h4]
    exact h3
  | case4 a b r h ih =>
    have e : ps_pass (a :: b :: r) = a :: ps_pass (b :: r) := by rw [ps_pass, if_neg h]
    have hB : ∀ a' r', a :: b :: r = a' :: r' → ps_mark a' = true → ps_cls a' = 2 → ∀ c, ps_h c (ps_pass (a :: b :: r)) ≤ ps_h (c + 1) r' - 1 := by
      intro a' r' e' hm hc c
      cases e'
      rw [e]
      have e2 : ps_h c (a :: ps_pass (b :: r)) = ps_h (c + 1) (ps_pass (b :: r)) := by rw [ps_h]; simp [hm, hc]
      rw [e2]
      by_cases hbm : ps_mark b = true
      · have hbc : ps_cls b = 2 := by
          rcases ps_cls_or b with h1 | h1
          · exfalso
            apply h
            unfold ps_must
            simp [hbm, hm, h1, hc]
          · exact h1
        have h2 := ih.2 b r rfl hbm hbc (c + 1)
        have e3 : ps_h (c + 1) (b :: r) = ps_h (c + 1 + 1) r := by rw [ps_h]; simp [hbm, hbc]
        rw [e3]
        exact h2
      · have h2 := ih.1
        have e3 : ∀ n, ps_h n (b :: r) = ps_h 0 r := fun n => by rw [ps_h]; simp [hbm]
        have e4 : ∀ n, ps_h n (ps_pass (b :: r)) = ps_h 0 (ps_pass (b :: r)) := by
          intro n
          cases r with
          | nil => simp [ps_pass, ps_h, hbm]
          | cons d r =>
            have hmb : ¬ ps_must d b = true := fun h9 => hbm (ps_must_c h9).2.1
            rw [ps_pass, if_neg hmb, ps_h, ps_h]
            simp [hbm]
        rw [e3, e4]
        rw [e3] at h2
        exact h2
    refine ⟨?_, hB⟩
    by_cases ham : ps_mark a = true
    · rcases ps_cls_or a with h1 | h1
      · rw [e]
        have h2 := ih.1
        have e2 : ∀ l, ps_h 0 (a :: l) = ps_h 0 l := fun l => by rw [ps_h]; simp [ham, h1]
        rw [e2, e2]
        exact h2
      · have h3 := hB a (b :: r) rfl ham h1 0
        have h4 : ps_h 0 (a :: b :: r) = ps_h 1 (b :: r) := by rw [ps_h]; simp [ham, h1]
        rw [h4]
        exact h3
    · rw [e]
      have h2 := ih.1
      have e2 : ∀ l, ps_h 0 (a :: l) = ps_h 0 l := fun l => by rw [ps_h]; simp [ham]
      rw [e2, e2]
      exact h2
theorem ps_h_le : ∀ (l : List Nat) (c : Nat), ps_h c l ≤ c + l.length := by
  intro l
  induction l with
  | nil => intro c; simp [ps_h]
  | cons x r ih =>
    intro c
    have h1 := ih c
    have h2 := ih (c + 1)
    have h3 := ih 0
    simp only [ps_h, List.length_cons]
    split
    · split <;> omega
    · omega
theorem ps_it_h : ∀ (n : Nat) (l : List Nat), ps_h 0 l ≤ n → ps_h 0 (ps_it n l) = 0 := by
  intro n
  induction n with
  | zero => intro l h; simp only [ps_it]; omega
  | succ n ih =>
    intro l h
    rw [ps_it]
    exact ih _ (by have := (ps_pass_ab l).1; omega)
theorem ps_it_fold : ∀ (n : Nat) (l : List Nat), ps_fold [] (ps_it n l) = ps_fold [] l := by
  intro n
  induction n with
  | zero => intro l; rfl
  | succ n ih => intro l; rw [ps_it, ih, ps_fold_pass]
/-- what is in order stays as it is -/
theorem ps_fold_ok : ∀ (l acc : List Nat) (c : Nat), ps_h c l = 0 → (∀ b r, acc = b :: r → ps_mark b = true → ps_cls b = 2 → 0 < c) → ps_fold acc l = l.reverse ++ acc := by
  intro l
  induction l with
  | nil => intro acc c _ _; rfl
  | cons x r ih =>
    intro acc c h hacc
    have hx : ps_ins x acc = x :: acc := by
      cases acc with
      | nil => rfl
      | cons b t =>
        by_cases hm : ps_must x b = true
        · exfalso
          have hc := ps_must_c hm
          have h0 := hacc b t rfl hc.2.1 hc.2.2.2
          rw [ps_h] at h
          simp only [hc.1, hc.2.2.1, if_true] at h
          omega
        · simp [ps_ins, hm]
    show ps_fold (ps_ins x acc) r = _
    rw [hx, List.reverse_cons, List.append_assoc]
    rw [ps_h] at h
    by_cases hm : ps_mark x = true
    · rw [if_pos hm] at h
      by_cases hc : ps_cls x = 1
      · rw [if_pos hc] at h
        exact ih (x :: acc) c (by omega) (fun b t e hb hb2 => by cases e; omega)
      · rw [if_neg hc] at h
        exact ih (x :: acc) (c + 1) h (fun b t e hb hb2 => by omega)
    · rw [if_neg hm] at h
      exact ih (x :: acc) 0 h (fun b t e hb hb2 => by cases e; exact absurd hb hm)
theorem ps_it_arr (l : List Nat) : ps_it l.length l = ps_arr l := by
  have h1 : ps_h 0 (ps_it l.length l) = 0 := ps_it_h _ _ (by have := ps_h_le l 0; omega)
  have h2 := ps_fold_ok (ps_it l.length l) [] 0 h1 (fun b r e => by cases e)
  rw [ps_it_fold] at h2
  unfold ps_arr
  rw [h2]
  simp
end
section
theorem mx_oi : Cond.instanceMethod Lib.objectInit ∈ mx_gw ∧ Cond.code Lib.objectInit ⟨#[0xb1]⟩ 1 none ∈ mx_gw := by decide +kernel
theorem mx_mm : Cond.static Lib.Math.min.name ∈ mx_gw ∧ Cond.initialized "java/lang/Math" ∈ mx_gw ∧ Cond.code Lib.Math.min.name Lib.Math.min.code 2 (some .int) ∈ mx_gw := by decide +kernel
theorem mx_ac : Cond.native arraycopyName ∈ mx_gw ∧ Cond.static arraycopyName ∈ mx_gw ∧ Cond.initialized "java/lang/System" ∈ mx_gw := by decide +kernel
/-- a truth value as a number -/
def bI (b : Bool) : Int32 := nI (if b then 1 else 0)
theorem bI_t {b : Bool} (h : b = true) : bI b = nI 1 := by rw [h]; rfl
theorem bI_f {b : Bool} (h : b = false) : bI b = nI 0 := by rw [h]; rfl
theorem bI_nr (b : Bool) : narrow .boolean (.int (bI b)) = .int (bI b) := by cases b <;> rfl
/-- the answer is x, the memory as it was -/
abbrev RI (x : Int32) (D : mx_Mem) : Option Value → mx_Mem → Prop := fun rv D' => rv = some (.int x) ∧ D' = D
theorem nI_or {a c k : Nat} (ha : a < 2 ^ k) (hc : a + c * 2 ^ k < 2 ^ 31) : nI a ||| nI (c * 2 ^ k) = nI (a + c * 2 ^ k) := by
  have h1 : a ||| c * 2 ^ k = a + c * 2 ^ k := by
    have := Nat.two_pow_add_eq_or_of_lt ha c
    rw [Nat.mul_comm (2 ^ k) c] at this
    rw [Nat.or_comm, ← this, Nat.add_comm]
  apply Int32.toBitVec_inj.mp
  rw [Int32.toBitVec_or]
  apply BitVec.eq_of_toNat_eq
  rw [BitVec.toNat_or, pk_tn (by omega), pk_tn (by omega), pk_tn (by omega), h1]
set_option maxHeartbeats 4000000 in
set_option maxRecDepth 100000 in
theorem sp_To_isLetter {G : mx_G} {d : Nat} {S : List mx_Sh} {D : mx_Mem} {c : Nat} (hc : c < 2 ^ 31) : EV G d m_To_isLetter 0 (mx_lc0 m_To_isLetter [.int (nI c)]) [] S D S (RI (bI (ps_letter c)) D) := by
  show EV _ _ _ _ [some (.int (nI c))] [] _ _ _ _
  refine EV.iload_n d_To_isLetter_0 rfl ?_
  refine EV.bipush (v := nI 97) d_To_isLetter_1 (by decide) ?_
  refine EV.icmp_ltN (tgt := 12) d_To_isLetter_3 (by decide) rfl rfl (by omega) (by omega) (fun h3 => ?_) (fun h3 => ?_)
  · refine EV.iload_n d_To_isLetter_12 rfl ?_
    refine EV.bipush (v := nI 65) d_To_isLetter_13 (by decide) ?_
    refine EV.icmp_ltN (tgt := 28) d_To_isLetter_15 (by decide) rfl rfl (by omega) (by omega) (fun h15 => ?_) (fun h15 => ?_)
    · refine EV.iconst (v := nI 0) d_To_isLetter_28 (by decide) ?_
      exact EV.ireturn d_To_isLetter_29 ⟨_, rfl, rfl⟩ ⟨by first | (exfalso; omega) | rw [bI_t (by simp [ps_letter]; omega)] | rw [bI_f (by simp [ps_letter]; omega)], rfl⟩
    · refine EV.iload_n d_To_isLetter_18 rfl ?_
      refine EV.bipush (v := nI 72) d_To_isLetter_19 (by decide) ?_
      refine EV.icmp_gtN (tgt := 28) d_To_isLetter_21 (by decide) rfl rfl (by omega) (by omega) (fun h21 => ?_) (fun h21 => ?_)
      · refine EV.iconst (v := nI 0) d_To_isLetter_28 (by decide) ?_
        exact EV.ireturn d_To_isLetter_29 ⟨_, rfl, rfl⟩ ⟨by first | (exfalso; omega) | rw [bI_t (by simp [ps_letter]; omega)] | rw [bI_f (by simp [ps_letter]; omega)], rfl⟩
      · refine EV.iconst (v := nI 1) d_To_isLetter_24 (by decide) ?_
        refine EV.goto (tgt := 29) d_To_isLetter_25 (by decide) ?_
        exact EV.ireturn d_To_isLetter_29 ⟨_, rfl, rfl⟩ ⟨by first | (exfalso; omega) | rw [bI_t (by simp [ps_letter]; omega)] | rw [bI_f (by simp [ps_letter]; omega)], rfl⟩
  · refine EV.iload_n d_To_isLetter_6 rfl ?_
    refine EV.bipush (v := nI 104) d_To_isLetter_7 (by decide) ?_
    refine EV.icmp_leN (tgt := 24) d_To_isLetter_9 (by decide) rfl rfl (by omega) (by omega) (fun h9 => ?_) (fun h9 => ?_)
    · refine EV.iconst (v := nI 1) d_To_isLetter_24 (by decide) ?_
      refine EV.goto (tgt := 29) d_To_isLetter_25 (by decide) ?_
      exact EV.ireturn d_To_isLetter_29 ⟨_, rfl, rfl⟩ ⟨by first | (exfalso; omega) | rw [bI_t (by simp [ps_letter]; omega)] | rw [bI_f (by simp [ps_letter]; omega)], rfl⟩
    · refine EV.iload_n d_To_isLetter_12 rfl ?_
      refine EV.bipush (v := nI 65) d_To_isLetter_13 (by decide) ?_
      refine EV.icmp_ltN (tgt := 28) d_To_isLetter_15 (by decide) rfl rfl (by omega) (by omega) (fun h15 => ?_) (fun h15 => ?_)
      · refine EV.iconst (v := nI 0) d_To_isLetter_28 (by decide) ?_
        exact EV.ireturn d_To_isLetter_29 ⟨_, rfl, rfl⟩ ⟨by first | (exfalso; omega) | rw [bI_t (by simp [ps_letter]; omega)] | rw [bI_f (by simp [ps_letter]; omega)], rfl⟩
      · refine EV.iload_n d_To_isLetter_18 rfl ?_
        refine EV.bipush (v := nI 72) d_To_isLetter_19 (by decide) ?_
        refine EV.icmp_gtN (tgt := 28) d_To_isLetter_21 (by decide) rfl rfl (by omega) (by omega) (fun h21 => ?_) (fun h21 => ?_)
        · refine EV.iconst (v := nI 0) d_To_isLetter_28 (by decide) ?_
          exact EV.ireturn d_To_isLetter_29 ⟨_, rfl, rfl⟩ ⟨by first | (exfalso; omega) | rw [bI_t (by simp [ps_letter]; omega)] | rw [bI_f (by simp [ps_letter]; omega)], rfl⟩
        · refine EV.iconst (v := nI 1) d_To_isLetter_24 (by decide) ?_
          refine EV.goto (tgt := 29) d_To_isLetter_25 (by decide) ?_
          exact EV.ireturn d_To_isLetter_29 ⟨_, rfl, rfl⟩ ⟨by first | (exfalso; omega) | rw [bI_t (by simp [ps_letter]; omega)] | rw [bI_f (by simp [ps_letter]; omega)], rfl⟩
set_option maxHeartbeats 4000000 in
set_option maxRecDepth 100000 in
theorem sp_To_isVariable {G : mx_G} {d : Nat} {S : List mx_Sh} {D : mx_Mem} {c : Nat} (hc : c < 2 ^ 31) : EV G d m_To_isVariable 0 (mx_lc0 m_To_isVariable [.int (nI c)]) [] S D S (RI (bI (ps_var c)) D) := by
  show EV _ _ _ _ [some (.int (nI c))] [] _ _ _ _
  refine EV.iload_n d_To_isVariable_0 rfl ?_
  refine EV.bipush (v := nI 32) d_To_isVariable_1 (by decide) ?_
  refine EV.icmp_eqN (tgt := 12) d_To_isVariable_3 (by decide) rfl rfl (by omega) (by omega) (fun h3 => ?_) (fun h3 => ?_)
  · refine EV.iconst (v := nI 1) d_To_isVariable_12 (by decide) ?_
    refine EV.goto (tgt := 17) d_To_isVariable_13 (by decide) ?_
    exact EV.ireturn d_To_isVariable_17 ⟨_, rfl, rfl⟩ ⟨by first | (exfalso; omega) | rw [bI_t (by simp [ps_var]; omega)] | rw [bI_f (by simp [ps_var]; omega)], rfl⟩
  · refine EV.iload_n d_To_isVariable_6 rfl ?_
    refine EV.bipush (v := nI 45) d_To_isVariable_7 (by decide) ?_
    refine EV.icmp_neN (tgt := 16) d_To_isVariable_9 (by decide) rfl rfl (by omega) (by omega) (fun h9 => ?_) (fun h9 => ?_)
    · refine EV.iconst (v := nI 0) d_To_isVariable_16 (by decide) ?_
      exact EV.ireturn d_To_isVariable_17 ⟨_, rfl, rfl⟩ ⟨by first | (exfalso; omega) | rw [bI_t (by simp [ps_var]; omega)] | rw [bI_f (by simp [ps_var]; omega)], rfl⟩
    · refine EV.iconst (v := nI 1) d_To_isVariable_12 (by decide) ?_
      refine EV.goto (tgt := 17) d_To_isVariable_13 (by decide) ?_
      exact EV.ireturn d_To_isVariable_17 ⟨_, rfl, rfl⟩ ⟨by first | (exfalso; omega) | rw [bI_t (by simp [ps_var]; omega)] | rw [bI_f (by simp [ps_var]; omega)], rfl⟩
set_option maxHeartbeats 4000000 in
set_option maxRecDepth 100000 in
theorem sp_To_isMark {G : mx_G} {d : Nat} {S : List mx_Sh} {D : mx_Mem} {c : Nat} (hc : c < 2 ^ 31) : EV G d m_To_isMark 0 (mx_lc0 m_To_isMark [.int (nI c)]) [] S D S (RI (bI (ps_mark c)) D) := by
  show EV _ _ _ _ [some (.int (nI c))] [] _ _ _ _
  refine EV.iload_n d_To_isMark_0 rfl ?_
  refine EV.bipush (v := nI 49) d_To_isMark_1 (by decide) ?_
  refine EV.icmp_ltN (tgt := 16) d_To_isMark_3 (by decide) rfl rfl (by omega) (by omega) (fun h3 => ?_) (fun h3 => ?_)
  · refine EV.iconst (v := nI 0) d_To_isMark_16 (by decide) ?_
    exact EV.ireturn d_To_isMark_17 ⟨_, rfl, rfl⟩ ⟨by first | (exfalso; omega) | rw [bI_t (by simp [ps_mark]; omega)] | rw [bI_f (by simp [ps_mark]; omega)], rfl⟩
  · refine EV.iload_n d_To_isMark_6 rfl ?_
    refine EV.bipush (v := nI 52) d_To_isMark_7 (by decide) ?_
    refine EV.icmp_gtN (tgt := 16) d_To_isMark_9 (by decide) rfl rfl (by omega) (by omega) (fun h9 => ?_) (fun h9 => ?_)
    · refine EV.iconst (v := nI 0) d_To_isMark_16 (by decide) ?_
      exact EV.ireturn d_To_isMark_17 ⟨_, rfl, rfl⟩ ⟨by first | (exfalso; omega) | rw [bI_t (by simp [ps_mark]; omega)] | rw [bI_f (by simp [ps_mark]; omega)], rfl⟩
    · refine EV.iconst (v := nI 1) d_To_isMark_12 (by decide) ?_
      refine EV.goto (tgt := 17) d_To_isMark_13 (by decide) ?_
      exact EV.ireturn d_To_isMark_17 ⟨_, rfl, rfl⟩ ⟨by first | (exfalso; omega) | rw [bI_t (by simp [ps_mark]; omega)] | rw [bI_f (by simp [ps_mark]; omega)], rfl⟩
set_option maxHeartbeats 4000000 in
set_option maxRecDepth 100000 in
theorem sp_Mo_isLetter {G : mx_G} {d : Nat} {S : List mx_Sh} {D : mx_Mem} {c : Nat} (hc : c < 2 ^ 31) : EV G d m_Mo_isLetter 0 (mx_lc0 m_Mo_isLetter [.int (nI c)]) [] S D S (RI (bI (ps_letter c)) D) := by
  show EV _ _ _ _ [some (.int (nI c))] [] _ _ _ _
  refine EV.iload_n d_Mo_isLetter_0 rfl ?_
  refine EV.bipush (v := nI 97) d_Mo_isLetter_1 (by decide) ?_
  refine EV.icmp_ltN (tgt := 12) d_Mo_isLetter_3 (by decide) rfl rfl (by omega) (by omega) (fun h3 => ?_) (fun h3 => ?_)
  · refine EV.iload_n d_Mo_isLetter_12 rfl ?_
    refine EV.bipush (v := nI 65) d_Mo_isLetter_13 (by decide) ?_
    refine EV.icmp_ltN (tgt := 28) d_Mo_isLetter_15 (by decide) rfl rfl (by omega) (by omega) (fun h15 => ?_) (fun h15 => ?_)
    · refine EV.iconst (v := nI 0) d_Mo_isLetter_28 (by decide) ?_
      exact EV.ireturn d_Mo_isLetter_29 ⟨_, rfl, rfl⟩ ⟨by first | (exfalso; omega) | rw [bI_t (by simp [ps_letter]; omega)] | rw [bI_f (by simp [ps_letter]; omega)], rfl⟩
    · refine EV.iload_n d_Mo_isLetter_18 rfl ?_
      refine EV.bipush (v := nI 72) d_Mo_isLetter_19 (by decide) ?_
      refine EV.icmp_gtN (tgt := 28) d_Mo_isLetter_21 (by decide) rfl rfl (by omega) (by omega) (fun h21 => ?_) (fun h21 => ?_)
      · refine EV.iconst (v := nI 0) d_Mo_isLetter_28 (by decide) ?_
        exact EV.ireturn d_Mo_isLetter_29 ⟨_, rfl, rfl⟩ ⟨by first | (exfalso; omega) | rw [bI_t (by simp [ps_letter]; omega)] | rw [bI_f (by simp [ps_letter]; omega)], rfl⟩
      · refine EV.iconst (v := nI 1) d_Mo_isLetter_24 (by decide) ?_
        refine EV.goto (tgt := 29) d_Mo_isLetter_25 (by decide) ?_
        exact EV.ireturn d_Mo_isLetter_29 ⟨_, rfl, rfl⟩ ⟨by first | (exfalso; omega) | rw [bI_t (by simp [ps_letter]; omega)] | rw [bI_f (by simp [ps_letter]; omega)], rfl⟩
  · refine EV.iload_n d_Mo_isLetter_6 rfl ?_
    refine EV.bipush (v := nI 104) d_Mo_isLetter_7 (by decide) ?_
    refine EV.icmp_leN (tgt := 24) d_Mo_isLetter_9 (by decide) rfl rfl (by omega) (by omega) (fun h9 => ?_) (fun h9 => ?_)
    · refine EV.iconst (v := nI 1) d_Mo_isLetter_24 (by decide) ?_
      refine EV.goto (tgt := 29) d_Mo_isLetter_25 (by decide) ?_
      exact EV.ireturn d_Mo_isLetter_29 ⟨_, rfl, rfl⟩ ⟨by first | (exfalso; omega) | rw [bI_t (by simp [ps_letter]; omega)] | rw [bI_f (by simp [ps_letter]; omega)], rfl⟩
    · refine EV.iload_n d_Mo_isLetter_12 rfl ?_
      refine EV.bipush (v := nI 65) d_Mo_isLetter_13 (by decide) ?_
      refine EV.icmp_ltN (tgt := 28) d_Mo_isLetter_15 (by decide) rfl rfl (by omega) (by omega) (fun h15 => ?_) (fun h15 => ?_)
      · refine EV.iconst (v := nI 0) d_Mo_isLetter_28 (by decide) ?_
        exact EV.ireturn d_Mo_isLetter_29 ⟨_, rfl, rfl⟩ ⟨by first | (exfalso; omega) | rw [bI_t (by simp [ps_letter]; omega)] | rw [bI_f (by simp [ps_letter]; omega)], rfl⟩
      · refine EV.iload_n d_Mo_isLetter_18 rfl ?_
        refine EV.bipush (v := nI 72) d_Mo_isLetter_19 (by decide) ?_
        refine EV.icmp_gtN (tgt := 28) d_Mo_isLetter_21 (by decide) rfl rfl (by omega) (by omega) (fun h21 => ?_) (fun h21 => ?_)
        · refine EV.iconst (v := nI 0) d_Mo_isLetter_28 (by decide) ?_
          exact EV.ireturn d_Mo_isLetter_29 ⟨_, rfl, rfl⟩ ⟨by first | (exfalso; omega) | rw [bI_t (by simp [ps_letter]; omega)] | rw [bI_f (by simp [ps_letter]; omega)], rfl⟩
        · refine EV.iconst (v := nI 1) d_Mo_isLetter_24 (by decide) ?_
          refine EV.goto (tgt := 29) d_Mo_isLetter_25 (by decide) ?_
          exact EV.ireturn d_Mo_isLetter_29 ⟨_, rfl, rfl⟩ ⟨by first | (exfalso; omega) | rw [bI_t (by simp [ps_letter]; omega)] | rw [bI_f (by simp [ps_letter]; omega)], rfl⟩
set_option maxHeartbeats 4000000 in
set_option maxRecDepth 100000 in
theorem sp_Mo_isMark {G : mx_G} {d : Nat} {S : List mx_Sh} {D : mx_Mem} {c : Nat} (hc : c < 2 ^ 31) : EV G d m_Mo_isMark 0 (mx_lc0 m_Mo_isMark [.int (nI c)]) [] S D S (RI (bI (ps_mark c)) D) := by
  show EV _ _ _ _ [some (.int (nI c))] [] _ _ _ _
  refine EV.iload_n d_Mo_isMark_0 rfl ?_
  refine EV.bipush (v := nI 49) d_Mo_isMark_1 (by decide) ?_
  refine EV.icmp_ltN (tgt := 16) d_Mo_isMark_3 (by decide) rfl rfl (by omega) (by omega) (fun h3 => ?_) (fun h3 => ?_)
  · refine EV.iconst (v := nI 0) d_Mo_isMark_16 (by decide) ?_
    exact EV.ireturn d_Mo_isMark_17 ⟨_, rfl, rfl⟩ ⟨by first | (exfalso; omega) | rw [bI_t (by simp [ps_mark]; omega)] | rw [bI_f (by simp [ps_mark]; omega)], rfl⟩
  · refine EV.iload_n d_Mo_isMark_6 rfl ?_
    refine EV.bipush (v := nI 52) d_Mo_isMark_7 (by decide) ?_
    refine EV.icmp_gtN (tgt := 16) d_Mo_isMark_9 (by decide) rfl rfl (by omega) (by omega) (fun h9 => ?_) (fun h9 => ?_)
    · refine EV.iconst (v := nI 0) d_Mo_isMark_16 (by decide) ?_
      exact EV.ireturn d_Mo_isMark_17 ⟨_, rfl, rfl⟩ ⟨by first | (exfalso; omega) | rw [bI_t (by simp [ps_mark]; omega)] | rw [bI_f (by simp [ps_mark]; omega)], rfl⟩
    · refine EV.iconst (v := nI 1) d_Mo_isMark_12 (by decide) ?_
      refine EV.goto (tgt := 17) d_Mo_isMark_13 (by decide) ?_
      exact EV.ireturn d_Mo_isMark_17 ⟨_, rfl, rfl⟩ ⟨by first | (exfalso; omega) | rw [bI_t (by simp [ps_mark]; omega)] | rw [bI_f (by simp [ps_mark]; omega)], rfl⟩
set_option maxHeartbeats 4000000 in
set_option maxRecDepth 100000 in
theorem sp_To_classOf {G : mx_G} {d : Nat} {S : List mx_Sh} {D : mx_Mem} {c : Nat} (hc : c < 2 ^ 31) : EV G d m_To_classOf 0 (mx_lc0 m_To_classOf [.int (nI c)]) [] S D S (RI (nI (ps_cls c)) D) := by
  show EV _ _ _ _ [some (.int (nI c))] [] _ _ _ _
  refine EV.iload_n d_To_classOf_0 rfl ?_
  refine EV.bipush (v := nI 50) d_To_classOf_1 (by decide) ?_
  refine EV.icmp_gtN (tgt := 10) d_To_classOf_3 (by decide) rfl rfl (by omega) (by omega) (fun h3 => ?_) (fun h3 => ?_)
  · refine EV.iconst (v := nI 2) d_To_classOf_10 (by decide) ?_
    exact EV.ireturn d_To_classOf_11 ⟨_, rfl, rfl⟩ ⟨by simp only [ps_cls]; split <;> first | rfl | omega, rfl⟩
  · refine EV.iconst (v := nI 1) d_To_classOf_6 (by decide) ?_
    refine EV.goto (tgt := 11) d_To_classOf_7 (by decide) ?_
    exact EV.ireturn d_To_classOf_11 ⟨_, rfl, rfl⟩ ⟨by simp only [ps_cls]; split <;> first | rfl | omega, rfl⟩
set_option maxHeartbeats 4000000 in
set_option maxRecDepth 100000 in
theorem sp_Mo_classOf {G : mx_G} {d : Nat} {S : List mx_Sh} {D : mx_Mem} {c : Nat} (hc : c < 2 ^ 31) : EV G d m_Mo_classOf 0 (mx_lc0 m_Mo_classOf [.int (nI c)]) [] S D S (RI (nI (ps_cls c)) D) := by
  show EV _ _ _ _ [some (.int (nI c))] [] _ _ _ _
  refine EV.iload_n d_Mo_classOf_0 rfl ?_
  refine EV.bipush (v := nI 51) d_Mo_classOf_1 (by decide) ?_
  refine EV.icmp_geN (tgt := 10) d_Mo_classOf_3 (by decide) rfl rfl (by omega) (by omega) (fun h3 => ?_) (fun h3 => ?_)
  · refine EV.iconst (v := nI 2) d_Mo_classOf_10 (by decide) ?_
    exact EV.ireturn d_Mo_classOf_11 ⟨_, rfl, rfl⟩ ⟨by simp only [ps_cls]; split <;> first | rfl | omega, rfl⟩
  · refine EV.iconst (v := nI 1) d_Mo_classOf_6 (by decide) ?_
    refine EV.goto (tgt := 11) d_Mo_classOf_7 (by decide) ?_
    exact EV.ireturn d_Mo_classOf_11 ⟨_, rfl, rfl⟩ ⟨by simp only [ps_cls]; split <;> first | rfl | omega, rfl⟩
/-- how many characters a string of the class has -/
def ps_len (s : Nat) : Nat := if s < 256 then 1 else if s < 65536 then 2 else 3
set_option maxHeartbeats 4000000 in
set_option maxRecDepth 100000 in
theorem sp_To_lengthOf {G : mx_G} {d : Nat} {S : List mx_Sh} {D : mx_Mem} {s : Nat} (hs : s < 2 ^ 31) : EV G d m_To_lengthOf 0 (mx_lc0 m_To_lengthOf [.int (nI s)]) [] S D S (RI (nI (ps_len s)) D) := by
  show EV _ _ _ _ [some (.int (nI s))] [] _ _ _ _
  refine EV.iload_n d_To_lengthOf_0 rfl ?_
  refine EV.sipush (v := nI 256) d_To_lengthOf_1 (by decide) ?_
  refine EV.icmp_geN (tgt := 11) d_To_lengthOf_4 (by decide) rfl rfl (by omega) (by omega) (fun h4 => ?_) (fun h4 => ?_)
  · refine EV.iload_n d_To_lengthOf_11 rfl ?_
    refine EV.ldc (v := 65536) (mx_in 309 (by decide +kernel) (by decide +kernel)) d_To_lengthOf_12 ?_
    refine EV.icmp_geN (tgt := 21) d_To_lengthOf_14 (by decide) rfl (show (65536 : Int32) = nI 65536 by decide) (by omega) (by omega) (fun h14 => ?_) (fun h14 => ?_)
    · refine EV.iconst (v := nI 3) d_To_lengthOf_21 (by decide) ?_
      exact EV.ireturn d_To_lengthOf_22 ⟨_, rfl, rfl⟩ ⟨by simp only [ps_len]; split <;> first | rfl | omega | (split <;> first | rfl | omega), rfl⟩
    · refine EV.iconst (v := nI 2) d_To_lengthOf_17 (by decide) ?_
      refine EV.goto (tgt := 22) d_To_lengthOf_18 (by decide) ?_
      exact EV.ireturn d_To_lengthOf_22 ⟨_, rfl, rfl⟩ ⟨by simp only [ps_len]; split <;> first | rfl | omega | (split <;> first | rfl | omega), rfl⟩
  · refine EV.iconst (v := nI 1) d_To_lengthOf_7 (by decide) ?_
    refine EV.goto (tgt := 22) d_To_lengthOf_8 (by decide) ?_
    exact EV.ireturn d_To_lengthOf_22 ⟨_, rfl, rfl⟩ ⟨by simp only [ps_len]; split <;> first | rfl | omega | (split <;> first | rfl | omega), rfl⟩
set_option maxHeartbeats 4000000 in
set_option maxRecDepth 100000 in
theorem sp_To_joined {G : mx_G} {d : Nat} {S : List mx_Sh} {D : mx_Mem} {s c n : Nat} (hn : n = 1 ∨ n = 2) (hs : s < 256 ^ n) (hc : c < 128) : EV G d m_To_joined 0 (mx_lc0 m_To_joined [.int (nI s), .int (nI n), .int (nI c)]) [] S D S (RI (nI (s + c * 256 ^ n)) D) := by
  show EV _ _ _ _ [some (.int (nI s)), some (.int (nI n)), some (.int (nI c))] [] _ _ _ _
  refine EV.iload_n d_To_joined_0 rfl ?_
  refine EV.iload_n d_To_joined_1 rfl ?_
  refine EV.bipush (v := nI 8) d_To_joined_2 (by decide) ?_
  refine EV.iload_n d_To_joined_4 rfl ?_
  refine EV.imul d_To_joined_5 ?_
  refine EV.ishl d_To_joined_6 ?_
  refine EV.ior d_To_joined_7 ?_
  refine EV.ireturn d_To_joined_8 ⟨_, rfl, rfl⟩ ⟨?_, rfl⟩
  rcases hn with rfl | rfl
  · have e : nI c <<< (nI 8 * nI 1 &&& 31) = nI (c * 2 ^ 8) := pk_shlN (nI 8 * nI 1 &&& 31) 8 (by decide) (by omega)
    rw [e, nI_or (by omega) (by omega)]
  · have e : nI c <<< (nI 8 * nI 2 &&& 31) = nI (c * 2 ^ 16) := pk_shlN (nI 8 * nI 2 &&& 31) 16 (by decide) (by omega)
    rw [e, nI_or (by omega) (by omega)]
set_option maxHeartbeats 4000000 in
set_option maxRecDepth 100000 in
theorem sp_To_firstOf {G : mx_G} {d : Nat} {S : List mx_Sh} {D : mx_Mem} {s n : Nat} (hn : n = 1 ∨ n = 2 ∨ n = 3) (hs : s < 2 ^ 31) : EV G d m_To_firstOf 0 (mx_lc0 m_To_firstOf [.int (nI s), .int (nI n)]) [] S D S (RI (nI (s % 256 ^ n)) D) := by
  show EV _ _ _ _ [some (.int (nI s)), some (.int (nI n))] [] _ _ _ _
  refine EV.iload_n d_To_firstOf_0 rfl ?_
  refine EV.iconst (v := nI 1) d_To_firstOf_1 (by decide) ?_
  refine EV.bipush (v := nI 8) d_To_firstOf_2 (by decide) ?_
  refine EV.iload_n d_To_firstOf_4 rfl ?_
  refine EV.imul d_To_firstOf_5 ?_
  refine EV.ishl d_To_firstOf_6 ?_
  refine EV.iconst (v := nI 1) d_To_firstOf_7 (by decide) ?_
  refine EV.isub d_To_firstOf_8 ?_
  refine EV.iand d_To_firstOf_9 ?_
  refine EV.ireturn d_To_firstOf_10 ⟨_, rfl, rfl⟩ ⟨?_, rfl⟩
  rcases hn with rfl | rfl | rfl
  · rw [pk_andN (by omega) (m := nI 1 <<< (nI 8 * nI 1 &&& 31) - nI 1) 8 (by decide)]
  · rw [pk_andN (by omega) (m := nI 1 <<< (nI 8 * nI 2 &&& 31) - nI 1) 16 (by decide)]
  · rw [pk_andN (by omega) (m := nI 1 <<< (nI 8 * nI 3 &&& 31) - nI 1) 24 (by decide)]
set_option maxHeartbeats 4000000 in
set_option maxRecDepth 100000 in
theorem sp_To_characterOf {G : mx_G} {d : Nat} {S : List mx_Sh} {D : mx_Mem} {s n : Nat} (hn : n = 0 ∨ n = 1 ∨ n = 2) (hs : s < 2 ^ 31) : EV G d m_To_characterOf 0 (mx_lc0 m_To_characterOf [.int (nI s), .int (nI n)]) [] S D S (RI (nI (s / 256 ^ n % 256)) D) := by
  show EV _ _ _ _ [some (.int (nI s)), some (.int (nI n))] [] _ _ _ _
  refine EV.iload_n d_To_characterOf_0 rfl ?_
  refine EV.bipush (v := nI 8) d_To_characterOf_1 (by decide) ?_
  refine EV.iload_n d_To_characterOf_3 rfl ?_
  refine EV.imul d_To_characterOf_4 ?_
  refine EV.ishr d_To_characterOf_5 ?_
  refine EV.sipush (v := nI 255) d_To_characterOf_6 (by decide) ?_
  refine EV.iand d_To_characterOf_9 ?_
  refine EV.ireturn d_To_characterOf_10 ⟨_, rfl, rfl⟩ ⟨?_, rfl⟩
  rcases hn with rfl | rfl | rfl
  · rw [pk_shrN hs (nI 8 * nI 0 &&& 31) 0 (by decide), pk_andN (by omega) (m := nI 255) 8 (by decide)]
  · rw [pk_shrN hs (nI 8 * nI 1 &&& 31) 8 (by decide), pk_andN (by omega) (m := nI 255) 8 (by decide)]
  · rw [pk_shrN hs (nI 8 * nI 2 &&& 31) 16 (by decide), pk_andN (by omega) (m := nI 255) 8 (by decide)]
end
section
/-! the table's own methods, over its five rows and its count -/
def ShT (S : List mx_Sh) (t : Nat) : Prop := S[t]? = some (.inl (5, [some (some (t + 1)), some (some (t + 2)), some (some (t + 3)), some (some (t + 4)), some (some (t + 5)), none])) ∧ S[t + 1]? = some (.inr (.inl (0, 30))) ∧ S[t + 2]? = some (.inr (.inl (0, 30))) ∧ S[t + 3]? = some (.inr (.inl (0, 30))) ∧ S[t + 4]? = some (.inr (.inl (0, 30))) ∧ S[t + 5]? = some (.inr (.inl (0, 30)))
/-- r is the first place below n where f is x, or -1 -/
def Fnd (f : Nat → Int32) (x : Int32) (n : Nat) (r : Int32) : Prop := (∃ i, i < n ∧ f i = x ∧ (∀ j, j < i → ¬ f j = x) ∧ r = nI i) ∨ ((∀ j, j < n → ¬ f j = x) ∧ r = -1)
theorem nI0_c : (nI 0).toNatClampNeg = 0 := by decide
theorem nI30_c : (nI 30).toNatClampNeg = 30 := by decide
theorem mx_w_eq (D : mx_Mem) (k j : Nat) (x : Int32) : mx_w D k j x k = upd (D k) j x := by simp [mx_w, va_up]
theorem mx_w_ne (D : mx_Mem) {k k' : Nat} (j : Nat) (x : Int32) (h : ¬ k' = k) : mx_w D k j x k' = D k' := by simp [mx_w, va_up, h]
def fx_sh (f : Nat → Int32) (i n : Nat) : Nat → Int32 := fun j => if i < j ∧ j ≤ n then f (j - 1) else f j
def fx_ins (f : Nat → Int32) (p : Nat) (x : Int32) (n : Nat) : Nat → Int32 := upd (fx_sh f p n) p x
def fx_dl (f : Nat → Int32) (p i : Nat) : Nat → Int32 := fun j => if p ≤ j ∧ j + 1 < i then f (j + 1) else f j
theorem fx_sh_0 (f : Nat → Int32) (n : Nat) : fx_sh f n n = f := by
  funext j
  unfold fx_sh
  rw [if_neg (by omega)]
theorem fx_sh_s (f : Nat → Int32) {i n : Nat} (h : i + 1 ≤ n) : upd (fx_sh f (i + 1) n) (i + 1) (fx_sh f (i + 1) n i) = fx_sh f i n := by
  funext j
  unfold fx_sh upd
  by_cases h1 : j = i + 1
  · subst h1
    rw [if_pos rfl, if_neg (by omega), if_pos (by omega)]
    rfl
  · rw [if_neg h1]
    dsimp only
    by_cases h2 : i + 1 < j ∧ j ≤ n
    · rw [if_pos h2, if_pos (by omega)]
    · rw [if_neg h2, if_neg (by omega)]
theorem fx_dl_0 (f : Nat → Int32) (p : Nat) : fx_dl f p (p + 1) = f := by
  funext j
  unfold fx_dl
  rw [if_neg (by omega)]
theorem fx_dl_s (f : Nat → Int32) {p i : Nat} (h : p ≤ i) : upd (fx_dl f p (i + 1)) i (fx_dl f p (i + 1) (i + 1)) = fx_dl f p (i + 2) := by
  funext j
  unfold fx_dl upd
  by_cases h1 : j = i
  · subst h1
    rw [if_pos rfl, if_neg (by omega), if_pos (by omega)]
  · rw [if_neg h1]
    dsimp only
    by_cases h2 : p ≤ j ∧ j + 1 < i + 1
    · rw [if_pos h2, if_pos (by omega)]
    · rw [if_neg h2, if_neg (by omega)]
/-- the step of the entry behind the one that goes is the lesser of the two -/
def fx_mn (g : Nat → Int32) (a n : Nat) : Nat → Int32 := if a + 1 < n then upd g (a + 1) (if g (a + 1) < g a then g (a + 1) else g a) else g
/-- p is the first place from a on (or n) whose step isn't above y -/
def Plc (g : Nat → Int32) (y : Int32) (a n p : Nat) : Prop := a ≤ p ∧ p ≤ n ∧ (∀ j, a ≤ j → j < p → y < g j) ∧ (p < n → ¬ y < g p)
def ps_ws (w : Nat × Nat × Nat) (s : Nat) : Nat × Nat × Nat := if s = 1 then (w.1 + 1, 1, 1) else if s = 2 then (w.1, w.2.1 + 1, 1) else if s = 3 then (w.1, w.2.1, w.2.2 + 1) else w
/-- the weights behind i entries with the steps sf -/
def ps_wt (sf : Nat → Nat) : Nat → Nat × Nat × Nat
  | 0 => (0, 1, 1)
  | i + 1 => ps_ws (ps_wt sf i) (sf i)
theorem ps_wt_le (sf : Nat → Nat) : ∀ i, (ps_wt sf i).1 ≤ i ∧ (ps_wt sf i).2.1 ≤ i + 1 ∧ (ps_wt sf i).2.2 ≤ i + 1 := by
  intro i
  induction i with
  | zero => simp [ps_wt]
  | succ i ih =>
    unfold ps_wt ps_ws
    split
    · simp; omega
    · split
      · simp; omega
      · split
        · simp; omega
        · omega
set_option maxHeartbeats 4000000 in
set_option maxRecDepth 100000 in
theorem lp_Ta_find {G : mx_G} {d : Nat} {S : List mx_Sh} {D : mx_Mem} {t cnt : Nat} {x : Int32} (hT : ShT S t) (hc : D t 5 = nI cnt) (hle : cnt ≤ 30) : ∀ n i : Nat, i ≤ cnt → cnt - i = n → (∀ j, j < i → ¬ D (t + 1) j = x) → EV G d m_Ta_find 2 [some (.ref t), some (.int x), some (.int (nI i))] [] S D S (fun rv D' => D' = D ∧ ∃ r, rv = some (.int r) ∧ Fnd (D (t + 1)) x cnt r) := by
  obtain ⟨hs0, hs1, hs2, hs3, hs4, hs5⟩ := id hT
  intro n
  induction n with
  | zero =>
    intro i h1 h2 h3
    refine EV.iload_n d_Ta_find_2 rfl ?_
    refine EV.aload_n d_Ta_find_3 rfl ?_
    refine EV.getI fl_Ta_34 d_Ta_find_4 (by first | assumption | rfl) rfl ?_
    refine EV.icmp_geN (tgt := 28) d_Ta_find_7 (by decide) rfl hc (by omega) (by omega) (fun h7 => ?_) (fun h7 => ?_)
    · refine EV.iconst (v := (-1)) d_Ta_find_28 (by decide) ?_
      exact EV.ireturn d_Ta_find_29 ⟨_, rfl, rfl⟩ ⟨rfl, _, rfl, Or.inr ⟨fun j hj => h3 j (by omega), rfl⟩⟩
    · exfalso
      omega
  | succ n ih =>
    intro i h1 h2 h3
    refine EV.iload_n d_Ta_find_2 rfl ?_
    refine EV.aload_n d_Ta_find_3 rfl ?_
    refine EV.getI fl_Ta_34 d_Ta_find_4 (by first | assumption | rfl) rfl ?_
    refine EV.icmp_geN (tgt := 28) d_Ta_find_7 (by decide) rfl hc (by omega) (by omega) (fun h7 => ?_) (fun h7 => ?_)
    · exfalso
      omega
    · refine EV.aload_n d_Ta_find_10 rfl ?_
      refine EV.getR fl_Ta_9 d_Ta_find_11 (by first | assumption | rfl) rfl ?_
      refine EV.iload_n d_Ta_find_14 rfl ?_
      refine EV.ialdN d_Ta_find_15 (by first | assumption | rfl) rfl rfl (by omega) (by first | decide | omega) ?_
      refine EV.iload_n d_Ta_find_16 rfl ?_
      refine EV.icmp_ne (tgt := 22) d_Ta_find_17 (by decide) (fun h17 => ?_) (fun h17 => ?_)
      · refine EV.iincN d_Ta_find_22 rfl (by decide) ?_
        refine EV.goto (tgt := 2) d_Ta_find_25 (by decide) ?_
        exact ih (i + 1) (by omega) (by omega) (fun j hj => by
          rcases Nat.lt_or_ge j i with q | q
          · exact h3 j q
          · rw [show j = i by omega]; exact h17)
      · refine EV.iload_n d_Ta_find_20 rfl ?_
        exact EV.ireturn d_Ta_find_21 ⟨_, rfl, rfl⟩ ⟨rfl, _, rfl, Or.inl ⟨i, h7, h17, h3, rfl⟩⟩
set_option maxHeartbeats 4000000 in
set_option maxRecDepth 100000 in
theorem sp_Ta_find {G : mx_G} {d : Nat} {S : List mx_Sh} {D : mx_Mem} {t cnt : Nat} {x : Int32} (hT : ShT S t) (hc : D t 5 = nI cnt) (hle : cnt ≤ 30) : EV G d m_Ta_find 0 (mx_lc0 m_Ta_find [.ref t, .int x]) [] S D S (fun rv D' => D' = D ∧ ∃ r, rv = some (.int r) ∧ Fnd (D (t + 1)) x cnt r) := by
  show EV _ _ _ _ [some (.ref t), some (.int x), none] [] _ _ _ _
  refine EV.iconst (v := nI 0) d_Ta_find_0 (by decide) ?_
  refine EV.istore_n d_Ta_find_1 (by decide) ?_
  exact lp_Ta_find hT hc hle cnt 0 (by omega) (by omega) (fun j hj => absurd hj (by omega))
set_option maxHeartbeats 4000000 in
set_option maxRecDepth 100000 in
theorem lp_Ta_insert {G : mx_G} {d : Nat} {S : List mx_Sh} {D0 : mx_Mem} {t cnt p : Nat} {x y : Int32} (hT : ShT S t) (hc : D0 t 5 = nI cnt) (hle : cnt < 30) : ∀ (n i : Nat) (D : mx_Mem), i ≤ cnt → p ≤ i → i - p = n → D (t + 1) = fx_sh (D0 (t + 1)) i cnt → D (t + 2) = fx_sh (D0 (t + 2)) i cnt → (∀ k, ¬ k = t + 1 → ¬ k = t + 2 → D k = D0 k) → EV G d m_Ta_insert 6 [some (.ref t), some (.int (nI p)), some (.int x), some (.int y), some (.int (nI i))] [] S D S (fun rv D' => rv = none ∧ D' (t + 1) = fx_ins (D0 (t + 1)) p x cnt ∧ D' (t + 2) = fx_ins (D0 (t + 2)) p y cnt ∧ D' t = upd (D0 t) 5 (nI (cnt + 1)) ∧ ∀ k, ¬ k = t → ¬ k = t + 1 → ¬ k = t + 2 → D' k = D0 k) := by
  obtain ⟨hs0, hs1, hs2, hs3, hs4, hs5⟩ := id hT
  intro n
  induction n with
  | zero =>
    intro i D h1 h2 h3 hf hg ho
    refine EV.iload d_Ta_insert_6 rfl ?_
    refine EV.iload_n d_Ta_insert_8 rfl ?_
    refine EV.icmp_leN (tgt := 50) d_Ta_insert_9 (by decide) rfl rfl (by omega) (by omega) (fun h9 => ?_) (fun h9 => ?_)
    · refine EV.aload_n d_Ta_insert_50 rfl ?_
      refine EV.getR fl_Ta_9 d_Ta_insert_51 (by first | assumption | rfl) rfl ?_
      refine EV.iload_n d_Ta_insert_54 rfl ?_
      refine EV.iload_n d_Ta_insert_55 rfl ?_
      refine EV.iastN d_Ta_insert_56 (by first | assumption | rfl) rfl rfl (by omega) (by first | decide | omega) ?_
      refine EV.aload_n d_Ta_insert_57 rfl ?_
      refine EV.getR fl_Ta_15 d_Ta_insert_58 (by first | assumption | rfl) rfl ?_
      refine EV.iload_n d_Ta_insert_61 rfl ?_
      refine EV.iload_n d_Ta_insert_62 rfl ?_
      refine EV.iastN d_Ta_insert_63 (by first | assumption | rfl) rfl rfl (by omega) (by first | decide | omega) ?_
      refine EV.aload_n d_Ta_insert_64 rfl ?_
      refine EV.dup d_Ta_insert_65 rfl ?_
      refine EV.getI fl_Ta_34 d_Ta_insert_66 (by first | assumption | rfl) rfl ?_
      refine EV.iconst (v := nI 1) d_Ta_insert_69 (by decide) ?_
      refine EV.iadd d_Ta_insert_70 ?_
      have ep : i = p := by omega
      subst ep
      refine EV.top (y := nI (cnt + 1)) (by rw [mx_w_ne _ _ _ (by omega), mx_w_ne _ _ _ (by omega), ho t (by omega) (by omega), hc]; exact nI_1 cnt) ?_
      refine EV.putI fl_Ta_34 d_Ta_insert_71 (by first | assumption | rfl) rfl rfl rfl ?_
      exact EV.return_ d_Ta_insert_74 rfl ⟨rfl, by simp [mx_w, va_up, hf, fx_ins], by simp [mx_w, va_up, hg, fx_ins], by simp [mx_w, va_up, ho t (by omega) (by omega)], fun k k1 k2 k3 => by simp [mx_w, va_up, k1, k2, k3, ho k k2 k3]⟩
    · exfalso
      omega
  | succ n ih =>
    intro i D h1 h2 h3 hf hg ho
    obtain ⟨i, rfl⟩ : ∃ i', i = i' + 1 := ⟨i - 1, by omega⟩
    refine EV.iload d_Ta_insert_6 rfl ?_
    refine EV.iload_n d_Ta_insert_8 rfl ?_
    refine EV.icmp_leN (tgt := 50) d_Ta_insert_9 (by decide) rfl rfl (by omega) (by omega) (fun h9 => ?_) (fun h9 => ?_)
    · exfalso
      omega
    · refine EV.aload_n d_Ta_insert_12 rfl ?_
      refine EV.getR fl_Ta_9 d_Ta_insert_13 (by first | assumption | rfl) rfl ?_
      refine EV.iload d_Ta_insert_16 rfl ?_
      refine EV.aload_n d_Ta_insert_18 rfl ?_
      refine EV.getR fl_Ta_9 d_Ta_insert_19 (by first | assumption | rfl) rfl ?_
      refine EV.iload d_Ta_insert_22 rfl ?_
      refine EV.iconst (v := nI 1) d_Ta_insert_24 (by decide) ?_
      refine EV.isub d_Ta_insert_25 ?_
      refine EV.ialdN d_Ta_insert_26 (by first | assumption | rfl) rfl (show _ = nI i from nI_pred i) (by omega) (by first | decide | omega) ?_
      refine EV.iastN d_Ta_insert_27 (by first | assumption | rfl) rfl rfl (by omega) (by first | decide | omega) ?_
      refine EV.aload_n d_Ta_insert_28 rfl ?_
      refine EV.getR fl_Ta_15 d_Ta_insert_29 (by first | assumption | rfl) rfl ?_
      refine EV.iload d_Ta_insert_32 rfl ?_
      refine EV.aload_n d_Ta_insert_34 rfl ?_
      refine EV.getR fl_Ta_15 d_Ta_insert_35 (by first | assumption | rfl) rfl ?_
      refine EV.iload d_Ta_insert_38 rfl ?_
      refine EV.iconst (v := nI 1) d_Ta_insert_40 (by decide) ?_
      refine EV.isub d_Ta_insert_41 ?_
      refine EV.ialdN d_Ta_insert_42 (by first | assumption | rfl) rfl (show _ = nI i from nI_pred i) (by omega) (by first | decide | omega) ?_
      refine EV.iastN d_Ta_insert_43 (by first | assumption | rfl) rfl rfl (by omega) (by first | decide | omega) ?_
      refine EV.iincM d_Ta_insert_44 rfl (by decide) ?_
      refine EV.goto (tgt := 6) d_Ta_insert_47 (by decide) ?_
      refine ih i _ (by omega) (by omega) (by omega) ?_ ?_ ?_
      · rw [mx_w_ne _ _ _ (by omega), mx_w_eq, hf]; exact fx_sh_s _ (by omega)
      · rw [mx_w_eq, mx_w_ne _ _ _ (by omega), hg]; exact fx_sh_s _ (by omega)
      · intro k k1 k2; rw [mx_w_ne _ _ _ k2, mx_w_ne _ _ _ k1]; exact ho k k1 k2
set_option maxHeartbeats 4000000 in
set_option maxRecDepth 100000 in
theorem sp_Ta_insert {G : mx_G} {d : Nat} {S : List mx_Sh} {D0 : mx_Mem} {t cnt p : Nat} {x y : Int32} (hT : ShT S t) (hc : D0 t 5 = nI cnt) (hle : cnt < 30) (hp : p ≤ cnt) : EV G d m_Ta_insert 0 (mx_lc0 m_Ta_insert [.ref t, .int (nI p), .int x, .int y]) [] S D0 S (fun rv D' => rv = none ∧ D' (t + 1) = fx_ins (D0 (t + 1)) p x cnt ∧ D' (t + 2) = fx_ins (D0 (t + 2)) p y cnt ∧ D' t = upd (D0 t) 5 (nI (cnt + 1)) ∧ ∀ k, ¬ k = t → ¬ k = t + 1 → ¬ k = t + 2 → D' k = D0 k) := by
  obtain ⟨hs0, hs1, hs2, hs3, hs4, hs5⟩ := id hT
  show EV _ _ _ _ [some (.ref t), some (.int (nI p)), some (.int x), some (.int y), none] [] _ _ _ _
  refine EV.aload_n d_Ta_insert_0 rfl ?_
  refine EV.getI fl_Ta_34 d_Ta_insert_1 (by first | assumption | rfl) rfl ?_
  refine EV.top hc ?_
  refine EV.istore d_Ta_insert_4 (by decide) ?_
  exact lp_Ta_insert hT hc hle (cnt - p) cnt D0 (by omega) hp rfl (fx_sh_0 _ _).symm (fx_sh_0 _ _).symm (fun _ _ _ => rfl)
set_option maxHeartbeats 4000000 in
set_option maxRecDepth 100000 in
theorem lp_Ta_takeOut {G : mx_G} {d : Nat} {S : List mx_Sh} {D0 : mx_Mem} {t cnt a : Nat} {g : Nat → Int32} (hT : ShT S t) (hc : D0 t 5 = nI cnt) (hle : cnt ≤ 30) : ∀ (n i : Nat) (D : mx_Mem), i ≤ cnt → a < i → cnt - i = n → D (t + 1) = fx_dl (D0 (t + 1)) a i → D (t + 2) = fx_dl g a i → (∀ k, ¬ k = t + 1 → ¬ k = t + 2 → D k = D0 k) → EV G d m_Ta_takeOut 39 [some (.ref t), some (.int (nI a)), some (.int (nI i))] [] S D S (fun rv D' => rv = none ∧ D' (t + 1) = fx_dl (D0 (t + 1)) a cnt ∧ D' (t + 2) = fx_dl g a cnt ∧ D' t = upd (D0 t) 5 (nI (cnt - 1)) ∧ ∀ k, ¬ k = t → ¬ k = t + 1 → ¬ k = t + 2 → D' k = D0 k) := by
  obtain ⟨hs0, hs1, hs2, hs3, hs4, hs5⟩ := id hT
  intro n
  induction n with
  | zero =>
    intro i D h1 h2 h3 hf hg ho
    have hc2 : D t 5 = nI cnt := by rw [ho t (by omega) (by omega)]; exact hc
    refine EV.iload_n d_Ta_takeOut_39 rfl ?_
    refine EV.aload_n d_Ta_takeOut_40 rfl ?_
    refine EV.getI fl_Ta_34 d_Ta_takeOut_41 (by first | assumption | rfl) rfl ?_
    refine EV.icmp_geN (tgt := 81) d_Ta_takeOut_44 (by decide) rfl hc2 (by omega) (by omega) (fun h44 => ?_) (fun h44 => ?_)
    · refine EV.aload_n d_Ta_takeOut_81 rfl ?_
      refine EV.dup d_Ta_takeOut_82 rfl ?_
      refine EV.getI fl_Ta_34 d_Ta_takeOut_83 (by first | assumption | rfl) rfl ?_
      refine EV.iconst (v := nI 1) d_Ta_takeOut_86 (by decide) ?_
      refine EV.isub d_Ta_takeOut_87 ?_
      have ep : i = cnt := by omega
      subst ep
      refine EV.top (y := nI (i - 1)) (by rw [hc2]; exact pk_sub (by omega)) ?_
      refine EV.putI fl_Ta_34 d_Ta_takeOut_88 (by first | assumption | rfl) rfl rfl rfl ?_
      exact EV.return_ d_Ta_takeOut_91 rfl ⟨rfl, by simp [mx_w, va_up, hf], by simp [mx_w, va_up, hg], by simp [mx_w, va_up, ho t (by omega) (by omega)], fun k k1 k2 k3 => by simp [mx_w, va_up, k1, ho k k2 k3]⟩
    · exfalso
      omega
  | succ n ih =>
    intro i D h1 h2 h3 hf hg ho
    have hc2 : D t 5 = nI cnt := by rw [ho t (by omega) (by omega)]; exact hc
    obtain ⟨i, rfl⟩ : ∃ i', i = i' + 1 := ⟨i - 1, by omega⟩
    refine EV.iload_n d_Ta_takeOut_39 rfl ?_
    refine EV.aload_n d_Ta_takeOut_40 rfl ?_
    refine EV.getI fl_Ta_34 d_Ta_takeOut_41 (by first | assumption | rfl) rfl ?_
    refine EV.icmp_geN (tgt := 81) d_Ta_takeOut_44 (by decide) rfl hc2 (by omega) (by omega) (fun h44 => ?_) (fun h44 => ?_)
    · exfalso
      omega
    · refine EV.aload_n d_Ta_takeOut_47 rfl ?_
      refine EV.getR fl_Ta_9 d_Ta_takeOut_48 (by first | assumption | rfl) rfl ?_
      refine EV.iload_n d_Ta_takeOut_51 rfl ?_
      refine EV.iconst (v := nI 1) d_Ta_takeOut_52 (by decide) ?_
      refine EV.isub d_Ta_takeOut_53 ?_
      refine EV.aload_n d_Ta_takeOut_54 rfl ?_
      refine EV.getR fl_Ta_9 d_Ta_takeOut_55 (by first | assumption | rfl) rfl ?_
      refine EV.iload_n d_Ta_takeOut_58 rfl ?_
      refine EV.ialdN d_Ta_takeOut_59 (by first | assumption | rfl) rfl rfl (by omega) (by first | decide | omega) ?_
      refine EV.iastN d_Ta_takeOut_60 (by first | assumption | rfl) rfl (show _ = nI i from nI_pred i) (by omega) (by first | decide | omega) ?_
      refine EV.aload_n d_Ta_takeOut_61 rfl ?_
      refine EV.getR fl_Ta_15 d_Ta_takeOut_62 (by first | assumption | rfl) rfl ?_
      refine EV.iload_n d_Ta_takeOut_65 rfl ?_
      refine EV.iconst (v := nI 1) d_Ta_takeOut_66 (by decide) ?_
      refine EV.isub d_Ta_takeOut_67 ?_
      refine EV.aload_n d_Ta_takeOut_68 rfl ?_
      refine EV.getR fl_Ta_15 d_Ta_takeOut_69 (by first | assumption | rfl) rfl ?_
      refine EV.iload_n d_Ta_takeOut_72 rfl ?_
      refine EV.ialdN d_Ta_takeOut_73 (by first | assumption | rfl) rfl rfl (by omega) (by first | decide | omega) ?_
      refine EV.iastN d_Ta_takeOut_74 (by first | assumption | rfl) rfl (show _ = nI i from nI_pred i) (by omega) (by first | decide | omega) ?_
      refine EV.iincN d_Ta_takeOut_75 rfl (by decide) ?_
      refine EV.goto (tgt := 39) d_Ta_takeOut_78 (by decide) ?_
      refine ih (i + 1 + 1) _ (by omega) (by omega) (by omega) ?_ ?_ ?_
      · rw [mx_w_ne _ _ _ (by omega), mx_w_eq, hf]; exact fx_dl_s _ (by omega)
      · rw [mx_w_eq, mx_w_ne _ _ _ (by omega), hg]; exact fx_dl_s _ (by omega)
      · intro k k1 k2; rw [mx_w_ne _ _ _ k2, mx_w_ne _ _ _ k1]; exact ho k k1 k2
set_option maxHeartbeats 4000000 in
set_option maxRecDepth 100000 in
theorem sp_Ta_takeOut {G : mx_G} {d : Nat} {S : List mx_Sh} {D0 : mx_Mem} {t cnt a : Nat} (hT : ShT S t) (hc : D0 t 5 = nI cnt) (hle : cnt ≤ 30) (ha : a < cnt) : EV G (d + 1) m_Ta_takeOut 0 (mx_lc0 m_Ta_takeOut [.ref t, .int (nI a)]) [] S D0 S (fun rv D' => rv = none ∧ D' (t + 1) = fx_dl (D0 (t + 1)) a cnt ∧ D' (t + 2) = fx_dl (fx_mn (D0 (t + 2)) a cnt) a cnt ∧ D' t = upd (D0 t) 5 (nI (cnt - 1)) ∧ ∀ k, ¬ k = t → ¬ k = t + 1 → ¬ k = t + 2 → D' k = D0 k) := by
  obtain ⟨hs0, hs1, hs2, hs3, hs4, hs5⟩ := id hT
  show EV _ _ _ _ [some (.ref t), some (.int (nI a)), none] [] _ _ _ _
  refine EV.iload_n d_Ta_takeOut_0 rfl ?_
  refine EV.iconst (v := nI 1) d_Ta_takeOut_1 (by decide) ?_
  refine EV.iadd d_Ta_takeOut_2 ?_
  refine EV.aload_n d_Ta_takeOut_3 rfl ?_
  refine EV.getI fl_Ta_34 d_Ta_takeOut_4 (by first | assumption | rfl) rfl ?_
  refine EV.icmp_geN (tgt := 35) d_Ta_takeOut_7 (by decide) (nI_1 a) hc (by omega) (by omega) (fun h7 => ?_) (fun h7 => ?_)
  · have eg : fx_mn (D0 (t + 2)) a cnt = D0 (t + 2) := by unfold fx_mn; rw [if_neg (by omega)]
    rw [eg]
    refine EV.iload_n d_Ta_takeOut_35 rfl ?_
    refine EV.iconst (v := nI 1) d_Ta_takeOut_36 (by decide) ?_
    refine EV.iadd d_Ta_takeOut_37 ?_
    refine EV.top (nI_1 a) ?_
    refine EV.istore_n d_Ta_takeOut_38 (by decide) ?_
    refine EV.post (fun rv D' h => h) (lp_Ta_takeOut hT hc hle (cnt - (a + 1)) (a + 1) _ (by omega) (by omega) rfl ?_ ?_ ?_)
    · simp [mx_w, va_up, fx_dl_0]
    · simp [mx_w, va_up, fx_dl_0]
    · intro k k1 k2; simp [mx_w, va_up, k1, k2]
  · have eg : fx_mn (D0 (t + 2)) a cnt = upd (D0 (t + 2)) (a + 1) (if D0 (t + 2) (a + 1) < D0 (t + 2) a then D0 (t + 2) (a + 1) else D0 (t + 2) a) := by unfold fx_mn; rw [if_pos (by omega)]
    rw [eg]
    refine EV.aload_n d_Ta_takeOut_10 rfl ?_
    refine EV.getR fl_Ta_15 d_Ta_takeOut_11 (by first | assumption | rfl) rfl ?_
    refine EV.iload_n d_Ta_takeOut_14 rfl ?_
    refine EV.iconst (v := nI 1) d_Ta_takeOut_15 (by decide) ?_
    refine EV.iadd d_Ta_takeOut_16 ?_
    refine EV.aload_n d_Ta_takeOut_17 rfl ?_
    refine EV.getR fl_Ta_15 d_Ta_takeOut_18 (by first | assumption | rfl) rfl ?_
    refine EV.iload_n d_Ta_takeOut_21 rfl ?_
    refine EV.ialdN d_Ta_takeOut_22 (by first | assumption | rfl) rfl rfl (by omega) (by first | decide | omega) ?_
    refine EV.aload_n d_Ta_takeOut_23 rfl ?_
    refine EV.getR fl_Ta_15 d_Ta_takeOut_24 (by first | assumption | rfl) rfl ?_
    refine EV.iload_n d_Ta_takeOut_27 rfl ?_
    refine EV.iconst (v := nI 1) d_Ta_takeOut_28 (by decide) ?_
    refine EV.iadd d_Ta_takeOut_29 ?_
    refine EV.ialdN d_Ta_takeOut_30 (by first | assumption | rfl) rfl (nI_1 a) (by omega) (by first | decide | omega) ?_
    refine EV.mmin (mx_in 336 (by decide +kernel) (by decide +kernel)) mx_mm d_Ta_takeOut_31 rfl (Nat.le_of_ble_eq_true rfl) ?_
    refine EV.iastN d_Ta_takeOut_34 (by first | assumption | rfl) rfl (nI_1 a) (by omega) (by first | decide | omega) ?_
    refine EV.iload_n d_Ta_takeOut_35 rfl ?_
    refine EV.iconst (v := nI 1) d_Ta_takeOut_36 (by decide) ?_
    refine EV.iadd d_Ta_takeOut_37 ?_
    refine EV.top (nI_1 a) ?_
    refine EV.istore_n d_Ta_takeOut_38 (by decide) ?_
    refine EV.post (fun rv D' h => h) (lp_Ta_takeOut hT hc hle (cnt - (a + 1)) (a + 1) _ (by omega) (by omega) rfl ?_ ?_ ?_)
    · simp [mx_w, va_up, fx_dl_0]
    · simp [mx_w, va_up, fx_dl_0]
    · intro k k1 k2; simp [mx_w, va_up, k1, k2]
set_option maxHeartbeats 4000000 in
set_option maxRecDepth 100000 in
theorem lp_Ta_putIn {G : mx_G} {d : Nat} {S : List mx_Sh} {D0 : mx_Mem} {t cnt a : Nat} {x y : Int32} (hT : ShT S t) (hc : D0 t 5 = nI cnt) (hle : cnt < 30) : ∀ (n i : Nat), i ≤ cnt → a + 1 ≤ i → cnt - i = n → (∀ j, a + 1 ≤ j → j < i → y < D0 (t + 2) j) → EV G (d + 1) m_Ta_putIn 5 [some (.ref t), some (.int x), some (.int y), some (.int (nI a)), some (.int (nI i))] [] S D0 S (fun rv D' => rv = none ∧ ∃ p, Plc (D0 (t + 2)) y (a + 1) cnt p ∧ D' (t + 1) = fx_ins (D0 (t + 1)) p x cnt ∧ D' (t + 2) = fx_ins (D0 (t + 2)) p y cnt ∧ D' t = upd (D0 t) 5 (nI (cnt + 1)) ∧ ∀ k, ¬ k = t → ¬ k = t + 1 → ¬ k = t + 2 → D' k = D0 k) := by
  obtain ⟨hs0, hs1, hs2, hs3, hs4, hs5⟩ := id hT
  intro n
  induction n with
  | zero =>
    intro i h1 h2 h3 h4
    refine EV.iload d_Ta_putIn_5 rfl ?_
    refine EV.aload_n d_Ta_putIn_7 rfl ?_
    refine EV.getI fl_Ta_34 d_Ta_putIn_8 (by first | assumption | rfl) rfl ?_
    refine EV.icmp_geN (tgt := 31) d_Ta_putIn_11 (by decide) rfl hc (by omega) (by omega) (fun h11 => ?_) (fun h11 => ?_)
    · refine EV.aload_n d_Ta_putIn_31 rfl ?_
      refine EV.iload d_Ta_putIn_32 rfl ?_
      refine EV.iload_n d_Ta_putIn_34 rfl ?_
      refine EV.iload_n d_Ta_putIn_35 rfl ?_
      refine EV.V3 cv_Ta_27 d_Ta_putIn_36 (by first | assumption | rfl) (sp_Ta_insert hT hc hle (by omega)) ⟨Nat.le_refl _, Nat.le_refl _⟩ rfl rfl (Nat.le_of_ble_eq_true rfl) (fun rv D1 hp => ?_)
      obtain ⟨rfl, q1, q2, q3, q4⟩ := hp
      exact EV.return_ d_Ta_putIn_39 rfl ⟨rfl, i, ⟨h2, h1, h4, fun h => absurd h (by omega)⟩, q1, q2, q3, q4⟩
    · exfalso
      omega
  | succ n ih =>
    intro i h1 h2 h3 h4
    refine EV.iload d_Ta_putIn_5 rfl ?_
    refine EV.aload_n d_Ta_putIn_7 rfl ?_
    refine EV.getI fl_Ta_34 d_Ta_putIn_8 (by first | assumption | rfl) rfl ?_
    refine EV.icmp_geN (tgt := 31) d_Ta_putIn_11 (by decide) rfl hc (by omega) (by omega) (fun h11 => ?_) (fun h11 => ?_)
    · exfalso
      omega
    · refine EV.aload_n d_Ta_putIn_14 rfl ?_
      refine EV.getR fl_Ta_15 d_Ta_putIn_15 (by first | assumption | rfl) rfl ?_
      refine EV.iload d_Ta_putIn_18 rfl ?_
      refine EV.ialdN d_Ta_putIn_20 (by first | assumption | rfl) rfl rfl (by omega) (by first | decide | omega) ?_
      refine EV.iload_n d_Ta_putIn_21 rfl ?_
      refine EV.icmp_le (tgt := 31) d_Ta_putIn_22 (by decide) (fun h22 => ?_) (fun h22 => ?_)
      · refine EV.aload_n d_Ta_putIn_31 rfl ?_
        refine EV.iload d_Ta_putIn_32 rfl ?_
        refine EV.iload_n d_Ta_putIn_34 rfl ?_
        refine EV.iload_n d_Ta_putIn_35 rfl ?_
        refine EV.V3 cv_Ta_27 d_Ta_putIn_36 (by first | assumption | rfl) (sp_Ta_insert hT hc hle (by omega)) ⟨Nat.le_refl _, Nat.le_refl _⟩ rfl rfl (Nat.le_of_ble_eq_true rfl) (fun rv D1 hp => ?_)
        obtain ⟨rfl, q1, q2, q3, q4⟩ := hp
        exact EV.return_ d_Ta_putIn_39 rfl ⟨rfl, i, ⟨h2, h1, h4, fun _ h => absurd h (Int32.not_lt.mpr h22)⟩, q1, q2, q3, q4⟩
      · refine EV.iincN d_Ta_putIn_25 rfl (by decide) ?_
        refine EV.goto (tgt := 5) d_Ta_putIn_28 (by decide) ?_
        exact ih (i + 1) (by omega) (by omega) (by omega) (fun j j1 j2 => by
          rcases Nat.lt_or_ge j i with q | q
          · exact h4 j j1 q
          · rw [show j = i by omega]; exact Int32.not_le.mp h22)
set_option maxHeartbeats 4000000 in
set_option maxRecDepth 100000 in
theorem sp_Ta_putIn {G : mx_G} {d : Nat} {S : List mx_Sh} {D0 : mx_Mem} {t cnt a : Nat} {x y : Int32} (hT : ShT S t) (hc : D0 t 5 = nI cnt) (hle : cnt < 30) (ha : a < cnt) : EV G (d + 1) m_Ta_putIn 0 (mx_lc0 m_Ta_putIn [.ref t, .int x, .int y, .int (nI a)]) [] S D0 S (fun rv D' => rv = none ∧ ∃ p, Plc (D0 (t + 2)) y (a + 1) cnt p ∧ D' (t + 1) = fx_ins (D0 (t + 1)) p x cnt ∧ D' (t + 2) = fx_ins (D0 (t + 2)) p y cnt ∧ D' t = upd (D0 t) 5 (nI (cnt + 1)) ∧ ∀ k, ¬ k = t → ¬ k = t + 1 → ¬ k = t + 2 → D' k = D0 k) := by
  show EV _ _ _ _ [some (.ref t), some (.int x), some (.int y), some (.int (nI a)), none] [] _ _ _ _
  refine EV.iload_n d_Ta_putIn_0 rfl ?_
  refine EV.iconst (v := nI 1) d_Ta_putIn_1 (by decide) ?_
  refine EV.iadd d_Ta_putIn_2 ?_
  refine EV.top (nI_1 a) ?_
  refine EV.istore d_Ta_putIn_3 (by decide) ?_
  exact lp_Ta_putIn hT hc hle (cnt - (a + 1)) (a + 1) (by omega) (by omega) rfl (fun j j1 j2 => absurd j1 (by omega))
set_option maxHeartbeats 4000000 in
set_option maxRecDepth 100000 in
theorem lp_Ta_weigh {G : mx_G} {d : Nat} {S : List mx_Sh} {D0 : mx_Mem} {t cnt : Nat} {sf : Nat → Nat} (hT : ShT S t) (hc : D0 t 5 = nI cnt) (hle : cnt ≤ 30) (hsf : ∀ j, j < cnt → D0 (t + 2) j = nI (sf j) ∧ sf j < 2 ^ 31) : ∀ (n i : Nat) (D : mx_Mem), i ≤ cnt → cnt - i = n → (∀ j, j < i → D (t + 3) j = nI (ps_wt sf (j + 1)).1 ∧ D (t + 4) j = nI (ps_wt sf (j + 1)).2.1 ∧ D (t + 5) j = nI (ps_wt sf (j + 1)).2.2) → (∀ k, ¬ k = t + 3 → ¬ k = t + 4 → ¬ k = t + 5 → D k = D0 k) → EV G d m_Ta_weigh 9 [some (.ref t), some (.int (nI (ps_wt sf i).1)), some (.int (nI (ps_wt sf i).2.1)), some (.int (nI (ps_wt sf i).2.2)), some (.int (nI i))] [] S D S (fun rv D' => rv = none ∧ (∀ j, j < cnt → D' (t + 3) j = nI (ps_wt sf (j + 1)).1 ∧ D' (t + 4) j = nI (ps_wt sf (j + 1)).2.1 ∧ D' (t + 5) j = nI (ps_wt sf (j + 1)).2.2) ∧ ∀ k, ¬ k = t + 3 → ¬ k = t + 4 → ¬ k = t + 5 → D' k = D0 k) := by
  obtain ⟨hs0, hs1, hs2, hs3, hs4, hs5⟩ := id hT
  intro n
  induction n with
  | zero =>
    intro i D h1 h2 h3 ho
    have hc2 : D t 5 = nI cnt := by rw [ho t (by omega) (by omega) (by omega)]; exact hc
    refine EV.iload d_Ta_weigh_9 rfl ?_
    refine EV.aload_n d_Ta_weigh_11 rfl ?_
    refine EV.getI fl_Ta_34 d_Ta_weigh_12 (by first | assumption | rfl) rfl ?_
    refine EV.icmp_geN (tgt := 102) d_Ta_weigh_15 (by decide) rfl hc2 (by omega) (by omega) (fun h15 => ?_) (fun h15 => ?_)
    · exact EV.return_ d_Ta_weigh_102 rfl ⟨rfl, fun j hj => h3 j (by omega), ho⟩
    · exfalso
      omega
  | succ n ih =>
    intro i D h1 h2 h3 ho
    have hc2 : D t 5 = nI cnt := by rw [ho t (by omega) (by omega) (by omega)]; exact hc
    have hst : D (t + 2) i = nI (sf i) := by rw [ho (t + 2) (by omega) (by omega) (by omega)]; exact (hsf i (by omega)).1
    have hsl : sf i < 2 ^ 31 := (hsf i (by omega)).2
    have hw : ps_wt sf (i + 1) = ps_ws (ps_wt sf i) (sf i) := rfl
    have J : EV G d m_Ta_weigh 72 [some (.ref t), some (.int (nI (ps_wt sf (i + 1)).1)), some (.int (nI (ps_wt sf (i + 1)).2.1)), some (.int (nI (ps_wt sf (i + 1)).2.2)), some (.int (nI i))] [] S D S (fun rv D' => rv = none ∧ (∀ j, j < cnt → D' (t + 3) j = nI (ps_wt sf (j + 1)).1 ∧ D' (t + 4) j = nI (ps_wt sf (j + 1)).2.1 ∧ D' (t + 5) j = nI (ps_wt sf (j + 1)).2.2) ∧ ∀ k, ¬ k = t + 3 → ¬ k = t + 4 → ¬ k = t + 5 → D' k = D0 k) := by
      refine EV.aload_n d_Ta_weigh_72 rfl ?_
      refine EV.getR fl_Ta_18 d_Ta_weigh_73 (by first | assumption | rfl) rfl ?_
      refine EV.iload d_Ta_weigh_76 rfl ?_
      refine EV.iload_n d_Ta_weigh_78 rfl ?_
      refine EV.iastN d_Ta_weigh_79 (by first | assumption | rfl) rfl rfl (by omega) (by first | decide | omega) ?_
      refine EV.aload_n d_Ta_weigh_80 rfl ?_
      refine EV.getR fl_Ta_21 d_Ta_weigh_81 (by first | assumption | rfl) rfl ?_
      refine EV.iload d_Ta_weigh_84 rfl ?_
      refine EV.iload_n d_Ta_weigh_86 rfl ?_
      refine EV.iastN d_Ta_weigh_87 (by first | assumption | rfl) rfl rfl (by omega) (by first | decide | omega) ?_
      refine EV.aload_n d_Ta_weigh_88 rfl ?_
      refine EV.getR fl_Ta_24 d_Ta_weigh_89 (by first | assumption | rfl) rfl ?_
      refine EV.iload d_Ta_weigh_92 rfl ?_
      refine EV.iload_n d_Ta_weigh_94 rfl ?_
      refine EV.iastN d_Ta_weigh_95 (by first | assumption | rfl) rfl rfl (by omega) (by first | decide | omega) ?_
      refine EV.iincN d_Ta_weigh_96 rfl (by decide) ?_
      refine EV.goto (tgt := 9) d_Ta_weigh_99 (by decide) ?_
      refine ih (i + 1) _ (by omega) (by omega) ?_ ?_
      · intro j hj
        by_cases q : j = i
        · subst q; simp [mx_w, va_up, upd]
        · have q2 := h3 j (by omega)
          simp [mx_w, va_up, upd, q, q2]
      · intro k k1 k2 k3; simp [mx_w, va_up, k1, k2, k3, ho k k1 k2 k3]
    refine EV.iload d_Ta_weigh_9 rfl ?_
    refine EV.aload_n d_Ta_weigh_11 rfl ?_
    refine EV.getI fl_Ta_34 d_Ta_weigh_12 (by first | assumption | rfl) rfl ?_
    refine EV.icmp_geN (tgt := 102) d_Ta_weigh_15 (by decide) rfl hc2 (by omega) (by omega) (fun h15 => ?_) (fun h15 => ?_)
    · exfalso
      omega
    · refine EV.aload_n d_Ta_weigh_18 rfl ?_
      refine EV.getR fl_Ta_15 d_Ta_weigh_19 (by first | assumption | rfl) rfl ?_
      refine EV.iload d_Ta_weigh_22 rfl ?_
      refine EV.ialdN d_Ta_weigh_24 (by first | assumption | rfl) rfl rfl (by omega) (by first | decide | omega) ?_
      refine EV.iconst (v := nI 1) d_Ta_weigh_25 (by decide) ?_
      refine EV.icmp_neN (tgt := 39) d_Ta_weigh_26 (by decide) hst rfl (by omega) (by omega) (fun h26 => ?_) (fun h26 => ?_)
      · refine EV.aload_n d_Ta_weigh_39 rfl ?_
        refine EV.getR fl_Ta_15 d_Ta_weigh_40 (by first | assumption | rfl) rfl ?_
        refine EV.iload d_Ta_weigh_43 rfl ?_
        refine EV.ialdN d_Ta_weigh_45 (by first | assumption | rfl) rfl rfl (by omega) (by first | decide | omega) ?_
        refine EV.iconst (v := nI 2) d_Ta_weigh_46 (by decide) ?_
        refine EV.icmp_neN (tgt := 58) d_Ta_weigh_47 (by decide) hst rfl (by omega) (by omega) (fun h47 => ?_) (fun h47 => ?_)
        · refine EV.aload_n d_Ta_weigh_58 rfl ?_
          refine EV.getR fl_Ta_15 d_Ta_weigh_59 (by first | assumption | rfl) rfl ?_
          refine EV.iload d_Ta_weigh_62 rfl ?_
          refine EV.ialdN d_Ta_weigh_64 (by first | assumption | rfl) rfl rfl (by omega) (by first | decide | omega) ?_
          refine EV.iconst (v := nI 3) d_Ta_weigh_65 (by decide) ?_
          refine EV.icmp_neN (tgt := 72) d_Ta_weigh_66 (by decide) hst rfl (by omega) (by omega) (fun h66 => ?_) (fun h66 => ?_)
          · have e1 := hw
            first | simp [ps_ws, h26, h47, h66] at e1 | simp [ps_ws, h26, h47] at e1 | simp [ps_ws, h26] at e1
            rw [e1] at J
            exact J
          · refine EV.iincN d_Ta_weigh_69 rfl (by decide) ?_
            have e1 := hw
            first | simp [ps_ws, h26, h47, h66] at e1 | simp [ps_ws, h26, h47] at e1 | simp [ps_ws, h26] at e1
            rw [e1] at J
            exact J
        · refine EV.iincN d_Ta_weigh_50 rfl (by decide) ?_
          refine EV.iconst (v := nI 1) d_Ta_weigh_53 (by decide) ?_
          refine EV.istore_n d_Ta_weigh_54 (by decide) ?_
          refine EV.goto (tgt := 72) d_Ta_weigh_55 (by decide) ?_
          have e1 := hw
          first | simp [ps_ws, h26, h47, h66] at e1 | simp [ps_ws, h26, h47] at e1 | simp [ps_ws, h26] at e1
          rw [e1] at J
          exact J
      · refine EV.iincN d_Ta_weigh_29 rfl (by decide) ?_
        refine EV.iconst (v := nI 1) d_Ta_weigh_32 (by decide) ?_
        refine EV.istore_n d_Ta_weigh_33 (by decide) ?_
        refine EV.iconst (v := nI 1) d_Ta_weigh_34 (by decide) ?_
        refine EV.istore_n d_Ta_weigh_35 (by decide) ?_
        refine EV.goto (tgt := 72) d_Ta_weigh_36 (by decide) ?_
        have e1 := hw
        first | simp [ps_ws, h26, h47, h66] at e1 | simp [ps_ws, h26, h47] at e1 | simp [ps_ws, h26] at e1
        rw [e1] at J
        exact J
set_option maxHeartbeats 4000000 in
set_option maxRecDepth 100000 in
theorem sp_Ta_weigh {G : mx_G} {d : Nat} {S : List mx_Sh} {D0 : mx_Mem} {t cnt : Nat} {sf : Nat → Nat} (hT : ShT S t) (hc : D0 t 5 = nI cnt) (hle : cnt ≤ 30) (hsf : ∀ j, j < cnt → D0 (t + 2) j = nI (sf j) ∧ sf j < 2 ^ 31) : EV G d m_Ta_weigh 0 (mx_lc0 m_Ta_weigh [.ref t]) [] S D0 S (fun rv D' => rv = none ∧ (∀ j, j < cnt → D' (t + 3) j = nI (ps_wt sf (j + 1)).1 ∧ D' (t + 4) j = nI (ps_wt sf (j + 1)).2.1 ∧ D' (t + 5) j = nI (ps_wt sf (j + 1)).2.2) ∧ ∀ k, ¬ k = t + 3 → ¬ k = t + 4 → ¬ k = t + 5 → D' k = D0 k) := by
  show EV _ _ _ _ [some (.ref t), none, none, none, none] [] _ _ _ _
  refine EV.iconst (v := nI 0) d_Ta_weigh_0 (by decide) ?_
  refine EV.istore_n d_Ta_weigh_1 (by decide) ?_
  refine EV.iconst (v := nI 1) d_Ta_weigh_2 (by decide) ?_
  refine EV.istore_n d_Ta_weigh_3 (by decide) ?_
  refine EV.iconst (v := nI 1) d_Ta_weigh_4 (by decide) ?_
  refine EV.istore_n d_Ta_weigh_5 (by decide) ?_
  refine EV.iconst (v := nI 0) d_Ta_weigh_6 (by decide) ?_
  refine EV.istore d_Ta_weigh_7 (by decide) ?_
  exact lp_Ta_weigh hT hc hle hsf cnt 0 D0 (by omega) rfl (fun j hj => absurd hj (by omega)) (fun _ _ _ _ => rfl)
set_option maxHeartbeats 4000000 in
set_option maxRecDepth 100000 in
theorem sp_Ta_copyFrom {G : mx_G} {d : Nat} {S : List mx_Sh} {D0 : mx_Mem} {t o cnt : Nat} {sf : Nat → Nat} (hT : ShT S t) (hO : ShT S o) (hto : o + 5 < t ∨ t + 5 < o) (hc : D0 o 5 = nI cnt) (hle : cnt ≤ 30) (hsf : ∀ j, j < cnt → D0 (o + 2) j = nI (sf j) ∧ sf j < 2 ^ 31) : EV G (d + 1) m_Ta_copyFrom 0 (mx_lc0 m_Ta_copyFrom [.ref t, .ref o]) [] S D0 S (fun rv D' => rv = none ∧ D' t = upd (D0 t) 5 (nI cnt) ∧ (∀ j, j < 30 → D' (t + 1) j = D0 (o + 1) j ∧ D' (t + 2) j = D0 (o + 2) j) ∧ (∀ j, j < cnt → D' (t + 3) j = nI (ps_wt sf (j + 1)).1 ∧ D' (t + 4) j = nI (ps_wt sf (j + 1)).2.1 ∧ D' (t + 5) j = nI (ps_wt sf (j + 1)).2.2) ∧ ∀ k, ¬ k = t → ¬ k = t + 1 → ¬ k = t + 2 → ¬ k = t + 3 → ¬ k = t + 4 → ¬ k = t + 5 → D' k = D0 k) := by
  obtain ⟨hs0, hs1, hs2, hs3, hs4, hs5⟩ := id hT
  obtain ⟨ho0, ho1, ho2, ho3, ho4, ho5⟩ := id hO
  show EV _ _ _ _ [some (.ref t), some (.ref o)] [] _ _ _ _
  refine EV.aload_n d_Ta_copyFrom_0 rfl ?_
  refine EV.aload_n d_Ta_copyFrom_1 rfl ?_
  refine EV.getI fl_Ta_34 d_Ta_copyFrom_2 (by first | assumption | rfl) rfl ?_
  refine EV.top hc ?_
  refine EV.putI fl_Ta_34 d_Ta_copyFrom_5 (by first | assumption | rfl) rfl rfl rfl ?_
  refine EV.aload_n d_Ta_copyFrom_8 rfl ?_
  refine EV.getR fl_Ta_9 d_Ta_copyFrom_9 (by first | assumption | rfl) rfl ?_
  refine EV.iconst (v := nI 0) d_Ta_copyFrom_12 (by decide) ?_
  refine EV.aload_n d_Ta_copyFrom_13 rfl ?_
  refine EV.getR fl_Ta_9 d_Ta_copyFrom_14 (by first | assumption | rfl) rfl ?_
  refine EV.iconst (v := nI 0) d_Ta_copyFrom_17 (by decide) ?_
  refine EV.bipush (v := nI 30) d_Ta_copyFrom_18 (by decide) ?_
  refine EV.acopy (mx_in 317 (by decide +kernel) (by decide +kernel)) mx_ac d_Ta_copyFrom_20 (by first | assumption | rfl) (by first | assumption | rfl) rfl (by decide) (by decide) (by decide) (by decide) (by decide) rfl (Nat.le_of_ble_eq_true rfl) ?_
  refine EV.aload_n d_Ta_copyFrom_23 rfl ?_
  refine EV.getR fl_Ta_15 d_Ta_copyFrom_24 (by first | assumption | rfl) rfl ?_
  refine EV.iconst (v := nI 0) d_Ta_copyFrom_27 (by decide) ?_
  refine EV.aload_n d_Ta_copyFrom_28 rfl ?_
  refine EV.getR fl_Ta_15 d_Ta_copyFrom_29 (by first | assumption | rfl) rfl ?_
  refine EV.iconst (v := nI 0) d_Ta_copyFrom_32 (by decide) ?_
  refine EV.bipush (v := nI 30) d_Ta_copyFrom_33 (by decide) ?_
  refine EV.acopy (mx_in 317 (by decide +kernel) (by decide +kernel)) mx_ac d_Ta_copyFrom_35 (by first | assumption | rfl) (by first | assumption | rfl) rfl (by decide) (by decide) (by decide) (by decide) (by decide) rfl (Nat.le_of_ble_eq_true rfl) ?_
  refine EV.aload_n d_Ta_copyFrom_38 rfl ?_
  refine EV.V0 cv_Ta_31 d_Ta_copyFrom_39 (by first | assumption | rfl) (sp_Ta_weigh (cnt := cnt) (sf := sf) hT (by simp [va_up, mx_w, upd]) hle (fun j hj => ⟨by simp [va_up, mx_w, show ¬ o + 2 = t by omega, show ¬ o + 2 = t + 1 by omega, show ¬ t + 2 = o + 1 by omega, show ¬ t + 2 = t by omega, show ¬ o + 2 = t + 2 by omega]; rw [pk_cpy_in (by rw [nI0_c]; exact Nat.zero_le _) (by rw [nI0_c, nI30_c]; omega)]; simpa [nI0_c] using (hsf j hj).1, (hsf j hj).2⟩)) ⟨Nat.le_refl _, Nat.le_refl _⟩ rfl rfl (Nat.le_of_ble_eq_true rfl) (fun rv D1 hp => ?_)
  obtain ⟨rfl, q1, q2⟩ := hp
  have nt : ∀ a b, a ≤ 5 → b ≤ 5 → ¬ t + a = o + b := fun a b ha hb => by omega
  exact EV.return_ d_Ta_copyFrom_42 rfl ⟨rfl, by rw [q2 t (by omega) (by omega) (by omega)]; simp [va_up, mx_w], fun j hj => ⟨by rw [q2 (t + 1) (by omega) (by omega) (by omega)]; simp [va_up, mx_w, show ¬ o + 1 = t by omega]; rw [pk_cpy_in (by rw [nI0_c]; exact Nat.zero_le _) (by rw [nI0_c, nI30_c]; omega)]; simp [nI0_c], by rw [q2 (t + 2) (by omega) (by omega) (by omega)]; simp [va_up, mx_w, show ¬ o + 2 = t by omega, show ¬ o + 2 = t + 1 by omega]; rw [pk_cpy_in (by rw [nI0_c]; exact Nat.zero_le _) (by rw [nI0_c, nI30_c]; omega)]; simp [nI0_c]⟩, q1, fun k k0 k1 k2 k3 k4 k5 => by rw [q2 k k3 k4 k5]; simp [va_up, mx_w, k0, k1, k2]⟩
/-- entry j's string begins the head -/
def HdM (e : Nat → Nat) (h j : Nat) : Prop := h % 256 ^ ps_len (e j) = e j
def Lng (e : Nat → Nat) (h n b bl : Nat) : Prop := (b = 0 ∧ bl = 0 ∧ ∀ j, j < n → ¬ HdM e h j) ∨ (b < n ∧ HdM e h b ∧ bl = ps_len (e b) ∧ ∀ j, j < n → HdM e h j → ps_len (e j) ≤ bl)
theorem ps_len_or (s : Nat) : ps_len s = 1 ∨ ps_len s = 2 ∨ ps_len s = 3 := by unfold ps_len; split; simp; split <;> simp
set_option maxHeartbeats 4000000 in
set_option maxRecDepth 100000 in
theorem lp_Ta_findLongest {G : mx_G} {d : Nat} {S : List mx_Sh} {D : mx_Mem} {t cnt h : Nat} {e : Nat → Nat} (hT : ShT S t) (hc : D t 5 = nI cnt) (hle : cnt ≤ 30) (hh : h < 2 ^ 31) (he : ∀ j, j < cnt → D (t + 1) j = nI (e j) ∧ e j < 2 ^ 31) : ∀ (n i b bl : Nat), i ≤ cnt → cnt - i = n → Lng e h i b bl → b < 2 ^ 30 → bl < 4 → EV G (d + 1) m_Ta_findLongest 7 [some (.ref t), some (.int (nI h)), some (.int (nI b)), some (.int (nI bl)), some (.int (nI i)), none] [] S D S (fun rv D' => D' = D ∧ ∃ b bl, rv = some (.int (nI b)) ∧ Lng e h cnt b bl) := by
  obtain ⟨hs0, hs1, hs2, hs3, hs4, hs5⟩ := id hT
  intro n
  induction n with
  | zero =>
    intro i b bl h1 h2 h3 hb hbl
    refine EV.iload d_Ta_findLongest_7 rfl ?_
    refine EV.aload_n d_Ta_findLongest_9 rfl ?_
    refine EV.getI fl_Ta_34 d_Ta_findLongest_10 (by first | assumption | rfl) rfl ?_
    refine EV.icmp_geN (tgt := 62) d_Ta_findLongest_13 (by decide) rfl hc (by omega) (by omega) (fun h13 => ?_) (fun h13 => ?_)
    · refine EV.iload_n d_Ta_findLongest_62 rfl ?_
      exact EV.ireturn d_Ta_findLongest_63 ⟨_, rfl, rfl⟩ ⟨rfl, b, bl, rfl, by rw [show cnt = i by omega]; exact h3⟩
    · exfalso
      omega
  | succ n ih =>
    intro i b bl h1 h2 h3 hb hbl
    have hei : D (t + 1) i = nI (e i) ∧ e i < 2 ^ 31 := he i (by omega)
    have hlen := ps_len_or (e i)
    refine EV.iload d_Ta_findLongest_7 rfl ?_
    refine EV.aload_n d_Ta_findLongest_9 rfl ?_
    refine EV.getI fl_Ta_34 d_Ta_findLongest_10 (by first | assumption | rfl) rfl ?_
    refine EV.icmp_geN (tgt := 62) d_Ta_findLongest_13 (by decide) rfl hc (by omega) (by omega) (fun h13 => ?_) (fun h13 => ?_)
    · exfalso
      omega
    · refine EV.aload_n d_Ta_findLongest_16 rfl ?_
      refine EV.getR fl_Ta_9 d_Ta_findLongest_17 (by first | assumption | rfl) rfl ?_
      refine EV.iload d_Ta_findLongest_20 rfl ?_
      refine EV.ialdN d_Ta_findLongest_22 (by first | assumption | rfl) rfl rfl (by omega) (by first | decide | omega) ?_
      refine EV.top hei.1 ?_
      refine EV.T1 cs_Ta_44 d_Ta_findLongest_23 (sp_To_lengthOf hei.2) ⟨Nat.le_refl _, Nat.le_refl _⟩ rfl rfl (Nat.le_of_ble_eq_true rfl) (fun rv D1 hp => ?_)
      obtain ⟨rfl, hD⟩ := hp
      obtain rfl := hD.symm
      refine EV.istore d_Ta_findLongest_26 (by decide) ?_
      refine EV.iload d_Ta_findLongest_28 rfl ?_
      refine EV.iload_n d_Ta_findLongest_30 rfl ?_
      refine EV.icmp_leN (tgt := 56) d_Ta_findLongest_31 (by decide) rfl rfl (by omega) (by omega) (fun h31 => ?_) (fun h31 => ?_)
      · refine EV.iincN d_Ta_findLongest_56 rfl (by decide) ?_
        refine EV.goto (tgt := 7) d_Ta_findLongest_59 (by decide) ?_
        refine EV.wk (lc2 := [some (.ref t), some (.int (nI h)), some (.int (nI b)), some (.int (nI bl)), some (.int (nI (i + 1))), none]) (fun k v hk => by
          match k with
          | 0 | 1 | 2 | 3 | 4 => exact hk
          | 5 => simp at hk
          | k + 6 => simp at hk) ?_
        exact ih (i + 1) b bl (by omega) (by omega) (by
          rcases h3 with ⟨a1, a2, a3⟩ | ⟨a1, a2, a3, a4⟩
          · exact Or.inl ⟨a1, a2, fun j hj q => by
              rcases Nat.lt_or_ge j i with z | z
              · exact a3 j z q
              · have ej : j = i := by omega
                subst ej
                first | omega | exact h47 q⟩
          · exact Or.inr ⟨by omega, a2, a3, fun j hj q => by
              rcases Nat.lt_or_ge j i with z | z
              · exact a4 j z q
              · have ej : j = i := by omega
                subst ej
                first | omega | exact absurd q h47⟩) (by omega) (by omega)
      · refine EV.iload_n d_Ta_findLongest_34 rfl ?_
        refine EV.iload d_Ta_findLongest_35 rfl ?_
        refine EV.T2 cs_Ta_48 d_Ta_findLongest_37 (sp_To_firstOf hlen hh) ⟨Nat.le_refl _, Nat.le_refl _⟩ rfl rfl (Nat.le_of_ble_eq_true rfl) (fun rv D1 hp => ?_)
        obtain ⟨rfl, hD⟩ := hp
        obtain rfl := hD.symm
        refine EV.aload_n d_Ta_findLongest_40 rfl ?_
        refine EV.getR fl_Ta_9 d_Ta_findLongest_41 (by first | assumption | rfl) rfl ?_
        refine EV.iload d_Ta_findLongest_44 rfl ?_
        refine EV.ialdN d_Ta_findLongest_46 (by first | assumption | rfl) rfl rfl (by omega) (by first | decide | omega) ?_
        refine EV.icmp_neN (tgt := 56) d_Ta_findLongest_47 (by decide) rfl hei.1 (Nat.lt_of_le_of_lt (Nat.mod_le _ _) hh) (by omega) (fun h47 => ?_) (fun h47 => ?_)
        · refine EV.iincN d_Ta_findLongest_56 rfl (by decide) ?_
          refine EV.goto (tgt := 7) d_Ta_findLongest_59 (by decide) ?_
          refine EV.wk (lc2 := [some (.ref t), some (.int (nI h)), some (.int (nI b)), some (.int (nI bl)), some (.int (nI (i + 1))), none]) (fun k v hk => by
            match k with
            | 0 | 1 | 2 | 3 | 4 => exact hk
            | 5 => simp at hk
            | k + 6 => simp at hk) ?_
          exact ih (i + 1) b bl (by omega) (by omega) (by
            rcases h3 with ⟨a1, a2, a3⟩ | ⟨a1, a2, a3, a4⟩
            · exact Or.inl ⟨a1, a2, fun j hj q => by
                rcases Nat.lt_or_ge j i with z | z
                · exact a3 j z q
                · have ej : j = i := by omega
                  subst ej
                  first | omega | exact h47 q⟩
            · exact Or.inr ⟨by omega, a2, a3, fun j hj q => by
                rcases Nat.lt_or_ge j i with z | z
                · exact a4 j z q
                · have ej : j = i := by omega
                  subst ej
                  first | omega | exact absurd q h47⟩) (by omega) (by omega)
        · refine EV.iload d_Ta_findLongest_50 rfl ?_
          refine EV.istore_n d_Ta_findLongest_52 (by decide) ?_
          refine EV.iload d_Ta_findLongest_53 rfl ?_
          refine EV.istore_n d_Ta_findLongest_55 (by decide) ?_
          refine EV.iincN d_Ta_findLongest_56 rfl (by decide) ?_
          refine EV.goto (tgt := 7) d_Ta_findLongest_59 (by decide) ?_
          refine EV.wk (lc2 := [some (.ref t), some (.int (nI h)), some (.int (nI i)), some (.int (nI (ps_len (e i)))), some (.int (nI (i + 1))), none]) (fun k v hk => by
            match k with
            | 0 | 1 | 2 | 3 | 4 => exact hk
            | 5 => simp at hk
            | k + 6 => simp at hk) ?_
          exact ih (i + 1) i (ps_len (e i)) (by omega) (by omega) (by
            refine Or.inr ⟨by omega, h47, rfl, fun j hj q => ?_⟩
            rcases Nat.lt_or_ge j i with z | z
            · rcases h3 with ⟨a1, a2, a3⟩ | ⟨a1, a2, a3, a4⟩
              · exact absurd q (a3 j z)
              · have := a4 j z q
                omega
            · rw [show j = i by omega]
              exact Nat.le_refl _) (by omega) (by omega)
set_option maxHeartbeats 4000000 in
set_option maxRecDepth 100000 in
theorem sp_Ta_findLongest {G : mx_G} {d : Nat} {S : List mx_Sh} {D : mx_Mem} {t cnt h : Nat} {e : Nat → Nat} (hT : ShT S t) (hc : D t 5 = nI cnt) (hle : cnt ≤ 30) (hh : h < 2 ^ 31) (he : ∀ j, j < cnt → D (t + 1) j = nI (e j) ∧ e j < 2 ^ 31) : EV G (d + 1) m_Ta_findLongest 0 (mx_lc0 m_Ta_findLongest [.ref t, .int (nI h)]) [] S D S (fun rv D' => D' = D ∧ ∃ b bl, rv = some (.int (nI b)) ∧ Lng e h cnt b bl) := by
  show EV _ _ _ _ [some (.ref t), some (.int (nI h)), none, none, none, none] [] _ _ _ _
  refine EV.iconst (v := nI 0) d_Ta_findLongest_0 (by decide) ?_
  refine EV.istore_n d_Ta_findLongest_1 (by decide) ?_
  refine EV.iconst (v := nI 0) d_Ta_findLongest_2 (by decide) ?_
  refine EV.istore_n d_Ta_findLongest_3 (by decide) ?_
  refine EV.iconst (v := nI 0) d_Ta_findLongest_4 (by decide) ?_
  refine EV.istore d_Ta_findLongest_5 (by decide) ?_
  exact lp_Ta_findLongest hT hc hle hh he cnt 0 0 0 (by omega) rfl (Or.inl ⟨rfl, rfl, fun j hj => absurd hj (by omega)⟩) (by omega) (by omega)
end
section
/-! the table as a list of strings with steps -/
abbrev ps_T : Type := List (List Nat × Nat)
def ps_so (s : List Nat) : Prop := 1 ≤ s.length ∧ s.length ≤ 3 ∧ ∀ c ∈ s, 0 < c ∧ c < 128
def ps_ok (tb : ps_T) : Prop := (∀ e ∈ tb, ps_so e.1 ∧ 1 ≤ e.2 ∧ e.2 ≤ 4) ∧ tb.length ≤ 30 ∧ ∀ (i j : Nat) (a b : List Nat × Nat), tb[i]? = some a → tb[j]? = some b → a.1 = b.1 → i = j
def TBf (b : Nat) (f g : Nat → Int32) (tb : ps_T) : Prop := ∀ (i : Nat) (e : List Nat × Nat), tb[i]? = some e → f i = nI (ps_enc b e.1) ∧ g i = nI e.2
def ps_idx (tb : ps_T) (s : List Nat) : Option Nat := tb.findIdx? (fun e => e.1 == s)
def ps_has (tb : ps_T) (s : List Nat) : Prop := ∃ e ∈ tb, e.1 = s
theorem ps_enc_b {b : Nat} (hb : b = 128 ∨ b = 256) {s : List Nat} (hs : ps_so s) : ps_enc b s < 2 ^ 24 := by
  have h1 : ps_enc b s < b ^ s.length := ps_enc_lt (fun c hc => by have := (hs.2.2 c hc).2; omega)
  have h2 : b ^ s.length ≤ b ^ 3 := Nat.pow_le_pow_right (by omega) hs.2.1
  rcases hb with rfl | rfl <;> omega
theorem ps_nI_eq {b : Nat} (hb : b = 128 ∨ b = 256) {s u : List Nat} (hs : ps_so s) (hu : ps_so u) : nI (ps_enc b s) = nI (ps_enc b u) ↔ s = u := by
  have h1 := ps_enc_b hb hs
  have h2 := ps_enc_b hb hu
  rw [nI_eq (by omega) (by omega)]
  constructor
  · exact ps_enc_inj (fun c hc => by have := hs.2.2 c hc; omega) (fun c hc => by have := hu.2.2 c hc; omega)
  · intro h; rw [h]
theorem ps_idx_some {tb : ps_T} {s : List Nat} {i : Nat} : ps_idx tb s = some i ↔ (∃ e, tb[i]? = some e ∧ e.1 = s) ∧ ∀ j e, j < i → tb[j]? = some e → ¬ e.1 = s := by
  unfold ps_idx
  rw [List.findIdx?_eq_some_iff_getElem]
  constructor
  · rintro ⟨h, h1, h2⟩
    refine ⟨⟨tb[i], List.getElem?_eq_getElem h, by simpa using h1⟩, fun j e hj he => ?_⟩
    obtain ⟨hl, rfl⟩ := List.getElem?_eq_some_iff.mp he
    simpa using h2 j hj
  · rintro ⟨⟨e, he, h1⟩, h2⟩
    obtain ⟨hl, rfl⟩ := List.getElem?_eq_some_iff.mp he
    refine ⟨hl, by simpa using h1, fun j hj => ?_⟩
    simpa using h2 j tb[j] hj (List.getElem?_eq_getElem _)
theorem ps_idx_none {tb : ps_T} {s : List Nat} : ps_idx tb s = none ↔ ¬ ps_has tb s := by
  unfold ps_idx ps_has
  rw [List.findIdx?_eq_none_iff]
  constructor
  · rintro h ⟨e, he, q⟩
    have := h e he
    rw [q] at this
    simp at this
  · intro h e he
    cases hq : (e.1 == s) with
    | false => rfl
    | true => exact absurd ⟨e, he, by simpa using hq⟩ h
theorem ps_idx_lt {tb : ps_T} {s : List Nat} {i : Nat} (h : ps_idx tb s = some i) : i < tb.length := by
  obtain ⟨⟨e, he, -⟩, -⟩ := ps_idx_some.mp h
  exact (List.getElem?_eq_some_iff.mp he).1
theorem Fnd_idx {b : Nat} (hb : b = 128 ∨ b = 256) {f g : Nat → Int32} {tb : ps_T} {s : List Nat} {r : Int32} (hok : ∀ e ∈ tb, ps_so e.1) (hT : TBf b f g tb) (hs : ps_so s) (h : Fnd f (nI (ps_enc b s)) tb.length r) : (∃ i, ps_idx tb s = some i ∧ i < tb.length ∧ r = nI i) ∨ (ps_idx tb s = none ∧ r = -1) := by
  have key : ∀ i e, tb[i]? = some e → (f i = nI (ps_enc b s) ↔ e.1 = s) := fun i e he => by
    rw [(hT i e he).1]
    exact ps_nI_eq hb (hok e (List.mem_of_getElem? he)) hs
  rcases h with ⟨i, h1, h2, h3, h4⟩ | ⟨h1, h2⟩
  · left
    have hi := List.getElem?_eq_getElem h1
    refine ⟨i, ps_idx_some.mpr ⟨⟨tb[i], hi, (key i _ hi).mp h2⟩, fun j e hj he q => h3 j hj ((key j e he).mpr q)⟩, h1, h4⟩
  · right
    refine ⟨ps_idx_none.mpr ?_, h2⟩
    rintro ⟨e, he, q⟩
    obtain ⟨i, hi⟩ := List.getElem?_of_mem he
    exact h1 i (List.getElem?_eq_some_iff.mp hi).1 ((key i e hi).mpr q)
/-- entry i goes; the one behind it takes the lesser step -/
def ps_out (tb : ps_T) (i : Nat) : ps_T := match tb[i]?, tb[i + 1]? with
  | some a, some b => (tb.set (i + 1) (b.1, min a.2 b.2)).eraseIdx i
  | _, _ => tb.eraseIdx i
theorem ps_out_at {tb : ps_T} {i j : Nat} (hi : i < tb.length) : (ps_out tb i)[j]? = if j < i then tb[j]? else if j = i then (tb[i + 1]?).map (fun b => (b.1, min (tb[i].2) b.2)) else tb[j + 1]? := by
  unfold ps_out
  rw [List.getElem?_eq_getElem hi]
  cases h : tb[i + 1]? with
  | none =>
    have hl : tb.length ≤ i + 1 := by simpa using h
    simp only [List.getElem?_eraseIdx, Option.map_none]
    by_cases h1 : j < i
    · simp [h1]
    · by_cases h2 : j = i
      · subst h2; simp; omega
      · simp [h1, h2]
  | some b =>
    simp only [List.getElem?_eraseIdx, Option.map_some]
    by_cases h1 : j < i
    · simp only [h1, if_true]
      rw [List.getElem?_set_ne (by omega)]
    · by_cases h2 : j = i
      · subst h2
        have hl : j + 1 < tb.length := (List.getElem?_eq_some_iff.mp h).1
        simp [hl]
      · simp only [h1, h2, if_false]
        rw [List.getElem?_set_ne (by omega)]
theorem ps_out_len {tb : ps_T} {i : Nat} (hi : i < tb.length) : (ps_out tb i).length = tb.length - 1 := by
  unfold ps_out
  split <;> simp [List.length_eraseIdx, hi]
theorem TBf_out {b : Nat} {f g : Nat → Int32} {tb : ps_T} {i : Nat} (hok : ps_ok tb) (hT : TBf b f g tb) (hi : i < tb.length) : TBf b (fx_dl f i tb.length) (fx_dl (fx_mn g i tb.length) i tb.length) (ps_out tb i) := by
  intro j e he
  have hl : j < tb.length - 1 := by rw [← ps_out_len hi]; exact (List.getElem?_eq_some_iff.mp he).1
  rw [ps_out_at hi] at he
  unfold fx_dl
  by_cases h1 : j < i
  · rw [if_pos h1] at he
    rw [if_neg (by omega), if_neg (by omega)]
    refine ⟨(hT j e he).1, ?_⟩
    rw [← (hT j e he).2]
    unfold fx_mn
    split
    · unfold upd; rw [if_neg (by omega)]
    · rfl
  · rw [if_neg h1] at he
    rw [if_pos (by omega), if_pos (by omega)]
    by_cases h2 : j = i
    · subst h2
      rw [if_pos rfl] at he
      have h3 : tb[j + 1]? = some tb[j + 1] := List.getElem?_eq_getElem (by omega)
      have h4 : tb[j]? = some tb[j] := List.getElem?_eq_getElem hi
      rw [h3] at he
      cases he
      refine ⟨(hT _ _ h3).1, ?_⟩
      have b1 := (hok.1 _ (List.mem_of_getElem? h3)).2
      have b2 := (hok.1 _ (List.mem_of_getElem? h4)).2
      unfold fx_mn
      rw [if_pos (by omega)]
      unfold upd
      rw [if_pos rfl, (hT _ _ h3).2, (hT _ _ h4).2]
      show _ = nI (min tb[j].2 tb[j + 1].2)
      by_cases h5 : tb[j + 1].2 < tb[j].2
      · rw [if_pos ((nI_ltI (by omega) (by omega)).mpr h5), Nat.min_eq_right (by omega)]
      · rw [if_neg (fun q => h5 ((nI_ltI (by omega) (by omega)).mp q)), Nat.min_eq_left (by omega)]
    · rw [if_neg h2] at he
      refine ⟨(hT _ e he).1, ?_⟩
      rw [← (hT _ e he).2]
      unfold fx_mn
      split
      · unfold upd; rw [if_neg (by omega)]
      · rfl
theorem ps_ins_at {tb : ps_T} {p j : Nat} {e : List Nat × Nat} (hp : p ≤ tb.length) : (tb.insertIdx p e)[j]? = if j < p then tb[j]? else if j = p then some e else tb[j - 1]? := by
  rw [List.getElem?_insertIdx]
  by_cases h1 : j < p
  · simp [h1]
  · by_cases h2 : j = p
    · subst h2; simp [hp]
    · simp [h1, h2]
theorem TBf_in {b : Nat} {f g : Nat → Int32} {tb : ps_T} {p y : Nat} {s : List Nat} (hT : TBf b f g tb) (hp : p ≤ tb.length) : TBf b (fx_ins f p (nI (ps_enc b s)) tb.length) (fx_ins g p (nI y) tb.length) (tb.insertIdx p (s, y)) := by
  intro j e he
  have hl : j < tb.length + 1 := by
    have := (List.getElem?_eq_some_iff.mp he).1
    rw [List.length_insertIdx_of_le_length hp] at this
    exact this
  rw [ps_ins_at hp] at he
  unfold fx_ins upd fx_sh
  by_cases h1 : j < p
  · rw [if_pos h1] at he
    rw [if_neg (by omega), if_neg (by omega), if_neg (by omega), if_neg (by omega)]
    exact hT j e he
  · rw [if_neg h1] at he
    by_cases h2 : j = p
    · subst h2
      rw [if_pos rfl] at he
      cases he
      rw [if_pos rfl, if_pos rfl]
      exact ⟨rfl, rfl⟩
    · rw [if_neg h2] at he
      rw [if_neg h2, if_neg h2, if_pos (by omega), if_pos (by omega)]
      exact hT _ e he
def ps_pl (y : Nat) : ps_T → Nat
  | [] => 0
  | e :: r => if y < e.2 then ps_pl y r + 1 else 0
theorem ps_pl_un (y : Nat) : ∀ (l : ps_T) (q : Nat), q ≤ l.length → (∀ j e, j < q → l[j]? = some e → y < e.2) → (∀ e, l[q]? = some e → ¬ y < e.2) → q = ps_pl y l := by
  intro l
  induction l with
  | nil => intro q h _ _; simp at h; exact h
  | cons e r ih =>
    intro q h1 h2 h3
    cases q with
    | zero =>
      have := h3 e rfl
      simp [ps_pl, this]
    | succ q =>
      have h4 := h2 0 e (by omega) rfl
      have := ih q (by simpa using h1) (fun j e' hj he => h2 (j + 1) e' (by omega) (by simpa using he)) (fun e' he => h3 e' (by simpa using he))
      simp [ps_pl, h4, ← this]
theorem Plc_pl {b : Nat} {f g : Nat → Int32} {tb : ps_T} {a p y : Nat} (hok : ps_ok tb) (hT : TBf b f g tb) (hy : y < 2 ^ 31) (h : Plc g (nI y) a tb.length p) : p = a + ps_pl y (tb.drop a) := by
  obtain ⟨h1, h2, h3, h4⟩ := h
  have key : ∀ j e, tb[j]? = some e → (nI y < g j ↔ y < e.2) := fun j e he => by
    have b1 := (hok.1 _ (List.mem_of_getElem? he)).2
    rw [(hT j e he).2]
    exact nI_ltI hy (by omega)
  have := ps_pl_un y (tb.drop a) (p - a) (by simp; omega) (fun j e hj he => by
    rw [List.getElem?_drop] at he
    exact (key _ e he).mp (h3 (a + j) (by omega) (by omega))) (fun e he q => by
    rw [List.getElem?_drop] at he
    have e1 : a + (p - a) = p := by omega
    rw [e1] at he
    exact h4 (List.getElem?_eq_some_iff.mp he).1 ((key _ e he).mpr q))
  omega
theorem ps_pl_le (y : Nat) : ∀ l : ps_T, ps_pl y l ≤ l.length := by
  intro l
  induction l with
  | nil => simp [ps_pl]
  | cons e r ih => simp only [ps_pl, List.length_cons]; split <;> omega
def ps_rm (tb : ps_T) (s : List Nat) : ps_T := match ps_idx tb s with
  | some i => ps_out tb i
  | none => tb
def ps_mv2 (tb1 : ps_T) (s a : List Nat) (y : Nat) : Int32 ⊕ ps_T := if 30 ≤ tb1.length then .inl (-102) else match ps_idx tb1 a with
  | some j => .inr (tb1.insertIdx (j + 1 + ps_pl y (tb1.drop (j + 1))) (s, y))
  | none => .inl 0
/-- one sign and string: the refusal's number, or the table behind it -/
def ps_move (tb : ps_T) (s a : List Nat) (y : Nat) : Int32 ⊕ ps_T := if s = a then .inl (-101) else ps_mv2 (ps_rm tb s) s a y
def ps_foll (tb : ps_T) (a : List Nat) : ps_T → Int32 ⊕ ps_T
  | [] => .inr tb
  | e :: r => match ps_move tb e.1 a e.2 with
    | .inl c => .inl c
    | .inr tb' => ps_foll tb' e.1 r
theorem ps_out_mem {tb : ps_T} {i : Nat} (hi : i < tb.length) {e : List Nat × Nat} (h : e ∈ ps_out tb i) : ∃ e' ∈ tb, e'.1 = e.1 ∧ (e.2 = e'.2 ∨ ∃ e'' ∈ tb, e.2 = min e''.2 e'.2) := by
  obtain ⟨j, hj⟩ := List.getElem?_of_mem h
  rw [ps_out_at hi] at hj
  by_cases h1 : j < i
  · rw [if_pos h1] at hj
    exact ⟨e, List.mem_of_getElem? hj, rfl, Or.inl rfl⟩
  · rw [if_neg h1] at hj
    by_cases h2 : j = i
    · rw [if_pos h2] at hj
      cases h3 : tb[i + 1]? with
      | none => rw [h3] at hj; cases hj
      | some b =>
        rw [h3] at hj
        cases hj
        exact ⟨b, List.mem_of_getElem? h3, rfl, Or.inr ⟨tb[i], List.getElem_mem hi, rfl⟩⟩
    · rw [if_neg h2] at hj
      exact ⟨e, List.mem_of_getElem? hj, rfl, Or.inl rfl⟩
theorem ps_out_str {tb : ps_T} {i j : Nat} {e : List Nat × Nat} (hi : i < tb.length) (h : (ps_out tb i)[j]? = some e) : ∃ e', tb[if j < i then j else j + 1]? = some e' ∧ e'.1 = e.1 := by
  rw [ps_out_at hi] at h
  by_cases h1 : j < i
  · rw [if_pos h1] at h ⊢
    exact ⟨e, h, rfl⟩
  · rw [if_neg h1] at h ⊢
    by_cases h2 : j = i
    · subst h2
      rw [if_pos rfl] at h
      cases h3 : tb[j + 1]? with
      | none => rw [h3] at h; cases h
      | some b => rw [h3] at h; cases h; exact ⟨b, rfl, rfl⟩
    · rw [if_neg h2] at h
      exact ⟨e, h, rfl⟩
theorem ps_out_ok {tb : ps_T} {i : Nat} (hok : ps_ok tb) (hi : i < tb.length) : ps_ok (ps_out tb i) := by
  refine ⟨fun e he => ?_, ?_, fun j k a b ha hb hab => ?_⟩
  · obtain ⟨e', h1, h2, h3⟩ := ps_out_mem hi he
    have q := hok.1 e' h1
    rw [← h2]
    refine ⟨q.1, ?_⟩
    rcases h3 with h3 | ⟨e'', h4, h3⟩
    · rw [h3]; exact q.2
    · have q2 := (hok.1 e'' h4).2
      omega
  · rw [ps_out_len hi]
    have := hok.2.1
    omega
  · obtain ⟨a', ha', ea⟩ := ps_out_str hi ha
    obtain ⟨b', hb', eb⟩ := ps_out_str hi hb
    have := hok.2.2 _ _ a' b' ha' hb' (by rw [ea, eb]; exact hab)
    split at this <;> split at this <;> omega
theorem ps_out_has {tb : ps_T} {i : Nat} {s u : List Nat} (h : ps_idx tb s = some i) (hne : ¬ u = s) (hu : ps_has tb u) : ps_has (ps_out tb i) u := by
  have hi := ps_idx_lt h
  obtain ⟨⟨e0, he0, hs0⟩, -⟩ := ps_idx_some.mp h
  obtain ⟨e, he, rfl⟩ := hu
  obtain ⟨j, hj⟩ := List.getElem?_of_mem he
  have hji : ¬ j = i := fun q => by
    subst q
    rw [he0] at hj
    cases hj
    exact hne hs0
  by_cases h1 : j < i
  · exact ⟨e, List.mem_of_getElem? (i := j) (by rw [ps_out_at hi, if_pos h1]; exact hj), rfl⟩
  · by_cases h2 : j = i + 1
    · refine ⟨(e.1, min (tb[i].2) e.2), List.mem_of_getElem? (i := i) ?_, rfl⟩
      rw [ps_out_at hi, if_neg (by omega), if_pos rfl, ← h2, hj]
      rfl
    · refine ⟨e, List.mem_of_getElem? (i := j - 1) ?_, rfl⟩
      rw [ps_out_at hi, if_neg (by omega), if_neg (by omega), show j - 1 + 1 = j by omega]
      exact hj
theorem ps_out_not {tb : ps_T} {i : Nat} {s : List Nat} (hok : ps_ok tb) (h : ps_idx tb s = some i) : ¬ ps_has (ps_out tb i) s := by
  rintro ⟨e, he, q⟩
  have hi := ps_idx_lt h
  obtain ⟨⟨e0, he0, hs0⟩, -⟩ := ps_idx_some.mp h
  obtain ⟨j, hj⟩ := List.getElem?_of_mem he
  obtain ⟨e', h1, h2⟩ := ps_out_str hi hj
  have := hok.2.2 _ _ e' e0 h1 he0 (by rw [h2, q, hs0])
  split at this <;> omega
theorem ps_in_ok {tb : ps_T} {p y : Nat} {s : List Nat} (hok : ps_ok tb) (hp : p ≤ tb.length) (hl : tb.length < 30) (hs : ps_so s) (hy : 1 ≤ y ∧ y ≤ 4) (hn : ¬ ps_has tb s) : ps_ok (tb.insertIdx p (s, y)) := by
  refine ⟨fun e he => ?_, ?_, fun i j a b ha hb hab => ?_⟩
  · rcases (List.mem_insertIdx hp).mp he with rfl | he
    · exact ⟨hs, hy⟩
    · exact hok.1 e he
  · rw [List.length_insertIdx_of_le_length hp]
    omega
  · rw [ps_ins_at hp] at ha hb
    have key : ∀ k c, (if k < p then tb[k]? else if k = p then some (s, y) else tb[k - 1]?) = some c → (k = p ∧ c = (s, y)) ∨ (¬ k = p ∧ tb[if k < p then k else k - 1]? = some c) := by
      intro k c hc
      by_cases h1 : k < p
      · rw [if_pos h1] at hc ⊢
        exact Or.inr ⟨by omega, hc⟩
      · rw [if_neg h1] at hc ⊢
        by_cases h2 : k = p
        · rw [if_pos h2] at hc
          cases hc
          exact Or.inl ⟨h2, rfl⟩
        · rw [if_neg h2] at hc
          exact Or.inr ⟨h2, hc⟩
    rcases key i a ha with ⟨i1, ia⟩ | ⟨i1, ia⟩ <;> rcases key j b hb with ⟨j1, jb⟩ | ⟨j1, jb⟩
    · omega
    · exfalso
      subst ia
      exact hn ⟨b, List.mem_of_getElem? jb, hab.symm⟩
    · exfalso
      subst jb
      exact hn ⟨a, List.mem_of_getElem? ia, hab⟩
    · have := hok.2.2 _ _ a b ia jb hab
      split at this <;> split at this <;> omega
theorem ps_rm_ok {tb : ps_T} {s : List Nat} (hok : ps_ok tb) : ps_ok (ps_rm tb s) ∧ ¬ ps_has (ps_rm tb s) s ∧ ∀ u, ¬ u = s → ps_has tb u → ps_has (ps_rm tb s) u := by
  unfold ps_rm
  cases hi : ps_idx tb s with
  | none => exact ⟨hok, ps_idx_none.mp hi, fun _ _ h => h⟩
  | some i => exact ⟨ps_out_ok hok (ps_idx_lt hi), ps_out_not hok hi, fun u hu h => ps_out_has hi hu h⟩
theorem ps_move_ok {tb tb' : ps_T} {s a : List Nat} {y : Nat} (hok : ps_ok tb) (hs : ps_so s) (hy : 1 ≤ y ∧ y ≤ 4) (h : ps_move tb s a y = .inr tb') : ps_ok tb' ∧ ps_has tb' s ∧ ∀ u, ps_has tb u → ps_has tb' u := by
  unfold ps_move at h
  split at h
  · cases h
  · have hk := ps_rm_ok (s := s) hok
    generalize ps_rm tb s = tb1 at h hk
    unfold ps_mv2 at h
    split at h
    · cases h
    · split at h
      · rename_i j hj
        cases h
        have hjl := ps_idx_lt hj
        have hp : j + 1 + ps_pl y (tb1.drop (j + 1)) ≤ tb1.length := by
          have := ps_pl_le y (tb1.drop (j + 1))
          rw [List.length_drop] at this
          omega
        have hmem : ∀ e, e ∈ tb1.insertIdx (j + 1 + ps_pl y (tb1.drop (j + 1))) (s, y) ↔ e = (s, y) ∨ e ∈ tb1 := fun e => List.mem_insertIdx hp
        refine ⟨ps_in_ok hk.1 hp (by omega) hs hy hk.2.1, ⟨(s, y), (hmem _).mpr (Or.inl rfl), rfl⟩, fun u hu => ?_⟩
        by_cases hus : u = s
        · exact ⟨(s, y), (hmem _).mpr (Or.inl rfl), hus.symm⟩
        · obtain ⟨e, he, q⟩ := hk.2.2 u hus hu
          exact ⟨e, (hmem _).mpr (Or.inr he), q⟩
      · cases h
theorem ps_has_idx {tb : ps_T} {a : List Nat} (h : ps_has tb a) : ∃ i, ps_idx tb a = some i := by
  cases q : ps_idx tb a with
  | none => exact absurd h (ps_idx_none.mp q)
  | some i => exact ⟨i, rfl⟩
theorem ps_move_neg {tb : ps_T} {s a : List Nat} {y : Nat} {c : Int32} (hok : ps_ok tb) (ha : ps_has tb a) (h : ps_move tb s a y = .inl c) : c = -101 ∨ c = -102 := by
  unfold ps_move at h
  split at h
  · cases h; exact Or.inl rfl
  · rename_i hne
    have hk := (ps_rm_ok (s := s) hok).2.2 a (fun q => hne q.symm) ha
    obtain ⟨j, hj⟩ := ps_has_idx hk
    unfold ps_mv2 at h
    rw [hj] at h
    split at h
    · cases h; exact Or.inr rfl
    · cases h
end
section
theorem nI_m1 {i : Nat} (h : i < 2 ^ 31) : ¬ nI i = -1 := fun q => by
  have h1 := nI_pos h
  rw [q] at h1
  exact h1 (by decide)
def MvP (t : Nat) (D0 : mx_Mem) (ok : ps_T → Int32) (res : Int32 ⊕ ps_T) : Option Value → mx_Mem → Prop := fun rv D' => (∀ k, ¬ k = t → ¬ k = t + 1 → ¬ k = t + 2 → D' k = D0 k) ∧ match res with
  | .inl c => rv = some (.int c)
  | .inr tb' => rv = some (.int (ok tb')) ∧ D' t 5 = nI tb'.length ∧ TBf 256 (D' (t + 1)) (D' (t + 2)) tb'
set_option maxHeartbeats 4000000 in
set_option maxRecDepth 100000 in
theorem lp_Ta_move27 {G : mx_G} {d : Nat} {S : List mx_Sh} {D0 : mx_Mem} {t y : Nat} {tb1 : ps_T} {s a : List Nat} {v4 : Option Value} (hT : ShT S t) (hc : D0 t 5 = nI tb1.length) (hB : TBf 256 (D0 (t + 1)) (D0 (t + 2)) tb1) (hok : ps_ok tb1) (hs : ps_so s) (ha : ps_so a) (hy : 1 ≤ y ∧ y ≤ 4) (hha : ps_has tb1 a) : EV G (d + 2) m_Ta_move 27 [some (.ref t), some (.int (nI (ps_enc 256 s))), some (.int (nI (ps_enc 256 a))), some (.int (nI y)), v4] [] S D0 S (MvP t D0 (fun _ => nI 0) (ps_mv2 tb1 s a y)) := by
  obtain ⟨hs0, hs1, hs2, hs3, hs4, hs5⟩ := id hT
  have hle := hok.2.1
  have hso : ∀ e ∈ tb1, ps_so e.1 := fun e he => (hok.1 e he).1
  obtain ⟨j, hj⟩ := ps_has_idx hha
  have hjl := ps_idx_lt hj
  refine EV.aload_n d_Ta_move_27 rfl ?_
  refine EV.getI fl_Ta_34 d_Ta_move_28 (by first | assumption | rfl) rfl ?_
  refine EV.bipush (v := nI 30) d_Ta_move_31 (by decide) ?_
  refine EV.icmp_ltN (tgt := 39) d_Ta_move_33 (by decide) hc rfl (by omega) (by omega) (fun h33 => ?_) (fun h33 => ?_)
  · refine EV.aload_n d_Ta_move_39 rfl ?_
    refine EV.iload_n d_Ta_move_40 rfl ?_
    refine EV.iload_n d_Ta_move_41 rfl ?_
    refine EV.aload_n d_Ta_move_42 rfl ?_
    refine EV.iload_n d_Ta_move_43 rfl ?_
    refine EV.V1 cv_Ta_55 d_Ta_move_44 (by first | assumption | rfl) (sp_Ta_find hT hc hle) ⟨Nat.le_refl _, Nat.le_refl _⟩ rfl rfl (Nat.le_of_ble_eq_true rfl) (fun rv D1 hp => ?_)
    obtain ⟨hD, r, rfl, hF⟩ := hp
    obtain rfl := hD.symm
    have hr : r = nI j := by
      rcases Fnd_idx (Or.inr rfl) hso hB ha hF with ⟨i, h1, -, h2⟩ | ⟨h1, -⟩
      · rw [hj] at h1; cases h1; exact h2
      · rw [hj] at h1; cases h1
    subst hr
    refine EV.V3 cv_Ta_68 d_Ta_move_47 (by first | assumption | rfl) (sp_Ta_putIn hT hc h33 hjl) ⟨Nat.le_refl _, Nat.le_refl _⟩ rfl rfl (Nat.le_of_ble_eq_true rfl) (fun rv D1 hp => ?_)
    obtain ⟨rfl, p, hpl, q1, q2, q3, q4⟩ := hp
    refine EV.iconst (v := nI 0) d_Ta_move_50 (by decide) ?_
    have hpe := Plc_pl hok hB (by omega) hpl
    have hple := hpl.2.1
    have hlen : (tb1.insertIdx p (s, y)).length = tb1.length + 1 := List.length_insertIdx_of_le_length hple _
    exact EV.ireturn d_Ta_move_51 ⟨_, rfl, rfl⟩ ⟨q4, by
      unfold ps_mv2
      rw [if_neg (by omega), hj]
      refine ⟨rfl, ?_, ?_⟩
      · rw [q3, ← hpe, hlen]; simp [upd]
      · rw [q1, q2, ← hpe]; exact TBf_in hB hple⟩
  · refine EV.bipush (v := (-102)) d_Ta_move_36 (by decide) ?_
    exact EV.ireturn d_Ta_move_38 ⟨_, rfl, rfl⟩ ⟨fun _ _ _ _ => rfl, by unfold ps_mv2; rw [if_pos (by omega)]⟩
set_option maxHeartbeats 4000000 in
set_option maxRecDepth 100000 in
theorem sp_Ta_move {G : mx_G} {d : Nat} {S : List mx_Sh} {D0 : mx_Mem} {t y : Nat} {tb : ps_T} {s a : List Nat} (hT : ShT S t) (hc : D0 t 5 = nI tb.length) (hB : TBf 256 (D0 (t + 1)) (D0 (t + 2)) tb) (hok : ps_ok tb) (hs : ps_so s) (ha : ps_so a) (hy : 1 ≤ y ∧ y ≤ 4) (hha : ps_has tb a) : EV G (d + 2) m_Ta_move 0 (mx_lc0 m_Ta_move [.ref t, .int (nI (ps_enc 256 s)), .int (nI (ps_enc 256 a)), .int (nI y)]) [] S D0 S (MvP t D0 (fun _ => nI 0) (ps_move tb s a y)) := by
  obtain ⟨hs0, hs1, hs2, hs3, hs4, hs5⟩ := id hT
  have hle := hok.2.1
  have hso : ∀ e ∈ tb, ps_so e.1 := fun e he => (hok.1 e he).1
  have hrm := ps_rm_ok (s := s) hok
  show EV _ _ _ _ [some (.ref t), some (.int (nI (ps_enc 256 s))), some (.int (nI (ps_enc 256 a))), some (.int (nI y)), none] [] _ _ _ _
  refine EV.iload_n d_Ta_move_0 rfl ?_
  refine EV.iload_n d_Ta_move_1 rfl ?_
  refine EV.icmp_ne (tgt := 8) d_Ta_move_2 (by decide) (fun h2 => ?_) (fun h2 => ?_)
  · have hne : ¬ s = a := fun q => h2 (by rw [q])
    have hmv : ps_move tb s a y = ps_mv2 (ps_rm tb s) s a y := by unfold ps_move; rw [if_neg hne]
    rw [hmv]
    have hha2 := hrm.2.2 a (fun q => hne q.symm) hha
    refine EV.aload_n d_Ta_move_8 rfl ?_
    refine EV.iload_n d_Ta_move_9 rfl ?_
    refine EV.V1 cv_Ta_55 d_Ta_move_10 (by first | assumption | rfl) (sp_Ta_find hT hc hle) ⟨Nat.le_refl _, Nat.le_refl _⟩ rfl rfl (Nat.le_of_ble_eq_true rfl) (fun rv D1 hp => ?_)
    obtain ⟨hD, r, rfl, hF⟩ := hp
    obtain rfl := hD.symm
    rcases Fnd_idx (Or.inr rfl) hso hB hs hF with ⟨i, hi, hil, rfl⟩ | ⟨hi, rfl⟩
    · refine EV.istore d_Ta_move_13 (by decide) ?_
      refine EV.iload d_Ta_move_15 rfl ?_
      refine EV.iconst (v := (-1)) d_Ta_move_17 (by decide) ?_
      refine EV.icmp_eq (tgt := 27) d_Ta_move_18 (by decide) (fun h18 => absurd h18 (nI_m1 (by omega))) (fun h18 => ?_)
      refine EV.aload_n d_Ta_move_21 rfl ?_
      refine EV.iload d_Ta_move_22 rfl ?_
      refine EV.V1 cv_Ta_64 d_Ta_move_24 (by first | assumption | rfl) (sp_Ta_takeOut hT hc hle hil) ⟨Nat.le_refl _, Nat.le_refl _⟩ rfl rfl (Nat.le_of_ble_eq_true rfl) (fun rv D1 hp => ?_)
      obtain ⟨rfl, q1, q2, q3, q4⟩ := hp
      have hrme : ps_rm tb s = ps_out tb i := by unfold ps_rm; rw [hi]
      refine EV.post (fun rv D' h => ⟨fun k k1 k2 k3 => (h.1 k k1 k2 k3).trans (q4 k k1 k2 k3), h.2⟩) (lp_Ta_move27 (tb1 := ps_rm tb s) hT ?_ ?_ hrm.1 hs ha hy hha2)
      · rw [q3, hrme, ps_out_len hil]; simp [upd]
      · rw [q1, q2, hrme]; exact TBf_out hok hB hil
    · refine EV.istore d_Ta_move_13 (by decide) ?_
      refine EV.iload d_Ta_move_15 rfl ?_
      refine EV.iconst (v := (-1)) d_Ta_move_17 (by decide) ?_
      refine EV.icmp_eq (tgt := 27) d_Ta_move_18 (by decide) (fun h18 => ?_) (fun h18 => absurd rfl h18)
      have hrme : ps_rm tb s = tb := by unfold ps_rm; rw [hi]
      rw [hrme] at hha2 ⊢
      exact lp_Ta_move27 hT hc hB hok hs ha hy hha2
  · have hne : s = a := (ps_nI_eq (Or.inr rfl) hs ha).mp h2
    refine EV.bipush (v := (-101)) d_Ta_move_5 (by decide) ?_
    exact EV.ireturn d_Ta_move_7 ⟨_, rfl, rfl⟩ ⟨fun _ _ _ _ => rfl, by unfold ps_move; rw [if_pos hne]⟩
def ShR (S : List mx_Sh) (r : Nat) : Prop := S[r]? = some (.inl (4, [some (some (r + 1)), some (some (r + 2)), none, none, none])) ∧ S[r + 1]? = some (.inr (.inl (0, 24))) ∧ S[r + 2]? = some (.inr (.inl (0, 24)))
/-- a rule's strings: the first one is the anchor -/
def RLo (rl : ps_T) : Prop := 1 ≤ rl.length ∧ rl.length ≤ 24 ∧ (∀ e ∈ rl, ps_so e.1) ∧ ∀ i e, 1 ≤ i → rl[i]? = some e → 1 ≤ e.2 ∧ e.2 ≤ 4
def ps_fol (tb rl : ps_T) : Int32 ⊕ ps_T := match rl with
  | [] => .inl 0
  | e :: r => match ps_idx tb e.1 with
    | none => .inl (-100)
    | some _ => ps_foll tb e.1 r
set_option maxHeartbeats 4000000 in
set_option maxRecDepth 100000 in
theorem lp_Ta_follow {G : mx_G} {d : Nat} {S : List mx_Sh} {D0 : mx_Mem} {t r : Nat} {rl : ps_T} {R : Int32 ⊕ ps_T} (hT : ShT S t) (hR : ShR S r) (htr : r + 2 < t ∨ t + 5 < r) (hrc : D0 r 2 = nI rl.length) (hrB : TBf 256 (D0 (r + 1)) (D0 (r + 2)) rl) (hrl : RLo rl) : ∀ (n i : Nat) (D : mx_Mem) (tb : ps_T) (a : List Nat × Nat) (v3 : Option Value), 1 ≤ i → i ≤ rl.length → rl.length - i = n → rl[i - 1]? = some a → D t 5 = nI tb.length → TBf 256 (D (t + 1)) (D (t + 2)) tb → ps_ok tb → ps_has tb a.1 → (∀ k, ¬ k = t → ¬ k = t + 1 → ¬ k = t + 2 → D k = D0 k) → ps_foll tb a.1 (rl.drop i) = R → EV G (d + 3) m_Ta_follow 19 [some (.ref t), some (.ref r), some (.int (nI i)), v3] [] S D S (MvP t D0 (fun tb => nI tb.length) R) := by
  obtain ⟨hs0, hs1, hs2, hs3, hs4, hs5⟩ := id hT
  obtain ⟨hr0, hr1, hr2⟩ := id hR
  intro n
  induction n with
  | zero =>
    intro i D tb a v3 h1 h2 h3 ha hc hB hok hha ho hfo
    have hrc2 : D r 2 = nI rl.length := by rw [ho r (by omega) (by omega) (by omega)]; exact hrc
    have hl24 := hrl.2.1
    refine EV.iload_n d_Ta_follow_19 rfl ?_
    refine EV.aload_n d_Ta_follow_20 rfl ?_
    refine EV.getI fl_Ta_58 d_Ta_follow_21 (by first | assumption | rfl) rfl ?_
    refine EV.icmp_geN (tgt := 64) d_Ta_follow_24 (by decide) rfl hrc2 (by omega) (by omega) (fun h24 => ?_) (fun h24 => ?_)
    · refine EV.aload_n d_Ta_follow_64 rfl ?_
      refine EV.getI fl_Ta_34 d_Ta_follow_65 (by first | assumption | rfl) rfl ?_
      refine EV.top hc ?_
      exact EV.ireturn d_Ta_follow_68 ⟨_, rfl, rfl⟩ ⟨ho, by rw [← hfo, List.drop_of_length_le (by omega)]; exact ⟨rfl, hc, hB⟩⟩
    · exfalso
      omega
  | succ n ih =>
    intro i D tb a v3 h1 h2 h3 ha hc hB hok hha ho hfo
    have hrc2 : D r 2 = nI rl.length := by rw [ho r (by omega) (by omega) (by omega)]; exact hrc
    have hl24 := hrl.2.1
    obtain ⟨e, hei⟩ : ∃ e, rl[i]? = some e := ⟨rl[i]'(by omega), List.getElem?_eq_getElem (by omega)⟩
    have hdr : rl.drop i = e :: rl.drop (i + 1) := by rw [List.drop_eq_getElem_cons (by omega), (List.getElem?_eq_some_iff.mp hei).2]
    have hB2 : TBf 256 (D (r + 1)) (D (r + 2)) rl := by rw [ho (r + 1) (by omega) (by omega) (by omega), ho (r + 2) (by omega) (by omega) (by omega)]; exact hrB
    refine EV.iload_n d_Ta_follow_19 rfl ?_
    refine EV.aload_n d_Ta_follow_20 rfl ?_
    refine EV.getI fl_Ta_58 d_Ta_follow_21 (by first | assumption | rfl) rfl ?_
    refine EV.icmp_geN (tgt := 64) d_Ta_follow_24 (by decide) rfl hrc2 (by omega) (by omega) (fun h24 => ?_) (fun h24 => ?_)
    · exfalso
      omega
    · refine EV.aload_n d_Ta_follow_27 rfl ?_
      refine EV.aload_n d_Ta_follow_28 rfl ?_
      refine EV.getR fl_Ta_52 d_Ta_follow_29 (by first | assumption | rfl) rfl ?_
      refine EV.iload_n d_Ta_follow_32 rfl ?_
      refine EV.ialdN d_Ta_follow_33 (by first | assumption | rfl) rfl rfl (by omega) (by first | decide | omega) ?_
      refine EV.top (hB2 i e hei).1 ?_
      refine EV.aload_n d_Ta_follow_34 rfl ?_
      refine EV.getR fl_Ta_52 d_Ta_follow_35 (by first | assumption | rfl) rfl ?_
      refine EV.iload_n d_Ta_follow_38 rfl ?_
      refine EV.iconst (v := nI 1) d_Ta_follow_39 (by decide) ?_
      refine EV.isub d_Ta_follow_40 ?_
      refine EV.ialdN d_Ta_follow_41 (by first | assumption | rfl) rfl (show _ = nI (i - 1) from pk_sub (by omega)) (by omega) (by first | decide | omega) ?_
      refine EV.top (hB2 (i - 1) a ha).1 ?_
      refine EV.aload_n d_Ta_follow_42 rfl ?_
      refine EV.getR fl_Ta_59 d_Ta_follow_43 (by first | assumption | rfl) rfl ?_
      refine EV.iload_n d_Ta_follow_46 rfl ?_
      refine EV.ialdN d_Ta_follow_47 (by first | assumption | rfl) rfl rfl (by omega) (by first | decide | omega) ?_
      refine EV.top (hB2 i e hei).2 ?_
      refine EV.V3 cv_Ta_60 d_Ta_follow_48 (by first | assumption | rfl) (sp_Ta_move hT hc hB hok (hrl.2.2.1 _ (List.mem_of_getElem? hei)) (hrl.2.2.1 _ (List.mem_of_getElem? ha)) (hrl.2.2.2 i e h1 hei) hha) ⟨Nat.le_refl _, Nat.le_refl _⟩ rfl rfl (Nat.le_of_ble_eq_true rfl) (fun rv D1 hp => ?_)
      obtain ⟨hD1, hm⟩ := hp
      cases hmv : ps_move tb e.1 a.1 e.2 with
      | inl c =>
        rw [hmv] at hm
        subst hm
        refine EV.istore_n d_Ta_follow_51 (by decide) ?_
        refine EV.iload_n d_Ta_follow_52 rfl ?_
        refine EV.if_eq (tgt := 58) d_Ta_follow_53 (by decide) (fun h53 => ?_) (fun h53 => ?_)
        · exfalso
          rcases ps_move_neg hok hha hmv with q | q <;> rw [q] at h53 <;> exact absurd h53 (by decide)
        · refine EV.iload_n d_Ta_follow_56 rfl ?_
          refine EV.ireturn d_Ta_follow_57 ⟨_, rfl, rfl⟩ ⟨fun k k1 k2 k3 => (hD1 k k1 k2 k3).trans (ho k k1 k2 k3), ?_⟩
          rw [← hfo, hdr]
          simp only [ps_foll]
          rw [hmv]
      | inr tb' =>
        rw [hmv] at hm
        obtain ⟨rfl, hc1, hB1⟩ := hm
        refine EV.istore_n d_Ta_follow_51 (by decide) ?_
        refine EV.iload_n d_Ta_follow_52 rfl ?_
        refine EV.if_eq (tgt := 58) d_Ta_follow_53 (by decide) (fun h53 => ?_) (fun h53 => absurd nI_0 h53)
        refine EV.iincN d_Ta_follow_58 rfl (by decide) ?_
        refine EV.goto (tgt := 19) d_Ta_follow_61 (by decide) ?_
        obtain ⟨k1, k2, k3⟩ := ps_move_ok hok (hrl.2.2.1 _ (List.mem_of_getElem? hei)) (hrl.2.2.2 i e h1 hei) hmv
        refine ih (i + 1) D1 tb' e _ (by omega) (by omega) (by omega) (by rw [Nat.add_sub_cancel]; exact hei) hc1 hB1 k1 k2 (fun k q1 q2 q3 => (hD1 k q1 q2 q3).trans (ho k q1 q2 q3)) ?_
        rw [← hfo, hdr]
        simp only [ps_foll]
        rw [hmv]
set_option maxHeartbeats 4000000 in
set_option maxRecDepth 100000 in
theorem sp_Ta_follow {G : mx_G} {d : Nat} {S : List mx_Sh} {D0 : mx_Mem} {t r : Nat} {tb rl : ps_T} (hT : ShT S t) (hR : ShR S r) (htr : r + 2 < t ∨ t + 5 < r) (hc : D0 t 5 = nI tb.length) (hB : TBf 256 (D0 (t + 1)) (D0 (t + 2)) tb) (hok : ps_ok tb) (hrc : D0 r 2 = nI rl.length) (hrB : TBf 256 (D0 (r + 1)) (D0 (r + 2)) rl) (hrl : RLo rl) : EV G (d + 3) m_Ta_follow 0 (mx_lc0 m_Ta_follow [.ref t, .ref r]) [] S D0 S (MvP t D0 (fun tb => nI tb.length) (ps_fol tb rl)) := by
  obtain ⟨hs0, hs1, hs2, hs3, hs4, hs5⟩ := id hT
  obtain ⟨hr0, hr1, hr2⟩ := id hR
  have hso : ∀ e ∈ tb, ps_so e.1 := fun e he => (hok.1 e he).1
  have hl30 := hok.2.1
  have hl24 := hrl.2.1
  have hl1 := hrl.1
  obtain ⟨e, rl2, hre⟩ : ∃ e rl2, rl = e :: rl2 := by
    cases rl with
    | nil => simp at hl1
    | cons e l => exact ⟨e, l, rfl⟩
  have he : rl[0]? = some e := by rw [hre]; rfl
  show EV _ _ _ _ [some (.ref t), some (.ref r), none, none] [] _ _ _ _
  refine EV.aload_n d_Ta_follow_0 rfl ?_
  refine EV.aload_n d_Ta_follow_1 rfl ?_
  refine EV.getR fl_Ta_52 d_Ta_follow_2 (by first | assumption | rfl) rfl ?_
  refine EV.iconst (v := nI 0) d_Ta_follow_5 (by decide) ?_
  refine EV.ialdN d_Ta_follow_6 (by first | assumption | rfl) rfl rfl (by omega) (by first | decide | omega) ?_
  refine EV.top (hrB 0 e he).1 ?_
  refine EV.V1 cv_Ta_55 d_Ta_follow_7 (by first | assumption | rfl) (sp_Ta_find hT hc hok.2.1) ⟨Nat.le_refl _, Nat.le_refl _⟩ rfl rfl (Nat.le_of_ble_eq_true rfl) (fun rv D1 hp => ?_)
  obtain ⟨hD, q, rfl, hF⟩ := hp
  obtain rfl := hD.symm
  rcases Fnd_idx (Or.inr rfl) hso hB (hrl.2.2.1 _ (List.mem_of_getElem? he)) hF with ⟨i, hi, hil, rfl⟩ | ⟨hi, rfl⟩
  · refine EV.iconst (v := (-1)) d_Ta_follow_10 (by decide) ?_
    refine EV.icmp_ne (tgt := 17) d_Ta_follow_11 (by decide) (fun h11 => ?_) (fun h11 => absurd h11 (nI_m1 (by omega)))
    refine EV.iconst (v := nI 1) d_Ta_follow_17 (by decide) ?_
    refine EV.istore_n d_Ta_follow_18 (by decide) ?_
    refine lp_Ta_follow hT hR htr hrc hrB hrl (rl.length - 1) 1 D0 tb e none (by omega) (by omega) rfl he hc hB hok ⟨_, List.mem_of_getElem? (ps_idx_some.mp hi).1.choose_spec.1, (ps_idx_some.mp hi).1.choose_spec.2⟩ (fun _ _ _ _ => rfl) ?_
    rw [hre]
    simp only [ps_fol, List.drop_succ_cons, List.drop_zero]
    rw [hi]
  · refine EV.iconst (v := (-1)) d_Ta_follow_10 (by decide) ?_
    refine EV.icmp_ne (tgt := 17) d_Ta_follow_11 (by decide) (fun h11 => absurd rfl h11) (fun h11 => ?_)
    refine EV.bipush (v := (-100)) d_Ta_follow_14 (by decide) ?_
    refine EV.ireturn d_Ta_follow_16 ⟨_, rfl, rfl⟩ ⟨fun _ _ _ _ => rfl, ?_⟩
    rw [hre]
    simp only [ps_fol]
    rw [hi]
end
section
section MXB
variable {G : mx_G} {d : Nat} {M : mx_M} {pc : Nat} {lc : List (Option Value)} {st : List Value} {S S' : List mx_Sh} {D : mx_Mem} {Post : Option Value → mx_Mem → Prop}
theorem bI_le (b : Bool) : (if b then 1 else 0) < 2 ^ 31 := by cases b <;> decide
theorem EV.if_eqB {b : Bool} {off : Int} {tgt : Nat} (hd : decode M.2.1 pc = .ok (.ifCond .eq off, 3)) (ht : (pc : Int) + off = (tgt : Int)) (kt : b = false → EV G d M tgt lc st S D S' Post) (kf : b = true → EV G d M (pc + 3) lc st S D S' Post) : EV G d M pc lc (.int (bI b) :: st) S D S' Post :=
  EV.if_eqN hd ht rfl (bI_le b) (fun h => kt (by cases b <;> simp_all)) (fun h => kf (by cases b <;> simp_all))
theorem EV.if_neB {b : Bool} {off : Int} {tgt : Nat} (hd : decode M.2.1 pc = .ok (.ifCond .ne off, 3)) (ht : (pc : Int) + off = (tgt : Int)) (kt : b = true → EV G d M tgt lc st S D S' Post) (kf : b = false → EV G d M (pc + 3) lc st S D S' Post) : EV G d M pc lc (.int (bI b) :: st) S D S' Post :=
  EV.if_neN hd ht rfl (bI_le b) (fun h => kt (by cases b <;> simp_all)) (fun h => kf (by cases b <;> simp_all))
end MXB
/-- a row of the memory begins with the numbers xs -/
def ar (f : Nat → Int32) (xs : List Nat) : Prop := ∀ (i x : Nat), xs[i]? = some x → f i = nI x
theorem ar_snoc {f : Nat → Int32} {xs : List Nat} {x : Nat} (h : ar f xs) : ar (upd f xs.length (nI x)) (xs ++ [x]) := by
  intro i y hi
  unfold upd
  by_cases q : i = xs.length
  · subst q
    rw [if_pos rfl]
    simp at hi
    rw [hi]
  · rw [if_neg q]
    have hl : i < xs.length := by
      have := (List.getElem?_eq_some_iff.mp hi).1
      rw [List.length_append, List.length_singleton] at this
      omega
    rw [List.getElem?_append_left hl] at hi
    exact h i y hi
theorem ar_nil (f : Nat → Int32) : ar f [] := fun i x h => by simp at h
def ShL (S : List mx_Sh) (k n : Nat) : Prop := S[k]? = some (.inl (3, [some (some (k + 1)), none])) ∧ S[k + 1]? = some (.inr (.inl (1, n)))
def LN (D : mx_Mem) (k : Nat) (xs : List Nat) : Prop := D k 1 = nI xs.length ∧ ar (D (k + 1)) xs
def ShK (S : List mx_Sh) (k : Nat) : Prop := S[k]? = some (.inl (1, [some (some (k + 1)), none])) ∧ S[k + 1]? = some (.inr (.inl (0, 52)))
/-- -1, 0, 1 by the first place where they differ -/
def ps_cmp : List Nat → List Nat → Int32
  | x :: xs, y :: ys => if x = y then ps_cmp xs ys else if x < y then -1 else nI 1
  | _, _ => nI 0
theorem ps_cmp_nil (xs : List Nat) : ps_cmp xs [] = nI 0 := by cases xs <;> rfl
theorem ps_len_enc {s : List Nat} (h : ps_so s) : ps_len (ps_enc 256 s) = s.length := by
  obtain ⟨h1, h2, h3⟩ := h
  match s, h1, h2, h3 with
  | [a], _, _, h3 =>
    have h4 := h3 a (by simp)
    have e1 : ps_enc 256 [a] = a := by simp [ps_enc]
    rw [e1]
    unfold ps_len
    rw [if_pos (by omega)]
    rfl
  | [a, b], _, _, h3 =>
    have h4 := h3 a (by simp)
    have h5 := h3 b (by simp)
    have e1 : ps_enc 256 [a, b] = a + 256 * b := by simp [ps_enc]
    rw [e1]
    unfold ps_len
    rw [if_neg (by omega), if_pos (by omega)]
    rfl
  | [a, b, c], _, _, h3 =>
    have h4 := h3 a (by simp)
    have h5 := h3 b (by simp)
    have h6 := h3 c (by simp)
    have e1 : ps_enc 256 [a, b, c] = a + 256 * (b + 256 * c) := by simp [ps_enc]
    rw [e1]
    unfold ps_len
    rw [if_neg (by omega), if_neg (by omega)]
    rfl
theorem TBf_set {b : Nat} {f g : Nat → Int32} {tb : ps_T} {i : Nat} {e e' : List Nat × Nat} (h : TBf b f g tb) (he : tb[i]? = some e) (h2 : e'.2 = e.2) : TBf b (upd f i (nI (ps_enc b e'.1))) g (tb.set i e') := by
  intro j x hj
  have hi : i < tb.length := (List.getElem?_eq_some_iff.mp he).1
  unfold upd
  by_cases q : j = i
  · subst q
    rw [List.getElem?_set_self hi] at hj
    cases hj
    rw [if_pos rfl, h2]
    exact ⟨rfl, (h j e he).2⟩
  · rw [List.getElem?_set_ne (Ne.symm q)] at hj
    rw [if_neg q]
    exact h j x hj
theorem TBf_snoc {b : Nat} {f g : Nat → Int32} {tb : ps_T} {e : List Nat × Nat} (h : TBf b f g tb) : TBf b (upd f tb.length (nI (ps_enc b e.1))) (upd g tb.length (nI e.2)) (tb ++ [e]) := by
  intro j x hj
  unfold upd
  by_cases q : j = tb.length
  · subst q
    simp at hj
    subst hj
    simp
  · have hl : j < tb.length := by
      have := (List.getElem?_eq_some_iff.mp hj).1
      rw [List.length_append, List.length_singleton] at this
      omega
    rw [List.getElem?_append_left hl] at hj
    rw [if_neg q, if_neg q]
    exact h j x hj
/-! reading a rule: the state, the sign's step, the strings with their steps -/
abbrev ru_Q : Type := Nat × Nat × ps_T
def ru_go (q : ru_Q) (c : Nat) : Option ru_Q := match q.2.2[q.2.2.length - 1]? with
  | none => none
  | some e => if (ps_letter c || ps_mark c) = true ∧ e.1.length < 3 then some (2, q.2.1, q.2.2.set (q.2.2.length - 1) (e.1 ++ [c], e.2)) else none
def ru_st (q : ru_Q) (c : Nat) : Option ru_Q :=
  if q.1 = 0 then (if c = 38 then some (1, 0, q.2.2) else none)
  else if q.1 = 1 then (if c = 60 ∧ (q.2.1 = 1 ∨ q.2.1 = 2) then some (1, q.2.1 + 1, q.2.2) else if ps_letter c = true then some (2, q.2.1, q.2.2 ++ [([c], q.2.1)]) else none)
  else if c = 60 then some (1, 1, q.2.2) else if c = 61 then some (1, 4, q.2.2) else ru_go q c
def RuS (D : mx_Mem) (r : Nat) (q : ru_Q) : Prop := D r 2 = nI q.2.2.length ∧ D r 3 = nI q.1 ∧ D r 4 = nI q.2.1 ∧ TBf 256 (D (r + 1)) (D (r + 2)) q.2.2
def ru_wf (q : ru_Q) (n : Nat) : Prop := q.1 ≤ 2 ∧ q.2.1 ≤ 4 ∧ q.2.2.length ≤ n ∧ (∀ e ∈ q.2.2, ps_so e.1 ∧ e.2 ≤ 4) ∧ (q.1 = 2 → 1 ≤ q.2.2.length) ∧ (q.1 = 0 → q.2.2.length = 0) ∧ (q.1 = 1 → (q.2.1 = 0 ↔ q.2.2.length = 0)) ∧ ∀ i e, 1 ≤ i → q.2.2[i]? = some e → 1 ≤ e.2
/-- what is answered by an option -/
def oR {α : Type} (o : Option α) (A : Prop) (B : α → Prop) : Prop := match o with
  | none => A
  | some q => B q
theorem oR_n {α : Type} {o : Option α} {A : Prop} {B : α → Prop} (h : o = none) (a : A) : oR o A B := by subst h; exact a
theorem oR_s {α : Type} {o : Option α} {A : Prop} {B : α → Prop} {q : α} (h : o = some q) (b : B q) : oR o A B := by subst h; exact b
set_option maxHeartbeats 4000000 in
set_option maxRecDepth 100000 in
theorem sp_Li_append {G : mx_G} {d : Nat} {S : List mx_Sh} {D : mx_Mem} {k n c : Nat} {xs : List Nat} (hK : ShL S k n) (hL : LN D k xs) (hle : xs.length ≤ n) (hn : n ≤ 24) (hc : c < 65536) : EV G d m_Li_append 0 (mx_lc0 m_Li_append [.ref k, .int (nI c)]) [] S D S (fun rv D' => (∀ q, ¬ q = k → ¬ q = k + 1 → D' q = D q) ∧ rv = some (.int (bI (decide (xs.length < n)))) ∧ LN D' k (if xs.length < n then xs ++ [c] else xs)) := by
  obtain ⟨hk0, hk1⟩ := id hK
  show EV _ _ _ _ [some (.ref k), some (.int (nI c))] [] _ _ _ _
  refine EV.aload_n d_Li_append_0 rfl ?_
  refine EV.getI fl_Li_13 d_Li_append_1 (by first | assumption | rfl) rfl ?_
  refine EV.aload_n d_Li_append_4 rfl ?_
  refine EV.getR fl_Li_7 d_Li_append_5 (by first | assumption | rfl) rfl ?_
  refine EV.alen (v := nI n) d_Li_append_8 (by first | assumption | rfl) rfl rfl ?_
  refine EV.icmp_ltN (tgt := 14) d_Li_append_9 (by decide) hL.1 rfl (by omega) (by omega) (fun h9 => ?_) (fun h9 => ?_)
  · refine EV.aload_n d_Li_append_14 rfl ?_
    refine EV.getR fl_Li_7 d_Li_append_15 (by first | assumption | rfl) rfl ?_
    refine EV.aload_n d_Li_append_18 rfl ?_
    refine EV.getI fl_Li_13 d_Li_append_19 (by first | assumption | rfl) rfl ?_
    refine EV.iload_n d_Li_append_22 rfl ?_
    refine EV.castN d_Li_append_23 (by first | assumption | rfl) rfl hL.1 (by omega) (by first | decide | omega) ⟨c, hc, rfl⟩ ?_
    refine EV.aload_n d_Li_append_24 rfl ?_
    refine EV.dup d_Li_append_25 rfl ?_
    refine EV.getI fl_Li_13 d_Li_append_26 (by first | assumption | rfl) rfl ?_
    refine EV.iconst (v := nI 1) d_Li_append_29 (by decide) ?_
    refine EV.iadd d_Li_append_30 ?_
    refine EV.top (y := nI (xs.length + 1)) (by rw [mx_w_ne _ _ _ (by omega), hL.1]; exact nI_1 _) ?_
    refine EV.putI fl_Li_13 d_Li_append_31 (by first | assumption | rfl) rfl rfl rfl ?_
    refine EV.iconst (v := nI 1) d_Li_append_34 (by decide) ?_
    exact EV.ireturn d_Li_append_35 ⟨_, rfl, rfl⟩ ⟨fun q q1 q2 => by simp [mx_w, va_up, q1, q2], by rw [bI_t (by simp; omega)], by rw [if_pos (by omega)]; exact ⟨by simp [mx_w, va_up, upd], by simp only [mx_w, va_up]; simp; exact ar_snoc hL.2⟩⟩
  · refine EV.iconst (v := nI 0) d_Li_append_12 (by decide) ?_
    exact EV.ireturn d_Li_append_13 ⟨_, rfl, rfl⟩ ⟨fun _ _ _ => rfl, by rw [bI_f (by simp; omega)], by rw [if_neg (by omega)]; exact hL⟩
set_option maxHeartbeats 4000000 in
set_option maxRecDepth 100000 in
theorem sp_Li_clear {G : mx_G} {d : Nat} {S : List mx_Sh} {D : mx_Mem} {k n : Nat} {xs : List Nat} (hK : ShL S k n) (hL : LN D k xs) : EV G d m_Li_clear 0 (mx_lc0 m_Li_clear [.ref k]) [] S D S (fun rv D' => (∀ q, ¬ q = k → D' q = D q) ∧ rv = some (.int (nI xs.length)) ∧ LN D' k []) := by
  obtain ⟨hk0, hk1⟩ := id hK
  show EV _ _ _ _ [some (.ref k), none] [] _ _ _ _
  refine EV.aload_n d_Li_clear_0 rfl ?_
  refine EV.getI fl_Li_13 d_Li_clear_1 (by first | assumption | rfl) rfl ?_
  refine EV.top hL.1 ?_
  refine EV.istore_n d_Li_clear_4 (by decide) ?_
  refine EV.aload_n d_Li_clear_5 rfl ?_
  refine EV.iconst (v := nI 0) d_Li_clear_6 (by decide) ?_
  refine EV.putI fl_Li_13 d_Li_clear_7 (by first | assumption | rfl) rfl rfl rfl ?_
  refine EV.iload_n d_Li_clear_10 rfl ?_
  exact EV.ireturn d_Li_clear_11 ⟨_, rfl, rfl⟩ ⟨fun q q1 => by simp [mx_w, va_up, q1], rfl, by simp [mx_w, va_up, upd], ar_nil _⟩
set_option maxHeartbeats 4000000 in
set_option maxRecDepth 100000 in
theorem lp_Li_copyFrom {G : mx_G} {d : Nat} {S : List mx_Sh} {D0 : mx_Mem} {k o n n2 : Nat} {ys : List Nat} (hK : ShL S k n) (hO : ShL S o n2) (hko : k + 1 < o ∨ o + 1 < k) (hY : LN D0 o ys) (hle : ys.length ≤ n) (hle2 : ys.length ≤ n2) (hn : n ≤ 24) (hn2 : n2 ≤ 24) (hch : ∀ c ∈ ys, c < 65536) : ∀ (m i : Nat) (D : mx_Mem), i ≤ ys.length → ys.length - i = m → (∀ q, ¬ q = k → ¬ q = k + 1 → D q = D0 q) → LN D k (ys.take i) → EV G (d + 1) m_Li_copyFrom 7 [some (.ref k), some (.ref o), some (.int (nI i))] [] S D S (fun rv D' => rv = none ∧ (∀ q, ¬ q = k → ¬ q = k + 1 → D' q = D0 q) ∧ LN D' k ys) := by
  obtain ⟨hk0, hk1⟩ := id hK
  obtain ⟨ho0, ho1⟩ := id hO
  intro m
  induction m with
  | zero =>
    intro i D h1 h2 hof hL
    have hl : D o 1 = nI ys.length := by rw [hof o (by omega) (by omega)]; exact hY.1
    refine EV.iload_n d_Li_copyFrom_7 rfl ?_
    refine EV.aload_n d_Li_copyFrom_8 rfl ?_
    refine EV.getI fl_Li_13 d_Li_copyFrom_9 (by first | assumption | rfl) rfl ?_
    refine EV.icmp_geN (tgt := 32) d_Li_copyFrom_12 (by decide) rfl hl (by omega) (by omega) (fun h12 => ?_) (fun h12 => ?_)
    · exact EV.return_ d_Li_copyFrom_32 rfl ⟨rfl, hof, by rw [List.take_of_length_le (by omega)] at hL; exact hL⟩
    · exfalso
      omega
  | succ m ih =>
    intro i D h1 h2 hof hL
    have hl : D o 1 = nI ys.length := by rw [hof o (by omega) (by omega)]; exact hY.1
    obtain ⟨c, hc⟩ : ∃ c, ys[i]? = some c := ⟨ys[i]'(by omega), List.getElem?_eq_getElem (by omega)⟩
    have hcv : D (o + 1) i = nI c := by rw [hof (o + 1) (by omega) (by omega)]; exact hY.2 i c hc
    have htl : (ys.take i).length = i := by rw [List.length_take]; omega
    refine EV.iload_n d_Li_copyFrom_7 rfl ?_
    refine EV.aload_n d_Li_copyFrom_8 rfl ?_
    refine EV.getI fl_Li_13 d_Li_copyFrom_9 (by first | assumption | rfl) rfl ?_
    refine EV.icmp_geN (tgt := 32) d_Li_copyFrom_12 (by decide) rfl hl (by omega) (by omega) (fun h12 => ?_) (fun h12 => ?_)
    · exfalso
      omega
    · refine EV.aload_n d_Li_copyFrom_15 rfl ?_
      refine EV.aload_n d_Li_copyFrom_16 rfl ?_
      refine EV.getR fl_Li_7 d_Li_copyFrom_17 (by first | assumption | rfl) rfl ?_
      refine EV.iload_n d_Li_copyFrom_20 rfl ?_
      refine EV.caldN d_Li_copyFrom_21 (by first | assumption | rfl) rfl rfl (by omega) (by first | decide | omega) ?_
      refine EV.top hcv ?_
      refine EV.V1 cv_Li_21 d_Li_copyFrom_22 (by first | assumption | rfl) (sp_Li_append hK hL (by omega) hn (hch c (List.mem_of_getElem? hc))) ⟨Nat.le_refl _, Nat.le_refl _⟩ rfl rfl (Nat.le_of_ble_eq_true rfl) (fun rv D1 hp => ?_)
      obtain ⟨q1, rfl, q2⟩ := hp
      refine EV.pop d_Li_copyFrom_25 rfl ?_
      refine EV.iincN d_Li_copyFrom_26 rfl (by decide) ?_
      refine EV.goto (tgt := 7) d_Li_copyFrom_29 (by decide) ?_
      rw [if_pos (by omega)] at q2
      refine ih (i + 1) D1 (by omega) (by omega) (fun q a b => (q1 q a b).trans (hof q a b)) ?_
      rw [List.take_add_one, hc]
      exact q2
set_option maxHeartbeats 4000000 in
set_option maxRecDepth 100000 in
theorem sp_Li_copyFrom {G : mx_G} {d : Nat} {S : List mx_Sh} {D0 : mx_Mem} {k o n n2 : Nat} {xs ys : List Nat} (hK : ShL S k n) (hO : ShL S o n2) (hko : k + 1 < o ∨ o + 1 < k) (hX : LN D0 k xs) (hY : LN D0 o ys) (hle : ys.length ≤ n) (hle2 : ys.length ≤ n2) (hn : n ≤ 24) (hn2 : n2 ≤ 24) (hch : ∀ c ∈ ys, c < 65536) : EV G (d + 1) m_Li_copyFrom 0 (mx_lc0 m_Li_copyFrom [.ref k, .ref o]) [] S D0 S (fun rv D' => rv = none ∧ (∀ q, ¬ q = k → ¬ q = k + 1 → D' q = D0 q) ∧ LN D' k ys) := by
  obtain ⟨hk0, hk1⟩ := id hK
  obtain ⟨ho0, ho1⟩ := id hO
  show EV _ _ _ _ [some (.ref k), some (.ref o), none] [] _ _ _ _
  refine EV.aload_n d_Li_copyFrom_0 rfl ?_
  refine EV.V0 cv_Li_17 d_Li_copyFrom_1 (by first | assumption | rfl) (sp_Li_clear hK hX) ⟨Nat.le_refl _, Nat.le_refl _⟩ rfl rfl (Nat.le_of_ble_eq_true rfl) (fun rv D1 hp => ?_)
  obtain ⟨q1, rfl, q2⟩ := hp
  refine EV.pop d_Li_copyFrom_4 rfl ?_
  refine EV.iconst (v := nI 0) d_Li_copyFrom_5 (by decide) ?_
  refine EV.istore_n d_Li_copyFrom_6 (by decide) ?_
  refine EV.post (fun rv D' h => ⟨h.1, fun q a b => (h.2.1 q a b).trans (q1 q a), h.2.2⟩) (lp_Li_copyFrom hK hO hko ⟨by rw [q1 o (by omega)]; exact hY.1, by rw [q1 (o + 1) (by omega)]; exact hY.2⟩ hle hle2 hn hn2 hch ys.length 0 D1 (by omega) rfl (fun _ _ _ => rfl) q2)
set_option maxHeartbeats 4000000 in
set_option maxRecDepth 100000 in
theorem sp_Ke_add {G : mx_G} {d : Nat} {S : List mx_Sh} {D : mx_Mem} {k c : Nat} {xs : List Nat} (hK : ShK S k) (hL : LN D k xs) (hle : xs.length < 52) : EV G d m_Ke_add 0 (mx_lc0 m_Ke_add [.ref k, .int (nI c)]) [] S D S (fun rv D' => rv = none ∧ (∀ q, ¬ q = k → ¬ q = k + 1 → D' q = D q) ∧ LN D' k (xs ++ [c])) := by
  obtain ⟨hk0, hk1⟩ := id hK
  show EV _ _ _ _ [some (.ref k), some (.int (nI c))] [] _ _ _ _
  refine EV.aload_n d_Ke_add_0 rfl ?_
  refine EV.getI fl_Ke_15 d_Ke_add_1 (by first | assumption | rfl) rfl ?_
  refine EV.aload_n d_Ke_add_4 rfl ?_
  refine EV.getR fl_Ke_9 d_Ke_add_5 (by first | assumption | rfl) rfl ?_
  refine EV.alen (v := nI 52) d_Ke_add_8 (by first | assumption | rfl) rfl rfl ?_
  refine EV.icmp_geN (tgt := 32) d_Ke_add_9 (by decide) hL.1 rfl (by omega) (by omega) (fun h9 => ?_) (fun h9 => ?_)
  · exfalso
    omega
  · refine EV.aload_n d_Ke_add_12 rfl ?_
    refine EV.getR fl_Ke_9 d_Ke_add_13 (by first | assumption | rfl) rfl ?_
    refine EV.aload_n d_Ke_add_16 rfl ?_
    refine EV.getI fl_Ke_15 d_Ke_add_17 (by first | assumption | rfl) rfl ?_
    refine EV.iload_n d_Ke_add_20 rfl ?_
    refine EV.iastN d_Ke_add_21 (by first | assumption | rfl) rfl hL.1 (by omega) (by first | decide | omega) ?_
    refine EV.aload_n d_Ke_add_22 rfl ?_
    refine EV.dup d_Ke_add_23 rfl ?_
    refine EV.getI fl_Ke_15 d_Ke_add_24 (by first | assumption | rfl) rfl ?_
    refine EV.iconst (v := nI 1) d_Ke_add_27 (by decide) ?_
    refine EV.iadd d_Ke_add_28 ?_
    refine EV.top (y := nI (xs.length + 1)) (by rw [mx_w_ne _ _ _ (by omega), hL.1]; exact nI_1 _) ?_
    refine EV.putI fl_Ke_15 d_Ke_add_29 (by first | assumption | rfl) rfl rfl rfl ?_
    exact EV.return_ d_Ke_add_32 rfl ⟨rfl, fun q q1 q2 => by simp [mx_w, va_up, q1, q2], by simp [mx_w, va_up, upd], by simp only [mx_w, va_up]; simp; exact ar_snoc hL.2⟩
set_option maxHeartbeats 4000000 in
set_option maxRecDepth 100000 in
theorem lp_Ke_against {G : mx_G} {d : Nat} {S : List mx_Sh} {D : mx_Mem} {k o m : Nat} {xs ys : List Nat} {R : Int32} (hK : ShK S k) (hO : ShK S o) (hX : LN D k xs) (hY : LN D o ys) (hm : m = min xs.length ys.length) (hx52 : xs.length ≤ 52) (hy52 : ys.length ≤ 52) (hxs : ∀ x ∈ xs, x < 2 ^ 31) (hys : ∀ y ∈ ys, y < 2 ^ 31) : ∀ (n i : Nat), i ≤ m → m - i = n → ps_cmp (xs.drop i) (ys.drop i) = R → EV G d m_Ke_against 14 [some (.ref k), some (.ref o), some (.int (nI m)), some (.int (nI i))] [] S D S (RI R D) := by
  obtain ⟨hk0, hk1⟩ := id hK
  obtain ⟨ho0, ho1⟩ := id hO
  intro n
  induction n with
  | zero =>
    intro i h1 h2 hR
    refine EV.iload_n d_Ke_against_14 rfl ?_
    refine EV.iload_n d_Ke_against_15 rfl ?_
    refine EV.icmp_geN (tgt := 61) d_Ke_against_16 (by decide) rfl rfl (by omega) (by omega) (fun h16 => ?_) (fun h16 => ?_)
    · refine EV.iconst (v := nI 0) d_Ke_against_61 (by decide) ?_
      exact EV.ireturn d_Ke_against_62 ⟨_, rfl, rfl⟩ ⟨by
        rw [← hR]
        rcases Nat.lt_or_ge i xs.length with q | q
        · rw [List.drop_of_length_le (l := ys) (by omega), ps_cmp_nil]
        · rw [List.drop_of_length_le q]; rfl, rfl⟩
    · exfalso
      omega
  | succ n ih =>
    intro i h1 h2 hR
    obtain ⟨x, hx⟩ : ∃ x, xs[i]? = some x := ⟨xs[i]'(by omega), List.getElem?_eq_getElem (by omega)⟩
    obtain ⟨y, hy⟩ : ∃ y, ys[i]? = some y := ⟨ys[i]'(by omega), List.getElem?_eq_getElem (by omega)⟩
    have hx2 := hxs x (List.mem_of_getElem? hx)
    have hy2 := hys y (List.mem_of_getElem? hy)
    have hxv := hX.2 i x hx
    have hyv := hY.2 i y hy
    have dx : xs.drop i = x :: xs.drop (i + 1) := by rw [List.drop_eq_getElem_cons (by omega), (List.getElem?_eq_some_iff.mp hx).2]
    have dy : ys.drop i = y :: ys.drop (i + 1) := by rw [List.drop_eq_getElem_cons (by omega), (List.getElem?_eq_some_iff.mp hy).2]
    rw [dx, dy, ps_cmp] at hR
    refine EV.iload_n d_Ke_against_14 rfl ?_
    refine EV.iload_n d_Ke_against_15 rfl ?_
    refine EV.icmp_geN (tgt := 61) d_Ke_against_16 (by decide) rfl rfl (by omega) (by omega) (fun h16 => ?_) (fun h16 => ?_)
    · exfalso
      omega
    · refine EV.aload_n d_Ke_against_19 rfl ?_
      refine EV.getR fl_Ke_9 d_Ke_against_20 (by first | assumption | rfl) rfl ?_
      refine EV.iload_n d_Ke_against_23 rfl ?_
      refine EV.ialdN d_Ke_against_24 (by first | assumption | rfl) rfl rfl (by omega) (by first | decide | omega) ?_
      refine EV.aload_n d_Ke_against_25 rfl ?_
      refine EV.getR fl_Ke_9 d_Ke_against_26 (by first | assumption | rfl) rfl ?_
      refine EV.iload_n d_Ke_against_29 rfl ?_
      refine EV.ialdN d_Ke_against_30 (by first | assumption | rfl) rfl rfl (by omega) (by first | decide | omega) ?_
      refine EV.icmp_eqN (tgt := 55) d_Ke_against_31 (by decide) hxv hyv (by omega) (by omega) (fun h31 => ?_) (fun h31 => ?_)
      · refine EV.iincN d_Ke_against_55 rfl (by decide) ?_
        refine EV.goto (tgt := 14) d_Ke_against_58 (by decide) ?_
        rw [if_pos h31] at hR
        exact ih (i + 1) (by omega) (by omega) hR
      · refine EV.aload_n d_Ke_against_34 rfl ?_
        refine EV.getR fl_Ke_9 d_Ke_against_35 (by first | assumption | rfl) rfl ?_
        refine EV.iload_n d_Ke_against_38 rfl ?_
        refine EV.ialdN d_Ke_against_39 (by first | assumption | rfl) rfl rfl (by omega) (by first | decide | omega) ?_
        refine EV.aload_n d_Ke_against_40 rfl ?_
        refine EV.getR fl_Ke_9 d_Ke_against_41 (by first | assumption | rfl) rfl ?_
        refine EV.iload_n d_Ke_against_44 rfl ?_
        refine EV.ialdN d_Ke_against_45 (by first | assumption | rfl) rfl rfl (by omega) (by first | decide | omega) ?_
        refine EV.icmp_geN (tgt := 53) d_Ke_against_46 (by decide) hxv hyv (by omega) (by omega) (fun h46 => ?_) (fun h46 => ?_)
        · refine EV.iconst (v := nI 1) d_Ke_against_53 (by decide) ?_
          exact EV.ireturn d_Ke_against_54 ⟨_, rfl, rfl⟩ ⟨by rw [← hR, if_neg h31]; first | rw [if_pos (by omega)] | rw [if_neg (by omega)], rfl⟩
        · refine EV.iconst (v := (-1)) d_Ke_against_49 (by decide) ?_
          refine EV.goto (tgt := 54) d_Ke_against_50 (by decide) ?_
          exact EV.ireturn d_Ke_against_54 ⟨_, rfl, rfl⟩ ⟨by rw [← hR, if_neg h31]; first | rw [if_pos (by omega)] | rw [if_neg (by omega)], rfl⟩
set_option maxHeartbeats 4000000 in
set_option maxRecDepth 100000 in
theorem sp_Ke_against {G : mx_G} {d : Nat} {S : List mx_Sh} {D : mx_Mem} {k o : Nat} {xs ys : List Nat} (hK : ShK S k) (hO : ShK S o) (hX : LN D k xs) (hY : LN D o ys) (hx52 : xs.length ≤ 52) (hy52 : ys.length ≤ 52) (hxs : ∀ x ∈ xs, x < 2 ^ 31) (hys : ∀ y ∈ ys, y < 2 ^ 31) : EV G (d + 1) m_Ke_against 0 (mx_lc0 m_Ke_against [.ref k, .ref o]) [] S D S (RI (ps_cmp xs ys) D) := by
  obtain ⟨hk0, hk1⟩ := id hK
  obtain ⟨ho0, ho1⟩ := id hO
  show EV _ _ _ _ [some (.ref k), some (.ref o), none, none] [] _ _ _ _
  refine EV.aload_n d_Ke_against_0 rfl ?_
  refine EV.getI fl_Ke_15 d_Ke_against_1 (by first | assumption | rfl) rfl ?_
  refine EV.aload_n d_Ke_against_4 rfl ?_
  refine EV.getI fl_Ke_15 d_Ke_against_5 (by first | assumption | rfl) rfl ?_
  refine EV.mmin (mx_in 452 (by decide +kernel) (by decide +kernel)) mx_mm d_Ke_against_8 rfl (Nat.le_of_ble_eq_true rfl) ?_
  refine EV.top (y := nI (min xs.length ys.length)) (by
    rw [hX.1, hY.1]
    by_cases q : ys.length < xs.length
    · rw [if_pos ((nI_ltI (by omega) (by omega)).mpr q), Nat.min_eq_right (by omega)]
    · rw [if_neg (fun z => q ((nI_ltI (by omega) (by omega)).mp z)), Nat.min_eq_left (by omega)]) ?_
  refine EV.istore_n d_Ke_against_11 (by decide) ?_
  refine EV.iconst (v := nI 0) d_Ke_against_12 (by decide) ?_
  refine EV.istore_n d_Ke_against_13 (by decide) ?_
  exact lp_Ke_against hK hO hX hY rfl hx52 hy52 hxs hys (min xs.length ys.length) 0 (by omega) rfl rfl
set_option maxHeartbeats 4000000 in
set_option maxRecDepth 100000 in
theorem sp_Ru_sign {G : mx_G} {d : Nat} {S : List mx_Sh} {D : mx_Mem} {r x : Nat} (hR : ShR S r) : EV G d m_Ru_sign 0 (mx_lc0 m_Ru_sign [.ref r, .int (nI x)]) [] S D S (fun rv D' => rv = some (.int (nI 1)) ∧ (∀ q, ¬ q = r → D' q = D q) ∧ D' r 2 = D r 2 ∧ D' r 3 = nI 1 ∧ D' r 4 = nI x) := by
  obtain ⟨hr0, hr1, hr2⟩ := id hR
  show EV _ _ _ _ [some (.ref r), some (.int (nI x))] [] _ _ _ _
  refine EV.aload_n d_Ru_sign_0 rfl ?_
  refine EV.iconst (v := nI 1) d_Ru_sign_1 (by decide) ?_
  refine EV.putI fl_Ru_22 d_Ru_sign_2 (by first | assumption | rfl) rfl rfl rfl ?_
  refine EV.aload_n d_Ru_sign_5 rfl ?_
  refine EV.iload_n d_Ru_sign_6 rfl ?_
  refine EV.putI fl_Ru_25 d_Ru_sign_7 (by first | assumption | rfl) rfl rfl rfl ?_
  refine EV.iconst (v := nI 1) d_Ru_sign_10 (by decide) ?_
  exact EV.ireturn d_Ru_sign_11 ⟨_, rfl, rfl⟩ ⟨rfl, fun q q1 => by simp [mx_w, va_up, q1], by simp [mx_w, va_up, upd], by simp [mx_w, va_up, upd], by simp [mx_w, va_up, upd]⟩
set_option maxHeartbeats 4000000 in
set_option maxRecDepth 100000 in
theorem sp_Ru_begin {G : mx_G} {d : Nat} {S : List mx_Sh} {D : mx_Mem} {r c : Nat} {q : ru_Q} (hR : ShR S r) (hQ : RuS D r q) (hl : q.2.2.length < 24) (hc : c < 128) : EV G d m_Ru_begin 0 (mx_lc0 m_Ru_begin [.ref r, .int (nI c)]) [] S D S (fun rv D' => rv = some (.int (nI 1)) ∧ (∀ k, ¬ k = r → ¬ k = r + 1 → ¬ k = r + 2 → D' k = D k) ∧ RuS D' r (2, q.2.1, q.2.2 ++ [([c], q.2.1)])) := by
  obtain ⟨hr0, hr1, hr2⟩ := id hR
  show EV _ _ _ _ [some (.ref r), some (.int (nI c))] [] _ _ _ _
  refine EV.aload_n d_Ru_begin_0 rfl ?_
  refine EV.getI fl_Ru_18 d_Ru_begin_1 (by first | assumption | rfl) rfl ?_
  refine EV.bipush (v := nI 24) d_Ru_begin_4 (by decide) ?_
  refine EV.icmp_ltN (tgt := 11) d_Ru_begin_6 (by decide) hQ.1 rfl (by omega) (by omega) (fun h6 => ?_) (fun h6 => ?_)
  · refine EV.aload_n d_Ru_begin_11 rfl ?_
    refine EV.getR fl_Ru_9 d_Ru_begin_12 (by first | assumption | rfl) rfl ?_
    refine EV.aload_n d_Ru_begin_15 rfl ?_
    refine EV.getI fl_Ru_18 d_Ru_begin_16 (by first | assumption | rfl) rfl ?_
    refine EV.iload_n d_Ru_begin_19 rfl ?_
    refine EV.iastN d_Ru_begin_20 (by first | assumption | rfl) rfl hQ.1 (by omega) (by first | decide | omega) ?_
    refine EV.aload_n d_Ru_begin_21 rfl ?_
    refine EV.getR fl_Ru_15 d_Ru_begin_22 (by first | assumption | rfl) rfl ?_
    refine EV.aload_n d_Ru_begin_25 rfl ?_
    refine EV.getI fl_Ru_18 d_Ru_begin_26 (by first | assumption | rfl) rfl ?_
    refine EV.aload_n d_Ru_begin_29 rfl ?_
    refine EV.getI fl_Ru_25 d_Ru_begin_30 (by first | assumption | rfl) rfl ?_
    refine EV.top (y := nI q.2.1) (by rw [mx_w_ne _ _ _ (by omega)]; exact hQ.2.2.1) ?_
    refine EV.iastN d_Ru_begin_33 (by first | assumption | rfl) rfl (by rw [mx_w_ne _ _ _ (by omega)]; exact hQ.1) (by omega) (by first | decide | omega) ?_
    refine EV.aload_n d_Ru_begin_34 rfl ?_
    refine EV.dup d_Ru_begin_35 rfl ?_
    refine EV.getI fl_Ru_18 d_Ru_begin_36 (by first | assumption | rfl) rfl ?_
    refine EV.iconst (v := nI 1) d_Ru_begin_39 (by decide) ?_
    refine EV.iadd d_Ru_begin_40 ?_
    refine EV.top (y := nI (q.2.2.length + 1)) (by rw [mx_w_ne _ _ _ (by omega), mx_w_ne _ _ _ (by omega), hQ.1]; exact nI_1 _) ?_
    refine EV.putI fl_Ru_18 d_Ru_begin_41 (by first | assumption | rfl) rfl rfl rfl ?_
    refine EV.aload_n d_Ru_begin_44 rfl ?_
    refine EV.iconst (v := nI 2) d_Ru_begin_45 (by decide) ?_
    refine EV.putI fl_Ru_22 d_Ru_begin_46 (by first | assumption | rfl) rfl rfl rfl ?_
    refine EV.iconst (v := nI 1) d_Ru_begin_49 (by decide) ?_
    have e1 : ps_enc 256 [c] = c := by simp [ps_enc]
    have hs := TBf_snoc (e := ([c], q.2.1)) hQ.2.2.2
    rw [e1] at hs
    exact EV.ireturn d_Ru_begin_50 ⟨_, rfl, rfl⟩ ⟨rfl, fun k k1 k2 k3 => by simp [mx_w, va_up, k1, k2, k3], by simp [mx_w, va_up, upd], by simp [mx_w, va_up, upd], by simp [mx_w, va_up, upd]; exact hQ.2.2.1, by simp only [mx_w, va_up]; simp; exact hs⟩
  · refine EV.iconst (v := nI 0) d_Ru_begin_9 (by decide) ?_
    exact EV.ireturn d_Ru_begin_10 ⟨_, rfl, rfl⟩ (absurd hl (by omega))
set_option maxHeartbeats 4000000 in
set_option maxRecDepth 100000 in
theorem lp_Ru_goOn {G : mx_G} {d : Nat} {S : List mx_Sh} {D : mx_Mem} {r c : Nat} {q : ru_Q} {e : List Nat × Nat} (hR : ShR S r) (hQ : RuS D r q) (hq : q.1 = 2) (hl : q.2.2.length ≤ 24) (hl1 : 1 ≤ q.2.2.length) (hso : ps_so e.1) (he : q.2.2[q.2.2.length - 1]? = some e) (hc : 0 < c ∧ c < 128) : EV G (d + 1) m_Ru_goOn 27 [some (.ref r), some (.int (nI c)), some (.int (nI (q.2.2.length - 1))), some (.int (bI (ps_letter c || ps_mark c))), none] [] S D S (fun rv D' => (∀ k, ¬ k = r → ¬ k = r + 1 → ¬ k = r + 2 → D' k = D k) ∧ oR (ru_go q c) (rv = some (.int (nI 0))) (fun q' => rv = some (.int (nI 1)) ∧ RuS D' r q')) := by
  obtain ⟨hr0, hr1, hr2⟩ := id hR
  have hb := ps_enc_b (Or.inr rfl) hso
  have hlt := ps_enc_lt (b := 256) (s := e.1) (fun x hx => by have := (hso.2.2 x hx).2; omega)
  have hev := (hQ.2.2.2 _ e he).1
  have hlen := ps_len_enc hso
  have hsl := hso.1
  have hsu := hso.2.1
  refine EV.iload_n d_Ru_goOn_27 rfl ?_
  refine EV.if_eqB (tgt := 35) d_Ru_goOn_28 (by decide) (fun h28 => ?_) (fun h28 => ?_)
  · refine EV.iconst (v := nI 0) d_Ru_goOn_35 (by decide) ?_
    exact EV.ireturn d_Ru_goOn_36 ⟨_, rfl, rfl⟩ ⟨fun _ _ _ _ => rfl, oR_n (by unfold ru_go; rw [he]; dsimp only; rw [if_neg (by simp [h28])]) rfl⟩
  refine EV.iload_n d_Ru_goOn_31 rfl ?_
  refine EV.if_geN (tgt := 37) d_Ru_goOn_32 rfl (by omega) (by decide) ?_
  refine EV.aload_n d_Ru_goOn_37 rfl ?_
  refine EV.getR fl_Ru_9 d_Ru_goOn_38 (by first | assumption | rfl) rfl ?_
  refine EV.iload_n d_Ru_goOn_41 rfl ?_
  refine EV.ialdN d_Ru_goOn_42 (by first | assumption | rfl) rfl rfl (by omega) (by first | decide | omega) ?_
  refine EV.top hev ?_
  refine EV.T1 cs_Ru_57 d_Ru_goOn_43 (sp_To_lengthOf (by omega)) ⟨Nat.le_refl _, Nat.le_refl _⟩ rfl rfl (Nat.le_of_ble_eq_true rfl) (fun rv D1 hp => ?_)
  obtain ⟨rfl, hD⟩ := hp
  obtain rfl := hD.symm
  rw [hlen]
  refine EV.istore d_Ru_goOn_46 (by decide) ?_
  refine EV.iload d_Ru_goOn_48 rfl ?_
  refine EV.iconst (v := nI 3) d_Ru_goOn_50 (by decide) ?_
  refine EV.icmp_ltN (tgt := 56) d_Ru_goOn_51 (by decide) rfl rfl (by omega) (by omega) (fun h51 => ?_) (fun h51 => ?_)
  · refine EV.aload_n d_Ru_goOn_56 rfl ?_
    refine EV.getR fl_Ru_9 d_Ru_goOn_57 (by first | assumption | rfl) rfl ?_
    refine EV.iload_n d_Ru_goOn_60 rfl ?_
    refine EV.aload_n d_Ru_goOn_61 rfl ?_
    refine EV.getR fl_Ru_9 d_Ru_goOn_62 (by first | assumption | rfl) rfl ?_
    refine EV.iload_n d_Ru_goOn_65 rfl ?_
    refine EV.ialdN d_Ru_goOn_66 (by first | assumption | rfl) rfl rfl (by omega) (by first | decide | omega) ?_
    refine EV.top hev ?_
    refine EV.iload d_Ru_goOn_67 rfl ?_
    refine EV.iload_n d_Ru_goOn_69 rfl ?_
    refine EV.T3 cs_Ru_61 d_Ru_goOn_70 (sp_To_joined (by have := hso.1; omega) hlt hc.2) ⟨Nat.le_refl _, Nat.le_refl _⟩ rfl rfl (Nat.le_of_ble_eq_true rfl) (fun rv D1 hp => ?_)
    obtain ⟨rfl, hD⟩ := hp
    obtain rfl := hD.symm
    refine EV.iastN d_Ru_goOn_73 (by first | assumption | rfl) rfl rfl (by omega) (by first | decide | omega) ?_
    refine EV.iconst (v := nI 1) d_Ru_goOn_74 (by decide) ?_
    exact EV.ireturn d_Ru_goOn_75 ⟨_, rfl, rfl⟩ ⟨fun k k1 k2 k3 => by simp [mx_w, va_up, k2], by
      refine oR_s (q := (2, q.2.1, q.2.2.set (q.2.2.length - 1) (e.1 ++ [c], e.2))) (by unfold ru_go; rw [he]; dsimp only; rw [if_pos ⟨h28, by omega⟩]) ⟨rfl, ?_, ?_, ?_, ?_⟩
      · simp [mx_w, va_up]; exact hQ.1
      · simp [mx_w, va_up]; rw [← hq]; exact hQ.2.1
      · simp [mx_w, va_up]; exact hQ.2.2.1
      · have := TBf_set (e' := (e.1 ++ [c], e.2)) hQ.2.2.2 he rfl
        rw [ps_enc_snoc] at this
        simp only [mx_w, va_up]
        simp
        exact this⟩
  · refine EV.iconst (v := nI 0) d_Ru_goOn_54 (by decide) ?_
    exact EV.ireturn d_Ru_goOn_55 ⟨_, rfl, rfl⟩ ⟨fun _ _ _ _ => rfl, oR_n (by unfold ru_go; rw [he]; dsimp only; rw [if_neg (by omega)]) rfl⟩
set_option maxHeartbeats 4000000 in
set_option maxRecDepth 100000 in
theorem sp_Ru_goOn {G : mx_G} {d : Nat} {S : List mx_Sh} {D : mx_Mem} {r c : Nat} {q : ru_Q} (hR : ShR S r) (hQ : RuS D r q) (hq : q.1 = 2) (hl : q.2.2.length ≤ 24) (hl1 : 1 ≤ q.2.2.length) (hso : ∀ e ∈ q.2.2, ps_so e.1) (hc : 0 < c ∧ c < 128) : EV G (d + 1) m_Ru_goOn 0 (mx_lc0 m_Ru_goOn [.ref r, .int (nI c)]) [] S D S (fun rv D' => (∀ k, ¬ k = r → ¬ k = r + 1 → ¬ k = r + 2 → D' k = D k) ∧ oR (ru_go q c) (rv = some (.int (nI 0))) (fun q' => rv = some (.int (nI 1)) ∧ RuS D' r q')) := by
  obtain ⟨hr0, hr1, hr2⟩ := id hR
  obtain ⟨e, he⟩ : ∃ e, q.2.2[q.2.2.length - 1]? = some e := ⟨q.2.2[q.2.2.length - 1]'(by omega), List.getElem?_eq_getElem (by omega)⟩
  have K := lp_Ru_goOn (G := G) (d := d) hR hQ hq hl hl1 (hso e (List.mem_of_getElem? he)) he hc
  show EV _ _ _ _ [some (.ref r), some (.int (nI c)), none, none, none] [] _ _ _ _
  refine EV.aload_n d_Ru_goOn_0 rfl ?_
  refine EV.getI fl_Ru_18 d_Ru_goOn_1 (by first | assumption | rfl) rfl ?_
  refine EV.iconst (v := nI 1) d_Ru_goOn_4 (by decide) ?_
  refine EV.isub d_Ru_goOn_5 ?_
  refine EV.top (y := nI (q.2.2.length - 1)) (by rw [hQ.1]; exact pk_sub hl1) ?_
  refine EV.istore_n d_Ru_goOn_6 (by decide) ?_
  refine EV.iload_n d_Ru_goOn_7 rfl ?_
  refine EV.T1 cs_Ru_45 d_Ru_goOn_8 (sp_To_isLetter (by omega)) ⟨Nat.le_refl _, Nat.le_refl _⟩ rfl rfl (Nat.le_of_ble_eq_true rfl) (fun rv D1 hp => ?_)
  obtain ⟨rfl, hD⟩ := hp
  obtain rfl := hD.symm
  refine EV.if_neB (tgt := 21) d_Ru_goOn_11 (by decide) (fun h11 => ?_) (fun h11 => ?_)
  · have eb : bI (ps_letter c || ps_mark c) = nI 1 := bI_t (by simp [h11])
    rw [eb] at K
    refine EV.iconst (v := nI 1) d_Ru_goOn_21 (by decide) ?_
    refine EV.goto (tgt := 26) d_Ru_goOn_22 (by decide) ?_
    refine EV.istore_n d_Ru_goOn_26 (by decide) ?_
    exact K
  refine EV.iload_n d_Ru_goOn_14 rfl ?_
  refine EV.T1 cs_Ru_54 d_Ru_goOn_15 (sp_To_isMark (by omega)) ⟨Nat.le_refl _, Nat.le_refl _⟩ rfl rfl (Nat.le_of_ble_eq_true rfl) (fun rv D1 hp => ?_)
  obtain ⟨rfl, hD⟩ := hp
  obtain rfl := hD.symm
  refine EV.if_eqB (tgt := 25) d_Ru_goOn_18 (by decide) (fun h18 => ?_) (fun h18 => ?_)
  · have eb : bI (ps_letter c || ps_mark c) = nI 0 := bI_f (by simp [h11, h18])
    rw [eb] at K
    refine EV.iconst (v := nI 0) d_Ru_goOn_25 (by decide) ?_
    refine EV.istore_n d_Ru_goOn_26 (by decide) ?_
    exact K
  · have eb : bI (ps_letter c || ps_mark c) = nI 1 := bI_t (by simp [h18])
    rw [eb] at K
    refine EV.iconst (v := nI 1) d_Ru_goOn_21 (by decide) ?_
    refine EV.goto (tgt := 26) d_Ru_goOn_22 (by decide) ?_
    refine EV.istore_n d_Ru_goOn_26 (by decide) ?_
    exact K
end
section
theorem ps_letter_ok {c : Nat} (h : ps_letter c = true) : 0 < c ∧ c < 128 := by
  unfold ps_letter at h
  simp at h
  omega
theorem ps_mark_ok {c : Nat} (h : ps_mark c = true) : 0 < c ∧ c < 128 := by
  unfold ps_mark at h
  simp at h
  omega
theorem ru_st_wf {q q' : ru_Q} {n c : Nat} (h : ru_wf q n) (hs : ru_st q c = some q') : ru_wf q' (n + 1) := by
  obtain ⟨w1, w2, w3, w4, w5, w6, w7, w8⟩ := h
  unfold ru_st at hs
  split at hs
  · rename_i h0
    split at hs
    · cases hs
      exact ⟨by simp, by simp, by show q.2.2.length ≤ n + 1; omega, w4, fun h => absurd h (by simp), fun h => absurd h (by simp), fun _ => ⟨fun _ => w6 h0, fun _ => rfl⟩, w8⟩
    · cases hs
  · split at hs
    · rename_i h0 h1
      split at hs
      · rename_i h2
        cases hs
        have := w7 h1
        exact ⟨by simp, by show q.2.1 + 1 ≤ 4; omega, by show q.2.2.length ≤ n + 1; omega, w4, fun h => absurd h (by simp), fun h => absurd h (by simp), fun _ => ⟨fun h => absurd h (by show ¬ q.2.1 + 1 = 0; omega), fun h => by exfalso; have : q.2.2.length = 0 := h; omega⟩, w8⟩
      · split at hs
        · rename_i h3
          cases hs
          have h7 := w7 h1
          refine ⟨by simp, w2, by show (q.2.2 ++ [([c], q.2.1)]).length ≤ n + 1; rw [List.length_append]; simp; omega, fun e he => ?_, fun _ => by show 1 ≤ (q.2.2 ++ [([c], q.2.1)]).length; rw [List.length_append]; simp, fun h => absurd h (by simp), fun h => absurd h (by simp), fun i e hi he => ?_⟩
          · rcases List.mem_append.mp he with he | he
            · exact w4 e he
            · simp at he
              subst he
              exact ⟨⟨by simp, by simp, fun x hx => by simp at hx; subst hx; exact ps_letter_ok h3⟩, w2⟩
          · have he' : (q.2.2 ++ [([c], q.2.1)])[i]? = some e := he
            by_cases hl : i < q.2.2.length
            · rw [List.getElem?_append_left hl] at he'
              exact w8 i e hi he'
            · have hl2 : i < (q.2.2 ++ [([c], q.2.1)]).length := (List.getElem?_eq_some_iff.mp he').1
              rw [List.length_append, List.length_singleton] at hl2
              have : i = q.2.2.length := by omega
              subst this
              simp at he'
              subst he'
              show 1 ≤ q.2.1
              omega
        · cases hs
    · rename_i h0 h1
      have h2 : q.1 = 2 := by omega
      split at hs
      · cases hs
        have := w5 h2
        exact ⟨by simp, by simp, by show q.2.2.length ≤ n + 1; omega, w4, fun h => absurd h (by simp), fun h => absurd h (by simp), fun _ => ⟨fun h => absurd h (by simp), fun h => by exfalso; have : q.2.2.length = 0 := h; omega⟩, w8⟩
      · split at hs
        · cases hs
          have := w5 h2
          exact ⟨by simp, by simp, by show q.2.2.length ≤ n + 1; omega, w4, fun h => absurd h (by simp), fun h => absurd h (by simp), fun _ => ⟨fun h => absurd h (by simp), fun h => by exfalso; have : q.2.2.length = 0 := h; omega⟩, w8⟩
        · unfold ru_go at hs
          split at hs
          · cases hs
          · rename_i e he
            split at hs
            · rename_i hg
              cases hs
              have hl1 := w5 h2
              have hme := w4 e (List.mem_of_getElem? he)
              have hcc : 0 < c ∧ c < 128 := by
                have := hg.1
                rw [Bool.or_eq_true] at this
                exact this.elim ps_letter_ok ps_mark_ok
              refine ⟨by simp, w2, by show (q.2.2.set _ _).length ≤ n + 1; rw [List.length_set]; omega, fun x hx => ?_, fun _ => by show 1 ≤ (q.2.2.set _ _).length; rw [List.length_set]; omega, fun h => absurd h (by simp), fun h => absurd h (by simp), fun i x hi hx => ?_⟩
              · rcases List.mem_or_eq_of_mem_set hx with hx | hx
                · exact w4 x hx
                · subst hx
                  refine ⟨⟨by simp, by simp; omega, fun y hy => ?_⟩, hme.2⟩
                  rcases List.mem_append.mp hy with hy | hy
                  · exact hme.1.2.2 y hy
                  · simp at hy; subst hy; exact hcc
              · have hx' : (q.2.2.set (q.2.2.length - 1) (e.1 ++ [c], e.2))[i]? = some x := hx
                by_cases hi2 : i = q.2.2.length - 1
                · subst hi2
                  rw [List.getElem?_set_self (by omega)] at hx'
                  cases hx'
                  exact w8 _ e hi he
                · rw [List.getElem?_set_ne (Ne.symm hi2)] at hx'
                  exact w8 i x hi hx'
            · cases hs
/-- the whole line: the place of the first character that can't be taken, or the state behind it -/
def ru_rd (q : ru_Q) (i : Nat) : List Nat → Nat ⊕ ru_Q
  | [] => .inr q
  | c :: r => match ru_st q c with
    | none => .inl i
    | some q' => ru_rd q' (i + 1) r
def ru_ans (n : Nat) : Nat ⊕ ru_Q → Nat ⊕ ps_T
  | .inl i => .inl i
  | .inr q => if q.1 = 2 ∧ 1 < q.2.2.length then .inr q.2.2 else .inl n
def RdP (D0 : mx_Mem) (r : Nat) (x : Nat ⊕ ps_T) : Option Value → mx_Mem → Prop := fun rv D' => (∀ k, ¬ k = r → ¬ k = r + 1 → ¬ k = r + 2 → D' k = D0 k) ∧ match x with
  | .inl p => rv = some (.int (-1 - nI p))
  | .inr rl => rv = some (.int (nI rl.length)) ∧ D' r 2 = nI rl.length ∧ TBf 256 (D' (r + 1)) (D' (r + 2)) rl ∧ RLo rl
theorem RdP_f {D0 D' : mx_Mem} {r p : Nat} {x : Nat ⊕ ps_T} (h : x = .inl p) (ho : ∀ k, ¬ k = r → ¬ k = r + 1 → ¬ k = r + 2 → D' k = D0 k) : RdP D0 r x (some (.int (-1 - nI p))) D' := by subst h; exact ⟨ho, rfl⟩
theorem RdP_t {D0 D' : mx_Mem} {r : Nat} {rl : ps_T} {x : Nat ⊕ ps_T} (h : x = .inr rl) (ho : ∀ k, ¬ k = r → ¬ k = r + 1 → ¬ k = r + 2 → D' k = D0 k) (hb : D' r 2 = nI rl.length ∧ TBf 256 (D' (r + 1)) (D' (r + 2)) rl ∧ RLo rl) : RdP D0 r x (some (.int (nI rl.length))) D' := by subst h; exact ⟨ho, rfl, hb⟩
set_option maxHeartbeats 4000000 in
set_option maxRecDepth 100000 in
theorem sp_Ru_takes {G : mx_G} {d : Nat} {S : List mx_Sh} {D : mx_Mem} {r c n : Nat} {q : ru_Q} (hR : ShR S r) (hQ : RuS D r q) (hw : ru_wf q n) (hn : n < 24) (hc : 0 < c ∧ c < 128) : EV G (d + 2) m_Ru_takes 0 (mx_lc0 m_Ru_takes [.ref r, .int (nI c)]) [] S D S (fun rv D' => (∀ k, ¬ k = r → ¬ k = r + 1 → ¬ k = r + 2 → D' k = D k) ∧ oR (ru_st q c) (rv = some (.int (nI 0))) (fun q' => rv = some (.int (nI 1)) ∧ RuS D' r q')) := by
  obtain ⟨hr0, hr1, hr2⟩ := id hR
  obtain ⟨w1, w2, w3, w4, w5, w6, w7, w8⟩ := id hw
  show EV _ _ _ _ [some (.ref r), some (.int (nI c))] [] _ _ _ _
  refine EV.aload_n d_Ru_takes_0 rfl ?_
  refine EV.getI fl_Ru_22 d_Ru_takes_1 (by first | assumption | rfl) rfl ?_
  rcases (show q.1 = 0 ∨ q.1 = 1 ∨ q.1 = 2 by omega) with h0 | h0 | h0
  · refine EV.top (y := nI 0) (by rw [hQ.2.1, h0]) ?_
    refine EV.lsw (off := 28) (tgt := 32) d_Ru_takes_4 (by decide) (by decide) (by decide) ?_
    refine EV.iload_n d_Ru_takes_32 rfl ?_
    refine EV.bipush (v := nI 38) d_Ru_takes_33 (by decide) ?_
    refine EV.icmp_neN (tgt := 50) d_Ru_takes_35 (by decide) rfl rfl (by omega) (by omega) (fun h35 => ?_) (fun h35 => ?_)
    · refine EV.iconst (v := nI 0) d_Ru_takes_50 (by decide) ?_
      exact EV.ireturn d_Ru_takes_51 ⟨_, rfl, rfl⟩ (by first | exact ⟨fun k k1 _ _ => o1 k k1, oR_s (q := (1, 0, q.2.2)) (by unfold ru_st; rw [if_pos h0, if_pos h35]) ⟨rfl, by rw [o2]; exact hQ.1, o3, o4, by rw [o1 (r + 1) (by omega), o1 (r + 2) (by omega)]; exact hQ.2.2.2⟩⟩ | exact ⟨fun _ _ _ _ => rfl, oR_n (by unfold ru_st; rw [if_pos h0, if_neg h35]) rfl⟩)
    · refine EV.aload_n d_Ru_takes_38 rfl ?_
      refine EV.iconst (v := nI 0) d_Ru_takes_39 (by decide) ?_
      refine EV.V1 cv_Ru_41 d_Ru_takes_40 (by first | assumption | rfl) (sp_Ru_sign (x := 0) hR) ⟨Nat.le_refl _, Nat.le_refl _⟩ rfl rfl (Nat.le_of_ble_eq_true rfl) (fun rv D1 hp => ?_)
      obtain ⟨rfl, o1, o2, o3, o4⟩ := hp
      refine EV.if_eqN (tgt := 50) d_Ru_takes_43 (by decide) rfl (by decide) (fun h => absurd h (by decide)) (fun _ => ?_)
      refine EV.iconst (v := nI 1) d_Ru_takes_46 (by decide) ?_
      refine EV.goto (tgt := 51) d_Ru_takes_47 (by decide) ?_
      exact EV.ireturn d_Ru_takes_51 ⟨_, rfl, rfl⟩ (by first | exact ⟨fun k k1 _ _ => o1 k k1, oR_s (q := (1, 0, q.2.2)) (by unfold ru_st; rw [if_pos h0, if_pos h35]) ⟨rfl, by rw [o2]; exact hQ.1, o3, o4, by rw [o1 (r + 1) (by omega), o1 (r + 2) (by omega)]; exact hQ.2.2.2⟩⟩ | exact ⟨fun _ _ _ _ => rfl, oR_n (by unfold ru_st; rw [if_pos h0, if_neg h35]) rfl⟩)
  · refine EV.top (y := nI 1) (by rw [hQ.2.1, h0]) ?_
    refine EV.lsw (off := 48) (tgt := 52) d_Ru_takes_4 (by decide) (by decide) (by decide) ?_
    have h1 : ¬ q.1 = 0 := by omega
    have K : ¬ (c = 60 ∧ (q.2.1 = 1 ∨ q.2.1 = 2)) → EV G (d + 2) m_Ru_takes 87 [some (.ref r), some (.int (nI c))] [] S D S (fun rv D' => (∀ k, ¬ k = r → ¬ k = r + 1 → ¬ k = r + 2 → D' k = D k) ∧ oR (ru_st q c) (rv = some (.int (nI 0))) (fun q' => rv = some (.int (nI 1)) ∧ RuS D' r q')) := by
      intro hne
      refine EV.iload_n d_Ru_takes_87 rfl ?_
      refine EV.T1 cs_Ru_45 d_Ru_takes_88 (sp_To_isLetter (by omega)) ⟨Nat.le_refl _, Nat.le_refl _⟩ rfl rfl (Nat.le_of_ble_eq_true rfl) (fun rv D1 hp => ?_)
      obtain ⟨rfl, hD⟩ := hp
      obtain rfl := hD.symm
      refine EV.if_eqB (tgt := 106) d_Ru_takes_91 (by decide) (fun h91 => ?_) (fun h91 => ?_)
      · refine EV.iconst (v := nI 0) d_Ru_takes_106 (by decide) ?_
        exact EV.ireturn d_Ru_takes_107 ⟨_, rfl, rfl⟩ ⟨fun _ _ _ _ => rfl, oR_n (by unfold ru_st; rw [if_neg h1, if_pos h0, if_neg hne, if_neg (by simp [h91])]) rfl⟩
      refine EV.aload_n d_Ru_takes_94 rfl ?_
      refine EV.iload_n d_Ru_takes_95 rfl ?_
      refine EV.V1 cv_Ru_48 d_Ru_takes_96 (by first | assumption | rfl) (sp_Ru_begin hR hQ (by omega) hc.2) ⟨Nat.le_refl _, Nat.le_refl _⟩ rfl rfl (Nat.le_of_ble_eq_true rfl) (fun rv D1 hp => ?_)
      obtain ⟨rfl, o1, o2⟩ := hp
      refine EV.if_eqN (tgt := 106) d_Ru_takes_99 (by decide) rfl (by decide) (fun h => absurd h (by decide)) (fun _ => ?_)
      refine EV.iconst (v := nI 1) d_Ru_takes_102 (by decide) ?_
      refine EV.goto (tgt := 107) d_Ru_takes_103 (by decide) ?_
      exact EV.ireturn d_Ru_takes_107 ⟨_, rfl, rfl⟩ ⟨o1, oR_s (q := (2, q.2.1, q.2.2 ++ [([c], q.2.1)])) (by unfold ru_st; rw [if_neg h1, if_pos h0, if_neg hne, if_pos h91]) ⟨rfl, o2⟩⟩
    refine EV.iload_n d_Ru_takes_52 rfl ?_
    refine EV.bipush (v := nI 60) d_Ru_takes_53 (by decide) ?_
    refine EV.icmp_neN (tgt := 87) d_Ru_takes_55 (by decide) rfl rfl (by omega) (by omega) (fun h55 => ?_) (fun h55 => ?_)
    · exact K (by omega)
    · refine EV.aload_n d_Ru_takes_58 rfl ?_
      refine EV.getI fl_Ru_25 d_Ru_takes_59 (by first | assumption | rfl) rfl ?_
      refine EV.iconst (v := nI 1) d_Ru_takes_62 (by decide) ?_
      refine EV.icmp_eqN (tgt := 74) d_Ru_takes_63 (by decide) hQ.2.2.1 rfl (by omega) (by omega) (fun h63 => ?_) (fun h63 => ?_)
      · refine EV.aload_n d_Ru_takes_74 rfl ?_
        refine EV.aload_n d_Ru_takes_75 rfl ?_
        refine EV.getI fl_Ru_25 d_Ru_takes_76 (by first | assumption | rfl) rfl ?_
        refine EV.iconst (v := nI 1) d_Ru_takes_79 (by decide) ?_
        refine EV.iadd d_Ru_takes_80 ?_
        refine EV.top (y := nI (q.2.1 + 1)) (by rw [hQ.2.2.1]; exact nI_1 _) ?_
        refine EV.V1 cv_Ru_41 d_Ru_takes_81 (by first | assumption | rfl) (sp_Ru_sign (x := q.2.1 + 1) hR) ⟨Nat.le_refl _, Nat.le_refl _⟩ rfl rfl (Nat.le_of_ble_eq_true rfl) (fun rv D1 hp => ?_)
        obtain ⟨rfl, o1, o2, o3, o4⟩ := hp
        refine EV.goto (tgt := 107) d_Ru_takes_84 (by decide) ?_
        exact EV.ireturn d_Ru_takes_107 ⟨_, rfl, rfl⟩ ⟨fun k k1 _ _ => o1 k k1, oR_s (q := (1, q.2.1 + 1, q.2.2)) (by unfold ru_st; rw [if_neg h1, if_pos h0, if_pos (by omega)]) ⟨rfl, by rw [o2]; exact hQ.1, o3, o4, by rw [o1 (r + 1) (by omega), o1 (r + 2) (by omega)]; exact hQ.2.2.2⟩⟩
      · refine EV.aload_n d_Ru_takes_66 rfl ?_
        refine EV.getI fl_Ru_25 d_Ru_takes_67 (by first | assumption | rfl) rfl ?_
        refine EV.iconst (v := nI 2) d_Ru_takes_70 (by decide) ?_
        refine EV.icmp_neN (tgt := 87) d_Ru_takes_71 (by decide) hQ.2.2.1 rfl (by omega) (by omega) (fun h71 => ?_) (fun h71 => ?_)
        · exact K (by omega)
        · refine EV.aload_n d_Ru_takes_74 rfl ?_
          refine EV.aload_n d_Ru_takes_75 rfl ?_
          refine EV.getI fl_Ru_25 d_Ru_takes_76 (by first | assumption | rfl) rfl ?_
          refine EV.iconst (v := nI 1) d_Ru_takes_79 (by decide) ?_
          refine EV.iadd d_Ru_takes_80 ?_
          refine EV.top (y := nI (q.2.1 + 1)) (by rw [hQ.2.2.1]; exact nI_1 _) ?_
          refine EV.V1 cv_Ru_41 d_Ru_takes_81 (by first | assumption | rfl) (sp_Ru_sign (x := q.2.1 + 1) hR) ⟨Nat.le_refl _, Nat.le_refl _⟩ rfl rfl (Nat.le_of_ble_eq_true rfl) (fun rv D1 hp => ?_)
          obtain ⟨rfl, o1, o2, o3, o4⟩ := hp
          refine EV.goto (tgt := 107) d_Ru_takes_84 (by decide) ?_
          exact EV.ireturn d_Ru_takes_107 ⟨_, rfl, rfl⟩ ⟨fun k k1 _ _ => o1 k k1, oR_s (q := (1, q.2.1 + 1, q.2.2)) (by unfold ru_st; rw [if_neg h1, if_pos h0, if_pos (by omega)]) ⟨rfl, by rw [o2]; exact hQ.1, o3, o4, by rw [o1 (r + 1) (by omega), o1 (r + 2) (by omega)]; exact hQ.2.2.2⟩⟩
  · refine EV.top (y := nI 2) (by rw [hQ.2.1, h0]) ?_
    refine EV.lsw (off := 104) (tgt := 108) d_Ru_takes_4 (by decide) (by decide) (by decide) ?_
    have h1 : ¬ q.1 = 0 := by omega
    have h2 : ¬ q.1 = 1 := by omega
    refine EV.iload_n d_Ru_takes_108 rfl ?_
    refine EV.bipush (v := nI 60) d_Ru_takes_109 (by decide) ?_
    refine EV.icmp_neN (tgt := 122) d_Ru_takes_111 (by decide) rfl rfl (by omega) (by omega) (fun h111 => ?_) (fun h111 => ?_)
    · refine EV.iload_n d_Ru_takes_122 rfl ?_
      refine EV.bipush (v := nI 61) d_Ru_takes_123 (by decide) ?_
      refine EV.icmp_neN (tgt := 136) d_Ru_takes_125 (by decide) rfl rfl (by omega) (by omega) (fun h125 => ?_) (fun h125 => ?_)
      · refine EV.aload_n d_Ru_takes_136 rfl ?_
        refine EV.iload_n d_Ru_takes_137 rfl ?_
        refine EV.V1 cv_Ru_51 d_Ru_takes_138 (by first | assumption | rfl) (sp_Ru_goOn hR hQ h0 (by omega) (w5 h0) (fun e he => (w4 e he).1) hc) ⟨Nat.le_refl _, Nat.le_refl _⟩ rfl rfl (Nat.le_of_ble_eq_true rfl) (fun rv D1 hp => ?_)
        obtain ⟨o1, o2⟩ := hp
        cases hg : ru_go q c with
        | none =>
          rw [hg] at o2
          obtain rfl := o2
          exact EV.ireturn d_Ru_takes_141 ⟨_, rfl, rfl⟩ ⟨o1, oR_n (by unfold ru_st; rw [if_neg h1, if_neg h2, if_neg h111, if_neg h125]; exact hg) rfl⟩
        | some q' =>
          rw [hg] at o2
          obtain ⟨rfl, o3⟩ := o2
          exact EV.ireturn d_Ru_takes_141 ⟨_, rfl, rfl⟩ ⟨o1, oR_s (q := q') (by unfold ru_st; rw [if_neg h1, if_neg h2, if_neg h111, if_neg h125]; exact hg) ⟨rfl, o3⟩⟩
      · refine EV.aload_n d_Ru_takes_128 rfl ?_
        refine EV.iconst (v := nI 4) d_Ru_takes_129 (by decide) ?_
        refine EV.V1 cv_Ru_41 d_Ru_takes_130 (by first | assumption | rfl) (sp_Ru_sign (x := 4) hR) ⟨Nat.le_refl _, Nat.le_refl _⟩ rfl rfl (Nat.le_of_ble_eq_true rfl) (fun rv D1 hp => ?_)
        obtain ⟨rfl, o1, o2, o3, o4⟩ := hp
        refine EV.goto (tgt := 141) d_Ru_takes_133 (by decide) ?_
        exact EV.ireturn d_Ru_takes_141 ⟨_, rfl, rfl⟩ ⟨fun k k1 _ _ => o1 k k1, oR_s (q := (1, 4, q.2.2)) (by unfold ru_st; rw [if_neg h1, if_neg h2, if_neg h111, if_pos h125]) ⟨rfl, by rw [o2]; exact hQ.1, o3, o4, by rw [o1 (r + 1) (by omega), o1 (r + 2) (by omega)]; exact hQ.2.2.2⟩⟩
    · refine EV.aload_n d_Ru_takes_114 rfl ?_
      refine EV.iconst (v := nI 1) d_Ru_takes_115 (by decide) ?_
      refine EV.V1 cv_Ru_41 d_Ru_takes_116 (by first | assumption | rfl) (sp_Ru_sign (x := 1) hR) ⟨Nat.le_refl _, Nat.le_refl _⟩ rfl rfl (Nat.le_of_ble_eq_true rfl) (fun rv D1 hp => ?_)
      obtain ⟨rfl, o1, o2, o3, o4⟩ := hp
      refine EV.goto (tgt := 141) d_Ru_takes_119 (by decide) ?_
      exact EV.ireturn d_Ru_takes_141 ⟨_, rfl, rfl⟩ ⟨fun k k1 _ _ => o1 k k1, oR_s (q := (1, 1, q.2.2)) (by unfold ru_st; rw [if_neg h1, if_neg h2, if_pos h111]) ⟨rfl, by rw [o2]; exact hQ.1, o3, o4, by rw [o1 (r + 1) (by omega), o1 (r + 2) (by omega)]; exact hQ.2.2.2⟩⟩
set_option maxHeartbeats 4000000 in
set_option maxRecDepth 100000 in
theorem lp_Ru_read {G : mx_G} {d : Nat} {S : List mx_Sh} {D0 : mx_Mem} {r o : Nat} {xs : List Nat} {X : Nat ⊕ ps_T} (hR : ShR S r) (hO : ShL S o 24) (hro : r + 2 < o ∨ o + 1 < r) (hL : LN D0 o xs) (hle : xs.length ≤ 24) (hch : ∀ c ∈ xs, 0 < c ∧ c < 128) : ∀ (m i : Nat) (D : mx_Mem) (q : ru_Q), i ≤ xs.length → xs.length - i = m → (∀ k, ¬ k = r → ¬ k = r + 1 → ¬ k = r + 2 → D k = D0 k) → RuS D r q → ru_wf q i → ru_ans xs.length (ru_rd q i (xs.drop i)) = X → EV G (d + 3) m_Ru_read 17 [some (.ref r), some (.ref o), some (.int (nI i))] [] S D S (RdP D0 r X) := by
  obtain ⟨hr0, hr1, hr2⟩ := id hR
  obtain ⟨ho0, ho1⟩ := id hO
  intro m
  induction m with
  | zero =>
    intro i D q h1 h2 hof hQ hw hX
    obtain ⟨w1, w2, w3, w4, w5, w6, w7, w8⟩ := id hw
    have hl : D o 1 = nI xs.length := by rw [hof o (by omega) (by omega) (by omega)]; exact hL.1
    rw [List.drop_of_length_le (by omega)] at hX
    refine EV.iload_n d_Ru_read_17 rfl ?_
    refine EV.aload_n d_Ru_read_18 rfl ?_
    refine EV.getI fl_Ru_28 d_Ru_read_19 (by first | assumption | rfl) rfl ?_
    refine EV.icmp_geN (tgt := 48) d_Ru_read_22 (by decide) rfl hl (by omega) (by omega) (fun h22 => ?_) (fun h22 => ?_)
    · refine EV.aload_n d_Ru_read_48 rfl ?_
      refine EV.getI fl_Ru_22 d_Ru_read_49 (by first | assumption | rfl) rfl ?_
      refine EV.iconst (v := nI 2) d_Ru_read_52 (by decide) ?_
      refine EV.icmp_neN (tgt := 71) d_Ru_read_53 (by decide) hQ.2.1 rfl (by omega) (by omega) (fun h53 => ?_) (fun h53 => ?_)
      · refine EV.iconst (v := (-1)) d_Ru_read_71 (by decide) ?_
        refine EV.aload_n d_Ru_read_72 rfl ?_
        refine EV.getI fl_Ru_28 d_Ru_read_73 (by first | assumption | rfl) rfl ?_
        refine EV.top hl ?_
        refine EV.isub d_Ru_read_76 ?_
        exact EV.ireturn d_Ru_read_77 ⟨_, rfl, rfl⟩ (RdP_f (by rw [← hX]; simp only [ru_rd, ru_ans]; rw [if_neg (by omega)]) hof)
      · refine EV.aload_n d_Ru_read_56 rfl ?_
        refine EV.getI fl_Ru_18 d_Ru_read_57 (by first | assumption | rfl) rfl ?_
        refine EV.iconst (v := nI 1) d_Ru_read_60 (by decide) ?_
        refine EV.icmp_leN (tgt := 71) d_Ru_read_61 (by decide) hQ.1 rfl (by omega) (by omega) (fun h61 => ?_) (fun h61 => ?_)
        · refine EV.iconst (v := (-1)) d_Ru_read_71 (by decide) ?_
          refine EV.aload_n d_Ru_read_72 rfl ?_
          refine EV.getI fl_Ru_28 d_Ru_read_73 (by first | assumption | rfl) rfl ?_
          refine EV.top hl ?_
          refine EV.isub d_Ru_read_76 ?_
          exact EV.ireturn d_Ru_read_77 ⟨_, rfl, rfl⟩ (RdP_f (by rw [← hX]; simp only [ru_rd, ru_ans]; rw [if_neg (by omega)]) hof)
        · refine EV.aload_n d_Ru_read_64 rfl ?_
          refine EV.getI fl_Ru_18 d_Ru_read_65 (by first | assumption | rfl) rfl ?_
          refine EV.top hQ.1 ?_
          refine EV.goto (tgt := 77) d_Ru_read_68 (by decide) ?_
          exact EV.ireturn d_Ru_read_77 ⟨_, rfl, rfl⟩ (RdP_t (by rw [← hX]; simp only [ru_rd, ru_ans]; rw [if_pos ⟨h53, h61⟩]) hof ⟨hQ.1, hQ.2.2.2, by omega, by omega, fun e he => (w4 e he).1, fun i e hi he => ⟨w8 i e hi he, (w4 e (List.mem_of_getElem? he)).2⟩⟩)
    · exfalso
      omega
  | succ m ih =>
    intro i D q h1 h2 hof hQ hw hX
    have hl : D o 1 = nI xs.length := by rw [hof o (by omega) (by omega) (by omega)]; exact hL.1
    obtain ⟨c, hc⟩ : ∃ c, xs[i]? = some c := ⟨xs[i]'(by omega), List.getElem?_eq_getElem (by omega)⟩
    have hcv : D (o + 1) i = nI c := by rw [hof (o + 1) (by omega) (by omega) (by omega)]; exact hL.2 i c hc
    have hdr : xs.drop i = c :: xs.drop (i + 1) := by rw [List.drop_eq_getElem_cons (by omega), (List.getElem?_eq_some_iff.mp hc).2]
    refine EV.iload_n d_Ru_read_17 rfl ?_
    refine EV.aload_n d_Ru_read_18 rfl ?_
    refine EV.getI fl_Ru_28 d_Ru_read_19 (by first | assumption | rfl) rfl ?_
    refine EV.icmp_geN (tgt := 48) d_Ru_read_22 (by decide) rfl hl (by omega) (by omega) (fun h22 => ?_) (fun h22 => ?_)
    · exfalso
      omega
    · refine EV.aload_n d_Ru_read_25 rfl ?_
      refine EV.aload_n d_Ru_read_26 rfl ?_
      refine EV.getR fl_Ru_33 d_Ru_read_27 (by first | assumption | rfl) rfl ?_
      refine EV.iload_n d_Ru_read_30 rfl ?_
      refine EV.caldN d_Ru_read_31 (by first | assumption | rfl) rfl rfl (by omega) (by first | decide | omega) ?_
      refine EV.top hcv ?_
      refine EV.V1 cv_Ru_37 d_Ru_read_32 (by first | assumption | rfl) (sp_Ru_takes hR hQ hw (by omega) (hch c (List.mem_of_getElem? hc))) ⟨Nat.le_refl _, Nat.le_refl _⟩ rfl rfl (Nat.le_of_ble_eq_true rfl) (fun rv D1 hp => ?_)
      obtain ⟨o1, o2⟩ := hp
      cases hg : ru_st q c with
      | none =>
        rw [hg] at o2
        obtain rfl := o2
        refine EV.if_neN (tgt := 42) d_Ru_read_35 (by decide) rfl (by decide) (fun h => absurd rfl h) (fun _ => ?_)
        refine EV.iconst (v := (-1)) d_Ru_read_38 (by decide) ?_
        refine EV.iload_n d_Ru_read_39 rfl ?_
        refine EV.isub d_Ru_read_40 ?_
        exact EV.ireturn d_Ru_read_41 ⟨_, rfl, rfl⟩ ⟨fun k k1 k2 k3 => (o1 k k1 k2 k3).trans (hof k k1 k2 k3), by rw [← hX, hdr]; simp only [ru_rd, hg, ru_ans]⟩
      | some q' =>
        rw [hg] at o2
        obtain ⟨rfl, o3⟩ := o2
        refine EV.if_neN (tgt := 42) d_Ru_read_35 (by decide) rfl (by decide) (fun _ => ?_) (fun h => absurd h (by decide))
        refine EV.iincN d_Ru_read_42 rfl (by decide) ?_
        refine EV.goto (tgt := 17) d_Ru_read_45 (by decide) ?_
        refine ih (i + 1) D1 q' (by omega) (by omega) (fun k k1 k2 k3 => (o1 k k1 k2 k3).trans (hof k k1 k2 k3)) o3 (ru_st_wf hw hg) ?_
        rw [← hX, hdr]
        simp only [ru_rd, hg]
set_option maxHeartbeats 4000000 in
set_option maxRecDepth 100000 in
theorem sp_Ru_read {G : mx_G} {d : Nat} {S : List mx_Sh} {D0 : mx_Mem} {r o : Nat} {xs : List Nat} (hR : ShR S r) (hO : ShL S o 24) (hro : r + 2 < o ∨ o + 1 < r) (hL : LN D0 o xs) (hle : xs.length ≤ 24) (hch : ∀ c ∈ xs, 0 < c ∧ c < 128) : EV G (d + 3) m_Ru_read 0 (mx_lc0 m_Ru_read [.ref r, .ref o]) [] S D0 S (RdP D0 r (ru_ans xs.length (ru_rd (0, 0, []) 0 xs))) := by
  obtain ⟨hr0, hr1, hr2⟩ := id hR
  obtain ⟨ho0, ho1⟩ := id hO
  show EV _ _ _ _ [some (.ref r), some (.ref o), none] [] _ _ _ _
  refine EV.aload_n d_Ru_read_0 rfl ?_
  refine EV.iconst (v := nI 0) d_Ru_read_1 (by decide) ?_
  refine EV.putI fl_Ru_18 d_Ru_read_2 (by first | assumption | rfl) rfl rfl rfl ?_
  refine EV.aload_n d_Ru_read_5 rfl ?_
  refine EV.iconst (v := nI 0) d_Ru_read_6 (by decide) ?_
  refine EV.putI fl_Ru_22 d_Ru_read_7 (by first | assumption | rfl) rfl rfl rfl ?_
  refine EV.aload_n d_Ru_read_10 rfl ?_
  refine EV.iconst (v := nI 0) d_Ru_read_11 (by decide) ?_
  refine EV.putI fl_Ru_25 d_Ru_read_12 (by first | assumption | rfl) rfl rfl rfl ?_
  refine EV.iconst (v := nI 0) d_Ru_read_15 (by decide) ?_
  refine EV.istore_n d_Ru_read_16 (by decide) ?_
  refine EV.post (fun rv D' h => ⟨fun k k1 k2 k3 => (h.1 k k1 k2 k3).trans (by simp [mx_w, va_up, k1]), h.2⟩) (lp_Ru_read hR hO hro ⟨?_, ?_⟩ hle hch xs.length 0 _ (0, 0, []) (by omega) rfl (fun _ _ _ _ => rfl) ⟨?_, ?_, ?_, ?_⟩ ⟨by decide, by decide, by decide, fun e he => (by cases he), fun h => absurd h (by decide), fun _ => rfl, fun h => absurd h (by decide), fun i e _ he => (by cases he)⟩ rfl)
  · simp [mx_w, va_up, show ¬ o = r by omega]; exact hL.1
  · simp [mx_w, va_up, show ¬ o + 1 = r by omega]; exact hL.2
  · simp [mx_w, va_up, upd]
  · simp [mx_w, va_up, upd]
  · simp [mx_w, va_up, upd]
  · intro i e he; cases he
end
section
/-! texts and their elements, keys: no machine here -/
def ps_put (p c : Nat) (l : List Nat) : List Nat := l.take p ++ c :: l.drop p
theorem ps_put_at {p c j : Nat} {l : List Nat} (hp : p ≤ l.length) : (ps_put p c l)[j]? = if j < p then l[j]? else if j = p then some c else l[j - 1]? := by
  unfold ps_put
  have hl : (l.take p).length = p := by rw [List.length_take]; omega
  by_cases h1 : j < p
  · rw [if_pos h1, List.getElem?_append_left (by omega), List.getElem?_take, if_pos h1]
  · rw [if_neg h1, List.getElem?_append_right (by omega), hl]
    by_cases h2 : j = p
    · subst h2; simp
    · rw [if_neg h2, show j - p = (j - 1 - p) + 1 by omega, List.getElem?_cons_succ, List.getElem?_drop]
      congr 1
      omega
theorem ps_put_len {p c : Nat} {l : List Nat} (hp : p ≤ l.length) : (ps_put p c l).length = l.length + 1 := by
  unfold ps_put
  rw [List.length_append, List.length_cons, List.length_take, List.length_drop]
  omega
theorem ar_put {f : Nat → Int32} {l : List Nat} {p c : Nat} (h : ar f l) (hp : p ≤ l.length) : ar (fx_ins f p (nI c) l.length) (ps_put p c l) := by
  intro j x hj
  have hl : j < l.length + 1 := by rw [← ps_put_len (c := c) hp]; exact (List.getElem?_eq_some_iff.mp hj).1
  rw [ps_put_at hp] at hj
  unfold fx_ins upd fx_sh
  by_cases h1 : j < p
  · rw [if_pos h1] at hj
    rw [if_neg (by omega), if_neg (by omega)]
    exact h j x hj
  · rw [if_neg h1] at hj
    by_cases h2 : j = p
    · rw [if_pos h2] at hj
      cases hj
      rw [if_pos h2]
    · rw [if_neg h2] at hj
      rw [if_neg h2, if_pos (by omega)]
      exact h _ x hj
theorem ps_ins_put {c : Nat} : ∀ (r : List Nat) (q : Nat), q ≤ r.length → (∀ j x, j < q → r[j]? = some x → ps_must c x = true) → (∀ x, r[q]? = some x → ps_must c x = false) → ps_ins c r = ps_put q c r := by
  intro r
  induction r with
  | nil => intro q h _ _; simp at h; subst h; rfl
  | cons b t ih =>
    intro q h1 h2 h3
    cases q with
    | zero =>
      have := h3 b rfl
      simp [ps_ins, this, ps_put]
    | succ q =>
      have h4 := h2 0 b (by omega) rfl
      have := ih q (by simpa using h1) (fun j x hj hx => h2 (j + 1) x (by omega) (by simpa using hx)) (fun x hx => h3 x (by simpa using hx))
      simp [ps_ins, h4, this, ps_put]
theorem ps_arr_snoc (xs : List Nat) (c : Nat) : ps_arr (xs ++ [c]) = (ps_ins c (ps_arr xs).reverse).reverse := by
  unfold ps_arr ps_fold
  rw [List.foldl_append]
  simp
theorem ps_arr_put {xs : List Nat} {c p : Nat} (hp : p ≤ (ps_arr xs).length) (h2 : ∀ j x, p ≤ j → (ps_arr xs)[j]? = some x → ps_must c x = true) (h3 : p = 0 ∨ ∃ x, (ps_arr xs)[p - 1]? = some x ∧ ps_must c x = false) : ps_arr (xs ++ [c]) = ps_put p c (ps_arr xs) := by
  rw [ps_arr_snoc]
  generalize hl : ps_arr xs = l at hp h2 h3
  have e : ∀ j, j < l.length → l.reverse[j]? = l[l.length - 1 - j]? := fun j hj => by rw [List.getElem?_reverse hj]
  rw [ps_ins_put l.reverse (l.length - p) (by rw [List.length_reverse]; omega) (fun j x hj hx => by
      rw [e j (by omega)] at hx
      exact h2 _ x (by omega) hx) (fun x hx => by
      have hq : l.length - p < l.length := by
        have := (List.getElem?_eq_some_iff.mp hx).1
        rw [List.length_reverse] at this
        exact this
      rw [e _ hq] at hx
      rcases h3 with h3 | ⟨y, h3, h4⟩
      · omega
      · rw [show l.length - 1 - (l.length - p) = p - 1 by omega, h3] at hx
        cases hx
        exact h4)]
  unfold ps_put
  rw [List.reverse_append, List.reverse_cons, List.take_reverse, List.drop_reverse, List.reverse_reverse, List.reverse_reverse, show l.length - (l.length - p) = p by omega]
  simp
theorem ps_arr_len (xs : List Nat) : (ps_arr xs).length = xs.length := by
  have h : ∀ (l acc : List Nat), (ps_fold acc l).length = acc.length + l.length := by
    intro l
    induction l with
    | nil => intro acc; simp [ps_fold]
    | cons c r ih =>
      intro acc
      have hi : ∀ a : List Nat, (ps_ins c a).length = a.length + 1 := by
        intro a
        induction a with
        | nil => rfl
        | cons b t ih2 => simp only [ps_ins]; split <;> simp [ih2]
      show (ps_fold (ps_ins c acc) r).length = _
      rw [ih, hi, List.length_cons]
      omega
  unfold ps_arr
  rw [List.length_reverse, h]
  simp
theorem ps_ins_mem {c x : Nat} : ∀ (l : List Nat), x ∈ ps_ins c l ↔ x = c ∨ x ∈ l := by
  intro l
  induction l with
  | nil => simp [ps_ins]
  | cons b t ih =>
    simp only [ps_ins]
    split
    · rw [List.mem_cons, ih, List.mem_cons]
      constructor
      · rintro (h | h | h)
        · exact Or.inr (Or.inl h)
        · exact Or.inl h
        · exact Or.inr (Or.inr h)
      · rintro (h | h | h)
        · exact Or.inr (Or.inl h)
        · exact Or.inl h
        · exact Or.inr (Or.inr h)
    · rw [List.mem_cons, List.mem_cons]
theorem ps_arr_mem {x : Nat} (xs : List Nat) : x ∈ ps_arr xs ↔ x ∈ xs := by
  have h : ∀ (l acc : List Nat), x ∈ ps_fold acc l ↔ x ∈ acc ∨ x ∈ l := by
    intro l
    induction l with
    | nil => intro acc; simp [ps_fold]
    | cons c r ih =>
      intro acc
      show x ∈ ps_fold (ps_ins c acc) r ↔ _
      rw [ih, ps_ins_mem, List.mem_cons]
      constructor
      · rintro ((h | h) | h)
        · exact Or.inr (Or.inl h)
        · exact Or.inl h
        · exact Or.inr (Or.inr h)
      · rintro (h | h | h)
        · exact Or.inl (Or.inr h)
        · exact Or.inl (Or.inl h)
        · exact Or.inr h
  unfold ps_arr
  rw [List.mem_reverse, h]
  simp
/-- the first string: the longest of the table with which the text begins -/
def ps_first (tb : ps_T) (l : List Nat) : List Nat := if (ps_idx tb (l.take 3)).isSome then l.take 3 else if (ps_idx tb (l.take 2)).isSome then l.take 2 else l.take 1
def ps_blk (ps : List Nat) (m : Nat) : Bool := ps.any (fun x => ps_cls x == ps_cls m)
/-- the marks behind a string: those that lengthen it, those that are passed over -/
def ps_abs (tb : ps_T) (s ps : List Nat) : List Nat → List Nat × List Nat × List Nat
  | [] => (s, ps, [])
  | m :: r => if ps_mark m = true then (if ps_blk ps m = false ∧ s.length < 3 ∧ (ps_idx tb (s ++ [m])).isSome = true then ps_abs tb (s ++ [m]) ps r else ps_abs tb s (ps ++ [m]) r) else (s, ps, m :: r)
abbrev ps_E : Type := Nat × Nat × Nat × Nat
def ps_isv (s : List Nat) : Bool := decide (s = [32]) || decide (s = [45])
def ps_stp (tb : ps_T) (i : Nat) : Nat := (tb.map Prod.snd).getD i 0
/-- the weights of the entry with the string s -/
def ps_wof (tb : ps_T) (s : List Nat) : Nat × Nat × Nat := ps_wt (ps_stp tb) ((ps_idx tb s).getD 0 + 1)
def el_e (tb : ps_T) (sh : Bool) (s : List Nat) : ps_E := if (sh && ps_isv s) = true then (0, 0, 0, (ps_wof tb s).1) else ((ps_wof tb s).1, (ps_wof tb s).2.1, (ps_wof tb s).2.2, if sh then 1000 else 0)
def el_m (c : Nat) : ps_E := (0, 100 + c - 48, 1, 0)
def el_ms (sh v : Bool) (ps : List Nat) : List ps_E := if (sh && v) = true then [] else ps.map el_m
def ps_els (tb : ps_T) (sh : Bool) : Nat → Bool → List Nat → List ps_E
  | 0, _, _ => []
  | _ + 1, _, [] => []
  | n + 1, v, c :: r => if ps_mark c = true then el_ms sh v [c] ++ ps_els tb sh n v r else
      let s0 := ps_first tb (c :: r)
      let a := ps_abs tb s0 [] ((c :: r).drop s0.length)
      el_e tb sh a.1 :: (el_ms sh (ps_isv a.1) a.2.1 ++ ps_els tb sh n (ps_isv a.1) a.2.2)
def ps_lv (e : ps_E) (k : Nat) : Nat := match k with
  | 0 => e.1
  | 1 => e.2.1
  | 2 => e.2.2.1
  | _ => e.2.2.2
def ps_row (bw : Bool) (es : List ps_E) (k : Nat) : List Nat := ((if (bw && decide (k = 1)) = true then es.reverse else es).map (fun e => ps_lv e k)).filter (fun w => decide (w ≠ 0)) ++ [0]
def ps_key (bw : Bool) (es : List ps_E) : Nat → List Nat
  | 0 => []
  | n + 1 => ps_key bw es n ++ ps_row bw es n
end
section
def ShM (S : List mx_Sh) (m t : Nat) : Prop := S[m]? = some (.inl (2, [some (some t), some (some (m + 1)), some (some (m + 2)), some (some (m + 3)), none, none, none, none, none, none])) ∧ S[m + 1]? = some (.inr (.inl (1, 12))) ∧ S[m + 2]? = some (.inr (.inl (1, 12))) ∧ S[m + 3]? = some (.inr (.inr (4, [some (m + 4), some (m + 5), some (m + 6), some (m + 7)]))) ∧ S[m + 4]? = some (.inr (.inl (0, 12))) ∧ S[m + 5]? = some (.inr (.inl (0, 12))) ∧ S[m + 6]? = some (.inr (.inl (0, 12))) ∧ S[m + 7]? = some (.inr (.inl (0, 12)))
def WE (D : mx_Mem) (m : Nat) (es : List ps_E) : Prop := D m 5 = nI es.length ∧ ∀ (i : Nat) (e : ps_E), es[i]? = some e → D (m + 4) i = nI e.1 ∧ D (m + 5) i = nI e.2.1 ∧ D (m + 6) i = nI e.2.2.1 ∧ D (m + 7) i = nI e.2.2.2
def TBw (D : mx_Mem) (t : Nat) (tb : ps_T) : Prop := D t 5 = nI tb.length ∧ TBf 256 (D (t + 1)) (D (t + 2)) tb ∧ ∀ j, j < tb.length → D (t + 3) j = nI (ps_wt (ps_stp tb) (j + 1)).1 ∧ D (t + 4) j = nI (ps_wt (ps_stp tb) (j + 1)).2.1 ∧ D (t + 5) j = nI (ps_wt (ps_stp tb) (j + 1)).2.2
/-- which cells the making of elements may change -/
def FrE (m : Nat) (D D' : mx_Mem) : Prop := ∀ k, ¬ k = m → ¬ k = m + 4 → ¬ k = m + 5 → ¬ k = m + 6 → ¬ k = m + 7 → D' k = D k
theorem bI_ft (b : Bool) : fits .boolean (.int (bI b)) = true := by cases b <;> rfl
theorem WE_snoc {D D' : mx_Mem} {m : Nat} {es : List ps_E} {e : ps_E} (h : WE D m es) (h5 : D' m 5 = nI (es.length + 1)) (h1 : D' (m + 4) = upd (D (m + 4)) es.length (nI e.1)) (h2 : D' (m + 5) = upd (D (m + 5)) es.length (nI e.2.1)) (h3 : D' (m + 6) = upd (D (m + 6)) es.length (nI e.2.2.1)) (h4 : D' (m + 7) = upd (D (m + 7)) es.length (nI e.2.2.2)) : WE D' m (es ++ [e]) := by
  refine ⟨by rw [h5, List.length_append]; rfl, fun i x hx => ?_⟩
  rw [h1, h2, h3, h4]
  unfold upd
  by_cases q : i = es.length
  · subst q
    simp at hx
    subst hx
    simp
  · have hl : i < es.length := by
      have := (List.getElem?_eq_some_iff.mp hx).1
      rw [List.length_append, List.length_singleton] at this
      omega
    rw [List.getElem?_append_left hl] at hx
    simp only [q, if_false]
    exact h.2 i x hx
theorem ps_var_enc {b : Nat} (hb : b = 128 ∨ b = 256) {s : List Nat} (h : ps_so s) : ps_var (ps_enc b s) = ps_isv s := by
  obtain ⟨h1, h2, h3⟩ := h
  match s, h1, h2, h3 with
  | [a], _, _, h3 =>
    have e1 : ps_enc b [a] = a := by simp [ps_enc]
    rw [e1]
    unfold ps_var ps_isv
    simp
  | a :: c :: r, _, _, h3 =>
    have h4 := h3 a (by simp)
    have h5 := h3 c (by simp)
    have h6 : 128 ≤ ps_enc b (a :: c :: r) := by
      simp only [ps_enc]
      have : b * 1 ≤ b * (c + b * ps_enc b r) := Nat.mul_le_mul_left b (by omega)
      omega
    unfold ps_var ps_isv
    have e1 : ¬ ps_enc b (a :: c :: r) = 32 := by omega
    have e2 : ¬ ps_enc b (a :: c :: r) = 45 := by omega
    simp [e1, e2]
set_option maxHeartbeats 4000000 in
set_option maxRecDepth 100000 in
theorem sp_Km_shape {G : mx_G} {d : Nat} {S : List mx_Sh} {D : mx_Mem} {m t x : Nat} {b1 b2 : Bool} (hM : ShM S m t) : EV G d m_Km_shape 0 (mx_lc0 m_Km_shape [.ref m, .int (nI x), .int (bI b1), .int (bI b2)]) [] S D S (fun rv D' => rv = none ∧ (∀ k, ¬ k = m → D' k = D k) ∧ D' m = upd (upd (upd (D m) 7 (nI x)) 8 (bI b1)) 9 (bI b2)) := by
  obtain ⟨hm0, hm1, hm2, hm3, hm4, hm5, hm6, hm7⟩ := id hM
  show EV _ _ _ _ [some (.ref m), some (.int (nI x)), some (.int (bI b1)), some (.int (bI b2))] [] _ _ _ _
  refine EV.aload_n d_Km_shape_0 rfl ?_
  refine EV.iload_n d_Km_shape_1 rfl ?_
  refine EV.putI fl_Km_27 d_Km_shape_2 (by first | assumption | rfl) rfl rfl rfl ?_
  refine EV.aload_n d_Km_shape_5 rfl ?_
  refine EV.iload_n d_Km_shape_6 rfl ?_
  refine EV.putI fl_Km_31 d_Km_shape_7 (by first | assumption | rfl) rfl (bI_nr _) (bI_ft _) ?_
  refine EV.aload_n d_Km_shape_10 rfl ?_
  refine EV.iload_n d_Km_shape_11 rfl ?_
  refine EV.putI fl_Km_35 d_Km_shape_12 (by first | assumption | rfl) rfl (bI_nr _) (bI_ft _) ?_
  exact EV.return_ d_Km_shape_15 rfl ⟨rfl, fun k k1 => by simp [mx_w, va_up, k1], by simp [mx_w, va_up]⟩
set_option maxHeartbeats 4000000 in
set_option maxRecDepth 100000 in
theorem sp_Km_mustPass {G : mx_G} {d : Nat} {S : List mx_Sh} {D : mx_Mem} {c b : Nat} (hc : c < 2 ^ 31) (hb : b < 2 ^ 31) : EV G (d + 1) m_Km_mustPass 0 (mx_lc0 m_Km_mustPass [.int (nI c), .int (nI b)]) [] S D S (RI (bI (ps_must c b)) D) := by
  show EV _ _ _ _ [some (.int (nI c)), some (.int (nI b))] [] _ _ _ _
  refine EV.iload_n d_Km_mustPass_0 rfl ?_
  refine EV.T1 cs_Km_65 d_Km_mustPass_1 (sp_To_isMark hc) ⟨Nat.le_refl _, Nat.le_refl _⟩ rfl rfl (Nat.le_of_ble_eq_true rfl) (fun rv D1 hp => ?_)
  obtain ⟨rfl, hD⟩ := hp
  obtain rfl := hD.symm
  refine EV.if_eqB (tgt := 29) d_Km_mustPass_4 (by decide) (fun h4 => ?_) (fun h4 => ?_)
  · refine EV.iconst (v := nI 0) d_Km_mustPass_29 (by decide) ?_
    exact EV.ireturn d_Km_mustPass_30 ⟨_, rfl, rfl⟩ ⟨by rw [bI_f (by simp [ps_must, h4])], rfl⟩
  refine EV.iload_n d_Km_mustPass_7 rfl ?_
  refine EV.T1 cs_Km_65 d_Km_mustPass_8 (sp_To_isMark hb) ⟨Nat.le_refl _, Nat.le_refl _⟩ rfl rfl (Nat.le_of_ble_eq_true rfl) (fun rv D1 hp => ?_)
  obtain ⟨rfl, hD⟩ := hp
  obtain rfl := hD.symm
  refine EV.if_eqB (tgt := 29) d_Km_mustPass_11 (by decide) (fun h11 => ?_) (fun h11 => ?_)
  · refine EV.iconst (v := nI 0) d_Km_mustPass_29 (by decide) ?_
    exact EV.ireturn d_Km_mustPass_30 ⟨_, rfl, rfl⟩ ⟨by rw [bI_f (by simp [ps_must, h11])], rfl⟩
  refine EV.iload_n d_Km_mustPass_14 rfl ?_
  refine EV.T1 cs_Km_69 d_Km_mustPass_15 (sp_To_classOf hc) ⟨Nat.le_refl _, Nat.le_refl _⟩ rfl rfl (Nat.le_of_ble_eq_true rfl) (fun rv D1 hp => ?_)
  obtain ⟨rfl, hD⟩ := hp
  obtain rfl := hD.symm
  refine EV.iload_n d_Km_mustPass_18 rfl ?_
  refine EV.T1 cs_Km_69 d_Km_mustPass_19 (sp_To_classOf hb) ⟨Nat.le_refl _, Nat.le_refl _⟩ rfl rfl (Nat.le_of_ble_eq_true rfl) (fun rv D1 hp => ?_)
  obtain ⟨rfl, hD⟩ := hp
  obtain rfl := hD.symm
  refine EV.icmp_geN (tgt := 29) d_Km_mustPass_22 (by decide) rfl rfl (by have := ps_cls_or c; omega) (by have := ps_cls_or b; omega) (fun h22 => ?_) (fun h22 => ?_)
  · refine EV.iconst (v := nI 0) d_Km_mustPass_29 (by decide) ?_
    exact EV.ireturn d_Km_mustPass_30 ⟨_, rfl, rfl⟩ ⟨by first | rw [bI_t (by simp [ps_must, h4, h11]; omega)] | rw [bI_f (by simp [ps_must, h4, h11]; omega)], rfl⟩
  · refine EV.iconst (v := nI 1) d_Km_mustPass_25 (by decide) ?_
    refine EV.goto (tgt := 30) d_Km_mustPass_26 (by decide) ?_
    exact EV.ireturn d_Km_mustPass_30 ⟨_, rfl, rfl⟩ ⟨by first | rw [bI_t (by simp [ps_must, h4, h11]; omega)] | rw [bI_f (by simp [ps_must, h4, h11]; omega)], rfl⟩
set_option maxHeartbeats 4000000 in
set_option maxRecDepth 100000 in
theorem sp_Km_addElement {G : mx_G} {d : Nat} {S : List mx_Sh} {D : mx_Mem} {m t w1 w2 w3 w4 : Nat} {sh : Bool} {es : List ps_E} (hM : ShM S m t) (hE : WE D m es) (hl : es.length < 12) (hsh : D m 8 = bI sh) : EV G d m_Km_addElement 0 (mx_lc0 m_Km_addElement [.ref m, .int (nI w1), .int (nI w2), .int (nI w3), .int (nI w4)]) [] S D S (fun rv D' => rv = none ∧ FrE m D D' ∧ (∀ j, ¬ j = 5 → D' m j = D m j) ∧ WE D' m (es ++ [(w1, w2, w3, if sh then w4 else 0)])) := by
  obtain ⟨hm0, hm1, hm2, hm3, hm4, hm5, hm6, hm7⟩ := id hM
  show EV _ _ _ _ [some (.ref m), some (.int (nI w1)), some (.int (nI w2)), some (.int (nI w3)), some (.int (nI w4))] [] _ _ _ _
  refine EV.aload_n d_Km_addElement_0 rfl ?_
  refine EV.getI fl_Km_73 d_Km_addElement_1 (by first | assumption | rfl) rfl ?_
  refine EV.bipush (v := nI 12) d_Km_addElement_4 (by decide) ?_
  refine EV.icmp_ltN (tgt := 10) d_Km_addElement_6 (by decide) hE.1 rfl (by omega) (by omega) (fun h6 => ?_) (fun h6 => ?_)
  · refine EV.aload_n d_Km_addElement_10 rfl ?_
    refine EV.getR fl_Km_24 d_Km_addElement_11 (by first | assumption | rfl) rfl ?_
    refine EV.iconst (v := nI 0) d_Km_addElement_14 (by decide) ?_
    refine EV.aaldN d_Km_addElement_15 (by first | assumption | rfl) rfl rfl rfl (by decide) rfl ?_
    refine EV.aload_n d_Km_addElement_16 rfl ?_
    refine EV.getI fl_Km_73 d_Km_addElement_17 (by first | assumption | rfl) rfl ?_
    refine EV.iload_n d_Km_addElement_20 rfl ?_
    refine EV.iastN d_Km_addElement_21 (by first | assumption | rfl) rfl hE.1 (by omega) (by first | decide | omega) ?_
    refine EV.aload_n d_Km_addElement_22 rfl ?_
    refine EV.getR fl_Km_24 d_Km_addElement_23 (by first | assumption | rfl) rfl ?_
    refine EV.iconst (v := nI 1) d_Km_addElement_26 (by decide) ?_
    refine EV.aaldN d_Km_addElement_27 (by first | assumption | rfl) rfl rfl rfl (by decide) rfl ?_
    refine EV.aload_n d_Km_addElement_28 rfl ?_
    refine EV.getI fl_Km_73 d_Km_addElement_29 (by first | assumption | rfl) rfl ?_
    refine EV.iload_n d_Km_addElement_32 rfl ?_
    refine EV.iastN d_Km_addElement_33 (by first | assumption | rfl) rfl (by simp [mx_w, va_up]; exact hE.1) (by omega) (by first | decide | omega) ?_
    refine EV.aload_n d_Km_addElement_34 rfl ?_
    refine EV.getR fl_Km_24 d_Km_addElement_35 (by first | assumption | rfl) rfl ?_
    refine EV.iconst (v := nI 2) d_Km_addElement_38 (by decide) ?_
    refine EV.aaldN d_Km_addElement_39 (by first | assumption | rfl) rfl rfl rfl (by decide) rfl ?_
    refine EV.aload_n d_Km_addElement_40 rfl ?_
    refine EV.getI fl_Km_73 d_Km_addElement_41 (by first | assumption | rfl) rfl ?_
    refine EV.iload_n d_Km_addElement_44 rfl ?_
    refine EV.iastN d_Km_addElement_45 (by first | assumption | rfl) rfl (by simp [mx_w, va_up]; exact hE.1) (by omega) (by first | decide | omega) ?_
    refine EV.aload_n d_Km_addElement_46 rfl ?_
    refine EV.getR fl_Km_24 d_Km_addElement_47 (by first | assumption | rfl) rfl ?_
    refine EV.iconst (v := nI 3) d_Km_addElement_50 (by decide) ?_
    refine EV.aaldN d_Km_addElement_51 (by first | assumption | rfl) rfl rfl rfl (by decide) rfl ?_
    refine EV.aload_n d_Km_addElement_52 rfl ?_
    refine EV.getI fl_Km_73 d_Km_addElement_53 (by first | assumption | rfl) rfl ?_
    refine EV.aload_n d_Km_addElement_56 rfl ?_
    refine EV.getI fl_Km_31 d_Km_addElement_57 (by first | assumption | rfl) rfl ?_
    refine EV.top (y := bI sh) (by simp [mx_w, va_up]; exact hsh) ?_
    refine EV.if_eqB (tgt := 68) d_Km_addElement_60 (by decide) (fun h60 => ?_) (fun h60 => ?_)
    · refine EV.iconst (v := nI 0) d_Km_addElement_68 (by decide) ?_
      have eb : (if sh = true then w4 else 0) = 0 := by rw [h60]; rfl
      rw [eb]
      refine EV.iastN d_Km_addElement_69 (by first | assumption | rfl) rfl (by simp [mx_w, va_up]; exact hE.1) (by omega) (by first | decide | omega) ?_
      refine EV.aload_n d_Km_addElement_70 rfl ?_
      refine EV.dup d_Km_addElement_71 rfl ?_
      refine EV.getI fl_Km_73 d_Km_addElement_72 (by first | assumption | rfl) rfl ?_
      refine EV.iconst (v := nI 1) d_Km_addElement_75 (by decide) ?_
      refine EV.iadd d_Km_addElement_76 ?_
      refine EV.top (y := nI (es.length + 1)) (by simp [mx_w, va_up]; rw [hE.1]; exact nI_1 _) ?_
      refine EV.putI fl_Km_73 d_Km_addElement_77 (by first | assumption | rfl) rfl rfl rfl ?_
      exact EV.return_ d_Km_addElement_80 rfl ⟨rfl, fun k k0 k4 k5 k6 k7 => by simp [mx_w, va_up, k0, k4, k5, k6, k7], fun j hj => by simp [mx_w, va_up, upd, hj], WE_snoc hE (by simp [mx_w, va_up, upd]) (by simp [mx_w, va_up]) (by simp [mx_w, va_up]) (by simp [mx_w, va_up]) (by simp [mx_w, va_up])⟩
    · refine EV.iload d_Km_addElement_63 rfl ?_
      refine EV.goto (tgt := 69) d_Km_addElement_65 (by decide) ?_
      have eb : (if sh = true then w4 else 0) = w4 := by rw [h60]; rfl
      rw [eb]
      refine EV.iastN d_Km_addElement_69 (by first | assumption | rfl) rfl (by simp [mx_w, va_up]; exact hE.1) (by omega) (by first | decide | omega) ?_
      refine EV.aload_n d_Km_addElement_70 rfl ?_
      refine EV.dup d_Km_addElement_71 rfl ?_
      refine EV.getI fl_Km_73 d_Km_addElement_72 (by first | assumption | rfl) rfl ?_
      refine EV.iconst (v := nI 1) d_Km_addElement_75 (by decide) ?_
      refine EV.iadd d_Km_addElement_76 ?_
      refine EV.top (y := nI (es.length + 1)) (by simp [mx_w, va_up]; rw [hE.1]; exact nI_1 _) ?_
      refine EV.putI fl_Km_73 d_Km_addElement_77 (by first | assumption | rfl) rfl rfl rfl ?_
      exact EV.return_ d_Km_addElement_80 rfl ⟨rfl, fun k k0 k4 k5 k6 k7 => by simp [mx_w, va_up, k0, k4, k5, k6, k7], fun j hj => by simp [mx_w, va_up, upd, hj], WE_snoc hE (by simp [mx_w, va_up, upd]) (by simp [mx_w, va_up]) (by simp [mx_w, va_up]) (by simp [mx_w, va_up]) (by simp [mx_w, va_up])⟩
  · exfalso
    omega
set_option maxHeartbeats 4000000 in
set_option maxRecDepth 100000 in
theorem sp_Km_addMark {G : mx_G} {d : Nat} {S : List mx_Sh} {D : mx_Mem} {m t c : Nat} {sh v : Bool} {es : List ps_E} (hM : ShM S m t) (hE : WE D m es) (hl : es.length < 12) (hsh : D m 8 = bI sh) (hv : D m 6 = bI v) (hc : 48 ≤ c ∧ c < 128) : EV G (d + 1) m_Km_addMark 0 (mx_lc0 m_Km_addMark [.ref m, .int (nI c)]) [] S D S (fun rv D' => rv = none ∧ FrE m D D' ∧ (∀ j, ¬ j = 5 → D' m j = D m j) ∧ WE D' m (es ++ el_ms sh v [c])) := by
  obtain ⟨hm0, hm1, hm2, hm3, hm4, hm5, hm6, hm7⟩ := id hM
  show EV _ _ _ _ [some (.ref m), some (.int (nI c))] [] _ _ _ _
  refine EV.aload_n d_Km_addMark_0 rfl ?_
  refine EV.getI fl_Km_31 d_Km_addMark_1 (by first | assumption | rfl) rfl ?_
  refine EV.top hsh ?_
  refine EV.if_eqB (tgt := 14) d_Km_addMark_4 (by decide) (fun h4 => ?_) (fun h4 => ?_)
  · refine EV.aload_n d_Km_addMark_14 rfl ?_
    refine EV.iconst (v := nI 0) d_Km_addMark_15 (by decide) ?_
    refine EV.bipush (v := nI 100) d_Km_addMark_16 (by decide) ?_
    refine EV.iload_n d_Km_addMark_18 rfl ?_
    refine EV.iadd d_Km_addMark_19 ?_
    refine EV.bipush (v := nI 48) d_Km_addMark_20 (by decide) ?_
    refine EV.isub d_Km_addMark_22 ?_
    refine EV.top (y := nI (100 + c - 48)) (by rw [nI_add]; exact pk_sub (by omega)) ?_
    refine EV.iconst (v := nI 1) d_Km_addMark_23 (by decide) ?_
    refine EV.iconst (v := nI 0) d_Km_addMark_24 (by decide) ?_
    refine EV.V4 cv_Km_126 d_Km_addMark_25 (by first | assumption | rfl) (sp_Km_addElement (w1 := 0) (w2 := 100 + c - 48) (w3 := 1) (w4 := 0) hM hE hl hsh) ⟨Nat.le_refl _, Nat.le_refl _⟩ rfl rfl (Nat.le_of_ble_eq_true rfl) (fun rv D1 hp => ?_)
    obtain ⟨rfl, q1, q2, q3⟩ := hp
    exact EV.return_ d_Km_addMark_28 rfl ⟨rfl, q1, q2, by rw [show el_ms sh v [c] = [(0, 100 + c - 48, 1, if sh then 0 else 0)] from by simp [el_ms, el_m, h4]]; exact q3⟩
  refine EV.aload_n d_Km_addMark_7 rfl ?_
  refine EV.getI fl_Km_76 d_Km_addMark_8 (by first | assumption | rfl) rfl ?_
  refine EV.top hv ?_
  refine EV.if_neB (tgt := 28) d_Km_addMark_11 (by decide) (fun h11 => ?_) (fun h11 => ?_)
  · exact EV.return_ d_Km_addMark_28 rfl ⟨rfl, fun _ _ _ _ _ _ => rfl, fun _ _ => rfl, by rw [show el_ms sh v [c] = [] from by simp [el_ms, h4, h11], List.append_nil]; exact hE⟩
  · refine EV.aload_n d_Km_addMark_14 rfl ?_
    refine EV.iconst (v := nI 0) d_Km_addMark_15 (by decide) ?_
    refine EV.bipush (v := nI 100) d_Km_addMark_16 (by decide) ?_
    refine EV.iload_n d_Km_addMark_18 rfl ?_
    refine EV.iadd d_Km_addMark_19 ?_
    refine EV.bipush (v := nI 48) d_Km_addMark_20 (by decide) ?_
    refine EV.isub d_Km_addMark_22 ?_
    refine EV.top (y := nI (100 + c - 48)) (by rw [nI_add]; exact pk_sub (by omega)) ?_
    refine EV.iconst (v := nI 1) d_Km_addMark_23 (by decide) ?_
    refine EV.iconst (v := nI 0) d_Km_addMark_24 (by decide) ?_
    refine EV.V4 cv_Km_126 d_Km_addMark_25 (by first | assumption | rfl) (sp_Km_addElement (w1 := 0) (w2 := 100 + c - 48) (w3 := 1) (w4 := 0) hM hE hl hsh) ⟨Nat.le_refl _, Nat.le_refl _⟩ rfl rfl (Nat.le_of_ble_eq_true rfl) (fun rv D1 hp => ?_)
    obtain ⟨rfl, q1, q2, q3⟩ := hp
    exact EV.return_ d_Km_addMark_28 rfl ⟨rfl, q1, q2, by rw [show el_ms sh v [c] = [(0, 100 + c - 48, 1, if sh then 0 else 0)] from by simp [el_ms, el_m, h11]]; exact q3⟩
set_option maxHeartbeats 4000000 in
set_option maxRecDepth 100000 in
theorem sp_Km_addEntry {G : mx_G} {d : Nat} {S : List mx_Sh} {D : mx_Mem} {m t i : Nat} {sh : Bool} {es : List ps_E} {tb : ps_T} {s : List Nat} (hM : ShM S m t) (hT : ShT S t) (hmt : t + 5 < m ∨ m + 7 < t) (hB : TBw D t tb) (hE : WE D m es) (hl : es.length < 12) (hsh : D m 8 = bI sh) (hi : ps_idx tb s = some i) (hso : ps_so s) (hlen : tb.length ≤ 30) : EV G (d + 1) m_Km_addEntry 0 (mx_lc0 m_Km_addEntry [.ref m, .int (nI i)]) [] S D S (fun rv D' => rv = none ∧ FrE m D D' ∧ (∀ j, ¬ j = 5 → ¬ j = 6 → D' m j = D m j) ∧ D' m 6 = bI (ps_isv s) ∧ WE D' m (es ++ [el_e tb sh s])) := by
  obtain ⟨hm0, hm1, hm2, hm3, hm4, hm5, hm6, hm7⟩ := id hM
  obtain ⟨hs0, hs1, hs2, hs3, hs4, hs5⟩ := id hT
  have hil := ps_idx_lt hi
  obtain ⟨⟨e, he, hes⟩, -⟩ := ps_idx_some.mp hi
  have hev : D (t + 1) i = nI (ps_enc 256 s) := by rw [← hes]; exact (hB.2.1 i e he).1
  have hb := ps_enc_b (Or.inr rfl) hso
  show EV _ _ _ _ [some (.ref m), some (.int (nI i))] [] _ _ _ _
  refine EV.aload_n d_Km_addEntry_0 rfl ?_
  refine EV.aload_n d_Km_addEntry_1 rfl ?_
  refine EV.getR fl_Km_9 d_Km_addEntry_2 (by first | assumption | rfl) rfl ?_
  refine EV.getR fl_Km_94 d_Km_addEntry_5 (by first | assumption | rfl) rfl ?_
  refine EV.iload_n d_Km_addEntry_8 rfl ?_
  refine EV.ialdN d_Km_addEntry_9 (by first | assumption | rfl) rfl rfl (by omega) (by first | decide | omega) ?_
  refine EV.top hev ?_
  refine EV.T1 cs_Km_120 d_Km_addEntry_10 (sp_To_isVariable (by omega)) ⟨Nat.le_refl _, Nat.le_refl _⟩ rfl rfl (Nat.le_of_ble_eq_true rfl) (fun rv D1 hp => ?_)
  obtain ⟨rfl, hD⟩ := hp
  obtain rfl := hD.symm
  rw [ps_var_enc (Or.inr rfl) hso]
  refine EV.putI fl_Km_76 d_Km_addEntry_13 (by first | assumption | rfl) rfl (bI_nr _) (bI_ft _) ?_
  refine EV.aload_n d_Km_addEntry_16 rfl ?_
  refine EV.getI fl_Km_31 d_Km_addEntry_17 (by first | assumption | rfl) rfl ?_
  refine EV.top (y := bI sh) (by simp [mx_w, va_up, upd]; exact hsh) ?_
  refine EV.if_eqB (tgt := 49) d_Km_addEntry_20 (by decide) (fun h20 => ?_) (fun h20 => ?_)
  · refine EV.aload_n d_Km_addEntry_49 rfl ?_
    refine EV.aload_n d_Km_addEntry_50 rfl ?_
    refine EV.getR fl_Km_9 d_Km_addEntry_51 (by first | assumption | rfl) rfl ?_
    refine EV.getR fl_Km_123 d_Km_addEntry_54 (by first | assumption | rfl) rfl ?_
    refine EV.iload_n d_Km_addEntry_57 rfl ?_
    refine EV.ialdN d_Km_addEntry_58 (by first | assumption | rfl) rfl rfl (by omega) (by first | decide | omega) ?_
    refine EV.top (y := nI (ps_wt (ps_stp tb) (i + 1)).1) (by simp [mx_w, va_up, show ¬ t + 3 = m by omega]; exact (hB.2.2 i hil).1) ?_
    refine EV.aload_n d_Km_addEntry_59 rfl ?_
    refine EV.getR fl_Km_9 d_Km_addEntry_60 (by first | assumption | rfl) rfl ?_
    refine EV.getR fl_Km_130 d_Km_addEntry_63 (by first | assumption | rfl) rfl ?_
    refine EV.iload_n d_Km_addEntry_66 rfl ?_
    refine EV.ialdN d_Km_addEntry_67 (by first | assumption | rfl) rfl rfl (by omega) (by first | decide | omega) ?_
    refine EV.top (y := nI (ps_wt (ps_stp tb) (i + 1)).2.1) (by simp [mx_w, va_up, show ¬ t + 4 = m by omega]; exact (hB.2.2 i hil).2.1) ?_
    refine EV.aload_n d_Km_addEntry_68 rfl ?_
    refine EV.getR fl_Km_9 d_Km_addEntry_69 (by first | assumption | rfl) rfl ?_
    refine EV.getR fl_Km_133 d_Km_addEntry_72 (by first | assumption | rfl) rfl ?_
    refine EV.iload_n d_Km_addEntry_75 rfl ?_
    refine EV.ialdN d_Km_addEntry_76 (by first | assumption | rfl) rfl rfl (by omega) (by first | decide | omega) ?_
    refine EV.top (y := nI (ps_wt (ps_stp tb) (i + 1)).2.2) (by simp [mx_w, va_up, show ¬ t + 5 = m by omega]; exact (hB.2.2 i hil).2.2) ?_
    refine EV.sipush (v := nI 1000) d_Km_addEntry_77 (by decide) ?_
    refine EV.V4 cv_Km_126 d_Km_addEntry_80 (by first | assumption | rfl) (sp_Km_addElement (sh := sh) (es := es) hM ⟨by simp [mx_w, va_up, upd]; exact hE.1, fun i e he => by simp [mx_w, va_up]; exact hE.2 i e he⟩ hl (by simp [mx_w, va_up, upd]; exact hsh)) ⟨Nat.le_refl _, Nat.le_refl _⟩ rfl rfl (Nat.le_of_ble_eq_true rfl) (fun rv D1 hp => ?_)
    obtain ⟨rfl, q1, q2, q3⟩ := hp
    exact EV.return_ d_Km_addEntry_83 rfl ⟨rfl, fun k k0 k4 k5 k6 k7 => (q1 k k0 k4 k5 k6 k7).trans (by simp [mx_w, va_up, k0]), fun j j5 j6 => (q2 j j5).trans (by simp [mx_w, va_up, upd, j6]), (q2 6 (by decide)).trans (by simp [mx_w, va_up, upd]), by
      have ee : el_e tb sh s = ((ps_wt (ps_stp tb) (i + 1)).1, (ps_wt (ps_stp tb) (i + 1)).2.1, (ps_wt (ps_stp tb) (i + 1)).2.2, if sh then 1000 else 0) := by
        unfold el_e ps_wof
        rw [hi, if_neg (by simp [*])]
        rfl
      rw [ee]
      exact q3⟩
  refine EV.aload_n d_Km_addEntry_23 rfl ?_
  refine EV.getI fl_Km_76 d_Km_addEntry_24 (by first | assumption | rfl) rfl ?_
  refine EV.top (y := bI (ps_isv s)) (by simp [mx_w, va_up, upd]) ?_
  refine EV.if_eqB (tgt := 49) d_Km_addEntry_27 (by decide) (fun h27 => ?_) (fun h27 => ?_)
  · refine EV.aload_n d_Km_addEntry_49 rfl ?_
    refine EV.aload_n d_Km_addEntry_50 rfl ?_
    refine EV.getR fl_Km_9 d_Km_addEntry_51 (by first | assumption | rfl) rfl ?_
    refine EV.getR fl_Km_123 d_Km_addEntry_54 (by first | assumption | rfl) rfl ?_
    refine EV.iload_n d_Km_addEntry_57 rfl ?_
    refine EV.ialdN d_Km_addEntry_58 (by first | assumption | rfl) rfl rfl (by omega) (by first | decide | omega) ?_
    refine EV.top (y := nI (ps_wt (ps_stp tb) (i + 1)).1) (by simp [mx_w, va_up, show ¬ t + 3 = m by omega]; exact (hB.2.2 i hil).1) ?_
    refine EV.aload_n d_Km_addEntry_59 rfl ?_
    refine EV.getR fl_Km_9 d_Km_addEntry_60 (by first | assumption | rfl) rfl ?_
    refine EV.getR fl_Km_130 d_Km_addEntry_63 (by first | assumption | rfl) rfl ?_
    refine EV.iload_n d_Km_addEntry_66 rfl ?_
    refine EV.ialdN d_Km_addEntry_67 (by first | assumption | rfl) rfl rfl (by omega) (by first | decide | omega) ?_
    refine EV.top (y := nI (ps_wt (ps_stp tb) (i + 1)).2.1) (by simp [mx_w, va_up, show ¬ t + 4 = m by omega]; exact (hB.2.2 i hil).2.1) ?_
    refine EV.aload_n d_Km_addEntry_68 rfl ?_
    refine EV.getR fl_Km_9 d_Km_addEntry_69 (by first | assumption | rfl) rfl ?_
    refine EV.getR fl_Km_133 d_Km_addEntry_72 (by first | assumption | rfl) rfl ?_
    refine EV.iload_n d_Km_addEntry_75 rfl ?_
    refine EV.ialdN d_Km_addEntry_76 (by first | assumption | rfl) rfl rfl (by omega) (by first | decide | omega) ?_
    refine EV.top (y := nI (ps_wt (ps_stp tb) (i + 1)).2.2) (by simp [mx_w, va_up, show ¬ t + 5 = m by omega]; exact (hB.2.2 i hil).2.2) ?_
    refine EV.sipush (v := nI 1000) d_Km_addEntry_77 (by decide) ?_
    refine EV.V4 cv_Km_126 d_Km_addEntry_80 (by first | assumption | rfl) (sp_Km_addElement (sh := sh) (es := es) hM ⟨by simp [mx_w, va_up, upd]; exact hE.1, fun i e he => by simp [mx_w, va_up]; exact hE.2 i e he⟩ hl (by simp [mx_w, va_up, upd]; exact hsh)) ⟨Nat.le_refl _, Nat.le_refl _⟩ rfl rfl (Nat.le_of_ble_eq_true rfl) (fun rv D1 hp => ?_)
    obtain ⟨rfl, q1, q2, q3⟩ := hp
    exact EV.return_ d_Km_addEntry_83 rfl ⟨rfl, fun k k0 k4 k5 k6 k7 => (q1 k k0 k4 k5 k6 k7).trans (by simp [mx_w, va_up, k0]), fun j j5 j6 => (q2 j j5).trans (by simp [mx_w, va_up, upd, j6]), (q2 6 (by decide)).trans (by simp [mx_w, va_up, upd]), by
      have ee : el_e tb sh s = ((ps_wt (ps_stp tb) (i + 1)).1, (ps_wt (ps_stp tb) (i + 1)).2.1, (ps_wt (ps_stp tb) (i + 1)).2.2, if sh then 1000 else 0) := by
        unfold el_e ps_wof
        rw [hi, if_neg (by simp [*])]
        rfl
      rw [ee]
      exact q3⟩
  · refine EV.aload_n d_Km_addEntry_30 rfl ?_
    refine EV.iconst (v := nI 0) d_Km_addEntry_31 (by decide) ?_
    refine EV.iconst (v := nI 0) d_Km_addEntry_32 (by decide) ?_
    refine EV.iconst (v := nI 0) d_Km_addEntry_33 (by decide) ?_
    refine EV.aload_n d_Km_addEntry_34 rfl ?_
    refine EV.getR fl_Km_9 d_Km_addEntry_35 (by first | assumption | rfl) rfl ?_
    refine EV.getR fl_Km_123 d_Km_addEntry_38 (by first | assumption | rfl) rfl ?_
    refine EV.iload_n d_Km_addEntry_41 rfl ?_
    refine EV.ialdN d_Km_addEntry_42 (by first | assumption | rfl) rfl rfl (by omega) (by first | decide | omega) ?_
    refine EV.top (y := nI (ps_wt (ps_stp tb) (i + 1)).1) (by simp [mx_w, va_up, show ¬ t + 3 = m by omega]; exact (hB.2.2 i hil).1) ?_
    refine EV.V4 cv_Km_126 d_Km_addEntry_43 (by first | assumption | rfl) (sp_Km_addElement (w1 := 0) (w2 := 0) (w3 := 0) (sh := sh) (es := es) hM ⟨by simp [mx_w, va_up, upd]; exact hE.1, fun i e he => by simp [mx_w, va_up]; exact hE.2 i e he⟩ hl (by simp [mx_w, va_up, upd]; exact hsh)) ⟨Nat.le_refl _, Nat.le_refl _⟩ rfl rfl (Nat.le_of_ble_eq_true rfl) (fun rv D1 hp => ?_)
    obtain ⟨rfl, q1, q2, q3⟩ := hp
    refine EV.goto (tgt := 83) d_Km_addEntry_46 (by decide) ?_
    exact EV.return_ d_Km_addEntry_83 rfl ⟨rfl, fun k k0 k4 k5 k6 k7 => (q1 k k0 k4 k5 k6 k7).trans (by simp [mx_w, va_up, k0]), fun j j5 j6 => (q2 j j5).trans (by simp [mx_w, va_up, upd, j6]), (q2 6 (by decide)).trans (by simp [mx_w, va_up, upd]), by
      have ee : el_e tb sh s = (0, 0, 0, if sh then (ps_wt (ps_stp tb) (i + 1)).1 else 0) := by
        unfold el_e ps_wof
        rw [hi, if_pos (by simp [*])]
        simp [h20]
      rw [ee]
      exact q3⟩
def ps_fl (tb : ps_T) (s : List Nat) (c : Nat) : Int32 := if s.length < 3 then (match ps_idx tb (s ++ [c]) with
    | some j => nI j
    | none => -1) else -1
set_option maxHeartbeats 4000000 in
set_option maxRecDepth 100000 in
theorem sp_Km_findLonger {G : mx_G} {d : Nat} {S : List mx_Sh} {D : mx_Mem} {m t i c : Nat} {tb : ps_T} {s : List Nat} (hM : ShM S m t) (hT : ShT S t) (hB : TBw D t tb) (hok : ps_ok tb) (hi : ps_idx tb s = some i) (hso : ps_so s) (hc : 0 < c ∧ c < 128) : EV G (d + 1) m_Km_findLonger 0 (mx_lc0 m_Km_findLonger [.ref m, .int (nI i), .int (nI c)]) [] S D S (RI (ps_fl tb s c) D) := by
  obtain ⟨hm0, hm1, hm2, hm3, hm4, hm5, hm6, hm7⟩ := id hM
  obtain ⟨hs0, hs1, hs2, hs3, hs4, hs5⟩ := id hT
  have hil := ps_idx_lt hi
  have hl30 := hok.2.1
  have hs1' := hso.1
  have hs2' := hso.2.1
  obtain ⟨⟨e, he, hes⟩, -⟩ := ps_idx_some.mp hi
  have hev : D (t + 1) i = nI (ps_enc 256 s) := by rw [← hes]; exact (hB.2.1 i e he).1
  have hb := ps_enc_b (Or.inr rfl) hso
  have hlt := ps_enc_lt (b := 256) (s := s) (fun x hx => by have := (hso.2.2 x hx).2; omega)
  show EV _ _ _ _ [some (.ref m), some (.int (nI i)), some (.int (nI c)), none, none] [] _ _ _ _
  refine EV.aload_n d_Km_findLonger_0 rfl ?_
  refine EV.getR fl_Km_9 d_Km_findLonger_1 (by first | assumption | rfl) rfl ?_
  refine EV.getR fl_Km_94 d_Km_findLonger_4 (by first | assumption | rfl) rfl ?_
  refine EV.iload_n d_Km_findLonger_7 rfl ?_
  refine EV.ialdN d_Km_findLonger_8 (by first | assumption | rfl) rfl rfl (by omega) (by first | decide | omega) ?_
  refine EV.top hev ?_
  refine EV.istore_n d_Km_findLonger_9 (by decide) ?_
  refine EV.iload_n d_Km_findLonger_10 rfl ?_
  refine EV.T1 cs_Km_98 d_Km_findLonger_11 (sp_To_lengthOf (by omega)) ⟨Nat.le_refl _, Nat.le_refl _⟩ rfl rfl (Nat.le_of_ble_eq_true rfl) (fun rv D1 hp => ?_)
  obtain ⟨rfl, hD⟩ := hp
  obtain rfl := hD.symm
  rw [ps_len_enc hso]
  refine EV.istore d_Km_findLonger_14 (by decide) ?_
  refine EV.iload d_Km_findLonger_16 rfl ?_
  refine EV.iconst (v := nI 3) d_Km_findLonger_18 (by decide) ?_
  refine EV.icmp_ltN (tgt := 26) d_Km_findLonger_19 (by decide) rfl rfl (by omega) (by omega) (fun h19 => ?_) (fun h19 => ?_)
  · refine EV.aload_n d_Km_findLonger_26 rfl ?_
    refine EV.getR fl_Km_9 d_Km_findLonger_27 (by first | assumption | rfl) rfl ?_
    refine EV.iload_n d_Km_findLonger_30 rfl ?_
    refine EV.iload d_Km_findLonger_31 rfl ?_
    refine EV.iload_n d_Km_findLonger_33 rfl ?_
    refine EV.T3 cs_Km_113 d_Km_findLonger_34 (sp_To_joined (by omega) hlt hc.2) ⟨Nat.le_refl _, Nat.le_refl _⟩ rfl rfl (Nat.le_of_ble_eq_true rfl) (fun rv D1 hp => ?_)
    obtain ⟨rfl, hD⟩ := hp
    obtain rfl := hD.symm
    rw [← ps_enc_snoc 256 s c]
    refine EV.V1 cv_Km_117 d_Km_findLonger_37 (by first | assumption | rfl) (sp_Ta_find hT hB.1 hok.2.1) ⟨Nat.le_refl _, Nat.le_refl _⟩ rfl rfl (Nat.le_of_ble_eq_true rfl) (fun rv D1 hp => ?_)
    obtain ⟨hD, r, rfl, hF⟩ := hp
    obtain rfl := hD.symm
    have hso2 : ps_so (s ++ [c]) := ⟨by simp, by simp; omega, fun x hx => by
      rcases List.mem_append.mp hx with h | h
      · exact hso.2.2 x h
      · simp at h; subst h; exact hc⟩
    have hr : r = ps_fl tb s c := by
      unfold ps_fl
      rw [if_pos (by omega)]
      rcases Fnd_idx (Or.inr rfl) (fun e he => (hok.1 e he).1) hB.2.1 hso2 hF with ⟨j, h1, -, h2⟩ | ⟨h1, h2⟩
      · rw [h1]; exact h2
      · rw [h1]; exact h2
    subst hr
    exact EV.ireturn d_Km_findLonger_40 ⟨_, rfl, rfl⟩ ⟨rfl, rfl⟩
  · refine EV.iconst (v := (-1)) d_Km_findLonger_22 (by decide) ?_
    refine EV.goto (tgt := 40) d_Km_findLonger_23 (by decide) ?_
    exact EV.ireturn d_Km_findLonger_40 ⟨_, rfl, rfl⟩ ⟨by unfold ps_fl; rw [if_neg (by omega)], rfl⟩
set_option maxHeartbeats 4000000 in
set_option maxRecDepth 100000 in
theorem lp_Km_isBlocked {G : mx_G} {d : Nat} {S : List mx_Sh} {D : mx_Mem} {m t c : Nat} {ps : List Nat} (hM : ShM S m t) (hP : ar (D (m + 2)) ps) (hl : ps.length ≤ 12) (hps : ∀ x ∈ ps, x < 2 ^ 31) (hc : c < 2 ^ 31) : ∀ n i : Nat, i ≤ ps.length → ps.length - i = n → (∀ j x, j < i → ps[j]? = some x → ¬ ps_cls x = ps_cls c) → EV G (d + 1) m_Km_isBlocked 2 [some (.ref m), some (.int (nI c)), some (.int (nI ps.length)), some (.int (nI i))] [] S D S (RI (bI (ps_blk ps c)) D) := by
  obtain ⟨hm0, hm1, hm2, hm3, hm4, hm5, hm6, hm7⟩ := id hM
  intro n
  induction n with
  | zero =>
    intro i h1 h2 h3
    refine EV.iload_n d_Km_isBlocked_2 rfl ?_
    refine EV.iload_n d_Km_isBlocked_3 rfl ?_
    refine EV.icmp_geN (tgt := 31) d_Km_isBlocked_4 (by decide) rfl rfl (by omega) (by omega) (fun h4 => ?_) (fun h4 => ?_)
    · refine EV.iconst (v := nI 0) d_Km_isBlocked_31 (by decide) ?_
      exact EV.ireturn d_Km_isBlocked_32 ⟨_, rfl, rfl⟩ ⟨by
        rw [bI_f]
        unfold ps_blk
        rw [List.any_eq_false]
        intro x hx
        obtain ⟨j, hj⟩ := List.getElem?_of_mem hx
        simpa using h3 j x (by have := (List.getElem?_eq_some_iff.mp hj).1; omega) hj, rfl⟩
    · exfalso
      omega
  | succ n ih =>
    intro i h1 h2 h3
    obtain ⟨x, hx⟩ : ∃ x, ps[i]? = some x := ⟨ps[i]'(by omega), List.getElem?_eq_getElem (by omega)⟩
    have hxv := hP i x hx
    have o1 := ps_cls_or x
    have o2 := ps_cls_or c
    refine EV.iload_n d_Km_isBlocked_2 rfl ?_
    refine EV.iload_n d_Km_isBlocked_3 rfl ?_
    refine EV.icmp_geN (tgt := 31) d_Km_isBlocked_4 (by decide) rfl rfl (by omega) (by omega) (fun h4 => ?_) (fun h4 => ?_)
    · exfalso
      omega
    · refine EV.aload_n d_Km_isBlocked_7 rfl ?_
      refine EV.getR fl_Km_19 d_Km_isBlocked_8 (by first | assumption | rfl) rfl ?_
      refine EV.iload_n d_Km_isBlocked_11 rfl ?_
      refine EV.caldN d_Km_isBlocked_12 (by first | assumption | rfl) rfl rfl (by omega) (by first | decide | omega) ?_
      refine EV.top hxv ?_
      refine EV.T1 cs_Km_69 d_Km_isBlocked_13 (sp_To_classOf (hps x (List.mem_of_getElem? hx))) ⟨Nat.le_refl _, Nat.le_refl _⟩ rfl rfl (Nat.le_of_ble_eq_true rfl) (fun rv D1 hp => ?_)
      obtain ⟨rfl, hD⟩ := hp
      obtain rfl := hD.symm
      refine EV.iload_n d_Km_isBlocked_16 rfl ?_
      refine EV.T1 cs_Km_69 d_Km_isBlocked_17 (sp_To_classOf hc) ⟨Nat.le_refl _, Nat.le_refl _⟩ rfl rfl (Nat.le_of_ble_eq_true rfl) (fun rv D1 hp => ?_)
      obtain ⟨rfl, hD⟩ := hp
      obtain rfl := hD.symm
      refine EV.icmp_neN (tgt := 25) d_Km_isBlocked_20 (by decide) rfl rfl (by omega) (by omega) (fun h20 => ?_) (fun h20 => ?_)
      · refine EV.iincN d_Km_isBlocked_25 rfl (by decide) ?_
        refine EV.goto (tgt := 2) d_Km_isBlocked_28 (by decide) ?_
        exact ih (i + 1) (by omega) (by omega) (fun j y hj hy => by
          rcases Nat.lt_or_ge j i with q | q
          · exact h3 j y q hy
          · rw [show j = i by omega, hx] at hy
            cases hy
            exact h20)
      · refine EV.iconst (v := nI 1) d_Km_isBlocked_23 (by decide) ?_
        exact EV.ireturn d_Km_isBlocked_24 ⟨_, rfl, rfl⟩ ⟨by rw [bI_t (b := ps_blk ps c) (List.any_eq_true.mpr ⟨x, List.mem_of_getElem? hx, by simpa using h20⟩)], rfl⟩
set_option maxHeartbeats 4000000 in
set_option maxRecDepth 100000 in
theorem sp_Km_isBlocked {G : mx_G} {d : Nat} {S : List mx_Sh} {D : mx_Mem} {m t c : Nat} {ps : List Nat} (hM : ShM S m t) (hP : ar (D (m + 2)) ps) (hl : ps.length ≤ 12) (hps : ∀ x ∈ ps, x < 2 ^ 31) (hc : c < 2 ^ 31) : EV G (d + 1) m_Km_isBlocked 0 (mx_lc0 m_Km_isBlocked [.ref m, .int (nI c), .int (nI ps.length)]) [] S D S (RI (bI (ps_blk ps c)) D) := by
  show EV _ _ _ _ [some (.ref m), some (.int (nI c)), some (.int (nI ps.length)), none] [] _ _ _ _
  refine EV.iconst (v := nI 0) d_Km_isBlocked_0 (by decide) ?_
  refine EV.istore_n d_Km_isBlocked_1 (by decide) ?_
  exact lp_Km_isBlocked hM hP hl hps hc ps.length 0 (by omega) rfl (fun j x hj => absurd hj (by omega))
end
section
theorem ps_orN {s c k : Nat} (hk : k = 1 ∨ k = 2) (hs : s < 256 ^ k) (hc : c < 128) : nI s ||| (nI c <<< (nI 8 * nI k &&& 31)) = nI (s + c * 256 ^ k) := by
  rcases hk with rfl | rfl
  · have e : nI c <<< (nI 8 * nI 1 &&& 31) = nI (c * 2 ^ 8) := pk_shlN (nI 8 * nI 1 &&& 31) 8 (by decide) (by omega)
    rw [e, nI_or (by omega) (by omega)]
  · have e : nI c <<< (nI 8 * nI 2 &&& 31) = nI (c * 2 ^ 16) := pk_shlN (nI 8 * nI 2 &&& 31) 16 (by decide) (by omega)
    rw [e, nI_or (by omega) (by omega)]
theorem ps_enc_mod (b : Nat) (hb : 0 < b) : ∀ (k : Nat) (s : List Nat), (∀ c ∈ s, c < b) → ps_enc b s % b ^ k = ps_enc b (s.take k) := by
  intro k
  induction k with
  | zero => intro s _; simp [ps_enc, Nat.mod_one]
  | succ k ih =>
    intro s hs
    cases s with
    | nil => simp [ps_enc]
    | cons c r =>
      have h1 := hs c List.mem_cons_self
      have h2 := ih r (fun x hx => hs x (List.mem_cons_of_mem _ hx))
      simp only [ps_enc, List.take_succ_cons]
      rw [← h2, Nat.pow_succ, Nat.mul_comm (b ^ k) b, Nat.mod_mul, Nat.add_mul_mod_self_left, Nat.mod_eq_of_lt h1, Nat.add_mul_div_left _ _ hb, Nat.div_eq_of_lt h1, Nat.zero_add]
/-- the string of entry j begins the text -/
theorem HdM_iff {tb : ps_T} {L : List Nat} {j : Nat} {e : List Nat × Nat} (hok : ps_ok tb) (hL : ∀ c ∈ L, 0 < c ∧ c < 128) (he : tb[j]? = some e) : HdM (fun j => ps_enc 256 ((tb.map Prod.fst).getD j [])) (ps_enc 256 (L.take 3)) j ↔ e.1 = L.take e.1.length := by
  have hso := (hok.1 e (List.mem_of_getElem? he)).1
  have hg : (tb.map Prod.fst).getD j [] = e.1 := by simp [he]
  unfold HdM
  dsimp only
  rw [hg, ps_len_enc hso, ps_enc_mod 256 (by decide) _ _ (fun c hc => by have := hL c (List.mem_of_mem_take hc); omega), List.take_take, Nat.min_eq_left hso.2.1]
  constructor
  · intro h
    exact (ps_enc_inj (fun c hc => by have := hL c (List.mem_of_mem_take hc); omega) (fun c hc => by have := hso.2.2 c hc; omega) h).symm
  · intro h
    rw [← h]
theorem ps_idx_at {tb : ps_T} {j : Nat} {e : List Nat × Nat} (hok : ps_ok tb) (he : tb[j]? = some e) : ps_idx tb e.1 = some j := by
  obtain ⟨i, hi⟩ := ps_has_idx ⟨e, List.mem_of_getElem? he, rfl⟩
  obtain ⟨⟨e', h1, h2⟩, -⟩ := ps_idx_some.mp hi
  rw [hi, hok.2.2 i j e' e h1 he h2]
theorem Lng_first {tb : ps_T} {L : List Nat} {c b bl : Nat} (hok : ps_ok tb) (hL : ∀ c ∈ L, 0 < c ∧ c < 128) (h1 : L.take 1 = [c]) (hc : ps_has tb [c]) (h : Lng (fun j => ps_enc 256 ((tb.map Prod.fst).getD j [])) (ps_enc 256 (L.take 3)) tb.length b bl) : ps_idx tb (ps_first tb L) = some b ∧ ps_so (ps_first tb L) ∧ ps_first tb L = L.take (ps_first tb L).length := by
  have hm : ∀ k e, ps_idx tb (L.take k) = some e → ∃ e', tb[e]? = some e' ∧ e'.1 = L.take k := fun k e he => (ps_idx_some.mp he).1
  have tk : ∀ k, L.take (L.take k).length = L.take k := fun k => by rw [List.length_take, List.take_eq_take_iff.mpr]; omega
  rcases h with ⟨-, -, h2⟩ | ⟨h2, h3, hbl, h4⟩
  · exfalso
    obtain ⟨e, he, hec⟩ := hc
    obtain ⟨j, hj⟩ := List.getElem?_of_mem he
    refine h2 j (List.getElem?_eq_some_iff.mp hj).1 ((HdM_iff hok hL hj).mpr ?_)
    rw [hec]
    exact h1.symm
  · obtain ⟨eb, heb⟩ : ∃ e, tb[b]? = some e := ⟨tb[b], List.getElem?_eq_getElem h2⟩
    have hso := (hok.1 eb (List.mem_of_getElem? heb)).1
    have hb := (HdM_iff hok hL heb).mp h3
    have hgb : (tb.map Prod.fst).getD b [] = eb.1 := by simp [heb]
    have hbL : eb.1.length ≤ L.length := by
      have := congrArg List.length hb
      rw [List.length_take] at this
      omega
    have hib := ps_idx_at hok heb
    -- a string of the table that begins the text is not longer
    have hmax : ∀ k j, ps_idx tb (L.take k) = some j → (L.take k).length ≤ eb.1.length := by
      intro k j hj
      obtain ⟨e', g1, g2⟩ := hm k j hj
      have g3 : HdM (fun j => ps_enc 256 ((tb.map Prod.fst).getD j [])) (ps_enc 256 (L.take 3)) j := (HdM_iff hok hL g1).mpr (by rw [g2, tk])
      have g4 := h4 j (List.getElem?_eq_some_iff.mp g1).1 g3
      have hgj : (tb.map Prod.fst).getD j [] = e'.1 := by simp [g1]
      dsimp only at g4
      rw [hgj, ps_len_enc (hok.1 e' (List.mem_of_getElem? g1)).1, g2] at g4
      have hbl2 : bl = eb.1.length := by
        rw [hbl]
        dsimp only
        rw [hgb, ps_len_enc hso]
      omega
    have key : ps_first tb L = eb.1 := by
      unfold ps_first
      have hs1 := hso.1
      have hs3 := hso.2.1
      cases i3 : ps_idx tb (L.take 3) with
      | some j =>
        rw [if_pos (show (some j).isSome = true from rfl)]
        have q := hmax 3 j i3
        rw [List.length_take] at q
        rw [hb, List.take_eq_take_iff.mpr]
        omega
      | none =>
        rw [if_neg (by simp)]
        cases i2 : ps_idx tb (L.take 2) with
        | some j =>
          rw [if_pos (show (some j).isSome = true from rfl)]
          have q := hmax 2 j i2
          rw [List.length_take] at q
          rw [hb, List.take_eq_take_iff.mpr]
          by_cases q3 : eb.1.length = 3
          · exfalso
            rw [← q3, ← hb, hib] at i3
            cases i3
          · omega
        | none =>
          rw [if_neg (by simp)]
          rw [hb, List.take_eq_take_iff.mpr]
          by_cases q3 : eb.1.length = 3
          · exfalso
            rw [← q3, ← hb, hib] at i3
            cases i3
          · by_cases q2 : eb.1.length = 2
            · exfalso
              rw [← q2, ← hb, hib] at i2
              cases i2
            · omega
    rw [key]
    exact ⟨hib, hso, hb⟩
set_option maxHeartbeats 4000000 in
set_option maxRecDepth 100000 in
theorem lp_Km_arrange20 {G : mx_G} {d : Nat} {S : List mx_Sh} {D0 : mx_Mem} {m t o n i c : Nat} {xs acc : List Nat} {f : Nat → Int32} {Post : Option Value → mx_Mem → Prop} (hM : ShM S m t) (hO : ShL S o n) (hmo : o + 1 < m ∨ m + 7 < o) (hX : LN D0 o xs) (hl : xs.length ≤ 12) (hn : xs.length ≤ n) (hn24 : n ≤ 24) (hch : ∀ c ∈ xs, 0 < c ∧ c < 128) (hi : i < xs.length) (hc : xs[i]? = some c) (hf : ar f acc) (hal : acc.length = i) (hac : ∀ x ∈ acc, 0 < x ∧ x < 128)
    (K : ∀ (p : Nat) (D : mx_Mem), p ≤ i → (∀ j x, p ≤ j → acc[j]? = some x → ps_must c x = true) → (p = 0 ∨ ∃ x, acc[p - 1]? = some x ∧ ps_must c x = false) → D (m + 1) = fx_ins f p (nI c) i → (∀ k, ¬ k = m → ¬ k = m + 1 → D k = D0 k) → (∀ j, ¬ j = 4 → D m j = D0 m j) → D m 4 = nI xs.length → EV G (d + 2) m_Km_arrange 76 [some (.ref m), some (.ref o), some (.int (nI i)), some (.int (nI p))] [] S D S Post) :
    ∀ (p : Nat) (D : mx_Mem), p ≤ i → (∀ j x, p ≤ j → acc[j]? = some x → ps_must c x = true) → D (m + 1) = fx_sh f p i → (∀ k, ¬ k = m → ¬ k = m + 1 → D k = D0 k) → (∀ j, ¬ j = 4 → D m j = D0 m j) → D m 4 = nI xs.length → EV G (d + 2) m_Km_arrange 20 [some (.ref m), some (.ref o), some (.int (nI i)), some (.int (nI p))] [] S D S Post := by
  obtain ⟨hm0, hm1, hm2, hm3, hm4, hm5, hm6, hm7⟩ := id hM
  obtain ⟨ho0, ho1⟩ := id hO
  have hcc := hch c (List.mem_of_getElem? hc)
  intro p
  induction p with
  | zero =>
    intro D h1 h2 hfs hof hoj hln
    have hcv : D (o + 1) i = nI c := by rw [hof (o + 1) (by omega) (by omega)]; exact hX.2 i c hc
    refine EV.iload_n d_Km_arrange_20 rfl ?_
    refine EV.if_leN (tgt := 64) d_Km_arrange_21 (by decide) rfl (by omega) (fun h21 => ?_) (fun h21 => ?_)
    · refine EV.aload_n d_Km_arrange_64 rfl ?_
      refine EV.getR fl_Km_15 d_Km_arrange_65 (by first | assumption | rfl) rfl ?_
      refine EV.iload_n d_Km_arrange_68 rfl ?_
      refine EV.aload_n d_Km_arrange_69 rfl ?_
      refine EV.getR fl_Km_58 d_Km_arrange_70 (by first | assumption | rfl) rfl ?_
      refine EV.iload_n d_Km_arrange_73 rfl ?_
      refine EV.caldN d_Km_arrange_74 (by first | assumption | rfl) rfl rfl (by omega) (by first | decide | omega) ?_
      refine EV.top hcv ?_
      refine EV.castN d_Km_arrange_75 (by first | assumption | rfl) rfl rfl (by omega) (by first | decide | omega) ⟨c, by omega, rfl⟩ ?_
      refine K 0 _ (by omega) h2 (Or.inl rfl) ?_ ?_ ?_ ?_
      · rw [mx_w_eq, hfs]; rfl
      · intro k k1 k2; rw [mx_w_ne _ _ _ k2]; exact hof k k1 k2
      · intro j hj; rw [mx_w_ne _ _ _ (by omega)]; exact hoj j hj
      · rw [mx_w_ne _ _ _ (by omega)]; exact hln
    · exfalso
      omega
  | succ p ih =>
    intro D h1 h2 hfs hof hoj hln
    have hcv : D (o + 1) i = nI c := by rw [hof (o + 1) (by omega) (by omega)]; exact hX.2 i c hc
    obtain ⟨x, hx⟩ : ∃ x, acc[p]? = some x := ⟨acc[p]'(by omega), List.getElem?_eq_getElem (by omega)⟩
    have hxx := hac x (List.mem_of_getElem? hx)
    have hxv : D (m + 1) p = nI x := by rw [hfs]; unfold fx_sh; rw [if_neg (by omega)]; exact hf p x hx
    refine EV.iload_n d_Km_arrange_20 rfl ?_
    refine EV.if_leN (tgt := 64) d_Km_arrange_21 (by decide) rfl (by omega) (fun h21 => ?_) (fun h21 => ?_)
    · exfalso
      omega
    · refine EV.aload_n d_Km_arrange_24 rfl ?_
      refine EV.getR fl_Km_58 d_Km_arrange_25 (by first | assumption | rfl) rfl ?_
      refine EV.iload_n d_Km_arrange_28 rfl ?_
      refine EV.caldN d_Km_arrange_29 (by first | assumption | rfl) rfl rfl (by omega) (by first | decide | omega) ?_
      refine EV.top hcv ?_
      refine EV.aload_n d_Km_arrange_30 rfl ?_
      refine EV.getR fl_Km_15 d_Km_arrange_31 (by first | assumption | rfl) rfl ?_
      refine EV.iload_n d_Km_arrange_34 rfl ?_
      refine EV.iconst (v := nI 1) d_Km_arrange_35 (by decide) ?_
      refine EV.isub d_Km_arrange_36 ?_
      refine EV.caldN d_Km_arrange_37 (by first | assumption | rfl) rfl (show _ = nI p from nI_pred p) (by omega) (by first | decide | omega) ?_
      refine EV.top hxv ?_
      refine EV.T2 cs_Km_61 d_Km_arrange_38 (sp_Km_mustPass (by omega) (by omega)) ⟨Nat.le_refl _, Nat.le_refl _⟩ rfl rfl (Nat.le_of_ble_eq_true rfl) (fun rv D1 hp => ?_)
      obtain ⟨rfl, hD⟩ := hp
      obtain rfl := hD.symm
      refine EV.if_eqB (tgt := 64) d_Km_arrange_41 (by decide) (fun h41 => ?_) (fun h41 => ?_)
      · refine EV.aload_n d_Km_arrange_64 rfl ?_
        refine EV.getR fl_Km_15 d_Km_arrange_65 (by first | assumption | rfl) rfl ?_
        refine EV.iload_n d_Km_arrange_68 rfl ?_
        refine EV.aload_n d_Km_arrange_69 rfl ?_
        refine EV.getR fl_Km_58 d_Km_arrange_70 (by first | assumption | rfl) rfl ?_
        refine EV.iload_n d_Km_arrange_73 rfl ?_
        refine EV.caldN d_Km_arrange_74 (by first | assumption | rfl) rfl rfl (by omega) (by first | decide | omega) ?_
        refine EV.top hcv ?_
        refine EV.castN d_Km_arrange_75 (by first | assumption | rfl) rfl rfl (by omega) (by first | decide | omega) ⟨c, by omega, rfl⟩ ?_
        refine K (p + 1) _ (by omega) h2 (Or.inr ⟨x, hx, h41⟩) ?_ ?_ ?_ ?_
        · rw [mx_w_eq, hfs]; rfl
        · intro k k1 k2; rw [mx_w_ne _ _ _ k2]; exact hof k k1 k2
        · intro j hj; rw [mx_w_ne _ _ _ (by omega)]; exact hoj j hj
        · rw [mx_w_ne _ _ _ (by omega)]; exact hln
      refine EV.aload_n d_Km_arrange_44 rfl ?_
      refine EV.getR fl_Km_15 d_Km_arrange_45 (by first | assumption | rfl) rfl ?_
      refine EV.iload_n d_Km_arrange_48 rfl ?_
      refine EV.aload_n d_Km_arrange_49 rfl ?_
      refine EV.getR fl_Km_15 d_Km_arrange_50 (by first | assumption | rfl) rfl ?_
      refine EV.iload_n d_Km_arrange_53 rfl ?_
      refine EV.iconst (v := nI 1) d_Km_arrange_54 (by decide) ?_
      refine EV.isub d_Km_arrange_55 ?_
      refine EV.caldN d_Km_arrange_56 (by first | assumption | rfl) rfl (show _ = nI p from nI_pred p) (by omega) (by first | decide | omega) ?_
      refine EV.castN d_Km_arrange_57 (by first | assumption | rfl) rfl rfl (by omega) (by first | decide | omega) ⟨x, by omega, hxv⟩ ?_
      refine EV.iincM d_Km_arrange_58 rfl (by decide) ?_
      refine EV.goto (tgt := 20) d_Km_arrange_61 (by decide) ?_
      refine ih _ (by omega) (fun j y hj hy => ?_) ?_ ?_ ?_ ?_
      · rcases Nat.lt_or_ge p j with q | q
        · exact h2 j y (by omega) hy
        · rw [show j = p by omega, hx] at hy
          cases hy
          exact h41
      · rw [mx_w_eq, hfs]; exact fx_sh_s _ (by omega)
      · intro k k1 k2; rw [mx_w_ne _ _ _ k2]; exact hof k k1 k2
      · intro j hj; rw [mx_w_ne _ _ _ (by omega)]; exact hoj j hj
      · rw [mx_w_ne _ _ _ (by omega)]; exact hln
set_option maxHeartbeats 4000000 in
set_option maxRecDepth 100000 in
theorem lp_Km_arrange {G : mx_G} {d : Nat} {S : List mx_Sh} {D0 : mx_Mem} {m t o n : Nat} {xs : List Nat} (hM : ShM S m t) (hO : ShL S o n) (hmo : o + 1 < m ∨ m + 7 < o) (hX : LN D0 o xs) (hl : xs.length ≤ 12) (hn : xs.length ≤ n) (hn24 : n ≤ 24) (hch : ∀ c ∈ xs, 0 < c ∧ c < 128) : ∀ (q i : Nat) (D : mx_Mem) (v3 : Option Value), i ≤ xs.length → xs.length - i = q → (∀ k, ¬ k = m → ¬ k = m + 1 → D k = D0 k) → (∀ j, ¬ j = 4 → D m j = D0 m j) → D m 4 = nI xs.length → ar (D (m + 1)) (ps_arr (xs.take i)) → EV G (d + 2) m_Km_arrange 10 [some (.ref m), some (.ref o), some (.int (nI i)), v3] [] S D S (fun rv D' => rv = none ∧ (∀ k, ¬ k = m → ¬ k = m + 1 → D' k = D0 k) ∧ (∀ j, ¬ j = 4 → D' m j = D0 m j) ∧ D' m 4 = nI xs.length ∧ ar (D' (m + 1)) (ps_arr xs)) := by
  obtain ⟨hm0, hm1, hm2, hm3, hm4, hm5, hm6, hm7⟩ := id hM
  obtain ⟨ho0, ho1⟩ := id hO
  intro q
  induction q with
  | zero =>
    intro i D v3 h1 h2 hof hoj hln har
    refine EV.iload_n d_Km_arrange_10 rfl ?_
    refine EV.aload_n d_Km_arrange_11 rfl ?_
    refine EV.getI fl_Km_57 d_Km_arrange_12 (by first | assumption | rfl) rfl ?_
    refine EV.icmp_geN (tgt := 82) d_Km_arrange_15 (by decide) rfl hln (by omega) (by omega) (fun h15 => ?_) (fun h15 => ?_)
    · exact EV.return_ d_Km_arrange_82 rfl ⟨rfl, hof, hoj, hln, by rw [List.take_of_length_le (by omega)] at har; exact har⟩
    · exfalso
      omega
  | succ q ih =>
    intro i D v3 h1 h2 hof hoj hln har
    obtain ⟨c, hc⟩ : ∃ c, xs[i]? = some c := ⟨xs[i]'(by omega), List.getElem?_eq_getElem (by omega)⟩
    have hal : (ps_arr (xs.take i)).length = i := by rw [ps_arr_len, List.length_take]; omega
    refine EV.iload_n d_Km_arrange_10 rfl ?_
    refine EV.aload_n d_Km_arrange_11 rfl ?_
    refine EV.getI fl_Km_57 d_Km_arrange_12 (by first | assumption | rfl) rfl ?_
    refine EV.icmp_geN (tgt := 82) d_Km_arrange_15 (by decide) rfl hln (by omega) (by omega) (fun h15 => ?_) (fun h15 => ?_)
    · exfalso
      omega
    · refine EV.iload_n d_Km_arrange_18 rfl ?_
      refine EV.istore_n d_Km_arrange_19 (by decide) ?_
      refine lp_Km_arrange20 hM hO hmo hX hl hn hn24 hch (by omega) hc har hal (fun x hx => hch x (List.mem_of_mem_take ((ps_arr_mem _).mp hx))) ?_ i D (by omega) (fun j x hj hx => ?_) (fx_sh_0 _ _).symm hof hoj hln
      · intro p D2 k1 k2 k3 k4 k5 k6 k7
        refine EV.iincN d_Km_arrange_76 rfl (by decide) ?_
        refine EV.goto (tgt := 10) d_Km_arrange_79 (by decide) ?_
        refine ih (i + 1) D2 _ (by omega) (by omega) k5 k6 k7 ?_
        rw [List.take_add_one, hc]
        show ar _ (ps_arr (xs.take i ++ [c]))
        rw [ps_arr_put (by omega) k2 k3, k4]
        have := ar_put (c := c) har (p := p) (by omega)
        rw [hal] at this
        exact this
      · exfalso
        have := (List.getElem?_eq_some_iff.mp hx).1
        omega
set_option maxHeartbeats 4000000 in
set_option maxRecDepth 100000 in
theorem sp_Km_arrange {G : mx_G} {d : Nat} {S : List mx_Sh} {D0 : mx_Mem} {m t o n : Nat} {xs : List Nat} (hM : ShM S m t) (hO : ShL S o n) (hmo : o + 1 < m ∨ m + 7 < o) (hX : LN D0 o xs) (hl : xs.length ≤ 12) (hn : xs.length ≤ n) (hn24 : n ≤ 24) (hch : ∀ c ∈ xs, 0 < c ∧ c < 128) : EV G (d + 2) m_Km_arrange 0 (mx_lc0 m_Km_arrange [.ref m, .ref o]) [] S D0 S (fun rv D' => rv = none ∧ (∀ k, ¬ k = m → ¬ k = m + 1 → D' k = D0 k) ∧ (∀ j, ¬ j = 4 → D' m j = D0 m j) ∧ D' m 4 = nI xs.length ∧ ar (D' (m + 1)) (ps_arr xs)) := by
  obtain ⟨hm0, hm1, hm2, hm3, hm4, hm5, hm6, hm7⟩ := id hM
  obtain ⟨ho0, ho1⟩ := id hO
  show EV _ _ _ _ [some (.ref m), some (.ref o), none, none] [] _ _ _ _
  refine EV.aload_n d_Km_arrange_0 rfl ?_
  refine EV.aload_n d_Km_arrange_1 rfl ?_
  refine EV.getI fl_Km_54 d_Km_arrange_2 (by first | assumption | rfl) rfl ?_
  refine EV.top hX.1 ?_
  refine EV.putI fl_Km_57 d_Km_arrange_5 (by first | assumption | rfl) rfl rfl rfl ?_
  refine EV.iconst (v := nI 0) d_Km_arrange_8 (by decide) ?_
  refine EV.istore_n d_Km_arrange_9 (by decide) ?_
  refine EV.post (fun rv D' h => ⟨h.1, fun k k1 k2 => (h.2.1 k k1 k2).trans (by simp [mx_w, va_up, k1]), fun j hj => (h.2.2.1 j hj).trans (by simp [mx_w, va_up, upd, hj]), h.2.2.2⟩) (lp_Km_arrange hM hO hmo ⟨by simp [mx_w, va_up, show ¬ o = m by omega]; exact hX.1, by simp [mx_w, va_up, show ¬ o + 1 = m by omega]; exact hX.2⟩ hl hn hn24 hch xs.length 0 _ none (by omega) rfl (fun _ _ _ => rfl) (fun _ _ => rfl) (by simp [mx_w, va_up, upd]) (ar_nil _))
set_option maxHeartbeats 4000000 in
set_option maxRecDepth 100000 in
theorem lp_Km_headAt {G : mx_G} {d : Nat} {S : List mx_Sh} {D : mx_Mem} {m t a : Nat} {l : List Nat} (hM : ShM S m t) (har : ar (D (m + 1)) l) (hln : D m 4 = nI l.length) (hl : l.length ≤ 12) (ha : a < l.length) (hch : ∀ c ∈ l, 0 < c ∧ c < 128) : ∀ q k : Nat, 1 ≤ k → k ≤ 3 → 3 - k = q → EV G d m_Km_headAt 9 [some (.ref m), some (.int (nI a)), some (.int (nI (ps_enc 256 ((l.drop a).take k)))), some (.int (nI k))] [] S D S (RI (nI (ps_enc 256 ((l.drop a).take 3))) D) := by
  obtain ⟨hm0, hm1, hm2, hm3, hm4, hm5, hm6, hm7⟩ := id hM
  intro q
  induction q with
  | zero =>
    intro k h1 h2 h3
    obtain rfl : k = 3 := by omega
    refine EV.iload_n d_Km_headAt_9 rfl ?_
    refine EV.iconst (v := nI 3) d_Km_headAt_10 (by decide) ?_
    refine EV.icmp_geN (tgt := 46) d_Km_headAt_11 (by decide) rfl rfl (by omega) (by omega) (fun h11 => ?_) (fun h11 => ?_)
    · refine EV.iload_n d_Km_headAt_46 rfl ?_
      exact EV.ireturn d_Km_headAt_47 ⟨_, rfl, rfl⟩ ⟨rfl, rfl⟩
    · exfalso
      omega
  | succ q ih =>
    intro k h1 h2 h3
    refine EV.iload_n d_Km_headAt_9 rfl ?_
    refine EV.iconst (v := nI 3) d_Km_headAt_10 (by decide) ?_
    refine EV.icmp_geN (tgt := 46) d_Km_headAt_11 (by decide) rfl rfl (by omega) (by omega) (fun h11 => ?_) (fun h11 => ?_)
    · exfalso
      omega
    · refine EV.iload_n d_Km_headAt_14 rfl ?_
      refine EV.iload_n d_Km_headAt_15 rfl ?_
      refine EV.iadd d_Km_headAt_16 ?_
      refine EV.aload_n d_Km_headAt_17 rfl ?_
      refine EV.getI fl_Km_57 d_Km_headAt_18 (by first | assumption | rfl) rfl ?_
      refine EV.icmp_geN (tgt := 46) d_Km_headAt_21 (by decide) (nI_add a k) hln (by omega) (by omega) (fun h21 => ?_) (fun h21 => ?_)
      · refine EV.iload_n d_Km_headAt_46 rfl ?_
        exact EV.ireturn d_Km_headAt_47 ⟨_, rfl, rfl⟩ ⟨by rw [List.take_of_length_le (by rw [List.length_drop]; omega), List.take_of_length_le (i := 3) (by rw [List.length_drop]; omega)], rfl⟩
      · obtain ⟨c, hc⟩ : ∃ c, l[a + k]? = some c := ⟨l[a + k]'(by omega), List.getElem?_eq_getElem (by omega)⟩
        have hcc := hch c (List.mem_of_getElem? hc)
        have htk : (l.drop a).take (k + 1) = (l.drop a).take k ++ [c] := by rw [List.take_add_one, List.getElem?_drop, hc]; rfl
        have hlk : ((l.drop a).take k).length = k := by rw [List.length_take, List.length_drop]; omega
        have hlt := ps_enc_lt (b := 256) (s := (l.drop a).take k) (fun x hx => by have := hch x (List.mem_of_mem_drop (List.mem_of_mem_take hx)); omega)
        rw [hlk] at hlt
        refine EV.iload_n d_Km_headAt_24 rfl ?_
        refine EV.aload_n d_Km_headAt_25 rfl ?_
        refine EV.getR fl_Km_15 d_Km_headAt_26 (by first | assumption | rfl) rfl ?_
        refine EV.iload_n d_Km_headAt_29 rfl ?_
        refine EV.iload_n d_Km_headAt_30 rfl ?_
        refine EV.iadd d_Km_headAt_31 ?_
        refine EV.caldN d_Km_headAt_32 (by first | assumption | rfl) rfl (nI_add a k) (by omega) (by first | decide | omega) ?_
        refine EV.top (har _ c hc) ?_
        refine EV.bipush (v := nI 8) d_Km_headAt_33 (by decide) ?_
        refine EV.iload_n d_Km_headAt_35 rfl ?_
        refine EV.imul d_Km_headAt_36 ?_
        refine EV.ishl d_Km_headAt_37 ?_
        refine EV.ior d_Km_headAt_38 ?_
        refine EV.top (y := nI (ps_enc 256 ((l.drop a).take (k + 1)))) (by rw [htk, ps_enc_snoc, hlk]; exact ps_orN (by omega) hlt hcc.2) ?_
        refine EV.istore_n d_Km_headAt_39 (by decide) ?_
        refine EV.iincN d_Km_headAt_40 rfl (by decide) ?_
        refine EV.goto (tgt := 9) d_Km_headAt_43 (by decide) ?_
        exact ih (k + 1) (by omega) (by omega) (by omega)
set_option maxHeartbeats 4000000 in
set_option maxRecDepth 100000 in
theorem sp_Km_headAt {G : mx_G} {d : Nat} {S : List mx_Sh} {D : mx_Mem} {m t a : Nat} {l : List Nat} (hM : ShM S m t) (har : ar (D (m + 1)) l) (hln : D m 4 = nI l.length) (hl : l.length ≤ 12) (ha : a < l.length) (hch : ∀ c ∈ l, 0 < c ∧ c < 128) : EV G d m_Km_headAt 0 (mx_lc0 m_Km_headAt [.ref m, .int (nI a)]) [] S D S (RI (nI (ps_enc 256 ((l.drop a).take 3))) D) := by
  obtain ⟨hm0, hm1, hm2, hm3, hm4, hm5, hm6, hm7⟩ := id hM
  show EV _ _ _ _ [some (.ref m), some (.int (nI a)), none, none] [] _ _ _ _
  refine EV.aload_n d_Km_headAt_0 rfl ?_
  refine EV.getR fl_Km_15 d_Km_headAt_1 (by first | assumption | rfl) rfl ?_
  refine EV.iload_n d_Km_headAt_4 rfl ?_
  refine EV.caldN d_Km_headAt_5 (by first | assumption | rfl) rfl rfl (by omega) (by first | decide | omega) ?_
  obtain ⟨c, hc⟩ : ∃ c, l[a]? = some c := ⟨l[a]'ha, List.getElem?_eq_getElem ha⟩
  refine EV.top (y := nI (ps_enc 256 ((l.drop a).take 1))) (by
    rw [har a c hc, List.drop_eq_getElem_cons ha, (List.getElem?_eq_some_iff.mp hc).2]
    simp [ps_enc]) ?_
  refine EV.istore_n d_Km_headAt_6 (by decide) ?_
  refine EV.iconst (v := nI 1) d_Km_headAt_7 (by decide) ?_
  refine EV.istore_n d_Km_headAt_8 (by decide) ?_
  exact lp_Km_headAt hM har hln hl ha hch 2 1 (by omega) (by omega) rfl
end
section
theorem el_ms_snoc (sh v : Bool) (ps : List Nat) (c : Nat) : el_ms sh v (ps ++ [c]) = el_ms sh v ps ++ el_ms sh v [c] := by
  unfold el_ms
  split <;> simp
theorem el_ms_len (sh v : Bool) (ps : List Nat) : (el_ms sh v ps).length ≤ ps.length := by
  unfold el_ms
  split <;> simp
/-- which cells the taking of an entry may change -/
def FrT (m : Nat) (D D' : mx_Mem) : Prop := ∀ k, ¬ k = m → ¬ k = m + 2 → ¬ k = m + 4 → ¬ k = m + 5 → ¬ k = m + 6 → ¬ k = m + 7 → D' k = D k
theorem TBw_kept {D D' : mx_Mem} {t : Nat} {tb : ps_T} (h : TBw D t tb) (hk : ∀ j, j ≤ 5 → D' (t + j) = D (t + j)) : TBw D' t tb := by
  have h0 := hk 0 (by omega)
  rw [Nat.add_zero] at h0
  refine ⟨by rw [h0]; exact h.1, ?_, ?_⟩
  · rw [hk 1 (by omega), hk 2 (by omega)]; exact h.2.1
  · rw [hk 3 (by omega), hk 4 (by omega), hk 5 (by omega)]; exact h.2.2
theorem WE_kept {D D' : mx_Mem} {m : Nat} {es : List ps_E} (h : WE D m es) (h0 : D' m 5 = D m 5) (hk : ∀ j, 4 ≤ j → j ≤ 7 → D' (m + j) = D (m + j)) : WE D' m es := by
  refine ⟨by rw [h0]; exact h.1, fun i e he => ?_⟩
  rw [hk 4 (by omega) (by omega), hk 5 (by omega) (by omega), hk 6 (by omega) (by omega), hk 7 (by omega) (by omega)]
  exact h.2 i e he
theorem ps_mark_c {c : Nat} (h : ps_mark c = true) : 49 ≤ c ∧ c ≤ 52 := by
  unfold ps_mark at h
  simpa using h
set_option maxHeartbeats 4000000 in
set_option maxRecDepth 100000 in
theorem lp_Km_takeEntry125 {G : mx_G} {d : Nat} {S : List mx_Sh} {D0 : mx_Mem} {m t p : Nat} {sh v : Bool} {es : List ps_E} {ps : List Nat} {v1 v2 : Option Value} (hM : ShM S m t) (hP : ar (D0 (m + 2)) ps) (hl : es.length + ps.length ≤ 12) (hps : ∀ x ∈ ps, ps_mark x = true) (hsh : D0 m 8 = bI sh) (hv : D0 m 6 = bI v) : ∀ (n i : Nat) (D : mx_Mem), i ≤ ps.length → ps.length - i = n → FrE m D0 D → (∀ j, ¬ j = 5 → D m j = D0 m j) → WE D m (es ++ el_ms sh v (ps.take i)) → EV G (d + 2) m_Km_takeEntry 125 [some (.ref m), v1, v2, some (.int (nI p)), some (.int (nI ps.length)), some (.int (nI i))] [] S D S (fun rv D' => rv = some (.int (nI p)) ∧ FrE m D0 D' ∧ (∀ j, ¬ j = 5 → D' m j = D0 m j) ∧ WE D' m (es ++ el_ms sh v ps)) := by
  obtain ⟨hm0, hm1, hm2, hm3, hm4, hm5, hm6, hm7⟩ := id hM
  intro n
  induction n with
  | zero =>
    intro i D h1 h2 hF hJ hE
    refine EV.iload d_Km_takeEntry_125 rfl ?_
    refine EV.iload d_Km_takeEntry_127 rfl ?_
    refine EV.icmp_geN (tgt := 149) d_Km_takeEntry_129 (by decide) rfl rfl (by omega) (by omega) (fun h129 => ?_) (fun h129 => ?_)
    · refine EV.iload_n d_Km_takeEntry_149 rfl ?_
      exact EV.ireturn d_Km_takeEntry_150 ⟨_, rfl, rfl⟩ ⟨rfl, hF, hJ, by rw [List.take_of_length_le (by omega)] at hE; exact hE⟩
    · exfalso
      omega
  | succ n ih =>
    intro i D h1 h2 hF hJ hE
    obtain ⟨c, hc⟩ : ∃ c, ps[i]? = some c := ⟨ps[i]'(by omega), List.getElem?_eq_getElem (by omega)⟩
    have hcm := ps_mark_c (hps c (List.mem_of_getElem? hc))
    have hcv : D (m + 2) i = nI c := by rw [hF (m + 2) (by omega) (by omega) (by omega) (by omega) (by omega)]; exact hP i c hc
    have hel := el_ms_len sh v (ps.take i)
    rw [List.length_take] at hel
    refine EV.iload d_Km_takeEntry_125 rfl ?_
    refine EV.iload d_Km_takeEntry_127 rfl ?_
    refine EV.icmp_geN (tgt := 149) d_Km_takeEntry_129 (by decide) rfl rfl (by omega) (by omega) (fun h129 => ?_) (fun h129 => ?_)
    · exfalso
      omega
    · refine EV.aload_n d_Km_takeEntry_132 rfl ?_
      refine EV.aload_n d_Km_takeEntry_133 rfl ?_
      refine EV.getR fl_Km_19 d_Km_takeEntry_134 (by first | assumption | rfl) rfl ?_
      refine EV.iload d_Km_takeEntry_137 rfl ?_
      refine EV.caldN d_Km_takeEntry_139 (by first | assumption | rfl) rfl rfl (by omega) (by first | decide | omega) ?_
      refine EV.top hcv ?_
      refine EV.V1 cv_Km_79 d_Km_takeEntry_140 (by first | assumption | rfl) (sp_Km_addMark (sh := sh) (v := v) hM hE (by rw [List.length_append]; omega) (by rw [hJ 8 (by decide)]; exact hsh) (by rw [hJ 6 (by decide)]; exact hv) (by omega)) ⟨Nat.le_refl _, Nat.le_refl _⟩ rfl rfl (Nat.le_of_ble_eq_true rfl) (fun rv D1 hp => ?_)
      obtain ⟨rfl, q1, q2, q3⟩ := hp
      refine EV.iincN d_Km_takeEntry_143 rfl (by decide) ?_
      refine EV.goto (tgt := 125) d_Km_takeEntry_146 (by decide) ?_
      refine ih (i + 1) D1 (by omega) (by omega) (fun k a b c d e => (q1 k a b c d e).trans (hF k a b c d e)) (fun j hj => (q2 j hj).trans (hJ j hj)) ?_
      rw [List.take_add_one, hc]
      show WE _ _ (es ++ el_ms sh v (ps.take i ++ [c]))
      rw [el_ms_snoc, ← List.append_assoc]
      exact q3
set_option maxHeartbeats 4000000 in
set_option maxRecDepth 100000 in
theorem lp_Km_takeEntry31 {G : mx_G} {d : Nat} {S : List mx_Sh} {D0 : mx_Mem} {m t a : Nat} {tb : ps_T} {l : List Nat} {A : List Nat × List Nat × List Nat} {Post : Option Value → mx_Mem → Prop} (hM : ShM S m t) (hT : ShT S t) (hmt : t + 5 < m ∨ m + 7 < t) (hB : TBw D0 t tb) (hok : ps_ok tb) (har : ar (D0 (m + 1)) l) (hln : D0 m 4 = nI l.length) (hl : l.length ≤ 12) (hch : ∀ c ∈ l, 0 < c ∧ c < 128)
    (K : ∀ (i p : Nat) (D : mx_Mem) (v5 : Option Value), (∀ k, ¬ k = m + 2 → D k = D0 k) → ps_idx tb A.1 = some i → ps_so A.1 → ar (D (m + 2)) A.2.1 → (∀ x ∈ A.2.1, ps_mark x = true) → l.drop p = A.2.2 → p ≤ l.length → A.2.1.length + 1 + a ≤ p → EV G (d + 3) m_Km_takeEntry 117 [some (.ref m), some (.int (nI a)), some (.int (nI i)), some (.int (nI p)), some (.int (nI A.2.1.length)), v5] [] S D S Post) :
    ∀ (q i p : Nat) (s ps : List Nat) (D : mx_Mem) (v5 : Option Value), p ≤ l.length → l.length - p = q → (∀ k, ¬ k = m + 2 → D k = D0 k) → ps_idx tb s = some i → ps_so s → ar (D (m + 2)) ps → (∀ x ∈ ps, ps_mark x = true) → ps.length + 1 + a ≤ p → ps_abs tb s ps (l.drop p) = A → EV G (d + 3) m_Km_takeEntry 31 [some (.ref m), some (.int (nI a)), some (.int (nI i)), some (.int (nI p)), some (.int (nI ps.length)), v5] [] S D S Post := by
  obtain ⟨hm0, hm1, hm2, hm3, hm4, hm5, hm6, hm7⟩ := id hM
  obtain ⟨hs0, hs1, hs2, hs3, hs4, hs5⟩ := id hT
  have hl30 := hok.2.1
  intro q
  induction q with
  | zero =>
    intro i p s ps D v5 h1 h2 hF hi hso hP hps hlen hA
    have hln2 : D m 4 = nI l.length := by rw [hF m (by omega)]; exact hln
    have e0 : l.drop p = [] := List.drop_of_length_le (by omega)
    rw [e0] at hA
    simp only [ps_abs] at hA
    subst hA
    refine EV.iload_n d_Km_takeEntry_31 rfl ?_
    refine EV.aload_n d_Km_takeEntry_32 rfl ?_
    refine EV.getI fl_Km_57 d_Km_takeEntry_33 (by first | assumption | rfl) rfl ?_
    refine EV.icmp_geN (tgt := 117) d_Km_takeEntry_36 (by decide) rfl hln2 (by omega) (by omega) (fun h36 => ?_) (fun h36 => ?_)
    · exact K i p D v5 hF hi hso hP hps e0 h1 hlen
    · exfalso
      omega
  | succ q ih =>
    intro i p s ps D v5 h1 h2 hF hi hso hP hps hlen hA
    have hln2 : D m 4 = nI l.length := by rw [hF m (by omega)]; exact hln
    obtain ⟨c, hc⟩ : ∃ c, l[p]? = some c := ⟨l[p]'(by omega), List.getElem?_eq_getElem (by omega)⟩
    have hcc := hch c (List.mem_of_getElem? hc)
    have hcv : D (m + 1) p = nI c := by rw [hF (m + 1) (by omega)]; exact har p c hc
    have hdr : l.drop p = c :: l.drop (p + 1) := by rw [List.drop_eq_getElem_cons (by omega), (List.getElem?_eq_some_iff.mp hc).2]
    have hil := ps_idx_lt hi
    have hB2 : TBw D t tb := TBw_kept hB (fun j hj => hF (t + j) (by omega))
    have hA0 := hA
    rw [hdr] at hA
    simp only [ps_abs] at hA
    -- the mark is passed over
    have KP : ps_mark c = true → ps_abs tb s (ps ++ [c]) (l.drop (p + 1)) = A → ∀ w : Option Value, EV G (d + 3) m_Km_takeEntry 95 [some (.ref m), some (.int (nI a)), some (.int (nI i)), some (.int (nI p)), some (.int (nI ps.length)), w] [] S D S Post := by
      intro hcm hA2 w
      refine EV.aload_n d_Km_takeEntry_95 rfl ?_
      refine EV.getR fl_Km_19 d_Km_takeEntry_96 (by first | assumption | rfl) rfl ?_
      refine EV.iload d_Km_takeEntry_99 rfl ?_
      refine EV.aload_n d_Km_takeEntry_101 rfl ?_
      refine EV.getR fl_Km_15 d_Km_takeEntry_102 (by first | assumption | rfl) rfl ?_
      refine EV.iload_n d_Km_takeEntry_105 rfl ?_
      refine EV.caldN d_Km_takeEntry_106 (by first | assumption | rfl) rfl rfl (by omega) (by first | decide | omega) ?_
      refine EV.top hcv ?_
      refine EV.castN d_Km_takeEntry_107 (by first | assumption | rfl) rfl rfl (by omega) (by first | decide | omega) ⟨c, by omega, rfl⟩ ?_
      refine EV.iincN d_Km_takeEntry_108 rfl (by decide) ?_
      refine EV.iincN d_Km_takeEntry_111 rfl (by decide) ?_
      refine EV.goto (tgt := 31) d_Km_takeEntry_114 (by decide) ?_
      refine EV.at (lc2 := [some (.ref m), some (.int (nI a)), some (.int (nI i)), some (.int (nI (p + 1))), some (.int (nI (ps ++ [c]).length)), w]) (by rw [List.length_append]; rfl) ?_
      refine ih i (p + 1) s (ps ++ [c]) _ w (by omega) (by omega) ?_ hi hso ?_ ?_ (by rw [List.length_append, List.length_singleton]; omega) hA2
      · intro k hk; rw [mx_w_ne _ _ _ hk]; exact hF k hk
      · rw [mx_w_eq]; exact ar_snoc hP
      · intro x hx
        rcases List.mem_append.mp hx with h | h
        · exact hps x h
        · simp at h; subst h; exact hcm
    refine EV.iload_n d_Km_takeEntry_31 rfl ?_
    refine EV.aload_n d_Km_takeEntry_32 rfl ?_
    refine EV.getI fl_Km_57 d_Km_takeEntry_33 (by first | assumption | rfl) rfl ?_
    refine EV.icmp_geN (tgt := 117) d_Km_takeEntry_36 (by decide) rfl hln2 (by omega) (by omega) (fun h36 => ?_) (fun h36 => ?_)
    · exfalso
      omega
    · refine EV.aload_n d_Km_takeEntry_39 rfl ?_
      refine EV.getR fl_Km_15 d_Km_takeEntry_40 (by first | assumption | rfl) rfl ?_
      refine EV.iload_n d_Km_takeEntry_43 rfl ?_
      refine EV.caldN d_Km_takeEntry_44 (by first | assumption | rfl) rfl rfl (by omega) (by first | decide | omega) ?_
      refine EV.top hcv ?_
      refine EV.T1 cs_Km_65 d_Km_takeEntry_45 (sp_To_isMark (by omega)) ⟨Nat.le_refl _, Nat.le_refl _⟩ rfl rfl (Nat.le_of_ble_eq_true rfl) (fun rv D1 hp => ?_)
      obtain ⟨rfl, hD⟩ := hp
      obtain rfl := hD.symm
      refine EV.if_eqB (tgt := 117) d_Km_takeEntry_48 (by decide) (fun h48 => ?_) (fun h48 => ?_)
      · rw [if_neg (by simp [h48])] at hA
        subst hA
        exact K i p D v5 hF hi hso hP hps hdr h1 hlen
      rw [if_pos h48] at hA
      refine EV.aload_n d_Km_takeEntry_51 rfl ?_
      refine EV.aload_n d_Km_takeEntry_52 rfl ?_
      refine EV.getR fl_Km_15 d_Km_takeEntry_53 (by first | assumption | rfl) rfl ?_
      refine EV.iload_n d_Km_takeEntry_56 rfl ?_
      refine EV.caldN d_Km_takeEntry_57 (by first | assumption | rfl) rfl rfl (by omega) (by first | decide | omega) ?_
      refine EV.top hcv ?_
      refine EV.iload d_Km_takeEntry_58 rfl ?_
      refine EV.V2 cv_Km_101 d_Km_takeEntry_60 (by first | assumption | rfl) (sp_Km_isBlocked hM hP (by omega) (fun x hx => by have := ps_mark_c (hps x hx); omega) (by omega)) ⟨Nat.le_refl _, Nat.le_refl _⟩ rfl rfl (Nat.le_of_ble_eq_true rfl) (fun rv D1 hp => ?_)
      obtain ⟨rfl, hD⟩ := hp
      obtain rfl := hD.symm
      refine EV.if_eqB (tgt := 70) d_Km_takeEntry_63 (by decide) (fun h63 => ?_) (fun h63 => ?_)
      · refine EV.aload_n d_Km_takeEntry_70 rfl ?_
        refine EV.iload_n d_Km_takeEntry_71 rfl ?_
        refine EV.aload_n d_Km_takeEntry_72 rfl ?_
        refine EV.getR fl_Km_15 d_Km_takeEntry_73 (by first | assumption | rfl) rfl ?_
        refine EV.iload_n d_Km_takeEntry_76 rfl ?_
        refine EV.caldN d_Km_takeEntry_77 (by first | assumption | rfl) rfl rfl (by omega) (by first | decide | omega) ?_
        refine EV.top hcv ?_
        refine EV.V2 cv_Km_105 d_Km_takeEntry_78 (by first | assumption | rfl) (sp_Km_findLonger hM hT hB2 hok hi hso hcc) ⟨Nat.le_refl _, Nat.le_refl _⟩ rfl rfl (Nat.le_of_ble_eq_true rfl) (fun rv D1 hp => ?_)
        obtain ⟨rfl, hD⟩ := hp
        obtain rfl := hD.symm
        cases hfl : (if s.length < 3 then ps_idx tb (s ++ [c]) else none) with
        | none =>
          have e1 : ps_fl tb s c = -1 := by
            unfold ps_fl
            by_cases q3 : s.length < 3
            · rw [if_pos q3] at hfl ⊢
              rw [hfl]
            · rw [if_neg q3]
          rw [e1]
          refine EV.istore d_Km_takeEntry_81 (by decide) ?_
          refine EV.iload d_Km_takeEntry_83 rfl ?_
          refine EV.iconst (v := (-1)) d_Km_takeEntry_85 (by decide) ?_
          refine EV.icmp_eq (tgt := 95) d_Km_takeEntry_86 (by decide) (fun _ => ?_) (fun h => absurd rfl h)
          rw [if_neg (fun z => by
            rw [if_pos z.2.1] at hfl
            rw [hfl] at z
            exact absurd z.2.2 (by simp))] at hA
          exact KP h48 hA _
        | some j =>
          have q3 : s.length < 3 := by
            by_cases q3 : s.length < 3
            · exact q3
            · rw [if_neg q3] at hfl; cases hfl
          rw [if_pos q3] at hfl
          have hjl := ps_idx_lt hfl
          have e1 : ps_fl tb s c = nI j := by
            unfold ps_fl
            rw [if_pos q3, hfl]
          rw [e1]
          refine EV.istore d_Km_takeEntry_81 (by decide) ?_
          refine EV.iload d_Km_takeEntry_83 rfl ?_
          refine EV.iconst (v := (-1)) d_Km_takeEntry_85 (by decide) ?_
          refine EV.icmp_eq (tgt := 95) d_Km_takeEntry_86 (by decide) (fun h => absurd h (nI_m1 (by omega))) (fun _ => ?_)
          rw [if_pos ⟨h63, q3, by rw [hfl]; rfl⟩] at hA
          refine EV.iload d_Km_takeEntry_89 rfl ?_
          refine EV.istore_n d_Km_takeEntry_91 (by decide) ?_
          refine EV.goto (tgt := 111) d_Km_takeEntry_92 (by decide) ?_
          refine EV.iincN d_Km_takeEntry_111 rfl (by decide) ?_
          refine EV.goto (tgt := 31) d_Km_takeEntry_114 (by decide) ?_
          refine ih j (p + 1) (s ++ [c]) ps D _ (by omega) (by omega) hF hfl ⟨by simp, by simp; omega, fun x hx => ?_⟩ hP hps (by omega) hA
          rcases List.mem_append.mp hx with h | h
          · exact hso.2.2 x h
          · simp at h; subst h; exact hcc
      · refine EV.iconst (v := (-1)) d_Km_takeEntry_66 (by decide) ?_
        refine EV.goto (tgt := 81) d_Km_takeEntry_67 (by decide) ?_
        refine EV.istore d_Km_takeEntry_81 (by decide) ?_
        refine EV.iload d_Km_takeEntry_83 rfl ?_
        refine EV.iconst (v := (-1)) d_Km_takeEntry_85 (by decide) ?_
        refine EV.icmp_eq (tgt := 95) d_Km_takeEntry_86 (by decide) (fun _ => ?_) (fun h => absurd rfl h)
        rw [if_neg (by simp [h63])] at hA
        exact KP h48 hA _
set_option maxHeartbeats 4000000 in
set_option maxRecDepth 100000 in
theorem sp_Km_takeEntry {G : mx_G} {d : Nat} {S : List mx_Sh} {D0 : mx_Mem} {m t a c : Nat} {tb : ps_T} {sh : Bool} {es : List ps_E} {l : List Nat} {A : List Nat × List Nat × List Nat} (hM : ShM S m t) (hT : ShT S t) (hmt : t + 5 < m ∨ m + 7 < t) (hB : TBw D0 t tb) (hok : ps_ok tb) (har : ar (D0 (m + 1)) l) (hln : D0 m 4 = nI l.length) (hl : l.length ≤ 12) (hch : ∀ c ∈ l, 0 < c ∧ c < 128) (hE : WE D0 m es) (hsh : D0 m 8 = bI sh) (hc : l[a]? = some c) (hcs : ps_has tb [c]) (hcap : es.length + (l.length - a) ≤ 12) (hA : ps_abs tb (ps_first tb (l.drop a)) [] (l.drop (a + (ps_first tb (l.drop a)).length)) = A) : EV G (d + 3) m_Km_takeEntry 0 (mx_lc0 m_Km_takeEntry [.ref m, .int (nI a)]) [] S D0 S (fun rv D' => ∃ p, rv = some (.int (nI p)) ∧ a < p ∧ p ≤ l.length ∧ l.drop p = A.2.2 ∧ FrT m D0 D' ∧ (∀ j, ¬ j = 5 → ¬ j = 6 → D' m j = D0 m j) ∧ D' m 6 = bI (ps_isv A.1) ∧ WE D' m (es ++ el_e tb sh A.1 :: el_ms sh (ps_isv A.1) A.2.1) ∧ 1 + A.2.1.length + a ≤ p) := by
  obtain ⟨hm0, hm1, hm2, hm3, hm4, hm5, hm6, hm7⟩ := id hM
  obtain ⟨hs0, hs1, hs2, hs3, hs4, hs5⟩ := id hT
  have hal : a < l.length := (List.getElem?_eq_some_iff.mp hc).1
  have hl30 := hok.2.1
  have hLch : ∀ c ∈ l.drop a, 0 < c ∧ c < 128 := fun c hc => hch c (List.mem_of_mem_drop hc)
  have hL1 : (l.drop a).take 1 = [c] := by rw [List.drop_eq_getElem_cons hal, (List.getElem?_eq_some_iff.mp hc).2]; rfl
  have hgd : ∀ j (hj : j < tb.length), (tb.map Prod.fst).getD j [] = tb[j].1 := fun j hj => by simp [hj]
  have hh : ps_enc 256 ((l.drop a).take 3) < 2 ^ 31 := by
    have h1 := ps_enc_lt (b := 256) (s := (l.drop a).take 3) (fun x hx => by have := hLch x (List.mem_of_mem_take hx); omega)
    have h2 : 256 ^ ((l.drop a).take 3).length ≤ 256 ^ 3 := Nat.pow_le_pow_right (by decide) (by rw [List.length_take]; omega)
    omega
  show EV _ _ _ _ [some (.ref m), some (.int (nI a)), none, none, none, none] [] _ _ _ _
  refine EV.aload_n d_Km_takeEntry_0 rfl ?_
  refine EV.getR fl_Km_9 d_Km_takeEntry_1 (by first | assumption | rfl) rfl ?_
  refine EV.aload_n d_Km_takeEntry_4 rfl ?_
  refine EV.iload_n d_Km_takeEntry_5 rfl ?_
  refine EV.V1 cv_Km_86 d_Km_takeEntry_6 (by first | assumption | rfl) (sp_Km_headAt hM har hln hl hal hch) ⟨Nat.le_refl _, Nat.le_refl _⟩ rfl rfl (Nat.le_of_ble_eq_true rfl) (fun rv D1 hp => ?_)
  obtain ⟨rfl, hD⟩ := hp
  obtain rfl := hD.symm
  refine EV.V1 cv_Km_89 d_Km_takeEntry_9 (by first | assumption | rfl) (sp_Ta_findLongest (e := fun j => ps_enc 256 ((tb.map Prod.fst).getD j [])) hT hB.1 hok.2.1 hh (fun j hj => ⟨by rw [hgd j hj]; exact (hB.2.1 j _ (List.getElem?_eq_getElem hj)).1, by rw [hgd j hj]; have := ps_enc_b (b := 256) (Or.inr rfl) (hok.1 _ (List.getElem_mem hj)).1; omega⟩)) ⟨Nat.le_refl _, Nat.le_refl _⟩ rfl rfl (Nat.le_of_ble_eq_true rfl) (fun rv D1 hp => ?_)
  obtain ⟨hD, b, bl, rfl, hLng⟩ := hp
  obtain rfl := hD.symm
  obtain ⟨hib, hso, htk⟩ := Lng_first hok hLch hL1 hcs hLng
  have hbl2 := ps_idx_lt hib
  obtain ⟨⟨e, he, hes⟩, -⟩ := ps_idx_some.mp hib
  have hev : D0 (t + 1) b = nI (ps_enc 256 (ps_first tb (l.drop a))) := by rw [← hes]; exact (hB.2.1 b e he).1
  have hb24 := ps_enc_b (Or.inr rfl) hso
  have hfl : (ps_first tb (l.drop a)).length ≤ l.length - a := by
    have := congrArg List.length htk
    rw [List.length_take, List.length_drop] at this
    omega
  have hs1' := hso.1
  refine EV.istore_n d_Km_takeEntry_12 (by decide) ?_
  refine EV.iload_n d_Km_takeEntry_13 rfl ?_
  refine EV.aload_n d_Km_takeEntry_14 rfl ?_
  refine EV.getR fl_Km_9 d_Km_takeEntry_15 (by first | assumption | rfl) rfl ?_
  refine EV.getR fl_Km_94 d_Km_takeEntry_18 (by first | assumption | rfl) rfl ?_
  refine EV.iload_n d_Km_takeEntry_21 rfl ?_
  refine EV.ialdN d_Km_takeEntry_22 (by first | assumption | rfl) rfl rfl (by omega) (by first | decide | omega) ?_
  refine EV.top hev ?_
  refine EV.T1 cs_Km_98 d_Km_takeEntry_23 (sp_To_lengthOf (by omega)) ⟨Nat.le_refl _, Nat.le_refl _⟩ rfl rfl (Nat.le_of_ble_eq_true rfl) (fun rv D1 hp => ?_)
  obtain ⟨rfl, hD⟩ := hp
  obtain rfl := hD.symm
  rw [ps_len_enc hso]
  refine EV.iadd d_Km_takeEntry_26 ?_
  refine EV.top (y := nI (a + (ps_first tb (l.drop a)).length)) (nI_add _ _) ?_
  refine EV.istore_n d_Km_takeEntry_27 (by decide) ?_
  refine EV.iconst (v := nI 0) d_Km_takeEntry_28 (by decide) ?_
  refine EV.istore d_Km_takeEntry_29 (by decide) ?_
  refine lp_Km_takeEntry31 hM hT hmt hB hok har hln hl hch ?_ (l.length - (a + (ps_first tb (l.drop a)).length)) b (a + (ps_first tb (l.drop a)).length) (ps_first tb (l.drop a)) [] D0 none (by omega) rfl (fun _ _ => rfl) hib hso (ar_nil _) (fun x hx => by cases hx) (by simp; omega) hA
  intro i p D v5 hF hi hso2 hP hps hdp hp1 hp2
  refine EV.aload_n d_Km_takeEntry_117 rfl ?_
  refine EV.iload_n d_Km_takeEntry_118 rfl ?_
  refine EV.V1 cv_Km_109 d_Km_takeEntry_119 (by first | assumption | rfl) (sp_Km_addEntry (sh := sh) (es := es) (tb := tb) (s := A.1) hM hT hmt (TBw_kept hB (fun j hj => hF (t + j) (by omega))) (WE_kept hE (by rw [hF m (by omega)]) (fun j h4 h7 => hF (m + j) (by omega))) (by omega) (by rw [hF m (by omega)]; exact hsh) hi hso2 hok.2.1) ⟨Nat.le_refl _, Nat.le_refl _⟩ rfl rfl (Nat.le_of_ble_eq_true rfl) (fun rv D1 hp => ?_)
  obtain ⟨rfl, q1, q2, q3, q4⟩ := hp
  refine EV.iconst (v := nI 0) d_Km_takeEntry_122 (by decide) ?_
  refine EV.istore d_Km_takeEntry_123 (by decide) ?_
  refine EV.post (fun rv D' h => ⟨p, h.1, by omega, hp1, hdp, fun k k0 k2 k4 k5 k6 k7 => ((h.2.1 k k0 k4 k5 k6 k7).trans (q1 k k0 k4 k5 k6 k7)).trans (hF k k2), fun j j5 j6 => ((h.2.2.1 j j5).trans (q2 j j5 j6)).trans (by rw [hF m (by omega)]), (h.2.2.1 6 (by decide)).trans q3, ?_, by omega⟩) (lp_Km_takeEntry125 (d := d + 1) (es := es ++ [el_e tb sh A.1]) (sh := sh) (v := ps_isv A.1) (ps := A.2.1) hM (by rw [q1 (m + 2) (by omega) (by omega) (by omega) (by omega) (by omega)]; exact hP) (by rw [List.length_append, List.length_singleton]; omega) hps (by rw [q2 8 (by decide) (by decide), hF m (by omega)]; exact hsh) q3 A.2.1.length 0 D1 (by omega) rfl (fun _ _ _ _ _ _ => rfl) (fun _ _ => rfl) (by rw [List.take_zero, show el_ms sh (ps_isv A.1) [] = [] from by simp [el_ms], List.append_nil]; exact q4))
  have := h.2.2.2
  rw [List.append_assoc] at this
  exact this
end
section
theorem ps_row_len (bw : Bool) (es : List ps_E) (k : Nat) : (ps_row bw es k).length ≤ es.length + 1 := by
  unfold ps_row
  rw [List.length_append, List.length_singleton]
  have := List.length_filter_le (fun w => decide (w ≠ 0)) ((if (bw && decide (k = 1)) = true then es.reverse else es).map (fun e => ps_lv e k))
  rw [List.length_map] at this
  have h2 : (if (bw && decide (k = 1)) = true then es.reverse else es).length = es.length := by split <;> simp
  omega
theorem ps_key_len (bw : Bool) (es : List ps_E) : ∀ n, (ps_key bw es n).length ≤ n * (es.length + 1) := by
  intro n
  induction n with
  | zero => simp [ps_key]
  | succ n ih =>
    have := ps_row_len bw es n
    rw [ps_key, List.length_append, Nat.succ_mul]
    omega
/-- a text's key -/
def ps_kt (tb : ps_T) (sh bw : Bool) (str : Nat) (xs : List Nat) : List Nat := ps_key bw (ps_els tb sh xs.length false (ps_arr xs)) str
theorem ps_els_len (tb : ps_T) (sh : Bool) : ∀ (n : Nat) (v : Bool) (l : List Nat), (∀ c ∈ l, ps_mark c = false → 1 ≤ (ps_first tb (c :: [])).length) → True := fun _ _ _ _ => trivial
set_option maxHeartbeats 4000000 in
set_option maxRecDepth 100000 in
theorem lp_Km_findElements {G : mx_G} {d : Nat} {S : List mx_Sh} {D0 : mx_Mem} {m t : Nat} {tb : ps_T} {sh : Bool} {l : List Nat} {E : List ps_E} (hM : ShM S m t) (hT : ShT S t) (hmt : t + 5 < m ∨ m + 7 < t) (hB : TBw D0 t tb) (hok : ps_ok tb) (har : ar (D0 (m + 1)) l) (hln : D0 m 4 = nI l.length) (hl : l.length ≤ 12) (hch : ∀ c ∈ l, 0 < c ∧ c < 128) (hsg : ∀ c ∈ l, ps_mark c = false → ps_has tb [c]) (hsh : D0 m 8 = bI sh) : ∀ (n a u : Nat) (v : Bool) (es : List ps_E) (D : mx_Mem), a ≤ l.length → u ≤ a → l.length - a ≤ n → FrT m D0 D → (∀ j, ¬ j = 5 → ¬ j = 6 → D m j = D0 m j) → D m 6 = bI v → WE D m es → es.length ≤ a → es ++ ps_els tb sh n v (l.drop a) = E → EV G (d + 4) m_Km_findElements 14 [some (.ref m), some (.int (nI a)), some (.int (nI u))] [] S D S (fun rv D' => rv = none ∧ FrT m D0 D' ∧ (∀ j, ¬ j = 5 → ¬ j = 6 → D' m j = D0 m j) ∧ WE D' m E ∧ E.length ≤ 12) := by
  obtain ⟨hm0, hm1, hm2, hm3, hm4, hm5, hm6, hm7⟩ := id hM
  obtain ⟨hs0, hs1, hs2, hs3, hs4, hs5⟩ := id hT
  intro n
  induction n with
  | zero =>
    intro a u v es D h1 h2 h3 hF hJ hv hE hcap hEE
    have hln2 : D m 4 = nI l.length := by rw [hJ 4 (by decide) (by decide)]; exact hln
    simp only [ps_els, List.append_nil] at hEE
    subst hEE
    refine EV.iload_n d_Km_findElements_14 rfl ?_
    refine EV.aload_n d_Km_findElements_15 rfl ?_
    refine EV.getI fl_Km_57 d_Km_findElements_16 (by first | assumption | rfl) rfl ?_
    refine EV.icmp_geN (tgt := 70) d_Km_findElements_19 (by decide) rfl hln2 (by omega) (by omega) (fun h19 => ?_) (fun h19 => ?_)
    · exact EV.return_ d_Km_findElements_70 rfl ⟨rfl, hF, hJ, hE, by omega⟩
    · refine EV.iload_n d_Km_findElements_22 rfl ?_
      refine EV.aload_n d_Km_findElements_23 rfl ?_
      refine EV.getI fl_Km_57 d_Km_findElements_24 (by first | assumption | rfl) rfl ?_
      refine EV.icmp_geN (tgt := 70) d_Km_findElements_27 (by decide) rfl hln2 (by omega) (by omega) (fun h27 => ?_) (fun h27 => ?_)
      · exact EV.return_ d_Km_findElements_70 rfl ⟨rfl, hF, hJ, hE, by omega⟩
      · exfalso
        omega
  | succ n ih =>
    intro a u v es D h1 h2 h3 hF hJ hv hE hcap hEE
    have hln2 : D m 4 = nI l.length := by rw [hJ 4 (by decide) (by decide)]; exact hln
    refine EV.iload_n d_Km_findElements_14 rfl ?_
    refine EV.aload_n d_Km_findElements_15 rfl ?_
    refine EV.getI fl_Km_57 d_Km_findElements_16 (by first | assumption | rfl) rfl ?_
    refine EV.icmp_geN (tgt := 70) d_Km_findElements_19 (by decide) rfl hln2 (by omega) (by omega) (fun h19 => ?_) (fun h19 => ?_)
    · have e0 : l.drop a = [] := List.drop_of_length_le (by omega)
      rw [e0] at hEE
      simp only [ps_els, List.append_nil] at hEE
      subst hEE
      exact EV.return_ d_Km_findElements_70 rfl ⟨rfl, hF, hJ, hE, by omega⟩
    · refine EV.iload_n d_Km_findElements_22 rfl ?_
      refine EV.aload_n d_Km_findElements_23 rfl ?_
      refine EV.getI fl_Km_57 d_Km_findElements_24 (by first | assumption | rfl) rfl ?_
      refine EV.icmp_geN (tgt := 70) d_Km_findElements_27 (by decide) rfl hln2 (by omega) (by omega) (fun h27 => ?_) (fun h27 => ?_)
      · have e0 : l.drop a = [] := List.drop_of_length_le (by omega)
        rw [e0] at hEE
        simp only [ps_els, List.append_nil] at hEE
        subst hEE
        exact EV.return_ d_Km_findElements_70 rfl ⟨rfl, hF, hJ, hE, by omega⟩
      · obtain ⟨c, hc⟩ : ∃ c, l[a]? = some c := ⟨l[a]'(by omega), List.getElem?_eq_getElem (by omega)⟩
        have hcc := hch c (List.mem_of_getElem? hc)
        have hcv : D (m + 1) a = nI c := by rw [hF (m + 1) (by omega) (by omega) (by omega) (by omega) (by omega) (by omega)]; exact har a c hc
        have hdr : l.drop a = c :: l.drop (a + 1) := by rw [List.drop_eq_getElem_cons (by omega), (List.getElem?_eq_some_iff.mp hc).2]
        have hB2 : TBw D t tb := TBw_kept hB (fun j hj => hF (t + j) (by omega) (by omega) (by omega) (by omega) (by omega) (by omega))
        have hsh2 : D m 8 = bI sh := by rw [hJ 8 (by decide) (by decide)]; exact hsh
        refine EV.aload_n d_Km_findElements_30 rfl ?_
        refine EV.getR fl_Km_15 d_Km_findElements_31 (by first | assumption | rfl) rfl ?_
        refine EV.iload_n d_Km_findElements_34 rfl ?_
        refine EV.caldN d_Km_findElements_35 (by first | assumption | rfl) rfl rfl (by omega) (by first | decide | omega) ?_
        refine EV.top hcv ?_
        refine EV.T1 cs_Km_65 d_Km_findElements_36 (sp_To_isMark (by omega)) ⟨Nat.le_refl _, Nat.le_refl _⟩ rfl rfl (Nat.le_of_ble_eq_true rfl) (fun rv D1 hp => ?_)
        obtain ⟨rfl, hD⟩ := hp
        obtain rfl := hD.symm
        refine EV.if_eqB (tgt := 58) d_Km_findElements_39 (by decide) (fun h39 => ?_) (fun h39 => ?_)
        · obtain ⟨A, hA⟩ : ∃ A, ps_abs tb (ps_first tb (l.drop a)) [] (l.drop (a + (ps_first tb (l.drop a)).length)) = A := ⟨_, rfl⟩
          refine EV.aload_n d_Km_findElements_58 rfl ?_
          refine EV.iload_n d_Km_findElements_59 rfl ?_
          refine EV.V1 cv_Km_83 d_Km_findElements_60 (by first | assumption | rfl) (sp_Km_takeEntry (sh := sh) (es := es) hM hT hmt hB2 hok (by rw [hF (m + 1) (by omega) (by omega) (by omega) (by omega) (by omega) (by omega)]; exact har) hln2 hl hch hE hsh2 hc (hsg c (List.mem_of_getElem? hc) h39) (by omega) hA) ⟨Nat.le_refl _, Nat.le_refl _⟩ rfl rfl (Nat.le_of_ble_eq_true rfl) (fun rv D1 hp => ?_)
          obtain ⟨p, rfl, hp1, hp2, hdp, q1, q2, q3, q4, hp3⟩ := hp
          refine EV.istore_n d_Km_findElements_63 (by decide) ?_
          refine EV.iincN d_Km_findElements_64 rfl (by decide) ?_
          refine EV.goto (tgt := 14) d_Km_findElements_67 (by decide) ?_
          refine ih p (u + 1) (ps_isv A.1) _ D1 hp2 (by omega) (by omega) (fun k k0 k2 k4 k5 k6 k7 => (q1 k k0 k2 k4 k5 k6 k7).trans (hF k k0 k2 k4 k5 k6 k7)) (fun j j5 j6 => (q2 j j5 j6).trans (hJ j j5 j6)) q3 q4 (by have := el_ms_len sh (ps_isv A.1) A.2.1; rw [List.length_append, List.length_cons]; omega) ?_
          rw [← hEE, hdr]
          simp only [ps_els]
          rw [if_neg (by simp [h39]), ← hdr, List.drop_drop, hA, hdp]
          simp
        · refine EV.aload_n d_Km_findElements_42 rfl ?_
          refine EV.aload_n d_Km_findElements_43 rfl ?_
          refine EV.getR fl_Km_15 d_Km_findElements_44 (by first | assumption | rfl) rfl ?_
          refine EV.iload_n d_Km_findElements_47 rfl ?_
          refine EV.caldN d_Km_findElements_48 (by first | assumption | rfl) rfl rfl (by omega) (by first | decide | omega) ?_
          refine EV.top hcv ?_
          refine EV.V1 cv_Km_79 d_Km_findElements_49 (by first | assumption | rfl) (sp_Km_addMark (sh := sh) (v := v) hM hE (by omega) hsh2 hv (by have := ps_mark_c h39; omega)) ⟨Nat.le_refl _, Nat.le_refl _⟩ rfl rfl (Nat.le_of_ble_eq_true rfl) (fun rv D1 hp => ?_)
          obtain ⟨rfl, q1, q2, q3⟩ := hp
          refine EV.iincN d_Km_findElements_52 rfl (by decide) ?_
          refine EV.goto (tgt := 64) d_Km_findElements_55 (by decide) ?_
          refine EV.iincN d_Km_findElements_64 rfl (by decide) ?_
          refine EV.goto (tgt := 14) d_Km_findElements_67 (by decide) ?_
          refine ih (a + 1) (u + 1) v (es ++ el_ms sh v [c]) D1 (by omega) (by omega) (by omega) (fun k k0 k2 k4 k5 k6 k7 => (q1 k k0 k4 k5 k6 k7).trans (hF k k0 k2 k4 k5 k6 k7)) (fun j j5 j6 => (q2 j j5).trans (hJ j j5 j6)) ((q2 6 (by decide)).trans hv) q3 (by have := el_ms_len sh v [c]; rw [List.length_append]; simp at this; omega) ?_
          rw [← hEE, hdr]
          simp only [ps_els]
          rw [if_pos h39, List.append_assoc]
set_option maxHeartbeats 4000000 in
set_option maxRecDepth 100000 in
theorem sp_Km_findElements {G : mx_G} {d : Nat} {S : List mx_Sh} {D0 : mx_Mem} {m t : Nat} {tb : ps_T} {sh : Bool} {l : List Nat} (hM : ShM S m t) (hT : ShT S t) (hmt : t + 5 < m ∨ m + 7 < t) (hB : TBw D0 t tb) (hok : ps_ok tb) (har : ar (D0 (m + 1)) l) (hln : D0 m 4 = nI l.length) (hl : l.length ≤ 12) (hch : ∀ c ∈ l, 0 < c ∧ c < 128) (hsg : ∀ c ∈ l, ps_mark c = false → ps_has tb [c]) (hsh : D0 m 8 = bI sh) : EV G (d + 4) m_Km_findElements 0 (mx_lc0 m_Km_findElements [.ref m]) [] S D0 S (fun rv D' => rv = none ∧ FrT m D0 D' ∧ (∀ j, ¬ j = 5 → ¬ j = 6 → D' m j = D0 m j) ∧ WE D' m (ps_els tb sh l.length false l) ∧ (ps_els tb sh l.length false l).length ≤ 12) := by
  obtain ⟨hm0, hm1, hm2, hm3, hm4, hm5, hm6, hm7⟩ := id hM
  obtain ⟨hs0, hs1, hs2, hs3, hs4, hs5⟩ := id hT
  show EV _ _ _ _ [some (.ref m), none, none] [] _ _ _ _
  refine EV.aload_n d_Km_findElements_0 rfl ?_
  refine EV.iconst (v := nI 0) d_Km_findElements_1 (by decide) ?_
  refine EV.putI fl_Km_73 d_Km_findElements_2 (by first | assumption | rfl) rfl rfl rfl ?_
  refine EV.aload_n d_Km_findElements_5 rfl ?_
  refine EV.iconst (v := nI 0) d_Km_findElements_6 (by decide) ?_
  refine EV.putI fl_Km_76 d_Km_findElements_7 (by first | assumption | rfl) rfl (by decide) (by decide) ?_
  refine EV.iconst (v := nI 0) d_Km_findElements_10 (by decide) ?_
  refine EV.istore_n d_Km_findElements_11 (by decide) ?_
  refine EV.iconst (v := nI 0) d_Km_findElements_12 (by decide) ?_
  refine EV.istore_n d_Km_findElements_13 (by decide) ?_
  refine EV.post (fun rv D' h => ⟨h.1, fun k k0 k2 k4 k5 k6 k7 => (h.2.1 k k0 k2 k4 k5 k6 k7).trans (by simp [mx_w, va_up, k0]), fun j j5 j6 => (h.2.2.1 j j5 j6).trans (by simp [mx_w, va_up, upd, j5, j6]), h.2.2.2⟩) (lp_Km_findElements (tb := tb) (sh := sh) (l := l) (E := ps_els tb sh l.length false l) hM hT hmt (TBw_kept hB (fun j hj => by simp [mx_w, va_up, show ¬ t + j = m by omega])) hok (by simp [mx_w, va_up]; exact har) (by simp [mx_w, va_up, upd]; exact hln) hl hch hsg (by simp [mx_w, va_up, upd]; exact hsh) l.length 0 0 false [] _ (by omega) (by omega) (by omega) (fun _ _ _ _ _ _ _ => rfl) (fun _ _ _ => rfl) (by simp [mx_w, va_up, upd]; rfl) ⟨by simp [mx_w, va_up, upd], fun i e he => by simp at he⟩ (by simp) (by simp))
theorem ShM_row {S : List mx_Sh} {m t lv : Nat} (h : ShM S m t) (hl : lv < 4) : ([some (m + 4), some (m + 5), some (m + 6), some (m + 7)] : List (Option Nat))[lv]? = some (some (m + 4 + lv)) ∧ S[m + 4 + lv]? = some (.inr (.inl (0, 12))) := by
  obtain ⟨hm0, hm1, hm2, hm3, hm4, hm5, hm6, hm7⟩ := h
  match lv, hl with
  | 0, _ => exact ⟨rfl, hm4⟩
  | 1, _ => exact ⟨rfl, hm5⟩
  | 2, _ => exact ⟨rfl, hm6⟩
  | 3, _ => exact ⟨rfl, hm7⟩
theorem WE_row {D : mx_Mem} {m lv i : Nat} {es : List ps_E} {e : ps_E} (h : WE D m es) (hl : lv < 4) (he : es[i]? = some e) : D (m + 4 + lv) i = nI (ps_lv e lv) := by
  obtain ⟨h1, h2, h3, h4⟩ := h.2 i e he
  match lv, hl with
  | 0, _ => exact h1
  | 1, _ => exact h2
  | 2, _ => exact h3
  | 3, _ => exact h4
def ps_zs (lf : Bool) (es : List ps_E) : List ps_E := if lf = true then es.reverse else es
theorem ps_zs_at {lf : Bool} {es : List ps_E} {i : Nat} (hi : i < es.length) : (ps_zs lf es)[i]? = es[if lf = true then es.length - 1 - i else i]? := by
  unfold ps_zs
  cases lf
  · rfl
  · simp only [if_true]
    rw [List.getElem?_reverse hi]
theorem ps_zs_len (lf : Bool) (es : List ps_E) : (ps_zs lf es).length = es.length := by unfold ps_zs; split <;> simp
set_option maxHeartbeats 4000000 in
set_option maxRecDepth 100000 in
theorem lp_Km_writeLevel {G : mx_G} {d : Nat} {S : List mx_Sh} {D0 : mx_Mem} {m t k lv : Nat} {lf : Bool} {es : List ps_E} {ys : List Nat} (hM : ShM S m t) (hK : ShK S k) (hmk : k + 1 < m ∨ m + 7 < k) (hE : WE D0 m es) (hel : es.length ≤ 12) (hlv : lv < 4) (hw : ∀ e ∈ es, ps_lv e lv < 2 ^ 31) (hcap : ys.length + es.length + 1 ≤ 52) : ∀ (n i : Nat) (D : mx_Mem) (v5 : Option Value), i ≤ es.length → es.length - i = n → (∀ q, ¬ q = k → ¬ q = k + 1 → D q = D0 q) → LN D k (ys ++ (((ps_zs lf es).take i).map (fun e => ps_lv e lv)).filter (fun w => decide (w ≠ 0))) → EV G (d + 1) m_Km_writeLevel 21 [some (.ref m), some (.int (nI lv)), some (.ref k), some (.int (bI lf)), some (.int (nI i)), v5] [] S D S (fun rv D' => rv = none ∧ (∀ q, ¬ q = k → ¬ q = k + 1 → D' q = D0 q) ∧ LN D' k (ys ++ (((ps_zs lf es).map (fun e => ps_lv e lv)).filter (fun w => decide (w ≠ 0)) ++ [0]))) := by
  obtain ⟨hm0, hm1, hm2, hm3, hm4, hm5, hm6, hm7⟩ := id hM
  obtain ⟨hk0, hk1⟩ := id hK
  obtain ⟨hrow1, hrow2⟩ := ShM_row hM hlv
  have hzl := ps_zs_len lf es
  intro n
  induction n with
  | zero =>
    intro i D v5 h1 h2 hF hL
    have hel2 : D m 5 = nI es.length := by rw [hF m (by omega) (by omega)]; exact hE.1
    have hfl := List.length_filter_le (fun w => decide (w ≠ 0)) (((ps_zs lf es).take i).map (fun e => ps_lv e lv))
    rw [List.length_map, List.length_take] at hfl
    refine EV.iload d_Km_writeLevel_21 rfl ?_
    refine EV.aload_n d_Km_writeLevel_23 rfl ?_
    refine EV.getI fl_Km_73 d_Km_writeLevel_24 (by first | assumption | rfl) rfl ?_
    refine EV.icmp_geN (tgt := 74) d_Km_writeLevel_27 (by decide) rfl hel2 (by omega) (by omega) (fun h27 => ?_) (fun h27 => ?_)
    · refine EV.aload_n d_Km_writeLevel_74 rfl ?_
      refine EV.iconst (v := nI 0) d_Km_writeLevel_75 (by decide) ?_
      refine EV.V1 cv_Km_136 d_Km_writeLevel_76 (by first | assumption | rfl) (sp_Ke_add (c := 0) hK hL (by rw [List.length_append]; omega)) ⟨Nat.le_refl _, Nat.le_refl _⟩ rfl rfl (Nat.le_of_ble_eq_true rfl) (fun rv D1 hp => ?_)
      obtain ⟨rfl, q1, q2⟩ := hp
      exact EV.return_ d_Km_writeLevel_79 rfl ⟨rfl, fun q a b => (q1 q a b).trans (hF q a b), by rw [List.take_of_length_le (by omega), List.append_assoc] at q2; exact q2⟩
    · exfalso
      omega
  | succ n ih =>
    intro i D v5 h1 h2 hF hL
    have hel2 : D m 5 = nI es.length := by rw [hF m (by omega) (by omega)]; exact hE.1
    have hfl := List.length_filter_le (fun w => decide (w ≠ 0)) (((ps_zs lf es).take i).map (fun e => ps_lv e lv))
    rw [List.length_map, List.length_take] at hfl
    obtain ⟨e, he⟩ : ∃ e, (ps_zs lf es)[i]? = some e := ⟨(ps_zs lf es)[i]'(by omega), List.getElem?_eq_getElem (by omega)⟩
    have he2 := he
    rw [ps_zs_at (by omega)] at he2
    have hwv : D (m + 4 + lv) (if lf = true then es.length - 1 - i else i) = nI (ps_lv e lv) := by rw [hF (m + 4 + lv) (by omega) (by omega)]; exact WE_row hE hlv he2
    have hwl := hw e (List.mem_of_getElem? he2)
    have hjl : (if lf = true then es.length - 1 - i else i) < 12 := by have := (List.getElem?_eq_some_iff.mp he2).1; omega
    have htk : ((ps_zs lf es).take (i + 1)).map (fun e => ps_lv e lv) = ((ps_zs lf es).take i).map (fun e => ps_lv e lv) ++ [ps_lv e lv] := by rw [List.take_add_one, he]; simp
    generalize hjj : (if lf = true then es.length - 1 - i else i) = jj at hwv hjl
    have K : EV G (d + 1) m_Km_writeLevel 54 [some (.ref m), some (.int (nI lv)), some (.ref k), some (.int (bI lf)), some (.int (nI i)), v5] [.int (nI jj), .ref (m + 4 + lv)] S D S (fun rv D' => rv = none ∧ (∀ q, ¬ q = k → ¬ q = k + 1 → D' q = D0 q) ∧ LN D' k (ys ++ (((ps_zs lf es).map (fun e => ps_lv e lv)).filter (fun w => decide (w ≠ 0)) ++ [0]))) := by
      refine EV.ialdN d_Km_writeLevel_54 (by first | assumption | rfl) rfl rfl (by omega) (by first | decide | omega) ?_
      refine EV.top hwv ?_
      refine EV.istore d_Km_writeLevel_55 (by decide) ?_
      refine EV.iload d_Km_writeLevel_57 rfl ?_
      refine EV.if_eqN (tgt := 68) d_Km_writeLevel_59 (by decide) rfl (by omega) (fun h59 => ?_) (fun h59 => ?_)
      · refine EV.iincN d_Km_writeLevel_68 rfl (by decide) ?_
        refine EV.goto (tgt := 21) d_Km_writeLevel_71 (by decide) ?_
        first
        | (refine ih (i + 1) D1 _ (by omega) (by omega) (fun q a b => (q1 q a b).trans (hF q a b)) ?_
           rw [htk, List.filter_append, ← List.append_assoc, List.filter_cons_of_pos (by simpa using h59)]
           exact q2)
        | (refine ih (i + 1) D _ (by omega) (by omega) hF ?_
           rw [htk, List.filter_append, ← List.append_assoc, List.filter_cons_of_neg (by simpa using h59)]
           simpa using hL)
      · refine EV.aload_n d_Km_writeLevel_62 rfl ?_
        refine EV.iload d_Km_writeLevel_63 rfl ?_
        refine EV.V1 cv_Km_136 d_Km_writeLevel_65 (by first | assumption | rfl) (sp_Ke_add hK hL (by rw [List.length_append]; omega)) ⟨Nat.le_refl _, Nat.le_refl _⟩ rfl rfl (Nat.le_of_ble_eq_true rfl) (fun rv D1 hp => ?_)
        obtain ⟨rfl, q1, q2⟩ := hp
        refine EV.iincN d_Km_writeLevel_68 rfl (by decide) ?_
        refine EV.goto (tgt := 21) d_Km_writeLevel_71 (by decide) ?_
        first
        | (refine ih (i + 1) D1 _ (by omega) (by omega) (fun q a b => (q1 q a b).trans (hF q a b)) ?_
           rw [htk, List.filter_append, ← List.append_assoc, List.filter_cons_of_pos (by simpa using h59)]
           exact q2)
        | (refine ih (i + 1) D _ (by omega) (by omega) hF ?_
           rw [htk, List.filter_append, ← List.append_assoc, List.filter_cons_of_neg (by simpa using h59)]
           simpa using hL)
    refine EV.iload d_Km_writeLevel_21 rfl ?_
    refine EV.aload_n d_Km_writeLevel_23 rfl ?_
    refine EV.getI fl_Km_73 d_Km_writeLevel_24 (by first | assumption | rfl) rfl ?_
    refine EV.icmp_geN (tgt := 74) d_Km_writeLevel_27 (by decide) rfl hel2 (by omega) (by omega) (fun h27 => ?_) (fun h27 => ?_)
    · exfalso
      omega
    · refine EV.aload_n d_Km_writeLevel_30 rfl ?_
      refine EV.getR fl_Km_24 d_Km_writeLevel_31 (by first | assumption | rfl) rfl ?_
      refine EV.iload_n d_Km_writeLevel_34 rfl ?_
      refine EV.aaldN d_Km_writeLevel_35 (by first | assumption | rfl) rfl rfl rfl (by omega) hrow1 ?_
      refine EV.iload_n d_Km_writeLevel_36 rfl ?_
      refine EV.if_eqB (tgt := 52) d_Km_writeLevel_37 (by decide) (fun h37 => ?_) (fun h37 => ?_)
      · rw [h37] at hjj
        have ej : i = jj := by simpa using hjj
        rw [← ej] at K
        refine EV.iload d_Km_writeLevel_52 rfl ?_
        exact K
      · rw [h37] at hjj
        have ej : es.length - 1 - i = jj := by simpa using hjj
        rw [← ej] at K
        refine EV.aload_n d_Km_writeLevel_40 rfl ?_
        refine EV.getI fl_Km_73 d_Km_writeLevel_41 (by first | assumption | rfl) rfl ?_
        refine EV.top hel2 ?_
        refine EV.iconst (v := nI 1) d_Km_writeLevel_44 (by decide) ?_
        refine EV.isub d_Km_writeLevel_45 ?_
        refine EV.iload d_Km_writeLevel_46 rfl ?_
        refine EV.isub d_Km_writeLevel_48 ?_
        refine EV.top (y := nI (es.length - 1 - i)) (by rw [pk_sub (by omega)]; exact pk_sub (by omega)) ?_
        refine EV.goto (tgt := 54) d_Km_writeLevel_49 (by decide) ?_
        exact K
set_option maxHeartbeats 4000000 in
set_option maxRecDepth 100000 in
theorem sp_Km_writeLevel {G : mx_G} {d : Nat} {S : List mx_Sh} {D0 : mx_Mem} {m t k lv : Nat} {bw : Bool} {es : List ps_E} {ys : List Nat} (hM : ShM S m t) (hK : ShK S k) (hmk : k + 1 < m ∨ m + 7 < k) (hE : WE D0 m es) (hel : es.length ≤ 12) (hlv : lv < 4) (hw : ∀ e ∈ es, ps_lv e lv < 2 ^ 31) (hcap : ys.length + es.length + 1 ≤ 52) (hbw : D0 m 9 = bI bw) (hL : LN D0 k ys) : EV G (d + 1) m_Km_writeLevel 0 (mx_lc0 m_Km_writeLevel [.ref m, .int (nI lv), .ref k]) [] S D0 S (fun rv D' => rv = none ∧ (∀ q, ¬ q = k → ¬ q = k + 1 → D' q = D0 q) ∧ LN D' k (ys ++ ps_row bw es lv)) := by
  obtain ⟨hm0, hm1, hm2, hm3, hm4, hm5, hm6, hm7⟩ := id hM
  obtain ⟨hk0, hk1⟩ := id hK
  show EV _ _ _ _ [some (.ref m), some (.int (nI lv)), some (.ref k), none, none, none] [] _ _ _ _
  refine EV.aload_n d_Km_writeLevel_0 rfl ?_
  refine EV.getI fl_Km_35 d_Km_writeLevel_1 (by first | assumption | rfl) rfl ?_
  refine EV.top hbw ?_
  refine EV.if_eqB (tgt := 16) d_Km_writeLevel_4 (by decide) (fun h4 => ?_) (fun h4 => ?_)
  · have elf : (bw && decide (lv = 1)) = false := by simp [h4]
    have K := lp_Km_writeLevel (G := G) (d := d) (lf := bw && decide (lv = 1)) (ys := ys) hM hK hmk hE hel hlv hw hcap es.length 0 D0 none (by omega) rfl (fun _ _ _ => rfl) (by simpa using hL)
    rw [bI_f elf] at K
    refine EV.iconst (v := nI 0) d_Km_writeLevel_16 (by decide) ?_
    refine EV.istore_n d_Km_writeLevel_17 (by decide) ?_
    refine EV.iconst (v := nI 0) d_Km_writeLevel_18 (by decide) ?_
    refine EV.istore d_Km_writeLevel_19 (by decide) ?_
    exact K
  refine EV.iload_n d_Km_writeLevel_7 rfl ?_
  refine EV.iconst (v := nI 1) d_Km_writeLevel_8 (by decide) ?_
  refine EV.icmp_neN (tgt := 16) d_Km_writeLevel_9 (by decide) rfl rfl (by omega) (by omega) (fun h9 => ?_) (fun h9 => ?_)
  · have elf : (bw && decide (lv = 1)) = false := by simp [h9]
    have K := lp_Km_writeLevel (G := G) (d := d) (lf := bw && decide (lv = 1)) (ys := ys) hM hK hmk hE hel hlv hw hcap es.length 0 D0 none (by omega) rfl (fun _ _ _ => rfl) (by simpa using hL)
    rw [bI_f elf] at K
    refine EV.iconst (v := nI 0) d_Km_writeLevel_16 (by decide) ?_
    refine EV.istore_n d_Km_writeLevel_17 (by decide) ?_
    refine EV.iconst (v := nI 0) d_Km_writeLevel_18 (by decide) ?_
    refine EV.istore d_Km_writeLevel_19 (by decide) ?_
    exact K
  · have elf : (bw && decide (lv = 1)) = true := by simp [h4, h9]
    have K := lp_Km_writeLevel (G := G) (d := d) (lf := bw && decide (lv = 1)) (ys := ys) hM hK hmk hE hel hlv hw hcap es.length 0 D0 none (by omega) rfl (fun _ _ _ => rfl) (by simpa using hL)
    rw [bI_t elf] at K
    refine EV.iconst (v := nI 1) d_Km_writeLevel_12 (by decide) ?_
    refine EV.goto (tgt := 17) d_Km_writeLevel_13 (by decide) ?_
    refine EV.istore_n d_Km_writeLevel_17 (by decide) ?_
    refine EV.iconst (v := nI 0) d_Km_writeLevel_18 (by decide) ?_
    refine EV.istore d_Km_writeLevel_19 (by decide) ?_
    exact K
end
section
theorem ps_abs_sub (tb : ps_T) : ∀ (r s ps : List Nat), (∀ x ∈ (ps_abs tb s ps r).2.1, x ∈ ps ∨ x ∈ r) ∧ ∀ x ∈ (ps_abs tb s ps r).2.2, x ∈ r := by
  intro r
  induction r with
  | nil => intro s ps; exact ⟨fun x hx => Or.inl hx, fun x hx => hx⟩
  | cons m r ih =>
    intro s ps
    simp only [ps_abs]
    split
    · split
      · obtain ⟨h1, h2⟩ := ih (s ++ [m]) ps
        exact ⟨fun x hx => (h1 x hx).imp id (List.mem_cons_of_mem _), fun x hx => List.mem_cons_of_mem _ (h2 x hx)⟩
      · obtain ⟨h1, h2⟩ := ih s (ps ++ [m])
        refine ⟨fun x hx => ?_, fun x hx => List.mem_cons_of_mem _ (h2 x hx)⟩
        rcases h1 x hx with h | h
        · rcases List.mem_append.mp h with h | h
          · exact Or.inl h
          · simp at h; subst h; exact Or.inr List.mem_cons_self
        · exact Or.inr (List.mem_cons_of_mem _ h)
    · exact ⟨fun x hx => Or.inl hx, fun x hx => hx⟩
theorem ps_wof_le {tb : ps_T} (h : tb.length ≤ 30) (s : List Nat) : (ps_wof tb s).1 ≤ 32 ∧ (ps_wof tb s).2.1 ≤ 32 ∧ (ps_wof tb s).2.2 ≤ 32 := by
  unfold ps_wof
  have h1 := ps_wt_le (ps_stp tb) ((ps_idx tb s).getD 0 + 1)
  have h2 : (ps_idx tb s).getD 0 ≤ 30 := by
    cases q : ps_idx tb s with
    | none => simp
    | some i => have := ps_idx_lt q; simp; omega
  omega
theorem el_ms_lv {sh v : Bool} {ps : List Nat} (h : ∀ c ∈ ps, c < 128) {e : ps_E} (he : e ∈ el_ms sh v ps) (k : Nat) : ps_lv e k < 2000 := by
  unfold el_ms at he
  split at he
  · cases he
  · obtain ⟨c, hc, rfl⟩ := List.mem_map.mp he
    have := h c hc
    unfold el_m ps_lv
    split <;> simp <;> omega
theorem ps_els_lv {tb : ps_T} (h30 : tb.length ≤ 30) (sh : Bool) : ∀ (n : Nat) (v : Bool) (l : List Nat), (∀ c ∈ l, c < 128) → ∀ e ∈ ps_els tb sh n v l, ∀ k, ps_lv e k < 2000 := by
  intro n
  induction n with
  | zero => intro v l _ e he; cases he
  | succ n ih =>
    intro v l hl e he k
    cases l with
    | nil => cases he
    | cons c r =>
      simp only [ps_els] at he
      split at he
      · rcases List.mem_append.mp he with he | he
        · exact el_ms_lv (fun x hx => by simp at hx; subst hx; exact hl x List.mem_cons_self) he k
        · exact ih v r (fun x hx => hl x (List.mem_cons_of_mem _ hx)) e he k
      · have hs := ps_abs_sub tb ((c :: r).drop (ps_first tb (c :: r)).length) (ps_first tb (c :: r)) []
        generalize ps_abs tb (ps_first tb (c :: r)) [] ((c :: r).drop (ps_first tb (c :: r)).length) = A at he hs
        rcases List.mem_cons.mp he with rfl | he
        · have := ps_wof_le h30 A.1
          unfold el_e
          split
          · unfold ps_lv; split <;> simp <;> omega
          · unfold ps_lv
            split <;> simp <;> first | omega | (split <;> omega)
        · rcases List.mem_append.mp he with he | he
          · exact el_ms_lv (fun x hx => by
              rcases hs.1 x hx with h | h
              · cases h
              · exact hl x (List.mem_of_mem_drop h)) he k
          · exact ih _ _ (fun x hx => hl x (List.mem_of_mem_drop (hs.2 x hx))) e he k
theorem ps_key_lt {bw : Bool} {es : List ps_E} (h : ∀ e ∈ es, ∀ k, ps_lv e k < 2000) : ∀ n, ∀ w ∈ ps_key bw es n, w < 2000 := by
  intro n
  induction n with
  | zero => intro w hw; cases hw
  | succ n ih =>
    intro w hw
    rw [ps_key] at hw
    rcases List.mem_append.mp hw with hw | hw
    · exact ih w hw
    · unfold ps_row at hw
      rcases List.mem_append.mp hw with hw | hw
      · obtain ⟨e, he, rfl⟩ := List.mem_map.mp (List.mem_filter.mp hw).1
        refine h e ?_ n
        split at he
        · exact List.mem_reverse.mp he
        · exact he
      · simp at hw; omega
/-- which cells the making of a key may change -/
def FrK (m k : Nat) (D D' : mx_Mem) : Prop := ∀ q, (q < m ∨ m + 7 < q) → ¬ q = k → ¬ q = k + 1 → D' q = D q
/-- a text that can be typed -/
def ps_tx (tb : ps_T) (xs : List Nat) : Prop := xs.length ≤ 12 ∧ (∀ c ∈ xs, 0 < c ∧ c < 128) ∧ ∀ c ∈ xs, ps_mark c = false → ps_has tb [c]
def ShF (S : List mx_Sh) (f : Nat) : Prop := S[f]? = some (.inl (0, [some (some (f + 1)), some (some (f + 2)), some (some (f + 3)), none, none])) ∧ S[f + 1]? = some (.inr (.inr (2, (List.range 10).map fun i => some (f + 4 + 4 * i)))) ∧ S[f + 2]? = some (.inr (.inl (0, 10))) ∧ S[f + 3]? = some (.inr (.inr (3, (List.range 10).map fun i => some (f + 6 + 4 * i)))) ∧ ∀ i, i < 10 → ShL S (f + 4 + 4 * i) 12 ∧ ShK S (f + 6 + 4 * i)
theorem ShF_t {f i : Nat} (h : i < 10) : ((List.range 10).map fun i => some (f + 4 + 4 * i))[i]? = some (some (f + 4 + 4 * i)) := by simp [h]
theorem ShF_k {f i : Nat} (h : i < 10) : ((List.range 10).map fun i => some (f + 6 + 4 * i))[i]? = some (some (f + 6 + 4 * i)) := by simp [h]
abbrev ps_F : Type := List (Nat × List Nat)
/-- the file: numbers and texts -/
def FO (D : mx_Mem) (f : Nat) (fl : ps_F) : Prop := D f 3 = nI fl.length ∧ (∀ (i : Nat) (e : Nat × List Nat), fl[i]? = some e → D (f + 2) i = nI e.1 ∧ LN D (f + 4 + 4 * i) e.2) ∧ ∀ i, i < 10 → ∃ xs : List Nat, LN D (f + 4 + 4 * i) xs
/-- the keys of the file's texts -/
def KS (D : mx_Mem) (f : Nat) (ks : List (List Nat)) : Prop := ∀ (i : Nat) (y : List Nat), ks[i]? = some y → LN D (f + 6 + 4 * i) y ∧ y.length ≤ 52 ∧ ∀ w ∈ y, w < 2 ^ 31
def ps_cl (ks : List (List Nat)) (y : List Nat) : Nat := (ks.filter fun k => decide (ps_cmp k y < 0)).length
def ps_eqc (ks : List (List Nat)) (y : List Nat) : Nat := (ks.filter fun k => decide (ps_cmp k y = 0)).length
theorem ps_cl_snoc (ks : List (List Nat)) (x y : List Nat) : ps_cl (ks ++ [x]) y = ps_cl ks y + if ps_cmp x y < 0 then 1 else 0 := by
  unfold ps_cl
  rw [List.filter_append, List.length_append]
  congr 1
  by_cases h : ps_cmp x y < 0 <;> simp [h]
theorem ps_eqc_snoc (ks : List (List Nat)) (x y : List Nat) : ps_eqc (ks ++ [x]) y = ps_eqc ks y + if ps_cmp x y = 0 then 1 else 0 := by
  unfold ps_eqc
  rw [List.filter_append, List.length_append]
  congr 1
  by_cases h : ps_cmp x y = 0 <;> simp [h]
def ps_plc (ks : List (List Nat)) (i : Nat) : Nat := ps_cl ks (ks.getD i []) + ps_eqc (ks.take i) (ks.getD i [])
/-- the number of the text at place x -/
def NumP (fl : ps_F) (ks : List (List Nat)) (x r : Int32) : Prop := (∃ i e, fl[i]? = some e ∧ nI (ps_plc ks i) = x ∧ (∀ j, j < i → ¬ nI (ps_plc ks j) = x) ∧ r = nI e.1) ∨ ((∀ j, j < fl.length → ¬ nI (ps_plc ks j) = x) ∧ r = -1)
theorem FO_kept {D D' : mx_Mem} {f : Nat} {fl : ps_F} (h : FO D f fl) (hl : fl.length ≤ 10) (h0 : D' f 3 = D f 3) (h2 : D' (f + 2) = D (f + 2)) (ht : ∀ i, i < 10 → D' (f + 4 + 4 * i) = D (f + 4 + 4 * i) ∧ D' (f + 4 + 4 * i + 1) = D (f + 4 + 4 * i + 1)) : FO D' f fl := by
  refine ⟨by rw [h0]; exact h.1, fun i e he => ?_, fun i hi => ?_⟩
  · have hi : i < fl.length := (List.getElem?_eq_some_iff.mp he).1
    obtain ⟨a, b⟩ := h.2.1 i e he
    obtain ⟨c, d⟩ := ht i (by omega)
    rw [h2]
    exact ⟨a, by unfold LN; rw [c, d]; exact b⟩
  · obtain ⟨xs, hx⟩ := h.2.2 i hi
    obtain ⟨c, d⟩ := ht i hi
    exact ⟨xs, by unfold LN; rw [c, d]; exact hx⟩
set_option maxHeartbeats 4000000 in
set_option maxRecDepth 100000 in
theorem lp_Km_make {G : mx_G} {d : Nat} {S : List mx_Sh} {D0 : mx_Mem} {m t o k str : Nat} {bw : Bool} {es : List ps_E} (hM : ShM S m t) (hK : ShK S k) (hmk : k + 1 < m ∨ m + 7 < k) (hE : WE D0 m es) (hel : es.length ≤ 12) (hw : ∀ e ∈ es, ∀ lv, ps_lv e lv < 2000) (hst : D0 m 7 = nI str) (hs4 : str ≤ 4) (hbw : D0 m 9 = bI bw) : ∀ (n i : Nat) (D : mx_Mem), i ≤ str → str - i = n → (∀ q, ¬ q = k → ¬ q = k + 1 → D q = D0 q) → LN D k (ps_key bw es i) → EV G (d + 5) m_Km_make 16 [some (.ref m), some (.ref o), some (.ref k), some (.int (nI i))] [] S D S (fun rv D' => rv = none ∧ (∀ q, ¬ q = k → ¬ q = k + 1 → D' q = D0 q) ∧ LN D' k (ps_key bw es str)) := by
  obtain ⟨hm0, hm1, hm2, hm3, hm4, hm5, hm6, hm7⟩ := id hM
  obtain ⟨hk0, hk1⟩ := id hK
  intro n
  induction n with
  | zero =>
    intro i D h1 h2 hF hL
    have hst2 : D m 7 = nI str := by rw [hF m (by omega) (by omega)]; exact hst
    refine EV.iload_n d_Km_make_16 rfl ?_
    refine EV.aload_n d_Km_make_17 rfl ?_
    refine EV.getI fl_Km_27 d_Km_make_18 (by first | assumption | rfl) rfl ?_
    refine EV.icmp_geN (tgt := 36) d_Km_make_21 (by decide) rfl hst2 (by omega) (by omega) (fun h21 => ?_) (fun h21 => ?_)
    · exact EV.return_ d_Km_make_36 rfl ⟨rfl, hF, by rw [show str = i by omega]; exact hL⟩
    · exfalso
      omega
  | succ n ih =>
    intro i D h1 h2 hF hL
    have hst2 : D m 7 = nI str := by rw [hF m (by omega) (by omega)]; exact hst
    have hkl := ps_key_len bw es i
    have hmul : i * (es.length + 1) ≤ 3 * 13 := Nat.mul_le_mul (by omega) (by omega)
    refine EV.iload_n d_Km_make_16 rfl ?_
    refine EV.aload_n d_Km_make_17 rfl ?_
    refine EV.getI fl_Km_27 d_Km_make_18 (by first | assumption | rfl) rfl ?_
    refine EV.icmp_geN (tgt := 36) d_Km_make_21 (by decide) rfl hst2 (by omega) (by omega) (fun h21 => ?_) (fun h21 => ?_)
    · exfalso
      omega
    · refine EV.aload_n d_Km_make_24 rfl ?_
      refine EV.iload_n d_Km_make_25 rfl ?_
      refine EV.aload_n d_Km_make_26 rfl ?_
      refine EV.V2 cv_Km_50 d_Km_make_27 (by first | assumption | rfl) (EV.deep (d2 := d + 1) (by omega) (sp_Km_writeLevel (lv := i) (bw := bw) (es := es) hM hK hmk (WE_kept hE (by rw [hF m (by omega) (by omega)]) (fun j a b => hF (m + j) (by omega) (by omega))) hel (by omega) (fun e he => by have := hw e he i; omega) (by omega) (by rw [hF m (by omega) (by omega)]; exact hbw) hL)) ⟨Nat.le_refl _, Nat.le_refl _⟩ rfl rfl (Nat.le_of_ble_eq_true rfl) (fun rv D1 hp => ?_)
      obtain ⟨rfl, q1, q2⟩ := hp
      refine EV.iincN d_Km_make_30 rfl (by decide) ?_
      refine EV.goto (tgt := 16) d_Km_make_33 (by decide) ?_
      exact ih (i + 1) D1 (by omega) (by omega) (fun q a b => (q1 q a b).trans (hF q a b)) q2
set_option maxHeartbeats 4000000 in
set_option maxRecDepth 100000 in
theorem sp_Km_make {G : mx_G} {d : Nat} {S : List mx_Sh} {D0 : mx_Mem} {m t o k n str : Nat} {tb : ps_T} {sh bw : Bool} {xs : List Nat} (hM : ShM S m t) (hT : ShT S t) (hmt : t + 5 < m ∨ m + 7 < t) (hO : ShL S o n) (hmo : o + 1 < m ∨ m + 7 < o) (hn : 12 ≤ n ∧ n ≤ 24) (hK : ShK S k) (hmk : k + 1 < m ∨ m + 7 < k) (htk : k + 1 < t ∨ t + 5 < k) (hto : o + 1 < t ∨ t + 5 < o) (hok2 : k + 1 < o ∨ o + 1 < k) (hB : TBw D0 t tb) (hok : ps_ok tb) (hX : LN D0 o xs) (htx : ps_tx tb xs) (hst : D0 m 7 = nI str) (hstr : str ≤ 4) (hsh : D0 m 8 = bI sh) (hbw : D0 m 9 = bI bw) : EV G (d + 5) m_Km_make 0 (mx_lc0 m_Km_make [.ref m, .ref o, .ref k]) [] S D0 S (fun rv D' => rv = none ∧ FrK m k D0 D' ∧ (∀ j, ¬ j = 4 → ¬ j = 5 → ¬ j = 6 → D' m j = D0 m j) ∧ LN D' k (ps_kt tb sh bw str xs) ∧ (ps_kt tb sh bw str xs).length ≤ 52 ∧ ∀ w ∈ ps_kt tb sh bw str xs, w < 2 ^ 31) := by
  obtain ⟨hm0, hm1, hm2, hm3, hm4, hm5, hm6, hm7⟩ := id hM
  obtain ⟨hs0, hs1, hs2, hs3, hs4, hs5⟩ := id hT
  obtain ⟨hk0, hk1⟩ := id hK
  show EV _ _ _ _ [some (.ref m), some (.ref o), some (.ref k), none] [] _ _ _ _
  refine EV.aload_n d_Km_make_0 rfl ?_
  refine EV.aload_n d_Km_make_1 rfl ?_
  refine EV.V1 cv_Km_38 d_Km_make_2 (by first | assumption | rfl) (EV.deep (d2 := d + 2) (by omega) (sp_Km_arrange hM hO hmo hX htx.1 (by have := htx.1; omega) hn.2 htx.2.1)) ⟨Nat.le_refl _, Nat.le_refl _⟩ rfl rfl (Nat.le_of_ble_eq_true rfl) (fun rv D1 hp => ?_)
  obtain ⟨rfl, a1, a2, a3, a4⟩ := hp
  refine EV.aload_n d_Km_make_5 rfl ?_
  refine EV.V0 cv_Km_42 d_Km_make_6 (by first | assumption | rfl) (sp_Km_findElements (tb := tb) (sh := sh) hM hT hmt (TBw_kept hB (fun j hj => a1 (t + j) (by omega) (by omega))) hok a4 (by rw [ps_arr_len]; exact a3) (by rw [ps_arr_len]; exact htx.1) (fun c hc => htx.2.1 c ((ps_arr_mem _).mp hc)) (fun c hc => htx.2.2 c ((ps_arr_mem _).mp hc)) (by rw [a2 8 (by decide)]; exact hsh)) ⟨Nat.le_refl _, Nat.le_refl _⟩ rfl rfl (Nat.le_of_ble_eq_true rfl) (fun rv D1 hp => ?_)
  obtain ⟨rfl, b1, b2, b3, b4⟩ := hp
  rw [ps_arr_len] at b3 b4
  refine EV.aload_n d_Km_make_9 rfl ?_
  refine EV.iconst (v := nI 0) d_Km_make_10 (by decide) ?_
  refine EV.putI fl_Km_45 d_Km_make_11 (by first | assumption | rfl) rfl rfl rfl ?_
  refine EV.iconst (v := nI 0) d_Km_make_14 (by decide) ?_
  refine EV.istore_n d_Km_make_15 (by decide) ?_
  have hlv := ps_els_lv hok.2.1 sh xs.length false (ps_arr xs) (fun c hc => (htx.2.1 c ((ps_arr_mem _).mp hc)).2)
  have hkl := ps_key_len bw (ps_els tb sh xs.length false (ps_arr xs)) str
  have hmul : str * ((ps_els tb sh xs.length false (ps_arr xs)).length + 1) ≤ 4 * 13 := Nat.mul_le_mul (by omega) (by omega)
  refine EV.post (fun rv D' h => ⟨h.1, fun q q1 q2 q3 => ?_, fun j j4 j5 j6 => ?_, h.2.2, by unfold ps_kt; omega, fun w hw => by have := ps_key_lt hlv str w hw; omega⟩) (lp_Km_make (bw := bw) (es := ps_els tb sh xs.length false (ps_arr xs)) (str := str) hM hK hmk (WE_kept b3 (by simp [mx_w, va_up, show ¬ m = k by omega]) (fun j a b => by simp [mx_w, va_up, show ¬ m + j = k by omega])) b4 hlv ?_ hstr ?_ str 0 _ (by omega) rfl (fun _ _ _ => rfl) ⟨by simp [mx_w, va_up, upd, ps_key], by simp [mx_w, va_up, ps_key]; exact ar_nil _⟩)
  · rw [h.2.1 q q2 q3, mx_w_ne _ _ _ q2, b1 q (by omega) (by omega) (by omega) (by omega) (by omega) (by omega), a1 q (by omega) (by omega)]
  · rw [h.2.1 m (by omega) (by omega), mx_w_ne _ _ _ (by omega), b2 j j5 j6, a2 j j4]
  · rw [mx_w_ne _ _ _ (by omega), b2 7 (by decide) (by decide), a2 7 (by decide)]; exact hst
  · rw [mx_w_ne _ _ _ (by omega), b2 9 (by decide) (by decide), a2 9 (by decide)]; exact hbw
set_option maxHeartbeats 4000000 in
set_option maxRecDepth 100000 in
theorem lp_Fo_countLess {G : mx_G} {d : Nat} {S : List mx_Sh} {D : mx_Mem} {f k : Nat} {ks : List (List Nat)} {y : List Nat} (hF : ShF S f) (hK : ShK S k) (hc : D f 3 = nI ks.length) (hl : ks.length ≤ 10) (hKS : KS D f ks) (hY : LN D k y) (hy : y.length ≤ 52) (hyw : ∀ w ∈ y, w < 2 ^ 31) : ∀ n i : Nat, i ≤ ks.length → ks.length - i = n → EV G (d + 2) m_Fo_countLess 4 [some (.ref f), some (.ref k), some (.int (nI (ps_cl (ks.take i) y))), some (.int (nI i))] [] S D S (RI (nI (ps_cl ks y)) D) := by
  obtain ⟨hf0, hf1, hf2, hf3, hf4⟩ := id hF
  intro n
  induction n with
  | zero =>
    intro i h1 h2
    refine EV.iload_n d_Fo_countLess_4 rfl ?_
    refine EV.aload_n d_Fo_countLess_5 rfl ?_
    refine EV.getI fl_Fo_31 d_Fo_countLess_6 (by first | assumption | rfl) rfl ?_
    refine EV.icmp_geN (tgt := 34) d_Fo_countLess_9 (by decide) rfl hc (by omega) (by omega) (fun h9 => ?_) (fun h9 => ?_)
    · refine EV.iload_n d_Fo_countLess_34 rfl ?_
      exact EV.ireturn d_Fo_countLess_35 ⟨_, rfl, rfl⟩ ⟨by rw [List.take_of_length_le (by omega)], rfl⟩
    · exfalso
      omega
  | succ n ih =>
    intro i h1 h2
    obtain ⟨x, hx⟩ : ∃ x, ks[i]? = some x := ⟨ks[i]'(by omega), List.getElem?_eq_getElem (by omega)⟩
    have htk : ps_cl (ks.take (i + 1)) y = ps_cl (ks.take i) y + if ps_cmp x y < 0 then 1 else 0 := by rw [List.take_add_one, hx]; exact ps_cl_snoc _ _ _
    have K := ih (i + 1) (by omega) (by omega)
    rw [htk] at K
    obtain ⟨k1, k2, k3⟩ := hKS i x hx
    have hsh := (hf4 i (by omega)).2
    obtain ⟨hsh0, hsh1⟩ := id hsh
    refine EV.iload_n d_Fo_countLess_4 rfl ?_
    refine EV.aload_n d_Fo_countLess_5 rfl ?_
    refine EV.getI fl_Fo_31 d_Fo_countLess_6 (by first | assumption | rfl) rfl ?_
    refine EV.icmp_geN (tgt := 34) d_Fo_countLess_9 (by decide) rfl hc (by omega) (by omega) (fun h9 => ?_) (fun h9 => ?_)
    · exfalso
      omega
    · refine EV.aload_n d_Fo_countLess_12 rfl ?_
      refine EV.getR fl_Fo_23 d_Fo_countLess_13 (by first | assumption | rfl) rfl ?_
      refine EV.iload_n d_Fo_countLess_16 rfl ?_
      refine EV.aaldN d_Fo_countLess_17 (by first | assumption | rfl) rfl rfl rfl (by omega) (ShF_k (by omega)) ?_
      refine EV.aload_n d_Fo_countLess_18 rfl ?_
      refine EV.V1 cv_Fo_53 d_Fo_countLess_19 (by first | assumption | rfl) (sp_Ke_against hsh hK k1 hY k2 hy k3 hyw) ⟨Nat.le_refl _, Nat.le_refl _⟩ rfl rfl (Nat.le_of_ble_eq_true rfl) (fun rv D1 hp => ?_)
      obtain ⟨rfl, hD⟩ := hp
      obtain rfl := hD.symm
      refine EV.if_ge (tgt := 28) d_Fo_countLess_22 (by decide) (fun h22 => ?_) (fun h22 => ?_)
      · rw [if_neg (Int32.not_lt.mpr h22)] at K
        refine EV.iincN d_Fo_countLess_28 rfl (by decide) ?_
        refine EV.goto (tgt := 4) d_Fo_countLess_31 (by decide) ?_
        exact K
      · rw [if_pos (Int32.not_le.mp h22)] at K
        refine EV.iincN d_Fo_countLess_25 rfl (by decide) ?_
        refine EV.iincN d_Fo_countLess_28 rfl (by decide) ?_
        refine EV.goto (tgt := 4) d_Fo_countLess_31 (by decide) ?_
        exact K
set_option maxHeartbeats 4000000 in
set_option maxRecDepth 100000 in
theorem sp_Fo_countLess {G : mx_G} {d : Nat} {S : List mx_Sh} {D : mx_Mem} {f k : Nat} {ks : List (List Nat)} {y : List Nat} (hF : ShF S f) (hK : ShK S k) (hc : D f 3 = nI ks.length) (hl : ks.length ≤ 10) (hKS : KS D f ks) (hY : LN D k y) (hy : y.length ≤ 52) (hyw : ∀ w ∈ y, w < 2 ^ 31) : EV G (d + 2) m_Fo_countLess 0 (mx_lc0 m_Fo_countLess [.ref f, .ref k]) [] S D S (RI (nI (ps_cl ks y)) D) := by
  show EV _ _ _ _ [some (.ref f), some (.ref k), none, none] [] _ _ _ _
  refine EV.iconst (v := nI 0) d_Fo_countLess_0 (by decide) ?_
  refine EV.istore_n d_Fo_countLess_1 (by decide) ?_
  refine EV.iconst (v := nI 0) d_Fo_countLess_2 (by decide) ?_
  refine EV.istore_n d_Fo_countLess_3 (by decide) ?_
  exact lp_Fo_countLess hF hK hc hl hKS hY hy hyw ks.length 0 (by omega) rfl
set_option maxHeartbeats 4000000 in
set_option maxRecDepth 100000 in
theorem lp_Fo_placeOf {G : mx_G} {d : Nat} {S : List mx_Sh} {D : mx_Mem} {f u a : Nat} {ks : List (List Nat)} {y : List Nat} (hF : ShF S f) (hl : ks.length ≤ 10) (hKS : KS D f ks) (hu : ks[u]? = some y) : ∀ n i : Nat, i ≤ u → u - i = n → EV G (d + 3) m_Fo_placeOf 13 [some (.ref f), some (.int (nI u)), some (.int (nI (a + ps_eqc (ks.take i) y))), some (.int (nI i))] [] S D S (RI (nI (a + ps_eqc (ks.take u) y)) D) := by
  obtain ⟨hf0, hf1, hf2, hf3, hf4⟩ := id hF
  have hul : u < ks.length := (List.getElem?_eq_some_iff.mp hu).1
  intro n
  induction n with
  | zero =>
    intro i h1 h2
    refine EV.iload_n d_Fo_placeOf_13 rfl ?_
    refine EV.iload_n d_Fo_placeOf_14 rfl ?_
    refine EV.icmp_geN (tgt := 45) d_Fo_placeOf_15 (by decide) rfl rfl (by omega) (by omega) (fun h15 => ?_) (fun h15 => ?_)
    · refine EV.iload_n d_Fo_placeOf_45 rfl ?_
      exact EV.ireturn d_Fo_placeOf_46 ⟨_, rfl, rfl⟩ ⟨by rw [show i = u by omega], rfl⟩
    · exfalso
      omega
  | succ n ih =>
    intro i h1 h2
    obtain ⟨x, hx⟩ : ∃ x, ks[i]? = some x := ⟨ks[i]'(by omega), List.getElem?_eq_getElem (by omega)⟩
    have htk : ps_eqc (ks.take (i + 1)) y = ps_eqc (ks.take i) y + if ps_cmp x y = 0 then 1 else 0 := by rw [List.take_add_one, hx]; exact ps_eqc_snoc _ _ _
    have K := ih (i + 1) (by omega) (by omega)
    rw [htk, ← Nat.add_assoc] at K
    obtain ⟨k1, k2, k3⟩ := hKS i x hx
    obtain ⟨k4, k5, k6⟩ := hKS u y hu
    have hsh := (hf4 i (by omega)).2
    obtain ⟨hsh0, hsh1⟩ := id hsh
    have hsu := (hf4 u (by omega)).2
    refine EV.iload_n d_Fo_placeOf_13 rfl ?_
    refine EV.iload_n d_Fo_placeOf_14 rfl ?_
    refine EV.icmp_geN (tgt := 45) d_Fo_placeOf_15 (by decide) rfl rfl (by omega) (by omega) (fun h15 => ?_) (fun h15 => ?_)
    · exfalso
      omega
    · refine EV.aload_n d_Fo_placeOf_18 rfl ?_
      refine EV.getR fl_Fo_23 d_Fo_placeOf_19 (by first | assumption | rfl) rfl ?_
      refine EV.iload_n d_Fo_placeOf_22 rfl ?_
      refine EV.aaldN d_Fo_placeOf_23 (by first | assumption | rfl) rfl rfl rfl (by omega) (ShF_k (by omega)) ?_
      refine EV.aload_n d_Fo_placeOf_24 rfl ?_
      refine EV.getR fl_Fo_23 d_Fo_placeOf_25 (by first | assumption | rfl) rfl ?_
      refine EV.iload_n d_Fo_placeOf_28 rfl ?_
      refine EV.aaldN d_Fo_placeOf_29 (by first | assumption | rfl) rfl rfl rfl (by omega) (ShF_k (by omega)) ?_
      refine EV.V1 cv_Fo_53 d_Fo_placeOf_30 (by first | assumption | rfl) (EV.deep (d2 := d + 1) (by omega) (sp_Ke_against hsh hsu k1 k4 k2 k5 k3 k6)) ⟨Nat.le_refl _, Nat.le_refl _⟩ rfl rfl (Nat.le_of_ble_eq_true rfl) (fun rv D1 hp => ?_)
      obtain ⟨rfl, hD⟩ := hp
      obtain rfl := hD.symm
      refine EV.if_ne (tgt := 39) d_Fo_placeOf_33 (by decide) (fun h33 => ?_) (fun h33 => ?_)
      · rw [if_neg h33] at K
        refine EV.iincN d_Fo_placeOf_39 rfl (by decide) ?_
        refine EV.goto (tgt := 13) d_Fo_placeOf_42 (by decide) ?_
        exact K
      · rw [if_pos h33] at K
        refine EV.iincN d_Fo_placeOf_36 rfl (by decide) ?_
        refine EV.iincN d_Fo_placeOf_39 rfl (by decide) ?_
        refine EV.goto (tgt := 13) d_Fo_placeOf_42 (by decide) ?_
        exact K
set_option maxHeartbeats 4000000 in
set_option maxRecDepth 100000 in
theorem sp_Fo_placeOf {G : mx_G} {d : Nat} {S : List mx_Sh} {D : mx_Mem} {f u : Nat} {ks : List (List Nat)} (hF : ShF S f) (hc : D f 3 = nI ks.length) (hl : ks.length ≤ 10) (hKS : KS D f ks) (hu : u < ks.length) : EV G (d + 3) m_Fo_placeOf 0 (mx_lc0 m_Fo_placeOf [.ref f, .int (nI u)]) [] S D S (RI (nI (ps_plc ks u)) D) := by
  obtain ⟨hf0, hf1, hf2, hf3, hf4⟩ := id hF
  obtain ⟨y, hy0⟩ : ∃ y, ks[u]? = some y := ⟨ks[u], List.getElem?_eq_getElem hu⟩
  have hgy : ks.getD u [] = y := by simp [hy0]
  have hu2 : ks[u]? = some (ks.getD u []) := by rw [hgy]; exact hy0
  obtain ⟨k4, k5, k6⟩ := hKS u _ hu2
  have hsu := (hf4 u (by omega)).2
  show EV _ _ _ _ [some (.ref f), some (.int (nI u)), none, none] [] _ _ _ _
  refine EV.aload_n d_Fo_placeOf_0 rfl ?_
  refine EV.aload_n d_Fo_placeOf_1 rfl ?_
  refine EV.getR fl_Fo_23 d_Fo_placeOf_2 (by first | assumption | rfl) rfl ?_
  refine EV.iload_n d_Fo_placeOf_5 rfl ?_
  refine EV.aaldN d_Fo_placeOf_6 (by first | assumption | rfl) rfl rfl rfl (by omega) (ShF_k (by omega)) ?_
  refine EV.V1 cv_Fo_49 d_Fo_placeOf_7 (by first | assumption | rfl) (sp_Fo_countLess hF hsu hc hl hKS k4 k5 k6) ⟨Nat.le_refl _, Nat.le_refl _⟩ rfl rfl (Nat.le_of_ble_eq_true rfl) (fun rv D1 hp => ?_)
  obtain ⟨rfl, hD⟩ := hp
  obtain rfl := hD.symm
  refine EV.istore_n d_Fo_placeOf_10 (by decide) ?_
  refine EV.iconst (v := nI 0) d_Fo_placeOf_11 (by decide) ?_
  refine EV.istore_n d_Fo_placeOf_12 (by decide) ?_
  have K := lp_Fo_placeOf (G := G) (d := d) (a := ps_cl ks (ks.getD u [])) hF hl hKS hu2 u 0 (by omega) rfl
  have e0 : ps_eqc (ks.take 0) (ks.getD u []) = 0 := by simp [ps_eqc]
  rw [e0, Nat.add_zero] at K
  exact K
set_option maxHeartbeats 4000000 in
set_option maxRecDepth 100000 in
theorem lp_Fo_numberAt {G : mx_G} {d : Nat} {S : List mx_Sh} {D : mx_Mem} {f : Nat} {fl : ps_F} {ks : List (List Nat)} {x : Int32} (hF : ShF S f) (hFO : FO D f fl) (hkl : ks.length = fl.length) (hl : fl.length ≤ 10) (hKS : KS D f ks) : ∀ n i : Nat, i ≤ fl.length → fl.length - i = n → (∀ j, j < i → ¬ nI (ps_plc ks j) = x) → EV G (d + 4) m_Fo_numberAt 2 [some (.ref f), some (.int x), some (.int (nI i))] [] S D S (fun rv D' => D' = D ∧ ∃ r, rv = some (.int r) ∧ NumP fl ks x r) := by
  obtain ⟨hf0, hf1, hf2, hf3, hf4⟩ := id hF
  have hc := hFO.1
  intro n
  induction n with
  | zero =>
    intro i h1 h2 h3
    refine EV.iload_n d_Fo_numberAt_2 rfl ?_
    refine EV.aload_n d_Fo_numberAt_3 rfl ?_
    refine EV.getI fl_Fo_31 d_Fo_numberAt_4 (by first | assumption | rfl) rfl ?_
    refine EV.icmp_geN (tgt := 32) d_Fo_numberAt_7 (by decide) rfl hc (by omega) (by omega) (fun h7 => ?_) (fun h7 => ?_)
    · refine EV.iconst (v := (-1)) d_Fo_numberAt_32 (by decide) ?_
      exact EV.ireturn d_Fo_numberAt_33 ⟨_, rfl, rfl⟩ ⟨rfl, _, rfl, Or.inr ⟨fun j hj => h3 j (by omega), rfl⟩⟩
    · exfalso
      omega
  | succ n ih =>
    intro i h1 h2 h3
    obtain ⟨e, he⟩ : ∃ e, fl[i]? = some e := ⟨fl[i]'(by omega), List.getElem?_eq_getElem (by omega)⟩
    refine EV.iload_n d_Fo_numberAt_2 rfl ?_
    refine EV.aload_n d_Fo_numberAt_3 rfl ?_
    refine EV.getI fl_Fo_31 d_Fo_numberAt_4 (by first | assumption | rfl) rfl ?_
    refine EV.icmp_geN (tgt := 32) d_Fo_numberAt_7 (by decide) rfl hc (by omega) (by omega) (fun h7 => ?_) (fun h7 => ?_)
    · exfalso
      omega
    · refine EV.aload_n d_Fo_numberAt_10 rfl ?_
      refine EV.iload_n d_Fo_numberAt_11 rfl ?_
      refine EV.V1 cv_Fo_45 d_Fo_numberAt_12 (by first | assumption | rfl) (sp_Fo_placeOf hF (by rw [hkl]; exact hc) (by omega) hKS (by omega)) ⟨Nat.le_refl _, Nat.le_refl _⟩ rfl rfl (Nat.le_of_ble_eq_true rfl) (fun rv D1 hp => ?_)
      obtain ⟨rfl, hD⟩ := hp
      obtain rfl := hD.symm
      refine EV.iload_n d_Fo_numberAt_15 rfl ?_
      refine EV.icmp_ne (tgt := 26) d_Fo_numberAt_16 (by decide) (fun h16 => ?_) (fun h16 => ?_)
      · refine EV.iincN d_Fo_numberAt_26 rfl (by decide) ?_
        refine EV.goto (tgt := 2) d_Fo_numberAt_29 (by decide) ?_
        exact ih (i + 1) (by omega) (by omega) (fun j hj => by
          rcases Nat.lt_or_ge j i with q | q
          · exact h3 j q
          · rw [show j = i by omega]; exact h16)
      · refine EV.aload_n d_Fo_numberAt_19 rfl ?_
        refine EV.getR fl_Fo_17 d_Fo_numberAt_20 (by first | assumption | rfl) rfl ?_
        refine EV.iload_n d_Fo_numberAt_23 rfl ?_
        refine EV.ialdN d_Fo_numberAt_24 (by first | assumption | rfl) rfl rfl (by omega) (by first | decide | omega) ?_
        refine EV.top (hFO.2.1 i e he).1 ?_
        exact EV.ireturn d_Fo_numberAt_25 ⟨_, rfl, rfl⟩ ⟨rfl, _, rfl, Or.inl ⟨i, e, he, h16, h3, rfl⟩⟩
set_option maxHeartbeats 4000000 in
set_option maxRecDepth 100000 in
theorem sp_Fo_numberAt {G : mx_G} {d : Nat} {S : List mx_Sh} {D : mx_Mem} {f : Nat} {fl : ps_F} {ks : List (List Nat)} {x : Int32} (hF : ShF S f) (hFO : FO D f fl) (hkl : ks.length = fl.length) (hl : fl.length ≤ 10) (hKS : KS D f ks) : EV G (d + 4) m_Fo_numberAt 0 (mx_lc0 m_Fo_numberAt [.ref f, .int x]) [] S D S (fun rv D' => D' = D ∧ ∃ r, rv = some (.int r) ∧ NumP fl ks x r) := by
  show EV _ _ _ _ [some (.ref f), some (.int x), none] [] _ _ _ _
  refine EV.iconst (v := nI 0) d_Fo_numberAt_0 (by decide) ?_
  refine EV.istore_n d_Fo_numberAt_1 (by decide) ?_
  exact lp_Fo_numberAt hF hFO hkl hl hKS fl.length 0 (by omega) rfl (fun j hj => absurd hj (by omega))
end
section
def FrF (f : Nat) (D D' : mx_Mem) : Prop := ∀ q, (q < f ∨ f + 43 < q) → D' q = D q
/-- a filed text -/
def ps_t12 (xs : List Nat) : Prop := xs.length ≤ 12 ∧ ∀ c ∈ xs, c < 65536
theorem LN_kept {D D' : mx_Mem} {k : Nat} {xs : List Nat} (h : LN D k xs) (h0 : D' k = D k) (h1 : D' (k + 1) = D (k + 1)) : LN D' k xs := by
  unfold LN
  rw [h0, h1]
  exact h
set_option maxHeartbeats 4000000 in
set_option maxRecDepth 100000 in
theorem sp_Fo_add {G : mx_G} {d : Nat} {S : List mx_Sh} {D : mx_Mem} {f o nx : Nat} {fl : ps_F} {xs : List Nat} (hF : ShF S f) (hFO : FO D f fl) (hl : fl.length ≤ 10) (hnx : D f 4 = nI nx) (hO : ShL S o 12) (hof : o + 1 < f) (hX : LN D o xs) (hx : ps_t12 xs) : EV G (d + 2) m_Fo_add 0 (mx_lc0 m_Fo_add [.ref f, .ref o]) [] S D S (fun rv D' => FrF f D D' ∧ rv = some (.int (if fl.length < 10 then nI nx else -1)) ∧ FO D' f (if fl.length < 10 then fl ++ [(nx, xs)] else fl) ∧ D' f 4 = nI (if fl.length < 10 then nx + 1 else nx)) := by
  obtain ⟨hf0, hf1, hf2, hf3, hf4⟩ := id hF
  show EV _ _ _ _ [some (.ref f), some (.ref o), none] [] _ _ _ _
  refine EV.aload_n d_Fo_add_0 rfl ?_
  refine EV.getI fl_Fo_31 d_Fo_add_1 (by first | assumption | rfl) rfl ?_
  refine EV.bipush (v := nI 10) d_Fo_add_4 (by decide) ?_
  refine EV.icmp_ltN (tgt := 11) d_Fo_add_6 (by decide) hFO.1 rfl (by omega) (by omega) (fun h6 => ?_) (fun h6 => ?_)
  · rw [if_pos h6, if_pos h6, if_pos h6]
    have hsl := (hf4 fl.length h6).1
    obtain ⟨hl0, hl1⟩ := id hsl
    obtain ⟨zs, hzs⟩ := hFO.2.2 fl.length h6
    refine EV.aload_n d_Fo_add_11 rfl ?_
    refine EV.getI fl_Fo_35 d_Fo_add_12 (by first | assumption | rfl) rfl ?_
    refine EV.top hnx ?_
    refine EV.istore_n d_Fo_add_15 (by decide) ?_
    refine EV.aload_n d_Fo_add_16 rfl ?_
    refine EV.dup d_Fo_add_17 rfl ?_
    refine EV.getI fl_Fo_35 d_Fo_add_18 (by first | assumption | rfl) rfl ?_
    refine EV.iconst (v := nI 1) d_Fo_add_21 (by decide) ?_
    refine EV.iadd d_Fo_add_22 ?_
    refine EV.top (y := nI (nx + 1)) (by rw [hnx]; exact nI_1 nx) ?_
    refine EV.putI fl_Fo_35 d_Fo_add_23 (by first | assumption | rfl) rfl rfl rfl ?_
    refine EV.aload_n d_Fo_add_26 rfl ?_
    refine EV.getR fl_Fo_11 d_Fo_add_27 (by first | assumption | rfl) rfl ?_
    refine EV.aload_n d_Fo_add_30 rfl ?_
    refine EV.getI fl_Fo_31 d_Fo_add_31 (by first | assumption | rfl) rfl ?_
    refine EV.aaldN d_Fo_add_34 (by first | assumption | rfl) rfl rfl (by simp [mx_w, va_up, upd]; exact hFO.1) (by omega) (ShF_t h6) ?_
    refine EV.aload_n d_Fo_add_35 rfl ?_
    refine EV.V1 cv_Fo_38 d_Fo_add_36 (by first | assumption | rfl) (sp_Li_copyFrom (xs := zs) (ys := xs) hsl hO (by omega) (LN_kept hzs (mx_w_ne _ _ _ (by omega)) (mx_w_ne _ _ _ (by omega))) (LN_kept hX (mx_w_ne _ _ _ (by omega)) (mx_w_ne _ _ _ (by omega))) hx.1 hx.1 (by omega) (by omega) hx.2) ⟨Nat.le_refl _, Nat.le_refl _⟩ rfl rfl (Nat.le_of_ble_eq_true rfl) (fun rv D1 hp => ?_)
    obtain ⟨rfl, q1, q2⟩ := hp
    have hf3' : D1 f 3 = nI fl.length := by rw [q1 f (by omega) (by omega)]; simp [mx_w, va_up, upd]; exact hFO.1
    refine EV.aload_n d_Fo_add_39 rfl ?_
    refine EV.getR fl_Fo_17 d_Fo_add_40 (by first | assumption | rfl) rfl ?_
    refine EV.aload_n d_Fo_add_43 rfl ?_
    refine EV.getI fl_Fo_31 d_Fo_add_44 (by first | assumption | rfl) rfl ?_
    refine EV.iload_n d_Fo_add_47 rfl ?_
    refine EV.iastN d_Fo_add_48 (by first | assumption | rfl) rfl hf3' (by omega) (by first | decide | omega) ?_
    refine EV.aload_n d_Fo_add_49 rfl ?_
    refine EV.dup d_Fo_add_50 rfl ?_
    refine EV.getI fl_Fo_31 d_Fo_add_51 (by first | assumption | rfl) rfl ?_
    refine EV.iconst (v := nI 1) d_Fo_add_54 (by decide) ?_
    refine EV.iadd d_Fo_add_55 ?_
    refine EV.top (y := nI (fl.length + 1)) (by rw [mx_w_ne _ _ _ (by omega), hf3']; exact nI_1 _) ?_
    refine EV.putI fl_Fo_31 d_Fo_add_56 (by first | assumption | rfl) rfl rfl rfl ?_
    refine EV.iload_n d_Fo_add_59 rfl ?_
    refine EV.ireturn d_Fo_add_60 ⟨_, rfl, rfl⟩ ⟨fun q hq => by
        rw [mx_w_ne _ _ _ (by omega), mx_w_ne _ _ _ (by omega), q1 q (by omega) (by omega), mx_w_ne _ _ _ (by omega)], rfl, ⟨by rw [mx_w_eq]; simp [upd], fun i e he => ?_, fun i hi => ?_⟩, by rw [mx_w_eq, mx_w_ne _ _ _ (by omega), q1 f (by omega) (by omega), mx_w_eq]; simp [upd]⟩
    · by_cases q : i = fl.length
      · subst q
        simp at he
        subst he
        refine ⟨by rw [mx_w_ne _ _ _ (by omega), mx_w_eq]; simp [upd], LN_kept q2 ?_ ?_⟩
        · rw [mx_w_ne _ _ _ (by omega), mx_w_ne _ _ _ (by omega)]
        · rw [mx_w_ne _ _ _ (by omega), mx_w_ne _ _ _ (by omega)]
      · have hil : i < fl.length := by
          have := (List.getElem?_eq_some_iff.mp he).1
          rw [List.length_append, List.length_singleton] at this
          omega
        rw [List.getElem?_append_left hil] at he
        obtain ⟨z1, z2⟩ := hFO.2.1 i e he
        refine ⟨?_, LN_kept z2 ?_ ?_⟩
        · rw [mx_w_ne _ _ _ (by omega), mx_w_eq, q1 (f + 2) (by omega) (by omega), mx_w_ne _ _ _ (by omega)]
          unfold upd
          rw [if_neg q]
          exact z1
        · rw [mx_w_ne _ _ _ (by omega), mx_w_ne _ _ _ (by omega), q1 _ (by omega) (by omega), mx_w_ne _ _ _ (by omega)]
        · rw [mx_w_ne _ _ _ (by omega), mx_w_ne _ _ _ (by omega), q1 _ (by omega) (by omega), mx_w_ne _ _ _ (by omega)]
    · by_cases q : i = fl.length
      · subst q
        refine ⟨xs, LN_kept q2 ?_ ?_⟩
        · rw [mx_w_ne _ _ _ (by omega), mx_w_ne _ _ _ (by omega)]
        · rw [mx_w_ne _ _ _ (by omega), mx_w_ne _ _ _ (by omega)]
      · obtain ⟨us, hus⟩ := hFO.2.2 i hi
        refine ⟨us, LN_kept hus ?_ ?_⟩
        · rw [mx_w_ne _ _ _ (by omega), mx_w_ne _ _ _ (by omega), q1 _ (by omega) (by omega), mx_w_ne _ _ _ (by omega)]
        · rw [mx_w_ne _ _ _ (by omega), mx_w_ne _ _ _ (by omega), q1 _ (by omega) (by omega), mx_w_ne _ _ _ (by omega)]
  · rw [if_neg (by omega), if_neg (by omega), if_neg (by omega)]
    refine EV.iconst (v := (-1)) d_Fo_add_9 (by decide) ?_
    exact EV.ireturn d_Fo_add_10 ⟨_, rfl, rfl⟩ ⟨fun _ _ => rfl, rfl, hFO, hnx⟩
set_option maxHeartbeats 4000000 in
set_option maxRecDepth 100000 in
theorem lp_Fo_closeUp {G : mx_G} {d : Nat} {S : List mx_Sh} {D0 : mx_Mem} {f g : Nat} {fl : ps_F} (hF : ShF S f) (hl : fl.length ≤ 10) (hg : g < fl.length) (hx : ∀ e ∈ fl, ps_t12 e.2) : ∀ (n i : Nat) (D : mx_Mem), g < i → i ≤ fl.length → fl.length - i = n → FrF f D0 D → D f 4 = D0 f 4 → D f 3 = nI fl.length → (∀ j e, j < fl.length → fl[(if g ≤ j ∧ j + 1 < i then j + 1 else j)]? = some e → D (f + 2) j = nI e.1 ∧ LN D (f + 4 + 4 * j) e.2) → (∀ j, j < 10 → ∃ zs : List Nat, LN D (f + 4 + 4 * j) zs) → EV G (d + 2) m_Fo_closeUp 4 [some (.ref f), some (.int (nI g)), some (.int (nI i))] [] S D S (fun rv D' => rv = none ∧ FrF f D0 D' ∧ D' f 4 = D0 f 4 ∧ FO D' f (fl.eraseIdx g)) := by
  obtain ⟨hf0, hf1, hf2, hf3, hf4⟩ := id hF
  intro n
  induction n with
  | zero =>
    intro i D h0 h1 h2 hR h4 h3 hA hZ
    refine EV.iload_n d_Fo_closeUp_4 rfl ?_
    refine EV.aload_n d_Fo_closeUp_5 rfl ?_
    refine EV.getI fl_Fo_31 d_Fo_closeUp_6 (by first | assumption | rfl) rfl ?_
    refine EV.icmp_geN (tgt := 49) d_Fo_closeUp_9 (by decide) rfl h3 (by omega) (by omega) (fun h9 => ?_) (fun h9 => ?_)
    · refine EV.aload_n d_Fo_closeUp_49 rfl ?_
      refine EV.dup d_Fo_closeUp_50 rfl ?_
      refine EV.getI fl_Fo_31 d_Fo_closeUp_51 (by first | assumption | rfl) rfl ?_
      refine EV.iconst (v := nI 1) d_Fo_closeUp_54 (by decide) ?_
      refine EV.isub d_Fo_closeUp_55 ?_
      refine EV.top (y := nI (fl.length - 1)) (by rw [h3]; exact pk_sub (by omega)) ?_
      refine EV.putI fl_Fo_31 d_Fo_closeUp_56 (by first | assumption | rfl) rfl rfl rfl ?_
      refine EV.return_ d_Fo_closeUp_59 rfl ⟨rfl, fun q hq => by rw [mx_w_ne _ _ _ (by omega)]; exact hR q hq, by rw [mx_w_eq]; simp [upd]; exact h4, ⟨by rw [mx_w_eq, List.length_eraseIdx, if_pos hg]; simp [upd], fun j e he => ?_, fun j hj => ?_⟩⟩
      · have hjl : j < fl.length - 1 := by
          have := (List.getElem?_eq_some_iff.mp he).1
          rw [List.length_eraseIdx, if_pos hg] at this
          exact this
        rw [List.getElem?_eraseIdx] at he
        obtain ⟨z1, z2⟩ := hA j e (by omega) (by
          by_cases q : j < g
          · rw [if_pos q] at he
            rw [if_neg (by omega)]
            exact he
          · rw [if_neg q] at he
            rw [if_pos (by omega)]
            exact he)
        exact ⟨by rw [mx_w_ne _ _ _ (by omega)]; exact z1, LN_kept z2 (mx_w_ne _ _ _ (by omega)) (mx_w_ne _ _ _ (by omega))⟩
      · obtain ⟨zs, hz⟩ := hZ j hj
        exact ⟨zs, LN_kept hz (mx_w_ne _ _ _ (by omega)) (mx_w_ne _ _ _ (by omega))⟩
    · exfalso
      omega
  | succ n ih =>
    intro i D h0 h1 h2 hR h4 h3 hA hZ
    obtain ⟨e, he⟩ : ∃ e, fl[i]? = some e := ⟨fl[i]'(by omega), List.getElem?_eq_getElem (by omega)⟩
    obtain ⟨z1, z2⟩ := hA i e (by omega) (by rw [if_neg (by omega)]; exact he)
    obtain ⟨i, rfl⟩ : ∃ i', i = i' + 1 := ⟨i - 1, by omega⟩
    obtain ⟨us, hus⟩ := hZ i (by omega)
    have hsa := (hf4 i (by omega)).1
    have hsb := (hf4 (i + 1) (by omega)).1
    obtain ⟨ha0, ha1⟩ := id hsa
    obtain ⟨hb0, hb1⟩ := id hsb
    have hex := hx e (List.mem_of_getElem? he)
    refine EV.iload_n d_Fo_closeUp_4 rfl ?_
    refine EV.aload_n d_Fo_closeUp_5 rfl ?_
    refine EV.getI fl_Fo_31 d_Fo_closeUp_6 (by first | assumption | rfl) rfl ?_
    refine EV.icmp_geN (tgt := 49) d_Fo_closeUp_9 (by decide) rfl h3 (by omega) (by omega) (fun h9 => ?_) (fun h9 => ?_)
    · exfalso
      omega
    · refine EV.aload_n d_Fo_closeUp_12 rfl ?_
      refine EV.getR fl_Fo_17 d_Fo_closeUp_13 (by first | assumption | rfl) rfl ?_
      refine EV.iload_n d_Fo_closeUp_16 rfl ?_
      refine EV.iconst (v := nI 1) d_Fo_closeUp_17 (by decide) ?_
      refine EV.isub d_Fo_closeUp_18 ?_
      refine EV.aload_n d_Fo_closeUp_19 rfl ?_
      refine EV.getR fl_Fo_17 d_Fo_closeUp_20 (by first | assumption | rfl) rfl ?_
      refine EV.iload_n d_Fo_closeUp_23 rfl ?_
      refine EV.ialdN d_Fo_closeUp_24 (by first | assumption | rfl) rfl rfl (by omega) (by first | decide | omega) ?_
      refine EV.top z1 ?_
      refine EV.iastN d_Fo_closeUp_25 (by first | assumption | rfl) rfl (show _ = nI i from nI_pred i) (by omega) (by first | decide | omega) ?_
      refine EV.aload_n d_Fo_closeUp_26 rfl ?_
      refine EV.getR fl_Fo_11 d_Fo_closeUp_27 (by first | assumption | rfl) rfl ?_
      refine EV.iload_n d_Fo_closeUp_30 rfl ?_
      refine EV.iconst (v := nI 1) d_Fo_closeUp_31 (by decide) ?_
      refine EV.isub d_Fo_closeUp_32 ?_
      refine EV.aaldN d_Fo_closeUp_33 (by first | assumption | rfl) rfl rfl (show _ = nI i from nI_pred i) (by omega) (ShF_t (by omega)) ?_
      refine EV.aload_n d_Fo_closeUp_34 rfl ?_
      refine EV.getR fl_Fo_11 d_Fo_closeUp_35 (by first | assumption | rfl) rfl ?_
      refine EV.iload_n d_Fo_closeUp_38 rfl ?_
      refine EV.aaldN d_Fo_closeUp_39 (by first | assumption | rfl) rfl rfl rfl (by omega) (ShF_t (by omega)) ?_
      refine EV.V1 cv_Fo_38 d_Fo_closeUp_40 (by first | assumption | rfl) (sp_Li_copyFrom (xs := us) (ys := e.2) hsa hsb (by omega) (LN_kept hus (mx_w_ne _ _ _ (by omega)) (mx_w_ne _ _ _ (by omega))) (LN_kept z2 (mx_w_ne _ _ _ (by omega)) (mx_w_ne _ _ _ (by omega))) hex.1 hex.1 (by omega) (by omega) hex.2) ⟨Nat.le_refl _, Nat.le_refl _⟩ rfl rfl (Nat.le_of_ble_eq_true rfl) (fun rv D1 hp => ?_)
      obtain ⟨rfl, q1, q2⟩ := hp
      refine EV.iincN d_Fo_closeUp_43 rfl (by decide) ?_
      refine EV.goto (tgt := 4) d_Fo_closeUp_46 (by decide) ?_
      refine ih (i + 1 + 1) D1 (by omega) (by omega) (by omega) ?_ ?_ ?_ ?_ ?_
      · intro q hq
        rw [q1 q (by omega) (by omega), mx_w_ne _ _ _ (by omega)]
        exact hR q hq
      · rw [q1 f (by omega) (by omega), mx_w_ne _ _ _ (by omega)]; exact h4
      · rw [q1 f (by omega) (by omega), mx_w_ne _ _ _ (by omega)]; exact h3
      · intro j x hj hx2
        by_cases q : j = i
        · subst q
          rw [if_pos (by omega), he] at hx2
          cases hx2
          refine ⟨?_, q2⟩
          rw [q1 (f + 2) (by omega) (by omega), mx_w_eq]
          simp [upd]
        · obtain ⟨y1, y2⟩ := hA j x hj (by
            by_cases w : g ≤ j ∧ j + 1 < i + 1
            · rw [if_pos w]
              rw [if_pos (by omega)] at hx2
              exact hx2
            · rw [if_neg w]
              rw [if_neg (by omega)] at hx2
              exact hx2)
          refine ⟨?_, LN_kept y2 ?_ ?_⟩
          · rw [q1 (f + 2) (by omega) (by omega), mx_w_eq]
            unfold upd
            rw [if_neg q]
            exact y1
          · rw [q1 _ (by omega) (by omega), mx_w_ne _ _ _ (by omega)]
          · rw [q1 _ (by omega) (by omega), mx_w_ne _ _ _ (by omega)]
      · intro j hj
        by_cases q : j = i
        · subst q
          exact ⟨e.2, q2⟩
        · obtain ⟨zs, hz⟩ := hZ j hj
          refine ⟨zs, LN_kept hz ?_ ?_⟩
          · rw [q1 _ (by omega) (by omega), mx_w_ne _ _ _ (by omega)]
          · rw [q1 _ (by omega) (by omega), mx_w_ne _ _ _ (by omega)]
set_option maxHeartbeats 4000000 in
set_option maxRecDepth 100000 in
theorem sp_Fo_closeUp {G : mx_G} {d : Nat} {S : List mx_Sh} {D0 : mx_Mem} {f g : Nat} {fl : ps_F} (hF : ShF S f) (hFO : FO D0 f fl) (hl : fl.length ≤ 10) (hg : g < fl.length) (hx : ∀ e ∈ fl, ps_t12 e.2) : EV G (d + 2) m_Fo_closeUp 0 (mx_lc0 m_Fo_closeUp [.ref f, .int (nI g)]) [] S D0 S (fun rv D' => rv = none ∧ FrF f D0 D' ∧ D' f 4 = D0 f 4 ∧ FO D' f (fl.eraseIdx g)) := by
  show EV _ _ _ _ [some (.ref f), some (.int (nI g)), none] [] _ _ _ _
  refine EV.iload_n d_Fo_closeUp_0 rfl ?_
  refine EV.iconst (v := nI 1) d_Fo_closeUp_1 (by decide) ?_
  refine EV.iadd d_Fo_closeUp_2 ?_
  refine EV.top (nI_1 g) ?_
  refine EV.istore_n d_Fo_closeUp_3 (by decide) ?_
  exact lp_Fo_closeUp hF hl hg hx (fl.length - (g + 1)) (g + 1) D0 (by omega) (by omega) rfl (fun _ _ => rfl) rfl hFO.1 (fun j e hj he => by rw [if_neg (by omega)] at he; exact hFO.2.1 j e he) hFO.2.2
set_option maxHeartbeats 4000000 in
set_option maxRecDepth 100000 in
theorem lp_Fo_remove {G : mx_G} {d : Nat} {S : List mx_Sh} {D : mx_Mem} {f : Nat} {fl : ps_F} {x : Int32} (hF : ShF S f) (hFO : FO D f fl) (hl : fl.length ≤ 10) (hx : ∀ e ∈ fl, ps_t12 e.2) : ∀ n i : Nat, i ≤ fl.length → fl.length - i = n → (∀ (j : Nat) (u : Nat × List Nat), j < i → fl[j]? = some u → ¬ nI u.1 = x) → EV G (d + 3) m_Fo_remove 2 [some (.ref f), some (.int x), some (.int (nI i))] [] S D S (fun rv D' => FrF f D D' ∧ D' f 4 = D f 4 ∧ ((∃ (i : Nat) (e : Nat × List Nat), fl[i]? = some e ∧ nI e.1 = x ∧ (∀ (j : Nat) (u : Nat × List Nat), j < i → fl[j]? = some u → ¬ nI u.1 = x) ∧ rv = some (.int (nI 1)) ∧ FO D' f (fl.eraseIdx i)) ∨ ((∀ (j : Nat) (u : Nat × List Nat), fl[j]? = some u → ¬ nI u.1 = x) ∧ rv = some (.int (nI 0)) ∧ FO D' f fl))) := by
  obtain ⟨hf0, hf1, hf2, hf3, hf4⟩ := id hF
  have hc := hFO.1
  intro n
  induction n with
  | zero =>
    intro i h1 h2 h3
    refine EV.iload_n d_Fo_remove_2 rfl ?_
    refine EV.aload_n d_Fo_remove_3 rfl ?_
    refine EV.getI fl_Fo_31 d_Fo_remove_4 (by first | assumption | rfl) rfl ?_
    refine EV.icmp_geN (tgt := 33) d_Fo_remove_7 (by decide) rfl hc (by omega) (by omega) (fun h7 => ?_) (fun h7 => ?_)
    · refine EV.iconst (v := nI 0) d_Fo_remove_33 (by decide) ?_
      exact EV.ireturn d_Fo_remove_34 ⟨_, rfl, rfl⟩ ⟨fun _ _ => rfl, rfl, Or.inr ⟨fun j u hu => h3 j u (by have := (List.getElem?_eq_some_iff.mp hu).1; omega) hu, rfl, hFO⟩⟩
    · exfalso
      omega
  | succ n ih =>
    intro i h1 h2 h3
    obtain ⟨e, he⟩ : ∃ e, fl[i]? = some e := ⟨fl[i]'(by omega), List.getElem?_eq_getElem (by omega)⟩
    refine EV.iload_n d_Fo_remove_2 rfl ?_
    refine EV.aload_n d_Fo_remove_3 rfl ?_
    refine EV.getI fl_Fo_31 d_Fo_remove_4 (by first | assumption | rfl) rfl ?_
    refine EV.icmp_geN (tgt := 33) d_Fo_remove_7 (by decide) rfl hc (by omega) (by omega) (fun h7 => ?_) (fun h7 => ?_)
    · exfalso
      omega
    · refine EV.aload_n d_Fo_remove_10 rfl ?_
      refine EV.getR fl_Fo_17 d_Fo_remove_11 (by first | assumption | rfl) rfl ?_
      refine EV.iload_n d_Fo_remove_14 rfl ?_
      refine EV.ialdN d_Fo_remove_15 (by first | assumption | rfl) rfl rfl (by omega) (by first | decide | omega) ?_
      refine EV.top (hFO.2.1 i e he).1 ?_
      refine EV.iload_n d_Fo_remove_16 rfl ?_
      refine EV.icmp_ne (tgt := 27) d_Fo_remove_17 (by decide) (fun h17 => ?_) (fun h17 => ?_)
      · refine EV.iincN d_Fo_remove_27 rfl (by decide) ?_
        refine EV.goto (tgt := 2) d_Fo_remove_30 (by decide) ?_
        exact ih (i + 1) (by omega) (by omega) (fun j u hj hu => by
          rcases Nat.lt_or_ge j i with q | q
          · exact h3 j u q hu
          · rw [show j = i by omega, he] at hu
            cases hu
            exact h17)
      · refine EV.aload_n d_Fo_remove_20 rfl ?_
        refine EV.iload_n d_Fo_remove_21 rfl ?_
        refine EV.V1 cv_Fo_42 d_Fo_remove_22 (by first | assumption | rfl) (sp_Fo_closeUp hF hFO hl (by omega) hx) ⟨Nat.le_refl _, Nat.le_refl _⟩ rfl rfl (Nat.le_of_ble_eq_true rfl) (fun rv D1 hp => ?_)
        obtain ⟨rfl, q1, q2, q3⟩ := hp
        refine EV.iconst (v := nI 1) d_Fo_remove_25 (by decide) ?_
        exact EV.ireturn d_Fo_remove_26 ⟨_, rfl, rfl⟩ ⟨q1, q2, Or.inl ⟨i, e, he, h17, h3, rfl, q3⟩⟩
set_option maxHeartbeats 4000000 in
set_option maxRecDepth 100000 in
theorem sp_Fo_remove {G : mx_G} {d : Nat} {S : List mx_Sh} {D : mx_Mem} {f : Nat} {fl : ps_F} {x : Int32} (hF : ShF S f) (hFO : FO D f fl) (hl : fl.length ≤ 10) (hx : ∀ e ∈ fl, ps_t12 e.2) : EV G (d + 3) m_Fo_remove 0 (mx_lc0 m_Fo_remove [.ref f, .int x]) [] S D S (fun rv D' => FrF f D D' ∧ D' f 4 = D f 4 ∧ ((∃ (i : Nat) (e : Nat × List Nat), fl[i]? = some e ∧ nI e.1 = x ∧ (∀ (j : Nat) (u : Nat × List Nat), j < i → fl[j]? = some u → ¬ nI u.1 = x) ∧ rv = some (.int (nI 1)) ∧ FO D' f (fl.eraseIdx i)) ∨ ((∀ (j : Nat) (u : Nat × List Nat), fl[j]? = some u → ¬ nI u.1 = x) ∧ rv = some (.int (nI 0)) ∧ FO D' f fl))) := by
  show EV _ _ _ _ [some (.ref f), some (.int x), none] [] _ _ _ _
  refine EV.iconst (v := nI 0) d_Fo_remove_0 (by decide) ?_
  refine EV.istore_n d_Fo_remove_1 (by decide) ?_
  exact lp_Fo_remove hF hFO hl hx fl.length 0 (by omega) rfl (fun j u hj => absurd hj (by omega))
end
section
/-! the class as a whole: its cells are 0 to 79 -/
def SH (S : List mx_Sh) : Prop := S[0]? = some (.inl (6, [some (some 1), some (some 2), some (some 13), some (some 19), some (some 25), some (some 28), some (some 36)])) ∧ S[1]? = some (.inr (.inr (2, [some 3, some 7, some 11]))) ∧ S[2]? = some (.inr (.inr (3, [some 5, some 9]))) ∧ (ShL S 3 12 ∧ ShL S 7 12 ∧ ShL S 11 24) ∧ (ShK S 5 ∧ ShK S 9) ∧ (ShT S 13 ∧ ShT S 19) ∧ ShR S 25 ∧ ShM S 28 13 ∧ ShF S 36
/-- lines, table, form (strength, shifted, backward), file, next number -/
abbrev sg : Type := (Nat → List Nat) × ps_T × (Nat × Bool × Bool) × ps_F × Nat
def CI (D : mx_Mem) (σ : sg) : Prop := (LN D 3 (σ.1 0) ∧ LN D 7 (σ.1 1) ∧ LN D 11 (σ.1 2)) ∧ TBw D 13 σ.2.1 ∧ (D 28 7 = nI σ.2.2.1.1 ∧ D 28 8 = bI σ.2.2.1.2.1 ∧ D 28 9 = bI σ.2.2.1.2.2) ∧ FO D 36 σ.2.2.2.1 ∧ D 36 4 = nI σ.2.2.2.2
def ps_txt (c : Nat) : Bool := ps_letter c || ps_var c || ps_mark c
def ps_to (xs : List Nat) : Prop := xs.length ≤ 12 ∧ ∀ c ∈ xs, ps_txt c = true
def SI (σ : sg) : Prop := (ps_to (σ.1 0) ∧ ps_to (σ.1 1)) ∧ ((σ.1 2).length ≤ 24 ∧ ∀ c ∈ σ.1 2, 32 ≤ c ∧ c ≤ 126) ∧ ps_ok σ.2.1 ∧ (∀ c, (ps_letter c || ps_var c) = true → ps_has σ.2.1 [c]) ∧ (1 ≤ σ.2.2.1.1 ∧ σ.2.2.1.1 ≤ 4) ∧ (σ.2.2.2.1.length ≤ 10 ∧ (∀ e ∈ σ.2.2.2.1, ps_to e.2 ∧ e.1 < σ.2.2.2.2) ∧ ∀ (i j : Nat) (a b : Nat × List Nat), σ.2.2.2.1[i]? = some a → σ.2.2.2.1[j]? = some b → a.1 = b.1 → i = j)
theorem ps_txt_c {c : Nat} (h : ps_txt c = true) : 32 ≤ c ∧ c < 128 := by
  unfold ps_txt ps_letter ps_var ps_mark at h
  simp at h
  omega
theorem ps_to_tx {tb : ps_T} {xs : List Nat} (h : ps_to xs) (hs : ∀ c, (ps_letter c || ps_var c) = true → ps_has tb [c]) : ps_tx tb xs :=
  ⟨h.1, fun c hc => by have := ps_txt_c (h.2 c hc); omega, fun c hc hm => hs c (by have := h.2 c hc; unfold ps_txt at this; rw [hm, Bool.or_false] at this; exact this)⟩
theorem ps_to_12 {xs : List Nat} (h : ps_to xs) : ps_t12 xs := ⟨h.1, fun c hc => by have := ps_txt_c (h.2 c hc); omega⟩
/-- the key of a text as the form is -/
def sg_k (σ : sg) (xs : List Nat) : List Nat := ps_kt σ.2.1 σ.2.2.1.2.1 σ.2.2.1.2.2 σ.2.2.1.1 xs
def sg_ks (σ : sg) : List (List Nat) := σ.2.2.2.1.map (fun e => sg_k σ e.2)
def sg_up (σ : sg) (j : Nat) (xs : List Nat) : sg := (fun i => if i = j then xs else σ.1 i, σ.2)
theorem CI_kept {D D' : mx_Mem} {σ : sg} (h : CI D σ) (hl : σ.2.2.2.1.length ≤ 10) (hF : ∀ q, (q < 28 ∨ 35 < q) → q < 80 → ¬ q = 5 → ¬ q = 6 → ¬ q = 9 → ¬ q = 10 → (∀ j, j < 10 → ¬ q = 42 + 4 * j ∧ ¬ q = 43 + 4 * j) → D' q = D q) (hm : ∀ j, ¬ j = 4 → ¬ j = 5 → ¬ j = 6 → D' 28 j = D 28 j) : CI D' σ := by
  obtain ⟨⟨h1, h2, h3⟩, h4, ⟨h5, h6, h7⟩, h8, h9⟩ := h
  have g : ∀ q, (q < 28 ∨ 35 < q) → q < 42 → ¬ q = 5 → ¬ q = 6 → ¬ q = 9 → ¬ q = 10 → D' q = D q := fun q a b c d e f => hF q a (by omega) c d e f (fun j _ => by omega)
  refine ⟨⟨LN_kept h1 (g 3 (by omega) (by omega) (by omega) (by omega) (by omega) (by omega)) (g 4 (by omega) (by omega) (by omega) (by omega) (by omega) (by omega)), LN_kept h2 (g 7 (by omega) (by omega) (by omega) (by omega) (by omega) (by omega)) (g 8 (by omega) (by omega) (by omega) (by omega) (by omega) (by omega)), LN_kept h3 (g 11 (by omega) (by omega) (by omega) (by omega) (by omega) (by omega)) (g 12 (by omega) (by omega) (by omega) (by omega) (by omega) (by omega))⟩, TBw_kept h4 (fun j hj => g (13 + j) (by omega) (by omega) (by omega) (by omega) (by omega) (by omega)), ⟨by rw [hm 7 (by decide) (by decide) (by decide)]; exact h5, by rw [hm 8 (by decide) (by decide) (by decide)]; exact h6, by rw [hm 9 (by decide) (by decide) (by decide)]; exact h7⟩, FO_kept h8 hl (by rw [g 36 (by omega) (by omega) (by omega) (by omega) (by omega) (by omega)]) (g 38 (by omega) (by omega) (by omega) (by omega) (by omega) (by omega)) (fun i hi => ⟨hF _ (by omega) (by omega) (by omega) (by omega) (by omega) (by omega) (fun j _ => by omega), hF _ (by omega) (by omega) (by omega) (by omega) (by omega) (by omega) (fun j _ => by omega)⟩), by rw [g 36 (by omega) (by omega) (by omega) (by omega) (by omega) (by omega)]; exact h9⟩
/-- an answer x, the state σ, nothing behind cell 80 changed -/
def PC (D : mx_Mem) (σ : sg) (x : Int32) : Option Value → mx_Mem → Prop := fun rv D' => rv = some (.int x) ∧ CI D' σ ∧ ∀ q, 80 ≤ q → D' q = D q
set_option maxHeartbeats 4000000 in
set_option maxRecDepth 100000 in
theorem sp_To_isTextLine {G : mx_G} {d : Nat} {S : List mx_Sh} {D : mx_Mem} {x : Int32} : EV G d m_To_isTextLine 0 (mx_lc0 m_To_isTextLine [.int x]) [] S D S (RI (bI (decide (x = nI 0 ∨ x = nI 1))) D) := by
  show EV _ _ _ _ [some (.int x)] [] _ _ _ _
  refine EV.iload_n d_To_isTextLine_0 rfl ?_
  refine EV.if_lt (tgt := 13) d_To_isTextLine_1 (by decide) (fun h1 => ?_) (fun h1 => ?_)
  · have hx : ¬ (x = nI 0 ∨ x = nI 1) := fun h => by rcases h with rfl | rfl <;> exact absurd h1 (by decide)
    refine EV.iconst (v := nI 0) d_To_isTextLine_13 (by decide) ?_
    exact EV.ireturn d_To_isTextLine_14 ⟨_, rfl, rfl⟩ ⟨by first | rw [bI_t (by simpa using hx)] | rw [bI_f (by simpa using hx)], rfl⟩
  · refine EV.iload_n d_To_isTextLine_4 rfl ?_
    refine EV.iconst (v := nI 2) d_To_isTextLine_5 (by decide) ?_
    refine EV.icmp_ge (tgt := 13) d_To_isTextLine_6 (by decide) (fun h6 => ?_) (fun h6 => ?_)
    · have hx : ¬ (x = nI 0 ∨ x = nI 1) := fun h => by rcases h with rfl | rfl <;> exact absurd h6 (by decide)
      refine EV.iconst (v := nI 0) d_To_isTextLine_13 (by decide) ?_
      exact EV.ireturn d_To_isTextLine_14 ⟨_, rfl, rfl⟩ ⟨by first | rw [bI_t (by simpa using hx)] | rw [bI_f (by simpa using hx)], rfl⟩
    · have hx : x = nI 0 ∨ x = nI 1 := by
        rcases pk_ix x (n := 2) (by decide) with h | h | ⟨j, hj, rfl⟩
        · exact absurd h h1
        · exact absurd h h6
        · rcases (show j = 0 ∨ j = 1 by omega) with rfl | rfl
          · exact Or.inl rfl
          · exact Or.inr rfl
      refine EV.iconst (v := nI 1) d_To_isTextLine_9 (by decide) ?_
      refine EV.goto (tgt := 14) d_To_isTextLine_10 (by decide) ?_
      exact EV.ireturn d_To_isTextLine_14 ⟨_, rfl, rfl⟩ ⟨by first | rw [bI_t (by simpa using hx)] | rw [bI_f (by simpa using hx)], rfl⟩
set_option maxHeartbeats 4000000 in
set_option maxRecDepth 100000 in
theorem sp_To_keyOf0 {G : mx_G} {d : Nat} {S : List mx_Sh} {D : mx_Mem} {σ : sg} (hS : SH S) (hC : CI D σ) (hI : SI σ) : EV G (d + 6) m_To_keyOf 0 (mx_lc0 m_To_keyOf [.ref 0, .int (nI 0)]) [] S D S (fun rv D' => rv = some (.ref (5)) ∧ LN D' (5) (sg_k σ (σ.1 0)) ∧ ((sg_k σ (σ.1 0)).length ≤ 52 ∧ ∀ w ∈ sg_k σ (σ.1 0), w < 2 ^ 31) ∧ FrK 28 (5) D D' ∧ ∀ i, ¬ i = 4 → ¬ i = 5 → ¬ i = 6 → D' 28 i = D 28 i) := by
  obtain ⟨hz0, hz1, hz2, ⟨hL3, hL7, hL11⟩, ⟨hK5, hK9⟩, ⟨hT13, hT19⟩, hR25, hM28, hF36⟩ := id hS
  obtain ⟨hf0, hf1, hf2, hf3, hf4⟩ := id hF36
  show EV _ _ _ _ [some (.ref 0), some (.int (nI 0))] [] _ _ _ _
  refine EV.aload_n d_To_keyOf_0 rfl ?_
  refine EV.getR fl_To_47 d_To_keyOf_1 (by first | assumption | rfl) rfl ?_
  refine EV.aload_n d_To_keyOf_4 rfl ?_
  refine EV.getR fl_To_11 d_To_keyOf_5 (by first | assumption | rfl) rfl ?_
  refine EV.iload_n d_To_keyOf_8 rfl ?_
  refine EV.aaldN d_To_keyOf_9 (by first | assumption | rfl) rfl rfl rfl (by decide) rfl ?_
  refine EV.aload_n d_To_keyOf_10 rfl ?_
  refine EV.getR fl_To_17 d_To_keyOf_11 (by first | assumption | rfl) rfl ?_
  refine EV.iload_n d_To_keyOf_14 rfl ?_
  refine EV.aaldN d_To_keyOf_15 (by first | assumption | rfl) rfl rfl rfl (by decide) rfl ?_
  refine EV.V2 cv_To_149 d_To_keyOf_16 hM28.1 (sp_Km_make (n := 12) (tb := σ.2.1) (sh := σ.2.2.1.2.1) (bw := σ.2.2.1.2.2) (str := σ.2.2.1.1) (xs := σ.1 0) hM28 hT13 (by omega) hL3 (by omega) (by omega) hK5 (by omega) (by omega) (by omega) (by omega) hC.2.1 hI.2.2.1 hC.1.1 (ps_to_tx hI.1.1 hI.2.2.2.1) hC.2.2.1.1 hI.2.2.2.2.1.2 hC.2.2.1.2.1 hC.2.2.1.2.2) ⟨Nat.le_refl _, Nat.le_refl _⟩ rfl rfl (Nat.le_of_ble_eq_true rfl) (fun rv D1 hp => ?_)
  obtain ⟨rfl, q1, q2, q3, q4, q5⟩ := hp
  refine EV.aload_n d_To_keyOf_19 rfl ?_
  refine EV.getR fl_To_17 d_To_keyOf_20 (by first | assumption | rfl) rfl ?_
  refine EV.iload_n d_To_keyOf_23 rfl ?_
  refine EV.aaldN d_To_keyOf_24 (by first | assumption | rfl) rfl rfl rfl (by decide) rfl ?_
  exact EV.areturn d_To_keyOf_25 ⟨_, rfl⟩ ⟨rfl, q3, ⟨q4, q5⟩, q1, q2⟩
set_option maxHeartbeats 4000000 in
set_option maxRecDepth 100000 in
theorem sp_To_keyOf1 {G : mx_G} {d : Nat} {S : List mx_Sh} {D : mx_Mem} {σ : sg} (hS : SH S) (hC : CI D σ) (hI : SI σ) : EV G (d + 6) m_To_keyOf 0 (mx_lc0 m_To_keyOf [.ref 0, .int (nI 1)]) [] S D S (fun rv D' => rv = some (.ref (9)) ∧ LN D' (9) (sg_k σ (σ.1 1)) ∧ ((sg_k σ (σ.1 1)).length ≤ 52 ∧ ∀ w ∈ sg_k σ (σ.1 1), w < 2 ^ 31) ∧ FrK 28 (9) D D' ∧ ∀ i, ¬ i = 4 → ¬ i = 5 → ¬ i = 6 → D' 28 i = D 28 i) := by
  obtain ⟨hz0, hz1, hz2, ⟨hL3, hL7, hL11⟩, ⟨hK5, hK9⟩, ⟨hT13, hT19⟩, hR25, hM28, hF36⟩ := id hS
  obtain ⟨hf0, hf1, hf2, hf3, hf4⟩ := id hF36
  show EV _ _ _ _ [some (.ref 0), some (.int (nI 1))] [] _ _ _ _
  refine EV.aload_n d_To_keyOf_0 rfl ?_
  refine EV.getR fl_To_47 d_To_keyOf_1 (by first | assumption | rfl) rfl ?_
  refine EV.aload_n d_To_keyOf_4 rfl ?_
  refine EV.getR fl_To_11 d_To_keyOf_5 (by first | assumption | rfl) rfl ?_
  refine EV.iload_n d_To_keyOf_8 rfl ?_
  refine EV.aaldN d_To_keyOf_9 (by first | assumption | rfl) rfl rfl rfl (by decide) rfl ?_
  refine EV.aload_n d_To_keyOf_10 rfl ?_
  refine EV.getR fl_To_17 d_To_keyOf_11 (by first | assumption | rfl) rfl ?_
  refine EV.iload_n d_To_keyOf_14 rfl ?_
  refine EV.aaldN d_To_keyOf_15 (by first | assumption | rfl) rfl rfl rfl (by decide) rfl ?_
  refine EV.V2 cv_To_149 d_To_keyOf_16 hM28.1 (sp_Km_make (n := 12) (tb := σ.2.1) (sh := σ.2.2.1.2.1) (bw := σ.2.2.1.2.2) (str := σ.2.2.1.1) (xs := σ.1 1) hM28 hT13 (by omega) hL7 (by omega) (by omega) hK9 (by omega) (by omega) (by omega) (by omega) hC.2.1 hI.2.2.1 hC.1.2.1 (ps_to_tx hI.1.2 hI.2.2.2.1) hC.2.2.1.1 hI.2.2.2.2.1.2 hC.2.2.1.2.1 hC.2.2.1.2.2) ⟨Nat.le_refl _, Nat.le_refl _⟩ rfl rfl (Nat.le_of_ble_eq_true rfl) (fun rv D1 hp => ?_)
  obtain ⟨rfl, q1, q2, q3, q4, q5⟩ := hp
  refine EV.aload_n d_To_keyOf_19 rfl ?_
  refine EV.getR fl_To_17 d_To_keyOf_20 (by first | assumption | rfl) rfl ?_
  refine EV.iload_n d_To_keyOf_23 rfl ?_
  refine EV.aaldN d_To_keyOf_24 (by first | assumption | rfl) rfl rfl rfl (by decide) rfl ?_
  exact EV.areturn d_To_keyOf_25 ⟨_, rfl⟩ ⟨rfl, q3, ⟨q4, q5⟩, q1, q2⟩
set_option maxHeartbeats 4000000 in
set_option maxRecDepth 100000 in
theorem lp_To_makeFolderKeys {G : mx_G} {d : Nat} {S : List mx_Sh} {D0 : mx_Mem} {σ : sg} (hS : SH S) (hI : SI σ) : ∀ (n i : Nat) (D : mx_Mem), i ≤ σ.2.2.2.1.length → σ.2.2.2.1.length - i = n → CI D σ → (∀ j y, j < i → (sg_ks σ)[j]? = some y → LN D (36 + 6 + 4 * j) y ∧ y.length ≤ 52 ∧ ∀ w ∈ y, w < 2 ^ 31) → (∀ q, 80 ≤ q → D q = D0 q) → EV G (d + 6) m_To_makeFolderKeys 2 [some (.ref 0), some (.int (nI i))] [] S D S (fun rv D' => rv = none ∧ CI D' σ ∧ KS D' 36 (sg_ks σ) ∧ ∀ q, 80 ≤ q → D' q = D0 q) := by
  obtain ⟨hz0, hz1, hz2, ⟨hL3, hL7, hL11⟩, ⟨hK5, hK9⟩, ⟨hT13, hT19⟩, hR25, hM28, hF36⟩ := id hS
  obtain ⟨hf0, hf1, hf2, hf3, hf4⟩ := id hF36
  have hl10 := hI.2.2.2.2.2.1
  have hkl : (sg_ks σ).length = σ.2.2.2.1.length := by simp [sg_ks]
  intro n
  induction n with
  | zero =>
    intro i D h1 h2 hC hK hq
    refine EV.iload_n d_To_makeFolderKeys_2 rfl ?_
    refine EV.aload_n d_To_makeFolderKeys_3 rfl ?_
    refine EV.getR fl_To_54 d_To_makeFolderKeys_4 (by first | assumption | rfl) rfl ?_
    refine EV.getI fl_To_138 d_To_makeFolderKeys_7 (by first | assumption | rfl) rfl ?_
    refine EV.icmp_geN (tgt := 44) d_To_makeFolderKeys_10 (by decide) rfl hC.2.2.2.1.1 (by omega) (by omega) (fun h10 => ?_) (fun h10 => ?_)
    · exact EV.return_ d_To_makeFolderKeys_44 rfl ⟨rfl, hC, fun j y hy => hK j y (by have := (List.getElem?_eq_some_iff.mp hy).1; omega) hy, hq⟩
    · exfalso
      omega
  | succ n ih =>
    intro i D h1 h2 hC hK hq
    obtain ⟨e, he⟩ : ∃ e, σ.2.2.2.1[i]? = some e := ⟨σ.2.2.2.1[i]'(by omega), List.getElem?_eq_getElem (by omega)⟩
    obtain ⟨hsl, hsk⟩ := hf4 i (by omega)
    have hto := (hI.2.2.2.2.2.2.1 e (List.mem_of_getElem? he)).1
    have hks : (sg_ks σ)[i]? = some (sg_k σ e.2) := by simp [sg_ks, he]
    refine EV.iload_n d_To_makeFolderKeys_2 rfl ?_
    refine EV.aload_n d_To_makeFolderKeys_3 rfl ?_
    refine EV.getR fl_To_54 d_To_makeFolderKeys_4 (by first | assumption | rfl) rfl ?_
    refine EV.getI fl_To_138 d_To_makeFolderKeys_7 (by first | assumption | rfl) rfl ?_
    refine EV.icmp_geN (tgt := 44) d_To_makeFolderKeys_10 (by decide) rfl hC.2.2.2.1.1 (by omega) (by omega) (fun h10 => ?_) (fun h10 => ?_)
    · exfalso
      omega
    · refine EV.aload_n d_To_makeFolderKeys_13 rfl ?_
      refine EV.getR fl_To_47 d_To_makeFolderKeys_14 (by first | assumption | rfl) rfl ?_
      refine EV.aload_n d_To_makeFolderKeys_17 rfl ?_
      refine EV.getR fl_To_54 d_To_makeFolderKeys_18 (by first | assumption | rfl) rfl ?_
      refine EV.getR fl_To_153 d_To_makeFolderKeys_21 (by first | assumption | rfl) rfl ?_
      refine EV.iload_n d_To_makeFolderKeys_24 rfl ?_
      refine EV.aaldN d_To_makeFolderKeys_25 (by first | assumption | rfl) rfl rfl rfl (by omega) (ShF_t (by omega)) ?_
      refine EV.aload_n d_To_makeFolderKeys_26 rfl ?_
      refine EV.getR fl_To_54 d_To_makeFolderKeys_27 (by first | assumption | rfl) rfl ?_
      refine EV.getR fl_To_156 d_To_makeFolderKeys_30 (by first | assumption | rfl) rfl ?_
      refine EV.iload_n d_To_makeFolderKeys_33 rfl ?_
      refine EV.aaldN d_To_makeFolderKeys_34 (by first | assumption | rfl) rfl rfl rfl (by omega) (ShF_k (by omega)) ?_
      refine EV.V2 cv_To_149 d_To_makeFolderKeys_35 hM28.1 (sp_Km_make (n := 12) (tb := σ.2.1) (sh := σ.2.2.1.2.1) (bw := σ.2.2.1.2.2) (str := σ.2.2.1.1) (xs := e.2) hM28 hT13 (by omega) hsl (by omega) (by omega) hsk (by omega) (by omega) (by omega) (by omega) hC.2.1 hI.2.2.1 (hC.2.2.2.1.2.1 i e he).2 (ps_to_tx hto hI.2.2.2.1) hC.2.2.1.1 hI.2.2.2.2.1.2 hC.2.2.1.2.1 hC.2.2.1.2.2) ⟨Nat.le_refl _, Nat.le_refl _⟩ rfl rfl (Nat.le_of_ble_eq_true rfl) (fun rv D1 hp => ?_)
      obtain ⟨rfl, q1, q2, q3, q4, q5⟩ := hp
      refine EV.iincN d_To_makeFolderKeys_38 rfl (by decide) ?_
      refine EV.goto (tgt := 2) d_To_makeFolderKeys_41 (by decide) ?_
      refine ih (i + 1) D1 (by omega) (by omega) (CI_kept hC hl10 (fun q a b _ _ _ _ f => q1 q a (by have := (f i (by omega)).1; omega) (by have := (f i (by omega)).2; omega)) q2) (fun j y hj hy => ?_) (fun q h80 => (q1 q (by omega) (by omega) (by omega)).trans (hq q h80))
      by_cases z : j = i
      · subst z
        rw [hks] at hy
        cases hy
        exact ⟨q3, q4, q5⟩
      · obtain ⟨a1, a2⟩ := hK j y (by omega) hy
        exact ⟨LN_kept a1 (q1 _ (by omega) (by omega) (by omega)) (q1 _ (by omega) (by omega) (by omega)), a2⟩
set_option maxHeartbeats 4000000 in
set_option maxRecDepth 100000 in
theorem sp_To_makeFolderKeys {G : mx_G} {d : Nat} {S : List mx_Sh} {D0 : mx_Mem} {σ : sg} (hS : SH S) (hC : CI D0 σ) (hI : SI σ) : EV G (d + 6) m_To_makeFolderKeys 0 (mx_lc0 m_To_makeFolderKeys [.ref 0]) [] S D0 S (fun rv D' => rv = none ∧ CI D' σ ∧ KS D' 36 (sg_ks σ) ∧ ∀ q, 80 ≤ q → D' q = D0 q) := by
  show EV _ _ _ _ [some (.ref 0), none] [] _ _ _ _
  refine EV.iconst (v := nI 0) d_To_makeFolderKeys_0 (by decide) ?_
  refine EV.istore_n d_To_makeFolderKeys_1 (by decide) ?_
  exact lp_To_makeFolderKeys hS hI σ.2.2.2.1.length 0 D0 (by omega) rfl hC (fun j y hj => absurd hj (by omega)) (fun _ _ => rfl)
end
