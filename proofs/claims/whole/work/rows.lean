section
-- ===== PART A: goes FIRST, ahead of the names: the tables' words, and 'selects' of the private methods out of them =====
/-- a private method of a class that the tables say can be made, by its rows of tables_1 -/
def lw_okq (q : MethodName × Nat) : Prop := (q.1.cls ≠ "java/lang/invoke/MethodHandle" ∧ q.1.cls ≠ "java/lang/invoke/VarHandle") ∧ Cond.instantiable q.1.cls q.2 ∈ tables_1 ∧ Cond.privateMethod q.1 ∈ tables_1 ∧ Cond.instanceMethod q.1 ∈ tables_1
theorem lw_p0 : lw_okq (⟨"TailoredOrder$Table", "insert", "(III)V"⟩, 6) := ⟨⟨by decide +kernel, by decide +kernel⟩, List.mem_of_getElem? (i := 57) (by decide +kernel), List.mem_of_getElem? (i := 63) (by decide +kernel), List.mem_of_getElem? (i := 64) (by decide +kernel)⟩
theorem lw_p1 : lw_okq (⟨"TailoredOrder$Table", "weigh", "()V"⟩, 6) := ⟨⟨by decide +kernel, by decide +kernel⟩, List.mem_of_getElem? (i := 57) (by decide +kernel), List.mem_of_getElem? (i := 67) (by decide +kernel), List.mem_of_getElem? (i := 68) (by decide +kernel)⟩
theorem lw_p2 : lw_okq (⟨"TailoredOrder$Rule", "takes", "(C)Z"⟩, 5) := ⟨⟨by decide +kernel, by decide +kernel⟩, List.mem_of_getElem? (i := 100) (by decide +kernel), List.mem_of_getElem? (i := 248) (by decide +kernel), List.mem_of_getElem? (i := 249) (by decide +kernel)⟩
theorem lw_p3 : lw_okq (⟨"TailoredOrder$Rule", "sign", "(I)Z"⟩, 5) := ⟨⟨by decide +kernel, by decide +kernel⟩, List.mem_of_getElem? (i := 100) (by decide +kernel), List.mem_of_getElem? (i := 252) (by decide +kernel), List.mem_of_getElem? (i := 253) (by decide +kernel)⟩
theorem lw_p4 : lw_okq (⟨"TailoredOrder$Rule", "begin", "(C)Z"⟩, 5) := ⟨⟨by decide +kernel, by decide +kernel⟩, List.mem_of_getElem? (i := 100) (by decide +kernel), List.mem_of_getElem? (i := 257) (by decide +kernel), List.mem_of_getElem? (i := 258) (by decide +kernel)⟩
theorem lw_p5 : lw_okq (⟨"TailoredOrder$Rule", "goOn", "(C)Z"⟩, 5) := ⟨⟨by decide +kernel, by decide +kernel⟩, List.mem_of_getElem? (i := 100) (by decide +kernel), List.mem_of_getElem? (i := 261) (by decide +kernel), List.mem_of_getElem? (i := 262) (by decide +kernel)⟩
theorem lw_p6 : lw_okq (⟨"TailoredOrder$Table", "move", "(III)I"⟩, 6) := ⟨⟨by decide +kernel, by decide +kernel⟩, List.mem_of_getElem? (i := 57) (by decide +kernel), List.mem_of_getElem? (i := 288) (by decide +kernel), List.mem_of_getElem? (i := 289) (by decide +kernel)⟩
theorem lw_p7 : lw_okq (⟨"TailoredOrder$Table", "takeOut", "(I)V"⟩, 6) := ⟨⟨by decide +kernel, by decide +kernel⟩, List.mem_of_getElem? (i := 57) (by decide +kernel), List.mem_of_getElem? (i := 292) (by decide +kernel), List.mem_of_getElem? (i := 293) (by decide +kernel)⟩
theorem lw_p8 : lw_okq (⟨"TailoredOrder$Table", "putIn", "(III)V"⟩, 6) := ⟨⟨by decide +kernel, by decide +kernel⟩, List.mem_of_getElem? (i := 57) (by decide +kernel), List.mem_of_getElem? (i := 299) (by decide +kernel), List.mem_of_getElem? (i := 300) (by decide +kernel)⟩
theorem lw_p9 : lw_okq (⟨"TailoredOrder", "keyOf", "(I)LTailoredOrder$Key;"⟩, 7) := ⟨⟨by decide +kernel, by decide +kernel⟩, List.mem_of_getElem? (i := 12) (by decide +kernel), List.mem_of_getElem? (i := 329) (by decide +kernel), List.mem_of_getElem? (i := 330) (by decide +kernel)⟩
theorem lw_p10 : lw_okq (⟨"TailoredOrder$KeyMaker", "arrange", "(LTailoredOrder$Line;)V"⟩, 10) := ⟨⟨by decide +kernel, by decide +kernel⟩, List.mem_of_getElem? (i := 125) (by decide +kernel), List.mem_of_getElem? (i := 337) (by decide +kernel), List.mem_of_getElem? (i := 338) (by decide +kernel)⟩
theorem lw_p11 : lw_okq (⟨"TailoredOrder$KeyMaker", "findElements", "()V"⟩, 10) := ⟨⟨by decide +kernel, by decide +kernel⟩, List.mem_of_getElem? (i := 125) (by decide +kernel), List.mem_of_getElem? (i := 348) (by decide +kernel), List.mem_of_getElem? (i := 349) (by decide +kernel)⟩
theorem lw_p12 : lw_okq (⟨"TailoredOrder$KeyMaker", "addMark", "(C)V"⟩, 10) := ⟨⟨by decide +kernel, by decide +kernel⟩, List.mem_of_getElem? (i := 125) (by decide +kernel), List.mem_of_getElem? (i := 352) (by decide +kernel), List.mem_of_getElem? (i := 353) (by decide +kernel)⟩
theorem lw_p13 : lw_okq (⟨"TailoredOrder$KeyMaker", "addElement", "(IIII)V"⟩, 10) := ⟨⟨by decide +kernel, by decide +kernel⟩, List.mem_of_getElem? (i := 125) (by decide +kernel), List.mem_of_getElem? (i := 356) (by decide +kernel), List.mem_of_getElem? (i := 357) (by decide +kernel)⟩
theorem lw_p14 : lw_okq (⟨"TailoredOrder$KeyMaker", "takeEntry", "(I)I"⟩, 10) := ⟨⟨by decide +kernel, by decide +kernel⟩, List.mem_of_getElem? (i := 125) (by decide +kernel), List.mem_of_getElem? (i := 360) (by decide +kernel), List.mem_of_getElem? (i := 361) (by decide +kernel)⟩
theorem lw_p15 : lw_okq (⟨"TailoredOrder$KeyMaker", "headAt", "(I)I"⟩, 10) := ⟨⟨by decide +kernel, by decide +kernel⟩, List.mem_of_getElem? (i := 125) (by decide +kernel), List.mem_of_getElem? (i := 364) (by decide +kernel), List.mem_of_getElem? (i := 365) (by decide +kernel)⟩
def lw_privs_1 : List (MethodName × Nat) := [(⟨"TailoredOrder$Table", "insert", "(III)V"⟩, 6), (⟨"TailoredOrder$Table", "weigh", "()V"⟩, 6), (⟨"TailoredOrder$Rule", "takes", "(C)Z"⟩, 5), (⟨"TailoredOrder$Rule", "sign", "(I)Z"⟩, 5), (⟨"TailoredOrder$Rule", "begin", "(C)Z"⟩, 5), (⟨"TailoredOrder$Rule", "goOn", "(C)Z"⟩, 5), (⟨"TailoredOrder$Table", "move", "(III)I"⟩, 6), (⟨"TailoredOrder$Table", "takeOut", "(I)V"⟩, 6), (⟨"TailoredOrder$Table", "putIn", "(III)V"⟩, 6), (⟨"TailoredOrder", "keyOf", "(I)LTailoredOrder$Key;"⟩, 7), (⟨"TailoredOrder$KeyMaker", "arrange", "(LTailoredOrder$Line;)V"⟩, 10), (⟨"TailoredOrder$KeyMaker", "findElements", "()V"⟩, 10), (⟨"TailoredOrder$KeyMaker", "addMark", "(C)V"⟩, 10), (⟨"TailoredOrder$KeyMaker", "addElement", "(IIII)V"⟩, 10), (⟨"TailoredOrder$KeyMaker", "takeEntry", "(I)I"⟩, 10), (⟨"TailoredOrder$KeyMaker", "headAt", "(I)I"⟩, 10)]
theorem lw_r1 : ∀ q ∈ lw_privs_1, lw_okq q := List.forall_mem_cons.mpr ⟨lw_p0, List.forall_mem_cons.mpr ⟨lw_p1, List.forall_mem_cons.mpr ⟨lw_p2, List.forall_mem_cons.mpr ⟨lw_p3, List.forall_mem_cons.mpr ⟨lw_p4, List.forall_mem_cons.mpr ⟨lw_p5, List.forall_mem_cons.mpr ⟨lw_p6, List.forall_mem_cons.mpr ⟨lw_p7, List.forall_mem_cons.mpr ⟨lw_p8, List.forall_mem_cons.mpr ⟨lw_p9, List.forall_mem_cons.mpr ⟨lw_p10, List.forall_mem_cons.mpr ⟨lw_p11, List.forall_mem_cons.mpr ⟨lw_p12, List.forall_mem_cons.mpr ⟨lw_p13, List.forall_mem_cons.mpr ⟨lw_p14, List.forall_mem_cons.mpr ⟨lw_p15, fun _ h => absurd h List.not_mem_nil⟩⟩⟩⟩⟩⟩⟩⟩⟩⟩⟩⟩⟩⟩⟩⟩
theorem lw_p16 : lw_okq (⟨"TailoredOrder$KeyMaker", "isBlocked", "(CI)Z"⟩, 10) := ⟨⟨by decide +kernel, by decide +kernel⟩, List.mem_of_getElem? (i := 125) (by decide +kernel), List.mem_of_getElem? (i := 377) (by decide +kernel), List.mem_of_getElem? (i := 378) (by decide +kernel)⟩
theorem lw_p17 : lw_okq (⟨"TailoredOrder$KeyMaker", "findLonger", "(IC)I"⟩, 10) := ⟨⟨by decide +kernel, by decide +kernel⟩, List.mem_of_getElem? (i := 125) (by decide +kernel), List.mem_of_getElem? (i := 381) (by decide +kernel), List.mem_of_getElem? (i := 382) (by decide +kernel)⟩
theorem lw_p18 : lw_okq (⟨"TailoredOrder$KeyMaker", "addEntry", "(I)V"⟩, 10) := ⟨⟨by decide +kernel, by decide +kernel⟩, List.mem_of_getElem? (i := 125) (by decide +kernel), List.mem_of_getElem? (i := 387) (by decide +kernel), List.mem_of_getElem? (i := 388) (by decide +kernel)⟩
theorem lw_p19 : lw_okq (⟨"TailoredOrder$KeyMaker", "writeLevel", "(ILTailoredOrder$Key;)V"⟩, 10) := ⟨⟨by decide +kernel, by decide +kernel⟩, List.mem_of_getElem? (i := 125) (by decide +kernel), List.mem_of_getElem? (i := 392) (by decide +kernel), List.mem_of_getElem? (i := 393) (by decide +kernel)⟩
theorem lw_p20 : lw_okq (⟨"TailoredOrder$Folder", "closeUp", "(I)V"⟩, 5) := ⟨⟨by decide +kernel, by decide +kernel⟩, List.mem_of_getElem? (i := 164) (by decide +kernel), List.mem_of_getElem? (i := 435) (by decide +kernel), List.mem_of_getElem? (i := 436) (by decide +kernel)⟩
theorem lw_p21 : lw_okq (⟨"TailoredOrder", "makeFolderKeys", "()V"⟩, 7) := ⟨⟨by decide +kernel, by decide +kernel⟩, List.mem_of_getElem? (i := 12) (by decide +kernel), List.mem_of_getElem? (i := 447) (by decide +kernel), List.mem_of_getElem? (i := 448) (by decide +kernel)⟩
theorem lw_p22 : lw_okq (⟨"TailoredOrder$Folder", "placeOf", "(I)I"⟩, 5) := ⟨⟨by decide +kernel, by decide +kernel⟩, List.mem_of_getElem? (i := 164) (by decide +kernel), List.mem_of_getElem? (i := 455) (by decide +kernel), List.mem_of_getElem? (i := 456) (by decide +kernel)⟩
theorem lw_p23 : lw_okq (⟨"TailoredOrderModel", "isLine", "(I)Z"⟩, 23) := ⟨⟨by decide +kernel, by decide +kernel⟩, List.mem_of_getElem? (i := 469) (by decide +kernel), List.mem_of_getElem? (i := 555) (by decide +kernel), List.mem_of_getElem? (i := 556) (by decide +kernel)⟩
theorem lw_p24 : lw_okq (⟨"TailoredOrderModel", "fault", "()I"⟩, 23) := ⟨⟨by decide +kernel, by decide +kernel⟩, List.mem_of_getElem? (i := 469) (by decide +kernel), List.mem_of_getElem? (i := 567) (by decide +kernel), List.mem_of_getElem? (i := 568) (by decide +kernel)⟩
theorem lw_p25 : lw_okq (⟨"TailoredOrderModel", "done", "()I"⟩, 23) := ⟨⟨by decide +kernel, by decide +kernel⟩, List.mem_of_getElem? (i := 469) (by decide +kernel), List.mem_of_getElem? (i := 574) (by decide +kernel), List.mem_of_getElem? (i := 575) (by decide +kernel)⟩
theorem lw_p26 : lw_okq (⟨"TailoredOrderModel", "findNew", "(I)I"⟩, 23) := ⟨⟨by decide +kernel, by decide +kernel⟩, List.mem_of_getElem? (i := 469) (by decide +kernel), List.mem_of_getElem? (i := 578) (by decide +kernel), List.mem_of_getElem? (i := 579) (by decide +kernel)⟩
theorem lw_p27 : lw_okq (⟨"TailoredOrderModel", "relate", "(III)I"⟩, 23) := ⟨⟨by decide +kernel, by decide +kernel⟩, List.mem_of_getElem? (i := 469) (by decide +kernel), List.mem_of_getElem? (i := 582) (by decide +kernel), List.mem_of_getElem? (i := 583) (by decide +kernel)⟩
theorem lw_p28 : lw_okq (⟨"TailoredOrderModel", "takeOut", "(I)V"⟩, 23) := ⟨⟨by decide +kernel, by decide +kernel⟩, List.mem_of_getElem? (i := 469) (by decide +kernel), List.mem_of_getElem? (i := 586) (by decide +kernel), List.mem_of_getElem? (i := 587) (by decide +kernel)⟩
theorem lw_p29 : lw_okq (⟨"TailoredOrderModel", "putIn", "(III)V"⟩, 23) := ⟨⟨by decide +kernel, by decide +kernel⟩, List.mem_of_getElem? (i := 469) (by decide +kernel), List.mem_of_getElem? (i := 590) (by decide +kernel), List.mem_of_getElem? (i := 591) (by decide +kernel)⟩
theorem lw_p30 : lw_okq (⟨"TailoredOrderModel", "weight", "(II)I"⟩, 23) := ⟨⟨by decide +kernel, by decide +kernel⟩, List.mem_of_getElem? (i := 469) (by decide +kernel), List.mem_of_getElem? (i := 602) (by decide +kernel), List.mem_of_getElem? (i := 603) (by decide +kernel)⟩
theorem lw_p31 : lw_okq (⟨"TailoredOrderModel", "write", "(I)V"⟩, 23) := ⟨⟨by decide +kernel, by decide +kernel⟩, List.mem_of_getElem? (i := 469) (by decide +kernel), List.mem_of_getElem? (i := 614) (by decide +kernel), List.mem_of_getElem? (i := 615) (by decide +kernel)⟩
def lw_privs_2 : List (MethodName × Nat) := [(⟨"TailoredOrder$KeyMaker", "isBlocked", "(CI)Z"⟩, 10), (⟨"TailoredOrder$KeyMaker", "findLonger", "(IC)I"⟩, 10), (⟨"TailoredOrder$KeyMaker", "addEntry", "(I)V"⟩, 10), (⟨"TailoredOrder$KeyMaker", "writeLevel", "(ILTailoredOrder$Key;)V"⟩, 10), (⟨"TailoredOrder$Folder", "closeUp", "(I)V"⟩, 5), (⟨"TailoredOrder", "makeFolderKeys", "()V"⟩, 7), (⟨"TailoredOrder$Folder", "placeOf", "(I)I"⟩, 5), (⟨"TailoredOrderModel", "isLine", "(I)Z"⟩, 23), (⟨"TailoredOrderModel", "fault", "()I"⟩, 23), (⟨"TailoredOrderModel", "done", "()I"⟩, 23), (⟨"TailoredOrderModel", "findNew", "(I)I"⟩, 23), (⟨"TailoredOrderModel", "relate", "(III)I"⟩, 23), (⟨"TailoredOrderModel", "takeOut", "(I)V"⟩, 23), (⟨"TailoredOrderModel", "putIn", "(III)V"⟩, 23), (⟨"TailoredOrderModel", "weight", "(II)I"⟩, 23), (⟨"TailoredOrderModel", "write", "(I)V"⟩, 23)]
theorem lw_r2 : ∀ q ∈ lw_privs_2, lw_okq q := List.forall_mem_cons.mpr ⟨lw_p16, List.forall_mem_cons.mpr ⟨lw_p17, List.forall_mem_cons.mpr ⟨lw_p18, List.forall_mem_cons.mpr ⟨lw_p19, List.forall_mem_cons.mpr ⟨lw_p20, List.forall_mem_cons.mpr ⟨lw_p21, List.forall_mem_cons.mpr ⟨lw_p22, List.forall_mem_cons.mpr ⟨lw_p23, List.forall_mem_cons.mpr ⟨lw_p24, List.forall_mem_cons.mpr ⟨lw_p25, List.forall_mem_cons.mpr ⟨lw_p26, List.forall_mem_cons.mpr ⟨lw_p27, List.forall_mem_cons.mpr ⟨lw_p28, List.forall_mem_cons.mpr ⟨lw_p29, List.forall_mem_cons.mpr ⟨lw_p30, List.forall_mem_cons.mpr ⟨lw_p31, fun _ h => absurd h List.not_mem_nil⟩⟩⟩⟩⟩⟩⟩⟩⟩⟩⟩⟩⟩⟩⟩⟩
theorem lw_p32 : lw_okq (⟨"TailoredOrderModel", "findElements", "(I)V"⟩, 23) := ⟨⟨by decide +kernel, by decide +kernel⟩, List.mem_of_getElem? (i := 469) (by decide +kernel), List.mem_of_getElem? (i := 618) (by decide +kernel), List.mem_of_getElem? (i := 619) (by decide +kernel)⟩
theorem lw_p33 : lw_okq (⟨"TailoredOrderModel", "settle", "()V"⟩, 23) := ⟨⟨by decide +kernel, by decide +kernel⟩, List.mem_of_getElem? (i := 469) (by decide +kernel), List.mem_of_getElem? (i := 622) (by decide +kernel), List.mem_of_getElem? (i := 623) (by decide +kernel)⟩
theorem lw_p34 : lw_okq (⟨"TailoredOrderModel", "markElement", "(I)V"⟩, 23) := ⟨⟨by decide +kernel, by decide +kernel⟩, List.mem_of_getElem? (i := 469) (by decide +kernel), List.mem_of_getElem? (i := 629) (by decide +kernel), List.mem_of_getElem? (i := 630) (by decide +kernel)⟩
theorem lw_p35 : lw_okq (⟨"TailoredOrderModel", "element", "(IIII)V"⟩, 23) := ⟨⟨by decide +kernel, by decide +kernel⟩, List.mem_of_getElem? (i := 469) (by decide +kernel), List.mem_of_getElem? (i := 633) (by decide +kernel), List.mem_of_getElem? (i := 634) (by decide +kernel)⟩
theorem lw_p36 : lw_okq (⟨"TailoredOrderModel", "remove", "(I)V"⟩, 23) := ⟨⟨by decide +kernel, by decide +kernel⟩, List.mem_of_getElem? (i := 469) (by decide +kernel), List.mem_of_getElem? (i := 637) (by decide +kernel), List.mem_of_getElem? (i := 638) (by decide +kernel)⟩
theorem lw_p37 : lw_okq (⟨"TailoredOrderModel", "entryElement", "()V"⟩, 23) := ⟨⟨by decide +kernel, by decide +kernel⟩, List.mem_of_getElem? (i := 469) (by decide +kernel), List.mem_of_getElem? (i := 641) (by decide +kernel), List.mem_of_getElem? (i := 642) (by decide +kernel)⟩
theorem lw_p38 : lw_okq (⟨"TailoredOrderModel", "begins", "(I)I"⟩, 23) := ⟨⟨by decide +kernel, by decide +kernel⟩, List.mem_of_getElem? (i := 469) (by decide +kernel), List.mem_of_getElem? (i := 645) (by decide +kernel), List.mem_of_getElem? (i := 646) (by decide +kernel)⟩
theorem lw_p39 : lw_okq (⟨"TailoredOrderModel", "find", "(I)I"⟩, 23) := ⟨⟨by decide +kernel, by decide +kernel⟩, List.mem_of_getElem? (i := 469) (by decide +kernel), List.mem_of_getElem? (i := 649) (by decide +kernel), List.mem_of_getElem? (i := 650) (by decide +kernel)⟩
theorem lw_p40 : lw_okq (⟨"TailoredOrderModel", "order", "(II)I"⟩, 23) := ⟨⟨by decide +kernel, by decide +kernel⟩, List.mem_of_getElem? (i := 469) (by decide +kernel), List.mem_of_getElem? (i := 661) (by decide +kernel), List.mem_of_getElem? (i := 662) (by decide +kernel)⟩
def lw_privs_3 : List (MethodName × Nat) := [(⟨"TailoredOrderModel", "findElements", "(I)V"⟩, 23), (⟨"TailoredOrderModel", "settle", "()V"⟩, 23), (⟨"TailoredOrderModel", "markElement", "(I)V"⟩, 23), (⟨"TailoredOrderModel", "element", "(IIII)V"⟩, 23), (⟨"TailoredOrderModel", "remove", "(I)V"⟩, 23), (⟨"TailoredOrderModel", "entryElement", "()V"⟩, 23), (⟨"TailoredOrderModel", "begins", "(I)I"⟩, 23), (⟨"TailoredOrderModel", "find", "(I)I"⟩, 23), (⟨"TailoredOrderModel", "order", "(II)I"⟩, 23)]
theorem lw_r3 : ∀ q ∈ lw_privs_3, lw_okq q := List.forall_mem_cons.mpr ⟨lw_p32, List.forall_mem_cons.mpr ⟨lw_p33, List.forall_mem_cons.mpr ⟨lw_p34, List.forall_mem_cons.mpr ⟨lw_p35, List.forall_mem_cons.mpr ⟨lw_p36, List.forall_mem_cons.mpr ⟨lw_p37, List.forall_mem_cons.mpr ⟨lw_p38, List.forall_mem_cons.mpr ⟨lw_p39, List.forall_mem_cons.mpr ⟨lw_p40, fun _ h => absurd h List.not_mem_nil⟩⟩⟩⟩⟩⟩⟩⟩⟩
def lw_privs : List (MethodName × Nat) := lw_privs_1 ++ (lw_privs_2 ++ (lw_privs_3))
def lw_tbl : List Cond := k2_sels lw_privs ++ tables_1
theorem lw_privs_ok : ∀ q ∈ lw_privs, lw_okq q := by
  show ∀ q ∈ lw_privs_1 ++ (lw_privs_2 ++ (lw_privs_3)), lw_okq q
  exact List.forall_mem_append.mpr ⟨lw_r1, List.forall_mem_append.mpr ⟨lw_r2, lw_r3⟩⟩
end
section
/-! NAMES: classes, fields, methods (by program out of the listing and the tables of words) -/
def RX0 : String := "TailoredOrder$Folder"
def TX0 : u_T := fun k => match k with
  | 0 => ("TailoredOrder$Folder", "texts", "[LTailoredOrder$Line;", true)
  | 1 => ("TailoredOrder$Folder", "numbers", "[I", true)
  | 2 => ("TailoredOrder$Folder", "keys", "[LTailoredOrder$Key;", true)
  | 3 => ("TailoredOrder$Folder", "count", "I", false)
  | _ => ("TailoredOrder$Folder", "next", "I", false)
def RX1 : String := "TailoredOrder$Key"
def TX1 : u_T := fun k => match k with
  | 0 => ("TailoredOrder$Key", "numbers", "[I", true)
  | _ => ("TailoredOrder$Key", "length", "I", false)
def RX2 : String := "TailoredOrder$KeyMaker"
def TX2 : u_T := fun k => match k with
  | 0 => ("TailoredOrder$KeyMaker", "table", "LTailoredOrder$Table;", true)
  | 1 => ("TailoredOrder$KeyMaker", "text", "[C", true)
  | 2 => ("TailoredOrder$KeyMaker", "passed", "[C", true)
  | 3 => ("TailoredOrder$KeyMaker", "weights", "[[I", true)
  | 4 => ("TailoredOrder$KeyMaker", "length", "I", false)
  | 5 => ("TailoredOrder$KeyMaker", "elements", "I", false)
  | 6 => ("TailoredOrder$KeyMaker", "behindVariable", "Z", false)
  | 7 => ("TailoredOrder$KeyMaker", "strength", "I", false)
  | 8 => ("TailoredOrder$KeyMaker", "shifted", "Z", false)
  | _ => ("TailoredOrder$KeyMaker", "backward", "Z", false)
def RX3 : String := "TailoredOrder$Line"
def TX3 : u_T := fun k => match k with
  | 0 => ("TailoredOrder$Line", "chars", "[C", true)
  | _ => ("TailoredOrder$Line", "length", "I", false)
def RX4 : String := "TailoredOrder$Rule"
def TX4 : u_T := fun k => match k with
  | 0 => ("TailoredOrder$Rule", "strings", "[I", true)
  | 1 => ("TailoredOrder$Rule", "steps", "[I", true)
  | 2 => ("TailoredOrder$Rule", "count", "I", false)
  | 3 => ("TailoredOrder$Rule", "state", "I", false)
  | _ => ("TailoredOrder$Rule", "step", "I", false)
def RX5 : String := "TailoredOrder$Table"
def TX5 : u_T := fun k => match k with
  | 0 => ("TailoredOrder$Table", "strings", "[I", true)
  | 1 => ("TailoredOrder$Table", "steps", "[I", true)
  | 2 => ("TailoredOrder$Table", "primaries", "[I", true)
  | 3 => ("TailoredOrder$Table", "secondaries", "[I", true)
  | 4 => ("TailoredOrder$Table", "tertiaries", "[I", true)
  | _ => ("TailoredOrder$Table", "count", "I", false)
def RX6 : String := "TailoredOrder"
def TX6 : u_T := fun k => match k with
  | 0 => ("TailoredOrder", "lines", "[LTailoredOrder$Line;", true)
  | 1 => ("TailoredOrder", "lineKeys", "[LTailoredOrder$Key;", true)
  | 2 => ("TailoredOrder", "table", "LTailoredOrder$Table;", true)
  | 3 => ("TailoredOrder", "trial", "LTailoredOrder$Table;", true)
  | 4 => ("TailoredOrder", "rule", "LTailoredOrder$Rule;", true)
  | 5 => ("TailoredOrder", "maker", "LTailoredOrder$KeyMaker;", true)
  | _ => ("TailoredOrder", "folder", "LTailoredOrder$Folder;", true)
def RX7 : String := "TailoredOrderModel"
def TX7 : u_T := fun k => match k with
  | 0 => ("TailoredOrderModel", "count", "I", false)
  | 1 => ("TailoredOrderModel", "strings", "[I", true)
  | 2 => ("TailoredOrderModel", "steps", "[I", true)
  | 3 => ("TailoredOrderModel", "newCount", "I", false)
  | 4 => ("TailoredOrderModel", "newStrings", "[I", true)
  | 5 => ("TailoredOrderModel", "newSteps", "[I", true)
  | 6 => ("TailoredOrderModel", "rule", "[I", true)
  | 7 => ("TailoredOrderModel", "ruled", "I", false)
  | 8 => ("TailoredOrderModel", "texts", "[I", true)
  | 9 => ("TailoredOrderModel", "lengths", "[I", true)
  | 10 => ("TailoredOrderModel", "numbers", "[I", true)
  | 11 => ("TailoredOrderModel", "filed", "I", false)
  | 12 => ("TailoredOrderModel", "given", "I", false)
  | 13 => ("TailoredOrderModel", "strength", "I", false)
  | 14 => ("TailoredOrderModel", "shifted", "Z", false)
  | 15 => ("TailoredOrderModel", "backward", "Z", false)
  | 16 => ("TailoredOrderModel", "rest", "[I", true)
  | 17 => ("TailoredOrderModel", "left", "I", false)
  | 18 => ("TailoredOrderModel", "weights", "[I", true)
  | 19 => ("TailoredOrderModel", "elements", "I", false)
  | 20 => ("TailoredOrderModel", "variable", "Z", false)
  | 21 => ("TailoredOrderModel", "keys", "[I", true)
  | _ => ("TailoredOrderModel", "keyLengths", "[I", true)
abbrev vwCl : List vw_C := [(RX0, TX0, 5), (RX1, TX1, 2), (RX2, TX2, 10), (RX3, TX3, 2), (RX4, TX4, 5), (RX5, TX5, 6), (RX6, TX6, 7), (RX7, TX7, 23)]
def mx_ty : List FieldType := [.int, .char, .object RX3, .object RX1, .array .int]
def mx_KL : Nat := 35
def mx_ao : List String := [RX3, RX1]
def mx_good (w : Cond) : Bool := (w.onTables && w.keeps) || (match w with | .arrayClass _ => true | _ => false)
def mx_gw : List Cond := lw_tbl.filter mx_good
def mx_isn (w : Cond) : Bool := match w with | .fieldLinkNest .. => true | .methodLinkNest .. => true | _ => false
def mx_nw : List Cond := lw_tbl.filter mx_isn
theorem mx_in (i : Nat) {w : Cond} (h : lw_tbl[i]? = some w) (hg : mx_good w = true) : w ∈ mx_gw := List.mem_filter.mpr ⟨List.mem_of_getElem? h, hg⟩
theorem mx_inn (i : Nat) {w : Cond} (h : lw_tbl[i]? = some w) (hg : mx_isn w = true) : w ∈ mx_nw := List.mem_filter.mpr ⟨List.mem_of_getElem? h, hg⟩
def mx_NW (U : State) : Prop := (∀ w ∈ mx_nw, va_Nw w U) ∧ (∀ C ∈ mx_ao, va_AO C U)
abbrev mx_M : Type := MethodName × ByteArray × Nat × Option FieldType
def y_To_init : MethodName := ⟨"TailoredOrder", "<init>", "()V"⟩
abbrev m_To_init : mx_M := (y_To_init, prog_1_method_1_code, 2, none)
def y_To_type : MethodName := ⟨"TailoredOrder", "type", "(IC)Z"⟩
abbrev m_To_type : mx_M := (y_To_type, prog_1_method_2_code, 4, some .boolean)
def y_To_wipe : MethodName := ⟨"TailoredOrder", "wipe", "(I)I"⟩
abbrev m_To_wipe : mx_M := (y_To_wipe, prog_1_method_3_code, 2, some .int)
def y_To_tailor : MethodName := ⟨"TailoredOrder", "tailor", "()I"⟩
abbrev m_To_tailor : mx_M := (y_To_tailor, prog_1_method_4_code, 3, some .int)
def y_To_entries : MethodName := ⟨"TailoredOrder", "entries", "()I"⟩
abbrev m_To_entries : mx_M := (y_To_entries, prog_1_method_5_code, 1, some .int)
def y_To_entry : MethodName := ⟨"TailoredOrder", "entry", "(II)I"⟩
abbrev m_To_entry : mx_M := (y_To_entry, prog_1_method_6_code, 4, some .int)
def y_To_form : MethodName := ⟨"TailoredOrder", "form", "(IZZ)Z"⟩
abbrev m_To_form : mx_M := (y_To_form, prog_1_method_7_code, 4, some .boolean)
def y_To_keyLength : MethodName := ⟨"TailoredOrder", "keyLength", "(I)I"⟩
abbrev m_To_keyLength : mx_M := (y_To_keyLength, prog_1_method_8_code, 2, some .int)
def y_To_keyAt : MethodName := ⟨"TailoredOrder", "keyAt", "(II)I"⟩
abbrev m_To_keyAt : mx_M := (y_To_keyAt, prog_1_method_9_code, 4, some .int)
def y_To_compare : MethodName := ⟨"TailoredOrder", "compare", "()I"⟩
abbrev m_To_compare : mx_M := (y_To_compare, prog_1_method_10_code, 1, some .int)
def y_To_file : MethodName := ⟨"TailoredOrder", "file", "(I)I"⟩
abbrev m_To_file : mx_M := (y_To_file, prog_1_method_11_code, 2, some .int)
def y_To_unfile : MethodName := ⟨"TailoredOrder", "unfile", "(I)Z"⟩
abbrev m_To_unfile : mx_M := (y_To_unfile, prog_1_method_12_code, 2, some .boolean)
def y_To_filed : MethodName := ⟨"TailoredOrder", "filed", "()I"⟩
abbrev m_To_filed : mx_M := (y_To_filed, prog_1_method_13_code, 1, some .int)
def y_To_inOrder : MethodName := ⟨"TailoredOrder", "inOrder", "(I)I"⟩
abbrev m_To_inOrder : mx_M := (y_To_inOrder, prog_1_method_14_code, 2, some .int)
def y_To_below : MethodName := ⟨"TailoredOrder", "below", "(I)I"⟩
abbrev m_To_below : mx_M := (y_To_below, prog_1_method_15_code, 2, some .int)
def y_To_isTextLine : MethodName := ⟨"TailoredOrder", "isTextLine", "(I)Z"⟩
abbrev m_To_isTextLine : mx_M := (y_To_isTextLine, prog_1_method_16_code, 1, some .boolean)
def y_To_keyOf : MethodName := ⟨"TailoredOrder", "keyOf", "(I)LTailoredOrder$Key;"⟩
abbrev m_To_keyOf : mx_M := (y_To_keyOf, prog_1_method_17_code, 2, some (.object "TailoredOrder$Key"))
def y_To_makeFolderKeys : MethodName := ⟨"TailoredOrder", "makeFolderKeys", "()V"⟩
abbrev m_To_makeFolderKeys : mx_M := (y_To_makeFolderKeys, prog_1_method_18_code, 2, none)
def y_To_isLetter : MethodName := ⟨"TailoredOrder", "isLetter", "(I)Z"⟩
abbrev m_To_isLetter : mx_M := (y_To_isLetter, prog_1_method_19_code, 1, some .boolean)
def y_To_isVariable : MethodName := ⟨"TailoredOrder", "isVariable", "(I)Z"⟩
abbrev m_To_isVariable : mx_M := (y_To_isVariable, prog_1_method_20_code, 1, some .boolean)
def y_To_isMark : MethodName := ⟨"TailoredOrder", "isMark", "(I)Z"⟩
abbrev m_To_isMark : mx_M := (y_To_isMark, prog_1_method_21_code, 1, some .boolean)
def y_To_classOf : MethodName := ⟨"TailoredOrder", "classOf", "(I)I"⟩
abbrev m_To_classOf : mx_M := (y_To_classOf, prog_1_method_22_code, 1, some .int)
def y_To_characterOf : MethodName := ⟨"TailoredOrder", "characterOf", "(II)I"⟩
abbrev m_To_characterOf : mx_M := (y_To_characterOf, prog_1_method_23_code, 2, some .int)
def y_To_lengthOf : MethodName := ⟨"TailoredOrder", "lengthOf", "(I)I"⟩
abbrev m_To_lengthOf : mx_M := (y_To_lengthOf, prog_1_method_24_code, 1, some .int)
def y_To_joined : MethodName := ⟨"TailoredOrder", "joined", "(III)I"⟩
abbrev m_To_joined : mx_M := (y_To_joined, prog_1_method_25_code, 3, some .int)
def y_To_firstOf : MethodName := ⟨"TailoredOrder", "firstOf", "(II)I"⟩
abbrev m_To_firstOf : mx_M := (y_To_firstOf, prog_1_method_26_code, 2, some .int)
def y_Mo_init : MethodName := ⟨"TailoredOrderModel", "<init>", "()V"⟩
abbrev m_Mo_init : mx_M := (y_Mo_init, prog_9_method_1_code, 2, none)
def y_Mo_isLetter : MethodName := ⟨"TailoredOrderModel", "isLetter", "(I)Z"⟩
abbrev m_Mo_isLetter : mx_M := (y_Mo_isLetter, prog_9_method_2_code, 1, some .boolean)
def y_Mo_isMark : MethodName := ⟨"TailoredOrderModel", "isMark", "(I)Z"⟩
abbrev m_Mo_isMark : mx_M := (y_Mo_isMark, prog_9_method_3_code, 1, some .boolean)
def y_Mo_classOf : MethodName := ⟨"TailoredOrderModel", "classOf", "(I)I"⟩
abbrev m_Mo_classOf : mx_M := (y_Mo_classOf, prog_9_method_4_code, 1, some .int)
def y_Mo_isLine : MethodName := ⟨"TailoredOrderModel", "isLine", "(I)Z"⟩
abbrev m_Mo_isLine : mx_M := (y_Mo_isLine, prog_9_method_5_code, 2, some .boolean)
def y_Mo_type : MethodName := ⟨"TailoredOrderModel", "type", "(IC)Z"⟩
abbrev m_Mo_type : mx_M := (y_Mo_type, prog_9_method_6_code, 4, some .boolean)
def y_Mo_wipe : MethodName := ⟨"TailoredOrderModel", "wipe", "(I)I"⟩
abbrev m_Mo_wipe : mx_M := (y_Mo_wipe, prog_9_method_7_code, 3, some .int)
def y_Mo_after : MethodName := ⟨"TailoredOrderModel", "after", "(II)I"⟩
abbrev m_Mo_after : mx_M := (y_Mo_after, prog_9_method_8_code, 4, some .int)
def y_Mo_fault : MethodName := ⟨"TailoredOrderModel", "fault", "()I"⟩
abbrev m_Mo_fault : mx_M := (y_Mo_fault, prog_9_method_9_code, 3, some .int)
def y_Mo_findNew : MethodName := ⟨"TailoredOrderModel", "findNew", "(I)I"⟩
abbrev m_Mo_findNew : mx_M := (y_Mo_findNew, prog_9_method_10_code, 3, some .int)
def y_Mo_takeOut : MethodName := ⟨"TailoredOrderModel", "takeOut", "(I)V"⟩
abbrev m_Mo_takeOut : mx_M := (y_Mo_takeOut, prog_9_method_11_code, 3, none)
def y_Mo_putIn : MethodName := ⟨"TailoredOrderModel", "putIn", "(III)V"⟩
abbrev m_Mo_putIn : mx_M := (y_Mo_putIn, prog_9_method_12_code, 6, none)
def y_Mo_relate : MethodName := ⟨"TailoredOrderModel", "relate", "(III)I"⟩
abbrev m_Mo_relate : mx_M := (y_Mo_relate, prog_9_method_13_code, 6, some .int)
def y_Mo_done : MethodName := ⟨"TailoredOrderModel", "done", "()I"⟩
abbrev m_Mo_done : mx_M := (y_Mo_done, prog_9_method_14_code, 7, some .int)
def y_Mo_tailor : MethodName := ⟨"TailoredOrderModel", "tailor", "()I"⟩
abbrev m_Mo_tailor : mx_M := (y_Mo_tailor, prog_9_method_15_code, 3, some .int)
def y_Mo_entries : MethodName := ⟨"TailoredOrderModel", "entries", "()I"⟩
abbrev m_Mo_entries : mx_M := (y_Mo_entries, prog_9_method_16_code, 1, some .int)
def y_Mo_find : MethodName := ⟨"TailoredOrderModel", "find", "(I)I"⟩
abbrev m_Mo_find : mx_M := (y_Mo_find, prog_9_method_17_code, 3, some .int)
def y_Mo_weight : MethodName := ⟨"TailoredOrderModel", "weight", "(II)I"⟩
abbrev m_Mo_weight : mx_M := (y_Mo_weight, prog_9_method_18_code, 5, some .int)
def y_Mo_entry : MethodName := ⟨"TailoredOrderModel", "entry", "(II)I"⟩
abbrev m_Mo_entry : mx_M := (y_Mo_entry, prog_9_method_19_code, 4, some .int)
def y_Mo_settle : MethodName := ⟨"TailoredOrderModel", "settle", "()V"⟩
abbrev m_Mo_settle : mx_M := (y_Mo_settle, prog_9_method_20_code, 5, none)
def y_Mo_remove : MethodName := ⟨"TailoredOrderModel", "remove", "(I)V"⟩
abbrev m_Mo_remove : mx_M := (y_Mo_remove, prog_9_method_21_code, 3, none)
def y_Mo_element : MethodName := ⟨"TailoredOrderModel", "element", "(IIII)V"⟩
abbrev m_Mo_element : mx_M := (y_Mo_element, prog_9_method_22_code, 5, none)
def y_Mo_markElement : MethodName := ⟨"TailoredOrderModel", "markElement", "(I)V"⟩
abbrev m_Mo_markElement : mx_M := (y_Mo_markElement, prog_9_method_23_code, 2, none)
def y_Mo_begins : MethodName := ⟨"TailoredOrderModel", "begins", "(I)I"⟩
abbrev m_Mo_begins : mx_M := (y_Mo_begins, prog_9_method_24_code, 4, some .int)
def y_Mo_entryElement : MethodName := ⟨"TailoredOrderModel", "entryElement", "()V"⟩
abbrev m_Mo_entryElement : mx_M := (y_Mo_entryElement, prog_9_method_25_code, 9, none)
def y_Mo_findElements : MethodName := ⟨"TailoredOrderModel", "findElements", "(I)V"⟩
abbrev m_Mo_findElements : mx_M := (y_Mo_findElements, prog_9_method_26_code, 3, none)
def y_Mo_write : MethodName := ⟨"TailoredOrderModel", "write", "(I)V"⟩
abbrev m_Mo_write : mx_M := (y_Mo_write, prog_9_method_27_code, 7, none)
def y_Mo_order : MethodName := ⟨"TailoredOrderModel", "order", "(II)I"⟩
abbrev m_Mo_order : mx_M := (y_Mo_order, prog_9_method_28_code, 6, some .int)
def y_Mo_form : MethodName := ⟨"TailoredOrderModel", "form", "(IZZ)Z"⟩
abbrev m_Mo_form : mx_M := (y_Mo_form, prog_9_method_29_code, 4, some .boolean)
def y_Mo_keyLength : MethodName := ⟨"TailoredOrderModel", "keyLength", "(I)I"⟩
abbrev m_Mo_keyLength : mx_M := (y_Mo_keyLength, prog_9_method_30_code, 2, some .int)
def y_Mo_keyAt : MethodName := ⟨"TailoredOrderModel", "keyAt", "(II)I"⟩
abbrev m_Mo_keyAt : mx_M := (y_Mo_keyAt, prog_9_method_31_code, 3, some .int)
def y_Mo_compare : MethodName := ⟨"TailoredOrderModel", "compare", "()I"⟩
abbrev m_Mo_compare : mx_M := (y_Mo_compare, prog_9_method_32_code, 1, some .int)
def y_Mo_file : MethodName := ⟨"TailoredOrderModel", "file", "(I)I"⟩
abbrev m_Mo_file : mx_M := (y_Mo_file, prog_9_method_33_code, 4, some .int)
def y_Mo_unfile : MethodName := ⟨"TailoredOrderModel", "unfile", "(I)Z"⟩
abbrev m_Mo_unfile : mx_M := (y_Mo_unfile, prog_9_method_34_code, 5, some .boolean)
def y_Mo_filed : MethodName := ⟨"TailoredOrderModel", "filed", "()I"⟩
abbrev m_Mo_filed : mx_M := (y_Mo_filed, prog_9_method_35_code, 1, some .int)
def y_Mo_inOrder : MethodName := ⟨"TailoredOrderModel", "inOrder", "(I)I"⟩
abbrev m_Mo_inOrder : mx_M := (y_Mo_inOrder, prog_9_method_36_code, 7, some .int)
def y_Mo_below : MethodName := ⟨"TailoredOrderModel", "below", "(I)I"⟩
abbrev m_Mo_below : mx_M := (y_Mo_below, prog_9_method_37_code, 4, some .int)
def y_Fo_init : MethodName := ⟨"TailoredOrder$Folder", "<init>", "()V"⟩
abbrev m_Fo_init : mx_M := (y_Fo_init, prog_2_method_1_code, 2, none)
def y_Fo_add : MethodName := ⟨"TailoredOrder$Folder", "add", "(LTailoredOrder$Line;)I"⟩
abbrev m_Fo_add : mx_M := (y_Fo_add, prog_2_method_2_code, 3, some .int)
def y_Fo_remove : MethodName := ⟨"TailoredOrder$Folder", "remove", "(I)Z"⟩
abbrev m_Fo_remove : mx_M := (y_Fo_remove, prog_2_method_3_code, 3, some .boolean)
def y_Fo_closeUp : MethodName := ⟨"TailoredOrder$Folder", "closeUp", "(I)V"⟩
abbrev m_Fo_closeUp : mx_M := (y_Fo_closeUp, prog_2_method_4_code, 3, none)
def y_Fo_numberAt : MethodName := ⟨"TailoredOrder$Folder", "numberAt", "(I)I"⟩
abbrev m_Fo_numberAt : mx_M := (y_Fo_numberAt, prog_2_method_5_code, 3, some .int)
def y_Fo_placeOf : MethodName := ⟨"TailoredOrder$Folder", "placeOf", "(I)I"⟩
abbrev m_Fo_placeOf : mx_M := (y_Fo_placeOf, prog_2_method_6_code, 4, some .int)
def y_Fo_countLess : MethodName := ⟨"TailoredOrder$Folder", "countLess", "(LTailoredOrder$Key;)I"⟩
abbrev m_Fo_countLess : mx_M := (y_Fo_countLess, prog_2_method_7_code, 4, some .int)
def y_Ke_init : MethodName := ⟨"TailoredOrder$Key", "<init>", "()V"⟩
abbrev m_Ke_init : mx_M := (y_Ke_init, prog_3_method_1_code, 1, none)
def y_Ke_add : MethodName := ⟨"TailoredOrder$Key", "add", "(I)V"⟩
abbrev m_Ke_add : mx_M := (y_Ke_add, prog_3_method_2_code, 2, none)
def y_Ke_against : MethodName := ⟨"TailoredOrder$Key", "against", "(LTailoredOrder$Key;)I"⟩
abbrev m_Ke_against : mx_M := (y_Ke_against, prog_3_method_3_code, 4, some .int)
def y_Km_init : MethodName := ⟨"TailoredOrder$KeyMaker", "<init>", "(LTailoredOrder$Table;)V"⟩
abbrev m_Km_init : mx_M := (y_Km_init, prog_4_method_1_code, 2, none)
def y_Km_shape : MethodName := ⟨"TailoredOrder$KeyMaker", "shape", "(IZZ)V"⟩
abbrev m_Km_shape : mx_M := (y_Km_shape, prog_4_method_2_code, 4, none)
def y_Km_make : MethodName := ⟨"TailoredOrder$KeyMaker", "make", "(LTailoredOrder$Line;LTailoredOrder$Key;)V"⟩
abbrev m_Km_make : mx_M := (y_Km_make, prog_4_method_3_code, 4, none)
def y_Km_arrange : MethodName := ⟨"TailoredOrder$KeyMaker", "arrange", "(LTailoredOrder$Line;)V"⟩
abbrev m_Km_arrange : mx_M := (y_Km_arrange, prog_4_method_4_code, 4, none)
def y_Km_mustPass : MethodName := ⟨"TailoredOrder$KeyMaker", "mustPass", "(CC)Z"⟩
abbrev m_Km_mustPass : mx_M := (y_Km_mustPass, prog_4_method_5_code, 2, some .boolean)
def y_Km_findElements : MethodName := ⟨"TailoredOrder$KeyMaker", "findElements", "()V"⟩
abbrev m_Km_findElements : mx_M := (y_Km_findElements, prog_4_method_6_code, 3, none)
def y_Km_takeEntry : MethodName := ⟨"TailoredOrder$KeyMaker", "takeEntry", "(I)I"⟩
abbrev m_Km_takeEntry : mx_M := (y_Km_takeEntry, prog_4_method_7_code, 6, some .int)
def y_Km_headAt : MethodName := ⟨"TailoredOrder$KeyMaker", "headAt", "(I)I"⟩
abbrev m_Km_headAt : mx_M := (y_Km_headAt, prog_4_method_8_code, 4, some .int)
def y_Km_isBlocked : MethodName := ⟨"TailoredOrder$KeyMaker", "isBlocked", "(CI)Z"⟩
abbrev m_Km_isBlocked : mx_M := (y_Km_isBlocked, prog_4_method_9_code, 4, some .boolean)
def y_Km_findLonger : MethodName := ⟨"TailoredOrder$KeyMaker", "findLonger", "(IC)I"⟩
abbrev m_Km_findLonger : mx_M := (y_Km_findLonger, prog_4_method_10_code, 5, some .int)
def y_Km_addEntry : MethodName := ⟨"TailoredOrder$KeyMaker", "addEntry", "(I)V"⟩
abbrev m_Km_addEntry : mx_M := (y_Km_addEntry, prog_4_method_11_code, 2, none)
def y_Km_addMark : MethodName := ⟨"TailoredOrder$KeyMaker", "addMark", "(C)V"⟩
abbrev m_Km_addMark : mx_M := (y_Km_addMark, prog_4_method_12_code, 2, none)
def y_Km_addElement : MethodName := ⟨"TailoredOrder$KeyMaker", "addElement", "(IIII)V"⟩
abbrev m_Km_addElement : mx_M := (y_Km_addElement, prog_4_method_13_code, 5, none)
def y_Km_writeLevel : MethodName := ⟨"TailoredOrder$KeyMaker", "writeLevel", "(ILTailoredOrder$Key;)V"⟩
abbrev m_Km_writeLevel : mx_M := (y_Km_writeLevel, prog_4_method_14_code, 6, none)
def y_Li_init : MethodName := ⟨"TailoredOrder$Line", "<init>", "(I)V"⟩
abbrev m_Li_init : mx_M := (y_Li_init, prog_5_method_1_code, 2, none)
def y_Li_append : MethodName := ⟨"TailoredOrder$Line", "append", "(C)Z"⟩
abbrev m_Li_append : mx_M := (y_Li_append, prog_5_method_2_code, 2, some .boolean)
def y_Li_clear : MethodName := ⟨"TailoredOrder$Line", "clear", "()I"⟩
abbrev m_Li_clear : mx_M := (y_Li_clear, prog_5_method_3_code, 2, some .int)
def y_Li_copyFrom : MethodName := ⟨"TailoredOrder$Line", "copyFrom", "(LTailoredOrder$Line;)V"⟩
abbrev m_Li_copyFrom : mx_M := (y_Li_copyFrom, prog_5_method_4_code, 3, none)
def y_Ru_init : MethodName := ⟨"TailoredOrder$Rule", "<init>", "()V"⟩
abbrev m_Ru_init : mx_M := (y_Ru_init, prog_6_method_1_code, 1, none)
def y_Ru_read : MethodName := ⟨"TailoredOrder$Rule", "read", "(LTailoredOrder$Line;)I"⟩
abbrev m_Ru_read : mx_M := (y_Ru_read, prog_6_method_2_code, 3, some .int)
def y_Ru_takes : MethodName := ⟨"TailoredOrder$Rule", "takes", "(C)Z"⟩
abbrev m_Ru_takes : mx_M := (y_Ru_takes, prog_6_method_3_code, 2, some .boolean)
def y_Ru_sign : MethodName := ⟨"TailoredOrder$Rule", "sign", "(I)Z"⟩
abbrev m_Ru_sign : mx_M := (y_Ru_sign, prog_6_method_4_code, 2, some .boolean)
def y_Ru_begin : MethodName := ⟨"TailoredOrder$Rule", "begin", "(C)Z"⟩
abbrev m_Ru_begin : mx_M := (y_Ru_begin, prog_6_method_5_code, 2, some .boolean)
def y_Ru_goOn : MethodName := ⟨"TailoredOrder$Rule", "goOn", "(C)Z"⟩
abbrev m_Ru_goOn : mx_M := (y_Ru_goOn, prog_6_method_6_code, 5, some .boolean)
def y_Ta_init : MethodName := ⟨"TailoredOrder$Table", "<init>", "()V"⟩
abbrev m_Ta_init : mx_M := (y_Ta_init, prog_7_method_1_code, 2, none)
def y_Ta_copyFrom : MethodName := ⟨"TailoredOrder$Table", "copyFrom", "(LTailoredOrder$Table;)V"⟩
abbrev m_Ta_copyFrom : mx_M := (y_Ta_copyFrom, prog_7_method_2_code, 2, none)
def y_Ta_find : MethodName := ⟨"TailoredOrder$Table", "find", "(I)I"⟩
abbrev m_Ta_find : mx_M := (y_Ta_find, prog_7_method_3_code, 3, some .int)
def y_Ta_findLongest : MethodName := ⟨"TailoredOrder$Table", "findLongest", "(I)I"⟩
abbrev m_Ta_findLongest : mx_M := (y_Ta_findLongest, prog_7_method_4_code, 6, some .int)
def y_Ta_follow : MethodName := ⟨"TailoredOrder$Table", "follow", "(LTailoredOrder$Rule;)I"⟩
abbrev m_Ta_follow : mx_M := (y_Ta_follow, prog_7_method_5_code, 4, some .int)
def y_Ta_move : MethodName := ⟨"TailoredOrder$Table", "move", "(III)I"⟩
abbrev m_Ta_move : mx_M := (y_Ta_move, prog_7_method_6_code, 5, some .int)
def y_Ta_takeOut : MethodName := ⟨"TailoredOrder$Table", "takeOut", "(I)V"⟩
abbrev m_Ta_takeOut : mx_M := (y_Ta_takeOut, prog_7_method_7_code, 3, none)
def y_Ta_putIn : MethodName := ⟨"TailoredOrder$Table", "putIn", "(III)V"⟩
abbrev m_Ta_putIn : mx_M := (y_Ta_putIn, prog_7_method_8_code, 5, none)
def y_Ta_insert : MethodName := ⟨"TailoredOrder$Table", "insert", "(III)V"⟩
abbrev m_Ta_insert : mx_M := (y_Ta_insert, prog_7_method_9_code, 5, none)
def y_Ta_weigh : MethodName := ⟨"TailoredOrder$Table", "weigh", "()V"⟩
abbrev m_Ta_weigh : mx_M := (y_Ta_weigh, prog_7_method_10_code, 5, none)
def y_La_law : MethodName := ⟨"TailoredOrderLaw", "law", "([I)Z"⟩
abbrev m_La_law : mx_M := (y_La_law, code, 4, some .boolean)
end
section
/-! THE MACHINE IN SMALL: cells are numbered from the law's start on; numbers lie in one memory (cell, place), references in a shape.
EV G d M pc lc st S D S' Post: from pc of method M, with locals lc, stack st, shape S, memory D, call depth d left, the method returns, its answer and memory meet Post, and the shape is S'. -/
abbrev mx_Sh : Type := (Nat × List (Option (Option Nat))) ⊕ ((Nat × Nat) ⊕ (Nat × List (Option Nat)))
abbrev mx_Mem : Type := Nat → Nat → Int32
abbrev mx_G : Type := Launch × va_G × (Nat → ClassId) × Nat × Nat × Nat × (Nat → Int32)
def mx_dd (G : mx_G) : va_G := G.2.1
def mx_cA (G : mx_G) : Nat → ClassId := G.2.2.1
def mx_base (G : mx_G) : Nat := G.2.2.2.1
def mx_b (G : mx_G) : Nat := G.2.2.2.2.1
def mx_L (G : mx_G) : Nat := G.2.2.2.2.2.1
def mx_xs (G : mx_G) : Nat → Int32 := G.2.2.2.2.2.2
def mx_ad (G : mx_G) (k : Nat) : Nat := mx_base G + k
/-- a small value as the machine has it; the script is retAddr -/
def mx_cv (G : mx_G) : Value → Value
  | .ref k => .ref (mx_ad G k)
  | .retAddr _ => .ref (mx_b G)
  | v => v
def mx_fv (G : mx_G) (x : Int32) : Option (Option Nat) → Value
  | none => .int x
  | some r => va_rf (r.map (mx_ad G))
def mx_E (G : mx_G) (f : Nat → Int32) : mx_Sh → va_E
  | .inl o => .inr (o.1, (List.range o.2.length).map fun j => mx_fv G (f j) (o.2.getD j none))
  | .inr (.inl a) => .inl (mx_cA G a.1, a.2, .inl f)
  | .inr (.inr a) => .inl (mx_cA G a.1, a.2.length, .inr (.inr (.inr (.inr fun j => (a.2.getD j none).map (mx_ad G)))))
def mx_ws (G : mx_G) (S : List mx_Sh) (D : mx_Mem) : va_W := (List.range S.length).map fun k => (mx_ad G k, mx_E G (D k) (S.getD k (.inr (.inl (0, 0)))))
def mx_n (sh : mx_Sh) : Nat := match sh with
  | .inl o => o.2.length
  | .inr (.inl a) => a.2
  | .inr (.inr a) => a.2.length
def mx_sl (S : List mx_Sh) : Nat := (S.map mx_n).sum
def mx_tys (G : mx_G) : List (ClassId × FieldType) := (List.range mx_ty.length).map fun t => (mx_cA G t, mx_ty.getD t .int)
def mx_A (G : mx_G) : Nat → Prop := fun q => mx_base G ≤ q
def mx_H (G : mx_G) (S : List mx_Sh) (D : mx_Mem) (H : Heap) : Prop := H.size = mx_base G + S.length ∧ va_P (mx_dd G) vwCl (mx_ws G S D) H
/-- one number of the memory written -/
def mx_w (D : mx_Mem) (k j : Nat) (x : Int32) : mx_Mem := va_up D k (upd (D k) j x)
/-- a new cell's numbers are 0 -/
def mx_z (D : mx_Mem) (k : Nat) : mx_Mem := va_up D k (fun _ => 0)
theorem mx_w_at (D : mx_Mem) (k j : Nat) (x : Int32) (k' j' : Nat) : mx_w D k j x k' j' = if k' = k ∧ j' = j then x else D k' j' := by
  unfold mx_w va_up
  by_cases h : k' = k
  · subst h
    by_cases h2 : j' = j
    · subst h2; simp [upd]
    · simp [upd, h2]
  · simp [h]
theorem mx_ws_at {G : mx_G} {S : List mx_Sh} {D : mx_Mem} {k : Nat} {sh : mx_Sh} (h : S[k]? = some sh) : (mx_ws G S D)[k]? = some (mx_ad G k, mx_E G (D k) sh) := by
  obtain ⟨hk, he⟩ := List.getElem?_eq_some_iff.mp h
  simp [mx_ws, hk, he]
theorem mx_wsk {G : mx_G} {S : List mx_Sh} {D : mx_Mem} {k : Nat} {q : Nat × va_E} (h : (mx_ws G S D)[k]? = some q) : k < S.length ∧ q.1 = mx_ad G k := by
  have hk : k < (mx_ws G S D).length := (List.getElem?_eq_some_iff.mp h).1
  have hk2 : k < S.length := by simpa [mx_ws] using hk
  obtain ⟨sh, hs⟩ : ∃ sh, S[k]? = some sh := ⟨S[k], List.getElem?_eq_getElem hk2⟩
  rw [mx_ws_at hs] at h
  cases h
  exact ⟨hk2, rfl⟩
theorem mx_DD {G : mx_G} {S : List mx_Sh} {D : mx_Mem} : va_D (mx_A G) (mx_ws G S D) := by
  refine ⟨fun i j p q hi hj e => ?_, fun k q hk => ?_⟩
  · obtain ⟨h1, e1⟩ := mx_wsk hi
    obtain ⟨h2, e2⟩ := mx_wsk hj
    rw [e1, e2] at e
    unfold mx_ad at e
    omega
  · obtain ⟨h1, e1⟩ := mx_wsk hk
    show mx_base G ≤ q.1
    rw [e1]
    unfold mx_ad
    omega
theorem mx_set {G : mx_G} {S : List mx_Sh} {D : mx_Mem} {k : Nat} {sh sh' : mx_Sh} {f : Nat → Int32} (h : S[k]? = some sh) : (mx_ws G S D).set k (mx_ad G k, mx_E G f sh') = mx_ws G (S.set k sh') (va_up D k f) := by
  have hk : k < S.length := (List.getElem?_eq_some_iff.mp h).1
  apply List.ext_getElem?
  intro i
  by_cases hi : i = k
  · subst hi
    rw [mx_ws_at (sh := sh') (by simp [hk])]
    simp [mx_ws, hk, va_up]
  · rw [List.getElem?_set_ne (Ne.symm hi)]
    by_cases hl : i < S.length
    · have h1 : S[i]? = some S[i] := List.getElem?_eq_getElem hl
      rw [mx_ws_at h1, mx_ws_at (sh := S[i]) (by rw [List.getElem?_set_ne (Ne.symm hi)]; exact h1)]
      simp [va_up, hi]
    · rw [List.getElem?_eq_none (by simp [mx_ws]; omega), List.getElem?_eq_none (by simp [mx_ws]; omega)]
theorem mx_push {G : mx_G} {S : List mx_Sh} {D : mx_Mem} {sh : mx_Sh} {f : Nat → Int32} : mx_ws G S D ++ [(mx_ad G S.length, mx_E G f sh)] = mx_ws G (S ++ [sh]) (va_up D S.length f) := by
  apply List.ext_getElem?
  intro i
  by_cases hl : i < S.length
  · have h1 : S[i]? = some S[i] := List.getElem?_eq_getElem hl
    rw [List.getElem?_append_left (by simp [mx_ws]; exact hl), mx_ws_at h1, mx_ws_at (sh := S[i]) (by rw [List.getElem?_append_left hl]; exact h1)]
    simp [va_up, Nat.ne_of_lt hl]
  · by_cases he : i = S.length
    · subst he
      rw [List.getElem?_append_right (by simp [mx_ws]), mx_ws_at (sh := sh) (by simp)]
      simp [mx_ws, va_up]
    · rw [List.getElem?_eq_none (by simp [mx_ws]; omega), List.getElem?_eq_none (by simp [mx_ws]; omega)]
theorem mx_setS {S : List mx_Sh} {k : Nat} {sh : mx_Sh} (h : S[k]? = some sh) : S.set k sh = S := by
  apply List.ext_getElem?
  intro i
  by_cases hi : i = k
  · subst hi
    rw [List.getElem?_set_self (List.getElem?_eq_some_iff.mp h).1, h]
  · rw [List.getElem?_set_ne (Ne.symm hi)]
/-- locals: a place that holds nothing known is none -/
def mx_lv (G : mx_G) (lc : List (Option Value)) : List (Nat × Value) := (List.range lc.length).filterMap fun i => (lc.getD i none).bind fun v => if v.category = 1 then some (i, mx_cv G v) else none
theorem mx_lv_mem {G : mx_G} {lc : List (Option Value)} {q : Nat × Value} : q ∈ mx_lv G lc ↔ ∃ v, lc[q.1]? = some (some v) ∧ v.category = 1 ∧ q.2 = mx_cv G v := by
  unfold mx_lv
  rw [List.mem_filterMap]
  constructor
  · rintro ⟨i, hi, h⟩
    have hi : i < lc.length := by simpa using hi
    have e : lc.getD i none = lc[i] := by simp [hi]
    rw [e] at h
    cases hv : lc[i] with
    | none => rw [hv] at h; cases h
    | some v =>
      rw [hv, Option.bind_some] at h
      by_cases hc : v.category = 1
      · rw [if_pos hc] at h
        cases h
        exact ⟨v, by rw [List.getElem?_eq_getElem hi, hv], hc, rfl⟩
      · rw [if_neg hc] at h
        cases h
  · rintro ⟨v, h1, hc, h2⟩
    have hi : q.1 < lc.length := (List.getElem?_eq_some_iff.mp h1).1
    refine ⟨q.1, by simpa using hi, ?_⟩
    have e : lc.getD q.1 none = some v := by simp [h1]
    rw [e, Option.bind_some, if_pos hc, ← h2]
theorem mx_lv_sub {ls : Array Slot} {n : Nat} {l l' : List (Nat × Value)} (h : lv_has ls n l) (hs : ∀ q ∈ l', q ∈ l) : lv_has ls n l' := ⟨h.1, h.2.1, fun q hq => h.2.2 q (hs q hq)⟩
theorem mx_lv_at {G : mx_G} {ls : Array Slot} {n : Nat} {lc : List (Option Value)} {i : Nat} {v : Value} (h : lv_has ls n (mx_lv G lc)) (hi : lc[i]? = some (some v)) (hc : v.category = 1) : ls[i]? = some (.val (mx_cv G v)) := h.2.2 (i, mx_cv G v) (mx_lv_mem.mpr ⟨v, hi, hc, rfl⟩)
theorem mx_cv_cat {G : mx_G} {v : Value} : (mx_cv G v).category = v.category := by cases v <;> rfl
theorem mx_lv_put {G : mx_G} {ls : Array Slot} {n i : Nat} {lc : List (Option Value)} {v : Value} (h : lv_has ls n ((i, mx_cv G v) :: (mx_lv G lc).filter (fun q => !(q.1 == i) && !(q.1 + 1 == i && q.2.category == 2)))) : lv_has ls n (mx_lv G (lc.set i (some v))) := by
  refine mx_lv_sub h fun q hq => ?_
  obtain ⟨w, h1, hc, h2⟩ := mx_lv_mem.mp hq
  by_cases hi : q.1 = i
  · rw [hi] at h1
    have hl : i < lc.length := by
      have := (List.getElem?_eq_some_iff.mp h1).1
      simpa using this
    rw [List.getElem?_set_self hl] at h1
    cases h1
    have : q = (i, mx_cv G v) := by rw [← hi, ← h2]
    rw [this]
    exact List.mem_cons_self
  · rw [List.getElem?_set_ne (Ne.symm hi)] at h1
    refine List.mem_cons_of_mem _ (List.mem_filter.mpr ⟨mx_lv_mem.mpr ⟨w, h1, hc, h2⟩, ?_⟩)
    have hcat : q.2.category = 1 := by rw [h2, mx_cv_cat]; exact hc
    simp [hi, hcat]
theorem mx_cls0 : ∀ q ∈ vwCl, (∀ w ∈ u_ws q.1 q.2.1 q.2.2, w ∈ mx_gw) ∧ (∀ k, k < q.2.2 → parseFieldDescriptor (q.2.1 k).2.2.1 = some ((parseFieldDescriptor (q.2.1 k).2.2.1).getD .int)) ∧ ∀ a, a < q.2.2 → ∀ b, b < q.2.2 → a ≠ b → (q.2.1 a).2.1 ≠ (q.2.1 b).2.1 := by decide +kernel
theorem mx_nw_on {w : Cond} (h : w ∈ mx_nw) : w.onTables = true ∧ ∀ s U : State, s.WarmedH U.vm → va_Nw w s → va_Nw w U := by
  have h2 := (List.mem_filter.mp h).2
  unfold mx_isn at h2
  cases w <;> simp at h2
  · exact ⟨rfl, fun s U hW hZ => va_Nw.warmM hW hZ⟩
  · exact ⟨rfl, fun s U hW hZ => va_Nw.warmF hW hZ⟩
theorem mx_NW_same {u U : State} (h : u.vm = U.vm) (hN : mx_NW u) : mx_NW U :=
  ⟨fun w hw => va_Nw.same (mx_nw_on hw).1 h (hN.1 w hw), fun C hC => va_AO.moved (by rw [h]; exact Vm.Alike.refl _) (hN.2 C hC)⟩
theorem mx_NW_warm {s U : State} (h : s.WarmedH U.vm) (hN : mx_NW s) : mx_NW U :=
  ⟨fun w hw => (mx_nw_on hw).2 s U h (hN.1 w hw), fun C hC => va_AO.moved h.alike (hN.2 C hC)⟩
/-- what holds of the machine while method M runs -/
def mx_Cx (G : mx_G) (d : Nat) (M : mx_M) (p : Program) (R : Room) (s : State) (m : MethodId) (args : Array Value) (meth : Method) (c : Code) : Prop :=
  p.tables.exec = Jvm.exec ∧ c.code = M.2.1 ∧ meth.sig.returnType = M.2.2.2 ∧ c.maxLocals = M.2.2.1 ∧ s.vm.findClass M.1.cls = some m.cls ∧ (∀ w ∈ mx_gw, w.before args s = true) ∧ mx_NW s ∧ va_K (mx_dd G) vwCl (mx_tys G) s ∧ meth.locks = false ∧ meth.name = M.1.name ∧ (va_X (mx_b G) (mx_L G) (mx_xs G) s s.heap ∧ mx_b G < mx_base G ∧ mx_base G ≤ s.heap.size) ∧ d ≤ R.frames ∧ mx_KL * d ≤ R.locals
/-- the instruction with which the answer goes back -/
def mx_ret (M : mx_M) (pc : Nat) : Option Value → Prop
  | none => decode M.2.1 pc = .ok (.return_, 1) ∧ M.2.2.2 = none
  | some (.int v) => decode M.2.1 pc = .ok (.ireturn, 1) ∧ ∃ ty, M.2.2.2 = some ty ∧ narrow ty (.int v) = .int v
  | some (.ref _) => decode M.2.1 pc = .ok (.areturn, 1) ∧ ∃ n, M.2.2.2 = some (.object n)
  | _ => False
def EV (G : mx_G) (d : Nat) (M : mx_M) (pc : Nat) (lc : List (Option Value)) (st : List Value) (S : List mx_Sh) (D : mx_Mem) (S' : List mx_Sh) (Post : Option Value → mx_Mem → Prop) : Prop :=
  (S.length ≤ S'.length ∧ mx_sl S ≤ mx_sl S') ∧
  ∀ (p : Program) (e : Env) (R : Room) (s : State) (m : MethodId) (args : Array Value) (below : List Frame) (meth : Method) (c : Code) (H : Heap) (locs : List Loc) (cells slots : Nat) (Q : State → Prop) (ls : Array Slot),
    mx_Cx G d M p R s m args meth c → mx_H G S D H → va_S (mx_A G) s.heap H locs → lv_has ls M.2.2.1 (mx_lv G lc) → s.heap.size + cells = mx_base G + S.length → cells + S'.length ≤ R.cells + S.length → slots + mx_sl S' ≤ R.slots + mx_sl S →
    (∀ (rv : Option Value) (D' : mx_Mem) (H' : Heap) (locs' : List Loc) (pc' : Nat) (ls' : Array Slot), Post rv D' → mx_H G S' D' H' → va_S (mx_A G) s.heap H' locs' → mx_ret M pc' rv →
      W p G.1 e R s m args below meth c H' locs' (cells + (S'.length - S.length)) (slots + (mx_sl S' - mx_sl S)) Q (F0 m pc' ls' (rv.map (mx_cv G)).toList)) →
    W p G.1 e R s m args below meth c H locs cells slots Q (F0 m pc ls (st.map (mx_cv G)))
section MXR
variable {G : mx_G} {d : Nat} {M : mx_M} {pc : Nat} {lc : List (Option Value)} {st : List Value} {S S' : List mx_Sh} {D : mx_Mem} {Post : Option Value → mx_Mem → Prop}
/-- an instruction that touches the stack alone -/
theorem EV.go {pc2 : Nat} {st2 : List Value} (h : ∀ {p : Program} {e : Env} {R : Room} {s : State} {m : MethodId} {args : Array Value} {below : List Frame} {meth : Method} {c : Code} {H : Heap} {locs : List Loc} {cells slots : Nat} {Q : State → Prop} {ls : Array Slot}, p.tables.exec = Jvm.exec → c.code = M.2.1 →
    W p G.1 e R s m args below meth c H locs cells slots Q (F0 m pc2 ls (st2.map (mx_cv G))) → W p G.1 e R s m args below meth c H locs cells slots Q (F0 m pc ls (st.map (mx_cv G))))
    (k : EV G d M pc2 lc st2 S D S' Post) : EV G d M pc lc st S D S' Post :=
  ⟨k.1, fun p e R s m args below meth c H locs cells slots Q ls cx hH hS hl h0 h1 h2 hr => h cx.1 cx.2.1 (k.2 p e R s m args below meth c H locs cells slots Q ls cx hH hS hl h0 h1 h2 hr)⟩
theorem EV.iconst {n : Int} {v : Int32} (hd : decode M.2.1 pc = .ok (.iconst n, 1)) (hv : Int32.ofInt n = v) (k : EV G d M (pc + 1) lc (.int v :: st) S D S' Post) : EV G d M pc lc st S D S' Post :=
  EV.go (fun hx hb k => lv_iconst hx hb hd hv k) k
theorem EV.bipush {n : Int} {v : Int32} (hd : decode M.2.1 pc = .ok (.bipush n, 2)) (hv : (Int8.ofInt n).toInt32 = v) (k : EV G d M (pc + 2) lc (.int v :: st) S D S' Post) : EV G d M pc lc st S D S' Post :=
  EV.go (fun hx hb k => lv_bipush hx hb hd hv k) k
theorem EV.sipush {n : Int} {v : Int32} (hd : decode M.2.1 pc = .ok (.sipush n, 3)) (hv : (Int16.ofInt n).toInt32 = v) (k : EV G d M (pc + 3) lc (.int v :: st) S D S' Post) : EV G d M pc lc st S D S' Post :=
  EV.go (fun hx hb k => lv_sipush hx hb hd hv k) k
theorem EV.iadd {x y : Int32} (hd : decode M.2.1 pc = .ok (.iadd, 1)) (k : EV G d M (pc + 1) lc (.int (x + y) :: st) S D S' Post) : EV G d M pc lc (.int y :: .int x :: st) S D S' Post :=
  EV.go (fun hx hb k => lv_iadd hx hb hd k) k
theorem EV.isub {x y : Int32} (hd : decode M.2.1 pc = .ok (.isub, 1)) (k : EV G d M (pc + 1) lc (.int (x - y) :: st) S D S' Post) : EV G d M pc lc (.int y :: .int x :: st) S D S' Post :=
  EV.go (fun hx hb k => lv_isub hx hb hd k) k
theorem EV.imul {x y : Int32} (hd : decode M.2.1 pc = .ok (.imul, 1)) (k : EV G d M (pc + 1) lc (.int (x * y) :: st) S D S' Post) : EV G d M pc lc (.int y :: .int x :: st) S D S' Post :=
  EV.go (fun hx hb k => lv_imul hx hb hd k) k
theorem EV.iand {x y : Int32} (hd : decode M.2.1 pc = .ok (.iand, 1)) (k : EV G d M (pc + 1) lc (.int (x &&& y) :: st) S D S' Post) : EV G d M pc lc (.int y :: .int x :: st) S D S' Post :=
  EV.go (fun hx hb k => lv_iand hx hb hd k) k
theorem EV.ior {x y : Int32} (hd : decode M.2.1 pc = .ok (.ior, 1)) (k : EV G d M (pc + 1) lc (.int (x ||| y) :: st) S D S' Post) : EV G d M pc lc (.int y :: .int x :: st) S D S' Post :=
  EV.go (fun hx hb k => lv_ior hx hb hd k) k
theorem EV.ishl {x y : Int32} (hd : decode M.2.1 pc = .ok (.ishl, 1)) (k : EV G d M (pc + 1) lc (.int (x <<< (y &&& 31)) :: st) S D S' Post) : EV G d M pc lc (.int y :: .int x :: st) S D S' Post :=
  EV.go (fun hx hb k => lv_ishl hx hb hd k) k
theorem EV.ishr {x y : Int32} (hd : decode M.2.1 pc = .ok (.ishr, 1)) (k : EV G d M (pc + 1) lc (.int (x >>> (y &&& 31)) :: st) S D S' Post) : EV G d M pc lc (.int y :: .int x :: st) S D S' Post :=
  EV.go (fun hx hb k => lv_ishr hx hb hd k) k
theorem EV.irem {x y : Int32} (hd : decode M.2.1 pc = .ok (.irem, 1)) (hy : ¬ y = 0) (k : EV G d M (pc + 1) lc (.int (x - x / y * y) :: st) S D S' Post) : EV G d M pc lc (.int y :: .int x :: st) S D S' Post :=
  EV.go (fun hx hb k => lv_irem hx hb hd hy k) k
theorem EV.ineg {x : Int32} (hd : decode M.2.1 pc = .ok (.ineg, 1)) (k : EV G d M (pc + 1) lc (.int (-x) :: st) S D S' Post) : EV G d M pc lc (.int x :: st) S D S' Post :=
  EV.go (fun hx hb k => lv_ineg hx hb hd k) k
theorem EV.i2c {x v : Int32} (hd : decode M.2.1 pc = .ok (.i2c, 1)) (hv : (x.toUInt32 % 65536).toInt32 = v) (k : EV G d M (pc + 1) lc (.int v :: st) S D S' Post) : EV G d M pc lc (.int x :: st) S D S' Post :=
  EV.go (fun hx hb k => lv_i2c hx hb hd hv k) k
theorem EV.dup {v : Value} (hd : decode M.2.1 pc = .ok (.dup, 1)) (hv : v.category = 1) (k : EV G d M (pc + 1) lc (v :: v :: st) S D S' Post) : EV G d M pc lc (v :: st) S D S' Post :=
  EV.go (fun hx hb k => lv_dup hx hb hd (by rw [mx_cv_cat]; exact hv) k) k
theorem EV.pop {v : Value} (hd : decode M.2.1 pc = .ok (.pop, 1)) (hv : v.category = 1) (k : EV G d M (pc + 1) lc st S D S' Post) : EV G d M pc lc (v :: st) S D S' Post :=
  EV.go (fun hx hb k => lv_pop hx hb hd (by rw [mx_cv_cat]; exact hv) k) k
theorem EV.dup_x1 {v w : Value} (hd : decode M.2.1 pc = .ok (.dup_x1, 1)) (hv : v.category = 1) (hw : w.category = 1) (k : EV G d M (pc + 1) lc (v :: w :: v :: st) S D S' Post) : EV G d M pc lc (v :: w :: st) S D S' Post :=
  EV.go (fun hx hb k => lv_dup_x1 hx hb hd (by rw [mx_cv_cat]; exact hv) (by rw [mx_cv_cat]; exact hw) k) k
theorem EV.dup_x2 {v w u : Value} (hd : decode M.2.1 pc = .ok (.dup_x2, 1)) (hv : v.category = 1) (hw : w.category = 1) (hu : u.category = 1) (k : EV G d M (pc + 1) lc (v :: w :: u :: v :: st) S D S' Post) : EV G d M pc lc (v :: w :: u :: st) S D S' Post :=
  EV.go (fun hx hb k => lv_dup_x2 hx hb hd (by rw [mx_cv_cat]; exact hv) (by rw [mx_cv_cat]; exact hw) (by rw [mx_cv_cat]; exact hu) k) k
theorem EV.dup2 {v w : Value} (hd : decode M.2.1 pc = .ok (.dup2, 1)) (hv : v.category = 1) (hw : w.category = 1) (k : EV G d M (pc + 1) lc (v :: w :: v :: w :: st) S D S' Post) : EV G d M pc lc (v :: w :: st) S D S' Post :=
  EV.go (fun hx hb k => lv_dup2_11 hx hb hd (by rw [mx_cv_cat]; exact hv) (by rw [mx_cv_cat]; exact hw) k) k
theorem EV.goto {off : Int} {tgt : Nat} (hd : decode M.2.1 pc = .ok (.goto off, 3)) (ht : (pc : Int) + off = (tgt : Int)) (k : EV G d M tgt lc st S D S' Post) : EV G d M pc lc st S D S' Post :=
  EV.go (fun hx hb k => lv_goto hx hb hd ht k) k
/-- a number on the stack under another name -/
theorem EV.top {x y : Int32} (h : x = y) (k : EV G d M pc lc (.int y :: st) S D S' Post) : EV G d M pc lc (.int x :: st) S D S' Post := h ▸ k
theorem EV.at {lc2 : List (Option Value)} (h : lc = lc2) (k : EV G d M pc lc2 st S D S' Post) : EV G d M pc lc st S D S' Post := h ▸ k
theorem EV.mem {D2 : mx_Mem} (h : D = D2) (k : EV G d M pc lc st S D2 S' Post) : EV G d M pc lc st S D S' Post := h ▸ k
/-- fewer locals known -/
theorem EV.wk {lc2 : List (Option Value)} (h : ∀ (i : Nat) (v : Value), lc2[i]? = some (some v) → lc[i]? = some (some v)) (k : EV G d M pc lc2 st S D S' Post) : EV G d M pc lc st S D S' Post :=
  ⟨k.1, fun p e R s m args below meth c H locs cells slots Q ls cx hH hS hl h0 h1 h2 hr => k.2 p e R s m args below meth c H locs cells slots Q ls cx hH hS (mx_lv_sub hl fun q hq => by
    obtain ⟨v, a1, a2, a3⟩ := mx_lv_mem.mp hq
    exact mx_lv_mem.mpr ⟨v, h _ _ a1, a2, a3⟩) h0 h1 h2 hr⟩
theorem EV.post {P2 : Option Value → mx_Mem → Prop} (h : ∀ rv D', P2 rv D' → Post rv D') (k : EV G d M pc lc st S D S' P2) : EV G d M pc lc st S D S' Post :=
  ⟨k.1, fun p e R s m args below meth c H locs cells slots Q ls cx hH hS hl h0 h1 h2 hr => k.2 p e R s m args below meth c H locs cells slots Q ls cx hH hS hl h0 h1 h2 (fun rv D' H' locs' pc' ls' hp => hr rv D' H' locs' pc' ls' (h rv D' hp))⟩
theorem EV.deep {d2 : Nat} (h : d2 ≤ d) (k : EV G d2 M pc lc st S D S' Post) : EV G d M pc lc st S D S' Post :=
  ⟨k.1, fun p e R s m args below meth c H locs cells slots Q ls cx => k.2 p e R s m args below meth c H locs cells slots Q ls (by
    obtain ⟨a1, a2, a3, a4, a5, a6, a7, a8, a9, a10, a11, a12, a13⟩ := cx
    exact ⟨a1, a2, a3, a4, a5, a6, a7, a8, a9, a10, a11, Nat.le_trans h a12, Nat.le_trans (Nat.mul_le_mul_left _ h) a13⟩)⟩
theorem EV.iload_n {n : Fin 4} {x : Int32} (hd : decode M.2.1 pc = .ok (.iload_n n, 1)) (h : lc[(n : Nat)]? = some (some (.int x))) (k : EV G d M (pc + 1) lc (.int x :: st) S D S' Post) : EV G d M pc lc st S D S' Post :=
  ⟨k.1, fun p e R s m args below meth c H locs cells slots Q ls cx hH hS hl h0 h1 h2 hr => lv_iload_n cx.1 cx.2.1 hd rfl (mx_lv_at hl h rfl) (k.2 p e R s m args below meth c H locs cells slots Q ls cx hH hS hl h0 h1 h2 hr)⟩
theorem EV.iload {n : Nat} {x : Int32} (hd : decode M.2.1 pc = .ok (.iload n, 2)) (h : lc[n]? = some (some (.int x))) (k : EV G d M (pc + 2) lc (.int x :: st) S D S' Post) : EV G d M pc lc st S D S' Post :=
  ⟨k.1, fun p e R s m args below meth c H locs cells slots Q ls cx hH hS hl h0 h1 h2 hr => lv_iload cx.1 cx.2.1 hd (mx_lv_at hl h rfl) (k.2 p e R s m args below meth c H locs cells slots Q ls cx hH hS hl h0 h1 h2 hr)⟩
theorem EV.aload_n {n : Fin 4} {x : Nat} (hd : decode M.2.1 pc = .ok (.aload_n n, 1)) (h : lc[(n : Nat)]? = some (some (.ref x))) (k : EV G d M (pc + 1) lc (.ref x :: st) S D S' Post) : EV G d M pc lc st S D S' Post :=
  ⟨k.1, fun p e R s m args below meth c H locs cells slots Q ls cx hH hS hl h0 h1 h2 hr => lv_aload_n cx.1 cx.2.1 hd rfl (mx_lv_at hl h rfl) (k.2 p e R s m args below meth c H locs cells slots Q ls cx hH hS hl h0 h1 h2 hr)⟩
theorem EV.aload {n : Nat} {x : Nat} (hd : decode M.2.1 pc = .ok (.aload n, 2)) (h : lc[n]? = some (some (.ref x))) (k : EV G d M (pc + 2) lc (.ref x :: st) S D S' Post) : EV G d M pc lc st S D S' Post :=
  ⟨k.1, fun p e R s m args below meth c H locs cells slots Q ls cx hH hS hl h0 h1 h2 hr => lv_aload cx.1 cx.2.1 hd (mx_lv_at hl h rfl) (k.2 p e R s m args below meth c H locs cells slots Q ls cx hH hS hl h0 h1 h2 hr)⟩
theorem EV.istore_n {n : Fin 4} {x : Int32} (hd : decode M.2.1 pc = .ok (.istore_n n, 1)) (hn : (n : Nat) < M.2.2.1) (k : EV G d M (pc + 1) (lc.set (n : Nat) (some (.int x))) st S D S' Post) : EV G d M pc lc (.int x :: st) S D S' Post :=
  ⟨k.1, fun p e R s m args below meth c H locs cells slots Q ls cx hH hS hl h0 h1 h2 hr => lv_istore_n cx.1 cx.2.1 hd rfl hl hn rfl (fun ls hl => k.2 p e R s m args below meth c H locs cells slots Q ls cx hH hS (mx_lv_put (v := .int x) hl) h0 h1 h2 hr)⟩
theorem EV.istore {n : Nat} {x : Int32} (hd : decode M.2.1 pc = .ok (.istore n, 2)) (hn : n < M.2.2.1) (k : EV G d M (pc + 2) (lc.set n (some (.int x))) st S D S' Post) : EV G d M pc lc (.int x :: st) S D S' Post :=
  ⟨k.1, fun p e R s m args below meth c H locs cells slots Q ls cx hH hS hl h0 h1 h2 hr => lv_istore cx.1 cx.2.1 hd hl hn rfl (fun ls hl => k.2 p e R s m args below meth c H locs cells slots Q ls cx hH hS (mx_lv_put (v := .int x) hl) h0 h1 h2 hr)⟩
theorem EV.astore_n {n : Fin 4} {x : Nat} (hd : decode M.2.1 pc = .ok (.astore_n n, 1)) (hn : (n : Nat) < M.2.2.1) (k : EV G d M (pc + 1) (lc.set (n : Nat) (some (.ref x))) st S D S' Post) : EV G d M pc lc (.ref x :: st) S D S' Post :=
  ⟨k.1, fun p e R s m args below meth c H locs cells slots Q ls cx hH hS hl h0 h1 h2 hr => lv_astore_n cx.1 cx.2.1 hd rfl hl hn rfl (fun ls hl => k.2 p e R s m args below meth c H locs cells slots Q ls cx hH hS (mx_lv_put (v := .ref x) hl) h0 h1 h2 hr)⟩
theorem EV.astore {n : Nat} {x : Nat} (hd : decode M.2.1 pc = .ok (.astore n, 2)) (hn : n < M.2.2.1) (k : EV G d M (pc + 2) (lc.set n (some (.ref x))) st S D S' Post) : EV G d M pc lc (.ref x :: st) S D S' Post :=
  ⟨k.1, fun p e R s m args below meth c H locs cells slots Q ls cx hH hS hl h0 h1 h2 hr => lv_astore cx.1 cx.2.1 hd hl hn rfl (fun ls hl => k.2 p e R s m args below meth c H locs cells slots Q ls cx hH hS (mx_lv_put (v := .ref x) hl) h0 h1 h2 hr)⟩
theorem EV.iinc {n : Nat} {z : Int} {x v : Int32} (hd : decode M.2.1 pc = .ok (.iinc n z, 3)) (h : lc[n]? = some (some (.int x))) (hv : x + Int32.ofInt z = v) (hn : n < M.2.2.1) (k : EV G d M (pc + 3) (lc.set n (some (.int v))) st S D S' Post) : EV G d M pc lc st S D S' Post :=
  ⟨k.1, fun p e R s m args below meth c H locs cells slots Q ls cx hH hS hl h0 h1 h2 hr => by
    obtain ⟨q, hq⟩ := List.getElem?_of_mem (mx_lv_mem (G := G) (q := (n, .int x)).mpr ⟨.int x, h, rfl, rfl⟩)
    exact lv_iinc cx.1 cx.2.1 hd hl hq hv hn rfl (fun ls hl => k.2 p e R s m args below meth c H locs cells slots Q ls cx hH hS (mx_lv_put (v := .int v) hl) h0 h1 h2 hr)⟩
theorem EV.if_eq {x : Int32} {off : Int} {tgt : Nat} (hd : decode M.2.1 pc = .ok (.ifCond .eq off, 3)) (ht : (pc : Int) + off = (tgt : Int)) (kt : x = 0 → EV G d M tgt lc st S D S' Post) (kf : ¬ x = 0 → EV G d M (pc + 3) lc st S D S' Post) : EV G d M pc lc (.int x :: st) S D S' Post :=
  ⟨(Classical.em (x = 0)).elim (fun h => (kt h).1) (fun h => (kf h).1), fun p e R s m args below meth c H locs cells slots Q ls cx hH hS hl h0 h1 h2 hr => lv_if_eq cx.1 cx.2.1 hd ht (fun h => (kt h).2 p e R s m args below meth c H locs cells slots Q ls cx hH hS hl h0 h1 h2 hr) (fun h => (kf h).2 p e R s m args below meth c H locs cells slots Q ls cx hH hS hl h0 h1 h2 hr)⟩
theorem EV.if_ne {x : Int32} {off : Int} {tgt : Nat} (hd : decode M.2.1 pc = .ok (.ifCond .ne off, 3)) (ht : (pc : Int) + off = (tgt : Int)) (kt : ¬ x = 0 → EV G d M tgt lc st S D S' Post) (kf : x = 0 → EV G d M (pc + 3) lc st S D S' Post) : EV G d M pc lc (.int x :: st) S D S' Post :=
  ⟨(Classical.em (x = 0)).elim (fun h => (kf h).1) (fun h => (kt h).1), fun p e R s m args below meth c H locs cells slots Q ls cx hH hS hl h0 h1 h2 hr => lv_if_ne cx.1 cx.2.1 hd ht (fun h => (kt h).2 p e R s m args below meth c H locs cells slots Q ls cx hH hS hl h0 h1 h2 hr) (fun h => (kf h).2 p e R s m args below meth c H locs cells slots Q ls cx hH hS hl h0 h1 h2 hr)⟩
theorem EV.if_lt {x : Int32} {off : Int} {tgt : Nat} (hd : decode M.2.1 pc = .ok (.ifCond .lt off, 3)) (ht : (pc : Int) + off = (tgt : Int)) (kt : x < 0 → EV G d M tgt lc st S D S' Post) (kf : ¬ x < 0 → EV G d M (pc + 3) lc st S D S' Post) : EV G d M pc lc (.int x :: st) S D S' Post :=
  ⟨(Classical.em (x < 0)).elim (fun h => (kt h).1) (fun h => (kf h).1), fun p e R s m args below meth c H locs cells slots Q ls cx hH hS hl h0 h1 h2 hr => lv_if_lt cx.1 cx.2.1 hd ht (fun h => (kt h).2 p e R s m args below meth c H locs cells slots Q ls cx hH hS hl h0 h1 h2 hr) (fun h => (kf h).2 p e R s m args below meth c H locs cells slots Q ls cx hH hS hl h0 h1 h2 hr)⟩
theorem EV.if_ge {x : Int32} {off : Int} {tgt : Nat} (hd : decode M.2.1 pc = .ok (.ifCond .ge off, 3)) (ht : (pc : Int) + off = (tgt : Int)) (kt : 0 ≤ x → EV G d M tgt lc st S D S' Post) (kf : ¬ 0 ≤ x → EV G d M (pc + 3) lc st S D S' Post) : EV G d M pc lc (.int x :: st) S D S' Post :=
  ⟨(Classical.em (0 ≤ x)).elim (fun h => (kt h).1) (fun h => (kf h).1), fun p e R s m args below meth c H locs cells slots Q ls cx hH hS hl h0 h1 h2 hr => lv_if_ge cx.1 cx.2.1 hd ht (fun h => (kt h).2 p e R s m args below meth c H locs cells slots Q ls cx hH hS hl h0 h1 h2 hr) (fun h => (kf h).2 p e R s m args below meth c H locs cells slots Q ls cx hH hS hl h0 h1 h2 hr)⟩
theorem EV.if_gt {x : Int32} {off : Int} {tgt : Nat} (hd : decode M.2.1 pc = .ok (.ifCond .gt off, 3)) (ht : (pc : Int) + off = (tgt : Int)) (kt : 0 < x → EV G d M tgt lc st S D S' Post) (kf : ¬ 0 < x → EV G d M (pc + 3) lc st S D S' Post) : EV G d M pc lc (.int x :: st) S D S' Post :=
  ⟨(Classical.em (0 < x)).elim (fun h => (kt h).1) (fun h => (kf h).1), fun p e R s m args below meth c H locs cells slots Q ls cx hH hS hl h0 h1 h2 hr => lv_if_gt cx.1 cx.2.1 hd ht (fun h => (kt h).2 p e R s m args below meth c H locs cells slots Q ls cx hH hS hl h0 h1 h2 hr) (fun h => (kf h).2 p e R s m args below meth c H locs cells slots Q ls cx hH hS hl h0 h1 h2 hr)⟩
theorem EV.if_le {x : Int32} {off : Int} {tgt : Nat} (hd : decode M.2.1 pc = .ok (.ifCond .le off, 3)) (ht : (pc : Int) + off = (tgt : Int)) (kt : x ≤ 0 → EV G d M tgt lc st S D S' Post) (kf : ¬ x ≤ 0 → EV G d M (pc + 3) lc st S D S' Post) : EV G d M pc lc (.int x :: st) S D S' Post :=
  ⟨(Classical.em (x ≤ 0)).elim (fun h => (kt h).1) (fun h => (kf h).1), fun p e R s m args below meth c H locs cells slots Q ls cx hH hS hl h0 h1 h2 hr => lv_if_le cx.1 cx.2.1 hd ht (fun h => (kt h).2 p e R s m args below meth c H locs cells slots Q ls cx hH hS hl h0 h1 h2 hr) (fun h => (kf h).2 p e R s m args below meth c H locs cells slots Q ls cx hH hS hl h0 h1 h2 hr)⟩
theorem EV.icmp_eq {x y : Int32} {off : Int} {tgt : Nat} (hd : decode M.2.1 pc = .ok (.if_icmp .eq off, 3)) (ht : (pc : Int) + off = (tgt : Int)) (kt : x = y → EV G d M tgt lc st S D S' Post) (kf : ¬ x = y → EV G d M (pc + 3) lc st S D S' Post) : EV G d M pc lc (.int y :: .int x :: st) S D S' Post :=
  ⟨(Classical.em (x = y)).elim (fun h => (kt h).1) (fun h => (kf h).1), fun p e R s m args below meth c H locs cells slots Q ls cx hH hS hl h0 h1 h2 hr => lv_icmp_eq cx.1 cx.2.1 hd ht (fun h => (kt h).2 p e R s m args below meth c H locs cells slots Q ls cx hH hS hl h0 h1 h2 hr) (fun h => (kf h).2 p e R s m args below meth c H locs cells slots Q ls cx hH hS hl h0 h1 h2 hr)⟩
theorem EV.icmp_ne {x y : Int32} {off : Int} {tgt : Nat} (hd : decode M.2.1 pc = .ok (.if_icmp .ne off, 3)) (ht : (pc : Int) + off = (tgt : Int)) (kt : ¬ x = y → EV G d M tgt lc st S D S' Post) (kf : x = y → EV G d M (pc + 3) lc st S D S' Post) : EV G d M pc lc (.int y :: .int x :: st) S D S' Post :=
  ⟨(Classical.em (x = y)).elim (fun h => (kf h).1) (fun h => (kt h).1), fun p e R s m args below meth c H locs cells slots Q ls cx hH hS hl h0 h1 h2 hr => lv_icmp_ne cx.1 cx.2.1 hd ht (fun h => (kt h).2 p e R s m args below meth c H locs cells slots Q ls cx hH hS hl h0 h1 h2 hr) (fun h => (kf h).2 p e R s m args below meth c H locs cells slots Q ls cx hH hS hl h0 h1 h2 hr)⟩
theorem EV.icmp_lt {x y : Int32} {off : Int} {tgt : Nat} (hd : decode M.2.1 pc = .ok (.if_icmp .lt off, 3)) (ht : (pc : Int) + off = (tgt : Int)) (kt : x < y → EV G d M tgt lc st S D S' Post) (kf : ¬ x < y → EV G d M (pc + 3) lc st S D S' Post) : EV G d M pc lc (.int y :: .int x :: st) S D S' Post :=
  ⟨(Classical.em (x < y)).elim (fun h => (kt h).1) (fun h => (kf h).1), fun p e R s m args below meth c H locs cells slots Q ls cx hH hS hl h0 h1 h2 hr => lv_icmp_lt cx.1 cx.2.1 hd ht (fun h => (kt h).2 p e R s m args below meth c H locs cells slots Q ls cx hH hS hl h0 h1 h2 hr) (fun h => (kf h).2 p e R s m args below meth c H locs cells slots Q ls cx hH hS hl h0 h1 h2 hr)⟩
theorem EV.icmp_ge {x y : Int32} {off : Int} {tgt : Nat} (hd : decode M.2.1 pc = .ok (.if_icmp .ge off, 3)) (ht : (pc : Int) + off = (tgt : Int)) (kt : y ≤ x → EV G d M tgt lc st S D S' Post) (kf : ¬ y ≤ x → EV G d M (pc + 3) lc st S D S' Post) : EV G d M pc lc (.int y :: .int x :: st) S D S' Post :=
  ⟨(Classical.em (y ≤ x)).elim (fun h => (kt h).1) (fun h => (kf h).1), fun p e R s m args below meth c H locs cells slots Q ls cx hH hS hl h0 h1 h2 hr => lv_icmp_ge cx.1 cx.2.1 hd ht (fun h => (kt h).2 p e R s m args below meth c H locs cells slots Q ls cx hH hS hl h0 h1 h2 hr) (fun h => (kf h).2 p e R s m args below meth c H locs cells slots Q ls cx hH hS hl h0 h1 h2 hr)⟩
theorem EV.icmp_gt {x y : Int32} {off : Int} {tgt : Nat} (hd : decode M.2.1 pc = .ok (.if_icmp .gt off, 3)) (ht : (pc : Int) + off = (tgt : Int)) (kt : y < x → EV G d M tgt lc st S D S' Post) (kf : ¬ y < x → EV G d M (pc + 3) lc st S D S' Post) : EV G d M pc lc (.int y :: .int x :: st) S D S' Post :=
  ⟨(Classical.em (y < x)).elim (fun h => (kt h).1) (fun h => (kf h).1), fun p e R s m args below meth c H locs cells slots Q ls cx hH hS hl h0 h1 h2 hr => lv_icmp_gt cx.1 cx.2.1 hd ht (fun h => (kt h).2 p e R s m args below meth c H locs cells slots Q ls cx hH hS hl h0 h1 h2 hr) (fun h => (kf h).2 p e R s m args below meth c H locs cells slots Q ls cx hH hS hl h0 h1 h2 hr)⟩
theorem EV.icmp_le {x y : Int32} {off : Int} {tgt : Nat} (hd : decode M.2.1 pc = .ok (.if_icmp .le off, 3)) (ht : (pc : Int) + off = (tgt : Int)) (kt : x ≤ y → EV G d M tgt lc st S D S' Post) (kf : ¬ x ≤ y → EV G d M (pc + 3) lc st S D S' Post) : EV G d M pc lc (.int y :: .int x :: st) S D S' Post :=
  ⟨(Classical.em (x ≤ y)).elim (fun h => (kt h).1) (fun h => (kf h).1), fun p e R s m args below meth c H locs cells slots Q ls cx hH hS hl h0 h1 h2 hr => lv_icmp_le cx.1 cx.2.1 hd ht (fun h => (kt h).2 p e R s m args below meth c H locs cells slots Q ls cx hH hS hl h0 h1 h2 hr) (fun h => (kf h).2 p e R s m args below meth c H locs cells slots Q ls cx hH hS hl h0 h1 h2 hr)⟩
end MXR
theorem mx_Wsz {p : Program} {l : Launch} {e : Env} {R : Room} {s : State} {m : MethodId} {args : Array Value} {below : List Frame} {meth : Method} {c : Code} {H : Heap} {locs : List Loc} {cells slots : Nat} {Q : State → Prop} {g : JFrame} (k : H.size ≤ s.heap.size + cells → W p l e R s m args below meth c H locs cells slots Q g) : W p l e R s m args below meth c H locs cells slots Q g :=
  fun T hT X => k (by rw [← hT]; exact X.heapSize) T hT X
theorem mx_up_self (D : mx_Mem) (k : Nat) : va_up D k (D k) = D := by
  funext i
  unfold va_up
  by_cases h : i = k
  · rw [if_pos h, h]
  · rw [if_neg h]
theorem mx_S0 {A : Nat → Prop} {H0 H : Heap} {locs : List Loc} (h : va_S A H0 H locs) : va_S A H H locs := ⟨Nat.le_refl _, fun _ _ _ => rfl, h.2.2⟩
theorem mx_ST {A : Nat → Prop} {H0 H H1 : Heap} {locs locs1 : List Loc} (h : va_S A H0 H locs) (h1 : va_S A H H1 locs1) : va_S A H0 H1 locs1 :=
  ⟨Nat.le_trans h.1 h1.1, fun q hq hn => (h1.2.1 q (Nat.lt_of_lt_of_le hq h.1) hn).trans (h.2.1 q hq hn), h1.2.2⟩
theorem mx_tys_at {G : mx_G} {t : Nat} {ty : FieldType} (h : mx_ty[t]? = some ty) : (mx_tys G)[t]? = some (mx_cA G t, ty) := by
  obtain ⟨ht, he⟩ := List.getElem?_eq_some_iff.mp h
  simp [mx_tys, ht, he]
/-- a field's link: the field is number j of the class number ci, of type ty -/
def mx_lk (own : String) (idx ci j : Nat) (ty : FieldType) (fin : Bool) : Prop := ∃ q : vw_C, vwCl[ci]? = some q ∧ j < q.2.2 ∧ (q.2.1 j).2.2.2 = fin ∧ parseFieldDescriptor (q.2.1 j).2.2.1 = some ty ∧ (Cond.fieldLink own idx (q.2.1 j).1 (q.2.1 j).2.1 (q.2.1 j).2.2.1 ∈ mx_gw ∨ ∃ host, Cond.fieldLinkNest own idx (q.2.1 j).1 (q.2.1 j).2.1 (q.2.1 j).2.2.1 host ∈ mx_nw)
def mx_rd (x : Int32) : Option (Option Nat) → Value
  | none => .int x
  | some r => va_rf r
theorem mx_rd_cv {G : mx_G} {x : Int32} {fo : Option (Option Nat)} : mx_cv G (mx_rd x fo) = mx_fv G x fo := by
  rcases fo with _ | _ | r <;> rfl
theorem mx_fs_at {G : mx_G} {f : Nat → Int32} {fs : List (Option (Option Nat))} {j : Nat} {fo : Option (Option Nat)} (h : fs[j]? = some fo) : ((List.range fs.length).map fun j => mx_fv G (f j) (fs.getD j none))[j]? = some (mx_fv G (f j) fo) := by
  obtain ⟨hj, he⟩ := List.getElem?_eq_some_iff.mp h
  simp [hj, he]
theorem mx_fs_setI {G : mx_G} {f : Nat → Int32} {fs : List (Option (Option Nat))} {j : Nat} {x : Int32} (h : fs[j]? = some none) : ((List.range fs.length).map fun j => mx_fv G (f j) (fs.getD j none)).set j (.int x) = (List.range fs.length).map fun i => mx_fv G (upd f j x i) (fs.getD i none) := by
  obtain ⟨hj, he⟩ := List.getElem?_eq_some_iff.mp h
  apply List.ext_getElem?
  intro i
  by_cases hi : i = j
  · subst hi
    rw [List.getElem?_set_self (by simpa using hj)]
    simp [hj, he, upd, mx_fv]
  · rw [List.getElem?_set_ne (Ne.symm hi)]
    by_cases hl : i < fs.length
    · simp [hl, upd, hi]
    · rw [List.getElem?_eq_none (by simpa using hl), List.getElem?_eq_none (by simpa using hl)]
theorem mx_fs_setR {G : mx_G} {f : Nat → Int32} {fs : List (Option (Option Nat))} {j r : Nat} {fo : Option (Option Nat)} (h : fs[j]? = some fo) : ((List.range fs.length).map fun j => mx_fv G (f j) (fs.getD j none)).set j (.ref (mx_ad G r)) = (List.range (fs.set j (some (some r))).length).map fun i => mx_fv G (f i) ((fs.set j (some (some r))).getD i none) := by
  have hj : j < fs.length := (List.getElem?_eq_some_iff.mp h).1
  apply List.ext_getElem?
  intro i
  by_cases hi : i = j
  · subst hi
    rw [List.getElem?_set_self (by simpa using hj)]
    simp [hj, mx_fv, va_rf]
  · rw [List.getElem?_set_ne (Ne.symm hi)]
    by_cases hl : i < fs.length
    · simp [hl, List.getElem_set_ne (Ne.symm hi)]
    · rw [List.getElem?_eq_none (by simpa using hl), List.getElem?_eq_none (by simpa using hl)]
theorem mx_step {G : mx_G} {S S2 : List mx_Sh} {D D2 : mx_Mem} {H H1 : Heap} {s : State} {cells : Nat} {locs1 : List Loc} (hH : mx_H G S D H) (h0 : s.heap.size + cells = mx_base G + S.length) (hS1 : va_S (mx_A G) H H1 locs1) (hz : H1.size ≤ s.heap.size + cells) (hl : S2.length = S.length) (hP1 : va_P (mx_dd G) vwCl (mx_ws G S2 D2) H1) : mx_H G S2 D2 H1 := by
  refine ⟨?_, hP1⟩
  have h1 := hS1.1
  have h2 := hH.1
  rw [hl]
  omega
theorem mx_cls {ci : Nat} {q : vw_C} (h : vwCl[ci]? = some q) : (∀ w ∈ u_ws q.1 q.2.1 q.2.2, w ∈ mx_gw) ∧ (∀ k, k < q.2.2 → parseFieldDescriptor (q.2.1 k).2.2.1 = some ((parseFieldDescriptor (q.2.1 k).2.2.1).getD .int)) ∧ ∀ a, a < q.2.2 → ∀ b, b < q.2.2 → a ≠ b → (q.2.1 a).2.1 ≠ (q.2.1 b).2.1 := mx_cls0 q (List.mem_of_getElem? h)
theorem mx_sl_set {S : List mx_Sh} {k : Nat} {sh sh' : mx_Sh} (h : S[k]? = some sh) (hn : mx_n sh' = mx_n sh) : mx_sl (S.set k sh') = mx_sl S := by
  have e : (S.set k sh').map mx_n = S.map mx_n := by
    apply List.ext_getElem?
    intro i
    by_cases hi : i = k
    · subst hi
      have hk : i < S.length := (List.getElem?_eq_some_iff.mp h).1
      rw [List.getElem?_map, List.getElem?_map, List.getElem?_set_self hk, h]
      simp [hn]
    · rw [List.getElem?_map, List.getElem?_map, List.getElem?_set_ne (Ne.symm hi)]
  unfold mx_sl
  rw [e]
section MXH
variable {G : mx_G} {d : Nat} {M : mx_M} {pc : Nat} {lc : List (Option Value)} {st : List Value} {S S' : List mx_Sh} {D : mx_Mem} {Post : Option Value → mx_Mem → Prop}
theorem EV.getfield {idx ci j k : Nat} {ty : FieldType} {fin : Bool} {fs : List (Option (Option Nat))} {fo : Option (Option Nat)} (hl : mx_lk M.1.cls idx ci j ty fin) (hd : decode M.2.1 pc = .ok (.getfield idx, 3)) (hk : S[k]? = some (.inl (ci, fs))) (hj : fs[j]? = some fo) (kk : EV G d M (pc + 3) lc (mx_rd (D k j) fo :: st) S D S' Post) : EV G d M pc lc (.ref k :: st) S D S' Post := by
  refine ⟨kk.1, fun p e R s m args below meth c H locs cells slots Q ls cx hH hS hlv h0 h1 h2 hr => ?_⟩
  have K := kk.2 p e R s m args below meth c H locs cells slots Q ls cx hH hS hlv h0 h1 h2 hr
  obtain ⟨hx, hb, -, -, hown, hts, hnw, hK, -⟩ := cx
  obtain ⟨q, hq, hjN, -, -, hlink⟩ := hl
  obtain ⟨hin, -, -⟩ := mx_cls hq
  have hv : ((List.range fs.length).map fun j => mx_fv G (D k j) (fs.getD j none))[j]? = some (mx_cv G (mx_rd (D k j) fo)) := by rw [mx_rd_cv]; exact mx_fs_at hj
  rcases hlink with hlink | ⟨host, hlink⟩
  · exact va_get (C := q.1) (T := q.2.1) (N := q.2.2) hx hb hts hin hown hK hH.2 k (mx_ws_at hk) hq j hjN (hts _ hlink) (fun _ h => h) hv hd K
  · exact va_getN (C := q.1) (T := q.2.1) (N := q.2.2) hx hb hts hin hown hK hH.2 k (mx_ws_at hk) hq j hjN (va_Nw.use rfl (hnw.1 _ hlink)) (fun _ h => h) hv hd K
theorem EV.getI {idx ci j k : Nat} {ty : FieldType} {fin : Bool} {fs : List (Option (Option Nat))} (hl : mx_lk M.1.cls idx ci j ty fin) (hd : decode M.2.1 pc = .ok (.getfield idx, 3)) (hk : S[k]? = some (.inl (ci, fs))) (hj : fs[j]? = some none) (kk : EV G d M (pc + 3) lc (.int (D k j) :: st) S D S' Post) : EV G d M pc lc (.ref k :: st) S D S' Post := EV.getfield hl hd hk hj kk
theorem EV.getR {idx ci j k r : Nat} {ty : FieldType} {fin : Bool} {fs : List (Option (Option Nat))} (hl : mx_lk M.1.cls idx ci j ty fin) (hd : decode M.2.1 pc = .ok (.getfield idx, 3)) (hk : S[k]? = some (.inl (ci, fs))) (hj : fs[j]? = some (some (some r))) (kk : EV G d M (pc + 3) lc (.ref r :: st) S D S' Post) : EV G d M pc lc (.ref k :: st) S D S' Post := EV.getfield hl hd hk hj kk
theorem EV.putI {idx ci j k : Nat} {ty : FieldType} {fs : List (Option (Option Nat))} {x : Int32} (hl : mx_lk M.1.cls idx ci j ty false) (hd : decode M.2.1 pc = .ok (.putfield idx, 3)) (hk : S[k]? = some (.inl (ci, fs))) (hj : fs[j]? = some none) (hn : narrow ty (.int x) = .int x) (hf : fits ty (.int x) = true) (kk : EV G d M (pc + 3) lc st S (mx_w D k j x) S' Post) : EV G d M pc lc (.int x :: .ref k :: st) S D S' Post := by
  refine ⟨kk.1, fun p e R s m args below meth c H locs cells slots Q ls cx hH hS hlv h0 h1 h2 hr => ?_⟩
  have K := fun H1 locs1 hH1 hS1 => kk.2 p e R s m args below meth c H1 locs1 cells slots Q ls cx hH1 hS1 hlv h0 h1 h2 hr
  obtain ⟨hx, hb, -, -, hown, hts, hnw, hK, -⟩ := cx
  obtain ⟨q, hq, hjN, hfin, hty, hlink⟩ := hl
  obtain ⟨hin, hty0, hnm⟩ := mx_cls hq
  have hjl : j < fs.length := (List.getElem?_eq_some_iff.mp hj).1
  have fin : ∀ (H1 : Heap) (locs1 : List Loc), va_P (mx_dd G) vwCl ((mx_ws G S D).set k (mx_ad G k, .inr (ci, ((List.range fs.length).map fun j => mx_fv G (D k j) (fs.getD j none)).set j (.int x)))) H1 → va_S (mx_A G) H H1 locs1 → W p G.1 e R s m args below meth c H1 locs1 cells slots Q (F0 m (pc + 3) ls (st.map (mx_cv G))) := by
    intro H1 locs1 hP1 hS1
    refine mx_Wsz fun hz => ?_
    rw [mx_fs_setI hj] at hP1
    have e1 := mx_set (G := G) (D := D) (sh' := .inl (ci, fs)) (f := upd (D k) j x) hk
    have e2 : va_P (mx_dd G) vwCl ((mx_ws G S D).set k (mx_ad G k, mx_E G (upd (D k) j x) (.inl (ci, fs)))) H1 := hP1
    rw [e1, mx_setS hk] at e2
    exact K H1 locs1 (mx_step (s := s) hH h0 hS1 hz rfl e2) (mx_ST hS hS1)
  rcases hlink with hlink | ⟨host, hlink⟩
  · exact va_put (C := q.1) (T := q.2.1) (N := q.2.2) hx hb hts hin _ hty0 hnm hown hK hH.2 mx_DD (mx_S0 hS) k (mx_ws_at hk) hq j hjN (hts _ hlink) (fun _ h => h) hfin hty hn hf (by simpa using hjl) hd (fun H1 locs1 hP1 _ hS1 => fin H1 locs1 hP1 hS1)
  · exact va_putN (C := q.1) (T := q.2.1) (N := q.2.2) hx hb hts hin _ hty0 hnm hown hK hH.2 mx_DD (mx_S0 hS) k (mx_ws_at hk) hq j hjN (va_Nw.use rfl (hnw.1 _ hlink)) (fun _ h => h) hfin hty hn hf (by simpa using hjl) hd (fun H1 locs1 hP1 _ hS1 => fin H1 locs1 hP1 hS1)
/-- a reference into a final field, by the class's own constructor -/
theorem EV.putR {idx ci j k r : Nat} {ty : FieldType} {fs : List (Option (Option Nat))} {fo : Option Nat} (hl : ∃ q : vw_C, vwCl[ci]? = some q ∧ j < q.2.2 ∧ (q.2.1 j).2.2.2 = true ∧ parseFieldDescriptor (q.2.1 j).2.2.1 = some ty ∧ Cond.fieldLink M.1.cls idx (q.2.1 j).1 (q.2.1 j).2.1 (q.2.1 j).2.2.1 ∈ mx_gw ∧ (q.2.1 j).1 = M.1.cls) (hini : M.1.name = "<init>") (hd : decode M.2.1 pc = .ok (.putfield idx, 3)) (hk : S[k]? = some (.inl (ci, fs))) (hj : fs[j]? = some (some fo)) (hn : ∀ a : Nat, narrow ty (.ref a) = .ref a) (hf : ∀ a : Nat, fits ty (.ref a) = true) (kk : EV G d M (pc + 3) lc st (S.set k (.inl (ci, fs.set j (some (some r))))) D S' Post) : EV G d M pc lc (.ref r :: .ref k :: st) S D S' Post := by
  have hkl : k < S.length := (List.getElem?_eq_some_iff.mp hk).1
  have hsl : mx_sl (S.set k (.inl (ci, fs.set j (some (some r))))) = mx_sl S := mx_sl_set hk (by simp [mx_n])
  refine ⟨by have := kk.1; rw [hsl, List.length_set] at this; exact this, fun p e R s m args below meth c H locs cells slots Q ls cx hH hS hlv h0 h1 h2 hr => ?_⟩
  have K := fun H1 locs1 hH1 hS1 => kk.2 p e R s m args below meth c H1 locs1 cells slots Q ls cx hH1 hS1 hlv (by rw [List.length_set]; exact h0) (by rw [List.length_set]; exact h1) (by rw [hsl]; exact h2) (by rw [hsl, List.length_set]; exact hr)
  obtain ⟨hx, hb, -, -, hown, hts, hnw, hK, -, hname, -⟩ := cx
  obtain ⟨q, hq, hjN, hfin, hty, hlink, hdecl⟩ := hl
  obtain ⟨hin, hty0, hnm⟩ := mx_cls hq
  have hjl : j < fs.length := (List.getElem?_eq_some_iff.mp hj).1
  refine va_putF (C := q.1) (T := q.2.1) (N := q.2.2) hx hb hts hin _ hty0 hnm hown hK hH.2 mx_DD (mx_S0 hS) k (mx_ws_at hk) hq j hjN (hts _ hlink) (fun _ h => h) hfin (hname.trans hini) hdecl hty (hn _) (hf _) (by simpa using hjl) hd (fun H1 locs1 hP1 _ hS1 => ?_)
  refine mx_Wsz fun hz => ?_
  have hP1 : va_P (mx_dd G) vwCl ((mx_ws G S D).set k (mx_ad G k, .inr (ci, ((List.range fs.length).map fun j => mx_fv G (D k j) (fs.getD j none)).set j (.ref (mx_ad G r))))) H1 := hP1
  rw [mx_fs_setR hj] at hP1
  have e1 := mx_set (G := G) (D := D) (sh' := .inl (ci, fs.set j (some (some r)))) (f := D k) hk
  have e2 : va_P (mx_dd G) vwCl ((mx_ws G S D).set k (mx_ad G k, mx_E G (D k) (.inl (ci, fs.set j (some (some r)))))) H1 := hP1
  have e3 : va_up D k (D k) = D := mx_up_self D k
  rw [e1, e3] at e2
  exact K H1 locs1 (mx_step (s := s) hH h0 hS1 hz (by simp) e2) (mx_ST hS hS1)
theorem EV.iald {k t n : Nat} {i : Int32} (hd : decode M.2.1 pc = .ok (.iaload, 1)) (hk : S[k]? = some (.inr (.inl (t, n)))) (ht : mx_ty[t]? = some .int) (hi : vp_in i n) (kk : EV G d M (pc + 1) lc (.int (D k i.toNatClampNeg) :: st) S D S' Post) : EV G d M pc lc (.int i :: .ref k :: st) S D S' Post := by
  refine ⟨kk.1, fun p e R s m args below meth c H locs cells slots Q ls cx hH hS hlv h0 h1 h2 hr => ?_⟩
  have K := kk.2 p e R s m args below meth c H locs cells slots Q ls cx hH hS hlv h0 h1 h2 hr
  obtain ⟨hx, hb, -, -, hown, hts, hnw, hK, -⟩ := cx
  exact va_iald hx hb hK hH.2 k t (mx_ws_at hk) (mx_tys_at ht) hi hd K
theorem EV.cald {k t n : Nat} {i : Int32} (hd : decode M.2.1 pc = .ok (.caload, 1)) (hk : S[k]? = some (.inr (.inl (t, n)))) (ht : mx_ty[t]? = some .char) (hi : vp_in i n) (kk : EV G d M (pc + 1) lc (.int (D k i.toNatClampNeg) :: st) S D S' Post) : EV G d M pc lc (.int i :: .ref k :: st) S D S' Post := by
  refine ⟨kk.1, fun p e R s m args below meth c H locs cells slots Q ls cx hH hS hlv h0 h1 h2 hr => ?_⟩
  have K := kk.2 p e R s m args below meth c H locs cells slots Q ls cx hH hS hlv h0 h1 h2 hr
  obtain ⟨hx, hb, -, -, hown, hts, hnw, hK, -⟩ := cx
  exact va_cald hx hb hK hH.2 k t (mx_ws_at hk) (mx_tys_at ht) hi hd K
theorem EV.aald {k t r : Nat} {i : Int32} {ty : FieldType} {rs : List (Option Nat)} (hd : decode M.2.1 pc = .ok (.aaload, 1)) (hk : S[k]? = some (.inr (.inr (t, rs)))) (ht : mx_ty[t]? = some ty) (hty : ty.isReference = true) (hi0 : ¬ i < 0) (hi : rs[i.toNatClampNeg]? = some (some r)) (kk : EV G d M (pc + 1) lc (.ref r :: st) S D S' Post) : EV G d M pc lc (.int i :: .ref k :: st) S D S' Post := by
  refine ⟨kk.1, fun p e R s m args below meth c H locs cells slots Q ls cx hH hS hlv h0 h1 h2 hr => ?_⟩
  have K := kk.2 p e R s m args below meth c H locs cells slots Q ls cx hH hS hlv h0 h1 h2 hr
  obtain ⟨hx, hb, -, -, hown, hts, hnw, hK, -⟩ := cx
  have hlt : i.toNatClampNeg < rs.length := (List.getElem?_eq_some_iff.mp hi).1
  have hcell : H[mx_ad G k]? = some (vp_cell (mx_cA G t) (rs.length, .inr (.inr (.inr (.inr fun j => (rs.getD j none).map (mx_ad G)))))) := hH.2 k _ (mx_ws_at hk)
  refine W.aald (v := .ref (mx_ad G r)) (ty := ty) hx hb hcell ((hK.2 t _ (mx_tys_at ht)).1 rs.length (fun j => va_rf ((rs.getD j none).map (mx_ad G)))) hty (fun q => by cases q) (by show ¬ (i < 0 ∨ (arrV _ _ _).slots.size ≤ _); rw [arrV_size]; exact fun h => h.elim hi0 (fun h => by omega)) ?_ rfl rfl hd K
  show (arrV _ _ _).slots[_]? = _
  rw [arrV_read _ _ hlt]
  simp [hi, va_rf]
theorem EV.iast {k t n : Nat} {i x : Int32} (hd : decode M.2.1 pc = .ok (.iastore, 1)) (hk : S[k]? = some (.inr (.inl (t, n)))) (ht : mx_ty[t]? = some .int) (hi : vp_in i n) (kk : EV G d M (pc + 1) lc st S (mx_w D k i.toNatClampNeg x) S' Post) : EV G d M pc lc (.int x :: .int i :: .ref k :: st) S D S' Post := by
  refine ⟨kk.1, fun p e R s m args below meth c H locs cells slots Q ls cx hH hS hlv h0 h1 h2 hr => ?_⟩
  have K := fun H1 locs1 hH1 hS1 => kk.2 p e R s m args below meth c H1 locs1 cells slots Q ls cx hH1 hS1 hlv h0 h1 h2 hr
  obtain ⟨hx, hb, -, -, hown, hts, hnw, hK, -⟩ := cx
  refine va_iast hx hb hK hH.2 mx_DD (mx_S0 hS) k t (mx_ws_at hk) (mx_tys_at ht) hi hd (fun H1 locs1 hP1 _ hS1 => mx_Wsz fun hz => ?_)
  have e1 := mx_set (G := G) (D := D) (sh' := .inr (.inl (t, n))) (f := upd (D k) i.toNatClampNeg x) hk
  have e2 : va_P (mx_dd G) vwCl ((mx_ws G S D).set k (mx_ad G k, mx_E G (upd (D k) i.toNatClampNeg x) (.inr (.inl (t, n))))) H1 := hP1
  rw [e1, mx_setS hk] at e2
  exact K H1 locs1 (mx_step (s := s) hH h0 hS1 hz rfl e2) (mx_ST hS hS1)
theorem EV.cast {k t n : Nat} {i x : Int32} (hd : decode M.2.1 pc = .ok (.castore, 1)) (hk : S[k]? = some (.inr (.inl (t, n)))) (ht : mx_ty[t]? = some .char) (hi : vp_in i n) (hn : narrow .char (.int x) = .int x) (kk : EV G d M (pc + 1) lc st S (mx_w D k i.toNatClampNeg x) S' Post) : EV G d M pc lc (.int x :: .int i :: .ref k :: st) S D S' Post := by
  refine ⟨kk.1, fun p e R s m args below meth c H locs cells slots Q ls cx hH hS hlv h0 h1 h2 hr => ?_⟩
  have K := fun H1 locs1 hH1 hS1 => kk.2 p e R s m args below meth c H1 locs1 cells slots Q ls cx hH1 hS1 hlv h0 h1 h2 hr
  obtain ⟨hx, hb, -, -, hown, hts, hnw, hK, -⟩ := cx
  refine va_cast hx hb hK hH.2 mx_DD (mx_S0 hS) k t (mx_ws_at hk) (mx_tys_at ht) hi hd (fun H1 locs1 hP1 _ hS1 => mx_Wsz fun hz => ?_)
  have e0 : vp_nar .char x = x := by unfold vp_nar; rw [hn]
  have e1 := mx_set (G := G) (D := D) (sh' := .inr (.inl (t, n))) (f := upd (D k) i.toNatClampNeg x) hk
  rw [e0] at hP1
  have e2 : va_P (mx_dd G) vwCl ((mx_ws G S D).set k (mx_ad G k, mx_E G (upd (D k) i.toNatClampNeg x) (.inr (.inl (t, n))))) H1 := hP1
  rw [e1, mx_setS hk] at e2
  exact K H1 locs1 (mx_step (s := s) hH h0 hS1 hz rfl e2) (mx_ST hS hS1)
theorem EV.alen {k t n : Nat} {ty : FieldType} {v : Int32} (hd : decode M.2.1 pc = .ok (.arraylength, 1)) (hk : S[k]? = some (.inr (.inl (t, n)))) (ht : mx_ty[t]? = some ty) (hv : Int32.ofNat n = v) (kk : EV G d M (pc + 1) lc (.int v :: st) S D S' Post) : EV G d M pc lc (.ref k :: st) S D S' Post := by
  refine ⟨kk.1, fun p e R s m args below meth c H locs cells slots Q ls cx hH hS hlv h0 h1 h2 hr => ?_⟩
  have K := kk.2 p e R s m args below meth c H locs cells slots Q ls cx hH hS hlv h0 h1 h2 hr
  obtain ⟨hx, hb, -, -, hown, hts, hnw, hK, -⟩ := cx
  exact va_alen hx hb hK hH.2 k t (mx_ws_at hk) (mx_tys_at ht) hv hd K
/-- the script -/
theorem EV.aload_s {n : Fin 4} (hd : decode M.2.1 pc = .ok (.aload_n n, 1)) (h : lc[(n : Nat)]? = some (some (.retAddr 0))) (k : EV G d M (pc + 1) lc (.retAddr 0 :: st) S D S' Post) : EV G d M pc lc st S D S' Post :=
  ⟨k.1, fun p e R s m args below meth c H locs cells slots Q ls cx hH hS hl h0 h1 h2 hr => lv_aload_n cx.1 cx.2.1 hd rfl (mx_lv_at hl h rfl) (k.2 p e R s m args below meth c H locs cells slots Q ls cx hH hS hl h0 h1 h2 hr)⟩
theorem EV.sld {i : Int32} (hd : decode M.2.1 pc = .ok (.iaload, 1)) (hi : vp_in i (mx_L G)) (kk : EV G d M (pc + 1) lc (.int (mx_xs G i.toNatClampNeg) :: st) S D S' Post) : EV G d M pc lc (.int i :: .retAddr 0 :: st) S D S' Post := by
  refine ⟨kk.1, fun p e R s m args below meth c H locs cells slots Q ls cx hH hS hlv h0 h1 h2 hr => ?_⟩
  have K := kk.2 p e R s m args below meth c H locs cells slots Q ls cx hH hS hlv h0 h1 h2 hr
  obtain ⟨hx, hb, -, -, hown, hts, hnw, hK, -, -, ⟨hX, hbb, hbs⟩, -⟩ := cx
  show W p G.1 e R s m args below meth c H locs cells slots Q (F0 m pc ls (.int i :: .ref (mx_b G) :: st.map (mx_cv G)))
  exact va_sld hx hb hX (by omega) (by show ¬ mx_base G ≤ mx_b G; omega) hS hi hd K
theorem EV.slen {v : Int32} (hd : decode M.2.1 pc = .ok (.arraylength, 1)) (hv : Int32.ofNat (mx_L G) = v) (kk : EV G d M (pc + 1) lc (.int v :: st) S D S' Post) : EV G d M pc lc (.retAddr 0 :: st) S D S' Post := by
  subst hv
  refine ⟨kk.1, fun p e R s m args below meth c H locs cells slots Q ls cx hH hS hlv h0 h1 h2 hr => ?_⟩
  have K := kk.2 p e R s m args below meth c H locs cells slots Q ls cx hH hS hlv h0 h1 h2 hr
  obtain ⟨hx, hb, -, -, hown, hts, hnw, hK, -, -, ⟨hX, hbb, hbs⟩, -⟩ := cx
  show W p G.1 e R s m args below meth c H locs cells slots Q (F0 m pc ls (.ref (mx_b G) :: st.map (mx_cv G)))
  exact va_slen hx hb hX (by omega) (by show ¬ mx_base G ≤ mx_b G; omega) hS hd K
/-- the answer -/
theorem EV.ret {rv : Option Value} (hd : mx_ret M pc rv) (hp : Post rv D) : EV G d M pc lc rv.toList S D S Post := by
  refine ⟨⟨Nat.le_refl _, Nat.le_refl _⟩, fun p e R s m args below meth c H locs cells slots Q ls cx hH hS hlv h0 h1 h2 hr => ?_⟩
  have K := hr rv D H locs pc ls hp hH hS hd
  rw [Nat.sub_self, Nat.sub_self] at K
  cases rv <;> exact K
theorem EV.ireturn {x : Int32} (hd : decode M.2.1 pc = .ok (.ireturn, 1)) (hy : ∃ ty, M.2.2.2 = some ty ∧ narrow ty (.int x) = .int x) (hp : Post (some (.int x)) D) : EV G d M pc lc [.int x] S D S Post := EV.ret (rv := some (.int x)) ⟨hd, hy⟩ hp
theorem EV.areturn {r : Nat} (hd : decode M.2.1 pc = .ok (.areturn, 1)) (hy : ∃ n, M.2.2.2 = some (.object n)) (hp : Post (some (.ref r)) D) : EV G d M pc lc [.ref r] S D S Post := EV.ret (rv := some (.ref r)) ⟨hd, hy⟩ hp
theorem EV.return_ (hd : decode M.2.1 pc = .ok (.return_, 1)) (hy : M.2.2.2 = none) (hp : Post none D) : EV G d M pc lc [] S D S Post := EV.ret (rv := none) ⟨hd, hy⟩ hp
end MXH
def mx_lc0 (M : mx_M) (avs : List Value) : List (Option Value) := avs.map some ++ List.replicate (M.2.2.1 - avs.length) none
def mx_Pc (G : mx_G) (avs : List Value) (S : List mx_Sh) (D : mx_Mem) : Array Value → State → Prop := va_Pc (avs.map (mx_cv G)) (fun U => mx_H G S D U.heap ∧ va_K (mx_dd G) vwCl (mx_tys G) U ∧ mx_NW U ∧ va_X (mx_b G) (mx_L G) (mx_xs G) U U.heap ∧ mx_b G < mx_base G)
def mx_Qc (G : mx_G) (S' : List mx_Sh) (Post : Option Value → mx_Mem → Prop) : Array Value → State → Outcome → State → Prop := fun _ st o t => (∃ (rv : Option Value) (D' : mx_Mem), o = .returned (rv.map (mx_cv G)) ∧ Post rv D' ∧ mx_H G S' D' t.heap) ∧ va_F (mx_A G) st t
def mx_rm (d : Nat) (S S' : List mx_Sh) : Room := { frames := d, cells := S'.length - S.length, slots := mx_sl S' - mx_sl S, locals := mx_KL * d }
def mx_wM (M : mx_M) : List Cond := .code M.1 M.2.1 M.2.2.1 M.2.2.2 :: mx_gw
theorem mx_args : ∀ (vs : List Value) (i j : Nat) (v : Value), (∀ w ∈ vs, w.category = 1) → vs[j]? = some v → (i + j, v) ∈ lv_args i vs := by
  intro vs
  induction vs with
  | nil => intro i j v _ h; simp at h
  | cons w t ih =>
    intro i j v hc h
    have hw : w.category = 1 := hc w List.mem_cons_self
    cases j with
    | zero =>
      simp at h
      subst h
      exact List.mem_cons_self
    | succ j =>
      have h2 : t[j]? = some v := by simpa using h
      have := ih (i + 1) j v (fun w hw => hc w (List.mem_cons_of_mem _ hw)) h2
      unfold lv_args
      rw [if_neg (by omega)]
      refine List.mem_cons_of_mem _ ?_
      rw [show i + (j + 1) = i + 1 + j by omega]
      exact this
theorem mx_sl_len : ∀ vs : List Value, (∀ w ∈ vs, w.category = 1) → (lg_sl vs).length = vs.length := by
  intro vs
  induction vs with
  | nil => intro _; rfl
  | cons w t ih =>
    intro hc
    have hw : w.category = 1 := hc w List.mem_cons_self
    have h2 := ih (fun w hw => hc w (List.mem_cons_of_mem _ hw))
    unfold lg_sl at h2 ⊢
    rw [List.flatMap_cons, List.length_append, if_neg (by omega), h2]
    simp
    omega
theorem mx_lc0_at {M : mx_M} {avs : List Value} {i : Nat} {v : Value} (h : (mx_lc0 M avs)[i]? = some (some v)) : avs[i]? = some v := by
  unfold mx_lc0 at h
  by_cases hi : i < avs.length
  · rw [List.getElem?_append_left (by simpa using hi)] at h
    simpa using h
  · rw [List.getElem?_append_right (by simpa using hi)] at h
    have := List.mem_of_getElem? h
    simp at this
theorem mx_gw_good {w : Cond} (h : w ∈ mx_gw) : (w.onTables && w.keeps) = true ∨ ∃ ty, w = .arrayClass ty := by
  have h2 := (List.mem_filter.mp h).2
  unfold mx_good at h2
  rw [Bool.or_eq_true] at h2
  rcases h2 with h2 | h2
  · exact Or.inl h2
  · right
    cases w <;> simp at h2
    exact ⟨_, rfl⟩
section MXM
variable {G : mx_G} {d : Nat} {M : mx_M} {S S' : List mx_Sh} {D : mx_Mem} {Post : Option Value → mx_Mem → Prop}
theorem mx_met {avs : List Value} (hc : ∀ v ∈ avs, v.category = 1) (hn : avs.length ≤ M.2.2.1) (hy : plainName M.1.cls = true) (hE : EV G d M 0 (mx_lc0 M avs) [] S D S' Post) : Met G.1 M.1 (mx_wM M) (mx_rm d S S') (mx_Pc G avs S D) (mx_Qc G S' Post) (S'.length - S.length) (mx_sl S' - mx_sl S) (mx_A G) := by
  refine Met.ofW (cc := M.2.1) (maxL := M.2.2.1) (ret := M.2.2.2) hy rfl ?_
  intro p e s m args below meth c s₁ B hml hv
  obtain ⟨rfl, hH, hK, hNW, hX, hbb⟩ := hv
  have hts0 := atoms_spec (ws := mx_wM M) B.pre
  have hts : ∀ w ∈ mx_gw, w.before (avs.map (mx_cv G)).toArray s = true := fun w hw => hts0 w (List.mem_cons_of_mem _ hw)
  have hown : s.vm.findClass M.1.cls = some m.cls := findClass_of_methodNamed B.named
  have hname : meth.name = M.1.name := (name_of_methodNamed B.named B.method).1
  have hlocks := B.notSynchronized
  have hx := B.exec
  have hb := B.bytes
  have hr := B.returns
  have hcm : ∀ v ∈ avs.map (mx_cv G), v.category = 1 := by
    intro v hv
    obtain ⟨w, hw, rfl⟩ := List.mem_map.mp hv
    rw [mx_cv_cat]
    exact hc w hw
  have hl0 := lv_entry (avs.map (mx_cv G)) (n := M.2.2.1) (by rw [mx_sl_len _ hcm, List.length_map]; exact hn)
  rw [lg_entry_eq]
  generalize (lg_sl (avs.map (mx_cv G)) ++ List.replicate (M.2.2.1 - (lg_sl (avs.map (mx_cv G))).length) Slot.unset).toArray = ls at hl0 ⊢
  have hcx : mx_Cx G d M p (headSpec (mx_wM M) (mx_rm d S S')).room s m (avs.map (mx_cv G)).toArray meth c := ⟨hx, hb, hr, hml, hown, hts, hNW, hK, hlocks, hname, ⟨hX, hbb, by rw [hH.1]; omega⟩, Nat.le_refl _, Nat.le_refl _⟩
  refine hE.2 p e _ s m _ below meth c s.heap [] 0 0 _ ls hcx hH va_S.rf (mx_lv_sub hl0 fun q hq => ?_) (by rw [hH.1]; omega) (by show 0 + _ ≤ (S'.length - S.length) + S.length; have := hE.1.1; omega) (by show 0 + _ ≤ (mx_sl S' - mx_sl S) + mx_sl S; have := hE.1.2; omega) ?_
  · obtain ⟨v, a1, a2, a3⟩ := mx_lv_mem.mp hq
    have h2 := mx_lc0_at a1
    have := mx_args (avs.map (mx_cv G)) 0 q.1 (mx_cv G v) hcm (by rw [List.getElem?_map, h2]; rfl)
    rw [Nat.zero_add, ← a3] at this
    exact this
  · intro rv D' H' locs' pc' ls' hp hH' hS' hret
    rw [Nat.zero_add, Nat.zero_add]
    have hq : ∀ t : State, t.heap = H' → s.WarmedH t.vm → mx_Qc G S' Post (avs.map (mx_cv G)).toArray s (.returned (rv.map (mx_cv G))) t := fun t ht _ => ⟨⟨rv, D', rfl, hp, by rw [ht]; exact hH'⟩, hS'.F ht⟩
    cases rv with
    | none => exact W.vret hx hb (hr.trans hret.2) hq hS'.2.2 hret.1
    | some v =>
      cases v with
      | int x =>
        obtain ⟨hd, ty, hty, hnr⟩ := hret
        exact W.zret hx hb (hr.trans hty) hnr hq hS'.2.2 hd
      | ref r =>
        obtain ⟨hd, n, hty⟩ := hret
        exact W.aret hx hb (hr.trans hty) (Or.inl ⟨n, rfl⟩) (Or.inr ⟨_, rfl⟩) hq hS'.2.2 hd
      | _ => exact hret.elim
theorem mx_blind {avs : List Value} : FrameBlind (mx_Pc G avs S D) := by
  intro a U g mk h
  obtain ⟨h1, hH, hK, hNW, hX, hbb⟩ := h
  exact ⟨h1, hH, va_K.moved (u := U) (U := U.calling g mk a) (Vm.Alike.refl U.vm) hK, mx_NW_same (u := U) (U := U.calling g mk a) rfl hNW, va_X.moved (u := U) (U := U.calling g mk a) (Vm.Alike.refl U.vm) hX, hbb⟩
/-- what is known of a method that is called: n arguments (without the object) -/
def mx_cal (M2 : mx_M) (n : Nat) : Prop := Cond.code M2.1 M2.2.1 M2.2.2.1 M2.2.2.2 ∈ mx_gw ∧ Cond.initialized M2.1.cls ∈ mx_gw ∧ plainName M2.1.cls = true ∧ (M2.1.cls ≠ "java/lang/invoke/MethodHandle" ∧ M2.1.cls ≠ "java/lang/invoke/VarHandle" ∧ (parseMethodDescriptor M2.1.desc).map (fun d => d.parameters.length) = some n) ∧ 8 + (M2.2.2.1 + 11) ≤ mx_KL
def mx_ml (own : String) (idx : Nat) (M2 : mx_M) : Prop := Cond.methodLink own idx M2.1 ∈ mx_gw ∨ ∃ host, Cond.methodLinkNest own idx M2.1 host ∈ mx_nw
theorem mx_call {p : Program} {e : Env} {R : Room} {s : State} {m : MethodId} {args : Array Value} {below : List Frame} {meth : Method} {c : Code} {H : Heap} {locs : List Loc} {cells slots : Nat} {Q : State → Prop} {pc : Nat} {ls : Array Slot} {st0 rest : List Value} {S1 : List mx_Sh} {P1 : Option Value → mx_Mem → Prop} {a : Array Value} {mc ms : Nat}
    (hr : va_Run p G.1 e R s m args below meth c H locs cells slots mc ms (F0 m pc ls st0) rest (mx_Qc G S1 P1 a) (mx_A G)) (hS : va_S (mx_A G) s.heap H locs)
    (kk : ∀ (rv : Option Value) (D1 : mx_Mem) (H1 : Heap) (locs1 : List Loc), P1 rv D1 → mx_H G S1 D1 H1 → va_S (mx_A G) s.heap H1 locs1 → W p G.1 e R s m args below meth c H1 locs1 (cells + mc) (slots + ms) Q (F0 m (pc + 3) ls ((rv.map (mx_cv G)).toList ++ rest))) : W p G.1 e R s m args below meth c H locs cells slots Q (F0 m pc ls st0) := by
  intro T hT X
  obtain ⟨v, st₀, t, T', L, h0, X', hL, e1, e2, ⟨⟨rv, D1, hv, hp, hH1⟩, hz, hk⟩, stp⟩ := hr T hT X
  cases hv
  rw [h0] at hz hk
  obtain ⟨t2, a1, b1⟩ := kk rv D1 T'.heap (locs ++ L) hp (by rw [e1]; exact hH1)
    ⟨Nat.le_trans hS.1 (by rw [e1]; exact hz), fun q h1 h2 => by rw [e1, hk q (Nat.lt_of_lt_of_le h1 hS.1) h2]; exact hS.2.1 q h1 h2, fun q hq => by
      rcases List.mem_append.mp hq with h | h
      · exact hS.2.2 q h
      · exact hL q h⟩ T' rfl X'
  exact ⟨t2, stp t2 a1, b1⟩
theorem mx_pre {s : State} {H : Heap} {locs : List Loc} {avs : List Value} {d : Nat} {M : mx_M} {p : Program} {R : Room} {m : MethodId} {args : Array Value} {meth : Method} {c : Code} (cx : mx_Cx G d M p R s m args meth c) (hH : mx_H G S D H) (hS : va_S (mx_A G) s.heap H locs) : ∀ U : State, U.heap = H → s.WarmedH U.vm → mx_Pc G avs S D (avs.map (mx_cv G)).toArray U := by
  intro U hU hW
  obtain ⟨-, -, -, -, -, -, hNW, hK, -, -, ⟨hX, hbb, hbs⟩, -⟩ := cx
  refine ⟨rfl, by rw [hU]; exact hH, va_K.moved hW.alike hK, mx_NW_warm hW hNW, ?_, hbb⟩
  refine va_X.moved hW.alike (hX.kept ?_)
  rw [hU]
  exact hS.2.1 _ (by omega) (by show ¬ mx_base G ≤ mx_b G; omega)
theorem mx_goodM {M2 : mx_M} (h : Cond.code M2.1 M2.2.1 M2.2.2.1 M2.2.2.2 ∈ mx_gw) : GoodIn mx_gw (mx_wM M2) := by
  intro w hw
  rcases List.mem_cons.mp hw with rfl | hw
  · exact ⟨h, mx_gw_good h⟩
  · exact ⟨hw, mx_gw_good hw⟩
theorem mx_W8 {rest : List Value} (h : rest.length ≤ 8) (hc : ∀ v ∈ rest, v.category = 1) : ((rest.map (mx_cv G)).map fun v => v.category).sum ≤ 8 := by
  have : ((rest.map (mx_cv G)).map fun v => v.category).sum = rest.length := by
    clear h
    induction rest with
    | nil => rfl
    | cons v t ih =>
      have h2 := ih (fun v hv => hc v (List.mem_cons_of_mem _ hv))
      have h1 := hc v List.mem_cons_self
      simp only [List.map_cons, List.sum_cons, List.length_cons, mx_cv_cat, h1]
      rw [h2]
      omega
  omega
end MXM
def mx_V (own : String) (idx : Nat) (M2 : mx_M) (n ci : Nat) : Prop := mx_ml own idx M2 ∧ mx_cal M2 n ∧ (Cond.instanceMethod M2.1 ∈ mx_gw ∧ Cond.selects M2.1.cls M2.1 M2.1 ∈ mx_gw) ∧ (∃ q : vw_C, vwCl[ci]? = some q ∧ q.1 = M2.1.cls) ∧ n + 1 ≤ M2.2.2.1
def mx_Sc (own : String) (idx : Nat) (M2 : mx_M) (n : Nat) : Prop := mx_ml own idx M2 ∧ mx_cal M2 n ∧ Cond.static M2.1 ∈ mx_gw ∧ n ≤ M2.2.2.1
def mx_Ic (own : String) (idx : Nat) (M2 : mx_M) (n : Nat) : Prop := mx_ml own idx M2 ∧ mx_cal M2 n ∧ Cond.instanceMethod M2.1 ∈ mx_gw ∧ M2.1.name = "<init>" ∧ M2.2.2.2 = none ∧ n + 1 ≤ M2.2.2.1
theorem mx_all1 {l : List Value} (h : l.all (fun v => v.category == 1) = true) : ∀ v ∈ l, v.category = 1 := by
  intro v hv
  have := List.all_eq_true.mp h v hv
  simpa using this
section MXC
variable {G : mx_G} {d : Nat} {M M2 : mx_M} {pc : Nat} {lc : List (Option Value)} {st avs rest : List Value} {S S1 S' : List mx_Sh} {D : mx_Mem} {Post P1 : Option Value → mx_Mem → Prop}
theorem EV.callG {a : Array Value} (hrun : ∀ (p : Program) (e : Env) (R : Room) (s : State) (m : MethodId) (args : Array Value) (below : List Frame) (meth : Method) (c : Code) (H : Heap) (locs : List Loc) (cells slots : Nat) (ls : Array Slot), mx_Cx G (d + 1) M p R s m args meth c → mx_H G S D H → va_S (mx_A G) s.heap H locs → ls.size = M.2.2.1 → (cells + (S1.length - S.length) ≤ R.cells ∧ slots + (mx_sl S1 - mx_sl S) ≤ R.slots) →
      va_Run p G.1 e R s m args below meth c H locs cells slots (S1.length - S.length) (mx_sl S1 - mx_sl S) (F0 m pc ls (st.map (mx_cv G))) (rest.map (mx_cv G)) (mx_Qc G S1 P1 a) (mx_A G))
    (h01 : S.length ≤ S1.length ∧ mx_sl S ≤ mx_sl S1) (hle : S1.length ≤ S'.length ∧ mx_sl S1 ≤ mx_sl S') (kk : ∀ (rv : Option Value) (D1 : mx_Mem), P1 rv D1 → EV G (d + 1) M (pc + 3) lc (rv.toList ++ rest) S1 D1 S' Post) : EV G (d + 1) M pc lc st S D S' Post := by
  refine ⟨⟨Nat.le_trans h01.1 hle.1, Nat.le_trans h01.2 hle.2⟩, fun p e R s m args below meth c H locs cells slots Q ls cx hH hS hlv h0 h1 h2 hr => ?_⟩
  refine mx_call (hrun p e R s m args below meth c H locs cells slots ls cx hH hS hlv.1 ⟨by omega, by omega⟩) hS (fun rv D1 H1 locs1 hp hH1 hS1 => ?_)
  have K := (kk rv D1 hp).2 p e R s m args below meth c H1 locs1 (cells + (S1.length - S.length)) (slots + (mx_sl S1 - mx_sl S)) Q ls cx hH1 hS1 hlv (by omega) (by omega) (by omega) (fun rv' D' H' locs' pc' ls' q1 q2 q3 q4 => by
    have := hr rv' D' H' locs' pc' ls' q1 q2 q3 q4
    rw [show cells + (S1.length - S.length) + (S'.length - S1.length) = cells + (S'.length - S.length) by omega, show slots + (mx_sl S1 - mx_sl S) + (mx_sl S' - mx_sl S1) = slots + (mx_sl S' - mx_sl S) by omega]
    exact this)
  rw [List.map_append] at K
  cases rv <;> exact K
theorem mx_room {d K L : Nat} {x : Nat} (h : mx_KL * (d + 1) ≤ L) (hx : x ≤ mx_KL) : x + mx_KL * d ≤ L := by
  rw [Nat.mul_succ] at h
  omega
theorem EV.invV {idx n k ci : Nat} {fs : List (Option (Option Nat))} (hm : mx_V M.1.cls idx M2 n ci) (hd : decode M.2.1 pc = .ok (.invokevirtual idx, 3)) (hn : avs.length = n) (hk : S[k]? = some (.inl (ci, fs))) (hav : avs.all (fun v => v.category == 1) = true) (hrs : rest.all (fun v => v.category == 1) = true) (hr8 : rest.length ≤ 8) (hE : EV G d M2 0 (mx_lc0 M2 (.ref k :: avs)) [] S D S1 P1) (hle : S1.length ≤ S'.length ∧ mx_sl S1 ≤ mx_sl S') (kk : ∀ (rv : Option Value) (D1 : mx_Mem), P1 rv D1 → EV G (d + 1) M (pc + 3) lc (rv.toList ++ rest) S1 D1 S' Post) : EV G (d + 1) M pc lc (avs.reverse ++ .ref k :: rest) S D S' Post := by
  obtain ⟨hml2, ⟨hcode, hini, hpl, hdd, hKL⟩, hiv, ⟨q, hq, hqc⟩, hnl⟩ := hm
  have hM := mx_met (avs := .ref k :: avs) (fun v hv => by
    rcases List.mem_cons.mp hv with rfl | hv
    · rfl
    · exact mx_all1 hav v hv) (by rw [List.length_cons, hn]; exact hnl) hpl hE
  refine EV.callG (a := (Value.ref (mx_ad G k) :: avs.map (mx_cv G)).toArray) (fun p e R s m args below meth c H locs cells slots ls cx hH hS hsz hf => ?_) hE.1 hle kk
  have hpre := mx_pre (avs := .ref k :: avs) cx hH hS
  obtain ⟨hx, hb, -, hml, hown, hts, hnw, hK, -, -, -, hfr, hlo⟩ := cx
  have hrecv := va_recv hK hH.2 hq (mx_ws_at hk)
  rw [hqc] at hrecv
  have hstack : (F0 m pc ls ((avs.reverse ++ .ref k :: rest).map (mx_cv G))).stack = (avs.map (mx_cv G)).reverse ++ .ref (mx_ad G k) :: rest.map (mx_cv G) := by
    show (avs.reverse ++ .ref k :: rest).map (mx_cv G) = _
    rw [List.map_append, List.map_reverse]
    rfl
  have hR : (mx_rm d S S1).frames + 1 ≤ R.frames ∧ 8 + (M2.2.2.1 + 11) + (mx_rm d S S1).locals ≤ R.locals := ⟨hfr, mx_room (K := 0) hlo hKL⟩
  rcases hml2 with hlink | ⟨host, hlink⟩
  · exact va_runV (C := M2.1.cls) (b := mx_ad G k) (As := avs.map (mx_cv G)) (n := n) ⟨hx, hb, hml, hown, hts⟩ hM ⟨callB_of n hts (mx_goodM hcode) rfl rfl rfl (hts _ hini) (hts _ hlink) hdd hR, hts _ hiv.1, hts _ hiv.2⟩ ⟨mx_blind, hrecv, hpre⟩ rfl (by rw [List.length_map]; exact hn) hsz hstack (lv_room (mx_W8 hr8 (mx_all1 hrs))) hd hf
  · exact va_runVN (C := M2.1.cls) (b := mx_ad G k) (As := avs.map (mx_cv G)) (n := n) ⟨hx, hb, hml, hown, hts⟩ hM ⟨va_cnB n hts (mx_goodM hcode) rfl rfl rfl (hnw.1 _ hlink) (hts _ hini) hdd hR, hts _ hiv.1, hts _ hiv.2⟩ ⟨mx_blind, hrecv, hpre⟩ rfl (by rw [List.length_map]; exact hn) hsz hstack (lv_room (mx_W8 hr8 (mx_all1 hrs))) hd hf
theorem EV.invS {idx n : Nat} (hm : mx_Sc M.1.cls idx M2 n) (hd : decode M.2.1 pc = .ok (.invokestatic idx, 3)) (hn : avs.length = n) (hav : avs.all (fun v => v.category == 1) = true) (hrs : rest.all (fun v => v.category == 1) = true) (hr8 : rest.length ≤ 8) (hE : EV G d M2 0 (mx_lc0 M2 avs) [] S D S1 P1) (hle : S1.length ≤ S'.length ∧ mx_sl S1 ≤ mx_sl S') (kk : ∀ (rv : Option Value) (D1 : mx_Mem), P1 rv D1 → EV G (d + 1) M (pc + 3) lc (rv.toList ++ rest) S1 D1 S' Post) : EV G (d + 1) M pc lc (avs.reverse ++ rest) S D S' Post := by
  obtain ⟨hml2, ⟨hcode, hini, hpl, hdd, hKL⟩, hst, hnl⟩ := hm
  have hM := mx_met (avs := avs) (mx_all1 hav) (by rw [hn]; exact hnl) hpl hE
  refine EV.callG (a := (avs.map (mx_cv G)).toArray) (fun p e R s m args below meth c H locs cells slots ls cx hH hS hsz hf => ?_) hE.1 hle kk
  have hpre := mx_pre (avs := avs) cx hH hS
  obtain ⟨hx, hb, -, hml, hown, hts, hnw, hK, -, -, -, hfr, hlo⟩ := cx
  have hstack : (F0 m pc ls ((avs.reverse ++ rest).map (mx_cv G))).stack = (avs.map (mx_cv G)).reverse ++ rest.map (mx_cv G) := by
    show (avs.reverse ++ rest).map (mx_cv G) = _
    rw [List.map_append, List.map_reverse]
  have hR : (mx_rm d S S1).frames + 1 ≤ R.frames ∧ 8 + (M2.2.2.1 + 11) + (mx_rm d S S1).locals ≤ R.locals := ⟨hfr, mx_room (K := 0) hlo hKL⟩
  rcases hml2 with hlink | ⟨host, hlink⟩
  · exact va_runS (As := avs.map (mx_cv G)) (n := n) ⟨hx, hb, hml, hown, hts⟩ hM ⟨callB_of n hts (mx_goodM hcode) rfl rfl rfl (hts _ hini) (hts _ hlink) hdd hR, hts _ hst⟩ ⟨mx_blind, hpre⟩ rfl (by rw [List.length_map]; exact hn) hsz hstack (lv_room (mx_W8 hr8 (mx_all1 hrs))) hd hf
  · exact va_runSN (As := avs.map (mx_cv G)) (n := n) ⟨hx, hb, hml, hown, hts⟩ hM ⟨va_cnB n hts (mx_goodM hcode) rfl rfl rfl (hnw.1 _ hlink) (hts _ hini) hdd hR, hts _ hst, trivial⟩ ⟨mx_blind, hpre⟩ rfl (by rw [List.length_map]; exact hn) hsz hstack (lv_room (mx_W8 hr8 (mx_all1 hrs))) hd hf
theorem EV.invI {idx n k : Nat} (hm : mx_Ic M.1.cls idx M2 n) (hd : decode M.2.1 pc = .ok (.invokespecial idx, 3)) (hn : avs.length = n) (hav : avs.all (fun v => v.category == 1) = true) (hrs : rest.all (fun v => v.category == 1) = true) (hr8 : rest.length ≤ 8) (hE : EV G d M2 0 (mx_lc0 M2 (.ref k :: avs)) [] S D S1 P1) (hle : S1.length ≤ S'.length ∧ mx_sl S1 ≤ mx_sl S') (kk : ∀ (rv : Option Value) (D1 : mx_Mem), P1 rv D1 → EV G (d + 1) M (pc + 3) lc (rv.toList ++ rest) S1 D1 S' Post) : EV G (d + 1) M pc lc (avs.reverse ++ .ref k :: rest) S D S' Post := by
  obtain ⟨hml2, ⟨hcode, hini, hpl, hdd, hKL⟩, hiv, hinit, hret, hnl⟩ := hm
  have hM := mx_met (avs := .ref k :: avs) (fun v hv => by
    rcases List.mem_cons.mp hv with rfl | hv
    · rfl
    · exact mx_all1 hav v hv) (by rw [List.length_cons, hn]; exact hnl) hpl hE
  refine EV.callG (a := (Value.ref (mx_ad G k) :: avs.map (mx_cv G)).toArray) (fun p e R s m args below meth c H locs cells slots ls cx hH hS hsz hf => ?_) hE.1 hle kk
  have hpre := mx_pre (avs := .ref k :: avs) cx hH hS
  obtain ⟨hx, hb, -, hml, hown, hts, hnw, hK, -, -, -, hfr, hlo⟩ := cx
  have hstack : (F0 m pc ls ((avs.reverse ++ .ref k :: rest).map (mx_cv G))).stack = (avs.map (mx_cv G)).reverse ++ .ref (mx_ad G k) :: rest.map (mx_cv G) := by
    show (avs.reverse ++ .ref k :: rest).map (mx_cv G) = _
    rw [List.map_append, List.map_reverse]
    rfl
  have hR : (mx_rm d S S1).frames + 1 ≤ R.frames ∧ 8 + (M2.2.2.1 + 11) + (mx_rm d S S1).locals ≤ R.locals := ⟨hfr, mx_room (K := 0) hlo hKL⟩
  have hw : mx_wM M2 = Cond.code M2.1 M2.2.1 M2.2.2.1 none :: mx_gw := by unfold mx_wM; rw [hret]
  rcases hml2 with hlink | ⟨host, hlink⟩
  · exact va_runI (b := mx_ad G k) (As := avs.map (mx_cv G)) (n := n) (maxL := M2.2.2.1) (bytes := M2.2.1) ⟨hx, hb, hml, hown, hts⟩ hM ⟨callB_of n hts (mx_goodM hcode) hw rfl rfl (hts _ hini) (hts _ hlink) hdd hR, hinit, hts _ hiv⟩ ⟨mx_blind, hpre⟩ rfl (by rw [List.length_map]; exact hn) hsz hstack (lv_room (mx_W8 hr8 (mx_all1 hrs))) hd hf
  · exact va_runIN (b := mx_ad G k) (As := avs.map (mx_cv G)) (n := n) (maxL := M2.2.2.1) (bytes := M2.2.1) ⟨hx, hb, hml, hown, hts⟩ hM ⟨va_cnB n hts (mx_goodM hcode) hw rfl rfl (hnw.1 _ hlink) (hts _ hini) hdd hR, hinit, hts _ hiv⟩ ⟨mx_blind, hpre⟩ rfl (by rw [List.length_map]; exact hn) hsz hstack (lv_room (mx_W8 hr8 (mx_all1 hrs))) hd hf
theorem EV.V0 {idx k ci : Nat} {fs : List (Option (Option Nat))} (hm : mx_V M.1.cls idx M2 0 ci) (hd : decode M.2.1 pc = .ok (.invokevirtual idx, 3)) (hk : S[k]? = some (.inl (ci, fs))) (hE : EV G d M2 0 (mx_lc0 M2 (.ref k :: [])) [] S D S1 P1) (hle : S1.length ≤ S'.length ∧ mx_sl S1 ≤ mx_sl S') (hav : ([] : List Value).all (fun v => v.category == 1) = true) (hrs : rest.all (fun v => v.category == 1) = true) (hr8 : rest.length ≤ 8) (kk : ∀ (rv : Option Value) (D1 : mx_Mem), P1 rv D1 → EV G (d + 1) M (pc + 3) lc (rv.toList ++ rest) S1 D1 S' Post) : EV G (d + 1) M pc lc (.ref k :: rest) S D S' Post := EV.invV (avs := []) hm hd rfl hk hav hrs hr8 hE hle kk
theorem EV.T0 {idx : Nat} (hm : mx_Sc M.1.cls idx M2 0) (hd : decode M.2.1 pc = .ok (.invokestatic idx, 3)) (hE : EV G d M2 0 (mx_lc0 M2 []) [] S D S1 P1) (hle : S1.length ≤ S'.length ∧ mx_sl S1 ≤ mx_sl S') (hav : ([] : List Value).all (fun v => v.category == 1) = true) (hrs : rest.all (fun v => v.category == 1) = true) (hr8 : rest.length ≤ 8) (kk : ∀ (rv : Option Value) (D1 : mx_Mem), P1 rv D1 → EV G (d + 1) M (pc + 3) lc (rv.toList ++ rest) S1 D1 S' Post) : EV G (d + 1) M pc lc (rest) S D S' Post := EV.invS (avs := []) hm hd rfl hav hrs hr8 hE hle kk
theorem EV.I0 {idx k : Nat} (hm : mx_Ic M.1.cls idx M2 0) (hd : decode M.2.1 pc = .ok (.invokespecial idx, 3)) (hE : EV G d M2 0 (mx_lc0 M2 (.ref k :: [])) [] S D S1 P1) (hle : S1.length ≤ S'.length ∧ mx_sl S1 ≤ mx_sl S') (hav : ([] : List Value).all (fun v => v.category == 1) = true) (hrs : rest.all (fun v => v.category == 1) = true) (hr8 : rest.length ≤ 8) (kk : ∀ (rv : Option Value) (D1 : mx_Mem), P1 rv D1 → EV G (d + 1) M (pc + 3) lc (rv.toList ++ rest) S1 D1 S' Post) : EV G (d + 1) M pc lc (.ref k :: rest) S D S' Post := EV.invI (avs := []) hm hd rfl hav hrs hr8 hE hle kk
theorem EV.V1 {idx k ci : Nat} {a1 : Value} {fs : List (Option (Option Nat))} (hm : mx_V M.1.cls idx M2 1 ci) (hd : decode M.2.1 pc = .ok (.invokevirtual idx, 3)) (hk : S[k]? = some (.inl (ci, fs))) (hE : EV G d M2 0 (mx_lc0 M2 (.ref k :: [a1])) [] S D S1 P1) (hle : S1.length ≤ S'.length ∧ mx_sl S1 ≤ mx_sl S') (hav : ([a1] : List Value).all (fun v => v.category == 1) = true) (hrs : rest.all (fun v => v.category == 1) = true) (hr8 : rest.length ≤ 8) (kk : ∀ (rv : Option Value) (D1 : mx_Mem), P1 rv D1 → EV G (d + 1) M (pc + 3) lc (rv.toList ++ rest) S1 D1 S' Post) : EV G (d + 1) M pc lc (a1 :: .ref k :: rest) S D S' Post := EV.invV (avs := [a1]) hm hd rfl hk hav hrs hr8 hE hle kk
theorem EV.T1 {idx : Nat} {a1 : Value} (hm : mx_Sc M.1.cls idx M2 1) (hd : decode M.2.1 pc = .ok (.invokestatic idx, 3)) (hE : EV G d M2 0 (mx_lc0 M2 [a1]) [] S D S1 P1) (hle : S1.length ≤ S'.length ∧ mx_sl S1 ≤ mx_sl S') (hav : ([a1] : List Value).all (fun v => v.category == 1) = true) (hrs : rest.all (fun v => v.category == 1) = true) (hr8 : rest.length ≤ 8) (kk : ∀ (rv : Option Value) (D1 : mx_Mem), P1 rv D1 → EV G (d + 1) M (pc + 3) lc (rv.toList ++ rest) S1 D1 S' Post) : EV G (d + 1) M pc lc (a1 :: rest) S D S' Post := EV.invS (avs := [a1]) hm hd rfl hav hrs hr8 hE hle kk
theorem EV.I1 {idx k : Nat} {a1 : Value} (hm : mx_Ic M.1.cls idx M2 1) (hd : decode M.2.1 pc = .ok (.invokespecial idx, 3)) (hE : EV G d M2 0 (mx_lc0 M2 (.ref k :: [a1])) [] S D S1 P1) (hle : S1.length ≤ S'.length ∧ mx_sl S1 ≤ mx_sl S') (hav : ([a1] : List Value).all (fun v => v.category == 1) = true) (hrs : rest.all (fun v => v.category == 1) = true) (hr8 : rest.length ≤ 8) (kk : ∀ (rv : Option Value) (D1 : mx_Mem), P1 rv D1 → EV G (d + 1) M (pc + 3) lc (rv.toList ++ rest) S1 D1 S' Post) : EV G (d + 1) M pc lc (a1 :: .ref k :: rest) S D S' Post := EV.invI (avs := [a1]) hm hd rfl hav hrs hr8 hE hle kk
theorem EV.V2 {idx k ci : Nat} {a1 a2 : Value} {fs : List (Option (Option Nat))} (hm : mx_V M.1.cls idx M2 2 ci) (hd : decode M.2.1 pc = .ok (.invokevirtual idx, 3)) (hk : S[k]? = some (.inl (ci, fs))) (hE : EV G d M2 0 (mx_lc0 M2 (.ref k :: [a1, a2])) [] S D S1 P1) (hle : S1.length ≤ S'.length ∧ mx_sl S1 ≤ mx_sl S') (hav : ([a1, a2] : List Value).all (fun v => v.category == 1) = true) (hrs : rest.all (fun v => v.category == 1) = true) (hr8 : rest.length ≤ 8) (kk : ∀ (rv : Option Value) (D1 : mx_Mem), P1 rv D1 → EV G (d + 1) M (pc + 3) lc (rv.toList ++ rest) S1 D1 S' Post) : EV G (d + 1) M pc lc (a2 :: a1 :: .ref k :: rest) S D S' Post := EV.invV (avs := [a1, a2]) hm hd rfl hk hav hrs hr8 hE hle kk
theorem EV.T2 {idx : Nat} {a1 a2 : Value} (hm : mx_Sc M.1.cls idx M2 2) (hd : decode M.2.1 pc = .ok (.invokestatic idx, 3)) (hE : EV G d M2 0 (mx_lc0 M2 [a1, a2]) [] S D S1 P1) (hle : S1.length ≤ S'.length ∧ mx_sl S1 ≤ mx_sl S') (hav : ([a1, a2] : List Value).all (fun v => v.category == 1) = true) (hrs : rest.all (fun v => v.category == 1) = true) (hr8 : rest.length ≤ 8) (kk : ∀ (rv : Option Value) (D1 : mx_Mem), P1 rv D1 → EV G (d + 1) M (pc + 3) lc (rv.toList ++ rest) S1 D1 S' Post) : EV G (d + 1) M pc lc (a2 :: a1 :: rest) S D S' Post := EV.invS (avs := [a1, a2]) hm hd rfl hav hrs hr8 hE hle kk
theorem EV.V3 {idx k ci : Nat} {a1 a2 a3 : Value} {fs : List (Option (Option Nat))} (hm : mx_V M.1.cls idx M2 3 ci) (hd : decode M.2.1 pc = .ok (.invokevirtual idx, 3)) (hk : S[k]? = some (.inl (ci, fs))) (hE : EV G d M2 0 (mx_lc0 M2 (.ref k :: [a1, a2, a3])) [] S D S1 P1) (hle : S1.length ≤ S'.length ∧ mx_sl S1 ≤ mx_sl S') (hav : ([a1, a2, a3] : List Value).all (fun v => v.category == 1) = true) (hrs : rest.all (fun v => v.category == 1) = true) (hr8 : rest.length ≤ 8) (kk : ∀ (rv : Option Value) (D1 : mx_Mem), P1 rv D1 → EV G (d + 1) M (pc + 3) lc (rv.toList ++ rest) S1 D1 S' Post) : EV G (d + 1) M pc lc (a3 :: a2 :: a1 :: .ref k :: rest) S D S' Post := EV.invV (avs := [a1, a2, a3]) hm hd rfl hk hav hrs hr8 hE hle kk
theorem EV.T3 {idx : Nat} {a1 a2 a3 : Value} (hm : mx_Sc M.1.cls idx M2 3) (hd : decode M.2.1 pc = .ok (.invokestatic idx, 3)) (hE : EV G d M2 0 (mx_lc0 M2 [a1, a2, a3]) [] S D S1 P1) (hle : S1.length ≤ S'.length ∧ mx_sl S1 ≤ mx_sl S') (hav : ([a1, a2, a3] : List Value).all (fun v => v.category == 1) = true) (hrs : rest.all (fun v => v.category == 1) = true) (hr8 : rest.length ≤ 8) (kk : ∀ (rv : Option Value) (D1 : mx_Mem), P1 rv D1 → EV G (d + 1) M (pc + 3) lc (rv.toList ++ rest) S1 D1 S' Post) : EV G (d + 1) M pc lc (a3 :: a2 :: a1 :: rest) S D S' Post := EV.invS (avs := [a1, a2, a3]) hm hd rfl hav hrs hr8 hE hle kk
theorem EV.V4 {idx k ci : Nat} {a1 a2 a3 a4 : Value} {fs : List (Option (Option Nat))} (hm : mx_V M.1.cls idx M2 4 ci) (hd : decode M.2.1 pc = .ok (.invokevirtual idx, 3)) (hk : S[k]? = some (.inl (ci, fs))) (hE : EV G d M2 0 (mx_lc0 M2 (.ref k :: [a1, a2, a3, a4])) [] S D S1 P1) (hle : S1.length ≤ S'.length ∧ mx_sl S1 ≤ mx_sl S') (hav : ([a1, a2, a3, a4] : List Value).all (fun v => v.category == 1) = true) (hrs : rest.all (fun v => v.category == 1) = true) (hr8 : rest.length ≤ 8) (kk : ∀ (rv : Option Value) (D1 : mx_Mem), P1 rv D1 → EV G (d + 1) M (pc + 3) lc (rv.toList ++ rest) S1 D1 S' Post) : EV G (d + 1) M pc lc (a4 :: a3 :: a2 :: a1 :: .ref k :: rest) S D S' Post := EV.invV (avs := [a1, a2, a3, a4]) hm hd rfl hk hav hrs hr8 hE hle kk
theorem EV.T4 {idx : Nat} {a1 a2 a3 a4 : Value} (hm : mx_Sc M.1.cls idx M2 4) (hd : decode M.2.1 pc = .ok (.invokestatic idx, 3)) (hE : EV G d M2 0 (mx_lc0 M2 [a1, a2, a3, a4]) [] S D S1 P1) (hle : S1.length ≤ S'.length ∧ mx_sl S1 ≤ mx_sl S') (hav : ([a1, a2, a3, a4] : List Value).all (fun v => v.category == 1) = true) (hrs : rest.all (fun v => v.category == 1) = true) (hr8 : rest.length ≤ 8) (kk : ∀ (rv : Option Value) (D1 : mx_Mem), P1 rv D1 → EV G (d + 1) M (pc + 3) lc (rv.toList ++ rest) S1 D1 S' Post) : EV G (d + 1) M pc lc (a4 :: a3 :: a2 :: a1 :: rest) S D S' Post := EV.invS (avs := [a1, a2, a3, a4]) hm hd rfl hav hrs hr8 hE hle kk
end MXC
theorem mx_lt {D : va_G} {cl : List vw_C} {q : Nat × va_E} {H : Heap} (h : va_at D cl q H) : q.1 < H.size := h.lt
theorem mx_fresh {G : mx_G} {S : List mx_Sh} {D : mx_Mem} {H1 : Heap} {q : Nat} {x : va_E} (hP : va_P (mx_dd G) vwCl (mx_ws G S D ++ [(q, x)]) H1) (hD : va_D (mx_A G) (mx_ws G S D ++ [(q, x)])) (hz : H1.size ≤ mx_base G + S.length + 1) : q = mx_ad G S.length := by
  have hl : (mx_ws G S D).length = S.length := by simp [mx_ws]
  have hq : (mx_ws G S D ++ [(q, x)])[S.length]? = some (q, x) := by rw [List.getElem?_append_right (by omega), hl]; simp
  have h1 : q < H1.size := (hP _ _ hq).lt
  have h2 : mx_base G ≤ q := hD.2 _ _ hq
  unfold mx_ad
  rcases Nat.lt_or_ge q (mx_base G + S.length) with h | h
  · exfalso
    have hk : q - mx_base G < S.length := by omega
    have hs : S[q - mx_base G]? = some S[q - mx_base G] := List.getElem?_eq_getElem hk
    have h3 : (mx_ws G S D ++ [(q, x)])[q - mx_base G]? = some (mx_ad G (q - mx_base G), mx_E G (D (q - mx_base G)) S[q - mx_base G]) := by
      rw [List.getElem?_append_left (by omega)]
      exact mx_ws_at hs
    have := hD.1 _ _ _ _ h3 hq (by show mx_base G + (q - mx_base G) = q; omega)
    omega
  · omega
theorem mx_sl_app {S : List mx_Sh} {sh : mx_Sh} : mx_sl (S ++ [sh]) = mx_sl S + mx_n sh := by simp [mx_sl]
theorem mx_dv {ty : FieldType} {r : Nat} (h : defaultValue ty = mx_rd 0 (some (some r))) : False := by cases ty <;> simp [defaultValue, mx_rd, va_rf] at h
section MXN
variable {G : mx_G} {d : Nat} {M : mx_M} {pc : Nat} {lc : List (Option Value)} {st : List Value} {S S' : List mx_Sh} {D : mx_Mem} {Post : Option Value → mx_Mem → Prop}
theorem mx_RA {U : State} {a b : ClassId} {ty : FieldType} (h1 : va_RA U a ty) (h2 : va_RA U b ty) : a = b := by
  cases ty with
  | object C =>
    obtain ⟨_, _, -, -, -, e1⟩ := h1
    obtain ⟨_, _, -, -, -, e2⟩ := h2
    exact Option.some.inj (e1.symm.trans e2)
  | _ => exact Option.some.inj (Eq.trans (Eq.symm h1) h2)
theorem mx_last {D : va_G} {tys : List (ClassId × FieldType)} {U : State} {cA : ClassId} {ty : FieldType} (h : va_K D vwCl (tys ++ [(cA, ty)]) U) : va_RA U cA ty := (h.2 tys.length (cA, ty) (by simp)).2
/-- a cell of n places is put behind the others -/
theorem mx_put1 {p : Program} {e : Env} {R : Room} {s : State} {m : MethodId} {args : Array Value} {below : List Frame} {meth : Method} {c : Code} {H H1 : Heap} {locs : List Loc} {cells slots n pc2 qa : Nat} {Q : State → Prop} {ls : Array Slot} {sh : mx_Sh} {x : va_E} (hn : mx_n sh = n)
    (kk : EV G d M pc2 lc (.ref S.length :: st) (S ++ [sh]) (mx_z D S.length) S' Post)
    (cx : mx_Cx G d M p R s m args meth c) (hH : mx_H G S D H) (hS : va_S (mx_A G) s.heap H locs) (hlv : lv_has ls M.2.2.1 (mx_lv G lc)) (h0 : s.heap.size + cells = mx_base G + S.length) (h1 : cells + S'.length ≤ R.cells + S.length) (h2 : slots + mx_sl S' ≤ R.slots + mx_sl S)
    (hr : ∀ (rv : Option Value) (D' : mx_Mem) (H' : Heap) (locs' : List Loc) (pc' : Nat) (ls' : Array Slot), Post rv D' → mx_H G S' D' H' → va_S (mx_A G) s.heap H' locs' → mx_ret M pc' rv → W p G.1 e R s m args below meth c H' locs' (cells + (S'.length - S.length)) (slots + (mx_sl S' - mx_sl S)) Q (F0 m pc' ls' (rv.map (mx_cv G)).toList))
    (hx : x = mx_E G (fun _ => 0) sh) (hP1 : va_P (mx_dd G) vwCl (mx_ws G S D ++ [(qa, x)]) H1) (hD1 : va_D (mx_A G) (mx_ws G S D ++ [(qa, x)])) (hS1 : va_S (mx_A G) H H1 locs) :
    W p G.1 e R s m args below meth c H1 locs (cells + 1) (slots + n) Q (F0 m pc2 ls (.ref qa :: st.map (mx_cv G))) := by
  subst hx
  refine mx_Wsz fun hz => ?_
  have k1 := kk.1
  rw [mx_sl_app, List.length_append] at k1
  have hl1 : [sh].length = 1 := rfl
  have e : qa = mx_ad G S.length := mx_fresh hP1 hD1 (by omega)
  subst e
  have hq2 : (mx_ws G S D ++ [(mx_ad G S.length, mx_E G (fun _ => 0) sh)])[S.length]? = some (mx_ad G S.length, mx_E G (fun _ => 0) sh) := by rw [List.getElem?_append_right (by simp [mx_ws])]; simp [mx_ws]
  have h4 : mx_ad G S.length < H1.size := (hP1 _ _ hq2).lt
  unfold mx_ad at h4
  rw [mx_push] at hP1
  exact kk.2 p e R s m args below meth c H1 locs (cells + 1) (slots + n) Q ls cx ⟨by rw [List.length_append]; omega, hP1⟩ (mx_ST hS hS1) hlv (by rw [List.length_append]; omega) (by rw [List.length_append]; omega) (by rw [mx_sl_app]; omega) (fun rv' D' H' locs' pc' ls' q1 q2 q3 q4 => by
    have := hr rv' D' H' locs' pc' ls' q1 q2 q3 q4
    rw [mx_sl_app, List.length_append, hn, hl1]
    rw [show cells + 1 + (S'.length - (S.length + 1)) = cells + (S'.length - S.length) by omega, show slots + n + (mx_sl S' - (mx_sl S + n)) = slots + (mx_sl S' - mx_sl S) by omega]
    exact this)
theorem EV.new {idx ci : Nat} {q : vw_C} {fs : List (Option (Option Nat))} (hq : vwCl[ci]? = some q) (hl : Cond.classLink M.1.cls idx q.1 ∈ mx_gw ∧ Cond.instantiable q.1 q.2.2 ∈ mx_gw ∧ Cond.initialized q.1 ∈ mx_gw) (hfs : fs.length = q.2.2 ∧ ∀ j, j < q.2.2 → defaultValue ((parseFieldDescriptor (q.2.1 j).2.2.1).getD .int) = mx_rd 0 (fs.getD j none)) (hd : decode M.2.1 pc = .ok (.new idx, 3)) (kk : EV G d M (pc + 3) lc (.ref S.length :: st) (S ++ [.inl (ci, fs)]) (mx_z D S.length) S' Post) : EV G d M pc lc st S D S' Post := by
  have k1 := kk.1
  rw [mx_sl_app, List.length_append] at k1
  have hn : mx_n (.inl (ci, fs)) = q.2.2 := hfs.1
  have hl1 : [(Sum.inl (ci, fs) : mx_Sh)].length = 1 := rfl
  refine ⟨⟨by omega, by omega⟩, fun p e R s m args below meth c H locs cells slots Q ls cx hH hS hlv h0 h1 h2 hr => ?_⟩
  have K := fun H1 qa x hx hP1 hD1 hS1 => mx_put1 (p := p) (e := e) (R := R) (s := s) (m := m) (args := args) (below := below) (meth := meth) (c := c) (H := H) (H1 := H1) (locs := locs) (cells := cells) (slots := slots) (Q := Q) (qa := qa) (x := x) hn kk cx hH hS hlv h0 h1 h2 hr hx hP1 hD1 hS1
  obtain ⟨hx, hb, -, -, hown, hts, hnw, hK, -, -, ⟨-, -, hbs⟩, -⟩ := cx
  obtain ⟨hin, hty0, hnm⟩ := mx_cls hq
  refine va_new (C := q.1) (T := q.2.1) (N := q.2.2) (fs := (List.range fs.length).map fun j => mx_fv G 0 (fs.getD j none)) hx hb hts hin _ hty0 hown (hts _ hl.1) (hts _ hl.2.1) (hts _ hl.2.2) hK hH.2 mx_DD (mx_S0 hS) (fun x h => by show mx_base G ≤ x; have := hH.1; omega) hq ?_ (by omega) (by omega) hd (fun qa H1 hP1 hD1 hS1 => K H1 qa _ rfl hP1 hD1 hS1)
  intro j hj
  have h3 := hfs.2 j hj
  rw [h3]
  show _ = ((List.range fs.length).map fun j => mx_fv G 0 (fs.getD j none)).getD j .null
  have hjl : j < fs.length := by rw [hfs.1]; exact hj
  have e2 : ((List.range fs.length).map fun j => mx_fv G 0 (fs.getD j none)).getD j .null = mx_fv G 0 (fs.getD j none) := by simp [hjl]
  rw [e2]
  have e3 : fs.getD j none = none ∨ fs.getD j none = some none := by
    rcases hv : fs.getD j none with _ | _ | r
    · exact Or.inl rfl
    · exact Or.inr rfl
    · exfalso
      rw [hv] at h3
      exact mx_dv h3
  rcases e3 with e3 | e3 <;> rw [e3] <;> rfl
theorem EV.newa {t N : Nat} {atype : ArrayType} {ty : FieldType} {n : Int32} (hty : newarray.typeOf atype = ty) (ht : mx_ty[t]? = some ty) (hac : Cond.arrayClass ty ∈ mx_gw) (hdv : defaultValue ty = .int 0) (hn : ¬ n < 0) (hN : n.toNatClampNeg = N) (hb : N * componentBytes ty ≤ 536870912) (hd : decode M.2.1 pc = .ok (.newarray atype, 2)) (kk : EV G d M (pc + 2) lc (.ref S.length :: st) (S ++ [.inr (.inl (t, N))]) (mx_z D S.length) S' Post) : EV G d M pc lc (.int n :: st) S D S' Post := by
  have k1 := kk.1
  rw [mx_sl_app, List.length_append] at k1
  have hn1 : mx_n (.inr (.inl (t, N))) = N := rfl
  have hl1 : [(Sum.inr (Sum.inl (t, N)) : mx_Sh)].length = 1 := rfl
  refine ⟨⟨by omega, by omega⟩, fun p e R s m args below meth c H locs cells slots Q ls cx hH hS hlv h0 h1 h2 hr => ?_⟩
  have K := fun H1 qa x hx hP1 hD1 hS1 => mx_put1 (p := p) (e := e) (R := R) (s := s) (m := m) (args := args) (below := below) (meth := meth) (c := c) (H := H) (H1 := H1) (locs := locs) (cells := cells) (slots := slots) (Q := Q) (qa := qa) (x := x) hn1 kk cx hH hS hlv h0 h1 h2 hr hx hP1 hD1 hS1
  obtain ⟨hx, hcb, -, -, hown, hts, hnw, hK, -, -, ⟨-, -, hbs⟩, -⟩ := cx
  subst hty
  refine va_newa hx hcb (hts _ hac) rfl hK hH.2 mx_DD (mx_S0 hS) (fun x h => by show mx_base G ≤ x; have := hH.1; omega) (a0 := (N, .inl fun _ => 0)) (fun cA => by rw [vp_cell_i, hdv]) hn hN hb (by omega) (by omega) hd (fun qa cA H1 hK1 hP1 hD1 hS1 => ?_)
  have e1 : cA = mx_cA G t := mx_RA (mx_last hK1) (hK.2 t _ (mx_tys_at ht)).2
  subst e1
  exact K H1 qa _ rfl hP1 hD1 hS1
theorem EV.anew {idx t N : Nat} {C : String} {n : Int32} (ht : mx_ty[t]? = some (.object C)) (hl : Cond.classLink M.1.cls idx C ∈ mx_gw) (hao : C ∈ mx_ao) (hn : ¬ n < 0) (hN : n.toNatClampNeg = N) (hb : N * 4 ≤ 536870912) (hd : decode M.2.1 pc = .ok (.anewarray idx, 3)) (kk : EV G d M (pc + 3) lc (.ref S.length :: st) (S ++ [.inr (.inr (t, List.replicate N none))]) (mx_z D S.length) S' Post) : EV G d M pc lc (.int n :: st) S D S' Post := by
  have k1 := kk.1
  rw [mx_sl_app, List.length_append] at k1
  have hn1 : mx_n (.inr (.inr (t, List.replicate N none))) = N := by simp [mx_n]
  have hl1 : [(Sum.inr (Sum.inr (t, List.replicate N none)) : mx_Sh)].length = 1 := rfl
  refine ⟨⟨by omega, by omega⟩, fun p e R s m args below meth c H locs cells slots Q ls cx hH hS hlv h0 h1 h2 hr => ?_⟩
  have K := fun H1 qa x hx hP1 hD1 hS1 => mx_put1 (p := p) (e := e) (R := R) (s := s) (m := m) (args := args) (below := below) (meth := meth) (c := c) (H := H) (H1 := H1) (locs := locs) (cells := cells) (slots := slots) (Q := Q) (qa := qa) (x := x) hn1 kk cx hH hS hlv h0 h1 h2 hr hx hP1 hD1 hS1
  obtain ⟨hx, hcb, -, -, hown, hts, hnw, hK, -, -, ⟨-, -, hbs⟩, -⟩ := cx
  refine va_newq hx hcb hown (hts _ hl) (hnw.2 _ hao) hK hH.2 mx_DD (mx_S0 hS) (fun x h => by show mx_base G ≤ x; have := hH.1; omega) hn hN hb (by omega) (by omega) hd (fun qa cA H1 hK1 hP1 hD1 hS1 => ?_)
  have e1 : cA = mx_cA G t := mx_RA (mx_last hK1) (hK.2 t _ (mx_tys_at ht)).2
  subst e1
  refine K H1 qa _ ?_ hP1 hD1 hS1
  have ef : (fun j : Nat => ((List.replicate N (none : Option Nat)).getD j none).map (mx_ad G)) = fun _ => none := by
    funext j
    by_cases hj : j < N <;> simp [hj]
  show _ = (Sum.inl (mx_cA G t, (List.replicate N none).length, Sum.inr (Sum.inr (Sum.inr (Sum.inr fun j : Nat => ((List.replicate N (none : Option Nat)).getD j none).map (mx_ad G))))) : va_E)
  rw [List.length_replicate, ef]
theorem EV.aast {k t v ci : Nat} {i : Int32} {q : vw_C} {rs : List (Option Nat)} {fs : List (Option (Option Nat))} (hd : decode M.2.1 pc = .ok (.aastore, 1)) (hk : S[k]? = some (.inr (.inr (t, rs)))) (hq : vwCl[ci]? = some q) (ht : mx_ty[t]? = some (.object q.1)) (hv : S[v]? = some (.inl (ci, fs))) (hi : vp_in i rs.length) (kk : EV G d M (pc + 1) lc st (S.set k (.inr (.inr (t, rs.set i.toNatClampNeg (some v))))) D S' Post) : EV G d M pc lc (.ref v :: .int i :: .ref k :: st) S D S' Post := by
  have hsl : mx_sl (S.set k (.inr (.inr (t, rs.set i.toNatClampNeg (some v))))) = mx_sl S := mx_sl_set hk (by simp [mx_n])
  refine ⟨by have := kk.1; rw [hsl, List.length_set] at this; exact this, fun p e R s m args below meth c H locs cells slots Q ls cx hH hS hlv h0 h1 h2 hr => ?_⟩
  have K := fun H1 locs1 hH1 hS1 => kk.2 p e R s m args below meth c H1 locs1 cells slots Q ls cx hH1 hS1 hlv (by rw [List.length_set]; exact h0) (by rw [List.length_set]; exact h1) (by rw [hsl]; exact h2) (by rw [hsl, List.length_set]; exact hr)
  obtain ⟨hx, hb, -, -, hown, hts, hnw, hK, -⟩ := cx
  have hil : i.toNatClampNeg < rs.length := Nat.not_le.mp fun q => hi (Or.inr q)
  refine va_astq hx hb hK hH.2 mx_DD (mx_S0 hS) k t v ci (r := q) (mx_ws_at hk) (mx_tys_at ht) (mx_ws_at hv) hq hi hd (fun H1 locs1 hP1 _ hS1 => mx_Wsz fun hz => ?_)
  have e1 := mx_set (G := G) (D := D) (sh' := .inr (.inr (t, rs.set i.toNatClampNeg (some v)))) (f := D k) hk
  have e0 : mx_E G (D k) (.inr (.inr (t, rs.set i.toNatClampNeg (some v)))) = .inl (mx_cA G t, rs.length, .inr (.inr (.inr (.inr (va_up (fun j => (rs.getD j none).map (mx_ad G)) i.toNatClampNeg (some (mx_ad G v))))))) := by
    have ef : (fun j : Nat => ((rs.set i.toNatClampNeg (some v)).getD j none).map (mx_ad G)) = va_up (fun j => (rs.getD j none).map (mx_ad G)) i.toNatClampNeg (some (mx_ad G v)) := by
      funext j
      unfold va_up
      by_cases hj : j = i.toNatClampNeg
      · subst hj
        simp [hil]
      · simp [hj, List.getElem?_set_ne (Ne.symm hj)]
    show (Sum.inl (mx_cA G t, (rs.set i.toNatClampNeg (some v)).length, Sum.inr (Sum.inr (Sum.inr (Sum.inr fun j : Nat => ((rs.set i.toNatClampNeg (some v)).getD j none).map (mx_ad G))))) : va_E) = _
    rw [List.length_set, ef]
  have e3 : va_up D k (D k) = D := mx_up_self D k
  rw [e0, e3] at e1
  have e2 : va_P (mx_dd G) vwCl ((mx_ws G S D).set k (mx_ad G k, .inl (mx_cA G t, rs.length, .inr (.inr (.inr (.inr (va_up (fun j => (rs.getD j none).map (mx_ad G)) i.toNatClampNeg (some (mx_ad G v))))))))) H1 := hP1
  rw [e1] at e2
  exact K H1 locs1 (mx_step (s := s) hH h0 hS1 hz (by simp) e2) (mx_ST hS hS1)
theorem EV.oinit {idx k : Nat} (hl : Cond.methodLink M.1.cls idx Lib.objectInit ∈ mx_gw) (ho : Cond.instanceMethod Lib.objectInit ∈ mx_gw ∧ Cond.code Lib.objectInit ⟨#[0xb1]⟩ 1 none ∈ mx_gw) (hd : decode M.2.1 pc = .ok (.invokespecial idx, 3)) (hrs : st.all (fun v => v.category == 1) = true) (hr8 : st.length ≤ 8) (kk : EV G (d + 1) M (pc + 3) lc st S D S' Post) : EV G (d + 1) M pc lc (.ref k :: st) S D S' Post := by
  refine ⟨kk.1, fun p e R s m args below meth c H locs cells slots Q ls cx hH hS hlv h0 h1 h2 hr => ?_⟩
  have K := kk.2 p e R s m args below meth c H locs cells slots Q ls cx hH hS hlv h0 h1 h2 hr
  obtain ⟨hx, hb, -, hml, hown, hts, hnw, hK, -, -, -, hfr, hlo⟩ := cx
  have h8 := lv_room (m := m) (pc := pc) (ls := ls) (rest := .ref (mx_ad G k) :: st.map (mx_cv G)) (mx_W8 (G := G) hr8 (mx_all1 hrs))
  exact W.objInit hx hb hown (hts _ hl) (hts _ ho.1) (hts _ ho.2) (g := F0 m pc ls (.ref (mx_ad G k) :: st.map (mx_cv G))) rfl (by rw [hml]; exact hlv.1) rfl hd (by omega) (by have := mx_room (K := 0) (x := 20) hlo (by decide); omega) K
theorem EV.mmin {idx : Nat} {x y : Int32} (hl : Cond.methodLink M.1.cls idx Lib.Math.min.name ∈ mx_gw) (ho : Cond.static Lib.Math.min.name ∈ mx_gw ∧ Cond.initialized "java/lang/Math" ∈ mx_gw ∧ Cond.code Lib.Math.min.name Lib.Math.min.code 2 (some .int) ∈ mx_gw) (hd : decode M.2.1 pc = .ok (.invokestatic idx, 3)) (hrs : st.all (fun v => v.category == 1) = true) (hr8 : st.length ≤ 8) (kk : EV G (d + 1) M (pc + 3) lc (.int (if y < x then y else x) :: st) S D S' Post) : EV G (d + 1) M pc lc (.int y :: .int x :: st) S D S' Post := by
  refine ⟨kk.1, fun p e R s m args below meth c H locs cells slots Q ls cx hH hS hlv h0 h1 h2 hr => ?_⟩
  have K := kk.2 p e R s m args below meth c H locs cells slots Q ls cx hH hS hlv h0 h1 h2 hr
  have k1 := kk.1
  obtain ⟨hx, hb, -, hml, hown, hts, hnw, hK, -, -, -, hfr, hlo⟩ := cx
  have h8 := mx_W8 (G := G) hr8 (mx_all1 hrs)
  exact va_mmin hx hb (by rw [hml]; exact hlv.1.symm) hown (hts _ hl) (hts _ ho.1) (hts _ ho.2.1) (hts _ ho.2.2) (by omega) (by have := mx_room (K := 0) (x := 21) hlo (by decide); omega) (by omega) (by omega) hd K
theorem EV.acopy {idx k0 k1 t n0 n1 : Nat} {sp dp n : Int32} (hl : Cond.methodLink M.1.cls idx arraycopyName ∈ mx_gw) (ho : Cond.native arraycopyName ∈ mx_gw ∧ Cond.static arraycopyName ∈ mx_gw ∧ Cond.initialized "java/lang/System" ∈ mx_gw) (hd : decode M.2.1 pc = .ok (.invokestatic idx, 3)) (hk0 : S[k0]? = some (.inr (.inl (t, n0)))) (hk1 : S[k1]? = some (.inr (.inl (t, n1)))) (ht : mx_ty[t]? = some .int) (h1 : ¬ sp < 0) (h2 : ¬ dp < 0) (h3 : ¬ n < 0) (h4 : sp.toNatClampNeg + n.toNatClampNeg ≤ n0) (h5 : dp.toNatClampNeg + n.toNatClampNeg ≤ n1) (hrs : st.all (fun v => v.category == 1) = true) (hr8 : st.length ≤ 8) (kk : EV G (d + 1) M (pc + 3) lc st S (va_up D k1 (va_cpy (D k0) (D k1) sp.toNatClampNeg dp.toNatClampNeg n.toNatClampNeg)) S' Post) : EV G (d + 1) M pc lc (.int n :: .int dp :: .ref k1 :: .int sp :: .ref k0 :: st) S D S' Post := by
  refine ⟨kk.1, fun p e R s m args below meth c H locs cells slots Q ls cx hH hS hlv g0 g1 g2 hr => ?_⟩
  have K := fun H1 locs1 hH1 hS1 => kk.2 p e R s m args below meth c H1 locs1 cells slots Q ls cx hH1 hS1 hlv g0 g1 g2 hr
  obtain ⟨hx, hb, -, hml, hown, hts, hnw, hK, -, -, -, hfr, hlo⟩ := cx
  have h8 := mx_W8 (G := G) hr8 (mx_all1 hrs)
  refine va_copyi hx hb (by rw [hml]; exact hlv.1.symm) hown (hts _ hl) (hts _ ho.1) (hts _ ho.2.1) (hts _ ho.2.2) hK hH.2 mx_DD (mx_S0 hS) k0 k1 t t (mx_ws_at hk0) (mx_ws_at hk1) (mx_tys_at ht) (mx_tys_at ht) rfl h1 h2 h3 h4 h5 (fun _ _ => rfl) (by omega) (by have := mx_room (K := 0) (x := 8 + (nativeFrameWords "java/lang/System" "arraycopy" 5 + 11)) hlo (by decide); omega) hd (fun H1 locs1 hP1 _ hS1 => mx_Wsz fun hz => ?_)
  have e1 := mx_set (G := G) (D := D) (sh' := .inr (.inl (t, n1))) (f := va_cpy (D k0) (D k1) sp.toNatClampNeg dp.toNatClampNeg n.toNatClampNeg) hk1
  have e2 : va_P (mx_dd G) vwCl ((mx_ws G S D).set k1 (mx_ad G k1, mx_E G (va_cpy (D k0) (D k1) sp.toNatClampNeg dp.toNatClampNeg n.toNatClampNeg) (.inr (.inl (t, n1))))) H1 := hP1
  rw [e1, mx_setS hk1] at e2
  exact K H1 locs1 (mx_step (s := s) hH g0 hS1 hz rfl e2) (mx_ST hS hS1)
end MXN
end
section
theorem fl_Li_7 : mx_lk "TailoredOrder$Line" 7 3 0 (.array .char) true := ⟨_, rfl, by decide, rfl, by decide +kernel, Or.inl (mx_in 69 (by decide +kernel) (by decide +kernel))⟩
theorem ff_Li_7 : ∃ q : vw_C, vwCl[3]? = some q ∧ 0 < q.2.2 ∧ (q.2.1 0).2.2.2 = true ∧ parseFieldDescriptor (q.2.1 0).2.2.1 = some (.array .char) ∧ Cond.fieldLink "TailoredOrder$Line" 7 (q.2.1 0).1 (q.2.1 0).2.1 (q.2.1 0).2.2.1 ∈ mx_gw ∧ (q.2.1 0).1 = "TailoredOrder$Line" := ⟨_, rfl, by decide, rfl, by decide +kernel, (mx_in 69 (by decide +kernel) (by decide +kernel)), rfl⟩
theorem fl_Ru_33 : mx_lk "TailoredOrder$Rule" 33 3 0 (.array .char) true := ⟨_, rfl, by decide, rfl, by decide +kernel, Or.inl (mx_in 70 (by decide +kernel) (by decide +kernel))⟩
theorem fl_Km_58 : mx_lk "TailoredOrder$KeyMaker" 58 3 0 (.array .char) true := ⟨_, rfl, by decide, rfl, by decide +kernel, Or.inl (mx_in 71 (by decide +kernel) (by decide +kernel))⟩
theorem fl_Li_13 : mx_lk "TailoredOrder$Line" 13 3 1 .int false := ⟨_, rfl, by decide, rfl, by decide +kernel, Or.inl (mx_in 72 (by decide +kernel) (by decide +kernel))⟩
theorem fl_Ru_28 : mx_lk "TailoredOrder$Rule" 28 3 1 .int false := ⟨_, rfl, by decide, rfl, by decide +kernel, Or.inl (mx_in 73 (by decide +kernel) (by decide +kernel))⟩
theorem fl_Km_54 : mx_lk "TailoredOrder$KeyMaker" 54 3 1 .int false := ⟨_, rfl, by decide, rfl, by decide +kernel, Or.inl (mx_in 74 (by decide +kernel) (by decide +kernel))⟩
theorem fl_Ke_9 : mx_lk "TailoredOrder$Key" 9 1 0 (.array .int) true := ⟨_, rfl, by decide, rfl, by decide +kernel, Or.inl (mx_in 86 (by decide +kernel) (by decide +kernel))⟩
theorem ff_Ke_9 : ∃ q : vw_C, vwCl[1]? = some q ∧ 0 < q.2.2 ∧ (q.2.1 0).2.2.2 = true ∧ parseFieldDescriptor (q.2.1 0).2.2.1 = some (.array .int) ∧ Cond.fieldLink "TailoredOrder$Key" 9 (q.2.1 0).1 (q.2.1 0).2.1 (q.2.1 0).2.2.1 ∈ mx_gw ∧ (q.2.1 0).1 = "TailoredOrder$Key" := ⟨_, rfl, by decide, rfl, by decide +kernel, (mx_in 86 (by decide +kernel) (by decide +kernel)), rfl⟩
theorem fl_To_125 : mx_lk "TailoredOrder" 125 1 0 (.array .int) true := ⟨_, rfl, by decide, rfl, by decide +kernel, Or.inl (mx_in 87 (by decide +kernel) (by decide +kernel))⟩
theorem fl_Ke_15 : mx_lk "TailoredOrder$Key" 15 1 1 .int false := ⟨_, rfl, by decide, rfl, by decide +kernel, Or.inl (mx_in 88 (by decide +kernel) (by decide +kernel))⟩
theorem fl_Km_45 : mx_lk "TailoredOrder$KeyMaker" 45 1 1 .int false := ⟨_, rfl, by decide, rfl, by decide +kernel, Or.inl (mx_in 89 (by decide +kernel) (by decide +kernel))⟩
theorem fl_To_122 : mx_lk "TailoredOrder" 122 1 1 .int false := ⟨_, rfl, by decide, rfl, by decide +kernel, Or.inl (mx_in 90 (by decide +kernel) (by decide +kernel))⟩
theorem fl_Ta_9 : mx_lk "TailoredOrder$Table" 9 5 0 (.array .int) true := ⟨_, rfl, by decide, rfl, by decide +kernel, Or.inl (mx_in 111 (by decide +kernel) (by decide +kernel))⟩
theorem ff_Ta_9 : ∃ q : vw_C, vwCl[5]? = some q ∧ 0 < q.2.2 ∧ (q.2.1 0).2.2.2 = true ∧ parseFieldDescriptor (q.2.1 0).2.2.1 = some (.array .int) ∧ Cond.fieldLink "TailoredOrder$Table" 9 (q.2.1 0).1 (q.2.1 0).2.1 (q.2.1 0).2.2.1 ∈ mx_gw ∧ (q.2.1 0).1 = "TailoredOrder$Table" := ⟨_, rfl, by decide, rfl, by decide +kernel, (mx_in 111 (by decide +kernel) (by decide +kernel)), rfl⟩
theorem fl_To_91 : mx_lk "TailoredOrder" 91 5 0 (.array .int) true := ⟨_, rfl, by decide, rfl, by decide +kernel, Or.inl (mx_in 112 (by decide +kernel) (by decide +kernel))⟩
theorem fl_Km_94 : mx_lk "TailoredOrder$KeyMaker" 94 5 0 (.array .int) true := ⟨_, rfl, by decide, rfl, by decide +kernel, Or.inl (mx_in 113 (by decide +kernel) (by decide +kernel))⟩
theorem fl_Ta_15 : mx_lk "TailoredOrder$Table" 15 5 1 (.array .int) true := ⟨_, rfl, by decide, rfl, by decide +kernel, Or.inl (mx_in 114 (by decide +kernel) (by decide +kernel))⟩
theorem ff_Ta_15 : ∃ q : vw_C, vwCl[5]? = some q ∧ 1 < q.2.2 ∧ (q.2.1 1).2.2.2 = true ∧ parseFieldDescriptor (q.2.1 1).2.2.1 = some (.array .int) ∧ Cond.fieldLink "TailoredOrder$Table" 15 (q.2.1 1).1 (q.2.1 1).2.1 (q.2.1 1).2.2.1 ∈ mx_gw ∧ (q.2.1 1).1 = "TailoredOrder$Table" := ⟨_, rfl, by decide, rfl, by decide +kernel, (mx_in 114 (by decide +kernel) (by decide +kernel)), rfl⟩
theorem fl_To_99 : mx_lk "TailoredOrder" 99 5 1 (.array .int) true := ⟨_, rfl, by decide, rfl, by decide +kernel, Or.inl (mx_in 115 (by decide +kernel) (by decide +kernel))⟩
theorem fl_Ta_18 : mx_lk "TailoredOrder$Table" 18 5 2 (.array .int) true := ⟨_, rfl, by decide, rfl, by decide +kernel, Or.inl (mx_in 116 (by decide +kernel) (by decide +kernel))⟩
theorem ff_Ta_18 : ∃ q : vw_C, vwCl[5]? = some q ∧ 2 < q.2.2 ∧ (q.2.1 2).2.2.2 = true ∧ parseFieldDescriptor (q.2.1 2).2.2.1 = some (.array .int) ∧ Cond.fieldLink "TailoredOrder$Table" 18 (q.2.1 2).1 (q.2.1 2).2.1 (q.2.1 2).2.2.1 ∈ mx_gw ∧ (q.2.1 2).1 = "TailoredOrder$Table" := ⟨_, rfl, by decide, rfl, by decide +kernel, (mx_in 116 (by decide +kernel) (by decide +kernel)), rfl⟩
theorem fl_To_102 : mx_lk "TailoredOrder" 102 5 2 (.array .int) true := ⟨_, rfl, by decide, rfl, by decide +kernel, Or.inl (mx_in 117 (by decide +kernel) (by decide +kernel))⟩
theorem fl_Km_123 : mx_lk "TailoredOrder$KeyMaker" 123 5 2 (.array .int) true := ⟨_, rfl, by decide, rfl, by decide +kernel, Or.inl (mx_in 118 (by decide +kernel) (by decide +kernel))⟩
theorem fl_Ta_21 : mx_lk "TailoredOrder$Table" 21 5 3 (.array .int) true := ⟨_, rfl, by decide, rfl, by decide +kernel, Or.inl (mx_in 119 (by decide +kernel) (by decide +kernel))⟩
theorem ff_Ta_21 : ∃ q : vw_C, vwCl[5]? = some q ∧ 3 < q.2.2 ∧ (q.2.1 3).2.2.2 = true ∧ parseFieldDescriptor (q.2.1 3).2.2.1 = some (.array .int) ∧ Cond.fieldLink "TailoredOrder$Table" 21 (q.2.1 3).1 (q.2.1 3).2.1 (q.2.1 3).2.2.1 ∈ mx_gw ∧ (q.2.1 3).1 = "TailoredOrder$Table" := ⟨_, rfl, by decide, rfl, by decide +kernel, (mx_in 119 (by decide +kernel) (by decide +kernel)), rfl⟩
theorem fl_To_105 : mx_lk "TailoredOrder" 105 5 3 (.array .int) true := ⟨_, rfl, by decide, rfl, by decide +kernel, Or.inl (mx_in 120 (by decide +kernel) (by decide +kernel))⟩
theorem fl_Km_130 : mx_lk "TailoredOrder$KeyMaker" 130 5 3 (.array .int) true := ⟨_, rfl, by decide, rfl, by decide +kernel, Or.inl (mx_in 121 (by decide +kernel) (by decide +kernel))⟩
theorem fl_Ta_24 : mx_lk "TailoredOrder$Table" 24 5 4 (.array .int) true := ⟨_, rfl, by decide, rfl, by decide +kernel, Or.inl (mx_in 122 (by decide +kernel) (by decide +kernel))⟩
theorem ff_Ta_24 : ∃ q : vw_C, vwCl[5]? = some q ∧ 4 < q.2.2 ∧ (q.2.1 4).2.2.2 = true ∧ parseFieldDescriptor (q.2.1 4).2.2.1 = some (.array .int) ∧ Cond.fieldLink "TailoredOrder$Table" 24 (q.2.1 4).1 (q.2.1 4).2.1 (q.2.1 4).2.2.1 ∈ mx_gw ∧ (q.2.1 4).1 = "TailoredOrder$Table" := ⟨_, rfl, by decide, rfl, by decide +kernel, (mx_in 122 (by decide +kernel) (by decide +kernel)), rfl⟩
theorem fl_To_108 : mx_lk "TailoredOrder" 108 5 4 (.array .int) true := ⟨_, rfl, by decide, rfl, by decide +kernel, Or.inl (mx_in 123 (by decide +kernel) (by decide +kernel))⟩
theorem fl_Km_133 : mx_lk "TailoredOrder$KeyMaker" 133 5 4 (.array .int) true := ⟨_, rfl, by decide, rfl, by decide +kernel, Or.inl (mx_in 124 (by decide +kernel) (by decide +kernel))⟩
theorem fl_Ta_34 : mx_lk "TailoredOrder$Table" 34 5 5 .int false := ⟨_, rfl, by decide, rfl, by decide +kernel, Or.inl (mx_in 125 (by decide +kernel) (by decide +kernel))⟩
theorem fl_To_87 : mx_lk "TailoredOrder" 87 5 5 .int false := ⟨_, rfl, by decide, rfl, by decide +kernel, Or.inl (mx_in 126 (by decide +kernel) (by decide +kernel))⟩
theorem fl_Ru_9 : mx_lk "TailoredOrder$Rule" 9 4 0 (.array .int) true := ⟨_, rfl, by decide, rfl, by decide +kernel, Or.inl (mx_in 146 (by decide +kernel) (by decide +kernel))⟩
theorem ff_Ru_9 : ∃ q : vw_C, vwCl[4]? = some q ∧ 0 < q.2.2 ∧ (q.2.1 0).2.2.2 = true ∧ parseFieldDescriptor (q.2.1 0).2.2.1 = some (.array .int) ∧ Cond.fieldLink "TailoredOrder$Rule" 9 (q.2.1 0).1 (q.2.1 0).2.1 (q.2.1 0).2.2.1 ∈ mx_gw ∧ (q.2.1 0).1 = "TailoredOrder$Rule" := ⟨_, rfl, by decide, rfl, by decide +kernel, (mx_in 146 (by decide +kernel) (by decide +kernel)), rfl⟩
theorem fl_Ta_52 : mx_lk "TailoredOrder$Table" 52 4 0 (.array .int) true := ⟨_, rfl, by decide, rfl, by decide +kernel, Or.inl (mx_in 147 (by decide +kernel) (by decide +kernel))⟩
theorem fl_Ru_15 : mx_lk "TailoredOrder$Rule" 15 4 1 (.array .int) true := ⟨_, rfl, by decide, rfl, by decide +kernel, Or.inl (mx_in 148 (by decide +kernel) (by decide +kernel))⟩
theorem ff_Ru_15 : ∃ q : vw_C, vwCl[4]? = some q ∧ 1 < q.2.2 ∧ (q.2.1 1).2.2.2 = true ∧ parseFieldDescriptor (q.2.1 1).2.2.1 = some (.array .int) ∧ Cond.fieldLink "TailoredOrder$Rule" 15 (q.2.1 1).1 (q.2.1 1).2.1 (q.2.1 1).2.2.1 ∈ mx_gw ∧ (q.2.1 1).1 = "TailoredOrder$Rule" := ⟨_, rfl, by decide, rfl, by decide +kernel, (mx_in 148 (by decide +kernel) (by decide +kernel)), rfl⟩
theorem fl_Ta_59 : mx_lk "TailoredOrder$Table" 59 4 1 (.array .int) true := ⟨_, rfl, by decide, rfl, by decide +kernel, Or.inl (mx_in 149 (by decide +kernel) (by decide +kernel))⟩
theorem fl_Ru_18 : mx_lk "TailoredOrder$Rule" 18 4 2 .int false := ⟨_, rfl, by decide, rfl, by decide +kernel, Or.inl (mx_in 150 (by decide +kernel) (by decide +kernel))⟩
theorem fl_Ta_58 : mx_lk "TailoredOrder$Table" 58 4 2 .int false := ⟨_, rfl, by decide, rfl, by decide +kernel, Or.inl (mx_in 151 (by decide +kernel) (by decide +kernel))⟩
theorem fl_Ru_22 : mx_lk "TailoredOrder$Rule" 22 4 3 .int false := ⟨_, rfl, by decide, rfl, by decide +kernel, Or.inl (mx_in 152 (by decide +kernel) (by decide +kernel))⟩
theorem fl_Ru_25 : mx_lk "TailoredOrder$Rule" 25 4 4 .int false := ⟨_, rfl, by decide, rfl, by decide +kernel, Or.inl (mx_in 153 (by decide +kernel) (by decide +kernel))⟩
theorem fl_Km_9 : mx_lk "TailoredOrder$KeyMaker" 9 2 0 (.object "TailoredOrder$Table") true := ⟨_, rfl, by decide, rfl, by decide +kernel, Or.inl (mx_in 173 (by decide +kernel) (by decide +kernel))⟩
theorem ff_Km_9 : ∃ q : vw_C, vwCl[2]? = some q ∧ 0 < q.2.2 ∧ (q.2.1 0).2.2.2 = true ∧ parseFieldDescriptor (q.2.1 0).2.2.1 = some (.object "TailoredOrder$Table") ∧ Cond.fieldLink "TailoredOrder$KeyMaker" 9 (q.2.1 0).1 (q.2.1 0).2.1 (q.2.1 0).2.2.1 ∈ mx_gw ∧ (q.2.1 0).1 = "TailoredOrder$KeyMaker" := ⟨_, rfl, by decide, rfl, by decide +kernel, (mx_in 173 (by decide +kernel) (by decide +kernel)), rfl⟩
theorem fl_Km_15 : mx_lk "TailoredOrder$KeyMaker" 15 2 1 (.array .char) true := ⟨_, rfl, by decide, rfl, by decide +kernel, Or.inl (mx_in 174 (by decide +kernel) (by decide +kernel))⟩
theorem ff_Km_15 : ∃ q : vw_C, vwCl[2]? = some q ∧ 1 < q.2.2 ∧ (q.2.1 1).2.2.2 = true ∧ parseFieldDescriptor (q.2.1 1).2.2.1 = some (.array .char) ∧ Cond.fieldLink "TailoredOrder$KeyMaker" 15 (q.2.1 1).1 (q.2.1 1).2.1 (q.2.1 1).2.2.1 ∈ mx_gw ∧ (q.2.1 1).1 = "TailoredOrder$KeyMaker" := ⟨_, rfl, by decide, rfl, by decide +kernel, (mx_in 174 (by decide +kernel) (by decide +kernel)), rfl⟩
theorem fl_Km_19 : mx_lk "TailoredOrder$KeyMaker" 19 2 2 (.array .char) true := ⟨_, rfl, by decide, rfl, by decide +kernel, Or.inl (mx_in 175 (by decide +kernel) (by decide +kernel))⟩
theorem ff_Km_19 : ∃ q : vw_C, vwCl[2]? = some q ∧ 2 < q.2.2 ∧ (q.2.1 2).2.2.2 = true ∧ parseFieldDescriptor (q.2.1 2).2.2.1 = some (.array .char) ∧ Cond.fieldLink "TailoredOrder$KeyMaker" 19 (q.2.1 2).1 (q.2.1 2).2.1 (q.2.1 2).2.2.1 ∈ mx_gw ∧ (q.2.1 2).1 = "TailoredOrder$KeyMaker" := ⟨_, rfl, by decide, rfl, by decide +kernel, (mx_in 175 (by decide +kernel) (by decide +kernel)), rfl⟩
theorem fl_Km_24 : mx_lk "TailoredOrder$KeyMaker" 24 2 3 (.array (.array .int)) true := ⟨_, rfl, by decide, rfl, by decide +kernel, Or.inl (mx_in 176 (by decide +kernel) (by decide +kernel))⟩
theorem ff_Km_24 : ∃ q : vw_C, vwCl[2]? = some q ∧ 3 < q.2.2 ∧ (q.2.1 3).2.2.2 = true ∧ parseFieldDescriptor (q.2.1 3).2.2.1 = some (.array (.array .int)) ∧ Cond.fieldLink "TailoredOrder$KeyMaker" 24 (q.2.1 3).1 (q.2.1 3).2.1 (q.2.1 3).2.2.1 ∈ mx_gw ∧ (q.2.1 3).1 = "TailoredOrder$KeyMaker" := ⟨_, rfl, by decide, rfl, by decide +kernel, (mx_in 176 (by decide +kernel) (by decide +kernel)), rfl⟩
theorem fl_Km_57 : mx_lk "TailoredOrder$KeyMaker" 57 2 4 .int false := ⟨_, rfl, by decide, rfl, by decide +kernel, Or.inl (mx_in 177 (by decide +kernel) (by decide +kernel))⟩
theorem fl_Km_73 : mx_lk "TailoredOrder$KeyMaker" 73 2 5 .int false := ⟨_, rfl, by decide, rfl, by decide +kernel, Or.inl (mx_in 178 (by decide +kernel) (by decide +kernel))⟩
theorem fl_Km_76 : mx_lk "TailoredOrder$KeyMaker" 76 2 6 .boolean false := ⟨_, rfl, by decide, rfl, by decide +kernel, Or.inl (mx_in 179 (by decide +kernel) (by decide +kernel))⟩
theorem fl_Km_27 : mx_lk "TailoredOrder$KeyMaker" 27 2 7 .int false := ⟨_, rfl, by decide, rfl, by decide +kernel, Or.inl (mx_in 180 (by decide +kernel) (by decide +kernel))⟩
theorem fl_Km_31 : mx_lk "TailoredOrder$KeyMaker" 31 2 8 .boolean false := ⟨_, rfl, by decide, rfl, by decide +kernel, Or.inl (mx_in 181 (by decide +kernel) (by decide +kernel))⟩
theorem fl_Km_35 : mx_lk "TailoredOrder$KeyMaker" 35 2 9 .boolean false := ⟨_, rfl, by decide, rfl, by decide +kernel, Or.inl (mx_in 182 (by decide +kernel) (by decide +kernel))⟩
theorem fl_Fo_11 : mx_lk "TailoredOrder$Folder" 11 0 0 (.array (.object "TailoredOrder$Line")) true := ⟨_, rfl, by decide, rfl, by decide +kernel, Or.inl (mx_in 214 (by decide +kernel) (by decide +kernel))⟩
theorem ff_Fo_11 : ∃ q : vw_C, vwCl[0]? = some q ∧ 0 < q.2.2 ∧ (q.2.1 0).2.2.2 = true ∧ parseFieldDescriptor (q.2.1 0).2.2.1 = some (.array (.object "TailoredOrder$Line")) ∧ Cond.fieldLink "TailoredOrder$Folder" 11 (q.2.1 0).1 (q.2.1 0).2.1 (q.2.1 0).2.2.1 ∈ mx_gw ∧ (q.2.1 0).1 = "TailoredOrder$Folder" := ⟨_, rfl, by decide, rfl, by decide +kernel, (mx_in 214 (by decide +kernel) (by decide +kernel)), rfl⟩
theorem fl_To_153 : mx_lk "TailoredOrder" 153 0 0 (.array (.object "TailoredOrder$Line")) true := ⟨_, rfl, by decide, rfl, by decide +kernel, Or.inl (mx_in 215 (by decide +kernel) (by decide +kernel))⟩
theorem fl_Fo_17 : mx_lk "TailoredOrder$Folder" 17 0 1 (.array .int) true := ⟨_, rfl, by decide, rfl, by decide +kernel, Or.inl (mx_in 216 (by decide +kernel) (by decide +kernel))⟩
theorem ff_Fo_17 : ∃ q : vw_C, vwCl[0]? = some q ∧ 1 < q.2.2 ∧ (q.2.1 1).2.2.2 = true ∧ parseFieldDescriptor (q.2.1 1).2.2.1 = some (.array .int) ∧ Cond.fieldLink "TailoredOrder$Folder" 17 (q.2.1 1).1 (q.2.1 1).2.1 (q.2.1 1).2.2.1 ∈ mx_gw ∧ (q.2.1 1).1 = "TailoredOrder$Folder" := ⟨_, rfl, by decide, rfl, by decide +kernel, (mx_in 216 (by decide +kernel) (by decide +kernel)), rfl⟩
theorem fl_Fo_23 : mx_lk "TailoredOrder$Folder" 23 0 2 (.array (.object "TailoredOrder$Key")) true := ⟨_, rfl, by decide, rfl, by decide +kernel, Or.inl (mx_in 217 (by decide +kernel) (by decide +kernel))⟩
theorem ff_Fo_23 : ∃ q : vw_C, vwCl[0]? = some q ∧ 2 < q.2.2 ∧ (q.2.1 2).2.2.2 = true ∧ parseFieldDescriptor (q.2.1 2).2.2.1 = some (.array (.object "TailoredOrder$Key")) ∧ Cond.fieldLink "TailoredOrder$Folder" 23 (q.2.1 2).1 (q.2.1 2).2.1 (q.2.1 2).2.2.1 ∈ mx_gw ∧ (q.2.1 2).1 = "TailoredOrder$Folder" := ⟨_, rfl, by decide, rfl, by decide +kernel, (mx_in 217 (by decide +kernel) (by decide +kernel)), rfl⟩
theorem fl_To_156 : mx_lk "TailoredOrder" 156 0 2 (.array (.object "TailoredOrder$Key")) true := ⟨_, rfl, by decide, rfl, by decide +kernel, Or.inl (mx_in 218 (by decide +kernel) (by decide +kernel))⟩
theorem fl_Fo_31 : mx_lk "TailoredOrder$Folder" 31 0 3 .int false := ⟨_, rfl, by decide, rfl, by decide +kernel, Or.inl (mx_in 219 (by decide +kernel) (by decide +kernel))⟩
theorem fl_To_138 : mx_lk "TailoredOrder" 138 0 3 .int false := ⟨_, rfl, by decide, rfl, by decide +kernel, Or.inl (mx_in 220 (by decide +kernel) (by decide +kernel))⟩
theorem fl_Fo_35 : mx_lk "TailoredOrder$Folder" 35 0 4 .int false := ⟨_, rfl, by decide, rfl, by decide +kernel, Or.inl (mx_in 221 (by decide +kernel) (by decide +kernel))⟩
theorem fl_To_11 : mx_lk "TailoredOrder" 11 6 0 (.array (.object "TailoredOrder$Line")) true := ⟨_, rfl, by decide, rfl, by decide +kernel, Or.inl (mx_in 233 (by decide +kernel) (by decide +kernel))⟩
theorem ff_To_11 : ∃ q : vw_C, vwCl[6]? = some q ∧ 0 < q.2.2 ∧ (q.2.1 0).2.2.2 = true ∧ parseFieldDescriptor (q.2.1 0).2.2.1 = some (.array (.object "TailoredOrder$Line")) ∧ Cond.fieldLink "TailoredOrder" 11 (q.2.1 0).1 (q.2.1 0).2.1 (q.2.1 0).2.2.1 ∈ mx_gw ∧ (q.2.1 0).1 = "TailoredOrder" := ⟨_, rfl, by decide, rfl, by decide +kernel, (mx_in 233 (by decide +kernel) (by decide +kernel)), rfl⟩
theorem fl_To_17 : mx_lk "TailoredOrder" 17 6 1 (.array (.object "TailoredOrder$Key")) true := ⟨_, rfl, by decide, rfl, by decide +kernel, Or.inl (mx_in 234 (by decide +kernel) (by decide +kernel))⟩
theorem ff_To_17 : ∃ q : vw_C, vwCl[6]? = some q ∧ 1 < q.2.2 ∧ (q.2.1 1).2.2.2 = true ∧ parseFieldDescriptor (q.2.1 1).2.2.1 = some (.array (.object "TailoredOrder$Key")) ∧ Cond.fieldLink "TailoredOrder" 17 (q.2.1 1).1 (q.2.1 1).2.1 (q.2.1 1).2.2.1 ∈ mx_gw ∧ (q.2.1 1).1 = "TailoredOrder" := ⟨_, rfl, by decide, rfl, by decide +kernel, (mx_in 234 (by decide +kernel) (by decide +kernel)), rfl⟩
theorem fl_To_28 : mx_lk "TailoredOrder" 28 6 2 (.object "TailoredOrder$Table") true := ⟨_, rfl, by decide, rfl, by decide +kernel, Or.inl (mx_in 235 (by decide +kernel) (by decide +kernel))⟩
theorem ff_To_28 : ∃ q : vw_C, vwCl[6]? = some q ∧ 2 < q.2.2 ∧ (q.2.1 2).2.2.2 = true ∧ parseFieldDescriptor (q.2.1 2).2.2.1 = some (.object "TailoredOrder$Table") ∧ Cond.fieldLink "TailoredOrder" 28 (q.2.1 2).1 (q.2.1 2).2.1 (q.2.1 2).2.2.1 ∈ mx_gw ∧ (q.2.1 2).1 = "TailoredOrder" := ⟨_, rfl, by decide, rfl, by decide +kernel, (mx_in 235 (by decide +kernel) (by decide +kernel)), rfl⟩
theorem fl_To_32 : mx_lk "TailoredOrder" 32 6 3 (.object "TailoredOrder$Table") true := ⟨_, rfl, by decide, rfl, by decide +kernel, Or.inl (mx_in 236 (by decide +kernel) (by decide +kernel))⟩
theorem ff_To_32 : ∃ q : vw_C, vwCl[6]? = some q ∧ 3 < q.2.2 ∧ (q.2.1 3).2.2.2 = true ∧ parseFieldDescriptor (q.2.1 3).2.2.1 = some (.object "TailoredOrder$Table") ∧ Cond.fieldLink "TailoredOrder" 32 (q.2.1 3).1 (q.2.1 3).2.1 (q.2.1 3).2.2.1 ∈ mx_gw ∧ (q.2.1 3).1 = "TailoredOrder" := ⟨_, rfl, by decide, rfl, by decide +kernel, (mx_in 236 (by decide +kernel) (by decide +kernel)), rfl⟩
theorem fl_To_38 : mx_lk "TailoredOrder" 38 6 4 (.object "TailoredOrder$Rule") true := ⟨_, rfl, by decide, rfl, by decide +kernel, Or.inl (mx_in 237 (by decide +kernel) (by decide +kernel))⟩
theorem ff_To_38 : ∃ q : vw_C, vwCl[6]? = some q ∧ 4 < q.2.2 ∧ (q.2.1 4).2.2.2 = true ∧ parseFieldDescriptor (q.2.1 4).2.2.1 = some (.object "TailoredOrder$Rule") ∧ Cond.fieldLink "TailoredOrder" 38 (q.2.1 4).1 (q.2.1 4).2.1 (q.2.1 4).2.2.1 ∈ mx_gw ∧ (q.2.1 4).1 = "TailoredOrder" := ⟨_, rfl, by decide, rfl, by decide +kernel, (mx_in 237 (by decide +kernel) (by decide +kernel)), rfl⟩
theorem fl_To_47 : mx_lk "TailoredOrder" 47 6 5 (.object "TailoredOrder$KeyMaker") true := ⟨_, rfl, by decide, rfl, by decide +kernel, Or.inl (mx_in 238 (by decide +kernel) (by decide +kernel))⟩
theorem ff_To_47 : ∃ q : vw_C, vwCl[6]? = some q ∧ 5 < q.2.2 ∧ (q.2.1 5).2.2.2 = true ∧ parseFieldDescriptor (q.2.1 5).2.2.1 = some (.object "TailoredOrder$KeyMaker") ∧ Cond.fieldLink "TailoredOrder" 47 (q.2.1 5).1 (q.2.1 5).2.1 (q.2.1 5).2.2.1 ∈ mx_gw ∧ (q.2.1 5).1 = "TailoredOrder" := ⟨_, rfl, by decide, rfl, by decide +kernel, (mx_in 238 (by decide +kernel) (by decide +kernel)), rfl⟩
theorem fl_To_54 : mx_lk "TailoredOrder" 54 6 6 (.object "TailoredOrder$Folder") true := ⟨_, rfl, by decide, rfl, by decide +kernel, Or.inl (mx_in 239 (by decide +kernel) (by decide +kernel))⟩
theorem ff_To_54 : ∃ q : vw_C, vwCl[6]? = some q ∧ 6 < q.2.2 ∧ (q.2.1 6).2.2.2 = true ∧ parseFieldDescriptor (q.2.1 6).2.2.1 = some (.object "TailoredOrder$Folder") ∧ Cond.fieldLink "TailoredOrder" 54 (q.2.1 6).1 (q.2.1 6).2.1 (q.2.1 6).2.2.1 ∈ mx_gw ∧ (q.2.1 6).1 = "TailoredOrder" := ⟨_, rfl, by decide, rfl, by decide +kernel, (mx_in 239 (by decide +kernel) (by decide +kernel)), rfl⟩
theorem fl_Mo_50 : mx_lk "TailoredOrderModel" 50 7 0 .int false := ⟨_, rfl, by decide, rfl, by decide +kernel, Or.inl (mx_in 515 (by decide +kernel) (by decide +kernel))⟩
theorem fl_Mo_7 : mx_lk "TailoredOrderModel" 7 7 1 (.array .int) true := ⟨_, rfl, by decide, rfl, by decide +kernel, Or.inl (mx_in 516 (by decide +kernel) (by decide +kernel))⟩
theorem ff_Mo_7 : ∃ q : vw_C, vwCl[7]? = some q ∧ 1 < q.2.2 ∧ (q.2.1 1).2.2.2 = true ∧ parseFieldDescriptor (q.2.1 1).2.2.1 = some (.array .int) ∧ Cond.fieldLink "TailoredOrderModel" 7 (q.2.1 1).1 (q.2.1 1).2.1 (q.2.1 1).2.2.1 ∈ mx_gw ∧ (q.2.1 1).1 = "TailoredOrderModel" := ⟨_, rfl, by decide, rfl, by decide +kernel, (mx_in 516 (by decide +kernel) (by decide +kernel)), rfl⟩
theorem fl_Mo_13 : mx_lk "TailoredOrderModel" 13 7 2 (.array .int) true := ⟨_, rfl, by decide, rfl, by decide +kernel, Or.inl (mx_in 517 (by decide +kernel) (by decide +kernel))⟩
theorem ff_Mo_13 : ∃ q : vw_C, vwCl[7]? = some q ∧ 2 < q.2.2 ∧ (q.2.1 2).2.2.2 = true ∧ parseFieldDescriptor (q.2.1 2).2.2.1 = some (.array .int) ∧ Cond.fieldLink "TailoredOrderModel" 13 (q.2.1 2).1 (q.2.1 2).2.1 (q.2.1 2).2.2.1 ∈ mx_gw ∧ (q.2.1 2).1 = "TailoredOrderModel" := ⟨_, rfl, by decide, rfl, by decide +kernel, (mx_in 517 (by decide +kernel) (by decide +kernel)), rfl⟩
theorem fl_Mo_70 : mx_lk "TailoredOrderModel" 70 7 3 .int false := ⟨_, rfl, by decide, rfl, by decide +kernel, Or.inl (mx_in 518 (by decide +kernel) (by decide +kernel))⟩
theorem fl_Mo_16 : mx_lk "TailoredOrderModel" 16 7 4 (.array .int) true := ⟨_, rfl, by decide, rfl, by decide +kernel, Or.inl (mx_in 519 (by decide +kernel) (by decide +kernel))⟩
theorem ff_Mo_16 : ∃ q : vw_C, vwCl[7]? = some q ∧ 4 < q.2.2 ∧ (q.2.1 4).2.2.2 = true ∧ parseFieldDescriptor (q.2.1 4).2.2.1 = some (.array .int) ∧ Cond.fieldLink "TailoredOrderModel" 16 (q.2.1 4).1 (q.2.1 4).2.1 (q.2.1 4).2.2.1 ∈ mx_gw ∧ (q.2.1 4).1 = "TailoredOrderModel" := ⟨_, rfl, by decide, rfl, by decide +kernel, (mx_in 519 (by decide +kernel) (by decide +kernel)), rfl⟩
theorem fl_Mo_19 : mx_lk "TailoredOrderModel" 19 7 5 (.array .int) true := ⟨_, rfl, by decide, rfl, by decide +kernel, Or.inl (mx_in 520 (by decide +kernel) (by decide +kernel))⟩
theorem ff_Mo_19 : ∃ q : vw_C, vwCl[7]? = some q ∧ 5 < q.2.2 ∧ (q.2.1 5).2.2.2 = true ∧ parseFieldDescriptor (q.2.1 5).2.2.1 = some (.array .int) ∧ Cond.fieldLink "TailoredOrderModel" 19 (q.2.1 5).1 (q.2.1 5).2.1 (q.2.1 5).2.2.1 ∈ mx_gw ∧ (q.2.1 5).1 = "TailoredOrderModel" := ⟨_, rfl, by decide, rfl, by decide +kernel, (mx_in 520 (by decide +kernel) (by decide +kernel)), rfl⟩
theorem fl_Mo_22 : mx_lk "TailoredOrderModel" 22 7 6 (.array .int) true := ⟨_, rfl, by decide, rfl, by decide +kernel, Or.inl (mx_in 521 (by decide +kernel) (by decide +kernel))⟩
theorem ff_Mo_22 : ∃ q : vw_C, vwCl[7]? = some q ∧ 6 < q.2.2 ∧ (q.2.1 6).2.2.2 = true ∧ parseFieldDescriptor (q.2.1 6).2.2.1 = some (.array .int) ∧ Cond.fieldLink "TailoredOrderModel" 22 (q.2.1 6).1 (q.2.1 6).2.1 (q.2.1 6).2.2.1 ∈ mx_gw ∧ (q.2.1 6).1 = "TailoredOrderModel" := ⟨_, rfl, by decide, rfl, by decide +kernel, (mx_in 521 (by decide +kernel) (by decide +kernel)), rfl⟩
theorem fl_Mo_53 : mx_lk "TailoredOrderModel" 53 7 7 .int false := ⟨_, rfl, by decide, rfl, by decide +kernel, Or.inl (mx_in 522 (by decide +kernel) (by decide +kernel))⟩
theorem fl_Mo_25 : mx_lk "TailoredOrderModel" 25 7 8 (.array .int) true := ⟨_, rfl, by decide, rfl, by decide +kernel, Or.inl (mx_in 523 (by decide +kernel) (by decide +kernel))⟩
theorem ff_Mo_25 : ∃ q : vw_C, vwCl[7]? = some q ∧ 8 < q.2.2 ∧ (q.2.1 8).2.2.2 = true ∧ parseFieldDescriptor (q.2.1 8).2.2.1 = some (.array .int) ∧ Cond.fieldLink "TailoredOrderModel" 25 (q.2.1 8).1 (q.2.1 8).2.1 (q.2.1 8).2.2.1 ∈ mx_gw ∧ (q.2.1 8).1 = "TailoredOrderModel" := ⟨_, rfl, by decide, rfl, by decide +kernel, (mx_in 523 (by decide +kernel) (by decide +kernel)), rfl⟩
theorem fl_Mo_28 : mx_lk "TailoredOrderModel" 28 7 9 (.array .int) true := ⟨_, rfl, by decide, rfl, by decide +kernel, Or.inl (mx_in 524 (by decide +kernel) (by decide +kernel))⟩
theorem ff_Mo_28 : ∃ q : vw_C, vwCl[7]? = some q ∧ 9 < q.2.2 ∧ (q.2.1 9).2.2.2 = true ∧ parseFieldDescriptor (q.2.1 9).2.2.1 = some (.array .int) ∧ Cond.fieldLink "TailoredOrderModel" 28 (q.2.1 9).1 (q.2.1 9).2.1 (q.2.1 9).2.2.1 ∈ mx_gw ∧ (q.2.1 9).1 = "TailoredOrderModel" := ⟨_, rfl, by decide, rfl, by decide +kernel, (mx_in 524 (by decide +kernel) (by decide +kernel)), rfl⟩
theorem fl_Mo_31 : mx_lk "TailoredOrderModel" 31 7 10 (.array .int) true := ⟨_, rfl, by decide, rfl, by decide +kernel, Or.inl (mx_in 525 (by decide +kernel) (by decide +kernel))⟩
theorem ff_Mo_31 : ∃ q : vw_C, vwCl[7]? = some q ∧ 10 < q.2.2 ∧ (q.2.1 10).2.2.2 = true ∧ parseFieldDescriptor (q.2.1 10).2.2.1 = some (.array .int) ∧ Cond.fieldLink "TailoredOrderModel" 31 (q.2.1 10).1 (q.2.1 10).2.1 (q.2.1 10).2.2.1 ∈ mx_gw ∧ (q.2.1 10).1 = "TailoredOrderModel" := ⟨_, rfl, by decide, rfl, by decide +kernel, (mx_in 525 (by decide +kernel) (by decide +kernel)), rfl⟩
theorem fl_Mo_149 : mx_lk "TailoredOrderModel" 149 7 11 .int false := ⟨_, rfl, by decide, rfl, by decide +kernel, Or.inl (mx_in 526 (by decide +kernel) (by decide +kernel))⟩
theorem fl_Mo_152 : mx_lk "TailoredOrderModel" 152 7 12 .int false := ⟨_, rfl, by decide, rfl, by decide +kernel, Or.inl (mx_in 527 (by decide +kernel) (by decide +kernel))⟩
theorem fl_Mo_34 : mx_lk "TailoredOrderModel" 34 7 13 .int false := ⟨_, rfl, by decide, rfl, by decide +kernel, Or.inl (mx_in 528 (by decide +kernel) (by decide +kernel))⟩
theorem fl_Mo_108 : mx_lk "TailoredOrderModel" 108 7 14 .boolean false := ⟨_, rfl, by decide, rfl, by decide +kernel, Or.inl (mx_in 529 (by decide +kernel) (by decide +kernel))⟩
theorem fl_Mo_140 : mx_lk "TailoredOrderModel" 140 7 15 .boolean false := ⟨_, rfl, by decide, rfl, by decide +kernel, Or.inl (mx_in 530 (by decide +kernel) (by decide +kernel))⟩
theorem fl_Mo_38 : mx_lk "TailoredOrderModel" 38 7 16 (.array .int) true := ⟨_, rfl, by decide, rfl, by decide +kernel, Or.inl (mx_in 531 (by decide +kernel) (by decide +kernel))⟩
theorem ff_Mo_38 : ∃ q : vw_C, vwCl[7]? = some q ∧ 16 < q.2.2 ∧ (q.2.1 16).2.2.2 = true ∧ parseFieldDescriptor (q.2.1 16).2.2.1 = some (.array .int) ∧ Cond.fieldLink "TailoredOrderModel" 38 (q.2.1 16).1 (q.2.1 16).2.1 (q.2.1 16).2.2.1 ∈ mx_gw ∧ (q.2.1 16).1 = "TailoredOrderModel" := ⟨_, rfl, by decide, rfl, by decide +kernel, (mx_in 531 (by decide +kernel) (by decide +kernel)), rfl⟩
theorem fl_Mo_99 : mx_lk "TailoredOrderModel" 99 7 17 .int false := ⟨_, rfl, by decide, rfl, by decide +kernel, Or.inl (mx_in 532 (by decide +kernel) (by decide +kernel))⟩
theorem fl_Mo_41 : mx_lk "TailoredOrderModel" 41 7 18 (.array .int) true := ⟨_, rfl, by decide, rfl, by decide +kernel, Or.inl (mx_in 533 (by decide +kernel) (by decide +kernel))⟩
theorem ff_Mo_41 : ∃ q : vw_C, vwCl[7]? = some q ∧ 18 < q.2.2 ∧ (q.2.1 18).2.2.2 = true ∧ parseFieldDescriptor (q.2.1 18).2.2.1 = some (.array .int) ∧ Cond.fieldLink "TailoredOrderModel" 41 (q.2.1 18).1 (q.2.1 18).2.1 (q.2.1 18).2.2.1 ∈ mx_gw ∧ (q.2.1 18).1 = "TailoredOrderModel" := ⟨_, rfl, by decide, rfl, by decide +kernel, (mx_in 533 (by decide +kernel) (by decide +kernel)), rfl⟩
theorem fl_Mo_105 : mx_lk "TailoredOrderModel" 105 7 19 .int false := ⟨_, rfl, by decide, rfl, by decide +kernel, Or.inl (mx_in 534 (by decide +kernel) (by decide +kernel))⟩
theorem fl_Mo_112 : mx_lk "TailoredOrderModel" 112 7 20 .boolean false := ⟨_, rfl, by decide, rfl, by decide +kernel, Or.inl (mx_in 535 (by decide +kernel) (by decide +kernel))⟩
theorem fl_Mo_44 : mx_lk "TailoredOrderModel" 44 7 21 (.array .int) true := ⟨_, rfl, by decide, rfl, by decide +kernel, Or.inl (mx_in 536 (by decide +kernel) (by decide +kernel))⟩
theorem ff_Mo_44 : ∃ q : vw_C, vwCl[7]? = some q ∧ 21 < q.2.2 ∧ (q.2.1 21).2.2.2 = true ∧ parseFieldDescriptor (q.2.1 21).2.2.1 = some (.array .int) ∧ Cond.fieldLink "TailoredOrderModel" 44 (q.2.1 21).1 (q.2.1 21).2.1 (q.2.1 21).2.2.1 ∈ mx_gw ∧ (q.2.1 21).1 = "TailoredOrderModel" := ⟨_, rfl, by decide, rfl, by decide +kernel, (mx_in 536 (by decide +kernel) (by decide +kernel)), rfl⟩
theorem fl_Mo_47 : mx_lk "TailoredOrderModel" 47 7 22 (.array .int) true := ⟨_, rfl, by decide, rfl, by decide +kernel, Or.inl (mx_in 537 (by decide +kernel) (by decide +kernel))⟩
theorem ff_Mo_47 : ∃ q : vw_C, vwCl[7]? = some q ∧ 22 < q.2.2 ∧ (q.2.1 22).2.2.2 = true ∧ parseFieldDescriptor (q.2.1 22).2.2.1 = some (.array .int) ∧ Cond.fieldLink "TailoredOrderModel" 47 (q.2.1 22).1 (q.2.1 22).2.1 (q.2.1 22).2.2.1 ∈ mx_gw ∧ (q.2.1 22).1 = "TailoredOrderModel" := ⟨_, rfl, by decide, rfl, by decide +kernel, (mx_in 537 (by decide +kernel) (by decide +kernel)), rfl⟩
theorem ca_Li_init : mx_cal m_Li_init 1 := ⟨(mx_in 67 (by decide +kernel) (by decide +kernel)), (mx_in 43 (by decide +kernel) (by decide +kernel)), by decide +kernel, ⟨by decide +kernel, by decide +kernel, by decide +kernel⟩, by decide⟩
theorem ci_To_21 : mx_Ic "TailoredOrder" 21 m_Li_init 1 := ⟨Or.inl (mx_in 65 (by decide +kernel) (by decide +kernel)), ca_Li_init, (mx_in 66 (by decide +kernel) (by decide +kernel)), rfl, rfl, by decide⟩
theorem ca_Ke_init : mx_cal m_Ke_init 0 := ⟨(mx_in 84 (by decide +kernel) (by decide +kernel)), (mx_in 44 (by decide +kernel) (by decide +kernel)), by decide +kernel, ⟨by decide +kernel, by decide +kernel, by decide +kernel⟩, by decide⟩
theorem ci_To_24 : mx_Ic "TailoredOrder" 24 m_Ke_init 0 := ⟨Or.inl (mx_in 82 (by decide +kernel) (by decide +kernel)), ca_Ke_init, (mx_in 83 (by decide +kernel) (by decide +kernel)), rfl, rfl, by decide⟩
theorem ca_Ta_init : mx_cal m_Ta_init 0 := ⟨(mx_in 101 (by decide +kernel) (by decide +kernel)), (mx_in 45 (by decide +kernel) (by decide +kernel)), by decide +kernel, ⟨by decide +kernel, by decide +kernel, by decide +kernel⟩, by decide⟩
theorem ci_To_27 : mx_Ic "TailoredOrder" 27 m_Ta_init 0 := ⟨Or.inl (mx_in 99 (by decide +kernel) (by decide +kernel)), ca_Ta_init, (mx_in 100 (by decide +kernel) (by decide +kernel)), rfl, rfl, by decide⟩
theorem ca_Ru_init : mx_cal m_Ru_init 0 := ⟨(mx_in 144 (by decide +kernel) (by decide +kernel)), (mx_in 46 (by decide +kernel) (by decide +kernel)), by decide +kernel, ⟨by decide +kernel, by decide +kernel, by decide +kernel⟩, by decide⟩
theorem ci_To_37 : mx_Ic "TailoredOrder" 37 m_Ru_init 0 := ⟨Or.inl (mx_in 142 (by decide +kernel) (by decide +kernel)), ca_Ru_init, (mx_in 143 (by decide +kernel) (by decide +kernel)), rfl, rfl, by decide⟩
theorem ca_Km_init : mx_cal m_Km_init 1 := ⟨(mx_in 169 (by decide +kernel) (by decide +kernel)), (mx_in 47 (by decide +kernel) (by decide +kernel)), by decide +kernel, ⟨by decide +kernel, by decide +kernel, by decide +kernel⟩, by decide⟩
theorem ci_To_44 : mx_Ic "TailoredOrder" 44 m_Km_init 1 := ⟨Or.inl (mx_in 167 (by decide +kernel) (by decide +kernel)), ca_Km_init, (mx_in 168 (by decide +kernel) (by decide +kernel)), rfl, rfl, by decide⟩
theorem ca_Fo_init : mx_cal m_Fo_init 0 := ⟨(mx_in 208 (by decide +kernel) (by decide +kernel)), (mx_in 48 (by decide +kernel) (by decide +kernel)), by decide +kernel, ⟨by decide +kernel, by decide +kernel, by decide +kernel⟩, by decide⟩
theorem ci_To_53 : mx_Ic "TailoredOrder" 53 m_Fo_init 0 := ⟨Or.inl (mx_in 206 (by decide +kernel) (by decide +kernel)), ca_Fo_init, (mx_in 207 (by decide +kernel) (by decide +kernel)), rfl, rfl, by decide⟩
theorem ca_To_isLetter : mx_cal m_To_isLetter 1 := ⟨(mx_in 261 (by decide +kernel) (by decide +kernel)), (mx_in 42 (by decide +kernel) (by decide +kernel)), by decide +kernel, ⟨by decide +kernel, by decide +kernel, by decide +kernel⟩, by decide⟩
theorem cs_To_58 : mx_Sc "TailoredOrder" 58 m_To_isLetter 1 := ⟨Or.inl (mx_in 259 (by decide +kernel) (by decide +kernel)), ca_To_isLetter, (mx_in 260 (by decide +kernel) (by decide +kernel)), by decide⟩
theorem ca_To_isVariable : mx_cal m_To_isVariable 1 := ⟨(mx_in 264 (by decide +kernel) (by decide +kernel)), (mx_in 42 (by decide +kernel) (by decide +kernel)), by decide +kernel, ⟨by decide +kernel, by decide +kernel, by decide +kernel⟩, by decide⟩
theorem cs_To_62 : mx_Sc "TailoredOrder" 62 m_To_isVariable 1 := ⟨Or.inl (mx_in 262 (by decide +kernel) (by decide +kernel)), ca_To_isVariable, (mx_in 263 (by decide +kernel) (by decide +kernel)), by decide⟩
theorem ca_To_isMark : mx_cal m_To_isMark 1 := ⟨(mx_in 267 (by decide +kernel) (by decide +kernel)), (mx_in 42 (by decide +kernel) (by decide +kernel)), by decide +kernel, ⟨by decide +kernel, by decide +kernel, by decide +kernel⟩, by decide⟩
theorem cs_To_65 : mx_Sc "TailoredOrder" 65 m_To_isMark 1 := ⟨Or.inl (mx_in 265 (by decide +kernel) (by decide +kernel)), ca_To_isMark, (mx_in 266 (by decide +kernel) (by decide +kernel)), by decide⟩
theorem ca_Li_append : mx_cal m_Li_append 1 := ⟨(mx_in 271 (by decide +kernel) (by decide +kernel)), (mx_in 43 (by decide +kernel) (by decide +kernel)), by decide +kernel, ⟨by decide +kernel, by decide +kernel, by decide +kernel⟩, by decide⟩
theorem cv_To_68 : mx_V "TailoredOrder" 68 m_Li_append 1 3 := ⟨Or.inl (mx_in 268 (by decide +kernel) (by decide +kernel)), ca_Li_append, ⟨(mx_in 269 (by decide +kernel) (by decide +kernel)), (mx_in 270 (by decide +kernel) (by decide +kernel))⟩, ⟨_, rfl, rfl⟩, by decide⟩
theorem ca_Li_clear : mx_cal m_Li_clear 0 := ⟨(mx_in 279 (by decide +kernel) (by decide +kernel)), (mx_in 43 (by decide +kernel) (by decide +kernel)), by decide +kernel, ⟨by decide +kernel, by decide +kernel, by decide +kernel⟩, by decide⟩
theorem cv_To_72 : mx_V "TailoredOrder" 72 m_Li_clear 0 3 := ⟨Or.inl (mx_in 276 (by decide +kernel) (by decide +kernel)), ca_Li_clear, ⟨(mx_in 277 (by decide +kernel) (by decide +kernel)), (mx_in 278 (by decide +kernel) (by decide +kernel))⟩, ⟨_, rfl, rfl⟩, by decide⟩
theorem ca_Ru_read : mx_cal m_Ru_read 1 := ⟨(mx_in 287 (by decide +kernel) (by decide +kernel)), (mx_in 46 (by decide +kernel) (by decide +kernel)), by decide +kernel, ⟨by decide +kernel, by decide +kernel, by decide +kernel⟩, by decide⟩
theorem cv_To_76 : mx_V "TailoredOrder" 76 m_Ru_read 1 4 := ⟨Or.inl (mx_in 284 (by decide +kernel) (by decide +kernel)), ca_Ru_read, ⟨(mx_in 285 (by decide +kernel) (by decide +kernel)), (mx_in 286 (by decide +kernel) (by decide +kernel))⟩, ⟨_, rfl, rfl⟩, by decide⟩
theorem ca_Ta_copyFrom : mx_cal m_Ta_copyFrom 1 := ⟨(mx_in 316 (by decide +kernel) (by decide +kernel)), (mx_in 45 (by decide +kernel) (by decide +kernel)), by decide +kernel, ⟨by decide +kernel, by decide +kernel, by decide +kernel⟩, by decide⟩
theorem cv_To_80 : mx_V "TailoredOrder" 80 m_Ta_copyFrom 1 5 := ⟨Or.inl (mx_in 313 (by decide +kernel) (by decide +kernel)), ca_Ta_copyFrom, ⟨(mx_in 314 (by decide +kernel) (by decide +kernel)), (mx_in 315 (by decide +kernel) (by decide +kernel))⟩, ⟨_, rfl, rfl⟩, by decide⟩
theorem ca_Ta_follow : mx_cal m_Ta_follow 1 := ⟨(mx_in 323 (by decide +kernel) (by decide +kernel)), (mx_in 45 (by decide +kernel) (by decide +kernel)), by decide +kernel, ⟨by decide +kernel, by decide +kernel, by decide +kernel⟩, by decide⟩
theorem cv_To_83 : mx_V "TailoredOrder" 83 m_Ta_follow 1 5 := ⟨Or.inl (mx_in 320 (by decide +kernel) (by decide +kernel)), ca_Ta_follow, ⟨(mx_in 321 (by decide +kernel) (by decide +kernel)), (mx_in 322 (by decide +kernel) (by decide +kernel))⟩, ⟨_, rfl, rfl⟩, by decide⟩
theorem ca_To_characterOf : mx_cal m_To_characterOf 2 := ⟨(mx_in 353 (by decide +kernel) (by decide +kernel)), (mx_in 42 (by decide +kernel) (by decide +kernel)), by decide +kernel, ⟨by decide +kernel, by decide +kernel, by decide +kernel⟩, by decide⟩
theorem cs_To_95 : mx_Sc "TailoredOrder" 95 m_To_characterOf 2 := ⟨Or.inl (mx_in 351 (by decide +kernel) (by decide +kernel)), ca_To_characterOf, (mx_in 352 (by decide +kernel) (by decide +kernel)), by decide⟩
theorem ca_Km_shape : mx_cal m_Km_shape 3 := ⟨(mx_in 361 (by decide +kernel) (by decide +kernel)), (mx_in 47 (by decide +kernel) (by decide +kernel)), by decide +kernel, ⟨by decide +kernel, by decide +kernel, by decide +kernel⟩, by decide⟩
theorem cv_To_111 : mx_V "TailoredOrder" 111 m_Km_shape 3 2 := ⟨Or.inl (mx_in 358 (by decide +kernel) (by decide +kernel)), ca_Km_shape, ⟨(mx_in 359 (by decide +kernel) (by decide +kernel)), (mx_in 360 (by decide +kernel) (by decide +kernel))⟩, ⟨_, rfl, rfl⟩, by decide⟩
theorem ca_To_isTextLine : mx_cal m_To_isTextLine 1 := ⟨(mx_in 368 (by decide +kernel) (by decide +kernel)), (mx_in 42 (by decide +kernel) (by decide +kernel)), by decide +kernel, ⟨by decide +kernel, by decide +kernel, by decide +kernel⟩, by decide⟩
theorem cs_To_115 : mx_Sc "TailoredOrder" 115 m_To_isTextLine 1 := ⟨Or.inl (mx_in 366 (by decide +kernel) (by decide +kernel)), ca_To_isTextLine, (mx_in 367 (by decide +kernel) (by decide +kernel)), by decide⟩
theorem ca_To_keyOf : mx_cal m_To_keyOf 1 := ⟨(mx_in 372 (by decide +kernel) (by decide +kernel)), (mx_in 42 (by decide +kernel) (by decide +kernel)), by decide +kernel, ⟨by decide +kernel, by decide +kernel, by decide +kernel⟩, by decide⟩
theorem cv_To_118 : mx_V "TailoredOrder" 118 m_To_keyOf 1 6 := ⟨Or.inl (mx_in 369 (by decide +kernel) (by decide +kernel)), ca_To_keyOf, ⟨(mx_in 371 (by decide +kernel) (by decide +kernel)), (mx_in 9 (by decide +kernel) (by decide +kernel))⟩, ⟨_, rfl, rfl⟩, by decide⟩
theorem ca_Ke_against : mx_cal m_Ke_against 1 := ⟨(mx_in 451 (by decide +kernel) (by decide +kernel)), (mx_in 44 (by decide +kernel) (by decide +kernel)), by decide +kernel, ⟨by decide +kernel, by decide +kernel, by decide +kernel⟩, by decide⟩
theorem cv_To_128 : mx_V "TailoredOrder" 128 m_Ke_against 1 1 := ⟨Or.inl (mx_in 448 (by decide +kernel) (by decide +kernel)), ca_Ke_against, ⟨(mx_in 449 (by decide +kernel) (by decide +kernel)), (mx_in 450 (by decide +kernel) (by decide +kernel))⟩, ⟨_, rfl, rfl⟩, by decide⟩
theorem ca_Fo_add : mx_cal m_Fo_add 1 := ⟨(mx_in 460 (by decide +kernel) (by decide +kernel)), (mx_in 48 (by decide +kernel) (by decide +kernel)), by decide +kernel, ⟨by decide +kernel, by decide +kernel, by decide +kernel⟩, by decide⟩
theorem cv_To_132 : mx_V "TailoredOrder" 132 m_Fo_add 1 0 := ⟨Or.inl (mx_in 457 (by decide +kernel) (by decide +kernel)), ca_Fo_add, ⟨(mx_in 458 (by decide +kernel) (by decide +kernel)), (mx_in 459 (by decide +kernel) (by decide +kernel))⟩, ⟨_, rfl, rfl⟩, by decide⟩
theorem ca_Fo_remove : mx_cal m_Fo_remove 1 := ⟨(mx_in 474 (by decide +kernel) (by decide +kernel)), (mx_in 48 (by decide +kernel) (by decide +kernel)), by decide +kernel, ⟨by decide +kernel, by decide +kernel, by decide +kernel⟩, by decide⟩
theorem cv_To_135 : mx_V "TailoredOrder" 135 m_Fo_remove 1 0 := ⟨Or.inl (mx_in 471 (by decide +kernel) (by decide +kernel)), ca_Fo_remove, ⟨(mx_in 472 (by decide +kernel) (by decide +kernel)), (mx_in 473 (by decide +kernel) (by decide +kernel))⟩, ⟨_, rfl, rfl⟩, by decide⟩
theorem ca_To_makeFolderKeys : mx_cal m_To_makeFolderKeys 0 := ⟨(mx_in 490 (by decide +kernel) (by decide +kernel)), (mx_in 42 (by decide +kernel) (by decide +kernel)), by decide +kernel, ⟨by decide +kernel, by decide +kernel, by decide +kernel⟩, by decide⟩
theorem cv_To_139 : mx_V "TailoredOrder" 139 m_To_makeFolderKeys 0 6 := ⟨Or.inl (mx_in 487 (by decide +kernel) (by decide +kernel)), ca_To_makeFolderKeys, ⟨(mx_in 489 (by decide +kernel) (by decide +kernel)), (mx_in 21 (by decide +kernel) (by decide +kernel))⟩, ⟨_, rfl, rfl⟩, by decide⟩
theorem ca_Fo_numberAt : mx_cal m_Fo_numberAt 1 := ⟨(mx_in 494 (by decide +kernel) (by decide +kernel)), (mx_in 48 (by decide +kernel) (by decide +kernel)), by decide +kernel, ⟨by decide +kernel, by decide +kernel, by decide +kernel⟩, by decide⟩
theorem cv_To_142 : mx_V "TailoredOrder" 142 m_Fo_numberAt 1 0 := ⟨Or.inl (mx_in 491 (by decide +kernel) (by decide +kernel)), ca_Fo_numberAt, ⟨(mx_in 492 (by decide +kernel) (by decide +kernel)), (mx_in 493 (by decide +kernel) (by decide +kernel))⟩, ⟨_, rfl, rfl⟩, by decide⟩
theorem ca_Fo_countLess : mx_cal m_Fo_countLess 1 := ⟨(mx_in 502 (by decide +kernel) (by decide +kernel)), (mx_in 48 (by decide +kernel) (by decide +kernel)), by decide +kernel, ⟨by decide +kernel, by decide +kernel, by decide +kernel⟩, by decide⟩
theorem cv_To_146 : mx_V "TailoredOrder" 146 m_Fo_countLess 1 0 := ⟨Or.inl (mx_in 508 (by decide +kernel) (by decide +kernel)), ca_Fo_countLess, ⟨(mx_in 500 (by decide +kernel) (by decide +kernel)), (mx_in 501 (by decide +kernel) (by decide +kernel))⟩, ⟨_, rfl, rfl⟩, by decide⟩
theorem ca_Km_make : mx_cal m_Km_make 2 := ⟨(mx_in 376 (by decide +kernel) (by decide +kernel)), (mx_in 47 (by decide +kernel) (by decide +kernel)), by decide +kernel, ⟨by decide +kernel, by decide +kernel, by decide +kernel⟩, by decide⟩
theorem cv_To_149 : mx_V "TailoredOrder" 149 m_Km_make 2 2 := ⟨Or.inl (mx_in 373 (by decide +kernel) (by decide +kernel)), ca_Km_make, ⟨(mx_in 374 (by decide +kernel) (by decide +kernel)), (mx_in 375 (by decide +kernel) (by decide +kernel))⟩, ⟨_, rfl, rfl⟩, by decide⟩
theorem ci_Fo_27 : mx_Ic "TailoredOrder$Folder" 27 m_Li_init 1 := ⟨Or.inl (mx_in 212 (by decide +kernel) (by decide +kernel)), ca_Li_init, (mx_in 66 (by decide +kernel) (by decide +kernel)), rfl, rfl, by decide⟩
theorem ci_Fo_30 : mx_Ic "TailoredOrder$Folder" 30 m_Ke_init 0 := ⟨Or.inl (mx_in 213 (by decide +kernel) (by decide +kernel)), ca_Ke_init, (mx_in 83 (by decide +kernel) (by decide +kernel)), rfl, rfl, by decide⟩
theorem ca_Li_copyFrom : mx_cal m_Li_copyFrom 1 := ⟨(mx_in 464 (by decide +kernel) (by decide +kernel)), (mx_in 43 (by decide +kernel) (by decide +kernel)), by decide +kernel, ⟨by decide +kernel, by decide +kernel, by decide +kernel⟩, by decide⟩
theorem cv_Fo_38 : mx_V "TailoredOrder$Folder" 38 m_Li_copyFrom 1 3 := ⟨Or.inl (mx_in 461 (by decide +kernel) (by decide +kernel)), ca_Li_copyFrom, ⟨(mx_in 462 (by decide +kernel) (by decide +kernel)), (mx_in 463 (by decide +kernel) (by decide +kernel))⟩, ⟨_, rfl, rfl⟩, by decide⟩
theorem ca_Fo_closeUp : mx_cal m_Fo_closeUp 1 := ⟨(mx_in 478 (by decide +kernel) (by decide +kernel)), (mx_in 48 (by decide +kernel) (by decide +kernel)), by decide +kernel, ⟨by decide +kernel, by decide +kernel, by decide +kernel⟩, by decide⟩
theorem cv_Fo_42 : mx_V "TailoredOrder$Folder" 42 m_Fo_closeUp 1 0 := ⟨Or.inl (mx_in 475 (by decide +kernel) (by decide +kernel)), ca_Fo_closeUp, ⟨(mx_in 477 (by decide +kernel) (by decide +kernel)), (mx_in 20 (by decide +kernel) (by decide +kernel))⟩, ⟨_, rfl, rfl⟩, by decide⟩
theorem ca_Fo_placeOf : mx_cal m_Fo_placeOf 1 := ⟨(mx_in 498 (by decide +kernel) (by decide +kernel)), (mx_in 48 (by decide +kernel) (by decide +kernel)), by decide +kernel, ⟨by decide +kernel, by decide +kernel, by decide +kernel⟩, by decide⟩
theorem cv_Fo_45 : mx_V "TailoredOrder$Folder" 45 m_Fo_placeOf 1 0 := ⟨Or.inl (mx_in 495 (by decide +kernel) (by decide +kernel)), ca_Fo_placeOf, ⟨(mx_in 497 (by decide +kernel) (by decide +kernel)), (mx_in 22 (by decide +kernel) (by decide +kernel))⟩, ⟨_, rfl, rfl⟩, by decide⟩
theorem cv_Fo_49 : mx_V "TailoredOrder$Folder" 49 m_Fo_countLess 1 0 := ⟨Or.inl (mx_in 499 (by decide +kernel) (by decide +kernel)), ca_Fo_countLess, ⟨(mx_in 500 (by decide +kernel) (by decide +kernel)), (mx_in 501 (by decide +kernel) (by decide +kernel))⟩, ⟨_, rfl, rfl⟩, by decide⟩
theorem cv_Fo_53 : mx_V "TailoredOrder$Folder" 53 m_Ke_against 1 1 := ⟨Or.inl (mx_in 503 (by decide +kernel) (by decide +kernel)), ca_Ke_against, ⟨(mx_in 449 (by decide +kernel) (by decide +kernel)), (mx_in 450 (by decide +kernel) (by decide +kernel))⟩, ⟨_, rfl, rfl⟩, by decide⟩
theorem ca_Km_arrange : mx_cal m_Km_arrange 1 := ⟨(mx_in 380 (by decide +kernel) (by decide +kernel)), (mx_in 47 (by decide +kernel) (by decide +kernel)), by decide +kernel, ⟨by decide +kernel, by decide +kernel, by decide +kernel⟩, by decide⟩
theorem cv_Km_38 : mx_V "TailoredOrder$KeyMaker" 38 m_Km_arrange 1 2 := ⟨Or.inl (mx_in 377 (by decide +kernel) (by decide +kernel)), ca_Km_arrange, ⟨(mx_in 379 (by decide +kernel) (by decide +kernel)), (mx_in 10 (by decide +kernel) (by decide +kernel))⟩, ⟨_, rfl, rfl⟩, by decide⟩
theorem ca_Km_findElements : mx_cal m_Km_findElements 0 := ⟨(mx_in 391 (by decide +kernel) (by decide +kernel)), (mx_in 47 (by decide +kernel) (by decide +kernel)), by decide +kernel, ⟨by decide +kernel, by decide +kernel, by decide +kernel⟩, by decide⟩
theorem cv_Km_42 : mx_V "TailoredOrder$KeyMaker" 42 m_Km_findElements 0 2 := ⟨Or.inl (mx_in 388 (by decide +kernel) (by decide +kernel)), ca_Km_findElements, ⟨(mx_in 390 (by decide +kernel) (by decide +kernel)), (mx_in 11 (by decide +kernel) (by decide +kernel))⟩, ⟨_, rfl, rfl⟩, by decide⟩
theorem ca_Km_writeLevel : mx_cal m_Km_writeLevel 2 := ⟨(mx_in 435 (by decide +kernel) (by decide +kernel)), (mx_in 47 (by decide +kernel) (by decide +kernel)), by decide +kernel, ⟨by decide +kernel, by decide +kernel, by decide +kernel⟩, by decide⟩
theorem cv_Km_50 : mx_V "TailoredOrder$KeyMaker" 50 m_Km_writeLevel 2 2 := ⟨Or.inl (mx_in 432 (by decide +kernel) (by decide +kernel)), ca_Km_writeLevel, ⟨(mx_in 434 (by decide +kernel) (by decide +kernel)), (mx_in 19 (by decide +kernel) (by decide +kernel))⟩, ⟨_, rfl, rfl⟩, by decide⟩
theorem ca_Km_mustPass : mx_cal m_Km_mustPass 2 := ⟨(mx_in 383 (by decide +kernel) (by decide +kernel)), (mx_in 47 (by decide +kernel) (by decide +kernel)), by decide +kernel, ⟨by decide +kernel, by decide +kernel, by decide +kernel⟩, by decide⟩
theorem cs_Km_61 : mx_Sc "TailoredOrder$KeyMaker" 61 m_Km_mustPass 2 := ⟨Or.inl (mx_in 381 (by decide +kernel) (by decide +kernel)), ca_Km_mustPass, (mx_in 382 (by decide +kernel) (by decide +kernel)), by decide⟩
theorem cs_Km_65 : mx_Sc "TailoredOrder$KeyMaker" 65 m_To_isMark 1 := ⟨Or.inr ⟨_, (mx_inn 384 (w := .methodLinkNest "TailoredOrder$KeyMaker" 65 y_To_isMark "TailoredOrder") (by decide +kernel) (by decide +kernel))⟩, ca_To_isMark, (mx_in 266 (by decide +kernel) (by decide +kernel)), by decide⟩
theorem ca_To_classOf : mx_cal m_To_classOf 1 := ⟨(mx_in 387 (by decide +kernel) (by decide +kernel)), (mx_in 42 (by decide +kernel) (by decide +kernel)), by decide +kernel, ⟨by decide +kernel, by decide +kernel, by decide +kernel⟩, by decide⟩
theorem cs_Km_69 : mx_Sc "TailoredOrder$KeyMaker" 69 m_To_classOf 1 := ⟨Or.inr ⟨_, (mx_inn 385 (w := .methodLinkNest "TailoredOrder$KeyMaker" 69 y_To_classOf "TailoredOrder") (by decide +kernel) (by decide +kernel))⟩, ca_To_classOf, (mx_in 386 (by decide +kernel) (by decide +kernel)), by decide⟩
theorem ca_Km_addMark : mx_cal m_Km_addMark 1 := ⟨(mx_in 395 (by decide +kernel) (by decide +kernel)), (mx_in 47 (by decide +kernel) (by decide +kernel)), by decide +kernel, ⟨by decide +kernel, by decide +kernel, by decide +kernel⟩, by decide⟩
theorem cv_Km_79 : mx_V "TailoredOrder$KeyMaker" 79 m_Km_addMark 1 2 := ⟨Or.inl (mx_in 392 (by decide +kernel) (by decide +kernel)), ca_Km_addMark, ⟨(mx_in 394 (by decide +kernel) (by decide +kernel)), (mx_in 12 (by decide +kernel) (by decide +kernel))⟩, ⟨_, rfl, rfl⟩, by decide⟩
theorem ca_Km_takeEntry : mx_cal m_Km_takeEntry 1 := ⟨(mx_in 403 (by decide +kernel) (by decide +kernel)), (mx_in 47 (by decide +kernel) (by decide +kernel)), by decide +kernel, ⟨by decide +kernel, by decide +kernel, by decide +kernel⟩, by decide⟩
theorem cv_Km_83 : mx_V "TailoredOrder$KeyMaker" 83 m_Km_takeEntry 1 2 := ⟨Or.inl (mx_in 400 (by decide +kernel) (by decide +kernel)), ca_Km_takeEntry, ⟨(mx_in 402 (by decide +kernel) (by decide +kernel)), (mx_in 14 (by decide +kernel) (by decide +kernel))⟩, ⟨_, rfl, rfl⟩, by decide⟩
theorem ca_Km_headAt : mx_cal m_Km_headAt 1 := ⟨(mx_in 407 (by decide +kernel) (by decide +kernel)), (mx_in 47 (by decide +kernel) (by decide +kernel)), by decide +kernel, ⟨by decide +kernel, by decide +kernel, by decide +kernel⟩, by decide⟩
theorem cv_Km_86 : mx_V "TailoredOrder$KeyMaker" 86 m_Km_headAt 1 2 := ⟨Or.inl (mx_in 404 (by decide +kernel) (by decide +kernel)), ca_Km_headAt, ⟨(mx_in 406 (by decide +kernel) (by decide +kernel)), (mx_in 15 (by decide +kernel) (by decide +kernel))⟩, ⟨_, rfl, rfl⟩, by decide⟩
theorem ca_Ta_findLongest : mx_cal m_Ta_findLongest 1 := ⟨(mx_in 411 (by decide +kernel) (by decide +kernel)), (mx_in 45 (by decide +kernel) (by decide +kernel)), by decide +kernel, ⟨by decide +kernel, by decide +kernel, by decide +kernel⟩, by decide⟩
theorem cv_Km_89 : mx_V "TailoredOrder$KeyMaker" 89 m_Ta_findLongest 1 5 := ⟨Or.inl (mx_in 408 (by decide +kernel) (by decide +kernel)), ca_Ta_findLongest, ⟨(mx_in 409 (by decide +kernel) (by decide +kernel)), (mx_in 410 (by decide +kernel) (by decide +kernel))⟩, ⟨_, rfl, rfl⟩, by decide⟩
theorem ca_To_lengthOf : mx_cal m_To_lengthOf 1 := ⟨(mx_in 308 (by decide +kernel) (by decide +kernel)), (mx_in 42 (by decide +kernel) (by decide +kernel)), by decide +kernel, ⟨by decide +kernel, by decide +kernel, by decide +kernel⟩, by decide⟩
theorem cs_Km_98 : mx_Sc "TailoredOrder$KeyMaker" 98 m_To_lengthOf 1 := ⟨Or.inr ⟨_, (mx_inn 416 (w := .methodLinkNest "TailoredOrder$KeyMaker" 98 y_To_lengthOf "TailoredOrder") (by decide +kernel) (by decide +kernel))⟩, ca_To_lengthOf, (mx_in 307 (by decide +kernel) (by decide +kernel)), by decide⟩
theorem ca_Km_isBlocked : mx_cal m_Km_isBlocked 2 := ⟨(mx_in 420 (by decide +kernel) (by decide +kernel)), (mx_in 47 (by decide +kernel) (by decide +kernel)), by decide +kernel, ⟨by decide +kernel, by decide +kernel, by decide +kernel⟩, by decide⟩
theorem cv_Km_101 : mx_V "TailoredOrder$KeyMaker" 101 m_Km_isBlocked 2 2 := ⟨Or.inl (mx_in 417 (by decide +kernel) (by decide +kernel)), ca_Km_isBlocked, ⟨(mx_in 419 (by decide +kernel) (by decide +kernel)), (mx_in 16 (by decide +kernel) (by decide +kernel))⟩, ⟨_, rfl, rfl⟩, by decide⟩
theorem ca_Km_findLonger : mx_cal m_Km_findLonger 2 := ⟨(mx_in 424 (by decide +kernel) (by decide +kernel)), (mx_in 47 (by decide +kernel) (by decide +kernel)), by decide +kernel, ⟨by decide +kernel, by decide +kernel, by decide +kernel⟩, by decide⟩
theorem cv_Km_105 : mx_V "TailoredOrder$KeyMaker" 105 m_Km_findLonger 2 2 := ⟨Or.inl (mx_in 421 (by decide +kernel) (by decide +kernel)), ca_Km_findLonger, ⟨(mx_in 423 (by decide +kernel) (by decide +kernel)), (mx_in 17 (by decide +kernel) (by decide +kernel))⟩, ⟨_, rfl, rfl⟩, by decide⟩
theorem ca_Km_addEntry : mx_cal m_Km_addEntry 1 := ⟨(mx_in 430 (by decide +kernel) (by decide +kernel)), (mx_in 47 (by decide +kernel) (by decide +kernel)), by decide +kernel, ⟨by decide +kernel, by decide +kernel, by decide +kernel⟩, by decide⟩
theorem cv_Km_109 : mx_V "TailoredOrder$KeyMaker" 109 m_Km_addEntry 1 2 := ⟨Or.inl (mx_in 427 (by decide +kernel) (by decide +kernel)), ca_Km_addEntry, ⟨(mx_in 429 (by decide +kernel) (by decide +kernel)), (mx_in 18 (by decide +kernel) (by decide +kernel))⟩, ⟨_, rfl, rfl⟩, by decide⟩
theorem ca_To_joined : mx_cal m_To_joined 3 := ⟨(mx_in 312 (by decide +kernel) (by decide +kernel)), (mx_in 42 (by decide +kernel) (by decide +kernel)), by decide +kernel, ⟨by decide +kernel, by decide +kernel, by decide +kernel⟩, by decide⟩
theorem cs_Km_113 : mx_Sc "TailoredOrder$KeyMaker" 113 m_To_joined 3 := ⟨Or.inr ⟨_, (mx_inn 425 (w := .methodLinkNest "TailoredOrder$KeyMaker" 113 y_To_joined "TailoredOrder") (by decide +kernel) (by decide +kernel))⟩, ca_To_joined, (mx_in 311 (by decide +kernel) (by decide +kernel)), by decide⟩
theorem ca_Ta_find : mx_cal m_Ta_find 1 := ⟨(mx_in 327 (by decide +kernel) (by decide +kernel)), (mx_in 45 (by decide +kernel) (by decide +kernel)), by decide +kernel, ⟨by decide +kernel, by decide +kernel, by decide +kernel⟩, by decide⟩
theorem cv_Km_117 : mx_V "TailoredOrder$KeyMaker" 117 m_Ta_find 1 5 := ⟨Or.inl (mx_in 426 (by decide +kernel) (by decide +kernel)), ca_Ta_find, ⟨(mx_in 325 (by decide +kernel) (by decide +kernel)), (mx_in 326 (by decide +kernel) (by decide +kernel))⟩, ⟨_, rfl, rfl⟩, by decide⟩
theorem cs_Km_120 : mx_Sc "TailoredOrder$KeyMaker" 120 m_To_isVariable 1 := ⟨Or.inr ⟨_, (mx_inn 431 (w := .methodLinkNest "TailoredOrder$KeyMaker" 120 y_To_isVariable "TailoredOrder") (by decide +kernel) (by decide +kernel))⟩, ca_To_isVariable, (mx_in 263 (by decide +kernel) (by decide +kernel)), by decide⟩
theorem ca_Km_addElement : mx_cal m_Km_addElement 4 := ⟨(mx_in 399 (by decide +kernel) (by decide +kernel)), (mx_in 47 (by decide +kernel) (by decide +kernel)), by decide +kernel, ⟨by decide +kernel, by decide +kernel, by decide +kernel⟩, by decide⟩
theorem cv_Km_126 : mx_V "TailoredOrder$KeyMaker" 126 m_Km_addElement 4 2 := ⟨Or.inl (mx_in 396 (by decide +kernel) (by decide +kernel)), ca_Km_addElement, ⟨(mx_in 398 (by decide +kernel) (by decide +kernel)), (mx_in 13 (by decide +kernel) (by decide +kernel))⟩, ⟨_, rfl, rfl⟩, by decide⟩
theorem ca_Ke_add : mx_cal m_Ke_add 1 := ⟨(mx_in 439 (by decide +kernel) (by decide +kernel)), (mx_in 44 (by decide +kernel) (by decide +kernel)), by decide +kernel, ⟨by decide +kernel, by decide +kernel, by decide +kernel⟩, by decide⟩
theorem cv_Km_136 : mx_V "TailoredOrder$KeyMaker" 136 m_Ke_add 1 1 := ⟨Or.inl (mx_in 436 (by decide +kernel) (by decide +kernel)), ca_Ke_add, ⟨(mx_in 437 (by decide +kernel) (by decide +kernel)), (mx_in 438 (by decide +kernel) (by decide +kernel))⟩, ⟨_, rfl, rfl⟩, by decide⟩
theorem cv_Li_17 : mx_V "TailoredOrder$Line" 17 m_Li_clear 0 3 := ⟨Or.inl (mx_in 465 (by decide +kernel) (by decide +kernel)), ca_Li_clear, ⟨(mx_in 277 (by decide +kernel) (by decide +kernel)), (mx_in 278 (by decide +kernel) (by decide +kernel))⟩, ⟨_, rfl, rfl⟩, by decide⟩
theorem cv_Li_21 : mx_V "TailoredOrder$Line" 21 m_Li_append 1 3 := ⟨Or.inl (mx_in 466 (by decide +kernel) (by decide +kernel)), ca_Li_append, ⟨(mx_in 269 (by decide +kernel) (by decide +kernel)), (mx_in 270 (by decide +kernel) (by decide +kernel))⟩, ⟨_, rfl, rfl⟩, by decide⟩
theorem ca_Ru_takes : mx_cal m_Ru_takes 1 := ⟨(mx_in 291 (by decide +kernel) (by decide +kernel)), (mx_in 46 (by decide +kernel) (by decide +kernel)), by decide +kernel, ⟨by decide +kernel, by decide +kernel, by decide +kernel⟩, by decide⟩
theorem cv_Ru_37 : mx_V "TailoredOrder$Rule" 37 m_Ru_takes 1 4 := ⟨Or.inl (mx_in 288 (by decide +kernel) (by decide +kernel)), ca_Ru_takes, ⟨(mx_in 290 (by decide +kernel) (by decide +kernel)), (mx_in 2 (by decide +kernel) (by decide +kernel))⟩, ⟨_, rfl, rfl⟩, by decide⟩
theorem ca_Ru_sign : mx_cal m_Ru_sign 1 := ⟨(mx_in 295 (by decide +kernel) (by decide +kernel)), (mx_in 46 (by decide +kernel) (by decide +kernel)), by decide +kernel, ⟨by decide +kernel, by decide +kernel, by decide +kernel⟩, by decide⟩
theorem cv_Ru_41 : mx_V "TailoredOrder$Rule" 41 m_Ru_sign 1 4 := ⟨Or.inl (mx_in 292 (by decide +kernel) (by decide +kernel)), ca_Ru_sign, ⟨(mx_in 294 (by decide +kernel) (by decide +kernel)), (mx_in 3 (by decide +kernel) (by decide +kernel))⟩, ⟨_, rfl, rfl⟩, by decide⟩
theorem cs_Ru_45 : mx_Sc "TailoredOrder$Rule" 45 m_To_isLetter 1 := ⟨Or.inr ⟨_, (mx_inn 296 (w := .methodLinkNest "TailoredOrder$Rule" 45 y_To_isLetter "TailoredOrder") (by decide +kernel) (by decide +kernel))⟩, ca_To_isLetter, (mx_in 260 (by decide +kernel) (by decide +kernel)), by decide⟩
theorem ca_Ru_begin : mx_cal m_Ru_begin 1 := ⟨(mx_in 300 (by decide +kernel) (by decide +kernel)), (mx_in 46 (by decide +kernel) (by decide +kernel)), by decide +kernel, ⟨by decide +kernel, by decide +kernel, by decide +kernel⟩, by decide⟩
theorem cv_Ru_48 : mx_V "TailoredOrder$Rule" 48 m_Ru_begin 1 4 := ⟨Or.inl (mx_in 297 (by decide +kernel) (by decide +kernel)), ca_Ru_begin, ⟨(mx_in 299 (by decide +kernel) (by decide +kernel)), (mx_in 4 (by decide +kernel) (by decide +kernel))⟩, ⟨_, rfl, rfl⟩, by decide⟩
theorem ca_Ru_goOn : mx_cal m_Ru_goOn 1 := ⟨(mx_in 304 (by decide +kernel) (by decide +kernel)), (mx_in 46 (by decide +kernel) (by decide +kernel)), by decide +kernel, ⟨by decide +kernel, by decide +kernel, by decide +kernel⟩, by decide⟩
theorem cv_Ru_51 : mx_V "TailoredOrder$Rule" 51 m_Ru_goOn 1 4 := ⟨Or.inl (mx_in 301 (by decide +kernel) (by decide +kernel)), ca_Ru_goOn, ⟨(mx_in 303 (by decide +kernel) (by decide +kernel)), (mx_in 5 (by decide +kernel) (by decide +kernel))⟩, ⟨_, rfl, rfl⟩, by decide⟩
theorem cs_Ru_54 : mx_Sc "TailoredOrder$Rule" 54 m_To_isMark 1 := ⟨Or.inr ⟨_, (mx_inn 305 (w := .methodLinkNest "TailoredOrder$Rule" 54 y_To_isMark "TailoredOrder") (by decide +kernel) (by decide +kernel))⟩, ca_To_isMark, (mx_in 266 (by decide +kernel) (by decide +kernel)), by decide⟩
theorem cs_Ru_57 : mx_Sc "TailoredOrder$Rule" 57 m_To_lengthOf 1 := ⟨Or.inr ⟨_, (mx_inn 306 (w := .methodLinkNest "TailoredOrder$Rule" 57 y_To_lengthOf "TailoredOrder") (by decide +kernel) (by decide +kernel))⟩, ca_To_lengthOf, (mx_in 307 (by decide +kernel) (by decide +kernel)), by decide⟩
theorem cs_Ru_61 : mx_Sc "TailoredOrder$Rule" 61 m_To_joined 3 := ⟨Or.inr ⟨_, (mx_inn 310 (w := .methodLinkNest "TailoredOrder$Rule" 61 y_To_joined "TailoredOrder") (by decide +kernel) (by decide +kernel))⟩, ca_To_joined, (mx_in 311 (by decide +kernel) (by decide +kernel)), by decide⟩
theorem ca_Ta_insert : mx_cal m_Ta_insert 3 := ⟨(mx_in 106 (by decide +kernel) (by decide +kernel)), (mx_in 45 (by decide +kernel) (by decide +kernel)), by decide +kernel, ⟨by decide +kernel, by decide +kernel, by decide +kernel⟩, by decide⟩
theorem cv_Ta_27 : mx_V "TailoredOrder$Table" 27 m_Ta_insert 3 5 := ⟨Or.inl (mx_in 103 (by decide +kernel) (by decide +kernel)), ca_Ta_insert, ⟨(mx_in 105 (by decide +kernel) (by decide +kernel)), (mx_in 0 (by decide +kernel) (by decide +kernel))⟩, ⟨_, rfl, rfl⟩, by decide⟩
theorem ca_Ta_weigh : mx_cal m_Ta_weigh 0 := ⟨(mx_in 110 (by decide +kernel) (by decide +kernel)), (mx_in 45 (by decide +kernel) (by decide +kernel)), by decide +kernel, ⟨by decide +kernel, by decide +kernel, by decide +kernel⟩, by decide⟩
theorem cv_Ta_31 : mx_V "TailoredOrder$Table" 31 m_Ta_weigh 0 5 := ⟨Or.inl (mx_in 107 (by decide +kernel) (by decide +kernel)), ca_Ta_weigh, ⟨(mx_in 109 (by decide +kernel) (by decide +kernel)), (mx_in 1 (by decide +kernel) (by decide +kernel))⟩, ⟨_, rfl, rfl⟩, by decide⟩
theorem cs_Ta_44 : mx_Sc "TailoredOrder$Table" 44 m_To_lengthOf 1 := ⟨Or.inr ⟨_, (mx_inn 412 (w := .methodLinkNest "TailoredOrder$Table" 44 y_To_lengthOf "TailoredOrder") (by decide +kernel) (by decide +kernel))⟩, ca_To_lengthOf, (mx_in 307 (by decide +kernel) (by decide +kernel)), by decide⟩
theorem ca_To_firstOf : mx_cal m_To_firstOf 2 := ⟨(mx_in 415 (by decide +kernel) (by decide +kernel)), (mx_in 42 (by decide +kernel) (by decide +kernel)), by decide +kernel, ⟨by decide +kernel, by decide +kernel, by decide +kernel⟩, by decide⟩
theorem cs_Ta_48 : mx_Sc "TailoredOrder$Table" 48 m_To_firstOf 2 := ⟨Or.inr ⟨_, (mx_inn 413 (w := .methodLinkNest "TailoredOrder$Table" 48 y_To_firstOf "TailoredOrder") (by decide +kernel) (by decide +kernel))⟩, ca_To_firstOf, (mx_in 414 (by decide +kernel) (by decide +kernel)), by decide⟩
theorem cv_Ta_55 : mx_V "TailoredOrder$Table" 55 m_Ta_find 1 5 := ⟨Or.inl (mx_in 324 (by decide +kernel) (by decide +kernel)), ca_Ta_find, ⟨(mx_in 325 (by decide +kernel) (by decide +kernel)), (mx_in 326 (by decide +kernel) (by decide +kernel))⟩, ⟨_, rfl, rfl⟩, by decide⟩
theorem ca_Ta_move : mx_cal m_Ta_move 3 := ⟨(mx_in 331 (by decide +kernel) (by decide +kernel)), (mx_in 45 (by decide +kernel) (by decide +kernel)), by decide +kernel, ⟨by decide +kernel, by decide +kernel, by decide +kernel⟩, by decide⟩
theorem cv_Ta_60 : mx_V "TailoredOrder$Table" 60 m_Ta_move 3 5 := ⟨Or.inl (mx_in 328 (by decide +kernel) (by decide +kernel)), ca_Ta_move, ⟨(mx_in 330 (by decide +kernel) (by decide +kernel)), (mx_in 6 (by decide +kernel) (by decide +kernel))⟩, ⟨_, rfl, rfl⟩, by decide⟩
theorem ca_Ta_takeOut : mx_cal m_Ta_takeOut 1 := ⟨(mx_in 335 (by decide +kernel) (by decide +kernel)), (mx_in 45 (by decide +kernel) (by decide +kernel)), by decide +kernel, ⟨by decide +kernel, by decide +kernel, by decide +kernel⟩, by decide⟩
theorem cv_Ta_64 : mx_V "TailoredOrder$Table" 64 m_Ta_takeOut 1 5 := ⟨Or.inl (mx_in 332 (by decide +kernel) (by decide +kernel)), ca_Ta_takeOut, ⟨(mx_in 334 (by decide +kernel) (by decide +kernel)), (mx_in 7 (by decide +kernel) (by decide +kernel))⟩, ⟨_, rfl, rfl⟩, by decide⟩
theorem ca_Ta_putIn : mx_cal m_Ta_putIn 3 := ⟨(mx_in 342 (by decide +kernel) (by decide +kernel)), (mx_in 45 (by decide +kernel) (by decide +kernel)), by decide +kernel, ⟨by decide +kernel, by decide +kernel, by decide +kernel⟩, by decide⟩
theorem cv_Ta_68 : mx_V "TailoredOrder$Table" 68 m_Ta_putIn 3 5 := ⟨Or.inl (mx_in 339 (by decide +kernel) (by decide +kernel)), ca_Ta_putIn, ⟨(mx_in 341 (by decide +kernel) (by decide +kernel)), (mx_in 8 (by decide +kernel) (by decide +kernel))⟩, ⟨_, rfl, rfl⟩, by decide⟩
theorem ca_To_init : mx_cal m_To_init 0 := ⟨(mx_in 56 (by decide +kernel) (by decide +kernel)), (mx_in 42 (by decide +kernel) (by decide +kernel)), by decide +kernel, ⟨by decide +kernel, by decide +kernel, by decide +kernel⟩, by decide⟩
theorem ci_La_9 : mx_Ic "TailoredOrderLaw" 9 m_To_init 0 := ⟨Or.inl (mx_in 54 (by decide +kernel) (by decide +kernel)), ca_To_init, (mx_in 55 (by decide +kernel) (by decide +kernel)), rfl, rfl, by decide⟩
theorem ca_Mo_init : mx_cal m_Mo_init 0 := ⟨(mx_in 513 (by decide +kernel) (by decide +kernel)), (mx_in 49 (by decide +kernel) (by decide +kernel)), by decide +kernel, ⟨by decide +kernel, by decide +kernel, by decide +kernel⟩, by decide⟩
theorem ci_La_12 : mx_Ic "TailoredOrderLaw" 12 m_Mo_init 0 := ⟨Or.inl (mx_in 511 (by decide +kernel) (by decide +kernel)), ca_Mo_init, (mx_in 512 (by decide +kernel) (by decide +kernel)), rfl, rfl, by decide⟩
theorem ca_To_type : mx_cal m_To_type 2 := ⟨(mx_in 258 (by decide +kernel) (by decide +kernel)), (mx_in 42 (by decide +kernel) (by decide +kernel)), by decide +kernel, ⟨by decide +kernel, by decide +kernel, by decide +kernel⟩, by decide⟩
theorem cv_La_13 : mx_V "TailoredOrderLaw" 13 m_To_type 2 6 := ⟨Or.inl (mx_in 255 (by decide +kernel) (by decide +kernel)), ca_To_type, ⟨(mx_in 256 (by decide +kernel) (by decide +kernel)), (mx_in 257 (by decide +kernel) (by decide +kernel))⟩, ⟨_, rfl, rfl⟩, by decide⟩
theorem ca_Mo_type : mx_cal m_Mo_type 2 := ⟨(mx_in 588 (by decide +kernel) (by decide +kernel)), (mx_in 49 (by decide +kernel) (by decide +kernel)), by decide +kernel, ⟨by decide +kernel, by decide +kernel, by decide +kernel⟩, by decide⟩
theorem cv_La_17 : mx_V "TailoredOrderLaw" 17 m_Mo_type 2 7 := ⟨Or.inl (mx_in 585 (by decide +kernel) (by decide +kernel)), ca_Mo_type, ⟨(mx_in 586 (by decide +kernel) (by decide +kernel)), (mx_in 587 (by decide +kernel) (by decide +kernel))⟩, ⟨_, rfl, rfl⟩, by decide⟩
theorem ca_To_wipe : mx_cal m_To_wipe 1 := ⟨(mx_in 275 (by decide +kernel) (by decide +kernel)), (mx_in 42 (by decide +kernel) (by decide +kernel)), by decide +kernel, ⟨by decide +kernel, by decide +kernel, by decide +kernel⟩, by decide⟩
theorem cv_La_18 : mx_V "TailoredOrderLaw" 18 m_To_wipe 1 6 := ⟨Or.inl (mx_in 272 (by decide +kernel) (by decide +kernel)), ca_To_wipe, ⟨(mx_in 273 (by decide +kernel) (by decide +kernel)), (mx_in 274 (by decide +kernel) (by decide +kernel))⟩, ⟨_, rfl, rfl⟩, by decide⟩
theorem ca_Mo_wipe : mx_cal m_Mo_wipe 1 := ⟨(mx_in 602 (by decide +kernel) (by decide +kernel)), (mx_in 49 (by decide +kernel) (by decide +kernel)), by decide +kernel, ⟨by decide +kernel, by decide +kernel, by decide +kernel⟩, by decide⟩
theorem cv_La_22 : mx_V "TailoredOrderLaw" 22 m_Mo_wipe 1 7 := ⟨Or.inl (mx_in 599 (by decide +kernel) (by decide +kernel)), ca_Mo_wipe, ⟨(mx_in 600 (by decide +kernel) (by decide +kernel)), (mx_in 601 (by decide +kernel) (by decide +kernel))⟩, ⟨_, rfl, rfl⟩, by decide⟩
theorem ca_To_tailor : mx_cal m_To_tailor 0 := ⟨(mx_in 283 (by decide +kernel) (by decide +kernel)), (mx_in 42 (by decide +kernel) (by decide +kernel)), by decide +kernel, ⟨by decide +kernel, by decide +kernel, by decide +kernel⟩, by decide⟩
theorem cv_La_23 : mx_V "TailoredOrderLaw" 23 m_To_tailor 0 6 := ⟨Or.inl (mx_in 280 (by decide +kernel) (by decide +kernel)), ca_To_tailor, ⟨(mx_in 281 (by decide +kernel) (by decide +kernel)), (mx_in 282 (by decide +kernel) (by decide +kernel))⟩, ⟨_, rfl, rfl⟩, by decide⟩
theorem ca_Mo_tailor : mx_cal m_Mo_tailor 0 := ⟨(mx_in 606 (by decide +kernel) (by decide +kernel)), (mx_in 49 (by decide +kernel) (by decide +kernel)), by decide +kernel, ⟨by decide +kernel, by decide +kernel, by decide +kernel⟩, by decide⟩
theorem cv_La_27 : mx_V "TailoredOrderLaw" 27 m_Mo_tailor 0 7 := ⟨Or.inl (mx_in 603 (by decide +kernel) (by decide +kernel)), ca_Mo_tailor, ⟨(mx_in 604 (by decide +kernel) (by decide +kernel)), (mx_in 605 (by decide +kernel) (by decide +kernel))⟩, ⟨_, rfl, rfl⟩, by decide⟩
theorem ca_To_entries : mx_cal m_To_entries 0 := ⟨(mx_in 346 (by decide +kernel) (by decide +kernel)), (mx_in 42 (by decide +kernel) (by decide +kernel)), by decide +kernel, ⟨by decide +kernel, by decide +kernel, by decide +kernel⟩, by decide⟩
theorem cv_La_28 : mx_V "TailoredOrderLaw" 28 m_To_entries 0 6 := ⟨Or.inl (mx_in 343 (by decide +kernel) (by decide +kernel)), ca_To_entries, ⟨(mx_in 344 (by decide +kernel) (by decide +kernel)), (mx_in 345 (by decide +kernel) (by decide +kernel))⟩, ⟨_, rfl, rfl⟩, by decide⟩
theorem ca_Mo_entries : mx_cal m_Mo_entries 0 := ⟨(mx_in 637 (by decide +kernel) (by decide +kernel)), (mx_in 49 (by decide +kernel) (by decide +kernel)), by decide +kernel, ⟨by decide +kernel, by decide +kernel, by decide +kernel⟩, by decide⟩
theorem cv_La_31 : mx_V "TailoredOrderLaw" 31 m_Mo_entries 0 7 := ⟨Or.inl (mx_in 634 (by decide +kernel) (by decide +kernel)), ca_Mo_entries, ⟨(mx_in 635 (by decide +kernel) (by decide +kernel)), (mx_in 636 (by decide +kernel) (by decide +kernel))⟩, ⟨_, rfl, rfl⟩, by decide⟩
theorem ca_To_entry : mx_cal m_To_entry 2 := ⟨(mx_in 350 (by decide +kernel) (by decide +kernel)), (mx_in 42 (by decide +kernel) (by decide +kernel)), by decide +kernel, ⟨by decide +kernel, by decide +kernel, by decide +kernel⟩, by decide⟩
theorem cv_La_32 : mx_V "TailoredOrderLaw" 32 m_To_entry 2 6 := ⟨Or.inl (mx_in 347 (by decide +kernel) (by decide +kernel)), ca_To_entry, ⟨(mx_in 348 (by decide +kernel) (by decide +kernel)), (mx_in 349 (by decide +kernel) (by decide +kernel))⟩, ⟨_, rfl, rfl⟩, by decide⟩
theorem ca_Mo_entry : mx_cal m_Mo_entry 2 := ⟨(mx_in 641 (by decide +kernel) (by decide +kernel)), (mx_in 49 (by decide +kernel) (by decide +kernel)), by decide +kernel, ⟨by decide +kernel, by decide +kernel, by decide +kernel⟩, by decide⟩
theorem cv_La_36 : mx_V "TailoredOrderLaw" 36 m_Mo_entry 2 7 := ⟨Or.inl (mx_in 638 (by decide +kernel) (by decide +kernel)), ca_Mo_entry, ⟨(mx_in 639 (by decide +kernel) (by decide +kernel)), (mx_in 640 (by decide +kernel) (by decide +kernel))⟩, ⟨_, rfl, rfl⟩, by decide⟩
theorem ca_To_form : mx_cal m_To_form 3 := ⟨(mx_in 357 (by decide +kernel) (by decide +kernel)), (mx_in 42 (by decide +kernel) (by decide +kernel)), by decide +kernel, ⟨by decide +kernel, by decide +kernel, by decide +kernel⟩, by decide⟩
theorem cv_La_37 : mx_V "TailoredOrderLaw" 37 m_To_form 3 6 := ⟨Or.inl (mx_in 354 (by decide +kernel) (by decide +kernel)), ca_To_form, ⟨(mx_in 355 (by decide +kernel) (by decide +kernel)), (mx_in 356 (by decide +kernel) (by decide +kernel))⟩, ⟨_, rfl, rfl⟩, by decide⟩
theorem ca_Mo_form : mx_cal m_Mo_form 3 := ⟨(mx_in 649 (by decide +kernel) (by decide +kernel)), (mx_in 49 (by decide +kernel) (by decide +kernel)), by decide +kernel, ⟨by decide +kernel, by decide +kernel, by decide +kernel⟩, by decide⟩
theorem cv_La_41 : mx_V "TailoredOrderLaw" 41 m_Mo_form 3 7 := ⟨Or.inl (mx_in 646 (by decide +kernel) (by decide +kernel)), ca_Mo_form, ⟨(mx_in 647 (by decide +kernel) (by decide +kernel)), (mx_in 648 (by decide +kernel) (by decide +kernel))⟩, ⟨_, rfl, rfl⟩, by decide⟩
theorem ca_To_keyLength : mx_cal m_To_keyLength 1 := ⟨(mx_in 365 (by decide +kernel) (by decide +kernel)), (mx_in 42 (by decide +kernel) (by decide +kernel)), by decide +kernel, ⟨by decide +kernel, by decide +kernel, by decide +kernel⟩, by decide⟩
theorem cv_La_42 : mx_V "TailoredOrderLaw" 42 m_To_keyLength 1 6 := ⟨Or.inl (mx_in 362 (by decide +kernel) (by decide +kernel)), ca_To_keyLength, ⟨(mx_in 363 (by decide +kernel) (by decide +kernel)), (mx_in 364 (by decide +kernel) (by decide +kernel))⟩, ⟨_, rfl, rfl⟩, by decide⟩
theorem ca_Mo_keyLength : mx_cal m_Mo_keyLength 1 := ⟨(mx_in 653 (by decide +kernel) (by decide +kernel)), (mx_in 49 (by decide +kernel) (by decide +kernel)), by decide +kernel, ⟨by decide +kernel, by decide +kernel, by decide +kernel⟩, by decide⟩
theorem cv_La_45 : mx_V "TailoredOrderLaw" 45 m_Mo_keyLength 1 7 := ⟨Or.inl (mx_in 650 (by decide +kernel) (by decide +kernel)), ca_Mo_keyLength, ⟨(mx_in 651 (by decide +kernel) (by decide +kernel)), (mx_in 652 (by decide +kernel) (by decide +kernel))⟩, ⟨_, rfl, rfl⟩, by decide⟩
theorem ca_To_keyAt : mx_cal m_To_keyAt 2 := ⟨(mx_in 443 (by decide +kernel) (by decide +kernel)), (mx_in 42 (by decide +kernel) (by decide +kernel)), by decide +kernel, ⟨by decide +kernel, by decide +kernel, by decide +kernel⟩, by decide⟩
theorem cv_La_46 : mx_V "TailoredOrderLaw" 46 m_To_keyAt 2 6 := ⟨Or.inl (mx_in 440 (by decide +kernel) (by decide +kernel)), ca_To_keyAt, ⟨(mx_in 441 (by decide +kernel) (by decide +kernel)), (mx_in 442 (by decide +kernel) (by decide +kernel))⟩, ⟨_, rfl, rfl⟩, by decide⟩
theorem ca_Mo_keyAt : mx_cal m_Mo_keyAt 2 := ⟨(mx_in 696 (by decide +kernel) (by decide +kernel)), (mx_in 49 (by decide +kernel) (by decide +kernel)), by decide +kernel, ⟨by decide +kernel, by decide +kernel, by decide +kernel⟩, by decide⟩
theorem cv_La_49 : mx_V "TailoredOrderLaw" 49 m_Mo_keyAt 2 7 := ⟨Or.inl (mx_in 693 (by decide +kernel) (by decide +kernel)), ca_Mo_keyAt, ⟨(mx_in 694 (by decide +kernel) (by decide +kernel)), (mx_in 695 (by decide +kernel) (by decide +kernel))⟩, ⟨_, rfl, rfl⟩, by decide⟩
theorem ca_To_compare : mx_cal m_To_compare 0 := ⟨(mx_in 447 (by decide +kernel) (by decide +kernel)), (mx_in 42 (by decide +kernel) (by decide +kernel)), by decide +kernel, ⟨by decide +kernel, by decide +kernel, by decide +kernel⟩, by decide⟩
theorem cv_La_50 : mx_V "TailoredOrderLaw" 50 m_To_compare 0 6 := ⟨Or.inl (mx_in 444 (by decide +kernel) (by decide +kernel)), ca_To_compare, ⟨(mx_in 445 (by decide +kernel) (by decide +kernel)), (mx_in 446 (by decide +kernel) (by decide +kernel))⟩, ⟨_, rfl, rfl⟩, by decide⟩
theorem ca_Mo_compare : mx_cal m_Mo_compare 0 := ⟨(mx_in 700 (by decide +kernel) (by decide +kernel)), (mx_in 49 (by decide +kernel) (by decide +kernel)), by decide +kernel, ⟨by decide +kernel, by decide +kernel, by decide +kernel⟩, by decide⟩
theorem cv_La_53 : mx_V "TailoredOrderLaw" 53 m_Mo_compare 0 7 := ⟨Or.inl (mx_in 697 (by decide +kernel) (by decide +kernel)), ca_Mo_compare, ⟨(mx_in 698 (by decide +kernel) (by decide +kernel)), (mx_in 699 (by decide +kernel) (by decide +kernel))⟩, ⟨_, rfl, rfl⟩, by decide⟩
theorem ca_To_file : mx_cal m_To_file 1 := ⟨(mx_in 456 (by decide +kernel) (by decide +kernel)), (mx_in 42 (by decide +kernel) (by decide +kernel)), by decide +kernel, ⟨by decide +kernel, by decide +kernel, by decide +kernel⟩, by decide⟩
theorem cv_La_54 : mx_V "TailoredOrderLaw" 54 m_To_file 1 6 := ⟨Or.inl (mx_in 453 (by decide +kernel) (by decide +kernel)), ca_To_file, ⟨(mx_in 454 (by decide +kernel) (by decide +kernel)), (mx_in 455 (by decide +kernel) (by decide +kernel))⟩, ⟨_, rfl, rfl⟩, by decide⟩
theorem ca_Mo_file : mx_cal m_Mo_file 1 := ⟨(mx_in 708 (by decide +kernel) (by decide +kernel)), (mx_in 49 (by decide +kernel) (by decide +kernel)), by decide +kernel, ⟨by decide +kernel, by decide +kernel, by decide +kernel⟩, by decide⟩
theorem cv_La_57 : mx_V "TailoredOrderLaw" 57 m_Mo_file 1 7 := ⟨Or.inl (mx_in 705 (by decide +kernel) (by decide +kernel)), ca_Mo_file, ⟨(mx_in 706 (by decide +kernel) (by decide +kernel)), (mx_in 707 (by decide +kernel) (by decide +kernel))⟩, ⟨_, rfl, rfl⟩, by decide⟩
theorem ca_To_unfile : mx_cal m_To_unfile 1 := ⟨(mx_in 470 (by decide +kernel) (by decide +kernel)), (mx_in 42 (by decide +kernel) (by decide +kernel)), by decide +kernel, ⟨by decide +kernel, by decide +kernel, by decide +kernel⟩, by decide⟩
theorem cv_La_58 : mx_V "TailoredOrderLaw" 58 m_To_unfile 1 6 := ⟨Or.inl (mx_in 467 (by decide +kernel) (by decide +kernel)), ca_To_unfile, ⟨(mx_in 468 (by decide +kernel) (by decide +kernel)), (mx_in 469 (by decide +kernel) (by decide +kernel))⟩, ⟨_, rfl, rfl⟩, by decide⟩
theorem ca_Mo_unfile : mx_cal m_Mo_unfile 1 := ⟨(mx_in 712 (by decide +kernel) (by decide +kernel)), (mx_in 49 (by decide +kernel) (by decide +kernel)), by decide +kernel, ⟨by decide +kernel, by decide +kernel, by decide +kernel⟩, by decide⟩
theorem cv_La_62 : mx_V "TailoredOrderLaw" 62 m_Mo_unfile 1 7 := ⟨Or.inl (mx_in 709 (by decide +kernel) (by decide +kernel)), ca_Mo_unfile, ⟨(mx_in 710 (by decide +kernel) (by decide +kernel)), (mx_in 711 (by decide +kernel) (by decide +kernel))⟩, ⟨_, rfl, rfl⟩, by decide⟩
theorem ca_To_filed : mx_cal m_To_filed 0 := ⟨(mx_in 482 (by decide +kernel) (by decide +kernel)), (mx_in 42 (by decide +kernel) (by decide +kernel)), by decide +kernel, ⟨by decide +kernel, by decide +kernel, by decide +kernel⟩, by decide⟩
theorem cv_La_63 : mx_V "TailoredOrderLaw" 63 m_To_filed 0 6 := ⟨Or.inl (mx_in 479 (by decide +kernel) (by decide +kernel)), ca_To_filed, ⟨(mx_in 480 (by decide +kernel) (by decide +kernel)), (mx_in 481 (by decide +kernel) (by decide +kernel))⟩, ⟨_, rfl, rfl⟩, by decide⟩
theorem ca_Mo_filed : mx_cal m_Mo_filed 0 := ⟨(mx_in 716 (by decide +kernel) (by decide +kernel)), (mx_in 49 (by decide +kernel) (by decide +kernel)), by decide +kernel, ⟨by decide +kernel, by decide +kernel, by decide +kernel⟩, by decide⟩
theorem cv_La_66 : mx_V "TailoredOrderLaw" 66 m_Mo_filed 0 7 := ⟨Or.inl (mx_in 713 (by decide +kernel) (by decide +kernel)), ca_Mo_filed, ⟨(mx_in 714 (by decide +kernel) (by decide +kernel)), (mx_in 715 (by decide +kernel) (by decide +kernel))⟩, ⟨_, rfl, rfl⟩, by decide⟩
theorem ca_To_inOrder : mx_cal m_To_inOrder 1 := ⟨(mx_in 486 (by decide +kernel) (by decide +kernel)), (mx_in 42 (by decide +kernel) (by decide +kernel)), by decide +kernel, ⟨by decide +kernel, by decide +kernel, by decide +kernel⟩, by decide⟩
theorem cv_La_67 : mx_V "TailoredOrderLaw" 67 m_To_inOrder 1 6 := ⟨Or.inl (mx_in 483 (by decide +kernel) (by decide +kernel)), ca_To_inOrder, ⟨(mx_in 484 (by decide +kernel) (by decide +kernel)), (mx_in 485 (by decide +kernel) (by decide +kernel))⟩, ⟨_, rfl, rfl⟩, by decide⟩
theorem ca_Mo_inOrder : mx_cal m_Mo_inOrder 1 := ⟨(mx_in 720 (by decide +kernel) (by decide +kernel)), (mx_in 49 (by decide +kernel) (by decide +kernel)), by decide +kernel, ⟨by decide +kernel, by decide +kernel, by decide +kernel⟩, by decide⟩
theorem cv_La_70 : mx_V "TailoredOrderLaw" 70 m_Mo_inOrder 1 7 := ⟨Or.inl (mx_in 717 (by decide +kernel) (by decide +kernel)), ca_Mo_inOrder, ⟨(mx_in 718 (by decide +kernel) (by decide +kernel)), (mx_in 719 (by decide +kernel) (by decide +kernel))⟩, ⟨_, rfl, rfl⟩, by decide⟩
theorem ca_To_below : mx_cal m_To_below 1 := ⟨(mx_in 507 (by decide +kernel) (by decide +kernel)), (mx_in 42 (by decide +kernel) (by decide +kernel)), by decide +kernel, ⟨by decide +kernel, by decide +kernel, by decide +kernel⟩, by decide⟩
theorem cv_La_71 : mx_V "TailoredOrderLaw" 71 m_To_below 1 6 := ⟨Or.inl (mx_in 504 (by decide +kernel) (by decide +kernel)), ca_To_below, ⟨(mx_in 505 (by decide +kernel) (by decide +kernel)), (mx_in 506 (by decide +kernel) (by decide +kernel))⟩, ⟨_, rfl, rfl⟩, by decide⟩
theorem ca_Mo_below : mx_cal m_Mo_below 1 := ⟨(mx_in 724 (by decide +kernel) (by decide +kernel)), (mx_in 49 (by decide +kernel) (by decide +kernel)), by decide +kernel, ⟨by decide +kernel, by decide +kernel, by decide +kernel⟩, by decide⟩
theorem cv_La_74 : mx_V "TailoredOrderLaw" 74 m_Mo_below 1 7 := ⟨Or.inl (mx_in 721 (by decide +kernel) (by decide +kernel)), ca_Mo_below, ⟨(mx_in 722 (by decide +kernel) (by decide +kernel)), (mx_in 723 (by decide +kernel) (by decide +kernel))⟩, ⟨_, rfl, rfl⟩, by decide⟩
theorem ca_Mo_isLetter : mx_cal m_Mo_isLetter 1 := ⟨(mx_in 591 (by decide +kernel) (by decide +kernel)), (mx_in 49 (by decide +kernel) (by decide +kernel)), by decide +kernel, ⟨by decide +kernel, by decide +kernel, by decide +kernel⟩, by decide⟩
theorem cs_Mo_56 : mx_Sc "TailoredOrderModel" 56 m_Mo_isLetter 1 := ⟨Or.inl (mx_in 589 (by decide +kernel) (by decide +kernel)), ca_Mo_isLetter, (mx_in 590 (by decide +kernel) (by decide +kernel)), by decide⟩
theorem ca_Mo_isMark : mx_cal m_Mo_isMark 1 := ⟨(mx_in 594 (by decide +kernel) (by decide +kernel)), (mx_in 49 (by decide +kernel) (by decide +kernel)), by decide +kernel, ⟨by decide +kernel, by decide +kernel, by decide +kernel⟩, by decide⟩
theorem cs_Mo_60 : mx_Sc "TailoredOrderModel" 60 m_Mo_isMark 1 := ⟨Or.inl (mx_in 592 (by decide +kernel) (by decide +kernel)), ca_Mo_isMark, (mx_in 593 (by decide +kernel) (by decide +kernel)), by decide⟩
theorem ca_Mo_isLine : mx_cal m_Mo_isLine 1 := ⟨(mx_in 598 (by decide +kernel) (by decide +kernel)), (mx_in 49 (by decide +kernel) (by decide +kernel)), by decide +kernel, ⟨by decide +kernel, by decide +kernel, by decide +kernel⟩, by decide⟩
theorem cv_Mo_63 : mx_V "TailoredOrderModel" 63 m_Mo_isLine 1 7 := ⟨Or.inl (mx_in 595 (by decide +kernel) (by decide +kernel)), ca_Mo_isLine, ⟨(mx_in 597 (by decide +kernel) (by decide +kernel)), (mx_in 23 (by decide +kernel) (by decide +kernel))⟩, ⟨_, rfl, rfl⟩, by decide⟩
theorem ca_Mo_after : mx_cal m_Mo_after 2 := ⟨(mx_in 613 (by decide +kernel) (by decide +kernel)), (mx_in 49 (by decide +kernel) (by decide +kernel)), by decide +kernel, ⟨by decide +kernel, by decide +kernel, by decide +kernel⟩, by decide⟩
theorem cs_Mo_66 : mx_Sc "TailoredOrderModel" 66 m_Mo_after 2 := ⟨Or.inl (mx_in 611 (by decide +kernel) (by decide +kernel)), ca_Mo_after, (mx_in 612 (by decide +kernel) (by decide +kernel)), by decide⟩
theorem ca_Mo_findNew : mx_cal m_Mo_findNew 1 := ⟨(mx_in 621 (by decide +kernel) (by decide +kernel)), (mx_in 49 (by decide +kernel) (by decide +kernel)), by decide +kernel, ⟨by decide +kernel, by decide +kernel, by decide +kernel⟩, by decide⟩
theorem cv_Mo_73 : mx_V "TailoredOrderModel" 73 m_Mo_findNew 1 7 := ⟨Or.inl (mx_in 618 (by decide +kernel) (by decide +kernel)), ca_Mo_findNew, ⟨(mx_in 620 (by decide +kernel) (by decide +kernel)), (mx_in 26 (by decide +kernel) (by decide +kernel))⟩, ⟨_, rfl, rfl⟩, by decide⟩
theorem ca_Mo_takeOut : mx_cal m_Mo_takeOut 1 := ⟨(mx_in 629 (by decide +kernel) (by decide +kernel)), (mx_in 49 (by decide +kernel) (by decide +kernel)), by decide +kernel, ⟨by decide +kernel, by decide +kernel, by decide +kernel⟩, by decide⟩
theorem cv_Mo_77 : mx_V "TailoredOrderModel" 77 m_Mo_takeOut 1 7 := ⟨Or.inl (mx_in 626 (by decide +kernel) (by decide +kernel)), ca_Mo_takeOut, ⟨(mx_in 628 (by decide +kernel) (by decide +kernel)), (mx_in 28 (by decide +kernel) (by decide +kernel))⟩, ⟨_, rfl, rfl⟩, by decide⟩
theorem ca_Mo_putIn : mx_cal m_Mo_putIn 3 := ⟨(mx_in 633 (by decide +kernel) (by decide +kernel)), (mx_in 49 (by decide +kernel) (by decide +kernel)), by decide +kernel, ⟨by decide +kernel, by decide +kernel, by decide +kernel⟩, by decide⟩
theorem cv_Mo_81 : mx_V "TailoredOrderModel" 81 m_Mo_putIn 3 7 := ⟨Or.inl (mx_in 630 (by decide +kernel) (by decide +kernel)), ca_Mo_putIn, ⟨(mx_in 632 (by decide +kernel) (by decide +kernel)), (mx_in 29 (by decide +kernel) (by decide +kernel))⟩, ⟨_, rfl, rfl⟩, by decide⟩
theorem ca_Mo_relate : mx_cal m_Mo_relate 3 := ⟨(mx_in 625 (by decide +kernel) (by decide +kernel)), (mx_in 49 (by decide +kernel) (by decide +kernel)), by decide +kernel, ⟨by decide +kernel, by decide +kernel, by decide +kernel⟩, by decide⟩
theorem cv_Mo_85 : mx_V "TailoredOrderModel" 85 m_Mo_relate 3 7 := ⟨Or.inl (mx_in 622 (by decide +kernel) (by decide +kernel)), ca_Mo_relate, ⟨(mx_in 624 (by decide +kernel) (by decide +kernel)), (mx_in 27 (by decide +kernel) (by decide +kernel))⟩, ⟨_, rfl, rfl⟩, by decide⟩
theorem ca_Mo_fault : mx_cal m_Mo_fault 0 := ⟨(mx_in 610 (by decide +kernel) (by decide +kernel)), (mx_in 49 (by decide +kernel) (by decide +kernel)), by decide +kernel, ⟨by decide +kernel, by decide +kernel, by decide +kernel⟩, by decide⟩
theorem cv_Mo_89 : mx_V "TailoredOrderModel" 89 m_Mo_fault 0 7 := ⟨Or.inl (mx_in 607 (by decide +kernel) (by decide +kernel)), ca_Mo_fault, ⟨(mx_in 609 (by decide +kernel) (by decide +kernel)), (mx_in 24 (by decide +kernel) (by decide +kernel))⟩, ⟨_, rfl, rfl⟩, by decide⟩
theorem ca_Mo_done : mx_cal m_Mo_done 0 := ⟨(mx_in 617 (by decide +kernel) (by decide +kernel)), (mx_in 49 (by decide +kernel) (by decide +kernel)), by decide +kernel, ⟨by decide +kernel, by decide +kernel, by decide +kernel⟩, by decide⟩
theorem cv_Mo_93 : mx_V "TailoredOrderModel" 93 m_Mo_done 0 7 := ⟨Or.inl (mx_in 614 (by decide +kernel) (by decide +kernel)), ca_Mo_done, ⟨(mx_in 616 (by decide +kernel) (by decide +kernel)), (mx_in 25 (by decide +kernel) (by decide +kernel))⟩, ⟨_, rfl, rfl⟩, by decide⟩
theorem ca_Mo_weight : mx_cal m_Mo_weight 2 := ⟨(mx_in 645 (by decide +kernel) (by decide +kernel)), (mx_in 49 (by decide +kernel) (by decide +kernel)), by decide +kernel, ⟨by decide +kernel, by decide +kernel, by decide +kernel⟩, by decide⟩
theorem cv_Mo_96 : mx_V "TailoredOrderModel" 96 m_Mo_weight 2 7 := ⟨Or.inl (mx_in 642 (by decide +kernel) (by decide +kernel)), ca_Mo_weight, ⟨(mx_in 644 (by decide +kernel) (by decide +kernel)), (mx_in 30 (by decide +kernel) (by decide +kernel))⟩, ⟨_, rfl, rfl⟩, by decide⟩
theorem ca_Mo_classOf : mx_cal m_Mo_classOf 1 := ⟨(mx_in 668 (by decide +kernel) (by decide +kernel)), (mx_in 49 (by decide +kernel) (by decide +kernel)), by decide +kernel, ⟨by decide +kernel, by decide +kernel, by decide +kernel⟩, by decide⟩
theorem cs_Mo_102 : mx_Sc "TailoredOrderModel" 102 m_Mo_classOf 1 := ⟨Or.inl (mx_in 666 (by decide +kernel) (by decide +kernel)), ca_Mo_classOf, (mx_in 667 (by decide +kernel) (by decide +kernel)), by decide⟩
theorem ca_Mo_element : mx_cal m_Mo_element 4 := ⟨(mx_in 676 (by decide +kernel) (by decide +kernel)), (mx_in 49 (by decide +kernel) (by decide +kernel)), by decide +kernel, ⟨by decide +kernel, by decide +kernel, by decide +kernel⟩, by decide⟩
theorem cv_Mo_115 : mx_V "TailoredOrderModel" 115 m_Mo_element 4 7 := ⟨Or.inl (mx_in 673 (by decide +kernel) (by decide +kernel)), ca_Mo_element, ⟨(mx_in 675 (by decide +kernel) (by decide +kernel)), (mx_in 35 (by decide +kernel) (by decide +kernel))⟩, ⟨_, rfl, rfl⟩, by decide⟩
theorem ca_Mo_begins : mx_cal m_Mo_begins 1 := ⟨(mx_in 688 (by decide +kernel) (by decide +kernel)), (mx_in 49 (by decide +kernel) (by decide +kernel)), by decide +kernel, ⟨by decide +kernel, by decide +kernel, by decide +kernel⟩, by decide⟩
theorem cv_Mo_119 : mx_V "TailoredOrderModel" 119 m_Mo_begins 1 7 := ⟨Or.inl (mx_in 685 (by decide +kernel) (by decide +kernel)), ca_Mo_begins, ⟨(mx_in 687 (by decide +kernel) (by decide +kernel)), (mx_in 38 (by decide +kernel) (by decide +kernel))⟩, ⟨_, rfl, rfl⟩, by decide⟩
theorem ca_Mo_find : mx_cal m_Mo_find 1 := ⟨(mx_in 692 (by decide +kernel) (by decide +kernel)), (mx_in 49 (by decide +kernel) (by decide +kernel)), by decide +kernel, ⟨by decide +kernel, by decide +kernel, by decide +kernel⟩, by decide⟩
theorem cv_Mo_122 : mx_V "TailoredOrderModel" 122 m_Mo_find 1 7 := ⟨Or.inl (mx_in 689 (by decide +kernel) (by decide +kernel)), ca_Mo_find, ⟨(mx_in 691 (by decide +kernel) (by decide +kernel)), (mx_in 39 (by decide +kernel) (by decide +kernel))⟩, ⟨_, rfl, rfl⟩, by decide⟩
theorem ca_Mo_remove : mx_cal m_Mo_remove 1 := ⟨(mx_in 680 (by decide +kernel) (by decide +kernel)), (mx_in 49 (by decide +kernel) (by decide +kernel)), by decide +kernel, ⟨by decide +kernel, by decide +kernel, by decide +kernel⟩, by decide⟩
theorem cv_Mo_125 : mx_V "TailoredOrderModel" 125 m_Mo_remove 1 7 := ⟨Or.inl (mx_in 677 (by decide +kernel) (by decide +kernel)), ca_Mo_remove, ⟨(mx_in 679 (by decide +kernel) (by decide +kernel)), (mx_in 36 (by decide +kernel) (by decide +kernel))⟩, ⟨_, rfl, rfl⟩, by decide⟩
theorem ca_Mo_settle : mx_cal m_Mo_settle 0 := ⟨(mx_in 665 (by decide +kernel) (by decide +kernel)), (mx_in 49 (by decide +kernel) (by decide +kernel)), by decide +kernel, ⟨by decide +kernel, by decide +kernel, by decide +kernel⟩, by decide⟩
theorem cv_Mo_128 : mx_V "TailoredOrderModel" 128 m_Mo_settle 0 7 := ⟨Or.inl (mx_in 662 (by decide +kernel) (by decide +kernel)), ca_Mo_settle, ⟨(mx_in 664 (by decide +kernel) (by decide +kernel)), (mx_in 33 (by decide +kernel) (by decide +kernel))⟩, ⟨_, rfl, rfl⟩, by decide⟩
theorem ca_Mo_markElement : mx_cal m_Mo_markElement 1 := ⟨(mx_in 672 (by decide +kernel) (by decide +kernel)), (mx_in 49 (by decide +kernel) (by decide +kernel)), by decide +kernel, ⟨by decide +kernel, by decide +kernel, by decide +kernel⟩, by decide⟩
theorem cv_Mo_131 : mx_V "TailoredOrderModel" 131 m_Mo_markElement 1 7 := ⟨Or.inl (mx_in 669 (by decide +kernel) (by decide +kernel)), ca_Mo_markElement, ⟨(mx_in 671 (by decide +kernel) (by decide +kernel)), (mx_in 34 (by decide +kernel) (by decide +kernel))⟩, ⟨_, rfl, rfl⟩, by decide⟩
theorem ca_Mo_entryElement : mx_cal m_Mo_entryElement 0 := ⟨(mx_in 684 (by decide +kernel) (by decide +kernel)), (mx_in 49 (by decide +kernel) (by decide +kernel)), by decide +kernel, ⟨by decide +kernel, by decide +kernel, by decide +kernel⟩, by decide⟩
theorem cv_Mo_134 : mx_V "TailoredOrderModel" 134 m_Mo_entryElement 0 7 := ⟨Or.inl (mx_in 681 (by decide +kernel) (by decide +kernel)), ca_Mo_entryElement, ⟨(mx_in 683 (by decide +kernel) (by decide +kernel)), (mx_in 37 (by decide +kernel) (by decide +kernel))⟩, ⟨_, rfl, rfl⟩, by decide⟩
theorem ca_Mo_findElements : mx_cal m_Mo_findElements 1 := ⟨(mx_in 661 (by decide +kernel) (by decide +kernel)), (mx_in 49 (by decide +kernel) (by decide +kernel)), by decide +kernel, ⟨by decide +kernel, by decide +kernel, by decide +kernel⟩, by decide⟩
theorem cv_Mo_137 : mx_V "TailoredOrderModel" 137 m_Mo_findElements 1 7 := ⟨Or.inl (mx_in 658 (by decide +kernel) (by decide +kernel)), ca_Mo_findElements, ⟨(mx_in 660 (by decide +kernel) (by decide +kernel)), (mx_in 32 (by decide +kernel) (by decide +kernel))⟩, ⟨_, rfl, rfl⟩, by decide⟩
theorem ca_Mo_write : mx_cal m_Mo_write 1 := ⟨(mx_in 657 (by decide +kernel) (by decide +kernel)), (mx_in 49 (by decide +kernel) (by decide +kernel)), by decide +kernel, ⟨by decide +kernel, by decide +kernel, by decide +kernel⟩, by decide⟩
theorem cv_Mo_143 : mx_V "TailoredOrderModel" 143 m_Mo_write 1 7 := ⟨Or.inl (mx_in 654 (by decide +kernel) (by decide +kernel)), ca_Mo_write, ⟨(mx_in 656 (by decide +kernel) (by decide +kernel)), (mx_in 31 (by decide +kernel) (by decide +kernel))⟩, ⟨_, rfl, rfl⟩, by decide⟩
theorem ca_Mo_order : mx_cal m_Mo_order 2 := ⟨(mx_in 704 (by decide +kernel) (by decide +kernel)), (mx_in 49 (by decide +kernel) (by decide +kernel)), by decide +kernel, ⟨by decide +kernel, by decide +kernel, by decide +kernel⟩, by decide⟩
theorem cv_Mo_146 : mx_V "TailoredOrderModel" 146 m_Mo_order 2 7 := ⟨Or.inl (mx_in 701 (by decide +kernel) (by decide +kernel)), ca_Mo_order, ⟨(mx_in 703 (by decide +kernel) (by decide +kernel)), (mx_in 40 (by decide +kernel) (by decide +kernel))⟩, ⟨_, rfl, rfl⟩, by decide⟩
end
