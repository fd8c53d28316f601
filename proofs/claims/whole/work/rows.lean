section
-- ===== PART A: goes FIRST, ahead of the names: the tables' words, and 'selects' of the private methods out of them =====
/-- a private method of a class that the tables say can be made, by its rows of tables_1 -/
def lw_okq (q : MethodName × Nat) : Prop := (q.1.cls ≠ "java/lang/invoke/MethodHandle" ∧ q.1.cls ≠ "java/lang/invoke/VarHandle") ∧ Cond.instantiable q.1.cls q.2 ∈ tables_1 ∧ Cond.privateMethod q.1 ∈ tables_1 ∧ Cond.instanceMethod q.1 ∈ tables_1
theorem lw_p0 : lw_okq (⟨"PortableFiles$Reading", "begin", "()V"⟩, 16) := ⟨⟨by decide +kernel, by decide +kernel⟩, List.mem_of_getElem? (i := 182) (by decide +kernel), List.mem_of_getElem? (i := 266) (by decide +kernel), List.mem_of_getElem? (i := 267) (by decide +kernel)⟩
theorem lw_p1 : lw_okq (⟨"PortableFiles$Reading", "readChunk", "()I"⟩, 16) := ⟨⟨by decide +kernel, by decide +kernel⟩, List.mem_of_getElem? (i := 182) (by decide +kernel), List.mem_of_getElem? (i := 288) (by decide +kernel), List.mem_of_getElem? (i := 289) (by decide +kernel)⟩
theorem lw_p2 : lw_okq (⟨"PortableFiles$Reading", "frameFault", "()I"⟩, 16) := ⟨⟨by decide +kernel, by decide +kernel⟩, List.mem_of_getElem? (i := 182) (by decide +kernel), List.mem_of_getElem? (i := 292) (by decide +kernel), List.mem_of_getElem? (i := 293) (by decide +kernel)⟩
theorem lw_p3 : lw_okq (⟨"PortableFiles$Reading", "leaveOut", "()I"⟩, 16) := ⟨⟨by decide +kernel, by decide +kernel⟩, List.mem_of_getElem? (i := 182) (by decide +kernel), List.mem_of_getElem? (i := 333) (by decide +kernel), List.mem_of_getElem? (i := 334) (by decide +kernel)⟩
theorem lw_p4 : lw_okq (⟨"PortableFiles$Reading", "noteRowsEnd", "()V"⟩, 16) := ⟨⟨by decide +kernel, by decide +kernel⟩, List.mem_of_getElem? (i := 182) (by decide +kernel), List.mem_of_getElem? (i := 340) (by decide +kernel), List.mem_of_getElem? (i := 341) (by decide +kernel)⟩
theorem lw_p5 : lw_okq (⟨"PortableFiles$Reading", "orderIsWrong", "()Z"⟩, 16) := ⟨⟨by decide +kernel, by decide +kernel⟩, List.mem_of_getElem? (i := 182) (by decide +kernel), List.mem_of_getElem? (i := 345) (by decide +kernel), List.mem_of_getElem? (i := 346) (by decide +kernel)⟩
theorem lw_p6 : lw_okq (⟨"PortableFiles$Reading", "isGreyKind", "()Z"⟩, 16) := ⟨⟨by decide +kernel, by decide +kernel⟩, List.mem_of_getElem? (i := 182) (by decide +kernel), List.mem_of_getElem? (i := 361) (by decide +kernel), List.mem_of_getElem? (i := 362) (by decide +kernel)⟩
theorem lw_p7 : lw_okq (⟨"PortableFiles$Reading", "isUnknown", "()Z"⟩, 16) := ⟨⟨by decide +kernel, by decide +kernel⟩, List.mem_of_getElem? (i := 182) (by decide +kernel), List.mem_of_getElem? (i := 365) (by decide +kernel), List.mem_of_getElem? (i := 366) (by decide +kernel)⟩
theorem lw_p8 : lw_okq (⟨"PortableFiles$Reading", "takeIn", "()Z"⟩, 16) := ⟨⟨by decide +kernel, by decide +kernel⟩, List.mem_of_getElem? (i := 182) (by decide +kernel), List.mem_of_getElem? (i := 371) (by decide +kernel), List.mem_of_getElem? (i := 372) (by decide +kernel)⟩
theorem lw_p9 : lw_okq (⟨"PortableFiles$Reading", "takeHead", "(I)Z"⟩, 16) := ⟨⟨by decide +kernel, by decide +kernel⟩, List.mem_of_getElem? (i := 182) (by decide +kernel), List.mem_of_getElem? (i := 375) (by decide +kernel), List.mem_of_getElem? (i := 376) (by decide +kernel)⟩
theorem lw_p10 : lw_okq (⟨"PortableFiles$Reading", "takeTag", "(II)Z"⟩, 16) := ⟨⟨by decide +kernel, by decide +kernel⟩, List.mem_of_getElem? (i := 182) (by decide +kernel), List.mem_of_getElem? (i := 412) (by decide +kernel), List.mem_of_getElem? (i := 413) (by decide +kernel)⟩
theorem lw_p11 : lw_okq (⟨"PortableFiles$Reading", "takePalette", "(I)Z"⟩, 16) := ⟨⟨by decide +kernel, by decide +kernel⟩, List.mem_of_getElem? (i := 182) (by decide +kernel), List.mem_of_getElem? (i := 423) (by decide +kernel), List.mem_of_getElem? (i := 424) (by decide +kernel)⟩
theorem lw_p12 : lw_okq (⟨"PortableFiles$Reading", "takeAlphas", "(I)Z"⟩, 16) := ⟨⟨by decide +kernel, by decide +kernel⟩, List.mem_of_getElem? (i := 182) (by decide +kernel), List.mem_of_getElem? (i := 440) (by decide +kernel), List.mem_of_getElem? (i := 441) (by decide +kernel)⟩
theorem lw_p13 : lw_okq (⟨"PortableFiles$Reading", "takeRows", "(I)Z"⟩, 16) := ⟨⟨by decide +kernel, by decide +kernel⟩, List.mem_of_getElem? (i := 182) (by decide +kernel), List.mem_of_getElem? (i := 452) (by decide +kernel), List.mem_of_getElem? (i := 453) (by decide +kernel)⟩
theorem lw_p14 : lw_okq (⟨"PortableFiles$Reading", "takeExtra", "(I)Z"⟩, 16) := ⟨⟨by decide +kernel, by decide +kernel⟩, List.mem_of_getElem? (i := 182) (by decide +kernel), List.mem_of_getElem? (i := 460) (by decide +kernel), List.mem_of_getElem? (i := 461) (by decide +kernel)⟩
theorem lw_p15 : lw_okq (⟨"PortableFiles$Reading", "end", "()I"⟩, 16) := ⟨⟨by decide +kernel, by decide +kernel⟩, List.mem_of_getElem? (i := 182) (by decide +kernel), List.mem_of_getElem? (i := 481) (by decide +kernel), List.mem_of_getElem? (i := 482) (by decide +kernel)⟩
def lw_privs_1 : List (MethodName × Nat) := [(⟨"PortableFiles$Reading", "begin", "()V"⟩, 16), (⟨"PortableFiles$Reading", "readChunk", "()I"⟩, 16), (⟨"PortableFiles$Reading", "frameFault", "()I"⟩, 16), (⟨"PortableFiles$Reading", "leaveOut", "()I"⟩, 16), (⟨"PortableFiles$Reading", "noteRowsEnd", "()V"⟩, 16), (⟨"PortableFiles$Reading", "orderIsWrong", "()Z"⟩, 16), (⟨"PortableFiles$Reading", "isGreyKind", "()Z"⟩, 16), (⟨"PortableFiles$Reading", "isUnknown", "()Z"⟩, 16), (⟨"PortableFiles$Reading", "takeIn", "()Z"⟩, 16), (⟨"PortableFiles$Reading", "takeHead", "(I)Z"⟩, 16), (⟨"PortableFiles$Reading", "takeTag", "(II)Z"⟩, 16), (⟨"PortableFiles$Reading", "takePalette", "(I)Z"⟩, 16), (⟨"PortableFiles$Reading", "takeAlphas", "(I)Z"⟩, 16), (⟨"PortableFiles$Reading", "takeRows", "(I)Z"⟩, 16), (⟨"PortableFiles$Reading", "takeExtra", "(I)Z"⟩, 16), (⟨"PortableFiles$Reading", "end", "()I"⟩, 16)]
theorem lw_r1 : ∀ q ∈ lw_privs_1, lw_okq q := List.forall_mem_cons.mpr ⟨lw_p0, List.forall_mem_cons.mpr ⟨lw_p1, List.forall_mem_cons.mpr ⟨lw_p2, List.forall_mem_cons.mpr ⟨lw_p3, List.forall_mem_cons.mpr ⟨lw_p4, List.forall_mem_cons.mpr ⟨lw_p5, List.forall_mem_cons.mpr ⟨lw_p6, List.forall_mem_cons.mpr ⟨lw_p7, List.forall_mem_cons.mpr ⟨lw_p8, List.forall_mem_cons.mpr ⟨lw_p9, List.forall_mem_cons.mpr ⟨lw_p10, List.forall_mem_cons.mpr ⟨lw_p11, List.forall_mem_cons.mpr ⟨lw_p12, List.forall_mem_cons.mpr ⟨lw_p13, List.forall_mem_cons.mpr ⟨lw_p14, List.forall_mem_cons.mpr ⟨lw_p15, fun _ h => absurd h List.not_mem_nil⟩⟩⟩⟩⟩⟩⟩⟩⟩⟩⟩⟩⟩⟩⟩⟩
theorem lw_p16 : lw_okq (⟨"java/lang/Throwable", "fillInStackTrace", "(I)Ljava/lang/Throwable;"⟩, 6) := ⟨⟨by decide +kernel, by decide +kernel⟩, List.mem_of_getElem? (i := 579) (by decide +kernel), List.mem_of_getElem? (i := 577) (by decide +kernel), List.mem_of_getElem? (i := 578) (by decide +kernel)⟩
theorem lw_p17 : lw_okq (⟨"PortableFiles$Extras", "move", "(II)V"⟩, 4) := ⟨⟨by decide +kernel, by decide +kernel⟩, List.mem_of_getElem? (i := 67) (by decide +kernel), List.mem_of_getElem? (i := 668) (by decide +kernel), List.mem_of_getElem? (i := 669) (by decide +kernel)⟩
theorem lw_p18 : lw_okq (⟨"PortableFiles", "needPicture", "()V"⟩, 3) := ⟨⟨by decide +kernel, by decide +kernel⟩, List.mem_of_getElem? (i := 25) (by decide +kernel), List.mem_of_getElem? (i := 683) (by decide +kernel), List.mem_of_getElem? (i := 684) (by decide +kernel)⟩
theorem lw_p19 : lw_okq (⟨"PortableFiles$Writing", "addHead", "(LPortableFiles$Picture;)V"⟩, 3) := ⟨⟨by decide +kernel, by decide +kernel⟩, List.mem_of_getElem? (i := 150) (by decide +kernel), List.mem_of_getElem? (i := 825) (by decide +kernel), List.mem_of_getElem? (i := 826) (by decide +kernel)⟩
theorem lw_p20 : lw_okq (⟨"PortableFiles$Writing", "open", "(I)V"⟩, 3) := ⟨⟨by decide +kernel, by decide +kernel⟩, List.mem_of_getElem? (i := 150) (by decide +kernel), List.mem_of_getElem? (i := 830) (by decide +kernel), List.mem_of_getElem? (i := 831) (by decide +kernel)⟩
theorem lw_p21 : lw_okq (⟨"PortableFiles$Writing", "close", "()V"⟩, 3) := ⟨⟨by decide +kernel, by decide +kernel⟩, List.mem_of_getElem? (i := 150) (by decide +kernel), List.mem_of_getElem? (i := 839) (by decide +kernel), List.mem_of_getElem? (i := 840) (by decide +kernel)⟩
theorem lw_p22 : lw_okq (⟨"PortableFiles$Writing", "addTags", "(LPortableFiles$Tags;)V"⟩, 3) := ⟨⟨by decide +kernel, by decide +kernel⟩, List.mem_of_getElem? (i := 150) (by decide +kernel), List.mem_of_getElem? (i := 852) (by decide +kernel), List.mem_of_getElem? (i := 853) (by decide +kernel)⟩
theorem lw_p23 : lw_okq (⟨"PortableFiles$Writing", "addPalette", "(LPortableFiles$Palette;)V"⟩, 3) := ⟨⟨by decide +kernel, by decide +kernel⟩, List.mem_of_getElem? (i := 150) (by decide +kernel), List.mem_of_getElem? (i := 861) (by decide +kernel), List.mem_of_getElem? (i := 862) (by decide +kernel)⟩
theorem lw_p24 : lw_okq (⟨"PortableFiles$Writing", "addAlphas", "(LPortableFiles$Palette;)V"⟩, 3) := ⟨⟨by decide +kernel, by decide +kernel⟩, List.mem_of_getElem? (i := 150) (by decide +kernel), List.mem_of_getElem? (i := 870) (by decide +kernel), List.mem_of_getElem? (i := 871) (by decide +kernel)⟩
theorem lw_p25 : lw_okq (⟨"PortableFiles$Writing", "addRows", "(LPortableFiles$Picture;)V"⟩, 3) := ⟨⟨by decide +kernel, by decide +kernel⟩, List.mem_of_getElem? (i := 150) (by decide +kernel), List.mem_of_getElem? (i := 880) (by decide +kernel), List.mem_of_getElem? (i := 881) (by decide +kernel)⟩
theorem lw_p26 : lw_okq (⟨"PortableFiles$Writing", "addExtras", "(LPortableFiles$Extras;)V"⟩, 3) := ⟨⟨by decide +kernel, by decide +kernel⟩, List.mem_of_getElem? (i := 150) (by decide +kernel), List.mem_of_getElem? (i := 896) (by decide +kernel), List.mem_of_getElem? (i := 897) (by decide +kernel)⟩
theorem lw_p27 : lw_okq (⟨"PortableFiles", "needWritten", "(I)V"⟩, 3) := ⟨⟨by decide +kernel, by decide +kernel⟩, List.mem_of_getElem? (i := 25) (by decide +kernel), List.mem_of_getElem? (i := 918) (by decide +kernel), List.mem_of_getElem? (i := 919) (by decide +kernel)⟩
theorem lw_p28 : lw_okq (⟨"PortableFiles", "needRoom", "(I)V"⟩, 3) := ⟨⟨by decide +kernel, by decide +kernel⟩, List.mem_of_getElem? (i := 25) (by decide +kernel), List.mem_of_getElem? (i := 932) (by decide +kernel), List.mem_of_getElem? (i := 933) (by decide +kernel)⟩
theorem lw_p29 : lw_okq (⟨"PortableFiles", "needReading", "()V"⟩, 3) := ⟨⟨by decide +kernel, by decide +kernel⟩, List.mem_of_getElem? (i := 25) (by decide +kernel), List.mem_of_getElem? (i := 970) (by decide +kernel), List.mem_of_getElem? (i := 971) (by decide +kernel)⟩
theorem lw_p30 : lw_okq (⟨"PortableFilesModel", "change", "()V"⟩, 42) := ⟨⟨by decide +kernel, by decide +kernel⟩, List.mem_of_getElem? (i := 1031) (by decide +kernel), List.mem_of_getElem? (i := 1186) (by decide +kernel), List.mem_of_getElem? (i := 1187) (by decide +kernel)⟩
theorem lw_p31 : lw_okq (⟨"PortableFilesModel", "lessen", "()V"⟩, 42) := ⟨⟨by decide +kernel, by decide +kernel⟩, List.mem_of_getElem? (i := 1031) (by decide +kernel), List.mem_of_getElem? (i := 1237) (by decide +kernel), List.mem_of_getElem? (i := 1238) (by decide +kernel)⟩
def lw_privs_2 : List (MethodName × Nat) := [(⟨"java/lang/Throwable", "fillInStackTrace", "(I)Ljava/lang/Throwable;"⟩, 6), (⟨"PortableFiles$Extras", "move", "(II)V"⟩, 4), (⟨"PortableFiles", "needPicture", "()V"⟩, 3), (⟨"PortableFiles$Writing", "addHead", "(LPortableFiles$Picture;)V"⟩, 3), (⟨"PortableFiles$Writing", "open", "(I)V"⟩, 3), (⟨"PortableFiles$Writing", "close", "()V"⟩, 3), (⟨"PortableFiles$Writing", "addTags", "(LPortableFiles$Tags;)V"⟩, 3), (⟨"PortableFiles$Writing", "addPalette", "(LPortableFiles$Palette;)V"⟩, 3), (⟨"PortableFiles$Writing", "addAlphas", "(LPortableFiles$Palette;)V"⟩, 3), (⟨"PortableFiles$Writing", "addRows", "(LPortableFiles$Picture;)V"⟩, 3), (⟨"PortableFiles$Writing", "addExtras", "(LPortableFiles$Extras;)V"⟩, 3), (⟨"PortableFiles", "needWritten", "(I)V"⟩, 3), (⟨"PortableFiles", "needRoom", "(I)V"⟩, 3), (⟨"PortableFiles", "needReading", "()V"⟩, 3), (⟨"PortableFilesModel", "change", "()V"⟩, 42), (⟨"PortableFilesModel", "lessen", "()V"⟩, 42)]
theorem lw_r2 : ∀ q ∈ lw_privs_2, lw_okq q := List.forall_mem_cons.mpr ⟨lw_p16, List.forall_mem_cons.mpr ⟨lw_p17, List.forall_mem_cons.mpr ⟨lw_p18, List.forall_mem_cons.mpr ⟨lw_p19, List.forall_mem_cons.mpr ⟨lw_p20, List.forall_mem_cons.mpr ⟨lw_p21, List.forall_mem_cons.mpr ⟨lw_p22, List.forall_mem_cons.mpr ⟨lw_p23, List.forall_mem_cons.mpr ⟨lw_p24, List.forall_mem_cons.mpr ⟨lw_p25, List.forall_mem_cons.mpr ⟨lw_p26, List.forall_mem_cons.mpr ⟨lw_p27, List.forall_mem_cons.mpr ⟨lw_p28, List.forall_mem_cons.mpr ⟨lw_p29, List.forall_mem_cons.mpr ⟨lw_p30, List.forall_mem_cons.mpr ⟨lw_p31, fun _ h => absurd h List.not_mem_nil⟩⟩⟩⟩⟩⟩⟩⟩⟩⟩⟩⟩⟩⟩⟩⟩
theorem lw_p32 : lw_okq (⟨"PortableFilesModel", "isFull", "(I)Z"⟩, 42) := ⟨⟨by decide +kernel, by decide +kernel⟩, List.mem_of_getElem? (i := 1031) (by decide +kernel), List.mem_of_getElem? (i := 1241) (by decide +kernel), List.mem_of_getElem? (i := 1242) (by decide +kernel)⟩
theorem lw_p33 : lw_okq (⟨"PortableFilesModel", "isGrey", "()Z"⟩, 42) := ⟨⟨by decide +kernel, by decide +kernel⟩, List.mem_of_getElem? (i := 1031) (by decide +kernel), List.mem_of_getElem? (i := 1245) (by decide +kernel), List.mem_of_getElem? (i := 1246) (by decide +kernel)⟩
theorem lw_p34 : lw_okq (⟨"PortableFilesModel", "fits", "(I)Z"⟩, 42) := ⟨⟨by decide +kernel, by decide +kernel⟩, List.mem_of_getElem? (i := 1031) (by decide +kernel), List.mem_of_getElem? (i := 1249) (by decide +kernel), List.mem_of_getElem? (i := 1250) (by decide +kernel)⟩
theorem lw_p35 : lw_okq (⟨"PortableFilesModel", "tell", "(I)V"⟩, 42) := ⟨⟨by decide +kernel, by decide +kernel⟩, List.mem_of_getElem? (i := 1031) (by decide +kernel), List.mem_of_getElem? (i := 1263) (by decide +kernel), List.mem_of_getElem? (i := 1264) (by decide +kernel)⟩
theorem lw_p36 : lw_okq (⟨"PortableFilesModel", "open", "(I)I"⟩, 42) := ⟨⟨by decide +kernel, by decide +kernel⟩, List.mem_of_getElem? (i := 1031) (by decide +kernel), List.mem_of_getElem? (i := 1268) (by decide +kernel), List.mem_of_getElem? (i := 1269) (by decide +kernel)⟩
theorem lw_p37 : lw_okq (⟨"PortableFilesModel", "tellNumber", "(I)V"⟩, 42) := ⟨⟨by decide +kernel, by decide +kernel⟩, List.mem_of_getElem? (i := 1031) (by decide +kernel), List.mem_of_getElem? (i := 1272) (by decide +kernel), List.mem_of_getElem? (i := 1273) (by decide +kernel)⟩
theorem lw_p38 : lw_okq (⟨"PortableFilesModel", "close", "(I)V"⟩, 42) := ⟨⟨by decide +kernel, by decide +kernel⟩, List.mem_of_getElem? (i := 1031) (by decide +kernel), List.mem_of_getElem? (i := 1276) (by decide +kernel), List.mem_of_getElem? (i := 1277) (by decide +kernel)⟩
theorem lw_p39 : lw_okq (⟨"PortableFilesModel", "writeTags", "()V"⟩, 42) := ⟨⟨by decide +kernel, by decide +kernel⟩, List.mem_of_getElem? (i := 1031) (by decide +kernel), List.mem_of_getElem? (i := 1286) (by decide +kernel), List.mem_of_getElem? (i := 1287) (by decide +kernel)⟩
theorem lw_p40 : lw_okq (⟨"PortableFilesModel", "writePalette", "()V"⟩, 42) := ⟨⟨by decide +kernel, by decide +kernel⟩, List.mem_of_getElem? (i := 1031) (by decide +kernel), List.mem_of_getElem? (i := 1290) (by decide +kernel), List.mem_of_getElem? (i := 1291) (by decide +kernel)⟩
theorem lw_p41 : lw_okq (⟨"PortableFilesModel", "writeRows", "()V"⟩, 42) := ⟨⟨by decide +kernel, by decide +kernel⟩, List.mem_of_getElem? (i := 1031) (by decide +kernel), List.mem_of_getElem? (i := 1295) (by decide +kernel), List.mem_of_getElem? (i := 1296) (by decide +kernel)⟩
theorem lw_p42 : lw_okq (⟨"PortableFilesModel", "rowByte", "(I)I"⟩, 42) := ⟨⟨by decide +kernel, by decide +kernel⟩, List.mem_of_getElem? (i := 1031) (by decide +kernel), List.mem_of_getElem? (i := 1303) (by decide +kernel), List.mem_of_getElem? (i := 1304) (by decide +kernel)⟩
theorem lw_p43 : lw_okq (⟨"PortableFilesModel", "endOf", "(I)I"⟩, 42) := ⟨⟨by decide +kernel, by decide +kernel⟩, List.mem_of_getElem? (i := 1031) (by decide +kernel), List.mem_of_getElem? (i := 1324) (by decide +kernel), List.mem_of_getElem? (i := 1325) (by decide +kernel)⟩
theorem lw_p44 : lw_okq (⟨"PortableFilesModel", "begin", "()V"⟩, 42) := ⟨⟨by decide +kernel, by decide +kernel⟩, List.mem_of_getElem? (i := 1031) (by decide +kernel), List.mem_of_getElem? (i := 1335) (by decide +kernel), List.mem_of_getElem? (i := 1336) (by decide +kernel)⟩
theorem lw_p45 : lw_okq (⟨"PortableFilesModel", "breakBy", "(ZII)V"⟩, 42) := ⟨⟨by decide +kernel, by decide +kernel⟩, List.mem_of_getElem? (i := 1031) (by decide +kernel), List.mem_of_getElem? (i := 1339) (by decide +kernel), List.mem_of_getElem? (i := 1340) (by decide +kernel)⟩
theorem lw_p46 : lw_okq (⟨"PortableFilesModel", "chunk", "(I)I"⟩, 42) := ⟨⟨by decide +kernel, by decide +kernel⟩, List.mem_of_getElem? (i := 1031) (by decide +kernel), List.mem_of_getElem? (i := 1343) (by decide +kernel), List.mem_of_getElem? (i := 1344) (by decide +kernel)⟩
theorem lw_p47 : lw_okq (⟨"PortableFilesModel", "isOutOfOrder", "(I)Z"⟩, 42) := ⟨⟨by decide +kernel, by decide +kernel⟩, List.mem_of_getElem? (i := 1031) (by decide +kernel), List.mem_of_getElem? (i := 1347) (by decide +kernel), List.mem_of_getElem? (i := 1348) (by decide +kernel)⟩
def lw_privs_3 : List (MethodName × Nat) := [(⟨"PortableFilesModel", "isFull", "(I)Z"⟩, 42), (⟨"PortableFilesModel", "isGrey", "()Z"⟩, 42), (⟨"PortableFilesModel", "fits", "(I)Z"⟩, 42), (⟨"PortableFilesModel", "tell", "(I)V"⟩, 42), (⟨"PortableFilesModel", "open", "(I)I"⟩, 42), (⟨"PortableFilesModel", "tellNumber", "(I)V"⟩, 42), (⟨"PortableFilesModel", "close", "(I)V"⟩, 42), (⟨"PortableFilesModel", "writeTags", "()V"⟩, 42), (⟨"PortableFilesModel", "writePalette", "()V"⟩, 42), (⟨"PortableFilesModel", "writeRows", "()V"⟩, 42), (⟨"PortableFilesModel", "rowByte", "(I)I"⟩, 42), (⟨"PortableFilesModel", "endOf", "(I)I"⟩, 42), (⟨"PortableFilesModel", "begin", "()V"⟩, 42), (⟨"PortableFilesModel", "breakBy", "(ZII)V"⟩, 42), (⟨"PortableFilesModel", "chunk", "(I)I"⟩, 42), (⟨"PortableFilesModel", "isOutOfOrder", "(I)Z"⟩, 42)]
theorem lw_r3 : ∀ q ∈ lw_privs_3, lw_okq q := List.forall_mem_cons.mpr ⟨lw_p32, List.forall_mem_cons.mpr ⟨lw_p33, List.forall_mem_cons.mpr ⟨lw_p34, List.forall_mem_cons.mpr ⟨lw_p35, List.forall_mem_cons.mpr ⟨lw_p36, List.forall_mem_cons.mpr ⟨lw_p37, List.forall_mem_cons.mpr ⟨lw_p38, List.forall_mem_cons.mpr ⟨lw_p39, List.forall_mem_cons.mpr ⟨lw_p40, List.forall_mem_cons.mpr ⟨lw_p41, List.forall_mem_cons.mpr ⟨lw_p42, List.forall_mem_cons.mpr ⟨lw_p43, List.forall_mem_cons.mpr ⟨lw_p44, List.forall_mem_cons.mpr ⟨lw_p45, List.forall_mem_cons.mpr ⟨lw_p46, List.forall_mem_cons.mpr ⟨lw_p47, fun _ h => absurd h List.not_mem_nil⟩⟩⟩⟩⟩⟩⟩⟩⟩⟩⟩⟩⟩⟩⟩⟩
theorem lw_p48 : lw_okq (⟨"PortableFilesModel", "takes", "(III)Z"⟩, 42) := ⟨⟨by decide +kernel, by decide +kernel⟩, List.mem_of_getElem? (i := 1031) (by decide +kernel), List.mem_of_getElem? (i := 1354) (by decide +kernel), List.mem_of_getElem? (i := 1355) (by decide +kernel)⟩
theorem lw_p49 : lw_okq (⟨"PortableFilesModel", "takeHead", "(II)Z"⟩, 42) := ⟨⟨by decide +kernel, by decide +kernel⟩, List.mem_of_getElem? (i := 1031) (by decide +kernel), List.mem_of_getElem? (i := 1358) (by decide +kernel), List.mem_of_getElem? (i := 1359) (by decide +kernel)⟩
theorem lw_p50 : lw_okq (⟨"PortableFilesModel", "takePalette", "(II)Z"⟩, 42) := ⟨⟨by decide +kernel, by decide +kernel⟩, List.mem_of_getElem? (i := 1031) (by decide +kernel), List.mem_of_getElem? (i := 1362) (by decide +kernel), List.mem_of_getElem? (i := 1363) (by decide +kernel)⟩
theorem lw_p51 : lw_okq (⟨"PortableFilesModel", "takeAlphas", "(II)Z"⟩, 42) := ⟨⟨by decide +kernel, by decide +kernel⟩, List.mem_of_getElem? (i := 1031) (by decide +kernel), List.mem_of_getElem? (i := 1366) (by decide +kernel), List.mem_of_getElem? (i := 1367) (by decide +kernel)⟩
theorem lw_p52 : lw_okq (⟨"PortableFilesModel", "takeRows", "(II)Z"⟩, 42) := ⟨⟨by decide +kernel, by decide +kernel⟩, List.mem_of_getElem? (i := 1031) (by decide +kernel), List.mem_of_getElem? (i := 1370) (by decide +kernel), List.mem_of_getElem? (i := 1371) (by decide +kernel)⟩
theorem lw_p53 : lw_okq (⟨"PortableFilesModel", "takeExtra", "(III)Z"⟩, 42) := ⟨⟨by decide +kernel, by decide +kernel⟩, List.mem_of_getElem? (i := 1031) (by decide +kernel), List.mem_of_getElem? (i := 1374) (by decide +kernel), List.mem_of_getElem? (i := 1375) (by decide +kernel)⟩
theorem lw_p54 : lw_okq (⟨"PortableFilesModel", "takeTag", "(III)Z"⟩, 42) := ⟨⟨by decide +kernel, by decide +kernel⟩, List.mem_of_getElem? (i := 1031) (by decide +kernel), List.mem_of_getElem? (i := 1378) (by decide +kernel), List.mem_of_getElem? (i := 1379) (by decide +kernel)⟩
theorem lw_p55 : lw_okq (⟨"PortableFilesModel", "unpack", "()Z"⟩, 42) := ⟨⟨by decide +kernel, by decide +kernel⟩, List.mem_of_getElem? (i := 1031) (by decide +kernel), List.mem_of_getElem? (i := 1382) (by decide +kernel), List.mem_of_getElem? (i := 1383) (by decide +kernel)⟩
theorem lw_p56 : lw_okq (⟨"PortableFilesModel", "rowBits", "(II)I"⟩, 42) := ⟨⟨by decide +kernel, by decide +kernel⟩, List.mem_of_getElem? (i := 1031) (by decide +kernel), List.mem_of_getElem? (i := 1386) (by decide +kernel), List.mem_of_getElem? (i := 1387) (by decide +kernel)⟩
def lw_privs_4 : List (MethodName × Nat) := [(⟨"PortableFilesModel", "takes", "(III)Z"⟩, 42), (⟨"PortableFilesModel", "takeHead", "(II)Z"⟩, 42), (⟨"PortableFilesModel", "takePalette", "(II)Z"⟩, 42), (⟨"PortableFilesModel", "takeAlphas", "(II)Z"⟩, 42), (⟨"PortableFilesModel", "takeRows", "(II)Z"⟩, 42), (⟨"PortableFilesModel", "takeExtra", "(III)Z"⟩, 42), (⟨"PortableFilesModel", "takeTag", "(III)Z"⟩, 42), (⟨"PortableFilesModel", "unpack", "()Z"⟩, 42), (⟨"PortableFilesModel", "rowBits", "(II)I"⟩, 42)]
theorem lw_r4 : ∀ q ∈ lw_privs_4, lw_okq q := List.forall_mem_cons.mpr ⟨lw_p48, List.forall_mem_cons.mpr ⟨lw_p49, List.forall_mem_cons.mpr ⟨lw_p50, List.forall_mem_cons.mpr ⟨lw_p51, List.forall_mem_cons.mpr ⟨lw_p52, List.forall_mem_cons.mpr ⟨lw_p53, List.forall_mem_cons.mpr ⟨lw_p54, List.forall_mem_cons.mpr ⟨lw_p55, List.forall_mem_cons.mpr ⟨lw_p56, fun _ h => absurd h List.not_mem_nil⟩⟩⟩⟩⟩⟩⟩⟩⟩
def lw_privs : List (MethodName × Nat) := lw_privs_1 ++ (lw_privs_2 ++ (lw_privs_3 ++ (lw_privs_4)))
def lw_tbl : List Cond := k2_sels lw_privs ++ tables_1
theorem lw_privs_ok : ∀ q ∈ lw_privs, lw_okq q := by
  show ∀ q ∈ lw_privs_1 ++ (lw_privs_2 ++ (lw_privs_3 ++ (lw_privs_4))), lw_okq q
  exact List.forall_mem_append.mpr ⟨lw_r1, List.forall_mem_append.mpr ⟨lw_r2, List.forall_mem_append.mpr ⟨lw_r3, lw_r4⟩⟩⟩
end
section
/-! ===== printed by program (wip/whole/gen_names.py): the classes, fields, methods and pools ===== -/
def pmCn : List String := ["PortableFiles$Bytes", "PortableFiles$Extras", "PortableFiles$Palette", "PortableFiles$Picture", "PortableFiles$Reading", "PortableFiles$Tags", "PortableFiles$Writing", "PortableFiles", "PortableFilesModel", "PortableFiles$Shape", "PortableFiles$Letters", "PortableFiles$Rows", "PortableFiles$Lessening", "PortableFilesLaw", "java/util/Arrays", "java/lang/Math"]
def pmT0 : u_T := fun k => match k with
  | 0 => ("PortableFiles$Bytes", "values", "[I", true)
  | _ => ("PortableFiles$Bytes", "count", "I", false)
def pmy0 : Nat → FieldType := fun k => match k with
  | 0 => .array .int
  | _ => .int
def pmT1 : u_T := fun k => match k with
  | 0 => ("PortableFiles$Extras", "letters", "[I", true)
  | 1 => ("PortableFiles$Extras", "lengths", "[I", true)
  | 2 => ("PortableFiles$Extras", "bytes", "[I", true)
  | _ => ("PortableFiles$Extras", "count", "I", false)
def pmy1 : Nat → FieldType := fun k => match k with
  | 0 => .array .int
  | 1 => .array .int
  | 2 => .array .int
  | _ => .int
def pmT2 : u_T := fun k => match k with
  | 0 => ("PortableFiles$Palette", "parts", "[I", true)
  | _ => ("PortableFiles$Palette", "count", "I", false)
def pmy2 : Nat → FieldType := fun k => match k with
  | 0 => .array .int
  | _ => .int
def pmT3 : u_T := fun k => match k with
  | 0 => ("PortableFiles$Picture", "palette", "LPortableFiles$Palette;", true)
  | 1 => ("PortableFiles$Picture", "tags", "LPortableFiles$Tags;", true)
  | 2 => ("PortableFiles$Picture", "extras", "LPortableFiles$Extras;", true)
  | 3 => ("PortableFiles$Picture", "samples", "[I", true)
  | 4 => ("PortableFiles$Picture", "there", "Z", false)
  | 5 => ("PortableFiles$Picture", "width", "I", false)
  | 6 => ("PortableFiles$Picture", "height", "I", false)
  | 7 => ("PortableFiles$Picture", "bits", "I", false)
  | 8 => ("PortableFiles$Picture", "kind", "I", false)
  | _ => ("PortableFiles$Picture", "channels", "I", false)
def pmy3 : Nat → FieldType := fun k => match k with
  | 0 => .object "PortableFiles$Palette"
  | 1 => .object "PortableFiles$Tags"
  | 2 => .object "PortableFiles$Extras"
  | 3 => .array .int
  | 4 => .boolean
  | 5 => .int
  | 6 => .int
  | 7 => .int
  | 8 => .int
  | _ => .int
def pmT4 : u_T := fun k => match k with
  | 0 => ("PortableFiles$Reading", "fed", "LPortableFiles$Bytes;", true)
  | 1 => ("PortableFiles$Reading", "picture", "LPortableFiles$Picture;", true)
  | 2 => ("PortableFiles$Reading", "rows", "LPortableFiles$Bytes;", true)
  | 3 => ("PortableFiles$Reading", "isWhole", "Z", false)
  | 4 => ("PortableFiles$Reading", "fault", "I", false)
  | 5 => ("PortableFiles$Reading", "place", "I", false)
  | 6 => ("PortableFiles$Reading", "chunks", "I", false)
  | 7 => ("PortableFiles$Reading", "leftOut", "I", false)
  | 8 => ("PortableFiles$Reading", "length", "I", false)
  | 9 => ("PortableFiles$Reading", "letters", "I", false)
  | 10 => ("PortableFiles$Reading", "rowBytes", "I", false)
  | 11 => ("PortableFiles$Reading", "headCame", "Z", false)
  | 12 => ("PortableFiles$Reading", "paletteCame", "Z", false)
  | 13 => ("PortableFiles$Reading", "alphasCame", "Z", false)
  | 14 => ("PortableFiles$Reading", "rowsCame", "Z", false)
  | _ => ("PortableFiles$Reading", "rowsEnded", "Z", false)
def pmy4 : Nat → FieldType := fun k => match k with
  | 0 => .object "PortableFiles$Bytes"
  | 1 => .object "PortableFiles$Picture"
  | 2 => .object "PortableFiles$Bytes"
  | 3 => .boolean
  | 4 => .int
  | 5 => .int
  | 6 => .int
  | 7 => .int
  | 8 => .int
  | 9 => .int
  | 10 => .int
  | 11 => .boolean
  | 12 => .boolean
  | 13 => .boolean
  | 14 => .boolean
  | _ => .boolean
def pmT5 : u_T := fun k => match k with
  | _ => ("PortableFiles$Tags", "values", "[I", true)
def pmy5 : Nat → FieldType := fun k => match k with
  | _ => .array .int
def pmT6 : u_T := fun k => match k with
  | 0 => ("PortableFiles$Writing", "out", "LPortableFiles$Bytes;", true)
  | 1 => ("PortableFiles$Writing", "rows", "LPortableFiles$Bytes;", true)
  | _ => ("PortableFiles$Writing", "opened", "I", false)
def pmy6 : Nat → FieldType := fun k => match k with
  | 0 => .object "PortableFiles$Bytes"
  | 1 => .object "PortableFiles$Bytes"
  | _ => .int
def pmT7 : u_T := fun k => match k with
  | 0 => ("PortableFiles", "picture", "LPortableFiles$Picture;", true)
  | 1 => ("PortableFiles", "writing", "LPortableFiles$Writing;", true)
  | _ => ("PortableFiles", "reading", "LPortableFiles$Reading;", true)
def pmy7 : Nat → FieldType := fun k => match k with
  | 0 => .object "PortableFiles$Picture"
  | 1 => .object "PortableFiles$Writing"
  | _ => .object "PortableFiles$Reading"
def pmT8 : u_T := fun k => match k with
  | 0 => ("PortableFilesModel", "code", "I", false)
  | 1 => ("PortableFilesModel", "has", "Z", false)
  | 2 => ("PortableFilesModel", "width", "I", false)
  | 3 => ("PortableFilesModel", "height", "I", false)
  | 4 => ("PortableFilesModel", "bits", "I", false)
  | 5 => ("PortableFilesModel", "kind", "I", false)
  | 6 => ("PortableFilesModel", "samples", "[I", true)
  | 7 => ("PortableFilesModel", "entries", "I", false)
  | 8 => ("PortableFilesModel", "palette", "[I", true)
  | 9 => ("PortableFilesModel", "tags", "[I", true)
  | 10 => ("PortableFilesModel", "extras", "I", false)
  | 11 => ("PortableFilesModel", "extraLetters", "[I", true)
  | 12 => ("PortableFilesModel", "extraSizes", "[I", true)
  | 13 => ("PortableFilesModel", "extraBytes", "[I", true)
  | 14 => ("PortableFilesModel", "isRead", "Z", false)
  | 15 => ("PortableFilesModel", "readWidth", "I", false)
  | 16 => ("PortableFilesModel", "readHeight", "I", false)
  | 17 => ("PortableFilesModel", "readBits", "I", false)
  | 18 => ("PortableFilesModel", "readKind", "I", false)
  | 19 => ("PortableFilesModel", "readSamples", "[I", true)
  | 20 => ("PortableFilesModel", "readEntries", "I", false)
  | 21 => ("PortableFilesModel", "readPalette", "[I", true)
  | 22 => ("PortableFilesModel", "readTags", "[I", true)
  | 23 => ("PortableFilesModel", "readExtras", "I", false)
  | 24 => ("PortableFilesModel", "readLetters", "[I", true)
  | 25 => ("PortableFilesModel", "readSizes", "[I", true)
  | 26 => ("PortableFilesModel", "readBytes", "[I", true)
  | 27 => ("PortableFilesModel", "leftOut", "I", false)
  | 28 => ("PortableFilesModel", "fault", "I", false)
  | 29 => ("PortableFilesModel", "written", "[I", true)
  | 30 => ("PortableFilesModel", "writtenMany", "I", false)
  | 31 => ("PortableFilesModel", "fed", "[I", true)
  | 32 => ("PortableFilesModel", "fedMany", "I", false)
  | 33 => ("PortableFilesModel", "place", "I", false)
  | 34 => ("PortableFilesModel", "rows", "[I", true)
  | 35 => ("PortableFilesModel", "rowBytes", "I", false)
  | 36 => ("PortableFilesModel", "sawHead", "Z", false)
  | 37 => ("PortableFilesModel", "sawPalette", "Z", false)
  | 38 => ("PortableFilesModel", "sawAlphas", "Z", false)
  | 39 => ("PortableFilesModel", "sawRows", "Z", false)
  | 40 => ("PortableFilesModel", "rowsEnded", "Z", false)
  | _ => ("PortableFilesModel", "sawTag", "[Z", true)
def pmy8 : Nat → FieldType := fun k => match k with
  | 0 => .int
  | 1 => .boolean
  | 2 => .int
  | 3 => .int
  | 4 => .int
  | 5 => .int
  | 6 => .array .int
  | 7 => .int
  | 8 => .array .int
  | 9 => .array .int
  | 10 => .int
  | 11 => .array .int
  | 12 => .array .int
  | 13 => .array .int
  | 14 => .boolean
  | 15 => .int
  | 16 => .int
  | 17 => .int
  | 18 => .int
  | 19 => .array .int
  | 20 => .int
  | 21 => .array .int
  | 22 => .array .int
  | 23 => .int
  | 24 => .array .int
  | 25 => .array .int
  | 26 => .array .int
  | 27 => .int
  | 28 => .int
  | 29 => .array .int
  | 30 => .int
  | 31 => .array .int
  | 32 => .int
  | 33 => .int
  | 34 => .array .int
  | 35 => .int
  | 36 => .boolean
  | 37 => .boolean
  | 38 => .boolean
  | 39 => .boolean
  | 40 => .boolean
  | _ => .array .boolean
abbrev pmCl : List vw_C := [("PortableFiles$Bytes", pmT0, 2), ("PortableFiles$Extras", pmT1, 4), ("PortableFiles$Palette", pmT2, 2), ("PortableFiles$Picture", pmT3, 10), ("PortableFiles$Reading", pmT4, 16), ("PortableFiles$Tags", pmT5, 1), ("PortableFiles$Writing", pmT6, 3), ("PortableFiles", pmT7, 3), ("PortableFilesModel", pmT8, 42)]
def pmTy : List (Nat → FieldType) := [pmy0, pmy1, pmy2, pmy3, pmy4, pmy5, pmy6, pmy7, pmy8]
abbrev pmMeth : Type := MethodName × ByteArray × Nat × Option FieldType × List (Nat × Nat × Nat × Nat) × Nat × Nat × Nat × Nat
def pmMs_0 : List pmMeth := [(⟨"PortableFilesLaw", "head", "(LPortableFiles;IIII)I"⟩, method_3_code, 6, (some .int), [(0, 9, 12, 13)], 13, 5, 7, 114),
  (⟨"PortableFilesLaw", "colour", "(LPortableFiles;IIII[J)I"⟩, method_4_code, 7, (some .int), [(0, 14, 17, 19), (0, 14, 21, 13), (0, 14, 25, 21)], 13, 6, 7, 114),
  (⟨"PortableFilesLaw", "put", "(LPortableFiles;IIII[J)I"⟩, method_5_code, 7, (some .int), [(0, 14, 17, 19), (0, 14, 21, 26), (0, 14, 25, 13)], 13, 6, 8, 135),
  (⟨"PortableFilesLaw", "tag", "(LPortableFiles;II[J)I"⟩, method_6_code, 5, (some .int), [(0, 10, 13, 19), (0, 10, 17, 13)], 13, 4, 8, 133),
  (⟨"PortableFilesLaw", "extra", "(LPortableFiles;I[J)I"⟩, method_7_code, 4, (some .int), [(0, 9, 12, 19), (0, 9, 15, 13), (0, 9, 18, 21)], 13, 3, 8, 131),
  (⟨"PortableFilesLaw", "byteOf", "(LPortableFiles;II[J)I"⟩, method_8_code, 5, (some .int), [(0, 10, 13, 19), (0, 10, 17, 26), (0, 10, 21, 13), (0, 10, 25, 21)], 13, 4, 8, 132),
  (⟨"PortableFilesLaw", "reduce", "(LPortableFiles;[J)I"⟩, method_9_code, 3, (some .int), [(0, 8, 11, 19)], 13, 2, 8, 134),
  (⟨"PortableFilesLaw", "write", "(LPortableFiles;[J)I"⟩, method_10_code, 3, (some .int), [(0, 8, 11, 19)], 13, 2, 8, 159),
  (⟨"PortableFilesLaw", "byteAt", "(LPortableFiles;I[J)I"⟩, method_11_code, 4, (some .int), [(0, 9, 12, 26)], 13, 3, 8, 132),
  (⟨"PortableFilesLaw", "feed", "(LPortableFiles;I[J)I"⟩, method_12_code, 4, (some .int), [(0, 9, 12, 13), (0, 9, 15, 21)], 13, 3, 8, 132),
  (⟨"PortableFilesLaw", "pass", "(LPortableFiles;II[J)I"⟩, method_13_code, 5, (some .int), [(0, 10, 13, 26), (0, 10, 17, 13), (0, 10, 21, 21)], 13, 4, 8, 135),
  (⟨"PortableFilesLaw", "alter", "(LPortableFiles;IIZ[J)I"⟩, method_14_code, 6, (some .int), [(0, 12, 15, 26), (0, 12, 19, 13)], 13, 5, 8, 134),
  (⟨"PortableFilesLaw", "at", "(LPortableFiles;III[J)I"⟩, method_15_code, 6, (some .int), [(0, 12, 15, 19), (0, 12, 19, 26)], 13, 5, 8, 133),
  (⟨"PortableFilesLaw", "found", "(LPortableFiles;I[J)I"⟩, method_16_code, 4, (some .int), [(0, 9, 12, 19)], 13, 3, 8, 131),
  (⟨"PortableFilesLaw", "entry", "(LPortableFiles;II[J)I"⟩, method_17_code, 5, (some .int), [(0, 10, 13, 19), (0, 10, 17, 26), (0, 10, 21, 13)], 13, 4, 8, 132),
  (⟨"PortableFilesLaw", "unknown", "(LPortableFiles;II[J)I"⟩, method_18_code, 5, (some .int), [(0, 10, 13, 19), (0, 10, 17, 26)], 13, 4, 8, 133)]
def pmMs_1 : List pmMeth := [(⟨"PortableFilesLaw", "take", "(LPortableFiles;)I"⟩, method_19_code, 2, (some .int), [(0, 4, 7, 19)], 13, 1, 8, 130),
  (⟨"PortableFiles$Bytes", "<init>", "(I)V"⟩, prog_2_method_1_code, 2, none, [], 0, 2, 1, 20),
  (⟨"PortableFiles$Bytes", "clear", "()V"⟩, prog_2_method_2_code, 1, none, [], 0, 1, 0, 0),
  (⟨"PortableFiles$Bytes", "has", "(I)Z"⟩, prog_2_method_3_code, 2, (some .boolean), [], 0, 2, 0, 0),
  (⟨"PortableFiles$Bytes", "value", "(I)I"⟩, prog_2_method_4_code, 2, (some .int), [], 0, 2, 1, 21),
  (⟨"PortableFiles$Bytes", "set", "(II)V"⟩, prog_2_method_5_code, 3, none, [], 0, 3, 1, 21),
  (⟨"PortableFiles$Bytes", "add", "(I)V"⟩, prog_2_method_6_code, 2, none, [], 0, 2, 0, 0),
  (⟨"PortableFiles$Bytes", "number", "(I)I"⟩, prog_2_method_7_code, 2, (some .int), [], 0, 2, 2, 42),
  (⟨"PortableFiles$Bytes", "setNumber", "(II)V"⟩, prog_2_method_8_code, 3, none, [], 0, 3, 2, 43),
  (⟨"PortableFiles$Bytes", "addNumber", "(I)V"⟩, prog_2_method_9_code, 2, none, [], 0, 2, 1, 21),
  (⟨"PortableFiles$Bytes", "addBeginning", "()V"⟩, prog_2_method_10_code, 2, none, [], 0, 1, 1, 21),
  (⟨"PortableFiles$Bytes", "hasBeginning", "()Z"⟩, prog_2_method_11_code, 2, (some .boolean), [], 0, 1, 2, 42),
  (⟨"PortableFiles$Bytes", "dataLengthMayBe", "(I)Z"⟩, prog_2_method_12_code, 1, (some .boolean), [], 0, 1, 0, 0),
  (⟨"PortableFiles$Bytes", "hasWholeChunk", "(II)Z"⟩, prog_2_method_13_code, 3, (some .boolean), [], 0, 3, 0, 0),
  (⟨"PortableFiles$Bytes", "sumIsRight", "(II)Z"⟩, prog_2_method_14_code, 3, (some .boolean), [], 0, 3, 3, 67),
  (⟨"PortableFiles$Bytes", "rightSum", "(II)I"⟩, prog_2_method_15_code, 6, (some .int), [], 0, 3, 2, 42)]
def pmMs_2 : List pmMeth := [(⟨"PortableFiles$Bytes", "mendSum", "(I)V"⟩, prog_2_method_16_code, 4, none, [], 0, 2, 3, 67),
  (⟨"PortableFiles$Bytes", "sumPlace", "(II)I"⟩, prog_2_method_17_code, 2, (some .int), [], 0, 2, 0, 0),
  (⟨"PortableFiles$Extras", "<init>", "()V"⟩, prog_3_method_1_code, 1, none, [], 1, 1, 1, 20),
  (⟨"PortableFiles$Extras", "clear", "()V"⟩, prog_3_method_2_code, 1, none, [], 1, 1, 0, 0),
  (⟨"PortableFiles$Extras", "isFull", "()Z"⟩, prog_3_method_3_code, 1, (some .boolean), [], 1, 1, 0, 0),
  (⟨"PortableFiles$Extras", "has", "(I)Z"⟩, prog_3_method_4_code, 2, (some .boolean), [], 1, 2, 0, 0),
  (⟨"PortableFiles$Extras", "lettersOf", "(I)I"⟩, prog_3_method_5_code, 2, (some .int), [], 1, 2, 1, 21),
  (⟨"PortableFiles$Extras", "lengthOf", "(I)I"⟩, prog_3_method_6_code, 2, (some .int), [], 1, 2, 1, 21),
  (⟨"PortableFiles$Extras", "value", "(II)I"⟩, prog_3_method_7_code, 3, (some .int), [], 1, 3, 2, 42),
  (⟨"PortableFiles$Extras", "add", "(I)V"⟩, prog_3_method_8_code, 2, none, [], 1, 2, 1, 20),
  (⟨"PortableFiles$Extras", "addByte", "(II)V"⟩, prog_3_method_9_code, 3, none, [], 1, 3, 1, 21),
  (⟨"PortableFiles$Extras", "leaveOnlySafeOnes", "()V"⟩, prog_3_method_10_code, 3, none, [], 1, 1, 2, 48),
  (⟨"PortableFiles$Extras", "copyFrom", "(LPortableFiles$Extras;)V"⟩, prog_3_method_11_code, 2, none, [], 1, 2, 1, 26),
  (⟨"PortableFiles$Extras", "move", "(II)V"⟩, prog_3_method_12_code, 3, none, [], 1, 3, 1, 26),
  (⟨"PortableFiles$Palette", "<init>", "()V"⟩, prog_6_method_1_code, 1, none, [], 2, 1, 1, 20),
  (⟨"PortableFiles$Palette", "most", "(I)I"⟩, prog_6_method_2_code, 1, (some .int), [], 2, 1, 1, 21)]
def pmMs_3 : List pmMeth := [(⟨"PortableFiles$Palette", "clear", "()V"⟩, prog_6_method_3_code, 1, none, [], 2, 1, 0, 0),
  (⟨"PortableFiles$Palette", "has", "(I)Z"⟩, prog_6_method_4_code, 2, (some .boolean), [], 2, 2, 0, 0),
  (⟨"PortableFiles$Palette", "part", "(II)I"⟩, prog_6_method_5_code, 3, (some .int), [], 2, 3, 1, 21),
  (⟨"PortableFiles$Palette", "add", "(IIII)V"⟩, prog_6_method_6_code, 6, none, [], 2, 5, 0, 0),
  (⟨"PortableFiles$Palette", "setAlpha", "(II)V"⟩, prog_6_method_7_code, 3, none, [], 2, 3, 1, 21),
  (⟨"PortableFiles$Palette", "alphasToTell", "()I"⟩, prog_6_method_8_code, 2, (some .int), [], 2, 1, 2, 43),
  (⟨"PortableFiles$Palette", "copyFrom", "(LPortableFiles$Palette;)V"⟩, prog_6_method_9_code, 2, none, [], 2, 2, 1, 26),
  (⟨"PortableFiles$Picture", "<init>", "()V"⟩, prog_7_method_1_code, 1, none, [], 3, 1, 2, 40),
  (⟨"PortableFiles$Picture", "begin", "(IIII)V"⟩, prog_7_method_2_code, 5, none, [], 3, 5, 2, 43),
  (⟨"PortableFiles$Picture", "become", "(II)V"⟩, prog_7_method_3_code, 3, none, [], 3, 3, 1, 20),
  (⟨"PortableFiles$Picture", "has", "(III)Z"⟩, prog_7_method_4_code, 4, (some .boolean), [], 3, 4, 0, 0),
  (⟨"PortableFiles$Picture", "sample", "(III)I"⟩, prog_7_method_5_code, 4, (some .int), [], 3, 4, 1, 23),
  (⟨"PortableFiles$Picture", "setSample", "(IIII)V"⟩, prog_7_method_6_code, 5, none, [], 3, 5, 1, 23),
  (⟨"PortableFiles$Picture", "sampleMayBe", "(I)Z"⟩, prog_7_method_7_code, 2, (some .boolean), [], 3, 2, 1, 21),
  (⟨"PortableFiles$Picture", "hasChanged", "()V"⟩, prog_7_method_8_code, 1, none, [], 3, 1, 3, 70),
  (⟨"PortableFiles$Picture", "copyFrom", "(LPortableFiles$Picture;)V"⟩, prog_7_method_9_code, 2, none, [], 3, 2, 2, 47)]
def pmMs_4 : List pmMeth := [(⟨"PortableFiles$Picture", "placeOf", "(III)I"⟩, prog_7_method_10_code, 3, (some .int), [], 3, 3, 0, 0),
  (⟨"PortableFiles$Reading", "<init>", "()V"⟩, prog_8_method_1_code, 1, none, [], 4, 1, 3, 60),
  (⟨"PortableFiles$Reading", "run", "()V"⟩, prog_8_method_2_code, 2, none, [], 4, 1, 6, 134),
  (⟨"PortableFiles$Reading", "begin", "()V"⟩, prog_8_method_3_code, 2, none, [], 4, 1, 3, 63),
  (⟨"PortableFiles$Reading", "readChunk", "()I"⟩, prog_8_method_4_code, 2, (some .int), [], 4, 1, 5, 113),
  (⟨"PortableFiles$Reading", "frameFault", "()I"⟩, prog_8_method_5_code, 1, (some .int), [], 4, 1, 3, 63),
  (⟨"PortableFiles$Reading", "leaveOut", "()I"⟩, prog_8_method_6_code, 1, (some .int), [], 4, 1, 2, 41),
  (⟨"PortableFiles$Reading", "noteRowsEnd", "()V"⟩, prog_8_method_7_code, 1, none, [], 4, 1, 0, 0),
  (⟨"PortableFiles$Reading", "orderIsWrong", "()Z"⟩, prog_8_method_8_code, 1, (some .boolean), [], 4, 1, 3, 62),
  (⟨"PortableFiles$Reading", "isGreyKind", "()Z"⟩, prog_8_method_9_code, 1, (some .boolean), [], 4, 1, 0, 0),
  (⟨"PortableFiles$Reading", "isUnknown", "()Z"⟩, prog_8_method_10_code, 1, (some .boolean), [], 4, 1, 2, 41),
  (⟨"PortableFiles$Reading", "takeIn", "()Z"⟩, prog_8_method_11_code, 2, (some .boolean), [], 4, 1, 4, 92),
  (⟨"PortableFiles$Reading", "takeHead", "(I)Z"⟩, prog_8_method_12_code, 6, (some .boolean), [], 4, 2, 3, 67),
  (⟨"PortableFiles$Reading", "takeTag", "(II)Z"⟩, prog_8_method_13_code, 3, (some .boolean), [], 4, 3, 2, 42),
  (⟨"PortableFiles$Reading", "takePalette", "(I)Z"⟩, prog_8_method_14_code, 5, (some .boolean), [], 4, 2, 2, 42),
  (⟨"PortableFiles$Reading", "takeAlphas", "(I)Z"⟩, prog_8_method_15_code, 3, (some .boolean), [], 4, 2, 2, 43)]
def pmMs_5 : List pmMeth := [(⟨"PortableFiles$Reading", "takeRows", "(I)Z"⟩, prog_8_method_16_code, 3, (some .boolean), [], 4, 2, 2, 42),
  (⟨"PortableFiles$Reading", "takeExtra", "(I)Z"⟩, prog_8_method_17_code, 4, (some .boolean), [], 4, 2, 2, 43),
  (⟨"PortableFiles$Reading", "end", "()I"⟩, prog_8_method_18_code, 1, (some .int), [], 4, 1, 4, 99),
  (⟨"PortableFiles$Tags", "<init>", "()V"⟩, prog_11_method_1_code, 1, none, [], 5, 1, 1, 20),
  (⟨"PortableFiles$Tags", "isTag", "(I)Z"⟩, prog_11_method_2_code, 1, (some .boolean), [], 5, 1, 0, 0),
  (⟨"PortableFiles$Tags", "mayBe", "(II)Z"⟩, prog_11_method_3_code, 2, (some .boolean), [], 5, 2, 0, 0),
  (⟨"PortableFiles$Tags", "clear", "()V"⟩, prog_11_method_4_code, 1, none, [], 5, 1, 1, 23),
  (⟨"PortableFiles$Tags", "has", "(I)Z"⟩, prog_11_method_5_code, 2, (some .boolean), [], 5, 2, 2, 41),
  (⟨"PortableFiles$Tags", "value", "(I)I"⟩, prog_11_method_6_code, 2, (some .int), [], 5, 2, 1, 20),
  (⟨"PortableFiles$Tags", "set", "(II)V"⟩, prog_11_method_7_code, 3, none, [], 5, 3, 1, 20),
  (⟨"PortableFiles$Tags", "copyFrom", "(LPortableFiles$Tags;)V"⟩, prog_11_method_8_code, 2, none, [], 5, 2, 1, 26),
  (⟨"PortableFiles$Writing", "<init>", "()V"⟩, prog_12_method_1_code, 1, none, [], 6, 1, 2, 41),
  (⟨"PortableFiles$Writing", "run", "(LPortableFiles$Picture;)V"⟩, prog_12_method_2_code, 2, none, [], 6, 2, 5, 118),
  (⟨"PortableFiles$Writing", "open", "(I)V"⟩, prog_12_method_3_code, 2, none, [], 6, 2, 2, 42),
  (⟨"PortableFiles$Writing", "close", "()V"⟩, prog_12_method_4_code, 2, none, [], 6, 1, 3, 67),
  (⟨"PortableFiles$Writing", "addHead", "(LPortableFiles$Picture;)V"⟩, prog_12_method_5_code, 2, none, [], 6, 2, 4, 88)]
def pmMs_6 : List pmMeth := [(⟨"PortableFiles$Writing", "addTags", "(LPortableFiles$Tags;)V"⟩, prog_12_method_6_code, 2, none, [], 6, 2, 4, 88),
  (⟨"PortableFiles$Writing", "addPalette", "(LPortableFiles$Palette;)V"⟩, prog_12_method_7_code, 4, none, [], 6, 2, 4, 88),
  (⟨"PortableFiles$Writing", "addAlphas", "(LPortableFiles$Palette;)V"⟩, prog_12_method_8_code, 4, none, [], 6, 2, 4, 88),
  (⟨"PortableFiles$Writing", "addRows", "(LPortableFiles$Picture;)V"⟩, prog_12_method_9_code, 5, none, [], 6, 2, 4, 94),
  (⟨"PortableFiles$Writing", "addExtras", "(LPortableFiles$Extras;)V"⟩, prog_12_method_10_code, 4, none, [], 6, 2, 4, 88),
  (⟨"PortableFiles", "<init>", "()V"⟩, prog_1_method_1_code, 1, none, [], 7, 1, 4, 80),
  (⟨"PortableFiles", "head", "(IIII)V"⟩, prog_1_method_2_code, 5, none, [], 7, 5, 6, 90),
  (⟨"PortableFiles", "colour", "(IIII)I"⟩, prog_1_method_3_code, 5, (some .int), [], 7, 5, 6, 90),
  (⟨"PortableFiles", "put", "(IIII)I"⟩, prog_1_method_4_code, 6, (some .int), [], 7, 5, 7, 110),
  (⟨"PortableFiles", "tag", "(II)I"⟩, prog_1_method_5_code, 4, (some .int), [], 7, 3, 7, 110),
  (⟨"PortableFiles", "extra", "(I)I"⟩, prog_1_method_6_code, 2, (some .int), [], 7, 2, 7, 110),
  (⟨"PortableFiles", "byteOf", "(II)I"⟩, prog_1_method_7_code, 3, (some .int), [], 7, 3, 7, 110),
  (⟨"PortableFiles", "reduce", "()I"⟩, prog_1_method_8_code, 1, (some .int), [], 7, 1, 7, 114),
  (⟨"PortableFiles", "write", "()I"⟩, prog_1_method_9_code, 1, (some .int), [], 7, 1, 7, 139),
  (⟨"PortableFiles", "byteAt", "(I)I"⟩, prog_1_method_10_code, 2, (some .int), [], 7, 2, 7, 111),
  (⟨"PortableFiles", "feed", "(I)I"⟩, prog_1_method_11_code, 2, (some .int), [], 7, 2, 7, 111)]
def pmMs_7 : List pmMeth := [(⟨"PortableFiles", "pass", "(II)I"⟩, prog_1_method_12_code, 5, (some .int), [], 7, 3, 7, 111),
  (⟨"PortableFiles", "alter", "(IIZ)I"⟩, prog_1_method_13_code, 5, (some .int), [], 7, 4, 7, 110),
  (⟨"PortableFiles", "read", "()I"⟩, prog_1_method_14_code, 1, (some .int), [], 7, 1, 7, 155),
  (⟨"PortableFiles", "at", "(III)I"⟩, prog_1_method_15_code, 4, (some .int), [], 7, 4, 7, 110),
  (⟨"PortableFiles", "found", "(I)I"⟩, prog_1_method_16_code, 2, (some .int), [], 7, 2, 7, 110),
  (⟨"PortableFiles", "entry", "(II)I"⟩, prog_1_method_17_code, 3, (some .int), [], 7, 3, 7, 110),
  (⟨"PortableFiles", "unknown", "(II)I"⟩, prog_1_method_18_code, 4, (some .int), [], 7, 3, 7, 110),
  (⟨"PortableFiles", "take", "()V"⟩, prog_1_method_19_code, 1, none, [], 7, 1, 7, 110),
  (⟨"PortableFiles", "told", "(I)I"⟩, prog_1_method_20_code, 2, (some .int), [], 7, 2, 0, 0),
  (⟨"PortableFiles", "drop", "()V"⟩, prog_1_method_21_code, 1, none, [], 7, 1, 1, 20),
  (⟨"PortableFiles", "needPicture", "()V"⟩, prog_1_method_22_code, 1, none, [], 7, 1, 6, 90),
  (⟨"PortableFiles", "needReading", "()V"⟩, prog_1_method_23_code, 1, none, [], 7, 1, 6, 90),
  (⟨"PortableFiles", "needWritten", "(I)V"⟩, prog_1_method_24_code, 2, none, [], 7, 2, 6, 90),
  (⟨"PortableFiles", "needRoom", "(I)V"⟩, prog_1_method_25_code, 2, none, [], 7, 2, 6, 90),
  (⟨"PortableFiles", "needByte", "(I)V"⟩, prog_1_method_26_code, 1, none, [], 7, 1, 6, 90),
  (⟨"PortableFiles", "isByte", "(I)Z"⟩, prog_1_method_27_code, 1, (some .boolean), [], 7, 1, 0, 0)]
def pmMs_8 : List pmMeth := [(⟨"PortableFilesModel", "<init>", "()V"⟩, prog_14_method_1_code, 1, none, [], 8, 1, 1, 20),
  (⟨"PortableFilesModel", "thrown", "()I"⟩, prog_14_method_2_code, 1, (some .int), [], 8, 1, 0, 0),
  (⟨"PortableFilesModel", "isGood", "(IIII)Z"⟩, prog_14_method_3_code, 6, (some .boolean), [], 8, 4, 0, 0),
  (⟨"PortableFilesModel", "channelsOf", "(I)I"⟩, prog_14_method_4_code, 1, (some .int), [], 8, 1, 0, 0),
  (⟨"PortableFilesModel", "mostEntries", "(I)I"⟩, prog_14_method_5_code, 1, (some .int), [], 8, 1, 0, 0),
  (⟨"PortableFilesModel", "head", "(IIII)V"⟩, prog_14_method_6_code, 6, none, [], 8, 5, 1, 25),
  (⟨"PortableFilesModel", "isByte", "(I)Z"⟩, prog_14_method_7_code, 1, (some .boolean), [], 8, 1, 0, 0),
  (⟨"PortableFilesModel", "change", "()V"⟩, prog_14_method_8_code, 4, none, [], 8, 1, 0, 0),
  (⟨"PortableFilesModel", "colour", "(IIII)I"⟩, prog_14_method_9_code, 5, (some .int), [], 8, 5, 1, 23),
  (⟨"PortableFilesModel", "put", "(IIII)I"⟩, prog_14_method_10_code, 7, (some .int), [], 8, 5, 1, 23),
  (⟨"PortableFilesModel", "mayBe", "(IJ)Z"⟩, prog_14_method_11_code, 3, (some .boolean), [], 8, 2, 0, 0),
  (⟨"PortableFilesModel", "tag", "(II)I"⟩, prog_14_method_12_code, 4, (some .int), [], 8, 3, 1, 22),
  (⟨"PortableFilesModel", "isGreat", "(I)Z"⟩, prog_14_method_13_code, 1, (some .boolean), [], 8, 1, 0, 0),
  (⟨"PortableFilesModel", "isSmall", "(I)Z"⟩, prog_14_method_14_code, 1, (some .boolean), [], 8, 1, 0, 0),
  (⟨"PortableFilesModel", "letter", "(II)I"⟩, prog_14_method_15_code, 2, (some .int), [], 8, 2, 0, 0),
  (⟨"PortableFilesModel", "areLetters", "(I)Z"⟩, prog_14_method_16_code, 3, (some .boolean), [], 8, 1, 1, 21)]
def pmMs_9 : List pmMeth := [(⟨"PortableFilesModel", "isOfOthers", "(I)Z"⟩, prog_14_method_17_code, 1, (some .boolean), [], 8, 1, 2, 43),
  (⟨"PortableFilesModel", "extra", "(I)I"⟩, prog_14_method_18_code, 2, (some .int), [], 8, 2, 3, 63),
  (⟨"PortableFilesModel", "byteOf", "(II)I"⟩, prog_14_method_19_code, 3, (some .int), [], 8, 3, 1, 20),
  (⟨"PortableFilesModel", "isFull", "(I)Z"⟩, prog_14_method_20_code, 4, (some .boolean), [], 8, 2, 0, 0),
  (⟨"PortableFilesModel", "isGrey", "()Z"⟩, prog_14_method_21_code, 3, (some .boolean), [], 8, 1, 0, 0),
  (⟨"PortableFilesModel", "greatest", "(I)I"⟩, prog_14_method_22_code, 1, (some .int), [], 8, 1, 0, 0),
  (⟨"PortableFilesModel", "fits", "(I)Z"⟩, prog_14_method_23_code, 5, (some .boolean), [], 8, 2, 1, 20),
  (⟨"PortableFilesModel", "lessen", "()V"⟩, prog_14_method_24_code, 4, none, [], 8, 1, 2, 44),
  (⟨"PortableFilesModel", "reduce", "()I"⟩, prog_14_method_25_code, 3, (some .int), [], 8, 1, 3, 67),
  (⟨"PortableFilesModel", "tell", "(I)V"⟩, prog_14_method_26_code, 2, none, [], 8, 2, 0, 0),
  (⟨"PortableFilesModel", "tellNumber", "(I)V"⟩, prog_14_method_27_code, 3, none, [], 8, 2, 1, 21),
  (⟨"PortableFilesModel", "sumOf", "([III)I"⟩, prog_14_method_28_code, 7, (some .int), [], 8, 3, 0, 0),
  (⟨"PortableFilesModel", "close", "(I)V"⟩, prog_14_method_29_code, 4, none, [], 8, 2, 2, 43),
  (⟨"PortableFilesModel", "open", "(I)I"⟩, prog_14_method_30_code, 3, (some .int), [], 8, 2, 2, 43),
  (⟨"PortableFilesModel", "writeTags", "()V"⟩, prog_14_method_31_code, 2, none, [], 8, 1, 3, 66),
  (⟨"PortableFilesModel", "writePalette", "()V"⟩, prog_14_method_32_code, 4, none, [], 8, 1, 3, 66)]
def pmMs_10 : List pmMeth := [(⟨"PortableFilesModel", "bytesInRow", "(III)I"⟩, prog_14_method_33_code, 3, (some .int), [], 8, 3, 1, 20),
  (⟨"PortableFilesModel", "rowByte", "(I)I"⟩, prog_14_method_34_code, 9, (some .int), [], 8, 2, 2, 42),
  (⟨"PortableFilesModel", "writeRows", "()V"⟩, prog_14_method_35_code, 5, none, [], 8, 1, 3, 70),
  (⟨"PortableFilesModel", "mark", "(I)I"⟩, prog_14_method_36_code, 1, (some .int), [], 8, 1, 0, 0),
  (⟨"PortableFilesModel", "write", "()I"⟩, prog_14_method_37_code, 4, (some .int), [], 8, 1, 4, 94),
  (⟨"PortableFilesModel", "byteAt", "(I)I"⟩, prog_14_method_38_code, 2, (some .int), [], 8, 2, 0, 0),
  (⟨"PortableFilesModel", "feed", "(I)I"⟩, prog_14_method_39_code, 2, (some .int), [], 8, 2, 1, 20),
  (⟨"PortableFilesModel", "pass", "(II)I"⟩, prog_14_method_40_code, 5, (some .int), [], 8, 3, 0, 0),
  (⟨"PortableFilesModel", "four", "([II)I"⟩, prog_14_method_41_code, 2, (some .int), [], 8, 2, 0, 0),
  (⟨"PortableFilesModel", "endOf", "(I)I"⟩, prog_14_method_42_code, 3, (some .int), [], 8, 2, 1, 21),
  (⟨"PortableFilesModel", "alter", "(IIZ)I"⟩, prog_14_method_43_code, 9, (some .int), [], 8, 4, 2, 43),
  (⟨"PortableFilesModel", "breakBy", "(ZII)V"⟩, prog_14_method_44_code, 4, none, [], 8, 4, 0, 0),
  (⟨"PortableFilesModel", "tagOf", "(I)I"⟩, prog_14_method_45_code, 1, (some .int), [], 8, 1, 0, 0),
  (⟨"PortableFilesModel", "isOutOfOrder", "(I)Z"⟩, prog_14_method_46_code, 3, (some .boolean), [], 8, 2, 1, 20),
  (⟨"PortableFilesModel", "takeHead", "(II)Z"⟩, prog_14_method_47_code, 3, (some .boolean), [], 8, 3, 1, 25),
  (⟨"PortableFilesModel", "takeTag", "(III)Z"⟩, prog_14_method_48_code, 5, (some .boolean), [], 8, 4, 1, 22)]
def pmMs_11 : List pmMeth := [(⟨"PortableFilesModel", "takePalette", "(II)Z"⟩, prog_14_method_49_code, 4, (some .boolean), [], 8, 3, 1, 20),
  (⟨"PortableFilesModel", "takeAlphas", "(II)Z"⟩, prog_14_method_50_code, 4, (some .boolean), [], 8, 3, 0, 0),
  (⟨"PortableFilesModel", "takeRows", "(II)Z"⟩, prog_14_method_51_code, 4, (some .boolean), [], 8, 3, 0, 0),
  (⟨"PortableFilesModel", "takeExtra", "(III)Z"⟩, prog_14_method_52_code, 5, (some .boolean), [], 8, 4, 0, 0),
  (⟨"PortableFilesModel", "takes", "(III)Z"⟩, prog_14_method_53_code, 4, (some .boolean), [], 8, 4, 2, 47),
  (⟨"PortableFilesModel", "rowBits", "(II)I"⟩, prog_14_method_54_code, 5, (some .int), [], 8, 3, 0, 0),
  (⟨"PortableFilesModel", "unpack", "()Z"⟩, prog_14_method_55_code, 8, (some .boolean), [], 8, 1, 2, 42),
  (⟨"PortableFilesModel", "begin", "()V"⟩, prog_14_method_56_code, 3, none, [], 8, 1, 1, 23),
  (⟨"PortableFilesModel", "chunk", "(I)I"⟩, prog_14_method_57_code, 6, (some .int), [], 8, 2, 3, 70),
  (⟨"PortableFilesModel", "read", "()I"⟩, prog_14_method_58_code, 4, (some .int), [], 8, 1, 4, 95),
  (⟨"PortableFilesModel", "at", "(III)I"⟩, prog_14_method_59_code, 4, (some .int), [], 8, 4, 1, 20),
  (⟨"PortableFilesModel", "found", "(I)I"⟩, prog_14_method_60_code, 2, (some .int), [], 8, 2, 0, 0),
  (⟨"PortableFilesModel", "entry", "(II)I"⟩, prog_14_method_61_code, 3, (some .int), [], 8, 3, 0, 0),
  (⟨"PortableFilesModel", "unknown", "(II)I"⟩, prog_14_method_62_code, 3, (some .int), [], 8, 3, 0, 0),
  (⟨"PortableFilesModel", "take", "()V"⟩, prog_14_method_63_code, 2, none, [], 8, 1, 0, 0),
  (⟨"PortableFilesModel", "told", "(I)I"⟩, prog_14_method_64_code, 2, (some .int), [], 8, 2, 0, 0)]
def pmMs_12 : List pmMeth := [(⟨"PortableFilesModel", "drop", "()V"⟩, prog_14_method_65_code, 1, none, [], 8, 1, 0, 0),
  (⟨"PortableFiles$Shape", "mayBe", "(IIII)Z"⟩, prog_10_method_2_code, 4, (some .boolean), [], 9, 4, 1, 21),
  (⟨"PortableFiles$Shape", "channelsOf", "(I)I"⟩, prog_10_method_3_code, 1, (some .int), [], 9, 1, 0, 0),
  (⟨"PortableFiles$Shape", "greatest", "(I)I"⟩, prog_10_method_4_code, 1, (some .int), [], 9, 1, 0, 0),
  (⟨"PortableFiles$Shape", "sideMayBe", "(I)Z"⟩, prog_10_method_5_code, 1, (some .boolean), [], 9, 1, 0, 0),
  (⟨"PortableFiles$Shape", "bitsMayBe", "(II)Z"⟩, prog_10_method_6_code, 2, (some .boolean), [], 9, 2, 0, 0),
  (⟨"PortableFiles$Letters", "mayBe", "(I)Z"⟩, prog_5_method_2_code, 1, (some .boolean), [], 10, 1, 2, 40),
  (⟨"PortableFiles$Letters", "areOfExtra", "(I)Z"⟩, prog_5_method_3_code, 1, (some .boolean), [], 10, 1, 3, 60),
  (⟨"PortableFiles$Letters", "firstIsGreat", "(I)Z"⟩, prog_5_method_4_code, 1, (some .boolean), [], 10, 1, 1, 21),
  (⟨"PortableFiles$Letters", "fourthIsGreat", "(I)Z"⟩, prog_5_method_5_code, 1, (some .boolean), [], 10, 1, 1, 21),
  (⟨"PortableFiles$Letters", "letter", "(II)I"⟩, prog_5_method_6_code, 2, (some .int), [], 10, 2, 0, 0),
  (⟨"PortableFiles$Letters", "isLetter", "(I)Z"⟩, prog_5_method_7_code, 1, (some .boolean), [], 10, 1, 1, 20),
  (⟨"PortableFiles$Letters", "isGreat", "(I)Z"⟩, prog_5_method_8_code, 1, (some .boolean), [], 10, 1, 0, 0),
  (⟨"PortableFiles$Rows", "lengthOf", "(LPortableFiles$Picture;)I"⟩, prog_9_method_2_code, 1, (some .int), [], 11, 1, 2, 40),
  (⟨"PortableFiles$Rows", "pack", "(LPortableFiles$Picture;LPortableFiles$Bytes;)V"⟩, prog_9_method_3_code, 3, none, [], 11, 2, 3, 72),
  (⟨"PortableFiles$Rows", "unpack", "(LPortableFiles$Bytes;LPortableFiles$Picture;)Z"⟩, prog_9_method_4_code, 5, (some .boolean), [], 11, 2, 3, 75)]
def pmMs_13 : List pmMeth := [(⟨"PortableFiles$Rows", "packRow", "(LPortableFiles$Picture;ILPortableFiles$Bytes;)V"⟩, prog_9_method_5_code, 7, none, [], 11, 3, 2, 46),
  (⟨"PortableFiles$Rows", "unpackRow", "(LPortableFiles$Bytes;ILPortableFiles$Picture;I)Z"⟩, prog_9_method_6_code, 9, (some .boolean), [], 11, 4, 2, 47),
  (⟨"PortableFiles$Rows", "isFilledWithNought", "(ILPortableFiles$Picture;)Z"⟩, prog_9_method_7_code, 3, (some .boolean), [], 11, 2, 1, 20),
  (⟨"PortableFiles$Rows", "rowLength", "(LPortableFiles$Picture;)I"⟩, prog_9_method_8_code, 1, (some .int), [], 11, 1, 1, 20),
  (⟨"PortableFiles$Rows", "rowBits", "(LPortableFiles$Picture;)I"⟩, prog_9_method_9_code, 1, (some .int), [], 11, 1, 0, 0),
  (⟨"PortableFiles$Lessening", "lessen", "(LPortableFiles$Picture;)V"⟩, prog_4_method_2_code, 3, none, [], 12, 1, 4, 92),
  (⟨"PortableFiles$Lessening", "lessenAlpha", "(LPortableFiles$Picture;)V"⟩, prog_4_method_3_code, 1, none, [], 12, 1, 3, 69),
  (⟨"PortableFiles$Lessening", "lessenColours", "(LPortableFiles$Picture;)V"⟩, prog_4_method_4_code, 1, none, [], 12, 1, 3, 69),
  (⟨"PortableFiles$Lessening", "lessenGreyBits", "(LPortableFiles$Picture;)V"⟩, prog_4_method_5_code, 3, none, [], 12, 1, 3, 70),
  (⟨"PortableFiles$Lessening", "lessenPaletteBits", "(LPortableFiles$Picture;)V"⟩, prog_4_method_6_code, 2, none, [], 12, 1, 2, 42),
  (⟨"PortableFiles$Lessening", "isOpaque", "(LPortableFiles$Picture;)Z"⟩, prog_4_method_7_code, 4, (some .boolean), [], 12, 1, 2, 46),
  (⟨"PortableFiles$Lessening", "isGreyEverywhere", "(LPortableFiles$Picture;)Z"⟩, prog_4_method_8_code, 4, (some .boolean), [], 12, 1, 2, 46),
  (⟨"PortableFiles$Lessening", "allAreTimes", "(LPortableFiles$Picture;I)Z"⟩, prog_4_method_9_code, 4, (some .boolean), [], 12, 2, 2, 46),
  (⟨"PortableFiles$Lessening", "divideAll", "(LPortableFiles$Picture;I)V"⟩, prog_4_method_10_code, 4, none, [], 12, 2, 2, 47),
  (⟨"java/util/Arrays", "fill", "([II)V"⟩, prog_25_method_103_code, 4, none, [], 14, 2, 0, 0),
  (⟨"java/lang/Math", "min", "(II)I"⟩, prog_19_method_69_code, 2, (some .int), [], 15, 2, 0, 0)]
def pmMs : List pmMeth := pmMs_0 ++ pmMs_1 ++ pmMs_2 ++ pmMs_3 ++ pmMs_4 ++ pmMs_5 ++ pmMs_6 ++ pmMs_7 ++ pmMs_8 ++ pmMs_9 ++ pmMs_10 ++ pmMs_11 ++ pmMs_12 ++ pmMs_13
def pmFlT : List (List (Nat × Nat × Nat × Nat)) := [[(7, 0, 0, 161), (13, 0, 1, 162)], [(9, 1, 0, 72), (13, 1, 1, 73), (16, 1, 2, 74), (19, 1, 3, 75)], [(9, 2, 0, 44), (25, 2, 1, 45)], [(12, 3, 0, 88), (21, 3, 1, 93), (28, 3, 2, 97), (32, 3, 3, 101), (36, 3, 5, 104), (40, 3, 6, 109), (43, 3, 7, 114), (46, 3, 8, 120), (49, 3, 9, 125), (52, 3, 4, 102)], [(14, 4, 0, 191), (23, 4, 1, 193), (29, 4, 2, 195), (35, 4, 4, 198), (39, 4, 3, 196), (47, 4, 9, 207), (56, 4, 5, 200), (59, 4, 8, 206), (66, 4, 6, 202), (69, 4, 7, 204), (72, 4, 10, 208), (78, 4, 11, 209), (81, 4, 12, 210), (84, 4, 13, 211), (87, 4, 14, 212), (90, 4, 15, 213), (134, 3, 1, 96), (146, 3, 8, 124), (185, 3, 7, 119), (193, 3, 0, 92), (200, 2, 1, 49), (210, 3, 2, 100), (217, 1, 3, 78)], [(9, 5, 0, 62)], [(14, 6, 0, 170), (20, 6, 1, 172), (33, 3, 1, 94), (43, 3, 8, 122), (49, 3, 0, 89), (63, 3, 2, 98), (80, 0, 1, 163), (83, 6, 2, 173), (98, 3, 5, 105), (101, 3, 6, 111), (104, 3, 7, 118), (124, 2, 1, 48), (146, 1, 3, 77)], [(10, 7, 0, 247), (19, 7, 1, 248), (26, 7, 2, 249), (47, 3, 4, 103), (51, 3, 8, 123), (66, 3, 0, 90), (70, 2, 1, 46), (75, 3, 7, 116), (129, 3, 1, 95), (147, 3, 2, 99), (162, 1, 3, 76), (189, 6, 0, 171), (193, 0, 1, 164), (203, 4, 0, 192), (224, 4, 3, 197), (227, 4, 6, 203), (230, 4, 5, 201), (236, 4, 1, 194), (239, 3, 5, 108), (242, 3, 6, 113), (245, 4, 7, 205), (268, 4, 4, 199)], [(7, 8, 6, 1042), (13, 8, 8, 1044), (16, 8, 9, 1045), (19, 8, 11, 1047), (22, 8, 12, 1048), (25, 8, 13, 1049), (28, 8, 19, 1055), (31, 8, 21, 1057), (34, 8, 22, 1058), (37, 8, 24, 1060), (40, 8, 25, 1061), (43, 8, 26, 1062), (46, 8, 29, 1065), (49, 8, 31, 1067), (52, 8, 34, 1070), (55, 8, 41, 1077), (59, 8, 0, 1036), (67, 8, 1, 1037), (71, 8, 2, 1038), (74, 8, 3, 1039), (77, 8, 4, 1040), (80, 8, 5, 1041), (83, 8, 7, 1043), (86, 8, 10, 1046), (147, 8, 30, 1066), (196, 8, 32, 1068), (206, 8, 28, 1064), (209, 8, 33, 1069), (212, 8, 36, 1072), (218, 8, 39, 1075), (221, 8, 37, 1073), (224, 8, 18, 1054), (227, 8, 38, 1074), (230, 8, 40, 1076), (233, 8, 15, 1051), (236, 8, 16, 1052), (239, 8, 17, 1053), (242, 8, 20, 1056), (245, 8, 35, 1071), (248, 8, 23, 1059), (274, 8, 14, 1050), (277, 8, 27, 1063)], [], [], [(15, 3, 6, 110), (46, 3, 5, 106), (49, 3, 9, 126), (52, 3, 7, 117)], [(7, 3, 8, 121), (13, 3, 7, 115), (59, 3, 0, 91), (63, 2, 1, 47), (71, 3, 9, 127), (74, 3, 6, 112), (77, 3, 5, 107)], [], [], []]
def pmStT : List (List (Nat × Nat × Nat)) := [[(33, 0, 273), (46, 1, 330)], [], [], [], [], [], [], [], [], [], [], [], [], [], [], []]
def pmCoT : List (List (Nat × Int32 × Nat)) := [[], [], [], [], [(52, 1229278788, 369), (132, 1229209940, 343), (133, 1229472850, 348), (151, 1347179589, 368)], [], [(73, 1229278788, 909), (97, 1229472850, 828), (116, 1732332865, 856), (121, 1934772034, 858), (122, 1883789683, 859), (123, 1347179589, 864), (134, 1951551059, 878), (144, 1229209940, 893)], [], [(124, 1732332865, 1224), (125, 1934772034, 1225), (126, 1883789683, 1226), (127, 1951551059, 1227), (173, 1347179589, 1293), (178, 1229209940, 1301), (185, 1229472850, 1266), (195, 1229278788, 1306)], [], [(26, 1732332865, 736), (27, 1934772034, 737), (28, 1883789683, 738), (29, 1951551059, 739)], [], [], [], [], []]
def pmCjT : List (List (Nat × Int64 × Nat)) := [[], [], [], [], [], [], [], [], [(103, 3, 1203), (105, 2147483647, 1204), (154, 4294967295, 1282), (156, 2, 1283), (158, 3988292384, 1284)], [], [], [], [], [], [], []]
def pmNwT : List (List (Nat × Nat × Nat)) := [[], [], [], [(9, 2, 38), (18, 5, 56), (25, 1, 66)], [(9, 0, 187), (20, 3, 189)], [], [(7, 0, 155)], [(7, 3, 32), (16, 6, 149), (23, 4, 181)], [], [], [], [], [], [(8, 7, 24), (76, 8, 1030)], [], []]
def pmXnT : List (List (Nat × Nat × Nat)) := [[], [], [], [], [], [], [], [(36, 1, 539), (55, 0, 618), (82, 3, 639), (100, 2, 688)], [], [], [], [], [], [], [], []]
def pmXcT : List (List (Nat × Nat × Nat)) := [[], [], [], [], [], [], [], [(40, 1, 582), (59, 0, 628), (86, 3, 649), (104, 2, 698)], [], [], [], [], [], [], [], []]
def pmMtT : List (List (Nat × Nat × Nat × Nat)) := [[(17, 19, 0, 275), (21, 20, 0, 279), (25, 21, 0, 846), (29, 22, 0, 823), (36, 33, 0, 322), (40, 23, 0, 325), (43, 31, 0, 326), (49, 29, 0, 959), (53, 28, 0, 960), (56, 24, 0, 961)], [(23, 37, 0, 476), (27, 39, 0, 908), (31, 36, 0, 471), (35, 201, 0, 664), (40, 45, 0, 667)], [(13, 195, 0, 429), (19, 223, 0, 432), (29, 49, 0, 447), (33, 50, 0, 877)], [(11, 46, 1, 40), (20, 83, 1, 58), (27, 34, 1, 68), (56, 194, 0, 392), (60, 222, 0, 395), (66, 48, 0, 398), (69, 86, 0, 402), (70, 35, 0, 407), (71, 58, 0, 514), (75, 64, 0, 518), (79, 195, 0, 508), (82, 49, 0, 509), (85, 43, 0, 660), (94, 54, 0, 1016), (98, 90, 0, 1021), (101, 44, 0, 1026)], [(11, 17, 0, 188), (22, 55, 1, 190), (32, 67, 0, 265), (43, 68, 0, 287), (53, 82, 0, 480), (62, 27, 0, 269), (75, 18, 0, 283), (93, 69, 0, 291), (96, 30, 0, 318), (100, 70, 0, 332), (103, 72, 0, 344), (106, 74, 0, 364), (109, 75, 0, 370), (112, 71, 0, 339), (115, 29, 0, 295), (118, 23, 0, 299), (122, 28, 0, 303), (126, 198, 0, 306), (129, 200, 0, 336), (140, 87, 0, 349), (143, 73, 0, 360), (152, 76, 0, 374), (155, 77, 0, 411), (158, 20, 0, 378), (161, 78, 0, 422), (164, 79, 0, 439), (167, 80, 0, 451), (170, 81, 0, 459), (173, 193, 0, 379), (176, 56, 0, 388), (179, 85, 0, 415), (181, 89, 0, 418), (188, 47, 0, 426), (197, 51, 0, 435), (203, 52, 0, 443), (206, 22, 0, 455), (214, 36, 0, 463), (218, 41, 0, 467), (219, 42, 0, 472), (222, 205, 0, 484), (226, 207, 0, 493)], [(15, 222, 0, 406), (21, 88, 0, 353), (25, 84, 0, 357)], [(11, 17, 0, 157), (23, 18, 0, 818), (26, 26, 0, 819), (29, 95, 0, 824), (39, 96, 0, 851), (53, 97, 0, 860), (57, 98, 0, 869), (60, 99, 0, 879), (67, 100, 0, 895), (74, 93, 0, 829), (77, 94, 0, 838), (86, 25, 0, 833), (89, 24, 0, 842), (93, 31, 0, 850), (107, 22, 0, 837), (112, 87, 0, 855), (117, 88, 0, 857), (127, 50, 0, 865), (130, 53, 0, 873), (135, 206, 0, 883), (139, 223, 0, 892), (145, 20, 0, 894), (149, 38, 0, 899), (152, 39, 0, 903), (155, 40, 0, 904)], [(9, 55, 1, 34), (18, 91, 1, 151), (25, 65, 1, 183), (30, 193, 0, 538), (43, 56, 0, 608), (60, 127, 0, 634), (78, 47, 0, 638), (87, 51, 0, 655), (90, 62, 0, 656), (93, 122, 0, 682), (96, 58, 0, 687), (105, 61, 0, 704), (110, 59, 0, 706), (114, 60, 0, 710), (117, 84, 0, 718), (124, 85, 0, 720), (133, 88, 0, 722), (136, 89, 0, 723), (140, 199, 0, 731), (151, 36, 0, 741), (159, 41, 0, 743), (163, 37, 0, 751), (167, 126, 0, 753), (170, 39, 0, 757), (175, 42, 0, 762), (178, 213, 0, 770), (186, 92, 0, 814), (196, 124, 0, 917), (199, 20, 0, 923), (200, 125, 0, 931), (206, 22, 0, 936), (209, 223, 0, 945), (215, 19, 0, 921), (218, 21, 0, 954), (219, 32, 0, 955), (222, 66, 0, 261), (233, 123, 0, 969), (248, 49, 0, 989), (253, 50, 0, 992), (260, 38, 0, 1002), (263, 40, 0, 1003), (265, 63, 0, 1011), (271, 18, 0, 529)], [(63, 130, 0, 1172), (89, 134, 0, 1179), (93, 132, 0, 1182), (97, 135, 0, 1185), (100, 131, 0, 1193), (107, 138, 0, 1200), (111, 142, 0, 1215), (115, 140, 0, 1218), (118, 141, 0, 1221), (121, 143, 0, 1212), (128, 144, 0, 1209), (131, 149, 0, 1252), (134, 147, 0, 1240), (137, 148, 0, 1244), (141, 150, 0, 1248), (144, 151, 0, 1236), (150, 153, 0, 1262), (160, 155, 0, 1279), (164, 154, 0, 1271), (167, 157, 0, 1267), (170, 156, 0, 1275), (174, 160, 0, 1298), (179, 161, 0, 1302), (182, 163, 0, 1259), (186, 158, 0, 1285), (189, 159, 0, 1289), (192, 162, 0, 1294), (199, 168, 0, 1327), (203, 169, 0, 1323), (215, 172, 0, 1350), (251, 174, 0, 1357), (255, 176, 0, 1361), (258, 177, 0, 1365), (261, 178, 0, 1369), (264, 179, 0, 1373), (268, 175, 0, 1377), (271, 181, 0, 1385), (280, 171, 0, 1338), (284, 173, 0, 1346), (287, 180, 0, 1353), (290, 182, 0, 1381), (293, 183, 0, 1334), (296, 184, 0, 1342)], [(7, 196, 0, 382), (13, 197, 0, 385)], [(7, 202, 0, 309), (13, 203, 0, 312), (17, 204, 0, 315), (20, 198, 0, 734), (23, 200, 0, 735)], [(9, 211, 0, 487), (21, 18, 0, 886), (26, 22, 0, 887), (30, 208, 0, 888), (34, 20, 0, 496), (38, 210, 0, 497), (42, 209, 0, 501), (55, 59, 0, 891), (59, 195, 0, 500), (62, 61, 0, 504), (66, 60, 0, 510), (70, 212, 0, 490)], [(16, 214, 0, 773), (22, 215, 0, 784), (25, 216, 0, 790), (30, 217, 0, 801), (33, 62, 0, 805), (36, 218, 0, 776), (40, 57, 0, 780), (44, 219, 0, 787), (47, 195, 0, 793), (51, 220, 0, 794), (55, 221, 0, 797), (68, 47, 0, 804), (80, 59, 0, 779), (84, 60, 0, 800)], [(7, 102, 0, 534), (15, 103, 0, 614), (23, 104, 0, 678), (28, 105, 0, 714), (32, 106, 0, 727), (36, 107, 0, 747), (39, 108, 0, 766), (43, 109, 0, 809), (46, 110, 0, 913), (49, 111, 0, 927), (52, 112, 0, 940), (55, 113, 0, 949), (59, 115, 0, 965), (63, 116, 0, 978), (66, 117, 0, 985), (69, 118, 0, 996), (72, 119, 0, 1007), (75, 101, 0, 26), (78, 128, 0, 1032), (79, 0, 0, 530), (84, 133, 0, 1168), (85, 129, 0, 1164), (88, 1, 0, 609), (91, 136, 0, 1175), (92, 2, 0, 674), (94, 137, 0, 1189), (95, 3, 0, 711), (98, 139, 0, 1196), (99, 4, 0, 724), (102, 145, 0, 1205), (103, 5, 0, 744), (105, 146, 0, 1228), (106, 6, 0, 763), (109, 152, 0, 1232), (110, 7, 0, 806), (112, 164, 0, 1255), (113, 8, 0, 910), (115, 165, 0, 1307), (116, 9, 0, 924), (118, 166, 0, 1311), (119, 10, 0, 937), (121, 167, 0, 1315), (122, 11, 0, 946), (125, 170, 0, 1319), (126, 114, 0, 257), (129, 185, 0, 1330), (130, 12, 0, 962), (133, 186, 0, 1389), (134, 13, 0, 975), (136, 187, 0, 1393), (137, 14, 0, 982), (139, 188, 0, 1397), (140, 15, 0, 993), (142, 189, 0, 1401), (143, 16, 0, 1004), (146, 190, 0, 1405), (147, 120, 0, 521), (150, 191, 0, 1409), (151, 121, 0, 525), (154, 192, 0, 1413)], [], []]
def pmObT : List (List (Nat × Nat)) := [[(1, 160)], [(1, 71)], [(1, 43)], [(3, 37)], [(3, 186)], [(3, 61)], [(1, 154)], [(1, 29)], [(1, 1035)], [], [], [], [], [], [], []]
def pmCpT : List (List (Nat × Nat)) := [[], [(44, 671)], [(36, 1020)], [(88, 1015)], [], [(29, 1025)], [], [], [], [], [], [], [], [], [], []]
def pmCaT : List (List (Nat × Nat × Nat)) := [[], [], [], [], [], [], [], [], [], [], [], [], [], [(13, 1, 533), (19, 0, 612), (21, 3, 613), (26, 2, 677)], [], []]
def pmSrT : List (List (Nat × Nat)) := [[], [], [], [], [], [], [], [(38, 581), (57, 627), (64, 637), (84, 648), (102, 697), (108, 705), (122, 719), (127, 721), (145, 740), (157, 742), (165, 752), (173, 761), (184, 813), (207, 944), (216, 953), (237, 974), (249, 990), (251, 991), (256, 1000), (258, 1001), (274, 686), (276, 973), (278, 922), (280, 935), (282, 756)], [], [], [], [], [], [], [], []]
def pmStr : List (Nat × String) := [(38, "no picture may have these sizes, bits or kind"), (57, "there is no picture with a palette"), (64, "a part of a colour is 0 .. 255"), (84, "the palette is full"), (102, "the picture has no such sample"), (108, "a sample has no such number"), (122, "there is no such tag"), (127, "this tag has no such number"), (145, "an extra may not have these letters"), (157, "there are as many extras as may be"), (165, "the picture has no such extra"), (173, "the extra has as many bytes as may be"), (184, "the palette has no entry"), (207, "fewer bytes than none"), (216, "no such byte was fed"), (237, "what was read has no such sample"), (249, "what was read has no such entry"), (251, "an entry has no such part"), (256, "what was read has no such extra"), (258, "the extra has no such byte"), (274, "there is no picture"), (276, "nothing was read"), (278, "no such byte was written"), (280, "no more bytes can be fed"), (282, "a byte is 0 .. 255")]
def pmXs : List String := ["java/lang/IllegalStateException", "java/lang/IllegalArgumentException", "java/lang/IndexOutOfBoundsException", "java/lang/UnsupportedOperationException"]
end
section
/-! ===== A SHALLOW PURE LAYER: a map of known cells instead of the heap; Go: the machine at a point of a method, for every heap that has the map ===== -/
abbrev pmC : Type := (Nat × (Nat → Int32)) ⊕ (Nat × (Nat → Int32)) ⊕ (Nat × (Nat → Int64)) ⊕ (Nat × (Nat → Int32)) ⊕ (Nat × List Value)
/-- an int array that may be written; an int array that may only be read; a long array; a boolean array; an object by its class's number -/
abbrev pmI (n : Nat) (f : Nat → Int32) : pmC := .inl (n, f)
abbrev pmT (n : Nat) (f : Nat → Int32) : pmC := .inr (.inl (n, f))
abbrev pmJ (n : Nat) (f : Nat → Int64) : pmC := .inr (.inr (.inl (n, f)))
abbrev pmB (n : Nat) (f : Nat → Int32) : pmC := .inr (.inr (.inr (.inl (n, f))))
abbrev pmO (ci : Nat) (fs : List Value) : pmC := .inr (.inr (.inr (.inr (ci, fs))))
abbrev pmH : Type := Nat → Option pmC
def pmU (h : pmH) (a : Nat) (c : pmC) : pmH := fun q => if q = a then some c else h q
theorem pmU_s (h : pmH) (a : Nat) (c : pmC) : pmU h a c a = some c := by simp [pmU]
theorem pmU_n (h : pmH) {a q : Nat} (c : pmC) (hq : q ≠ a) : pmU h a c q = h q := by simp [pmU, hq]
/-- the map; the heap's size where it is known; whether anything was made or written since the method began -/
abbrev pmS : Type := pmH × Option Nat × Bool
/-- an answer, or the number of an exception's class -/
abbrev pmA : Type := Option Value ⊕ Nat
abbrev pmL : Type := List (Option Value)
/-- what the world is fixed by: the launch; the first address that may be written; the classes' numbers and slots; the classes of int, long, boolean arrays; the static arrays' addresses -/
abbrev pmEv : Type := Launch × Nat × va_G × (ClassId × ClassId × ClassId) × (Nat → Nat)
abbrev pmA0 (E : pmEv) : Nat → Prop := fun q => E.2.1 ≤ q
abbrev pmTs (E : pmEv) : List (ClassId × FieldType) := [(E.2.2.2.1.1, .int), (E.2.2.2.1.2.1, .long), (E.2.2.2.1.2.2, .boolean)]
def pmCe (E : pmEv) (U : State) (H : Heap) (a : Nat) (c : pmC) : Prop := match c with
  | .inl q => E.2.1 ≤ a ∧ H[a]? = some (arrV E.2.2.2.1.1 q.1 (fun j => .int (q.2 j)))
  | .inr (.inl q) => va_T .int a q.1 (fun j => .int (q.2 j)) (pmA0 E) U H
  | .inr (.inr (.inl q)) => E.2.1 ≤ a ∧ H[a]? = some (arrV E.2.2.2.1.2.1 q.1 (fun j => .long (q.2 j)))
  | .inr (.inr (.inr (.inl q))) => E.2.1 ≤ a ∧ H[a]? = some (arrV E.2.2.2.1.2.2 q.1 (fun j => .int (q.2 j)))
  | .inr (.inr (.inr (.inr q))) => E.2.1 ≤ a ∧ ∃ r : vw_C, pmCl[q.1]? = some r ∧ q.2.length = r.2.2 ∧ t_OB a (E.2.2.1.1 q.1) r.2.2 (E.2.2.1.2 q.1) H (vp_V q.2)
def pmHI (E : pmEv) (U : State) (h : pmH) (H : Heap) : Prop := ∀ (a : Nat) (c : pmC), h a = some c → pmCe E U H a c
theorem pmCe.lt {E : pmEv} {U : State} {H : Heap} {a : Nat} {c : pmC} (h : pmCe E U H a c) : a < H.size := by
  match c, h with
  | .inl q, h => exact (Array.getElem?_eq_some_iff.mp h.2).1
  | .inr (.inl q), h => obtain ⟨cell, h1, -⟩ := h; exact (Array.getElem?_eq_some_iff.mp h1).1
  | .inr (.inr (.inl q)), h => exact (Array.getElem?_eq_some_iff.mp h.2).1
  | .inr (.inr (.inr (.inl q))), h => exact (Array.getElem?_eq_some_iff.mp h.2).1
  | .inr (.inr (.inr (.inr q))), h => obtain ⟨-, r, -, -, cell, h1, -⟩ := h; exact (Array.getElem?_eq_some_iff.mp h1).1
theorem pmCe.kept {E : pmEv} {U : State} {H H1 : Heap} {a : Nat} {c : pmC} (h : pmCe E U H a c) (hq : H1[a]? = H[a]?) : pmCe E U H1 a c := by
  match c, h with
  | .inl q, h => exact ⟨h.1, by rw [hq]; exact h.2⟩
  | .inr (.inl q), h => obtain ⟨cell, h1, h2⟩ := h; exact ⟨cell, by rw [hq]; exact h1, h2⟩
  | .inr (.inr (.inl q)), h => exact ⟨h.1, by rw [hq]; exact h.2⟩
  | .inr (.inr (.inr (.inl q))), h => exact ⟨h.1, by rw [hq]; exact h.2⟩
  | .inr (.inr (.inr (.inr q))), h => obtain ⟨h0, r, h1, h2, h3⟩ := h; exact ⟨h0, r, h1, h2, t_OB.kept h3 hq⟩
theorem pmCe.moved {E : pmEv} {u U : State} {H : Heap} {a : Nat} {c : pmC} (hvm : u.vm.Alike U.vm) (h : pmCe E u H a c) : pmCe E U H a c := by
  match c, h with
  | .inl q, h => exact h
  | .inr (.inl q), h => exact va_T.moved hvm h
  | .inr (.inr (.inl q)), h => exact h
  | .inr (.inr (.inr (.inl q))), h => exact h
  | .inr (.inr (.inr (.inr q))), h => exact h
theorem pmHI.moved {E : pmEv} {u U : State} {h : pmH} {H : Heap} (hvm : u.vm.Alike U.vm) (hh : pmHI E u h H) : pmHI E U h H := fun a c ha => (hh a c ha).moved hvm
/-- one cell is written -/
theorem pmHI.put {E : pmEv} {U : State} {h : pmH} {H H1 : Heap} {a : Nat} {c : pmC} (hh : pmHI E U h H) (hc : pmCe E U H1 a c) (ho : ∀ q : Nat, q ≠ a → H1[q]? = H[q]?) : pmHI E U (pmU h a c) H1 := by
  intro q d hd
  by_cases e : q = a
  · subst e
    rw [pmU_s] at hd
    cases hd
    exact hc
  · rw [pmU_n h c e] at hd
    exact (hh q d hd).kept (ho q e)
/-- one cell is made -/
theorem pmHI.new {E : pmEv} {U : State} {h : pmH} {H H1 : Heap} {c : pmC} (hh : pmHI E U h H) (hc : pmCe E U H1 H.size c) (ho : ∀ q : Nat, q < H.size → H1[q]? = H[q]?) : pmHI E U (pmU h H.size c) H1 := by
  intro q d hd
  by_cases e : q = H.size
  · subst e
    rw [pmU_s] at hd
    cases hd
    exact hc
  · rw [pmU_n h c e] at hd
    exact (hh q d hd).kept (ho q (hh q d hd).lt)
/-! the words that every method has: those of the tables that last -/
def pmW : List Cond := lw_tbl.filter goodWord
theorem pmW_in {w : Cond} (h : w ∈ lw_tbl) (hg : goodWord w = true) : w ∈ pmW := List.mem_filter.mpr ⟨h, hg⟩
theorem pmW_tb {i : Nat} {w : Cond} (h : tables_1[i]? = some w) (hg : goodWord w = true) : w ∈ pmW := pmW_in (List.mem_append_right _ (List.mem_of_getElem? h)) hg
theorem pmW_good : GoodIn lw_tbl pmW := fun w h => ⟨(List.mem_filter.mp h).1, good_of_word (List.mem_filter.mp h).2⟩
theorem pmW_self : GoodIn pmW pmW := fun w h => ⟨h, good_of_word (List.mem_filter.mp h).2⟩
/-! what is known of the tables and of the statics, at a state -/
def pmNest : List Cond := [.methodLinkNest "PortableFiles" 9 ⟨"PortableFiles$Picture", "<init>", "()V"⟩ "PortableFiles", .methodLinkNest "PortableFiles$Picture" 11 ⟨"PortableFiles$Palette", "<init>", "()V"⟩ "PortableFiles", .methodLinkNest "PortableFiles$Picture" 20 ⟨"PortableFiles$Tags", "<init>", "()V"⟩ "PortableFiles", .methodLinkNest "PortableFiles$Picture" 27 ⟨"PortableFiles$Extras", "<init>", "()V"⟩ "PortableFiles", .methodLinkNest "PortableFiles" 18 ⟨"PortableFiles$Writing", "<init>", "()V"⟩ "PortableFiles", .methodLinkNest "PortableFiles" 25 ⟨"PortableFiles$Reading", "<init>", "()V"⟩ "PortableFiles", .methodLinkNest "PortableFiles$Reading" 22 ⟨"PortableFiles$Picture", "<init>", "()V"⟩ "PortableFiles"]
end
section
/-! ===== printed by program (wip/whole/gen_facts.py): methods and pool entries by name, with their words ===== -/
def pmCw (M : pmMeth) : Cond := match M.2.2.2.2.1 with
  | [] => .code M.1 M.2.1 M.2.2.1 M.2.2.2.1
  | _ => .codeWith M.1 M.2.1 M.2.2.1 M.2.2.2.1 M.2.2.2.2.1
def pmOk (M : pmMeth) : Prop := (pmCw M ∈ pmW ∧ Cond.initialized M.1.cls ∈ pmW) ∧ plainFor M.1 = true ∧ (M.1.cls ≠ "java/lang/invoke/MethodHandle" ∧ M.1.cls ≠ "java/lang/invoke/VarHandle")
def pmFd (own : String) (x ci j : Nat) : Prop := ∃ r : vw_C, pmCl[ci]? = some r ∧ j < r.2.2 ∧ Cond.fieldLink own x (r.2.1 j).1 (r.2.1 j).2.1 (r.2.1 j).2.2.1 ∈ pmW
def pmCk (r : vw_C) : Prop := (∀ w ∈ u_ws r.1 r.2.1 r.2.2, w ∈ pmW) ∧ (∃ ty : Nat → FieldType, ∀ k, k < r.2.2 → parseFieldDescriptor (r.2.1 k).2.2.1 = some (ty k)) ∧ (∀ a, a < r.2.2 → ∀ b, b < r.2.2 → a ≠ b → (r.2.1 a).2.1 ≠ (r.2.1 b).2.1) ∧ Cond.instantiable r.1 r.2.2 ∈ pmW ∧ Cond.initialized r.1 ∈ pmW
theorem pmWs {ws : List Cond} (ps : List Nat) (h : ws = ps.filterMap (fun i => tables_1[i]?)) (hg : ws.all goodWord = true) : ∀ w ∈ ws, w ∈ pmW := by
  intro w hw
  have h1 := List.all_eq_true.mp hg w hw
  rw [h] at hw
  obtain ⟨i, -, hi⟩ := List.mem_filterMap.mp hw
  exact pmW_tb hi h1
theorem pmW_sel {i : Nat} {q : MethodName × Nat} (h : lw_privs[i]? = some q) (hg : goodWord (.selects q.1.cls q.1 q.1) = true) (hk : ∀ q ∈ lw_privs, Cond.selects q.1.cls q.1 q.1 ∈ k2_sels lw_privs) : Cond.selects q.1.cls q.1 q.1 ∈ pmW := pmW_in (List.mem_append_left _ (hk q (List.mem_of_getElem? h))) hg
theorem pmSelIn : ∀ q ∈ lw_privs, Cond.selects q.1.cls q.1 q.1 ∈ k2_sels lw_privs := by
  intro q hq
  unfold k2_sels
  exact List.mem_map.mpr ⟨q, hq, rfl⟩
theorem pmCk_0 : pmCk ("PortableFiles$Bytes", pmT0, 2) := ⟨pmWs [165, 167] (by decide +kernel) (by decide +kernel), ⟨pmy0, by decide +kernel⟩, by decide +kernel, pmW_tb (i := 156) (by decide +kernel) rfl, pmW_tb (i := 7) (by decide +kernel) rfl⟩
theorem pmCk_1 : pmCk ("PortableFiles$Extras", pmT1, 4) := ⟨pmWs [79, 81, 83, 85] (by decide +kernel) (by decide +kernel), ⟨pmy1, by decide +kernel⟩, by decide +kernel, pmW_tb (i := 67) (by decide +kernel) rfl, pmW_tb (i := 5) (by decide +kernel) rfl⟩
theorem pmCk_2 : pmCk ("PortableFiles$Palette", pmT2, 2) := ⟨pmWs [50, 52] (by decide +kernel) (by decide +kernel), ⟨pmy2, by decide +kernel⟩, by decide +kernel, pmW_tb (i := 39) (by decide +kernel) rfl, pmW_tb (i := 3) (by decide +kernel) rfl⟩
theorem pmCk_3 : pmCk ("PortableFiles$Picture", pmT3, 10) := ⟨pmWs [128, 130, 132, 134, 136, 138, 140, 142, 144, 146] (by decide +kernel) (by decide +kernel), ⟨pmy3, by decide +kernel⟩, by decide +kernel, pmW_tb (i := 33) (by decide +kernel) rfl, pmW_tb (i := 2) (by decide +kernel) rfl⟩
theorem pmCk_4 : pmCk ("PortableFiles$Reading", pmT4, 16) := ⟨pmWs [214, 216, 218, 220, 222, 224, 226, 228, 230, 232, 234, 236, 238, 240, 242, 244] (by decide +kernel) (by decide +kernel), ⟨pmy4, by decide +kernel⟩, by decide +kernel, pmW_tb (i := 182) (by decide +kernel) rfl, pmW_tb (i := 8) (by decide +kernel) rfl⟩
theorem pmCk_5 : pmCk ("PortableFiles$Tags", pmT5, 1) := ⟨pmWs [63] (by decide +kernel) (by decide +kernel), ⟨pmy5, by decide +kernel⟩, by decide +kernel, pmW_tb (i := 57) (by decide +kernel) rfl, pmW_tb (i := 4) (by decide +kernel) rfl⟩
theorem pmCk_6 : pmCk ("PortableFiles$Writing", pmT6, 3) := ⟨pmWs [174, 176, 178] (by decide +kernel) (by decide +kernel), ⟨pmy6, by decide +kernel⟩, by decide +kernel, pmW_tb (i := 150) (by decide +kernel) rfl, pmW_tb (i := 6) (by decide +kernel) rfl⟩
theorem pmCk_7 : pmCk ("PortableFiles", pmT7, 3) := ⟨pmWs [250, 252, 254] (by decide +kernel) (by decide +kernel), ⟨pmy7, by decide +kernel⟩, by decide +kernel, pmW_tb (i := 25) (by decide +kernel) rfl, pmW_tb (i := 1) (by decide +kernel) rfl⟩
theorem pmCk_8 : pmCk ("PortableFilesModel", pmT8, 42) := ⟨pmWs [1078, 1080, 1082, 1084, 1086, 1088, 1090, 1092, 1094, 1096, 1098, 1100, 1102, 1104, 1106, 1108, 1110, 1112, 1114, 1116, 1118, 1120, 1122, 1124, 1126, 1128, 1130, 1132, 1134, 1136, 1138, 1140, 1142, 1144, 1146, 1148, 1150, 1152, 1154, 1156, 1158, 1160] (by decide +kernel) (by decide +kernel), ⟨pmy8, by decide +kernel⟩, by decide +kernel, pmW_tb (i := 1031) (by decide +kernel) rfl, pmW_tb (i := 9) (by decide +kernel) rfl⟩
theorem pmCk_of {ci : Nat} {r : vw_C} (h : pmCl[ci]? = some r) : pmCk r := by
  match ci, h with
  | 0, h => cases h; exact pmCk_0
  | 1, h => cases h; exact pmCk_1
  | 2, h => cases h; exact pmCk_2
  | 3, h => cases h; exact pmCk_3
  | 4, h => cases h; exact pmCk_4
  | 5, h => cases h; exact pmCk_5
  | 6, h => cases h; exact pmCk_6
  | 7, h => cases h; exact pmCk_7
  | 8, h => cases h; exact pmCk_8
  | ci + 9, h => simp [pmCl] at h
theorem qI_PF : Jvm.Cond.initialized "PortableFiles" ∈ pmW := pmW_tb (i := 1) (by decide +kernel) rfl
theorem qI_Bytes : Jvm.Cond.initialized "PortableFiles$Bytes" ∈ pmW := pmW_tb (i := 7) (by decide +kernel) rfl
theorem qI_Extras : Jvm.Cond.initialized "PortableFiles$Extras" ∈ pmW := pmW_tb (i := 5) (by decide +kernel) rfl
theorem qI_Less : Jvm.Cond.initialized "PortableFiles$Lessening" ∈ pmW := pmW_tb (i := 22) (by decide +kernel) rfl
theorem qI_Letters : Jvm.Cond.initialized "PortableFiles$Letters" ∈ pmW := pmW_tb (i := 19) (by decide +kernel) rfl
theorem qI_Palette : Jvm.Cond.initialized "PortableFiles$Palette" ∈ pmW := pmW_tb (i := 3) (by decide +kernel) rfl
theorem qI_Picture : Jvm.Cond.initialized "PortableFiles$Picture" ∈ pmW := pmW_tb (i := 2) (by decide +kernel) rfl
theorem qI_Reading : Jvm.Cond.initialized "PortableFiles$Reading" ∈ pmW := pmW_tb (i := 8) (by decide +kernel) rfl
theorem qI_Rows : Jvm.Cond.initialized "PortableFiles$Rows" ∈ pmW := pmW_tb (i := 23) (by decide +kernel) rfl
theorem qI_Shape : Jvm.Cond.initialized "PortableFiles$Shape" ∈ pmW := pmW_tb (i := 10) (by decide +kernel) rfl
theorem qI_Tags : Jvm.Cond.initialized "PortableFiles$Tags" ∈ pmW := pmW_tb (i := 4) (by decide +kernel) rfl
theorem qI_Writing : Jvm.Cond.initialized "PortableFiles$Writing" ∈ pmW := pmW_tb (i := 6) (by decide +kernel) rfl
theorem qI_Law : Jvm.Cond.initialized "PortableFilesLaw" ∈ pmW := pmW_tb (i := 0) (by decide +kernel) rfl
theorem qI_Ref : Jvm.Cond.initialized "PortableFilesModel" ∈ pmW := pmW_tb (i := 9) (by decide +kernel) rfl
theorem qI_Math : Jvm.Cond.initialized "java/lang/Math" ∈ pmW := pmW_tb (i := 17) (by decide +kernel) rfl
theorem qI_Arrays : Jvm.Cond.initialized "java/util/Arrays" ∈ pmW := pmW_tb (i := 15) (by decide +kernel) rfl
def mLaw_head : pmMeth := (⟨"PortableFilesLaw", "head", "(LPortableFiles;IIII)I"⟩, method_3_code, 6, (some .int), [(0, 9, 12, 13)], 13, 5, 7, 114)
theorem ok_mLaw_head : pmOk mLaw_head := ⟨⟨pmW_tb (i := 532) (by decide +kernel) rfl, qI_Law⟩, plainFor_of_name (by decide +kernel), by decide +kernel, by decide +kernel⟩
theorem st_mLaw_head : Cond.static mLaw_head.1 ∈ pmW := pmW_tb (i := 531) (by decide +kernel) rfl
def mLaw_colour : pmMeth := (⟨"PortableFilesLaw", "colour", "(LPortableFiles;IIII[J)I"⟩, method_4_code, 7, (some .int), [(0, 14, 17, 19), (0, 14, 21, 13), (0, 14, 25, 21)], 13, 6, 7, 114)
theorem ok_mLaw_colour : pmOk mLaw_colour := ⟨⟨pmW_tb (i := 611) (by decide +kernel) rfl, qI_Law⟩, plainFor_of_name (by decide +kernel), by decide +kernel, by decide +kernel⟩
theorem st_mLaw_colour : Cond.static mLaw_colour.1 ∈ pmW := pmW_tb (i := 610) (by decide +kernel) rfl
def mLaw_put : pmMeth := (⟨"PortableFilesLaw", "put", "(LPortableFiles;IIII[J)I"⟩, method_5_code, 7, (some .int), [(0, 14, 17, 19), (0, 14, 21, 26), (0, 14, 25, 13)], 13, 6, 8, 135)
theorem ok_mLaw_put : pmOk mLaw_put := ⟨⟨pmW_tb (i := 676) (by decide +kernel) rfl, qI_Law⟩, plainFor_of_name (by decide +kernel), by decide +kernel, by decide +kernel⟩
theorem st_mLaw_put : Cond.static mLaw_put.1 ∈ pmW := pmW_tb (i := 675) (by decide +kernel) rfl
def mLaw_tag : pmMeth := (⟨"PortableFilesLaw", "tag", "(LPortableFiles;II[J)I"⟩, method_6_code, 5, (some .int), [(0, 10, 13, 19), (0, 10, 17, 13)], 13, 4, 8, 133)
theorem ok_mLaw_tag : pmOk mLaw_tag := ⟨⟨pmW_tb (i := 713) (by decide +kernel) rfl, qI_Law⟩, plainFor_of_name (by decide +kernel), by decide +kernel, by decide +kernel⟩
theorem st_mLaw_tag : Cond.static mLaw_tag.1 ∈ pmW := pmW_tb (i := 712) (by decide +kernel) rfl
def mLaw_extra : pmMeth := (⟨"PortableFilesLaw", "extra", "(LPortableFiles;I[J)I"⟩, method_7_code, 4, (some .int), [(0, 9, 12, 19), (0, 9, 15, 13), (0, 9, 18, 21)], 13, 3, 8, 131)
theorem ok_mLaw_extra : pmOk mLaw_extra := ⟨⟨pmW_tb (i := 726) (by decide +kernel) rfl, qI_Law⟩, plainFor_of_name (by decide +kernel), by decide +kernel, by decide +kernel⟩
theorem st_mLaw_extra : Cond.static mLaw_extra.1 ∈ pmW := pmW_tb (i := 725) (by decide +kernel) rfl
def mLaw_byteOf : pmMeth := (⟨"PortableFilesLaw", "byteOf", "(LPortableFiles;II[J)I"⟩, method_8_code, 5, (some .int), [(0, 10, 13, 19), (0, 10, 17, 26), (0, 10, 21, 13), (0, 10, 25, 21)], 13, 4, 8, 132)
theorem ok_mLaw_byteOf : pmOk mLaw_byteOf := ⟨⟨pmW_tb (i := 746) (by decide +kernel) rfl, qI_Law⟩, plainFor_of_name (by decide +kernel), by decide +kernel, by decide +kernel⟩
theorem st_mLaw_byteOf : Cond.static mLaw_byteOf.1 ∈ pmW := pmW_tb (i := 745) (by decide +kernel) rfl
def mLaw_reduce : pmMeth := (⟨"PortableFilesLaw", "reduce", "(LPortableFiles;[J)I"⟩, method_9_code, 3, (some .int), [(0, 8, 11, 19)], 13, 2, 8, 134)
theorem ok_mLaw_reduce : pmOk mLaw_reduce := ⟨⟨pmW_tb (i := 765) (by decide +kernel) rfl, qI_Law⟩, plainFor_of_name (by decide +kernel), by decide +kernel, by decide +kernel⟩
theorem st_mLaw_reduce : Cond.static mLaw_reduce.1 ∈ pmW := pmW_tb (i := 764) (by decide +kernel) rfl
def mLaw_write : pmMeth := (⟨"PortableFilesLaw", "write", "(LPortableFiles;[J)I"⟩, method_10_code, 3, (some .int), [(0, 8, 11, 19)], 13, 2, 8, 159)
theorem ok_mLaw_write : pmOk mLaw_write := ⟨⟨pmW_tb (i := 808) (by decide +kernel) rfl, qI_Law⟩, plainFor_of_name (by decide +kernel), by decide +kernel, by decide +kernel⟩
theorem st_mLaw_write : Cond.static mLaw_write.1 ∈ pmW := pmW_tb (i := 807) (by decide +kernel) rfl
def mLaw_byteAt : pmMeth := (⟨"PortableFilesLaw", "byteAt", "(LPortableFiles;I[J)I"⟩, method_11_code, 4, (some .int), [(0, 9, 12, 26)], 13, 3, 8, 132)
theorem ok_mLaw_byteAt : pmOk mLaw_byteAt := ⟨⟨pmW_tb (i := 912) (by decide +kernel) rfl, qI_Law⟩, plainFor_of_name (by decide +kernel), by decide +kernel, by decide +kernel⟩
theorem st_mLaw_byteAt : Cond.static mLaw_byteAt.1 ∈ pmW := pmW_tb (i := 911) (by decide +kernel) rfl
def mLaw_feed : pmMeth := (⟨"PortableFilesLaw", "feed", "(LPortableFiles;I[J)I"⟩, method_12_code, 4, (some .int), [(0, 9, 12, 13), (0, 9, 15, 21)], 13, 3, 8, 132)
theorem ok_mLaw_feed : pmOk mLaw_feed := ⟨⟨pmW_tb (i := 926) (by decide +kernel) rfl, qI_Law⟩, plainFor_of_name (by decide +kernel), by decide +kernel, by decide +kernel⟩
theorem st_mLaw_feed : Cond.static mLaw_feed.1 ∈ pmW := pmW_tb (i := 925) (by decide +kernel) rfl
def mLaw_pass : pmMeth := (⟨"PortableFilesLaw", "pass", "(LPortableFiles;II[J)I"⟩, method_13_code, 5, (some .int), [(0, 10, 13, 26), (0, 10, 17, 13), (0, 10, 21, 21)], 13, 4, 8, 135)
theorem ok_mLaw_pass : pmOk mLaw_pass := ⟨⟨pmW_tb (i := 939) (by decide +kernel) rfl, qI_Law⟩, plainFor_of_name (by decide +kernel), by decide +kernel, by decide +kernel⟩
theorem st_mLaw_pass : Cond.static mLaw_pass.1 ∈ pmW := pmW_tb (i := 938) (by decide +kernel) rfl
def mLaw_alter : pmMeth := (⟨"PortableFilesLaw", "alter", "(LPortableFiles;IIZ[J)I"⟩, method_14_code, 6, (some .int), [(0, 12, 15, 26), (0, 12, 19, 13)], 13, 5, 8, 134)
theorem ok_mLaw_alter : pmOk mLaw_alter := ⟨⟨pmW_tb (i := 948) (by decide +kernel) rfl, qI_Law⟩, plainFor_of_name (by decide +kernel), by decide +kernel, by decide +kernel⟩
theorem st_mLaw_alter : Cond.static mLaw_alter.1 ∈ pmW := pmW_tb (i := 947) (by decide +kernel) rfl
def mLaw_at : pmMeth := (⟨"PortableFilesLaw", "at", "(LPortableFiles;III[J)I"⟩, method_15_code, 6, (some .int), [(0, 12, 15, 19), (0, 12, 19, 26)], 13, 5, 8, 133)
theorem ok_mLaw_at : pmOk mLaw_at := ⟨⟨pmW_tb (i := 964) (by decide +kernel) rfl, qI_Law⟩, plainFor_of_name (by decide +kernel), by decide +kernel, by decide +kernel⟩
theorem st_mLaw_at : Cond.static mLaw_at.1 ∈ pmW := pmW_tb (i := 963) (by decide +kernel) rfl
def mLaw_found : pmMeth := (⟨"PortableFilesLaw", "found", "(LPortableFiles;I[J)I"⟩, method_16_code, 4, (some .int), [(0, 9, 12, 19)], 13, 3, 8, 131)
theorem ok_mLaw_found : pmOk mLaw_found := ⟨⟨pmW_tb (i := 977) (by decide +kernel) rfl, qI_Law⟩, plainFor_of_name (by decide +kernel), by decide +kernel, by decide +kernel⟩
theorem st_mLaw_found : Cond.static mLaw_found.1 ∈ pmW := pmW_tb (i := 976) (by decide +kernel) rfl
def mLaw_entry : pmMeth := (⟨"PortableFilesLaw", "entry", "(LPortableFiles;II[J)I"⟩, method_17_code, 5, (some .int), [(0, 10, 13, 19), (0, 10, 17, 26), (0, 10, 21, 13)], 13, 4, 8, 132)
theorem ok_mLaw_entry : pmOk mLaw_entry := ⟨⟨pmW_tb (i := 984) (by decide +kernel) rfl, qI_Law⟩, plainFor_of_name (by decide +kernel), by decide +kernel, by decide +kernel⟩
theorem st_mLaw_entry : Cond.static mLaw_entry.1 ∈ pmW := pmW_tb (i := 983) (by decide +kernel) rfl
def mLaw_unknown : pmMeth := (⟨"PortableFilesLaw", "unknown", "(LPortableFiles;II[J)I"⟩, method_18_code, 5, (some .int), [(0, 10, 13, 19), (0, 10, 17, 26)], 13, 4, 8, 133)
theorem ok_mLaw_unknown : pmOk mLaw_unknown := ⟨⟨pmW_tb (i := 995) (by decide +kernel) rfl, qI_Law⟩, plainFor_of_name (by decide +kernel), by decide +kernel, by decide +kernel⟩
theorem st_mLaw_unknown : Cond.static mLaw_unknown.1 ∈ pmW := pmW_tb (i := 994) (by decide +kernel) rfl
def mLaw_take : pmMeth := (⟨"PortableFilesLaw", "take", "(LPortableFiles;)I"⟩, method_19_code, 2, (some .int), [(0, 4, 7, 19)], 13, 1, 8, 130)
theorem ok_mLaw_take : pmOk mLaw_take := ⟨⟨pmW_tb (i := 1006) (by decide +kernel) rfl, qI_Law⟩, plainFor_of_name (by decide +kernel), by decide +kernel, by decide +kernel⟩
theorem st_mLaw_take : Cond.static mLaw_take.1 ∈ pmW := pmW_tb (i := 1005) (by decide +kernel) rfl
def mBytes_init : pmMeth := (⟨"PortableFiles$Bytes", "<init>", "(I)V"⟩, prog_2_method_1_code, 2, none, [], 0, 2, 1, 20)
theorem ok_mBytes_init : pmOk mBytes_init := ⟨⟨pmW_tb (i := 159) (by decide +kernel) rfl, qI_Bytes⟩, plainFor_of_name (by decide +kernel), by decide +kernel, by decide +kernel⟩
theorem im_mBytes_init : Cond.instanceMethod mBytes_init.1 ∈ pmW := pmW_tb (i := 158) (by decide +kernel) rfl
def mBytes_clear : pmMeth := (⟨"PortableFiles$Bytes", "clear", "()V"⟩, prog_2_method_2_code, 1, none, [], 0, 1, 0, 0)
theorem ok_mBytes_clear : pmOk mBytes_clear := ⟨⟨pmW_tb (i := 286) (by decide +kernel) rfl, qI_Bytes⟩, plainFor_of_name (by decide +kernel), by decide +kernel, by decide +kernel⟩
theorem im_mBytes_clear : Cond.instanceMethod mBytes_clear.1 ∈ pmW := pmW_tb (i := 284) (by decide +kernel) rfl
theorem se_mBytes_clear : Cond.selects mBytes_clear.1.cls mBytes_clear.1 mBytes_clear.1 ∈ pmW := pmW_tb (i := 285) (by decide +kernel) rfl
def mBytes_has : pmMeth := (⟨"PortableFiles$Bytes", "has", "(I)Z"⟩, prog_2_method_3_code, 2, (some .boolean), [], 0, 2, 0, 0)
theorem ok_mBytes_has : pmOk mBytes_has := ⟨⟨pmW_tb (i := 278) (by decide +kernel) rfl, qI_Bytes⟩, plainFor_of_name (by decide +kernel), by decide +kernel, by decide +kernel⟩
theorem im_mBytes_has : Cond.instanceMethod mBytes_has.1 ∈ pmW := pmW_tb (i := 276) (by decide +kernel) rfl
theorem se_mBytes_has : Cond.selects mBytes_has.1.cls mBytes_has.1 mBytes_has.1 ∈ pmW := pmW_tb (i := 277) (by decide +kernel) rfl
def mBytes_value : pmMeth := (⟨"PortableFiles$Bytes", "value", "(I)I"⟩, prog_2_method_4_code, 2, (some .int), [], 0, 2, 1, 21)
theorem ok_mBytes_value : pmOk mBytes_value := ⟨⟨pmW_tb (i := 282) (by decide +kernel) rfl, qI_Bytes⟩, plainFor_of_name (by decide +kernel), by decide +kernel, by decide +kernel⟩
theorem im_mBytes_value : Cond.instanceMethod mBytes_value.1 ∈ pmW := pmW_tb (i := 280) (by decide +kernel) rfl
theorem se_mBytes_value : Cond.selects mBytes_value.1.cls mBytes_value.1 mBytes_value.1 ∈ pmW := pmW_tb (i := 281) (by decide +kernel) rfl
def mBytes_set : pmMeth := (⟨"PortableFiles$Bytes", "set", "(II)V"⟩, prog_2_method_5_code, 3, none, [], 0, 3, 1, 21)
theorem ok_mBytes_set : pmOk mBytes_set := ⟨⟨pmW_tb (i := 849) (by decide +kernel) rfl, qI_Bytes⟩, plainFor_of_name (by decide +kernel), by decide +kernel, by decide +kernel⟩
theorem im_mBytes_set : Cond.instanceMethod mBytes_set.1 ∈ pmW := pmW_tb (i := 847) (by decide +kernel) rfl
theorem se_mBytes_set : Cond.selects mBytes_set.1.cls mBytes_set.1 mBytes_set.1 ∈ pmW := pmW_tb (i := 848) (by decide +kernel) rfl
def mBytes_add : pmMeth := (⟨"PortableFiles$Bytes", "add", "(I)V"⟩, prog_2_method_6_code, 2, none, [], 0, 2, 0, 0)
theorem ok_mBytes_add : pmOk mBytes_add := ⟨⟨pmW_tb (i := 458) (by decide +kernel) rfl, qI_Bytes⟩, plainFor_of_name (by decide +kernel), by decide +kernel, by decide +kernel⟩
theorem im_mBytes_add : Cond.instanceMethod mBytes_add.1 ∈ pmW := pmW_tb (i := 456) (by decide +kernel) rfl
theorem se_mBytes_add : Cond.selects mBytes_add.1.cls mBytes_add.1 mBytes_add.1 ∈ pmW := pmW_tb (i := 457) (by decide +kernel) rfl
def mBytes_number : pmMeth := (⟨"PortableFiles$Bytes", "number", "(I)I"⟩, prog_2_method_7_code, 2, (some .int), [], 0, 2, 2, 42)
theorem ok_mBytes_number : pmOk mBytes_number := ⟨⟨pmW_tb (i := 302) (by decide +kernel) rfl, qI_Bytes⟩, plainFor_of_name (by decide +kernel), by decide +kernel, by decide +kernel⟩
theorem im_mBytes_number : Cond.instanceMethod mBytes_number.1 ∈ pmW := pmW_tb (i := 300) (by decide +kernel) rfl
theorem se_mBytes_number : Cond.selects mBytes_number.1.cls mBytes_number.1 mBytes_number.1 ∈ pmW := pmW_tb (i := 301) (by decide +kernel) rfl
def mBytes_setNumber : pmMeth := (⟨"PortableFiles$Bytes", "setNumber", "(II)V"⟩, prog_2_method_8_code, 3, none, [], 0, 3, 2, 43)
theorem ok_mBytes_setNumber : pmOk mBytes_setNumber := ⟨⟨pmW_tb (i := 845) (by decide +kernel) rfl, qI_Bytes⟩, plainFor_of_name (by decide +kernel), by decide +kernel, by decide +kernel⟩
theorem im_mBytes_setNumber : Cond.instanceMethod mBytes_setNumber.1 ∈ pmW := pmW_tb (i := 843) (by decide +kernel) rfl
theorem se_mBytes_setNumber : Cond.selects mBytes_setNumber.1.cls mBytes_setNumber.1 mBytes_setNumber.1 ∈ pmW := pmW_tb (i := 844) (by decide +kernel) rfl
def mBytes_addNumber : pmMeth := (⟨"PortableFiles$Bytes", "addNumber", "(I)V"⟩, prog_2_method_9_code, 2, none, [], 0, 2, 1, 21)
theorem ok_mBytes_addNumber : pmOk mBytes_addNumber := ⟨⟨pmW_tb (i := 836) (by decide +kernel) rfl, qI_Bytes⟩, plainFor_of_name (by decide +kernel), by decide +kernel, by decide +kernel⟩
theorem im_mBytes_addNumber : Cond.instanceMethod mBytes_addNumber.1 ∈ pmW := pmW_tb (i := 834) (by decide +kernel) rfl
theorem se_mBytes_addNumber : Cond.selects mBytes_addNumber.1.cls mBytes_addNumber.1 mBytes_addNumber.1 ∈ pmW := pmW_tb (i := 835) (by decide +kernel) rfl
def mBytes_addBeginning : pmMeth := (⟨"PortableFiles$Bytes", "addBeginning", "()V"⟩, prog_2_method_10_code, 2, none, [], 0, 1, 1, 21)
theorem ok_mBytes_addBeginning : pmOk mBytes_addBeginning := ⟨⟨pmW_tb (i := 822) (by decide +kernel) rfl, qI_Bytes⟩, plainFor_of_name (by decide +kernel), by decide +kernel, by decide +kernel⟩
theorem im_mBytes_addBeginning : Cond.instanceMethod mBytes_addBeginning.1 ∈ pmW := pmW_tb (i := 820) (by decide +kernel) rfl
theorem se_mBytes_addBeginning : Cond.selects mBytes_addBeginning.1.cls mBytes_addBeginning.1 mBytes_addBeginning.1 ∈ pmW := pmW_tb (i := 821) (by decide +kernel) rfl
def mBytes_hasBeginning : pmMeth := (⟨"PortableFiles$Bytes", "hasBeginning", "()Z"⟩, prog_2_method_11_code, 2, (some .boolean), [], 0, 1, 2, 42)
theorem ok_mBytes_hasBeginning : pmOk mBytes_hasBeginning := ⟨⟨pmW_tb (i := 272) (by decide +kernel) rfl, qI_Bytes⟩, plainFor_of_name (by decide +kernel), by decide +kernel, by decide +kernel⟩
theorem im_mBytes_hasBeginning : Cond.instanceMethod mBytes_hasBeginning.1 ∈ pmW := pmW_tb (i := 270) (by decide +kernel) rfl
theorem se_mBytes_hasBeginning : Cond.selects mBytes_hasBeginning.1.cls mBytes_hasBeginning.1 mBytes_hasBeginning.1 ∈ pmW := pmW_tb (i := 271) (by decide +kernel) rfl
def mBytes_dataLengthMayBe : pmMeth := (⟨"PortableFiles$Bytes", "dataLengthMayBe", "(I)Z"⟩, prog_2_method_12_code, 1, (some .boolean), [], 0, 1, 0, 0)
theorem ok_mBytes_dataLengthMayBe : pmOk mBytes_dataLengthMayBe := ⟨⟨pmW_tb (i := 305) (by decide +kernel) rfl, qI_Bytes⟩, plainFor_of_name (by decide +kernel), by decide +kernel, by decide +kernel⟩
theorem st_mBytes_dataLengthMayBe : Cond.static mBytes_dataLengthMayBe.1 ∈ pmW := pmW_tb (i := 304) (by decide +kernel) rfl
def mBytes_hasWholeChunk : pmMeth := (⟨"PortableFiles$Bytes", "hasWholeChunk", "(II)Z"⟩, prog_2_method_13_code, 3, (some .boolean), [], 0, 3, 0, 0)
theorem ok_mBytes_hasWholeChunk : pmOk mBytes_hasWholeChunk := ⟨⟨pmW_tb (i := 298) (by decide +kernel) rfl, qI_Bytes⟩, plainFor_of_name (by decide +kernel), by decide +kernel, by decide +kernel⟩
theorem im_mBytes_hasWholeChunk : Cond.instanceMethod mBytes_hasWholeChunk.1 ∈ pmW := pmW_tb (i := 296) (by decide +kernel) rfl
theorem se_mBytes_hasWholeChunk : Cond.selects mBytes_hasWholeChunk.1.cls mBytes_hasWholeChunk.1 mBytes_hasWholeChunk.1 ∈ pmW := pmW_tb (i := 297) (by decide +kernel) rfl
def mBytes_sumIsRight : pmMeth := (⟨"PortableFiles$Bytes", "sumIsRight", "(II)Z"⟩, prog_2_method_14_code, 3, (some .boolean), [], 0, 3, 3, 67)
theorem ok_mBytes_sumIsRight : pmOk mBytes_sumIsRight := ⟨⟨pmW_tb (i := 321) (by decide +kernel) rfl, qI_Bytes⟩, plainFor_of_name (by decide +kernel), by decide +kernel, by decide +kernel⟩
theorem im_mBytes_sumIsRight : Cond.instanceMethod mBytes_sumIsRight.1 ∈ pmW := pmW_tb (i := 319) (by decide +kernel) rfl
theorem se_mBytes_sumIsRight : Cond.selects mBytes_sumIsRight.1.cls mBytes_sumIsRight.1 mBytes_sumIsRight.1 ∈ pmW := pmW_tb (i := 320) (by decide +kernel) rfl
def mBytes_rightSum : pmMeth := (⟨"PortableFiles$Bytes", "rightSum", "(II)I"⟩, prog_2_method_15_code, 6, (some .int), [], 0, 3, 2, 42)
theorem ok_mBytes_rightSum : pmOk mBytes_rightSum := ⟨⟨pmW_tb (i := 329) (by decide +kernel) rfl, qI_Bytes⟩, plainFor_of_name (by decide +kernel), by decide +kernel, by decide +kernel⟩
theorem im_mBytes_rightSum : Cond.instanceMethod mBytes_rightSum.1 ∈ pmW := pmW_tb (i := 327) (by decide +kernel) rfl
theorem se_mBytes_rightSum : Cond.selects mBytes_rightSum.1.cls mBytes_rightSum.1 mBytes_rightSum.1 ∈ pmW := pmW_tb (i := 328) (by decide +kernel) rfl
def mBytes_mendSum : pmMeth := (⟨"PortableFiles$Bytes", "mendSum", "(I)V"⟩, prog_2_method_16_code, 4, none, [], 0, 2, 3, 67)
theorem ok_mBytes_mendSum : pmOk mBytes_mendSum := ⟨⟨pmW_tb (i := 958) (by decide +kernel) rfl, qI_Bytes⟩, plainFor_of_name (by decide +kernel), by decide +kernel, by decide +kernel⟩
theorem im_mBytes_mendSum : Cond.instanceMethod mBytes_mendSum.1 ∈ pmW := pmW_tb (i := 956) (by decide +kernel) rfl
theorem se_mBytes_mendSum : Cond.selects mBytes_mendSum.1.cls mBytes_mendSum.1 mBytes_mendSum.1 ∈ pmW := pmW_tb (i := 957) (by decide +kernel) rfl
def mBytes_sumPlace : pmMeth := (⟨"PortableFiles$Bytes", "sumPlace", "(II)I"⟩, prog_2_method_17_code, 2, (some .int), [], 0, 2, 0, 0)
theorem ok_mBytes_sumPlace : pmOk mBytes_sumPlace := ⟨⟨pmW_tb (i := 324) (by decide +kernel) rfl, qI_Bytes⟩, plainFor_of_name (by decide +kernel), by decide +kernel, by decide +kernel⟩
theorem st_mBytes_sumPlace : Cond.static mBytes_sumPlace.1 ∈ pmW := pmW_tb (i := 323) (by decide +kernel) rfl
def mExtras_init : pmMeth := (⟨"PortableFiles$Extras", "<init>", "()V"⟩, prog_3_method_1_code, 1, none, [], 1, 1, 1, 20)
theorem ok_mExtras_init : pmOk mExtras_init := ⟨⟨pmW_tb (i := 70) (by decide +kernel) rfl, qI_Extras⟩, plainFor_of_name (by decide +kernel), by decide +kernel, by decide +kernel⟩
theorem im_mExtras_init : Cond.instanceMethod mExtras_init.1 ∈ pmW := pmW_tb (i := 69) (by decide +kernel) rfl
def mExtras_clear : pmMeth := (⟨"PortableFiles$Extras", "clear", "()V"⟩, prog_3_method_2_code, 1, none, [], 1, 1, 0, 0)
theorem ok_mExtras_clear : pmOk mExtras_clear := ⟨⟨pmW_tb (i := 410) (by decide +kernel) rfl, qI_Extras⟩, plainFor_of_name (by decide +kernel), by decide +kernel, by decide +kernel⟩
theorem im_mExtras_clear : Cond.instanceMethod mExtras_clear.1 ∈ pmW := pmW_tb (i := 408) (by decide +kernel) rfl
theorem se_mExtras_clear : Cond.selects mExtras_clear.1.cls mExtras_clear.1 mExtras_clear.1 ∈ pmW := pmW_tb (i := 409) (by decide +kernel) rfl
def mExtras_isFull : pmMeth := (⟨"PortableFiles$Extras", "isFull", "()Z"⟩, prog_3_method_3_code, 1, (some .boolean), [], 1, 1, 0, 0)
theorem ok_mExtras_isFull : pmOk mExtras_isFull := ⟨⟨pmW_tb (i := 466) (by decide +kernel) rfl, qI_Extras⟩, plainFor_of_name (by decide +kernel), by decide +kernel, by decide +kernel⟩
theorem im_mExtras_isFull : Cond.instanceMethod mExtras_isFull.1 ∈ pmW := pmW_tb (i := 464) (by decide +kernel) rfl
theorem se_mExtras_isFull : Cond.selects mExtras_isFull.1.cls mExtras_isFull.1 mExtras_isFull.1 ∈ pmW := pmW_tb (i := 465) (by decide +kernel) rfl
def mExtras_has : pmMeth := (⟨"PortableFiles$Extras", "has", "(I)Z"⟩, prog_3_method_4_code, 2, (some .boolean), [], 1, 2, 0, 0)
theorem ok_mExtras_has : pmOk mExtras_has := ⟨⟨pmW_tb (i := 479) (by decide +kernel) rfl, qI_Extras⟩, plainFor_of_name (by decide +kernel), by decide +kernel, by decide +kernel⟩
theorem im_mExtras_has : Cond.instanceMethod mExtras_has.1 ∈ pmW := pmW_tb (i := 477) (by decide +kernel) rfl
theorem se_mExtras_has : Cond.selects mExtras_has.1.cls mExtras_has.1 mExtras_has.1 ∈ pmW := pmW_tb (i := 478) (by decide +kernel) rfl
def mExtras_lettersOf : pmMeth := (⟨"PortableFiles$Extras", "lettersOf", "(I)I"⟩, prog_3_method_5_code, 2, (some .int), [], 1, 2, 1, 21)
theorem ok_mExtras_lettersOf : pmOk mExtras_lettersOf := ⟨⟨pmW_tb (i := 902) (by decide +kernel) rfl, qI_Extras⟩, plainFor_of_name (by decide +kernel), by decide +kernel, by decide +kernel⟩
theorem im_mExtras_lettersOf : Cond.instanceMethod mExtras_lettersOf.1 ∈ pmW := pmW_tb (i := 900) (by decide +kernel) rfl
theorem se_mExtras_lettersOf : Cond.selects mExtras_lettersOf.1.cls mExtras_lettersOf.1 mExtras_lettersOf.1 ∈ pmW := pmW_tb (i := 901) (by decide +kernel) rfl
def mExtras_lengthOf : pmMeth := (⟨"PortableFiles$Extras", "lengthOf", "(I)I"⟩, prog_3_method_6_code, 2, (some .int), [], 1, 2, 1, 21)
theorem ok_mExtras_lengthOf : pmOk mExtras_lengthOf := ⟨⟨pmW_tb (i := 760) (by decide +kernel) rfl, qI_Extras⟩, plainFor_of_name (by decide +kernel), by decide +kernel, by decide +kernel⟩
theorem im_mExtras_lengthOf : Cond.instanceMethod mExtras_lengthOf.1 ∈ pmW := pmW_tb (i := 758) (by decide +kernel) rfl
theorem se_mExtras_lengthOf : Cond.selects mExtras_lengthOf.1.cls mExtras_lengthOf.1 mExtras_lengthOf.1 ∈ pmW := pmW_tb (i := 759) (by decide +kernel) rfl
def mExtras_value : pmMeth := (⟨"PortableFiles$Extras", "value", "(II)I"⟩, prog_3_method_7_code, 3, (some .int), [], 1, 3, 2, 42)
theorem ok_mExtras_value : pmOk mExtras_value := ⟨⟨pmW_tb (i := 907) (by decide +kernel) rfl, qI_Extras⟩, plainFor_of_name (by decide +kernel), by decide +kernel, by decide +kernel⟩
theorem im_mExtras_value : Cond.instanceMethod mExtras_value.1 ∈ pmW := pmW_tb (i := 905) (by decide +kernel) rfl
theorem se_mExtras_value : Cond.selects mExtras_value.1.cls mExtras_value.1 mExtras_value.1 ∈ pmW := pmW_tb (i := 906) (by decide +kernel) rfl
def mExtras_add : pmMeth := (⟨"PortableFiles$Extras", "add", "(I)V"⟩, prog_3_method_8_code, 2, none, [], 1, 2, 1, 20)
theorem ok_mExtras_add : pmOk mExtras_add := ⟨⟨pmW_tb (i := 470) (by decide +kernel) rfl, qI_Extras⟩, plainFor_of_name (by decide +kernel), by decide +kernel, by decide +kernel⟩
theorem im_mExtras_add : Cond.instanceMethod mExtras_add.1 ∈ pmW := pmW_tb (i := 468) (by decide +kernel) rfl
theorem se_mExtras_add : Cond.selects mExtras_add.1.cls mExtras_add.1 mExtras_add.1 ∈ pmW := pmW_tb (i := 469) (by decide +kernel) rfl
def mExtras_addByte : pmMeth := (⟨"PortableFiles$Extras", "addByte", "(II)V"⟩, prog_3_method_9_code, 3, none, [], 1, 3, 1, 21)
theorem ok_mExtras_addByte : pmOk mExtras_addByte := ⟨⟨pmW_tb (i := 475) (by decide +kernel) rfl, qI_Extras⟩, plainFor_of_name (by decide +kernel), by decide +kernel, by decide +kernel⟩
theorem im_mExtras_addByte : Cond.instanceMethod mExtras_addByte.1 ∈ pmW := pmW_tb (i := 473) (by decide +kernel) rfl
theorem se_mExtras_addByte : Cond.selects mExtras_addByte.1.cls mExtras_addByte.1 mExtras_addByte.1 ∈ pmW := pmW_tb (i := 474) (by decide +kernel) rfl
def mExtras_leaveOnlySafeOnes : pmMeth := (⟨"PortableFiles$Extras", "leaveOnlySafeOnes", "()V"⟩, prog_3_method_10_code, 3, none, [], 1, 1, 2, 48)
theorem ok_mExtras_leaveOnlySafeOnes : pmOk mExtras_leaveOnlySafeOnes := ⟨⟨pmW_tb (i := 663) (by decide +kernel) rfl, qI_Extras⟩, plainFor_of_name (by decide +kernel), by decide +kernel, by decide +kernel⟩
theorem im_mExtras_leaveOnlySafeOnes : Cond.instanceMethod mExtras_leaveOnlySafeOnes.1 ∈ pmW := pmW_tb (i := 661) (by decide +kernel) rfl
theorem se_mExtras_leaveOnlySafeOnes : Cond.selects mExtras_leaveOnlySafeOnes.1.cls mExtras_leaveOnlySafeOnes.1 mExtras_leaveOnlySafeOnes.1 ∈ pmW := pmW_tb (i := 662) (by decide +kernel) rfl
def mExtras_copyFrom : pmMeth := (⟨"PortableFiles$Extras", "copyFrom", "(LPortableFiles$Extras;)V"⟩, prog_3_method_11_code, 2, none, [], 1, 2, 1, 26)
theorem ok_mExtras_copyFrom : pmOk mExtras_copyFrom := ⟨⟨pmW_tb (i := 1029) (by decide +kernel) rfl, qI_Extras⟩, plainFor_of_name (by decide +kernel), by decide +kernel, by decide +kernel⟩
theorem im_mExtras_copyFrom : Cond.instanceMethod mExtras_copyFrom.1 ∈ pmW := pmW_tb (i := 1027) (by decide +kernel) rfl
theorem se_mExtras_copyFrom : Cond.selects mExtras_copyFrom.1.cls mExtras_copyFrom.1 mExtras_copyFrom.1 ∈ pmW := pmW_tb (i := 1028) (by decide +kernel) rfl
def mExtras_move : pmMeth := (⟨"PortableFiles$Extras", "move", "(II)V"⟩, prog_3_method_12_code, 3, none, [], 1, 3, 1, 26)
theorem ok_mExtras_move : pmOk mExtras_move := ⟨⟨pmW_tb (i := 670) (by decide +kernel) rfl, qI_Extras⟩, plainFor_of_name (by decide +kernel), by decide +kernel, by decide +kernel⟩
theorem im_mExtras_move : Cond.instanceMethod mExtras_move.1 ∈ pmW := pmW_tb (i := 669) (by decide +kernel) rfl
theorem se_mExtras_move : Cond.selects mExtras_move.1.cls mExtras_move.1 mExtras_move.1 ∈ pmW := pmW_sel (i := 17) (q := (mExtras_move.1, 4)) (by decide +kernel) rfl pmSelIn
def mPalette_init : pmMeth := (⟨"PortableFiles$Palette", "<init>", "()V"⟩, prog_6_method_1_code, 1, none, [], 2, 1, 1, 20)
theorem ok_mPalette_init : pmOk mPalette_init := ⟨⟨pmW_tb (i := 42) (by decide +kernel) rfl, qI_Palette⟩, plainFor_of_name (by decide +kernel), by decide +kernel, by decide +kernel⟩
theorem im_mPalette_init : Cond.instanceMethod mPalette_init.1 ∈ pmW := pmW_tb (i := 41) (by decide +kernel) rfl
def mPalette_most : pmMeth := (⟨"PortableFiles$Palette", "most", "(I)I"⟩, prog_6_method_2_code, 1, (some .int), [], 2, 1, 1, 21)
theorem ok_mPalette_most : pmOk mPalette_most := ⟨⟨pmW_tb (i := 428) (by decide +kernel) rfl, qI_Palette⟩, plainFor_of_name (by decide +kernel), by decide +kernel, by decide +kernel⟩
theorem st_mPalette_most : Cond.static mPalette_most.1 ∈ pmW := pmW_tb (i := 427) (by decide +kernel) rfl
def mPalette_clear : pmMeth := (⟨"PortableFiles$Palette", "clear", "()V"⟩, prog_6_method_3_code, 1, none, [], 2, 1, 0, 0)
theorem ok_mPalette_clear : pmOk mPalette_clear := ⟨⟨pmW_tb (i := 401) (by decide +kernel) rfl, qI_Palette⟩, plainFor_of_name (by decide +kernel), by decide +kernel, by decide +kernel⟩
theorem im_mPalette_clear : Cond.instanceMethod mPalette_clear.1 ∈ pmW := pmW_tb (i := 399) (by decide +kernel) rfl
theorem se_mPalette_clear : Cond.selects mPalette_clear.1.cls mPalette_clear.1 mPalette_clear.1 ∈ pmW := pmW_tb (i := 400) (by decide +kernel) rfl
def mPalette_has : pmMeth := (⟨"PortableFiles$Palette", "has", "(I)Z"⟩, prog_6_method_4_code, 2, (some .boolean), [], 2, 2, 0, 0)
theorem ok_mPalette_has : pmOk mPalette_has := ⟨⟨pmW_tb (i := 450) (by decide +kernel) rfl, qI_Palette⟩, plainFor_of_name (by decide +kernel), by decide +kernel, by decide +kernel⟩
theorem im_mPalette_has : Cond.instanceMethod mPalette_has.1 ∈ pmW := pmW_tb (i := 448) (by decide +kernel) rfl
theorem se_mPalette_has : Cond.selects mPalette_has.1.cls mPalette_has.1 mPalette_has.1 ∈ pmW := pmW_tb (i := 449) (by decide +kernel) rfl
def mPalette_part : pmMeth := (⟨"PortableFiles$Palette", "part", "(II)I"⟩, prog_6_method_5_code, 3, (some .int), [], 2, 3, 1, 21)
theorem ok_mPalette_part : pmOk mPalette_part := ⟨⟨pmW_tb (i := 868) (by decide +kernel) rfl, qI_Palette⟩, plainFor_of_name (by decide +kernel), by decide +kernel, by decide +kernel⟩
theorem im_mPalette_part : Cond.instanceMethod mPalette_part.1 ∈ pmW := pmW_tb (i := 866) (by decide +kernel) rfl
theorem se_mPalette_part : Cond.selects mPalette_part.1.cls mPalette_part.1 mPalette_part.1 ∈ pmW := pmW_tb (i := 867) (by decide +kernel) rfl
def mPalette_add : pmMeth := (⟨"PortableFiles$Palette", "add", "(IIII)V"⟩, prog_6_method_6_code, 6, none, [], 2, 5, 0, 0)
theorem ok_mPalette_add : pmOk mPalette_add := ⟨⟨pmW_tb (i := 438) (by decide +kernel) rfl, qI_Palette⟩, plainFor_of_name (by decide +kernel), by decide +kernel, by decide +kernel⟩
theorem im_mPalette_add : Cond.instanceMethod mPalette_add.1 ∈ pmW := pmW_tb (i := 436) (by decide +kernel) rfl
theorem se_mPalette_add : Cond.selects mPalette_add.1.cls mPalette_add.1 mPalette_add.1 ∈ pmW := pmW_tb (i := 437) (by decide +kernel) rfl
def mPalette_setAlpha : pmMeth := (⟨"PortableFiles$Palette", "setAlpha", "(II)V"⟩, prog_6_method_7_code, 3, none, [], 2, 3, 1, 21)
theorem ok_mPalette_setAlpha : pmOk mPalette_setAlpha := ⟨⟨pmW_tb (i := 446) (by decide +kernel) rfl, qI_Palette⟩, plainFor_of_name (by decide +kernel), by decide +kernel, by decide +kernel⟩
theorem im_mPalette_setAlpha : Cond.instanceMethod mPalette_setAlpha.1 ∈ pmW := pmW_tb (i := 444) (by decide +kernel) rfl
theorem se_mPalette_setAlpha : Cond.selects mPalette_setAlpha.1.cls mPalette_setAlpha.1 mPalette_setAlpha.1 ∈ pmW := pmW_tb (i := 445) (by decide +kernel) rfl
def mPalette_alphasToTell : pmMeth := (⟨"PortableFiles$Palette", "alphasToTell", "()I"⟩, prog_6_method_8_code, 2, (some .int), [], 2, 1, 2, 43)
theorem ok_mPalette_alphasToTell : pmOk mPalette_alphasToTell := ⟨⟨pmW_tb (i := 876) (by decide +kernel) rfl, qI_Palette⟩, plainFor_of_name (by decide +kernel), by decide +kernel, by decide +kernel⟩
theorem im_mPalette_alphasToTell : Cond.instanceMethod mPalette_alphasToTell.1 ∈ pmW := pmW_tb (i := 874) (by decide +kernel) rfl
theorem se_mPalette_alphasToTell : Cond.selects mPalette_alphasToTell.1.cls mPalette_alphasToTell.1 mPalette_alphasToTell.1 ∈ pmW := pmW_tb (i := 875) (by decide +kernel) rfl
def mPalette_copyFrom : pmMeth := (⟨"PortableFiles$Palette", "copyFrom", "(LPortableFiles$Palette;)V"⟩, prog_6_method_9_code, 2, none, [], 2, 2, 1, 26)
theorem ok_mPalette_copyFrom : pmOk mPalette_copyFrom := ⟨⟨pmW_tb (i := 1019) (by decide +kernel) rfl, qI_Palette⟩, plainFor_of_name (by decide +kernel), by decide +kernel, by decide +kernel⟩
theorem im_mPalette_copyFrom : Cond.instanceMethod mPalette_copyFrom.1 ∈ pmW := pmW_tb (i := 1017) (by decide +kernel) rfl
theorem se_mPalette_copyFrom : Cond.selects mPalette_copyFrom.1.cls mPalette_copyFrom.1 mPalette_copyFrom.1 ∈ pmW := pmW_tb (i := 1018) (by decide +kernel) rfl
def mPicture_init : pmMeth := (⟨"PortableFiles$Picture", "<init>", "()V"⟩, prog_7_method_1_code, 1, none, [], 3, 1, 2, 40)
theorem ok_mPicture_init : pmOk mPicture_init := ⟨⟨pmW_tb (i := 36) (by decide +kernel) rfl, qI_Picture⟩, plainFor_of_name (by decide +kernel), by decide +kernel, by decide +kernel⟩
theorem im_mPicture_init : Cond.instanceMethod mPicture_init.1 ∈ pmW := pmW_tb (i := 35) (by decide +kernel) rfl
def mPicture_begin : pmMeth := (⟨"PortableFiles$Picture", "begin", "(IIII)V"⟩, prog_7_method_2_code, 5, none, [], 3, 5, 2, 43)
theorem ok_mPicture_begin : pmOk mPicture_begin := ⟨⟨pmW_tb (i := 391) (by decide +kernel) rfl, qI_Picture⟩, plainFor_of_name (by decide +kernel), by decide +kernel, by decide +kernel⟩
theorem im_mPicture_begin : Cond.instanceMethod mPicture_begin.1 ∈ pmW := pmW_tb (i := 389) (by decide +kernel) rfl
theorem se_mPicture_begin : Cond.selects mPicture_begin.1.cls mPicture_begin.1 mPicture_begin.1 ∈ pmW := pmW_tb (i := 390) (by decide +kernel) rfl
def mPicture_become : pmMeth := (⟨"PortableFiles$Picture", "become", "(II)V"⟩, prog_7_method_3_code, 3, none, [], 3, 3, 1, 20)
theorem ok_mPicture_become : pmOk mPicture_become := ⟨⟨pmW_tb (i := 783) (by decide +kernel) rfl, qI_Picture⟩, plainFor_of_name (by decide +kernel), by decide +kernel, by decide +kernel⟩
theorem im_mPicture_become : Cond.instanceMethod mPicture_become.1 ∈ pmW := pmW_tb (i := 781) (by decide +kernel) rfl
theorem se_mPicture_become : Cond.selects mPicture_become.1.cls mPicture_become.1 mPicture_become.1 ∈ pmW := pmW_tb (i := 782) (by decide +kernel) rfl
def mPicture_has : pmMeth := (⟨"PortableFiles$Picture", "has", "(III)Z"⟩, prog_7_method_4_code, 4, (some .boolean), [], 3, 4, 0, 0)
theorem ok_mPicture_has : pmOk mPicture_has := ⟨⟨pmW_tb (i := 517) (by decide +kernel) rfl, qI_Picture⟩, plainFor_of_name (by decide +kernel), by decide +kernel, by decide +kernel⟩
theorem im_mPicture_has : Cond.instanceMethod mPicture_has.1 ∈ pmW := pmW_tb (i := 515) (by decide +kernel) rfl
theorem se_mPicture_has : Cond.selects mPicture_has.1.cls mPicture_has.1 mPicture_has.1 ∈ pmW := pmW_tb (i := 516) (by decide +kernel) rfl
def mPicture_sample : pmMeth := (⟨"PortableFiles$Picture", "sample", "(III)I"⟩, prog_7_method_5_code, 4, (some .int), [], 3, 4, 1, 23)
theorem ok_mPicture_sample : pmOk mPicture_sample := ⟨⟨pmW_tb (i := 709) (by decide +kernel) rfl, qI_Picture⟩, plainFor_of_name (by decide +kernel), by decide +kernel, by decide +kernel⟩
theorem im_mPicture_sample : Cond.instanceMethod mPicture_sample.1 ∈ pmW := pmW_tb (i := 707) (by decide +kernel) rfl
theorem se_mPicture_sample : Cond.selects mPicture_sample.1.cls mPicture_sample.1 mPicture_sample.1 ∈ pmW := pmW_tb (i := 708) (by decide +kernel) rfl
def mPicture_setSample : pmMeth := (⟨"PortableFiles$Picture", "setSample", "(IIII)V"⟩, prog_7_method_6_code, 5, none, [], 3, 5, 1, 23)
theorem ok_mPicture_setSample : pmOk mPicture_setSample := ⟨⟨pmW_tb (i := 513) (by decide +kernel) rfl, qI_Picture⟩, plainFor_of_name (by decide +kernel), by decide +kernel, by decide +kernel⟩
theorem im_mPicture_setSample : Cond.instanceMethod mPicture_setSample.1 ∈ pmW := pmW_tb (i := 511) (by decide +kernel) rfl
theorem se_mPicture_setSample : Cond.selects mPicture_setSample.1.cls mPicture_setSample.1 mPicture_setSample.1 ∈ pmW := pmW_tb (i := 512) (by decide +kernel) rfl
def mPicture_sampleMayBe : pmMeth := (⟨"PortableFiles$Picture", "sampleMayBe", "(I)Z"⟩, prog_7_method_7_code, 2, (some .boolean), [], 3, 2, 1, 21)
theorem ok_mPicture_sampleMayBe : pmOk mPicture_sampleMayBe := ⟨⟨pmW_tb (i := 507) (by decide +kernel) rfl, qI_Picture⟩, plainFor_of_name (by decide +kernel), by decide +kernel, by decide +kernel⟩
theorem im_mPicture_sampleMayBe : Cond.instanceMethod mPicture_sampleMayBe.1 ∈ pmW := pmW_tb (i := 505) (by decide +kernel) rfl
theorem se_mPicture_sampleMayBe : Cond.selects mPicture_sampleMayBe.1.cls mPicture_sampleMayBe.1 mPicture_sampleMayBe.1 ∈ pmW := pmW_tb (i := 506) (by decide +kernel) rfl
def mPicture_hasChanged : pmMeth := (⟨"PortableFiles$Picture", "hasChanged", "()V"⟩, prog_7_method_8_code, 1, none, [], 3, 1, 3, 70)
theorem ok_mPicture_hasChanged : pmOk mPicture_hasChanged := ⟨⟨pmW_tb (i := 659) (by decide +kernel) rfl, qI_Picture⟩, plainFor_of_name (by decide +kernel), by decide +kernel, by decide +kernel⟩
theorem im_mPicture_hasChanged : Cond.instanceMethod mPicture_hasChanged.1 ∈ pmW := pmW_tb (i := 657) (by decide +kernel) rfl
theorem se_mPicture_hasChanged : Cond.selects mPicture_hasChanged.1.cls mPicture_hasChanged.1 mPicture_hasChanged.1 ∈ pmW := pmW_tb (i := 658) (by decide +kernel) rfl
def mPicture_copyFrom : pmMeth := (⟨"PortableFiles$Picture", "copyFrom", "(LPortableFiles$Picture;)V"⟩, prog_7_method_9_code, 2, none, [], 3, 2, 2, 47)
theorem ok_mPicture_copyFrom : pmOk mPicture_copyFrom := ⟨⟨pmW_tb (i := 1014) (by decide +kernel) rfl, qI_Picture⟩, plainFor_of_name (by decide +kernel), by decide +kernel, by decide +kernel⟩
theorem im_mPicture_copyFrom : Cond.instanceMethod mPicture_copyFrom.1 ∈ pmW := pmW_tb (i := 1012) (by decide +kernel) rfl
theorem se_mPicture_copyFrom : Cond.selects mPicture_copyFrom.1.cls mPicture_copyFrom.1 mPicture_copyFrom.1 ∈ pmW := pmW_tb (i := 1013) (by decide +kernel) rfl
def mPicture_placeOf : pmMeth := (⟨"PortableFiles$Picture", "placeOf", "(III)I"⟩, prog_7_method_10_code, 3, (some .int), [], 3, 3, 0, 0)
theorem ok_mPicture_placeOf : pmOk mPicture_placeOf := ⟨⟨pmW_tb (i := 520) (by decide +kernel) rfl, qI_Picture⟩, plainFor_of_name (by decide +kernel), by decide +kernel, by decide +kernel⟩
theorem st_mPicture_placeOf : Cond.static mPicture_placeOf.1 ∈ pmW := pmW_tb (i := 519) (by decide +kernel) rfl
def mReading_init : pmMeth := (⟨"PortableFiles$Reading", "<init>", "()V"⟩, prog_8_method_1_code, 1, none, [], 4, 1, 3, 60)
theorem ok_mReading_init : pmOk mReading_init := ⟨⟨pmW_tb (i := 185) (by decide +kernel) rfl, qI_Reading⟩, plainFor_of_name (by decide +kernel), by decide +kernel, by decide +kernel⟩
theorem im_mReading_init : Cond.instanceMethod mReading_init.1 ∈ pmW := pmW_tb (i := 184) (by decide +kernel) rfl
def mReading_run : pmMeth := (⟨"PortableFiles$Reading", "run", "()V"⟩, prog_8_method_2_code, 2, none, [], 4, 1, 6, 134)
theorem ok_mReading_run : pmOk mReading_run := ⟨⟨pmW_tb (i := 264) (by decide +kernel) rfl, qI_Reading⟩, plainFor_of_name (by decide +kernel), by decide +kernel, by decide +kernel⟩
theorem im_mReading_run : Cond.instanceMethod mReading_run.1 ∈ pmW := pmW_tb (i := 262) (by decide +kernel) rfl
theorem se_mReading_run : Cond.selects mReading_run.1.cls mReading_run.1 mReading_run.1 ∈ pmW := pmW_tb (i := 263) (by decide +kernel) rfl
def mReading_begin : pmMeth := (⟨"PortableFiles$Reading", "begin", "()V"⟩, prog_8_method_3_code, 2, none, [], 4, 1, 3, 63)
theorem ok_mReading_begin : pmOk mReading_begin := ⟨⟨pmW_tb (i := 268) (by decide +kernel) rfl, qI_Reading⟩, plainFor_of_name (by decide +kernel), by decide +kernel, by decide +kernel⟩
theorem im_mReading_begin : Cond.instanceMethod mReading_begin.1 ∈ pmW := pmW_tb (i := 267) (by decide +kernel) rfl
theorem se_mReading_begin : Cond.selects mReading_begin.1.cls mReading_begin.1 mReading_begin.1 ∈ pmW := pmW_sel (i := 0) (q := (mReading_begin.1, 16)) (by decide +kernel) rfl pmSelIn
def mReading_readChunk : pmMeth := (⟨"PortableFiles$Reading", "readChunk", "()I"⟩, prog_8_method_4_code, 2, (some .int), [], 4, 1, 5, 113)
theorem ok_mReading_readChunk : pmOk mReading_readChunk := ⟨⟨pmW_tb (i := 290) (by decide +kernel) rfl, qI_Reading⟩, plainFor_of_name (by decide +kernel), by decide +kernel, by decide +kernel⟩
theorem im_mReading_readChunk : Cond.instanceMethod mReading_readChunk.1 ∈ pmW := pmW_tb (i := 289) (by decide +kernel) rfl
theorem se_mReading_readChunk : Cond.selects mReading_readChunk.1.cls mReading_readChunk.1 mReading_readChunk.1 ∈ pmW := pmW_sel (i := 1) (q := (mReading_readChunk.1, 16)) (by decide +kernel) rfl pmSelIn
def mReading_frameFault : pmMeth := (⟨"PortableFiles$Reading", "frameFault", "()I"⟩, prog_8_method_5_code, 1, (some .int), [], 4, 1, 3, 63)
theorem ok_mReading_frameFault : pmOk mReading_frameFault := ⟨⟨pmW_tb (i := 294) (by decide +kernel) rfl, qI_Reading⟩, plainFor_of_name (by decide +kernel), by decide +kernel, by decide +kernel⟩
theorem im_mReading_frameFault : Cond.instanceMethod mReading_frameFault.1 ∈ pmW := pmW_tb (i := 293) (by decide +kernel) rfl
theorem se_mReading_frameFault : Cond.selects mReading_frameFault.1.cls mReading_frameFault.1 mReading_frameFault.1 ∈ pmW := pmW_sel (i := 2) (q := (mReading_frameFault.1, 16)) (by decide +kernel) rfl pmSelIn
def mReading_leaveOut : pmMeth := (⟨"PortableFiles$Reading", "leaveOut", "()I"⟩, prog_8_method_6_code, 1, (some .int), [], 4, 1, 2, 41)
theorem ok_mReading_leaveOut : pmOk mReading_leaveOut := ⟨⟨pmW_tb (i := 335) (by decide +kernel) rfl, qI_Reading⟩, plainFor_of_name (by decide +kernel), by decide +kernel, by decide +kernel⟩
theorem im_mReading_leaveOut : Cond.instanceMethod mReading_leaveOut.1 ∈ pmW := pmW_tb (i := 334) (by decide +kernel) rfl
theorem se_mReading_leaveOut : Cond.selects mReading_leaveOut.1.cls mReading_leaveOut.1 mReading_leaveOut.1 ∈ pmW := pmW_sel (i := 3) (q := (mReading_leaveOut.1, 16)) (by decide +kernel) rfl pmSelIn
def mReading_noteRowsEnd : pmMeth := (⟨"PortableFiles$Reading", "noteRowsEnd", "()V"⟩, prog_8_method_7_code, 1, none, [], 4, 1, 0, 0)
theorem ok_mReading_noteRowsEnd : pmOk mReading_noteRowsEnd := ⟨⟨pmW_tb (i := 342) (by decide +kernel) rfl, qI_Reading⟩, plainFor_of_name (by decide +kernel), by decide +kernel, by decide +kernel⟩
theorem im_mReading_noteRowsEnd : Cond.instanceMethod mReading_noteRowsEnd.1 ∈ pmW := pmW_tb (i := 341) (by decide +kernel) rfl
theorem se_mReading_noteRowsEnd : Cond.selects mReading_noteRowsEnd.1.cls mReading_noteRowsEnd.1 mReading_noteRowsEnd.1 ∈ pmW := pmW_sel (i := 4) (q := (mReading_noteRowsEnd.1, 16)) (by decide +kernel) rfl pmSelIn
def mReading_orderIsWrong : pmMeth := (⟨"PortableFiles$Reading", "orderIsWrong", "()Z"⟩, prog_8_method_8_code, 1, (some .boolean), [], 4, 1, 3, 62)
theorem ok_mReading_orderIsWrong : pmOk mReading_orderIsWrong := ⟨⟨pmW_tb (i := 347) (by decide +kernel) rfl, qI_Reading⟩, plainFor_of_name (by decide +kernel), by decide +kernel, by decide +kernel⟩
theorem im_mReading_orderIsWrong : Cond.instanceMethod mReading_orderIsWrong.1 ∈ pmW := pmW_tb (i := 346) (by decide +kernel) rfl
theorem se_mReading_orderIsWrong : Cond.selects mReading_orderIsWrong.1.cls mReading_orderIsWrong.1 mReading_orderIsWrong.1 ∈ pmW := pmW_sel (i := 5) (q := (mReading_orderIsWrong.1, 16)) (by decide +kernel) rfl pmSelIn
def mReading_isGreyKind : pmMeth := (⟨"PortableFiles$Reading", "isGreyKind", "()Z"⟩, prog_8_method_9_code, 1, (some .boolean), [], 4, 1, 0, 0)
theorem ok_mReading_isGreyKind : pmOk mReading_isGreyKind := ⟨⟨pmW_tb (i := 363) (by decide +kernel) rfl, qI_Reading⟩, plainFor_of_name (by decide +kernel), by decide +kernel, by decide +kernel⟩
theorem im_mReading_isGreyKind : Cond.instanceMethod mReading_isGreyKind.1 ∈ pmW := pmW_tb (i := 362) (by decide +kernel) rfl
theorem se_mReading_isGreyKind : Cond.selects mReading_isGreyKind.1.cls mReading_isGreyKind.1 mReading_isGreyKind.1 ∈ pmW := pmW_sel (i := 6) (q := (mReading_isGreyKind.1, 16)) (by decide +kernel) rfl pmSelIn
def mReading_isUnknown : pmMeth := (⟨"PortableFiles$Reading", "isUnknown", "()Z"⟩, prog_8_method_10_code, 1, (some .boolean), [], 4, 1, 2, 41)
theorem ok_mReading_isUnknown : pmOk mReading_isUnknown := ⟨⟨pmW_tb (i := 367) (by decide +kernel) rfl, qI_Reading⟩, plainFor_of_name (by decide +kernel), by decide +kernel, by decide +kernel⟩
theorem im_mReading_isUnknown : Cond.instanceMethod mReading_isUnknown.1 ∈ pmW := pmW_tb (i := 366) (by decide +kernel) rfl
theorem se_mReading_isUnknown : Cond.selects mReading_isUnknown.1.cls mReading_isUnknown.1 mReading_isUnknown.1 ∈ pmW := pmW_sel (i := 7) (q := (mReading_isUnknown.1, 16)) (by decide +kernel) rfl pmSelIn
def mReading_takeIn : pmMeth := (⟨"PortableFiles$Reading", "takeIn", "()Z"⟩, prog_8_method_11_code, 2, (some .boolean), [], 4, 1, 4, 92)
theorem ok_mReading_takeIn : pmOk mReading_takeIn := ⟨⟨pmW_tb (i := 373) (by decide +kernel) rfl, qI_Reading⟩, plainFor_of_name (by decide +kernel), by decide +kernel, by decide +kernel⟩
theorem im_mReading_takeIn : Cond.instanceMethod mReading_takeIn.1 ∈ pmW := pmW_tb (i := 372) (by decide +kernel) rfl
theorem se_mReading_takeIn : Cond.selects mReading_takeIn.1.cls mReading_takeIn.1 mReading_takeIn.1 ∈ pmW := pmW_sel (i := 8) (q := (mReading_takeIn.1, 16)) (by decide +kernel) rfl pmSelIn
def mReading_takeHead : pmMeth := (⟨"PortableFiles$Reading", "takeHead", "(I)Z"⟩, prog_8_method_12_code, 6, (some .boolean), [], 4, 2, 3, 67)
theorem ok_mReading_takeHead : pmOk mReading_takeHead := ⟨⟨pmW_tb (i := 377) (by decide +kernel) rfl, qI_Reading⟩, plainFor_of_name (by decide +kernel), by decide +kernel, by decide +kernel⟩
theorem im_mReading_takeHead : Cond.instanceMethod mReading_takeHead.1 ∈ pmW := pmW_tb (i := 376) (by decide +kernel) rfl
theorem se_mReading_takeHead : Cond.selects mReading_takeHead.1.cls mReading_takeHead.1 mReading_takeHead.1 ∈ pmW := pmW_sel (i := 9) (q := (mReading_takeHead.1, 16)) (by decide +kernel) rfl pmSelIn
def mReading_takeTag : pmMeth := (⟨"PortableFiles$Reading", "takeTag", "(II)Z"⟩, prog_8_method_13_code, 3, (some .boolean), [], 4, 3, 2, 42)
theorem ok_mReading_takeTag : pmOk mReading_takeTag := ⟨⟨pmW_tb (i := 414) (by decide +kernel) rfl, qI_Reading⟩, plainFor_of_name (by decide +kernel), by decide +kernel, by decide +kernel⟩
theorem im_mReading_takeTag : Cond.instanceMethod mReading_takeTag.1 ∈ pmW := pmW_tb (i := 413) (by decide +kernel) rfl
theorem se_mReading_takeTag : Cond.selects mReading_takeTag.1.cls mReading_takeTag.1 mReading_takeTag.1 ∈ pmW := pmW_sel (i := 10) (q := (mReading_takeTag.1, 16)) (by decide +kernel) rfl pmSelIn
def mReading_takePalette : pmMeth := (⟨"PortableFiles$Reading", "takePalette", "(I)Z"⟩, prog_8_method_14_code, 5, (some .boolean), [], 4, 2, 2, 42)
theorem ok_mReading_takePalette : pmOk mReading_takePalette := ⟨⟨pmW_tb (i := 425) (by decide +kernel) rfl, qI_Reading⟩, plainFor_of_name (by decide +kernel), by decide +kernel, by decide +kernel⟩
theorem im_mReading_takePalette : Cond.instanceMethod mReading_takePalette.1 ∈ pmW := pmW_tb (i := 424) (by decide +kernel) rfl
theorem se_mReading_takePalette : Cond.selects mReading_takePalette.1.cls mReading_takePalette.1 mReading_takePalette.1 ∈ pmW := pmW_sel (i := 11) (q := (mReading_takePalette.1, 16)) (by decide +kernel) rfl pmSelIn
def mReading_takeAlphas : pmMeth := (⟨"PortableFiles$Reading", "takeAlphas", "(I)Z"⟩, prog_8_method_15_code, 3, (some .boolean), [], 4, 2, 2, 43)
theorem ok_mReading_takeAlphas : pmOk mReading_takeAlphas := ⟨⟨pmW_tb (i := 442) (by decide +kernel) rfl, qI_Reading⟩, plainFor_of_name (by decide +kernel), by decide +kernel, by decide +kernel⟩
theorem im_mReading_takeAlphas : Cond.instanceMethod mReading_takeAlphas.1 ∈ pmW := pmW_tb (i := 441) (by decide +kernel) rfl
theorem se_mReading_takeAlphas : Cond.selects mReading_takeAlphas.1.cls mReading_takeAlphas.1 mReading_takeAlphas.1 ∈ pmW := pmW_sel (i := 12) (q := (mReading_takeAlphas.1, 16)) (by decide +kernel) rfl pmSelIn
def mReading_takeRows : pmMeth := (⟨"PortableFiles$Reading", "takeRows", "(I)Z"⟩, prog_8_method_16_code, 3, (some .boolean), [], 4, 2, 2, 42)
theorem ok_mReading_takeRows : pmOk mReading_takeRows := ⟨⟨pmW_tb (i := 454) (by decide +kernel) rfl, qI_Reading⟩, plainFor_of_name (by decide +kernel), by decide +kernel, by decide +kernel⟩
theorem im_mReading_takeRows : Cond.instanceMethod mReading_takeRows.1 ∈ pmW := pmW_tb (i := 453) (by decide +kernel) rfl
theorem se_mReading_takeRows : Cond.selects mReading_takeRows.1.cls mReading_takeRows.1 mReading_takeRows.1 ∈ pmW := pmW_sel (i := 13) (q := (mReading_takeRows.1, 16)) (by decide +kernel) rfl pmSelIn
def mReading_takeExtra : pmMeth := (⟨"PortableFiles$Reading", "takeExtra", "(I)Z"⟩, prog_8_method_17_code, 4, (some .boolean), [], 4, 2, 2, 43)
theorem ok_mReading_takeExtra : pmOk mReading_takeExtra := ⟨⟨pmW_tb (i := 462) (by decide +kernel) rfl, qI_Reading⟩, plainFor_of_name (by decide +kernel), by decide +kernel, by decide +kernel⟩
theorem im_mReading_takeExtra : Cond.instanceMethod mReading_takeExtra.1 ∈ pmW := pmW_tb (i := 461) (by decide +kernel) rfl
theorem se_mReading_takeExtra : Cond.selects mReading_takeExtra.1.cls mReading_takeExtra.1 mReading_takeExtra.1 ∈ pmW := pmW_sel (i := 14) (q := (mReading_takeExtra.1, 16)) (by decide +kernel) rfl pmSelIn
def mReading_end : pmMeth := (⟨"PortableFiles$Reading", "end", "()I"⟩, prog_8_method_18_code, 1, (some .int), [], 4, 1, 4, 99)
theorem ok_mReading_end : pmOk mReading_end := ⟨⟨pmW_tb (i := 483) (by decide +kernel) rfl, qI_Reading⟩, plainFor_of_name (by decide +kernel), by decide +kernel, by decide +kernel⟩
theorem im_mReading_end : Cond.instanceMethod mReading_end.1 ∈ pmW := pmW_tb (i := 482) (by decide +kernel) rfl
theorem se_mReading_end : Cond.selects mReading_end.1.cls mReading_end.1 mReading_end.1 ∈ pmW := pmW_sel (i := 15) (q := (mReading_end.1, 16)) (by decide +kernel) rfl pmSelIn
def mTags_init : pmMeth := (⟨"PortableFiles$Tags", "<init>", "()V"⟩, prog_11_method_1_code, 1, none, [], 5, 1, 1, 20)
theorem ok_mTags_init : pmOk mTags_init := ⟨⟨pmW_tb (i := 60) (by decide +kernel) rfl, qI_Tags⟩, plainFor_of_name (by decide +kernel), by decide +kernel, by decide +kernel⟩
theorem im_mTags_init : Cond.instanceMethod mTags_init.1 ∈ pmW := pmW_tb (i := 59) (by decide +kernel) rfl
def mTags_isTag : pmMeth := (⟨"PortableFiles$Tags", "isTag", "(I)Z"⟩, prog_11_method_2_code, 1, (some .boolean), [], 5, 1, 0, 0)
theorem ok_mTags_isTag : pmOk mTags_isTag := ⟨⟨pmW_tb (i := 359) (by decide +kernel) rfl, qI_Tags⟩, plainFor_of_name (by decide +kernel), by decide +kernel, by decide +kernel⟩
theorem st_mTags_isTag : Cond.static mTags_isTag.1 ∈ pmW := pmW_tb (i := 358) (by decide +kernel) rfl
def mTags_mayBe : pmMeth := (⟨"PortableFiles$Tags", "mayBe", "(II)Z"⟩, prog_11_method_3_code, 2, (some .boolean), [], 5, 2, 0, 0)
theorem ok_mTags_mayBe : pmOk mTags_mayBe := ⟨⟨pmW_tb (i := 417) (by decide +kernel) rfl, qI_Tags⟩, plainFor_of_name (by decide +kernel), by decide +kernel, by decide +kernel⟩
theorem st_mTags_mayBe : Cond.static mTags_mayBe.1 ∈ pmW := pmW_tb (i := 416) (by decide +kernel) rfl
def mTags_clear : pmMeth := (⟨"PortableFiles$Tags", "clear", "()V"⟩, prog_11_method_4_code, 1, none, [], 5, 1, 1, 23)
theorem ok_mTags_clear : pmOk mTags_clear := ⟨⟨pmW_tb (i := 405) (by decide +kernel) rfl, qI_Tags⟩, plainFor_of_name (by decide +kernel), by decide +kernel, by decide +kernel⟩
theorem im_mTags_clear : Cond.instanceMethod mTags_clear.1 ∈ pmW := pmW_tb (i := 403) (by decide +kernel) rfl
theorem se_mTags_clear : Cond.selects mTags_clear.1.cls mTags_clear.1 mTags_clear.1 ∈ pmW := pmW_tb (i := 404) (by decide +kernel) rfl
def mTags_has : pmMeth := (⟨"PortableFiles$Tags", "has", "(I)Z"⟩, prog_11_method_5_code, 2, (some .boolean), [], 5, 2, 2, 41)
theorem ok_mTags_has : pmOk mTags_has := ⟨⟨pmW_tb (i := 352) (by decide +kernel) rfl, qI_Tags⟩, plainFor_of_name (by decide +kernel), by decide +kernel, by decide +kernel⟩
theorem im_mTags_has : Cond.instanceMethod mTags_has.1 ∈ pmW := pmW_tb (i := 350) (by decide +kernel) rfl
theorem se_mTags_has : Cond.selects mTags_has.1.cls mTags_has.1 mTags_has.1 ∈ pmW := pmW_tb (i := 351) (by decide +kernel) rfl
def mTags_value : pmMeth := (⟨"PortableFiles$Tags", "value", "(I)I"⟩, prog_11_method_6_code, 2, (some .int), [], 5, 2, 1, 20)
theorem ok_mTags_value : pmOk mTags_value := ⟨⟨pmW_tb (i := 356) (by decide +kernel) rfl, qI_Tags⟩, plainFor_of_name (by decide +kernel), by decide +kernel, by decide +kernel⟩
theorem im_mTags_value : Cond.instanceMethod mTags_value.1 ∈ pmW := pmW_tb (i := 354) (by decide +kernel) rfl
theorem se_mTags_value : Cond.selects mTags_value.1.cls mTags_value.1 mTags_value.1 ∈ pmW := pmW_tb (i := 355) (by decide +kernel) rfl
def mTags_set : pmMeth := (⟨"PortableFiles$Tags", "set", "(II)V"⟩, prog_11_method_7_code, 3, none, [], 5, 3, 1, 20)
theorem ok_mTags_set : pmOk mTags_set := ⟨⟨pmW_tb (i := 421) (by decide +kernel) rfl, qI_Tags⟩, plainFor_of_name (by decide +kernel), by decide +kernel, by decide +kernel⟩
theorem im_mTags_set : Cond.instanceMethod mTags_set.1 ∈ pmW := pmW_tb (i := 419) (by decide +kernel) rfl
theorem se_mTags_set : Cond.selects mTags_set.1.cls mTags_set.1 mTags_set.1 ∈ pmW := pmW_tb (i := 420) (by decide +kernel) rfl
def mTags_copyFrom : pmMeth := (⟨"PortableFiles$Tags", "copyFrom", "(LPortableFiles$Tags;)V"⟩, prog_11_method_8_code, 2, none, [], 5, 2, 1, 26)
theorem ok_mTags_copyFrom : pmOk mTags_copyFrom := ⟨⟨pmW_tb (i := 1024) (by decide +kernel) rfl, qI_Tags⟩, plainFor_of_name (by decide +kernel), by decide +kernel, by decide +kernel⟩
theorem im_mTags_copyFrom : Cond.instanceMethod mTags_copyFrom.1 ∈ pmW := pmW_tb (i := 1022) (by decide +kernel) rfl
theorem se_mTags_copyFrom : Cond.selects mTags_copyFrom.1.cls mTags_copyFrom.1 mTags_copyFrom.1 ∈ pmW := pmW_tb (i := 1023) (by decide +kernel) rfl
def mWriting_init : pmMeth := (⟨"PortableFiles$Writing", "<init>", "()V"⟩, prog_12_method_1_code, 1, none, [], 6, 1, 2, 41)
theorem ok_mWriting_init : pmOk mWriting_init := ⟨⟨pmW_tb (i := 153) (by decide +kernel) rfl, qI_Writing⟩, plainFor_of_name (by decide +kernel), by decide +kernel, by decide +kernel⟩
theorem im_mWriting_init : Cond.instanceMethod mWriting_init.1 ∈ pmW := pmW_tb (i := 152) (by decide +kernel) rfl
def mWriting_run : pmMeth := (⟨"PortableFiles$Writing", "run", "(LPortableFiles$Picture;)V"⟩, prog_12_method_2_code, 2, none, [], 6, 2, 5, 118)
theorem ok_mWriting_run : pmOk mWriting_run := ⟨⟨pmW_tb (i := 817) (by decide +kernel) rfl, qI_Writing⟩, plainFor_of_name (by decide +kernel), by decide +kernel, by decide +kernel⟩
theorem im_mWriting_run : Cond.instanceMethod mWriting_run.1 ∈ pmW := pmW_tb (i := 815) (by decide +kernel) rfl
theorem se_mWriting_run : Cond.selects mWriting_run.1.cls mWriting_run.1 mWriting_run.1 ∈ pmW := pmW_tb (i := 816) (by decide +kernel) rfl
def mWriting_open : pmMeth := (⟨"PortableFiles$Writing", "open", "(I)V"⟩, prog_12_method_3_code, 2, none, [], 6, 2, 2, 42)
theorem ok_mWriting_open : pmOk mWriting_open := ⟨⟨pmW_tb (i := 832) (by decide +kernel) rfl, qI_Writing⟩, plainFor_of_name (by decide +kernel), by decide +kernel, by decide +kernel⟩
theorem im_mWriting_open : Cond.instanceMethod mWriting_open.1 ∈ pmW := pmW_tb (i := 831) (by decide +kernel) rfl
theorem se_mWriting_open : Cond.selects mWriting_open.1.cls mWriting_open.1 mWriting_open.1 ∈ pmW := pmW_sel (i := 20) (q := (mWriting_open.1, 3)) (by decide +kernel) rfl pmSelIn
def mWriting_close : pmMeth := (⟨"PortableFiles$Writing", "close", "()V"⟩, prog_12_method_4_code, 2, none, [], 6, 1, 3, 67)
theorem ok_mWriting_close : pmOk mWriting_close := ⟨⟨pmW_tb (i := 841) (by decide +kernel) rfl, qI_Writing⟩, plainFor_of_name (by decide +kernel), by decide +kernel, by decide +kernel⟩
theorem im_mWriting_close : Cond.instanceMethod mWriting_close.1 ∈ pmW := pmW_tb (i := 840) (by decide +kernel) rfl
theorem se_mWriting_close : Cond.selects mWriting_close.1.cls mWriting_close.1 mWriting_close.1 ∈ pmW := pmW_sel (i := 21) (q := (mWriting_close.1, 3)) (by decide +kernel) rfl pmSelIn
def mWriting_addHead : pmMeth := (⟨"PortableFiles$Writing", "addHead", "(LPortableFiles$Picture;)V"⟩, prog_12_method_5_code, 2, none, [], 6, 2, 4, 88)
theorem ok_mWriting_addHead : pmOk mWriting_addHead := ⟨⟨pmW_tb (i := 827) (by decide +kernel) rfl, qI_Writing⟩, plainFor_of_name (by decide +kernel), by decide +kernel, by decide +kernel⟩
theorem im_mWriting_addHead : Cond.instanceMethod mWriting_addHead.1 ∈ pmW := pmW_tb (i := 826) (by decide +kernel) rfl
theorem se_mWriting_addHead : Cond.selects mWriting_addHead.1.cls mWriting_addHead.1 mWriting_addHead.1 ∈ pmW := pmW_sel (i := 19) (q := (mWriting_addHead.1, 3)) (by decide +kernel) rfl pmSelIn
def mWriting_addTags : pmMeth := (⟨"PortableFiles$Writing", "addTags", "(LPortableFiles$Tags;)V"⟩, prog_12_method_6_code, 2, none, [], 6, 2, 4, 88)
theorem ok_mWriting_addTags : pmOk mWriting_addTags := ⟨⟨pmW_tb (i := 854) (by decide +kernel) rfl, qI_Writing⟩, plainFor_of_name (by decide +kernel), by decide +kernel, by decide +kernel⟩
theorem im_mWriting_addTags : Cond.instanceMethod mWriting_addTags.1 ∈ pmW := pmW_tb (i := 853) (by decide +kernel) rfl
theorem se_mWriting_addTags : Cond.selects mWriting_addTags.1.cls mWriting_addTags.1 mWriting_addTags.1 ∈ pmW := pmW_sel (i := 22) (q := (mWriting_addTags.1, 3)) (by decide +kernel) rfl pmSelIn
def mWriting_addPalette : pmMeth := (⟨"PortableFiles$Writing", "addPalette", "(LPortableFiles$Palette;)V"⟩, prog_12_method_7_code, 4, none, [], 6, 2, 4, 88)
theorem ok_mWriting_addPalette : pmOk mWriting_addPalette := ⟨⟨pmW_tb (i := 863) (by decide +kernel) rfl, qI_Writing⟩, plainFor_of_name (by decide +kernel), by decide +kernel, by decide +kernel⟩
theorem im_mWriting_addPalette : Cond.instanceMethod mWriting_addPalette.1 ∈ pmW := pmW_tb (i := 862) (by decide +kernel) rfl
theorem se_mWriting_addPalette : Cond.selects mWriting_addPalette.1.cls mWriting_addPalette.1 mWriting_addPalette.1 ∈ pmW := pmW_sel (i := 23) (q := (mWriting_addPalette.1, 3)) (by decide +kernel) rfl pmSelIn
def mWriting_addAlphas : pmMeth := (⟨"PortableFiles$Writing", "addAlphas", "(LPortableFiles$Palette;)V"⟩, prog_12_method_8_code, 4, none, [], 6, 2, 4, 88)
theorem ok_mWriting_addAlphas : pmOk mWriting_addAlphas := ⟨⟨pmW_tb (i := 872) (by decide +kernel) rfl, qI_Writing⟩, plainFor_of_name (by decide +kernel), by decide +kernel, by decide +kernel⟩
theorem im_mWriting_addAlphas : Cond.instanceMethod mWriting_addAlphas.1 ∈ pmW := pmW_tb (i := 871) (by decide +kernel) rfl
theorem se_mWriting_addAlphas : Cond.selects mWriting_addAlphas.1.cls mWriting_addAlphas.1 mWriting_addAlphas.1 ∈ pmW := pmW_sel (i := 24) (q := (mWriting_addAlphas.1, 3)) (by decide +kernel) rfl pmSelIn
def mWriting_addRows : pmMeth := (⟨"PortableFiles$Writing", "addRows", "(LPortableFiles$Picture;)V"⟩, prog_12_method_9_code, 5, none, [], 6, 2, 4, 94)
theorem ok_mWriting_addRows : pmOk mWriting_addRows := ⟨⟨pmW_tb (i := 882) (by decide +kernel) rfl, qI_Writing⟩, plainFor_of_name (by decide +kernel), by decide +kernel, by decide +kernel⟩
theorem im_mWriting_addRows : Cond.instanceMethod mWriting_addRows.1 ∈ pmW := pmW_tb (i := 881) (by decide +kernel) rfl
theorem se_mWriting_addRows : Cond.selects mWriting_addRows.1.cls mWriting_addRows.1 mWriting_addRows.1 ∈ pmW := pmW_sel (i := 25) (q := (mWriting_addRows.1, 3)) (by decide +kernel) rfl pmSelIn
def mWriting_addExtras : pmMeth := (⟨"PortableFiles$Writing", "addExtras", "(LPortableFiles$Extras;)V"⟩, prog_12_method_10_code, 4, none, [], 6, 2, 4, 88)
theorem ok_mWriting_addExtras : pmOk mWriting_addExtras := ⟨⟨pmW_tb (i := 898) (by decide +kernel) rfl, qI_Writing⟩, plainFor_of_name (by decide +kernel), by decide +kernel, by decide +kernel⟩
theorem im_mWriting_addExtras : Cond.instanceMethod mWriting_addExtras.1 ∈ pmW := pmW_tb (i := 897) (by decide +kernel) rfl
theorem se_mWriting_addExtras : Cond.selects mWriting_addExtras.1.cls mWriting_addExtras.1 mWriting_addExtras.1 ∈ pmW := pmW_sel (i := 26) (q := (mWriting_addExtras.1, 3)) (by decide +kernel) rfl pmSelIn
def mPF_init : pmMeth := (⟨"PortableFiles", "<init>", "()V"⟩, prog_1_method_1_code, 1, none, [], 7, 1, 4, 80)
theorem ok_mPF_init : pmOk mPF_init := ⟨⟨pmW_tb (i := 28) (by decide +kernel) rfl, qI_PF⟩, plainFor_of_name (by decide +kernel), by decide +kernel, by decide +kernel⟩
theorem im_mPF_init : Cond.instanceMethod mPF_init.1 ∈ pmW := pmW_tb (i := 27) (by decide +kernel) rfl
def mPF_head : pmMeth := (⟨"PortableFiles", "head", "(IIII)V"⟩, prog_1_method_2_code, 5, none, [], 7, 5, 6, 90)
theorem ok_mPF_head : pmOk mPF_head := ⟨⟨pmW_tb (i := 537) (by decide +kernel) rfl, qI_PF⟩, plainFor_of_name (by decide +kernel), by decide +kernel, by decide +kernel⟩
theorem im_mPF_head : Cond.instanceMethod mPF_head.1 ∈ pmW := pmW_tb (i := 535) (by decide +kernel) rfl
theorem se_mPF_head : Cond.selects mPF_head.1.cls mPF_head.1 mPF_head.1 ∈ pmW := pmW_tb (i := 536) (by decide +kernel) rfl
def mPF_colour : pmMeth := (⟨"PortableFiles", "colour", "(IIII)I"⟩, prog_1_method_3_code, 5, (some .int), [], 7, 5, 6, 90)
theorem ok_mPF_colour : pmOk mPF_colour := ⟨⟨pmW_tb (i := 617) (by decide +kernel) rfl, qI_PF⟩, plainFor_of_name (by decide +kernel), by decide +kernel, by decide +kernel⟩
theorem im_mPF_colour : Cond.instanceMethod mPF_colour.1 ∈ pmW := pmW_tb (i := 615) (by decide +kernel) rfl
theorem se_mPF_colour : Cond.selects mPF_colour.1.cls mPF_colour.1 mPF_colour.1 ∈ pmW := pmW_tb (i := 616) (by decide +kernel) rfl
def mPF_put : pmMeth := (⟨"PortableFiles", "put", "(IIII)I"⟩, prog_1_method_4_code, 6, (some .int), [], 7, 5, 7, 110)
theorem ok_mPF_put : pmOk mPF_put := ⟨⟨pmW_tb (i := 681) (by decide +kernel) rfl, qI_PF⟩, plainFor_of_name (by decide +kernel), by decide +kernel, by decide +kernel⟩
theorem im_mPF_put : Cond.instanceMethod mPF_put.1 ∈ pmW := pmW_tb (i := 679) (by decide +kernel) rfl
theorem se_mPF_put : Cond.selects mPF_put.1.cls mPF_put.1 mPF_put.1 ∈ pmW := pmW_tb (i := 680) (by decide +kernel) rfl
def mPF_tag : pmMeth := (⟨"PortableFiles", "tag", "(II)I"⟩, prog_1_method_5_code, 4, (some .int), [], 7, 3, 7, 110)
theorem ok_mPF_tag : pmOk mPF_tag := ⟨⟨pmW_tb (i := 717) (by decide +kernel) rfl, qI_PF⟩, plainFor_of_name (by decide +kernel), by decide +kernel, by decide +kernel⟩
theorem im_mPF_tag : Cond.instanceMethod mPF_tag.1 ∈ pmW := pmW_tb (i := 715) (by decide +kernel) rfl
theorem se_mPF_tag : Cond.selects mPF_tag.1.cls mPF_tag.1 mPF_tag.1 ∈ pmW := pmW_tb (i := 716) (by decide +kernel) rfl
def mPF_extra : pmMeth := (⟨"PortableFiles", "extra", "(I)I"⟩, prog_1_method_6_code, 2, (some .int), [], 7, 2, 7, 110)
theorem ok_mPF_extra : pmOk mPF_extra := ⟨⟨pmW_tb (i := 730) (by decide +kernel) rfl, qI_PF⟩, plainFor_of_name (by decide +kernel), by decide +kernel, by decide +kernel⟩
theorem im_mPF_extra : Cond.instanceMethod mPF_extra.1 ∈ pmW := pmW_tb (i := 728) (by decide +kernel) rfl
theorem se_mPF_extra : Cond.selects mPF_extra.1.cls mPF_extra.1 mPF_extra.1 ∈ pmW := pmW_tb (i := 729) (by decide +kernel) rfl
def mPF_byteOf : pmMeth := (⟨"PortableFiles", "byteOf", "(II)I"⟩, prog_1_method_7_code, 3, (some .int), [], 7, 3, 7, 110)
theorem ok_mPF_byteOf : pmOk mPF_byteOf := ⟨⟨pmW_tb (i := 750) (by decide +kernel) rfl, qI_PF⟩, plainFor_of_name (by decide +kernel), by decide +kernel, by decide +kernel⟩
theorem im_mPF_byteOf : Cond.instanceMethod mPF_byteOf.1 ∈ pmW := pmW_tb (i := 748) (by decide +kernel) rfl
theorem se_mPF_byteOf : Cond.selects mPF_byteOf.1.cls mPF_byteOf.1 mPF_byteOf.1 ∈ pmW := pmW_tb (i := 749) (by decide +kernel) rfl
def mPF_reduce : pmMeth := (⟨"PortableFiles", "reduce", "()I"⟩, prog_1_method_8_code, 1, (some .int), [], 7, 1, 7, 114)
theorem ok_mPF_reduce : pmOk mPF_reduce := ⟨⟨pmW_tb (i := 769) (by decide +kernel) rfl, qI_PF⟩, plainFor_of_name (by decide +kernel), by decide +kernel, by decide +kernel⟩
theorem im_mPF_reduce : Cond.instanceMethod mPF_reduce.1 ∈ pmW := pmW_tb (i := 767) (by decide +kernel) rfl
theorem se_mPF_reduce : Cond.selects mPF_reduce.1.cls mPF_reduce.1 mPF_reduce.1 ∈ pmW := pmW_tb (i := 768) (by decide +kernel) rfl
def mPF_write : pmMeth := (⟨"PortableFiles", "write", "()I"⟩, prog_1_method_9_code, 1, (some .int), [], 7, 1, 7, 139)
theorem ok_mPF_write : pmOk mPF_write := ⟨⟨pmW_tb (i := 812) (by decide +kernel) rfl, qI_PF⟩, plainFor_of_name (by decide +kernel), by decide +kernel, by decide +kernel⟩
theorem im_mPF_write : Cond.instanceMethod mPF_write.1 ∈ pmW := pmW_tb (i := 810) (by decide +kernel) rfl
theorem se_mPF_write : Cond.selects mPF_write.1.cls mPF_write.1 mPF_write.1 ∈ pmW := pmW_tb (i := 811) (by decide +kernel) rfl
def mPF_byteAt : pmMeth := (⟨"PortableFiles", "byteAt", "(I)I"⟩, prog_1_method_10_code, 2, (some .int), [], 7, 2, 7, 111)
theorem ok_mPF_byteAt : pmOk mPF_byteAt := ⟨⟨pmW_tb (i := 916) (by decide +kernel) rfl, qI_PF⟩, plainFor_of_name (by decide +kernel), by decide +kernel, by decide +kernel⟩
theorem im_mPF_byteAt : Cond.instanceMethod mPF_byteAt.1 ∈ pmW := pmW_tb (i := 914) (by decide +kernel) rfl
theorem se_mPF_byteAt : Cond.selects mPF_byteAt.1.cls mPF_byteAt.1 mPF_byteAt.1 ∈ pmW := pmW_tb (i := 915) (by decide +kernel) rfl
def mPF_feed : pmMeth := (⟨"PortableFiles", "feed", "(I)I"⟩, prog_1_method_11_code, 2, (some .int), [], 7, 2, 7, 111)
theorem ok_mPF_feed : pmOk mPF_feed := ⟨⟨pmW_tb (i := 930) (by decide +kernel) rfl, qI_PF⟩, plainFor_of_name (by decide +kernel), by decide +kernel, by decide +kernel⟩
theorem im_mPF_feed : Cond.instanceMethod mPF_feed.1 ∈ pmW := pmW_tb (i := 928) (by decide +kernel) rfl
theorem se_mPF_feed : Cond.selects mPF_feed.1.cls mPF_feed.1 mPF_feed.1 ∈ pmW := pmW_tb (i := 929) (by decide +kernel) rfl
def mPF_pass : pmMeth := (⟨"PortableFiles", "pass", "(II)I"⟩, prog_1_method_12_code, 5, (some .int), [], 7, 3, 7, 111)
theorem ok_mPF_pass : pmOk mPF_pass := ⟨⟨pmW_tb (i := 943) (by decide +kernel) rfl, qI_PF⟩, plainFor_of_name (by decide +kernel), by decide +kernel, by decide +kernel⟩
theorem im_mPF_pass : Cond.instanceMethod mPF_pass.1 ∈ pmW := pmW_tb (i := 941) (by decide +kernel) rfl
theorem se_mPF_pass : Cond.selects mPF_pass.1.cls mPF_pass.1 mPF_pass.1 ∈ pmW := pmW_tb (i := 942) (by decide +kernel) rfl
def mPF_alter : pmMeth := (⟨"PortableFiles", "alter", "(IIZ)I"⟩, prog_1_method_13_code, 5, (some .int), [], 7, 4, 7, 110)
theorem ok_mPF_alter : pmOk mPF_alter := ⟨⟨pmW_tb (i := 952) (by decide +kernel) rfl, qI_PF⟩, plainFor_of_name (by decide +kernel), by decide +kernel, by decide +kernel⟩
theorem im_mPF_alter : Cond.instanceMethod mPF_alter.1 ∈ pmW := pmW_tb (i := 950) (by decide +kernel) rfl
theorem se_mPF_alter : Cond.selects mPF_alter.1.cls mPF_alter.1 mPF_alter.1 ∈ pmW := pmW_tb (i := 951) (by decide +kernel) rfl
def mPF_read : pmMeth := (⟨"PortableFiles", "read", "()I"⟩, prog_1_method_14_code, 1, (some .int), [], 7, 1, 7, 155)
theorem ok_mPF_read : pmOk mPF_read := ⟨⟨pmW_tb (i := 260) (by decide +kernel) rfl, qI_PF⟩, plainFor_of_name (by decide +kernel), by decide +kernel, by decide +kernel⟩
theorem im_mPF_read : Cond.instanceMethod mPF_read.1 ∈ pmW := pmW_tb (i := 258) (by decide +kernel) rfl
theorem se_mPF_read : Cond.selects mPF_read.1.cls mPF_read.1 mPF_read.1 ∈ pmW := pmW_tb (i := 259) (by decide +kernel) rfl
def mPF_at : pmMeth := (⟨"PortableFiles", "at", "(III)I"⟩, prog_1_method_15_code, 4, (some .int), [], 7, 4, 7, 110)
theorem ok_mPF_at : pmOk mPF_at := ⟨⟨pmW_tb (i := 968) (by decide +kernel) rfl, qI_PF⟩, plainFor_of_name (by decide +kernel), by decide +kernel, by decide +kernel⟩
theorem im_mPF_at : Cond.instanceMethod mPF_at.1 ∈ pmW := pmW_tb (i := 966) (by decide +kernel) rfl
theorem se_mPF_at : Cond.selects mPF_at.1.cls mPF_at.1 mPF_at.1 ∈ pmW := pmW_tb (i := 967) (by decide +kernel) rfl
def mPF_found : pmMeth := (⟨"PortableFiles", "found", "(I)I"⟩, prog_1_method_16_code, 2, (some .int), [], 7, 2, 7, 110)
theorem ok_mPF_found : pmOk mPF_found := ⟨⟨pmW_tb (i := 981) (by decide +kernel) rfl, qI_PF⟩, plainFor_of_name (by decide +kernel), by decide +kernel, by decide +kernel⟩
theorem im_mPF_found : Cond.instanceMethod mPF_found.1 ∈ pmW := pmW_tb (i := 979) (by decide +kernel) rfl
theorem se_mPF_found : Cond.selects mPF_found.1.cls mPF_found.1 mPF_found.1 ∈ pmW := pmW_tb (i := 980) (by decide +kernel) rfl
def mPF_entry : pmMeth := (⟨"PortableFiles", "entry", "(II)I"⟩, prog_1_method_17_code, 3, (some .int), [], 7, 3, 7, 110)
theorem ok_mPF_entry : pmOk mPF_entry := ⟨⟨pmW_tb (i := 988) (by decide +kernel) rfl, qI_PF⟩, plainFor_of_name (by decide +kernel), by decide +kernel, by decide +kernel⟩
theorem im_mPF_entry : Cond.instanceMethod mPF_entry.1 ∈ pmW := pmW_tb (i := 986) (by decide +kernel) rfl
theorem se_mPF_entry : Cond.selects mPF_entry.1.cls mPF_entry.1 mPF_entry.1 ∈ pmW := pmW_tb (i := 987) (by decide +kernel) rfl
def mPF_unknown : pmMeth := (⟨"PortableFiles", "unknown", "(II)I"⟩, prog_1_method_18_code, 4, (some .int), [], 7, 3, 7, 110)
theorem ok_mPF_unknown : pmOk mPF_unknown := ⟨⟨pmW_tb (i := 999) (by decide +kernel) rfl, qI_PF⟩, plainFor_of_name (by decide +kernel), by decide +kernel, by decide +kernel⟩
theorem im_mPF_unknown : Cond.instanceMethod mPF_unknown.1 ∈ pmW := pmW_tb (i := 997) (by decide +kernel) rfl
theorem se_mPF_unknown : Cond.selects mPF_unknown.1.cls mPF_unknown.1 mPF_unknown.1 ∈ pmW := pmW_tb (i := 998) (by decide +kernel) rfl
def mPF_take : pmMeth := (⟨"PortableFiles", "take", "()V"⟩, prog_1_method_19_code, 1, none, [], 7, 1, 7, 110)
theorem ok_mPF_take : pmOk mPF_take := ⟨⟨pmW_tb (i := 1010) (by decide +kernel) rfl, qI_PF⟩, plainFor_of_name (by decide +kernel), by decide +kernel, by decide +kernel⟩
theorem im_mPF_take : Cond.instanceMethod mPF_take.1 ∈ pmW := pmW_tb (i := 1008) (by decide +kernel) rfl
theorem se_mPF_take : Cond.selects mPF_take.1.cls mPF_take.1 mPF_take.1 ∈ pmW := pmW_tb (i := 1009) (by decide +kernel) rfl
def mPF_told : pmMeth := (⟨"PortableFiles", "told", "(I)I"⟩, prog_1_method_20_code, 2, (some .int), [], 7, 2, 0, 0)
theorem ok_mPF_told : pmOk mPF_told := ⟨⟨pmW_tb (i := 524) (by decide +kernel) rfl, qI_PF⟩, plainFor_of_name (by decide +kernel), by decide +kernel, by decide +kernel⟩
theorem im_mPF_told : Cond.instanceMethod mPF_told.1 ∈ pmW := pmW_tb (i := 522) (by decide +kernel) rfl
theorem se_mPF_told : Cond.selects mPF_told.1.cls mPF_told.1 mPF_told.1 ∈ pmW := pmW_tb (i := 523) (by decide +kernel) rfl
def mPF_drop : pmMeth := (⟨"PortableFiles", "drop", "()V"⟩, prog_1_method_21_code, 1, none, [], 7, 1, 1, 20)
theorem ok_mPF_drop : pmOk mPF_drop := ⟨⟨pmW_tb (i := 528) (by decide +kernel) rfl, qI_PF⟩, plainFor_of_name (by decide +kernel), by decide +kernel, by decide +kernel⟩
theorem im_mPF_drop : Cond.instanceMethod mPF_drop.1 ∈ pmW := pmW_tb (i := 526) (by decide +kernel) rfl
theorem se_mPF_drop : Cond.selects mPF_drop.1.cls mPF_drop.1 mPF_drop.1 ∈ pmW := pmW_tb (i := 527) (by decide +kernel) rfl
def mPF_needPicture : pmMeth := (⟨"PortableFiles", "needPicture", "()V"⟩, prog_1_method_22_code, 1, none, [], 7, 1, 6, 90)
theorem ok_mPF_needPicture : pmOk mPF_needPicture := ⟨⟨pmW_tb (i := 685) (by decide +kernel) rfl, qI_PF⟩, plainFor_of_name (by decide +kernel), by decide +kernel, by decide +kernel⟩
theorem im_mPF_needPicture : Cond.instanceMethod mPF_needPicture.1 ∈ pmW := pmW_tb (i := 684) (by decide +kernel) rfl
theorem se_mPF_needPicture : Cond.selects mPF_needPicture.1.cls mPF_needPicture.1 mPF_needPicture.1 ∈ pmW := pmW_sel (i := 18) (q := (mPF_needPicture.1, 3)) (by decide +kernel) rfl pmSelIn
def mPF_needReading : pmMeth := (⟨"PortableFiles", "needReading", "()V"⟩, prog_1_method_23_code, 1, none, [], 7, 1, 6, 90)
theorem ok_mPF_needReading : pmOk mPF_needReading := ⟨⟨pmW_tb (i := 972) (by decide +kernel) rfl, qI_PF⟩, plainFor_of_name (by decide +kernel), by decide +kernel, by decide +kernel⟩
theorem im_mPF_needReading : Cond.instanceMethod mPF_needReading.1 ∈ pmW := pmW_tb (i := 971) (by decide +kernel) rfl
theorem se_mPF_needReading : Cond.selects mPF_needReading.1.cls mPF_needReading.1 mPF_needReading.1 ∈ pmW := pmW_sel (i := 29) (q := (mPF_needReading.1, 3)) (by decide +kernel) rfl pmSelIn
def mPF_needWritten : pmMeth := (⟨"PortableFiles", "needWritten", "(I)V"⟩, prog_1_method_24_code, 2, none, [], 7, 2, 6, 90)
theorem ok_mPF_needWritten : pmOk mPF_needWritten := ⟨⟨pmW_tb (i := 920) (by decide +kernel) rfl, qI_PF⟩, plainFor_of_name (by decide +kernel), by decide +kernel, by decide +kernel⟩
theorem im_mPF_needWritten : Cond.instanceMethod mPF_needWritten.1 ∈ pmW := pmW_tb (i := 919) (by decide +kernel) rfl
theorem se_mPF_needWritten : Cond.selects mPF_needWritten.1.cls mPF_needWritten.1 mPF_needWritten.1 ∈ pmW := pmW_sel (i := 27) (q := (mPF_needWritten.1, 3)) (by decide +kernel) rfl pmSelIn
def mPF_needRoom : pmMeth := (⟨"PortableFiles", "needRoom", "(I)V"⟩, prog_1_method_25_code, 2, none, [], 7, 2, 6, 90)
theorem ok_mPF_needRoom : pmOk mPF_needRoom := ⟨⟨pmW_tb (i := 934) (by decide +kernel) rfl, qI_PF⟩, plainFor_of_name (by decide +kernel), by decide +kernel, by decide +kernel⟩
theorem im_mPF_needRoom : Cond.instanceMethod mPF_needRoom.1 ∈ pmW := pmW_tb (i := 933) (by decide +kernel) rfl
theorem se_mPF_needRoom : Cond.selects mPF_needRoom.1.cls mPF_needRoom.1 mPF_needRoom.1 ∈ pmW := pmW_sel (i := 28) (q := (mPF_needRoom.1, 3)) (by decide +kernel) rfl pmSelIn
def mPF_needByte : pmMeth := (⟨"PortableFiles", "needByte", "(I)V"⟩, prog_1_method_26_code, 1, none, [], 7, 1, 6, 90)
theorem ok_mPF_needByte : pmOk mPF_needByte := ⟨⟨pmW_tb (i := 755) (by decide +kernel) rfl, qI_PF⟩, plainFor_of_name (by decide +kernel), by decide +kernel, by decide +kernel⟩
theorem st_mPF_needByte : Cond.static mPF_needByte.1 ∈ pmW := pmW_tb (i := 754) (by decide +kernel) rfl
def mPF_isByte : pmMeth := (⟨"PortableFiles", "isByte", "(I)Z"⟩, prog_1_method_27_code, 1, (some .boolean), [], 7, 1, 0, 0)
theorem ok_mPF_isByte : pmOk mPF_isByte := ⟨⟨pmW_tb (i := 636) (by decide +kernel) rfl, qI_PF⟩, plainFor_of_name (by decide +kernel), by decide +kernel, by decide +kernel⟩
theorem st_mPF_isByte : Cond.static mPF_isByte.1 ∈ pmW := pmW_tb (i := 635) (by decide +kernel) rfl
def mRef_init : pmMeth := (⟨"PortableFilesModel", "<init>", "()V"⟩, prog_14_method_1_code, 1, none, [], 8, 1, 1, 20)
theorem ok_mRef_init : pmOk mRef_init := ⟨⟨pmW_tb (i := 1034) (by decide +kernel) rfl, qI_Ref⟩, plainFor_of_name (by decide +kernel), by decide +kernel, by decide +kernel⟩
theorem im_mRef_init : Cond.instanceMethod mRef_init.1 ∈ pmW := pmW_tb (i := 1033) (by decide +kernel) rfl
def mRef_thrown : pmMeth := (⟨"PortableFilesModel", "thrown", "()I"⟩, prog_14_method_2_code, 1, (some .int), [], 8, 1, 0, 0)
theorem ok_mRef_thrown : pmOk mRef_thrown := ⟨⟨pmW_tb (i := 1167) (by decide +kernel) rfl, qI_Ref⟩, plainFor_of_name (by decide +kernel), by decide +kernel, by decide +kernel⟩
theorem im_mRef_thrown : Cond.instanceMethod mRef_thrown.1 ∈ pmW := pmW_tb (i := 1165) (by decide +kernel) rfl
theorem se_mRef_thrown : Cond.selects mRef_thrown.1.cls mRef_thrown.1 mRef_thrown.1 ∈ pmW := pmW_tb (i := 1166) (by decide +kernel) rfl
def mRef_isGood : pmMeth := (⟨"PortableFilesModel", "isGood", "(IIII)Z"⟩, prog_14_method_3_code, 6, (some .boolean), [], 8, 4, 0, 0)
theorem ok_mRef_isGood : pmOk mRef_isGood := ⟨⟨pmW_tb (i := 1174) (by decide +kernel) rfl, qI_Ref⟩, plainFor_of_name (by decide +kernel), by decide +kernel, by decide +kernel⟩
theorem st_mRef_isGood : Cond.static mRef_isGood.1 ∈ pmW := pmW_tb (i := 1173) (by decide +kernel) rfl
def mRef_channelsOf : pmMeth := (⟨"PortableFilesModel", "channelsOf", "(I)I"⟩, prog_14_method_4_code, 1, (some .int), [], 8, 1, 0, 0)
theorem ok_mRef_channelsOf : pmOk mRef_channelsOf := ⟨⟨pmW_tb (i := 1195) (by decide +kernel) rfl, qI_Ref⟩, plainFor_of_name (by decide +kernel), by decide +kernel, by decide +kernel⟩
theorem st_mRef_channelsOf : Cond.static mRef_channelsOf.1 ∈ pmW := pmW_tb (i := 1194) (by decide +kernel) rfl
def mRef_mostEntries : pmMeth := (⟨"PortableFilesModel", "mostEntries", "(I)I"⟩, prog_14_method_5_code, 1, (some .int), [], 8, 1, 0, 0)
theorem ok_mRef_mostEntries : pmOk mRef_mostEntries := ⟨⟨pmW_tb (i := 1184) (by decide +kernel) rfl, qI_Ref⟩, plainFor_of_name (by decide +kernel), by decide +kernel, by decide +kernel⟩
theorem st_mRef_mostEntries : Cond.static mRef_mostEntries.1 ∈ pmW := pmW_tb (i := 1183) (by decide +kernel) rfl
def mRef_head : pmMeth := (⟨"PortableFilesModel", "head", "(IIII)V"⟩, prog_14_method_6_code, 6, none, [], 8, 5, 1, 25)
theorem ok_mRef_head : pmOk mRef_head := ⟨⟨pmW_tb (i := 1171) (by decide +kernel) rfl, qI_Ref⟩, plainFor_of_name (by decide +kernel), by decide +kernel, by decide +kernel⟩
theorem im_mRef_head : Cond.instanceMethod mRef_head.1 ∈ pmW := pmW_tb (i := 1169) (by decide +kernel) rfl
theorem se_mRef_head : Cond.selects mRef_head.1.cls mRef_head.1 mRef_head.1 ∈ pmW := pmW_tb (i := 1170) (by decide +kernel) rfl
def mRef_isByte : pmMeth := (⟨"PortableFilesModel", "isByte", "(I)Z"⟩, prog_14_method_7_code, 1, (some .boolean), [], 8, 1, 0, 0)
theorem ok_mRef_isByte : pmOk mRef_isByte := ⟨⟨pmW_tb (i := 1181) (by decide +kernel) rfl, qI_Ref⟩, plainFor_of_name (by decide +kernel), by decide +kernel, by decide +kernel⟩
theorem st_mRef_isByte : Cond.static mRef_isByte.1 ∈ pmW := pmW_tb (i := 1180) (by decide +kernel) rfl
def mRef_change : pmMeth := (⟨"PortableFilesModel", "change", "()V"⟩, prog_14_method_8_code, 4, none, [], 8, 1, 0, 0)
theorem ok_mRef_change : pmOk mRef_change := ⟨⟨pmW_tb (i := 1188) (by decide +kernel) rfl, qI_Ref⟩, plainFor_of_name (by decide +kernel), by decide +kernel, by decide +kernel⟩
theorem im_mRef_change : Cond.instanceMethod mRef_change.1 ∈ pmW := pmW_tb (i := 1187) (by decide +kernel) rfl
theorem se_mRef_change : Cond.selects mRef_change.1.cls mRef_change.1 mRef_change.1 ∈ pmW := pmW_sel (i := 30) (q := (mRef_change.1, 42)) (by decide +kernel) rfl pmSelIn
def mRef_colour : pmMeth := (⟨"PortableFilesModel", "colour", "(IIII)I"⟩, prog_14_method_9_code, 5, (some .int), [], 8, 5, 1, 23)
theorem ok_mRef_colour : pmOk mRef_colour := ⟨⟨pmW_tb (i := 1178) (by decide +kernel) rfl, qI_Ref⟩, plainFor_of_name (by decide +kernel), by decide +kernel, by decide +kernel⟩
theorem im_mRef_colour : Cond.instanceMethod mRef_colour.1 ∈ pmW := pmW_tb (i := 1176) (by decide +kernel) rfl
theorem se_mRef_colour : Cond.selects mRef_colour.1.cls mRef_colour.1 mRef_colour.1 ∈ pmW := pmW_tb (i := 1177) (by decide +kernel) rfl
def mRef_put : pmMeth := (⟨"PortableFilesModel", "put", "(IIII)I"⟩, prog_14_method_10_code, 7, (some .int), [], 8, 5, 1, 23)
theorem ok_mRef_put : pmOk mRef_put := ⟨⟨pmW_tb (i := 1192) (by decide +kernel) rfl, qI_Ref⟩, plainFor_of_name (by decide +kernel), by decide +kernel, by decide +kernel⟩
theorem im_mRef_put : Cond.instanceMethod mRef_put.1 ∈ pmW := pmW_tb (i := 1190) (by decide +kernel) rfl
theorem se_mRef_put : Cond.selects mRef_put.1.cls mRef_put.1 mRef_put.1 ∈ pmW := pmW_tb (i := 1191) (by decide +kernel) rfl
def mRef_mayBe : pmMeth := (⟨"PortableFilesModel", "mayBe", "(IJ)Z"⟩, prog_14_method_11_code, 3, (some .boolean), [], 8, 2, 0, 0)
theorem ok_mRef_mayBe : pmOk mRef_mayBe := ⟨⟨pmW_tb (i := 1202) (by decide +kernel) rfl, qI_Ref⟩, plainFor_of_name (by decide +kernel), by decide +kernel, by decide +kernel⟩
theorem st_mRef_mayBe : Cond.static mRef_mayBe.1 ∈ pmW := pmW_tb (i := 1201) (by decide +kernel) rfl
def mRef_tag : pmMeth := (⟨"PortableFilesModel", "tag", "(II)I"⟩, prog_14_method_12_code, 4, (some .int), [], 8, 3, 1, 22)
theorem ok_mRef_tag : pmOk mRef_tag := ⟨⟨pmW_tb (i := 1199) (by decide +kernel) rfl, qI_Ref⟩, plainFor_of_name (by decide +kernel), by decide +kernel, by decide +kernel⟩
theorem im_mRef_tag : Cond.instanceMethod mRef_tag.1 ∈ pmW := pmW_tb (i := 1197) (by decide +kernel) rfl
theorem se_mRef_tag : Cond.selects mRef_tag.1.cls mRef_tag.1 mRef_tag.1 ∈ pmW := pmW_tb (i := 1198) (by decide +kernel) rfl
def mRef_isGreat : pmMeth := (⟨"PortableFilesModel", "isGreat", "(I)Z"⟩, prog_14_method_13_code, 1, (some .boolean), [], 8, 1, 0, 0)
theorem ok_mRef_isGreat : pmOk mRef_isGreat := ⟨⟨pmW_tb (i := 1220) (by decide +kernel) rfl, qI_Ref⟩, plainFor_of_name (by decide +kernel), by decide +kernel, by decide +kernel⟩
theorem st_mRef_isGreat : Cond.static mRef_isGreat.1 ∈ pmW := pmW_tb (i := 1219) (by decide +kernel) rfl
def mRef_isSmall : pmMeth := (⟨"PortableFilesModel", "isSmall", "(I)Z"⟩, prog_14_method_14_code, 1, (some .boolean), [], 8, 1, 0, 0)
theorem ok_mRef_isSmall : pmOk mRef_isSmall := ⟨⟨pmW_tb (i := 1223) (by decide +kernel) rfl, qI_Ref⟩, plainFor_of_name (by decide +kernel), by decide +kernel, by decide +kernel⟩
theorem st_mRef_isSmall : Cond.static mRef_isSmall.1 ∈ pmW := pmW_tb (i := 1222) (by decide +kernel) rfl
def mRef_letter : pmMeth := (⟨"PortableFilesModel", "letter", "(II)I"⟩, prog_14_method_15_code, 2, (some .int), [], 8, 2, 0, 0)
theorem ok_mRef_letter : pmOk mRef_letter := ⟨⟨pmW_tb (i := 1217) (by decide +kernel) rfl, qI_Ref⟩, plainFor_of_name (by decide +kernel), by decide +kernel, by decide +kernel⟩
theorem st_mRef_letter : Cond.static mRef_letter.1 ∈ pmW := pmW_tb (i := 1216) (by decide +kernel) rfl
def mRef_areLetters : pmMeth := (⟨"PortableFilesModel", "areLetters", "(I)Z"⟩, prog_14_method_16_code, 3, (some .boolean), [], 8, 1, 1, 21)
theorem ok_mRef_areLetters : pmOk mRef_areLetters := ⟨⟨pmW_tb (i := 1214) (by decide +kernel) rfl, qI_Ref⟩, plainFor_of_name (by decide +kernel), by decide +kernel, by decide +kernel⟩
theorem st_mRef_areLetters : Cond.static mRef_areLetters.1 ∈ pmW := pmW_tb (i := 1213) (by decide +kernel) rfl
def mRef_isOfOthers : pmMeth := (⟨"PortableFilesModel", "isOfOthers", "(I)Z"⟩, prog_14_method_17_code, 1, (some .boolean), [], 8, 1, 2, 43)
theorem ok_mRef_isOfOthers : pmOk mRef_isOfOthers := ⟨⟨pmW_tb (i := 1211) (by decide +kernel) rfl, qI_Ref⟩, plainFor_of_name (by decide +kernel), by decide +kernel, by decide +kernel⟩
theorem st_mRef_isOfOthers : Cond.static mRef_isOfOthers.1 ∈ pmW := pmW_tb (i := 1210) (by decide +kernel) rfl
def mRef_extra : pmMeth := (⟨"PortableFilesModel", "extra", "(I)I"⟩, prog_14_method_18_code, 2, (some .int), [], 8, 2, 3, 63)
theorem ok_mRef_extra : pmOk mRef_extra := ⟨⟨pmW_tb (i := 1208) (by decide +kernel) rfl, qI_Ref⟩, plainFor_of_name (by decide +kernel), by decide +kernel, by decide +kernel⟩
theorem im_mRef_extra : Cond.instanceMethod mRef_extra.1 ∈ pmW := pmW_tb (i := 1206) (by decide +kernel) rfl
theorem se_mRef_extra : Cond.selects mRef_extra.1.cls mRef_extra.1 mRef_extra.1 ∈ pmW := pmW_tb (i := 1207) (by decide +kernel) rfl
def mRef_byteOf : pmMeth := (⟨"PortableFilesModel", "byteOf", "(II)I"⟩, prog_14_method_19_code, 3, (some .int), [], 8, 3, 1, 20)
theorem ok_mRef_byteOf : pmOk mRef_byteOf := ⟨⟨pmW_tb (i := 1231) (by decide +kernel) rfl, qI_Ref⟩, plainFor_of_name (by decide +kernel), by decide +kernel, by decide +kernel⟩
theorem im_mRef_byteOf : Cond.instanceMethod mRef_byteOf.1 ∈ pmW := pmW_tb (i := 1229) (by decide +kernel) rfl
theorem se_mRef_byteOf : Cond.selects mRef_byteOf.1.cls mRef_byteOf.1 mRef_byteOf.1 ∈ pmW := pmW_tb (i := 1230) (by decide +kernel) rfl
def mRef_isFull : pmMeth := (⟨"PortableFilesModel", "isFull", "(I)Z"⟩, prog_14_method_20_code, 4, (some .boolean), [], 8, 2, 0, 0)
theorem ok_mRef_isFull : pmOk mRef_isFull := ⟨⟨pmW_tb (i := 1243) (by decide +kernel) rfl, qI_Ref⟩, plainFor_of_name (by decide +kernel), by decide +kernel, by decide +kernel⟩
theorem im_mRef_isFull : Cond.instanceMethod mRef_isFull.1 ∈ pmW := pmW_tb (i := 1242) (by decide +kernel) rfl
theorem se_mRef_isFull : Cond.selects mRef_isFull.1.cls mRef_isFull.1 mRef_isFull.1 ∈ pmW := pmW_sel (i := 32) (q := (mRef_isFull.1, 42)) (by decide +kernel) rfl pmSelIn
def mRef_isGrey : pmMeth := (⟨"PortableFilesModel", "isGrey", "()Z"⟩, prog_14_method_21_code, 3, (some .boolean), [], 8, 1, 0, 0)
theorem ok_mRef_isGrey : pmOk mRef_isGrey := ⟨⟨pmW_tb (i := 1247) (by decide +kernel) rfl, qI_Ref⟩, plainFor_of_name (by decide +kernel), by decide +kernel, by decide +kernel⟩
theorem im_mRef_isGrey : Cond.instanceMethod mRef_isGrey.1 ∈ pmW := pmW_tb (i := 1246) (by decide +kernel) rfl
theorem se_mRef_isGrey : Cond.selects mRef_isGrey.1.cls mRef_isGrey.1 mRef_isGrey.1 ∈ pmW := pmW_sel (i := 33) (q := (mRef_isGrey.1, 42)) (by decide +kernel) rfl pmSelIn
def mRef_greatest : pmMeth := (⟨"PortableFilesModel", "greatest", "(I)I"⟩, prog_14_method_22_code, 1, (some .int), [], 8, 1, 0, 0)
theorem ok_mRef_greatest : pmOk mRef_greatest := ⟨⟨pmW_tb (i := 1254) (by decide +kernel) rfl, qI_Ref⟩, plainFor_of_name (by decide +kernel), by decide +kernel, by decide +kernel⟩
theorem st_mRef_greatest : Cond.static mRef_greatest.1 ∈ pmW := pmW_tb (i := 1253) (by decide +kernel) rfl
def mRef_fits : pmMeth := (⟨"PortableFilesModel", "fits", "(I)Z"⟩, prog_14_method_23_code, 5, (some .boolean), [], 8, 2, 1, 20)
theorem ok_mRef_fits : pmOk mRef_fits := ⟨⟨pmW_tb (i := 1251) (by decide +kernel) rfl, qI_Ref⟩, plainFor_of_name (by decide +kernel), by decide +kernel, by decide +kernel⟩
theorem im_mRef_fits : Cond.instanceMethod mRef_fits.1 ∈ pmW := pmW_tb (i := 1250) (by decide +kernel) rfl
theorem se_mRef_fits : Cond.selects mRef_fits.1.cls mRef_fits.1 mRef_fits.1 ∈ pmW := pmW_sel (i := 34) (q := (mRef_fits.1, 42)) (by decide +kernel) rfl pmSelIn
def mRef_lessen : pmMeth := (⟨"PortableFilesModel", "lessen", "()V"⟩, prog_14_method_24_code, 4, none, [], 8, 1, 2, 44)
theorem ok_mRef_lessen : pmOk mRef_lessen := ⟨⟨pmW_tb (i := 1239) (by decide +kernel) rfl, qI_Ref⟩, plainFor_of_name (by decide +kernel), by decide +kernel, by decide +kernel⟩
theorem im_mRef_lessen : Cond.instanceMethod mRef_lessen.1 ∈ pmW := pmW_tb (i := 1238) (by decide +kernel) rfl
theorem se_mRef_lessen : Cond.selects mRef_lessen.1.cls mRef_lessen.1 mRef_lessen.1 ∈ pmW := pmW_sel (i := 31) (q := (mRef_lessen.1, 42)) (by decide +kernel) rfl pmSelIn
def mRef_reduce : pmMeth := (⟨"PortableFilesModel", "reduce", "()I"⟩, prog_14_method_25_code, 3, (some .int), [], 8, 1, 3, 67)
theorem ok_mRef_reduce : pmOk mRef_reduce := ⟨⟨pmW_tb (i := 1235) (by decide +kernel) rfl, qI_Ref⟩, plainFor_of_name (by decide +kernel), by decide +kernel, by decide +kernel⟩
theorem im_mRef_reduce : Cond.instanceMethod mRef_reduce.1 ∈ pmW := pmW_tb (i := 1233) (by decide +kernel) rfl
theorem se_mRef_reduce : Cond.selects mRef_reduce.1.cls mRef_reduce.1 mRef_reduce.1 ∈ pmW := pmW_tb (i := 1234) (by decide +kernel) rfl
def mRef_tell : pmMeth := (⟨"PortableFilesModel", "tell", "(I)V"⟩, prog_14_method_26_code, 2, none, [], 8, 2, 0, 0)
theorem ok_mRef_tell : pmOk mRef_tell := ⟨⟨pmW_tb (i := 1265) (by decide +kernel) rfl, qI_Ref⟩, plainFor_of_name (by decide +kernel), by decide +kernel, by decide +kernel⟩
theorem im_mRef_tell : Cond.instanceMethod mRef_tell.1 ∈ pmW := pmW_tb (i := 1264) (by decide +kernel) rfl
theorem se_mRef_tell : Cond.selects mRef_tell.1.cls mRef_tell.1 mRef_tell.1 ∈ pmW := pmW_sel (i := 35) (q := (mRef_tell.1, 42)) (by decide +kernel) rfl pmSelIn
def mRef_tellNumber : pmMeth := (⟨"PortableFilesModel", "tellNumber", "(I)V"⟩, prog_14_method_27_code, 3, none, [], 8, 2, 1, 21)
theorem ok_mRef_tellNumber : pmOk mRef_tellNumber := ⟨⟨pmW_tb (i := 1274) (by decide +kernel) rfl, qI_Ref⟩, plainFor_of_name (by decide +kernel), by decide +kernel, by decide +kernel⟩
theorem im_mRef_tellNumber : Cond.instanceMethod mRef_tellNumber.1 ∈ pmW := pmW_tb (i := 1273) (by decide +kernel) rfl
theorem se_mRef_tellNumber : Cond.selects mRef_tellNumber.1.cls mRef_tellNumber.1 mRef_tellNumber.1 ∈ pmW := pmW_sel (i := 37) (q := (mRef_tellNumber.1, 42)) (by decide +kernel) rfl pmSelIn
def mRef_sumOf : pmMeth := (⟨"PortableFilesModel", "sumOf", "([III)I"⟩, prog_14_method_28_code, 7, (some .int), [], 8, 3, 0, 0)
theorem ok_mRef_sumOf : pmOk mRef_sumOf := ⟨⟨pmW_tb (i := 1281) (by decide +kernel) rfl, qI_Ref⟩, plainFor_of_name (by decide +kernel), by decide +kernel, by decide +kernel⟩
theorem st_mRef_sumOf : Cond.static mRef_sumOf.1 ∈ pmW := pmW_tb (i := 1280) (by decide +kernel) rfl
def mRef_close : pmMeth := (⟨"PortableFilesModel", "close", "(I)V"⟩, prog_14_method_29_code, 4, none, [], 8, 2, 2, 43)
theorem ok_mRef_close : pmOk mRef_close := ⟨⟨pmW_tb (i := 1278) (by decide +kernel) rfl, qI_Ref⟩, plainFor_of_name (by decide +kernel), by decide +kernel, by decide +kernel⟩
theorem im_mRef_close : Cond.instanceMethod mRef_close.1 ∈ pmW := pmW_tb (i := 1277) (by decide +kernel) rfl
theorem se_mRef_close : Cond.selects mRef_close.1.cls mRef_close.1 mRef_close.1 ∈ pmW := pmW_sel (i := 38) (q := (mRef_close.1, 42)) (by decide +kernel) rfl pmSelIn
def mRef_open : pmMeth := (⟨"PortableFilesModel", "open", "(I)I"⟩, prog_14_method_30_code, 3, (some .int), [], 8, 2, 2, 43)
theorem ok_mRef_open : pmOk mRef_open := ⟨⟨pmW_tb (i := 1270) (by decide +kernel) rfl, qI_Ref⟩, plainFor_of_name (by decide +kernel), by decide +kernel, by decide +kernel⟩
theorem im_mRef_open : Cond.instanceMethod mRef_open.1 ∈ pmW := pmW_tb (i := 1269) (by decide +kernel) rfl
theorem se_mRef_open : Cond.selects mRef_open.1.cls mRef_open.1 mRef_open.1 ∈ pmW := pmW_sel (i := 36) (q := (mRef_open.1, 42)) (by decide +kernel) rfl pmSelIn
def mRef_writeTags : pmMeth := (⟨"PortableFilesModel", "writeTags", "()V"⟩, prog_14_method_31_code, 2, none, [], 8, 1, 3, 66)
theorem ok_mRef_writeTags : pmOk mRef_writeTags := ⟨⟨pmW_tb (i := 1288) (by decide +kernel) rfl, qI_Ref⟩, plainFor_of_name (by decide +kernel), by decide +kernel, by decide +kernel⟩
theorem im_mRef_writeTags : Cond.instanceMethod mRef_writeTags.1 ∈ pmW := pmW_tb (i := 1287) (by decide +kernel) rfl
theorem se_mRef_writeTags : Cond.selects mRef_writeTags.1.cls mRef_writeTags.1 mRef_writeTags.1 ∈ pmW := pmW_sel (i := 39) (q := (mRef_writeTags.1, 42)) (by decide +kernel) rfl pmSelIn
def mRef_writePalette : pmMeth := (⟨"PortableFilesModel", "writePalette", "()V"⟩, prog_14_method_32_code, 4, none, [], 8, 1, 3, 66)
theorem ok_mRef_writePalette : pmOk mRef_writePalette := ⟨⟨pmW_tb (i := 1292) (by decide +kernel) rfl, qI_Ref⟩, plainFor_of_name (by decide +kernel), by decide +kernel, by decide +kernel⟩
theorem im_mRef_writePalette : Cond.instanceMethod mRef_writePalette.1 ∈ pmW := pmW_tb (i := 1291) (by decide +kernel) rfl
theorem se_mRef_writePalette : Cond.selects mRef_writePalette.1.cls mRef_writePalette.1 mRef_writePalette.1 ∈ pmW := pmW_sel (i := 40) (q := (mRef_writePalette.1, 42)) (by decide +kernel) rfl pmSelIn
def mRef_bytesInRow : pmMeth := (⟨"PortableFilesModel", "bytesInRow", "(III)I"⟩, prog_14_method_33_code, 3, (some .int), [], 8, 3, 1, 20)
theorem ok_mRef_bytesInRow : pmOk mRef_bytesInRow := ⟨⟨pmW_tb (i := 1300) (by decide +kernel) rfl, qI_Ref⟩, plainFor_of_name (by decide +kernel), by decide +kernel, by decide +kernel⟩
theorem st_mRef_bytesInRow : Cond.static mRef_bytesInRow.1 ∈ pmW := pmW_tb (i := 1299) (by decide +kernel) rfl
def mRef_rowByte : pmMeth := (⟨"PortableFilesModel", "rowByte", "(I)I"⟩, prog_14_method_34_code, 9, (some .int), [], 8, 2, 2, 42)
theorem ok_mRef_rowByte : pmOk mRef_rowByte := ⟨⟨pmW_tb (i := 1305) (by decide +kernel) rfl, qI_Ref⟩, plainFor_of_name (by decide +kernel), by decide +kernel, by decide +kernel⟩
theorem im_mRef_rowByte : Cond.instanceMethod mRef_rowByte.1 ∈ pmW := pmW_tb (i := 1304) (by decide +kernel) rfl
theorem se_mRef_rowByte : Cond.selects mRef_rowByte.1.cls mRef_rowByte.1 mRef_rowByte.1 ∈ pmW := pmW_sel (i := 42) (q := (mRef_rowByte.1, 42)) (by decide +kernel) rfl pmSelIn
def mRef_writeRows : pmMeth := (⟨"PortableFilesModel", "writeRows", "()V"⟩, prog_14_method_35_code, 5, none, [], 8, 1, 3, 70)
theorem ok_mRef_writeRows : pmOk mRef_writeRows := ⟨⟨pmW_tb (i := 1297) (by decide +kernel) rfl, qI_Ref⟩, plainFor_of_name (by decide +kernel), by decide +kernel, by decide +kernel⟩
theorem im_mRef_writeRows : Cond.instanceMethod mRef_writeRows.1 ∈ pmW := pmW_tb (i := 1296) (by decide +kernel) rfl
theorem se_mRef_writeRows : Cond.selects mRef_writeRows.1.cls mRef_writeRows.1 mRef_writeRows.1 ∈ pmW := pmW_sel (i := 41) (q := (mRef_writeRows.1, 42)) (by decide +kernel) rfl pmSelIn
def mRef_mark : pmMeth := (⟨"PortableFilesModel", "mark", "(I)I"⟩, prog_14_method_36_code, 1, (some .int), [], 8, 1, 0, 0)
theorem ok_mRef_mark : pmOk mRef_mark := ⟨⟨pmW_tb (i := 1261) (by decide +kernel) rfl, qI_Ref⟩, plainFor_of_name (by decide +kernel), by decide +kernel, by decide +kernel⟩
theorem st_mRef_mark : Cond.static mRef_mark.1 ∈ pmW := pmW_tb (i := 1260) (by decide +kernel) rfl
def mRef_write : pmMeth := (⟨"PortableFilesModel", "write", "()I"⟩, prog_14_method_37_code, 4, (some .int), [], 8, 1, 4, 94)
theorem ok_mRef_write : pmOk mRef_write := ⟨⟨pmW_tb (i := 1258) (by decide +kernel) rfl, qI_Ref⟩, plainFor_of_name (by decide +kernel), by decide +kernel, by decide +kernel⟩
theorem im_mRef_write : Cond.instanceMethod mRef_write.1 ∈ pmW := pmW_tb (i := 1256) (by decide +kernel) rfl
theorem se_mRef_write : Cond.selects mRef_write.1.cls mRef_write.1 mRef_write.1 ∈ pmW := pmW_tb (i := 1257) (by decide +kernel) rfl
def mRef_byteAt : pmMeth := (⟨"PortableFilesModel", "byteAt", "(I)I"⟩, prog_14_method_38_code, 2, (some .int), [], 8, 2, 0, 0)
theorem ok_mRef_byteAt : pmOk mRef_byteAt := ⟨⟨pmW_tb (i := 1310) (by decide +kernel) rfl, qI_Ref⟩, plainFor_of_name (by decide +kernel), by decide +kernel, by decide +kernel⟩
theorem im_mRef_byteAt : Cond.instanceMethod mRef_byteAt.1 ∈ pmW := pmW_tb (i := 1308) (by decide +kernel) rfl
theorem se_mRef_byteAt : Cond.selects mRef_byteAt.1.cls mRef_byteAt.1 mRef_byteAt.1 ∈ pmW := pmW_tb (i := 1309) (by decide +kernel) rfl
def mRef_feed : pmMeth := (⟨"PortableFilesModel", "feed", "(I)I"⟩, prog_14_method_39_code, 2, (some .int), [], 8, 2, 1, 20)
theorem ok_mRef_feed : pmOk mRef_feed := ⟨⟨pmW_tb (i := 1314) (by decide +kernel) rfl, qI_Ref⟩, plainFor_of_name (by decide +kernel), by decide +kernel, by decide +kernel⟩
theorem im_mRef_feed : Cond.instanceMethod mRef_feed.1 ∈ pmW := pmW_tb (i := 1312) (by decide +kernel) rfl
theorem se_mRef_feed : Cond.selects mRef_feed.1.cls mRef_feed.1 mRef_feed.1 ∈ pmW := pmW_tb (i := 1313) (by decide +kernel) rfl
def mRef_pass : pmMeth := (⟨"PortableFilesModel", "pass", "(II)I"⟩, prog_14_method_40_code, 5, (some .int), [], 8, 3, 0, 0)
theorem ok_mRef_pass : pmOk mRef_pass := ⟨⟨pmW_tb (i := 1318) (by decide +kernel) rfl, qI_Ref⟩, plainFor_of_name (by decide +kernel), by decide +kernel, by decide +kernel⟩
theorem im_mRef_pass : Cond.instanceMethod mRef_pass.1 ∈ pmW := pmW_tb (i := 1316) (by decide +kernel) rfl
theorem se_mRef_pass : Cond.selects mRef_pass.1.cls mRef_pass.1 mRef_pass.1 ∈ pmW := pmW_tb (i := 1317) (by decide +kernel) rfl
def mRef_four : pmMeth := (⟨"PortableFilesModel", "four", "([II)I"⟩, prog_14_method_41_code, 2, (some .int), [], 8, 2, 0, 0)
theorem ok_mRef_four : pmOk mRef_four := ⟨⟨pmW_tb (i := 1329) (by decide +kernel) rfl, qI_Ref⟩, plainFor_of_name (by decide +kernel), by decide +kernel, by decide +kernel⟩
theorem st_mRef_four : Cond.static mRef_four.1 ∈ pmW := pmW_tb (i := 1328) (by decide +kernel) rfl
def mRef_endOf : pmMeth := (⟨"PortableFilesModel", "endOf", "(I)I"⟩, prog_14_method_42_code, 3, (some .int), [], 8, 2, 1, 21)
theorem ok_mRef_endOf : pmOk mRef_endOf := ⟨⟨pmW_tb (i := 1326) (by decide +kernel) rfl, qI_Ref⟩, plainFor_of_name (by decide +kernel), by decide +kernel, by decide +kernel⟩
theorem im_mRef_endOf : Cond.instanceMethod mRef_endOf.1 ∈ pmW := pmW_tb (i := 1325) (by decide +kernel) rfl
theorem se_mRef_endOf : Cond.selects mRef_endOf.1.cls mRef_endOf.1 mRef_endOf.1 ∈ pmW := pmW_sel (i := 43) (q := (mRef_endOf.1, 42)) (by decide +kernel) rfl pmSelIn
def mRef_alter : pmMeth := (⟨"PortableFilesModel", "alter", "(IIZ)I"⟩, prog_14_method_43_code, 9, (some .int), [], 8, 4, 2, 43)
theorem ok_mRef_alter : pmOk mRef_alter := ⟨⟨pmW_tb (i := 1322) (by decide +kernel) rfl, qI_Ref⟩, plainFor_of_name (by decide +kernel), by decide +kernel, by decide +kernel⟩
theorem im_mRef_alter : Cond.instanceMethod mRef_alter.1 ∈ pmW := pmW_tb (i := 1320) (by decide +kernel) rfl
theorem se_mRef_alter : Cond.selects mRef_alter.1.cls mRef_alter.1 mRef_alter.1 ∈ pmW := pmW_tb (i := 1321) (by decide +kernel) rfl
def mRef_breakBy : pmMeth := (⟨"PortableFilesModel", "breakBy", "(ZII)V"⟩, prog_14_method_44_code, 4, none, [], 8, 4, 0, 0)
theorem ok_mRef_breakBy : pmOk mRef_breakBy := ⟨⟨pmW_tb (i := 1341) (by decide +kernel) rfl, qI_Ref⟩, plainFor_of_name (by decide +kernel), by decide +kernel, by decide +kernel⟩
theorem im_mRef_breakBy : Cond.instanceMethod mRef_breakBy.1 ∈ pmW := pmW_tb (i := 1340) (by decide +kernel) rfl
theorem se_mRef_breakBy : Cond.selects mRef_breakBy.1.cls mRef_breakBy.1 mRef_breakBy.1 ∈ pmW := pmW_sel (i := 45) (q := (mRef_breakBy.1, 42)) (by decide +kernel) rfl pmSelIn
def mRef_tagOf : pmMeth := (⟨"PortableFilesModel", "tagOf", "(I)I"⟩, prog_14_method_45_code, 1, (some .int), [], 8, 1, 0, 0)
theorem ok_mRef_tagOf : pmOk mRef_tagOf := ⟨⟨pmW_tb (i := 1352) (by decide +kernel) rfl, qI_Ref⟩, plainFor_of_name (by decide +kernel), by decide +kernel, by decide +kernel⟩
theorem st_mRef_tagOf : Cond.static mRef_tagOf.1 ∈ pmW := pmW_tb (i := 1351) (by decide +kernel) rfl
def mRef_isOutOfOrder : pmMeth := (⟨"PortableFilesModel", "isOutOfOrder", "(I)Z"⟩, prog_14_method_46_code, 3, (some .boolean), [], 8, 2, 1, 20)
theorem ok_mRef_isOutOfOrder : pmOk mRef_isOutOfOrder := ⟨⟨pmW_tb (i := 1349) (by decide +kernel) rfl, qI_Ref⟩, plainFor_of_name (by decide +kernel), by decide +kernel, by decide +kernel⟩
theorem im_mRef_isOutOfOrder : Cond.instanceMethod mRef_isOutOfOrder.1 ∈ pmW := pmW_tb (i := 1348) (by decide +kernel) rfl
theorem se_mRef_isOutOfOrder : Cond.selects mRef_isOutOfOrder.1.cls mRef_isOutOfOrder.1 mRef_isOutOfOrder.1 ∈ pmW := pmW_sel (i := 47) (q := (mRef_isOutOfOrder.1, 42)) (by decide +kernel) rfl pmSelIn
def mRef_takeHead : pmMeth := (⟨"PortableFilesModel", "takeHead", "(II)Z"⟩, prog_14_method_47_code, 3, (some .boolean), [], 8, 3, 1, 25)
theorem ok_mRef_takeHead : pmOk mRef_takeHead := ⟨⟨pmW_tb (i := 1360) (by decide +kernel) rfl, qI_Ref⟩, plainFor_of_name (by decide +kernel), by decide +kernel, by decide +kernel⟩
theorem im_mRef_takeHead : Cond.instanceMethod mRef_takeHead.1 ∈ pmW := pmW_tb (i := 1359) (by decide +kernel) rfl
theorem se_mRef_takeHead : Cond.selects mRef_takeHead.1.cls mRef_takeHead.1 mRef_takeHead.1 ∈ pmW := pmW_sel (i := 49) (q := (mRef_takeHead.1, 42)) (by decide +kernel) rfl pmSelIn
def mRef_takeTag : pmMeth := (⟨"PortableFilesModel", "takeTag", "(III)Z"⟩, prog_14_method_48_code, 5, (some .boolean), [], 8, 4, 1, 22)
theorem ok_mRef_takeTag : pmOk mRef_takeTag := ⟨⟨pmW_tb (i := 1380) (by decide +kernel) rfl, qI_Ref⟩, plainFor_of_name (by decide +kernel), by decide +kernel, by decide +kernel⟩
theorem im_mRef_takeTag : Cond.instanceMethod mRef_takeTag.1 ∈ pmW := pmW_tb (i := 1379) (by decide +kernel) rfl
theorem se_mRef_takeTag : Cond.selects mRef_takeTag.1.cls mRef_takeTag.1 mRef_takeTag.1 ∈ pmW := pmW_sel (i := 54) (q := (mRef_takeTag.1, 42)) (by decide +kernel) rfl pmSelIn
def mRef_takePalette : pmMeth := (⟨"PortableFilesModel", "takePalette", "(II)Z"⟩, prog_14_method_49_code, 4, (some .boolean), [], 8, 3, 1, 20)
theorem ok_mRef_takePalette : pmOk mRef_takePalette := ⟨⟨pmW_tb (i := 1364) (by decide +kernel) rfl, qI_Ref⟩, plainFor_of_name (by decide +kernel), by decide +kernel, by decide +kernel⟩
theorem im_mRef_takePalette : Cond.instanceMethod mRef_takePalette.1 ∈ pmW := pmW_tb (i := 1363) (by decide +kernel) rfl
theorem se_mRef_takePalette : Cond.selects mRef_takePalette.1.cls mRef_takePalette.1 mRef_takePalette.1 ∈ pmW := pmW_sel (i := 50) (q := (mRef_takePalette.1, 42)) (by decide +kernel) rfl pmSelIn
def mRef_takeAlphas : pmMeth := (⟨"PortableFilesModel", "takeAlphas", "(II)Z"⟩, prog_14_method_50_code, 4, (some .boolean), [], 8, 3, 0, 0)
theorem ok_mRef_takeAlphas : pmOk mRef_takeAlphas := ⟨⟨pmW_tb (i := 1368) (by decide +kernel) rfl, qI_Ref⟩, plainFor_of_name (by decide +kernel), by decide +kernel, by decide +kernel⟩
theorem im_mRef_takeAlphas : Cond.instanceMethod mRef_takeAlphas.1 ∈ pmW := pmW_tb (i := 1367) (by decide +kernel) rfl
theorem se_mRef_takeAlphas : Cond.selects mRef_takeAlphas.1.cls mRef_takeAlphas.1 mRef_takeAlphas.1 ∈ pmW := pmW_sel (i := 51) (q := (mRef_takeAlphas.1, 42)) (by decide +kernel) rfl pmSelIn
def mRef_takeRows : pmMeth := (⟨"PortableFilesModel", "takeRows", "(II)Z"⟩, prog_14_method_51_code, 4, (some .boolean), [], 8, 3, 0, 0)
theorem ok_mRef_takeRows : pmOk mRef_takeRows := ⟨⟨pmW_tb (i := 1372) (by decide +kernel) rfl, qI_Ref⟩, plainFor_of_name (by decide +kernel), by decide +kernel, by decide +kernel⟩
theorem im_mRef_takeRows : Cond.instanceMethod mRef_takeRows.1 ∈ pmW := pmW_tb (i := 1371) (by decide +kernel) rfl
theorem se_mRef_takeRows : Cond.selects mRef_takeRows.1.cls mRef_takeRows.1 mRef_takeRows.1 ∈ pmW := pmW_sel (i := 52) (q := (mRef_takeRows.1, 42)) (by decide +kernel) rfl pmSelIn
def mRef_takeExtra : pmMeth := (⟨"PortableFilesModel", "takeExtra", "(III)Z"⟩, prog_14_method_52_code, 5, (some .boolean), [], 8, 4, 0, 0)
theorem ok_mRef_takeExtra : pmOk mRef_takeExtra := ⟨⟨pmW_tb (i := 1376) (by decide +kernel) rfl, qI_Ref⟩, plainFor_of_name (by decide +kernel), by decide +kernel, by decide +kernel⟩
theorem im_mRef_takeExtra : Cond.instanceMethod mRef_takeExtra.1 ∈ pmW := pmW_tb (i := 1375) (by decide +kernel) rfl
theorem se_mRef_takeExtra : Cond.selects mRef_takeExtra.1.cls mRef_takeExtra.1 mRef_takeExtra.1 ∈ pmW := pmW_sel (i := 53) (q := (mRef_takeExtra.1, 42)) (by decide +kernel) rfl pmSelIn
def mRef_takes : pmMeth := (⟨"PortableFilesModel", "takes", "(III)Z"⟩, prog_14_method_53_code, 4, (some .boolean), [], 8, 4, 2, 47)
theorem ok_mRef_takes : pmOk mRef_takes := ⟨⟨pmW_tb (i := 1356) (by decide +kernel) rfl, qI_Ref⟩, plainFor_of_name (by decide +kernel), by decide +kernel, by decide +kernel⟩
theorem im_mRef_takes : Cond.instanceMethod mRef_takes.1 ∈ pmW := pmW_tb (i := 1355) (by decide +kernel) rfl
theorem se_mRef_takes : Cond.selects mRef_takes.1.cls mRef_takes.1 mRef_takes.1 ∈ pmW := pmW_sel (i := 48) (q := (mRef_takes.1, 42)) (by decide +kernel) rfl pmSelIn
def mRef_rowBits : pmMeth := (⟨"PortableFilesModel", "rowBits", "(II)I"⟩, prog_14_method_54_code, 5, (some .int), [], 8, 3, 0, 0)
theorem ok_mRef_rowBits : pmOk mRef_rowBits := ⟨⟨pmW_tb (i := 1388) (by decide +kernel) rfl, qI_Ref⟩, plainFor_of_name (by decide +kernel), by decide +kernel, by decide +kernel⟩
theorem im_mRef_rowBits : Cond.instanceMethod mRef_rowBits.1 ∈ pmW := pmW_tb (i := 1387) (by decide +kernel) rfl
theorem se_mRef_rowBits : Cond.selects mRef_rowBits.1.cls mRef_rowBits.1 mRef_rowBits.1 ∈ pmW := pmW_sel (i := 56) (q := (mRef_rowBits.1, 42)) (by decide +kernel) rfl pmSelIn
def mRef_unpack : pmMeth := (⟨"PortableFilesModel", "unpack", "()Z"⟩, prog_14_method_55_code, 8, (some .boolean), [], 8, 1, 2, 42)
theorem ok_mRef_unpack : pmOk mRef_unpack := ⟨⟨pmW_tb (i := 1384) (by decide +kernel) rfl, qI_Ref⟩, plainFor_of_name (by decide +kernel), by decide +kernel, by decide +kernel⟩
theorem im_mRef_unpack : Cond.instanceMethod mRef_unpack.1 ∈ pmW := pmW_tb (i := 1383) (by decide +kernel) rfl
theorem se_mRef_unpack : Cond.selects mRef_unpack.1.cls mRef_unpack.1 mRef_unpack.1 ∈ pmW := pmW_sel (i := 55) (q := (mRef_unpack.1, 42)) (by decide +kernel) rfl pmSelIn
def mRef_begin : pmMeth := (⟨"PortableFilesModel", "begin", "()V"⟩, prog_14_method_56_code, 3, none, [], 8, 1, 1, 23)
theorem ok_mRef_begin : pmOk mRef_begin := ⟨⟨pmW_tb (i := 1337) (by decide +kernel) rfl, qI_Ref⟩, plainFor_of_name (by decide +kernel), by decide +kernel, by decide +kernel⟩
theorem im_mRef_begin : Cond.instanceMethod mRef_begin.1 ∈ pmW := pmW_tb (i := 1336) (by decide +kernel) rfl
theorem se_mRef_begin : Cond.selects mRef_begin.1.cls mRef_begin.1 mRef_begin.1 ∈ pmW := pmW_sel (i := 44) (q := (mRef_begin.1, 42)) (by decide +kernel) rfl pmSelIn
def mRef_chunk : pmMeth := (⟨"PortableFilesModel", "chunk", "(I)I"⟩, prog_14_method_57_code, 6, (some .int), [], 8, 2, 3, 70)
theorem ok_mRef_chunk : pmOk mRef_chunk := ⟨⟨pmW_tb (i := 1345) (by decide +kernel) rfl, qI_Ref⟩, plainFor_of_name (by decide +kernel), by decide +kernel, by decide +kernel⟩
theorem im_mRef_chunk : Cond.instanceMethod mRef_chunk.1 ∈ pmW := pmW_tb (i := 1344) (by decide +kernel) rfl
theorem se_mRef_chunk : Cond.selects mRef_chunk.1.cls mRef_chunk.1 mRef_chunk.1 ∈ pmW := pmW_sel (i := 46) (q := (mRef_chunk.1, 42)) (by decide +kernel) rfl pmSelIn
def mRef_read : pmMeth := (⟨"PortableFilesModel", "read", "()I"⟩, prog_14_method_58_code, 4, (some .int), [], 8, 1, 4, 95)
theorem ok_mRef_read : pmOk mRef_read := ⟨⟨pmW_tb (i := 1333) (by decide +kernel) rfl, qI_Ref⟩, plainFor_of_name (by decide +kernel), by decide +kernel, by decide +kernel⟩
theorem im_mRef_read : Cond.instanceMethod mRef_read.1 ∈ pmW := pmW_tb (i := 1331) (by decide +kernel) rfl
theorem se_mRef_read : Cond.selects mRef_read.1.cls mRef_read.1 mRef_read.1 ∈ pmW := pmW_tb (i := 1332) (by decide +kernel) rfl
def mRef_at : pmMeth := (⟨"PortableFilesModel", "at", "(III)I"⟩, prog_14_method_59_code, 4, (some .int), [], 8, 4, 1, 20)
theorem ok_mRef_at : pmOk mRef_at := ⟨⟨pmW_tb (i := 1392) (by decide +kernel) rfl, qI_Ref⟩, plainFor_of_name (by decide +kernel), by decide +kernel, by decide +kernel⟩
theorem im_mRef_at : Cond.instanceMethod mRef_at.1 ∈ pmW := pmW_tb (i := 1390) (by decide +kernel) rfl
theorem se_mRef_at : Cond.selects mRef_at.1.cls mRef_at.1 mRef_at.1 ∈ pmW := pmW_tb (i := 1391) (by decide +kernel) rfl
def mRef_found : pmMeth := (⟨"PortableFilesModel", "found", "(I)I"⟩, prog_14_method_60_code, 2, (some .int), [], 8, 2, 0, 0)
theorem ok_mRef_found : pmOk mRef_found := ⟨⟨pmW_tb (i := 1396) (by decide +kernel) rfl, qI_Ref⟩, plainFor_of_name (by decide +kernel), by decide +kernel, by decide +kernel⟩
theorem im_mRef_found : Cond.instanceMethod mRef_found.1 ∈ pmW := pmW_tb (i := 1394) (by decide +kernel) rfl
theorem se_mRef_found : Cond.selects mRef_found.1.cls mRef_found.1 mRef_found.1 ∈ pmW := pmW_tb (i := 1395) (by decide +kernel) rfl
def mRef_entry : pmMeth := (⟨"PortableFilesModel", "entry", "(II)I"⟩, prog_14_method_61_code, 3, (some .int), [], 8, 3, 0, 0)
theorem ok_mRef_entry : pmOk mRef_entry := ⟨⟨pmW_tb (i := 1400) (by decide +kernel) rfl, qI_Ref⟩, plainFor_of_name (by decide +kernel), by decide +kernel, by decide +kernel⟩
theorem im_mRef_entry : Cond.instanceMethod mRef_entry.1 ∈ pmW := pmW_tb (i := 1398) (by decide +kernel) rfl
theorem se_mRef_entry : Cond.selects mRef_entry.1.cls mRef_entry.1 mRef_entry.1 ∈ pmW := pmW_tb (i := 1399) (by decide +kernel) rfl
def mRef_unknown : pmMeth := (⟨"PortableFilesModel", "unknown", "(II)I"⟩, prog_14_method_62_code, 3, (some .int), [], 8, 3, 0, 0)
theorem ok_mRef_unknown : pmOk mRef_unknown := ⟨⟨pmW_tb (i := 1404) (by decide +kernel) rfl, qI_Ref⟩, plainFor_of_name (by decide +kernel), by decide +kernel, by decide +kernel⟩
theorem im_mRef_unknown : Cond.instanceMethod mRef_unknown.1 ∈ pmW := pmW_tb (i := 1402) (by decide +kernel) rfl
theorem se_mRef_unknown : Cond.selects mRef_unknown.1.cls mRef_unknown.1 mRef_unknown.1 ∈ pmW := pmW_tb (i := 1403) (by decide +kernel) rfl
def mRef_take : pmMeth := (⟨"PortableFilesModel", "take", "()V"⟩, prog_14_method_63_code, 2, none, [], 8, 1, 0, 0)
theorem ok_mRef_take : pmOk mRef_take := ⟨⟨pmW_tb (i := 1408) (by decide +kernel) rfl, qI_Ref⟩, plainFor_of_name (by decide +kernel), by decide +kernel, by decide +kernel⟩
theorem im_mRef_take : Cond.instanceMethod mRef_take.1 ∈ pmW := pmW_tb (i := 1406) (by decide +kernel) rfl
theorem se_mRef_take : Cond.selects mRef_take.1.cls mRef_take.1 mRef_take.1 ∈ pmW := pmW_tb (i := 1407) (by decide +kernel) rfl
def mRef_told : pmMeth := (⟨"PortableFilesModel", "told", "(I)I"⟩, prog_14_method_64_code, 2, (some .int), [], 8, 2, 0, 0)
theorem ok_mRef_told : pmOk mRef_told := ⟨⟨pmW_tb (i := 1412) (by decide +kernel) rfl, qI_Ref⟩, plainFor_of_name (by decide +kernel), by decide +kernel, by decide +kernel⟩
theorem im_mRef_told : Cond.instanceMethod mRef_told.1 ∈ pmW := pmW_tb (i := 1410) (by decide +kernel) rfl
theorem se_mRef_told : Cond.selects mRef_told.1.cls mRef_told.1 mRef_told.1 ∈ pmW := pmW_tb (i := 1411) (by decide +kernel) rfl
def mRef_drop : pmMeth := (⟨"PortableFilesModel", "drop", "()V"⟩, prog_14_method_65_code, 1, none, [], 8, 1, 0, 0)
theorem ok_mRef_drop : pmOk mRef_drop := ⟨⟨pmW_tb (i := 1416) (by decide +kernel) rfl, qI_Ref⟩, plainFor_of_name (by decide +kernel), by decide +kernel, by decide +kernel⟩
theorem im_mRef_drop : Cond.instanceMethod mRef_drop.1 ∈ pmW := pmW_tb (i := 1414) (by decide +kernel) rfl
theorem se_mRef_drop : Cond.selects mRef_drop.1.cls mRef_drop.1 mRef_drop.1 ∈ pmW := pmW_tb (i := 1415) (by decide +kernel) rfl
def mShape_mayBe : pmMeth := (⟨"PortableFiles$Shape", "mayBe", "(IIII)Z"⟩, prog_10_method_2_code, 4, (some .boolean), [], 9, 4, 1, 21)
theorem ok_mShape_mayBe : pmOk mShape_mayBe := ⟨⟨pmW_tb (i := 381) (by decide +kernel) rfl, qI_Shape⟩, plainFor_of_name (by decide +kernel), by decide +kernel, by decide +kernel⟩
theorem st_mShape_mayBe : Cond.static mShape_mayBe.1 ∈ pmW := pmW_tb (i := 380) (by decide +kernel) rfl
def mShape_channelsOf : pmMeth := (⟨"PortableFiles$Shape", "channelsOf", "(I)I"⟩, prog_10_method_3_code, 1, (some .int), [], 9, 1, 0, 0)
theorem ok_mShape_channelsOf : pmOk mShape_channelsOf := ⟨⟨pmW_tb (i := 394) (by decide +kernel) rfl, qI_Shape⟩, plainFor_of_name (by decide +kernel), by decide +kernel, by decide +kernel⟩
theorem st_mShape_channelsOf : Cond.static mShape_channelsOf.1 ∈ pmW := pmW_tb (i := 393) (by decide +kernel) rfl
def mShape_greatest : pmMeth := (⟨"PortableFiles$Shape", "greatest", "(I)I"⟩, prog_10_method_4_code, 1, (some .int), [], 9, 1, 0, 0)
theorem ok_mShape_greatest : pmOk mShape_greatest := ⟨⟨pmW_tb (i := 431) (by decide +kernel) rfl, qI_Shape⟩, plainFor_of_name (by decide +kernel), by decide +kernel, by decide +kernel⟩
theorem st_mShape_greatest : Cond.static mShape_greatest.1 ∈ pmW := pmW_tb (i := 430) (by decide +kernel) rfl
def mShape_sideMayBe : pmMeth := (⟨"PortableFiles$Shape", "sideMayBe", "(I)Z"⟩, prog_10_method_5_code, 1, (some .boolean), [], 9, 1, 0, 0)
theorem ok_mShape_sideMayBe : pmOk mShape_sideMayBe := ⟨⟨pmW_tb (i := 384) (by decide +kernel) rfl, qI_Shape⟩, plainFor_of_name (by decide +kernel), by decide +kernel, by decide +kernel⟩
theorem st_mShape_sideMayBe : Cond.static mShape_sideMayBe.1 ∈ pmW := pmW_tb (i := 383) (by decide +kernel) rfl
def mShape_bitsMayBe : pmMeth := (⟨"PortableFiles$Shape", "bitsMayBe", "(II)Z"⟩, prog_10_method_6_code, 2, (some .boolean), [], 9, 2, 0, 0)
theorem ok_mShape_bitsMayBe : pmOk mShape_bitsMayBe := ⟨⟨pmW_tb (i := 387) (by decide +kernel) rfl, qI_Shape⟩, plainFor_of_name (by decide +kernel), by decide +kernel, by decide +kernel⟩
theorem st_mShape_bitsMayBe : Cond.static mShape_bitsMayBe.1 ∈ pmW := pmW_tb (i := 386) (by decide +kernel) rfl
def mLetters_mayBe : pmMeth := (⟨"PortableFiles$Letters", "mayBe", "(I)Z"⟩, prog_5_method_2_code, 1, (some .boolean), [], 10, 1, 2, 40)
theorem ok_mLetters_mayBe : pmOk mLetters_mayBe := ⟨⟨pmW_tb (i := 308) (by decide +kernel) rfl, qI_Letters⟩, plainFor_of_name (by decide +kernel), by decide +kernel, by decide +kernel⟩
theorem st_mLetters_mayBe : Cond.static mLetters_mayBe.1 ∈ pmW := pmW_tb (i := 307) (by decide +kernel) rfl
def mLetters_areOfExtra : pmMeth := (⟨"PortableFiles$Letters", "areOfExtra", "(I)Z"⟩, prog_5_method_3_code, 1, (some .boolean), [], 10, 1, 3, 60)
theorem ok_mLetters_areOfExtra : pmOk mLetters_areOfExtra := ⟨⟨pmW_tb (i := 733) (by decide +kernel) rfl, qI_Letters⟩, plainFor_of_name (by decide +kernel), by decide +kernel, by decide +kernel⟩
theorem st_mLetters_areOfExtra : Cond.static mLetters_areOfExtra.1 ∈ pmW := pmW_tb (i := 732) (by decide +kernel) rfl
def mLetters_firstIsGreat : pmMeth := (⟨"PortableFiles$Letters", "firstIsGreat", "(I)Z"⟩, prog_5_method_4_code, 1, (some .boolean), [], 10, 1, 1, 21)
theorem ok_mLetters_firstIsGreat : pmOk mLetters_firstIsGreat := ⟨⟨pmW_tb (i := 338) (by decide +kernel) rfl, qI_Letters⟩, plainFor_of_name (by decide +kernel), by decide +kernel, by decide +kernel⟩
theorem st_mLetters_firstIsGreat : Cond.static mLetters_firstIsGreat.1 ∈ pmW := pmW_tb (i := 337) (by decide +kernel) rfl
def mLetters_fourthIsGreat : pmMeth := (⟨"PortableFiles$Letters", "fourthIsGreat", "(I)Z"⟩, prog_5_method_5_code, 1, (some .boolean), [], 10, 1, 1, 21)
theorem ok_mLetters_fourthIsGreat : pmOk mLetters_fourthIsGreat := ⟨⟨pmW_tb (i := 666) (by decide +kernel) rfl, qI_Letters⟩, plainFor_of_name (by decide +kernel), by decide +kernel, by decide +kernel⟩
theorem st_mLetters_fourthIsGreat : Cond.static mLetters_fourthIsGreat.1 ∈ pmW := pmW_tb (i := 665) (by decide +kernel) rfl
def mLetters_letter : pmMeth := (⟨"PortableFiles$Letters", "letter", "(II)I"⟩, prog_5_method_6_code, 2, (some .int), [], 10, 2, 0, 0)
theorem ok_mLetters_letter : pmOk mLetters_letter := ⟨⟨pmW_tb (i := 311) (by decide +kernel) rfl, qI_Letters⟩, plainFor_of_name (by decide +kernel), by decide +kernel, by decide +kernel⟩
theorem st_mLetters_letter : Cond.static mLetters_letter.1 ∈ pmW := pmW_tb (i := 310) (by decide +kernel) rfl
def mLetters_isLetter : pmMeth := (⟨"PortableFiles$Letters", "isLetter", "(I)Z"⟩, prog_5_method_7_code, 1, (some .boolean), [], 10, 1, 1, 20)
theorem ok_mLetters_isLetter : pmOk mLetters_isLetter := ⟨⟨pmW_tb (i := 314) (by decide +kernel) rfl, qI_Letters⟩, plainFor_of_name (by decide +kernel), by decide +kernel, by decide +kernel⟩
theorem st_mLetters_isLetter : Cond.static mLetters_isLetter.1 ∈ pmW := pmW_tb (i := 313) (by decide +kernel) rfl
def mLetters_isGreat : pmMeth := (⟨"PortableFiles$Letters", "isGreat", "(I)Z"⟩, prog_5_method_8_code, 1, (some .boolean), [], 10, 1, 0, 0)
theorem ok_mLetters_isGreat : pmOk mLetters_isGreat := ⟨⟨pmW_tb (i := 317) (by decide +kernel) rfl, qI_Letters⟩, plainFor_of_name (by decide +kernel), by decide +kernel, by decide +kernel⟩
theorem st_mLetters_isGreat : Cond.static mLetters_isGreat.1 ∈ pmW := pmW_tb (i := 316) (by decide +kernel) rfl
def mRows_lengthOf : pmMeth := (⟨"PortableFiles$Rows", "lengthOf", "(LPortableFiles$Picture;)I"⟩, prog_9_method_2_code, 1, (some .int), [], 11, 1, 2, 40)
theorem ok_mRows_lengthOf : pmOk mRows_lengthOf := ⟨⟨pmW_tb (i := 486) (by decide +kernel) rfl, qI_Rows⟩, plainFor_of_name (by decide +kernel), by decide +kernel, by decide +kernel⟩
theorem st_mRows_lengthOf : Cond.static mRows_lengthOf.1 ∈ pmW := pmW_tb (i := 485) (by decide +kernel) rfl
def mRows_pack : pmMeth := (⟨"PortableFiles$Rows", "pack", "(LPortableFiles$Picture;LPortableFiles$Bytes;)V"⟩, prog_9_method_3_code, 3, none, [], 11, 2, 3, 72)
theorem ok_mRows_pack : pmOk mRows_pack := ⟨⟨pmW_tb (i := 885) (by decide +kernel) rfl, qI_Rows⟩, plainFor_of_name (by decide +kernel), by decide +kernel, by decide +kernel⟩
theorem st_mRows_pack : Cond.static mRows_pack.1 ∈ pmW := pmW_tb (i := 884) (by decide +kernel) rfl
def mRows_unpack : pmMeth := (⟨"PortableFiles$Rows", "unpack", "(LPortableFiles$Bytes;LPortableFiles$Picture;)Z"⟩, prog_9_method_4_code, 5, (some .boolean), [], 11, 2, 3, 75)
theorem ok_mRows_unpack : pmOk mRows_unpack := ⟨⟨pmW_tb (i := 495) (by decide +kernel) rfl, qI_Rows⟩, plainFor_of_name (by decide +kernel), by decide +kernel, by decide +kernel⟩
theorem st_mRows_unpack : Cond.static mRows_unpack.1 ∈ pmW := pmW_tb (i := 494) (by decide +kernel) rfl
def mRows_packRow : pmMeth := (⟨"PortableFiles$Rows", "packRow", "(LPortableFiles$Picture;ILPortableFiles$Bytes;)V"⟩, prog_9_method_5_code, 7, none, [], 11, 3, 2, 46)
theorem ok_mRows_packRow : pmOk mRows_packRow := ⟨⟨pmW_tb (i := 890) (by decide +kernel) rfl, qI_Rows⟩, plainFor_of_name (by decide +kernel), by decide +kernel, by decide +kernel⟩
theorem st_mRows_packRow : Cond.static mRows_packRow.1 ∈ pmW := pmW_tb (i := 889) (by decide +kernel) rfl
def mRows_unpackRow : pmMeth := (⟨"PortableFiles$Rows", "unpackRow", "(LPortableFiles$Bytes;ILPortableFiles$Picture;I)Z"⟩, prog_9_method_6_code, 9, (some .boolean), [], 11, 4, 2, 47)
theorem ok_mRows_unpackRow : pmOk mRows_unpackRow := ⟨⟨pmW_tb (i := 503) (by decide +kernel) rfl, qI_Rows⟩, plainFor_of_name (by decide +kernel), by decide +kernel, by decide +kernel⟩
theorem st_mRows_unpackRow : Cond.static mRows_unpackRow.1 ∈ pmW := pmW_tb (i := 502) (by decide +kernel) rfl
def mRows_isFilledWithNought : pmMeth := (⟨"PortableFiles$Rows", "isFilledWithNought", "(ILPortableFiles$Picture;)Z"⟩, prog_9_method_7_code, 3, (some .boolean), [], 11, 2, 1, 20)
theorem ok_mRows_isFilledWithNought : pmOk mRows_isFilledWithNought := ⟨⟨pmW_tb (i := 499) (by decide +kernel) rfl, qI_Rows⟩, plainFor_of_name (by decide +kernel), by decide +kernel, by decide +kernel⟩
theorem st_mRows_isFilledWithNought : Cond.static mRows_isFilledWithNought.1 ∈ pmW := pmW_tb (i := 498) (by decide +kernel) rfl
def mRows_rowLength : pmMeth := (⟨"PortableFiles$Rows", "rowLength", "(LPortableFiles$Picture;)I"⟩, prog_9_method_8_code, 1, (some .int), [], 11, 1, 1, 20)
theorem ok_mRows_rowLength : pmOk mRows_rowLength := ⟨⟨pmW_tb (i := 489) (by decide +kernel) rfl, qI_Rows⟩, plainFor_of_name (by decide +kernel), by decide +kernel, by decide +kernel⟩
theorem st_mRows_rowLength : Cond.static mRows_rowLength.1 ∈ pmW := pmW_tb (i := 488) (by decide +kernel) rfl
def mRows_rowBits : pmMeth := (⟨"PortableFiles$Rows", "rowBits", "(LPortableFiles$Picture;)I"⟩, prog_9_method_9_code, 1, (some .int), [], 11, 1, 0, 0)
theorem ok_mRows_rowBits : pmOk mRows_rowBits := ⟨⟨pmW_tb (i := 492) (by decide +kernel) rfl, qI_Rows⟩, plainFor_of_name (by decide +kernel), by decide +kernel, by decide +kernel⟩
theorem st_mRows_rowBits : Cond.static mRows_rowBits.1 ∈ pmW := pmW_tb (i := 491) (by decide +kernel) rfl
def mLess_lessen : pmMeth := (⟨"PortableFiles$Lessening", "lessen", "(LPortableFiles$Picture;)V"⟩, prog_4_method_2_code, 3, none, [], 12, 1, 4, 92)
theorem ok_mLess_lessen : pmOk mLess_lessen := ⟨⟨pmW_tb (i := 772) (by decide +kernel) rfl, qI_Less⟩, plainFor_of_name (by decide +kernel), by decide +kernel, by decide +kernel⟩
theorem st_mLess_lessen : Cond.static mLess_lessen.1 ∈ pmW := pmW_tb (i := 771) (by decide +kernel) rfl
def mLess_lessenAlpha : pmMeth := (⟨"PortableFiles$Lessening", "lessenAlpha", "(LPortableFiles$Picture;)V"⟩, prog_4_method_3_code, 1, none, [], 12, 1, 3, 69)
theorem ok_mLess_lessenAlpha : pmOk mLess_lessenAlpha := ⟨⟨pmW_tb (i := 775) (by decide +kernel) rfl, qI_Less⟩, plainFor_of_name (by decide +kernel), by decide +kernel, by decide +kernel⟩
theorem st_mLess_lessenAlpha : Cond.static mLess_lessenAlpha.1 ∈ pmW := pmW_tb (i := 774) (by decide +kernel) rfl
def mLess_lessenColours : pmMeth := (⟨"PortableFiles$Lessening", "lessenColours", "(LPortableFiles$Picture;)V"⟩, prog_4_method_4_code, 1, none, [], 12, 1, 3, 69)
theorem ok_mLess_lessenColours : pmOk mLess_lessenColours := ⟨⟨pmW_tb (i := 786) (by decide +kernel) rfl, qI_Less⟩, plainFor_of_name (by decide +kernel), by decide +kernel, by decide +kernel⟩
theorem st_mLess_lessenColours : Cond.static mLess_lessenColours.1 ∈ pmW := pmW_tb (i := 785) (by decide +kernel) rfl
def mLess_lessenGreyBits : pmMeth := (⟨"PortableFiles$Lessening", "lessenGreyBits", "(LPortableFiles$Picture;)V"⟩, prog_4_method_5_code, 3, none, [], 12, 1, 3, 70)
theorem ok_mLess_lessenGreyBits : pmOk mLess_lessenGreyBits := ⟨⟨pmW_tb (i := 792) (by decide +kernel) rfl, qI_Less⟩, plainFor_of_name (by decide +kernel), by decide +kernel, by decide +kernel⟩
theorem st_mLess_lessenGreyBits : Cond.static mLess_lessenGreyBits.1 ∈ pmW := pmW_tb (i := 791) (by decide +kernel) rfl
def mLess_lessenPaletteBits : pmMeth := (⟨"PortableFiles$Lessening", "lessenPaletteBits", "(LPortableFiles$Picture;)V"⟩, prog_4_method_6_code, 2, none, [], 12, 1, 2, 42)
theorem ok_mLess_lessenPaletteBits : pmOk mLess_lessenPaletteBits := ⟨⟨pmW_tb (i := 803) (by decide +kernel) rfl, qI_Less⟩, plainFor_of_name (by decide +kernel), by decide +kernel, by decide +kernel⟩
theorem st_mLess_lessenPaletteBits : Cond.static mLess_lessenPaletteBits.1 ∈ pmW := pmW_tb (i := 802) (by decide +kernel) rfl
def mLess_isOpaque : pmMeth := (⟨"PortableFiles$Lessening", "isOpaque", "(LPortableFiles$Picture;)Z"⟩, prog_4_method_7_code, 4, (some .boolean), [], 12, 1, 2, 46)
theorem ok_mLess_isOpaque : pmOk mLess_isOpaque := ⟨⟨pmW_tb (i := 778) (by decide +kernel) rfl, qI_Less⟩, plainFor_of_name (by decide +kernel), by decide +kernel, by decide +kernel⟩
theorem st_mLess_isOpaque : Cond.static mLess_isOpaque.1 ∈ pmW := pmW_tb (i := 777) (by decide +kernel) rfl
def mLess_isGreyEverywhere : pmMeth := (⟨"PortableFiles$Lessening", "isGreyEverywhere", "(LPortableFiles$Picture;)Z"⟩, prog_4_method_8_code, 4, (some .boolean), [], 12, 1, 2, 46)
theorem ok_mLess_isGreyEverywhere : pmOk mLess_isGreyEverywhere := ⟨⟨pmW_tb (i := 789) (by decide +kernel) rfl, qI_Less⟩, plainFor_of_name (by decide +kernel), by decide +kernel, by decide +kernel⟩
theorem st_mLess_isGreyEverywhere : Cond.static mLess_isGreyEverywhere.1 ∈ pmW := pmW_tb (i := 788) (by decide +kernel) rfl
def mLess_allAreTimes : pmMeth := (⟨"PortableFiles$Lessening", "allAreTimes", "(LPortableFiles$Picture;I)Z"⟩, prog_4_method_9_code, 4, (some .boolean), [], 12, 2, 2, 46)
theorem ok_mLess_allAreTimes : pmOk mLess_allAreTimes := ⟨⟨pmW_tb (i := 796) (by decide +kernel) rfl, qI_Less⟩, plainFor_of_name (by decide +kernel), by decide +kernel, by decide +kernel⟩
theorem st_mLess_allAreTimes : Cond.static mLess_allAreTimes.1 ∈ pmW := pmW_tb (i := 795) (by decide +kernel) rfl
def mLess_divideAll : pmMeth := (⟨"PortableFiles$Lessening", "divideAll", "(LPortableFiles$Picture;I)V"⟩, prog_4_method_10_code, 4, none, [], 12, 2, 2, 47)
theorem ok_mLess_divideAll : pmOk mLess_divideAll := ⟨⟨pmW_tb (i := 799) (by decide +kernel) rfl, qI_Less⟩, plainFor_of_name (by decide +kernel), by decide +kernel, by decide +kernel⟩
theorem st_mLess_divideAll : Cond.static mLess_divideAll.1 ∈ pmW := pmW_tb (i := 798) (by decide +kernel) rfl
def mArrays_fill : pmMeth := (⟨"java/util/Arrays", "fill", "([II)V"⟩, prog_25_method_103_code, 4, none, [], 14, 2, 0, 0)
theorem ok_mArrays_fill : pmOk mArrays_fill := ⟨⟨pmW_tb (i := 397) (by decide +kernel) rfl, qI_Arrays⟩, by decide +kernel, by decide +kernel, by decide +kernel⟩
theorem st_mArrays_fill : Cond.static mArrays_fill.1 ∈ pmW := pmW_tb (i := 396) (by decide +kernel) rfl
def mMath_min : pmMeth := (⟨"java/lang/Math", "min", "(II)I"⟩, prog_19_method_69_code, 2, (some .int), [], 15, 2, 0, 0)
theorem ok_mMath_min : pmOk mMath_min := ⟨⟨pmW_tb (i := 434) (by decide +kernel) rfl, qI_Math⟩, by decide +kernel, by decide +kernel, by decide +kernel⟩
theorem st_mMath_min : Cond.static mMath_min.1 ∈ pmW := pmW_tb (i := 433) (by decide +kernel) rfl
theorem qf_Bytes_7 : pmFd "PortableFiles$Bytes" 7 0 0 := ⟨_, rfl, by decide, pmW_tb (i := 161) (by decide +kernel) rfl⟩
theorem qf_Bytes_13 : pmFd "PortableFiles$Bytes" 13 0 1 := ⟨_, rfl, by decide, pmW_tb (i := 162) (by decide +kernel) rfl⟩
theorem qs_Bytes_33 : Jvm.Cond.fieldLink "PortableFiles$Bytes" (33) "PortableFiles$Bytes" "BEGINNING" "[I" ∈ pmW := pmW_tb (i := 273) (by decide +kernel) rfl
theorem qs_Bytes_46 : Jvm.Cond.fieldLink "PortableFiles$Bytes" (46) "PortableFiles$Bytes" "SUM_STEPS" "[I" ∈ pmW := pmW_tb (i := 330) (by decide +kernel) rfl
theorem qm_Bytes_17 : Jvm.Cond.methodLink "PortableFiles$Bytes" (17) ⟨"PortableFiles$Bytes", "has", "(I)Z"⟩ ∈ pmW := pmW_tb (i := 275) (by decide +kernel) rfl
theorem qm_Bytes_21 : Jvm.Cond.methodLink "PortableFiles$Bytes" (21) ⟨"PortableFiles$Bytes", "value", "(I)I"⟩ ∈ pmW := pmW_tb (i := 279) (by decide +kernel) rfl
theorem qm_Bytes_25 : Jvm.Cond.methodLink "PortableFiles$Bytes" (25) ⟨"PortableFiles$Bytes", "set", "(II)V"⟩ ∈ pmW := pmW_tb (i := 846) (by decide +kernel) rfl
theorem qm_Bytes_29 : Jvm.Cond.methodLink "PortableFiles$Bytes" (29) ⟨"PortableFiles$Bytes", "add", "(I)V"⟩ ∈ pmW := pmW_tb (i := 823) (by decide +kernel) rfl
theorem qm_Bytes_36 : Jvm.Cond.methodLink "PortableFiles$Bytes" (36) ⟨"PortableFiles$Bytes", "sumPlace", "(II)I"⟩ ∈ pmW := pmW_tb (i := 322) (by decide +kernel) rfl
theorem qm_Bytes_40 : Jvm.Cond.methodLink "PortableFiles$Bytes" (40) ⟨"PortableFiles$Bytes", "number", "(I)I"⟩ ∈ pmW := pmW_tb (i := 325) (by decide +kernel) rfl
theorem qm_Bytes_43 : Jvm.Cond.methodLink "PortableFiles$Bytes" (43) ⟨"PortableFiles$Bytes", "rightSum", "(II)I"⟩ ∈ pmW := pmW_tb (i := 326) (by decide +kernel) rfl
theorem qm_Bytes_49 : Jvm.Cond.methodLink "PortableFiles$Bytes" (49) ⟨"PortableFiles$Bytes", "hasWholeChunk", "(II)Z"⟩ ∈ pmW := pmW_tb (i := 959) (by decide +kernel) rfl
theorem qm_Bytes_53 : Jvm.Cond.methodLink "PortableFiles$Bytes" (53) ⟨"PortableFiles$Bytes", "dataLengthMayBe", "(I)Z"⟩ ∈ pmW := pmW_tb (i := 960) (by decide +kernel) rfl
theorem qm_Bytes_56 : Jvm.Cond.methodLink "PortableFiles$Bytes" (56) ⟨"PortableFiles$Bytes", "setNumber", "(II)V"⟩ ∈ pmW := pmW_tb (i := 961) (by decide +kernel) rfl
theorem qo_Bytes_1 : Jvm.Cond.methodLink "PortableFiles$Bytes" (1) ⟨"java/lang/Object", "<init>", "()V"⟩ ∈ pmW := pmW_tb (i := 160) (by decide +kernel) rfl
theorem qf_Extras_9 : pmFd "PortableFiles$Extras" 9 1 0 := ⟨_, rfl, by decide, pmW_tb (i := 72) (by decide +kernel) rfl⟩
theorem qf_Extras_13 : pmFd "PortableFiles$Extras" 13 1 1 := ⟨_, rfl, by decide, pmW_tb (i := 73) (by decide +kernel) rfl⟩
theorem qf_Extras_16 : pmFd "PortableFiles$Extras" 16 1 2 := ⟨_, rfl, by decide, pmW_tb (i := 74) (by decide +kernel) rfl⟩
theorem qf_Extras_19 : pmFd "PortableFiles$Extras" 19 1 3 := ⟨_, rfl, by decide, pmW_tb (i := 75) (by decide +kernel) rfl⟩
theorem qm_Extras_23 : Jvm.Cond.methodLink "PortableFiles$Extras" (23) ⟨"PortableFiles$Extras", "has", "(I)Z"⟩ ∈ pmW := pmW_tb (i := 476) (by decide +kernel) rfl
theorem qm_Extras_27 : Jvm.Cond.methodLink "PortableFiles$Extras" (27) ⟨"PortableFiles$Extras", "lengthOf", "(I)I"⟩ ∈ pmW := pmW_tb (i := 908) (by decide +kernel) rfl
theorem qm_Extras_31 : Jvm.Cond.methodLink "PortableFiles$Extras" (31) ⟨"PortableFiles$Extras", "isFull", "()Z"⟩ ∈ pmW := pmW_tb (i := 471) (by decide +kernel) rfl
theorem qm_Extras_35 : Jvm.Cond.methodLink "PortableFiles$Extras" (35) ⟨"PortableFiles$Letters", "fourthIsGreat", "(I)Z"⟩ ∈ pmW := pmW_tb (i := 664) (by decide +kernel) rfl
theorem qm_Extras_40 : Jvm.Cond.methodLink "PortableFiles$Extras" (40) ⟨"PortableFiles$Extras", "move", "(II)V"⟩ ∈ pmW := pmW_tb (i := 667) (by decide +kernel) rfl
theorem qo_Extras_1 : Jvm.Cond.methodLink "PortableFiles$Extras" (1) ⟨"java/lang/Object", "<init>", "()V"⟩ ∈ pmW := pmW_tb (i := 71) (by decide +kernel) rfl
theorem qp_Extras_44 : Jvm.Cond.methodLink "PortableFiles$Extras" (44) ⟨"java/lang/System", "arraycopy", "(Ljava/lang/Object;ILjava/lang/Object;II)V"⟩ ∈ pmW := pmW_tb (i := 671) (by decide +kernel) rfl
theorem qf_Palette_9 : pmFd "PortableFiles$Palette" 9 2 0 := ⟨_, rfl, by decide, pmW_tb (i := 44) (by decide +kernel) rfl⟩
theorem qf_Palette_25 : pmFd "PortableFiles$Palette" 25 2 1 := ⟨_, rfl, by decide, pmW_tb (i := 45) (by decide +kernel) rfl⟩
theorem qm_Palette_13 : Jvm.Cond.methodLink "PortableFiles$Palette" (13) ⟨"PortableFiles$Shape", "greatest", "(I)I"⟩ ∈ pmW := pmW_tb (i := 429) (by decide +kernel) rfl
theorem qm_Palette_19 : Jvm.Cond.methodLink "PortableFiles$Palette" (19) ⟨"java/lang/Math", "min", "(II)I"⟩ ∈ pmW := pmW_tb (i := 432) (by decide +kernel) rfl
theorem qm_Palette_29 : Jvm.Cond.methodLink "PortableFiles$Palette" (29) ⟨"PortableFiles$Palette", "has", "(I)Z"⟩ ∈ pmW := pmW_tb (i := 447) (by decide +kernel) rfl
theorem qm_Palette_33 : Jvm.Cond.methodLink "PortableFiles$Palette" (33) ⟨"PortableFiles$Palette", "part", "(II)I"⟩ ∈ pmW := pmW_tb (i := 877) (by decide +kernel) rfl
theorem qo_Palette_1 : Jvm.Cond.methodLink "PortableFiles$Palette" (1) ⟨"java/lang/Object", "<init>", "()V"⟩ ∈ pmW := pmW_tb (i := 43) (by decide +kernel) rfl
theorem qp_Palette_36 : Jvm.Cond.methodLink "PortableFiles$Palette" (36) ⟨"java/lang/System", "arraycopy", "(Ljava/lang/Object;ILjava/lang/Object;II)V"⟩ ∈ pmW := pmW_tb (i := 1020) (by decide +kernel) rfl
theorem qf_Picture_12 : pmFd "PortableFiles$Picture" 12 3 0 := ⟨_, rfl, by decide, pmW_tb (i := 88) (by decide +kernel) rfl⟩
theorem qf_Picture_21 : pmFd "PortableFiles$Picture" 21 3 1 := ⟨_, rfl, by decide, pmW_tb (i := 93) (by decide +kernel) rfl⟩
theorem qf_Picture_28 : pmFd "PortableFiles$Picture" 28 3 2 := ⟨_, rfl, by decide, pmW_tb (i := 97) (by decide +kernel) rfl⟩
theorem qf_Picture_32 : pmFd "PortableFiles$Picture" 32 3 3 := ⟨_, rfl, by decide, pmW_tb (i := 101) (by decide +kernel) rfl⟩
theorem qf_Picture_36 : pmFd "PortableFiles$Picture" 36 3 5 := ⟨_, rfl, by decide, pmW_tb (i := 104) (by decide +kernel) rfl⟩
theorem qf_Picture_40 : pmFd "PortableFiles$Picture" 40 3 6 := ⟨_, rfl, by decide, pmW_tb (i := 109) (by decide +kernel) rfl⟩
theorem qf_Picture_43 : pmFd "PortableFiles$Picture" 43 3 7 := ⟨_, rfl, by decide, pmW_tb (i := 114) (by decide +kernel) rfl⟩
theorem qf_Picture_46 : pmFd "PortableFiles$Picture" 46 3 8 := ⟨_, rfl, by decide, pmW_tb (i := 120) (by decide +kernel) rfl⟩
theorem qf_Picture_49 : pmFd "PortableFiles$Picture" 49 3 9 := ⟨_, rfl, by decide, pmW_tb (i := 125) (by decide +kernel) rfl⟩
theorem qf_Picture_52 : pmFd "PortableFiles$Picture" 52 3 4 := ⟨_, rfl, by decide, pmW_tb (i := 102) (by decide +kernel) rfl⟩
theorem qn_Picture_9 : Jvm.Cond.classLink "PortableFiles$Picture" (9) "PortableFiles$Palette" ∈ pmW := pmW_tb (i := 38) (by decide +kernel) rfl
theorem qn_Picture_18 : Jvm.Cond.classLink "PortableFiles$Picture" (18) "PortableFiles$Tags" ∈ pmW := pmW_tb (i := 56) (by decide +kernel) rfl
theorem qn_Picture_25 : Jvm.Cond.classLink "PortableFiles$Picture" (25) "PortableFiles$Extras" ∈ pmW := pmW_tb (i := 66) (by decide +kernel) rfl
theorem qN_Picture_11 : Jvm.Cond.methodLinkNest "PortableFiles$Picture" (11) ⟨"PortableFiles$Palette", "<init>", "()V"⟩ "PortableFiles" ∈ pmNest := by simp [pmNest]
theorem qN_Picture_20 : Jvm.Cond.methodLinkNest "PortableFiles$Picture" (20) ⟨"PortableFiles$Tags", "<init>", "()V"⟩ "PortableFiles" ∈ pmNest := by simp [pmNest]
theorem qN_Picture_27 : Jvm.Cond.methodLinkNest "PortableFiles$Picture" (27) ⟨"PortableFiles$Extras", "<init>", "()V"⟩ "PortableFiles" ∈ pmNest := by simp [pmNest]
theorem qm_Picture_56 : Jvm.Cond.methodLink "PortableFiles$Picture" (56) ⟨"PortableFiles$Shape", "channelsOf", "(I)I"⟩ ∈ pmW := pmW_tb (i := 392) (by decide +kernel) rfl
theorem qm_Picture_60 : Jvm.Cond.methodLink "PortableFiles$Picture" (60) ⟨"java/util/Arrays", "fill", "([II)V"⟩ ∈ pmW := pmW_tb (i := 395) (by decide +kernel) rfl
theorem qm_Picture_66 : Jvm.Cond.methodLink "PortableFiles$Picture" (66) ⟨"PortableFiles$Palette", "clear", "()V"⟩ ∈ pmW := pmW_tb (i := 398) (by decide +kernel) rfl
theorem qm_Picture_69 : Jvm.Cond.methodLink "PortableFiles$Picture" (69) ⟨"PortableFiles$Tags", "clear", "()V"⟩ ∈ pmW := pmW_tb (i := 402) (by decide +kernel) rfl
theorem qm_Picture_70 : Jvm.Cond.methodLink "PortableFiles$Picture" (70) ⟨"PortableFiles$Extras", "clear", "()V"⟩ ∈ pmW := pmW_tb (i := 407) (by decide +kernel) rfl
theorem qm_Picture_71 : Jvm.Cond.methodLink "PortableFiles$Picture" (71) ⟨"PortableFiles$Picture", "has", "(III)Z"⟩ ∈ pmW := pmW_tb (i := 514) (by decide +kernel) rfl
theorem qm_Picture_75 : Jvm.Cond.methodLink "PortableFiles$Picture" (75) ⟨"PortableFiles$Picture", "placeOf", "(III)I"⟩ ∈ pmW := pmW_tb (i := 518) (by decide +kernel) rfl
theorem qm_Picture_79 : Jvm.Cond.methodLink "PortableFiles$Picture" (79) ⟨"PortableFiles$Shape", "greatest", "(I)I"⟩ ∈ pmW := pmW_tb (i := 508) (by decide +kernel) rfl
theorem qm_Picture_82 : Jvm.Cond.methodLink "PortableFiles$Picture" (82) ⟨"PortableFiles$Palette", "has", "(I)Z"⟩ ∈ pmW := pmW_tb (i := 509) (by decide +kernel) rfl
theorem qm_Picture_85 : Jvm.Cond.methodLink "PortableFiles$Picture" (85) ⟨"PortableFiles$Extras", "leaveOnlySafeOnes", "()V"⟩ ∈ pmW := pmW_tb (i := 660) (by decide +kernel) rfl
theorem qm_Picture_94 : Jvm.Cond.methodLink "PortableFiles$Picture" (94) ⟨"PortableFiles$Palette", "copyFrom", "(LPortableFiles$Palette;)V"⟩ ∈ pmW := pmW_tb (i := 1016) (by decide +kernel) rfl
theorem qm_Picture_98 : Jvm.Cond.methodLink "PortableFiles$Picture" (98) ⟨"PortableFiles$Tags", "copyFrom", "(LPortableFiles$Tags;)V"⟩ ∈ pmW := pmW_tb (i := 1021) (by decide +kernel) rfl
theorem qm_Picture_101 : Jvm.Cond.methodLink "PortableFiles$Picture" (101) ⟨"PortableFiles$Extras", "copyFrom", "(LPortableFiles$Extras;)V"⟩ ∈ pmW := pmW_tb (i := 1026) (by decide +kernel) rfl
theorem qo_Picture_3 : Jvm.Cond.methodLink "PortableFiles$Picture" (3) ⟨"java/lang/Object", "<init>", "()V"⟩ ∈ pmW := pmW_tb (i := 37) (by decide +kernel) rfl
theorem qp_Picture_88 : Jvm.Cond.methodLink "PortableFiles$Picture" (88) ⟨"java/lang/System", "arraycopy", "(Ljava/lang/Object;ILjava/lang/Object;II)V"⟩ ∈ pmW := pmW_tb (i := 1015) (by decide +kernel) rfl
theorem qf_Reading_14 : pmFd "PortableFiles$Reading" 14 4 0 := ⟨_, rfl, by decide, pmW_tb (i := 191) (by decide +kernel) rfl⟩
theorem qf_Reading_23 : pmFd "PortableFiles$Reading" 23 4 1 := ⟨_, rfl, by decide, pmW_tb (i := 193) (by decide +kernel) rfl⟩
theorem qf_Reading_29 : pmFd "PortableFiles$Reading" 29 4 2 := ⟨_, rfl, by decide, pmW_tb (i := 195) (by decide +kernel) rfl⟩
theorem qf_Reading_35 : pmFd "PortableFiles$Reading" 35 4 4 := ⟨_, rfl, by decide, pmW_tb (i := 198) (by decide +kernel) rfl⟩
theorem qf_Reading_39 : pmFd "PortableFiles$Reading" 39 4 3 := ⟨_, rfl, by decide, pmW_tb (i := 196) (by decide +kernel) rfl⟩
theorem qf_Reading_47 : pmFd "PortableFiles$Reading" 47 4 9 := ⟨_, rfl, by decide, pmW_tb (i := 207) (by decide +kernel) rfl⟩
theorem qf_Reading_56 : pmFd "PortableFiles$Reading" 56 4 5 := ⟨_, rfl, by decide, pmW_tb (i := 200) (by decide +kernel) rfl⟩
theorem qf_Reading_59 : pmFd "PortableFiles$Reading" 59 4 8 := ⟨_, rfl, by decide, pmW_tb (i := 206) (by decide +kernel) rfl⟩
theorem qf_Reading_66 : pmFd "PortableFiles$Reading" 66 4 6 := ⟨_, rfl, by decide, pmW_tb (i := 202) (by decide +kernel) rfl⟩
theorem qf_Reading_69 : pmFd "PortableFiles$Reading" 69 4 7 := ⟨_, rfl, by decide, pmW_tb (i := 204) (by decide +kernel) rfl⟩
theorem qf_Reading_72 : pmFd "PortableFiles$Reading" 72 4 10 := ⟨_, rfl, by decide, pmW_tb (i := 208) (by decide +kernel) rfl⟩
theorem qf_Reading_78 : pmFd "PortableFiles$Reading" 78 4 11 := ⟨_, rfl, by decide, pmW_tb (i := 209) (by decide +kernel) rfl⟩
theorem qf_Reading_81 : pmFd "PortableFiles$Reading" 81 4 12 := ⟨_, rfl, by decide, pmW_tb (i := 210) (by decide +kernel) rfl⟩
theorem qf_Reading_84 : pmFd "PortableFiles$Reading" 84 4 13 := ⟨_, rfl, by decide, pmW_tb (i := 211) (by decide +kernel) rfl⟩
theorem qf_Reading_87 : pmFd "PortableFiles$Reading" 87 4 14 := ⟨_, rfl, by decide, pmW_tb (i := 212) (by decide +kernel) rfl⟩
theorem qf_Reading_90 : pmFd "PortableFiles$Reading" 90 4 15 := ⟨_, rfl, by decide, pmW_tb (i := 213) (by decide +kernel) rfl⟩
theorem qf_Reading_134 : pmFd "PortableFiles$Reading" 134 3 1 := ⟨_, rfl, by decide, pmW_tb (i := 96) (by decide +kernel) rfl⟩
theorem qf_Reading_146 : pmFd "PortableFiles$Reading" 146 3 8 := ⟨_, rfl, by decide, pmW_tb (i := 124) (by decide +kernel) rfl⟩
theorem qf_Reading_185 : pmFd "PortableFiles$Reading" 185 3 7 := ⟨_, rfl, by decide, pmW_tb (i := 119) (by decide +kernel) rfl⟩
theorem qf_Reading_193 : pmFd "PortableFiles$Reading" 193 3 0 := ⟨_, rfl, by decide, pmW_tb (i := 92) (by decide +kernel) rfl⟩
theorem qf_Reading_200 : pmFd "PortableFiles$Reading" 200 2 1 := ⟨_, rfl, by decide, pmW_tb (i := 49) (by decide +kernel) rfl⟩
theorem qf_Reading_210 : pmFd "PortableFiles$Reading" 210 3 2 := ⟨_, rfl, by decide, pmW_tb (i := 100) (by decide +kernel) rfl⟩
theorem qf_Reading_217 : pmFd "PortableFiles$Reading" 217 1 3 := ⟨_, rfl, by decide, pmW_tb (i := 78) (by decide +kernel) rfl⟩
theorem qc_Reading_52 : Jvm.Cond.constant "PortableFiles$Reading" (52) (1229278788) ∈ pmW := pmW_tb (i := 369) (by decide +kernel) rfl
theorem qc_Reading_132 : Jvm.Cond.constant "PortableFiles$Reading" (132) (1229209940) ∈ pmW := pmW_tb (i := 343) (by decide +kernel) rfl
theorem qc_Reading_133 : Jvm.Cond.constant "PortableFiles$Reading" (133) (1229472850) ∈ pmW := pmW_tb (i := 348) (by decide +kernel) rfl
theorem qc_Reading_151 : Jvm.Cond.constant "PortableFiles$Reading" (151) (1347179589) ∈ pmW := pmW_tb (i := 368) (by decide +kernel) rfl
theorem qn_Reading_9 : Jvm.Cond.classLink "PortableFiles$Reading" (9) "PortableFiles$Bytes" ∈ pmW := pmW_tb (i := 187) (by decide +kernel) rfl
theorem qn_Reading_20 : Jvm.Cond.classLink "PortableFiles$Reading" (20) "PortableFiles$Picture" ∈ pmW := pmW_tb (i := 189) (by decide +kernel) rfl
theorem qm_Reading_11 : Jvm.Cond.methodLink "PortableFiles$Reading" (11) ⟨"PortableFiles$Bytes", "<init>", "(I)V"⟩ ∈ pmW := pmW_tb (i := 188) (by decide +kernel) rfl
theorem qN_Reading_22 : Jvm.Cond.methodLinkNest "PortableFiles$Reading" (22) ⟨"PortableFiles$Picture", "<init>", "()V"⟩ "PortableFiles" ∈ pmNest := by simp [pmNest]
theorem qm_Reading_32 : Jvm.Cond.methodLink "PortableFiles$Reading" (32) ⟨"PortableFiles$Reading", "begin", "()V"⟩ ∈ pmW := pmW_tb (i := 265) (by decide +kernel) rfl
theorem qm_Reading_43 : Jvm.Cond.methodLink "PortableFiles$Reading" (43) ⟨"PortableFiles$Reading", "readChunk", "()I"⟩ ∈ pmW := pmW_tb (i := 287) (by decide +kernel) rfl
theorem qm_Reading_53 : Jvm.Cond.methodLink "PortableFiles$Reading" (53) ⟨"PortableFiles$Reading", "end", "()I"⟩ ∈ pmW := pmW_tb (i := 480) (by decide +kernel) rfl
theorem qm_Reading_62 : Jvm.Cond.methodLink "PortableFiles$Reading" (62) ⟨"PortableFiles$Bytes", "hasBeginning", "()Z"⟩ ∈ pmW := pmW_tb (i := 269) (by decide +kernel) rfl
theorem qm_Reading_75 : Jvm.Cond.methodLink "PortableFiles$Reading" (75) ⟨"PortableFiles$Bytes", "clear", "()V"⟩ ∈ pmW := pmW_tb (i := 283) (by decide +kernel) rfl
theorem qm_Reading_93 : Jvm.Cond.methodLink "PortableFiles$Reading" (93) ⟨"PortableFiles$Reading", "frameFault", "()I"⟩ ∈ pmW := pmW_tb (i := 291) (by decide +kernel) rfl
theorem qm_Reading_96 : Jvm.Cond.methodLink "PortableFiles$Reading" (96) ⟨"PortableFiles$Bytes", "sumIsRight", "(II)Z"⟩ ∈ pmW := pmW_tb (i := 318) (by decide +kernel) rfl
theorem qm_Reading_100 : Jvm.Cond.methodLink "PortableFiles$Reading" (100) ⟨"PortableFiles$Reading", "leaveOut", "()I"⟩ ∈ pmW := pmW_tb (i := 332) (by decide +kernel) rfl
theorem qm_Reading_103 : Jvm.Cond.methodLink "PortableFiles$Reading" (103) ⟨"PortableFiles$Reading", "orderIsWrong", "()Z"⟩ ∈ pmW := pmW_tb (i := 344) (by decide +kernel) rfl
theorem qm_Reading_106 : Jvm.Cond.methodLink "PortableFiles$Reading" (106) ⟨"PortableFiles$Reading", "isUnknown", "()Z"⟩ ∈ pmW := pmW_tb (i := 364) (by decide +kernel) rfl
theorem qm_Reading_109 : Jvm.Cond.methodLink "PortableFiles$Reading" (109) ⟨"PortableFiles$Reading", "takeIn", "()Z"⟩ ∈ pmW := pmW_tb (i := 370) (by decide +kernel) rfl
theorem qm_Reading_112 : Jvm.Cond.methodLink "PortableFiles$Reading" (112) ⟨"PortableFiles$Reading", "noteRowsEnd", "()V"⟩ ∈ pmW := pmW_tb (i := 339) (by decide +kernel) rfl
theorem qm_Reading_115 : Jvm.Cond.methodLink "PortableFiles$Reading" (115) ⟨"PortableFiles$Bytes", "hasWholeChunk", "(II)Z"⟩ ∈ pmW := pmW_tb (i := 295) (by decide +kernel) rfl
theorem qm_Reading_118 : Jvm.Cond.methodLink "PortableFiles$Reading" (118) ⟨"PortableFiles$Bytes", "number", "(I)I"⟩ ∈ pmW := pmW_tb (i := 299) (by decide +kernel) rfl
theorem qm_Reading_122 : Jvm.Cond.methodLink "PortableFiles$Reading" (122) ⟨"PortableFiles$Bytes", "dataLengthMayBe", "(I)Z"⟩ ∈ pmW := pmW_tb (i := 303) (by decide +kernel) rfl
theorem qm_Reading_126 : Jvm.Cond.methodLink "PortableFiles$Reading" (126) ⟨"PortableFiles$Letters", "mayBe", "(I)Z"⟩ ∈ pmW := pmW_tb (i := 306) (by decide +kernel) rfl
theorem qm_Reading_129 : Jvm.Cond.methodLink "PortableFiles$Reading" (129) ⟨"PortableFiles$Letters", "firstIsGreat", "(I)Z"⟩ ∈ pmW := pmW_tb (i := 336) (by decide +kernel) rfl
theorem qm_Reading_140 : Jvm.Cond.methodLink "PortableFiles$Reading" (140) ⟨"PortableFiles$Tags", "has", "(I)Z"⟩ ∈ pmW := pmW_tb (i := 349) (by decide +kernel) rfl
theorem qm_Reading_143 : Jvm.Cond.methodLink "PortableFiles$Reading" (143) ⟨"PortableFiles$Reading", "isGreyKind", "()Z"⟩ ∈ pmW := pmW_tb (i := 360) (by decide +kernel) rfl
theorem qm_Reading_152 : Jvm.Cond.methodLink "PortableFiles$Reading" (152) ⟨"PortableFiles$Reading", "takeHead", "(I)Z"⟩ ∈ pmW := pmW_tb (i := 374) (by decide +kernel) rfl
theorem qm_Reading_155 : Jvm.Cond.methodLink "PortableFiles$Reading" (155) ⟨"PortableFiles$Reading", "takeTag", "(II)Z"⟩ ∈ pmW := pmW_tb (i := 411) (by decide +kernel) rfl
theorem qm_Reading_158 : Jvm.Cond.methodLink "PortableFiles$Reading" (158) ⟨"PortableFiles$Bytes", "value", "(I)I"⟩ ∈ pmW := pmW_tb (i := 378) (by decide +kernel) rfl
theorem qm_Reading_161 : Jvm.Cond.methodLink "PortableFiles$Reading" (161) ⟨"PortableFiles$Reading", "takePalette", "(I)Z"⟩ ∈ pmW := pmW_tb (i := 422) (by decide +kernel) rfl
theorem qm_Reading_164 : Jvm.Cond.methodLink "PortableFiles$Reading" (164) ⟨"PortableFiles$Reading", "takeAlphas", "(I)Z"⟩ ∈ pmW := pmW_tb (i := 439) (by decide +kernel) rfl
theorem qm_Reading_167 : Jvm.Cond.methodLink "PortableFiles$Reading" (167) ⟨"PortableFiles$Reading", "takeRows", "(I)Z"⟩ ∈ pmW := pmW_tb (i := 451) (by decide +kernel) rfl
theorem qm_Reading_170 : Jvm.Cond.methodLink "PortableFiles$Reading" (170) ⟨"PortableFiles$Reading", "takeExtra", "(I)Z"⟩ ∈ pmW := pmW_tb (i := 459) (by decide +kernel) rfl
theorem qm_Reading_173 : Jvm.Cond.methodLink "PortableFiles$Reading" (173) ⟨"PortableFiles$Shape", "mayBe", "(IIII)Z"⟩ ∈ pmW := pmW_tb (i := 379) (by decide +kernel) rfl
theorem qm_Reading_176 : Jvm.Cond.methodLink "PortableFiles$Reading" (176) ⟨"PortableFiles$Picture", "begin", "(IIII)V"⟩ ∈ pmW := pmW_tb (i := 388) (by decide +kernel) rfl
theorem qm_Reading_179 : Jvm.Cond.methodLink "PortableFiles$Reading" (179) ⟨"PortableFiles$Tags", "mayBe", "(II)Z"⟩ ∈ pmW := pmW_tb (i := 415) (by decide +kernel) rfl
theorem qm_Reading_181 : Jvm.Cond.methodLink "PortableFiles$Reading" (181) ⟨"PortableFiles$Tags", "set", "(II)V"⟩ ∈ pmW := pmW_tb (i := 418) (by decide +kernel) rfl
theorem qm_Reading_188 : Jvm.Cond.methodLink "PortableFiles$Reading" (188) ⟨"PortableFiles$Palette", "most", "(I)I"⟩ ∈ pmW := pmW_tb (i := 426) (by decide +kernel) rfl
theorem qm_Reading_197 : Jvm.Cond.methodLink "PortableFiles$Reading" (197) ⟨"PortableFiles$Palette", "add", "(IIII)V"⟩ ∈ pmW := pmW_tb (i := 435) (by decide +kernel) rfl
theorem qm_Reading_203 : Jvm.Cond.methodLink "PortableFiles$Reading" (203) ⟨"PortableFiles$Palette", "setAlpha", "(II)V"⟩ ∈ pmW := pmW_tb (i := 443) (by decide +kernel) rfl
theorem qm_Reading_206 : Jvm.Cond.methodLink "PortableFiles$Reading" (206) ⟨"PortableFiles$Bytes", "add", "(I)V"⟩ ∈ pmW := pmW_tb (i := 455) (by decide +kernel) rfl
theorem qm_Reading_214 : Jvm.Cond.methodLink "PortableFiles$Reading" (214) ⟨"PortableFiles$Extras", "isFull", "()Z"⟩ ∈ pmW := pmW_tb (i := 463) (by decide +kernel) rfl
theorem qm_Reading_218 : Jvm.Cond.methodLink "PortableFiles$Reading" (218) ⟨"PortableFiles$Extras", "add", "(I)V"⟩ ∈ pmW := pmW_tb (i := 467) (by decide +kernel) rfl
theorem qm_Reading_219 : Jvm.Cond.methodLink "PortableFiles$Reading" (219) ⟨"PortableFiles$Extras", "addByte", "(II)V"⟩ ∈ pmW := pmW_tb (i := 472) (by decide +kernel) rfl
theorem qm_Reading_222 : Jvm.Cond.methodLink "PortableFiles$Reading" (222) ⟨"PortableFiles$Rows", "lengthOf", "(LPortableFiles$Picture;)I"⟩ ∈ pmW := pmW_tb (i := 484) (by decide +kernel) rfl
theorem qm_Reading_226 : Jvm.Cond.methodLink "PortableFiles$Reading" (226) ⟨"PortableFiles$Rows", "unpack", "(LPortableFiles$Bytes;LPortableFiles$Picture;)Z"⟩ ∈ pmW := pmW_tb (i := 493) (by decide +kernel) rfl
theorem qo_Reading_3 : Jvm.Cond.methodLink "PortableFiles$Reading" (3) ⟨"java/lang/Object", "<init>", "()V"⟩ ∈ pmW := pmW_tb (i := 186) (by decide +kernel) rfl
theorem qf_Tags_9 : pmFd "PortableFiles$Tags" 9 5 0 := ⟨_, rfl, by decide, pmW_tb (i := 62) (by decide +kernel) rfl⟩
theorem qm_Tags_15 : Jvm.Cond.methodLink "PortableFiles$Tags" (15) ⟨"java/util/Arrays", "fill", "([II)V"⟩ ∈ pmW := pmW_tb (i := 406) (by decide +kernel) rfl
theorem qm_Tags_21 : Jvm.Cond.methodLink "PortableFiles$Tags" (21) ⟨"PortableFiles$Tags", "value", "(I)I"⟩ ∈ pmW := pmW_tb (i := 353) (by decide +kernel) rfl
theorem qm_Tags_25 : Jvm.Cond.methodLink "PortableFiles$Tags" (25) ⟨"PortableFiles$Tags", "isTag", "(I)Z"⟩ ∈ pmW := pmW_tb (i := 357) (by decide +kernel) rfl
theorem qo_Tags_3 : Jvm.Cond.methodLink "PortableFiles$Tags" (3) ⟨"java/lang/Object", "<init>", "()V"⟩ ∈ pmW := pmW_tb (i := 61) (by decide +kernel) rfl
theorem qp_Tags_29 : Jvm.Cond.methodLink "PortableFiles$Tags" (29) ⟨"java/lang/System", "arraycopy", "(Ljava/lang/Object;ILjava/lang/Object;II)V"⟩ ∈ pmW := pmW_tb (i := 1025) (by decide +kernel) rfl
theorem qf_Writing_14 : pmFd "PortableFiles$Writing" 14 6 0 := ⟨_, rfl, by decide, pmW_tb (i := 170) (by decide +kernel) rfl⟩
theorem qf_Writing_20 : pmFd "PortableFiles$Writing" 20 6 1 := ⟨_, rfl, by decide, pmW_tb (i := 172) (by decide +kernel) rfl⟩
theorem qf_Writing_33 : pmFd "PortableFiles$Writing" 33 3 1 := ⟨_, rfl, by decide, pmW_tb (i := 94) (by decide +kernel) rfl⟩
theorem qf_Writing_43 : pmFd "PortableFiles$Writing" 43 3 8 := ⟨_, rfl, by decide, pmW_tb (i := 122) (by decide +kernel) rfl⟩
theorem qf_Writing_49 : pmFd "PortableFiles$Writing" 49 3 0 := ⟨_, rfl, by decide, pmW_tb (i := 89) (by decide +kernel) rfl⟩
theorem qf_Writing_63 : pmFd "PortableFiles$Writing" 63 3 2 := ⟨_, rfl, by decide, pmW_tb (i := 98) (by decide +kernel) rfl⟩
theorem qf_Writing_80 : pmFd "PortableFiles$Writing" 80 0 1 := ⟨_, rfl, by decide, pmW_tb (i := 163) (by decide +kernel) rfl⟩
theorem qf_Writing_83 : pmFd "PortableFiles$Writing" 83 6 2 := ⟨_, rfl, by decide, pmW_tb (i := 173) (by decide +kernel) rfl⟩
theorem qf_Writing_98 : pmFd "PortableFiles$Writing" 98 3 5 := ⟨_, rfl, by decide, pmW_tb (i := 105) (by decide +kernel) rfl⟩
theorem qf_Writing_101 : pmFd "PortableFiles$Writing" 101 3 6 := ⟨_, rfl, by decide, pmW_tb (i := 111) (by decide +kernel) rfl⟩
theorem qf_Writing_104 : pmFd "PortableFiles$Writing" 104 3 7 := ⟨_, rfl, by decide, pmW_tb (i := 118) (by decide +kernel) rfl⟩
theorem qf_Writing_124 : pmFd "PortableFiles$Writing" 124 2 1 := ⟨_, rfl, by decide, pmW_tb (i := 48) (by decide +kernel) rfl⟩
theorem qf_Writing_146 : pmFd "PortableFiles$Writing" 146 1 3 := ⟨_, rfl, by decide, pmW_tb (i := 77) (by decide +kernel) rfl⟩
theorem qc_Writing_73 : Jvm.Cond.constant "PortableFiles$Writing" (73) (1229278788) ∈ pmW := pmW_tb (i := 909) (by decide +kernel) rfl
theorem qc_Writing_97 : Jvm.Cond.constant "PortableFiles$Writing" (97) (1229472850) ∈ pmW := pmW_tb (i := 828) (by decide +kernel) rfl
theorem qc_Writing_116 : Jvm.Cond.constant "PortableFiles$Writing" (116) (1732332865) ∈ pmW := pmW_tb (i := 856) (by decide +kernel) rfl
theorem qc_Writing_121 : Jvm.Cond.constant "PortableFiles$Writing" (121) (1934772034) ∈ pmW := pmW_tb (i := 858) (by decide +kernel) rfl
theorem qc_Writing_122 : Jvm.Cond.constant "PortableFiles$Writing" (122) (1883789683) ∈ pmW := pmW_tb (i := 859) (by decide +kernel) rfl
theorem qc_Writing_123 : Jvm.Cond.constant "PortableFiles$Writing" (123) (1347179589) ∈ pmW := pmW_tb (i := 864) (by decide +kernel) rfl
theorem qc_Writing_134 : Jvm.Cond.constant "PortableFiles$Writing" (134) (1951551059) ∈ pmW := pmW_tb (i := 878) (by decide +kernel) rfl
theorem qc_Writing_144 : Jvm.Cond.constant "PortableFiles$Writing" (144) (1229209940) ∈ pmW := pmW_tb (i := 893) (by decide +kernel) rfl
theorem qn_Writing_7 : Jvm.Cond.classLink "PortableFiles$Writing" (7) "PortableFiles$Bytes" ∈ pmW := pmW_tb (i := 155) (by decide +kernel) rfl
theorem qm_Writing_11 : Jvm.Cond.methodLink "PortableFiles$Writing" (11) ⟨"PortableFiles$Bytes", "<init>", "(I)V"⟩ ∈ pmW := pmW_tb (i := 157) (by decide +kernel) rfl
theorem qm_Writing_23 : Jvm.Cond.methodLink "PortableFiles$Writing" (23) ⟨"PortableFiles$Bytes", "clear", "()V"⟩ ∈ pmW := pmW_tb (i := 818) (by decide +kernel) rfl
theorem qm_Writing_26 : Jvm.Cond.methodLink "PortableFiles$Writing" (26) ⟨"PortableFiles$Bytes", "addBeginning", "()V"⟩ ∈ pmW := pmW_tb (i := 819) (by decide +kernel) rfl
theorem qm_Writing_29 : Jvm.Cond.methodLink "PortableFiles$Writing" (29) ⟨"PortableFiles$Writing", "addHead", "(LPortableFiles$Picture;)V"⟩ ∈ pmW := pmW_tb (i := 824) (by decide +kernel) rfl
theorem qm_Writing_39 : Jvm.Cond.methodLink "PortableFiles$Writing" (39) ⟨"PortableFiles$Writing", "addTags", "(LPortableFiles$Tags;)V"⟩ ∈ pmW := pmW_tb (i := 851) (by decide +kernel) rfl
theorem qm_Writing_53 : Jvm.Cond.methodLink "PortableFiles$Writing" (53) ⟨"PortableFiles$Writing", "addPalette", "(LPortableFiles$Palette;)V"⟩ ∈ pmW := pmW_tb (i := 860) (by decide +kernel) rfl
theorem qm_Writing_57 : Jvm.Cond.methodLink "PortableFiles$Writing" (57) ⟨"PortableFiles$Writing", "addAlphas", "(LPortableFiles$Palette;)V"⟩ ∈ pmW := pmW_tb (i := 869) (by decide +kernel) rfl
theorem qm_Writing_60 : Jvm.Cond.methodLink "PortableFiles$Writing" (60) ⟨"PortableFiles$Writing", "addRows", "(LPortableFiles$Picture;)V"⟩ ∈ pmW := pmW_tb (i := 879) (by decide +kernel) rfl
theorem qm_Writing_67 : Jvm.Cond.methodLink "PortableFiles$Writing" (67) ⟨"PortableFiles$Writing", "addExtras", "(LPortableFiles$Extras;)V"⟩ ∈ pmW := pmW_tb (i := 895) (by decide +kernel) rfl
theorem qm_Writing_74 : Jvm.Cond.methodLink "PortableFiles$Writing" (74) ⟨"PortableFiles$Writing", "open", "(I)V"⟩ ∈ pmW := pmW_tb (i := 829) (by decide +kernel) rfl
theorem qm_Writing_77 : Jvm.Cond.methodLink "PortableFiles$Writing" (77) ⟨"PortableFiles$Writing", "close", "()V"⟩ ∈ pmW := pmW_tb (i := 838) (by decide +kernel) rfl
theorem qm_Writing_86 : Jvm.Cond.methodLink "PortableFiles$Writing" (86) ⟨"PortableFiles$Bytes", "addNumber", "(I)V"⟩ ∈ pmW := pmW_tb (i := 833) (by decide +kernel) rfl
theorem qm_Writing_89 : Jvm.Cond.methodLink "PortableFiles$Writing" (89) ⟨"PortableFiles$Bytes", "setNumber", "(II)V"⟩ ∈ pmW := pmW_tb (i := 842) (by decide +kernel) rfl
theorem qm_Writing_93 : Jvm.Cond.methodLink "PortableFiles$Writing" (93) ⟨"PortableFiles$Bytes", "rightSum", "(II)I"⟩ ∈ pmW := pmW_tb (i := 850) (by decide +kernel) rfl
theorem qm_Writing_107 : Jvm.Cond.methodLink "PortableFiles$Writing" (107) ⟨"PortableFiles$Bytes", "add", "(I)V"⟩ ∈ pmW := pmW_tb (i := 837) (by decide +kernel) rfl
theorem qm_Writing_112 : Jvm.Cond.methodLink "PortableFiles$Writing" (112) ⟨"PortableFiles$Tags", "has", "(I)Z"⟩ ∈ pmW := pmW_tb (i := 855) (by decide +kernel) rfl
theorem qm_Writing_117 : Jvm.Cond.methodLink "PortableFiles$Writing" (117) ⟨"PortableFiles$Tags", "value", "(I)I"⟩ ∈ pmW := pmW_tb (i := 857) (by decide +kernel) rfl
theorem qm_Writing_127 : Jvm.Cond.methodLink "PortableFiles$Writing" (127) ⟨"PortableFiles$Palette", "part", "(II)I"⟩ ∈ pmW := pmW_tb (i := 865) (by decide +kernel) rfl
theorem qm_Writing_130 : Jvm.Cond.methodLink "PortableFiles$Writing" (130) ⟨"PortableFiles$Palette", "alphasToTell", "()I"⟩ ∈ pmW := pmW_tb (i := 873) (by decide +kernel) rfl
theorem qm_Writing_135 : Jvm.Cond.methodLink "PortableFiles$Writing" (135) ⟨"PortableFiles$Rows", "pack", "(LPortableFiles$Picture;LPortableFiles$Bytes;)V"⟩ ∈ pmW := pmW_tb (i := 883) (by decide +kernel) rfl
theorem qm_Writing_139 : Jvm.Cond.methodLink "PortableFiles$Writing" (139) ⟨"java/lang/Math", "min", "(II)I"⟩ ∈ pmW := pmW_tb (i := 892) (by decide +kernel) rfl
theorem qm_Writing_145 : Jvm.Cond.methodLink "PortableFiles$Writing" (145) ⟨"PortableFiles$Bytes", "value", "(I)I"⟩ ∈ pmW := pmW_tb (i := 894) (by decide +kernel) rfl
theorem qm_Writing_149 : Jvm.Cond.methodLink "PortableFiles$Writing" (149) ⟨"PortableFiles$Extras", "lettersOf", "(I)I"⟩ ∈ pmW := pmW_tb (i := 899) (by decide +kernel) rfl
theorem qm_Writing_152 : Jvm.Cond.methodLink "PortableFiles$Writing" (152) ⟨"PortableFiles$Extras", "lengthOf", "(I)I"⟩ ∈ pmW := pmW_tb (i := 903) (by decide +kernel) rfl
theorem qm_Writing_155 : Jvm.Cond.methodLink "PortableFiles$Writing" (155) ⟨"PortableFiles$Extras", "value", "(II)I"⟩ ∈ pmW := pmW_tb (i := 904) (by decide +kernel) rfl
theorem qo_Writing_1 : Jvm.Cond.methodLink "PortableFiles$Writing" (1) ⟨"java/lang/Object", "<init>", "()V"⟩ ∈ pmW := pmW_tb (i := 154) (by decide +kernel) rfl
theorem qf_PF_10 : pmFd "PortableFiles" 10 7 0 := ⟨_, rfl, by decide, pmW_tb (i := 247) (by decide +kernel) rfl⟩
theorem qf_PF_19 : pmFd "PortableFiles" 19 7 1 := ⟨_, rfl, by decide, pmW_tb (i := 248) (by decide +kernel) rfl⟩
theorem qf_PF_26 : pmFd "PortableFiles" 26 7 2 := ⟨_, rfl, by decide, pmW_tb (i := 249) (by decide +kernel) rfl⟩
theorem qf_PF_47 : pmFd "PortableFiles" 47 3 4 := ⟨_, rfl, by decide, pmW_tb (i := 103) (by decide +kernel) rfl⟩
theorem qf_PF_51 : pmFd "PortableFiles" 51 3 8 := ⟨_, rfl, by decide, pmW_tb (i := 123) (by decide +kernel) rfl⟩
theorem qf_PF_66 : pmFd "PortableFiles" 66 3 0 := ⟨_, rfl, by decide, pmW_tb (i := 90) (by decide +kernel) rfl⟩
theorem qf_PF_70 : pmFd "PortableFiles" 70 2 1 := ⟨_, rfl, by decide, pmW_tb (i := 46) (by decide +kernel) rfl⟩
theorem qf_PF_75 : pmFd "PortableFiles" 75 3 7 := ⟨_, rfl, by decide, pmW_tb (i := 116) (by decide +kernel) rfl⟩
theorem qf_PF_129 : pmFd "PortableFiles" 129 3 1 := ⟨_, rfl, by decide, pmW_tb (i := 95) (by decide +kernel) rfl⟩
theorem qf_PF_147 : pmFd "PortableFiles" 147 3 2 := ⟨_, rfl, by decide, pmW_tb (i := 99) (by decide +kernel) rfl⟩
theorem qf_PF_162 : pmFd "PortableFiles" 162 1 3 := ⟨_, rfl, by decide, pmW_tb (i := 76) (by decide +kernel) rfl⟩
theorem qf_PF_189 : pmFd "PortableFiles" 189 6 0 := ⟨_, rfl, by decide, pmW_tb (i := 171) (by decide +kernel) rfl⟩
theorem qf_PF_193 : pmFd "PortableFiles" 193 0 1 := ⟨_, rfl, by decide, pmW_tb (i := 164) (by decide +kernel) rfl⟩
theorem qf_PF_203 : pmFd "PortableFiles" 203 4 0 := ⟨_, rfl, by decide, pmW_tb (i := 192) (by decide +kernel) rfl⟩
theorem qf_PF_224 : pmFd "PortableFiles" 224 4 3 := ⟨_, rfl, by decide, pmW_tb (i := 197) (by decide +kernel) rfl⟩
theorem qf_PF_227 : pmFd "PortableFiles" 227 4 6 := ⟨_, rfl, by decide, pmW_tb (i := 203) (by decide +kernel) rfl⟩
theorem qf_PF_230 : pmFd "PortableFiles" 230 4 5 := ⟨_, rfl, by decide, pmW_tb (i := 201) (by decide +kernel) rfl⟩
theorem qf_PF_236 : pmFd "PortableFiles" 236 4 1 := ⟨_, rfl, by decide, pmW_tb (i := 194) (by decide +kernel) rfl⟩
theorem qf_PF_239 : pmFd "PortableFiles" 239 3 5 := ⟨_, rfl, by decide, pmW_tb (i := 108) (by decide +kernel) rfl⟩
theorem qf_PF_242 : pmFd "PortableFiles" 242 3 6 := ⟨_, rfl, by decide, pmW_tb (i := 113) (by decide +kernel) rfl⟩
theorem qf_PF_245 : pmFd "PortableFiles" 245 4 7 := ⟨_, rfl, by decide, pmW_tb (i := 205) (by decide +kernel) rfl⟩
theorem qf_PF_268 : pmFd "PortableFiles" 268 4 4 := ⟨_, rfl, by decide, pmW_tb (i := 199) (by decide +kernel) rfl⟩
theorem qn_PF_7 : Jvm.Cond.classLink "PortableFiles" (7) "PortableFiles$Picture" ∈ pmW := pmW_tb (i := 32) (by decide +kernel) rfl
theorem qn_PF_16 : Jvm.Cond.classLink "PortableFiles" (16) "PortableFiles$Writing" ∈ pmW := pmW_tb (i := 149) (by decide +kernel) rfl
theorem qn_PF_23 : Jvm.Cond.classLink "PortableFiles" (23) "PortableFiles$Reading" ∈ pmW := pmW_tb (i := 181) (by decide +kernel) rfl
theorem qx_PF_36 : Jvm.Cond.classLink "PortableFiles" (36) "java/lang/IllegalArgumentException" ∈ pmW := pmW_tb (i := 539) (by decide +kernel) rfl
theorem qx_PF_55 : Jvm.Cond.classLink "PortableFiles" (55) "java/lang/IllegalStateException" ∈ pmW := pmW_tb (i := 618) (by decide +kernel) rfl
theorem qx_PF_82 : Jvm.Cond.classLink "PortableFiles" (82) "java/lang/UnsupportedOperationException" ∈ pmW := pmW_tb (i := 639) (by decide +kernel) rfl
theorem qx_PF_100 : Jvm.Cond.classLink "PortableFiles" (100) "java/lang/IndexOutOfBoundsException" ∈ pmW := pmW_tb (i := 688) (by decide +kernel) rfl
theorem qi_PF_40 : Jvm.Cond.methodLink "PortableFiles" (40) ⟨"java/lang/IllegalArgumentException", "<init>", "(Ljava/lang/String;)V"⟩ ∈ pmW := pmW_tb (i := 582) (by decide +kernel) rfl
theorem qi_PF_59 : Jvm.Cond.methodLink "PortableFiles" (59) ⟨"java/lang/IllegalStateException", "<init>", "(Ljava/lang/String;)V"⟩ ∈ pmW := pmW_tb (i := 628) (by decide +kernel) rfl
theorem qi_PF_86 : Jvm.Cond.methodLink "PortableFiles" (86) ⟨"java/lang/UnsupportedOperationException", "<init>", "(Ljava/lang/String;)V"⟩ ∈ pmW := pmW_tb (i := 649) (by decide +kernel) rfl
theorem qi_PF_104 : Jvm.Cond.methodLink "PortableFiles" (104) ⟨"java/lang/IndexOutOfBoundsException", "<init>", "(Ljava/lang/String;)V"⟩ ∈ pmW := pmW_tb (i := 698) (by decide +kernel) rfl
theorem qN_PF_9 : Jvm.Cond.methodLinkNest "PortableFiles" (9) ⟨"PortableFiles$Picture", "<init>", "()V"⟩ "PortableFiles" ∈ pmNest := by simp [pmNest]
theorem qN_PF_18 : Jvm.Cond.methodLinkNest "PortableFiles" (18) ⟨"PortableFiles$Writing", "<init>", "()V"⟩ "PortableFiles" ∈ pmNest := by simp [pmNest]
theorem qN_PF_25 : Jvm.Cond.methodLinkNest "PortableFiles" (25) ⟨"PortableFiles$Reading", "<init>", "()V"⟩ "PortableFiles" ∈ pmNest := by simp [pmNest]
theorem qm_PF_30 : Jvm.Cond.methodLink "PortableFiles" (30) ⟨"PortableFiles$Shape", "mayBe", "(IIII)Z"⟩ ∈ pmW := pmW_tb (i := 538) (by decide +kernel) rfl
theorem qm_PF_43 : Jvm.Cond.methodLink "PortableFiles" (43) ⟨"PortableFiles$Picture", "begin", "(IIII)V"⟩ ∈ pmW := pmW_tb (i := 608) (by decide +kernel) rfl
theorem qm_PF_60 : Jvm.Cond.methodLink "PortableFiles" (60) ⟨"PortableFiles", "isByte", "(I)Z"⟩ ∈ pmW := pmW_tb (i := 634) (by decide +kernel) rfl
theorem qm_PF_78 : Jvm.Cond.methodLink "PortableFiles" (78) ⟨"PortableFiles$Palette", "most", "(I)I"⟩ ∈ pmW := pmW_tb (i := 638) (by decide +kernel) rfl
theorem qm_PF_87 : Jvm.Cond.methodLink "PortableFiles" (87) ⟨"PortableFiles$Palette", "add", "(IIII)V"⟩ ∈ pmW := pmW_tb (i := 655) (by decide +kernel) rfl
theorem qm_PF_90 : Jvm.Cond.methodLink "PortableFiles" (90) ⟨"PortableFiles$Picture", "hasChanged", "()V"⟩ ∈ pmW := pmW_tb (i := 656) (by decide +kernel) rfl
theorem qm_PF_93 : Jvm.Cond.methodLink "PortableFiles" (93) ⟨"PortableFiles", "needPicture", "()V"⟩ ∈ pmW := pmW_tb (i := 682) (by decide +kernel) rfl
theorem qm_PF_96 : Jvm.Cond.methodLink "PortableFiles" (96) ⟨"PortableFiles$Picture", "has", "(III)Z"⟩ ∈ pmW := pmW_tb (i := 687) (by decide +kernel) rfl
theorem qm_PF_105 : Jvm.Cond.methodLink "PortableFiles" (105) ⟨"PortableFiles$Picture", "sampleMayBe", "(I)Z"⟩ ∈ pmW := pmW_tb (i := 704) (by decide +kernel) rfl
theorem qm_PF_110 : Jvm.Cond.methodLink "PortableFiles" (110) ⟨"PortableFiles$Picture", "sample", "(III)I"⟩ ∈ pmW := pmW_tb (i := 706) (by decide +kernel) rfl
theorem qm_PF_114 : Jvm.Cond.methodLink "PortableFiles" (114) ⟨"PortableFiles$Picture", "setSample", "(IIII)V"⟩ ∈ pmW := pmW_tb (i := 710) (by decide +kernel) rfl
theorem qm_PF_117 : Jvm.Cond.methodLink "PortableFiles" (117) ⟨"PortableFiles$Tags", "isTag", "(I)Z"⟩ ∈ pmW := pmW_tb (i := 718) (by decide +kernel) rfl
theorem qm_PF_124 : Jvm.Cond.methodLink "PortableFiles" (124) ⟨"PortableFiles$Tags", "mayBe", "(II)Z"⟩ ∈ pmW := pmW_tb (i := 720) (by decide +kernel) rfl
theorem qm_PF_133 : Jvm.Cond.methodLink "PortableFiles" (133) ⟨"PortableFiles$Tags", "value", "(I)I"⟩ ∈ pmW := pmW_tb (i := 722) (by decide +kernel) rfl
theorem qm_PF_136 : Jvm.Cond.methodLink "PortableFiles" (136) ⟨"PortableFiles$Tags", "set", "(II)V"⟩ ∈ pmW := pmW_tb (i := 723) (by decide +kernel) rfl
theorem qm_PF_140 : Jvm.Cond.methodLink "PortableFiles" (140) ⟨"PortableFiles$Letters", "areOfExtra", "(I)Z"⟩ ∈ pmW := pmW_tb (i := 731) (by decide +kernel) rfl
theorem qm_PF_151 : Jvm.Cond.methodLink "PortableFiles" (151) ⟨"PortableFiles$Extras", "isFull", "()Z"⟩ ∈ pmW := pmW_tb (i := 741) (by decide +kernel) rfl
theorem qm_PF_159 : Jvm.Cond.methodLink "PortableFiles" (159) ⟨"PortableFiles$Extras", "add", "(I)V"⟩ ∈ pmW := pmW_tb (i := 743) (by decide +kernel) rfl
theorem qm_PF_163 : Jvm.Cond.methodLink "PortableFiles" (163) ⟨"PortableFiles$Extras", "has", "(I)Z"⟩ ∈ pmW := pmW_tb (i := 751) (by decide +kernel) rfl
theorem qm_PF_167 : Jvm.Cond.methodLink "PortableFiles" (167) ⟨"PortableFiles", "needByte", "(I)V"⟩ ∈ pmW := pmW_tb (i := 753) (by decide +kernel) rfl
theorem qm_PF_170 : Jvm.Cond.methodLink "PortableFiles" (170) ⟨"PortableFiles$Extras", "lengthOf", "(I)I"⟩ ∈ pmW := pmW_tb (i := 757) (by decide +kernel) rfl
theorem qm_PF_175 : Jvm.Cond.methodLink "PortableFiles" (175) ⟨"PortableFiles$Extras", "addByte", "(II)V"⟩ ∈ pmW := pmW_tb (i := 762) (by decide +kernel) rfl
theorem qm_PF_178 : Jvm.Cond.methodLink "PortableFiles" (178) ⟨"PortableFiles$Lessening", "lessen", "(LPortableFiles$Picture;)V"⟩ ∈ pmW := pmW_tb (i := 770) (by decide +kernel) rfl
theorem qm_PF_186 : Jvm.Cond.methodLink "PortableFiles" (186) ⟨"PortableFiles$Writing", "run", "(LPortableFiles$Picture;)V"⟩ ∈ pmW := pmW_tb (i := 814) (by decide +kernel) rfl
theorem qm_PF_196 : Jvm.Cond.methodLink "PortableFiles" (196) ⟨"PortableFiles", "needWritten", "(I)V"⟩ ∈ pmW := pmW_tb (i := 917) (by decide +kernel) rfl
theorem qm_PF_199 : Jvm.Cond.methodLink "PortableFiles" (199) ⟨"PortableFiles$Bytes", "value", "(I)I"⟩ ∈ pmW := pmW_tb (i := 923) (by decide +kernel) rfl
theorem qm_PF_200 : Jvm.Cond.methodLink "PortableFiles" (200) ⟨"PortableFiles", "needRoom", "(I)V"⟩ ∈ pmW := pmW_tb (i := 931) (by decide +kernel) rfl
theorem qm_PF_206 : Jvm.Cond.methodLink "PortableFiles" (206) ⟨"PortableFiles$Bytes", "add", "(I)V"⟩ ∈ pmW := pmW_tb (i := 936) (by decide +kernel) rfl
theorem qm_PF_209 : Jvm.Cond.methodLink "PortableFiles" (209) ⟨"java/lang/Math", "min", "(II)I"⟩ ∈ pmW := pmW_tb (i := 945) (by decide +kernel) rfl
theorem qm_PF_215 : Jvm.Cond.methodLink "PortableFiles" (215) ⟨"PortableFiles$Bytes", "has", "(I)Z"⟩ ∈ pmW := pmW_tb (i := 921) (by decide +kernel) rfl
theorem qm_PF_218 : Jvm.Cond.methodLink "PortableFiles" (218) ⟨"PortableFiles$Bytes", "set", "(II)V"⟩ ∈ pmW := pmW_tb (i := 954) (by decide +kernel) rfl
theorem qm_PF_219 : Jvm.Cond.methodLink "PortableFiles" (219) ⟨"PortableFiles$Bytes", "mendSum", "(I)V"⟩ ∈ pmW := pmW_tb (i := 955) (by decide +kernel) rfl
theorem qm_PF_222 : Jvm.Cond.methodLink "PortableFiles" (222) ⟨"PortableFiles$Reading", "run", "()V"⟩ ∈ pmW := pmW_tb (i := 261) (by decide +kernel) rfl
theorem qm_PF_233 : Jvm.Cond.methodLink "PortableFiles" (233) ⟨"PortableFiles", "needReading", "()V"⟩ ∈ pmW := pmW_tb (i := 969) (by decide +kernel) rfl
theorem qm_PF_248 : Jvm.Cond.methodLink "PortableFiles" (248) ⟨"PortableFiles$Palette", "has", "(I)Z"⟩ ∈ pmW := pmW_tb (i := 989) (by decide +kernel) rfl
theorem qm_PF_253 : Jvm.Cond.methodLink "PortableFiles" (253) ⟨"PortableFiles$Palette", "part", "(II)I"⟩ ∈ pmW := pmW_tb (i := 992) (by decide +kernel) rfl
theorem qm_PF_260 : Jvm.Cond.methodLink "PortableFiles" (260) ⟨"PortableFiles$Extras", "lettersOf", "(I)I"⟩ ∈ pmW := pmW_tb (i := 1002) (by decide +kernel) rfl
theorem qm_PF_263 : Jvm.Cond.methodLink "PortableFiles" (263) ⟨"PortableFiles$Extras", "value", "(II)I"⟩ ∈ pmW := pmW_tb (i := 1003) (by decide +kernel) rfl
theorem qm_PF_265 : Jvm.Cond.methodLink "PortableFiles" (265) ⟨"PortableFiles$Picture", "copyFrom", "(LPortableFiles$Picture;)V"⟩ ∈ pmW := pmW_tb (i := 1011) (by decide +kernel) rfl
theorem qm_PF_271 : Jvm.Cond.methodLink "PortableFiles" (271) ⟨"PortableFiles$Bytes", "clear", "()V"⟩ ∈ pmW := pmW_tb (i := 529) (by decide +kernel) rfl
theorem qo_PF_1 : Jvm.Cond.methodLink "PortableFiles" (1) ⟨"java/lang/Object", "<init>", "()V"⟩ ∈ pmW := pmW_tb (i := 29) (by decide +kernel) rfl
theorem qt_PF_38 : (38, "no picture may have these sizes, bits or kind") ∈ pmStr := List.mem_of_getElem? (i := 0) rfl
theorem qt_PF_57 : (57, "there is no picture with a palette") ∈ pmStr := List.mem_of_getElem? (i := 1) rfl
theorem qt_PF_64 : (64, "a part of a colour is 0 .. 255") ∈ pmStr := List.mem_of_getElem? (i := 2) rfl
theorem qt_PF_84 : (84, "the palette is full") ∈ pmStr := List.mem_of_getElem? (i := 3) rfl
theorem qt_PF_102 : (102, "the picture has no such sample") ∈ pmStr := List.mem_of_getElem? (i := 4) rfl
theorem qt_PF_108 : (108, "a sample has no such number") ∈ pmStr := List.mem_of_getElem? (i := 5) rfl
theorem qt_PF_122 : (122, "there is no such tag") ∈ pmStr := List.mem_of_getElem? (i := 6) rfl
theorem qt_PF_127 : (127, "this tag has no such number") ∈ pmStr := List.mem_of_getElem? (i := 7) rfl
theorem qt_PF_145 : (145, "an extra may not have these letters") ∈ pmStr := List.mem_of_getElem? (i := 8) rfl
theorem qt_PF_157 : (157, "there are as many extras as may be") ∈ pmStr := List.mem_of_getElem? (i := 9) rfl
theorem qt_PF_165 : (165, "the picture has no such extra") ∈ pmStr := List.mem_of_getElem? (i := 10) rfl
theorem qt_PF_173 : (173, "the extra has as many bytes as may be") ∈ pmStr := List.mem_of_getElem? (i := 11) rfl
theorem qt_PF_184 : (184, "the palette has no entry") ∈ pmStr := List.mem_of_getElem? (i := 12) rfl
theorem qt_PF_207 : (207, "fewer bytes than none") ∈ pmStr := List.mem_of_getElem? (i := 13) rfl
theorem qt_PF_216 : (216, "no such byte was fed") ∈ pmStr := List.mem_of_getElem? (i := 14) rfl
theorem qt_PF_237 : (237, "what was read has no such sample") ∈ pmStr := List.mem_of_getElem? (i := 15) rfl
theorem qt_PF_249 : (249, "what was read has no such entry") ∈ pmStr := List.mem_of_getElem? (i := 16) rfl
theorem qt_PF_251 : (251, "an entry has no such part") ∈ pmStr := List.mem_of_getElem? (i := 17) rfl
theorem qt_PF_256 : (256, "what was read has no such extra") ∈ pmStr := List.mem_of_getElem? (i := 18) rfl
theorem qt_PF_258 : (258, "the extra has no such byte") ∈ pmStr := List.mem_of_getElem? (i := 19) rfl
theorem qt_PF_274 : (274, "there is no picture") ∈ pmStr := List.mem_of_getElem? (i := 20) rfl
theorem qt_PF_276 : (276, "nothing was read") ∈ pmStr := List.mem_of_getElem? (i := 21) rfl
theorem qt_PF_278 : (278, "no such byte was written") ∈ pmStr := List.mem_of_getElem? (i := 22) rfl
theorem qt_PF_280 : (280, "no more bytes can be fed") ∈ pmStr := List.mem_of_getElem? (i := 23) rfl
theorem qt_PF_282 : (282, "a byte is 0 .. 255") ∈ pmStr := List.mem_of_getElem? (i := 24) rfl
theorem qf_Ref_7 : pmFd "PortableFilesModel" 7 8 6 := ⟨_, rfl, by decide, pmW_tb (i := 1042) (by decide +kernel) rfl⟩
theorem qf_Ref_13 : pmFd "PortableFilesModel" 13 8 8 := ⟨_, rfl, by decide, pmW_tb (i := 1044) (by decide +kernel) rfl⟩
theorem qf_Ref_16 : pmFd "PortableFilesModel" 16 8 9 := ⟨_, rfl, by decide, pmW_tb (i := 1045) (by decide +kernel) rfl⟩
theorem qf_Ref_19 : pmFd "PortableFilesModel" 19 8 11 := ⟨_, rfl, by decide, pmW_tb (i := 1047) (by decide +kernel) rfl⟩
theorem qf_Ref_22 : pmFd "PortableFilesModel" 22 8 12 := ⟨_, rfl, by decide, pmW_tb (i := 1048) (by decide +kernel) rfl⟩
theorem qf_Ref_25 : pmFd "PortableFilesModel" 25 8 13 := ⟨_, rfl, by decide, pmW_tb (i := 1049) (by decide +kernel) rfl⟩
theorem qf_Ref_28 : pmFd "PortableFilesModel" 28 8 19 := ⟨_, rfl, by decide, pmW_tb (i := 1055) (by decide +kernel) rfl⟩
theorem qf_Ref_31 : pmFd "PortableFilesModel" 31 8 21 := ⟨_, rfl, by decide, pmW_tb (i := 1057) (by decide +kernel) rfl⟩
theorem qf_Ref_34 : pmFd "PortableFilesModel" 34 8 22 := ⟨_, rfl, by decide, pmW_tb (i := 1058) (by decide +kernel) rfl⟩
theorem qf_Ref_37 : pmFd "PortableFilesModel" 37 8 24 := ⟨_, rfl, by decide, pmW_tb (i := 1060) (by decide +kernel) rfl⟩
theorem qf_Ref_40 : pmFd "PortableFilesModel" 40 8 25 := ⟨_, rfl, by decide, pmW_tb (i := 1061) (by decide +kernel) rfl⟩
theorem qf_Ref_43 : pmFd "PortableFilesModel" 43 8 26 := ⟨_, rfl, by decide, pmW_tb (i := 1062) (by decide +kernel) rfl⟩
theorem qf_Ref_46 : pmFd "PortableFilesModel" 46 8 29 := ⟨_, rfl, by decide, pmW_tb (i := 1065) (by decide +kernel) rfl⟩
theorem qf_Ref_49 : pmFd "PortableFilesModel" 49 8 31 := ⟨_, rfl, by decide, pmW_tb (i := 1067) (by decide +kernel) rfl⟩
theorem qf_Ref_52 : pmFd "PortableFilesModel" 52 8 34 := ⟨_, rfl, by decide, pmW_tb (i := 1070) (by decide +kernel) rfl⟩
theorem qf_Ref_55 : pmFd "PortableFilesModel" 55 8 41 := ⟨_, rfl, by decide, pmW_tb (i := 1077) (by decide +kernel) rfl⟩
theorem qf_Ref_59 : pmFd "PortableFilesModel" 59 8 0 := ⟨_, rfl, by decide, pmW_tb (i := 1036) (by decide +kernel) rfl⟩
theorem qf_Ref_67 : pmFd "PortableFilesModel" 67 8 1 := ⟨_, rfl, by decide, pmW_tb (i := 1037) (by decide +kernel) rfl⟩
theorem qf_Ref_71 : pmFd "PortableFilesModel" 71 8 2 := ⟨_, rfl, by decide, pmW_tb (i := 1038) (by decide +kernel) rfl⟩
theorem qf_Ref_74 : pmFd "PortableFilesModel" 74 8 3 := ⟨_, rfl, by decide, pmW_tb (i := 1039) (by decide +kernel) rfl⟩
theorem qf_Ref_77 : pmFd "PortableFilesModel" 77 8 4 := ⟨_, rfl, by decide, pmW_tb (i := 1040) (by decide +kernel) rfl⟩
theorem qf_Ref_80 : pmFd "PortableFilesModel" 80 8 5 := ⟨_, rfl, by decide, pmW_tb (i := 1041) (by decide +kernel) rfl⟩
theorem qf_Ref_83 : pmFd "PortableFilesModel" 83 8 7 := ⟨_, rfl, by decide, pmW_tb (i := 1043) (by decide +kernel) rfl⟩
theorem qf_Ref_86 : pmFd "PortableFilesModel" 86 8 10 := ⟨_, rfl, by decide, pmW_tb (i := 1046) (by decide +kernel) rfl⟩
theorem qf_Ref_147 : pmFd "PortableFilesModel" 147 8 30 := ⟨_, rfl, by decide, pmW_tb (i := 1066) (by decide +kernel) rfl⟩
theorem qf_Ref_196 : pmFd "PortableFilesModel" 196 8 32 := ⟨_, rfl, by decide, pmW_tb (i := 1068) (by decide +kernel) rfl⟩
theorem qf_Ref_206 : pmFd "PortableFilesModel" 206 8 28 := ⟨_, rfl, by decide, pmW_tb (i := 1064) (by decide +kernel) rfl⟩
theorem qf_Ref_209 : pmFd "PortableFilesModel" 209 8 33 := ⟨_, rfl, by decide, pmW_tb (i := 1069) (by decide +kernel) rfl⟩
theorem qf_Ref_212 : pmFd "PortableFilesModel" 212 8 36 := ⟨_, rfl, by decide, pmW_tb (i := 1072) (by decide +kernel) rfl⟩
theorem qf_Ref_218 : pmFd "PortableFilesModel" 218 8 39 := ⟨_, rfl, by decide, pmW_tb (i := 1075) (by decide +kernel) rfl⟩
theorem qf_Ref_221 : pmFd "PortableFilesModel" 221 8 37 := ⟨_, rfl, by decide, pmW_tb (i := 1073) (by decide +kernel) rfl⟩
theorem qf_Ref_224 : pmFd "PortableFilesModel" 224 8 18 := ⟨_, rfl, by decide, pmW_tb (i := 1054) (by decide +kernel) rfl⟩
theorem qf_Ref_227 : pmFd "PortableFilesModel" 227 8 38 := ⟨_, rfl, by decide, pmW_tb (i := 1074) (by decide +kernel) rfl⟩
theorem qf_Ref_230 : pmFd "PortableFilesModel" 230 8 40 := ⟨_, rfl, by decide, pmW_tb (i := 1076) (by decide +kernel) rfl⟩
theorem qf_Ref_233 : pmFd "PortableFilesModel" 233 8 15 := ⟨_, rfl, by decide, pmW_tb (i := 1051) (by decide +kernel) rfl⟩
theorem qf_Ref_236 : pmFd "PortableFilesModel" 236 8 16 := ⟨_, rfl, by decide, pmW_tb (i := 1052) (by decide +kernel) rfl⟩
theorem qf_Ref_239 : pmFd "PortableFilesModel" 239 8 17 := ⟨_, rfl, by decide, pmW_tb (i := 1053) (by decide +kernel) rfl⟩
theorem qf_Ref_242 : pmFd "PortableFilesModel" 242 8 20 := ⟨_, rfl, by decide, pmW_tb (i := 1056) (by decide +kernel) rfl⟩
theorem qf_Ref_245 : pmFd "PortableFilesModel" 245 8 35 := ⟨_, rfl, by decide, pmW_tb (i := 1071) (by decide +kernel) rfl⟩
theorem qf_Ref_248 : pmFd "PortableFilesModel" 248 8 23 := ⟨_, rfl, by decide, pmW_tb (i := 1059) (by decide +kernel) rfl⟩
theorem qf_Ref_274 : pmFd "PortableFilesModel" 274 8 14 := ⟨_, rfl, by decide, pmW_tb (i := 1050) (by decide +kernel) rfl⟩
theorem qf_Ref_277 : pmFd "PortableFilesModel" 277 8 27 := ⟨_, rfl, by decide, pmW_tb (i := 1063) (by decide +kernel) rfl⟩
theorem qc_Ref_124 : Jvm.Cond.constant "PortableFilesModel" (124) (1732332865) ∈ pmW := pmW_tb (i := 1224) (by decide +kernel) rfl
theorem qc_Ref_125 : Jvm.Cond.constant "PortableFilesModel" (125) (1934772034) ∈ pmW := pmW_tb (i := 1225) (by decide +kernel) rfl
theorem qc_Ref_126 : Jvm.Cond.constant "PortableFilesModel" (126) (1883789683) ∈ pmW := pmW_tb (i := 1226) (by decide +kernel) rfl
theorem qc_Ref_127 : Jvm.Cond.constant "PortableFilesModel" (127) (1951551059) ∈ pmW := pmW_tb (i := 1227) (by decide +kernel) rfl
theorem qc_Ref_173 : Jvm.Cond.constant "PortableFilesModel" (173) (1347179589) ∈ pmW := pmW_tb (i := 1293) (by decide +kernel) rfl
theorem qc_Ref_178 : Jvm.Cond.constant "PortableFilesModel" (178) (1229209940) ∈ pmW := pmW_tb (i := 1301) (by decide +kernel) rfl
theorem qc_Ref_185 : Jvm.Cond.constant "PortableFilesModel" (185) (1229472850) ∈ pmW := pmW_tb (i := 1266) (by decide +kernel) rfl
theorem qc_Ref_195 : Jvm.Cond.constant "PortableFilesModel" (195) (1229278788) ∈ pmW := pmW_tb (i := 1306) (by decide +kernel) rfl
theorem qj_Ref_103 : Jvm.Cond.constantLong "PortableFilesModel" (103) (3) ∈ pmW := pmW_tb (i := 1203) (by decide +kernel) rfl
theorem qj_Ref_105 : Jvm.Cond.constantLong "PortableFilesModel" (105) (2147483647) ∈ pmW := pmW_tb (i := 1204) (by decide +kernel) rfl
theorem qj_Ref_154 : Jvm.Cond.constantLong "PortableFilesModel" (154) (4294967295) ∈ pmW := pmW_tb (i := 1282) (by decide +kernel) rfl
theorem qj_Ref_156 : Jvm.Cond.constantLong "PortableFilesModel" (156) (2) ∈ pmW := pmW_tb (i := 1283) (by decide +kernel) rfl
theorem qj_Ref_158 : Jvm.Cond.constantLong "PortableFilesModel" (158) (3988292384) ∈ pmW := pmW_tb (i := 1284) (by decide +kernel) rfl
theorem qm_Ref_63 : Jvm.Cond.methodLink "PortableFilesModel" (63) ⟨"PortableFilesModel", "isGood", "(IIII)Z"⟩ ∈ pmW := pmW_tb (i := 1172) (by decide +kernel) rfl
theorem qm_Ref_89 : Jvm.Cond.methodLink "PortableFilesModel" (89) ⟨"PortableFilesModel", "isByte", "(I)Z"⟩ ∈ pmW := pmW_tb (i := 1179) (by decide +kernel) rfl
theorem qm_Ref_93 : Jvm.Cond.methodLink "PortableFilesModel" (93) ⟨"PortableFilesModel", "mostEntries", "(I)I"⟩ ∈ pmW := pmW_tb (i := 1182) (by decide +kernel) rfl
theorem qm_Ref_97 : Jvm.Cond.methodLink "PortableFilesModel" (97) ⟨"PortableFilesModel", "change", "()V"⟩ ∈ pmW := pmW_tb (i := 1185) (by decide +kernel) rfl
theorem qm_Ref_100 : Jvm.Cond.methodLink "PortableFilesModel" (100) ⟨"PortableFilesModel", "channelsOf", "(I)I"⟩ ∈ pmW := pmW_tb (i := 1193) (by decide +kernel) rfl
theorem qm_Ref_107 : Jvm.Cond.methodLink "PortableFilesModel" (107) ⟨"PortableFilesModel", "mayBe", "(IJ)Z"⟩ ∈ pmW := pmW_tb (i := 1200) (by decide +kernel) rfl
theorem qm_Ref_111 : Jvm.Cond.methodLink "PortableFilesModel" (111) ⟨"PortableFilesModel", "letter", "(II)I"⟩ ∈ pmW := pmW_tb (i := 1215) (by decide +kernel) rfl
theorem qm_Ref_115 : Jvm.Cond.methodLink "PortableFilesModel" (115) ⟨"PortableFilesModel", "isGreat", "(I)Z"⟩ ∈ pmW := pmW_tb (i := 1218) (by decide +kernel) rfl
theorem qm_Ref_118 : Jvm.Cond.methodLink "PortableFilesModel" (118) ⟨"PortableFilesModel", "isSmall", "(I)Z"⟩ ∈ pmW := pmW_tb (i := 1221) (by decide +kernel) rfl
theorem qm_Ref_121 : Jvm.Cond.methodLink "PortableFilesModel" (121) ⟨"PortableFilesModel", "areLetters", "(I)Z"⟩ ∈ pmW := pmW_tb (i := 1212) (by decide +kernel) rfl
theorem qm_Ref_128 : Jvm.Cond.methodLink "PortableFilesModel" (128) ⟨"PortableFilesModel", "isOfOthers", "(I)Z"⟩ ∈ pmW := pmW_tb (i := 1209) (by decide +kernel) rfl
theorem qm_Ref_131 : Jvm.Cond.methodLink "PortableFilesModel" (131) ⟨"PortableFilesModel", "greatest", "(I)I"⟩ ∈ pmW := pmW_tb (i := 1252) (by decide +kernel) rfl
theorem qm_Ref_134 : Jvm.Cond.methodLink "PortableFilesModel" (134) ⟨"PortableFilesModel", "isFull", "(I)Z"⟩ ∈ pmW := pmW_tb (i := 1240) (by decide +kernel) rfl
theorem qm_Ref_137 : Jvm.Cond.methodLink "PortableFilesModel" (137) ⟨"PortableFilesModel", "isGrey", "()Z"⟩ ∈ pmW := pmW_tb (i := 1244) (by decide +kernel) rfl
theorem qm_Ref_141 : Jvm.Cond.methodLink "PortableFilesModel" (141) ⟨"PortableFilesModel", "fits", "(I)Z"⟩ ∈ pmW := pmW_tb (i := 1248) (by decide +kernel) rfl
theorem qm_Ref_144 : Jvm.Cond.methodLink "PortableFilesModel" (144) ⟨"PortableFilesModel", "lessen", "()V"⟩ ∈ pmW := pmW_tb (i := 1236) (by decide +kernel) rfl
theorem qm_Ref_150 : Jvm.Cond.methodLink "PortableFilesModel" (150) ⟨"PortableFilesModel", "tell", "(I)V"⟩ ∈ pmW := pmW_tb (i := 1262) (by decide +kernel) rfl
theorem qm_Ref_160 : Jvm.Cond.methodLink "PortableFilesModel" (160) ⟨"PortableFilesModel", "sumOf", "([III)I"⟩ ∈ pmW := pmW_tb (i := 1279) (by decide +kernel) rfl
theorem qm_Ref_164 : Jvm.Cond.methodLink "PortableFilesModel" (164) ⟨"PortableFilesModel", "tellNumber", "(I)V"⟩ ∈ pmW := pmW_tb (i := 1271) (by decide +kernel) rfl
theorem qm_Ref_167 : Jvm.Cond.methodLink "PortableFilesModel" (167) ⟨"PortableFilesModel", "open", "(I)I"⟩ ∈ pmW := pmW_tb (i := 1267) (by decide +kernel) rfl
theorem qm_Ref_170 : Jvm.Cond.methodLink "PortableFilesModel" (170) ⟨"PortableFilesModel", "close", "(I)V"⟩ ∈ pmW := pmW_tb (i := 1275) (by decide +kernel) rfl
theorem qm_Ref_174 : Jvm.Cond.methodLink "PortableFilesModel" (174) ⟨"PortableFilesModel", "bytesInRow", "(III)I"⟩ ∈ pmW := pmW_tb (i := 1298) (by decide +kernel) rfl
theorem qm_Ref_179 : Jvm.Cond.methodLink "PortableFilesModel" (179) ⟨"PortableFilesModel", "rowByte", "(I)I"⟩ ∈ pmW := pmW_tb (i := 1302) (by decide +kernel) rfl
theorem qm_Ref_182 : Jvm.Cond.methodLink "PortableFilesModel" (182) ⟨"PortableFilesModel", "mark", "(I)I"⟩ ∈ pmW := pmW_tb (i := 1259) (by decide +kernel) rfl
theorem qm_Ref_186 : Jvm.Cond.methodLink "PortableFilesModel" (186) ⟨"PortableFilesModel", "writeTags", "()V"⟩ ∈ pmW := pmW_tb (i := 1285) (by decide +kernel) rfl
theorem qm_Ref_189 : Jvm.Cond.methodLink "PortableFilesModel" (189) ⟨"PortableFilesModel", "writePalette", "()V"⟩ ∈ pmW := pmW_tb (i := 1289) (by decide +kernel) rfl
theorem qm_Ref_192 : Jvm.Cond.methodLink "PortableFilesModel" (192) ⟨"PortableFilesModel", "writeRows", "()V"⟩ ∈ pmW := pmW_tb (i := 1294) (by decide +kernel) rfl
theorem qm_Ref_199 : Jvm.Cond.methodLink "PortableFilesModel" (199) ⟨"PortableFilesModel", "four", "([II)I"⟩ ∈ pmW := pmW_tb (i := 1327) (by decide +kernel) rfl
theorem qm_Ref_203 : Jvm.Cond.methodLink "PortableFilesModel" (203) ⟨"PortableFilesModel", "endOf", "(I)I"⟩ ∈ pmW := pmW_tb (i := 1323) (by decide +kernel) rfl
theorem qm_Ref_215 : Jvm.Cond.methodLink "PortableFilesModel" (215) ⟨"PortableFilesModel", "tagOf", "(I)I"⟩ ∈ pmW := pmW_tb (i := 1350) (by decide +kernel) rfl
theorem qm_Ref_251 : Jvm.Cond.methodLink "PortableFilesModel" (251) ⟨"PortableFilesModel", "takeHead", "(II)Z"⟩ ∈ pmW := pmW_tb (i := 1357) (by decide +kernel) rfl
theorem qm_Ref_255 : Jvm.Cond.methodLink "PortableFilesModel" (255) ⟨"PortableFilesModel", "takePalette", "(II)Z"⟩ ∈ pmW := pmW_tb (i := 1361) (by decide +kernel) rfl
theorem qm_Ref_258 : Jvm.Cond.methodLink "PortableFilesModel" (258) ⟨"PortableFilesModel", "takeAlphas", "(II)Z"⟩ ∈ pmW := pmW_tb (i := 1365) (by decide +kernel) rfl
theorem qm_Ref_261 : Jvm.Cond.methodLink "PortableFilesModel" (261) ⟨"PortableFilesModel", "takeRows", "(II)Z"⟩ ∈ pmW := pmW_tb (i := 1369) (by decide +kernel) rfl
theorem qm_Ref_264 : Jvm.Cond.methodLink "PortableFilesModel" (264) ⟨"PortableFilesModel", "takeExtra", "(III)Z"⟩ ∈ pmW := pmW_tb (i := 1373) (by decide +kernel) rfl
theorem qm_Ref_268 : Jvm.Cond.methodLink "PortableFilesModel" (268) ⟨"PortableFilesModel", "takeTag", "(III)Z"⟩ ∈ pmW := pmW_tb (i := 1377) (by decide +kernel) rfl
theorem qm_Ref_271 : Jvm.Cond.methodLink "PortableFilesModel" (271) ⟨"PortableFilesModel", "rowBits", "(II)I"⟩ ∈ pmW := pmW_tb (i := 1385) (by decide +kernel) rfl
theorem qm_Ref_280 : Jvm.Cond.methodLink "PortableFilesModel" (280) ⟨"PortableFilesModel", "breakBy", "(ZII)V"⟩ ∈ pmW := pmW_tb (i := 1338) (by decide +kernel) rfl
theorem qm_Ref_284 : Jvm.Cond.methodLink "PortableFilesModel" (284) ⟨"PortableFilesModel", "isOutOfOrder", "(I)Z"⟩ ∈ pmW := pmW_tb (i := 1346) (by decide +kernel) rfl
theorem qm_Ref_287 : Jvm.Cond.methodLink "PortableFilesModel" (287) ⟨"PortableFilesModel", "takes", "(III)Z"⟩ ∈ pmW := pmW_tb (i := 1353) (by decide +kernel) rfl
theorem qm_Ref_290 : Jvm.Cond.methodLink "PortableFilesModel" (290) ⟨"PortableFilesModel", "unpack", "()Z"⟩ ∈ pmW := pmW_tb (i := 1381) (by decide +kernel) rfl
theorem qm_Ref_293 : Jvm.Cond.methodLink "PortableFilesModel" (293) ⟨"PortableFilesModel", "begin", "()V"⟩ ∈ pmW := pmW_tb (i := 1334) (by decide +kernel) rfl
theorem qm_Ref_296 : Jvm.Cond.methodLink "PortableFilesModel" (296) ⟨"PortableFilesModel", "chunk", "(I)I"⟩ ∈ pmW := pmW_tb (i := 1342) (by decide +kernel) rfl
theorem qo_Ref_1 : Jvm.Cond.methodLink "PortableFilesModel" (1) ⟨"java/lang/Object", "<init>", "()V"⟩ ∈ pmW := pmW_tb (i := 1035) (by decide +kernel) rfl
theorem qm_Shape_7 : Jvm.Cond.methodLink "PortableFiles$Shape" (7) ⟨"PortableFiles$Shape", "sideMayBe", "(I)Z"⟩ ∈ pmW := pmW_tb (i := 382) (by decide +kernel) rfl
theorem qm_Shape_13 : Jvm.Cond.methodLink "PortableFiles$Shape" (13) ⟨"PortableFiles$Shape", "bitsMayBe", "(II)Z"⟩ ∈ pmW := pmW_tb (i := 385) (by decide +kernel) rfl
theorem qc_Letters_26 : Jvm.Cond.constant "PortableFiles$Letters" (26) (1732332865) ∈ pmW := pmW_tb (i := 736) (by decide +kernel) rfl
theorem qc_Letters_27 : Jvm.Cond.constant "PortableFiles$Letters" (27) (1934772034) ∈ pmW := pmW_tb (i := 737) (by decide +kernel) rfl
theorem qc_Letters_28 : Jvm.Cond.constant "PortableFiles$Letters" (28) (1883789683) ∈ pmW := pmW_tb (i := 738) (by decide +kernel) rfl
theorem qc_Letters_29 : Jvm.Cond.constant "PortableFiles$Letters" (29) (1951551059) ∈ pmW := pmW_tb (i := 739) (by decide +kernel) rfl
theorem qm_Letters_7 : Jvm.Cond.methodLink "PortableFiles$Letters" (7) ⟨"PortableFiles$Letters", "letter", "(II)I"⟩ ∈ pmW := pmW_tb (i := 309) (by decide +kernel) rfl
theorem qm_Letters_13 : Jvm.Cond.methodLink "PortableFiles$Letters" (13) ⟨"PortableFiles$Letters", "isLetter", "(I)Z"⟩ ∈ pmW := pmW_tb (i := 312) (by decide +kernel) rfl
theorem qm_Letters_17 : Jvm.Cond.methodLink "PortableFiles$Letters" (17) ⟨"PortableFiles$Letters", "isGreat", "(I)Z"⟩ ∈ pmW := pmW_tb (i := 315) (by decide +kernel) rfl
theorem qm_Letters_20 : Jvm.Cond.methodLink "PortableFiles$Letters" (20) ⟨"PortableFiles$Letters", "mayBe", "(I)Z"⟩ ∈ pmW := pmW_tb (i := 734) (by decide +kernel) rfl
theorem qm_Letters_23 : Jvm.Cond.methodLink "PortableFiles$Letters" (23) ⟨"PortableFiles$Letters", "firstIsGreat", "(I)Z"⟩ ∈ pmW := pmW_tb (i := 735) (by decide +kernel) rfl
theorem qf_Rows_15 : pmFd "PortableFiles$Rows" 15 3 6 := ⟨_, rfl, by decide, pmW_tb (i := 110) (by decide +kernel) rfl⟩
theorem qf_Rows_46 : pmFd "PortableFiles$Rows" 46 3 5 := ⟨_, rfl, by decide, pmW_tb (i := 106) (by decide +kernel) rfl⟩
theorem qf_Rows_49 : pmFd "PortableFiles$Rows" 49 3 9 := ⟨_, rfl, by decide, pmW_tb (i := 126) (by decide +kernel) rfl⟩
theorem qf_Rows_52 : pmFd "PortableFiles$Rows" 52 3 7 := ⟨_, rfl, by decide, pmW_tb (i := 117) (by decide +kernel) rfl⟩
theorem qm_Rows_9 : Jvm.Cond.methodLink "PortableFiles$Rows" (9) ⟨"PortableFiles$Rows", "rowLength", "(LPortableFiles$Picture;)I"⟩ ∈ pmW := pmW_tb (i := 487) (by decide +kernel) rfl
theorem qm_Rows_21 : Jvm.Cond.methodLink "PortableFiles$Rows" (21) ⟨"PortableFiles$Bytes", "clear", "()V"⟩ ∈ pmW := pmW_tb (i := 886) (by decide +kernel) rfl
theorem qm_Rows_26 : Jvm.Cond.methodLink "PortableFiles$Rows" (26) ⟨"PortableFiles$Bytes", "add", "(I)V"⟩ ∈ pmW := pmW_tb (i := 887) (by decide +kernel) rfl
theorem qm_Rows_30 : Jvm.Cond.methodLink "PortableFiles$Rows" (30) ⟨"PortableFiles$Rows", "packRow", "(LPortableFiles$Picture;ILPortableFiles$Bytes;)V"⟩ ∈ pmW := pmW_tb (i := 888) (by decide +kernel) rfl
theorem qm_Rows_34 : Jvm.Cond.methodLink "PortableFiles$Rows" (34) ⟨"PortableFiles$Bytes", "value", "(I)I"⟩ ∈ pmW := pmW_tb (i := 496) (by decide +kernel) rfl
theorem qm_Rows_38 : Jvm.Cond.methodLink "PortableFiles$Rows" (38) ⟨"PortableFiles$Rows", "isFilledWithNought", "(ILPortableFiles$Picture;)Z"⟩ ∈ pmW := pmW_tb (i := 497) (by decide +kernel) rfl
theorem qm_Rows_42 : Jvm.Cond.methodLink "PortableFiles$Rows" (42) ⟨"PortableFiles$Rows", "unpackRow", "(LPortableFiles$Bytes;ILPortableFiles$Picture;I)Z"⟩ ∈ pmW := pmW_tb (i := 501) (by decide +kernel) rfl
theorem qm_Rows_55 : Jvm.Cond.methodLink "PortableFiles$Rows" (55) ⟨"PortableFiles$Picture", "sample", "(III)I"⟩ ∈ pmW := pmW_tb (i := 891) (by decide +kernel) rfl
theorem qm_Rows_59 : Jvm.Cond.methodLink "PortableFiles$Rows" (59) ⟨"PortableFiles$Shape", "greatest", "(I)I"⟩ ∈ pmW := pmW_tb (i := 500) (by decide +kernel) rfl
theorem qm_Rows_62 : Jvm.Cond.methodLink "PortableFiles$Rows" (62) ⟨"PortableFiles$Picture", "sampleMayBe", "(I)Z"⟩ ∈ pmW := pmW_tb (i := 504) (by decide +kernel) rfl
theorem qm_Rows_66 : Jvm.Cond.methodLink "PortableFiles$Rows" (66) ⟨"PortableFiles$Picture", "setSample", "(IIII)V"⟩ ∈ pmW := pmW_tb (i := 510) (by decide +kernel) rfl
theorem qm_Rows_70 : Jvm.Cond.methodLink "PortableFiles$Rows" (70) ⟨"PortableFiles$Rows", "rowBits", "(LPortableFiles$Picture;)I"⟩ ∈ pmW := pmW_tb (i := 490) (by decide +kernel) rfl
theorem qf_Less_7 : pmFd "PortableFiles$Lessening" 7 3 8 := ⟨_, rfl, by decide, pmW_tb (i := 121) (by decide +kernel) rfl⟩
theorem qf_Less_13 : pmFd "PortableFiles$Lessening" 13 3 7 := ⟨_, rfl, by decide, pmW_tb (i := 115) (by decide +kernel) rfl⟩
theorem qf_Less_59 : pmFd "PortableFiles$Lessening" 59 3 0 := ⟨_, rfl, by decide, pmW_tb (i := 91) (by decide +kernel) rfl⟩
theorem qf_Less_63 : pmFd "PortableFiles$Lessening" 63 2 1 := ⟨_, rfl, by decide, pmW_tb (i := 47) (by decide +kernel) rfl⟩
theorem qf_Less_71 : pmFd "PortableFiles$Lessening" 71 3 9 := ⟨_, rfl, by decide, pmW_tb (i := 127) (by decide +kernel) rfl⟩
theorem qf_Less_74 : pmFd "PortableFiles$Lessening" 74 3 6 := ⟨_, rfl, by decide, pmW_tb (i := 112) (by decide +kernel) rfl⟩
theorem qf_Less_77 : pmFd "PortableFiles$Lessening" 77 3 5 := ⟨_, rfl, by decide, pmW_tb (i := 107) (by decide +kernel) rfl⟩
theorem qm_Less_16 : Jvm.Cond.methodLink "PortableFiles$Lessening" (16) ⟨"PortableFiles$Lessening", "lessenAlpha", "(LPortableFiles$Picture;)V"⟩ ∈ pmW := pmW_tb (i := 773) (by decide +kernel) rfl
theorem qm_Less_22 : Jvm.Cond.methodLink "PortableFiles$Lessening" (22) ⟨"PortableFiles$Lessening", "lessenColours", "(LPortableFiles$Picture;)V"⟩ ∈ pmW := pmW_tb (i := 784) (by decide +kernel) rfl
theorem qm_Less_25 : Jvm.Cond.methodLink "PortableFiles$Lessening" (25) ⟨"PortableFiles$Lessening", "lessenGreyBits", "(LPortableFiles$Picture;)V"⟩ ∈ pmW := pmW_tb (i := 790) (by decide +kernel) rfl
theorem qm_Less_30 : Jvm.Cond.methodLink "PortableFiles$Lessening" (30) ⟨"PortableFiles$Lessening", "lessenPaletteBits", "(LPortableFiles$Picture;)V"⟩ ∈ pmW := pmW_tb (i := 801) (by decide +kernel) rfl
theorem qm_Less_33 : Jvm.Cond.methodLink "PortableFiles$Lessening" (33) ⟨"PortableFiles$Picture", "hasChanged", "()V"⟩ ∈ pmW := pmW_tb (i := 805) (by decide +kernel) rfl
theorem qm_Less_36 : Jvm.Cond.methodLink "PortableFiles$Lessening" (36) ⟨"PortableFiles$Lessening", "isOpaque", "(LPortableFiles$Picture;)Z"⟩ ∈ pmW := pmW_tb (i := 776) (by decide +kernel) rfl
theorem qm_Less_40 : Jvm.Cond.methodLink "PortableFiles$Lessening" (40) ⟨"PortableFiles$Picture", "become", "(II)V"⟩ ∈ pmW := pmW_tb (i := 780) (by decide +kernel) rfl
theorem qm_Less_44 : Jvm.Cond.methodLink "PortableFiles$Lessening" (44) ⟨"PortableFiles$Lessening", "isGreyEverywhere", "(LPortableFiles$Picture;)Z"⟩ ∈ pmW := pmW_tb (i := 787) (by decide +kernel) rfl
theorem qm_Less_47 : Jvm.Cond.methodLink "PortableFiles$Lessening" (47) ⟨"PortableFiles$Shape", "greatest", "(I)I"⟩ ∈ pmW := pmW_tb (i := 793) (by decide +kernel) rfl
theorem qm_Less_51 : Jvm.Cond.methodLink "PortableFiles$Lessening" (51) ⟨"PortableFiles$Lessening", "allAreTimes", "(LPortableFiles$Picture;I)Z"⟩ ∈ pmW := pmW_tb (i := 794) (by decide +kernel) rfl
theorem qm_Less_55 : Jvm.Cond.methodLink "PortableFiles$Lessening" (55) ⟨"PortableFiles$Lessening", "divideAll", "(LPortableFiles$Picture;I)V"⟩ ∈ pmW := pmW_tb (i := 797) (by decide +kernel) rfl
theorem qm_Less_68 : Jvm.Cond.methodLink "PortableFiles$Lessening" (68) ⟨"PortableFiles$Palette", "most", "(I)I"⟩ ∈ pmW := pmW_tb (i := 804) (by decide +kernel) rfl
theorem qm_Less_80 : Jvm.Cond.methodLink "PortableFiles$Lessening" (80) ⟨"PortableFiles$Picture", "sample", "(III)I"⟩ ∈ pmW := pmW_tb (i := 779) (by decide +kernel) rfl
theorem qm_Less_84 : Jvm.Cond.methodLink "PortableFiles$Lessening" (84) ⟨"PortableFiles$Picture", "setSample", "(IIII)V"⟩ ∈ pmW := pmW_tb (i := 800) (by decide +kernel) rfl
theorem qn_Law_8 : Jvm.Cond.classLink "PortableFilesLaw" (8) "PortableFiles" ∈ pmW := pmW_tb (i := 24) (by decide +kernel) rfl
theorem qn_Law_76 : Jvm.Cond.classLink "PortableFilesLaw" (76) "PortableFilesModel" ∈ pmW := pmW_tb (i := 1030) (by decide +kernel) rfl
theorem qm_Law_7 : Jvm.Cond.methodLink "PortableFilesLaw" (7) ⟨"PortableFiles", "head", "(IIII)V"⟩ ∈ pmW := pmW_tb (i := 534) (by decide +kernel) rfl
theorem qm_Law_15 : Jvm.Cond.methodLink "PortableFilesLaw" (15) ⟨"PortableFiles", "colour", "(IIII)I"⟩ ∈ pmW := pmW_tb (i := 614) (by decide +kernel) rfl
theorem qm_Law_23 : Jvm.Cond.methodLink "PortableFilesLaw" (23) ⟨"PortableFiles", "put", "(IIII)I"⟩ ∈ pmW := pmW_tb (i := 678) (by decide +kernel) rfl
theorem qm_Law_28 : Jvm.Cond.methodLink "PortableFilesLaw" (28) ⟨"PortableFiles", "tag", "(II)I"⟩ ∈ pmW := pmW_tb (i := 714) (by decide +kernel) rfl
theorem qm_Law_32 : Jvm.Cond.methodLink "PortableFilesLaw" (32) ⟨"PortableFiles", "extra", "(I)I"⟩ ∈ pmW := pmW_tb (i := 727) (by decide +kernel) rfl
theorem qm_Law_36 : Jvm.Cond.methodLink "PortableFilesLaw" (36) ⟨"PortableFiles", "byteOf", "(II)I"⟩ ∈ pmW := pmW_tb (i := 747) (by decide +kernel) rfl
theorem qm_Law_39 : Jvm.Cond.methodLink "PortableFilesLaw" (39) ⟨"PortableFiles", "reduce", "()I"⟩ ∈ pmW := pmW_tb (i := 766) (by decide +kernel) rfl
theorem qm_Law_43 : Jvm.Cond.methodLink "PortableFilesLaw" (43) ⟨"PortableFiles", "write", "()I"⟩ ∈ pmW := pmW_tb (i := 809) (by decide +kernel) rfl
theorem qm_Law_46 : Jvm.Cond.methodLink "PortableFilesLaw" (46) ⟨"PortableFiles", "byteAt", "(I)I"⟩ ∈ pmW := pmW_tb (i := 913) (by decide +kernel) rfl
theorem qm_Law_49 : Jvm.Cond.methodLink "PortableFilesLaw" (49) ⟨"PortableFiles", "feed", "(I)I"⟩ ∈ pmW := pmW_tb (i := 927) (by decide +kernel) rfl
theorem qm_Law_52 : Jvm.Cond.methodLink "PortableFilesLaw" (52) ⟨"PortableFiles", "pass", "(II)I"⟩ ∈ pmW := pmW_tb (i := 940) (by decide +kernel) rfl
theorem qm_Law_55 : Jvm.Cond.methodLink "PortableFilesLaw" (55) ⟨"PortableFiles", "alter", "(IIZ)I"⟩ ∈ pmW := pmW_tb (i := 949) (by decide +kernel) rfl
theorem qm_Law_59 : Jvm.Cond.methodLink "PortableFilesLaw" (59) ⟨"PortableFiles", "at", "(III)I"⟩ ∈ pmW := pmW_tb (i := 965) (by decide +kernel) rfl
theorem qm_Law_63 : Jvm.Cond.methodLink "PortableFilesLaw" (63) ⟨"PortableFiles", "found", "(I)I"⟩ ∈ pmW := pmW_tb (i := 978) (by decide +kernel) rfl
theorem qm_Law_66 : Jvm.Cond.methodLink "PortableFilesLaw" (66) ⟨"PortableFiles", "entry", "(II)I"⟩ ∈ pmW := pmW_tb (i := 985) (by decide +kernel) rfl
theorem qm_Law_69 : Jvm.Cond.methodLink "PortableFilesLaw" (69) ⟨"PortableFiles", "unknown", "(II)I"⟩ ∈ pmW := pmW_tb (i := 996) (by decide +kernel) rfl
theorem qm_Law_72 : Jvm.Cond.methodLink "PortableFilesLaw" (72) ⟨"PortableFiles", "take", "()V"⟩ ∈ pmW := pmW_tb (i := 1007) (by decide +kernel) rfl
theorem qm_Law_75 : Jvm.Cond.methodLink "PortableFilesLaw" (75) ⟨"PortableFiles", "<init>", "()V"⟩ ∈ pmW := pmW_tb (i := 26) (by decide +kernel) rfl
theorem qm_Law_78 : Jvm.Cond.methodLink "PortableFilesLaw" (78) ⟨"PortableFilesModel", "<init>", "()V"⟩ ∈ pmW := pmW_tb (i := 1032) (by decide +kernel) rfl
theorem qm_Law_79 : Jvm.Cond.methodLink "PortableFilesLaw" (79) ⟨"PortableFilesLaw", "head", "(LPortableFiles;IIII)I"⟩ ∈ pmW := pmW_tb (i := 530) (by decide +kernel) rfl
theorem qm_Law_84 : Jvm.Cond.methodLink "PortableFilesLaw" (84) ⟨"PortableFilesModel", "head", "(IIII)V"⟩ ∈ pmW := pmW_tb (i := 1168) (by decide +kernel) rfl
theorem qm_Law_85 : Jvm.Cond.methodLink "PortableFilesLaw" (85) ⟨"PortableFilesModel", "thrown", "()I"⟩ ∈ pmW := pmW_tb (i := 1164) (by decide +kernel) rfl
theorem qm_Law_88 : Jvm.Cond.methodLink "PortableFilesLaw" (88) ⟨"PortableFilesLaw", "colour", "(LPortableFiles;IIII[J)I"⟩ ∈ pmW := pmW_tb (i := 609) (by decide +kernel) rfl
theorem qm_Law_91 : Jvm.Cond.methodLink "PortableFilesLaw" (91) ⟨"PortableFilesModel", "colour", "(IIII)I"⟩ ∈ pmW := pmW_tb (i := 1175) (by decide +kernel) rfl
theorem qm_Law_92 : Jvm.Cond.methodLink "PortableFilesLaw" (92) ⟨"PortableFilesLaw", "put", "(LPortableFiles;IIII[J)I"⟩ ∈ pmW := pmW_tb (i := 674) (by decide +kernel) rfl
theorem qm_Law_94 : Jvm.Cond.methodLink "PortableFilesLaw" (94) ⟨"PortableFilesModel", "put", "(IIII)I"⟩ ∈ pmW := pmW_tb (i := 1189) (by decide +kernel) rfl
theorem qm_Law_95 : Jvm.Cond.methodLink "PortableFilesLaw" (95) ⟨"PortableFilesLaw", "tag", "(LPortableFiles;II[J)I"⟩ ∈ pmW := pmW_tb (i := 711) (by decide +kernel) rfl
theorem qm_Law_98 : Jvm.Cond.methodLink "PortableFilesLaw" (98) ⟨"PortableFilesModel", "tag", "(II)I"⟩ ∈ pmW := pmW_tb (i := 1196) (by decide +kernel) rfl
theorem qm_Law_99 : Jvm.Cond.methodLink "PortableFilesLaw" (99) ⟨"PortableFilesLaw", "extra", "(LPortableFiles;I[J)I"⟩ ∈ pmW := pmW_tb (i := 724) (by decide +kernel) rfl
theorem qm_Law_102 : Jvm.Cond.methodLink "PortableFilesLaw" (102) ⟨"PortableFilesModel", "extra", "(I)I"⟩ ∈ pmW := pmW_tb (i := 1205) (by decide +kernel) rfl
theorem qm_Law_103 : Jvm.Cond.methodLink "PortableFilesLaw" (103) ⟨"PortableFilesLaw", "byteOf", "(LPortableFiles;II[J)I"⟩ ∈ pmW := pmW_tb (i := 744) (by decide +kernel) rfl
theorem qm_Law_105 : Jvm.Cond.methodLink "PortableFilesLaw" (105) ⟨"PortableFilesModel", "byteOf", "(II)I"⟩ ∈ pmW := pmW_tb (i := 1228) (by decide +kernel) rfl
theorem qm_Law_106 : Jvm.Cond.methodLink "PortableFilesLaw" (106) ⟨"PortableFilesLaw", "reduce", "(LPortableFiles;[J)I"⟩ ∈ pmW := pmW_tb (i := 763) (by decide +kernel) rfl
theorem qm_Law_109 : Jvm.Cond.methodLink "PortableFilesLaw" (109) ⟨"PortableFilesModel", "reduce", "()I"⟩ ∈ pmW := pmW_tb (i := 1232) (by decide +kernel) rfl
theorem qm_Law_110 : Jvm.Cond.methodLink "PortableFilesLaw" (110) ⟨"PortableFilesLaw", "write", "(LPortableFiles;[J)I"⟩ ∈ pmW := pmW_tb (i := 806) (by decide +kernel) rfl
theorem qm_Law_112 : Jvm.Cond.methodLink "PortableFilesLaw" (112) ⟨"PortableFilesModel", "write", "()I"⟩ ∈ pmW := pmW_tb (i := 1255) (by decide +kernel) rfl
theorem qm_Law_113 : Jvm.Cond.methodLink "PortableFilesLaw" (113) ⟨"PortableFilesLaw", "byteAt", "(LPortableFiles;I[J)I"⟩ ∈ pmW := pmW_tb (i := 910) (by decide +kernel) rfl
theorem qm_Law_115 : Jvm.Cond.methodLink "PortableFilesLaw" (115) ⟨"PortableFilesModel", "byteAt", "(I)I"⟩ ∈ pmW := pmW_tb (i := 1307) (by decide +kernel) rfl
theorem qm_Law_116 : Jvm.Cond.methodLink "PortableFilesLaw" (116) ⟨"PortableFilesLaw", "feed", "(LPortableFiles;I[J)I"⟩ ∈ pmW := pmW_tb (i := 924) (by decide +kernel) rfl
theorem qm_Law_118 : Jvm.Cond.methodLink "PortableFilesLaw" (118) ⟨"PortableFilesModel", "feed", "(I)I"⟩ ∈ pmW := pmW_tb (i := 1311) (by decide +kernel) rfl
theorem qm_Law_119 : Jvm.Cond.methodLink "PortableFilesLaw" (119) ⟨"PortableFilesLaw", "pass", "(LPortableFiles;II[J)I"⟩ ∈ pmW := pmW_tb (i := 937) (by decide +kernel) rfl
theorem qm_Law_121 : Jvm.Cond.methodLink "PortableFilesLaw" (121) ⟨"PortableFilesModel", "pass", "(II)I"⟩ ∈ pmW := pmW_tb (i := 1315) (by decide +kernel) rfl
theorem qm_Law_122 : Jvm.Cond.methodLink "PortableFilesLaw" (122) ⟨"PortableFilesLaw", "alter", "(LPortableFiles;IIZ[J)I"⟩ ∈ pmW := pmW_tb (i := 946) (by decide +kernel) rfl
theorem qm_Law_125 : Jvm.Cond.methodLink "PortableFilesLaw" (125) ⟨"PortableFilesModel", "alter", "(IIZ)I"⟩ ∈ pmW := pmW_tb (i := 1319) (by decide +kernel) rfl
theorem qm_Law_126 : Jvm.Cond.methodLink "PortableFilesLaw" (126) ⟨"PortableFiles", "read", "()I"⟩ ∈ pmW := pmW_tb (i := 257) (by decide +kernel) rfl
theorem qm_Law_129 : Jvm.Cond.methodLink "PortableFilesLaw" (129) ⟨"PortableFilesModel", "read", "()I"⟩ ∈ pmW := pmW_tb (i := 1330) (by decide +kernel) rfl
theorem qm_Law_130 : Jvm.Cond.methodLink "PortableFilesLaw" (130) ⟨"PortableFilesLaw", "at", "(LPortableFiles;III[J)I"⟩ ∈ pmW := pmW_tb (i := 962) (by decide +kernel) rfl
theorem qm_Law_133 : Jvm.Cond.methodLink "PortableFilesLaw" (133) ⟨"PortableFilesModel", "at", "(III)I"⟩ ∈ pmW := pmW_tb (i := 1389) (by decide +kernel) rfl
theorem qm_Law_134 : Jvm.Cond.methodLink "PortableFilesLaw" (134) ⟨"PortableFilesLaw", "found", "(LPortableFiles;I[J)I"⟩ ∈ pmW := pmW_tb (i := 975) (by decide +kernel) rfl
theorem qm_Law_136 : Jvm.Cond.methodLink "PortableFilesLaw" (136) ⟨"PortableFilesModel", "found", "(I)I"⟩ ∈ pmW := pmW_tb (i := 1393) (by decide +kernel) rfl
theorem qm_Law_137 : Jvm.Cond.methodLink "PortableFilesLaw" (137) ⟨"PortableFilesLaw", "entry", "(LPortableFiles;II[J)I"⟩ ∈ pmW := pmW_tb (i := 982) (by decide +kernel) rfl
theorem qm_Law_139 : Jvm.Cond.methodLink "PortableFilesLaw" (139) ⟨"PortableFilesModel", "entry", "(II)I"⟩ ∈ pmW := pmW_tb (i := 1397) (by decide +kernel) rfl
theorem qm_Law_140 : Jvm.Cond.methodLink "PortableFilesLaw" (140) ⟨"PortableFilesLaw", "unknown", "(LPortableFiles;II[J)I"⟩ ∈ pmW := pmW_tb (i := 993) (by decide +kernel) rfl
theorem qm_Law_142 : Jvm.Cond.methodLink "PortableFilesLaw" (142) ⟨"PortableFilesModel", "unknown", "(II)I"⟩ ∈ pmW := pmW_tb (i := 1401) (by decide +kernel) rfl
theorem qm_Law_143 : Jvm.Cond.methodLink "PortableFilesLaw" (143) ⟨"PortableFilesLaw", "take", "(LPortableFiles;)I"⟩ ∈ pmW := pmW_tb (i := 1004) (by decide +kernel) rfl
theorem qm_Law_146 : Jvm.Cond.methodLink "PortableFilesLaw" (146) ⟨"PortableFilesModel", "take", "()V"⟩ ∈ pmW := pmW_tb (i := 1405) (by decide +kernel) rfl
theorem qm_Law_147 : Jvm.Cond.methodLink "PortableFilesLaw" (147) ⟨"PortableFiles", "told", "(I)I"⟩ ∈ pmW := pmW_tb (i := 521) (by decide +kernel) rfl
theorem qm_Law_150 : Jvm.Cond.methodLink "PortableFilesLaw" (150) ⟨"PortableFilesModel", "told", "(I)I"⟩ ∈ pmW := pmW_tb (i := 1409) (by decide +kernel) rfl
theorem qm_Law_151 : Jvm.Cond.methodLink "PortableFilesLaw" (151) ⟨"PortableFiles", "drop", "()V"⟩ ∈ pmW := pmW_tb (i := 525) (by decide +kernel) rfl
theorem qm_Law_154 : Jvm.Cond.methodLink "PortableFilesLaw" (154) ⟨"PortableFilesModel", "drop", "()V"⟩ ∈ pmW := pmW_tb (i := 1413) (by decide +kernel) rfl
theorem qh_Law_13 : Jvm.Cond.classLink "PortableFilesLaw" (13) "java/lang/IllegalArgumentException" ∈ pmW := pmW_tb (i := 533) (by decide +kernel) rfl
theorem qh_Law_19 : Jvm.Cond.classLink "PortableFilesLaw" (19) "java/lang/IllegalStateException" ∈ pmW := pmW_tb (i := 612) (by decide +kernel) rfl
theorem qh_Law_21 : Jvm.Cond.classLink "PortableFilesLaw" (21) "java/lang/UnsupportedOperationException" ∈ pmW := pmW_tb (i := 613) (by decide +kernel) rfl
theorem qh_Law_26 : Jvm.Cond.classLink "PortableFilesLaw" (26) "java/lang/IndexOutOfBoundsException" ∈ pmW := pmW_tb (i := 677) (by decide +kernel) rfl
theorem qw_oi : Jvm.Cond.instanceMethod ⟨"java/lang/Object", "<init>", "()V"⟩ ∈ pmW := pmW_tb (i := 30) (by decide +kernel) rfl
theorem qw_an : Jvm.Cond.native ⟨"java/lang/System", "arraycopy", "(Ljava/lang/Object;ILjava/lang/Object;II)V"⟩ ∈ pmW := pmW_tb (i := 673) (by decide +kernel) rfl
theorem qw_as : Jvm.Cond.static ⟨"java/lang/System", "arraycopy", "(Ljava/lang/Object;ILjava/lang/Object;II)V"⟩ ∈ pmW := pmW_tb (i := 672) (by decide +kernel) rfl
theorem qw_ai : Jvm.Cond.initialized "java/lang/System" ∈ pmW := pmW_tb (i := 20) (by decide +kernel) rfl
theorem qw_I : Jvm.Cond.arrayClass Jvm.ClassFile.FieldType.int ∈ pmW := pmW_tb (i := 55) (by decide +kernel) rfl
theorem qw_J : Jvm.Cond.arrayClass Jvm.ClassFile.FieldType.long ∈ pmW := pmW_tb (i := 1417) (by decide +kernel) rfl
theorem qw_Z : Jvm.Cond.arrayClass Jvm.ClassFile.FieldType.boolean ∈ pmW := pmW_tb (i := 1163) (by decide +kernel) rfl
theorem qw_oc : Cond.code objectInit ⟨#[0xb1]⟩ 1 none ∈ pmW := pmW_tb (i := 31) (by decide +kernel) rfl
end
section
/-! ===== what is known of the tables and of the statics, at a state ===== -/
/-- the static field has its place in a cell of statics that is never written -/
def pmLy (C n d : String) (A : Nat → Prop) (U : State) (H : Heap) : Prop := ∃ (c : ClassId) (k : Class) (i : Nat) (f : Field) (a : Nat) (cell : Cell), U.vm.findClass C = some c ∧ U.fieldFound? C n d = some (c, k, i, f) ∧ f.isStatic = true ∧ k.statics = some a ∧ H[a]? = some cell ∧ cell.vm.isStatics = true ∧ cell.cls = c ∧ f.slot < cell.slots.size ∧ k.staticTypes[f.slot]? = some f.type ∧ ¬ A a
theorem pmLy.moved {C n d : String} {A : Nat → Prop} {u U : State} {H : Heap} (hvm : u.vm.Alike U.vm) (h : pmLy C n d A u H) : pmLy C n d A U H := by
  obtain ⟨c, k, i, f, a, cell, h0, h1, h2, h3, h4, h5, h6, h7, h8, h9⟩ := h
  obtain ⟨k', hi', he⟩ := State.fieldFound?_setVm hvm h1
  exact ⟨c, k', i, f, a, cell, by rw [hvm.findClass]; exact h0, hi', h2, by rw [he]; exact h3, h4, h5, h6, h7, by rw [he]; exact h8, h9⟩
theorem pmLy.kept {C n d : String} {A : Nat → Prop} {U : State} {H H1 : Heap} (h : pmLy C n d A U H) (hq : ∀ a : Nat, a < H.size → ¬ A a → H1[a]? = H[a]?) : pmLy C n d A U H1 := by
  obtain ⟨c, k, i, f, a, cell, h0, h1, h2, h3, h4, h5, h6, h7, h8, h9⟩ := h
  exact ⟨c, k, i, f, a, cell, h0, h1, h2, h3, by rw [hq a (Array.getElem?_eq_some_iff.mp h4).1 h9]; exact h4, h5, h6, h7, h8, h9⟩
theorem pmLy.use {C n d : String} {A : Nat → Prop} {s : State} {args : Array Value} (h : pmLy C n d A s s.heap) : (Cond.laysStatic C n d).before args s = true := by
  obtain ⟨c, k, i, f, a, cell, h0, h1, h2, h3, h4, h5, h6, h7, h8, h9⟩ := h
  simp [Cond.before, Cond.holds, Cond.value, h0, h1, h2, h3, h4, h5, h6, h7, h8]
theorem pmLy.of {C n d : String} {A : Nat → Prop} {s : State} {args : Array Value} (h : (Cond.laysStatic C n d).before args s = true) (hA : ∀ a : Nat, a < s.heap.size → ¬ A a) : pmLy C n d A s s.heap := by
  obtain ⟨c, k, i, f, a, cell, h0, h1, h2, h3, h4, h5, h6, h7, h8⟩ := Cond.laysStatic_spec h
  exact ⟨c, k, i, f, a, cell, h0, h1, h2, h3, h4, h5, h6, h7, h8, hA a (Array.getElem?_eq_some_iff.mp h4).1⟩
theorem pmDc.moved {u U : State} {x : MethodName} (hvm : u.vm.Alike U.vm) (h : va_Nw (.declares x) u) : va_Nw (.declares x) U := by
  have h1 : (Cond.declares x).before #[] (u.setVm U.vm) = true := by
    rw [Cond.declares_setVm hvm]
    exact h
  have e := Cond.onTables_vm (A := #[]) (A' := #[]) (U := u) (U' := U) U.vm (Cond.declares x) rfl
  have hU : U.setVm U.vm = U := rfl
  rw [hU] at e
  unfold va_Nw
  rw [← e]
  exact h1
def pmXd : List MethodName := [⟨"java/lang/RuntimeException", "<init>", "(Ljava/lang/String;)V"⟩, ⟨"java/lang/Exception", "<init>", "(Ljava/lang/String;)V"⟩, ⟨"java/lang/Throwable", "<init>", "(Ljava/lang/String;)V"⟩]
def pmKn (E : pmEv) (U : State) : Prop :=
  va_K E.2.2.1 pmCl (pmTs E) U ∧ E.2.1 ≤ U.heap.size ∧
  va_Z "PortableFiles$Bytes" "BEGINNING" "[I" (.ref (E.2.2.2.2 0)) (pmA0 E) U U.heap ∧ va_Z "PortableFiles$Bytes" "SUM_STEPS" "[I" (.ref (E.2.2.2.2 1)) (pmA0 E) U U.heap ∧
  va_Zq "java/lang/Throwable" "UNASSIGNED_STACK" "[Ljava/lang/StackTraceElement;" (pmA0 E) U U.heap ∧ va_Zq "java/lang/Throwable" "SUPPRESSED_SENTINEL" "Ljava/util/List;" (pmA0 E) U U.heap ∧
  (∀ w ∈ pmNest, va_Nw w U) ∧ (∀ x y : Nat, x < 4 → y < 4 → x ≠ y → va_Nc (pmXs.getD x "") (pmXs.getD y "") U) ∧ (∀ q ∈ pmStr, ∃ a : Nat, vk_R "PortableFiles" q.1 q.2 a U) ∧
  (pmLy "java/lang/Throwable" "UNASSIGNED_STACK" "[Ljava/lang/StackTraceElement;" (pmA0 E) U U.heap ∧ pmLy "java/lang/Throwable" "SUPPRESSED_SENTINEL" "Ljava/util/List;" (pmA0 E) U U.heap) ∧
  (∀ x ∈ pmXs, va_Nw (.castable x x) U) ∧ (∀ x ∈ pmXd, va_Nw (.declares x) U)
theorem pmNest_warm {s U : State} (hW : s.WarmedH U.vm) (h : ∀ w ∈ pmNest, va_Nw w s) : ∀ w ∈ pmNest, va_Nw w U := by
  intro w hw
  have h1 := h w hw
  simp only [pmNest, List.mem_cons, List.not_mem_nil, or_false] at hw
  rcases hw with rfl | rfl | rfl | rfl | rfl | rfl | rfl <;> exact va_Nw.warmM hW h1
theorem pmKn.go {E : pmEv} {s U : State} {H : Heap} {locs : List Loc} (h : pmKn E s) (hW : s.WarmedH U.vm) (hU : U.heap = H) (hS : va_S (pmA0 E) s.heap H locs) : pmKn E U := by
  obtain ⟨h1, h2, h3, h4, h5, h6, h7, h8, h9, ⟨h10, h11⟩, h12, h13⟩ := h
  have hq : ∀ a : Nat, a < s.heap.size → ¬ pmA0 E a → U.heap[a]? = s.heap[a]? := fun a q1 q2 => by rw [hU]; exact hS.2.1 a q1 q2
  exact ⟨va_K.moved hW.alike h1, Nat.le_trans h2 (by rw [hU]; exact hS.1), (va_Z.moved hW.alike h3).kept hq, (va_Z.moved hW.alike h4).kept hq, (va_Zq.moved hW.alike h5).kept hq, (va_Zq.moved hW.alike h6).kept hq, pmNest_warm hW h7, fun x y q1 q2 q3 => va_Nc.moved hW.alike (h8 x y q1 q2 q3), fun q hq => (h9 q hq).imp fun a ha => vk_R.warm hW ha, ⟨(pmLy.moved hW.alike h10).kept hq, (pmLy.moved hW.alike h11).kept hq⟩, fun x hx => va_Nw.warmC hW (h12 x hx), fun x hx => pmDc.moved hW.alike (h13 x hx)⟩
end
section
/-! ===== Go: a point of a method, for every heap that has the map ===== -/
/-- the locals -/
def pmLs (ls : Array Slot) (L : pmL) : Prop := ls.size = L.length ∧ lv_wf ls ∧ ∀ (i : Nat) (v : Value), L[i]? = some (some v) → ls[i]? = some (.val v)
def pmLv (L : pmL) : List (Nat × Value) := (List.range L.length).filterMap (fun i => match L[i]? with
  | some (some v) => some (i, v)
  | _ => none)
theorem pmLv_in {L : pmL} {i : Nat} {v : Value} : (i, v) ∈ pmLv L ↔ L[i]? = some (some v) := by
  constructor
  · intro h
    obtain ⟨j, -, hj⟩ := List.mem_filterMap.mp h
    cases hL : L[j]? with
    | none => simp [hL] at hj
    | some x =>
      cases x with
      | none => simp [hL] at hj
      | some u =>
        simp [hL] at hj
        obtain ⟨rfl, rfl⟩ := hj
        exact hL
  · intro h
    refine List.mem_filterMap.mpr ⟨i, List.mem_range.mpr (List.getElem?_eq_some_iff.mp h).1, ?_⟩
    simp [h]
theorem pmLs.has {ls : Array Slot} {L : pmL} (h : pmLs ls L) : lv_has ls L.length (pmLv L) := ⟨h.1, h.2.1, fun q hq => h.2.2 q.1 q.2 (pmLv_in.mp hq)⟩
/-- is the place before i the first half of a long? -/
def pmHalf (L : pmL) : Nat → Bool
  | 0 => false
  | i + 1 => match L[i]? with
    | some (some v) => v.category == 2
    | _ => false
theorem pmHalf_no {L : pmL} {i j : Nat} {v : Value} (h : pmHalf L i = false) (hj : L[j]? = some (some v)) (e : j + 1 = i) : ¬ v.category = 2 := by
  subst e
  simp only [pmHalf, hj] at h
  simpa using h
theorem pmLs.st1 {ls' : Array Slot} {L : pmL} {i : Nat} {v : Value} (hi : i < L.length) (hh : pmHalf L i = false) (h : lv_has ls' L.length ((i, v) :: (pmLv L).filter (fun q => !(q.1 == i) && !(q.1 + 1 == i && q.2.category == 2)))) : pmLs ls' (L.set i (some v)) := by
  refine ⟨by rw [h.1, List.length_set], h.2.1, fun j u hj => ?_⟩
  by_cases e : j = i
  · subst e
    rw [List.getElem?_set_self hi] at hj
    cases hj
    exact h.2.2 (j, _) List.mem_cons_self
  · rw [List.getElem?_set_ne (fun q => e q.symm)] at hj
    refine h.2.2 (j, u) (List.mem_cons_of_mem _ (List.mem_filter.mpr ⟨pmLv_in.mpr hj, ?_⟩))
    have h2 := fun q => pmHalf_no hh hj q
    simp only [Bool.and_eq_true, Bool.not_eq_true', beq_eq_false_iff_ne, ne_eq, e, not_false_eq_true, true_and, Bool.and_eq_false_iff]
    by_cases e2 : j + 1 = i
    · exact Or.inr (h2 e2)
    · exact Or.inl e2
theorem pmLs.st2 {ls' : Array Slot} {L : pmL} {i : Nat} {v : Value} (hi : i + 1 < L.length) (hh : pmHalf L i = false) (h : lv_has ls' L.length ((i, v) :: (pmLv L).filter (fun q => !(q.1 == i) && (!(q.1 == i + 1) && !(q.1 + 1 == i && q.2.category == 2))))) : pmLs ls' ((L.set i (some v)).set (i + 1) none) := by
  refine ⟨by rw [h.1, List.length_set, List.length_set], h.2.1, fun j u hj => ?_⟩
  by_cases e1 : j = i + 1
  · subst e1
    rw [List.getElem?_set_self (by rw [List.length_set]; exact hi)] at hj
    cases hj
  · rw [List.getElem?_set_ne (fun q => e1 q.symm)] at hj
    by_cases e : j = i
    · subst e
      rw [List.getElem?_set_self (by omega)] at hj
      cases hj
      exact h.2.2 (j, _) List.mem_cons_self
    · rw [List.getElem?_set_ne (fun q => e q.symm)] at hj
      refine h.2.2 (j, u) (List.mem_cons_of_mem _ (List.mem_filter.mpr ⟨pmLv_in.mpr hj, ?_⟩))
      have h2 := fun q => pmHalf_no hh hj q
      simp only [Bool.and_eq_true, Bool.not_eq_true', beq_eq_false_iff_ne, ne_eq, e, e1, not_false_eq_true, true_and, Bool.and_eq_false_iff]
      by_cases e2 : j + 1 = i
      · exact Or.inr (h2 e2)
      · exact Or.inl e2
/-- a method that runs: which; the map at its entry; how many cells and slots it may make -/
abbrev pmFr : Type := pmMeth × pmH × Nat × Nat
def pmIs (E : pmEv) (F : pmFr) (p : Program) (R : Room) (s : State) (m : MethodId) (args : Array Value) (meth : Method) (c : Code) : Prop :=
  p.tables.exec = Jvm.exec ∧ c.code = F.1.2.1 ∧ c.maxLocals = F.1.2.2.1 ∧ meth.sig.returnType = F.1.2.2.2.1 ∧ meth.locks = false ∧
  c.exceptionTable.toList.map (fun h => (h.startPc, h.endPc, h.handlerPc, h.catchType)) = F.1.2.2.2.2.1 ∧
  s.vm.findClass F.1.1.cls = some m.cls ∧ meth.name = F.1.1.name ∧ (∀ w ∈ pmW, w.before args s = true) ∧ pmKn E s ∧
  (R.frames = F.1.2.2.2.2.2.2.2.1 ∧ R.locals = F.1.2.2.2.2.2.2.2.2 ∧ R.cells = F.2.2.1 ∧ R.slots = F.2.2.2) ∧ E.1.flags = pinnedFlags ++ [noTraceFlag] ∧ pmHI E s F.2.1 s.heap
def pmAt (E : pmEv) (F : pmFr) (s : State) (S : pmS) (H : Heap) (locs : List Loc) : Prop :=
  pmHI E s S.1 H ∧ (∀ n, S.2.1 = some n → H.size = n) ∧ va_S (pmA0 E) s.heap H locs ∧ (S.2.2 = false → locs = [] ∧ S.1 = F.2.1)
def pmOc (U t : State) (o : pmA) (oc : Outcome) : Prop := match o with
  | .inl v => oc = .returned v
  | .inr x => ∃ (a : Addr) (ce : Cell), oc = .threw a ∧ t.heap[a]? = some ce ∧ ce.vm.isStatics = false ∧ U.vm.findClass (pmXs.getD x "") = some ce.cls
def pmEnd (E : pmEv) (hm : pmH) (mc ms : Nat) (Q : pmA → pmS → Prop) (st : State) (oc : Outcome) (t : State) : Prop :=
  ∃ (o : pmA) (S : pmS), Q o S ∧ pmOc st t o oc ∧ st.WarmedH t.vm ∧ (∃ L : List Loc, st.sameButNew ({ t with vm := st.vm } : State) L mc ms ∧ (∀ q ∈ L, E.2.1 ≤ q.base) ∧ (S.2.2 = false → L = [] ∧ S.1 = hm)) ∧
    pmHI E st S.1 t.heap ∧ (∀ n, S.2.1 = some n → t.heap.size = n) ∧ va_F (pmA0 E) st t
def pmZ (E : pmEv) (F : pmFr) (Q : pmA → pmS → Prop) (below : List Frame) (s : State) : State → Prop := fun t => ∃ oc, t.status = .running ∧ Ended t below oc ∧ pmEnd E F.2.1 F.2.2.1 F.2.2.2 Q s oc t
def Go (E : pmEv) (F : pmFr) (pc : Nat) (L : pmL) (st : List Value) (S : pmS) (k n : Nat) (Q : pmA → pmS → Prop) : Prop :=
  ∀ (p : Program) (e : Env) (R : Room) (s : State) (m : MethodId) (args : Array Value) (below : List Frame) (meth : Method) (c : Code) (H : Heap) (locs : List Loc) (ls : Array Slot),
    pmIs E F p R s m args meth c → pmAt E F s S H locs → pmLs ls L → L.length = F.1.2.2.1 → W p E.1 e R s m args below meth c H locs k n (pmZ E F Q below s) (F0 m pc ls st)
section GO
variable {E : pmEv} {F : pmFr} {pc : Nat} {L : pmL} {st : List Value} {S : pmS} {k n : Nat} {Q : pmA → pmS → Prop}
theorem go_at {pc' : Nat} {L' : pmL} {st' : List Value} {S' : pmS} (h : Go E F pc' L' st' S' k n Q) (h1 : pc = pc' := by rfl) (h2 : L = L' := by rfl) (h3 : st = st' := by rfl) (h4 : S = S' := by rfl) : Go E F pc L st S k n Q := by
  subst h1; subst h2; subst h3; subst h4; exact h
theorem go_null  {pc' : Nat} (hd : decode F.1.2.1 pc = .ok (.aconst_null, 1)) (h : Go E F pc' L (.null :: st) S k n Q) (hp : pc + 1 = pc' := by rfl) : Go E F pc L (st) S k n Q := by
  intro p e R s m args below meth c H locs ls hI hA hL hn
  subst hp
  exact lv_null hI.1 hI.2.1 hd (h p e R s m args below meth c H locs ls hI hA hL hn)
theorem go_iconst {z : Int} {v : Int32} {pc' : Nat} (hd : decode F.1.2.1 pc = .ok (.iconst z, 1)) (hv : Int32.ofInt z = v) (h : Go E F pc' L (.int v :: st) S k n Q) (hp : pc + 1 = pc' := by rfl) : Go E F pc L (st) S k n Q := by
  intro p e R s m args below meth c H locs ls hI hA hL hn
  subst hp
  exact lv_iconst hI.1 hI.2.1 hd hv (h p e R s m args below meth c H locs ls hI hA hL hn)
theorem go_bipush {z : Int} {v : Int32} {pc' : Nat} (hd : decode F.1.2.1 pc = .ok (.bipush z, 2)) (hv : (Int8.ofInt z).toInt32 = v) (h : Go E F pc' L (.int v :: st) S k n Q) (hp : pc + 2 = pc' := by rfl) : Go E F pc L (st) S k n Q := by
  intro p e R s m args below meth c H locs ls hI hA hL hn
  subst hp
  exact lv_bipush hI.1 hI.2.1 hd hv (h p e R s m args below meth c H locs ls hI hA hL hn)
theorem go_sipush {z : Int} {v : Int32} {pc' : Nat} (hd : decode F.1.2.1 pc = .ok (.sipush z, 3)) (hv : (Int16.ofInt z).toInt32 = v) (h : Go E F pc' L (.int v :: st) S k n Q) (hp : pc + 3 = pc' := by rfl) : Go E F pc L (st) S k n Q := by
  intro p e R s m args below meth c H locs ls hI hA hL hn
  subst hp
  exact lv_sipush hI.1 hI.2.1 hd hv (h p e R s m args below meth c H locs ls hI hA hL hn)
theorem go_lconst {z : Fin 2} {v : Int64} {pc' : Nat} (hd : decode F.1.2.1 pc = .ok (.lconst z, 1)) (hv : Int64.ofNat (z : Nat) = v) (h : Go E F pc' L (.long v :: st) S k n Q) (hp : pc + 1 = pc' := by rfl) : Go E F pc L (st) S k n Q := by
  intro p e R s m args below meth c H locs ls hI hA hL hn
  subst hp
  exact lv_lconst hI.1 hI.2.1 hd hv (h p e R s m args below meth c H locs ls hI hA hL hn)
theorem go_ldc {x : Nat} {v : Int32} {pc' : Nat} (hd : decode F.1.2.1 pc = .ok (.ldc x, 2)) (hc : Cond.constant F.1.1.cls x v ∈ pmW) (h : Go E F pc' L (.int v :: st) S k n Q) (hp : pc + 2 = pc' := by rfl) : Go E F pc L (st) S k n Q := by
  intro p e R s m args below meth c H locs ls hI hA hL hn
  subst hp
  exact lv_ldc hI.1 hI.2.1 (hI.2.2.2.2.2.2.1) (hI.2.2.2.2.2.2.2.2.1 _ hc) hd (h p e R s m args below meth c H locs ls hI hA hL hn)
theorem go_ldcw {x : Nat} {v : Int32} {pc' : Nat} (hd : decode F.1.2.1 pc = .ok (.ldc_w x, 3)) (hc : Cond.constant F.1.1.cls x v ∈ pmW) (h : Go E F pc' L (.int v :: st) S k n Q) (hp : pc + 3 = pc' := by rfl) : Go E F pc L (st) S k n Q := by
  intro p e R s m args below meth c H locs ls hI hA hL hn
  subst hp
  exact lv_ldcw hI.1 hI.2.1 (hI.2.2.2.2.2.2.1) (hI.2.2.2.2.2.2.2.2.1 _ hc) hd (h p e R s m args below meth c H locs ls hI hA hL hn)
theorem go_ldc2 {x : Nat} {v : Int64} {pc' : Nat} (hd : decode F.1.2.1 pc = .ok (.ldc2_w x, 3)) (hc : Cond.constantLong F.1.1.cls x v ∈ pmW) (h : Go E F pc' L (.long v :: st) S k n Q) (hp : pc + 3 = pc' := by rfl) : Go E F pc L (st) S k n Q := by
  intro p e R s m args below meth c H locs ls hI hA hL hn
  subst hp
  exact lv_ldc2 hI.1 hI.2.1 (hI.2.2.2.2.2.2.1) (hI.2.2.2.2.2.2.2.2.1 _ hc) hd (h p e R s m args below meth c H locs ls hI hA hL hn)
theorem go_iload {i : Nat} {x : Int32} {pc' : Nat} (hd : decode F.1.2.1 pc = .ok (.iload i, 2)) (hl : L[i]? = some (some (.int x))) (h : Go E F pc' L (.int x :: st) S k n Q) (hp : pc + 2 = pc' := by rfl) : Go E F pc L (st) S k n Q := by
  intro p e R s m args below meth c H locs ls hI hA hL hn
  subst hp
  exact lv_iload hI.1 hI.2.1 hd (hL.2.2 i _ hl) (h p e R s m args below meth c H locs ls hI hA hL hn)
theorem go_aload {i : Nat} {x : Nat} {pc' : Nat} (hd : decode F.1.2.1 pc = .ok (.aload i, 2)) (hl : L[i]? = some (some (.ref x))) (h : Go E F pc' L (.ref x :: st) S k n Q) (hp : pc + 2 = pc' := by rfl) : Go E F pc L (st) S k n Q := by
  intro p e R s m args below meth c H locs ls hI hA hL hn
  subst hp
  exact lv_aload hI.1 hI.2.1 hd (hL.2.2 i _ hl) (h p e R s m args below meth c H locs ls hI hA hL hn)
theorem go_iload_n {j : Fin 4} {x : Int32} {pc' : Nat} (hd : decode F.1.2.1 pc = .ok (.iload_n j, 1)) (hl : L[(j : Nat)]? = some (some (.int x))) (h : Go E F pc' L (.int x :: st) S k n Q) (hp : pc + 1 = pc' := by rfl) : Go E F pc L (st) S k n Q := by
  intro p e R s m args below meth c H locs ls hI hA hL hn
  subst hp
  exact lv_iload_n hI.1 hI.2.1 hd rfl (hL.2.2 j _ hl) (h p e R s m args below meth c H locs ls hI hA hL hn)
theorem go_lload_n {j : Fin 4} {x : Int64} {pc' : Nat} (hd : decode F.1.2.1 pc = .ok (.lload_n j, 1)) (hl : L[(j : Nat)]? = some (some (.long x))) (h : Go E F pc' L (.long x :: st) S k n Q) (hp : pc + 1 = pc' := by rfl) : Go E F pc L (st) S k n Q := by
  intro p e R s m args below meth c H locs ls hI hA hL hn
  subst hp
  exact lv_lload_n hI.1 hI.2.1 hd rfl (hL.2.2 j _ hl) (h p e R s m args below meth c H locs ls hI hA hL hn)
theorem go_aload_n {j : Fin 4} {x : Nat} {pc' : Nat} (hd : decode F.1.2.1 pc = .ok (.aload_n j, 1)) (hl : L[(j : Nat)]? = some (some (.ref x))) (h : Go E F pc' L (.ref x :: st) S k n Q) (hp : pc + 1 = pc' := by rfl) : Go E F pc L (st) S k n Q := by
  intro p e R s m args below meth c H locs ls hI hA hL hn
  subst hp
  exact lv_aload_n hI.1 hI.2.1 hd rfl (hL.2.2 j _ hl) (h p e R s m args below meth c H locs ls hI hA hL hn)
theorem go_istore {i : Nat} {x : Int32} {pc' : Nat} {L' : pmL} (hd : decode F.1.2.1 pc = .ok (.istore i, 2)) (h : Go E F pc' L' st S k n Q) (hL' : (L.set i (some (.int x))) = L' := by rfl) (hi : i < L.length := by decide) (hh : pmHalf L i = false := by rfl) (hp : pc + 2 = pc' := by rfl) : Go E F pc L (.int x :: st) S k n Q := by
  intro p e R s m args below meth c H locs ls hI hA hL hn
  subst hp
  subst hL'
  refine lv_istore hI.1 hI.2.1 hd hL.has (by exact hi) rfl (fun ls' hl' => ?_)
  exact h p e R s m args below meth c H locs ls' hI hA (pmLs.st1 hi hh hl') (by simpa using hn)
theorem go_istore_n {j : Fin 4} {x : Int32} {pc' : Nat} {L' : pmL} (hd : decode F.1.2.1 pc = .ok (.istore_n j, 1)) (h : Go E F pc' L' st S k n Q) (hL' : (L.set (j : Nat) (some (.int x))) = L' := by rfl) (hi : (j : Nat) < L.length := by decide) (hh : pmHalf L (j : Nat) = false := by rfl) (hp : pc + 1 = pc' := by rfl) : Go E F pc L (.int x :: st) S k n Q := by
  intro p e R s m args below meth c H locs ls hI hA hL hn
  subst hp
  subst hL'
  refine lv_istore_n hI.1 hI.2.1 hd rfl hL.has (by exact hi) rfl (fun ls' hl' => ?_)
  exact h p e R s m args below meth c H locs ls' hI hA (pmLs.st1 hi hh hl') (by simpa using hn)
theorem go_lstore_n {j : Fin 4} {x : Int64} {pc' : Nat} {L' : pmL} (hd : decode F.1.2.1 pc = .ok (.lstore_n j, 1)) (h : Go E F pc' L' st S k n Q) (hL' : ((L.set (j : Nat) (some (.long x))).set ((j : Nat) + 1) none) = L' := by rfl) (hi : (j : Nat) + 1 < L.length := by decide) (hh : pmHalf L (j : Nat) = false := by rfl) (hp : pc + 1 = pc' := by rfl) : Go E F pc L (.long x :: st) S k n Q := by
  intro p e R s m args below meth c H locs ls hI hA hL hn
  subst hp
  subst hL'
  refine lv_lstore_n hI.1 hI.2.1 hd rfl hL.has (by exact hi) rfl (fun ls' hl' => ?_)
  exact h p e R s m args below meth c H locs ls' hI hA (pmLs.st2 hi hh hl') (by simpa using hn)
theorem go_astore {i : Nat} {x : Nat} {pc' : Nat} {L' : pmL} (hd : decode F.1.2.1 pc = .ok (.astore i, 2)) (h : Go E F pc' L' st S k n Q) (hL' : (L.set i (some (.ref x))) = L' := by rfl) (hi : i < L.length := by decide) (hh : pmHalf L i = false := by rfl) (hp : pc + 2 = pc' := by rfl) : Go E F pc L (.ref x :: st) S k n Q := by
  intro p e R s m args below meth c H locs ls hI hA hL hn
  subst hp
  subst hL'
  refine lv_astore hI.1 hI.2.1 hd hL.has (by exact hi) rfl (fun ls' hl' => ?_)
  exact h p e R s m args below meth c H locs ls' hI hA (pmLs.st1 hi hh hl') (by simpa using hn)
theorem go_astore_n {j : Fin 4} {x : Nat} {pc' : Nat} {L' : pmL} (hd : decode F.1.2.1 pc = .ok (.astore_n j, 1)) (h : Go E F pc' L' st S k n Q) (hL' : (L.set (j : Nat) (some (.ref x))) = L' := by rfl) (hi : (j : Nat) < L.length := by decide) (hh : pmHalf L (j : Nat) = false := by rfl) (hp : pc + 1 = pc' := by rfl) : Go E F pc L (.ref x :: st) S k n Q := by
  intro p e R s m args below meth c H locs ls hI hA hL hn
  subst hp
  subst hL'
  refine lv_astore_n hI.1 hI.2.1 hd rfl hL.has (by exact hi) rfl (fun ls' hl' => ?_)
  exact h p e R s m args below meth c H locs ls' hI hA (pmLs.st1 hi hh hl') (by simpa using hn)
theorem go_iinc {i : Nat} {z : Int} {x v : Int32} {pc' : Nat} {L' : pmL} (hd : decode F.1.2.1 pc = .ok (.iinc i z, 3)) (hl : L[i]? = some (some (.int x))) (hv : x + Int32.ofInt z = v) (h : Go E F pc' L' st S k n Q) (hL' : L.set i (some (.int v)) = L' := by rfl) (hh : pmHalf L i = false := by rfl) (hp : pc + 3 = pc' := by rfl) : Go E F pc L st S k n Q := by
  intro p e R s m args below meth c H locs ls hI hA hL hn
  subst hp
  subst hL'
  have hi : i < L.length := (List.getElem?_eq_some_iff.mp hl).1
  obtain ⟨q, hq⟩ := List.getElem?_of_mem (pmLv_in.mpr hl)
  refine lv_iinc hI.1 hI.2.1 hd hL.has hq hv hi rfl (fun ls' hl' => ?_)
  exact h p e R s m args below meth c H locs ls' hI hA (pmLs.st1 hi hh hl') (by simpa using hn)
theorem go_dup {v : Value} {pc' : Nat} (hd : decode F.1.2.1 pc = .ok (.dup, 1)) (hv : v.category = 1) (h : Go E F pc' L (v :: v :: st) S k n Q) (hp : pc + 1 = pc' := by rfl) : Go E F pc L (v :: st) S k n Q := by
  intro p e R s m args below meth c H locs ls hI hA hL hn
  subst hp
  exact lv_dup hI.1 hI.2.1 hd hv (h p e R s m args below meth c H locs ls hI hA hL hn)
theorem go_dup2 {v u : Value} {pc' : Nat} (hd : decode F.1.2.1 pc = .ok (.dup2, 1)) (hv : v.category = 1) (hu : u.category = 1) (h : Go E F pc' L (v :: u :: v :: u :: st) S k n Q) (hp : pc + 1 = pc' := by rfl) : Go E F pc L (v :: u :: st) S k n Q := by
  intro p e R s m args below meth c H locs ls hI hA hL hn
  subst hp
  exact lv_dup2_11 hI.1 hI.2.1 hd hv hu (h p e R s m args below meth c H locs ls hI hA hL hn)
theorem go_iadd {x y : Int32} {pc' : Nat} (hd : decode F.1.2.1 pc = .ok (.iadd, 1)) (h : Go E F pc' L (.int (x + y) :: st) S k n Q) (hp : pc + 1 = pc' := by rfl) : Go E F pc L (.int y :: .int x :: st) S k n Q := by
  intro p e R s m args below meth c H locs ls hI hA hL hn
  subst hp
  exact lv_iadd hI.1 hI.2.1 hd (h p e R s m args below meth c H locs ls hI hA hL hn)
theorem go_isub {x y : Int32} {pc' : Nat} (hd : decode F.1.2.1 pc = .ok (.isub, 1)) (h : Go E F pc' L (.int (x - y) :: st) S k n Q) (hp : pc + 1 = pc' := by rfl) : Go E F pc L (.int y :: .int x :: st) S k n Q := by
  intro p e R s m args below meth c H locs ls hI hA hL hn
  subst hp
  exact lv_isub hI.1 hI.2.1 hd (h p e R s m args below meth c H locs ls hI hA hL hn)
theorem go_imul {x y : Int32} {pc' : Nat} (hd : decode F.1.2.1 pc = .ok (.imul, 1)) (h : Go E F pc' L (.int (x * y) :: st) S k n Q) (hp : pc + 1 = pc' := by rfl) : Go E F pc L (.int y :: .int x :: st) S k n Q := by
  intro p e R s m args below meth c H locs ls hI hA hL hn
  subst hp
  exact lv_imul hI.1 hI.2.1 hd (h p e R s m args below meth c H locs ls hI hA hL hn)
theorem go_iand {x y : Int32} {pc' : Nat} (hd : decode F.1.2.1 pc = .ok (.iand, 1)) (h : Go E F pc' L (.int (x &&& y) :: st) S k n Q) (hp : pc + 1 = pc' := by rfl) : Go E F pc L (.int y :: .int x :: st) S k n Q := by
  intro p e R s m args below meth c H locs ls hI hA hL hn
  subst hp
  exact lv_iand hI.1 hI.2.1 hd (h p e R s m args below meth c H locs ls hI hA hL hn)
theorem go_ior {x y : Int32} {pc' : Nat} (hd : decode F.1.2.1 pc = .ok (.ior, 1)) (h : Go E F pc' L (.int (x ||| y) :: st) S k n Q) (hp : pc + 1 = pc' := by rfl) : Go E F pc L (.int y :: .int x :: st) S k n Q := by
  intro p e R s m args below meth c H locs ls hI hA hL hn
  subst hp
  exact lv_ior hI.1 hI.2.1 hd (h p e R s m args below meth c H locs ls hI hA hL hn)
theorem go_ixor {x y : Int32} {pc' : Nat} (hd : decode F.1.2.1 pc = .ok (.ixor, 1)) (h : Go E F pc' L (.int (x ^^^ y) :: st) S k n Q) (hp : pc + 1 = pc' := by rfl) : Go E F pc L (.int y :: .int x :: st) S k n Q := by
  intro p e R s m args below meth c H locs ls hI hA hL hn
  subst hp
  exact lv_ixor hI.1 hI.2.1 hd (h p e R s m args below meth c H locs ls hI hA hL hn)
theorem go_ishl {x y : Int32} {pc' : Nat} (hd : decode F.1.2.1 pc = .ok (.ishl, 1)) (h : Go E F pc' L (.int (x <<< (y &&& 31)) :: st) S k n Q) (hp : pc + 1 = pc' := by rfl) : Go E F pc L (.int y :: .int x :: st) S k n Q := by
  intro p e R s m args below meth c H locs ls hI hA hL hn
  subst hp
  exact lv_ishl hI.1 hI.2.1 hd (h p e R s m args below meth c H locs ls hI hA hL hn)
theorem go_ishr {x y : Int32} {pc' : Nat} (hd : decode F.1.2.1 pc = .ok (.ishr, 1)) (h : Go E F pc' L (.int (x >>> (y &&& 31)) :: st) S k n Q) (hp : pc + 1 = pc' := by rfl) : Go E F pc L (.int y :: .int x :: st) S k n Q := by
  intro p e R s m args below meth c H locs ls hI hA hL hn
  subst hp
  exact lv_ishr hI.1 hI.2.1 hd (h p e R s m args below meth c H locs ls hI hA hL hn)
theorem go_iushr {x y : Int32} {pc' : Nat} (hd : decode F.1.2.1 pc = .ok (.iushr, 1)) (h : Go E F pc' L (.int (x.toUInt32 >>> (y.toUInt32 &&& Int32.toUInt32 31)).toInt32 :: st) S k n Q) (hp : pc + 1 = pc' := by rfl) : Go E F pc L (.int y :: .int x :: st) S k n Q := by
  intro p e R s m args below meth c H locs ls hI hA hL hn
  subst hp
  exact lv_iushr hI.1 hI.2.1 hd rfl (h p e R s m args below meth c H locs ls hI hA hL hn)
theorem go_idiv {x y : Int32} {pc' : Nat} (hd : decode F.1.2.1 pc = .ok (.idiv, 1)) (hy : ¬ y = 0) (h : Go E F pc' L (.int (x / y) :: st) S k n Q) (hp : pc + 1 = pc' := by rfl) : Go E F pc L (.int y :: .int x :: st) S k n Q := by
  intro p e R s m args below meth c H locs ls hI hA hL hn
  subst hp
  exact lv_idiv hI.1 hI.2.1 hd hy (h p e R s m args below meth c H locs ls hI hA hL hn)
theorem go_irem {x y : Int32} {pc' : Nat} (hd : decode F.1.2.1 pc = .ok (.irem, 1)) (hy : ¬ y = 0) (h : Go E F pc' L (.int (x - x / y * y) :: st) S k n Q) (hp : pc + 1 = pc' := by rfl) : Go E F pc L (.int y :: .int x :: st) S k n Q := by
  intro p e R s m args below meth c H locs ls hI hA hL hn
  subst hp
  exact lv_irem hI.1 hI.2.1 hd hy (h p e R s m args below meth c H locs ls hI hA hL hn)
theorem go_lsub {x y : Int64} {pc' : Nat} (hd : decode F.1.2.1 pc = .ok (.lsub, 1)) (h : Go E F pc' L (.long (x - y) :: st) S k n Q) (hp : pc + 1 = pc' := by rfl) : Go E F pc L (.long y :: .long x :: st) S k n Q := by
  intro p e R s m args below meth c H locs ls hI hA hL hn
  subst hp
  exact lv_lsub hI.1 hI.2.1 hd (h p e R s m args below meth c H locs ls hI hA hL hn)
theorem go_lxor {x y : Int64} {pc' : Nat} (hd : decode F.1.2.1 pc = .ok (.lxor, 1)) (h : Go E F pc' L (.long (x ^^^ y) :: st) S k n Q) (hp : pc + 1 = pc' := by rfl) : Go E F pc L (.long y :: .long x :: st) S k n Q := by
  intro p e R s m args below meth c H locs ls hI hA hL hn
  subst hp
  exact lv_lxor hI.1 hI.2.1 hd (h p e R s m args below meth c H locs ls hI hA hL hn)
theorem go_ldiv {x y : Int64} {pc' : Nat} (hd : decode F.1.2.1 pc = .ok (.ldiv, 1)) (hy : ¬ y = 0) (h : Go E F pc' L (.long (x / y) :: st) S k n Q) (hp : pc + 1 = pc' := by rfl) : Go E F pc L (.long y :: .long x :: st) S k n Q := by
  intro p e R s m args below meth c H locs ls hI hA hL hn
  subst hp
  exact lv_ldiv hI.1 hI.2.1 hd hy (h p e R s m args below meth c H locs ls hI hA hL hn)
theorem go_lrem {x y : Int64} {pc' : Nat} (hd : decode F.1.2.1 pc = .ok (.lrem, 1)) (hy : ¬ y = 0) (h : Go E F pc' L (.long (x - x / y * y) :: st) S k n Q) (hp : pc + 1 = pc' := by rfl) : Go E F pc L (.long y :: .long x :: st) S k n Q := by
  intro p e R s m args below meth c H locs ls hI hA hL hn
  subst hp
  exact lv_lrem hI.1 hI.2.1 hd hy (h p e R s m args below meth c H locs ls hI hA hL hn)
theorem go_i2l {x : Int32} {pc' : Nat} (hd : decode F.1.2.1 pc = .ok (.i2l, 1)) (h : Go E F pc' L (.long x.toInt64 :: st) S k n Q) (hp : pc + 1 = pc' := by rfl) : Go E F pc L (.int x :: st) S k n Q := by
  intro p e R s m args below meth c H locs ls hI hA hL hn
  subst hp
  exact lv_i2l hI.1 hI.2.1 hd rfl (h p e R s m args below meth c H locs ls hI hA hL hn)
theorem go_l2i {x : Int64} {pc' : Nat} (hd : decode F.1.2.1 pc = .ok (.l2i, 1)) (h : Go E F pc' L (.int x.toInt32 :: st) S k n Q) (hp : pc + 1 = pc' := by rfl) : Go E F pc L (.long x :: st) S k n Q := by
  intro p e R s m args below meth c H locs ls hI hA hL hn
  subst hp
  exact lv_l2i hI.1 hI.2.1 hd rfl (h p e R s m args below meth c H locs ls hI hA hL hn)
theorem go_lcmp {x y : Int64} {pc' : Nat} (hd : decode F.1.2.1 pc = .ok (.lcmp, 1)) (h : Go E F pc' L (.int (lg_cmp x y) :: st) S k n Q) (hp : pc + 1 = pc' := by rfl) : Go E F pc L (.long y :: .long x :: st) S k n Q := by
  intro p e R s m args below meth c H locs ls hI hA hL hn
  subst hp
  exact W.lcmp hI.1 hI.2.1 hd (h p e R s m args below meth c H locs ls hI hA hL hn)
theorem go_goto {off : Int} {tgt : Nat} (hd : decode F.1.2.1 pc = .ok (.goto off, 3)) (h : Go E F tgt L st S k n Q) (ht : (pc : Int) + off = (tgt : Int) := by decide) : Go E F pc L st S k n Q := by
  intro p e R s m args below meth c H locs ls hI hA hL hn
  exact lv_goto hI.1 hI.2.1 hd ht (h p e R s m args below meth c H locs ls hI hA hL hn)
theorem go_icmp_eq {x y : Int32} {off : Int} {tgt pc' : Nat} (hd : decode F.1.2.1 pc = .ok (.if_icmp .eq off, 3)) (kt : x = y → Go E F tgt L st S k n Q) (kf : ¬ x = y → Go E F pc' L st S k n Q) (ht : (pc : Int) + off = (tgt : Int) := by decide) (hp : pc + 3 = pc' := by rfl) : Go E F pc L (.int y :: .int x :: st) S k n Q := by
  intro p e R s m args below meth c H locs ls hI hA hL hn
  subst hp
  exact lv_icmp_eq hI.1 hI.2.1 hd ht (fun q => kt q p e R s m args below meth c H locs ls hI hA hL hn) (fun q => kf q p e R s m args below meth c H locs ls hI hA hL hn)
theorem go_if_eq {x : Int32} {off : Int} {tgt pc' : Nat} (hd : decode F.1.2.1 pc = .ok (.ifCond .eq off, 3)) (kt : x = 0 → Go E F tgt L st S k n Q) (kf : ¬ x = 0 → Go E F pc' L st S k n Q) (ht : (pc : Int) + off = (tgt : Int) := by decide) (hp : pc + 3 = pc' := by rfl) : Go E F pc L (.int x :: st) S k n Q := by
  intro p e R s m args below meth c H locs ls hI hA hL hn
  subst hp
  exact lv_if_eq hI.1 hI.2.1 hd ht (fun q => kt q p e R s m args below meth c H locs ls hI hA hL hn) (fun q => kf q p e R s m args below meth c H locs ls hI hA hL hn)
theorem go_icmp_ne {x y : Int32} {off : Int} {tgt pc' : Nat} (hd : decode F.1.2.1 pc = .ok (.if_icmp .ne off, 3)) (kt : ¬ x = y → Go E F tgt L st S k n Q) (kf : x = y → Go E F pc' L st S k n Q) (ht : (pc : Int) + off = (tgt : Int) := by decide) (hp : pc + 3 = pc' := by rfl) : Go E F pc L (.int y :: .int x :: st) S k n Q := by
  intro p e R s m args below meth c H locs ls hI hA hL hn
  subst hp
  exact lv_icmp_ne hI.1 hI.2.1 hd ht (fun q => kt q p e R s m args below meth c H locs ls hI hA hL hn) (fun q => kf q p e R s m args below meth c H locs ls hI hA hL hn)
theorem go_if_ne {x : Int32} {off : Int} {tgt pc' : Nat} (hd : decode F.1.2.1 pc = .ok (.ifCond .ne off, 3)) (kt : ¬ x = 0 → Go E F tgt L st S k n Q) (kf : x = 0 → Go E F pc' L st S k n Q) (ht : (pc : Int) + off = (tgt : Int) := by decide) (hp : pc + 3 = pc' := by rfl) : Go E F pc L (.int x :: st) S k n Q := by
  intro p e R s m args below meth c H locs ls hI hA hL hn
  subst hp
  exact lv_if_ne hI.1 hI.2.1 hd ht (fun q => kt q p e R s m args below meth c H locs ls hI hA hL hn) (fun q => kf q p e R s m args below meth c H locs ls hI hA hL hn)
theorem go_icmp_lt {x y : Int32} {off : Int} {tgt pc' : Nat} (hd : decode F.1.2.1 pc = .ok (.if_icmp .lt off, 3)) (kt : x < y → Go E F tgt L st S k n Q) (kf : ¬ x < y → Go E F pc' L st S k n Q) (ht : (pc : Int) + off = (tgt : Int) := by decide) (hp : pc + 3 = pc' := by rfl) : Go E F pc L (.int y :: .int x :: st) S k n Q := by
  intro p e R s m args below meth c H locs ls hI hA hL hn
  subst hp
  exact lv_icmp_lt hI.1 hI.2.1 hd ht (fun q => kt q p e R s m args below meth c H locs ls hI hA hL hn) (fun q => kf q p e R s m args below meth c H locs ls hI hA hL hn)
theorem go_if_lt {x : Int32} {off : Int} {tgt pc' : Nat} (hd : decode F.1.2.1 pc = .ok (.ifCond .lt off, 3)) (kt : x < 0 → Go E F tgt L st S k n Q) (kf : ¬ x < 0 → Go E F pc' L st S k n Q) (ht : (pc : Int) + off = (tgt : Int) := by decide) (hp : pc + 3 = pc' := by rfl) : Go E F pc L (.int x :: st) S k n Q := by
  intro p e R s m args below meth c H locs ls hI hA hL hn
  subst hp
  exact lv_if_lt hI.1 hI.2.1 hd ht (fun q => kt q p e R s m args below meth c H locs ls hI hA hL hn) (fun q => kf q p e R s m args below meth c H locs ls hI hA hL hn)
theorem go_icmp_ge {x y : Int32} {off : Int} {tgt pc' : Nat} (hd : decode F.1.2.1 pc = .ok (.if_icmp .ge off, 3)) (kt : y ≤ x → Go E F tgt L st S k n Q) (kf : ¬ y ≤ x → Go E F pc' L st S k n Q) (ht : (pc : Int) + off = (tgt : Int) := by decide) (hp : pc + 3 = pc' := by rfl) : Go E F pc L (.int y :: .int x :: st) S k n Q := by
  intro p e R s m args below meth c H locs ls hI hA hL hn
  subst hp
  exact lv_icmp_ge hI.1 hI.2.1 hd ht (fun q => kt q p e R s m args below meth c H locs ls hI hA hL hn) (fun q => kf q p e R s m args below meth c H locs ls hI hA hL hn)
theorem go_if_ge {x : Int32} {off : Int} {tgt pc' : Nat} (hd : decode F.1.2.1 pc = .ok (.ifCond .ge off, 3)) (kt : 0 ≤ x → Go E F tgt L st S k n Q) (kf : ¬ 0 ≤ x → Go E F pc' L st S k n Q) (ht : (pc : Int) + off = (tgt : Int) := by decide) (hp : pc + 3 = pc' := by rfl) : Go E F pc L (.int x :: st) S k n Q := by
  intro p e R s m args below meth c H locs ls hI hA hL hn
  subst hp
  exact lv_if_ge hI.1 hI.2.1 hd ht (fun q => kt q p e R s m args below meth c H locs ls hI hA hL hn) (fun q => kf q p e R s m args below meth c H locs ls hI hA hL hn)
theorem go_icmp_gt {x y : Int32} {off : Int} {tgt pc' : Nat} (hd : decode F.1.2.1 pc = .ok (.if_icmp .gt off, 3)) (kt : y < x → Go E F tgt L st S k n Q) (kf : ¬ y < x → Go E F pc' L st S k n Q) (ht : (pc : Int) + off = (tgt : Int) := by decide) (hp : pc + 3 = pc' := by rfl) : Go E F pc L (.int y :: .int x :: st) S k n Q := by
  intro p e R s m args below meth c H locs ls hI hA hL hn
  subst hp
  exact lv_icmp_gt hI.1 hI.2.1 hd ht (fun q => kt q p e R s m args below meth c H locs ls hI hA hL hn) (fun q => kf q p e R s m args below meth c H locs ls hI hA hL hn)
theorem go_if_gt {x : Int32} {off : Int} {tgt pc' : Nat} (hd : decode F.1.2.1 pc = .ok (.ifCond .gt off, 3)) (kt : 0 < x → Go E F tgt L st S k n Q) (kf : ¬ 0 < x → Go E F pc' L st S k n Q) (ht : (pc : Int) + off = (tgt : Int) := by decide) (hp : pc + 3 = pc' := by rfl) : Go E F pc L (.int x :: st) S k n Q := by
  intro p e R s m args below meth c H locs ls hI hA hL hn
  subst hp
  exact lv_if_gt hI.1 hI.2.1 hd ht (fun q => kt q p e R s m args below meth c H locs ls hI hA hL hn) (fun q => kf q p e R s m args below meth c H locs ls hI hA hL hn)
theorem go_icmp_le {x y : Int32} {off : Int} {tgt pc' : Nat} (hd : decode F.1.2.1 pc = .ok (.if_icmp .le off, 3)) (kt : x ≤ y → Go E F tgt L st S k n Q) (kf : ¬ x ≤ y → Go E F pc' L st S k n Q) (ht : (pc : Int) + off = (tgt : Int) := by decide) (hp : pc + 3 = pc' := by rfl) : Go E F pc L (.int y :: .int x :: st) S k n Q := by
  intro p e R s m args below meth c H locs ls hI hA hL hn
  subst hp
  exact lv_icmp_le hI.1 hI.2.1 hd ht (fun q => kt q p e R s m args below meth c H locs ls hI hA hL hn) (fun q => kf q p e R s m args below meth c H locs ls hI hA hL hn)
theorem go_if_le {x : Int32} {off : Int} {tgt pc' : Nat} (hd : decode F.1.2.1 pc = .ok (.ifCond .le off, 3)) (kt : x ≤ 0 → Go E F tgt L st S k n Q) (kf : ¬ x ≤ 0 → Go E F pc' L st S k n Q) (ht : (pc : Int) + off = (tgt : Int) := by decide) (hp : pc + 3 = pc' := by rfl) : Go E F pc L (.int x :: st) S k n Q := by
  intro p e R s m args below meth c H locs ls hI hA hL hn
  subst hp
  exact lv_if_le hI.1 hI.2.1 hd ht (fun q => kt q p e R s m args below meth c H locs ls hI hA hL hn) (fun q => kf q p e R s m args below meth c H locs ls hI hA hL hn)
theorem go_lookup {dflt : Int} {ps : Array (Int × Int)} {len : Nat} {x : Int32} {off : Int} {tgt : Nat} (hd : decode F.1.2.1 pc = .ok (.lookupswitch dflt ps, len)) (hs : (ps.toList.zip (ps.toList.drop 1)).all (fun (a, next) => a.1 < next.1) = true) (ho : Op.lookupswitch.offset ps.toList dflt x.toInt = off) (h : Go E F tgt L st S k n Q) (ht : (pc : Int) + off = (tgt : Int) := by decide) : Go E F pc L (.int x :: st) S k n Q := by
  intro p e R s m args below meth c H locs ls hI hA hL hn
  exact lv_lookup hI.1 hI.2.1 hd hs ho ht (h p e R s m args below meth c H locs ls hI hA hL hn)
theorem go_tableOut {dflt lo hi : Int} {offs : Array Int} {len : Nat} {x : Int32} {tgt : Nat} (hd : decode F.1.2.1 pc = .ok (.tableswitch dflt lo hi offs, len)) (hx : x.toInt < lo ∨ hi < x.toInt) (h : Go E F tgt L st S k n Q) (ht : (pc : Int) + dflt = (tgt : Int) := by decide) : Go E F pc L (.int x :: st) S k n Q := by
  intro p e R s m args below meth c H locs ls hI hA hL hn
  exact lv_tableOut hI.1 hI.2.1 hd hx ht (h p e R s m args below meth c H locs ls hI hA hL hn)
theorem go_tableIn {dflt lo hi : Int} {offs : Array Int} {len : Nat} {x : Int32} {off : Int} {tgt : Nat} (hd : decode F.1.2.1 pc = .ok (.tableswitch dflt lo hi offs, len)) (h1 : ¬ x.toInt < lo) (h2 : ¬ hi < x.toInt) (ho : offs[(x.toInt - lo).toNat]? = some off) (h : Go E F tgt L st S k n Q) (ht : (pc : Int) + off = (tgt : Int) := by decide) : Go E F pc L (.int x :: st) S k n Q := by
  intro p e R s m args below meth c H locs ls hI hA hL hn
  exact lv_tableIn hI.1 hI.2.1 hd h1 h2 ho ht (h p e R s m args below meth c H locs ls hI hA hL hn)
end GO
end
section
/-! ===== rules of the instructions that read and write the heap ===== -/
theorem pmAt.put {E : pmEv} {F : pmFr} {s : State} {S : pmS} {H H1 : Heap} {locs : List Loc} {a i : Nat} {c : pmC} (hA : pmAt E F s S H locs) (ha : E.2.1 ≤ a) (hc : pmCe E s H1 a c) (hz : H1.size = H.size) (ho : ∀ q : Nat, q ≠ a → H1[q]? = H[q]?) : pmAt E F s (pmU S.1 a c, S.2.1, true) H1 (locs ++ [⟨a, i⟩]) :=
  ⟨hA.1.put hc ho, fun n hn => by rw [hz]; exact hA.2.1 n hn, hA.2.2.1.put hz ho ha, fun h => by cases h⟩
section GOH
variable {E : pmEv} {F : pmFr} {pc : Nat} {L : pmL} {st : List Value} {S : pmS} {k n : Nat} {Q : pmA → pmS → Prop}
theorem go_getf {x ci j a : Nat} {fs : List Value} {v : Value} {pc' : Nat} (hd : decode F.1.2.1 pc = .ok (.getfield x, 3)) (hf : pmFd F.1.1.cls x ci j) (hh : S.1 a = some (pmO ci fs)) (hv : fs[j]? = some v) (h : Go E F pc' L (v :: st) S k n Q) (hp : pc + 3 = pc' := by rfl) : Go E F pc L (.ref a :: st) S k n Q := by
  intro p e R s m args below meth c H locs ls hI hA hL hn
  subst hp
  obtain ⟨-, r, h1, hlen, cell, q1, q2, q3, q4⟩ := hA.1 a _ hh
  obtain ⟨r', hr', hk, hl⟩ := hf
  cases h1.symm.trans hr'
  have hts := hI.2.2.2.2.2.2.2.2.1
  obtain ⟨hS, hfc, kC, hkC, hkind⟩ := (hI.2.2.2.2.2.2.2.2.2.1.1).1 ci _ h1
  obtain ⟨cf, kf, fi, f, hi, hsl⟩ := hS j hk
  refine W.getf hI.1 hI.2.1 hI.2.2.2.2.2.2.1 (hts _ hl) hi (u_facts hfc hkC (u_lays hts (pmCk_of h1).1 hk) hi).1 q1 (by rw [q3]; exact fun h => by cases h) (v := v) ?_ rfl rfl hd (h p e R s m args below meth c H locs ls hI hA hL hn)
  rw [hsl, q4 j hk]
  simp [vp_V, hv]
theorem go_putf {x ci j a : Nat} {fs fs' : List Value} {v : Value} {ty : FieldType} {pc' : Nat} (hd : decode F.1.2.1 pc = .ok (.putfield x, 3)) (hf : pmFd F.1.1.cls x ci j) (hfin : ∀ r : vw_C, pmCl[ci]? = some r → (r.2.1 j).2.2.2 = false ∧ parseFieldDescriptor (r.2.1 j).2.2.1 = some ty) (hh : S.1 a = some (pmO ci fs)) (hn1 : narrow ty v = v) (hfit : fits ty v = true) (h : Go E F pc' L st (pmU S.1 a (pmO ci fs'), S.2.1, true) k n Q) (hs : fs.set j v = fs' := by rfl) (hp : pc + 3 = pc' := by rfl) : Go E F pc L (v :: .ref a :: st) S k n Q := by
  intro p e R s m args below meth c H locs ls hI hA hL hn
  subst hp
  subst hs
  obtain ⟨h0, r, h1, hlen, cell, q1, q2, q3, q4⟩ := hA.1 a _ hh
  obtain ⟨r', hr', hk, hl⟩ := hf
  cases h1.symm.trans hr'
  have hts := hI.2.2.2.2.2.2.2.2.1
  obtain ⟨hfin, hty⟩ := hfin r h1
  obtain ⟨cin, ⟨ty0, hty0⟩, hnm, -⟩ := pmCk_of h1
  have hK := hI.2.2.2.2.2.2.2.2.2.1.1
  have hap := va_apart (own := F.1.1.cls) (ci := ci) (tys := pmTs E) hts cin ty0 hty0 hnm hK h1
  obtain ⟨hS, hfc, kC, hkC, hkind⟩ := hK.1 ci _ h1
  obtain ⟨cf, kf, fi, f, hi, hsl⟩ := hS j hk
  have hlay := hts _ (cin _ (u_in_lay hk))
  unfold u_lay at hlay
  rw [if_neg (by rw [hfin]; decide)] at hlay
  have hst := (u_facts hfc hkC (u_lays hts cin hk) hi).1
  have h6 := u_store hfc hkC hkind hlay hi hty hn1 hfit
  have hl2 : j < fs.length := by rw [hlen]; exact hk
  refine W.putK hI.1 hI.2.1 (f := f) ⟨hI.2.2.2.2.2.2.1, hts _ hl, ⟨_, _, _, hi⟩, hst⟩ (by rw [q2]; exact h6) q1 q3 (by rw [hsl]; exact k2_hasslot (q4 j hk)) rfl rfl hd fun H' e1 e2 e3 => ?_
  rw [hsl] at e1 ⊢
  refine h p e R s m args below meth c H' _ ls hI (hA.put h0 ⟨h0, r, h1, by rw [List.length_set]; exact hlen, ?_⟩ e2 e3) hL hn
  exact t_OB.to (V := updV (vp_V fs) j v) ⟨_, e1, q2, q3, t_set q4 hap hk v⟩ (fun i _ => vp_updV_set hl2 v i)
theorem go_putF {x ci j a : Nat} {fs fs' : List Value} {v : Value} {ty : FieldType} {pc' : Nat} (hd : decode F.1.2.1 pc = .ok (.putfield x, 3)) (hf : pmFd F.1.1.cls x ci j) (hfin : ∀ r : vw_C, pmCl[ci]? = some r → (r.2.1 j).2.2.2 = true ∧ (r.2.1 j).1 = F.1.1.cls ∧ parseFieldDescriptor (r.2.1 j).2.2.1 = some ty) (hin : F.1.1.name = "<init>") (hh : S.1 a = some (pmO ci fs)) (hn1 : narrow ty v = v) (hfit : fits ty v = true) (h : Go E F pc' L st (pmU S.1 a (pmO ci fs'), S.2.1, true) k n Q) (hs : fs.set j v = fs' := by rfl) (hp : pc + 3 = pc' := by rfl) : Go E F pc L (v :: .ref a :: st) S k n Q := by
  intro p e R s m args below meth c H locs ls hI hA hL hn
  subst hp
  subst hs
  obtain ⟨h0, r, h1, hlen, cell, q1, q2, q3, q4⟩ := hA.1 a _ hh
  obtain ⟨r', hr', hk, hl⟩ := hf
  cases h1.symm.trans hr'
  have hts := hI.2.2.2.2.2.2.2.2.1
  obtain ⟨hfin, hdecl, hty⟩ := hfin r h1
  obtain ⟨cin, ⟨ty0, hty0⟩, hnm, -⟩ := pmCk_of h1
  have hK := hI.2.2.2.2.2.2.2.2.2.1.1
  have hown := hI.2.2.2.2.2.2.1
  have hap := va_apart (own := F.1.1.cls) (ci := ci) (tys := pmTs E) hts cin ty0 hty0 hnm hK h1
  obtain ⟨hS, hfc, kC, hkC, hkind⟩ := hK.1 ci _ h1
  obtain ⟨cf, kf, fi, f, hi, hsl⟩ := hS j hk
  have hlay := hts _ (cin _ (u_in_lay hk))
  unfold u_lay at hlay
  rw [if_pos hfin] at hlay
  have hst := (u_facts hfc hkC (u_lays hts cin hk) hi).1
  have hcf : m.cls = cf := by
    obtain ⟨_, _, c', _, _, _, -, -, hf', -, -, -, hown2, -⟩ := Cond.laysFinal_spec hlay
    have e1 : c' = cf := by have := hi.symm.trans hf'; simp at this; exact this.1.symm
    rw [hdecl] at hown2
    rw [← e1]; exact Option.some.inj (hown.symm.trans hown2)
  have h6 := u_fits hfc hkC hkind (Or.inr hlay) hi hty hn1 hfit
  have hl2 : j < fs.length := by rw [hlen]; exact hk
  refine W.putFinK hI.1 hI.2.1 hown (hts _ hl) hi hst hcf (hI.2.2.2.2.2.2.2.1.trans hin) (by rw [q2]; exact h6) q1 q3 (by rw [hsl]; exact k2_hasslot (q4 j hk)) rfl rfl hd fun H' e1 e2 e3 => ?_
  rw [hsl] at e1 ⊢
  refine h p e R s m args below meth c H' _ ls hI (hA.put h0 ⟨h0, r, h1, by rw [List.length_set]; exact hlen, ?_⟩ e2 e3) hL hn
  exact t_OB.to (V := updV (vp_V fs) j v) ⟨_, e1, q2, q3, t_set q4 hap hk v⟩ (fun i _ => vp_updV_set hl2 v i)
theorem go_gets0 {x : Nat} {pc' : Nat} (hd : decode F.1.2.1 pc = .ok (.getstatic x, 3)) (hl : Cond.fieldLink F.1.1.cls x "PortableFiles$Bytes" "BEGINNING" "[I" ∈ pmW) (h : Go E F pc' L (.ref (E.2.2.2.2 0) :: st) S k n Q) (hp : pc + 3 = pc' := by rfl) : Go E F pc L st S k n Q := by
  intro p e R s m args below meth c H locs ls hI hA hL hn
  subst hp
  exact va_gets hI.1 hI.2.1 hI.2.2.2.2.2.2.2.2.2.1.2.2.1 hA.2.2.1 hI.2.2.2.2.2.2.1 (hI.2.2.2.2.2.2.2.2.1 _ hl) (fun _ q => q) hd (h p e R s m args below meth c H locs ls hI hA hL hn)
theorem go_gets1 {x : Nat} {pc' : Nat} (hd : decode F.1.2.1 pc = .ok (.getstatic x, 3)) (hl : Cond.fieldLink F.1.1.cls x "PortableFiles$Bytes" "SUM_STEPS" "[I" ∈ pmW) (h : Go E F pc' L (.ref (E.2.2.2.2 1) :: st) S k n Q) (hp : pc + 3 = pc' := by rfl) : Go E F pc L st S k n Q := by
  intro p e R s m args below meth c H locs ls hI hA hL hn
  subst hp
  exact va_gets hI.1 hI.2.1 hI.2.2.2.2.2.2.2.2.2.1.2.2.2.1 hA.2.2.1 hI.2.2.2.2.2.2.1 (hI.2.2.2.2.2.2.2.2.1 _ hl) (fun _ q => q) hd (h p e R s m args below meth c H locs ls hI hA hL hn)
theorem pmTs_at {E : pmEv} {U : State} (h : pmKn E U) : ArrOfT U E.2.2.2.1.1 .int ∧ ArrOfT U E.2.2.2.1.2.1 .long ∧ ArrOfT U E.2.2.2.1.2.2 .boolean := ⟨(h.1.2 0 _ rfl).1, (h.1.2 1 _ rfl).1, (h.1.2 2 _ rfl).1⟩
theorem go_alen {a N : Nat} {f : Nat → Int32} {v : Int32} {pc' : Nat} (hd : decode F.1.2.1 pc = .ok (.arraylength, 1)) (hh : S.1 a = some (pmI N f)) (hv : Int32.ofNat N = v) (h : Go E F pc' L (.int v :: st) S k n Q) (hp : pc + 1 = pc' := by rfl) : Go E F pc L (.ref a :: st) S k n Q := by
  intro p e R s m args below meth c H locs ls hI hA hL hn
  subst hp
  obtain ⟨h0, h1⟩ := hA.1 a _ hh
  exact W.alen hI.1 hI.2.1 h1 ((pmTs_at hI.2.2.2.2.2.2.2.2.2.1).1 _ _) (by rw [arrV_size]; exact hv) rfl rfl hd (h p e R s m args below meth c H locs ls hI hA hL hn)
theorem go_alenT {a N : Nat} {f : Nat → Int32} {v : Int32} {pc' : Nat} (hd : decode F.1.2.1 pc = .ok (.arraylength, 1)) (hh : S.1 a = some (pmT N f)) (hv : Int32.ofNat N = v) (h : Go E F pc' L (.int v :: st) S k n Q) (hp : pc + 1 = pc' := by rfl) : Go E F pc L (.ref a :: st) S k n Q := by
  intro p e R s m args below meth c H locs ls hI hA hL hn
  subst hp
  obtain ⟨cell, h1, h2, h3, h4, h5, h6, h7⟩ := hA.1 a _ hh
  exact W.alen hI.1 hI.2.1 h1 h2 (h5.trans hv) rfl rfl hd (h p e R s m args below meth c H locs ls hI hA hL hn)
theorem go_iald {a N : Nat} {f : Nat → Int32} {i v : Int32} {pc' : Nat} (hd : decode F.1.2.1 pc = .ok (.iaload, 1)) (hh : S.1 a = some (pmI N f)) (hi : vp_in i N) (hv : f i.toNatClampNeg = v) (h : Go E F pc' L (.int v :: st) S k n Q) (hp : pc + 1 = pc' := by rfl) : Go E F pc L (.int i :: .ref a :: st) S k n Q := by
  intro p e R s m args below meth c H locs ls hI hA hL hn
  subst hp
  subst hv
  obtain ⟨h0, h1⟩ := hA.1 a _ hh
  have hlt : i.toNatClampNeg < N := Nat.not_le.mp fun q => hi (Or.inr q)
  exact W.iald hI.1 hI.2.1 h1 ((pmTs_at hI.2.2.2.2.2.2.2.2.2.1).1 _ _) (fun q => by cases q) (by rw [arrV_size]; exact hi) (arrV_read _ _ hlt) rfl rfl hd (h p e R s m args below meth c H locs ls hI hA hL hn)
theorem go_ialdT {a N : Nat} {f : Nat → Int32} {i v : Int32} {pc' : Nat} (hd : decode F.1.2.1 pc = .ok (.iaload, 1)) (hh : S.1 a = some (pmT N f)) (hi : vp_in i N) (hv : f i.toNatClampNeg = v) (h : Go E F pc' L (.int v :: st) S k n Q) (hp : pc + 1 = pc' := by rfl) : Go E F pc L (.int i :: .ref a :: st) S k n Q := by
  intro p e R s m args below meth c H locs ls hI hA hL hn
  subst hp
  subst hv
  obtain ⟨cell, h1, h2, h3, h4, h5, h6, h7⟩ := hA.1 a _ hh
  have hlt : i.toNatClampNeg < N := Nat.not_le.mp fun q => hi (Or.inr q)
  have hin' : ¬ (i < 0 ∨ cell.slots.size ≤ i.toNatClampNeg) := by
    intro q
    rcases q with q | q
    · exact hi (Or.inl q)
    · omega
  exact W.iald hI.1 hI.2.1 h1 h2 h3 hin' (h6 _ hlt) rfl rfl hd (h p e R s m args below meth c H locs ls hI hA hL hn)
theorem go_lald {a N : Nat} {f : Nat → Int64} {i : Int32} {v : Int64} {pc' : Nat} (hd : decode F.1.2.1 pc = .ok (.laload, 1)) (hh : S.1 a = some (pmJ N f)) (hi : vp_in i N) (hv : f i.toNatClampNeg = v) (h : Go E F pc' L (.long v :: st) S k n Q) (hp : pc + 1 = pc' := by rfl) : Go E F pc L (.int i :: .ref a :: st) S k n Q := by
  intro p e R s m args below meth c H locs ls hI hA hL hn
  subst hp
  subst hv
  obtain ⟨h0, h1⟩ := hA.1 a _ hh
  have hlt : i.toNatClampNeg < N := Nat.not_le.mp fun q => hi (Or.inr q)
  exact W.lald hI.1 hI.2.1 h1 ((pmTs_at hI.2.2.2.2.2.2.2.2.2.1).2.1 _ _) (fun q => by cases q) (by rw [arrV_size]; exact hi) (arrV_read _ _ hlt) rfl rfl hd (h p e R s m args below meth c H locs ls hI hA hL hn)
theorem go_zald {a N : Nat} {f : Nat → Int32} {i v : Int32} {pc' : Nat} (hd : decode F.1.2.1 pc = .ok (.baload, 1)) (hh : S.1 a = some (pmB N f)) (hi : vp_in i N) (hv : f i.toNatClampNeg = v) (h : Go E F pc' L (.int v :: st) S k n Q) (hp : pc + 1 = pc' := by rfl) : Go E F pc L (.int i :: .ref a :: st) S k n Q := by
  intro p e R s m args below meth c H locs ls hI hA hL hn
  subst hp
  subst hv
  obtain ⟨h0, h1⟩ := hA.1 a _ hh
  have hlt : i.toNatClampNeg < N := Nat.not_le.mp fun q => hi (Or.inr q)
  exact W.zald hI.1 hI.2.1 h1 ((pmTs_at hI.2.2.2.2.2.2.2.2.2.1).2.2 _ _) (fun q => by cases q) (by rw [arrV_size]; exact hi) (arrV_read _ _ hlt) rfl rfl hd (h p e R s m args below meth c H locs ls hI hA hL hn)
theorem pm_updI (f : Nat → Int32) (j : Nat) (x : Int32) : updV (fun j => Value.int (f j)) j (.int x) = fun i => .int (upd f j x i) := by
  funext q
  by_cases hq : q = j
  · subst hq; simp [updV, upd]
  · simp [updV, upd, hq]
theorem pm_updJ (f : Nat → Int64) (j : Nat) (x : Int64) : updV (fun j => Value.long (f j)) j (.long x) = fun i => .long (vp_updL f j x i) := by
  funext q
  by_cases hq : q = j
  · subst hq; simp [updV, vp_updL]
  · simp [updV, vp_updL, hq]
theorem go_iast {a N : Nat} {f : Nat → Int32} {i x : Int32} {j : Nat} {pc' : Nat} (hd : decode F.1.2.1 pc = .ok (.iastore, 1)) (hh : S.1 a = some (pmI N f)) (hi : vp_in i N) (hj : i.toNatClampNeg = j) (h : Go E F pc' L st (pmU S.1 a (pmI N (upd f j x)), S.2.1, true) k n Q) (hp : pc + 1 = pc' := by rfl) : Go E F pc L (.int x :: .int i :: .ref a :: st) S k n Q := by
  intro p e R s m args below meth c H locs ls hI hA hL hn
  subst hp
  subst hj
  obtain ⟨h0, h1⟩ := hA.1 a _ hh
  refine W.iast hI.1 hI.2.1 h1 ((pmTs_at hI.2.2.2.2.2.2.2.2.2.1).1 _ _) (fun q => by cases q) (by rw [arrV_size]; exact hi) rfl rfl hd fun H1 e1 e2 e3 => ?_
  exact h p e R s m args below meth c H1 _ ls hI (hA.put h0 ⟨h0, by rw [e1, arrV_store, pm_updI]⟩ e2 e3) hL hn
theorem go_last {a N : Nat} {f : Nat → Int64} {i : Int32} {x : Int64} {j : Nat} {pc' : Nat} (hd : decode F.1.2.1 pc = .ok (.lastore, 1)) (hh : S.1 a = some (pmJ N f)) (hi : vp_in i N) (hj : i.toNatClampNeg = j) (h : Go E F pc' L st (pmU S.1 a (pmJ N (vp_updL f j x)), S.2.1, true) k n Q) (hp : pc + 1 = pc' := by rfl) : Go E F pc L (.long x :: .int i :: .ref a :: st) S k n Q := by
  intro p e R s m args below meth c H locs ls hI hA hL hn
  subst hp
  subst hj
  obtain ⟨h0, h1⟩ := hA.1 a _ hh
  refine W.last hI.1 hI.2.1 h1 ((pmTs_at hI.2.2.2.2.2.2.2.2.2.1).2.1 _ _) (fun q => by cases q) (by rw [arrV_size]; exact hi) rfl rfl hd fun H1 e1 e2 e3 => ?_
  exact h p e R s m args below meth c H1 _ ls hI (hA.put h0 ⟨h0, by rw [e1, arrV_store, pm_updJ]⟩ e2 e3) hL hn
theorem go_zast {a N : Nat} {f : Nat → Int32} {i x : Int32} {j : Nat} {pc' : Nat} (hd : decode F.1.2.1 pc = .ok (.bastore, 1)) (hh : S.1 a = some (pmB N f)) (hi : vp_in i N) (hj : i.toNatClampNeg = j) (hx : x = 0 ∨ x = 1) (h : Go E F pc' L st (pmU S.1 a (pmB N (upd f j x)), S.2.1, true) k n Q) (hp : pc + 1 = pc' := by rfl) : Go E F pc L (.int x :: .int i :: .ref a :: st) S k n Q := by
  intro p e R s m args below meth c H locs ls hI hA hL hn
  subst hp
  subst hj
  obtain ⟨h0, h1⟩ := hA.1 a _ hh
  have hx' : narrow .boolean (.int x) = .int x := by rcases hx with rfl | rfl <;> rfl
  refine W.zast hI.1 hI.2.1 h1 ((pmTs_at hI.2.2.2.2.2.2.2.2.2.1).2.2 _ _) (fun q => by cases q) (by rw [arrV_size]; exact hi) rfl rfl hd fun H1 e1 e2 e3 => ?_
  exact h p e R s m args below meth c H1 _ ls hI (hA.put h0 ⟨h0, by rw [e1, hx', arrV_store, pm_updI]⟩ e2 e3) hL hn
/-- a new object: its address is the heap's size -/
theorem go_new {x ci z N : Nat} {C : String} {T : u_T} {fs : List Value} {pc' : Nat} (hd : decode F.1.2.1 pc = .ok (.new x, 3)) (hc : pmCl[ci]? = some (C, T, N)) (hl : Cond.classLink F.1.1.cls x C ∈ pmW) (hz : S.2.1 = some z) (hfl : fs.length = N) (ty : Nat → FieldType) (hty : ∀ k, k < N → parseFieldDescriptor (T k).2.2.1 = some (ty k)) (hfs : ∀ j, j < N → defaultValue (ty j) = vp_V fs j) (hcl : k + 1 ≤ F.2.2.1) (hsl : n + N ≤ F.2.2.2)
    (h : Go E F pc' L (.ref z :: st) (pmU S.1 z (pmO ci fs), some (z + 1), true) (k + 1) (n + N) Q) (hp : pc + 3 = pc' := by rfl) : Go E F pc L st S k n Q := by
  intro p e R s m args below meth c H locs ls hI hA hL hn
  subst hp
  have hzH := hA.2.1 z hz
  subst hzH
  have hts := hI.2.2.2.2.2.2.2.2.1
  have hKn := (hI.2.2.2.2.2.2.2.2.2.1.1).1 ci _ hc
  have hb0 := hI.2.2.2.2.2.2.2.2.2.1.2.1
  obtain ⟨cin, -, -, hinst, hini⟩ := pmCk_of hc
  have hS := hA.2.2.1
  refine W.newcK hI.1 hI.2.1 hI.2.2.2.2.2.2.1 (hts _ hl) (hts _ hinst) (hts _ hini) rfl hd (by rw [hI.2.2.2.2.2.2.2.2.2.2.1.2.2.1]; exact hcl) (by rw [hI.2.2.2.2.2.2.2.2.2.2.1.2.2.2]; exact hsl) hKn.2.1 rfl fun H1 kC hkC e1 z1 o1 => ?_
  have hbH : E.2.1 ≤ H.size := Nat.le_trans hb0 hS.1
  refine h p e R s m args below meth c H1 _ ls hI ⟨hA.1.new ⟨hbH, _, hc, hfl, (u_born ty hts cin hKn hkC e1 hty).to hfs⟩ o1, fun q hq => by cases hq; exact z1, ⟨Nat.le_trans hS.1 (by omega), fun q h1 h2 => (o1 q (Nat.lt_of_lt_of_le h1 hS.1)).trans (hS.2.1 q h1 h2), hS.2.2⟩, fun q => by cases q⟩ hL hn
theorem pm_newa {c0 : pmC} {z : Nat} {i : Int32} {N : Nat} {aty : ArrayType} {ty : FieldType} {pc' : Nat} (hd : decode F.1.2.1 pc = .ok (.newarray aty, 2)) (hty : newarray.typeOf aty = ty) (hw : Cond.arrayClass ty ∈ pmW) (hz : S.2.1 = some z) (hi : ¬ i < 0) (hN : i.toNatClampNeg = N) (hby : N * componentBytes ty ≤ 536870912) (hcl : k + 1 ≤ F.2.2.1) (hsl : n + N ≤ F.2.2.2)
    (hce : ∀ (s : State) (H1 : Heap) (cA : ClassId), pmKn E s → E.2.1 ≤ z → s.vm.findClass ("[" ++ ty.toString) = some cA → H1[z]? = some (arrV cA N (fun _ => defaultValue ty)) → pmCe E s H1 z c0)
    (h : Go E F pc' L (.ref z :: st) (pmU S.1 z c0, some (z + 1), true) (k + 1) (n + N) Q) (hp : pc + 2 = pc' := by rfl) : Go E F pc L (.int i :: st) S k n Q := by
  intro p e R s m args below meth c H locs ls hI hA hL hn
  subst hp
  subst hty
  have hzH := hA.2.1 z hz
  subst hzH
  have hts := hI.2.2.2.2.2.2.2.2.1
  have hb0 := hI.2.2.2.2.2.2.2.2.2.1.2.1
  have hS := hA.2.2.1
  have hbH : E.2.1 ≤ H.size := Nat.le_trans hb0 hS.1
  refine va_newaK hI.1 hI.2.1 (hts _ hw) rfl hd rfl hi hN hby (by rw [hI.2.2.2.2.2.2.2.2.2.2.1.2.2.1]; exact hcl) (by rw [hI.2.2.2.2.2.2.2.2.2.2.1.2.2.2]; exact hsl) rfl fun H1 cA e1 z1 o1 hAr hNm => ?_
  exact h p e R s m args below meth c H1 _ ls hI ⟨hA.1.new (hce s H1 cA hI.2.2.2.2.2.2.2.2.2.1 hbH hNm e1) o1, fun q hq => by cases hq; exact z1, ⟨Nat.le_trans hS.1 (by omega), fun q h1 h2 => (o1 q (Nat.lt_of_lt_of_le h1 hS.1)).trans (hS.2.1 q h1 h2), hS.2.2⟩, fun q => by cases q⟩ hL hn
theorem go_newI {z : Nat} {i : Int32} {N : Nat} {pc' : Nat} (hd : decode F.1.2.1 pc = .ok (.newarray .int, 2)) (hz : S.2.1 = some z) (hi : ¬ i < 0) (hN : i.toNatClampNeg = N) (hby : N ≤ 4096) (hcl : k + 1 ≤ F.2.2.1) (hsl : n + N ≤ F.2.2.2)
    (h : Go E F pc' L (.ref z :: st) (pmU S.1 z (pmI N (fun _ => 0)), some (z + 1), true) (k + 1) (n + N) Q) (hp : pc + 2 = pc' := by rfl) : Go E F pc L (.int i :: st) S k n Q :=
  pm_newa hd rfl qw_I hz hi hN (by simp [componentBytes, newarray.typeOf]; omega) hcl hsl (fun s H1 cA hK hb hc e1 => by
    have h2 : s.vm.findClass ("[" ++ FieldType.int.toString) = some E.2.2.2.1.1 := (hK.1.2 0 _ rfl).2
    cases hc.symm.trans h2
    exact ⟨hb, e1⟩) h hp
theorem go_newJ {z : Nat} {i : Int32} {N : Nat} {pc' : Nat} (hd : decode F.1.2.1 pc = .ok (.newarray .long, 2)) (hz : S.2.1 = some z) (hi : ¬ i < 0) (hN : i.toNatClampNeg = N) (hby : N ≤ 4096) (hcl : k + 1 ≤ F.2.2.1) (hsl : n + N ≤ F.2.2.2)
    (h : Go E F pc' L (.ref z :: st) (pmU S.1 z (pmJ N (fun _ => 0)), some (z + 1), true) (k + 1) (n + N) Q) (hp : pc + 2 = pc' := by rfl) : Go E F pc L (.int i :: st) S k n Q :=
  pm_newa hd rfl qw_J hz hi hN (by simp [componentBytes, newarray.typeOf]; omega) hcl hsl (fun s H1 cA hK hb hc e1 => by
    have h2 : s.vm.findClass ("[" ++ FieldType.long.toString) = some E.2.2.2.1.2.1 := (hK.1.2 1 _ rfl).2
    cases hc.symm.trans h2
    exact ⟨hb, e1⟩) h hp
theorem go_newZ {z : Nat} {i : Int32} {N : Nat} {pc' : Nat} (hd : decode F.1.2.1 pc = .ok (.newarray .boolean, 2)) (hz : S.2.1 = some z) (hi : ¬ i < 0) (hN : i.toNatClampNeg = N) (hby : N ≤ 4096) (hcl : k + 1 ≤ F.2.2.1) (hsl : n + N ≤ F.2.2.2)
    (h : Go E F pc' L (.ref z :: st) (pmU S.1 z (pmB N (fun _ => 0)), some (z + 1), true) (k + 1) (n + N) Q) (hp : pc + 2 = pc' := by rfl) : Go E F pc L (.int i :: st) S k n Q :=
  pm_newa hd rfl qw_Z hz hi hN (by simp [componentBytes, newarray.typeOf]; omega) hcl hsl (fun s H1 cA hK hb hc e1 => by
    have h2 : s.vm.findClass ("[" ++ FieldType.boolean.toString) = some E.2.2.2.1.2.2 := (hK.1.2 2 _ rfl).2
    cases hc.symm.trans h2
    exact ⟨hb, e1⟩) h hp
theorem go_obj {x a : Nat} {pc' : Nat} (hd : decode F.1.2.1 pc = .ok (.invokespecial x, 3)) (hl : Cond.methodLink F.1.1.cls x objectInit ∈ pmW) (hfr : 1 ≤ F.1.2.2.2.2.2.2.2.1) (hlo : (st.map fun v => v.category).sum + 12 ≤ F.1.2.2.2.2.2.2.2.2) (h : Go E F pc' L st S k n Q) (hp : pc + 3 = pc' := by rfl) : Go E F pc L (.ref a :: st) S k n Q := by
  intro p e R s m args below meth c H locs ls hI hA hL hn
  subst hp
  have hts := hI.2.2.2.2.2.2.2.2.1
  refine W.objInit hI.1 hI.2.1 hI.2.2.2.2.2.2.1 (hts _ hl) (hts _ qw_oi) (hts _ qw_oc) rfl ?_ rfl hd (by rw [hI.2.2.2.2.2.2.2.2.2.2.1.1]; exact hfr) ?_ (h p e R s m args below meth c H locs ls hI hA hL hn)
  · rw [hI.2.2.1, ← hn]; exact hL.1
  · rw [hI.2.2.2.2.2.2.2.2.2.2.1.2.1]; simpa [JFrame.monitorRoom] using hlo
end GOH
end
section
/-! ===== methods: contracts, entries, calls that answer or throw ===== -/
def pmRm (M : pmMeth) (mc ms : Nat) : Room := { frames := M.2.2.2.2.2.2.2.1, cells := mc, slots := ms, locals := M.2.2.2.2.2.2.2.2 }
def pmPre (E : pmEv) (as : List Value) (h : pmH) (z : Option Nat) : Array Value → State → Prop := fun v U => v = as.toArray ∧ pmKn E U ∧ pmHI E U h U.heap ∧ (∀ n, z = some n → U.heap.size = n) ∧ E.1.flags = pinnedFlags ++ [noTraceFlag]
/-- a method's contract: from the map h (the heap's size z, if it is known), with room for mc cells of ms slots, it ends in Q -/
def Call (E : pmEv) (M : pmMeth) (as : List Value) (h : pmH) (z : Option Nat) (mc ms : Nat) (Q : pmA → pmS → Prop) : Prop :=
  MetFree E.1 M.1 (headSpec (pmCw M :: pmW) (pmRm M mc ms)) (pmPre E as h z) (fun _ _ _ _ _ => True) (fun _ st oc t => pmEnd E h mc ms Q st oc t)
theorem Call.mono {E : pmEv} {M : pmMeth} {as : List Value} {h : pmH} {z : Option Nat} {mc ms : Nat} {Q Q' : pmA → pmS → Prop} (hC : Call E M as h z mc ms Q) (hq : ∀ o S, Q o S → Q' o S) : Call E M as h z mc ms Q' := by
  intro p e h1 h2 h3 s m args below h4 h5 h6 h7
  obtain ⟨n, o, a1, a2, a3, oo, S, b1, b2⟩ := hC p e h1 h2 h3 s m args below h4 h5 h6 h7
  exact ⟨n, o, a1, a2, a3, oo, S, hq _ _ b1, b2⟩
def pmSl (vs : List Value) : pmL := (lg_sl vs).map (fun z => match z with
  | .val v => some v
  | _ => none)
def pmInit (M : pmMeth) (vs : List Value) : pmL := pmSl vs ++ List.replicate (M.2.2.1 - (pmSl vs).length) none
theorem pmInit_ls {M : pmMeth} {vs : List Value} (h : (pmSl vs).length ≤ M.2.2.1) : pmLs ((lg_sl vs ++ List.replicate (M.2.2.1 - (lg_sl vs).length) Slot.unset).toArray) (pmInit M vs) ∧ (pmInit M vs).length = M.2.2.1 := by
  have hlen : (pmSl vs).length = (lg_sl vs).length := by simp [pmSl]
  have hl := lv_entry vs (n := M.2.2.1) (by rw [← hlen]; exact h)
  have hL : (pmInit M vs).length = M.2.2.1 := by simp only [pmInit, List.length_append, List.length_replicate]; omega
  have hmap : pmInit M vs = (lg_sl vs ++ List.replicate (M.2.2.1 - (lg_sl vs).length) Slot.unset).map (fun z => match z with
    | .val v => some v
    | _ => none) := by
    simp [pmInit, pmSl]
  refine ⟨⟨by rw [hl.1, hL], hl.2.1, fun i v hv => ?_⟩, hL⟩
  rw [hmap, List.getElem?_map] at hv
  rw [List.getElem?_toArray]
  cases hz : (lg_sl vs ++ List.replicate (M.2.2.1 - (lg_sl vs).length) Slot.unset)[i]? with
  | none => rw [hz] at hv; simp at hv
  | some z =>
    rw [hz] at hv
    simp only [Option.map_some, Option.some.injEq] at hv
    cases z with
    | val u => simp at hv; rw [hv]
    | unset => simp at hv
    | second => simp at hv
theorem pmCw_spec {M : pmMeth} {args : Array Value} {s : State} {m : MethodId} (hn : s.methodNamed? M.1 = some m) (h : (pmCw M).before args s = true) :
    ∃ meth c, s.vm.method? m = some meth ∧ meth.code = some c ∧ c.code = M.2.1 ∧ c.maxLocals = M.2.2.1 ∧ meth.sig.returnType = M.2.2.2.1 ∧ meth.locks = false ∧
      c.exceptionTable.toList.map (fun h => (h.startPc, h.endPc, h.handlerPc, h.catchType)) = M.2.2.2.2.1 ∧ parseMethodDescriptor M.1.desc = some meth.sig := by
  obtain ⟨y, cc, ml, rt, hh, q⟩ := M
  cases hh with
  | nil =>
    obtain ⟨meth, c, h1, h2, h3, h4, h5, h6, h7, h8⟩ := Cond.code_spec hn (show (Cond.code y cc ml rt).before args s = true from h)
    exact ⟨meth, c, h1, h2, h3, h4, h5, h6, by simp [Array.isEmpty_iff.mp h7], h8⟩
  | cons a r =>
    obtain ⟨m9, meth, c, hn9, h1, h2, h3, h4, h7, h5, h6, h8⟩ := Cond.codeWith_spec (show (Cond.codeWith y cc ml rt (a :: r)).before args s = true from h)
    cases hn.symm.trans hn9
    exact ⟨meth, c, h1, h2, h3, h4, h5, h6, h7, h8⟩
theorem call_of {E : pmEv} {M : pmMeth} {vs : List Value} {hm : pmH} {z : Option Nat} {mc ms : Nat} {Q : pmA → pmS → Prop} (hok : pmOk M) (hl : (pmSl vs).length ≤ M.2.2.1) {L : pmL} (h : Go E (M, hm, mc, ms) 0 L [] (hm, z, false) 0 0 Q) (hL : pmInit M vs = L := by rfl) : Call E M vs hm z mc ms Q := by
  subst hL
  refine MetFree.of_bodySF (code := M.2.1) (maxLocals := M.2.2.1) (ret := M.2.2.2.1) hok.2.1 ?_ ?_
  · intro args s m hpre hn
    obtain ⟨meth, c, h1, h2, h3, h4, h5, h6, -, -⟩ := pmCw_spec hn (atoms_spec (ws := pmCw M :: pmW) hpre _ List.mem_cons_self)
    exact ⟨meth, c, h1, h2, h3, h4, h5, h6⟩
  · intro p e s m args below meth c s₁ B hml hP _
    obtain ⟨rfl, hKn, hHI, hz, hfl⟩ := hP
    have hts := atoms_spec (ws := pmCw M :: pmW) B.pre
    obtain ⟨meth', c', h1, h2, h3, h4, h5, h6, h7, h8⟩ := pmCw_spec B.named (hts _ List.mem_cons_self)
    cases B.method.symm.trans h1
    cases (Stand.of_body B).code.symm.trans h2
    obtain ⟨hls, hlen⟩ := pmInit_ls (M := M) (vs := vs) hl
    have hh0 : s₁.heap = s.heap := by rw [B.state]; rfl
    have hI : pmIs E (M, hm, mc, ms) p (pmRm M mc ms) s m vs.toArray meth c := ⟨B.exec, h3, h4, h5, h6, h7, findClass_of_methodNamed B.named, (name_of_methodNamed B.named B.method).1, fun w hw => hts w (List.mem_cons_of_mem _ hw), hKn, ⟨rfl, rfl, rfl, rfl⟩, hfl, hHI⟩
    have hA : pmAt E (M, hm, mc, ms) s (hm, z, false) s.heap [] := ⟨hHI, hz, va_S.rf, fun _ => ⟨rfl, rfl⟩⟩
    obtain ⟨t, a1, oc, a2, a3, a4⟩ := h p e (pmRm M mc ms) s m vs.toArray below meth c s.heap [] _ hI hA hls hlen s₁ hh0 (Stand.of_body B)
    rw [← lg_entry_eq m vs M.2.2.1] at a1
    exact ⟨t, oc, a1, a2, a3, a4⟩
/-- what stands behind a call -/
def pmBack (g : JFrame) (len : Nat) (U : State) (o : Outcome) : State := match o with
  | .returned v => U.setTop { g with pc := g.pc + len, stack := v.toList ++ g.stack }
  | .threw x => (U.setTop g).pushFrame (.throwing x)
theorem pm_bk {E : pmEv} {M : pmMeth} {vs : List Value} {hm : pmH} {z : Option Nat} {mc ms : Nat} {Qc : pmA → pmS → Prop} (hC : Call E M vs hm z mc ms Qc) (hok : pmOk M) {p : Program} {e : Env} {R : Room} {s : State} {m : MethodId} {sargs : Array Value} {below : List Frame} {meth : Method} {c : Code} {U : State} {locs : List Loc} {k n : Nat}
    (X : Stand p E.1 e R s m sargs below meth c U locs k n) {g : JFrame} (hg : g.method = m) (hsize : g.locals.size = c.maxLocals) {ig : Instr} {len : Nat} (hdg : decode c.code g.pc = .ok (ig, len)) (hW : 2 * g.monitorRoom + (g.stack.map fun v => v.category).sum ≤ 8) {mk : MethodId} (hn : U.methodNamed? M.1 = some mk)
    (hfr : M.2.2.2.2.2.2.2.1 + 1 ≤ R.frames) (hlo : 8 + (M.2.2.1 + 11) + M.2.2.2.2.2.2.2.2 ≤ R.locals) (hcl : k + mc ≤ R.cells) (hsl : n + ms ≤ R.slots)
    (hwd : ∀ w ∈ pmW, w.before sargs s = true) (hP : pmPre E vs hm z vs.toArray (U.calling g mk vs.toArray)) :
    ∃ (o : Outcome) (t U' : State) (L : List Loc) (oa : pmA) (S : pmS), Stand p E.1 e R s m sargs below meth c U' (locs ++ L) (k + mc) (n + ms) ∧ U'.heap = t.heap ∧ U'.vm = t.vm ∧ Qc oa S ∧ pmOc s t oa o ∧ (∀ q ∈ L, E.2.1 ≤ q.base) ∧ (S.2.2 = false → L = [] ∧ S.1 = hm) ∧ pmHI E s S.1 t.heap ∧ (∀ n, S.2.1 = some n → t.heap.size = n) ∧ va_F (pmA0 E) U t ∧
      Steps p.tables e below (doInvoke e (U.setTop g) [] mk vs.toArray).1 (pmBack g len U' o) := by
  have hws : ∀ w ∈ pmW, ∀ (a' : Array Value) (U' : State), s.WarmedH U'.vm → w.before a' U' = true := pay_in hwd pmW_self
  have hcw : (pmCw M).before vs.toArray U = true := hws _ hok.1.1 _ _ X.warmed
  obtain ⟨methY, cY, hmY, hcY, -, hlY, -, -, -, -⟩ := pmCw_spec hn hcw
  obtain ⟨kY, hkY, -⟩ := className_of_methodNamed hn
  have hinitY : kY.init = .initialized := Cond.initialized_spec (findClass_of_methodNamed hn) hkY (hws _ hok.1.2 vs.toArray _ X.warmed)
  have h : At U g.method c below := by rw [hg]; exact X.here
  have hpre : (headSpec (pmCw M :: pmW) (pmRm M mc ms)).pre.before vs.toArray U = true := atoms_intro fun w hw => by
    rcases List.mem_cons.mp hw with rfl | hw
    · exact hcw
    · exact hws w hw _ _ X.warmed
  have happ : (headSpec (pmCw M :: pmW) (pmRm M mc ms)).appliesLoose M.1 e.platform (U.calling g mk vs.toArray) = true :=
    Spec.appliesLoose_calling (g := g) h hdg hn hkY hinitY
      (X.room_calling (g := g) (R' := pmRm M mc ms) hsize hmY hcY hfr (by rw [hlY]; show _ + _ + M.2.2.2.2.2.2.2.2 ≤ _; omega) hcl hsl) hpre
  obtain ⟨mid, hmid⟩ := h.above
  have hfrm : (U.setTop g).frames = (.java g :: mid) ++ below := by rw [State.frames_setTop' g h.top, hmid]; rfl
  obtain ⟨o, s₂, hsteps, -, hend, hq⟩ := Steps.callFree hC p X.admits X.cas X.clock (acts := []) hfrm happ hP trivial
  rw [State.frames_setTop' g h.top] at hend
  have hq' : pmEnd E hm mc ms Qc (U.calling g mk vs.toArray) o s₂ := hq
  obtain ⟨oa, S, hQ, hoc, hW₂, ⟨L, ⟨e2, q2, q3, q4, q5, q6⟩, hL, hdirty⟩, hHI, hz, hF⟩ := hq'
  have e3 : s₂ = ({ (U.calling g mk vs.toArray).setFrames s₂.frames with heap := s₂.heap, slotsUsed := s₂.slotsUsed } : State).setVm s₂.vm := by
    have : s₂ = ({ s₂ with vm := (U.calling g mk vs.toArray).vm } : State).setVm s₂.vm := rfl
    rw [e2] at this
    exact this
  have hW' : U.WarmedH s₂.vm := hW₂
  obtain ⟨g₀, hg0⟩ := Option.isSome_iff_exists.mp h.top
  obtain ⟨r, hr⟩ := State.topJava?_eq_some.mp hg0
  have hsame : U.sameButNew ({ U with heap := s₂.heap, slotsUsed := s₂.slotsUsed } : State) L mc ms := by
    refine ⟨?_, q2, q3, q4, q5, q6⟩
    obtain ⟨t, ht, -⟩ := State.frames_cons hr
    show ({ U with heap := s₂.heap, slotsUsed := s₂.slotsUsed } : State) = { U.setFrames U.frames with heap := s₂.heap, slotsUsed := s₂.slotsUsed }
    rw [State.setFrames_self ht]
  have hr' : (({ U with heap := s₂.heap, slotsUsed := s₂.slotsUsed } : State).setVm s₂.vm).frames = .java g₀ :: r := hr
  have hst : Stand p E.1 e R s m sargs below meth c (({ U with heap := s₂.heap, slotsUsed := s₂.slotsUsed } : State).setVm s₂.vm) (locs ++ L) (k + mc) (n + ms) :=
    ⟨X.admits, X.cas, X.clock, X.frames, X.room, X.hears, X.method, X.code, (X.here.setHeapUsed s₂.heap s₂.slotsUsed).setVm hW'.alike, X.tail, State.WarmedH.trans X.warmed hW', X.limits, X.bytes, X.same.trans (hsame.setVm s.vm)⟩
  have hal : (U.calling g mk vs.toArray).vm.Alike s.vm := X.warmed.alike.symm
  have hoc' : pmOc s s₂ oa o := by
    cases oa with
    | inl v => exact hoc
    | inr x =>
      obtain ⟨a, ce, c1, c2, c3, c4⟩ := hoc
      exact ⟨a, ce, c1, c2, c3, by rw [hal.findClass]; exact c4⟩
  refine ⟨o, s₂, (({ U with heap := s₂.heap, slotsUsed := s₂.slotsUsed } : State).setVm s₂.vm), L, oa, S, hst, rfl, rfl, hQ, hoc', hL, hdirty, hHI.moved hal, hz, hF, ?_⟩
  cases o with
  | returned v =>
    obtain ⟨c₂, i₂, len₂, hc₂, hd₂, hf₂⟩ := hend
    have hcc : c₂ = c := by
      have h1 : s₂.code? g.method = U.code? g.method := by
        rw [State.code?_eq, State.code?_eq, hW'.alike.method?]
      exact Option.some.inj (hc₂.symm.trans (h1.trans h.code))
    subst hcc
    have hlen : len₂ = len := by rw [hdg] at hd₂; cases hd₂; rfl
    subst hlen
    have hs₂ : s₂ = (({ U with heap := s₂.heap, slotsUsed := s₂.slotsUsed } : State).setVm s₂.vm).setTop { g with pc := g.pc + len₂, stack := v.toList ++ g.stack } := by
      refine e3.trans ?_
      rw [hf₂, State.calling_eq h.top, State.setFrames_setFrames, State.setTop_of_frames _ hr', hr]
      rfl
    show Steps p.tables e below _ ((({ U with heap := s₂.heap, slotsUsed := s₂.slotsUsed } : State).setVm s₂.vm).setTop { g with pc := g.pc + len₂, stack := v.toList ++ g.stack })
    rw [← hs₂]
    exact hsteps
  | threw v =>
    have hf₂ : s₂.frames = .throwing v :: .java g :: U.frames.tail := hend
    have hs₂ : s₂ = ((({ U with heap := s₂.heap, slotsUsed := s₂.slotsUsed } : State).setVm s₂.vm).setTop g).pushFrame (.throwing v) := by
      refine e3.trans ?_
      rw [hf₂, State.calling_eq h.top, State.setFrames_setFrames, State.pushFrame, State.frames_setTop _ hr', State.setTop_of_frames _ hr', State.setFrames_setFrames, hr]
      rfl
    show Steps p.tables e below _ (((({ U with heap := s₂.heap, slotsUsed := s₂.slotsUsed } : State).setVm s₂.vm).setTop g).pushFrame (.throwing v))
    rw [← hs₂]
    exact hsteps
end
section
/-! ===== ends, calls, throws ===== -/
section GOI
variable {E : pmEv} {F : pmFr} {pc : Nat} {L : pmL} {st : List Value} {S : pmS} {k n : Nat} {Q : pmA → pmS → Prop}
theorem pm_end {s : State} {H : Heap} {locs : List Loc} {below : List Frame} {args : Array Value} {t : State} {v : Option Value} (hA : pmAt E F s S H locs) (hq : Q (.inl v) S) (h : MQ below (fun _ _ oc t => oc = .returned v ∧ t.heap = H) args s F.2.2.1 F.2.2.2 (fun q => E.2.1 ≤ q ∧ S.2.2 = true) t) : pmZ E F Q below s t := by
  obtain ⟨oc, b1, b2, ⟨rfl, hh⟩, Lc, ⟨-, hWm, hsame⟩, hf⟩ := h
  refine ⟨_, b1, b2, .inl v, S, hq, rfl, hWm, ⟨Lc, hsame, fun q h => (hf q h).1, fun hd => ⟨?_, (hA.2.2.2 hd).2⟩⟩, by rw [hh]; exact hA.1, fun z hz => by rw [hh]; exact hA.2.1 z hz, hA.2.2.1.F hh⟩
  cases Lc with
  | nil => rfl
  | cons q r =>
    have := (hf q List.mem_cons_self).2
    rw [hd] at this
    cases this
theorem pm_free {s : State} {H : Heap} {locs : List Loc} (hA : pmAt E F s S H locs) : ∀ q ∈ locs, (fun q => E.2.1 ≤ q ∧ S.2.2 = true) q.base := by
  intro q hq
  refine ⟨hA.2.2.1.2.2 q hq, ?_⟩
  cases hS : S.2.2 with
  | true => rfl
  | false =>
    rw [(hA.2.2.2 hS).1] at hq
    cases hq
theorem go_iret {v : Int32} {ty : FieldType} (hd : decode F.1.2.1 pc = .ok (.ireturn, 1)) (hr : F.1.2.2.2.1 = some ty) (hv : narrow ty (.int v) = .int v) (hq : Q (.inl (some (.int v))) S) (hk : k ≤ F.2.2.1) (hn' : n ≤ F.2.2.2) : Go E F pc L [.int v] S k n Q := by
  intro p e R s m args below meth c H locs ls hI hA hL hn
  refine W.widen hk hn' ?_
  intro T hT X
  obtain ⟨t, a1, b⟩ := W.zret (Qc := fun _ _ oc t => oc = .returned (some (.int v)) ∧ t.heap = H) (free := fun q => E.2.1 ≤ q ∧ S.2.2 = true) hI.1 hI.2.1 (hI.2.2.2.1.trans hr) hv (fun t ht _ => ⟨rfl, ht⟩) (pm_free hA) hd hI.2.2.2.2.1 T hT X
  exact ⟨t, a1, pm_end hA hq b⟩
theorem go_vret (hd : decode F.1.2.1 pc = .ok (.return_, 1)) (hr : F.1.2.2.2.1 = none) (hq : Q (.inl none) S) (hk : k ≤ F.2.2.1) (hn' : n ≤ F.2.2.2) : Go E F pc L [] S k n Q := by
  intro p e R s m args below meth c H locs ls hI hA hL hn
  refine W.widen hk hn' ?_
  intro T hT X
  obtain ⟨t, a1, b⟩ := W.vret (Qc := fun _ _ oc t => oc = .returned none ∧ t.heap = H) (free := fun q => E.2.1 ≤ q ∧ S.2.2 = true) hI.1 hI.2.1 (hI.2.2.2.1.trans hr) (fun t ht _ => ⟨rfl, ht⟩) (pm_free hA) hd hI.2.2.2.2.1 T hT X
  exact ⟨t, a1, pm_end hA hq b⟩
/-- an exception stands over the frame at pc -/
def GoT (E : pmEv) (F : pmFr) (pc : Nat) (L : pmL) (S : pmS) (k n : Nat) (Q : pmA → pmS → Prop) (x : Nat) : Prop :=
  ∀ (p : Program) (e : Env) (R : Room) (s : State) (m : MethodId) (args : Array Value) (below : List Frame) (meth : Method) (c : Code) (H : Heap) (locs : List Loc) (ls : Array Slot),
    pmIs E F p R s m args meth c → pmAt E F s S H locs → pmLs ls L → L.length = F.1.2.2.1 → ∀ (a : Addr) (ce : Cell) (st : List Value), H[a]? = some ce → ce.vm.isStatics = false → s.vm.findClass (pmXs.getD x "") = some ce.cls →
    ∀ T : State, T.heap = H → Stand p E.1 e R s m args below meth c T locs k n → ∃ t, Steps p.tables e below ((T.setTop (F0 m pc ls st)).pushFrame (.throwing a)) t ∧ pmZ E F Q below s t
theorem got_out {x : Nat} (hh : F.1.2.2.2.2.1 = []) (hq : Q (.inr x) S) (hk : k ≤ F.2.2.1) (hn' : n ≤ F.2.2.2) : GoT E F pc L S k n Q x := by
  intro p e R s m args below meth c H locs ls hI hA hL hn a ce st hce hcs hcc T hT X
  have hlocks := hI.2.2.2.2.1
  have hout : ∀ y ∈ c.exceptionTable.toList, covers y (F0 m pc ls st).pc = false := by
    intro y hy
    have h6 := hI.2.2.2.2.2.1
    rw [hh] at h6
    rw [List.map_eq_nil_iff.mp h6] at hy
    cases hy
  obtain ⟨h1, h2, h3, h4, h5⟩ := X.leaveThrown a (g := F0 m pc ls st) rfl rfl rfl hout
  refine ⟨_, h1, .threw a, h2, h3, .inr x, S, hq, ⟨a, ce, rfl, by rw [← hT] at hce; exact hce, hcs, hcc⟩, h4, ⟨locs, h5.mono hk hn', hA.2.2.1.2.2, hA.2.2.2⟩, ?_, ?_, ?_⟩
  · show pmHI E s S.1 T.heap
    rw [hT]; exact hA.1
  · intro z hz
    show T.heap.size = z
    rw [hT]; exact hA.2.1 z hz
  · exact hA.2.2.1.F hT
/-- behind a call: what the callee answered or threw -/
theorem pm_after {M : pmMeth} {vs rest st0 : List Value} {mc ms : Nat} {Qc : pmA → pmS → Prop} {pc' : Nat} (hC : Call E M vs S.1 S.2.1 mc ms Qc) (hok : pmOk M) (hfr : M.2.2.2.2.2.2.2.1 + 1 ≤ F.1.2.2.2.2.2.2.2.1) (hlo : 8 + (M.2.2.1 + 11) + M.2.2.2.2.2.2.2.2 ≤ F.1.2.2.2.2.2.2.2.2) (hcl : k + mc ≤ F.2.2.1) (hsl : n + ms ≤ F.2.2.2) (hW : (rest.map fun v => v.category).sum ≤ 8)
    (kr : ∀ v S', Qc (.inl v) S' → Go E F pc' L (v.toList ++ rest) (S'.1, S'.2.1, S.2.2 || S'.2.2) (k + mc) (n + ms) Q) (kt : ∀ x S', Qc (.inr x) S' → GoT E F pc L (S'.1, S'.2.1, S.2.2 || S'.2.2) (k + mc) (n + ms) Q x) (hp : pc + 3 = pc')
    {p : Program} {e : Env} {R : Room} {s : State} {m : MethodId} {args : Array Value} {below : List Frame} {meth : Method} {c : Code} {H : Heap} {locs : List Loc} {ls : Array Slot} (hI : pmIs E F p R s m args meth c) (hA : pmAt E F s S H locs) (hL : pmLs ls L) (hn : L.length = F.1.2.2.1)
    {ig : Instr} (hd : decode F.1.2.1 pc = .ok (ig, 3))
    {T : State} (hT : T.heap = H) (X : Stand p E.1 e R s m args below meth c T locs k n) {vm₁ : Vm} (X₁ : Stand p E.1 e R s m args below meth c (T.setVm vm₁) locs k n) {mk : MethodId} (hnamed : s.methodNamed? M.1 = some mk)
    (hstep : ∀ target, (∀ acts, Steps p.tables e below (doInvoke e ((T.setVm vm₁).setTop (F0 m pc ls rest)) acts mk vs.toArray).1 target) → Steps p.tables e below (T.setTop (F0 m pc ls st0)) target) :
    ∃ t, Steps p.tables e below (T.setTop (F0 m pc ls st0)) t ∧ pmZ E F Q below s t := by
  subst hp
  have hR := hI.2.2.2.2.2.2.2.2.2.2.1
  have hS := hA.2.2.1
  have hKU : pmKn E (T.setVm vm₁) := (hI.2.2.2.2.2.2.2.2.2.1).go X₁.warmed (H := H) (locs := locs) hT hS
  have hP : pmPre E vs S.1 S.2.1 vs.toArray ((T.setVm vm₁).calling (F0 m pc ls rest) mk vs.toArray) := by
    have hal : s.vm.Alike ((T.setVm vm₁).calling (F0 m pc ls rest) mk vs.toArray).vm := X₁.warmed.alike
    have hh : ((T.setVm vm₁).calling (F0 m pc ls rest) mk vs.toArray).heap = H := hT
    refine ⟨rfl, (hI.2.2.2.2.2.2.2.2.2.1).go (U := (T.setVm vm₁).calling (F0 m pc ls rest) mk vs.toArray) X₁.warmed hh hS, ?_, ?_, hI.2.2.2.2.2.2.2.2.2.2.2.1⟩
    · rw [hh]; exact hA.1.moved hal
    · rw [hh]; exact hA.2.1
  obtain ⟨o, t, U', Lc, oa, S', X', e1, e2, hQ, hoc, hLc, hdirty, hHI, hz, hF, hsteps⟩ := pm_bk hC hok X₁ (g := F0 m pc ls rest) rfl (by show ls.size = _; rw [hI.2.2.1, ← hn]; exact hL.1) (ig := ig) (len := 3) (by rw [hI.2.1]; exact hd) (by simpa [JFrame.monitorRoom] using hW) (X₁.named hnamed)
    (by rw [hR.1]; exact hfr) (by rw [hR.2.1]; exact hlo) (by rw [hR.2.2.1]; exact hcl) (by rw [hR.2.2.2]; exact hsl) hI.2.2.2.2.2.2.2.2.1 hP
  have hF' : va_F (pmA0 E) T t := hF
  have hA' : pmAt E F s (S'.1, S'.2.1, S.2.2 || S'.2.2) t.heap (locs ++ Lc) := by
    refine ⟨hHI, hz, ⟨Nat.le_trans hS.1 (by rw [← hT]; exact hF'.1), fun q h1 h2 => ?_, fun q hq => ?_⟩, fun hd => ?_⟩
    · rw [hF'.2 q (Nat.lt_of_lt_of_le h1 (by rw [hT]; exact hS.1)) h2, hT]
      exact hS.2.1 q h1 h2
    · rcases List.mem_append.mp hq with h | h
      · exact hS.2.2 q h
      · exact hLc q h
    · have hd' : S.2.2 = false ∧ S'.2.2 = false := by simpa using hd
      obtain ⟨h1, h2⟩ := hA.2.2.2 hd'.1
      exact ⟨by rw [h1, (hdirty hd'.2).1]; rfl, (hdirty hd'.2).2.trans h2⟩
  have hgo : ∀ target, Steps p.tables e below (pmBack (F0 m pc ls rest) 3 U' o) target → Steps p.tables e below (T.setTop (F0 m pc ls st0)) target := fun target h => hstep _ fun acts => by rw [doInvoke_state]; exact hsteps.trans h
  cases oa with
  | inl v =>
    have ho : o = .returned v := hoc
    subst ho
    obtain ⟨t2, a1, b1⟩ := kr v S' hQ p e R s m args below meth c t.heap (locs ++ Lc) ls hI hA' hL hn U' e1 X'
    exact ⟨t2, hgo t2 a1, b1⟩
  | inr x =>
    obtain ⟨a, ce, ho, c2, c3, c4⟩ := hoc
    subst ho
    obtain ⟨t2, a1, b1⟩ := kt x S' hQ p e R s m args below meth c t.heap (locs ++ Lc) ls hI hA' hL hn a ce rest c2 c3 c4 U' e1 X'
    exact ⟨t2, hgo t2 a1, b1⟩
theorem go_stat {x : Nat} {M : pmMeth} {vs rest st0 : List Value} {mc ms : Nat} {Qc : pmA → pmS → Prop} {pc' : Nat} (hd : decode F.1.2.1 pc = .ok (.invokestatic x, 3)) (hok : pmOk M) (hst : Cond.static M.1 ∈ pmW) (hl : Cond.methodLink F.1.1.cls x M.1 ∈ pmW) (hC : Call E M vs S.1 S.2.1 mc ms Qc)
    (kr : ∀ v S', Qc (.inl v) S' → Go E F pc' L (v.toList ++ rest) (S'.1, S'.2.1, S.2.2 || S'.2.2) (k + mc) (n + ms) Q) (kt : ∀ x S', Qc (.inr x) S' → GoT E F pc L (S'.1, S'.2.1, S.2.2 || S'.2.2) (k + mc) (n + ms) Q x)
    (hs0 : st0 = vs.reverse ++ rest := by rfl) (hnp : (parseMethodDescriptor M.1.desc).map (fun d => d.parameters.length) = some vs.length := by decide +kernel) (hfr : M.2.2.2.2.2.2.2.1 + 1 ≤ F.1.2.2.2.2.2.2.2.1 := by decide) (hlo : 8 + (M.2.2.1 + 11) + M.2.2.2.2.2.2.2.2 ≤ F.1.2.2.2.2.2.2.2.2 := by decide) (hcl : k + mc ≤ F.2.2.1 := by decide) (hsl : n + ms ≤ F.2.2.2 := by decide) (hW : (rest.map fun v => v.category).sum ≤ 8 := by decide) (hp : pc + 3 = pc' := by rfl) : Go E F pc L st0 S k n Q := by
  intro p e R s m args below meth c H locs ls hI hA hL hn T hT X
  have hts := hI.2.2.2.2.2.2.2.2.1
  obtain ⟨mk, hnamed⟩ : ∃ mk, s.methodNamed? M.1 = some mk := by
    have h := hts _ hst
    cases hm : s.methodNamed? M.1 with
    | none => simp [Cond.before, Cond.holds, Cond.value, hm] at h
    | some mk => exact ⟨mk, rfl⟩
  obtain ⟨methM, cM, hmethM, -, -, -, -, -, -, hsigM⟩ := pmCw_spec hnamed (hts _ hok.1.1)
  have hstatic : methM.isStatic = true := Cond.static_spec hnamed hmethM (hts _ hst)
  obtain ⟨kP, hkP, -⟩ := className_of_methodNamed hnamed
  have hinitP : kP.init = .initialized := Cond.initialized_spec (findClass_of_methodNamed hnamed) hkP (hts _ hok.1.2)
  have hlen : vs.length = methM.sig.parameters.length := by
    rw [hsigM] at hnp
    exact (Option.some.inj hnp).symm
  obtain ⟨vm₁, X₁, hstep₁⟩ := X.invokestatic hI.1 hI.2.2.2.2.2.2.1 (hts _ hl) hnamed hmethM hstatic hkP hinitP hok.2.2 (g := F0 m pc ls st0) rfl (argsL := vs) (rest := rest) hlen hs0 (by rw [hI.2.1]; exact hd)
  exact pm_after hC hok hfr hlo hcl hsl hW kr kt hp hI hA hL hn hd hT X X₁ hnamed hstep₁
theorem go_virt {x b ci : Nat} {fs : List Value} {r : vw_C} {M : pmMeth} {vs rest st0 : List Value} {mc ms : Nat} {Qc : pmA → pmS → Prop} {pc' : Nat} (hd : decode F.1.2.1 pc = .ok (.invokevirtual x, 3)) (hok : pmOk M) (him : Cond.instanceMethod M.1 ∈ pmW) (hse : Cond.selects M.1.cls M.1 M.1 ∈ pmW) (hl : Cond.methodLink F.1.1.cls x M.1 ∈ pmW) (hb : S.1 b = some (pmO ci fs)) (hC : Call E M (.ref b :: vs) S.1 S.2.1 mc ms Qc)
    (kr : ∀ v S', Qc (.inl v) S' → Go E F pc' L (v.toList ++ rest) (S'.1, S'.2.1, S.2.2 || S'.2.2) (k + mc) (n + ms) Q) (kt : ∀ x S', Qc (.inr x) S' → GoT E F pc L (S'.1, S'.2.1, S.2.2 || S'.2.2) (k + mc) (n + ms) Q x)
    (hr : pmCl[ci]? = some r := by rfl) (hrc : r.1 = M.1.cls := by rfl) (hs0 : st0 = vs.reverse ++ .ref b :: rest := by rfl) (hnp : (parseMethodDescriptor M.1.desc).map (fun d => d.parameters.length) = some vs.length := by decide +kernel) (hfr : M.2.2.2.2.2.2.2.1 + 1 ≤ F.1.2.2.2.2.2.2.2.1 := by decide) (hlo : 8 + (M.2.2.1 + 11) + M.2.2.2.2.2.2.2.2 ≤ F.1.2.2.2.2.2.2.2.2 := by decide) (hcl : k + mc ≤ F.2.2.1 := by decide) (hsl : n + ms ≤ F.2.2.2 := by decide) (hW : (rest.map fun v => v.category).sum ≤ 8 := by decide) (hp : pc + 3 = pc' := by rfl) : Go E F pc L st0 S k n Q := by
  intro p e R s m args below meth c H locs ls hI hA hL hn T hT X
  have hts := hI.2.2.2.2.2.2.2.2.1
  obtain ⟨mk, methM, hnamed, hmethM, hstM, habM⟩ := Cond.instanceMethod_spec (hts _ him)
  obtain ⟨methM', cM, hmethM', -, -, -, -, -, -, hsigM⟩ := pmCw_spec hnamed (hts _ hok.1.1)
  cases hmethM.symm.trans hmethM'
  obtain ⟨c2, r2, m2, q1, q2, q3, q4, kP, hkP, hkPi⟩ := Cond.selects_spec (hts _ hse)
  obtain ⟨-, r', h1, -, cellB, hcB, hcls, hvm, -⟩ := hA.1 b _ hb
  cases h1.symm.trans hr
  obtain ⟨-, hfc, -⟩ := (hI.2.2.2.2.2.2.2.2.2.1.1).1 ci _ h1
  rw [hrc] at hfc
  cases hfc.symm.trans q1
  cases (State.methodFound?_of_named hnamed hok.2.2).symm.trans q2
  cases hnamed.symm.trans q3
  have hselP : selectMethod e.platform s.vm cellB.cls mk = .method mk := by rw [Launch.admits_selectMethod X.admits, hcls]; exact q4
  have hlen : vs.length = methM.sig.parameters.length := by
    rw [hsigM] at hnp
    exact (Option.some.inj hnp).symm
  obtain ⟨vm₁, X₁, hstep₁⟩ := X.invokevirtual hI.1 hI.2.2.2.2.2.2.1 (hts _ hl) hnamed hmethM hstM hkP hkPi hok.2.2 (a := b) (cell := cellB) (by rw [hT]; exact hcB)
    (fun z h => by rw [hvm] at h; cases h) hselP hmethM habM hkP hkPi (g := F0 m pc ls st0) rfl (argsL := vs) (rest := rest) hlen hs0 (by rw [hI.2.1]; exact hd)
  exact pm_after hC hok hfr hlo hcl hsl hW kr kt hp hI hA hL hn hd hT X X₁ hnamed hstep₁
theorem go_init {x b : Nat} {M : pmMeth} {vs rest st0 : List Value} {mc ms : Nat} {Qc : pmA → pmS → Prop} {pc' : Nat} (hd : decode F.1.2.1 pc = .ok (.invokespecial x, 3)) (hok : pmOk M) (him : Cond.instanceMethod M.1 ∈ pmW) (hcd : Cond.code M.1 M.2.1 M.2.2.1 none ∈ pmW) (hl : Cond.methodLink F.1.1.cls x M.1 ∈ pmW ∨ Cond.methodLinkNest F.1.1.cls x M.1 "PortableFiles" ∈ pmNest) (hC : Call E M (.ref b :: vs) S.1 S.2.1 mc ms Qc)
    (kr : ∀ v S', Qc (.inl v) S' → Go E F pc' L (v.toList ++ rest) (S'.1, S'.2.1, S.2.2 || S'.2.2) (k + mc) (n + ms) Q) (kt : ∀ x S', Qc (.inr x) S' → GoT E F pc L (S'.1, S'.2.1, S.2.2 || S'.2.2) (k + mc) (n + ms) Q x)
    (hy1 : M.1.name = "<init>" := by rfl) (hs0 : st0 = vs.reverse ++ .ref b :: rest := by rfl) (hnp : (parseMethodDescriptor M.1.desc).map (fun d => d.parameters.length) = some vs.length := by decide +kernel) (hfr : M.2.2.2.2.2.2.2.1 + 1 ≤ F.1.2.2.2.2.2.2.2.1 := by decide) (hlo : 8 + (M.2.2.1 + 11) + M.2.2.2.2.2.2.2.2 ≤ F.1.2.2.2.2.2.2.2.2 := by decide) (hcl : k + mc ≤ F.2.2.1 := by decide) (hsl : n + ms ≤ F.2.2.2 := by decide) (hW : (rest.map fun v => v.category).sum ≤ 8 := by decide) (hp : pc + 3 = pc' := by rfl) : Go E F pc L st0 S k n Q := by
  intro p e R s m args below meth c H locs ls hI hA hL hn T hT X
  have hts := hI.2.2.2.2.2.2.2.2.1
  have hpl : e.platform.magicAccessors = ({} : Platform).magicAccessors := by rw [X.admits.platform]
  have hlen : ∀ sig, parseMethodDescriptor M.1.desc = some sig → vs.length = sig.parameters.length := fun sig h => by
    rw [h] at hnp
    exact (Option.some.inj hnp).symm
  rcases hl with hl | hl
  · obtain ⟨mk, methM, cM, kP, vm₁, hnamed, hmethM, hcodeM, -, hlocalsM, -, hkP, -, hW₁, hstep₁⟩ := Steps.initColdArgs (e := e) X.here hI.1 X.warmed hpl hI.2.2.2.2.2.2.1 hy1 hok.2.2 (hts _ hl) (hts _ him) (hts _ hcd) (f := F0 m pc ls st0) rfl hlen hs0 (by rw [hI.2.1]; exact hd)
    exact pm_after hC hok hfr hlo hcl hsl hW kr kt hp hI hA hL hn hd hT X (X.noted hW₁) hnamed hstep₁
  · have hl' : (Cond.methodLinkNest F.1.1.cls x M.1 "PortableFiles").before args s = true := va_Nw.use rfl ((hI.2.2.2.2.2.2.2.2.2.1).2.2.2.2.2.2.1 _ hl)
    obtain ⟨mk, methM, cM, kP, vm₁, hnamed, hmethM, hcodeM, -, hlocalsM, -, hkP, -, hW₁, hstep₁⟩ := Steps.initColdArgsNest (e := e) X.here hI.1 X.warmed hpl hI.2.2.2.2.2.2.1 hy1 hok.2.2 hl' (hts _ him) (hts _ hcd) (f := F0 m pc ls st0) rfl hlen hs0 (by rw [hI.2.1]; exact hd)
    exact pm_after hC hok hfr hlo hcl hsl hW kr kt hp hI hA hL hn hd hT X (X.noted hW₁) hnamed hstep₁
end GOI
end
section
/-! ===== throws and catches (the words of the four exceptions printed by wip/whole/gen_throw.py) ===== -/
/-- the words of a throw that are no lasting words of the tables -/
def pmBad (X : String) : List Cond := [.laysStatic "java/lang/Throwable" "UNASSIGNED_STACK" "[Ljava/lang/StackTraceElement;", .laysStatic "java/lang/Throwable" "SUPPRESSED_SENTINEL" "Ljava/util/List;", .declares ⟨"java/lang/RuntimeException", "<init>", "(Ljava/lang/String;)V"⟩, .declares ⟨"java/lang/Exception", "<init>", "(Ljava/lang/String;)V"⟩, .declares ⟨"java/lang/Throwable", "<init>", "(Ljava/lang/String;)V"⟩, .castable X X, .isRef (.static "java/lang/Throwable" "UNASSIGNED_STACK" "[Ljava/lang/StackTraceElement;"), .isRef (.static "java/lang/Throwable" "SUPPRESSED_SENTINEL" "Ljava/util/List;")]
theorem qa_0 : ∀ w ∈ (Bundle.ownAtoms "PortableFiles" 59 "java/lang/IllegalStateException" ["java/lang/RuntimeException", "java/lang/Exception"]).filter goodWord, w ∈ pmW := pmWs [11, 561, 570, 575, 578, 580, 562, 563, 30, 31, 564, 569, 576, 596, 551, 597, 553, 598, 555, 565, 567, 557, 592, 593, 595, 557, 629, 630, 631, 586, 586, 587, 588, 589, 589, 590, 591, 592, 628, 619, 621, 572, 622, 623, 624, 625, 560, 559, 626] (by decide +kernel) (by decide +kernel)
theorem qb_0 : (Bundle.ownAtoms "PortableFiles" 59 "java/lang/IllegalStateException" ["java/lang/RuntimeException", "java/lang/Exception"]).filter (fun w => !goodWord w) = pmBad "java/lang/IllegalStateException" := by decide +kernel
theorem qX_0 : Jvm.Cond.instantiable "java/lang/IllegalStateException" (6) ∈ pmW := pmW_tb (i := 619) (by decide +kernel) rfl
theorem qY_0 : Jvm.Cond.initialized "java/lang/IllegalStateException" ∈ pmW := pmW_tb (i := 16) (by decide +kernel) rfl
theorem qa_1 : ∀ w ∈ (Bundle.ownAtoms "PortableFiles" 40 "java/lang/IllegalArgumentException" ["java/lang/RuntimeException", "java/lang/Exception"]).filter goodWord, w ∈ pmW := pmWs [11, 561, 570, 575, 578, 580, 562, 563, 30, 31, 564, 569, 576, 596, 551, 597, 553, 598, 555, 565, 567, 557, 592, 593, 595, 557, 583, 584, 585, 586, 586, 587, 588, 589, 589, 590, 591, 592, 582, 540, 548, 549, 550, 552, 554, 556, 560, 559, 558] (by decide +kernel) (by decide +kernel)
theorem qb_1 : (Bundle.ownAtoms "PortableFiles" 40 "java/lang/IllegalArgumentException" ["java/lang/RuntimeException", "java/lang/Exception"]).filter (fun w => !goodWord w) = pmBad "java/lang/IllegalArgumentException" := by decide +kernel
theorem qX_1 : Jvm.Cond.instantiable "java/lang/IllegalArgumentException" (6) ∈ pmW := pmW_tb (i := 540) (by decide +kernel) rfl
theorem qY_1 : Jvm.Cond.initialized "java/lang/IllegalArgumentException" ∈ pmW := pmW_tb (i := 14) (by decide +kernel) rfl
theorem qa_2 : ∀ w ∈ (Bundle.ownAtoms "PortableFiles" 104 "java/lang/IndexOutOfBoundsException" ["java/lang/RuntimeException", "java/lang/Exception"]).filter goodWord, w ∈ pmW := pmWs [11, 561, 570, 575, 578, 580, 562, 563, 30, 31, 564, 569, 576, 596, 551, 597, 553, 598, 555, 565, 567, 557, 592, 593, 595, 557, 699, 700, 701, 586, 586, 587, 588, 589, 589, 590, 591, 592, 698, 689, 691, 573, 692, 693, 694, 695, 560, 559, 696] (by decide +kernel) (by decide +kernel)
theorem qb_2 : (Bundle.ownAtoms "PortableFiles" 104 "java/lang/IndexOutOfBoundsException" ["java/lang/RuntimeException", "java/lang/Exception"]).filter (fun w => !goodWord w) = pmBad "java/lang/IndexOutOfBoundsException" := by decide +kernel
theorem qX_2 : Jvm.Cond.instantiable "java/lang/IndexOutOfBoundsException" (6) ∈ pmW := pmW_tb (i := 689) (by decide +kernel) rfl
theorem qY_2 : Jvm.Cond.initialized "java/lang/IndexOutOfBoundsException" ∈ pmW := pmW_tb (i := 21) (by decide +kernel) rfl
theorem qa_3 : ∀ w ∈ (Bundle.ownAtoms "PortableFiles" 86 "java/lang/UnsupportedOperationException" ["java/lang/RuntimeException", "java/lang/Exception"]).filter goodWord, w ∈ pmW := pmWs [11, 561, 570, 575, 578, 580, 562, 563, 30, 31, 564, 569, 576, 596, 551, 597, 553, 598, 555, 565, 567, 557, 592, 593, 595, 557, 650, 651, 652, 586, 586, 587, 588, 589, 589, 590, 591, 592, 649, 640, 642, 574, 643, 644, 645, 646, 560, 559, 647] (by decide +kernel) (by decide +kernel)
theorem qb_3 : (Bundle.ownAtoms "PortableFiles" 86 "java/lang/UnsupportedOperationException" ["java/lang/RuntimeException", "java/lang/Exception"]).filter (fun w => !goodWord w) = pmBad "java/lang/UnsupportedOperationException" := by decide +kernel
theorem qX_3 : Jvm.Cond.instantiable "java/lang/UnsupportedOperationException" (6) ∈ pmW := pmW_tb (i := 640) (by decide +kernel) rfl
theorem qY_3 : Jvm.Cond.initialized "java/lang/UnsupportedOperationException" ∈ pmW := pmW_tb (i := 18) (by decide +kernel) rfl
/-- the constructors' places in PortableFiles, and the exceptions -/
def pmXi : List (Nat × String) := [(59, "java/lang/IllegalStateException"), (40, "java/lang/IllegalArgumentException"), (104, "java/lang/IndexOutOfBoundsException"), (86, "java/lang/UnsupportedOperationException")]
theorem pmXi_ok : ∀ q ∈ pmXi, (∀ w ∈ (Bundle.ownAtoms "PortableFiles" q.1 q.2 ["java/lang/RuntimeException", "java/lang/Exception"]).filter goodWord, w ∈ pmW) ∧ (Bundle.ownAtoms "PortableFiles" q.1 q.2 ["java/lang/RuntimeException", "java/lang/Exception"]).filter (fun w => !goodWord w) = pmBad q.2 ∧ q.2 ∈ pmXs ∧ Cond.instantiable q.2 6 ∈ pmW ∧ Cond.initialized q.2 ∈ pmW ∧ Bundle.fit q.2 = true := by
  intro q hq
  simp only [pmXi, List.mem_cons, List.not_mem_nil, or_false] at hq
  rcases hq with rfl | rfl | rfl | rfl
  · exact ⟨qa_0, qb_0, by simp [pmXs], qX_0, qY_0, by decide +kernel⟩
  · exact ⟨qa_1, qb_1, by simp [pmXs], qX_1, qY_1, by decide +kernel⟩
  · exact ⟨qa_2, qb_2, by simp [pmXs], qX_2, qY_2, by decide +kernel⟩
  · exact ⟨qa_3, qb_3, by simp [pmXs], qX_3, qY_3, by decide +kernel⟩
theorem pm_isRef {E : pmEv} {s : State} {C nm d : String} {args : Array Value} (h : va_Zq C nm d (pmA0 E) s s.heap) : (Cond.isRef (.static C nm d)).before args s = true := by
  rcases h with h | ⟨t, h⟩
  · obtain ⟨cf, kf, fi, f, a, cell, h1, h2, h3, h4, h5, h6, h7, -⟩ := h
    simp [Cond.before, Cond.holds, Cond.value, Term.eval, State.fieldNamed?, h1, h2, h4, h5, h6, h7]
  · obtain ⟨cf, kf, fi, f, a, cell, h1, h2, h3, h4, h5, h6, h7, -⟩ := h
    simp [Cond.before, Cond.holds, Cond.value, Term.eval, State.fieldNamed?, h1, h2, h4, h5, h6, h7]
theorem pm_atoms {E : pmEv} {s : State} {args : Array Value} {q : Nat × String} (hq : q ∈ pmXi) (hts : ∀ w ∈ pmW, w.before args s = true) (hK : pmKn E s) : ∀ a ∈ Bundle.ownAtoms "PortableFiles" q.1 q.2 ["java/lang/RuntimeException", "java/lang/Exception"], a.before args s = true := by
  obtain ⟨h1, h2, hx, -⟩ := pmXi_ok q hq
  intro a ha
  cases hg : goodWord a with
  | true => exact hts _ (h1 a (List.mem_filter.mpr ⟨ha, hg⟩))
  | false =>
    have h3 : a ∈ (Bundle.ownAtoms "PortableFiles" q.1 q.2 ["java/lang/RuntimeException", "java/lang/Exception"]).filter (fun w => !goodWord w) := List.mem_filter.mpr ⟨ha, by simp [hg]⟩
    rw [h2] at h3
    obtain ⟨-, -, -, -, k5, k6, -, -, -, ⟨k10, k11⟩, k12, k13⟩ := hK
    simp only [pmBad, List.mem_cons, List.not_mem_nil, or_false] at h3
    rcases h3 with rfl | rfl | rfl | rfl | rfl | rfl | rfl | rfl
    · exact k10.use
    · exact k11.use
    · exact va_Nw.use rfl (k13 _ (by simp [pmXd]))
    · exact va_Nw.use rfl (k13 _ (by simp [pmXd]))
    · exact va_Nw.use rfl (k13 _ (by simp [pmXd]))
    · exact va_Nw.use rfl (k12 _ hx)
    · exact pm_isRef k5
    · exact pm_isRef k6
theorem pm_ldcwS {p : Program} {l : Launch} {e : Env} {R : Room} {s : State} {m : MethodId} {args : Array Value} {below : List Frame} {meth : Method} {c : Code} {T : State} {locs : List Loc} {cells slots : Nat}
    (X : Stand p l e R s m args below meth c T locs cells slots) (hexec : p.tables.exec = Jvm.exec) {own text : String} {index : Nat} {a : Addr} (hown : s.vm.findClass own = some m.cls)
    (hconst : (Cond.stringRef own index text).before args s = true) (hev : (Term.string own index).eval args s none [] s = some (.ref a)) {g : JFrame} (hg : g.method = m) (hdg : decode c.code g.pc = .ok (.ldc_w index, 3)) :
    ∀ target, Steps p.tables e below (T.setTop { g with pc := g.pc + 3, stack := .ref a :: g.stack }) target → Steps p.tables e below (T.setTop g) target := by
  obtain ⟨k, cf, i, a', hk, hcf, hcp, -, hr, hev'⟩ := Cond.stringRef_spec hown hconst
  cases hev.symm.trans hev'
  obtain ⟨k', hk', he⟩ := X.warmed.alike.2.2 _ _ hk
  have hr' : k'.resolved[index]? = some (some (.string a)) := by
    rcases X.warmed.entry hk hk' index with h | ⟨h, -⟩
    · rw [h]; exact hr
    · rw [hr] at h; cases h
  intro target hrest
  subst hg
  jvm_step X.here [hexec, hdg, ldc_w.wp_string (e := e) (s := T) (f := g) X.here.top hk' (by rw [he]; exact hcf) hcp hr']
  exact hrest
theorem pm_ldcw {p : Program} {l : Launch} {e : Env} {R : Room} {s : State} {m : MethodId} {args : Array Value} {below : List Frame} {meth : Method} {c : Code} {H : Heap} {locs : List Loc} {cells slots : Nat} {Q : State → Prop} {cc : ByteArray} {pc : Nat} {ls : Array Slot} {rest : List Value} (hexec : p.tables.exec = Jvm.exec) (hb : c.code = cc) {own tx : String} {index q : Nat} (hown : s.vm.findClass own = some m.cls) (hZ : vk_R own index tx q s) (hdg : decode cc pc = .ok (.ldc_w index, 3))
    (k : W p l e R s m args below meth c H locs cells slots Q (F0 m (pc + 3) ls (.ref q :: rest))) : W p l e R s m args below meth c H locs cells slots Q (F0 m pc ls rest) := by
  intro T hT X
  obtain ⟨t, a1, b1⟩ := k T hT X
  exact ⟨t, pm_ldcwS X hexec hown (text := tx) (a := q) hZ.1 hZ.2 (g := F0 m pc ls rest) rfl (by rw [hb]; exact hdg) t a1, b1⟩
section GOX
variable {E : pmEv} {F : pmFr} {pc : Nat} {L : pmL} {S : pmS} {k n : Nat} {Q : pmA → pmS → Prop}
/-- the constructor and the throw, where nothing has been written -/
theorem pm_ctor {x pc5 : Nat} {q : Nat × String} (hq : pmXi[x]? = some q) (hown : F.1.1.cls = "PortableFiles") (hd5 : decode F.1.2.1 pc5 = .ok (.invokespecial q.1, 3)) (hd6 : decode F.1.2.1 (pc5 + 3) = .ok (.athrow, 1)) (hh : F.1.2.2.2.2.1 = []) (hcl : k + 1 ≤ F.2.2.1) (hsl : n + 6 ≤ F.2.2.2) (hfr : 6 ≤ F.1.2.2.2.2.2.2.2.1) (hlo : 82 ≤ F.1.2.2.2.2.2.2.2.2) (hQ : Q (.inr x) (S.1, none, false))
    {p : Program} {e : Env} {R : Room} {s : State} {m : MethodId} {args : Array Value} {below : List Frame} {meth : Method} {c : Code} {H0 H : Heap} {ls : Array Slot} (hI : pmIs E F p R s m args meth c) (hA : pmAt E F s S H0 []) (hL : pmLs ls L) (hn : L.length = F.1.2.2.1) (hclean : S.2.2 = false)
    {cC : ClassId} {kC : Class} (h1 : s.vm.findClass q.2 = some cC) (h2 : s.vm.classes[cC]? = some kC) (hH : H = H0.push { cls := cC, slots := kC.instanceTypes.map defaultValue, vm := .none }) (t0 : Nat) :
    W p E.1 e R s m args below meth c H [] (k + 1) (n + 6) (pmZ E F Q below s) (F0 m pc5 ls [.ref t0, .ref H0.size, .ref H0.size]) := by
  intro T hT X
  subst hH
  have hlocks := hI.2.2.2.2.1
  have hqm : q ∈ pmXi := List.mem_of_getElem? hq
  have htr : e.platform.stackTraces = false := Launch.traces_off hI.2.2.2.2.2.2.2.2.2.2.2.1 X.admits
  have hR := hI.2.2.2.2.2.2.2.2.2.2.1
  have hcls := hI.2.2.2.2.2.2.1
  rw [hown] at hcls
  obtain ⟨-, -, -, -, -, hfit⟩ := pmXi_ok q hqm
  obtain ⟨U, hst, hrun, hend, hWU, hsame, ce, hce, hcell⟩ := X.ctorThrowS hI.1 htr (own := "PortableFiles") (cls := q.2) (names := ["java/lang/RuntimeException", "java/lang/Exception"]) (ic := q.1) hcls hfit (by decide +kernel) (pm_atoms hqm hI.2.2.2.2.2.2.2.2.1 hI.2.2.2.2.2.2.2.2.2.1) (fun x hx => by cases hx)
    (a := H0.size) h1 h2 (by rw [hT]; simp [freshCell]) (hA.2.2.1.1) (msg := .ref t0) rfl (g := F0 m pc5 ls [.ref t0, .ref H0.size, .ref H0.size]) rfl (by show ls.size = _; rw [hI.2.2.1, ← hn]; exact hL.1) rfl rfl (rest := []) rfl (by rw [hI.2.1]; exact hd5) (by rw [hI.2.1]; exact hd6)
    (fun y hy => by
      have h6 := hI.2.2.2.2.2.1
      rw [hh] at h6
      rw [List.map_eq_nil_iff.mp h6] at hy
      cases hy) (by rw [hR.1]; show 2 + 3 < _; omega) (by rw [hR.2.1]; simp [JFrame.monitorRoom, Value.category]; omega)
  have hkeep : ∀ a : Nat, a < s.heap.size → U.heap[a]? = s.heap[a]? := by
    intro a ha
    have hsa : s.heap[a]? = some s.heap[a] := Array.getElem?_eq_getElem ha
    obtain ⟨c', e1, e2, e3, e4⟩ := hsame.2.2.2.2.2 a _ hsa
    have e5 : c'.slots = s.heap[a].slots := Array.ext_getElem? fun i => e4 i (by simp)
    rw [e5] at e2
    rw [hsa]
    have : U.heap[a]? = some c' := e1
    rw [this, e2]
  refine ⟨U, hst, _, hrun, hend, .inr x, (S.1, none, false), hQ, ⟨_, ce, rfl, hce, by rw [hcell.vm]; rfl, ?_⟩, hWU, ⟨[], hsame.mono hcl hsl, (fun q hq => by cases hq), fun _ => ⟨rfl, (hA.2.2.2 hclean).2⟩⟩, ?_, (fun z hz => by cases hz), ?_⟩
  · have : pmXs.getD x "" = q.2 := by
      match x, hq with
      | 0, hq => cases hq; rfl
      | 1, hq => cases hq; rfl
      | 2, hq => cases hq; rfl
      | 3, hq => cases hq; rfl
      | x + 4, hq => simp [pmXi] at hq
    rw [this]
    exact hcell.cls
  · intro a d hd
    have h0 := hI.2.2.2.2.2.2.2.2.2.2.2.2 a d (by rw [← (hA.2.2.2 hclean).2]; exact hd)
    exact h0.kept (hkeep a h0.lt)
  · exact ⟨hsame.2.1, fun q hq _ => hkeep q hq⟩
theorem go_throw {x y sx : Nat} {tx : String} {q : Nat × String} (hd0 : decode F.1.2.1 pc = .ok (.new y, 3)) (hd1 : decode F.1.2.1 (pc + 3) = .ok (.dup, 1)) (hd2 : decode F.1.2.1 (pc + 4) = .ok (.ldc sx, 2)) (hd5 : decode F.1.2.1 (pc + 6) = .ok (.invokespecial q.1, 3)) (hd6 : decode F.1.2.1 (pc + 9) = .ok (.athrow, 1)) (hq : pmXi[x]? = some q) (hl : Cond.classLink "PortableFiles" y q.2 ∈ pmW) (hs : (sx, tx) ∈ pmStr) (hQ : Q (.inr x) (S.1, none, false)) (hclean : S.2.2 = false)
    (hown : F.1.1.cls = "PortableFiles" := by rfl) (hh : F.1.2.2.2.2.1 = [] := by rfl) (hcl : k + 1 ≤ F.2.2.1 := by decide) (hsl : n + 6 ≤ F.2.2.2 := by decide) (hfr : 6 ≤ F.1.2.2.2.2.2.2.2.1 := by decide) (hlo : 82 ≤ F.1.2.2.2.2.2.2.2.2 := by decide) : Go E F pc L [] S k n Q := by
  intro p e R s m args below meth c H locs ls hI hA hL hn
  have hts := hI.2.2.2.2.2.2.2.2.1
  have hR := hI.2.2.2.2.2.2.2.2.2.2.1
  have hcls := hI.2.2.2.2.2.2.1
  rw [hown] at hcls
  obtain ⟨-, -, -, hins, hini, -⟩ := pmXi_ok q (List.mem_of_getElem? hq)
  obtain ⟨t0, hZ⟩ := hI.2.2.2.2.2.2.2.2.2.1.2.2.2.2.2.2.2.2.1 _ hs
  have hlocs := (hA.2.2.2 hclean).1
  subst hlocs
  refine W.newc hI.1 hI.2.1 hcls (hts _ hl) (hts _ hins) (hts _ hini) rfl hd0 (by rw [hR.2.2.1]; exact hcl) (by rw [hR.2.2.2]; exact hsl) fun cC kC h1 h2 h3 h4 => ?_
  refine W.eq (g2 := F0 m (pc + 3) ls [.ref H.size]) rfl ?_
  refine lv_dup hI.1 hI.2.1 hd1 rfl ?_
  refine va_ldcS hI.1 hI.2.1 hcls hZ hd2 ?_
  exact pm_ctor hq hown hd5 hd6 hh hcl hsl hfr hlo hQ hI hA hL hn hclean h1 h2 rfl t0
theorem go_throwW {x y sx : Nat} {tx : String} {q : Nat × String} (hd0 : decode F.1.2.1 pc = .ok (.new y, 3)) (hd1 : decode F.1.2.1 (pc + 3) = .ok (.dup, 1)) (hd2 : decode F.1.2.1 (pc + 4) = .ok (.ldc_w sx, 3)) (hd5 : decode F.1.2.1 (pc + 7) = .ok (.invokespecial q.1, 3)) (hd6 : decode F.1.2.1 (pc + 10) = .ok (.athrow, 1)) (hq : pmXi[x]? = some q) (hl : Cond.classLink "PortableFiles" y q.2 ∈ pmW) (hs : (sx, tx) ∈ pmStr) (hQ : Q (.inr x) (S.1, none, false)) (hclean : S.2.2 = false)
    (hown : F.1.1.cls = "PortableFiles" := by rfl) (hh : F.1.2.2.2.2.1 = [] := by rfl) (hcl : k + 1 ≤ F.2.2.1 := by decide) (hsl : n + 6 ≤ F.2.2.2 := by decide) (hfr : 6 ≤ F.1.2.2.2.2.2.2.2.1 := by decide) (hlo : 82 ≤ F.1.2.2.2.2.2.2.2.2 := by decide) : Go E F pc L [] S k n Q := by
  intro p e R s m args below meth c H locs ls hI hA hL hn
  have hts := hI.2.2.2.2.2.2.2.2.1
  have hR := hI.2.2.2.2.2.2.2.2.2.2.1
  have hcls := hI.2.2.2.2.2.2.1
  rw [hown] at hcls
  obtain ⟨-, -, -, hins, hini, -⟩ := pmXi_ok q (List.mem_of_getElem? hq)
  obtain ⟨t0, hZ⟩ := hI.2.2.2.2.2.2.2.2.2.1.2.2.2.2.2.2.2.2.1 _ hs
  have hlocs := (hA.2.2.2 hclean).1
  subst hlocs
  refine W.newc hI.1 hI.2.1 hcls (hts _ hl) (hts _ hins) (hts _ hini) rfl hd0 (by rw [hR.2.2.1]; exact hcl) (by rw [hR.2.2.2]; exact hsl) fun cC kC h1 h2 h3 h4 => ?_
  refine W.eq (g2 := F0 m (pc + 3) ls [.ref H.size]) rfl ?_
  refine lv_dup hI.1 hI.2.1 hd1 rfl ?_
  refine pm_ldcw hI.1 hI.2.1 hcls hZ hd2 ?_
  exact pm_ctor hq hown hd5 hd6 hh hcl hsl hfr hlo hQ hI hA hL hn hclean h1 h2 rfl t0
end GOX
end
section
/-! ===== catches: the search resolves the classes of the clauses ===== -/
theorem pm_cold {Q : Handler → Pre} {Ec : CtlPost} {e : Env} {d : Bool} {acts : List Action} {s : State} {f : JFrame} {a : Addr} {x : ExceptionTableEntry} {t : List ExceptionTableEntry} {c : ClassId} {cell : Cell} {vm' : Vm} (hx : covers x f.pc = true) (h0 : x.catchType ≠ 0)
    (hg : (Jvm.resolveClass f.method.cls x.catchType).Gives e.toSetting s.vm (.ok c) vm') (hr : vm'.classReady f.method.cls x.catchType c) (hcell : s.heap[a]? = some cell) (hobj : ∀ k, cell.vm ≠ .statics k) (hk : ∃ k, vm'.classes[cell.cls]? = some k) (hc : ∃ k, vm'.classes[c]? = some k)
    (hsz : vm'.classes.size ≤ s.vm.classes.size) : wp (findHandler.go f a (x :: t)) Q Ec e d acts s ↔ wp (findHandler.go f a (x :: t)) Q Ec e d acts (s.setVm vm') := by
  obtain ⟨ha, ht⟩ := hg.op (op := VmOp.resolveClass f.method.cls x.catchType) rfl
  rw [W.findHandler_go_class (s := s.setVm vm') hx h0 hr hcell hobj hk hc]
  simp only [covers] at hx
  cases hfit : vm'.assignable cell.cls c <;> simp [findHandler.go, hx, h0, ha, ht, hsz, hcell, hobj, hk, hc, hfit, VmOp.dirties, VmOp.acts]
theorem pm_find {e : Env} {s : State} {f : JFrame} {args : Array Value} {own X : String} {a : Addr} {cell : Cell} (hpl : e.platform.magicAccessors = ({} : Platform).magicAccessors) (hown : s.vm.findClass own = some f.method.cls) (hobj : cell.vm.isStatics = false) (hX : s.vm.findClass X = some cell.cls) (x : ExceptionTableEntry) (rest : List ExceptionTableEntry) (hx : covers x f.pc = true) (h0 : x.catchType ≠ 0) (hl : (Cond.classLink own x.catchType X).before args s = true) :
    ∀ (pre : List ExceptionTableEntry) (U : State), s.WarmedH U.vm → U.heap[a]? = some cell → (∀ y ∈ pre, covers y f.pc = true ∧ y.catchType ≠ 0 ∧ ∃ Y : String, (Cond.classLink own y.catchType Y).before args s = true ∧ va_Nc X Y s) →
      ∃ vm', s.WarmedH vm' ∧ ∀ (Q : Handler → Pre) (Ec : CtlPost) (d : Bool) (acts : List Action), wp (findHandler.go f a (pre ++ x :: rest)) Q Ec e d acts U ↔ Q (.found x.handlerPc) d acts (U.setVm vm') := by
  intro pre
  have hobj' : ∀ k, cell.vm ≠ .statics k := VmData.ne_statics_of hobj
  obtain ⟨kX, hkX⟩ := Vm.classAt_of_findClass hX
  induction pre with
  | nil =>
    intro U hW hcell _
    obtain ⟨c', hc', hcl⟩ := Cond.classLink_spec hown hl e.platform hpl
    cases hX.symm.trans hc'
    obtain ⟨dk, _, _, kt, hd, _, _, _, _, hkt, _, hopen⟩ := hcl.here
    have hcl₀ := hW.classLinks hcl
    have hW' : s.WarmedH (U.vm.noted f.method.cls x.catchType (.cls cell.cls)) := hW.noted hd hopen (State.rightAt_cls hcl)
    obtain ⟨kt', hkt', -⟩ := hW'.alike.2.2 _ _ hkt
    refine ⟨_, hW', fun Q Ec d acts => ?_⟩
    rw [List.nil_append, pm_cold hx h0 (resolveClass_links e.toSetting hcl₀) hcl₀.ready hcell hobj' ⟨kt', hkt'⟩ ⟨kt', hkt'⟩ (by no_record)]
    rw [W.findHandler_go_class (s := U.setVm (U.vm.noted f.method.cls x.catchType (.cls cell.cls))) hx h0 hcl₀.ready hcell hobj' ⟨kt', hkt'⟩ ⟨kt', hkt'⟩]
    rw [if_pos (va_asg _ _)]
  | cons y t ih =>
    intro U hW hcell hp
    obtain ⟨hy, hy0, Y, hyl, hnc⟩ := hp y List.mem_cons_self
    obtain ⟨c1, t1, n1, n2, n3⟩ := hnc
    cases hX.symm.trans n1
    obtain ⟨c', hc', hcl⟩ := Cond.classLink_spec hown hyl e.platform hpl
    cases n2.symm.trans hc'
    obtain ⟨dk, _, _, kt, hd, _, _, _, _, hkt, _, hopen⟩ := hcl.here
    have hcl₀ := hW.classLinks hcl
    have hW' : s.WarmedH (U.vm.noted f.method.cls y.catchType (.cls t1)) := hW.noted hd hopen (State.rightAt_cls hcl)
    obtain ⟨kt', hkt', -⟩ := hW'.alike.2.2 _ _ hkt
    obtain ⟨ks', hks', -⟩ := hW'.alike.2.2 _ _ hkX
    obtain ⟨vm', hv1, hv2⟩ := ih (U.setVm (U.vm.noted f.method.cls y.catchType (.cls t1))) hW' hcell (fun z hz => hp z (List.mem_cons_of_mem _ hz))
    refine ⟨vm', hv1, fun Q Ec d acts => ?_⟩
    rw [List.cons_append, pm_cold hy hy0 (resolveClass_links e.toSetting hcl₀) hcl₀.ready hcell hobj' ⟨ks', hks'⟩ ⟨kt', hkt'⟩ (by no_record)]
    rw [W.findHandler_go_class (s := U.setVm (U.vm.noted f.method.cls y.catchType (.cls t1))) hy hy0 hcl₀.ready hcell hobj' ⟨ks', hks'⟩ ⟨kt', hkt'⟩]
    have hno : (U.setVm (U.vm.noted f.method.cls y.catchType (.cls t1))).vm.assignable cell.cls t1 = false := by
      show (U.vm.noted f.method.cls y.catchType (.cls t1)).assignable cell.cls t1 = false
      rw [hW'.alike.assignable]; exact n3
    rw [if_neg (by rw [hno]; decide)]
    exact hv2 Q Ec d acts
theorem pm_stepc {e : Env} {s : State} {a : Addr} {f : JFrame} {r : List Frame} {pc : Nat} {vm' : Vm} (hfind : ∀ (Q : Handler → Pre) (Ec : CtlPost) (d : Bool) (acts : List Action), wp (findHandler f a) Q Ec e d acts s ↔ Q (.found pc) d acts (s.setVm vm')) :
    (stepThrowing e s a (.java f :: r)).Is ((s.setVm vm').setFrames (.java { f with pc := pc, stack := [.ref a] } :: r)) [] := by
  simp only [stepThrowing, searchFrame, vmDo]
  generalize hr : Sem.go _ e false [] s = res
  obtain ⟨as, rfl, ha⟩ := Sem.eq_ok_of hr (a := Handler.found pc) (s' := s.setVm vm') (acts' := []) (by simp [hfind _ _ _ _])
  exact ⟨rfl, ha⟩
theorem pm_caught {tb : Tables} {e : Env} {s target : State} {g : JFrame} {c : Code} {below : List Frame} {a : Addr} (h : At s g.method c below) {pc : Nat} {vm' : Vm} (hfind : ∀ (Q : Handler → Pre) (Ec : CtlPost) (d : Bool) (acts : List Action), wp (findHandler g a) Q Ec e d acts ((s.setTop g).pushFrame (.throwing a)) ↔ Q (.found pc) d acts (((s.setTop g).pushFrame (.throwing a)).setVm vm'))
    (hrest : Steps tb e below ((s.setVm vm').setTop { g with pc := pc, stack := [.ref a] }) target) : Steps tb e below ((s.setTop g).pushFrame (.throwing a)) target := by
  obtain ⟨hgo, hw⟩ := h.throwing a
  refine Steps.head hgo hw ?_
  rw [stepThread_throwing (frames_entered h.top _), (pm_stepc (s := (s.setTop g).pushFrame (.throwing a)) hfind).1]
  obtain ⟨g₀, hg⟩ := Option.isSome_iff_exists.mp h.top
  obtain ⟨r, hr⟩ := State.topJava?_eq_some.mp hg
  have hr' : (s.setVm vm').frames = .java g₀ :: r := hr
  rw [State.setTop_of_frames _ hr'] at hrest
  have e1 : (((s.setTop g).pushFrame (.throwing a)).setVm vm').setFrames (.java { g with pc := pc, stack := [.ref a] } :: s.frames.tail) = (s.setVm vm').setFrames (.java { g with pc := pc, stack := [.ref a] } :: r) := by
    rw [hr, State.pushFrame, State.setTop_of_frames _ hr]
    show (((s.setFrames (.java g :: r)).setFrames _).setVm vm').setFrames _ = _
    rw [State.setFrames_setFrames]
    show ((s.setVm vm').setFrames _).setFrames _ = _
    rw [State.setFrames_setFrames]
    rfl
  rw [e1]
  exact hrest
theorem got_catch {E : pmEv} {F : pmFr} {pc : Nat} {L : pmL} {S : pmS} {k n : Nat} {Q : pmA → pmS → Prop} {x : Nat} (pre : List (Nat × Nat × Nat × Nat)) (q : Nat × Nat × Nat × Nat) (rest : List (Nat × Nat × Nat × Nat)) (hx : x < 4) (hh : F.1.2.2.2.2.1 = pre ++ q :: rest) (hq : (q.1 ≤ pc ∧ pc < q.2.1) ∧ q.2.2.2 ≠ 0) (hl : Cond.classLink F.1.1.cls q.2.2.2 (pmXs.getD x "") ∈ pmW) (hpre : ∀ y ∈ pre, (y.1 ≤ pc ∧ pc < y.2.1) ∧ y.2.2.2 ≠ 0 ∧ ∃ z, z < 4 ∧ z ≠ x ∧ Cond.classLink F.1.1.cls y.2.2.2 (pmXs.getD z "") ∈ pmW)
    (h : ∀ a, Go E F q.2.2.1 L [.ref a] S k n Q) : GoT E F pc L S k n Q x := by
  intro p e R s m args below meth c H locs ls hI hA hL hn a ce st hce hcs hcc T hT X
  have hts := hI.2.2.2.2.2.2.2.2.1
  have hK := hI.2.2.2.2.2.2.2.2.2.1
  have h6 := hI.2.2.2.2.2.1
  rw [hh] at h6
  obtain ⟨pre', l2, hsplit, hp1, hp2⟩ := List.map_eq_append_iff.mp h6
  obtain ⟨y, rest', rfl, hy, hr'⟩ := List.map_eq_cons_iff.mp hp2
  have hpl : e.platform.magicAccessors = ({} : Platform).magicAccessors := by rw [X.admits.platform]
  have hcov : ∀ (y : ExceptionTableEntry) (z : Nat × Nat × Nat × Nat), (y.startPc, y.endPc, y.handlerPc, y.catchType) = z → (z.1 ≤ pc ∧ pc < z.2.1) → covers y (F0 m pc ls st).pc = true := by
    intro y z hz hc
    subst hz
    simp [covers, hc.1, hc.2]
  obtain ⟨vm', hW', hf⟩ := pm_find (e := e) (f := F0 m pc ls st) (args := args) (own := F.1.1.cls) (X := pmXs.getD x "") (a := a) (cell := ce) hpl hI.2.2.2.2.2.2.1 hcs hcc y rest' (hcov y q hy hq.1) (by rw [show y.catchType = q.2.2.2 by rw [← hy]]; exact hq.2) (by rw [show y.catchType = q.2.2.2 by rw [← hy]]; exact hts _ hl) pre' ((T.setTop (F0 m pc ls st)).pushFrame (.throwing a)) (by rw [Stand.throwing_vm]; exact X.warmed) (by rw [Stand.throwing_heap, hT]; exact hce) (fun u hu => by
      have hu' : (u.startPc, u.endPc, u.handlerPc, u.catchType) ∈ pre := by rw [← hp1]; exact List.mem_map.mpr ⟨u, hu, rfl⟩
      obtain ⟨g1, g2, z, g3, g4, g5⟩ := hpre _ hu'
      exact ⟨hcov u _ rfl g1, g2, _, hts _ g5, hK.2.2.2.2.2.2.2.1 x z hx g3 (Ne.symm g4)⟩)
  have hAt : At T (F0 m pc ls st).method c below := X.here
  obtain ⟨t, a1, b1⟩ := h a p e R s m args below meth c H locs ls hI hA hL hn (T.setVm vm') hT (X.noted hW')
  refine ⟨t, pm_caught hAt (pc := q.2.2.1) (vm' := vm') (fun Q Ec d acts => ?_) a1, b1⟩
  rw [W.findHandler_eq (meth := meth) (code := c) (by rw [Stand.throwing_vm]; exact X.method') X.code, hsplit, hf Q Ec d acts]
  rw [show y.handlerPc = q.2.2.1 by rw [← hy]]
/-! ===== System.arraycopy of ints ===== -/
theorem go_copy {E : pmEv} {F : pmFr} {pc : Nat} {L : pmL} {rest : List Value} {S : pmS} {k n : Nat} {Q : pmA → pmS → Prop} {x a0 a N0 N1 : Nat} {f g : Nat → Int32} {sp dp cn : Int32} {pc' : Nat} (hd : decode F.1.2.1 pc = .ok (.invokestatic x, 3)) (hl : Cond.methodLink F.1.1.cls x arraycopyName ∈ pmW) (hh0 : S.1 a0 = some (pmI N0 f)) (hh1 : S.1 a = some (pmI N1 g)) (h1 : ¬ sp < 0) (h2 : ¬ dp < 0) (h3 : ¬ cn < 0) (h4 : sp.toNatClampNeg + cn.toNatClampNeg ≤ N0) (h5 : dp.toNatClampNeg + cn.toNatClampNeg ≤ N1)
    (h : Go E F pc' L rest (pmU S.1 a (pmI N1 (va_cpy f g sp.toNatClampNeg dp.toNatClampNeg cn.toNatClampNeg)), S.2.1, true) k n Q) (hfr : 1 ≤ F.1.2.2.2.2.2.2.2.1 := by decide) (hlo : (rest.map fun v => v.category).sum + 18 ≤ F.1.2.2.2.2.2.2.2.2 := by decide) (hp : pc + 3 = pc' := by rfl) : Go E F pc L (.int cn :: .int dp :: .ref a :: .int sp :: .ref a0 :: rest) S k n Q := by
  intro p e R s m args below meth c H locs ls hI hA hL hn T hT X
  subst hp
  have nn : ∀ z : Int32, ¬ z < 0 → z.toInt = (z.toNatClampNeg : Int) := by
    intro z hz
    have hz0 : (0 : Int) ≤ z.toInt := by
      have := Int32.not_lt.mp hz
      simpa using Int32.le_iff_toInt_le.mp this
    show z.toInt = ((z.toInt.toNat : Nat) : Int)
    omega
  have hts := hI.2.2.2.2.2.2.2.2.1
  have hR := hI.2.2.2.2.2.2.2.2.2.2.1
  obtain ⟨b0, hc0⟩ := hA.1 a0 _ hh0
  obtain ⟨b1, hc1⟩ := hA.1 a _ hh1
  have hAr := (pmTs_at hI.2.2.2.2.2.2.2.2.2.1).1
  obtain ⟨-, k0, hk0, cm0, hkk0⟩ := hAr N0 (fun j => .int (f j))
  obtain ⟨-, k1, hk1, cm1, hkk1⟩ := hAr N1 (fun j => .int (g j))
  obtain ⟨vm', X', step⟩ := X.arraycopy hI.1 hI.2.2.2.2.2.2.1 (hts _ hl) (hts _ qw_an) (hts _ qw_as) (hts _ qw_ai) (src := a0) (dst := a) (cs := arrV E.2.2.2.1.1 N0 (fun j => .int (f j))) (cd := arrV E.2.2.2.1.1 N1 (fun j => .int (g j))) (srcPos := sp) (destPos := dp) (n := cn) (by rw [hT]; exact hc0) (by rw [hT]; exact hc1)
    (fun _ h => by cases h) (fun _ h => by cases h) (fun h => by cases h) (fun h => by cases h) hk0 hk1 hkk0 hkk1 (by simp [refKind]) h1 h2 h3
    (by rw [nn sp h1, nn cn h3, arrV_size]; omega)
    (by rw [nn dp h2, nn cn h3, arrV_size]; omega)
    (fun vm₁ _ i hi => by
      have e : (arrV E.2.2.2.1.1 N0 (fun j => .int (f j))).slots.getD (sp.toNatClampNeg + i) .null = .int (f (sp.toNatClampNeg + i)) := by
        rw [Array.getD_eq_getD_getElem?, arrV_read _ _ (by omega)]
        rfl
      refine ⟨?_, ?_⟩
      · rw [e]; rfl
      · rw [e]; exact trivial)
    (g := F0 m pc ls (.int cn :: .int dp :: .ref a :: .int sp :: .ref a0 :: rest)) rfl (by show ls.size = _; rw [hI.2.2.1, ← hn]; exact hL.1) (rest := rest) rfl (by rw [hI.2.1]; exact hd) (by rw [hR.1]; exact hfr) (by rw [hR.2.1]; show 2 * 0 + _ + (5 + 2 + 11) ≤ _; omega)
  have e1 : copied (arrV E.2.2.2.1.1 N0 (fun j => .int (f j))) (arrV E.2.2.2.1.1 N1 (fun j => .int (g j))) sp dp cn = arrV E.2.2.2.1.1 N1 (fun j => .int (va_cpy f g sp.toNatClampNeg dp.toNatClampNeg cn.toNatClampNeg j)) := va_copied (fun z => .int z) _ _ f g h4
  rw [e1] at X' step
  have hlt : a < H.size := (Array.getElem?_eq_some_iff.mp hc1).1
  have hheap : ((T.setVm vm').setCell a (arrV E.2.2.2.1.1 N1 (fun j => .int (va_cpy f g sp.toNatClampNeg dp.toNatClampNeg cn.toNatClampNeg j)))).heap = H.setIfInBounds a (arrV E.2.2.2.1.1 N1 (fun j => .int (va_cpy f g sp.toNatClampNeg dp.toNatClampNeg cn.toNatClampNeg j))) := by rw [← hT]; rfl
  have oq : ∀ q : Nat, q ≠ a → (H.setIfInBounds a (arrV E.2.2.2.1.1 N1 (fun j => .int (va_cpy f g sp.toNatClampNeg dp.toNatClampNeg cn.toNatClampNeg j))))[q]? = H[q]? := fun q hq => by simp [Array.getElem?_setIfInBounds, Ne.symm hq]
  have hS := hA.2.2.1
  obtain ⟨t, a1, b1⟩ := h p e R s m args below meth c _ _ ls hI ⟨hA.1.put ⟨b1, (show (H.setIfInBounds a _)[a]? = some _ by simp [Array.getElem?_setIfInBounds, hlt])⟩ oq, fun z hz => by rw [Array.size_setIfInBounds]; exact hA.2.1 z hz, ⟨by rw [Array.size_setIfInBounds]; exact hS.1, fun q g1 g2 => by
      rw [oq q (fun e => g2 (by rw [e]; exact b1))]
      exact hS.2.1 q g1 g2, fun q hq => by
      rcases List.mem_append.mp hq with h | h
      · exact hS.2.2 q h
      · obtain ⟨z, -, hz⟩ := List.mem_map.mp h
        rw [← hz]
        exact b1⟩, fun q => by cases q⟩ hL hn _ hheap X'
  exact ⟨t, step t a1, b1⟩
end
