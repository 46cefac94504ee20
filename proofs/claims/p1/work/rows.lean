section
-- ===== PART A: goes FIRST, ahead of the names: the tables' words, and 'selects' of the private methods out of them =====
/-- a private method of a class that the tables say can be made, by its rows of tables_1 -/
def lw_okq (q : MethodName × Nat) : Prop := (q.1.cls ≠ "java/lang/invoke/MethodHandle" ∧ q.1.cls ≠ "java/lang/invoke/VarHandle") ∧ Cond.instantiable q.1.cls q.2 ∈ tables_1 ∧ Cond.privateMethod q.1 ∈ tables_1 ∧ Cond.instanceMethod q.1 ∈ tables_1
theorem lw_p0 : lw_okq (⟨"RopeMoon$Plain", "empty", "()V"⟩, 16) := ⟨⟨by decide +kernel, by decide +kernel⟩, List.mem_of_getElem? (i := 34) (by decide +kernel), List.mem_of_getElem? (i := 40) (by decide +kernel), List.mem_of_getElem? (i := 41) (by decide +kernel)⟩
theorem lw_p1 : lw_okq (⟨"RopeMoon", "tapeInt", "(I)V"⟩, 13) := ⟨⟨by decide +kernel, by decide +kernel⟩, List.mem_of_getElem? (i := 20) (by decide +kernel), List.mem_of_getElem? (i := 392) (by decide +kernel), List.mem_of_getElem? (i := 393) (by decide +kernel)⟩
theorem lw_p2 : lw_okq (⟨"RopeMoon$TextReader", "readText", "([BI)I"⟩, 9) := ⟨⟨by decide +kernel, by decide +kernel⟩, List.mem_of_getElem? (i := 28) (by decide +kernel), List.mem_of_getElem? (i := 400) (by decide +kernel), List.mem_of_getElem? (i := 401) (by decide +kernel)⟩
theorem lw_p3 : lw_okq (⟨"RopeMoon$TextReader", "advance", "()V"⟩, 9) := ⟨⟨by decide +kernel, by decide +kernel⟩, List.mem_of_getElem? (i := 28) (by decide +kernel), List.mem_of_getElem? (i := 414) (by decide +kernel), List.mem_of_getElem? (i := 415) (by decide +kernel)⟩
theorem lw_p4 : lw_okq (⟨"RopeMoon$TextReader", "endOf", "(II)I"⟩, 9) := ⟨⟨by decide +kernel, by decide +kernel⟩, List.mem_of_getElem? (i := 28) (by decide +kernel), List.mem_of_getElem? (i := 418) (by decide +kernel), List.mem_of_getElem? (i := 419) (by decide +kernel)⟩
theorem lw_p5 : lw_okq (⟨"RopeMoon$TextReader", "kindAt", "(I)I"⟩, 9) := ⟨⟨by decide +kernel, by decide +kernel⟩, List.mem_of_getElem? (i := 28) (by decide +kernel), List.mem_of_getElem? (i := 422) (by decide +kernel), List.mem_of_getElem? (i := 423) (by decide +kernel)⟩
theorem lw_p6 : lw_okq (⟨"RopeMoon$TextReader", "readValue", "()V"⟩, 9) := ⟨⟨by decide +kernel, by decide +kernel⟩, List.mem_of_getElem? (i := 28) (by decide +kernel), List.mem_of_getElem? (i := 426) (by decide +kernel), List.mem_of_getElem? (i := 427) (by decide +kernel)⟩
theorem lw_p7 : lw_okq (⟨"RopeMoon$TextReader", "readLine", "()V"⟩, 9) := ⟨⟨by decide +kernel, by decide +kernel⟩, List.mem_of_getElem? (i := 28) (by decide +kernel), List.mem_of_getElem? (i := 430) (by decide +kernel), List.mem_of_getElem? (i := 431) (by decide +kernel)⟩
theorem lw_p8 : lw_okq (⟨"RopeMoon$TextReader", "isWord", "(Ljava/lang/String;)Z"⟩, 9) := ⟨⟨by decide +kernel, by decide +kernel⟩, List.mem_of_getElem? (i := 28) (by decide +kernel), List.mem_of_getElem? (i := 435) (by decide +kernel), List.mem_of_getElem? (i := 436) (by decide +kernel)⟩
theorem lw_p9 : lw_okq (⟨"RopeMoon$TextReader", "readStrip", "()V"⟩, 9) := ⟨⟨by decide +kernel, by decide +kernel⟩, List.mem_of_getElem? (i := 28) (by decide +kernel), List.mem_of_getElem? (i := 487) (by decide +kernel), List.mem_of_getElem? (i := 488) (by decide +kernel)⟩
theorem lw_p10 : lw_okq (⟨"RopeMoon$TextReader", "refuse", "(I)V"⟩, 9) := ⟨⟨by decide +kernel, by decide +kernel⟩, List.mem_of_getElem? (i := 28) (by decide +kernel), List.mem_of_getElem? (i := 491) (by decide +kernel), List.mem_of_getElem? (i := 492) (by decide +kernel)⟩
theorem lw_p11 : lw_okq (⟨"RopeMoon$TextReader", "takeNumber", "(II)I"⟩, 9) := ⟨⟨by decide +kernel, by decide +kernel⟩, List.mem_of_getElem? (i := 28) (by decide +kernel), List.mem_of_getElem? (i := 495) (by decide +kernel), List.mem_of_getElem? (i := 496) (by decide +kernel)⟩
theorem lw_p12 : lw_okq (⟨"RopeMoon$TextReader", "takeWord", "(Ljava/lang/String;)Z"⟩, 9) := ⟨⟨by decide +kernel, by decide +kernel⟩, List.mem_of_getElem? (i := 28) (by decide +kernel), List.mem_of_getElem? (i := 500) (by decide +kernel), List.mem_of_getElem? (i := 501) (by decide +kernel)⟩
theorem lw_p13 : lw_okq (⟨"RopeMoon$Plain", "addStrip", "(IIII)V"⟩, 16) := ⟨⟨by decide +kernel, by decide +kernel⟩, List.mem_of_getElem? (i := 34) (by decide +kernel), List.mem_of_getElem? (i := 506) (by decide +kernel), List.mem_of_getElem? (i := 507) (by decide +kernel)⟩
theorem lw_p14 : lw_okq (⟨"RopeMoon$TextReader", "readLamp", "()V"⟩, 9) := ⟨⟨by decide +kernel, by decide +kernel⟩, List.mem_of_getElem? (i := 28) (by decide +kernel), List.mem_of_getElem? (i := 511) (by decide +kernel), List.mem_of_getElem? (i := 512) (by decide +kernel)⟩
theorem lw_p15 : lw_okq (⟨"RopeMoon$TextReader", "readBid", "()V"⟩, 9) := ⟨⟨by decide +kernel, by decide +kernel⟩, List.mem_of_getElem? (i := 28) (by decide +kernel), List.mem_of_getElem? (i := 521) (by decide +kernel), List.mem_of_getElem? (i := 522) (by decide +kernel)⟩
def lw_privs_1 : List (MethodName × Nat) := [(⟨"RopeMoon$Plain", "empty", "()V"⟩, 16), (⟨"RopeMoon", "tapeInt", "(I)V"⟩, 13), (⟨"RopeMoon$TextReader", "readText", "([BI)I"⟩, 9), (⟨"RopeMoon$TextReader", "advance", "()V"⟩, 9), (⟨"RopeMoon$TextReader", "endOf", "(II)I"⟩, 9), (⟨"RopeMoon$TextReader", "kindAt", "(I)I"⟩, 9), (⟨"RopeMoon$TextReader", "readValue", "()V"⟩, 9), (⟨"RopeMoon$TextReader", "readLine", "()V"⟩, 9), (⟨"RopeMoon$TextReader", "isWord", "(Ljava/lang/String;)Z"⟩, 9), (⟨"RopeMoon$TextReader", "readStrip", "()V"⟩, 9), (⟨"RopeMoon$TextReader", "refuse", "(I)V"⟩, 9), (⟨"RopeMoon$TextReader", "takeNumber", "(II)I"⟩, 9), (⟨"RopeMoon$TextReader", "takeWord", "(Ljava/lang/String;)Z"⟩, 9), (⟨"RopeMoon$Plain", "addStrip", "(IIII)V"⟩, 16), (⟨"RopeMoon$TextReader", "readLamp", "()V"⟩, 9), (⟨"RopeMoon$TextReader", "readBid", "()V"⟩, 9)]
theorem lw_r1 : ∀ q ∈ lw_privs_1, lw_okq q := List.forall_mem_cons.mpr ⟨lw_p0, List.forall_mem_cons.mpr ⟨lw_p1, List.forall_mem_cons.mpr ⟨lw_p2, List.forall_mem_cons.mpr ⟨lw_p3, List.forall_mem_cons.mpr ⟨lw_p4, List.forall_mem_cons.mpr ⟨lw_p5, List.forall_mem_cons.mpr ⟨lw_p6, List.forall_mem_cons.mpr ⟨lw_p7, List.forall_mem_cons.mpr ⟨lw_p8, List.forall_mem_cons.mpr ⟨lw_p9, List.forall_mem_cons.mpr ⟨lw_p10, List.forall_mem_cons.mpr ⟨lw_p11, List.forall_mem_cons.mpr ⟨lw_p12, List.forall_mem_cons.mpr ⟨lw_p13, List.forall_mem_cons.mpr ⟨lw_p14, List.forall_mem_cons.mpr ⟨lw_p15, fun _ h => absurd h List.not_mem_nil⟩⟩⟩⟩⟩⟩⟩⟩⟩⟩⟩⟩⟩⟩⟩⟩
theorem lw_p16 : lw_okq (⟨"RopeMoon$TextReader", "endLine", "()V"⟩, 9) := ⟨⟨by decide +kernel, by decide +kernel⟩, List.mem_of_getElem? (i := 28) (by decide +kernel), List.mem_of_getElem? (i := 530) (by decide +kernel), List.mem_of_getElem? (i := 531) (by decide +kernel)⟩
theorem lw_p17 : lw_okq (⟨"RopeMoon$Plain", "become", "(LRopeMoon$Plain;)V"⟩, 16) := ⟨⟨by decide +kernel, by decide +kernel⟩, List.mem_of_getElem? (i := 34) (by decide +kernel), List.mem_of_getElem? (i := 534) (by decide +kernel), List.mem_of_getElem? (i := 535) (by decide +kernel)⟩
theorem lw_p18 : lw_okq (⟨"RopeMoon$Plain", "hasStrip", "(I)Z"⟩, 16) := ⟨⟨by decide +kernel, by decide +kernel⟩, List.mem_of_getElem? (i := 34) (by decide +kernel), List.mem_of_getElem? (i := 547) (by decide +kernel), List.mem_of_getElem? (i := 548) (by decide +kernel)⟩
theorem lw_p19 : lw_okq (⟨"RopeMoon$Plain", "lightOf", "(II)I"⟩, 16) := ⟨⟨by decide +kernel, by decide +kernel⟩, List.mem_of_getElem? (i := 34) (by decide +kernel), List.mem_of_getElem? (i := 551) (by decide +kernel), List.mem_of_getElem? (i := 552) (by decide +kernel)⟩
theorem lw_p20 : lw_okq (⟨"RopeMoon$Plain", "unshadedLight", "(II)I"⟩, 16) := ⟨⟨by decide +kernel, by decide +kernel⟩, List.mem_of_getElem? (i := 34) (by decide +kernel), List.mem_of_getElem? (i := 555) (by decide +kernel), List.mem_of_getElem? (i := 556) (by decide +kernel)⟩
theorem lw_p21 : lw_okq (⟨"RopeMoon$Plain", "isShaded", "(II)Z"⟩, 16) := ⟨⟨by decide +kernel, by decide +kernel⟩, List.mem_of_getElem? (i := 34) (by decide +kernel), List.mem_of_getElem? (i := 563) (by decide +kernel), List.mem_of_getElem? (i := 564) (by decide +kernel)⟩
theorem lw_p22 : lw_okq (⟨"RopeMoon$Plain", "sumOfFarm", "([II)I"⟩, 16) := ⟨⟨by decide +kernel, by decide +kernel⟩, List.mem_of_getElem? (i := 34) (by decide +kernel), List.mem_of_getElem? (i := 573) (by decide +kernel), List.mem_of_getElem? (i := 574) (by decide +kernel)⟩
theorem lw_p23 : lw_okq (⟨"RopeMoon$Plain", "stripsOfFarm", "(I)I"⟩, 16) := ⟨⟨by decide +kernel, by decide +kernel⟩, List.mem_of_getElem? (i := 34) (by decide +kernel), List.mem_of_getElem? (i := 577) (by decide +kernel), List.mem_of_getElem? (i := 578) (by decide +kernel)⟩
theorem lw_p24 : lw_okq (⟨"RopeMoon$Plain", "litFrom", "(I)I"⟩, 16) := ⟨⟨by decide +kernel, by decide +kernel⟩, List.mem_of_getElem? (i := 34) (by decide +kernel), List.mem_of_getElem? (i := 589) (by decide +kernel), List.mem_of_getElem? (i := 590) (by decide +kernel)⟩
theorem lw_p25 : lw_okq (⟨"RopeMoon$Plain", "shadedFrom", "(I)I"⟩, 16) := ⟨⟨by decide +kernel, by decide +kernel⟩, List.mem_of_getElem? (i := 34) (by decide +kernel), List.mem_of_getElem? (i := 598) (by decide +kernel), List.mem_of_getElem? (i := 599) (by decide +kernel)⟩
theorem lw_p26 : lw_okq (⟨"RopeMoon$Plain", "leastHeight", "(II)I"⟩, 16) := ⟨⟨by decide +kernel, by decide +kernel⟩, List.mem_of_getElem? (i := 34) (by decide +kernel), List.mem_of_getElem? (i := 606) (by decide +kernel), List.mem_of_getElem? (i := 607) (by decide +kernel)⟩
theorem lw_p27 : lw_okq (⟨"RopeMoon$Plain", "areStrips", "(I)Z"⟩, 16) := ⟨⟨by decide +kernel, by decide +kernel⟩, List.mem_of_getElem? (i := 34) (by decide +kernel), List.mem_of_getElem? (i := 614) (by decide +kernel), List.mem_of_getElem? (i := 615) (by decide +kernel)⟩
theorem lw_p28 : lw_okq (⟨"RopeMoon$Plain", "allStrips", "()I"⟩, 16) := ⟨⟨by decide +kernel, by decide +kernel⟩, List.mem_of_getElem? (i := 34) (by decide +kernel), List.mem_of_getElem? (i := 618) (by decide +kernel), List.mem_of_getElem? (i := 619) (by decide +kernel)⟩
theorem lw_p29 : lw_okq (⟨"RopeMoon$Plain", "leastHeightForAll", "(II)I"⟩, 16) := ⟨⟨by decide +kernel, by decide +kernel⟩, List.mem_of_getElem? (i := 34) (by decide +kernel), List.mem_of_getElem? (i := 622) (by decide +kernel), List.mem_of_getElem? (i := 623) (by decide +kernel)⟩
theorem lw_p30 : lw_okq (⟨"RopeMoon$Plain", "whyNot", "(J)I"⟩, 16) := ⟨⟨by decide +kernel, by decide +kernel⟩, List.mem_of_getElem? (i := 34) (by decide +kernel), List.mem_of_getElem? (i := 639) (by decide +kernel), List.mem_of_getElem? (i := 640) (by decide +kernel)⟩
theorem lw_p31 : lw_okq (⟨"RopeMoon$Plain", "target", "(IJ)I"⟩, 16) := ⟨⟨by decide +kernel, by decide +kernel⟩, List.mem_of_getElem? (i := 34) (by decide +kernel), List.mem_of_getElem? (i := 643) (by decide +kernel), List.mem_of_getElem? (i := 644) (by decide +kernel)⟩
def lw_privs_2 : List (MethodName × Nat) := [(⟨"RopeMoon$TextReader", "endLine", "()V"⟩, 9), (⟨"RopeMoon$Plain", "become", "(LRopeMoon$Plain;)V"⟩, 16), (⟨"RopeMoon$Plain", "hasStrip", "(I)Z"⟩, 16), (⟨"RopeMoon$Plain", "lightOf", "(II)I"⟩, 16), (⟨"RopeMoon$Plain", "unshadedLight", "(II)I"⟩, 16), (⟨"RopeMoon$Plain", "isShaded", "(II)Z"⟩, 16), (⟨"RopeMoon$Plain", "sumOfFarm", "([II)I"⟩, 16), (⟨"RopeMoon$Plain", "stripsOfFarm", "(I)I"⟩, 16), (⟨"RopeMoon$Plain", "litFrom", "(I)I"⟩, 16), (⟨"RopeMoon$Plain", "shadedFrom", "(I)I"⟩, 16), (⟨"RopeMoon$Plain", "leastHeight", "(II)I"⟩, 16), (⟨"RopeMoon$Plain", "areStrips", "(I)Z"⟩, 16), (⟨"RopeMoon$Plain", "allStrips", "()I"⟩, 16), (⟨"RopeMoon$Plain", "leastHeightForAll", "(II)I"⟩, 16), (⟨"RopeMoon$Plain", "whyNot", "(J)I"⟩, 16), (⟨"RopeMoon$Plain", "target", "(IJ)I"⟩, 16)]
theorem lw_r2 : ∀ q ∈ lw_privs_2, lw_okq q := List.forall_mem_cons.mpr ⟨lw_p16, List.forall_mem_cons.mpr ⟨lw_p17, List.forall_mem_cons.mpr ⟨lw_p18, List.forall_mem_cons.mpr ⟨lw_p19, List.forall_mem_cons.mpr ⟨lw_p20, List.forall_mem_cons.mpr ⟨lw_p21, List.forall_mem_cons.mpr ⟨lw_p22, List.forall_mem_cons.mpr ⟨lw_p23, List.forall_mem_cons.mpr ⟨lw_p24, List.forall_mem_cons.mpr ⟨lw_p25, List.forall_mem_cons.mpr ⟨lw_p26, List.forall_mem_cons.mpr ⟨lw_p27, List.forall_mem_cons.mpr ⟨lw_p28, List.forall_mem_cons.mpr ⟨lw_p29, List.forall_mem_cons.mpr ⟨lw_p30, List.forall_mem_cons.mpr ⟨lw_p31, fun _ h => absurd h List.not_mem_nil⟩⟩⟩⟩⟩⟩⟩⟩⟩⟩⟩⟩⟩⟩⟩⟩
theorem lw_p32 : lw_okq (⟨"RopeMoon$Plain", "pass", "(IZ)I"⟩, 16) := ⟨⟨by decide +kernel, by decide +kernel⟩, List.mem_of_getElem? (i := 34) (by decide +kernel), List.mem_of_getElem? (i := 650) (by decide +kernel), List.mem_of_getElem? (i := 651) (by decide +kernel)⟩
theorem lw_p33 : lw_okq (⟨"RopeMoon$Plain", "passAll", "(LRopeMoon$Row;)I"⟩, 16) := ⟨⟨by decide +kernel, by decide +kernel⟩, List.mem_of_getElem? (i := 34) (by decide +kernel), List.mem_of_getElem? (i := 661) (by decide +kernel), List.mem_of_getElem? (i := 662) (by decide +kernel)⟩
theorem lw_p34 : lw_okq (⟨"RopeMoon$Row", "valueAt", "(I)J"⟩, 4) := ⟨⟨by decide +kernel, by decide +kernel⟩, List.mem_of_getElem? (i := 326) (by decide +kernel), List.mem_of_getElem? (i := 665) (by decide +kernel), List.mem_of_getElem? (i := 666) (by decide +kernel)⟩
theorem lw_p35 : lw_okq (⟨"RopeMoon$Plain", "sum", "([I)I"⟩, 16) := ⟨⟨by decide +kernel, by decide +kernel⟩, List.mem_of_getElem? (i := 34) (by decide +kernel), List.mem_of_getElem? (i := 673) (by decide +kernel), List.mem_of_getElem? (i := 674) (by decide +kernel)⟩
theorem lw_p36 : lw_okq (⟨"RopeMoon$Plain", "hangsOver", "()I"⟩, 16) := ⟨⟨by decide +kernel, by decide +kernel⟩, List.mem_of_getElem? (i := 34) (by decide +kernel), List.mem_of_getElem? (i := 677) (by decide +kernel), List.mem_of_getElem? (i := 678) (by decide +kernel)⟩
theorem lw_p37 : lw_okq (⟨"RopeMoon", "refusedSearch", "(ZII)I"⟩, 13) := ⟨⟨by decide +kernel, by decide +kernel⟩, List.mem_of_getElem? (i := 20) (by decide +kernel), List.mem_of_getElem? (i := 709) (by decide +kernel), List.mem_of_getElem? (i := 710) (by decide +kernel)⟩
theorem lw_p38 : lw_okq (⟨"RopeMoon", "possibleMinutes", "(I)I"⟩, 13) := ⟨⟨by decide +kernel, by decide +kernel⟩, List.mem_of_getElem? (i := 20) (by decide +kernel), List.mem_of_getElem? (i := 713) (by decide +kernel), List.mem_of_getElem? (i := 714) (by decide +kernel)⟩
theorem lw_p39 : lw_okq (⟨"RopeMoon", "seek", "(III)V"⟩, 13) := ⟨⟨by decide +kernel, by decide +kernel⟩, List.mem_of_getElem? (i := 20) (by decide +kernel), List.mem_of_getElem? (i := 717) (by decide +kernel), List.mem_of_getElem? (i := 718) (by decide +kernel)⟩
theorem lw_p40 : lw_okq (⟨"RopeMoon$Walks", "lay", "(III)V"⟩, 11) := ⟨⟨by decide +kernel, by decide +kernel⟩, List.mem_of_getElem? (i := 169) (by decide +kernel), List.mem_of_getElem? (i := 721) (by decide +kernel), List.mem_of_getElem? (i := 722) (by decide +kernel)⟩
theorem lw_p41 : lw_okq (⟨"RopeMoon$Walks", "begin", "(II)V"⟩, 11) := ⟨⟨by decide +kernel, by decide +kernel⟩, List.mem_of_getElem? (i := 169) (by decide +kernel), List.mem_of_getElem? (i := 725) (by decide +kernel), List.mem_of_getElem? (i := 726) (by decide +kernel)⟩
theorem lw_p42 : lw_okq (⟨"RopeMoon$Walks", "layMinute", "()V"⟩, 11) := ⟨⟨by decide +kernel, by decide +kernel⟩, List.mem_of_getElem? (i := 169) (by decide +kernel), List.mem_of_getElem? (i := 731) (by decide +kernel), List.mem_of_getElem? (i := 732) (by decide +kernel)⟩
theorem lw_p43 : lw_okq (⟨"RopeMoon$Walks", "end", "(I)I"⟩, 11) := ⟨⟨by decide +kernel, by decide +kernel⟩, List.mem_of_getElem? (i := 169) (by decide +kernel), List.mem_of_getElem? (i := 735) (by decide +kernel), List.mem_of_getElem? (i := 736) (by decide +kernel)⟩
theorem lw_p44 : lw_okq (⟨"RopeMoon$Walks", "first", "(I)I"⟩, 11) := ⟨⟨by decide +kernel, by decide +kernel⟩, List.mem_of_getElem? (i := 169) (by decide +kernel), List.mem_of_getElem? (i := 740) (by decide +kernel), List.mem_of_getElem? (i := 741) (by decide +kernel)⟩
theorem lw_p45 : lw_okq (⟨"RopeMoon$Walks", "arrive", "(IIII)V"⟩, 11) := ⟨⟨by decide +kernel, by decide +kernel⟩, List.mem_of_getElem? (i := 169) (by decide +kernel), List.mem_of_getElem? (i := 744) (by decide +kernel), List.mem_of_getElem? (i := 745) (by decide +kernel)⟩
theorem lw_p46 : lw_okq (⟨"RopeMoon$Walks", "append", "(IJIIZ)V"⟩, 11) := ⟨⟨by decide +kernel, by decide +kernel⟩, List.mem_of_getElem? (i := 169) (by decide +kernel), List.mem_of_getElem? (i := 749) (by decide +kernel), List.mem_of_getElem? (i := 750) (by decide +kernel)⟩
theorem lw_p47 : lw_okq (⟨"RopeMoon$Harvest", "prepare", "(LRopeMoon$Plain;II)V"⟩, 11) := ⟨⟨by decide +kernel, by decide +kernel⟩, List.mem_of_getElem? (i := 219) (by decide +kernel), List.mem_of_getElem? (i := 753) (by decide +kernel), List.mem_of_getElem? (i := 754) (by decide +kernel)⟩
def lw_privs_3 : List (MethodName × Nat) := [(⟨"RopeMoon$Plain", "pass", "(IZ)I"⟩, 16), (⟨"RopeMoon$Plain", "passAll", "(LRopeMoon$Row;)I"⟩, 16), (⟨"RopeMoon$Row", "valueAt", "(I)J"⟩, 4), (⟨"RopeMoon$Plain", "sum", "([I)I"⟩, 16), (⟨"RopeMoon$Plain", "hangsOver", "()I"⟩, 16), (⟨"RopeMoon", "refusedSearch", "(ZII)I"⟩, 13), (⟨"RopeMoon", "possibleMinutes", "(I)I"⟩, 13), (⟨"RopeMoon", "seek", "(III)V"⟩, 13), (⟨"RopeMoon$Walks", "lay", "(III)V"⟩, 11), (⟨"RopeMoon$Walks", "begin", "(II)V"⟩, 11), (⟨"RopeMoon$Walks", "layMinute", "()V"⟩, 11), (⟨"RopeMoon$Walks", "end", "(I)I"⟩, 11), (⟨"RopeMoon$Walks", "first", "(I)I"⟩, 11), (⟨"RopeMoon$Walks", "arrive", "(IIII)V"⟩, 11), (⟨"RopeMoon$Walks", "append", "(IJIIZ)V"⟩, 11), (⟨"RopeMoon$Harvest", "prepare", "(LRopeMoon$Plain;II)V"⟩, 11)]
theorem lw_r3 : ∀ q ∈ lw_privs_3, lw_okq q := List.forall_mem_cons.mpr ⟨lw_p32, List.forall_mem_cons.mpr ⟨lw_p33, List.forall_mem_cons.mpr ⟨lw_p34, List.forall_mem_cons.mpr ⟨lw_p35, List.forall_mem_cons.mpr ⟨lw_p36, List.forall_mem_cons.mpr ⟨lw_p37, List.forall_mem_cons.mpr ⟨lw_p38, List.forall_mem_cons.mpr ⟨lw_p39, List.forall_mem_cons.mpr ⟨lw_p40, List.forall_mem_cons.mpr ⟨lw_p41, List.forall_mem_cons.mpr ⟨lw_p42, List.forall_mem_cons.mpr ⟨lw_p43, List.forall_mem_cons.mpr ⟨lw_p44, List.forall_mem_cons.mpr ⟨lw_p45, List.forall_mem_cons.mpr ⟨lw_p46, List.forall_mem_cons.mpr ⟨lw_p47, fun _ h => absurd h List.not_mem_nil⟩⟩⟩⟩⟩⟩⟩⟩⟩⟩⟩⟩⟩⟩⟩⟩
theorem lw_p48 : lw_okq (⟨"RopeMoon$Harvest", "weightOf", "(II)I"⟩, 11) := ⟨⟨by decide +kernel, by decide +kernel⟩, List.mem_of_getElem? (i := 219) (by decide +kernel), List.mem_of_getElem? (i := 757) (by decide +kernel), List.mem_of_getElem? (i := 758) (by decide +kernel)⟩
theorem lw_p49 : lw_okq (⟨"RopeMoon$Harvest", "fillCaps", "([II)V"⟩, 11) := ⟨⟨by decide +kernel, by decide +kernel⟩, List.mem_of_getElem? (i := 219) (by decide +kernel), List.mem_of_getElem? (i := 761) (by decide +kernel), List.mem_of_getElem? (i := 762) (by decide +kernel)⟩
theorem lw_p50 : lw_okq (⟨"RopeMoon$Harvest", "firstWorth", "(I)I"⟩, 11) := ⟨⟨by decide +kernel, by decide +kernel⟩, List.mem_of_getElem? (i := 219) (by decide +kernel), List.mem_of_getElem? (i := 768) (by decide +kernel), List.mem_of_getElem? (i := 769) (by decide +kernel)⟩
theorem lw_p51 : lw_okq (⟨"RopeMoon$Harvest", "seekBest", "(LRopeMoon$Walks;II)V"⟩, 11) := ⟨⟨by decide +kernel, by decide +kernel⟩, List.mem_of_getElem? (i := 219) (by decide +kernel), List.mem_of_getElem? (i := 772) (by decide +kernel), List.mem_of_getElem? (i := 773) (by decide +kernel)⟩
theorem lw_p52 : lw_okq (⟨"RopeMoon$Harvest", "open", "(J)V"⟩, 11) := ⟨⟨by decide +kernel, by decide +kernel⟩, List.mem_of_getElem? (i := 219) (by decide +kernel), List.mem_of_getElem? (i := 778) (by decide +kernel), List.mem_of_getElem? (i := 779) (by decide +kernel)⟩
theorem lw_p53 : lw_okq (⟨"RopeMoon$Harvest", "couldBeWorth", "()I"⟩, 11) := ⟨⟨by decide +kernel, by decide +kernel⟩, List.mem_of_getElem? (i := 219) (by decide +kernel), List.mem_of_getElem? (i := 783) (by decide +kernel), List.mem_of_getElem? (i := 784) (by decide +kernel)⟩
theorem lw_p54 : lw_okq (⟨"RopeMoon$Harvest", "fairScore", "()I"⟩, 11) := ⟨⟨by decide +kernel, by decide +kernel⟩, List.mem_of_getElem? (i := 219) (by decide +kernel), List.mem_of_getElem? (i := 787) (by decide +kernel), List.mem_of_getElem? (i := 788) (by decide +kernel)⟩
theorem lw_p55 : lw_okq (⟨"RopeMoon$Harvest", "cutOf", "([II)I"⟩, 11) := ⟨⟨by decide +kernel, by decide +kernel⟩, List.mem_of_getElem? (i := 219) (by decide +kernel), List.mem_of_getElem? (i := 792) (by decide +kernel), List.mem_of_getElem? (i := 793) (by decide +kernel)⟩
theorem lw_p56 : lw_okq (⟨"RopeMoon$Harvest", "weighedScore", "()I"⟩, 11) := ⟨⟨by decide +kernel, by decide +kernel⟩, List.mem_of_getElem? (i := 219) (by decide +kernel), List.mem_of_getElem? (i := 796) (by decide +kernel), List.mem_of_getElem? (i := 797) (by decide +kernel)⟩
theorem lw_p57 : lw_okq (⟨"RopeMoon", "foundAnswer", "(III)I"⟩, 13) := ⟨⟨by decide +kernel, by decide +kernel⟩, List.mem_of_getElem? (i := 20) (by decide +kernel), List.mem_of_getElem? (i := 800) (by decide +kernel), List.mem_of_getElem? (i := 801) (by decide +kernel)⟩
theorem lw_p58 : lw_okq (⟨"RopeMoon$Walks", "moveOf", "(III)I"⟩, 11) := ⟨⟨by decide +kernel, by decide +kernel⟩, List.mem_of_getElem? (i := 169) (by decide +kernel), List.mem_of_getElem? (i := 804) (by decide +kernel), List.mem_of_getElem? (i := 805) (by decide +kernel)⟩
theorem lw_p59 : lw_okq (⟨"RopeMoon$Harvest", "bidsOf", "(IJ)I"⟩, 11) := ⟨⟨by decide +kernel, by decide +kernel⟩, List.mem_of_getElem? (i := 219) (by decide +kernel), List.mem_of_getElem? (i := 830) (by decide +kernel), List.mem_of_getElem? (i := 831) (by decide +kernel)⟩
theorem lw_p60 : lw_okq (⟨"RopeMoon$Shifts", "seekAll", "(LRopeMoon$Harvest;LRopeMoon$Walks;I)V"⟩, 5) := ⟨⟨by decide +kernel, by decide +kernel⟩, List.mem_of_getElem? (i := 267) (by decide +kernel), List.mem_of_getElem? (i := 838) (by decide +kernel), List.mem_of_getElem? (i := 839) (by decide +kernel)⟩
theorem lw_p61 : lw_okq (⟨"RopeMoon$Shifts", "weigh", "(LRopeMoon$Harvest;)V"⟩, 5) := ⟨⟨by decide +kernel, by decide +kernel⟩, List.mem_of_getElem? (i := 267) (by decide +kernel), List.mem_of_getElem? (i := 847) (by decide +kernel), List.mem_of_getElem? (i := 848) (by decide +kernel)⟩
theorem lw_p62 : lw_okq (⟨"RopeMoon", "canShift", "(II)Z"⟩, 13) := ⟨⟨by decide +kernel, by decide +kernel⟩, List.mem_of_getElem? (i := 20) (by decide +kernel), List.mem_of_getElem? (i := 852) (by decide +kernel), List.mem_of_getElem? (i := 853) (by decide +kernel)⟩
theorem lw_p63 : lw_okq (⟨"RopeMoon$Ends", "countUnlike", "(LRopeMoon$Harvest;LRopeMoon$Walks;I)I"⟩, 5) := ⟨⟨by decide +kernel, by decide +kernel⟩, List.mem_of_getElem? (i := 290) (by decide +kernel), List.mem_of_getElem? (i := 873) (by decide +kernel), List.mem_of_getElem? (i := 874) (by decide +kernel)⟩
def lw_privs_4 : List (MethodName × Nat) := [(⟨"RopeMoon$Harvest", "weightOf", "(II)I"⟩, 11), (⟨"RopeMoon$Harvest", "fillCaps", "([II)V"⟩, 11), (⟨"RopeMoon$Harvest", "firstWorth", "(I)I"⟩, 11), (⟨"RopeMoon$Harvest", "seekBest", "(LRopeMoon$Walks;II)V"⟩, 11), (⟨"RopeMoon$Harvest", "open", "(J)V"⟩, 11), (⟨"RopeMoon$Harvest", "couldBeWorth", "()I"⟩, 11), (⟨"RopeMoon$Harvest", "fairScore", "()I"⟩, 11), (⟨"RopeMoon$Harvest", "cutOf", "([II)I"⟩, 11), (⟨"RopeMoon$Harvest", "weighedScore", "()I"⟩, 11), (⟨"RopeMoon", "foundAnswer", "(III)I"⟩, 13), (⟨"RopeMoon$Walks", "moveOf", "(III)I"⟩, 11), (⟨"RopeMoon$Harvest", "bidsOf", "(IJ)I"⟩, 11), (⟨"RopeMoon$Shifts", "seekAll", "(LRopeMoon$Harvest;LRopeMoon$Walks;I)V"⟩, 5), (⟨"RopeMoon$Shifts", "weigh", "(LRopeMoon$Harvest;)V"⟩, 5), (⟨"RopeMoon", "canShift", "(II)Z"⟩, 13), (⟨"RopeMoon$Ends", "countUnlike", "(LRopeMoon$Harvest;LRopeMoon$Walks;I)I"⟩, 5)]
theorem lw_r4 : ∀ q ∈ lw_privs_4, lw_okq q := List.forall_mem_cons.mpr ⟨lw_p48, List.forall_mem_cons.mpr ⟨lw_p49, List.forall_mem_cons.mpr ⟨lw_p50, List.forall_mem_cons.mpr ⟨lw_p51, List.forall_mem_cons.mpr ⟨lw_p52, List.forall_mem_cons.mpr ⟨lw_p53, List.forall_mem_cons.mpr ⟨lw_p54, List.forall_mem_cons.mpr ⟨lw_p55, List.forall_mem_cons.mpr ⟨lw_p56, List.forall_mem_cons.mpr ⟨lw_p57, List.forall_mem_cons.mpr ⟨lw_p58, List.forall_mem_cons.mpr ⟨lw_p59, List.forall_mem_cons.mpr ⟨lw_p60, List.forall_mem_cons.mpr ⟨lw_p61, List.forall_mem_cons.mpr ⟨lw_p62, List.forall_mem_cons.mpr ⟨lw_p63, fun _ h => absurd h List.not_mem_nil⟩⟩⟩⟩⟩⟩⟩⟩⟩⟩⟩⟩⟩⟩⟩⟩
theorem lw_p64 : lw_okq (⟨"RopeMoon$Ends", "keep", "(JJ)V"⟩, 5) := ⟨⟨by decide +kernel, by decide +kernel⟩, List.mem_of_getElem? (i := 290) (by decide +kernel), List.mem_of_getElem? (i := 885) (by decide +kernel), List.mem_of_getElem? (i := 886) (by decide +kernel)⟩
theorem lw_p65 : lw_okq (⟨"RopeMoon$Cover", "fewest", "(LRopeMoon$Plain;I)I"⟩, 2) := ⟨⟨by decide +kernel, by decide +kernel⟩, List.mem_of_getElem? (i := 314) (by decide +kernel), List.mem_of_getElem? (i := 893) (by decide +kernel), List.mem_of_getElem? (i := 894) (by decide +kernel)⟩
theorem lw_p66 : lw_okq (⟨"RopeMoon$Cover", "look", "(LRopeMoon$Plain;)V"⟩, 2) := ⟨⟨by decide +kernel, by decide +kernel⟩, List.mem_of_getElem? (i := 314) (by decide +kernel), List.mem_of_getElem? (i := 897) (by decide +kernel), List.mem_of_getElem? (i := 898) (by decide +kernel)⟩
theorem lw_p67 : lw_okq (⟨"RopeMoon$Cover", "leastBits", "(III)I"⟩, 2) := ⟨⟨by decide +kernel, by decide +kernel⟩, List.mem_of_getElem? (i := 314) (by decide +kernel), List.mem_of_getElem? (i := 911) (by decide +kernel), List.mem_of_getElem? (i := 912) (by decide +kernel)⟩
theorem lw_p68 : lw_okq (⟨"RopeMoon", "refusedStubble", "(II)I"⟩, 13) := ⟨⟨by decide +kernel, by decide +kernel⟩, List.mem_of_getElem? (i := 20) (by decide +kernel), List.mem_of_getElem? (i := 928) (by decide +kernel), List.mem_of_getElem? (i := 929) (by decide +kernel)⟩
theorem lw_p69 : lw_okq (⟨"RopeMoon", "explain", "(LRopeMoon$Row;I)V"⟩, 13) := ⟨⟨by decide +kernel, by decide +kernel⟩, List.mem_of_getElem? (i := 20) (by decide +kernel), List.mem_of_getElem? (i := 932) (by decide +kernel), List.mem_of_getElem? (i := 933) (by decide +kernel)⟩
theorem lw_p70 : lw_okq (⟨"RopeMoon$Ends", "explainNothing", "()V"⟩, 5) := ⟨⟨by decide +kernel, by decide +kernel⟩, List.mem_of_getElem? (i := 290) (by decide +kernel), List.mem_of_getElem? (i := 936) (by decide +kernel), List.mem_of_getElem? (i := 937) (by decide +kernel)⟩
theorem lw_p71 : lw_okq (⟨"RopeMoon$Ends", "explain", "(LRopeMoon$Harvest;LRopeMoon$Walks;ILRopeMoon$Row;)V"⟩, 5) := ⟨⟨by decide +kernel, by decide +kernel⟩, List.mem_of_getElem? (i := 290) (by decide +kernel), List.mem_of_getElem? (i := 940) (by decide +kernel), List.mem_of_getElem? (i := 941) (by decide +kernel)⟩
theorem lw_p72 : lw_okq (⟨"RopeMoon$Harvest", "stripsHungOver", "()I"⟩, 11) := ⟨⟨by decide +kernel, by decide +kernel⟩, List.mem_of_getElem? (i := 219) (by decide +kernel), List.mem_of_getElem? (i := 950) (by decide +kernel), List.mem_of_getElem? (i := 951) (by decide +kernel)⟩
theorem lw_p73 : lw_okq (⟨"RopeMoon", "refusedMeeting", "(II)I"⟩, 13) := ⟨⟨by decide +kernel, by decide +kernel⟩, List.mem_of_getElem? (i := 20) (by decide +kernel), List.mem_of_getElem? (i := 962) (by decide +kernel), List.mem_of_getElem? (i := 963) (by decide +kernel)⟩
theorem lw_p74 : lw_okq (⟨"RopeMoon", "firstMeeting", "(LRopeMoon$Row;LRopeMoon$Row;I)I"⟩, 13) := ⟨⟨by decide +kernel, by decide +kernel⟩, List.mem_of_getElem? (i := 20) (by decide +kernel), List.mem_of_getElem? (i := 966) (by decide +kernel), List.mem_of_getElem? (i := 967) (by decide +kernel)⟩
theorem lw_p75 : lw_okq (⟨"RopeMoon$Row", "renew", "(II)V"⟩, 4) := ⟨⟨by decide +kernel, by decide +kernel⟩, List.mem_of_getElem? (i := 326) (by decide +kernel), List.mem_of_getElem? (i := 978) (by decide +kernel), List.mem_of_getElem? (i := 979) (by decide +kernel)⟩
theorem lw_p76 : lw_okq (⟨"RopeMoon$Row", "put", "(IJ)J"⟩, 4) := ⟨⟨by decide +kernel, by decide +kernel⟩, List.mem_of_getElem? (i := 326) (by decide +kernel), List.mem_of_getElem? (i := 994) (by decide +kernel), List.mem_of_getElem? (i := 995) (by decide +kernel)⟩
theorem lw_p77 : lw_okq (⟨"RopeMoon$Row", "cut", "(J)J"⟩, 4) := ⟨⟨by decide +kernel, by decide +kernel⟩, List.mem_of_getElem? (i := 326) (by decide +kernel), List.mem_of_getElem? (i := 999) (by decide +kernel), List.mem_of_getElem? (i := 1000) (by decide +kernel)⟩
theorem lw_p78 : lw_okq (⟨"RopeMoonModel", "next", "()V"⟩, 37) := ⟨⟨by decide +kernel, by decide +kernel⟩, List.mem_of_getElem? (i := 1019) (by decide +kernel), List.mem_of_getElem? (i := 1154) (by decide +kernel), List.mem_of_getElem? (i := 1155) (by decide +kernel)⟩
theorem lw_p79 : lw_okq (⟨"RopeMoonModel", "see", "(I)I"⟩, 37) := ⟨⟨by decide +kernel, by decide +kernel⟩, List.mem_of_getElem? (i := 1019) (by decide +kernel), List.mem_of_getElem? (i := 1158) (by decide +kernel), List.mem_of_getElem? (i := 1159) (by decide +kernel)⟩
def lw_privs_5 : List (MethodName × Nat) := [(⟨"RopeMoon$Ends", "keep", "(JJ)V"⟩, 5), (⟨"RopeMoon$Cover", "fewest", "(LRopeMoon$Plain;I)I"⟩, 2), (⟨"RopeMoon$Cover", "look", "(LRopeMoon$Plain;)V"⟩, 2), (⟨"RopeMoon$Cover", "leastBits", "(III)I"⟩, 2), (⟨"RopeMoon", "refusedStubble", "(II)I"⟩, 13), (⟨"RopeMoon", "explain", "(LRopeMoon$Row;I)V"⟩, 13), (⟨"RopeMoon$Ends", "explainNothing", "()V"⟩, 5), (⟨"RopeMoon$Ends", "explain", "(LRopeMoon$Harvest;LRopeMoon$Walks;ILRopeMoon$Row;)V"⟩, 5), (⟨"RopeMoon$Harvest", "stripsHungOver", "()I"⟩, 11), (⟨"RopeMoon", "refusedMeeting", "(II)I"⟩, 13), (⟨"RopeMoon", "firstMeeting", "(LRopeMoon$Row;LRopeMoon$Row;I)I"⟩, 13), (⟨"RopeMoon$Row", "renew", "(II)V"⟩, 4), (⟨"RopeMoon$Row", "put", "(IJ)J"⟩, 4), (⟨"RopeMoon$Row", "cut", "(J)J"⟩, 4), (⟨"RopeMoonModel", "next", "()V"⟩, 37), (⟨"RopeMoonModel", "see", "(I)I"⟩, 37)]
theorem lw_r5 : ∀ q ∈ lw_privs_5, lw_okq q := List.forall_mem_cons.mpr ⟨lw_p64, List.forall_mem_cons.mpr ⟨lw_p65, List.forall_mem_cons.mpr ⟨lw_p66, List.forall_mem_cons.mpr ⟨lw_p67, List.forall_mem_cons.mpr ⟨lw_p68, List.forall_mem_cons.mpr ⟨lw_p69, List.forall_mem_cons.mpr ⟨lw_p70, List.forall_mem_cons.mpr ⟨lw_p71, List.forall_mem_cons.mpr ⟨lw_p72, List.forall_mem_cons.mpr ⟨lw_p73, List.forall_mem_cons.mpr ⟨lw_p74, List.forall_mem_cons.mpr ⟨lw_p75, List.forall_mem_cons.mpr ⟨lw_p76, List.forall_mem_cons.mpr ⟨lw_p77, List.forall_mem_cons.mpr ⟨lw_p78, List.forall_mem_cons.mpr ⟨lw_p79, fun _ h => absurd h List.not_mem_nil⟩⟩⟩⟩⟩⟩⟩⟩⟩⟩⟩⟩⟩⟩⟩⟩
theorem lw_p80 : lw_okq (⟨"RopeMoonModel", "keyAt", "()I"⟩, 37) := ⟨⟨by decide +kernel, by decide +kernel⟩, List.mem_of_getElem? (i := 1019) (by decide +kernel), List.mem_of_getElem? (i := 1165) (by decide +kernel), List.mem_of_getElem? (i := 1166) (by decide +kernel)⟩
theorem lw_p81 : lw_okq (⟨"RopeMoonModel", "readLine", "()V"⟩, 37) := ⟨⟨by decide +kernel, by decide +kernel⟩, List.mem_of_getElem? (i := 1019) (by decide +kernel), List.mem_of_getElem? (i := 1175) (by decide +kernel), List.mem_of_getElem? (i := 1176) (by decide +kernel)⟩
theorem lw_p82 : lw_okq (⟨"RopeMoonModel", "is", "(I)Z"⟩, 37) := ⟨⟨by decide +kernel, by decide +kernel⟩, List.mem_of_getElem? (i := 1019) (by decide +kernel), List.mem_of_getElem? (i := 1179) (by decide +kernel), List.mem_of_getElem? (i := 1180) (by decide +kernel)⟩
theorem lw_p83 : lw_okq (⟨"RopeMoonModel", "readStrip", "()V"⟩, 37) := ⟨⟨by decide +kernel, by decide +kernel⟩, List.mem_of_getElem? (i := 1019) (by decide +kernel), List.mem_of_getElem? (i := 1183) (by decide +kernel), List.mem_of_getElem? (i := 1184) (by decide +kernel)⟩
theorem lw_p84 : lw_okq (⟨"RopeMoonModel", "fails", "(I)V"⟩, 37) := ⟨⟨by decide +kernel, by decide +kernel⟩, List.mem_of_getElem? (i := 1019) (by decide +kernel), List.mem_of_getElem? (i := 1187) (by decide +kernel), List.mem_of_getElem? (i := 1188) (by decide +kernel)⟩
theorem lw_p85 : lw_okq (⟨"RopeMoonModel", "takes", "(II)I"⟩, 37) := ⟨⟨by decide +kernel, by decide +kernel⟩, List.mem_of_getElem? (i := 1019) (by decide +kernel), List.mem_of_getElem? (i := 1191) (by decide +kernel), List.mem_of_getElem? (i := 1192) (by decide +kernel)⟩
theorem lw_p86 : lw_okq (⟨"RopeMoonModel", "takesIf", "(IIII)I"⟩, 37) := ⟨⟨by decide +kernel, by decide +kernel⟩, List.mem_of_getElem? (i := 1019) (by decide +kernel), List.mem_of_getElem? (i := 1195) (by decide +kernel), List.mem_of_getElem? (i := 1196) (by decide +kernel)⟩
theorem lw_p87 : lw_okq (⟨"RopeMoonModel", "eats", "(I)Z"⟩, 37) := ⟨⟨by decide +kernel, by decide +kernel⟩, List.mem_of_getElem? (i := 1019) (by decide +kernel), List.mem_of_getElem? (i := 1199) (by decide +kernel), List.mem_of_getElem? (i := 1200) (by decide +kernel)⟩
theorem lw_p88 : lw_okq (⟨"RopeMoonModel", "readLamp", "()V"⟩, 37) := ⟨⟨by decide +kernel, by decide +kernel⟩, List.mem_of_getElem? (i := 1019) (by decide +kernel), List.mem_of_getElem? (i := 1203) (by decide +kernel), List.mem_of_getElem? (i := 1204) (by decide +kernel)⟩
theorem lw_p89 : lw_okq (⟨"RopeMoonModel", "readBid", "()V"⟩, 37) := ⟨⟨by decide +kernel, by decide +kernel⟩, List.mem_of_getElem? (i := 1019) (by decide +kernel), List.mem_of_getElem? (i := 1207) (by decide +kernel), List.mem_of_getElem? (i := 1208) (by decide +kernel)⟩
theorem lw_p90 : lw_okq (⟨"RopeMoonModel", "isStrip", "(I)Z"⟩, 37) := ⟨⟨by decide +kernel, by decide +kernel⟩, List.mem_of_getElem? (i := 1019) (by decide +kernel), List.mem_of_getElem? (i := 1219) (by decide +kernel), List.mem_of_getElem? (i := 1220) (by decide +kernel)⟩
theorem lw_p91 : lw_okq (⟨"RopeMoonModel", "lightOf", "(II)I"⟩, 37) := ⟨⟨by decide +kernel, by decide +kernel⟩, List.mem_of_getElem? (i := 1019) (by decide +kernel), List.mem_of_getElem? (i := 1224) (by decide +kernel), List.mem_of_getElem? (i := 1225) (by decide +kernel)⟩
theorem lw_p92 : lw_okq (⟨"RopeMoonModel", "lightBy", "(III)I"⟩, 37) := ⟨⟨by decide +kernel, by decide +kernel⟩, List.mem_of_getElem? (i := 1019) (by decide +kernel), List.mem_of_getElem? (i := 1228) (by decide +kernel), List.mem_of_getElem? (i := 1229) (by decide +kernel)⟩
theorem lw_p93 : lw_okq (⟨"RopeMoonModel", "isShaded", "(III)Z"⟩, 37) := ⟨⟨by decide +kernel, by decide +kernel⟩, List.mem_of_getElem? (i := 1019) (by decide +kernel), List.mem_of_getElem? (i := 1232) (by decide +kernel), List.mem_of_getElem? (i := 1233) (by decide +kernel)⟩
theorem lw_p94 : lw_okq (⟨"RopeMoonModel", "nearness", "(II)I"⟩, 37) := ⟨⟨by decide +kernel, by decide +kernel⟩, List.mem_of_getElem? (i := 1019) (by decide +kernel), List.mem_of_getElem? (i := 1239) (by decide +kernel), List.mem_of_getElem? (i := 1240) (by decide +kernel)⟩
theorem lw_p95 : lw_okq (⟨"RopeMoonModel", "ofFarm", "(II)I"⟩, 37) := ⟨⟨by decide +kernel, by decide +kernel⟩, List.mem_of_getElem? (i := 1019) (by decide +kernel), List.mem_of_getElem? (i := 1248) (by decide +kernel), List.mem_of_getElem? (i := 1249) (by decide +kernel)⟩
def lw_privs_6 : List (MethodName × Nat) := [(⟨"RopeMoonModel", "keyAt", "()I"⟩, 37), (⟨"RopeMoonModel", "readLine", "()V"⟩, 37), (⟨"RopeMoonModel", "is", "(I)Z"⟩, 37), (⟨"RopeMoonModel", "readStrip", "()V"⟩, 37), (⟨"RopeMoonModel", "fails", "(I)V"⟩, 37), (⟨"RopeMoonModel", "takes", "(II)I"⟩, 37), (⟨"RopeMoonModel", "takesIf", "(IIII)I"⟩, 37), (⟨"RopeMoonModel", "eats", "(I)Z"⟩, 37), (⟨"RopeMoonModel", "readLamp", "()V"⟩, 37), (⟨"RopeMoonModel", "readBid", "()V"⟩, 37), (⟨"RopeMoonModel", "isStrip", "(I)Z"⟩, 37), (⟨"RopeMoonModel", "lightOf", "(II)I"⟩, 37), (⟨"RopeMoonModel", "lightBy", "(III)I"⟩, 37), (⟨"RopeMoonModel", "isShaded", "(III)Z"⟩, 37), (⟨"RopeMoonModel", "nearness", "(II)I"⟩, 37), (⟨"RopeMoonModel", "ofFarm", "(II)I"⟩, 37)]
theorem lw_r6 : ∀ q ∈ lw_privs_6, lw_okq q := List.forall_mem_cons.mpr ⟨lw_p80, List.forall_mem_cons.mpr ⟨lw_p81, List.forall_mem_cons.mpr ⟨lw_p82, List.forall_mem_cons.mpr ⟨lw_p83, List.forall_mem_cons.mpr ⟨lw_p84, List.forall_mem_cons.mpr ⟨lw_p85, List.forall_mem_cons.mpr ⟨lw_p86, List.forall_mem_cons.mpr ⟨lw_p87, List.forall_mem_cons.mpr ⟨lw_p88, List.forall_mem_cons.mpr ⟨lw_p89, List.forall_mem_cons.mpr ⟨lw_p90, List.forall_mem_cons.mpr ⟨lw_p91, List.forall_mem_cons.mpr ⟨lw_p92, List.forall_mem_cons.mpr ⟨lw_p93, List.forall_mem_cons.mpr ⟨lw_p94, List.forall_mem_cons.mpr ⟨lw_p95, fun _ h => absurd h List.not_mem_nil⟩⟩⟩⟩⟩⟩⟩⟩⟩⟩⟩⟩⟩⟩⟩⟩
theorem lw_p96 : lw_okq (⟨"RopeMoonModel", "stripsOf", "(I)I"⟩, 37) := ⟨⟨by decide +kernel, by decide +kernel⟩, List.mem_of_getElem? (i := 1019) (by decide +kernel), List.mem_of_getElem? (i := 1252) (by decide +kernel), List.mem_of_getElem? (i := 1253) (by decide +kernel)⟩
theorem lw_p97 : lw_okq (⟨"RopeMoonModel", "litBy", "(II)I"⟩, 37) := ⟨⟨by decide +kernel, by decide +kernel⟩, List.mem_of_getElem? (i := 1019) (by decide +kernel), List.mem_of_getElem? (i := 1264) (by decide +kernel), List.mem_of_getElem? (i := 1265) (by decide +kernel)⟩
theorem lw_p98 : lw_okq (⟨"RopeMoonModel", "isSet", "(I)Z"⟩, 37) := ⟨⟨by decide +kernel, by decide +kernel⟩, List.mem_of_getElem? (i := 1019) (by decide +kernel), List.mem_of_getElem? (i := 1280) (by decide +kernel), List.mem_of_getElem? (i := 1281) (by decide +kernel)⟩
theorem lw_p99 : lw_okq (⟨"RopeMoonModel", "refuses", "(J)I"⟩, 37) := ⟨⟨by decide +kernel, by decide +kernel⟩, List.mem_of_getElem? (i := 1019) (by decide +kernel), List.mem_of_getElem? (i := 1297) (by decide +kernel), List.mem_of_getElem? (i := 1298) (by decide +kernel)⟩
theorem lw_p100 : lw_okq (⟨"RopeMoonModel", "goes", "(IZ)I"⟩, 37) := ⟨⟨by decide +kernel, by decide +kernel⟩, List.mem_of_getElem? (i := 1019) (by decide +kernel), List.mem_of_getElem? (i := 1305) (by decide +kernel), List.mem_of_getElem? (i := 1306) (by decide +kernel)⟩
theorem lw_p101 : lw_okq (⟨"RopeMoonModel", "keeps", "(I)V"⟩, 37) := ⟨⟨by decide +kernel, by decide +kernel⟩, List.mem_of_getElem? (i := 1019) (by decide +kernel), List.mem_of_getElem? (i := 1313) (by decide +kernel), List.mem_of_getElem? (i := 1314) (by decide +kernel)⟩
theorem lw_p102 : lw_okq (⟨"RopeMoonModel", "movesOf", "(I)I"⟩, 37) := ⟨⟨by decide +kernel, by decide +kernel⟩, List.mem_of_getElem? (i := 1019) (by decide +kernel), List.mem_of_getElem? (i := 1317) (by decide +kernel), List.mem_of_getElem? (i := 1318) (by decide +kernel)⟩
theorem lw_p103 : lw_okq (⟨"RopeMoonModel", "isAgain", "(I)V"⟩, 37) := ⟨⟨by decide +kernel, by decide +kernel⟩, List.mem_of_getElem? (i := 1019) (by decide +kernel), List.mem_of_getElem? (i := 1321) (by decide +kernel), List.mem_of_getElem? (i := 1322) (by decide +kernel)⟩
theorem lw_p104 : lw_okq (⟨"RopeMoonModel", "draw", "(I)I"⟩, 37) := ⟨⟨by decide +kernel, by decide +kernel⟩, List.mem_of_getElem? (i := 1019) (by decide +kernel), List.mem_of_getElem? (i := 1339) (by decide +kernel), List.mem_of_getElem? (i := 1340) (by decide +kernel)⟩
theorem lw_p105 : lw_okq (⟨"RopeMoonModel", "told", "(IIIIZ)I"⟩, 37) := ⟨⟨by decide +kernel, by decide +kernel⟩, List.mem_of_getElem? (i := 1019) (by decide +kernel), List.mem_of_getElem? (i := 1352) (by decide +kernel), List.mem_of_getElem? (i := 1353) (by decide +kernel)⟩
theorem lw_p106 : lw_okq (⟨"RopeMoonModel", "laysBest", "(III)I"⟩, 37) := ⟨⟨by decide +kernel, by decide +kernel⟩, List.mem_of_getElem? (i := 1019) (by decide +kernel), List.mem_of_getElem? (i := 1359) (by decide +kernel), List.mem_of_getElem? (i := 1360) (by decide +kernel)⟩
theorem lw_p107 : lw_okq (⟨"RopeMoonModel", "minutesOf", "(I)I"⟩, 37) := ⟨⟨by decide +kernel, by decide +kernel⟩, List.mem_of_getElem? (i := 1019) (by decide +kernel), List.mem_of_getElem? (i := 1363) (by decide +kernel), List.mem_of_getElem? (i := 1364) (by decide +kernel)⟩
theorem lw_p108 : lw_okq (⟨"RopeMoonModel", "seeks", "(I)V"⟩, 37) := ⟨⟨by decide +kernel, by decide +kernel⟩, List.mem_of_getElem? (i := 1019) (by decide +kernel), List.mem_of_getElem? (i := 1367) (by decide +kernel), List.mem_of_getElem? (i := 1368) (by decide +kernel)⟩
theorem lw_p109 : lw_okq (⟨"RopeMoonModel", "firstWorth", "()I"⟩, 37) := ⟨⟨by decide +kernel, by decide +kernel⟩, List.mem_of_getElem? (i := 1019) (by decide +kernel), List.mem_of_getElem? (i := 1371) (by decide +kernel), List.mem_of_getElem? (i := 1372) (by decide +kernel)⟩
theorem lw_p110 : lw_okq (⟨"RopeMoonModel", "total", "()I"⟩, 37) := ⟨⟨by decide +kernel, by decide +kernel⟩, List.mem_of_getElem? (i := 1019) (by decide +kernel), List.mem_of_getElem? (i := 1375) (by decide +kernel), List.mem_of_getElem? (i := 1376) (by decide +kernel)⟩
theorem lw_p111 : lw_okq (⟨"RopeMoonModel", "gathers", "(II)V"⟩, 37) := ⟨⟨by decide +kernel, by decide +kernel⟩, List.mem_of_getElem? (i := 1019) (by decide +kernel), List.mem_of_getElem? (i := 1417) (by decide +kernel), List.mem_of_getElem? (i := 1418) (by decide +kernel)⟩
def lw_privs_7 : List (MethodName × Nat) := [(⟨"RopeMoonModel", "stripsOf", "(I)I"⟩, 37), (⟨"RopeMoonModel", "litBy", "(II)I"⟩, 37), (⟨"RopeMoonModel", "isSet", "(I)Z"⟩, 37), (⟨"RopeMoonModel", "refuses", "(J)I"⟩, 37), (⟨"RopeMoonModel", "goes", "(IZ)I"⟩, 37), (⟨"RopeMoonModel", "keeps", "(I)V"⟩, 37), (⟨"RopeMoonModel", "movesOf", "(I)I"⟩, 37), (⟨"RopeMoonModel", "isAgain", "(I)V"⟩, 37), (⟨"RopeMoonModel", "draw", "(I)I"⟩, 37), (⟨"RopeMoonModel", "told", "(IIIIZ)I"⟩, 37), (⟨"RopeMoonModel", "laysBest", "(III)I"⟩, 37), (⟨"RopeMoonModel", "minutesOf", "(I)I"⟩, 37), (⟨"RopeMoonModel", "seeks", "(I)V"⟩, 37), (⟨"RopeMoonModel", "firstWorth", "()I"⟩, 37), (⟨"RopeMoonModel", "total", "()I"⟩, 37), (⟨"RopeMoonModel", "gathers", "(II)V"⟩, 37)]
theorem lw_r7 : ∀ q ∈ lw_privs_7, lw_okq q := List.forall_mem_cons.mpr ⟨lw_p96, List.forall_mem_cons.mpr ⟨lw_p97, List.forall_mem_cons.mpr ⟨lw_p98, List.forall_mem_cons.mpr ⟨lw_p99, List.forall_mem_cons.mpr ⟨lw_p100, List.forall_mem_cons.mpr ⟨lw_p101, List.forall_mem_cons.mpr ⟨lw_p102, List.forall_mem_cons.mpr ⟨lw_p103, List.forall_mem_cons.mpr ⟨lw_p104, List.forall_mem_cons.mpr ⟨lw_p105, List.forall_mem_cons.mpr ⟨lw_p106, List.forall_mem_cons.mpr ⟨lw_p107, List.forall_mem_cons.mpr ⟨lw_p108, List.forall_mem_cons.mpr ⟨lw_p109, List.forall_mem_cons.mpr ⟨lw_p110, List.forall_mem_cons.mpr ⟨lw_p111, fun _ h => absurd h List.not_mem_nil⟩⟩⟩⟩⟩⟩⟩⟩⟩⟩⟩⟩⟩⟩⟩⟩
theorem lw_p112 : lw_okq (⟨"RopeMoonModel", "isMet", "()Z"⟩, 37) := ⟨⟨by decide +kernel, by decide +kernel⟩, List.mem_of_getElem? (i := 1019) (by decide +kernel), List.mem_of_getElem? (i := 1421) (by decide +kernel), List.mem_of_getElem? (i := 1422) (by decide +kernel)⟩
theorem lw_p113 : lw_okq (⟨"RopeMoonModel", "haltsFor", "(I)I"⟩, 37) := ⟨⟨by decide +kernel, by decide +kernel⟩, List.mem_of_getElem? (i := 1019) (by decide +kernel), List.mem_of_getElem? (i := 1429) (by decide +kernel), List.mem_of_getElem? (i := 1430) (by decide +kernel)⟩
theorem lw_p114 : lw_okq (⟨"RopeMoonModel", "laysStubble", "(II)I"⟩, 37) := ⟨⟨by decide +kernel, by decide +kernel⟩, List.mem_of_getElem? (i := 1019) (by decide +kernel), List.mem_of_getElem? (i := 1444) (by decide +kernel), List.mem_of_getElem? (i := 1445) (by decide +kernel)⟩
theorem lw_p115 : lw_okq (⟨"RopeMoonModel", "explains", "(III)V"⟩, 37) := ⟨⟨by decide +kernel, by decide +kernel⟩, List.mem_of_getElem? (i := 1019) (by decide +kernel), List.mem_of_getElem? (i := 1448) (by decide +kernel), List.mem_of_getElem? (i := 1449) (by decide +kernel)⟩
theorem lw_p116 : lw_okq (⟨"RopeMoonModel", "canWalk", "(I)Z"⟩, 37) := ⟨⟨by decide +kernel, by decide +kernel⟩, List.mem_of_getElem? (i := 1019) (by decide +kernel), List.mem_of_getElem? (i := 1460) (by decide +kernel), List.mem_of_getElem? (i := 1461) (by decide +kernel)⟩
theorem lw_p117 : lw_okq (⟨"RopeMoonModel", "isOther", "(II)Z"⟩, 37) := ⟨⟨by decide +kernel, by decide +kernel⟩, List.mem_of_getElem? (i := 1019) (by decide +kernel), List.mem_of_getElem? (i := 1464) (by decide +kernel), List.mem_of_getElem? (i := 1465) (by decide +kernel)⟩
theorem lw_p118 : lw_okq (⟨"RopeMoonModel", "meetBy", "(III)Z"⟩, 37) := ⟨⟨by decide +kernel, by decide +kernel⟩, List.mem_of_getElem? (i := 1019) (by decide +kernel), List.mem_of_getElem? (i := 1472) (by decide +kernel), List.mem_of_getElem? (i := 1473) (by decide +kernel)⟩
theorem lw_p119 : lw_okq (⟨"RopeMoonModel", "sumOf", "(I)I"⟩, 37) := ⟨⟨by decide +kernel, by decide +kernel⟩, List.mem_of_getElem? (i := 1019) (by decide +kernel), List.mem_of_getElem? (i := 1507) (by decide +kernel), List.mem_of_getElem? (i := 1508) (by decide +kernel)⟩
def lw_privs_8 : List (MethodName × Nat) := [(⟨"RopeMoonModel", "isMet", "()Z"⟩, 37), (⟨"RopeMoonModel", "haltsFor", "(I)I"⟩, 37), (⟨"RopeMoonModel", "laysStubble", "(II)I"⟩, 37), (⟨"RopeMoonModel", "explains", "(III)V"⟩, 37), (⟨"RopeMoonModel", "canWalk", "(I)Z"⟩, 37), (⟨"RopeMoonModel", "isOther", "(II)Z"⟩, 37), (⟨"RopeMoonModel", "meetBy", "(III)Z"⟩, 37), (⟨"RopeMoonModel", "sumOf", "(I)I"⟩, 37)]
theorem lw_r8 : ∀ q ∈ lw_privs_8, lw_okq q := List.forall_mem_cons.mpr ⟨lw_p112, List.forall_mem_cons.mpr ⟨lw_p113, List.forall_mem_cons.mpr ⟨lw_p114, List.forall_mem_cons.mpr ⟨lw_p115, List.forall_mem_cons.mpr ⟨lw_p116, List.forall_mem_cons.mpr ⟨lw_p117, List.forall_mem_cons.mpr ⟨lw_p118, List.forall_mem_cons.mpr ⟨lw_p119, fun _ h => absurd h List.not_mem_nil⟩⟩⟩⟩⟩⟩⟩⟩
def lw_privs : List (MethodName × Nat) := lw_privs_1 ++ (lw_privs_2 ++ (lw_privs_3 ++ (lw_privs_4 ++ (lw_privs_5 ++ (lw_privs_6 ++ (lw_privs_7 ++ (lw_privs_8)))))))
def lw_tbl : List Cond := k2_sels lw_privs ++ tables_1
theorem lw_privs_ok : ∀ q ∈ lw_privs, lw_okq q := by
  show ∀ q ∈ lw_privs_1 ++ (lw_privs_2 ++ (lw_privs_3 ++ (lw_privs_4 ++ (lw_privs_5 ++ (lw_privs_6 ++ (lw_privs_7 ++ (lw_privs_8))))))), lw_okq q
  exact List.forall_mem_append.mpr ⟨lw_r1, List.forall_mem_append.mpr ⟨lw_r2, List.forall_mem_append.mpr ⟨lw_r3, List.forall_mem_append.mpr ⟨lw_r4, List.forall_mem_append.mpr ⟨lw_r5, List.forall_mem_append.mpr ⟨lw_r6, List.forall_mem_append.mpr ⟨lw_r7, lw_r8⟩⟩⟩⟩⟩⟩⟩
end
section
def RX0 : String := "RopeMoon$Cover"
def TX0 : u_T := fun k => match k with
  | 0 => ("RopeMoon$Cover", "litFrom", "[I", true)
  | _ => ("RopeMoon$Cover", "lightersOf", "[I", true)
def tyX0 : Nat → FieldType := fun k => match k with
  | 0 => .array .int
  | _ => .array .int
theorem nmX0 : ∀ a, a < 2 → ∀ b, b < 2 → a ≠ b → (TX0 a).2.1 ≠ (TX0 b).2.1 := by decide +kernel
theorem tyX0_ok : ∀ k, k < 2 → parseFieldDescriptor (TX0 k).2.2.1 = some (tyX0 k) := by decide +kernel
def RX1 : String := "RopeMoon$Ends"
def TX1 : u_T := fun k => match k with
  | 0 => ("RopeMoon$Ends", "lowCrops", "[J", true)
  | 1 => ("RopeMoon$Ends", "highCrops", "[J", true)
  | 2 => ("RopeMoon$Ends", "unlike", "I", false)
  | 3 => ("RopeMoon$Ends", "explained", "I", false)
  | _ => ("RopeMoon$Ends", "sureStrips", "I", false)
def tyX1 : Nat → FieldType := fun k => match k with
  | 0 => .array .long
  | 1 => .array .long
  | 2 => .int
  | 3 => .int
  | _ => .int
theorem nmX1 : ∀ a, a < 5 → ∀ b, b < 5 → a ≠ b → (TX1 a).2.1 ≠ (TX1 b).2.1 := by decide +kernel
theorem tyX1_ok : ∀ k, k < 5 → parseFieldDescriptor (TX1 k).2.2.1 = some (tyX1 k) := by decide +kernel
def RX2 : String := "RopeMoon$Harvest"
def TX2 : u_T := fun k => match k with
  | 0 => ("RopeMoon$Harvest", "over", "LRopeMoon$Plain;", false)
  | 1 => ("RopeMoon$Harvest", "goal", "I", false)
  | 2 => ("RopeMoon$Harvest", "weights", "[I", true)
  | 3 => ("RopeMoon$Harvest", "caps", "[I", true)
  | 4 => ("RopeMoon$Harvest", "firstWorths", "[I", true)
  | 5 => ("RopeMoon$Harvest", "farmGot", "[I", true)
  | 6 => ("RopeMoon$Harvest", "hungOver", "[I", true)
  | 7 => ("RopeMoon$Harvest", "hungTimes", "[I", true)
  | 8 => ("RopeMoon$Harvest", "hung", "I", false)
  | 9 => ("RopeMoon$Harvest", "bestScore", "I", false)
  | _ => ("RopeMoon$Harvest", "bestState", "I", false)
def tyX2 : Nat → FieldType := fun k => match k with
  | 0 => .object "RopeMoon$Plain"
  | 1 => .int
  | 2 => .array .int
  | 3 => .array .int
  | 4 => .array .int
  | 5 => .array .int
  | 6 => .array .int
  | 7 => .array .int
  | 8 => .int
  | 9 => .int
  | _ => .int
theorem nmX2 : ∀ a, a < 11 → ∀ b, b < 11 → a ≠ b → (TX2 a).2.1 ≠ (TX2 b).2.1 := by decide +kernel
theorem tyX2_ok : ∀ k, k < 11 → parseFieldDescriptor (TX2 k).2.2.1 = some (tyX2 k) := by decide +kernel
def RX3 : String := "RopeMoon$Plain"
def TX3 : u_T := fun k => match k with
  | 0 => ("RopeMoon$Plain", "strips", "I", false)
  | 1 => ("RopeMoon$Plain", "lines", "I", false)
  | 2 => ("RopeMoon$Plain", "minute", "I", false)
  | 3 => ("RopeMoon$Plain", "at", "I", false)
  | 4 => ("RopeMoon$Plain", "rope", "I", false)
  | 5 => ("RopeMoon$Plain", "power", "I", false)
  | 6 => ("RopeMoon$Plain", "fade", "I", false)
  | 7 => ("RopeMoon$Plain", "oil", "I", false)
  | 8 => ("RopeMoon$Plain", "moths", "I", false)
  | 9 => ("RopeMoon$Plain", "crossing", "I", false)
  | 10 => ("RopeMoon$Plain", "crops", "[I", true)
  | 11 => ("RopeMoon$Plain", "reapers", "[I", true)
  | 12 => ("RopeMoon$Plain", "trees", "[I", true)
  | 13 => ("RopeMoon$Plain", "farms", "[I", true)
  | 14 => ("RopeMoon$Plain", "reaped", "[I", true)
  | _ => ("RopeMoon$Plain", "bids", "[I", true)
def tyX3 : Nat → FieldType := fun k => match k with
  | 0 => .int
  | 1 => .int
  | 2 => .int
  | 3 => .int
  | 4 => .int
  | 5 => .int
  | 6 => .int
  | 7 => .int
  | 8 => .int
  | 9 => .int
  | 10 => .array .int
  | 11 => .array .int
  | 12 => .array .int
  | 13 => .array .int
  | 14 => .array .int
  | _ => .array .int
theorem nmX3 : ∀ a, a < 16 → ∀ b, b < 16 → a ≠ b → (TX3 a).2.1 ≠ (TX3 b).2.1 := by decide +kernel
theorem tyX3_ok : ∀ k, k < 16 → parseFieldDescriptor (TX3 k).2.2.1 = some (tyX3 k) := by decide +kernel
abbrev cX3_hasStrip : ByteArray := prog_5_method_5_code
def yX3_hasStrip : MethodName := ⟨RX3, "hasStrip", "(I)Z"⟩
def RX4 : String := "RopeMoon$Row"
def TX4 : u_T := fun k => match k with
  | 0 => ("RopeMoon$Row", "missing", "Z", false)
  | 1 => ("RopeMoon$Row", "sort", "I", false)
  | 2 => ("RopeMoon$Row", "size", "I", false)
  | _ => ("RopeMoon$Row", "values", "[J", true)
def tyX4 : Nat → FieldType := fun k => match k with
  | 0 => .boolean
  | 1 => .int
  | 2 => .int
  | _ => .array .long
theorem nmX4 : ∀ a, a < 4 → ∀ b, b < 4 → a ≠ b → (TX4 a).2.1 ≠ (TX4 b).2.1 := by decide +kernel
theorem tyX4_ok : ∀ k, k < 4 → parseFieldDescriptor (TX4 k).2.2.1 = some (tyX4 k) := by decide +kernel
def RX5 : String := "RopeMoon$Shifts"
def TX5 : u_T := fun k => match k with
  | 0 => ("RopeMoon$Shifts", "fewerCaps", "[I", true)
  | 1 => ("RopeMoon$Shifts", "moreCaps", "[I", true)
  | 2 => ("RopeMoon$Shifts", "without", "[I", true)
  | 3 => ("RopeMoon$Shifts", "with", "[I", true)
  | _ => ("RopeMoon$Shifts", "mostSheaves", "[I", true)
def tyX5 : Nat → FieldType := fun k => match k with
  | 0 => .array .int
  | 1 => .array .int
  | 2 => .array .int
  | 3 => .array .int
  | _ => .array .int
theorem nmX5 : ∀ a, a < 5 → ∀ b, b < 5 → a ≠ b → (TX5 a).2.1 ≠ (TX5 b).2.1 := by decide +kernel
theorem tyX5_ok : ∀ k, k < 5 → parseFieldDescriptor (TX5 k).2.2.1 = some (tyX5 k) := by decide +kernel
def RX6 : String := "RopeMoon$TextReader"
def TX6 : u_T := fun k => match k with
  | 0 => ("RopeMoon$TextReader", "told", "LRopeMoon$Plain;", true)
  | 1 => ("RopeMoon$TextReader", "faultKind", "I", false)
  | 2 => ("RopeMoon$TextReader", "faultPlace", "I", false)
  | 3 => ("RopeMoon$TextReader", "text", "[B", true)
  | 4 => ("RopeMoon$TextReader", "length", "I", false)
  | 5 => ("RopeMoon$TextReader", "start", "I", false)
  | 6 => ("RopeMoon$TextReader", "next", "I", false)
  | 7 => ("RopeMoon$TextReader", "token", "I", false)
  | _ => ("RopeMoon$TextReader", "value", "I", false)
def tyX6 : Nat → FieldType := fun k => match k with
  | 0 => .object "RopeMoon$Plain"
  | 1 => .int
  | 2 => .int
  | 3 => .array .byte
  | 4 => .int
  | 5 => .int
  | 6 => .int
  | 7 => .int
  | _ => .int
theorem nmX6 : ∀ a, a < 9 → ∀ b, b < 9 → a ≠ b → (TX6 a).2.1 ≠ (TX6 b).2.1 := by decide +kernel
theorem tyX6_ok : ∀ k, k < 9 → parseFieldDescriptor (TX6 k).2.2.1 = some (tyX6 k) := by decide +kernel
def RX7 : String := "RopeMoon$Walks"
def TX7 : u_T := fun k => match k with
  | 0 => ("RopeMoon$Walks", "hangs", "[J", true)
  | 1 => ("RopeMoon$Walks", "places", "[I", true)
  | 2 => ("RopeMoon$Walks", "ways", "[I", true)
  | 3 => ("RopeMoon$Walks", "moves", "[I", true)
  | 4 => ("RopeMoon$Walks", "twin", "[Z", true)
  | 5 => ("RopeMoon$Walks", "slots", "[I", true)
  | 6 => ("RopeMoon$Walks", "starts", "[I", true)
  | 7 => ("RopeMoon$Walks", "strips", "I", false)
  | 8 => ("RopeMoon$Walks", "from", "I", false)
  | 9 => ("RopeMoon$Walks", "laid", "I", false)
  | _ => ("RopeMoon$Walks", "size", "I", false)
def tyX7 : Nat → FieldType := fun k => match k with
  | 0 => .array .long
  | 1 => .array .int
  | 2 => .array .int
  | 3 => .array .int
  | 4 => .array .boolean
  | 5 => .array .int
  | 6 => .array .int
  | 7 => .int
  | 8 => .int
  | 9 => .int
  | _ => .int
theorem nmX7 : ∀ a, a < 11 → ∀ b, b < 11 → a ≠ b → (TX7 a).2.1 ≠ (TX7 b).2.1 := by decide +kernel
theorem tyX7_ok : ∀ k, k < 11 → parseFieldDescriptor (TX7 k).2.2.1 = some (tyX7 k) := by decide +kernel
def RX8 : String := "RopeMoon"
def TX8 : u_T := fun k => match k with
  | 0 => ("RopeMoon", "tape", "[B", true)
  | 1 => ("RopeMoon", "tapeSize", "I", false)
  | 2 => ("RopeMoon", "reader", "LRopeMoon$TextReader;", true)
  | 3 => ("RopeMoon", "field", "LRopeMoon$Plain;", true)
  | 4 => ("RopeMoon", "trial", "LRopeMoon$Plain;", true)
  | 5 => ("RopeMoon", "images", "[LRopeMoon$Plain;", true)
  | 6 => ("RopeMoon", "imageMade", "[Z", true)
  | 7 => ("RopeMoon", "rows", "[LRopeMoon$Row;", true)
  | 8 => ("RopeMoon", "walks", "LRopeMoon$Walks;", true)
  | 9 => ("RopeMoon", "harvest", "LRopeMoon$Harvest;", true)
  | 10 => ("RopeMoon", "shifts", "LRopeMoon$Shifts;", true)
  | 11 => ("RopeMoon", "endings", "LRopeMoon$Ends;", true)
  | _ => ("RopeMoon", "cover", "LRopeMoon$Cover;", true)
def tyX8 : Nat → FieldType := fun k => match k with
  | 0 => .array .byte
  | 1 => .int
  | 2 => .object "RopeMoon$TextReader"
  | 3 => .object "RopeMoon$Plain"
  | 4 => .object "RopeMoon$Plain"
  | 5 => .array (.object "RopeMoon$Plain")
  | 6 => .array .boolean
  | 7 => .array (.object "RopeMoon$Row")
  | 8 => .object "RopeMoon$Walks"
  | 9 => .object "RopeMoon$Harvest"
  | 10 => .object "RopeMoon$Shifts"
  | 11 => .object "RopeMoon$Ends"
  | _ => .object "RopeMoon$Cover"
theorem nmX8 : ∀ a, a < 13 → ∀ b, b < 13 → a ≠ b → (TX8 a).2.1 ≠ (TX8 b).2.1 := by decide +kernel
theorem tyX8_ok : ∀ k, k < 13 → parseFieldDescriptor (TX8 k).2.2.1 = some (tyX8 k) := by decide +kernel
abbrev cX8_strip : ByteArray := prog_1_method_5_code
def yX8_strip : MethodName := ⟨RX8, "strip", "(II)I"⟩
abbrev cX8_isFarm : ByteArray := prog_1_method_43_code
def yX8_isFarm : MethodName := ⟨RX8, "isFarm", "(I)Z"⟩
abbrev cX8_isRow : ByteArray := prog_1_method_44_code
def yX8_isRow : MethodName := ⟨RX8, "isRow", "(I)Z"⟩
def RX9 : String := "RopeMoonModel"
def TX9 : u_T := fun k => match k with
  | 0 => ("RopeMoonModel", "thrown", "I", false)
  | 1 => ("RopeMoonModel", "all", "[I", true)
  | 2 => ("RopeMoonModel", "hasImage", "[Z", true)
  | 3 => ("RopeMoonModel", "tape", "[I", true)
  | 4 => ("RopeMoonModel", "fresh", "[I", true)
  | 5 => ("RopeMoonModel", "taped", "I", false)
  | 6 => ("RopeMoonModel", "at", "I", false)
  | 7 => ("RopeMoonModel", "behind", "I", false)
  | 8 => ("RopeMoonModel", "size", "I", false)
  | 9 => ("RopeMoonModel", "kind", "I", false)
  | 10 => ("RopeMoonModel", "number", "I", false)
  | 11 => ("RopeMoonModel", "wrong", "I", false)
  | 12 => ("RopeMoonModel", "wrongAt", "I", false)
  | 13 => ("RopeMoonModel", "faultKind", "I", false)
  | 14 => ("RopeMoonModel", "faultPlace", "I", false)
  | 15 => ("RopeMoonModel", "gotten", "[I", true)
  | 16 => ("RopeMoonModel", "kept", "[I", true)
  | 17 => ("RopeMoonModel", "why", "I", false)
  | 18 => ("RopeMoonModel", "reapedMany", "I", false)
  | 19 => ("RopeMoonModel", "x", "I", false)
  | 20 => ("RopeMoonModel", "moves", "[I", true)
  | 21 => ("RopeMoonModel", "bestMoves", "[I", true)
  | 22 => ("RopeMoonModel", "bestGotten", "[I", true)
  | 23 => ("RopeMoonModel", "aim", "I", false)
  | 24 => ("RopeMoonModel", "aimFarm", "I", false)
  | 25 => ("RopeMoonModel", "bestFirst", "I", false)
  | 26 => ("RopeMoonModel", "bestSecond", "I", false)
  | 27 => ("RopeMoonModel", "long1", "I", false)
  | 28 => ("RopeMoonModel", "crops", "[I", true)
  | 29 => ("RopeMoonModel", "cropMany", "I", false)
  | 30 => ("RopeMoonModel", "litFrom", "[I", true)
  | 31 => ("RopeMoonModel", "hungNow", "I", false)
  | 32 => ("RopeMoonModel", "hungAlways", "I", false)
  | 33 => ("RopeMoonModel", "explained", "I", false)
  | 34 => ("RopeMoonModel", "rowSort", "[I", true)
  | 35 => ("RopeMoonModel", "rowMany", "[I", true)
  | _ => ("RopeMoonModel", "numbers", "[J", true)
def tyX9 : Nat → FieldType := fun k => match k with
  | 0 => .int
  | 1 => .array .int
  | 2 => .array .boolean
  | 3 => .array .int
  | 4 => .array .int
  | 5 => .int
  | 6 => .int
  | 7 => .int
  | 8 => .int
  | 9 => .int
  | 10 => .int
  | 11 => .int
  | 12 => .int
  | 13 => .int
  | 14 => .int
  | 15 => .array .int
  | 16 => .array .int
  | 17 => .int
  | 18 => .int
  | 19 => .int
  | 20 => .array .int
  | 21 => .array .int
  | 22 => .array .int
  | 23 => .int
  | 24 => .int
  | 25 => .int
  | 26 => .int
  | 27 => .int
  | 28 => .array .int
  | 29 => .int
  | 30 => .array .int
  | 31 => .int
  | 32 => .int
  | 33 => .int
  | 34 => .array .int
  | 35 => .array .int
  | _ => .array .long
theorem nmX9 : ∀ a, a < 37 → ∀ b, b < 37 → a ≠ b → (TX9 a).2.1 ≠ (TX9 b).2.1 := by decide +kernel
theorem tyX9_ok : ∀ k, k < 37 → parseFieldDescriptor (TX9 k).2.2.1 = some (tyX9 k) := by decide +kernel
abbrev cX9_within : ByteArray := prog_11_method_2_code
def yX9_within : MethodName := ⟨RX9, "within", "(JJJ)Z"⟩
abbrev cX9_isStrip : ByteArray := prog_11_method_23_code
def yX9_isStrip : MethodName := ⟨RX9, "isStrip", "(I)Z"⟩
abbrev cX9_strip : ByteArray := prog_11_method_29_code
def yX9_strip : MethodName := ⟨RX9, "strip", "(II)I"⟩
def RJ6 : String := "java/lang/Integer"
def RJ7 : String := "java/util/Arrays"
def RL : String := "RopeMoonLaw"
end
section
theorem dX3_hasStrip_0 : decode cX3_hasStrip 0 = .ok (.iload_n 1, 1) := by decide +kernel
theorem dX3_hasStrip_1 : decode cX3_hasStrip 1 = .ok (.ifCond .lt 15, 3) := by decide +kernel
theorem dX3_hasStrip_4 : decode cX3_hasStrip 4 = .ok (.iload_n 1, 1) := by decide +kernel
theorem dX3_hasStrip_5 : decode cX3_hasStrip 5 = .ok (.aload_n 0, 1) := by decide +kernel
theorem dX3_hasStrip_6 : decode cX3_hasStrip 6 = .ok (.getfield 33, 3) := by decide +kernel
theorem dX3_hasStrip_9 : decode cX3_hasStrip 9 = .ok (.if_icmp .ge 7, 3) := by decide +kernel
theorem dX3_hasStrip_12 : decode cX3_hasStrip 12 = .ok (.iconst 1, 1) := by decide +kernel
theorem dX3_hasStrip_13 : decode cX3_hasStrip 13 = .ok (.goto 4, 3) := by decide +kernel
theorem dX3_hasStrip_16 : decode cX3_hasStrip 16 = .ok (.iconst 0, 1) := by decide +kernel
theorem dX3_hasStrip_17 : decode cX3_hasStrip 17 = .ok (.ireturn, 1) := by decide +kernel
theorem dX8_strip_0 : decode cX8_strip 0 = .ok (.aload_n 0, 1) := by decide +kernel
theorem dX8_strip_1 : decode cX8_strip 1 = .ok (.getfield 27, 3) := by decide +kernel
theorem dX8_strip_4 : decode cX8_strip 4 = .ok (.iload_n 1, 1) := by decide +kernel
theorem dX8_strip_5 : decode cX8_strip 5 = .ok (.invokevirtual 108, 3) := by decide +kernel
theorem dX8_strip_8 : decode cX8_strip 8 = .ok (.ifCond .ne 6, 3) := by decide +kernel
theorem dX8_strip_11 : decode cX8_strip 11 = .ok (.bipush (-2), 2) := by decide +kernel
theorem dX8_strip_13 : decode cX8_strip 13 = .ok (.ireturn, 1) := by decide +kernel
theorem dX8_isFarm_0 : decode cX8_isFarm 0 = .ok (.iload_n 0, 1) := by decide +kernel
theorem dX8_isFarm_1 : decode cX8_isFarm 1 = .ok (.ifCond .lt 13, 3) := by decide +kernel
theorem dX8_isFarm_4 : decode cX8_isFarm 4 = .ok (.iload_n 0, 1) := by decide +kernel
theorem dX8_isFarm_5 : decode cX8_isFarm 5 = .ok (.bipush 6, 2) := by decide +kernel
theorem dX8_isFarm_7 : decode cX8_isFarm 7 = .ok (.if_icmp .ge 7, 3) := by decide +kernel
theorem dX8_isFarm_10 : decode cX8_isFarm 10 = .ok (.iconst 1, 1) := by decide +kernel
theorem dX8_isFarm_11 : decode cX8_isFarm 11 = .ok (.goto 4, 3) := by decide +kernel
theorem dX8_isFarm_14 : decode cX8_isFarm 14 = .ok (.iconst 0, 1) := by decide +kernel
theorem dX8_isFarm_15 : decode cX8_isFarm 15 = .ok (.ireturn, 1) := by decide +kernel
theorem dX8_isRow_0 : decode cX8_isRow 0 = .ok (.iload_n 0, 1) := by decide +kernel
theorem dX8_isRow_1 : decode cX8_isRow 1 = .ok (.ifCond .lt 12, 3) := by decide +kernel
theorem dX8_isRow_4 : decode cX8_isRow 4 = .ok (.iload_n 0, 1) := by decide +kernel
theorem dX8_isRow_5 : decode cX8_isRow 5 = .ok (.iconst 4, 1) := by decide +kernel
theorem dX8_isRow_6 : decode cX8_isRow 6 = .ok (.if_icmp .ge 7, 3) := by decide +kernel
theorem dX8_isRow_9 : decode cX8_isRow 9 = .ok (.iconst 1, 1) := by decide +kernel
theorem dX8_isRow_10 : decode cX8_isRow 10 = .ok (.goto 4, 3) := by decide +kernel
theorem dX8_isRow_13 : decode cX8_isRow 13 = .ok (.iconst 0, 1) := by decide +kernel
theorem dX8_isRow_14 : decode cX8_isRow 14 = .ok (.ireturn, 1) := by decide +kernel
theorem dX9_within_0 : decode cX9_within 0 = .ok (.lload_n 0, 1) := by decide +kernel
theorem dX9_within_1 : decode cX9_within 1 = .ok (.lload_n 2, 1) := by decide +kernel
theorem dX9_within_2 : decode cX9_within 2 = .ok (.lcmp, 1) := by decide +kernel
theorem dX9_within_3 : decode cX9_within 3 = .ok (.ifCond .lt 14, 3) := by decide +kernel
theorem dX9_within_6 : decode cX9_within 6 = .ok (.lload_n 0, 1) := by decide +kernel
theorem dX9_within_7 : decode cX9_within 7 = .ok (.lload 4, 2) := by decide +kernel
theorem dX9_within_9 : decode cX9_within 9 = .ok (.lcmp, 1) := by decide +kernel
theorem dX9_within_10 : decode cX9_within 10 = .ok (.ifCond .gt 7, 3) := by decide +kernel
theorem dX9_within_13 : decode cX9_within 13 = .ok (.iconst 1, 1) := by decide +kernel
theorem dX9_within_14 : decode cX9_within 14 = .ok (.goto 4, 3) := by decide +kernel
theorem dX9_within_17 : decode cX9_within 17 = .ok (.iconst 0, 1) := by decide +kernel
theorem dX9_within_18 : decode cX9_within 18 = .ok (.ireturn, 1) := by decide +kernel
theorem dX9_isStrip_0 : decode cX9_isStrip 0 = .ok (.iload_n 1, 1) := by decide +kernel
theorem dX9_isStrip_1 : decode cX9_isStrip 1 = .ok (.i2l, 1) := by decide +kernel
theorem dX9_isStrip_2 : decode cX9_isStrip 2 = .ok (.lconst 0, 1) := by decide +kernel
theorem dX9_isStrip_3 : decode cX9_isStrip 3 = .ok (.aload_n 0, 1) := by decide +kernel
theorem dX9_isStrip_4 : decode cX9_isStrip 4 = .ok (.getfield 13, 3) := by decide +kernel
theorem dX9_isStrip_7 : decode cX9_isStrip 7 = .ok (.iconst 0, 1) := by decide +kernel
theorem dX9_isStrip_8 : decode cX9_isStrip 8 = .ok (.iaload, 1) := by decide +kernel
theorem dX9_isStrip_9 : decode cX9_isStrip 9 = .ok (.iconst 1, 1) := by decide +kernel
theorem dX9_isStrip_10 : decode cX9_isStrip 10 = .ok (.isub, 1) := by decide +kernel
theorem dX9_isStrip_11 : decode cX9_isStrip 11 = .ok (.i2l, 1) := by decide +kernel
theorem dX9_isStrip_12 : decode cX9_isStrip 12 = .ok (.invokestatic 128, 3) := by decide +kernel
theorem dX9_isStrip_15 : decode cX9_isStrip 15 = .ok (.ireturn, 1) := by decide +kernel
theorem dX9_strip_0 : decode cX9_strip 0 = .ok (.aload_n 0, 1) := by decide +kernel
theorem dX9_strip_1 : decode cX9_strip 1 = .ok (.iconst 0, 1) := by decide +kernel
theorem dX9_strip_2 : decode cX9_strip 2 = .ok (.putfield 1, 3) := by decide +kernel
theorem dX9_strip_5 : decode cX9_strip 5 = .ok (.aload_n 0, 1) := by decide +kernel
theorem dX9_strip_6 : decode cX9_strip 6 = .ok (.iload_n 1, 1) := by decide +kernel
theorem dX9_strip_7 : decode cX9_strip 7 = .ok (.invokevirtual 172, 3) := by decide +kernel
theorem dX9_strip_10 : decode cX9_strip 10 = .ok (.ifCond .eq 15, 3) := by decide +kernel
theorem dX9_strip_25 : decode cX9_strip 25 = .ok (.bipush (-2), 2) := by decide +kernel
theorem dX9_strip_27 : decode cX9_strip 27 = .ok (.ireturn, 1) := by decide +kernel
end
section
abbrev gl_0 : List Cond := u_ws RX0 TX0 2
abbrev gl_1 : List Cond := u_ws RX1 TX1 5
abbrev gl_2 : List Cond := u_ws RX2 TX2 11
abbrev gl_3 : List Cond := u_ws RX3 TX3 16
abbrev gl_4 : List Cond := u_ws RX4 TX4 4
abbrev gl_5 : List Cond := u_ws RX5 TX5 5
abbrev gl_6 : List Cond := u_ws RX6 TX6 9
abbrev gl_7 : List Cond := u_ws RX7 TX7 11
abbrev gl_8 : List Cond := u_ws RX8 TX8 13
abbrev gl_9 : List Cond := u_ws RX9 TX9 37
def gc_0 : List Cond := [Cond.selects RX3 yX3_hasStrip yX3_hasStrip, Cond.selects RX9 yX9_isStrip yX9_isStrip, Cond.initialized RX3, Cond.initialized RX9, Cond.fieldLink RX3 33 "RopeMoon$Plain" "strips" "I", Cond.fieldLink RX8 27 "RopeMoon" "field" "LRopeMoon$Plain;", Cond.instanceMethod yX3_hasStrip, Cond.code yX3_hasStrip cX3_hasStrip 2 (some .boolean), Cond.fieldLink RX9 1 "RopeMoonModel" "thrown" "I", Cond.fieldLink RX9 13 "RopeMoonModel" "all" "[I", Cond.methodLink RX9 128 yX9_within, Cond.static yX9_within, Cond.code yX9_within cX9_within 6 (some .boolean), Cond.methodLink RX9 172 yX9_isStrip, Cond.instanceMethod yX9_isStrip, Cond.code yX9_isStrip cX9_isStrip 2 (some .boolean)]
def gw_T : List Cond := gl_0 ++ (gl_1 ++ (gl_2 ++ (gl_3 ++ (gl_4 ++ (gl_5 ++ (gl_6 ++ (gl_7 ++ (gl_8 ++ (gl_9 ++ (gc_0))))))))))
theorem in_gl_0 : ∀ w ∈ gl_0, w ∈ gw_T := fun _ h => List.mem_append_left _ h
theorem in_gl_1 : ∀ w ∈ gl_1, w ∈ gw_T := fun _ h => List.mem_append_right _ (List.mem_append_left _ h)
theorem in_gl_2 : ∀ w ∈ gl_2, w ∈ gw_T := fun _ h => List.mem_append_right _ (List.mem_append_right _ (List.mem_append_left _ h))
theorem in_gl_3 : ∀ w ∈ gl_3, w ∈ gw_T := fun _ h => List.mem_append_right _ (List.mem_append_right _ (List.mem_append_right _ (List.mem_append_left _ h)))
theorem in_gl_4 : ∀ w ∈ gl_4, w ∈ gw_T := fun _ h => List.mem_append_right _ (List.mem_append_right _ (List.mem_append_right _ (List.mem_append_right _ (List.mem_append_left _ h))))
theorem in_gl_5 : ∀ w ∈ gl_5, w ∈ gw_T := fun _ h => List.mem_append_right _ (List.mem_append_right _ (List.mem_append_right _ (List.mem_append_right _ (List.mem_append_right _ (List.mem_append_left _ h)))))
theorem in_gl_6 : ∀ w ∈ gl_6, w ∈ gw_T := fun _ h => List.mem_append_right _ (List.mem_append_right _ (List.mem_append_right _ (List.mem_append_right _ (List.mem_append_right _ (List.mem_append_right _ (List.mem_append_left _ h))))))
theorem in_gl_7 : ∀ w ∈ gl_7, w ∈ gw_T := fun _ h => List.mem_append_right _ (List.mem_append_right _ (List.mem_append_right _ (List.mem_append_right _ (List.mem_append_right _ (List.mem_append_right _ (List.mem_append_right _ (List.mem_append_left _ h)))))))
theorem in_gl_8 : ∀ w ∈ gl_8, w ∈ gw_T := fun _ h => List.mem_append_right _ (List.mem_append_right _ (List.mem_append_right _ (List.mem_append_right _ (List.mem_append_right _ (List.mem_append_right _ (List.mem_append_right _ (List.mem_append_right _ (List.mem_append_left _ h))))))))
theorem in_gl_9 : ∀ w ∈ gl_9, w ∈ gw_T := fun _ h => List.mem_append_right _ (List.mem_append_right _ (List.mem_append_right _ (List.mem_append_right _ (List.mem_append_right _ (List.mem_append_right _ (List.mem_append_right _ (List.mem_append_right _ (List.mem_append_right _ (List.mem_append_left _ h)))))))))
theorem in_gc_0 : ∀ w ∈ gc_0, w ∈ gw_T := fun _ h => List.mem_append_right _ (List.mem_append_right _ (List.mem_append_right _ (List.mem_append_right _ (List.mem_append_right _ (List.mem_append_right _ (List.mem_append_right _ (List.mem_append_right _ (List.mem_append_right _ (List.mem_append_right _ (h))))))))))
theorem gRX0 : ∀ w ∈ u_ws RX0 TX0 2, w ∈ gw_T := in_gl_0
theorem gRX1 : ∀ w ∈ u_ws RX1 TX1 5, w ∈ gw_T := in_gl_1
theorem gRX2 : ∀ w ∈ u_ws RX2 TX2 11, w ∈ gw_T := in_gl_2
theorem gRX3 : ∀ w ∈ u_ws RX3 TX3 16, w ∈ gw_T := in_gl_3
theorem gRX4 : ∀ w ∈ u_ws RX4 TX4 4, w ∈ gw_T := in_gl_4
theorem gRX5 : ∀ w ∈ u_ws RX5 TX5 5, w ∈ gw_T := in_gl_5
theorem gRX6 : ∀ w ∈ u_ws RX6 TX6 9, w ∈ gw_T := in_gl_6
theorem gRX7 : ∀ w ∈ u_ws RX7 TX7 11, w ∈ gw_T := in_gl_7
theorem gRX8 : ∀ w ∈ u_ws RX8 TX8 13, w ∈ gw_T := in_gl_8
theorem gRX9 : ∀ w ∈ u_ws RX9 TX9 37, w ∈ gw_T := in_gl_9
theorem wi_18 : Cond.selects RX3 yX3_hasStrip yX3_hasStrip ∈ gw_T := in_gc_0 _ (List.mem_of_getElem? (i := 0) rfl)
theorem wi_90 : Cond.selects RX9 yX9_isStrip yX9_isStrip ∈ gw_T := in_gc_0 _ (List.mem_of_getElem? (i := 1) rfl)
theorem wi_123 : Cond.initialized RX3 ∈ gw_T := in_gc_0 _ (List.mem_of_getElem? (i := 2) rfl)
theorem wi_131 : Cond.initialized RX9 ∈ gw_T := in_gc_0 _ (List.mem_of_getElem? (i := 3) rfl)
theorem wi_166 : Cond.fieldLink RX3 33 "RopeMoon$Plain" "strips" "I" ∈ gw_T := in_gc_0 _ (List.mem_of_getElem? (i := 4) rfl)
theorem wi_470 : Cond.fieldLink RX8 27 "RopeMoon" "field" "LRopeMoon$Plain;" ∈ gw_T := in_gc_0 _ (List.mem_of_getElem? (i := 5) rfl)
theorem wi_668 : Cond.instanceMethod yX3_hasStrip ∈ gw_T := in_gc_0 _ (List.mem_of_getElem? (i := 6) rfl)
theorem wi_669 : Cond.code yX3_hasStrip cX3_hasStrip 2 (some .boolean) ∈ gw_T := in_gc_0 _ (List.mem_of_getElem? (i := 7) rfl)
theorem wi_1150 : Cond.fieldLink RX9 1 "RopeMoonModel" "thrown" "I" ∈ gw_T := in_gc_0 _ (List.mem_of_getElem? (i := 8) rfl)
theorem wi_1151 : Cond.fieldLink RX9 13 "RopeMoonModel" "all" "[I" ∈ gw_T := in_gc_0 _ (List.mem_of_getElem? (i := 9) rfl)
theorem wi_1270 : Cond.methodLink RX9 128 yX9_within ∈ gw_T := in_gc_0 _ (List.mem_of_getElem? (i := 10) rfl)
theorem wi_1271 : Cond.static yX9_within ∈ gw_T := in_gc_0 _ (List.mem_of_getElem? (i := 11) rfl)
theorem wi_1272 : Cond.code yX9_within cX9_within 6 (some .boolean) ∈ gw_T := in_gc_0 _ (List.mem_of_getElem? (i := 12) rfl)
theorem wi_1338 : Cond.methodLink RX9 172 yX9_isStrip ∈ gw_T := in_gc_0 _ (List.mem_of_getElem? (i := 13) rfl)
theorem wi_1340 : Cond.instanceMethod yX9_isStrip ∈ gw_T := in_gc_0 _ (List.mem_of_getElem? (i := 14) rfl)
theorem wi_1341 : Cond.code yX9_isStrip cX9_isStrip 2 (some .boolean) ∈ gw_T := in_gc_0 _ (List.mem_of_getElem? (i := 15) rfl)
set_option maxRecDepth 100000 in
theorem gw_in : ∀ w ∈ gw_T, w ∈ lw_tbl := by
  have hp : gw_T = ([441, 443, 422, 424, 426, 428, 430, 363, 365, 367, 369, 371, 373, 375, 377, 379, 381, 383, 217, 219, 221, 223, 225, 227, 229, 231, 233, 235, 237, 239, 241, 243, 245, 247, 458, 460, 462, 464, 398, 400, 402, 404, 406, 264, 266, 268, 270, 272, 274, 276, 278, 280, 313, 315, 317, 319, 321, 323, 325, 327, 329, 331, 333, 480, 482, 484, 486, 488, 490, 492, 494, 496, 498, 500, 502, 504, 1187, 1189, 1191, 1193, 1195, 1197, 1199, 1201, 1203, 1205, 1207, 1209, 1211, 1213, 1215, 1217, 1219, 1221, 1223, 1225, 1227, 1229, 1231, 1233, 1235, 1237, 1239, 1241, 1243, 1245, 1247, 1249, 1251, 1253, 1255, 1257, 1259, 18, 90, 123, 131, 166, 470, 668, 669, 1150, 1151, 1270, 1271, 1272, 1338, 1340, 1341] : List Nat).filterMap (fun i => lw_tbl[i]?) := by decide +kernel
  intro w hw
  rw [hp] at hw
  obtain ⟨i, -, hi⟩ := List.mem_filterMap.mp hw
  exact List.mem_of_getElem? hi
def gn_T : List Cond := [Cond.methodLinkNest RX8 108 yX3_hasStrip RX8]
theorem ni_666 : Cond.methodLinkNest RX8 108 yX3_hasStrip RX8 ∈ gn_T := List.mem_of_getElem? (i := 0) rfl
set_option maxRecDepth 100000 in
theorem gn_in : ∀ w ∈ gn_T, w ∈ lw_tbl := by
  have hp : gn_T = ([666] : List Nat).filterMap (fun i => lw_tbl[i]?) := by decide +kernel
  intro w hw
  rw [hp] at hw
  obtain ⟨i, -, hi⟩ := List.mem_filterMap.mp hw
  exact List.mem_of_getElem? hi
end
section
/-! my own wrappers: one word list for all methods, one list of nest words, worlds, calls, ends -/
theorem gw_good : ∀ w ∈ gw_T, goodWord w = true := List.all_eq_true.mp (by decide +kernel)
theorem gG {ws : List Cond} (h : ∀ w ∈ ws, w ∈ gw_T) : GoodIn gw_T ws := fun w hw => ⟨h w hw, good_of_word (gw_good w (h w hw))⟩
def wsc (y : MethodName) (cc : ByteArray) (n : Nat) (r : Option FieldType) : List Cond := .code y cc n r :: gw_T
theorem gN_on : ∀ w ∈ gn_T, w.onTables = true := by decide +kernel
def gN_is : Cond → Bool
  | .fieldLinkNest _ _ _ _ _ _ => true
  | .methodLinkNest _ _ _ _ => true
  | _ => false
theorem gN_all : ∀ w ∈ gn_T, gN_is w = true := by decide +kernel
theorem gN_w1 {w : Cond} (hw : gN_is w = true) {s U : State} (hW : s.WarmedH U.vm) (h : va_Nw w s) : va_Nw w U := by
  cases w <;> first | exact va_Nw.warmF hW h | exact va_Nw.warmM hW h | exact absurd hw (by simp [gN_is])
def NX (U : State) : Prop := (∀ w ∈ gn_T, va_Nw w U) ∧ va_AO RX3 U ∧ va_AO RX4 U
theorem NX.warm {s U : State} (hW : s.WarmedH U.vm) (h : NX s) : NX U := ⟨fun w hw => gN_w1 (gN_all w hw) hW (h.1 w hw), h.2.1.moved hW.alike, h.2.2.moved hW.alike⟩
abbrev classes : List vw_C := [(RX0, TX0, 2), (RX1, TX1, 5), (RX2, TX2, 11), (RX3, TX3, 16), (RX4, TX4, 4), (RX5, TX5, 5), (RX6, TX6, 9), (RX7, TX7, 11), (RX8, TX8, 13), (RX9, TX9, 37)]
abbrev tysX (cT : Nat → ClassId) : List (ClassId × FieldType) := [(cT 0, .int), (cT 1, .long), (cT 2, .byte), (cT 3, .boolean), (cT 4, .object RX3), (cT 5, .object RX4)]
def PX (D : va_G) (cT : Nat → ClassId) (sz : Nat) (ws : va_W) (U : State) : Prop := U.heap.size = sz ∧ va_P D classes ws U.heap ∧ va_K D classes (tysX cT) U ∧ va_D (fun _ => True) ws ∧ NX U
def RW (D : va_G) (A : Nat → Prop) (ws : va_W) (t : State) : Prop := va_P D classes ws t.heap ∧ va_D A ws
theorem PX_blind {D : va_G} {cT : Nat → ClassId} {sz : Nat} {wi : va_W} {av : List Value} : FrameBlind (va_Pc av (PX D cT sz wi)) := fun a U g mk q => by
  obtain ⟨q0, q1, qP, qK, qD, qN⟩ := q
  exact ⟨q0, q1, qP, va_K.moved (u := U) (U := U.calling g mk a) (Vm.Alike.refl U.vm) qK, qD, fun w h => va_Nw.same (u := U) (U := U.calling g mk a) (gN_on w h) rfl (qN.1 w h), va_AO.moved (u := U) (U := U.calling g mk a) (Vm.Alike.refl U.vm) qN.2.1, va_AO.moved (u := U) (U := U.calling g mk a) (Vm.Alike.refl U.vm) qN.2.2⟩
theorem fm_of {ws wc : va_W} {is : List Nat} (h : is.map (fun i => ws[i]?) = wc.map some) : is.filterMap (fun i => ws[i]?) = wc := by
  have h1 : is.filterMap (fun i => ws[i]?) = (is.map (fun i => ws[i]?)).filterMap id := by simp [List.filterMap_map]
  rw [h1, h]
  simp [List.filterMap_map]
theorem PX_of {D : va_G} {cT : Nat → ClassId} {s : State} {H : Heap} {A : Nat → Prop} {ws wc : va_W} {av : List Value} (hK : va_K D classes (tysX cT) s) (hN : NX s) (hP : va_P D classes ws H) (hD : va_D A ws) (isC : List Nat) (hC : isC.map (fun i => ws[i]?) = wc.map some) (hnd : va_nd isC = true) : ∀ U : State, U.heap = H → s.WarmedH U.vm → va_Pc av (PX D cT H.size wc) av.toArray U :=
  fun U hU hW => ⟨rfl, by rw [hU], by rw [hU]; exact hP.sub isC (fm_of hC), va_K.moved hW.alike hK, (hD.sub isC hnd hC).weaken (fun _ _ _ _ => trivial), hN.warm hW⟩
theorem va_RA_uniq {U : State} {c1 c2 : ClassId} {ty : FieldType} (h1 : va_RA U c1 ty) (h2 : va_RA U c2 ty) : c1 = c2 := by
  cases ty with
  | object C =>
    obtain ⟨_, _, _, _, _, e1⟩ := h1
    obtain ⟨_, _, _, _, _, e2⟩ := h2
    exact Option.some.inj (e1.symm.trans e2)
  | _ => exact Option.some.inj (h1.symm.trans h2)
theorem ilt {x y : Int32} {a b : Int} (h : x < y) (ex : x.toInt = a) (ey : y.toInt = b) : a < b := by rw [← ex, ← ey]; exact Int32.lt_iff_toInt_lt.mp h
theorem ile {x y : Int32} {a b : Int} (h : x ≤ y) (ex : x.toInt = a) (ey : y.toInt = b) : a ≤ b := by rw [← ex, ← ey]; exact Int32.le_iff_toInt_le.mp h
theorem inlt {x y : Int32} {a b : Int} (h : ¬ x < y) (ex : x.toInt = a) (ey : y.toInt = b) : b ≤ a := by rw [← ex, ← ey]; exact Int.not_lt.mp (fun h2 => h (Int32.lt_iff_toInt_lt.mpr h2))
theorem inle {x y : Int32} {a b : Int} (h : ¬ x ≤ y) (ex : x.toInt = a) (ey : y.toInt = b) : b < a := by rw [← ex, ← ey]; exact Int.not_le.mp (fun h2 => h (Int32.le_iff_toInt_le.mpr h2))
theorem ieq {x y : Int32} {a b : Int} (h : x = y) (ex : x.toInt = a) (ey : y.toInt = b) : a = b := by rw [← ex, ← ey, h]
theorem ine {x y : Int32} {a b : Int} (h : ¬ x = y) (ex : x.toInt = a) (ey : y.toInt = b) : ¬ a = b := by rw [← ex, ← ey]; exact fun h2 => h (Int32.toInt_inj.mp h2)
theorem i32_is {x y : Int32} (h : x.toInt = y.toInt) : x = y := Int32.toInt_inj.mp h
theorem if1 {r : Int32} {P : Prop} [Decidable P] (h : r = if P then 1 else 0) (c : ¬ r = 0) : P := by
  by_cases hp : P
  · exact hp
  · rw [if_neg hp] at h; exact absurd h c
theorem if0 {r : Int32} {P : Prop} [Decidable P] (h : r = if P then 1 else 0) (c : r = 0) : ¬ P := by
  intro hp
  rw [if_pos hp, c] at h
  exact absurd h (by decide)
theorem lgc_lt {x y : Int64} {a b : Int} (h : lg_cmp x y < 0) (ex : x.toInt = a) (ey : y.toInt = b) : a < b := by
  rw [← ex, ← ey]
  unfold lg_cmp at h
  by_cases h1 : x > y
  · rw [if_pos h1] at h; exact absurd h (by decide)
  · rw [if_neg h1] at h
    by_cases h2 : x = y
    · rw [if_pos h2] at h; exact absurd h (by decide)
    · have h3 : ¬ y.toInt < x.toInt := fun q => h1 (Int64.lt_iff_toInt_lt.mpr q)
      have h4 : ¬ x.toInt = y.toInt := fun q => h2 (Int64.toInt_inj.mp q)
      omega
theorem lgc_nlt {x y : Int64} {a b : Int} (h : ¬ lg_cmp x y < 0) (ex : x.toInt = a) (ey : y.toInt = b) : b ≤ a := by
  rw [← ex, ← ey]
  unfold lg_cmp at h
  by_cases h1 : x > y
  · exact Int.le_of_lt (Int64.lt_iff_toInt_lt.mp h1)
  · rw [if_neg h1] at h
    by_cases h2 : x = y
    · rw [h2]; exact Int.le_refl _
    · rw [if_neg h2] at h; exact absurd (by decide) h
theorem lgc_gt {x y : Int64} {a b : Int} (h : 0 < lg_cmp x y) (ex : x.toInt = a) (ey : y.toInt = b) : b < a := by
  rw [← ex, ← ey]
  unfold lg_cmp at h
  by_cases h1 : x > y
  · exact Int64.lt_iff_toInt_lt.mp h1
  · rw [if_neg h1] at h
    by_cases h2 : x = y
    · rw [if_pos h2] at h; exact absurd h (by decide)
    · rw [if_neg h2] at h; exact absurd h (by decide)
theorem lgc_ngt {x y : Int64} {a b : Int} (h : ¬ 0 < lg_cmp x y) (ex : x.toInt = a) (ey : y.toInt = b) : a ≤ b := by
  rw [← ex, ← ey]
  unfold lg_cmp at h
  by_cases h1 : x > y
  · rw [if_pos h1] at h; exact absurd (by decide) h
  · exact Int.not_lt.mp (fun q => h1 (Int64.lt_iff_toInt_lt.mpr q))
theorem lgc_eq {x y : Int64} {a b : Int} (h : lg_cmp x y = 0) (ex : x.toInt = a) (ey : y.toInt = b) : a = b := by
  have h1 := lgc_nlt (x := x) (y := y) (by rw [h]; decide) ex ey
  have h2 := lgc_ngt (x := x) (y := y) (by rw [h]; decide) ex ey
  omega
theorem lgc_ne {x y : Int64} {a b : Int} (h : ¬ lg_cmp x y = 0) (ex : x.toInt = a) (ey : y.toInt = b) : ¬ a = b := by
  rw [← ex, ← ey]
  intro q
  have q2 : x = y := Int64.toInt_inj.mp q
  refine h ?_
  rw [q2]
  unfold lg_cmp
  rw [if_neg (fun z => absurd (Int64.lt_iff_toInt_lt.mp z) (Int.lt_irrefl _)), if_pos rfl]
theorem i2l_i (x : Int32) : x.toInt64.toInt = x.toInt := by simp
def fillF {α : Type} (f : Nat → α) (n : Nat) (v : α) : Nat → α := fun j => if j < n then v else f j
theorem fillF_0 {α : Type} (f : Nat → α) (v : α) : fillF f 0 v = f := rfl
theorem fillF_s (f : Nat → Int32) (n : Nat) (v : Int32) : upd (fillF f n v) n v = fillF f (n + 1) v := by
  funext j
  unfold upd fillF
  by_cases h : j = n
  · rw [if_pos h, if_pos (by omega)]
  · rw [if_neg h]
    by_cases h2 : j < n
    · rw [if_pos h2, if_pos (by omega)]
    · rw [if_neg h2, if_neg (by omega)]
theorem fillF_sL (f : Nat → Int64) (n : Nat) (v : Int64) : vp_updL (fillF f n v) n v = fillF f (n + 1) v := by
  funext j
  unfold vp_updL fillF
  by_cases h : j = n
  · rw [if_pos h, if_pos (by omega)]
  · rw [if_neg h]
    by_cases h2 : j < n
    · rw [if_pos h2, if_pos (by omega)]
    · rw [if_neg h2, if_neg (by omega)]
theorem upd_0 (k : Nat) : upd (fun _ => 0) k 0 = fun _ => 0 := by
  funext j
  unfold upd
  by_cases h : j = k
  · rw [if_pos h]
  · rw [if_neg h]
/-- the reference's 96 numbers of a plain as they begin -/
def allK : Nat → Int32 := fun j => if j = 3 then 6 else if j = 4 then 6 else if j = 5 then 1 else if j = 6 then 60 else if 10 ≤ j ∧ j < 16 then 1 else 0
section XS
variable {p : Program} {l : Launch} {e : Env} {R : Room} {s : State} {m : MethodId} {args : Array Value} {below : List Frame} {meth : Method} {c : Code} {H H0 : Heap} {locs : List Loc} {cells slots : Nat} {Q : State → Prop}
variable {cc : ByteArray} {pc nL : Nat} {ls : Array Slot} {rest st0 : List Value} {D : va_G} {cT : Nat → ClassId} {A : Nat → Prop} {ws wc wr : va_W}
theorem lv_is {x y : Int32} (h : x = y) (k : W p l e R s m args below meth c H locs cells slots Q (F0 m pc ls (.int y :: rest))) : W p l e R s m args below meth c H locs cells slots Q (F0 m pc ls (.int x :: rest)) := h ▸ k
theorem lv_isv {x y : Value} (h : x = y) (k : W p l e R s m args below meth c H locs cells slots Q (F0 m pc ls (y :: rest))) : W p l e R s m args below meth c H locs cells slots Q (F0 m pc ls (x :: rest)) := h ▸ k
theorem lv_isl {x y : Int64} (h : x = y) (k : W p l e R s m args below meth c H locs cells slots Q (F0 m pc ls (.long y :: rest))) : W p l e R s m args below meth c H locs cells slots Q (F0 m pc ls (.long x :: rest)) := h ▸ k
theorem x_newa (hx : p.tables.exec = Jvm.exec) (hb : c.code = cc) {atype : ArrayType} {ty : FieldType} (hty : newarray.typeOf atype = ty) (harr : (Cond.arrayClass ty).before args s = true) (hK : va_K D classes (tysX cT) s) (hP : va_P D classes ws H) (hD : va_D A ws) (hS : va_S A H0 H locs) (hA : ∀ q, H0.size ≤ q → A q)
    {n : Int32} (N' : Nat) (t0 : Nat) {cA : ClassId} (ht : (tysX cT)[t0]? = some (cA, ty)) (a0 : vp_A) (ha : ∀ cA : ClassId, vp_cell cA a0 = arrV cA N' (fun _ => defaultValue ty)) (hn : ¬ n < 0) (hN : n.toNatClampNeg = N') (hbytes : N' * componentBytes ty ≤ 536870912) (hcells : cells + 1 ≤ R.cells) (hslots : slots + N' ≤ R.slots) (hdg : decode cc pc = .ok (.newarray atype, 2))
    (kk : ∀ (q : Nat) (H1 : Heap), va_P D classes (ws ++ [(q, .inl (cA, a0))]) H1 → va_D A (ws ++ [(q, .inl (cA, a0))]) → va_S A H0 H1 locs →
      W p l e R s m args below meth c H1 locs (cells + 1) (slots + N') Q (F0 m (pc + 2) ls (.ref q :: rest))) : W p l e R s m args below meth c H locs cells slots Q (F0 m pc ls (.int n :: rest)) := by
  subst hty
  refine va_newa hx hb harr rfl hK hP hD hS hA ha hn hN hbytes hcells hslots hdg (fun q cB H1 hK1 hP1 hD1 hS1 => ?_)
  have e1 := (hK1.2 (tysX cT).length (cB, newarray.typeOf atype) (by simp)).2
  have e2 := (hK.2 t0 _ ht).2
  have e3 := va_RA_uniq e1 e2
  subst e3
  exact kk q H1 hP1 hD1 hS1
theorem x_newq (hx : p.tables.exec = Jvm.exec) (hb : c.code = cc) {own C : String} {index : Nat} (hown : s.vm.findClass own = some m.cls) (hclink : (Cond.classLink own index C).before args s = true) (hover : va_AO C s) (hK : va_K D classes (tysX cT) s) (hP : va_P D classes ws H) (hD : va_D A ws) (hS : va_S A H0 H locs) (hA : ∀ q, H0.size ≤ q → A q)
    {n : Int32} (N' : Nat) (t0 : Nat) {cA : ClassId} (ht : (tysX cT)[t0]? = some (cA, .object C)) (hn : ¬ n < 0) (hN : n.toNatClampNeg = N') (hbytes : N' * 4 ≤ 536870912) (hcells : cells + 1 ≤ R.cells) (hslots : slots + N' ≤ R.slots) (hdg : decode cc pc = .ok (.anewarray index, 3))
    (kk : ∀ (q : Nat) (H1 : Heap), va_P D classes (ws ++ [(q, .inl (cA, N', .inr (.inr (.inr (.inr (fun _ => none))))))]) H1 → va_D A (ws ++ [(q, .inl (cA, N', .inr (.inr (.inr (.inr (fun _ => none))))))]) → va_S A H0 H1 locs →
      W p l e R s m args below meth c H1 locs (cells + 1) (slots + N') Q (F0 m (pc + 3) ls (.ref q :: rest))) : W p l e R s m args below meth c H locs cells slots Q (F0 m pc ls (.int n :: rest)) := by
  refine va_newq hx hb hown hclink hover hK hP hD hS hA hn hN hbytes hcells hslots hdg (fun q cB H1 hK1 hP1 hD1 hS1 => ?_)
  have e1 := (hK1.2 (tysX cT).length (cB, .object C) (by simp)).2
  have e2 := (hK.2 t0 _ ht).2
  have e3 := va_RA_uniq e1 e2
  subst e3
  exact kk q H1 hP1 hD1 hS1
theorem x_iret {S : Type} {post : Int32 → S → Prop} {wo : S → va_W} {mc ms : Nat} (hx : p.tables.exec = Jvm.exec) (hb : c.code = cc) (hr : meth.sig.returnType = some .int) (hlk : meth.locks = false) (hP : va_P D classes ws H) (hD : va_D A ws) (hS : va_S A s.heap H locs) (is : List Nat) (u : S) (hs : is.map (fun i => ws[i]?) = (wo u).map some) (hn : va_nd is = true) {v : Int32} (hp : post v u) (h1 : cells ≤ mc) (h2 : slots ≤ ms) (hdg : decode cc pc = .ok (.ireturn, 1)) : W p l e R s m args below meth c H locs cells slots (MQ below (va_Qi post (fun u t => RW D A (wo u) t) A) args s mc ms A) (F0 m pc ls [.int v]) :=
  W.widen h1 h2 (W.iret hx hb hr (fun t ht _ => ⟨⟨v, u, rfl, hp, by rw [ht]; exact hP.sub is (fm_of hs), hD.sub is hn hs⟩, hS.F ht⟩) hS.2.2 hdg hlk)
theorem x_zret {S : Type} {post : Int32 → S → Prop} {wo : S → va_W} {mc ms : Nat} (hx : p.tables.exec = Jvm.exec) (hb : c.code = cc) (hr : meth.sig.returnType = some .boolean) (hlk : meth.locks = false) (hP : va_P D classes ws H) (hD : va_D A ws) (hS : va_S A s.heap H locs) (is : List Nat) (u : S) (hs : is.map (fun i => ws[i]?) = (wo u).map some) (hn : va_nd is = true) {v : Int32} (hnar : narrow .boolean (.int v) = .int v) (hp : post v u) (h1 : cells ≤ mc) (h2 : slots ≤ ms) (hdg : decode cc pc = .ok (.ireturn, 1)) : W p l e R s m args below meth c H locs cells slots (MQ below (va_Qi post (fun u t => RW D A (wo u) t) A) args s mc ms A) (F0 m pc ls [.int v]) :=
  W.widen h1 h2 (W.zret hx hb hr hnar (fun t ht _ => ⟨⟨v, u, rfl, hp, by rw [ht]; exact hP.sub is (fm_of hs), hD.sub is hn hs⟩, hS.F ht⟩) hS.2.2 hdg hlk)
theorem x_lret {S : Type} {post : Int64 → S → Prop} {wo : S → va_W} {mc ms : Nat} (hx : p.tables.exec = Jvm.exec) (hb : c.code = cc) (hr : meth.sig.returnType = some .long) (hlk : meth.locks = false) (hP : va_P D classes ws H) (hD : va_D A ws) (hS : va_S A s.heap H locs) (is : List Nat) (u : S) (hs : is.map (fun i => ws[i]?) = (wo u).map some) (hn : va_nd is = true) {v : Int64} (hp : post v u) (h1 : cells ≤ mc) (h2 : slots ≤ ms) (hdg : decode cc pc = .ok (.lreturn, 1)) : W p l e R s m args below meth c H locs cells slots (MQ below (va_Ql post (fun u t => RW D A (wo u) t) A) args s mc ms A) (F0 m pc ls [.long v]) :=
  W.widen h1 h2 (W.lret hx hb hr (fun t ht _ => ⟨⟨v, u, rfl, hp, by rw [ht]; exact hP.sub is (fm_of hs), hD.sub is hn hs⟩, hS.F ht⟩) hS.2.2 hdg hlk)
theorem x_vret {S : Type} {post : S → Prop} {wo : S → va_W} {mc ms : Nat} (hx : p.tables.exec = Jvm.exec) (hb : c.code = cc) (hr : meth.sig.returnType = none) (hlk : meth.locks = false) (hP : va_P D classes ws H) (hD : va_D A ws) (hS : va_S A s.heap H locs) (is : List Nat) (u : S) (hs : is.map (fun i => ws[i]?) = (wo u).map some) (hn : va_nd is = true) (hp : post u) (h1 : cells ≤ mc) (h2 : slots ≤ ms) (hdg : decode cc pc = .ok (.return_, 1)) : W p l e R s m args below meth c H locs cells slots (MQ below (va_Qv post (fun u t => RW D A (wo u) t) A) args s mc ms A) (F0 m pc ls []) :=
  W.widen h1 h2 (W.vret hx hb hr (fun t ht _ => ⟨⟨u, rfl, hp, by rw [ht]; exact hP.sub is (fm_of hs), hD.sub is hn hs⟩, hS.F ht⟩) hS.2.2 hdg hlk)
theorem xk_i {S : Type} {post : Int32 → S → Prop} {wo : S → va_W} {mc ms : Nat} {a : Array Value} (hr : va_Run p l e R s m args below meth c H locs cells slots mc ms (F0 m pc ls st0) rest (va_Qi post (fun u t => RW D (va_A wc H.size) (wo u) t) (va_A wc H.size) a) (va_A wc H.size)) (hP : va_P D classes ws H) (hD : va_D A ws) (hS : va_S A H0 H locs) (hA : ∀ q, H0.size ≤ q → A q) (isC isR : List Nat) (hC : isC.map (fun i => ws[i]?) = wc.map some) (hR : isR.map (fun i => ws[i]?) = wr.map some) (hn : va_nd isR = true) (hdis : ∀ i ∈ isR, i ∉ isC)
    (kk : ∀ (r : Int32) (u : S) (H1 : Heap) (locs1 : List Loc), post r u → va_P D classes (wr ++ wo u) H1 → va_D A (wr ++ wo u) → va_S A H0 H1 locs1 → W p l e R s m args below meth c H1 locs1 (cells + mc) (slots + ms) Q (F0 m (pc + 3) ls (.int r :: rest))) : W p l e R s m args below meth c H locs cells slots Q (F0 m pc ls st0) := by
  have hFc := va_free (wc := wc) hD hS hA isC hC
  refine va_calli hr hS (fun q _ h => hFc q h) hFc (fun r u t H1 locs1 ht _ hw hB _ hk1 hS1 => ?_)
  obtain ⟨hP1, hD1⟩ := hB
  rw [ht] at hP1
  obtain ⟨hP2, hD2⟩ := va_join hP hD isC isR hC hR hn hdis hk1 hFc hP1 hD1
  exact kk r u H1 locs1 hw hP2 hD2 hS1
theorem xk_l {S : Type} {post : Int64 → S → Prop} {wo : S → va_W} {mc ms : Nat} {a : Array Value} (hr : va_Run p l e R s m args below meth c H locs cells slots mc ms (F0 m pc ls st0) rest (va_Ql post (fun u t => RW D (va_A wc H.size) (wo u) t) (va_A wc H.size) a) (va_A wc H.size)) (hP : va_P D classes ws H) (hD : va_D A ws) (hS : va_S A H0 H locs) (hA : ∀ q, H0.size ≤ q → A q) (isC isR : List Nat) (hC : isC.map (fun i => ws[i]?) = wc.map some) (hR : isR.map (fun i => ws[i]?) = wr.map some) (hn : va_nd isR = true) (hdis : ∀ i ∈ isR, i ∉ isC)
    (kk : ∀ (r : Int64) (u : S) (H1 : Heap) (locs1 : List Loc), post r u → va_P D classes (wr ++ wo u) H1 → va_D A (wr ++ wo u) → va_S A H0 H1 locs1 → W p l e R s m args below meth c H1 locs1 (cells + mc) (slots + ms) Q (F0 m (pc + 3) ls (.long r :: rest))) : W p l e R s m args below meth c H locs cells slots Q (F0 m pc ls st0) := by
  have hFc := va_free (wc := wc) hD hS hA isC hC
  refine va_calll hr hS (fun q _ h => hFc q h) hFc (fun r u t H1 locs1 ht _ hw hB _ hk1 hS1 => ?_)
  obtain ⟨hP1, hD1⟩ := hB
  rw [ht] at hP1
  obtain ⟨hP2, hD2⟩ := va_join hP hD isC isR hC hR hn hdis hk1 hFc hP1 hD1
  exact kk r u H1 locs1 hw hP2 hD2 hS1
theorem xk_v {S : Type} {post : S → Prop} {wo : S → va_W} {mc ms : Nat} {a : Array Value} (hr : va_Run p l e R s m args below meth c H locs cells slots mc ms (F0 m pc ls st0) rest (va_Qv post (fun u t => RW D (va_A wc H.size) (wo u) t) (va_A wc H.size) a) (va_A wc H.size)) (hP : va_P D classes ws H) (hD : va_D A ws) (hS : va_S A H0 H locs) (hA : ∀ q, H0.size ≤ q → A q) (isC isR : List Nat) (hC : isC.map (fun i => ws[i]?) = wc.map some) (hR : isR.map (fun i => ws[i]?) = wr.map some) (hn : va_nd isR = true) (hdis : ∀ i ∈ isR, i ∉ isC)
    (kk : ∀ (u : S) (H1 : Heap) (locs1 : List Loc), post u → va_P D classes (wr ++ wo u) H1 → va_D A (wr ++ wo u) → va_S A H0 H1 locs1 → W p l e R s m args below meth c H1 locs1 (cells + mc) (slots + ms) Q (F0 m (pc + 3) ls rest)) : W p l e R s m args below meth c H locs cells slots Q (F0 m pc ls st0) := by
  have hFc := va_free (wc := wc) hD hS hA isC hC
  refine va_callv hr hS (fun q _ h => hFc q h) hFc (fun u t H1 locs1 ht _ hw hB _ hk1 hS1 => ?_)
  obtain ⟨hP1, hD1⟩ := hB
  rw [ht] at hP1
  obtain ⟨hP2, hD2⟩ := va_join hP hD isC isR hC hR hn hdis hk1 hFc hP1 hD1
  exact kk u H1 locs1 hw hP2 hD2 hS1
variable {y : MethodName} {bytes : ByteArray} {maxL fr lo mc ms n index : Nat} {ret : Option FieldType} {own C host : String} {As : List Value} {Qc : Array Value → State → Outcome → State → Prop} {free : Addr → Prop} {b ci q0 : Nat} {q : vw_C} {fs : List Value}
theorem xr_V (hc : CallFix p m c cc nL s args gw_T own) (hK : va_K D classes (tysX cT) s) (hN : NX s) (hP : va_P D classes ws H) (hD : va_D A ws) (isC : List Nat) (hC : isC.map (fun i => ws[i]?) = wc.map some) (hnd : va_nd isC = true)
    (hM : Met l y (wsc y bytes maxL ret) { frames := fr, cells := mc, slots := ms, locals := lo } (va_Pc (.ref b :: As) (PX D cT H.size wc)) Qc mc ms free)
    (w1 : Cond.methodLink own index y ∈ gw_T) (w2 : Cond.instanceMethod y ∈ gw_T) (w3 : Cond.selects y.cls y y ∈ gw_T) (w4 : Cond.initialized y.cls ∈ gw_T) (w5 : Cond.code y bytes maxL ret ∈ gw_T)
    (he : wc[0]? = some (b, .inr (ci, fs))) (hcl : classes[ci]? = some q) (hq : q.1 = y.cls) (hd : y.cls = y.cls ∧ y.cls ≠ "java/lang/invoke/MethodHandle" ∧ y.cls ≠ "java/lang/invoke/VarHandle" ∧ (parseMethodDescriptor y.desc).map (fun d => d.parameters.length) = some n) (hR : fr + 1 ≤ R.frames ∧ 8 + (maxL + 11) + lo ≤ R.locals)
    (hn : As.length = n) (hsize : ls.size = nL) (hst : st0 = As.reverse ++ .ref b :: rest) (hW : (rest.map fun v => v.category).sum ≤ 8) (hdg : decode cc pc = .ok (.invokevirtual index, 3)) (hf : cells + mc ≤ R.cells ∧ slots + ms ≤ R.slots) :
    va_Run p l e R s m args below meth c H locs cells slots mc ms (F0 m pc ls st0) rest (Qc (Value.ref b :: As).toArray) free := by
  refine va_runV hc hM (cwV (C := y.cls) n hc.2.2.2.2 (gG (List.forall_mem_append.mpr ⟨List.forall_mem_cons.mpr ⟨w1, List.forall_mem_cons.mpr ⟨w2, List.forall_mem_cons.mpr ⟨w3, List.forall_mem_cons.mpr ⟨w4, fun _ h => absurd h List.not_mem_nil⟩⟩⟩⟩, List.forall_mem_cons.mpr ⟨w5, fun _ h => h⟩⟩)) rfl rfl rfl hd hR) ⟨PX_blind, ?_, PX_of hK hN hP hD isC hC hnd⟩ rfl hn hsize hst (lv_room hW) hdg hf
  have h1 := va_recv hK (hP.sub isC (fm_of hC)) hcl he
  rw [hq] at h1
  exact h1
theorem xr_VN (hc : CallFix p m c cc nL s args gw_T own) (hK : va_K D classes (tysX cT) s) (hN : NX s) (hP : va_P D classes ws H) (hD : va_D A ws) (isC : List Nat) (hC : isC.map (fun i => ws[i]?) = wc.map some) (hnd : va_nd isC = true)
    (hM : Met l y (wsc y bytes maxL ret) { frames := fr, cells := mc, slots := ms, locals := lo } (va_Pc (.ref b :: As) (PX D cT H.size wc)) Qc mc ms free)
    (w1 : Cond.methodLinkNest own index y host ∈ gn_T) (w2 : Cond.instanceMethod y ∈ gw_T) (w3 : Cond.selects y.cls y y ∈ gw_T) (w4 : Cond.initialized y.cls ∈ gw_T) (w5 : Cond.code y bytes maxL ret ∈ gw_T)
    (he : wc[0]? = some (b, .inr (ci, fs))) (hcl : classes[ci]? = some q) (hq : q.1 = y.cls) (hd : y.cls = y.cls ∧ y.cls ≠ "java/lang/invoke/MethodHandle" ∧ y.cls ≠ "java/lang/invoke/VarHandle" ∧ (parseMethodDescriptor y.desc).map (fun d => d.parameters.length) = some n) (hR : fr + 1 ≤ R.frames ∧ 8 + (maxL + 11) + lo ≤ R.locals)
    (hn : As.length = n) (hsize : ls.size = nL) (hst : st0 = As.reverse ++ .ref b :: rest) (hW : (rest.map fun v => v.category).sum ≤ 8) (hdg : decode cc pc = .ok (.invokevirtual index, 3)) (hf : cells + mc ≤ R.cells ∧ slots + ms ≤ R.slots) :
    va_Run p l e R s m args below meth c H locs cells slots mc ms (F0 m pc ls st0) rest (Qc (Value.ref b :: As).toArray) free := by
  refine va_runVN (C := y.cls) hc hM ⟨va_cnB n hc.2.2.2.2 (gG (List.forall_mem_cons.mpr ⟨w5, fun _ h => h⟩)) rfl rfl rfl (hN.1 _ w1) (hc.2.2.2.2 _ w4) hd.2 hR, hc.2.2.2.2 _ w2, hc.2.2.2.2 _ w3⟩ ⟨PX_blind, ?_, PX_of hK hN hP hD isC hC hnd⟩ rfl hn hsize hst (lv_room hW) hdg hf
  have h1 := va_recv hK (hP.sub isC (fm_of hC)) hcl he
  rw [hq] at h1
  exact h1
theorem xr_S (hc : CallFix p m c cc nL s args gw_T own) (hK : va_K D classes (tysX cT) s) (hN : NX s) (hP : va_P D classes ws H) (hD : va_D A ws) (isC : List Nat) (hC : isC.map (fun i => ws[i]?) = wc.map some) (hnd : va_nd isC = true)
    (hM : Met l y (wsc y bytes maxL ret) { frames := fr, cells := mc, slots := ms, locals := lo } (va_Pc As (PX D cT H.size wc)) Qc mc ms free)
    (w1 : Cond.methodLink own index y ∈ gw_T) (w2 : Cond.static y ∈ gw_T) (w4 : Cond.initialized y.cls ∈ gw_T) (w5 : Cond.code y bytes maxL ret ∈ gw_T)
    (hd : y.cls = y.cls ∧ y.cls ≠ "java/lang/invoke/MethodHandle" ∧ y.cls ≠ "java/lang/invoke/VarHandle" ∧ (parseMethodDescriptor y.desc).map (fun d => d.parameters.length) = some n) (hR : fr + 1 ≤ R.frames ∧ 8 + (maxL + 11) + lo ≤ R.locals)
    (hn : As.length = n) (hsize : ls.size = nL) (hst : st0 = As.reverse ++ rest) (hW : (rest.map fun v => v.category).sum ≤ 8) (hdg : decode cc pc = .ok (.invokestatic index, 3)) (hf : cells + mc ≤ R.cells ∧ slots + ms ≤ R.slots) :
    va_Run p l e R s m args below meth c H locs cells slots mc ms (F0 m pc ls st0) rest (Qc As.toArray) free :=
  va_runS hc hM (va_cwS n hc.2.2.2.2 (gG (List.forall_mem_append.mpr ⟨List.forall_mem_cons.mpr ⟨w1, List.forall_mem_cons.mpr ⟨w2, List.forall_mem_cons.mpr ⟨w4, fun _ h => absurd h List.not_mem_nil⟩⟩⟩, List.forall_mem_cons.mpr ⟨w5, fun _ h => h⟩⟩)) rfl rfl rfl hd.2 hR) ⟨PX_blind, PX_of hK hN hP hD isC hC hnd⟩ rfl hn hsize hst (lv_room hW) hdg hf
theorem xr_I (hc : CallFix p m c cc nL s args gw_T own) (hK : va_K D classes (tysX cT) s) (hN : NX s) (hP : va_P D classes ws H) (hD : va_D A ws) (isC : List Nat) (hC : isC.map (fun i => ws[i]?) = wc.map some) (hnd : va_nd isC = true)
    (hM : Met l y (wsc y bytes maxL none) { frames := fr, cells := mc, slots := ms, locals := lo } (va_Pc (.ref b :: As) (PX D cT H.size wc)) Qc mc ms free)
    (w1 : Cond.methodLink own index y ∈ gw_T) (w2 : Cond.instanceMethod y ∈ gw_T) (w4 : Cond.initialized y.cls ∈ gw_T) (w5 : Cond.code y bytes maxL none ∈ gw_T) (hi : y.name = "<init>")
    (hd : y.cls = y.cls ∧ y.cls ≠ "java/lang/invoke/MethodHandle" ∧ y.cls ≠ "java/lang/invoke/VarHandle" ∧ (parseMethodDescriptor y.desc).map (fun d => d.parameters.length) = some n) (hR : fr + 1 ≤ R.frames ∧ 8 + (maxL + 11) + lo ≤ R.locals)
    (hn : As.length = n) (hsize : ls.size = nL) (hst : st0 = As.reverse ++ .ref b :: rest) (hW : (rest.map fun v => v.category).sum ≤ 8) (hdg : decode cc pc = .ok (.invokespecial index, 3)) (hf : cells + mc ≤ R.cells ∧ slots + ms ≤ R.slots) :
    va_Run p l e R s m args below meth c H locs cells slots mc ms (F0 m pc ls st0) rest (Qc (Value.ref b :: As).toArray) free :=
  va_runI hc hM (cwI n hc.2.2.2.2 (gG (List.forall_mem_cons.mpr ⟨w5, fun _ h => h⟩)) rfl rfl rfl (hc.2.2.2.2 _ w4) (hc.2.2.2.2 _ w1) (hc.2.2.2.2 _ w2) hi hd.2 hR) ⟨PX_blind, PX_of hK hN hP hD isC hC hnd⟩ rfl hn hsize hst (lv_room hW) hdg hf
theorem xr_IN (hc : CallFix p m c cc nL s args gw_T own) (hK : va_K D classes (tysX cT) s) (hN : NX s) (hP : va_P D classes ws H) (hD : va_D A ws) (isC : List Nat) (hC : isC.map (fun i => ws[i]?) = wc.map some) (hnd : va_nd isC = true)
    (hM : Met l y (wsc y bytes maxL none) { frames := fr, cells := mc, slots := ms, locals := lo } (va_Pc (.ref b :: As) (PX D cT H.size wc)) Qc mc ms free)
    (w1 : Cond.methodLinkNest own index y host ∈ gn_T) (w2 : Cond.instanceMethod y ∈ gw_T) (w4 : Cond.initialized y.cls ∈ gw_T) (w5 : Cond.code y bytes maxL none ∈ gw_T) (hi : y.name = "<init>")
    (hd : y.cls = y.cls ∧ y.cls ≠ "java/lang/invoke/MethodHandle" ∧ y.cls ≠ "java/lang/invoke/VarHandle" ∧ (parseMethodDescriptor y.desc).map (fun d => d.parameters.length) = some n) (hR : fr + 1 ≤ R.frames ∧ 8 + (maxL + 11) + lo ≤ R.locals)
    (hn : As.length = n) (hsize : ls.size = nL) (hst : st0 = As.reverse ++ .ref b :: rest) (hW : (rest.map fun v => v.category).sum ≤ 8) (hdg : decode cc pc = .ok (.invokespecial index, 3)) (hf : cells + mc ≤ R.cells ∧ slots + ms ≤ R.slots) :
    va_Run p l e R s m args below meth c H locs cells slots mc ms (F0 m pc ls st0) rest (Qc (Value.ref b :: As).toArray) free :=
  va_runIN hc hM ⟨va_cnB n hc.2.2.2.2 (gG (List.forall_mem_cons.mpr ⟨w5, fun _ h => h⟩)) rfl rfl rfl (hN.1 _ w1) (hc.2.2.2.2 _ w4) hd.2 hR, hi, hc.2.2.2.2 _ w2⟩ ⟨PX_blind, PX_of hK hN hP hD isC hC hnd⟩ rfl hn hsize hst (lv_room hW) hdg hf
end XS
theorem m_of {l : Launch} {y : MethodName} {cc : ByteArray} {nL fr lo mc ms sz : Nat} {ret : Option FieldType} {D : va_G} {cT : Nat → ClassId} {av : List Value} {wi : va_W} (Qf : (Nat → Prop) → Array Value → State → Outcome → State → Prop) (hy : plainName y.cls = true) (hlen : (lg_sl av).length ≤ nL)
    (body : ∀ (p : Program) (e : Env) (s : State) (m : MethodId) (below : List Frame) (meth : Method) (c : Code) (A : Nat → Prop), p.tables.exec = Jvm.exec → c.code = cc → c.maxLocals = nL → s.vm.findClass y.cls = some m.cls → (∀ w ∈ gw_T, w.before av.toArray s = true) → va_K D classes (tysX cT) s → NX s → meth.sig.returnType = ret → meth.locks = false → meth.name = y.name → s.heap.size = sz → va_P D classes wi s.heap → va_D A wi → va_S A s.heap s.heap [] → (∀ q, s.heap.size ≤ q → A q) → ∀ ls : Array Slot, lv_has ls nL (lv_args 0 av) →
      W p l e { frames := fr, cells := mc, slots := ms, locals := lo } s m av.toArray below meth c s.heap [] 0 0 (MQ below (Qf A) av.toArray s mc ms A) (F0 m 0 ls [])) :
    Met l y (wsc y cc nL ret) { frames := fr, cells := mc, slots := ms, locals := lo } (va_Pc av (PX D cT sz wi)) (Qf (va_A wi sz)) mc ms (va_A wi sz) := by
  refine Met.ofW (cc := cc) (maxL := nL) (ret := ret) hy rfl ?_
  intro p e s m args below meth c s₁ B hml hv
  obtain ⟨rfl, hsz, hP, hK, hD0, hN⟩ := hv
  subst hsz
  have hts := atoms_spec (ws := wsc y cc nL ret) B.pre
  rw [lg_entry_eq]
  exact body p e s m below meth c _ B.exec B.bytes hml (findClass_of_methodNamed B.named) (fun w h => hts w (List.mem_cons_of_mem _ h)) hK hN B.returns B.notSynchronized (name_of_methodNamed B.named B.method).1 rfl hP (hD0.self (sz := s.heap.size)) va_S.rf (fun q h => Or.inr h) _ (lv_entry av hlen)
end
section
set_option maxHeartbeats 4000000 in
set_option maxRecDepth 100000 in
theorem c_hasStrip (l : Launch) (D : va_G) (cT : Nat → ClassId) (sz : Nat) (h0 : Nat) (a : Nat → Nat) (x : Int32) : Met l yX3_hasStrip (wsc yX3_hasStrip cX3_hasStrip 2 (some .boolean)) { frames := 2, cells := 0, slots := 0, locals := 100 } (va_Pc [.ref h0, .int x] (PX D cT sz [(h0, .inr (3, [.int 0, .int 0, .int 0, .int 0, .int 6, .int 6, .int 1, .int 60, .int 0, .int 0, .ref (a 0), .ref (a 1), .ref (a 2), .ref (a 3), .ref (a 4), .ref (a 5)]))])) (va_Qi (fun (r : Int32) (u : Unit) => r = 0) (fun u t => RW D (va_A [(h0, .inr (3, [.int 0, .int 0, .int 0, .int 0, .int 6, .int 6, .int 1, .int 60, .int 0, .int 0, .ref (a 0), .ref (a 1), .ref (a 2), .ref (a 3), .ref (a 4), .ref (a 5)]))] sz) ((fun _ : Unit => [(h0, .inr (3, [.int 0, .int 0, .int 0, .int 0, .int 6, .int 6, .int 1, .int 60, .int 0, .int 0, .ref (a 0), .ref (a 1), .ref (a 2), .ref (a 3), .ref (a 4), .ref (a 5)]))]) u) t) (va_A [(h0, .inr (3, [.int 0, .int 0, .int 0, .int 0, .int 6, .int 6, .int 1, .int 60, .int 0, .int 0, .ref (a 0), .ref (a 1), .ref (a 2), .ref (a 3), .ref (a 4), .ref (a 5)]))] sz)) 0 0 (va_A [(h0, .inr (3, [.int 0, .int 0, .int 0, .int 0, .int 6, .int 6, .int 1, .int 60, .int 0, .int 0, .ref (a 0), .ref (a 1), .ref (a 2), .ref (a 3), .ref (a 4), .ref (a 5)]))] sz) := by
  refine m_of (y := yX3_hasStrip) (cc := cX3_hasStrip) (nL := 2) (ret := (some .boolean)) (D := D) (cT := cT) (av := [.ref h0, .int x]) (wi := [(h0, .inr (3, [.int 0, .int 0, .int 0, .int 0, .int 6, .int 6, .int 1, .int 60, .int 0, .int 0, .ref (a 0), .ref (a 1), .ref (a 2), .ref (a 3), .ref (a 4), .ref (a 5)]))]) (fun A => va_Qi (fun (r : Int32) (u : Unit) => r = 0) (fun u t => RW D A ((fun _ : Unit => [(h0, .inr (3, [.int 0, .int 0, .int 0, .int 0, .int 6, .int 6, .int 1, .int 60, .int 0, .int 0, .ref (a 0), .ref (a 1), .ref (a 2), .ref (a 3), .ref (a 4), .ref (a 5)]))]) u) t) A) (by decide) (Nat.le_of_ble_eq_true rfl) ?_
  intro p e s m below meth c A hx hb hml hown htg hK hN hr hlk hnm hsz hP hD hS hA ls hl
  have hown : s.vm.findClass RX3 = some m.cls := hown
  have hl : lv_has ls 2 [(0, .ref h0), (1, .int x)] := hl
  refine lv_iload_n hx hb dX3_hasStrip_0 rfl (lv_at hl 1 rfl) ?_
  refine lv_if_lt (tgt := 16) hx hb dX3_hasStrip_1 (by decide) (fun c_1 => ?_) (fun c_1 => ?_)
  · have ic_1 : x.toInt < 0 := ilt c_1 (rfl) (by decide)
    refine lv_iconst (v := 0) hx hb dX3_hasStrip_16 (by decide) ?_
    exact x_zret hx hb hr hlk hP hD hS [0] (()) rfl (by decide) rfl (by first | rfl | (exfalso; omega) | (repeat (first | rw [if_pos (by omega)] | rw [if_neg (by omega)]))) (by decide) (by decide) dX3_hasStrip_17
  · have ic_1 : 0 ≤ x.toInt := inlt c_1 (rfl) (by decide)
    refine lv_iload_n hx hb dX3_hasStrip_4 rfl (lv_at hl 1 rfl) ?_
    refine lv_aload_n hx hb dX3_hasStrip_5 rfl (lv_at hl 0 rfl) ?_
    refine va_get (D := D) (ci := 3) (v := .int 0) (C := RX3) (T := TX3) (N := 16) hx hb htg gRX3 hown hK hP 0 rfl rfl 0 (by decide) (htg _ wi_166) (fun _ h9 => h9) rfl dX3_hasStrip_6 ?_
    refine lv_icmp_ge (tgt := 16) hx hb dX3_hasStrip_9 (by decide) (fun c_2 => ?_) (fun c_2 => ?_)
    · have ic_2 : 0 ≤ x.toInt := ile c_2 (by decide) (rfl)
      refine lv_iconst (v := 0) hx hb dX3_hasStrip_16 (by decide) ?_
      exact x_zret hx hb hr hlk hP hD hS [0] (()) rfl (by decide) rfl (by first | rfl | (exfalso; omega) | (repeat (first | rw [if_pos (by omega)] | rw [if_neg (by omega)]))) (by decide) (by decide) dX3_hasStrip_17
    · have ic_2 : x.toInt < 0 := inle c_2 (by decide) (rfl)
      refine lv_iconst (v := 1) hx hb dX3_hasStrip_12 (by decide) ?_
      refine lv_goto (tgt := 17) hx hb dX3_hasStrip_13 (by decide) ?_
      exact x_zret hx hb hr hlk hP hD hS [0] (()) rfl (by decide) rfl (by first | rfl | (exfalso; omega) | (repeat (first | rw [if_pos (by omega)] | rw [if_neg (by omega)]))) (by decide) (by decide) dX3_hasStrip_17
set_option maxHeartbeats 4000000 in
set_option maxRecDepth 100000 in
theorem c_isFarm (l : Launch) (D : va_G) (cT : Nat → ClassId) (sz : Nat) (x : Int32) : Met l yX8_isFarm (wsc yX8_isFarm cX8_isFarm 1 (some .boolean)) { frames := 2, cells := 0, slots := 0, locals := 100 } (va_Pc [.int x] (PX D cT sz [])) (va_Qi (fun (r : Int32) (u : Unit) => r = if 0 ≤ x.toInt ∧ x.toInt < 6 then 1 else 0) (fun u t => RW D (va_A [] sz) ((fun _ : Unit => []) u) t) (va_A [] sz)) 0 0 (va_A [] sz) := by
  refine m_of (y := yX8_isFarm) (cc := cX8_isFarm) (nL := 1) (ret := (some .boolean)) (D := D) (cT := cT) (av := [.int x]) (wi := []) (fun A => va_Qi (fun (r : Int32) (u : Unit) => r = if 0 ≤ x.toInt ∧ x.toInt < 6 then 1 else 0) (fun u t => RW D A ((fun _ : Unit => []) u) t) A) (by decide) (Nat.le_of_ble_eq_true rfl) ?_
  intro p e s m below meth c A hx hb hml hown htg hK hN hr hlk hnm hsz hP hD hS hA ls hl
  have hown : s.vm.findClass RX8 = some m.cls := hown
  have hl : lv_has ls 1 [(0, .int x)] := hl
  refine lv_iload_n hx hb dX8_isFarm_0 rfl (lv_at hl 0 rfl) ?_
  refine lv_if_lt (tgt := 14) hx hb dX8_isFarm_1 (by decide) (fun c_1 => ?_) (fun c_1 => ?_)
  · have ic_1 : x.toInt < 0 := ilt c_1 (rfl) (by decide)
    refine lv_iconst (v := 0) hx hb dX8_isFarm_14 (by decide) ?_
    exact x_zret hx hb hr hlk hP hD hS [] (()) rfl (by decide) rfl (by first | rfl | (exfalso; omega) | (repeat (first | rw [if_pos (by omega)] | rw [if_neg (by omega)]))) (by decide) (by decide) dX8_isFarm_15
  · have ic_1 : 0 ≤ x.toInt := inlt c_1 (rfl) (by decide)
    refine lv_iload_n hx hb dX8_isFarm_4 rfl (lv_at hl 0 rfl) ?_
    refine lv_bipush (v := 6) hx hb dX8_isFarm_5 (by decide) ?_
    refine lv_icmp_ge (tgt := 14) hx hb dX8_isFarm_7 (by decide) (fun c_2 => ?_) (fun c_2 => ?_)
    · have ic_2 : 6 ≤ x.toInt := ile c_2 (by decide) (rfl)
      refine lv_iconst (v := 0) hx hb dX8_isFarm_14 (by decide) ?_
      exact x_zret hx hb hr hlk hP hD hS [] (()) rfl (by decide) rfl (by first | rfl | (exfalso; omega) | (repeat (first | rw [if_pos (by omega)] | rw [if_neg (by omega)]))) (by decide) (by decide) dX8_isFarm_15
    · have ic_2 : x.toInt < 6 := inle c_2 (by decide) (rfl)
      refine lv_iconst (v := 1) hx hb dX8_isFarm_10 (by decide) ?_
      refine lv_goto (tgt := 15) hx hb dX8_isFarm_11 (by decide) ?_
      exact x_zret hx hb hr hlk hP hD hS [] (()) rfl (by decide) rfl (by first | rfl | (exfalso; omega) | (repeat (first | rw [if_pos (by omega)] | rw [if_neg (by omega)]))) (by decide) (by decide) dX8_isFarm_15
set_option maxHeartbeats 4000000 in
set_option maxRecDepth 100000 in
theorem c_isRow (l : Launch) (D : va_G) (cT : Nat → ClassId) (sz : Nat) (x : Int32) : Met l yX8_isRow (wsc yX8_isRow cX8_isRow 1 (some .boolean)) { frames := 2, cells := 0, slots := 0, locals := 100 } (va_Pc [.int x] (PX D cT sz [])) (va_Qi (fun (r : Int32) (u : Unit) => r = if 0 ≤ x.toInt ∧ x.toInt < 4 then 1 else 0) (fun u t => RW D (va_A [] sz) ((fun _ : Unit => []) u) t) (va_A [] sz)) 0 0 (va_A [] sz) := by
  refine m_of (y := yX8_isRow) (cc := cX8_isRow) (nL := 1) (ret := (some .boolean)) (D := D) (cT := cT) (av := [.int x]) (wi := []) (fun A => va_Qi (fun (r : Int32) (u : Unit) => r = if 0 ≤ x.toInt ∧ x.toInt < 4 then 1 else 0) (fun u t => RW D A ((fun _ : Unit => []) u) t) A) (by decide) (Nat.le_of_ble_eq_true rfl) ?_
  intro p e s m below meth c A hx hb hml hown htg hK hN hr hlk hnm hsz hP hD hS hA ls hl
  have hown : s.vm.findClass RX8 = some m.cls := hown
  have hl : lv_has ls 1 [(0, .int x)] := hl
  refine lv_iload_n hx hb dX8_isRow_0 rfl (lv_at hl 0 rfl) ?_
  refine lv_if_lt (tgt := 13) hx hb dX8_isRow_1 (by decide) (fun c_1 => ?_) (fun c_1 => ?_)
  · have ic_1 : x.toInt < 0 := ilt c_1 (rfl) (by decide)
    refine lv_iconst (v := 0) hx hb dX8_isRow_13 (by decide) ?_
    exact x_zret hx hb hr hlk hP hD hS [] (()) rfl (by decide) rfl (by first | rfl | (exfalso; omega) | (repeat (first | rw [if_pos (by omega)] | rw [if_neg (by omega)]))) (by decide) (by decide) dX8_isRow_14
  · have ic_1 : 0 ≤ x.toInt := inlt c_1 (rfl) (by decide)
    refine lv_iload_n hx hb dX8_isRow_4 rfl (lv_at hl 0 rfl) ?_
    refine lv_iconst (v := 4) hx hb dX8_isRow_5 (by decide) ?_
    refine lv_icmp_ge (tgt := 13) hx hb dX8_isRow_6 (by decide) (fun c_2 => ?_) (fun c_2 => ?_)
    · have ic_2 : 4 ≤ x.toInt := ile c_2 (by decide) (rfl)
      refine lv_iconst (v := 0) hx hb dX8_isRow_13 (by decide) ?_
      exact x_zret hx hb hr hlk hP hD hS [] (()) rfl (by decide) rfl (by first | rfl | (exfalso; omega) | (repeat (first | rw [if_pos (by omega)] | rw [if_neg (by omega)]))) (by decide) (by decide) dX8_isRow_14
    · have ic_2 : x.toInt < 4 := inle c_2 (by decide) (rfl)
      refine lv_iconst (v := 1) hx hb dX8_isRow_9 (by decide) ?_
      refine lv_goto (tgt := 14) hx hb dX8_isRow_10 (by decide) ?_
      exact x_zret hx hb hr hlk hP hD hS [] (()) rfl (by decide) rfl (by first | rfl | (exfalso; omega) | (repeat (first | rw [if_pos (by omega)] | rw [if_neg (by omega)]))) (by decide) (by decide) dX8_isRow_14
set_option maxHeartbeats 4000000 in
set_option maxRecDepth 100000 in
theorem c_within (l : Launch) (D : va_G) (cT : Nat → ClassId) (sz : Nat) (v : Int64) (lo : Int64) (hi : Int64) (av : Int) (al : Int) (ah : Int) (ev : v.toInt = av) (el : lo.toInt = al) (eh : hi.toInt = ah) : Met l yX9_within (wsc yX9_within cX9_within 6 (some .boolean)) { frames := 2, cells := 0, slots := 0, locals := 100 } (va_Pc [.long v, .long lo, .long hi] (PX D cT sz [])) (va_Qi (fun (r : Int32) (u : Unit) => r = if al ≤ av ∧ av ≤ ah then 1 else 0) (fun u t => RW D (va_A [] sz) ((fun _ : Unit => []) u) t) (va_A [] sz)) 0 0 (va_A [] sz) := by
  refine m_of (y := yX9_within) (cc := cX9_within) (nL := 6) (ret := (some .boolean)) (D := D) (cT := cT) (av := [.long v, .long lo, .long hi]) (wi := []) (fun A => va_Qi (fun (r : Int32) (u : Unit) => r = if al ≤ av ∧ av ≤ ah then 1 else 0) (fun u t => RW D A ((fun _ : Unit => []) u) t) A) (by decide) (Nat.le_of_ble_eq_true rfl) ?_
  intro p e s m below meth c A hx hb hml hown htg hK hN hr hlk hnm hsz hP hD hS hA ls hl
  have hown : s.vm.findClass RX9 = some m.cls := hown
  have hl : lv_has ls 6 [(0, .long v), (2, .long lo), (4, .long hi)] := hl
  subst ev el eh
  refine lv_lload_n hx hb dX9_within_0 rfl (lv_at hl 0 rfl) ?_
  refine lv_lload_n hx hb dX9_within_1 rfl (lv_at hl 1 rfl) ?_
  refine W.lcmp hx hb dX9_within_2 ?_
  refine lv_if_lt (tgt := 17) hx hb dX9_within_3 (by decide) (fun c_1 => ?_) (fun c_1 => ?_)
  · have ic_1 : v.toInt < lo.toInt := lgc_lt c_1 (rfl) (rfl)
    refine lv_iconst (v := 0) hx hb dX9_within_17 (by decide) ?_
    exact x_zret hx hb hr hlk hP hD hS [] (()) rfl (by decide) rfl (by first | rfl | (exfalso; omega) | (repeat (first | rw [if_pos (by omega)] | rw [if_neg (by omega)]))) (by decide) (by decide) dX9_within_18
  · have ic_1 : lo.toInt ≤ v.toInt := lgc_nlt c_1 (rfl) (rfl)
    refine lv_lload_n hx hb dX9_within_6 rfl (lv_at hl 0 rfl) ?_
    refine lv_lload hx hb dX9_within_7 (lv_at hl 2 rfl) ?_
    refine W.lcmp hx hb dX9_within_9 ?_
    refine lv_if_gt (tgt := 17) hx hb dX9_within_10 (by decide) (fun c_2 => ?_) (fun c_2 => ?_)
    · have ic_2 : hi.toInt < v.toInt := lgc_gt c_2 (rfl) (rfl)
      refine lv_iconst (v := 0) hx hb dX9_within_17 (by decide) ?_
      exact x_zret hx hb hr hlk hP hD hS [] (()) rfl (by decide) rfl (by first | rfl | (exfalso; omega) | (repeat (first | rw [if_pos (by omega)] | rw [if_neg (by omega)]))) (by decide) (by decide) dX9_within_18
    · have ic_2 : v.toInt ≤ hi.toInt := lgc_ngt c_2 (rfl) (rfl)
      refine lv_iconst (v := 1) hx hb dX9_within_13 (by decide) ?_
      refine lv_goto (tgt := 18) hx hb dX9_within_14 (by decide) ?_
      exact x_zret hx hb hr hlk hP hD hS [] (()) rfl (by decide) rfl (by first | rfl | (exfalso; omega) | (repeat (first | rw [if_pos (by omega)] | rw [if_neg (by omega)]))) (by decide) (by decide) dX9_within_18
set_option maxHeartbeats 4000000 in
set_option maxRecDepth 100000 in
theorem k_strip (l : Launch) (D : va_G) (cT : Nat → ClassId) (sz : Nat) (h0 : Nat) (q : Nat → Nat) (x : Int32) (y : Int32) : Met l yX8_strip (wsc yX8_strip cX8_strip 3 (some .int)) { frames := 3, cells := 0, slots := 0, locals := 121 } (va_Pc [.ref h0, .int x, .int y] (PX D cT sz [(h0, .inr (8, [.ref (q 0), .int 0, .ref (q 1), .ref (q 2), .ref (q 3), .ref (q 4), .ref (q 5), .ref (q 6), .ref (q 7), .ref (q 8), .ref (q 9), .ref (q 10), .ref (q 11)])), ((q 2), .inr (3, [.int 0, .int 0, .int 0, .int 0, .int 6, .int 6, .int 1, .int 60, .int 0, .int 0, .ref (q 12), .ref (q 13), .ref (q 14), .ref (q 15), .ref (q 16), .ref (q 17)]))])) (va_Qi (fun (r : Int32) (u : Unit) => r = -2) (fun u t => RW D (va_A [(h0, .inr (8, [.ref (q 0), .int 0, .ref (q 1), .ref (q 2), .ref (q 3), .ref (q 4), .ref (q 5), .ref (q 6), .ref (q 7), .ref (q 8), .ref (q 9), .ref (q 10), .ref (q 11)])), ((q 2), .inr (3, [.int 0, .int 0, .int 0, .int 0, .int 6, .int 6, .int 1, .int 60, .int 0, .int 0, .ref (q 12), .ref (q 13), .ref (q 14), .ref (q 15), .ref (q 16), .ref (q 17)]))] sz) ((fun _ : Unit => []) u) t) (va_A [(h0, .inr (8, [.ref (q 0), .int 0, .ref (q 1), .ref (q 2), .ref (q 3), .ref (q 4), .ref (q 5), .ref (q 6), .ref (q 7), .ref (q 8), .ref (q 9), .ref (q 10), .ref (q 11)])), ((q 2), .inr (3, [.int 0, .int 0, .int 0, .int 0, .int 6, .int 6, .int 1, .int 60, .int 0, .int 0, .ref (q 12), .ref (q 13), .ref (q 14), .ref (q 15), .ref (q 16), .ref (q 17)]))] sz)) 0 0 (va_A [(h0, .inr (8, [.ref (q 0), .int 0, .ref (q 1), .ref (q 2), .ref (q 3), .ref (q 4), .ref (q 5), .ref (q 6), .ref (q 7), .ref (q 8), .ref (q 9), .ref (q 10), .ref (q 11)])), ((q 2), .inr (3, [.int 0, .int 0, .int 0, .int 0, .int 6, .int 6, .int 1, .int 60, .int 0, .int 0, .ref (q 12), .ref (q 13), .ref (q 14), .ref (q 15), .ref (q 16), .ref (q 17)]))] sz) := by
  refine m_of (y := yX8_strip) (cc := cX8_strip) (nL := 3) (ret := (some .int)) (D := D) (cT := cT) (av := [.ref h0, .int x, .int y]) (wi := [(h0, .inr (8, [.ref (q 0), .int 0, .ref (q 1), .ref (q 2), .ref (q 3), .ref (q 4), .ref (q 5), .ref (q 6), .ref (q 7), .ref (q 8), .ref (q 9), .ref (q 10), .ref (q 11)])), ((q 2), .inr (3, [.int 0, .int 0, .int 0, .int 0, .int 6, .int 6, .int 1, .int 60, .int 0, .int 0, .ref (q 12), .ref (q 13), .ref (q 14), .ref (q 15), .ref (q 16), .ref (q 17)]))]) (fun A => va_Qi (fun (r : Int32) (u : Unit) => r = -2) (fun u t => RW D A ((fun _ : Unit => []) u) t) A) (by decide) (Nat.le_of_ble_eq_true rfl) ?_
  intro p e s m below meth c A hx hb hml hown htg hK hN hr hlk hnm hsz hP hD hS hA ls hl
  have hown : s.vm.findClass RX8 = some m.cls := hown
  have hl : lv_has ls 3 [(0, .ref h0), (1, .int x), (2, .int y)] := hl
  refine lv_aload_n hx hb dX8_strip_0 rfl (lv_at hl 0 rfl) ?_
  refine va_get (D := D) (ci := 8) (v := .ref (q 2)) (C := RX8) (T := TX8) (N := 13) hx hb htg gRX8 hown hK hP 0 rfl rfl 3 (by decide) (htg _ wi_470) (fun _ h9 => h9) rfl dX8_strip_1 ?_
  refine lv_iload_n hx hb dX8_strip_4 rfl (lv_at hl 1 rfl) ?_
  refine xk_i (wr := [(h0, .inr (8, [.ref (q 0), .int 0, .ref (q 1), .ref (q 2), .ref (q 3), .ref (q 4), .ref (q 5), .ref (q 6), .ref (q 7), .ref (q 8), .ref (q 9), .ref (q 10), .ref (q 11)]))]) (xr_VN (As := [.int x]) (rest := []) ⟨hx, hb, hml, hown, htg⟩ hK hN hP hD [1] rfl (by decide) (c_hasStrip l D cT _ ((q 2)) (fun k => [(q 12), (q 13), (q 14), (q 15), (q 16), (q 17)].getD k 0) (x)) ni_666 wi_668 wi_18 wi_123 wi_669 rfl rfl rfl ⟨rfl, by decide +kernel⟩ ⟨by decide, by decide⟩ rfl hl.1 rfl (by decide) dX8_strip_5 ⟨by decide, by decide⟩) hP hD hS hA [1] [0] rfl rfl (by decide) (by decide) (fun r_2 u_1 H locs hwr_2 hP hD hS => ?_)
  have hP : va_P D classes [(h0, .inr (8, [.ref (q 0), .int 0, .ref (q 1), .ref (q 2), .ref (q 3), .ref (q 4), .ref (q 5), .ref (q 6), .ref (q 7), .ref (q 8), .ref (q 9), .ref (q 10), .ref (q 11)])), ((q 2), .inr (3, [.int 0, .int 0, .int 0, .int 0, .int 6, .int 6, .int 1, .int 60, .int 0, .int 0, .ref (q 12), .ref (q 13), .ref (q 14), .ref (q 15), .ref (q 16), .ref (q 17)]))] _ := hP
  have hD : va_D A [(h0, .inr (8, [.ref (q 0), .int 0, .ref (q 1), .ref (q 2), .ref (q 3), .ref (q 4), .ref (q 5), .ref (q 6), .ref (q 7), .ref (q 8), .ref (q 9), .ref (q 10), .ref (q 11)])), ((q 2), .inr (3, [.int 0, .int 0, .int 0, .int 0, .int 6, .int 6, .int 1, .int 60, .int 0, .int 0, .ref (q 12), .ref (q 13), .ref (q 14), .ref (q 15), .ref (q 16), .ref (q 17)]))] := hD
  have hwr_2 : r_2 = 0 := hwr_2
  subst hwr_2
  refine lv_if_ne (tgt := 14) hx hb dX8_strip_8 (by decide) (fun h => absurd h (by decide)) (fun _ => ?_)
  refine lv_bipush (v := (-2)) hx hb dX8_strip_11 (by decide) ?_
  exact x_iret hx hb hr hlk hP hD hS [] (()) rfl (by decide) (by first | rfl | (exfalso; omega) | (repeat (first | rw [if_pos (by omega)] | rw [if_neg (by omega)]))) (by decide) (by decide) dX8_strip_13
set_option maxHeartbeats 4000000 in
set_option maxRecDepth 100000 in
theorem m_isStrip (l : Launch) (D : va_G) (cT : Nat → ClassId) (sz : Nat) (h0 : Nat) (g : Nat → Nat) (x : Int32) : Met l yX9_isStrip (wsc yX9_isStrip cX9_isStrip 2 (some .boolean)) { frames := 3, cells := 0, slots := 0, locals := 125 } (va_Pc [.ref h0, .int x] (PX D cT sz [(h0, .inr (9, [.int 0, .ref (g 0), .ref (g 1), .ref (g 2), .ref (g 3), .int 0, .int 0, .int 0, .int 0, .int 0, .int 0, .int 0, .int 0, .int 0, .int (-1), .ref (g 4), .ref (g 5), .int 0, .int 0, .int 0, .ref (g 6), .ref (g 7), .ref (g 8), .int 0, .int 0, .int 0, .int 0, .int 0, .ref (g 9), .int 0, .ref (g 10), .int 0, .int 0, .int 0, .ref (g 11), .ref (g 12), .ref (g 13)])), ((g 0), .inl (cT 0, 288, .inl (allK)))])) (va_Qi (fun (r : Int32) (u : Unit) => r = 0) (fun u t => RW D (va_A [(h0, .inr (9, [.int 0, .ref (g 0), .ref (g 1), .ref (g 2), .ref (g 3), .int 0, .int 0, .int 0, .int 0, .int 0, .int 0, .int 0, .int 0, .int 0, .int (-1), .ref (g 4), .ref (g 5), .int 0, .int 0, .int 0, .ref (g 6), .ref (g 7), .ref (g 8), .int 0, .int 0, .int 0, .int 0, .int 0, .ref (g 9), .int 0, .ref (g 10), .int 0, .int 0, .int 0, .ref (g 11), .ref (g 12), .ref (g 13)])), ((g 0), .inl (cT 0, 288, .inl (allK)))] sz) ((fun _ : Unit => [(h0, .inr (9, [.int 0, .ref (g 0), .ref (g 1), .ref (g 2), .ref (g 3), .int 0, .int 0, .int 0, .int 0, .int 0, .int 0, .int 0, .int 0, .int 0, .int (-1), .ref (g 4), .ref (g 5), .int 0, .int 0, .int 0, .ref (g 6), .ref (g 7), .ref (g 8), .int 0, .int 0, .int 0, .int 0, .int 0, .ref (g 9), .int 0, .ref (g 10), .int 0, .int 0, .int 0, .ref (g 11), .ref (g 12), .ref (g 13)])), ((g 0), .inl (cT 0, 288, .inl (allK)))]) u) t) (va_A [(h0, .inr (9, [.int 0, .ref (g 0), .ref (g 1), .ref (g 2), .ref (g 3), .int 0, .int 0, .int 0, .int 0, .int 0, .int 0, .int 0, .int 0, .int 0, .int (-1), .ref (g 4), .ref (g 5), .int 0, .int 0, .int 0, .ref (g 6), .ref (g 7), .ref (g 8), .int 0, .int 0, .int 0, .int 0, .int 0, .ref (g 9), .int 0, .ref (g 10), .int 0, .int 0, .int 0, .ref (g 11), .ref (g 12), .ref (g 13)])), ((g 0), .inl (cT 0, 288, .inl (allK)))] sz)) 0 0 (va_A [(h0, .inr (9, [.int 0, .ref (g 0), .ref (g 1), .ref (g 2), .ref (g 3), .int 0, .int 0, .int 0, .int 0, .int 0, .int 0, .int 0, .int 0, .int 0, .int (-1), .ref (g 4), .ref (g 5), .int 0, .int 0, .int 0, .ref (g 6), .ref (g 7), .ref (g 8), .int 0, .int 0, .int 0, .int 0, .int 0, .ref (g 9), .int 0, .ref (g 10), .int 0, .int 0, .int 0, .ref (g 11), .ref (g 12), .ref (g 13)])), ((g 0), .inl (cT 0, 288, .inl (allK)))] sz) := by
  refine m_of (y := yX9_isStrip) (cc := cX9_isStrip) (nL := 2) (ret := (some .boolean)) (D := D) (cT := cT) (av := [.ref h0, .int x]) (wi := [(h0, .inr (9, [.int 0, .ref (g 0), .ref (g 1), .ref (g 2), .ref (g 3), .int 0, .int 0, .int 0, .int 0, .int 0, .int 0, .int 0, .int 0, .int 0, .int (-1), .ref (g 4), .ref (g 5), .int 0, .int 0, .int 0, .ref (g 6), .ref (g 7), .ref (g 8), .int 0, .int 0, .int 0, .int 0, .int 0, .ref (g 9), .int 0, .ref (g 10), .int 0, .int 0, .int 0, .ref (g 11), .ref (g 12), .ref (g 13)])), ((g 0), .inl (cT 0, 288, .inl (allK)))]) (fun A => va_Qi (fun (r : Int32) (u : Unit) => r = 0) (fun u t => RW D A ((fun _ : Unit => [(h0, .inr (9, [.int 0, .ref (g 0), .ref (g 1), .ref (g 2), .ref (g 3), .int 0, .int 0, .int 0, .int 0, .int 0, .int 0, .int 0, .int 0, .int 0, .int (-1), .ref (g 4), .ref (g 5), .int 0, .int 0, .int 0, .ref (g 6), .ref (g 7), .ref (g 8), .int 0, .int 0, .int 0, .int 0, .int 0, .ref (g 9), .int 0, .ref (g 10), .int 0, .int 0, .int 0, .ref (g 11), .ref (g 12), .ref (g 13)])), ((g 0), .inl (cT 0, 288, .inl (allK)))]) u) t) A) (by decide) (Nat.le_of_ble_eq_true rfl) ?_
  intro p e s m below meth c A hx hb hml hown htg hK hN hr hlk hnm hsz hP hD hS hA ls hl
  have hown : s.vm.findClass RX9 = some m.cls := hown
  have hl : lv_has ls 2 [(0, .ref h0), (1, .int x)] := hl
  refine lv_iload_n hx hb dX9_isStrip_0 rfl (lv_at hl 1 rfl) ?_
  refine lv_i2l (v := x.toInt64) hx hb dX9_isStrip_1 rfl ?_
  refine lv_lconst (v := 0) hx hb dX9_isStrip_2 (by decide) ?_
  refine lv_aload_n hx hb dX9_isStrip_3 rfl (lv_at hl 0 rfl) ?_
  refine va_get (D := D) (ci := 9) (v := .ref (g 0)) (C := RX9) (T := TX9) (N := 37) hx hb htg gRX9 hown hK hP 0 rfl rfl 1 (by decide) (htg _ wi_1151) (fun _ h9 => h9) rfl dX9_isStrip_4 ?_
  refine lv_iconst (v := 0) hx hb dX9_isStrip_7 (by decide) ?_
  refine va_iald hx hb hK hP 1 0 rfl rfl (by unfold vp_in; decide) dX9_isStrip_8 ?_
  refine lv_is (y := 0) (by decide) ?_
  refine lv_iconst (v := 1) hx hb dX9_isStrip_9 (by decide) ?_
  refine lv_isub hx hb dX9_isStrip_10 ?_
  refine lv_is (y := (-1)) (by decide) ?_
  refine lv_i2l (v := (-1)) hx hb dX9_isStrip_11 (by decide) ?_
  refine xk_i (wr := [(h0, .inr (9, [.int 0, .ref (g 0), .ref (g 1), .ref (g 2), .ref (g 3), .int 0, .int 0, .int 0, .int 0, .int 0, .int 0, .int 0, .int 0, .int 0, .int (-1), .ref (g 4), .ref (g 5), .int 0, .int 0, .int 0, .ref (g 6), .ref (g 7), .ref (g 8), .int 0, .int 0, .int 0, .int 0, .int 0, .ref (g 9), .int 0, .ref (g 10), .int 0, .int 0, .int 0, .ref (g 11), .ref (g 12), .ref (g 13)])), ((g 0), .inl (cT 0, 288, .inl (allK)))]) (xr_S (As := [.long x.toInt64, .long 0, .long (-1)]) (rest := []) ⟨hx, hb, hml, hown, htg⟩ hK hN hP hD [] rfl (by decide) (c_within l D cT _ (x.toInt64) (0) ((-1)) (x.toInt) (0) ((-1)) (i2l_i _) (by decide) (by decide)) wi_1270 wi_1271 wi_131 wi_1272 ⟨rfl, by decide +kernel⟩ ⟨by decide, by decide⟩ rfl hl.1 rfl (by decide) dX9_isStrip_12 ⟨by decide, by decide⟩) hP hD hS hA [] [0, 1] rfl rfl (by decide) (by decide) (fun r_2 u_1 H locs hwr_2 hP hD hS => ?_)
  have hP : va_P D classes [(h0, .inr (9, [.int 0, .ref (g 0), .ref (g 1), .ref (g 2), .ref (g 3), .int 0, .int 0, .int 0, .int 0, .int 0, .int 0, .int 0, .int 0, .int 0, .int (-1), .ref (g 4), .ref (g 5), .int 0, .int 0, .int 0, .ref (g 6), .ref (g 7), .ref (g 8), .int 0, .int 0, .int 0, .int 0, .int 0, .ref (g 9), .int 0, .ref (g 10), .int 0, .int 0, .int 0, .ref (g 11), .ref (g 12), .ref (g 13)])), ((g 0), .inl (cT 0, 288, .inl (allK)))] _ := hP
  have hD : va_D A [(h0, .inr (9, [.int 0, .ref (g 0), .ref (g 1), .ref (g 2), .ref (g 3), .int 0, .int 0, .int 0, .int 0, .int 0, .int 0, .int 0, .int 0, .int 0, .int (-1), .ref (g 4), .ref (g 5), .int 0, .int 0, .int 0, .ref (g 6), .ref (g 7), .ref (g 8), .int 0, .int 0, .int 0, .int 0, .int 0, .ref (g 9), .int 0, .ref (g 10), .int 0, .int 0, .int 0, .ref (g 11), .ref (g 12), .ref (g 13)])), ((g 0), .inl (cT 0, 288, .inl (allK)))] := hD
  have hwr_2 : r_2 = if 0 ≤ x.toInt ∧ x.toInt ≤ (-1) then 1 else 0 := hwr_2
  exact x_zret hx hb hr hlk hP hD hS [0, 1] (()) rfl (by decide) rfl (by rw [hwr_2]; exact if_neg (by omega)) (by decide) (by decide) dX9_isStrip_15
set_option maxHeartbeats 4000000 in
set_option maxRecDepth 100000 in
theorem m_strip (l : Launch) (D : va_G) (cT : Nat → ClassId) (sz : Nat) (h0 : Nat) (g : Nat → Nat) (x : Int32) (y : Int32) : Met l yX9_strip (wsc yX9_strip cX9_strip 3 (some .int)) { frames := 4, cells := 0, slots := 0, locals := 146 } (va_Pc [.ref h0, .int x, .int y] (PX D cT sz [(h0, .inr (9, [.int 0, .ref (g 0), .ref (g 1), .ref (g 2), .ref (g 3), .int 0, .int 0, .int 0, .int 0, .int 0, .int 0, .int 0, .int 0, .int 0, .int (-1), .ref (g 4), .ref (g 5), .int 0, .int 0, .int 0, .ref (g 6), .ref (g 7), .ref (g 8), .int 0, .int 0, .int 0, .int 0, .int 0, .ref (g 9), .int 0, .ref (g 10), .int 0, .int 0, .int 0, .ref (g 11), .ref (g 12), .ref (g 13)])), ((g 0), .inl (cT 0, 288, .inl (allK)))])) (va_Qi (fun (r : Int32) (u : Unit) => r = -2) (fun u t => RW D (va_A [(h0, .inr (9, [.int 0, .ref (g 0), .ref (g 1), .ref (g 2), .ref (g 3), .int 0, .int 0, .int 0, .int 0, .int 0, .int 0, .int 0, .int 0, .int 0, .int (-1), .ref (g 4), .ref (g 5), .int 0, .int 0, .int 0, .ref (g 6), .ref (g 7), .ref (g 8), .int 0, .int 0, .int 0, .int 0, .int 0, .ref (g 9), .int 0, .ref (g 10), .int 0, .int 0, .int 0, .ref (g 11), .ref (g 12), .ref (g 13)])), ((g 0), .inl (cT 0, 288, .inl (allK)))] sz) ((fun _ : Unit => []) u) t) (va_A [(h0, .inr (9, [.int 0, .ref (g 0), .ref (g 1), .ref (g 2), .ref (g 3), .int 0, .int 0, .int 0, .int 0, .int 0, .int 0, .int 0, .int 0, .int 0, .int (-1), .ref (g 4), .ref (g 5), .int 0, .int 0, .int 0, .ref (g 6), .ref (g 7), .ref (g 8), .int 0, .int 0, .int 0, .int 0, .int 0, .ref (g 9), .int 0, .ref (g 10), .int 0, .int 0, .int 0, .ref (g 11), .ref (g 12), .ref (g 13)])), ((g 0), .inl (cT 0, 288, .inl (allK)))] sz)) 0 0 (va_A [(h0, .inr (9, [.int 0, .ref (g 0), .ref (g 1), .ref (g 2), .ref (g 3), .int 0, .int 0, .int 0, .int 0, .int 0, .int 0, .int 0, .int 0, .int 0, .int (-1), .ref (g 4), .ref (g 5), .int 0, .int 0, .int 0, .ref (g 6), .ref (g 7), .ref (g 8), .int 0, .int 0, .int 0, .int 0, .int 0, .ref (g 9), .int 0, .ref (g 10), .int 0, .int 0, .int 0, .ref (g 11), .ref (g 12), .ref (g 13)])), ((g 0), .inl (cT 0, 288, .inl (allK)))] sz) := by
  refine m_of (y := yX9_strip) (cc := cX9_strip) (nL := 3) (ret := (some .int)) (D := D) (cT := cT) (av := [.ref h0, .int x, .int y]) (wi := [(h0, .inr (9, [.int 0, .ref (g 0), .ref (g 1), .ref (g 2), .ref (g 3), .int 0, .int 0, .int 0, .int 0, .int 0, .int 0, .int 0, .int 0, .int 0, .int (-1), .ref (g 4), .ref (g 5), .int 0, .int 0, .int 0, .ref (g 6), .ref (g 7), .ref (g 8), .int 0, .int 0, .int 0, .int 0, .int 0, .ref (g 9), .int 0, .ref (g 10), .int 0, .int 0, .int 0, .ref (g 11), .ref (g 12), .ref (g 13)])), ((g 0), .inl (cT 0, 288, .inl (allK)))]) (fun A => va_Qi (fun (r : Int32) (u : Unit) => r = -2) (fun u t => RW D A ((fun _ : Unit => []) u) t) A) (by decide) (Nat.le_of_ble_eq_true rfl) ?_
  intro p e s m below meth c A hx hb hml hown htg hK hN hr hlk hnm hsz hP hD hS hA ls hl
  have hown : s.vm.findClass RX9 = some m.cls := hown
  have hl : lv_has ls 3 [(0, .ref h0), (1, .int x), (2, .int y)] := hl
  refine lv_aload_n hx hb dX9_strip_0 rfl (lv_at hl 0 rfl) ?_
  refine lv_iconst (v := 0) hx hb dX9_strip_1 (by decide) ?_
  refine va_put (D := D) (ci := 9) (v := .int 0) (ty := .int) (C := RX9) (T := TX9) (N := 37) hx hb htg gRX9 tyX9 tyX9_ok nmX9 hown hK hP hD hS 0 rfl rfl 0 (by decide) (htg _ wi_1150) (fun _ h9 => h9) rfl (by decide +kernel) rfl rfl (by decide) dX9_strip_2 (fun H locs hP hD hS => ?_)
  have hP : va_P D classes [(h0, .inr (9, [.int 0, .ref (g 0), .ref (g 1), .ref (g 2), .ref (g 3), .int 0, .int 0, .int 0, .int 0, .int 0, .int 0, .int 0, .int 0, .int 0, .int (-1), .ref (g 4), .ref (g 5), .int 0, .int 0, .int 0, .ref (g 6), .ref (g 7), .ref (g 8), .int 0, .int 0, .int 0, .int 0, .int 0, .ref (g 9), .int 0, .ref (g 10), .int 0, .int 0, .int 0, .ref (g 11), .ref (g 12), .ref (g 13)])), ((g 0), .inl (cT 0, 288, .inl (allK)))] _ := hP
  have hD : va_D A [(h0, .inr (9, [.int 0, .ref (g 0), .ref (g 1), .ref (g 2), .ref (g 3), .int 0, .int 0, .int 0, .int 0, .int 0, .int 0, .int 0, .int 0, .int 0, .int (-1), .ref (g 4), .ref (g 5), .int 0, .int 0, .int 0, .ref (g 6), .ref (g 7), .ref (g 8), .int 0, .int 0, .int 0, .int 0, .int 0, .ref (g 9), .int 0, .ref (g 10), .int 0, .int 0, .int 0, .ref (g 11), .ref (g 12), .ref (g 13)])), ((g 0), .inl (cT 0, 288, .inl (allK)))] := hD
  refine lv_aload_n hx hb dX9_strip_5 rfl (lv_at hl 0 rfl) ?_
  refine lv_iload_n hx hb dX9_strip_6 rfl (lv_at hl 1 rfl) ?_
  refine xk_i (wr := []) (xr_V (As := [.int x]) (rest := []) ⟨hx, hb, hml, hown, htg⟩ hK hN hP hD [0, 1] rfl (by decide) (m_isStrip l D cT _ (h0) (g) (x)) wi_1338 wi_1340 wi_90 wi_131 wi_1341 rfl rfl rfl ⟨rfl, by decide +kernel⟩ ⟨by decide, by decide⟩ rfl hl.1 rfl (by decide) dX9_strip_7 ⟨by decide, by decide⟩) hP hD hS hA [0, 1] [] rfl rfl (by decide) (by decide) (fun r_2 u_1 H locs hwr_2 hP hD hS => ?_)
  have hP : va_P D classes [(h0, .inr (9, [.int 0, .ref (g 0), .ref (g 1), .ref (g 2), .ref (g 3), .int 0, .int 0, .int 0, .int 0, .int 0, .int 0, .int 0, .int 0, .int 0, .int (-1), .ref (g 4), .ref (g 5), .int 0, .int 0, .int 0, .ref (g 6), .ref (g 7), .ref (g 8), .int 0, .int 0, .int 0, .int 0, .int 0, .ref (g 9), .int 0, .ref (g 10), .int 0, .int 0, .int 0, .ref (g 11), .ref (g 12), .ref (g 13)])), ((g 0), .inl (cT 0, 288, .inl (allK)))] _ := hP
  have hD : va_D A [(h0, .inr (9, [.int 0, .ref (g 0), .ref (g 1), .ref (g 2), .ref (g 3), .int 0, .int 0, .int 0, .int 0, .int 0, .int 0, .int 0, .int 0, .int 0, .int (-1), .ref (g 4), .ref (g 5), .int 0, .int 0, .int 0, .ref (g 6), .ref (g 7), .ref (g 8), .int 0, .int 0, .int 0, .int 0, .int 0, .ref (g 9), .int 0, .ref (g 10), .int 0, .int 0, .int 0, .ref (g 11), .ref (g 12), .ref (g 13)])), ((g 0), .inl (cT 0, 288, .inl (allK)))] := hD
  have hwr_2 : r_2 = 0 := hwr_2
  subst hwr_2
  refine lv_if_eq (tgt := 25) hx hb dX9_strip_10 (by decide) (fun _ => ?_) (fun h => absurd (by decide) h)
  refine lv_bipush (v := (-2)) hx hb dX9_strip_25 (by decide) ?_
  exact x_iret hx hb hr hlk hP hD hS [] (()) rfl (by decide) (by first | rfl | (exfalso; omega) | (repeat (first | rw [if_pos (by omega)] | rw [if_neg (by omega)]))) (by decide) (by decide) dX9_strip_27
end
