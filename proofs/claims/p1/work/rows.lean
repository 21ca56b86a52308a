section
-- ===== PART A: goes FIRST, ahead of the names: the tables' words, and 'selects' of the private methods out of them =====
/-- a private method of a class that the tables say can be made, by its rows of tables_1 -/
def lw_okq (q : MethodName × Nat) : Prop := (q.1.cls ≠ "java/lang/invoke/MethodHandle" ∧ q.1.cls ≠ "java/lang/invoke/VarHandle") ∧ Cond.instantiable q.1.cls q.2 ∈ tables_1 ∧ Cond.privateMethod q.1 ∈ tables_1 ∧ Cond.instanceMethod q.1 ∈ tables_1
theorem lw_p0 : lw_okq (⟨"PackDesk$Code", "isCoded", "(I)Z"⟩, 7) := ⟨⟨by decide +kernel, by decide +kernel⟩, List.mem_of_getElem? (i := 81) (by decide +kernel), List.mem_of_getElem? (i := 127) (by decide +kernel), List.mem_of_getElem? (i := 128) (by decide +kernel)⟩
theorem lw_p1 : lw_okq (⟨"PackDesk$Code", "settleSymbol", "(II)V"⟩, 7) := ⟨⟨by decide +kernel, by decide +kernel⟩, List.mem_of_getElem? (i := 81) (by decide +kernel), List.mem_of_getElem? (i := 131) (by decide +kernel), List.mem_of_getElem? (i := 132) (by decide +kernel)⟩
theorem lw_p2 : lw_okq (⟨"PackDesk", "putReady", "(II)V"⟩, 8) := ⟨⟨by decide +kernel, by decide +kernel⟩, List.mem_of_getElem? (i := 24) (by decide +kernel), List.mem_of_getElem? (i := 374) (by decide +kernel), List.mem_of_getElem? (i := 375) (by decide +kernel)⟩
theorem lw_p3 : lw_okq (⟨"PackDesk$Packer", "split", "(LPackDesk$Row;)V"⟩, 12) := ⟨⟨by decide +kernel, by decide +kernel⟩, List.mem_of_getElem? (i := 170) (by decide +kernel), List.mem_of_getElem? (i := 413) (by decide +kernel), List.mem_of_getElem? (i := 414) (by decide +kernel)⟩
theorem lw_p4 : lw_okq (⟨"PackDesk$Packer", "countBlock", "(II)V"⟩, 12) := ⟨⟨by decide +kernel, by decide +kernel⟩, List.mem_of_getElem? (i := 170) (by decide +kernel), List.mem_of_getElem? (i := 454) (by decide +kernel), List.mem_of_getElem? (i := 455) (by decide +kernel)⟩
theorem lw_p5 : lw_okq (⟨"PackDesk$Packer", "countPart", "(II)V"⟩, 12) := ⟨⟨by decide +kernel, by decide +kernel⟩, List.mem_of_getElem? (i := 170) (by decide +kernel), List.mem_of_getElem? (i := 471) (by decide +kernel), List.mem_of_getElem? (i := 472) (by decide +kernel)⟩
theorem lw_p6 : lw_okq (⟨"PackDesk$BlockBook", "has", "(I)Z"⟩, 3) := ⟨⟨by decide +kernel, by decide +kernel⟩, List.mem_of_getElem? (i := 191) (by decide +kernel), List.mem_of_getElem? (i := 490) (by decide +kernel), List.mem_of_getElem? (i := 491) (by decide +kernel)⟩
theorem lw_p7 : lw_okq (⟨"PackDesk$Packer", "weighWays", "(I)V"⟩, 12) := ⟨⟨by decide +kernel, by decide +kernel⟩, List.mem_of_getElem? (i := 170) (by decide +kernel), List.mem_of_getElem? (i := 494) (by decide +kernel), List.mem_of_getElem? (i := 495) (by decide +kernel)⟩
theorem lw_p8 : lw_okq (⟨"PackDesk$LengthMaker", "gather", "([II)I"⟩, 4) := ⟨⟨by decide +kernel, by decide +kernel⟩, List.mem_of_getElem? (i := 55) (by decide +kernel), List.mem_of_getElem? (i := 504) (by decide +kernel), List.mem_of_getElem? (i := 505) (by decide +kernel)⟩
theorem lw_p9 : lw_okq (⟨"PackDesk$LengthMaker", "sortByGap", "(II)V"⟩, 4) := ⟨⟨by decide +kernel, by decide +kernel⟩, List.mem_of_getElem? (i := 55) (by decide +kernel), List.mem_of_getElem? (i := 510) (by decide +kernel), List.mem_of_getElem? (i := 511) (by decide +kernel)⟩
theorem lw_p10 : lw_okq (⟨"PackDesk$LengthMaker", "lengthen", "([II)V"⟩, 4) := ⟨⟨by decide +kernel, by decide +kernel⟩, List.mem_of_getElem? (i := 55) (by decide +kernel), List.mem_of_getElem? (i := 514) (by decide +kernel), List.mem_of_getElem? (i := 515) (by decide +kernel)⟩
theorem lw_p11 : lw_okq (⟨"PackDesk$LengthMaker", "mergeRounds", "(II)V"⟩, 4) := ⟨⟨by decide +kernel, by decide +kernel⟩, List.mem_of_getElem? (i := 55) (by decide +kernel), List.mem_of_getElem? (i := 518) (by decide +kernel), List.mem_of_getElem? (i := 519) (by decide +kernel)⟩
theorem lw_p12 : lw_okq (⟨"PackDesk$LengthMaker", "mergeRound", "(III)I"⟩, 4) := ⟨⟨by decide +kernel, by decide +kernel⟩, List.mem_of_getElem? (i := 55) (by decide +kernel), List.mem_of_getElem? (i := 522) (by decide +kernel), List.mem_of_getElem? (i := 523) (by decide +kernel)⟩
theorem lw_p13 : lw_okq (⟨"PackDesk$LengthMaker", "countDown", "(II[I)V"⟩, 4) := ⟨⟨by decide +kernel, by decide +kernel⟩, List.mem_of_getElem? (i := 55) (by decide +kernel), List.mem_of_getElem? (i := 526) (by decide +kernel), List.mem_of_getElem? (i := 527) (by decide +kernel)⟩
theorem lw_p14 : lw_okq (⟨"PackDesk$CodeHead", "tellRow", "(I)V"⟩, 8) := ⟨⟨by decide +kernel, by decide +kernel⟩, List.mem_of_getElem? (i := 226) (by decide +kernel), List.mem_of_getElem? (i := 544) (by decide +kernel), List.mem_of_getElem? (i := 545) (by decide +kernel)⟩
theorem lw_p15 : lw_okq (⟨"PackDesk$CodeHead", "tellAt", "(II)I"⟩, 8) := ⟨⟨by decide +kernel, by decide +kernel⟩, List.mem_of_getElem? (i := 226) (by decide +kernel), List.mem_of_getElem? (i := 549) (by decide +kernel), List.mem_of_getElem? (i := 550) (by decide +kernel)⟩
def lw_privs_1 : List (MethodName × Nat) := [(⟨"PackDesk$Code", "isCoded", "(I)Z"⟩, 7), (⟨"PackDesk$Code", "settleSymbol", "(II)V"⟩, 7), (⟨"PackDesk", "putReady", "(II)V"⟩, 8), (⟨"PackDesk$Packer", "split", "(LPackDesk$Row;)V"⟩, 12), (⟨"PackDesk$Packer", "countBlock", "(II)V"⟩, 12), (⟨"PackDesk$Packer", "countPart", "(II)V"⟩, 12), (⟨"PackDesk$BlockBook", "has", "(I)Z"⟩, 3), (⟨"PackDesk$Packer", "weighWays", "(I)V"⟩, 12), (⟨"PackDesk$LengthMaker", "gather", "([II)I"⟩, 4), (⟨"PackDesk$LengthMaker", "sortByGap", "(II)V"⟩, 4), (⟨"PackDesk$LengthMaker", "lengthen", "([II)V"⟩, 4), (⟨"PackDesk$LengthMaker", "mergeRounds", "(II)V"⟩, 4), (⟨"PackDesk$LengthMaker", "mergeRound", "(III)I"⟩, 4), (⟨"PackDesk$LengthMaker", "countDown", "(II[I)V"⟩, 4), (⟨"PackDesk$CodeHead", "tellRow", "(I)V"⟩, 8), (⟨"PackDesk$CodeHead", "tellAt", "(II)I"⟩, 8)]
theorem lw_r1 : ∀ q ∈ lw_privs_1, lw_okq q := List.forall_mem_cons.mpr ⟨lw_p0, List.forall_mem_cons.mpr ⟨lw_p1, List.forall_mem_cons.mpr ⟨lw_p2, List.forall_mem_cons.mpr ⟨lw_p3, List.forall_mem_cons.mpr ⟨lw_p4, List.forall_mem_cons.mpr ⟨lw_p5, List.forall_mem_cons.mpr ⟨lw_p6, List.forall_mem_cons.mpr ⟨lw_p7, List.forall_mem_cons.mpr ⟨lw_p8, List.forall_mem_cons.mpr ⟨lw_p9, List.forall_mem_cons.mpr ⟨lw_p10, List.forall_mem_cons.mpr ⟨lw_p11, List.forall_mem_cons.mpr ⟨lw_p12, List.forall_mem_cons.mpr ⟨lw_p13, List.forall_mem_cons.mpr ⟨lw_p14, List.forall_mem_cons.mpr ⟨lw_p15, fun _ h => absurd h List.not_mem_nil⟩⟩⟩⟩⟩⟩⟩⟩⟩⟩⟩⟩⟩⟩⟩⟩
theorem lw_p16 : lw_okq (⟨"PackDesk$CodeHead", "sameFrom", "(IIII)I"⟩, 8) := ⟨⟨by decide +kernel, by decide +kernel⟩, List.mem_of_getElem? (i := 226) (by decide +kernel), List.mem_of_getElem? (i := 553) (by decide +kernel), List.mem_of_getElem? (i := 554) (by decide +kernel)⟩
theorem lw_p17 : lw_okq (⟨"PackDesk$CodeHead", "addSymbol", "(II)V"⟩, 8) := ⟨⟨by decide +kernel, by decide +kernel⟩, List.mem_of_getElem? (i := 226) (by decide +kernel), List.mem_of_getElem? (i := 559) (by decide +kernel), List.mem_of_getElem? (i := 560) (by decide +kernel)⟩
theorem lw_p18 : lw_okq (⟨"PackDesk$CodeHead", "extraBits", "()I"⟩, 8) := ⟨⟨by decide +kernel, by decide +kernel⟩, List.mem_of_getElem? (i := 226) (by decide +kernel), List.mem_of_getElem? (i := 570) (by decide +kernel), List.mem_of_getElem? (i := 571) (by decide +kernel)⟩
theorem lw_p19 : lw_okq (⟨"PackDesk$Packer", "writeBlock", "(IIILPackDesk$Row;I)V"⟩, 12) := ⟨⟨by decide +kernel, by decide +kernel⟩, List.mem_of_getElem? (i := 170) (by decide +kernel), List.mem_of_getElem? (i := 589) (by decide +kernel), List.mem_of_getElem? (i := 590) (by decide +kernel)⟩
theorem lw_p20 : lw_okq (⟨"PackDesk$Packer", "writeStored", "(LPackDesk$Row;I)V"⟩, 12) := ⟨⟨by decide +kernel, by decide +kernel⟩, List.mem_of_getElem? (i := 170) (by decide +kernel), List.mem_of_getElem? (i := 597) (by decide +kernel), List.mem_of_getElem? (i := 598) (by decide +kernel)⟩
theorem lw_p21 : lw_okq (⟨"PackDesk$Packer", "writeParts", "(IILPackDesk$Code;LPackDesk$Code;)V"⟩, 12) := ⟨⟨by decide +kernel, by decide +kernel⟩, List.mem_of_getElem? (i := 170) (by decide +kernel), List.mem_of_getElem? (i := 609) (by decide +kernel), List.mem_of_getElem? (i := 610) (by decide +kernel)⟩
theorem lw_p22 : lw_okq (⟨"java/lang/Throwable", "fillInStackTrace", "(I)Ljava/lang/Throwable;"⟩, 6) := ⟨⟨by decide +kernel, by decide +kernel⟩, List.mem_of_getElem? (i := 731) (by decide +kernel), List.mem_of_getElem? (i := 729) (by decide +kernel), List.mem_of_getElem? (i := 730) (by decide +kernel)⟩
theorem lw_p23 : lw_okq (⟨"PackDesk$Unpacker", "takeBits", "(LPackDesk$Row;I)I"⟩, 7) := ⟨⟨by decide +kernel, by decide +kernel⟩, List.mem_of_getElem? (i := 313) (by decide +kernel), List.mem_of_getElem? (i := 778) (by decide +kernel), List.mem_of_getElem? (i := 779) (by decide +kernel)⟩
theorem lw_p24 : lw_okq (⟨"PackDesk$Unpacker", "fail", "(I)V"⟩, 7) := ⟨⟨by decide +kernel, by decide +kernel⟩, List.mem_of_getElem? (i := 313) (by decide +kernel), List.mem_of_getElem? (i := 783) (by decide +kernel), List.mem_of_getElem? (i := 784) (by decide +kernel)⟩
theorem lw_p25 : lw_okq (⟨"PackDesk$Unpacker", "readStored", "(LPackDesk$Row;)V"⟩, 7) := ⟨⟨by decide +kernel, by decide +kernel⟩, List.mem_of_getElem? (i := 313) (by decide +kernel), List.mem_of_getElem? (i := 803) (by decide +kernel), List.mem_of_getElem? (i := 804) (by decide +kernel)⟩
theorem lw_p26 : lw_okq (⟨"PackDesk$Unpacker", "putByte", "(I)V"⟩, 7) := ⟨⟨by decide +kernel, by decide +kernel⟩, List.mem_of_getElem? (i := 313) (by decide +kernel), List.mem_of_getElem? (i := 808) (by decide +kernel), List.mem_of_getElem? (i := 809) (by decide +kernel)⟩
theorem lw_p27 : lw_okq (⟨"PackDesk$Unpacker", "readParts", "(LPackDesk$Row;LPackDesk$Code;LPackDesk$Code;)V"⟩, 7) := ⟨⟨by decide +kernel, by decide +kernel⟩, List.mem_of_getElem? (i := 313) (by decide +kernel), List.mem_of_getElem? (i := 813) (by decide +kernel), List.mem_of_getElem? (i := 814) (by decide +kernel)⟩
theorem lw_p28 : lw_okq (⟨"PackDesk$Unpacker", "takeSymbol", "(LPackDesk$Row;LPackDesk$Code;)I"⟩, 7) := ⟨⟨by decide +kernel, by decide +kernel⟩, List.mem_of_getElem? (i := 313) (by decide +kernel), List.mem_of_getElem? (i := 818) (by decide +kernel), List.mem_of_getElem? (i := 819) (by decide +kernel)⟩
theorem lw_p29 : lw_okq (⟨"PackDesk$Unpacker", "readMatch", "(LPackDesk$Row;ILPackDesk$Code;)V"⟩, 7) := ⟨⟨by decide +kernel, by decide +kernel⟩, List.mem_of_getElem? (i := 313) (by decide +kernel), List.mem_of_getElem? (i := 822) (by decide +kernel), List.mem_of_getElem? (i := 823) (by decide +kernel)⟩
theorem lw_p30 : lw_okq (⟨"PackDesk$Unpacker", "readHead", "(LPackDesk$Row;)V"⟩, 7) := ⟨⟨by decide +kernel, by decide +kernel⟩, List.mem_of_getElem? (i := 313) (by decide +kernel), List.mem_of_getElem? (i := 830) (by decide +kernel), List.mem_of_getElem? (i := 831) (by decide +kernel)⟩
theorem lw_p31 : lw_okq (⟨"PackDesk$Unpacker", "readAlphabet", "(LPackDesk$Row;I)V"⟩, 7) := ⟨⟨by decide +kernel, by decide +kernel⟩, List.mem_of_getElem? (i := 313) (by decide +kernel), List.mem_of_getElem? (i := 834) (by decide +kernel), List.mem_of_getElem? (i := 835) (by decide +kernel)⟩
def lw_privs_2 : List (MethodName × Nat) := [(⟨"PackDesk$CodeHead", "sameFrom", "(IIII)I"⟩, 8), (⟨"PackDesk$CodeHead", "addSymbol", "(II)V"⟩, 8), (⟨"PackDesk$CodeHead", "extraBits", "()I"⟩, 8), (⟨"PackDesk$Packer", "writeBlock", "(IIILPackDesk$Row;I)V"⟩, 12), (⟨"PackDesk$Packer", "writeStored", "(LPackDesk$Row;I)V"⟩, 12), (⟨"PackDesk$Packer", "writeParts", "(IILPackDesk$Code;LPackDesk$Code;)V"⟩, 12), (⟨"java/lang/Throwable", "fillInStackTrace", "(I)Ljava/lang/Throwable;"⟩, 6), (⟨"PackDesk$Unpacker", "takeBits", "(LPackDesk$Row;I)I"⟩, 7), (⟨"PackDesk$Unpacker", "fail", "(I)V"⟩, 7), (⟨"PackDesk$Unpacker", "readStored", "(LPackDesk$Row;)V"⟩, 7), (⟨"PackDesk$Unpacker", "putByte", "(I)V"⟩, 7), (⟨"PackDesk$Unpacker", "readParts", "(LPackDesk$Row;LPackDesk$Code;LPackDesk$Code;)V"⟩, 7), (⟨"PackDesk$Unpacker", "takeSymbol", "(LPackDesk$Row;LPackDesk$Code;)I"⟩, 7), (⟨"PackDesk$Unpacker", "readMatch", "(LPackDesk$Row;ILPackDesk$Code;)V"⟩, 7), (⟨"PackDesk$Unpacker", "readHead", "(LPackDesk$Row;)V"⟩, 7), (⟨"PackDesk$Unpacker", "readAlphabet", "(LPackDesk$Row;I)V"⟩, 7)]
theorem lw_r2 : ∀ q ∈ lw_privs_2, lw_okq q := List.forall_mem_cons.mpr ⟨lw_p16, List.forall_mem_cons.mpr ⟨lw_p17, List.forall_mem_cons.mpr ⟨lw_p18, List.forall_mem_cons.mpr ⟨lw_p19, List.forall_mem_cons.mpr ⟨lw_p20, List.forall_mem_cons.mpr ⟨lw_p21, List.forall_mem_cons.mpr ⟨lw_p22, List.forall_mem_cons.mpr ⟨lw_p23, List.forall_mem_cons.mpr ⟨lw_p24, List.forall_mem_cons.mpr ⟨lw_p25, List.forall_mem_cons.mpr ⟨lw_p26, List.forall_mem_cons.mpr ⟨lw_p27, List.forall_mem_cons.mpr ⟨lw_p28, List.forall_mem_cons.mpr ⟨lw_p29, List.forall_mem_cons.mpr ⟨lw_p30, List.forall_mem_cons.mpr ⟨lw_p31, fun _ h => absurd h List.not_mem_nil⟩⟩⟩⟩⟩⟩⟩⟩⟩⟩⟩⟩⟩⟩⟩⟩
theorem lw_p32 : lw_okq (⟨"PackDesk$Unpacker", "readRow", "(LPackDesk$Row;I)V"⟩, 7) := ⟨⟨by decide +kernel, by decide +kernel⟩, List.mem_of_getElem? (i := 313) (by decide +kernel), List.mem_of_getElem? (i := 845) (by decide +kernel), List.mem_of_getElem? (i := 846) (by decide +kernel)⟩
theorem lw_p33 : lw_okq (⟨"PackDesk", "weighedSymbols", "()I"⟩, 8) := ⟨⟨by decide +kernel, by decide +kernel⟩, List.mem_of_getElem? (i := 24) (by decide +kernel), List.mem_of_getElem? (i := 895) (by decide +kernel), List.mem_of_getElem? (i := 896) (by decide +kernel)⟩
theorem lw_p34 : lw_okq (⟨"PackDeskModel", "findParts", "()V"⟩, 70) := ⟨⟨by decide +kernel, by decide +kernel⟩, List.mem_of_getElem? (i := 902) (by decide +kernel), List.mem_of_getElem? (i := 1154) (by decide +kernel), List.mem_of_getElem? (i := 1155) (by decide +kernel)⟩
theorem lw_p35 : lw_okq (⟨"PackDeskModel", "longest", "(I)V"⟩, 70) := ⟨⟨by decide +kernel, by decide +kernel⟩, List.mem_of_getElem? (i := 902) (by decide +kernel), List.mem_of_getElem? (i := 1158) (by decide +kernel), List.mem_of_getElem? (i := 1159) (by decide +kernel)⟩
theorem lw_p36 : lw_okq (⟨"PackDeskModel", "writeBlock", "(IIIIZ)V"⟩, 70) := ⟨⟨by decide +kernel, by decide +kernel⟩, List.mem_of_getElem? (i := 902) (by decide +kernel), List.mem_of_getElem? (i := 1162) (by decide +kernel), List.mem_of_getElem? (i := 1163) (by decide +kernel)⟩
theorem lw_p37 : lw_okq (⟨"PackDeskModel", "lengthCode", "(I)I"⟩, 70) := ⟨⟨by decide +kernel, by decide +kernel⟩, List.mem_of_getElem? (i := 902) (by decide +kernel), List.mem_of_getElem? (i := 1166) (by decide +kernel), List.mem_of_getElem? (i := 1167) (by decide +kernel)⟩
theorem lw_p38 : lw_okq (⟨"PackDeskModel", "backCode", "(I)I"⟩, 70) := ⟨⟨by decide +kernel, by decide +kernel⟩, List.mem_of_getElem? (i := 902) (by decide +kernel), List.mem_of_getElem? (i := 1170) (by decide +kernel), List.mem_of_getElem? (i := 1171) (by decide +kernel)⟩
theorem lw_p39 : lw_okq (⟨"PackDeskModel", "lengths", "([III[I)V"⟩, 70) := ⟨⟨by decide +kernel, by decide +kernel⟩, List.mem_of_getElem? (i := 902) (by decide +kernel), List.mem_of_getElem? (i := 1174) (by decide +kernel), List.mem_of_getElem? (i := 1175) (by decide +kernel)⟩
theorem lw_p40 : lw_okq (⟨"PackDeskModel", "putPackage", "(IIIIII)V"⟩, 70) := ⟨⟨by decide +kernel, by decide +kernel⟩, List.mem_of_getElem? (i := 902) (by decide +kernel), List.mem_of_getElem? (i := 1178) (by decide +kernel), List.mem_of_getElem? (i := 1179) (by decide +kernel)⟩
theorem lw_p41 : lw_okq (⟨"PackDeskModel", "costOf", "([I[I)J"⟩, 70) := ⟨⟨by decide +kernel, by decide +kernel⟩, List.mem_of_getElem? (i := 902) (by decide +kernel), List.mem_of_getElem? (i := 1182) (by decide +kernel), List.mem_of_getElem? (i := 1183) (by decide +kernel)⟩
theorem lw_p42 : lw_okq (⟨"PackDeskModel", "tellLengths", "()V"⟩, 70) := ⟨⟨by decide +kernel, by decide +kernel⟩, List.mem_of_getElem? (i := 902) (by decide +kernel), List.mem_of_getElem? (i := 1186) (by decide +kernel), List.mem_of_getElem? (i := 1187) (by decide +kernel)⟩
theorem lw_p43 : lw_okq (⟨"PackDeskModel", "tellRow", "(II)V"⟩, 70) := ⟨⟨by decide +kernel, by decide +kernel⟩, List.mem_of_getElem? (i := 902) (by decide +kernel), List.mem_of_getElem? (i := 1190) (by decide +kernel), List.mem_of_getElem? (i := 1191) (by decide +kernel)⟩
theorem lw_p44 : lw_okq (⟨"PackDeskModel", "writeBits", "(II)V"⟩, 70) := ⟨⟨by decide +kernel, by decide +kernel⟩, List.mem_of_getElem? (i := 902) (by decide +kernel), List.mem_of_getElem? (i := 1201) (by decide +kernel), List.mem_of_getElem? (i := 1202) (by decide +kernel)⟩
theorem lw_p45 : lw_okq (⟨"PackDeskModel", "codes", "([II[I)V"⟩, 70) := ⟨⟨by decide +kernel, by decide +kernel⟩, List.mem_of_getElem? (i := 902) (by decide +kernel), List.mem_of_getElem? (i := 1205) (by decide +kernel), List.mem_of_getElem? (i := 1206) (by decide +kernel)⟩
theorem lw_p46 : lw_okq (⟨"PackDeskModel", "writeParts", "(III[I[I[I[I)V"⟩, 70) := ⟨⟨by decide +kernel, by decide +kernel⟩, List.mem_of_getElem? (i := 902) (by decide +kernel), List.mem_of_getElem? (i := 1209) (by decide +kernel), List.mem_of_getElem? (i := 1210) (by decide +kernel)⟩
theorem lw_p47 : lw_okq (⟨"PackDeskModel", "takeBits", "(I)I"⟩, 70) := ⟨⟨by decide +kernel, by decide +kernel⟩, List.mem_of_getElem? (i := 902) (by decide +kernel), List.mem_of_getElem? (i := 1237) (by decide +kernel), List.mem_of_getElem? (i := 1238) (by decide +kernel)⟩
def lw_privs_3 : List (MethodName × Nat) := [(⟨"PackDesk$Unpacker", "readRow", "(LPackDesk$Row;I)V"⟩, 7), (⟨"PackDesk", "weighedSymbols", "()I"⟩, 8), (⟨"PackDeskModel", "findParts", "()V"⟩, 70), (⟨"PackDeskModel", "longest", "(I)V"⟩, 70), (⟨"PackDeskModel", "writeBlock", "(IIIIZ)V"⟩, 70), (⟨"PackDeskModel", "lengthCode", "(I)I"⟩, 70), (⟨"PackDeskModel", "backCode", "(I)I"⟩, 70), (⟨"PackDeskModel", "lengths", "([III[I)V"⟩, 70), (⟨"PackDeskModel", "putPackage", "(IIIIII)V"⟩, 70), (⟨"PackDeskModel", "costOf", "([I[I)J"⟩, 70), (⟨"PackDeskModel", "tellLengths", "()V"⟩, 70), (⟨"PackDeskModel", "tellRow", "(II)V"⟩, 70), (⟨"PackDeskModel", "writeBits", "(II)V"⟩, 70), (⟨"PackDeskModel", "codes", "([II[I)V"⟩, 70), (⟨"PackDeskModel", "writeParts", "(III[I[I[I[I)V"⟩, 70), (⟨"PackDeskModel", "takeBits", "(I)I"⟩, 70)]
theorem lw_r3 : ∀ q ∈ lw_privs_3, lw_okq q := List.forall_mem_cons.mpr ⟨lw_p32, List.forall_mem_cons.mpr ⟨lw_p33, List.forall_mem_cons.mpr ⟨lw_p34, List.forall_mem_cons.mpr ⟨lw_p35, List.forall_mem_cons.mpr ⟨lw_p36, List.forall_mem_cons.mpr ⟨lw_p37, List.forall_mem_cons.mpr ⟨lw_p38, List.forall_mem_cons.mpr ⟨lw_p39, List.forall_mem_cons.mpr ⟨lw_p40, List.forall_mem_cons.mpr ⟨lw_p41, List.forall_mem_cons.mpr ⟨lw_p42, List.forall_mem_cons.mpr ⟨lw_p43, List.forall_mem_cons.mpr ⟨lw_p44, List.forall_mem_cons.mpr ⟨lw_p45, List.forall_mem_cons.mpr ⟨lw_p46, List.forall_mem_cons.mpr ⟨lw_p47, fun _ h => absurd h List.not_mem_nil⟩⟩⟩⟩⟩⟩⟩⟩⟩⟩⟩⟩⟩⟩⟩⟩
theorem lw_p48 : lw_okq (⟨"PackDeskModel", "wrong", "(I)V"⟩, 70) := ⟨⟨by decide +kernel, by decide +kernel⟩, List.mem_of_getElem? (i := 902) (by decide +kernel), List.mem_of_getElem? (i := 1241) (by decide +kernel), List.mem_of_getElem? (i := 1242) (by decide +kernel)⟩
theorem lw_p49 : lw_okq (⟨"PackDeskModel", "unpackStored", "()V"⟩, 70) := ⟨⟨by decide +kernel, by decide +kernel⟩, List.mem_of_getElem? (i := 902) (by decide +kernel), List.mem_of_getElem? (i := 1245) (by decide +kernel), List.mem_of_getElem? (i := 1246) (by decide +kernel)⟩
theorem lw_p50 : lw_okq (⟨"PackDeskModel", "give", "(I)V"⟩, 70) := ⟨⟨by decide +kernel, by decide +kernel⟩, List.mem_of_getElem? (i := 902) (by decide +kernel), List.mem_of_getElem? (i := 1250) (by decide +kernel), List.mem_of_getElem? (i := 1251) (by decide +kernel)⟩
theorem lw_p51 : lw_okq (⟨"PackDeskModel", "readLengths", "()V"⟩, 70) := ⟨⟨by decide +kernel, by decide +kernel⟩, List.mem_of_getElem? (i := 902) (by decide +kernel), List.mem_of_getElem? (i := 1254) (by decide +kernel), List.mem_of_getElem? (i := 1255) (by decide +kernel)⟩
theorem lw_p52 : lw_okq (⟨"PackDeskModel", "takeSymbol", "([II)I"⟩, 70) := ⟨⟨by decide +kernel, by decide +kernel⟩, List.mem_of_getElem? (i := 902) (by decide +kernel), List.mem_of_getElem? (i := 1262) (by decide +kernel), List.mem_of_getElem? (i := 1263) (by decide +kernel)⟩
theorem lw_p53 : lw_okq (⟨"PackDeskModel", "unpackCodes", "()V"⟩, 70) := ⟨⟨by decide +kernel, by decide +kernel⟩, List.mem_of_getElem? (i := 902) (by decide +kernel), List.mem_of_getElem? (i := 1269) (by decide +kernel), List.mem_of_getElem? (i := 1270) (by decide +kernel)⟩
def lw_privs_4 : List (MethodName × Nat) := [(⟨"PackDeskModel", "wrong", "(I)V"⟩, 70), (⟨"PackDeskModel", "unpackStored", "()V"⟩, 70), (⟨"PackDeskModel", "give", "(I)V"⟩, 70), (⟨"PackDeskModel", "readLengths", "()V"⟩, 70), (⟨"PackDeskModel", "takeSymbol", "([II)I"⟩, 70), (⟨"PackDeskModel", "unpackCodes", "()V"⟩, 70)]
theorem lw_r4 : ∀ q ∈ lw_privs_4, lw_okq q := List.forall_mem_cons.mpr ⟨lw_p48, List.forall_mem_cons.mpr ⟨lw_p49, List.forall_mem_cons.mpr ⟨lw_p50, List.forall_mem_cons.mpr ⟨lw_p51, List.forall_mem_cons.mpr ⟨lw_p52, List.forall_mem_cons.mpr ⟨lw_p53, fun _ h => absurd h List.not_mem_nil⟩⟩⟩⟩⟩⟩
def lw_privs : List (MethodName × Nat) := lw_privs_1 ++ (lw_privs_2 ++ (lw_privs_3 ++ (lw_privs_4)))
def lw_tbl : List Cond := k2_sels lw_privs ++ tables_1
theorem lw_privs_ok : ∀ q ∈ lw_privs, lw_okq q := by
  show ∀ q ∈ lw_privs_1 ++ (lw_privs_2 ++ (lw_privs_3 ++ (lw_privs_4))), lw_okq q
  exact List.forall_mem_append.mpr ⟨lw_r1, List.forall_mem_append.mpr ⟨lw_r2, List.forall_mem_append.mpr ⟨lw_r3, lw_r4⟩⟩⟩
end
section
/-! A PURE MACHINE for the few instructions that the class, the law and the reference use. Heap: cells made, slots used, tag, length, ints, longs, references (0: null), each by the cell's number (1, 2, ..) and place. -/
abbrev ez_H : Type := Nat × Nat × (Nat → Nat) × (Nat → Nat) × (Nat → Nat → Int32) × (Nat → Nat → Int64) × (Nat → Nat → Nat)
def ez_n (h : ez_H) : Nat := h.1
def ez_u (h : ez_H) : Nat := h.2.1
def ez_t (h : ez_H) : Nat → Nat := h.2.2.1
def ez_l (h : ez_H) : Nat → Nat := h.2.2.2.1
def ez_I (h : ez_H) : Nat → Nat → Int32 := h.2.2.2.2.1
def ez_L (h : ez_H) : Nat → Nat → Int64 := h.2.2.2.2.2.1
def ez_R (h : ez_H) : Nat → Nat → Nat := h.2.2.2.2.2.2
def ez_up {α : Type} (f : Nat → α) (p : Nat) (v : α) : Nat → α := fun q => if q = p then v else f q
def ez_up2 {α : Type} (f : Nat → Nat → α) (p k : Nat) (v : α) : Nat → Nat → α := fun q j => if q = p then (if j = k then v else f q j) else f q j
def ez_row {α : Type} (f : Nat → Nat → α) (p : Nat) (g : Nat → α) : Nat → Nat → α := fun q => if q = p then g else f q
def ez_setI (h : ez_H) (p k : Nat) (v : Int32) : ez_H := (ez_n h, ez_u h, ez_t h, ez_l h, ez_up2 (ez_I h) p k v, ez_L h, ez_R h)
def ez_setL (h : ez_H) (p k : Nat) (v : Int64) : ez_H := (ez_n h, ez_u h, ez_t h, ez_l h, ez_I h, ez_up2 (ez_L h) p k v, ez_R h)
def ez_setR (h : ez_H) (p k : Nat) (v : Nat) : ez_H := (ez_n h, ez_u h, ez_t h, ez_l h, ez_I h, ez_L h, ez_up2 (ez_R h) p k v)
def ez_rowI (h : ez_H) (p : Nat) (g : Nat → Int32) : ez_H := (ez_n h, ez_u h, ez_t h, ez_l h, ez_row (ez_I h) p g, ez_L h, ez_R h)
/-- a new cell: all its places are nought -/
def ez_new (h : ez_H) (tag len slots : Nat) : ez_H := (ez_n h + 1, ez_u h + slots, ez_up (ez_t h) (ez_n h + 1) tag, ez_up (ez_l h) (ez_n h + 1) len, ez_row (ez_I h) (ez_n h + 1) (fun _ => 0), ez_row (ez_L h) (ez_n h + 1) (fun _ => 0), ez_row (ez_R h) (ez_n h + 1) (fun _ => 0))
/-- a cell comes that nobody looks into (an exception) -/
def ez_bump (h : ez_H) : ez_H := (ez_n h + 1, ez_u h + 6, ez_t h, ez_l h, ez_I h, ez_L h, ez_R h)
/-- how a method ends: with an answer or none, or by an exception of a class (its number) -/
abbrev ez_O : Type := Option Value ⊕ Nat
abbrev ez_Q : Type := ez_O → ez_H → Prop
/-- depth, method, pc, locals, stack, heap, what must hold at the end -/
abbrev ez_X : Type := Nat → Nat → Nat → List (Option Value) → List Value → ez_H → ez_Q → Prop
/-- an instruction as it is run: pc, the instruction, three numbers and a constant that a table gives it -/
abbrev ez_C : Type := Nat × ClassFile.Instr × Nat × Nat × Nat × Int32
/-- what needs the stack alone -/
def ez_op (i : ClassFile.Instr) (v : Int32) (st : List Value) : Option (List Value) := match i with
  | .iconst _ => some (.int v :: st)
  | .bipush _ => some (.int v :: st)
  | .sipush _ => some (.int v :: st)
  | .ldc _ => some (.int v :: st)
  | .ldc_w _ => some (.int v :: st)
  | .ldc2_w _ => some (.long v.toInt64 :: st)
  | .lconst _ => some (.long v.toInt64 :: st)
  | .i2b => match st with
    | .int x :: r => some (.int x.toInt8.toInt32 :: r)
    | _ => none
  | .iadd => match st with
    | .int y :: .int x :: r => some (.int (x + y) :: r)
    | _ => none
  | .isub => match st with
    | .int y :: .int x :: r => some (.int (x - y) :: r)
    | _ => none
  | .imul => match st with
    | .int y :: .int x :: r => some (.int (x * y) :: r)
    | _ => none
  | .iand => match st with
    | .int y :: .int x :: r => some (.int (x &&& y) :: r)
    | _ => none
  | .ior => match st with
    | .int y :: .int x :: r => some (.int (x ||| y) :: r)
    | _ => none
  | .ixor => match st with
    | .int y :: .int x :: r => some (.int (x ^^^ y) :: r)
    | _ => none
  | .ishl => match st with
    | .int y :: .int x :: r => some (.int (x <<< (y &&& 31)) :: r)
    | _ => none
  | .ishr => match st with
    | .int y :: .int x :: r => some (.int (x >>> (y &&& 31)) :: r)
    | _ => none
  | .iushr => match st with
    | .int y :: .int x :: r => some (.int ((x.toUInt32 >>> (y.toUInt32 &&& Int32.toUInt32 31)).toInt32) :: r)
    | _ => none
  | .ineg => match st with
    | .int x :: r => some (.int (-x) :: r)
    | _ => none
  | .i2l => match st with
    | .int x :: r => some (.long x.toInt64 :: r)
    | _ => none
  | .l2i => match st with
    | .long x :: r => some (.int x.toInt32 :: r)
    | _ => none
  | .ladd => match st with
    | .long y :: .long x :: r => some (.long (x + y) :: r)
    | _ => none
  | .lsub => match st with
    | .long y :: .long x :: r => some (.long (x - y) :: r)
    | _ => none
  | .lmul => match st with
    | .long y :: .long x :: r => some (.long (x * y) :: r)
    | _ => none
  | .lcmp => match st with
    | .long y :: .long x :: r => some (.int (lg_cmp x y) :: r)
    | _ => none
  | .dup => match st with
    | .int x :: r => some (.int x :: .int x :: r)
    | .ref x :: r => some (.ref x :: .ref x :: r)
    | _ => none
  | .dup2 => match st with
    | .int y :: .ref x :: r => some (.int y :: .ref x :: .int y :: .ref x :: r)
    | .int y :: .int x :: r => some (.int y :: .int x :: .int y :: .int x :: r)
    | _ => none
  | .dup_x1 => match st with
    | .int y :: .ref x :: r => some (.int y :: .ref x :: .int y :: r)
    | .int y :: .int x :: r => some (.int y :: .int x :: .int y :: r)
    | _ => none
  | .pop => match st with
    | .int _ :: r => some r
    | .ref _ :: r => some r
    | _ => none
  | _ => none
/-- what reads a local -/
def ez_ld (i : ClassFile.Instr) (ls : List (Option Value)) (st : List Value) : Option (List Value) := match i with
  | .iload k => match ls.getD k none with
    | some (.int x) => some (.int x :: st)
    | _ => none
  | .iload_n k => match ls.getD k.val none with
    | some (.int x) => some (.int x :: st)
    | _ => none
  | .lload k => match ls.getD k none with
    | some (.long x) => some (.long x :: st)
    | _ => none
  | .lload_n k => match ls.getD k.val none with
    | some (.long x) => some (.long x :: st)
    | _ => none
  | .aload k => match ls.getD k none with
    | some (.ref x) => some (.ref x :: st)
    | some (.retAddr x) => some (.retAddr x :: st)
    | _ => none
  | .aload_n k => match ls.getD k.val none with
    | some (.ref x) => some (.ref x :: st)
    | some (.retAddr x) => some (.retAddr x :: st)
    | _ => none
  | _ => none
/-- a local is set: a long ahead of it is gone -/
def ez_cut (ls : List (Option Value)) (k : Nat) : List (Option Value) := match k with
  | 0 => ls
  | j + 1 => match ls.getD j none with
    | some (.long _) => ls.set j none
    | some (.double _) => ls.set j none
    | _ => ls
/-- what sets a local -/
def ez_st (i : ClassFile.Instr) (v : Int32) (ls : List (Option Value)) (st : List Value) : Option (List (Option Value) × List Value) := match i with
  | .istore k => match st with
    | .int x :: r => some ((ez_cut ls k).set k (some (.int x)), r)
    | _ => none
  | .istore_n k => match st with
    | .int x :: r => some ((ez_cut ls k.val).set k.val (some (.int x)), r)
    | _ => none
  | .lstore k => match st with
    | .long x :: r => some (((ez_cut ls k).set k (some (.long x))).set (k + 1) none, r)
    | _ => none
  | .lstore_n k => match st with
    | .long x :: r => some (((ez_cut ls k.val).set k.val (some (.long x))).set (k.val + 1) none, r)
    | _ => none
  | .astore k => match st with
    | .ref x :: r => some ((ez_cut ls k).set k (some (.ref x)), r)
    | .retAddr x :: r => some ((ez_cut ls k).set k (some (.retAddr x)), r)
    | _ => none
  | .astore_n k => match st with
    | .ref x :: r => some ((ez_cut ls k.val).set k.val (some (.ref x)), r)
    | .retAddr x :: r => some ((ez_cut ls k.val).set k.val (some (.retAddr x)), r)
    | _ => none
  | .iinc k _ => match ls.getD k none with
    | some (.int x) => some ((ez_cut ls k).set k (some (.int (x + v))), st)
    | _ => none
  | _ => none
/-- what a branch asks -/
def ez_br (i : ClassFile.Instr) (st : List Value) : Option (Prop × List Value) := match i with
  | .ifCond c _ => match st with
    | .int x :: r => some ((match c with
      | .eq => x = 0
      | .ne => x ≠ 0
      | .lt => x < 0
      | .ge => 0 ≤ x
      | .gt => 0 < x
      | .le => x ≤ 0), r)
    | _ => none
  | .if_icmp c _ => match st with
    | .int y :: .int x :: r => some ((match c with
      | .eq => x = y
      | .ne => x ≠ y
      | .lt => x < y
      | .ge => y ≤ x
      | .gt => y < x
      | .le => x ≤ y), r)
    | _ => none
  | _ => none
/-- arguments as locals: a long takes two places -/
def ez_lay : List Value → List (Option Value)
  | [] => []
  | .long x :: r => some (.long x) :: none :: ez_lay r
  | .double x :: r => some (.double x) :: none :: ez_lay r
  | v :: r => some v :: ez_lay r
def ez_args (n : Nat) (vs : List Value) : List (Option Value) := ez_lay vs ++ List.replicate (n - (ez_lay vs).length) none
/-- the stack below a call weighs little -/
def ez_few (st : List Value) : Bool := Nat.ble ((st.map fun v => v.category).sum) 8
/-- ahead of where the run goes on -/
def ez_past (sk pc : Nat) : Bool := !(Nat.beq sk 0) && !(Nat.beq sk (pc + 1))
/-- most cells and slots of a run -/
def ez_MC : Nat := 600002
def ez_MS : Nat := 7302232
/-- a receiver is of its class -/
def ez_rcv (h : ez_H) (k : Nat) (vs : List Value) : Prop := match k with
  | 0 => True
  | k + 1 => match vs with
    | .ref p :: _ => ez_t h p = k + 1
    | _ => False
/-- a switch: its cases, then the rest -/
def ez_sw (pc : Nat) (dflt : Int) (x : Int32) (K : Nat → Prop) : List (Int × Int) → Prop
  | [] => K ((pc : Int) + dflt).toNat
  | (c, o) :: r => (x = Int32.ofInt c → K ((pc : Int) + o).toNat) ∧ (¬ x = Int32.ofInt c → ez_sw pc dflt x K r)
def ez_tab (lo : Int) : List Int → List (Int × Int)
  | [] => []
  | o :: r => (lo, o) :: ez_tab (lo + 1) r
/-- what goes on at the next instruction, if something holds -/
def ez_sm (E : Nat → Nat × (Nat → Int32)) (i : ClassFile.Instr) (a b k : Nat) (ls : List (Option Value)) (st : List Value) (h : ez_H) : Option (Prop × List Value × ez_H) := match i with
  | .getfield _ => match st with
    | .ref p :: r => (match k with
      | 0 => some (ez_t h p = a, .int (ez_I h p b) :: r, h)
      | 1 => some (ez_t h p = a, .int (ez_I h p b) :: r, h)
      | 2 => some (ez_t h p = a, .long (ez_L h p b) :: r, h)
      | 3 => some (ez_t h p = a ∧ ez_R h p b ≠ 0, .ref (ez_R h p b) :: r, h)
      | j + 4 => some (ez_t h p = a ∧ ez_R h p b = j + 1, .ref (j + 1) :: r, h))
    | _ => none
  | .putfield _ => (match k with
    | 0 => match st with
      | .int x :: .ref p :: r => some (ez_t h p = a, r, ez_setI h p b x)
      | _ => none
    | 1 => match st with
      | .int x :: .ref p :: r => some (ez_t h p = a ∧ (x = 0 ∨ x = 1), r, ez_setI h p b x)
      | _ => none
    | 2 => match st with
      | .long x :: .ref p :: r => some (ez_t h p = a, r, ez_setL h p b x)
      | _ => none
    | _ + 3 => match st with
      | .ref q :: .ref p :: r => some (ez_t h p = a ∧ q ≠ 0, r, ez_setR h p b q)
      | _ => none)
  | .getstatic _ => some (True, .retAddr a :: st, h)
  | .iaload => match st with
    | .int x :: .ref p :: r => some (ez_t h p = 1000 ∧ vp_in x (ez_l h p), .int (ez_I h p x.toNatClampNeg) :: r, h)
    | .int x :: .retAddr j :: r => some (vp_in x (E j).1, .int ((E j).2 x.toNatClampNeg) :: r, h)
    | _ => none
  | .baload => match st with
    | .int x :: .ref p :: r => some (ez_t h p = 1003 ∧ vp_in x (ez_l h p), .int (ez_I h p x.toNatClampNeg) :: r, h)
    | _ => none
  | .laload => match st with
    | .int x :: .ref p :: r => some (ez_t h p = 1002 ∧ vp_in x (ez_l h p), .long (ez_L h p x.toNatClampNeg) :: r, h)
    | _ => none
  | .iastore => match st with
    | .int y :: .int x :: .ref p :: r => some (ez_t h p = 1000 ∧ vp_in x (ez_l h p), r, ez_setI h p x.toNatClampNeg y)
    | _ => none
  | .bastore => match st with
    | .int y :: .int x :: .ref p :: r => some (ez_t h p = 1003 ∧ vp_in x (ez_l h p), r, ez_setI h p x.toNatClampNeg y.toInt8.toInt32)
    | _ => none
  | .lastore => match st with
    | .long y :: .int x :: .ref p :: r => some (ez_t h p = 1002 ∧ vp_in x (ez_l h p), r, ez_setL h p x.toNatClampNeg y)
    | _ => none
  | .arraylength => match st with
    | .ref p :: r => some (ez_t h p = 1000 ∨ ez_t h p = 1002 ∨ ez_t h p = 1003, .int (nI (ez_l h p)) :: r, h)
    | .retAddr j :: r => some (True, .int (nI (E j).1) :: r, h)
    | _ => none
  | .idiv => match st with
    | .int y :: .int x :: r => some (¬ y = 0, .int (x / y) :: r, h)
    | _ => none
  | .irem => match st with
    | .int y :: .int x :: r => some (¬ y = 0, .int (x - x / y * y) :: r, h)
    | _ => none
  | .newarray _ => match st with
    | .int x :: r => some (¬ x < 0 ∧ x.toNatClampNeg ≤ 200000 ∧ ez_n h + 1 ≤ ez_MC ∧ ez_u h + x.toNatClampNeg ≤ ez_MS, .ref (ez_n h + 1) :: r, ez_new h a x.toNatClampNeg x.toNatClampNeg)
    | _ => none
  | .new _ => some (ez_n h + 1 ≤ ez_MC ∧ ez_u h + b ≤ ez_MS, .ref (ez_n h + 1) :: st, ez_new h a 0 b)
  | .invokespecial _ => (match k with
    | 0 => match st with
      | .ref _ :: r => some (ez_few r = true, r, h)
      | _ => none
    | _ + 1 => none)
  | .invokestatic _ => (match k with
    | 0 => none
    | 1 => match st with
      | .int y :: .int x :: r => some (ez_few r = true, .int (if x < y then y else x) :: r, h)
      | _ => none
    | 2 => match st with
      | .int y :: .int x :: r => some (ez_few r = true, .int (if y < x then y else x) :: r, h)
      | _ => none
    | _ + 3 => match st with
      | .int n :: .int dp :: .ref q :: .int sp :: .ref p :: r => some (ez_few r = true ∧ (ez_t h p = 1000 ∧ ez_t h q = 1000) ∧ ¬ sp < 0 ∧ ¬ dp < 0 ∧ ¬ n < 0 ∧ sp.toNatClampNeg + n.toNatClampNeg ≤ ez_l h p ∧ dp.toNatClampNeg + n.toNatClampNeg ≤ ez_l h q, r, ez_rowI h q (va_cpy (ez_I h p) (ez_I h q) sp.toNatClampNeg dp.toNatClampNeg n.toNatClampNeg))
      | _ => none)
  | _ => none
/-- an end -/
def ez_rt (i : ClassFile.Instr) (a : Nat) (st : List Value) : Option (Prop × Option Value) := match i with
  | .ireturn => match st with
    | [.int x] => some ((match a with
      | 0 => True
      | _ + 1 => x = 0 ∨ x = 1), some (.int x))
    | _ => none
  | .lreturn => match st with
    | [.long x] => some (True, some (.long x))
    | _ => none
  | .return_ => match st with
    | [] => some (True, none)
    | _ => none
  | _ => none
/-- where a jump goes -/
def ez_jp (i : ClassFile.Instr) (pc a : Nat) (st : List Value) : Option ((Nat → Prop) → Prop) × List Value := match i with
  | .goto _ => (some (fun K => K a), st)
  | .tableswitch df lo _ os => match st with
    | .int x :: r => (some (fun K => ez_sw pc df x K (ez_tab lo os.toList)), r)
    | _ => (none, st)
  | .lookupswitch df ps => match st with
    | .int x :: r => (some (fun K => ez_sw pc df x K ps.toList), r)
    | _ => (none, st)
  | _ => (none, st)
/-- a call of a method of the tables -/
def ez_cl (i : ClassFile.Instr) (k : Nat) : Bool := match i with
  | .invokevirtual _ => true
  | .invokespecial _ => (match k with
    | 0 => false
    | _ + 1 => true)
  | .invokestatic _ => (match k with
    | 0 => true
    | _ + 1 => false)
  | _ => false
/-- WHAT MUST HOLD AHEAD OF AN INSTRUCTION. X: what must hold ahead of a call or a jump back; E: arrays that stand outside; ml: how many locals a method has; hn: where an exception of a call at a place is caught (where the run goes on behind the handler's first instruction, the local that it sets). -/
def ez_gw (X : ez_X) (E : Nat → Nat × (Nat → Int32)) (ml : Nat → Nat) (hn : Nat → Nat → Option (Nat × Nat)) (mi d : Nat) : List ez_C → Nat → List (Option Value) → List Value → ez_H → ez_Q → Prop
  | [], _, _, _, _, _ => False
  | (pc, i, a, b, k, v) :: cs, sk, ls, st, h, Q => match ez_past sk pc with
    | true => ez_gw X E ml hn mi d cs sk ls st h Q
    | false => match ez_op i v st with
      | some st' => ez_gw X E ml hn mi d cs 0 ls st' h Q
      | none => match ez_ld i ls st with
        | some st' => ez_gw X E ml hn mi d cs 0 ls st' h Q
        | none => match ez_st i v ls st with
          | some (ls', st') => ez_gw X E ml hn mi d cs 0 ls' st' h Q
          | none => match ez_br i st with
            | some (c, st') => (c → (match Nat.blt pc a with
                | true => ez_gw X E ml hn mi d cs (a + 1) ls st' h Q
                | false => X d mi a ls st' h Q)) ∧ (¬ c → ez_gw X E ml hn mi d cs 0 ls st' h Q)
            | none => match ez_sm E i a b k ls st h with
              | some (c, st', h') => c ∧ ez_gw X E ml hn mi d cs 0 ls st' h' Q
              | none => match ez_rt i a st with
                | some (c, r) => c ∧ Q (.inl r) h
                | none => match ez_jp i pc a st with
                  | (some J, st') => J (fun t => match Nat.blt pc t with
                    | true => ez_gw X E ml hn mi d cs (t + 1) ls st' h Q
                    | false => X d mi t ls st' h Q)
                  | (none, _) => match ez_cl i k with
                    | true => (match d with
                      | 0 => False
                      | d' + 1 => (ez_few (st.drop b) = true ∧ Nat.ble (ez_lay (st.take b).reverse).length (ml a) = true ∧ Nat.beq (st.take b).reverse.length b = true ∧ ez_rcv h k (st.take b).reverse) ∧ X d' a 0 (ez_args (ml a) (st.take b).reverse) [] h (fun o h' => match o with
                        | .inl none => ez_gw X E ml hn mi d cs 0 ls (st.drop b) h' Q
                        | .inl (some w) => ez_gw X E ml hn mi d cs 0 ls (w :: st.drop b) h' Q
                        | .inr x => match hn pc x with
                          | none => Q (.inr x) h'
                          | some (t, j) => (match t with
                            | 0 => False
                            | t' + 1 => ez_gw X E ml hn mi d cs (t' + 2) ((ez_cut ls j).set j none) [] h' Q)))
                    | false => match i with
                      | .athrow => (match st with
                        | [] => (ez_n h + 1 ≤ ez_MC ∧ ez_u h + 6 ≤ ez_MS) ∧ Q (.inr a) (ez_bump h)
                        | _ :: _ => False)
                      | _ => False
end
section
def ez_Mono (X : ez_X) : Prop := ∀ (d mi pc : Nat) (ls : List (Option Value)) (st : List Value) (h : ez_H) (Q Q' : ez_Q), (∀ o h', Q o h' → Q' o h') → X d mi pc ls st h Q → X d mi pc ls st h Q'
theorem ez_sw_mono {pc : Nat} {df : Int} {x : Int32} {K K' : Nat → Prop} (hK : ∀ t, K t → K' t) : ∀ l : List (Int × Int), ez_sw pc df x K l → ez_sw pc df x K' l
  | [], H => hK _ H
  | (_, _) :: r, H => ⟨fun q => hK _ (H.1 q), fun q => ez_sw_mono hK r (H.2 q)⟩
theorem ez_jp_mono {i : ClassFile.Instr} {pc a : Nat} {st st' : List Value} {J : (Nat → Prop) → Prop} (hJ : ez_jp i pc a st = (some J, st')) {K K' : Nat → Prop} (hK : ∀ t, K t → K' t) (H : J K) : J K' := by
  unfold ez_jp at hJ
  split at hJ
  · cases hJ; exact hK _ H
  · split at hJ
    · cases hJ; exact ez_sw_mono hK _ H
    · cases hJ
  · split at hJ
    · cases hJ; exact ez_sw_mono hK _ H
    · cases hJ
  · cases hJ
set_option maxHeartbeats 1000000 in
theorem ez_gw_mono {X Y : ez_X} (hXY : ∀ (d mi pc : Nat) (ls : List (Option Value)) (st : List Value) (h : ez_H) (Q : ez_Q), X d mi pc ls st h Q → Y d mi pc ls st h Q) (hY : ez_Mono Y) {E : Nat → Nat × (Nat → Int32)} {ml : Nat → Nat} {hn : Nat → Nat → Option (Nat × Nat)} {mi d : Nat} :
    ∀ (cs : List ez_C) (sk : Nat) (ls : List (Option Value)) (st : List Value) (h : ez_H) (Q Q' : ez_Q), (∀ o h', Q o h' → Q' o h') → ez_gw X E ml hn mi d cs sk ls st h Q → ez_gw Y E ml hn mi d cs sk ls st h Q' := by
  intro cs
  induction cs with
  | nil => intro sk ls st h Q Q' hQ H; exact H
  | cons e cs ih =>
    obtain ⟨pc, i, a, b, k, v⟩ := e
    intro sk ls st h Q Q' hQ H
    have hj : ∀ t st', (match Nat.blt pc t with
        | true => ez_gw X E ml hn mi d cs (t + 1) ls st' h Q
        | false => X d mi t ls st' h Q) → (match Nat.blt pc t with
        | true => ez_gw Y E ml hn mi d cs (t + 1) ls st' h Q'
        | false => Y d mi t ls st' h Q') := by
      intro t st' q
      cases hb : Nat.blt pc t with
      | true => simp only [hb] at q ⊢; exact ih _ _ _ _ _ _ hQ q
      | false => simp only [hb] at q ⊢; exact hY _ _ _ _ _ _ _ _ hQ (hXY _ _ _ _ _ _ _ q)
    unfold ez_gw at H ⊢
    cases h1 : ez_past sk pc with
    | true => simp only [h1] at H ⊢; exact ih _ _ _ _ _ _ hQ H
    | false =>
      simp only [h1] at H ⊢
      cases h2 : ez_op i v st with
      | some st' => simp only [h2] at H ⊢; exact ih _ _ _ _ _ _ hQ H
      | none =>
        simp only [h2] at H ⊢
        cases h3 : ez_ld i ls st with
        | some st' => simp only [h3] at H ⊢; exact ih _ _ _ _ _ _ hQ H
        | none =>
          simp only [h3] at H ⊢
          cases h4 : ez_st i v ls st with
          | some q => obtain ⟨ls', st'⟩ := q; simp only [h4] at H ⊢; exact ih _ _ _ _ _ _ hQ H
          | none =>
            simp only [h4] at H ⊢
            cases h5 : ez_br i st with
            | some q =>
              obtain ⟨c, st'⟩ := q
              simp only [h5] at H ⊢
              exact ⟨fun q => hj _ _ (H.1 q), fun q => ih _ _ _ _ _ _ hQ (H.2 q)⟩
            | none =>
              simp only [h5] at H ⊢
              cases h6 : ez_sm E i a b k ls st h with
              | some q =>
                obtain ⟨c, st', h'⟩ := q
                simp only [h6] at H ⊢
                exact ⟨H.1, ih _ _ _ _ _ _ hQ H.2⟩
              | none =>
                simp only [h6] at H ⊢
                cases h7 : ez_rt i a st with
                | some q => obtain ⟨c, r⟩ := q; simp only [h7] at H ⊢; exact ⟨H.1, hQ _ _ H.2⟩
                | none =>
                  simp only [h7] at H ⊢
                  cases h8 : ez_jp i pc a st with
                  | mk J st' =>
                    cases J with
                    | some J => simp only [h8] at H ⊢; exact ez_jp_mono h8 (fun t q => hj t st' q) H
                    | none =>
                      simp only [h8] at H ⊢
                      cases h9 : ez_cl i k with
                      | true =>
                        simp only [h9] at H ⊢
                        cases d with
                        | zero => exact H
                        | succ d' =>
                          refine ⟨H.1, hY _ _ _ _ _ _ _ _ ?_ (hXY _ _ _ _ _ _ _ H.2)⟩
                          intro o h' q
                          cases o with
                          | inl r =>
                            cases r with
                            | none => exact ih _ _ _ _ _ _ hQ q
                            | some w => exact ih _ _ _ _ _ _ hQ q
                          | inr x =>
                            cases h10 : hn pc x with
                            | none => simp only [h10] at q ⊢; exact hQ _ _ q
                            | some z =>
                              obtain ⟨t, j⟩ := z
                              simp only [h10] at q ⊢
                              cases t with
                              | zero => exact q
                              | succ t' => exact ih _ _ _ _ _ _ hQ q
                      | false =>
                        simp only [h9] at H ⊢
                        revert H
                        split
                        · split
                          · exact fun H => ⟨H.1, hQ _ _ H.2⟩
                          · exact fun H => H
                        · exact fun H => H
section EZW
variable (E : Nat → Nat × (Nat → Int32)) (ml : Nat → Nat) (hn : Nat → Nat → Nat → Option (Nat × Nat)) (code : Nat → List ez_C)
/-- X holds wherever it must hold by what comes next -/
def ez_Closed (X : ez_X) : Prop := ∀ (d mi pc : Nat) (ls : List (Option Value)) (st : List Value) (h : ez_H) (Q : ez_Q), ez_gw X E ml (hn mi) mi d (code mi) (pc + 1) ls st h Q → X d mi pc ls st h Q
/-- THE LEAST SUCH: the run comes to an end, and Q holds there -/
def ez_Wp : ez_X := fun d mi pc ls st h Q => ∀ X : ez_X, ez_Mono X → ez_Closed E ml hn code X → X d mi pc ls st h Q
theorem ez_Wp_mono : ez_Mono (ez_Wp E ml hn code) := fun d mi pc ls st h Q Q' hQ H X hX hC => hX d mi pc ls st h Q Q' hQ (H X hX hC)
theorem ez_Wp_in {d mi pc : Nat} {ls : List (Option Value)} {st : List Value} {h : ez_H} {Q : ez_Q} (H : ez_gw (ez_Wp E ml hn code) E ml (hn mi) mi d (code mi) (pc + 1) ls st h Q) : ez_Wp E ml hn code d mi pc ls st h Q := fun X hX hC =>
  hC _ _ _ _ _ _ _ (ez_gw_mono (fun _ _ _ _ _ _ _ q => q X hX hC) hX _ _ _ _ _ _ _ (fun _ _ q => q) H)
end EZW
end
section
/-! THE PURE MACHINE AND THE MACHINE: values and locals -/
/-- an own cell stands B beyond its number; an outer array where ea says -/
def ez_tr (B : Nat) (ea : Nat → Nat) (v : Value) : Value := match v with
  | .ref p => .ref (B + p)
  | .retAddr j => .ref (ea j)
  | v => v
def ez_lv (B : Nat) (ea : Nat → Nat) (ls : List (Option Value)) : List (Nat × Value) := (List.range ls.length).filterMap (fun i => (ls.getD i none).map (fun v => (i, ez_tr B ea v)))
theorem ez_lv_mem {B : Nat} {ea : Nat → Nat} {ls : List (Option Value)} {q : Nat × Value} : q ∈ ez_lv B ea ls ↔ ∃ v, ls.getD q.1 none = some v ∧ q.2 = ez_tr B ea v := by
  constructor
  · intro h
    obtain ⟨i, -, hi⟩ := List.mem_filterMap.mp h
    cases hv : ls.getD i none with
    | none => rw [hv] at hi; cases hi
    | some v =>
      rw [hv] at hi
      cases hi
      exact ⟨v, hv, rfl⟩
  · rintro ⟨v, h1, h2⟩
    refine List.mem_filterMap.mpr ⟨q.1, List.mem_range.mpr ?_, ?_⟩
    · rcases Nat.lt_or_ge q.1 ls.length with z | z
      · exact z
      · rw [List.getD_eq_getElem?_getD, List.getElem?_eq_none z] at h1
        cases h1
    · rw [h1]
      show some (q.1, ez_tr B ea v) = some q
      rw [← h2]
theorem ez_lv_at {B : Nat} {ea : Nat → Nat} {lsM : Array Slot} {nL : Nat} {ls : List (Option Value)} (h : lv_has lsM nL (ez_lv B ea ls)) {i : Nat} {v : Value} (hv : ls.getD i none = some v) : lsM[i]? = some (.val (ez_tr B ea v)) :=
  h.2.2 (i, ez_tr B ea v) (ez_lv_mem.mpr ⟨v, hv, rfl⟩)
theorem ez_lv_sub {B : Nat} {ea : Nat → Nat} {lsM : Array Slot} {nL : Nat} {ls : List (Option Value)} {l : List (Nat × Value)} (h : lv_has lsM nL l) (hs : ∀ q ∈ ez_lv B ea ls, q ∈ l) : lv_has lsM nL (ez_lv B ea ls) := ⟨h.1, h.2.1, fun q hq => h.2.2 q (hs q hq)⟩
theorem ez_getD_set {ls : List (Option Value)} {k j : Nat} {w : Option Value} {v : Value} (h : (ls.set k w).getD j none = some v) : (j = k ∧ w = some v) ∨ (j ≠ k ∧ ls.getD j none = some v) := by
  by_cases hj : j = k
  · subst hj
    left
    refine ⟨rfl, ?_⟩
    rw [List.getD_eq_getElem?_getD] at h
    by_cases hl : j < ls.length
    · rw [List.getElem?_set_self hl] at h
      exact h
    · rw [List.getElem?_eq_none (by rw [List.length_set]; omega)] at h
      cases h
  · right
    refine ⟨hj, ?_⟩
    rw [List.getD_eq_getElem?_getD, List.getElem?_set_ne (Ne.symm hj)] at h
    rw [List.getD_eq_getElem?_getD]
    exact h
theorem ez_tr_cat (B : Nat) (ea : Nat → Nat) (v : Value) : (ez_tr B ea v).category = v.category := by cases v <;> rfl
/-- what is left of the locals where one is set: none of its own, no long ahead of it -/
theorem ez_cut_get {ls : List (Option Value)} {k j : Nat} {v : Value} (h : (ez_cut ls k).getD j none = some v) : ls.getD j none = some v ∧ ¬ (j + 1 = k ∧ v.category = 2) := by
  unfold ez_cut at h
  cases k with
  | zero => exact ⟨h, fun q => by omega⟩
  | succ i =>
    simp only at h
    split at h
    · rcases ez_getD_set h with ⟨-, h2⟩ | ⟨h1, h2⟩
      · cases h2
      · exact ⟨h2, fun q => by omega⟩
    · rcases ez_getD_set h with ⟨-, h2⟩ | ⟨h1, h2⟩
      · cases h2
      · exact ⟨h2, fun q => by omega⟩
    · rename_i hx hy
      refine ⟨h, fun q => ?_⟩
      obtain ⟨q1, q2⟩ := q
      have : j = i := by omega
      subst this
      cases v with
      | long x => exact hx x h
      | double x => exact hy x h
      | _ => cases q2
/-- the locals where one of one place is set, as the machine has them -/
theorem ez_lv_set {B : Nat} {ea : Nat → Nat} {lsM : Array Slot} {nL k : Nat} {ls : List (Option Value)} {v : Value} (h : lv_has lsM nL ((k, ez_tr B ea v) :: (ez_lv B ea ls).filter (fun q => !(q.1 == k) && !(q.1 + 1 == k && q.2.category == 2)))) : lv_has lsM nL (ez_lv B ea ((ez_cut ls k).set k (some v))) := by
  refine ez_lv_sub h fun q hq => ?_
  obtain ⟨w, h1, h2⟩ := ez_lv_mem.mp hq
  rcases ez_getD_set h1 with ⟨e1, e2⟩ | ⟨e1, e2⟩
  · cases e2
    refine List.mem_cons.mpr (Or.inl ?_)
    obtain ⟨q1, q2⟩ := q
    simp only at e1 h2
    rw [e1, h2]
  · obtain ⟨f1, f2⟩ := ez_cut_get e2
    refine List.mem_cons.mpr (Or.inr (List.mem_filter.mpr ⟨ez_lv_mem.mpr ⟨w, f1, h2⟩, ?_⟩))
    simp only [Bool.and_eq_true, Bool.not_eq_true', beq_eq_false_iff_ne, ne_eq, Bool.and_eq_false_iff]
    refine ⟨e1, ?_⟩
    by_cases z : q.1 + 1 = k
    · right
      intro y
      rw [h2, ez_tr_cat] at y
      exact f2 ⟨z, y⟩
    · exact Or.inl z
/-- .. and one of two places -/
theorem ez_lv_set2 {B : Nat} {ea : Nat → Nat} {lsM : Array Slot} {nL k : Nat} {ls : List (Option Value)} {v : Value} (h : lv_has lsM nL ((k, ez_tr B ea v) :: (ez_lv B ea ls).filter (fun q => !(q.1 == k) && (!(q.1 == k + 1) && !(q.1 + 1 == k && q.2.category == 2))))) : lv_has lsM nL (ez_lv B ea (((ez_cut ls k).set k (some v)).set (k + 1) none)) := by
  refine ez_lv_sub h fun q hq => ?_
  obtain ⟨w, h1, h2⟩ := ez_lv_mem.mp hq
  rcases ez_getD_set h1 with ⟨e1, e2⟩ | ⟨e0, e2⟩
  · cases e2
  · rcases ez_getD_set e2 with ⟨e1, e2⟩ | ⟨e1, e2⟩
    · cases e2
      refine List.mem_cons.mpr (Or.inl ?_)
      obtain ⟨q1, q2⟩ := q
      simp only at e1 h2
      rw [e1, h2]
    · obtain ⟨f1, f2⟩ := ez_cut_get e2
      refine List.mem_cons.mpr (Or.inr (List.mem_filter.mpr ⟨ez_lv_mem.mpr ⟨w, f1, h2⟩, ?_⟩))
      simp only [Bool.and_eq_true, Bool.not_eq_true', beq_eq_false_iff_ne, ne_eq, Bool.and_eq_false_iff]
      refine ⟨e1, e0, ?_⟩
      by_cases z : q.1 + 1 = k
      · right
        intro y
        rw [h2, ez_tr_cat] at y
        exact f2 ⟨z, y⟩
      · exact Or.inl z
/-- a local is forgotten -/
theorem ez_lv_none {B : Nat} {ea : Nat → Nat} {lsM : Array Slot} {nL k : Nat} {ls : List (Option Value)} {v : Value} (h : lv_has lsM nL ((k, v) :: (ez_lv B ea ls).filter (fun q => !(q.1 == k) && !(q.1 + 1 == k && q.2.category == 2)))) : lv_has lsM nL (ez_lv B ea ((ez_cut ls k).set k none)) := by
  refine ez_lv_sub h fun q hq => ?_
  obtain ⟨w, h1, h2⟩ := ez_lv_mem.mp hq
  rcases ez_getD_set h1 with ⟨e1, e2⟩ | ⟨e1, e2⟩
  · cases e2
  · obtain ⟨f1, f2⟩ := ez_cut_get e2
    refine List.mem_cons.mpr (Or.inr (List.mem_filter.mpr ⟨ez_lv_mem.mpr ⟨w, f1, h2⟩, ?_⟩))
    simp only [Bool.and_eq_true, Bool.not_eq_true', beq_eq_false_iff_ne, ne_eq, Bool.and_eq_false_iff]
    refine ⟨e1, ?_⟩
    by_cases z : q.1 + 1 = k
    · right
      intro y
      rw [h2, ez_tr_cat] at y
      exact f2 ⟨z, y⟩
    · exact Or.inl z
end
section
/-- how long an instruction is -/
def ez_ln (i : ClassFile.Instr) : Nat := match i with
  | .bipush _ | .ldc _ | .iload _ | .lload _ | .aload _ | .istore _ | .lstore _ | .astore _ | .newarray _ => 2
  | .sipush _ | .ldc_w _ | .ldc2_w _ | .iinc _ _ | .ifCond _ _ | .if_icmp _ _ | .goto _ | .getfield _ | .putfield _ | .getstatic _ | .new _ | .invokevirtual _ | .invokespecial _ | .invokestatic _ => 3
  | _ => 1
/-- the constant that a table gives an instruction is its own -/
def ez_cst (own : String) (tbl : List Cond) (nL : Nat) (i : ClassFile.Instr) (v : Int32) : Prop := match i with
  | .iconst n => Int32.ofInt n = v
  | .bipush n => (Int8.ofInt n).toInt32 = v
  | .sipush n => (Int16.ofInt n).toInt32 = v
  | .lconst n => Int64.ofNat (n : Nat) = v.toInt64
  | .ldc j => Jvm.Cond.constant own j v ∈ tbl
  | .ldc_w j => Jvm.Cond.constant own j v ∈ tbl
  | .ldc2_w j => Jvm.Cond.constantLong own j v.toInt64 ∈ tbl
  | .iinc k n => Int32.ofInt n = v ∧ k < nL
  | .istore k => k < nL
  | .istore_n k => k.val < nL
  | .astore k => k < nL
  | .astore_n k => k.val < nL
  | .lstore k => k + 1 < nL
  | .lstore_n k => k.val + 1 < nL
  | _ => True
section EZ2
variable {p : Program} {l : Launch} {e : Env} {R : Room} {s : State} {m : MethodId} {args : Array Value} {below : List Frame} {meth : Method} {c : Code} {H : Heap} {locs : List Loc} {cells slots : Nat} {Q : State → Prop} {cc : ByteArray} {pc nL B : Nat} {ea : Nat → Nat} {lsM : Array Slot} {st st' : List Value} {ls ls' : List (Option Value)} {i : ClassFile.Instr} {v : Int32} {own : String} {tbl : List Cond}
set_option maxHeartbeats 1000000 in
theorem ez_op_snd (hx : p.tables.exec = Jvm.exec) (hb : c.code = cc) (hown : s.vm.findClass own = some m.cls) (hts : ∀ w ∈ tbl, w.before args s = true) (hd : decode cc pc = .ok (i, ez_ln i)) (hc : ez_cst own tbl nL i v) (ho : ez_op i v st = some st')
    (k : W p l e R s m args below meth c H locs cells slots Q (F0 m (pc + ez_ln i) lsM (st'.map (ez_tr B ea)))) : W p l e R s m args below meth c H locs cells slots Q (F0 m pc lsM (st.map (ez_tr B ea))) := by
  unfold ez_op at ho
  split at ho
  · cases ho; exact lv_iconst hx hb hd hc k
  · cases ho; exact lv_bipush hx hb hd hc k
  · cases ho; exact lv_sipush hx hb hd hc k
  · cases ho; exact lv_ldc hx hb hown (hts _ hc) hd k
  · cases ho; exact lv_ldcw hx hb hown (hts _ hc) hd k
  · cases ho; exact lv_ldc2 hx hb hown (hts _ hc) hd k
  · cases ho; exact lv_lconst hx hb hd hc k
  · split at ho <;> cases ho; exact lv_i2b hx hb hd rfl k
  · split at ho <;> cases ho; exact lv_iadd hx hb hd k
  · split at ho <;> cases ho; exact lv_isub hx hb hd k
  · split at ho <;> cases ho; exact lv_imul hx hb hd k
  · split at ho <;> cases ho; exact lv_iand hx hb hd k
  · split at ho <;> cases ho; exact lv_ior hx hb hd k
  · split at ho <;> cases ho; exact lv_ixor hx hb hd k
  · split at ho <;> cases ho; exact lv_ishl hx hb hd k
  · split at ho <;> cases ho; exact lv_ishr hx hb hd k
  · split at ho <;> cases ho; exact lv_iushr hx hb hd rfl k
  · split at ho <;> cases ho; exact lv_ineg hx hb hd k
  · split at ho <;> cases ho; exact lv_i2l hx hb hd rfl k
  · split at ho <;> cases ho; exact lv_l2i hx hb hd rfl k
  · split at ho <;> cases ho; exact lv_ladd hx hb hd k
  · split at ho <;> cases ho; exact lv_lsub hx hb hd k
  · split at ho <;> cases ho; exact lv_lmul hx hb hd k
  · split at ho <;> cases ho; exact W.lcmp hx hb hd k
  · split at ho <;> cases ho
    · exact lv_dup hx hb hd rfl k
    · exact lv_dup hx hb hd rfl k
  · split at ho <;> cases ho
    · exact lv_dup2_11 hx hb hd rfl rfl k
    · exact lv_dup2_11 hx hb hd rfl rfl k
  · split at ho <;> cases ho
    · exact lv_dup_x1 hx hb hd rfl rfl k
    · exact lv_dup_x1 hx hb hd rfl rfl k
  · split at ho <;> cases ho
    · exact lv_pop hx hb hd rfl k
    · exact lv_pop hx hb hd rfl k
  · cases ho
theorem ez_ld_snd (hx : p.tables.exec = Jvm.exec) (hb : c.code = cc) (hl : lv_has lsM nL (ez_lv B ea ls)) (hd : decode cc pc = .ok (i, ez_ln i)) (ho : ez_ld i ls st = some st')
    (k : W p l e R s m args below meth c H locs cells slots Q (F0 m (pc + ez_ln i) lsM (st'.map (ez_tr B ea)))) : W p l e R s m args below meth c H locs cells slots Q (F0 m pc lsM (st.map (ez_tr B ea))) := by
  unfold ez_ld at ho
  split at ho
  · split at ho <;> cases ho; rename_i hq; exact lv_iload hx hb hd (ez_lv_at hl hq) k
  · split at ho <;> cases ho; rename_i hq; exact lv_iload_n hx hb hd rfl (ez_lv_at hl hq) k
  · split at ho <;> cases ho; rename_i hq; exact lv_lload hx hb hd (ez_lv_at hl hq) k
  · split at ho <;> cases ho; rename_i hq; exact lv_lload_n hx hb hd rfl (ez_lv_at hl hq) k
  · split at ho <;> cases ho
    · rename_i hq; exact lv_aload hx hb hd (ez_lv_at hl hq) k
    · rename_i hq; exact lv_aload hx hb hd (ez_lv_at hl hq) k
  · split at ho <;> cases ho
    · rename_i hq; exact lv_aload_n hx hb hd rfl (ez_lv_at hl hq) k
    · rename_i hq; exact lv_aload_n hx hb hd rfl (ez_lv_at hl hq) k
  · cases ho
theorem ez_st_snd (hx : p.tables.exec = Jvm.exec) (hb : c.code = cc) (hl : lv_has lsM nL (ez_lv B ea ls)) (hd : decode cc pc = .ok (i, ez_ln i)) (hc : ez_cst own tbl nL i v) (ho : ez_st i v ls st = some (ls', st'))
    (k : ∀ lsM' : Array Slot, lv_has lsM' nL (ez_lv B ea ls') → W p l e R s m args below meth c H locs cells slots Q (F0 m (pc + ez_ln i) lsM' (st'.map (ez_tr B ea)))) : W p l e R s m args below meth c H locs cells slots Q (F0 m pc lsM (st.map (ez_tr B ea))) := by
  unfold ez_st at ho
  split at ho
  · split at ho <;> cases ho; exact lv_istore hx hb hd hl hc rfl fun _ h' => k _ (ez_lv_set h')
  · split at ho <;> cases ho; exact lv_istore_n hx hb hd rfl hl hc rfl fun _ h' => k _ (ez_lv_set h')
  · split at ho <;> cases ho; exact lv_lstore hx hb hd hl hc rfl fun _ h' => k _ (ez_lv_set2 h')
  · split at ho <;> cases ho; exact lv_lstore_n hx hb hd rfl hl hc rfl fun _ h' => k _ (ez_lv_set2 h')
  · split at ho <;> cases ho
    · exact lv_astore hx hb hd hl hc rfl fun _ h' => k _ (ez_lv_set (v := .ref _) h')
    · exact lv_astore hx hb hd hl hc rfl fun _ h' => k _ (ez_lv_set (v := .retAddr _) h')
  · split at ho <;> cases ho
    · exact lv_astore_n hx hb hd rfl hl hc rfl fun _ h' => k _ (ez_lv_set (v := .ref _) h')
    · exact lv_astore_n hx hb hd rfl hl hc rfl fun _ h' => k _ (ez_lv_set (v := .retAddr _) h')
  · split at ho <;> cases ho
    rename_i x hq
    obtain ⟨j, hj⟩ := List.getElem?_of_mem (ez_lv_mem (B := B) (ea := ea) (q := (_, .int x)) |>.mpr ⟨_, hq, rfl⟩)
    exact lv_iinc hx hb hd hl hj (by rw [hc.1]) hc.2 rfl fun _ h' => k _ (ez_lv_set (v := .int _) h')
  · cases ho
theorem ez_br_snd (hx : p.tables.exec = Jvm.exec) (hb : c.code = cc) {a : Nat} {cd : Prop} (hd : decode cc pc = .ok (i, ez_ln i)) (ha : ∀ cn off, i = .ifCond cn off ∨ i = .if_icmp cn off → (pc : Int) + off = (a : Int)) (ho : ez_br i st = some (cd, st'))
    (kt : cd → W p l e R s m args below meth c H locs cells slots Q (F0 m a lsM (st'.map (ez_tr B ea)))) (kf : ¬ cd → W p l e R s m args below meth c H locs cells slots Q (F0 m (pc + 3) lsM (st'.map (ez_tr B ea)))) : W p l e R s m args below meth c H locs cells slots Q (F0 m pc lsM (st.map (ez_tr B ea))) := by
  unfold ez_br at ho
  split at ho
  · rename_i cn off
    have hz := ha cn off (Or.inl rfl)
    split at ho <;> cases ho
    cases cn
    · exact lv_if_eq hx hb hd hz kt kf
    · exact lv_if_ne hx hb hd hz kt (fun q => kf (fun z => z q))
    · exact lv_if_lt hx hb hd hz kt kf
    · exact lv_if_ge hx hb hd hz kt kf
    · exact lv_if_gt hx hb hd hz kt kf
    · exact lv_if_le hx hb hd hz kt kf
  · rename_i cn off
    have hz := ha cn off (Or.inr rfl)
    split at ho <;> cases ho
    cases cn
    · exact lv_icmp_eq hx hb hd hz kt kf
    · exact lv_icmp_ne hx hb hd hz kt (fun q => kf (fun z => z q))
    · exact lv_icmp_lt hx hb hd hz kt kf
    · exact lv_icmp_ge hx hb hd hz kt kf
    · exact lv_icmp_gt hx hb hd hz kt kf
    · exact lv_icmp_le hx hb hd hz kt kf
  · cases ho
end EZ2
end
section
/-! THE PURE HEAP AND THE HEAP. cl: the classes, by tag - 1; ty: a field's type by tag and place; nf: how many fields; dA: the array classes by tag; B: an own cell stands B beyond its number -/
def ez_fv (B : Nat) (ty : FieldType) (h : ez_H) (p k : Nat) : Value := match ty with
  | .long => .long (ez_L h p k)
  | .object _ => if ez_R h p k = 0 then .null else .ref (B + ez_R h p k)
  | .array _ => if ez_R h p k = 0 then .null else .ref (B + ez_R h p k)
  | _ => .int (ez_I h p k)
def ez_ce (nf : Nat → Nat) (ty : Nat → Nat → FieldType) (dA : Nat → ClassId) (B : Nat) (h : ez_H) (p : Nat) : va_E :=
  if ez_t h p = 1000 then .inl (dA 1000, ez_l h p, .inl (ez_I h p))
  else if ez_t h p = 1002 then .inl (dA 1002, ez_l h p, .inr (.inl (ez_L h p)))
  else if ez_t h p = 1003 then .inl (dA 1003, ez_l h p, .inl (ez_I h p))
  else .inr (ez_t h p - 1, (List.range (nf (ez_t h p))).map (fun k => ez_fv B (ty (ez_t h p) k) h p k))
theorem ez_ce_same {nf : Nat → Nat} {ty : Nat → Nat → FieldType} {dA : Nat → ClassId} {B : Nat} {h h' : ez_H} {r : Nat} (ht : ez_t h' r = ez_t h r) (hl : ez_l h' r = ez_l h r) (hI : ez_I h' r = ez_I h r) (hL : ez_L h' r = ez_L h r) (hR : ez_R h' r = ez_R h r) : ez_ce nf ty dA B h' r = ez_ce nf ty dA B h r := by
  unfold ez_ce ez_fv
  rw [ht, hl, hI, hL, hR]
def ez_A (B : Nat) : Nat → Prop := fun q => B < q
def ez_Rel (D : va_G) (cl : List vw_C) (nf : Nat → Nat) (ty : Nat → Nat → FieldType) (dA : Nat → ClassId) (B : Nat) (h : ez_H) (H : Heap) : Prop :=
  H.size = B + 1 + ez_n h ∧ ∃ L : List Nat, (∀ p, ez_t h p ≠ 0 → B + p ∈ L) ∧ va_P D cl ([] ++ va_pl L (fun a => ez_ce nf ty dA B h (a - B))) H ∧ va_D (ez_A B) ([] ++ va_pl L (fun a => ez_ce nf ty dA B h (a - B)))
section EZ3
variable {D : va_G} {cl : List vw_C} {nf : Nat → Nat} {ty : Nat → Nat → FieldType} {dA : Nat → ClassId} {B : Nat} {h h' : ez_H} {H : Heap}
theorem ez_Rel.pos (hR : ez_Rel D cl nf ty dA B h H) {p : Nat} (hp : ez_t h p ≠ 0) : 0 < p := by
  obtain ⟨-, L, hL, hP, hD⟩ := hR
  obtain ⟨k, hk⟩ := va_pl_get (X := []) (f := fun a => ez_ce nf ty dA B h (a - B)) (hL p hp)
  have : B < B + p := hD.2 k _ hk
  omega
theorem ez_Rel.lt (hR : ez_Rel D cl nf ty dA B h H) {p : Nat} (hp : ez_t h p ≠ 0) : p ≤ ez_n h := by
  obtain ⟨hs, L, hL, hP, hD⟩ := hR
  have := va_pl_lt (X := []) hP (hL p hp)
  omega
/-- the cell of a number, by its place in the world -/
theorem ez_Rel.get (hR : ez_Rel D cl nf ty dA B h H) {p : Nat} (hp : ez_t h p ≠ 0) : ∃ (ws : va_W) (q : Nat), va_P D cl ws H ∧ va_D (ez_A B) ws ∧ ws[q]? = some (B + p, ez_ce nf ty dA B h p) ∧
    ∀ (e : va_E) (h' : ez_H) (H1 : Heap), H1.size = H.size → ez_n h' = ez_n h → (∀ r, ez_t h' r = ez_t h r) → (∀ r, r ≠ p → ez_ce nf ty dA B h' r = ez_ce nf ty dA B h r) → ez_ce nf ty dA B h' p = e → va_P D cl (ws.set q (B + p, e)) H1 → va_D (ez_A B) (ws.set q (B + p, e)) → ez_Rel D cl nf ty dA B h' H1 := by
  have hpos := hR.pos hp
  obtain ⟨hs, L, hL, hP, hD⟩ := hR
  obtain ⟨k, hk⟩ := va_pl_get (X := []) (f := fun a => ez_ce nf ty dA B h (a - B)) (hL p hp)
  refine ⟨_, k, hP, hD, ?_, ?_⟩
  · rw [hk]
    simp only [Nat.add_sub_cancel_left]
  · intro e h' H1 hz hn ht ho he hP1 hD1
    have e1 := va_pl_set (X := []) (f := fun a => ez_ce nf ty dA B h (a - B)) (e := e) hD (hL p hp) hk
    have e2 : va_pl L (va_up (fun a => ez_ce nf ty dA B h (a - B)) (B + p) e) = va_pl L (fun a => ez_ce nf ty dA B h' (a - B)) := by
      apply List.map_congr_left
      intro a ha
      have hBa : B < a := by
        obtain ⟨k2, hk2⟩ := va_pl_get (X := []) (f := fun a => ez_ce nf ty dA B h (a - B)) ha
        exact hD.2 k2 _ hk2
      by_cases hq : a = B + p
      · subst hq
        rw [va_up_self]
        simp only [Nat.add_sub_cancel_left]
        rw [he]
      · rw [va_up_ne _ _ hq]
        simp only
        rw [ho (a - B) (by omega)]
    refine ⟨by rw [hz, hs, hn], L, fun r hr => hL r (by rw [← ht r]; exact hr), ?_, ?_⟩
    · rw [← e2, ← e1]; exact hP1
    · rw [← e2, ← e1]; exact hD1
/-- the same for all numbers at once -/
theorem ez_Rel.all (hR : ez_Rel D cl nf ty dA B h H) : ∃ ws : va_W, va_P D cl ws H ∧ va_D (ez_A B) ws ∧ (∀ r : Nat, ez_t h r ≠ 0 → ∃ j : Nat, ws[j]? = some (B + r, ez_ce nf ty dA B h r)) ∧
    ∀ (p q : Nat), ez_t h p ≠ 0 → ws[q]? = some (B + p, ez_ce nf ty dA B h p) → ∀ (e : va_E) (h' : ez_H) (H1 : Heap), H1.size = H.size → ez_n h' = ez_n h → (∀ r, ez_t h' r = ez_t h r) → (∀ r, r ≠ p → ez_ce nf ty dA B h' r = ez_ce nf ty dA B h r) → ez_ce nf ty dA B h' p = e → va_P D cl (ws.set q (B + p, e)) H1 → va_D (ez_A B) (ws.set q (B + p, e)) → ez_Rel D cl nf ty dA B h' H1 := by
  obtain ⟨hs, L, hL, hP, hD⟩ := hR
  refine ⟨_, hP, hD, ?_, ?_⟩
  · intro r hr
    obtain ⟨k, hk⟩ := va_pl_get (X := []) (f := fun a => ez_ce nf ty dA B h (a - B)) (hL r hr)
    refine ⟨k, ?_⟩
    rw [hk]
    simp only [Nat.add_sub_cancel_left]
  · intro p k hp hk e h' H1 hz hn ht ho he hP1 hD1
    have hk' : ([] ++ va_pl L (fun a => ez_ce nf ty dA B h (a - B)))[k]? = some (B + p, (fun a => ez_ce nf ty dA B h (a - B)) (B + p)) := by
      rw [hk]
      simp only [Nat.add_sub_cancel_left]
    have e1 := va_pl_set (X := []) (f := fun a => ez_ce nf ty dA B h (a - B)) (e := e) hD (hL p hp) hk'
    have e2 : va_pl L (va_up (fun a => ez_ce nf ty dA B h (a - B)) (B + p) e) = va_pl L (fun a => ez_ce nf ty dA B h' (a - B)) := by
      apply List.map_congr_left
      intro a ha
      have hBa : B < a := by
        obtain ⟨k2, hk2⟩ := va_pl_get (X := []) (f := fun a => ez_ce nf ty dA B h (a - B)) ha
        exact hD.2 k2 _ hk2
      by_cases hq : a = B + p
      · subst hq
        rw [va_up_self]
        simp only [Nat.add_sub_cancel_left]
        rw [he]
      · rw [va_up_ne _ _ hq]
        simp only
        rw [ho (a - B) (by omega)]
    refine ⟨by rw [hz, hs, hn], L, fun r hr => hL r (by rw [← ht r]; exact hr), ?_, ?_⟩
    · rw [← e2, ← e1]; exact hP1
    · rw [← e2, ← e1]; exact hD1
/-- a new cell: behind the last -/
theorem ez_Rel.push (hR : ez_Rel D cl nf ty dA B h H) {H1 : Heap} {tag len slots : Nat} (hz : H1.size = H.size + 1) (ho : ∀ q : Nat, q < H.size → H1[q]? = H[q]?) (he : va_at D cl (H.size, ez_ce nf ty dA B (ez_new h tag len slots) (ez_n h + 1)) H1) : ez_Rel D cl nf ty dA B (ez_new h tag len slots) H1 := by
  obtain ⟨hs, L, hL, hP, hD⟩ := hR
  have hfresh : H.size ∉ L := va_pl_fresh (X := []) hP (Nat.le_refl _)
  have hk : ∀ (k : Nat) (x : Nat × va_E), ([] ++ va_pl L (fun a => ez_ce nf ty dA B h (a - B)))[k]? = some x → H1[x.1]? = H[x.1]? := fun k x hx => ho x.1 ((hP k x hx).lt)
  have hP1 : va_P D cl (([] ++ va_pl L (fun a => ez_ce nf ty dA B h (a - B))) ++ [(H.size, ez_ce nf ty dA B (ez_new h tag len slots) (ez_n h + 1))]) H1 := (hP.kept hk).app (fun k x hx => by
    have hz : k < 1 := (List.getElem?_eq_some_iff.mp hx).1
    rw [show k = 0 by omega] at hx
    cases hx
    exact he)
  have hD1 : va_D (ez_A B) (([] ++ va_pl L (fun a => ez_ce nf ty dA B h (a - B))) ++ [(H.size, ez_ce nf ty dA B (ez_new h tag len slots) (ez_n h + 1))]) := hD.push hP rfl (show B < H.size by omega)
  have e1 : ([] ++ va_pl L (fun a => ez_ce nf ty dA B h (a - B))) ++ [(H.size, ez_ce nf ty dA B (ez_new h tag len slots) (ez_n h + 1))] = [] ++ va_pl (L ++ [H.size]) (fun a => ez_ce nf ty dA B (ez_new h tag len slots) (a - B)) := by
    show va_pl L (fun a => ez_ce nf ty dA B h (a - B)) ++ [(H.size, _)] = va_pl (L ++ [H.size]) _
    rw [va_pl_push hfresh]
    apply List.map_congr_left
    intro a ha
    by_cases hq : a = H.size
    · subst hq
      rw [va_up_self]
      simp only [hs, show B + 1 + ez_n h - B = ez_n h + 1 by omega]
    · rw [va_up_ne _ _ hq]
      simp only
      have hne : a - B ≠ ez_n h + 1 := by
        rcases List.mem_append.mp ha with z | z
        · have h1 := va_pl_lt (X := []) hP z
          obtain ⟨k2, hk2⟩ := va_pl_get (X := []) (f := fun a => ez_ce nf ty dA B h (a - B)) z
          have h2 : B < a := hD.2 k2 _ hk2
          omega
        · exact absurd (List.mem_singleton.mp z) hq
      refine congrArg (Prod.mk a) (ez_ce_same (h := h) (h' := ez_new h tag len slots) ?_ ?_ ?_ ?_ ?_).symm
      · show ez_up (ez_t h) (ez_n h + 1) tag (a - B) = _
        simp [ez_up, hne]
      · show ez_up (ez_l h) (ez_n h + 1) len (a - B) = _
        simp [ez_up, hne]
      · show ez_row (ez_I h) (ez_n h + 1) _ (a - B) = _
        simp [ez_row, hne]
      · show ez_row (ez_L h) (ez_n h + 1) _ (a - B) = _
        simp [ez_row, hne]
      · show ez_row (ez_R h) (ez_n h + 1) _ (a - B) = _
        simp [ez_row, hne]
  rw [e1] at hP1 hD1
  refine ⟨by rw [hz, hs]; rfl, _, fun r hr => ?_, hP1, hD1⟩
  by_cases hq : r = ez_n h + 1
  · subst hq
    exact List.mem_append_right _ (List.mem_singleton.mpr (by omega))
  · refine List.mem_append_left _ (hL r ?_)
    have : ez_t (ez_new h tag len slots) r = ez_t h r := by
      show ez_up (ez_t h) (ez_n h + 1) tag r = _
      simp [ez_up, hq]
    rw [← this]
    exact hr
end EZ3
end
section
/-! READING AND WRITING THE HEAP -/
abbrev ez_tys (dA : Nat → ClassId) : List (ClassId × FieldType) := [(dA 1000, .int), (dA 1002, .long), (dA 1003, .byte)]
/-- a class by its tag: its row in cl, its fields' words, types and names -/
def ez_Cls (tbl : List Cond) (cl : List vw_C) (nf : Nat → Nat) (ty : Nat → Nat → FieldType) (a : Nat) (C : String) (T : u_T) : Prop :=
  0 < a ∧ a < 1000 ∧ cl[a - 1]? = some (C, T, nf a) ∧ (∀ w ∈ u_ws C T (nf a), w ∈ tbl) ∧ (∀ k, k < nf a → parseFieldDescriptor (T k).2.2.1 = some (ty a k)) ∧ (∀ x, x < nf a → ∀ y, y < nf a → x ≠ y → (T x).2.1 ≠ (T y).2.1)
theorem ez_ce_obj {nf : Nat → Nat} {ty : Nat → Nat → FieldType} {dA : Nat → ClassId} {B : Nat} {h : ez_H} {p a : Nat} (hp : ez_t h p = a) (ha : a < 1000) : ez_ce nf ty dA B h p = .inr (a - 1, (List.range (nf a)).map (fun k => ez_fv B (ty a k) h p k)) := by
  unfold ez_ce
  rw [hp, if_neg (by omega), if_neg (by omega), if_neg (by omega)]
theorem ez_ce_i {nf : Nat → Nat} {ty : Nat → Nat → FieldType} {dA : Nat → ClassId} {B : Nat} {h : ez_H} {p : Nat} (hp : ez_t h p = 1000) : ez_ce nf ty dA B h p = .inl (dA 1000, ez_l h p, .inl (ez_I h p)) := by
  unfold ez_ce
  rw [if_pos hp]
theorem ez_ce_l {nf : Nat → Nat} {ty : Nat → Nat → FieldType} {dA : Nat → ClassId} {B : Nat} {h : ez_H} {p : Nat} (hp : ez_t h p = 1002) : ez_ce nf ty dA B h p = .inl (dA 1002, ez_l h p, .inr (.inl (ez_L h p))) := by
  unfold ez_ce
  rw [hp, if_neg (by omega), if_pos rfl]
theorem ez_ce_b {nf : Nat → Nat} {ty : Nat → Nat → FieldType} {dA : Nat → ClassId} {B : Nat} {h : ez_H} {p : Nat} (hp : ez_t h p = 1003) : ez_ce nf ty dA B h p = .inl (dA 1003, ez_l h p, .inl (ez_I h p)) := by
  unfold ez_ce
  rw [hp, if_neg (by omega), if_neg (by omega), if_pos rfl]
theorem ez_up2_ne {α : Type} {f : Nat → Nat → α} {p k : Nat} {v : α} {r : Nat} (h : r ≠ p) : ez_up2 f p k v r = f r := by
  funext j
  simp [ez_up2, h]
theorem ez_up2_at {α : Type} {f : Nat → Nat → α} {p k : Nat} {v : α} : ez_up2 f p k v p k = v := by simp [ez_up2]
theorem ez_up2_el {α : Type} {f : Nat → Nat → α} {p k j : Nat} {v : α} (h : j ≠ k) : ez_up2 f p k v p j = f p j := by simp [ez_up2, h]
theorem ez_up2_row {f : Nat → Nat → Int32} {p k : Nat} {v : Int32} : ez_up2 f p k v p = upd (f p) k v := by
  funext j
  simp [ez_up2, upd]
theorem ez_up2_rowL {f : Nat → Nat → Int64} {p k : Nat} {v : Int64} : ez_up2 f p k v p = vp_updL (f p) k v := by
  funext j
  simp [ez_up2, vp_updL]
theorem ez_row_ne {α : Type} {f : Nat → Nat → α} {p : Nat} {g : Nat → α} {r : Nat} (h : r ≠ p) : ez_row f p g r = f r := by simp [ez_row, h]
theorem ez_row_at {α : Type} {f : Nat → Nat → α} {p : Nat} {g : Nat → α} : ez_row f p g p = g := by simp [ez_row]
theorem ez_fs_set {n b : Nat} {f g : Nat → Value} {v : Value} (hb : b < n) (h1 : ∀ k, k ≠ b → g k = f k) (h2 : g b = v) : (List.range n).map g = ((List.range n).map f).set b v := by
  apply List.ext_getElem?
  intro j
  by_cases hj : j = b
  · subst hj
    rw [List.getElem?_set_self (by simpa using hb), List.getElem?_map, List.getElem?_range hb]
    simp [h2]
  · rw [List.getElem?_set_ne (Ne.symm hj), List.getElem?_map, List.getElem?_map]
    cases hq : (List.range n)[j]? with
    | none => rfl
    | some z =>
      have hz : z = j := by
        have hl := (List.getElem?_eq_some_iff.mp hq).1
        rw [List.length_range] at hl
        rw [List.getElem?_range hl] at hq
        exact (Option.some.inj hq).symm
      subst hz
      simp [h1 z hj]
section EZ5
variable {p : Program} {l : Launch} {e : Env} {R : Room} {s : State} {m : MethodId} {args : Array Value} {below : List Frame} {meth : Method} {c : Code} {H : Heap} {locs : List Loc} {cells slots : Nat} {Q : State → Prop} {cc : ByteArray} {pc nL B : Nat} {ea : Nat → Nat} {lsM : Array Slot} {own : String} {tbl : List Cond} {rest : List Value}
variable {D : va_G} {cl : List vw_C} {nf : Nat → Nat} {ty : Nat → Nat → FieldType} {dA : Nat → ClassId} {h : ez_H}
theorem ez_W_size {g : JFrame} (k : H.size ≤ s.heap.size + cells → W p l e R s m args below meth c H locs cells slots Q g) : W p l e R s m args below meth c H locs cells slots Q g := fun T hT X => k (by rw [← hT]; exact X.heapSize) T hT X
/-- a field is read -/
theorem ez_getf (hx : p.tables.exec = Jvm.exec) (hb : c.code = cc) (hown : s.vm.findClass own = some m.cls) (hts : ∀ w ∈ tbl, w.before args s = true) (hK : va_K D cl (ez_tys dA) s) (hR : ez_Rel D cl nf ty dA B h H) {a b q idx : Nat} {C : String} {T : u_T} (hC : ez_Cls tbl cl nf ty a C T) (hbn : b < nf a) (hq : ez_t h q = a)
    (hlk : Cond.fieldLink own idx (T b).1 (T b).2.1 (T b).2.2.1 ∈ tbl ∨ ∃ host, Cond.fieldLinkNest own idx (T b).1 (T b).2.1 (T b).2.2.1 host ∈ tbl) (hd : decode cc pc = .ok (.getfield idx, 3))
    (k : W p l e R s m args below meth c H locs cells slots Q (F0 m (pc + 3) lsM (ez_fv B (ty a b) h q b :: rest))) : W p l e R s m args below meth c H locs cells slots Q (F0 m pc lsM (.ref (B + q) :: rest)) := by
  obtain ⟨ha0, ha1, hcl, hws, -, -⟩ := hC
  obtain ⟨ws, j, hP, -, hj, -⟩ := hR.get (p := q) (by omega)
  rw [ez_ce_obj hq ha1] at hj
  have hv : ((List.range (nf a)).map (fun k => ez_fv B (ty a k) h q k))[b]? = some (ez_fv B (ty a b) h q b) := by
    rw [List.getElem?_map, List.getElem?_range hbn]
    rfl
  rcases hlk with hlk | ⟨host, hlk⟩
  · exact va_get hx hb hts hws hown hK hP j hj hcl b hbn (hts _ hlk) (fun _ z => z) hv hd k
  · exact va_getN hx hb hts hws hown hK hP j hj hcl b hbn (hts _ hlk) (fun _ z => z) hv hd k
/-- the frame of a write, seen from the method's entry -/
theorem ez_S_step {H1 : Heap} {locs1 : List Loc} {H0 : Heap} (hS : va_S (ez_A B) H0 H locs) (hS1 : va_S (ez_A B) H H1 locs1) : va_S (ez_A B) H0 H1 locs1 :=
  ⟨Nat.le_trans hS.1 hS1.1, fun q g1 g2 => (hS1.2.1 q (Nat.lt_of_lt_of_le g1 hS.1) g2).trans (hS.2.1 q g1 g2), hS1.2.2⟩
theorem ez_S_here {H0 : Heap} (hS : va_S (ez_A B) H0 H locs) : va_S (ez_A B) H H locs := ⟨Nat.le_refl _, fun _ _ _ => rfl, hS.2.2⟩
/-- a field is written -/
theorem ez_putf (hx : p.tables.exec = Jvm.exec) (hb : c.code = cc) (hown : s.vm.findClass own = some m.cls) (hts : ∀ w ∈ tbl, w.before args s = true) (hK : va_K D cl (ez_tys dA) s) (hR : ez_Rel D cl nf ty dA B h H) (hS : va_S (ez_A B) s.heap H locs) (hsz : s.heap.size + cells = B + 1 + ez_n h) {a b q idx : Nat} {C : String} {T : u_T} (hC : ez_Cls tbl cl nf ty a C T) (hbn : b < nf a) (hq : ez_t h q = a)
    (hlk : ((T b).2.2.2 = false ∧ (Cond.fieldLink own idx (T b).1 (T b).2.1 (T b).2.2.1 ∈ tbl ∨ ∃ host, Cond.fieldLinkNest own idx (T b).1 (T b).2.1 (T b).2.2.1 host ∈ tbl)) ∨ ((T b).2.2.2 = true ∧ meth.name = "<init>" ∧ (T b).1 = own ∧ Cond.fieldLink own idx (T b).1 (T b).2.1 (T b).2.2.1 ∈ tbl)) (hd : decode cc pc = .ok (.putfield idx, 3))
    {v : Value} (hnv : narrow (ty a b) v = v) (hfv : fits (ty a b) v = true) (h' : ez_H) (hn' : ez_n h' = ez_n h) (ht' : ∀ r, ez_t h' r = ez_t h r) (ho : ∀ r, r ≠ q → ez_ce nf ty dA B h' r = ez_ce nf ty dA B h r) (hf : ∀ k, k ≠ b → ez_fv B (ty a k) h' q k = ez_fv B (ty a k) h q k) (hfb : ez_fv B (ty a b) h' q b = v)
    (k : ∀ (H1 : Heap) (locs1 : List Loc), ez_Rel D cl nf ty dA B h' H1 → va_S (ez_A B) s.heap H1 locs1 → W p l e R s m args below meth c H1 locs1 cells slots Q (F0 m (pc + 3) lsM rest)) : W p l e R s m args below meth c H locs cells slots Q (F0 m pc lsM (v :: .ref (B + q) :: rest)) := by
  obtain ⟨ha0, ha1, hcl, hws, hty, hnm⟩ := hC
  have hs0 := hR.1
  obtain ⟨ws, j, hP, hD, hj, hset⟩ := hR.get (p := q) (by omega)
  rw [ez_ce_obj hq ha1] at hj
  have kk : ∀ (H1 : Heap) (locs1 : List Loc), va_P D cl (ws.set j (B + q, .inr (a - 1, ((List.range (nf a)).map (fun k => ez_fv B (ty a k) h q k)).set b v))) H1 → va_D (ez_A B) (ws.set j (B + q, .inr (a - 1, ((List.range (nf a)).map (fun k => ez_fv B (ty a k) h q k)).set b v))) → va_S (ez_A B) H H1 locs1 → W p l e R s m args below meth c H1 locs1 cells slots Q (F0 m (pc + 3) lsM rest) := by
    intro H1 locs1 hP1 hD1 hS1
    refine ez_W_size fun hle => ?_
    refine k H1 locs1 (hset _ h' H1 ?_ hn' ht' ho ?_ hP1 hD1) (ez_S_step hS hS1)
    · have := hS1.1
      omega
    · rw [ez_ce_obj (by rw [ht']; exact hq) ha1, ez_fs_set hbn hf hfb]
  have hlen : b < ((List.range (nf a)).map (fun k => ez_fv B (ty a k) h q k)).length := by simpa using hbn
  rcases hlk with ⟨hfin, hlk | ⟨host, hlk⟩⟩ | ⟨hfin, hini, hdecl, hlk⟩
  · exact va_put hx hb hts hws (ty a) hty hnm hown hK hP hD (ez_S_here hS) j hj hcl b hbn (hts _ hlk) (fun _ z => z) hfin (hty b hbn) hnv hfv hlen hd kk
  · exact va_putN hx hb hts hws (ty a) hty hnm hown hK hP hD (ez_S_here hS) j hj hcl b hbn (hts _ hlk) (fun _ z => z) hfin (hty b hbn) hnv hfv hlen hd kk
  · exact va_putF hx hb hts hws (ty a) hty hnm hown hK hP hD (ez_S_here hS) j hj hcl b hbn (hts _ hlk) (fun _ z => z) hfin hini hdecl (hty b hbn) hnv hfv hlen hd kk
end EZ5
end
section
section EZ6
variable {p : Program} {l : Launch} {e : Env} {R : Room} {s : State} {m : MethodId} {args : Array Value} {below : List Frame} {meth : Method} {c : Code} {H : Heap} {locs : List Loc} {cells slots : Nat} {Q : State → Prop} {cc : ByteArray} {pc nL B : Nat} {ea : Nat → Nat} {lsM : Array Slot} {own : String} {tbl : List Cond} {rest : List Value}
variable {D : va_G} {cl : List vw_C} {nf : Nat → Nat} {ty : Nat → Nat → FieldType} {dA : Nat → ClassId} {h : ez_H}
theorem ez_ald (hx : p.tables.exec = Jvm.exec) (hb : c.code = cc) (hK : va_K D cl (ez_tys dA) s) (hR : ez_Rel D cl nf ty dA B h H) {q : Nat} {x : Int32} (hq : ez_t h q = 1000) (hi : vp_in x (ez_l h q)) (hd : decode cc pc = .ok (.iaload, 1))
    (k : W p l e R s m args below meth c H locs cells slots Q (F0 m (pc + 1) lsM (.int (ez_I h q x.toNatClampNeg) :: rest))) : W p l e R s m args below meth c H locs cells slots Q (F0 m pc lsM (.int x :: .ref (B + q) :: rest)) := by
  obtain ⟨ws, j, hP, -, hj, -⟩ := hR.get (p := q) (by omega)
  rw [ez_ce_i hq] at hj
  exact va_iald hx hb hK hP j 0 hj rfl hi hd k
theorem ez_bald (hx : p.tables.exec = Jvm.exec) (hb : c.code = cc) (hK : va_K D cl (ez_tys dA) s) (hR : ez_Rel D cl nf ty dA B h H) {q : Nat} {x : Int32} (hq : ez_t h q = 1003) (hi : vp_in x (ez_l h q)) (hd : decode cc pc = .ok (.baload, 1))
    (k : W p l e R s m args below meth c H locs cells slots Q (F0 m (pc + 1) lsM (.int (ez_I h q x.toNatClampNeg) :: rest))) : W p l e R s m args below meth c H locs cells slots Q (F0 m pc lsM (.int x :: .ref (B + q) :: rest)) := by
  obtain ⟨ws, j, hP, -, hj, -⟩ := hR.get (p := q) (by omega)
  rw [ez_ce_b hq] at hj
  exact va_bald hx hb hK hP j 2 hj rfl hi hd k
theorem ez_lald (hx : p.tables.exec = Jvm.exec) (hb : c.code = cc) (hK : va_K D cl (ez_tys dA) s) (hR : ez_Rel D cl nf ty dA B h H) {q : Nat} {x : Int32} (hq : ez_t h q = 1002) (hi : vp_in x (ez_l h q)) (hd : decode cc pc = .ok (.laload, 1))
    (k : W p l e R s m args below meth c H locs cells slots Q (F0 m (pc + 1) lsM (.long (ez_L h q x.toNatClampNeg) :: rest))) : W p l e R s m args below meth c H locs cells slots Q (F0 m pc lsM (.int x :: .ref (B + q) :: rest)) := by
  obtain ⟨ws, j, hP, -, hj, -⟩ := hR.get (p := q) (by omega)
  rw [ez_ce_l hq] at hj
  exact va_lald hx hb hK hP j 1 hj rfl hi hd k
theorem ez_alen (hx : p.tables.exec = Jvm.exec) (hb : c.code = cc) (hK : va_K D cl (ez_tys dA) s) (hR : ez_Rel D cl nf ty dA B h H) {q : Nat} (hq : ez_t h q = 1000 ∨ ez_t h q = 1002 ∨ ez_t h q = 1003) (hd : decode cc pc = .ok (.arraylength, 1))
    (k : W p l e R s m args below meth c H locs cells slots Q (F0 m (pc + 1) lsM (.int (nI (ez_l h q)) :: rest))) : W p l e R s m args below meth c H locs cells slots Q (F0 m pc lsM (.ref (B + q) :: rest)) := by
  obtain ⟨ws, j, hP, -, hj, -⟩ := hR.get (p := q) (by omega)
  rcases hq with hq | hq | hq
  · rw [ez_ce_i hq] at hj
    exact va_alen hx hb hK hP j 0 hj (ty := .int) rfl rfl hd k
  · rw [ez_ce_l hq] at hj
    exact va_alen hx hb hK hP j 1 hj (ty := .long) rfl rfl hd k
  · rw [ez_ce_b hq] at hj
    exact va_alen hx hb hK hP j 2 hj (ty := .byte) rfl rfl hd k
theorem ez_setI_I (q x r : Nat) (y : Int32) : ez_I (ez_setI h q x y) r = ez_up2 (ez_I h) q x y r := rfl
theorem ez_ast (hx : p.tables.exec = Jvm.exec) (hb : c.code = cc) (hK : va_K D cl (ez_tys dA) s) (hR : ez_Rel D cl nf ty dA B h H) (hS : va_S (ez_A B) s.heap H locs) (hsz : s.heap.size + cells = B + 1 + ez_n h) {q : Nat} {x y : Int32} (hq : ez_t h q = 1000) (hi : vp_in x (ez_l h q)) (hd : decode cc pc = .ok (.iastore, 1))
    (k : ∀ (H1 : Heap) (locs1 : List Loc), ez_Rel D cl nf ty dA B (ez_setI h q x.toNatClampNeg y) H1 → va_S (ez_A B) s.heap H1 locs1 → W p l e R s m args below meth c H1 locs1 cells slots Q (F0 m (pc + 1) lsM rest)) : W p l e R s m args below meth c H locs cells slots Q (F0 m pc lsM (.int y :: .int x :: .ref (B + q) :: rest)) := by
  have hs0 := hR.1
  obtain ⟨ws, j, hP, hD, hj, hset⟩ := hR.get (p := q) (by omega)
  rw [ez_ce_i hq] at hj
  refine va_iast hx hb hK hP hD (ez_S_here hS) j 0 hj rfl hi hd fun H1 locs1 hP1 hD1 hS1 => ez_W_size fun hle => k H1 locs1 (hset _ _ H1 ?_ rfl (fun _ => rfl) ?_ ?_ hP1 hD1) (ez_S_step hS hS1)
  · have := hS1.1
    omega
  · intro r hr
    exact ez_ce_same rfl rfl (by rw [ez_setI_I, ez_up2_ne hr]) rfl rfl
  · rw [ez_ce_i (show ez_t (ez_setI h q x.toNatClampNeg y) q = 1000 from hq), ez_setI_I, ez_up2_row]
    rfl
theorem ez_bast (hx : p.tables.exec = Jvm.exec) (hb : c.code = cc) (hK : va_K D cl (ez_tys dA) s) (hR : ez_Rel D cl nf ty dA B h H) (hS : va_S (ez_A B) s.heap H locs) (hsz : s.heap.size + cells = B + 1 + ez_n h) {q : Nat} {x y : Int32} (hq : ez_t h q = 1003) (hi : vp_in x (ez_l h q)) (hd : decode cc pc = .ok (.bastore, 1))
    (k : ∀ (H1 : Heap) (locs1 : List Loc), ez_Rel D cl nf ty dA B (ez_setI h q x.toNatClampNeg y.toInt8.toInt32) H1 → va_S (ez_A B) s.heap H1 locs1 → W p l e R s m args below meth c H1 locs1 cells slots Q (F0 m (pc + 1) lsM rest)) : W p l e R s m args below meth c H locs cells slots Q (F0 m pc lsM (.int y :: .int x :: .ref (B + q) :: rest)) := by
  have hs0 := hR.1
  obtain ⟨ws, j, hP, hD, hj, hset⟩ := hR.get (p := q) (by omega)
  rw [ez_ce_b hq] at hj
  refine va_bast hx hb hK hP hD (ez_S_here hS) j 2 hj rfl hi hd fun H1 locs1 hP1 hD1 hS1 => ez_W_size fun hle => k H1 locs1 (hset _ _ H1 ?_ rfl (fun _ => rfl) ?_ ?_ hP1 hD1) (ez_S_step hS hS1)
  · have := hS1.1
    omega
  · intro r hr
    exact ez_ce_same rfl rfl (by rw [ez_setI_I, ez_up2_ne hr]) rfl rfl
  · rw [ez_ce_b (show ez_t (ez_setI h q x.toNatClampNeg y.toInt8.toInt32) q = 1003 from hq), ez_setI_I, ez_up2_row, vp_nar_byte]
    rfl
theorem ez_last (hx : p.tables.exec = Jvm.exec) (hb : c.code = cc) (hK : va_K D cl (ez_tys dA) s) (hR : ez_Rel D cl nf ty dA B h H) (hS : va_S (ez_A B) s.heap H locs) (hsz : s.heap.size + cells = B + 1 + ez_n h) {q : Nat} {x : Int32} {y : Int64} (hq : ez_t h q = 1002) (hi : vp_in x (ez_l h q)) (hd : decode cc pc = .ok (.lastore, 1))
    (k : ∀ (H1 : Heap) (locs1 : List Loc), ez_Rel D cl nf ty dA B (ez_setL h q x.toNatClampNeg y) H1 → va_S (ez_A B) s.heap H1 locs1 → W p l e R s m args below meth c H1 locs1 cells slots Q (F0 m (pc + 1) lsM rest)) : W p l e R s m args below meth c H locs cells slots Q (F0 m pc lsM (.long y :: .int x :: .ref (B + q) :: rest)) := by
  have hs0 := hR.1
  obtain ⟨ws, j, hP, hD, hj, hset⟩ := hR.get (p := q) (by omega)
  rw [ez_ce_l hq] at hj
  refine va_last hx hb hK hP hD (ez_S_here hS) j 1 hj rfl hi hd fun H1 locs1 hP1 hD1 hS1 => ez_W_size fun hle => k H1 locs1 (hset _ _ H1 ?_ rfl (fun _ => rfl) ?_ ?_ hP1 hD1) (ez_S_step hS hS1)
  · have := hS1.1
    omega
  · intro r hr
    exact ez_ce_same rfl rfl rfl (by show ez_up2 (ez_L h) q x.toNatClampNeg y r = _; rw [ez_up2_ne hr]) rfl
  · rw [ez_ce_l (show ez_t (ez_setL h q x.toNatClampNeg y) q = 1002 from hq), show ez_L (ez_setL h q x.toNatClampNeg y) q = _ from ez_up2_rowL]
    rfl
theorem ez_copy (hx : p.tables.exec = Jvm.exec) (hb : c.code = cc) (hml : c.maxLocals = lsM.size) (hown : s.vm.findClass own = some m.cls) (hts : ∀ w ∈ tbl, w.before args s = true) {idx : Nat} (hl1 : Cond.methodLink own idx arraycopyName ∈ tbl) (hl2 : Cond.native arraycopyName ∈ tbl) (hl3 : Cond.static arraycopyName ∈ tbl) (hl4 : Cond.initialized "java/lang/System" ∈ tbl) (hK : va_K D cl (ez_tys dA) s) (hR : ez_Rel D cl nf ty dA B h H) (hS : va_S (ez_A B) s.heap H locs) (hsz : s.heap.size + cells = B + 1 + ez_n h)
    {q1 q2 : Nat} {sp dp n : Int32} (hq1 : ez_t h q1 = 1000) (hq2 : ez_t h q2 = 1000) (h1 : ¬ sp < 0) (h2 : ¬ dp < 0) (h3 : ¬ n < 0) (h4 : sp.toNatClampNeg + n.toNatClampNeg ≤ ez_l h q1) (h5 : dp.toNatClampNeg + n.toNatClampNeg ≤ ez_l h q2)
    (hfr : 1 ≤ R.frames) (hlo : (rest.map fun v => v.category).sum + (nativeFrameWords "java/lang/System" "arraycopy" 5 + 11) ≤ R.locals) (hd : decode cc pc = .ok (.invokestatic idx, 3))
    (k : ∀ (H1 : Heap) (locs1 : List Loc), ez_Rel D cl nf ty dA B (ez_rowI h q2 (va_cpy (ez_I h q1) (ez_I h q2) sp.toNatClampNeg dp.toNatClampNeg n.toNatClampNeg)) H1 → va_S (ez_A B) s.heap H1 locs1 → W p l e R s m args below meth c H1 locs1 cells slots Q (F0 m (pc + 3) lsM rest)) : W p l e R s m args below meth c H locs cells slots Q (F0 m pc lsM (.int n :: .int dp :: .ref (B + q2) :: .int sp :: .ref (B + q1) :: rest)) := by
  have hs0 := hR.1
  obtain ⟨ws, hP, hD, hall, hset⟩ := hR.all
  obtain ⟨j1, hj1⟩ := hall q1 (by omega)
  obtain ⟨j, hj⟩ := hall q2 (by omega)
  replace hset := hset q2 j (by omega) hj
  rw [ez_ce_i hq2] at hj
  rw [ez_ce_i hq1] at hj1
  refine va_copyi hx hb hml hown (hts _ hl1) (hts _ hl2) (hts _ hl3) (hts _ hl4) hK hP hD (ez_S_here hS) j1 j 0 0 (ty := .int) hj1 hj rfl rfl rfl h1 h2 h3 h4 h5 (fun _ _ => rfl) hfr hlo hd fun H1 locs1 hP1 hD1 hS1 => ez_W_size fun hle => k H1 locs1 (hset _ _ H1 ?_ rfl (fun _ => rfl) ?_ ?_ hP1 hD1) (ez_S_step hS hS1)
  · have := hS1.1
    omega
  · intro r hr
    exact ez_ce_same rfl rfl (by show ez_row (ez_I h) q2 _ r = _; rw [ez_row_ne hr]) rfl rfl
  · rw [ez_ce_i (show ez_t (ez_rowI h q2 _) q2 = 1000 from hq2), show ez_I (ez_rowI h q2 _) q2 = _ from ez_row_at]
    rfl
end EZ6
end
section
/-- the words of an array type's tag -/
def ez_aty (at_ : ArrayType) (a : Nat) : Prop := (at_ = .int ∧ a = 1000) ∨ (at_ = .long ∧ a = 1002) ∨ (at_ = .byte ∧ a = 1003)
section EZ7
variable {p : Program} {l : Launch} {e : Env} {R : Room} {s : State} {m : MethodId} {args : Array Value} {below : List Frame} {meth : Method} {c : Code} {H : Heap} {locs : List Loc} {cells slots : Nat} {Q : State → Prop} {cc : ByteArray} {pc nL B : Nat} {ea : Nat → Nat} {lsM : Array Slot} {own : String} {tbl : List Cond} {rest : List Value}
variable {D : va_G} {cl : List vw_C} {nf : Nat → Nat} {ty : Nat → Nat → FieldType} {dA : Nat → ClassId} {h : ez_H}
theorem ez_S_grow {H0 H1 : Heap} (hS : va_S (ez_A B) H0 H locs) (hz : H1.size = H.size + 1) (ho : ∀ q : Nat, q < H.size → H1[q]? = H[q]?) : va_S (ez_A B) H0 H1 locs :=
  ⟨by have := hS.1; omega, fun q g1 g2 => (ho q (Nat.lt_of_lt_of_le g1 hS.1)).trans (hS.2.1 q g1 g2), hS.2.2⟩
theorem ez_newa (hx : p.tables.exec = Jvm.exec) (hb : c.code = cc) (hts : ∀ w ∈ tbl, w.before args s = true) (hK : va_K D cl (ez_tys dA) s) (hR : ez_Rel D cl nf ty dA B h H) (hS : va_S (ez_A B) s.heap H locs) {at_ : ArrayType} {a : Nat} (ha : ez_aty at_ a) (hw : Cond.arrayClass (newarray.typeOf at_) ∈ tbl) {x : Int32} (hx0 : ¬ x < 0) (hx1 : x.toNatClampNeg ≤ 200000) (hc : cells + 1 ≤ R.cells) (hs : slots + x.toNatClampNeg ≤ R.slots) (hd : decode cc pc = .ok (.newarray at_, 2))
    (k : ∀ H1 : Heap, ez_Rel D cl nf ty dA B (ez_new h a x.toNatClampNeg x.toNatClampNeg) H1 → va_S (ez_A B) s.heap H1 locs → W p l e R s m args below meth c H1 locs (cells + 1) (slots + x.toNatClampNeg) Q (F0 m (pc + 2) lsM (.ref (B + (ez_n h + 1)) :: rest))) : W p l e R s m args below meth c H locs cells slots Q (F0 m pc lsM (.int x :: rest)) := by
  have hs0 := hR.1
  have hbytes : x.toNatClampNeg * componentBytes (newarray.typeOf at_) ≤ 536870912 := by
    rcases ha with ⟨rfl, -⟩ | ⟨rfl, -⟩ | ⟨rfl, -⟩
    · show x.toNatClampNeg * 4 ≤ _; omega
    · show x.toNatClampNeg * 8 ≤ _; omega
    · show x.toNatClampNeg * 1 ≤ _; omega
  refine va_newaK hx hb (hts _ hw) rfl hd rfl hx0 rfl hbytes hc hs rfl fun H1 cA e1 z1 o1 hAr hNm => ?_
  have hcell : va_at D cl (H.size, ez_ce nf ty dA B (ez_new h a x.toNatClampNeg x.toNatClampNeg) (ez_n h + 1)) H1 := by
    have ht : ez_t (ez_new h a x.toNatClampNeg x.toNatClampNeg) (ez_n h + 1) = a := by
      show ez_up (ez_t h) (ez_n h + 1) a (ez_n h + 1) = a
      simp [ez_up]
    have hl : ez_l (ez_new h a x.toNatClampNeg x.toNatClampNeg) (ez_n h + 1) = x.toNatClampNeg := by
      show ez_up (ez_l h) (ez_n h + 1) _ (ez_n h + 1) = _
      simp [ez_up]
    have hI : ez_I (ez_new h a x.toNatClampNeg x.toNatClampNeg) (ez_n h + 1) = fun _ => 0 := by
      show ez_row (ez_I h) (ez_n h + 1) _ (ez_n h + 1) = _
      simp [ez_row]
    have hL : ez_L (ez_new h a x.toNatClampNeg x.toNatClampNeg) (ez_n h + 1) = fun _ => 0 := by
      show ez_row (ez_L h) (ez_n h + 1) _ (ez_n h + 1) = _
      simp [ez_row]
    rcases ha with ⟨rfl, rfl⟩ | ⟨rfl, rfl⟩ | ⟨rfl, rfl⟩
    · have hcA : cA = dA 1000 := Option.some.inj (hNm.symm.trans (hK.2 0 _ rfl).2)
      rw [ez_ce_i ht, hl, hI, ← hcA]
      exact e1
    · have hcA : cA = dA 1002 := Option.some.inj (hNm.symm.trans (hK.2 1 _ rfl).2)
      rw [ez_ce_l ht, hl, hL, ← hcA]
      exact e1
    · have hcA : cA = dA 1003 := Option.some.inj (hNm.symm.trans (hK.2 2 _ rfl).2)
      rw [ez_ce_b ht, hl, hI, ← hcA]
      exact e1
  have := k H1 (hR.push z1 o1 hcell) (ez_S_grow hS z1 o1)
  rw [show H.size = B + (ez_n h + 1) by omega]
  exact this
theorem ez_newo (hx : p.tables.exec = Jvm.exec) (hb : c.code = cc) (hown : s.vm.findClass own = some m.cls) (hts : ∀ w ∈ tbl, w.before args s = true) (hK : va_K D cl (ez_tys dA) s) (hR : ez_Rel D cl nf ty dA B h H) (hS : va_S (ez_A B) s.heap H locs) {a idx : Nat} {C : String} {T : u_T} (hC : ez_Cls tbl cl nf ty a C T) (h1 : Cond.classLink own idx C ∈ tbl) (h2 : Cond.instantiable C (nf a) ∈ tbl) (h3 : Cond.initialized C ∈ tbl) (hty : ∀ k, k < nf a → ty a k = .int ∨ ty a k = .boolean ∨ ty a k = .long ∨ (∃ n, ty a k = .object n) ∨ ∃ n, ty a k = .array n)
    (hc : cells + 1 ≤ R.cells) (hs : slots + nf a ≤ R.slots) (hd : decode cc pc = .ok (.new idx, 3))
    (k : ∀ H1 : Heap, ez_Rel D cl nf ty dA B (ez_new h a 0 (nf a)) H1 → va_S (ez_A B) s.heap H1 locs → W p l e R s m args below meth c H1 locs (cells + 1) (slots + nf a) Q (F0 m (pc + 3) lsM (.ref (B + (ez_n h + 1)) :: rest))) : W p l e R s m args below meth c H locs cells slots Q (F0 m pc lsM rest) := by
  have hs0 := hR.1
  obtain ⟨ha0, ha1, hcl, hws, hpd, -⟩ := hC
  have hKn := hK.1 (a - 1) _ hcl
  refine W.newcK hx hb hown (hts _ h1) (hts _ h2) (hts _ h3) rfl hd hc hs hKn.2.1 rfl fun H1 kC hkC e1 z1 o1 => ?_
  have hcell : va_at D cl (H.size, ez_ce nf ty dA B (ez_new h a 0 (nf a)) (ez_n h + 1)) H1 := by
    have ht : ez_t (ez_new h a 0 (nf a)) (ez_n h + 1) = a := by
      show ez_up (ez_t h) (ez_n h + 1) a (ez_n h + 1) = a
      simp [ez_up]
    have hI : ez_I (ez_new h a 0 (nf a)) (ez_n h + 1) = fun _ => 0 := by
      show ez_row (ez_I h) (ez_n h + 1) _ (ez_n h + 1) = _
      simp [ez_row]
    have hL : ez_L (ez_new h a 0 (nf a)) (ez_n h + 1) = fun _ => 0 := by
      show ez_row (ez_L h) (ez_n h + 1) _ (ez_n h + 1) = _
      simp [ez_row]
    have hRr : ez_R (ez_new h a 0 (nf a)) (ez_n h + 1) = fun _ => 0 := by
      show ez_row (ez_R h) (ez_n h + 1) _ (ez_n h + 1) = _
      simp [ez_row]
    rw [ez_ce_obj ht ha1]
    refine ⟨_, hcl, (u_born (ty a) hts hws hKn hkC e1 hpd).to fun j hj => ?_⟩
    show defaultValue (ty a j) = ((List.range (nf a)).map _).getD j .null
    rw [List.getD_eq_getElem?_getD, List.getElem?_map, List.getElem?_range hj]
    show defaultValue (ty a j) = ez_fv B (ty a j) _ _ j
    unfold ez_fv
    rw [hI, hL, hRr]
    rcases hty j hj with z | z | z | ⟨n, z⟩ | ⟨n, z⟩ <;> rw [z] <;> rfl
  have := k H1 (hR.push z1 o1 hcell) (ez_S_grow hS z1 o1)
  show W p l e R s m args below meth c H1 locs (cells + 1) (slots + nf a) Q (F0 m (pc + 3) lsM (.ref H.size :: rest))
  rw [show H.size = B + (ez_n h + 1) by omega]
  exact this
end EZ7
end
section
/-- what links an instruction: sta: the static arrays by their numbers; ini: the method is a constructor -/
def ez_lk (own : String) (tbl : List Cond) (cl : List vw_C) (nf : Nat → Nat) (ty : Nat → Nat → FieldType) (sta : Nat → String × String × String) (ini : Prop) (i : ClassFile.Instr) (a b k : Nat) : Prop := match i with
  | .getfield idx => ∃ (C : String) (T : u_T), ez_Cls tbl cl nf ty a C T ∧ b < nf a ∧ (Cond.fieldLink own idx (T b).1 (T b).2.1 (T b).2.2.1 ∈ tbl ∨ ∃ host, Cond.fieldLinkNest own idx (T b).1 (T b).2.1 (T b).2.2.1 host ∈ tbl) ∧ (k = 0 → ty a b = .int) ∧ (k = 1 → ty a b = .boolean) ∧ (k = 2 → ty a b = .long) ∧ (3 ≤ k → (∃ n, ty a b = .object n) ∨ ∃ n, ty a b = .array n)
  | .putfield idx => ∃ (C : String) (T : u_T), ez_Cls tbl cl nf ty a C T ∧ b < nf a ∧ (((T b).2.2.2 = false ∧ (Cond.fieldLink own idx (T b).1 (T b).2.1 (T b).2.2.1 ∈ tbl ∨ ∃ host, Cond.fieldLinkNest own idx (T b).1 (T b).2.1 (T b).2.2.1 host ∈ tbl)) ∨ ((T b).2.2.2 = true ∧ ini ∧ (T b).1 = own ∧ Cond.fieldLink own idx (T b).1 (T b).2.1 (T b).2.2.1 ∈ tbl)) ∧ (k = 0 → ty a b = .int) ∧ (k = 1 → ty a b = .boolean) ∧ (k = 2 → ty a b = .long) ∧ (3 ≤ k → (∃ n, ty a b = .object n) ∨ ∃ n, ty a b = .array n)
  | .getstatic idx => 0 < a ∧ (Cond.fieldLink own idx (sta a).1 (sta a).2.1 (sta a).2.2 ∈ tbl ∨ ∃ host, Cond.fieldLinkNest own idx (sta a).1 (sta a).2.1 (sta a).2.2 host ∈ tbl)
  | .newarray at_ => ez_aty at_ a ∧ Cond.arrayClass (newarray.typeOf at_) ∈ tbl
  | .new idx => ∃ (C : String) (T : u_T), ez_Cls tbl cl nf ty a C T ∧ b = nf a ∧ Cond.classLink own idx C ∈ tbl ∧ Cond.instantiable C (nf a) ∈ tbl ∧ Cond.initialized C ∈ tbl ∧ ∀ k, k < nf a → ty a k = .int ∨ ty a k = .boolean ∨ ty a k = .long ∨ (∃ n, ty a k = .object n) ∨ ∃ n, ty a k = .array n
  | .invokespecial idx => k = 0 → Cond.methodLink own idx Lib.objectInit ∈ tbl ∧ Cond.instanceMethod Lib.objectInit ∈ tbl ∧ Cond.code Lib.objectInit ⟨#[0xb1]⟩ 1 none ∈ tbl
  | .invokestatic idx => (k = 1 → Cond.methodLink own idx Lib.Math.max.name ∈ tbl ∧ Cond.static Lib.Math.max.name ∈ tbl ∧ Cond.initialized "java/lang/Math" ∈ tbl ∧ Cond.code Lib.Math.max.name Lib.Math.max.code 2 (some .int) ∈ tbl) ∧ (k = 2 → Cond.methodLink own idx Lib.Math.min.name ∈ tbl ∧ Cond.static Lib.Math.min.name ∈ tbl ∧ Cond.initialized "java/lang/Math" ∈ tbl ∧ Cond.code Lib.Math.min.name Lib.Math.min.code 2 (some .int) ∈ tbl) ∧ (3 ≤ k → Cond.methodLink own idx arraycopyName ∈ tbl ∧ Cond.native arraycopyName ∈ tbl ∧ Cond.static arraycopyName ∈ tbl ∧ Cond.initialized "java/lang/System" ∈ tbl)
  | _ => True
theorem ez_fv_ref {B : Nat} {t : FieldType} {h : ez_H} {q b : Nat} (ht : (∃ n, t = .object n) ∨ ∃ n, t = .array n) (hne : ¬ ez_R h q b = 0) : ez_fv B t h q b = .ref (B + ez_R h q b) := by
  rcases ht with ⟨n, rfl⟩ | ⟨n, rfl⟩ <;> (unfold ez_fv; simp only; rw [if_neg hne])
/-- what a field of another place holds stays -/
theorem ez_fv_I {B : Nat} {t : FieldType} {h : ez_H} {q b k : Nat} {x : Int32} (hk : k ≠ b) : ez_fv B t (ez_setI h q b x) q k = ez_fv B t h q k := by
  unfold ez_fv
  rw [show ez_I (ez_setI h q b x) q k = ez_I h q k from ez_up2_el hk]
  rfl
theorem ez_fv_L {B : Nat} {t : FieldType} {h : ez_H} {q b k : Nat} {x : Int64} (hk : k ≠ b) : ez_fv B t (ez_setL h q b x) q k = ez_fv B t h q k := by
  unfold ez_fv
  rw [show ez_L (ez_setL h q b x) q k = ez_L h q k from ez_up2_el hk]
  rfl
theorem ez_fv_R {B : Nat} {t : FieldType} {h : ez_H} {q b k : Nat} {x : Nat} (hk : k ≠ b) : ez_fv B t (ez_setR h q b x) q k = ez_fv B t h q k := by
  unfold ez_fv
  rw [show ez_R (ez_setR h q b x) q k = ez_R h q k from ez_up2_el hk]
  rfl
theorem ez_few_map {B : Nat} {ea : Nat → Nat} {r : List Value} (h : ez_few r = true) : ((r.map (ez_tr B ea)).map fun v => v.category).sum ≤ 8 := by
  have : ((r.map (ez_tr B ea)).map fun v => v.category) = r.map fun v => v.category := by
    rw [List.map_map]
    apply List.map_congr_left
    intro v _
    exact ez_tr_cat B ea v
  rw [this]
  exact Nat.le_of_ble_eq_true h
section EZ8
variable {p : Program} {l : Launch} {e : Env} {R : Room} {s : State} {m : MethodId} {args : Array Value} {below : List Frame} {meth : Method} {c : Code} {H : Heap} {locs : List Loc} {cells slots : Nat} {Q : State → Prop} {cc : ByteArray} {pc nL B : Nat} {ea : Nat → Nat} {lsM : Array Slot} {own : String} {tbl : List Cond} {st st' : List Value} {ls : List (Option Value)} {i : ClassFile.Instr}
variable {D : va_G} {cl : List vw_C} {nf : Nat → Nat} {ty : Nat → Nat → FieldType} {dA : Nat → ClassId} {h h' : ez_H} {sta : Nat → String × String × String} {E : Nat → Nat × (Nat → Int32)} {a b k n0 u0 : Nat} {cd : Prop}
set_option maxHeartbeats 2000000 in
theorem ez_sm_snd (hx : p.tables.exec = Jvm.exec) (hb : c.code = cc) (hml : c.maxLocals = lsM.size) (hown : s.vm.findClass own = some m.cls) (hts : ∀ w ∈ tbl, w.before args s = true) (hK : va_K D cl (ez_tys dA) s) (hR : ez_Rel D cl nf ty dA B h H) (hS : va_S (ez_A B) s.heap H locs)
    (hT : ∀ j, va_T .int (ea j) (E j).1 (fun i => .int ((E j).2 i)) (ez_A B) s s.heap) (hZ : ∀ j, 0 < j → va_Z (sta j).1 (sta j).2.1 (sta j).2.2 (.ref (ea j)) (ez_A B) s s.heap)
    (hs0 : s.heap.size = B + 1 + n0) (hn0 : n0 + cells = ez_n h) (hu0 : u0 + slots = ez_u h) (hn1 : ez_n h ≤ ez_MC) (hu1 : ez_u h ≤ ez_MS) (hcR : ez_MC ≤ n0 + R.cells) (hsR : ez_MS ≤ u0 + R.slots) (hfr : 1 ≤ R.frames) (hlo : 40 ≤ R.locals)
    (hd : decode cc pc = .ok (i, ez_ln i)) (hlk : ez_lk own tbl cl nf ty sta (meth.name = "<init>") i a b k) (ho : ez_sm E i a b k ls st h = some (cd, st', h')) (hcd : cd)
    (kk : ∀ (H1 : Heap) (locs1 : List Loc) (cells1 slots1 : Nat), ez_Rel D cl nf ty dA B h' H1 → va_S (ez_A B) s.heap H1 locs1 → n0 + cells1 = ez_n h' → u0 + slots1 = ez_u h' → ez_n h' ≤ ez_MC → ez_u h' ≤ ez_MS → W p l e R s m args below meth c H1 locs1 cells1 slots1 Q (F0 m (pc + ez_ln i) lsM (st'.map (ez_tr B ea)))) : W p l e R s m args below meth c H locs cells slots Q (F0 m pc lsM (st.map (ez_tr B ea))) := by
  have hsz : s.heap.size + cells = B + 1 + ez_n h := by omega
  have same : h' = h → W p l e R s m args below meth c H locs cells slots Q (F0 m (pc + ez_ln i) lsM (st'.map (ez_tr B ea))) := fun q => by
    subst q
    exact kk H locs cells slots hR hS hn0 hu0 hn1 hu1
  unfold ez_sm at ho
  split at ho
  · -- getfield
    obtain ⟨C, T, hC, hbn, hl, t0, t1, t2, t3⟩ := hlk
    split at ho
    · split at ho <;> cases ho
      · refine ez_getf hx hb hown hts hK hR hC hbn hcd hl hd ?_
        rw [t0 rfl]
        exact same rfl
      · refine ez_getf hx hb hown hts hK hR hC hbn hcd hl hd ?_
        rw [t1 rfl]
        exact same rfl
      · refine ez_getf hx hb hown hts hK hR hC hbn hcd hl hd ?_
        rw [t2 rfl]
        exact same rfl
      · refine ez_getf hx hb hown hts hK hR hC hbn hcd.1 hl hd ?_
        rw [ez_fv_ref (t3 (Nat.le_refl _)) hcd.2]
        exact same rfl
      · refine ez_getf hx hb hown hts hK hR hC hbn hcd.1 hl hd ?_
        rw [ez_fv_ref (t3 (by omega)) (by rw [hcd.2]; omega), hcd.2]
        exact same rfl
    · cases ho
  · -- putfield
    obtain ⟨C, T, hC, hbn, hl, t0, t1, t2, t3⟩ := hlk
    split at ho
    · split at ho <;> cases ho
      rename_i x q
      exact ez_putf hx hb hown hts hK hR hS hsz hC hbn hcd hl hd (by rw [t0 rfl]; rfl) (by rw [t0 rfl]; rfl) (ez_setI h q b x) rfl (fun _ => rfl) (fun r hr => ez_ce_same rfl rfl (by rw [ez_setI_I, ez_up2_ne hr]) rfl rfl) (fun k hk => ez_fv_I hk) (by rw [t0 rfl]; exact congrArg Value.int ez_up2_at) fun H1 locs1 r1 s1 => kk H1 locs1 cells slots r1 s1 hn0 hu0 hn1 hu1
    · split at ho <;> cases ho
      rename_i x q
      exact ez_putf hx hb hown hts hK hR hS hsz hC hbn hcd.1 hl hd (by rw [t1 rfl]; rcases hcd.2 with z | z <;> rw [z] <;> rfl) (by rw [t1 rfl]; rcases hcd.2 with z | z <;> rw [z] <;> rfl) (ez_setI h q b x) rfl (fun _ => rfl) (fun r hr => ez_ce_same rfl rfl (by rw [ez_setI_I, ez_up2_ne hr]) rfl rfl) (fun k hk => ez_fv_I hk) (by rw [t1 rfl]; exact congrArg Value.int ez_up2_at) fun H1 locs1 r1 s1 => kk H1 locs1 cells slots r1 s1 hn0 hu0 hn1 hu1
    · split at ho <;> cases ho
      rename_i x q
      exact ez_putf hx hb hown hts hK hR hS hsz hC hbn hcd hl hd (by rw [t2 rfl]; rfl) (by rw [t2 rfl]; rfl) (ez_setL h q b x) rfl (fun _ => rfl) (fun r hr => ez_ce_same rfl rfl rfl (ez_up2_ne hr) rfl) (fun k hk => ez_fv_L hk) (by rw [t2 rfl]; exact congrArg Value.long ez_up2_at) fun H1 locs1 r1 s1 => kk H1 locs1 cells slots r1 s1 hn0 hu0 hn1 hu1
    · split at ho <;> cases ho
      rename_i q1 q2
      have hz := t3 (by omega)
      have e1 : ez_R (ez_setR h q2 b q1) q2 b = q1 := ez_up2_at
      refine ez_putf hx hb hown hts hK hR hS hsz hC hbn hcd.1 hl hd (v := .ref (B + q1)) (by rcases hz with ⟨n, z⟩ | ⟨n, z⟩ <;> rw [z] <;> rfl) (by rcases hz with ⟨n, z⟩ | ⟨n, z⟩ <;> rw [z] <;> rfl) (ez_setR h q2 b q1) rfl (fun _ => rfl) (fun r hr => ez_ce_same rfl rfl rfl rfl (ez_up2_ne hr)) (fun k hk => ez_fv_R hk) ?_ fun H1 locs1 r1 s1 => kk H1 locs1 cells slots r1 s1 hn0 hu0 hn1 hu1
      rw [ez_fv_ref hz (by rw [e1]; exact hcd.2), e1]
  · -- getstatic
    cases ho
    obtain ⟨ha, hl | ⟨host, hl⟩⟩ := hlk
    · exact va_gets hx hb (hZ a ha) hS hown (hts _ hl) (fun _ z => z) hd (same rfl)
    · exact va_getsN hx hb (hZ a ha) hS hown (hts _ hl) (fun _ z => z) hd (same rfl)
  · -- iaload
    split at ho <;> cases ho
    · exact ez_ald hx hb hK hR hcd.1 hcd.2 hd (same rfl)
    · rename_i x j r
      exact va_ti hx hb (hT j) hS hcd rfl hd (same rfl)
  · split at ho <;> cases ho
    exact ez_bald hx hb hK hR hcd.1 hcd.2 hd (same rfl)
  · split at ho <;> cases ho
    exact ez_lald hx hb hK hR hcd.1 hcd.2 hd (same rfl)
  · split at ho <;> cases ho
    exact ez_ast hx hb hK hR hS hsz hcd.1 hcd.2 hd fun H1 locs1 r1 s1 => kk H1 locs1 cells slots r1 s1 hn0 hu0 hn1 hu1
  · split at ho <;> cases ho
    exact ez_bast hx hb hK hR hS hsz hcd.1 hcd.2 hd fun H1 locs1 r1 s1 => kk H1 locs1 cells slots r1 s1 hn0 hu0 hn1 hu1
  · split at ho <;> cases ho
    exact ez_last hx hb hK hR hS hsz hcd.1 hcd.2 hd fun H1 locs1 r1 s1 => kk H1 locs1 cells slots r1 s1 hn0 hu0 hn1 hu1
  · -- arraylength
    split at ho <;> cases ho
    · exact ez_alen hx hb hK hR hcd hd (same rfl)
    · rename_i j r
      exact va_tlen hx hb (hT j) hS rfl hd (same rfl)
  · split at ho <;> cases ho
    exact lv_idiv hx hb hd hcd (same rfl)
  · split at ho <;> cases ho
    exact lv_irem hx hb hd hcd (same rfl)
  · -- newarray
    split at ho <;> cases ho
    obtain ⟨g1, g2, g3, g4⟩ := hcd
    refine ez_newa hx hb hts hK hR hS hlk.1 hlk.2 g1 g2 (by omega) (by omega) hd fun H1 r1 s1 => kk H1 locs _ _ r1 s1 ?_ ?_ g3 g4
    · show n0 + (cells + 1) = ez_n h + 1
      omega
    · show u0 + (slots + _) = ez_u h + _
      omega
  · -- new
    cases ho
    obtain ⟨C, T, hC, rfl, h1, h2, h3, h4⟩ := hlk
    obtain ⟨g3, g4⟩ := hcd
    refine ez_newo hx hb hown hts hK hR hS hC h1 h2 h3 h4 (by omega) (by omega) hd fun H1 r1 s1 => kk H1 locs _ _ r1 s1 ?_ ?_ g3 g4
    · show n0 + (cells + 1) = ez_n h + 1
      omega
    · show u0 + (slots + _) = ez_u h + _
      omega
  · -- Object.<init>
    split at ho
    · split at ho <;> cases ho
      obtain ⟨h1, h2, h3⟩ := hlk rfl
      have hw := ez_few_map (B := B) (ea := ea) hcd
      refine W.objInit hx hb hown (hts _ h1) (hts _ h2) (hts _ h3) rfl hml.symm rfl hd hfr ?_ (same rfl)
      show 2 * 0 + _ + 12 ≤ _
      omega
    · cases ho
  · -- max, min, arraycopy
    obtain ⟨l1, l2, l3⟩ := hlk
    split at ho
    · cases ho
    · split at ho <;> cases ho
      obtain ⟨h1, h2, h3, h4⟩ := l1 rfl
      have hw := ez_few_map (B := B) (ea := ea) hcd
      exact va_mmax hx hb hml hown (hts _ h1) (hts _ h2) (hts _ h3) (hts _ h4) hfr (by omega) (by omega) (by omega) hd (same rfl)
    · split at ho <;> cases ho
      obtain ⟨h1, h2, h3, h4⟩ := l2 rfl
      have hw := ez_few_map (B := B) (ea := ea) hcd
      exact va_mmin hx hb hml hown (hts _ h1) (hts _ h2) (hts _ h3) (hts _ h4) hfr (by omega) (by omega) (by omega) hd (same rfl)
    · split at ho <;> cases ho
      obtain ⟨h1, h2, h3, h4⟩ := l3 (by omega)
      obtain ⟨g0, ⟨g1, g2⟩, g3, g4, g5, g6, g7⟩ := hcd
      have hw := ez_few_map (B := B) (ea := ea) g0
      have e1 : nativeFrameWords "java/lang/System" "arraycopy" 5 = 7 := by decide
      exact ez_copy hx hb hml hown hts h1 h2 h3 h4 hK hR hS hsz g1 g2 g3 g4 g5 g6 g7 hfr (by rw [e1]; omega) hd fun H1 locs1 r1 s1 => kk H1 locs1 cells slots r1 s1 hn0 hu0 hn1 hu1
  · cases ho
end EZ8
end
section
/-- how the machine ends where the pure one ends with r -/
def ez_Out (B : Nat) (ea : Nat → Nat) (exn : Nat → String) (s : State) (r : ez_O) (o : Outcome) (t : State) : Prop := match r with
  | .inl v => o = .returned (v.map (ez_tr B ea))
  | .inr x => ∃ (a : Addr) (cell : Cell), o = .threw a ∧ t.heap[a]? = some cell ∧ cell.vm.isStatics = false ∧ s.vm.findClass (exn x) = some cell.cls
def ez_End (D : va_G) (cl : List vw_C) (nf : Nat → Nat) (ty : Nat → Nat → FieldType) (dA : Nat → ClassId) (B : Nat) (ea : Nat → Nat) (exn : Nat → String) (s : State) (n0 u0 : Nat) (Q : ez_Q) (o : Outcome) (t : State) : Prop :=
  ∃ (r : ez_O) (h' : ez_H), Q r h' ∧ ez_Out B ea exn s r o t ∧ ez_Rel D cl nf ty dA B h' t.heap ∧ s.WarmedH t.vm ∧ (n0 ≤ ez_n h' ∧ u0 ≤ ez_u h' ∧ ez_n h' ≤ ez_MC ∧ ez_u h' ≤ ez_MS) ∧ (∀ q : Nat, q < s.heap.size → ¬ ez_A B q → t.heap[q]? = s.heap[q]?) ∧ s.heap.size ≤ t.heap.size ∧
    ∃ L : List Loc, s.sameButNew ({ t with vm := s.vm } : State) L (ez_n h' - n0) (ez_u h' - u0) ∧ ∀ q ∈ L, ez_A B q.base
def ez_Fin (D : va_G) (cl : List vw_C) (nf : Nat → Nat) (ty : Nat → Nat → FieldType) (dA : Nat → ClassId) (B : Nat) (ea : Nat → Nat) (exn : Nat → String) (below : List Frame) (s : State) (n0 u0 : Nat) (Q : ez_Q) : State → Prop := fun t => ∃ o : Outcome, t.status = .running ∧ Ended t below o ∧ ez_End D cl nf ty dA B ea exn s n0 u0 Q o t
section EZ9
variable {p : Program} {l : Launch} {e : Env} {R : Room} {s : State} {m : MethodId} {args : Array Value} {below : List Frame} {meth : Method} {c : Code} {H : Heap} {locs : List Loc} {cells slots : Nat} {cc : ByteArray} {pc nL B : Nat} {ea : Nat → Nat} {lsM : Array Slot} {own : String} {tbl : List Cond} {st st' : List Value} {ls : List (Option Value)} {i : ClassFile.Instr}
variable {D : va_G} {cl : List vw_C} {nf : Nat → Nat} {ty : Nat → Nat → FieldType} {dA : Nat → ClassId} {h h' : ez_H} {a n0 u0 : Nat} {cd : Prop} {Q : ez_Q} {exn : Nat → String}
theorem ez_W_mono {Q1 Q2 : State → Prop} {g : JFrame} (hQ : ∀ t, Q1 t → Q2 t) (k : W p l e R s m args below meth c H locs cells slots Q1 g) : W p l e R s m args below meth c H locs cells slots Q2 g := fun T hT X => by
  obtain ⟨t, a1, b1⟩ := k T hT X
  exact ⟨t, a1, hQ t b1⟩
/-- the end of a method, as the pure machine sees it -/
theorem ez_fin_of {r : Option Value} (hR : ez_Rel D cl nf ty dA B h H) (hS : va_S (ez_A B) s.heap H locs) (hn0 : n0 + cells = ez_n h) (hu0 : u0 + slots = ez_u h) (hn1 : ez_n h ≤ ez_MC) (hu1 : ez_u h ≤ ez_MS) (hQ : Q (.inl r) h) {t : State}
    (ht : MQ below (fun _ st o t => o = .returned (r.map (ez_tr B ea)) ∧ t.heap = H) args s cells slots (ez_A B) t) : ez_Fin D cl nf ty dA B ea exn below s n0 u0 Q t := by
  obtain ⟨o, h1, h2, ⟨h3, h4⟩, L, ⟨-, h5, h6⟩, h7⟩ := ht
  refine ⟨o, h1, h2, .inl r, h, hQ, h3, by rw [h4]; exact hR, h5, ⟨by omega, by omega, hn1, hu1⟩, fun q g1 g2 => by rw [h4]; exact hS.2.1 q g1 g2, by rw [h4]; exact hS.1, L, ?_, h7⟩
  rw [show ez_n h - n0 = cells by omega, show ez_u h - u0 = slots by omega]
  exact h6
theorem ez_rt_snd (hx : p.tables.exec = Jvm.exec) (hb : c.code = cc) (hlocks : meth.locks = false) (hret : (i = .ireturn → meth.sig.returnType = if a = 0 then some .int else some .boolean) ∧ (i = .lreturn → meth.sig.returnType = some .long) ∧ (i = .return_ → meth.sig.returnType = none)) (hR : ez_Rel D cl nf ty dA B h H) (hS : va_S (ez_A B) s.heap H locs) (hn0 : n0 + cells = ez_n h) (hu0 : u0 + slots = ez_u h) (hn1 : ez_n h ≤ ez_MC) (hu1 : ez_u h ≤ ez_MS)
    (hd : decode cc pc = .ok (i, ez_ln i)) {r : Option Value} (ho : ez_rt i a st = some (cd, r)) (hcd : cd) (hQ : Q (.inl r) h) : W p l e R s m args below meth c H locs cells slots (ez_Fin D cl nf ty dA B ea exn below s n0 u0 Q) (F0 m pc lsM (st.map (ez_tr B ea))) := by
  unfold ez_rt at ho
  split at ho
  · split at ho <;> cases ho
    have h1 := hret.1 rfl
    cases a with
    | zero =>
      refine ez_W_mono (fun t ht => ez_fin_of hR hS hn0 hu0 hn1 hu1 hQ ht) (W.iret hx hb h1 (fun t ht _ => ⟨rfl, ht⟩) hS.2.2 hd (hlocks := hlocks))
    | succ a =>
      refine ez_W_mono (fun t ht => ez_fin_of hR hS hn0 hu0 hn1 hu1 hQ ht) (W.zret hx hb h1 (by rcases hcd with z | z <;> rw [z] <;> rfl) (fun t ht _ => ⟨rfl, ht⟩) hS.2.2 hd (hlocks := hlocks))
  · split at ho <;> cases ho
    have h1 := hret.2.1 rfl
    exact ez_W_mono (fun t ht => ez_fin_of hR hS hn0 hu0 hn1 hu1 hQ ht) (W.lret hx hb h1 (fun t ht _ => ⟨rfl, ht⟩) hS.2.2 hd (hlocks := hlocks))
  · split at ho <;> cases ho
    have h1 := hret.2.2 rfl
    exact ez_W_mono (fun t ht => ez_fin_of hR hS hn0 hu0 hn1 hu1 hQ ht) (W.vret hx hb h1 (fun t ht _ => ⟨rfl, ht⟩) hS.2.2 hd (hlocks := hlocks))
  · cases ho
end EZ9
/-! switches -/
theorem ez_sw_off {pc : Nat} {df : Int} {x : Int32} {K : Nat → Prop} : ∀ l : List (Int × Int), (∀ q ∈ l, (Int32.ofInt q.1).toInt = q.1) → ez_sw pc df x K l → K ((pc : Int) + Op.lookupswitch.offset l df x.toInt).toNat
  | [], _, H => H
  | (c, o) :: r, hr, H => by
    have hc : (Int32.ofInt c).toInt = c := hr (c, o) List.mem_cons_self
    by_cases hx : x = Int32.ofInt c
    · have := H.1 hx
      have e1 : Op.lookupswitch.offset ((c, o) :: r) df x.toInt = o := by
        rw [hx, hc]
        simp [Op.lookupswitch.offset]
      rw [e1]
      exact this
    · rw [lv_osw (k := Int32.ofInt c) hx hc]
      exact ez_sw_off r (fun q hq => hr q (List.mem_cons_of_mem _ hq)) (H.2 hx)
theorem ez_tab_off {df z : Int} : ∀ (os : List Int) (lo : Int), Op.lookupswitch.offset (ez_tab lo os) df z = if lo ≤ z ∧ z < lo + os.length then os.getD (z - lo).toNat 0 else df
  | [], lo => by
    have : ¬ (lo ≤ z ∧ z < lo + (([] : List Int).length : Int)) := by simp
    rw [if_neg this]
    rfl
  | o :: r, lo => by
    have ih := ez_tab_off (df := df) (z := z) r (lo + 1)
    by_cases hz : z = lo
    · subst hz
      rw [if_pos (by simp; omega)]
      simp [ez_tab, Op.lookupswitch.offset]
    · have e1 : Op.lookupswitch.offset (ez_tab lo (o :: r)) df z = Op.lookupswitch.offset (ez_tab (lo + 1) r) df z := by
        simp [ez_tab, Op.lookupswitch.offset, Ne.symm hz]
      rw [e1, ih]
      by_cases hc : lo + 1 ≤ z ∧ z < lo + 1 + r.length
      · rw [if_pos hc, if_pos (by simp; omega)]
        rw [show (z - lo).toNat = (z - (lo + 1)).toNat + 1 by omega]
        simp
      · rw [if_neg hc, if_neg (by simp; omega)]
/-- where a jump leads is a place of the code -/
def ez_jk (i : ClassFile.Instr) (pc a : Nat) : Prop := match i with
  | .goto off => (pc : Int) + off = (a : Int)
  | .tableswitch df lo hi os => (∀ o ∈ os.toList, 0 ≤ (pc : Int) + o) ∧ 0 ≤ (pc : Int) + df ∧ hi = lo + os.toList.length - 1 ∧ ∀ q ∈ ez_tab lo os.toList, (Int32.ofInt q.1).toInt = q.1
  | .lookupswitch df ps => (∀ q ∈ ps.toList, 0 ≤ (pc : Int) + q.2) ∧ 0 ≤ (pc : Int) + df ∧ (ps.toList.zip (ps.toList.drop 1)).all (fun (a, next) => a.1 < next.1) = true ∧ ∀ q ∈ ps.toList, (Int32.ofInt q.1).toInt = q.1
  | _ => True
theorem ez_off_in {pc : Nat} {df z : Int} : ∀ l : List (Int × Int), (∀ q ∈ l, 0 ≤ (pc : Int) + q.2) → 0 ≤ (pc : Int) + df → 0 ≤ (pc : Int) + Op.lookupswitch.offset l df z
  | [], _, hd => hd
  | (c, o) :: r, hl, hd => by
    by_cases hz : z = c
    · rw [hz]
      have e1 : Op.lookupswitch.offset ((c, o) :: r) df c = o := by simp [Op.lookupswitch.offset]
      rw [e1]
      exact hl (c, o) List.mem_cons_self
    · have e1 : Op.lookupswitch.offset ((c, o) :: r) df z = Op.lookupswitch.offset r df z := by simp [Op.lookupswitch.offset, Ne.symm hz]
      rw [e1]
      exact ez_off_in r (fun q hq => hl q (List.mem_cons_of_mem _ hq)) hd
theorem ez_tab_mem : ∀ (os : List Int) (lo : Int), ∀ q ∈ ez_tab lo os, q.2 ∈ os
  | [], _, _, h => by cases h
  | o :: r, lo, q, h => by
    rcases List.mem_cons.mp h with rfl | h
    · exact List.mem_cons_self
    · exact List.mem_cons_of_mem _ (ez_tab_mem r (lo + 1) q h)
section EZ10
variable {p : Program} {l : Launch} {e : Env} {R : Room} {s : State} {m : MethodId} {args : Array Value} {below : List Frame} {meth : Method} {c : Code} {H : Heap} {locs : List Loc} {cells slots : Nat} {cc : ByteArray} {pc B a : Nat} {ea : Nat → Nat} {lsM : Array Slot} {st st' : List Value} {i : ClassFile.Instr} {Q : State → Prop}
theorem ez_jp_snd (hx : p.tables.exec = Jvm.exec) (hb : c.code = cc) {len : Nat} (hd : decode cc pc = .ok (i, len)) (hlen : ∀ o, i = .goto o → len = 3) (hj : ez_jk i pc a) {J : (Nat → Prop) → Prop} (ho : ez_jp i pc a st = (some J, st')) {K : Nat → Prop} (hJ : J K)
    (k : ∀ t, K t → W p l e R s m args below meth c H locs cells slots Q (F0 m t lsM (st'.map (ez_tr B ea)))) : W p l e R s m args below meth c H locs cells slots Q (F0 m pc lsM (st.map (ez_tr B ea))) := by
  unfold ez_jp at ho
  split at ho
  · rename_i off
    cases ho
    have h3 : len = 3 := hlen off rfl
    subst h3
    exact lv_goto hx hb hd hj (k a hJ)
  · rename_i df lo hi os
    split at ho <;> cases ho
    rename_i x
    obtain ⟨j1, j2, j3, j4⟩ := hj
    have hk := ez_sw_off _ j4 hJ
    have hpos := ez_off_in (pc := pc) (df := df) (z := x.toInt) (ez_tab lo os.toList) (fun q hq => j1 _ (ez_tab_mem _ _ q hq)) j2
    have hoff := ez_tab_off (df := df) (z := x.toInt) os.toList lo
    by_cases hc : lo ≤ x.toInt ∧ x.toInt < lo + os.toList.length
    · rw [if_pos hc] at hoff
      have hlt : (x.toInt - lo).toNat < os.toList.length := by omega
      have hget : os[(x.toInt - lo).toNat]? = some (Op.lookupswitch.offset (ez_tab lo os.toList) df x.toInt) := by
        rw [hoff, ← Array.getElem?_toList, List.getElem?_eq_getElem hlt, List.getD_eq_getElem?_getD, List.getElem?_eq_getElem hlt]
        rfl
      refine lv_tableIn hx hb hd (by omega) (by omega) hget (tgt := _) ?_ (k _ hk)
      omega
    · rw [if_neg hc] at hoff
      refine lv_tableOut hx hb hd (by omega) (tgt := _) ?_ (k _ hk)
      rw [hoff]
      rw [hoff] at hpos
      omega
  · rename_i df ps
    split at ho <;> cases ho
    rename_i x
    obtain ⟨j1, j2, j3, j4⟩ := hj
    have hk := ez_sw_off _ j4 hJ
    have hpos := ez_off_in (pc := pc) (df := df) (z := x.toInt) ps.toList j1 j2
    refine lv_lookup hx hb hd j3 rfl (tgt := _) ?_ (k _ hk)
    omega
  · cases ho
end EZ10
end
section
/-! A CALL, HOWEVER IT ENDS -/
section EZ11
variable {p : Program} {l : Launch} {e : Env} {R : Room} {s : State} {m : MethodId} {sargs : Array Value} {below : List Frame} {meth : Method} {c : Code} {U : State} {locs : List Loc} {cells slots : Nat}
/-- the caller behind a call that left t: heap, book and tables are the callee's -/
abbrev ez_bk (U t : State) : State := (({ U with heap := t.heap, slotsUsed := t.slotsUsed } : State).setVm t.vm)
def ez_bkTo (g : JFrame) (V : State) (o : Outcome) : State := match o with
  | .returned v => V.setTop { g with pc := g.pc + 3, stack := v.toList ++ g.stack }
  | .threw x => (V.setTop g).pushFrame (.throwing x)
/-- only frames, heap, book and tables move in a call: so the state behind it is the caller's, with other frames -/
theorem ez_bk_eq {g : JFrame} {mk : MethodId} {a : Array Value} {t : State} {L : List Loc} {k n : Nat} (htop : U.topJava?.isSome) (hs : (U.calling g mk a).sameButNew ({ t with vm := (U.calling g mk a).vm } : State) L k n) : t = (ez_bk U t).setFrames t.frames := by
  have h1 : ({ t with vm := (U.calling g mk a).vm } : State) = { (U.calling g mk a).setFrames t.frames with heap := t.heap, slotsUsed := t.slotsUsed } := hs.1
  have h2 : (U.calling g mk a).setFrames t.frames = U.setFrames t.frames := by
    rw [State.calling_eq htop, State.setFrames_setFrames]
  rw [h2] at h1
  exact congrArg (fun z : State => z.setVm t.vm) h1
theorem ez_bk_stand (X : Stand p l e R s m sargs below meth c U locs cells slots) {g : JFrame} {mk : MethodId} {a : Array Value} {t : State} {L : List Loc} {k n : Nat} (hW : (U.calling g mk a).WarmedH t.vm) (hs : (U.calling g mk a).sameButNew ({ t with vm := (U.calling g mk a).vm } : State) L k n) : Stand p l e R s m sargs below meth c (ez_bk U t) (locs ++ L) (cells + k) (slots + n) := by
  have hWU : U.WarmedH t.vm := hW
  obtain ⟨g₀, hfr⟩ := X.frames_eq
  obtain ⟨z, hz, -⟩ := State.frames_cons hfr
  refine X.moved ((X.here.setHeapUsed t.heap t.slotsUsed).setVm hWU.alike) X.tail rfl rfl hWU ⟨?_, hs.2⟩
  show ({ U with heap := t.heap, slotsUsed := t.slotsUsed } : State) = { U.setFrames U.frames with heap := t.heap, slotsUsed := t.slotsUsed }
  rw [State.setFrames_self hz]
theorem ez_back {y : MethodName} {S : Spec} {P : Array Value → State → Prop} {Qf : Array Value → State → Outcome → State → Prop} (hM : MetFree l y S P (fun _ _ _ _ _ => True) Qf) {maxL : Nat} (hframes : S.room.frames + 1 ≤ R.frames) (hlocals : 8 + (maxL + 11) + S.room.locals ≤ R.locals)
    (X : Stand p l e R s m sargs below meth c U locs cells slots) {g : JFrame} {ig : Instr} {mk : MethodId} {a : Array Value} (hg : g.method = m) (hsize : g.locals.size = c.maxLocals) (hdg : decode c.code g.pc = .ok (ig, 3)) (hW : 2 * g.monitorRoom + (g.stack.map fun v => v.category).sum ≤ 8) (hn : U.methodNamed? y = some mk)
    {methY : Method} {cY : Code} (hmY : U.vm.method? mk = some methY) (hcY : methY.code = some cY) (hlY : cY.maxLocals = maxL) (hini : (Cond.initialized y.cls).before a U = true) (hpre : S.pre.before a U = true) (hcells : cells + S.room.cells ≤ R.cells) (hslots : slots + S.room.slots ≤ R.slots) (hP : P a (U.calling g mk a)) :
    ∃ (o : Outcome) (t : State), Qf a (U.calling g mk a) o t ∧ ∀ (L : List Loc) (k n : Nat), (U.calling g mk a).WarmedH t.vm → (U.calling g mk a).sameButNew ({ t with vm := (U.calling g mk a).vm } : State) L k n →
      Stand p l e R s m sargs below meth c (ez_bk U t) (locs ++ L) (cells + k) (slots + n) ∧ Steps p.tables e below (doInvoke e (U.setTop g) [] mk a).1 (ez_bkTo g (ez_bk U t) o) := by
  subst hg
  have hat := X.here
  obtain ⟨g₀, hfr⟩ := X.frames_eq
  obtain ⟨kY, hkY, -⟩ := className_of_methodNamed hn
  have hroom := X.room_calling (g := g) (R' := S.room) (m' := mk) (args' := a) hsize hmY hcY hframes (by rw [hlY]; omega) hcells hslots
  have happ := Spec.appliesLoose_calling (S := S) (e := e) (args := a) (g := g) hat hdg hn hkY (Cond.initialized_spec (findClass_of_methodNamed hn) hkY hini) hroom hpre
  have hft : (U.setTop g).frames = .java g :: below := by rw [State.frames_setTop' g hat.top, X.tail]
  obtain ⟨o, t, hsteps, -, hend, hq⟩ := Steps.callFree hM p X.admits X.cas X.clock (acts := []) (mid := [.java g]) hft happ hP trivial
  refine ⟨o, t, hq, fun L k n hW2 hs2 => ⟨ez_bk_stand X hW2 hs2, ?_⟩⟩
  have he := ez_bk_eq hat.top hs2
  rw [hft] at hend
  have hfb : (ez_bk U t).frames = .java g₀ :: below := hfr
  suffices hkey : t = ez_bkTo g (ez_bk U t) o by rw [← hkey]; exact hsteps
  cases o with
  | threw x =>
    have hf : t.frames = .throwing x :: .java g :: below := hend
    rw [hf] at he
    show t = ((ez_bk U t).setTop g).pushFrame (.throwing x)
    rw [State.pushFrame, State.setTop_of_frames _ hfb, State.setFrames_setFrames, State.frames_setFrames _ (State.cur_lt_of_frames hfb)]
    exact he
  | returned v =>
    obtain ⟨c₂, i₂, n₂, hc₂, hd₂, hf⟩ := hend
    have hWU : U.WarmedH t.vm := hW2
    have hcc : c₂ = c := by
      have hz : t.code? g.method = some c := by
        rw [State.code?_eq, hWU.alike.method?, ← State.code?_eq]
        exact hat.code
      exact Option.some.inj (hc₂.symm.trans hz)
    subst hcc
    cases hdg.symm.trans hd₂
    rw [hf] at he
    show t = (ez_bk U t).setTop { g with pc := g.pc + 3, stack := v.toList ++ g.stack }
    rw [State.setTop_of_frames _ hfb]
    exact he
end EZ11
end
section
/-! AN EXCEPTION IS CAUGHT, also where a class of the table is looked up for the first time -/
/-- one entry that covers the place: its class is looked up (the tables grow warmer by that), then the object fits or it doesn't -/
theorem ez_go_link {e : Env} {d : Bool} {acts : List Action} {s : State} {f : JFrame} {a : Addr} {Q : Handler → Pre} {E : CtlPost} {x : ExceptionTableEntry} {t : List ExceptionTableEntry} {c : ClassId} {cell : Cell} (hx : covers x f.pc = true) (h0 : x.catchType ≠ 0) (hl : s.vm.ClassLinks e.platform f.method.cls x.catchType c) (hcell : s.heap[a]? = some cell) (hobj : cell.vm.isStatics = false)
    (hk : ∃ k, s.vm.classes[cell.cls]? = some k) (hc : ∃ k, s.vm.classes[c]? = some k) {b : Bool} (hfit : s.vm.assignable cell.cls c = b) :
    wp (findHandler.go f a (x :: t)) Q E e d acts s ↔ (if b = true then Q (.found x.handlerPc) d acts (s.setVm (s.vm.noted f.method.cls x.catchType (.cls c))) else wp (findHandler.go f a t) Q E e d acts (s.setVm (s.vm.noted f.method.cls x.catchType (.cls c)))) := by
  have hal : s.vm.Alike (s.vm.noted f.method.cls x.catchType (.cls c)) := Vm.Alike.noted (Vm.Alike.refl s.vm) _ _ _
  have warm : ∀ i : ClassId, (∃ k, s.vm.classes[i]? = some k) → ∃ k, (s.vm.noted f.method.cls x.catchType (.cls c)).classes[i]? = some k := fun i hi => by
    obtain ⟨k, hk⟩ := hi
    obtain ⟨k', hk', -⟩ := hal.2.2 _ _ hk
    exact ⟨k', hk'⟩
  obtain ⟨k1, hk1⟩ := warm _ hk
  obtain ⟨k2, hk2⟩ := warm _ hc
  have hf := (hal.assignable cell.cls c).trans hfit
  have hst := VmData.ne_statics_of hobj
  obtain ⟨r1, r2⟩ := (resolveClass_links e.toSetting hl).op (op := VmOp.resolveClass f.method.cls x.catchType) rfl
  have hx' : (decide (x.startPc ≤ f.pc) && decide (f.pc < x.endPc)) = true := hx
  cases b <;> simp [findHandler.go, hx', h0, r1, r2, hcell, hst, hk1, hk2, hf, VmOp.dirties, VmOp.acts]
/-- the step from the note 'is thrown' to the handler that the search finds, with the tables that it leaves -/
theorem ez_caught {tb : Tables} {e : Env} {s target : State} {g : JFrame} {c : Code} {below : List Frame} {a : Addr} (h : At s g.method c below) (htail : s.frames.tail = below) {pc : Nat} {vm' : Vm}
    (hfind : ∀ (Q : Handler → Pre) (E : CtlPost) (d : Bool) (acts : List Action), wp (findHandler g a) Q E e d acts ((s.setTop g).pushFrame (.throwing a)) ↔ Q (.found pc) d acts (((s.setTop g).pushFrame (.throwing a)).setVm vm'))
    (hrest : Steps tb e below ((s.setVm vm').setTop { g with pc := pc, stack := [.ref a] }) target) : Steps tb e below ((s.setTop g).pushFrame (.throwing a)) target := by
  obtain ⟨g₀, hg₀⟩ := Option.isSome_iff_exists.mp h.top
  obtain ⟨r, hr⟩ := State.topJava?_eq_some.mp hg₀
  have hrb : r = below := by rw [hr] at htail; exact htail
  subst hrb
  have hS : (s.setTop g).pushFrame (.throwing a) = s.setFrames (.throwing a :: .java g :: r) := by
    rw [State.pushFrame, State.setTop_of_frames _ hr, State.setFrames_setFrames, State.frames_setFrames _ (State.cur_lt_of_frames hr)]
  have hT : (s.setVm vm').setTop { g with pc := pc, stack := [.ref a] } = (((s.setTop g).pushFrame (.throwing a)).setVm vm').setFrames (.java { g with pc := pc, stack := [.ref a] } :: r) := by
    rw [State.setTop_of_frames _ (show (s.setVm vm').frames = .java g₀ :: r from hr), hS]
    have : (s.setFrames (.throwing a :: .java g :: r)).setVm vm' = (s.setVm vm').setFrames (.throwing a :: .java g :: r) := rfl
    rw [this, State.setFrames_setFrames]
  obtain ⟨hgo, hw⟩ := h.throwing a
  refine Steps.head hgo hw ?_
  have hfr : ((s.setTop g).pushFrame (.throwing a)).frames = .throwing a :: .java g :: r := by rw [hS, State.frames_setFrames _ (State.cur_lt_of_frames hr)]
  have hstep : (stepThread tb e ((s.setTop g).pushFrame (.throwing a))).1 = (((s.setTop g).pushFrame (.throwing a)).setVm vm').setFrames (.java { g with pc := pc, stack := [.ref a] } :: r) := by
    rw [stepThread_throwing hfr]
    simp only [stepThrowing, searchFrame, vmDo]
    generalize hq : Sem.go _ e false [] ((s.setTop g).pushFrame (.throwing a)) = res
    obtain ⟨_, rfl, -⟩ := Sem.eq_ok_of hq (a := Handler.found pc) (s' := ((s.setTop g).pushFrame (.throwing a)).setVm vm') (acts' := []) (by simp [hfind])
    rfl
  rw [hstep, ← hT]
  exact hrest
section EZ13
variable {p : Program} {l : Launch} {e : Env} {R : Room} {s : State} {m : MethodId} {args : Array Value} {below : List Frame} {meth : Method} {c : Code} {T : State} {locs : List Loc} {cells slots : Nat}
/-- the search through a table all of whose entries cover the place: those that don't fit are passed -/
theorem ez_search {own : String} (hown : s.vm.findClass own = some m.cls) {a : Addr} {g : JFrame} (hg : g.method = m) {cell : Cell} {cE : ClassId} (hobj : cell.vm.isStatics = false) (hcls : cell.cls = cE) (hkE : ∃ k, s.vm.classes[cE]? = some k) (x : ExceptionTableEntry) (rest : List ExceptionTableEntry) (hx : covers x g.pc = true) (h0 : x.catchType ≠ 0) {name : String} (hlink : (Cond.classLink own x.catchType name).before args s = true) {cT : ClassId} (hcT : s.vm.findClass name = some cT) (hfit : s.vm.assignable cE cT = true) :
    ∀ (pre : List ExceptionTableEntry) (T : State), Stand p l e R s m args below meth c T locs cells slots → T.heap[a]? = some cell → (∀ y ∈ pre, covers y g.pc = true ∧ y.catchType ≠ 0 ∧ ∃ (nm : String) (cN : ClassId), (Cond.classLink own y.catchType nm).before args s = true ∧ s.vm.findClass nm = some cN ∧ s.vm.assignable cE cN = false) →
      ∃ vm' : Vm, Stand p l e R s m args below meth c (T.setVm vm') locs cells slots ∧ ∀ (S : State), S.vm = T.vm → S.heap = T.heap → ∀ (Q : Handler → Pre) (E : CtlPost) (d : Bool) (acts : List Action), wp (findHandler.go g a (pre ++ x :: rest)) Q E e d acts S ↔ Q (.found x.handlerPc) d acts (S.setVm vm') := by
  intro pre
  induction pre with
  | nil =>
    intro T X hcell _
    have hpl : e.platform.magicAccessors = ({} : Platform).magicAccessors := by rw [X.admits.platform]
    obtain ⟨c', hc', hcl⟩ := Cond.classLink_spec hown hlink e.platform hpl
    cases hcT.symm.trans hc'
    obtain ⟨dk, _, _, kt, hd, _, _, _, _, hkt, _, hopen⟩ := hcl.here
    have hcl₀ := X.warmed.classLinks hcl
    have hW' : s.WarmedH (T.vm.noted m.cls x.catchType (.cls cT)) := X.warmed.noted hd hopen (State.rightAt_cls hcl)
    have hal := X.warmed.alike
    obtain ⟨kt', hkt', -⟩ := hal.2.2 _ _ hkt
    obtain ⟨k1, hk1⟩ := hkE
    obtain ⟨k1', hk1', -⟩ := hal.2.2 _ _ hk1
    have hfit' : T.vm.assignable cell.cls cT = true := by rw [hal.assignable, hcls]; exact hfit
    refine ⟨_, X.noted hW', fun S hS1 hS2 Q E d acts => ?_⟩
    subst hg
    have := ez_go_link (e := e) (s := S) (f := g) (a := a) (t := rest) (Q := Q) (E := E) (d := d) (acts := acts) (b := true) hx h0 (by rw [hS1]; exact hcl₀) (by rw [hS2]; exact hcell) hobj (by rw [hS1, hcls]; exact ⟨k1', hk1'⟩) (by rw [hS1]; exact ⟨kt', hkt'⟩) (by rw [hS1]; exact hfit')
    rw [if_pos rfl, hS1] at this
    exact this
  | cons y ys ih =>
    intro T X hcell hpre
    obtain ⟨hy, hy0, nm, cN, hyl, hyc, hyf⟩ := hpre y List.mem_cons_self
    have hpl : e.platform.magicAccessors = ({} : Platform).magicAccessors := by rw [X.admits.platform]
    obtain ⟨c', hc', hcl⟩ := Cond.classLink_spec hown hyl e.platform hpl
    cases hyc.symm.trans hc'
    obtain ⟨dk, _, _, kt, hd, _, _, _, _, hkt, _, hopen⟩ := hcl.here
    have hcl₀ := X.warmed.classLinks hcl
    have hW' : s.WarmedH (T.vm.noted m.cls y.catchType (.cls cN)) := X.warmed.noted hd hopen (State.rightAt_cls hcl)
    have hal := X.warmed.alike
    obtain ⟨kt', hkt', -⟩ := hal.2.2 _ _ hkt
    obtain ⟨k1, hk1⟩ := id hkE
    obtain ⟨k1', hk1', -⟩ := hal.2.2 _ _ hk1
    have hfit' : T.vm.assignable cell.cls cN = false := by rw [hal.assignable, hcls]; exact hyf
    obtain ⟨vm', X', hgo⟩ := ih (T.setVm (T.vm.noted m.cls y.catchType (.cls cN))) (X.noted hW') hcell (fun z hz => hpre z (List.mem_cons_of_mem _ hz))
    refine ⟨vm', X', fun S hS1 hS2 Q E d acts => ?_⟩
    subst hg
    have h1 := ez_go_link (e := e) (s := S) (f := g) (a := a) (t := ys ++ x :: rest) (Q := Q) (E := E) (d := d) (acts := acts) (b := false) hy hy0 (by rw [hS1]; exact hcl₀) (by rw [hS2]; exact hcell) hobj (by rw [hS1, hcls]; exact ⟨k1', hk1'⟩) (by rw [hS1]; exact ⟨kt', hkt'⟩) (by rw [hS1]; exact hfit')
    rw [List.cons_append, h1, if_neg (by decide), hS1]
    exact hgo (S.setVm (T.vm.noted g.method.cls y.catchType (.cls cN))) rfl hS2 Q E d acts
/-- CAUGHT: the run goes on at the handler -/
theorem ez_catch (X : Stand p l e R s m args below meth c T locs cells slots) {own : String} (hown : s.vm.findClass own = some m.cls) {a : Addr} {g : JFrame} (hg : g.method = m) {cell : Cell} {cE : ClassId} (hcell : T.heap[a]? = some cell) (hobj : cell.vm.isStatics = false) (hcls : cell.cls = cE) (hkE : ∃ k, s.vm.classes[cE]? = some k) (pre : List ExceptionTableEntry) (x : ExceptionTableEntry) (rest : List ExceptionTableEntry) (hsplit : c.exceptionTable.toList = pre ++ x :: rest) (hx : covers x g.pc = true) (h0 : x.catchType ≠ 0) {name : String} (hlink : (Cond.classLink own x.catchType name).before args s = true) {cT : ClassId} (hcT : s.vm.findClass name = some cT) (hfit : s.vm.assignable cE cT = true)
    (hpre : ∀ y ∈ pre, covers y g.pc = true ∧ y.catchType ≠ 0 ∧ ∃ (nm : String) (cN : ClassId), (Cond.classLink own y.catchType nm).before args s = true ∧ s.vm.findClass nm = some cN ∧ s.vm.assignable cE cN = false) :
    ∃ vm', Stand p l e R s m args below meth c (T.setVm vm') locs cells slots ∧ ∀ target, Steps p.tables e below ((T.setVm vm').setTop { g with pc := x.handlerPc, stack := [.ref a] }) target → Steps p.tables e below ((T.setTop g).pushFrame (.throwing a)) target := by
  obtain ⟨vm', X', hgo⟩ := ez_search (p := p) (l := l) (e := e) (R := R) (meth := meth) (c := c) (below := below) (locs := locs) (cells := cells) (slots := slots) hown hg hobj hcls hkE x rest hx h0 hlink hcT hfit pre T X hcell hpre
  refine ⟨vm', X', fun target hrest => ?_⟩
  subst hg
  refine ez_caught X.here X.tail (fun Q E d acts => ?_) hrest
  rw [W.findHandler_eq (meth := meth) (code := c) (by rw [Stand.throwing_vm]; exact X.method') X.code, hsplit]
  exact hgo _ (Stand.throwing_vm _ _ _) (Stand.throwing_heap _ _ _) Q E d acts
end EZ13
end
section
/-! THE SAME INVOCATION, SEEN AS IF IT BEGAN HERE: then nothing has been written yet -/
section EZ14
variable {p : Program} {l : Launch} {e : Env} {R : Room} {s : State} {m : MethodId} {args : Array Value} {below : List Frame} {meth : Method} {c : Code} {T : State} {locs : List Loc} {cells slots : Nat}
abbrev ez_re (T : State) (m : MethodId) (args : Array Value) (below : List Frame) : State := T.setFrames (.invoking m args :: below)
theorem ez_rebase (X : Stand p l e R s m args below meth c T locs cells slots) (hc : cells ≤ R.cells) (hs : slots ≤ R.slots) :
    Stand p l e { frames := R.frames, cells := R.cells - cells, slots := R.slots - slots, locals := R.locals } (ez_re T m args below) m args below meth c T [] 0 0 := by
  obtain ⟨g₀, hfr⟩ := X.frames_eq
  have hcur := State.cur_lt_of_frames hfr
  obtain ⟨z, hz, -⟩ := State.frames_cons hfr
  have hf : (ez_re T m args below).frames = .invoking m args :: below := State.frames_setFrames _ hcur
  have hal := X.warmed.alike
  have hm' : (ez_re T m args below).vm.method? m = some meth := X.method'
  have hlim : e.platform.stackLimits (ez_re T m args below).me = e.platform.stackLimits s.me := by
    rw [State.stackLimits_setFrames]
    exact X.limits
  have hby : (ez_re T m args below).me.stackBytes = s.me.stackBytes := by
    rw [State.stackBytes_setFrames]
    exact X.bytes
  have hloc : (ez_re T m args below).localsInUse = s.localsInUse := by
    rw [State.localsInUse_invoking hf hm' X.code, State.localsInUse_invoking X.frames X.method X.code]
  refine ⟨X.admits, X.cas, X.clock, hf, ?_, ?_, hm', X.code, X.here, X.tail, State.WarmedH.refl _, by rw [hlim]; exact X.limits, by rw [hby]; exact X.bytes, ?_⟩
  · have hr := X.room
    have h1 := X.heapSize
    have h2 := X.used
    have h3 : (ez_re T m args below).slotsTrue = true := X.book
    simp only [State.hasRoom, Bool.and_eq_true, decide_eq_true_eq] at hr ⊢
    obtain ⟨⟨⟨⟨r1, r2⟩, r3⟩, r4⟩, -⟩ := hr
    rw [X.frames] at r2
    refine ⟨⟨⟨⟨?_, ?_⟩, ?_⟩, ?_⟩, h3⟩
    · rw [hloc]; exact r1
    · rw [hf, hlim, hloc, hby]; exact r2
    · show T.heap.size + (R.cells - cells) ≤ _
      omega
    · show T.slotsUsed + (R.slots - slots) ≤ _
      omega
  · have hh := X.hears
    cases below with
    | nil =>
      show (((ez_re T m args []).vm.method? m).any _) = true
      have : ((s.vm.method? m).any (·.sig.returnType.isNone)) = true := hh
      rw [hm']
      rw [X.method] at this
      exact this
    | cons f r =>
      have hcode : ∀ mm, (ez_re T m args (f :: r)).code? mm = s.code? mm := fun mm => by
        rw [State.code?_eq, State.code?_eq]
        show (T.vm.method? mm).bind _ = _
        rw [hal.method?]
      unfold State.hears at hh ⊢
      split at hh
      · rw [hcode]
        exact hh
      · rfl
      · rfl
      · rw [hm']
        rw [X.method] at hh
        exact hh
  · have hdrop : T.heap.toList.drop T.heap.size = [] := List.drop_of_length_le (by simp)
    refine ⟨?_, Nat.le_refl _, Nat.le_refl _, ?_, ?_, fun a cc hcc => ⟨cc, hcc, rfl, rfl, fun _ _ => rfl⟩⟩
    · show T = { ((T.setFrames (.invoking m args :: below)).setFrames T.frames) with heap := T.heap, slotsUsed := T.slotsUsed }
      rw [State.setFrames_setFrames, State.setFrames_self hz]
    · show T.slotsUsed = T.slotsUsed + ((T.heap.toList.drop T.heap.size).map (·.slots.size)).sum
      rw [hdrop]
      rfl
    · show ((T.heap.toList.drop T.heap.size).map (·.slots.size)).sum ≤ 0
      rw [hdrop]
      exact Nat.le_refl _
end EZ14
end
section
/-! throw new E("text"): the library's law 'ctorThrowS', used on the invocation rebased just ahead of 'new': so every cell that was there is there as it was -/
def ez_up3 : List String := ["java/lang/RuntimeException", "java/lang/Exception"]
/-- what a word of the tables needs to be carried to another state -/
def ez_good (tbl : List Cond) : Prop := ∀ w ∈ tbl, ∀ (args a' : Array Value) (s U : State), s.WarmedH U.vm → w.before args s = true → w.before a' U = true
theorem ez_isRef {args : Array Value} {U : State} {C n d : String} {A : Nat → Prop} (h : va_Zq C n d A U U.heap) : (Cond.isRef (.static C n d)).before args U = true := by
  have key : ∀ v : Value, va_Z C n d v A U U.heap → (Term.static C n d).eval args U none [] U = some v := by
    rintro v ⟨cf, kf, fi, f, a, cell, h1, h2, h3, h4, h5, h6, h7, h8⟩
    simp [Term.eval, State.fieldNamed?, h1, h2, h4, h5, h6, h7]
  rcases h with h | ⟨t, h⟩
  · simp [Cond.before, Cond.holds, Cond.value, key _ h]
  · simp [Cond.before, Cond.holds, Cond.value, key _ h]
/-- a static field lies in a cell outside 'A' -/
def ez_Ls (C n d : String) (A : Nat → Prop) (U : State) (H : Heap) : Prop := ∃ (c : ClassId) (k : Class) (i : Nat) (f : Field) (a : Nat) (cell : Cell), U.vm.findClass C = some c ∧ U.fieldFound? C n d = some (c, k, i, f) ∧ f.isStatic = true ∧ k.statics = some a ∧ H[a]? = some cell ∧ cell.vm.isStatics = true ∧ cell.cls = c ∧ f.slot < cell.slots.size ∧ k.staticTypes[f.slot]? = some f.type ∧ ¬ A a
theorem ez_Ls.there {C n d : String} {A : Nat → Prop} {s U : State} (h : ez_Ls C n d A s s.heap) (hW : s.WarmedH U.vm) (hq : ∀ a : Nat, a < s.heap.size → ¬ A a → U.heap[a]? = s.heap[a]?) : ez_Ls C n d A U U.heap := by
  obtain ⟨c, k, i, f, a, cell, h1, h2, h3, h4, h5, h6, h7, h8, h9, h10⟩ := h
  obtain ⟨k', hi', hek⟩ := State.fieldFound?_setVm hW.alike h2
  exact ⟨c, k', i, f, a, cell, by rw [hW.alike.findClass]; exact h1, hi', h3, by rw [hek]; exact h4, by rw [hq a (Array.getElem?_eq_some_iff.mp h5).1 h10]; exact h5, h6, h7, h8, by rw [hek]; exact h9, h10⟩
theorem ez_Ls.word {args : Array Value} {C n d : String} {A : Nat → Prop} {s : State} (h : ez_Ls C n d A s s.heap) : (Cond.laysStatic C n d).before args s = true := by
  obtain ⟨c, k, i, f, a, cell, h1, h2, h3, h4, h5, h6, h7, h8, h9, h10⟩ := h
  exact Cond.laysStatic_of h1 h2 h3 h4 h5 h6 h7 h8 h9
theorem ez_Ls.of {args : Array Value} {C n d : String} {A : Nat → Prop} {s : State} (h : (Cond.laysStatic C n d).before args s = true) (hA : ∀ a : Nat, a < s.heap.size → ¬ A a) : ez_Ls C n d A s s.heap := by
  obtain ⟨c, k, i, f, a, cell, h1, h2, h3, h4, h5, h6, h7, h8, h9⟩ := Cond.laysStatic_spec h
  exact ⟨c, k, i, f, a, cell, h1, h2, h3, h4, h5, h6, h7, h8, h9, hA a (Array.getElem?_eq_some_iff.mp h5).1⟩
/-- the words on the JDK's statics that a throw reads -/
def ez_thw : List Cond := [.isRef (.static Bundle.tN "UNASSIGNED_STACK" Bundle.steD), .isRef (.static Bundle.tN "SUPPRESSED_SENTINEL" Bundle.listD), .laysStatic Bundle.tN "UNASSIGNED_STACK" Bundle.steD, .laysStatic Bundle.tN "SUPPRESSED_SENTINEL" Bundle.listD]
def ez_Th (B : Nat) (s : State) : Prop := va_Zq Bundle.tN "UNASSIGNED_STACK" Bundle.steD (ez_A B) s s.heap ∧ va_Zq Bundle.tN "SUPPRESSED_SENTINEL" Bundle.listD (ez_A B) s s.heap ∧ ez_Ls Bundle.tN "UNASSIGNED_STACK" Bundle.steD (ez_A B) s s.heap ∧ ez_Ls Bundle.tN "SUPPRESSED_SENTINEL" Bundle.listD (ez_A B) s s.heap
theorem ez_Th.there {B : Nat} {s U : State} (h : ez_Th B s) (hW : s.WarmedH U.vm) (hq : ∀ a : Nat, a < s.heap.size → ¬ ez_A B a → U.heap[a]? = s.heap[a]?) : ez_Th B U :=
  ⟨(h.1.kept hq).moved hW.alike, (h.2.1.kept hq).moved hW.alike, h.2.2.1.there hW hq, h.2.2.2.there hW hq⟩
theorem ez_Th.words {B : Nat} {s : State} (h : ez_Th B s) {args : Array Value} : ∀ w ∈ ez_thw, w.before args s = true := by
  intro w hw
  simp only [ez_thw, List.mem_cons, List.not_mem_nil, or_false] at hw
  rcases hw with rfl | rfl | rfl | rfl
  · exact ez_isRef h.1
  · exact ez_isRef h.2.1
  · exact h.2.2.1.word
  · exact h.2.2.2.word
/-- nothing written: each cell that was there is there as it was -/
theorem ez_same_nil {s t : State} {k n : Nat} (h : s.sameButNew t [] k n) {q : Nat} (hq : q < s.heap.size) : t.heap[q]? = s.heap[q]? := by
  obtain ⟨-, -, -, -, -, h6⟩ := h
  have hc : s.heap[q]? = some s.heap[q] := Array.getElem?_eq_getElem hq
  obtain ⟨c', h1, h2, h3, h4⟩ := h6 q _ hc
  rw [h1, hc, h2]
  congr 1
  have : c'.slots = s.heap[q].slots := by
    apply Array.ext_getElem?
    intro i
    exact h4 i (fun z => by cases z)
  rw [this]
section EZ15
variable {p : Program} {l : Launch} {e : Env} {R : Room} {s : State} {m : MethodId} {args : Array Value} {below : List Frame} {meth : Method} {c : Code} {H : Heap} {locs : List Loc} {cells slots : Nat} {cc : ByteArray} {pc B : Nat} {ea : Nat → Nat} {lsM : Array Slot} {own : String} {tbl : List Cond}
variable {D : va_G} {cl : List vw_C} {nf : Nat → Nat} {ty : Nat → Nat → FieldType} {dA : Nat → ClassId} {h : ez_H} {n0 u0 x : Nat} {Q : ez_Q} {exn : Nat → String}
theorem ez_Rel.bump (hR : ez_Rel D cl nf ty dA B h H) {H1 : Heap} (hz : H1.size = H.size + 1) (ho : ∀ q : Nat, q < H.size → H1[q]? = H[q]?) : ez_Rel D cl nf ty dA B (ez_bump h) H1 := by
  obtain ⟨hs, L, hL, hP, hD⟩ := hR
  refine ⟨by rw [hz, hs]; rfl, L, hL, ?_, hD⟩
  exact hP.kept (fun k q hk => ho q.1 ((hP k q hk).lt))
set_option maxHeartbeats 1000000 in
theorem ez_throw (hx : p.tables.exec = Jvm.exec) (hb : c.code = cc) (hlocks : meth.locks = false) (hml : c.maxLocals = lsM.size) (hown : s.vm.findClass own = some m.cls) (hts : ∀ w ∈ tbl, w.before args s = true) (hgd : ez_good tbl) (htr : e.platform.stackTraces = false) (hTh : ez_Th B s) (hout : c.exceptionTable.isEmpty = true)
    (hR : ez_Rel D cl nf ty dA B h H) (hS : va_S (ez_A B) s.heap H locs) (hs0 : s.heap.size = B + 1 + n0) (hn0 : n0 + cells = ez_n h) (hu0 : u0 + slots = ez_u h) (hn1 : ez_n h + 1 ≤ ez_MC) (hu1 : ez_u h + 6 ≤ ez_MS) (hcR : ez_MC ≤ n0 + R.cells) (hsR : ez_MS ≤ u0 + R.slots) (hfr : 6 ≤ R.frames) (hlo : 100 ≤ R.locals)
    {i0 i1 i2 q : Nat} {tx : String} (hfit : Bundle.fit (exn x) = true) (hat : ∀ w ∈ Bundle.ownAtoms own i2 (exn x) ez_up3, w ∈ tbl ∨ w ∈ ez_thw) (hl1 : Cond.classLink own i0 (exn x) ∈ tbl) (hl3 : Cond.initialized (exn x) ∈ tbl) (hstr : vk_R own i1 tx q s)
    (d0 : decode cc pc = .ok (.new i0, 3)) (d1 : decode cc (pc + 3) = .ok (.dup, 1)) (d2 : decode cc (pc + 4) = .ok (.ldc i1, 2)) (d3 : decode cc (pc + 6) = .ok (.invokespecial i2, 3)) (d4 : decode cc (pc + 9) = .ok (.athrow, 1)) (hQ : Q (.inr x) (ez_bump h)) :
    W p l e R s m args below meth c H locs cells slots (ez_Fin D cl nf ty dA B ea exn below s n0 u0 Q) (F0 m pc lsM []) := by
  intro T hT X
  have hc0 : cells ≤ R.cells := by omega
  have hsl0 : slots ≤ R.slots := by omega
  have X' := ez_rebase X hc0 hsl0
  generalize hs' : ez_re T m args below = s' at X'
  have hvm : s'.vm = T.vm := by rw [← hs']; rfl
  have hheap : s'.heap = T.heap := by rw [← hs']; rfl
  have hW0 : s.WarmedH s'.vm := by rw [hvm]; exact X.warmed
  have hts' : ∀ w ∈ tbl, w.before args s' = true := fun w hw => hgd w hw _ _ _ _ hW0 (hts w hw)
  have hown' : s'.vm.findClass own = some m.cls := by rw [hW0.alike.findClass]; exact hown
  have hq : ∀ a : Nat, a < s.heap.size → ¬ ez_A B a → s'.heap[a]? = s.heap[a]? := fun a h1 h2 => by rw [hheap, hT]; exact hS.2.1 a h1 h2
  have hat' : ∀ w ∈ Bundle.ownAtoms own i2 (exn x) ez_up3, w.before args s' = true := fun w hw => by
    rcases hat w hw with z | z
    · exact hts' w z
    · exact (hTh.there hW0 hq).words w z
  have hstr' : vk_R own i1 tx q s' := hstr.warm hW0
  have hin : (Cond.instantiable (exn x) 6).before args s' = true := hat' _ (by simp [Bundle.ownAtoms])
  obtain ⟨cX, kX, hfX, hkX, -⟩ := Cond.instantiable_spec hin
  have K : W p l e { frames := R.frames, cells := R.cells - cells, slots := R.slots - slots, locals := R.locals } s' m args below meth c T.heap [] 0 0 (fun t => ∃ ce, t.status = .running ∧ Ended t below (.threw T.heap.size) ∧ s'.WarmedH t.vm ∧ s'.sameButNew ({ t with vm := s'.vm } : State) [] 1 6 ∧ t.heap[T.heap.size]? = some ce ∧ Bundle.OwnCell args s' (exn x) T.heap.size (.ref q) ce) (F0 m pc lsM []) := by
    refine W.newcK hx hb hown' (hts' _ hl1) hin (hts' _ hl3) rfl d0 (by show 0 + 1 ≤ R.cells - cells; omega) (by show 0 + 6 ≤ R.slots - slots; omega) hfX rfl fun H1 kC hkC e1 z1 o1 => ?_
    cases Option.some.inj (hkX.symm.trans hkC)
    refine lv_dup hx hb d1 rfl ?_
    refine va_ldcS hx hb hown' hstr' d2 ?_
    intro T2 hT2 X2
    obtain ⟨U, k1, k2, k3, k4, k5, ce, k6, k7⟩ := X2.ctorThrowS hx htr hown' hfit (by decide +kernel) hat' (fun _ hh => by cases hh) hfX hkX (a := T.heap.size) (by rw [hT2]; exact e1) (by rw [hheap]; exact Nat.le_refl _) (msg := .ref q) rfl (g := F0 m (pc + 6) lsM [.ref q, .ref T.heap.size, .ref T.heap.size]) rfl hml.symm rfl rfl (rest := []) rfl
      (by rw [hb]; exact d3) (by rw [hb]; exact d4) (covers_of_empty hout _) (by show ez_up3.length + 3 < R.frames; show 2 + 3 < R.frames; omega) (by show 2 * 0 + 1 + (13 * (2 + 1) + 42) ≤ R.locals; omega) (hlocks := hlocks)
    exact ⟨U, k1, ce, k2, k3, k4, k5, k6, k7⟩
  obtain ⟨t, a1, ce, k2, k3, k4, k5, k6, k7⟩ := K T rfl X'
  have hlt := (Array.getElem?_eq_some_iff.mp k6).1
  have hle : t.heap.size ≤ s'.heap.size + 1 := k5.2.2.1
  rw [hheap] at hle
  have hz : t.heap.size = H.size + 1 := by rw [← hT]; omega
  have hold : ∀ a : Nat, a < H.size → t.heap[a]? = H[a]? := fun a ha => by
    have h1 : a < s'.heap.size := by rw [hheap, hT]; exact ha
    have h2 : ({ t with vm := s'.vm } : State).heap[a]? = s'.heap[a]? := ez_same_nil k5 h1
    rw [← hT, ← hheap]
    exact h2
  have hWt : s.WarmedH t.vm := State.WarmedH.trans hW0 k4
  obtain ⟨g₀, hfrT⟩ := X.frames_eq
  have hT5 : T.sameButNew ({ t with vm := T.vm } : State) [] 1 6 := by
    have h1 := k5
    rw [← hs'] at h1
    refine ⟨?_, h1.2⟩
    have h2 := h1.1
    show ({ t with vm := T.vm } : State) = { T.setFrames t.frames with heap := t.heap, slotsUsed := t.slotsUsed }
    have h3 : (ez_re T m args below).setFrames t.frames = T.setFrames t.frames := State.setFrames_setFrames _ _ _
    rw [← h3]
    exact h2
  have hfin := X.same.trans (hT5.setVm s.vm)
  rw [List.append_nil] at hfin
  refine ⟨t, a1, .threw T.heap.size, k2, k3, .inr x, ez_bump h, hQ, ⟨T.heap.size, ce, rfl, k6, by rw [k7.vm]; rfl, ?_⟩, hR.bump hz hold, hWt, ⟨by show n0 ≤ ez_n h + 1; omega, by show u0 ≤ ez_u h + 6; omega, hn1, hu1⟩, fun a g1 g2 => ?_, ?_, locs, ?_, hS.2.2⟩
  · rw [← hW0.alike.findClass]
    exact k7.cls
  · rw [hold a (Nat.lt_of_lt_of_le g1 hS.1)]
    exact hS.2.1 a g1 g2
  · have := hS.1
    omega
  · rw [show ez_n (ez_bump h) - n0 = cells + 1 by show ez_n h + 1 - n0 = _; omega, show ez_u (ez_bump h) - u0 = slots + 6 by show ez_u h + 6 - u0 = _; omega]
    exact hfin
end EZ15
end
section
/-! A METHOD'S CONTRACT OUT OF ITS WALK -/
/-- the code word of a method: without handlers, or with them -/
def ez_wc (y : MethodName) (bytes : ByteArray) (n : Nat) (ret : Option FieldType) (hh : List (Nat × Nat × Nat × Nat)) : Cond := match hh with
  | [] => .code y bytes n ret
  | q :: r => .codeWith y bytes n ret (q :: r)
theorem ez_wc_spec {y : MethodName} {bytes : ByteArray} {n : Nat} {ret : Option FieldType} {hh : List (Nat × Nat × Nat × Nat)} {args : Array Value} {U : State} (h : (ez_wc y bytes n ret hh).before args U = true) :
    ∃ (mk : MethodId) (meth : Method) (c : Code), U.methodNamed? y = some mk ∧ U.vm.method? mk = some meth ∧ meth.code = some c ∧ c.code = bytes ∧ c.maxLocals = n ∧ c.exceptionTable.toList.map (fun h => (h.startPc, h.endPc, h.handlerPc, h.catchType)) = hh ∧ meth.sig.returnType = ret ∧ meth.locks = false ∧ parseMethodDescriptor y.desc = some meth.sig := by
  cases hh with
  | nil =>
    obtain ⟨mk, hn⟩ := Cond.code_named h
    obtain ⟨meth, c, h1, h2, h3, h4, h5, h6, h7, h8⟩ := Cond.code_spec hn h
    refine ⟨mk, meth, c, hn, h1, h2, h3, h4, ?_, h5, h6, h8⟩
    have : c.exceptionTable.toList = [] := by simpa [Array.isEmpty] using h7
    rw [this]
    rfl
  | cons q r => exact Cond.codeWith_spec h
theorem ez_lay_len (B : Nat) (ea : Nat → Nat) : ∀ vs : List Value, (lg_sl (vs.map (ez_tr B ea))).length = (ez_lay vs).length
  | [] => rfl
  | v :: r => by
    have ih := ez_lay_len B ea r
    unfold lg_sl at ih ⊢
    rw [List.map_cons, List.flatMap_cons, List.length_append, ih]
    cases v <;> simp [ez_lay, ez_tr, Value.category] <;> omega
theorem ez_lay_mem (B : Nat) (ea : Nat → Nat) : ∀ (vs : List Value) (i j : Nat) (v : Value), (ez_lay vs)[j]? = some (some v) → (i + j, ez_tr B ea v) ∈ lv_args i (vs.map (ez_tr B ea))
  | [], i, j, v, h => by cases h
  | w :: r, i, j, v, h => by
    have two : w.category = 2 → ez_lay (w :: r) = some w :: none :: ez_lay r := by
      cases w <;> intro h <;> first | rfl | cases h
    have one : ¬ w.category = 2 → ez_lay (w :: r) = some w :: ez_lay r := by
      cases w <;> intro h <;> first | rfl | exact absurd rfl h
    rw [List.map_cons]
    show _ ∈ (i, ez_tr B ea w) :: lv_args (if (ez_tr B ea w).category = 2 then i + 2 else i + 1) (r.map (ez_tr B ea))
    rw [ez_tr_cat]
    by_cases hw : w.category = 2
    · rw [two hw] at h
      rw [if_pos hw]
      match j, h with
      | 0, h => cases h; exact List.mem_cons_self
      | 1, h => cases h
      | j + 2, h =>
        have := ez_lay_mem B ea r (i + 2) j v h
        rw [show i + 2 + j = i + (j + 2) by omega] at this
        exact List.mem_cons_of_mem _ this
    · rw [one hw] at h
      rw [if_neg hw]
      match j, h with
      | 0, h => cases h; exact List.mem_cons_self
      | j + 1, h =>
        have := ez_lay_mem B ea r (i + 1) j v h
        rw [show i + 1 + j = i + (j + 1) by omega] at this
        exact List.mem_cons_of_mem _ this
/-- at a method's entry -/
theorem ez_lv_entry {B : Nat} {ea : Nat → Nat} {vs : List Value} {n : Nat} (hn : (ez_lay vs).length ≤ n) : lv_has ((lg_sl (vs.map (ez_tr B ea)) ++ List.replicate (n - (lg_sl (vs.map (ez_tr B ea))).length) Slot.unset).toArray) n (ez_lv B ea (ez_args n vs)) := by
  refine ez_lv_sub (lv_entry (vs.map (ez_tr B ea)) (n := n) (by rw [ez_lay_len]; exact hn)) fun q hq => ?_
  obtain ⟨v, h1, h2⟩ := ez_lv_mem.mp hq
  unfold ez_args at h1
  rw [List.getD_eq_getElem?_getD] at h1
  by_cases hl : q.1 < (ez_lay vs).length
  · rw [List.getElem?_append_left hl] at h1
    cases hq1 : (ez_lay vs)[q.1]? with
    | none => rw [hq1] at h1; cases h1
    | some o =>
      rw [hq1] at h1
      have : o = some v := h1
      subst this
      have := ez_lay_mem B ea vs 0 q.1 v hq1
      rw [Nat.zero_add, ← h2] at this
      exact this
  · rw [List.getElem?_append_right (by omega)] at h1
    by_cases hr : q.1 - (ez_lay vs).length < n - (ez_lay vs).length
    · rw [List.getElem?_replicate, if_pos hr] at h1
      cases h1
    · rw [List.getElem?_replicate, if_neg hr] at h1
      cases h1
section EZS
variable (l : Launch) (D : va_G) (cl : List vw_C) (nf : Nat → Nat) (ty : Nat → Nat → FieldType) (dA : Nat → ClassId) (B : Nat) (ea : Nat → Nat) (exn : Nat → String) (E : Nat → Nat × (Nat → Int32)) (sta : Nat → String × String × String) (nm : Nat → MethodName) (bytes : Nat → ByteArray) (ml : Nat → Nat) (ret : Nat → Option FieldType) (hh : Nat → List (Nat × Nat × Nat × Nat)) (tbl : List Cond) (strs : List (String × Nat × String))
/-- what stands around: the classes, the arrays outside, what a throw reads -/
def ez_Sur (s : State) : Prop :=
  va_K D cl (ez_tys dA) s ∧ (∀ j, va_T .int (ea j) (E j).1 (fun i => .int ((E j).2 i)) (ez_A B) s s.heap) ∧ (∀ j, 0 < j → va_Z (sta j).1 (sta j).2.1 (sta j).2.2 (.ref (ea j)) (ez_A B) s s.heap) ∧ ez_Th B s ∧ ∀ w ∈ strs, ∃ q : Nat, vk_R w.1 w.2.1 w.2.2 q s
/-- the method that runs -/
def ez_Ctx (mi : Nat) (p : Program) (s : State) (m : MethodId) (args : Array Value) (meth : Method) (c : Code) : Prop :=
  p.tables.exec = Jvm.exec ∧ c.code = bytes mi ∧ meth.sig.returnType = ret mi ∧ c.maxLocals = ml mi ∧ s.vm.findClass (nm mi).cls = some m.cls ∧ (∀ w ∈ tbl, w.before args s = true) ∧ meth.locks = false ∧ meth.name = (nm mi).name ∧ c.exceptionTable.toList.map (fun h => (h.startPc, h.endPc, h.handlerPc, h.catchType)) = hh mi
/-- THE MACHINE DOES WHAT THE PURE ONE MUST -/
def ez_Snd : ez_X := fun d mi pc ls st h Q => ∀ (p : Program) (e : Env) (R : Room) (s : State) (m : MethodId) (args : Array Value) (below : List Frame) (meth : Method) (c : Code) (H : Heap) (locs : List Loc) (cells slots : Nat) (lsM : Array Slot) (n0 u0 : Nat),
  ez_Ctx nm bytes ml ret hh tbl mi p s m args meth c → ez_Sur D cl dA B ea E sta strs s → ez_Rel D cl nf ty dA B h H → va_S (ez_A B) s.heap H locs → s.heap.size = B + 1 + n0 → n0 + cells = ez_n h → u0 + slots = ez_u h → ez_n h ≤ ez_MC → ez_u h ≤ ez_MS → ez_MC ≤ n0 + R.cells → ez_MS ≤ u0 + R.slots → d + 6 ≤ R.frames → 40 * d + 100 ≤ R.locals → lv_has lsM (ml mi) (ez_lv B ea ls) →
  W p l e R s m args below meth c H locs cells slots (ez_Fin D cl nf ty dA B ea exn below s n0 u0 Q) (F0 m pc lsM (st.map (ez_tr B ea)))
theorem ez_Snd_mono : ez_Mono (ez_Snd l D cl nf ty dA B ea exn E sta nm bytes ml ret hh tbl strs) := by
  intro d mi pc ls st h Q Q' hQ H p e R s m args below meth c H0 locs cells slots lsM n0 u0 a1 a2 a3 a4 a5 a6 a7 a8 a9 a10 a11 a12 a13 a14
  refine ez_W_mono ?_ (H p e R s m args below meth c H0 locs cells slots lsM n0 u0 a1 a2 a3 a4 a5 a6 a7 a8 a9 a10 a11 a12 a13 a14)
  rintro t ⟨o, h1, h2, r, h', h3, h4⟩
  exact ⟨o, h1, h2, r, h', hQ r h' h3, h4⟩
/-- what stands around stays, where nothing outside is written and the tables grow warmer -/
theorem ez_Sur.there {s U : State} (h : ez_Sur D cl dA B ea E sta strs s) (hW : s.WarmedH U.vm) (hq : ∀ a : Nat, a < s.heap.size → ¬ ez_A B a → U.heap[a]? = s.heap[a]?) : ez_Sur D cl dA B ea E sta strs U := by
  obtain ⟨h1, h2, h3, h4, h5⟩ := h
  exact ⟨va_K.moved hW.alike h1, fun j => ((h2 j).kept hq).moved hW.alike, fun j hj => ((h3 j hj).kept hq).moved hW.alike, h4.there hW hq, fun w hw => by
    obtain ⟨q, hq⟩ := h5 w hw
    exact ⟨q, hq.warm hW⟩⟩
set_option maxHeartbeats 1000000 in
theorem ez_met {d a : Nat} {vs : List Value} {h : ez_H} {Q : ez_Q} (hpl : plainName (nm a).cls = true) (hfit : (ez_lay vs).length ≤ ml a) (hn1 : ez_n h ≤ ez_MC) (hu1 : ez_u h ≤ ez_MS) (H : ez_Snd l D cl nf ty dA B ea exn E sta nm bytes ml ret hh tbl strs d a 0 (ez_args (ml a) vs) [] h Q) :
    MetFree l (nm a) (headSpec (ez_wc (nm a) (bytes a) (ml a) (ret a) (hh a) :: tbl) { frames := d + 6, cells := ez_MC - ez_n h, slots := ez_MS - ez_u h, locals := 40 * d + 100 }) (fun args s => args = (vs.map (ez_tr B ea)).toArray ∧ ez_Rel D cl nf ty dA B h s.heap ∧ ez_Sur D cl dA B ea E sta strs s) (fun _ _ _ _ _ => True) (fun _ s o t => ez_End D cl nf ty dA B ea exn s (ez_n h) (ez_u h) Q o t) := by
  refine MetFree.of_bodyS (code := bytes a) (maxLocals := ml a) (ret := ret a) hpl ?_ ?_
  · intro args s m hp hn
    obtain ⟨mk, meth, c, g1, g2, g3, g4, g5, -, g6, g7, -⟩ := ez_wc_spec (atoms_spec (ws := _ :: tbl) hp _ List.mem_cons_self)
    cases hn.symm.trans g1
    exact ⟨meth, c, g2, g3, g4, g5, g6, g7⟩
  · intro p e s m args below meth c s₁ Bd hml hP _
    obtain ⟨rfl, hR, hSur⟩ := hP
    have hts := atoms_spec (ws := ez_wc (nm a) (bytes a) (ml a) (ret a) (hh a) :: tbl) Bd.pre
    obtain ⟨mk, methK, cK, g1, g2, g3, g4, g5, g6, g7, g8, -⟩ := ez_wc_spec (hts _ List.mem_cons_self)
    cases Bd.named.symm.trans g1
    cases Bd.method.symm.trans g2
    have X₀ := Stand.of_body Bd
    cases X₀.code.symm.trans g3
    have hh0 : s₁.heap = s.heap := by rw [Bd.state]; rfl
    have K := H p e (headSpec (ez_wc (nm a) (bytes a) (ml a) (ret a) (hh a) :: tbl) { frames := d + 6, cells := ez_MC - ez_n h, slots := ez_MS - ez_u h, locals := 40 * d + 100 }).room s m (vs.map (ez_tr B ea)).toArray below meth c s.heap [] 0 0 _ (ez_n h) (ez_u h)
      ⟨Bd.exec, g4, g7, g5, findClass_of_methodNamed Bd.named, fun w hw => hts w (List.mem_cons_of_mem _ hw), g8, (name_of_methodNamed Bd.named Bd.method).1, g6⟩ hSur hR va_S.rf hR.1 rfl rfl hn1 hu1 (by show ez_MC ≤ ez_n h + (ez_MC - ez_n h); omega) (by show ez_MS ≤ ez_u h + (ez_MS - ez_u h); omega) (Nat.le_refl _) (Nat.le_refl _) (ez_lv_entry hfit)
    obtain ⟨t, a1, o, b1, b2, b3⟩ := K s₁ hh0 X₀
    refine ⟨t, o, ?_, b1, b2, b3⟩
    rw [lg_entry_eq]
    exact a1
end EZS
end
section
/-- what links a call of y (its tag k: the receiver's class; b: how many arguments, the receiver among them) -/
def ez_ck (own : String) (y : MethodName) (wc : Cond) (n : Nat) (noH : Prop) (ret : Option FieldType) (tbl : List Cond) (cl : List vw_C) (i : ClassFile.Instr) (b k : Nat) : Prop :=
  plainName y.cls = true ∧ (y.cls ≠ "java/lang/invoke/MethodHandle" ∧ y.cls ≠ "java/lang/invoke/VarHandle") ∧ Cond.initialized y.cls ∈ tbl ∧ wc ∈ tbl ∧ n ≤ 21 ∧ match i with
  | .invokevirtual idx => Cond.methodLink own idx y ∈ tbl ∧ Cond.instanceMethod y ∈ tbl ∧ Cond.selects y.cls y y ∈ tbl ∧ (0 < k ∧ k < 1000) ∧ (∃ (T : u_T) (N : Nat), cl[k - 1]? = some (y.cls, T, N)) ∧ (parseMethodDescriptor y.desc).map (fun d => d.parameters.length + 1) = some b
  | .invokespecial idx => (Cond.methodLink own idx y ∈ tbl ∨ ∃ host, Cond.methodLinkNest own idx y host ∈ tbl) ∧ y.name = "<init>" ∧ Cond.instanceMethod y ∈ tbl ∧ noH ∧ ret = none ∧ 0 < k ∧ (parseMethodDescriptor y.desc).map (fun d => d.parameters.length + 1) = some b
  | .invokestatic idx => (Cond.methodLink own idx y ∈ tbl ∨ ∃ host, Cond.methodLinkNest own idx y host ∈ tbl) ∧ Cond.static y ∈ tbl ∧ k = 0 ∧ (parseMethodDescriptor y.desc).map (fun d => d.parameters.length) = some b
  | _ => False
theorem ez_st_split {B : Nat} {ea : Nat → Nat} {st : List Value} {b : Nat} : st.map (ez_tr B ea) = ((st.take b).reverse.map (ez_tr B ea)).reverse ++ (st.drop b).map (ez_tr B ea) := by
  rw [← List.map_reverse, List.reverse_reverse, ← List.map_append, List.take_append_drop]
theorem ez_parms {y : MethodName} {f : MethodDescriptor → Nat} {b : Nat} (h : (parseMethodDescriptor y.desc).map f = some b) (sig : MethodDescriptor) (hs : parseMethodDescriptor y.desc = some sig) : f sig = b := by
  rw [hs] at h
  exact Option.some.inj h
section EZ16
variable {p : Program} {l : Launch} {e : Env} {R : Room} {s : State} {m : MethodId} {args : Array Value} {below : List Frame} {meth : Method} {c : Code} {T : State} {locs : List Loc} {cells slots : Nat} {cc : ByteArray} {pc B : Nat} {ea : Nat → Nat} {lsM : Array Slot} {own : String} {tbl : List Cond} {st : List Value}
variable {D : va_G} {cl : List vw_C} {nf : Nat → Nat} {ty : Nat → Nat → FieldType} {dA : Nat → ClassId} {h : ez_H} {y : MethodName} {bytes : ByteArray} {n b k : Nat} {ret : Option FieldType} {hh : List (Nat × Nat × Nat × Nat)} {i : ClassFile.Instr}
set_option maxHeartbeats 1000000 in
theorem ez_invoke (X : Stand p l e R s m args below meth c T locs cells slots) (hx : p.tables.exec = Jvm.exec) (hb : c.code = cc) (hown : s.vm.findClass own = some m.cls) (hts : ∀ w ∈ tbl, w.before args s = true) (hK : va_K D cl (ez_tys dA) s) (hR : ez_Rel D cl nf ty dA B h T.heap) (hck : ez_ck own y (ez_wc y bytes n ret hh) n (hh = []) ret tbl cl i b k) (hlen : (st.take b).reverse.length = b) (hrc : ez_rcv h k (st.take b).reverse) (hd : decode cc pc = .ok (i, 3)) :
    ∃ (mk : MethodId) (vm₁ : Vm), s.methodNamed? y = some mk ∧ Stand p l e R s m args below meth c (T.setVm vm₁) locs cells slots ∧ ∀ target, Steps p.tables e below (doInvoke e ((T.setVm vm₁).setTop (F0 m pc lsM ((st.drop b).map (ez_tr B ea)))) [] mk ((st.take b).reverse.map (ez_tr B ea)).toArray).1 target → Steps p.tables e below (T.setTop (F0 m pc lsM (st.map (ez_tr B ea)))) target := by
  obtain ⟨-, hy, hini, hwc, -, hck⟩ := hck
  obtain ⟨mk, methM, cM, hnamed, hmethM, hcM, -, -, -, -, -, hsigM⟩ := ez_wc_spec (hts _ hwc)
  have hsplit := ez_st_split (B := B) (ea := ea) (st := st) (b := b)
  have hd' : decode c.code pc = .ok (i, 3) := by rw [hb]; exact hd
  generalize hvs : (st.take b).reverse = vs at hlen hrc hsplit ⊢
  split at hck
  · rename_i idx
    obtain ⟨hl, hin, hse, ⟨hk0, hk1⟩, ⟨TT, N, hcl⟩, hpar⟩ := hck
    obtain ⟨k', rfl⟩ : ∃ k', k = k' + 1 := ⟨k - 1, by omega⟩
    have hrc' : ∃ q ps, vs = .ref q :: ps ∧ ez_t h q = k' + 1 := by
      unfold ez_rcv at hrc
      simp only at hrc
      split at hrc
      · exact ⟨_, _, rfl, hrc⟩
      · exact hrc.elim
    obtain ⟨q, ps, rfl, hq⟩ := hrc'
    obtain ⟨ws, j, hP, -, hj, -⟩ := hR.get (p := q) (by omega)
    rw [ez_ce_obj hq hk1] at hj
    obtain ⟨cellB, hcB, hoB, hclB⟩ := va_recv hK hP hcl hj
    obtain ⟨mk2, methM2, hnamed2, hmethM2, hstM, habM⟩ := Cond.instanceMethod_spec (hts _ hin)
    cases hnamed.symm.trans hnamed2
    cases hmethM.symm.trans hmethM2
    obtain ⟨c2, r2, m2, q1, q2, q3, q4, kP, hkP, hkPi⟩ := Cond.selects_spec (hts _ hse)
    cases hclB.symm.trans q1
    cases (State.methodFound?_of_named hnamed hy).symm.trans q2
    cases hnamed.symm.trans q3
    have hselP : selectMethod e.platform s.vm cellB.cls mk = .method mk := by rw [Launch.admits_selectMethod X.admits]; exact q4
    have hpl := ez_parms hpar _ hsigM
    obtain ⟨vm₁, X₁, hst⟩ := X.invokevirtual hx hown (hts _ hl) hnamed hmethM hstM hkP hkPi hy (a := B + q) (cell := cellB) hcB (fun z hz => by rw [hz] at hoB; cases hoB) hselP hmethM habM hkP hkPi (g := F0 m pc lsM (st.map (ez_tr B ea))) rfl (argsL := ps.map (ez_tr B ea)) (rest := (st.drop b).map (ez_tr B ea))
      (by rw [List.length_map]; simp at hlen; omega) (by rw [hsplit]; simp [ez_tr]) hd'
    exact ⟨mk, vm₁, hnamed, X₁, fun target ht => hst _ fun acts => by rw [doInvoke_state]; exact ht⟩
  · rename_i idx
    obtain ⟨hl, hy1, hin, hnoH, hret, hk0, hpar⟩ := hck
    obtain ⟨k', rfl⟩ : ∃ k', k = k' + 1 := ⟨k - 1, by omega⟩
    have hrc' : ∃ q ps, vs = .ref q :: ps := by
      unfold ez_rcv at hrc
      simp only at hrc
      split at hrc
      · exact ⟨_, _, rfl⟩
      · exact hrc.elim
    obtain ⟨q, ps, rfl⟩ := hrc'
    subst hnoH
    subst hret
    have hpM : e.platform.magicAccessors = ({} : Platform).magicAccessors := by rw [X.admits.platform]
    have hlenP : ∀ sig, parseMethodDescriptor y.desc = some sig → (ps.map (ez_tr B ea)).length = sig.parameters.length := fun sig hs => by
      have := ez_parms hpar _ hs
      rw [List.length_map]
      simp at hlen
      omega
    rcases hl with hl | ⟨host, hl⟩
    · obtain ⟨mk2, methM2, cM2, kP, vm₁, hnamed2, -, -, -, -, -, -, -, hW₁, hst⟩ := Steps.initColdArgs (e := e) X.here hx X.warmed hpM hown hy1 hy (hts _ hl) (hts _ hin) (hts _ hwc) (f := F0 m pc lsM (st.map (ez_tr B ea))) rfl hlenP (rest := (st.drop b).map (ez_tr B ea)) (a := B + q) (by rw [hsplit]; simp [ez_tr]) hd'
      cases hnamed.symm.trans hnamed2
      exact ⟨mk, vm₁, hnamed, X.noted hW₁, fun target ht => hst _ fun acts => by rw [doInvoke_state]; exact ht⟩
    · obtain ⟨mk2, methM2, cM2, kP, vm₁, hnamed2, -, -, -, -, -, -, -, hW₁, hst⟩ := Steps.initColdArgsNest (e := e) X.here hx X.warmed hpM hown hy1 hy (hts _ hl) (hts _ hin) (hts _ hwc) (f := F0 m pc lsM (st.map (ez_tr B ea))) rfl hlenP (rest := (st.drop b).map (ez_tr B ea)) (a := B + q) (by rw [hsplit]; simp [ez_tr]) hd'
      cases hnamed.symm.trans hnamed2
      exact ⟨mk, vm₁, hnamed, X.noted hW₁, fun target ht => hst _ fun acts => by rw [doInvoke_state]; exact ht⟩
  · rename_i idx
    obtain ⟨hl, hsta, rfl, hpar⟩ := hck
    have hstatic : methM.isStatic = true := Cond.static_spec hnamed hmethM (hts _ hsta)
    obtain ⟨kP, hkP, -⟩ := className_of_methodNamed hnamed
    have hinitP : kP.init = .initialized := Cond.initialized_spec (findClass_of_methodNamed hnamed) hkP (hts _ hini)
    have hpl := ez_parms hpar _ hsigM
    rcases hl with hl | ⟨host, hl⟩
    · obtain ⟨vm₁, X₁, hst⟩ := X.invokestatic hx hown (hts _ hl) hnamed hmethM hstatic hkP hinitP hy (g := F0 m pc lsM (st.map (ez_tr B ea))) rfl (argsL := vs.map (ez_tr B ea)) (rest := (st.drop b).map (ez_tr B ea)) (by rw [List.length_map]; omega) (by rw [hsplit]) hd'
      exact ⟨mk, vm₁, hnamed, X₁, fun target ht => hst _ fun acts => by rw [doInvoke_state]; exact ht⟩
    · obtain ⟨vm₁, X₁, hst⟩ := X.invokestaticNest hx hown (hts _ hl) hnamed hmethM hstatic hkP hinitP hy (g := F0 m pc lsM (st.map (ez_tr B ea))) rfl (argsL := vs.map (ez_tr B ea)) (rest := (st.drop b).map (ez_tr B ea)) (by rw [List.length_map]; omega) (by rw [hsplit]) hd'
      exact ⟨mk, vm₁, hnamed, X₁, fun target ht => hst _ fun acts => by rw [doInvoke_state]; exact ht⟩
  · exact hck.elim
end EZ16
end
section
/-! ALL TOGETHER: what the pure machine must do, the machine does -/
def ez_isSw (i : ClassFile.Instr) : Bool := match i with
  | .tableswitch _ _ _ _ => true
  | .lookupswitch _ _ => true
  | _ => false
def ez_isThr (i : ClassFile.Instr) : Bool := match i with
  | .athrow => true
  | _ => false
section EZC
variable (l : Launch) (D : va_G) (cl : List vw_C) (nf : Nat → Nat) (ty : Nat → Nat → FieldType) (dA : Nat → ClassId) (B : Nat) (ea : Nat → Nat) (exn : Nat → String) (E : Nat → Nat × (Nat → Int32)) (sta : Nat → String × String × String) (nm : Nat → MethodName) (bytes : Nat → ByteArray) (ml : Nat → Nat) (ret : Nat → Option FieldType) (hh : Nat → List (Nat × Nat × Nat × Nat)) (tbl : List Cond) (strs : List (String × Nat × String)) (hn : Nat → Nat → Nat → Option (Nat × Nat)) (code : Nat → List ez_C)
/-- a throw: its five instructions, and what links them -/
def ez_tk (mi pc x : Nat) : Prop := ∃ (i0 i1 i2 : Nat) (tx : String), decode (bytes mi) pc = .ok (.new i0, 3) ∧ decode (bytes mi) (pc + 3) = .ok (.dup, 1) ∧ decode (bytes mi) (pc + 4) = .ok (.ldc i1, 2) ∧ decode (bytes mi) (pc + 6) = .ok (.invokespecial i2, 3) ∧ decode (bytes mi) (pc + 9) = .ok (.athrow, 1) ∧ ((nm mi).cls, i1, tx) ∈ strs ∧ Bundle.fit (exn x) = true ∧
  (∀ w ∈ Bundle.ownAtoms (nm mi).cls i2 (exn x) ez_up3, w ∈ tbl ∨ w ∈ ez_thw) ∧ Cond.classLink (nm mi).cls i0 (exn x) ∈ tbl ∧ Cond.initialized (exn x) ∈ tbl ∧ hh mi = []
/-- an entry of the tables is what the code has there -/
def ez_ok1 (mi : Nat) (q : ez_C) : Prop := match q with
  | (pc, i, a, b, k, v) => (ez_isThr i = true → ez_tk exn nm bytes hh tbl strs mi pc a) ∧ (ez_isThr i = false → ∃ len, decode (bytes mi) pc = .ok (i, len) ∧ (ez_isSw i = false → len = ez_ln i)) ∧ ez_cst (nm mi).cls tbl (ml mi) i v ∧ (∀ cn off, i = .ifCond cn off ∨ i = .if_icmp cn off → (pc : Int) + off = (a : Int)) ∧ ez_jk i pc a ∧ ez_lk (nm mi).cls tbl cl nf ty sta ((nm mi).name = "<init>") i a b k ∧
    ((i = .ireturn → ret mi = if a = 0 then some .int else some .boolean) ∧ (i = .lreturn → ret mi = some .long) ∧ (i = .return_ → ret mi = none)) ∧ (ez_cl i k = true → ez_ck (nm mi).cls (nm a) (ez_wc (nm a) (bytes a) (ml a) (ret a) (hh a)) (ml a) (hh a = []) (ret a) tbl cl i b k)
def ez_okL (mi : Nat) : List ez_C → Prop
  | [] => True
  | q :: cs => ez_ok1 cl nf ty exn sta nm bytes ml ret hh tbl strs mi q ∧ (∀ q' cs', cs = q' :: cs' → ez_isSw q.2.1 = false → ez_isThr q.2.1 = false → q'.1 = q.1 + ez_ln q.2.1) ∧ ez_okL mi cs
/-- where exceptions are caught -/
def ez_okH (mi : Nat) : Prop := ∀ pc x, (hn mi pc x = none → hh mi = []) ∧ ∀ t j, hn mi pc x = some (t + 1, j) → ∃ (pre : List (Nat × Nat × Nat × Nat)) (sE eE hp ct : Nat) (rest : List (Nat × Nat × Nat × Nat)), hh mi = pre ++ (sE, eE, hp, ct) :: rest ∧ (sE ≤ pc ∧ pc < eE) ∧ ct ≠ 0 ∧ Cond.classLink (nm mi).cls ct (exn x) ∈ tbl ∧ Cond.castable (exn x) (exn x) ∈ tbl ∧
  (∀ y ∈ pre, (y.1 ≤ pc ∧ pc < y.2.1) ∧ y.2.2.2 ≠ 0 ∧ ∃ n', Cond.classLink (nm mi).cls y.2.2.2 n' ∈ tbl ∧ Cond.not (Cond.castable (exn x) n') ∈ tbl) ∧ ((∃ jj : Fin 4, decode (bytes mi) hp = .ok (.astore_n jj, 1) ∧ jj.val = j ∧ t + 1 = hp + 1) ∨ (decode (bytes mi) hp = .ok (.astore j, 2) ∧ t + 1 = hp + 2)) ∧ j < ml mi
def ez_cur (cs : List ez_C) (sk : Nat) : Nat := match sk with
  | 0 => (match cs with
    | [] => 0
    | q :: _ => q.1)
  | t + 1 => t
end EZC
theorem ez_notCast {args : Array Value} {s : State} {A C : String} {cA cC : ClassId} (h : (Cond.not (Cond.castable A C)).before args s = true) (hA : s.vm.findClass A = some cA) (hC : s.vm.findClass C = some cC) : s.vm.assignable cA cC = false := by
  cases hz : s.vm.assignable cA cC with
  | false => rfl
  | true => simp [Cond.before, Cond.holds, Cond.value, hA, hC, hz] at h
end
section
section EZK
variable {l : Launch} {D : va_G} {cl : List vw_C} {nf : Nat → Nat} {ty : Nat → Nat → FieldType} {dA : Nat → ClassId} {B : Nat} {ea : Nat → Nat} {exn : Nat → String} {E : Nat → Nat × (Nat → Int32)} {sta : Nat → String × String × String} {nm : Nat → MethodName} {bytes : Nat → ByteArray} {ml : Nat → Nat} {ret : Nat → Option FieldType} {hh : Nat → List (Nat × Nat × Nat × Nat)} {tbl : List Cond} {strs : List (String × Nat × String)} {hn : Nat → Nat → Nat → Option (Nat × Nat)}
variable {p : Program} {e : Env} {R : Room} {s : State} {m : MethodId} {args : Array Value} {below : List Frame} {meth : Method} {c : Code} {n0 u0 mi d : Nat} {Q : ez_Q}
set_option maxHeartbeats 2000000 in
/-- behind a call: it came back, or it threw -/
theorem ez_call_snd (hgd : ez_good tbl) (hH : ez_okH exn nm bytes ml hh tbl hn mi) (hcx : ez_Ctx nm bytes ml ret hh tbl mi p s m args meth c) (hsur : ez_Sur D cl dA B ea E sta strs s) (hs0 : s.heap.size = B + 1 + n0) (hcR : ez_MC ≤ n0 + R.cells) (hsR : ez_MS ≤ u0 + R.slots) {d' : Nat} (hd : d = d' + 1) (hfr : d + 6 ≤ R.frames) (hlo : 40 * d + 100 ≤ R.locals)
    {H : Heap} {locs : List Loc} {cells slots : Nat} {lsM : Array Slot} {pc a b k : Nat} {i : ClassFile.Instr} {ls : List (Option Value)} {st : List Value} {h : ez_H} (hck : ez_ck (nm mi).cls (nm a) (ez_wc (nm a) (bytes a) (ml a) (ret a) (hh a)) (ml a) (hh a = []) (ret a) tbl cl i b k) (hdc : decode (bytes mi) pc = .ok (i, 3))
    (hR : ez_Rel D cl nf ty dA B h H) (hS : va_S (ez_A B) s.heap H locs) (hn0 : n0 + cells = ez_n h) (hu0 : u0 + slots = ez_u h) (hn1 : ez_n h ≤ ez_MC) (hu1 : ez_u h ≤ ez_MS) (hl : lv_has lsM (ml mi) (ez_lv B ea ls))
    (hfew : ez_few (st.drop b) = true) (hlay : (ez_lay (st.take b).reverse).length ≤ ml a) (hlen : (st.take b).reverse.length = b) (hrc : ez_rcv h k (st.take b).reverse) {Q' : ez_Q} (hX : ez_Snd l D cl nf ty dA B ea exn E sta nm bytes ml ret hh tbl strs d' a 0 (ez_args (ml a) (st.take b).reverse) [] h Q')
    (back : ∀ (r : Option Value) (h' : ez_H), Q' (.inl r) h' → ∀ (H1 : Heap) (locs1 : List Loc) (cells1 slots1 : Nat), ez_Rel D cl nf ty dA B h' H1 → va_S (ez_A B) s.heap H1 locs1 → n0 + cells1 = ez_n h' → u0 + slots1 = ez_u h' → ez_n h' ≤ ez_MC → ez_u h' ≤ ez_MS → W p l e R s m args below meth c H1 locs1 cells1 slots1 (ez_Fin D cl nf ty dA B ea exn below s n0 u0 Q) (F0 m (pc + 3) lsM ((r.toList ++ st.drop b).map (ez_tr B ea))))
    (thr : ∀ (x : Nat) (h' : ez_H), Q' (.inr x) h' → (hn mi pc x = none ∧ Q (.inr x) h') ∨ (∃ t j, hn mi pc x = some (t + 1, j) ∧ ∀ (H1 : Heap) (locs1 : List Loc) (cells1 slots1 : Nat) (lsM1 : Array Slot), ez_Rel D cl nf ty dA B h' H1 → va_S (ez_A B) s.heap H1 locs1 → n0 + cells1 = ez_n h' → u0 + slots1 = ez_u h' → ez_n h' ≤ ez_MC → ez_u h' ≤ ez_MS → lv_has lsM1 (ml mi) (ez_lv B ea ((ez_cut ls j).set j none)) → W p l e R s m args below meth c H1 locs1 cells1 slots1 (ez_Fin D cl nf ty dA B ea exn below s n0 u0 Q) (F0 m (t + 1) lsM1 []))) :
    W p l e R s m args below meth c H locs cells slots (ez_Fin D cl nf ty dA B ea exn below s n0 u0 Q) (F0 m pc lsM (st.map (ez_tr B ea))) := by
  obtain ⟨hx, hb, hrt, hml, hown, hts, hlocks, hname, hexc⟩ := hcx
  intro T hT X
  subst hT
  obtain ⟨mk, vm₁, hnamed, X₁, hgo⟩ := ez_invoke (lsM := lsM) (ea := ea) X hx hb hown hts hsur.1 hR hck hlen hrc hdc
  obtain ⟨hpln, hyM, hini, hwc, hmx, -⟩ := hck
  have hw8 := ez_few_map (B := B) (ea := ea) hfew
  have hWw : ∀ w ∈ tbl, ∀ a', w.before a' (T.setVm vm₁) = true := fun w hw a' => hgd w hw _ a' _ (T.setVm vm₁) X₁.warmed (hts w hw)
  obtain ⟨mk2, methY, cY, g1, g2, g3, g4, g5, -⟩ := ez_wc_spec (hWw _ hwc #[])
  have hn2 := X₁.named hnamed
  cases hn2.symm.trans g1
  have hatm : (allAtoms (ez_wc (nm a) (bytes a) (ml a) (ret a) (hh a) :: tbl)).before ((st.take b).reverse.map (ez_tr B ea)).toArray (T.setVm vm₁) = true := atoms_intro fun w hw => (List.mem_cons.mp hw).elim (fun z => by rw [z]; exact hWw _ hwc _) (fun z => hWw _ z _)
  have hold : ∀ q : Nat, q < s.heap.size → ¬ ez_A B q → T.heap[q]? = s.heap[q]? := hS.2.1
  obtain ⟨o, t, hq, hst⟩ := ez_back (maxL := ml a) (a := ((st.take b).reverse.map (ez_tr B ea)).toArray) (ez_met l D cl nf ty dA B ea exn E sta nm bytes ml ret hh tbl strs hpln hlay hn1 hu1 hX) (by show d' + 6 + 1 ≤ R.frames; omega) (by show 8 + (ml a + 11) + (40 * d' + 100) ≤ R.locals; omega) X₁ (g := F0 m pc lsM ((st.drop b).map (ez_tr B ea))) rfl (by rw [hml]; exact hl.1) (by rw [hb]; exact hdc) (by show 2 * 0 + (((st.drop b).map (ez_tr B ea)).map fun v => v.category).sum ≤ 8; omega) hn2 g2 g3 g5 (hWw _ hini _)
    hatm (by show cells + (ez_MC - ez_n h) ≤ R.cells; omega) (by show slots + (ez_MS - ez_u h) ≤ R.slots; omega)
    ⟨rfl, hR, hsur.there _ _ _ _ _ _ _ _ (U := (T.setVm vm₁).calling _ mk _) X₁.warmed hold⟩
  obtain ⟨r, h', hQr, hout, hR', hW', ⟨b1, b2, b3, b4⟩, hfrm, hsz, L, hsame, hLA⟩ := hq
  obtain ⟨X₂, hsteps⟩ := hst L _ _ hW' hsame
  have hfrm' : ∀ q : Nat, q < T.heap.size → ¬ ez_A B q → t.heap[q]? = T.heap[q]? := hfrm
  have hsz' : T.heap.size ≤ t.heap.size := hsz
  have hS2 : va_S (ez_A B) s.heap t.heap (locs ++ L) := ⟨Nat.le_trans hS.1 hsz', fun q z1 z2 => (hfrm' q (Nat.lt_of_lt_of_le z1 hS.1) z2).trans (hS.2.1 q z1 z2), fun q hq => by
    rcases List.mem_append.mp hq with z | z
    · exact hS.2.2 q z
    · exact hLA q z⟩
  cases r with
  | inl v =>
    have ho : o = .returned (v.map (ez_tr B ea)) := hout
    subst ho
    obtain ⟨t2, a1, a2⟩ := back v h' hQr t.heap (locs ++ L) _ _ hR' hS2 (by omega) (by omega) b3 b4 (ez_bk (T.setVm vm₁) t) rfl X₂
    refine ⟨t2, hgo _ (hsteps.trans ?_), a2⟩
    have : (v.map (ez_tr B ea)).toList ++ (st.drop b).map (ez_tr B ea) = (v.toList ++ st.drop b).map (ez_tr B ea) := by cases v <;> rfl
    show Steps p.tables e below ((ez_bk (T.setVm vm₁) t).setTop (F0 m (pc + 3) lsM ((v.map (ez_tr B ea)).toList ++ (st.drop b).map (ez_tr B ea)))) t2
    rw [this]
    exact a1
  | inr x =>
    obtain ⟨ad, cell, ho, hcell, hobj, hfc⟩ := hout
    subst ho
    have hfc' : s.vm.findClass (exn x) = some cell.cls := by
      have hal := X₁.warmed.alike
      rw [← hal.findClass]
      exact hfc
    rcases thr x h' hQr with ⟨hnn, hQx⟩ | ⟨tt, j, hns, kk⟩
    · have hem : c.exceptionTable.toList = [] := by
        have := (hH pc x).1 hnn
        rw [this] at hexc
        simpa using hexc
      obtain ⟨w1, w2, w3, w4, w5⟩ := X₂.leaveThrown ad (g := F0 m pc lsM ((st.drop b).map (ez_tr B ea))) rfl rfl rfl (by rw [hem]; intro z hz; cases hz) (hlocks := hlocks)
      refine ⟨_, hgo _ (hsteps.trans w1), .threw ad, w2, w3, .inr x, h', hQx, ⟨ad, cell, rfl, hcell, hobj, hfc'⟩, hR', w4, ⟨by omega, by omega, b3, b4⟩, hS2.2.1, hS2.1, locs ++ L, ?_, hS2.2.2⟩
      rw [show ez_n h' - n0 = cells + (ez_n h' - ez_n h) by omega, show ez_u h' - u0 = slots + (ez_u h' - ez_u h) by omega]
      exact w5
    · obtain ⟨pre, sE, eE, hp, ct, rest, e1, e2, e3, e4, e5, e6, e7, e8⟩ := (hH pc x).2 tt j hns
      rw [e1] at hexc
      obtain ⟨preT, xs, f1, f2, f3⟩ := List.map_eq_append_iff.mp hexc
      obtain ⟨xT, restT, f4, f5, f6⟩ := List.map_eq_cons_iff.mp f3
      have f5' : xT.startPc = sE ∧ xT.endPc = eE ∧ xT.handlerPc = hp ∧ xT.catchType = ct := by
        injection f5 with z1 z2; injection z2 with z2 z3; injection z3 with z3 z4; exact ⟨z1, z2, z3, z4⟩
      obtain ⟨y1, y2, y3, y4⟩ := f5'
      obtain ⟨cA, cB, hcA, hcB, hasg⟩ := Cond.castable_spec (hts _ e5)
      cases hfc'.symm.trans hcA
      cases hfc'.symm.trans hcB
      obtain ⟨vm2, X₃, hcatch⟩ := ez_catch X₂ hown (g := F0 m pc lsM ((st.drop b).map (ez_tr B ea))) rfl hcell hobj rfl (Vm.classAt_of_findClass hfc') preT xT restT (by rw [f1, f4]) (by simp only [covers, Bool.and_eq_true, decide_eq_true_eq]; rw [y1, y2]; exact e2) (by rw [y4]; exact e3) (name := exn x) (by rw [y4]; exact hts _ e4) hfc' hasg
        (fun y hy => by
          obtain ⟨v1, v2, n', v3, v4⟩ := e6 (y.startPc, y.endPc, y.handlerPc, y.catchType) (by rw [← f2]; exact List.mem_map.mpr ⟨y, hy, rfl⟩)
          have hpl : e.platform.magicAccessors = ({} : Platform).magicAccessors := by rw [X.admits.platform]
          obtain ⟨cN, hcN, -⟩ := Cond.classLink_spec hown (hts _ v3) e.platform hpl
          exact ⟨by simp only [covers, Bool.and_eq_true, decide_eq_true_eq]; exact v1, v2, n', cN, hts _ v3, hcN, ez_notCast (hts _ v4) hfc' hcN⟩)
      have K : W p l e R s m args below meth c t.heap (locs ++ L) (cells + (ez_n h' - ez_n h)) (slots + (ez_u h' - ez_u h)) (ez_Fin D cl nf ty dA B ea exn below s n0 u0 Q) (F0 m hp lsM [.ref ad]) := by
        rcases e7 with ⟨jj, w1, rfl, w3⟩ | ⟨w1, w3⟩
        · refine lv_astore_n hx hb w1 rfl hl e8 rfl fun ls' hl' => ?_
          rw [← w3]
          exact kk _ _ _ _ ls' hR' hS2 (by omega) (by omega) b3 b4 (ez_lv_none hl')
        · refine lv_astore hx hb w1 hl e8 rfl fun ls' hl' => ?_
          rw [← w3]
          exact kk _ _ _ _ ls' hR' hS2 (by omega) (by omega) b3 b4 (ez_lv_none hl')
      obtain ⟨t2, a1, a2⟩ := K ((ez_bk (T.setVm vm₁) t).setVm vm2) rfl X₃
      refine ⟨t2, hgo _ (hsteps.trans (hcatch _ ?_)), a2⟩
      show Steps p.tables e below (((ez_bk (T.setVm vm₁) t).setVm vm2).setTop (F0 m xT.handlerPc lsM [.ref ad])) t2
      rw [y3]
      exact a1
set_option maxHeartbeats 4000000 in
theorem ez_walk (htr : l.stackTraces = false) (hgd : ez_good tbl) (hH : ez_okH exn nm bytes ml hh tbl hn mi) (hcx : ez_Ctx nm bytes ml ret hh tbl mi p s m args meth c) (hsur : ez_Sur D cl dA B ea E sta strs s) (hs0 : s.heap.size = B + 1 + n0) (hcR : ez_MC ≤ n0 + R.cells) (hsR : ez_MS ≤ u0 + R.slots) (hfr : d + 6 ≤ R.frames) (hlo : 40 * d + 100 ≤ R.locals) :
    ∀ (cs : List ez_C), ez_okL cl nf ty exn sta nm bytes ml ret hh tbl strs mi cs → ∀ (sk : Nat) (ls : List (Option Value)) (st : List Value) (h : ez_H) (H : Heap) (locs : List Loc) (cells slots : Nat) (lsM : Array Slot), ez_gw (ez_Snd l D cl nf ty dA B ea exn E sta nm bytes ml ret hh tbl strs) E ml (hn mi) mi d cs sk ls st h Q → ez_Rel D cl nf ty dA B h H → va_S (ez_A B) s.heap H locs → n0 + cells = ez_n h → u0 + slots = ez_u h → ez_n h ≤ ez_MC → ez_u h ≤ ez_MS → lv_has lsM (ml mi) (ez_lv B ea ls) →
      W p l e R s m args below meth c H locs cells slots (ez_Fin D cl nf ty dA B ea exn below s n0 u0 Q) (F0 m (ez_cur cs sk) lsM (st.map (ez_tr B ea))) := by
  obtain ⟨hx, hb, hrt, hml, hown, hts, hlocks, hname, hexc⟩ := id hcx
  intro cs
  induction cs with
  | nil => intro _ sk ls st h H locs cells slots lsM G; exact G.elim
  | cons q0 cs ih =>
    obtain ⟨pc, i, a, b, k, v⟩ := q0
    intro hok sk ls st h H locs cells slots lsM G hR hS hn0 hu0 hn1 hu1 hl
    obtain ⟨⟨okT, okD, okC, okB, okJ, okK, okR, okY⟩, okN, okL⟩ := hok
    have IH := ih okL
    have hmlS : c.maxLocals = lsM.size := by rw [hml, hl.1]
    -- the next instruction
    have nxt : ez_isSw i = false → ez_isThr i = false → ∀ (ls1 : List (Option Value)) (st1 : List Value) (h1 : ez_H) (H1 : Heap) (locs1 : List Loc) (cells1 slots1 : Nat) (lsM1 : Array Slot), ez_gw (ez_Snd l D cl nf ty dA B ea exn E sta nm bytes ml ret hh tbl strs) E ml (hn mi) mi d cs 0 ls1 st1 h1 Q → ez_Rel D cl nf ty dA B h1 H1 → va_S (ez_A B) s.heap H1 locs1 → n0 + cells1 = ez_n h1 → u0 + slots1 = ez_u h1 → ez_n h1 ≤ ez_MC → ez_u h1 ≤ ez_MS → lv_has lsM1 (ml mi) (ez_lv B ea ls1) → W p l e R s m args below meth c H1 locs1 cells1 slots1 (ez_Fin D cl nf ty dA B ea exn below s n0 u0 Q) (F0 m (pc + ez_ln i) lsM1 (st1.map (ez_tr B ea))) := by
      intro s1 s2 ls1 st1 h1 H1 locs1 cells1 slots1 lsM1 G1 r1 r2 r3 r4 r5 r6 r7
      cases cs with
      | nil => exact G1.elim
      | cons q' cs' =>
        have e1 : ez_cur (q' :: cs') 0 = pc + ez_ln i := okN q' cs' rfl s1 s2
        have := IH 0 ls1 st1 h1 H1 locs1 cells1 slots1 lsM1 G1 r1 r2 r3 r4 r5 r6 r7
        rw [e1] at this
        exact this
    -- a jump, forth or back
    have jmp : ∀ (t : Nat) (st1 : List Value), (match Nat.blt pc t with
        | true => ez_gw (ez_Snd l D cl nf ty dA B ea exn E sta nm bytes ml ret hh tbl strs) E ml (hn mi) mi d cs (t + 1) ls st1 h Q
        | false => ez_Snd l D cl nf ty dA B ea exn E sta nm bytes ml ret hh tbl strs d mi t ls st1 h Q) → W p l e R s m args below meth c H locs cells slots (ez_Fin D cl nf ty dA B ea exn below s n0 u0 Q) (F0 m t lsM (st1.map (ez_tr B ea))) := by
      intro t st1 G1
      cases hbt : Nat.blt pc t with
      | true =>
        simp only [hbt] at G1
        exact IH (t + 1) ls st1 h H locs cells slots lsM G1 hR hS hn0 hu0 hn1 hu1 hl
      | false =>
        simp only [hbt] at G1
        exact G1 p e R s m args below meth c H locs cells slots lsM n0 u0 hcx hsur hR hS hs0 hn0 hu0 hn1 hu1 hcR hsR hfr hlo hl
    unfold ez_gw at G
    cases h1 : ez_past sk pc with
    | true =>
      simp only [h1] at G
      have e1 : ez_cur ((pc, i, a, b, k, v) :: cs) sk = ez_cur cs sk := by
        cases sk with
        | zero => cases h1
        | succ t => rfl
      rw [e1]
      exact IH sk ls st h H locs cells slots lsM G hR hS hn0 hu0 hn1 hu1 hl
    | false =>
      have e1 : ez_cur ((pc, i, a, b, k, v) :: cs) sk = pc := by
        cases sk with
        | zero => rfl
        | succ t =>
          have : Nat.beq (t + 1) (pc + 1) = true := by
            unfold ez_past at h1
            cases hz : Nat.beq (t + 1) (pc + 1) with
            | true => rfl
            | false => rw [hz] at h1; cases h1
          have := Nat.eq_of_beq_eq_true this
          show t = pc
          omega
      rw [e1]
      simp only [h1] at G
      have dec : ez_isSw i = false → ez_isThr i = false → decode (bytes mi) pc = .ok (i, ez_ln i) := fun s1 s2 => by
        obtain ⟨len, d1, d2⟩ := okD s2
        rw [← d2 s1]
        exact d1
      cases h2 : ez_op i v st with
      | some st' =>
        simp only [h2] at G
        have s1 : ez_isSw i = false ∧ ez_isThr i = false := by
          unfold ez_op at h2
          split at h2 <;> first | exact ⟨rfl, rfl⟩ | cases h2
        exact ez_op_snd hx hb hown hts (dec s1.1 s1.2) okC h2 (nxt s1.1 s1.2 ls st' h H locs cells slots lsM G hR hS hn0 hu0 hn1 hu1 hl)
      | none =>
        simp only [h2] at G
        cases h3 : ez_ld i ls st with
        | some st' =>
          simp only [h3] at G
          have s1 : ez_isSw i = false ∧ ez_isThr i = false := by
            unfold ez_ld at h3
            split at h3 <;> first | exact ⟨rfl, rfl⟩ | cases h3
          exact ez_ld_snd hx hb hl (dec s1.1 s1.2) h3 (nxt s1.1 s1.2 ls st' h H locs cells slots lsM G hR hS hn0 hu0 hn1 hu1 hl)
        | none =>
          simp only [h3] at G
          cases h4 : ez_st i v ls st with
          | some q =>
            obtain ⟨ls', st'⟩ := q
            simp only [h4] at G
            have s1 : ez_isSw i = false ∧ ez_isThr i = false := by
              unfold ez_st at h4
              split at h4 <;> first | exact ⟨rfl, rfl⟩ | cases h4
            exact ez_st_snd hx hb hl (dec s1.1 s1.2) okC h4 fun lsM' hl' => nxt s1.1 s1.2 ls' st' h H locs cells slots lsM' G hR hS hn0 hu0 hn1 hu1 hl'
          | none =>
            simp only [h4] at G
            cases h5 : ez_br i st with
            | some q =>
              obtain ⟨cd, st'⟩ := q
              simp only [h5] at G
              have s1 : (ez_isSw i = false ∧ ez_isThr i = false) ∧ ez_ln i = 3 := by
                unfold ez_br at h5
                split at h5 <;> first | exact ⟨⟨rfl, rfl⟩, rfl⟩ | cases h5
              refine ez_br_snd hx hb (a := a) (dec s1.1.1 s1.1.2) okB h5 (fun z => jmp a st' (G.1 z)) (fun z => ?_)
              have := nxt s1.1.1 s1.1.2 ls st' h H locs cells slots lsM (G.2 z) hR hS hn0 hu0 hn1 hu1 hl
              rw [s1.2] at this
              exact this
            | none =>
              simp only [h5] at G
              cases h6 : ez_sm E i a b k ls st h with
              | some q =>
                obtain ⟨cd, st', h'⟩ := q
                simp only [h6] at G
                have s1 : ez_isSw i = false ∧ ez_isThr i = false := by
                  unfold ez_sm at h6
                  split at h6 <;> first | exact ⟨rfl, rfl⟩ | cases h6
                exact ez_sm_snd hx hb hmlS hown hts hsur.1 hR hS hsur.2.1 hsur.2.2.1 hs0 hn0 hu0 hn1 hu1 hcR hsR (by omega) (by omega) (dec s1.1 s1.2) (by rw [hname]; exact okK) h6 G.1 fun H1 locs1 cells1 slots1 r1 r2 r3 r4 r5 r6 => nxt s1.1 s1.2 ls st' h' H1 locs1 cells1 slots1 lsM G.2 r1 r2 r3 r4 r5 r6 hl
              | none =>
                simp only [h6] at G
                cases h7 : ez_rt i a st with
                | some q =>
                  obtain ⟨cd, r⟩ := q
                  simp only [h7] at G
                  have s1 : ez_isSw i = false ∧ ez_isThr i = false := by
                    unfold ez_rt at h7
                    split at h7 <;> first | exact ⟨rfl, rfl⟩ | cases h7
                  exact ez_rt_snd (a := a) hx hb hlocks (by rw [hrt]; exact okR) hR hS hn0 hu0 hn1 hu1 (dec s1.1 s1.2) h7 G.1 G.2
                | none =>
                  simp only [h7] at G
                  cases h8 : ez_jp i pc a st with
                  | mk J st' =>
                    cases J with
                    | some J =>
                      simp only [h8] at G
                      have s2 : ez_isThr i = false := by
                        unfold ez_jp at h8
                        split at h8 <;> first | rfl | cases h8
                      obtain ⟨len, d1, d2⟩ := okD s2
                      exact ez_jp_snd hx hb d1 (fun o ho => by rw [ho] at d2; rw [d2 rfl]; rfl) okJ h8 G fun t ht => jmp t st' ht
                    | none =>
                      simp only [h8] at G
                      cases h9 : ez_cl i k with
                      | true =>
                        simp only [h9] at G
                        have s1 : (ez_isSw i = false ∧ ez_isThr i = false) ∧ ez_ln i = 3 := by
                          unfold ez_cl at h9
                          split at h9 <;> first | exact ⟨⟨rfl, rfl⟩, rfl⟩ | cases h9
                        cases d with
                        | zero => exact G.elim
                        | succ d' =>
                          obtain ⟨⟨c1, c2, c3, c4⟩, GX⟩ := G
                          have hdc := dec s1.1.1 s1.1.2
                          rw [s1.2] at hdc
                          refine ez_call_snd hgd hH hcx hsur hs0 hcR hsR rfl hfr hlo (okY h9) hdc hR hS hn0 hu0 hn1 hu1 hl c1 (Nat.le_of_ble_eq_true c2) (Nat.eq_of_beq_eq_true c3) c4 GX ?_ ?_
                          · intro r h' hq H1 locs1 cells1 slots1 r1 r2 r3 r4 r5 r6
                            cases r with
                            | none =>
                              have := nxt s1.1.1 s1.1.2 ls (st.drop b) h' H1 locs1 cells1 slots1 lsM hq r1 r2 r3 r4 r5 r6 hl
                              rw [s1.2] at this
                              exact this
                            | some w =>
                              have := nxt s1.1.1 s1.1.2 ls (w :: st.drop b) h' H1 locs1 cells1 slots1 lsM hq r1 r2 r3 r4 r5 r6 hl
                              rw [s1.2] at this
                              exact this
                          · intro x h' hq
                            cases h10 : hn mi pc x with
                            | none => simp only [h10] at hq; exact Or.inl ⟨rfl, hq⟩
                            | some z =>
                              obtain ⟨t, j⟩ := z
                              simp only [h10] at hq
                              cases t with
                              | zero => exact hq.elim
                              | succ t' => exact Or.inr ⟨t', j, rfl, fun H1 locs1 cells1 slots1 lsM1 r1 r2 r3 r4 r5 r6 r7 => IH (t' + 2) _ [] h' H1 locs1 cells1 slots1 lsM1 hq r1 r2 r3 r4 r5 r6 r7⟩
                      | false =>
                        simp only [h9] at G
                        split at G
                        · split at G
                          · obtain ⟨i0, i1, i2, tx, t0, t1, t2, t3, t4, t5, t6, t7, t8, t9, t10⟩ := okT rfl
                            rw [t10] at hexc
                            obtain ⟨qs, hqs⟩ := hsur.2.2.2.2 _ t5
                            intro T hT X
                            have htr' : e.platform.stackTraces = false := by rw [X.admits.platform]; exact htr
                            exact ez_throw hx hb hlocks hmlS hown hts hgd htr' hsur.2.2.2.1 (by simpa [Array.isEmpty] using hexc) hR hS hs0 hn0 hu0 G.1.1 G.1.2 hcR hsR (by omega) (by omega) t6 t7 t8 t9 hqs t0 t1 t2 t3 t4 G.2 T hT X
                          · exact G.elim
                        · exact G.elim
end EZK
/-- SOUNDNESS -/
theorem ez_sound {l : Launch} {D : va_G} {cl : List vw_C} {nf : Nat → Nat} {ty : Nat → Nat → FieldType} {dA : Nat → ClassId} {B : Nat} {ea : Nat → Nat} {exn : Nat → String} {E : Nat → Nat × (Nat → Int32)} {sta : Nat → String × String × String} {nm : Nat → MethodName} {bytes : Nat → ByteArray} {ml : Nat → Nat} {ret : Nat → Option FieldType} {hh : Nat → List (Nat × Nat × Nat × Nat)} {tbl : List Cond} {strs : List (String × Nat × String)} {hn : Nat → Nat → Nat → Option (Nat × Nat)} {code : Nat → List ez_C}
    (htr : l.stackTraces = false) (hgd : ez_good tbl) (hH : ∀ mi, ez_okH exn nm bytes ml hh tbl hn mi) (hL : ∀ mi, ez_okL cl nf ty exn sta nm bytes ml ret hh tbl strs mi (code mi)) : ez_Closed E ml hn code (ez_Snd l D cl nf ty dA B ea exn E sta nm bytes ml ret hh tbl strs) := by
  intro d mi pc ls st h Q G p e R s m args below meth c H locs cells slots lsM n0 u0 a1 a2 a3 a4 a5 a6 a7 a8 a9 a10 a11 a12 a13 a14
  exact ez_walk htr hgd (hH mi) a1 a2 a5 a10 a11 a12 a13 (code mi) (hL mi) (pc + 1) ls st h H locs cells slots lsM G a3 a4 a6 a7 a8 a9 a14
end
section
/-! THE TABLES ARE CHECKED BY A PROGRAM: tb: the words that a class's methods need; each is one of the tables' own -/
section EZT
variable (own : String) (tb : List Cond) (ncl : Nat) (ct : Nat → u_T) (cn : Nat → String) (nf : Nat → Nat) (ty : Nat → Nat → FieldType) (sta : Nat → String × String × String) (host : String)
def ez_inb (w : Cond) : Bool := decide (w ∈ tb)
def ez_cstb (nL : Nat) (i : ClassFile.Instr) (v : Int32) : Bool := match i with
  | .iconst n => decide (Int32.ofInt n = v)
  | .bipush n => decide ((Int8.ofInt n).toInt32 = v)
  | .sipush n => decide ((Int16.ofInt n).toInt32 = v)
  | .lconst n => decide (Int64.ofNat (n : Nat) = v.toInt64)
  | .ldc j => ez_inb tb (.constant own j v)
  | .ldc_w j => ez_inb tb (.constant own j v)
  | .ldc2_w j => ez_inb tb (.constantLong own j v.toInt64)
  | .iinc k n => decide (Int32.ofInt n = v) && decide (k < nL)
  | .istore k => decide (k < nL)
  | .istore_n k => decide (k.val < nL)
  | .astore k => decide (k < nL)
  | .astore_n k => decide (k.val < nL)
  | .lstore k => decide (k + 1 < nL)
  | .lstore_n k => decide (k.val + 1 < nL)
  | _ => true
theorem ez_cstb_ok {tbl : List Cond} (hs : ∀ w ∈ tb, w ∈ tbl) {nL : Nat} {i : ClassFile.Instr} {v : Int32} (h : ez_cstb own tb nL i v = true) : ez_cst own tbl nL i v := by
  cases i <;> simp only [ez_cstb, ez_cst, ez_inb, decide_eq_true_eq, Bool.and_eq_true] at h ⊢ <;> first | exact h | exact hs _ h | trivial
def ez_brb (i : ClassFile.Instr) (pc a : Nat) : Bool := match i with
  | .ifCond _ off => decide ((pc : Int) + off = (a : Int))
  | .if_icmp _ off => decide ((pc : Int) + off = (a : Int))
  | _ => true
theorem ez_brb_ok {i : ClassFile.Instr} {pc a : Nat} (h : ez_brb i pc a = true) : ∀ cn off, i = .ifCond cn off ∨ i = .if_icmp cn off → (pc : Int) + off = (a : Int) := by
  rintro cn off (rfl | rfl)
  · exact of_decide_eq_true h
  · exact of_decide_eq_true h
def ez_jkb (i : ClassFile.Instr) (pc a : Nat) : Bool := match i with
  | .goto off => decide ((pc : Int) + off = (a : Int))
  | .tableswitch df lo hi os => decide ((∀ o ∈ os.toList, 0 ≤ (pc : Int) + o) ∧ 0 ≤ (pc : Int) + df ∧ hi = lo + os.toList.length - 1 ∧ ∀ q ∈ ez_tab lo os.toList, (Int32.ofInt q.1).toInt = q.1)
  | .lookupswitch df ps => decide ((∀ q ∈ ps.toList, 0 ≤ (pc : Int) + q.2) ∧ 0 ≤ (pc : Int) + df ∧ (ps.toList.zip (ps.toList.drop 1)).all (fun (a, next) => a.1 < next.1) = true ∧ ∀ q ∈ ps.toList, (Int32.ofInt q.1).toInt = q.1)
  | _ => true
theorem ez_jkb_ok {i : ClassFile.Instr} {pc a : Nat} (h : ez_jkb i pc a = true) : ez_jk i pc a := by
  cases i <;> simp only [ez_jkb, ez_jk] at h ⊢ <;> first | exact of_decide_eq_true h | trivial
def ez_tyb (k : Nat) (t : FieldType) : Bool := match k with
  | 0 => decide (t = .int)
  | 1 => decide (t = .boolean)
  | 2 => decide (t = .long)
  | _ + 3 => (match t with
    | .object _ => true
    | .array _ => true
    | _ => false)
theorem ez_tyb_ok {k : Nat} {t : FieldType} (h : ez_tyb k t = true) : (k = 0 → t = .int) ∧ (k = 1 → t = .boolean) ∧ (k = 2 → t = .long) ∧ (3 ≤ k → (∃ n, t = .object n) ∨ ∃ n, t = .array n) := by
  match k, h with
  | 0, h => exact ⟨fun _ => of_decide_eq_true h, fun q => by omega, fun q => by omega, fun q => by omega⟩
  | 1, h => exact ⟨fun q => by omega, fun _ => of_decide_eq_true h, fun q => by omega, fun q => by omega⟩
  | 2, h => exact ⟨fun q => by omega, fun q => by omega, fun _ => of_decide_eq_true h, fun q => by omega⟩
  | k + 3, h =>
    refine ⟨fun q => by omega, fun q => by omega, fun q => by omega, fun _ => ?_⟩
    cases t <;> simp only [ez_tyb] at h
    all_goals first | exact Or.inl ⟨_, rfl⟩ | exact Or.inr ⟨_, rfl⟩ | cases h
def ez_flb (idx a b : Nat) : Bool := ez_inb tb (.fieldLink own idx (ct a b).1 (ct a b).2.1 (ct a b).2.2.1) || ez_inb tb (.fieldLinkNest own idx (ct a b).1 (ct a b).2.1 (ct a b).2.2.1 host)
def ez_lkb (ini : Bool) (i : ClassFile.Instr) (a b k : Nat) : Bool := match i with
  | .getfield idx => decide (0 < a) && decide (a ≤ ncl) && decide (b < nf a) && ez_flb own tb ct host idx a b && ez_tyb k (ty a b)
  | .putfield idx => decide (0 < a) && decide (a ≤ ncl) && decide (b < nf a) && ((!(ct a b).2.2.2 && ez_flb own tb ct host idx a b) || ((ct a b).2.2.2 && ini && decide ((ct a b).1 = own) && ez_inb tb (.fieldLink own idx (ct a b).1 (ct a b).2.1 (ct a b).2.2.1))) && ez_tyb k (ty a b)
  | .getstatic idx => decide (0 < a) && (ez_inb tb (.fieldLink own idx (sta a).1 (sta a).2.1 (sta a).2.2) || ez_inb tb (.fieldLinkNest own idx (sta a).1 (sta a).2.1 (sta a).2.2 host))
  | .newarray at_ => (decide (at_ = .int ∧ a = 1000) || decide (at_ = .long ∧ a = 1002) || decide (at_ = .byte ∧ a = 1003)) && ez_inb tb (.arrayClass (newarray.typeOf at_))
  | .new idx => decide (0 < a) && decide (a ≤ ncl) && decide (b = nf a) && ez_inb tb (.classLink own idx (cn a)) && ez_inb tb (.instantiable (cn a) (nf a)) && ez_inb tb (.initialized (cn a)) && (List.range (nf a)).all (fun k => ez_tyb 0 (ty a k) || ez_tyb 1 (ty a k) || ez_tyb 2 (ty a k) || ez_tyb 3 (ty a k))
  | .invokespecial idx => !(decide (k = 0)) || (ez_inb tb (.methodLink own idx Lib.objectInit) && ez_inb tb (.instanceMethod Lib.objectInit))
  | .invokestatic idx => (!(decide (k = 1)) || (ez_inb tb (.methodLink own idx Lib.Math.max.name) && ez_inb tb (.static Lib.Math.max.name))) && (!(decide (k = 2)) || (ez_inb tb (.methodLink own idx Lib.Math.min.name) && ez_inb tb (.static Lib.Math.min.name))) && (!(decide (3 ≤ k)) || (ez_inb tb (.methodLink own idx arraycopyName) && ez_inb tb (.native arraycopyName) && ez_inb tb (.static arraycopyName)))
  | _ => true
/-- words that hold for all classes alike -/
def ez_gen (tbl : List Cond) : Prop := Cond.code Lib.objectInit ⟨#[0xb1]⟩ 1 none ∈ tbl ∧ Cond.initialized "java/lang/Math" ∈ tbl ∧ Cond.initialized "java/lang/System" ∈ tbl ∧ Cond.code Lib.Math.max.name Lib.Math.max.code 2 (some .int) ∈ tbl ∧ Cond.code Lib.Math.min.name Lib.Math.min.code 2 (some .int) ∈ tbl
theorem ez_flb_ok {tbl : List Cond} (hs : ∀ w ∈ tb, w ∈ tbl) {idx a b : Nat} (h : ez_flb own tb ct host idx a b = true) : Cond.fieldLink own idx (ct a b).1 (ct a b).2.1 (ct a b).2.2.1 ∈ tbl ∨ ∃ host, Cond.fieldLinkNest own idx (ct a b).1 (ct a b).2.1 (ct a b).2.2.1 host ∈ tbl := by
  simp only [ez_flb, ez_inb, Bool.or_eq_true, decide_eq_true_eq] at h
  exact h.imp (hs _) (fun z => ⟨host, hs _ z⟩)
set_option maxHeartbeats 1000000 in
theorem ez_lkb_ok {tbl : List Cond} {cl : List vw_C} (hs : ∀ w ∈ tb, w ∈ tbl) (hg : ez_gen tbl) (hcls : ∀ a, 0 < a → a ≤ ncl → ez_Cls tbl cl nf ty a (cn a) (ct a)) {ini : Bool} {P : Prop} (hini : ini = true → P) {i : ClassFile.Instr} {a b k : Nat} (h : ez_lkb own tb ncl ct cn nf ty sta host ini i a b k = true) : ez_lk own tbl cl nf ty sta P i a b k := by
  unfold ez_lkb at h
  split at h
  · simp only [Bool.and_eq_true, decide_eq_true_eq] at h
    obtain ⟨⟨⟨⟨h1, h2⟩, h3⟩, h4⟩, h5⟩ := h
    exact ⟨_, _, hcls a h1 h2, h3, ez_flb_ok own tb ct host hs h4, ez_tyb_ok h5⟩
  · simp only [Bool.and_eq_true, Bool.or_eq_true, Bool.not_eq_true', decide_eq_true_eq, ez_inb] at h
    obtain ⟨⟨⟨⟨h1, h2⟩, h3⟩, h4⟩, h5⟩ := h
    refine ⟨_, _, hcls a h1 h2, h3, ?_, ez_tyb_ok h5⟩
    rcases h4 with ⟨z1, z2⟩ | ⟨⟨⟨z1, z2⟩, z3⟩, z4⟩
    · exact Or.inl ⟨z1, ez_flb_ok own tb ct host hs z2⟩
    · exact Or.inr ⟨z1, hini z2, z3, hs _ z4⟩
  · simp only [Bool.and_eq_true, Bool.or_eq_true, decide_eq_true_eq, ez_inb] at h
    exact ⟨h.1, h.2.imp (hs _) (fun z => ⟨host, hs _ z⟩)⟩
  · simp only [Bool.and_eq_true, Bool.or_eq_true, decide_eq_true_eq, ez_inb] at h
    exact ⟨(or_assoc.mp h.1), hs _ h.2⟩
  · simp only [Bool.and_eq_true, decide_eq_true_eq, ez_inb] at h
    obtain ⟨⟨⟨⟨⟨⟨h1, h2⟩, h3⟩, h4⟩, h5⟩, h6⟩, h7⟩ := h
    refine ⟨_, _, hcls a h1 h2, h3, hs _ h4, hs _ h5, hs _ h6, fun j hj => ?_⟩
    have := List.all_eq_true.mp h7 j (List.mem_range.mpr hj)
    simp only [Bool.or_eq_true] at this
    rcases this with ((z | z) | z) | z
    · exact Or.inl ((ez_tyb_ok z).1 rfl)
    · exact Or.inr (Or.inl ((ez_tyb_ok z).2.1 rfl))
    · exact Or.inr (Or.inr (Or.inl ((ez_tyb_ok z).2.2.1 rfl)))
    · exact Or.inr (Or.inr (Or.inr ((ez_tyb_ok z).2.2.2 (Nat.le_refl _))))
  · simp only [Bool.and_eq_true, Bool.or_eq_true, Bool.not_eq_true', decide_eq_false_iff_not, decide_eq_true_eq, ez_inb] at h
    intro hk
    rcases h with z | z
    · exact absurd hk z
    · exact ⟨hs _ z.1, hs _ z.2, hg.1⟩
  · simp only [Bool.and_eq_true, Bool.or_eq_true, Bool.not_eq_true', decide_eq_false_iff_not, decide_eq_true_eq, ez_inb] at h
    obtain ⟨⟨h1, h2⟩, h3⟩ := h
    refine ⟨fun hk => ?_, fun hk => ?_, fun hk => ?_⟩
    · rcases h1 with z | z
      · exact absurd hk z
      · exact ⟨hs _ z.1, hs _ z.2, hg.2.1, hg.2.2.2.1⟩
    · rcases h2 with z | z
      · exact absurd hk z
      · exact ⟨hs _ z.1, hs _ z.2, hg.2.1, hg.2.2.2.2⟩
    · rcases h3 with z | z
      · exact absurd hk z
      · exact ⟨hs _ z.1.1, hs _ z.1.2, hs _ z.2, hg.2.2.1⟩
  · unfold ez_lk
    split <;> first | trivial | simp_all
end EZT
end
section
section EZU
variable (cl : List vw_C) (nf : Nat → Nat) (ty : Nat → Nat → FieldType) (exn : Nat → String) (sta : Nat → String × String × String) (nm : Nat → MethodName) (bytes : Nat → ByteArray) (ml : Nat → Nat) (ret : Nat → Option FieldType) (hh : Nat → List (Nat × Nat × Nat × Nat)) (tbl : List Cond) (strs : List (String × Nat × String))
variable (tb : List Cond) (ncl nM : Nat) (ct : Nat → u_T) (cn : Nat → String) (host : String) (thr : List (Nat × Nat × Nat))
def ez_ckb (own : String) (y : MethodName) (n : Nat) (noH : Bool) (rt : Option FieldType) (i : ClassFile.Instr) (b k : Nat) : Bool :=
  plainName y.cls && decide (y.cls ≠ "java/lang/invoke/MethodHandle") && decide (y.cls ≠ "java/lang/invoke/VarHandle") && ez_inb tb (.initialized y.cls) && decide (n ≤ 21) && (match i with
  | .invokevirtual idx => ez_inb tb (.methodLink own idx y) && ez_inb tb (.instanceMethod y) && ez_inb tb (.selects y.cls y y) && decide (0 < k) && decide (k ≤ ncl) && decide (cn k = y.cls) && decide ((parseMethodDescriptor y.desc).map (fun d => d.parameters.length + 1) = some b)
  | .invokespecial idx => (ez_inb tb (.methodLink own idx y) || ez_inb tb (.methodLinkNest own idx y host)) && decide (y.name = "<init>") && ez_inb tb (.instanceMethod y) && noH && decide (rt = none) && decide (0 < k) && decide ((parseMethodDescriptor y.desc).map (fun d => d.parameters.length + 1) = some b)
  | .invokestatic idx => (ez_inb tb (.methodLink own idx y) || ez_inb tb (.methodLinkNest own idx y host)) && ez_inb tb (.static y) && decide (k = 0) && decide ((parseMethodDescriptor y.desc).map (fun d => d.parameters.length) = some b)
  | _ => false)
theorem ez_ckb_ok (hs : ∀ w ∈ tb, w ∈ tbl) (hcls : ∀ a, 0 < a → a ≤ ncl → ez_Cls tbl cl nf ty a (cn a) (ct a)) {own : String} {y : MethodName} {wc : Cond} {n : Nat} {noH : Bool} {P : Prop} (hP : noH = true → P) {rt : Option FieldType} {i : ClassFile.Instr} {b k : Nat} (hwc : wc ∈ tbl) (h : ez_ckb tb ncl cn host own y n noH rt i b k = true) : ez_ck own y wc n P rt tbl cl i b k := by
  simp only [ez_ckb, Bool.and_eq_true, decide_eq_true_eq, ez_inb] at h
  obtain ⟨⟨⟨⟨⟨h1, h2⟩, h3⟩, h4⟩, h5⟩, h6⟩ := h
  refine ⟨h1, ⟨h2, h3⟩, hs _ h4, hwc, h5, ?_⟩
  split at h6
  · simp only [Bool.and_eq_true, decide_eq_true_eq] at h6
    obtain ⟨⟨⟨⟨⟨⟨z1, z2⟩, z3⟩, z4⟩, z5⟩, z6⟩, z7⟩ := h6
    have hC := hcls k z4 z5
    refine ⟨hs _ z1, hs _ z2, hs _ z3, ⟨z4, hC.2.1⟩, ⟨ct k, nf k, ?_⟩, z7⟩
    rw [← z6]
    exact hC.2.2.1
  · simp only [Bool.and_eq_true, Bool.or_eq_true, decide_eq_true_eq] at h6
    obtain ⟨⟨⟨⟨⟨⟨z1, z2⟩, z3⟩, z4⟩, z5⟩, z6⟩, z7⟩ := h6
    exact ⟨z1.imp (hs _) (fun z => ⟨host, hs _ z⟩), z2, hs _ z3, hP z4, z5, z6, z7⟩
  · simp only [Bool.and_eq_true, Bool.or_eq_true, decide_eq_true_eq] at h6
    obtain ⟨⟨⟨z1, z2⟩, z3⟩, z4⟩ := h6
    exact ⟨z1.imp (hs _) (fun z => ⟨host, hs _ z⟩), hs _ z2, z3, z4⟩
  · cases h6
def ez_decb (bs : ByteArray) (pc : Nat) (i : ClassFile.Instr) : Bool := match decode bs pc with
  | .ok (i', len) => decide (i' = i) && (ez_isSw i || decide (len = ez_ln i))
  | .error _ => false
theorem ez_decb_ok {bs : ByteArray} {pc : Nat} {i : ClassFile.Instr} (h : ez_decb bs pc i = true) : ∃ len, decode bs pc = .ok (i, len) ∧ (ez_isSw i = false → len = ez_ln i) := by
  unfold ez_decb at h
  split at h
  · rename_i i' len hq
    simp only [Bool.and_eq_true, Bool.or_eq_true, decide_eq_true_eq] at h
    obtain ⟨rfl, h2⟩ := h
    exact ⟨len, hq, fun z => h2.elim (fun q => by rw [z] at q; cases q) id⟩
  · cases h
def ez_retb (rt : Option FieldType) (i : ClassFile.Instr) (a : Nat) : Bool := match i with
  | .ireturn => decide (rt = if a = 0 then some .int else some .boolean)
  | .lreturn => decide (rt = some .long)
  | .return_ => decide (rt = none)
  | _ => true
theorem ez_retb_ok {rt : Option FieldType} {i : ClassFile.Instr} {a : Nat} (h : ez_retb rt i a = true) : (i = .ireturn → rt = if a = 0 then some .int else some .boolean) ∧ (i = .lreturn → rt = some .long) ∧ (i = .return_ → rt = none) := by
  refine ⟨?_, ?_, ?_⟩ <;> intro z <;> subst z <;> exact of_decide_eq_true h
def ez_thb (thr : List (Nat × Nat × Nat)) (bs : ByteArray) (mi pc a : Nat) (i : ClassFile.Instr) : Bool := match ez_isThr i with
  | true => decide ((mi, pc, a) ∈ thr)
  | false => ez_decb bs pc i
def ez_ok1b (mi : Nat) (q : ez_C) : Bool := match q with
  | (pc, i, a, b, k, v) => ez_thb thr (bytes mi) mi pc a i && ez_cstb (nm mi).cls tb (ml mi) i v && ez_brb i pc a && ez_jkb i pc a && ez_lkb (nm mi).cls tb ncl ct cn nf ty sta host (decide ((nm mi).name = "<init>")) i a b k && ez_retb (ret mi) i a && (!(ez_cl i k) || (decide (a < nM) && ez_ckb tb ncl cn host (nm mi).cls (nm a) (ml a) (decide (hh a = [])) (ret a) i b k))
def ez_okLb (mi : Nat) : List ez_C → Bool
  | [] => true
  | q :: cs => ez_ok1b nf ty sta nm bytes ml ret hh tb ncl nM ct cn host thr mi q && (match cs with
    | [] => true
    | q' :: _ => ez_isSw q.2.1 || ez_isThr q.2.1 || decide (q'.1 = q.1 + ez_ln q.2.1)) && ez_okLb mi cs
theorem ez_ok1b_ok (hs : ∀ w ∈ tb, w ∈ tbl) (hg : ez_gen tbl) (hcls : ∀ a, 0 < a → a ≤ ncl → ez_Cls tbl cl nf ty a (cn a) (ct a)) (hwc : ∀ a, a < nM → ez_wc (nm a) (bytes a) (ml a) (ret a) (hh a) ∈ tbl) (hthr : ∀ q ∈ thr, ez_tk exn nm bytes hh tbl strs q.1 q.2.1 q.2.2) {mi : Nat} {q : ez_C} (h : ez_ok1b nf ty sta nm bytes ml ret hh tb ncl nM ct cn host thr mi q = true) : ez_ok1 cl nf ty exn sta nm bytes ml ret hh tbl strs mi q := by
  obtain ⟨pc, i, a, b, k, v⟩ := q
  unfold ez_ok1b at h
  simp only [Bool.and_eq_true] at h
  obtain ⟨⟨⟨⟨⟨⟨h1, h2⟩, h3⟩, h4⟩, h5⟩, h6⟩, h7⟩ := h
  have t1 : ez_isThr i = true → ez_tk exn nm bytes hh tbl strs mi pc a := fun z => by
    unfold ez_thb at h1
    rw [z] at h1
    exact hthr (mi, pc, a) (of_decide_eq_true h1)
  have t2 : ez_isThr i = false → ∃ len, decode (bytes mi) pc = .ok (i, len) ∧ (ez_isSw i = false → len = ez_ln i) := fun z => by
    unfold ez_thb at h1
    rw [z] at h1
    exact ez_decb_ok h1
  have t3 : ez_cl i k = true → ez_ck (nm mi).cls (nm a) (ez_wc (nm a) (bytes a) (ml a) (ret a) (hh a)) (ml a) (hh a = []) (ret a) tbl cl i b k := fun z => by
    rw [z] at h7
    simp only [Bool.not_true, Bool.false_or, Bool.and_eq_true, decide_eq_true_eq] at h7
    exact ez_ckb_ok cl nf ty tbl tb ncl ct cn host hs hcls (fun z => of_decide_eq_true z) (hwc a h7.1) h7.2
  exact ⟨t1, t2, ez_cstb_ok _ _ hs h2, ez_brb_ok h3, ez_jkb_ok h4, ez_lkb_ok _ _ _ _ _ _ _ _ _ hs hg hcls (fun z => of_decide_eq_true z) h5, ez_retb_ok h6, t3⟩
theorem ez_okLb_ok (hs : ∀ w ∈ tb, w ∈ tbl) (hg : ez_gen tbl) (hcls : ∀ a, 0 < a → a ≤ ncl → ez_Cls tbl cl nf ty a (cn a) (ct a)) (hwc : ∀ a, a < nM → ez_wc (nm a) (bytes a) (ml a) (ret a) (hh a) ∈ tbl) (hthr : ∀ q ∈ thr, ez_tk exn nm bytes hh tbl strs q.1 q.2.1 q.2.2) {mi : Nat} : ∀ cs : List ez_C, ez_okLb nf ty sta nm bytes ml ret hh tb ncl nM ct cn host thr mi cs = true → ez_okL cl nf ty exn sta nm bytes ml ret hh tbl strs mi cs
  | [], _ => trivial
  | q :: cs, h => by
    simp only [ez_okLb, Bool.and_eq_true] at h
    obtain ⟨⟨h1, h2⟩, h3⟩ := h
    refine ⟨ez_ok1b_ok _ _ _ _ _ _ _ _ _ _ _ _ _ _ _ _ _ _ _ hs hg hcls hwc hthr h1, ?_, ez_okLb_ok hs hg hcls hwc hthr cs h3⟩
    rintro q' cs' rfl s1 s2
    simp only [s1, s2, Bool.false_or, decide_eq_true_eq] at h2
    exact h2
end EZU
end
section
/-! PRINTED by wip/tools/gen.py out of the task: the program as the pure machine has it -/
def tz_nmL : List (MethodName) := [⟨"PackDesk", "<init>", "()V"⟩,
  ⟨"PackDesk", "feed", "(IIIII)V"⟩,
  ⟨"PackDesk", "end", "(II)I"⟩,
  ⟨"PackDesk", "cut", "(I)Z"⟩,
  ⟨"PackDesk", "flip", "(II)Z"⟩,
  ⟨"PackDesk", "take", "()I"⟩,
  ⟨"PackDesk", "crc", "()I"⟩,
  ⟨"PackDesk", "pack", "()I"⟩,
  ⟨"PackDesk", "parts", "()I"⟩,
  ⟨"PackDesk", "part", "(II)I"⟩,
  ⟨"PackDesk", "blocks", "()I"⟩,
  ⟨"PackDesk", "block", "(II)I"⟩,
  ⟨"PackDesk", "code", "(III)I"⟩,
  ⟨"PackDesk", "unpack", "()I"⟩,
  ⟨"PackDesk", "fault", "(I)I"⟩,
  ⟨"PackDesk", "output", "(I)I"⟩,
  ⟨"PackDesk", "weigh", "(II)V"⟩,
  ⟨"PackDesk", "measure", "(I)I"⟩,
  ⟨"PackDesk", "length", "(I)I"⟩,
  ⟨"PackDesk", "about", "(I)I"⟩,
  ⟨"PackDesk", "putReady", "(II)V"⟩,
  ⟨"PackDesk", "weighedSymbols", "()I"⟩,
  ⟨"PackDesk", "weightedSum", "([I[II)I"⟩,
  ⟨"PackDesk", "kindOf", "([II)I"⟩,
  ⟨"PackDeskModel", "<init>", "()V"⟩,
  ⟨"PackDeskModel", "thrown", "()I"⟩,
  ⟨"PackDeskModel", "feed", "(IIIII)V"⟩,
  ⟨"PackDeskModel", "end", "(II)I"⟩,
  ⟨"PackDeskModel", "cut", "(I)Z"⟩,
  ⟨"PackDeskModel", "flip", "(II)Z"⟩,
  ⟨"PackDeskModel", "take", "()I"⟩,
  ⟨"PackDeskModel", "crc", "()I"⟩,
  ⟨"PackDeskModel", "longest", "(I)V"⟩,
  ⟨"PackDeskModel", "findParts", "()V"⟩,
  ⟨"PackDeskModel", "lengthCode", "(I)I"⟩,
  ⟨"PackDeskModel", "backCode", "(I)I"⟩,
  ⟨"PackDeskModel", "putPackage", "(IIIIII)V"⟩,
  ⟨"PackDeskModel", "lengths", "([III[I)V"⟩,
  ⟨"PackDeskModel", "codes", "([II[I)V"⟩,
  ⟨"PackDeskModel", "writeBits", "(II)V"⟩,
  ⟨"PackDeskModel", "costOf", "([I[I)J"⟩,
  ⟨"PackDeskModel", "writeParts", "(III[I[I[I[I)V"⟩,
  ⟨"PackDeskModel", "tellRow", "(II)V"⟩,
  ⟨"PackDeskModel", "tellLengths", "()V"⟩,
  ⟨"PackDeskModel", "restOf", "(I)I"⟩,
  ⟨"PackDeskModel", "writeBlock", "(IIIIZ)V"⟩,
  ⟨"PackDeskModel", "pack", "()I"⟩,
  ⟨"PackDeskModel", "parts", "()I"⟩,
  ⟨"PackDeskModel", "part", "(II)I"⟩,
  ⟨"PackDeskModel", "blocks", "()I"⟩,
  ⟨"PackDeskModel", "block", "(II)I"⟩,
  ⟨"PackDeskModel", "code", "(III)I"⟩,
  ⟨"PackDeskModel", "takeBits", "(I)I"⟩,
  ⟨"PackDeskModel", "wrong", "(I)V"⟩,
  ⟨"PackDeskModel", "give", "(I)V"⟩,
  ⟨"PackDeskModel", "takeSymbol", "([II)I"⟩,
  ⟨"PackDeskModel", "symbolOf", "([IIII)I"⟩,
  ⟨"PackDeskModel", "isWhole", "([II)Z"⟩,
  ⟨"PackDeskModel", "unpackStored", "()V"⟩,
  ⟨"PackDeskModel", "readLengths", "()V"⟩,
  ⟨"PackDeskModel", "unpackCodes", "()V"⟩,
  ⟨"PackDeskModel", "unpack", "()I"⟩,
  ⟨"PackDeskModel", "fault", "(I)I"⟩,
  ⟨"PackDeskModel", "output", "(I)I"⟩,
  ⟨"PackDeskModel", "weigh", "(II)V"⟩,
  ⟨"PackDeskModel", "measure", "(I)I"⟩,
  ⟨"PackDeskModel", "length", "(I)I"⟩,
  ⟨"PackDeskModel", "about", "(I)I"⟩,
  ⟨"PackDesk$BitWriter", "<init>", "(LPackDesk$Row;)V"⟩,
  ⟨"PackDesk$BitWriter", "begin", "()V"⟩,
  ⟨"PackDesk$BitWriter", "missingBehind", "(I)I"⟩,
  ⟨"PackDesk$BitWriter", "putBits", "(II)V"⟩,
  ⟨"PackDesk$BitWriter", "fillByte", "()V"⟩,
  ⟨"PackDesk$BitWriter", "putSymbol", "(LPackDesk$Code;I)V"⟩,
  ⟨"PackDesk$BlockBook", "<init>", "()V"⟩,
  ⟨"PackDesk$BlockBook", "begin", "(I)V"⟩,
  ⟨"PackDesk$BlockBook", "note", "(III)V"⟩,
  ⟨"PackDesk$BlockBook", "fact", "(II)I"⟩,
  ⟨"PackDesk$BlockBook", "keepCodes", "(ILPackDesk$CodeSet;)V"⟩,
  ⟨"PackDesk$BlockBook", "codeLength", "(III)I"⟩,
  ⟨"PackDesk$BlockBook", "has", "(I)Z"⟩,
  ⟨"PackDesk$Code", "<init>", "()V"⟩,
  ⟨"PackDesk$Code", "takeLengths", "([III)V"⟩,
  ⟨"PackDesk$Code", "settle", "()V"⟩,
  ⟨"PackDesk$Code", "isWhole", "()Z"⟩,
  ⟨"PackDesk$Code", "isOneBitAtMost", "()Z"⟩,
  ⟨"PackDesk$Code", "isCoded", "(I)Z"⟩,
  ⟨"PackDesk$Code", "settleSymbol", "(II)V"⟩,
  ⟨"PackDesk$Code", "turned", "(II)I"⟩,
  ⟨"PackDesk$CodeHead", "<init>", "()V"⟩,
  ⟨"PackDesk$CodeHead", "plan", "(LPackDesk$CodeSet;LPackDesk$LengthMaker;)I"⟩,
  ⟨"PackDesk$CodeHead", "write", "(LPackDesk$Code;LPackDesk$BitWriter;)V"⟩,
  ⟨"PackDesk$CodeHead", "toldCount", "([III)I"⟩,
  ⟨"PackDesk$CodeHead", "toldOrder", "([I)I"⟩,
  ⟨"PackDesk$CodeHead", "tellRow", "(I)V"⟩,
  ⟨"PackDesk$CodeHead", "tellAt", "(II)I"⟩,
  ⟨"PackDesk$CodeHead", "sameFrom", "(IIII)I"⟩,
  ⟨"PackDesk$CodeHead", "addSymbol", "(II)V"⟩,
  ⟨"PackDesk$CodeHead", "extraBits", "()I"⟩,
  ⟨"PackDesk$CodeHead", "extraBitsOf", "(I)I"⟩,
  ⟨"PackDesk$CodeSet", "<init>", "()V"⟩,
  ⟨"PackDesk$LengthMaker", "<init>", "()V"⟩,
  ⟨"PackDesk$LengthMaker", "make", "([III[I)V"⟩,
  ⟨"PackDesk$LengthMaker", "gather", "([II)I"⟩,
  ⟨"PackDesk$LengthMaker", "sortByGap", "(II)V"⟩,
  ⟨"PackDesk$LengthMaker", "mergeRounds", "(II)V"⟩,
  ⟨"PackDesk$LengthMaker", "mergeRound", "(III)I"⟩,
  ⟨"PackDesk$LengthMaker", "countDown", "(II[I)V"⟩,
  ⟨"PackDesk$LengthMaker", "lengthen", "([II)V"⟩,
  ⟨"PackDesk$Matcher", "<init>", "()V"⟩,
  ⟨"PackDesk$Matcher", "chain", "(LPackDesk$Row;)V"⟩,
  ⟨"PackDesk$Matcher", "search", "(LPackDesk$Row;II)I"⟩,
  ⟨"PackDesk$Matcher", "sameBytes", "([IIII)I"⟩,
  ⟨"PackDesk$Matcher", "spotOf", "([II)I"⟩,
  ⟨"PackDesk$Packer", "<init>", "(LPackDesk$CodeSet;LPackDesk$Row;LPackDesk$LengthMaker;)V"⟩,
  ⟨"PackDesk$Packer", "run", "(LPackDesk$Row;)V"⟩,
  ⟨"PackDesk$Packer", "split", "(LPackDesk$Row;)V"⟩,
  ⟨"PackDesk$Packer", "countBlock", "(II)V"⟩,
  ⟨"PackDesk$Packer", "countPart", "(II)V"⟩,
  ⟨"PackDesk$Packer", "weighWays", "(I)V"⟩,
  ⟨"PackDesk$Packer", "writeBlock", "(IIILPackDesk$Row;I)V"⟩,
  ⟨"PackDesk$Packer", "writeStored", "(LPackDesk$Row;I)V"⟩,
  ⟨"PackDesk$Packer", "writeParts", "(IILPackDesk$Code;LPackDesk$Code;)V"⟩,
  ⟨"PackDesk$PartList", "<init>", "()V"⟩,
  ⟨"PackDesk$PartList", "has", "(I)Z"⟩,
  ⟨"PackDesk$PartList", "add", "(II)V"⟩,
  ⟨"PackDesk$PartList", "amount", "(I)I"⟩,
  ⟨"PackDesk$PartList", "distance", "(I)I"⟩,
  ⟨"PackDesk$Row", "<init>", "()V"⟩,
  ⟨"PackDesk$Row", "has", "(I)Z"⟩,
  ⟨"PackDesk$Row", "add", "(I)V"⟩,
  ⟨"PackDesk$Row", "become", "(LPackDesk$Row;)V"⟩,
  ⟨"PackDesk$Unpacker", "<init>", "(LPackDesk$CodeSet;LPackDesk$Row;)V"⟩,
  ⟨"PackDesk$Unpacker", "begin", "()V"⟩,
  ⟨"PackDesk$Unpacker", "readBlock", "(LPackDesk$Row;)V"⟩,
  ⟨"PackDesk$Unpacker", "readStored", "(LPackDesk$Row;)V"⟩,
  ⟨"PackDesk$Unpacker", "readHead", "(LPackDesk$Row;)V"⟩,
  ⟨"PackDesk$Unpacker", "readAlphabet", "(LPackDesk$Row;I)V"⟩,
  ⟨"PackDesk$Unpacker", "readRow", "(LPackDesk$Row;I)V"⟩,
  ⟨"PackDesk$Unpacker", "readParts", "(LPackDesk$Row;LPackDesk$Code;LPackDesk$Code;)V"⟩,
  ⟨"PackDesk$Unpacker", "readMatch", "(LPackDesk$Row;ILPackDesk$Code;)V"⟩,
  ⟨"PackDesk$Unpacker", "putByte", "(I)V"⟩,
  ⟨"PackDesk$Unpacker", "takeSymbol", "(LPackDesk$Row;LPackDesk$Code;)I"⟩,
  ⟨"PackDesk$Unpacker", "takeBits", "(LPackDesk$Row;I)I"⟩,
  ⟨"PackDesk$Unpacker", "fail", "(I)V"⟩,
  ⟨"PackDeskLaw", "take", "(LPackDesk;[J)I"⟩,
  ⟨"PackDeskLaw", "unpack", "(LPackDesk;[J)I"⟩,
  ⟨"PackDeskLaw", "weigh", "(LPackDesk;II)I"⟩,
  ⟨"PackDeskLaw", "measure", "(LPackDesk;I[J)I"⟩,
  ⟨"java/util/Arrays", "fill", "([II)V"⟩,
  ⟨"PackDeskLaw", "law", "([I)Z"⟩]
def tz_nm (n : Nat) : MethodName := tz_nmL.getD n ⟨"", "", ""⟩
def tz_byL : List (ByteArray) := [prog_1_method_1_code,
  prog_1_method_2_code,
  prog_1_method_3_code,
  prog_1_method_4_code,
  prog_1_method_5_code,
  prog_1_method_6_code,
  prog_1_method_7_code,
  prog_1_method_8_code,
  prog_1_method_9_code,
  prog_1_method_10_code,
  prog_1_method_11_code,
  prog_1_method_12_code,
  prog_1_method_13_code,
  prog_1_method_14_code,
  prog_1_method_15_code,
  prog_1_method_16_code,
  prog_1_method_17_code,
  prog_1_method_18_code,
  prog_1_method_19_code,
  prog_1_method_20_code,
  prog_1_method_21_code,
  prog_1_method_22_code,
  prog_1_method_23_code,
  prog_1_method_24_code,
  prog_14_method_1_code,
  prog_14_method_2_code,
  prog_14_method_3_code,
  prog_14_method_4_code,
  prog_14_method_5_code,
  prog_14_method_6_code,
  prog_14_method_7_code,
  prog_14_method_8_code,
  prog_14_method_9_code,
  prog_14_method_10_code,
  prog_14_method_11_code,
  prog_14_method_12_code,
  prog_14_method_13_code,
  prog_14_method_14_code,
  prog_14_method_15_code,
  prog_14_method_16_code,
  prog_14_method_17_code,
  prog_14_method_18_code,
  prog_14_method_19_code,
  prog_14_method_20_code,
  prog_14_method_21_code,
  prog_14_method_22_code,
  prog_14_method_23_code,
  prog_14_method_24_code,
  prog_14_method_25_code,
  prog_14_method_26_code,
  prog_14_method_27_code,
  prog_14_method_28_code,
  prog_14_method_29_code,
  prog_14_method_30_code,
  prog_14_method_31_code,
  prog_14_method_32_code,
  prog_14_method_33_code,
  prog_14_method_34_code,
  prog_14_method_35_code,
  prog_14_method_36_code,
  prog_14_method_37_code,
  prog_14_method_38_code,
  prog_14_method_39_code,
  prog_14_method_40_code,
  prog_14_method_41_code,
  prog_14_method_42_code,
  prog_14_method_43_code,
  prog_14_method_44_code,
  prog_2_method_1_code,
  prog_2_method_2_code,
  prog_2_method_3_code,
  prog_2_method_4_code,
  prog_2_method_5_code,
  prog_2_method_6_code,
  prog_3_method_1_code,
  prog_3_method_2_code,
  prog_3_method_3_code,
  prog_3_method_4_code,
  prog_3_method_5_code,
  prog_3_method_6_code,
  prog_3_method_7_code,
  prog_4_method_1_code,
  prog_4_method_2_code,
  prog_4_method_3_code,
  prog_4_method_4_code,
  prog_4_method_5_code,
  prog_4_method_6_code,
  prog_4_method_7_code,
  prog_4_method_8_code,
  prog_5_method_1_code,
  prog_5_method_2_code,
  prog_5_method_3_code,
  prog_5_method_4_code,
  prog_5_method_5_code,
  prog_5_method_6_code,
  prog_5_method_7_code,
  prog_5_method_8_code,
  prog_5_method_9_code,
  prog_5_method_10_code,
  prog_5_method_11_code,
  prog_6_method_1_code,
  prog_7_method_1_code,
  prog_7_method_2_code,
  prog_7_method_3_code,
  prog_7_method_4_code,
  prog_7_method_5_code,
  prog_7_method_6_code,
  prog_7_method_7_code,
  prog_7_method_8_code,
  prog_8_method_1_code,
  prog_8_method_2_code,
  prog_8_method_3_code,
  prog_8_method_4_code,
  prog_8_method_5_code,
  prog_9_method_1_code,
  prog_9_method_2_code,
  prog_9_method_3_code,
  prog_9_method_4_code,
  prog_9_method_5_code,
  prog_9_method_6_code,
  prog_9_method_7_code,
  prog_9_method_8_code,
  prog_9_method_9_code,
  prog_10_method_1_code,
  prog_10_method_2_code,
  prog_10_method_3_code,
  prog_10_method_4_code,
  prog_10_method_5_code,
  prog_11_method_1_code,
  prog_11_method_2_code,
  prog_11_method_3_code,
  prog_11_method_4_code,
  prog_12_method_1_code,
  prog_12_method_2_code,
  prog_12_method_3_code,
  prog_12_method_4_code,
  prog_12_method_5_code,
  prog_12_method_6_code,
  prog_12_method_7_code,
  prog_12_method_8_code,
  prog_12_method_9_code,
  prog_12_method_10_code,
  prog_12_method_11_code,
  prog_12_method_12_code,
  prog_12_method_13_code,
  method_3_code,
  method_4_code,
  method_5_code,
  method_6_code,
  prog_24_method_103_code,
  code]
def tz_by (n : Nat) : ByteArray := tz_byL.getD n ⟨#[]⟩
def tz_mlL : List (Nat) := [4,
  6,
  5,
  2,
  3,
  1,
  3,
  1,
  1,
  4,
  1,
  3,
  4,
  2,
  2,
  2,
  3,
  2,
  2,
  2,
  4,
  3,
  5,
  4,
  1,
  1,
  8,
  5,
  2,
  3,
  2,
  4,
  5,
  4,
  3,
  3,
  8,
  13,
  7,
  4,
  6,
  12,
  3,
  5,
  1,
  17,
  6,
  1,
  3,
  1,
  3,
  4,
  4,
  2,
  2,
  7,
  6,
  4,
  5,
  10,
  6,
  4,
  2,
  2,
  3,
  5,
  2,
  2,
  2,
  1,
  2,
  3,
  1,
  3,
  1,
  2,
  4,
  3,
  4,
  4,
  2,
  1,
  5,
  4,
  3,
  1,
  2,
  4,
  4,
  1,
  3,
  4,
  4,
  2,
  4,
  5,
  6,
  3,
  3,
  2,
  2,
  1,
  10,
  5,
  6,
  5,
  9,
  8,
  4,
  1,
  4,
  10,
  5,
  3,
  4,
  6,
  7,
  4,
  5,
  8,
  7,
  4,
  10,
  1,
  2,
  3,
  2,
  2,
  1,
  2,
  2,
  2,
  3,
  1,
  3,
  5,
  5,
  4,
  10,
  6,
  8,
  2,
  9,
  6,
  2,
  3,
  3,
  4,
  4,
  4,
  7]
def tz_ml (n : Nat) : Nat := tz_mlL.getD n 0
def tz_reL : List (Option FieldType) := [none,
  none,
  (some .int),
  (some .boolean),
  (some .boolean),
  (some .int),
  (some .int),
  (some .int),
  (some .int),
  (some .int),
  (some .int),
  (some .int),
  (some .int),
  (some .int),
  (some .int),
  (some .int),
  none,
  (some .int),
  (some .int),
  (some .int),
  none,
  (some .int),
  (some .int),
  (some .int),
  none,
  (some .int),
  none,
  (some .int),
  (some .boolean),
  (some .boolean),
  (some .int),
  (some .int),
  none,
  none,
  (some .int),
  (some .int),
  none,
  none,
  none,
  none,
  (some .long),
  none,
  none,
  none,
  (some .int),
  none,
  (some .int),
  (some .int),
  (some .int),
  (some .int),
  (some .int),
  (some .int),
  (some .int),
  none,
  none,
  (some .int),
  (some .int),
  (some .boolean),
  none,
  none,
  none,
  (some .int),
  (some .int),
  (some .int),
  none,
  (some .int),
  (some .int),
  (some .int),
  none,
  none,
  (some .int),
  none,
  none,
  none,
  none,
  none,
  none,
  (some .int),
  none,
  (some .int),
  (some .boolean),
  none,
  none,
  none,
  (some .boolean),
  (some .boolean),
  (some .boolean),
  none,
  (some .int),
  none,
  (some .int),
  none,
  (some .int),
  (some .int),
  none,
  (some .int),
  (some .int),
  none,
  (some .int),
  (some .int),
  none,
  none,
  none,
  (some .int),
  none,
  none,
  (some .int),
  none,
  none,
  none,
  none,
  (some .int),
  (some .int),
  (some .int),
  none,
  none,
  none,
  none,
  none,
  none,
  none,
  none,
  none,
  none,
  (some .boolean),
  none,
  (some .int),
  (some .int),
  none,
  (some .boolean),
  none,
  none,
  none,
  none,
  none,
  none,
  none,
  none,
  none,
  none,
  none,
  none,
  (some .int),
  (some .int),
  none,
  (some .int),
  (some .int),
  (some .int),
  (some .int),
  none,
  (some .boolean)]
def tz_re (n : Nat) : Option FieldType := tz_reL.getD n none
def tz_hhL : List (Nat × List (Nat × Nat × Nat × Nat)) := [(145, [(0, 8, 11, 13)]), (146, [(0, 8, 11, 18)]), (147, [(0, 6, 9, 24), (0, 6, 12, 18)]), (148, [(0, 9, 12, 18), (0, 9, 15, 13)])]
def tz_hh (n : Nat) : List (Nat × Nat × Nat × Nat) := (tz_hhL.lookup n).getD []
def tz_ex (n : Nat) : String := match n with
  | 1 => "java/lang/IllegalStateException"
  | 2 => "java/lang/IllegalArgumentException"
  | _ => "java/lang/IndexOutOfBoundsException"
def tz_T1 : u_T := fun k => match k with
  | 0 => ("PackDesk", "tape", "LPackDesk$Row;", true)
  | 1 => ("PackDesk", "output", "LPackDesk$Row;", true)
  | 2 => ("PackDesk", "ready", "[I", true)
  | 3 => ("PackDesk", "weights", "[I", true)
  | 4 => ("PackDesk", "scaleLengths", "[I", true)
  | 5 => ("PackDesk", "maker", "LPackDesk$LengthMaker;", true)
  | 6 => ("PackDesk", "packer", "LPackDesk$Packer;", true)
  | _ => ("PackDesk", "unpacker", "LPackDesk$Unpacker;", true)
def tz_T2 : u_T := fun k => match k with
  | 0 => ("PackDeskModel", "thrown", "I", false)
  | 1 => ("PackDeskModel", "tape", "[B", true)
  | 2 => ("PackDeskModel", "output", "[B", true)
  | 3 => ("PackDeskModel", "ready", "[B", true)
  | 4 => ("PackDeskModel", "packed", "[B", true)
  | 5 => ("PackDeskModel", "got", "[B", true)
  | 6 => ("PackDeskModel", "taped", "I", false)
  | 7 => ("PackDeskModel", "outs", "I", false)
  | 8 => ("PackDeskModel", "partMany", "[I", true)
  | 9 => ("PackDeskModel", "partBack", "[I", true)
  | 10 => ("PackDeskModel", "partByte", "[I", true)
  | 11 => ("PackDeskModel", "partBlock", "[I", true)
  | 12 => ("PackDeskModel", "previous", "[I", true)
  | 13 => ("PackDeskModel", "lastPair", "[I", true)
  | 14 => ("PackDeskModel", "parts", "I", false)
  | 15 => ("PackDeskModel", "blocks", "I", false)
  | 16 => ("PackDeskModel", "bits", "I", false)
  | 17 => ("PackDeskModel", "found", "I", false)
  | 18 => ("PackDeskModel", "foundBack", "I", false)
  | 19 => ("PackDeskModel", "blockWay", "[I", true)
  | 20 => ("PackDeskModel", "blockParts", "[I", true)
  | 21 => ("PackDeskModel", "blockBytes", "[I", true)
  | 22 => ("PackDeskModel", "blockBits", "[I", true)
  | 23 => ("PackDeskModel", "blockFixed", "[I", true)
  | 24 => ("PackDeskModel", "blockDynamic", "[I", true)
  | 25 => ("PackDeskModel", "keptLit", "[I", true)
  | 26 => ("PackDeskModel", "keptBack", "[I", true)
  | 27 => ("PackDeskModel", "keptRow", "[I", true)
  | 28 => ("PackDeskModel", "lengthBase", "[I", true)
  | 29 => ("PackDeskModel", "lengthExtra", "[I", true)
  | 30 => ("PackDeskModel", "backBase", "[I", true)
  | 31 => ("PackDeskModel", "backExtra", "[I", true)
  | 32 => ("PackDeskModel", "orderOf", "[I", true)
  | 33 => ("PackDeskModel", "often", "[I", true)
  | 34 => ("PackDeskModel", "backOften", "[I", true)
  | 35 => ("PackDeskModel", "rowOften", "[I", true)
  | 36 => ("PackDeskModel", "litLength", "[I", true)
  | 37 => ("PackDeskModel", "backLength", "[I", true)
  | 38 => ("PackDeskModel", "rowLength", "[I", true)
  | 39 => ("PackDeskModel", "litCode", "[I", true)
  | 40 => ("PackDeskModel", "backCodes", "[I", true)
  | 41 => ("PackDeskModel", "rowCode", "[I", true)
  | 42 => ("PackDeskModel", "fixLength", "[I", true)
  | 43 => ("PackDeskModel", "fixCode", "[I", true)
  | 44 => ("PackDeskModel", "fixBack", "[I", true)
  | 45 => ("PackDeskModel", "fixBackCode", "[I", true)
  | 46 => ("PackDeskModel", "symbol", "[I", true)
  | 47 => ("PackDeskModel", "weight", "[I", true)
  | 48 => ("PackDeskModel", "weightNew", "[I", true)
  | 49 => ("PackDeskModel", "holds", "[I", true)
  | 50 => ("PackDeskModel", "holdsNew", "[I", true)
  | 51 => ("PackDeskModel", "lengthMany", "[I", true)
  | 52 => ("PackDeskModel", "nextCode", "[I", true)
  | 53 => ("PackDeskModel", "rowTold", "[I", true)
  | 54 => ("PackDeskModel", "rowRest", "[I", true)
  | 55 => ("PackDeskModel", "rowOf", "[I", true)
  | 56 => ("PackDeskModel", "rowMany", "I", false)
  | 57 => ("PackDeskModel", "litMany", "I", false)
  | 58 => ("PackDeskModel", "backMany", "I", false)
  | 59 => ("PackDeskModel", "bit", "I", false)
  | 60 => ("PackDeskModel", "gotMany", "I", false)
  | 61 => ("PackDeskModel", "unpackFault", "I", false)
  | 62 => ("PackDeskModel", "fault", "I", false)
  | 63 => ("PackDeskModel", "faultPlace", "I", false)
  | 64 => ("PackDeskModel", "takenLit", "[I", true)
  | 65 => ("PackDeskModel", "takenBack", "[I", true)
  | 66 => ("PackDeskModel", "takenRow", "[I", true)
  | 67 => ("PackDeskModel", "taken", "[I", true)
  | 68 => ("PackDeskModel", "weights", "[I", true)
  | _ => ("PackDeskModel", "scale", "[I", true)
def tz_T3 : u_T := fun k => match k with
  | 0 => ("PackDesk$BitWriter", "row", "LPackDesk$Row;", true)
  | 1 => ("PackDesk$BitWriter", "held", "I", false)
  | _ => ("PackDesk$BitWriter", "heldBits", "I", false)
def tz_T4 : u_T := fun k => match k with
  | 0 => ("PackDesk$BlockBook", "facts", "[I", true)
  | 1 => ("PackDesk$BlockBook", "codeLengths", "[I", true)
  | _ => ("PackDesk$BlockBook", "count", "I", false)
def tz_T5 : u_T := fun k => match k with
  | 0 => ("PackDesk$Code", "lengths", "[I", true)
  | 1 => ("PackDesk$Code", "words", "[I", true)
  | 2 => ("PackDesk$Code", "counts", "[I", true)
  | 3 => ("PackDesk$Code", "inTurn", "[I", true)
  | 4 => ("PackDesk$Code", "coded", "I", false)
  | 5 => ("PackDesk$Code", "nextWords", "[I", true)
  | _ => ("PackDesk$Code", "nextPlaces", "[I", true)
def tz_T6 : u_T := fun k => match k with
  | 0 => ("PackDesk$CodeHead", "row", "[I", true)
  | 1 => ("PackDesk$CodeHead", "literals", "I", false)
  | 2 => ("PackDesk$CodeHead", "distances", "I", false)
  | 3 => ("PackDesk$CodeHead", "symbols", "[I", true)
  | 4 => ("PackDesk$CodeHead", "extras", "[I", true)
  | 5 => ("PackDesk$CodeHead", "symbolCount", "I", false)
  | 6 => ("PackDesk$CodeHead", "comings", "[I", true)
  | _ => ("PackDesk$CodeHead", "orderTold", "I", false)
def tz_T7 : u_T := fun k => match k with
  | 0 => ("PackDesk$CodeSet", "fixedLiterals", "LPackDesk$Code;", true)
  | 1 => ("PackDesk$CodeSet", "fixedDistances", "LPackDesk$Code;", true)
  | 2 => ("PackDesk$CodeSet", "literals", "LPackDesk$Code;", true)
  | 3 => ("PackDesk$CodeSet", "distances", "LPackDesk$Code;", true)
  | _ => ("PackDesk$CodeSet", "alphabet", "LPackDesk$Code;", true)
def tz_T8 : u_T := fun k => match k with
  | 0 => ("PackDesk$LengthMaker", "keys", "[I", true)
  | 1 => ("PackDesk$LengthMaker", "sums", "[J", true)
  | 2 => ("PackDesk$LengthMaker", "pairs", "[J", true)
  | _ => ("PackDesk$LengthMaker", "alone", "[I", true)
def tz_T9 : u_T := fun k => match k with
  | 0 => ("PackDesk$Matcher", "latest", "[I", true)
  | 1 => ("PackDesk$Matcher", "earlier", "[I", true)
  | _ => ("PackDesk$Matcher", "distance", "I", false)
def tz_T10 : u_T := fun k => match k with
  | 0 => ("PackDesk$Packer", "made", "LPackDesk$Row;", true)
  | 1 => ("PackDesk$Packer", "partList", "LPackDesk$PartList;", true)
  | 2 => ("PackDesk$Packer", "book", "LPackDesk$BlockBook;", true)
  | 3 => ("PackDesk$Packer", "codes", "LPackDesk$CodeSet;", true)
  | 4 => ("PackDesk$Packer", "maker", "LPackDesk$LengthMaker;", true)
  | 5 => ("PackDesk$Packer", "writer", "LPackDesk$BitWriter;", true)
  | 6 => ("PackDesk$Packer", "matcher", "LPackDesk$Matcher;", true)
  | 7 => ("PackDesk$Packer", "head", "LPackDesk$CodeHead;", true)
  | 8 => ("PackDesk$Packer", "literalComings", "[I", true)
  | 9 => ("PackDesk$Packer", "distanceComings", "[I", true)
  | 10 => ("PackDesk$Packer", "extraBits", "I", false)
  | _ => ("PackDesk$Packer", "bytesTold", "I", false)
def tz_T11 : u_T := fun k => match k with
  | 0 => ("PackDesk$PartList", "entries", "[I", true)
  | _ => ("PackDesk$PartList", "count", "I", false)
def tz_T12 : u_T := fun k => match k with
  | 0 => ("PackDesk$Row", "bytes", "[I", true)
  | _ => ("PackDesk$Row", "size", "I", false)
def tz_T13 : u_T := fun k => match k with
  | 0 => ("PackDesk$Unpacker", "made", "LPackDesk$Row;", true)
  | 1 => ("PackDesk$Unpacker", "isDone", "Z", false)
  | 2 => ("PackDesk$Unpacker", "faultMet", "I", false)
  | 3 => ("PackDesk$Unpacker", "faultPlace", "I", false)
  | 4 => ("PackDesk$Unpacker", "codes", "LPackDesk$CodeSet;", true)
  | 5 => ("PackDesk$Unpacker", "row", "[I", true)
  | _ => ("PackDesk$Unpacker", "position", "I", false)
def tz_cnL : List String := ["", "PackDesk", "PackDeskModel", "PackDesk$BitWriter", "PackDesk$BlockBook", "PackDesk$Code", "PackDesk$CodeHead", "PackDesk$CodeSet", "PackDesk$LengthMaker", "PackDesk$Matcher", "PackDesk$Packer", "PackDesk$PartList", "PackDesk$Row", "PackDesk$Unpacker"]
def tz_cn (n : Nat) : String := tz_cnL.getD n ""
def tz_nfL : List Nat := [0, 8, 70, 3, 3, 7, 8, 5, 4, 3, 12, 2, 2, 7]
def tz_nf (n : Nat) : Nat := tz_nfL.getD n 0
def tz_ct (n : Nat) : u_T := match n with
  | 1 => tz_T1
  | 2 => tz_T2
  | 3 => tz_T3
  | 4 => tz_T4
  | 5 => tz_T5
  | 6 => tz_T6
  | 7 => tz_T7
  | 8 => tz_T8
  | 9 => tz_T9
  | 10 => tz_T10
  | 11 => tz_T11
  | 12 => tz_T12
  | _ => tz_T13
def tz_cl : List vw_C := [(tz_cn 1, tz_ct 1, tz_nf 1), (tz_cn 2, tz_ct 2, tz_nf 2), (tz_cn 3, tz_ct 3, tz_nf 3), (tz_cn 4, tz_ct 4, tz_nf 4), (tz_cn 5, tz_ct 5, tz_nf 5), (tz_cn 6, tz_ct 6, tz_nf 6), (tz_cn 7, tz_ct 7, tz_nf 7), (tz_cn 8, tz_ct 8, tz_nf 8), (tz_cn 9, tz_ct 9, tz_nf 9), (tz_cn 10, tz_ct 10, tz_nf 10), (tz_cn 11, tz_ct 11, tz_nf 11), (tz_cn 12, tz_ct 12, tz_nf 12), (tz_cn 13, tz_ct 13, tz_nf 13)]
def tz_tyL : List (List FieldType) := [[], [.object "PackDesk$Row", .object "PackDesk$Row", .array .int, .array .int, .array .int, .object "PackDesk$LengthMaker", .object "PackDesk$Packer", .object "PackDesk$Unpacker"],
  [.int, .array .byte, .array .byte, .array .byte, .array .byte, .array .byte, .int, .int, .array .int, .array .int, .array .int, .array .int, .array .int, .array .int, .int, .int, .int, .int, .int, .array .int, .array .int, .array .int, .array .int, .array .int, .array .int, .array .int, .array .int, .array .int, .array .int, .array .int, .array .int, .array .int, .array .int, .array .int, .array .int, .array .int, .array .int, .array .int, .array .int, .array .int, .array .int, .array .int, .array .int, .array .int, .array .int, .array .int, .array .int, .array .int, .array .int, .array .int, .array .int, .array .int, .array .int, .array .int, .array .int, .array .int, .int, .int, .int, .int, .int, .int, .int, .int, .array .int, .array .int, .array .int, .array .int, .array .int, .array .int],
  [.object "PackDesk$Row", .int, .int],
  [.array .int, .array .int, .int],
  [.array .int, .array .int, .array .int, .array .int, .int, .array .int, .array .int],
  [.array .int, .int, .int, .array .int, .array .int, .int, .array .int, .int],
  [.object "PackDesk$Code", .object "PackDesk$Code", .object "PackDesk$Code", .object "PackDesk$Code", .object "PackDesk$Code"],
  [.array .int, .array .long, .array .long, .array .int],
  [.array .int, .array .int, .int],
  [.object "PackDesk$Row", .object "PackDesk$PartList", .object "PackDesk$BlockBook", .object "PackDesk$CodeSet", .object "PackDesk$LengthMaker", .object "PackDesk$BitWriter", .object "PackDesk$Matcher", .object "PackDesk$CodeHead", .array .int, .array .int, .int, .int],
  [.array .int, .int],
  [.array .int, .int],
  [.object "PackDesk$Row", .boolean, .int, .int, .object "PackDesk$CodeSet", .array .int, .int]]
def tz_ty (n k : Nat) : FieldType := (tz_tyL.getD n []).getD k .int
def tz_staL : List (String × String × String) := [("", "", ""), ("PackDesk", "CRC_HALVES", "[I"), ("PackDesk", "LENGTH_BASE", "[I"), ("PackDesk", "DISTANCE_BASE", "[I"), ("PackDesk", "LENGTH_EXTRA", "[I"), ("PackDesk", "DISTANCE_EXTRA", "[I"), ("PackDesk$LengthMaker", "GAPS", "[I"), ("PackDesk", "REPEAT_BASE", "[I"), ("PackDesk", "ALPHABET_ORDER", "[I"), ("PackDesk", "REPEAT_EXTRA", "[I"), ("PackDesk$BlockBook", "CODE_FROM", "[I"), ("PackDesk$BlockBook", "CODE_SYMBOLS", "[I")]
def tz_sta (n : Nat) : String × String × String := tz_staL.getD n ("PackDesk", "CRC_HALVES", "[I")
def tz_str : List (String × Nat × String) := [("PackDesk", 84, "the output has more bytes than a tape can have"), ("PackDesk$Unpacker", 166, "the bytes can't be unpacked"), ("PackDesk", 154, "the symbol is not 0 .. 63"), ("PackDesk", 160, "the weight is not 0 .. 1000000"), ("PackDesk", 163, "the limit is not 1 .. 15"), ("PackDesk", 169, "more symbols have weights than codes of that length are")]
def tz_hnL : List ((Nat × Nat × Nat) × (Nat × Nat)) := [((145, 3, 1), (12, 2)), ((146, 3, 2), (12, 2)), ((147, 3, 2), (13, 3)), ((147, 3, 3), (10, 3)), ((148, 4, 1), (16, 3)), ((148, 4, 2), (13, 3))]
def tz_hn (mi pc x : Nat) : Option (Nat × Nat) := match tz_hh mi with
  | [] => none
  | _ :: _ => some ((tz_hnL.lookup (mi, pc, x)).getD (0, 0))
def tz_thr : List (Nat × Nat × Nat) := [(5, 13, 1), (16, 10, 3), (16, 30, 2), (17, 11, 2), (17, 31, 1), (144, 18, 2)]
/-- the words of PackDesk, and their places -/
def tz_tb0 : List Cond := [.methodLink "PackDesk" 3 ⟨"java/lang/Object", "<init>", "()V"⟩,
  .instanceMethod ⟨"java/lang/Object", "<init>", "()V"⟩,
  .classLink "PackDesk" 9 "PackDesk$Row",
  .instantiable "PackDesk$Row" 2,
  .initialized "PackDesk$Row",
  .methodLinkNest "PackDesk" 11 ⟨"PackDesk$Row", "<init>", "()V"⟩ "PackDesk",
  .instanceMethod ⟨"PackDesk$Row", "<init>", "()V"⟩,
  .fieldLink "PackDesk" 12 "PackDesk" "tape" "LPackDesk$Row;",
  .fieldLink "PackDesk" 16 "PackDesk" "output" "LPackDesk$Row;",
  .arrayClass .int,
  .fieldLink "PackDesk" 19 "PackDesk" "ready" "[I",
  .fieldLink "PackDesk" 23 "PackDesk" "weights" "[I",
  .fieldLink "PackDesk" 26 "PackDesk" "scaleLengths" "[I",
  .classLink "PackDesk" 29 "PackDesk$LengthMaker",
  .instantiable "PackDesk$LengthMaker" 4,
  .initialized "PackDesk$LengthMaker",
  .methodLinkNest "PackDesk" 31 ⟨"PackDesk$LengthMaker", "<init>", "()V"⟩ "PackDesk",
  .instanceMethod ⟨"PackDesk$LengthMaker", "<init>", "()V"⟩,
  .classLink "PackDesk" 32 "PackDesk$CodeSet",
  .instantiable "PackDesk$CodeSet" 5,
  .initialized "PackDesk$CodeSet",
  .methodLink "PackDesk" 34 ⟨"PackDesk$CodeSet", "<init>", "()V"⟩,
  .instanceMethod ⟨"PackDesk$CodeSet", "<init>", "()V"⟩,
  .fieldLink "PackDesk" 35 "PackDesk" "maker" "LPackDesk$LengthMaker;",
  .classLink "PackDesk" 39 "PackDesk$Packer",
  .instantiable "PackDesk$Packer" 12,
  .initialized "PackDesk$Packer",
  .methodLink "PackDesk" 41 ⟨"PackDesk$Packer", "<init>", "(LPackDesk$CodeSet;LPackDesk$Row;LPackDesk$LengthMaker;)V"⟩,
  .instanceMethod ⟨"PackDesk$Packer", "<init>", "(LPackDesk$CodeSet;LPackDesk$Row;LPackDesk$LengthMaker;)V"⟩,
  .fieldLink "PackDesk" 44 "PackDesk" "packer" "LPackDesk$Packer;",
  .classLink "PackDesk" 48 "PackDesk$Unpacker",
  .instantiable "PackDesk$Unpacker" 7,
  .initialized "PackDesk$Unpacker",
  .methodLink "PackDesk" 50 ⟨"PackDesk$Unpacker", "<init>", "(LPackDesk$CodeSet;LPackDesk$Row;)V"⟩,
  .instanceMethod ⟨"PackDesk$Unpacker", "<init>", "(LPackDesk$CodeSet;LPackDesk$Row;)V"⟩,
  .fieldLink "PackDesk" 53 "PackDesk" "unpacker" "LPackDesk$Unpacker;",
  .methodLink "PackDesk" 57 ⟨"PackDesk", "putReady", "(II)V"⟩,
  .initialized "PackDesk",
  .instanceMethod ⟨"PackDesk", "putReady", "(II)V"⟩,
  .selects "PackDesk" ⟨"PackDesk", "putReady", "(II)V"⟩ ⟨"PackDesk", "putReady", "(II)V"⟩,
  .fieldLink "PackDesk" 61 "PackDesk$Row" "size" "I",
  .methodLink "PackDesk" 65 ⟨"PackDesk$Row", "add", "(I)V"⟩,
  .instanceMethod ⟨"PackDesk$Row", "add", "(I)V"⟩,
  .selects "PackDesk$Row" ⟨"PackDesk$Row", "add", "(I)V"⟩ ⟨"PackDesk$Row", "add", "(I)V"⟩,
  .methodLink "PackDesk" 69 ⟨"java/util/Arrays", "fill", "([II)V"⟩,
  .initialized "java/util/Arrays",
  .static ⟨"java/util/Arrays", "fill", "([II)V"⟩,
  .methodLink "PackDesk" 75 ⟨"PackDesk$Row", "has", "(I)Z"⟩,
  .instanceMethod ⟨"PackDesk$Row", "has", "(I)Z"⟩,
  .selects "PackDesk$Row" ⟨"PackDesk$Row", "has", "(I)Z"⟩ ⟨"PackDesk$Row", "has", "(I)Z"⟩,
  .fieldLink "PackDesk" 79 "PackDesk$Row" "bytes" "[I",
  .methodLink "PackDesk" 89 ⟨"PackDesk$Row", "become", "(LPackDesk$Row;)V"⟩,
  .instanceMethod ⟨"PackDesk$Row", "become", "(LPackDesk$Row;)V"⟩,
  .selects "PackDesk$Row" ⟨"PackDesk$Row", "become", "(LPackDesk$Row;)V"⟩ ⟨"PackDesk$Row", "become", "(LPackDesk$Row;)V"⟩,
  .fieldLink "PackDesk" 93 "PackDesk" "CRC_HALVES" "[I",
  .methodLink "PackDesk" 96 ⟨"PackDesk$Packer", "run", "(LPackDesk$Row;)V"⟩,
  .instanceMethod ⟨"PackDesk$Packer", "run", "(LPackDesk$Row;)V"⟩,
  .selects "PackDesk$Packer" ⟨"PackDesk$Packer", "run", "(LPackDesk$Row;)V"⟩ ⟨"PackDesk$Packer", "run", "(LPackDesk$Row;)V"⟩,
  .fieldLink "PackDesk" 99 "PackDesk$Packer" "made" "LPackDesk$Row;",
  .fieldLink "PackDesk" 102 "PackDesk$Packer" "partList" "LPackDesk$PartList;",
  .fieldLink "PackDesk" 106 "PackDesk$PartList" "count" "I",
  .methodLink "PackDesk" 111 ⟨"PackDesk$PartList", "has", "(I)Z"⟩,
  .initialized "PackDesk$PartList",
  .instanceMethod ⟨"PackDesk$PartList", "has", "(I)Z"⟩,
  .selects "PackDesk$PartList" ⟨"PackDesk$PartList", "has", "(I)Z"⟩ ⟨"PackDesk$PartList", "has", "(I)Z"⟩,
  .methodLink "PackDesk" 112 ⟨"PackDesk$PartList", "amount", "(I)I"⟩,
  .instanceMethod ⟨"PackDesk$PartList", "amount", "(I)I"⟩,
  .selects "PackDesk$PartList" ⟨"PackDesk$PartList", "amount", "(I)I"⟩ ⟨"PackDesk$PartList", "amount", "(I)I"⟩,
  .methodLink "PackDesk" 116 ⟨"PackDesk$PartList", "distance", "(I)I"⟩,
  .instanceMethod ⟨"PackDesk$PartList", "distance", "(I)I"⟩,
  .selects "PackDesk$PartList" ⟨"PackDesk$PartList", "distance", "(I)I"⟩ ⟨"PackDesk$PartList", "distance", "(I)I"⟩,
  .fieldLink "PackDesk" 121 "PackDesk$Packer" "book" "LPackDesk$BlockBook;",
  .fieldLink "PackDesk" 125 "PackDesk$BlockBook" "count" "I",
  .methodLink "PackDesk" 126 ⟨"PackDesk$BlockBook", "fact", "(II)I"⟩,
  .initialized "PackDesk$BlockBook",
  .instanceMethod ⟨"PackDesk$BlockBook", "fact", "(II)I"⟩,
  .selects "PackDesk$BlockBook" ⟨"PackDesk$BlockBook", "fact", "(II)I"⟩ ⟨"PackDesk$BlockBook", "fact", "(II)I"⟩,
  .methodLink "PackDesk" 130 ⟨"PackDesk$BlockBook", "codeLength", "(III)I"⟩,
  .instanceMethod ⟨"PackDesk$BlockBook", "codeLength", "(III)I"⟩,
  .selects "PackDesk$BlockBook" ⟨"PackDesk$BlockBook", "codeLength", "(III)I"⟩ ⟨"PackDesk$BlockBook", "codeLength", "(III)I"⟩,
  .methodLink "PackDesk" 134 ⟨"PackDesk$Unpacker", "begin", "()V"⟩,
  .instanceMethod ⟨"PackDesk$Unpacker", "begin", "()V"⟩,
  .selects "PackDesk$Unpacker" ⟨"PackDesk$Unpacker", "begin", "()V"⟩ ⟨"PackDesk$Unpacker", "begin", "()V"⟩,
  .constant "PackDesk" 137 (48000 : Int32),
  .fieldLink "PackDesk" 138 "PackDesk$Unpacker" "isDone" "Z",
  .methodLink "PackDesk" 142 ⟨"PackDesk$Unpacker", "readBlock", "(LPackDesk$Row;)V"⟩,
  .instanceMethod ⟨"PackDesk$Unpacker", "readBlock", "(LPackDesk$Row;)V"⟩,
  .selects "PackDesk$Unpacker" ⟨"PackDesk$Unpacker", "readBlock", "(LPackDesk$Row;)V"⟩ ⟨"PackDesk$Unpacker", "readBlock", "(LPackDesk$Row;)V"⟩,
  .fieldLink "PackDesk" 145 "PackDesk$Unpacker" "made" "LPackDesk$Row;",
  .fieldLink "PackDesk" 146 "PackDesk$Unpacker" "faultMet" "I",
  .fieldLink "PackDesk" 149 "PackDesk$Unpacker" "faultPlace" "I",
  .constant "PackDesk" 157 (1000000 : Int32),
  .methodLink "PackDesk" 165 ⟨"PackDesk", "weighedSymbols", "()I"⟩,
  .instanceMethod ⟨"PackDesk", "weighedSymbols", "()I"⟩,
  .selects "PackDesk" ⟨"PackDesk", "weighedSymbols", "()I"⟩ ⟨"PackDesk", "weighedSymbols", "()I"⟩,
  .methodLink "PackDesk" 171 ⟨"PackDesk$LengthMaker", "make", "([III[I)V"⟩,
  .instanceMethod ⟨"PackDesk$LengthMaker", "make", "([III[I)V"⟩,
  .selects "PackDesk$LengthMaker" ⟨"PackDesk$LengthMaker", "make", "([III[I)V"⟩ ⟨"PackDesk$LengthMaker", "make", "([III[I)V"⟩,
  .methodLink "PackDesk" 175 ⟨"PackDesk", "weightedSum", "([I[II)I"⟩,
  .static ⟨"PackDesk", "weightedSum", "([I[II)I"⟩]
def tz_ps0 : List Nat := [82, 83, 85, 86, 56, 87, 88, 398, 399, 107, 400, 401, 402, 108, 109, 57, 110, 111, 128, 129, 58, 130, 131, 403, 223, 224, 61, 225, 226, 404, 366, 367, 67, 368, 369, 405, 427, 55, 429, 2, 100, 435, 436, 437, 439, 60, 173, 448, 449, 450, 94, 682, 683, 684, 456, 462, 463, 464, 327, 329, 238, 697, 62, 517, 518, 698, 513, 514, 699, 521, 522, 331, 254, 708, 63, 647, 648, 713, 714, 715, 822, 823, 824, 826, 375, 827, 828, 829, 373, 377, 379, 936, 948, 950, 33, 953, 552, 553, 954, 584]
/-- the words of PackDeskModel, and their places -/
def tz_tb1 : List Cond := [.methodLink "PackDeskModel" 1 ⟨"java/lang/Object", "<init>", "()V"⟩,
  .instanceMethod ⟨"java/lang/Object", "<init>", "()V"⟩,
  .arrayClass .byte,
  .fieldLink "PackDeskModel" 7 "PackDeskModel" "tape" "[B",
  .fieldLink "PackDeskModel" 13 "PackDeskModel" "output" "[B",
  .fieldLink "PackDeskModel" 16 "PackDeskModel" "ready" "[B",
  .fieldLink "PackDeskModel" 19 "PackDeskModel" "packed" "[B",
  .fieldLink "PackDeskModel" 22 "PackDeskModel" "got" "[B",
  .arrayClass .int,
  .fieldLink "PackDeskModel" 25 "PackDeskModel" "partMany" "[I",
  .fieldLink "PackDeskModel" 29 "PackDeskModel" "partBack" "[I",
  .fieldLink "PackDeskModel" 32 "PackDeskModel" "partByte" "[I",
  .fieldLink "PackDeskModel" 35 "PackDeskModel" "partBlock" "[I",
  .fieldLink "PackDeskModel" 38 "PackDeskModel" "previous" "[I",
  .constant "PackDeskModel" 41 (65536 : Int32),
  .fieldLink "PackDeskModel" 42 "PackDeskModel" "lastPair" "[I",
  .fieldLink "PackDeskModel" 45 "PackDeskModel" "blockWay" "[I",
  .fieldLink "PackDeskModel" 48 "PackDeskModel" "blockParts" "[I",
  .fieldLink "PackDeskModel" 51 "PackDeskModel" "blockBytes" "[I",
  .fieldLink "PackDeskModel" 54 "PackDeskModel" "blockBits" "[I",
  .fieldLink "PackDeskModel" 57 "PackDeskModel" "blockFixed" "[I",
  .fieldLink "PackDeskModel" 60 "PackDeskModel" "blockDynamic" "[I",
  .fieldLink "PackDeskModel" 63 "PackDeskModel" "keptLit" "[I",
  .fieldLink "PackDeskModel" 66 "PackDeskModel" "keptBack" "[I",
  .fieldLink "PackDeskModel" 69 "PackDeskModel" "keptRow" "[I",
  .fieldLink "PackDeskModel" 72 "PackDeskModel" "lengthBase" "[I",
  .fieldLink "PackDeskModel" 75 "PackDeskModel" "lengthExtra" "[I",
  .fieldLink "PackDeskModel" 78 "PackDeskModel" "backBase" "[I",
  .fieldLink "PackDeskModel" 81 "PackDeskModel" "backExtra" "[I",
  .fieldLink "PackDeskModel" 84 "PackDeskModel" "orderOf" "[I",
  .fieldLink "PackDeskModel" 87 "PackDeskModel" "often" "[I",
  .fieldLink "PackDeskModel" 90 "PackDeskModel" "backOften" "[I",
  .fieldLink "PackDeskModel" 93 "PackDeskModel" "rowOften" "[I",
  .fieldLink "PackDeskModel" 96 "PackDeskModel" "litLength" "[I",
  .fieldLink "PackDeskModel" 99 "PackDeskModel" "backLength" "[I",
  .fieldLink "PackDeskModel" 102 "PackDeskModel" "rowLength" "[I",
  .fieldLink "PackDeskModel" 105 "PackDeskModel" "litCode" "[I",
  .fieldLink "PackDeskModel" 108 "PackDeskModel" "backCodes" "[I",
  .fieldLink "PackDeskModel" 111 "PackDeskModel" "rowCode" "[I",
  .fieldLink "PackDeskModel" 114 "PackDeskModel" "fixLength" "[I",
  .fieldLink "PackDeskModel" 117 "PackDeskModel" "fixCode" "[I",
  .fieldLink "PackDeskModel" 120 "PackDeskModel" "fixBack" "[I",
  .fieldLink "PackDeskModel" 123 "PackDeskModel" "fixBackCode" "[I",
  .fieldLink "PackDeskModel" 126 "PackDeskModel" "symbol" "[I",
  .fieldLink "PackDeskModel" 129 "PackDeskModel" "weight" "[I",
  .fieldLink "PackDeskModel" 132 "PackDeskModel" "weightNew" "[I",
  .constant "PackDeskModel" 135 (172800 : Int32),
  .fieldLink "PackDeskModel" 136 "PackDeskModel" "holds" "[I",
  .fieldLink "PackDeskModel" 139 "PackDeskModel" "holdsNew" "[I",
  .fieldLink "PackDeskModel" 142 "PackDeskModel" "lengthMany" "[I",
  .fieldLink "PackDeskModel" 145 "PackDeskModel" "nextCode" "[I",
  .fieldLink "PackDeskModel" 148 "PackDeskModel" "rowTold" "[I",
  .fieldLink "PackDeskModel" 151 "PackDeskModel" "rowRest" "[I",
  .fieldLink "PackDeskModel" 154 "PackDeskModel" "rowOf" "[I",
  .fieldLink "PackDeskModel" 157 "PackDeskModel" "faultPlace" "I",
  .fieldLink "PackDeskModel" 161 "PackDeskModel" "takenLit" "[I",
  .fieldLink "PackDeskModel" 164 "PackDeskModel" "takenBack" "[I",
  .fieldLink "PackDeskModel" 167 "PackDeskModel" "takenRow" "[I",
  .fieldLink "PackDeskModel" 170 "PackDeskModel" "taken" "[I",
  .fieldLink "PackDeskModel" 173 "PackDeskModel" "weights" "[I",
  .fieldLink "PackDeskModel" 176 "PackDeskModel" "scale" "[I",
  .fieldLink "PackDeskModel" 179 "PackDeskModel" "thrown" "I",
  .fieldLink "PackDeskModel" 182 "PackDeskModel" "taped" "I",
  .fieldLink "PackDeskModel" 185 "PackDeskModel" "outs" "I",
  .constant "PackDeskModel" 188 (-306674912 : Int32),
  .fieldLink "PackDeskModel" 189 "PackDeskModel" "found" "I",
  .fieldLink "PackDeskModel" 192 "PackDeskModel" "foundBack" "I",
  .fieldLink "PackDeskModel" 195 "PackDeskModel" "parts" "I",
  .methodLink "PackDeskModel" 198 ⟨"PackDeskModel", "longest", "(I)V"⟩,
  .initialized "PackDeskModel",
  .instanceMethod ⟨"PackDeskModel", "longest", "(I)V"⟩,
  .selects "PackDeskModel" ⟨"PackDeskModel", "longest", "(I)V"⟩ ⟨"PackDeskModel", "longest", "(I)V"⟩,
  .methodLink "PackDeskModel" 202 ⟨"PackDeskModel", "putPackage", "(IIIIII)V"⟩,
  .instanceMethod ⟨"PackDeskModel", "putPackage", "(IIIIII)V"⟩,
  .selects "PackDeskModel" ⟨"PackDeskModel", "putPackage", "(IIIIII)V"⟩ ⟨"PackDeskModel", "putPackage", "(IIIIII)V"⟩,
  .fieldLink "PackDeskModel" 206 "PackDeskModel" "bits" "I",
  .methodLink "PackDeskModel" 209 ⟨"PackDeskModel", "writeBits", "(II)V"⟩,
  .instanceMethod ⟨"PackDeskModel", "writeBits", "(II)V"⟩,
  .selects "PackDeskModel" ⟨"PackDeskModel", "writeBits", "(II)V"⟩ ⟨"PackDeskModel", "writeBits", "(II)V"⟩,
  .methodLink "PackDeskModel" 213 ⟨"PackDeskModel", "lengthCode", "(I)I"⟩,
  .instanceMethod ⟨"PackDeskModel", "lengthCode", "(I)I"⟩,
  .selects "PackDeskModel" ⟨"PackDeskModel", "lengthCode", "(I)I"⟩ ⟨"PackDeskModel", "lengthCode", "(I)I"⟩,
  .methodLink "PackDeskModel" 217 ⟨"PackDeskModel", "backCode", "(I)I"⟩,
  .instanceMethod ⟨"PackDeskModel", "backCode", "(I)I"⟩,
  .selects "PackDeskModel" ⟨"PackDeskModel", "backCode", "(I)I"⟩ ⟨"PackDeskModel", "backCode", "(I)I"⟩,
  .fieldLink "PackDeskModel" 220 "PackDeskModel" "rowMany" "I",
  .fieldLink "PackDeskModel" 223 "PackDeskModel" "litMany" "I",
  .fieldLink "PackDeskModel" 226 "PackDeskModel" "backMany" "I",
  .methodLink "PackDeskModel" 229 ⟨"PackDeskModel", "tellRow", "(II)V"⟩,
  .instanceMethod ⟨"PackDeskModel", "tellRow", "(II)V"⟩,
  .selects "PackDeskModel" ⟨"PackDeskModel", "tellRow", "(II)V"⟩ ⟨"PackDeskModel", "tellRow", "(II)V"⟩,
  .methodLink "PackDeskModel" 232 ⟨"PackDeskModel", "lengths", "([III[I)V"⟩,
  .instanceMethod ⟨"PackDeskModel", "lengths", "([III[I)V"⟩,
  .selects "PackDeskModel" ⟨"PackDeskModel", "lengths", "([III[I)V"⟩ ⟨"PackDeskModel", "lengths", "([III[I)V"⟩,
  .methodLink "PackDeskModel" 236 ⟨"PackDeskModel", "costOf", "([I[I)J"⟩,
  .instanceMethod ⟨"PackDeskModel", "costOf", "([I[I)J"⟩,
  .selects "PackDeskModel" ⟨"PackDeskModel", "costOf", "([I[I)J"⟩ ⟨"PackDeskModel", "costOf", "([I[I)J"⟩,
  .methodLink "PackDeskModel" 240 ⟨"PackDeskModel", "tellLengths", "()V"⟩,
  .instanceMethod ⟨"PackDeskModel", "tellLengths", "()V"⟩,
  .selects "PackDeskModel" ⟨"PackDeskModel", "tellLengths", "()V"⟩ ⟨"PackDeskModel", "tellLengths", "()V"⟩,
  .constantLong "PackDeskModel" 243 (17 : Int64),
  .constantLong "PackDeskModel" 245 (3 : Int64),
  .methodLink "PackDeskModel" 247 ⟨"PackDeskModel", "restOf", "(I)I"⟩,
  .static ⟨"PackDeskModel", "restOf", "(I)I"⟩,
  .constantLong "PackDeskModel" 250 (32 : Int64),
  .constantLong "PackDeskModel" 252 (8 : Int64),
  .fieldLink "PackDeskModel" 254 "PackDeskModel" "blocks" "I",
  .methodLink "PackDeskModel" 257 ⟨"PackDeskModel", "codes", "([II[I)V"⟩,
  .instanceMethod ⟨"PackDeskModel", "codes", "([II[I)V"⟩,
  .selects "PackDeskModel" ⟨"PackDeskModel", "codes", "([II[I)V"⟩ ⟨"PackDeskModel", "codes", "([II[I)V"⟩,
  .methodLink "PackDeskModel" 261 ⟨"PackDeskModel", "writeParts", "(III[I[I[I[I)V"⟩,
  .instanceMethod ⟨"PackDeskModel", "writeParts", "(III[I[I[I[I)V"⟩,
  .selects "PackDeskModel" ⟨"PackDeskModel", "writeParts", "(III[I[I[I[I)V"⟩ ⟨"PackDeskModel", "writeParts", "(III[I[I[I[I)V"⟩,
  .methodLink "PackDeskModel" 265 ⟨"PackDeskModel", "findParts", "()V"⟩,
  .instanceMethod ⟨"PackDeskModel", "findParts", "()V"⟩,
  .selects "PackDeskModel" ⟨"PackDeskModel", "findParts", "()V"⟩ ⟨"PackDeskModel", "findParts", "()V"⟩,
  .methodLink "PackDeskModel" 268 ⟨"PackDeskModel", "writeBlock", "(IIIIZ)V"⟩,
  .instanceMethod ⟨"PackDeskModel", "writeBlock", "(IIIIZ)V"⟩,
  .selects "PackDeskModel" ⟨"PackDeskModel", "writeBlock", "(IIIIZ)V"⟩ ⟨"PackDeskModel", "writeBlock", "(IIIIZ)V"⟩,
  .fieldLink "PackDeskModel" 272 "PackDeskModel" "unpackFault" "I",
  .fieldLink "PackDeskModel" 275 "PackDeskModel" "bit" "I",
  .fieldLink "PackDeskModel" 278 "PackDeskModel" "gotMany" "I",
  .methodLink "PackDeskModel" 281 ⟨"PackDeskModel", "wrong", "(I)V"⟩,
  .instanceMethod ⟨"PackDeskModel", "wrong", "(I)V"⟩,
  .selects "PackDeskModel" ⟨"PackDeskModel", "wrong", "(I)V"⟩ ⟨"PackDeskModel", "wrong", "(I)V"⟩,
  .methodLink "PackDeskModel" 284 ⟨"PackDeskModel", "takeBits", "(I)I"⟩,
  .instanceMethod ⟨"PackDeskModel", "takeBits", "(I)I"⟩,
  .selects "PackDeskModel" ⟨"PackDeskModel", "takeBits", "(I)I"⟩ ⟨"PackDeskModel", "takeBits", "(I)I"⟩,
  .methodLink "PackDeskModel" 287 ⟨"PackDeskModel", "symbolOf", "([IIII)I"⟩,
  .static ⟨"PackDeskModel", "symbolOf", "([IIII)I"⟩,
  .constant "PackDeskModel" 291 (32768 : Int32),
  .constant "PackDeskModel" 292 (65535 : Int32),
  .methodLink "PackDeskModel" 293 ⟨"PackDeskModel", "give", "(I)V"⟩,
  .instanceMethod ⟨"PackDeskModel", "give", "(I)V"⟩,
  .selects "PackDeskModel" ⟨"PackDeskModel", "give", "(I)V"⟩ ⟨"PackDeskModel", "give", "(I)V"⟩,
  .methodLink "PackDeskModel" 296 ⟨"PackDeskModel", "isWhole", "([II)Z"⟩,
  .static ⟨"PackDeskModel", "isWhole", "([II)Z"⟩,
  .methodLink "PackDeskModel" 300 ⟨"PackDeskModel", "takeSymbol", "([II)I"⟩,
  .instanceMethod ⟨"PackDeskModel", "takeSymbol", "([II)I"⟩,
  .selects "PackDeskModel" ⟨"PackDeskModel", "takeSymbol", "([II)I"⟩ ⟨"PackDeskModel", "takeSymbol", "([II)I"⟩,
  .methodLink "PackDeskModel" 304 ⟨"PackDeskModel", "unpackStored", "()V"⟩,
  .instanceMethod ⟨"PackDeskModel", "unpackStored", "()V"⟩,
  .selects "PackDeskModel" ⟨"PackDeskModel", "unpackStored", "()V"⟩ ⟨"PackDeskModel", "unpackStored", "()V"⟩,
  .methodLink "PackDeskModel" 307 ⟨"PackDeskModel", "readLengths", "()V"⟩,
  .instanceMethod ⟨"PackDeskModel", "readLengths", "()V"⟩,
  .selects "PackDeskModel" ⟨"PackDeskModel", "readLengths", "()V"⟩ ⟨"PackDeskModel", "readLengths", "()V"⟩,
  .methodLink "PackDeskModel" 310 ⟨"PackDeskModel", "unpackCodes", "()V"⟩,
  .instanceMethod ⟨"PackDeskModel", "unpackCodes", "()V"⟩,
  .selects "PackDeskModel" ⟨"PackDeskModel", "unpackCodes", "()V"⟩ ⟨"PackDeskModel", "unpackCodes", "()V"⟩,
  .fieldLink "PackDeskModel" 313 "PackDeskModel" "fault" "I",
  .constant "PackDeskModel" 316 (1000000 : Int32)]
def tz_ps1 : List Nat := [960, 83, 813, 964, 965, 966, 967, 968, 107, 971, 972, 973, 974, 975, 961, 976, 982, 983, 984, 985, 986, 987, 988, 989, 990, 991, 992, 993, 994, 995, 996, 997, 998, 999, 1000, 1001, 1002, 1003, 1004, 1005, 1006, 1007, 1008, 1009, 1010, 1011, 962, 1012, 1013, 1014, 1015, 1016, 1017, 1018, 1026, 1027, 1028, 1029, 1030, 1031, 1032, 963, 969, 970, 1202, 980, 981, 977, 1211, 68, 1213, 35, 1231, 1233, 40, 979, 1254, 1256, 44, 1219, 1221, 37, 1223, 1225, 38, 1019, 1020, 1021, 1243, 1245, 43, 1227, 1229, 39, 1235, 1237, 41, 1239, 1241, 42, 1247, 1248, 1249, 1250, 1252, 1253, 978, 1258, 1260, 45, 1262, 1264, 46, 1207, 1209, 34, 1215, 1217, 36, 1024, 1022, 1023, 1294, 1296, 48, 1290, 1292, 47, 1319, 1320, 1314, 1302, 1303, 1305, 50, 1311, 1312, 1315, 1317, 52, 1298, 1300, 49, 1307, 1309, 51, 1322, 1324, 53, 1025, 1338]
/-- the words of PackDesk$BitWriter, and their places -/
def tz_tb2 : List Cond := [.methodLink "PackDesk$BitWriter" 3 ⟨"java/lang/Object", "<init>", "()V"⟩,
  .instanceMethod ⟨"java/lang/Object", "<init>", "()V"⟩,
  .fieldLink "PackDesk$BitWriter" 9 "PackDesk$BitWriter" "row" "LPackDesk$Row;",
  .fieldLink "PackDesk$BitWriter" 15 "PackDesk$Row" "size" "I",
  .fieldLink "PackDesk$BitWriter" 21 "PackDesk$BitWriter" "held" "I",
  .fieldLink "PackDesk$BitWriter" 24 "PackDesk$BitWriter" "heldBits" "I",
  .methodLink "PackDesk$BitWriter" 27 ⟨"PackDesk$Row", "add", "(I)V"⟩,
  .initialized "PackDesk$Row",
  .instanceMethod ⟨"PackDesk$Row", "add", "(I)V"⟩,
  .selects "PackDesk$Row" ⟨"PackDesk$Row", "add", "(I)V"⟩ ⟨"PackDesk$Row", "add", "(I)V"⟩,
  .methodLink "PackDesk$BitWriter" 31 ⟨"PackDesk$BitWriter", "missingBehind", "(I)I"⟩,
  .initialized "PackDesk$BitWriter",
  .instanceMethod ⟨"PackDesk$BitWriter", "missingBehind", "(I)I"⟩,
  .selects "PackDesk$BitWriter" ⟨"PackDesk$BitWriter", "missingBehind", "(I)I"⟩ ⟨"PackDesk$BitWriter", "missingBehind", "(I)I"⟩,
  .methodLink "PackDesk$BitWriter" 35 ⟨"PackDesk$BitWriter", "putBits", "(II)V"⟩,
  .instanceMethod ⟨"PackDesk$BitWriter", "putBits", "(II)V"⟩,
  .selects "PackDesk$BitWriter" ⟨"PackDesk$BitWriter", "putBits", "(II)V"⟩ ⟨"PackDesk$BitWriter", "putBits", "(II)V"⟩,
  .fieldLink "PackDesk$BitWriter" 39 "PackDesk$Code" "words" "[I",
  .fieldLink "PackDesk$BitWriter" 45 "PackDesk$Code" "lengths" "[I"]
def tz_ps2 : List Nat := [315, 83, 316, 96, 317, 318, 641, 56, 436, 437, 658, 66, 634, 635, 659, 638, 639, 148, 145]
/-- the words of PackDesk$BlockBook, and their places -/
def tz_tb3 : List Cond := [.methodLink "PackDesk$BlockBook" 5 ⟨"java/lang/Object", "<init>", "()V"⟩,
  .instanceMethod ⟨"java/lang/Object", "<init>", "()V"⟩,
  .arrayClass .int,
  .fieldLink "PackDesk$BlockBook" 11 "PackDesk$BlockBook" "facts" "[I",
  .fieldLink "PackDesk$BlockBook" 15 "PackDesk$BlockBook" "codeLengths" "[I",
  .methodLink "PackDesk$BlockBook" 18 ⟨"java/lang/Math", "min", "(II)I"⟩,
  .initialized "java/lang/Math",
  .static ⟨"java/lang/Math", "min", "(II)I"⟩,
  .methodLink "PackDesk$BlockBook" 24 ⟨"java/lang/Math", "max", "(II)I"⟩,
  .static ⟨"java/lang/Math", "max", "(II)I"⟩,
  .fieldLink "PackDesk$BlockBook" 27 "PackDesk$BlockBook" "count" "I",
  .methodLink "PackDesk$BlockBook" 31 ⟨"PackDesk$BlockBook", "has", "(I)Z"⟩,
  .initialized "PackDesk$BlockBook",
  .instanceMethod ⟨"PackDesk$BlockBook", "has", "(I)Z"⟩,
  .selects "PackDesk$BlockBook" ⟨"PackDesk$BlockBook", "has", "(I)Z"⟩ ⟨"PackDesk$BlockBook", "has", "(I)Z"⟩,
  .fieldLink "PackDesk$BlockBook" 35 "PackDesk$CodeSet" "literals" "LPackDesk$Code;",
  .fieldLink "PackDesk$BlockBook" 41 "PackDesk$Code" "lengths" "[I",
  .methodLink "PackDesk$BlockBook" 46 ⟨"java/lang/System", "arraycopy", "(Ljava/lang/Object;ILjava/lang/Object;II)V"⟩,
  .initialized "java/lang/System",
  .static ⟨"java/lang/System", "arraycopy", "(Ljava/lang/Object;ILjava/lang/Object;II)V"⟩,
  .native ⟨"java/lang/System", "arraycopy", "(Ljava/lang/Object;ILjava/lang/Object;II)V"⟩,
  .fieldLink "PackDesk$BlockBook" 52 "PackDesk$CodeSet" "distances" "LPackDesk$Code;",
  .fieldLink "PackDesk$BlockBook" 55 "PackDesk$CodeSet" "alphabet" "LPackDesk$Code;",
  .methodLink "PackDesk$BlockBook" 58 ⟨"PackDesk$BlockBook", "fact", "(II)I"⟩,
  .instanceMethod ⟨"PackDesk$BlockBook", "fact", "(II)I"⟩,
  .selects "PackDesk$BlockBook" ⟨"PackDesk$BlockBook", "fact", "(II)I"⟩ ⟨"PackDesk$BlockBook", "fact", "(II)I"⟩,
  .fieldLink "PackDesk$BlockBook" 61 "PackDesk$BlockBook" "CODE_FROM" "[I",
  .fieldLink "PackDesk$BlockBook" 64 "PackDesk$BlockBook" "CODE_SYMBOLS" "[I"]
def tz_ps3 : List Nat := [249, 83, 107, 250, 251, 504, 73, 484, 505, 487, 252, 543, 63, 545, 6, 200, 143, 674, 74, 595, 596, 205, 209, 717, 647, 648, 718, 720]
/-- the words of PackDesk$Code, and their places -/
def tz_tb4 : List Cond := [.methodLink "PackDesk$Code" 3 ⟨"java/lang/Object", "<init>", "()V"⟩,
  .instanceMethod ⟨"java/lang/Object", "<init>", "()V"⟩,
  .arrayClass .int,
  .fieldLink "PackDesk$Code" 9 "PackDesk$Code" "lengths" "[I",
  .fieldLink "PackDesk$Code" 15 "PackDesk$Code" "words" "[I",
  .fieldLink "PackDesk$Code" 18 "PackDesk$Code" "counts" "[I",
  .fieldLink "PackDesk$Code" 21 "PackDesk$Code" "inTurn" "[I",
  .fieldLink "PackDesk$Code" 24 "PackDesk$Code" "nextWords" "[I",
  .fieldLink "PackDesk$Code" 27 "PackDesk$Code" "nextPlaces" "[I",
  .methodLink "PackDesk$Code" 30 ⟨"java/util/Arrays", "fill", "([II)V"⟩,
  .initialized "java/util/Arrays",
  .static ⟨"java/util/Arrays", "fill", "([II)V"⟩,
  .methodLink "PackDesk$Code" 36 ⟨"PackDesk$Code", "isCoded", "(I)Z"⟩,
  .initialized "PackDesk$Code",
  .instanceMethod ⟨"PackDesk$Code", "isCoded", "(I)Z"⟩,
  .selects "PackDesk$Code" ⟨"PackDesk$Code", "isCoded", "(I)Z"⟩ ⟨"PackDesk$Code", "isCoded", "(I)Z"⟩,
  .fieldLink "PackDesk$Code" 40 "PackDesk$Code" "coded" "I",
  .methodLink "PackDesk$Code" 44 ⟨"PackDesk$Code", "settleSymbol", "(II)V"⟩,
  .instanceMethod ⟨"PackDesk$Code", "settleSymbol", "(II)V"⟩,
  .selects "PackDesk$Code" ⟨"PackDesk$Code", "settleSymbol", "(II)V"⟩ ⟨"PackDesk$Code", "settleSymbol", "(II)V"⟩,
  .methodLink "PackDesk$Code" 48 ⟨"PackDesk$Code", "turned", "(II)I"⟩,
  .static ⟨"PackDesk$Code", "turned", "(II)I"⟩]
def tz_ps4 : List Nat := [139, 83, 107, 140, 147, 149, 151, 155, 156, 179, 60, 173, 180, 59, 182, 0, 153, 184, 186, 1, 188, 189]
/-- the words of PackDesk$CodeHead, and their places -/
def tz_tb5 : List Cond := [.methodLink "PackDesk$CodeHead" 3 ⟨"java/lang/Object", "<init>", "()V"⟩,
  .instanceMethod ⟨"java/lang/Object", "<init>", "()V"⟩,
  .arrayClass .int,
  .fieldLink "PackDesk$CodeHead" 9 "PackDesk$CodeHead" "row" "[I",
  .fieldLink "PackDesk$CodeHead" 15 "PackDesk$CodeHead" "symbols" "[I",
  .fieldLink "PackDesk$CodeHead" 18 "PackDesk$CodeHead" "extras" "[I",
  .fieldLink "PackDesk$CodeHead" 21 "PackDesk$CodeHead" "comings" "[I",
  .fieldLink "PackDesk$CodeHead" 24 "PackDesk$CodeSet" "literals" "LPackDesk$Code;",
  .fieldLink "PackDesk$CodeHead" 30 "PackDesk$Code" "lengths" "[I",
  .methodLink "PackDesk$CodeHead" 35 ⟨"PackDesk$CodeHead", "toldCount", "([III)I"⟩,
  .initialized "PackDesk$CodeHead",
  .static ⟨"PackDesk$CodeHead", "toldCount", "([III)I"⟩,
  .fieldLink "PackDesk$CodeHead" 39 "PackDesk$CodeHead" "literals" "I",
  .fieldLink "PackDesk$CodeHead" 42 "PackDesk$CodeSet" "distances" "LPackDesk$Code;",
  .fieldLink "PackDesk$CodeHead" 45 "PackDesk$CodeHead" "distances" "I",
  .methodLink "PackDesk$CodeHead" 47 ⟨"java/lang/System", "arraycopy", "(Ljava/lang/Object;ILjava/lang/Object;II)V"⟩,
  .initialized "java/lang/System",
  .static ⟨"java/lang/System", "arraycopy", "(Ljava/lang/Object;ILjava/lang/Object;II)V"⟩,
  .native ⟨"java/lang/System", "arraycopy", "(Ljava/lang/Object;ILjava/lang/Object;II)V"⟩,
  .methodLink "PackDesk$CodeHead" 53 ⟨"PackDesk$CodeHead", "tellRow", "(I)V"⟩,
  .instanceMethod ⟨"PackDesk$CodeHead", "tellRow", "(I)V"⟩,
  .selects "PackDesk$CodeHead" ⟨"PackDesk$CodeHead", "tellRow", "(I)V"⟩ ⟨"PackDesk$CodeHead", "tellRow", "(I)V"⟩,
  .fieldLink "PackDesk$CodeHead" 57 "PackDesk$CodeSet" "alphabet" "LPackDesk$Code;",
  .methodLink "PackDesk$CodeHead" 60 ⟨"PackDesk$LengthMaker", "make", "([III[I)V"⟩,
  .initialized "PackDesk$LengthMaker",
  .instanceMethod ⟨"PackDesk$LengthMaker", "make", "([III[I)V"⟩,
  .selects "PackDesk$LengthMaker" ⟨"PackDesk$LengthMaker", "make", "([III[I)V"⟩ ⟨"PackDesk$LengthMaker", "make", "([III[I)V"⟩,
  .methodLink "PackDesk$CodeHead" 66 ⟨"PackDesk$Code", "settle", "()V"⟩,
  .initialized "PackDesk$Code",
  .instanceMethod ⟨"PackDesk$Code", "settle", "()V"⟩,
  .selects "PackDesk$Code" ⟨"PackDesk$Code", "settle", "()V"⟩ ⟨"PackDesk$Code", "settle", "()V"⟩,
  .methodLink "PackDesk$CodeHead" 69 ⟨"PackDesk$CodeHead", "toldOrder", "([I)I"⟩,
  .static ⟨"PackDesk$CodeHead", "toldOrder", "([I)I"⟩,
  .fieldLink "PackDesk$CodeHead" 73 "PackDesk$CodeHead" "orderTold" "I",
  .methodLink "PackDesk$CodeHead" 76 ⟨"PackDesk$CodeHead", "extraBits", "()I"⟩,
  .instanceMethod ⟨"PackDesk$CodeHead", "extraBits", "()I"⟩,
  .selects "PackDesk$CodeHead" ⟨"PackDesk$CodeHead", "extraBits", "()I"⟩ ⟨"PackDesk$CodeHead", "extraBits", "()I"⟩,
  .methodLinkNest "PackDesk$CodeHead" 80 ⟨"PackDesk", "weightedSum", "([I[II)I"⟩ "PackDesk",
  .initialized "PackDesk",
  .static ⟨"PackDesk", "weightedSum", "([I[II)I"⟩,
  .methodLink "PackDesk$CodeHead" 84 ⟨"PackDesk$BitWriter", "putBits", "(II)V"⟩,
  .initialized "PackDesk$BitWriter",
  .instanceMethod ⟨"PackDesk$BitWriter", "putBits", "(II)V"⟩,
  .selects "PackDesk$BitWriter" ⟨"PackDesk$BitWriter", "putBits", "(II)V"⟩ ⟨"PackDesk$BitWriter", "putBits", "(II)V"⟩,
  .fieldLinkNest "PackDesk$CodeHead" 90 "PackDesk" "ALPHABET_ORDER" "[I" "PackDesk",
  .fieldLink "PackDesk$CodeHead" 93 "PackDesk$CodeHead" "symbolCount" "I",
  .methodLink "PackDesk$CodeHead" 96 ⟨"PackDesk$BitWriter", "putSymbol", "(LPackDesk$Code;I)V"⟩,
  .instanceMethod ⟨"PackDesk$BitWriter", "putSymbol", "(LPackDesk$Code;I)V"⟩,
  .selects "PackDesk$BitWriter" ⟨"PackDesk$BitWriter", "putSymbol", "(LPackDesk$Code;I)V"⟩ ⟨"PackDesk$BitWriter", "putSymbol", "(LPackDesk$Code;I)V"⟩,
  .methodLink "PackDesk$CodeHead" 100 ⟨"PackDesk$CodeHead", "extraBitsOf", "(I)I"⟩,
  .static ⟨"PackDesk$CodeHead", "extraBitsOf", "(I)I"⟩,
  .methodLink "PackDesk$CodeHead" 104 ⟨"java/lang/Math", "min", "(II)I"⟩,
  .initialized "java/lang/Math",
  .static ⟨"java/lang/Math", "min", "(II)I"⟩,
  .methodLink "PackDesk$CodeHead" 110 ⟨"java/util/Arrays", "fill", "([II)V"⟩,
  .initialized "java/util/Arrays",
  .static ⟨"java/util/Arrays", "fill", "([II)V"⟩,
  .methodLink "PackDesk$CodeHead" 116 ⟨"PackDesk$CodeHead", "tellAt", "(II)I"⟩,
  .instanceMethod ⟨"PackDesk$CodeHead", "tellAt", "(II)I"⟩,
  .selects "PackDesk$CodeHead" ⟨"PackDesk$CodeHead", "tellAt", "(II)I"⟩ ⟨"PackDesk$CodeHead", "tellAt", "(II)I"⟩,
  .methodLink "PackDesk$CodeHead" 119 ⟨"PackDesk$CodeHead", "sameFrom", "(IIII)I"⟩,
  .instanceMethod ⟨"PackDesk$CodeHead", "sameFrom", "(IIII)I"⟩,
  .selects "PackDesk$CodeHead" ⟨"PackDesk$CodeHead", "sameFrom", "(IIII)I"⟩ ⟨"PackDesk$CodeHead", "sameFrom", "(IIII)I"⟩,
  .fieldLinkNest "PackDesk$CodeHead" 123 "PackDesk" "REPEAT_BASE" "[I" "PackDesk",
  .methodLink "PackDesk$CodeHead" 126 ⟨"PackDesk$CodeHead", "addSymbol", "(II)V"⟩,
  .instanceMethod ⟨"PackDesk$CodeHead", "addSymbol", "(II)V"⟩,
  .selects "PackDesk$CodeHead" ⟨"PackDesk$CodeHead", "addSymbol", "(II)V"⟩ ⟨"PackDesk$CodeHead", "addSymbol", "(II)V"⟩,
  .fieldLinkNest "PackDesk$CodeHead" 129 "PackDesk" "REPEAT_EXTRA" "[I" "PackDesk"]
def tz_ps5 : List Nat := [284, 83, 107, 285, 288, 289, 291, 198, 142, 590, 65, 591, 286, 203, 287, 594, 74, 595, 596, 597, 599, 14, 208, 616, 57, 552, 553, 617, 59, 176, 177, 618, 619, 292, 623, 625, 18, 632, 55, 584, 680, 66, 638, 639, 621, 290, 681, 667, 668, 627, 628, 593, 73, 484, 601, 60, 173, 602, 604, 15, 606, 608, 16, 610, 612, 614, 17, 630]
/-- the words of PackDesk$CodeSet, and their places -/
def tz_tb6 : List Cond := [.methodLink "PackDesk$CodeSet" 1 ⟨"java/lang/Object", "<init>", "()V"⟩,
  .instanceMethod ⟨"java/lang/Object", "<init>", "()V"⟩,
  .classLink "PackDesk$CodeSet" 7 "PackDesk$Code",
  .instantiable "PackDesk$Code" 7,
  .initialized "PackDesk$Code",
  .methodLinkNest "PackDesk$CodeSet" 9 ⟨"PackDesk$Code", "<init>", "()V"⟩ "PackDesk",
  .instanceMethod ⟨"PackDesk$Code", "<init>", "()V"⟩,
  .fieldLink "PackDesk$CodeSet" 10 "PackDesk$CodeSet" "fixedLiterals" "LPackDesk$Code;",
  .fieldLink "PackDesk$CodeSet" 16 "PackDesk$CodeSet" "fixedDistances" "LPackDesk$Code;",
  .fieldLink "PackDesk$CodeSet" 19 "PackDesk$CodeSet" "literals" "LPackDesk$Code;",
  .fieldLink "PackDesk$CodeSet" 22 "PackDesk$CodeSet" "distances" "LPackDesk$Code;",
  .fieldLink "PackDesk$CodeSet" 25 "PackDesk$CodeSet" "alphabet" "LPackDesk$Code;",
  .fieldLink "PackDesk$CodeSet" 28 "PackDesk$Code" "lengths" "[I",
  .methodLink "PackDesk$CodeSet" 32 ⟨"java/util/Arrays", "fill", "([II)V"⟩,
  .initialized "java/util/Arrays",
  .static ⟨"java/util/Arrays", "fill", "([II)V"⟩,
  .methodLink "PackDesk$CodeSet" 38 ⟨"PackDesk$Code", "settle", "()V"⟩,
  .instanceMethod ⟨"PackDesk$Code", "settle", "()V"⟩,
  .selects "PackDesk$Code" ⟨"PackDesk$Code", "settle", "()V"⟩ ⟨"PackDesk$Code", "settle", "()V"⟩]
def tz_ps6 : List Nat := [133, 83, 134, 135, 59, 136, 137, 191, 194, 197, 202, 207, 141, 172, 60, 173, 175, 176, 177]
/-- the words of PackDesk$LengthMaker, and their places -/
def tz_tb7 : List Cond := [.methodLink "PackDesk$LengthMaker" 3 ⟨"java/lang/Object", "<init>", "()V"⟩,
  .instanceMethod ⟨"java/lang/Object", "<init>", "()V"⟩,
  .arrayClass .int,
  .fieldLink "PackDesk$LengthMaker" 9 "PackDesk$LengthMaker" "keys" "[I",
  .arrayClass .long,
  .fieldLink "PackDesk$LengthMaker" 15 "PackDesk$LengthMaker" "sums" "[J",
  .fieldLink "PackDesk$LengthMaker" 19 "PackDesk$LengthMaker" "pairs" "[J",
  .fieldLink "PackDesk$LengthMaker" 22 "PackDesk$LengthMaker" "alone" "[I",
  .methodLink "PackDesk$LengthMaker" 25 ⟨"java/util/Arrays", "fill", "([II)V"⟩,
  .initialized "java/util/Arrays",
  .static ⟨"java/util/Arrays", "fill", "([II)V"⟩,
  .methodLink "PackDesk$LengthMaker" 31 ⟨"java/lang/Math", "min", "(II)I"⟩,
  .initialized "java/lang/Math",
  .static ⟨"java/lang/Math", "min", "(II)I"⟩,
  .methodLink "PackDesk$LengthMaker" 37 ⟨"PackDesk$LengthMaker", "gather", "([II)I"⟩,
  .initialized "PackDesk$LengthMaker",
  .instanceMethod ⟨"PackDesk$LengthMaker", "gather", "([II)I"⟩,
  .selects "PackDesk$LengthMaker" ⟨"PackDesk$LengthMaker", "gather", "([II)I"⟩ ⟨"PackDesk$LengthMaker", "gather", "([II)I"⟩,
  .fieldLink "PackDesk$LengthMaker" 41 "PackDesk$LengthMaker" "GAPS" "[I",
  .methodLink "PackDesk$LengthMaker" 44 ⟨"PackDesk$LengthMaker", "sortByGap", "(II)V"⟩,
  .instanceMethod ⟨"PackDesk$LengthMaker", "sortByGap", "(II)V"⟩,
  .selects "PackDesk$LengthMaker" ⟨"PackDesk$LengthMaker", "sortByGap", "(II)V"⟩ ⟨"PackDesk$LengthMaker", "sortByGap", "(II)V"⟩,
  .methodLink "PackDesk$LengthMaker" 48 ⟨"PackDesk$LengthMaker", "lengthen", "([II)V"⟩,
  .instanceMethod ⟨"PackDesk$LengthMaker", "lengthen", "([II)V"⟩,
  .selects "PackDesk$LengthMaker" ⟨"PackDesk$LengthMaker", "lengthen", "([II)V"⟩ ⟨"PackDesk$LengthMaker", "lengthen", "([II)V"⟩,
  .methodLink "PackDesk$LengthMaker" 51 ⟨"PackDesk$LengthMaker", "mergeRounds", "(II)V"⟩,
  .instanceMethod ⟨"PackDesk$LengthMaker", "mergeRounds", "(II)V"⟩,
  .selects "PackDesk$LengthMaker" ⟨"PackDesk$LengthMaker", "mergeRounds", "(II)V"⟩ ⟨"PackDesk$LengthMaker", "mergeRounds", "(II)V"⟩,
  .methodLink "PackDesk$LengthMaker" 54 ⟨"PackDesk$LengthMaker", "countDown", "(II[I)V"⟩,
  .instanceMethod ⟨"PackDesk$LengthMaker", "countDown", "(II[I)V"⟩,
  .selects "PackDesk$LengthMaker" ⟨"PackDesk$LengthMaker", "countDown", "(II[I)V"⟩ ⟨"PackDesk$LengthMaker", "countDown", "(II[I)V"⟩,
  .methodLink "PackDesk$LengthMaker" 58 ⟨"PackDesk$LengthMaker", "mergeRound", "(III)I"⟩,
  .instanceMethod ⟨"PackDesk$LengthMaker", "mergeRound", "(III)I"⟩,
  .selects "PackDesk$LengthMaker" ⟨"PackDesk$LengthMaker", "mergeRound", "(III)I"⟩ ⟨"PackDesk$LengthMaker", "mergeRound", "(III)I"⟩]
def tz_ps7 : List Nat := [113, 83, 107, 114, 127, 115, 116, 117, 555, 60, 173, 556, 73, 484, 557, 57, 559, 8, 561, 563, 565, 9, 567, 569, 10, 571, 573, 11, 579, 581, 13, 575, 577, 12]
/-- the words of PackDesk$Matcher, and their places -/
def tz_tb8 : List Cond := [.methodLink "PackDesk$Matcher" 5 ⟨"java/lang/Object", "<init>", "()V"⟩,
  .instanceMethod ⟨"java/lang/Object", "<init>", "()V"⟩,
  .arrayClass .int,
  .fieldLink "PackDesk$Matcher" 11 "PackDesk$Matcher" "latest" "[I",
  .fieldLink "PackDesk$Matcher" 15 "PackDesk$Matcher" "earlier" "[I",
  .methodLink "PackDesk$Matcher" 18 ⟨"java/util/Arrays", "fill", "([II)V"⟩,
  .initialized "java/util/Arrays",
  .static ⟨"java/util/Arrays", "fill", "([II)V"⟩,
  .fieldLink "PackDesk$Matcher" 24 "PackDesk$Row" "size" "I",
  .fieldLink "PackDesk$Matcher" 30 "PackDesk$Row" "bytes" "[I",
  .methodLink "PackDesk$Matcher" 33 ⟨"PackDesk$Matcher", "spotOf", "([II)I"⟩,
  .initialized "PackDesk$Matcher",
  .static ⟨"PackDesk$Matcher", "spotOf", "([II)I"⟩,
  .methodLink "PackDesk$Matcher" 37 ⟨"java/lang/Math", "min", "(II)I"⟩,
  .initialized "java/lang/Math",
  .static ⟨"java/lang/Math", "min", "(II)I"⟩,
  .methodLink "PackDesk$Matcher" 43 ⟨"java/lang/Math", "max", "(II)I"⟩,
  .static ⟨"java/lang/Math", "max", "(II)I"⟩,
  .methodLink "PackDesk$Matcher" 46 ⟨"PackDesk$Matcher", "sameBytes", "([IIII)I"⟩,
  .static ⟨"PackDesk$Matcher", "sameBytes", "([IIII)I"⟩,
  .fieldLink "PackDesk$Matcher" 50 "PackDesk$Matcher" "distance" "I",
  .constant "PackDesk$Matcher" 53 (-1640531535 : Int32)]
def tz_ps8 : List Nat := [267, 83, 107, 268, 269, 474, 60, 173, 99, 92, 475, 64, 476, 483, 73, 484, 486, 487, 489, 490, 271, 478]
/-- the words of PackDesk$Packer, and their places -/
def tz_tb9 : List Cond := [.methodLink "PackDesk$Packer" 3 ⟨"java/lang/Object", "<init>", "()V"⟩,
  .instanceMethod ⟨"java/lang/Object", "<init>", "()V"⟩,
  .classLink "PackDesk$Packer" 9 "PackDesk$PartList",
  .instantiable "PackDesk$PartList" 2,
  .initialized "PackDesk$PartList",
  .methodLinkNest "PackDesk$Packer" 11 ⟨"PackDesk$PartList", "<init>", "()V"⟩ "PackDesk",
  .instanceMethod ⟨"PackDesk$PartList", "<init>", "()V"⟩,
  .fieldLink "PackDesk$Packer" 12 "PackDesk$Packer" "partList" "LPackDesk$PartList;",
  .classLink "PackDesk$Packer" 18 "PackDesk$BlockBook",
  .instantiable "PackDesk$BlockBook" 3,
  .initialized "PackDesk$BlockBook",
  .methodLinkNest "PackDesk$Packer" 20 ⟨"PackDesk$BlockBook", "<init>", "()V"⟩ "PackDesk",
  .instanceMethod ⟨"PackDesk$BlockBook", "<init>", "()V"⟩,
  .fieldLink "PackDesk$Packer" 21 "PackDesk$Packer" "book" "LPackDesk$BlockBook;",
  .classLink "PackDesk$Packer" 25 "PackDesk$Matcher",
  .instantiable "PackDesk$Matcher" 3,
  .initialized "PackDesk$Matcher",
  .methodLinkNest "PackDesk$Packer" 27 ⟨"PackDesk$Matcher", "<init>", "()V"⟩ "PackDesk",
  .instanceMethod ⟨"PackDesk$Matcher", "<init>", "()V"⟩,
  .fieldLink "PackDesk$Packer" 28 "PackDesk$Packer" "matcher" "LPackDesk$Matcher;",
  .classLink "PackDesk$Packer" 32 "PackDesk$CodeHead",
  .instantiable "PackDesk$CodeHead" 8,
  .initialized "PackDesk$CodeHead",
  .methodLinkNest "PackDesk$Packer" 34 ⟨"PackDesk$CodeHead", "<init>", "()V"⟩ "PackDesk",
  .instanceMethod ⟨"PackDesk$CodeHead", "<init>", "()V"⟩,
  .fieldLink "PackDesk$Packer" 35 "PackDesk$Packer" "head" "LPackDesk$CodeHead;",
  .arrayClass .int,
  .fieldLink "PackDesk$Packer" 39 "PackDesk$Packer" "literalComings" "[I",
  .fieldLink "PackDesk$Packer" 43 "PackDesk$Packer" "distanceComings" "[I",
  .fieldLink "PackDesk$Packer" 46 "PackDesk$Packer" "codes" "LPackDesk$CodeSet;",
  .fieldLink "PackDesk$Packer" 50 "PackDesk$Packer" "made" "LPackDesk$Row;",
  .fieldLink "PackDesk$Packer" 54 "PackDesk$Packer" "maker" "LPackDesk$LengthMaker;",
  .classLink "PackDesk$Packer" 58 "PackDesk$BitWriter",
  .instantiable "PackDesk$BitWriter" 3,
  .initialized "PackDesk$BitWriter",
  .methodLink "PackDesk$Packer" 60 ⟨"PackDesk$BitWriter", "<init>", "(LPackDesk$Row;)V"⟩,
  .instanceMethod ⟨"PackDesk$BitWriter", "<init>", "(LPackDesk$Row;)V"⟩,
  .fieldLink "PackDesk$Packer" 63 "PackDesk$Packer" "writer" "LPackDesk$BitWriter;",
  .methodLink "PackDesk$Packer" 67 ⟨"PackDesk$Packer", "split", "(LPackDesk$Row;)V"⟩,
  .initialized "PackDesk$Packer",
  .instanceMethod ⟨"PackDesk$Packer", "split", "(LPackDesk$Row;)V"⟩,
  .selects "PackDesk$Packer" ⟨"PackDesk$Packer", "split", "(LPackDesk$Row;)V"⟩ ⟨"PackDesk$Packer", "split", "(LPackDesk$Row;)V"⟩,
  .methodLink "PackDesk$Packer" 70 ⟨"PackDesk$BitWriter", "begin", "()V"⟩,
  .instanceMethod ⟨"PackDesk$BitWriter", "begin", "()V"⟩,
  .selects "PackDesk$BitWriter" ⟨"PackDesk$BitWriter", "begin", "()V"⟩ ⟨"PackDesk$BitWriter", "begin", "()V"⟩,
  .fieldLink "PackDesk$Packer" 73 "PackDesk$PartList" "count" "I",
  .methodLink "PackDesk$Packer" 77 ⟨"PackDesk$BlockBook", "begin", "(I)V"⟩,
  .instanceMethod ⟨"PackDesk$BlockBook", "begin", "(I)V"⟩,
  .selects "PackDesk$BlockBook" ⟨"PackDesk$BlockBook", "begin", "(I)V"⟩ ⟨"PackDesk$BlockBook", "begin", "(I)V"⟩,
  .fieldLink "PackDesk$Packer" 80 "PackDesk$BlockBook" "count" "I",
  .methodLink "PackDesk$Packer" 81 ⟨"java/lang/Math", "min", "(II)I"⟩,
  .initialized "java/lang/Math",
  .static ⟨"java/lang/Math", "min", "(II)I"⟩,
  .methodLink "PackDesk$Packer" 87 ⟨"PackDesk$Packer", "countBlock", "(II)V"⟩,
  .instanceMethod ⟨"PackDesk$Packer", "countBlock", "(II)V"⟩,
  .selects "PackDesk$Packer" ⟨"PackDesk$Packer", "countBlock", "(II)V"⟩ ⟨"PackDesk$Packer", "countBlock", "(II)V"⟩,
  .methodLink "PackDesk$Packer" 91 ⟨"PackDesk$BlockBook", "note", "(III)V"⟩,
  .instanceMethod ⟨"PackDesk$BlockBook", "note", "(III)V"⟩,
  .selects "PackDesk$BlockBook" ⟨"PackDesk$BlockBook", "note", "(III)V"⟩ ⟨"PackDesk$BlockBook", "note", "(III)V"⟩,
  .methodLink "PackDesk$Packer" 95 ⟨"PackDesk$Packer", "weighWays", "(I)V"⟩,
  .instanceMethod ⟨"PackDesk$Packer", "weighWays", "(I)V"⟩,
  .selects "PackDesk$Packer" ⟨"PackDesk$Packer", "weighWays", "(I)V"⟩ ⟨"PackDesk$Packer", "weighWays", "(I)V"⟩,
  .methodLink "PackDesk$Packer" 98 ⟨"PackDesk$BitWriter", "putBits", "(II)V"⟩,
  .instanceMethod ⟨"PackDesk$BitWriter", "putBits", "(II)V"⟩,
  .selects "PackDesk$BitWriter" ⟨"PackDesk$BitWriter", "putBits", "(II)V"⟩ ⟨"PackDesk$BitWriter", "putBits", "(II)V"⟩,
  .methodLink "PackDesk$Packer" 101 ⟨"PackDesk$Packer", "writeBlock", "(IIILPackDesk$Row;I)V"⟩,
  .instanceMethod ⟨"PackDesk$Packer", "writeBlock", "(IIILPackDesk$Row;I)V"⟩,
  .selects "PackDesk$Packer" ⟨"PackDesk$Packer", "writeBlock", "(IIILPackDesk$Row;I)V"⟩ ⟨"PackDesk$Packer", "writeBlock", "(IIILPackDesk$Row;I)V"⟩,
  .fieldLink "PackDesk$Packer" 105 "PackDesk$Packer" "bytesTold" "I",
  .methodLink "PackDesk$Packer" 108 ⟨"PackDesk$BitWriter", "fillByte", "()V"⟩,
  .instanceMethod ⟨"PackDesk$BitWriter", "fillByte", "()V"⟩,
  .selects "PackDesk$BitWriter" ⟨"PackDesk$BitWriter", "fillByte", "()V"⟩ ⟨"PackDesk$BitWriter", "fillByte", "()V"⟩,
  .methodLink "PackDesk$Packer" 111 ⟨"PackDesk$Matcher", "chain", "(LPackDesk$Row;)V"⟩,
  .instanceMethod ⟨"PackDesk$Matcher", "chain", "(LPackDesk$Row;)V"⟩,
  .selects "PackDesk$Matcher" ⟨"PackDesk$Matcher", "chain", "(LPackDesk$Row;)V"⟩ ⟨"PackDesk$Matcher", "chain", "(LPackDesk$Row;)V"⟩,
  .methodLink "PackDesk$Packer" 114 ⟨"PackDesk$Matcher", "search", "(LPackDesk$Row;II)I"⟩,
  .instanceMethod ⟨"PackDesk$Matcher", "search", "(LPackDesk$Row;II)I"⟩,
  .selects "PackDesk$Matcher" ⟨"PackDesk$Matcher", "search", "(LPackDesk$Row;II)I"⟩ ⟨"PackDesk$Matcher", "search", "(LPackDesk$Row;II)I"⟩,
  .fieldLink "PackDesk$Packer" 118 "PackDesk$Matcher" "distance" "I",
  .fieldLink "PackDesk$Packer" 121 "PackDesk$Row" "size" "I",
  .fieldLink "PackDesk$Packer" 126 "PackDesk$Row" "bytes" "[I",
  .methodLink "PackDesk$Packer" 129 ⟨"PackDesk$PartList", "add", "(II)V"⟩,
  .instanceMethod ⟨"PackDesk$PartList", "add", "(II)V"⟩,
  .selects "PackDesk$PartList" ⟨"PackDesk$PartList", "add", "(II)V"⟩ ⟨"PackDesk$PartList", "add", "(II)V"⟩,
  .methodLink "PackDesk$Packer" 132 ⟨"java/util/Arrays", "fill", "([II)V"⟩,
  .initialized "java/util/Arrays",
  .static ⟨"java/util/Arrays", "fill", "([II)V"⟩,
  .fieldLink "PackDesk$Packer" 138 "PackDesk$Packer" "extraBits" "I",
  .methodLink "PackDesk$Packer" 141 ⟨"PackDesk$PartList", "amount", "(I)I"⟩,
  .instanceMethod ⟨"PackDesk$PartList", "amount", "(I)I"⟩,
  .selects "PackDesk$PartList" ⟨"PackDesk$PartList", "amount", "(I)I"⟩ ⟨"PackDesk$PartList", "amount", "(I)I"⟩,
  .methodLink "PackDesk$Packer" 145 ⟨"PackDesk$PartList", "distance", "(I)I"⟩,
  .instanceMethod ⟨"PackDesk$PartList", "distance", "(I)I"⟩,
  .selects "PackDesk$PartList" ⟨"PackDesk$PartList", "distance", "(I)I"⟩ ⟨"PackDesk$PartList", "distance", "(I)I"⟩,
  .methodLink "PackDesk$Packer" 147 ⟨"PackDesk$Packer", "countPart", "(II)V"⟩,
  .instanceMethod ⟨"PackDesk$Packer", "countPart", "(II)V"⟩,
  .selects "PackDesk$Packer" ⟨"PackDesk$Packer", "countPart", "(II)V"⟩ ⟨"PackDesk$Packer", "countPart", "(II)V"⟩,
  .fieldLinkNest "PackDesk$Packer" 150 "PackDesk" "LENGTH_BASE" "[I" "PackDesk",
  .methodLinkNest "PackDesk$Packer" 153 ⟨"PackDesk", "kindOf", "([II)I"⟩ "PackDesk",
  .initialized "PackDesk",
  .static ⟨"PackDesk", "kindOf", "([II)I"⟩,
  .fieldLinkNest "PackDesk$Packer" 157 "PackDesk" "DISTANCE_BASE" "[I" "PackDesk",
  .fieldLinkNest "PackDesk$Packer" 160 "PackDesk" "LENGTH_EXTRA" "[I" "PackDesk",
  .fieldLinkNest "PackDesk$Packer" 163 "PackDesk" "DISTANCE_EXTRA" "[I" "PackDesk",
  .fieldLink "PackDesk$Packer" 166 "PackDesk$CodeSet" "literals" "LPackDesk$Code;",
  .fieldLink "PackDesk$Packer" 172 "PackDesk$Code" "lengths" "[I",
  .methodLink "PackDesk$Packer" 177 ⟨"PackDesk$LengthMaker", "make", "([III[I)V"⟩,
  .initialized "PackDesk$LengthMaker",
  .instanceMethod ⟨"PackDesk$LengthMaker", "make", "([III[I)V"⟩,
  .selects "PackDesk$LengthMaker" ⟨"PackDesk$LengthMaker", "make", "([III[I)V"⟩ ⟨"PackDesk$LengthMaker", "make", "([III[I)V"⟩,
  .fieldLink "PackDesk$Packer" 183 "PackDesk$CodeSet" "distances" "LPackDesk$Code;",
  .methodLinkNest "PackDesk$Packer" 186 ⟨"PackDesk", "weightedSum", "([I[II)I"⟩ "PackDesk",
  .static ⟨"PackDesk", "weightedSum", "([I[II)I"⟩,
  .methodLink "PackDesk$Packer" 190 ⟨"PackDesk$CodeHead", "plan", "(LPackDesk$CodeSet;LPackDesk$LengthMaker;)I"⟩,
  .instanceMethod ⟨"PackDesk$CodeHead", "plan", "(LPackDesk$CodeSet;LPackDesk$LengthMaker;)I"⟩,
  .selects "PackDesk$CodeHead" ⟨"PackDesk$CodeHead", "plan", "(LPackDesk$CodeSet;LPackDesk$LengthMaker;)I"⟩ ⟨"PackDesk$CodeHead", "plan", "(LPackDesk$CodeSet;LPackDesk$LengthMaker;)I"⟩,
  .fieldLink "PackDesk$Packer" 194 "PackDesk$CodeSet" "fixedLiterals" "LPackDesk$Code;",
  .fieldLink "PackDesk$Packer" 197 "PackDesk$CodeSet" "fixedDistances" "LPackDesk$Code;",
  .methodLink "PackDesk$Packer" 200 ⟨"PackDesk$BitWriter", "missingBehind", "(I)I"⟩,
  .instanceMethod ⟨"PackDesk$BitWriter", "missingBehind", "(I)I"⟩,
  .selects "PackDesk$BitWriter" ⟨"PackDesk$BitWriter", "missingBehind", "(I)I"⟩ ⟨"PackDesk$BitWriter", "missingBehind", "(I)I"⟩,
  .methodLink "PackDesk$Packer" 203 ⟨"PackDesk$BlockBook", "fact", "(II)I"⟩,
  .instanceMethod ⟨"PackDesk$BlockBook", "fact", "(II)I"⟩,
  .selects "PackDesk$BlockBook" ⟨"PackDesk$BlockBook", "fact", "(II)I"⟩ ⟨"PackDesk$BlockBook", "fact", "(II)I"⟩,
  .methodLink "PackDesk$Packer" 206 ⟨"PackDesk$Packer", "writeStored", "(LPackDesk$Row;I)V"⟩,
  .instanceMethod ⟨"PackDesk$Packer", "writeStored", "(LPackDesk$Row;I)V"⟩,
  .selects "PackDesk$Packer" ⟨"PackDesk$Packer", "writeStored", "(LPackDesk$Row;I)V"⟩ ⟨"PackDesk$Packer", "writeStored", "(LPackDesk$Row;I)V"⟩,
  .methodLink "PackDesk$Packer" 210 ⟨"PackDesk$Packer", "writeParts", "(IILPackDesk$Code;LPackDesk$Code;)V"⟩,
  .instanceMethod ⟨"PackDesk$Packer", "writeParts", "(IILPackDesk$Code;LPackDesk$Code;)V"⟩,
  .selects "PackDesk$Packer" ⟨"PackDesk$Packer", "writeParts", "(IILPackDesk$Code;LPackDesk$Code;)V"⟩ ⟨"PackDesk$Packer", "writeParts", "(IILPackDesk$Code;LPackDesk$Code;)V"⟩,
  .methodLink "PackDesk$Packer" 214 ⟨"PackDesk$BlockBook", "keepCodes", "(ILPackDesk$CodeSet;)V"⟩,
  .instanceMethod ⟨"PackDesk$BlockBook", "keepCodes", "(ILPackDesk$CodeSet;)V"⟩,
  .selects "PackDesk$BlockBook" ⟨"PackDesk$BlockBook", "keepCodes", "(ILPackDesk$CodeSet;)V"⟩ ⟨"PackDesk$BlockBook", "keepCodes", "(ILPackDesk$CodeSet;)V"⟩,
  .methodLink "PackDesk$Packer" 218 ⟨"PackDesk$Code", "settle", "()V"⟩,
  .initialized "PackDesk$Code",
  .instanceMethod ⟨"PackDesk$Code", "settle", "()V"⟩,
  .selects "PackDesk$Code" ⟨"PackDesk$Code", "settle", "()V"⟩ ⟨"PackDesk$Code", "settle", "()V"⟩,
  .fieldLink "PackDesk$Packer" 221 "PackDesk$CodeSet" "alphabet" "LPackDesk$Code;",
  .methodLink "PackDesk$Packer" 224 ⟨"PackDesk$CodeHead", "write", "(LPackDesk$Code;LPackDesk$BitWriter;)V"⟩,
  .instanceMethod ⟨"PackDesk$CodeHead", "write", "(LPackDesk$Code;LPackDesk$BitWriter;)V"⟩,
  .selects "PackDesk$CodeHead" ⟨"PackDesk$CodeHead", "write", "(LPackDesk$Code;LPackDesk$BitWriter;)V"⟩ ⟨"PackDesk$CodeHead", "write", "(LPackDesk$Code;LPackDesk$BitWriter;)V"⟩,
  .constant "PackDesk$Packer" 228 (65535 : Int32),
  .methodLink "PackDesk$Packer" 229 ⟨"PackDesk$Row", "has", "(I)Z"⟩,
  .initialized "PackDesk$Row",
  .instanceMethod ⟨"PackDesk$Row", "has", "(I)Z"⟩,
  .selects "PackDesk$Row" ⟨"PackDesk$Row", "has", "(I)Z"⟩ ⟨"PackDesk$Row", "has", "(I)Z"⟩,
  .methodLink "PackDesk$Packer" 233 ⟨"PackDesk$BitWriter", "putSymbol", "(LPackDesk$Code;I)V"⟩,
  .instanceMethod ⟨"PackDesk$BitWriter", "putSymbol", "(LPackDesk$Code;I)V"⟩,
  .selects "PackDesk$BitWriter" ⟨"PackDesk$BitWriter", "putSymbol", "(LPackDesk$Code;I)V"⟩ ⟨"PackDesk$BitWriter", "putSymbol", "(LPackDesk$Code;I)V"⟩]
def tz_ps9 : List Nat := [228, 83, 229, 230, 62, 231, 232, 328, 244, 245, 63, 246, 247, 330, 262, 263, 64, 264, 265, 335, 279, 280, 65, 281, 282, 336, 107, 337, 338, 332, 326, 333, 310, 311, 66, 312, 313, 334, 466, 61, 468, 3, 496, 497, 498, 237, 500, 501, 502, 253, 506, 73, 484, 507, 509, 4, 539, 540, 541, 547, 549, 7, 637, 638, 639, 642, 644, 19, 340, 654, 655, 656, 470, 471, 472, 479, 480, 481, 270, 101, 93, 492, 493, 494, 511, 60, 173, 339, 512, 513, 514, 520, 521, 522, 524, 526, 5, 528, 530, 55, 531, 533, 535, 537, 201, 146, 551, 57, 552, 553, 206, 583, 584, 586, 587, 588, 193, 196, 633, 634, 635, 646, 647, 648, 650, 652, 20, 662, 664, 21, 670, 671, 672, 675, 59, 176, 177, 211, 676, 677, 678, 660, 661, 56, 449, 450, 666, 667, 668]
/-- the words of PackDesk$PartList, and their places -/
def tz_tb10 : List Cond := [.methodLink "PackDesk$PartList" 3 ⟨"java/lang/Object", "<init>", "()V"⟩,
  .instanceMethod ⟨"java/lang/Object", "<init>", "()V"⟩,
  .arrayClass .int,
  .fieldLink "PackDesk$PartList" 9 "PackDesk$PartList" "entries" "[I",
  .fieldLink "PackDesk$PartList" 15 "PackDesk$PartList" "count" "I",
  .methodLink "PackDesk$PartList" 19 ⟨"PackDesk$PartList", "has", "(I)Z"⟩,
  .initialized "PackDesk$PartList",
  .instanceMethod ⟨"PackDesk$PartList", "has", "(I)Z"⟩,
  .selects "PackDesk$PartList" ⟨"PackDesk$PartList", "has", "(I)Z"⟩ ⟨"PackDesk$PartList", "has", "(I)Z"⟩]
def tz_ps10 : List Nat := [234, 83, 107, 235, 236, 516, 62, 517, 518]
/-- the words of PackDesk$Row, and their places -/
def tz_tb11 : List Cond := [.methodLink "PackDesk$Row" 3 ⟨"java/lang/Object", "<init>", "()V"⟩,
  .instanceMethod ⟨"java/lang/Object", "<init>", "()V"⟩,
  .arrayClass .int,
  .fieldLink "PackDesk$Row" 9 "PackDesk$Row" "bytes" "[I",
  .fieldLink "PackDesk$Row" 15 "PackDesk$Row" "size" "I",
  .methodLink "PackDesk$Row" 19 ⟨"java/lang/Math", "min", "(II)I"⟩,
  .initialized "java/lang/Math",
  .static ⟨"java/lang/Math", "min", "(II)I"⟩,
  .methodLink "PackDesk$Row" 25 ⟨"java/lang/Math", "max", "(II)I"⟩,
  .static ⟨"java/lang/Math", "max", "(II)I"⟩,
  .methodLink "PackDesk$Row" 28 ⟨"java/lang/System", "arraycopy", "(Ljava/lang/Object;ILjava/lang/Object;II)V"⟩,
  .initialized "java/lang/System",
  .static ⟨"java/lang/System", "arraycopy", "(Ljava/lang/Object;ILjava/lang/Object;II)V"⟩,
  .native ⟨"java/lang/System", "arraycopy", "(Ljava/lang/Object;ILjava/lang/Object;II)V"⟩]
def tz_ps11 : List Nat := [90, 83, 107, 91, 98, 686, 73, 484, 687, 487, 688, 74, 595, 596]
/-- the words of PackDesk$Unpacker, and their places -/
def tz_tb12 : List Cond := [.methodLink "PackDesk$Unpacker" 3 ⟨"java/lang/Object", "<init>", "()V"⟩,
  .instanceMethod ⟨"java/lang/Object", "<init>", "()V"⟩,
  .fieldLink "PackDesk$Unpacker" 9 "PackDesk$Unpacker" "faultPlace" "I",
  .arrayClass .int,
  .fieldLink "PackDesk$Unpacker" 15 "PackDesk$Unpacker" "row" "[I",
  .fieldLink "PackDesk$Unpacker" 19 "PackDesk$Unpacker" "codes" "LPackDesk$CodeSet;",
  .fieldLink "PackDesk$Unpacker" 23 "PackDesk$Unpacker" "made" "LPackDesk$Row;",
  .fieldLink "PackDesk$Unpacker" 27 "PackDesk$Row" "size" "I",
  .fieldLink "PackDesk$Unpacker" 32 "PackDesk$Unpacker" "isDone" "Z",
  .fieldLink "PackDesk$Unpacker" 36 "PackDesk$Unpacker" "faultMet" "I",
  .fieldLink "PackDesk$Unpacker" 39 "PackDesk$Unpacker" "position" "I",
  .methodLink "PackDesk$Unpacker" 42 ⟨"PackDesk$Unpacker", "takeBits", "(LPackDesk$Row;I)I"⟩,
  .initialized "PackDesk$Unpacker",
  .instanceMethod ⟨"PackDesk$Unpacker", "takeBits", "(LPackDesk$Row;I)I"⟩,
  .selects "PackDesk$Unpacker" ⟨"PackDesk$Unpacker", "takeBits", "(LPackDesk$Row;I)I"⟩ ⟨"PackDesk$Unpacker", "takeBits", "(LPackDesk$Row;I)I"⟩,
  .methodLink "PackDesk$Unpacker" 46 ⟨"PackDesk$Unpacker", "readStored", "(LPackDesk$Row;)V"⟩,
  .instanceMethod ⟨"PackDesk$Unpacker", "readStored", "(LPackDesk$Row;)V"⟩,
  .selects "PackDesk$Unpacker" ⟨"PackDesk$Unpacker", "readStored", "(LPackDesk$Row;)V"⟩ ⟨"PackDesk$Unpacker", "readStored", "(LPackDesk$Row;)V"⟩,
  .fieldLink "PackDesk$Unpacker" 50 "PackDesk$CodeSet" "fixedLiterals" "LPackDesk$Code;",
  .fieldLink "PackDesk$Unpacker" 56 "PackDesk$CodeSet" "fixedDistances" "LPackDesk$Code;",
  .methodLink "PackDesk$Unpacker" 59 ⟨"PackDesk$Unpacker", "readParts", "(LPackDesk$Row;LPackDesk$Code;LPackDesk$Code;)V"⟩,
  .instanceMethod ⟨"PackDesk$Unpacker", "readParts", "(LPackDesk$Row;LPackDesk$Code;LPackDesk$Code;)V"⟩,
  .selects "PackDesk$Unpacker" ⟨"PackDesk$Unpacker", "readParts", "(LPackDesk$Row;LPackDesk$Code;LPackDesk$Code;)V"⟩ ⟨"PackDesk$Unpacker", "readParts", "(LPackDesk$Row;LPackDesk$Code;LPackDesk$Code;)V"⟩,
  .methodLink "PackDesk$Unpacker" 63 ⟨"PackDesk$Unpacker", "readHead", "(LPackDesk$Row;)V"⟩,
  .instanceMethod ⟨"PackDesk$Unpacker", "readHead", "(LPackDesk$Row;)V"⟩,
  .selects "PackDesk$Unpacker" ⟨"PackDesk$Unpacker", "readHead", "(LPackDesk$Row;)V"⟩ ⟨"PackDesk$Unpacker", "readHead", "(LPackDesk$Row;)V"⟩,
  .fieldLink "PackDesk$Unpacker" 66 "PackDesk$CodeSet" "literals" "LPackDesk$Code;",
  .fieldLink "PackDesk$Unpacker" 69 "PackDesk$CodeSet" "distances" "LPackDesk$Code;",
  .methodLink "PackDesk$Unpacker" 72 ⟨"PackDesk$Unpacker", "fail", "(I)V"⟩,
  .instanceMethod ⟨"PackDesk$Unpacker", "fail", "(I)V"⟩,
  .selects "PackDesk$Unpacker" ⟨"PackDesk$Unpacker", "fail", "(I)V"⟩ ⟨"PackDesk$Unpacker", "fail", "(I)V"⟩,
  .constant "PackDesk$Unpacker" 76 (65535 : Int32),
  .methodLink "PackDesk$Unpacker" 77 ⟨"PackDesk$Unpacker", "putByte", "(I)V"⟩,
  .instanceMethod ⟨"PackDesk$Unpacker", "putByte", "(I)V"⟩,
  .selects "PackDesk$Unpacker" ⟨"PackDesk$Unpacker", "putByte", "(I)V"⟩ ⟨"PackDesk$Unpacker", "putByte", "(I)V"⟩,
  .methodLink "PackDesk$Unpacker" 80 ⟨"PackDesk$Unpacker", "readAlphabet", "(LPackDesk$Row;I)V"⟩,
  .instanceMethod ⟨"PackDesk$Unpacker", "readAlphabet", "(LPackDesk$Row;I)V"⟩,
  .selects "PackDesk$Unpacker" ⟨"PackDesk$Unpacker", "readAlphabet", "(LPackDesk$Row;I)V"⟩ ⟨"PackDesk$Unpacker", "readAlphabet", "(LPackDesk$Row;I)V"⟩,
  .methodLink "PackDesk$Unpacker" 84 ⟨"PackDesk$Unpacker", "readRow", "(LPackDesk$Row;I)V"⟩,
  .instanceMethod ⟨"PackDesk$Unpacker", "readRow", "(LPackDesk$Row;I)V"⟩,
  .selects "PackDesk$Unpacker" ⟨"PackDesk$Unpacker", "readRow", "(LPackDesk$Row;I)V"⟩ ⟨"PackDesk$Unpacker", "readRow", "(LPackDesk$Row;I)V"⟩,
  .methodLink "PackDesk$Unpacker" 87 ⟨"PackDesk$Code", "takeLengths", "([III)V"⟩,
  .initialized "PackDesk$Code",
  .instanceMethod ⟨"PackDesk$Code", "takeLengths", "([III)V"⟩,
  .selects "PackDesk$Code" ⟨"PackDesk$Code", "takeLengths", "([III)V"⟩ ⟨"PackDesk$Code", "takeLengths", "([III)V"⟩,
  .methodLink "PackDesk$Unpacker" 93 ⟨"PackDesk$Code", "settle", "()V"⟩,
  .instanceMethod ⟨"PackDesk$Code", "settle", "()V"⟩,
  .selects "PackDesk$Code" ⟨"PackDesk$Code", "settle", "()V"⟩ ⟨"PackDesk$Code", "settle", "()V"⟩,
  .methodLink "PackDesk$Unpacker" 96 ⟨"PackDesk$Code", "isWhole", "()Z"⟩,
  .instanceMethod ⟨"PackDesk$Code", "isWhole", "()Z"⟩,
  .selects "PackDesk$Code" ⟨"PackDesk$Code", "isWhole", "()Z"⟩ ⟨"PackDesk$Code", "isWhole", "()Z"⟩,
  .fieldLink "PackDesk$Unpacker" 100 "PackDesk$Code" "lengths" "[I",
  .methodLink "PackDesk$Unpacker" 103 ⟨"PackDesk$Code", "isOneBitAtMost", "()Z"⟩,
  .instanceMethod ⟨"PackDesk$Code", "isOneBitAtMost", "()Z"⟩,
  .selects "PackDesk$Code" ⟨"PackDesk$Code", "isOneBitAtMost", "()Z"⟩ ⟨"PackDesk$Code", "isOneBitAtMost", "()Z"⟩,
  .fieldLink "PackDesk$Unpacker" 106 "PackDesk$CodeSet" "alphabet" "LPackDesk$Code;",
  .methodLink "PackDesk$Unpacker" 109 ⟨"java/util/Arrays", "fill", "([II)V"⟩,
  .initialized "java/util/Arrays",
  .static ⟨"java/util/Arrays", "fill", "([II)V"⟩,
  .fieldLinkNest "PackDesk$Unpacker" 115 "PackDesk" "ALPHABET_ORDER" "[I" "PackDesk",
  .methodLink "PackDesk$Unpacker" 118 ⟨"PackDesk$Unpacker", "takeSymbol", "(LPackDesk$Row;LPackDesk$Code;)I"⟩,
  .instanceMethod ⟨"PackDesk$Unpacker", "takeSymbol", "(LPackDesk$Row;LPackDesk$Code;)I"⟩,
  .selects "PackDesk$Unpacker" ⟨"PackDesk$Unpacker", "takeSymbol", "(LPackDesk$Row;LPackDesk$Code;)I"⟩ ⟨"PackDesk$Unpacker", "takeSymbol", "(LPackDesk$Row;LPackDesk$Code;)I"⟩,
  .fieldLinkNest "PackDesk$Unpacker" 122 "PackDesk" "REPEAT_BASE" "[I" "PackDesk",
  .fieldLinkNest "PackDesk$Unpacker" 125 "PackDesk" "REPEAT_EXTRA" "[I" "PackDesk",
  .constant "PackDesk$Unpacker" 128 (48000 : Int32),
  .methodLink "PackDesk$Unpacker" 129 ⟨"PackDesk$Unpacker", "readMatch", "(LPackDesk$Row;ILPackDesk$Code;)V"⟩,
  .instanceMethod ⟨"PackDesk$Unpacker", "readMatch", "(LPackDesk$Row;ILPackDesk$Code;)V"⟩,
  .selects "PackDesk$Unpacker" ⟨"PackDesk$Unpacker", "readMatch", "(LPackDesk$Row;ILPackDesk$Code;)V"⟩ ⟨"PackDesk$Unpacker", "readMatch", "(LPackDesk$Row;ILPackDesk$Code;)V"⟩,
  .fieldLinkNest "PackDesk$Unpacker" 133 "PackDesk" "LENGTH_BASE" "[I" "PackDesk",
  .fieldLinkNest "PackDesk$Unpacker" 136 "PackDesk" "LENGTH_EXTRA" "[I" "PackDesk",
  .fieldLinkNest "PackDesk$Unpacker" 139 "PackDesk" "DISTANCE_BASE" "[I" "PackDesk",
  .fieldLinkNest "PackDesk$Unpacker" 142 "PackDesk" "DISTANCE_EXTRA" "[I" "PackDesk",
  .fieldLink "PackDesk$Unpacker" 145 "PackDesk$Row" "bytes" "[I",
  .methodLink "PackDesk$Unpacker" 148 ⟨"PackDesk$Row", "add", "(I)V"⟩,
  .initialized "PackDesk$Row",
  .instanceMethod ⟨"PackDesk$Row", "add", "(I)V"⟩,
  .selects "PackDesk$Row" ⟨"PackDesk$Row", "add", "(I)V"⟩ ⟨"PackDesk$Row", "add", "(I)V"⟩,
  .fieldLink "PackDesk$Unpacker" 151 "PackDesk$Code" "coded" "I",
  .fieldLink "PackDesk$Unpacker" 154 "PackDesk$Code" "counts" "[I",
  .fieldLink "PackDesk$Unpacker" 157 "PackDesk$Code" "inTurn" "[I",
  .methodLink "PackDesk$Unpacker" 160 ⟨"PackDesk$Row", "has", "(I)Z"⟩,
  .instanceMethod ⟨"PackDesk$Row", "has", "(I)Z"⟩,
  .selects "PackDesk$Row" ⟨"PackDesk$Row", "has", "(I)Z"⟩ ⟨"PackDesk$Row", "has", "(I)Z"⟩]
def tz_ps12 : List Nat := [371, 83, 378, 107, 381, 380, 372, 97, 374, 376, 382, 831, 67, 833, 23, 856, 858, 25, 192, 195, 866, 868, 27, 883, 885, 30, 199, 204, 836, 838, 24, 860, 861, 863, 26, 887, 889, 31, 898, 900, 32, 904, 59, 905, 906, 893, 176, 177, 894, 895, 896, 144, 908, 909, 910, 210, 891, 60, 173, 892, 871, 873, 28, 902, 903, 870, 875, 877, 29, 879, 880, 881, 882, 95, 865, 56, 436, 437, 154, 150, 152, 835, 449, 450]
/-- the words of PackDeskLaw, and their places -/
def tz_tb13 : List Cond := [.methodLink "PackDeskLaw" 7 ⟨"PackDesk", "take", "()I"⟩,
  .initialized "PackDesk",
  .instanceMethod ⟨"PackDesk", "take", "()I"⟩,
  .selects "PackDesk" ⟨"PackDesk", "take", "()I"⟩ ⟨"PackDesk", "take", "()I"⟩,
  .methodLink "PackDeskLaw" 15 ⟨"PackDesk", "unpack", "()I"⟩,
  .instanceMethod ⟨"PackDesk", "unpack", "()I"⟩,
  .selects "PackDesk" ⟨"PackDesk", "unpack", "()I"⟩ ⟨"PackDesk", "unpack", "()I"⟩,
  .methodLink "PackDeskLaw" 20 ⟨"PackDesk", "weigh", "(II)V"⟩,
  .instanceMethod ⟨"PackDesk", "weigh", "(II)V"⟩,
  .selects "PackDesk" ⟨"PackDesk", "weigh", "(II)V"⟩ ⟨"PackDesk", "weigh", "(II)V"⟩,
  .methodLink "PackDeskLaw" 26 ⟨"PackDesk", "measure", "(I)I"⟩,
  .instanceMethod ⟨"PackDesk", "measure", "(I)I"⟩,
  .selects "PackDesk" ⟨"PackDesk", "measure", "(I)I"⟩ ⟨"PackDesk", "measure", "(I)I"⟩,
  .classLink "PackDeskLaw" 8 "PackDesk",
  .instantiable "PackDesk" 8,
  .methodLink "PackDeskLaw" 30 ⟨"PackDesk", "<init>", "()V"⟩,
  .instanceMethod ⟨"PackDesk", "<init>", "()V"⟩,
  .classLink "PackDeskLaw" 31 "PackDeskModel",
  .instantiable "PackDeskModel" 70,
  .initialized "PackDeskModel",
  .methodLink "PackDeskLaw" 33 ⟨"PackDeskModel", "<init>", "()V"⟩,
  .instanceMethod ⟨"PackDeskModel", "<init>", "()V"⟩,
  .arrayClass .long,
  .methodLink "PackDeskLaw" 34 ⟨"PackDesk", "feed", "(IIIII)V"⟩,
  .instanceMethod ⟨"PackDesk", "feed", "(IIIII)V"⟩,
  .selects "PackDesk" ⟨"PackDesk", "feed", "(IIIII)V"⟩ ⟨"PackDesk", "feed", "(IIIII)V"⟩,
  .methodLink "PackDeskLaw" 38 ⟨"PackDeskModel", "feed", "(IIIII)V"⟩,
  .instanceMethod ⟨"PackDeskModel", "feed", "(IIIII)V"⟩,
  .selects "PackDeskModel" ⟨"PackDeskModel", "feed", "(IIIII)V"⟩ ⟨"PackDeskModel", "feed", "(IIIII)V"⟩,
  .methodLink "PackDeskLaw" 39 ⟨"PackDesk", "end", "(II)I"⟩,
  .instanceMethod ⟨"PackDesk", "end", "(II)I"⟩,
  .selects "PackDesk" ⟨"PackDesk", "end", "(II)I"⟩ ⟨"PackDesk", "end", "(II)I"⟩,
  .methodLink "PackDeskLaw" 43 ⟨"PackDeskModel", "end", "(II)I"⟩,
  .instanceMethod ⟨"PackDeskModel", "end", "(II)I"⟩,
  .selects "PackDeskModel" ⟨"PackDeskModel", "end", "(II)I"⟩ ⟨"PackDeskModel", "end", "(II)I"⟩,
  .methodLink "PackDeskLaw" 44 ⟨"PackDesk", "cut", "(I)Z"⟩,
  .instanceMethod ⟨"PackDesk", "cut", "(I)Z"⟩,
  .selects "PackDesk" ⟨"PackDesk", "cut", "(I)Z"⟩ ⟨"PackDesk", "cut", "(I)Z"⟩,
  .methodLink "PackDeskLaw" 48 ⟨"PackDeskModel", "cut", "(I)Z"⟩,
  .instanceMethod ⟨"PackDeskModel", "cut", "(I)Z"⟩,
  .selects "PackDeskModel" ⟨"PackDeskModel", "cut", "(I)Z"⟩ ⟨"PackDeskModel", "cut", "(I)Z"⟩,
  .methodLink "PackDeskLaw" 49 ⟨"PackDesk", "flip", "(II)Z"⟩,
  .instanceMethod ⟨"PackDesk", "flip", "(II)Z"⟩,
  .selects "PackDesk" ⟨"PackDesk", "flip", "(II)Z"⟩ ⟨"PackDesk", "flip", "(II)Z"⟩,
  .methodLink "PackDeskLaw" 53 ⟨"PackDeskModel", "flip", "(II)Z"⟩,
  .instanceMethod ⟨"PackDeskModel", "flip", "(II)Z"⟩,
  .selects "PackDeskModel" ⟨"PackDeskModel", "flip", "(II)Z"⟩ ⟨"PackDeskModel", "flip", "(II)Z"⟩,
  .methodLink "PackDeskLaw" 54 ⟨"PackDeskLaw", "take", "(LPackDesk;[J)I"⟩,
  .initialized "PackDeskLaw",
  .static ⟨"PackDeskLaw", "take", "(LPackDesk;[J)I"⟩,
  .methodLink "PackDeskLaw" 59 ⟨"PackDeskModel", "take", "()I"⟩,
  .instanceMethod ⟨"PackDeskModel", "take", "()I"⟩,
  .selects "PackDeskModel" ⟨"PackDeskModel", "take", "()I"⟩ ⟨"PackDeskModel", "take", "()I"⟩,
  .methodLink "PackDeskLaw" 60 ⟨"PackDeskModel", "thrown", "()I"⟩,
  .instanceMethod ⟨"PackDeskModel", "thrown", "()I"⟩,
  .selects "PackDeskModel" ⟨"PackDeskModel", "thrown", "()I"⟩ ⟨"PackDeskModel", "thrown", "()I"⟩,
  .methodLink "PackDeskLaw" 63 ⟨"PackDesk", "crc", "()I"⟩,
  .instanceMethod ⟨"PackDesk", "crc", "()I"⟩,
  .selects "PackDesk" ⟨"PackDesk", "crc", "()I"⟩ ⟨"PackDesk", "crc", "()I"⟩,
  .methodLink "PackDeskLaw" 66 ⟨"PackDeskModel", "crc", "()I"⟩,
  .instanceMethod ⟨"PackDeskModel", "crc", "()I"⟩,
  .selects "PackDeskModel" ⟨"PackDeskModel", "crc", "()I"⟩ ⟨"PackDeskModel", "crc", "()I"⟩,
  .methodLink "PackDeskLaw" 67 ⟨"PackDesk", "pack", "()I"⟩,
  .instanceMethod ⟨"PackDesk", "pack", "()I"⟩,
  .selects "PackDesk" ⟨"PackDesk", "pack", "()I"⟩ ⟨"PackDesk", "pack", "()I"⟩,
  .methodLink "PackDeskLaw" 70 ⟨"PackDeskModel", "pack", "()I"⟩,
  .instanceMethod ⟨"PackDeskModel", "pack", "()I"⟩,
  .selects "PackDeskModel" ⟨"PackDeskModel", "pack", "()I"⟩ ⟨"PackDeskModel", "pack", "()I"⟩,
  .methodLink "PackDeskLaw" 71 ⟨"PackDesk", "parts", "()I"⟩,
  .instanceMethod ⟨"PackDesk", "parts", "()I"⟩,
  .selects "PackDesk" ⟨"PackDesk", "parts", "()I"⟩ ⟨"PackDesk", "parts", "()I"⟩,
  .methodLink "PackDeskLaw" 74 ⟨"PackDeskModel", "parts", "()I"⟩,
  .instanceMethod ⟨"PackDeskModel", "parts", "()I"⟩,
  .selects "PackDeskModel" ⟨"PackDeskModel", "parts", "()I"⟩ ⟨"PackDeskModel", "parts", "()I"⟩,
  .methodLink "PackDeskLaw" 75 ⟨"PackDesk", "part", "(II)I"⟩,
  .instanceMethod ⟨"PackDesk", "part", "(II)I"⟩,
  .selects "PackDesk" ⟨"PackDesk", "part", "(II)I"⟩ ⟨"PackDesk", "part", "(II)I"⟩,
  .methodLink "PackDeskLaw" 78 ⟨"PackDeskModel", "part", "(II)I"⟩,
  .instanceMethod ⟨"PackDeskModel", "part", "(II)I"⟩,
  .selects "PackDeskModel" ⟨"PackDeskModel", "part", "(II)I"⟩ ⟨"PackDeskModel", "part", "(II)I"⟩,
  .methodLink "PackDeskLaw" 79 ⟨"PackDesk", "blocks", "()I"⟩,
  .instanceMethod ⟨"PackDesk", "blocks", "()I"⟩,
  .selects "PackDesk" ⟨"PackDesk", "blocks", "()I"⟩ ⟨"PackDesk", "blocks", "()I"⟩,
  .methodLink "PackDeskLaw" 82 ⟨"PackDeskModel", "blocks", "()I"⟩,
  .instanceMethod ⟨"PackDeskModel", "blocks", "()I"⟩,
  .selects "PackDeskModel" ⟨"PackDeskModel", "blocks", "()I"⟩ ⟨"PackDeskModel", "blocks", "()I"⟩,
  .methodLink "PackDeskLaw" 83 ⟨"PackDesk", "block", "(II)I"⟩,
  .instanceMethod ⟨"PackDesk", "block", "(II)I"⟩,
  .selects "PackDesk" ⟨"PackDesk", "block", "(II)I"⟩ ⟨"PackDesk", "block", "(II)I"⟩,
  .methodLink "PackDeskLaw" 86 ⟨"PackDeskModel", "block", "(II)I"⟩,
  .instanceMethod ⟨"PackDeskModel", "block", "(II)I"⟩,
  .selects "PackDeskModel" ⟨"PackDeskModel", "block", "(II)I"⟩ ⟨"PackDeskModel", "block", "(II)I"⟩,
  .methodLink "PackDeskLaw" 87 ⟨"PackDesk", "code", "(III)I"⟩,
  .instanceMethod ⟨"PackDesk", "code", "(III)I"⟩,
  .selects "PackDesk" ⟨"PackDesk", "code", "(III)I"⟩ ⟨"PackDesk", "code", "(III)I"⟩,
  .methodLink "PackDeskLaw" 91 ⟨"PackDeskModel", "code", "(III)I"⟩,
  .instanceMethod ⟨"PackDeskModel", "code", "(III)I"⟩,
  .selects "PackDeskModel" ⟨"PackDeskModel", "code", "(III)I"⟩ ⟨"PackDeskModel", "code", "(III)I"⟩,
  .methodLink "PackDeskLaw" 92 ⟨"PackDeskLaw", "unpack", "(LPackDesk;[J)I"⟩,
  .static ⟨"PackDeskLaw", "unpack", "(LPackDesk;[J)I"⟩,
  .methodLink "PackDeskLaw" 94 ⟨"PackDeskModel", "unpack", "()I"⟩,
  .instanceMethod ⟨"PackDeskModel", "unpack", "()I"⟩,
  .selects "PackDeskModel" ⟨"PackDeskModel", "unpack", "()I"⟩ ⟨"PackDeskModel", "unpack", "()I"⟩,
  .methodLink "PackDeskLaw" 95 ⟨"PackDesk", "fault", "(I)I"⟩,
  .instanceMethod ⟨"PackDesk", "fault", "(I)I"⟩,
  .selects "PackDesk" ⟨"PackDesk", "fault", "(I)I"⟩ ⟨"PackDesk", "fault", "(I)I"⟩,
  .methodLink "PackDeskLaw" 98 ⟨"PackDeskModel", "fault", "(I)I"⟩,
  .instanceMethod ⟨"PackDeskModel", "fault", "(I)I"⟩,
  .selects "PackDeskModel" ⟨"PackDeskModel", "fault", "(I)I"⟩ ⟨"PackDeskModel", "fault", "(I)I"⟩,
  .methodLink "PackDeskLaw" 99 ⟨"PackDesk", "output", "(I)I"⟩,
  .instanceMethod ⟨"PackDesk", "output", "(I)I"⟩,
  .selects "PackDesk" ⟨"PackDesk", "output", "(I)I"⟩ ⟨"PackDesk", "output", "(I)I"⟩,
  .methodLink "PackDeskLaw" 102 ⟨"PackDeskModel", "output", "(I)I"⟩,
  .instanceMethod ⟨"PackDeskModel", "output", "(I)I"⟩,
  .selects "PackDeskModel" ⟨"PackDeskModel", "output", "(I)I"⟩ ⟨"PackDeskModel", "output", "(I)I"⟩,
  .methodLink "PackDeskLaw" 103 ⟨"PackDeskLaw", "weigh", "(LPackDesk;II)I"⟩,
  .static ⟨"PackDeskLaw", "weigh", "(LPackDesk;II)I"⟩,
  .methodLink "PackDeskLaw" 106 ⟨"PackDeskModel", "weigh", "(II)V"⟩,
  .instanceMethod ⟨"PackDeskModel", "weigh", "(II)V"⟩,
  .selects "PackDeskModel" ⟨"PackDeskModel", "weigh", "(II)V"⟩ ⟨"PackDeskModel", "weigh", "(II)V"⟩,
  .methodLink "PackDeskLaw" 107 ⟨"PackDeskLaw", "measure", "(LPackDesk;I[J)I"⟩,
  .static ⟨"PackDeskLaw", "measure", "(LPackDesk;I[J)I"⟩,
  .methodLink "PackDeskLaw" 110 ⟨"PackDeskModel", "measure", "(I)I"⟩,
  .instanceMethod ⟨"PackDeskModel", "measure", "(I)I"⟩,
  .selects "PackDeskModel" ⟨"PackDeskModel", "measure", "(I)I"⟩ ⟨"PackDeskModel", "measure", "(I)I"⟩,
  .methodLink "PackDeskLaw" 111 ⟨"PackDesk", "length", "(I)I"⟩,
  .instanceMethod ⟨"PackDesk", "length", "(I)I"⟩,
  .selects "PackDesk" ⟨"PackDesk", "length", "(I)I"⟩ ⟨"PackDesk", "length", "(I)I"⟩,
  .methodLink "PackDeskLaw" 114 ⟨"PackDeskModel", "length", "(I)I"⟩,
  .instanceMethod ⟨"PackDeskModel", "length", "(I)I"⟩,
  .selects "PackDeskModel" ⟨"PackDeskModel", "length", "(I)I"⟩ ⟨"PackDeskModel", "length", "(I)I"⟩,
  .methodLink "PackDeskLaw" 115 ⟨"PackDesk", "about", "(I)I"⟩,
  .instanceMethod ⟨"PackDesk", "about", "(I)I"⟩,
  .selects "PackDesk" ⟨"PackDesk", "about", "(I)I"⟩ ⟨"PackDesk", "about", "(I)I"⟩,
  .methodLink "PackDeskLaw" 118 ⟨"PackDeskModel", "about", "(I)I"⟩,
  .instanceMethod ⟨"PackDeskModel", "about", "(I)I"⟩,
  .selects "PackDeskModel" ⟨"PackDeskModel", "about", "(I)I"⟩ ⟨"PackDeskModel", "about", "(I)I"⟩]
def tz_ps13 : List Nat := [742, 55, 743, 744, 818, 819, 820, 916, 917, 918, 943, 944, 945, 77, 78, 79, 80, 955, 956, 68, 957, 958, 127, 423, 424, 425, 1178, 1179, 1180, 431, 432, 433, 1182, 1183, 1184, 440, 441, 442, 1186, 1187, 1188, 444, 445, 446, 1190, 1191, 1192, 738, 54, 739, 1194, 1195, 1196, 1174, 1175, 1176, 452, 453, 454, 1198, 1199, 1200, 458, 459, 460, 1203, 1204, 1205, 689, 690, 691, 1266, 1267, 1268, 693, 694, 695, 1270, 1271, 1272, 700, 701, 702, 1274, 1275, 1276, 704, 705, 706, 1278, 1279, 1280, 709, 710, 711, 1282, 1283, 1284, 814, 815, 1286, 1287, 1288, 722, 723, 724, 1326, 1327, 1328, 726, 727, 728, 1330, 1331, 1332, 912, 913, 1334, 1335, 1336, 940, 941, 1339, 1340, 1341, 730, 731, 732, 1343, 1344, 1345, 734, 735, 736, 1347, 1348, 1349]
/-- the words of java/util/Arrays, and their places -/
def tz_tb14 : List Cond := []
def tz_ps14 : List Nat := []
end
section
/-- PackDesk.<init>()V -/
def cz_0 : List ez_C := [(0, .aload_n 0, 0, 0, 0, 0),
  (1, .invokespecial 3, 0, 1, 0, 0),
  (4, .aload_n 0, 0, 0, 0, 0),
  (5, .new 9, 12, 2, 0, 0),
  (8, .dup, 0, 0, 0, 0),
  (9, .invokespecial 11, 128, 1, 12, 0),
  (12, .putfield 12, 1, 0, 3, 0),
  (15, .aload_n 0, 0, 0, 0, 0),
  (16, .new 9, 12, 2, 0, 0),
  (19, .dup, 0, 0, 0, 0),
  (20, .invokespecial 11, 128, 1, 12, 0),
  (23, .putfield 16, 1, 1, 3, 0),
  (26, .aload_n 0, 0, 0, 0, 0),
  (27, .bipush (20), 0, 0, 0, 20),
  (29, .newarray .int, 1000, 0, 0, 0),
  (31, .putfield 19, 1, 2, 3, 0),
  (34, .aload_n 0, 0, 0, 0, 0),
  (35, .bipush (64), 0, 0, 0, 64),
  (37, .newarray .int, 1000, 0, 0, 0),
  (39, .putfield 23, 1, 3, 3, 0),
  (42, .aload_n 0, 0, 0, 0, 0),
  (43, .bipush (64), 0, 0, 0, 64),
  (45, .newarray .int, 1000, 0, 0, 0),
  (47, .putfield 26, 1, 4, 3, 0),
  (50, .new 29, 8, 4, 0, 0),
  (53, .dup, 0, 0, 0, 0),
  (54, .invokespecial 31, 101, 1, 8, 0),
  (57, .astore_n 1, 0, 0, 0, 0),
  (58, .new 32, 7, 5, 0, 0),
  (61, .dup, 0, 0, 0, 0),
  (62, .invokespecial 34, 100, 1, 7, 0),
  (65, .astore_n 2, 0, 0, 0, 0),
  (66, .new 9, 12, 2, 0, 0),
  (69, .dup, 0, 0, 0, 0),
  (70, .invokespecial 11, 128, 1, 12, 0),
  (73, .astore_n 3, 0, 0, 0, 0),
  (74, .aload_n 0, 0, 0, 0, 0),
  (75, .aload_n 1, 0, 0, 0, 0),
  (76, .putfield 35, 1, 5, 3, 0),
  (79, .aload_n 0, 0, 0, 0, 0),
  (80, .new 39, 10, 12, 0, 0),
  (83, .dup, 0, 0, 0, 0),
  (84, .aload_n 2, 0, 0, 0, 0),
  (85, .aload_n 3, 0, 0, 0, 0),
  (86, .aload_n 1, 0, 0, 0, 0),
  (87, .invokespecial 41, 114, 4, 10, 0),
  (90, .putfield 44, 1, 6, 3, 0),
  (93, .aload_n 0, 0, 0, 0, 0),
  (94, .new 48, 13, 7, 0, 0),
  (97, .dup, 0, 0, 0, 0),
  (98, .aload_n 2, 0, 0, 0, 0),
  (99, .aload_n 3, 0, 0, 0, 0),
  (100, .invokespecial 50, 132, 3, 13, 0),
  (103, .putfield 53, 1, 7, 3, 0),
  (106, .return_, 0, 0, 0, 0)]
/-- PackDesk.feed(IIIII)V -/
def cz_1 : List ez_C := [(0, .aload_n 0, 0, 0, 0, 0),
  (1, .iconst (0), 0, 0, 0, 0),
  (2, .iload_n 1, 0, 0, 0, 0),
  (3, .invokevirtual 57, 20, 3, 1, 0),
  (6, .aload_n 0, 0, 0, 0, 0),
  (7, .iconst (4), 0, 0, 0, 4),
  (8, .iload_n 2, 0, 0, 0, 0),
  (9, .invokevirtual 57, 20, 3, 1, 0),
  (12, .aload_n 0, 0, 0, 0, 0),
  (13, .bipush (8), 0, 0, 0, 8),
  (15, .iload_n 3, 0, 0, 0, 0),
  (16, .invokevirtual 57, 20, 3, 1, 0),
  (19, .aload_n 0, 0, 0, 0, 0),
  (20, .bipush (12), 0, 0, 0, 12),
  (22, .iload 4, 0, 0, 0, 0),
  (24, .invokevirtual 57, 20, 3, 1, 0),
  (27, .aload_n 0, 0, 0, 0, 0),
  (28, .bipush (16), 0, 0, 0, 16),
  (30, .iload 5, 0, 0, 0, 0),
  (32, .invokevirtual 57, 20, 3, 1, 0),
  (35, .return_, 0, 0, 0, 0)]
/-- PackDesk.end(II)I -/
def cz_2 : List ez_C := [(0, .iload_n 1, 0, 0, 0, 0),
  (1, .ifCond .lt (37), 38, 0, 0, 0),
  (4, .iload_n 1, 0, 0, 0, 0),
  (5, .bipush (20), 0, 0, 0, 20),
  (7, .if_icmp .gt (31), 38, 0, 0, 0),
  (10, .iload_n 2, 0, 0, 0, 0),
  (11, .iconst (1), 0, 0, 0, 1),
  (12, .if_icmp .lt (26), 38, 0, 0, 0),
  (15, .iload_n 2, 0, 0, 0, 0),
  (16, .bipush (100), 0, 0, 0, 100),
  (18, .if_icmp .gt (20), 38, 0, 0, 0),
  (21, .aload_n 0, 0, 0, 0, 0),
  (22, .getfield 12, 1, 0, 3, 0),
  (25, .getfield 61, 12, 1, 0, 0),
  (28, .iload_n 1, 0, 0, 0, 0),
  (29, .iload_n 2, 0, 0, 0, 0),
  (30, .imul, 0, 0, 0, 0),
  (31, .iadd, 0, 0, 0, 0),
  (32, .sipush (6000), 0, 0, 0, 6000),
  (35, .if_icmp .le (5), 40, 0, 0, 0),
  (38, .iconst (-1), 0, 0, 0, (-1)),
  (39, .ireturn, 0, 0, 0, 0),
  (40, .iconst (0), 0, 0, 0, 0),
  (41, .istore_n 3, 0, 0, 0, 0),
  (42, .iload_n 3, 0, 0, 0, 0),
  (43, .iload_n 2, 0, 0, 0, 0),
  (44, .if_icmp .ge (38), 82, 0, 0, 0),
  (47, .iconst (0), 0, 0, 0, 0),
  (48, .istore 4, 0, 0, 0, 0),
  (50, .iload 4, 0, 0, 0, 0),
  (52, .iload_n 1, 0, 0, 0, 0),
  (53, .if_icmp .ge (23), 76, 0, 0, 0),
  (56, .aload_n 0, 0, 0, 0, 0),
  (57, .getfield 12, 1, 0, 3, 0),
  (60, .aload_n 0, 0, 0, 0, 0),
  (61, .getfield 19, 1, 2, 3, 0),
  (64, .iload 4, 0, 0, 0, 0),
  (66, .iaload, 0, 0, 0, 0),
  (67, .invokevirtual 65, 130, 2, 12, 0),
  (70, .iinc 4 (1), 0, 0, 0, 1),
  (73, .goto (-23), 50, 0, 0, 0),
  (76, .iinc 3 (1), 0, 0, 0, 1),
  (79, .goto (-37), 42, 0, 0, 0),
  (82, .aload_n 0, 0, 0, 0, 0),
  (83, .getfield 19, 1, 2, 3, 0),
  (86, .iconst (0), 0, 0, 0, 0),
  (87, .invokestatic 69, 149, 2, 0, 0),
  (90, .aload_n 0, 0, 0, 0, 0),
  (91, .getfield 12, 1, 0, 3, 0),
  (94, .getfield 61, 12, 1, 0, 0),
  (97, .ireturn, 0, 0, 0, 0)]
/-- PackDesk.cut(I)Z -/
def cz_3 : List ez_C := [(0, .iload_n 1, 0, 0, 0, 0),
  (1, .ifCond .lt (14), 15, 0, 0, 0),
  (4, .iload_n 1, 0, 0, 0, 0),
  (5, .aload_n 0, 0, 0, 0, 0),
  (6, .getfield 12, 1, 0, 3, 0),
  (9, .getfield 61, 12, 1, 0, 0),
  (12, .if_icmp .le (5), 17, 0, 0, 0),
  (15, .iconst (0), 0, 0, 0, 0),
  (16, .ireturn, 1, 0, 0, 0),
  (17, .aload_n 0, 0, 0, 0, 0),
  (18, .getfield 12, 1, 0, 3, 0),
  (21, .iload_n 1, 0, 0, 0, 0),
  (22, .putfield 61, 12, 1, 0, 0),
  (25, .iconst (1), 0, 0, 0, 1),
  (26, .ireturn, 1, 0, 0, 0)]
/-- PackDesk.flip(II)Z -/
def cz_4 : List ez_C := [(0, .aload_n 0, 0, 0, 0, 0),
  (1, .getfield 12, 1, 0, 3, 0),
  (4, .iload_n 1, 0, 0, 0, 0),
  (5, .invokevirtual 75, 129, 2, 12, 0),
  (8, .ifCond .eq (13), 21, 0, 0, 0),
  (11, .iload_n 2, 0, 0, 0, 0),
  (12, .ifCond .lt (9), 21, 0, 0, 0),
  (15, .iload_n 2, 0, 0, 0, 0),
  (16, .bipush (7), 0, 0, 0, 7),
  (18, .if_icmp .le (5), 23, 0, 0, 0),
  (21, .iconst (0), 0, 0, 0, 0),
  (22, .ireturn, 1, 0, 0, 0),
  (23, .aload_n 0, 0, 0, 0, 0),
  (24, .getfield 12, 1, 0, 3, 0),
  (27, .getfield 79, 12, 0, 3, 0),
  (30, .iload_n 1, 0, 0, 0, 0),
  (31, .dup2, 0, 0, 0, 0),
  (32, .iaload, 0, 0, 0, 0),
  (33, .iconst (1), 0, 0, 0, 1),
  (34, .iload_n 2, 0, 0, 0, 0),
  (35, .ishl, 0, 0, 0, 0),
  (36, .ixor, 0, 0, 0, 0),
  (37, .iastore, 0, 0, 0, 0),
  (38, .iconst (1), 0, 0, 0, 1),
  (39, .ireturn, 1, 0, 0, 0)]
/-- PackDesk.take()I -/
def cz_5 : List ez_C := [(0, .aload_n 0, 0, 0, 0, 0),
  (1, .getfield 16, 1, 1, 3, 0),
  (4, .getfield 61, 12, 1, 0, 0),
  (7, .sipush (6000), 0, 0, 0, 6000),
  (10, .if_icmp .le (13), 23, 0, 0, 0),
  (13, .athrow, 1, 0, 0, 0),
  (23, .aload_n 0, 0, 0, 0, 0),
  (24, .getfield 12, 1, 0, 3, 0),
  (27, .aload_n 0, 0, 0, 0, 0),
  (28, .getfield 16, 1, 1, 3, 0),
  (31, .invokevirtual 89, 131, 2, 12, 0),
  (34, .aload_n 0, 0, 0, 0, 0),
  (35, .getfield 12, 1, 0, 3, 0),
  (38, .getfield 61, 12, 1, 0, 0),
  (41, .ireturn, 0, 0, 0, 0)]
/-- PackDesk.crc()I -/
def cz_6 : List ez_C := [(0, .iconst (-1), 0, 0, 0, (-1)),
  (1, .istore_n 1, 0, 0, 0, 0),
  (2, .iconst (0), 0, 0, 0, 0),
  (3, .istore_n 2, 0, 0, 0, 0),
  (4, .iload_n 2, 0, 0, 0, 0),
  (5, .aload_n 0, 0, 0, 0, 0),
  (6, .getfield 12, 1, 0, 3, 0),
  (9, .getfield 61, 12, 1, 0, 0),
  (12, .if_icmp .ge (47), 59, 0, 0, 0),
  (15, .iload_n 1, 0, 0, 0, 0),
  (16, .aload_n 0, 0, 0, 0, 0),
  (17, .getfield 12, 1, 0, 3, 0),
  (20, .getfield 79, 12, 0, 3, 0),
  (23, .iload_n 2, 0, 0, 0, 0),
  (24, .iaload, 0, 0, 0, 0),
  (25, .ixor, 0, 0, 0, 0),
  (26, .istore_n 1, 0, 0, 0, 0),
  (27, .iload_n 1, 0, 0, 0, 0),
  (28, .iconst (4), 0, 0, 0, 4),
  (29, .iushr, 0, 0, 0, 0),
  (30, .getstatic 93, 1, 0, 0, 0),
  (33, .iload_n 1, 0, 0, 0, 0),
  (34, .bipush (15), 0, 0, 0, 15),
  (36, .iand, 0, 0, 0, 0),
  (37, .iaload, 0, 0, 0, 0),
  (38, .ixor, 0, 0, 0, 0),
  (39, .istore_n 1, 0, 0, 0, 0),
  (40, .iload_n 1, 0, 0, 0, 0),
  (41, .iconst (4), 0, 0, 0, 4),
  (42, .iushr, 0, 0, 0, 0),
  (43, .getstatic 93, 1, 0, 0, 0),
  (46, .iload_n 1, 0, 0, 0, 0),
  (47, .bipush (15), 0, 0, 0, 15),
  (49, .iand, 0, 0, 0, 0),
  (50, .iaload, 0, 0, 0, 0),
  (51, .ixor, 0, 0, 0, 0),
  (52, .istore_n 1, 0, 0, 0, 0),
  (53, .iinc 2 (1), 0, 0, 0, 1),
  (56, .goto (-52), 4, 0, 0, 0),
  (59, .iload_n 1, 0, 0, 0, 0),
  (60, .iconst (-1), 0, 0, 0, (-1)),
  (61, .ixor, 0, 0, 0, 0),
  (62, .ireturn, 0, 0, 0, 0)]
/-- PackDesk.pack()I -/
def cz_7 : List ez_C := [(0, .aload_n 0, 0, 0, 0, 0),
  (1, .getfield 44, 1, 6, 3, 0),
  (4, .aload_n 0, 0, 0, 0, 0),
  (5, .getfield 12, 1, 0, 3, 0),
  (8, .invokevirtual 96, 115, 2, 10, 0),
  (11, .aload_n 0, 0, 0, 0, 0),
  (12, .getfield 16, 1, 1, 3, 0),
  (15, .aload_n 0, 0, 0, 0, 0),
  (16, .getfield 44, 1, 6, 3, 0),
  (19, .getfield 99, 10, 0, 3, 0),
  (22, .invokevirtual 89, 131, 2, 12, 0),
  (25, .aload_n 0, 0, 0, 0, 0),
  (26, .getfield 16, 1, 1, 3, 0),
  (29, .getfield 61, 12, 1, 0, 0),
  (32, .ireturn, 0, 0, 0, 0)]
/-- PackDesk.parts()I -/
def cz_8 : List ez_C := [(0, .aload_n 0, 0, 0, 0, 0),
  (1, .getfield 44, 1, 6, 3, 0),
  (4, .getfield 102, 10, 1, 3, 0),
  (7, .getfield 106, 11, 1, 0, 0),
  (10, .ireturn, 0, 0, 0, 0)]
/-- PackDesk.part(II)I -/
def cz_9 : List ez_C := [(0, .aload_n 0, 0, 0, 0, 0),
  (1, .getfield 44, 1, 6, 3, 0),
  (4, .getfield 102, 10, 1, 3, 0),
  (7, .astore_n 3, 0, 0, 0, 0),
  (8, .aload_n 3, 0, 0, 0, 0),
  (9, .iload_n 1, 0, 0, 0, 0),
  (10, .invokevirtual 111, 124, 2, 11, 0),
  (13, .ifCond .ne (5), 18, 0, 0, 0),
  (16, .iconst (-1), 0, 0, 0, (-1)),
  (17, .ireturn, 0, 0, 0, 0),
  (18, .iload_n 2, 0, 0, 0, 0),
  (19, .tableswitch (43) (0) (2) #[25, 31, 37], 0, 0, 0, 0),
  (44, .aload_n 3, 0, 0, 0, 0),
  (45, .iload_n 1, 0, 0, 0, 0),
  (46, .invokevirtual 112, 126, 2, 11, 0),
  (49, .ireturn, 0, 0, 0, 0),
  (50, .aload_n 3, 0, 0, 0, 0),
  (51, .iload_n 1, 0, 0, 0, 0),
  (52, .invokevirtual 116, 127, 2, 11, 0),
  (55, .ireturn, 0, 0, 0, 0),
  (56, .iload_n 1, 0, 0, 0, 0),
  (57, .sipush (600), 0, 0, 0, 600),
  (60, .idiv, 0, 0, 0, 0),
  (61, .ireturn, 0, 0, 0, 0),
  (62, .iconst (-1), 0, 0, 0, (-1)),
  (63, .ireturn, 0, 0, 0, 0)]
/-- PackDesk.blocks()I -/
def cz_10 : List ez_C := [(0, .aload_n 0, 0, 0, 0, 0),
  (1, .getfield 44, 1, 6, 3, 0),
  (4, .getfield 121, 10, 2, 3, 0),
  (7, .getfield 125, 4, 2, 0, 0),
  (10, .ireturn, 0, 0, 0, 0)]
/-- PackDesk.block(II)I -/
def cz_11 : List ez_C := [(0, .aload_n 0, 0, 0, 0, 0),
  (1, .getfield 44, 1, 6, 3, 0),
  (4, .getfield 121, 10, 2, 3, 0),
  (7, .iload_n 1, 0, 0, 0, 0),
  (8, .iload_n 2, 0, 0, 0, 0),
  (9, .invokevirtual 126, 77, 3, 4, 0),
  (12, .ireturn, 0, 0, 0, 0)]
/-- PackDesk.code(III)I -/
def cz_12 : List ez_C := [(0, .aload_n 0, 0, 0, 0, 0),
  (1, .getfield 44, 1, 6, 3, 0),
  (4, .getfield 121, 10, 2, 3, 0),
  (7, .iload_n 1, 0, 0, 0, 0),
  (8, .iload_n 2, 0, 0, 0, 0),
  (9, .iload_n 3, 0, 0, 0, 0),
  (10, .invokevirtual 130, 79, 4, 4, 0),
  (13, .ireturn, 0, 0, 0, 0)]
/-- PackDesk.unpack()I -/
def cz_13 : List ez_C := [(0, .aload_n 0, 0, 0, 0, 0),
  (1, .getfield 53, 1, 7, 3, 0),
  (4, .invokevirtual 134, 133, 1, 13, 0),
  (7, .iconst (0), 0, 0, 0, 0),
  (8, .istore_n 1, 0, 0, 0, 0),
  (9, .iload_n 1, 0, 0, 0, 0),
  (10, .ldc 137, 0, 0, 0, 48000),
  (12, .if_icmp .gt (30), 42, 0, 0, 0),
  (15, .aload_n 0, 0, 0, 0, 0),
  (16, .getfield 53, 1, 7, 3, 0),
  (19, .getfield 138, 13, 1, 1, 0),
  (22, .ifCond .ne (20), 42, 0, 0, 0),
  (25, .aload_n 0, 0, 0, 0, 0),
  (26, .getfield 53, 1, 7, 3, 0),
  (29, .aload_n 0, 0, 0, 0, 0),
  (30, .getfield 12, 1, 0, 3, 0),
  (33, .invokevirtual 142, 134, 2, 13, 0),
  (36, .iinc 1 (1), 0, 0, 0, 1),
  (39, .goto (-30), 9, 0, 0, 0),
  (42, .aload_n 0, 0, 0, 0, 0),
  (43, .getfield 16, 1, 1, 3, 0),
  (46, .aload_n 0, 0, 0, 0, 0),
  (47, .getfield 53, 1, 7, 3, 0),
  (50, .getfield 145, 13, 0, 3, 0),
  (53, .invokevirtual 89, 131, 2, 12, 0),
  (56, .aload_n 0, 0, 0, 0, 0),
  (57, .getfield 16, 1, 1, 3, 0),
  (60, .getfield 61, 12, 1, 0, 0),
  (63, .ireturn, 0, 0, 0, 0)]
/-- PackDesk.fault(I)I -/
def cz_14 : List ez_C := [(0, .iload_n 1, 0, 0, 0, 0),
  (1, .lookupswitch (43) #[(0, 27), (1, 35)], 0, 0, 0, 0),
  (28, .aload_n 0, 0, 0, 0, 0),
  (29, .getfield 53, 1, 7, 3, 0),
  (32, .getfield 146, 13, 2, 0, 0),
  (35, .ireturn, 0, 0, 0, 0),
  (36, .aload_n 0, 0, 0, 0, 0),
  (37, .getfield 53, 1, 7, 3, 0),
  (40, .getfield 149, 13, 3, 0, 0),
  (43, .ireturn, 0, 0, 0, 0),
  (44, .iconst (-1), 0, 0, 0, (-1)),
  (45, .ireturn, 0, 0, 0, 0)]
/-- PackDesk.output(I)I -/
def cz_15 : List ez_C := [(0, .aload_n 0, 0, 0, 0, 0),
  (1, .getfield 16, 1, 1, 3, 0),
  (4, .iload_n 1, 0, 0, 0, 0),
  (5, .invokevirtual 75, 129, 2, 12, 0),
  (8, .ifCond .eq (15), 23, 0, 0, 0),
  (11, .aload_n 0, 0, 0, 0, 0),
  (12, .getfield 16, 1, 1, 3, 0),
  (15, .getfield 79, 12, 0, 3, 0),
  (18, .iload_n 1, 0, 0, 0, 0),
  (19, .iaload, 0, 0, 0, 0),
  (20, .goto (4), 24, 0, 0, 0),
  (23, .iconst (-1), 0, 0, 0, (-1)),
  (24, .ireturn, 0, 0, 0, 0)]
/-- PackDesk.weigh(II)V -/
def cz_16 : List ez_C := [(0, .iload_n 1, 0, 0, 0, 0),
  (1, .ifCond .lt (9), 10, 0, 0, 0),
  (4, .iload_n 1, 0, 0, 0, 0),
  (5, .bipush (64), 0, 0, 0, 64),
  (7, .if_icmp .lt (13), 20, 0, 0, 0),
  (10, .athrow, 3, 0, 0, 0),
  (20, .iload_n 2, 0, 0, 0, 0),
  (21, .ifCond .lt (9), 30, 0, 0, 0),
  (24, .iload_n 2, 0, 0, 0, 0),
  (25, .ldc 157, 0, 0, 0, 1000000),
  (27, .if_icmp .le (13), 40, 0, 0, 0),
  (30, .athrow, 2, 0, 0, 0),
  (40, .aload_n 0, 0, 0, 0, 0),
  (41, .getfield 23, 1, 3, 3, 0),
  (44, .iload_n 1, 0, 0, 0, 0),
  (45, .iload_n 2, 0, 0, 0, 0),
  (46, .iastore, 0, 0, 0, 0),
  (47, .return_, 0, 0, 0, 0)]
/-- PackDesk.measure(I)I -/
def cz_17 : List ez_C := [(0, .iload_n 1, 0, 0, 0, 0),
  (1, .iconst (1), 0, 0, 0, 1),
  (2, .if_icmp .lt (9), 11, 0, 0, 0),
  (5, .iload_n 1, 0, 0, 0, 0),
  (6, .bipush (15), 0, 0, 0, 15),
  (8, .if_icmp .le (13), 21, 0, 0, 0),
  (11, .athrow, 2, 0, 0, 0),
  (21, .aload_n 0, 0, 0, 0, 0),
  (22, .invokevirtual 165, 21, 1, 1, 0),
  (25, .iconst (1), 0, 0, 0, 1),
  (26, .iload_n 1, 0, 0, 0, 0),
  (27, .ishl, 0, 0, 0, 0),
  (28, .if_icmp .le (13), 41, 0, 0, 0),
  (31, .athrow, 1, 0, 0, 0),
  (41, .aload_n 0, 0, 0, 0, 0),
  (42, .getfield 35, 1, 5, 3, 0),
  (45, .aload_n 0, 0, 0, 0, 0),
  (46, .getfield 23, 1, 3, 3, 0),
  (49, .bipush (64), 0, 0, 0, 64),
  (51, .iload_n 1, 0, 0, 0, 0),
  (52, .aload_n 0, 0, 0, 0, 0),
  (53, .getfield 26, 1, 4, 3, 0),
  (56, .invokevirtual 171, 102, 5, 8, 0),
  (59, .aload_n 0, 0, 0, 0, 0),
  (60, .getfield 23, 1, 3, 3, 0),
  (63, .aload_n 0, 0, 0, 0, 0),
  (64, .getfield 26, 1, 4, 3, 0),
  (67, .bipush (64), 0, 0, 0, 64),
  (69, .invokestatic 175, 22, 3, 0, 0),
  (72, .ireturn, 0, 0, 0, 0)]
/-- PackDesk.length(I)I -/
def cz_18 : List ez_C := [(0, .iload_n 1, 0, 0, 0, 0),
  (1, .ifCond .lt (18), 19, 0, 0, 0),
  (4, .iload_n 1, 0, 0, 0, 0),
  (5, .bipush (64), 0, 0, 0, 64),
  (7, .if_icmp .ge (12), 19, 0, 0, 0),
  (10, .aload_n 0, 0, 0, 0, 0),
  (11, .getfield 26, 1, 4, 3, 0),
  (14, .iload_n 1, 0, 0, 0, 0),
  (15, .iaload, 0, 0, 0, 0),
  (16, .goto (4), 20, 0, 0, 0),
  (19, .iconst (-1), 0, 0, 0, (-1)),
  (20, .ireturn, 0, 0, 0, 0)]
/-- PackDesk.about(I)I -/
def cz_19 : List ez_C := [(0, .iload_n 1, 0, 0, 0, 0),
  (1, .lookupswitch (43) #[(0, 27), (1, 35)], 0, 0, 0, 0),
  (28, .aload_n 0, 0, 0, 0, 0),
  (29, .getfield 12, 1, 0, 3, 0),
  (32, .getfield 61, 12, 1, 0, 0),
  (35, .ireturn, 0, 0, 0, 0),
  (36, .aload_n 0, 0, 0, 0, 0),
  (37, .getfield 16, 1, 1, 3, 0),
  (40, .getfield 61, 12, 1, 0, 0),
  (43, .ireturn, 0, 0, 0, 0),
  (44, .iconst (-1), 0, 0, 0, (-1)),
  (45, .ireturn, 0, 0, 0, 0)]
/-- PackDesk.putReady(II)V -/
def cz_20 : List ez_C := [(0, .iconst (0), 0, 0, 0, 0),
  (1, .istore_n 3, 0, 0, 0, 0),
  (2, .iload_n 3, 0, 0, 0, 0),
  (3, .iconst (4), 0, 0, 0, 4),
  (4, .if_icmp .ge (38), 42, 0, 0, 0),
  (7, .iload_n 1, 0, 0, 0, 0),
  (8, .iload_n 3, 0, 0, 0, 0),
  (9, .iadd, 0, 0, 0, 0),
  (10, .bipush (20), 0, 0, 0, 20),
  (12, .if_icmp .ge (30), 42, 0, 0, 0),
  (15, .aload_n 0, 0, 0, 0, 0),
  (16, .getfield 19, 1, 2, 3, 0),
  (19, .iload_n 1, 0, 0, 0, 0),
  (20, .iload_n 3, 0, 0, 0, 0),
  (21, .iadd, 0, 0, 0, 0),
  (22, .iload_n 2, 0, 0, 0, 0),
  (23, .bipush (24), 0, 0, 0, 24),
  (25, .bipush (8), 0, 0, 0, 8),
  (27, .iload_n 3, 0, 0, 0, 0),
  (28, .imul, 0, 0, 0, 0),
  (29, .isub, 0, 0, 0, 0),
  (30, .iushr, 0, 0, 0, 0),
  (31, .sipush (255), 0, 0, 0, 255),
  (34, .iand, 0, 0, 0, 0),
  (35, .iastore, 0, 0, 0, 0),
  (36, .iinc 3 (1), 0, 0, 0, 1),
  (39, .goto (-37), 2, 0, 0, 0),
  (42, .return_, 0, 0, 0, 0)]
/-- PackDesk.weighedSymbols()I -/
def cz_21 : List ez_C := [(0, .iconst (0), 0, 0, 0, 0),
  (1, .istore_n 1, 0, 0, 0, 0),
  (2, .iconst (0), 0, 0, 0, 0),
  (3, .istore_n 2, 0, 0, 0, 0),
  (4, .iload_n 2, 0, 0, 0, 0),
  (5, .bipush (64), 0, 0, 0, 64),
  (7, .if_icmp .ge (21), 28, 0, 0, 0),
  (10, .aload_n 0, 0, 0, 0, 0),
  (11, .getfield 23, 1, 3, 3, 0),
  (14, .iload_n 2, 0, 0, 0, 0),
  (15, .iaload, 0, 0, 0, 0),
  (16, .ifCond .le (6), 22, 0, 0, 0),
  (19, .iinc 1 (1), 0, 0, 0, 1),
  (22, .iinc 2 (1), 0, 0, 0, 1),
  (25, .goto (-21), 4, 0, 0, 0),
  (28, .iload_n 1, 0, 0, 0, 0),
  (29, .ireturn, 0, 0, 0, 0)]
/-- PackDesk.weightedSum([I[II)I -/
def cz_22 : List ez_C := [(0, .iconst (0), 0, 0, 0, 0),
  (1, .istore_n 3, 0, 0, 0, 0),
  (2, .iconst (0), 0, 0, 0, 0),
  (3, .istore 4, 0, 0, 0, 0),
  (5, .iload 4, 0, 0, 0, 0),
  (7, .iload_n 2, 0, 0, 0, 0),
  (8, .if_icmp .ge (35), 43, 0, 0, 0),
  (11, .iload 4, 0, 0, 0, 0),
  (13, .aload_n 0, 0, 0, 0, 0),
  (14, .arraylength, 0, 0, 0, 0),
  (15, .if_icmp .ge (28), 43, 0, 0, 0),
  (18, .iload 4, 0, 0, 0, 0),
  (20, .aload_n 1, 0, 0, 0, 0),
  (21, .arraylength, 0, 0, 0, 0),
  (22, .if_icmp .ge (21), 43, 0, 0, 0),
  (25, .iload_n 3, 0, 0, 0, 0),
  (26, .aload_n 0, 0, 0, 0, 0),
  (27, .iload 4, 0, 0, 0, 0),
  (29, .iaload, 0, 0, 0, 0),
  (30, .aload_n 1, 0, 0, 0, 0),
  (31, .iload 4, 0, 0, 0, 0),
  (33, .iaload, 0, 0, 0, 0),
  (34, .imul, 0, 0, 0, 0),
  (35, .iadd, 0, 0, 0, 0),
  (36, .istore_n 3, 0, 0, 0, 0),
  (37, .iinc 4 (1), 0, 0, 0, 1),
  (40, .goto (-35), 5, 0, 0, 0),
  (43, .iload_n 3, 0, 0, 0, 0),
  (44, .ireturn, 0, 0, 0, 0)]
/-- PackDesk.kindOf([II)I -/
def cz_23 : List ez_C := [(0, .iconst (0), 0, 0, 0, 0),
  (1, .istore_n 2, 0, 0, 0, 0),
  (2, .bipush (16), 0, 0, 0, 16),
  (4, .istore_n 3, 0, 0, 0, 0),
  (5, .iload_n 3, 0, 0, 0, 0),
  (6, .ifCond .le (31), 37, 0, 0, 0),
  (9, .iload_n 2, 0, 0, 0, 0),
  (10, .iload_n 3, 0, 0, 0, 0),
  (11, .iadd, 0, 0, 0, 0),
  (12, .aload_n 0, 0, 0, 0, 0),
  (13, .arraylength, 0, 0, 0, 0),
  (14, .if_icmp .ge (16), 30, 0, 0, 0),
  (17, .aload_n 0, 0, 0, 0, 0),
  (18, .iload_n 2, 0, 0, 0, 0),
  (19, .iload_n 3, 0, 0, 0, 0),
  (20, .iadd, 0, 0, 0, 0),
  (21, .iaload, 0, 0, 0, 0),
  (22, .iload_n 1, 0, 0, 0, 0),
  (23, .if_icmp .gt (7), 30, 0, 0, 0),
  (26, .iload_n 2, 0, 0, 0, 0),
  (27, .iload_n 3, 0, 0, 0, 0),
  (28, .iadd, 0, 0, 0, 0),
  (29, .istore_n 2, 0, 0, 0, 0),
  (30, .iload_n 3, 0, 0, 0, 0),
  (31, .iconst (1), 0, 0, 0, 1),
  (32, .ishr, 0, 0, 0, 0),
  (33, .istore_n 3, 0, 0, 0, 0),
  (34, .goto (-29), 5, 0, 0, 0),
  (37, .iload_n 2, 0, 0, 0, 0),
  (38, .ireturn, 0, 0, 0, 0)]
/-- PackDeskModel.<init>()V -/
def cz_24 : List ez_C := [(0, .aload_n 0, 0, 0, 0, 0),
  (1, .invokespecial 1, 0, 1, 0, 0),
  (4, .aload_n 0, 0, 0, 0, 0),
  (5, .sipush (6000), 0, 0, 0, 6000),
  (8, .newarray .byte, 1003, 0, 0, 0),
  (10, .putfield 7, 2, 1, 3, 0),
  (13, .aload_n 0, 0, 0, 0, 0),
  (14, .sipush (6200), 0, 0, 0, 6200),
  (17, .newarray .byte, 1003, 0, 0, 0),
  (19, .putfield 13, 2, 2, 3, 0),
  (22, .aload_n 0, 0, 0, 0, 0),
  (23, .bipush (20), 0, 0, 0, 20),
  (25, .newarray .byte, 1003, 0, 0, 0),
  (27, .putfield 16, 2, 3, 3, 0),
  (30, .aload_n 0, 0, 0, 0, 0),
  (31, .sipush (8000), 0, 0, 0, 8000),
  (34, .newarray .byte, 1003, 0, 0, 0),
  (36, .putfield 19, 2, 4, 3, 0),
  (39, .aload_n 0, 0, 0, 0, 0),
  (40, .sipush (6000), 0, 0, 0, 6000),
  (43, .newarray .byte, 1003, 0, 0, 0),
  (45, .putfield 22, 2, 5, 3, 0),
  (48, .aload_n 0, 0, 0, 0, 0),
  (49, .sipush (6000), 0, 0, 0, 6000),
  (52, .newarray .int, 1000, 0, 0, 0),
  (54, .putfield 25, 2, 8, 3, 0),
  (57, .aload_n 0, 0, 0, 0, 0),
  (58, .sipush (6000), 0, 0, 0, 6000),
  (61, .newarray .int, 1000, 0, 0, 0),
  (63, .putfield 29, 2, 9, 3, 0),
  (66, .aload_n 0, 0, 0, 0, 0),
  (67, .sipush (6000), 0, 0, 0, 6000),
  (70, .newarray .int, 1000, 0, 0, 0),
  (72, .putfield 32, 2, 10, 3, 0),
  (75, .aload_n 0, 0, 0, 0, 0),
  (76, .sipush (6000), 0, 0, 0, 6000),
  (79, .newarray .int, 1000, 0, 0, 0),
  (81, .putfield 35, 2, 11, 3, 0),
  (84, .aload_n 0, 0, 0, 0, 0),
  (85, .sipush (6000), 0, 0, 0, 6000),
  (88, .newarray .int, 1000, 0, 0, 0),
  (90, .putfield 38, 2, 12, 3, 0),
  (93, .aload_n 0, 0, 0, 0, 0),
  (94, .ldc 41, 0, 0, 0, 65536),
  (96, .newarray .int, 1000, 0, 0, 0),
  (98, .putfield 42, 2, 13, 3, 0),
  (101, .aload_n 0, 0, 0, 0, 0),
  (102, .bipush (12), 0, 0, 0, 12),
  (104, .newarray .int, 1000, 0, 0, 0),
  (106, .putfield 45, 2, 19, 3, 0),
  (109, .aload_n 0, 0, 0, 0, 0),
  (110, .bipush (12), 0, 0, 0, 12),
  (112, .newarray .int, 1000, 0, 0, 0),
  (114, .putfield 48, 2, 20, 3, 0),
  (117, .aload_n 0, 0, 0, 0, 0),
  (118, .bipush (12), 0, 0, 0, 12),
  (120, .newarray .int, 1000, 0, 0, 0),
  (122, .putfield 51, 2, 21, 3, 0),
  (125, .aload_n 0, 0, 0, 0, 0),
  (126, .bipush (12), 0, 0, 0, 12),
  (128, .newarray .int, 1000, 0, 0, 0),
  (130, .putfield 54, 2, 22, 3, 0),
  (133, .aload_n 0, 0, 0, 0, 0),
  (134, .bipush (12), 0, 0, 0, 12),
  (136, .newarray .int, 1000, 0, 0, 0),
  (138, .putfield 57, 2, 23, 3, 0),
  (141, .aload_n 0, 0, 0, 0, 0),
  (142, .bipush (12), 0, 0, 0, 12),
  (144, .newarray .int, 1000, 0, 0, 0),
  (146, .putfield 60, 2, 24, 3, 0),
  (149, .aload_n 0, 0, 0, 0, 0),
  (150, .sipush (3456), 0, 0, 0, 3456),
  (153, .newarray .int, 1000, 0, 0, 0),
  (155, .putfield 63, 2, 25, 3, 0),
  (158, .aload_n 0, 0, 0, 0, 0),
  (159, .sipush (360), 0, 0, 0, 360),
  (162, .newarray .int, 1000, 0, 0, 0),
  (164, .putfield 66, 2, 26, 3, 0),
  (167, .aload_n 0, 0, 0, 0, 0),
  (168, .sipush (228), 0, 0, 0, 228),
  (171, .newarray .int, 1000, 0, 0, 0),
  (173, .putfield 69, 2, 27, 3, 0),
  (176, .aload_n 0, 0, 0, 0, 0),
  (177, .bipush (29), 0, 0, 0, 29),
  (179, .newarray .int, 1000, 0, 0, 0),
  (181, .dup, 0, 0, 0, 0),
  (182, .iconst (0), 0, 0, 0, 0),
  (183, .iconst (3), 0, 0, 0, 3),
  (184, .iastore, 0, 0, 0, 0),
  (185, .dup, 0, 0, 0, 0),
  (186, .iconst (1), 0, 0, 0, 1),
  (187, .iconst (4), 0, 0, 0, 4),
  (188, .iastore, 0, 0, 0, 0),
  (189, .dup, 0, 0, 0, 0),
  (190, .iconst (2), 0, 0, 0, 2),
  (191, .iconst (5), 0, 0, 0, 5),
  (192, .iastore, 0, 0, 0, 0),
  (193, .dup, 0, 0, 0, 0),
  (194, .iconst (3), 0, 0, 0, 3),
  (195, .bipush (6), 0, 0, 0, 6),
  (197, .iastore, 0, 0, 0, 0),
  (198, .dup, 0, 0, 0, 0),
  (199, .iconst (4), 0, 0, 0, 4),
  (200, .bipush (7), 0, 0, 0, 7),
  (202, .iastore, 0, 0, 0, 0),
  (203, .dup, 0, 0, 0, 0),
  (204, .iconst (5), 0, 0, 0, 5),
  (205, .bipush (8), 0, 0, 0, 8),
  (207, .iastore, 0, 0, 0, 0),
  (208, .dup, 0, 0, 0, 0),
  (209, .bipush (6), 0, 0, 0, 6),
  (211, .bipush (9), 0, 0, 0, 9),
  (213, .iastore, 0, 0, 0, 0),
  (214, .dup, 0, 0, 0, 0),
  (215, .bipush (7), 0, 0, 0, 7),
  (217, .bipush (10), 0, 0, 0, 10),
  (219, .iastore, 0, 0, 0, 0),
  (220, .dup, 0, 0, 0, 0),
  (221, .bipush (8), 0, 0, 0, 8),
  (223, .bipush (11), 0, 0, 0, 11),
  (225, .iastore, 0, 0, 0, 0),
  (226, .dup, 0, 0, 0, 0),
  (227, .bipush (9), 0, 0, 0, 9),
  (229, .bipush (13), 0, 0, 0, 13),
  (231, .iastore, 0, 0, 0, 0),
  (232, .dup, 0, 0, 0, 0),
  (233, .bipush (10), 0, 0, 0, 10),
  (235, .bipush (15), 0, 0, 0, 15),
  (237, .iastore, 0, 0, 0, 0),
  (238, .dup, 0, 0, 0, 0),
  (239, .bipush (11), 0, 0, 0, 11),
  (241, .bipush (17), 0, 0, 0, 17),
  (243, .iastore, 0, 0, 0, 0),
  (244, .dup, 0, 0, 0, 0),
  (245, .bipush (12), 0, 0, 0, 12),
  (247, .bipush (19), 0, 0, 0, 19),
  (249, .iastore, 0, 0, 0, 0),
  (250, .dup, 0, 0, 0, 0),
  (251, .bipush (13), 0, 0, 0, 13),
  (253, .bipush (23), 0, 0, 0, 23),
  (255, .iastore, 0, 0, 0, 0),
  (256, .dup, 0, 0, 0, 0),
  (257, .bipush (14), 0, 0, 0, 14),
  (259, .bipush (27), 0, 0, 0, 27),
  (261, .iastore, 0, 0, 0, 0),
  (262, .dup, 0, 0, 0, 0),
  (263, .bipush (15), 0, 0, 0, 15),
  (265, .bipush (31), 0, 0, 0, 31),
  (267, .iastore, 0, 0, 0, 0),
  (268, .dup, 0, 0, 0, 0),
  (269, .bipush (16), 0, 0, 0, 16),
  (271, .bipush (35), 0, 0, 0, 35),
  (273, .iastore, 0, 0, 0, 0),
  (274, .dup, 0, 0, 0, 0),
  (275, .bipush (17), 0, 0, 0, 17),
  (277, .bipush (43), 0, 0, 0, 43),
  (279, .iastore, 0, 0, 0, 0),
  (280, .dup, 0, 0, 0, 0),
  (281, .bipush (18), 0, 0, 0, 18),
  (283, .bipush (51), 0, 0, 0, 51),
  (285, .iastore, 0, 0, 0, 0),
  (286, .dup, 0, 0, 0, 0),
  (287, .bipush (19), 0, 0, 0, 19),
  (289, .bipush (59), 0, 0, 0, 59),
  (291, .iastore, 0, 0, 0, 0),
  (292, .dup, 0, 0, 0, 0),
  (293, .bipush (20), 0, 0, 0, 20),
  (295, .bipush (67), 0, 0, 0, 67),
  (297, .iastore, 0, 0, 0, 0),
  (298, .dup, 0, 0, 0, 0),
  (299, .bipush (21), 0, 0, 0, 21),
  (301, .bipush (83), 0, 0, 0, 83),
  (303, .iastore, 0, 0, 0, 0),
  (304, .dup, 0, 0, 0, 0),
  (305, .bipush (22), 0, 0, 0, 22),
  (307, .bipush (99), 0, 0, 0, 99),
  (309, .iastore, 0, 0, 0, 0),
  (310, .dup, 0, 0, 0, 0),
  (311, .bipush (23), 0, 0, 0, 23),
  (313, .bipush (115), 0, 0, 0, 115),
  (315, .iastore, 0, 0, 0, 0),
  (316, .dup, 0, 0, 0, 0),
  (317, .bipush (24), 0, 0, 0, 24),
  (319, .sipush (131), 0, 0, 0, 131),
  (322, .iastore, 0, 0, 0, 0),
  (323, .dup, 0, 0, 0, 0),
  (324, .bipush (25), 0, 0, 0, 25),
  (326, .sipush (163), 0, 0, 0, 163),
  (329, .iastore, 0, 0, 0, 0),
  (330, .dup, 0, 0, 0, 0),
  (331, .bipush (26), 0, 0, 0, 26),
  (333, .sipush (195), 0, 0, 0, 195),
  (336, .iastore, 0, 0, 0, 0),
  (337, .dup, 0, 0, 0, 0),
  (338, .bipush (27), 0, 0, 0, 27),
  (340, .sipush (227), 0, 0, 0, 227),
  (343, .iastore, 0, 0, 0, 0),
  (344, .dup, 0, 0, 0, 0),
  (345, .bipush (28), 0, 0, 0, 28),
  (347, .sipush (258), 0, 0, 0, 258),
  (350, .iastore, 0, 0, 0, 0),
  (351, .putfield 72, 2, 28, 3, 0),
  (354, .aload_n 0, 0, 0, 0, 0),
  (355, .bipush (29), 0, 0, 0, 29),
  (357, .newarray .int, 1000, 0, 0, 0),
  (359, .dup, 0, 0, 0, 0),
  (360, .iconst (0), 0, 0, 0, 0),
  (361, .iconst (0), 0, 0, 0, 0),
  (362, .iastore, 0, 0, 0, 0),
  (363, .dup, 0, 0, 0, 0),
  (364, .iconst (1), 0, 0, 0, 1),
  (365, .iconst (0), 0, 0, 0, 0),
  (366, .iastore, 0, 0, 0, 0),
  (367, .dup, 0, 0, 0, 0),
  (368, .iconst (2), 0, 0, 0, 2),
  (369, .iconst (0), 0, 0, 0, 0),
  (370, .iastore, 0, 0, 0, 0),
  (371, .dup, 0, 0, 0, 0),
  (372, .iconst (3), 0, 0, 0, 3),
  (373, .iconst (0), 0, 0, 0, 0),
  (374, .iastore, 0, 0, 0, 0),
  (375, .dup, 0, 0, 0, 0),
  (376, .iconst (4), 0, 0, 0, 4),
  (377, .iconst (0), 0, 0, 0, 0),
  (378, .iastore, 0, 0, 0, 0),
  (379, .dup, 0, 0, 0, 0),
  (380, .iconst (5), 0, 0, 0, 5),
  (381, .iconst (0), 0, 0, 0, 0),
  (382, .iastore, 0, 0, 0, 0),
  (383, .dup, 0, 0, 0, 0),
  (384, .bipush (6), 0, 0, 0, 6),
  (386, .iconst (0), 0, 0, 0, 0),
  (387, .iastore, 0, 0, 0, 0),
  (388, .dup, 0, 0, 0, 0),
  (389, .bipush (7), 0, 0, 0, 7),
  (391, .iconst (0), 0, 0, 0, 0),
  (392, .iastore, 0, 0, 0, 0),
  (393, .dup, 0, 0, 0, 0),
  (394, .bipush (8), 0, 0, 0, 8),
  (396, .iconst (1), 0, 0, 0, 1),
  (397, .iastore, 0, 0, 0, 0),
  (398, .dup, 0, 0, 0, 0),
  (399, .bipush (9), 0, 0, 0, 9),
  (401, .iconst (1), 0, 0, 0, 1),
  (402, .iastore, 0, 0, 0, 0),
  (403, .dup, 0, 0, 0, 0),
  (404, .bipush (10), 0, 0, 0, 10),
  (406, .iconst (1), 0, 0, 0, 1),
  (407, .iastore, 0, 0, 0, 0),
  (408, .dup, 0, 0, 0, 0),
  (409, .bipush (11), 0, 0, 0, 11),
  (411, .iconst (1), 0, 0, 0, 1),
  (412, .iastore, 0, 0, 0, 0),
  (413, .dup, 0, 0, 0, 0),
  (414, .bipush (12), 0, 0, 0, 12),
  (416, .iconst (2), 0, 0, 0, 2),
  (417, .iastore, 0, 0, 0, 0),
  (418, .dup, 0, 0, 0, 0),
  (419, .bipush (13), 0, 0, 0, 13),
  (421, .iconst (2), 0, 0, 0, 2),
  (422, .iastore, 0, 0, 0, 0),
  (423, .dup, 0, 0, 0, 0),
  (424, .bipush (14), 0, 0, 0, 14),
  (426, .iconst (2), 0, 0, 0, 2),
  (427, .iastore, 0, 0, 0, 0),
  (428, .dup, 0, 0, 0, 0),
  (429, .bipush (15), 0, 0, 0, 15),
  (431, .iconst (2), 0, 0, 0, 2),
  (432, .iastore, 0, 0, 0, 0),
  (433, .dup, 0, 0, 0, 0),
  (434, .bipush (16), 0, 0, 0, 16),
  (436, .iconst (3), 0, 0, 0, 3),
  (437, .iastore, 0, 0, 0, 0),
  (438, .dup, 0, 0, 0, 0),
  (439, .bipush (17), 0, 0, 0, 17),
  (441, .iconst (3), 0, 0, 0, 3),
  (442, .iastore, 0, 0, 0, 0),
  (443, .dup, 0, 0, 0, 0),
  (444, .bipush (18), 0, 0, 0, 18),
  (446, .iconst (3), 0, 0, 0, 3),
  (447, .iastore, 0, 0, 0, 0),
  (448, .dup, 0, 0, 0, 0),
  (449, .bipush (19), 0, 0, 0, 19),
  (451, .iconst (3), 0, 0, 0, 3),
  (452, .iastore, 0, 0, 0, 0),
  (453, .dup, 0, 0, 0, 0),
  (454, .bipush (20), 0, 0, 0, 20),
  (456, .iconst (4), 0, 0, 0, 4),
  (457, .iastore, 0, 0, 0, 0),
  (458, .dup, 0, 0, 0, 0),
  (459, .bipush (21), 0, 0, 0, 21),
  (461, .iconst (4), 0, 0, 0, 4),
  (462, .iastore, 0, 0, 0, 0),
  (463, .dup, 0, 0, 0, 0),
  (464, .bipush (22), 0, 0, 0, 22),
  (466, .iconst (4), 0, 0, 0, 4),
  (467, .iastore, 0, 0, 0, 0),
  (468, .dup, 0, 0, 0, 0),
  (469, .bipush (23), 0, 0, 0, 23),
  (471, .iconst (4), 0, 0, 0, 4),
  (472, .iastore, 0, 0, 0, 0),
  (473, .dup, 0, 0, 0, 0),
  (474, .bipush (24), 0, 0, 0, 24),
  (476, .iconst (5), 0, 0, 0, 5),
  (477, .iastore, 0, 0, 0, 0),
  (478, .dup, 0, 0, 0, 0),
  (479, .bipush (25), 0, 0, 0, 25),
  (481, .iconst (5), 0, 0, 0, 5),
  (482, .iastore, 0, 0, 0, 0),
  (483, .dup, 0, 0, 0, 0),
  (484, .bipush (26), 0, 0, 0, 26),
  (486, .iconst (5), 0, 0, 0, 5),
  (487, .iastore, 0, 0, 0, 0),
  (488, .dup, 0, 0, 0, 0),
  (489, .bipush (27), 0, 0, 0, 27),
  (491, .iconst (5), 0, 0, 0, 5),
  (492, .iastore, 0, 0, 0, 0),
  (493, .dup, 0, 0, 0, 0),
  (494, .bipush (28), 0, 0, 0, 28),
  (496, .iconst (0), 0, 0, 0, 0),
  (497, .iastore, 0, 0, 0, 0),
  (498, .putfield 75, 2, 29, 3, 0),
  (501, .aload_n 0, 0, 0, 0, 0),
  (502, .bipush (30), 0, 0, 0, 30),
  (504, .newarray .int, 1000, 0, 0, 0),
  (506, .dup, 0, 0, 0, 0),
  (507, .iconst (0), 0, 0, 0, 0),
  (508, .iconst (1), 0, 0, 0, 1),
  (509, .iastore, 0, 0, 0, 0),
  (510, .dup, 0, 0, 0, 0),
  (511, .iconst (1), 0, 0, 0, 1),
  (512, .iconst (2), 0, 0, 0, 2),
  (513, .iastore, 0, 0, 0, 0),
  (514, .dup, 0, 0, 0, 0),
  (515, .iconst (2), 0, 0, 0, 2),
  (516, .iconst (3), 0, 0, 0, 3),
  (517, .iastore, 0, 0, 0, 0),
  (518, .dup, 0, 0, 0, 0),
  (519, .iconst (3), 0, 0, 0, 3),
  (520, .iconst (4), 0, 0, 0, 4),
  (521, .iastore, 0, 0, 0, 0),
  (522, .dup, 0, 0, 0, 0),
  (523, .iconst (4), 0, 0, 0, 4),
  (524, .iconst (5), 0, 0, 0, 5),
  (525, .iastore, 0, 0, 0, 0),
  (526, .dup, 0, 0, 0, 0),
  (527, .iconst (5), 0, 0, 0, 5),
  (528, .bipush (7), 0, 0, 0, 7),
  (530, .iastore, 0, 0, 0, 0),
  (531, .dup, 0, 0, 0, 0),
  (532, .bipush (6), 0, 0, 0, 6),
  (534, .bipush (9), 0, 0, 0, 9),
  (536, .iastore, 0, 0, 0, 0),
  (537, .dup, 0, 0, 0, 0),
  (538, .bipush (7), 0, 0, 0, 7),
  (540, .bipush (13), 0, 0, 0, 13),
  (542, .iastore, 0, 0, 0, 0),
  (543, .dup, 0, 0, 0, 0),
  (544, .bipush (8), 0, 0, 0, 8),
  (546, .bipush (17), 0, 0, 0, 17),
  (548, .iastore, 0, 0, 0, 0),
  (549, .dup, 0, 0, 0, 0),
  (550, .bipush (9), 0, 0, 0, 9),
  (552, .bipush (25), 0, 0, 0, 25),
  (554, .iastore, 0, 0, 0, 0),
  (555, .dup, 0, 0, 0, 0),
  (556, .bipush (10), 0, 0, 0, 10),
  (558, .bipush (33), 0, 0, 0, 33),
  (560, .iastore, 0, 0, 0, 0),
  (561, .dup, 0, 0, 0, 0),
  (562, .bipush (11), 0, 0, 0, 11),
  (564, .bipush (49), 0, 0, 0, 49),
  (566, .iastore, 0, 0, 0, 0),
  (567, .dup, 0, 0, 0, 0),
  (568, .bipush (12), 0, 0, 0, 12),
  (570, .bipush (65), 0, 0, 0, 65),
  (572, .iastore, 0, 0, 0, 0),
  (573, .dup, 0, 0, 0, 0),
  (574, .bipush (13), 0, 0, 0, 13),
  (576, .bipush (97), 0, 0, 0, 97),
  (578, .iastore, 0, 0, 0, 0),
  (579, .dup, 0, 0, 0, 0),
  (580, .bipush (14), 0, 0, 0, 14),
  (582, .sipush (129), 0, 0, 0, 129),
  (585, .iastore, 0, 0, 0, 0),
  (586, .dup, 0, 0, 0, 0),
  (587, .bipush (15), 0, 0, 0, 15),
  (589, .sipush (193), 0, 0, 0, 193),
  (592, .iastore, 0, 0, 0, 0),
  (593, .dup, 0, 0, 0, 0),
  (594, .bipush (16), 0, 0, 0, 16),
  (596, .sipush (257), 0, 0, 0, 257),
  (599, .iastore, 0, 0, 0, 0),
  (600, .dup, 0, 0, 0, 0),
  (601, .bipush (17), 0, 0, 0, 17),
  (603, .sipush (385), 0, 0, 0, 385),
  (606, .iastore, 0, 0, 0, 0),
  (607, .dup, 0, 0, 0, 0),
  (608, .bipush (18), 0, 0, 0, 18),
  (610, .sipush (513), 0, 0, 0, 513),
  (613, .iastore, 0, 0, 0, 0),
  (614, .dup, 0, 0, 0, 0),
  (615, .bipush (19), 0, 0, 0, 19),
  (617, .sipush (769), 0, 0, 0, 769),
  (620, .iastore, 0, 0, 0, 0),
  (621, .dup, 0, 0, 0, 0),
  (622, .bipush (20), 0, 0, 0, 20),
  (624, .sipush (1025), 0, 0, 0, 1025),
  (627, .iastore, 0, 0, 0, 0),
  (628, .dup, 0, 0, 0, 0),
  (629, .bipush (21), 0, 0, 0, 21),
  (631, .sipush (1537), 0, 0, 0, 1537),
  (634, .iastore, 0, 0, 0, 0),
  (635, .dup, 0, 0, 0, 0),
  (636, .bipush (22), 0, 0, 0, 22),
  (638, .sipush (2049), 0, 0, 0, 2049),
  (641, .iastore, 0, 0, 0, 0),
  (642, .dup, 0, 0, 0, 0),
  (643, .bipush (23), 0, 0, 0, 23),
  (645, .sipush (3073), 0, 0, 0, 3073),
  (648, .iastore, 0, 0, 0, 0),
  (649, .dup, 0, 0, 0, 0),
  (650, .bipush (24), 0, 0, 0, 24),
  (652, .sipush (4097), 0, 0, 0, 4097),
  (655, .iastore, 0, 0, 0, 0),
  (656, .dup, 0, 0, 0, 0),
  (657, .bipush (25), 0, 0, 0, 25),
  (659, .sipush (6145), 0, 0, 0, 6145),
  (662, .iastore, 0, 0, 0, 0),
  (663, .dup, 0, 0, 0, 0),
  (664, .bipush (26), 0, 0, 0, 26),
  (666, .sipush (8193), 0, 0, 0, 8193),
  (669, .iastore, 0, 0, 0, 0),
  (670, .dup, 0, 0, 0, 0),
  (671, .bipush (27), 0, 0, 0, 27),
  (673, .sipush (12289), 0, 0, 0, 12289),
  (676, .iastore, 0, 0, 0, 0),
  (677, .dup, 0, 0, 0, 0),
  (678, .bipush (28), 0, 0, 0, 28),
  (680, .sipush (16385), 0, 0, 0, 16385),
  (683, .iastore, 0, 0, 0, 0),
  (684, .dup, 0, 0, 0, 0),
  (685, .bipush (29), 0, 0, 0, 29),
  (687, .sipush (24577), 0, 0, 0, 24577),
  (690, .iastore, 0, 0, 0, 0),
  (691, .putfield 78, 2, 30, 3, 0),
  (694, .aload_n 0, 0, 0, 0, 0),
  (695, .bipush (30), 0, 0, 0, 30),
  (697, .newarray .int, 1000, 0, 0, 0),
  (699, .dup, 0, 0, 0, 0),
  (700, .iconst (0), 0, 0, 0, 0),
  (701, .iconst (0), 0, 0, 0, 0),
  (702, .iastore, 0, 0, 0, 0),
  (703, .dup, 0, 0, 0, 0),
  (704, .iconst (1), 0, 0, 0, 1),
  (705, .iconst (0), 0, 0, 0, 0),
  (706, .iastore, 0, 0, 0, 0),
  (707, .dup, 0, 0, 0, 0),
  (708, .iconst (2), 0, 0, 0, 2),
  (709, .iconst (0), 0, 0, 0, 0),
  (710, .iastore, 0, 0, 0, 0),
  (711, .dup, 0, 0, 0, 0),
  (712, .iconst (3), 0, 0, 0, 3),
  (713, .iconst (0), 0, 0, 0, 0),
  (714, .iastore, 0, 0, 0, 0),
  (715, .dup, 0, 0, 0, 0),
  (716, .iconst (4), 0, 0, 0, 4),
  (717, .iconst (1), 0, 0, 0, 1),
  (718, .iastore, 0, 0, 0, 0),
  (719, .dup, 0, 0, 0, 0),
  (720, .iconst (5), 0, 0, 0, 5),
  (721, .iconst (1), 0, 0, 0, 1),
  (722, .iastore, 0, 0, 0, 0),
  (723, .dup, 0, 0, 0, 0),
  (724, .bipush (6), 0, 0, 0, 6),
  (726, .iconst (2), 0, 0, 0, 2),
  (727, .iastore, 0, 0, 0, 0),
  (728, .dup, 0, 0, 0, 0),
  (729, .bipush (7), 0, 0, 0, 7),
  (731, .iconst (2), 0, 0, 0, 2),
  (732, .iastore, 0, 0, 0, 0),
  (733, .dup, 0, 0, 0, 0),
  (734, .bipush (8), 0, 0, 0, 8),
  (736, .iconst (3), 0, 0, 0, 3),
  (737, .iastore, 0, 0, 0, 0),
  (738, .dup, 0, 0, 0, 0),
  (739, .bipush (9), 0, 0, 0, 9),
  (741, .iconst (3), 0, 0, 0, 3),
  (742, .iastore, 0, 0, 0, 0),
  (743, .dup, 0, 0, 0, 0),
  (744, .bipush (10), 0, 0, 0, 10),
  (746, .iconst (4), 0, 0, 0, 4),
  (747, .iastore, 0, 0, 0, 0),
  (748, .dup, 0, 0, 0, 0),
  (749, .bipush (11), 0, 0, 0, 11),
  (751, .iconst (4), 0, 0, 0, 4),
  (752, .iastore, 0, 0, 0, 0),
  (753, .dup, 0, 0, 0, 0),
  (754, .bipush (12), 0, 0, 0, 12),
  (756, .iconst (5), 0, 0, 0, 5),
  (757, .iastore, 0, 0, 0, 0),
  (758, .dup, 0, 0, 0, 0),
  (759, .bipush (13), 0, 0, 0, 13),
  (761, .iconst (5), 0, 0, 0, 5),
  (762, .iastore, 0, 0, 0, 0),
  (763, .dup, 0, 0, 0, 0),
  (764, .bipush (14), 0, 0, 0, 14),
  (766, .bipush (6), 0, 0, 0, 6),
  (768, .iastore, 0, 0, 0, 0),
  (769, .dup, 0, 0, 0, 0),
  (770, .bipush (15), 0, 0, 0, 15),
  (772, .bipush (6), 0, 0, 0, 6),
  (774, .iastore, 0, 0, 0, 0),
  (775, .dup, 0, 0, 0, 0),
  (776, .bipush (16), 0, 0, 0, 16),
  (778, .bipush (7), 0, 0, 0, 7),
  (780, .iastore, 0, 0, 0, 0),
  (781, .dup, 0, 0, 0, 0),
  (782, .bipush (17), 0, 0, 0, 17),
  (784, .bipush (7), 0, 0, 0, 7),
  (786, .iastore, 0, 0, 0, 0),
  (787, .dup, 0, 0, 0, 0),
  (788, .bipush (18), 0, 0, 0, 18),
  (790, .bipush (8), 0, 0, 0, 8),
  (792, .iastore, 0, 0, 0, 0),
  (793, .dup, 0, 0, 0, 0),
  (794, .bipush (19), 0, 0, 0, 19),
  (796, .bipush (8), 0, 0, 0, 8),
  (798, .iastore, 0, 0, 0, 0),
  (799, .dup, 0, 0, 0, 0),
  (800, .bipush (20), 0, 0, 0, 20),
  (802, .bipush (9), 0, 0, 0, 9),
  (804, .iastore, 0, 0, 0, 0),
  (805, .dup, 0, 0, 0, 0),
  (806, .bipush (21), 0, 0, 0, 21),
  (808, .bipush (9), 0, 0, 0, 9),
  (810, .iastore, 0, 0, 0, 0),
  (811, .dup, 0, 0, 0, 0),
  (812, .bipush (22), 0, 0, 0, 22),
  (814, .bipush (10), 0, 0, 0, 10),
  (816, .iastore, 0, 0, 0, 0),
  (817, .dup, 0, 0, 0, 0),
  (818, .bipush (23), 0, 0, 0, 23),
  (820, .bipush (10), 0, 0, 0, 10),
  (822, .iastore, 0, 0, 0, 0),
  (823, .dup, 0, 0, 0, 0),
  (824, .bipush (24), 0, 0, 0, 24),
  (826, .bipush (11), 0, 0, 0, 11),
  (828, .iastore, 0, 0, 0, 0),
  (829, .dup, 0, 0, 0, 0),
  (830, .bipush (25), 0, 0, 0, 25),
  (832, .bipush (11), 0, 0, 0, 11),
  (834, .iastore, 0, 0, 0, 0),
  (835, .dup, 0, 0, 0, 0),
  (836, .bipush (26), 0, 0, 0, 26),
  (838, .bipush (12), 0, 0, 0, 12),
  (840, .iastore, 0, 0, 0, 0),
  (841, .dup, 0, 0, 0, 0),
  (842, .bipush (27), 0, 0, 0, 27),
  (844, .bipush (12), 0, 0, 0, 12),
  (846, .iastore, 0, 0, 0, 0),
  (847, .dup, 0, 0, 0, 0),
  (848, .bipush (28), 0, 0, 0, 28),
  (850, .bipush (13), 0, 0, 0, 13),
  (852, .iastore, 0, 0, 0, 0),
  (853, .dup, 0, 0, 0, 0),
  (854, .bipush (29), 0, 0, 0, 29),
  (856, .bipush (13), 0, 0, 0, 13),
  (858, .iastore, 0, 0, 0, 0),
  (859, .putfield 81, 2, 31, 3, 0),
  (862, .aload_n 0, 0, 0, 0, 0),
  (863, .bipush (19), 0, 0, 0, 19),
  (865, .newarray .int, 1000, 0, 0, 0),
  (867, .dup, 0, 0, 0, 0),
  (868, .iconst (0), 0, 0, 0, 0),
  (869, .bipush (16), 0, 0, 0, 16),
  (871, .iastore, 0, 0, 0, 0),
  (872, .dup, 0, 0, 0, 0),
  (873, .iconst (1), 0, 0, 0, 1),
  (874, .bipush (17), 0, 0, 0, 17),
  (876, .iastore, 0, 0, 0, 0),
  (877, .dup, 0, 0, 0, 0),
  (878, .iconst (2), 0, 0, 0, 2),
  (879, .bipush (18), 0, 0, 0, 18),
  (881, .iastore, 0, 0, 0, 0),
  (882, .dup, 0, 0, 0, 0),
  (883, .iconst (3), 0, 0, 0, 3),
  (884, .iconst (0), 0, 0, 0, 0),
  (885, .iastore, 0, 0, 0, 0),
  (886, .dup, 0, 0, 0, 0),
  (887, .iconst (4), 0, 0, 0, 4),
  (888, .bipush (8), 0, 0, 0, 8),
  (890, .iastore, 0, 0, 0, 0),
  (891, .dup, 0, 0, 0, 0),
  (892, .iconst (5), 0, 0, 0, 5),
  (893, .bipush (7), 0, 0, 0, 7),
  (895, .iastore, 0, 0, 0, 0),
  (896, .dup, 0, 0, 0, 0),
  (897, .bipush (6), 0, 0, 0, 6),
  (899, .bipush (9), 0, 0, 0, 9),
  (901, .iastore, 0, 0, 0, 0),
  (902, .dup, 0, 0, 0, 0),
  (903, .bipush (7), 0, 0, 0, 7),
  (905, .bipush (6), 0, 0, 0, 6),
  (907, .iastore, 0, 0, 0, 0),
  (908, .dup, 0, 0, 0, 0),
  (909, .bipush (8), 0, 0, 0, 8),
  (911, .bipush (10), 0, 0, 0, 10),
  (913, .iastore, 0, 0, 0, 0),
  (914, .dup, 0, 0, 0, 0),
  (915, .bipush (9), 0, 0, 0, 9),
  (917, .iconst (5), 0, 0, 0, 5),
  (918, .iastore, 0, 0, 0, 0),
  (919, .dup, 0, 0, 0, 0),
  (920, .bipush (10), 0, 0, 0, 10),
  (922, .bipush (11), 0, 0, 0, 11),
  (924, .iastore, 0, 0, 0, 0),
  (925, .dup, 0, 0, 0, 0),
  (926, .bipush (11), 0, 0, 0, 11),
  (928, .iconst (4), 0, 0, 0, 4),
  (929, .iastore, 0, 0, 0, 0),
  (930, .dup, 0, 0, 0, 0),
  (931, .bipush (12), 0, 0, 0, 12),
  (933, .bipush (12), 0, 0, 0, 12),
  (935, .iastore, 0, 0, 0, 0),
  (936, .dup, 0, 0, 0, 0),
  (937, .bipush (13), 0, 0, 0, 13),
  (939, .iconst (3), 0, 0, 0, 3),
  (940, .iastore, 0, 0, 0, 0),
  (941, .dup, 0, 0, 0, 0),
  (942, .bipush (14), 0, 0, 0, 14),
  (944, .bipush (13), 0, 0, 0, 13),
  (946, .iastore, 0, 0, 0, 0),
  (947, .dup, 0, 0, 0, 0),
  (948, .bipush (15), 0, 0, 0, 15),
  (950, .iconst (2), 0, 0, 0, 2),
  (951, .iastore, 0, 0, 0, 0),
  (952, .dup, 0, 0, 0, 0),
  (953, .bipush (16), 0, 0, 0, 16),
  (955, .bipush (14), 0, 0, 0, 14),
  (957, .iastore, 0, 0, 0, 0),
  (958, .dup, 0, 0, 0, 0),
  (959, .bipush (17), 0, 0, 0, 17),
  (961, .iconst (1), 0, 0, 0, 1),
  (962, .iastore, 0, 0, 0, 0),
  (963, .dup, 0, 0, 0, 0),
  (964, .bipush (18), 0, 0, 0, 18),
  (966, .bipush (15), 0, 0, 0, 15),
  (968, .iastore, 0, 0, 0, 0),
  (969, .putfield 84, 2, 32, 3, 0),
  (972, .aload_n 0, 0, 0, 0, 0),
  (973, .sipush (288), 0, 0, 0, 288),
  (976, .newarray .int, 1000, 0, 0, 0),
  (978, .putfield 87, 2, 33, 3, 0),
  (981, .aload_n 0, 0, 0, 0, 0),
  (982, .bipush (30), 0, 0, 0, 30),
  (984, .newarray .int, 1000, 0, 0, 0),
  (986, .putfield 90, 2, 34, 3, 0),
  (989, .aload_n 0, 0, 0, 0, 0),
  (990, .bipush (19), 0, 0, 0, 19),
  (992, .newarray .int, 1000, 0, 0, 0),
  (994, .putfield 93, 2, 35, 3, 0),
  (997, .aload_n 0, 0, 0, 0, 0),
  (998, .sipush (288), 0, 0, 0, 288),
  (1001, .newarray .int, 1000, 0, 0, 0),
  (1003, .putfield 96, 2, 36, 3, 0),
  (1006, .aload_n 0, 0, 0, 0, 0),
  (1007, .bipush (30), 0, 0, 0, 30),
  (1009, .newarray .int, 1000, 0, 0, 0),
  (1011, .putfield 99, 2, 37, 3, 0),
  (1014, .aload_n 0, 0, 0, 0, 0),
  (1015, .bipush (19), 0, 0, 0, 19),
  (1017, .newarray .int, 1000, 0, 0, 0),
  (1019, .putfield 102, 2, 38, 3, 0),
  (1022, .aload_n 0, 0, 0, 0, 0),
  (1023, .sipush (288), 0, 0, 0, 288),
  (1026, .newarray .int, 1000, 0, 0, 0),
  (1028, .putfield 105, 2, 39, 3, 0),
  (1031, .aload_n 0, 0, 0, 0, 0),
  (1032, .bipush (30), 0, 0, 0, 30),
  (1034, .newarray .int, 1000, 0, 0, 0),
  (1036, .putfield 108, 2, 40, 3, 0),
  (1039, .aload_n 0, 0, 0, 0, 0),
  (1040, .bipush (19), 0, 0, 0, 19),
  (1042, .newarray .int, 1000, 0, 0, 0),
  (1044, .putfield 111, 2, 41, 3, 0),
  (1047, .aload_n 0, 0, 0, 0, 0),
  (1048, .sipush (288), 0, 0, 0, 288),
  (1051, .newarray .int, 1000, 0, 0, 0),
  (1053, .putfield 114, 2, 42, 3, 0),
  (1056, .aload_n 0, 0, 0, 0, 0),
  (1057, .sipush (288), 0, 0, 0, 288),
  (1060, .newarray .int, 1000, 0, 0, 0),
  (1062, .putfield 117, 2, 43, 3, 0),
  (1065, .aload_n 0, 0, 0, 0, 0),
  (1066, .bipush (30), 0, 0, 0, 30),
  (1068, .newarray .int, 1000, 0, 0, 0),
  (1070, .putfield 120, 2, 44, 3, 0),
  (1073, .aload_n 0, 0, 0, 0, 0),
  (1074, .bipush (30), 0, 0, 0, 30),
  (1076, .newarray .int, 1000, 0, 0, 0),
  (1078, .putfield 123, 2, 45, 3, 0),
  (1081, .aload_n 0, 0, 0, 0, 0),
  (1082, .sipush (288), 0, 0, 0, 288),
  (1085, .newarray .int, 1000, 0, 0, 0),
  (1087, .putfield 126, 2, 46, 3, 0),
  (1090, .aload_n 0, 0, 0, 0, 0),
  (1091, .sipush (600), 0, 0, 0, 600),
  (1094, .newarray .int, 1000, 0, 0, 0),
  (1096, .putfield 129, 2, 47, 3, 0),
  (1099, .aload_n 0, 0, 0, 0, 0),
  (1100, .sipush (600), 0, 0, 0, 600),
  (1103, .newarray .int, 1000, 0, 0, 0),
  (1105, .putfield 132, 2, 48, 3, 0),
  (1108, .aload_n 0, 0, 0, 0, 0),
  (1109, .ldc 135, 0, 0, 0, 172800),
  (1111, .newarray .int, 1000, 0, 0, 0),
  (1113, .putfield 136, 2, 49, 3, 0),
  (1116, .aload_n 0, 0, 0, 0, 0),
  (1117, .ldc 135, 0, 0, 0, 172800),
  (1119, .newarray .int, 1000, 0, 0, 0),
  (1121, .putfield 139, 2, 50, 3, 0),
  (1124, .aload_n 0, 0, 0, 0, 0),
  (1125, .bipush (17), 0, 0, 0, 17),
  (1127, .newarray .int, 1000, 0, 0, 0),
  (1129, .putfield 142, 2, 51, 3, 0),
  (1132, .aload_n 0, 0, 0, 0, 0),
  (1133, .bipush (17), 0, 0, 0, 17),
  (1135, .newarray .int, 1000, 0, 0, 0),
  (1137, .putfield 145, 2, 52, 3, 0),
  (1140, .aload_n 0, 0, 0, 0, 0),
  (1141, .sipush (330), 0, 0, 0, 330),
  (1144, .newarray .int, 1000, 0, 0, 0),
  (1146, .putfield 148, 2, 53, 3, 0),
  (1149, .aload_n 0, 0, 0, 0, 0),
  (1150, .sipush (330), 0, 0, 0, 330),
  (1153, .newarray .int, 1000, 0, 0, 0),
  (1155, .putfield 151, 2, 54, 3, 0),
  (1158, .aload_n 0, 0, 0, 0, 0),
  (1159, .sipush (330), 0, 0, 0, 330),
  (1162, .newarray .int, 1000, 0, 0, 0),
  (1164, .putfield 154, 2, 55, 3, 0),
  (1167, .aload_n 0, 0, 0, 0, 0),
  (1168, .iconst (-1), 0, 0, 0, (-1)),
  (1169, .putfield 157, 2, 63, 0, 0),
  (1172, .aload_n 0, 0, 0, 0, 0),
  (1173, .sipush (288), 0, 0, 0, 288),
  (1176, .newarray .int, 1000, 0, 0, 0),
  (1178, .putfield 161, 2, 64, 3, 0),
  (1181, .aload_n 0, 0, 0, 0, 0),
  (1182, .bipush (32), 0, 0, 0, 32),
  (1184, .newarray .int, 1000, 0, 0, 0),
  (1186, .putfield 164, 2, 65, 3, 0),
  (1189, .aload_n 0, 0, 0, 0, 0),
  (1190, .bipush (19), 0, 0, 0, 19),
  (1192, .newarray .int, 1000, 0, 0, 0),
  (1194, .putfield 167, 2, 66, 3, 0),
  (1197, .aload_n 0, 0, 0, 0, 0),
  (1198, .sipush (330), 0, 0, 0, 330),
  (1201, .newarray .int, 1000, 0, 0, 0),
  (1203, .putfield 170, 2, 67, 3, 0),
  (1206, .aload_n 0, 0, 0, 0, 0),
  (1207, .bipush (64), 0, 0, 0, 64),
  (1209, .newarray .int, 1000, 0, 0, 0),
  (1211, .putfield 173, 2, 68, 3, 0),
  (1214, .aload_n 0, 0, 0, 0, 0),
  (1215, .bipush (64), 0, 0, 0, 64),
  (1217, .newarray .int, 1000, 0, 0, 0),
  (1219, .putfield 176, 2, 69, 3, 0),
  (1222, .return_, 0, 0, 0, 0)]
/-- PackDeskModel.thrown()I -/
def cz_25 : List ez_C := [(0, .aload_n 0, 0, 0, 0, 0),
  (1, .getfield 179, 2, 0, 0, 0),
  (4, .ireturn, 0, 0, 0, 0)]
/-- PackDeskModel.feed(IIIII)V -/
def cz_26 : List ez_C := [(0, .aload_n 0, 0, 0, 0, 0),
  (1, .iconst (0), 0, 0, 0, 0),
  (2, .putfield 179, 2, 0, 0, 0),
  (5, .iconst (0), 0, 0, 0, 0),
  (6, .istore 6, 0, 0, 0, 0),
  (8, .iload 6, 0, 0, 0, 0),
  (10, .iconst (4), 0, 0, 0, 4),
  (11, .if_icmp .ge (92), 103, 0, 0, 0),
  (14, .bipush (24), 0, 0, 0, 24),
  (16, .bipush (8), 0, 0, 0, 8),
  (18, .iload 6, 0, 0, 0, 0),
  (20, .imul, 0, 0, 0, 0),
  (21, .isub, 0, 0, 0, 0),
  (22, .istore 7, 0, 0, 0, 0),
  (24, .aload_n 0, 0, 0, 0, 0),
  (25, .getfield 16, 2, 3, 3, 0),
  (28, .iload 6, 0, 0, 0, 0),
  (30, .iload_n 1, 0, 0, 0, 0),
  (31, .iload 7, 0, 0, 0, 0),
  (33, .ishr, 0, 0, 0, 0),
  (34, .i2b, 0, 0, 0, 0),
  (35, .bastore, 0, 0, 0, 0),
  (36, .aload_n 0, 0, 0, 0, 0),
  (37, .getfield 16, 2, 3, 3, 0),
  (40, .iconst (4), 0, 0, 0, 4),
  (41, .iload 6, 0, 0, 0, 0),
  (43, .iadd, 0, 0, 0, 0),
  (44, .iload_n 2, 0, 0, 0, 0),
  (45, .iload 7, 0, 0, 0, 0),
  (47, .ishr, 0, 0, 0, 0),
  (48, .i2b, 0, 0, 0, 0),
  (49, .bastore, 0, 0, 0, 0),
  (50, .aload_n 0, 0, 0, 0, 0),
  (51, .getfield 16, 2, 3, 3, 0),
  (54, .bipush (8), 0, 0, 0, 8),
  (56, .iload 6, 0, 0, 0, 0),
  (58, .iadd, 0, 0, 0, 0),
  (59, .iload_n 3, 0, 0, 0, 0),
  (60, .iload 7, 0, 0, 0, 0),
  (62, .ishr, 0, 0, 0, 0),
  (63, .i2b, 0, 0, 0, 0),
  (64, .bastore, 0, 0, 0, 0),
  (65, .aload_n 0, 0, 0, 0, 0),
  (66, .getfield 16, 2, 3, 3, 0),
  (69, .bipush (12), 0, 0, 0, 12),
  (71, .iload 6, 0, 0, 0, 0),
  (73, .iadd, 0, 0, 0, 0),
  (74, .iload 4, 0, 0, 0, 0),
  (76, .iload 7, 0, 0, 0, 0),
  (78, .ishr, 0, 0, 0, 0),
  (79, .i2b, 0, 0, 0, 0),
  (80, .bastore, 0, 0, 0, 0),
  (81, .aload_n 0, 0, 0, 0, 0),
  (82, .getfield 16, 2, 3, 3, 0),
  (85, .bipush (16), 0, 0, 0, 16),
  (87, .iload 6, 0, 0, 0, 0),
  (89, .iadd, 0, 0, 0, 0),
  (90, .iload 5, 0, 0, 0, 0),
  (92, .iload 7, 0, 0, 0, 0),
  (94, .ishr, 0, 0, 0, 0),
  (95, .i2b, 0, 0, 0, 0),
  (96, .bastore, 0, 0, 0, 0),
  (97, .iinc 6 (1), 0, 0, 0, 1),
  (100, .goto (-92), 8, 0, 0, 0),
  (103, .return_, 0, 0, 0, 0)]
/-- PackDeskModel.end(II)I -/
def cz_27 : List ez_C := [(0, .aload_n 0, 0, 0, 0, 0),
  (1, .iconst (0), 0, 0, 0, 0),
  (2, .putfield 179, 2, 0, 0, 0),
  (5, .iload_n 1, 0, 0, 0, 0),
  (6, .ifCond .lt (34), 40, 0, 0, 0),
  (9, .iload_n 1, 0, 0, 0, 0),
  (10, .bipush (20), 0, 0, 0, 20),
  (12, .if_icmp .gt (28), 40, 0, 0, 0),
  (15, .iload_n 2, 0, 0, 0, 0),
  (16, .iconst (1), 0, 0, 0, 1),
  (17, .if_icmp .lt (23), 40, 0, 0, 0),
  (20, .iload_n 2, 0, 0, 0, 0),
  (21, .bipush (100), 0, 0, 0, 100),
  (23, .if_icmp .gt (17), 40, 0, 0, 0),
  (26, .aload_n 0, 0, 0, 0, 0),
  (27, .getfield 182, 2, 6, 0, 0),
  (30, .iload_n 1, 0, 0, 0, 0),
  (31, .iload_n 2, 0, 0, 0, 0),
  (32, .imul, 0, 0, 0, 0),
  (33, .iadd, 0, 0, 0, 0),
  (34, .sipush (6000), 0, 0, 0, 6000),
  (37, .if_icmp .le (5), 42, 0, 0, 0),
  (40, .iconst (-1), 0, 0, 0, (-1)),
  (41, .ireturn, 0, 0, 0, 0),
  (42, .iconst (0), 0, 0, 0, 0),
  (43, .istore_n 3, 0, 0, 0, 0),
  (44, .iload_n 3, 0, 0, 0, 0),
  (45, .iload_n 2, 0, 0, 0, 0),
  (46, .if_icmp .ge (53), 99, 0, 0, 0),
  (49, .iconst (0), 0, 0, 0, 0),
  (50, .istore 4, 0, 0, 0, 0),
  (52, .iload 4, 0, 0, 0, 0),
  (54, .iload_n 1, 0, 0, 0, 0),
  (55, .if_icmp .ge (28), 83, 0, 0, 0),
  (58, .aload_n 0, 0, 0, 0, 0),
  (59, .getfield 7, 2, 1, 3, 0),
  (62, .aload_n 0, 0, 0, 0, 0),
  (63, .getfield 182, 2, 6, 0, 0),
  (66, .iload 4, 0, 0, 0, 0),
  (68, .iadd, 0, 0, 0, 0),
  (69, .aload_n 0, 0, 0, 0, 0),
  (70, .getfield 16, 2, 3, 3, 0),
  (73, .iload 4, 0, 0, 0, 0),
  (75, .baload, 0, 0, 0, 0),
  (76, .bastore, 0, 0, 0, 0),
  (77, .iinc 4 (1), 0, 0, 0, 1),
  (80, .goto (-28), 52, 0, 0, 0),
  (83, .aload_n 0, 0, 0, 0, 0),
  (84, .dup, 0, 0, 0, 0),
  (85, .getfield 182, 2, 6, 0, 0),
  (88, .iload_n 1, 0, 0, 0, 0),
  (89, .iadd, 0, 0, 0, 0),
  (90, .putfield 182, 2, 6, 0, 0),
  (93, .iinc 3 (1), 0, 0, 0, 1),
  (96, .goto (-52), 44, 0, 0, 0),
  (99, .iconst (0), 0, 0, 0, 0),
  (100, .istore_n 3, 0, 0, 0, 0),
  (101, .iload_n 3, 0, 0, 0, 0),
  (102, .bipush (20), 0, 0, 0, 20),
  (104, .if_icmp .ge (16), 120, 0, 0, 0),
  (107, .aload_n 0, 0, 0, 0, 0),
  (108, .getfield 16, 2, 3, 3, 0),
  (111, .iload_n 3, 0, 0, 0, 0),
  (112, .iconst (0), 0, 0, 0, 0),
  (113, .bastore, 0, 0, 0, 0),
  (114, .iinc 3 (1), 0, 0, 0, 1),
  (117, .goto (-16), 101, 0, 0, 0),
  (120, .aload_n 0, 0, 0, 0, 0),
  (121, .getfield 182, 2, 6, 0, 0),
  (124, .ireturn, 0, 0, 0, 0)]
/-- PackDeskModel.cut(I)Z -/
def cz_28 : List ez_C := [(0, .aload_n 0, 0, 0, 0, 0),
  (1, .iconst (0), 0, 0, 0, 0),
  (2, .putfield 179, 2, 0, 0, 0),
  (5, .iload_n 1, 0, 0, 0, 0),
  (6, .ifCond .lt (11), 17, 0, 0, 0),
  (9, .iload_n 1, 0, 0, 0, 0),
  (10, .aload_n 0, 0, 0, 0, 0),
  (11, .getfield 182, 2, 6, 0, 0),
  (14, .if_icmp .le (5), 19, 0, 0, 0),
  (17, .iconst (0), 0, 0, 0, 0),
  (18, .ireturn, 1, 0, 0, 0),
  (19, .aload_n 0, 0, 0, 0, 0),
  (20, .iload_n 1, 0, 0, 0, 0),
  (21, .putfield 182, 2, 6, 0, 0),
  (24, .iconst (1), 0, 0, 0, 1),
  (25, .ireturn, 1, 0, 0, 0)]
/-- PackDeskModel.flip(II)Z -/
def cz_29 : List ez_C := [(0, .aload_n 0, 0, 0, 0, 0),
  (1, .iconst (0), 0, 0, 0, 0),
  (2, .putfield 179, 2, 0, 0, 0),
  (5, .iload_n 1, 0, 0, 0, 0),
  (6, .ifCond .lt (21), 27, 0, 0, 0),
  (9, .iload_n 1, 0, 0, 0, 0),
  (10, .aload_n 0, 0, 0, 0, 0),
  (11, .getfield 182, 2, 6, 0, 0),
  (14, .if_icmp .ge (13), 27, 0, 0, 0),
  (17, .iload_n 2, 0, 0, 0, 0),
  (18, .ifCond .lt (9), 27, 0, 0, 0),
  (21, .iload_n 2, 0, 0, 0, 0),
  (22, .bipush (7), 0, 0, 0, 7),
  (24, .if_icmp .le (5), 29, 0, 0, 0),
  (27, .iconst (0), 0, 0, 0, 0),
  (28, .ireturn, 1, 0, 0, 0),
  (29, .aload_n 0, 0, 0, 0, 0),
  (30, .getfield 7, 2, 1, 3, 0),
  (33, .iload_n 1, 0, 0, 0, 0),
  (34, .aload_n 0, 0, 0, 0, 0),
  (35, .getfield 7, 2, 1, 3, 0),
  (38, .iload_n 1, 0, 0, 0, 0),
  (39, .baload, 0, 0, 0, 0),
  (40, .iconst (1), 0, 0, 0, 1),
  (41, .iload_n 2, 0, 0, 0, 0),
  (42, .ishl, 0, 0, 0, 0),
  (43, .ixor, 0, 0, 0, 0),
  (44, .i2b, 0, 0, 0, 0),
  (45, .bastore, 0, 0, 0, 0),
  (46, .iconst (1), 0, 0, 0, 1),
  (47, .ireturn, 1, 0, 0, 0)]
/-- PackDeskModel.take()I -/
def cz_30 : List ez_C := [(0, .aload_n 0, 0, 0, 0, 0),
  (1, .aload_n 0, 0, 0, 0, 0),
  (2, .getfield 185, 2, 7, 0, 0),
  (5, .sipush (6000), 0, 0, 0, 6000),
  (8, .if_icmp .le (7), 15, 0, 0, 0),
  (11, .iconst (1), 0, 0, 0, 1),
  (12, .goto (4), 16, 0, 0, 0),
  (15, .iconst (0), 0, 0, 0, 0),
  (16, .putfield 179, 2, 0, 0, 0),
  (19, .aload_n 0, 0, 0, 0, 0),
  (20, .getfield 179, 2, 0, 0, 0),
  (23, .ifCond .le (5), 28, 0, 0, 0),
  (26, .iconst (0), 0, 0, 0, 0),
  (27, .ireturn, 0, 0, 0, 0),
  (28, .iconst (0), 0, 0, 0, 0),
  (29, .istore_n 1, 0, 0, 0, 0),
  (30, .iload_n 1, 0, 0, 0, 0),
  (31, .aload_n 0, 0, 0, 0, 0),
  (32, .getfield 185, 2, 7, 0, 0),
  (35, .if_icmp .ge (21), 56, 0, 0, 0),
  (38, .aload_n 0, 0, 0, 0, 0),
  (39, .getfield 7, 2, 1, 3, 0),
  (42, .iload_n 1, 0, 0, 0, 0),
  (43, .aload_n 0, 0, 0, 0, 0),
  (44, .getfield 13, 2, 2, 3, 0),
  (47, .iload_n 1, 0, 0, 0, 0),
  (48, .baload, 0, 0, 0, 0),
  (49, .bastore, 0, 0, 0, 0),
  (50, .iinc 1 (1), 0, 0, 0, 1),
  (53, .goto (-23), 30, 0, 0, 0),
  (56, .aload_n 0, 0, 0, 0, 0),
  (57, .aload_n 0, 0, 0, 0, 0),
  (58, .getfield 185, 2, 7, 0, 0),
  (61, .putfield 182, 2, 6, 0, 0),
  (64, .aload_n 0, 0, 0, 0, 0),
  (65, .getfield 182, 2, 6, 0, 0),
  (68, .ireturn, 0, 0, 0, 0)]
/-- PackDeskModel.crc()I -/
def cz_31 : List ez_C := [(0, .aload_n 0, 0, 0, 0, 0),
  (1, .iconst (0), 0, 0, 0, 0),
  (2, .putfield 179, 2, 0, 0, 0),
  (5, .iconst (-1), 0, 0, 0, (-1)),
  (6, .istore_n 1, 0, 0, 0, 0),
  (7, .iconst (0), 0, 0, 0, 0),
  (8, .istore_n 2, 0, 0, 0, 0),
  (9, .iload_n 2, 0, 0, 0, 0),
  (10, .aload_n 0, 0, 0, 0, 0),
  (11, .getfield 182, 2, 6, 0, 0),
  (14, .if_icmp .ge (56), 70, 0, 0, 0),
  (17, .iload_n 1, 0, 0, 0, 0),
  (18, .aload_n 0, 0, 0, 0, 0),
  (19, .getfield 7, 2, 1, 3, 0),
  (22, .iload_n 2, 0, 0, 0, 0),
  (23, .baload, 0, 0, 0, 0),
  (24, .sipush (255), 0, 0, 0, 255),
  (27, .iand, 0, 0, 0, 0),
  (28, .ixor, 0, 0, 0, 0),
  (29, .istore_n 1, 0, 0, 0, 0),
  (30, .iconst (0), 0, 0, 0, 0),
  (31, .istore_n 3, 0, 0, 0, 0),
  (32, .iload_n 3, 0, 0, 0, 0),
  (33, .bipush (8), 0, 0, 0, 8),
  (35, .if_icmp .ge (29), 64, 0, 0, 0),
  (38, .iload_n 1, 0, 0, 0, 0),
  (39, .iconst (1), 0, 0, 0, 1),
  (40, .iand, 0, 0, 0, 0),
  (41, .iconst (1), 0, 0, 0, 1),
  (42, .if_icmp .ne (12), 54, 0, 0, 0),
  (45, .iload_n 1, 0, 0, 0, 0),
  (46, .iconst (1), 0, 0, 0, 1),
  (47, .iushr, 0, 0, 0, 0),
  (48, .ldc 188, 0, 0, 0, (-306674912)),
  (50, .ixor, 0, 0, 0, 0),
  (51, .goto (6), 57, 0, 0, 0),
  (54, .iload_n 1, 0, 0, 0, 0),
  (55, .iconst (1), 0, 0, 0, 1),
  (56, .iushr, 0, 0, 0, 0),
  (57, .istore_n 1, 0, 0, 0, 0),
  (58, .iinc 3 (1), 0, 0, 0, 1),
  (61, .goto (-29), 32, 0, 0, 0),
  (64, .iinc 2 (1), 0, 0, 0, 1),
  (67, .goto (-58), 9, 0, 0, 0),
  (70, .iload_n 1, 0, 0, 0, 0),
  (71, .iconst (-1), 0, 0, 0, (-1)),
  (72, .ixor, 0, 0, 0, 0),
  (73, .ireturn, 0, 0, 0, 0)]
/-- PackDeskModel.longest(I)V -/
def cz_32 : List ez_C := [(0, .aload_n 0, 0, 0, 0, 0),
  (1, .getfield 182, 2, 6, 0, 0),
  (4, .iload_n 1, 0, 0, 0, 0),
  (5, .isub, 0, 0, 0, 0),
  (6, .sipush (258), 0, 0, 0, 258),
  (9, .if_icmp .ge (12), 21, 0, 0, 0),
  (12, .aload_n 0, 0, 0, 0, 0),
  (13, .getfield 182, 2, 6, 0, 0),
  (16, .iload_n 1, 0, 0, 0, 0),
  (17, .isub, 0, 0, 0, 0),
  (18, .goto (6), 24, 0, 0, 0),
  (21, .sipush (258), 0, 0, 0, 258),
  (24, .istore_n 2, 0, 0, 0, 0),
  (25, .aload_n 0, 0, 0, 0, 0),
  (26, .iconst (2), 0, 0, 0, 2),
  (27, .putfield 189, 2, 17, 0, 0),
  (30, .aload_n 0, 0, 0, 0, 0),
  (31, .iconst (0), 0, 0, 0, 0),
  (32, .putfield 192, 2, 18, 0, 0),
  (35, .iload_n 2, 0, 0, 0, 0),
  (36, .iconst (3), 0, 0, 0, 3),
  (37, .if_icmp .ge (7), 44, 0, 0, 0),
  (40, .iconst (-1), 0, 0, 0, (-1)),
  (41, .goto (9), 50, 0, 0, 0),
  (44, .aload_n 0, 0, 0, 0, 0),
  (45, .getfield 38, 2, 12, 3, 0),
  (48, .iload_n 1, 0, 0, 0, 0),
  (49, .iaload, 0, 0, 0, 0),
  (50, .istore_n 3, 0, 0, 0, 0),
  (51, .iload_n 3, 0, 0, 0, 0),
  (52, .ifCond .lt (91), 143, 0, 0, 0),
  (55, .iload_n 1, 0, 0, 0, 0),
  (56, .iload_n 3, 0, 0, 0, 0),
  (57, .isub, 0, 0, 0, 0),
  (58, .sipush (4096), 0, 0, 0, 4096),
  (61, .if_icmp .gt (82), 143, 0, 0, 0),
  (64, .aload_n 0, 0, 0, 0, 0),
  (65, .getfield 189, 2, 17, 0, 0),
  (68, .iload_n 2, 0, 0, 0, 0),
  (69, .if_icmp .ge (74), 143, 0, 0, 0),
  (72, .iconst (0), 0, 0, 0, 0),
  (73, .istore 4, 0, 0, 0, 0),
  (75, .iload 4, 0, 0, 0, 0),
  (77, .iload_n 2, 0, 0, 0, 0),
  (78, .if_icmp .ge (30), 108, 0, 0, 0),
  (81, .aload_n 0, 0, 0, 0, 0),
  (82, .getfield 7, 2, 1, 3, 0),
  (85, .iload_n 3, 0, 0, 0, 0),
  (86, .iload 4, 0, 0, 0, 0),
  (88, .iadd, 0, 0, 0, 0),
  (89, .baload, 0, 0, 0, 0),
  (90, .aload_n 0, 0, 0, 0, 0),
  (91, .getfield 7, 2, 1, 3, 0),
  (94, .iload_n 1, 0, 0, 0, 0),
  (95, .iload 4, 0, 0, 0, 0),
  (97, .iadd, 0, 0, 0, 0),
  (98, .baload, 0, 0, 0, 0),
  (99, .if_icmp .ne (9), 108, 0, 0, 0),
  (102, .iinc 4 (1), 0, 0, 0, 1),
  (105, .goto (-30), 75, 0, 0, 0),
  (108, .iload 4, 0, 0, 0, 0),
  (110, .aload_n 0, 0, 0, 0, 0),
  (111, .getfield 189, 2, 17, 0, 0),
  (114, .if_icmp .gt (6), 120, 0, 0, 0),
  (117, .goto (16), 133, 0, 0, 0),
  (120, .aload_n 0, 0, 0, 0, 0),
  (121, .iload 4, 0, 0, 0, 0),
  (123, .putfield 189, 2, 17, 0, 0),
  (126, .aload_n 0, 0, 0, 0, 0),
  (127, .iload_n 1, 0, 0, 0, 0),
  (128, .iload_n 3, 0, 0, 0, 0),
  (129, .isub, 0, 0, 0, 0),
  (130, .putfield 192, 2, 18, 0, 0),
  (133, .aload_n 0, 0, 0, 0, 0),
  (134, .getfield 38, 2, 12, 3, 0),
  (137, .iload_n 3, 0, 0, 0, 0),
  (138, .iaload, 0, 0, 0, 0),
  (139, .istore_n 3, 0, 0, 0, 0),
  (140, .goto (-89), 51, 0, 0, 0),
  (143, .aload_n 0, 0, 0, 0, 0),
  (144, .getfield 192, 2, 18, 0, 0),
  (147, .ifCond .ne (8), 155, 0, 0, 0),
  (150, .aload_n 0, 0, 0, 0, 0),
  (151, .iconst (0), 0, 0, 0, 0),
  (152, .putfield 189, 2, 17, 0, 0),
  (155, .return_, 0, 0, 0, 0)]
/-- PackDeskModel.findParts()V -/
def cz_33 : List ez_C := [(0, .iconst (0), 0, 0, 0, 0),
  (1, .istore_n 1, 0, 0, 0, 0),
  (2, .iload_n 1, 0, 0, 0, 0),
  (3, .ldc 41, 0, 0, 0, 65536),
  (5, .if_icmp .ge (16), 21, 0, 0, 0),
  (8, .aload_n 0, 0, 0, 0, 0),
  (9, .getfield 42, 2, 13, 3, 0),
  (12, .iload_n 1, 0, 0, 0, 0),
  (13, .iconst (-1), 0, 0, 0, (-1)),
  (14, .iastore, 0, 0, 0, 0),
  (15, .iinc 1 (1), 0, 0, 0, 1),
  (18, .goto (-16), 2, 0, 0, 0),
  (21, .iconst (0), 0, 0, 0, 0),
  (22, .istore_n 1, 0, 0, 0, 0),
  (23, .iload_n 1, 0, 0, 0, 0),
  (24, .iconst (1), 0, 0, 0, 1),
  (25, .iadd, 0, 0, 0, 0),
  (26, .aload_n 0, 0, 0, 0, 0),
  (27, .getfield 182, 2, 6, 0, 0),
  (30, .if_icmp .ge (55), 85, 0, 0, 0),
  (33, .aload_n 0, 0, 0, 0, 0),
  (34, .getfield 7, 2, 1, 3, 0),
  (37, .iload_n 1, 0, 0, 0, 0),
  (38, .baload, 0, 0, 0, 0),
  (39, .sipush (255), 0, 0, 0, 255),
  (42, .iand, 0, 0, 0, 0),
  (43, .bipush (8), 0, 0, 0, 8),
  (45, .ishl, 0, 0, 0, 0),
  (46, .aload_n 0, 0, 0, 0, 0),
  (47, .getfield 7, 2, 1, 3, 0),
  (50, .iload_n 1, 0, 0, 0, 0),
  (51, .iconst (1), 0, 0, 0, 1),
  (52, .iadd, 0, 0, 0, 0),
  (53, .baload, 0, 0, 0, 0),
  (54, .sipush (255), 0, 0, 0, 255),
  (57, .iand, 0, 0, 0, 0),
  (58, .ior, 0, 0, 0, 0),
  (59, .istore_n 2, 0, 0, 0, 0),
  (60, .aload_n 0, 0, 0, 0, 0),
  (61, .getfield 38, 2, 12, 3, 0),
  (64, .iload_n 1, 0, 0, 0, 0),
  (65, .aload_n 0, 0, 0, 0, 0),
  (66, .getfield 42, 2, 13, 3, 0),
  (69, .iload_n 2, 0, 0, 0, 0),
  (70, .iaload, 0, 0, 0, 0),
  (71, .iastore, 0, 0, 0, 0),
  (72, .aload_n 0, 0, 0, 0, 0),
  (73, .getfield 42, 2, 13, 3, 0),
  (76, .iload_n 2, 0, 0, 0, 0),
  (77, .iload_n 1, 0, 0, 0, 0),
  (78, .iastore, 0, 0, 0, 0),
  (79, .iinc 1 (1), 0, 0, 0, 1),
  (82, .goto (-59), 23, 0, 0, 0),
  (85, .aload_n 0, 0, 0, 0, 0),
  (86, .getfield 182, 2, 6, 0, 0),
  (89, .ifCond .le (15), 104, 0, 0, 0),
  (92, .aload_n 0, 0, 0, 0, 0),
  (93, .getfield 38, 2, 12, 3, 0),
  (96, .aload_n 0, 0, 0, 0, 0),
  (97, .getfield 182, 2, 6, 0, 0),
  (100, .iconst (1), 0, 0, 0, 1),
  (101, .isub, 0, 0, 0, 0),
  (102, .iconst (-1), 0, 0, 0, (-1)),
  (103, .iastore, 0, 0, 0, 0),
  (104, .aload_n 0, 0, 0, 0, 0),
  (105, .iconst (0), 0, 0, 0, 0),
  (106, .putfield 195, 2, 14, 0, 0),
  (109, .iconst (0), 0, 0, 0, 0),
  (110, .istore_n 1, 0, 0, 0, 0),
  (111, .iload_n 1, 0, 0, 0, 0),
  (112, .aload_n 0, 0, 0, 0, 0),
  (113, .getfield 182, 2, 6, 0, 0),
  (116, .if_icmp .ge (146), 262, 0, 0, 0),
  (119, .aload_n 0, 0, 0, 0, 0),
  (120, .iload_n 1, 0, 0, 0, 0),
  (121, .invokevirtual 198, 32, 2, 2, 0),
  (124, .aload_n 0, 0, 0, 0, 0),
  (125, .getfield 189, 2, 17, 0, 0),
  (128, .istore_n 2, 0, 0, 0, 0),
  (129, .aload_n 0, 0, 0, 0, 0),
  (130, .getfield 192, 2, 18, 0, 0),
  (133, .istore_n 3, 0, 0, 0, 0),
  (134, .iload_n 2, 0, 0, 0, 0),
  (135, .ifCond .le (30), 165, 0, 0, 0),
  (138, .iload_n 1, 0, 0, 0, 0),
  (139, .iconst (1), 0, 0, 0, 1),
  (140, .iadd, 0, 0, 0, 0),
  (141, .aload_n 0, 0, 0, 0, 0),
  (142, .getfield 182, 2, 6, 0, 0),
  (145, .if_icmp .ge (20), 165, 0, 0, 0),
  (148, .aload_n 0, 0, 0, 0, 0),
  (149, .iload_n 1, 0, 0, 0, 0),
  (150, .iconst (1), 0, 0, 0, 1),
  (151, .iadd, 0, 0, 0, 0),
  (152, .invokevirtual 198, 32, 2, 2, 0),
  (155, .aload_n 0, 0, 0, 0, 0),
  (156, .getfield 189, 2, 17, 0, 0),
  (159, .iload_n 2, 0, 0, 0, 0),
  (160, .if_icmp .le (5), 165, 0, 0, 0),
  (163, .iconst (0), 0, 0, 0, 0),
  (164, .istore_n 2, 0, 0, 0, 0),
  (165, .aload_n 0, 0, 0, 0, 0),
  (166, .getfield 25, 2, 8, 3, 0),
  (169, .aload_n 0, 0, 0, 0, 0),
  (170, .getfield 195, 2, 14, 0, 0),
  (173, .iload_n 2, 0, 0, 0, 0),
  (174, .ifCond .le (7), 181, 0, 0, 0),
  (177, .iload_n 2, 0, 0, 0, 0),
  (178, .goto (4), 182, 0, 0, 0),
  (181, .iconst (1), 0, 0, 0, 1),
  (182, .iastore, 0, 0, 0, 0),
  (183, .aload_n 0, 0, 0, 0, 0),
  (184, .getfield 29, 2, 9, 3, 0),
  (187, .aload_n 0, 0, 0, 0, 0),
  (188, .getfield 195, 2, 14, 0, 0),
  (191, .iload_n 2, 0, 0, 0, 0),
  (192, .ifCond .le (7), 199, 0, 0, 0),
  (195, .iload_n 3, 0, 0, 0, 0),
  (196, .goto (4), 200, 0, 0, 0),
  (199, .iconst (0), 0, 0, 0, 0),
  (200, .iastore, 0, 0, 0, 0),
  (201, .aload_n 0, 0, 0, 0, 0),
  (202, .getfield 32, 2, 10, 3, 0),
  (205, .aload_n 0, 0, 0, 0, 0),
  (206, .getfield 195, 2, 14, 0, 0),
  (209, .aload_n 0, 0, 0, 0, 0),
  (210, .getfield 7, 2, 1, 3, 0),
  (213, .iload_n 1, 0, 0, 0, 0),
  (214, .baload, 0, 0, 0, 0),
  (215, .sipush (255), 0, 0, 0, 255),
  (218, .iand, 0, 0, 0, 0),
  (219, .iastore, 0, 0, 0, 0),
  (220, .aload_n 0, 0, 0, 0, 0),
  (221, .getfield 35, 2, 11, 3, 0),
  (224, .aload_n 0, 0, 0, 0, 0),
  (225, .getfield 195, 2, 14, 0, 0),
  (228, .aload_n 0, 0, 0, 0, 0),
  (229, .getfield 195, 2, 14, 0, 0),
  (232, .sipush (600), 0, 0, 0, 600),
  (235, .idiv, 0, 0, 0, 0),
  (236, .iastore, 0, 0, 0, 0),
  (237, .aload_n 0, 0, 0, 0, 0),
  (238, .dup, 0, 0, 0, 0),
  (239, .getfield 195, 2, 14, 0, 0),
  (242, .iconst (1), 0, 0, 0, 1),
  (243, .iadd, 0, 0, 0, 0),
  (244, .putfield 195, 2, 14, 0, 0),
  (247, .iload_n 1, 0, 0, 0, 0),
  (248, .iload_n 2, 0, 0, 0, 0),
  (249, .ifCond .le (7), 256, 0, 0, 0),
  (252, .iload_n 2, 0, 0, 0, 0),
  (253, .goto (4), 257, 0, 0, 0),
  (256, .iconst (1), 0, 0, 0, 1),
  (257, .iadd, 0, 0, 0, 0),
  (258, .istore_n 1, 0, 0, 0, 0),
  (259, .goto (-148), 111, 0, 0, 0),
  (262, .return_, 0, 0, 0, 0)]
/-- PackDeskModel.lengthCode(I)I -/
def cz_34 : List ez_C := [(0, .bipush (28), 0, 0, 0, 28),
  (2, .istore_n 2, 0, 0, 0, 0),
  (3, .aload_n 0, 0, 0, 0, 0),
  (4, .getfield 72, 2, 28, 3, 0),
  (7, .iload_n 2, 0, 0, 0, 0),
  (8, .iaload, 0, 0, 0, 0),
  (9, .iload_n 1, 0, 0, 0, 0),
  (10, .if_icmp .le (9), 19, 0, 0, 0),
  (13, .iinc 2 (-1), 0, 0, 0, (-1)),
  (16, .goto (-13), 3, 0, 0, 0),
  (19, .iload_n 2, 0, 0, 0, 0),
  (20, .ireturn, 0, 0, 0, 0)]
/-- PackDeskModel.backCode(I)I -/
def cz_35 : List ez_C := [(0, .bipush (29), 0, 0, 0, 29),
  (2, .istore_n 2, 0, 0, 0, 0),
  (3, .aload_n 0, 0, 0, 0, 0),
  (4, .getfield 78, 2, 30, 3, 0),
  (7, .iload_n 2, 0, 0, 0, 0),
  (8, .iaload, 0, 0, 0, 0),
  (9, .iload_n 1, 0, 0, 0, 0),
  (10, .if_icmp .le (9), 19, 0, 0, 0),
  (13, .iinc 2 (-1), 0, 0, 0, (-1)),
  (16, .goto (-13), 3, 0, 0, 0),
  (19, .iload_n 2, 0, 0, 0, 0),
  (20, .ireturn, 0, 0, 0, 0)]
/-- PackDeskModel.putPackage(IIIIII)V -/
def cz_36 : List ez_C := [(0, .aload_n 0, 0, 0, 0, 0),
  (1, .getfield 132, 2, 48, 3, 0),
  (4, .iload_n 1, 0, 0, 0, 0),
  (5, .iload_n 3, 0, 0, 0, 0),
  (6, .iastore, 0, 0, 0, 0),
  (7, .iconst (0), 0, 0, 0, 0),
  (8, .istore 7, 0, 0, 0, 0),
  (10, .iload 7, 0, 0, 0, 0),
  (12, .iload_n 2, 0, 0, 0, 0),
  (13, .if_icmp .ge (71), 84, 0, 0, 0),
  (16, .aload_n 0, 0, 0, 0, 0),
  (17, .getfield 139, 2, 50, 3, 0),
  (20, .sipush (288), 0, 0, 0, 288),
  (23, .iload_n 1, 0, 0, 0, 0),
  (24, .imul, 0, 0, 0, 0),
  (25, .iload 7, 0, 0, 0, 0),
  (27, .iadd, 0, 0, 0, 0),
  (28, .iload 6, 0, 0, 0, 0),
  (30, .ifCond .lt (18), 48, 0, 0, 0),
  (33, .iload 7, 0, 0, 0, 0),
  (35, .iload 6, 0, 0, 0, 0),
  (37, .if_icmp .ne (7), 44, 0, 0, 0),
  (40, .iconst (1), 0, 0, 0, 1),
  (41, .goto (36), 77, 0, 0, 0),
  (44, .iconst (0), 0, 0, 0, 0),
  (45, .goto (32), 77, 0, 0, 0),
  (48, .aload_n 0, 0, 0, 0, 0),
  (49, .getfield 136, 2, 49, 3, 0),
  (52, .sipush (288), 0, 0, 0, 288),
  (55, .iload 4, 0, 0, 0, 0),
  (57, .imul, 0, 0, 0, 0),
  (58, .iload 7, 0, 0, 0, 0),
  (60, .iadd, 0, 0, 0, 0),
  (61, .iaload, 0, 0, 0, 0),
  (62, .aload_n 0, 0, 0, 0, 0),
  (63, .getfield 136, 2, 49, 3, 0),
  (66, .sipush (288), 0, 0, 0, 288),
  (69, .iload 5, 0, 0, 0, 0),
  (71, .imul, 0, 0, 0, 0),
  (72, .iload 7, 0, 0, 0, 0),
  (74, .iadd, 0, 0, 0, 0),
  (75, .iaload, 0, 0, 0, 0),
  (76, .iadd, 0, 0, 0, 0),
  (77, .iastore, 0, 0, 0, 0),
  (78, .iinc 7 (1), 0, 0, 0, 1),
  (81, .goto (-71), 10, 0, 0, 0),
  (84, .return_, 0, 0, 0, 0)]
/-- PackDeskModel.lengths([III[I)V -/
def cz_37 : List ez_C := [(0, .iconst (0), 0, 0, 0, 0),
  (1, .istore 5, 0, 0, 0, 0),
  (3, .iconst (0), 0, 0, 0, 0),
  (4, .istore 6, 0, 0, 0, 0),
  (6, .iload 6, 0, 0, 0, 0),
  (8, .iload_n 2, 0, 0, 0, 0),
  (9, .if_icmp .ge (86), 95, 0, 0, 0),
  (12, .aload 4, 0, 0, 0, 0),
  (14, .iload 6, 0, 0, 0, 0),
  (16, .iconst (0), 0, 0, 0, 0),
  (17, .iastore, 0, 0, 0, 0),
  (18, .aload_n 1, 0, 0, 0, 0),
  (19, .iload 6, 0, 0, 0, 0),
  (21, .iaload, 0, 0, 0, 0),
  (22, .ifCond .ne (6), 28, 0, 0, 0),
  (25, .goto (64), 89, 0, 0, 0),
  (28, .iload 5, 0, 0, 0, 0),
  (30, .istore 7, 0, 0, 0, 0),
  (32, .iload 7, 0, 0, 0, 0),
  (34, .ifCond .le (43), 77, 0, 0, 0),
  (37, .aload_n 1, 0, 0, 0, 0),
  (38, .aload_n 0, 0, 0, 0, 0),
  (39, .getfield 126, 2, 46, 3, 0),
  (42, .iload 7, 0, 0, 0, 0),
  (44, .iconst (1), 0, 0, 0, 1),
  (45, .isub, 0, 0, 0, 0),
  (46, .iaload, 0, 0, 0, 0),
  (47, .iaload, 0, 0, 0, 0),
  (48, .aload_n 1, 0, 0, 0, 0),
  (49, .iload 6, 0, 0, 0, 0),
  (51, .iaload, 0, 0, 0, 0),
  (52, .if_icmp .le (25), 77, 0, 0, 0),
  (55, .aload_n 0, 0, 0, 0, 0),
  (56, .getfield 126, 2, 46, 3, 0),
  (59, .iload 7, 0, 0, 0, 0),
  (61, .aload_n 0, 0, 0, 0, 0),
  (62, .getfield 126, 2, 46, 3, 0),
  (65, .iload 7, 0, 0, 0, 0),
  (67, .iconst (1), 0, 0, 0, 1),
  (68, .isub, 0, 0, 0, 0),
  (69, .iaload, 0, 0, 0, 0),
  (70, .iastore, 0, 0, 0, 0),
  (71, .iinc 7 (-1), 0, 0, 0, (-1)),
  (74, .goto (-42), 32, 0, 0, 0),
  (77, .aload_n 0, 0, 0, 0, 0),
  (78, .getfield 126, 2, 46, 3, 0),
  (81, .iload 7, 0, 0, 0, 0),
  (83, .iload 6, 0, 0, 0, 0),
  (85, .iastore, 0, 0, 0, 0),
  (86, .iinc 5 (1), 0, 0, 0, 1),
  (89, .iinc 6 (1), 0, 0, 0, 1),
  (92, .goto (-86), 6, 0, 0, 0),
  (95, .iload 5, 0, 0, 0, 0),
  (97, .iconst (1), 0, 0, 0, 1),
  (98, .if_icmp .ne (13), 111, 0, 0, 0),
  (101, .aload 4, 0, 0, 0, 0),
  (103, .aload_n 0, 0, 0, 0, 0),
  (104, .getfield 126, 2, 46, 3, 0),
  (107, .iconst (0), 0, 0, 0, 0),
  (108, .iaload, 0, 0, 0, 0),
  (109, .iconst (1), 0, 0, 0, 1),
  (110, .iastore, 0, 0, 0, 0),
  (111, .iload 5, 0, 0, 0, 0),
  (113, .iconst (2), 0, 0, 0, 2),
  (114, .if_icmp .ge (4), 118, 0, 0, 0),
  (117, .return_, 0, 0, 0, 0),
  (118, .iload 5, 0, 0, 0, 0),
  (120, .istore 6, 0, 0, 0, 0),
  (122, .iconst (0), 0, 0, 0, 0),
  (123, .istore 7, 0, 0, 0, 0),
  (125, .iload 7, 0, 0, 0, 0),
  (127, .iload 5, 0, 0, 0, 0),
  (129, .if_icmp .ge (67), 196, 0, 0, 0),
  (132, .aload_n 0, 0, 0, 0, 0),
  (133, .getfield 129, 2, 47, 3, 0),
  (136, .iload 7, 0, 0, 0, 0),
  (138, .aload_n 1, 0, 0, 0, 0),
  (139, .aload_n 0, 0, 0, 0, 0),
  (140, .getfield 126, 2, 46, 3, 0),
  (143, .iload 7, 0, 0, 0, 0),
  (145, .iaload, 0, 0, 0, 0),
  (146, .iaload, 0, 0, 0, 0),
  (147, .iastore, 0, 0, 0, 0),
  (148, .iconst (0), 0, 0, 0, 0),
  (149, .istore 8, 0, 0, 0, 0),
  (151, .iload 8, 0, 0, 0, 0),
  (153, .iload 5, 0, 0, 0, 0),
  (155, .if_icmp .ge (35), 190, 0, 0, 0),
  (158, .aload_n 0, 0, 0, 0, 0),
  (159, .getfield 136, 2, 49, 3, 0),
  (162, .sipush (288), 0, 0, 0, 288),
  (165, .iload 7, 0, 0, 0, 0),
  (167, .imul, 0, 0, 0, 0),
  (168, .iload 8, 0, 0, 0, 0),
  (170, .iadd, 0, 0, 0, 0),
  (171, .iload 8, 0, 0, 0, 0),
  (173, .iload 7, 0, 0, 0, 0),
  (175, .if_icmp .ne (7), 182, 0, 0, 0),
  (178, .iconst (1), 0, 0, 0, 1),
  (179, .goto (4), 183, 0, 0, 0),
  (182, .iconst (0), 0, 0, 0, 0),
  (183, .iastore, 0, 0, 0, 0),
  (184, .iinc 8 (1), 0, 0, 0, 1),
  (187, .goto (-36), 151, 0, 0, 0),
  (190, .iinc 7 (1), 0, 0, 0, 1),
  (193, .goto (-68), 125, 0, 0, 0),
  (196, .iconst (1), 0, 0, 0, 1),
  (197, .istore 7, 0, 0, 0, 0),
  (199, .iload 7, 0, 0, 0, 0),
  (201, .iload_n 3, 0, 0, 0, 0),
  (202, .if_icmp .ge (237), 439, 0, 0, 0),
  (205, .iconst (0), 0, 0, 0, 0),
  (206, .istore 8, 0, 0, 0, 0),
  (208, .iconst (0), 0, 0, 0, 0),
  (209, .istore 9, 0, 0, 0, 0),
  (211, .iconst (0), 0, 0, 0, 0),
  (212, .istore 10, 0, 0, 0, 0),
  (214, .iload 8, 0, 0, 0, 0),
  (216, .iconst (1), 0, 0, 0, 1),
  (217, .iadd, 0, 0, 0, 0),
  (218, .iload 6, 0, 0, 0, 0),
  (220, .if_icmp .lt (10), 230, 0, 0, 0),
  (223, .iload 9, 0, 0, 0, 0),
  (225, .iload 5, 0, 0, 0, 0),
  (227, .if_icmp .ge (128), 355, 0, 0, 0),
  (230, .iload 9, 0, 0, 0, 0),
  (232, .iload 5, 0, 0, 0, 0),
  (234, .if_icmp .ge (45), 279, 0, 0, 0),
  (237, .iload 8, 0, 0, 0, 0),
  (239, .iconst (1), 0, 0, 0, 1),
  (240, .iadd, 0, 0, 0, 0),
  (241, .iload 6, 0, 0, 0, 0),
  (243, .if_icmp .ge (32), 275, 0, 0, 0),
  (246, .aload_n 1, 0, 0, 0, 0),
  (247, .aload_n 0, 0, 0, 0, 0),
  (248, .getfield 126, 2, 46, 3, 0),
  (251, .iload 9, 0, 0, 0, 0),
  (253, .iaload, 0, 0, 0, 0),
  (254, .iaload, 0, 0, 0, 0),
  (255, .aload_n 0, 0, 0, 0, 0),
  (256, .getfield 129, 2, 47, 3, 0),
  (259, .iload 8, 0, 0, 0, 0),
  (261, .iaload, 0, 0, 0, 0),
  (262, .aload_n 0, 0, 0, 0, 0),
  (263, .getfield 129, 2, 47, 3, 0),
  (266, .iload 8, 0, 0, 0, 0),
  (268, .iconst (1), 0, 0, 0, 1),
  (269, .iadd, 0, 0, 0, 0),
  (270, .iaload, 0, 0, 0, 0),
  (271, .iadd, 0, 0, 0, 0),
  (272, .if_icmp .gt (7), 279, 0, 0, 0),
  (275, .iconst (1), 0, 0, 0, 1),
  (276, .goto (4), 280, 0, 0, 0),
  (279, .iconst (0), 0, 0, 0, 0),
  (280, .istore 11, 0, 0, 0, 0),
  (282, .iload 11, 0, 0, 0, 0),
  (284, .ifCond .eq (30), 314, 0, 0, 0),
  (287, .aload_n 0, 0, 0, 0, 0),
  (288, .iload 10, 0, 0, 0, 0),
  (290, .iload 5, 0, 0, 0, 0),
  (292, .aload_n 1, 0, 0, 0, 0),
  (293, .aload_n 0, 0, 0, 0, 0),
  (294, .getfield 126, 2, 46, 3, 0),
  (297, .iload 9, 0, 0, 0, 0),
  (299, .iaload, 0, 0, 0, 0),
  (300, .iaload, 0, 0, 0, 0),
  (301, .iconst (0), 0, 0, 0, 0),
  (302, .iconst (0), 0, 0, 0, 0),
  (303, .iload 9, 0, 0, 0, 0),
  (305, .invokevirtual 202, 36, 7, 2, 0),
  (308, .iinc 9 (1), 0, 0, 0, 1),
  (311, .goto (38), 349, 0, 0, 0),
  (314, .aload_n 0, 0, 0, 0, 0),
  (315, .iload 10, 0, 0, 0, 0),
  (317, .iload 5, 0, 0, 0, 0),
  (319, .aload_n 0, 0, 0, 0, 0),
  (320, .getfield 129, 2, 47, 3, 0),
  (323, .iload 8, 0, 0, 0, 0),
  (325, .iaload, 0, 0, 0, 0),
  (326, .aload_n 0, 0, 0, 0, 0),
  (327, .getfield 129, 2, 47, 3, 0),
  (330, .iload 8, 0, 0, 0, 0),
  (332, .iconst (1), 0, 0, 0, 1),
  (333, .iadd, 0, 0, 0, 0),
  (334, .iaload, 0, 0, 0, 0),
  (335, .iadd, 0, 0, 0, 0),
  (336, .iload 8, 0, 0, 0, 0),
  (338, .iload 8, 0, 0, 0, 0),
  (340, .iconst (1), 0, 0, 0, 1),
  (341, .iadd, 0, 0, 0, 0),
  (342, .iconst (-1), 0, 0, 0, (-1)),
  (343, .invokevirtual 202, 36, 7, 2, 0),
  (346, .iinc 8 (2), 0, 0, 0, 2),
  (349, .iinc 10 (1), 0, 0, 0, 1),
  (352, .goto (-138), 214, 0, 0, 0),
  (355, .iload 10, 0, 0, 0, 0),
  (357, .istore 6, 0, 0, 0, 0),
  (359, .iconst (0), 0, 0, 0, 0),
  (360, .istore 11, 0, 0, 0, 0),
  (362, .iload 11, 0, 0, 0, 0),
  (364, .iload 6, 0, 0, 0, 0),
  (366, .if_icmp .ge (67), 433, 0, 0, 0),
  (369, .aload_n 0, 0, 0, 0, 0),
  (370, .getfield 129, 2, 47, 3, 0),
  (373, .iload 11, 0, 0, 0, 0),
  (375, .aload_n 0, 0, 0, 0, 0),
  (376, .getfield 132, 2, 48, 3, 0),
  (379, .iload 11, 0, 0, 0, 0),
  (381, .iaload, 0, 0, 0, 0),
  (382, .iastore, 0, 0, 0, 0),
  (383, .iconst (0), 0, 0, 0, 0),
  (384, .istore 12, 0, 0, 0, 0),
  (386, .iload 12, 0, 0, 0, 0),
  (388, .iload 5, 0, 0, 0, 0),
  (390, .if_icmp .ge (37), 427, 0, 0, 0),
  (393, .aload_n 0, 0, 0, 0, 0),
  (394, .getfield 136, 2, 49, 3, 0),
  (397, .sipush (288), 0, 0, 0, 288),
  (400, .iload 11, 0, 0, 0, 0),
  (402, .imul, 0, 0, 0, 0),
  (403, .iload 12, 0, 0, 0, 0),
  (405, .iadd, 0, 0, 0, 0),
  (406, .aload_n 0, 0, 0, 0, 0),
  (407, .getfield 139, 2, 50, 3, 0),
  (410, .sipush (288), 0, 0, 0, 288),
  (413, .iload 11, 0, 0, 0, 0),
  (415, .imul, 0, 0, 0, 0),
  (416, .iload 12, 0, 0, 0, 0),
  (418, .iadd, 0, 0, 0, 0),
  (419, .iaload, 0, 0, 0, 0),
  (420, .iastore, 0, 0, 0, 0),
  (421, .iinc 12 (1), 0, 0, 0, 1),
  (424, .goto (-38), 386, 0, 0, 0),
  (427, .iinc 11 (1), 0, 0, 0, 1),
  (430, .goto (-68), 362, 0, 0, 0),
  (433, .iinc 7 (1), 0, 0, 0, 1),
  (436, .goto (-237), 199, 0, 0, 0),
  (439, .iconst (0), 0, 0, 0, 0),
  (440, .istore 7, 0, 0, 0, 0),
  (442, .iload 7, 0, 0, 0, 0),
  (444, .iconst (2), 0, 0, 0, 2),
  (445, .iload 5, 0, 0, 0, 0),
  (447, .imul, 0, 0, 0, 0),
  (448, .iconst (2), 0, 0, 0, 2),
  (449, .isub, 0, 0, 0, 0),
  (450, .if_icmp .ge (52), 502, 0, 0, 0),
  (453, .iconst (0), 0, 0, 0, 0),
  (454, .istore 8, 0, 0, 0, 0),
  (456, .iload 8, 0, 0, 0, 0),
  (458, .iload 5, 0, 0, 0, 0),
  (460, .if_icmp .ge (36), 496, 0, 0, 0),
  (463, .aload 4, 0, 0, 0, 0),
  (465, .aload_n 0, 0, 0, 0, 0),
  (466, .getfield 126, 2, 46, 3, 0),
  (469, .iload 8, 0, 0, 0, 0),
  (471, .iaload, 0, 0, 0, 0),
  (472, .dup2, 0, 0, 0, 0),
  (473, .iaload, 0, 0, 0, 0),
  (474, .aload_n 0, 0, 0, 0, 0),
  (475, .getfield 136, 2, 49, 3, 0),
  (478, .sipush (288), 0, 0, 0, 288),
  (481, .iload 7, 0, 0, 0, 0),
  (483, .imul, 0, 0, 0, 0),
  (484, .iload 8, 0, 0, 0, 0),
  (486, .iadd, 0, 0, 0, 0),
  (487, .iaload, 0, 0, 0, 0),
  (488, .iadd, 0, 0, 0, 0),
  (489, .iastore, 0, 0, 0, 0),
  (490, .iinc 8 (1), 0, 0, 0, 1),
  (493, .goto (-37), 456, 0, 0, 0),
  (496, .iinc 7 (1), 0, 0, 0, 1),
  (499, .goto (-57), 442, 0, 0, 0),
  (502, .return_, 0, 0, 0, 0)]
/-- PackDeskModel.codes([II[I)V -/
def cz_38 : List ez_C := [(0, .iconst (0), 0, 0, 0, 0),
  (1, .istore 4, 0, 0, 0, 0),
  (3, .iload 4, 0, 0, 0, 0),
  (5, .bipush (17), 0, 0, 0, 17),
  (7, .if_icmp .ge (17), 24, 0, 0, 0),
  (10, .aload_n 0, 0, 0, 0, 0),
  (11, .getfield 142, 2, 51, 3, 0),
  (14, .iload 4, 0, 0, 0, 0),
  (16, .iconst (0), 0, 0, 0, 0),
  (17, .iastore, 0, 0, 0, 0),
  (18, .iinc 4 (1), 0, 0, 0, 1),
  (21, .goto (-18), 3, 0, 0, 0),
  (24, .iconst (0), 0, 0, 0, 0),
  (25, .istore 4, 0, 0, 0, 0),
  (27, .iload 4, 0, 0, 0, 0),
  (29, .iload_n 2, 0, 0, 0, 0),
  (30, .if_icmp .ge (33), 63, 0, 0, 0),
  (33, .aload_n 0, 0, 0, 0, 0),
  (34, .getfield 142, 2, 51, 3, 0),
  (37, .aload_n 1, 0, 0, 0, 0),
  (38, .iload 4, 0, 0, 0, 0),
  (40, .iaload, 0, 0, 0, 0),
  (41, .dup2, 0, 0, 0, 0),
  (42, .iaload, 0, 0, 0, 0),
  (43, .aload_n 1, 0, 0, 0, 0),
  (44, .iload 4, 0, 0, 0, 0),
  (46, .iaload, 0, 0, 0, 0),
  (47, .ifCond .le (7), 54, 0, 0, 0),
  (50, .iconst (1), 0, 0, 0, 1),
  (51, .goto (4), 55, 0, 0, 0),
  (54, .iconst (0), 0, 0, 0, 0),
  (55, .iadd, 0, 0, 0, 0),
  (56, .iastore, 0, 0, 0, 0),
  (57, .iinc 4 (1), 0, 0, 0, 1),
  (60, .goto (-33), 27, 0, 0, 0),
  (63, .iconst (0), 0, 0, 0, 0),
  (64, .istore 4, 0, 0, 0, 0),
  (66, .iconst (1), 0, 0, 0, 1),
  (67, .istore 5, 0, 0, 0, 0),
  (69, .iload 5, 0, 0, 0, 0),
  (71, .bipush (17), 0, 0, 0, 17),
  (73, .if_icmp .ge (32), 105, 0, 0, 0),
  (76, .aload_n 0, 0, 0, 0, 0),
  (77, .getfield 145, 2, 52, 3, 0),
  (80, .iload 5, 0, 0, 0, 0),
  (82, .iload 4, 0, 0, 0, 0),
  (84, .iastore, 0, 0, 0, 0),
  (85, .iload 4, 0, 0, 0, 0),
  (87, .aload_n 0, 0, 0, 0, 0),
  (88, .getfield 142, 2, 51, 3, 0),
  (91, .iload 5, 0, 0, 0, 0),
  (93, .iaload, 0, 0, 0, 0),
  (94, .iadd, 0, 0, 0, 0),
  (95, .iconst (1), 0, 0, 0, 1),
  (96, .ishl, 0, 0, 0, 0),
  (97, .istore 4, 0, 0, 0, 0),
  (99, .iinc 5 (1), 0, 0, 0, 1),
  (102, .goto (-33), 69, 0, 0, 0),
  (105, .iconst (0), 0, 0, 0, 0),
  (106, .istore 5, 0, 0, 0, 0),
  (108, .iload 5, 0, 0, 0, 0),
  (110, .iload_n 2, 0, 0, 0, 0),
  (111, .if_icmp .ge (86), 197, 0, 0, 0),
  (114, .aload_n 3, 0, 0, 0, 0),
  (115, .iload 5, 0, 0, 0, 0),
  (117, .iconst (0), 0, 0, 0, 0),
  (118, .iastore, 0, 0, 0, 0),
  (119, .aload_n 1, 0, 0, 0, 0),
  (120, .iload 5, 0, 0, 0, 0),
  (122, .iaload, 0, 0, 0, 0),
  (123, .ifCond .ne (6), 129, 0, 0, 0),
  (126, .goto (65), 191, 0, 0, 0),
  (129, .iconst (0), 0, 0, 0, 0),
  (130, .istore 6, 0, 0, 0, 0),
  (132, .iload 6, 0, 0, 0, 0),
  (134, .aload_n 1, 0, 0, 0, 0),
  (135, .iload 5, 0, 0, 0, 0),
  (137, .iaload, 0, 0, 0, 0),
  (138, .if_icmp .ge (40), 178, 0, 0, 0),
  (141, .aload_n 3, 0, 0, 0, 0),
  (142, .iload 5, 0, 0, 0, 0),
  (144, .dup2, 0, 0, 0, 0),
  (145, .iaload, 0, 0, 0, 0),
  (146, .aload_n 0, 0, 0, 0, 0),
  (147, .getfield 145, 2, 52, 3, 0),
  (150, .aload_n 1, 0, 0, 0, 0),
  (151, .iload 5, 0, 0, 0, 0),
  (153, .iaload, 0, 0, 0, 0),
  (154, .iaload, 0, 0, 0, 0),
  (155, .iload 6, 0, 0, 0, 0),
  (157, .ishr, 0, 0, 0, 0),
  (158, .iconst (1), 0, 0, 0, 1),
  (159, .iand, 0, 0, 0, 0),
  (160, .aload_n 1, 0, 0, 0, 0),
  (161, .iload 5, 0, 0, 0, 0),
  (163, .iaload, 0, 0, 0, 0),
  (164, .iconst (1), 0, 0, 0, 1),
  (165, .isub, 0, 0, 0, 0),
  (166, .iload 6, 0, 0, 0, 0),
  (168, .isub, 0, 0, 0, 0),
  (169, .ishl, 0, 0, 0, 0),
  (170, .ior, 0, 0, 0, 0),
  (171, .iastore, 0, 0, 0, 0),
  (172, .iinc 6 (1), 0, 0, 0, 1),
  (175, .goto (-43), 132, 0, 0, 0),
  (178, .aload_n 0, 0, 0, 0, 0),
  (179, .getfield 145, 2, 52, 3, 0),
  (182, .aload_n 1, 0, 0, 0, 0),
  (183, .iload 5, 0, 0, 0, 0),
  (185, .iaload, 0, 0, 0, 0),
  (186, .dup2, 0, 0, 0, 0),
  (187, .iaload, 0, 0, 0, 0),
  (188, .iconst (1), 0, 0, 0, 1),
  (189, .iadd, 0, 0, 0, 0),
  (190, .iastore, 0, 0, 0, 0),
  (191, .iinc 5 (1), 0, 0, 0, 1),
  (194, .goto (-86), 108, 0, 0, 0),
  (197, .return_, 0, 0, 0, 0)]
/-- PackDeskModel.writeBits(II)V -/
def cz_39 : List ez_C := [(0, .iconst (0), 0, 0, 0, 0),
  (1, .istore_n 3, 0, 0, 0, 0),
  (2, .iload_n 3, 0, 0, 0, 0),
  (3, .iload_n 2, 0, 0, 0, 0),
  (4, .if_icmp .ge (81), 85, 0, 0, 0),
  (7, .aload_n 0, 0, 0, 0, 0),
  (8, .getfield 206, 2, 16, 0, 0),
  (11, .bipush (8), 0, 0, 0, 8),
  (13, .irem, 0, 0, 0, 0),
  (14, .ifCond .ne (16), 30, 0, 0, 0),
  (17, .aload_n 0, 0, 0, 0, 0),
  (18, .getfield 19, 2, 4, 3, 0),
  (21, .aload_n 0, 0, 0, 0, 0),
  (22, .getfield 206, 2, 16, 0, 0),
  (25, .bipush (8), 0, 0, 0, 8),
  (27, .idiv, 0, 0, 0, 0),
  (28, .iconst (0), 0, 0, 0, 0),
  (29, .bastore, 0, 0, 0, 0),
  (30, .aload_n 0, 0, 0, 0, 0),
  (31, .getfield 19, 2, 4, 3, 0),
  (34, .aload_n 0, 0, 0, 0, 0),
  (35, .getfield 206, 2, 16, 0, 0),
  (38, .bipush (8), 0, 0, 0, 8),
  (40, .idiv, 0, 0, 0, 0),
  (41, .aload_n 0, 0, 0, 0, 0),
  (42, .getfield 19, 2, 4, 3, 0),
  (45, .aload_n 0, 0, 0, 0, 0),
  (46, .getfield 206, 2, 16, 0, 0),
  (49, .bipush (8), 0, 0, 0, 8),
  (51, .idiv, 0, 0, 0, 0),
  (52, .baload, 0, 0, 0, 0),
  (53, .iload_n 1, 0, 0, 0, 0),
  (54, .iload_n 3, 0, 0, 0, 0),
  (55, .ishr, 0, 0, 0, 0),
  (56, .iconst (1), 0, 0, 0, 1),
  (57, .iand, 0, 0, 0, 0),
  (58, .aload_n 0, 0, 0, 0, 0),
  (59, .getfield 206, 2, 16, 0, 0),
  (62, .bipush (8), 0, 0, 0, 8),
  (64, .irem, 0, 0, 0, 0),
  (65, .ishl, 0, 0, 0, 0),
  (66, .ior, 0, 0, 0, 0),
  (67, .i2b, 0, 0, 0, 0),
  (68, .bastore, 0, 0, 0, 0),
  (69, .aload_n 0, 0, 0, 0, 0),
  (70, .dup, 0, 0, 0, 0),
  (71, .getfield 206, 2, 16, 0, 0),
  (74, .iconst (1), 0, 0, 0, 1),
  (75, .iadd, 0, 0, 0, 0),
  (76, .putfield 206, 2, 16, 0, 0),
  (79, .iinc 3 (1), 0, 0, 0, 1),
  (82, .goto (-80), 2, 0, 0, 0),
  (85, .return_, 0, 0, 0, 0)]
/-- PackDeskModel.costOf([I[I)J -/
def cz_40 : List ez_C := [(0, .lconst 0, 0, 0, 0, 0),
  (1, .lstore_n 3, 0, 0, 0, 0),
  (2, .iconst (0), 0, 0, 0, 0),
  (3, .istore 5, 0, 0, 0, 0),
  (5, .iload 5, 0, 0, 0, 0),
  (7, .sipush (286), 0, 0, 0, 286),
  (10, .if_icmp .ge (50), 60, 0, 0, 0),
  (13, .lload_n 3, 0, 0, 0, 0),
  (14, .aload_n 0, 0, 0, 0, 0),
  (15, .getfield 87, 2, 33, 3, 0),
  (18, .iload 5, 0, 0, 0, 0),
  (20, .iaload, 0, 0, 0, 0),
  (21, .i2l, 0, 0, 0, 0),
  (22, .aload_n 1, 0, 0, 0, 0),
  (23, .iload 5, 0, 0, 0, 0),
  (25, .iaload, 0, 0, 0, 0),
  (26, .iload 5, 0, 0, 0, 0),
  (28, .sipush (256), 0, 0, 0, 256),
  (31, .if_icmp .le (17), 48, 0, 0, 0),
  (34, .aload_n 0, 0, 0, 0, 0),
  (35, .getfield 75, 2, 29, 3, 0),
  (38, .iload 5, 0, 0, 0, 0),
  (40, .sipush (257), 0, 0, 0, 257),
  (43, .isub, 0, 0, 0, 0),
  (44, .iaload, 0, 0, 0, 0),
  (45, .goto (4), 49, 0, 0, 0),
  (48, .iconst (0), 0, 0, 0, 0),
  (49, .iadd, 0, 0, 0, 0),
  (50, .i2l, 0, 0, 0, 0),
  (51, .lmul, 0, 0, 0, 0),
  (52, .ladd, 0, 0, 0, 0),
  (53, .lstore_n 3, 0, 0, 0, 0),
  (54, .iinc 5 (1), 0, 0, 0, 1),
  (57, .goto (-52), 5, 0, 0, 0),
  (60, .iconst (0), 0, 0, 0, 0),
  (61, .istore 5, 0, 0, 0, 0),
  (63, .iload 5, 0, 0, 0, 0),
  (65, .bipush (30), 0, 0, 0, 30),
  (67, .if_icmp .ge (34), 101, 0, 0, 0),
  (70, .lload_n 3, 0, 0, 0, 0),
  (71, .aload_n 0, 0, 0, 0, 0),
  (72, .getfield 90, 2, 34, 3, 0),
  (75, .iload 5, 0, 0, 0, 0),
  (77, .iaload, 0, 0, 0, 0),
  (78, .i2l, 0, 0, 0, 0),
  (79, .aload_n 2, 0, 0, 0, 0),
  (80, .iload 5, 0, 0, 0, 0),
  (82, .iaload, 0, 0, 0, 0),
  (83, .aload_n 0, 0, 0, 0, 0),
  (84, .getfield 81, 2, 31, 3, 0),
  (87, .iload 5, 0, 0, 0, 0),
  (89, .iaload, 0, 0, 0, 0),
  (90, .iadd, 0, 0, 0, 0),
  (91, .i2l, 0, 0, 0, 0),
  (92, .lmul, 0, 0, 0, 0),
  (93, .ladd, 0, 0, 0, 0),
  (94, .lstore_n 3, 0, 0, 0, 0),
  (95, .iinc 5 (1), 0, 0, 0, 1),
  (98, .goto (-35), 63, 0, 0, 0),
  (101, .lload_n 3, 0, 0, 0, 0),
  (102, .lreturn, 0, 0, 0, 0)]
/-- PackDeskModel.writeParts(III[I[I[I[I)V -/
def cz_41 : List ez_C := [(0, .iload_n 3, 0, 0, 0, 0),
  (1, .istore 8, 0, 0, 0, 0),
  (3, .iload_n 1, 0, 0, 0, 0),
  (4, .istore 9, 0, 0, 0, 0),
  (6, .iload 9, 0, 0, 0, 0),
  (8, .iload_n 2, 0, 0, 0, 0),
  (9, .if_icmp .ge (175), 184, 0, 0, 0),
  (12, .aload_n 0, 0, 0, 0, 0),
  (13, .getfield 29, 2, 9, 3, 0),
  (16, .iload 9, 0, 0, 0, 0),
  (18, .iaload, 0, 0, 0, 0),
  (19, .ifCond .ne (33), 52, 0, 0, 0),
  (22, .aload_n 0, 0, 0, 0, 0),
  (23, .getfield 7, 2, 1, 3, 0),
  (26, .iload 8, 0, 0, 0, 0),
  (28, .baload, 0, 0, 0, 0),
  (29, .sipush (255), 0, 0, 0, 255),
  (32, .iand, 0, 0, 0, 0),
  (33, .istore 10, 0, 0, 0, 0),
  (35, .aload_n 0, 0, 0, 0, 0),
  (36, .aload 5, 0, 0, 0, 0),
  (38, .iload 10, 0, 0, 0, 0),
  (40, .iaload, 0, 0, 0, 0),
  (41, .aload 4, 0, 0, 0, 0),
  (43, .iload 10, 0, 0, 0, 0),
  (45, .iaload, 0, 0, 0, 0),
  (46, .invokevirtual 209, 39, 3, 2, 0),
  (49, .goto (117), 166, 0, 0, 0),
  (52, .aload_n 0, 0, 0, 0, 0),
  (53, .aload_n 0, 0, 0, 0, 0),
  (54, .getfield 25, 2, 8, 3, 0),
  (57, .iload 9, 0, 0, 0, 0),
  (59, .iaload, 0, 0, 0, 0),
  (60, .invokevirtual 213, 34, 2, 2, 0),
  (63, .istore 10, 0, 0, 0, 0),
  (65, .aload_n 0, 0, 0, 0, 0),
  (66, .aload 5, 0, 0, 0, 0),
  (68, .sipush (257), 0, 0, 0, 257),
  (71, .iload 10, 0, 0, 0, 0),
  (73, .iadd, 0, 0, 0, 0),
  (74, .iaload, 0, 0, 0, 0),
  (75, .aload 4, 0, 0, 0, 0),
  (77, .sipush (257), 0, 0, 0, 257),
  (80, .iload 10, 0, 0, 0, 0),
  (82, .iadd, 0, 0, 0, 0),
  (83, .iaload, 0, 0, 0, 0),
  (84, .invokevirtual 209, 39, 3, 2, 0),
  (87, .aload_n 0, 0, 0, 0, 0),
  (88, .aload_n 0, 0, 0, 0, 0),
  (89, .getfield 25, 2, 8, 3, 0),
  (92, .iload 9, 0, 0, 0, 0),
  (94, .iaload, 0, 0, 0, 0),
  (95, .aload_n 0, 0, 0, 0, 0),
  (96, .getfield 72, 2, 28, 3, 0),
  (99, .iload 10, 0, 0, 0, 0),
  (101, .iaload, 0, 0, 0, 0),
  (102, .isub, 0, 0, 0, 0),
  (103, .aload_n 0, 0, 0, 0, 0),
  (104, .getfield 75, 2, 29, 3, 0),
  (107, .iload 10, 0, 0, 0, 0),
  (109, .iaload, 0, 0, 0, 0),
  (110, .invokevirtual 209, 39, 3, 2, 0),
  (113, .aload_n 0, 0, 0, 0, 0),
  (114, .aload_n 0, 0, 0, 0, 0),
  (115, .getfield 29, 2, 9, 3, 0),
  (118, .iload 9, 0, 0, 0, 0),
  (120, .iaload, 0, 0, 0, 0),
  (121, .invokevirtual 217, 35, 2, 2, 0),
  (124, .istore 11, 0, 0, 0, 0),
  (126, .aload_n 0, 0, 0, 0, 0),
  (127, .aload 7, 0, 0, 0, 0),
  (129, .iload 11, 0, 0, 0, 0),
  (131, .iaload, 0, 0, 0, 0),
  (132, .aload 6, 0, 0, 0, 0),
  (134, .iload 11, 0, 0, 0, 0),
  (136, .iaload, 0, 0, 0, 0),
  (137, .invokevirtual 209, 39, 3, 2, 0),
  (140, .aload_n 0, 0, 0, 0, 0),
  (141, .aload_n 0, 0, 0, 0, 0),
  (142, .getfield 29, 2, 9, 3, 0),
  (145, .iload 9, 0, 0, 0, 0),
  (147, .iaload, 0, 0, 0, 0),
  (148, .aload_n 0, 0, 0, 0, 0),
  (149, .getfield 78, 2, 30, 3, 0),
  (152, .iload 11, 0, 0, 0, 0),
  (154, .iaload, 0, 0, 0, 0),
  (155, .isub, 0, 0, 0, 0),
  (156, .aload_n 0, 0, 0, 0, 0),
  (157, .getfield 81, 2, 31, 3, 0),
  (160, .iload 11, 0, 0, 0, 0),
  (162, .iaload, 0, 0, 0, 0),
  (163, .invokevirtual 209, 39, 3, 2, 0),
  (166, .iload 8, 0, 0, 0, 0),
  (168, .aload_n 0, 0, 0, 0, 0),
  (169, .getfield 25, 2, 8, 3, 0),
  (172, .iload 9, 0, 0, 0, 0),
  (174, .iaload, 0, 0, 0, 0),
  (175, .iadd, 0, 0, 0, 0),
  (176, .istore 8, 0, 0, 0, 0),
  (178, .iinc 9 (1), 0, 0, 0, 1),
  (181, .goto (-175), 6, 0, 0, 0),
  (184, .aload_n 0, 0, 0, 0, 0),
  (185, .aload 5, 0, 0, 0, 0),
  (187, .sipush (256), 0, 0, 0, 256),
  (190, .iaload, 0, 0, 0, 0),
  (191, .aload 4, 0, 0, 0, 0),
  (193, .sipush (256), 0, 0, 0, 256),
  (196, .iaload, 0, 0, 0, 0),
  (197, .invokevirtual 209, 39, 3, 2, 0),
  (200, .return_, 0, 0, 0, 0)]
/-- PackDeskModel.tellRow(II)V -/
def cz_42 : List ez_C := [(0, .aload_n 0, 0, 0, 0, 0),
  (1, .getfield 148, 2, 53, 3, 0),
  (4, .aload_n 0, 0, 0, 0, 0),
  (5, .getfield 220, 2, 56, 0, 0),
  (8, .iload_n 1, 0, 0, 0, 0),
  (9, .iastore, 0, 0, 0, 0),
  (10, .aload_n 0, 0, 0, 0, 0),
  (11, .getfield 151, 2, 54, 3, 0),
  (14, .aload_n 0, 0, 0, 0, 0),
  (15, .getfield 220, 2, 56, 0, 0),
  (18, .iload_n 2, 0, 0, 0, 0),
  (19, .iastore, 0, 0, 0, 0),
  (20, .aload_n 0, 0, 0, 0, 0),
  (21, .getfield 93, 2, 35, 3, 0),
  (24, .iload_n 1, 0, 0, 0, 0),
  (25, .dup2, 0, 0, 0, 0),
  (26, .iaload, 0, 0, 0, 0),
  (27, .iconst (1), 0, 0, 0, 1),
  (28, .iadd, 0, 0, 0, 0),
  (29, .iastore, 0, 0, 0, 0),
  (30, .aload_n 0, 0, 0, 0, 0),
  (31, .dup, 0, 0, 0, 0),
  (32, .getfield 220, 2, 56, 0, 0),
  (35, .iconst (1), 0, 0, 0, 1),
  (36, .iadd, 0, 0, 0, 0),
  (37, .putfield 220, 2, 56, 0, 0),
  (40, .return_, 0, 0, 0, 0)]
/-- PackDeskModel.tellLengths()V -/
def cz_43 : List ez_C := [(0, .aload_n 0, 0, 0, 0, 0),
  (1, .sipush (257), 0, 0, 0, 257),
  (4, .putfield 223, 2, 57, 0, 0),
  (7, .sipush (257), 0, 0, 0, 257),
  (10, .istore_n 1, 0, 0, 0, 0),
  (11, .iload_n 1, 0, 0, 0, 0),
  (12, .sipush (286), 0, 0, 0, 286),
  (15, .if_icmp .ge (32), 47, 0, 0, 0),
  (18, .aload_n 0, 0, 0, 0, 0),
  (19, .aload_n 0, 0, 0, 0, 0),
  (20, .getfield 96, 2, 36, 3, 0),
  (23, .iload_n 1, 0, 0, 0, 0),
  (24, .iaload, 0, 0, 0, 0),
  (25, .ifCond .le (9), 34, 0, 0, 0),
  (28, .iload_n 1, 0, 0, 0, 0),
  (29, .iconst (1), 0, 0, 0, 1),
  (30, .iadd, 0, 0, 0, 0),
  (31, .goto (7), 38, 0, 0, 0),
  (34, .aload_n 0, 0, 0, 0, 0),
  (35, .getfield 223, 2, 57, 0, 0),
  (38, .putfield 223, 2, 57, 0, 0),
  (41, .iinc 1 (1), 0, 0, 0, 1),
  (44, .goto (-33), 11, 0, 0, 0),
  (47, .aload_n 0, 0, 0, 0, 0),
  (48, .iconst (1), 0, 0, 0, 1),
  (49, .putfield 226, 2, 58, 0, 0),
  (52, .iconst (1), 0, 0, 0, 1),
  (53, .istore_n 1, 0, 0, 0, 0),
  (54, .iload_n 1, 0, 0, 0, 0),
  (55, .bipush (30), 0, 0, 0, 30),
  (57, .if_icmp .ge (32), 89, 0, 0, 0),
  (60, .aload_n 0, 0, 0, 0, 0),
  (61, .aload_n 0, 0, 0, 0, 0),
  (62, .getfield 99, 2, 37, 3, 0),
  (65, .iload_n 1, 0, 0, 0, 0),
  (66, .iaload, 0, 0, 0, 0),
  (67, .ifCond .le (9), 76, 0, 0, 0),
  (70, .iload_n 1, 0, 0, 0, 0),
  (71, .iconst (1), 0, 0, 0, 1),
  (72, .iadd, 0, 0, 0, 0),
  (73, .goto (7), 80, 0, 0, 0),
  (76, .aload_n 0, 0, 0, 0, 0),
  (77, .getfield 226, 2, 58, 0, 0),
  (80, .putfield 226, 2, 58, 0, 0),
  (83, .iinc 1 (1), 0, 0, 0, 1),
  (86, .goto (-32), 54, 0, 0, 0),
  (89, .iconst (0), 0, 0, 0, 0),
  (90, .istore_n 1, 0, 0, 0, 0),
  (91, .iload_n 1, 0, 0, 0, 0),
  (92, .aload_n 0, 0, 0, 0, 0),
  (93, .getfield 223, 2, 57, 0, 0),
  (96, .if_icmp .ge (21), 117, 0, 0, 0),
  (99, .aload_n 0, 0, 0, 0, 0),
  (100, .getfield 154, 2, 55, 3, 0),
  (103, .iload_n 1, 0, 0, 0, 0),
  (104, .aload_n 0, 0, 0, 0, 0),
  (105, .getfield 96, 2, 36, 3, 0),
  (108, .iload_n 1, 0, 0, 0, 0),
  (109, .iaload, 0, 0, 0, 0),
  (110, .iastore, 0, 0, 0, 0),
  (111, .iinc 1 (1), 0, 0, 0, 1),
  (114, .goto (-23), 91, 0, 0, 0),
  (117, .iconst (0), 0, 0, 0, 0),
  (118, .istore_n 1, 0, 0, 0, 0),
  (119, .iload_n 1, 0, 0, 0, 0),
  (120, .aload_n 0, 0, 0, 0, 0),
  (121, .getfield 226, 2, 58, 0, 0),
  (124, .if_icmp .ge (26), 150, 0, 0, 0),
  (127, .aload_n 0, 0, 0, 0, 0),
  (128, .getfield 154, 2, 55, 3, 0),
  (131, .aload_n 0, 0, 0, 0, 0),
  (132, .getfield 223, 2, 57, 0, 0),
  (135, .iload_n 1, 0, 0, 0, 0),
  (136, .iadd, 0, 0, 0, 0),
  (137, .aload_n 0, 0, 0, 0, 0),
  (138, .getfield 99, 2, 37, 3, 0),
  (141, .iload_n 1, 0, 0, 0, 0),
  (142, .iaload, 0, 0, 0, 0),
  (143, .iastore, 0, 0, 0, 0),
  (144, .iinc 1 (1), 0, 0, 0, 1),
  (147, .goto (-28), 119, 0, 0, 0),
  (150, .iconst (0), 0, 0, 0, 0),
  (151, .istore_n 1, 0, 0, 0, 0),
  (152, .iload_n 1, 0, 0, 0, 0),
  (153, .bipush (19), 0, 0, 0, 19),
  (155, .if_icmp .ge (16), 171, 0, 0, 0),
  (158, .aload_n 0, 0, 0, 0, 0),
  (159, .getfield 93, 2, 35, 3, 0),
  (162, .iload_n 1, 0, 0, 0, 0),
  (163, .iconst (0), 0, 0, 0, 0),
  (164, .iastore, 0, 0, 0, 0),
  (165, .iinc 1 (1), 0, 0, 0, 1),
  (168, .goto (-16), 152, 0, 0, 0),
  (171, .aload_n 0, 0, 0, 0, 0),
  (172, .iconst (0), 0, 0, 0, 0),
  (173, .putfield 220, 2, 56, 0, 0),
  (176, .aload_n 0, 0, 0, 0, 0),
  (177, .getfield 223, 2, 57, 0, 0),
  (180, .aload_n 0, 0, 0, 0, 0),
  (181, .getfield 226, 2, 58, 0, 0),
  (184, .iadd, 0, 0, 0, 0),
  (185, .istore_n 1, 0, 0, 0, 0),
  (186, .iconst (0), 0, 0, 0, 0),
  (187, .istore_n 2, 0, 0, 0, 0),
  (188, .iload_n 2, 0, 0, 0, 0),
  (189, .iload_n 1, 0, 0, 0, 0),
  (190, .if_icmp .ge (181), 371, 0, 0, 0),
  (193, .aload_n 0, 0, 0, 0, 0),
  (194, .getfield 154, 2, 55, 3, 0),
  (197, .iload_n 2, 0, 0, 0, 0),
  (198, .iaload, 0, 0, 0, 0),
  (199, .istore_n 3, 0, 0, 0, 0),
  (200, .iconst (1), 0, 0, 0, 1),
  (201, .istore 4, 0, 0, 0, 0),
  (203, .iload_n 2, 0, 0, 0, 0),
  (204, .iload 4, 0, 0, 0, 0),
  (206, .iadd, 0, 0, 0, 0),
  (207, .iload_n 1, 0, 0, 0, 0),
  (208, .if_icmp .ge (22), 230, 0, 0, 0),
  (211, .aload_n 0, 0, 0, 0, 0),
  (212, .getfield 154, 2, 55, 3, 0),
  (215, .iload_n 2, 0, 0, 0, 0),
  (216, .iload 4, 0, 0, 0, 0),
  (218, .iadd, 0, 0, 0, 0),
  (219, .iaload, 0, 0, 0, 0),
  (220, .iload_n 3, 0, 0, 0, 0),
  (221, .if_icmp .ne (9), 230, 0, 0, 0),
  (224, .iinc 4 (1), 0, 0, 0, 1),
  (227, .goto (-24), 203, 0, 0, 0),
  (230, .iload_n 3, 0, 0, 0, 0),
  (231, .ifCond .ne (72), 303, 0, 0, 0),
  (234, .iload 4, 0, 0, 0, 0),
  (236, .iconst (2), 0, 0, 0, 2),
  (237, .if_icmp .le (66), 303, 0, 0, 0),
  (240, .iload 4, 0, 0, 0, 0),
  (242, .sipush (138), 0, 0, 0, 138),
  (245, .if_icmp .le (9), 254, 0, 0, 0),
  (248, .sipush (138), 0, 0, 0, 138),
  (251, .goto (5), 256, 0, 0, 0),
  (254, .iload 4, 0, 0, 0, 0),
  (256, .istore 4, 0, 0, 0, 0),
  (258, .aload_n 0, 0, 0, 0, 0),
  (259, .iload 4, 0, 0, 0, 0),
  (261, .bipush (10), 0, 0, 0, 10),
  (263, .if_icmp .le (8), 271, 0, 0, 0),
  (266, .bipush (18), 0, 0, 0, 18),
  (268, .goto (5), 273, 0, 0, 0),
  (271, .bipush (17), 0, 0, 0, 17),
  (273, .iload 4, 0, 0, 0, 0),
  (275, .bipush (10), 0, 0, 0, 10),
  (277, .if_icmp .le (11), 288, 0, 0, 0),
  (280, .iload 4, 0, 0, 0, 0),
  (282, .bipush (11), 0, 0, 0, 11),
  (284, .isub, 0, 0, 0, 0),
  (285, .goto (7), 292, 0, 0, 0),
  (288, .iload 4, 0, 0, 0, 0),
  (290, .iconst (3), 0, 0, 0, 3),
  (291, .isub, 0, 0, 0, 0),
  (292, .invokevirtual 229, 42, 3, 2, 0),
  (295, .iload_n 2, 0, 0, 0, 0),
  (296, .iload 4, 0, 0, 0, 0),
  (298, .iadd, 0, 0, 0, 0),
  (299, .istore_n 2, 0, 0, 0, 0),
  (300, .goto (68), 368, 0, 0, 0),
  (303, .iload_n 2, 0, 0, 0, 0),
  (304, .ifCond .le (55), 359, 0, 0, 0),
  (307, .aload_n 0, 0, 0, 0, 0),
  (308, .getfield 154, 2, 55, 3, 0),
  (311, .iload_n 2, 0, 0, 0, 0),
  (312, .iconst (1), 0, 0, 0, 1),
  (313, .isub, 0, 0, 0, 0),
  (314, .iaload, 0, 0, 0, 0),
  (315, .iload_n 3, 0, 0, 0, 0),
  (316, .if_icmp .ne (43), 359, 0, 0, 0),
  (319, .iload 4, 0, 0, 0, 0),
  (321, .iconst (2), 0, 0, 0, 2),
  (322, .if_icmp .le (37), 359, 0, 0, 0),
  (325, .iload 4, 0, 0, 0, 0),
  (327, .bipush (6), 0, 0, 0, 6),
  (329, .if_icmp .le (8), 337, 0, 0, 0),
  (332, .bipush (6), 0, 0, 0, 6),
  (334, .goto (5), 339, 0, 0, 0),
  (337, .iload 4, 0, 0, 0, 0),
  (339, .istore 4, 0, 0, 0, 0),
  (341, .aload_n 0, 0, 0, 0, 0),
  (342, .bipush (16), 0, 0, 0, 16),
  (344, .iload 4, 0, 0, 0, 0),
  (346, .iconst (3), 0, 0, 0, 3),
  (347, .isub, 0, 0, 0, 0),
  (348, .invokevirtual 229, 42, 3, 2, 0),
  (351, .iload_n 2, 0, 0, 0, 0),
  (352, .iload 4, 0, 0, 0, 0),
  (354, .iadd, 0, 0, 0, 0),
  (355, .istore_n 2, 0, 0, 0, 0),
  (356, .goto (12), 368, 0, 0, 0),
  (359, .aload_n 0, 0, 0, 0, 0),
  (360, .iload_n 3, 0, 0, 0, 0),
  (361, .iconst (0), 0, 0, 0, 0),
  (362, .invokevirtual 229, 42, 3, 2, 0),
  (365, .iinc 2 (1), 0, 0, 0, 1),
  (368, .goto (-180), 188, 0, 0, 0),
  (371, .return_, 0, 0, 0, 0)]
/-- PackDeskModel.restOf(I)I -/
def cz_44 : List ez_C := [(0, .iload_n 0, 0, 0, 0, 0),
  (1, .bipush (16), 0, 0, 0, 16),
  (3, .if_icmp .ne (7), 10, 0, 0, 0),
  (6, .iconst (2), 0, 0, 0, 2),
  (7, .goto (25), 32, 0, 0, 0),
  (10, .iload_n 0, 0, 0, 0, 0),
  (11, .bipush (17), 0, 0, 0, 17),
  (13, .if_icmp .ne (7), 20, 0, 0, 0),
  (16, .iconst (3), 0, 0, 0, 3),
  (17, .goto (15), 32, 0, 0, 0),
  (20, .iload_n 0, 0, 0, 0, 0),
  (21, .bipush (18), 0, 0, 0, 18),
  (23, .if_icmp .ne (8), 31, 0, 0, 0),
  (26, .bipush (7), 0, 0, 0, 7),
  (28, .goto (4), 32, 0, 0, 0),
  (31, .iconst (0), 0, 0, 0, 0),
  (32, .ireturn, 0, 0, 0, 0)]
/-- PackDeskModel.writeBlock(IIIIZ)V -/
def cz_45 : List ez_C := [(0, .iconst (0), 0, 0, 0, 0),
  (1, .istore 6, 0, 0, 0, 0),
  (3, .iload 6, 0, 0, 0, 0),
  (5, .sipush (288), 0, 0, 0, 288),
  (8, .if_icmp .ge (17), 25, 0, 0, 0),
  (11, .aload_n 0, 0, 0, 0, 0),
  (12, .getfield 87, 2, 33, 3, 0),
  (15, .iload 6, 0, 0, 0, 0),
  (17, .iconst (0), 0, 0, 0, 0),
  (18, .iastore, 0, 0, 0, 0),
  (19, .iinc 6 (1), 0, 0, 0, 1),
  (22, .goto (-19), 3, 0, 0, 0),
  (25, .iconst (0), 0, 0, 0, 0),
  (26, .istore 6, 0, 0, 0, 0),
  (28, .iload 6, 0, 0, 0, 0),
  (30, .bipush (30), 0, 0, 0, 30),
  (32, .if_icmp .ge (17), 49, 0, 0, 0),
  (35, .aload_n 0, 0, 0, 0, 0),
  (36, .getfield 90, 2, 34, 3, 0),
  (39, .iload 6, 0, 0, 0, 0),
  (41, .iconst (0), 0, 0, 0, 0),
  (42, .iastore, 0, 0, 0, 0),
  (43, .iinc 6 (1), 0, 0, 0, 1),
  (46, .goto (-18), 28, 0, 0, 0),
  (49, .iload_n 1, 0, 0, 0, 0),
  (50, .istore 6, 0, 0, 0, 0),
  (52, .iload 6, 0, 0, 0, 0),
  (54, .iload_n 2, 0, 0, 0, 0),
  (55, .if_icmp .ge (82), 137, 0, 0, 0),
  (58, .aload_n 0, 0, 0, 0, 0),
  (59, .getfield 29, 2, 9, 3, 0),
  (62, .iload 6, 0, 0, 0, 0),
  (64, .iaload, 0, 0, 0, 0),
  (65, .ifCond .ne (22), 87, 0, 0, 0),
  (68, .aload_n 0, 0, 0, 0, 0),
  (69, .getfield 87, 2, 33, 3, 0),
  (72, .aload_n 0, 0, 0, 0, 0),
  (73, .getfield 32, 2, 10, 3, 0),
  (76, .iload 6, 0, 0, 0, 0),
  (78, .iaload, 0, 0, 0, 0),
  (79, .dup2, 0, 0, 0, 0),
  (80, .iaload, 0, 0, 0, 0),
  (81, .iconst (1), 0, 0, 0, 1),
  (82, .iadd, 0, 0, 0, 0),
  (83, .iastore, 0, 0, 0, 0),
  (84, .goto (47), 131, 0, 0, 0),
  (87, .aload_n 0, 0, 0, 0, 0),
  (88, .getfield 87, 2, 33, 3, 0),
  (91, .sipush (257), 0, 0, 0, 257),
  (94, .aload_n 0, 0, 0, 0, 0),
  (95, .aload_n 0, 0, 0, 0, 0),
  (96, .getfield 25, 2, 8, 3, 0),
  (99, .iload 6, 0, 0, 0, 0),
  (101, .iaload, 0, 0, 0, 0),
  (102, .invokevirtual 213, 34, 2, 2, 0),
  (105, .iadd, 0, 0, 0, 0),
  (106, .dup2, 0, 0, 0, 0),
  (107, .iaload, 0, 0, 0, 0),
  (108, .iconst (1), 0, 0, 0, 1),
  (109, .iadd, 0, 0, 0, 0),
  (110, .iastore, 0, 0, 0, 0),
  (111, .aload_n 0, 0, 0, 0, 0),
  (112, .getfield 90, 2, 34, 3, 0),
  (115, .aload_n 0, 0, 0, 0, 0),
  (116, .aload_n 0, 0, 0, 0, 0),
  (117, .getfield 29, 2, 9, 3, 0),
  (120, .iload 6, 0, 0, 0, 0),
  (122, .iaload, 0, 0, 0, 0),
  (123, .invokevirtual 217, 35, 2, 2, 0),
  (126, .dup2, 0, 0, 0, 0),
  (127, .iaload, 0, 0, 0, 0),
  (128, .iconst (1), 0, 0, 0, 1),
  (129, .iadd, 0, 0, 0, 0),
  (130, .iastore, 0, 0, 0, 0),
  (131, .iinc 6 (1), 0, 0, 0, 1),
  (134, .goto (-82), 52, 0, 0, 0),
  (137, .aload_n 0, 0, 0, 0, 0),
  (138, .getfield 87, 2, 33, 3, 0),
  (141, .sipush (256), 0, 0, 0, 256),
  (144, .dup2, 0, 0, 0, 0),
  (145, .iaload, 0, 0, 0, 0),
  (146, .iconst (1), 0, 0, 0, 1),
  (147, .iadd, 0, 0, 0, 0),
  (148, .iastore, 0, 0, 0, 0),
  (149, .aload_n 0, 0, 0, 0, 0),
  (150, .aload_n 0, 0, 0, 0, 0),
  (151, .getfield 87, 2, 33, 3, 0),
  (154, .sipush (286), 0, 0, 0, 286),
  (157, .bipush (15), 0, 0, 0, 15),
  (159, .aload_n 0, 0, 0, 0, 0),
  (160, .getfield 96, 2, 36, 3, 0),
  (163, .invokevirtual 232, 37, 5, 2, 0),
  (166, .aload_n 0, 0, 0, 0, 0),
  (167, .aload_n 0, 0, 0, 0, 0),
  (168, .getfield 90, 2, 34, 3, 0),
  (171, .bipush (30), 0, 0, 0, 30),
  (173, .bipush (15), 0, 0, 0, 15),
  (175, .aload_n 0, 0, 0, 0, 0),
  (176, .getfield 99, 2, 37, 3, 0),
  (179, .invokevirtual 232, 37, 5, 2, 0),
  (182, .iconst (1), 0, 0, 0, 1),
  (183, .istore 6, 0, 0, 0, 0),
  (185, .iconst (0), 0, 0, 0, 0),
  (186, .istore 7, 0, 0, 0, 0),
  (188, .iload 7, 0, 0, 0, 0),
  (190, .bipush (30), 0, 0, 0, 30),
  (192, .if_icmp .ge (31), 223, 0, 0, 0),
  (195, .iload 6, 0, 0, 0, 0),
  (197, .ifCond .eq (17), 214, 0, 0, 0),
  (200, .aload_n 0, 0, 0, 0, 0),
  (201, .getfield 99, 2, 37, 3, 0),
  (204, .iload 7, 0, 0, 0, 0),
  (206, .iaload, 0, 0, 0, 0),
  (207, .ifCond .ne (7), 214, 0, 0, 0),
  (210, .iconst (1), 0, 0, 0, 1),
  (211, .goto (4), 215, 0, 0, 0),
  (214, .iconst (0), 0, 0, 0, 0),
  (215, .istore 6, 0, 0, 0, 0),
  (217, .iinc 7 (1), 0, 0, 0, 1),
  (220, .goto (-32), 188, 0, 0, 0),
  (223, .aload_n 0, 0, 0, 0, 0),
  (224, .aload_n 0, 0, 0, 0, 0),
  (225, .getfield 96, 2, 36, 3, 0),
  (228, .aload_n 0, 0, 0, 0, 0),
  (229, .getfield 99, 2, 37, 3, 0),
  (232, .invokevirtual 236, 40, 3, 2, 0),
  (235, .lstore 7, 0, 0, 0, 0),
  (237, .iload 6, 0, 0, 0, 0),
  (239, .ifCond .eq (10), 249, 0, 0, 0),
  (242, .aload_n 0, 0, 0, 0, 0),
  (243, .getfield 99, 2, 37, 3, 0),
  (246, .iconst (0), 0, 0, 0, 0),
  (247, .iconst (1), 0, 0, 0, 1),
  (248, .iastore, 0, 0, 0, 0),
  (249, .aload_n 0, 0, 0, 0, 0),
  (250, .invokevirtual 240, 43, 1, 2, 0),
  (253, .aload_n 0, 0, 0, 0, 0),
  (254, .aload_n 0, 0, 0, 0, 0),
  (255, .getfield 93, 2, 35, 3, 0),
  (258, .bipush (19), 0, 0, 0, 19),
  (260, .bipush (7), 0, 0, 0, 7),
  (262, .aload_n 0, 0, 0, 0, 0),
  (263, .getfield 102, 2, 38, 3, 0),
  (266, .invokevirtual 232, 37, 5, 2, 0),
  (269, .iconst (4), 0, 0, 0, 4),
  (270, .istore 9, 0, 0, 0, 0),
  (272, .iconst (4), 0, 0, 0, 4),
  (273, .istore 10, 0, 0, 0, 0),
  (275, .iload 10, 0, 0, 0, 0),
  (277, .bipush (19), 0, 0, 0, 19),
  (279, .if_icmp .ge (35), 314, 0, 0, 0),
  (282, .aload_n 0, 0, 0, 0, 0),
  (283, .getfield 102, 2, 38, 3, 0),
  (286, .aload_n 0, 0, 0, 0, 0),
  (287, .getfield 84, 2, 32, 3, 0),
  (290, .iload 10, 0, 0, 0, 0),
  (292, .iaload, 0, 0, 0, 0),
  (293, .iaload, 0, 0, 0, 0),
  (294, .ifCond .le (10), 304, 0, 0, 0),
  (297, .iload 10, 0, 0, 0, 0),
  (299, .iconst (1), 0, 0, 0, 1),
  (300, .iadd, 0, 0, 0, 0),
  (301, .goto (5), 306, 0, 0, 0),
  (304, .iload 9, 0, 0, 0, 0),
  (306, .istore 9, 0, 0, 0, 0),
  (308, .iinc 10 (1), 0, 0, 0, 1),
  (311, .goto (-36), 275, 0, 0, 0),
  (314, .lload 7, 0, 0, 0, 0),
  (316, .ldc2_w 243, 0, 0, 0, 17),
  (319, .ldc2_w 245, 0, 0, 0, 3),
  (322, .iload 9, 0, 0, 0, 0),
  (324, .i2l, 0, 0, 0, 0),
  (325, .lmul, 0, 0, 0, 0),
  (326, .ladd, 0, 0, 0, 0),
  (327, .ladd, 0, 0, 0, 0),
  (328, .lstore 7, 0, 0, 0, 0),
  (330, .iconst (0), 0, 0, 0, 0),
  (331, .istore 10, 0, 0, 0, 0),
  (333, .iload 10, 0, 0, 0, 0),
  (335, .bipush (19), 0, 0, 0, 19),
  (337, .if_icmp .ge (37), 374, 0, 0, 0),
  (340, .lload 7, 0, 0, 0, 0),
  (342, .aload_n 0, 0, 0, 0, 0),
  (343, .getfield 93, 2, 35, 3, 0),
  (346, .iload 10, 0, 0, 0, 0),
  (348, .iaload, 0, 0, 0, 0),
  (349, .i2l, 0, 0, 0, 0),
  (350, .aload_n 0, 0, 0, 0, 0),
  (351, .getfield 102, 2, 38, 3, 0),
  (354, .iload 10, 0, 0, 0, 0),
  (356, .iaload, 0, 0, 0, 0),
  (357, .iload 10, 0, 0, 0, 0),
  (359, .invokestatic 247, 44, 1, 0, 0),
  (362, .iadd, 0, 0, 0, 0),
  (363, .i2l, 0, 0, 0, 0),
  (364, .lmul, 0, 0, 0, 0),
  (365, .ladd, 0, 0, 0, 0),
  (366, .lstore 7, 0, 0, 0, 0),
  (368, .iinc 10 (1), 0, 0, 0, 1),
  (371, .goto (-38), 333, 0, 0, 0),
  (374, .iconst (0), 0, 0, 0, 0),
  (375, .istore 10, 0, 0, 0, 0),
  (377, .iload 10, 0, 0, 0, 0),
  (379, .sipush (288), 0, 0, 0, 288),
  (382, .if_icmp .ge (57), 439, 0, 0, 0),
  (385, .aload_n 0, 0, 0, 0, 0),
  (386, .getfield 114, 2, 42, 3, 0),
  (389, .iload 10, 0, 0, 0, 0),
  (391, .iload 10, 0, 0, 0, 0),
  (393, .sipush (144), 0, 0, 0, 144),
  (396, .if_icmp .ge (8), 404, 0, 0, 0),
  (399, .bipush (8), 0, 0, 0, 8),
  (401, .goto (31), 432, 0, 0, 0),
  (404, .iload 10, 0, 0, 0, 0),
  (406, .sipush (256), 0, 0, 0, 256),
  (409, .if_icmp .ge (8), 417, 0, 0, 0),
  (412, .bipush (9), 0, 0, 0, 9),
  (414, .goto (18), 432, 0, 0, 0),
  (417, .iload 10, 0, 0, 0, 0),
  (419, .sipush (280), 0, 0, 0, 280),
  (422, .if_icmp .ge (8), 430, 0, 0, 0),
  (425, .bipush (7), 0, 0, 0, 7),
  (427, .goto (5), 432, 0, 0, 0),
  (430, .bipush (8), 0, 0, 0, 8),
  (432, .iastore, 0, 0, 0, 0),
  (433, .iinc 10 (1), 0, 0, 0, 1),
  (436, .goto (-59), 377, 0, 0, 0),
  (439, .iconst (0), 0, 0, 0, 0),
  (440, .istore 10, 0, 0, 0, 0),
  (442, .iload 10, 0, 0, 0, 0),
  (444, .bipush (30), 0, 0, 0, 30),
  (446, .if_icmp .ge (17), 463, 0, 0, 0),
  (449, .aload_n 0, 0, 0, 0, 0),
  (450, .getfield 120, 2, 44, 3, 0),
  (453, .iload 10, 0, 0, 0, 0),
  (455, .iconst (5), 0, 0, 0, 5),
  (456, .iastore, 0, 0, 0, 0),
  (457, .iinc 10 (1), 0, 0, 0, 1),
  (460, .goto (-18), 442, 0, 0, 0),
  (463, .ldc2_w 245, 0, 0, 0, 3),
  (466, .aload_n 0, 0, 0, 0, 0),
  (467, .aload_n 0, 0, 0, 0, 0),
  (468, .getfield 114, 2, 42, 3, 0),
  (471, .aload_n 0, 0, 0, 0, 0),
  (472, .getfield 120, 2, 44, 3, 0),
  (475, .invokevirtual 236, 40, 3, 2, 0),
  (478, .ladd, 0, 0, 0, 0),
  (479, .lstore 10, 0, 0, 0, 0),
  (481, .aload_n 0, 0, 0, 0, 0),
  (482, .getfield 206, 2, 16, 0, 0),
  (485, .iconst (3), 0, 0, 0, 3),
  (486, .iadd, 0, 0, 0, 0),
  (487, .bipush (7), 0, 0, 0, 7),
  (489, .iadd, 0, 0, 0, 0),
  (490, .bipush (8), 0, 0, 0, 8),
  (492, .idiv, 0, 0, 0, 0),
  (493, .bipush (8), 0, 0, 0, 8),
  (495, .imul, 0, 0, 0, 0),
  (496, .aload_n 0, 0, 0, 0, 0),
  (497, .getfield 206, 2, 16, 0, 0),
  (500, .isub, 0, 0, 0, 0),
  (501, .i2l, 0, 0, 0, 0),
  (502, .ldc2_w 250, 0, 0, 0, 32),
  (505, .ladd, 0, 0, 0, 0),
  (506, .ldc2_w 252, 0, 0, 0, 8),
  (509, .iload 4, 0, 0, 0, 0),
  (511, .i2l, 0, 0, 0, 0),
  (512, .lmul, 0, 0, 0, 0),
  (513, .ladd, 0, 0, 0, 0),
  (514, .lstore 12, 0, 0, 0, 0),
  (516, .lload 12, 0, 0, 0, 0),
  (518, .lload 10, 0, 0, 0, 0),
  (520, .lcmp, 0, 0, 0, 0),
  (521, .ifCond .gt (15), 536, 0, 0, 0),
  (524, .lload 12, 0, 0, 0, 0),
  (526, .lload 7, 0, 0, 0, 0),
  (528, .lcmp, 0, 0, 0, 0),
  (529, .ifCond .gt (7), 536, 0, 0, 0),
  (532, .iconst (0), 0, 0, 0, 0),
  (533, .goto (16), 549, 0, 0, 0),
  (536, .lload 10, 0, 0, 0, 0),
  (538, .lload 7, 0, 0, 0, 0),
  (540, .lcmp, 0, 0, 0, 0),
  (541, .ifCond .gt (7), 548, 0, 0, 0),
  (544, .iconst (1), 0, 0, 0, 1),
  (545, .goto (4), 549, 0, 0, 0),
  (548, .iconst (2), 0, 0, 0, 2),
  (549, .istore 14, 0, 0, 0, 0),
  (551, .aload_n 0, 0, 0, 0, 0),
  (552, .getfield 254, 2, 15, 0, 0),
  (555, .istore 15, 0, 0, 0, 0),
  (557, .aload_n 0, 0, 0, 0, 0),
  (558, .getfield 45, 2, 19, 3, 0),
  (561, .iload 15, 0, 0, 0, 0),
  (563, .iload 14, 0, 0, 0, 0),
  (565, .iastore, 0, 0, 0, 0),
  (566, .aload_n 0, 0, 0, 0, 0),
  (567, .getfield 48, 2, 20, 3, 0),
  (570, .iload 15, 0, 0, 0, 0),
  (572, .iload_n 2, 0, 0, 0, 0),
  (573, .iload_n 1, 0, 0, 0, 0),
  (574, .isub, 0, 0, 0, 0),
  (575, .iastore, 0, 0, 0, 0),
  (576, .aload_n 0, 0, 0, 0, 0),
  (577, .getfield 51, 2, 21, 3, 0),
  (580, .iload 15, 0, 0, 0, 0),
  (582, .iload 4, 0, 0, 0, 0),
  (584, .iastore, 0, 0, 0, 0),
  (585, .aload_n 0, 0, 0, 0, 0),
  (586, .getfield 54, 2, 22, 3, 0),
  (589, .iload 15, 0, 0, 0, 0),
  (591, .iload 14, 0, 0, 0, 0),
  (593, .ifCond .ne (8), 601, 0, 0, 0),
  (596, .lload 12, 0, 0, 0, 0),
  (598, .goto (16), 614, 0, 0, 0),
  (601, .iload 14, 0, 0, 0, 0),
  (603, .iconst (1), 0, 0, 0, 1),
  (604, .if_icmp .ne (8), 612, 0, 0, 0),
  (607, .lload 10, 0, 0, 0, 0),
  (609, .goto (5), 614, 0, 0, 0),
  (612, .lload 7, 0, 0, 0, 0),
  (614, .l2i, 0, 0, 0, 0),
  (615, .iastore, 0, 0, 0, 0),
  (616, .aload_n 0, 0, 0, 0, 0),
  (617, .getfield 57, 2, 23, 3, 0),
  (620, .iload 15, 0, 0, 0, 0),
  (622, .lload 10, 0, 0, 0, 0),
  (624, .l2i, 0, 0, 0, 0),
  (625, .iastore, 0, 0, 0, 0),
  (626, .aload_n 0, 0, 0, 0, 0),
  (627, .getfield 60, 2, 24, 3, 0),
  (630, .iload 15, 0, 0, 0, 0),
  (632, .lload 7, 0, 0, 0, 0),
  (634, .l2i, 0, 0, 0, 0),
  (635, .iastore, 0, 0, 0, 0),
  (636, .iconst (0), 0, 0, 0, 0),
  (637, .istore 16, 0, 0, 0, 0),
  (639, .iload 16, 0, 0, 0, 0),
  (641, .sipush (288), 0, 0, 0, 288),
  (644, .if_icmp .ge (30), 674, 0, 0, 0),
  (647, .aload_n 0, 0, 0, 0, 0),
  (648, .getfield 63, 2, 25, 3, 0),
  (651, .sipush (288), 0, 0, 0, 288),
  (654, .iload 15, 0, 0, 0, 0),
  (656, .imul, 0, 0, 0, 0),
  (657, .iload 16, 0, 0, 0, 0),
  (659, .iadd, 0, 0, 0, 0),
  (660, .aload_n 0, 0, 0, 0, 0),
  (661, .getfield 96, 2, 36, 3, 0),
  (664, .iload 16, 0, 0, 0, 0),
  (666, .iaload, 0, 0, 0, 0),
  (667, .iastore, 0, 0, 0, 0),
  (668, .iinc 16 (1), 0, 0, 0, 1),
  (671, .goto (-32), 639, 0, 0, 0),
  (674, .iconst (0), 0, 0, 0, 0),
  (675, .istore 16, 0, 0, 0, 0),
  (677, .iload 16, 0, 0, 0, 0),
  (679, .bipush (30), 0, 0, 0, 30),
  (681, .if_icmp .ge (29), 710, 0, 0, 0),
  (684, .aload_n 0, 0, 0, 0, 0),
  (685, .getfield 66, 2, 26, 3, 0),
  (688, .bipush (30), 0, 0, 0, 30),
  (690, .iload 15, 0, 0, 0, 0),
  (692, .imul, 0, 0, 0, 0),
  (693, .iload 16, 0, 0, 0, 0),
  (695, .iadd, 0, 0, 0, 0),
  (696, .aload_n 0, 0, 0, 0, 0),
  (697, .getfield 99, 2, 37, 3, 0),
  (700, .iload 16, 0, 0, 0, 0),
  (702, .iaload, 0, 0, 0, 0),
  (703, .iastore, 0, 0, 0, 0),
  (704, .iinc 16 (1), 0, 0, 0, 1),
  (707, .goto (-30), 677, 0, 0, 0),
  (710, .iconst (0), 0, 0, 0, 0),
  (711, .istore 16, 0, 0, 0, 0),
  (713, .iload 16, 0, 0, 0, 0),
  (715, .bipush (19), 0, 0, 0, 19),
  (717, .if_icmp .ge (29), 746, 0, 0, 0),
  (720, .aload_n 0, 0, 0, 0, 0),
  (721, .getfield 69, 2, 27, 3, 0),
  (724, .bipush (19), 0, 0, 0, 19),
  (726, .iload 15, 0, 0, 0, 0),
  (728, .imul, 0, 0, 0, 0),
  (729, .iload 16, 0, 0, 0, 0),
  (731, .iadd, 0, 0, 0, 0),
  (732, .aload_n 0, 0, 0, 0, 0),
  (733, .getfield 102, 2, 38, 3, 0),
  (736, .iload 16, 0, 0, 0, 0),
  (738, .iaload, 0, 0, 0, 0),
  (739, .iastore, 0, 0, 0, 0),
  (740, .iinc 16 (1), 0, 0, 0, 1),
  (743, .goto (-30), 713, 0, 0, 0),
  (746, .aload_n 0, 0, 0, 0, 0),
  (747, .dup, 0, 0, 0, 0),
  (748, .getfield 254, 2, 15, 0, 0),
  (751, .iconst (1), 0, 0, 0, 1),
  (752, .iadd, 0, 0, 0, 0),
  (753, .putfield 254, 2, 15, 0, 0),
  (756, .aload_n 0, 0, 0, 0, 0),
  (757, .iload 5, 0, 0, 0, 0),
  (759, .ifCond .eq (7), 766, 0, 0, 0),
  (762, .iconst (1), 0, 0, 0, 1),
  (763, .goto (4), 767, 0, 0, 0),
  (766, .iconst (0), 0, 0, 0, 0),
  (767, .iconst (1), 0, 0, 0, 1),
  (768, .invokevirtual 209, 39, 3, 2, 0),
  (771, .aload_n 0, 0, 0, 0, 0),
  (772, .iload 14, 0, 0, 0, 0),
  (774, .iconst (2), 0, 0, 0, 2),
  (775, .invokevirtual 209, 39, 3, 2, 0),
  (778, .iload 14, 0, 0, 0, 0),
  (780, .ifCond .ne (78), 858, 0, 0, 0),
  (783, .aload_n 0, 0, 0, 0, 0),
  (784, .getfield 206, 2, 16, 0, 0),
  (787, .bipush (8), 0, 0, 0, 8),
  (789, .irem, 0, 0, 0, 0),
  (790, .ifCond .eq (12), 802, 0, 0, 0),
  (793, .aload_n 0, 0, 0, 0, 0),
  (794, .iconst (0), 0, 0, 0, 0),
  (795, .iconst (1), 0, 0, 0, 1),
  (796, .invokevirtual 209, 39, 3, 2, 0),
  (799, .goto (-16), 783, 0, 0, 0),
  (802, .aload_n 0, 0, 0, 0, 0),
  (803, .iload 4, 0, 0, 0, 0),
  (805, .bipush (16), 0, 0, 0, 16),
  (807, .invokevirtual 209, 39, 3, 2, 0),
  (810, .aload_n 0, 0, 0, 0, 0),
  (811, .iload 4, 0, 0, 0, 0),
  (813, .iconst (-1), 0, 0, 0, (-1)),
  (814, .ixor, 0, 0, 0, 0),
  (815, .bipush (16), 0, 0, 0, 16),
  (817, .invokevirtual 209, 39, 3, 2, 0),
  (820, .iconst (0), 0, 0, 0, 0),
  (821, .istore 16, 0, 0, 0, 0),
  (823, .iload 16, 0, 0, 0, 0),
  (825, .iload 4, 0, 0, 0, 0),
  (827, .if_icmp .ge (28), 855, 0, 0, 0),
  (830, .aload_n 0, 0, 0, 0, 0),
  (831, .aload_n 0, 0, 0, 0, 0),
  (832, .getfield 7, 2, 1, 3, 0),
  (835, .iload_n 3, 0, 0, 0, 0),
  (836, .iload 16, 0, 0, 0, 0),
  (838, .iadd, 0, 0, 0, 0),
  (839, .baload, 0, 0, 0, 0),
  (840, .sipush (255), 0, 0, 0, 255),
  (843, .iand, 0, 0, 0, 0),
  (844, .bipush (8), 0, 0, 0, 8),
  (846, .invokevirtual 209, 39, 3, 2, 0),
  (849, .iinc 16 (1), 0, 0, 0, 1),
  (852, .goto (-29), 823, 0, 0, 0),
  (855, .goto (263), 1118, 0, 0, 0),
  (858, .iload 14, 0, 0, 0, 0),
  (860, .iconst (1), 0, 0, 0, 1),
  (861, .if_icmp .ne (58), 919, 0, 0, 0),
  (864, .aload_n 0, 0, 0, 0, 0),
  (865, .aload_n 0, 0, 0, 0, 0),
  (866, .getfield 114, 2, 42, 3, 0),
  (869, .sipush (288), 0, 0, 0, 288),
  (872, .aload_n 0, 0, 0, 0, 0),
  (873, .getfield 117, 2, 43, 3, 0),
  (876, .invokevirtual 257, 38, 4, 2, 0),
  (879, .aload_n 0, 0, 0, 0, 0),
  (880, .aload_n 0, 0, 0, 0, 0),
  (881, .getfield 120, 2, 44, 3, 0),
  (884, .bipush (30), 0, 0, 0, 30),
  (886, .aload_n 0, 0, 0, 0, 0),
  (887, .getfield 123, 2, 45, 3, 0),
  (890, .invokevirtual 257, 38, 4, 2, 0),
  (893, .aload_n 0, 0, 0, 0, 0),
  (894, .iload_n 1, 0, 0, 0, 0),
  (895, .iload_n 2, 0, 0, 0, 0),
  (896, .iload_n 3, 0, 0, 0, 0),
  (897, .aload_n 0, 0, 0, 0, 0),
  (898, .getfield 114, 2, 42, 3, 0),
  (901, .aload_n 0, 0, 0, 0, 0),
  (902, .getfield 117, 2, 43, 3, 0),
  (905, .aload_n 0, 0, 0, 0, 0),
  (906, .getfield 120, 2, 44, 3, 0),
  (909, .aload_n 0, 0, 0, 0, 0),
  (910, .getfield 123, 2, 45, 3, 0),
  (913, .invokevirtual 261, 41, 8, 2, 0),
  (916, .goto (202), 1118, 0, 0, 0),
  (919, .aload_n 0, 0, 0, 0, 0),
  (920, .aload_n 0, 0, 0, 0, 0),
  (921, .getfield 223, 2, 57, 0, 0),
  (924, .sipush (257), 0, 0, 0, 257),
  (927, .isub, 0, 0, 0, 0),
  (928, .iconst (5), 0, 0, 0, 5),
  (929, .invokevirtual 209, 39, 3, 2, 0),
  (932, .aload_n 0, 0, 0, 0, 0),
  (933, .aload_n 0, 0, 0, 0, 0),
  (934, .getfield 226, 2, 58, 0, 0),
  (937, .iconst (1), 0, 0, 0, 1),
  (938, .isub, 0, 0, 0, 0),
  (939, .iconst (5), 0, 0, 0, 5),
  (940, .invokevirtual 209, 39, 3, 2, 0),
  (943, .aload_n 0, 0, 0, 0, 0),
  (944, .iload 9, 0, 0, 0, 0),
  (946, .iconst (4), 0, 0, 0, 4),
  (947, .isub, 0, 0, 0, 0),
  (948, .iconst (4), 0, 0, 0, 4),
  (949, .invokevirtual 209, 39, 3, 2, 0),
  (952, .iconst (0), 0, 0, 0, 0),
  (953, .istore 16, 0, 0, 0, 0),
  (955, .iload 16, 0, 0, 0, 0),
  (957, .iload 9, 0, 0, 0, 0),
  (959, .if_icmp .ge (26), 985, 0, 0, 0),
  (962, .aload_n 0, 0, 0, 0, 0),
  (963, .aload_n 0, 0, 0, 0, 0),
  (964, .getfield 102, 2, 38, 3, 0),
  (967, .aload_n 0, 0, 0, 0, 0),
  (968, .getfield 84, 2, 32, 3, 0),
  (971, .iload 16, 0, 0, 0, 0),
  (973, .iaload, 0, 0, 0, 0),
  (974, .iaload, 0, 0, 0, 0),
  (975, .iconst (3), 0, 0, 0, 3),
  (976, .invokevirtual 209, 39, 3, 2, 0),
  (979, .iinc 16 (1), 0, 0, 0, 1),
  (982, .goto (-27), 955, 0, 0, 0),
  (985, .aload_n 0, 0, 0, 0, 0),
  (986, .aload_n 0, 0, 0, 0, 0),
  (987, .getfield 102, 2, 38, 3, 0),
  (990, .bipush (19), 0, 0, 0, 19),
  (992, .aload_n 0, 0, 0, 0, 0),
  (993, .getfield 111, 2, 41, 3, 0),
  (996, .invokevirtual 257, 38, 4, 2, 0),
  (999, .iconst (0), 0, 0, 0, 0),
  (1000, .istore 16, 0, 0, 0, 0),
  (1002, .iload 16, 0, 0, 0, 0),
  (1004, .aload_n 0, 0, 0, 0, 0),
  (1005, .getfield 220, 2, 56, 0, 0),
  (1008, .if_icmp .ge (58), 1066, 0, 0, 0),
  (1011, .aload_n 0, 0, 0, 0, 0),
  (1012, .aload_n 0, 0, 0, 0, 0),
  (1013, .getfield 111, 2, 41, 3, 0),
  (1016, .aload_n 0, 0, 0, 0, 0),
  (1017, .getfield 148, 2, 53, 3, 0),
  (1020, .iload 16, 0, 0, 0, 0),
  (1022, .iaload, 0, 0, 0, 0),
  (1023, .iaload, 0, 0, 0, 0),
  (1024, .aload_n 0, 0, 0, 0, 0),
  (1025, .getfield 102, 2, 38, 3, 0),
  (1028, .aload_n 0, 0, 0, 0, 0),
  (1029, .getfield 148, 2, 53, 3, 0),
  (1032, .iload 16, 0, 0, 0, 0),
  (1034, .iaload, 0, 0, 0, 0),
  (1035, .iaload, 0, 0, 0, 0),
  (1036, .invokevirtual 209, 39, 3, 2, 0),
  (1039, .aload_n 0, 0, 0, 0, 0),
  (1040, .aload_n 0, 0, 0, 0, 0),
  (1041, .getfield 151, 2, 54, 3, 0),
  (1044, .iload 16, 0, 0, 0, 0),
  (1046, .iaload, 0, 0, 0, 0),
  (1047, .aload_n 0, 0, 0, 0, 0),
  (1048, .getfield 148, 2, 53, 3, 0),
  (1051, .iload 16, 0, 0, 0, 0),
  (1053, .iaload, 0, 0, 0, 0),
  (1054, .invokestatic 247, 44, 1, 0, 0),
  (1057, .invokevirtual 209, 39, 3, 2, 0),
  (1060, .iinc 16 (1), 0, 0, 0, 1),
  (1063, .goto (-61), 1002, 0, 0, 0),
  (1066, .aload_n 0, 0, 0, 0, 0),
  (1067, .aload_n 0, 0, 0, 0, 0),
  (1068, .getfield 96, 2, 36, 3, 0),
  (1071, .sipush (286), 0, 0, 0, 286),
  (1074, .aload_n 0, 0, 0, 0, 0),
  (1075, .getfield 105, 2, 39, 3, 0),
  (1078, .invokevirtual 257, 38, 4, 2, 0),
  (1081, .aload_n 0, 0, 0, 0, 0),
  (1082, .aload_n 0, 0, 0, 0, 0),
  (1083, .getfield 99, 2, 37, 3, 0),
  (1086, .bipush (30), 0, 0, 0, 30),
  (1088, .aload_n 0, 0, 0, 0, 0),
  (1089, .getfield 108, 2, 40, 3, 0),
  (1092, .invokevirtual 257, 38, 4, 2, 0),
  (1095, .aload_n 0, 0, 0, 0, 0),
  (1096, .iload_n 1, 0, 0, 0, 0),
  (1097, .iload_n 2, 0, 0, 0, 0),
  (1098, .iload_n 3, 0, 0, 0, 0),
  (1099, .aload_n 0, 0, 0, 0, 0),
  (1100, .getfield 96, 2, 36, 3, 0),
  (1103, .aload_n 0, 0, 0, 0, 0),
  (1104, .getfield 105, 2, 39, 3, 0),
  (1107, .aload_n 0, 0, 0, 0, 0),
  (1108, .getfield 99, 2, 37, 3, 0),
  (1111, .aload_n 0, 0, 0, 0, 0),
  (1112, .getfield 108, 2, 40, 3, 0),
  (1115, .invokevirtual 261, 41, 8, 2, 0),
  (1118, .return_, 0, 0, 0, 0)]
/-- PackDeskModel.pack()I -/
def cz_46 : List ez_C := [(0, .aload_n 0, 0, 0, 0, 0),
  (1, .iconst (0), 0, 0, 0, 0),
  (2, .putfield 179, 2, 0, 0, 0),
  (5, .aload_n 0, 0, 0, 0, 0),
  (6, .invokevirtual 265, 33, 1, 2, 0),
  (9, .aload_n 0, 0, 0, 0, 0),
  (10, .iconst (0), 0, 0, 0, 0),
  (11, .putfield 206, 2, 16, 0, 0),
  (14, .aload_n 0, 0, 0, 0, 0),
  (15, .iconst (0), 0, 0, 0, 0),
  (16, .putfield 254, 2, 15, 0, 0),
  (19, .iconst (0), 0, 0, 0, 0),
  (20, .istore_n 1, 0, 0, 0, 0),
  (21, .iconst (0), 0, 0, 0, 0),
  (22, .istore_n 2, 0, 0, 0, 0),
  (23, .iload_n 2, 0, 0, 0, 0),
  (24, .sipush (600), 0, 0, 0, 600),
  (27, .iadd, 0, 0, 0, 0),
  (28, .aload_n 0, 0, 0, 0, 0),
  (29, .getfield 195, 2, 14, 0, 0),
  (32, .if_icmp .ge (11), 43, 0, 0, 0),
  (35, .iload_n 2, 0, 0, 0, 0),
  (36, .sipush (600), 0, 0, 0, 600),
  (39, .iadd, 0, 0, 0, 0),
  (40, .goto (7), 47, 0, 0, 0),
  (43, .aload_n 0, 0, 0, 0, 0),
  (44, .getfield 195, 2, 14, 0, 0),
  (47, .istore_n 3, 0, 0, 0, 0),
  (48, .iconst (0), 0, 0, 0, 0),
  (49, .istore 4, 0, 0, 0, 0),
  (51, .iload_n 2, 0, 0, 0, 0),
  (52, .istore 5, 0, 0, 0, 0),
  (54, .iload 5, 0, 0, 0, 0),
  (56, .iload_n 3, 0, 0, 0, 0),
  (57, .if_icmp .ge (21), 78, 0, 0, 0),
  (60, .iload 4, 0, 0, 0, 0),
  (62, .aload_n 0, 0, 0, 0, 0),
  (63, .getfield 25, 2, 8, 3, 0),
  (66, .iload 5, 0, 0, 0, 0),
  (68, .iaload, 0, 0, 0, 0),
  (69, .iadd, 0, 0, 0, 0),
  (70, .istore 4, 0, 0, 0, 0),
  (72, .iinc 5 (1), 0, 0, 0, 1),
  (75, .goto (-21), 54, 0, 0, 0),
  (78, .aload_n 0, 0, 0, 0, 0),
  (79, .iload_n 2, 0, 0, 0, 0),
  (80, .iload_n 3, 0, 0, 0, 0),
  (81, .iload_n 1, 0, 0, 0, 0),
  (82, .iload 4, 0, 0, 0, 0),
  (84, .iload_n 3, 0, 0, 0, 0),
  (85, .aload_n 0, 0, 0, 0, 0),
  (86, .getfield 195, 2, 14, 0, 0),
  (89, .if_icmp .ne (7), 96, 0, 0, 0),
  (92, .iconst (1), 0, 0, 0, 1),
  (93, .goto (4), 97, 0, 0, 0),
  (96, .iconst (0), 0, 0, 0, 0),
  (97, .invokevirtual 268, 45, 6, 2, 0),
  (100, .iload_n 1, 0, 0, 0, 0),
  (101, .iload 4, 0, 0, 0, 0),
  (103, .iadd, 0, 0, 0, 0),
  (104, .istore_n 1, 0, 0, 0, 0),
  (105, .iload_n 3, 0, 0, 0, 0),
  (106, .istore_n 2, 0, 0, 0, 0),
  (107, .iload_n 2, 0, 0, 0, 0),
  (108, .aload_n 0, 0, 0, 0, 0),
  (109, .getfield 195, 2, 14, 0, 0),
  (112, .if_icmp .lt (-89), 23, 0, 0, 0),
  (115, .aload_n 0, 0, 0, 0, 0),
  (116, .aload_n 0, 0, 0, 0, 0),
  (117, .getfield 206, 2, 16, 0, 0),
  (120, .bipush (7), 0, 0, 0, 7),
  (122, .iadd, 0, 0, 0, 0),
  (123, .bipush (8), 0, 0, 0, 8),
  (125, .idiv, 0, 0, 0, 0),
  (126, .putfield 185, 2, 7, 0, 0),
  (129, .iconst (0), 0, 0, 0, 0),
  (130, .istore_n 3, 0, 0, 0, 0),
  (131, .iload_n 3, 0, 0, 0, 0),
  (132, .aload_n 0, 0, 0, 0, 0),
  (133, .getfield 185, 2, 7, 0, 0),
  (136, .if_icmp .ge (21), 157, 0, 0, 0),
  (139, .aload_n 0, 0, 0, 0, 0),
  (140, .getfield 13, 2, 2, 3, 0),
  (143, .iload_n 3, 0, 0, 0, 0),
  (144, .aload_n 0, 0, 0, 0, 0),
  (145, .getfield 19, 2, 4, 3, 0),
  (148, .iload_n 3, 0, 0, 0, 0),
  (149, .baload, 0, 0, 0, 0),
  (150, .bastore, 0, 0, 0, 0),
  (151, .iinc 3 (1), 0, 0, 0, 1),
  (154, .goto (-23), 131, 0, 0, 0),
  (157, .aload_n 0, 0, 0, 0, 0),
  (158, .getfield 185, 2, 7, 0, 0),
  (161, .ireturn, 0, 0, 0, 0)]
/-- PackDeskModel.parts()I -/
def cz_47 : List ez_C := [(0, .aload_n 0, 0, 0, 0, 0),
  (1, .iconst (0), 0, 0, 0, 0),
  (2, .putfield 179, 2, 0, 0, 0),
  (5, .aload_n 0, 0, 0, 0, 0),
  (6, .getfield 195, 2, 14, 0, 0),
  (9, .ireturn, 0, 0, 0, 0)]
/-- PackDeskModel.part(II)I -/
def cz_48 : List ez_C := [(0, .aload_n 0, 0, 0, 0, 0),
  (1, .iconst (0), 0, 0, 0, 0),
  (2, .putfield 179, 2, 0, 0, 0),
  (5, .iload_n 1, 0, 0, 0, 0),
  (6, .ifCond .lt (11), 17, 0, 0, 0),
  (9, .iload_n 1, 0, 0, 0, 0),
  (10, .aload_n 0, 0, 0, 0, 0),
  (11, .getfield 195, 2, 14, 0, 0),
  (14, .if_icmp .lt (5), 19, 0, 0, 0),
  (17, .iconst (-1), 0, 0, 0, (-1)),
  (18, .ireturn, 0, 0, 0, 0),
  (19, .iload_n 2, 0, 0, 0, 0),
  (20, .ifCond .ne (30), 50, 0, 0, 0),
  (23, .aload_n 0, 0, 0, 0, 0),
  (24, .getfield 29, 2, 9, 3, 0),
  (27, .iload_n 1, 0, 0, 0, 0),
  (28, .iaload, 0, 0, 0, 0),
  (29, .ifCond .ne (12), 41, 0, 0, 0),
  (32, .aload_n 0, 0, 0, 0, 0),
  (33, .getfield 32, 2, 10, 3, 0),
  (36, .iload_n 1, 0, 0, 0, 0),
  (37, .iaload, 0, 0, 0, 0),
  (38, .goto (41), 79, 0, 0, 0),
  (41, .aload_n 0, 0, 0, 0, 0),
  (42, .getfield 25, 2, 8, 3, 0),
  (45, .iload_n 1, 0, 0, 0, 0),
  (46, .iaload, 0, 0, 0, 0),
  (47, .goto (32), 79, 0, 0, 0),
  (50, .iload_n 2, 0, 0, 0, 0),
  (51, .iconst (1), 0, 0, 0, 1),
  (52, .if_icmp .ne (12), 64, 0, 0, 0),
  (55, .aload_n 0, 0, 0, 0, 0),
  (56, .getfield 29, 2, 9, 3, 0),
  (59, .iload_n 1, 0, 0, 0, 0),
  (60, .iaload, 0, 0, 0, 0),
  (61, .goto (18), 79, 0, 0, 0),
  (64, .iload_n 2, 0, 0, 0, 0),
  (65, .iconst (2), 0, 0, 0, 2),
  (66, .if_icmp .ne (12), 78, 0, 0, 0),
  (69, .aload_n 0, 0, 0, 0, 0),
  (70, .getfield 35, 2, 11, 3, 0),
  (73, .iload_n 1, 0, 0, 0, 0),
  (74, .iaload, 0, 0, 0, 0),
  (75, .goto (4), 79, 0, 0, 0),
  (78, .iconst (-1), 0, 0, 0, (-1)),
  (79, .ireturn, 0, 0, 0, 0)]
/-- PackDeskModel.blocks()I -/
def cz_49 : List ez_C := [(0, .aload_n 0, 0, 0, 0, 0),
  (1, .iconst (0), 0, 0, 0, 0),
  (2, .putfield 179, 2, 0, 0, 0),
  (5, .aload_n 0, 0, 0, 0, 0),
  (6, .getfield 254, 2, 15, 0, 0),
  (9, .ireturn, 0, 0, 0, 0)]
/-- PackDeskModel.block(II)I -/
def cz_50 : List ez_C := [(0, .aload_n 0, 0, 0, 0, 0),
  (1, .iconst (0), 0, 0, 0, 0),
  (2, .putfield 179, 2, 0, 0, 0),
  (5, .iload_n 1, 0, 0, 0, 0),
  (6, .ifCond .lt (11), 17, 0, 0, 0),
  (9, .iload_n 1, 0, 0, 0, 0),
  (10, .aload_n 0, 0, 0, 0, 0),
  (11, .getfield 254, 2, 15, 0, 0),
  (14, .if_icmp .lt (5), 19, 0, 0, 0),
  (17, .iconst (-1), 0, 0, 0, (-1)),
  (18, .ireturn, 0, 0, 0, 0),
  (19, .iload_n 2, 0, 0, 0, 0),
  (20, .tableswitch (82) (0) (5) #[40, 47, 54, 61, 68, 75], 0, 0, 0, 0),
  (60, .aload_n 0, 0, 0, 0, 0),
  (61, .getfield 45, 2, 19, 3, 0),
  (64, .iload_n 1, 0, 0, 0, 0),
  (65, .iaload, 0, 0, 0, 0),
  (66, .ireturn, 0, 0, 0, 0),
  (67, .aload_n 0, 0, 0, 0, 0),
  (68, .getfield 48, 2, 20, 3, 0),
  (71, .iload_n 1, 0, 0, 0, 0),
  (72, .iaload, 0, 0, 0, 0),
  (73, .ireturn, 0, 0, 0, 0),
  (74, .aload_n 0, 0, 0, 0, 0),
  (75, .getfield 51, 2, 21, 3, 0),
  (78, .iload_n 1, 0, 0, 0, 0),
  (79, .iaload, 0, 0, 0, 0),
  (80, .ireturn, 0, 0, 0, 0),
  (81, .aload_n 0, 0, 0, 0, 0),
  (82, .getfield 54, 2, 22, 3, 0),
  (85, .iload_n 1, 0, 0, 0, 0),
  (86, .iaload, 0, 0, 0, 0),
  (87, .ireturn, 0, 0, 0, 0),
  (88, .aload_n 0, 0, 0, 0, 0),
  (89, .getfield 57, 2, 23, 3, 0),
  (92, .iload_n 1, 0, 0, 0, 0),
  (93, .iaload, 0, 0, 0, 0),
  (94, .ireturn, 0, 0, 0, 0),
  (95, .aload_n 0, 0, 0, 0, 0),
  (96, .getfield 60, 2, 24, 3, 0),
  (99, .iload_n 1, 0, 0, 0, 0),
  (100, .iaload, 0, 0, 0, 0),
  (101, .ireturn, 0, 0, 0, 0),
  (102, .iconst (-1), 0, 0, 0, (-1)),
  (103, .ireturn, 0, 0, 0, 0)]
/-- PackDeskModel.code(III)I -/
def cz_51 : List ez_C := [(0, .aload_n 0, 0, 0, 0, 0),
  (1, .iconst (0), 0, 0, 0, 0),
  (2, .putfield 179, 2, 0, 0, 0),
  (5, .iload_n 1, 0, 0, 0, 0),
  (6, .ifCond .lt (34), 40, 0, 0, 0),
  (9, .iload_n 1, 0, 0, 0, 0),
  (10, .aload_n 0, 0, 0, 0, 0),
  (11, .getfield 254, 2, 15, 0, 0),
  (14, .if_icmp .ge (26), 40, 0, 0, 0),
  (17, .aload_n 0, 0, 0, 0, 0),
  (18, .getfield 45, 2, 19, 3, 0),
  (21, .iload_n 1, 0, 0, 0, 0),
  (22, .iaload, 0, 0, 0, 0),
  (23, .iconst (2), 0, 0, 0, 2),
  (24, .if_icmp .ne (16), 40, 0, 0, 0),
  (27, .iload_n 2, 0, 0, 0, 0),
  (28, .ifCond .lt (12), 40, 0, 0, 0),
  (31, .iload_n 2, 0, 0, 0, 0),
  (32, .iconst (2), 0, 0, 0, 2),
  (33, .if_icmp .gt (7), 40, 0, 0, 0),
  (36, .iload_n 3, 0, 0, 0, 0),
  (37, .ifCond .ge (5), 42, 0, 0, 0),
  (40, .iconst (-1), 0, 0, 0, (-1)),
  (41, .ireturn, 0, 0, 0, 0),
  (42, .iload_n 2, 0, 0, 0, 0),
  (43, .ifCond .ne (27), 70, 0, 0, 0),
  (46, .iload_n 3, 0, 0, 0, 0),
  (47, .sipush (286), 0, 0, 0, 286),
  (50, .if_icmp .ge (18), 68, 0, 0, 0),
  (53, .aload_n 0, 0, 0, 0, 0),
  (54, .getfield 63, 2, 25, 3, 0),
  (57, .sipush (288), 0, 0, 0, 288),
  (60, .iload_n 1, 0, 0, 0, 0),
  (61, .imul, 0, 0, 0, 0),
  (62, .iload_n 3, 0, 0, 0, 0),
  (63, .iadd, 0, 0, 0, 0),
  (64, .iaload, 0, 0, 0, 0),
  (65, .goto (4), 69, 0, 0, 0),
  (68, .iconst (-1), 0, 0, 0, (-1)),
  (69, .ireturn, 0, 0, 0, 0),
  (70, .iload_n 2, 0, 0, 0, 0),
  (71, .iconst (1), 0, 0, 0, 1),
  (72, .if_icmp .ne (25), 97, 0, 0, 0),
  (75, .iload_n 3, 0, 0, 0, 0),
  (76, .bipush (30), 0, 0, 0, 30),
  (78, .if_icmp .ge (17), 95, 0, 0, 0),
  (81, .aload_n 0, 0, 0, 0, 0),
  (82, .getfield 66, 2, 26, 3, 0),
  (85, .bipush (30), 0, 0, 0, 30),
  (87, .iload_n 1, 0, 0, 0, 0),
  (88, .imul, 0, 0, 0, 0),
  (89, .iload_n 3, 0, 0, 0, 0),
  (90, .iadd, 0, 0, 0, 0),
  (91, .iaload, 0, 0, 0, 0),
  (92, .goto (4), 96, 0, 0, 0),
  (95, .iconst (-1), 0, 0, 0, (-1)),
  (96, .ireturn, 0, 0, 0, 0),
  (97, .iload_n 3, 0, 0, 0, 0),
  (98, .bipush (19), 0, 0, 0, 19),
  (100, .if_icmp .ge (17), 117, 0, 0, 0),
  (103, .aload_n 0, 0, 0, 0, 0),
  (104, .getfield 69, 2, 27, 3, 0),
  (107, .bipush (19), 0, 0, 0, 19),
  (109, .iload_n 1, 0, 0, 0, 0),
  (110, .imul, 0, 0, 0, 0),
  (111, .iload_n 3, 0, 0, 0, 0),
  (112, .iadd, 0, 0, 0, 0),
  (113, .iaload, 0, 0, 0, 0),
  (114, .goto (4), 118, 0, 0, 0),
  (117, .iconst (-1), 0, 0, 0, (-1)),
  (118, .ireturn, 0, 0, 0, 0)]
/-- PackDeskModel.takeBits(I)I -/
def cz_52 : List ez_C := [(0, .iconst (0), 0, 0, 0, 0),
  (1, .istore_n 2, 0, 0, 0, 0),
  (2, .iconst (0), 0, 0, 0, 0),
  (3, .istore_n 3, 0, 0, 0, 0),
  (4, .iload_n 3, 0, 0, 0, 0),
  (5, .iload_n 1, 0, 0, 0, 0),
  (6, .if_icmp .ge (86), 92, 0, 0, 0),
  (9, .aload_n 0, 0, 0, 0, 0),
  (10, .getfield 272, 2, 61, 0, 0),
  (13, .ifCond .ne (79), 92, 0, 0, 0),
  (16, .aload_n 0, 0, 0, 0, 0),
  (17, .getfield 275, 2, 59, 0, 0),
  (20, .bipush (8), 0, 0, 0, 8),
  (22, .idiv, 0, 0, 0, 0),
  (23, .aload_n 0, 0, 0, 0, 0),
  (24, .getfield 182, 2, 6, 0, 0),
  (27, .if_icmp .lt (11), 38, 0, 0, 0),
  (30, .aload_n 0, 0, 0, 0, 0),
  (31, .iconst (1), 0, 0, 0, 1),
  (32, .putfield 272, 2, 61, 0, 0),
  (35, .goto (30), 65, 0, 0, 0),
  (38, .iload_n 2, 0, 0, 0, 0),
  (39, .aload_n 0, 0, 0, 0, 0),
  (40, .getfield 7, 2, 1, 3, 0),
  (43, .aload_n 0, 0, 0, 0, 0),
  (44, .getfield 275, 2, 59, 0, 0),
  (47, .bipush (8), 0, 0, 0, 8),
  (49, .idiv, 0, 0, 0, 0),
  (50, .baload, 0, 0, 0, 0),
  (51, .aload_n 0, 0, 0, 0, 0),
  (52, .getfield 275, 2, 59, 0, 0),
  (55, .bipush (8), 0, 0, 0, 8),
  (57, .irem, 0, 0, 0, 0),
  (58, .ishr, 0, 0, 0, 0),
  (59, .iconst (1), 0, 0, 0, 1),
  (60, .iand, 0, 0, 0, 0),
  (61, .iload_n 3, 0, 0, 0, 0),
  (62, .ishl, 0, 0, 0, 0),
  (63, .ior, 0, 0, 0, 0),
  (64, .istore_n 2, 0, 0, 0, 0),
  (65, .aload_n 0, 0, 0, 0, 0),
  (66, .dup, 0, 0, 0, 0),
  (67, .getfield 275, 2, 59, 0, 0),
  (70, .aload_n 0, 0, 0, 0, 0),
  (71, .getfield 272, 2, 61, 0, 0),
  (74, .ifCond .ne (7), 81, 0, 0, 0),
  (77, .iconst (1), 0, 0, 0, 1),
  (78, .goto (4), 82, 0, 0, 0),
  (81, .iconst (0), 0, 0, 0, 0),
  (82, .iadd, 0, 0, 0, 0),
  (83, .putfield 275, 2, 59, 0, 0),
  (86, .iinc 3 (1), 0, 0, 0, 1),
  (89, .goto (-85), 4, 0, 0, 0),
  (92, .iload_n 2, 0, 0, 0, 0),
  (93, .ireturn, 0, 0, 0, 0)]
/-- PackDeskModel.wrong(I)V -/
def cz_53 : List ez_C := [(0, .aload_n 0, 0, 0, 0, 0),
  (1, .getfield 272, 2, 61, 0, 0),
  (4, .ifCond .ne (8), 12, 0, 0, 0),
  (7, .aload_n 0, 0, 0, 0, 0),
  (8, .iload_n 1, 0, 0, 0, 0),
  (9, .putfield 272, 2, 61, 0, 0),
  (12, .return_, 0, 0, 0, 0)]
/-- PackDeskModel.give(I)V -/
def cz_54 : List ez_C := [(0, .aload_n 0, 0, 0, 0, 0),
  (1, .getfield 278, 2, 60, 0, 0),
  (4, .sipush (6000), 0, 0, 0, 6000),
  (7, .if_icmp .ne (10), 17, 0, 0, 0),
  (10, .aload_n 0, 0, 0, 0, 0),
  (11, .bipush (9), 0, 0, 0, 9),
  (13, .invokevirtual 281, 53, 2, 2, 0),
  (16, .return_, 0, 0, 0, 0),
  (17, .aload_n 0, 0, 0, 0, 0),
  (18, .getfield 22, 2, 5, 3, 0),
  (21, .aload_n 0, 0, 0, 0, 0),
  (22, .getfield 278, 2, 60, 0, 0),
  (25, .iload_n 1, 0, 0, 0, 0),
  (26, .i2b, 0, 0, 0, 0),
  (27, .bastore, 0, 0, 0, 0),
  (28, .aload_n 0, 0, 0, 0, 0),
  (29, .dup, 0, 0, 0, 0),
  (30, .getfield 278, 2, 60, 0, 0),
  (33, .iconst (1), 0, 0, 0, 1),
  (34, .iadd, 0, 0, 0, 0),
  (35, .putfield 278, 2, 60, 0, 0),
  (38, .return_, 0, 0, 0, 0)]
/-- PackDeskModel.takeSymbol([II)I -/
def cz_55 : List ez_C := [(0, .iconst (0), 0, 0, 0, 0),
  (1, .istore_n 3, 0, 0, 0, 0),
  (2, .iconst (0), 0, 0, 0, 0),
  (3, .istore 4, 0, 0, 0, 0),
  (5, .iload 4, 0, 0, 0, 0),
  (7, .bipush (17), 0, 0, 0, 17),
  (9, .if_icmp .ge (17), 26, 0, 0, 0),
  (12, .aload_n 0, 0, 0, 0, 0),
  (13, .getfield 142, 2, 51, 3, 0),
  (16, .iload 4, 0, 0, 0, 0),
  (18, .iconst (0), 0, 0, 0, 0),
  (19, .iastore, 0, 0, 0, 0),
  (20, .iinc 4 (1), 0, 0, 0, 1),
  (23, .goto (-18), 5, 0, 0, 0),
  (26, .iconst (0), 0, 0, 0, 0),
  (27, .istore 4, 0, 0, 0, 0),
  (29, .iload 4, 0, 0, 0, 0),
  (31, .iload_n 2, 0, 0, 0, 0),
  (32, .if_icmp .ge (48), 80, 0, 0, 0),
  (35, .aload_n 0, 0, 0, 0, 0),
  (36, .getfield 142, 2, 51, 3, 0),
  (39, .aload_n 1, 0, 0, 0, 0),
  (40, .iload 4, 0, 0, 0, 0),
  (42, .iaload, 0, 0, 0, 0),
  (43, .dup2, 0, 0, 0, 0),
  (44, .iaload, 0, 0, 0, 0),
  (45, .aload_n 1, 0, 0, 0, 0),
  (46, .iload 4, 0, 0, 0, 0),
  (48, .iaload, 0, 0, 0, 0),
  (49, .ifCond .le (7), 56, 0, 0, 0),
  (52, .iconst (1), 0, 0, 0, 1),
  (53, .goto (4), 57, 0, 0, 0),
  (56, .iconst (0), 0, 0, 0, 0),
  (57, .iadd, 0, 0, 0, 0),
  (58, .iastore, 0, 0, 0, 0),
  (59, .iload_n 3, 0, 0, 0, 0),
  (60, .aload_n 1, 0, 0, 0, 0),
  (61, .iload 4, 0, 0, 0, 0),
  (63, .iaload, 0, 0, 0, 0),
  (64, .ifCond .le (7), 71, 0, 0, 0),
  (67, .iconst (1), 0, 0, 0, 1),
  (68, .goto (4), 72, 0, 0, 0),
  (71, .iconst (0), 0, 0, 0, 0),
  (72, .iadd, 0, 0, 0, 0),
  (73, .istore_n 3, 0, 0, 0, 0),
  (74, .iinc 4 (1), 0, 0, 0, 1),
  (77, .goto (-48), 29, 0, 0, 0),
  (80, .iload_n 3, 0, 0, 0, 0),
  (81, .ifCond .ne (9), 90, 0, 0, 0),
  (84, .aload_n 0, 0, 0, 0, 0),
  (85, .bipush (7), 0, 0, 0, 7),
  (87, .invokevirtual 281, 53, 2, 2, 0),
  (90, .iconst (0), 0, 0, 0, 0),
  (91, .istore 4, 0, 0, 0, 0),
  (93, .iconst (0), 0, 0, 0, 0),
  (94, .istore 5, 0, 0, 0, 0),
  (96, .iconst (1), 0, 0, 0, 1),
  (97, .istore 6, 0, 0, 0, 0),
  (99, .iload 6, 0, 0, 0, 0),
  (101, .bipush (16), 0, 0, 0, 16),
  (103, .if_icmp .ge (94), 197, 0, 0, 0),
  (106, .aload_n 0, 0, 0, 0, 0),
  (107, .getfield 272, 2, 61, 0, 0),
  (110, .ifCond .ne (87), 197, 0, 0, 0),
  (113, .iload 4, 0, 0, 0, 0),
  (115, .iconst (1), 0, 0, 0, 1),
  (116, .ishl, 0, 0, 0, 0),
  (117, .aload_n 0, 0, 0, 0, 0),
  (118, .iconst (1), 0, 0, 0, 1),
  (119, .invokevirtual 284, 52, 2, 2, 0),
  (122, .ior, 0, 0, 0, 0),
  (123, .istore 4, 0, 0, 0, 0),
  (125, .iload 5, 0, 0, 0, 0),
  (127, .iconst (1), 0, 0, 0, 1),
  (128, .ishl, 0, 0, 0, 0),
  (129, .istore 5, 0, 0, 0, 0),
  (131, .aload_n 0, 0, 0, 0, 0),
  (132, .getfield 272, 2, 61, 0, 0),
  (135, .ifCond .le (5), 140, 0, 0, 0),
  (138, .iconst (0), 0, 0, 0, 0),
  (139, .ireturn, 0, 0, 0, 0),
  (140, .iload 4, 0, 0, 0, 0),
  (142, .iload 5, 0, 0, 0, 0),
  (144, .isub, 0, 0, 0, 0),
  (145, .aload_n 0, 0, 0, 0, 0),
  (146, .getfield 142, 2, 51, 3, 0),
  (149, .iload 6, 0, 0, 0, 0),
  (151, .iaload, 0, 0, 0, 0),
  (152, .if_icmp .ge (16), 168, 0, 0, 0),
  (155, .aload_n 1, 0, 0, 0, 0),
  (156, .iload_n 2, 0, 0, 0, 0),
  (157, .iload 6, 0, 0, 0, 0),
  (159, .iload 4, 0, 0, 0, 0),
  (161, .iload 5, 0, 0, 0, 0),
  (163, .isub, 0, 0, 0, 0),
  (164, .invokestatic 287, 56, 4, 0, 0),
  (167, .ireturn, 0, 0, 0, 0),
  (168, .iload 5, 0, 0, 0, 0),
  (170, .aload_n 0, 0, 0, 0, 0),
  (171, .getfield 142, 2, 51, 3, 0),
  (174, .iload 6, 0, 0, 0, 0),
  (176, .iaload, 0, 0, 0, 0),
  (177, .iadd, 0, 0, 0, 0),
  (178, .istore 5, 0, 0, 0, 0),
  (180, .iload_n 3, 0, 0, 0, 0),
  (181, .iconst (1), 0, 0, 0, 1),
  (182, .if_icmp .ne (9), 191, 0, 0, 0),
  (185, .aload_n 0, 0, 0, 0, 0),
  (186, .bipush (7), 0, 0, 0, 7),
  (188, .invokevirtual 281, 53, 2, 2, 0),
  (191, .iinc 6 (1), 0, 0, 0, 1),
  (194, .goto (-95), 99, 0, 0, 0),
  (197, .aload_n 0, 0, 0, 0, 0),
  (198, .bipush (7), 0, 0, 0, 7),
  (200, .invokevirtual 281, 53, 2, 2, 0),
  (203, .iconst (0), 0, 0, 0, 0),
  (204, .ireturn, 0, 0, 0, 0)]
/-- PackDeskModel.symbolOf([IIII)I -/
def cz_56 : List ez_C := [(0, .iload_n 3, 0, 0, 0, 0),
  (1, .istore 4, 0, 0, 0, 0),
  (3, .iconst (0), 0, 0, 0, 0),
  (4, .istore 5, 0, 0, 0, 0),
  (6, .aload_n 0, 0, 0, 0, 0),
  (7, .iload 5, 0, 0, 0, 0),
  (9, .iaload, 0, 0, 0, 0),
  (10, .iload_n 2, 0, 0, 0, 0),
  (11, .if_icmp .ne (8), 19, 0, 0, 0),
  (14, .iload 4, 0, 0, 0, 0),
  (16, .ifCond .le (27), 43, 0, 0, 0),
  (19, .iload 4, 0, 0, 0, 0),
  (21, .aload_n 0, 0, 0, 0, 0),
  (22, .iload 5, 0, 0, 0, 0),
  (24, .iaload, 0, 0, 0, 0),
  (25, .iload_n 2, 0, 0, 0, 0),
  (26, .if_icmp .ne (7), 33, 0, 0, 0),
  (29, .iconst (1), 0, 0, 0, 1),
  (30, .goto (4), 34, 0, 0, 0),
  (33, .iconst (0), 0, 0, 0, 0),
  (34, .isub, 0, 0, 0, 0),
  (35, .istore 4, 0, 0, 0, 0),
  (37, .iinc 5 (1), 0, 0, 0, 1),
  (40, .goto (-34), 6, 0, 0, 0),
  (43, .iload 5, 0, 0, 0, 0),
  (45, .ireturn, 0, 0, 0, 0)]
/-- PackDeskModel.isWhole([II)Z -/
def cz_57 : List ez_C := [(0, .iconst (0), 0, 0, 0, 0),
  (1, .istore_n 2, 0, 0, 0, 0),
  (2, .iconst (0), 0, 0, 0, 0),
  (3, .istore_n 3, 0, 0, 0, 0),
  (4, .iload_n 3, 0, 0, 0, 0),
  (5, .iload_n 1, 0, 0, 0, 0),
  (6, .if_icmp .ge (29), 35, 0, 0, 0),
  (9, .iload_n 2, 0, 0, 0, 0),
  (10, .aload_n 0, 0, 0, 0, 0),
  (11, .iload_n 3, 0, 0, 0, 0),
  (12, .iaload, 0, 0, 0, 0),
  (13, .ifCond .le (13), 26, 0, 0, 0),
  (16, .ldc_w 291, 0, 0, 0, 32768),
  (19, .aload_n 0, 0, 0, 0, 0),
  (20, .iload_n 3, 0, 0, 0, 0),
  (21, .iaload, 0, 0, 0, 0),
  (22, .ishr, 0, 0, 0, 0),
  (23, .goto (4), 27, 0, 0, 0),
  (26, .iconst (0), 0, 0, 0, 0),
  (27, .iadd, 0, 0, 0, 0),
  (28, .istore_n 2, 0, 0, 0, 0),
  (29, .iinc 3 (1), 0, 0, 0, 1),
  (32, .goto (-28), 4, 0, 0, 0),
  (35, .iload_n 2, 0, 0, 0, 0),
  (36, .ldc_w 291, 0, 0, 0, 32768),
  (39, .if_icmp .ne (7), 46, 0, 0, 0),
  (42, .iconst (1), 0, 0, 0, 1),
  (43, .goto (4), 47, 0, 0, 0),
  (46, .iconst (0), 0, 0, 0, 0),
  (47, .ireturn, 1, 0, 0, 0)]
/-- PackDeskModel.unpackStored()V -/
def cz_58 : List ez_C := [(0, .aload_n 0, 0, 0, 0, 0),
  (1, .getfield 275, 2, 59, 0, 0),
  (4, .bipush (8), 0, 0, 0, 8),
  (6, .irem, 0, 0, 0, 0),
  (7, .ifCond .eq (16), 23, 0, 0, 0),
  (10, .aload_n 0, 0, 0, 0, 0),
  (11, .dup, 0, 0, 0, 0),
  (12, .getfield 275, 2, 59, 0, 0),
  (15, .iconst (1), 0, 0, 0, 1),
  (16, .iadd, 0, 0, 0, 0),
  (17, .putfield 275, 2, 59, 0, 0),
  (20, .goto (-20), 0, 0, 0, 0),
  (23, .aload_n 0, 0, 0, 0, 0),
  (24, .bipush (16), 0, 0, 0, 16),
  (26, .invokevirtual 284, 52, 2, 2, 0),
  (29, .istore_n 1, 0, 0, 0, 0),
  (30, .aload_n 0, 0, 0, 0, 0),
  (31, .bipush (16), 0, 0, 0, 16),
  (33, .invokevirtual 284, 52, 2, 2, 0),
  (36, .istore_n 2, 0, 0, 0, 0),
  (37, .aload_n 0, 0, 0, 0, 0),
  (38, .getfield 272, 2, 61, 0, 0),
  (41, .ifCond .ne (17), 58, 0, 0, 0),
  (44, .iload_n 1, 0, 0, 0, 0),
  (45, .iload_n 2, 0, 0, 0, 0),
  (46, .ixor, 0, 0, 0, 0),
  (47, .ldc_w 292, 0, 0, 0, 65535),
  (50, .if_icmp .eq (8), 58, 0, 0, 0),
  (53, .aload_n 0, 0, 0, 0, 0),
  (54, .iconst (3), 0, 0, 0, 3),
  (55, .invokevirtual 281, 53, 2, 2, 0),
  (58, .iconst (0), 0, 0, 0, 0),
  (59, .istore_n 3, 0, 0, 0, 0),
  (60, .iload_n 3, 0, 0, 0, 0),
  (61, .iload_n 1, 0, 0, 0, 0),
  (62, .if_icmp .ge (37), 99, 0, 0, 0),
  (65, .aload_n 0, 0, 0, 0, 0),
  (66, .getfield 272, 2, 61, 0, 0),
  (69, .ifCond .ne (30), 99, 0, 0, 0),
  (72, .aload_n 0, 0, 0, 0, 0),
  (73, .bipush (8), 0, 0, 0, 8),
  (75, .invokevirtual 284, 52, 2, 2, 0),
  (78, .istore 4, 0, 0, 0, 0),
  (80, .aload_n 0, 0, 0, 0, 0),
  (81, .getfield 272, 2, 61, 0, 0),
  (84, .ifCond .ne (9), 93, 0, 0, 0),
  (87, .aload_n 0, 0, 0, 0, 0),
  (88, .iload 4, 0, 0, 0, 0),
  (90, .invokevirtual 293, 54, 2, 2, 0),
  (93, .iinc 3 (1), 0, 0, 0, 1),
  (96, .goto (-36), 60, 0, 0, 0),
  (99, .return_, 0, 0, 0, 0)]
/-- PackDeskModel.readLengths()V -/
def cz_59 : List ez_C := [(0, .aload_n 0, 0, 0, 0, 0),
  (1, .iconst (5), 0, 0, 0, 5),
  (2, .invokevirtual 284, 52, 2, 2, 0),
  (5, .sipush (257), 0, 0, 0, 257),
  (8, .iadd, 0, 0, 0, 0),
  (9, .istore_n 1, 0, 0, 0, 0),
  (10, .aload_n 0, 0, 0, 0, 0),
  (11, .iconst (5), 0, 0, 0, 5),
  (12, .invokevirtual 284, 52, 2, 2, 0),
  (15, .iconst (1), 0, 0, 0, 1),
  (16, .iadd, 0, 0, 0, 0),
  (17, .istore_n 2, 0, 0, 0, 0),
  (18, .aload_n 0, 0, 0, 0, 0),
  (19, .iconst (4), 0, 0, 0, 4),
  (20, .invokevirtual 284, 52, 2, 2, 0),
  (23, .iconst (4), 0, 0, 0, 4),
  (24, .iadd, 0, 0, 0, 0),
  (25, .istore_n 3, 0, 0, 0, 0),
  (26, .iload_n 1, 0, 0, 0, 0),
  (27, .sipush (286), 0, 0, 0, 286),
  (30, .if_icmp .gt (9), 39, 0, 0, 0),
  (33, .iload_n 2, 0, 0, 0, 0),
  (34, .bipush (30), 0, 0, 0, 30),
  (36, .if_icmp .le (8), 44, 0, 0, 0),
  (39, .aload_n 0, 0, 0, 0, 0),
  (40, .iconst (4), 0, 0, 0, 4),
  (41, .invokevirtual 281, 53, 2, 2, 0),
  (44, .iconst (0), 0, 0, 0, 0),
  (45, .istore 4, 0, 0, 0, 0),
  (47, .iload 4, 0, 0, 0, 0),
  (49, .bipush (19), 0, 0, 0, 19),
  (51, .if_icmp .ge (17), 68, 0, 0, 0),
  (54, .aload_n 0, 0, 0, 0, 0),
  (55, .getfield 167, 2, 66, 3, 0),
  (58, .iload 4, 0, 0, 0, 0),
  (60, .iconst (0), 0, 0, 0, 0),
  (61, .iastore, 0, 0, 0, 0),
  (62, .iinc 4 (1), 0, 0, 0, 1),
  (65, .goto (-18), 47, 0, 0, 0),
  (68, .iconst (0), 0, 0, 0, 0),
  (69, .istore 4, 0, 0, 0, 0),
  (71, .iload 4, 0, 0, 0, 0),
  (73, .iload_n 3, 0, 0, 0, 0),
  (74, .if_icmp .ge (33), 107, 0, 0, 0),
  (77, .aload_n 0, 0, 0, 0, 0),
  (78, .getfield 272, 2, 61, 0, 0),
  (81, .ifCond .ne (26), 107, 0, 0, 0),
  (84, .aload_n 0, 0, 0, 0, 0),
  (85, .getfield 167, 2, 66, 3, 0),
  (88, .aload_n 0, 0, 0, 0, 0),
  (89, .getfield 84, 2, 32, 3, 0),
  (92, .iload 4, 0, 0, 0, 0),
  (94, .iaload, 0, 0, 0, 0),
  (95, .aload_n 0, 0, 0, 0, 0),
  (96, .iconst (3), 0, 0, 0, 3),
  (97, .invokevirtual 284, 52, 2, 2, 0),
  (100, .iastore, 0, 0, 0, 0),
  (101, .iinc 4 (1), 0, 0, 0, 1),
  (104, .goto (-33), 71, 0, 0, 0),
  (107, .aload_n 0, 0, 0, 0, 0),
  (108, .getfield 167, 2, 66, 3, 0),
  (111, .bipush (19), 0, 0, 0, 19),
  (113, .invokestatic 296, 57, 2, 0, 0),
  (116, .ifCond .ne (8), 124, 0, 0, 0),
  (119, .aload_n 0, 0, 0, 0, 0),
  (120, .iconst (5), 0, 0, 0, 5),
  (121, .invokevirtual 281, 53, 2, 2, 0),
  (124, .iconst (0), 0, 0, 0, 0),
  (125, .istore 4, 0, 0, 0, 0),
  (127, .iload 4, 0, 0, 0, 0),
  (129, .iload_n 1, 0, 0, 0, 0),
  (130, .iload_n 2, 0, 0, 0, 0),
  (131, .iadd, 0, 0, 0, 0),
  (132, .if_icmp .ge (167), 299, 0, 0, 0),
  (135, .aload_n 0, 0, 0, 0, 0),
  (136, .getfield 272, 2, 61, 0, 0),
  (139, .ifCond .ne (160), 299, 0, 0, 0),
  (142, .aload_n 0, 0, 0, 0, 0),
  (143, .aload_n 0, 0, 0, 0, 0),
  (144, .getfield 167, 2, 66, 3, 0),
  (147, .bipush (19), 0, 0, 0, 19),
  (149, .invokevirtual 300, 55, 3, 2, 0),
  (152, .istore 5, 0, 0, 0, 0),
  (154, .aload_n 0, 0, 0, 0, 0),
  (155, .iload 5, 0, 0, 0, 0),
  (157, .invokestatic 247, 44, 1, 0, 0),
  (160, .invokevirtual 284, 52, 2, 2, 0),
  (163, .istore 6, 0, 0, 0, 0),
  (165, .iload 5, 0, 0, 0, 0),
  (167, .bipush (16), 0, 0, 0, 16),
  (169, .if_icmp .ge (18), 187, 0, 0, 0),
  (172, .aload_n 0, 0, 0, 0, 0),
  (173, .getfield 170, 2, 67, 3, 0),
  (176, .iload 4, 0, 0, 0, 0),
  (178, .iload 5, 0, 0, 0, 0),
  (180, .iastore, 0, 0, 0, 0),
  (181, .iinc 4 (1), 0, 0, 0, 1),
  (184, .goto (-57), 127, 0, 0, 0),
  (187, .iload 6, 0, 0, 0, 0),
  (189, .iload 5, 0, 0, 0, 0),
  (191, .bipush (18), 0, 0, 0, 18),
  (193, .if_icmp .ne (8), 201, 0, 0, 0),
  (196, .bipush (11), 0, 0, 0, 11),
  (198, .goto (4), 202, 0, 0, 0),
  (201, .iconst (3), 0, 0, 0, 3),
  (202, .iadd, 0, 0, 0, 0),
  (203, .istore 7, 0, 0, 0, 0),
  (205, .iload 5, 0, 0, 0, 0),
  (207, .bipush (16), 0, 0, 0, 16),
  (209, .if_icmp .ne (8), 217, 0, 0, 0),
  (212, .iload 4, 0, 0, 0, 0),
  (214, .ifCond .eq (14), 228, 0, 0, 0),
  (217, .iload 4, 0, 0, 0, 0),
  (219, .iload 7, 0, 0, 0, 0),
  (221, .iadd, 0, 0, 0, 0),
  (222, .iload_n 1, 0, 0, 0, 0),
  (223, .iload_n 2, 0, 0, 0, 0),
  (224, .iadd, 0, 0, 0, 0),
  (225, .if_icmp .le (9), 234, 0, 0, 0),
  (228, .aload_n 0, 0, 0, 0, 0),
  (229, .bipush (6), 0, 0, 0, 6),
  (231, .invokevirtual 281, 53, 2, 2, 0),
  (234, .iload 5, 0, 0, 0, 0),
  (236, .bipush (16), 0, 0, 0, 16),
  (238, .if_icmp .ne (20), 258, 0, 0, 0),
  (241, .iload 4, 0, 0, 0, 0),
  (243, .ifCond .le (15), 258, 0, 0, 0),
  (246, .aload_n 0, 0, 0, 0, 0),
  (247, .getfield 170, 2, 67, 3, 0),
  (250, .iload 4, 0, 0, 0, 0),
  (252, .iconst (1), 0, 0, 0, 1),
  (253, .isub, 0, 0, 0, 0),
  (254, .iaload, 0, 0, 0, 0),
  (255, .goto (4), 259, 0, 0, 0),
  (258, .iconst (0), 0, 0, 0, 0),
  (259, .istore 8, 0, 0, 0, 0),
  (261, .iconst (0), 0, 0, 0, 0),
  (262, .istore 9, 0, 0, 0, 0),
  (264, .iload 9, 0, 0, 0, 0),
  (266, .iload 7, 0, 0, 0, 0),
  (268, .if_icmp .ge (28), 296, 0, 0, 0),
  (271, .aload_n 0, 0, 0, 0, 0),
  (272, .getfield 272, 2, 61, 0, 0),
  (275, .ifCond .ne (21), 296, 0, 0, 0),
  (278, .aload_n 0, 0, 0, 0, 0),
  (279, .getfield 170, 2, 67, 3, 0),
  (282, .iload 4, 0, 0, 0, 0),
  (284, .iload 8, 0, 0, 0, 0),
  (286, .iastore, 0, 0, 0, 0),
  (287, .iinc 4 (1), 0, 0, 0, 1),
  (290, .iinc 9 (1), 0, 0, 0, 1),
  (293, .goto (-29), 264, 0, 0, 0),
  (296, .goto (-169), 127, 0, 0, 0),
  (299, .aload_n 0, 0, 0, 0, 0),
  (300, .getfield 272, 2, 61, 0, 0),
  (303, .ifCond .le (4), 307, 0, 0, 0),
  (306, .return_, 0, 0, 0, 0),
  (307, .iconst (0), 0, 0, 0, 0),
  (308, .istore 5, 0, 0, 0, 0),
  (310, .iconst (0), 0, 0, 0, 0),
  (311, .istore 6, 0, 0, 0, 0),
  (313, .iload 6, 0, 0, 0, 0),
  (315, .sipush (288), 0, 0, 0, 288),
  (318, .if_icmp .ge (33), 351, 0, 0, 0),
  (321, .aload_n 0, 0, 0, 0, 0),
  (322, .getfield 161, 2, 64, 3, 0),
  (325, .iload 6, 0, 0, 0, 0),
  (327, .iload 6, 0, 0, 0, 0),
  (329, .iload_n 1, 0, 0, 0, 0),
  (330, .if_icmp .ge (13), 343, 0, 0, 0),
  (333, .aload_n 0, 0, 0, 0, 0),
  (334, .getfield 170, 2, 67, 3, 0),
  (337, .iload 6, 0, 0, 0, 0),
  (339, .iaload, 0, 0, 0, 0),
  (340, .goto (4), 344, 0, 0, 0),
  (343, .iconst (0), 0, 0, 0, 0),
  (344, .iastore, 0, 0, 0, 0),
  (345, .iinc 6 (1), 0, 0, 0, 1),
  (348, .goto (-35), 313, 0, 0, 0),
  (351, .iconst (0), 0, 0, 0, 0),
  (352, .istore 6, 0, 0, 0, 0),
  (354, .iload 6, 0, 0, 0, 0),
  (356, .bipush (32), 0, 0, 0, 32),
  (358, .if_icmp .ge (47), 405, 0, 0, 0),
  (361, .aload_n 0, 0, 0, 0, 0),
  (362, .getfield 164, 2, 65, 3, 0),
  (365, .iload 6, 0, 0, 0, 0),
  (367, .iload 6, 0, 0, 0, 0),
  (369, .iload_n 2, 0, 0, 0, 0),
  (370, .if_icmp .ge (15), 385, 0, 0, 0),
  (373, .aload_n 0, 0, 0, 0, 0),
  (374, .getfield 170, 2, 67, 3, 0),
  (377, .iload_n 1, 0, 0, 0, 0),
  (378, .iload 6, 0, 0, 0, 0),
  (380, .iadd, 0, 0, 0, 0),
  (381, .iaload, 0, 0, 0, 0),
  (382, .goto (4), 386, 0, 0, 0),
  (385, .iconst (0), 0, 0, 0, 0),
  (386, .iastore, 0, 0, 0, 0),
  (387, .iload 5, 0, 0, 0, 0),
  (389, .aload_n 0, 0, 0, 0, 0),
  (390, .getfield 164, 2, 65, 3, 0),
  (393, .iload 6, 0, 0, 0, 0),
  (395, .iaload, 0, 0, 0, 0),
  (396, .iadd, 0, 0, 0, 0),
  (397, .istore 5, 0, 0, 0, 0),
  (399, .iinc 6 (1), 0, 0, 0, 1),
  (402, .goto (-48), 354, 0, 0, 0),
  (405, .aload_n 0, 0, 0, 0, 0),
  (406, .getfield 161, 2, 64, 3, 0),
  (409, .sipush (288), 0, 0, 0, 288),
  (412, .invokestatic 296, 57, 2, 0, 0),
  (415, .ifCond .eq (32), 447, 0, 0, 0),
  (418, .aload_n 0, 0, 0, 0, 0),
  (419, .getfield 161, 2, 64, 3, 0),
  (422, .sipush (256), 0, 0, 0, 256),
  (425, .iaload, 0, 0, 0, 0),
  (426, .ifCond .eq (21), 447, 0, 0, 0),
  (429, .iload 5, 0, 0, 0, 0),
  (431, .iconst (1), 0, 0, 0, 1),
  (432, .if_icmp .le (20), 452, 0, 0, 0),
  (435, .aload_n 0, 0, 0, 0, 0),
  (436, .getfield 164, 2, 65, 3, 0),
  (439, .bipush (32), 0, 0, 0, 32),
  (441, .invokestatic 296, 57, 2, 0, 0),
  (444, .ifCond .ne (8), 452, 0, 0, 0),
  (447, .aload_n 0, 0, 0, 0, 0),
  (448, .iconst (5), 0, 0, 0, 5),
  (449, .invokevirtual 281, 53, 2, 2, 0),
  (452, .return_, 0, 0, 0, 0)]
/-- PackDeskModel.unpackCodes()V -/
def cz_60 : List ez_C := [(0, .iconst (0), 0, 0, 0, 0),
  (1, .istore_n 1, 0, 0, 0, 0),
  (2, .iload_n 1, 0, 0, 0, 0),
  (3, .sipush (256), 0, 0, 0, 256),
  (6, .if_icmp .eq (246), 252, 0, 0, 0),
  (9, .aload_n 0, 0, 0, 0, 0),
  (10, .getfield 272, 2, 61, 0, 0),
  (13, .ifCond .ne (239), 252, 0, 0, 0),
  (16, .aload_n 0, 0, 0, 0, 0),
  (17, .aload_n 0, 0, 0, 0, 0),
  (18, .getfield 161, 2, 64, 3, 0),
  (21, .sipush (288), 0, 0, 0, 288),
  (24, .invokevirtual 300, 55, 3, 2, 0),
  (27, .istore_n 1, 0, 0, 0, 0),
  (28, .aload_n 0, 0, 0, 0, 0),
  (29, .getfield 272, 2, 61, 0, 0),
  (32, .ifCond .le (4), 36, 0, 0, 0),
  (35, .return_, 0, 0, 0, 0),
  (36, .iload_n 1, 0, 0, 0, 0),
  (37, .sipush (256), 0, 0, 0, 256),
  (40, .if_icmp .ge (8), 48, 0, 0, 0),
  (43, .aload_n 0, 0, 0, 0, 0),
  (44, .iload_n 1, 0, 0, 0, 0),
  (45, .invokevirtual 293, 54, 2, 2, 0),
  (48, .iload_n 1, 0, 0, 0, 0),
  (49, .sipush (285), 0, 0, 0, 285),
  (52, .if_icmp .le (9), 61, 0, 0, 0),
  (55, .aload_n 0, 0, 0, 0, 0),
  (56, .bipush (7), 0, 0, 0, 7),
  (58, .invokevirtual 281, 53, 2, 2, 0),
  (61, .iload_n 1, 0, 0, 0, 0),
  (62, .sipush (257), 0, 0, 0, 257),
  (65, .if_icmp .lt (-63), 2, 0, 0, 0),
  (68, .aload_n 0, 0, 0, 0, 0),
  (69, .getfield 272, 2, 61, 0, 0),
  (72, .ifCond .le (6), 78, 0, 0, 0),
  (75, .goto (-73), 2, 0, 0, 0),
  (78, .aload_n 0, 0, 0, 0, 0),
  (79, .getfield 72, 2, 28, 3, 0),
  (82, .iload_n 1, 0, 0, 0, 0),
  (83, .sipush (257), 0, 0, 0, 257),
  (86, .isub, 0, 0, 0, 0),
  (87, .iaload, 0, 0, 0, 0),
  (88, .aload_n 0, 0, 0, 0, 0),
  (89, .aload_n 0, 0, 0, 0, 0),
  (90, .getfield 75, 2, 29, 3, 0),
  (93, .iload_n 1, 0, 0, 0, 0),
  (94, .sipush (257), 0, 0, 0, 257),
  (97, .isub, 0, 0, 0, 0),
  (98, .iaload, 0, 0, 0, 0),
  (99, .invokevirtual 284, 52, 2, 2, 0),
  (102, .iadd, 0, 0, 0, 0),
  (103, .istore_n 2, 0, 0, 0, 0),
  (104, .aload_n 0, 0, 0, 0, 0),
  (105, .getfield 272, 2, 61, 0, 0),
  (108, .ifCond .le (7), 115, 0, 0, 0),
  (111, .iconst (0), 0, 0, 0, 0),
  (112, .goto (13), 125, 0, 0, 0),
  (115, .aload_n 0, 0, 0, 0, 0),
  (116, .aload_n 0, 0, 0, 0, 0),
  (117, .getfield 164, 2, 65, 3, 0),
  (120, .bipush (32), 0, 0, 0, 32),
  (122, .invokevirtual 300, 55, 3, 2, 0),
  (125, .istore_n 3, 0, 0, 0, 0),
  (126, .aload_n 0, 0, 0, 0, 0),
  (127, .getfield 272, 2, 61, 0, 0),
  (130, .ifCond .ne (15), 145, 0, 0, 0),
  (133, .iload_n 3, 0, 0, 0, 0),
  (134, .bipush (29), 0, 0, 0, 29),
  (136, .if_icmp .le (9), 145, 0, 0, 0),
  (139, .aload_n 0, 0, 0, 0, 0),
  (140, .bipush (7), 0, 0, 0, 7),
  (142, .invokevirtual 281, 53, 2, 2, 0),
  (145, .aload_n 0, 0, 0, 0, 0),
  (146, .getfield 272, 2, 61, 0, 0),
  (149, .ifCond .le (7), 156, 0, 0, 0),
  (152, .iconst (0), 0, 0, 0, 0),
  (153, .goto (20), 173, 0, 0, 0),
  (156, .aload_n 0, 0, 0, 0, 0),
  (157, .getfield 78, 2, 30, 3, 0),
  (160, .iload_n 3, 0, 0, 0, 0),
  (161, .iaload, 0, 0, 0, 0),
  (162, .aload_n 0, 0, 0, 0, 0),
  (163, .aload_n 0, 0, 0, 0, 0),
  (164, .getfield 81, 2, 31, 3, 0),
  (167, .iload_n 3, 0, 0, 0, 0),
  (168, .iaload, 0, 0, 0, 0),
  (169, .invokevirtual 284, 52, 2, 2, 0),
  (172, .iadd, 0, 0, 0, 0),
  (173, .istore 4, 0, 0, 0, 0),
  (175, .aload_n 0, 0, 0, 0, 0),
  (176, .getfield 272, 2, 61, 0, 0),
  (179, .ifCond .ne (18), 197, 0, 0, 0),
  (182, .iload 4, 0, 0, 0, 0),
  (184, .aload_n 0, 0, 0, 0, 0),
  (185, .getfield 278, 2, 60, 0, 0),
  (188, .if_icmp .le (9), 197, 0, 0, 0),
  (191, .aload_n 0, 0, 0, 0, 0),
  (192, .bipush (8), 0, 0, 0, 8),
  (194, .invokevirtual 281, 53, 2, 2, 0),
  (197, .iconst (0), 0, 0, 0, 0),
  (198, .istore 5, 0, 0, 0, 0),
  (200, .iload 5, 0, 0, 0, 0),
  (202, .iload_n 2, 0, 0, 0, 0),
  (203, .if_icmp .ge (46), 249, 0, 0, 0),
  (206, .aload_n 0, 0, 0, 0, 0),
  (207, .getfield 272, 2, 61, 0, 0),
  (210, .ifCond .ne (39), 249, 0, 0, 0),
  (213, .aload_n 0, 0, 0, 0, 0),
  (214, .aload_n 0, 0, 0, 0, 0),
  (215, .getfield 22, 2, 5, 3, 0),
  (218, .aload_n 0, 0, 0, 0, 0),
  (219, .getfield 278, 2, 60, 0, 0),
  (222, .sipush (6000), 0, 0, 0, 6000),
  (225, .if_icmp .ne (7), 232, 0, 0, 0),
  (228, .iconst (0), 0, 0, 0, 0),
  (229, .goto (10), 239, 0, 0, 0),
  (232, .aload_n 0, 0, 0, 0, 0),
  (233, .getfield 278, 2, 60, 0, 0),
  (236, .iload 4, 0, 0, 0, 0),
  (238, .isub, 0, 0, 0, 0),
  (239, .baload, 0, 0, 0, 0),
  (240, .invokevirtual 293, 54, 2, 2, 0),
  (243, .iinc 5 (1), 0, 0, 0, 1),
  (246, .goto (-46), 200, 0, 0, 0),
  (249, .goto (-247), 2, 0, 0, 0),
  (252, .return_, 0, 0, 0, 0)]
/-- PackDeskModel.unpack()I -/
def cz_61 : List ez_C := [(0, .aload_n 0, 0, 0, 0, 0),
  (1, .iconst (0), 0, 0, 0, 0),
  (2, .putfield 275, 2, 59, 0, 0),
  (5, .aload_n 0, 0, 0, 0, 0),
  (6, .iconst (0), 0, 0, 0, 0),
  (7, .putfield 278, 2, 60, 0, 0),
  (10, .aload_n 0, 0, 0, 0, 0),
  (11, .iconst (0), 0, 0, 0, 0),
  (12, .putfield 272, 2, 61, 0, 0),
  (15, .iconst (0), 0, 0, 0, 0),
  (16, .istore_n 1, 0, 0, 0, 0),
  (17, .iload_n 1, 0, 0, 0, 0),
  (18, .ifCond .ne (177), 195, 0, 0, 0),
  (21, .aload_n 0, 0, 0, 0, 0),
  (22, .getfield 272, 2, 61, 0, 0),
  (25, .ifCond .ne (170), 195, 0, 0, 0),
  (28, .aload_n 0, 0, 0, 0, 0),
  (29, .iconst (1), 0, 0, 0, 1),
  (30, .invokevirtual 284, 52, 2, 2, 0),
  (33, .iconst (1), 0, 0, 0, 1),
  (34, .if_icmp .ne (7), 41, 0, 0, 0),
  (37, .iconst (1), 0, 0, 0, 1),
  (38, .goto (4), 42, 0, 0, 0),
  (41, .iconst (0), 0, 0, 0, 0),
  (42, .istore_n 1, 0, 0, 0, 0),
  (43, .aload_n 0, 0, 0, 0, 0),
  (44, .iconst (2), 0, 0, 0, 2),
  (45, .invokevirtual 284, 52, 2, 2, 0),
  (48, .istore_n 2, 0, 0, 0, 0),
  (49, .aload_n 0, 0, 0, 0, 0),
  (50, .getfield 272, 2, 61, 0, 0),
  (53, .ifCond .le (6), 59, 0, 0, 0),
  (56, .goto (-39), 17, 0, 0, 0),
  (59, .iload_n 2, 0, 0, 0, 0),
  (60, .iconst (3), 0, 0, 0, 3),
  (61, .if_icmp .ne (8), 69, 0, 0, 0),
  (64, .aload_n 0, 0, 0, 0, 0),
  (65, .iconst (2), 0, 0, 0, 2),
  (66, .invokevirtual 281, 53, 2, 2, 0),
  (69, .iload_n 2, 0, 0, 0, 0),
  (70, .ifCond .ne (7), 77, 0, 0, 0),
  (73, .aload_n 0, 0, 0, 0, 0),
  (74, .invokevirtual 304, 58, 1, 2, 0),
  (77, .iload_n 2, 0, 0, 0, 0),
  (78, .iconst (1), 0, 0, 0, 1),
  (79, .if_icmp .ne (83), 162, 0, 0, 0),
  (82, .iconst (0), 0, 0, 0, 0),
  (83, .istore_n 3, 0, 0, 0, 0),
  (84, .iload_n 3, 0, 0, 0, 0),
  (85, .sipush (288), 0, 0, 0, 288),
  (88, .if_icmp .ge (53), 141, 0, 0, 0),
  (91, .aload_n 0, 0, 0, 0, 0),
  (92, .getfield 161, 2, 64, 3, 0),
  (95, .iload_n 3, 0, 0, 0, 0),
  (96, .iload_n 3, 0, 0, 0, 0),
  (97, .sipush (144), 0, 0, 0, 144),
  (100, .if_icmp .ge (8), 108, 0, 0, 0),
  (103, .bipush (8), 0, 0, 0, 8),
  (105, .goto (29), 134, 0, 0, 0),
  (108, .iload_n 3, 0, 0, 0, 0),
  (109, .sipush (256), 0, 0, 0, 256),
  (112, .if_icmp .ge (8), 120, 0, 0, 0),
  (115, .bipush (9), 0, 0, 0, 9),
  (117, .goto (17), 134, 0, 0, 0),
  (120, .iload_n 3, 0, 0, 0, 0),
  (121, .sipush (280), 0, 0, 0, 280),
  (124, .if_icmp .ge (8), 132, 0, 0, 0),
  (127, .bipush (7), 0, 0, 0, 7),
  (129, .goto (5), 134, 0, 0, 0),
  (132, .bipush (8), 0, 0, 0, 8),
  (134, .iastore, 0, 0, 0, 0),
  (135, .iinc 3 (1), 0, 0, 0, 1),
  (138, .goto (-54), 84, 0, 0, 0),
  (141, .iconst (0), 0, 0, 0, 0),
  (142, .istore_n 3, 0, 0, 0, 0),
  (143, .iload_n 3, 0, 0, 0, 0),
  (144, .bipush (32), 0, 0, 0, 32),
  (146, .if_icmp .ge (16), 162, 0, 0, 0),
  (149, .aload_n 0, 0, 0, 0, 0),
  (150, .getfield 164, 2, 65, 3, 0),
  (153, .iload_n 3, 0, 0, 0, 0),
  (154, .iconst (5), 0, 0, 0, 5),
  (155, .iastore, 0, 0, 0, 0),
  (156, .iinc 3 (1), 0, 0, 0, 1),
  (159, .goto (-16), 143, 0, 0, 0),
  (162, .iload_n 2, 0, 0, 0, 0),
  (163, .iconst (2), 0, 0, 0, 2),
  (164, .if_icmp .ne (7), 171, 0, 0, 0),
  (167, .aload_n 0, 0, 0, 0, 0),
  (168, .invokevirtual 307, 59, 1, 2, 0),
  (171, .iload_n 2, 0, 0, 0, 0),
  (172, .iconst (1), 0, 0, 0, 1),
  (173, .if_icmp .eq (8), 181, 0, 0, 0),
  (176, .iload_n 2, 0, 0, 0, 0),
  (177, .iconst (2), 0, 0, 0, 2),
  (178, .if_icmp .ne (14), 192, 0, 0, 0),
  (181, .aload_n 0, 0, 0, 0, 0),
  (182, .getfield 272, 2, 61, 0, 0),
  (185, .ifCond .ne (7), 192, 0, 0, 0),
  (188, .aload_n 0, 0, 0, 0, 0),
  (189, .invokevirtual 310, 60, 1, 2, 0),
  (192, .goto (-175), 17, 0, 0, 0),
  (195, .aload_n 0, 0, 0, 0, 0),
  (196, .aload_n 0, 0, 0, 0, 0),
  (197, .getfield 272, 2, 61, 0, 0),
  (200, .putfield 313, 2, 62, 0, 0),
  (203, .aload_n 0, 0, 0, 0, 0),
  (204, .aload_n 0, 0, 0, 0, 0),
  (205, .getfield 313, 2, 62, 0, 0),
  (208, .ifCond .le (16), 224, 0, 0, 0),
  (211, .aload_n 0, 0, 0, 0, 0),
  (212, .getfield 275, 2, 59, 0, 0),
  (215, .bipush (7), 0, 0, 0, 7),
  (217, .iadd, 0, 0, 0, 0),
  (218, .bipush (8), 0, 0, 0, 8),
  (220, .idiv, 0, 0, 0, 0),
  (221, .goto (4), 225, 0, 0, 0),
  (224, .iconst (-1), 0, 0, 0, (-1)),
  (225, .putfield 157, 2, 63, 0, 0),
  (228, .aload_n 0, 0, 0, 0, 0),
  (229, .aload_n 0, 0, 0, 0, 0),
  (230, .getfield 313, 2, 62, 0, 0),
  (233, .ifCond .le (7), 240, 0, 0, 0),
  (236, .iconst (1), 0, 0, 0, 1),
  (237, .goto (4), 241, 0, 0, 0),
  (240, .iconst (0), 0, 0, 0, 0),
  (241, .putfield 179, 2, 0, 0, 0),
  (244, .aload_n 0, 0, 0, 0, 0),
  (245, .getfield 179, 2, 0, 0, 0),
  (248, .ifCond .le (5), 253, 0, 0, 0),
  (251, .iconst (0), 0, 0, 0, 0),
  (252, .ireturn, 0, 0, 0, 0),
  (253, .aload_n 0, 0, 0, 0, 0),
  (254, .aload_n 0, 0, 0, 0, 0),
  (255, .getfield 278, 2, 60, 0, 0),
  (258, .putfield 185, 2, 7, 0, 0),
  (261, .iconst (0), 0, 0, 0, 0),
  (262, .istore_n 2, 0, 0, 0, 0),
  (263, .iload_n 2, 0, 0, 0, 0),
  (264, .aload_n 0, 0, 0, 0, 0),
  (265, .getfield 278, 2, 60, 0, 0),
  (268, .if_icmp .ge (21), 289, 0, 0, 0),
  (271, .aload_n 0, 0, 0, 0, 0),
  (272, .getfield 13, 2, 2, 3, 0),
  (275, .iload_n 2, 0, 0, 0, 0),
  (276, .aload_n 0, 0, 0, 0, 0),
  (277, .getfield 22, 2, 5, 3, 0),
  (280, .iload_n 2, 0, 0, 0, 0),
  (281, .baload, 0, 0, 0, 0),
  (282, .bastore, 0, 0, 0, 0),
  (283, .iinc 2 (1), 0, 0, 0, 1),
  (286, .goto (-23), 263, 0, 0, 0),
  (289, .aload_n 0, 0, 0, 0, 0),
  (290, .getfield 185, 2, 7, 0, 0),
  (293, .ireturn, 0, 0, 0, 0)]
/-- PackDeskModel.fault(I)I -/
def cz_62 : List ez_C := [(0, .aload_n 0, 0, 0, 0, 0),
  (1, .iconst (0), 0, 0, 0, 0),
  (2, .putfield 179, 2, 0, 0, 0),
  (5, .iload_n 1, 0, 0, 0, 0),
  (6, .ifCond .ne (10), 16, 0, 0, 0),
  (9, .aload_n 0, 0, 0, 0, 0),
  (10, .getfield 313, 2, 62, 0, 0),
  (13, .goto (16), 29, 0, 0, 0),
  (16, .iload_n 1, 0, 0, 0, 0),
  (17, .iconst (1), 0, 0, 0, 1),
  (18, .if_icmp .ne (10), 28, 0, 0, 0),
  (21, .aload_n 0, 0, 0, 0, 0),
  (22, .getfield 157, 2, 63, 0, 0),
  (25, .goto (4), 29, 0, 0, 0),
  (28, .iconst (-1), 0, 0, 0, (-1)),
  (29, .ireturn, 0, 0, 0, 0)]
/-- PackDeskModel.output(I)I -/
def cz_63 : List ez_C := [(0, .aload_n 0, 0, 0, 0, 0),
  (1, .iconst (0), 0, 0, 0, 0),
  (2, .putfield 179, 2, 0, 0, 0),
  (5, .iload_n 1, 0, 0, 0, 0),
  (6, .ifCond .lt (24), 30, 0, 0, 0),
  (9, .iload_n 1, 0, 0, 0, 0),
  (10, .aload_n 0, 0, 0, 0, 0),
  (11, .getfield 185, 2, 7, 0, 0),
  (14, .if_icmp .ge (16), 30, 0, 0, 0),
  (17, .aload_n 0, 0, 0, 0, 0),
  (18, .getfield 13, 2, 2, 3, 0),
  (21, .iload_n 1, 0, 0, 0, 0),
  (22, .baload, 0, 0, 0, 0),
  (23, .sipush (255), 0, 0, 0, 255),
  (26, .iand, 0, 0, 0, 0),
  (27, .goto (4), 31, 0, 0, 0),
  (30, .iconst (-1), 0, 0, 0, (-1)),
  (31, .ireturn, 0, 0, 0, 0)]
/-- PackDeskModel.weigh(II)V -/
def cz_64 : List ez_C := [(0, .aload_n 0, 0, 0, 0, 0),
  (1, .iload_n 1, 0, 0, 0, 0),
  (2, .ifCond .lt (9), 11, 0, 0, 0),
  (5, .iload_n 1, 0, 0, 0, 0),
  (6, .bipush (63), 0, 0, 0, 63),
  (8, .if_icmp .le (7), 15, 0, 0, 0),
  (11, .iconst (1), 0, 0, 0, 1),
  (12, .goto (19), 31, 0, 0, 0),
  (15, .iload_n 2, 0, 0, 0, 0),
  (16, .ifCond .lt (10), 26, 0, 0, 0),
  (19, .iload_n 2, 0, 0, 0, 0),
  (20, .ldc_w 316, 0, 0, 0, 1000000),
  (23, .if_icmp .le (7), 30, 0, 0, 0),
  (26, .iconst (2), 0, 0, 0, 2),
  (27, .goto (4), 31, 0, 0, 0),
  (30, .iconst (0), 0, 0, 0, 0),
  (31, .putfield 179, 2, 0, 0, 0),
  (34, .aload_n 0, 0, 0, 0, 0),
  (35, .getfield 179, 2, 0, 0, 0),
  (38, .ifCond .ne (10), 48, 0, 0, 0),
  (41, .aload_n 0, 0, 0, 0, 0),
  (42, .getfield 173, 2, 68, 3, 0),
  (45, .iload_n 1, 0, 0, 0, 0),
  (46, .iload_n 2, 0, 0, 0, 0),
  (47, .iastore, 0, 0, 0, 0),
  (48, .return_, 0, 0, 0, 0)]
/-- PackDeskModel.measure(I)I -/
def cz_65 : List ez_C := [(0, .iconst (0), 0, 0, 0, 0),
  (1, .istore_n 2, 0, 0, 0, 0),
  (2, .iconst (0), 0, 0, 0, 0),
  (3, .istore_n 3, 0, 0, 0, 0),
  (4, .iload_n 3, 0, 0, 0, 0),
  (5, .bipush (64), 0, 0, 0, 64),
  (7, .if_icmp .ge (26), 33, 0, 0, 0),
  (10, .iload_n 2, 0, 0, 0, 0),
  (11, .aload_n 0, 0, 0, 0, 0),
  (12, .getfield 173, 2, 68, 3, 0),
  (15, .iload_n 3, 0, 0, 0, 0),
  (16, .iaload, 0, 0, 0, 0),
  (17, .ifCond .le (7), 24, 0, 0, 0),
  (20, .iconst (1), 0, 0, 0, 1),
  (21, .goto (4), 25, 0, 0, 0),
  (24, .iconst (0), 0, 0, 0, 0),
  (25, .iadd, 0, 0, 0, 0),
  (26, .istore_n 2, 0, 0, 0, 0),
  (27, .iinc 3 (1), 0, 0, 0, 1),
  (30, .goto (-26), 4, 0, 0, 0),
  (33, .aload_n 0, 0, 0, 0, 0),
  (34, .iload_n 1, 0, 0, 0, 0),
  (35, .iconst (1), 0, 0, 0, 1),
  (36, .if_icmp .lt (9), 45, 0, 0, 0),
  (39, .iload_n 1, 0, 0, 0, 0),
  (40, .bipush (15), 0, 0, 0, 15),
  (42, .if_icmp .le (7), 49, 0, 0, 0),
  (45, .iconst (1), 0, 0, 0, 1),
  (46, .goto (15), 61, 0, 0, 0),
  (49, .iload_n 2, 0, 0, 0, 0),
  (50, .iconst (1), 0, 0, 0, 1),
  (51, .iload_n 1, 0, 0, 0, 0),
  (52, .ishl, 0, 0, 0, 0),
  (53, .if_icmp .le (7), 60, 0, 0, 0),
  (56, .iconst (2), 0, 0, 0, 2),
  (57, .goto (4), 61, 0, 0, 0),
  (60, .iconst (0), 0, 0, 0, 0),
  (61, .putfield 179, 2, 0, 0, 0),
  (64, .aload_n 0, 0, 0, 0, 0),
  (65, .getfield 179, 2, 0, 0, 0),
  (68, .ifCond .le (5), 73, 0, 0, 0),
  (71, .iconst (0), 0, 0, 0, 0),
  (72, .ireturn, 0, 0, 0, 0),
  (73, .aload_n 0, 0, 0, 0, 0),
  (74, .aload_n 0, 0, 0, 0, 0),
  (75, .getfield 173, 2, 68, 3, 0),
  (78, .bipush (64), 0, 0, 0, 64),
  (80, .iload_n 1, 0, 0, 0, 0),
  (81, .aload_n 0, 0, 0, 0, 0),
  (82, .getfield 176, 2, 69, 3, 0),
  (85, .invokevirtual 232, 37, 5, 2, 0),
  (88, .iconst (0), 0, 0, 0, 0),
  (89, .istore_n 3, 0, 0, 0, 0),
  (90, .iconst (0), 0, 0, 0, 0),
  (91, .istore 4, 0, 0, 0, 0),
  (93, .iload 4, 0, 0, 0, 0),
  (95, .bipush (64), 0, 0, 0, 64),
  (97, .if_icmp .ge (27), 124, 0, 0, 0),
  (100, .iload_n 3, 0, 0, 0, 0),
  (101, .aload_n 0, 0, 0, 0, 0),
  (102, .getfield 173, 2, 68, 3, 0),
  (105, .iload 4, 0, 0, 0, 0),
  (107, .iaload, 0, 0, 0, 0),
  (108, .aload_n 0, 0, 0, 0, 0),
  (109, .getfield 176, 2, 69, 3, 0),
  (112, .iload 4, 0, 0, 0, 0),
  (114, .iaload, 0, 0, 0, 0),
  (115, .imul, 0, 0, 0, 0),
  (116, .iadd, 0, 0, 0, 0),
  (117, .istore_n 3, 0, 0, 0, 0),
  (118, .iinc 4 (1), 0, 0, 0, 1),
  (121, .goto (-28), 93, 0, 0, 0),
  (124, .iload_n 3, 0, 0, 0, 0),
  (125, .ireturn, 0, 0, 0, 0)]
/-- PackDeskModel.length(I)I -/
def cz_66 : List ez_C := [(0, .aload_n 0, 0, 0, 0, 0),
  (1, .iconst (0), 0, 0, 0, 0),
  (2, .putfield 179, 2, 0, 0, 0),
  (5, .iload_n 1, 0, 0, 0, 0),
  (6, .ifCond .lt (18), 24, 0, 0, 0),
  (9, .iload_n 1, 0, 0, 0, 0),
  (10, .bipush (64), 0, 0, 0, 64),
  (12, .if_icmp .ge (12), 24, 0, 0, 0),
  (15, .aload_n 0, 0, 0, 0, 0),
  (16, .getfield 176, 2, 69, 3, 0),
  (19, .iload_n 1, 0, 0, 0, 0),
  (20, .iaload, 0, 0, 0, 0),
  (21, .goto (4), 25, 0, 0, 0),
  (24, .iconst (-1), 0, 0, 0, (-1)),
  (25, .ireturn, 0, 0, 0, 0)]
/-- PackDeskModel.about(I)I -/
def cz_67 : List ez_C := [(0, .aload_n 0, 0, 0, 0, 0),
  (1, .iconst (0), 0, 0, 0, 0),
  (2, .putfield 179, 2, 0, 0, 0),
  (5, .iload_n 1, 0, 0, 0, 0),
  (6, .ifCond .ne (10), 16, 0, 0, 0),
  (9, .aload_n 0, 0, 0, 0, 0),
  (10, .getfield 182, 2, 6, 0, 0),
  (13, .goto (16), 29, 0, 0, 0),
  (16, .iload_n 1, 0, 0, 0, 0),
  (17, .iconst (1), 0, 0, 0, 1),
  (18, .if_icmp .ne (10), 28, 0, 0, 0),
  (21, .aload_n 0, 0, 0, 0, 0),
  (22, .getfield 185, 2, 7, 0, 0),
  (25, .goto (4), 29, 0, 0, 0),
  (28, .iconst (-1), 0, 0, 0, (-1)),
  (29, .ireturn, 0, 0, 0, 0)]
/-- PackDesk$BitWriter.<init>(LPackDesk$Row;)V -/
def cz_68 : List ez_C := [(0, .aload_n 0, 0, 0, 0, 0),
  (1, .invokespecial 3, 0, 1, 0, 0),
  (4, .aload_n 0, 0, 0, 0, 0),
  (5, .aload_n 1, 0, 0, 0, 0),
  (6, .putfield 9, 3, 0, 3, 0),
  (9, .return_, 0, 0, 0, 0)]
/-- PackDesk$BitWriter.begin()V -/
def cz_69 : List ez_C := [(0, .aload_n 0, 0, 0, 0, 0),
  (1, .getfield 9, 3, 0, 3, 0),
  (4, .iconst (0), 0, 0, 0, 0),
  (5, .putfield 15, 12, 1, 0, 0),
  (8, .aload_n 0, 0, 0, 0, 0),
  (9, .iconst (0), 0, 0, 0, 0),
  (10, .putfield 21, 3, 1, 0, 0),
  (13, .aload_n 0, 0, 0, 0, 0),
  (14, .iconst (0), 0, 0, 0, 0),
  (15, .putfield 24, 3, 2, 0, 0),
  (18, .return_, 0, 0, 0, 0)]
/-- PackDesk$BitWriter.missingBehind(I)I -/
def cz_70 : List ez_C := [(0, .aload_n 0, 0, 0, 0, 0),
  (1, .getfield 24, 3, 2, 0, 0),
  (4, .iload_n 1, 0, 0, 0, 0),
  (5, .iadd, 0, 0, 0, 0),
  (6, .ineg, 0, 0, 0, 0),
  (7, .bipush (7), 0, 0, 0, 7),
  (9, .iand, 0, 0, 0, 0),
  (10, .ireturn, 0, 0, 0, 0)]
/-- PackDesk$BitWriter.putBits(II)V -/
def cz_71 : List ez_C := [(0, .aload_n 0, 0, 0, 0, 0),
  (1, .dup, 0, 0, 0, 0),
  (2, .getfield 21, 3, 1, 0, 0),
  (5, .iload_n 1, 0, 0, 0, 0),
  (6, .aload_n 0, 0, 0, 0, 0),
  (7, .getfield 24, 3, 2, 0, 0),
  (10, .ishl, 0, 0, 0, 0),
  (11, .ior, 0, 0, 0, 0),
  (12, .putfield 21, 3, 1, 0, 0),
  (15, .aload_n 0, 0, 0, 0, 0),
  (16, .dup, 0, 0, 0, 0),
  (17, .getfield 24, 3, 2, 0, 0),
  (20, .iload_n 2, 0, 0, 0, 0),
  (21, .iadd, 0, 0, 0, 0),
  (22, .putfield 24, 3, 2, 0, 0),
  (25, .aload_n 0, 0, 0, 0, 0),
  (26, .getfield 24, 3, 2, 0, 0),
  (29, .bipush (8), 0, 0, 0, 8),
  (31, .if_icmp .lt (43), 74, 0, 0, 0),
  (34, .aload_n 0, 0, 0, 0, 0),
  (35, .getfield 9, 3, 0, 3, 0),
  (38, .aload_n 0, 0, 0, 0, 0),
  (39, .getfield 21, 3, 1, 0, 0),
  (42, .sipush (255), 0, 0, 0, 255),
  (45, .iand, 0, 0, 0, 0),
  (46, .invokevirtual 27, 130, 2, 12, 0),
  (49, .aload_n 0, 0, 0, 0, 0),
  (50, .dup, 0, 0, 0, 0),
  (51, .getfield 21, 3, 1, 0, 0),
  (54, .bipush (8), 0, 0, 0, 8),
  (56, .iushr, 0, 0, 0, 0),
  (57, .putfield 21, 3, 1, 0, 0),
  (60, .aload_n 0, 0, 0, 0, 0),
  (61, .dup, 0, 0, 0, 0),
  (62, .getfield 24, 3, 2, 0, 0),
  (65, .bipush (8), 0, 0, 0, 8),
  (67, .isub, 0, 0, 0, 0),
  (68, .putfield 24, 3, 2, 0, 0),
  (71, .goto (-46), 25, 0, 0, 0),
  (74, .return_, 0, 0, 0, 0)]
/-- PackDesk$BitWriter.fillByte()V -/
def cz_72 : List ez_C := [(0, .aload_n 0, 0, 0, 0, 0),
  (1, .iconst (0), 0, 0, 0, 0),
  (2, .aload_n 0, 0, 0, 0, 0),
  (3, .iconst (0), 0, 0, 0, 0),
  (4, .invokevirtual 31, 70, 2, 3, 0),
  (7, .invokevirtual 35, 71, 3, 3, 0),
  (10, .return_, 0, 0, 0, 0)]
/-- PackDesk$BitWriter.putSymbol(LPackDesk$Code;I)V -/
def cz_73 : List ez_C := [(0, .iload_n 2, 0, 0, 0, 0),
  (1, .ifCond .lt (26), 27, 0, 0, 0),
  (4, .iload_n 2, 0, 0, 0, 0),
  (5, .sipush (288), 0, 0, 0, 288),
  (8, .if_icmp .ge (19), 27, 0, 0, 0),
  (11, .aload_n 0, 0, 0, 0, 0),
  (12, .aload_n 1, 0, 0, 0, 0),
  (13, .getfield 39, 5, 1, 3, 0),
  (16, .iload_n 2, 0, 0, 0, 0),
  (17, .iaload, 0, 0, 0, 0),
  (18, .aload_n 1, 0, 0, 0, 0),
  (19, .getfield 45, 5, 0, 3, 0),
  (22, .iload_n 2, 0, 0, 0, 0),
  (23, .iaload, 0, 0, 0, 0),
  (24, .invokevirtual 35, 71, 3, 3, 0),
  (27, .return_, 0, 0, 0, 0)]
/-- PackDesk$BlockBook.<init>()V -/
def cz_74 : List ez_C := [(0, .aload_n 0, 0, 0, 0, 0),
  (1, .invokespecial 5, 0, 1, 0, 0),
  (4, .aload_n 0, 0, 0, 0, 0),
  (5, .bipush (60), 0, 0, 0, 60),
  (7, .newarray .int, 1000, 0, 0, 0),
  (9, .putfield 11, 4, 0, 3, 0),
  (12, .aload_n 0, 0, 0, 0, 0),
  (13, .sipush (3350), 0, 0, 0, 3350),
  (16, .newarray .int, 1000, 0, 0, 0),
  (18, .putfield 15, 4, 1, 3, 0),
  (21, .return_, 0, 0, 0, 0)]
/-- PackDesk$BlockBook.begin(I)V -/
def cz_75 : List ez_C := [(0, .aload_n 0, 0, 0, 0, 0),
  (1, .iconst (1), 0, 0, 0, 1),
  (2, .bipush (10), 0, 0, 0, 10),
  (4, .iload_n 1, 0, 0, 0, 0),
  (5, .sipush (600), 0, 0, 0, 600),
  (8, .iadd, 0, 0, 0, 0),
  (9, .iconst (1), 0, 0, 0, 1),
  (10, .isub, 0, 0, 0, 0),
  (11, .sipush (600), 0, 0, 0, 600),
  (14, .idiv, 0, 0, 0, 0),
  (15, .invokestatic 18, 0, 2, 2, 0),
  (18, .invokestatic 24, 0, 2, 1, 0),
  (21, .putfield 27, 4, 2, 0, 0),
  (24, .return_, 0, 0, 0, 0)]
/-- PackDesk$BlockBook.note(III)V -/
def cz_76 : List ez_C := [(0, .aload_n 0, 0, 0, 0, 0),
  (1, .iload_n 1, 0, 0, 0, 0),
  (2, .invokevirtual 31, 80, 2, 4, 0),
  (5, .ifCond .eq (25), 30, 0, 0, 0),
  (8, .iload_n 2, 0, 0, 0, 0),
  (9, .ifCond .lt (21), 30, 0, 0, 0),
  (12, .iload_n 2, 0, 0, 0, 0),
  (13, .bipush (6), 0, 0, 0, 6),
  (15, .if_icmp .ge (15), 30, 0, 0, 0),
  (18, .aload_n 0, 0, 0, 0, 0),
  (19, .getfield 11, 4, 0, 3, 0),
  (22, .iload_n 1, 0, 0, 0, 0),
  (23, .bipush (6), 0, 0, 0, 6),
  (25, .imul, 0, 0, 0, 0),
  (26, .iload_n 2, 0, 0, 0, 0),
  (27, .iadd, 0, 0, 0, 0),
  (28, .iload_n 3, 0, 0, 0, 0),
  (29, .iastore, 0, 0, 0, 0),
  (30, .return_, 0, 0, 0, 0)]
/-- PackDesk$BlockBook.fact(II)I -/
def cz_77 : List ez_C := [(0, .aload_n 0, 0, 0, 0, 0),
  (1, .iload_n 1, 0, 0, 0, 0),
  (2, .invokevirtual 31, 80, 2, 4, 0),
  (5, .ifCond .eq (27), 32, 0, 0, 0),
  (8, .iload_n 2, 0, 0, 0, 0),
  (9, .ifCond .lt (23), 32, 0, 0, 0),
  (12, .iload_n 2, 0, 0, 0, 0),
  (13, .bipush (6), 0, 0, 0, 6),
  (15, .if_icmp .ge (17), 32, 0, 0, 0),
  (18, .aload_n 0, 0, 0, 0, 0),
  (19, .getfield 11, 4, 0, 3, 0),
  (22, .iload_n 1, 0, 0, 0, 0),
  (23, .bipush (6), 0, 0, 0, 6),
  (25, .imul, 0, 0, 0, 0),
  (26, .iload_n 2, 0, 0, 0, 0),
  (27, .iadd, 0, 0, 0, 0),
  (28, .iaload, 0, 0, 0, 0),
  (29, .goto (4), 33, 0, 0, 0),
  (32, .iconst (-1), 0, 0, 0, (-1)),
  (33, .ireturn, 0, 0, 0, 0)]
/-- PackDesk$BlockBook.keepCodes(ILPackDesk$CodeSet;)V -/
def cz_78 : List ez_C := [(0, .aload_n 0, 0, 0, 0, 0),
  (1, .iload_n 1, 0, 0, 0, 0),
  (2, .invokevirtual 31, 80, 2, 4, 0),
  (5, .ifCond .eq (75), 80, 0, 0, 0),
  (8, .iload_n 1, 0, 0, 0, 0),
  (9, .sipush (335), 0, 0, 0, 335),
  (12, .imul, 0, 0, 0, 0),
  (13, .istore_n 3, 0, 0, 0, 0),
  (14, .aload_n 2, 0, 0, 0, 0),
  (15, .getfield 35, 7, 2, 3, 0),
  (18, .getfield 41, 5, 0, 3, 0),
  (21, .iconst (0), 0, 0, 0, 0),
  (22, .aload_n 0, 0, 0, 0, 0),
  (23, .getfield 15, 4, 1, 3, 0),
  (26, .iload_n 3, 0, 0, 0, 0),
  (27, .sipush (286), 0, 0, 0, 286),
  (30, .invokestatic 46, 0, 5, 3, 0),
  (33, .aload_n 2, 0, 0, 0, 0),
  (34, .getfield 52, 7, 3, 3, 0),
  (37, .getfield 41, 5, 0, 3, 0),
  (40, .iconst (0), 0, 0, 0, 0),
  (41, .aload_n 0, 0, 0, 0, 0),
  (42, .getfield 15, 4, 1, 3, 0),
  (45, .iload_n 3, 0, 0, 0, 0),
  (46, .sipush (286), 0, 0, 0, 286),
  (49, .iadd, 0, 0, 0, 0),
  (50, .bipush (30), 0, 0, 0, 30),
  (52, .invokestatic 46, 0, 5, 3, 0),
  (55, .aload_n 2, 0, 0, 0, 0),
  (56, .getfield 55, 7, 4, 3, 0),
  (59, .getfield 41, 5, 0, 3, 0),
  (62, .iconst (0), 0, 0, 0, 0),
  (63, .aload_n 0, 0, 0, 0, 0),
  (64, .getfield 15, 4, 1, 3, 0),
  (67, .iload_n 3, 0, 0, 0, 0),
  (68, .sipush (286), 0, 0, 0, 286),
  (71, .iadd, 0, 0, 0, 0),
  (72, .bipush (30), 0, 0, 0, 30),
  (74, .iadd, 0, 0, 0, 0),
  (75, .bipush (19), 0, 0, 0, 19),
  (77, .invokestatic 46, 0, 5, 3, 0),
  (80, .return_, 0, 0, 0, 0)]
/-- PackDesk$BlockBook.codeLength(III)I -/
def cz_79 : List ez_C := [(0, .aload_n 0, 0, 0, 0, 0),
  (1, .iload_n 1, 0, 0, 0, 0),
  (2, .iconst (0), 0, 0, 0, 0),
  (3, .invokevirtual 58, 77, 3, 4, 0),
  (6, .iconst (2), 0, 0, 0, 2),
  (7, .if_icmp .ne (15), 22, 0, 0, 0),
  (10, .iload_n 2, 0, 0, 0, 0),
  (11, .ifCond .lt (11), 22, 0, 0, 0),
  (14, .iload_n 2, 0, 0, 0, 0),
  (15, .getstatic 61, 10, 0, 0, 0),
  (18, .arraylength, 0, 0, 0, 0),
  (19, .if_icmp .lt (5), 24, 0, 0, 0),
  (22, .iconst (-1), 0, 0, 0, (-1)),
  (23, .ireturn, 0, 0, 0, 0),
  (24, .iload_n 3, 0, 0, 0, 0),
  (25, .ifCond .lt (12), 37, 0, 0, 0),
  (28, .iload_n 3, 0, 0, 0, 0),
  (29, .getstatic 64, 11, 0, 0, 0),
  (32, .iload_n 2, 0, 0, 0, 0),
  (33, .iaload, 0, 0, 0, 0),
  (34, .if_icmp .lt (5), 39, 0, 0, 0),
  (37, .iconst (-1), 0, 0, 0, (-1)),
  (38, .ireturn, 0, 0, 0, 0),
  (39, .aload_n 0, 0, 0, 0, 0),
  (40, .getfield 15, 4, 1, 3, 0),
  (43, .iload_n 1, 0, 0, 0, 0),
  (44, .sipush (335), 0, 0, 0, 335),
  (47, .imul, 0, 0, 0, 0),
  (48, .getstatic 61, 10, 0, 0, 0),
  (51, .iload_n 2, 0, 0, 0, 0),
  (52, .iaload, 0, 0, 0, 0),
  (53, .iadd, 0, 0, 0, 0),
  (54, .iload_n 3, 0, 0, 0, 0),
  (55, .iadd, 0, 0, 0, 0),
  (56, .iaload, 0, 0, 0, 0),
  (57, .ireturn, 0, 0, 0, 0)]
/-- PackDesk$BlockBook.has(I)Z -/
def cz_80 : List ez_C := [(0, .iload_n 1, 0, 0, 0, 0),
  (1, .ifCond .lt (21), 22, 0, 0, 0),
  (4, .iload_n 1, 0, 0, 0, 0),
  (5, .aload_n 0, 0, 0, 0, 0),
  (6, .getfield 27, 4, 2, 0, 0),
  (9, .if_icmp .ge (13), 22, 0, 0, 0),
  (12, .iload_n 1, 0, 0, 0, 0),
  (13, .bipush (10), 0, 0, 0, 10),
  (15, .if_icmp .ge (7), 22, 0, 0, 0),
  (18, .iconst (1), 0, 0, 0, 1),
  (19, .goto (4), 23, 0, 0, 0),
  (22, .iconst (0), 0, 0, 0, 0),
  (23, .ireturn, 1, 0, 0, 0)]
/-- PackDesk$Code.<init>()V -/
def cz_81 : List ez_C := [(0, .aload_n 0, 0, 0, 0, 0),
  (1, .invokespecial 3, 0, 1, 0, 0),
  (4, .aload_n 0, 0, 0, 0, 0),
  (5, .sipush (288), 0, 0, 0, 288),
  (8, .newarray .int, 1000, 0, 0, 0),
  (10, .putfield 9, 5, 0, 3, 0),
  (13, .aload_n 0, 0, 0, 0, 0),
  (14, .sipush (288), 0, 0, 0, 288),
  (17, .newarray .int, 1000, 0, 0, 0),
  (19, .putfield 15, 5, 1, 3, 0),
  (22, .aload_n 0, 0, 0, 0, 0),
  (23, .bipush (16), 0, 0, 0, 16),
  (25, .newarray .int, 1000, 0, 0, 0),
  (27, .putfield 18, 5, 2, 3, 0),
  (30, .aload_n 0, 0, 0, 0, 0),
  (31, .sipush (288), 0, 0, 0, 288),
  (34, .newarray .int, 1000, 0, 0, 0),
  (36, .putfield 21, 5, 3, 3, 0),
  (39, .aload_n 0, 0, 0, 0, 0),
  (40, .bipush (16), 0, 0, 0, 16),
  (42, .newarray .int, 1000, 0, 0, 0),
  (44, .putfield 24, 5, 5, 3, 0),
  (47, .aload_n 0, 0, 0, 0, 0),
  (48, .bipush (16), 0, 0, 0, 16),
  (50, .newarray .int, 1000, 0, 0, 0),
  (52, .putfield 27, 5, 6, 3, 0),
  (55, .return_, 0, 0, 0, 0)]
/-- PackDesk$Code.takeLengths([III)V -/
def cz_82 : List ez_C := [(0, .aload_n 0, 0, 0, 0, 0),
  (1, .getfield 9, 5, 0, 3, 0),
  (4, .iconst (0), 0, 0, 0, 0),
  (5, .invokestatic 30, 149, 2, 0, 0),
  (8, .iconst (0), 0, 0, 0, 0),
  (9, .istore 4, 0, 0, 0, 0),
  (11, .iload 4, 0, 0, 0, 0),
  (13, .iload_n 3, 0, 0, 0, 0),
  (14, .if_icmp .ge (48), 62, 0, 0, 0),
  (17, .iload 4, 0, 0, 0, 0),
  (19, .aload_n 0, 0, 0, 0, 0),
  (20, .getfield 9, 5, 0, 3, 0),
  (23, .arraylength, 0, 0, 0, 0),
  (24, .if_icmp .ge (38), 62, 0, 0, 0),
  (27, .iload_n 2, 0, 0, 0, 0),
  (28, .iload 4, 0, 0, 0, 0),
  (30, .iadd, 0, 0, 0, 0),
  (31, .ifCond .lt (25), 56, 0, 0, 0),
  (34, .iload_n 2, 0, 0, 0, 0),
  (35, .iload 4, 0, 0, 0, 0),
  (37, .iadd, 0, 0, 0, 0),
  (38, .aload_n 1, 0, 0, 0, 0),
  (39, .arraylength, 0, 0, 0, 0),
  (40, .if_icmp .ge (16), 56, 0, 0, 0),
  (43, .aload_n 0, 0, 0, 0, 0),
  (44, .getfield 9, 5, 0, 3, 0),
  (47, .iload 4, 0, 0, 0, 0),
  (49, .aload_n 1, 0, 0, 0, 0),
  (50, .iload_n 2, 0, 0, 0, 0),
  (51, .iload 4, 0, 0, 0, 0),
  (53, .iadd, 0, 0, 0, 0),
  (54, .iaload, 0, 0, 0, 0),
  (55, .iastore, 0, 0, 0, 0),
  (56, .iinc 4 (1), 0, 0, 0, 1),
  (59, .goto (-48), 11, 0, 0, 0),
  (62, .return_, 0, 0, 0, 0)]
/-- PackDesk$Code.settle()V -/
def cz_83 : List ez_C := [(0, .aload_n 0, 0, 0, 0, 0),
  (1, .getfield 18, 5, 2, 3, 0),
  (4, .iconst (0), 0, 0, 0, 0),
  (5, .invokestatic 30, 149, 2, 0, 0),
  (8, .iconst (0), 0, 0, 0, 0),
  (9, .istore_n 1, 0, 0, 0, 0),
  (10, .iload_n 1, 0, 0, 0, 0),
  (11, .aload_n 0, 0, 0, 0, 0),
  (12, .getfield 9, 5, 0, 3, 0),
  (15, .arraylength, 0, 0, 0, 0),
  (16, .if_icmp .ge (32), 48, 0, 0, 0),
  (19, .aload_n 0, 0, 0, 0, 0),
  (20, .iload_n 1, 0, 0, 0, 0),
  (21, .invokevirtual 36, 86, 2, 5, 0),
  (24, .ifCond .eq (18), 42, 0, 0, 0),
  (27, .aload_n 0, 0, 0, 0, 0),
  (28, .getfield 18, 5, 2, 3, 0),
  (31, .aload_n 0, 0, 0, 0, 0),
  (32, .getfield 9, 5, 0, 3, 0),
  (35, .iload_n 1, 0, 0, 0, 0),
  (36, .iaload, 0, 0, 0, 0),
  (37, .dup2, 0, 0, 0, 0),
  (38, .iaload, 0, 0, 0, 0),
  (39, .iconst (1), 0, 0, 0, 1),
  (40, .iadd, 0, 0, 0, 0),
  (41, .iastore, 0, 0, 0, 0),
  (42, .iinc 1 (1), 0, 0, 0, 1),
  (45, .goto (-35), 10, 0, 0, 0),
  (48, .iconst (0), 0, 0, 0, 0),
  (49, .istore_n 1, 0, 0, 0, 0),
  (50, .iconst (0), 0, 0, 0, 0),
  (51, .istore_n 2, 0, 0, 0, 0),
  (52, .iconst (1), 0, 0, 0, 1),
  (53, .istore_n 3, 0, 0, 0, 0),
  (54, .iload_n 3, 0, 0, 0, 0),
  (55, .bipush (15), 0, 0, 0, 15),
  (57, .if_icmp .gt (45), 102, 0, 0, 0),
  (60, .iload_n 1, 0, 0, 0, 0),
  (61, .aload_n 0, 0, 0, 0, 0),
  (62, .getfield 18, 5, 2, 3, 0),
  (65, .iload_n 3, 0, 0, 0, 0),
  (66, .iconst (1), 0, 0, 0, 1),
  (67, .isub, 0, 0, 0, 0),
  (68, .iaload, 0, 0, 0, 0),
  (69, .iadd, 0, 0, 0, 0),
  (70, .iconst (1), 0, 0, 0, 1),
  (71, .ishl, 0, 0, 0, 0),
  (72, .istore_n 1, 0, 0, 0, 0),
  (73, .aload_n 0, 0, 0, 0, 0),
  (74, .getfield 24, 5, 5, 3, 0),
  (77, .iload_n 3, 0, 0, 0, 0),
  (78, .iload_n 1, 0, 0, 0, 0),
  (79, .iastore, 0, 0, 0, 0),
  (80, .aload_n 0, 0, 0, 0, 0),
  (81, .getfield 27, 5, 6, 3, 0),
  (84, .iload_n 3, 0, 0, 0, 0),
  (85, .iload_n 2, 0, 0, 0, 0),
  (86, .iastore, 0, 0, 0, 0),
  (87, .iload_n 2, 0, 0, 0, 0),
  (88, .aload_n 0, 0, 0, 0, 0),
  (89, .getfield 18, 5, 2, 3, 0),
  (92, .iload_n 3, 0, 0, 0, 0),
  (93, .iaload, 0, 0, 0, 0),
  (94, .iadd, 0, 0, 0, 0),
  (95, .istore_n 2, 0, 0, 0, 0),
  (96, .iinc 3 (1), 0, 0, 0, 1),
  (99, .goto (-45), 54, 0, 0, 0),
  (102, .aload_n 0, 0, 0, 0, 0),
  (103, .iload_n 2, 0, 0, 0, 0),
  (104, .putfield 40, 5, 4, 0, 0),
  (107, .iconst (0), 0, 0, 0, 0),
  (108, .istore_n 3, 0, 0, 0, 0),
  (109, .iload_n 3, 0, 0, 0, 0),
  (110, .aload_n 0, 0, 0, 0, 0),
  (111, .getfield 9, 5, 0, 3, 0),
  (114, .arraylength, 0, 0, 0, 0),
  (115, .if_icmp .ge (28), 143, 0, 0, 0),
  (118, .aload_n 0, 0, 0, 0, 0),
  (119, .iload_n 3, 0, 0, 0, 0),
  (120, .invokevirtual 36, 86, 2, 5, 0),
  (123, .ifCond .eq (14), 137, 0, 0, 0),
  (126, .aload_n 0, 0, 0, 0, 0),
  (127, .iload_n 3, 0, 0, 0, 0),
  (128, .aload_n 0, 0, 0, 0, 0),
  (129, .getfield 9, 5, 0, 3, 0),
  (132, .iload_n 3, 0, 0, 0, 0),
  (133, .iaload, 0, 0, 0, 0),
  (134, .invokevirtual 44, 87, 3, 5, 0),
  (137, .iinc 3 (1), 0, 0, 0, 1),
  (140, .goto (-31), 109, 0, 0, 0),
  (143, .return_, 0, 0, 0, 0)]
/-- PackDesk$Code.isWhole()Z -/
def cz_84 : List ez_C := [(0, .iconst (1), 0, 0, 0, 1),
  (1, .istore_n 1, 0, 0, 0, 0),
  (2, .iconst (1), 0, 0, 0, 1),
  (3, .istore_n 2, 0, 0, 0, 0),
  (4, .iload_n 2, 0, 0, 0, 0),
  (5, .bipush (15), 0, 0, 0, 15),
  (7, .if_icmp .gt (24), 31, 0, 0, 0),
  (10, .iload_n 1, 0, 0, 0, 0),
  (11, .ifCond .lt (20), 31, 0, 0, 0),
  (14, .iconst (2), 0, 0, 0, 2),
  (15, .iload_n 1, 0, 0, 0, 0),
  (16, .imul, 0, 0, 0, 0),
  (17, .aload_n 0, 0, 0, 0, 0),
  (18, .getfield 18, 5, 2, 3, 0),
  (21, .iload_n 2, 0, 0, 0, 0),
  (22, .iaload, 0, 0, 0, 0),
  (23, .isub, 0, 0, 0, 0),
  (24, .istore_n 1, 0, 0, 0, 0),
  (25, .iinc 2 (1), 0, 0, 0, 1),
  (28, .goto (-24), 4, 0, 0, 0),
  (31, .iload_n 1, 0, 0, 0, 0),
  (32, .ifCond .ne (7), 39, 0, 0, 0),
  (35, .iconst (1), 0, 0, 0, 1),
  (36, .goto (4), 40, 0, 0, 0),
  (39, .iconst (0), 0, 0, 0, 0),
  (40, .ireturn, 1, 0, 0, 0)]
/-- PackDesk$Code.isOneBitAtMost()Z -/
def cz_85 : List ez_C := [(0, .aload_n 0, 0, 0, 0, 0),
  (1, .getfield 40, 5, 4, 0, 0),
  (4, .ifCond .eq (21), 25, 0, 0, 0),
  (7, .aload_n 0, 0, 0, 0, 0),
  (8, .getfield 40, 5, 4, 0, 0),
  (11, .iconst (1), 0, 0, 0, 1),
  (12, .if_icmp .ne (17), 29, 0, 0, 0),
  (15, .aload_n 0, 0, 0, 0, 0),
  (16, .getfield 18, 5, 2, 3, 0),
  (19, .iconst (1), 0, 0, 0, 1),
  (20, .iaload, 0, 0, 0, 0),
  (21, .iconst (1), 0, 0, 0, 1),
  (22, .if_icmp .ne (7), 29, 0, 0, 0),
  (25, .iconst (1), 0, 0, 0, 1),
  (26, .goto (4), 30, 0, 0, 0),
  (29, .iconst (0), 0, 0, 0, 0),
  (30, .ireturn, 1, 0, 0, 0)]
/-- PackDesk$Code.isCoded(I)Z -/
def cz_86 : List ez_C := [(0, .aload_n 0, 0, 0, 0, 0),
  (1, .getfield 9, 5, 0, 3, 0),
  (4, .iload_n 1, 0, 0, 0, 0),
  (5, .iaload, 0, 0, 0, 0),
  (6, .ifCond .le (18), 24, 0, 0, 0),
  (9, .aload_n 0, 0, 0, 0, 0),
  (10, .getfield 9, 5, 0, 3, 0),
  (13, .iload_n 1, 0, 0, 0, 0),
  (14, .iaload, 0, 0, 0, 0),
  (15, .bipush (15), 0, 0, 0, 15),
  (17, .if_icmp .gt (7), 24, 0, 0, 0),
  (20, .iconst (1), 0, 0, 0, 1),
  (21, .goto (4), 25, 0, 0, 0),
  (24, .iconst (0), 0, 0, 0, 0),
  (25, .ireturn, 1, 0, 0, 0)]
/-- PackDesk$Code.settleSymbol(II)V -/
def cz_87 : List ez_C := [(0, .aload_n 0, 0, 0, 0, 0),
  (1, .getfield 27, 5, 6, 3, 0),
  (4, .iload_n 2, 0, 0, 0, 0),
  (5, .iaload, 0, 0, 0, 0),
  (6, .istore_n 3, 0, 0, 0, 0),
  (7, .aload_n 0, 0, 0, 0, 0),
  (8, .getfield 15, 5, 1, 3, 0),
  (11, .iload_n 1, 0, 0, 0, 0),
  (12, .aload_n 0, 0, 0, 0, 0),
  (13, .getfield 24, 5, 5, 3, 0),
  (16, .iload_n 2, 0, 0, 0, 0),
  (17, .iaload, 0, 0, 0, 0),
  (18, .iload_n 2, 0, 0, 0, 0),
  (19, .invokestatic 48, 88, 2, 0, 0),
  (22, .iastore, 0, 0, 0, 0),
  (23, .aload_n 0, 0, 0, 0, 0),
  (24, .getfield 24, 5, 5, 3, 0),
  (27, .iload_n 2, 0, 0, 0, 0),
  (28, .dup2, 0, 0, 0, 0),
  (29, .iaload, 0, 0, 0, 0),
  (30, .iconst (1), 0, 0, 0, 1),
  (31, .iadd, 0, 0, 0, 0),
  (32, .iastore, 0, 0, 0, 0),
  (33, .iload_n 3, 0, 0, 0, 0),
  (34, .ifCond .lt (29), 63, 0, 0, 0),
  (37, .iload_n 3, 0, 0, 0, 0),
  (38, .aload_n 0, 0, 0, 0, 0),
  (39, .getfield 21, 5, 3, 3, 0),
  (42, .arraylength, 0, 0, 0, 0),
  (43, .if_icmp .ge (20), 63, 0, 0, 0),
  (46, .aload_n 0, 0, 0, 0, 0),
  (47, .getfield 21, 5, 3, 3, 0),
  (50, .iload_n 3, 0, 0, 0, 0),
  (51, .iload_n 1, 0, 0, 0, 0),
  (52, .iastore, 0, 0, 0, 0),
  (53, .aload_n 0, 0, 0, 0, 0),
  (54, .getfield 27, 5, 6, 3, 0),
  (57, .iload_n 2, 0, 0, 0, 0),
  (58, .dup2, 0, 0, 0, 0),
  (59, .iaload, 0, 0, 0, 0),
  (60, .iconst (1), 0, 0, 0, 1),
  (61, .iadd, 0, 0, 0, 0),
  (62, .iastore, 0, 0, 0, 0),
  (63, .return_, 0, 0, 0, 0)]
/-- PackDesk$Code.turned(II)I -/
def cz_88 : List ez_C := [(0, .iconst (0), 0, 0, 0, 0),
  (1, .istore_n 2, 0, 0, 0, 0),
  (2, .iconst (0), 0, 0, 0, 0),
  (3, .istore_n 3, 0, 0, 0, 0),
  (4, .iload_n 3, 0, 0, 0, 0),
  (5, .iload_n 1, 0, 0, 0, 0),
  (6, .if_icmp .ge (19), 25, 0, 0, 0),
  (9, .iload_n 2, 0, 0, 0, 0),
  (10, .iconst (1), 0, 0, 0, 1),
  (11, .ishl, 0, 0, 0, 0),
  (12, .iload_n 0, 0, 0, 0, 0),
  (13, .iload_n 3, 0, 0, 0, 0),
  (14, .ishr, 0, 0, 0, 0),
  (15, .iconst (1), 0, 0, 0, 1),
  (16, .iand, 0, 0, 0, 0),
  (17, .ior, 0, 0, 0, 0),
  (18, .istore_n 2, 0, 0, 0, 0),
  (19, .iinc 3 (1), 0, 0, 0, 1),
  (22, .goto (-18), 4, 0, 0, 0),
  (25, .iload_n 2, 0, 0, 0, 0),
  (26, .ireturn, 0, 0, 0, 0)]
/-- PackDesk$CodeHead.<init>()V -/
def cz_89 : List ez_C := [(0, .aload_n 0, 0, 0, 0, 0),
  (1, .invokespecial 3, 0, 1, 0, 0),
  (4, .aload_n 0, 0, 0, 0, 0),
  (5, .sipush (316), 0, 0, 0, 316),
  (8, .newarray .int, 1000, 0, 0, 0),
  (10, .putfield 9, 6, 0, 3, 0),
  (13, .aload_n 0, 0, 0, 0, 0),
  (14, .sipush (316), 0, 0, 0, 316),
  (17, .newarray .int, 1000, 0, 0, 0),
  (19, .putfield 15, 6, 3, 3, 0),
  (22, .aload_n 0, 0, 0, 0, 0),
  (23, .sipush (316), 0, 0, 0, 316),
  (26, .newarray .int, 1000, 0, 0, 0),
  (28, .putfield 18, 6, 4, 3, 0),
  (31, .aload_n 0, 0, 0, 0, 0),
  (32, .bipush (19), 0, 0, 0, 19),
  (34, .newarray .int, 1000, 0, 0, 0),
  (36, .putfield 21, 6, 6, 3, 0),
  (39, .return_, 0, 0, 0, 0)]
/-- PackDesk$CodeHead.plan(LPackDesk$CodeSet;LPackDesk$LengthMaker;)I -/
def cz_90 : List ez_C := [(0, .aload_n 0, 0, 0, 0, 0),
  (1, .aload_n 1, 0, 0, 0, 0),
  (2, .getfield 24, 7, 2, 3, 0),
  (5, .getfield 30, 5, 0, 3, 0),
  (8, .sipush (286), 0, 0, 0, 286),
  (11, .sipush (257), 0, 0, 0, 257),
  (14, .invokestatic 35, 92, 3, 0, 0),
  (17, .putfield 39, 6, 1, 0, 0),
  (20, .aload_n 0, 0, 0, 0, 0),
  (21, .aload_n 1, 0, 0, 0, 0),
  (22, .getfield 42, 7, 3, 3, 0),
  (25, .getfield 30, 5, 0, 3, 0),
  (28, .bipush (30), 0, 0, 0, 30),
  (30, .iconst (1), 0, 0, 0, 1),
  (31, .invokestatic 35, 92, 3, 0, 0),
  (34, .putfield 45, 6, 2, 0, 0),
  (37, .aload_n 1, 0, 0, 0, 0),
  (38, .getfield 24, 7, 2, 3, 0),
  (41, .getfield 30, 5, 0, 3, 0),
  (44, .iconst (0), 0, 0, 0, 0),
  (45, .aload_n 0, 0, 0, 0, 0),
  (46, .getfield 9, 6, 0, 3, 0),
  (49, .iconst (0), 0, 0, 0, 0),
  (50, .aload_n 0, 0, 0, 0, 0),
  (51, .getfield 39, 6, 1, 0, 0),
  (54, .invokestatic 47, 0, 5, 3, 0),
  (57, .aload_n 1, 0, 0, 0, 0),
  (58, .getfield 42, 7, 3, 3, 0),
  (61, .getfield 30, 5, 0, 3, 0),
  (64, .iconst (0), 0, 0, 0, 0),
  (65, .aload_n 0, 0, 0, 0, 0),
  (66, .getfield 9, 6, 0, 3, 0),
  (69, .aload_n 0, 0, 0, 0, 0),
  (70, .getfield 39, 6, 1, 0, 0),
  (73, .aload_n 0, 0, 0, 0, 0),
  (74, .getfield 45, 6, 2, 0, 0),
  (77, .invokestatic 47, 0, 5, 3, 0),
  (80, .aload_n 0, 0, 0, 0, 0),
  (81, .aload_n 0, 0, 0, 0, 0),
  (82, .getfield 39, 6, 1, 0, 0),
  (85, .aload_n 0, 0, 0, 0, 0),
  (86, .getfield 45, 6, 2, 0, 0),
  (89, .iadd, 0, 0, 0, 0),
  (90, .invokevirtual 53, 94, 2, 6, 0),
  (93, .aload_n 2, 0, 0, 0, 0),
  (94, .aload_n 0, 0, 0, 0, 0),
  (95, .getfield 21, 6, 6, 3, 0),
  (98, .bipush (19), 0, 0, 0, 19),
  (100, .bipush (7), 0, 0, 0, 7),
  (102, .aload_n 1, 0, 0, 0, 0),
  (103, .getfield 57, 7, 4, 3, 0),
  (106, .getfield 30, 5, 0, 3, 0),
  (109, .invokevirtual 60, 102, 5, 8, 0),
  (112, .aload_n 1, 0, 0, 0, 0),
  (113, .getfield 57, 7, 4, 3, 0),
  (116, .invokevirtual 66, 83, 1, 5, 0),
  (119, .aload_n 0, 0, 0, 0, 0),
  (120, .aload_n 1, 0, 0, 0, 0),
  (121, .getfield 57, 7, 4, 3, 0),
  (124, .getfield 30, 5, 0, 3, 0),
  (127, .invokestatic 69, 93, 1, 0, 0),
  (130, .putfield 73, 6, 7, 0, 0),
  (133, .bipush (14), 0, 0, 0, 14),
  (135, .iconst (3), 0, 0, 0, 3),
  (136, .aload_n 0, 0, 0, 0, 0),
  (137, .getfield 73, 6, 7, 0, 0),
  (140, .imul, 0, 0, 0, 0),
  (141, .iadd, 0, 0, 0, 0),
  (142, .aload_n 0, 0, 0, 0, 0),
  (143, .invokevirtual 76, 98, 1, 6, 0),
  (146, .iadd, 0, 0, 0, 0),
  (147, .aload_n 0, 0, 0, 0, 0),
  (148, .getfield 21, 6, 6, 3, 0),
  (151, .aload_n 1, 0, 0, 0, 0),
  (152, .getfield 57, 7, 4, 3, 0),
  (155, .getfield 30, 5, 0, 3, 0),
  (158, .bipush (19), 0, 0, 0, 19),
  (160, .invokestatic 80, 22, 3, 0, 0),
  (163, .iadd, 0, 0, 0, 0),
  (164, .ireturn, 0, 0, 0, 0)]
/-- PackDesk$CodeHead.write(LPackDesk$Code;LPackDesk$BitWriter;)V -/
def cz_91 : List ez_C := [(0, .aload_n 2, 0, 0, 0, 0),
  (1, .aload_n 0, 0, 0, 0, 0),
  (2, .getfield 39, 6, 1, 0, 0),
  (5, .sipush (257), 0, 0, 0, 257),
  (8, .isub, 0, 0, 0, 0),
  (9, .iconst (5), 0, 0, 0, 5),
  (10, .invokevirtual 84, 71, 3, 3, 0),
  (13, .aload_n 2, 0, 0, 0, 0),
  (14, .aload_n 0, 0, 0, 0, 0),
  (15, .getfield 45, 6, 2, 0, 0),
  (18, .iconst (1), 0, 0, 0, 1),
  (19, .isub, 0, 0, 0, 0),
  (20, .iconst (5), 0, 0, 0, 5),
  (21, .invokevirtual 84, 71, 3, 3, 0),
  (24, .aload_n 2, 0, 0, 0, 0),
  (25, .aload_n 0, 0, 0, 0, 0),
  (26, .getfield 73, 6, 7, 0, 0),
  (29, .iconst (4), 0, 0, 0, 4),
  (30, .isub, 0, 0, 0, 0),
  (31, .iconst (4), 0, 0, 0, 4),
  (32, .invokevirtual 84, 71, 3, 3, 0),
  (35, .iconst (0), 0, 0, 0, 0),
  (36, .istore_n 3, 0, 0, 0, 0),
  (37, .iload_n 3, 0, 0, 0, 0),
  (38, .aload_n 0, 0, 0, 0, 0),
  (39, .getfield 73, 6, 7, 0, 0),
  (42, .if_icmp .ge (30), 72, 0, 0, 0),
  (45, .iload_n 3, 0, 0, 0, 0),
  (46, .bipush (19), 0, 0, 0, 19),
  (48, .if_icmp .ge (24), 72, 0, 0, 0),
  (51, .aload_n 2, 0, 0, 0, 0),
  (52, .aload_n 1, 0, 0, 0, 0),
  (53, .getfield 30, 5, 0, 3, 0),
  (56, .getstatic 90, 8, 0, 0, 0),
  (59, .iload_n 3, 0, 0, 0, 0),
  (60, .iaload, 0, 0, 0, 0),
  (61, .iaload, 0, 0, 0, 0),
  (62, .iconst (3), 0, 0, 0, 3),
  (63, .invokevirtual 84, 71, 3, 3, 0),
  (66, .iinc 3 (1), 0, 0, 0, 1),
  (69, .goto (-32), 37, 0, 0, 0),
  (72, .iconst (0), 0, 0, 0, 0),
  (73, .istore_n 3, 0, 0, 0, 0),
  (74, .iload_n 3, 0, 0, 0, 0),
  (75, .aload_n 0, 0, 0, 0, 0),
  (76, .getfield 93, 6, 5, 0, 0),
  (79, .if_icmp .ge (39), 118, 0, 0, 0),
  (82, .aload_n 2, 0, 0, 0, 0),
  (83, .aload_n 1, 0, 0, 0, 0),
  (84, .aload_n 0, 0, 0, 0, 0),
  (85, .getfield 15, 6, 3, 3, 0),
  (88, .iload_n 3, 0, 0, 0, 0),
  (89, .iaload, 0, 0, 0, 0),
  (90, .invokevirtual 96, 73, 3, 3, 0),
  (93, .aload_n 2, 0, 0, 0, 0),
  (94, .aload_n 0, 0, 0, 0, 0),
  (95, .getfield 18, 6, 4, 3, 0),
  (98, .iload_n 3, 0, 0, 0, 0),
  (99, .iaload, 0, 0, 0, 0),
  (100, .aload_n 0, 0, 0, 0, 0),
  (101, .getfield 15, 6, 3, 3, 0),
  (104, .iload_n 3, 0, 0, 0, 0),
  (105, .iaload, 0, 0, 0, 0),
  (106, .invokestatic 100, 99, 1, 0, 0),
  (109, .invokevirtual 84, 71, 3, 3, 0),
  (112, .iinc 3 (1), 0, 0, 0, 1),
  (115, .goto (-41), 74, 0, 0, 0),
  (118, .return_, 0, 0, 0, 0)]
/-- PackDesk$CodeHead.toldCount([III)I -/
def cz_92 : List ez_C := [(0, .iload_n 1, 0, 0, 0, 0),
  (1, .aload_n 0, 0, 0, 0, 0),
  (2, .arraylength, 0, 0, 0, 0),
  (3, .invokestatic 104, 0, 2, 2, 0),
  (6, .istore_n 3, 0, 0, 0, 0),
  (7, .iload_n 3, 0, 0, 0, 0),
  (8, .iload_n 2, 0, 0, 0, 0),
  (9, .if_icmp .le (17), 26, 0, 0, 0),
  (12, .aload_n 0, 0, 0, 0, 0),
  (13, .iload_n 3, 0, 0, 0, 0),
  (14, .iconst (1), 0, 0, 0, 1),
  (15, .isub, 0, 0, 0, 0),
  (16, .iaload, 0, 0, 0, 0),
  (17, .ifCond .ne (9), 26, 0, 0, 0),
  (20, .iinc 3 (-1), 0, 0, 0, (-1)),
  (23, .goto (-16), 7, 0, 0, 0),
  (26, .iload_n 3, 0, 0, 0, 0),
  (27, .ireturn, 0, 0, 0, 0)]
/-- PackDesk$CodeHead.toldOrder([I)I -/
def cz_93 : List ez_C := [(0, .bipush (19), 0, 0, 0, 19),
  (2, .istore_n 1, 0, 0, 0, 0),
  (3, .iload_n 1, 0, 0, 0, 0),
  (4, .iconst (4), 0, 0, 0, 4),
  (5, .if_icmp .le (21), 26, 0, 0, 0),
  (8, .aload_n 0, 0, 0, 0, 0),
  (9, .getstatic 90, 8, 0, 0, 0),
  (12, .iload_n 1, 0, 0, 0, 0),
  (13, .iconst (1), 0, 0, 0, 1),
  (14, .isub, 0, 0, 0, 0),
  (15, .iaload, 0, 0, 0, 0),
  (16, .iaload, 0, 0, 0, 0),
  (17, .ifCond .ne (9), 26, 0, 0, 0),
  (20, .iinc 1 (-1), 0, 0, 0, (-1)),
  (23, .goto (-20), 3, 0, 0, 0),
  (26, .iload_n 1, 0, 0, 0, 0),
  (27, .ireturn, 0, 0, 0, 0)]
/-- PackDesk$CodeHead.tellRow(I)V -/
def cz_94 : List ez_C := [(0, .aload_n 0, 0, 0, 0, 0),
  (1, .getfield 21, 6, 6, 3, 0),
  (4, .iconst (0), 0, 0, 0, 0),
  (5, .invokestatic 110, 149, 2, 0, 0),
  (8, .aload_n 0, 0, 0, 0, 0),
  (9, .iconst (0), 0, 0, 0, 0),
  (10, .putfield 93, 6, 5, 0, 0),
  (13, .iconst (0), 0, 0, 0, 0),
  (14, .istore_n 2, 0, 0, 0, 0),
  (15, .iconst (0), 0, 0, 0, 0),
  (16, .istore_n 3, 0, 0, 0, 0),
  (17, .iload_n 3, 0, 0, 0, 0),
  (18, .iload_n 1, 0, 0, 0, 0),
  (19, .if_icmp .ge (23), 42, 0, 0, 0),
  (22, .iload_n 2, 0, 0, 0, 0),
  (23, .iload_n 1, 0, 0, 0, 0),
  (24, .if_icmp .ge (18), 42, 0, 0, 0),
  (27, .iload_n 2, 0, 0, 0, 0),
  (28, .aload_n 0, 0, 0, 0, 0),
  (29, .iload_n 2, 0, 0, 0, 0),
  (30, .iload_n 1, 0, 0, 0, 0),
  (31, .invokevirtual 116, 95, 3, 6, 0),
  (34, .iadd, 0, 0, 0, 0),
  (35, .istore_n 2, 0, 0, 0, 0),
  (36, .iinc 3 (1), 0, 0, 0, 1),
  (39, .goto (-22), 17, 0, 0, 0),
  (42, .return_, 0, 0, 0, 0)]
/-- PackDesk$CodeHead.tellAt(II)I -/
def cz_95 : List ez_C := [(0, .aload_n 0, 0, 0, 0, 0),
  (1, .iload_n 1, 0, 0, 0, 0),
  (2, .iload_n 2, 0, 0, 0, 0),
  (3, .iconst (0), 0, 0, 0, 0),
  (4, .sipush (138), 0, 0, 0, 138),
  (7, .invokevirtual 119, 96, 5, 6, 0),
  (10, .istore_n 3, 0, 0, 0, 0),
  (11, .iload_n 3, 0, 0, 0, 0),
  (12, .iconst (3), 0, 0, 0, 3),
  (13, .if_icmp .lt (37), 50, 0, 0, 0),
  (16, .iload_n 3, 0, 0, 0, 0),
  (17, .bipush (10), 0, 0, 0, 10),
  (19, .if_icmp .gt (8), 27, 0, 0, 0),
  (22, .bipush (17), 0, 0, 0, 17),
  (24, .goto (5), 29, 0, 0, 0),
  (27, .bipush (18), 0, 0, 0, 18),
  (29, .istore 4, 0, 0, 0, 0),
  (31, .aload_n 0, 0, 0, 0, 0),
  (32, .iload 4, 0, 0, 0, 0),
  (34, .iload_n 3, 0, 0, 0, 0),
  (35, .getstatic 123, 7, 0, 0, 0),
  (38, .iload 4, 0, 0, 0, 0),
  (40, .bipush (16), 0, 0, 0, 16),
  (42, .isub, 0, 0, 0, 0),
  (43, .iaload, 0, 0, 0, 0),
  (44, .isub, 0, 0, 0, 0),
  (45, .invokevirtual 126, 97, 3, 6, 0),
  (48, .iload_n 3, 0, 0, 0, 0),
  (49, .ireturn, 0, 0, 0, 0),
  (50, .iload_n 1, 0, 0, 0, 0),
  (51, .ifCond .le (22), 73, 0, 0, 0),
  (54, .aload_n 0, 0, 0, 0, 0),
  (55, .iload_n 1, 0, 0, 0, 0),
  (56, .iload_n 2, 0, 0, 0, 0),
  (57, .aload_n 0, 0, 0, 0, 0),
  (58, .getfield 9, 6, 0, 3, 0),
  (61, .iload_n 1, 0, 0, 0, 0),
  (62, .iconst (1), 0, 0, 0, 1),
  (63, .isub, 0, 0, 0, 0),
  (64, .iaload, 0, 0, 0, 0),
  (65, .bipush (6), 0, 0, 0, 6),
  (67, .invokevirtual 119, 96, 5, 6, 0),
  (70, .goto (4), 74, 0, 0, 0),
  (73, .iconst (0), 0, 0, 0, 0),
  (74, .istore 4, 0, 0, 0, 0),
  (76, .iload 4, 0, 0, 0, 0),
  (78, .iconst (3), 0, 0, 0, 3),
  (79, .if_icmp .lt (16), 95, 0, 0, 0),
  (82, .aload_n 0, 0, 0, 0, 0),
  (83, .bipush (16), 0, 0, 0, 16),
  (85, .iload 4, 0, 0, 0, 0),
  (87, .iconst (3), 0, 0, 0, 3),
  (88, .isub, 0, 0, 0, 0),
  (89, .invokevirtual 126, 97, 3, 6, 0),
  (92, .iload 4, 0, 0, 0, 0),
  (94, .ireturn, 0, 0, 0, 0),
  (95, .aload_n 0, 0, 0, 0, 0),
  (96, .aload_n 0, 0, 0, 0, 0),
  (97, .getfield 9, 6, 0, 3, 0),
  (100, .iload_n 1, 0, 0, 0, 0),
  (101, .iaload, 0, 0, 0, 0),
  (102, .iconst (0), 0, 0, 0, 0),
  (103, .invokevirtual 126, 97, 3, 6, 0),
  (106, .iconst (1), 0, 0, 0, 1),
  (107, .ireturn, 0, 0, 0, 0)]
/-- PackDesk$CodeHead.sameFrom(IIII)I -/
def cz_96 : List ez_C := [(0, .iconst (0), 0, 0, 0, 0),
  (1, .istore 5, 0, 0, 0, 0),
  (3, .iload 5, 0, 0, 0, 0),
  (5, .iload 4, 0, 0, 0, 0),
  (7, .if_icmp .ge (30), 37, 0, 0, 0),
  (10, .iload_n 1, 0, 0, 0, 0),
  (11, .iload 5, 0, 0, 0, 0),
  (13, .iadd, 0, 0, 0, 0),
  (14, .iload_n 2, 0, 0, 0, 0),
  (15, .if_icmp .ge (22), 37, 0, 0, 0),
  (18, .aload_n 0, 0, 0, 0, 0),
  (19, .getfield 9, 6, 0, 3, 0),
  (22, .iload_n 1, 0, 0, 0, 0),
  (23, .iload 5, 0, 0, 0, 0),
  (25, .iadd, 0, 0, 0, 0),
  (26, .iaload, 0, 0, 0, 0),
  (27, .iload_n 3, 0, 0, 0, 0),
  (28, .if_icmp .ne (9), 37, 0, 0, 0),
  (31, .iinc 5 (1), 0, 0, 0, 1),
  (34, .goto (-31), 3, 0, 0, 0),
  (37, .iload 5, 0, 0, 0, 0),
  (39, .ireturn, 0, 0, 0, 0)]
/-- PackDesk$CodeHead.addSymbol(II)V -/
def cz_97 : List ez_C := [(0, .iload_n 1, 0, 0, 0, 0),
  (1, .ifCond .lt (59), 60, 0, 0, 0),
  (4, .iload_n 1, 0, 0, 0, 0),
  (5, .bipush (19), 0, 0, 0, 19),
  (7, .if_icmp .ge (53), 60, 0, 0, 0),
  (10, .aload_n 0, 0, 0, 0, 0),
  (11, .getfield 93, 6, 5, 0, 0),
  (14, .sipush (316), 0, 0, 0, 316),
  (17, .if_icmp .ge (43), 60, 0, 0, 0),
  (20, .aload_n 0, 0, 0, 0, 0),
  (21, .getfield 15, 6, 3, 3, 0),
  (24, .aload_n 0, 0, 0, 0, 0),
  (25, .getfield 93, 6, 5, 0, 0),
  (28, .iload_n 1, 0, 0, 0, 0),
  (29, .iastore, 0, 0, 0, 0),
  (30, .aload_n 0, 0, 0, 0, 0),
  (31, .getfield 18, 6, 4, 3, 0),
  (34, .aload_n 0, 0, 0, 0, 0),
  (35, .getfield 93, 6, 5, 0, 0),
  (38, .iload_n 2, 0, 0, 0, 0),
  (39, .iastore, 0, 0, 0, 0),
  (40, .aload_n 0, 0, 0, 0, 0),
  (41, .dup, 0, 0, 0, 0),
  (42, .getfield 93, 6, 5, 0, 0),
  (45, .iconst (1), 0, 0, 0, 1),
  (46, .iadd, 0, 0, 0, 0),
  (47, .putfield 93, 6, 5, 0, 0),
  (50, .aload_n 0, 0, 0, 0, 0),
  (51, .getfield 21, 6, 6, 3, 0),
  (54, .iload_n 1, 0, 0, 0, 0),
  (55, .dup2, 0, 0, 0, 0),
  (56, .iaload, 0, 0, 0, 0),
  (57, .iconst (1), 0, 0, 0, 1),
  (58, .iadd, 0, 0, 0, 0),
  (59, .iastore, 0, 0, 0, 0),
  (60, .return_, 0, 0, 0, 0)]
/-- PackDesk$CodeHead.extraBits()I -/
def cz_98 : List ez_C := [(0, .iconst (0), 0, 0, 0, 0),
  (1, .istore_n 1, 0, 0, 0, 0),
  (2, .bipush (16), 0, 0, 0, 16),
  (4, .istore_n 2, 0, 0, 0, 0),
  (5, .iload_n 2, 0, 0, 0, 0),
  (6, .bipush (18), 0, 0, 0, 18),
  (8, .if_icmp .gt (23), 31, 0, 0, 0),
  (11, .iload_n 1, 0, 0, 0, 0),
  (12, .aload_n 0, 0, 0, 0, 0),
  (13, .getfield 21, 6, 6, 3, 0),
  (16, .iload_n 2, 0, 0, 0, 0),
  (17, .iaload, 0, 0, 0, 0),
  (18, .iload_n 2, 0, 0, 0, 0),
  (19, .invokestatic 100, 99, 1, 0, 0),
  (22, .imul, 0, 0, 0, 0),
  (23, .iadd, 0, 0, 0, 0),
  (24, .istore_n 1, 0, 0, 0, 0),
  (25, .iinc 2 (1), 0, 0, 0, 1),
  (28, .goto (-23), 5, 0, 0, 0),
  (31, .iload_n 1, 0, 0, 0, 0),
  (32, .ireturn, 0, 0, 0, 0)]
/-- PackDesk$CodeHead.extraBitsOf(I)I -/
def cz_99 : List ez_C := [(0, .iload_n 0, 0, 0, 0, 0),
  (1, .bipush (16), 0, 0, 0, 16),
  (3, .isub, 0, 0, 0, 0),
  (4, .istore_n 1, 0, 0, 0, 0),
  (5, .iload_n 1, 0, 0, 0, 0),
  (6, .ifCond .lt (19), 25, 0, 0, 0),
  (9, .iload_n 1, 0, 0, 0, 0),
  (10, .getstatic 129, 9, 0, 0, 0),
  (13, .arraylength, 0, 0, 0, 0),
  (14, .if_icmp .ge (11), 25, 0, 0, 0),
  (17, .getstatic 129, 9, 0, 0, 0),
  (20, .iload_n 1, 0, 0, 0, 0),
  (21, .iaload, 0, 0, 0, 0),
  (22, .goto (4), 26, 0, 0, 0),
  (25, .iconst (0), 0, 0, 0, 0),
  (26, .ireturn, 0, 0, 0, 0)]
/-- PackDesk$CodeSet.<init>()V -/
def cz_100 : List ez_C := [(0, .aload_n 0, 0, 0, 0, 0),
  (1, .invokespecial 1, 0, 1, 0, 0),
  (4, .aload_n 0, 0, 0, 0, 0),
  (5, .new 7, 5, 7, 0, 0),
  (8, .dup, 0, 0, 0, 0),
  (9, .invokespecial 9, 81, 1, 5, 0),
  (12, .putfield 10, 7, 0, 3, 0),
  (15, .aload_n 0, 0, 0, 0, 0),
  (16, .new 7, 5, 7, 0, 0),
  (19, .dup, 0, 0, 0, 0),
  (20, .invokespecial 9, 81, 1, 5, 0),
  (23, .putfield 16, 7, 1, 3, 0),
  (26, .aload_n 0, 0, 0, 0, 0),
  (27, .new 7, 5, 7, 0, 0),
  (30, .dup, 0, 0, 0, 0),
  (31, .invokespecial 9, 81, 1, 5, 0),
  (34, .putfield 19, 7, 2, 3, 0),
  (37, .aload_n 0, 0, 0, 0, 0),
  (38, .new 7, 5, 7, 0, 0),
  (41, .dup, 0, 0, 0, 0),
  (42, .invokespecial 9, 81, 1, 5, 0),
  (45, .putfield 22, 7, 3, 3, 0),
  (48, .aload_n 0, 0, 0, 0, 0),
  (49, .new 7, 5, 7, 0, 0),
  (52, .dup, 0, 0, 0, 0),
  (53, .invokespecial 9, 81, 1, 5, 0),
  (56, .putfield 25, 7, 4, 3, 0),
  (59, .aload_n 0, 0, 0, 0, 0),
  (60, .getfield 10, 7, 0, 3, 0),
  (63, .getfield 28, 5, 0, 3, 0),
  (66, .bipush (8), 0, 0, 0, 8),
  (68, .invokestatic 32, 149, 2, 0, 0),
  (71, .sipush (144), 0, 0, 0, 144),
  (74, .istore_n 1, 0, 0, 0, 0),
  (75, .iload_n 1, 0, 0, 0, 0),
  (76, .sipush (256), 0, 0, 0, 256),
  (79, .if_icmp .ge (20), 99, 0, 0, 0),
  (82, .aload_n 0, 0, 0, 0, 0),
  (83, .getfield 10, 7, 0, 3, 0),
  (86, .getfield 28, 5, 0, 3, 0),
  (89, .iload_n 1, 0, 0, 0, 0),
  (90, .bipush (9), 0, 0, 0, 9),
  (92, .iastore, 0, 0, 0, 0),
  (93, .iinc 1 (1), 0, 0, 0, 1),
  (96, .goto (-21), 75, 0, 0, 0),
  (99, .sipush (256), 0, 0, 0, 256),
  (102, .istore_n 1, 0, 0, 0, 0),
  (103, .iload_n 1, 0, 0, 0, 0),
  (104, .sipush (280), 0, 0, 0, 280),
  (107, .if_icmp .ge (20), 127, 0, 0, 0),
  (110, .aload_n 0, 0, 0, 0, 0),
  (111, .getfield 10, 7, 0, 3, 0),
  (114, .getfield 28, 5, 0, 3, 0),
  (117, .iload_n 1, 0, 0, 0, 0),
  (118, .bipush (7), 0, 0, 0, 7),
  (120, .iastore, 0, 0, 0, 0),
  (121, .iinc 1 (1), 0, 0, 0, 1),
  (124, .goto (-21), 103, 0, 0, 0),
  (127, .aload_n 0, 0, 0, 0, 0),
  (128, .getfield 10, 7, 0, 3, 0),
  (131, .invokevirtual 38, 83, 1, 5, 0),
  (134, .iconst (0), 0, 0, 0, 0),
  (135, .istore_n 1, 0, 0, 0, 0),
  (136, .iload_n 1, 0, 0, 0, 0),
  (137, .bipush (32), 0, 0, 0, 32),
  (139, .if_icmp .ge (19), 158, 0, 0, 0),
  (142, .aload_n 0, 0, 0, 0, 0),
  (143, .getfield 16, 7, 1, 3, 0),
  (146, .getfield 28, 5, 0, 3, 0),
  (149, .iload_n 1, 0, 0, 0, 0),
  (150, .iconst (5), 0, 0, 0, 5),
  (151, .iastore, 0, 0, 0, 0),
  (152, .iinc 1 (1), 0, 0, 0, 1),
  (155, .goto (-19), 136, 0, 0, 0),
  (158, .aload_n 0, 0, 0, 0, 0),
  (159, .getfield 16, 7, 1, 3, 0),
  (162, .invokevirtual 38, 83, 1, 5, 0),
  (165, .return_, 0, 0, 0, 0)]
/-- PackDesk$LengthMaker.<init>()V -/
def cz_101 : List ez_C := [(0, .aload_n 0, 0, 0, 0, 0),
  (1, .invokespecial 3, 0, 1, 0, 0),
  (4, .aload_n 0, 0, 0, 0, 0),
  (5, .sipush (288), 0, 0, 0, 288),
  (8, .newarray .int, 1000, 0, 0, 0),
  (10, .putfield 9, 8, 0, 3, 0),
  (13, .aload_n 0, 0, 0, 0, 0),
  (14, .sipush (576), 0, 0, 0, 576),
  (17, .newarray .long, 1002, 0, 0, 0),
  (19, .putfield 15, 8, 1, 3, 0),
  (22, .aload_n 0, 0, 0, 0, 0),
  (23, .sipush (288), 0, 0, 0, 288),
  (26, .newarray .long, 1002, 0, 0, 0),
  (28, .putfield 19, 8, 2, 3, 0),
  (31, .aload_n 0, 0, 0, 0, 0),
  (32, .sipush (576), 0, 0, 0, 576),
  (35, .newarray .int, 1000, 0, 0, 0),
  (37, .putfield 22, 8, 3, 3, 0),
  (40, .return_, 0, 0, 0, 0)]
/-- PackDesk$LengthMaker.make([III[I)V -/
def cz_102 : List ez_C := [(0, .aload 4, 0, 0, 0, 0),
  (2, .iconst (0), 0, 0, 0, 0),
  (3, .invokestatic 25, 149, 2, 0, 0),
  (6, .aload_n 0, 0, 0, 0, 0),
  (7, .aload_n 1, 0, 0, 0, 0),
  (8, .iload_n 2, 0, 0, 0, 0),
  (9, .aload 4, 0, 0, 0, 0),
  (11, .arraylength, 0, 0, 0, 0),
  (12, .invokestatic 31, 0, 2, 2, 0),
  (15, .invokevirtual 37, 103, 3, 8, 0),
  (18, .istore 5, 0, 0, 0, 0),
  (20, .getstatic 41, 6, 0, 0, 0),
  (23, .astore 6, 0, 0, 0, 0),
  (25, .aload 6, 0, 0, 0, 0),
  (27, .arraylength, 0, 0, 0, 0),
  (28, .istore 7, 0, 0, 0, 0),
  (30, .iconst (0), 0, 0, 0, 0),
  (31, .istore 8, 0, 0, 0, 0),
  (33, .iload 8, 0, 0, 0, 0),
  (35, .iload 7, 0, 0, 0, 0),
  (37, .if_icmp .ge (24), 61, 0, 0, 0),
  (40, .aload 6, 0, 0, 0, 0),
  (42, .iload 8, 0, 0, 0, 0),
  (44, .iaload, 0, 0, 0, 0),
  (45, .istore 9, 0, 0, 0, 0),
  (47, .aload_n 0, 0, 0, 0, 0),
  (48, .iload 5, 0, 0, 0, 0),
  (50, .iload 9, 0, 0, 0, 0),
  (52, .invokevirtual 44, 104, 3, 8, 0),
  (55, .iinc 8 (1), 0, 0, 0, 1),
  (58, .goto (-25), 33, 0, 0, 0),
  (61, .iload 5, 0, 0, 0, 0),
  (63, .iconst (1), 0, 0, 0, 1),
  (64, .if_icmp .ne (13), 77, 0, 0, 0),
  (67, .aload_n 0, 0, 0, 0, 0),
  (68, .aload 4, 0, 0, 0, 0),
  (70, .iconst (0), 0, 0, 0, 0),
  (71, .invokevirtual 48, 108, 3, 8, 0),
  (74, .goto (25), 99, 0, 0, 0),
  (77, .iload 5, 0, 0, 0, 0),
  (79, .iconst (1), 0, 0, 0, 1),
  (80, .if_icmp .le (19), 99, 0, 0, 0),
  (83, .aload_n 0, 0, 0, 0, 0),
  (84, .iload 5, 0, 0, 0, 0),
  (86, .iload_n 3, 0, 0, 0, 0),
  (87, .invokevirtual 51, 105, 3, 8, 0),
  (90, .aload_n 0, 0, 0, 0, 0),
  (91, .iload 5, 0, 0, 0, 0),
  (93, .iload_n 3, 0, 0, 0, 0),
  (94, .aload 4, 0, 0, 0, 0),
  (96, .invokevirtual 54, 107, 4, 8, 0),
  (99, .return_, 0, 0, 0, 0)]
/-- PackDesk$LengthMaker.gather([II)I -/
def cz_103 : List ez_C := [(0, .iconst (0), 0, 0, 0, 0),
  (1, .istore_n 3, 0, 0, 0, 0),
  (2, .iconst (0), 0, 0, 0, 0),
  (3, .istore 4, 0, 0, 0, 0),
  (5, .iload 4, 0, 0, 0, 0),
  (7, .iload_n 2, 0, 0, 0, 0),
  (8, .if_icmp .ge (51), 59, 0, 0, 0),
  (11, .iload 4, 0, 0, 0, 0),
  (13, .aload_n 1, 0, 0, 0, 0),
  (14, .arraylength, 0, 0, 0, 0),
  (15, .if_icmp .ge (44), 59, 0, 0, 0),
  (18, .iload_n 3, 0, 0, 0, 0),
  (19, .aload_n 0, 0, 0, 0, 0),
  (20, .getfield 9, 8, 0, 3, 0),
  (23, .arraylength, 0, 0, 0, 0),
  (24, .if_icmp .ge (35), 59, 0, 0, 0),
  (27, .aload_n 1, 0, 0, 0, 0),
  (28, .iload 4, 0, 0, 0, 0),
  (30, .iaload, 0, 0, 0, 0),
  (31, .ifCond .le (22), 53, 0, 0, 0),
  (34, .aload_n 0, 0, 0, 0, 0),
  (35, .getfield 9, 8, 0, 3, 0),
  (38, .iload_n 3, 0, 0, 0, 0),
  (39, .aload_n 1, 0, 0, 0, 0),
  (40, .iload 4, 0, 0, 0, 0),
  (42, .iaload, 0, 0, 0, 0),
  (43, .bipush (9), 0, 0, 0, 9),
  (45, .ishl, 0, 0, 0, 0),
  (46, .iload 4, 0, 0, 0, 0),
  (48, .ior, 0, 0, 0, 0),
  (49, .iastore, 0, 0, 0, 0),
  (50, .iinc 3 (1), 0, 0, 0, 1),
  (53, .iinc 4 (1), 0, 0, 0, 1),
  (56, .goto (-51), 5, 0, 0, 0),
  (59, .iload_n 3, 0, 0, 0, 0),
  (60, .ireturn, 0, 0, 0, 0)]
/-- PackDesk$LengthMaker.sortByGap(II)V -/
def cz_104 : List ez_C := [(0, .iload_n 2, 0, 0, 0, 0),
  (1, .istore_n 3, 0, 0, 0, 0),
  (2, .iload_n 3, 0, 0, 0, 0),
  (3, .iload_n 1, 0, 0, 0, 0),
  (4, .if_icmp .ge (74), 78, 0, 0, 0),
  (7, .aload_n 0, 0, 0, 0, 0),
  (8, .getfield 9, 8, 0, 3, 0),
  (11, .iload_n 3, 0, 0, 0, 0),
  (12, .iaload, 0, 0, 0, 0),
  (13, .istore 4, 0, 0, 0, 0),
  (15, .iload_n 3, 0, 0, 0, 0),
  (16, .istore 5, 0, 0, 0, 0),
  (18, .iload 5, 0, 0, 0, 0),
  (20, .iload_n 2, 0, 0, 0, 0),
  (21, .if_icmp .lt (42), 63, 0, 0, 0),
  (24, .aload_n 0, 0, 0, 0, 0),
  (25, .getfield 9, 8, 0, 3, 0),
  (28, .iload 5, 0, 0, 0, 0),
  (30, .iload_n 2, 0, 0, 0, 0),
  (31, .isub, 0, 0, 0, 0),
  (32, .iaload, 0, 0, 0, 0),
  (33, .iload 4, 0, 0, 0, 0),
  (35, .if_icmp .le (28), 63, 0, 0, 0),
  (38, .aload_n 0, 0, 0, 0, 0),
  (39, .getfield 9, 8, 0, 3, 0),
  (42, .iload 5, 0, 0, 0, 0),
  (44, .aload_n 0, 0, 0, 0, 0),
  (45, .getfield 9, 8, 0, 3, 0),
  (48, .iload 5, 0, 0, 0, 0),
  (50, .iload_n 2, 0, 0, 0, 0),
  (51, .isub, 0, 0, 0, 0),
  (52, .iaload, 0, 0, 0, 0),
  (53, .iastore, 0, 0, 0, 0),
  (54, .iload 5, 0, 0, 0, 0),
  (56, .iload_n 2, 0, 0, 0, 0),
  (57, .isub, 0, 0, 0, 0),
  (58, .istore 5, 0, 0, 0, 0),
  (60, .goto (-42), 18, 0, 0, 0),
  (63, .aload_n 0, 0, 0, 0, 0),
  (64, .getfield 9, 8, 0, 3, 0),
  (67, .iload 5, 0, 0, 0, 0),
  (69, .iload 4, 0, 0, 0, 0),
  (71, .iastore, 0, 0, 0, 0),
  (72, .iinc 3 (1), 0, 0, 0, 1),
  (75, .goto (-73), 2, 0, 0, 0),
  (78, .return_, 0, 0, 0, 0)]
/-- PackDesk$LengthMaker.mergeRounds(II)V -/
def cz_105 : List ez_C := [(0, .aload_n 0, 0, 0, 0, 0),
  (1, .getfield 22, 8, 3, 3, 0),
  (4, .iconst (0), 0, 0, 0, 0),
  (5, .invokestatic 25, 149, 2, 0, 0),
  (8, .iconst (0), 0, 0, 0, 0),
  (9, .istore_n 3, 0, 0, 0, 0),
  (10, .iload_n 3, 0, 0, 0, 0),
  (11, .iload_n 1, 0, 0, 0, 0),
  (12, .if_icmp .ge (32), 44, 0, 0, 0),
  (15, .aload_n 0, 0, 0, 0, 0),
  (16, .getfield 15, 8, 1, 3, 0),
  (19, .iload_n 3, 0, 0, 0, 0),
  (20, .aload_n 0, 0, 0, 0, 0),
  (21, .getfield 9, 8, 0, 3, 0),
  (24, .iload_n 3, 0, 0, 0, 0),
  (25, .iaload, 0, 0, 0, 0),
  (26, .bipush (9), 0, 0, 0, 9),
  (28, .ishr, 0, 0, 0, 0),
  (29, .i2l, 0, 0, 0, 0),
  (30, .lastore, 0, 0, 0, 0),
  (31, .aload_n 0, 0, 0, 0, 0),
  (32, .getfield 22, 8, 3, 3, 0),
  (35, .iload_n 3, 0, 0, 0, 0),
  (36, .iconst (1), 0, 0, 0, 1),
  (37, .iastore, 0, 0, 0, 0),
  (38, .iinc 3 (1), 0, 0, 0, 1),
  (41, .goto (-31), 10, 0, 0, 0),
  (44, .iload_n 1, 0, 0, 0, 0),
  (45, .istore_n 3, 0, 0, 0, 0),
  (46, .iconst (1), 0, 0, 0, 1),
  (47, .istore 4, 0, 0, 0, 0),
  (49, .iload 4, 0, 0, 0, 0),
  (51, .iload_n 2, 0, 0, 0, 0),
  (52, .if_icmp .ge (18), 70, 0, 0, 0),
  (55, .aload_n 0, 0, 0, 0, 0),
  (56, .iload_n 1, 0, 0, 0, 0),
  (57, .iload_n 3, 0, 0, 0, 0),
  (58, .iload 4, 0, 0, 0, 0),
  (60, .invokevirtual 58, 106, 4, 8, 0),
  (63, .istore_n 3, 0, 0, 0, 0),
  (64, .iinc 4 (1), 0, 0, 0, 1),
  (67, .goto (-18), 49, 0, 0, 0),
  (70, .return_, 0, 0, 0, 0)]
/-- PackDesk$LengthMaker.mergeRound(III)I -/
def cz_106 : List ez_C := [(0, .iload_n 2, 0, 0, 0, 0),
  (1, .iconst (2), 0, 0, 0, 2),
  (2, .idiv, 0, 0, 0, 0),
  (3, .aload_n 0, 0, 0, 0, 0),
  (4, .getfield 19, 8, 2, 3, 0),
  (7, .arraylength, 0, 0, 0, 0),
  (8, .invokestatic 31, 0, 2, 2, 0),
  (11, .istore 4, 0, 0, 0, 0),
  (13, .iconst (0), 0, 0, 0, 0),
  (14, .istore 5, 0, 0, 0, 0),
  (16, .iload 5, 0, 0, 0, 0),
  (18, .iload 4, 0, 0, 0, 0),
  (20, .if_icmp .ge (37), 57, 0, 0, 0),
  (23, .aload_n 0, 0, 0, 0, 0),
  (24, .getfield 19, 8, 2, 3, 0),
  (27, .iload 5, 0, 0, 0, 0),
  (29, .aload_n 0, 0, 0, 0, 0),
  (30, .getfield 15, 8, 1, 3, 0),
  (33, .iconst (2), 0, 0, 0, 2),
  (34, .iload 5, 0, 0, 0, 0),
  (36, .imul, 0, 0, 0, 0),
  (37, .laload, 0, 0, 0, 0),
  (38, .aload_n 0, 0, 0, 0, 0),
  (39, .getfield 15, 8, 1, 3, 0),
  (42, .iconst (2), 0, 0, 0, 2),
  (43, .iload 5, 0, 0, 0, 0),
  (45, .imul, 0, 0, 0, 0),
  (46, .iconst (1), 0, 0, 0, 1),
  (47, .iadd, 0, 0, 0, 0),
  (48, .laload, 0, 0, 0, 0),
  (49, .ladd, 0, 0, 0, 0),
  (50, .lastore, 0, 0, 0, 0),
  (51, .iinc 5 (1), 0, 0, 0, 1),
  (54, .goto (-38), 16, 0, 0, 0),
  (57, .iload_n 1, 0, 0, 0, 0),
  (58, .iload 4, 0, 0, 0, 0),
  (60, .iadd, 0, 0, 0, 0),
  (61, .aload_n 0, 0, 0, 0, 0),
  (62, .getfield 15, 8, 1, 3, 0),
  (65, .arraylength, 0, 0, 0, 0),
  (66, .invokestatic 31, 0, 2, 2, 0),
  (69, .istore 5, 0, 0, 0, 0),
  (71, .iconst (0), 0, 0, 0, 0),
  (72, .istore 6, 0, 0, 0, 0),
  (74, .iconst (0), 0, 0, 0, 0),
  (75, .istore 7, 0, 0, 0, 0),
  (77, .iconst (0), 0, 0, 0, 0),
  (78, .istore 8, 0, 0, 0, 0),
  (80, .iload 8, 0, 0, 0, 0),
  (82, .iload 5, 0, 0, 0, 0),
  (84, .if_icmp .ge (98), 182, 0, 0, 0),
  (87, .iload 7, 0, 0, 0, 0),
  (89, .iload 4, 0, 0, 0, 0),
  (91, .if_icmp .ge (31), 122, 0, 0, 0),
  (94, .iload 6, 0, 0, 0, 0),
  (96, .iload_n 1, 0, 0, 0, 0),
  (97, .if_icmp .ge (62), 159, 0, 0, 0),
  (100, .aload_n 0, 0, 0, 0, 0),
  (101, .getfield 9, 8, 0, 3, 0),
  (104, .iload 6, 0, 0, 0, 0),
  (106, .iaload, 0, 0, 0, 0),
  (107, .bipush (9), 0, 0, 0, 9),
  (109, .ishr, 0, 0, 0, 0),
  (110, .i2l, 0, 0, 0, 0),
  (111, .aload_n 0, 0, 0, 0, 0),
  (112, .getfield 19, 8, 2, 3, 0),
  (115, .iload 7, 0, 0, 0, 0),
  (117, .laload, 0, 0, 0, 0),
  (118, .lcmp, 0, 0, 0, 0),
  (119, .ifCond .gt (40), 159, 0, 0, 0),
  (122, .aload_n 0, 0, 0, 0, 0),
  (123, .getfield 15, 8, 1, 3, 0),
  (126, .iload 8, 0, 0, 0, 0),
  (128, .aload_n 0, 0, 0, 0, 0),
  (129, .getfield 9, 8, 0, 3, 0),
  (132, .iload 6, 0, 0, 0, 0),
  (134, .iaload, 0, 0, 0, 0),
  (135, .bipush (9), 0, 0, 0, 9),
  (137, .ishr, 0, 0, 0, 0),
  (138, .i2l, 0, 0, 0, 0),
  (139, .lastore, 0, 0, 0, 0),
  (140, .aload_n 0, 0, 0, 0, 0),
  (141, .getfield 22, 8, 3, 3, 0),
  (144, .iload 8, 0, 0, 0, 0),
  (146, .dup2, 0, 0, 0, 0),
  (147, .iaload, 0, 0, 0, 0),
  (148, .iconst (1), 0, 0, 0, 1),
  (149, .iload_n 3, 0, 0, 0, 0),
  (150, .ishl, 0, 0, 0, 0),
  (151, .ior, 0, 0, 0, 0),
  (152, .iastore, 0, 0, 0, 0),
  (153, .iinc 6 (1), 0, 0, 0, 1),
  (156, .goto (20), 176, 0, 0, 0),
  (159, .aload_n 0, 0, 0, 0, 0),
  (160, .getfield 15, 8, 1, 3, 0),
  (163, .iload 8, 0, 0, 0, 0),
  (165, .aload_n 0, 0, 0, 0, 0),
  (166, .getfield 19, 8, 2, 3, 0),
  (169, .iload 7, 0, 0, 0, 0),
  (171, .laload, 0, 0, 0, 0),
  (172, .lastore, 0, 0, 0, 0),
  (173, .iinc 7 (1), 0, 0, 0, 1),
  (176, .iinc 8 (1), 0, 0, 0, 1),
  (179, .goto (-99), 80, 0, 0, 0),
  (182, .iload 5, 0, 0, 0, 0),
  (184, .ireturn, 0, 0, 0, 0)]
/-- PackDesk$LengthMaker.countDown(II[I)V -/
def cz_107 : List ez_C := [(0, .iconst (2), 0, 0, 0, 2),
  (1, .iload_n 1, 0, 0, 0, 0),
  (2, .imul, 0, 0, 0, 0),
  (3, .iconst (2), 0, 0, 0, 2),
  (4, .isub, 0, 0, 0, 0),
  (5, .istore 4, 0, 0, 0, 0),
  (7, .iload_n 2, 0, 0, 0, 0),
  (8, .iconst (1), 0, 0, 0, 1),
  (9, .isub, 0, 0, 0, 0),
  (10, .istore 5, 0, 0, 0, 0),
  (12, .iload 5, 0, 0, 0, 0),
  (14, .ifCond .lt (73), 87, 0, 0, 0),
  (17, .iconst (0), 0, 0, 0, 0),
  (18, .istore 6, 0, 0, 0, 0),
  (20, .iconst (0), 0, 0, 0, 0),
  (21, .istore 7, 0, 0, 0, 0),
  (23, .iload 7, 0, 0, 0, 0),
  (25, .iload 4, 0, 0, 0, 0),
  (27, .if_icmp .ge (45), 72, 0, 0, 0),
  (30, .iload 7, 0, 0, 0, 0),
  (32, .aload_n 0, 0, 0, 0, 0),
  (33, .getfield 22, 8, 3, 3, 0),
  (36, .arraylength, 0, 0, 0, 0),
  (37, .if_icmp .ge (35), 72, 0, 0, 0),
  (40, .aload_n 0, 0, 0, 0, 0),
  (41, .getfield 22, 8, 3, 3, 0),
  (44, .iload 7, 0, 0, 0, 0),
  (46, .iaload, 0, 0, 0, 0),
  (47, .iload 5, 0, 0, 0, 0),
  (49, .ishr, 0, 0, 0, 0),
  (50, .iconst (1), 0, 0, 0, 1),
  (51, .iand, 0, 0, 0, 0),
  (52, .iconst (1), 0, 0, 0, 1),
  (53, .if_icmp .ne (13), 66, 0, 0, 0),
  (56, .aload_n 0, 0, 0, 0, 0),
  (57, .aload_n 3, 0, 0, 0, 0),
  (58, .iload 6, 0, 0, 0, 0),
  (60, .invokevirtual 48, 108, 3, 8, 0),
  (63, .iinc 6 (1), 0, 0, 0, 1),
  (66, .iinc 7 (1), 0, 0, 0, 1),
  (69, .goto (-46), 23, 0, 0, 0),
  (72, .iconst (2), 0, 0, 0, 2),
  (73, .iload 4, 0, 0, 0, 0),
  (75, .iload 6, 0, 0, 0, 0),
  (77, .isub, 0, 0, 0, 0),
  (78, .imul, 0, 0, 0, 0),
  (79, .istore 4, 0, 0, 0, 0),
  (81, .iinc 5 (-1), 0, 0, 0, (-1)),
  (84, .goto (-72), 12, 0, 0, 0),
  (87, .return_, 0, 0, 0, 0)]
/-- PackDesk$LengthMaker.lengthen([II)V -/
def cz_108 : List ez_C := [(0, .iload_n 2, 0, 0, 0, 0),
  (1, .ifCond .lt (25), 26, 0, 0, 0),
  (4, .iload_n 2, 0, 0, 0, 0),
  (5, .aload_n 0, 0, 0, 0, 0),
  (6, .getfield 9, 8, 0, 3, 0),
  (9, .arraylength, 0, 0, 0, 0),
  (10, .if_icmp .ge (16), 26, 0, 0, 0),
  (13, .aload_n 0, 0, 0, 0, 0),
  (14, .getfield 9, 8, 0, 3, 0),
  (17, .iload_n 2, 0, 0, 0, 0),
  (18, .iaload, 0, 0, 0, 0),
  (19, .sipush (511), 0, 0, 0, 511),
  (22, .iand, 0, 0, 0, 0),
  (23, .goto (4), 27, 0, 0, 0),
  (26, .iconst (-1), 0, 0, 0, (-1)),
  (27, .istore_n 3, 0, 0, 0, 0),
  (28, .iload_n 3, 0, 0, 0, 0),
  (29, .ifCond .lt (16), 45, 0, 0, 0),
  (32, .iload_n 3, 0, 0, 0, 0),
  (33, .aload_n 1, 0, 0, 0, 0),
  (34, .arraylength, 0, 0, 0, 0),
  (35, .if_icmp .ge (10), 45, 0, 0, 0),
  (38, .aload_n 1, 0, 0, 0, 0),
  (39, .iload_n 3, 0, 0, 0, 0),
  (40, .dup2, 0, 0, 0, 0),
  (41, .iaload, 0, 0, 0, 0),
  (42, .iconst (1), 0, 0, 0, 1),
  (43, .iadd, 0, 0, 0, 0),
  (44, .iastore, 0, 0, 0, 0),
  (45, .return_, 0, 0, 0, 0)]
/-- PackDesk$Matcher.<init>()V -/
def cz_109 : List ez_C := [(0, .aload_n 0, 0, 0, 0, 0),
  (1, .invokespecial 5, 0, 1, 0, 0),
  (4, .aload_n 0, 0, 0, 0, 0),
  (5, .sipush (4096), 0, 0, 0, 4096),
  (8, .newarray .int, 1000, 0, 0, 0),
  (10, .putfield 11, 9, 0, 3, 0),
  (13, .aload_n 0, 0, 0, 0, 0),
  (14, .sipush (6000), 0, 0, 0, 6000),
  (17, .newarray .int, 1000, 0, 0, 0),
  (19, .putfield 15, 9, 1, 3, 0),
  (22, .return_, 0, 0, 0, 0)]
/-- PackDesk$Matcher.chain(LPackDesk$Row;)V -/
def cz_110 : List ez_C := [(0, .aload_n 0, 0, 0, 0, 0),
  (1, .getfield 11, 9, 0, 3, 0),
  (4, .iconst (-1), 0, 0, 0, (-1)),
  (5, .invokestatic 18, 149, 2, 0, 0),
  (8, .iconst (0), 0, 0, 0, 0),
  (9, .istore_n 2, 0, 0, 0, 0),
  (10, .iload_n 2, 0, 0, 0, 0),
  (11, .iconst (3), 0, 0, 0, 3),
  (12, .iadd, 0, 0, 0, 0),
  (13, .aload_n 1, 0, 0, 0, 0),
  (14, .getfield 24, 12, 1, 0, 0),
  (17, .if_icmp .gt (46), 63, 0, 0, 0),
  (20, .iload_n 2, 0, 0, 0, 0),
  (21, .aload_n 0, 0, 0, 0, 0),
  (22, .getfield 15, 9, 1, 3, 0),
  (25, .arraylength, 0, 0, 0, 0),
  (26, .if_icmp .ge (37), 63, 0, 0, 0),
  (29, .aload_n 1, 0, 0, 0, 0),
  (30, .getfield 30, 12, 0, 3, 0),
  (33, .iload_n 2, 0, 0, 0, 0),
  (34, .invokestatic 33, 113, 2, 0, 0),
  (37, .istore_n 3, 0, 0, 0, 0),
  (38, .aload_n 0, 0, 0, 0, 0),
  (39, .getfield 15, 9, 1, 3, 0),
  (42, .iload_n 2, 0, 0, 0, 0),
  (43, .aload_n 0, 0, 0, 0, 0),
  (44, .getfield 11, 9, 0, 3, 0),
  (47, .iload_n 3, 0, 0, 0, 0),
  (48, .iaload, 0, 0, 0, 0),
  (49, .iastore, 0, 0, 0, 0),
  (50, .aload_n 0, 0, 0, 0, 0),
  (51, .getfield 11, 9, 0, 3, 0),
  (54, .iload_n 3, 0, 0, 0, 0),
  (55, .iload_n 2, 0, 0, 0, 0),
  (56, .iastore, 0, 0, 0, 0),
  (57, .iinc 2 (1), 0, 0, 0, 1),
  (60, .goto (-50), 10, 0, 0, 0),
  (63, .return_, 0, 0, 0, 0)]
/-- PackDesk$Matcher.search(LPackDesk$Row;II)I -/
def cz_111 : List ez_C := [(0, .sipush (258), 0, 0, 0, 258),
  (3, .aload_n 1, 0, 0, 0, 0),
  (4, .getfield 24, 12, 1, 0, 0),
  (7, .iload_n 2, 0, 0, 0, 0),
  (8, .isub, 0, 0, 0, 0),
  (9, .invokestatic 37, 0, 2, 2, 0),
  (12, .istore 4, 0, 0, 0, 0),
  (14, .iload_n 3, 0, 0, 0, 0),
  (15, .iconst (2), 0, 0, 0, 2),
  (16, .invokestatic 43, 0, 2, 1, 0),
  (19, .istore 5, 0, 0, 0, 0),
  (21, .iload_n 2, 0, 0, 0, 0),
  (22, .ifCond .lt (19), 41, 0, 0, 0),
  (25, .iload_n 2, 0, 0, 0, 0),
  (26, .aload_n 0, 0, 0, 0, 0),
  (27, .getfield 15, 9, 1, 3, 0),
  (30, .arraylength, 0, 0, 0, 0),
  (31, .if_icmp .ge (10), 41, 0, 0, 0),
  (34, .iload 5, 0, 0, 0, 0),
  (36, .iload 4, 0, 0, 0, 0),
  (38, .if_icmp .lt (5), 43, 0, 0, 0),
  (41, .iconst (0), 0, 0, 0, 0),
  (42, .ireturn, 0, 0, 0, 0),
  (43, .iconst (0), 0, 0, 0, 0),
  (44, .istore 6, 0, 0, 0, 0),
  (46, .aload_n 0, 0, 0, 0, 0),
  (47, .getfield 15, 9, 1, 3, 0),
  (50, .iload_n 2, 0, 0, 0, 0),
  (51, .iaload, 0, 0, 0, 0),
  (52, .istore 7, 0, 0, 0, 0),
  (54, .iconst (0), 0, 0, 0, 0),
  (55, .istore 8, 0, 0, 0, 0),
  (57, .iload 8, 0, 0, 0, 0),
  (59, .sipush (4096), 0, 0, 0, 4096),
  (62, .if_icmp .ge (98), 160, 0, 0, 0),
  (65, .iload 7, 0, 0, 0, 0),
  (67, .ifCond .lt (93), 160, 0, 0, 0),
  (70, .iload_n 2, 0, 0, 0, 0),
  (71, .iload 7, 0, 0, 0, 0),
  (73, .isub, 0, 0, 0, 0),
  (74, .sipush (4096), 0, 0, 0, 4096),
  (77, .if_icmp .gt (83), 160, 0, 0, 0),
  (80, .iload 5, 0, 0, 0, 0),
  (82, .iload 4, 0, 0, 0, 0),
  (84, .if_icmp .ge (76), 160, 0, 0, 0),
  (87, .aload_n 1, 0, 0, 0, 0),
  (88, .getfield 30, 12, 0, 3, 0),
  (91, .iload 7, 0, 0, 0, 0),
  (93, .iload 5, 0, 0, 0, 0),
  (95, .iadd, 0, 0, 0, 0),
  (96, .iaload, 0, 0, 0, 0),
  (97, .aload_n 1, 0, 0, 0, 0),
  (98, .getfield 30, 12, 0, 3, 0),
  (101, .iload_n 2, 0, 0, 0, 0),
  (102, .iload 5, 0, 0, 0, 0),
  (104, .iadd, 0, 0, 0, 0),
  (105, .iaload, 0, 0, 0, 0),
  (106, .if_icmp .ne (39), 145, 0, 0, 0),
  (109, .aload_n 1, 0, 0, 0, 0),
  (110, .getfield 30, 12, 0, 3, 0),
  (113, .iload 7, 0, 0, 0, 0),
  (115, .iload_n 2, 0, 0, 0, 0),
  (116, .iload 4, 0, 0, 0, 0),
  (118, .invokestatic 46, 112, 4, 0, 0),
  (121, .istore 9, 0, 0, 0, 0),
  (123, .iload 9, 0, 0, 0, 0),
  (125, .iload 5, 0, 0, 0, 0),
  (127, .if_icmp .le (18), 145, 0, 0, 0),
  (130, .iload 9, 0, 0, 0, 0),
  (132, .istore 5, 0, 0, 0, 0),
  (134, .aload_n 0, 0, 0, 0, 0),
  (135, .iload_n 2, 0, 0, 0, 0),
  (136, .iload 7, 0, 0, 0, 0),
  (138, .isub, 0, 0, 0, 0),
  (139, .putfield 50, 9, 2, 0, 0),
  (142, .iconst (1), 0, 0, 0, 1),
  (143, .istore 6, 0, 0, 0, 0),
  (145, .aload_n 0, 0, 0, 0, 0),
  (146, .getfield 15, 9, 1, 3, 0),
  (149, .iload 7, 0, 0, 0, 0),
  (151, .iaload, 0, 0, 0, 0),
  (152, .istore 7, 0, 0, 0, 0),
  (154, .iinc 8 (1), 0, 0, 0, 1),
  (157, .goto (-100), 57, 0, 0, 0),
  (160, .iload 6, 0, 0, 0, 0),
  (162, .ifCond .eq (8), 170, 0, 0, 0),
  (165, .iload 5, 0, 0, 0, 0),
  (167, .goto (4), 171, 0, 0, 0),
  (170, .iconst (0), 0, 0, 0, 0),
  (171, .ireturn, 0, 0, 0, 0)]
/-- PackDesk$Matcher.sameBytes([IIII)I -/
def cz_112 : List ez_C := [(0, .iconst (0), 0, 0, 0, 0),
  (1, .istore 4, 0, 0, 0, 0),
  (3, .iload 4, 0, 0, 0, 0),
  (5, .iload_n 3, 0, 0, 0, 0),
  (6, .if_icmp .ge (24), 30, 0, 0, 0),
  (9, .aload_n 0, 0, 0, 0, 0),
  (10, .iload_n 1, 0, 0, 0, 0),
  (11, .iload 4, 0, 0, 0, 0),
  (13, .iadd, 0, 0, 0, 0),
  (14, .iaload, 0, 0, 0, 0),
  (15, .aload_n 0, 0, 0, 0, 0),
  (16, .iload_n 2, 0, 0, 0, 0),
  (17, .iload 4, 0, 0, 0, 0),
  (19, .iadd, 0, 0, 0, 0),
  (20, .iaload, 0, 0, 0, 0),
  (21, .if_icmp .ne (9), 30, 0, 0, 0),
  (24, .iinc 4 (1), 0, 0, 0, 1),
  (27, .goto (-24), 3, 0, 0, 0),
  (30, .iload 4, 0, 0, 0, 0),
  (32, .ireturn, 0, 0, 0, 0)]
/-- PackDesk$Matcher.spotOf([II)I -/
def cz_113 : List ez_C := [(0, .iload_n 1, 0, 0, 0, 0),
  (1, .ifCond .lt (11), 12, 0, 0, 0),
  (4, .iload_n 1, 0, 0, 0, 0),
  (5, .iconst (3), 0, 0, 0, 3),
  (6, .iadd, 0, 0, 0, 0),
  (7, .aload_n 0, 0, 0, 0, 0),
  (8, .arraylength, 0, 0, 0, 0),
  (9, .if_icmp .le (5), 14, 0, 0, 0),
  (12, .iconst (0), 0, 0, 0, 0),
  (13, .ireturn, 0, 0, 0, 0),
  (14, .aload_n 0, 0, 0, 0, 0),
  (15, .iload_n 1, 0, 0, 0, 0),
  (16, .iaload, 0, 0, 0, 0),
  (17, .aload_n 0, 0, 0, 0, 0),
  (18, .iload_n 1, 0, 0, 0, 0),
  (19, .iconst (1), 0, 0, 0, 1),
  (20, .iadd, 0, 0, 0, 0),
  (21, .iaload, 0, 0, 0, 0),
  (22, .bipush (8), 0, 0, 0, 8),
  (24, .ishl, 0, 0, 0, 0),
  (25, .ior, 0, 0, 0, 0),
  (26, .aload_n 0, 0, 0, 0, 0),
  (27, .iload_n 1, 0, 0, 0, 0),
  (28, .iconst (2), 0, 0, 0, 2),
  (29, .iadd, 0, 0, 0, 0),
  (30, .iaload, 0, 0, 0, 0),
  (31, .bipush (16), 0, 0, 0, 16),
  (33, .ishl, 0, 0, 0, 0),
  (34, .ior, 0, 0, 0, 0),
  (35, .istore_n 2, 0, 0, 0, 0),
  (36, .iload_n 2, 0, 0, 0, 0),
  (37, .ldc 53, 0, 0, 0, (-1640531535)),
  (39, .imul, 0, 0, 0, 0),
  (40, .bipush (20), 0, 0, 0, 20),
  (42, .iushr, 0, 0, 0, 0),
  (43, .ireturn, 0, 0, 0, 0)]
/-- PackDesk$Packer.<init>(LPackDesk$CodeSet;LPackDesk$Row;LPackDesk$LengthMaker;)V -/
def cz_114 : List ez_C := [(0, .aload_n 0, 0, 0, 0, 0),
  (1, .invokespecial 3, 0, 1, 0, 0),
  (4, .aload_n 0, 0, 0, 0, 0),
  (5, .new 9, 11, 2, 0, 0),
  (8, .dup, 0, 0, 0, 0),
  (9, .invokespecial 11, 123, 1, 11, 0),
  (12, .putfield 12, 10, 1, 3, 0),
  (15, .aload_n 0, 0, 0, 0, 0),
  (16, .new 18, 4, 3, 0, 0),
  (19, .dup, 0, 0, 0, 0),
  (20, .invokespecial 20, 74, 1, 4, 0),
  (23, .putfield 21, 10, 2, 3, 0),
  (26, .aload_n 0, 0, 0, 0, 0),
  (27, .new 25, 9, 3, 0, 0),
  (30, .dup, 0, 0, 0, 0),
  (31, .invokespecial 27, 109, 1, 9, 0),
  (34, .putfield 28, 10, 6, 3, 0),
  (37, .aload_n 0, 0, 0, 0, 0),
  (38, .new 32, 6, 8, 0, 0),
  (41, .dup, 0, 0, 0, 0),
  (42, .invokespecial 34, 89, 1, 6, 0),
  (45, .putfield 35, 10, 7, 3, 0),
  (48, .aload_n 0, 0, 0, 0, 0),
  (49, .sipush (286), 0, 0, 0, 286),
  (52, .newarray .int, 1000, 0, 0, 0),
  (54, .putfield 39, 10, 8, 3, 0),
  (57, .aload_n 0, 0, 0, 0, 0),
  (58, .bipush (30), 0, 0, 0, 30),
  (60, .newarray .int, 1000, 0, 0, 0),
  (62, .putfield 43, 10, 9, 3, 0),
  (65, .aload_n 0, 0, 0, 0, 0),
  (66, .aload_n 1, 0, 0, 0, 0),
  (67, .putfield 46, 10, 3, 3, 0),
  (70, .aload_n 0, 0, 0, 0, 0),
  (71, .aload_n 2, 0, 0, 0, 0),
  (72, .putfield 50, 10, 0, 3, 0),
  (75, .aload_n 0, 0, 0, 0, 0),
  (76, .aload_n 3, 0, 0, 0, 0),
  (77, .putfield 54, 10, 4, 3, 0),
  (80, .aload_n 0, 0, 0, 0, 0),
  (81, .new 58, 3, 3, 0, 0),
  (84, .dup, 0, 0, 0, 0),
  (85, .aload_n 2, 0, 0, 0, 0),
  (86, .invokespecial 60, 68, 2, 3, 0),
  (89, .putfield 63, 10, 5, 3, 0),
  (92, .return_, 0, 0, 0, 0)]
/-- PackDesk$Packer.run(LPackDesk$Row;)V -/
def cz_115 : List ez_C := [(0, .aload_n 0, 0, 0, 0, 0),
  (1, .aload_n 1, 0, 0, 0, 0),
  (2, .invokevirtual 67, 116, 2, 10, 0),
  (5, .aload_n 0, 0, 0, 0, 0),
  (6, .getfield 63, 10, 5, 3, 0),
  (9, .invokevirtual 70, 69, 1, 3, 0),
  (12, .aload_n 0, 0, 0, 0, 0),
  (13, .getfield 21, 10, 2, 3, 0),
  (16, .aload_n 0, 0, 0, 0, 0),
  (17, .getfield 12, 10, 1, 3, 0),
  (20, .getfield 73, 11, 1, 0, 0),
  (23, .invokevirtual 77, 75, 2, 4, 0),
  (26, .iconst (0), 0, 0, 0, 0),
  (27, .istore_n 2, 0, 0, 0, 0),
  (28, .iconst (0), 0, 0, 0, 0),
  (29, .istore_n 3, 0, 0, 0, 0),
  (30, .iload_n 3, 0, 0, 0, 0),
  (31, .aload_n 0, 0, 0, 0, 0),
  (32, .getfield 21, 10, 2, 3, 0),
  (35, .getfield 80, 4, 2, 0, 0),
  (38, .if_icmp .ge (105), 143, 0, 0, 0),
  (41, .iload_n 3, 0, 0, 0, 0),
  (42, .sipush (600), 0, 0, 0, 600),
  (45, .imul, 0, 0, 0, 0),
  (46, .istore 4, 0, 0, 0, 0),
  (48, .iload 4, 0, 0, 0, 0),
  (50, .sipush (600), 0, 0, 0, 600),
  (53, .iadd, 0, 0, 0, 0),
  (54, .aload_n 0, 0, 0, 0, 0),
  (55, .getfield 12, 10, 1, 3, 0),
  (58, .getfield 73, 11, 1, 0, 0),
  (61, .invokestatic 81, 0, 2, 2, 0),
  (64, .istore 5, 0, 0, 0, 0),
  (66, .aload_n 0, 0, 0, 0, 0),
  (67, .iload 4, 0, 0, 0, 0),
  (69, .iload 5, 0, 0, 0, 0),
  (71, .invokevirtual 87, 117, 3, 10, 0),
  (74, .aload_n 0, 0, 0, 0, 0),
  (75, .getfield 21, 10, 2, 3, 0),
  (78, .iload_n 3, 0, 0, 0, 0),
  (79, .iconst (1), 0, 0, 0, 1),
  (80, .iload 5, 0, 0, 0, 0),
  (82, .iload 4, 0, 0, 0, 0),
  (84, .isub, 0, 0, 0, 0),
  (85, .invokevirtual 91, 76, 4, 4, 0),
  (88, .aload_n 0, 0, 0, 0, 0),
  (89, .iload_n 3, 0, 0, 0, 0),
  (90, .invokevirtual 95, 119, 2, 10, 0),
  (93, .aload_n 0, 0, 0, 0, 0),
  (94, .getfield 63, 10, 5, 3, 0),
  (97, .iload_n 3, 0, 0, 0, 0),
  (98, .aload_n 0, 0, 0, 0, 0),
  (99, .getfield 21, 10, 2, 3, 0),
  (102, .getfield 80, 4, 2, 0, 0),
  (105, .iconst (1), 0, 0, 0, 1),
  (106, .isub, 0, 0, 0, 0),
  (107, .if_icmp .ne (7), 114, 0, 0, 0),
  (110, .iconst (1), 0, 0, 0, 1),
  (111, .goto (4), 115, 0, 0, 0),
  (114, .iconst (0), 0, 0, 0, 0),
  (115, .iconst (1), 0, 0, 0, 1),
  (116, .invokevirtual 98, 71, 3, 3, 0),
  (119, .aload_n 0, 0, 0, 0, 0),
  (120, .iload_n 3, 0, 0, 0, 0),
  (121, .iload 4, 0, 0, 0, 0),
  (123, .iload 5, 0, 0, 0, 0),
  (125, .aload_n 1, 0, 0, 0, 0),
  (126, .iload_n 2, 0, 0, 0, 0),
  (127, .invokevirtual 101, 120, 6, 10, 0),
  (130, .iload_n 2, 0, 0, 0, 0),
  (131, .aload_n 0, 0, 0, 0, 0),
  (132, .getfield 105, 10, 11, 0, 0),
  (135, .iadd, 0, 0, 0, 0),
  (136, .istore_n 2, 0, 0, 0, 0),
  (137, .iinc 3 (1), 0, 0, 0, 1),
  (140, .goto (-110), 30, 0, 0, 0),
  (143, .aload_n 0, 0, 0, 0, 0),
  (144, .getfield 63, 10, 5, 3, 0),
  (147, .invokevirtual 108, 72, 1, 3, 0),
  (150, .return_, 0, 0, 0, 0)]
/-- PackDesk$Packer.split(LPackDesk$Row;)V -/
def cz_116 : List ez_C := [(0, .aload_n 0, 0, 0, 0, 0),
  (1, .getfield 28, 10, 6, 3, 0),
  (4, .aload_n 1, 0, 0, 0, 0),
  (5, .invokevirtual 111, 110, 2, 9, 0),
  (8, .aload_n 0, 0, 0, 0, 0),
  (9, .getfield 12, 10, 1, 3, 0),
  (12, .iconst (0), 0, 0, 0, 0),
  (13, .putfield 73, 11, 1, 0, 0),
  (16, .iconst (0), 0, 0, 0, 0),
  (17, .istore_n 2, 0, 0, 0, 0),
  (18, .aload_n 0, 0, 0, 0, 0),
  (19, .getfield 28, 10, 6, 3, 0),
  (22, .aload_n 1, 0, 0, 0, 0),
  (23, .iconst (0), 0, 0, 0, 0),
  (24, .iconst (0), 0, 0, 0, 0),
  (25, .invokevirtual 114, 111, 4, 9, 0),
  (28, .istore_n 3, 0, 0, 0, 0),
  (29, .aload_n 0, 0, 0, 0, 0),
  (30, .getfield 28, 10, 6, 3, 0),
  (33, .getfield 118, 9, 2, 0, 0),
  (36, .istore 4, 0, 0, 0, 0),
  (38, .iconst (0), 0, 0, 0, 0),
  (39, .istore 5, 0, 0, 0, 0),
  (41, .iload 5, 0, 0, 0, 0),
  (43, .aload_n 1, 0, 0, 0, 0),
  (44, .getfield 121, 12, 1, 0, 0),
  (47, .if_icmp .ge (97), 144, 0, 0, 0),
  (50, .iload_n 2, 0, 0, 0, 0),
  (51, .aload_n 1, 0, 0, 0, 0),
  (52, .getfield 121, 12, 1, 0, 0),
  (55, .if_icmp .ge (89), 144, 0, 0, 0),
  (58, .aload_n 0, 0, 0, 0, 0),
  (59, .getfield 28, 10, 6, 3, 0),
  (62, .aload_n 1, 0, 0, 0, 0),
  (63, .iload_n 2, 0, 0, 0, 0),
  (64, .iconst (1), 0, 0, 0, 1),
  (65, .iadd, 0, 0, 0, 0),
  (66, .iload_n 3, 0, 0, 0, 0),
  (67, .invokevirtual 114, 111, 4, 9, 0),
  (70, .istore 6, 0, 0, 0, 0),
  (72, .iload_n 3, 0, 0, 0, 0),
  (73, .ifCond .eq (8), 81, 0, 0, 0),
  (76, .iload 6, 0, 0, 0, 0),
  (78, .ifCond .le (26), 104, 0, 0, 0),
  (81, .aload_n 0, 0, 0, 0, 0),
  (82, .getfield 12, 10, 1, 3, 0),
  (85, .aload_n 1, 0, 0, 0, 0),
  (86, .getfield 126, 12, 0, 3, 0),
  (89, .iload_n 2, 0, 0, 0, 0),
  (90, .iaload, 0, 0, 0, 0),
  (91, .iconst (0), 0, 0, 0, 0),
  (92, .invokevirtual 129, 125, 3, 11, 0),
  (95, .iinc 2 (1), 0, 0, 0, 1),
  (98, .iload 6, 0, 0, 0, 0),
  (100, .istore_n 3, 0, 0, 0, 0),
  (101, .goto (28), 129, 0, 0, 0),
  (104, .aload_n 0, 0, 0, 0, 0),
  (105, .getfield 12, 10, 1, 3, 0),
  (108, .iload_n 3, 0, 0, 0, 0),
  (109, .iload 4, 0, 0, 0, 0),
  (111, .invokevirtual 129, 125, 3, 11, 0),
  (114, .iload_n 2, 0, 0, 0, 0),
  (115, .iload_n 3, 0, 0, 0, 0),
  (116, .iadd, 0, 0, 0, 0),
  (117, .istore_n 2, 0, 0, 0, 0),
  (118, .aload_n 0, 0, 0, 0, 0),
  (119, .getfield 28, 10, 6, 3, 0),
  (122, .aload_n 1, 0, 0, 0, 0),
  (123, .iload_n 2, 0, 0, 0, 0),
  (124, .iconst (0), 0, 0, 0, 0),
  (125, .invokevirtual 114, 111, 4, 9, 0),
  (128, .istore_n 3, 0, 0, 0, 0),
  (129, .aload_n 0, 0, 0, 0, 0),
  (130, .getfield 28, 10, 6, 3, 0),
  (133, .getfield 118, 9, 2, 0, 0),
  (136, .istore 4, 0, 0, 0, 0),
  (138, .iinc 5 (1), 0, 0, 0, 1),
  (141, .goto (-100), 41, 0, 0, 0),
  (144, .return_, 0, 0, 0, 0)]
/-- PackDesk$Packer.countBlock(II)V -/
def cz_117 : List ez_C := [(0, .aload_n 0, 0, 0, 0, 0),
  (1, .getfield 39, 10, 8, 3, 0),
  (4, .iconst (0), 0, 0, 0, 0),
  (5, .invokestatic 132, 149, 2, 0, 0),
  (8, .aload_n 0, 0, 0, 0, 0),
  (9, .getfield 43, 10, 9, 3, 0),
  (12, .iconst (0), 0, 0, 0, 0),
  (13, .invokestatic 132, 149, 2, 0, 0),
  (16, .aload_n 0, 0, 0, 0, 0),
  (17, .getfield 39, 10, 8, 3, 0),
  (20, .sipush (256), 0, 0, 0, 256),
  (23, .iconst (1), 0, 0, 0, 1),
  (24, .iastore, 0, 0, 0, 0),
  (25, .aload_n 0, 0, 0, 0, 0),
  (26, .iconst (0), 0, 0, 0, 0),
  (27, .putfield 138, 10, 10, 0, 0),
  (30, .aload_n 0, 0, 0, 0, 0),
  (31, .iconst (0), 0, 0, 0, 0),
  (32, .putfield 105, 10, 11, 0, 0),
  (35, .iload_n 1, 0, 0, 0, 0),
  (36, .istore_n 3, 0, 0, 0, 0),
  (37, .iload_n 3, 0, 0, 0, 0),
  (38, .iload_n 2, 0, 0, 0, 0),
  (39, .if_icmp .ge (29), 68, 0, 0, 0),
  (42, .aload_n 0, 0, 0, 0, 0),
  (43, .aload_n 0, 0, 0, 0, 0),
  (44, .getfield 12, 10, 1, 3, 0),
  (47, .iload_n 3, 0, 0, 0, 0),
  (48, .invokevirtual 141, 126, 2, 11, 0),
  (51, .aload_n 0, 0, 0, 0, 0),
  (52, .getfield 12, 10, 1, 3, 0),
  (55, .iload_n 3, 0, 0, 0, 0),
  (56, .invokevirtual 145, 127, 2, 11, 0),
  (59, .invokevirtual 147, 118, 3, 10, 0),
  (62, .iinc 3 (1), 0, 0, 0, 1),
  (65, .goto (-28), 37, 0, 0, 0),
  (68, .return_, 0, 0, 0, 0)]
/-- PackDesk$Packer.countPart(II)V -/
def cz_118 : List ez_C := [(0, .iload_n 2, 0, 0, 0, 0),
  (1, .ifCond .le (79), 80, 0, 0, 0),
  (4, .getstatic 150, 2, 0, 0, 0),
  (7, .iload_n 1, 0, 0, 0, 0),
  (8, .invokestatic 153, 23, 2, 0, 0),
  (11, .istore_n 3, 0, 0, 0, 0),
  (12, .getstatic 157, 3, 0, 0, 0),
  (15, .iload_n 2, 0, 0, 0, 0),
  (16, .invokestatic 153, 23, 2, 0, 0),
  (19, .istore 4, 0, 0, 0, 0),
  (21, .aload_n 0, 0, 0, 0, 0),
  (22, .getfield 39, 10, 8, 3, 0),
  (25, .sipush (257), 0, 0, 0, 257),
  (28, .iload_n 3, 0, 0, 0, 0),
  (29, .iadd, 0, 0, 0, 0),
  (30, .dup2, 0, 0, 0, 0),
  (31, .iaload, 0, 0, 0, 0),
  (32, .iconst (1), 0, 0, 0, 1),
  (33, .iadd, 0, 0, 0, 0),
  (34, .iastore, 0, 0, 0, 0),
  (35, .aload_n 0, 0, 0, 0, 0),
  (36, .getfield 43, 10, 9, 3, 0),
  (39, .iload 4, 0, 0, 0, 0),
  (41, .dup2, 0, 0, 0, 0),
  (42, .iaload, 0, 0, 0, 0),
  (43, .iconst (1), 0, 0, 0, 1),
  (44, .iadd, 0, 0, 0, 0),
  (45, .iastore, 0, 0, 0, 0),
  (46, .aload_n 0, 0, 0, 0, 0),
  (47, .dup, 0, 0, 0, 0),
  (48, .getfield 138, 10, 10, 0, 0),
  (51, .getstatic 160, 4, 0, 0, 0),
  (54, .iload_n 3, 0, 0, 0, 0),
  (55, .iaload, 0, 0, 0, 0),
  (56, .getstatic 163, 5, 0, 0, 0),
  (59, .iload 4, 0, 0, 0, 0),
  (61, .iaload, 0, 0, 0, 0),
  (62, .iadd, 0, 0, 0, 0),
  (63, .iadd, 0, 0, 0, 0),
  (64, .putfield 138, 10, 10, 0, 0),
  (67, .aload_n 0, 0, 0, 0, 0),
  (68, .dup, 0, 0, 0, 0),
  (69, .getfield 105, 10, 11, 0, 0),
  (72, .iload_n 1, 0, 0, 0, 0),
  (73, .iadd, 0, 0, 0, 0),
  (74, .putfield 105, 10, 11, 0, 0),
  (77, .goto (34), 111, 0, 0, 0),
  (80, .iload_n 1, 0, 0, 0, 0),
  (81, .ifCond .lt (30), 111, 0, 0, 0),
  (84, .iload_n 1, 0, 0, 0, 0),
  (85, .sipush (256), 0, 0, 0, 256),
  (88, .if_icmp .ge (23), 111, 0, 0, 0),
  (91, .aload_n 0, 0, 0, 0, 0),
  (92, .getfield 39, 10, 8, 3, 0),
  (95, .iload_n 1, 0, 0, 0, 0),
  (96, .dup2, 0, 0, 0, 0),
  (97, .iaload, 0, 0, 0, 0),
  (98, .iconst (1), 0, 0, 0, 1),
  (99, .iadd, 0, 0, 0, 0),
  (100, .iastore, 0, 0, 0, 0),
  (101, .aload_n 0, 0, 0, 0, 0),
  (102, .dup, 0, 0, 0, 0),
  (103, .getfield 105, 10, 11, 0, 0),
  (106, .iconst (1), 0, 0, 0, 1),
  (107, .iadd, 0, 0, 0, 0),
  (108, .putfield 105, 10, 11, 0, 0),
  (111, .return_, 0, 0, 0, 0)]
/-- PackDesk$Packer.weighWays(I)V -/
def cz_119 : List ez_C := [(0, .aload_n 0, 0, 0, 0, 0),
  (1, .getfield 54, 10, 4, 3, 0),
  (4, .aload_n 0, 0, 0, 0, 0),
  (5, .getfield 39, 10, 8, 3, 0),
  (8, .sipush (286), 0, 0, 0, 286),
  (11, .bipush (15), 0, 0, 0, 15),
  (13, .aload_n 0, 0, 0, 0, 0),
  (14, .getfield 46, 10, 3, 3, 0),
  (17, .getfield 166, 7, 2, 3, 0),
  (20, .getfield 172, 5, 0, 3, 0),
  (23, .invokevirtual 177, 102, 5, 8, 0),
  (26, .aload_n 0, 0, 0, 0, 0),
  (27, .getfield 54, 10, 4, 3, 0),
  (30, .aload_n 0, 0, 0, 0, 0),
  (31, .getfield 43, 10, 9, 3, 0),
  (34, .bipush (30), 0, 0, 0, 30),
  (36, .bipush (15), 0, 0, 0, 15),
  (38, .aload_n 0, 0, 0, 0, 0),
  (39, .getfield 46, 10, 3, 3, 0),
  (42, .getfield 183, 7, 3, 3, 0),
  (45, .getfield 172, 5, 0, 3, 0),
  (48, .invokevirtual 177, 102, 5, 8, 0),
  (51, .aload_n 0, 0, 0, 0, 0),
  (52, .getfield 43, 10, 9, 3, 0),
  (55, .aload_n 0, 0, 0, 0, 0),
  (56, .getfield 46, 10, 3, 3, 0),
  (59, .getfield 183, 7, 3, 3, 0),
  (62, .getfield 172, 5, 0, 3, 0),
  (65, .bipush (30), 0, 0, 0, 30),
  (67, .invokestatic 186, 22, 3, 0, 0),
  (70, .istore_n 2, 0, 0, 0, 0),
  (71, .iload_n 2, 0, 0, 0, 0),
  (72, .ifCond .ne (16), 88, 0, 0, 0),
  (75, .aload_n 0, 0, 0, 0, 0),
  (76, .getfield 46, 10, 3, 3, 0),
  (79, .getfield 183, 7, 3, 3, 0),
  (82, .getfield 172, 5, 0, 3, 0),
  (85, .iconst (0), 0, 0, 0, 0),
  (86, .iconst (1), 0, 0, 0, 1),
  (87, .iastore, 0, 0, 0, 0),
  (88, .aload_n 0, 0, 0, 0, 0),
  (89, .getfield 35, 10, 7, 3, 0),
  (92, .aload_n 0, 0, 0, 0, 0),
  (93, .getfield 46, 10, 3, 3, 0),
  (96, .aload_n 0, 0, 0, 0, 0),
  (97, .getfield 54, 10, 4, 3, 0),
  (100, .invokevirtual 190, 90, 3, 6, 0),
  (103, .istore_n 3, 0, 0, 0, 0),
  (104, .iconst (3), 0, 0, 0, 3),
  (105, .iload_n 3, 0, 0, 0, 0),
  (106, .iadd, 0, 0, 0, 0),
  (107, .aload_n 0, 0, 0, 0, 0),
  (108, .getfield 138, 10, 10, 0, 0),
  (111, .iadd, 0, 0, 0, 0),
  (112, .iload_n 2, 0, 0, 0, 0),
  (113, .iadd, 0, 0, 0, 0),
  (114, .aload_n 0, 0, 0, 0, 0),
  (115, .getfield 39, 10, 8, 3, 0),
  (118, .aload_n 0, 0, 0, 0, 0),
  (119, .getfield 46, 10, 3, 3, 0),
  (122, .getfield 166, 7, 2, 3, 0),
  (125, .getfield 172, 5, 0, 3, 0),
  (128, .sipush (286), 0, 0, 0, 286),
  (131, .invokestatic 186, 22, 3, 0, 0),
  (134, .iadd, 0, 0, 0, 0),
  (135, .istore 4, 0, 0, 0, 0),
  (137, .iconst (3), 0, 0, 0, 3),
  (138, .aload_n 0, 0, 0, 0, 0),
  (139, .getfield 138, 10, 10, 0, 0),
  (142, .iadd, 0, 0, 0, 0),
  (143, .aload_n 0, 0, 0, 0, 0),
  (144, .getfield 39, 10, 8, 3, 0),
  (147, .aload_n 0, 0, 0, 0, 0),
  (148, .getfield 46, 10, 3, 3, 0),
  (151, .getfield 194, 7, 0, 3, 0),
  (154, .getfield 172, 5, 0, 3, 0),
  (157, .sipush (286), 0, 0, 0, 286),
  (160, .invokestatic 186, 22, 3, 0, 0),
  (163, .iadd, 0, 0, 0, 0),
  (164, .aload_n 0, 0, 0, 0, 0),
  (165, .getfield 43, 10, 9, 3, 0),
  (168, .aload_n 0, 0, 0, 0, 0),
  (169, .getfield 46, 10, 3, 3, 0),
  (172, .getfield 197, 7, 1, 3, 0),
  (175, .getfield 172, 5, 0, 3, 0),
  (178, .bipush (30), 0, 0, 0, 30),
  (180, .invokestatic 186, 22, 3, 0, 0),
  (183, .iadd, 0, 0, 0, 0),
  (184, .istore 5, 0, 0, 0, 0),
  (186, .iconst (3), 0, 0, 0, 3),
  (187, .aload_n 0, 0, 0, 0, 0),
  (188, .getfield 63, 10, 5, 3, 0),
  (191, .iconst (3), 0, 0, 0, 3),
  (192, .invokevirtual 200, 70, 2, 3, 0),
  (195, .iadd, 0, 0, 0, 0),
  (196, .bipush (32), 0, 0, 0, 32),
  (198, .iadd, 0, 0, 0, 0),
  (199, .bipush (8), 0, 0, 0, 8),
  (201, .aload_n 0, 0, 0, 0, 0),
  (202, .getfield 105, 10, 11, 0, 0),
  (205, .imul, 0, 0, 0, 0),
  (206, .iadd, 0, 0, 0, 0),
  (207, .istore 6, 0, 0, 0, 0),
  (209, .iload 6, 0, 0, 0, 0),
  (211, .iload 5, 0, 0, 0, 0),
  (213, .iload 4, 0, 0, 0, 0),
  (215, .invokestatic 81, 0, 2, 2, 0),
  (218, .invokestatic 81, 0, 2, 2, 0),
  (221, .istore 7, 0, 0, 0, 0),
  (223, .aload_n 0, 0, 0, 0, 0),
  (224, .getfield 21, 10, 2, 3, 0),
  (227, .iload_n 1, 0, 0, 0, 0),
  (228, .iconst (0), 0, 0, 0, 0),
  (229, .iload 7, 0, 0, 0, 0),
  (231, .iload 6, 0, 0, 0, 0),
  (233, .if_icmp .ne (7), 240, 0, 0, 0),
  (236, .iconst (0), 0, 0, 0, 0),
  (237, .goto (15), 252, 0, 0, 0),
  (240, .iload 7, 0, 0, 0, 0),
  (242, .iload 5, 0, 0, 0, 0),
  (244, .if_icmp .ne (7), 251, 0, 0, 0),
  (247, .iconst (1), 0, 0, 0, 1),
  (248, .goto (4), 252, 0, 0, 0),
  (251, .iconst (2), 0, 0, 0, 2),
  (252, .invokevirtual 91, 76, 4, 4, 0),
  (255, .aload_n 0, 0, 0, 0, 0),
  (256, .getfield 21, 10, 2, 3, 0),
  (259, .iload_n 1, 0, 0, 0, 0),
  (260, .iconst (2), 0, 0, 0, 2),
  (261, .aload_n 0, 0, 0, 0, 0),
  (262, .getfield 105, 10, 11, 0, 0),
  (265, .invokevirtual 91, 76, 4, 4, 0),
  (268, .aload_n 0, 0, 0, 0, 0),
  (269, .getfield 21, 10, 2, 3, 0),
  (272, .iload_n 1, 0, 0, 0, 0),
  (273, .iconst (3), 0, 0, 0, 3),
  (274, .iload 7, 0, 0, 0, 0),
  (276, .invokevirtual 91, 76, 4, 4, 0),
  (279, .aload_n 0, 0, 0, 0, 0),
  (280, .getfield 21, 10, 2, 3, 0),
  (283, .iload_n 1, 0, 0, 0, 0),
  (284, .iconst (4), 0, 0, 0, 4),
  (285, .iload 5, 0, 0, 0, 0),
  (287, .invokevirtual 91, 76, 4, 4, 0),
  (290, .aload_n 0, 0, 0, 0, 0),
  (291, .getfield 21, 10, 2, 3, 0),
  (294, .iload_n 1, 0, 0, 0, 0),
  (295, .iconst (5), 0, 0, 0, 5),
  (296, .iload 4, 0, 0, 0, 0),
  (298, .invokevirtual 91, 76, 4, 4, 0),
  (301, .return_, 0, 0, 0, 0)]
/-- PackDesk$Packer.writeBlock(IIILPackDesk$Row;I)V -/
def cz_120 : List ez_C := [(0, .aload_n 0, 0, 0, 0, 0),
  (1, .getfield 21, 10, 2, 3, 0),
  (4, .iload_n 1, 0, 0, 0, 0),
  (5, .iconst (0), 0, 0, 0, 0),
  (6, .invokevirtual 203, 77, 3, 4, 0),
  (9, .istore 6, 0, 0, 0, 0),
  (11, .aload_n 0, 0, 0, 0, 0),
  (12, .getfield 63, 10, 5, 3, 0),
  (15, .iload 6, 0, 0, 0, 0),
  (17, .iconst (2), 0, 0, 0, 2),
  (18, .invokevirtual 98, 71, 3, 3, 0),
  (21, .iload 6, 0, 0, 0, 0),
  (23, .ifCond .ne (14), 37, 0, 0, 0),
  (26, .aload_n 0, 0, 0, 0, 0),
  (27, .aload 4, 0, 0, 0, 0),
  (29, .iload 5, 0, 0, 0, 0),
  (31, .invokevirtual 206, 121, 3, 10, 0),
  (34, .goto (102), 136, 0, 0, 0),
  (37, .iload 6, 0, 0, 0, 0),
  (39, .iconst (1), 0, 0, 0, 1),
  (40, .if_icmp .ne (26), 66, 0, 0, 0),
  (43, .aload_n 0, 0, 0, 0, 0),
  (44, .iload_n 2, 0, 0, 0, 0),
  (45, .iload_n 3, 0, 0, 0, 0),
  (46, .aload_n 0, 0, 0, 0, 0),
  (47, .getfield 46, 10, 3, 3, 0),
  (50, .getfield 194, 7, 0, 3, 0),
  (53, .aload_n 0, 0, 0, 0, 0),
  (54, .getfield 46, 10, 3, 3, 0),
  (57, .getfield 197, 7, 1, 3, 0),
  (60, .invokevirtual 210, 122, 5, 10, 0),
  (63, .goto (73), 136, 0, 0, 0),
  (66, .aload_n 0, 0, 0, 0, 0),
  (67, .getfield 21, 10, 2, 3, 0),
  (70, .iload_n 1, 0, 0, 0, 0),
  (71, .aload_n 0, 0, 0, 0, 0),
  (72, .getfield 46, 10, 3, 3, 0),
  (75, .invokevirtual 214, 78, 3, 4, 0),
  (78, .aload_n 0, 0, 0, 0, 0),
  (79, .getfield 46, 10, 3, 3, 0),
  (82, .getfield 166, 7, 2, 3, 0),
  (85, .invokevirtual 218, 83, 1, 5, 0),
  (88, .aload_n 0, 0, 0, 0, 0),
  (89, .getfield 46, 10, 3, 3, 0),
  (92, .getfield 183, 7, 3, 3, 0),
  (95, .invokevirtual 218, 83, 1, 5, 0),
  (98, .aload_n 0, 0, 0, 0, 0),
  (99, .getfield 35, 10, 7, 3, 0),
  (102, .aload_n 0, 0, 0, 0, 0),
  (103, .getfield 46, 10, 3, 3, 0),
  (106, .getfield 221, 7, 4, 3, 0),
  (109, .aload_n 0, 0, 0, 0, 0),
  (110, .getfield 63, 10, 5, 3, 0),
  (113, .invokevirtual 224, 91, 3, 6, 0),
  (116, .aload_n 0, 0, 0, 0, 0),
  (117, .iload_n 2, 0, 0, 0, 0),
  (118, .iload_n 3, 0, 0, 0, 0),
  (119, .aload_n 0, 0, 0, 0, 0),
  (120, .getfield 46, 10, 3, 3, 0),
  (123, .getfield 166, 7, 2, 3, 0),
  (126, .aload_n 0, 0, 0, 0, 0),
  (127, .getfield 46, 10, 3, 3, 0),
  (130, .getfield 183, 7, 3, 3, 0),
  (133, .invokevirtual 210, 122, 5, 10, 0),
  (136, .return_, 0, 0, 0, 0)]
/-- PackDesk$Packer.writeStored(LPackDesk$Row;I)V -/
def cz_121 : List ez_C := [(0, .aload_n 0, 0, 0, 0, 0),
  (1, .getfield 63, 10, 5, 3, 0),
  (4, .invokevirtual 108, 72, 1, 3, 0),
  (7, .aload_n 0, 0, 0, 0, 0),
  (8, .getfield 63, 10, 5, 3, 0),
  (11, .aload_n 0, 0, 0, 0, 0),
  (12, .getfield 105, 10, 11, 0, 0),
  (15, .bipush (16), 0, 0, 0, 16),
  (17, .invokevirtual 98, 71, 3, 3, 0),
  (20, .aload_n 0, 0, 0, 0, 0),
  (21, .getfield 63, 10, 5, 3, 0),
  (24, .aload_n 0, 0, 0, 0, 0),
  (25, .getfield 105, 10, 11, 0, 0),
  (28, .iconst (-1), 0, 0, 0, (-1)),
  (29, .ixor, 0, 0, 0, 0),
  (30, .ldc 228, 0, 0, 0, 65535),
  (32, .iand, 0, 0, 0, 0),
  (33, .bipush (16), 0, 0, 0, 16),
  (35, .invokevirtual 98, 71, 3, 3, 0),
  (38, .iload_n 2, 0, 0, 0, 0),
  (39, .istore_n 3, 0, 0, 0, 0),
  (40, .iload_n 3, 0, 0, 0, 0),
  (41, .iload_n 2, 0, 0, 0, 0),
  (42, .aload_n 0, 0, 0, 0, 0),
  (43, .getfield 105, 10, 11, 0, 0),
  (46, .iadd, 0, 0, 0, 0),
  (47, .if_icmp .ge (32), 79, 0, 0, 0),
  (50, .aload_n 1, 0, 0, 0, 0),
  (51, .iload_n 3, 0, 0, 0, 0),
  (52, .invokevirtual 229, 129, 2, 12, 0),
  (55, .ifCond .eq (24), 79, 0, 0, 0),
  (58, .aload_n 0, 0, 0, 0, 0),
  (59, .getfield 63, 10, 5, 3, 0),
  (62, .aload_n 1, 0, 0, 0, 0),
  (63, .getfield 126, 12, 0, 3, 0),
  (66, .iload_n 3, 0, 0, 0, 0),
  (67, .iaload, 0, 0, 0, 0),
  (68, .bipush (8), 0, 0, 0, 8),
  (70, .invokevirtual 98, 71, 3, 3, 0),
  (73, .iinc 3 (1), 0, 0, 0, 1),
  (76, .goto (-36), 40, 0, 0, 0),
  (79, .return_, 0, 0, 0, 0)]
/-- PackDesk$Packer.writeParts(IILPackDesk$Code;LPackDesk$Code;)V -/
def cz_122 : List ez_C := [(0, .iload_n 1, 0, 0, 0, 0),
  (1, .istore 5, 0, 0, 0, 0),
  (3, .iload 5, 0, 0, 0, 0),
  (5, .iload_n 2, 0, 0, 0, 0),
  (6, .if_icmp .ge (138), 144, 0, 0, 0),
  (9, .aload_n 0, 0, 0, 0, 0),
  (10, .getfield 12, 10, 1, 3, 0),
  (13, .iload 5, 0, 0, 0, 0),
  (15, .invokevirtual 141, 126, 2, 11, 0),
  (18, .istore 6, 0, 0, 0, 0),
  (20, .aload_n 0, 0, 0, 0, 0),
  (21, .getfield 12, 10, 1, 3, 0),
  (24, .iload 5, 0, 0, 0, 0),
  (26, .invokevirtual 145, 127, 2, 11, 0),
  (29, .istore 7, 0, 0, 0, 0),
  (31, .iload 7, 0, 0, 0, 0),
  (33, .ifCond .le (95), 128, 0, 0, 0),
  (36, .getstatic 150, 2, 0, 0, 0),
  (39, .iload 6, 0, 0, 0, 0),
  (41, .invokestatic 153, 23, 2, 0, 0),
  (44, .istore 8, 0, 0, 0, 0),
  (46, .getstatic 157, 3, 0, 0, 0),
  (49, .iload 7, 0, 0, 0, 0),
  (51, .invokestatic 153, 23, 2, 0, 0),
  (54, .istore 9, 0, 0, 0, 0),
  (56, .aload_n 0, 0, 0, 0, 0),
  (57, .getfield 63, 10, 5, 3, 0),
  (60, .aload_n 3, 0, 0, 0, 0),
  (61, .sipush (257), 0, 0, 0, 257),
  (64, .iload 8, 0, 0, 0, 0),
  (66, .iadd, 0, 0, 0, 0),
  (67, .invokevirtual 233, 73, 3, 3, 0),
  (70, .aload_n 0, 0, 0, 0, 0),
  (71, .getfield 63, 10, 5, 3, 0),
  (74, .iload 6, 0, 0, 0, 0),
  (76, .getstatic 150, 2, 0, 0, 0),
  (79, .iload 8, 0, 0, 0, 0),
  (81, .iaload, 0, 0, 0, 0),
  (82, .isub, 0, 0, 0, 0),
  (83, .getstatic 160, 4, 0, 0, 0),
  (86, .iload 8, 0, 0, 0, 0),
  (88, .iaload, 0, 0, 0, 0),
  (89, .invokevirtual 98, 71, 3, 3, 0),
  (92, .aload_n 0, 0, 0, 0, 0),
  (93, .getfield 63, 10, 5, 3, 0),
  (96, .aload 4, 0, 0, 0, 0),
  (98, .iload 9, 0, 0, 0, 0),
  (100, .invokevirtual 233, 73, 3, 3, 0),
  (103, .aload_n 0, 0, 0, 0, 0),
  (104, .getfield 63, 10, 5, 3, 0),
  (107, .iload 7, 0, 0, 0, 0),
  (109, .getstatic 157, 3, 0, 0, 0),
  (112, .iload 9, 0, 0, 0, 0),
  (114, .iaload, 0, 0, 0, 0),
  (115, .isub, 0, 0, 0, 0),
  (116, .getstatic 163, 5, 0, 0, 0),
  (119, .iload 9, 0, 0, 0, 0),
  (121, .iaload, 0, 0, 0, 0),
  (122, .invokevirtual 98, 71, 3, 3, 0),
  (125, .goto (13), 138, 0, 0, 0),
  (128, .aload_n 0, 0, 0, 0, 0),
  (129, .getfield 63, 10, 5, 3, 0),
  (132, .aload_n 3, 0, 0, 0, 0),
  (133, .iload 6, 0, 0, 0, 0),
  (135, .invokevirtual 233, 73, 3, 3, 0),
  (138, .iinc 5 (1), 0, 0, 0, 1),
  (141, .goto (-138), 3, 0, 0, 0),
  (144, .aload_n 0, 0, 0, 0, 0),
  (145, .getfield 63, 10, 5, 3, 0),
  (148, .aload_n 3, 0, 0, 0, 0),
  (149, .sipush (256), 0, 0, 0, 256),
  (152, .invokevirtual 233, 73, 3, 3, 0),
  (155, .return_, 0, 0, 0, 0)]
/-- PackDesk$PartList.<init>()V -/
def cz_123 : List ez_C := [(0, .aload_n 0, 0, 0, 0, 0),
  (1, .invokespecial 3, 0, 1, 0, 0),
  (4, .aload_n 0, 0, 0, 0, 0),
  (5, .sipush (6000), 0, 0, 0, 6000),
  (8, .newarray .int, 1000, 0, 0, 0),
  (10, .putfield 9, 11, 0, 3, 0),
  (13, .return_, 0, 0, 0, 0)]
/-- PackDesk$PartList.has(I)Z -/
def cz_124 : List ez_C := [(0, .iload_n 1, 0, 0, 0, 0),
  (1, .ifCond .lt (24), 25, 0, 0, 0),
  (4, .iload_n 1, 0, 0, 0, 0),
  (5, .aload_n 0, 0, 0, 0, 0),
  (6, .getfield 15, 11, 1, 0, 0),
  (9, .if_icmp .ge (16), 25, 0, 0, 0),
  (12, .iload_n 1, 0, 0, 0, 0),
  (13, .aload_n 0, 0, 0, 0, 0),
  (14, .getfield 9, 11, 0, 3, 0),
  (17, .arraylength, 0, 0, 0, 0),
  (18, .if_icmp .ge (7), 25, 0, 0, 0),
  (21, .iconst (1), 0, 0, 0, 1),
  (22, .goto (4), 26, 0, 0, 0),
  (25, .iconst (0), 0, 0, 0, 0),
  (26, .ireturn, 1, 0, 0, 0)]
/-- PackDesk$PartList.add(II)V -/
def cz_125 : List ez_C := [(0, .aload_n 0, 0, 0, 0, 0),
  (1, .getfield 15, 11, 1, 0, 0),
  (4, .ifCond .lt (44), 48, 0, 0, 0),
  (7, .aload_n 0, 0, 0, 0, 0),
  (8, .getfield 15, 11, 1, 0, 0),
  (11, .aload_n 0, 0, 0, 0, 0),
  (12, .getfield 9, 11, 0, 3, 0),
  (15, .arraylength, 0, 0, 0, 0),
  (16, .if_icmp .ge (32), 48, 0, 0, 0),
  (19, .aload_n 0, 0, 0, 0, 0),
  (20, .getfield 9, 11, 0, 3, 0),
  (23, .aload_n 0, 0, 0, 0, 0),
  (24, .getfield 15, 11, 1, 0, 0),
  (27, .iload_n 2, 0, 0, 0, 0),
  (28, .bipush (9), 0, 0, 0, 9),
  (30, .ishl, 0, 0, 0, 0),
  (31, .iload_n 1, 0, 0, 0, 0),
  (32, .sipush (511), 0, 0, 0, 511),
  (35, .iand, 0, 0, 0, 0),
  (36, .ior, 0, 0, 0, 0),
  (37, .iastore, 0, 0, 0, 0),
  (38, .aload_n 0, 0, 0, 0, 0),
  (39, .dup, 0, 0, 0, 0),
  (40, .getfield 15, 11, 1, 0, 0),
  (43, .iconst (1), 0, 0, 0, 1),
  (44, .iadd, 0, 0, 0, 0),
  (45, .putfield 15, 11, 1, 0, 0),
  (48, .return_, 0, 0, 0, 0)]
/-- PackDesk$PartList.amount(I)I -/
def cz_126 : List ez_C := [(0, .aload_n 0, 0, 0, 0, 0),
  (1, .iload_n 1, 0, 0, 0, 0),
  (2, .invokevirtual 19, 124, 2, 11, 0),
  (5, .ifCond .eq (16), 21, 0, 0, 0),
  (8, .aload_n 0, 0, 0, 0, 0),
  (9, .getfield 9, 11, 0, 3, 0),
  (12, .iload_n 1, 0, 0, 0, 0),
  (13, .iaload, 0, 0, 0, 0),
  (14, .sipush (511), 0, 0, 0, 511),
  (17, .iand, 0, 0, 0, 0),
  (18, .goto (4), 22, 0, 0, 0),
  (21, .iconst (0), 0, 0, 0, 0),
  (22, .ireturn, 0, 0, 0, 0)]
/-- PackDesk$PartList.distance(I)I -/
def cz_127 : List ez_C := [(0, .aload_n 0, 0, 0, 0, 0),
  (1, .iload_n 1, 0, 0, 0, 0),
  (2, .invokevirtual 19, 124, 2, 11, 0),
  (5, .ifCond .eq (15), 20, 0, 0, 0),
  (8, .aload_n 0, 0, 0, 0, 0),
  (9, .getfield 9, 11, 0, 3, 0),
  (12, .iload_n 1, 0, 0, 0, 0),
  (13, .iaload, 0, 0, 0, 0),
  (14, .bipush (9), 0, 0, 0, 9),
  (16, .ishr, 0, 0, 0, 0),
  (17, .goto (4), 21, 0, 0, 0),
  (20, .iconst (0), 0, 0, 0, 0),
  (21, .ireturn, 0, 0, 0, 0)]
/-- PackDesk$Row.<init>()V -/
def cz_128 : List ez_C := [(0, .aload_n 0, 0, 0, 0, 0),
  (1, .invokespecial 3, 0, 1, 0, 0),
  (4, .aload_n 0, 0, 0, 0, 0),
  (5, .sipush (6100), 0, 0, 0, 6100),
  (8, .newarray .int, 1000, 0, 0, 0),
  (10, .putfield 9, 12, 0, 3, 0),
  (13, .return_, 0, 0, 0, 0)]
/-- PackDesk$Row.has(I)Z -/
def cz_129 : List ez_C := [(0, .iload_n 1, 0, 0, 0, 0),
  (1, .ifCond .lt (24), 25, 0, 0, 0),
  (4, .iload_n 1, 0, 0, 0, 0),
  (5, .aload_n 0, 0, 0, 0, 0),
  (6, .getfield 15, 12, 1, 0, 0),
  (9, .if_icmp .ge (16), 25, 0, 0, 0),
  (12, .iload_n 1, 0, 0, 0, 0),
  (13, .aload_n 0, 0, 0, 0, 0),
  (14, .getfield 9, 12, 0, 3, 0),
  (17, .arraylength, 0, 0, 0, 0),
  (18, .if_icmp .ge (7), 25, 0, 0, 0),
  (21, .iconst (1), 0, 0, 0, 1),
  (22, .goto (4), 26, 0, 0, 0),
  (25, .iconst (0), 0, 0, 0, 0),
  (26, .ireturn, 1, 0, 0, 0)]
/-- PackDesk$Row.add(I)V -/
def cz_130 : List ez_C := [(0, .aload_n 0, 0, 0, 0, 0),
  (1, .getfield 15, 12, 1, 0, 0),
  (4, .ifCond .lt (35), 39, 0, 0, 0),
  (7, .aload_n 0, 0, 0, 0, 0),
  (8, .getfield 15, 12, 1, 0, 0),
  (11, .aload_n 0, 0, 0, 0, 0),
  (12, .getfield 9, 12, 0, 3, 0),
  (15, .arraylength, 0, 0, 0, 0),
  (16, .if_icmp .ge (23), 39, 0, 0, 0),
  (19, .aload_n 0, 0, 0, 0, 0),
  (20, .getfield 9, 12, 0, 3, 0),
  (23, .aload_n 0, 0, 0, 0, 0),
  (24, .getfield 15, 12, 1, 0, 0),
  (27, .iload_n 1, 0, 0, 0, 0),
  (28, .iastore, 0, 0, 0, 0),
  (29, .aload_n 0, 0, 0, 0, 0),
  (30, .dup, 0, 0, 0, 0),
  (31, .getfield 15, 12, 1, 0, 0),
  (34, .iconst (1), 0, 0, 0, 1),
  (35, .iadd, 0, 0, 0, 0),
  (36, .putfield 15, 12, 1, 0, 0),
  (39, .return_, 0, 0, 0, 0)]
/-- PackDesk$Row.become(LPackDesk$Row;)V -/
def cz_131 : List ez_C := [(0, .aload_n 0, 0, 0, 0, 0),
  (1, .iconst (0), 0, 0, 0, 0),
  (2, .aload_n 1, 0, 0, 0, 0),
  (3, .getfield 15, 12, 1, 0, 0),
  (6, .sipush (6100), 0, 0, 0, 6100),
  (9, .invokestatic 19, 0, 2, 2, 0),
  (12, .invokestatic 25, 0, 2, 1, 0),
  (15, .putfield 15, 12, 1, 0, 0),
  (18, .aload_n 1, 0, 0, 0, 0),
  (19, .getfield 9, 12, 0, 3, 0),
  (22, .iconst (0), 0, 0, 0, 0),
  (23, .aload_n 0, 0, 0, 0, 0),
  (24, .getfield 9, 12, 0, 3, 0),
  (27, .iconst (0), 0, 0, 0, 0),
  (28, .aload_n 0, 0, 0, 0, 0),
  (29, .getfield 15, 12, 1, 0, 0),
  (32, .invokestatic 28, 0, 5, 3, 0),
  (35, .return_, 0, 0, 0, 0)]
/-- PackDesk$Unpacker.<init>(LPackDesk$CodeSet;LPackDesk$Row;)V -/
def cz_132 : List ez_C := [(0, .aload_n 0, 0, 0, 0, 0),
  (1, .invokespecial 3, 0, 1, 0, 0),
  (4, .aload_n 0, 0, 0, 0, 0),
  (5, .iconst (-1), 0, 0, 0, (-1)),
  (6, .putfield 9, 13, 3, 0, 0),
  (9, .aload_n 0, 0, 0, 0, 0),
  (10, .sipush (316), 0, 0, 0, 316),
  (13, .newarray .int, 1000, 0, 0, 0),
  (15, .putfield 15, 13, 5, 3, 0),
  (18, .aload_n 0, 0, 0, 0, 0),
  (19, .aload_n 1, 0, 0, 0, 0),
  (20, .putfield 19, 13, 4, 3, 0),
  (23, .aload_n 0, 0, 0, 0, 0),
  (24, .aload_n 2, 0, 0, 0, 0),
  (25, .putfield 23, 13, 0, 3, 0),
  (28, .return_, 0, 0, 0, 0)]
/-- PackDesk$Unpacker.begin()V -/
def cz_133 : List ez_C := [(0, .aload_n 0, 0, 0, 0, 0),
  (1, .getfield 23, 13, 0, 3, 0),
  (4, .iconst (0), 0, 0, 0, 0),
  (5, .putfield 27, 12, 1, 0, 0),
  (8, .aload_n 0, 0, 0, 0, 0),
  (9, .iconst (0), 0, 0, 0, 0),
  (10, .putfield 32, 13, 1, 1, 0),
  (13, .aload_n 0, 0, 0, 0, 0),
  (14, .iconst (0), 0, 0, 0, 0),
  (15, .putfield 36, 13, 2, 0, 0),
  (18, .aload_n 0, 0, 0, 0, 0),
  (19, .iconst (-1), 0, 0, 0, (-1)),
  (20, .putfield 9, 13, 3, 0, 0),
  (23, .aload_n 0, 0, 0, 0, 0),
  (24, .iconst (0), 0, 0, 0, 0),
  (25, .putfield 39, 13, 6, 0, 0),
  (28, .return_, 0, 0, 0, 0)]
/-- PackDesk$Unpacker.readBlock(LPackDesk$Row;)V -/
def cz_134 : List ez_C := [(0, .aload_n 0, 0, 0, 0, 0),
  (1, .aload_n 0, 0, 0, 0, 0),
  (2, .aload_n 1, 0, 0, 0, 0),
  (3, .iconst (1), 0, 0, 0, 1),
  (4, .invokevirtual 42, 143, 3, 13, 0),
  (7, .iconst (1), 0, 0, 0, 1),
  (8, .if_icmp .ne (7), 15, 0, 0, 0),
  (11, .iconst (1), 0, 0, 0, 1),
  (12, .goto (4), 16, 0, 0, 0),
  (15, .iconst (0), 0, 0, 0, 0),
  (16, .putfield 32, 13, 1, 1, 0),
  (19, .aload_n 0, 0, 0, 0, 0),
  (20, .aload_n 1, 0, 0, 0, 0),
  (21, .iconst (2), 0, 0, 0, 2),
  (22, .invokevirtual 42, 143, 3, 13, 0),
  (25, .istore_n 2, 0, 0, 0, 0),
  (26, .iload_n 2, 0, 0, 0, 0),
  (27, .ifCond .ne (11), 38, 0, 0, 0),
  (30, .aload_n 0, 0, 0, 0, 0),
  (31, .aload_n 1, 0, 0, 0, 0),
  (32, .invokevirtual 46, 135, 2, 13, 0),
  (35, .goto (67), 102, 0, 0, 0),
  (38, .iload_n 2, 0, 0, 0, 0),
  (39, .iconst (1), 0, 0, 0, 1),
  (40, .if_icmp .ne (25), 65, 0, 0, 0),
  (43, .aload_n 0, 0, 0, 0, 0),
  (44, .aload_n 1, 0, 0, 0, 0),
  (45, .aload_n 0, 0, 0, 0, 0),
  (46, .getfield 19, 13, 4, 3, 0),
  (49, .getfield 50, 7, 0, 3, 0),
  (52, .aload_n 0, 0, 0, 0, 0),
  (53, .getfield 19, 13, 4, 3, 0),
  (56, .getfield 56, 7, 1, 3, 0),
  (59, .invokevirtual 59, 139, 4, 13, 0),
  (62, .goto (40), 102, 0, 0, 0),
  (65, .iload_n 2, 0, 0, 0, 0),
  (66, .iconst (2), 0, 0, 0, 2),
  (67, .if_icmp .ne (30), 97, 0, 0, 0),
  (70, .aload_n 0, 0, 0, 0, 0),
  (71, .aload_n 1, 0, 0, 0, 0),
  (72, .invokevirtual 63, 136, 2, 13, 0),
  (75, .aload_n 0, 0, 0, 0, 0),
  (76, .aload_n 1, 0, 0, 0, 0),
  (77, .aload_n 0, 0, 0, 0, 0),
  (78, .getfield 19, 13, 4, 3, 0),
  (81, .getfield 66, 7, 2, 3, 0),
  (84, .aload_n 0, 0, 0, 0, 0),
  (85, .getfield 19, 13, 4, 3, 0),
  (88, .getfield 69, 7, 3, 3, 0),
  (91, .invokevirtual 59, 139, 4, 13, 0),
  (94, .goto (8), 102, 0, 0, 0),
  (97, .aload_n 0, 0, 0, 0, 0),
  (98, .iconst (2), 0, 0, 0, 2),
  (99, .invokevirtual 72, 144, 2, 13, 0),
  (102, .return_, 0, 0, 0, 0)]
/-- PackDesk$Unpacker.readStored(LPackDesk$Row;)V -/
def cz_135 : List ez_C := [(0, .aload_n 0, 0, 0, 0, 0),
  (1, .aload_n 0, 0, 0, 0, 0),
  (2, .getfield 39, 13, 6, 0, 0),
  (5, .bipush (7), 0, 0, 0, 7),
  (7, .iadd, 0, 0, 0, 0),
  (8, .bipush (-8), 0, 0, 0, (-8)),
  (10, .iand, 0, 0, 0, 0),
  (11, .putfield 39, 13, 6, 0, 0),
  (14, .aload_n 0, 0, 0, 0, 0),
  (15, .aload_n 1, 0, 0, 0, 0),
  (16, .bipush (16), 0, 0, 0, 16),
  (18, .invokevirtual 42, 143, 3, 13, 0),
  (21, .istore_n 2, 0, 0, 0, 0),
  (22, .aload_n 0, 0, 0, 0, 0),
  (23, .aload_n 1, 0, 0, 0, 0),
  (24, .bipush (16), 0, 0, 0, 16),
  (26, .invokevirtual 42, 143, 3, 13, 0),
  (29, .istore_n 3, 0, 0, 0, 0),
  (30, .iload_n 2, 0, 0, 0, 0),
  (31, .iload_n 3, 0, 0, 0, 0),
  (32, .ixor, 0, 0, 0, 0),
  (33, .ldc 76, 0, 0, 0, 65535),
  (35, .if_icmp .eq (8), 43, 0, 0, 0),
  (38, .aload_n 0, 0, 0, 0, 0),
  (39, .iconst (3), 0, 0, 0, 3),
  (40, .invokevirtual 72, 144, 2, 13, 0),
  (43, .iconst (0), 0, 0, 0, 0),
  (44, .istore 4, 0, 0, 0, 0),
  (46, .iload 4, 0, 0, 0, 0),
  (48, .iload_n 2, 0, 0, 0, 0),
  (49, .if_icmp .ge (20), 69, 0, 0, 0),
  (52, .aload_n 0, 0, 0, 0, 0),
  (53, .aload_n 0, 0, 0, 0, 0),
  (54, .aload_n 1, 0, 0, 0, 0),
  (55, .bipush (8), 0, 0, 0, 8),
  (57, .invokevirtual 42, 143, 3, 13, 0),
  (60, .invokevirtual 77, 141, 2, 13, 0),
  (63, .iinc 4 (1), 0, 0, 0, 1),
  (66, .goto (-20), 46, 0, 0, 0),
  (69, .return_, 0, 0, 0, 0)]
/-- PackDesk$Unpacker.readHead(LPackDesk$Row;)V -/
def cz_136 : List ez_C := [(0, .sipush (257), 0, 0, 0, 257),
  (3, .aload_n 0, 0, 0, 0, 0),
  (4, .aload_n 1, 0, 0, 0, 0),
  (5, .iconst (5), 0, 0, 0, 5),
  (6, .invokevirtual 42, 143, 3, 13, 0),
  (9, .iadd, 0, 0, 0, 0),
  (10, .istore_n 2, 0, 0, 0, 0),
  (11, .iconst (1), 0, 0, 0, 1),
  (12, .aload_n 0, 0, 0, 0, 0),
  (13, .aload_n 1, 0, 0, 0, 0),
  (14, .iconst (5), 0, 0, 0, 5),
  (15, .invokevirtual 42, 143, 3, 13, 0),
  (18, .iadd, 0, 0, 0, 0),
  (19, .istore_n 3, 0, 0, 0, 0),
  (20, .iconst (4), 0, 0, 0, 4),
  (21, .aload_n 0, 0, 0, 0, 0),
  (22, .aload_n 1, 0, 0, 0, 0),
  (23, .iconst (4), 0, 0, 0, 4),
  (24, .invokevirtual 42, 143, 3, 13, 0),
  (27, .iadd, 0, 0, 0, 0),
  (28, .istore 4, 0, 0, 0, 0),
  (30, .iload_n 2, 0, 0, 0, 0),
  (31, .sipush (286), 0, 0, 0, 286),
  (34, .if_icmp .gt (9), 43, 0, 0, 0),
  (37, .iload_n 3, 0, 0, 0, 0),
  (38, .bipush (30), 0, 0, 0, 30),
  (40, .if_icmp .le (8), 48, 0, 0, 0),
  (43, .aload_n 0, 0, 0, 0, 0),
  (44, .iconst (4), 0, 0, 0, 4),
  (45, .invokevirtual 72, 144, 2, 13, 0),
  (48, .aload_n 0, 0, 0, 0, 0),
  (49, .aload_n 1, 0, 0, 0, 0),
  (50, .iload 4, 0, 0, 0, 0),
  (52, .invokevirtual 80, 137, 3, 13, 0),
  (55, .aload_n 0, 0, 0, 0, 0),
  (56, .aload_n 1, 0, 0, 0, 0),
  (57, .iload_n 2, 0, 0, 0, 0),
  (58, .iload_n 3, 0, 0, 0, 0),
  (59, .iadd, 0, 0, 0, 0),
  (60, .invokevirtual 84, 138, 3, 13, 0),
  (63, .aload_n 0, 0, 0, 0, 0),
  (64, .getfield 19, 13, 4, 3, 0),
  (67, .getfield 66, 7, 2, 3, 0),
  (70, .aload_n 0, 0, 0, 0, 0),
  (71, .getfield 15, 13, 5, 3, 0),
  (74, .iconst (0), 0, 0, 0, 0),
  (75, .iload_n 2, 0, 0, 0, 0),
  (76, .invokevirtual 87, 82, 4, 5, 0),
  (79, .aload_n 0, 0, 0, 0, 0),
  (80, .getfield 19, 13, 4, 3, 0),
  (83, .getfield 66, 7, 2, 3, 0),
  (86, .invokevirtual 93, 83, 1, 5, 0),
  (89, .aload_n 0, 0, 0, 0, 0),
  (90, .getfield 19, 13, 4, 3, 0),
  (93, .getfield 69, 7, 3, 3, 0),
  (96, .aload_n 0, 0, 0, 0, 0),
  (97, .getfield 15, 13, 5, 3, 0),
  (100, .iload_n 2, 0, 0, 0, 0),
  (101, .iload_n 3, 0, 0, 0, 0),
  (102, .invokevirtual 87, 82, 4, 5, 0),
  (105, .aload_n 0, 0, 0, 0, 0),
  (106, .getfield 19, 13, 4, 3, 0),
  (109, .getfield 69, 7, 3, 3, 0),
  (112, .invokevirtual 93, 83, 1, 5, 0),
  (115, .aload_n 0, 0, 0, 0, 0),
  (116, .getfield 19, 13, 4, 3, 0),
  (119, .getfield 66, 7, 2, 3, 0),
  (122, .invokevirtual 96, 84, 1, 5, 0),
  (125, .ifCond .eq (20), 145, 0, 0, 0),
  (128, .aload_n 0, 0, 0, 0, 0),
  (129, .getfield 19, 13, 4, 3, 0),
  (132, .getfield 66, 7, 2, 3, 0),
  (135, .getfield 100, 5, 0, 3, 0),
  (138, .sipush (256), 0, 0, 0, 256),
  (141, .iaload, 0, 0, 0, 0),
  (142, .ifCond .ne (8), 150, 0, 0, 0),
  (145, .aload_n 0, 0, 0, 0, 0),
  (146, .iconst (5), 0, 0, 0, 5),
  (147, .invokevirtual 72, 144, 2, 13, 0),
  (150, .aload_n 0, 0, 0, 0, 0),
  (151, .getfield 19, 13, 4, 3, 0),
  (154, .getfield 69, 7, 3, 3, 0),
  (157, .invokevirtual 96, 84, 1, 5, 0),
  (160, .ifCond .ne (21), 181, 0, 0, 0),
  (163, .aload_n 0, 0, 0, 0, 0),
  (164, .getfield 19, 13, 4, 3, 0),
  (167, .getfield 69, 7, 3, 3, 0),
  (170, .invokevirtual 103, 85, 1, 5, 0),
  (173, .ifCond .ne (8), 181, 0, 0, 0),
  (176, .aload_n 0, 0, 0, 0, 0),
  (177, .iconst (5), 0, 0, 0, 5),
  (178, .invokevirtual 72, 144, 2, 13, 0),
  (181, .return_, 0, 0, 0, 0)]
/-- PackDesk$Unpacker.readAlphabet(LPackDesk$Row;I)V -/
def cz_137 : List ez_C := [(0, .aload_n 0, 0, 0, 0, 0),
  (1, .getfield 19, 13, 4, 3, 0),
  (4, .getfield 106, 7, 4, 3, 0),
  (7, .getfield 100, 5, 0, 3, 0),
  (10, .iconst (0), 0, 0, 0, 0),
  (11, .invokestatic 109, 149, 2, 0, 0),
  (14, .iconst (0), 0, 0, 0, 0),
  (15, .istore_n 3, 0, 0, 0, 0),
  (16, .iload_n 3, 0, 0, 0, 0),
  (17, .iload_n 2, 0, 0, 0, 0),
  (18, .if_icmp .ge (37), 55, 0, 0, 0),
  (21, .iload_n 3, 0, 0, 0, 0),
  (22, .bipush (19), 0, 0, 0, 19),
  (24, .if_icmp .ge (31), 55, 0, 0, 0),
  (27, .aload_n 0, 0, 0, 0, 0),
  (28, .getfield 19, 13, 4, 3, 0),
  (31, .getfield 106, 7, 4, 3, 0),
  (34, .getfield 100, 5, 0, 3, 0),
  (37, .getstatic 115, 8, 0, 0, 0),
  (40, .iload_n 3, 0, 0, 0, 0),
  (41, .iaload, 0, 0, 0, 0),
  (42, .aload_n 0, 0, 0, 0, 0),
  (43, .aload_n 1, 0, 0, 0, 0),
  (44, .iconst (3), 0, 0, 0, 3),
  (45, .invokevirtual 42, 143, 3, 13, 0),
  (48, .iastore, 0, 0, 0, 0),
  (49, .iinc 3 (1), 0, 0, 0, 1),
  (52, .goto (-36), 16, 0, 0, 0),
  (55, .aload_n 0, 0, 0, 0, 0),
  (56, .getfield 19, 13, 4, 3, 0),
  (59, .getfield 106, 7, 4, 3, 0),
  (62, .invokevirtual 93, 83, 1, 5, 0),
  (65, .aload_n 0, 0, 0, 0, 0),
  (66, .getfield 19, 13, 4, 3, 0),
  (69, .getfield 106, 7, 4, 3, 0),
  (72, .invokevirtual 96, 84, 1, 5, 0),
  (75, .ifCond .ne (8), 83, 0, 0, 0),
  (78, .aload_n 0, 0, 0, 0, 0),
  (79, .iconst (5), 0, 0, 0, 5),
  (80, .invokevirtual 72, 144, 2, 13, 0),
  (83, .return_, 0, 0, 0, 0)]
/-- PackDesk$Unpacker.readRow(LPackDesk$Row;I)V -/
def cz_138 : List ez_C := [(0, .iconst (0), 0, 0, 0, 0),
  (1, .istore_n 3, 0, 0, 0, 0),
  (2, .iconst (0), 0, 0, 0, 0),
  (3, .istore 4, 0, 0, 0, 0),
  (5, .iload 4, 0, 0, 0, 0),
  (7, .iload_n 2, 0, 0, 0, 0),
  (8, .if_icmp .ge (166), 174, 0, 0, 0),
  (11, .iload_n 3, 0, 0, 0, 0),
  (12, .iload_n 2, 0, 0, 0, 0),
  (13, .if_icmp .ge (161), 174, 0, 0, 0),
  (16, .aload_n 0, 0, 0, 0, 0),
  (17, .aload_n 1, 0, 0, 0, 0),
  (18, .aload_n 0, 0, 0, 0, 0),
  (19, .getfield 19, 13, 4, 3, 0),
  (22, .getfield 106, 7, 4, 3, 0),
  (25, .invokevirtual 118, 142, 3, 13, 0),
  (28, .istore 5, 0, 0, 0, 0),
  (30, .iload 5, 0, 0, 0, 0),
  (32, .bipush (16), 0, 0, 0, 16),
  (34, .if_icmp .ne (13), 47, 0, 0, 0),
  (37, .iload_n 3, 0, 0, 0, 0),
  (38, .ifCond .ne (9), 47, 0, 0, 0),
  (41, .aload_n 0, 0, 0, 0, 0),
  (42, .bipush (6), 0, 0, 0, 6),
  (44, .invokevirtual 72, 144, 2, 13, 0),
  (47, .iload 5, 0, 0, 0, 0),
  (49, .istore 6, 0, 0, 0, 0),
  (51, .iconst (1), 0, 0, 0, 1),
  (52, .istore 7, 0, 0, 0, 0),
  (54, .iload 5, 0, 0, 0, 0),
  (56, .bipush (16), 0, 0, 0, 16),
  (58, .isub, 0, 0, 0, 0),
  (59, .istore 8, 0, 0, 0, 0),
  (61, .iload 8, 0, 0, 0, 0),
  (63, .ifCond .lt (55), 118, 0, 0, 0),
  (66, .iload 8, 0, 0, 0, 0),
  (68, .getstatic 122, 7, 0, 0, 0),
  (71, .arraylength, 0, 0, 0, 0),
  (72, .if_icmp .ge (46), 118, 0, 0, 0),
  (75, .iload 8, 0, 0, 0, 0),
  (77, .ifCond .ne (18), 95, 0, 0, 0),
  (80, .iload_n 3, 0, 0, 0, 0),
  (81, .ifCond .le (14), 95, 0, 0, 0),
  (84, .aload_n 0, 0, 0, 0, 0),
  (85, .getfield 15, 13, 5, 3, 0),
  (88, .iload_n 3, 0, 0, 0, 0),
  (89, .iconst (1), 0, 0, 0, 1),
  (90, .isub, 0, 0, 0, 0),
  (91, .iaload, 0, 0, 0, 0),
  (92, .goto (4), 96, 0, 0, 0),
  (95, .iconst (0), 0, 0, 0, 0),
  (96, .istore 6, 0, 0, 0, 0),
  (98, .getstatic 122, 7, 0, 0, 0),
  (101, .iload 8, 0, 0, 0, 0),
  (103, .iaload, 0, 0, 0, 0),
  (104, .aload_n 0, 0, 0, 0, 0),
  (105, .aload_n 1, 0, 0, 0, 0),
  (106, .getstatic 125, 9, 0, 0, 0),
  (109, .iload 8, 0, 0, 0, 0),
  (111, .iaload, 0, 0, 0, 0),
  (112, .invokevirtual 42, 143, 3, 13, 0),
  (115, .iadd, 0, 0, 0, 0),
  (116, .istore 7, 0, 0, 0, 0),
  (118, .iload_n 3, 0, 0, 0, 0),
  (119, .iload 7, 0, 0, 0, 0),
  (121, .iadd, 0, 0, 0, 0),
  (122, .iload_n 2, 0, 0, 0, 0),
  (123, .if_icmp .le (9), 132, 0, 0, 0),
  (126, .aload_n 0, 0, 0, 0, 0),
  (127, .bipush (6), 0, 0, 0, 6),
  (129, .invokevirtual 72, 144, 2, 13, 0),
  (132, .iconst (0), 0, 0, 0, 0),
  (133, .istore 9, 0, 0, 0, 0),
  (135, .iload 9, 0, 0, 0, 0),
  (137, .iload 7, 0, 0, 0, 0),
  (139, .if_icmp .ge (29), 168, 0, 0, 0),
  (142, .iload_n 3, 0, 0, 0, 0),
  (143, .aload_n 0, 0, 0, 0, 0),
  (144, .getfield 15, 13, 5, 3, 0),
  (147, .arraylength, 0, 0, 0, 0),
  (148, .if_icmp .ge (20), 168, 0, 0, 0),
  (151, .aload_n 0, 0, 0, 0, 0),
  (152, .getfield 15, 13, 5, 3, 0),
  (155, .iload_n 3, 0, 0, 0, 0),
  (156, .iload 6, 0, 0, 0, 0),
  (158, .iastore, 0, 0, 0, 0),
  (159, .iinc 3 (1), 0, 0, 0, 1),
  (162, .iinc 9 (1), 0, 0, 0, 1),
  (165, .goto (-30), 135, 0, 0, 0),
  (168, .iinc 4 (1), 0, 0, 0, 1),
  (171, .goto (-166), 5, 0, 0, 0),
  (174, .return_, 0, 0, 0, 0)]
/-- PackDesk$Unpacker.readParts(LPackDesk$Row;LPackDesk$Code;LPackDesk$Code;)V -/
def cz_139 : List ez_C := [(0, .iconst (0), 0, 0, 0, 0),
  (1, .istore 4, 0, 0, 0, 0),
  (3, .iload 4, 0, 0, 0, 0),
  (5, .ldc 128, 0, 0, 0, 48000),
  (7, .if_icmp .gt (55), 62, 0, 0, 0),
  (10, .aload_n 0, 0, 0, 0, 0),
  (11, .aload_n 1, 0, 0, 0, 0),
  (12, .aload_n 2, 0, 0, 0, 0),
  (13, .invokevirtual 118, 142, 3, 13, 0),
  (16, .istore 5, 0, 0, 0, 0),
  (18, .iload 5, 0, 0, 0, 0),
  (20, .sipush (256), 0, 0, 0, 256),
  (23, .if_icmp .ne (4), 27, 0, 0, 0),
  (26, .return_, 0, 0, 0, 0),
  (27, .iload 5, 0, 0, 0, 0),
  (29, .sipush (256), 0, 0, 0, 256),
  (32, .if_icmp .ge (12), 44, 0, 0, 0),
  (35, .aload_n 0, 0, 0, 0, 0),
  (36, .iload 5, 0, 0, 0, 0),
  (38, .invokevirtual 77, 141, 2, 13, 0),
  (41, .goto (15), 56, 0, 0, 0),
  (44, .aload_n 0, 0, 0, 0, 0),
  (45, .aload_n 1, 0, 0, 0, 0),
  (46, .iload 5, 0, 0, 0, 0),
  (48, .sipush (257), 0, 0, 0, 257),
  (51, .isub, 0, 0, 0, 0),
  (52, .aload_n 3, 0, 0, 0, 0),
  (53, .invokevirtual 129, 140, 4, 13, 0),
  (56, .iinc 4 (1), 0, 0, 0, 1),
  (59, .goto (-56), 3, 0, 0, 0),
  (62, .return_, 0, 0, 0, 0)]
/-- PackDesk$Unpacker.readMatch(LPackDesk$Row;ILPackDesk$Code;)V -/
def cz_140 : List ez_C := [(0, .iload_n 2, 0, 0, 0, 0),
  (1, .ifCond .lt (11), 12, 0, 0, 0),
  (4, .iload_n 2, 0, 0, 0, 0),
  (5, .getstatic 133, 2, 0, 0, 0),
  (8, .arraylength, 0, 0, 0, 0),
  (9, .if_icmp .lt (9), 18, 0, 0, 0),
  (12, .aload_n 0, 0, 0, 0, 0),
  (13, .bipush (7), 0, 0, 0, 7),
  (15, .invokevirtual 72, 144, 2, 13, 0),
  (18, .getstatic 133, 2, 0, 0, 0),
  (21, .iload_n 2, 0, 0, 0, 0),
  (22, .iaload, 0, 0, 0, 0),
  (23, .aload_n 0, 0, 0, 0, 0),
  (24, .aload_n 1, 0, 0, 0, 0),
  (25, .getstatic 136, 4, 0, 0, 0),
  (28, .iload_n 2, 0, 0, 0, 0),
  (29, .iaload, 0, 0, 0, 0),
  (30, .invokevirtual 42, 143, 3, 13, 0),
  (33, .iadd, 0, 0, 0, 0),
  (34, .istore 4, 0, 0, 0, 0),
  (36, .aload_n 0, 0, 0, 0, 0),
  (37, .aload_n 1, 0, 0, 0, 0),
  (38, .aload_n 3, 0, 0, 0, 0),
  (39, .invokevirtual 118, 142, 3, 13, 0),
  (42, .istore 5, 0, 0, 0, 0),
  (44, .iload 5, 0, 0, 0, 0),
  (46, .ifCond .lt (12), 58, 0, 0, 0),
  (49, .iload 5, 0, 0, 0, 0),
  (51, .getstatic 139, 3, 0, 0, 0),
  (54, .arraylength, 0, 0, 0, 0),
  (55, .if_icmp .lt (9), 64, 0, 0, 0),
  (58, .aload_n 0, 0, 0, 0, 0),
  (59, .bipush (7), 0, 0, 0, 7),
  (61, .invokevirtual 72, 144, 2, 13, 0),
  (64, .getstatic 139, 3, 0, 0, 0),
  (67, .iload 5, 0, 0, 0, 0),
  (69, .iaload, 0, 0, 0, 0),
  (70, .aload_n 0, 0, 0, 0, 0),
  (71, .aload_n 1, 0, 0, 0, 0),
  (72, .getstatic 142, 5, 0, 0, 0),
  (75, .iload 5, 0, 0, 0, 0),
  (77, .iaload, 0, 0, 0, 0),
  (78, .invokevirtual 42, 143, 3, 13, 0),
  (81, .iadd, 0, 0, 0, 0),
  (82, .istore 6, 0, 0, 0, 0),
  (84, .iload 6, 0, 0, 0, 0),
  (86, .aload_n 0, 0, 0, 0, 0),
  (87, .getfield 23, 13, 0, 3, 0),
  (90, .getfield 27, 12, 1, 0, 0),
  (93, .if_icmp .le (9), 102, 0, 0, 0),
  (96, .aload_n 0, 0, 0, 0, 0),
  (97, .bipush (8), 0, 0, 0, 8),
  (99, .invokevirtual 72, 144, 2, 13, 0),
  (102, .iconst (0), 0, 0, 0, 0),
  (103, .istore 7, 0, 0, 0, 0),
  (105, .iload 7, 0, 0, 0, 0),
  (107, .iload 4, 0, 0, 0, 0),
  (109, .if_icmp .ge (31), 140, 0, 0, 0),
  (112, .aload_n 0, 0, 0, 0, 0),
  (113, .aload_n 0, 0, 0, 0, 0),
  (114, .getfield 23, 13, 0, 3, 0),
  (117, .getfield 145, 12, 0, 3, 0),
  (120, .aload_n 0, 0, 0, 0, 0),
  (121, .getfield 23, 13, 0, 3, 0),
  (124, .getfield 27, 12, 1, 0, 0),
  (127, .iload 6, 0, 0, 0, 0),
  (129, .isub, 0, 0, 0, 0),
  (130, .iaload, 0, 0, 0, 0),
  (131, .invokevirtual 77, 141, 2, 13, 0),
  (134, .iinc 7 (1), 0, 0, 0, 1),
  (137, .goto (-32), 105, 0, 0, 0),
  (140, .return_, 0, 0, 0, 0)]
/-- PackDesk$Unpacker.putByte(I)V -/
def cz_141 : List ez_C := [(0, .aload_n 0, 0, 0, 0, 0),
  (1, .getfield 23, 13, 0, 3, 0),
  (4, .getfield 27, 12, 1, 0, 0),
  (7, .sipush (6000), 0, 0, 0, 6000),
  (10, .if_icmp .lt (9), 19, 0, 0, 0),
  (13, .aload_n 0, 0, 0, 0, 0),
  (14, .bipush (9), 0, 0, 0, 9),
  (16, .invokevirtual 72, 144, 2, 13, 0),
  (19, .aload_n 0, 0, 0, 0, 0),
  (20, .getfield 23, 13, 0, 3, 0),
  (23, .iload_n 1, 0, 0, 0, 0),
  (24, .invokevirtual 148, 130, 2, 12, 0),
  (27, .return_, 0, 0, 0, 0)]
/-- PackDesk$Unpacker.takeSymbol(LPackDesk$Row;LPackDesk$Code;)I -/
def cz_142 : List ez_C := [(0, .iconst (0), 0, 0, 0, 0),
  (1, .istore_n 3, 0, 0, 0, 0),
  (2, .iconst (0), 0, 0, 0, 0),
  (3, .istore 4, 0, 0, 0, 0),
  (5, .iconst (0), 0, 0, 0, 0),
  (6, .istore 5, 0, 0, 0, 0),
  (8, .iconst (1), 0, 0, 0, 1),
  (9, .istore 6, 0, 0, 0, 0),
  (11, .iload 6, 0, 0, 0, 0),
  (13, .bipush (15), 0, 0, 0, 15),
  (15, .if_icmp .gt (93), 108, 0, 0, 0),
  (18, .iload 5, 0, 0, 0, 0),
  (20, .aload_n 2, 0, 0, 0, 0),
  (21, .getfield 151, 5, 4, 0, 0),
  (24, .if_icmp .ge (84), 108, 0, 0, 0),
  (27, .iload_n 3, 0, 0, 0, 0),
  (28, .iconst (1), 0, 0, 0, 1),
  (29, .ishl, 0, 0, 0, 0),
  (30, .aload_n 0, 0, 0, 0, 0),
  (31, .aload_n 1, 0, 0, 0, 0),
  (32, .iconst (1), 0, 0, 0, 1),
  (33, .invokevirtual 42, 143, 3, 13, 0),
  (36, .ior, 0, 0, 0, 0),
  (37, .istore_n 3, 0, 0, 0, 0),
  (38, .aload_n 2, 0, 0, 0, 0),
  (39, .getfield 154, 5, 2, 3, 0),
  (42, .iload 6, 0, 0, 0, 0),
  (44, .iaload, 0, 0, 0, 0),
  (45, .istore 7, 0, 0, 0, 0),
  (47, .iload 5, 0, 0, 0, 0),
  (49, .iload_n 3, 0, 0, 0, 0),
  (50, .iadd, 0, 0, 0, 0),
  (51, .iload 4, 0, 0, 0, 0),
  (53, .isub, 0, 0, 0, 0),
  (54, .istore 8, 0, 0, 0, 0),
  (56, .iload_n 3, 0, 0, 0, 0),
  (57, .iload 4, 0, 0, 0, 0),
  (59, .isub, 0, 0, 0, 0),
  (60, .iload 7, 0, 0, 0, 0),
  (62, .if_icmp .ge (24), 86, 0, 0, 0),
  (65, .iload 8, 0, 0, 0, 0),
  (67, .ifCond .lt (19), 86, 0, 0, 0),
  (70, .iload 8, 0, 0, 0, 0),
  (72, .sipush (288), 0, 0, 0, 288),
  (75, .if_icmp .ge (11), 86, 0, 0, 0),
  (78, .aload_n 2, 0, 0, 0, 0),
  (79, .getfield 157, 5, 3, 3, 0),
  (82, .iload 8, 0, 0, 0, 0),
  (84, .iaload, 0, 0, 0, 0),
  (85, .ireturn, 0, 0, 0, 0),
  (86, .iload 5, 0, 0, 0, 0),
  (88, .iload 7, 0, 0, 0, 0),
  (90, .iadd, 0, 0, 0, 0),
  (91, .istore 5, 0, 0, 0, 0),
  (93, .iload 4, 0, 0, 0, 0),
  (95, .iload 7, 0, 0, 0, 0),
  (97, .iadd, 0, 0, 0, 0),
  (98, .iconst (1), 0, 0, 0, 1),
  (99, .ishl, 0, 0, 0, 0),
  (100, .istore 4, 0, 0, 0, 0),
  (102, .iinc 6 (1), 0, 0, 0, 1),
  (105, .goto (-94), 11, 0, 0, 0),
  (108, .aload_n 0, 0, 0, 0, 0),
  (109, .bipush (7), 0, 0, 0, 7),
  (111, .invokevirtual 72, 144, 2, 13, 0),
  (114, .iconst (-1), 0, 0, 0, (-1)),
  (115, .ireturn, 0, 0, 0, 0)]
/-- PackDesk$Unpacker.takeBits(LPackDesk$Row;I)I -/
def cz_143 : List ez_C := [(0, .iconst (0), 0, 0, 0, 0),
  (1, .istore_n 3, 0, 0, 0, 0),
  (2, .iconst (0), 0, 0, 0, 0),
  (3, .istore 4, 0, 0, 0, 0),
  (5, .iload 4, 0, 0, 0, 0),
  (7, .iload_n 2, 0, 0, 0, 0),
  (8, .if_icmp .ge (64), 72, 0, 0, 0),
  (11, .aload_n 0, 0, 0, 0, 0),
  (12, .getfield 39, 13, 6, 0, 0),
  (15, .iconst (3), 0, 0, 0, 3),
  (16, .ishr, 0, 0, 0, 0),
  (17, .istore 5, 0, 0, 0, 0),
  (19, .aload_n 1, 0, 0, 0, 0),
  (20, .iload 5, 0, 0, 0, 0),
  (22, .invokevirtual 160, 129, 2, 12, 0),
  (25, .ifCond .ne (8), 33, 0, 0, 0),
  (28, .aload_n 0, 0, 0, 0, 0),
  (29, .iconst (1), 0, 0, 0, 1),
  (30, .invokevirtual 72, 144, 2, 13, 0),
  (33, .iload_n 3, 0, 0, 0, 0),
  (34, .aload_n 1, 0, 0, 0, 0),
  (35, .getfield 145, 12, 0, 3, 0),
  (38, .iload 5, 0, 0, 0, 0),
  (40, .iaload, 0, 0, 0, 0),
  (41, .aload_n 0, 0, 0, 0, 0),
  (42, .getfield 39, 13, 6, 0, 0),
  (45, .bipush (7), 0, 0, 0, 7),
  (47, .iand, 0, 0, 0, 0),
  (48, .ishr, 0, 0, 0, 0),
  (49, .iconst (1), 0, 0, 0, 1),
  (50, .iand, 0, 0, 0, 0),
  (51, .iload 4, 0, 0, 0, 0),
  (53, .ishl, 0, 0, 0, 0),
  (54, .ior, 0, 0, 0, 0),
  (55, .istore_n 3, 0, 0, 0, 0),
  (56, .aload_n 0, 0, 0, 0, 0),
  (57, .dup, 0, 0, 0, 0),
  (58, .getfield 39, 13, 6, 0, 0),
  (61, .iconst (1), 0, 0, 0, 1),
  (62, .iadd, 0, 0, 0, 0),
  (63, .putfield 39, 13, 6, 0, 0),
  (66, .iinc 4 (1), 0, 0, 0, 1),
  (69, .goto (-64), 5, 0, 0, 0),
  (72, .iload_n 3, 0, 0, 0, 0),
  (73, .ireturn, 0, 0, 0, 0)]
/-- PackDesk$Unpacker.fail(I)V -/
def cz_144 : List ez_C := [(0, .aload_n 0, 0, 0, 0, 0),
  (1, .iload_n 1, 0, 0, 0, 0),
  (2, .putfield 36, 13, 2, 0, 0),
  (5, .aload_n 0, 0, 0, 0, 0),
  (6, .aload_n 0, 0, 0, 0, 0),
  (7, .getfield 39, 13, 6, 0, 0),
  (10, .bipush (7), 0, 0, 0, 7),
  (12, .iadd, 0, 0, 0, 0),
  (13, .iconst (3), 0, 0, 0, 3),
  (14, .ishr, 0, 0, 0, 0),
  (15, .putfield 9, 13, 3, 0, 0),
  (18, .athrow, 2, 0, 0, 0)]
/-- PackDeskLaw.take(LPackDesk;[J)I -/
def cz_145 : List ez_C := [(0, .aload_n 1, 0, 0, 0, 0),
  (1, .iconst (0), 0, 0, 0, 0),
  (2, .aload_n 0, 0, 0, 0, 0),
  (3, .invokevirtual 7, 5, 1, 1, 0),
  (6, .i2l, 0, 0, 0, 0),
  (7, .lastore, 0, 0, 0, 0),
  (8, .goto (6), 14, 0, 0, 0),
  (11, .astore_n 2, 0, 0, 0, 0),
  (12, .iconst (1), 0, 0, 0, 1),
  (13, .ireturn, 0, 0, 0, 0),
  (14, .iconst (0), 0, 0, 0, 0),
  (15, .ireturn, 0, 0, 0, 0)]
/-- PackDeskLaw.unpack(LPackDesk;[J)I -/
def cz_146 : List ez_C := [(0, .aload_n 1, 0, 0, 0, 0),
  (1, .iconst (0), 0, 0, 0, 0),
  (2, .aload_n 0, 0, 0, 0, 0),
  (3, .invokevirtual 15, 13, 1, 1, 0),
  (6, .i2l, 0, 0, 0, 0),
  (7, .lastore, 0, 0, 0, 0),
  (8, .goto (6), 14, 0, 0, 0),
  (11, .astore_n 2, 0, 0, 0, 0),
  (12, .iconst (1), 0, 0, 0, 1),
  (13, .ireturn, 0, 0, 0, 0),
  (14, .iconst (0), 0, 0, 0, 0),
  (15, .ireturn, 0, 0, 0, 0)]
/-- PackDeskLaw.weigh(LPackDesk;II)I -/
def cz_147 : List ez_C := [(0, .aload_n 0, 0, 0, 0, 0),
  (1, .iload_n 1, 0, 0, 0, 0),
  (2, .iload_n 2, 0, 0, 0, 0),
  (3, .invokevirtual 20, 16, 3, 1, 0),
  (6, .goto (9), 15, 0, 0, 0),
  (9, .astore_n 3, 0, 0, 0, 0),
  (10, .iconst (1), 0, 0, 0, 1),
  (11, .ireturn, 0, 0, 0, 0),
  (12, .astore_n 3, 0, 0, 0, 0),
  (13, .iconst (2), 0, 0, 0, 2),
  (14, .ireturn, 0, 0, 0, 0),
  (15, .iconst (0), 0, 0, 0, 0),
  (16, .ireturn, 0, 0, 0, 0)]
/-- PackDeskLaw.measure(LPackDesk;I[J)I -/
def cz_148 : List ez_C := [(0, .aload_n 2, 0, 0, 0, 0),
  (1, .iconst (0), 0, 0, 0, 0),
  (2, .aload_n 0, 0, 0, 0, 0),
  (3, .iload_n 1, 0, 0, 0, 0),
  (4, .invokevirtual 26, 17, 2, 1, 0),
  (7, .i2l, 0, 0, 0, 0),
  (8, .lastore, 0, 0, 0, 0),
  (9, .goto (9), 18, 0, 0, 0),
  (12, .astore_n 3, 0, 0, 0, 0),
  (13, .iconst (1), 0, 0, 0, 1),
  (14, .ireturn, 0, 0, 0, 0),
  (15, .astore_n 3, 0, 0, 0, 0),
  (16, .iconst (2), 0, 0, 0, 2),
  (17, .ireturn, 0, 0, 0, 0),
  (18, .iconst (0), 0, 0, 0, 0),
  (19, .ireturn, 0, 0, 0, 0)]
/-- java/util/Arrays.fill([II)V -/
def cz_149 : List ez_C := [(0, .iconst (0), 0, 0, 0, 0),
  (1, .istore_n 2, 0, 0, 0, 0),
  (2, .aload_n 0, 0, 0, 0, 0),
  (3, .arraylength, 0, 0, 0, 0),
  (4, .istore_n 3, 0, 0, 0, 0),
  (5, .iload_n 2, 0, 0, 0, 0),
  (6, .iload_n 3, 0, 0, 0, 0),
  (7, .if_icmp .ge (13), 20, 0, 0, 0),
  (10, .aload_n 0, 0, 0, 0, 0),
  (11, .iload_n 2, 0, 0, 0, 0),
  (12, .iload_n 1, 0, 0, 0, 0),
  (13, .iastore, 0, 0, 0, 0),
  (14, .iinc 2 (1), 0, 0, 0, 1),
  (17, .goto (-12), 5, 0, 0, 0),
  (20, .return_, 0, 0, 0, 0)]
/-- PackDeskLaw.law([I)Z -/
def cz_150 : List ez_C := [(0, .new 8, 1, 8, 0, 0),
  (3, .dup, 0, 0, 0, 0),
  (4, .invokespecial 30, 0, 1, 1, 0),
  (7, .astore_n 1, 0, 0, 0, 0),
  (8, .new 31, 2, 70, 0, 0),
  (11, .dup, 0, 0, 0, 0),
  (12, .invokespecial 33, 24, 1, 2, 0),
  (15, .astore_n 2, 0, 0, 0, 0),
  (16, .iconst (1), 0, 0, 0, 1),
  (17, .newarray .long, 1002, 0, 0, 0),
  (19, .astore_n 3, 0, 0, 0, 0),
  (20, .iconst (0), 0, 0, 0, 0),
  (21, .istore 4, 0, 0, 0, 0),
  (23, .iload 4, 0, 0, 0, 0),
  (25, .aload_n 0, 0, 0, 0, 0),
  (26, .arraylength, 0, 0, 0, 0),
  (27, .bipush (6), 0, 0, 0, 6),
  (29, .isub, 0, 0, 0, 0),
  (30, .if_icmp .gt (745), 775, 0, 0, 0),
  (33, .aload_n 0, 0, 0, 0, 0),
  (34, .iload 4, 0, 0, 0, 0),
  (36, .iaload, 0, 0, 0, 0),
  (37, .bipush (31), 0, 0, 0, 31),
  (39, .iand, 0, 0, 0, 0),
  (40, .tableswitch (729) (0) (18) #[92, 163, 200, 225, 262, 306, 319, 332, 345, 382, 395, 432, 481, 525, 550, 575, 623, 679, 704], 0, 0, 0, 0),
  (132, .aload_n 1, 0, 0, 0, 0),
  (133, .aload_n 0, 0, 0, 0, 0),
  (134, .iload 4, 0, 0, 0, 0),
  (136, .iconst (1), 0, 0, 0, 1),
  (137, .iadd, 0, 0, 0, 0),
  (138, .iaload, 0, 0, 0, 0),
  (139, .aload_n 0, 0, 0, 0, 0),
  (140, .iload 4, 0, 0, 0, 0),
  (142, .iconst (2), 0, 0, 0, 2),
  (143, .iadd, 0, 0, 0, 0),
  (144, .iaload, 0, 0, 0, 0),
  (145, .aload_n 0, 0, 0, 0, 0),
  (146, .iload 4, 0, 0, 0, 0),
  (148, .iconst (3), 0, 0, 0, 3),
  (149, .iadd, 0, 0, 0, 0),
  (150, .iaload, 0, 0, 0, 0),
  (151, .aload_n 0, 0, 0, 0, 0),
  (152, .iload 4, 0, 0, 0, 0),
  (154, .iconst (4), 0, 0, 0, 4),
  (155, .iadd, 0, 0, 0, 0),
  (156, .iaload, 0, 0, 0, 0),
  (157, .aload_n 0, 0, 0, 0, 0),
  (158, .iload 4, 0, 0, 0, 0),
  (160, .iconst (5), 0, 0, 0, 5),
  (161, .iadd, 0, 0, 0, 0),
  (162, .iaload, 0, 0, 0, 0),
  (163, .invokevirtual 34, 1, 6, 1, 0),
  (166, .aload_n 2, 0, 0, 0, 0),
  (167, .aload_n 0, 0, 0, 0, 0),
  (168, .iload 4, 0, 0, 0, 0),
  (170, .iconst (1), 0, 0, 0, 1),
  (171, .iadd, 0, 0, 0, 0),
  (172, .iaload, 0, 0, 0, 0),
  (173, .aload_n 0, 0, 0, 0, 0),
  (174, .iload 4, 0, 0, 0, 0),
  (176, .iconst (2), 0, 0, 0, 2),
  (177, .iadd, 0, 0, 0, 0),
  (178, .iaload, 0, 0, 0, 0),
  (179, .aload_n 0, 0, 0, 0, 0),
  (180, .iload 4, 0, 0, 0, 0),
  (182, .iconst (3), 0, 0, 0, 3),
  (183, .iadd, 0, 0, 0, 0),
  (184, .iaload, 0, 0, 0, 0),
  (185, .aload_n 0, 0, 0, 0, 0),
  (186, .iload 4, 0, 0, 0, 0),
  (188, .iconst (4), 0, 0, 0, 4),
  (189, .iadd, 0, 0, 0, 0),
  (190, .iaload, 0, 0, 0, 0),
  (191, .aload_n 0, 0, 0, 0, 0),
  (192, .iload 4, 0, 0, 0, 0),
  (194, .iconst (5), 0, 0, 0, 5),
  (195, .iadd, 0, 0, 0, 0),
  (196, .iaload, 0, 0, 0, 0),
  (197, .invokevirtual 38, 26, 6, 2, 0),
  (200, .goto (569), 769, 0, 0, 0),
  (203, .aload_n 1, 0, 0, 0, 0),
  (204, .aload_n 0, 0, 0, 0, 0),
  (205, .iload 4, 0, 0, 0, 0),
  (207, .iconst (1), 0, 0, 0, 1),
  (208, .iadd, 0, 0, 0, 0),
  (209, .iaload, 0, 0, 0, 0),
  (210, .aload_n 0, 0, 0, 0, 0),
  (211, .iload 4, 0, 0, 0, 0),
  (213, .iconst (2), 0, 0, 0, 2),
  (214, .iadd, 0, 0, 0, 0),
  (215, .iaload, 0, 0, 0, 0),
  (216, .invokevirtual 39, 2, 3, 1, 0),
  (219, .aload_n 2, 0, 0, 0, 0),
  (220, .aload_n 0, 0, 0, 0, 0),
  (221, .iload 4, 0, 0, 0, 0),
  (223, .iconst (1), 0, 0, 0, 1),
  (224, .iadd, 0, 0, 0, 0),
  (225, .iaload, 0, 0, 0, 0),
  (226, .aload_n 0, 0, 0, 0, 0),
  (227, .iload 4, 0, 0, 0, 0),
  (229, .iconst (2), 0, 0, 0, 2),
  (230, .iadd, 0, 0, 0, 0),
  (231, .iaload, 0, 0, 0, 0),
  (232, .invokevirtual 43, 27, 3, 2, 0),
  (235, .if_icmp .eq (534), 769, 0, 0, 0),
  (238, .iconst (0), 0, 0, 0, 0),
  (239, .ireturn, 1, 0, 0, 0),
  (240, .aload_n 1, 0, 0, 0, 0),
  (241, .aload_n 0, 0, 0, 0, 0),
  (242, .iload 4, 0, 0, 0, 0),
  (244, .iconst (1), 0, 0, 0, 1),
  (245, .iadd, 0, 0, 0, 0),
  (246, .iaload, 0, 0, 0, 0),
  (247, .invokevirtual 44, 3, 2, 1, 0),
  (250, .aload_n 2, 0, 0, 0, 0),
  (251, .aload_n 0, 0, 0, 0, 0),
  (252, .iload 4, 0, 0, 0, 0),
  (254, .iconst (1), 0, 0, 0, 1),
  (255, .iadd, 0, 0, 0, 0),
  (256, .iaload, 0, 0, 0, 0),
  (257, .invokevirtual 48, 28, 2, 2, 0),
  (260, .if_icmp .eq (509), 769, 0, 0, 0),
  (263, .iconst (0), 0, 0, 0, 0),
  (264, .ireturn, 1, 0, 0, 0),
  (265, .aload_n 1, 0, 0, 0, 0),
  (266, .aload_n 0, 0, 0, 0, 0),
  (267, .iload 4, 0, 0, 0, 0),
  (269, .iconst (1), 0, 0, 0, 1),
  (270, .iadd, 0, 0, 0, 0),
  (271, .iaload, 0, 0, 0, 0),
  (272, .aload_n 0, 0, 0, 0, 0),
  (273, .iload 4, 0, 0, 0, 0),
  (275, .iconst (2), 0, 0, 0, 2),
  (276, .iadd, 0, 0, 0, 0),
  (277, .iaload, 0, 0, 0, 0),
  (278, .invokevirtual 49, 4, 3, 1, 0),
  (281, .aload_n 2, 0, 0, 0, 0),
  (282, .aload_n 0, 0, 0, 0, 0),
  (283, .iload 4, 0, 0, 0, 0),
  (285, .iconst (1), 0, 0, 0, 1),
  (286, .iadd, 0, 0, 0, 0),
  (287, .iaload, 0, 0, 0, 0),
  (288, .aload_n 0, 0, 0, 0, 0),
  (289, .iload 4, 0, 0, 0, 0),
  (291, .iconst (2), 0, 0, 0, 2),
  (292, .iadd, 0, 0, 0, 0),
  (293, .iaload, 0, 0, 0, 0),
  (294, .invokevirtual 53, 29, 3, 2, 0),
  (297, .if_icmp .eq (472), 769, 0, 0, 0),
  (300, .iconst (0), 0, 0, 0, 0),
  (301, .ireturn, 1, 0, 0, 0),
  (302, .aload_n 1, 0, 0, 0, 0),
  (303, .aload_n 3, 0, 0, 0, 0),
  (304, .invokestatic 54, 145, 2, 0, 0),
  (307, .istore 5, 0, 0, 0, 0),
  (309, .aload_n 2, 0, 0, 0, 0),
  (310, .invokevirtual 59, 30, 1, 2, 0),
  (313, .istore 6, 0, 0, 0, 0),
  (315, .aload_n 2, 0, 0, 0, 0),
  (316, .invokevirtual 60, 25, 1, 2, 0),
  (319, .iload 5, 0, 0, 0, 0),
  (321, .if_icmp .eq (5), 326, 0, 0, 0),
  (324, .iconst (0), 0, 0, 0, 0),
  (325, .ireturn, 1, 0, 0, 0),
  (326, .iload 5, 0, 0, 0, 0),
  (328, .ifCond .ne (15), 343, 0, 0, 0),
  (331, .aload_n 3, 0, 0, 0, 0),
  (332, .iconst (0), 0, 0, 0, 0),
  (333, .laload, 0, 0, 0, 0),
  (334, .iload 6, 0, 0, 0, 0),
  (336, .i2l, 0, 0, 0, 0),
  (337, .lcmp, 0, 0, 0, 0),
  (338, .ifCond .eq (5), 343, 0, 0, 0),
  (341, .iconst (0), 0, 0, 0, 0),
  (342, .ireturn, 1, 0, 0, 0),
  (343, .goto (426), 769, 0, 0, 0),
  (346, .aload_n 1, 0, 0, 0, 0),
  (347, .invokevirtual 63, 6, 1, 1, 0),
  (350, .aload_n 2, 0, 0, 0, 0),
  (351, .invokevirtual 66, 31, 1, 2, 0),
  (354, .if_icmp .eq (415), 769, 0, 0, 0),
  (357, .iconst (0), 0, 0, 0, 0),
  (358, .ireturn, 1, 0, 0, 0),
  (359, .aload_n 1, 0, 0, 0, 0),
  (360, .invokevirtual 67, 7, 1, 1, 0),
  (363, .aload_n 2, 0, 0, 0, 0),
  (364, .invokevirtual 70, 46, 1, 2, 0),
  (367, .if_icmp .eq (402), 769, 0, 0, 0),
  (370, .iconst (0), 0, 0, 0, 0),
  (371, .ireturn, 1, 0, 0, 0),
  (372, .aload_n 1, 0, 0, 0, 0),
  (373, .invokevirtual 71, 8, 1, 1, 0),
  (376, .aload_n 2, 0, 0, 0, 0),
  (377, .invokevirtual 74, 47, 1, 2, 0),
  (380, .if_icmp .eq (389), 769, 0, 0, 0),
  (383, .iconst (0), 0, 0, 0, 0),
  (384, .ireturn, 1, 0, 0, 0),
  (385, .aload_n 1, 0, 0, 0, 0),
  (386, .aload_n 0, 0, 0, 0, 0),
  (387, .iload 4, 0, 0, 0, 0),
  (389, .iconst (1), 0, 0, 0, 1),
  (390, .iadd, 0, 0, 0, 0),
  (391, .iaload, 0, 0, 0, 0),
  (392, .aload_n 0, 0, 0, 0, 0),
  (393, .iload 4, 0, 0, 0, 0),
  (395, .iconst (2), 0, 0, 0, 2),
  (396, .iadd, 0, 0, 0, 0),
  (397, .iaload, 0, 0, 0, 0),
  (398, .invokevirtual 75, 9, 3, 1, 0),
  (401, .aload_n 2, 0, 0, 0, 0),
  (402, .aload_n 0, 0, 0, 0, 0),
  (403, .iload 4, 0, 0, 0, 0),
  (405, .iconst (1), 0, 0, 0, 1),
  (406, .iadd, 0, 0, 0, 0),
  (407, .iaload, 0, 0, 0, 0),
  (408, .aload_n 0, 0, 0, 0, 0),
  (409, .iload 4, 0, 0, 0, 0),
  (411, .iconst (2), 0, 0, 0, 2),
  (412, .iadd, 0, 0, 0, 0),
  (413, .iaload, 0, 0, 0, 0),
  (414, .invokevirtual 78, 48, 3, 2, 0),
  (417, .if_icmp .eq (352), 769, 0, 0, 0),
  (420, .iconst (0), 0, 0, 0, 0),
  (421, .ireturn, 1, 0, 0, 0),
  (422, .aload_n 1, 0, 0, 0, 0),
  (423, .invokevirtual 79, 10, 1, 1, 0),
  (426, .aload_n 2, 0, 0, 0, 0),
  (427, .invokevirtual 82, 49, 1, 2, 0),
  (430, .if_icmp .eq (339), 769, 0, 0, 0),
  (433, .iconst (0), 0, 0, 0, 0),
  (434, .ireturn, 1, 0, 0, 0),
  (435, .aload_n 1, 0, 0, 0, 0),
  (436, .aload_n 0, 0, 0, 0, 0),
  (437, .iload 4, 0, 0, 0, 0),
  (439, .iconst (1), 0, 0, 0, 1),
  (440, .iadd, 0, 0, 0, 0),
  (441, .iaload, 0, 0, 0, 0),
  (442, .aload_n 0, 0, 0, 0, 0),
  (443, .iload 4, 0, 0, 0, 0),
  (445, .iconst (2), 0, 0, 0, 2),
  (446, .iadd, 0, 0, 0, 0),
  (447, .iaload, 0, 0, 0, 0),
  (448, .invokevirtual 83, 11, 3, 1, 0),
  (451, .aload_n 2, 0, 0, 0, 0),
  (452, .aload_n 0, 0, 0, 0, 0),
  (453, .iload 4, 0, 0, 0, 0),
  (455, .iconst (1), 0, 0, 0, 1),
  (456, .iadd, 0, 0, 0, 0),
  (457, .iaload, 0, 0, 0, 0),
  (458, .aload_n 0, 0, 0, 0, 0),
  (459, .iload 4, 0, 0, 0, 0),
  (461, .iconst (2), 0, 0, 0, 2),
  (462, .iadd, 0, 0, 0, 0),
  (463, .iaload, 0, 0, 0, 0),
  (464, .invokevirtual 86, 50, 3, 2, 0),
  (467, .if_icmp .eq (302), 769, 0, 0, 0),
  (470, .iconst (0), 0, 0, 0, 0),
  (471, .ireturn, 1, 0, 0, 0),
  (472, .aload_n 1, 0, 0, 0, 0),
  (473, .aload_n 0, 0, 0, 0, 0),
  (474, .iload 4, 0, 0, 0, 0),
  (476, .iconst (1), 0, 0, 0, 1),
  (477, .iadd, 0, 0, 0, 0),
  (478, .iaload, 0, 0, 0, 0),
  (479, .aload_n 0, 0, 0, 0, 0),
  (480, .iload 4, 0, 0, 0, 0),
  (482, .iconst (2), 0, 0, 0, 2),
  (483, .iadd, 0, 0, 0, 0),
  (484, .iaload, 0, 0, 0, 0),
  (485, .aload_n 0, 0, 0, 0, 0),
  (486, .iload 4, 0, 0, 0, 0),
  (488, .iconst (3), 0, 0, 0, 3),
  (489, .iadd, 0, 0, 0, 0),
  (490, .iaload, 0, 0, 0, 0),
  (491, .invokevirtual 87, 12, 4, 1, 0),
  (494, .aload_n 2, 0, 0, 0, 0),
  (495, .aload_n 0, 0, 0, 0, 0),
  (496, .iload 4, 0, 0, 0, 0),
  (498, .iconst (1), 0, 0, 0, 1),
  (499, .iadd, 0, 0, 0, 0),
  (500, .iaload, 0, 0, 0, 0),
  (501, .aload_n 0, 0, 0, 0, 0),
  (502, .iload 4, 0, 0, 0, 0),
  (504, .iconst (2), 0, 0, 0, 2),
  (505, .iadd, 0, 0, 0, 0),
  (506, .iaload, 0, 0, 0, 0),
  (507, .aload_n 0, 0, 0, 0, 0),
  (508, .iload 4, 0, 0, 0, 0),
  (510, .iconst (3), 0, 0, 0, 3),
  (511, .iadd, 0, 0, 0, 0),
  (512, .iaload, 0, 0, 0, 0),
  (513, .invokevirtual 91, 51, 4, 2, 0),
  (516, .if_icmp .eq (253), 769, 0, 0, 0),
  (519, .iconst (0), 0, 0, 0, 0),
  (520, .ireturn, 1, 0, 0, 0),
  (521, .aload_n 1, 0, 0, 0, 0),
  (522, .aload_n 3, 0, 0, 0, 0),
  (523, .invokestatic 92, 146, 2, 0, 0),
  (526, .istore 5, 0, 0, 0, 0),
  (528, .aload_n 2, 0, 0, 0, 0),
  (529, .invokevirtual 94, 61, 1, 2, 0),
  (532, .istore 6, 0, 0, 0, 0),
  (534, .aload_n 2, 0, 0, 0, 0),
  (535, .invokevirtual 60, 25, 1, 2, 0),
  (538, .iload 5, 0, 0, 0, 0),
  (540, .if_icmp .eq (5), 545, 0, 0, 0),
  (543, .iconst (0), 0, 0, 0, 0),
  (544, .ireturn, 1, 0, 0, 0),
  (545, .iload 5, 0, 0, 0, 0),
  (547, .ifCond .ne (15), 562, 0, 0, 0),
  (550, .aload_n 3, 0, 0, 0, 0),
  (551, .iconst (0), 0, 0, 0, 0),
  (552, .laload, 0, 0, 0, 0),
  (553, .iload 6, 0, 0, 0, 0),
  (555, .i2l, 0, 0, 0, 0),
  (556, .lcmp, 0, 0, 0, 0),
  (557, .ifCond .eq (5), 562, 0, 0, 0),
  (560, .iconst (0), 0, 0, 0, 0),
  (561, .ireturn, 1, 0, 0, 0),
  (562, .goto (207), 769, 0, 0, 0),
  (565, .aload_n 1, 0, 0, 0, 0),
  (566, .aload_n 0, 0, 0, 0, 0),
  (567, .iload 4, 0, 0, 0, 0),
  (569, .iconst (1), 0, 0, 0, 1),
  (570, .iadd, 0, 0, 0, 0),
  (571, .iaload, 0, 0, 0, 0),
  (572, .invokevirtual 95, 14, 2, 1, 0),
  (575, .aload_n 2, 0, 0, 0, 0),
  (576, .aload_n 0, 0, 0, 0, 0),
  (577, .iload 4, 0, 0, 0, 0),
  (579, .iconst (1), 0, 0, 0, 1),
  (580, .iadd, 0, 0, 0, 0),
  (581, .iaload, 0, 0, 0, 0),
  (582, .invokevirtual 98, 62, 2, 2, 0),
  (585, .if_icmp .eq (184), 769, 0, 0, 0),
  (588, .iconst (0), 0, 0, 0, 0),
  (589, .ireturn, 1, 0, 0, 0),
  (590, .aload_n 1, 0, 0, 0, 0),
  (591, .aload_n 0, 0, 0, 0, 0),
  (592, .iload 4, 0, 0, 0, 0),
  (594, .iconst (1), 0, 0, 0, 1),
  (595, .iadd, 0, 0, 0, 0),
  (596, .iaload, 0, 0, 0, 0),
  (597, .invokevirtual 99, 15, 2, 1, 0),
  (600, .aload_n 2, 0, 0, 0, 0),
  (601, .aload_n 0, 0, 0, 0, 0),
  (602, .iload 4, 0, 0, 0, 0),
  (604, .iconst (1), 0, 0, 0, 1),
  (605, .iadd, 0, 0, 0, 0),
  (606, .iaload, 0, 0, 0, 0),
  (607, .invokevirtual 102, 63, 2, 2, 0),
  (610, .if_icmp .eq (159), 769, 0, 0, 0),
  (613, .iconst (0), 0, 0, 0, 0),
  (614, .ireturn, 1, 0, 0, 0),
  (615, .aload_n 1, 0, 0, 0, 0),
  (616, .aload_n 0, 0, 0, 0, 0),
  (617, .iload 4, 0, 0, 0, 0),
  (619, .iconst (1), 0, 0, 0, 1),
  (620, .iadd, 0, 0, 0, 0),
  (621, .iaload, 0, 0, 0, 0),
  (622, .aload_n 0, 0, 0, 0, 0),
  (623, .iload 4, 0, 0, 0, 0),
  (625, .iconst (2), 0, 0, 0, 2),
  (626, .iadd, 0, 0, 0, 0),
  (627, .iaload, 0, 0, 0, 0),
  (628, .invokestatic 103, 147, 3, 0, 0),
  (631, .istore 5, 0, 0, 0, 0),
  (633, .aload_n 2, 0, 0, 0, 0),
  (634, .aload_n 0, 0, 0, 0, 0),
  (635, .iload 4, 0, 0, 0, 0),
  (637, .iconst (1), 0, 0, 0, 1),
  (638, .iadd, 0, 0, 0, 0),
  (639, .iaload, 0, 0, 0, 0),
  (640, .aload_n 0, 0, 0, 0, 0),
  (641, .iload 4, 0, 0, 0, 0),
  (643, .iconst (2), 0, 0, 0, 2),
  (644, .iadd, 0, 0, 0, 0),
  (645, .iaload, 0, 0, 0, 0),
  (646, .invokevirtual 106, 64, 3, 2, 0),
  (649, .aload_n 2, 0, 0, 0, 0),
  (650, .invokevirtual 60, 25, 1, 2, 0),
  (653, .iload 5, 0, 0, 0, 0),
  (655, .if_icmp .eq (5), 660, 0, 0, 0),
  (658, .iconst (0), 0, 0, 0, 0),
  (659, .ireturn, 1, 0, 0, 0),
  (660, .goto (109), 769, 0, 0, 0),
  (663, .aload_n 1, 0, 0, 0, 0),
  (664, .aload_n 0, 0, 0, 0, 0),
  (665, .iload 4, 0, 0, 0, 0),
  (667, .iconst (1), 0, 0, 0, 1),
  (668, .iadd, 0, 0, 0, 0),
  (669, .iaload, 0, 0, 0, 0),
  (670, .aload_n 3, 0, 0, 0, 0),
  (671, .invokestatic 107, 148, 3, 0, 0),
  (674, .istore 5, 0, 0, 0, 0),
  (676, .aload_n 2, 0, 0, 0, 0),
  (677, .aload_n 0, 0, 0, 0, 0),
  (678, .iload 4, 0, 0, 0, 0),
  (680, .iconst (1), 0, 0, 0, 1),
  (681, .iadd, 0, 0, 0, 0),
  (682, .iaload, 0, 0, 0, 0),
  (683, .invokevirtual 110, 65, 2, 2, 0),
  (686, .istore 6, 0, 0, 0, 0),
  (688, .aload_n 2, 0, 0, 0, 0),
  (689, .invokevirtual 60, 25, 1, 2, 0),
  (692, .iload 5, 0, 0, 0, 0),
  (694, .if_icmp .eq (5), 699, 0, 0, 0),
  (697, .iconst (0), 0, 0, 0, 0),
  (698, .ireturn, 1, 0, 0, 0),
  (699, .iload 5, 0, 0, 0, 0),
  (701, .ifCond .ne (15), 716, 0, 0, 0),
  (704, .aload_n 3, 0, 0, 0, 0),
  (705, .iconst (0), 0, 0, 0, 0),
  (706, .laload, 0, 0, 0, 0),
  (707, .iload 6, 0, 0, 0, 0),
  (709, .i2l, 0, 0, 0, 0),
  (710, .lcmp, 0, 0, 0, 0),
  (711, .ifCond .eq (5), 716, 0, 0, 0),
  (714, .iconst (0), 0, 0, 0, 0),
  (715, .ireturn, 1, 0, 0, 0),
  (716, .goto (53), 769, 0, 0, 0),
  (719, .aload_n 1, 0, 0, 0, 0),
  (720, .aload_n 0, 0, 0, 0, 0),
  (721, .iload 4, 0, 0, 0, 0),
  (723, .iconst (1), 0, 0, 0, 1),
  (724, .iadd, 0, 0, 0, 0),
  (725, .iaload, 0, 0, 0, 0),
  (726, .invokevirtual 111, 18, 2, 1, 0),
  (729, .aload_n 2, 0, 0, 0, 0),
  (730, .aload_n 0, 0, 0, 0, 0),
  (731, .iload 4, 0, 0, 0, 0),
  (733, .iconst (1), 0, 0, 0, 1),
  (734, .iadd, 0, 0, 0, 0),
  (735, .iaload, 0, 0, 0, 0),
  (736, .invokevirtual 114, 66, 2, 2, 0),
  (739, .if_icmp .eq (30), 769, 0, 0, 0),
  (742, .iconst (0), 0, 0, 0, 0),
  (743, .ireturn, 1, 0, 0, 0),
  (744, .aload_n 1, 0, 0, 0, 0),
  (745, .aload_n 0, 0, 0, 0, 0),
  (746, .iload 4, 0, 0, 0, 0),
  (748, .iconst (1), 0, 0, 0, 1),
  (749, .iadd, 0, 0, 0, 0),
  (750, .iaload, 0, 0, 0, 0),
  (751, .invokevirtual 115, 19, 2, 1, 0),
  (754, .aload_n 2, 0, 0, 0, 0),
  (755, .aload_n 0, 0, 0, 0, 0),
  (756, .iload 4, 0, 0, 0, 0),
  (758, .iconst (1), 0, 0, 0, 1),
  (759, .iadd, 0, 0, 0, 0),
  (760, .iaload, 0, 0, 0, 0),
  (761, .invokevirtual 118, 67, 2, 2, 0),
  (764, .if_icmp .eq (5), 769, 0, 0, 0),
  (767, .iconst (0), 0, 0, 0, 0),
  (768, .ireturn, 1, 0, 0, 0),
  (769, .iinc 4 (6), 0, 0, 0, 6),
  (772, .goto (-749), 23, 0, 0, 0),
  (775, .iconst (1), 0, 0, 0, 1),
  (776, .ireturn, 1, 0, 0, 0)]
def tz_coL : List (List ez_C) := [cz_0, cz_1, cz_2, cz_3, cz_4, cz_5, cz_6, cz_7, cz_8, cz_9, cz_10, cz_11, cz_12, cz_13, cz_14, cz_15, cz_16, cz_17, cz_18, cz_19, cz_20, cz_21, cz_22, cz_23, cz_24, cz_25, cz_26, cz_27, cz_28, cz_29, cz_30, cz_31, cz_32, cz_33, cz_34, cz_35, cz_36, cz_37, cz_38, cz_39, cz_40, cz_41, cz_42, cz_43, cz_44, cz_45, cz_46, cz_47, cz_48, cz_49, cz_50, cz_51, cz_52, cz_53, cz_54, cz_55, cz_56, cz_57, cz_58, cz_59, cz_60, cz_61, cz_62, cz_63, cz_64, cz_65, cz_66, cz_67, cz_68, cz_69, cz_70, cz_71, cz_72, cz_73, cz_74, cz_75, cz_76, cz_77, cz_78, cz_79, cz_80, cz_81, cz_82, cz_83, cz_84, cz_85, cz_86, cz_87, cz_88, cz_89, cz_90, cz_91, cz_92, cz_93, cz_94, cz_95, cz_96, cz_97, cz_98, cz_99, cz_100, cz_101, cz_102, cz_103, cz_104, cz_105, cz_106, cz_107, cz_108, cz_109, cz_110, cz_111, cz_112, cz_113, cz_114, cz_115, cz_116, cz_117, cz_118, cz_119, cz_120, cz_121, cz_122, cz_123, cz_124, cz_125, cz_126, cz_127, cz_128, cz_129, cz_130, cz_131, cz_132, cz_133, cz_134, cz_135, cz_136, cz_137, cz_138, cz_139, cz_140, cz_141, cz_142, cz_143, cz_144, cz_145, cz_146, cz_147, cz_148, cz_149, cz_150]
def tz_co (n : Nat) : List ez_C := tz_coL.getD n []
end
section
def tz_o1 (tb : List Cond) (n : Nat) (q : ez_C) : Bool := ez_ok1b tz_nf tz_ty tz_sta tz_nm tz_by tz_ml tz_re tz_hh tb 13 150 tz_ct tz_cn "PackDesk" tz_thr n q
theorem ez_ch2 {α : Type} {f : α → Bool} (k : Nat) (cs : List α) (h1 : (cs.take k).all f = true) (h2 : (cs.drop k).all f = true) : cs.all f = true := by
  rw [← List.take_append_drop k cs, List.all_append, h1, h2]
  rfl
set_option maxRecDepth 100000 in
theorem tz_a_0_0 : ((cz_0).take 25).all (tz_o1 tz_tb0 0) = true := by decide +kernel
set_option maxRecDepth 100000 in
theorem tz_a_0_1 : (((cz_0).drop 25).take 25).all (tz_o1 tz_tb0 0) = true := by decide +kernel
set_option maxRecDepth 100000 in
theorem tz_a_0_2 : ((((cz_0).drop 25).drop 25).take 25).all (tz_o1 tz_tb0 0) = true := by decide +kernel
theorem tz_al_0 : cz_0.all (tz_o1 tz_tb0 0) = true := ez_ch2 25 (cz_0) tz_a_0_0 (ez_ch2 25 ((cz_0).drop 25) tz_a_0_1 (ez_ch2 25 (((cz_0).drop 25).drop 25) tz_a_0_2 (rfl)))
set_option maxRecDepth 100000 in
theorem tz_a_1_0 : ((cz_1).take 25).all (tz_o1 tz_tb0 1) = true := by decide +kernel
theorem tz_al_1 : cz_1.all (tz_o1 tz_tb0 1) = true := ez_ch2 25 (cz_1) tz_a_1_0 (rfl)
set_option maxRecDepth 100000 in
theorem tz_a_2_0 : ((cz_2).take 25).all (tz_o1 tz_tb0 2) = true := by decide +kernel
set_option maxRecDepth 100000 in
theorem tz_a_2_1 : (((cz_2).drop 25).take 25).all (tz_o1 tz_tb0 2) = true := by decide +kernel
set_option maxRecDepth 100000 in
theorem tz_a_2_2 : ((((cz_2).drop 25).drop 25).take 25).all (tz_o1 tz_tb0 2) = true := by decide +kernel
theorem tz_al_2 : cz_2.all (tz_o1 tz_tb0 2) = true := ez_ch2 25 (cz_2) tz_a_2_0 (ez_ch2 25 ((cz_2).drop 25) tz_a_2_1 (ez_ch2 25 (((cz_2).drop 25).drop 25) tz_a_2_2 (rfl)))
set_option maxRecDepth 100000 in
theorem tz_a_3_0 : ((cz_3).take 25).all (tz_o1 tz_tb0 3) = true := by decide +kernel
theorem tz_al_3 : cz_3.all (tz_o1 tz_tb0 3) = true := ez_ch2 25 (cz_3) tz_a_3_0 (rfl)
set_option maxRecDepth 100000 in
theorem tz_a_4_0 : ((cz_4).take 25).all (tz_o1 tz_tb0 4) = true := by decide +kernel
theorem tz_al_4 : cz_4.all (tz_o1 tz_tb0 4) = true := ez_ch2 25 (cz_4) tz_a_4_0 (rfl)
set_option maxRecDepth 100000 in
theorem tz_a_5_0 : ((cz_5).take 25).all (tz_o1 tz_tb0 5) = true := by decide +kernel
theorem tz_al_5 : cz_5.all (tz_o1 tz_tb0 5) = true := ez_ch2 25 (cz_5) tz_a_5_0 (rfl)
set_option maxRecDepth 100000 in
theorem tz_a_6_0 : ((cz_6).take 25).all (tz_o1 tz_tb0 6) = true := by decide +kernel
set_option maxRecDepth 100000 in
theorem tz_a_6_1 : (((cz_6).drop 25).take 25).all (tz_o1 tz_tb0 6) = true := by decide +kernel
theorem tz_al_6 : cz_6.all (tz_o1 tz_tb0 6) = true := ez_ch2 25 (cz_6) tz_a_6_0 (ez_ch2 25 ((cz_6).drop 25) tz_a_6_1 (rfl))
set_option maxRecDepth 100000 in
theorem tz_a_7_0 : ((cz_7).take 25).all (tz_o1 tz_tb0 7) = true := by decide +kernel
theorem tz_al_7 : cz_7.all (tz_o1 tz_tb0 7) = true := ez_ch2 25 (cz_7) tz_a_7_0 (rfl)
set_option maxRecDepth 100000 in
theorem tz_a_8_0 : ((cz_8).take 25).all (tz_o1 tz_tb0 8) = true := by decide +kernel
theorem tz_al_8 : cz_8.all (tz_o1 tz_tb0 8) = true := ez_ch2 25 (cz_8) tz_a_8_0 (rfl)
set_option maxRecDepth 100000 in
theorem tz_a_9_0 : ((cz_9).take 25).all (tz_o1 tz_tb0 9) = true := by decide +kernel
set_option maxRecDepth 100000 in
theorem tz_a_9_1 : (((cz_9).drop 25).take 25).all (tz_o1 tz_tb0 9) = true := by decide +kernel
theorem tz_al_9 : cz_9.all (tz_o1 tz_tb0 9) = true := ez_ch2 25 (cz_9) tz_a_9_0 (ez_ch2 25 ((cz_9).drop 25) tz_a_9_1 (rfl))
set_option maxRecDepth 100000 in
theorem tz_a_10_0 : ((cz_10).take 25).all (tz_o1 tz_tb0 10) = true := by decide +kernel
theorem tz_al_10 : cz_10.all (tz_o1 tz_tb0 10) = true := ez_ch2 25 (cz_10) tz_a_10_0 (rfl)
set_option maxRecDepth 100000 in
theorem tz_a_11_0 : ((cz_11).take 25).all (tz_o1 tz_tb0 11) = true := by decide +kernel
theorem tz_al_11 : cz_11.all (tz_o1 tz_tb0 11) = true := ez_ch2 25 (cz_11) tz_a_11_0 (rfl)
set_option maxRecDepth 100000 in
theorem tz_a_12_0 : ((cz_12).take 25).all (tz_o1 tz_tb0 12) = true := by decide +kernel
theorem tz_al_12 : cz_12.all (tz_o1 tz_tb0 12) = true := ez_ch2 25 (cz_12) tz_a_12_0 (rfl)
set_option maxRecDepth 100000 in
theorem tz_a_13_0 : ((cz_13).take 25).all (tz_o1 tz_tb0 13) = true := by decide +kernel
set_option maxRecDepth 100000 in
theorem tz_a_13_1 : (((cz_13).drop 25).take 25).all (tz_o1 tz_tb0 13) = true := by decide +kernel
theorem tz_al_13 : cz_13.all (tz_o1 tz_tb0 13) = true := ez_ch2 25 (cz_13) tz_a_13_0 (ez_ch2 25 ((cz_13).drop 25) tz_a_13_1 (rfl))
set_option maxRecDepth 100000 in
theorem tz_a_14_0 : ((cz_14).take 25).all (tz_o1 tz_tb0 14) = true := by decide +kernel
theorem tz_al_14 : cz_14.all (tz_o1 tz_tb0 14) = true := ez_ch2 25 (cz_14) tz_a_14_0 (rfl)
set_option maxRecDepth 100000 in
theorem tz_a_15_0 : ((cz_15).take 25).all (tz_o1 tz_tb0 15) = true := by decide +kernel
theorem tz_al_15 : cz_15.all (tz_o1 tz_tb0 15) = true := ez_ch2 25 (cz_15) tz_a_15_0 (rfl)
set_option maxRecDepth 100000 in
theorem tz_a_16_0 : ((cz_16).take 25).all (tz_o1 tz_tb0 16) = true := by decide +kernel
theorem tz_al_16 : cz_16.all (tz_o1 tz_tb0 16) = true := ez_ch2 25 (cz_16) tz_a_16_0 (rfl)
set_option maxRecDepth 100000 in
theorem tz_a_17_0 : ((cz_17).take 25).all (tz_o1 tz_tb0 17) = true := by decide +kernel
set_option maxRecDepth 100000 in
theorem tz_a_17_1 : (((cz_17).drop 25).take 25).all (tz_o1 tz_tb0 17) = true := by decide +kernel
theorem tz_al_17 : cz_17.all (tz_o1 tz_tb0 17) = true := ez_ch2 25 (cz_17) tz_a_17_0 (ez_ch2 25 ((cz_17).drop 25) tz_a_17_1 (rfl))
set_option maxRecDepth 100000 in
theorem tz_a_18_0 : ((cz_18).take 25).all (tz_o1 tz_tb0 18) = true := by decide +kernel
theorem tz_al_18 : cz_18.all (tz_o1 tz_tb0 18) = true := ez_ch2 25 (cz_18) tz_a_18_0 (rfl)
set_option maxRecDepth 100000 in
theorem tz_a_19_0 : ((cz_19).take 25).all (tz_o1 tz_tb0 19) = true := by decide +kernel
theorem tz_al_19 : cz_19.all (tz_o1 tz_tb0 19) = true := ez_ch2 25 (cz_19) tz_a_19_0 (rfl)
set_option maxRecDepth 100000 in
theorem tz_a_20_0 : ((cz_20).take 25).all (tz_o1 tz_tb0 20) = true := by decide +kernel
set_option maxRecDepth 100000 in
theorem tz_a_20_1 : (((cz_20).drop 25).take 25).all (tz_o1 tz_tb0 20) = true := by decide +kernel
theorem tz_al_20 : cz_20.all (tz_o1 tz_tb0 20) = true := ez_ch2 25 (cz_20) tz_a_20_0 (ez_ch2 25 ((cz_20).drop 25) tz_a_20_1 (rfl))
set_option maxRecDepth 100000 in
theorem tz_a_21_0 : ((cz_21).take 25).all (tz_o1 tz_tb0 21) = true := by decide +kernel
theorem tz_al_21 : cz_21.all (tz_o1 tz_tb0 21) = true := ez_ch2 25 (cz_21) tz_a_21_0 (rfl)
set_option maxRecDepth 100000 in
theorem tz_a_22_0 : ((cz_22).take 25).all (tz_o1 tz_tb0 22) = true := by decide +kernel
set_option maxRecDepth 100000 in
theorem tz_a_22_1 : (((cz_22).drop 25).take 25).all (tz_o1 tz_tb0 22) = true := by decide +kernel
theorem tz_al_22 : cz_22.all (tz_o1 tz_tb0 22) = true := ez_ch2 25 (cz_22) tz_a_22_0 (ez_ch2 25 ((cz_22).drop 25) tz_a_22_1 (rfl))
set_option maxRecDepth 100000 in
theorem tz_a_23_0 : ((cz_23).take 25).all (tz_o1 tz_tb0 23) = true := by decide +kernel
set_option maxRecDepth 100000 in
theorem tz_a_23_1 : (((cz_23).drop 25).take 25).all (tz_o1 tz_tb0 23) = true := by decide +kernel
theorem tz_al_23 : cz_23.all (tz_o1 tz_tb0 23) = true := ez_ch2 25 (cz_23) tz_a_23_0 (ez_ch2 25 ((cz_23).drop 25) tz_a_23_1 (rfl))
end
section
set_option maxRecDepth 100000 in
theorem tz_a_24_0 : ((cz_24).take 25).all (tz_o1 tz_tb1 24) = true := by decide +kernel
set_option maxRecDepth 100000 in
theorem tz_a_24_1 : (((cz_24).drop 25).take 25).all (tz_o1 tz_tb1 24) = true := by decide +kernel
set_option maxRecDepth 100000 in
theorem tz_a_24_2 : ((((cz_24).drop 25).drop 25).take 25).all (tz_o1 tz_tb1 24) = true := by decide +kernel
set_option maxRecDepth 100000 in
theorem tz_a_24_3 : (((((cz_24).drop 25).drop 25).drop 25).take 25).all (tz_o1 tz_tb1 24) = true := by decide +kernel
set_option maxRecDepth 100000 in
theorem tz_a_24_4 : ((((((cz_24).drop 25).drop 25).drop 25).drop 25).take 25).all (tz_o1 tz_tb1 24) = true := by decide +kernel
set_option maxRecDepth 100000 in
theorem tz_a_24_5 : (((((((cz_24).drop 25).drop 25).drop 25).drop 25).drop 25).take 25).all (tz_o1 tz_tb1 24) = true := by decide +kernel
set_option maxRecDepth 100000 in
theorem tz_a_24_6 : ((((((((cz_24).drop 25).drop 25).drop 25).drop 25).drop 25).drop 25).take 25).all (tz_o1 tz_tb1 24) = true := by decide +kernel
set_option maxRecDepth 100000 in
theorem tz_a_24_7 : (((((((((cz_24).drop 25).drop 25).drop 25).drop 25).drop 25).drop 25).drop 25).take 25).all (tz_o1 tz_tb1 24) = true := by decide +kernel
set_option maxRecDepth 100000 in
theorem tz_a_24_8 : ((((((((((cz_24).drop 25).drop 25).drop 25).drop 25).drop 25).drop 25).drop 25).drop 25).take 25).all (tz_o1 tz_tb1 24) = true := by decide +kernel
set_option maxRecDepth 100000 in
theorem tz_a_24_9 : (((((((((((cz_24).drop 25).drop 25).drop 25).drop 25).drop 25).drop 25).drop 25).drop 25).drop 25).take 25).all (tz_o1 tz_tb1 24) = true := by decide +kernel
set_option maxRecDepth 100000 in
theorem tz_a_24_10 : ((((((((((((cz_24).drop 25).drop 25).drop 25).drop 25).drop 25).drop 25).drop 25).drop 25).drop 25).drop 25).take 25).all (tz_o1 tz_tb1 24) = true := by decide +kernel
set_option maxRecDepth 100000 in
theorem tz_a_24_11 : (((((((((((((cz_24).drop 25).drop 25).drop 25).drop 25).drop 25).drop 25).drop 25).drop 25).drop 25).drop 25).drop 25).take 25).all (tz_o1 tz_tb1 24) = true := by decide +kernel
set_option maxRecDepth 100000 in
theorem tz_a_24_12 : ((((((((((((((cz_24).drop 25).drop 25).drop 25).drop 25).drop 25).drop 25).drop 25).drop 25).drop 25).drop 25).drop 25).drop 25).take 25).all (tz_o1 tz_tb1 24) = true := by decide +kernel
set_option maxRecDepth 100000 in
theorem tz_a_24_13 : (((((((((((((((cz_24).drop 25).drop 25).drop 25).drop 25).drop 25).drop 25).drop 25).drop 25).drop 25).drop 25).drop 25).drop 25).drop 25).take 25).all (tz_o1 tz_tb1 24) = true := by decide +kernel
set_option maxRecDepth 100000 in
theorem tz_a_24_14 : ((((((((((((((((cz_24).drop 25).drop 25).drop 25).drop 25).drop 25).drop 25).drop 25).drop 25).drop 25).drop 25).drop 25).drop 25).drop 25).drop 25).take 25).all (tz_o1 tz_tb1 24) = true := by decide +kernel
set_option maxRecDepth 100000 in
theorem tz_a_24_15 : (((((((((((((((((cz_24).drop 25).drop 25).drop 25).drop 25).drop 25).drop 25).drop 25).drop 25).drop 25).drop 25).drop 25).drop 25).drop 25).drop 25).drop 25).take 25).all (tz_o1 tz_tb1 24) = true := by decide +kernel
set_option maxRecDepth 100000 in
theorem tz_a_24_16 : ((((((((((((((((((cz_24).drop 25).drop 25).drop 25).drop 25).drop 25).drop 25).drop 25).drop 25).drop 25).drop 25).drop 25).drop 25).drop 25).drop 25).drop 25).drop 25).take 25).all (tz_o1 tz_tb1 24) = true := by decide +kernel
set_option maxRecDepth 100000 in
theorem tz_a_24_17 : (((((((((((((((((((cz_24).drop 25).drop 25).drop 25).drop 25).drop 25).drop 25).drop 25).drop 25).drop 25).drop 25).drop 25).drop 25).drop 25).drop 25).drop 25).drop 25).drop 25).take 25).all (tz_o1 tz_tb1 24) = true := by decide +kernel
set_option maxRecDepth 100000 in
theorem tz_a_24_18 : ((((((((((((((((((((cz_24).drop 25).drop 25).drop 25).drop 25).drop 25).drop 25).drop 25).drop 25).drop 25).drop 25).drop 25).drop 25).drop 25).drop 25).drop 25).drop 25).drop 25).drop 25).take 25).all (tz_o1 tz_tb1 24) = true := by decide +kernel
set_option maxRecDepth 100000 in
theorem tz_a_24_19 : (((((((((((((((((((((cz_24).drop 25).drop 25).drop 25).drop 25).drop 25).drop 25).drop 25).drop 25).drop 25).drop 25).drop 25).drop 25).drop 25).drop 25).drop 25).drop 25).drop 25).drop 25).drop 25).take 25).all (tz_o1 tz_tb1 24) = true := by decide +kernel
set_option maxRecDepth 100000 in
theorem tz_a_24_20 : ((((((((((((((((((((((cz_24).drop 25).drop 25).drop 25).drop 25).drop 25).drop 25).drop 25).drop 25).drop 25).drop 25).drop 25).drop 25).drop 25).drop 25).drop 25).drop 25).drop 25).drop 25).drop 25).drop 25).take 25).all (tz_o1 tz_tb1 24) = true := by decide +kernel
set_option maxRecDepth 100000 in
theorem tz_a_24_21 : (((((((((((((((((((((((cz_24).drop 25).drop 25).drop 25).drop 25).drop 25).drop 25).drop 25).drop 25).drop 25).drop 25).drop 25).drop 25).drop 25).drop 25).drop 25).drop 25).drop 25).drop 25).drop 25).drop 25).drop 25).take 25).all (tz_o1 tz_tb1 24) = true := by decide +kernel
set_option maxRecDepth 100000 in
theorem tz_a_24_22 : ((((((((((((((((((((((((cz_24).drop 25).drop 25).drop 25).drop 25).drop 25).drop 25).drop 25).drop 25).drop 25).drop 25).drop 25).drop 25).drop 25).drop 25).drop 25).drop 25).drop 25).drop 25).drop 25).drop 25).drop 25).drop 25).take 25).all (tz_o1 tz_tb1 24) = true := by decide +kernel
set_option maxRecDepth 100000 in
theorem tz_a_24_23 : (((((((((((((((((((((((((cz_24).drop 25).drop 25).drop 25).drop 25).drop 25).drop 25).drop 25).drop 25).drop 25).drop 25).drop 25).drop 25).drop 25).drop 25).drop 25).drop 25).drop 25).drop 25).drop 25).drop 25).drop 25).drop 25).drop 25).take 25).all (tz_o1 tz_tb1 24) = true := by decide +kernel
set_option maxRecDepth 100000 in
theorem tz_a_24_24 : ((((((((((((((((((((((((((cz_24).drop 25).drop 25).drop 25).drop 25).drop 25).drop 25).drop 25).drop 25).drop 25).drop 25).drop 25).drop 25).drop 25).drop 25).drop 25).drop 25).drop 25).drop 25).drop 25).drop 25).drop 25).drop 25).drop 25).drop 25).take 25).all (tz_o1 tz_tb1 24) = true := by decide +kernel
set_option maxRecDepth 100000 in
theorem tz_a_24_25 : (((((((((((((((((((((((((((cz_24).drop 25).drop 25).drop 25).drop 25).drop 25).drop 25).drop 25).drop 25).drop 25).drop 25).drop 25).drop 25).drop 25).drop 25).drop 25).drop 25).drop 25).drop 25).drop 25).drop 25).drop 25).drop 25).drop 25).drop 25).drop 25).take 25).all (tz_o1 tz_tb1 24) = true := by decide +kernel
set_option maxRecDepth 100000 in
theorem tz_a_24_26 : ((((((((((((((((((((((((((((cz_24).drop 25).drop 25).drop 25).drop 25).drop 25).drop 25).drop 25).drop 25).drop 25).drop 25).drop 25).drop 25).drop 25).drop 25).drop 25).drop 25).drop 25).drop 25).drop 25).drop 25).drop 25).drop 25).drop 25).drop 25).drop 25).drop 25).take 25).all (tz_o1 tz_tb1 24) = true := by decide +kernel
set_option maxRecDepth 100000 in
theorem tz_a_24_27 : (((((((((((((((((((((((((((((cz_24).drop 25).drop 25).drop 25).drop 25).drop 25).drop 25).drop 25).drop 25).drop 25).drop 25).drop 25).drop 25).drop 25).drop 25).drop 25).drop 25).drop 25).drop 25).drop 25).drop 25).drop 25).drop 25).drop 25).drop 25).drop 25).drop 25).drop 25).take 25).all (tz_o1 tz_tb1 24) = true := by decide +kernel
set_option maxRecDepth 100000 in
theorem tz_a_24_28 : ((((((((((((((((((((((((((((((cz_24).drop 25).drop 25).drop 25).drop 25).drop 25).drop 25).drop 25).drop 25).drop 25).drop 25).drop 25).drop 25).drop 25).drop 25).drop 25).drop 25).drop 25).drop 25).drop 25).drop 25).drop 25).drop 25).drop 25).drop 25).drop 25).drop 25).drop 25).drop 25).take 25).all (tz_o1 tz_tb1 24) = true := by decide +kernel
set_option maxRecDepth 100000 in
theorem tz_a_24_29 : (((((((((((((((((((((((((((((((cz_24).drop 25).drop 25).drop 25).drop 25).drop 25).drop 25).drop 25).drop 25).drop 25).drop 25).drop 25).drop 25).drop 25).drop 25).drop 25).drop 25).drop 25).drop 25).drop 25).drop 25).drop 25).drop 25).drop 25).drop 25).drop 25).drop 25).drop 25).drop 25).drop 25).take 25).all (tz_o1 tz_tb1 24) = true := by decide +kernel
set_option maxRecDepth 100000 in
theorem tz_a_24_30 : ((((((((((((((((((((((((((((((((cz_24).drop 25).drop 25).drop 25).drop 25).drop 25).drop 25).drop 25).drop 25).drop 25).drop 25).drop 25).drop 25).drop 25).drop 25).drop 25).drop 25).drop 25).drop 25).drop 25).drop 25).drop 25).drop 25).drop 25).drop 25).drop 25).drop 25).drop 25).drop 25).drop 25).drop 25).take 25).all (tz_o1 tz_tb1 24) = true := by decide +kernel
theorem tz_al_24 : cz_24.all (tz_o1 tz_tb1 24) = true := ez_ch2 25 (cz_24) tz_a_24_0 (ez_ch2 25 ((cz_24).drop 25) tz_a_24_1 (ez_ch2 25 (((cz_24).drop 25).drop 25) tz_a_24_2 (ez_ch2 25 ((((cz_24).drop 25).drop 25).drop 25) tz_a_24_3 (ez_ch2 25 (((((cz_24).drop 25).drop 25).drop 25).drop 25) tz_a_24_4 (ez_ch2 25 ((((((cz_24).drop 25).drop 25).drop 25).drop 25).drop 25) tz_a_24_5 (ez_ch2 25 (((((((cz_24).drop 25).drop 25).drop 25).drop 25).drop 25).drop 25) tz_a_24_6 (ez_ch2 25 ((((((((cz_24).drop 25).drop 25).drop 25).drop 25).drop 25).drop 25).drop 25) tz_a_24_7 (ez_ch2 25 (((((((((cz_24).drop 25).drop 25).drop 25).drop 25).drop 25).drop 25).drop 25).drop 25) tz_a_24_8 (ez_ch2 25 ((((((((((cz_24).drop 25).drop 25).drop 25).drop 25).drop 25).drop 25).drop 25).drop 25).drop 25) tz_a_24_9 (ez_ch2 25 (((((((((((cz_24).drop 25).drop 25).drop 25).drop 25).drop 25).drop 25).drop 25).drop 25).drop 25).drop 25) tz_a_24_10 (ez_ch2 25 ((((((((((((cz_24).drop 25).drop 25).drop 25).drop 25).drop 25).drop 25).drop 25).drop 25).drop 25).drop 25).drop 25) tz_a_24_11 (ez_ch2 25 (((((((((((((cz_24).drop 25).drop 25).drop 25).drop 25).drop 25).drop 25).drop 25).drop 25).drop 25).drop 25).drop 25).drop 25) tz_a_24_12 (ez_ch2 25 ((((((((((((((cz_24).drop 25).drop 25).drop 25).drop 25).drop 25).drop 25).drop 25).drop 25).drop 25).drop 25).drop 25).drop 25).drop 25) tz_a_24_13 (ez_ch2 25 (((((((((((((((cz_24).drop 25).drop 25).drop 25).drop 25).drop 25).drop 25).drop 25).drop 25).drop 25).drop 25).drop 25).drop 25).drop 25).drop 25) tz_a_24_14 (ez_ch2 25 ((((((((((((((((cz_24).drop 25).drop 25).drop 25).drop 25).drop 25).drop 25).drop 25).drop 25).drop 25).drop 25).drop 25).drop 25).drop 25).drop 25).drop 25) tz_a_24_15 (ez_ch2 25 (((((((((((((((((cz_24).drop 25).drop 25).drop 25).drop 25).drop 25).drop 25).drop 25).drop 25).drop 25).drop 25).drop 25).drop 25).drop 25).drop 25).drop 25).drop 25) tz_a_24_16 (ez_ch2 25 ((((((((((((((((((cz_24).drop 25).drop 25).drop 25).drop 25).drop 25).drop 25).drop 25).drop 25).drop 25).drop 25).drop 25).drop 25).drop 25).drop 25).drop 25).drop 25).drop 25) tz_a_24_17 (ez_ch2 25 (((((((((((((((((((cz_24).drop 25).drop 25).drop 25).drop 25).drop 25).drop 25).drop 25).drop 25).drop 25).drop 25).drop 25).drop 25).drop 25).drop 25).drop 25).drop 25).drop 25).drop 25) tz_a_24_18 (ez_ch2 25 ((((((((((((((((((((cz_24).drop 25).drop 25).drop 25).drop 25).drop 25).drop 25).drop 25).drop 25).drop 25).drop 25).drop 25).drop 25).drop 25).drop 25).drop 25).drop 25).drop 25).drop 25).drop 25) tz_a_24_19 (ez_ch2 25 (((((((((((((((((((((cz_24).drop 25).drop 25).drop 25).drop 25).drop 25).drop 25).drop 25).drop 25).drop 25).drop 25).drop 25).drop 25).drop 25).drop 25).drop 25).drop 25).drop 25).drop 25).drop 25).drop 25) tz_a_24_20 (ez_ch2 25 ((((((((((((((((((((((cz_24).drop 25).drop 25).drop 25).drop 25).drop 25).drop 25).drop 25).drop 25).drop 25).drop 25).drop 25).drop 25).drop 25).drop 25).drop 25).drop 25).drop 25).drop 25).drop 25).drop 25).drop 25) tz_a_24_21 (ez_ch2 25 (((((((((((((((((((((((cz_24).drop 25).drop 25).drop 25).drop 25).drop 25).drop 25).drop 25).drop 25).drop 25).drop 25).drop 25).drop 25).drop 25).drop 25).drop 25).drop 25).drop 25).drop 25).drop 25).drop 25).drop 25).drop 25) tz_a_24_22 (ez_ch2 25 ((((((((((((((((((((((((cz_24).drop 25).drop 25).drop 25).drop 25).drop 25).drop 25).drop 25).drop 25).drop 25).drop 25).drop 25).drop 25).drop 25).drop 25).drop 25).drop 25).drop 25).drop 25).drop 25).drop 25).drop 25).drop 25).drop 25) tz_a_24_23 (ez_ch2 25 (((((((((((((((((((((((((cz_24).drop 25).drop 25).drop 25).drop 25).drop 25).drop 25).drop 25).drop 25).drop 25).drop 25).drop 25).drop 25).drop 25).drop 25).drop 25).drop 25).drop 25).drop 25).drop 25).drop 25).drop 25).drop 25).drop 25).drop 25) tz_a_24_24 (ez_ch2 25 ((((((((((((((((((((((((((cz_24).drop 25).drop 25).drop 25).drop 25).drop 25).drop 25).drop 25).drop 25).drop 25).drop 25).drop 25).drop 25).drop 25).drop 25).drop 25).drop 25).drop 25).drop 25).drop 25).drop 25).drop 25).drop 25).drop 25).drop 25).drop 25) tz_a_24_25 (ez_ch2 25 (((((((((((((((((((((((((((cz_24).drop 25).drop 25).drop 25).drop 25).drop 25).drop 25).drop 25).drop 25).drop 25).drop 25).drop 25).drop 25).drop 25).drop 25).drop 25).drop 25).drop 25).drop 25).drop 25).drop 25).drop 25).drop 25).drop 25).drop 25).drop 25).drop 25) tz_a_24_26 (ez_ch2 25 ((((((((((((((((((((((((((((cz_24).drop 25).drop 25).drop 25).drop 25).drop 25).drop 25).drop 25).drop 25).drop 25).drop 25).drop 25).drop 25).drop 25).drop 25).drop 25).drop 25).drop 25).drop 25).drop 25).drop 25).drop 25).drop 25).drop 25).drop 25).drop 25).drop 25).drop 25) tz_a_24_27 (ez_ch2 25 (((((((((((((((((((((((((((((cz_24).drop 25).drop 25).drop 25).drop 25).drop 25).drop 25).drop 25).drop 25).drop 25).drop 25).drop 25).drop 25).drop 25).drop 25).drop 25).drop 25).drop 25).drop 25).drop 25).drop 25).drop 25).drop 25).drop 25).drop 25).drop 25).drop 25).drop 25).drop 25) tz_a_24_28 (ez_ch2 25 ((((((((((((((((((((((((((((((cz_24).drop 25).drop 25).drop 25).drop 25).drop 25).drop 25).drop 25).drop 25).drop 25).drop 25).drop 25).drop 25).drop 25).drop 25).drop 25).drop 25).drop 25).drop 25).drop 25).drop 25).drop 25).drop 25).drop 25).drop 25).drop 25).drop 25).drop 25).drop 25).drop 25) tz_a_24_29 (ez_ch2 25 (((((((((((((((((((((((((((((((cz_24).drop 25).drop 25).drop 25).drop 25).drop 25).drop 25).drop 25).drop 25).drop 25).drop 25).drop 25).drop 25).drop 25).drop 25).drop 25).drop 25).drop 25).drop 25).drop 25).drop 25).drop 25).drop 25).drop 25).drop 25).drop 25).drop 25).drop 25).drop 25).drop 25).drop 25) tz_a_24_30 (rfl)))))))))))))))))))))))))))))))
end
section
set_option maxRecDepth 100000 in
theorem tz_a_25_0 : ((cz_25).take 25).all (tz_o1 tz_tb1 25) = true := by decide +kernel
theorem tz_al_25 : cz_25.all (tz_o1 tz_tb1 25) = true := ez_ch2 25 (cz_25) tz_a_25_0 (rfl)
set_option maxRecDepth 100000 in
theorem tz_a_26_0 : ((cz_26).take 25).all (tz_o1 tz_tb1 26) = true := by decide +kernel
set_option maxRecDepth 100000 in
theorem tz_a_26_1 : (((cz_26).drop 25).take 25).all (tz_o1 tz_tb1 26) = true := by decide +kernel
set_option maxRecDepth 100000 in
theorem tz_a_26_2 : ((((cz_26).drop 25).drop 25).take 25).all (tz_o1 tz_tb1 26) = true := by decide +kernel
theorem tz_al_26 : cz_26.all (tz_o1 tz_tb1 26) = true := ez_ch2 25 (cz_26) tz_a_26_0 (ez_ch2 25 ((cz_26).drop 25) tz_a_26_1 (ez_ch2 25 (((cz_26).drop 25).drop 25) tz_a_26_2 (rfl)))
set_option maxRecDepth 100000 in
theorem tz_a_27_0 : ((cz_27).take 25).all (tz_o1 tz_tb1 27) = true := by decide +kernel
set_option maxRecDepth 100000 in
theorem tz_a_27_1 : (((cz_27).drop 25).take 25).all (tz_o1 tz_tb1 27) = true := by decide +kernel
set_option maxRecDepth 100000 in
theorem tz_a_27_2 : ((((cz_27).drop 25).drop 25).take 25).all (tz_o1 tz_tb1 27) = true := by decide +kernel
theorem tz_al_27 : cz_27.all (tz_o1 tz_tb1 27) = true := ez_ch2 25 (cz_27) tz_a_27_0 (ez_ch2 25 ((cz_27).drop 25) tz_a_27_1 (ez_ch2 25 (((cz_27).drop 25).drop 25) tz_a_27_2 (rfl)))
set_option maxRecDepth 100000 in
theorem tz_a_28_0 : ((cz_28).take 25).all (tz_o1 tz_tb1 28) = true := by decide +kernel
theorem tz_al_28 : cz_28.all (tz_o1 tz_tb1 28) = true := ez_ch2 25 (cz_28) tz_a_28_0 (rfl)
set_option maxRecDepth 100000 in
theorem tz_a_29_0 : ((cz_29).take 25).all (tz_o1 tz_tb1 29) = true := by decide +kernel
set_option maxRecDepth 100000 in
theorem tz_a_29_1 : (((cz_29).drop 25).take 25).all (tz_o1 tz_tb1 29) = true := by decide +kernel
theorem tz_al_29 : cz_29.all (tz_o1 tz_tb1 29) = true := ez_ch2 25 (cz_29) tz_a_29_0 (ez_ch2 25 ((cz_29).drop 25) tz_a_29_1 (rfl))
set_option maxRecDepth 100000 in
theorem tz_a_30_0 : ((cz_30).take 25).all (tz_o1 tz_tb1 30) = true := by decide +kernel
set_option maxRecDepth 100000 in
theorem tz_a_30_1 : (((cz_30).drop 25).take 25).all (tz_o1 tz_tb1 30) = true := by decide +kernel
theorem tz_al_30 : cz_30.all (tz_o1 tz_tb1 30) = true := ez_ch2 25 (cz_30) tz_a_30_0 (ez_ch2 25 ((cz_30).drop 25) tz_a_30_1 (rfl))
set_option maxRecDepth 100000 in
theorem tz_a_31_0 : ((cz_31).take 25).all (tz_o1 tz_tb1 31) = true := by decide +kernel
set_option maxRecDepth 100000 in
theorem tz_a_31_1 : (((cz_31).drop 25).take 25).all (tz_o1 tz_tb1 31) = true := by decide +kernel
theorem tz_al_31 : cz_31.all (tz_o1 tz_tb1 31) = true := ez_ch2 25 (cz_31) tz_a_31_0 (ez_ch2 25 ((cz_31).drop 25) tz_a_31_1 (rfl))
set_option maxRecDepth 100000 in
theorem tz_a_32_0 : ((cz_32).take 25).all (tz_o1 tz_tb1 32) = true := by decide +kernel
set_option maxRecDepth 100000 in
theorem tz_a_32_1 : (((cz_32).drop 25).take 25).all (tz_o1 tz_tb1 32) = true := by decide +kernel
set_option maxRecDepth 100000 in
theorem tz_a_32_2 : ((((cz_32).drop 25).drop 25).take 25).all (tz_o1 tz_tb1 32) = true := by decide +kernel
set_option maxRecDepth 100000 in
theorem tz_a_32_3 : (((((cz_32).drop 25).drop 25).drop 25).take 25).all (tz_o1 tz_tb1 32) = true := by decide +kernel
theorem tz_al_32 : cz_32.all (tz_o1 tz_tb1 32) = true := ez_ch2 25 (cz_32) tz_a_32_0 (ez_ch2 25 ((cz_32).drop 25) tz_a_32_1 (ez_ch2 25 (((cz_32).drop 25).drop 25) tz_a_32_2 (ez_ch2 25 ((((cz_32).drop 25).drop 25).drop 25) tz_a_32_3 (rfl))))
set_option maxRecDepth 100000 in
theorem tz_a_33_0 : ((cz_33).take 25).all (tz_o1 tz_tb1 33) = true := by decide +kernel
set_option maxRecDepth 100000 in
theorem tz_a_33_1 : (((cz_33).drop 25).take 25).all (tz_o1 tz_tb1 33) = true := by decide +kernel
set_option maxRecDepth 100000 in
theorem tz_a_33_2 : ((((cz_33).drop 25).drop 25).take 25).all (tz_o1 tz_tb1 33) = true := by decide +kernel
set_option maxRecDepth 100000 in
theorem tz_a_33_3 : (((((cz_33).drop 25).drop 25).drop 25).take 25).all (tz_o1 tz_tb1 33) = true := by decide +kernel
set_option maxRecDepth 100000 in
theorem tz_a_33_4 : ((((((cz_33).drop 25).drop 25).drop 25).drop 25).take 25).all (tz_o1 tz_tb1 33) = true := by decide +kernel
set_option maxRecDepth 100000 in
theorem tz_a_33_5 : (((((((cz_33).drop 25).drop 25).drop 25).drop 25).drop 25).take 25).all (tz_o1 tz_tb1 33) = true := by decide +kernel
set_option maxRecDepth 100000 in
theorem tz_a_33_6 : ((((((((cz_33).drop 25).drop 25).drop 25).drop 25).drop 25).drop 25).take 25).all (tz_o1 tz_tb1 33) = true := by decide +kernel
theorem tz_al_33 : cz_33.all (tz_o1 tz_tb1 33) = true := ez_ch2 25 (cz_33) tz_a_33_0 (ez_ch2 25 ((cz_33).drop 25) tz_a_33_1 (ez_ch2 25 (((cz_33).drop 25).drop 25) tz_a_33_2 (ez_ch2 25 ((((cz_33).drop 25).drop 25).drop 25) tz_a_33_3 (ez_ch2 25 (((((cz_33).drop 25).drop 25).drop 25).drop 25) tz_a_33_4 (ez_ch2 25 ((((((cz_33).drop 25).drop 25).drop 25).drop 25).drop 25) tz_a_33_5 (ez_ch2 25 (((((((cz_33).drop 25).drop 25).drop 25).drop 25).drop 25).drop 25) tz_a_33_6 (rfl)))))))
set_option maxRecDepth 100000 in
theorem tz_a_34_0 : ((cz_34).take 25).all (tz_o1 tz_tb1 34) = true := by decide +kernel
theorem tz_al_34 : cz_34.all (tz_o1 tz_tb1 34) = true := ez_ch2 25 (cz_34) tz_a_34_0 (rfl)
set_option maxRecDepth 100000 in
theorem tz_a_35_0 : ((cz_35).take 25).all (tz_o1 tz_tb1 35) = true := by decide +kernel
theorem tz_al_35 : cz_35.all (tz_o1 tz_tb1 35) = true := ez_ch2 25 (cz_35) tz_a_35_0 (rfl)
set_option maxRecDepth 100000 in
theorem tz_a_36_0 : ((cz_36).take 25).all (tz_o1 tz_tb1 36) = true := by decide +kernel
set_option maxRecDepth 100000 in
theorem tz_a_36_1 : (((cz_36).drop 25).take 25).all (tz_o1 tz_tb1 36) = true := by decide +kernel
theorem tz_al_36 : cz_36.all (tz_o1 tz_tb1 36) = true := ez_ch2 25 (cz_36) tz_a_36_0 (ez_ch2 25 ((cz_36).drop 25) tz_a_36_1 (rfl))
set_option maxRecDepth 100000 in
theorem tz_a_37_0 : ((cz_37).take 25).all (tz_o1 tz_tb1 37) = true := by decide +kernel
set_option maxRecDepth 100000 in
theorem tz_a_37_1 : (((cz_37).drop 25).take 25).all (tz_o1 tz_tb1 37) = true := by decide +kernel
set_option maxRecDepth 100000 in
theorem tz_a_37_2 : ((((cz_37).drop 25).drop 25).take 25).all (tz_o1 tz_tb1 37) = true := by decide +kernel
set_option maxRecDepth 100000 in
theorem tz_a_37_3 : (((((cz_37).drop 25).drop 25).drop 25).take 25).all (tz_o1 tz_tb1 37) = true := by decide +kernel
set_option maxRecDepth 100000 in
theorem tz_a_37_4 : ((((((cz_37).drop 25).drop 25).drop 25).drop 25).take 25).all (tz_o1 tz_tb1 37) = true := by decide +kernel
set_option maxRecDepth 100000 in
theorem tz_a_37_5 : (((((((cz_37).drop 25).drop 25).drop 25).drop 25).drop 25).take 25).all (tz_o1 tz_tb1 37) = true := by decide +kernel
set_option maxRecDepth 100000 in
theorem tz_a_37_6 : ((((((((cz_37).drop 25).drop 25).drop 25).drop 25).drop 25).drop 25).take 25).all (tz_o1 tz_tb1 37) = true := by decide +kernel
set_option maxRecDepth 100000 in
theorem tz_a_37_7 : (((((((((cz_37).drop 25).drop 25).drop 25).drop 25).drop 25).drop 25).drop 25).take 25).all (tz_o1 tz_tb1 37) = true := by decide +kernel
set_option maxRecDepth 100000 in
theorem tz_a_37_8 : ((((((((((cz_37).drop 25).drop 25).drop 25).drop 25).drop 25).drop 25).drop 25).drop 25).take 25).all (tz_o1 tz_tb1 37) = true := by decide +kernel
set_option maxRecDepth 100000 in
theorem tz_a_37_9 : (((((((((((cz_37).drop 25).drop 25).drop 25).drop 25).drop 25).drop 25).drop 25).drop 25).drop 25).take 25).all (tz_o1 tz_tb1 37) = true := by decide +kernel
set_option maxRecDepth 100000 in
theorem tz_a_37_10 : ((((((((((((cz_37).drop 25).drop 25).drop 25).drop 25).drop 25).drop 25).drop 25).drop 25).drop 25).drop 25).take 25).all (tz_o1 tz_tb1 37) = true := by decide +kernel
theorem tz_al_37 : cz_37.all (tz_o1 tz_tb1 37) = true := ez_ch2 25 (cz_37) tz_a_37_0 (ez_ch2 25 ((cz_37).drop 25) tz_a_37_1 (ez_ch2 25 (((cz_37).drop 25).drop 25) tz_a_37_2 (ez_ch2 25 ((((cz_37).drop 25).drop 25).drop 25) tz_a_37_3 (ez_ch2 25 (((((cz_37).drop 25).drop 25).drop 25).drop 25) tz_a_37_4 (ez_ch2 25 ((((((cz_37).drop 25).drop 25).drop 25).drop 25).drop 25) tz_a_37_5 (ez_ch2 25 (((((((cz_37).drop 25).drop 25).drop 25).drop 25).drop 25).drop 25) tz_a_37_6 (ez_ch2 25 ((((((((cz_37).drop 25).drop 25).drop 25).drop 25).drop 25).drop 25).drop 25) tz_a_37_7 (ez_ch2 25 (((((((((cz_37).drop 25).drop 25).drop 25).drop 25).drop 25).drop 25).drop 25).drop 25) tz_a_37_8 (ez_ch2 25 ((((((((((cz_37).drop 25).drop 25).drop 25).drop 25).drop 25).drop 25).drop 25).drop 25).drop 25) tz_a_37_9 (ez_ch2 25 (((((((((((cz_37).drop 25).drop 25).drop 25).drop 25).drop 25).drop 25).drop 25).drop 25).drop 25).drop 25) tz_a_37_10 (rfl)))))))))))
set_option maxRecDepth 100000 in
theorem tz_a_38_0 : ((cz_38).take 25).all (tz_o1 tz_tb1 38) = true := by decide +kernel
set_option maxRecDepth 100000 in
theorem tz_a_38_1 : (((cz_38).drop 25).take 25).all (tz_o1 tz_tb1 38) = true := by decide +kernel
set_option maxRecDepth 100000 in
theorem tz_a_38_2 : ((((cz_38).drop 25).drop 25).take 25).all (tz_o1 tz_tb1 38) = true := by decide +kernel
set_option maxRecDepth 100000 in
theorem tz_a_38_3 : (((((cz_38).drop 25).drop 25).drop 25).take 25).all (tz_o1 tz_tb1 38) = true := by decide +kernel
set_option maxRecDepth 100000 in
theorem tz_a_38_4 : ((((((cz_38).drop 25).drop 25).drop 25).drop 25).take 25).all (tz_o1 tz_tb1 38) = true := by decide +kernel
theorem tz_al_38 : cz_38.all (tz_o1 tz_tb1 38) = true := ez_ch2 25 (cz_38) tz_a_38_0 (ez_ch2 25 ((cz_38).drop 25) tz_a_38_1 (ez_ch2 25 (((cz_38).drop 25).drop 25) tz_a_38_2 (ez_ch2 25 ((((cz_38).drop 25).drop 25).drop 25) tz_a_38_3 (ez_ch2 25 (((((cz_38).drop 25).drop 25).drop 25).drop 25) tz_a_38_4 (rfl)))))
set_option maxRecDepth 100000 in
theorem tz_a_39_0 : ((cz_39).take 25).all (tz_o1 tz_tb1 39) = true := by decide +kernel
set_option maxRecDepth 100000 in
theorem tz_a_39_1 : (((cz_39).drop 25).take 25).all (tz_o1 tz_tb1 39) = true := by decide +kernel
set_option maxRecDepth 100000 in
theorem tz_a_39_2 : ((((cz_39).drop 25).drop 25).take 25).all (tz_o1 tz_tb1 39) = true := by decide +kernel
theorem tz_al_39 : cz_39.all (tz_o1 tz_tb1 39) = true := ez_ch2 25 (cz_39) tz_a_39_0 (ez_ch2 25 ((cz_39).drop 25) tz_a_39_1 (ez_ch2 25 (((cz_39).drop 25).drop 25) tz_a_39_2 (rfl)))
set_option maxRecDepth 100000 in
theorem tz_a_40_0 : ((cz_40).take 25).all (tz_o1 tz_tb1 40) = true := by decide +kernel
set_option maxRecDepth 100000 in
theorem tz_a_40_1 : (((cz_40).drop 25).take 25).all (tz_o1 tz_tb1 40) = true := by decide +kernel
set_option maxRecDepth 100000 in
theorem tz_a_40_2 : ((((cz_40).drop 25).drop 25).take 25).all (tz_o1 tz_tb1 40) = true := by decide +kernel
theorem tz_al_40 : cz_40.all (tz_o1 tz_tb1 40) = true := ez_ch2 25 (cz_40) tz_a_40_0 (ez_ch2 25 ((cz_40).drop 25) tz_a_40_1 (ez_ch2 25 (((cz_40).drop 25).drop 25) tz_a_40_2 (rfl)))
set_option maxRecDepth 100000 in
theorem tz_a_41_0 : ((cz_41).take 25).all (tz_o1 tz_tb1 41) = true := by decide +kernel
set_option maxRecDepth 100000 in
theorem tz_a_41_1 : (((cz_41).drop 25).take 25).all (tz_o1 tz_tb1 41) = true := by decide +kernel
set_option maxRecDepth 100000 in
theorem tz_a_41_2 : ((((cz_41).drop 25).drop 25).take 25).all (tz_o1 tz_tb1 41) = true := by decide +kernel
set_option maxRecDepth 100000 in
theorem tz_a_41_3 : (((((cz_41).drop 25).drop 25).drop 25).take 25).all (tz_o1 tz_tb1 41) = true := by decide +kernel
set_option maxRecDepth 100000 in
theorem tz_a_41_4 : ((((((cz_41).drop 25).drop 25).drop 25).drop 25).take 25).all (tz_o1 tz_tb1 41) = true := by decide +kernel
theorem tz_al_41 : cz_41.all (tz_o1 tz_tb1 41) = true := ez_ch2 25 (cz_41) tz_a_41_0 (ez_ch2 25 ((cz_41).drop 25) tz_a_41_1 (ez_ch2 25 (((cz_41).drop 25).drop 25) tz_a_41_2 (ez_ch2 25 ((((cz_41).drop 25).drop 25).drop 25) tz_a_41_3 (ez_ch2 25 (((((cz_41).drop 25).drop 25).drop 25).drop 25) tz_a_41_4 (rfl)))))
set_option maxRecDepth 100000 in
theorem tz_a_42_0 : ((cz_42).take 25).all (tz_o1 tz_tb1 42) = true := by decide +kernel
set_option maxRecDepth 100000 in
theorem tz_a_42_1 : (((cz_42).drop 25).take 25).all (tz_o1 tz_tb1 42) = true := by decide +kernel
theorem tz_al_42 : cz_42.all (tz_o1 tz_tb1 42) = true := ez_ch2 25 (cz_42) tz_a_42_0 (ez_ch2 25 ((cz_42).drop 25) tz_a_42_1 (rfl))
set_option maxRecDepth 100000 in
theorem tz_a_43_0 : ((cz_43).take 25).all (tz_o1 tz_tb1 43) = true := by decide +kernel
set_option maxRecDepth 100000 in
theorem tz_a_43_1 : (((cz_43).drop 25).take 25).all (tz_o1 tz_tb1 43) = true := by decide +kernel
set_option maxRecDepth 100000 in
theorem tz_a_43_2 : ((((cz_43).drop 25).drop 25).take 25).all (tz_o1 tz_tb1 43) = true := by decide +kernel
set_option maxRecDepth 100000 in
theorem tz_a_43_3 : (((((cz_43).drop 25).drop 25).drop 25).take 25).all (tz_o1 tz_tb1 43) = true := by decide +kernel
set_option maxRecDepth 100000 in
theorem tz_a_43_4 : ((((((cz_43).drop 25).drop 25).drop 25).drop 25).take 25).all (tz_o1 tz_tb1 43) = true := by decide +kernel
set_option maxRecDepth 100000 in
theorem tz_a_43_5 : (((((((cz_43).drop 25).drop 25).drop 25).drop 25).drop 25).take 25).all (tz_o1 tz_tb1 43) = true := by decide +kernel
set_option maxRecDepth 100000 in
theorem tz_a_43_6 : ((((((((cz_43).drop 25).drop 25).drop 25).drop 25).drop 25).drop 25).take 25).all (tz_o1 tz_tb1 43) = true := by decide +kernel
set_option maxRecDepth 100000 in
theorem tz_a_43_7 : (((((((((cz_43).drop 25).drop 25).drop 25).drop 25).drop 25).drop 25).drop 25).take 25).all (tz_o1 tz_tb1 43) = true := by decide +kernel
set_option maxRecDepth 100000 in
theorem tz_a_43_8 : ((((((((((cz_43).drop 25).drop 25).drop 25).drop 25).drop 25).drop 25).drop 25).drop 25).take 25).all (tz_o1 tz_tb1 43) = true := by decide +kernel
theorem tz_al_43 : cz_43.all (tz_o1 tz_tb1 43) = true := ez_ch2 25 (cz_43) tz_a_43_0 (ez_ch2 25 ((cz_43).drop 25) tz_a_43_1 (ez_ch2 25 (((cz_43).drop 25).drop 25) tz_a_43_2 (ez_ch2 25 ((((cz_43).drop 25).drop 25).drop 25) tz_a_43_3 (ez_ch2 25 (((((cz_43).drop 25).drop 25).drop 25).drop 25) tz_a_43_4 (ez_ch2 25 ((((((cz_43).drop 25).drop 25).drop 25).drop 25).drop 25) tz_a_43_5 (ez_ch2 25 (((((((cz_43).drop 25).drop 25).drop 25).drop 25).drop 25).drop 25) tz_a_43_6 (ez_ch2 25 ((((((((cz_43).drop 25).drop 25).drop 25).drop 25).drop 25).drop 25).drop 25) tz_a_43_7 (ez_ch2 25 (((((((((cz_43).drop 25).drop 25).drop 25).drop 25).drop 25).drop 25).drop 25).drop 25) tz_a_43_8 (rfl)))))))))
end
section
set_option maxRecDepth 100000 in
theorem tz_a_44_0 : ((cz_44).take 25).all (tz_o1 tz_tb1 44) = true := by decide +kernel
theorem tz_al_44 : cz_44.all (tz_o1 tz_tb1 44) = true := ez_ch2 25 (cz_44) tz_a_44_0 (rfl)
set_option maxRecDepth 100000 in
theorem tz_a_45_0 : ((cz_45).take 25).all (tz_o1 tz_tb1 45) = true := by decide +kernel
set_option maxRecDepth 100000 in
theorem tz_a_45_1 : (((cz_45).drop 25).take 25).all (tz_o1 tz_tb1 45) = true := by decide +kernel
set_option maxRecDepth 100000 in
theorem tz_a_45_2 : ((((cz_45).drop 25).drop 25).take 25).all (tz_o1 tz_tb1 45) = true := by decide +kernel
set_option maxRecDepth 100000 in
theorem tz_a_45_3 : (((((cz_45).drop 25).drop 25).drop 25).take 25).all (tz_o1 tz_tb1 45) = true := by decide +kernel
set_option maxRecDepth 100000 in
theorem tz_a_45_4 : ((((((cz_45).drop 25).drop 25).drop 25).drop 25).take 25).all (tz_o1 tz_tb1 45) = true := by decide +kernel
set_option maxRecDepth 100000 in
theorem tz_a_45_5 : (((((((cz_45).drop 25).drop 25).drop 25).drop 25).drop 25).take 25).all (tz_o1 tz_tb1 45) = true := by decide +kernel
set_option maxRecDepth 100000 in
theorem tz_a_45_6 : ((((((((cz_45).drop 25).drop 25).drop 25).drop 25).drop 25).drop 25).take 25).all (tz_o1 tz_tb1 45) = true := by decide +kernel
set_option maxRecDepth 100000 in
theorem tz_a_45_7 : (((((((((cz_45).drop 25).drop 25).drop 25).drop 25).drop 25).drop 25).drop 25).take 25).all (tz_o1 tz_tb1 45) = true := by decide +kernel
set_option maxRecDepth 100000 in
theorem tz_a_45_8 : ((((((((((cz_45).drop 25).drop 25).drop 25).drop 25).drop 25).drop 25).drop 25).drop 25).take 25).all (tz_o1 tz_tb1 45) = true := by decide +kernel
set_option maxRecDepth 100000 in
theorem tz_a_45_9 : (((((((((((cz_45).drop 25).drop 25).drop 25).drop 25).drop 25).drop 25).drop 25).drop 25).drop 25).take 25).all (tz_o1 tz_tb1 45) = true := by decide +kernel
set_option maxRecDepth 100000 in
theorem tz_a_45_10 : ((((((((((((cz_45).drop 25).drop 25).drop 25).drop 25).drop 25).drop 25).drop 25).drop 25).drop 25).drop 25).take 25).all (tz_o1 tz_tb1 45) = true := by decide +kernel
set_option maxRecDepth 100000 in
theorem tz_a_45_11 : (((((((((((((cz_45).drop 25).drop 25).drop 25).drop 25).drop 25).drop 25).drop 25).drop 25).drop 25).drop 25).drop 25).take 25).all (tz_o1 tz_tb1 45) = true := by decide +kernel
set_option maxRecDepth 100000 in
theorem tz_a_45_12 : ((((((((((((((cz_45).drop 25).drop 25).drop 25).drop 25).drop 25).drop 25).drop 25).drop 25).drop 25).drop 25).drop 25).drop 25).take 25).all (tz_o1 tz_tb1 45) = true := by decide +kernel
set_option maxRecDepth 100000 in
theorem tz_a_45_13 : (((((((((((((((cz_45).drop 25).drop 25).drop 25).drop 25).drop 25).drop 25).drop 25).drop 25).drop 25).drop 25).drop 25).drop 25).drop 25).take 25).all (tz_o1 tz_tb1 45) = true := by decide +kernel
set_option maxRecDepth 100000 in
theorem tz_a_45_14 : ((((((((((((((((cz_45).drop 25).drop 25).drop 25).drop 25).drop 25).drop 25).drop 25).drop 25).drop 25).drop 25).drop 25).drop 25).drop 25).drop 25).take 25).all (tz_o1 tz_tb1 45) = true := by decide +kernel
set_option maxRecDepth 100000 in
theorem tz_a_45_15 : (((((((((((((((((cz_45).drop 25).drop 25).drop 25).drop 25).drop 25).drop 25).drop 25).drop 25).drop 25).drop 25).drop 25).drop 25).drop 25).drop 25).drop 25).take 25).all (tz_o1 tz_tb1 45) = true := by decide +kernel
set_option maxRecDepth 100000 in
theorem tz_a_45_16 : ((((((((((((((((((cz_45).drop 25).drop 25).drop 25).drop 25).drop 25).drop 25).drop 25).drop 25).drop 25).drop 25).drop 25).drop 25).drop 25).drop 25).drop 25).drop 25).take 25).all (tz_o1 tz_tb1 45) = true := by decide +kernel
set_option maxRecDepth 100000 in
theorem tz_a_45_17 : (((((((((((((((((((cz_45).drop 25).drop 25).drop 25).drop 25).drop 25).drop 25).drop 25).drop 25).drop 25).drop 25).drop 25).drop 25).drop 25).drop 25).drop 25).drop 25).drop 25).take 25).all (tz_o1 tz_tb1 45) = true := by decide +kernel
set_option maxRecDepth 100000 in
theorem tz_a_45_18 : ((((((((((((((((((((cz_45).drop 25).drop 25).drop 25).drop 25).drop 25).drop 25).drop 25).drop 25).drop 25).drop 25).drop 25).drop 25).drop 25).drop 25).drop 25).drop 25).drop 25).drop 25).take 25).all (tz_o1 tz_tb1 45) = true := by decide +kernel
set_option maxRecDepth 100000 in
theorem tz_a_45_19 : (((((((((((((((((((((cz_45).drop 25).drop 25).drop 25).drop 25).drop 25).drop 25).drop 25).drop 25).drop 25).drop 25).drop 25).drop 25).drop 25).drop 25).drop 25).drop 25).drop 25).drop 25).drop 25).take 25).all (tz_o1 tz_tb1 45) = true := by decide +kernel
set_option maxRecDepth 100000 in
theorem tz_a_45_20 : ((((((((((((((((((((((cz_45).drop 25).drop 25).drop 25).drop 25).drop 25).drop 25).drop 25).drop 25).drop 25).drop 25).drop 25).drop 25).drop 25).drop 25).drop 25).drop 25).drop 25).drop 25).drop 25).drop 25).take 25).all (tz_o1 tz_tb1 45) = true := by decide +kernel
set_option maxRecDepth 100000 in
theorem tz_a_45_21 : (((((((((((((((((((((((cz_45).drop 25).drop 25).drop 25).drop 25).drop 25).drop 25).drop 25).drop 25).drop 25).drop 25).drop 25).drop 25).drop 25).drop 25).drop 25).drop 25).drop 25).drop 25).drop 25).drop 25).drop 25).take 25).all (tz_o1 tz_tb1 45) = true := by decide +kernel
set_option maxRecDepth 100000 in
theorem tz_a_45_22 : ((((((((((((((((((((((((cz_45).drop 25).drop 25).drop 25).drop 25).drop 25).drop 25).drop 25).drop 25).drop 25).drop 25).drop 25).drop 25).drop 25).drop 25).drop 25).drop 25).drop 25).drop 25).drop 25).drop 25).drop 25).drop 25).take 25).all (tz_o1 tz_tb1 45) = true := by decide +kernel
set_option maxRecDepth 100000 in
theorem tz_a_45_23 : (((((((((((((((((((((((((cz_45).drop 25).drop 25).drop 25).drop 25).drop 25).drop 25).drop 25).drop 25).drop 25).drop 25).drop 25).drop 25).drop 25).drop 25).drop 25).drop 25).drop 25).drop 25).drop 25).drop 25).drop 25).drop 25).drop 25).take 25).all (tz_o1 tz_tb1 45) = true := by decide +kernel
theorem tz_al_45 : cz_45.all (tz_o1 tz_tb1 45) = true := ez_ch2 25 (cz_45) tz_a_45_0 (ez_ch2 25 ((cz_45).drop 25) tz_a_45_1 (ez_ch2 25 (((cz_45).drop 25).drop 25) tz_a_45_2 (ez_ch2 25 ((((cz_45).drop 25).drop 25).drop 25) tz_a_45_3 (ez_ch2 25 (((((cz_45).drop 25).drop 25).drop 25).drop 25) tz_a_45_4 (ez_ch2 25 ((((((cz_45).drop 25).drop 25).drop 25).drop 25).drop 25) tz_a_45_5 (ez_ch2 25 (((((((cz_45).drop 25).drop 25).drop 25).drop 25).drop 25).drop 25) tz_a_45_6 (ez_ch2 25 ((((((((cz_45).drop 25).drop 25).drop 25).drop 25).drop 25).drop 25).drop 25) tz_a_45_7 (ez_ch2 25 (((((((((cz_45).drop 25).drop 25).drop 25).drop 25).drop 25).drop 25).drop 25).drop 25) tz_a_45_8 (ez_ch2 25 ((((((((((cz_45).drop 25).drop 25).drop 25).drop 25).drop 25).drop 25).drop 25).drop 25).drop 25) tz_a_45_9 (ez_ch2 25 (((((((((((cz_45).drop 25).drop 25).drop 25).drop 25).drop 25).drop 25).drop 25).drop 25).drop 25).drop 25) tz_a_45_10 (ez_ch2 25 ((((((((((((cz_45).drop 25).drop 25).drop 25).drop 25).drop 25).drop 25).drop 25).drop 25).drop 25).drop 25).drop 25) tz_a_45_11 (ez_ch2 25 (((((((((((((cz_45).drop 25).drop 25).drop 25).drop 25).drop 25).drop 25).drop 25).drop 25).drop 25).drop 25).drop 25).drop 25) tz_a_45_12 (ez_ch2 25 ((((((((((((((cz_45).drop 25).drop 25).drop 25).drop 25).drop 25).drop 25).drop 25).drop 25).drop 25).drop 25).drop 25).drop 25).drop 25) tz_a_45_13 (ez_ch2 25 (((((((((((((((cz_45).drop 25).drop 25).drop 25).drop 25).drop 25).drop 25).drop 25).drop 25).drop 25).drop 25).drop 25).drop 25).drop 25).drop 25) tz_a_45_14 (ez_ch2 25 ((((((((((((((((cz_45).drop 25).drop 25).drop 25).drop 25).drop 25).drop 25).drop 25).drop 25).drop 25).drop 25).drop 25).drop 25).drop 25).drop 25).drop 25) tz_a_45_15 (ez_ch2 25 (((((((((((((((((cz_45).drop 25).drop 25).drop 25).drop 25).drop 25).drop 25).drop 25).drop 25).drop 25).drop 25).drop 25).drop 25).drop 25).drop 25).drop 25).drop 25) tz_a_45_16 (ez_ch2 25 ((((((((((((((((((cz_45).drop 25).drop 25).drop 25).drop 25).drop 25).drop 25).drop 25).drop 25).drop 25).drop 25).drop 25).drop 25).drop 25).drop 25).drop 25).drop 25).drop 25) tz_a_45_17 (ez_ch2 25 (((((((((((((((((((cz_45).drop 25).drop 25).drop 25).drop 25).drop 25).drop 25).drop 25).drop 25).drop 25).drop 25).drop 25).drop 25).drop 25).drop 25).drop 25).drop 25).drop 25).drop 25) tz_a_45_18 (ez_ch2 25 ((((((((((((((((((((cz_45).drop 25).drop 25).drop 25).drop 25).drop 25).drop 25).drop 25).drop 25).drop 25).drop 25).drop 25).drop 25).drop 25).drop 25).drop 25).drop 25).drop 25).drop 25).drop 25) tz_a_45_19 (ez_ch2 25 (((((((((((((((((((((cz_45).drop 25).drop 25).drop 25).drop 25).drop 25).drop 25).drop 25).drop 25).drop 25).drop 25).drop 25).drop 25).drop 25).drop 25).drop 25).drop 25).drop 25).drop 25).drop 25).drop 25) tz_a_45_20 (ez_ch2 25 ((((((((((((((((((((((cz_45).drop 25).drop 25).drop 25).drop 25).drop 25).drop 25).drop 25).drop 25).drop 25).drop 25).drop 25).drop 25).drop 25).drop 25).drop 25).drop 25).drop 25).drop 25).drop 25).drop 25).drop 25) tz_a_45_21 (ez_ch2 25 (((((((((((((((((((((((cz_45).drop 25).drop 25).drop 25).drop 25).drop 25).drop 25).drop 25).drop 25).drop 25).drop 25).drop 25).drop 25).drop 25).drop 25).drop 25).drop 25).drop 25).drop 25).drop 25).drop 25).drop 25).drop 25) tz_a_45_22 (ez_ch2 25 ((((((((((((((((((((((((cz_45).drop 25).drop 25).drop 25).drop 25).drop 25).drop 25).drop 25).drop 25).drop 25).drop 25).drop 25).drop 25).drop 25).drop 25).drop 25).drop 25).drop 25).drop 25).drop 25).drop 25).drop 25).drop 25).drop 25) tz_a_45_23 (rfl))))))))))))))))))))))))
set_option maxRecDepth 100000 in
theorem tz_a_46_0 : ((cz_46).take 25).all (tz_o1 tz_tb1 46) = true := by decide +kernel
set_option maxRecDepth 100000 in
theorem tz_a_46_1 : (((cz_46).drop 25).take 25).all (tz_o1 tz_tb1 46) = true := by decide +kernel
set_option maxRecDepth 100000 in
theorem tz_a_46_2 : ((((cz_46).drop 25).drop 25).take 25).all (tz_o1 tz_tb1 46) = true := by decide +kernel
set_option maxRecDepth 100000 in
theorem tz_a_46_3 : (((((cz_46).drop 25).drop 25).drop 25).take 25).all (tz_o1 tz_tb1 46) = true := by decide +kernel
theorem tz_al_46 : cz_46.all (tz_o1 tz_tb1 46) = true := ez_ch2 25 (cz_46) tz_a_46_0 (ez_ch2 25 ((cz_46).drop 25) tz_a_46_1 (ez_ch2 25 (((cz_46).drop 25).drop 25) tz_a_46_2 (ez_ch2 25 ((((cz_46).drop 25).drop 25).drop 25) tz_a_46_3 (rfl))))
set_option maxRecDepth 100000 in
theorem tz_a_47_0 : ((cz_47).take 25).all (tz_o1 tz_tb1 47) = true := by decide +kernel
theorem tz_al_47 : cz_47.all (tz_o1 tz_tb1 47) = true := ez_ch2 25 (cz_47) tz_a_47_0 (rfl)
set_option maxRecDepth 100000 in
theorem tz_a_48_0 : ((cz_48).take 25).all (tz_o1 tz_tb1 48) = true := by decide +kernel
set_option maxRecDepth 100000 in
theorem tz_a_48_1 : (((cz_48).drop 25).take 25).all (tz_o1 tz_tb1 48) = true := by decide +kernel
theorem tz_al_48 : cz_48.all (tz_o1 tz_tb1 48) = true := ez_ch2 25 (cz_48) tz_a_48_0 (ez_ch2 25 ((cz_48).drop 25) tz_a_48_1 (rfl))
set_option maxRecDepth 100000 in
theorem tz_a_49_0 : ((cz_49).take 25).all (tz_o1 tz_tb1 49) = true := by decide +kernel
theorem tz_al_49 : cz_49.all (tz_o1 tz_tb1 49) = true := ez_ch2 25 (cz_49) tz_a_49_0 (rfl)
set_option maxRecDepth 100000 in
theorem tz_a_50_0 : ((cz_50).take 25).all (tz_o1 tz_tb1 50) = true := by decide +kernel
set_option maxRecDepth 100000 in
theorem tz_a_50_1 : (((cz_50).drop 25).take 25).all (tz_o1 tz_tb1 50) = true := by decide +kernel
theorem tz_al_50 : cz_50.all (tz_o1 tz_tb1 50) = true := ez_ch2 25 (cz_50) tz_a_50_0 (ez_ch2 25 ((cz_50).drop 25) tz_a_50_1 (rfl))
set_option maxRecDepth 100000 in
theorem tz_a_51_0 : ((cz_51).take 25).all (tz_o1 tz_tb1 51) = true := by decide +kernel
set_option maxRecDepth 100000 in
theorem tz_a_51_1 : (((cz_51).drop 25).take 25).all (tz_o1 tz_tb1 51) = true := by decide +kernel
set_option maxRecDepth 100000 in
theorem tz_a_51_2 : ((((cz_51).drop 25).drop 25).take 25).all (tz_o1 tz_tb1 51) = true := by decide +kernel
theorem tz_al_51 : cz_51.all (tz_o1 tz_tb1 51) = true := ez_ch2 25 (cz_51) tz_a_51_0 (ez_ch2 25 ((cz_51).drop 25) tz_a_51_1 (ez_ch2 25 (((cz_51).drop 25).drop 25) tz_a_51_2 (rfl)))
set_option maxRecDepth 100000 in
theorem tz_a_52_0 : ((cz_52).take 25).all (tz_o1 tz_tb1 52) = true := by decide +kernel
set_option maxRecDepth 100000 in
theorem tz_a_52_1 : (((cz_52).drop 25).take 25).all (tz_o1 tz_tb1 52) = true := by decide +kernel
set_option maxRecDepth 100000 in
theorem tz_a_52_2 : ((((cz_52).drop 25).drop 25).take 25).all (tz_o1 tz_tb1 52) = true := by decide +kernel
theorem tz_al_52 : cz_52.all (tz_o1 tz_tb1 52) = true := ez_ch2 25 (cz_52) tz_a_52_0 (ez_ch2 25 ((cz_52).drop 25) tz_a_52_1 (ez_ch2 25 (((cz_52).drop 25).drop 25) tz_a_52_2 (rfl)))
set_option maxRecDepth 100000 in
theorem tz_a_53_0 : ((cz_53).take 25).all (tz_o1 tz_tb1 53) = true := by decide +kernel
theorem tz_al_53 : cz_53.all (tz_o1 tz_tb1 53) = true := ez_ch2 25 (cz_53) tz_a_53_0 (rfl)
set_option maxRecDepth 100000 in
theorem tz_a_54_0 : ((cz_54).take 25).all (tz_o1 tz_tb1 54) = true := by decide +kernel
theorem tz_al_54 : cz_54.all (tz_o1 tz_tb1 54) = true := ez_ch2 25 (cz_54) tz_a_54_0 (rfl)
set_option maxRecDepth 100000 in
theorem tz_a_55_0 : ((cz_55).take 25).all (tz_o1 tz_tb1 55) = true := by decide +kernel
set_option maxRecDepth 100000 in
theorem tz_a_55_1 : (((cz_55).drop 25).take 25).all (tz_o1 tz_tb1 55) = true := by decide +kernel
set_option maxRecDepth 100000 in
theorem tz_a_55_2 : ((((cz_55).drop 25).drop 25).take 25).all (tz_o1 tz_tb1 55) = true := by decide +kernel
set_option maxRecDepth 100000 in
theorem tz_a_55_3 : (((((cz_55).drop 25).drop 25).drop 25).take 25).all (tz_o1 tz_tb1 55) = true := by decide +kernel
set_option maxRecDepth 100000 in
theorem tz_a_55_4 : ((((((cz_55).drop 25).drop 25).drop 25).drop 25).take 25).all (tz_o1 tz_tb1 55) = true := by decide +kernel
theorem tz_al_55 : cz_55.all (tz_o1 tz_tb1 55) = true := ez_ch2 25 (cz_55) tz_a_55_0 (ez_ch2 25 ((cz_55).drop 25) tz_a_55_1 (ez_ch2 25 (((cz_55).drop 25).drop 25) tz_a_55_2 (ez_ch2 25 ((((cz_55).drop 25).drop 25).drop 25) tz_a_55_3 (ez_ch2 25 (((((cz_55).drop 25).drop 25).drop 25).drop 25) tz_a_55_4 (rfl)))))
set_option maxRecDepth 100000 in
theorem tz_a_56_0 : ((cz_56).take 25).all (tz_o1 tz_tb1 56) = true := by decide +kernel
set_option maxRecDepth 100000 in
theorem tz_a_56_1 : (((cz_56).drop 25).take 25).all (tz_o1 tz_tb1 56) = true := by decide +kernel
theorem tz_al_56 : cz_56.all (tz_o1 tz_tb1 56) = true := ez_ch2 25 (cz_56) tz_a_56_0 (ez_ch2 25 ((cz_56).drop 25) tz_a_56_1 (rfl))
set_option maxRecDepth 100000 in
theorem tz_a_57_0 : ((cz_57).take 25).all (tz_o1 tz_tb1 57) = true := by decide +kernel
set_option maxRecDepth 100000 in
theorem tz_a_57_1 : (((cz_57).drop 25).take 25).all (tz_o1 tz_tb1 57) = true := by decide +kernel
theorem tz_al_57 : cz_57.all (tz_o1 tz_tb1 57) = true := ez_ch2 25 (cz_57) tz_a_57_0 (ez_ch2 25 ((cz_57).drop 25) tz_a_57_1 (rfl))
set_option maxRecDepth 100000 in
theorem tz_a_58_0 : ((cz_58).take 25).all (tz_o1 tz_tb1 58) = true := by decide +kernel
set_option maxRecDepth 100000 in
theorem tz_a_58_1 : (((cz_58).drop 25).take 25).all (tz_o1 tz_tb1 58) = true := by decide +kernel
set_option maxRecDepth 100000 in
theorem tz_a_58_2 : ((((cz_58).drop 25).drop 25).take 25).all (tz_o1 tz_tb1 58) = true := by decide +kernel
theorem tz_al_58 : cz_58.all (tz_o1 tz_tb1 58) = true := ez_ch2 25 (cz_58) tz_a_58_0 (ez_ch2 25 ((cz_58).drop 25) tz_a_58_1 (ez_ch2 25 (((cz_58).drop 25).drop 25) tz_a_58_2 (rfl)))
set_option maxRecDepth 100000 in
theorem tz_a_59_0 : ((cz_59).take 25).all (tz_o1 tz_tb1 59) = true := by decide +kernel
set_option maxRecDepth 100000 in
theorem tz_a_59_1 : (((cz_59).drop 25).take 25).all (tz_o1 tz_tb1 59) = true := by decide +kernel
set_option maxRecDepth 100000 in
theorem tz_a_59_2 : ((((cz_59).drop 25).drop 25).take 25).all (tz_o1 tz_tb1 59) = true := by decide +kernel
set_option maxRecDepth 100000 in
theorem tz_a_59_3 : (((((cz_59).drop 25).drop 25).drop 25).take 25).all (tz_o1 tz_tb1 59) = true := by decide +kernel
set_option maxRecDepth 100000 in
theorem tz_a_59_4 : ((((((cz_59).drop 25).drop 25).drop 25).drop 25).take 25).all (tz_o1 tz_tb1 59) = true := by decide +kernel
set_option maxRecDepth 100000 in
theorem tz_a_59_5 : (((((((cz_59).drop 25).drop 25).drop 25).drop 25).drop 25).take 25).all (tz_o1 tz_tb1 59) = true := by decide +kernel
set_option maxRecDepth 100000 in
theorem tz_a_59_6 : ((((((((cz_59).drop 25).drop 25).drop 25).drop 25).drop 25).drop 25).take 25).all (tz_o1 tz_tb1 59) = true := by decide +kernel
set_option maxRecDepth 100000 in
theorem tz_a_59_7 : (((((((((cz_59).drop 25).drop 25).drop 25).drop 25).drop 25).drop 25).drop 25).take 25).all (tz_o1 tz_tb1 59) = true := by decide +kernel
set_option maxRecDepth 100000 in
theorem tz_a_59_8 : ((((((((((cz_59).drop 25).drop 25).drop 25).drop 25).drop 25).drop 25).drop 25).drop 25).take 25).all (tz_o1 tz_tb1 59) = true := by decide +kernel
set_option maxRecDepth 100000 in
theorem tz_a_59_9 : (((((((((((cz_59).drop 25).drop 25).drop 25).drop 25).drop 25).drop 25).drop 25).drop 25).drop 25).take 25).all (tz_o1 tz_tb1 59) = true := by decide +kernel
theorem tz_al_59 : cz_59.all (tz_o1 tz_tb1 59) = true := ez_ch2 25 (cz_59) tz_a_59_0 (ez_ch2 25 ((cz_59).drop 25) tz_a_59_1 (ez_ch2 25 (((cz_59).drop 25).drop 25) tz_a_59_2 (ez_ch2 25 ((((cz_59).drop 25).drop 25).drop 25) tz_a_59_3 (ez_ch2 25 (((((cz_59).drop 25).drop 25).drop 25).drop 25) tz_a_59_4 (ez_ch2 25 ((((((cz_59).drop 25).drop 25).drop 25).drop 25).drop 25) tz_a_59_5 (ez_ch2 25 (((((((cz_59).drop 25).drop 25).drop 25).drop 25).drop 25).drop 25) tz_a_59_6 (ez_ch2 25 ((((((((cz_59).drop 25).drop 25).drop 25).drop 25).drop 25).drop 25).drop 25) tz_a_59_7 (ez_ch2 25 (((((((((cz_59).drop 25).drop 25).drop 25).drop 25).drop 25).drop 25).drop 25).drop 25) tz_a_59_8 (ez_ch2 25 ((((((((((cz_59).drop 25).drop 25).drop 25).drop 25).drop 25).drop 25).drop 25).drop 25).drop 25) tz_a_59_9 (rfl))))))))))
set_option maxRecDepth 100000 in
theorem tz_a_60_0 : ((cz_60).take 25).all (tz_o1 tz_tb1 60) = true := by decide +kernel
set_option maxRecDepth 100000 in
theorem tz_a_60_1 : (((cz_60).drop 25).take 25).all (tz_o1 tz_tb1 60) = true := by decide +kernel
set_option maxRecDepth 100000 in
theorem tz_a_60_2 : ((((cz_60).drop 25).drop 25).take 25).all (tz_o1 tz_tb1 60) = true := by decide +kernel
set_option maxRecDepth 100000 in
theorem tz_a_60_3 : (((((cz_60).drop 25).drop 25).drop 25).take 25).all (tz_o1 tz_tb1 60) = true := by decide +kernel
set_option maxRecDepth 100000 in
theorem tz_a_60_4 : ((((((cz_60).drop 25).drop 25).drop 25).drop 25).take 25).all (tz_o1 tz_tb1 60) = true := by decide +kernel
set_option maxRecDepth 100000 in
theorem tz_a_60_5 : (((((((cz_60).drop 25).drop 25).drop 25).drop 25).drop 25).take 25).all (tz_o1 tz_tb1 60) = true := by decide +kernel
theorem tz_al_60 : cz_60.all (tz_o1 tz_tb1 60) = true := ez_ch2 25 (cz_60) tz_a_60_0 (ez_ch2 25 ((cz_60).drop 25) tz_a_60_1 (ez_ch2 25 (((cz_60).drop 25).drop 25) tz_a_60_2 (ez_ch2 25 ((((cz_60).drop 25).drop 25).drop 25) tz_a_60_3 (ez_ch2 25 (((((cz_60).drop 25).drop 25).drop 25).drop 25) tz_a_60_4 (ez_ch2 25 ((((((cz_60).drop 25).drop 25).drop 25).drop 25).drop 25) tz_a_60_5 (rfl))))))
set_option maxRecDepth 100000 in
theorem tz_a_61_0 : ((cz_61).take 25).all (tz_o1 tz_tb1 61) = true := by decide +kernel
set_option maxRecDepth 100000 in
theorem tz_a_61_1 : (((cz_61).drop 25).take 25).all (tz_o1 tz_tb1 61) = true := by decide +kernel
set_option maxRecDepth 100000 in
theorem tz_a_61_2 : ((((cz_61).drop 25).drop 25).take 25).all (tz_o1 tz_tb1 61) = true := by decide +kernel
set_option maxRecDepth 100000 in
theorem tz_a_61_3 : (((((cz_61).drop 25).drop 25).drop 25).take 25).all (tz_o1 tz_tb1 61) = true := by decide +kernel
set_option maxRecDepth 100000 in
theorem tz_a_61_4 : ((((((cz_61).drop 25).drop 25).drop 25).drop 25).take 25).all (tz_o1 tz_tb1 61) = true := by decide +kernel
set_option maxRecDepth 100000 in
theorem tz_a_61_5 : (((((((cz_61).drop 25).drop 25).drop 25).drop 25).drop 25).take 25).all (tz_o1 tz_tb1 61) = true := by decide +kernel
set_option maxRecDepth 100000 in
theorem tz_a_61_6 : ((((((((cz_61).drop 25).drop 25).drop 25).drop 25).drop 25).drop 25).take 25).all (tz_o1 tz_tb1 61) = true := by decide +kernel
theorem tz_al_61 : cz_61.all (tz_o1 tz_tb1 61) = true := ez_ch2 25 (cz_61) tz_a_61_0 (ez_ch2 25 ((cz_61).drop 25) tz_a_61_1 (ez_ch2 25 (((cz_61).drop 25).drop 25) tz_a_61_2 (ez_ch2 25 ((((cz_61).drop 25).drop 25).drop 25) tz_a_61_3 (ez_ch2 25 (((((cz_61).drop 25).drop 25).drop 25).drop 25) tz_a_61_4 (ez_ch2 25 ((((((cz_61).drop 25).drop 25).drop 25).drop 25).drop 25) tz_a_61_5 (ez_ch2 25 (((((((cz_61).drop 25).drop 25).drop 25).drop 25).drop 25).drop 25) tz_a_61_6 (rfl)))))))
set_option maxRecDepth 100000 in
theorem tz_a_62_0 : ((cz_62).take 25).all (tz_o1 tz_tb1 62) = true := by decide +kernel
theorem tz_al_62 : cz_62.all (tz_o1 tz_tb1 62) = true := ez_ch2 25 (cz_62) tz_a_62_0 (rfl)
set_option maxRecDepth 100000 in
theorem tz_a_63_0 : ((cz_63).take 25).all (tz_o1 tz_tb1 63) = true := by decide +kernel
theorem tz_al_63 : cz_63.all (tz_o1 tz_tb1 63) = true := ez_ch2 25 (cz_63) tz_a_63_0 (rfl)
set_option maxRecDepth 100000 in
theorem tz_a_64_0 : ((cz_64).take 25).all (tz_o1 tz_tb1 64) = true := by decide +kernel
set_option maxRecDepth 100000 in
theorem tz_a_64_1 : (((cz_64).drop 25).take 25).all (tz_o1 tz_tb1 64) = true := by decide +kernel
theorem tz_al_64 : cz_64.all (tz_o1 tz_tb1 64) = true := ez_ch2 25 (cz_64) tz_a_64_0 (ez_ch2 25 ((cz_64).drop 25) tz_a_64_1 (rfl))
set_option maxRecDepth 100000 in
theorem tz_a_65_0 : ((cz_65).take 25).all (tz_o1 tz_tb1 65) = true := by decide +kernel
set_option maxRecDepth 100000 in
theorem tz_a_65_1 : (((cz_65).drop 25).take 25).all (tz_o1 tz_tb1 65) = true := by decide +kernel
set_option maxRecDepth 100000 in
theorem tz_a_65_2 : ((((cz_65).drop 25).drop 25).take 25).all (tz_o1 tz_tb1 65) = true := by decide +kernel
theorem tz_al_65 : cz_65.all (tz_o1 tz_tb1 65) = true := ez_ch2 25 (cz_65) tz_a_65_0 (ez_ch2 25 ((cz_65).drop 25) tz_a_65_1 (ez_ch2 25 (((cz_65).drop 25).drop 25) tz_a_65_2 (rfl)))
set_option maxRecDepth 100000 in
theorem tz_a_66_0 : ((cz_66).take 25).all (tz_o1 tz_tb1 66) = true := by decide +kernel
theorem tz_al_66 : cz_66.all (tz_o1 tz_tb1 66) = true := ez_ch2 25 (cz_66) tz_a_66_0 (rfl)
set_option maxRecDepth 100000 in
theorem tz_a_67_0 : ((cz_67).take 25).all (tz_o1 tz_tb1 67) = true := by decide +kernel
theorem tz_al_67 : cz_67.all (tz_o1 tz_tb1 67) = true := ez_ch2 25 (cz_67) tz_a_67_0 (rfl)
end
section
set_option maxRecDepth 100000 in
theorem tz_a_68_0 : ((cz_68).take 25).all (tz_o1 tz_tb2 68) = true := by decide +kernel
theorem tz_al_68 : cz_68.all (tz_o1 tz_tb2 68) = true := ez_ch2 25 (cz_68) tz_a_68_0 (rfl)
set_option maxRecDepth 100000 in
theorem tz_a_69_0 : ((cz_69).take 25).all (tz_o1 tz_tb2 69) = true := by decide +kernel
theorem tz_al_69 : cz_69.all (tz_o1 tz_tb2 69) = true := ez_ch2 25 (cz_69) tz_a_69_0 (rfl)
set_option maxRecDepth 100000 in
theorem tz_a_70_0 : ((cz_70).take 25).all (tz_o1 tz_tb2 70) = true := by decide +kernel
theorem tz_al_70 : cz_70.all (tz_o1 tz_tb2 70) = true := ez_ch2 25 (cz_70) tz_a_70_0 (rfl)
set_option maxRecDepth 100000 in
theorem tz_a_71_0 : ((cz_71).take 25).all (tz_o1 tz_tb2 71) = true := by decide +kernel
set_option maxRecDepth 100000 in
theorem tz_a_71_1 : (((cz_71).drop 25).take 25).all (tz_o1 tz_tb2 71) = true := by decide +kernel
theorem tz_al_71 : cz_71.all (tz_o1 tz_tb2 71) = true := ez_ch2 25 (cz_71) tz_a_71_0 (ez_ch2 25 ((cz_71).drop 25) tz_a_71_1 (rfl))
set_option maxRecDepth 100000 in
theorem tz_a_72_0 : ((cz_72).take 25).all (tz_o1 tz_tb2 72) = true := by decide +kernel
theorem tz_al_72 : cz_72.all (tz_o1 tz_tb2 72) = true := ez_ch2 25 (cz_72) tz_a_72_0 (rfl)
set_option maxRecDepth 100000 in
theorem tz_a_73_0 : ((cz_73).take 25).all (tz_o1 tz_tb2 73) = true := by decide +kernel
theorem tz_al_73 : cz_73.all (tz_o1 tz_tb2 73) = true := ez_ch2 25 (cz_73) tz_a_73_0 (rfl)
set_option maxRecDepth 100000 in
theorem tz_a_74_0 : ((cz_74).take 25).all (tz_o1 tz_tb3 74) = true := by decide +kernel
theorem tz_al_74 : cz_74.all (tz_o1 tz_tb3 74) = true := ez_ch2 25 (cz_74) tz_a_74_0 (rfl)
set_option maxRecDepth 100000 in
theorem tz_a_75_0 : ((cz_75).take 25).all (tz_o1 tz_tb3 75) = true := by decide +kernel
theorem tz_al_75 : cz_75.all (tz_o1 tz_tb3 75) = true := ez_ch2 25 (cz_75) tz_a_75_0 (rfl)
set_option maxRecDepth 100000 in
theorem tz_a_76_0 : ((cz_76).take 25).all (tz_o1 tz_tb3 76) = true := by decide +kernel
theorem tz_al_76 : cz_76.all (tz_o1 tz_tb3 76) = true := ez_ch2 25 (cz_76) tz_a_76_0 (rfl)
set_option maxRecDepth 100000 in
theorem tz_a_77_0 : ((cz_77).take 25).all (tz_o1 tz_tb3 77) = true := by decide +kernel
theorem tz_al_77 : cz_77.all (tz_o1 tz_tb3 77) = true := ez_ch2 25 (cz_77) tz_a_77_0 (rfl)
set_option maxRecDepth 100000 in
theorem tz_a_78_0 : ((cz_78).take 25).all (tz_o1 tz_tb3 78) = true := by decide +kernel
set_option maxRecDepth 100000 in
theorem tz_a_78_1 : (((cz_78).drop 25).take 25).all (tz_o1 tz_tb3 78) = true := by decide +kernel
theorem tz_al_78 : cz_78.all (tz_o1 tz_tb3 78) = true := ez_ch2 25 (cz_78) tz_a_78_0 (ez_ch2 25 ((cz_78).drop 25) tz_a_78_1 (rfl))
set_option maxRecDepth 100000 in
theorem tz_a_79_0 : ((cz_79).take 25).all (tz_o1 tz_tb3 79) = true := by decide +kernel
set_option maxRecDepth 100000 in
theorem tz_a_79_1 : (((cz_79).drop 25).take 25).all (tz_o1 tz_tb3 79) = true := by decide +kernel
theorem tz_al_79 : cz_79.all (tz_o1 tz_tb3 79) = true := ez_ch2 25 (cz_79) tz_a_79_0 (ez_ch2 25 ((cz_79).drop 25) tz_a_79_1 (rfl))
set_option maxRecDepth 100000 in
theorem tz_a_80_0 : ((cz_80).take 25).all (tz_o1 tz_tb3 80) = true := by decide +kernel
theorem tz_al_80 : cz_80.all (tz_o1 tz_tb3 80) = true := ez_ch2 25 (cz_80) tz_a_80_0 (rfl)
set_option maxRecDepth 100000 in
theorem tz_a_81_0 : ((cz_81).take 25).all (tz_o1 tz_tb4 81) = true := by decide +kernel
set_option maxRecDepth 100000 in
theorem tz_a_81_1 : (((cz_81).drop 25).take 25).all (tz_o1 tz_tb4 81) = true := by decide +kernel
theorem tz_al_81 : cz_81.all (tz_o1 tz_tb4 81) = true := ez_ch2 25 (cz_81) tz_a_81_0 (ez_ch2 25 ((cz_81).drop 25) tz_a_81_1 (rfl))
set_option maxRecDepth 100000 in
theorem tz_a_82_0 : ((cz_82).take 25).all (tz_o1 tz_tb4 82) = true := by decide +kernel
set_option maxRecDepth 100000 in
theorem tz_a_82_1 : (((cz_82).drop 25).take 25).all (tz_o1 tz_tb4 82) = true := by decide +kernel
theorem tz_al_82 : cz_82.all (tz_o1 tz_tb4 82) = true := ez_ch2 25 (cz_82) tz_a_82_0 (ez_ch2 25 ((cz_82).drop 25) tz_a_82_1 (rfl))
set_option maxRecDepth 100000 in
theorem tz_a_83_0 : ((cz_83).take 25).all (tz_o1 tz_tb4 83) = true := by decide +kernel
set_option maxRecDepth 100000 in
theorem tz_a_83_1 : (((cz_83).drop 25).take 25).all (tz_o1 tz_tb4 83) = true := by decide +kernel
set_option maxRecDepth 100000 in
theorem tz_a_83_2 : ((((cz_83).drop 25).drop 25).take 25).all (tz_o1 tz_tb4 83) = true := by decide +kernel
set_option maxRecDepth 100000 in
theorem tz_a_83_3 : (((((cz_83).drop 25).drop 25).drop 25).take 25).all (tz_o1 tz_tb4 83) = true := by decide +kernel
theorem tz_al_83 : cz_83.all (tz_o1 tz_tb4 83) = true := ez_ch2 25 (cz_83) tz_a_83_0 (ez_ch2 25 ((cz_83).drop 25) tz_a_83_1 (ez_ch2 25 (((cz_83).drop 25).drop 25) tz_a_83_2 (ez_ch2 25 ((((cz_83).drop 25).drop 25).drop 25) tz_a_83_3 (rfl))))
set_option maxRecDepth 100000 in
theorem tz_a_84_0 : ((cz_84).take 25).all (tz_o1 tz_tb4 84) = true := by decide +kernel
set_option maxRecDepth 100000 in
theorem tz_a_84_1 : (((cz_84).drop 25).take 25).all (tz_o1 tz_tb4 84) = true := by decide +kernel
theorem tz_al_84 : cz_84.all (tz_o1 tz_tb4 84) = true := ez_ch2 25 (cz_84) tz_a_84_0 (ez_ch2 25 ((cz_84).drop 25) tz_a_84_1 (rfl))
set_option maxRecDepth 100000 in
theorem tz_a_85_0 : ((cz_85).take 25).all (tz_o1 tz_tb4 85) = true := by decide +kernel
theorem tz_al_85 : cz_85.all (tz_o1 tz_tb4 85) = true := ez_ch2 25 (cz_85) tz_a_85_0 (rfl)
set_option maxRecDepth 100000 in
theorem tz_a_86_0 : ((cz_86).take 25).all (tz_o1 tz_tb4 86) = true := by decide +kernel
theorem tz_al_86 : cz_86.all (tz_o1 tz_tb4 86) = true := ez_ch2 25 (cz_86) tz_a_86_0 (rfl)
set_option maxRecDepth 100000 in
theorem tz_a_87_0 : ((cz_87).take 25).all (tz_o1 tz_tb4 87) = true := by decide +kernel
set_option maxRecDepth 100000 in
theorem tz_a_87_1 : (((cz_87).drop 25).take 25).all (tz_o1 tz_tb4 87) = true := by decide +kernel
theorem tz_al_87 : cz_87.all (tz_o1 tz_tb4 87) = true := ez_ch2 25 (cz_87) tz_a_87_0 (ez_ch2 25 ((cz_87).drop 25) tz_a_87_1 (rfl))
set_option maxRecDepth 100000 in
theorem tz_a_88_0 : ((cz_88).take 25).all (tz_o1 tz_tb4 88) = true := by decide +kernel
theorem tz_al_88 : cz_88.all (tz_o1 tz_tb4 88) = true := ez_ch2 25 (cz_88) tz_a_88_0 (rfl)
set_option maxRecDepth 100000 in
theorem tz_a_89_0 : ((cz_89).take 25).all (tz_o1 tz_tb5 89) = true := by decide +kernel
theorem tz_al_89 : cz_89.all (tz_o1 tz_tb5 89) = true := ez_ch2 25 (cz_89) tz_a_89_0 (rfl)
set_option maxRecDepth 100000 in
theorem tz_a_90_0 : ((cz_90).take 25).all (tz_o1 tz_tb5 90) = true := by decide +kernel
set_option maxRecDepth 100000 in
theorem tz_a_90_1 : (((cz_90).drop 25).take 25).all (tz_o1 tz_tb5 90) = true := by decide +kernel
set_option maxRecDepth 100000 in
theorem tz_a_90_2 : ((((cz_90).drop 25).drop 25).take 25).all (tz_o1 tz_tb5 90) = true := by decide +kernel
set_option maxRecDepth 100000 in
theorem tz_a_90_3 : (((((cz_90).drop 25).drop 25).drop 25).take 25).all (tz_o1 tz_tb5 90) = true := by decide +kernel
theorem tz_al_90 : cz_90.all (tz_o1 tz_tb5 90) = true := ez_ch2 25 (cz_90) tz_a_90_0 (ez_ch2 25 ((cz_90).drop 25) tz_a_90_1 (ez_ch2 25 (((cz_90).drop 25).drop 25) tz_a_90_2 (ez_ch2 25 ((((cz_90).drop 25).drop 25).drop 25) tz_a_90_3 (rfl))))
set_option maxRecDepth 100000 in
theorem tz_a_91_0 : ((cz_91).take 25).all (tz_o1 tz_tb5 91) = true := by decide +kernel
set_option maxRecDepth 100000 in
theorem tz_a_91_1 : (((cz_91).drop 25).take 25).all (tz_o1 tz_tb5 91) = true := by decide +kernel
set_option maxRecDepth 100000 in
theorem tz_a_91_2 : ((((cz_91).drop 25).drop 25).take 25).all (tz_o1 tz_tb5 91) = true := by decide +kernel
theorem tz_al_91 : cz_91.all (tz_o1 tz_tb5 91) = true := ez_ch2 25 (cz_91) tz_a_91_0 (ez_ch2 25 ((cz_91).drop 25) tz_a_91_1 (ez_ch2 25 (((cz_91).drop 25).drop 25) tz_a_91_2 (rfl)))
set_option maxRecDepth 100000 in
theorem tz_a_92_0 : ((cz_92).take 25).all (tz_o1 tz_tb5 92) = true := by decide +kernel
theorem tz_al_92 : cz_92.all (tz_o1 tz_tb5 92) = true := ez_ch2 25 (cz_92) tz_a_92_0 (rfl)
set_option maxRecDepth 100000 in
theorem tz_a_93_0 : ((cz_93).take 25).all (tz_o1 tz_tb5 93) = true := by decide +kernel
theorem tz_al_93 : cz_93.all (tz_o1 tz_tb5 93) = true := ez_ch2 25 (cz_93) tz_a_93_0 (rfl)
set_option maxRecDepth 100000 in
theorem tz_a_94_0 : ((cz_94).take 25).all (tz_o1 tz_tb5 94) = true := by decide +kernel
set_option maxRecDepth 100000 in
theorem tz_a_94_1 : (((cz_94).drop 25).take 25).all (tz_o1 tz_tb5 94) = true := by decide +kernel
theorem tz_al_94 : cz_94.all (tz_o1 tz_tb5 94) = true := ez_ch2 25 (cz_94) tz_a_94_0 (ez_ch2 25 ((cz_94).drop 25) tz_a_94_1 (rfl))
set_option maxRecDepth 100000 in
theorem tz_a_95_0 : ((cz_95).take 25).all (tz_o1 tz_tb5 95) = true := by decide +kernel
set_option maxRecDepth 100000 in
theorem tz_a_95_1 : (((cz_95).drop 25).take 25).all (tz_o1 tz_tb5 95) = true := by decide +kernel
set_option maxRecDepth 100000 in
theorem tz_a_95_2 : ((((cz_95).drop 25).drop 25).take 25).all (tz_o1 tz_tb5 95) = true := by decide +kernel
theorem tz_al_95 : cz_95.all (tz_o1 tz_tb5 95) = true := ez_ch2 25 (cz_95) tz_a_95_0 (ez_ch2 25 ((cz_95).drop 25) tz_a_95_1 (ez_ch2 25 (((cz_95).drop 25).drop 25) tz_a_95_2 (rfl)))
set_option maxRecDepth 100000 in
theorem tz_a_96_0 : ((cz_96).take 25).all (tz_o1 tz_tb5 96) = true := by decide +kernel
theorem tz_al_96 : cz_96.all (tz_o1 tz_tb5 96) = true := ez_ch2 25 (cz_96) tz_a_96_0 (rfl)
set_option maxRecDepth 100000 in
theorem tz_a_97_0 : ((cz_97).take 25).all (tz_o1 tz_tb5 97) = true := by decide +kernel
set_option maxRecDepth 100000 in
theorem tz_a_97_1 : (((cz_97).drop 25).take 25).all (tz_o1 tz_tb5 97) = true := by decide +kernel
theorem tz_al_97 : cz_97.all (tz_o1 tz_tb5 97) = true := ez_ch2 25 (cz_97) tz_a_97_0 (ez_ch2 25 ((cz_97).drop 25) tz_a_97_1 (rfl))
set_option maxRecDepth 100000 in
theorem tz_a_98_0 : ((cz_98).take 25).all (tz_o1 tz_tb5 98) = true := by decide +kernel
theorem tz_al_98 : cz_98.all (tz_o1 tz_tb5 98) = true := ez_ch2 25 (cz_98) tz_a_98_0 (rfl)
set_option maxRecDepth 100000 in
theorem tz_a_99_0 : ((cz_99).take 25).all (tz_o1 tz_tb5 99) = true := by decide +kernel
theorem tz_al_99 : cz_99.all (tz_o1 tz_tb5 99) = true := ez_ch2 25 (cz_99) tz_a_99_0 (rfl)
set_option maxRecDepth 100000 in
theorem tz_a_100_0 : ((cz_100).take 25).all (tz_o1 tz_tb6 100) = true := by decide +kernel
set_option maxRecDepth 100000 in
theorem tz_a_100_1 : (((cz_100).drop 25).take 25).all (tz_o1 tz_tb6 100) = true := by decide +kernel
set_option maxRecDepth 100000 in
theorem tz_a_100_2 : ((((cz_100).drop 25).drop 25).take 25).all (tz_o1 tz_tb6 100) = true := by decide +kernel
set_option maxRecDepth 100000 in
theorem tz_a_100_3 : (((((cz_100).drop 25).drop 25).drop 25).take 25).all (tz_o1 tz_tb6 100) = true := by decide +kernel
theorem tz_al_100 : cz_100.all (tz_o1 tz_tb6 100) = true := ez_ch2 25 (cz_100) tz_a_100_0 (ez_ch2 25 ((cz_100).drop 25) tz_a_100_1 (ez_ch2 25 (((cz_100).drop 25).drop 25) tz_a_100_2 (ez_ch2 25 ((((cz_100).drop 25).drop 25).drop 25) tz_a_100_3 (rfl))))
set_option maxRecDepth 100000 in
theorem tz_a_101_0 : ((cz_101).take 25).all (tz_o1 tz_tb7 101) = true := by decide +kernel
theorem tz_al_101 : cz_101.all (tz_o1 tz_tb7 101) = true := ez_ch2 25 (cz_101) tz_a_101_0 (rfl)
set_option maxRecDepth 100000 in
theorem tz_a_102_0 : ((cz_102).take 25).all (tz_o1 tz_tb7 102) = true := by decide +kernel
set_option maxRecDepth 100000 in
theorem tz_a_102_1 : (((cz_102).drop 25).take 25).all (tz_o1 tz_tb7 102) = true := by decide +kernel
set_option maxRecDepth 100000 in
theorem tz_a_102_2 : ((((cz_102).drop 25).drop 25).take 25).all (tz_o1 tz_tb7 102) = true := by decide +kernel
theorem tz_al_102 : cz_102.all (tz_o1 tz_tb7 102) = true := ez_ch2 25 (cz_102) tz_a_102_0 (ez_ch2 25 ((cz_102).drop 25) tz_a_102_1 (ez_ch2 25 (((cz_102).drop 25).drop 25) tz_a_102_2 (rfl)))
set_option maxRecDepth 100000 in
theorem tz_a_103_0 : ((cz_103).take 25).all (tz_o1 tz_tb7 103) = true := by decide +kernel
set_option maxRecDepth 100000 in
theorem tz_a_103_1 : (((cz_103).drop 25).take 25).all (tz_o1 tz_tb7 103) = true := by decide +kernel
theorem tz_al_103 : cz_103.all (tz_o1 tz_tb7 103) = true := ez_ch2 25 (cz_103) tz_a_103_0 (ez_ch2 25 ((cz_103).drop 25) tz_a_103_1 (rfl))
set_option maxRecDepth 100000 in
theorem tz_a_104_0 : ((cz_104).take 25).all (tz_o1 tz_tb7 104) = true := by decide +kernel
set_option maxRecDepth 100000 in
theorem tz_a_104_1 : (((cz_104).drop 25).take 25).all (tz_o1 tz_tb7 104) = true := by decide +kernel
theorem tz_al_104 : cz_104.all (tz_o1 tz_tb7 104) = true := ez_ch2 25 (cz_104) tz_a_104_0 (ez_ch2 25 ((cz_104).drop 25) tz_a_104_1 (rfl))
set_option maxRecDepth 100000 in
theorem tz_a_105_0 : ((cz_105).take 25).all (tz_o1 tz_tb7 105) = true := by decide +kernel
set_option maxRecDepth 100000 in
theorem tz_a_105_1 : (((cz_105).drop 25).take 25).all (tz_o1 tz_tb7 105) = true := by decide +kernel
theorem tz_al_105 : cz_105.all (tz_o1 tz_tb7 105) = true := ez_ch2 25 (cz_105) tz_a_105_0 (ez_ch2 25 ((cz_105).drop 25) tz_a_105_1 (rfl))
set_option maxRecDepth 100000 in
theorem tz_a_106_0 : ((cz_106).take 25).all (tz_o1 tz_tb7 106) = true := by decide +kernel
set_option maxRecDepth 100000 in
theorem tz_a_106_1 : (((cz_106).drop 25).take 25).all (tz_o1 tz_tb7 106) = true := by decide +kernel
set_option maxRecDepth 100000 in
theorem tz_a_106_2 : ((((cz_106).drop 25).drop 25).take 25).all (tz_o1 tz_tb7 106) = true := by decide +kernel
set_option maxRecDepth 100000 in
theorem tz_a_106_3 : (((((cz_106).drop 25).drop 25).drop 25).take 25).all (tz_o1 tz_tb7 106) = true := by decide +kernel
set_option maxRecDepth 100000 in
theorem tz_a_106_4 : ((((((cz_106).drop 25).drop 25).drop 25).drop 25).take 25).all (tz_o1 tz_tb7 106) = true := by decide +kernel
theorem tz_al_106 : cz_106.all (tz_o1 tz_tb7 106) = true := ez_ch2 25 (cz_106) tz_a_106_0 (ez_ch2 25 ((cz_106).drop 25) tz_a_106_1 (ez_ch2 25 (((cz_106).drop 25).drop 25) tz_a_106_2 (ez_ch2 25 ((((cz_106).drop 25).drop 25).drop 25) tz_a_106_3 (ez_ch2 25 (((((cz_106).drop 25).drop 25).drop 25).drop 25) tz_a_106_4 (rfl)))))
set_option maxRecDepth 100000 in
theorem tz_a_107_0 : ((cz_107).take 25).all (tz_o1 tz_tb7 107) = true := by decide +kernel
set_option maxRecDepth 100000 in
theorem tz_a_107_1 : (((cz_107).drop 25).take 25).all (tz_o1 tz_tb7 107) = true := by decide +kernel
theorem tz_al_107 : cz_107.all (tz_o1 tz_tb7 107) = true := ez_ch2 25 (cz_107) tz_a_107_0 (ez_ch2 25 ((cz_107).drop 25) tz_a_107_1 (rfl))
set_option maxRecDepth 100000 in
theorem tz_a_108_0 : ((cz_108).take 25).all (tz_o1 tz_tb7 108) = true := by decide +kernel
set_option maxRecDepth 100000 in
theorem tz_a_108_1 : (((cz_108).drop 25).take 25).all (tz_o1 tz_tb7 108) = true := by decide +kernel
theorem tz_al_108 : cz_108.all (tz_o1 tz_tb7 108) = true := ez_ch2 25 (cz_108) tz_a_108_0 (ez_ch2 25 ((cz_108).drop 25) tz_a_108_1 (rfl))
set_option maxRecDepth 100000 in
theorem tz_a_109_0 : ((cz_109).take 25).all (tz_o1 tz_tb8 109) = true := by decide +kernel
theorem tz_al_109 : cz_109.all (tz_o1 tz_tb8 109) = true := ez_ch2 25 (cz_109) tz_a_109_0 (rfl)
set_option maxRecDepth 100000 in
theorem tz_a_110_0 : ((cz_110).take 25).all (tz_o1 tz_tb8 110) = true := by decide +kernel
set_option maxRecDepth 100000 in
theorem tz_a_110_1 : (((cz_110).drop 25).take 25).all (tz_o1 tz_tb8 110) = true := by decide +kernel
theorem tz_al_110 : cz_110.all (tz_o1 tz_tb8 110) = true := ez_ch2 25 (cz_110) tz_a_110_0 (ez_ch2 25 ((cz_110).drop 25) tz_a_110_1 (rfl))
set_option maxRecDepth 100000 in
theorem tz_a_111_0 : ((cz_111).take 25).all (tz_o1 tz_tb8 111) = true := by decide +kernel
set_option maxRecDepth 100000 in
theorem tz_a_111_1 : (((cz_111).drop 25).take 25).all (tz_o1 tz_tb8 111) = true := by decide +kernel
set_option maxRecDepth 100000 in
theorem tz_a_111_2 : ((((cz_111).drop 25).drop 25).take 25).all (tz_o1 tz_tb8 111) = true := by decide +kernel
set_option maxRecDepth 100000 in
theorem tz_a_111_3 : (((((cz_111).drop 25).drop 25).drop 25).take 25).all (tz_o1 tz_tb8 111) = true := by decide +kernel
theorem tz_al_111 : cz_111.all (tz_o1 tz_tb8 111) = true := ez_ch2 25 (cz_111) tz_a_111_0 (ez_ch2 25 ((cz_111).drop 25) tz_a_111_1 (ez_ch2 25 (((cz_111).drop 25).drop 25) tz_a_111_2 (ez_ch2 25 ((((cz_111).drop 25).drop 25).drop 25) tz_a_111_3 (rfl))))
set_option maxRecDepth 100000 in
theorem tz_a_112_0 : ((cz_112).take 25).all (tz_o1 tz_tb8 112) = true := by decide +kernel
theorem tz_al_112 : cz_112.all (tz_o1 tz_tb8 112) = true := ez_ch2 25 (cz_112) tz_a_112_0 (rfl)
set_option maxRecDepth 100000 in
theorem tz_a_113_0 : ((cz_113).take 25).all (tz_o1 tz_tb8 113) = true := by decide +kernel
set_option maxRecDepth 100000 in
theorem tz_a_113_1 : (((cz_113).drop 25).take 25).all (tz_o1 tz_tb8 113) = true := by decide +kernel
theorem tz_al_113 : cz_113.all (tz_o1 tz_tb8 113) = true := ez_ch2 25 (cz_113) tz_a_113_0 (ez_ch2 25 ((cz_113).drop 25) tz_a_113_1 (rfl))
set_option maxRecDepth 100000 in
theorem tz_a_114_0 : ((cz_114).take 25).all (tz_o1 tz_tb9 114) = true := by decide +kernel
set_option maxRecDepth 100000 in
theorem tz_a_114_1 : (((cz_114).drop 25).take 25).all (tz_o1 tz_tb9 114) = true := by decide +kernel
theorem tz_al_114 : cz_114.all (tz_o1 tz_tb9 114) = true := ez_ch2 25 (cz_114) tz_a_114_0 (ez_ch2 25 ((cz_114).drop 25) tz_a_114_1 (rfl))
end
section
set_option maxRecDepth 100000 in
theorem tz_a_115_0 : ((cz_115).take 25).all (tz_o1 tz_tb9 115) = true := by decide +kernel
set_option maxRecDepth 100000 in
theorem tz_a_115_1 : (((cz_115).drop 25).take 25).all (tz_o1 tz_tb9 115) = true := by decide +kernel
set_option maxRecDepth 100000 in
theorem tz_a_115_2 : ((((cz_115).drop 25).drop 25).take 25).all (tz_o1 tz_tb9 115) = true := by decide +kernel
set_option maxRecDepth 100000 in
theorem tz_a_115_3 : (((((cz_115).drop 25).drop 25).drop 25).take 25).all (tz_o1 tz_tb9 115) = true := by decide +kernel
theorem tz_al_115 : cz_115.all (tz_o1 tz_tb9 115) = true := ez_ch2 25 (cz_115) tz_a_115_0 (ez_ch2 25 ((cz_115).drop 25) tz_a_115_1 (ez_ch2 25 (((cz_115).drop 25).drop 25) tz_a_115_2 (ez_ch2 25 ((((cz_115).drop 25).drop 25).drop 25) tz_a_115_3 (rfl))))
set_option maxRecDepth 100000 in
theorem tz_a_116_0 : ((cz_116).take 25).all (tz_o1 tz_tb9 116) = true := by decide +kernel
set_option maxRecDepth 100000 in
theorem tz_a_116_1 : (((cz_116).drop 25).take 25).all (tz_o1 tz_tb9 116) = true := by decide +kernel
set_option maxRecDepth 100000 in
theorem tz_a_116_2 : ((((cz_116).drop 25).drop 25).take 25).all (tz_o1 tz_tb9 116) = true := by decide +kernel
set_option maxRecDepth 100000 in
theorem tz_a_116_3 : (((((cz_116).drop 25).drop 25).drop 25).take 25).all (tz_o1 tz_tb9 116) = true := by decide +kernel
theorem tz_al_116 : cz_116.all (tz_o1 tz_tb9 116) = true := ez_ch2 25 (cz_116) tz_a_116_0 (ez_ch2 25 ((cz_116).drop 25) tz_a_116_1 (ez_ch2 25 (((cz_116).drop 25).drop 25) tz_a_116_2 (ez_ch2 25 ((((cz_116).drop 25).drop 25).drop 25) tz_a_116_3 (rfl))))
set_option maxRecDepth 100000 in
theorem tz_a_117_0 : ((cz_117).take 25).all (tz_o1 tz_tb9 117) = true := by decide +kernel
set_option maxRecDepth 100000 in
theorem tz_a_117_1 : (((cz_117).drop 25).take 25).all (tz_o1 tz_tb9 117) = true := by decide +kernel
theorem tz_al_117 : cz_117.all (tz_o1 tz_tb9 117) = true := ez_ch2 25 (cz_117) tz_a_117_0 (ez_ch2 25 ((cz_117).drop 25) tz_a_117_1 (rfl))
set_option maxRecDepth 100000 in
theorem tz_a_118_0 : ((cz_118).take 25).all (tz_o1 tz_tb9 118) = true := by decide +kernel
set_option maxRecDepth 100000 in
theorem tz_a_118_1 : (((cz_118).drop 25).take 25).all (tz_o1 tz_tb9 118) = true := by decide +kernel
set_option maxRecDepth 100000 in
theorem tz_a_118_2 : ((((cz_118).drop 25).drop 25).take 25).all (tz_o1 tz_tb9 118) = true := by decide +kernel
theorem tz_al_118 : cz_118.all (tz_o1 tz_tb9 118) = true := ez_ch2 25 (cz_118) tz_a_118_0 (ez_ch2 25 ((cz_118).drop 25) tz_a_118_1 (ez_ch2 25 (((cz_118).drop 25).drop 25) tz_a_118_2 (rfl)))
set_option maxRecDepth 100000 in
theorem tz_a_119_0 : ((cz_119).take 25).all (tz_o1 tz_tb9 119) = true := by decide +kernel
set_option maxRecDepth 100000 in
theorem tz_a_119_1 : (((cz_119).drop 25).take 25).all (tz_o1 tz_tb9 119) = true := by decide +kernel
set_option maxRecDepth 100000 in
theorem tz_a_119_2 : ((((cz_119).drop 25).drop 25).take 25).all (tz_o1 tz_tb9 119) = true := by decide +kernel
set_option maxRecDepth 100000 in
theorem tz_a_119_3 : (((((cz_119).drop 25).drop 25).drop 25).take 25).all (tz_o1 tz_tb9 119) = true := by decide +kernel
set_option maxRecDepth 100000 in
theorem tz_a_119_4 : ((((((cz_119).drop 25).drop 25).drop 25).drop 25).take 25).all (tz_o1 tz_tb9 119) = true := by decide +kernel
set_option maxRecDepth 100000 in
theorem tz_a_119_5 : (((((((cz_119).drop 25).drop 25).drop 25).drop 25).drop 25).take 25).all (tz_o1 tz_tb9 119) = true := by decide +kernel
set_option maxRecDepth 100000 in
theorem tz_a_119_6 : ((((((((cz_119).drop 25).drop 25).drop 25).drop 25).drop 25).drop 25).take 25).all (tz_o1 tz_tb9 119) = true := by decide +kernel
theorem tz_al_119 : cz_119.all (tz_o1 tz_tb9 119) = true := ez_ch2 25 (cz_119) tz_a_119_0 (ez_ch2 25 ((cz_119).drop 25) tz_a_119_1 (ez_ch2 25 (((cz_119).drop 25).drop 25) tz_a_119_2 (ez_ch2 25 ((((cz_119).drop 25).drop 25).drop 25) tz_a_119_3 (ez_ch2 25 (((((cz_119).drop 25).drop 25).drop 25).drop 25) tz_a_119_4 (ez_ch2 25 ((((((cz_119).drop 25).drop 25).drop 25).drop 25).drop 25) tz_a_119_5 (ez_ch2 25 (((((((cz_119).drop 25).drop 25).drop 25).drop 25).drop 25).drop 25) tz_a_119_6 (rfl)))))))
set_option maxRecDepth 100000 in
theorem tz_a_120_0 : ((cz_120).take 25).all (tz_o1 tz_tb9 120) = true := by decide +kernel
set_option maxRecDepth 100000 in
theorem tz_a_120_1 : (((cz_120).drop 25).take 25).all (tz_o1 tz_tb9 120) = true := by decide +kernel
set_option maxRecDepth 100000 in
theorem tz_a_120_2 : ((((cz_120).drop 25).drop 25).take 25).all (tz_o1 tz_tb9 120) = true := by decide +kernel
theorem tz_al_120 : cz_120.all (tz_o1 tz_tb9 120) = true := ez_ch2 25 (cz_120) tz_a_120_0 (ez_ch2 25 ((cz_120).drop 25) tz_a_120_1 (ez_ch2 25 (((cz_120).drop 25).drop 25) tz_a_120_2 (rfl)))
set_option maxRecDepth 100000 in
theorem tz_a_121_0 : ((cz_121).take 25).all (tz_o1 tz_tb9 121) = true := by decide +kernel
set_option maxRecDepth 100000 in
theorem tz_a_121_1 : (((cz_121).drop 25).take 25).all (tz_o1 tz_tb9 121) = true := by decide +kernel
theorem tz_al_121 : cz_121.all (tz_o1 tz_tb9 121) = true := ez_ch2 25 (cz_121) tz_a_121_0 (ez_ch2 25 ((cz_121).drop 25) tz_a_121_1 (rfl))
set_option maxRecDepth 100000 in
theorem tz_a_122_0 : ((cz_122).take 25).all (tz_o1 tz_tb9 122) = true := by decide +kernel
set_option maxRecDepth 100000 in
theorem tz_a_122_1 : (((cz_122).drop 25).take 25).all (tz_o1 tz_tb9 122) = true := by decide +kernel
set_option maxRecDepth 100000 in
theorem tz_a_122_2 : ((((cz_122).drop 25).drop 25).take 25).all (tz_o1 tz_tb9 122) = true := by decide +kernel
theorem tz_al_122 : cz_122.all (tz_o1 tz_tb9 122) = true := ez_ch2 25 (cz_122) tz_a_122_0 (ez_ch2 25 ((cz_122).drop 25) tz_a_122_1 (ez_ch2 25 (((cz_122).drop 25).drop 25) tz_a_122_2 (rfl)))
set_option maxRecDepth 100000 in
theorem tz_a_123_0 : ((cz_123).take 25).all (tz_o1 tz_tb10 123) = true := by decide +kernel
theorem tz_al_123 : cz_123.all (tz_o1 tz_tb10 123) = true := ez_ch2 25 (cz_123) tz_a_123_0 (rfl)
set_option maxRecDepth 100000 in
theorem tz_a_124_0 : ((cz_124).take 25).all (tz_o1 tz_tb10 124) = true := by decide +kernel
theorem tz_al_124 : cz_124.all (tz_o1 tz_tb10 124) = true := ez_ch2 25 (cz_124) tz_a_124_0 (rfl)
set_option maxRecDepth 100000 in
theorem tz_a_125_0 : ((cz_125).take 25).all (tz_o1 tz_tb10 125) = true := by decide +kernel
set_option maxRecDepth 100000 in
theorem tz_a_125_1 : (((cz_125).drop 25).take 25).all (tz_o1 tz_tb10 125) = true := by decide +kernel
theorem tz_al_125 : cz_125.all (tz_o1 tz_tb10 125) = true := ez_ch2 25 (cz_125) tz_a_125_0 (ez_ch2 25 ((cz_125).drop 25) tz_a_125_1 (rfl))
set_option maxRecDepth 100000 in
theorem tz_a_126_0 : ((cz_126).take 25).all (tz_o1 tz_tb10 126) = true := by decide +kernel
theorem tz_al_126 : cz_126.all (tz_o1 tz_tb10 126) = true := ez_ch2 25 (cz_126) tz_a_126_0 (rfl)
set_option maxRecDepth 100000 in
theorem tz_a_127_0 : ((cz_127).take 25).all (tz_o1 tz_tb10 127) = true := by decide +kernel
theorem tz_al_127 : cz_127.all (tz_o1 tz_tb10 127) = true := ez_ch2 25 (cz_127) tz_a_127_0 (rfl)
set_option maxRecDepth 100000 in
theorem tz_a_128_0 : ((cz_128).take 25).all (tz_o1 tz_tb11 128) = true := by decide +kernel
theorem tz_al_128 : cz_128.all (tz_o1 tz_tb11 128) = true := ez_ch2 25 (cz_128) tz_a_128_0 (rfl)
set_option maxRecDepth 100000 in
theorem tz_a_129_0 : ((cz_129).take 25).all (tz_o1 tz_tb11 129) = true := by decide +kernel
theorem tz_al_129 : cz_129.all (tz_o1 tz_tb11 129) = true := ez_ch2 25 (cz_129) tz_a_129_0 (rfl)
set_option maxRecDepth 100000 in
theorem tz_a_130_0 : ((cz_130).take 25).all (tz_o1 tz_tb11 130) = true := by decide +kernel
theorem tz_al_130 : cz_130.all (tz_o1 tz_tb11 130) = true := ez_ch2 25 (cz_130) tz_a_130_0 (rfl)
set_option maxRecDepth 100000 in
theorem tz_a_131_0 : ((cz_131).take 25).all (tz_o1 tz_tb11 131) = true := by decide +kernel
theorem tz_al_131 : cz_131.all (tz_o1 tz_tb11 131) = true := ez_ch2 25 (cz_131) tz_a_131_0 (rfl)
set_option maxRecDepth 100000 in
theorem tz_a_132_0 : ((cz_132).take 25).all (tz_o1 tz_tb12 132) = true := by decide +kernel
theorem tz_al_132 : cz_132.all (tz_o1 tz_tb12 132) = true := ez_ch2 25 (cz_132) tz_a_132_0 (rfl)
set_option maxRecDepth 100000 in
theorem tz_a_133_0 : ((cz_133).take 25).all (tz_o1 tz_tb12 133) = true := by decide +kernel
theorem tz_al_133 : cz_133.all (tz_o1 tz_tb12 133) = true := ez_ch2 25 (cz_133) tz_a_133_0 (rfl)
set_option maxRecDepth 100000 in
theorem tz_a_134_0 : ((cz_134).take 25).all (tz_o1 tz_tb12 134) = true := by decide +kernel
set_option maxRecDepth 100000 in
theorem tz_a_134_1 : (((cz_134).drop 25).take 25).all (tz_o1 tz_tb12 134) = true := by decide +kernel
set_option maxRecDepth 100000 in
theorem tz_a_134_2 : ((((cz_134).drop 25).drop 25).take 25).all (tz_o1 tz_tb12 134) = true := by decide +kernel
theorem tz_al_134 : cz_134.all (tz_o1 tz_tb12 134) = true := ez_ch2 25 (cz_134) tz_a_134_0 (ez_ch2 25 ((cz_134).drop 25) tz_a_134_1 (ez_ch2 25 (((cz_134).drop 25).drop 25) tz_a_134_2 (rfl)))
set_option maxRecDepth 100000 in
theorem tz_a_135_0 : ((cz_135).take 25).all (tz_o1 tz_tb12 135) = true := by decide +kernel
set_option maxRecDepth 100000 in
theorem tz_a_135_1 : (((cz_135).drop 25).take 25).all (tz_o1 tz_tb12 135) = true := by decide +kernel
theorem tz_al_135 : cz_135.all (tz_o1 tz_tb12 135) = true := ez_ch2 25 (cz_135) tz_a_135_0 (ez_ch2 25 ((cz_135).drop 25) tz_a_135_1 (rfl))
set_option maxRecDepth 100000 in
theorem tz_a_136_0 : ((cz_136).take 25).all (tz_o1 tz_tb12 136) = true := by decide +kernel
set_option maxRecDepth 100000 in
theorem tz_a_136_1 : (((cz_136).drop 25).take 25).all (tz_o1 tz_tb12 136) = true := by decide +kernel
set_option maxRecDepth 100000 in
theorem tz_a_136_2 : ((((cz_136).drop 25).drop 25).take 25).all (tz_o1 tz_tb12 136) = true := by decide +kernel
set_option maxRecDepth 100000 in
theorem tz_a_136_3 : (((((cz_136).drop 25).drop 25).drop 25).take 25).all (tz_o1 tz_tb12 136) = true := by decide +kernel
theorem tz_al_136 : cz_136.all (tz_o1 tz_tb12 136) = true := ez_ch2 25 (cz_136) tz_a_136_0 (ez_ch2 25 ((cz_136).drop 25) tz_a_136_1 (ez_ch2 25 (((cz_136).drop 25).drop 25) tz_a_136_2 (ez_ch2 25 ((((cz_136).drop 25).drop 25).drop 25) tz_a_136_3 (rfl))))
set_option maxRecDepth 100000 in
theorem tz_a_137_0 : ((cz_137).take 25).all (tz_o1 tz_tb12 137) = true := by decide +kernel
set_option maxRecDepth 100000 in
theorem tz_a_137_1 : (((cz_137).drop 25).take 25).all (tz_o1 tz_tb12 137) = true := by decide +kernel
theorem tz_al_137 : cz_137.all (tz_o1 tz_tb12 137) = true := ez_ch2 25 (cz_137) tz_a_137_0 (ez_ch2 25 ((cz_137).drop 25) tz_a_137_1 (rfl))
set_option maxRecDepth 100000 in
theorem tz_a_138_0 : ((cz_138).take 25).all (tz_o1 tz_tb12 138) = true := by decide +kernel
set_option maxRecDepth 100000 in
theorem tz_a_138_1 : (((cz_138).drop 25).take 25).all (tz_o1 tz_tb12 138) = true := by decide +kernel
set_option maxRecDepth 100000 in
theorem tz_a_138_2 : ((((cz_138).drop 25).drop 25).take 25).all (tz_o1 tz_tb12 138) = true := by decide +kernel
set_option maxRecDepth 100000 in
theorem tz_a_138_3 : (((((cz_138).drop 25).drop 25).drop 25).take 25).all (tz_o1 tz_tb12 138) = true := by decide +kernel
theorem tz_al_138 : cz_138.all (tz_o1 tz_tb12 138) = true := ez_ch2 25 (cz_138) tz_a_138_0 (ez_ch2 25 ((cz_138).drop 25) tz_a_138_1 (ez_ch2 25 (((cz_138).drop 25).drop 25) tz_a_138_2 (ez_ch2 25 ((((cz_138).drop 25).drop 25).drop 25) tz_a_138_3 (rfl))))
set_option maxRecDepth 100000 in
theorem tz_a_139_0 : ((cz_139).take 25).all (tz_o1 tz_tb12 139) = true := by decide +kernel
set_option maxRecDepth 100000 in
theorem tz_a_139_1 : (((cz_139).drop 25).take 25).all (tz_o1 tz_tb12 139) = true := by decide +kernel
theorem tz_al_139 : cz_139.all (tz_o1 tz_tb12 139) = true := ez_ch2 25 (cz_139) tz_a_139_0 (ez_ch2 25 ((cz_139).drop 25) tz_a_139_1 (rfl))
set_option maxRecDepth 100000 in
theorem tz_a_140_0 : ((cz_140).take 25).all (tz_o1 tz_tb12 140) = true := by decide +kernel
set_option maxRecDepth 100000 in
theorem tz_a_140_1 : (((cz_140).drop 25).take 25).all (tz_o1 tz_tb12 140) = true := by decide +kernel
set_option maxRecDepth 100000 in
theorem tz_a_140_2 : ((((cz_140).drop 25).drop 25).take 25).all (tz_o1 tz_tb12 140) = true := by decide +kernel
theorem tz_al_140 : cz_140.all (tz_o1 tz_tb12 140) = true := ez_ch2 25 (cz_140) tz_a_140_0 (ez_ch2 25 ((cz_140).drop 25) tz_a_140_1 (ez_ch2 25 (((cz_140).drop 25).drop 25) tz_a_140_2 (rfl)))
set_option maxRecDepth 100000 in
theorem tz_a_141_0 : ((cz_141).take 25).all (tz_o1 tz_tb12 141) = true := by decide +kernel
theorem tz_al_141 : cz_141.all (tz_o1 tz_tb12 141) = true := ez_ch2 25 (cz_141) tz_a_141_0 (rfl)
set_option maxRecDepth 100000 in
theorem tz_a_142_0 : ((cz_142).take 25).all (tz_o1 tz_tb12 142) = true := by decide +kernel
set_option maxRecDepth 100000 in
theorem tz_a_142_1 : (((cz_142).drop 25).take 25).all (tz_o1 tz_tb12 142) = true := by decide +kernel
set_option maxRecDepth 100000 in
theorem tz_a_142_2 : ((((cz_142).drop 25).drop 25).take 25).all (tz_o1 tz_tb12 142) = true := by decide +kernel
theorem tz_al_142 : cz_142.all (tz_o1 tz_tb12 142) = true := ez_ch2 25 (cz_142) tz_a_142_0 (ez_ch2 25 ((cz_142).drop 25) tz_a_142_1 (ez_ch2 25 (((cz_142).drop 25).drop 25) tz_a_142_2 (rfl)))
set_option maxRecDepth 100000 in
theorem tz_a_143_0 : ((cz_143).take 25).all (tz_o1 tz_tb12 143) = true := by decide +kernel
set_option maxRecDepth 100000 in
theorem tz_a_143_1 : (((cz_143).drop 25).take 25).all (tz_o1 tz_tb12 143) = true := by decide +kernel
theorem tz_al_143 : cz_143.all (tz_o1 tz_tb12 143) = true := ez_ch2 25 (cz_143) tz_a_143_0 (ez_ch2 25 ((cz_143).drop 25) tz_a_143_1 (rfl))
set_option maxRecDepth 100000 in
theorem tz_a_144_0 : ((cz_144).take 25).all (tz_o1 tz_tb12 144) = true := by decide +kernel
theorem tz_al_144 : cz_144.all (tz_o1 tz_tb12 144) = true := ez_ch2 25 (cz_144) tz_a_144_0 (rfl)
set_option maxRecDepth 100000 in
theorem tz_a_145_0 : ((cz_145).take 25).all (tz_o1 tz_tb13 145) = true := by decide +kernel
theorem tz_al_145 : cz_145.all (tz_o1 tz_tb13 145) = true := ez_ch2 25 (cz_145) tz_a_145_0 (rfl)
set_option maxRecDepth 100000 in
theorem tz_a_146_0 : ((cz_146).take 25).all (tz_o1 tz_tb13 146) = true := by decide +kernel
theorem tz_al_146 : cz_146.all (tz_o1 tz_tb13 146) = true := ez_ch2 25 (cz_146) tz_a_146_0 (rfl)
set_option maxRecDepth 100000 in
theorem tz_a_147_0 : ((cz_147).take 25).all (tz_o1 tz_tb13 147) = true := by decide +kernel
theorem tz_al_147 : cz_147.all (tz_o1 tz_tb13 147) = true := ez_ch2 25 (cz_147) tz_a_147_0 (rfl)
set_option maxRecDepth 100000 in
theorem tz_a_148_0 : ((cz_148).take 25).all (tz_o1 tz_tb13 148) = true := by decide +kernel
theorem tz_al_148 : cz_148.all (tz_o1 tz_tb13 148) = true := ez_ch2 25 (cz_148) tz_a_148_0 (rfl)
set_option maxRecDepth 100000 in
theorem tz_a_149_0 : ((cz_149).take 25).all (tz_o1 tz_tb14 149) = true := by decide +kernel
theorem tz_al_149 : cz_149.all (tz_o1 tz_tb14 149) = true := ez_ch2 25 (cz_149) tz_a_149_0 (rfl)
set_option maxRecDepth 100000 in
theorem tz_a_150_0 : ((cz_150).take 25).all (tz_o1 tz_tb13 150) = true := by decide +kernel
set_option maxRecDepth 100000 in
theorem tz_a_150_1 : (((cz_150).drop 25).take 25).all (tz_o1 tz_tb13 150) = true := by decide +kernel
set_option maxRecDepth 100000 in
theorem tz_a_150_2 : ((((cz_150).drop 25).drop 25).take 25).all (tz_o1 tz_tb13 150) = true := by decide +kernel
set_option maxRecDepth 100000 in
theorem tz_a_150_3 : (((((cz_150).drop 25).drop 25).drop 25).take 25).all (tz_o1 tz_tb13 150) = true := by decide +kernel
set_option maxRecDepth 100000 in
theorem tz_a_150_4 : ((((((cz_150).drop 25).drop 25).drop 25).drop 25).take 25).all (tz_o1 tz_tb13 150) = true := by decide +kernel
set_option maxRecDepth 100000 in
theorem tz_a_150_5 : (((((((cz_150).drop 25).drop 25).drop 25).drop 25).drop 25).take 25).all (tz_o1 tz_tb13 150) = true := by decide +kernel
set_option maxRecDepth 100000 in
theorem tz_a_150_6 : ((((((((cz_150).drop 25).drop 25).drop 25).drop 25).drop 25).drop 25).take 25).all (tz_o1 tz_tb13 150) = true := by decide +kernel
set_option maxRecDepth 100000 in
theorem tz_a_150_7 : (((((((((cz_150).drop 25).drop 25).drop 25).drop 25).drop 25).drop 25).drop 25).take 25).all (tz_o1 tz_tb13 150) = true := by decide +kernel
set_option maxRecDepth 100000 in
theorem tz_a_150_8 : ((((((((((cz_150).drop 25).drop 25).drop 25).drop 25).drop 25).drop 25).drop 25).drop 25).take 25).all (tz_o1 tz_tb13 150) = true := by decide +kernel
set_option maxRecDepth 100000 in
theorem tz_a_150_9 : (((((((((((cz_150).drop 25).drop 25).drop 25).drop 25).drop 25).drop 25).drop 25).drop 25).drop 25).take 25).all (tz_o1 tz_tb13 150) = true := by decide +kernel
set_option maxRecDepth 100000 in
theorem tz_a_150_10 : ((((((((((((cz_150).drop 25).drop 25).drop 25).drop 25).drop 25).drop 25).drop 25).drop 25).drop 25).drop 25).take 25).all (tz_o1 tz_tb13 150) = true := by decide +kernel
set_option maxRecDepth 100000 in
theorem tz_a_150_11 : (((((((((((((cz_150).drop 25).drop 25).drop 25).drop 25).drop 25).drop 25).drop 25).drop 25).drop 25).drop 25).drop 25).take 25).all (tz_o1 tz_tb13 150) = true := by decide +kernel
set_option maxRecDepth 100000 in
theorem tz_a_150_12 : ((((((((((((((cz_150).drop 25).drop 25).drop 25).drop 25).drop 25).drop 25).drop 25).drop 25).drop 25).drop 25).drop 25).drop 25).take 25).all (tz_o1 tz_tb13 150) = true := by decide +kernel
set_option maxRecDepth 100000 in
theorem tz_a_150_13 : (((((((((((((((cz_150).drop 25).drop 25).drop 25).drop 25).drop 25).drop 25).drop 25).drop 25).drop 25).drop 25).drop 25).drop 25).drop 25).take 25).all (tz_o1 tz_tb13 150) = true := by decide +kernel
set_option maxRecDepth 100000 in
theorem tz_a_150_14 : ((((((((((((((((cz_150).drop 25).drop 25).drop 25).drop 25).drop 25).drop 25).drop 25).drop 25).drop 25).drop 25).drop 25).drop 25).drop 25).drop 25).take 25).all (tz_o1 tz_tb13 150) = true := by decide +kernel
set_option maxRecDepth 100000 in
theorem tz_a_150_15 : (((((((((((((((((cz_150).drop 25).drop 25).drop 25).drop 25).drop 25).drop 25).drop 25).drop 25).drop 25).drop 25).drop 25).drop 25).drop 25).drop 25).drop 25).take 25).all (tz_o1 tz_tb13 150) = true := by decide +kernel
set_option maxRecDepth 100000 in
theorem tz_a_150_16 : ((((((((((((((((((cz_150).drop 25).drop 25).drop 25).drop 25).drop 25).drop 25).drop 25).drop 25).drop 25).drop 25).drop 25).drop 25).drop 25).drop 25).drop 25).drop 25).take 25).all (tz_o1 tz_tb13 150) = true := by decide +kernel
set_option maxRecDepth 100000 in
theorem tz_a_150_17 : (((((((((((((((((((cz_150).drop 25).drop 25).drop 25).drop 25).drop 25).drop 25).drop 25).drop 25).drop 25).drop 25).drop 25).drop 25).drop 25).drop 25).drop 25).drop 25).drop 25).take 25).all (tz_o1 tz_tb13 150) = true := by decide +kernel
set_option maxRecDepth 100000 in
theorem tz_a_150_18 : ((((((((((((((((((((cz_150).drop 25).drop 25).drop 25).drop 25).drop 25).drop 25).drop 25).drop 25).drop 25).drop 25).drop 25).drop 25).drop 25).drop 25).drop 25).drop 25).drop 25).drop 25).take 25).all (tz_o1 tz_tb13 150) = true := by decide +kernel
theorem tz_al_150 : cz_150.all (tz_o1 tz_tb13 150) = true := ez_ch2 25 (cz_150) tz_a_150_0 (ez_ch2 25 ((cz_150).drop 25) tz_a_150_1 (ez_ch2 25 (((cz_150).drop 25).drop 25) tz_a_150_2 (ez_ch2 25 ((((cz_150).drop 25).drop 25).drop 25) tz_a_150_3 (ez_ch2 25 (((((cz_150).drop 25).drop 25).drop 25).drop 25) tz_a_150_4 (ez_ch2 25 ((((((cz_150).drop 25).drop 25).drop 25).drop 25).drop 25) tz_a_150_5 (ez_ch2 25 (((((((cz_150).drop 25).drop 25).drop 25).drop 25).drop 25).drop 25) tz_a_150_6 (ez_ch2 25 ((((((((cz_150).drop 25).drop 25).drop 25).drop 25).drop 25).drop 25).drop 25) tz_a_150_7 (ez_ch2 25 (((((((((cz_150).drop 25).drop 25).drop 25).drop 25).drop 25).drop 25).drop 25).drop 25) tz_a_150_8 (ez_ch2 25 ((((((((((cz_150).drop 25).drop 25).drop 25).drop 25).drop 25).drop 25).drop 25).drop 25).drop 25) tz_a_150_9 (ez_ch2 25 (((((((((((cz_150).drop 25).drop 25).drop 25).drop 25).drop 25).drop 25).drop 25).drop 25).drop 25).drop 25) tz_a_150_10 (ez_ch2 25 ((((((((((((cz_150).drop 25).drop 25).drop 25).drop 25).drop 25).drop 25).drop 25).drop 25).drop 25).drop 25).drop 25) tz_a_150_11 (ez_ch2 25 (((((((((((((cz_150).drop 25).drop 25).drop 25).drop 25).drop 25).drop 25).drop 25).drop 25).drop 25).drop 25).drop 25).drop 25) tz_a_150_12 (ez_ch2 25 ((((((((((((((cz_150).drop 25).drop 25).drop 25).drop 25).drop 25).drop 25).drop 25).drop 25).drop 25).drop 25).drop 25).drop 25).drop 25) tz_a_150_13 (ez_ch2 25 (((((((((((((((cz_150).drop 25).drop 25).drop 25).drop 25).drop 25).drop 25).drop 25).drop 25).drop 25).drop 25).drop 25).drop 25).drop 25).drop 25) tz_a_150_14 (ez_ch2 25 ((((((((((((((((cz_150).drop 25).drop 25).drop 25).drop 25).drop 25).drop 25).drop 25).drop 25).drop 25).drop 25).drop 25).drop 25).drop 25).drop 25).drop 25) tz_a_150_15 (ez_ch2 25 (((((((((((((((((cz_150).drop 25).drop 25).drop 25).drop 25).drop 25).drop 25).drop 25).drop 25).drop 25).drop 25).drop 25).drop 25).drop 25).drop 25).drop 25).drop 25) tz_a_150_16 (ez_ch2 25 ((((((((((((((((((cz_150).drop 25).drop 25).drop 25).drop 25).drop 25).drop 25).drop 25).drop 25).drop 25).drop 25).drop 25).drop 25).drop 25).drop 25).drop 25).drop 25).drop 25) tz_a_150_17 (ez_ch2 25 (((((((((((((((((((cz_150).drop 25).drop 25).drop 25).drop 25).drop 25).drop 25).drop 25).drop 25).drop 25).drop 25).drop 25).drop 25).drop 25).drop 25).drop 25).drop 25).drop 25).drop 25) tz_a_150_18 (rfl)))))))))))))))))))
end
section
theorem ez_sub_ix {big tb : List Cond} {ps : List Nat} (h : (ps.zip tb).all (fun q => decide (big[q.1]? = some q.2)) = true) (hl : tb.length ≤ ps.length) : ∀ w ∈ tb, w ∈ big := by
  intro w hw
  obtain ⟨i, hi⟩ := List.getElem?_of_mem hw
  have hlt := (List.getElem?_eq_some_iff.mp hi).1
  have hp : ps[i]? = some (ps[i]'(by omega)) := List.getElem?_eq_getElem (by omega)
  have hz : (ps.zip tb)[i]? = some (ps[i]'(by omega), w) := by
    rw [List.getElem?_zip_eq_some]
    exact ⟨hp, hi⟩
  have := List.all_eq_true.mp h _ (List.mem_of_getElem? hz)
  exact List.mem_of_getElem? (of_decide_eq_true this)
/-- the words that the walk rests on: the tables', and two of the Statement's own on classes that can't be cast -/
def tz_exw : List Cond := [.not (.castable "java/lang/IllegalArgumentException" "java/lang/IndexOutOfBoundsException"), .not (.castable "java/lang/IllegalStateException" "java/lang/IllegalArgumentException")]
/-- words that go along from state to state -/
def ez_kp (w : Cond) : Bool := match w with
  | .fieldLinkNest .. => true
  | .methodLinkNest .. => true
  | .declares _ => true
  | .castable _ _ => true
  | w => goodWord w
theorem ez_notCast_warm {args a' : Array Value} {s U : State} {A C : String} (hW : s.WarmedH U.vm) (h : (Cond.not (Cond.castable A C)).before args s = true) : (Cond.not (Cond.castable A C)).before a' U = true := by
  have e1 := hW.alike.findClass (name := A)
  have e2 := hW.alike.findClass (name := C)
  simp only [Cond.before, Cond.holds, Cond.value, e1, e2] at h ⊢
  cases hA : s.vm.findClass A with
  | none => simp [hA] at h
  | some cA =>
    cases hC : s.vm.findClass C with
    | none => simp [hA, hC] at h
    | some cC =>
      simp only [hA, hC] at h ⊢
      rw [hW.alike.assignable]
      exact h
theorem ez_kp_ok {w : Cond} (h : ez_kp w = true) {args a' : Array Value} {s U : State} (hW : s.WarmedH U.vm) (hb : w.before args s = true) : w.before a' U = true := by
  unfold ez_kp at h
  split at h
  · exact va_Nw.use rfl (va_Nw.warmF hW (va_Nw.of rfl hb))
  · exact va_Nw.use rfl (va_Nw.warmM hW (va_Nw.of rfl hb))
  · exact va_Nw.use rfl (va_Nw.warmD hW (va_Nw.of rfl hb))
  · exact va_Nw.use rfl (va_Nw.warmC hW (va_Nw.of rfl hb))
  · exact word_at hW (good_of_word h) hb
def tz_tbl : List Cond := lw_tbl.filter ez_kp ++ tz_exw
theorem tz_in {w : Cond} (h : w ∈ lw_tbl) (hk : ez_kp w = true) : w ∈ tz_tbl := List.mem_append_left _ (List.mem_filter.mpr ⟨h, hk⟩)
set_option maxRecDepth 100000 in
theorem tz_sub_0 : ∀ w ∈ tz_tb0, w ∈ tz_tbl := fun w hw => tz_in (ez_sub_ix (ps := tz_ps0) (by decide +kernel) (by decide +kernel) w hw) (List.all_eq_true.mp (show tz_tb0.all ez_kp = true by decide +kernel) w hw)
set_option maxRecDepth 100000 in
theorem tz_sub_1 : ∀ w ∈ tz_tb1, w ∈ tz_tbl := fun w hw => tz_in (ez_sub_ix (ps := tz_ps1) (by decide +kernel) (by decide +kernel) w hw) (List.all_eq_true.mp (show tz_tb1.all ez_kp = true by decide +kernel) w hw)
set_option maxRecDepth 100000 in
theorem tz_sub_2 : ∀ w ∈ tz_tb2, w ∈ tz_tbl := fun w hw => tz_in (ez_sub_ix (ps := tz_ps2) (by decide +kernel) (by decide +kernel) w hw) (List.all_eq_true.mp (show tz_tb2.all ez_kp = true by decide +kernel) w hw)
set_option maxRecDepth 100000 in
theorem tz_sub_3 : ∀ w ∈ tz_tb3, w ∈ tz_tbl := fun w hw => tz_in (ez_sub_ix (ps := tz_ps3) (by decide +kernel) (by decide +kernel) w hw) (List.all_eq_true.mp (show tz_tb3.all ez_kp = true by decide +kernel) w hw)
set_option maxRecDepth 100000 in
theorem tz_sub_4 : ∀ w ∈ tz_tb4, w ∈ tz_tbl := fun w hw => tz_in (ez_sub_ix (ps := tz_ps4) (by decide +kernel) (by decide +kernel) w hw) (List.all_eq_true.mp (show tz_tb4.all ez_kp = true by decide +kernel) w hw)
set_option maxRecDepth 100000 in
theorem tz_sub_5 : ∀ w ∈ tz_tb5, w ∈ tz_tbl := fun w hw => tz_in (ez_sub_ix (ps := tz_ps5) (by decide +kernel) (by decide +kernel) w hw) (List.all_eq_true.mp (show tz_tb5.all ez_kp = true by decide +kernel) w hw)
set_option maxRecDepth 100000 in
theorem tz_sub_6 : ∀ w ∈ tz_tb6, w ∈ tz_tbl := fun w hw => tz_in (ez_sub_ix (ps := tz_ps6) (by decide +kernel) (by decide +kernel) w hw) (List.all_eq_true.mp (show tz_tb6.all ez_kp = true by decide +kernel) w hw)
set_option maxRecDepth 100000 in
theorem tz_sub_7 : ∀ w ∈ tz_tb7, w ∈ tz_tbl := fun w hw => tz_in (ez_sub_ix (ps := tz_ps7) (by decide +kernel) (by decide +kernel) w hw) (List.all_eq_true.mp (show tz_tb7.all ez_kp = true by decide +kernel) w hw)
set_option maxRecDepth 100000 in
theorem tz_sub_8 : ∀ w ∈ tz_tb8, w ∈ tz_tbl := fun w hw => tz_in (ez_sub_ix (ps := tz_ps8) (by decide +kernel) (by decide +kernel) w hw) (List.all_eq_true.mp (show tz_tb8.all ez_kp = true by decide +kernel) w hw)
set_option maxRecDepth 100000 in
theorem tz_sub_9 : ∀ w ∈ tz_tb9, w ∈ tz_tbl := fun w hw => tz_in (ez_sub_ix (ps := tz_ps9) (by decide +kernel) (by decide +kernel) w hw) (List.all_eq_true.mp (show tz_tb9.all ez_kp = true by decide +kernel) w hw)
set_option maxRecDepth 100000 in
theorem tz_sub_10 : ∀ w ∈ tz_tb10, w ∈ tz_tbl := fun w hw => tz_in (ez_sub_ix (ps := tz_ps10) (by decide +kernel) (by decide +kernel) w hw) (List.all_eq_true.mp (show tz_tb10.all ez_kp = true by decide +kernel) w hw)
set_option maxRecDepth 100000 in
theorem tz_sub_11 : ∀ w ∈ tz_tb11, w ∈ tz_tbl := fun w hw => tz_in (ez_sub_ix (ps := tz_ps11) (by decide +kernel) (by decide +kernel) w hw) (List.all_eq_true.mp (show tz_tb11.all ez_kp = true by decide +kernel) w hw)
set_option maxRecDepth 100000 in
theorem tz_sub_12 : ∀ w ∈ tz_tb12, w ∈ tz_tbl := fun w hw => tz_in (ez_sub_ix (ps := tz_ps12) (by decide +kernel) (by decide +kernel) w hw) (List.all_eq_true.mp (show tz_tb12.all ez_kp = true by decide +kernel) w hw)
set_option maxRecDepth 100000 in
theorem tz_sub_13 : ∀ w ∈ tz_tb13, w ∈ tz_tbl := fun w hw => tz_in (ez_sub_ix (ps := tz_ps13) (by decide +kernel) (by decide +kernel) w hw) (List.all_eq_true.mp (show tz_tb13.all ez_kp = true by decide +kernel) w hw)
set_option maxRecDepth 100000 in
theorem tz_sub_14 : ∀ w ∈ tz_tb14, w ∈ tz_tbl := fun w hw => tz_in (ez_sub_ix (ps := tz_ps14) (by decide +kernel) (by decide +kernel) w hw) (List.all_eq_true.mp (show tz_tb14.all ez_kp = true by decide +kernel) w hw)
set_option maxRecDepth 100000 in
theorem tz_gen : ez_gen tz_tbl := ⟨tz_in (List.mem_of_getElem? (i := 84) rfl) rfl, tz_in (List.mem_of_getElem? (i := 73) (by decide +kernel)) rfl, tz_in (List.mem_of_getElem? (i := 74) (by decide +kernel)) rfl, tz_in (List.mem_of_getElem? (i := 488) rfl) rfl, tz_in (List.mem_of_getElem? (i := 485) rfl) rfl⟩
set_option maxRecDepth 100000 in
theorem tz_wc_0 : ez_wc (tz_nm 0) (tz_by 0) (tz_ml 0) (tz_re 0) (tz_hh 0) ∈ tz_tbl := tz_in (List.mem_of_getElem? (i := 81) rfl) rfl
set_option maxRecDepth 100000 in
theorem tz_wc_1 : ez_wc (tz_nm 1) (tz_by 1) (tz_ml 1) (tz_re 1) (tz_hh 1) ∈ tz_tbl := tz_in (List.mem_of_getElem? (i := 426) rfl) rfl
set_option maxRecDepth 100000 in
theorem tz_wc_2 : ez_wc (tz_nm 2) (tz_by 2) (tz_ml 2) (tz_re 2) (tz_hh 2) ∈ tz_tbl := tz_in (List.mem_of_getElem? (i := 434) rfl) rfl
set_option maxRecDepth 100000 in
theorem tz_wc_3 : ez_wc (tz_nm 3) (tz_by 3) (tz_ml 3) (tz_re 3) (tz_hh 3) ∈ tz_tbl := tz_in (List.mem_of_getElem? (i := 443) rfl) rfl
set_option maxRecDepth 100000 in
theorem tz_wc_4 : ez_wc (tz_nm 4) (tz_by 4) (tz_ml 4) (tz_re 4) (tz_hh 4) ∈ tz_tbl := tz_in (List.mem_of_getElem? (i := 447) rfl) rfl
set_option maxRecDepth 100000 in
theorem tz_wc_5 : ez_wc (tz_nm 5) (tz_by 5) (tz_ml 5) (tz_re 5) (tz_hh 5) ∈ tz_tbl := tz_in (List.mem_of_getElem? (i := 745) rfl) rfl
set_option maxRecDepth 100000 in
theorem tz_wc_6 : ez_wc (tz_nm 6) (tz_by 6) (tz_ml 6) (tz_re 6) (tz_hh 6) ∈ tz_tbl := tz_in (List.mem_of_getElem? (i := 455) rfl) rfl
set_option maxRecDepth 100000 in
theorem tz_wc_7 : ez_wc (tz_nm 7) (tz_by 7) (tz_ml 7) (tz_re 7) (tz_hh 7) ∈ tz_tbl := tz_in (List.mem_of_getElem? (i := 461) rfl) rfl
set_option maxRecDepth 100000 in
theorem tz_wc_8 : ez_wc (tz_nm 8) (tz_by 8) (tz_ml 8) (tz_re 8) (tz_hh 8) ∈ tz_tbl := tz_in (List.mem_of_getElem? (i := 692) rfl) rfl
set_option maxRecDepth 100000 in
theorem tz_wc_9 : ez_wc (tz_nm 9) (tz_by 9) (tz_ml 9) (tz_re 9) (tz_hh 9) ∈ tz_tbl := tz_in (List.mem_of_getElem? (i := 696) rfl) rfl
set_option maxRecDepth 100000 in
theorem tz_wc_10 : ez_wc (tz_nm 10) (tz_by 10) (tz_ml 10) (tz_re 10) (tz_hh 10) ∈ tz_tbl := tz_in (List.mem_of_getElem? (i := 703) rfl) rfl
set_option maxRecDepth 100000 in
theorem tz_wc_11 : ez_wc (tz_nm 11) (tz_by 11) (tz_ml 11) (tz_re 11) (tz_hh 11) ∈ tz_tbl := tz_in (List.mem_of_getElem? (i := 707) rfl) rfl
set_option maxRecDepth 100000 in
theorem tz_wc_12 : ez_wc (tz_nm 12) (tz_by 12) (tz_ml 12) (tz_re 12) (tz_hh 12) ∈ tz_tbl := tz_in (List.mem_of_getElem? (i := 712) rfl) rfl
set_option maxRecDepth 100000 in
theorem tz_wc_13 : ez_wc (tz_nm 13) (tz_by 13) (tz_ml 13) (tz_re 13) (tz_hh 13) ∈ tz_tbl := tz_in (List.mem_of_getElem? (i := 821) rfl) rfl
set_option maxRecDepth 100000 in
theorem tz_wc_14 : ez_wc (tz_nm 14) (tz_by 14) (tz_ml 14) (tz_re 14) (tz_hh 14) ∈ tz_tbl := tz_in (List.mem_of_getElem? (i := 725) rfl) rfl
set_option maxRecDepth 100000 in
theorem tz_wc_15 : ez_wc (tz_nm 15) (tz_by 15) (tz_ml 15) (tz_re 15) (tz_hh 15) ∈ tz_tbl := tz_in (List.mem_of_getElem? (i := 729) rfl) rfl
set_option maxRecDepth 100000 in
theorem tz_wc_16 : ez_wc (tz_nm 16) (tz_by 16) (tz_ml 16) (tz_re 16) (tz_hh 16) ∈ tz_tbl := tz_in (List.mem_of_getElem? (i := 919) rfl) rfl
set_option maxRecDepth 100000 in
theorem tz_wc_17 : ez_wc (tz_nm 17) (tz_by 17) (tz_ml 17) (tz_re 17) (tz_hh 17) ∈ tz_tbl := tz_in (List.mem_of_getElem? (i := 946) rfl) rfl
set_option maxRecDepth 100000 in
theorem tz_wc_18 : ez_wc (tz_nm 18) (tz_by 18) (tz_ml 18) (tz_re 18) (tz_hh 18) ∈ tz_tbl := tz_in (List.mem_of_getElem? (i := 733) rfl) rfl
set_option maxRecDepth 100000 in
theorem tz_wc_19 : ez_wc (tz_nm 19) (tz_by 19) (tz_ml 19) (tz_re 19) (tz_hh 19) ∈ tz_tbl := tz_in (List.mem_of_getElem? (i := 737) rfl) rfl
set_option maxRecDepth 100000 in
theorem tz_wc_20 : ez_wc (tz_nm 20) (tz_by 20) (tz_ml 20) (tz_re 20) (tz_hh 20) ∈ tz_tbl := tz_in (List.mem_of_getElem? (i := 430) rfl) rfl
set_option maxRecDepth 100000 in
theorem tz_wc_21 : ez_wc (tz_nm 21) (tz_by 21) (tz_ml 21) (tz_re 21) (tz_hh 21) ∈ tz_tbl := tz_in (List.mem_of_getElem? (i := 951) rfl) rfl
set_option maxRecDepth 100000 in
theorem tz_wc_22 : ez_wc (tz_nm 22) (tz_by 22) (tz_ml 22) (tz_re 22) (tz_hh 22) ∈ tz_tbl := tz_in (List.mem_of_getElem? (i := 585) rfl) rfl
set_option maxRecDepth 100000 in
theorem tz_wc_23 : ez_wc (tz_nm 23) (tz_by 23) (tz_ml 23) (tz_re 23) (tz_hh 23) ∈ tz_tbl := tz_in (List.mem_of_getElem? (i := 532) rfl) rfl
set_option maxRecDepth 100000 in
theorem tz_wc_24 : ez_wc (tz_nm 24) (tz_by 24) (tz_ml 24) (tz_re 24) (tz_hh 24) ∈ tz_tbl := tz_in (List.mem_of_getElem? (i := 959) rfl) rfl
set_option maxRecDepth 100000 in
theorem tz_wc_25 : ez_wc (tz_nm 25) (tz_by 25) (tz_ml 25) (tz_re 25) (tz_hh 25) ∈ tz_tbl := tz_in (List.mem_of_getElem? (i := 1177) rfl) rfl
set_option maxRecDepth 100000 in
theorem tz_wc_26 : ez_wc (tz_nm 26) (tz_by 26) (tz_ml 26) (tz_re 26) (tz_hh 26) ∈ tz_tbl := tz_in (List.mem_of_getElem? (i := 1181) rfl) rfl
set_option maxRecDepth 100000 in
theorem tz_wc_27 : ez_wc (tz_nm 27) (tz_by 27) (tz_ml 27) (tz_re 27) (tz_hh 27) ∈ tz_tbl := tz_in (List.mem_of_getElem? (i := 1185) rfl) rfl
set_option maxRecDepth 100000 in
theorem tz_wc_28 : ez_wc (tz_nm 28) (tz_by 28) (tz_ml 28) (tz_re 28) (tz_hh 28) ∈ tz_tbl := tz_in (List.mem_of_getElem? (i := 1189) rfl) rfl
set_option maxRecDepth 100000 in
theorem tz_wc_29 : ez_wc (tz_nm 29) (tz_by 29) (tz_ml 29) (tz_re 29) (tz_hh 29) ∈ tz_tbl := tz_in (List.mem_of_getElem? (i := 1193) rfl) rfl
set_option maxRecDepth 100000 in
theorem tz_wc_30 : ez_wc (tz_nm 30) (tz_by 30) (tz_ml 30) (tz_re 30) (tz_hh 30) ∈ tz_tbl := tz_in (List.mem_of_getElem? (i := 1197) rfl) rfl
set_option maxRecDepth 100000 in
theorem tz_wc_31 : ez_wc (tz_nm 31) (tz_by 31) (tz_ml 31) (tz_re 31) (tz_hh 31) ∈ tz_tbl := tz_in (List.mem_of_getElem? (i := 1201) rfl) rfl
set_option maxRecDepth 100000 in
theorem tz_wc_32 : ez_wc (tz_nm 32) (tz_by 32) (tz_ml 32) (tz_re 32) (tz_hh 32) ∈ tz_tbl := tz_in (List.mem_of_getElem? (i := 1214) rfl) rfl
set_option maxRecDepth 100000 in
theorem tz_wc_33 : ez_wc (tz_nm 33) (tz_by 33) (tz_ml 33) (tz_re 33) (tz_hh 33) ∈ tz_tbl := tz_in (List.mem_of_getElem? (i := 1210) rfl) rfl
set_option maxRecDepth 100000 in
theorem tz_wc_34 : ez_wc (tz_nm 34) (tz_by 34) (tz_ml 34) (tz_re 34) (tz_hh 34) ∈ tz_tbl := tz_in (List.mem_of_getElem? (i := 1222) rfl) rfl
set_option maxRecDepth 100000 in
theorem tz_wc_35 : ez_wc (tz_nm 35) (tz_by 35) (tz_ml 35) (tz_re 35) (tz_hh 35) ∈ tz_tbl := tz_in (List.mem_of_getElem? (i := 1226) rfl) rfl
set_option maxRecDepth 100000 in
theorem tz_wc_36 : ez_wc (tz_nm 36) (tz_by 36) (tz_ml 36) (tz_re 36) (tz_hh 36) ∈ tz_tbl := tz_in (List.mem_of_getElem? (i := 1234) rfl) rfl
set_option maxRecDepth 100000 in
theorem tz_wc_37 : ez_wc (tz_nm 37) (tz_by 37) (tz_ml 37) (tz_re 37) (tz_hh 37) ∈ tz_tbl := tz_in (List.mem_of_getElem? (i := 1230) rfl) rfl
set_option maxRecDepth 100000 in
theorem tz_wc_38 : ez_wc (tz_nm 38) (tz_by 38) (tz_ml 38) (tz_re 38) (tz_hh 38) ∈ tz_tbl := tz_in (List.mem_of_getElem? (i := 1261) rfl) rfl
set_option maxRecDepth 100000 in
theorem tz_wc_39 : ez_wc (tz_nm 39) (tz_by 39) (tz_ml 39) (tz_re 39) (tz_hh 39) ∈ tz_tbl := tz_in (List.mem_of_getElem? (i := 1257) rfl) rfl
set_option maxRecDepth 100000 in
theorem tz_wc_40 : ez_wc (tz_nm 40) (tz_by 40) (tz_ml 40) (tz_re 40) (tz_hh 40) ∈ tz_tbl := tz_in (List.mem_of_getElem? (i := 1238) rfl) rfl
set_option maxRecDepth 100000 in
theorem tz_wc_41 : ez_wc (tz_nm 41) (tz_by 41) (tz_ml 41) (tz_re 41) (tz_hh 41) ∈ tz_tbl := tz_in (List.mem_of_getElem? (i := 1265) rfl) rfl
set_option maxRecDepth 100000 in
theorem tz_wc_42 : ez_wc (tz_nm 42) (tz_by 42) (tz_ml 42) (tz_re 42) (tz_hh 42) ∈ tz_tbl := tz_in (List.mem_of_getElem? (i := 1246) rfl) rfl
set_option maxRecDepth 100000 in
theorem tz_wc_43 : ez_wc (tz_nm 43) (tz_by 43) (tz_ml 43) (tz_re 43) (tz_hh 43) ∈ tz_tbl := tz_in (List.mem_of_getElem? (i := 1242) rfl) rfl
set_option maxRecDepth 100000 in
theorem tz_wc_44 : ez_wc (tz_nm 44) (tz_by 44) (tz_ml 44) (tz_re 44) (tz_hh 44) ∈ tz_tbl := tz_in (List.mem_of_getElem? (i := 1251) rfl) rfl
set_option maxRecDepth 100000 in
theorem tz_wc_45 : ez_wc (tz_nm 45) (tz_by 45) (tz_ml 45) (tz_re 45) (tz_hh 45) ∈ tz_tbl := tz_in (List.mem_of_getElem? (i := 1218) rfl) rfl
set_option maxRecDepth 100000 in
theorem tz_wc_46 : ez_wc (tz_nm 46) (tz_by 46) (tz_ml 46) (tz_re 46) (tz_hh 46) ∈ tz_tbl := tz_in (List.mem_of_getElem? (i := 1206) rfl) rfl
set_option maxRecDepth 100000 in
theorem tz_wc_47 : ez_wc (tz_nm 47) (tz_by 47) (tz_ml 47) (tz_re 47) (tz_hh 47) ∈ tz_tbl := tz_in (List.mem_of_getElem? (i := 1269) rfl) rfl
set_option maxRecDepth 100000 in
theorem tz_wc_48 : ez_wc (tz_nm 48) (tz_by 48) (tz_ml 48) (tz_re 48) (tz_hh 48) ∈ tz_tbl := tz_in (List.mem_of_getElem? (i := 1273) rfl) rfl
set_option maxRecDepth 100000 in
theorem tz_wc_49 : ez_wc (tz_nm 49) (tz_by 49) (tz_ml 49) (tz_re 49) (tz_hh 49) ∈ tz_tbl := tz_in (List.mem_of_getElem? (i := 1277) rfl) rfl
set_option maxRecDepth 100000 in
theorem tz_wc_50 : ez_wc (tz_nm 50) (tz_by 50) (tz_ml 50) (tz_re 50) (tz_hh 50) ∈ tz_tbl := tz_in (List.mem_of_getElem? (i := 1281) rfl) rfl
set_option maxRecDepth 100000 in
theorem tz_wc_51 : ez_wc (tz_nm 51) (tz_by 51) (tz_ml 51) (tz_re 51) (tz_hh 51) ∈ tz_tbl := tz_in (List.mem_of_getElem? (i := 1285) rfl) rfl
set_option maxRecDepth 100000 in
theorem tz_wc_52 : ez_wc (tz_nm 52) (tz_by 52) (tz_ml 52) (tz_re 52) (tz_hh 52) ∈ tz_tbl := tz_in (List.mem_of_getElem? (i := 1293) rfl) rfl
set_option maxRecDepth 100000 in
theorem tz_wc_53 : ez_wc (tz_nm 53) (tz_by 53) (tz_ml 53) (tz_re 53) (tz_hh 53) ∈ tz_tbl := tz_in (List.mem_of_getElem? (i := 1297) rfl) rfl
set_option maxRecDepth 100000 in
theorem tz_wc_54 : ez_wc (tz_nm 54) (tz_by 54) (tz_ml 54) (tz_re 54) (tz_hh 54) ∈ tz_tbl := tz_in (List.mem_of_getElem? (i := 1306) rfl) rfl
set_option maxRecDepth 100000 in
theorem tz_wc_55 : ez_wc (tz_nm 55) (tz_by 55) (tz_ml 55) (tz_re 55) (tz_hh 55) ∈ tz_tbl := tz_in (List.mem_of_getElem? (i := 1318) rfl) rfl
set_option maxRecDepth 100000 in
theorem tz_wc_56 : ez_wc (tz_nm 56) (tz_by 56) (tz_ml 56) (tz_re 56) (tz_hh 56) ∈ tz_tbl := tz_in (List.mem_of_getElem? (i := 1321) rfl) rfl
set_option maxRecDepth 100000 in
theorem tz_wc_57 : ez_wc (tz_nm 57) (tz_by 57) (tz_ml 57) (tz_re 57) (tz_hh 57) ∈ tz_tbl := tz_in (List.mem_of_getElem? (i := 1313) rfl) rfl
set_option maxRecDepth 100000 in
theorem tz_wc_58 : ez_wc (tz_nm 58) (tz_by 58) (tz_ml 58) (tz_re 58) (tz_hh 58) ∈ tz_tbl := tz_in (List.mem_of_getElem? (i := 1301) rfl) rfl
set_option maxRecDepth 100000 in
theorem tz_wc_59 : ez_wc (tz_nm 59) (tz_by 59) (tz_ml 59) (tz_re 59) (tz_hh 59) ∈ tz_tbl := tz_in (List.mem_of_getElem? (i := 1310) rfl) rfl
set_option maxRecDepth 100000 in
theorem tz_wc_60 : ez_wc (tz_nm 60) (tz_by 60) (tz_ml 60) (tz_re 60) (tz_hh 60) ∈ tz_tbl := tz_in (List.mem_of_getElem? (i := 1325) rfl) rfl
set_option maxRecDepth 100000 in
theorem tz_wc_61 : ez_wc (tz_nm 61) (tz_by 61) (tz_ml 61) (tz_re 61) (tz_hh 61) ∈ tz_tbl := tz_in (List.mem_of_getElem? (i := 1289) rfl) rfl
set_option maxRecDepth 100000 in
theorem tz_wc_62 : ez_wc (tz_nm 62) (tz_by 62) (tz_ml 62) (tz_re 62) (tz_hh 62) ∈ tz_tbl := tz_in (List.mem_of_getElem? (i := 1329) rfl) rfl
set_option maxRecDepth 100000 in
theorem tz_wc_63 : ez_wc (tz_nm 63) (tz_by 63) (tz_ml 63) (tz_re 63) (tz_hh 63) ∈ tz_tbl := tz_in (List.mem_of_getElem? (i := 1333) rfl) rfl
set_option maxRecDepth 100000 in
theorem tz_wc_64 : ez_wc (tz_nm 64) (tz_by 64) (tz_ml 64) (tz_re 64) (tz_hh 64) ∈ tz_tbl := tz_in (List.mem_of_getElem? (i := 1337) rfl) rfl
set_option maxRecDepth 100000 in
theorem tz_wc_65 : ez_wc (tz_nm 65) (tz_by 65) (tz_ml 65) (tz_re 65) (tz_hh 65) ∈ tz_tbl := tz_in (List.mem_of_getElem? (i := 1342) rfl) rfl
set_option maxRecDepth 100000 in
theorem tz_wc_66 : ez_wc (tz_nm 66) (tz_by 66) (tz_ml 66) (tz_re 66) (tz_hh 66) ∈ tz_tbl := tz_in (List.mem_of_getElem? (i := 1346) rfl) rfl
set_option maxRecDepth 100000 in
theorem tz_wc_67 : ez_wc (tz_nm 67) (tz_by 67) (tz_ml 67) (tz_re 67) (tz_hh 67) ∈ tz_tbl := tz_in (List.mem_of_getElem? (i := 1350) rfl) rfl
set_option maxRecDepth 100000 in
theorem tz_wc_68 : ez_wc (tz_nm 68) (tz_by 68) (tz_ml 68) (tz_re 68) (tz_hh 68) ∈ tz_tbl := tz_in (List.mem_of_getElem? (i := 314) rfl) rfl
set_option maxRecDepth 100000 in
theorem tz_wc_69 : ez_wc (tz_nm 69) (tz_by 69) (tz_ml 69) (tz_re 69) (tz_hh 69) ∈ tz_tbl := tz_in (List.mem_of_getElem? (i := 499) rfl) rfl
set_option maxRecDepth 100000 in
theorem tz_wc_70 : ez_wc (tz_nm 70) (tz_by 70) (tz_ml 70) (tz_re 70) (tz_hh 70) ∈ tz_tbl := tz_in (List.mem_of_getElem? (i := 636) rfl) rfl
set_option maxRecDepth 100000 in
theorem tz_wc_71 : ez_wc (tz_nm 71) (tz_by 71) (tz_ml 71) (tz_re 71) (tz_hh 71) ∈ tz_tbl := tz_in (List.mem_of_getElem? (i := 640) rfl) rfl
set_option maxRecDepth 100000 in
theorem tz_wc_72 : ez_wc (tz_nm 72) (tz_by 72) (tz_ml 72) (tz_re 72) (tz_hh 72) ∈ tz_tbl := tz_in (List.mem_of_getElem? (i := 657) rfl) rfl
set_option maxRecDepth 100000 in
theorem tz_wc_73 : ez_wc (tz_nm 73) (tz_by 73) (tz_ml 73) (tz_re 73) (tz_hh 73) ∈ tz_tbl := tz_in (List.mem_of_getElem? (i := 669) rfl) rfl
set_option maxRecDepth 100000 in
theorem tz_wc_74 : ez_wc (tz_nm 74) (tz_by 74) (tz_ml 74) (tz_re 74) (tz_hh 74) ∈ tz_tbl := tz_in (List.mem_of_getElem? (i := 248) rfl) rfl
set_option maxRecDepth 100000 in
theorem tz_wc_75 : ez_wc (tz_nm 75) (tz_by 75) (tz_ml 75) (tz_re 75) (tz_hh 75) ∈ tz_tbl := tz_in (List.mem_of_getElem? (i := 503) rfl) rfl
set_option maxRecDepth 100000 in
theorem tz_wc_76 : ez_wc (tz_nm 76) (tz_by 76) (tz_ml 76) (tz_re 76) (tz_hh 76) ∈ tz_tbl := tz_in (List.mem_of_getElem? (i := 542) rfl) rfl
set_option maxRecDepth 100000 in
theorem tz_wc_77 : ez_wc (tz_nm 77) (tz_by 77) (tz_ml 77) (tz_re 77) (tz_hh 77) ∈ tz_tbl := tz_in (List.mem_of_getElem? (i := 649) rfl) rfl
set_option maxRecDepth 100000 in
theorem tz_wc_78 : ez_wc (tz_nm 78) (tz_by 78) (tz_ml 78) (tz_re 78) (tz_hh 78) ∈ tz_tbl := tz_in (List.mem_of_getElem? (i := 673) rfl) rfl
set_option maxRecDepth 100000 in
theorem tz_wc_79 : ez_wc (tz_nm 79) (tz_by 79) (tz_ml 79) (tz_re 79) (tz_hh 79) ∈ tz_tbl := tz_in (List.mem_of_getElem? (i := 716) rfl) rfl
set_option maxRecDepth 100000 in
theorem tz_wc_80 : ez_wc (tz_nm 80) (tz_by 80) (tz_ml 80) (tz_re 80) (tz_hh 80) ∈ tz_tbl := tz_in (List.mem_of_getElem? (i := 546) rfl) rfl
set_option maxRecDepth 100000 in
theorem tz_wc_81 : ez_wc (tz_nm 81) (tz_by 81) (tz_ml 81) (tz_re 81) (tz_hh 81) ∈ tz_tbl := tz_in (List.mem_of_getElem? (i := 138) rfl) rfl
set_option maxRecDepth 100000 in
theorem tz_wc_82 : ez_wc (tz_nm 82) (tz_by 82) (tz_ml 82) (tz_re 82) (tz_hh 82) ∈ tz_tbl := tz_in (List.mem_of_getElem? (i := 907) rfl) rfl
set_option maxRecDepth 100000 in
theorem tz_wc_83 : ez_wc (tz_nm 83) (tz_by 83) (tz_ml 83) (tz_re 83) (tz_hh 83) ∈ tz_tbl := tz_in (List.mem_of_getElem? (i := 178) rfl) rfl
set_option maxRecDepth 100000 in
theorem tz_wc_84 : ez_wc (tz_nm 84) (tz_by 84) (tz_ml 84) (tz_re 84) (tz_hh 84) ∈ tz_tbl := tz_in (List.mem_of_getElem? (i := 897) rfl) rfl
set_option maxRecDepth 100000 in
theorem tz_wc_85 : ez_wc (tz_nm 85) (tz_by 85) (tz_ml 85) (tz_re 85) (tz_hh 85) ∈ tz_tbl := tz_in (List.mem_of_getElem? (i := 911) rfl) rfl
set_option maxRecDepth 100000 in
theorem tz_wc_86 : ez_wc (tz_nm 86) (tz_by 86) (tz_ml 86) (tz_re 86) (tz_hh 86) ∈ tz_tbl := tz_in (List.mem_of_getElem? (i := 183) rfl) rfl
set_option maxRecDepth 100000 in
theorem tz_wc_87 : ez_wc (tz_nm 87) (tz_by 87) (tz_ml 87) (tz_re 87) (tz_hh 87) ∈ tz_tbl := tz_in (List.mem_of_getElem? (i := 187) rfl) rfl
set_option maxRecDepth 100000 in
theorem tz_wc_88 : ez_wc (tz_nm 88) (tz_by 88) (tz_ml 88) (tz_re 88) (tz_hh 88) ∈ tz_tbl := tz_in (List.mem_of_getElem? (i := 190) rfl) rfl
set_option maxRecDepth 100000 in
theorem tz_wc_89 : ez_wc (tz_nm 89) (tz_by 89) (tz_ml 89) (tz_re 89) (tz_hh 89) ∈ tz_tbl := tz_in (List.mem_of_getElem? (i := 283) rfl) rfl
set_option maxRecDepth 100000 in
theorem tz_wc_90 : ez_wc (tz_nm 90) (tz_by 90) (tz_ml 90) (tz_re 90) (tz_hh 90) ∈ tz_tbl := tz_in (List.mem_of_getElem? (i := 589) rfl) rfl
set_option maxRecDepth 100000 in
theorem tz_wc_91 : ez_wc (tz_nm 91) (tz_by 91) (tz_ml 91) (tz_re 91) (tz_hh 91) ∈ tz_tbl := tz_in (List.mem_of_getElem? (i := 679) rfl) rfl
set_option maxRecDepth 100000 in
theorem tz_wc_92 : ez_wc (tz_nm 92) (tz_by 92) (tz_ml 92) (tz_re 92) (tz_hh 92) ∈ tz_tbl := tz_in (List.mem_of_getElem? (i := 592) rfl) rfl
set_option maxRecDepth 100000 in
theorem tz_wc_93 : ez_wc (tz_nm 93) (tz_by 93) (tz_ml 93) (tz_re 93) (tz_hh 93) ∈ tz_tbl := tz_in (List.mem_of_getElem? (i := 620) rfl) rfl
set_option maxRecDepth 100000 in
theorem tz_wc_94 : ez_wc (tz_nm 94) (tz_by 94) (tz_ml 94) (tz_re 94) (tz_hh 94) ∈ tz_tbl := tz_in (List.mem_of_getElem? (i := 600) rfl) rfl
set_option maxRecDepth 100000 in
theorem tz_wc_95 : ez_wc (tz_nm 95) (tz_by 95) (tz_ml 95) (tz_re 95) (tz_hh 95) ∈ tz_tbl := tz_in (List.mem_of_getElem? (i := 605) rfl) rfl
set_option maxRecDepth 100000 in
theorem tz_wc_96 : ez_wc (tz_nm 96) (tz_by 96) (tz_ml 96) (tz_re 96) (tz_hh 96) ∈ tz_tbl := tz_in (List.mem_of_getElem? (i := 609) rfl) rfl
set_option maxRecDepth 100000 in
theorem tz_wc_97 : ez_wc (tz_nm 97) (tz_by 97) (tz_ml 97) (tz_re 97) (tz_hh 97) ∈ tz_tbl := tz_in (List.mem_of_getElem? (i := 615) rfl) rfl
set_option maxRecDepth 100000 in
theorem tz_wc_98 : ez_wc (tz_nm 98) (tz_by 98) (tz_ml 98) (tz_re 98) (tz_hh 98) ∈ tz_tbl := tz_in (List.mem_of_getElem? (i := 626) rfl) rfl
set_option maxRecDepth 100000 in
theorem tz_wc_99 : ez_wc (tz_nm 99) (tz_by 99) (tz_ml 99) (tz_re 99) (tz_hh 99) ∈ tz_tbl := tz_in (List.mem_of_getElem? (i := 629) rfl) rfl
set_option maxRecDepth 100000 in
theorem tz_wc_100 : ez_wc (tz_nm 100) (tz_by 100) (tz_ml 100) (tz_re 100) (tz_hh 100) ∈ tz_tbl := tz_in (List.mem_of_getElem? (i := 132) rfl) rfl
set_option maxRecDepth 100000 in
theorem tz_wc_101 : ez_wc (tz_nm 101) (tz_by 101) (tz_ml 101) (tz_re 101) (tz_hh 101) ∈ tz_tbl := tz_in (List.mem_of_getElem? (i := 112) rfl) rfl
set_option maxRecDepth 100000 in
theorem tz_wc_102 : ez_wc (tz_nm 102) (tz_by 102) (tz_ml 102) (tz_re 102) (tz_hh 102) ∈ tz_tbl := tz_in (List.mem_of_getElem? (i := 554) rfl) rfl
set_option maxRecDepth 100000 in
theorem tz_wc_103 : ez_wc (tz_nm 103) (tz_by 103) (tz_ml 103) (tz_re 103) (tz_hh 103) ∈ tz_tbl := tz_in (List.mem_of_getElem? (i := 560) rfl) rfl
set_option maxRecDepth 100000 in
theorem tz_wc_104 : ez_wc (tz_nm 104) (tz_by 104) (tz_ml 104) (tz_re 104) (tz_hh 104) ∈ tz_tbl := tz_in (List.mem_of_getElem? (i := 566) rfl) rfl
set_option maxRecDepth 100000 in
theorem tz_wc_105 : ez_wc (tz_nm 105) (tz_by 105) (tz_ml 105) (tz_re 105) (tz_hh 105) ∈ tz_tbl := tz_in (List.mem_of_getElem? (i := 574) rfl) rfl
set_option maxRecDepth 100000 in
theorem tz_wc_106 : ez_wc (tz_nm 106) (tz_by 106) (tz_ml 106) (tz_re 106) (tz_hh 106) ∈ tz_tbl := tz_in (List.mem_of_getElem? (i := 578) rfl) rfl
set_option maxRecDepth 100000 in
theorem tz_wc_107 : ez_wc (tz_nm 107) (tz_by 107) (tz_ml 107) (tz_re 107) (tz_hh 107) ∈ tz_tbl := tz_in (List.mem_of_getElem? (i := 582) rfl) rfl
set_option maxRecDepth 100000 in
theorem tz_wc_108 : ez_wc (tz_nm 108) (tz_by 108) (tz_ml 108) (tz_re 108) (tz_hh 108) ∈ tz_tbl := tz_in (List.mem_of_getElem? (i := 570) rfl) rfl
set_option maxRecDepth 100000 in
theorem tz_wc_109 : ez_wc (tz_nm 109) (tz_by 109) (tz_ml 109) (tz_re 109) (tz_hh 109) ∈ tz_tbl := tz_in (List.mem_of_getElem? (i := 266) rfl) rfl
set_option maxRecDepth 100000 in
theorem tz_wc_110 : ez_wc (tz_nm 110) (tz_by 110) (tz_ml 110) (tz_re 110) (tz_hh 110) ∈ tz_tbl := tz_in (List.mem_of_getElem? (i := 473) rfl) rfl
set_option maxRecDepth 100000 in
theorem tz_wc_111 : ez_wc (tz_nm 111) (tz_by 111) (tz_ml 111) (tz_re 111) (tz_hh 111) ∈ tz_tbl := tz_in (List.mem_of_getElem? (i := 482) rfl) rfl
set_option maxRecDepth 100000 in
theorem tz_wc_112 : ez_wc (tz_nm 112) (tz_by 112) (tz_ml 112) (tz_re 112) (tz_hh 112) ∈ tz_tbl := tz_in (List.mem_of_getElem? (i := 491) rfl) rfl
set_option maxRecDepth 100000 in
theorem tz_wc_113 : ez_wc (tz_nm 113) (tz_by 113) (tz_ml 113) (tz_re 113) (tz_hh 113) ∈ tz_tbl := tz_in (List.mem_of_getElem? (i := 477) rfl) rfl
set_option maxRecDepth 100000 in
theorem tz_wc_114 : ez_wc (tz_nm 114) (tz_by 114) (tz_ml 114) (tz_re 114) (tz_hh 114) ∈ tz_tbl := tz_in (List.mem_of_getElem? (i := 227) rfl) rfl
set_option maxRecDepth 100000 in
theorem tz_wc_115 : ez_wc (tz_nm 115) (tz_by 115) (tz_ml 115) (tz_re 115) (tz_hh 115) ∈ tz_tbl := tz_in (List.mem_of_getElem? (i := 465) rfl) rfl
set_option maxRecDepth 100000 in
theorem tz_wc_116 : ez_wc (tz_nm 116) (tz_by 116) (tz_ml 116) (tz_re 116) (tz_hh 116) ∈ tz_tbl := tz_in (List.mem_of_getElem? (i := 469) rfl) rfl
set_option maxRecDepth 100000 in
theorem tz_wc_117 : ez_wc (tz_nm 117) (tz_by 117) (tz_ml 117) (tz_re 117) (tz_hh 117) ∈ tz_tbl := tz_in (List.mem_of_getElem? (i := 510) rfl) rfl
set_option maxRecDepth 100000 in
theorem tz_wc_118 : ez_wc (tz_nm 118) (tz_by 118) (tz_ml 118) (tz_re 118) (tz_hh 118) ∈ tz_tbl := tz_in (List.mem_of_getElem? (i := 527) rfl) rfl
set_option maxRecDepth 100000 in
theorem tz_wc_119 : ez_wc (tz_nm 119) (tz_by 119) (tz_ml 119) (tz_re 119) (tz_hh 119) ∈ tz_tbl := tz_in (List.mem_of_getElem? (i := 550) rfl) rfl
set_option maxRecDepth 100000 in
theorem tz_wc_120 : ez_wc (tz_nm 120) (tz_by 120) (tz_ml 120) (tz_re 120) (tz_hh 120) ∈ tz_tbl := tz_in (List.mem_of_getElem? (i := 645) rfl) rfl
set_option maxRecDepth 100000 in
theorem tz_wc_121 : ez_wc (tz_nm 121) (tz_by 121) (tz_ml 121) (tz_re 121) (tz_hh 121) ∈ tz_tbl := tz_in (List.mem_of_getElem? (i := 653) rfl) rfl
set_option maxRecDepth 100000 in
theorem tz_wc_122 : ez_wc (tz_nm 122) (tz_by 122) (tz_ml 122) (tz_re 122) (tz_hh 122) ∈ tz_tbl := tz_in (List.mem_of_getElem? (i := 665) rfl) rfl
set_option maxRecDepth 100000 in
theorem tz_wc_123 : ez_wc (tz_nm 123) (tz_by 123) (tz_ml 123) (tz_re 123) (tz_hh 123) ∈ tz_tbl := tz_in (List.mem_of_getElem? (i := 233) rfl) rfl
set_option maxRecDepth 100000 in
theorem tz_wc_124 : ez_wc (tz_nm 124) (tz_by 124) (tz_ml 124) (tz_re 124) (tz_hh 124) ∈ tz_tbl := tz_in (List.mem_of_getElem? (i := 519) rfl) rfl
set_option maxRecDepth 100000 in
theorem tz_wc_125 : ez_wc (tz_nm 125) (tz_by 125) (tz_ml 125) (tz_re 125) (tz_hh 125) ∈ tz_tbl := tz_in (List.mem_of_getElem? (i := 495) rfl) rfl
set_option maxRecDepth 100000 in
theorem tz_wc_126 : ez_wc (tz_nm 126) (tz_by 126) (tz_ml 126) (tz_re 126) (tz_hh 126) ∈ tz_tbl := tz_in (List.mem_of_getElem? (i := 515) rfl) rfl
set_option maxRecDepth 100000 in
theorem tz_wc_127 : ez_wc (tz_nm 127) (tz_by 127) (tz_ml 127) (tz_re 127) (tz_hh 127) ∈ tz_tbl := tz_in (List.mem_of_getElem? (i := 523) rfl) rfl
set_option maxRecDepth 100000 in
theorem tz_wc_128 : ez_wc (tz_nm 128) (tz_by 128) (tz_ml 128) (tz_re 128) (tz_hh 128) ∈ tz_tbl := tz_in (List.mem_of_getElem? (i := 89) rfl) rfl
set_option maxRecDepth 100000 in
theorem tz_wc_129 : ez_wc (tz_nm 129) (tz_by 129) (tz_ml 129) (tz_re 129) (tz_hh 129) ∈ tz_tbl := tz_in (List.mem_of_getElem? (i := 451) rfl) rfl
set_option maxRecDepth 100000 in
theorem tz_wc_130 : ez_wc (tz_nm 130) (tz_by 130) (tz_ml 130) (tz_re 130) (tz_hh 130) ∈ tz_tbl := tz_in (List.mem_of_getElem? (i := 438) rfl) rfl
set_option maxRecDepth 100000 in
theorem tz_wc_131 : ez_wc (tz_nm 131) (tz_by 131) (tz_ml 131) (tz_re 131) (tz_hh 131) ∈ tz_tbl := tz_in (List.mem_of_getElem? (i := 685) rfl) rfl
set_option maxRecDepth 100000 in
theorem tz_wc_132 : ez_wc (tz_nm 132) (tz_by 132) (tz_ml 132) (tz_re 132) (tz_hh 132) ∈ tz_tbl := tz_in (List.mem_of_getElem? (i := 370) rfl) rfl
set_option maxRecDepth 100000 in
theorem tz_wc_133 : ez_wc (tz_nm 133) (tz_by 133) (tz_ml 133) (tz_re 133) (tz_hh 133) ∈ tz_tbl := tz_in (List.mem_of_getElem? (i := 825) rfl) rfl
set_option maxRecDepth 100000 in
theorem tz_wc_134 : ez_wc (tz_nm 134) (tz_by 134) (tz_ml 134) (tz_re 134) (tz_hh 134) ∈ tz_tbl := tz_in (List.mem_of_getElem? (i := 830) rfl) rfl
set_option maxRecDepth 100000 in
theorem tz_wc_135 : ez_wc (tz_nm 135) (tz_by 135) (tz_ml 135) (tz_re 135) (tz_hh 135) ∈ tz_tbl := tz_in (List.mem_of_getElem? (i := 859) rfl) rfl
set_option maxRecDepth 100000 in
theorem tz_wc_136 : ez_wc (tz_nm 136) (tz_by 136) (tz_ml 136) (tz_re 136) (tz_hh 136) ∈ tz_tbl := tz_in (List.mem_of_getElem? (i := 886) rfl) rfl
set_option maxRecDepth 100000 in
theorem tz_wc_137 : ez_wc (tz_nm 137) (tz_by 137) (tz_ml 137) (tz_re 137) (tz_hh 137) ∈ tz_tbl := tz_in (List.mem_of_getElem? (i := 890) rfl) rfl
set_option maxRecDepth 100000 in
theorem tz_wc_138 : ez_wc (tz_nm 138) (tz_by 138) (tz_ml 138) (tz_re 138) (tz_hh 138) ∈ tz_tbl := tz_in (List.mem_of_getElem? (i := 901) rfl) rfl
set_option maxRecDepth 100000 in
theorem tz_wc_139 : ez_wc (tz_nm 139) (tz_by 139) (tz_ml 139) (tz_re 139) (tz_hh 139) ∈ tz_tbl := tz_in (List.mem_of_getElem? (i := 869) rfl) rfl
set_option maxRecDepth 100000 in
theorem tz_wc_140 : ez_wc (tz_nm 140) (tz_by 140) (tz_ml 140) (tz_re 140) (tz_hh 140) ∈ tz_tbl := tz_in (List.mem_of_getElem? (i := 878) rfl) rfl
set_option maxRecDepth 100000 in
theorem tz_wc_141 : ez_wc (tz_nm 141) (tz_by 141) (tz_ml 141) (tz_re 141) (tz_hh 141) ∈ tz_tbl := tz_in (List.mem_of_getElem? (i := 864) rfl) rfl
set_option maxRecDepth 100000 in
theorem tz_wc_142 : ez_wc (tz_nm 142) (tz_by 142) (tz_ml 142) (tz_re 142) (tz_hh 142) ∈ tz_tbl := tz_in (List.mem_of_getElem? (i := 874) rfl) rfl
set_option maxRecDepth 100000 in
theorem tz_wc_143 : ez_wc (tz_nm 143) (tz_by 143) (tz_ml 143) (tz_re 143) (tz_hh 143) ∈ tz_tbl := tz_in (List.mem_of_getElem? (i := 834) rfl) rfl
set_option maxRecDepth 100000 in
theorem tz_wc_144 : ez_wc (tz_nm 144) (tz_by 144) (tz_ml 144) (tz_re 144) (tz_hh 144) ∈ tz_tbl := tz_in (List.mem_of_getElem? (i := 839) rfl) rfl
set_option maxRecDepth 100000 in
theorem tz_wc_145 : ez_wc (tz_nm 145) (tz_by 145) (tz_ml 145) (tz_re 145) (tz_hh 145) ∈ tz_tbl := tz_in (List.mem_of_getElem? (i := 740) rfl) rfl
set_option maxRecDepth 100000 in
theorem tz_wc_146 : ez_wc (tz_nm 146) (tz_by 146) (tz_ml 146) (tz_re 146) (tz_hh 146) ∈ tz_tbl := tz_in (List.mem_of_getElem? (i := 816) rfl) rfl
set_option maxRecDepth 100000 in
theorem tz_wc_147 : ez_wc (tz_nm 147) (tz_by 147) (tz_ml 147) (tz_re 147) (tz_hh 147) ∈ tz_tbl := tz_in (List.mem_of_getElem? (i := 914) rfl) rfl
set_option maxRecDepth 100000 in
theorem tz_wc_148 : ez_wc (tz_nm 148) (tz_by 148) (tz_ml 148) (tz_re 148) (tz_hh 148) ∈ tz_tbl := tz_in (List.mem_of_getElem? (i := 942) rfl) rfl
set_option maxRecDepth 100000 in
theorem tz_wc_149 : ez_wc (tz_nm 149) (tz_by 149) (tz_ml 149) (tz_re 149) (tz_hh 149) ∈ tz_tbl := tz_in (List.mem_of_getElem? (i := 174) rfl) rfl
theorem tz_wc : ∀ a, a < 150 → ez_wc (tz_nm a) (tz_by a) (tz_ml a) (tz_re a) (tz_hh a) ∈ tz_tbl
  | 0, _ => tz_wc_0
  | 1, _ => tz_wc_1
  | 2, _ => tz_wc_2
  | 3, _ => tz_wc_3
  | 4, _ => tz_wc_4
  | 5, _ => tz_wc_5
  | 6, _ => tz_wc_6
  | 7, _ => tz_wc_7
  | 8, _ => tz_wc_8
  | 9, _ => tz_wc_9
  | 10, _ => tz_wc_10
  | 11, _ => tz_wc_11
  | 12, _ => tz_wc_12
  | 13, _ => tz_wc_13
  | 14, _ => tz_wc_14
  | 15, _ => tz_wc_15
  | 16, _ => tz_wc_16
  | 17, _ => tz_wc_17
  | 18, _ => tz_wc_18
  | 19, _ => tz_wc_19
  | 20, _ => tz_wc_20
  | 21, _ => tz_wc_21
  | 22, _ => tz_wc_22
  | 23, _ => tz_wc_23
  | 24, _ => tz_wc_24
  | 25, _ => tz_wc_25
  | 26, _ => tz_wc_26
  | 27, _ => tz_wc_27
  | 28, _ => tz_wc_28
  | 29, _ => tz_wc_29
  | 30, _ => tz_wc_30
  | 31, _ => tz_wc_31
  | 32, _ => tz_wc_32
  | 33, _ => tz_wc_33
  | 34, _ => tz_wc_34
  | 35, _ => tz_wc_35
  | 36, _ => tz_wc_36
  | 37, _ => tz_wc_37
  | 38, _ => tz_wc_38
  | 39, _ => tz_wc_39
  | 40, _ => tz_wc_40
  | 41, _ => tz_wc_41
  | 42, _ => tz_wc_42
  | 43, _ => tz_wc_43
  | 44, _ => tz_wc_44
  | 45, _ => tz_wc_45
  | 46, _ => tz_wc_46
  | 47, _ => tz_wc_47
  | 48, _ => tz_wc_48
  | 49, _ => tz_wc_49
  | 50, _ => tz_wc_50
  | 51, _ => tz_wc_51
  | 52, _ => tz_wc_52
  | 53, _ => tz_wc_53
  | 54, _ => tz_wc_54
  | 55, _ => tz_wc_55
  | 56, _ => tz_wc_56
  | 57, _ => tz_wc_57
  | 58, _ => tz_wc_58
  | 59, _ => tz_wc_59
  | 60, _ => tz_wc_60
  | 61, _ => tz_wc_61
  | 62, _ => tz_wc_62
  | 63, _ => tz_wc_63
  | 64, _ => tz_wc_64
  | 65, _ => tz_wc_65
  | 66, _ => tz_wc_66
  | 67, _ => tz_wc_67
  | 68, _ => tz_wc_68
  | 69, _ => tz_wc_69
  | 70, _ => tz_wc_70
  | 71, _ => tz_wc_71
  | 72, _ => tz_wc_72
  | 73, _ => tz_wc_73
  | 74, _ => tz_wc_74
  | 75, _ => tz_wc_75
  | 76, _ => tz_wc_76
  | 77, _ => tz_wc_77
  | 78, _ => tz_wc_78
  | 79, _ => tz_wc_79
  | 80, _ => tz_wc_80
  | 81, _ => tz_wc_81
  | 82, _ => tz_wc_82
  | 83, _ => tz_wc_83
  | 84, _ => tz_wc_84
  | 85, _ => tz_wc_85
  | 86, _ => tz_wc_86
  | 87, _ => tz_wc_87
  | 88, _ => tz_wc_88
  | 89, _ => tz_wc_89
  | 90, _ => tz_wc_90
  | 91, _ => tz_wc_91
  | 92, _ => tz_wc_92
  | 93, _ => tz_wc_93
  | 94, _ => tz_wc_94
  | 95, _ => tz_wc_95
  | 96, _ => tz_wc_96
  | 97, _ => tz_wc_97
  | 98, _ => tz_wc_98
  | 99, _ => tz_wc_99
  | 100, _ => tz_wc_100
  | 101, _ => tz_wc_101
  | 102, _ => tz_wc_102
  | 103, _ => tz_wc_103
  | 104, _ => tz_wc_104
  | 105, _ => tz_wc_105
  | 106, _ => tz_wc_106
  | 107, _ => tz_wc_107
  | 108, _ => tz_wc_108
  | 109, _ => tz_wc_109
  | 110, _ => tz_wc_110
  | 111, _ => tz_wc_111
  | 112, _ => tz_wc_112
  | 113, _ => tz_wc_113
  | 114, _ => tz_wc_114
  | 115, _ => tz_wc_115
  | 116, _ => tz_wc_116
  | 117, _ => tz_wc_117
  | 118, _ => tz_wc_118
  | 119, _ => tz_wc_119
  | 120, _ => tz_wc_120
  | 121, _ => tz_wc_121
  | 122, _ => tz_wc_122
  | 123, _ => tz_wc_123
  | 124, _ => tz_wc_124
  | 125, _ => tz_wc_125
  | 126, _ => tz_wc_126
  | 127, _ => tz_wc_127
  | 128, _ => tz_wc_128
  | 129, _ => tz_wc_129
  | 130, _ => tz_wc_130
  | 131, _ => tz_wc_131
  | 132, _ => tz_wc_132
  | 133, _ => tz_wc_133
  | 134, _ => tz_wc_134
  | 135, _ => tz_wc_135
  | 136, _ => tz_wc_136
  | 137, _ => tz_wc_137
  | 138, _ => tz_wc_138
  | 139, _ => tz_wc_139
  | 140, _ => tz_wc_140
  | 141, _ => tz_wc_141
  | 142, _ => tz_wc_142
  | 143, _ => tz_wc_143
  | 144, _ => tz_wc_144
  | 145, _ => tz_wc_145
  | 146, _ => tz_wc_146
  | 147, _ => tz_wc_147
  | 148, _ => tz_wc_148
  | 149, _ => tz_wc_149
  | n + 150, h => absurd h (by omega)
theorem tz_good : ez_good tz_tbl := by
  intro w hw args a' s U hW hb
  rcases List.mem_append.mp hw with z | z
  · exact ez_kp_ok (List.mem_filter.mp z).2 hW hb
  · simp only [tz_exw, List.mem_cons, List.not_mem_nil, or_false] at z
    rcases z with rfl | rfl
    · exact ez_notCast_warm hW hb
    · exact ez_notCast_warm hW hb
set_option maxRecDepth 100000 in
theorem tz_cls_1 : ez_Cls tz_tbl tz_cl tz_nf tz_ty 1 (tz_cn 1) (tz_ct 1) := ⟨by decide, by decide, rfl, fun w hw => tz_in (of_decide_eq_true (List.all_eq_true.mp (show (u_ws (tz_cn 1) (tz_ct 1) (tz_nf 1)).all (fun w => decide (w ∈ lw_tbl)) = true by decide +kernel) w hw)) (List.all_eq_true.mp (show (u_ws (tz_cn 1) (tz_ct 1) (tz_nf 1)).all ez_kp = true by decide +kernel) w hw), by decide +kernel, by decide +kernel⟩
set_option maxRecDepth 100000 in
theorem tz_cls_2 : ez_Cls tz_tbl tz_cl tz_nf tz_ty 2 (tz_cn 2) (tz_ct 2) := ⟨by decide, by decide, rfl, fun w hw => tz_in (of_decide_eq_true (List.all_eq_true.mp (show (u_ws (tz_cn 2) (tz_ct 2) (tz_nf 2)).all (fun w => decide (w ∈ lw_tbl)) = true by decide +kernel) w hw)) (List.all_eq_true.mp (show (u_ws (tz_cn 2) (tz_ct 2) (tz_nf 2)).all ez_kp = true by decide +kernel) w hw), by decide +kernel, by decide +kernel⟩
set_option maxRecDepth 100000 in
theorem tz_cls_3 : ez_Cls tz_tbl tz_cl tz_nf tz_ty 3 (tz_cn 3) (tz_ct 3) := ⟨by decide, by decide, rfl, fun w hw => tz_in (of_decide_eq_true (List.all_eq_true.mp (show (u_ws (tz_cn 3) (tz_ct 3) (tz_nf 3)).all (fun w => decide (w ∈ lw_tbl)) = true by decide +kernel) w hw)) (List.all_eq_true.mp (show (u_ws (tz_cn 3) (tz_ct 3) (tz_nf 3)).all ez_kp = true by decide +kernel) w hw), by decide +kernel, by decide +kernel⟩
set_option maxRecDepth 100000 in
theorem tz_cls_4 : ez_Cls tz_tbl tz_cl tz_nf tz_ty 4 (tz_cn 4) (tz_ct 4) := ⟨by decide, by decide, rfl, fun w hw => tz_in (of_decide_eq_true (List.all_eq_true.mp (show (u_ws (tz_cn 4) (tz_ct 4) (tz_nf 4)).all (fun w => decide (w ∈ lw_tbl)) = true by decide +kernel) w hw)) (List.all_eq_true.mp (show (u_ws (tz_cn 4) (tz_ct 4) (tz_nf 4)).all ez_kp = true by decide +kernel) w hw), by decide +kernel, by decide +kernel⟩
set_option maxRecDepth 100000 in
theorem tz_cls_5 : ez_Cls tz_tbl tz_cl tz_nf tz_ty 5 (tz_cn 5) (tz_ct 5) := ⟨by decide, by decide, rfl, fun w hw => tz_in (of_decide_eq_true (List.all_eq_true.mp (show (u_ws (tz_cn 5) (tz_ct 5) (tz_nf 5)).all (fun w => decide (w ∈ lw_tbl)) = true by decide +kernel) w hw)) (List.all_eq_true.mp (show (u_ws (tz_cn 5) (tz_ct 5) (tz_nf 5)).all ez_kp = true by decide +kernel) w hw), by decide +kernel, by decide +kernel⟩
set_option maxRecDepth 100000 in
theorem tz_cls_6 : ez_Cls tz_tbl tz_cl tz_nf tz_ty 6 (tz_cn 6) (tz_ct 6) := ⟨by decide, by decide, rfl, fun w hw => tz_in (of_decide_eq_true (List.all_eq_true.mp (show (u_ws (tz_cn 6) (tz_ct 6) (tz_nf 6)).all (fun w => decide (w ∈ lw_tbl)) = true by decide +kernel) w hw)) (List.all_eq_true.mp (show (u_ws (tz_cn 6) (tz_ct 6) (tz_nf 6)).all ez_kp = true by decide +kernel) w hw), by decide +kernel, by decide +kernel⟩
set_option maxRecDepth 100000 in
theorem tz_cls_7 : ez_Cls tz_tbl tz_cl tz_nf tz_ty 7 (tz_cn 7) (tz_ct 7) := ⟨by decide, by decide, rfl, fun w hw => tz_in (of_decide_eq_true (List.all_eq_true.mp (show (u_ws (tz_cn 7) (tz_ct 7) (tz_nf 7)).all (fun w => decide (w ∈ lw_tbl)) = true by decide +kernel) w hw)) (List.all_eq_true.mp (show (u_ws (tz_cn 7) (tz_ct 7) (tz_nf 7)).all ez_kp = true by decide +kernel) w hw), by decide +kernel, by decide +kernel⟩
set_option maxRecDepth 100000 in
theorem tz_cls_8 : ez_Cls tz_tbl tz_cl tz_nf tz_ty 8 (tz_cn 8) (tz_ct 8) := ⟨by decide, by decide, rfl, fun w hw => tz_in (of_decide_eq_true (List.all_eq_true.mp (show (u_ws (tz_cn 8) (tz_ct 8) (tz_nf 8)).all (fun w => decide (w ∈ lw_tbl)) = true by decide +kernel) w hw)) (List.all_eq_true.mp (show (u_ws (tz_cn 8) (tz_ct 8) (tz_nf 8)).all ez_kp = true by decide +kernel) w hw), by decide +kernel, by decide +kernel⟩
set_option maxRecDepth 100000 in
theorem tz_cls_9 : ez_Cls tz_tbl tz_cl tz_nf tz_ty 9 (tz_cn 9) (tz_ct 9) := ⟨by decide, by decide, rfl, fun w hw => tz_in (of_decide_eq_true (List.all_eq_true.mp (show (u_ws (tz_cn 9) (tz_ct 9) (tz_nf 9)).all (fun w => decide (w ∈ lw_tbl)) = true by decide +kernel) w hw)) (List.all_eq_true.mp (show (u_ws (tz_cn 9) (tz_ct 9) (tz_nf 9)).all ez_kp = true by decide +kernel) w hw), by decide +kernel, by decide +kernel⟩
set_option maxRecDepth 100000 in
theorem tz_cls_10 : ez_Cls tz_tbl tz_cl tz_nf tz_ty 10 (tz_cn 10) (tz_ct 10) := ⟨by decide, by decide, rfl, fun w hw => tz_in (of_decide_eq_true (List.all_eq_true.mp (show (u_ws (tz_cn 10) (tz_ct 10) (tz_nf 10)).all (fun w => decide (w ∈ lw_tbl)) = true by decide +kernel) w hw)) (List.all_eq_true.mp (show (u_ws (tz_cn 10) (tz_ct 10) (tz_nf 10)).all ez_kp = true by decide +kernel) w hw), by decide +kernel, by decide +kernel⟩
set_option maxRecDepth 100000 in
theorem tz_cls_11 : ez_Cls tz_tbl tz_cl tz_nf tz_ty 11 (tz_cn 11) (tz_ct 11) := ⟨by decide, by decide, rfl, fun w hw => tz_in (of_decide_eq_true (List.all_eq_true.mp (show (u_ws (tz_cn 11) (tz_ct 11) (tz_nf 11)).all (fun w => decide (w ∈ lw_tbl)) = true by decide +kernel) w hw)) (List.all_eq_true.mp (show (u_ws (tz_cn 11) (tz_ct 11) (tz_nf 11)).all ez_kp = true by decide +kernel) w hw), by decide +kernel, by decide +kernel⟩
set_option maxRecDepth 100000 in
theorem tz_cls_12 : ez_Cls tz_tbl tz_cl tz_nf tz_ty 12 (tz_cn 12) (tz_ct 12) := ⟨by decide, by decide, rfl, fun w hw => tz_in (of_decide_eq_true (List.all_eq_true.mp (show (u_ws (tz_cn 12) (tz_ct 12) (tz_nf 12)).all (fun w => decide (w ∈ lw_tbl)) = true by decide +kernel) w hw)) (List.all_eq_true.mp (show (u_ws (tz_cn 12) (tz_ct 12) (tz_nf 12)).all ez_kp = true by decide +kernel) w hw), by decide +kernel, by decide +kernel⟩
set_option maxRecDepth 100000 in
theorem tz_cls_13 : ez_Cls tz_tbl tz_cl tz_nf tz_ty 13 (tz_cn 13) (tz_ct 13) := ⟨by decide, by decide, rfl, fun w hw => tz_in (of_decide_eq_true (List.all_eq_true.mp (show (u_ws (tz_cn 13) (tz_ct 13) (tz_nf 13)).all (fun w => decide (w ∈ lw_tbl)) = true by decide +kernel) w hw)) (List.all_eq_true.mp (show (u_ws (tz_cn 13) (tz_ct 13) (tz_nf 13)).all ez_kp = true by decide +kernel) w hw), by decide +kernel, by decide +kernel⟩
theorem tz_cls : ∀ a, 0 < a → a ≤ 13 → ez_Cls tz_tbl tz_cl tz_nf tz_ty a (tz_cn a) (tz_ct a)
  | 0, h, _ => absurd h (by omega)
  | 1, _, _ => tz_cls_1
  | 2, _, _ => tz_cls_2
  | 3, _, _ => tz_cls_3
  | 4, _, _ => tz_cls_4
  | 5, _, _ => tz_cls_5
  | 6, _, _ => tz_cls_6
  | 7, _, _ => tz_cls_7
  | 8, _, _ => tz_cls_8
  | 9, _, _ => tz_cls_9
  | 10, _, _ => tz_cls_10
  | 11, _, _ => tz_cls_11
  | 12, _, _ => tz_cls_12
  | 13, _, _ => tz_cls_13
  | n + 14, _, h => absurd h (by omega)
theorem tz_atoms {ws : List Cond} (h : ws.all (fun w => (decide (w ∈ lw_tbl) && ez_kp w) || decide (w ∈ ez_thw)) = true) : ∀ w ∈ ws, w ∈ tz_tbl ∨ w ∈ ez_thw := by
  intro w hw
  have := List.all_eq_true.mp h w hw
  simp only [Bool.or_eq_true, Bool.and_eq_true, decide_eq_true_eq] at this
  rcases this with z | z
  · exact Or.inl (tz_in z.1 z.2)
  · exact Or.inr z
set_option maxRecDepth 100000 in
theorem tz_tk_5_13 : ez_tk tz_ex tz_nm tz_by tz_hh tz_tbl tz_str 5 13 1 := ⟨82, 84, 86, "the output has more bytes than a tape can have", by decide +kernel, by decide +kernel, by decide +kernel, by decide +kernel, by decide +kernel, by decide +kernel, by decide +kernel, tz_atoms (by decide +kernel), tz_in (by decide +kernel) rfl, tz_in (by decide +kernel) rfl, by decide +kernel⟩
set_option maxRecDepth 100000 in
theorem tz_tk_16_10 : ez_tk tz_ex tz_nm tz_by tz_hh tz_tbl tz_str 16 10 3 := ⟨152, 154, 156, "the symbol is not 0 .. 63", by decide +kernel, by decide +kernel, by decide +kernel, by decide +kernel, by decide +kernel, by decide +kernel, by decide +kernel, tz_atoms (by decide +kernel), tz_in (by decide +kernel) rfl, tz_in (by decide +kernel) rfl, by decide +kernel⟩
set_option maxRecDepth 100000 in
theorem tz_tk_16_30 : ez_tk tz_ex tz_nm tz_by tz_hh tz_tbl tz_str 16 30 2 := ⟨158, 160, 162, "the weight is not 0 .. 1000000", by decide +kernel, by decide +kernel, by decide +kernel, by decide +kernel, by decide +kernel, by decide +kernel, by decide +kernel, tz_atoms (by decide +kernel), tz_in (by decide +kernel) rfl, tz_in (by decide +kernel) rfl, by decide +kernel⟩
set_option maxRecDepth 100000 in
theorem tz_tk_17_11 : ez_tk tz_ex tz_nm tz_by tz_hh tz_tbl tz_str 17 11 2 := ⟨158, 163, 162, "the limit is not 1 .. 15", by decide +kernel, by decide +kernel, by decide +kernel, by decide +kernel, by decide +kernel, by decide +kernel, by decide +kernel, tz_atoms (by decide +kernel), tz_in (by decide +kernel) rfl, tz_in (by decide +kernel) rfl, by decide +kernel⟩
set_option maxRecDepth 100000 in
theorem tz_tk_17_31 : ez_tk tz_ex tz_nm tz_by tz_hh tz_tbl tz_str 17 31 1 := ⟨82, 169, 86, "more symbols have weights than codes of that length are", by decide +kernel, by decide +kernel, by decide +kernel, by decide +kernel, by decide +kernel, by decide +kernel, by decide +kernel, tz_atoms (by decide +kernel), tz_in (by decide +kernel) rfl, tz_in (by decide +kernel) rfl, by decide +kernel⟩
set_option maxRecDepth 100000 in
theorem tz_tk_144_18 : ez_tk tz_ex tz_nm tz_by tz_hh tz_tbl tz_str 144 18 2 := ⟨164, 166, 168, "the bytes can't be unpacked", by decide +kernel, by decide +kernel, by decide +kernel, by decide +kernel, by decide +kernel, by decide +kernel, by decide +kernel, tz_atoms (by decide +kernel), tz_in (by decide +kernel) rfl, tz_in (by decide +kernel) rfl, by decide +kernel⟩
theorem tz_thr_ok : ∀ q ∈ tz_thr, ez_tk tz_ex tz_nm tz_by tz_hh tz_tbl tz_str q.1 q.2.1 q.2.2 := by
  intro q hq
  simp only [tz_thr, List.mem_cons, List.not_mem_nil, or_false] at hq
  rcases hq with rfl | rfl | rfl | rfl | rfl | rfl
  · exact tz_tk_5_13
  · exact tz_tk_16_10
  · exact tz_tk_16_30
  · exact tz_tk_17_11
  · exact tz_tk_17_31
  · exact tz_tk_144_18
end
section
def R_law : String := "PackDeskLaw"
def lw_P (b : Addr) (xs : List Int32) (args : Array Value) (s : State) : Prop := args = #[.ref b] ∧ s.IntsAt b xs ∧ xs.length ≤ 6 ∧ (Jvm.Cond.and given_1 narrow_1).before args s = true
def lw_Q (_ : Array Value) (s : State) (o : Outcome) (t : State) : Prop := o = .returned (some (.int 1)) ∧ Framed s o t [] 600002 7302232
def lw_Z (below : List Frame) (a : Array Value) (s : State) : State → Prop := fun t => ∃ o, t.status = .running ∧ Ended t below o ∧ lw_Q a s o t
/-- the static arrays, by number -/
def tz_arL : List (List Int32) := [[], [0, 498536548, 997073096, 651767980, 1994146192, 1802195444, 1303535960, 1342533948, (-306674912), (-267414716), (-690576408), (-882789492), (-1687895376), (-2032938284), (-1609899400), (-1111625188)],
  [3, 4, 5, 6, 7, 8, 9, 10, 11, 13, 15, 17, 19, 23, 27, 31, 35, 43, 51, 59, 67, 83, 99, 115, 131, 163, 195, 227, 258],
  [1, 2, 3, 4, 5, 7, 9, 13, 17, 25, 33, 49, 65, 97, 129, 193, 257, 385, 513, 769, 1025, 1537, 2049, 3073, 4097, 6145, 8193, 12289, 16385, 24577],
  [0, 0, 0, 0, 0, 0, 0, 0, 1, 1, 1, 1, 2, 2, 2, 2, 3, 3, 3, 3, 4, 4, 4, 4, 5, 5, 5, 5, 0],
  [0, 0, 0, 0, 1, 1, 2, 2, 3, 3, 4, 4, 5, 5, 6, 6, 7, 7, 8, 8, 9, 9, 10, 10, 11, 11, 12, 12, 13, 13],
  [132, 57, 23, 10, 4, 1],
  [3, 3, 11],
  [16, 17, 18, 0, 8, 7, 9, 6, 10, 5, 11, 4, 12, 3, 13, 2, 14, 1, 15],
  [2, 3, 7],
  [0, 286, 316],
  [286, 30, 19]]
def tz_ar (j : Nat) : List Int32 := tz_arL.getD j (tz_arL.getD 1 [])
def tz_E (L : Nat) (xs : Nat → Int32) (j : Nat) : Nat × (Nat → Int32) := match j with
  | 0 => (L, xs)
  | j + 1 => ((tz_ar (j + 1)).length, fun i => (tz_ar (j + 1)).getD i 0)
abbrev tz_nw : List Cond := flatC (Jvm.Cond.and given_1 narrow_1)
set_option maxRecDepth 100000 in
theorem tz_el_1 : (List.range (tz_ar 1).length).all (fun j => decide (Cond.eq (.elem (.static "PackDesk" "CRC_HALVES" "[I") (.int (Int32.ofNat j))) (.int ((tz_ar 1).getD j 0)) ∈ tz_nw)) = true := by decide +kernel
set_option maxRecDepth 100000 in
theorem tz_el_2 : (List.range (tz_ar 2).length).all (fun j => decide (Cond.eq (.elem (.static "PackDesk" "LENGTH_BASE" "[I") (.int (Int32.ofNat j))) (.int ((tz_ar 2).getD j 0)) ∈ tz_nw)) = true := by decide +kernel
set_option maxRecDepth 100000 in
theorem tz_el_3 : (List.range (tz_ar 3).length).all (fun j => decide (Cond.eq (.elem (.static "PackDesk" "DISTANCE_BASE" "[I") (.int (Int32.ofNat j))) (.int ((tz_ar 3).getD j 0)) ∈ tz_nw)) = true := by decide +kernel
set_option maxRecDepth 100000 in
theorem tz_el_4 : (List.range (tz_ar 4).length).all (fun j => decide (Cond.eq (.elem (.static "PackDesk" "LENGTH_EXTRA" "[I") (.int (Int32.ofNat j))) (.int ((tz_ar 4).getD j 0)) ∈ tz_nw)) = true := by decide +kernel
set_option maxRecDepth 100000 in
theorem tz_el_5 : (List.range (tz_ar 5).length).all (fun j => decide (Cond.eq (.elem (.static "PackDesk" "DISTANCE_EXTRA" "[I") (.int (Int32.ofNat j))) (.int ((tz_ar 5).getD j 0)) ∈ tz_nw)) = true := by decide +kernel
set_option maxRecDepth 100000 in
theorem tz_el_6 : (List.range (tz_ar 6).length).all (fun j => decide (Cond.eq (.elem (.static "PackDesk$LengthMaker" "GAPS" "[I") (.int (Int32.ofNat j))) (.int ((tz_ar 6).getD j 0)) ∈ tz_nw)) = true := by decide +kernel
set_option maxRecDepth 100000 in
theorem tz_el_7 : (List.range (tz_ar 7).length).all (fun j => decide (Cond.eq (.elem (.static "PackDesk" "REPEAT_BASE" "[I") (.int (Int32.ofNat j))) (.int ((tz_ar 7).getD j 0)) ∈ tz_nw)) = true := by decide +kernel
set_option maxRecDepth 100000 in
theorem tz_el_8 : (List.range (tz_ar 8).length).all (fun j => decide (Cond.eq (.elem (.static "PackDesk" "ALPHABET_ORDER" "[I") (.int (Int32.ofNat j))) (.int ((tz_ar 8).getD j 0)) ∈ tz_nw)) = true := by decide +kernel
set_option maxRecDepth 100000 in
theorem tz_el_9 : (List.range (tz_ar 9).length).all (fun j => decide (Cond.eq (.elem (.static "PackDesk" "REPEAT_EXTRA" "[I") (.int (Int32.ofNat j))) (.int ((tz_ar 9).getD j 0)) ∈ tz_nw)) = true := by decide +kernel
set_option maxRecDepth 100000 in
theorem tz_el_10 : (List.range (tz_ar 10).length).all (fun j => decide (Cond.eq (.elem (.static "PackDesk$BlockBook" "CODE_FROM" "[I") (.int (Int32.ofNat j))) (.int ((tz_ar 10).getD j 0)) ∈ tz_nw)) = true := by decide +kernel
set_option maxRecDepth 100000 in
theorem tz_el_11 : (List.range (tz_ar 11).length).all (fun j => decide (Cond.eq (.elem (.static "PackDesk$BlockBook" "CODE_SYMBOLS" "[I") (.int (Int32.ofNat j))) (.int ((tz_ar 11).getD j 0)) ∈ tz_nw)) = true := by decide +kernel
theorem ez_static {args : Array Value} {s : State} {C n d : String} {l : List Int32} {A : Nat → Prop} (hlen0 : l.length < 2 ^ 31) (hl : (Cond.laysStatic C n d).before args s = true) (hini : (Cond.initialized C).before args s = true) (harr : (Cond.arrayOf (.static C n d) .int).before args s = true) (hlen : (Cond.eq (.length (.static C n d)) (.int (Int32.ofNat l.length))).before args s = true) (hel : ∀ j, j < l.length → (Cond.eq (.elem (.static C n d) (.int (Int32.ofNat j))) (.int (l.getD j 0))).before args s = true) (hA : ∀ a : Nat, a < s.heap.size → ¬ A a) :
    ∃ t : Nat, va_Z C n d (.ref t) A s s.heap ∧ va_T .int t l.length (fun i => .int (l.getD i 0)) A s s.heap := by
  obtain ⟨t, ht, hT⟩ := va_Tof (N := l.length) (f := fun i => .int (l.getD i 0)) hlen0 harr (va_eqt hlen) (fun j hj => va_eqt (hel j hj)) hA
  exact ⟨t, va_Zof hl hini ht hA, hT⟩
set_option maxRecDepth 100000 in
theorem tz_st_1 {args : Array Value} {s : State} {A : Nat → Prop} (hts : ∀ w ∈ lw_tbl, w.before args s = true) (hn : ∀ w ∈ tz_nw, w.before args s = true) (hA : ∀ a : Nat, a < s.heap.size → ¬ A a) : ∃ t : Nat, va_Z (tz_sta 1).1 (tz_sta 1).2.1 (tz_sta 1).2.2 (.ref t) A s s.heap ∧ va_T .int t (tz_ar 1).length (fun i => .int ((tz_ar 1).getD i 0)) A s s.heap :=
  ez_static (C := "PackDesk") (n := "CRC_HALVES") (d := "[I") (l := tz_ar 1) (by decide +kernel) (hts _ (List.mem_of_getElem? (i := 457) (by decide +kernel))) (hts _ (List.mem_of_getElem? (i := 55) (by decide +kernel))) (hn _ (by decide +kernel)) (hn _ (by decide +kernel)) (fun j hj => hn _ (of_decide_eq_true (List.all_eq_true.mp tz_el_1 j (List.mem_range.mpr hj)))) hA
set_option maxRecDepth 100000 in
theorem tz_st_2 {args : Array Value} {s : State} {A : Nat → Prop} (hts : ∀ w ∈ lw_tbl, w.before args s = true) (hn : ∀ w ∈ tz_nw, w.before args s = true) (hA : ∀ a : Nat, a < s.heap.size → ¬ A a) : ∃ t : Nat, va_Z (tz_sta 2).1 (tz_sta 2).2.1 (tz_sta 2).2.2 (.ref t) A s s.heap ∧ va_T .int t (tz_ar 2).length (fun i => .int ((tz_ar 2).getD i 0)) A s s.heap :=
  ez_static (C := "PackDesk") (n := "LENGTH_BASE") (d := "[I") (l := tz_ar 2) (by decide +kernel) (hts _ (List.mem_of_getElem? (i := 529) (by decide +kernel))) (hts _ (List.mem_of_getElem? (i := 55) (by decide +kernel))) (hn _ (by decide +kernel)) (hn _ (by decide +kernel)) (fun j hj => hn _ (of_decide_eq_true (List.all_eq_true.mp tz_el_2 j (List.mem_range.mpr hj)))) hA
set_option maxRecDepth 100000 in
theorem tz_st_3 {args : Array Value} {s : State} {A : Nat → Prop} (hts : ∀ w ∈ lw_tbl, w.before args s = true) (hn : ∀ w ∈ tz_nw, w.before args s = true) (hA : ∀ a : Nat, a < s.heap.size → ¬ A a) : ∃ t : Nat, va_Z (tz_sta 3).1 (tz_sta 3).2.1 (tz_sta 3).2.2 (.ref t) A s s.heap ∧ va_T .int t (tz_ar 3).length (fun i => .int ((tz_ar 3).getD i 0)) A s s.heap :=
  ez_static (C := "PackDesk") (n := "DISTANCE_BASE") (d := "[I") (l := tz_ar 3) (by decide +kernel) (hts _ (List.mem_of_getElem? (i := 534) (by decide +kernel))) (hts _ (List.mem_of_getElem? (i := 55) (by decide +kernel))) (hn _ (by decide +kernel)) (hn _ (by decide +kernel)) (fun j hj => hn _ (of_decide_eq_true (List.all_eq_true.mp tz_el_3 j (List.mem_range.mpr hj)))) hA
set_option maxRecDepth 100000 in
theorem tz_st_4 {args : Array Value} {s : State} {A : Nat → Prop} (hts : ∀ w ∈ lw_tbl, w.before args s = true) (hn : ∀ w ∈ tz_nw, w.before args s = true) (hA : ∀ a : Nat, a < s.heap.size → ¬ A a) : ∃ t : Nat, va_Z (tz_sta 4).1 (tz_sta 4).2.1 (tz_sta 4).2.2 (.ref t) A s s.heap ∧ va_T .int t (tz_ar 4).length (fun i => .int ((tz_ar 4).getD i 0)) A s s.heap :=
  ez_static (C := "PackDesk") (n := "LENGTH_EXTRA") (d := "[I") (l := tz_ar 4) (by decide +kernel) (hts _ (List.mem_of_getElem? (i := 536) (by decide +kernel))) (hts _ (List.mem_of_getElem? (i := 55) (by decide +kernel))) (hn _ (by decide +kernel)) (hn _ (by decide +kernel)) (fun j hj => hn _ (of_decide_eq_true (List.all_eq_true.mp tz_el_4 j (List.mem_range.mpr hj)))) hA
set_option maxRecDepth 100000 in
theorem tz_st_5 {args : Array Value} {s : State} {A : Nat → Prop} (hts : ∀ w ∈ lw_tbl, w.before args s = true) (hn : ∀ w ∈ tz_nw, w.before args s = true) (hA : ∀ a : Nat, a < s.heap.size → ¬ A a) : ∃ t : Nat, va_Z (tz_sta 5).1 (tz_sta 5).2.1 (tz_sta 5).2.2 (.ref t) A s s.heap ∧ va_T .int t (tz_ar 5).length (fun i => .int ((tz_ar 5).getD i 0)) A s s.heap :=
  ez_static (C := "PackDesk") (n := "DISTANCE_EXTRA") (d := "[I") (l := tz_ar 5) (by decide +kernel) (hts _ (List.mem_of_getElem? (i := 538) (by decide +kernel))) (hts _ (List.mem_of_getElem? (i := 55) (by decide +kernel))) (hn _ (by decide +kernel)) (hn _ (by decide +kernel)) (fun j hj => hn _ (of_decide_eq_true (List.all_eq_true.mp tz_el_5 j (List.mem_range.mpr hj)))) hA
set_option maxRecDepth 100000 in
theorem tz_st_6 {args : Array Value} {s : State} {A : Nat → Prop} (hts : ∀ w ∈ lw_tbl, w.before args s = true) (hn : ∀ w ∈ tz_nw, w.before args s = true) (hA : ∀ a : Nat, a < s.heap.size → ¬ A a) : ∃ t : Nat, va_Z (tz_sta 6).1 (tz_sta 6).2.1 (tz_sta 6).2.2 (.ref t) A s s.heap ∧ va_T .int t (tz_ar 6).length (fun i => .int ((tz_ar 6).getD i 0)) A s s.heap :=
  ez_static (C := "PackDesk$LengthMaker") (n := "GAPS") (d := "[I") (l := tz_ar 6) (by decide +kernel) (hts _ (List.mem_of_getElem? (i := 562) (by decide +kernel))) (hts _ (List.mem_of_getElem? (i := 57) (by decide +kernel))) (hn _ (by decide +kernel)) (hn _ (by decide +kernel)) (fun j hj => hn _ (of_decide_eq_true (List.all_eq_true.mp tz_el_6 j (List.mem_range.mpr hj)))) hA
set_option maxRecDepth 100000 in
theorem tz_st_7 {args : Array Value} {s : State} {A : Nat → Prop} (hts : ∀ w ∈ lw_tbl, w.before args s = true) (hn : ∀ w ∈ tz_nw, w.before args s = true) (hA : ∀ a : Nat, a < s.heap.size → ¬ A a) : ∃ t : Nat, va_Z (tz_sta 7).1 (tz_sta 7).2.1 (tz_sta 7).2.2 (.ref t) A s s.heap ∧ va_T .int t (tz_ar 7).length (fun i => .int ((tz_ar 7).getD i 0)) A s s.heap :=
  ez_static (C := "PackDesk") (n := "REPEAT_BASE") (d := "[I") (l := tz_ar 7) (by decide +kernel) (hts _ (List.mem_of_getElem? (i := 611) (by decide +kernel))) (hts _ (List.mem_of_getElem? (i := 55) (by decide +kernel))) (hn _ (by decide +kernel)) (hn _ (by decide +kernel)) (fun j hj => hn _ (of_decide_eq_true (List.all_eq_true.mp tz_el_7 j (List.mem_range.mpr hj)))) hA
set_option maxRecDepth 100000 in
theorem tz_st_8 {args : Array Value} {s : State} {A : Nat → Prop} (hts : ∀ w ∈ lw_tbl, w.before args s = true) (hn : ∀ w ∈ tz_nw, w.before args s = true) (hA : ∀ a : Nat, a < s.heap.size → ¬ A a) : ∃ t : Nat, va_Z (tz_sta 8).1 (tz_sta 8).2.1 (tz_sta 8).2.2 (.ref t) A s s.heap ∧ va_T .int t (tz_ar 8).length (fun i => .int ((tz_ar 8).getD i 0)) A s s.heap :=
  ez_static (C := "PackDesk") (n := "ALPHABET_ORDER") (d := "[I") (l := tz_ar 8) (by decide +kernel) (hts _ (List.mem_of_getElem? (i := 622) (by decide +kernel))) (hts _ (List.mem_of_getElem? (i := 55) (by decide +kernel))) (hn _ (by decide +kernel)) (hn _ (by decide +kernel)) (fun j hj => hn _ (of_decide_eq_true (List.all_eq_true.mp tz_el_8 j (List.mem_range.mpr hj)))) hA
set_option maxRecDepth 100000 in
theorem tz_st_9 {args : Array Value} {s : State} {A : Nat → Prop} (hts : ∀ w ∈ lw_tbl, w.before args s = true) (hn : ∀ w ∈ tz_nw, w.before args s = true) (hA : ∀ a : Nat, a < s.heap.size → ¬ A a) : ∃ t : Nat, va_Z (tz_sta 9).1 (tz_sta 9).2.1 (tz_sta 9).2.2 (.ref t) A s s.heap ∧ va_T .int t (tz_ar 9).length (fun i => .int ((tz_ar 9).getD i 0)) A s s.heap :=
  ez_static (C := "PackDesk") (n := "REPEAT_EXTRA") (d := "[I") (l := tz_ar 9) (by decide +kernel) (hts _ (List.mem_of_getElem? (i := 631) (by decide +kernel))) (hts _ (List.mem_of_getElem? (i := 55) (by decide +kernel))) (hn _ (by decide +kernel)) (hn _ (by decide +kernel)) (fun j hj => hn _ (of_decide_eq_true (List.all_eq_true.mp tz_el_9 j (List.mem_range.mpr hj)))) hA
set_option maxRecDepth 100000 in
theorem tz_st_10 {args : Array Value} {s : State} {A : Nat → Prop} (hts : ∀ w ∈ lw_tbl, w.before args s = true) (hn : ∀ w ∈ tz_nw, w.before args s = true) (hA : ∀ a : Nat, a < s.heap.size → ¬ A a) : ∃ t : Nat, va_Z (tz_sta 10).1 (tz_sta 10).2.1 (tz_sta 10).2.2 (.ref t) A s s.heap ∧ va_T .int t (tz_ar 10).length (fun i => .int ((tz_ar 10).getD i 0)) A s s.heap :=
  ez_static (C := "PackDesk$BlockBook") (n := "CODE_FROM") (d := "[I") (l := tz_ar 10) (by decide +kernel) (hts _ (List.mem_of_getElem? (i := 719) (by decide +kernel))) (hts _ (List.mem_of_getElem? (i := 63) (by decide +kernel))) (hn _ (by decide +kernel)) (hn _ (by decide +kernel)) (fun j hj => hn _ (of_decide_eq_true (List.all_eq_true.mp tz_el_10 j (List.mem_range.mpr hj)))) hA
set_option maxRecDepth 100000 in
theorem tz_st_11 {args : Array Value} {s : State} {A : Nat → Prop} (hts : ∀ w ∈ lw_tbl, w.before args s = true) (hn : ∀ w ∈ tz_nw, w.before args s = true) (hA : ∀ a : Nat, a < s.heap.size → ¬ A a) : ∃ t : Nat, va_Z (tz_sta 11).1 (tz_sta 11).2.1 (tz_sta 11).2.2 (.ref t) A s s.heap ∧ va_T .int t (tz_ar 11).length (fun i => .int ((tz_ar 11).getD i 0)) A s s.heap :=
  ez_static (C := "PackDesk$BlockBook") (n := "CODE_SYMBOLS") (d := "[I") (l := tz_ar 11) (by decide +kernel) (hts _ (List.mem_of_getElem? (i := 721) (by decide +kernel))) (hts _ (List.mem_of_getElem? (i := 63) (by decide +kernel))) (hn _ (by decide +kernel)) (hn _ (by decide +kernel)) (fun j hj => hn _ (of_decide_eq_true (List.all_eq_true.mp tz_el_11 j (List.mem_range.mpr hj)))) hA
/-- the arrays outside, and the script among them -/
theorem tz_outer {args : Array Value} {s : State} {A : Nat → Prop} {b L : Nat} {xs : Nat → Int32} (hts : ∀ w ∈ lw_tbl, w.before args s = true) (hn : ∀ w ∈ tz_nw, w.before args s = true) (hX : va_X b L xs s s.heap) (hA : ∀ a : Nat, a < s.heap.size → ¬ A a) : ∃ ea : Nat → Nat, ea 0 = b ∧ (∀ j, va_T .int (ea j) (tz_E L xs j).1 (fun i => .int ((tz_E L xs j).2 i)) A s s.heap) ∧ ∀ j, 0 < j → va_Z (tz_sta j).1 (tz_sta j).2.1 (tz_sta j).2.2 (.ref (ea j)) A s s.heap := by
  obtain ⟨t1, z1, w1⟩ := tz_st_1 hts hn hA
  obtain ⟨t2, z2, w2⟩ := tz_st_2 hts hn hA
  obtain ⟨t3, z3, w3⟩ := tz_st_3 hts hn hA
  obtain ⟨t4, z4, w4⟩ := tz_st_4 hts hn hA
  obtain ⟨t5, z5, w5⟩ := tz_st_5 hts hn hA
  obtain ⟨t6, z6, w6⟩ := tz_st_6 hts hn hA
  obtain ⟨t7, z7, w7⟩ := tz_st_7 hts hn hA
  obtain ⟨t8, z8, w8⟩ := tz_st_8 hts hn hA
  obtain ⟨t9, z9, w9⟩ := tz_st_9 hts hn hA
  obtain ⟨t10, z10, w10⟩ := tz_st_10 hts hn hA
  obtain ⟨t11, z11, w11⟩ := tz_st_11 hts hn hA
  refine ⟨fun j => match j with
    | 0 => b
    | 1 => t1
    | 2 => t2
    | 3 => t3
    | 4 => t4
    | 5 => t5
    | 6 => t6
    | 7 => t7
    | 8 => t8
    | 9 => t9
    | 10 => t10
    | 11 => t11
    | _ => t1, rfl, fun j => ?_, fun j hj => ?_⟩
  · match j with
    | 0 =>
      obtain ⟨scr, h1, h2, h3, h4, h5⟩ := hX
      exact ⟨scr, h1, h2, h3, by rw [h4]; exact Nat.le_refl _, by rw [h4]; rfl, h5, hA b (Array.getElem?_eq_some_iff.mp h1).1⟩
    | 1 => exact w1
    | 2 => exact w2
    | 3 => exact w3
    | 4 => exact w4
    | 5 => exact w5
    | 6 => exact w6
    | 7 => exact w7
    | 8 => exact w8
    | 9 => exact w9
    | 10 => exact w10
    | 11 => exact w11
    | _ + 12 => exact w1
  · match j with
    | 0 => exact absurd hj (by omega)
    | 1 => exact z1
    | 2 => exact z2
    | 3 => exact z3
    | 4 => exact z4
    | 5 => exact z5
    | 6 => exact z6
    | 7 => exact z7
    | 8 => exact z8
    | 9 => exact z9
    | 10 => exact z10
    | 11 => exact z11
    | _ + 12 => exact z1
end
section
/-! THE LAW'S START: the pure machine's walk of the law gives the claim -/
def ez_h0 : ez_H := (0, 0, fun _ => 0, fun _ => 0, fun _ _ => 0, fun _ _ => 0, fun _ _ => 0)
theorem ez_exact {args : Array Value} {s : State} {t : Term} {C : String} (h : (Cond.exactly t C).before args s = true) : ∃ a : Nat, t.eval args s none [] s = some (.ref a) := by
  cases hv : t.eval args s none [] s with
  | none => simp [Cond.before, Cond.holds, Cond.value, hv] at h
  | some w =>
    cases w with
    | ref a => exact ⟨a, rfl⟩
    | null => cases hc : s.vm.findClass C <;> simp [Cond.before, Cond.holds, Cond.value, hv, hc] at h
    | _ => simp [Cond.before, Cond.holds, Cond.value, hv] at h
/-- a class by its number, for all numbers -/
theorem tz_known {args : Array Value} {s : State} (hts : ∀ w ∈ tz_tbl, w.before args s = true) (hinst : ∀ a, 0 < a → a ≤ 13 → (Cond.instantiable (tz_cn a) (tz_nf a)).before args s = true) : ∃ (dC : Nat → ClassId) (dI : Nat → Nat → Nat), ∀ (k : Nat) (q : vw_C), tz_cl[k]? = some q → u_Kn s q.1 q.2.1 q.2.2 (dC k) (dI k) := by
  have key : ∀ k : Nat, ∃ (cC : ClassId) (iS : Nat → Nat), ∀ q : vw_C, tz_cl[k]? = some q → u_Kn s q.1 q.2.1 q.2.2 cC iS := by
    intro k
    cases hq : tz_cl[k]? with
    | none => exact ⟨0, fun _ => 0, fun q h => by cases h⟩
    | some q =>
      have hk : k < 13 := (List.getElem?_eq_some_iff.mp hq).1
      obtain ⟨-, -, h3, h4, -, -⟩ := tz_cls (k + 1) (by omega) (by omega)
      obtain ⟨cC, iS, h⟩ := u_known hts h4 (hinst (k + 1) (by omega) (by omega))
      refine ⟨cC, iS, fun q' h' => ?_⟩
      cases h'
      rw [Nat.add_sub_cancel, hq] at h3
      cases h3
      exact h
  exact ⟨fun k => Classical.choose (key k), fun k => Classical.choose (Classical.choose_spec (key k)), fun k => Classical.choose_spec (Classical.choose_spec (key k))⟩
theorem ez_arr {s : State} {cA : ClassId} {kA : Class} {comp : ClassId} {t : FieldType} (h2 : s.vm.classes[cA]? = some kA) (h3 : kA.kind = .array comp t) : ArrOfT s cA t := fun n z => ⟨fun k h => (by cases h), kA, h2, comp, h3⟩
/-- what holds at the law's entry -/
def tz_At (p : Program) (s : State) (m : MethodId) (meth : Method) (c : Code) (b L : Nat) (xs : Nat → Int32) : Prop :=
  p.tables.exec = Jvm.exec ∧ c.code = code ∧ meth.sig.returnType = ret ∧ c.maxLocals = 7 ∧ s.vm.findClass "PackDeskLaw" = some m.cls ∧ (∀ w ∈ lw_tbl, w.before #[Value.ref b] s = true) ∧ va_X b L xs s s.heap ∧ b < s.heap.size ∧ meth.locks = false ∧ (Jvm.Cond.and given_1 narrow_1).before #[Value.ref b] s = true ∧ meth.name = "law" ∧ c.exceptionTable.toList = []
/-- the law in the pure machine answers 1 -/
def tz_Law (L : Nat) (xs : Nat → Int32) : Prop := ez_Wp (tz_E L xs) tz_ml tz_hn tz_co 10 150 0 (ez_args 7 [.retAddr 0]) [] ez_h0 (fun o _ => o = .inl (some (.int 1)))
theorem tz_strs {args : Array Value} {s : State} (hts : ∀ w ∈ lw_tbl, w.before args s = true) (hn : ∀ w ∈ tz_nw, w.before args s = true) : ∀ w ∈ tz_str, ∃ q : Nat, vk_R w.1 w.2.1 w.2.2 q s := by
  intro w hw
  have h1 : Cond.stringRef w.1 w.2.1 w.2.2 ∈ lw_tbl ∧ Cond.exactly (.string w.1 w.2.1) "java/lang/String" ∈ tz_nw := by
    have : tz_str.all (fun w => decide (Cond.stringRef w.1 w.2.1 w.2.2 ∈ lw_tbl ∧ Cond.exactly (.string w.1 w.2.1) "java/lang/String" ∈ tz_nw)) = true := by decide +kernel
    exact of_decide_eq_true (List.all_eq_true.mp this w hw)
  obtain ⟨q, hq⟩ := ez_exact (hn _ h1.2)
  exact ⟨q, vk_R.of (hts _ h1.1) hq⟩
set_option maxRecDepth 100000 in
set_option maxHeartbeats 4000000 in
theorem tz_start {p : Program} {e : Env} {s : State} {m : MethodId} {below : List Frame} {meth : Method} {c : Code} (l : Launch) (hl : l.stackTraces = false) {b L : Nat} {xs : Nat → Int32} (hL : ∀ mi, ez_okL tz_cl tz_nf tz_ty tz_ex tz_sta tz_nm tz_by tz_ml tz_re tz_hh tz_tbl tz_str mi (tz_co mi)) (hH : ∀ mi, ez_okH tz_ex tz_nm tz_by tz_ml tz_hh tz_tbl tz_hn mi) (C0 : tz_At p s m meth c b L xs) (HW : tz_Law L xs) : W p l e room_1 s m #[Value.ref b] below meth c s.heap [] 0 0 (lw_Z below #[Value.ref b] s) (entryFrame m ([Value.ref b] : List Value).toArray 7) := by
  obtain ⟨hx, hb, hr, hml, hown, hts, hX, hbl, hlocks, hgv, hname, hexc⟩ := C0
  have hn := flat_of_before _ hgv
  obtain ⟨B, hB⟩ : ∃ B, s.heap.size = B + 1 := ⟨s.heap.size - 1, by omega⟩
  have hA : ∀ a : Nat, a < s.heap.size → ¬ ez_A B a := fun a h1 h2 => by
    have : B < a := h2
    omega
  obtain ⟨ea, he0, hT, hZ⟩ := tz_outer (A := ez_A B) hts hn hX hA
  have hts' : ∀ w ∈ tz_tbl, w.before #[Value.ref b] s = true := fun w hw => by
    rcases List.mem_append.mp hw with z | z
    · exact hts w (List.mem_filter.mp z).1
    · have : tz_exw.all (fun w => decide (w ∈ tz_nw)) = true := by decide +kernel
      exact hn w (of_decide_eq_true (List.all_eq_true.mp this w z))
  have hinst : ∀ a, 0 < a → a ≤ 13 → (Cond.instantiable (tz_cn a) (tz_nf a)).before #[Value.ref b] s = true := fun a h1 h2 => by
    have : (List.range 14).all (fun a => decide (a = 0 ∨ Cond.instantiable (tz_cn a) (tz_nf a) ∈ lw_tbl)) = true := by decide +kernel
    rcases of_decide_eq_true (List.all_eq_true.mp this a (List.mem_range.mpr (by omega))) with z | z
    · omega
    · exact hts _ z
  obtain ⟨dC, dI, hKc⟩ := tz_known hts' hinst
  obtain ⟨cI, kI, oI, i1, i2, i3⟩ := Cond.arrayClass_spec (type := .int) (hts _ (by decide +kernel))
  obtain ⟨cJ, kJ, oJ, j1, j2, j3⟩ := Cond.arrayClass_spec (type := .long) (hts _ (by decide +kernel))
  obtain ⟨cB, kB, oB, b1, b2, b3⟩ := Cond.arrayClass_spec (type := .byte) (hts _ (by decide +kernel))
  obtain ⟨dA, d1, d2, d3⟩ : ∃ dA : Nat → ClassId, dA 1000 = cI ∧ dA 1002 = cJ ∧ dA 1003 = cB := ⟨fun t => if t = 1000 then cI else if t = 1002 then cJ else cB, rfl, rfl, rfl⟩
  have hK : va_K (dC, dI) tz_cl (ez_tys dA) s := by
    refine ⟨hKc, fun k q hk => ?_⟩
    match k, hk with
    | 0, hk => cases hk; rw [d1]; exact ⟨ez_arr i2 i3, i1⟩
    | 1, hk => cases hk; rw [d2]; exact ⟨ez_arr j2 j3, j1⟩
    | 2, hk => cases hk; rw [d3]; exact ⟨ez_arr b2 b3, b1⟩
    | k + 3, hk => cases hk
  have hTh : ez_Th B s := ⟨va_Zqof (hts _ (by decide +kernel)) (hts _ (by decide +kernel)) (hn _ (by decide +kernel)) hA, va_Zqof (hts _ (by decide +kernel)) (hts _ (by decide +kernel)) (hn _ (by decide +kernel)) hA, ez_Ls.of (hts _ (by decide +kernel)) hA, ez_Ls.of (hts _ (by decide +kernel)) hA⟩
  have hsur : ez_Sur (dC, dI) tz_cl dA B ea (tz_E L xs) tz_sta tz_str s := ⟨hK, hT, hZ, hTh, tz_strs hts hn⟩
  have hR : ez_Rel (dC, dI) tz_cl tz_nf tz_ty dA B ez_h0 s.heap := ⟨by rw [hB]; rfl, [], fun q hq => absurd rfl hq, fun k q hk => by simp [va_pl] at hk, ⟨fun i j x y hi => by simp [va_pl] at hi, fun k q hk => by simp [va_pl] at hk⟩⟩
  have hcx : ez_Ctx tz_nm tz_by tz_ml tz_re tz_hh tz_tbl 150 p s m #[Value.ref b] meth c := ⟨hx, hb, hr, hml, hown, hts', hlocks, hname, by rw [hexc]; rfl⟩
  have K := HW (ez_Snd l (dC, dI) tz_cl tz_nf tz_ty dA B ea tz_ex (tz_E L xs) tz_sta tz_nm tz_by tz_ml tz_re tz_hh tz_tbl tz_str) (ez_Snd_mono _ _ _ _ _ _ _ _ _ _ _ _ _ _ _ _ _ _) (ez_sound hl tz_good hH hL) p e room_1 s m #[Value.ref b] below meth c s.heap [] 0 0 _ 0 0 hcx hsur hR va_S.rf (by rw [hB]) rfl rfl (Nat.zero_le _) (Nat.zero_le _) (Nat.le_refl _) (Nat.le_refl _) (Nat.le_refl _) (by decide) (ez_lv_entry (B := B) (ea := ea) (vs := [.retAddr 0]) (n := 7) (by decide))
  have e1 : ([.retAddr 0] : List Value).map (ez_tr B ea) = [.ref b] := by
    show [Value.ref (ea 0)] = _
    rw [he0]
  rw [e1] at K
  rw [lg_entry_eq]
  refine ez_W_mono ?_ K
  rintro t ⟨o, h1, h2, r, h', hQ, hout, -, hW, ⟨-, -, c3, c4⟩, -, -, L', hsame, hLA⟩
  subst hQ
  have ho : o = .returned (some (.int 1)) := hout
  subst ho
  refine ⟨_, h1, h2, rfl, ⟨_, rfl⟩, hW, ?_⟩
  exact hsame.weaken (fun y hy hlt => by
    have h3 : B < y.base := hLA y hy
    have h4 : y.base < B + 1 := by rw [← hB]; exact hlt
    exact absurd h4 (Nat.not_lt.mpr h3)) c3 c4
end
section
def ez_chb : List ez_C → Bool
  | [] => true
  | q :: cs => (match cs with
    | [] => true
    | q' :: _ => ez_isSw q.2.1 || ez_isThr q.2.1 || decide (q'.1 = q.1 + ez_ln q.2.1)) && ez_chb cs
theorem tz_okb {tb : List Cond} {n : Nat} : ∀ cs : List ez_C, cs.all (tz_o1 tb n) = true → ez_chb cs = true → ez_okLb tz_nf tz_ty tz_sta tz_nm tz_by tz_ml tz_re tz_hh tb 13 150 tz_ct tz_cn "PackDesk" tz_thr n cs = true
  | [], _, _ => rfl
  | q :: cs, h1, h2 => by
    rw [List.all_cons, Bool.and_eq_true] at h1
    unfold ez_chb at h2
    rw [Bool.and_eq_true] at h2
    unfold ez_okLb
    rw [Bool.and_eq_true, Bool.and_eq_true]
    exact ⟨⟨h1.1, h2.1⟩, tz_okb cs h1.2 h2.2⟩
abbrev tz_OK (n : Nat) (cs : List ez_C) : Prop := ez_okL tz_cl tz_nf tz_ty tz_ex tz_sta tz_nm tz_by tz_ml tz_re tz_hh tz_tbl tz_str n cs
theorem tz_okl {tb : List Cond} (hs : ∀ w ∈ tb, w ∈ tz_tbl) {n : Nat} {cs : List ez_C} (h1 : cs.all (tz_o1 tb n) = true) (h2 : ez_chb cs = true) : tz_OK n cs := ez_okLb_ok _ _ _ _ _ _ _ _ _ _ _ _ _ _ _ _ _ _ _ hs tz_gen tz_cls tz_wc tz_thr_ok cs (tz_okb cs h1 h2)
theorem tz_okl_0 : tz_OK 0 cz_0 := tz_okl tz_sub_0 tz_al_0 (by decide +kernel)
theorem tz_okl_1 : tz_OK 1 cz_1 := tz_okl tz_sub_0 tz_al_1 (by decide +kernel)
theorem tz_okl_2 : tz_OK 2 cz_2 := tz_okl tz_sub_0 tz_al_2 (by decide +kernel)
theorem tz_okl_3 : tz_OK 3 cz_3 := tz_okl tz_sub_0 tz_al_3 (by decide +kernel)
theorem tz_okl_4 : tz_OK 4 cz_4 := tz_okl tz_sub_0 tz_al_4 (by decide +kernel)
theorem tz_okl_5 : tz_OK 5 cz_5 := tz_okl tz_sub_0 tz_al_5 (by decide +kernel)
theorem tz_okl_6 : tz_OK 6 cz_6 := tz_okl tz_sub_0 tz_al_6 (by decide +kernel)
theorem tz_okl_7 : tz_OK 7 cz_7 := tz_okl tz_sub_0 tz_al_7 (by decide +kernel)
theorem tz_okl_8 : tz_OK 8 cz_8 := tz_okl tz_sub_0 tz_al_8 (by decide +kernel)
theorem tz_okl_9 : tz_OK 9 cz_9 := tz_okl tz_sub_0 tz_al_9 (by decide +kernel)
theorem tz_okl_10 : tz_OK 10 cz_10 := tz_okl tz_sub_0 tz_al_10 (by decide +kernel)
theorem tz_okl_11 : tz_OK 11 cz_11 := tz_okl tz_sub_0 tz_al_11 (by decide +kernel)
theorem tz_okl_12 : tz_OK 12 cz_12 := tz_okl tz_sub_0 tz_al_12 (by decide +kernel)
theorem tz_okl_13 : tz_OK 13 cz_13 := tz_okl tz_sub_0 tz_al_13 (by decide +kernel)
theorem tz_okl_14 : tz_OK 14 cz_14 := tz_okl tz_sub_0 tz_al_14 (by decide +kernel)
theorem tz_okl_15 : tz_OK 15 cz_15 := tz_okl tz_sub_0 tz_al_15 (by decide +kernel)
theorem tz_okl_16 : tz_OK 16 cz_16 := tz_okl tz_sub_0 tz_al_16 (by decide +kernel)
theorem tz_okl_17 : tz_OK 17 cz_17 := tz_okl tz_sub_0 tz_al_17 (by decide +kernel)
theorem tz_okl_18 : tz_OK 18 cz_18 := tz_okl tz_sub_0 tz_al_18 (by decide +kernel)
theorem tz_okl_19 : tz_OK 19 cz_19 := tz_okl tz_sub_0 tz_al_19 (by decide +kernel)
theorem tz_okl_20 : tz_OK 20 cz_20 := tz_okl tz_sub_0 tz_al_20 (by decide +kernel)
theorem tz_okl_21 : tz_OK 21 cz_21 := tz_okl tz_sub_0 tz_al_21 (by decide +kernel)
theorem tz_okl_22 : tz_OK 22 cz_22 := tz_okl tz_sub_0 tz_al_22 (by decide +kernel)
theorem tz_okl_23 : tz_OK 23 cz_23 := tz_okl tz_sub_0 tz_al_23 (by decide +kernel)
theorem tz_okl_24 : tz_OK 24 cz_24 := tz_okl tz_sub_1 tz_al_24 (by decide +kernel)
theorem tz_okl_25 : tz_OK 25 cz_25 := tz_okl tz_sub_1 tz_al_25 (by decide +kernel)
theorem tz_okl_26 : tz_OK 26 cz_26 := tz_okl tz_sub_1 tz_al_26 (by decide +kernel)
theorem tz_okl_27 : tz_OK 27 cz_27 := tz_okl tz_sub_1 tz_al_27 (by decide +kernel)
theorem tz_okl_28 : tz_OK 28 cz_28 := tz_okl tz_sub_1 tz_al_28 (by decide +kernel)
theorem tz_okl_29 : tz_OK 29 cz_29 := tz_okl tz_sub_1 tz_al_29 (by decide +kernel)
theorem tz_okl_30 : tz_OK 30 cz_30 := tz_okl tz_sub_1 tz_al_30 (by decide +kernel)
theorem tz_okl_31 : tz_OK 31 cz_31 := tz_okl tz_sub_1 tz_al_31 (by decide +kernel)
theorem tz_okl_32 : tz_OK 32 cz_32 := tz_okl tz_sub_1 tz_al_32 (by decide +kernel)
theorem tz_okl_33 : tz_OK 33 cz_33 := tz_okl tz_sub_1 tz_al_33 (by decide +kernel)
theorem tz_okl_34 : tz_OK 34 cz_34 := tz_okl tz_sub_1 tz_al_34 (by decide +kernel)
theorem tz_okl_35 : tz_OK 35 cz_35 := tz_okl tz_sub_1 tz_al_35 (by decide +kernel)
theorem tz_okl_36 : tz_OK 36 cz_36 := tz_okl tz_sub_1 tz_al_36 (by decide +kernel)
theorem tz_okl_37 : tz_OK 37 cz_37 := tz_okl tz_sub_1 tz_al_37 (by decide +kernel)
theorem tz_okl_38 : tz_OK 38 cz_38 := tz_okl tz_sub_1 tz_al_38 (by decide +kernel)
theorem tz_okl_39 : tz_OK 39 cz_39 := tz_okl tz_sub_1 tz_al_39 (by decide +kernel)
theorem tz_okl_40 : tz_OK 40 cz_40 := tz_okl tz_sub_1 tz_al_40 (by decide +kernel)
theorem tz_okl_41 : tz_OK 41 cz_41 := tz_okl tz_sub_1 tz_al_41 (by decide +kernel)
theorem tz_okl_42 : tz_OK 42 cz_42 := tz_okl tz_sub_1 tz_al_42 (by decide +kernel)
theorem tz_okl_43 : tz_OK 43 cz_43 := tz_okl tz_sub_1 tz_al_43 (by decide +kernel)
theorem tz_okl_44 : tz_OK 44 cz_44 := tz_okl tz_sub_1 tz_al_44 (by decide +kernel)
theorem tz_okl_45 : tz_OK 45 cz_45 := tz_okl tz_sub_1 tz_al_45 (by decide +kernel)
theorem tz_okl_46 : tz_OK 46 cz_46 := tz_okl tz_sub_1 tz_al_46 (by decide +kernel)
theorem tz_okl_47 : tz_OK 47 cz_47 := tz_okl tz_sub_1 tz_al_47 (by decide +kernel)
theorem tz_okl_48 : tz_OK 48 cz_48 := tz_okl tz_sub_1 tz_al_48 (by decide +kernel)
theorem tz_okl_49 : tz_OK 49 cz_49 := tz_okl tz_sub_1 tz_al_49 (by decide +kernel)
theorem tz_okl_50 : tz_OK 50 cz_50 := tz_okl tz_sub_1 tz_al_50 (by decide +kernel)
theorem tz_okl_51 : tz_OK 51 cz_51 := tz_okl tz_sub_1 tz_al_51 (by decide +kernel)
theorem tz_okl_52 : tz_OK 52 cz_52 := tz_okl tz_sub_1 tz_al_52 (by decide +kernel)
theorem tz_okl_53 : tz_OK 53 cz_53 := tz_okl tz_sub_1 tz_al_53 (by decide +kernel)
theorem tz_okl_54 : tz_OK 54 cz_54 := tz_okl tz_sub_1 tz_al_54 (by decide +kernel)
theorem tz_okl_55 : tz_OK 55 cz_55 := tz_okl tz_sub_1 tz_al_55 (by decide +kernel)
theorem tz_okl_56 : tz_OK 56 cz_56 := tz_okl tz_sub_1 tz_al_56 (by decide +kernel)
theorem tz_okl_57 : tz_OK 57 cz_57 := tz_okl tz_sub_1 tz_al_57 (by decide +kernel)
theorem tz_okl_58 : tz_OK 58 cz_58 := tz_okl tz_sub_1 tz_al_58 (by decide +kernel)
theorem tz_okl_59 : tz_OK 59 cz_59 := tz_okl tz_sub_1 tz_al_59 (by decide +kernel)
theorem tz_okl_60 : tz_OK 60 cz_60 := tz_okl tz_sub_1 tz_al_60 (by decide +kernel)
theorem tz_okl_61 : tz_OK 61 cz_61 := tz_okl tz_sub_1 tz_al_61 (by decide +kernel)
theorem tz_okl_62 : tz_OK 62 cz_62 := tz_okl tz_sub_1 tz_al_62 (by decide +kernel)
theorem tz_okl_63 : tz_OK 63 cz_63 := tz_okl tz_sub_1 tz_al_63 (by decide +kernel)
theorem tz_okl_64 : tz_OK 64 cz_64 := tz_okl tz_sub_1 tz_al_64 (by decide +kernel)
theorem tz_okl_65 : tz_OK 65 cz_65 := tz_okl tz_sub_1 tz_al_65 (by decide +kernel)
theorem tz_okl_66 : tz_OK 66 cz_66 := tz_okl tz_sub_1 tz_al_66 (by decide +kernel)
theorem tz_okl_67 : tz_OK 67 cz_67 := tz_okl tz_sub_1 tz_al_67 (by decide +kernel)
theorem tz_okl_68 : tz_OK 68 cz_68 := tz_okl tz_sub_2 tz_al_68 (by decide +kernel)
theorem tz_okl_69 : tz_OK 69 cz_69 := tz_okl tz_sub_2 tz_al_69 (by decide +kernel)
theorem tz_okl_70 : tz_OK 70 cz_70 := tz_okl tz_sub_2 tz_al_70 (by decide +kernel)
theorem tz_okl_71 : tz_OK 71 cz_71 := tz_okl tz_sub_2 tz_al_71 (by decide +kernel)
theorem tz_okl_72 : tz_OK 72 cz_72 := tz_okl tz_sub_2 tz_al_72 (by decide +kernel)
theorem tz_okl_73 : tz_OK 73 cz_73 := tz_okl tz_sub_2 tz_al_73 (by decide +kernel)
theorem tz_okl_74 : tz_OK 74 cz_74 := tz_okl tz_sub_3 tz_al_74 (by decide +kernel)
theorem tz_okl_75 : tz_OK 75 cz_75 := tz_okl tz_sub_3 tz_al_75 (by decide +kernel)
theorem tz_okl_76 : tz_OK 76 cz_76 := tz_okl tz_sub_3 tz_al_76 (by decide +kernel)
theorem tz_okl_77 : tz_OK 77 cz_77 := tz_okl tz_sub_3 tz_al_77 (by decide +kernel)
theorem tz_okl_78 : tz_OK 78 cz_78 := tz_okl tz_sub_3 tz_al_78 (by decide +kernel)
theorem tz_okl_79 : tz_OK 79 cz_79 := tz_okl tz_sub_3 tz_al_79 (by decide +kernel)
theorem tz_okl_80 : tz_OK 80 cz_80 := tz_okl tz_sub_3 tz_al_80 (by decide +kernel)
theorem tz_okl_81 : tz_OK 81 cz_81 := tz_okl tz_sub_4 tz_al_81 (by decide +kernel)
theorem tz_okl_82 : tz_OK 82 cz_82 := tz_okl tz_sub_4 tz_al_82 (by decide +kernel)
theorem tz_okl_83 : tz_OK 83 cz_83 := tz_okl tz_sub_4 tz_al_83 (by decide +kernel)
theorem tz_okl_84 : tz_OK 84 cz_84 := tz_okl tz_sub_4 tz_al_84 (by decide +kernel)
theorem tz_okl_85 : tz_OK 85 cz_85 := tz_okl tz_sub_4 tz_al_85 (by decide +kernel)
theorem tz_okl_86 : tz_OK 86 cz_86 := tz_okl tz_sub_4 tz_al_86 (by decide +kernel)
theorem tz_okl_87 : tz_OK 87 cz_87 := tz_okl tz_sub_4 tz_al_87 (by decide +kernel)
theorem tz_okl_88 : tz_OK 88 cz_88 := tz_okl tz_sub_4 tz_al_88 (by decide +kernel)
theorem tz_okl_89 : tz_OK 89 cz_89 := tz_okl tz_sub_5 tz_al_89 (by decide +kernel)
theorem tz_okl_90 : tz_OK 90 cz_90 := tz_okl tz_sub_5 tz_al_90 (by decide +kernel)
theorem tz_okl_91 : tz_OK 91 cz_91 := tz_okl tz_sub_5 tz_al_91 (by decide +kernel)
theorem tz_okl_92 : tz_OK 92 cz_92 := tz_okl tz_sub_5 tz_al_92 (by decide +kernel)
theorem tz_okl_93 : tz_OK 93 cz_93 := tz_okl tz_sub_5 tz_al_93 (by decide +kernel)
theorem tz_okl_94 : tz_OK 94 cz_94 := tz_okl tz_sub_5 tz_al_94 (by decide +kernel)
theorem tz_okl_95 : tz_OK 95 cz_95 := tz_okl tz_sub_5 tz_al_95 (by decide +kernel)
theorem tz_okl_96 : tz_OK 96 cz_96 := tz_okl tz_sub_5 tz_al_96 (by decide +kernel)
theorem tz_okl_97 : tz_OK 97 cz_97 := tz_okl tz_sub_5 tz_al_97 (by decide +kernel)
theorem tz_okl_98 : tz_OK 98 cz_98 := tz_okl tz_sub_5 tz_al_98 (by decide +kernel)
theorem tz_okl_99 : tz_OK 99 cz_99 := tz_okl tz_sub_5 tz_al_99 (by decide +kernel)
theorem tz_okl_100 : tz_OK 100 cz_100 := tz_okl tz_sub_6 tz_al_100 (by decide +kernel)
theorem tz_okl_101 : tz_OK 101 cz_101 := tz_okl tz_sub_7 tz_al_101 (by decide +kernel)
theorem tz_okl_102 : tz_OK 102 cz_102 := tz_okl tz_sub_7 tz_al_102 (by decide +kernel)
theorem tz_okl_103 : tz_OK 103 cz_103 := tz_okl tz_sub_7 tz_al_103 (by decide +kernel)
theorem tz_okl_104 : tz_OK 104 cz_104 := tz_okl tz_sub_7 tz_al_104 (by decide +kernel)
theorem tz_okl_105 : tz_OK 105 cz_105 := tz_okl tz_sub_7 tz_al_105 (by decide +kernel)
theorem tz_okl_106 : tz_OK 106 cz_106 := tz_okl tz_sub_7 tz_al_106 (by decide +kernel)
theorem tz_okl_107 : tz_OK 107 cz_107 := tz_okl tz_sub_7 tz_al_107 (by decide +kernel)
theorem tz_okl_108 : tz_OK 108 cz_108 := tz_okl tz_sub_7 tz_al_108 (by decide +kernel)
theorem tz_okl_109 : tz_OK 109 cz_109 := tz_okl tz_sub_8 tz_al_109 (by decide +kernel)
theorem tz_okl_110 : tz_OK 110 cz_110 := tz_okl tz_sub_8 tz_al_110 (by decide +kernel)
theorem tz_okl_111 : tz_OK 111 cz_111 := tz_okl tz_sub_8 tz_al_111 (by decide +kernel)
theorem tz_okl_112 : tz_OK 112 cz_112 := tz_okl tz_sub_8 tz_al_112 (by decide +kernel)
theorem tz_okl_113 : tz_OK 113 cz_113 := tz_okl tz_sub_8 tz_al_113 (by decide +kernel)
theorem tz_okl_114 : tz_OK 114 cz_114 := tz_okl tz_sub_9 tz_al_114 (by decide +kernel)
theorem tz_okl_115 : tz_OK 115 cz_115 := tz_okl tz_sub_9 tz_al_115 (by decide +kernel)
theorem tz_okl_116 : tz_OK 116 cz_116 := tz_okl tz_sub_9 tz_al_116 (by decide +kernel)
theorem tz_okl_117 : tz_OK 117 cz_117 := tz_okl tz_sub_9 tz_al_117 (by decide +kernel)
theorem tz_okl_118 : tz_OK 118 cz_118 := tz_okl tz_sub_9 tz_al_118 (by decide +kernel)
theorem tz_okl_119 : tz_OK 119 cz_119 := tz_okl tz_sub_9 tz_al_119 (by decide +kernel)
theorem tz_okl_120 : tz_OK 120 cz_120 := tz_okl tz_sub_9 tz_al_120 (by decide +kernel)
theorem tz_okl_121 : tz_OK 121 cz_121 := tz_okl tz_sub_9 tz_al_121 (by decide +kernel)
theorem tz_okl_122 : tz_OK 122 cz_122 := tz_okl tz_sub_9 tz_al_122 (by decide +kernel)
theorem tz_okl_123 : tz_OK 123 cz_123 := tz_okl tz_sub_10 tz_al_123 (by decide +kernel)
theorem tz_okl_124 : tz_OK 124 cz_124 := tz_okl tz_sub_10 tz_al_124 (by decide +kernel)
theorem tz_okl_125 : tz_OK 125 cz_125 := tz_okl tz_sub_10 tz_al_125 (by decide +kernel)
theorem tz_okl_126 : tz_OK 126 cz_126 := tz_okl tz_sub_10 tz_al_126 (by decide +kernel)
theorem tz_okl_127 : tz_OK 127 cz_127 := tz_okl tz_sub_10 tz_al_127 (by decide +kernel)
theorem tz_okl_128 : tz_OK 128 cz_128 := tz_okl tz_sub_11 tz_al_128 (by decide +kernel)
theorem tz_okl_129 : tz_OK 129 cz_129 := tz_okl tz_sub_11 tz_al_129 (by decide +kernel)
theorem tz_okl_130 : tz_OK 130 cz_130 := tz_okl tz_sub_11 tz_al_130 (by decide +kernel)
theorem tz_okl_131 : tz_OK 131 cz_131 := tz_okl tz_sub_11 tz_al_131 (by decide +kernel)
theorem tz_okl_132 : tz_OK 132 cz_132 := tz_okl tz_sub_12 tz_al_132 (by decide +kernel)
theorem tz_okl_133 : tz_OK 133 cz_133 := tz_okl tz_sub_12 tz_al_133 (by decide +kernel)
theorem tz_okl_134 : tz_OK 134 cz_134 := tz_okl tz_sub_12 tz_al_134 (by decide +kernel)
theorem tz_okl_135 : tz_OK 135 cz_135 := tz_okl tz_sub_12 tz_al_135 (by decide +kernel)
theorem tz_okl_136 : tz_OK 136 cz_136 := tz_okl tz_sub_12 tz_al_136 (by decide +kernel)
theorem tz_okl_137 : tz_OK 137 cz_137 := tz_okl tz_sub_12 tz_al_137 (by decide +kernel)
theorem tz_okl_138 : tz_OK 138 cz_138 := tz_okl tz_sub_12 tz_al_138 (by decide +kernel)
theorem tz_okl_139 : tz_OK 139 cz_139 := tz_okl tz_sub_12 tz_al_139 (by decide +kernel)
theorem tz_okl_140 : tz_OK 140 cz_140 := tz_okl tz_sub_12 tz_al_140 (by decide +kernel)
theorem tz_okl_141 : tz_OK 141 cz_141 := tz_okl tz_sub_12 tz_al_141 (by decide +kernel)
theorem tz_okl_142 : tz_OK 142 cz_142 := tz_okl tz_sub_12 tz_al_142 (by decide +kernel)
theorem tz_okl_143 : tz_OK 143 cz_143 := tz_okl tz_sub_12 tz_al_143 (by decide +kernel)
theorem tz_okl_144 : tz_OK 144 cz_144 := tz_okl tz_sub_12 tz_al_144 (by decide +kernel)
theorem tz_okl_145 : tz_OK 145 cz_145 := tz_okl tz_sub_13 tz_al_145 (by decide +kernel)
theorem tz_okl_146 : tz_OK 146 cz_146 := tz_okl tz_sub_13 tz_al_146 (by decide +kernel)
theorem tz_okl_147 : tz_OK 147 cz_147 := tz_okl tz_sub_13 tz_al_147 (by decide +kernel)
theorem tz_okl_148 : tz_OK 148 cz_148 := tz_okl tz_sub_13 tz_al_148 (by decide +kernel)
theorem tz_okl_149 : tz_OK 149 cz_149 := tz_okl tz_sub_14 tz_al_149 (by decide +kernel)
theorem tz_okl_150 : tz_OK 150 cz_150 := tz_okl tz_sub_13 tz_al_150 (by decide +kernel)
theorem tz_OKs : ∀ n, tz_OK n (tz_co n)
  | 0 => tz_okl_0
  | 1 => tz_okl_1
  | 2 => tz_okl_2
  | 3 => tz_okl_3
  | 4 => tz_okl_4
  | 5 => tz_okl_5
  | 6 => tz_okl_6
  | 7 => tz_okl_7
  | 8 => tz_okl_8
  | 9 => tz_okl_9
  | 10 => tz_okl_10
  | 11 => tz_okl_11
  | 12 => tz_okl_12
  | 13 => tz_okl_13
  | 14 => tz_okl_14
  | 15 => tz_okl_15
  | 16 => tz_okl_16
  | 17 => tz_okl_17
  | 18 => tz_okl_18
  | 19 => tz_okl_19
  | 20 => tz_okl_20
  | 21 => tz_okl_21
  | 22 => tz_okl_22
  | 23 => tz_okl_23
  | 24 => tz_okl_24
  | 25 => tz_okl_25
  | 26 => tz_okl_26
  | 27 => tz_okl_27
  | 28 => tz_okl_28
  | 29 => tz_okl_29
  | 30 => tz_okl_30
  | 31 => tz_okl_31
  | 32 => tz_okl_32
  | 33 => tz_okl_33
  | 34 => tz_okl_34
  | 35 => tz_okl_35
  | 36 => tz_okl_36
  | 37 => tz_okl_37
  | 38 => tz_okl_38
  | 39 => tz_okl_39
  | 40 => tz_okl_40
  | 41 => tz_okl_41
  | 42 => tz_okl_42
  | 43 => tz_okl_43
  | 44 => tz_okl_44
  | 45 => tz_okl_45
  | 46 => tz_okl_46
  | 47 => tz_okl_47
  | 48 => tz_okl_48
  | 49 => tz_okl_49
  | 50 => tz_okl_50
  | 51 => tz_okl_51
  | 52 => tz_okl_52
  | 53 => tz_okl_53
  | 54 => tz_okl_54
  | 55 => tz_okl_55
  | 56 => tz_okl_56
  | 57 => tz_okl_57
  | 58 => tz_okl_58
  | 59 => tz_okl_59
  | 60 => tz_okl_60
  | 61 => tz_okl_61
  | 62 => tz_okl_62
  | 63 => tz_okl_63
  | 64 => tz_okl_64
  | 65 => tz_okl_65
  | 66 => tz_okl_66
  | 67 => tz_okl_67
  | 68 => tz_okl_68
  | 69 => tz_okl_69
  | 70 => tz_okl_70
  | 71 => tz_okl_71
  | 72 => tz_okl_72
  | 73 => tz_okl_73
  | 74 => tz_okl_74
  | 75 => tz_okl_75
  | 76 => tz_okl_76
  | 77 => tz_okl_77
  | 78 => tz_okl_78
  | 79 => tz_okl_79
  | 80 => tz_okl_80
  | 81 => tz_okl_81
  | 82 => tz_okl_82
  | 83 => tz_okl_83
  | 84 => tz_okl_84
  | 85 => tz_okl_85
  | 86 => tz_okl_86
  | 87 => tz_okl_87
  | 88 => tz_okl_88
  | 89 => tz_okl_89
  | 90 => tz_okl_90
  | 91 => tz_okl_91
  | 92 => tz_okl_92
  | 93 => tz_okl_93
  | 94 => tz_okl_94
  | 95 => tz_okl_95
  | 96 => tz_okl_96
  | 97 => tz_okl_97
  | 98 => tz_okl_98
  | 99 => tz_okl_99
  | 100 => tz_okl_100
  | 101 => tz_okl_101
  | 102 => tz_okl_102
  | 103 => tz_okl_103
  | 104 => tz_okl_104
  | 105 => tz_okl_105
  | 106 => tz_okl_106
  | 107 => tz_okl_107
  | 108 => tz_okl_108
  | 109 => tz_okl_109
  | 110 => tz_okl_110
  | 111 => tz_okl_111
  | 112 => tz_okl_112
  | 113 => tz_okl_113
  | 114 => tz_okl_114
  | 115 => tz_okl_115
  | 116 => tz_okl_116
  | 117 => tz_okl_117
  | 118 => tz_okl_118
  | 119 => tz_okl_119
  | 120 => tz_okl_120
  | 121 => tz_okl_121
  | 122 => tz_okl_122
  | 123 => tz_okl_123
  | 124 => tz_okl_124
  | 125 => tz_okl_125
  | 126 => tz_okl_126
  | 127 => tz_okl_127
  | 128 => tz_okl_128
  | 129 => tz_okl_129
  | 130 => tz_okl_130
  | 131 => tz_okl_131
  | 132 => tz_okl_132
  | 133 => tz_okl_133
  | 134 => tz_okl_134
  | 135 => tz_okl_135
  | 136 => tz_okl_136
  | 137 => tz_okl_137
  | 138 => tz_okl_138
  | 139 => tz_okl_139
  | 140 => tz_okl_140
  | 141 => tz_okl_141
  | 142 => tz_okl_142
  | 143 => tz_okl_143
  | 144 => tz_okl_144
  | 145 => tz_okl_145
  | 146 => tz_okl_146
  | 147 => tz_okl_147
  | 148 => tz_okl_148
  | 149 => tz_okl_149
  | 150 => tz_okl_150
  | n + 151 => by
    have : tz_co (n + 151) = [] := by
      unfold tz_co
      rw [List.getD_eq_getElem?_getD, List.getElem?_eq_none (by show 151 ≤ n + 151; omega)]
      rfl
    rw [this]
    trivial
theorem ez_lookup_mem {α β : Type} [BEq α] [LawfulBEq α] {k : α} {v : β} : ∀ l : List (α × β), l.lookup k = some v → (k, v) ∈ l
  | [], h => by cases h
  | (a, b) :: r, h => by
    rw [List.lookup_cons] at h
    cases hq : k == a with
    | true =>
      rw [hq] at h
      cases h
      have := eq_of_beq hq
      subst this
      exact List.mem_cons_self
    | false =>
      rw [hq] at h
      exact List.mem_cons_of_mem _ (ez_lookup_mem r h)
theorem tz_okHs : ∀ mi, ez_okH tz_ex tz_nm tz_by tz_ml tz_hh tz_tbl tz_hn mi := by
  intro mi pc x
  refine ⟨fun h => ?_, fun t j h => ?_⟩
  · unfold tz_hn at h
    split at h
    · assumption
    · cases h
  · unfold tz_hn at h
    split at h
    · cases h
    · have hm : ((mi, pc, x), (t + 1, j)) ∈ tz_hnL := by
        cases hq : tz_hnL.lookup (mi, pc, x) with
        | none => rw [hq] at h; cases h
        | some v => rw [hq] at h; cases h; exact ez_lookup_mem _ hq
      simp only [tz_hnL, List.mem_cons, List.not_mem_nil, or_false, Prod.mk.injEq] at hm
      rcases hm with ⟨⟨rfl, rfl, rfl⟩, ht, rfl⟩ | ⟨⟨rfl, rfl, rfl⟩, ht, rfl⟩ | ⟨⟨rfl, rfl, rfl⟩, ht, rfl⟩ | ⟨⟨rfl, rfl, rfl⟩, ht, rfl⟩ | ⟨⟨rfl, rfl, rfl⟩, ht, rfl⟩ | ⟨⟨rfl, rfl, rfl⟩, ht, rfl⟩
      · exact ⟨[], 0, 8, 11, 13, [], by decide, by decide, by decide, tz_in (by decide +kernel) rfl, tz_in (by decide +kernel) rfl, fun y hy => absurd hy List.not_mem_nil, Or.inl ⟨2, by decide +kernel, rfl, by omega⟩, by decide⟩
      · exact ⟨[], 0, 8, 11, 18, [], by decide, by decide, by decide, tz_in (by decide +kernel) rfl, tz_in (by decide +kernel) rfl, fun y hy => absurd hy List.not_mem_nil, Or.inl ⟨2, by decide +kernel, rfl, by omega⟩, by decide⟩
      · exact ⟨[(0, 6, 9, 24)], 0, 6, 12, 18, [], by decide, by decide, by decide, tz_in (by decide +kernel) rfl, tz_in (by decide +kernel) rfl, by
          intro y hy
          cases List.mem_singleton.mp hy
          exact ⟨by decide, by decide, "java/lang/IndexOutOfBoundsException", tz_in (by decide +kernel) rfl, List.mem_append_right _ (by decide +kernel)⟩, Or.inl ⟨3, by decide +kernel, rfl, by omega⟩, by decide⟩
      · exact ⟨[], 0, 6, 9, 24, [(0, 6, 12, 18)], by decide, by decide, by decide, tz_in (by decide +kernel) rfl, tz_in (by decide +kernel) rfl, fun y hy => absurd hy List.not_mem_nil, Or.inl ⟨3, by decide +kernel, rfl, by omega⟩, by decide⟩
      · exact ⟨[(0, 9, 12, 18)], 0, 9, 15, 13, [], by decide, by decide, by decide, tz_in (by decide +kernel) rfl, tz_in (by decide +kernel) rfl, by
          intro y hy
          cases List.mem_singleton.mp hy
          exact ⟨by decide, by decide, "java/lang/IllegalArgumentException", tz_in (by decide +kernel) rfl, List.mem_append_right _ (by decide +kernel)⟩, Or.inl ⟨3, by decide +kernel, rfl, by omega⟩, by decide⟩
      · exact ⟨[], 0, 9, 12, 18, [(0, 9, 15, 13)], by decide, by decide, by decide, tz_in (by decide +kernel) rfl, tz_in (by decide +kernel) rfl, fun y hy => absurd hy List.not_mem_nil, Or.inl ⟨3, by decide +kernel, rfl, by omega⟩, by decide⟩
end
section
set_option maxHeartbeats 4000000 in
theorem lw_walk (l : Launch) (hl : l.stackTraces = false) (HW : ∀ (L : Nat) (xs : Nat → Int32), L ≤ 6 → tz_Law L xs) (b : Addr) (xs : List Int32) : MetFree l x (headSpec (Jvm.Cond.code x code maxLocals ret :: tables_1) room_1) (lw_P b xs) (fun _ _ _ _ _ => True) lw_Q := by
  refine MetFree.of_bodyS (code := code) (maxLocals := maxLocals) (ret := ret) (by decide) ?_ ?_
  · intro args s m h hn
    obtain ⟨meth, c, h1, h2, h3, h4, h5, h6, -, -⟩ := Cond.code_spec hn (atoms_spec (ws := Jvm.Cond.code x code maxLocals ret :: tables_1) h _ List.mem_cons_self)
    exact ⟨meth, c, h1, h2, h3, h4, h5, h6⟩
  · intro p e s m args below meth c s₁ B hml0 hP _
    obtain ⟨rfl, hx, hbd, hgv⟩ := hP
    obtain ⟨scr, harrAt, hlist, hof, hsmall⟩ := hx
    obtain ⟨hcb, hkn, -, -⟩ := State.arrayAt?_spec harrAt
    have hown : s.vm.findClass "PackDeskLaw" = some m.cls := findClass_of_methodNamed B.named
    have hts0 : ∀ c ∈ (Jvm.Cond.code x code maxLocals ret :: tables_1), c.before #[Value.ref b] s = true := atoms_spec (ws := Jvm.Cond.code x code maxLocals ret :: tables_1) B.pre
    have hts : ∀ w ∈ lw_tbl, w.before #[Value.ref b] s = true := k2_hts_sels lw_privs (fun w hw => hts0 w (List.mem_cons_of_mem _ hw)) lw_privs_ok
    have hml : c.maxLocals = 7 := B.maxLocals_eq (hts0 _ List.mem_cons_self)
    have hexc : c.exceptionTable.toList = [] := by
      obtain ⟨meth', c', h1, h2, -, -, -, -, h7, -⟩ := Cond.code_spec B.named (hts0 _ List.mem_cons_self)
      cases B.method.symm.trans h1
      cases (Stand.of_body B).code.symm.trans h2
      simpa [Array.isEmpty] using h7
    have X₀ : Stand p l e room_1 s m #[Value.ref b] below meth c s₁ [] 0 0 := Stand.of_body B
    have hh0 : s₁.heap = s.heap := by rw [B.state]; rfl
    have hsz : scr.slots.size = xs.length := by rw [← Array.length_toList, hlist, List.length_map]
    have hval : ∀ j : Nat, j < xs.length → scr.slots[j]? = some (.int (xs.getD j 0)) := fun j hj => by
      rw [← Array.getElem?_toList, hlist]
      simp [hj]
    have hbl : b < s.heap.size := (Array.getElem?_eq_some_iff.mp hcb).1
    have hX : va_X b xs.length (fun j => xs.getD j 0) s s.heap := ⟨scr, hcb, hof, hkn, hsz, hval⟩
    have K : W p l e room_1 s m #[Value.ref b] below meth c s₁.heap [] 0 0 (lw_Z below #[Value.ref b] s) (entryFrame m ([Value.ref b] : List Value).toArray 7) := by
      rw [hh0]
      exact tz_start l hl tz_OKs tz_okHs ⟨B.exec, B.bytes, B.returns, hml, hown, hts, hX, hbl, B.notSynchronized, hgv, (name_of_methodNamed B.named B.method).1, hexc⟩ (HW _ _ hbd)
    obtain ⟨t, a1, o, b1, b2, b3⟩ := K s₁ rfl X₀
    exact ⟨t, o, a1, b1, b2, b3⟩
theorem lw_pre_spec {args : Array Value} {s : State} (h : (Jvm.Cond.and given_1 narrow_1).before args s = true) (hr : rest_1_c.before args s = true) : ∃ (b : Addr) (xs : List Int32), lw_P b xs args s := by
  have hs := flat_of_before _ h
  have hq := flat_of_before _ hr
  have hc : (Cond.count 1).before args s = true := hs _ (by decide +kernel)
  have harr : (Cond.arrayOf (.arg 0) .int).before args s = true := hs _ (by decide +kernel)
  have hle : (Cond.le (.length (.arg 0)) (.int 6)).before args s = true := hs _ (by decide +kernel)
  have hlen : (Cond.isInt (.length (.arg 0))).before args s = true := hq _ (by decide +kernel)
  have hall : (Cond.all (.arg 0) (.isInt (.elem (.arg 0) (.index 0)))).before args s = true := hq _ (by decide +kernel)
  obtain ⟨b, xs, hb, hx⟩ := State.ints_of_pre rfl harr hlen hall
  have hsm : xs.length < 2 ^ 31 := hx.choose_spec.2.2.2
  have hev : (Term.length (.arg 0)).eval args s none [] s = some (.int xs.length.toInt32) := hx.length_eval hb
  have hv := Cond.le_ints hev (show (Term.int 6).eval args s none [] s = some (.int 6) from rfl)
  have hd : xs.length.toInt32 ≤ 6 := by
    simpa [Cond.before, Cond.holds, hv] using hle
  have hN : xs.length ≤ 6 := (Int32.ofNat_le_ofNat hsm (by decide)).mp (show Int32.ofNat xs.length ≤ Int32.ofNat 6 from hd)
  exact ⟨b, xs, Cond.one_arg hc (show args[0]? = some (.ref b) from hb), hx, hN, h⟩
theorem lw_comes (l : Launch) (hl : l.stackTraces = false) (HW : ∀ (L : Nat) (xs : Nat → Int32), L ≤ 6 → tz_Law L xs) : Comes l x (Jvm.Cond.code x code maxLocals ret :: tables_1) room_1 (fun tb e args s => Calls_1 tb e args s ∧ rest_1 tb e args s ∧ Pre_1 tb e args s)
    (fun _ _ args s o t => lw_Q args s o t) := by
  intro p e ha hc hk s m args below hf hfit hheap happ hpre
  obtain ⟨b, xs, hP⟩ := lw_pre_spec hpre.2.2 hpre.2.1
  obtain ⟨k, o, h1, h2, h3, hQ⟩ := lw_walk l hl HW b xs p e ha hc hk s m args below hf ((Spec.applies_iff_loose hf).mp happ).1 hP trivial
  exact ⟨k, o, h1, h2, h3, hQ⟩
theorem lw_frame {s t : State} {o : Outcome} {args : Array Value} (h : Framed s o t [] 600002 7302232) :
    Framed s o t (fieldLocs frame_1_writes args s ++ arrayLocs frame_1_arrays args s ++ staticLocs frame_1_statics s) 600002 7302232 := h
theorem lw_limb (HW : ∀ (L : Nat) (xs : Nat → Int32), L ≤ 6 → tz_Law L xs) (L : Cond) (hL : ∀ (args : Array Value) (s t : State), L.after args s (.returned (some (.int 1))) t = true) :
    ArmFor flags0 classFile x code maxLocals ret World_1 tables_1 room_1 Calls_1 rest_1 Pre_1
      (fun tb e a s o t => postC L tb e a s o t ∧ Framed s o t (fieldLocs frame_1_writes a s ++ arrayLocs frame_1_arrays a s ++ staticLocs frame_1_statics s) 600002 7302232) := by
  intro l hfl _ _ p e ha hc hk s m args below hf hfit hheap happ hpre
  obtain ⟨k, o, h1, h2, h3, rfl, hF⟩ := lw_comes l (by rw [Launch.stackTraces, hfl]; decide +kernel) HW p e ha hc hk s m args below hf hfit hheap happ hpre
  exact ⟨k, _, h1, h2, h3, hL args s _, lw_frame hF⟩
theorem tz_claim (HW : ∀ (L : Nat) (xs : Nat → Int32), L ≤ 6 → tz_Law L xs) : Claimed_1_1 ∧ Claimed_1_2 := ⟨lw_limb HW limb_1_1 (fun args s t => by simp [limb_1_1, Cond.after, Cond.holds, Cond.value]), lw_limb HW limb_1_2 (fun args s t => Cond.after_iff.mpr (by
  first | (rw [show limb_1_2 = Cond.eq .result (.int 1) from rfl, Cond.eq_ints (x := 1) (y := 1) rfl rfl]; simp; done) | (simp [limb_1_2, Cond.value, Term.eval]; done)))⟩
end
section
/-! PRINTED: the cells behind both constructors: 1 PackDesk; 2 Row 1.tape; 3 int[] 2.bytes; 4 Row 1.output; 5 int[] 4.bytes; 6 int[] 1.ready; 7 int[] 1.weights; 8 int[] 1.scaleLengths; 9 LengthMaker 1.maker; 10 int[] 9.keys; 11 long[] 9.sums; 12 long[] 9.pairs; 13 int[] 9.alone; 14 CodeSet 52.codes; 15 Code 14.fixedLiterals; 16 int[] 15.lengths; 17 int[] 15.words; 18 int[] 15.counts; 19 int[] 15.inTurn; 20 int[] 15.nextWords; 21 int[] 15.nextPlaces; 22 Code 14.fixedDistances; 23 int[] 22.lengths; 24 int[] 22.words; 25 int[] 22.counts; 26 int[] 22.inTurn; 27 int[] 22.nextWords; 28 int[] 22.nextPlaces; 29 Code 14.literals; 30 int[] 29.lengths; 31 int[] 29.words; 32 int[] 29.counts; 33 int[] 29.inTurn; 34 int[] 29.nextWords; 35 int[] 29.nextPlaces; 36 Code 14.distances; 37 int[] 36.lengths; 38 int[] 36.words; 39 int[] 36.counts; 40 int[] 36.inTurn; 41 int[] 36.nextWords; 42 int[] 36.nextPlaces; 43 Code 14.alphabet; 44 int[] 43.lengths; 45 int[] 43.words; 46 int[] 43.counts; 47 int[] 43.inTurn; 48 int[] 43.nextWords; 49 int[] 43.nextPlaces; 50 Row 52.made; 51 int[] 50.bytes; 52 Packer 1.packer; 53 PartList 52.partList; 54 int[] 53.entries; 55 BlockBook 52.book; 56 int[] 55.facts; 57 int[] 55.codeLengths; 58 Matcher 52.matcher; 59 int[] 58.latest; 60 int[] 58.earlier; 61 CodeHead 52.head; 62 int[] 61.row; 63 int[] 61.symbols; 64 int[] 61.extras; 65 int[] 61.comings; 66 int[] 52.literalComings; 67 int[] 52.distanceComings; 68 BitWriter 52.writer; 69 Unpacker 1.unpacker; 70 int[] 69.row; 71 PackDeskModel; 72 byte[] 71.tape; 73 byte[] 71.output; 74 byte[] 71.ready; 75 byte[] 71.packed; 76 byte[] 71.got; 77 int[] 71.partMany; 78 int[] 71.partBack; 79 int[] 71.partByte; 80 int[] 71.partBlock; 81 int[] 71.previous; 82 int[] 71.lastPair; 83 int[] 71.blockWay; 84 int[] 71.blockParts; 85 int[] 71.blockBytes; 86 int[] 71.blockBits; 87 int[] 71.blockFixed; 88 int[] 71.blockDynamic; 89 int[] 71.keptLit; 90 int[] 71.keptBack; 91 int[] 71.keptRow; 92 int[] 71.lengthBase; 93 int[] 71.lengthExtra; 94 int[] 71.backBase; 95 int[] 71.backExtra; 96 int[] 71.orderOf; 97 int[] 71.often; 98 int[] 71.backOften; 99 int[] 71.rowOften; 100 int[] 71.litLength; 101 int[] 71.backLength; 102 int[] 71.rowLength; 103 int[] 71.litCode; 104 int[] 71.backCodes; 105 int[] 71.rowCode; 106 int[] 71.fixLength; 107 int[] 71.fixCode; 108 int[] 71.fixBack; 109 int[] 71.fixBackCode; 110 int[] 71.symbol; 111 int[] 71.weight; 112 int[] 71.weightNew; 113 int[] 71.holds; 114 int[] 71.holdsNew; 115 int[] 71.lengthMany; 116 int[] 71.nextCode; 117 int[] 71.rowTold; 118 int[] 71.rowRest; 119 int[] 71.rowOf; 120 int[] 71.takenLit; 121 int[] 71.takenBack; 122 int[] 71.takenRow; 123 int[] 71.taken; 124 int[] 71.weights; 125 int[] 71.scale; 126 out -/
def ly_TL : List Nat := [0, 1, 12, 1000, 12, 1000, 1000, 1000, 1000, 8, 1000, 1002, 1002, 1000, 7, 5, 1000, 1000, 1000, 1000, 1000, 1000, 5, 1000, 1000, 1000, 1000, 1000, 1000, 5, 1000, 1000, 1000, 1000, 1000, 1000, 5, 1000, 1000, 1000, 1000, 1000, 1000, 5, 1000, 1000, 1000, 1000, 1000, 1000, 12, 1000, 10, 11, 1000, 4, 1000, 1000, 9, 1000, 1000, 6, 1000, 1000, 1000, 1000, 1000, 1000, 3, 13, 1000, 2, 1003, 1003, 1003, 1003, 1003, 1000, 1000, 1000, 1000, 1000, 1000, 1000, 1000, 1000, 1000, 1000, 1000, 1000, 1000, 1000, 1000, 1000, 1000, 1000, 1000, 1000, 1000, 1000, 1000, 1000, 1000, 1000, 1000, 1000, 1000, 1000, 1000, 1000, 1000, 1000, 1000, 1000, 1000, 1000, 1000, 1000, 1000, 1000, 1000, 1000, 1000, 1000, 1000, 1000, 1002]
def ly_T (p : Nat) : Nat := ly_TL.getD p 0
def ly_NL : List Nat := [0, 0, 0, 6100, 0, 6100, 20, 64, 64, 0, 288, 576, 288, 576, 0, 0, 288, 288, 16, 288, 16, 16, 0, 288, 288, 16, 288, 16, 16, 0, 288, 288, 16, 288, 16, 16, 0, 288, 288, 16, 288, 16, 16, 0, 288, 288, 16, 288, 16, 16, 0, 6100, 0, 0, 6000, 0, 60, 3350, 0, 4096, 6000, 0, 316, 316, 316, 19, 286, 30, 0, 0, 316, 0, 6000, 6200, 20, 8000, 6000, 6000, 6000, 6000, 6000, 6000, 65536, 12, 12, 12, 12, 12, 12, 3456, 360, 228, 29, 29, 30, 30, 19, 288, 30, 19, 288, 30, 19, 288, 30, 19, 288, 288, 30, 30, 288, 600, 600, 172800, 172800, 17, 17, 330, 330, 330, 288, 32, 19, 330, 64, 64, 1]
def ly_N (p : Nat) : Nat := ly_NL.getD p 0
def ly_RL : List (List Nat) := [[], [2, 4, 6, 7, 8, 9, 52, 69], [3], [], [5], [], [], [], [], [10, 11, 12, 13], [], [], [], [], [15, 22, 29, 36, 43], [16, 17, 18, 19, 0, 20, 21], [], [], [], [], [], [], [23, 24, 25, 26, 0, 27, 28], [], [], [], [], [], [], [30, 31, 32, 33, 0, 34, 35], [], [], [], [], [], [], [37, 38, 39, 40, 0, 41, 42], [], [], [], [], [], [], [44, 45, 46, 47, 0, 48, 49], [], [], [], [], [], [], [51], [], [50, 53, 55, 14, 9, 68, 58, 61, 66, 67], [54], [], [56, 57], [], [], [59, 60], [], [], [62, 0, 0, 63, 64, 0, 65], [], [], [], [], [], [], [50], [50, 0, 0, 0, 14, 70], [], [0, 72, 73, 74, 75, 76, 0, 0, 77, 78, 79, 80, 81, 82, 0, 0, 0, 0, 0, 83, 84, 85, 86, 87, 88, 89, 90, 91, 92, 93, 94, 95, 96, 97, 98, 99, 100, 101, 102, 103, 104, 105, 106, 107, 108, 109, 110, 111, 112, 113, 114, 115, 116, 117, 118, 119, 0, 0, 0, 0, 0, 0, 0, 0, 120, 121, 122, 123, 124, 125], [], [], [], [], [], [], [], [], [], [], [], [], [], [], [], [], [], [], [], [], [], [], [], [], [], [], [], [], [], [], [], [], [], [], [], [], [], [], [], [], [], [], [], [], [], [], [], [], [], [], [], [], [], [], []]
def ly_R (p k : Nat) : Nat := (ly_RL.getD p []).getD k 0
/-- the heap: n cells made, u slots used, the ints and longs -/
def ly (n u : Nat) (I : Nat → Nat → Int32) (J : Nat → Nat → Int64) : ez_H := (n, u, ly_T, ly_N, I, J, ly_R)
end
section
/-! PURE WALKS -/
section PW
variable {E : Nat → Nat × (Nat → Int32)} {d : Nat}
abbrev pw (E : Nat → Nat × (Nat → Int32)) : ez_X := ez_Wp E tz_ml tz_hn tz_co
/-- Arrays.fill: every place -/
def pf_fill (f : Nat → Int32) (n : Nat) (v : Int32) : Nat → Int32 := fun j => if j < n then v else f j
theorem pf_fill_step {h : ez_H} {p i : Nat} {v : Int32} : ez_setI (ez_rowI h p (pf_fill (ez_I h p) i v)) p i v = ez_rowI h p (pf_fill (ez_I h p) (i + 1) v) := by
  unfold ez_setI ez_rowI
  simp only [ez_n, ez_u, ez_t, ez_l, ez_I, ez_L, ez_R]
  congr 5
  funext q j
  unfold ez_up2 ez_row pf_fill
  by_cases hq : q = p
  · subst hq
    by_cases hj : j = i
    · subst hj; simp
    · have : (j < i + 1) = (j < i) := by simp; omega
      simp [hj, this]
  · simp [hq]
theorem wp_fill_loop {h : ez_H} {p : Nat} {v : Int32} {Q : ez_Q} (ht : ez_t h p = 1000) (hl : ez_l h p ≤ 200000) (hQ : Q (.inl none) (ez_rowI h p (pf_fill (ez_I h p) (ez_l h p) v))) :
    ∀ (n i : Nat), i + n = ez_l h p → pw E d 149 5 [some (.ref p), some (.int v), some (.int (nI i)), some (.int (nI (ez_l h p)))] [] (ez_rowI h p (pf_fill (ez_I h p) i v)) Q := by
  intro n
  induction n with
  | zero =>
    intro i hi
    have : i = ez_l h p := by omega
    subst this
    apply ez_Wp_in
    show ez_gw _ _ _ _ _ _ cz_149 _ _ _ _ _
    refine ⟨fun c => ?_, fun c => ?_⟩
    · exact ⟨trivial, hQ⟩
    · exact absurd (nI_le (Nat.le_refl _) (by omega)) c
  | succ n ih =>
    intro i hi
    apply ez_Wp_in
    show ez_gw _ _ _ _ _ _ cz_149 _ _ _ _ _
    refine ⟨fun c => ?_, fun c => ?_⟩
    · exact absurd c (nI_ge (by omega) (by omega))
    · refine ⟨⟨ht, vp_in_nI (by show i < ez_l h p; omega) (by show ez_l h p < 2147483648; omega)⟩, ?_⟩
      have e1 : (nI i).toNatClampNeg = i := nI_clamp (by omega)
      have := ih (i + 1) (by omega)
      rw [← pf_fill_step, nI_succ] at this
      show pw E d 149 5 [some (.ref p), some (.int v), some (.int (nI i + 1)), some (.int (nI (ez_l h p)))] [] (ez_setI (ez_rowI h p (pf_fill (ez_I h p) i v)) p (nI i).toNatClampNeg v) Q
      rw [e1]
      exact this
end PW
end
