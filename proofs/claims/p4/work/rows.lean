section
-- ===== PART A: goes FIRST, ahead of the names: the tables' words, and 'selects' of the private methods out of them =====
/-- a private method of a class that the tables say can be made, by its rows of tables_1 -/
def lw_okq (q : MethodName × Nat) : Prop := (q.1.cls ≠ "java/lang/invoke/MethodHandle" ∧ q.1.cls ≠ "java/lang/invoke/VarHandle") ∧ Cond.instantiable q.1.cls q.2 ∈ tables_1 ∧ Cond.privateMethod q.1 ∈ tables_1 ∧ Cond.instanceMethod q.1 ∈ tables_1
theorem lw_p0 : lw_okq (⟨"PaintEditor$Keyboard", "goesOn", "(I)Z"⟩, 7) := ⟨⟨by decide +kernel, by decide +kernel⟩, List.mem_of_getElem? (i := 39) (by decide +kernel), List.mem_of_getElem? (i := 361) (by decide +kernel), List.mem_of_getElem? (i := 362) (by decide +kernel)⟩
theorem lw_p1 : lw_okq (⟨"PaintEditor$Editor", "moveByRow", "(I)V"⟩, 12) := ⟨⟨by decide +kernel, by decide +kernel⟩, List.mem_of_getElem? (i := 68) (by decide +kernel), List.mem_of_getElem? (i := 382) (by decide +kernel), List.mem_of_getElem? (i := 383) (by decide +kernel)⟩
theorem lw_p2 : lw_okq (⟨"PaintEditor$Editor", "insertOne", "(I)V"⟩, 12) := ⟨⟨by decide +kernel, by decide +kernel⟩, List.mem_of_getElem? (i := 68) (by decide +kernel), List.mem_of_getElem? (i := 430) (by decide +kernel), List.mem_of_getElem? (i := 431) (by decide +kernel)⟩
theorem lw_p3 : lw_okq (⟨"PaintEditor$Editor", "insert", "([II)V"⟩, 12) := ⟨⟨by decide +kernel, by decide +kernel⟩, List.mem_of_getElem? (i := 68) (by decide +kernel), List.mem_of_getElem? (i := 434) (by decide +kernel), List.mem_of_getElem? (i := 435) (by decide +kernel)⟩
theorem lw_p4 : lw_okq (⟨"PaintEditor$History", "newSlot", "()I"⟩, 7) := ⟨⟨by decide +kernel, by decide +kernel⟩, List.mem_of_getElem? (i := 91) (by decide +kernel), List.mem_of_getElem? (i := 446) (by decide +kernel), List.mem_of_getElem? (i := 447) (by decide +kernel)⟩
theorem lw_p5 : lw_okq (⟨"PaintEditor$Editor", "command", "(I)V"⟩, 12) := ⟨⟨by decide +kernel, by decide +kernel⟩, List.mem_of_getElem? (i := 68) (by decide +kernel), List.mem_of_getElem? (i := 457) (by decide +kernel), List.mem_of_getElem? (i := 458) (by decide +kernel)⟩
theorem lw_p6 : lw_okq (⟨"PaintEditor$Editor", "removeBetween", "(II)V"⟩, 12) := ⟨⟨by decide +kernel, by decide +kernel⟩, List.mem_of_getElem? (i := 68) (by decide +kernel), List.mem_of_getElem? (i := 467) (by decide +kernel), List.mem_of_getElem? (i := 468) (by decide +kernel)⟩
theorem lw_p7 : lw_okq (⟨"PaintEditor$Editor", "cut", "()V"⟩, 12) := ⟨⟨by decide +kernel, by decide +kernel⟩, List.mem_of_getElem? (i := 68) (by decide +kernel), List.mem_of_getElem? (i := 496) (by decide +kernel), List.mem_of_getElem? (i := 497) (by decide +kernel)⟩
theorem lw_p8 : lw_okq (⟨"PaintEditor$Editor", "undo", "()V"⟩, 12) := ⟨⟨by decide +kernel, by decide +kernel⟩, List.mem_of_getElem? (i := 68) (by decide +kernel), List.mem_of_getElem? (i := 503) (by decide +kernel), List.mem_of_getElem? (i := 504) (by decide +kernel)⟩
theorem lw_p9 : lw_okq (⟨"PaintEditor$Keyboard", "takeInSequence", "(I)I"⟩, 7) := ⟨⟨by decide +kernel, by decide +kernel⟩, List.mem_of_getElem? (i := 39) (by decide +kernel), List.mem_of_getElem? (i := 517) (by decide +kernel), List.mem_of_getElem? (i := 518) (by decide +kernel)⟩
theorem lw_p10 : lw_okq (⟨"PaintEditor$Keyboard", "numberedKey", "()I"⟩, 7) := ⟨⟨by decide +kernel, by decide +kernel⟩, List.mem_of_getElem? (i := 39) (by decide +kernel), List.mem_of_getElem? (i := 528) (by decide +kernel), List.mem_of_getElem? (i := 529) (by decide +kernel)⟩
theorem lw_p11 : lw_okq (⟨"PaintEditor$Keyboard", "takeWithin", "(I)I"⟩, 7) := ⟨⟨by decide +kernel, by decide +kernel⟩, List.mem_of_getElem? (i := 39) (by decide +kernel), List.mem_of_getElem? (i := 535) (by decide +kernel), List.mem_of_getElem? (i := 536) (by decide +kernel)⟩
theorem lw_p12 : lw_okq (⟨"PaintEditor$Keyboard", "takePlain", "(I)I"⟩, 7) := ⟨⟨by decide +kernel, by decide +kernel⟩, List.mem_of_getElem? (i := 39) (by decide +kernel), List.mem_of_getElem? (i := 539) (by decide +kernel), List.mem_of_getElem? (i := 540) (by decide +kernel)⟩
theorem lw_p13 : lw_okq (⟨"PaintEditor$Keyboard", "beginCharacter", "(I)V"⟩, 7) := ⟨⟨by decide +kernel, by decide +kernel⟩, List.mem_of_getElem? (i := 39) (by decide +kernel), List.mem_of_getElem? (i := 543) (by decide +kernel), List.mem_of_getElem? (i := 544) (by decide +kernel)⟩
theorem lw_p14 : lw_okq (⟨"PaintEditor$Terminal", "endWriting", "()V"⟩, 8) := ⟨⟨by decide +kernel, by decide +kernel⟩, List.mem_of_getElem? (i := 285) (by decide +kernel), List.mem_of_getElem? (i := 594) (by decide +kernel), List.mem_of_getElem? (i := 595) (by decide +kernel)⟩
theorem lw_p15 : lw_okq (⟨"PaintEditor$Screen", "follow", "(I)V"⟩, 5) := ⟨⟨by decide +kernel, by decide +kernel⟩, List.mem_of_getElem? (i := 193) (by decide +kernel), List.mem_of_getElem? (i := 611) (by decide +kernel), List.mem_of_getElem? (i := 612) (by decide +kernel)⟩
def lw_privs_1 : List (MethodName × Nat) := [(⟨"PaintEditor$Keyboard", "goesOn", "(I)Z"⟩, 7), (⟨"PaintEditor$Editor", "moveByRow", "(I)V"⟩, 12), (⟨"PaintEditor$Editor", "insertOne", "(I)V"⟩, 12), (⟨"PaintEditor$Editor", "insert", "([II)V"⟩, 12), (⟨"PaintEditor$History", "newSlot", "()I"⟩, 7), (⟨"PaintEditor$Editor", "command", "(I)V"⟩, 12), (⟨"PaintEditor$Editor", "removeBetween", "(II)V"⟩, 12), (⟨"PaintEditor$Editor", "cut", "()V"⟩, 12), (⟨"PaintEditor$Editor", "undo", "()V"⟩, 12), (⟨"PaintEditor$Keyboard", "takeInSequence", "(I)I"⟩, 7), (⟨"PaintEditor$Keyboard", "numberedKey", "()I"⟩, 7), (⟨"PaintEditor$Keyboard", "takeWithin", "(I)I"⟩, 7), (⟨"PaintEditor$Keyboard", "takePlain", "(I)I"⟩, 7), (⟨"PaintEditor$Keyboard", "beginCharacter", "(I)V"⟩, 7), (⟨"PaintEditor$Terminal", "endWriting", "()V"⟩, 8), (⟨"PaintEditor$Screen", "follow", "(I)V"⟩, 5)]
theorem lw_r1 : ∀ q ∈ lw_privs_1, lw_okq q := List.forall_mem_cons.mpr ⟨lw_p0, List.forall_mem_cons.mpr ⟨lw_p1, List.forall_mem_cons.mpr ⟨lw_p2, List.forall_mem_cons.mpr ⟨lw_p3, List.forall_mem_cons.mpr ⟨lw_p4, List.forall_mem_cons.mpr ⟨lw_p5, List.forall_mem_cons.mpr ⟨lw_p6, List.forall_mem_cons.mpr ⟨lw_p7, List.forall_mem_cons.mpr ⟨lw_p8, List.forall_mem_cons.mpr ⟨lw_p9, List.forall_mem_cons.mpr ⟨lw_p10, List.forall_mem_cons.mpr ⟨lw_p11, List.forall_mem_cons.mpr ⟨lw_p12, List.forall_mem_cons.mpr ⟨lw_p13, List.forall_mem_cons.mpr ⟨lw_p14, List.forall_mem_cons.mpr ⟨lw_p15, fun _ h => absurd h List.not_mem_nil⟩⟩⟩⟩⟩⟩⟩⟩⟩⟩⟩⟩⟩⟩⟩⟩
theorem lw_p16 : lw_okq (⟨"PaintEditor$Screen", "showCluster", "(LPaintEditor$Editor;I)V"⟩, 5) := ⟨⟨by decide +kernel, by decide +kernel⟩, List.mem_of_getElem? (i := 193) (by decide +kernel), List.mem_of_getElem? (i := 615) (by decide +kernel), List.mem_of_getElem? (i := 616) (by decide +kernel)⟩
theorem lw_p17 : lw_okq (⟨"PaintEditor$Screen", "showStatus", "(LPaintEditor$Editor;)V"⟩, 5) := ⟨⟨by decide +kernel, by decide +kernel⟩, List.mem_of_getElem? (i := 193) (by decide +kernel), List.mem_of_getElem? (i := 633) (by decide +kernel), List.mem_of_getElem? (i := 634) (by decide +kernel)⟩
theorem lw_p18 : lw_okq (⟨"PaintEditor$Painter", "sendLook", "(I)V"⟩, 3) := ⟨⟨by decide +kernel, by decide +kernel⟩, List.mem_of_getElem? (i := 279) (by decide +kernel), List.mem_of_getElem? (i := 807) (by decide +kernel), List.mem_of_getElem? (i := 808) (by decide +kernel)⟩
theorem lw_p19 : lw_okq (⟨"PaintEditor$Painter", "sendSequence", "(III)V"⟩, 3) := ⟨⟨by decide +kernel, by decide +kernel⟩, List.mem_of_getElem? (i := 279) (by decide +kernel), List.mem_of_getElem? (i := 811) (by decide +kernel), List.mem_of_getElem? (i := 812) (by decide +kernel)⟩
theorem lw_p20 : lw_okq (⟨"PaintEditor$Painter", "put", "(I)V"⟩, 3) := ⟨⟨by decide +kernel, by decide +kernel⟩, List.mem_of_getElem? (i := 279) (by decide +kernel), List.mem_of_getElem? (i := 815) (by decide +kernel), List.mem_of_getElem? (i := 816) (by decide +kernel)⟩
theorem lw_p21 : lw_okq (⟨"PaintEditor$Painter", "putNumber", "(I)V"⟩, 3) := ⟨⟨by decide +kernel, by decide +kernel⟩, List.mem_of_getElem? (i := 279) (by decide +kernel), List.mem_of_getElem? (i := 819) (by decide +kernel), List.mem_of_getElem? (i := 820) (by decide +kernel)⟩
theorem lw_p22 : lw_okq (⟨"PaintEditor$Painter", "firstDifference", "(LPaintEditor$Grid;I)I"⟩, 3) := ⟨⟨by decide +kernel, by decide +kernel⟩, List.mem_of_getElem? (i := 279) (by decide +kernel), List.mem_of_getElem? (i := 832) (by decide +kernel), List.mem_of_getElem? (i := 833) (by decide +kernel)⟩
theorem lw_p23 : lw_okq (⟨"PaintEditor$Painter", "differs", "(LPaintEditor$Grid;II)Z"⟩, 3) := ⟨⟨by decide +kernel, by decide +kernel⟩, List.mem_of_getElem? (i := 279) (by decide +kernel), List.mem_of_getElem? (i := 836) (by decide +kernel), List.mem_of_getElem? (i := 837) (by decide +kernel)⟩
theorem lw_p24 : lw_okq (⟨"PaintEditor$Painter", "lastDifference", "(LPaintEditor$Grid;I)I"⟩, 3) := ⟨⟨by decide +kernel, by decide +kernel⟩, List.mem_of_getElem? (i := 279) (by decide +kernel), List.mem_of_getElem? (i := 845) (by decide +kernel), List.mem_of_getElem? (i := 846) (by decide +kernel)⟩
theorem lw_p25 : lw_okq (⟨"PaintEditor$Painter", "sendCluster", "(IIII)V"⟩, 3) := ⟨⟨by decide +kernel, by decide +kernel⟩, List.mem_of_getElem? (i := 279) (by decide +kernel), List.mem_of_getElem? (i := 858) (by decide +kernel), List.mem_of_getElem? (i := 859) (by decide +kernel)⟩
theorem lw_p26 : lw_okq (⟨"PaintEditor$Painter", "sendPlace", "(II)V"⟩, 3) := ⟨⟨by decide +kernel, by decide +kernel⟩, List.mem_of_getElem? (i := 279) (by decide +kernel), List.mem_of_getElem? (i := 864) (by decide +kernel), List.mem_of_getElem? (i := 865) (by decide +kernel)⟩
theorem lw_p27 : lw_okq (⟨"PaintEditor$Painter", "sendCharacter", "(I)V"⟩, 3) := ⟨⟨by decide +kernel, by decide +kernel⟩, List.mem_of_getElem? (i := 279) (by decide +kernel), List.mem_of_getElem? (i := 873) (by decide +kernel), List.mem_of_getElem? (i := 874) (by decide +kernel)⟩
theorem lw_p28 : lw_okq (⟨"PaintEditor$Terminal", "joins", "(I)Z"⟩, 8) := ⟨⟨by decide +kernel, by decide +kernel⟩, List.mem_of_getElem? (i := 285) (by decide +kernel), List.mem_of_getElem? (i := 882) (by decide +kernel), List.mem_of_getElem? (i := 883) (by decide +kernel)⟩
theorem lw_p29 : lw_okq (⟨"PaintEditor$Terminal", "writeCells", "(I)V"⟩, 8) := ⟨⟨by decide +kernel, by decide +kernel⟩, List.mem_of_getElem? (i := 285) (by decide +kernel), List.mem_of_getElem? (i := 895) (by decide +kernel), List.mem_of_getElem? (i := 896) (by decide +kernel)⟩
theorem lw_p30 : lw_okq (⟨"PaintEditorModel", "take", "(I)V"⟩, 44) := ⟨⟨by decide +kernel, by decide +kernel⟩, List.mem_of_getElem? (i := 943) (by decide +kernel), List.mem_of_getElem? (i := 1087) (by decide +kernel), List.mem_of_getElem? (i := 1088) (by decide +kernel)⟩
theorem lw_p31 : lw_okq (⟨"PaintEditorModel", "within", "(II)V"⟩, 44) := ⟨⟨by decide +kernel, by decide +kernel⟩, List.mem_of_getElem? (i := 943) (by decide +kernel), List.mem_of_getElem? (i := 1091) (by decide +kernel), List.mem_of_getElem? (i := 1092) (by decide +kernel)⟩
def lw_privs_2 : List (MethodName × Nat) := [(⟨"PaintEditor$Screen", "showCluster", "(LPaintEditor$Editor;I)V"⟩, 5), (⟨"PaintEditor$Screen", "showStatus", "(LPaintEditor$Editor;)V"⟩, 5), (⟨"PaintEditor$Painter", "sendLook", "(I)V"⟩, 3), (⟨"PaintEditor$Painter", "sendSequence", "(III)V"⟩, 3), (⟨"PaintEditor$Painter", "put", "(I)V"⟩, 3), (⟨"PaintEditor$Painter", "putNumber", "(I)V"⟩, 3), (⟨"PaintEditor$Painter", "firstDifference", "(LPaintEditor$Grid;I)I"⟩, 3), (⟨"PaintEditor$Painter", "differs", "(LPaintEditor$Grid;II)Z"⟩, 3), (⟨"PaintEditor$Painter", "lastDifference", "(LPaintEditor$Grid;I)I"⟩, 3), (⟨"PaintEditor$Painter", "sendCluster", "(IIII)V"⟩, 3), (⟨"PaintEditor$Painter", "sendPlace", "(II)V"⟩, 3), (⟨"PaintEditor$Painter", "sendCharacter", "(I)V"⟩, 3), (⟨"PaintEditor$Terminal", "joins", "(I)Z"⟩, 8), (⟨"PaintEditor$Terminal", "writeCells", "(I)V"⟩, 8), (⟨"PaintEditorModel", "take", "(I)V"⟩, 44), (⟨"PaintEditorModel", "within", "(II)V"⟩, 44)]
theorem lw_r2 : ∀ q ∈ lw_privs_2, lw_okq q := List.forall_mem_cons.mpr ⟨lw_p16, List.forall_mem_cons.mpr ⟨lw_p17, List.forall_mem_cons.mpr ⟨lw_p18, List.forall_mem_cons.mpr ⟨lw_p19, List.forall_mem_cons.mpr ⟨lw_p20, List.forall_mem_cons.mpr ⟨lw_p21, List.forall_mem_cons.mpr ⟨lw_p22, List.forall_mem_cons.mpr ⟨lw_p23, List.forall_mem_cons.mpr ⟨lw_p24, List.forall_mem_cons.mpr ⟨lw_p25, List.forall_mem_cons.mpr ⟨lw_p26, List.forall_mem_cons.mpr ⟨lw_p27, List.forall_mem_cons.mpr ⟨lw_p28, List.forall_mem_cons.mpr ⟨lw_p29, List.forall_mem_cons.mpr ⟨lw_p30, List.forall_mem_cons.mpr ⟨lw_p31, fun _ h => absurd h List.not_mem_nil⟩⟩⟩⟩⟩⟩⟩⟩⟩⟩⟩⟩⟩⟩⟩⟩
theorem lw_p32 : lw_okq (⟨"PaintEditorModel", "character", "(I)V"⟩, 44) := ⟨⟨by decide +kernel, by decide +kernel⟩, List.mem_of_getElem? (i := 943) (by decide +kernel), List.mem_of_getElem? (i := 1096) (by decide +kernel), List.mem_of_getElem? (i := 1097) (by decide +kernel)⟩
theorem lw_p33 : lw_okq (⟨"PaintEditorModel", "insertOne", "(I)V"⟩, 44) := ⟨⟨by decide +kernel, by decide +kernel⟩, List.mem_of_getElem? (i := 943) (by decide +kernel), List.mem_of_getElem? (i := 1100) (by decide +kernel), List.mem_of_getElem? (i := 1101) (by decide +kernel)⟩
theorem lw_p34 : lw_okq (⟨"PaintEditorModel", "note", "(III)V"⟩, 44) := ⟨⟨by decide +kernel, by decide +kernel⟩, List.mem_of_getElem? (i := 943) (by decide +kernel), List.mem_of_getElem? (i := 1104) (by decide +kernel), List.mem_of_getElem? (i := 1105) (by decide +kernel)⟩
theorem lw_p35 : lw_okq (⟨"PaintEditorModel", "forgetFirst", "()V"⟩, 44) := ⟨⟨by decide +kernel, by decide +kernel⟩, List.mem_of_getElem? (i := 943) (by decide +kernel), List.mem_of_getElem? (i := 1108) (by decide +kernel), List.mem_of_getElem? (i := 1109) (by decide +kernel)⟩
theorem lw_p36 : lw_okq (⟨"PaintEditorModel", "open", "(II)V"⟩, 44) := ⟨⟨by decide +kernel, by decide +kernel⟩, List.mem_of_getElem? (i := 943) (by decide +kernel), List.mem_of_getElem? (i := 1112) (by decide +kernel), List.mem_of_getElem? (i := 1113) (by decide +kernel)⟩
theorem lw_p37 : lw_okq (⟨"PaintEditorModel", "settle", "(I)V"⟩, 44) := ⟨⟨by decide +kernel, by decide +kernel⟩, List.mem_of_getElem? (i := 943) (by decide +kernel), List.mem_of_getElem? (i := 1116) (by decide +kernel), List.mem_of_getElem? (i := 1117) (by decide +kernel)⟩
theorem lw_p38 : lw_okq (⟨"PaintEditorModel", "begins", "(I)Z"⟩, 44) := ⟨⟨by decide +kernel, by decide +kernel⟩, List.mem_of_getElem? (i := 943) (by decide +kernel), List.mem_of_getElem? (i := 1120) (by decide +kernel), List.mem_of_getElem? (i := 1121) (by decide +kernel)⟩
theorem lw_p39 : lw_okq (⟨"PaintEditorModel", "plain", "(II)V"⟩, 44) := ⟨⟨by decide +kernel, by decide +kernel⟩, List.mem_of_getElem? (i := 943) (by decide +kernel), List.mem_of_getElem? (i := 1127) (by decide +kernel), List.mem_of_getElem? (i := 1128) (by decide +kernel)⟩
theorem lw_p40 : lw_okq (⟨"PaintEditorModel", "control", "(II)V"⟩, 44) := ⟨⟨by decide +kernel, by decide +kernel⟩, List.mem_of_getElem? (i := 943) (by decide +kernel), List.mem_of_getElem? (i := 1131) (by decide +kernel), List.mem_of_getElem? (i := 1132) (by decide +kernel)⟩
theorem lw_p41 : lw_okq (⟨"PaintEditorModel", "command", "(I)V"⟩, 44) := ⟨⟨by decide +kernel, by decide +kernel⟩, List.mem_of_getElem? (i := 943) (by decide +kernel), List.mem_of_getElem? (i := 1135) (by decide +kernel), List.mem_of_getElem? (i := 1136) (by decide +kernel)⟩
theorem lw_p42 : lw_okq (⟨"PaintEditorModel", "cutOut", "()V"⟩, 44) := ⟨⟨by decide +kernel, by decide +kernel⟩, List.mem_of_getElem? (i := 943) (by decide +kernel), List.mem_of_getElem? (i := 1139) (by decide +kernel), List.mem_of_getElem? (i := 1140) (by decide +kernel)⟩
theorem lw_p43 : lw_okq (⟨"PaintEditorModel", "takeAway", "(II)V"⟩, 44) := ⟨⟨by decide +kernel, by decide +kernel⟩, List.mem_of_getElem? (i := 943) (by decide +kernel), List.mem_of_getElem? (i := 1143) (by decide +kernel), List.mem_of_getElem? (i := 1144) (by decide +kernel)⟩
theorem lw_p44 : lw_okq (⟨"PaintEditorModel", "close", "(II)V"⟩, 44) := ⟨⟨by decide +kernel, by decide +kernel⟩, List.mem_of_getElem? (i := 943) (by decide +kernel), List.mem_of_getElem? (i := 1147) (by decide +kernel), List.mem_of_getElem? (i := 1148) (by decide +kernel)⟩
theorem lw_p45 : lw_okq (⟨"PaintEditorModel", "insertClip", "()V"⟩, 44) := ⟨⟨by decide +kernel, by decide +kernel⟩, List.mem_of_getElem? (i := 943) (by decide +kernel), List.mem_of_getElem? (i := 1151) (by decide +kernel), List.mem_of_getElem? (i := 1152) (by decide +kernel)⟩
theorem lw_p46 : lw_okq (⟨"PaintEditorModel", "undo", "()V"⟩, 44) := ⟨⟨by decide +kernel, by decide +kernel⟩, List.mem_of_getElem? (i := 943) (by decide +kernel), List.mem_of_getElem? (i := 1155) (by decide +kernel), List.mem_of_getElem? (i := 1156) (by decide +kernel)⟩
theorem lw_p47 : lw_okq (⟨"PaintEditorModel", "before", "(I)I"⟩, 44) := ⟨⟨by decide +kernel, by decide +kernel⟩, List.mem_of_getElem? (i := 943) (by decide +kernel), List.mem_of_getElem? (i := 1159) (by decide +kernel), List.mem_of_getElem? (i := 1160) (by decide +kernel)⟩
def lw_privs_3 : List (MethodName × Nat) := [(⟨"PaintEditorModel", "character", "(I)V"⟩, 44), (⟨"PaintEditorModel", "insertOne", "(I)V"⟩, 44), (⟨"PaintEditorModel", "note", "(III)V"⟩, 44), (⟨"PaintEditorModel", "forgetFirst", "()V"⟩, 44), (⟨"PaintEditorModel", "open", "(II)V"⟩, 44), (⟨"PaintEditorModel", "settle", "(I)V"⟩, 44), (⟨"PaintEditorModel", "begins", "(I)Z"⟩, 44), (⟨"PaintEditorModel", "plain", "(II)V"⟩, 44), (⟨"PaintEditorModel", "control", "(II)V"⟩, 44), (⟨"PaintEditorModel", "command", "(I)V"⟩, 44), (⟨"PaintEditorModel", "cutOut", "()V"⟩, 44), (⟨"PaintEditorModel", "takeAway", "(II)V"⟩, 44), (⟨"PaintEditorModel", "close", "(II)V"⟩, 44), (⟨"PaintEditorModel", "insertClip", "()V"⟩, 44), (⟨"PaintEditorModel", "undo", "()V"⟩, 44), (⟨"PaintEditorModel", "before", "(I)I"⟩, 44)]
theorem lw_r3 : ∀ q ∈ lw_privs_3, lw_okq q := List.forall_mem_cons.mpr ⟨lw_p32, List.forall_mem_cons.mpr ⟨lw_p33, List.forall_mem_cons.mpr ⟨lw_p34, List.forall_mem_cons.mpr ⟨lw_p35, List.forall_mem_cons.mpr ⟨lw_p36, List.forall_mem_cons.mpr ⟨lw_p37, List.forall_mem_cons.mpr ⟨lw_p38, List.forall_mem_cons.mpr ⟨lw_p39, List.forall_mem_cons.mpr ⟨lw_p40, List.forall_mem_cons.mpr ⟨lw_p41, List.forall_mem_cons.mpr ⟨lw_p42, List.forall_mem_cons.mpr ⟨lw_p43, List.forall_mem_cons.mpr ⟨lw_p44, List.forall_mem_cons.mpr ⟨lw_p45, List.forall_mem_cons.mpr ⟨lw_p46, List.forall_mem_cons.mpr ⟨lw_p47, fun _ h => absurd h List.not_mem_nil⟩⟩⟩⟩⟩⟩⟩⟩⟩⟩⟩⟩⟩⟩⟩⟩
theorem lw_p48 : lw_okq (⟨"PaintEditorModel", "inSequence", "(II)V"⟩, 44) := ⟨⟨by decide +kernel, by decide +kernel⟩, List.mem_of_getElem? (i := 943) (by decide +kernel), List.mem_of_getElem? (i := 1163) (by decide +kernel), List.mem_of_getElem? (i := 1164) (by decide +kernel)⟩
theorem lw_p49 : lw_okq (⟨"PaintEditorModel", "finish", "(I)V"⟩, 44) := ⟨⟨by decide +kernel, by decide +kernel⟩, List.mem_of_getElem? (i := 943) (by decide +kernel), List.mem_of_getElem? (i := 1167) (by decide +kernel), List.mem_of_getElem? (i := 1168) (by decide +kernel)⟩
theorem lw_p50 : lw_okq (⟨"PaintEditorModel", "upOrDown", "(I)V"⟩, 44) := ⟨⟨by decide +kernel, by decide +kernel⟩, List.mem_of_getElem? (i := 943) (by decide +kernel), List.mem_of_getElem? (i := 1171) (by decide +kernel), List.mem_of_getElem? (i := 1172) (by decide +kernel)⟩
theorem lw_p51 : lw_okq (⟨"PaintEditorModel", "layOut", "()V"⟩, 44) := ⟨⟨by decide +kernel, by decide +kernel⟩, List.mem_of_getElem? (i := 943) (by decide +kernel), List.mem_of_getElem? (i := 1175) (by decide +kernel), List.mem_of_getElem? (i := 1176) (by decide +kernel)⟩
theorem lw_p52 : lw_okq (⟨"PaintEditorModel", "widthOf", "(II)I"⟩, 44) := ⟨⟨by decide +kernel, by decide +kernel⟩, List.mem_of_getElem? (i := 943) (by decide +kernel), List.mem_of_getElem? (i := 1179) (by decide +kernel), List.mem_of_getElem? (i := 1180) (by decide +kernel)⟩
theorem lw_p53 : lw_okq (⟨"PaintEditorModel", "after", "(I)I"⟩, 44) := ⟨⟨by decide +kernel, by decide +kernel⟩, List.mem_of_getElem? (i := 943) (by decide +kernel), List.mem_of_getElem? (i := 1189) (by decide +kernel), List.mem_of_getElem? (i := 1190) (by decide +kernel)⟩
theorem lw_p54 : lw_okq (⟨"PaintEditorModel", "lineBegin", "()I"⟩, 44) := ⟨⟨by decide +kernel, by decide +kernel⟩, List.mem_of_getElem? (i := 943) (by decide +kernel), List.mem_of_getElem? (i := 1193) (by decide +kernel), List.mem_of_getElem? (i := 1194) (by decide +kernel)⟩
theorem lw_p55 : lw_okq (⟨"PaintEditorModel", "lineEnd", "()I"⟩, 44) := ⟨⟨by decide +kernel, by decide +kernel⟩, List.mem_of_getElem? (i := 943) (by decide +kernel), List.mem_of_getElem? (i := 1197) (by decide +kernel), List.mem_of_getElem? (i := 1198) (by decide +kernel)⟩
theorem lw_p56 : lw_okq (⟨"PaintEditorModel", "escapeKey", "()V"⟩, 44) := ⟨⟨by decide +kernel, by decide +kernel⟩, List.mem_of_getElem? (i := 943) (by decide +kernel), List.mem_of_getElem? (i := 1201) (by decide +kernel), List.mem_of_getElem? (i := 1202) (by decide +kernel)⟩
theorem lw_p57 : lw_okq (⟨"PaintEditorModel", "compose", "()V"⟩, 44) := ⟨⟨by decide +kernel, by decide +kernel⟩, List.mem_of_getElem? (i := 943) (by decide +kernel), List.mem_of_getElem? (i := 1213) (by decide +kernel), List.mem_of_getElem? (i := 1214) (by decide +kernel)⟩
theorem lw_p58 : lw_okq (⟨"PaintEditorModel", "isSmall", "()Z"⟩, 44) := ⟨⟨by decide +kernel, by decide +kernel⟩, List.mem_of_getElem? (i := 943) (by decide +kernel), List.mem_of_getElem? (i := 1217) (by decide +kernel), List.mem_of_getElem? (i := 1218) (by decide +kernel)⟩
theorem lw_p59 : lw_okq (⟨"PaintEditorModel", "fillText", "()V"⟩, 44) := ⟨⟨by decide +kernel, by decide +kernel⟩, List.mem_of_getElem? (i := 943) (by decide +kernel), List.mem_of_getElem? (i := 1221) (by decide +kernel), List.mem_of_getElem? (i := 1222) (by decide +kernel)⟩
theorem lw_p60 : lw_okq (⟨"PaintEditorModel", "clusterAt", "(I)I"⟩, 44) := ⟨⟨by decide +kernel, by decide +kernel⟩, List.mem_of_getElem? (i := 943) (by decide +kernel), List.mem_of_getElem? (i := 1225) (by decide +kernel), List.mem_of_getElem? (i := 1226) (by decide +kernel)⟩
theorem lw_p61 : lw_okq (⟨"PaintEditorModel", "fillStatus", "()V"⟩, 44) := ⟨⟨by decide +kernel, by decide +kernel⟩, List.mem_of_getElem? (i := 943) (by decide +kernel), List.mem_of_getElem? (i := 1231) (by decide +kernel), List.mem_of_getElem? (i := 1232) (by decide +kernel)⟩
theorem lw_p62 : lw_okq (⟨"PaintEditorModel", "statusNumber", "(II)I"⟩, 44) := ⟨⟨by decide +kernel, by decide +kernel⟩, List.mem_of_getElem? (i := 943) (by decide +kernel), List.mem_of_getElem? (i := 1235) (by decide +kernel), List.mem_of_getElem? (i := 1236) (by decide +kernel)⟩
theorem lw_p63 : lw_okq (⟨"PaintEditorModel", "status", "(II)I"⟩, 44) := ⟨⟨by decide +kernel, by decide +kernel⟩, List.mem_of_getElem? (i := 943) (by decide +kernel), List.mem_of_getElem? (i := 1239) (by decide +kernel), List.mem_of_getElem? (i := 1240) (by decide +kernel)⟩
def lw_privs_4 : List (MethodName × Nat) := [(⟨"PaintEditorModel", "inSequence", "(II)V"⟩, 44), (⟨"PaintEditorModel", "finish", "(I)V"⟩, 44), (⟨"PaintEditorModel", "upOrDown", "(I)V"⟩, 44), (⟨"PaintEditorModel", "layOut", "()V"⟩, 44), (⟨"PaintEditorModel", "widthOf", "(II)I"⟩, 44), (⟨"PaintEditorModel", "after", "(I)I"⟩, 44), (⟨"PaintEditorModel", "lineBegin", "()I"⟩, 44), (⟨"PaintEditorModel", "lineEnd", "()I"⟩, 44), (⟨"PaintEditorModel", "escapeKey", "()V"⟩, 44), (⟨"PaintEditorModel", "compose", "()V"⟩, 44), (⟨"PaintEditorModel", "isSmall", "()Z"⟩, 44), (⟨"PaintEditorModel", "fillText", "()V"⟩, 44), (⟨"PaintEditorModel", "clusterAt", "(I)I"⟩, 44), (⟨"PaintEditorModel", "fillStatus", "()V"⟩, 44), (⟨"PaintEditorModel", "statusNumber", "(II)I"⟩, 44), (⟨"PaintEditorModel", "status", "(II)I"⟩, 44)]
theorem lw_r4 : ∀ q ∈ lw_privs_4, lw_okq q := List.forall_mem_cons.mpr ⟨lw_p48, List.forall_mem_cons.mpr ⟨lw_p49, List.forall_mem_cons.mpr ⟨lw_p50, List.forall_mem_cons.mpr ⟨lw_p51, List.forall_mem_cons.mpr ⟨lw_p52, List.forall_mem_cons.mpr ⟨lw_p53, List.forall_mem_cons.mpr ⟨lw_p54, List.forall_mem_cons.mpr ⟨lw_p55, List.forall_mem_cons.mpr ⟨lw_p56, List.forall_mem_cons.mpr ⟨lw_p57, List.forall_mem_cons.mpr ⟨lw_p58, List.forall_mem_cons.mpr ⟨lw_p59, List.forall_mem_cons.mpr ⟨lw_p60, List.forall_mem_cons.mpr ⟨lw_p61, List.forall_mem_cons.mpr ⟨lw_p62, List.forall_mem_cons.mpr ⟨lw_p63, fun _ h => absurd h List.not_mem_nil⟩⟩⟩⟩⟩⟩⟩⟩⟩⟩⟩⟩⟩⟩⟩⟩
theorem lw_p64 : lw_okq (⟨"PaintEditorModel", "setLook", "(I)V"⟩, 44) := ⟨⟨by decide +kernel, by decide +kernel⟩, List.mem_of_getElem? (i := 943) (by decide +kernel), List.mem_of_getElem? (i := 1243) (by decide +kernel), List.mem_of_getElem? (i := 1244) (by decide +kernel)⟩
theorem lw_p65 : lw_okq (⟨"PaintEditorModel", "putBegin", "()V"⟩, 44) := ⟨⟨by decide +kernel, by decide +kernel⟩, List.mem_of_getElem? (i := 943) (by decide +kernel), List.mem_of_getElem? (i := 1247) (by decide +kernel), List.mem_of_getElem? (i := 1248) (by decide +kernel)⟩
theorem lw_p66 : lw_okq (⟨"PaintEditorModel", "put", "(I)V"⟩, 44) := ⟨⟨by decide +kernel, by decide +kernel⟩, List.mem_of_getElem? (i := 943) (by decide +kernel), List.mem_of_getElem? (i := 1251) (by decide +kernel), List.mem_of_getElem? (i := 1252) (by decide +kernel)⟩
theorem lw_p67 : lw_okq (⟨"PaintEditorModel", "drawRow", "(I)V"⟩, 44) := ⟨⟨by decide +kernel, by decide +kernel⟩, List.mem_of_getElem? (i := 943) (by decide +kernel), List.mem_of_getElem? (i := 1255) (by decide +kernel), List.mem_of_getElem? (i := 1256) (by decide +kernel)⟩
theorem lw_p68 : lw_okq (⟨"PaintEditorModel", "differs", "(I)Z"⟩, 44) := ⟨⟨by decide +kernel, by decide +kernel⟩, List.mem_of_getElem? (i := 943) (by decide +kernel), List.mem_of_getElem? (i := 1259) (by decide +kernel), List.mem_of_getElem? (i := 1260) (by decide +kernel)⟩
theorem lw_p69 : lw_okq (⟨"PaintEditorModel", "sendClusters", "(III)V"⟩, 44) := ⟨⟨by decide +kernel, by decide +kernel⟩, List.mem_of_getElem? (i := 943) (by decide +kernel), List.mem_of_getElem? (i := 1263) (by decide +kernel), List.mem_of_getElem? (i := 1264) (by decide +kernel)⟩
theorem lw_p70 : lw_okq (⟨"PaintEditorModel", "sendCluster", "(II)V"⟩, 44) := ⟨⟨by decide +kernel, by decide +kernel⟩, List.mem_of_getElem? (i := 943) (by decide +kernel), List.mem_of_getElem? (i := 1267) (by decide +kernel), List.mem_of_getElem? (i := 1268) (by decide +kernel)⟩
theorem lw_p71 : lw_okq (⟨"PaintEditorModel", "go", "(IIZ)V"⟩, 44) := ⟨⟨by decide +kernel, by decide +kernel⟩, List.mem_of_getElem? (i := 943) (by decide +kernel), List.mem_of_getElem? (i := 1272) (by decide +kernel), List.mem_of_getElem? (i := 1273) (by decide +kernel)⟩
theorem lw_p72 : lw_okq (⟨"PaintEditorModel", "sendPlace", "(II)V"⟩, 44) := ⟨⟨by decide +kernel, by decide +kernel⟩, List.mem_of_getElem? (i := 943) (by decide +kernel), List.mem_of_getElem? (i := 1276) (by decide +kernel), List.mem_of_getElem? (i := 1277) (by decide +kernel)⟩
theorem lw_p73 : lw_okq (⟨"PaintEditorModel", "putNumber", "(I)V"⟩, 44) := ⟨⟨by decide +kernel, by decide +kernel⟩, List.mem_of_getElem? (i := 943) (by decide +kernel), List.mem_of_getElem? (i := 1280) (by decide +kernel), List.mem_of_getElem? (i := 1281) (by decide +kernel)⟩
theorem lw_p74 : lw_okq (⟨"PaintEditorModel", "write", "(I)V"⟩, 44) := ⟨⟨by decide +kernel, by decide +kernel⟩, List.mem_of_getElem? (i := 943) (by decide +kernel), List.mem_of_getElem? (i := 1284) (by decide +kernel), List.mem_of_getElem? (i := 1285) (by decide +kernel)⟩
theorem lw_p75 : lw_okq (⟨"PaintEditorModel", "putCode", "(I)V"⟩, 44) := ⟨⟨by decide +kernel, by decide +kernel⟩, List.mem_of_getElem? (i := 943) (by decide +kernel), List.mem_of_getElem? (i := 1288) (by decide +kernel), List.mem_of_getElem? (i := 1289) (by decide +kernel)⟩
theorem lw_p76 : lw_okq (⟨"PaintEditorModel", "blankHalf", "(I)V"⟩, 44) := ⟨⟨by decide +kernel, by decide +kernel⟩, List.mem_of_getElem? (i := 943) (by decide +kernel), List.mem_of_getElem? (i := 1292) (by decide +kernel), List.mem_of_getElem? (i := 1293) (by decide +kernel)⟩
theorem lw_p77 : lw_okq (⟨"PaintEditorModel", "isCell", "(II)Z"⟩, 44) := ⟨⟨by decide +kernel, by decide +kernel⟩, List.mem_of_getElem? (i := 943) (by decide +kernel), List.mem_of_getElem? (i := 1312) (by decide +kernel), List.mem_of_getElem? (i := 1313) (by decide +kernel)⟩
def lw_privs_5 : List (MethodName × Nat) := [(⟨"PaintEditorModel", "setLook", "(I)V"⟩, 44), (⟨"PaintEditorModel", "putBegin", "()V"⟩, 44), (⟨"PaintEditorModel", "put", "(I)V"⟩, 44), (⟨"PaintEditorModel", "drawRow", "(I)V"⟩, 44), (⟨"PaintEditorModel", "differs", "(I)Z"⟩, 44), (⟨"PaintEditorModel", "sendClusters", "(III)V"⟩, 44), (⟨"PaintEditorModel", "sendCluster", "(II)V"⟩, 44), (⟨"PaintEditorModel", "go", "(IIZ)V"⟩, 44), (⟨"PaintEditorModel", "sendPlace", "(II)V"⟩, 44), (⟨"PaintEditorModel", "putNumber", "(I)V"⟩, 44), (⟨"PaintEditorModel", "write", "(I)V"⟩, 44), (⟨"PaintEditorModel", "putCode", "(I)V"⟩, 44), (⟨"PaintEditorModel", "blankHalf", "(I)V"⟩, 44), (⟨"PaintEditorModel", "isCell", "(II)Z"⟩, 44)]
theorem lw_r5 : ∀ q ∈ lw_privs_5, lw_okq q := List.forall_mem_cons.mpr ⟨lw_p64, List.forall_mem_cons.mpr ⟨lw_p65, List.forall_mem_cons.mpr ⟨lw_p66, List.forall_mem_cons.mpr ⟨lw_p67, List.forall_mem_cons.mpr ⟨lw_p68, List.forall_mem_cons.mpr ⟨lw_p69, List.forall_mem_cons.mpr ⟨lw_p70, List.forall_mem_cons.mpr ⟨lw_p71, List.forall_mem_cons.mpr ⟨lw_p72, List.forall_mem_cons.mpr ⟨lw_p73, List.forall_mem_cons.mpr ⟨lw_p74, List.forall_mem_cons.mpr ⟨lw_p75, List.forall_mem_cons.mpr ⟨lw_p76, List.forall_mem_cons.mpr ⟨lw_p77, fun _ h => absurd h List.not_mem_nil⟩⟩⟩⟩⟩⟩⟩⟩⟩⟩⟩⟩⟩⟩
def lw_privs : List (MethodName × Nat) := lw_privs_1 ++ (lw_privs_2 ++ (lw_privs_3 ++ (lw_privs_4 ++ (lw_privs_5))))
def lw_tbl : List Cond := k2_sels lw_privs ++ tables_1
theorem lw_privs_ok : ∀ q ∈ lw_privs, lw_okq q := by
  show ∀ q ∈ lw_privs_1 ++ (lw_privs_2 ++ (lw_privs_3 ++ (lw_privs_4 ++ (lw_privs_5)))), lw_okq q
  exact List.forall_mem_append.mpr ⟨lw_r1, List.forall_mem_append.mpr ⟨lw_r2, List.forall_mem_append.mpr ⟨lw_r3, List.forall_mem_append.mpr ⟨lw_r4, lw_r5⟩⟩⟩⟩
end
section
theorem d_C_isMark_0 : decode prog_2_method_2_code 0 = .ok (.iload_n 0, 1) := by decide +kernel
theorem d_C_isMark_1 : decode prog_2_method_2_code 1 = .ok (.sipush 768, 3) := by decide +kernel
theorem d_C_isMark_4 : decode prog_2_method_2_code 4 = .ok (.if_icmp .lt 14, 3) := by decide +kernel
theorem d_C_isMark_7 : decode prog_2_method_2_code 7 = .ok (.iload_n 0, 1) := by decide +kernel
theorem d_C_isMark_8 : decode prog_2_method_2_code 8 = .ok (.sipush 879, 3) := by decide +kernel
theorem d_C_isMark_11 : decode prog_2_method_2_code 11 = .ok (.if_icmp .gt 7, 3) := by decide +kernel
theorem d_C_isMark_14 : decode prog_2_method_2_code 14 = .ok (.iconst 1, 1) := by decide +kernel
theorem d_C_isMark_15 : decode prog_2_method_2_code 15 = .ok (.goto 4, 3) := by decide +kernel
theorem d_C_isMark_18 : decode prog_2_method_2_code 18 = .ok (.iconst 0, 1) := by decide +kernel
theorem d_C_isMark_19 : decode prog_2_method_2_code 19 = .ok (.ireturn, 1) := by decide +kernel
theorem d_C_takesMarks_0 : decode prog_2_method_3_code 0 = .ok (.iload_n 0, 1) := by decide +kernel
theorem d_C_takesMarks_1 : decode prog_2_method_3_code 1 = .ok (.bipush 32, 2) := by decide +kernel
theorem d_C_takesMarks_3 : decode prog_2_method_3_code 3 = .ok (.if_icmp .lt 14, 3) := by decide +kernel
theorem d_C_takesMarks_6 : decode prog_2_method_3_code 6 = .ok (.iload_n 0, 1) := by decide +kernel
theorem d_C_takesMarks_7 : decode prog_2_method_3_code 7 = .ok (.invokestatic 9, 3) := by decide +kernel
theorem d_C_takesMarks_10 : decode prog_2_method_3_code 10 = .ok (.ifCond .ne 7, 3) := by decide +kernel
theorem d_C_takesMarks_13 : decode prog_2_method_3_code 13 = .ok (.iconst 1, 1) := by decide +kernel
theorem d_C_takesMarks_14 : decode prog_2_method_3_code 14 = .ok (.goto 4, 3) := by decide +kernel
theorem d_C_takesMarks_17 : decode prog_2_method_3_code 17 = .ok (.iconst 0, 1) := by decide +kernel
theorem d_C_takesMarks_18 : decode prog_2_method_3_code 18 = .ok (.ireturn, 1) := by decide +kernel
theorem d_C_isWide_0 : decode prog_2_method_4_code 0 = .ok (.iload_n 0, 1) := by decide +kernel
theorem d_C_isWide_1 : decode prog_2_method_4_code 1 = .ok (.sipush 11904, 3) := by decide +kernel
theorem d_C_isWide_4 : decode prog_2_method_4_code 4 = .ok (.if_icmp .lt 9, 3) := by decide +kernel
theorem d_C_isWide_7 : decode prog_2_method_4_code 7 = .ok (.iload_n 0, 1) := by decide +kernel
theorem d_C_isWide_8 : decode prog_2_method_4_code 8 = .ok (.ldc 15, 2) := by decide +kernel
theorem d_C_isWide_10 : decode prog_2_method_4_code 10 = .ok (.if_icmp .le 15, 3) := by decide +kernel
theorem d_C_isWide_13 : decode prog_2_method_4_code 13 = .ok (.iload_n 0, 1) := by decide +kernel
theorem d_C_isWide_14 : decode prog_2_method_4_code 14 = .ok (.ldc 16, 2) := by decide +kernel
theorem d_C_isWide_16 : decode prog_2_method_4_code 16 = .ok (.if_icmp .lt 13, 3) := by decide +kernel
theorem d_C_isWide_19 : decode prog_2_method_4_code 19 = .ok (.iload_n 0, 1) := by decide +kernel
theorem d_C_isWide_20 : decode prog_2_method_4_code 20 = .ok (.ldc 17, 2) := by decide +kernel
theorem d_C_isWide_22 : decode prog_2_method_4_code 22 = .ok (.if_icmp .gt 7, 3) := by decide +kernel
theorem d_C_isWide_25 : decode prog_2_method_4_code 25 = .ok (.iconst 1, 1) := by decide +kernel
theorem d_C_isWide_26 : decode prog_2_method_4_code 26 = .ok (.goto 4, 3) := by decide +kernel
theorem d_C_isWide_29 : decode prog_2_method_4_code 29 = .ok (.iconst 0, 1) := by decide +kernel
theorem d_C_isWide_30 : decode prog_2_method_4_code 30 = .ok (.ireturn, 1) := by decide +kernel
theorem d_C_widthOf_0 : decode prog_2_method_5_code 0 = .ok (.iload_n 0, 1) := by decide +kernel
theorem d_C_widthOf_1 : decode prog_2_method_5_code 1 = .ok (.invokestatic 18, 3) := by decide +kernel
theorem d_C_widthOf_4 : decode prog_2_method_5_code 4 = .ok (.ifCond .eq 7, 3) := by decide +kernel
theorem d_C_widthOf_7 : decode prog_2_method_5_code 7 = .ok (.iconst 2, 1) := by decide +kernel
theorem d_C_widthOf_8 : decode prog_2_method_5_code 8 = .ok (.goto 4, 3) := by decide +kernel
theorem d_C_widthOf_11 : decode prog_2_method_5_code 11 = .ok (.iconst 1, 1) := by decide +kernel
theorem d_C_widthOf_12 : decode prog_2_method_5_code 12 = .ok (.ireturn, 1) := by decide +kernel
theorem d_C_characterOf_0 : decode prog_2_method_6_code 0 = .ok (.iload_n 0, 1) := by decide +kernel
theorem d_C_characterOf_1 : decode prog_2_method_6_code 1 = .ok (.ldc 21, 2) := by decide +kernel
theorem d_C_characterOf_3 : decode prog_2_method_6_code 3 = .ok (.irem, 1) := by decide +kernel
theorem d_C_characterOf_4 : decode prog_2_method_6_code 4 = .ok (.ireturn, 1) := by decide +kernel
theorem d_C_firstMarkOf_0 : decode prog_2_method_7_code 0 = .ok (.iload_n 0, 1) := by decide +kernel
theorem d_C_firstMarkOf_1 : decode prog_2_method_7_code 1 = .ok (.ldc 22, 2) := by decide +kernel
theorem d_C_firstMarkOf_3 : decode prog_2_method_7_code 3 = .ok (.irem, 1) := by decide +kernel
theorem d_C_firstMarkOf_4 : decode prog_2_method_7_code 4 = .ok (.ldc 21, 2) := by decide +kernel
theorem d_C_firstMarkOf_6 : decode prog_2_method_7_code 6 = .ok (.idiv, 1) := by decide +kernel
theorem d_C_firstMarkOf_7 : decode prog_2_method_7_code 7 = .ok (.istore_n 1, 1) := by decide +kernel
theorem d_C_firstMarkOf_8 : decode prog_2_method_7_code 8 = .ok (.iload_n 1, 1) := by decide +kernel
theorem d_C_firstMarkOf_9 : decode prog_2_method_7_code 9 = .ok (.ifCond .ne 7, 3) := by decide +kernel
theorem d_C_firstMarkOf_12 : decode prog_2_method_7_code 12 = .ok (.iconst (-1), 1) := by decide +kernel
theorem d_C_firstMarkOf_13 : decode prog_2_method_7_code 13 = .ok (.goto 8, 3) := by decide +kernel
theorem d_C_firstMarkOf_16 : decode prog_2_method_7_code 16 = .ok (.iload_n 1, 1) := by decide +kernel
theorem d_C_firstMarkOf_17 : decode prog_2_method_7_code 17 = .ok (.sipush 767, 3) := by decide +kernel
theorem d_C_firstMarkOf_20 : decode prog_2_method_7_code 20 = .ok (.iadd, 1) := by decide +kernel
theorem d_C_firstMarkOf_21 : decode prog_2_method_7_code 21 = .ok (.ireturn, 1) := by decide +kernel
theorem d_C_secondMarkOf_0 : decode prog_2_method_8_code 0 = .ok (.iload_n 0, 1) := by decide +kernel
theorem d_C_secondMarkOf_1 : decode prog_2_method_8_code 1 = .ok (.ldc 22, 2) := by decide +kernel
theorem d_C_secondMarkOf_3 : decode prog_2_method_8_code 3 = .ok (.idiv, 1) := by decide +kernel
theorem d_C_secondMarkOf_4 : decode prog_2_method_8_code 4 = .ok (.istore_n 1, 1) := by decide +kernel
theorem d_C_secondMarkOf_5 : decode prog_2_method_8_code 5 = .ok (.iload_n 1, 1) := by decide +kernel
theorem d_C_secondMarkOf_6 : decode prog_2_method_8_code 6 = .ok (.ifCond .ne 7, 3) := by decide +kernel
theorem d_C_secondMarkOf_9 : decode prog_2_method_8_code 9 = .ok (.iconst (-1), 1) := by decide +kernel
theorem d_C_secondMarkOf_10 : decode prog_2_method_8_code 10 = .ok (.goto 8, 3) := by decide +kernel
theorem d_C_secondMarkOf_13 : decode prog_2_method_8_code 13 = .ok (.iload_n 1, 1) := by decide +kernel
theorem d_C_secondMarkOf_14 : decode prog_2_method_8_code 14 = .ok (.sipush 767, 3) := by decide +kernel
theorem d_C_secondMarkOf_17 : decode prog_2_method_8_code 17 = .ok (.iadd, 1) := by decide +kernel
theorem d_C_secondMarkOf_18 : decode prog_2_method_8_code 18 = .ok (.ireturn, 1) := by decide +kernel
theorem d_C_withMark_0 : decode prog_2_method_9_code 0 = .ok (.iload_n 0, 1) := by decide +kernel
theorem d_C_withMark_1 : decode prog_2_method_9_code 1 = .ok (.ldc 21, 2) := by decide +kernel
theorem d_C_withMark_3 : decode prog_2_method_9_code 3 = .ok (.if_icmp .ge 8, 3) := by decide +kernel
theorem d_C_withMark_6 : decode prog_2_method_9_code 6 = .ok (.ldc 21, 2) := by decide +kernel
theorem d_C_withMark_8 : decode prog_2_method_9_code 8 = .ok (.goto 5, 3) := by decide +kernel
theorem d_C_withMark_11 : decode prog_2_method_9_code 11 = .ok (.ldc 22, 2) := by decide +kernel
theorem d_C_withMark_13 : decode prog_2_method_9_code 13 = .ok (.istore_n 2, 1) := by decide +kernel
theorem d_C_withMark_14 : decode prog_2_method_9_code 14 = .ok (.iload_n 0, 1) := by decide +kernel
theorem d_C_withMark_15 : decode prog_2_method_9_code 15 = .ok (.iload_n 2, 1) := by decide +kernel
theorem d_C_withMark_16 : decode prog_2_method_9_code 16 = .ok (.iload_n 1, 1) := by decide +kernel
theorem d_C_withMark_17 : decode prog_2_method_9_code 17 = .ok (.sipush 767, 3) := by decide +kernel
theorem d_C_withMark_20 : decode prog_2_method_9_code 20 = .ok (.isub, 1) := by decide +kernel
theorem d_C_withMark_21 : decode prog_2_method_9_code 21 = .ok (.imul, 1) := by decide +kernel
theorem d_C_withMark_22 : decode prog_2_method_9_code 22 = .ok (.iadd, 1) := by decide +kernel
theorem d_C_withMark_23 : decode prog_2_method_9_code 23 = .ok (.ireturn, 1) := by decide +kernel
theorem d_A_fill_0 : decode prog_23_method_103_code 0 = .ok (.iconst 0, 1) := by decide +kernel
theorem d_A_fill_1 : decode prog_23_method_103_code 1 = .ok (.istore_n 2, 1) := by decide +kernel
theorem d_A_fill_2 : decode prog_23_method_103_code 2 = .ok (.aload_n 0, 1) := by decide +kernel
theorem d_A_fill_3 : decode prog_23_method_103_code 3 = .ok (.arraylength, 1) := by decide +kernel
theorem d_A_fill_4 : decode prog_23_method_103_code 4 = .ok (.istore_n 3, 1) := by decide +kernel
theorem d_A_fill_5 : decode prog_23_method_103_code 5 = .ok (.iload_n 2, 1) := by decide +kernel
theorem d_A_fill_6 : decode prog_23_method_103_code 6 = .ok (.iload_n 3, 1) := by decide +kernel
theorem d_A_fill_7 : decode prog_23_method_103_code 7 = .ok (.if_icmp .ge 13, 3) := by decide +kernel
theorem d_A_fill_10 : decode prog_23_method_103_code 10 = .ok (.aload_n 0, 1) := by decide +kernel
theorem d_A_fill_11 : decode prog_23_method_103_code 11 = .ok (.iload_n 2, 1) := by decide +kernel
theorem d_A_fill_12 : decode prog_23_method_103_code 12 = .ok (.iload_n 1, 1) := by decide +kernel
theorem d_A_fill_13 : decode prog_23_method_103_code 13 = .ok (.iastore, 1) := by decide +kernel
theorem d_A_fill_14 : decode prog_23_method_103_code 14 = .ok (.iinc 2 1, 3) := by decide +kernel
theorem d_A_fill_17 : decode prog_23_method_103_code 17 = .ok (.goto (-12), 3) := by decide +kernel
theorem d_A_fill_20 : decode prog_23_method_103_code 20 = .ok (.return_, 1) := by decide +kernel
end
section
theorem d_E_press_0 : decode prog_3_method_2_code 0 = .ok (.iload_n 1, 1) := by decide +kernel
theorem d_E_press_1 : decode prog_3_method_2_code 1 = .ok (.ldc 53, 2) := by decide +kernel
theorem d_E_press_3 : decode prog_3_method_2_code 3 = .ok (.if_icmp .eq 9, 3) := by decide +kernel
theorem d_E_press_6 : decode prog_3_method_2_code 6 = .ok (.iload_n 1, 1) := by decide +kernel
theorem d_E_press_7 : decode prog_3_method_2_code 7 = .ok (.ldc 54, 2) := by decide +kernel
theorem d_E_press_9 : decode prog_3_method_2_code 9 = .ok (.if_icmp .ne 26, 3) := by decide +kernel
theorem d_E_press_12 : decode prog_3_method_2_code 12 = .ok (.aload_n 0, 1) := by decide +kernel
theorem d_E_press_13 : decode prog_3_method_2_code 13 = .ok (.getfield 55, 3) := by decide +kernel
theorem d_E_press_16 : decode prog_3_method_2_code 16 = .ok (.ifCond .ne 18, 3) := by decide +kernel
theorem d_E_press_19 : decode prog_3_method_2_code 19 = .ok (.aload_n 0, 1) := by decide +kernel
theorem d_E_press_20 : decode prog_3_method_2_code 20 = .ok (.iload_n 1, 1) := by decide +kernel
theorem d_E_press_21 : decode prog_3_method_2_code 21 = .ok (.ldc 53, 2) := by decide +kernel
theorem d_E_press_23 : decode prog_3_method_2_code 23 = .ok (.if_icmp .ne 7, 3) := by decide +kernel
theorem d_E_press_26 : decode prog_3_method_2_code 26 = .ok (.iconst (-1), 1) := by decide +kernel
theorem d_E_press_27 : decode prog_3_method_2_code 27 = .ok (.goto 4, 3) := by decide +kernel
theorem d_E_press_30 : decode prog_3_method_2_code 30 = .ok (.iconst 1, 1) := by decide +kernel
theorem d_E_press_31 : decode prog_3_method_2_code 31 = .ok (.invokevirtual 58, 3) := by decide +kernel
theorem d_E_press_34 : decode prog_3_method_2_code 34 = .ok (.return_, 1) := by decide +kernel
theorem d_E_press_35 : decode prog_3_method_2_code 35 = .ok (.aload_n 0, 1) := by decide +kernel
theorem d_E_press_36 : decode prog_3_method_2_code 36 = .ok (.getfield 55, 3) := by decide +kernel
theorem d_E_press_39 : decode prog_3_method_2_code 39 = .ok (.ifCond .eq 13, 3) := by decide +kernel
theorem d_E_press_42 : decode prog_3_method_2_code 42 = .ok (.iload_n 1, 1) := by decide +kernel
theorem d_E_press_43 : decode prog_3_method_2_code 43 = .ok (.invokestatic 62, 3) := by decide +kernel
theorem d_E_press_46 : decode prog_3_method_2_code 46 = .ok (.ifCond .ne 14, 3) := by decide +kernel
theorem d_E_press_49 : decode prog_3_method_2_code 49 = .ok (.goto 10, 3) := by decide +kernel
theorem d_E_press_52 : decode prog_3_method_2_code 52 = .ok (.iload_n 1, 1) := by decide +kernel
theorem d_E_press_53 : decode prog_3_method_2_code 53 = .ok (.invokestatic 66, 3) := by decide +kernel
theorem d_E_press_56 : decode prog_3_method_2_code 56 = .ok (.ifCond .ne 4, 3) := by decide +kernel
theorem d_E_press_59 : decode prog_3_method_2_code 59 = .ok (.return_, 1) := by decide +kernel
theorem d_E_press_60 : decode prog_3_method_2_code 60 = .ok (.aload_n 0, 1) := by decide +kernel
theorem d_E_press_61 : decode prog_3_method_2_code 61 = .ok (.iconst (-1), 1) := by decide +kernel
theorem d_E_press_62 : decode prog_3_method_2_code 62 = .ok (.putfield 43, 3) := by decide +kernel
theorem d_E_press_65 : decode prog_3_method_2_code 65 = .ok (.iload_n 1, 1) := by decide +kernel
theorem d_E_press_66 : decode prog_3_method_2_code 66 = .ok (.invokestatic 69, 3) := by decide +kernel
theorem d_E_press_69 : decode prog_3_method_2_code 69 = .ok (.ifCond .eq 11, 3) := by decide +kernel
theorem d_E_press_72 : decode prog_3_method_2_code 72 = .ok (.aload_n 0, 1) := by decide +kernel
theorem d_E_press_73 : decode prog_3_method_2_code 73 = .ok (.iload_n 1, 1) := by decide +kernel
theorem d_E_press_74 : decode prog_3_method_2_code 74 = .ok (.invokevirtual 72, 3) := by decide +kernel
theorem d_E_press_77 : decode prog_3_method_2_code 77 = .ok (.goto 8, 3) := by decide +kernel
theorem d_E_press_80 : decode prog_3_method_2_code 80 = .ok (.aload_n 0, 1) := by decide +kernel
theorem d_E_press_81 : decode prog_3_method_2_code 81 = .ok (.iload_n 1, 1) := by decide +kernel
theorem d_E_press_82 : decode prog_3_method_2_code 82 = .ok (.invokevirtual 75, 3) := by decide +kernel
theorem d_E_press_85 : decode prog_3_method_2_code 85 = .ok (.aload_n 0, 1) := by decide +kernel
theorem d_E_press_86 : decode prog_3_method_2_code 86 = .ok (.aload_n 0, 1) := by decide +kernel
theorem d_E_press_87 : decode prog_3_method_2_code 87 = .ok (.getfield 12, 3) := by decide +kernel
theorem d_E_press_90 : decode prog_3_method_2_code 90 = .ok (.aload_n 0, 1) := by decide +kernel
theorem d_E_press_91 : decode prog_3_method_2_code 91 = .ok (.getfield 78, 3) := by decide +kernel
theorem d_E_press_94 : decode prog_3_method_2_code 94 = .ok (.invokevirtual 81, 3) := by decide +kernel
theorem d_E_press_97 : decode prog_3_method_2_code 97 = .ok (.putfield 78, 3) := by decide +kernel
theorem d_E_press_100 : decode prog_3_method_2_code 100 = .ok (.return_, 1) := by decide +kernel
theorem d_E_isCharacter_0 : decode prog_3_method_3_code 0 = .ok (.iload_n 0, 1) := by decide +kernel
theorem d_E_isCharacter_1 : decode prog_3_method_3_code 1 = .ok (.bipush 32, 2) := by decide +kernel
theorem d_E_isCharacter_3 : decode prog_3_method_3_code 3 = .ok (.if_icmp .lt 19, 3) := by decide +kernel
theorem d_E_isCharacter_6 : decode prog_3_method_3_code 6 = .ok (.iload_n 0, 1) := by decide +kernel
theorem d_E_isCharacter_7 : decode prog_3_method_3_code 7 = .ok (.ldc 53, 2) := by decide +kernel
theorem d_E_isCharacter_9 : decode prog_3_method_3_code 9 = .ok (.if_icmp .ge 13, 3) := by decide +kernel
theorem d_E_isCharacter_12 : decode prog_3_method_3_code 12 = .ok (.iload_n 0, 1) := by decide +kernel
theorem d_E_isCharacter_13 : decode prog_3_method_3_code 13 = .ok (.bipush 127, 2) := by decide +kernel
theorem d_E_isCharacter_15 : decode prog_3_method_3_code 15 = .ok (.if_icmp .eq 7, 3) := by decide +kernel
theorem d_E_isCharacter_18 : decode prog_3_method_3_code 18 = .ok (.iconst 1, 1) := by decide +kernel
theorem d_E_isCharacter_19 : decode prog_3_method_3_code 19 = .ok (.goto 4, 3) := by decide +kernel
theorem d_E_isCharacter_22 : decode prog_3_method_3_code 22 = .ok (.iconst 0, 1) := by decide +kernel
theorem d_E_isCharacter_23 : decode prog_3_method_3_code 23 = .ok (.ireturn, 1) := by decide +kernel
theorem d_E_worksWhilePasting_0 : decode prog_3_method_4_code 0 = .ok (.iload_n 0, 1) := by decide +kernel
theorem d_E_worksWhilePasting_1 : decode prog_3_method_4_code 1 = .ok (.invokestatic 69, 3) := by decide +kernel
theorem d_E_worksWhilePasting_4 : decode prog_3_method_4_code 4 = .ok (.ifCond .ne 27, 3) := by decide +kernel
theorem d_E_worksWhilePasting_7 : decode prog_3_method_4_code 7 = .ok (.iload_n 0, 1) := by decide +kernel
theorem d_E_worksWhilePasting_8 : decode prog_3_method_4_code 8 = .ok (.bipush 9, 2) := by decide +kernel
theorem d_E_worksWhilePasting_10 : decode prog_3_method_4_code 10 = .ok (.if_icmp .eq 21, 3) := by decide +kernel
theorem d_E_worksWhilePasting_13 : decode prog_3_method_4_code 13 = .ok (.iload_n 0, 1) := by decide +kernel
theorem d_E_worksWhilePasting_14 : decode prog_3_method_4_code 14 = .ok (.bipush 13, 2) := by decide +kernel
theorem d_E_worksWhilePasting_16 : decode prog_3_method_4_code 16 = .ok (.if_icmp .eq 15, 3) := by decide +kernel
theorem d_E_worksWhilePasting_19 : decode prog_3_method_4_code 19 = .ok (.iload_n 0, 1) := by decide +kernel
theorem d_E_worksWhilePasting_20 : decode prog_3_method_4_code 20 = .ok (.bipush 10, 2) := by decide +kernel
theorem d_E_worksWhilePasting_22 : decode prog_3_method_4_code 22 = .ok (.if_icmp .eq 9, 3) := by decide +kernel
theorem d_E_worksWhilePasting_25 : decode prog_3_method_4_code 25 = .ok (.iload_n 0, 1) := by decide +kernel
theorem d_E_worksWhilePasting_26 : decode prog_3_method_4_code 26 = .ok (.ldc 85, 2) := by decide +kernel
theorem d_E_worksWhilePasting_28 : decode prog_3_method_4_code 28 = .ok (.if_icmp .ne 7, 3) := by decide +kernel
theorem d_E_worksWhilePasting_31 : decode prog_3_method_4_code 31 = .ok (.iconst 1, 1) := by decide +kernel
theorem d_E_worksWhilePasting_32 : decode prog_3_method_4_code 32 = .ok (.goto 4, 3) := by decide +kernel
theorem d_E_worksWhilePasting_35 : decode prog_3_method_4_code 35 = .ok (.iconst 0, 1) := by decide +kernel
theorem d_E_worksWhilePasting_36 : decode prog_3_method_4_code 36 = .ok (.ireturn, 1) := by decide +kernel
theorem d_E_worksOtherwise_0 : decode prog_3_method_5_code 0 = .ok (.iload_n 0, 1) := by decide +kernel
theorem d_E_worksOtherwise_1 : decode prog_3_method_5_code 1 = .ok (.tableswitch 129 0 27 #[127, 129, 129, 129, 129, 129, 129, 129, 127, 127, 127, 129, 127, 127, 129, 129, 129, 129, 129, 129, 129, 129, 129, 127, 129, 127, 127, 127], 127) := by decide +kernel
theorem d_E_worksOtherwise_128 : decode prog_3_method_5_code 128 = .ok (.iconst 1, 1) := by decide +kernel
theorem d_E_worksOtherwise_129 : decode prog_3_method_5_code 129 = .ok (.ireturn, 1) := by decide +kernel
theorem d_E_worksOtherwise_130 : decode prog_3_method_5_code 130 = .ok (.iload_n 0, 1) := by decide +kernel
theorem d_E_worksOtherwise_131 : decode prog_3_method_5_code 131 = .ok (.bipush 32, 2) := by decide +kernel
theorem d_E_worksOtherwise_133 : decode prog_3_method_5_code 133 = .ok (.if_icmp .lt 7, 3) := by decide +kernel
theorem d_E_worksOtherwise_136 : decode prog_3_method_5_code 136 = .ok (.iconst 1, 1) := by decide +kernel
theorem d_E_worksOtherwise_137 : decode prog_3_method_5_code 137 = .ok (.goto 4, 3) := by decide +kernel
theorem d_E_worksOtherwise_140 : decode prog_3_method_5_code 140 = .ok (.iconst 0, 1) := by decide +kernel
theorem d_E_worksOtherwise_141 : decode prog_3_method_5_code 141 = .ok (.ireturn, 1) := by decide +kernel
theorem d_E_command_0 : decode prog_3_method_6_code 0 = .ok (.iload_n 1, 1) := by decide +kernel
theorem d_E_command_1 : decode prog_3_method_6_code 1 = .ok (.lookupswitch 381 #[(0, 309), (8, 189), (9, 155), (10, 173), (12, 328), (13, 164), (23, 336), (25, 343), (26, 358), (27, 320), (127, 189), (65538, 253), (65539, 235), (65540, 273), (65541, 291), (65542, 211), (65543, 365), (65544, 373)], 155) := by decide +kernel
theorem d_E_command_156 : decode prog_3_method_6_code 156 = .ok (.aload_n 0, 1) := by decide +kernel
theorem d_E_command_157 : decode prog_3_method_6_code 157 = .ok (.bipush 9, 2) := by decide +kernel
theorem d_E_command_159 : decode prog_3_method_6_code 159 = .ok (.invokevirtual 72, 3) := by decide +kernel
theorem d_E_command_162 : decode prog_3_method_6_code 162 = .ok (.goto 220, 3) := by decide +kernel
theorem d_E_command_165 : decode prog_3_method_6_code 165 = .ok (.aload_n 0, 1) := by decide +kernel
theorem d_E_command_166 : decode prog_3_method_6_code 166 = .ok (.bipush 10, 2) := by decide +kernel
theorem d_E_command_168 : decode prog_3_method_6_code 168 = .ok (.invokevirtual 72, 3) := by decide +kernel
theorem d_E_command_171 : decode prog_3_method_6_code 171 = .ok (.goto 211, 3) := by decide +kernel
theorem d_E_command_174 : decode prog_3_method_6_code 174 = .ok (.aload_n 0, 1) := by decide +kernel
theorem d_E_command_175 : decode prog_3_method_6_code 175 = .ok (.getfield 55, 3) := by decide +kernel
theorem d_E_command_178 : decode prog_3_method_6_code 178 = .ok (.ifCond .eq 204, 3) := by decide +kernel
theorem d_E_command_181 : decode prog_3_method_6_code 181 = .ok (.aload_n 0, 1) := by decide +kernel
theorem d_E_command_182 : decode prog_3_method_6_code 182 = .ok (.bipush 10, 2) := by decide +kernel
theorem d_E_command_184 : decode prog_3_method_6_code 184 = .ok (.invokevirtual 72, 3) := by decide +kernel
theorem d_E_command_187 : decode prog_3_method_6_code 187 = .ok (.goto 195, 3) := by decide +kernel
theorem d_E_command_190 : decode prog_3_method_6_code 190 = .ok (.aload_n 0, 1) := by decide +kernel
theorem d_E_command_191 : decode prog_3_method_6_code 191 = .ok (.aload_n 0, 1) := by decide +kernel
theorem d_E_command_192 : decode prog_3_method_6_code 192 = .ok (.getfield 12, 3) := by decide +kernel
theorem d_E_command_195 : decode prog_3_method_6_code 195 = .ok (.aload_n 0, 1) := by decide +kernel
theorem d_E_command_196 : decode prog_3_method_6_code 196 = .ok (.getfield 78, 3) := by decide +kernel
theorem d_E_command_199 : decode prog_3_method_6_code 199 = .ok (.invokevirtual 86, 3) := by decide +kernel
theorem d_E_command_202 : decode prog_3_method_6_code 202 = .ok (.aload_n 0, 1) := by decide +kernel
theorem d_E_command_203 : decode prog_3_method_6_code 203 = .ok (.getfield 78, 3) := by decide +kernel
theorem d_E_command_206 : decode prog_3_method_6_code 206 = .ok (.invokevirtual 89, 3) := by decide +kernel
theorem d_E_command_209 : decode prog_3_method_6_code 209 = .ok (.goto 173, 3) := by decide +kernel
theorem d_E_command_212 : decode prog_3_method_6_code 212 = .ok (.aload_n 0, 1) := by decide +kernel
theorem d_E_command_213 : decode prog_3_method_6_code 213 = .ok (.aload_n 0, 1) := by decide +kernel
theorem d_E_command_214 : decode prog_3_method_6_code 214 = .ok (.getfield 78, 3) := by decide +kernel
theorem d_E_command_217 : decode prog_3_method_6_code 217 = .ok (.aload_n 0, 1) := by decide +kernel
theorem d_E_command_218 : decode prog_3_method_6_code 218 = .ok (.getfield 12, 3) := by decide +kernel
theorem d_E_command_221 : decode prog_3_method_6_code 221 = .ok (.aload_n 0, 1) := by decide +kernel
theorem d_E_command_222 : decode prog_3_method_6_code 222 = .ok (.getfield 78, 3) := by decide +kernel
theorem d_E_command_225 : decode prog_3_method_6_code 225 = .ok (.iconst 1, 1) := by decide +kernel
theorem d_E_command_226 : decode prog_3_method_6_code 226 = .ok (.iadd, 1) := by decide +kernel
theorem d_E_command_227 : decode prog_3_method_6_code 227 = .ok (.invokevirtual 81, 3) := by decide +kernel
theorem d_E_command_230 : decode prog_3_method_6_code 230 = .ok (.invokevirtual 89, 3) := by decide +kernel
theorem d_E_command_233 : decode prog_3_method_6_code 233 = .ok (.goto 149, 3) := by decide +kernel
theorem d_E_command_236 : decode prog_3_method_6_code 236 = .ok (.aload_n 0, 1) := by decide +kernel
theorem d_E_command_237 : decode prog_3_method_6_code 237 = .ok (.aload_n 0, 1) := by decide +kernel
theorem d_E_command_238 : decode prog_3_method_6_code 238 = .ok (.getfield 12, 3) := by decide +kernel
theorem d_E_command_241 : decode prog_3_method_6_code 241 = .ok (.aload_n 0, 1) := by decide +kernel
theorem d_E_command_242 : decode prog_3_method_6_code 242 = .ok (.getfield 78, 3) := by decide +kernel
theorem d_E_command_245 : decode prog_3_method_6_code 245 = .ok (.invokevirtual 86, 3) := by decide +kernel
theorem d_E_command_248 : decode prog_3_method_6_code 248 = .ok (.putfield 78, 3) := by decide +kernel
theorem d_E_command_251 : decode prog_3_method_6_code 251 = .ok (.goto 131, 3) := by decide +kernel
theorem d_E_command_254 : decode prog_3_method_6_code 254 = .ok (.aload_n 0, 1) := by decide +kernel
theorem d_E_command_255 : decode prog_3_method_6_code 255 = .ok (.aload_n 0, 1) := by decide +kernel
theorem d_E_command_256 : decode prog_3_method_6_code 256 = .ok (.getfield 12, 3) := by decide +kernel
theorem d_E_command_259 : decode prog_3_method_6_code 259 = .ok (.aload_n 0, 1) := by decide +kernel
theorem d_E_command_260 : decode prog_3_method_6_code 260 = .ok (.getfield 78, 3) := by decide +kernel
theorem d_E_command_263 : decode prog_3_method_6_code 263 = .ok (.iconst 1, 1) := by decide +kernel
theorem d_E_command_264 : decode prog_3_method_6_code 264 = .ok (.iadd, 1) := by decide +kernel
theorem d_E_command_265 : decode prog_3_method_6_code 265 = .ok (.invokevirtual 81, 3) := by decide +kernel
theorem d_E_command_268 : decode prog_3_method_6_code 268 = .ok (.putfield 78, 3) := by decide +kernel
theorem d_E_command_271 : decode prog_3_method_6_code 271 = .ok (.goto 111, 3) := by decide +kernel
theorem d_E_command_274 : decode prog_3_method_6_code 274 = .ok (.aload_n 0, 1) := by decide +kernel
theorem d_E_command_275 : decode prog_3_method_6_code 275 = .ok (.aload_n 0, 1) := by decide +kernel
theorem d_E_command_276 : decode prog_3_method_6_code 276 = .ok (.getfield 12, 3) := by decide +kernel
theorem d_E_command_279 : decode prog_3_method_6_code 279 = .ok (.aload_n 0, 1) := by decide +kernel
theorem d_E_command_280 : decode prog_3_method_6_code 280 = .ok (.getfield 78, 3) := by decide +kernel
theorem d_E_command_283 : decode prog_3_method_6_code 283 = .ok (.invokevirtual 93, 3) := by decide +kernel
theorem d_E_command_286 : decode prog_3_method_6_code 286 = .ok (.putfield 78, 3) := by decide +kernel
theorem d_E_command_289 : decode prog_3_method_6_code 289 = .ok (.goto 93, 3) := by decide +kernel
theorem d_E_command_292 : decode prog_3_method_6_code 292 = .ok (.aload_n 0, 1) := by decide +kernel
theorem d_E_command_293 : decode prog_3_method_6_code 293 = .ok (.aload_n 0, 1) := by decide +kernel
theorem d_E_command_294 : decode prog_3_method_6_code 294 = .ok (.getfield 12, 3) := by decide +kernel
theorem d_E_command_297 : decode prog_3_method_6_code 297 = .ok (.aload_n 0, 1) := by decide +kernel
theorem d_E_command_298 : decode prog_3_method_6_code 298 = .ok (.getfield 78, 3) := by decide +kernel
theorem d_E_command_301 : decode prog_3_method_6_code 301 = .ok (.invokevirtual 96, 3) := by decide +kernel
theorem d_E_command_304 : decode prog_3_method_6_code 304 = .ok (.putfield 78, 3) := by decide +kernel
theorem d_E_command_307 : decode prog_3_method_6_code 307 = .ok (.goto 75, 3) := by decide +kernel
theorem d_E_command_310 : decode prog_3_method_6_code 310 = .ok (.aload_n 0, 1) := by decide +kernel
theorem d_E_command_311 : decode prog_3_method_6_code 311 = .ok (.aload_n 0, 1) := by decide +kernel
theorem d_E_command_312 : decode prog_3_method_6_code 312 = .ok (.getfield 78, 3) := by decide +kernel
theorem d_E_command_315 : decode prog_3_method_6_code 315 = .ok (.putfield 39, 3) := by decide +kernel
theorem d_E_command_318 : decode prog_3_method_6_code 318 = .ok (.goto 64, 3) := by decide +kernel
theorem d_E_command_321 : decode prog_3_method_6_code 321 = .ok (.aload_n 0, 1) := by decide +kernel
theorem d_E_command_322 : decode prog_3_method_6_code 322 = .ok (.iconst (-1), 1) := by decide +kernel
theorem d_E_command_323 : decode prog_3_method_6_code 323 = .ok (.putfield 39, 3) := by decide +kernel
theorem d_E_command_326 : decode prog_3_method_6_code 326 = .ok (.goto 56, 3) := by decide +kernel
theorem d_E_command_329 : decode prog_3_method_6_code 329 = .ok (.aload_n 0, 1) := by decide +kernel
theorem d_E_command_330 : decode prog_3_method_6_code 330 = .ok (.iconst 1, 1) := by decide +kernel
theorem d_E_command_331 : decode prog_3_method_6_code 331 = .ok (.putfield 46, 3) := by decide +kernel
theorem d_E_command_334 : decode prog_3_method_6_code 334 = .ok (.goto 48, 3) := by decide +kernel
theorem d_E_command_337 : decode prog_3_method_6_code 337 = .ok (.aload_n 0, 1) := by decide +kernel
theorem d_E_command_338 : decode prog_3_method_6_code 338 = .ok (.invokevirtual 99, 3) := by decide +kernel
theorem d_E_command_341 : decode prog_3_method_6_code 341 = .ok (.goto 41, 3) := by decide +kernel
theorem d_E_command_344 : decode prog_3_method_6_code 344 = .ok (.aload_n 0, 1) := by decide +kernel
theorem d_E_command_345 : decode prog_3_method_6_code 345 = .ok (.aload_n 0, 1) := by decide +kernel
theorem d_E_command_346 : decode prog_3_method_6_code 346 = .ok (.getfield 32, 3) := by decide +kernel
theorem d_E_command_349 : decode prog_3_method_6_code 349 = .ok (.aload_n 0, 1) := by decide +kernel
theorem d_E_command_350 : decode prog_3_method_6_code 350 = .ok (.getfield 102, 3) := by decide +kernel
theorem d_E_command_353 : decode prog_3_method_6_code 353 = .ok (.invokevirtual 105, 3) := by decide +kernel
theorem d_E_command_356 : decode prog_3_method_6_code 356 = .ok (.goto 26, 3) := by decide +kernel
theorem d_E_command_359 : decode prog_3_method_6_code 359 = .ok (.aload_n 0, 1) := by decide +kernel
theorem d_E_command_360 : decode prog_3_method_6_code 360 = .ok (.invokevirtual 109, 3) := by decide +kernel
theorem d_E_command_363 : decode prog_3_method_6_code 363 = .ok (.goto 19, 3) := by decide +kernel
theorem d_E_command_366 : decode prog_3_method_6_code 366 = .ok (.aload_n 0, 1) := by decide +kernel
theorem d_E_command_367 : decode prog_3_method_6_code 367 = .ok (.iconst 1, 1) := by decide +kernel
theorem d_E_command_368 : decode prog_3_method_6_code 368 = .ok (.putfield 55, 3) := by decide +kernel
theorem d_E_command_371 : decode prog_3_method_6_code 371 = .ok (.goto 11, 3) := by decide +kernel
theorem d_E_command_374 : decode prog_3_method_6_code 374 = .ok (.aload_n 0, 1) := by decide +kernel
theorem d_E_command_375 : decode prog_3_method_6_code 375 = .ok (.iconst 0, 1) := by decide +kernel
theorem d_E_command_376 : decode prog_3_method_6_code 376 = .ok (.putfield 55, 3) := by decide +kernel
theorem d_E_command_379 : decode prog_3_method_6_code 379 = .ok (.goto 3, 3) := by decide +kernel
theorem d_E_command_382 : decode prog_3_method_6_code 382 = .ok (.return_, 1) := by decide +kernel
theorem d_E_insertOne_0 : decode prog_3_method_7_code 0 = .ok (.aload_n 0, 1) := by decide +kernel
theorem d_E_insertOne_1 : decode prog_3_method_7_code 1 = .ok (.getfield 36, 3) := by decide +kernel
theorem d_E_insertOne_4 : decode prog_3_method_7_code 4 = .ok (.iconst 0, 1) := by decide +kernel
theorem d_E_insertOne_5 : decode prog_3_method_7_code 5 = .ok (.iload_n 1, 1) := by decide +kernel
theorem d_E_insertOne_6 : decode prog_3_method_7_code 6 = .ok (.iastore, 1) := by decide +kernel
theorem d_E_insertOne_7 : decode prog_3_method_7_code 7 = .ok (.aload_n 0, 1) := by decide +kernel
theorem d_E_insertOne_8 : decode prog_3_method_7_code 8 = .ok (.aload_n 0, 1) := by decide +kernel
theorem d_E_insertOne_9 : decode prog_3_method_7_code 9 = .ok (.getfield 36, 3) := by decide +kernel
theorem d_E_insertOne_12 : decode prog_3_method_7_code 12 = .ok (.iconst 1, 1) := by decide +kernel
theorem d_E_insertOne_13 : decode prog_3_method_7_code 13 = .ok (.invokevirtual 105, 3) := by decide +kernel
theorem d_E_insertOne_16 : decode prog_3_method_7_code 16 = .ok (.return_, 1) := by decide +kernel
theorem d_E_insert_0 : decode prog_3_method_8_code 0 = .ok (.iload_n 2, 1) := by decide +kernel
theorem d_E_insert_1 : decode prog_3_method_8_code 1 = .ok (.ifCond .eq 14, 3) := by decide +kernel
theorem d_E_insert_4 : decode prog_3_method_8_code 4 = .ok (.aload_n 0, 1) := by decide +kernel
theorem d_E_insert_5 : decode prog_3_method_8_code 5 = .ok (.getfield 12, 3) := by decide +kernel
theorem d_E_insert_8 : decode prog_3_method_8_code 8 = .ok (.iload_n 2, 1) := by decide +kernel
theorem d_E_insert_9 : decode prog_3_method_8_code 9 = .ok (.invokevirtual 112, 3) := by decide +kernel
theorem d_E_insert_12 : decode prog_3_method_8_code 12 = .ok (.ifCond .ne 4, 3) := by decide +kernel
theorem d_E_insert_15 : decode prog_3_method_8_code 15 = .ok (.return_, 1) := by decide +kernel
theorem d_E_insert_16 : decode prog_3_method_8_code 16 = .ok (.aload_n 0, 1) := by decide +kernel
theorem d_E_insert_17 : decode prog_3_method_8_code 17 = .ok (.getfield 21, 3) := by decide +kernel
theorem d_E_insert_20 : decode prog_3_method_8_code 20 = .ok (.aload_n 0, 1) := by decide +kernel
theorem d_E_insert_21 : decode prog_3_method_8_code 21 = .ok (.getfield 78, 3) := by decide +kernel
theorem d_E_insert_24 : decode prog_3_method_8_code 24 = .ok (.iload_n 2, 1) := by decide +kernel
theorem d_E_insert_25 : decode prog_3_method_8_code 25 = .ok (.invokevirtual 115, 3) := by decide +kernel
theorem d_E_insert_28 : decode prog_3_method_8_code 28 = .ok (.aload_n 0, 1) := by decide +kernel
theorem d_E_insert_29 : decode prog_3_method_8_code 29 = .ok (.getfield 12, 3) := by decide +kernel
theorem d_E_insert_32 : decode prog_3_method_8_code 32 = .ok (.aload_n 0, 1) := by decide +kernel
theorem d_E_insert_33 : decode prog_3_method_8_code 33 = .ok (.getfield 78, 3) := by decide +kernel
theorem d_E_insert_36 : decode prog_3_method_8_code 36 = .ok (.aload_n 1, 1) := by decide +kernel
theorem d_E_insert_37 : decode prog_3_method_8_code 37 = .ok (.iconst 0, 1) := by decide +kernel
theorem d_E_insert_38 : decode prog_3_method_8_code 38 = .ok (.iload_n 2, 1) := by decide +kernel
theorem d_E_insert_39 : decode prog_3_method_8_code 39 = .ok (.invokevirtual 118, 3) := by decide +kernel
theorem d_E_insert_42 : decode prog_3_method_8_code 42 = .ok (.aload_n 0, 1) := by decide +kernel
theorem d_E_insert_43 : decode prog_3_method_8_code 43 = .ok (.dup, 1) := by decide +kernel
theorem d_E_insert_44 : decode prog_3_method_8_code 44 = .ok (.getfield 78, 3) := by decide +kernel
theorem d_E_insert_47 : decode prog_3_method_8_code 47 = .ok (.iload_n 2, 1) := by decide +kernel
theorem d_E_insert_48 : decode prog_3_method_8_code 48 = .ok (.iadd, 1) := by decide +kernel
theorem d_E_insert_49 : decode prog_3_method_8_code 49 = .ok (.putfield 78, 3) := by decide +kernel
theorem d_E_insert_52 : decode prog_3_method_8_code 52 = .ok (.aload_n 0, 1) := by decide +kernel
theorem d_E_insert_53 : decode prog_3_method_8_code 53 = .ok (.iconst (-1), 1) := by decide +kernel
theorem d_E_insert_54 : decode prog_3_method_8_code 54 = .ok (.putfield 39, 3) := by decide +kernel
theorem d_E_insert_57 : decode prog_3_method_8_code 57 = .ok (.return_, 1) := by decide +kernel
theorem d_E_removeBetween_0 : decode prog_3_method_9_code 0 = .ok (.iload_n 1, 1) := by decide +kernel
theorem d_E_removeBetween_1 : decode prog_3_method_9_code 1 = .ok (.iload_n 2, 1) := by decide +kernel
theorem d_E_removeBetween_2 : decode prog_3_method_9_code 2 = .ok (.if_icmp .lt 4, 3) := by decide +kernel
theorem d_E_removeBetween_5 : decode prog_3_method_9_code 5 = .ok (.return_, 1) := by decide +kernel
theorem d_E_removeBetween_6 : decode prog_3_method_9_code 6 = .ok (.aload_n 0, 1) := by decide +kernel
theorem d_E_removeBetween_7 : decode prog_3_method_9_code 7 = .ok (.getfield 21, 3) := by decide +kernel
theorem d_E_removeBetween_10 : decode prog_3_method_9_code 10 = .ok (.aload_n 0, 1) := by decide +kernel
theorem d_E_removeBetween_11 : decode prog_3_method_9_code 11 = .ok (.getfield 12, 3) := by decide +kernel
theorem d_E_removeBetween_14 : decode prog_3_method_9_code 14 = .ok (.iload_n 1, 1) := by decide +kernel
theorem d_E_removeBetween_15 : decode prog_3_method_9_code 15 = .ok (.iload_n 2, 1) := by decide +kernel
theorem d_E_removeBetween_16 : decode prog_3_method_9_code 16 = .ok (.iload_n 1, 1) := by decide +kernel
theorem d_E_removeBetween_17 : decode prog_3_method_9_code 17 = .ok (.isub, 1) := by decide +kernel
theorem d_E_removeBetween_18 : decode prog_3_method_9_code 18 = .ok (.aload_n 0, 1) := by decide +kernel
theorem d_E_removeBetween_19 : decode prog_3_method_9_code 19 = .ok (.getfield 78, 3) := by decide +kernel
theorem d_E_removeBetween_22 : decode prog_3_method_9_code 22 = .ok (.invokevirtual 121, 3) := by decide +kernel
theorem d_E_removeBetween_25 : decode prog_3_method_9_code 25 = .ok (.aload_n 0, 1) := by decide +kernel
theorem d_E_removeBetween_26 : decode prog_3_method_9_code 26 = .ok (.getfield 12, 3) := by decide +kernel
theorem d_E_removeBetween_29 : decode prog_3_method_9_code 29 = .ok (.iload_n 1, 1) := by decide +kernel
theorem d_E_removeBetween_30 : decode prog_3_method_9_code 30 = .ok (.iload_n 2, 1) := by decide +kernel
theorem d_E_removeBetween_31 : decode prog_3_method_9_code 31 = .ok (.iload_n 1, 1) := by decide +kernel
theorem d_E_removeBetween_32 : decode prog_3_method_9_code 32 = .ok (.isub, 1) := by decide +kernel
theorem d_E_removeBetween_33 : decode prog_3_method_9_code 33 = .ok (.invokevirtual 125, 3) := by decide +kernel
theorem d_E_removeBetween_36 : decode prog_3_method_9_code 36 = .ok (.aload_n 0, 1) := by decide +kernel
theorem d_E_removeBetween_37 : decode prog_3_method_9_code 37 = .ok (.iload_n 1, 1) := by decide +kernel
theorem d_E_removeBetween_38 : decode prog_3_method_9_code 38 = .ok (.putfield 78, 3) := by decide +kernel
theorem d_E_removeBetween_41 : decode prog_3_method_9_code 41 = .ok (.aload_n 0, 1) := by decide +kernel
theorem d_E_removeBetween_42 : decode prog_3_method_9_code 42 = .ok (.iconst (-1), 1) := by decide +kernel
theorem d_E_removeBetween_43 : decode prog_3_method_9_code 43 = .ok (.putfield 39, 3) := by decide +kernel
theorem d_E_removeBetween_46 : decode prog_3_method_9_code 46 = .ok (.return_, 1) := by decide +kernel
theorem d_E_cut_0 : decode prog_3_method_10_code 0 = .ok (.aload_n 0, 1) := by decide +kernel
theorem d_E_cut_1 : decode prog_3_method_10_code 1 = .ok (.getfield 39, 3) := by decide +kernel
theorem d_E_cut_4 : decode prog_3_method_10_code 4 = .ok (.iconst (-1), 1) := by decide +kernel
theorem d_E_cut_5 : decode prog_3_method_10_code 5 = .ok (.if_icmp .eq 14, 3) := by decide +kernel
theorem d_E_cut_8 : decode prog_3_method_10_code 8 = .ok (.aload_n 0, 1) := by decide +kernel
theorem d_E_cut_9 : decode prog_3_method_10_code 9 = .ok (.getfield 39, 3) := by decide +kernel
theorem d_E_cut_12 : decode prog_3_method_10_code 12 = .ok (.aload_n 0, 1) := by decide +kernel
theorem d_E_cut_13 : decode prog_3_method_10_code 13 = .ok (.getfield 78, 3) := by decide +kernel
theorem d_E_cut_16 : decode prog_3_method_10_code 16 = .ok (.if_icmp .ne 4, 3) := by decide +kernel
theorem d_E_cut_19 : decode prog_3_method_10_code 19 = .ok (.return_, 1) := by decide +kernel
theorem d_E_cut_20 : decode prog_3_method_10_code 20 = .ok (.aload_n 0, 1) := by decide +kernel
theorem d_E_cut_21 : decode prog_3_method_10_code 21 = .ok (.getfield 39, 3) := by decide +kernel
theorem d_E_cut_24 : decode prog_3_method_10_code 24 = .ok (.aload_n 0, 1) := by decide +kernel
theorem d_E_cut_25 : decode prog_3_method_10_code 25 = .ok (.getfield 78, 3) := by decide +kernel
theorem d_E_cut_28 : decode prog_3_method_10_code 28 = .ok (.invokestatic 128, 3) := by decide +kernel
theorem d_E_cut_31 : decode prog_3_method_10_code 31 = .ok (.istore_n 1, 1) := by decide +kernel
theorem d_E_cut_32 : decode prog_3_method_10_code 32 = .ok (.aload_n 0, 1) := by decide +kernel
theorem d_E_cut_33 : decode prog_3_method_10_code 33 = .ok (.getfield 39, 3) := by decide +kernel
theorem d_E_cut_36 : decode prog_3_method_10_code 36 = .ok (.aload_n 0, 1) := by decide +kernel
theorem d_E_cut_37 : decode prog_3_method_10_code 37 = .ok (.getfield 78, 3) := by decide +kernel
theorem d_E_cut_40 : decode prog_3_method_10_code 40 = .ok (.invokestatic 134, 3) := by decide +kernel
theorem d_E_cut_43 : decode prog_3_method_10_code 43 = .ok (.istore_n 2, 1) := by decide +kernel
theorem d_E_cut_44 : decode prog_3_method_10_code 44 = .ok (.aload_n 0, 1) := by decide +kernel
theorem d_E_cut_45 : decode prog_3_method_10_code 45 = .ok (.iload_n 2, 1) := by decide +kernel
theorem d_E_cut_46 : decode prog_3_method_10_code 46 = .ok (.iload_n 1, 1) := by decide +kernel
theorem d_E_cut_47 : decode prog_3_method_10_code 47 = .ok (.isub, 1) := by decide +kernel
theorem d_E_cut_48 : decode prog_3_method_10_code 48 = .ok (.putfield 102, 3) := by decide +kernel
theorem d_E_cut_51 : decode prog_3_method_10_code 51 = .ok (.aload_n 0, 1) := by decide +kernel
theorem d_E_cut_52 : decode prog_3_method_10_code 52 = .ok (.getfield 12, 3) := by decide +kernel
theorem d_E_cut_55 : decode prog_3_method_10_code 55 = .ok (.aload_n 0, 1) := by decide +kernel
theorem d_E_cut_56 : decode prog_3_method_10_code 56 = .ok (.getfield 32, 3) := by decide +kernel
theorem d_E_cut_59 : decode prog_3_method_10_code 59 = .ok (.iconst 0, 1) := by decide +kernel
theorem d_E_cut_60 : decode prog_3_method_10_code 60 = .ok (.iload_n 1, 1) := by decide +kernel
theorem d_E_cut_61 : decode prog_3_method_10_code 61 = .ok (.aload_n 0, 1) := by decide +kernel
theorem d_E_cut_62 : decode prog_3_method_10_code 62 = .ok (.getfield 102, 3) := by decide +kernel
theorem d_E_cut_65 : decode prog_3_method_10_code 65 = .ok (.invokevirtual 137, 3) := by decide +kernel
theorem d_E_cut_68 : decode prog_3_method_10_code 68 = .ok (.aload_n 0, 1) := by decide +kernel
theorem d_E_cut_69 : decode prog_3_method_10_code 69 = .ok (.iload_n 1, 1) := by decide +kernel
theorem d_E_cut_70 : decode prog_3_method_10_code 70 = .ok (.iload_n 2, 1) := by decide +kernel
theorem d_E_cut_71 : decode prog_3_method_10_code 71 = .ok (.invokevirtual 89, 3) := by decide +kernel
theorem d_E_cut_74 : decode prog_3_method_10_code 74 = .ok (.return_, 1) := by decide +kernel
theorem d_E_undo_0 : decode prog_3_method_11_code 0 = .ok (.aload_n 0, 1) := by decide +kernel
theorem d_E_undo_1 : decode prog_3_method_11_code 1 = .ok (.getfield 21, 3) := by decide +kernel
theorem d_E_undo_4 : decode prog_3_method_11_code 4 = .ok (.aload_n 0, 1) := by decide +kernel
theorem d_E_undo_5 : decode prog_3_method_11_code 5 = .ok (.getfield 12, 3) := by decide +kernel
theorem d_E_undo_8 : decode prog_3_method_11_code 8 = .ok (.invokevirtual 141, 3) := by decide +kernel
theorem d_E_undo_11 : decode prog_3_method_11_code 11 = .ok (.istore_n 1, 1) := by decide +kernel
theorem d_E_undo_12 : decode prog_3_method_11_code 12 = .ok (.iload_n 1, 1) := by decide +kernel
theorem d_E_undo_13 : decode prog_3_method_11_code 13 = .ok (.iconst (-1), 1) := by decide +kernel
theorem d_E_undo_14 : decode prog_3_method_11_code 14 = .ok (.if_icmp .eq 13, 3) := by decide +kernel
theorem d_E_undo_17 : decode prog_3_method_11_code 17 = .ok (.aload_n 0, 1) := by decide +kernel
theorem d_E_undo_18 : decode prog_3_method_11_code 18 = .ok (.iload_n 1, 1) := by decide +kernel
theorem d_E_undo_19 : decode prog_3_method_11_code 19 = .ok (.putfield 78, 3) := by decide +kernel
theorem d_E_undo_22 : decode prog_3_method_11_code 22 = .ok (.aload_n 0, 1) := by decide +kernel
theorem d_E_undo_23 : decode prog_3_method_11_code 23 = .ok (.iconst (-1), 1) := by decide +kernel
theorem d_E_undo_24 : decode prog_3_method_11_code 24 = .ok (.putfield 39, 3) := by decide +kernel
theorem d_E_undo_27 : decode prog_3_method_11_code 27 = .ok (.return_, 1) := by decide +kernel
theorem d_E_moveByRow_0 : decode prog_3_method_12_code 0 = .ok (.aload_n 0, 1) := by decide +kernel
theorem d_E_moveByRow_1 : decode prog_3_method_12_code 1 = .ok (.getfield 50, 3) := by decide +kernel
theorem d_E_moveByRow_4 : decode prog_3_method_12_code 4 = .ok (.iconst 4, 1) := by decide +kernel
theorem d_E_moveByRow_5 : decode prog_3_method_12_code 5 = .ok (.if_icmp .ge 4, 3) := by decide +kernel
theorem d_E_moveByRow_8 : decode prog_3_method_12_code 8 = .ok (.return_, 1) := by decide +kernel
theorem d_E_moveByRow_9 : decode prog_3_method_12_code 9 = .ok (.aload_n 0, 1) := by decide +kernel
theorem d_E_moveByRow_10 : decode prog_3_method_12_code 10 = .ok (.getfield 28, 3) := by decide +kernel
theorem d_E_moveByRow_13 : decode prog_3_method_12_code 13 = .ok (.aload_n 0, 1) := by decide +kernel
theorem d_E_moveByRow_14 : decode prog_3_method_12_code 14 = .ok (.getfield 12, 3) := by decide +kernel
theorem d_E_moveByRow_17 : decode prog_3_method_12_code 17 = .ok (.aload_n 0, 1) := by decide +kernel
theorem d_E_moveByRow_18 : decode prog_3_method_12_code 18 = .ok (.getfield 50, 3) := by decide +kernel
theorem d_E_moveByRow_21 : decode prog_3_method_12_code 21 = .ok (.invokevirtual 145, 3) := by decide +kernel
theorem d_E_moveByRow_24 : decode prog_3_method_12_code 24 = .ok (.aload_n 0, 1) := by decide +kernel
theorem d_E_moveByRow_25 : decode prog_3_method_12_code 25 = .ok (.getfield 43, 3) := by decide +kernel
theorem d_E_moveByRow_28 : decode prog_3_method_12_code 28 = .ok (.iconst (-1), 1) := by decide +kernel
theorem d_E_moveByRow_29 : decode prog_3_method_12_code 29 = .ok (.if_icmp .ne 19, 3) := by decide +kernel
theorem d_E_moveByRow_32 : decode prog_3_method_12_code 32 = .ok (.aload_n 0, 1) := by decide +kernel
theorem d_E_moveByRow_33 : decode prog_3_method_12_code 33 = .ok (.aload_n 0, 1) := by decide +kernel
theorem d_E_moveByRow_34 : decode prog_3_method_12_code 34 = .ok (.getfield 28, 3) := by decide +kernel
theorem d_E_moveByRow_37 : decode prog_3_method_12_code 37 = .ok (.getfield 149, 3) := by decide +kernel
theorem d_E_moveByRow_40 : decode prog_3_method_12_code 40 = .ok (.aload_n 0, 1) := by decide +kernel
theorem d_E_moveByRow_41 : decode prog_3_method_12_code 41 = .ok (.getfield 78, 3) := by decide +kernel
theorem d_E_moveByRow_44 : decode prog_3_method_12_code 44 = .ok (.iaload, 1) := by decide +kernel
theorem d_E_moveByRow_45 : decode prog_3_method_12_code 45 = .ok (.putfield 43, 3) := by decide +kernel
theorem d_E_moveByRow_48 : decode prog_3_method_12_code 48 = .ok (.aload_n 0, 1) := by decide +kernel
theorem d_E_moveByRow_49 : decode prog_3_method_12_code 49 = .ok (.getfield 28, 3) := by decide +kernel
theorem d_E_moveByRow_52 : decode prog_3_method_12_code 52 = .ok (.aload_n 0, 1) := by decide +kernel
theorem d_E_moveByRow_53 : decode prog_3_method_12_code 53 = .ok (.getfield 12, 3) := by decide +kernel
theorem d_E_moveByRow_56 : decode prog_3_method_12_code 56 = .ok (.aload_n 0, 1) := by decide +kernel
theorem d_E_moveByRow_57 : decode prog_3_method_12_code 57 = .ok (.getfield 28, 3) := by decide +kernel
theorem d_E_moveByRow_60 : decode prog_3_method_12_code 60 = .ok (.getfield 152, 3) := by decide +kernel
theorem d_E_moveByRow_63 : decode prog_3_method_12_code 63 = .ok (.aload_n 0, 1) := by decide +kernel
theorem d_E_moveByRow_64 : decode prog_3_method_12_code 64 = .ok (.getfield 78, 3) := by decide +kernel
theorem d_E_moveByRow_67 : decode prog_3_method_12_code 67 = .ok (.iaload, 1) := by decide +kernel
theorem d_E_moveByRow_68 : decode prog_3_method_12_code 68 = .ok (.iload_n 1, 1) := by decide +kernel
theorem d_E_moveByRow_69 : decode prog_3_method_12_code 69 = .ok (.iadd, 1) := by decide +kernel
theorem d_E_moveByRow_70 : decode prog_3_method_12_code 70 = .ok (.aload_n 0, 1) := by decide +kernel
theorem d_E_moveByRow_71 : decode prog_3_method_12_code 71 = .ok (.getfield 43, 3) := by decide +kernel
theorem d_E_moveByRow_74 : decode prog_3_method_12_code 74 = .ok (.invokevirtual 155, 3) := by decide +kernel
theorem d_E_moveByRow_77 : decode prog_3_method_12_code 77 = .ok (.istore_n 2, 1) := by decide +kernel
theorem d_E_moveByRow_78 : decode prog_3_method_12_code 78 = .ok (.iload_n 2, 1) := by decide +kernel
theorem d_E_moveByRow_79 : decode prog_3_method_12_code 79 = .ok (.iconst (-1), 1) := by decide +kernel
theorem d_E_moveByRow_80 : decode prog_3_method_12_code 80 = .ok (.if_icmp .eq 8, 3) := by decide +kernel
theorem d_E_moveByRow_83 : decode prog_3_method_12_code 83 = .ok (.aload_n 0, 1) := by decide +kernel
theorem d_E_moveByRow_84 : decode prog_3_method_12_code 84 = .ok (.iload_n 2, 1) := by decide +kernel
theorem d_E_moveByRow_85 : decode prog_3_method_12_code 85 = .ok (.putfield 78, 3) := by decide +kernel
theorem d_E_moveByRow_88 : decode prog_3_method_12_code 88 = .ok (.return_, 1) := by decide +kernel
theorem d_E_isBetween_0 : decode prog_3_method_13_code 0 = .ok (.aload_n 0, 1) := by decide +kernel
theorem d_E_isBetween_1 : decode prog_3_method_13_code 1 = .ok (.getfield 39, 3) := by decide +kernel
theorem d_E_isBetween_4 : decode prog_3_method_13_code 4 = .ok (.iconst (-1), 1) := by decide +kernel
theorem d_E_isBetween_5 : decode prog_3_method_13_code 5 = .ok (.if_icmp .eq 37, 3) := by decide +kernel
theorem d_E_isBetween_8 : decode prog_3_method_13_code 8 = .ok (.iload_n 1, 1) := by decide +kernel
theorem d_E_isBetween_9 : decode prog_3_method_13_code 9 = .ok (.aload_n 0, 1) := by decide +kernel
theorem d_E_isBetween_10 : decode prog_3_method_13_code 10 = .ok (.getfield 39, 3) := by decide +kernel
theorem d_E_isBetween_13 : decode prog_3_method_13_code 13 = .ok (.aload_n 0, 1) := by decide +kernel
theorem d_E_isBetween_14 : decode prog_3_method_13_code 14 = .ok (.getfield 78, 3) := by decide +kernel
theorem d_E_isBetween_17 : decode prog_3_method_13_code 17 = .ok (.invokestatic 128, 3) := by decide +kernel
theorem d_E_isBetween_20 : decode prog_3_method_13_code 20 = .ok (.if_icmp .lt 22, 3) := by decide +kernel
theorem d_E_isBetween_23 : decode prog_3_method_13_code 23 = .ok (.iload_n 1, 1) := by decide +kernel
theorem d_E_isBetween_24 : decode prog_3_method_13_code 24 = .ok (.aload_n 0, 1) := by decide +kernel
theorem d_E_isBetween_25 : decode prog_3_method_13_code 25 = .ok (.getfield 39, 3) := by decide +kernel
theorem d_E_isBetween_28 : decode prog_3_method_13_code 28 = .ok (.aload_n 0, 1) := by decide +kernel
theorem d_E_isBetween_29 : decode prog_3_method_13_code 29 = .ok (.getfield 78, 3) := by decide +kernel
theorem d_E_isBetween_32 : decode prog_3_method_13_code 32 = .ok (.invokestatic 134, 3) := by decide +kernel
theorem d_E_isBetween_35 : decode prog_3_method_13_code 35 = .ok (.if_icmp .ge 7, 3) := by decide +kernel
theorem d_E_isBetween_38 : decode prog_3_method_13_code 38 = .ok (.iconst 1, 1) := by decide +kernel
theorem d_E_isBetween_39 : decode prog_3_method_13_code 39 = .ok (.goto 4, 3) := by decide +kernel
theorem d_E_isBetween_42 : decode prog_3_method_13_code 42 = .ok (.iconst 0, 1) := by decide +kernel
theorem d_E_isBetween_43 : decode prog_3_method_13_code 43 = .ok (.ireturn, 1) := by decide +kernel
end
section
theorem d_G_has_0 : decode prog_4_method_2_code 0 = .ok (.iload_n 1, 1) := by decide +kernel
theorem d_G_has_1 : decode prog_4_method_2_code 1 = .ok (.ifCond .lt 27, 3) := by decide +kernel
theorem d_G_has_4 : decode prog_4_method_2_code 4 = .ok (.iload_n 1, 1) := by decide +kernel
theorem d_G_has_5 : decode prog_4_method_2_code 5 = .ok (.aload_n 0, 1) := by decide +kernel
theorem d_G_has_6 : decode prog_4_method_2_code 6 = .ok (.getfield 22, 3) := by decide +kernel
theorem d_G_has_9 : decode prog_4_method_2_code 9 = .ok (.if_icmp .ge 19, 3) := by decide +kernel
theorem d_G_has_12 : decode prog_4_method_2_code 12 = .ok (.iload_n 2, 1) := by decide +kernel
theorem d_G_has_13 : decode prog_4_method_2_code 13 = .ok (.ifCond .lt 15, 3) := by decide +kernel
theorem d_G_has_16 : decode prog_4_method_2_code 16 = .ok (.iload_n 2, 1) := by decide +kernel
theorem d_G_has_17 : decode prog_4_method_2_code 17 = .ok (.aload_n 0, 1) := by decide +kernel
theorem d_G_has_18 : decode prog_4_method_2_code 18 = .ok (.getfield 18, 3) := by decide +kernel
theorem d_G_has_21 : decode prog_4_method_2_code 21 = .ok (.if_icmp .ge 7, 3) := by decide +kernel
theorem d_G_has_24 : decode prog_4_method_2_code 24 = .ok (.iconst 1, 1) := by decide +kernel
theorem d_G_has_25 : decode prog_4_method_2_code 25 = .ok (.goto 4, 3) := by decide +kernel
theorem d_G_has_28 : decode prog_4_method_2_code 28 = .ok (.iconst 0, 1) := by decide +kernel
theorem d_G_has_29 : decode prog_4_method_2_code 29 = .ok (.ireturn, 1) := by decide +kernel
theorem d_G_clusterAt_0 : decode prog_4_method_3_code 0 = .ok (.aload_n 0, 1) := by decide +kernel
theorem d_G_clusterAt_1 : decode prog_4_method_3_code 1 = .ok (.iload_n 1, 1) := by decide +kernel
theorem d_G_clusterAt_2 : decode prog_4_method_3_code 2 = .ok (.iload_n 2, 1) := by decide +kernel
theorem d_G_clusterAt_3 : decode prog_4_method_3_code 3 = .ok (.invokevirtual 31, 3) := by decide +kernel
theorem d_G_clusterAt_6 : decode prog_4_method_3_code 6 = .ok (.ifCond .eq 17, 3) := by decide +kernel
theorem d_G_clusterAt_9 : decode prog_4_method_3_code 9 = .ok (.aload_n 0, 1) := by decide +kernel
theorem d_G_clusterAt_10 : decode prog_4_method_3_code 10 = .ok (.getfield 9, 3) := by decide +kernel
theorem d_G_clusterAt_13 : decode prog_4_method_3_code 13 = .ok (.iload_n 1, 1) := by decide +kernel
theorem d_G_clusterAt_14 : decode prog_4_method_3_code 14 = .ok (.bipush 24, 2) := by decide +kernel
theorem d_G_clusterAt_16 : decode prog_4_method_3_code 16 = .ok (.imul, 1) := by decide +kernel
theorem d_G_clusterAt_17 : decode prog_4_method_3_code 17 = .ok (.iload_n 2, 1) := by decide +kernel
theorem d_G_clusterAt_18 : decode prog_4_method_3_code 18 = .ok (.iadd, 1) := by decide +kernel
theorem d_G_clusterAt_19 : decode prog_4_method_3_code 19 = .ok (.iaload, 1) := by decide +kernel
theorem d_G_clusterAt_20 : decode prog_4_method_3_code 20 = .ok (.goto 4, 3) := by decide +kernel
theorem d_G_clusterAt_23 : decode prog_4_method_3_code 23 = .ok (.iconst (-1), 1) := by decide +kernel
theorem d_G_clusterAt_24 : decode prog_4_method_3_code 24 = .ok (.ireturn, 1) := by decide +kernel
theorem d_G_lookAt_0 : decode prog_4_method_4_code 0 = .ok (.aload_n 0, 1) := by decide +kernel
theorem d_G_lookAt_1 : decode prog_4_method_4_code 1 = .ok (.iload_n 1, 1) := by decide +kernel
theorem d_G_lookAt_2 : decode prog_4_method_4_code 2 = .ok (.iload_n 2, 1) := by decide +kernel
theorem d_G_lookAt_3 : decode prog_4_method_4_code 3 = .ok (.invokevirtual 31, 3) := by decide +kernel
theorem d_G_lookAt_6 : decode prog_4_method_4_code 6 = .ok (.ifCond .eq 17, 3) := by decide +kernel
theorem d_G_lookAt_9 : decode prog_4_method_4_code 9 = .ok (.aload_n 0, 1) := by decide +kernel
theorem d_G_lookAt_10 : decode prog_4_method_4_code 10 = .ok (.getfield 15, 3) := by decide +kernel
theorem d_G_lookAt_13 : decode prog_4_method_4_code 13 = .ok (.iload_n 1, 1) := by decide +kernel
theorem d_G_lookAt_14 : decode prog_4_method_4_code 14 = .ok (.bipush 24, 2) := by decide +kernel
theorem d_G_lookAt_16 : decode prog_4_method_4_code 16 = .ok (.imul, 1) := by decide +kernel
theorem d_G_lookAt_17 : decode prog_4_method_4_code 17 = .ok (.iload_n 2, 1) := by decide +kernel
theorem d_G_lookAt_18 : decode prog_4_method_4_code 18 = .ok (.iadd, 1) := by decide +kernel
theorem d_G_lookAt_19 : decode prog_4_method_4_code 19 = .ok (.iaload, 1) := by decide +kernel
theorem d_G_lookAt_20 : decode prog_4_method_4_code 20 = .ok (.goto 4, 3) := by decide +kernel
theorem d_G_lookAt_23 : decode prog_4_method_4_code 23 = .ok (.iconst (-1), 1) := by decide +kernel
theorem d_G_lookAt_24 : decode prog_4_method_4_code 24 = .ok (.ireturn, 1) := by decide +kernel
theorem d_G_put_0 : decode prog_4_method_5_code 0 = .ok (.aload_n 0, 1) := by decide +kernel
theorem d_G_put_1 : decode prog_4_method_5_code 1 = .ok (.iload_n 1, 1) := by decide +kernel
theorem d_G_put_2 : decode prog_4_method_5_code 2 = .ok (.iload_n 2, 1) := by decide +kernel
theorem d_G_put_3 : decode prog_4_method_5_code 3 = .ok (.invokevirtual 31, 3) := by decide +kernel
theorem d_G_put_6 : decode prog_4_method_5_code 6 = .ok (.ifCond .eq 28, 3) := by decide +kernel
theorem d_G_put_9 : decode prog_4_method_5_code 9 = .ok (.aload_n 0, 1) := by decide +kernel
theorem d_G_put_10 : decode prog_4_method_5_code 10 = .ok (.getfield 9, 3) := by decide +kernel
theorem d_G_put_13 : decode prog_4_method_5_code 13 = .ok (.iload_n 1, 1) := by decide +kernel
theorem d_G_put_14 : decode prog_4_method_5_code 14 = .ok (.bipush 24, 2) := by decide +kernel
theorem d_G_put_16 : decode prog_4_method_5_code 16 = .ok (.imul, 1) := by decide +kernel
theorem d_G_put_17 : decode prog_4_method_5_code 17 = .ok (.iload_n 2, 1) := by decide +kernel
theorem d_G_put_18 : decode prog_4_method_5_code 18 = .ok (.iadd, 1) := by decide +kernel
theorem d_G_put_19 : decode prog_4_method_5_code 19 = .ok (.iload_n 3, 1) := by decide +kernel
theorem d_G_put_20 : decode prog_4_method_5_code 20 = .ok (.iastore, 1) := by decide +kernel
theorem d_G_put_21 : decode prog_4_method_5_code 21 = .ok (.aload_n 0, 1) := by decide +kernel
theorem d_G_put_22 : decode prog_4_method_5_code 22 = .ok (.getfield 15, 3) := by decide +kernel
theorem d_G_put_25 : decode prog_4_method_5_code 25 = .ok (.iload_n 1, 1) := by decide +kernel
theorem d_G_put_26 : decode prog_4_method_5_code 26 = .ok (.bipush 24, 2) := by decide +kernel
theorem d_G_put_28 : decode prog_4_method_5_code 28 = .ok (.imul, 1) := by decide +kernel
theorem d_G_put_29 : decode prog_4_method_5_code 29 = .ok (.iload_n 2, 1) := by decide +kernel
theorem d_G_put_30 : decode prog_4_method_5_code 30 = .ok (.iadd, 1) := by decide +kernel
theorem d_G_put_31 : decode prog_4_method_5_code 31 = .ok (.iload 4, 2) := by decide +kernel
theorem d_G_put_33 : decode prog_4_method_5_code 33 = .ok (.iastore, 1) := by decide +kernel
theorem d_G_put_34 : decode prog_4_method_5_code 34 = .ok (.return_, 1) := by decide +kernel
theorem d_G_isBlank_0 : decode prog_4_method_6_code 0 = .ok (.aload_n 0, 1) := by decide +kernel
theorem d_G_isBlank_1 : decode prog_4_method_6_code 1 = .ok (.iload_n 1, 1) := by decide +kernel
theorem d_G_isBlank_2 : decode prog_4_method_6_code 2 = .ok (.iload_n 2, 1) := by decide +kernel
theorem d_G_isBlank_3 : decode prog_4_method_6_code 3 = .ok (.invokevirtual 35, 3) := by decide +kernel
theorem d_G_isBlank_6 : decode prog_4_method_6_code 6 = .ok (.bipush 32, 2) := by decide +kernel
theorem d_G_isBlank_8 : decode prog_4_method_6_code 8 = .ok (.if_icmp .ne 16, 3) := by decide +kernel
theorem d_G_isBlank_11 : decode prog_4_method_6_code 11 = .ok (.aload_n 0, 1) := by decide +kernel
theorem d_G_isBlank_12 : decode prog_4_method_6_code 12 = .ok (.iload_n 1, 1) := by decide +kernel
theorem d_G_isBlank_13 : decode prog_4_method_6_code 13 = .ok (.iload_n 2, 1) := by decide +kernel
theorem d_G_isBlank_14 : decode prog_4_method_6_code 14 = .ok (.invokevirtual 39, 3) := by decide +kernel
theorem d_G_isBlank_17 : decode prog_4_method_6_code 17 = .ok (.ifCond .ne 7, 3) := by decide +kernel
theorem d_G_isBlank_20 : decode prog_4_method_6_code 20 = .ok (.iconst 1, 1) := by decide +kernel
theorem d_G_isBlank_21 : decode prog_4_method_6_code 21 = .ok (.goto 4, 3) := by decide +kernel
theorem d_G_isBlank_24 : decode prog_4_method_6_code 24 = .ok (.iconst 0, 1) := by decide +kernel
theorem d_G_isBlank_25 : decode prog_4_method_6_code 25 = .ok (.ireturn, 1) := by decide +kernel
theorem d_G_isWideAt_0 : decode prog_4_method_7_code 0 = .ok (.aload_n 0, 1) := by decide +kernel
theorem d_G_isWideAt_1 : decode prog_4_method_7_code 1 = .ok (.iload_n 1, 1) := by decide +kernel
theorem d_G_isWideAt_2 : decode prog_4_method_7_code 2 = .ok (.iload_n 2, 1) := by decide +kernel
theorem d_G_isWideAt_3 : decode prog_4_method_7_code 3 = .ok (.invokevirtual 31, 3) := by decide +kernel
theorem d_G_isWideAt_6 : decode prog_4_method_7_code 6 = .ok (.ifCond .eq 22, 3) := by decide +kernel
theorem d_G_isWideAt_9 : decode prog_4_method_7_code 9 = .ok (.aload_n 0, 1) := by decide +kernel
theorem d_G_isWideAt_10 : decode prog_4_method_7_code 10 = .ok (.iload_n 1, 1) := by decide +kernel
theorem d_G_isWideAt_11 : decode prog_4_method_7_code 11 = .ok (.iload_n 2, 1) := by decide +kernel
theorem d_G_isWideAt_12 : decode prog_4_method_7_code 12 = .ok (.invokevirtual 35, 3) := by decide +kernel
theorem d_G_isWideAt_15 : decode prog_4_method_7_code 15 = .ok (.invokestatic 42, 3) := by decide +kernel
theorem d_G_isWideAt_18 : decode prog_4_method_7_code 18 = .ok (.invokestatic 48, 3) := by decide +kernel
theorem d_G_isWideAt_21 : decode prog_4_method_7_code 21 = .ok (.ifCond .eq 7, 3) := by decide +kernel
theorem d_G_isWideAt_24 : decode prog_4_method_7_code 24 = .ok (.iconst 1, 1) := by decide +kernel
theorem d_G_isWideAt_25 : decode prog_4_method_7_code 25 = .ok (.goto 4, 3) := by decide +kernel
theorem d_G_isWideAt_28 : decode prog_4_method_7_code 28 = .ok (.iconst 0, 1) := by decide +kernel
theorem d_G_isWideAt_29 : decode prog_4_method_7_code 29 = .ok (.ireturn, 1) := by decide +kernel
theorem d_G_blankAll_0 : decode prog_4_method_8_code 0 = .ok (.aload_n 0, 1) := by decide +kernel
theorem d_G_blankAll_1 : decode prog_4_method_8_code 1 = .ok (.getfield 9, 3) := by decide +kernel
theorem d_G_blankAll_4 : decode prog_4_method_8_code 4 = .ok (.bipush 32, 2) := by decide +kernel
theorem d_G_blankAll_6 : decode prog_4_method_8_code 6 = .ok (.invokestatic 25, 3) := by decide +kernel
theorem d_G_blankAll_9 : decode prog_4_method_8_code 9 = .ok (.aload_n 0, 1) := by decide +kernel
theorem d_G_blankAll_10 : decode prog_4_method_8_code 10 = .ok (.getfield 15, 3) := by decide +kernel
theorem d_G_blankAll_13 : decode prog_4_method_8_code 13 = .ok (.iconst 0, 1) := by decide +kernel
theorem d_G_blankAll_14 : decode prog_4_method_8_code 14 = .ok (.invokestatic 25, 3) := by decide +kernel
theorem d_G_blankAll_17 : decode prog_4_method_8_code 17 = .ok (.return_, 1) := by decide +kernel
theorem d_G_blankFrom_0 : decode prog_4_method_9_code 0 = .ok (.iload_n 2, 1) := by decide +kernel
theorem d_G_blankFrom_1 : decode prog_4_method_9_code 1 = .ok (.istore_n 3, 1) := by decide +kernel
theorem d_G_blankFrom_2 : decode prog_4_method_9_code 2 = .ok (.iload_n 3, 1) := by decide +kernel
theorem d_G_blankFrom_3 : decode prog_4_method_9_code 3 = .ok (.aload_n 0, 1) := by decide +kernel
theorem d_G_blankFrom_4 : decode prog_4_method_9_code 4 = .ok (.getfield 18, 3) := by decide +kernel
theorem d_G_blankFrom_7 : decode prog_4_method_9_code 7 = .ok (.if_icmp .ge 18, 3) := by decide +kernel
theorem d_G_blankFrom_10 : decode prog_4_method_9_code 10 = .ok (.aload_n 0, 1) := by decide +kernel
theorem d_G_blankFrom_11 : decode prog_4_method_9_code 11 = .ok (.iload_n 1, 1) := by decide +kernel
theorem d_G_blankFrom_12 : decode prog_4_method_9_code 12 = .ok (.iload_n 3, 1) := by decide +kernel
theorem d_G_blankFrom_13 : decode prog_4_method_9_code 13 = .ok (.bipush 32, 2) := by decide +kernel
theorem d_G_blankFrom_15 : decode prog_4_method_9_code 15 = .ok (.iconst 0, 1) := by decide +kernel
theorem d_G_blankFrom_16 : decode prog_4_method_9_code 16 = .ok (.invokevirtual 52, 3) := by decide +kernel
theorem d_G_blankFrom_19 : decode prog_4_method_9_code 19 = .ok (.iinc 3 1, 3) := by decide +kernel
theorem d_G_blankFrom_22 : decode prog_4_method_9_code 22 = .ok (.goto (-20), 3) := by decide +kernel
theorem d_G_blankFrom_25 : decode prog_4_method_9_code 25 = .ok (.return_, 1) := by decide +kernel
theorem d_G_resize_0 : decode prog_4_method_10_code 0 = .ok (.iconst 0, 1) := by decide +kernel
theorem d_G_resize_1 : decode prog_4_method_10_code 1 = .ok (.istore_n 3, 1) := by decide +kernel
theorem d_G_resize_2 : decode prog_4_method_10_code 2 = .ok (.iload_n 3, 1) := by decide +kernel
theorem d_G_resize_3 : decode prog_4_method_10_code 3 = .ok (.aload_n 0, 1) := by decide +kernel
theorem d_G_resize_4 : decode prog_4_method_10_code 4 = .ok (.getfield 22, 3) := by decide +kernel
theorem d_G_resize_7 : decode prog_4_method_10_code 7 = .ok (.if_icmp .ge 46, 3) := by decide +kernel
theorem d_G_resize_10 : decode prog_4_method_10_code 10 = .ok (.aload_n 0, 1) := by decide +kernel
theorem d_G_resize_11 : decode prog_4_method_10_code 11 = .ok (.iload_n 3, 1) := by decide +kernel
theorem d_G_resize_12 : decode prog_4_method_10_code 12 = .ok (.iload_n 3, 1) := by decide +kernel
theorem d_G_resize_13 : decode prog_4_method_10_code 13 = .ok (.iload_n 2, 1) := by decide +kernel
theorem d_G_resize_14 : decode prog_4_method_10_code 14 = .ok (.if_icmp .ge 7, 3) := by decide +kernel
theorem d_G_resize_17 : decode prog_4_method_10_code 17 = .ok (.iload_n 1, 1) := by decide +kernel
theorem d_G_resize_18 : decode prog_4_method_10_code 18 = .ok (.goto 4, 3) := by decide +kernel
theorem d_G_resize_21 : decode prog_4_method_10_code 21 = .ok (.iconst 0, 1) := by decide +kernel
theorem d_G_resize_22 : decode prog_4_method_10_code 22 = .ok (.invokevirtual 56, 3) := by decide +kernel
theorem d_G_resize_25 : decode prog_4_method_10_code 25 = .ok (.aload_n 0, 1) := by decide +kernel
theorem d_G_resize_26 : decode prog_4_method_10_code 26 = .ok (.iload_n 3, 1) := by decide +kernel
theorem d_G_resize_27 : decode prog_4_method_10_code 27 = .ok (.iload_n 1, 1) := by decide +kernel
theorem d_G_resize_28 : decode prog_4_method_10_code 28 = .ok (.iconst 1, 1) := by decide +kernel
theorem d_G_resize_29 : decode prog_4_method_10_code 29 = .ok (.isub, 1) := by decide +kernel
theorem d_G_resize_30 : decode prog_4_method_10_code 30 = .ok (.invokevirtual 60, 3) := by decide +kernel
theorem d_G_resize_33 : decode prog_4_method_10_code 33 = .ok (.ifCond .eq 14, 3) := by decide +kernel
theorem d_G_resize_36 : decode prog_4_method_10_code 36 = .ok (.aload_n 0, 1) := by decide +kernel
theorem d_G_resize_37 : decode prog_4_method_10_code 37 = .ok (.iload_n 3, 1) := by decide +kernel
theorem d_G_resize_38 : decode prog_4_method_10_code 38 = .ok (.iload_n 1, 1) := by decide +kernel
theorem d_G_resize_39 : decode prog_4_method_10_code 39 = .ok (.iconst 1, 1) := by decide +kernel
theorem d_G_resize_40 : decode prog_4_method_10_code 40 = .ok (.isub, 1) := by decide +kernel
theorem d_G_resize_41 : decode prog_4_method_10_code 41 = .ok (.bipush 32, 2) := by decide +kernel
theorem d_G_resize_43 : decode prog_4_method_10_code 43 = .ok (.iconst 0, 1) := by decide +kernel
theorem d_G_resize_44 : decode prog_4_method_10_code 44 = .ok (.invokevirtual 52, 3) := by decide +kernel
theorem d_G_resize_47 : decode prog_4_method_10_code 47 = .ok (.iinc 3 1, 3) := by decide +kernel
theorem d_G_resize_50 : decode prog_4_method_10_code 50 = .ok (.goto (-48), 3) := by decide +kernel
theorem d_G_resize_53 : decode prog_4_method_10_code 53 = .ok (.aload_n 0, 1) := by decide +kernel
theorem d_G_resize_54 : decode prog_4_method_10_code 54 = .ok (.iload_n 1, 1) := by decide +kernel
theorem d_G_resize_55 : decode prog_4_method_10_code 55 = .ok (.putfield 18, 3) := by decide +kernel
theorem d_G_resize_58 : decode prog_4_method_10_code 58 = .ok (.aload_n 0, 1) := by decide +kernel
theorem d_G_resize_59 : decode prog_4_method_10_code 59 = .ok (.iload_n 2, 1) := by decide +kernel
theorem d_G_resize_60 : decode prog_4_method_10_code 60 = .ok (.putfield 22, 3) := by decide +kernel
theorem d_G_resize_63 : decode prog_4_method_10_code 63 = .ok (.return_, 1) := by decide +kernel
theorem d_Z_write_0 : decode prog_10_method_2_code 0 = .ok (.iload_n 1, 1) := by decide +kernel
theorem d_Z_write_1 : decode prog_10_method_2_code 1 = .ok (.invokestatic 20, 3) := by decide +kernel
theorem d_Z_write_4 : decode prog_10_method_2_code 4 = .ok (.ifCond .eq 12, 3) := by decide +kernel
theorem d_Z_write_7 : decode prog_10_method_2_code 7 = .ok (.aload_n 0, 1) := by decide +kernel
theorem d_Z_write_8 : decode prog_10_method_2_code 8 = .ok (.iload_n 1, 1) := by decide +kernel
theorem d_Z_write_9 : decode prog_10_method_2_code 9 = .ok (.invokevirtual 26, 3) := by decide +kernel
theorem d_Z_write_12 : decode prog_10_method_2_code 12 = .ok (.ifCond .eq 4, 3) := by decide +kernel
theorem d_Z_write_15 : decode prog_10_method_2_code 15 = .ok (.return_, 1) := by decide +kernel
theorem d_Z_write_16 : decode prog_10_method_2_code 16 = .ok (.aload_n 0, 1) := by decide +kernel
theorem d_Z_write_17 : decode prog_10_method_2_code 17 = .ok (.getfield 29, 3) := by decide +kernel
theorem d_Z_write_20 : decode prog_10_method_2_code 20 = .ok (.ifCond .eq 30, 3) := by decide +kernel
theorem d_Z_write_23 : decode prog_10_method_2_code 23 = .ok (.aload_n 0, 1) := by decide +kernel
theorem d_Z_write_24 : decode prog_10_method_2_code 24 = .ok (.aload_n 0, 1) := by decide +kernel
theorem d_Z_write_25 : decode prog_10_method_2_code 25 = .ok (.getfield 33, 3) := by decide +kernel
theorem d_Z_write_28 : decode prog_10_method_2_code 28 = .ok (.iconst 1, 1) := by decide +kernel
theorem d_Z_write_29 : decode prog_10_method_2_code 29 = .ok (.iadd, 1) := by decide +kernel
theorem d_Z_write_30 : decode prog_10_method_2_code 30 = .ok (.aload_n 0, 1) := by decide +kernel
theorem d_Z_write_31 : decode prog_10_method_2_code 31 = .ok (.getfield 14, 3) := by decide +kernel
theorem d_Z_write_34 : decode prog_10_method_2_code 34 = .ok (.getfield 37, 3) := by decide +kernel
theorem d_Z_write_37 : decode prog_10_method_2_code 37 = .ok (.iconst 1, 1) := by decide +kernel
theorem d_Z_write_38 : decode prog_10_method_2_code 38 = .ok (.isub, 1) := by decide +kernel
theorem d_Z_write_39 : decode prog_10_method_2_code 39 = .ok (.invokestatic 40, 3) := by decide +kernel
theorem d_Z_write_42 : decode prog_10_method_2_code 42 = .ok (.putfield 33, 3) := by decide +kernel
theorem d_Z_write_45 : decode prog_10_method_2_code 45 = .ok (.aload_n 0, 1) := by decide +kernel
theorem d_Z_write_46 : decode prog_10_method_2_code 46 = .ok (.iconst 0, 1) := by decide +kernel
theorem d_Z_write_47 : decode prog_10_method_2_code 47 = .ok (.putfield 46, 3) := by decide +kernel
theorem d_Z_write_50 : decode prog_10_method_2_code 50 = .ok (.aload_n 0, 1) := by decide +kernel
theorem d_Z_write_51 : decode prog_10_method_2_code 51 = .ok (.getfield 46, 3) := by decide +kernel
theorem d_Z_write_54 : decode prog_10_method_2_code 54 = .ok (.iload_n 1, 1) := by decide +kernel
theorem d_Z_write_55 : decode prog_10_method_2_code 55 = .ok (.invokestatic 49, 3) := by decide +kernel
theorem d_Z_write_58 : decode prog_10_method_2_code 58 = .ok (.iadd, 1) := by decide +kernel
theorem d_Z_write_59 : decode prog_10_method_2_code 59 = .ok (.aload_n 0, 1) := by decide +kernel
theorem d_Z_write_60 : decode prog_10_method_2_code 60 = .ok (.getfield 14, 3) := by decide +kernel
theorem d_Z_write_63 : decode prog_10_method_2_code 63 = .ok (.getfield 53, 3) := by decide +kernel
theorem d_Z_write_66 : decode prog_10_method_2_code 66 = .ok (.if_icmp .gt 7, 3) := by decide +kernel
theorem d_Z_write_69 : decode prog_10_method_2_code 69 = .ok (.iconst 1, 1) := by decide +kernel
theorem d_Z_write_70 : decode prog_10_method_2_code 70 = .ok (.goto 4, 3) := by decide +kernel
theorem d_Z_write_73 : decode prog_10_method_2_code 73 = .ok (.iconst 0, 1) := by decide +kernel
theorem d_Z_write_74 : decode prog_10_method_2_code 74 = .ok (.istore_n 2, 1) := by decide +kernel
theorem d_Z_write_75 : decode prog_10_method_2_code 75 = .ok (.aload_n 0, 1) := by decide +kernel
theorem d_Z_write_76 : decode prog_10_method_2_code 76 = .ok (.iload_n 2, 1) := by decide +kernel
theorem d_Z_write_77 : decode prog_10_method_2_code 77 = .ok (.ifCond .eq 7, 3) := by decide +kernel
theorem d_Z_write_80 : decode prog_10_method_2_code 80 = .ok (.iload_n 1, 1) := by decide +kernel
theorem d_Z_write_81 : decode prog_10_method_2_code 81 = .ok (.goto 5, 3) := by decide +kernel
theorem d_Z_write_84 : decode prog_10_method_2_code 84 = .ok (.bipush 32, 2) := by decide +kernel
theorem d_Z_write_86 : decode prog_10_method_2_code 86 = .ok (.invokevirtual 56, 3) := by decide +kernel
theorem d_Z_write_89 : decode prog_10_method_2_code 89 = .ok (.return_, 1) := by decide +kernel
theorem d_Z_joins_0 : decode prog_10_method_3_code 0 = .ok (.aload_n 0, 1) := by decide +kernel
theorem d_Z_joins_1 : decode prog_10_method_3_code 1 = .ok (.getfield 14, 3) := by decide +kernel
theorem d_Z_joins_4 : decode prog_10_method_3_code 4 = .ok (.aload_n 0, 1) := by decide +kernel
theorem d_Z_joins_5 : decode prog_10_method_3_code 5 = .ok (.getfield 60, 3) := by decide +kernel
theorem d_Z_joins_8 : decode prog_10_method_3_code 8 = .ok (.aload_n 0, 1) := by decide +kernel
theorem d_Z_joins_9 : decode prog_10_method_3_code 9 = .ok (.getfield 63, 3) := by decide +kernel
theorem d_Z_joins_12 : decode prog_10_method_3_code 12 = .ok (.invokevirtual 66, 3) := by decide +kernel
theorem d_Z_joins_15 : decode prog_10_method_3_code 15 = .ok (.istore_n 2, 1) := by decide +kernel
theorem d_Z_joins_16 : decode prog_10_method_3_code 16 = .ok (.aload_n 0, 1) := by decide +kernel
theorem d_Z_joins_17 : decode prog_10_method_3_code 17 = .ok (.getfield 69, 3) := by decide +kernel
theorem d_Z_joins_20 : decode prog_10_method_3_code 20 = .ok (.ifCond .eq 11, 3) := by decide +kernel
theorem d_Z_joins_23 : decode prog_10_method_3_code 23 = .ok (.iload_n 2, 1) := by decide +kernel
theorem d_Z_joins_24 : decode prog_10_method_3_code 24 = .ok (.invokestatic 72, 3) := by decide +kernel
theorem d_Z_joins_27 : decode prog_10_method_3_code 27 = .ok (.iconst (-1), 1) := by decide +kernel
theorem d_Z_joins_28 : decode prog_10_method_3_code 28 = .ok (.if_icmp .eq 5, 3) := by decide +kernel
theorem d_Z_joins_31 : decode prog_10_method_3_code 31 = .ok (.iconst 0, 1) := by decide +kernel
theorem d_Z_joins_32 : decode prog_10_method_3_code 32 = .ok (.ireturn, 1) := by decide +kernel
theorem d_Z_joins_33 : decode prog_10_method_3_code 33 = .ok (.aload_n 0, 1) := by decide +kernel
theorem d_Z_joins_34 : decode prog_10_method_3_code 34 = .ok (.getfield 14, 3) := by decide +kernel
theorem d_Z_joins_37 : decode prog_10_method_3_code 37 = .ok (.aload_n 0, 1) := by decide +kernel
theorem d_Z_joins_38 : decode prog_10_method_3_code 38 = .ok (.getfield 60, 3) := by decide +kernel
theorem d_Z_joins_41 : decode prog_10_method_3_code 41 = .ok (.aload_n 0, 1) := by decide +kernel
theorem d_Z_joins_42 : decode prog_10_method_3_code 42 = .ok (.getfield 63, 3) := by decide +kernel
theorem d_Z_joins_45 : decode prog_10_method_3_code 45 = .ok (.iload_n 2, 1) := by decide +kernel
theorem d_Z_joins_46 : decode prog_10_method_3_code 46 = .ok (.iload_n 1, 1) := by decide +kernel
theorem d_Z_joins_47 : decode prog_10_method_3_code 47 = .ok (.invokestatic 75, 3) := by decide +kernel
theorem d_Z_joins_50 : decode prog_10_method_3_code 50 = .ok (.aload_n 0, 1) := by decide +kernel
theorem d_Z_joins_51 : decode prog_10_method_3_code 51 = .ok (.getfield 14, 3) := by decide +kernel
theorem d_Z_joins_54 : decode prog_10_method_3_code 54 = .ok (.aload_n 0, 1) := by decide +kernel
theorem d_Z_joins_55 : decode prog_10_method_3_code 55 = .ok (.getfield 60, 3) := by decide +kernel
theorem d_Z_joins_58 : decode prog_10_method_3_code 58 = .ok (.aload_n 0, 1) := by decide +kernel
theorem d_Z_joins_59 : decode prog_10_method_3_code 59 = .ok (.getfield 63, 3) := by decide +kernel
theorem d_Z_joins_62 : decode prog_10_method_3_code 62 = .ok (.invokevirtual 78, 3) := by decide +kernel
theorem d_Z_joins_65 : decode prog_10_method_3_code 65 = .ok (.invokevirtual 81, 3) := by decide +kernel
theorem d_Z_joins_68 : decode prog_10_method_3_code 68 = .ok (.iconst 1, 1) := by decide +kernel
theorem d_Z_joins_69 : decode prog_10_method_3_code 69 = .ok (.ireturn, 1) := by decide +kernel
theorem d_Z_writeCells_0 : decode prog_10_method_4_code 0 = .ok (.iload_n 1, 1) := by decide +kernel
theorem d_Z_writeCells_1 : decode prog_10_method_4_code 1 = .ok (.invokestatic 49, 3) := by decide +kernel
theorem d_Z_writeCells_4 : decode prog_10_method_4_code 4 = .ok (.istore_n 2, 1) := by decide +kernel
theorem d_Z_writeCells_5 : decode prog_10_method_4_code 5 = .ok (.aload_n 0, 1) := by decide +kernel
theorem d_Z_writeCells_6 : decode prog_10_method_4_code 6 = .ok (.getfield 14, 3) := by decide +kernel
theorem d_Z_writeCells_9 : decode prog_10_method_4_code 9 = .ok (.aload_n 0, 1) := by decide +kernel
theorem d_Z_writeCells_10 : decode prog_10_method_4_code 10 = .ok (.getfield 33, 3) := by decide +kernel
theorem d_Z_writeCells_13 : decode prog_10_method_4_code 13 = .ok (.aload_n 0, 1) := by decide +kernel
theorem d_Z_writeCells_14 : decode prog_10_method_4_code 14 = .ok (.getfield 46, 3) := by decide +kernel
theorem d_Z_writeCells_17 : decode prog_10_method_4_code 17 = .ok (.invokevirtual 66, 3) := by decide +kernel
theorem d_Z_writeCells_20 : decode prog_10_method_4_code 20 = .ok (.ifCond .ne 23, 3) := by decide +kernel
theorem d_Z_writeCells_23 : decode prog_10_method_4_code 23 = .ok (.aload_n 0, 1) := by decide +kernel
theorem d_Z_writeCells_24 : decode prog_10_method_4_code 24 = .ok (.getfield 14, 3) := by decide +kernel
theorem d_Z_writeCells_27 : decode prog_10_method_4_code 27 = .ok (.aload_n 0, 1) := by decide +kernel
theorem d_Z_writeCells_28 : decode prog_10_method_4_code 28 = .ok (.getfield 33, 3) := by decide +kernel
theorem d_Z_writeCells_31 : decode prog_10_method_4_code 31 = .ok (.aload_n 0, 1) := by decide +kernel
theorem d_Z_writeCells_32 : decode prog_10_method_4_code 32 = .ok (.getfield 46, 3) := by decide +kernel
theorem d_Z_writeCells_35 : decode prog_10_method_4_code 35 = .ok (.iconst 1, 1) := by decide +kernel
theorem d_Z_writeCells_36 : decode prog_10_method_4_code 36 = .ok (.isub, 1) := by decide +kernel
theorem d_Z_writeCells_37 : decode prog_10_method_4_code 37 = .ok (.bipush 32, 2) := by decide +kernel
theorem d_Z_writeCells_39 : decode prog_10_method_4_code 39 = .ok (.iconst 0, 1) := by decide +kernel
theorem d_Z_writeCells_40 : decode prog_10_method_4_code 40 = .ok (.invokevirtual 81, 3) := by decide +kernel
theorem d_Z_writeCells_43 : decode prog_10_method_4_code 43 = .ok (.aload_n 0, 1) := by decide +kernel
theorem d_Z_writeCells_44 : decode prog_10_method_4_code 44 = .ok (.getfield 14, 3) := by decide +kernel
theorem d_Z_writeCells_47 : decode prog_10_method_4_code 47 = .ok (.aload_n 0, 1) := by decide +kernel
theorem d_Z_writeCells_48 : decode prog_10_method_4_code 48 = .ok (.getfield 33, 3) := by decide +kernel
theorem d_Z_writeCells_51 : decode prog_10_method_4_code 51 = .ok (.aload_n 0, 1) := by decide +kernel
theorem d_Z_writeCells_52 : decode prog_10_method_4_code 52 = .ok (.getfield 46, 3) := by decide +kernel
theorem d_Z_writeCells_55 : decode prog_10_method_4_code 55 = .ok (.iload_n 2, 1) := by decide +kernel
theorem d_Z_writeCells_56 : decode prog_10_method_4_code 56 = .ok (.iadd, 1) := by decide +kernel
theorem d_Z_writeCells_57 : decode prog_10_method_4_code 57 = .ok (.invokevirtual 66, 3) := by decide +kernel
theorem d_Z_writeCells_60 : decode prog_10_method_4_code 60 = .ok (.ifCond .ne 23, 3) := by decide +kernel
theorem d_Z_writeCells_63 : decode prog_10_method_4_code 63 = .ok (.aload_n 0, 1) := by decide +kernel
theorem d_Z_writeCells_64 : decode prog_10_method_4_code 64 = .ok (.getfield 14, 3) := by decide +kernel
theorem d_Z_writeCells_67 : decode prog_10_method_4_code 67 = .ok (.aload_n 0, 1) := by decide +kernel
theorem d_Z_writeCells_68 : decode prog_10_method_4_code 68 = .ok (.getfield 33, 3) := by decide +kernel
theorem d_Z_writeCells_71 : decode prog_10_method_4_code 71 = .ok (.aload_n 0, 1) := by decide +kernel
theorem d_Z_writeCells_72 : decode prog_10_method_4_code 72 = .ok (.getfield 46, 3) := by decide +kernel
theorem d_Z_writeCells_75 : decode prog_10_method_4_code 75 = .ok (.iload_n 2, 1) := by decide +kernel
theorem d_Z_writeCells_76 : decode prog_10_method_4_code 76 = .ok (.iadd, 1) := by decide +kernel
theorem d_Z_writeCells_77 : decode prog_10_method_4_code 77 = .ok (.bipush 32, 2) := by decide +kernel
theorem d_Z_writeCells_79 : decode prog_10_method_4_code 79 = .ok (.iconst 0, 1) := by decide +kernel
theorem d_Z_writeCells_80 : decode prog_10_method_4_code 80 = .ok (.invokevirtual 81, 3) := by decide +kernel
theorem d_Z_writeCells_83 : decode prog_10_method_4_code 83 = .ok (.aload_n 0, 1) := by decide +kernel
theorem d_Z_writeCells_84 : decode prog_10_method_4_code 84 = .ok (.getfield 14, 3) := by decide +kernel
theorem d_Z_writeCells_87 : decode prog_10_method_4_code 87 = .ok (.aload_n 0, 1) := by decide +kernel
theorem d_Z_writeCells_88 : decode prog_10_method_4_code 88 = .ok (.getfield 33, 3) := by decide +kernel
theorem d_Z_writeCells_91 : decode prog_10_method_4_code 91 = .ok (.aload_n 0, 1) := by decide +kernel
theorem d_Z_writeCells_92 : decode prog_10_method_4_code 92 = .ok (.getfield 46, 3) := by decide +kernel
theorem d_Z_writeCells_95 : decode prog_10_method_4_code 95 = .ok (.iload_n 1, 1) := by decide +kernel
theorem d_Z_writeCells_96 : decode prog_10_method_4_code 96 = .ok (.aload_n 0, 1) := by decide +kernel
theorem d_Z_writeCells_97 : decode prog_10_method_4_code 97 = .ok (.getfield 85, 3) := by decide +kernel
theorem d_Z_writeCells_100 : decode prog_10_method_4_code 100 = .ok (.invokevirtual 81, 3) := by decide +kernel
theorem d_Z_writeCells_103 : decode prog_10_method_4_code 103 = .ok (.iload_n 2, 1) := by decide +kernel
theorem d_Z_writeCells_104 : decode prog_10_method_4_code 104 = .ok (.iconst 2, 1) := by decide +kernel
theorem d_Z_writeCells_105 : decode prog_10_method_4_code 105 = .ok (.if_icmp .ne 25, 3) := by decide +kernel
theorem d_Z_writeCells_108 : decode prog_10_method_4_code 108 = .ok (.aload_n 0, 1) := by decide +kernel
theorem d_Z_writeCells_109 : decode prog_10_method_4_code 109 = .ok (.getfield 14, 3) := by decide +kernel
theorem d_Z_writeCells_112 : decode prog_10_method_4_code 112 = .ok (.aload_n 0, 1) := by decide +kernel
theorem d_Z_writeCells_113 : decode prog_10_method_4_code 113 = .ok (.getfield 33, 3) := by decide +kernel
theorem d_Z_writeCells_116 : decode prog_10_method_4_code 116 = .ok (.aload_n 0, 1) := by decide +kernel
theorem d_Z_writeCells_117 : decode prog_10_method_4_code 117 = .ok (.getfield 46, 3) := by decide +kernel
theorem d_Z_writeCells_120 : decode prog_10_method_4_code 120 = .ok (.iconst 1, 1) := by decide +kernel
theorem d_Z_writeCells_121 : decode prog_10_method_4_code 121 = .ok (.iadd, 1) := by decide +kernel
theorem d_Z_writeCells_122 : decode prog_10_method_4_code 122 = .ok (.iconst 0, 1) := by decide +kernel
theorem d_Z_writeCells_123 : decode prog_10_method_4_code 123 = .ok (.aload_n 0, 1) := by decide +kernel
theorem d_Z_writeCells_124 : decode prog_10_method_4_code 124 = .ok (.getfield 85, 3) := by decide +kernel
theorem d_Z_writeCells_127 : decode prog_10_method_4_code 127 = .ok (.invokevirtual 81, 3) := by decide +kernel
theorem d_Z_writeCells_130 : decode prog_10_method_4_code 130 = .ok (.aload_n 0, 1) := by decide +kernel
theorem d_Z_writeCells_131 : decode prog_10_method_4_code 131 = .ok (.aload_n 0, 1) := by decide +kernel
theorem d_Z_writeCells_132 : decode prog_10_method_4_code 132 = .ok (.getfield 33, 3) := by decide +kernel
theorem d_Z_writeCells_135 : decode prog_10_method_4_code 135 = .ok (.putfield 60, 3) := by decide +kernel
theorem d_Z_writeCells_138 : decode prog_10_method_4_code 138 = .ok (.aload_n 0, 1) := by decide +kernel
theorem d_Z_writeCells_139 : decode prog_10_method_4_code 139 = .ok (.aload_n 0, 1) := by decide +kernel
theorem d_Z_writeCells_140 : decode prog_10_method_4_code 140 = .ok (.getfield 46, 3) := by decide +kernel
theorem d_Z_writeCells_143 : decode prog_10_method_4_code 143 = .ok (.putfield 63, 3) := by decide +kernel
theorem d_Z_writeCells_146 : decode prog_10_method_4_code 146 = .ok (.aload_n 0, 1) := by decide +kernel
theorem d_Z_writeCells_147 : decode prog_10_method_4_code 147 = .ok (.iconst 1, 1) := by decide +kernel
theorem d_Z_writeCells_148 : decode prog_10_method_4_code 148 = .ok (.putfield 69, 3) := by decide +kernel
theorem d_Z_writeCells_151 : decode prog_10_method_4_code 151 = .ok (.aload_n 0, 1) := by decide +kernel
theorem d_Z_writeCells_152 : decode prog_10_method_4_code 152 = .ok (.aload_n 0, 1) := by decide +kernel
theorem d_Z_writeCells_153 : decode prog_10_method_4_code 153 = .ok (.getfield 46, 3) := by decide +kernel
theorem d_Z_writeCells_156 : decode prog_10_method_4_code 156 = .ok (.iload_n 2, 1) := by decide +kernel
theorem d_Z_writeCells_157 : decode prog_10_method_4_code 157 = .ok (.iadd, 1) := by decide +kernel
theorem d_Z_writeCells_158 : decode prog_10_method_4_code 158 = .ok (.aload_n 0, 1) := by decide +kernel
theorem d_Z_writeCells_159 : decode prog_10_method_4_code 159 = .ok (.getfield 14, 3) := by decide +kernel
theorem d_Z_writeCells_162 : decode prog_10_method_4_code 162 = .ok (.getfield 53, 3) := by decide +kernel
theorem d_Z_writeCells_165 : decode prog_10_method_4_code 165 = .ok (.if_icmp .lt 7, 3) := by decide +kernel
theorem d_Z_writeCells_168 : decode prog_10_method_4_code 168 = .ok (.iconst 1, 1) := by decide +kernel
theorem d_Z_writeCells_169 : decode prog_10_method_4_code 169 = .ok (.goto 4, 3) := by decide +kernel
theorem d_Z_writeCells_172 : decode prog_10_method_4_code 172 = .ok (.iconst 0, 1) := by decide +kernel
theorem d_Z_writeCells_173 : decode prog_10_method_4_code 173 = .ok (.putfield 29, 3) := by decide +kernel
theorem d_Z_writeCells_176 : decode prog_10_method_4_code 176 = .ok (.aload_n 0, 1) := by decide +kernel
theorem d_Z_writeCells_177 : decode prog_10_method_4_code 177 = .ok (.aload_n 0, 1) := by decide +kernel
theorem d_Z_writeCells_178 : decode prog_10_method_4_code 178 = .ok (.getfield 46, 3) := by decide +kernel
theorem d_Z_writeCells_181 : decode prog_10_method_4_code 181 = .ok (.iload_n 2, 1) := by decide +kernel
theorem d_Z_writeCells_182 : decode prog_10_method_4_code 182 = .ok (.iadd, 1) := by decide +kernel
theorem d_Z_writeCells_183 : decode prog_10_method_4_code 183 = .ok (.aload_n 0, 1) := by decide +kernel
theorem d_Z_writeCells_184 : decode prog_10_method_4_code 184 = .ok (.getfield 14, 3) := by decide +kernel
theorem d_Z_writeCells_187 : decode prog_10_method_4_code 187 = .ok (.getfield 53, 3) := by decide +kernel
theorem d_Z_writeCells_190 : decode prog_10_method_4_code 190 = .ok (.iconst 1, 1) := by decide +kernel
theorem d_Z_writeCells_191 : decode prog_10_method_4_code 191 = .ok (.isub, 1) := by decide +kernel
theorem d_Z_writeCells_192 : decode prog_10_method_4_code 192 = .ok (.invokestatic 40, 3) := by decide +kernel
theorem d_Z_writeCells_195 : decode prog_10_method_4_code 195 = .ok (.putfield 46, 3) := by decide +kernel
theorem d_Z_writeCells_198 : decode prog_10_method_4_code 198 = .ok (.return_, 1) := by decide +kernel
theorem d_Z_moveTo_0 : decode prog_10_method_5_code 0 = .ok (.aload_n 0, 1) := by decide +kernel
theorem d_Z_moveTo_1 : decode prog_10_method_5_code 1 = .ok (.iload_n 1, 1) := by decide +kernel
theorem d_Z_moveTo_2 : decode prog_10_method_5_code 2 = .ok (.putfield 33, 3) := by decide +kernel
theorem d_Z_moveTo_5 : decode prog_10_method_5_code 5 = .ok (.aload_n 0, 1) := by decide +kernel
theorem d_Z_moveTo_6 : decode prog_10_method_5_code 6 = .ok (.iload_n 2, 1) := by decide +kernel
theorem d_Z_moveTo_7 : decode prog_10_method_5_code 7 = .ok (.putfield 46, 3) := by decide +kernel
theorem d_Z_moveTo_10 : decode prog_10_method_5_code 10 = .ok (.aload_n 0, 1) := by decide +kernel
theorem d_Z_moveTo_11 : decode prog_10_method_5_code 11 = .ok (.invokevirtual 88, 3) := by decide +kernel
theorem d_Z_moveTo_14 : decode prog_10_method_5_code 14 = .ok (.return_, 1) := by decide +kernel
theorem d_Z_eraseRestOfRow_0 : decode prog_10_method_6_code 0 = .ok (.aload_n 0, 1) := by decide +kernel
theorem d_Z_eraseRestOfRow_1 : decode prog_10_method_6_code 1 = .ok (.getfield 14, 3) := by decide +kernel
theorem d_Z_eraseRestOfRow_4 : decode prog_10_method_6_code 4 = .ok (.aload_n 0, 1) := by decide +kernel
theorem d_Z_eraseRestOfRow_5 : decode prog_10_method_6_code 5 = .ok (.getfield 33, 3) := by decide +kernel
theorem d_Z_eraseRestOfRow_8 : decode prog_10_method_6_code 8 = .ok (.aload_n 0, 1) := by decide +kernel
theorem d_Z_eraseRestOfRow_9 : decode prog_10_method_6_code 9 = .ok (.getfield 46, 3) := by decide +kernel
theorem d_Z_eraseRestOfRow_12 : decode prog_10_method_6_code 12 = .ok (.invokevirtual 91, 3) := by decide +kernel
theorem d_Z_eraseRestOfRow_15 : decode prog_10_method_6_code 15 = .ok (.aload_n 0, 1) := by decide +kernel
theorem d_Z_eraseRestOfRow_16 : decode prog_10_method_6_code 16 = .ok (.invokevirtual 88, 3) := by decide +kernel
theorem d_Z_eraseRestOfRow_19 : decode prog_10_method_6_code 19 = .ok (.return_, 1) := by decide +kernel
theorem d_Z_eraseAll_0 : decode prog_10_method_7_code 0 = .ok (.aload_n 0, 1) := by decide +kernel
theorem d_Z_eraseAll_1 : decode prog_10_method_7_code 1 = .ok (.getfield 14, 3) := by decide +kernel
theorem d_Z_eraseAll_4 : decode prog_10_method_7_code 4 = .ok (.invokevirtual 94, 3) := by decide +kernel
theorem d_Z_eraseAll_7 : decode prog_10_method_7_code 7 = .ok (.aload_n 0, 1) := by decide +kernel
theorem d_Z_eraseAll_8 : decode prog_10_method_7_code 8 = .ok (.invokevirtual 88, 3) := by decide +kernel
theorem d_Z_eraseAll_11 : decode prog_10_method_7_code 11 = .ok (.return_, 1) := by decide +kernel
theorem d_Z_resize_0 : decode prog_10_method_8_code 0 = .ok (.aload_n 0, 1) := by decide +kernel
theorem d_Z_resize_1 : decode prog_10_method_8_code 1 = .ok (.getfield 14, 3) := by decide +kernel
theorem d_Z_resize_4 : decode prog_10_method_8_code 4 = .ok (.iload_n 1, 1) := by decide +kernel
theorem d_Z_resize_5 : decode prog_10_method_8_code 5 = .ok (.iload_n 2, 1) := by decide +kernel
theorem d_Z_resize_6 : decode prog_10_method_8_code 6 = .ok (.invokevirtual 97, 3) := by decide +kernel
theorem d_Z_resize_9 : decode prog_10_method_8_code 9 = .ok (.aload_n 0, 1) := by decide +kernel
theorem d_Z_resize_10 : decode prog_10_method_8_code 10 = .ok (.iconst 0, 1) := by decide +kernel
theorem d_Z_resize_11 : decode prog_10_method_8_code 11 = .ok (.iconst 0, 1) := by decide +kernel
theorem d_Z_resize_12 : decode prog_10_method_8_code 12 = .ok (.invokevirtual 100, 3) := by decide +kernel
theorem d_Z_resize_15 : decode prog_10_method_8_code 15 = .ok (.return_, 1) := by decide +kernel
theorem d_Z_endWriting_0 : decode prog_10_method_9_code 0 = .ok (.aload_n 0, 1) := by decide +kernel
theorem d_Z_endWriting_1 : decode prog_10_method_9_code 1 = .ok (.iconst 0, 1) := by decide +kernel
theorem d_Z_endWriting_2 : decode prog_10_method_9_code 2 = .ok (.putfield 29, 3) := by decide +kernel
theorem d_Z_endWriting_5 : decode prog_10_method_9_code 5 = .ok (.aload_n 0, 1) := by decide +kernel
theorem d_Z_endWriting_6 : decode prog_10_method_9_code 6 = .ok (.iconst 0, 1) := by decide +kernel
theorem d_Z_endWriting_7 : decode prog_10_method_9_code 7 = .ok (.putfield 69, 3) := by decide +kernel
theorem d_Z_endWriting_10 : decode prog_10_method_9_code 10 = .ok (.return_, 1) := by decide +kernel
theorem d_S_compose_0 : decode prog_9_method_2_code 0 = .ok (.aload_n 0, 1) := by decide +kernel
theorem d_S_compose_1 : decode prog_9_method_2_code 1 = .ok (.getfield 23, 3) := by decide +kernel
theorem d_S_compose_4 : decode prog_9_method_2_code 4 = .ok (.invokevirtual 27, 3) := by decide +kernel
theorem d_S_compose_7 : decode prog_9_method_2_code 7 = .ok (.aload_n 0, 1) := by decide +kernel
theorem d_S_compose_8 : decode prog_9_method_2_code 8 = .ok (.iconst 0, 1) := by decide +kernel
theorem d_S_compose_9 : decode prog_9_method_2_code 9 = .ok (.putfield 30, 3) := by decide +kernel
theorem d_S_compose_12 : decode prog_9_method_2_code 12 = .ok (.aload_n 0, 1) := by decide +kernel
theorem d_S_compose_13 : decode prog_9_method_2_code 13 = .ok (.iconst 0, 1) := by decide +kernel
theorem d_S_compose_14 : decode prog_9_method_2_code 14 = .ok (.putfield 34, 3) := by decide +kernel
theorem d_S_compose_17 : decode prog_9_method_2_code 17 = .ok (.aload_n 0, 1) := by decide +kernel
theorem d_S_compose_18 : decode prog_9_method_2_code 18 = .ok (.getfield 23, 3) := by decide +kernel
theorem d_S_compose_21 : decode prog_9_method_2_code 21 = .ok (.getfield 37, 3) := by decide +kernel
theorem d_S_compose_24 : decode prog_9_method_2_code 24 = .ok (.iconst 4, 1) := by decide +kernel
theorem d_S_compose_25 : decode prog_9_method_2_code 25 = .ok (.if_icmp .lt 14, 3) := by decide +kernel
theorem d_S_compose_28 : decode prog_9_method_2_code 28 = .ok (.aload_n 0, 1) := by decide +kernel
theorem d_S_compose_29 : decode prog_9_method_2_code 29 = .ok (.getfield 23, 3) := by decide +kernel
theorem d_S_compose_32 : decode prog_9_method_2_code 32 = .ok (.getfield 40, 3) := by decide +kernel
theorem d_S_compose_35 : decode prog_9_method_2_code 35 = .ok (.iconst 2, 1) := by decide +kernel
theorem d_S_compose_36 : decode prog_9_method_2_code 36 = .ok (.if_icmp .ge 4, 3) := by decide +kernel
theorem d_S_compose_39 : decode prog_9_method_2_code 39 = .ok (.return_, 1) := by decide +kernel
theorem d_S_compose_40 : decode prog_9_method_2_code 40 = .ok (.aload_n 1, 1) := by decide +kernel
theorem d_S_compose_41 : decode prog_9_method_2_code 41 = .ok (.getfield 43, 3) := by decide +kernel
theorem d_S_compose_44 : decode prog_9_method_2_code 44 = .ok (.aload_n 1, 1) := by decide +kernel
theorem d_S_compose_45 : decode prog_9_method_2_code 45 = .ok (.getfield 49, 3) := by decide +kernel
theorem d_S_compose_48 : decode prog_9_method_2_code 48 = .ok (.aload_n 0, 1) := by decide +kernel
theorem d_S_compose_49 : decode prog_9_method_2_code 49 = .ok (.getfield 23, 3) := by decide +kernel
theorem d_S_compose_52 : decode prog_9_method_2_code 52 = .ok (.getfield 37, 3) := by decide +kernel
theorem d_S_compose_55 : decode prog_9_method_2_code 55 = .ok (.invokevirtual 53, 3) := by decide +kernel
theorem d_S_compose_58 : decode prog_9_method_2_code 58 = .ok (.aload_n 0, 1) := by decide +kernel
theorem d_S_compose_59 : decode prog_9_method_2_code 59 = .ok (.aload_n 1, 1) := by decide +kernel
theorem d_S_compose_60 : decode prog_9_method_2_code 60 = .ok (.getfield 43, 3) := by decide +kernel
theorem d_S_compose_63 : decode prog_9_method_2_code 63 = .ok (.getfield 59, 3) := by decide +kernel
theorem d_S_compose_66 : decode prog_9_method_2_code 66 = .ok (.aload_n 1, 1) := by decide +kernel
theorem d_S_compose_67 : decode prog_9_method_2_code 67 = .ok (.getfield 63, 3) := by decide +kernel
theorem d_S_compose_70 : decode prog_9_method_2_code 70 = .ok (.iaload, 1) := by decide +kernel
theorem d_S_compose_71 : decode prog_9_method_2_code 71 = .ok (.invokevirtual 66, 3) := by decide +kernel
theorem d_S_compose_74 : decode prog_9_method_2_code 74 = .ok (.aload_n 0, 1) := by decide +kernel
theorem d_S_compose_75 : decode prog_9_method_2_code 75 = .ok (.aload_n 1, 1) := by decide +kernel
theorem d_S_compose_76 : decode prog_9_method_2_code 76 = .ok (.getfield 43, 3) := by decide +kernel
theorem d_S_compose_79 : decode prog_9_method_2_code 79 = .ok (.getfield 70, 3) := by decide +kernel
theorem d_S_compose_82 : decode prog_9_method_2_code 82 = .ok (.aload_n 1, 1) := by decide +kernel
theorem d_S_compose_83 : decode prog_9_method_2_code 83 = .ok (.getfield 63, 3) := by decide +kernel
theorem d_S_compose_86 : decode prog_9_method_2_code 86 = .ok (.iaload, 1) := by decide +kernel
theorem d_S_compose_87 : decode prog_9_method_2_code 87 = .ok (.putfield 34, 3) := by decide +kernel
theorem d_S_compose_90 : decode prog_9_method_2_code 90 = .ok (.iconst 0, 1) := by decide +kernel
theorem d_S_compose_91 : decode prog_9_method_2_code 91 = .ok (.istore_n 2, 1) := by decide +kernel
theorem d_S_compose_92 : decode prog_9_method_2_code 92 = .ok (.iload_n 2, 1) := by decide +kernel
theorem d_S_compose_93 : decode prog_9_method_2_code 93 = .ok (.aload_n 1, 1) := by decide +kernel
theorem d_S_compose_94 : decode prog_9_method_2_code 94 = .ok (.getfield 49, 3) := by decide +kernel
theorem d_S_compose_97 : decode prog_9_method_2_code 97 = .ok (.getfield 73, 3) := by decide +kernel
theorem d_S_compose_100 : decode prog_9_method_2_code 100 = .ok (.if_icmp .gt 15, 3) := by decide +kernel
theorem d_S_compose_103 : decode prog_9_method_2_code 103 = .ok (.aload_n 0, 1) := by decide +kernel
theorem d_S_compose_104 : decode prog_9_method_2_code 104 = .ok (.aload_n 1, 1) := by decide +kernel
theorem d_S_compose_105 : decode prog_9_method_2_code 105 = .ok (.iload_n 2, 1) := by decide +kernel
theorem d_S_compose_106 : decode prog_9_method_2_code 106 = .ok (.invokevirtual 78, 3) := by decide +kernel
theorem d_S_compose_109 : decode prog_9_method_2_code 109 = .ok (.iinc 2 1, 3) := by decide +kernel
theorem d_S_compose_112 : decode prog_9_method_2_code 112 = .ok (.goto (-20), 3) := by decide +kernel
theorem d_S_compose_115 : decode prog_9_method_2_code 115 = .ok (.aload_n 0, 1) := by decide +kernel
theorem d_S_compose_116 : decode prog_9_method_2_code 116 = .ok (.aload_n 1, 1) := by decide +kernel
theorem d_S_compose_117 : decode prog_9_method_2_code 117 = .ok (.invokevirtual 82, 3) := by decide +kernel
theorem d_S_compose_120 : decode prog_9_method_2_code 120 = .ok (.return_, 1) := by decide +kernel
theorem d_S_follow_0 : decode prog_9_method_3_code 0 = .ok (.iload_n 1, 1) := by decide +kernel
theorem d_S_follow_1 : decode prog_9_method_3_code 1 = .ok (.aload_n 0, 1) := by decide +kernel
theorem d_S_follow_2 : decode prog_9_method_3_code 2 = .ok (.getfield 86, 3) := by decide +kernel
theorem d_S_follow_5 : decode prog_9_method_3_code 5 = .ok (.if_icmp .ge 11, 3) := by decide +kernel
theorem d_S_follow_8 : decode prog_9_method_3_code 8 = .ok (.aload_n 0, 1) := by decide +kernel
theorem d_S_follow_9 : decode prog_9_method_3_code 9 = .ok (.iload_n 1, 1) := by decide +kernel
theorem d_S_follow_10 : decode prog_9_method_3_code 10 = .ok (.putfield 86, 3) := by decide +kernel
theorem d_S_follow_13 : decode prog_9_method_3_code 13 = .ok (.goto 36, 3) := by decide +kernel
theorem d_S_follow_16 : decode prog_9_method_3_code 16 = .ok (.iload_n 1, 1) := by decide +kernel
theorem d_S_follow_17 : decode prog_9_method_3_code 17 = .ok (.aload_n 0, 1) := by decide +kernel
theorem d_S_follow_18 : decode prog_9_method_3_code 18 = .ok (.getfield 86, 3) := by decide +kernel
theorem d_S_follow_21 : decode prog_9_method_3_code 21 = .ok (.aload_n 0, 1) := by decide +kernel
theorem d_S_follow_22 : decode prog_9_method_3_code 22 = .ok (.getfield 23, 3) := by decide +kernel
theorem d_S_follow_25 : decode prog_9_method_3_code 25 = .ok (.getfield 40, 3) := by decide +kernel
theorem d_S_follow_28 : decode prog_9_method_3_code 28 = .ok (.iadd, 1) := by decide +kernel
theorem d_S_follow_29 : decode prog_9_method_3_code 29 = .ok (.iconst 1, 1) := by decide +kernel
theorem d_S_follow_30 : decode prog_9_method_3_code 30 = .ok (.isub, 1) := by decide +kernel
theorem d_S_follow_31 : decode prog_9_method_3_code 31 = .ok (.if_icmp .lt 18, 3) := by decide +kernel
theorem d_S_follow_34 : decode prog_9_method_3_code 34 = .ok (.aload_n 0, 1) := by decide +kernel
theorem d_S_follow_35 : decode prog_9_method_3_code 35 = .ok (.iload_n 1, 1) := by decide +kernel
theorem d_S_follow_36 : decode prog_9_method_3_code 36 = .ok (.aload_n 0, 1) := by decide +kernel
theorem d_S_follow_37 : decode prog_9_method_3_code 37 = .ok (.getfield 23, 3) := by decide +kernel
theorem d_S_follow_40 : decode prog_9_method_3_code 40 = .ok (.getfield 40, 3) := by decide +kernel
theorem d_S_follow_43 : decode prog_9_method_3_code 43 = .ok (.iconst 2, 1) := by decide +kernel
theorem d_S_follow_44 : decode prog_9_method_3_code 44 = .ok (.isub, 1) := by decide +kernel
theorem d_S_follow_45 : decode prog_9_method_3_code 45 = .ok (.isub, 1) := by decide +kernel
theorem d_S_follow_46 : decode prog_9_method_3_code 46 = .ok (.putfield 86, 3) := by decide +kernel
theorem d_S_follow_49 : decode prog_9_method_3_code 49 = .ok (.aload_n 0, 1) := by decide +kernel
theorem d_S_follow_50 : decode prog_9_method_3_code 50 = .ok (.iload_n 1, 1) := by decide +kernel
theorem d_S_follow_51 : decode prog_9_method_3_code 51 = .ok (.aload_n 0, 1) := by decide +kernel
theorem d_S_follow_52 : decode prog_9_method_3_code 52 = .ok (.getfield 86, 3) := by decide +kernel
theorem d_S_follow_55 : decode prog_9_method_3_code 55 = .ok (.isub, 1) := by decide +kernel
theorem d_S_follow_56 : decode prog_9_method_3_code 56 = .ok (.putfield 30, 3) := by decide +kernel
theorem d_S_follow_59 : decode prog_9_method_3_code 59 = .ok (.return_, 1) := by decide +kernel
theorem d_S_showCluster_0 : decode prog_9_method_4_code 0 = .ok (.aload_n 1, 1) := by decide +kernel
theorem d_S_showCluster_1 : decode prog_9_method_4_code 1 = .ok (.getfield 43, 3) := by decide +kernel
theorem d_S_showCluster_4 : decode prog_9_method_4_code 4 = .ok (.astore_n 3, 1) := by decide +kernel
theorem d_S_showCluster_5 : decode prog_9_method_4_code 5 = .ok (.aload_n 3, 1) := by decide +kernel
theorem d_S_showCluster_6 : decode prog_9_method_4_code 6 = .ok (.getfield 59, 3) := by decide +kernel
theorem d_S_showCluster_9 : decode prog_9_method_4_code 9 = .ok (.iload_n 2, 1) := by decide +kernel
theorem d_S_showCluster_10 : decode prog_9_method_4_code 10 = .ok (.iaload, 1) := by decide +kernel
theorem d_S_showCluster_11 : decode prog_9_method_4_code 11 = .ok (.aload_n 0, 1) := by decide +kernel
theorem d_S_showCluster_12 : decode prog_9_method_4_code 12 = .ok (.getfield 86, 3) := by decide +kernel
theorem d_S_showCluster_15 : decode prog_9_method_4_code 15 = .ok (.isub, 1) := by decide +kernel
theorem d_S_showCluster_16 : decode prog_9_method_4_code 16 = .ok (.istore 4, 2) := by decide +kernel
theorem d_S_showCluster_18 : decode prog_9_method_4_code 18 = .ok (.aload_n 3, 1) := by decide +kernel
theorem d_S_showCluster_19 : decode prog_9_method_4_code 19 = .ok (.getfield 59, 3) := by decide +kernel
theorem d_S_showCluster_22 : decode prog_9_method_4_code 22 = .ok (.iload_n 2, 1) := by decide +kernel
theorem d_S_showCluster_23 : decode prog_9_method_4_code 23 = .ok (.iaload, 1) := by decide +kernel
theorem d_S_showCluster_24 : decode prog_9_method_4_code 24 = .ok (.iconst (-1), 1) := by decide +kernel
theorem d_S_showCluster_25 : decode prog_9_method_4_code 25 = .ok (.if_icmp .eq 22, 3) := by decide +kernel
theorem d_S_showCluster_28 : decode prog_9_method_4_code 28 = .ok (.iload 4, 2) := by decide +kernel
theorem d_S_showCluster_30 : decode prog_9_method_4_code 30 = .ok (.ifCond .lt 17, 3) := by decide +kernel
theorem d_S_showCluster_33 : decode prog_9_method_4_code 33 = .ok (.iload 4, 2) := by decide +kernel
theorem d_S_showCluster_35 : decode prog_9_method_4_code 35 = .ok (.aload_n 0, 1) := by decide +kernel
theorem d_S_showCluster_36 : decode prog_9_method_4_code 36 = .ok (.getfield 23, 3) := by decide +kernel
theorem d_S_showCluster_39 : decode prog_9_method_4_code 39 = .ok (.getfield 40, 3) := by decide +kernel
theorem d_S_showCluster_42 : decode prog_9_method_4_code 42 = .ok (.iconst 2, 1) := by decide +kernel
theorem d_S_showCluster_43 : decode prog_9_method_4_code 43 = .ok (.isub, 1) := by decide +kernel
theorem d_S_showCluster_44 : decode prog_9_method_4_code 44 = .ok (.if_icmp .le 4, 3) := by decide +kernel
theorem d_S_showCluster_47 : decode prog_9_method_4_code 47 = .ok (.return_, 1) := by decide +kernel
theorem d_S_showCluster_48 : decode prog_9_method_4_code 48 = .ok (.aload_n 3, 1) := by decide +kernel
theorem d_S_showCluster_49 : decode prog_9_method_4_code 49 = .ok (.getfield 70, 3) := by decide +kernel
theorem d_S_showCluster_52 : decode prog_9_method_4_code 52 = .ok (.iload_n 2, 1) := by decide +kernel
theorem d_S_showCluster_53 : decode prog_9_method_4_code 53 = .ok (.iaload, 1) := by decide +kernel
theorem d_S_showCluster_54 : decode prog_9_method_4_code 54 = .ok (.istore 5, 2) := by decide +kernel
theorem d_S_showCluster_56 : decode prog_9_method_4_code 56 = .ok (.aload_n 1, 1) := by decide +kernel
theorem d_S_showCluster_57 : decode prog_9_method_4_code 57 = .ok (.iload_n 2, 1) := by decide +kernel
theorem d_S_showCluster_58 : decode prog_9_method_4_code 58 = .ok (.invokevirtual 89, 3) := by decide +kernel
theorem d_S_showCluster_61 : decode prog_9_method_4_code 61 = .ok (.ifCond .eq 7, 3) := by decide +kernel
theorem d_S_showCluster_64 : decode prog_9_method_4_code 64 = .ok (.iconst 2, 1) := by decide +kernel
theorem d_S_showCluster_65 : decode prog_9_method_4_code 65 = .ok (.goto 4, 3) := by decide +kernel
theorem d_S_showCluster_68 : decode prog_9_method_4_code 68 = .ok (.iconst 0, 1) := by decide +kernel
theorem d_S_showCluster_69 : decode prog_9_method_4_code 69 = .ok (.istore 6, 2) := by decide +kernel
theorem d_S_showCluster_71 : decode prog_9_method_4_code 71 = .ok (.aload_n 1, 1) := by decide +kernel
theorem d_S_showCluster_72 : decode prog_9_method_4_code 72 = .ok (.getfield 49, 3) := by decide +kernel
theorem d_S_showCluster_75 : decode prog_9_method_4_code 75 = .ok (.iload_n 2, 1) := by decide +kernel
theorem d_S_showCluster_76 : decode prog_9_method_4_code 76 = .ok (.invokevirtual 93, 3) := by decide +kernel
theorem d_S_showCluster_79 : decode prog_9_method_4_code 79 = .ok (.istore 7, 2) := by decide +kernel
theorem d_S_showCluster_81 : decode prog_9_method_4_code 81 = .ok (.aload_n 0, 1) := by decide +kernel
theorem d_S_showCluster_82 : decode prog_9_method_4_code 82 = .ok (.getfield 23, 3) := by decide +kernel
theorem d_S_showCluster_85 : decode prog_9_method_4_code 85 = .ok (.iload 4, 2) := by decide +kernel
theorem d_S_showCluster_87 : decode prog_9_method_4_code 87 = .ok (.iload 5, 2) := by decide +kernel
theorem d_S_showCluster_89 : decode prog_9_method_4_code 89 = .ok (.iload 7, 2) := by decide +kernel
theorem d_S_showCluster_91 : decode prog_9_method_4_code 91 = .ok (.iload 6, 2) := by decide +kernel
theorem d_S_showCluster_93 : decode prog_9_method_4_code 93 = .ok (.invokevirtual 97, 3) := by decide +kernel
theorem d_S_showCluster_96 : decode prog_9_method_4_code 96 = .ok (.iload 7, 2) := by decide +kernel
theorem d_S_showCluster_98 : decode prog_9_method_4_code 98 = .ok (.bipush 32, 2) := by decide +kernel
theorem d_S_showCluster_100 : decode prog_9_method_4_code 100 = .ok (.if_icmp .ne 8, 3) := by decide +kernel
theorem d_S_showCluster_103 : decode prog_9_method_4_code 103 = .ok (.bipush 32, 2) := by decide +kernel
theorem d_S_showCluster_105 : decode prog_9_method_4_code 105 = .ok (.goto 4, 3) := by decide +kernel
theorem d_S_showCluster_108 : decode prog_9_method_4_code 108 = .ok (.iconst 0, 1) := by decide +kernel
theorem d_S_showCluster_109 : decode prog_9_method_4_code 109 = .ok (.istore 8, 2) := by decide +kernel
theorem d_S_showCluster_111 : decode prog_9_method_4_code 111 = .ok (.iconst 1, 1) := by decide +kernel
theorem d_S_showCluster_112 : decode prog_9_method_4_code 112 = .ok (.istore 9, 2) := by decide +kernel
theorem d_S_showCluster_114 : decode prog_9_method_4_code 114 = .ok (.iload 9, 2) := by decide +kernel
theorem d_S_showCluster_116 : decode prog_9_method_4_code 116 = .ok (.aload_n 3, 1) := by decide +kernel
theorem d_S_showCluster_117 : decode prog_9_method_4_code 117 = .ok (.getfield 101, 3) := by decide +kernel
theorem d_S_showCluster_120 : decode prog_9_method_4_code 120 = .ok (.iload_n 2, 1) := by decide +kernel
theorem d_S_showCluster_121 : decode prog_9_method_4_code 121 = .ok (.iaload, 1) := by decide +kernel
theorem d_S_showCluster_122 : decode prog_9_method_4_code 122 = .ok (.if_icmp .ge 27, 3) := by decide +kernel
theorem d_S_showCluster_125 : decode prog_9_method_4_code 125 = .ok (.aload_n 0, 1) := by decide +kernel
theorem d_S_showCluster_126 : decode prog_9_method_4_code 126 = .ok (.getfield 23, 3) := by decide +kernel
theorem d_S_showCluster_129 : decode prog_9_method_4_code 129 = .ok (.iload 4, 2) := by decide +kernel
theorem d_S_showCluster_131 : decode prog_9_method_4_code 131 = .ok (.iload 5, 2) := by decide +kernel
theorem d_S_showCluster_133 : decode prog_9_method_4_code 133 = .ok (.iload 9, 2) := by decide +kernel
theorem d_S_showCluster_135 : decode prog_9_method_4_code 135 = .ok (.iadd, 1) := by decide +kernel
theorem d_S_showCluster_136 : decode prog_9_method_4_code 136 = .ok (.iload 8, 2) := by decide +kernel
theorem d_S_showCluster_138 : decode prog_9_method_4_code 138 = .ok (.iload 6, 2) := by decide +kernel
theorem d_S_showCluster_140 : decode prog_9_method_4_code 140 = .ok (.invokevirtual 97, 3) := by decide +kernel
theorem d_S_showCluster_143 : decode prog_9_method_4_code 143 = .ok (.iinc 9 1, 3) := by decide +kernel
theorem d_S_showCluster_146 : decode prog_9_method_4_code 146 = .ok (.goto (-32), 3) := by decide +kernel
theorem d_S_showCluster_149 : decode prog_9_method_4_code 149 = .ok (.return_, 1) := by decide +kernel
theorem d_S_showStatus_0 : decode prog_9_method_5_code 0 = .ok (.aload_n 0, 1) := by decide +kernel
theorem d_S_showStatus_1 : decode prog_9_method_5_code 1 = .ok (.getfield 12, 3) := by decide +kernel
theorem d_S_showStatus_4 : decode prog_9_method_5_code 4 = .ok (.iconst 0, 1) := by decide +kernel
theorem d_S_showStatus_5 : decode prog_9_method_5_code 5 = .ok (.invokevirtual 104, 3) := by decide +kernel
theorem d_S_showStatus_8 : decode prog_9_method_5_code 8 = .ok (.aload_n 0, 1) := by decide +kernel
theorem d_S_showStatus_9 : decode prog_9_method_5_code 9 = .ok (.getfield 12, 3) := by decide +kernel
theorem d_S_showStatus_12 : decode prog_9_method_5_code 12 = .ok (.aload_n 1, 1) := by decide +kernel
theorem d_S_showStatus_13 : decode prog_9_method_5_code 13 = .ok (.getfield 49, 3) := by decide +kernel
theorem d_S_showStatus_16 : decode prog_9_method_5_code 16 = .ok (.aload_n 1, 1) := by decide +kernel
theorem d_S_showStatus_17 : decode prog_9_method_5_code 17 = .ok (.getfield 63, 3) := by decide +kernel
theorem d_S_showStatus_20 : decode prog_9_method_5_code 20 = .ok (.invokevirtual 107, 3) := by decide +kernel
theorem d_S_showStatus_23 : decode prog_9_method_5_code 23 = .ok (.invokevirtual 110, 3) := by decide +kernel
theorem d_S_showStatus_26 : decode prog_9_method_5_code 26 = .ok (.pop, 1) := by decide +kernel
theorem d_S_showStatus_27 : decode prog_9_method_5_code 27 = .ok (.aload_n 0, 1) := by decide +kernel
theorem d_S_showStatus_28 : decode prog_9_method_5_code 28 = .ok (.getfield 12, 3) := by decide +kernel
theorem d_S_showStatus_31 : decode prog_9_method_5_code 31 = .ok (.bipush 58, 2) := by decide +kernel
theorem d_S_showStatus_33 : decode prog_9_method_5_code 33 = .ok (.invokevirtual 114, 3) := by decide +kernel
theorem d_S_showStatus_36 : decode prog_9_method_5_code 36 = .ok (.pop, 1) := by decide +kernel
theorem d_S_showStatus_37 : decode prog_9_method_5_code 37 = .ok (.aload_n 0, 1) := by decide +kernel
theorem d_S_showStatus_38 : decode prog_9_method_5_code 38 = .ok (.getfield 12, 3) := by decide +kernel
theorem d_S_showStatus_41 : decode prog_9_method_5_code 41 = .ok (.aload_n 0, 1) := by decide +kernel
theorem d_S_showStatus_42 : decode prog_9_method_5_code 42 = .ok (.getfield 34, 3) := by decide +kernel
theorem d_S_showStatus_45 : decode prog_9_method_5_code 45 = .ok (.iconst 1, 1) := by decide +kernel
theorem d_S_showStatus_46 : decode prog_9_method_5_code 46 = .ok (.iadd, 1) := by decide +kernel
theorem d_S_showStatus_47 : decode prog_9_method_5_code 47 = .ok (.invokevirtual 110, 3) := by decide +kernel
theorem d_S_showStatus_50 : decode prog_9_method_5_code 50 = .ok (.pop, 1) := by decide +kernel
theorem d_S_showStatus_51 : decode prog_9_method_5_code 51 = .ok (.aload_n 1, 1) := by decide +kernel
theorem d_S_showStatus_52 : decode prog_9_method_5_code 52 = .ok (.getfield 117, 3) := by decide +kernel
theorem d_S_showStatus_55 : decode prog_9_method_5_code 55 = .ok (.getfield 121, 3) := by decide +kernel
theorem d_S_showStatus_58 : decode prog_9_method_5_code 58 = .ok (.ifCond .le 13, 3) := by decide +kernel
theorem d_S_showStatus_61 : decode prog_9_method_5_code 61 = .ok (.aload_n 0, 1) := by decide +kernel
theorem d_S_showStatus_62 : decode prog_9_method_5_code 62 = .ok (.getfield 12, 3) := by decide +kernel
theorem d_S_showStatus_65 : decode prog_9_method_5_code 65 = .ok (.bipush 42, 2) := by decide +kernel
theorem d_S_showStatus_67 : decode prog_9_method_5_code 67 = .ok (.invokevirtual 114, 3) := by decide +kernel
theorem d_S_showStatus_70 : decode prog_9_method_5_code 70 = .ok (.pop, 1) := by decide +kernel
theorem d_S_showStatus_71 : decode prog_9_method_5_code 71 = .ok (.iconst 0, 1) := by decide +kernel
theorem d_S_showStatus_72 : decode prog_9_method_5_code 72 = .ok (.istore_n 2, 1) := by decide +kernel
theorem d_S_showStatus_73 : decode prog_9_method_5_code 73 = .ok (.iload_n 2, 1) := by decide +kernel
theorem d_S_showStatus_74 : decode prog_9_method_5_code 74 = .ok (.aload_n 0, 1) := by decide +kernel
theorem d_S_showStatus_75 : decode prog_9_method_5_code 75 = .ok (.getfield 23, 3) := by decide +kernel
theorem d_S_showStatus_78 : decode prog_9_method_5_code 78 = .ok (.getfield 37, 3) := by decide +kernel
theorem d_S_showStatus_81 : decode prog_9_method_5_code 81 = .ok (.if_icmp .ge 53, 3) := by decide +kernel
theorem d_S_showStatus_84 : decode prog_9_method_5_code 84 = .ok (.iload_n 2, 1) := by decide +kernel
theorem d_S_showStatus_85 : decode prog_9_method_5_code 85 = .ok (.aload_n 0, 1) := by decide +kernel
theorem d_S_showStatus_86 : decode prog_9_method_5_code 86 = .ok (.getfield 12, 3) := by decide +kernel
theorem d_S_showStatus_89 : decode prog_9_method_5_code 89 = .ok (.invokevirtual 126, 3) := by decide +kernel
theorem d_S_showStatus_92 : decode prog_9_method_5_code 92 = .ok (.if_icmp .ge 14, 3) := by decide +kernel
theorem d_S_showStatus_95 : decode prog_9_method_5_code 95 = .ok (.aload_n 0, 1) := by decide +kernel
theorem d_S_showStatus_96 : decode prog_9_method_5_code 96 = .ok (.getfield 12, 3) := by decide +kernel
theorem d_S_showStatus_99 : decode prog_9_method_5_code 99 = .ok (.iload_n 2, 1) := by decide +kernel
theorem d_S_showStatus_100 : decode prog_9_method_5_code 100 = .ok (.invokevirtual 129, 3) := by decide +kernel
theorem d_S_showStatus_103 : decode prog_9_method_5_code 103 = .ok (.goto 5, 3) := by decide +kernel
theorem d_S_showStatus_106 : decode prog_9_method_5_code 106 = .ok (.bipush 32, 2) := by decide +kernel
theorem d_S_showStatus_108 : decode prog_9_method_5_code 108 = .ok (.istore_n 3, 1) := by decide +kernel
theorem d_S_showStatus_109 : decode prog_9_method_5_code 109 = .ok (.aload_n 0, 1) := by decide +kernel
theorem d_S_showStatus_110 : decode prog_9_method_5_code 110 = .ok (.getfield 23, 3) := by decide +kernel
theorem d_S_showStatus_113 : decode prog_9_method_5_code 113 = .ok (.aload_n 0, 1) := by decide +kernel
theorem d_S_showStatus_114 : decode prog_9_method_5_code 114 = .ok (.getfield 23, 3) := by decide +kernel
theorem d_S_showStatus_117 : decode prog_9_method_5_code 117 = .ok (.getfield 40, 3) := by decide +kernel
theorem d_S_showStatus_120 : decode prog_9_method_5_code 120 = .ok (.iconst 1, 1) := by decide +kernel
theorem d_S_showStatus_121 : decode prog_9_method_5_code 121 = .ok (.isub, 1) := by decide +kernel
theorem d_S_showStatus_122 : decode prog_9_method_5_code 122 = .ok (.iload_n 2, 1) := by decide +kernel
theorem d_S_showStatus_123 : decode prog_9_method_5_code 123 = .ok (.iload_n 3, 1) := by decide +kernel
theorem d_S_showStatus_124 : decode prog_9_method_5_code 124 = .ok (.iconst 1, 1) := by decide +kernel
theorem d_S_showStatus_125 : decode prog_9_method_5_code 125 = .ok (.invokevirtual 97, 3) := by decide +kernel
theorem d_S_showStatus_128 : decode prog_9_method_5_code 128 = .ok (.iinc 2 1, 3) := by decide +kernel
theorem d_S_showStatus_131 : decode prog_9_method_5_code 131 = .ok (.goto (-58), 3) := by decide +kernel
theorem d_S_showStatus_134 : decode prog_9_method_5_code 134 = .ok (.return_, 1) := by decide +kernel
end
section
theorem d_K_leave_0 : decode prog_6_method_2_code 0 = .ok (.aload_n 0, 1) := by decide +kernel
theorem d_K_leave_1 : decode prog_6_method_2_code 1 = .ok (.iload_n 1, 1) := by decide +kernel
theorem d_K_leave_2 : decode prog_6_method_2_code 2 = .ok (.invokevirtual 18, 3) := by decide +kernel
theorem d_K_leave_5 : decode prog_6_method_2_code 5 = .ok (.ifCond .eq 7, 3) := by decide +kernel
theorem d_K_leave_8 : decode prog_6_method_2_code 8 = .ok (.iconst (-1), 1) := by decide +kernel
theorem d_K_leave_9 : decode prog_6_method_2_code 9 = .ok (.goto 7, 3) := by decide +kernel
theorem d_K_leave_12 : decode prog_6_method_2_code 12 = .ok (.aload_n 0, 1) := by decide +kernel
theorem d_K_leave_13 : decode prog_6_method_2_code 13 = .ok (.invokevirtual 22, 3) := by decide +kernel
theorem d_K_leave_16 : decode prog_6_method_2_code 16 = .ok (.ireturn, 1) := by decide +kernel
theorem d_K_giveUp_0 : decode prog_6_method_3_code 0 = .ok (.aload_n 0, 1) := by decide +kernel
theorem d_K_giveUp_1 : decode prog_6_method_3_code 1 = .ok (.getfield 11, 3) := by decide +kernel
theorem d_K_giveUp_4 : decode prog_6_method_3_code 4 = .ok (.istore_n 1, 1) := by decide +kernel
theorem d_K_giveUp_5 : decode prog_6_method_3_code 5 = .ok (.aload_n 0, 1) := by decide +kernel
theorem d_K_giveUp_6 : decode prog_6_method_3_code 6 = .ok (.iconst 0, 1) := by decide +kernel
theorem d_K_giveUp_7 : decode prog_6_method_3_code 7 = .ok (.putfield 11, 3) := by decide +kernel
theorem d_K_giveUp_10 : decode prog_6_method_3_code 10 = .ok (.iload_n 1, 1) := by decide +kernel
theorem d_K_giveUp_11 : decode prog_6_method_3_code 11 = .ok (.iconst 1, 1) := by decide +kernel
theorem d_K_giveUp_12 : decode prog_6_method_3_code 12 = .ok (.if_icmp .ne 6, 3) := by decide +kernel
theorem d_K_giveUp_15 : decode prog_6_method_3_code 15 = .ok (.bipush 27, 2) := by decide +kernel
theorem d_K_giveUp_17 : decode prog_6_method_3_code 17 = .ok (.ireturn, 1) := by decide +kernel
theorem d_K_giveUp_18 : decode prog_6_method_3_code 18 = .ok (.iload_n 1, 1) := by decide +kernel
theorem d_K_giveUp_19 : decode prog_6_method_3_code 19 = .ok (.iconst 3, 1) := by decide +kernel
theorem d_K_giveUp_20 : decode prog_6_method_3_code 20 = .ok (.if_icmp .ne 8, 3) := by decide +kernel
theorem d_K_giveUp_23 : decode prog_6_method_3_code 23 = .ok (.ldc 26, 2) := by decide +kernel
theorem d_K_giveUp_25 : decode prog_6_method_3_code 25 = .ok (.goto 4, 3) := by decide +kernel
theorem d_K_giveUp_28 : decode prog_6_method_3_code 28 = .ok (.iconst (-1), 1) := by decide +kernel
theorem d_K_giveUp_29 : decode prog_6_method_3_code 29 = .ok (.ireturn, 1) := by decide +kernel
theorem d_K_take_0 : decode prog_6_method_4_code 0 = .ok (.iconst (-1), 1) := by decide +kernel
theorem d_K_take_1 : decode prog_6_method_4_code 1 = .ok (.istore_n 2, 1) := by decide +kernel
theorem d_K_take_2 : decode prog_6_method_4_code 2 = .ok (.aload_n 0, 1) := by decide +kernel
theorem d_K_take_3 : decode prog_6_method_4_code 3 = .ok (.getfield 11, 3) := by decide +kernel
theorem d_K_take_6 : decode prog_6_method_4_code 6 = .ok (.tableswitch 57 1 3 #[26, 39, 48], 26) := by decide +kernel
theorem d_K_take_32 : decode prog_6_method_4_code 32 = .ok (.aload_n 0, 1) := by decide +kernel
theorem d_K_take_33 : decode prog_6_method_4_code 33 = .ok (.iconst 2, 1) := by decide +kernel
theorem d_K_take_34 : decode prog_6_method_4_code 34 = .ok (.putfield 11, 3) := by decide +kernel
theorem d_K_take_37 : decode prog_6_method_4_code 37 = .ok (.aload_n 0, 1) := by decide +kernel
theorem d_K_take_38 : decode prog_6_method_4_code 38 = .ok (.iconst 0, 1) := by decide +kernel
theorem d_K_take_39 : decode prog_6_method_4_code 39 = .ok (.putfield 27, 3) := by decide +kernel
theorem d_K_take_42 : decode prog_6_method_4_code 42 = .ok (.goto 27, 3) := by decide +kernel
theorem d_K_take_45 : decode prog_6_method_4_code 45 = .ok (.aload_n 0, 1) := by decide +kernel
theorem d_K_take_46 : decode prog_6_method_4_code 46 = .ok (.iload_n 1, 1) := by decide +kernel
theorem d_K_take_47 : decode prog_6_method_4_code 47 = .ok (.invokevirtual 30, 3) := by decide +kernel
theorem d_K_take_50 : decode prog_6_method_4_code 50 = .ok (.istore_n 2, 1) := by decide +kernel
theorem d_K_take_51 : decode prog_6_method_4_code 51 = .ok (.goto 18, 3) := by decide +kernel
theorem d_K_take_54 : decode prog_6_method_4_code 54 = .ok (.aload_n 0, 1) := by decide +kernel
theorem d_K_take_55 : decode prog_6_method_4_code 55 = .ok (.iload_n 1, 1) := by decide +kernel
theorem d_K_take_56 : decode prog_6_method_4_code 56 = .ok (.invokevirtual 34, 3) := by decide +kernel
theorem d_K_take_59 : decode prog_6_method_4_code 59 = .ok (.istore_n 2, 1) := by decide +kernel
theorem d_K_take_60 : decode prog_6_method_4_code 60 = .ok (.goto 9, 3) := by decide +kernel
theorem d_K_take_63 : decode prog_6_method_4_code 63 = .ok (.aload_n 0, 1) := by decide +kernel
theorem d_K_take_64 : decode prog_6_method_4_code 64 = .ok (.iload_n 1, 1) := by decide +kernel
theorem d_K_take_65 : decode prog_6_method_4_code 65 = .ok (.invokevirtual 37, 3) := by decide +kernel
theorem d_K_take_68 : decode prog_6_method_4_code 68 = .ok (.istore_n 2, 1) := by decide +kernel
theorem d_K_take_69 : decode prog_6_method_4_code 69 = .ok (.aload_n 0, 1) := by decide +kernel
theorem d_K_take_70 : decode prog_6_method_4_code 70 = .ok (.iload_n 1, 1) := by decide +kernel
theorem d_K_take_71 : decode prog_6_method_4_code 71 = .ok (.putfield 15, 3) := by decide +kernel
theorem d_K_take_74 : decode prog_6_method_4_code 74 = .ok (.iload_n 2, 1) := by decide +kernel
theorem d_K_take_75 : decode prog_6_method_4_code 75 = .ok (.ireturn, 1) := by decide +kernel
theorem d_K_goesOn_0 : decode prog_6_method_5_code 0 = .ok (.aload_n 0, 1) := by decide +kernel
theorem d_K_goesOn_1 : decode prog_6_method_5_code 1 = .ok (.getfield 11, 3) := by decide +kernel
theorem d_K_goesOn_4 : decode prog_6_method_5_code 4 = .ok (.tableswitch 82 1 3 #[28, 40, 60], 28) := by decide +kernel
theorem d_K_goesOn_32 : decode prog_6_method_5_code 32 = .ok (.iload_n 1, 1) := by decide +kernel
theorem d_K_goesOn_33 : decode prog_6_method_5_code 33 = .ok (.bipush 91, 2) := by decide +kernel
theorem d_K_goesOn_35 : decode prog_6_method_5_code 35 = .ok (.if_icmp .ne 7, 3) := by decide +kernel
theorem d_K_goesOn_38 : decode prog_6_method_5_code 38 = .ok (.iconst 1, 1) := by decide +kernel
theorem d_K_goesOn_39 : decode prog_6_method_5_code 39 = .ok (.goto 4, 3) := by decide +kernel
theorem d_K_goesOn_42 : decode prog_6_method_5_code 42 = .ok (.iconst 0, 1) := by decide +kernel
theorem d_K_goesOn_43 : decode prog_6_method_5_code 43 = .ok (.ireturn, 1) := by decide +kernel
theorem d_K_goesOn_44 : decode prog_6_method_5_code 44 = .ok (.iload_n 1, 1) := by decide +kernel
theorem d_K_goesOn_45 : decode prog_6_method_5_code 45 = .ok (.invokestatic 40, 3) := by decide +kernel
theorem d_K_goesOn_48 : decode prog_6_method_5_code 48 = .ok (.ifCond .ne 10, 3) := by decide +kernel
theorem d_K_goesOn_51 : decode prog_6_method_5_code 51 = .ok (.iload_n 1, 1) := by decide +kernel
theorem d_K_goesOn_52 : decode prog_6_method_5_code 52 = .ok (.invokestatic 43, 3) := by decide +kernel
theorem d_K_goesOn_55 : decode prog_6_method_5_code 55 = .ok (.ifCond .eq 7, 3) := by decide +kernel
theorem d_K_goesOn_58 : decode prog_6_method_5_code 58 = .ok (.iconst 1, 1) := by decide +kernel
theorem d_K_goesOn_59 : decode prog_6_method_5_code 59 = .ok (.goto 4, 3) := by decide +kernel
theorem d_K_goesOn_62 : decode prog_6_method_5_code 62 = .ok (.iconst 0, 1) := by decide +kernel
theorem d_K_goesOn_63 : decode prog_6_method_5_code 63 = .ok (.ireturn, 1) := by decide +kernel
theorem d_K_goesOn_64 : decode prog_6_method_5_code 64 = .ok (.iload_n 1, 1) := by decide +kernel
theorem d_K_goesOn_65 : decode prog_6_method_5_code 65 = .ok (.aload_n 0, 1) := by decide +kernel
theorem d_K_goesOn_66 : decode prog_6_method_5_code 66 = .ok (.getfield 46, 3) := by decide +kernel
theorem d_K_goesOn_69 : decode prog_6_method_5_code 69 = .ok (.if_icmp .lt 15, 3) := by decide +kernel
theorem d_K_goesOn_72 : decode prog_6_method_5_code 72 = .ok (.iload_n 1, 1) := by decide +kernel
theorem d_K_goesOn_73 : decode prog_6_method_5_code 73 = .ok (.aload_n 0, 1) := by decide +kernel
theorem d_K_goesOn_74 : decode prog_6_method_5_code 74 = .ok (.getfield 49, 3) := by decide +kernel
theorem d_K_goesOn_77 : decode prog_6_method_5_code 77 = .ok (.if_icmp .gt 7, 3) := by decide +kernel
theorem d_K_goesOn_80 : decode prog_6_method_5_code 80 = .ok (.iconst 1, 1) := by decide +kernel
theorem d_K_goesOn_81 : decode prog_6_method_5_code 81 = .ok (.goto 4, 3) := by decide +kernel
theorem d_K_goesOn_84 : decode prog_6_method_5_code 84 = .ok (.iconst 0, 1) := by decide +kernel
theorem d_K_goesOn_85 : decode prog_6_method_5_code 85 = .ok (.ireturn, 1) := by decide +kernel
theorem d_K_goesOn_86 : decode prog_6_method_5_code 86 = .ok (.iconst 1, 1) := by decide +kernel
theorem d_K_goesOn_87 : decode prog_6_method_5_code 87 = .ok (.ireturn, 1) := by decide +kernel
theorem d_K_isDigit_0 : decode prog_6_method_6_code 0 = .ok (.iload_n 0, 1) := by decide +kernel
theorem d_K_isDigit_1 : decode prog_6_method_6_code 1 = .ok (.bipush 48, 2) := by decide +kernel
theorem d_K_isDigit_3 : decode prog_6_method_6_code 3 = .ok (.if_icmp .lt 13, 3) := by decide +kernel
theorem d_K_isDigit_6 : decode prog_6_method_6_code 6 = .ok (.iload_n 0, 1) := by decide +kernel
theorem d_K_isDigit_7 : decode prog_6_method_6_code 7 = .ok (.bipush 57, 2) := by decide +kernel
theorem d_K_isDigit_9 : decode prog_6_method_6_code 9 = .ok (.if_icmp .gt 7, 3) := by decide +kernel
theorem d_K_isDigit_12 : decode prog_6_method_6_code 12 = .ok (.iconst 1, 1) := by decide +kernel
theorem d_K_isDigit_13 : decode prog_6_method_6_code 13 = .ok (.goto 4, 3) := by decide +kernel
theorem d_K_isDigit_16 : decode prog_6_method_6_code 16 = .ok (.iconst 0, 1) := by decide +kernel
theorem d_K_isDigit_17 : decode prog_6_method_6_code 17 = .ok (.ireturn, 1) := by decide +kernel
theorem d_K_isFinal_0 : decode prog_6_method_7_code 0 = .ok (.iload_n 0, 1) := by decide +kernel
theorem d_K_isFinal_1 : decode prog_6_method_7_code 1 = .ok (.bipush 64, 2) := by decide +kernel
theorem d_K_isFinal_3 : decode prog_6_method_7_code 3 = .ok (.if_icmp .lt 13, 3) := by decide +kernel
theorem d_K_isFinal_6 : decode prog_6_method_7_code 6 = .ok (.iload_n 0, 1) := by decide +kernel
theorem d_K_isFinal_7 : decode prog_6_method_7_code 7 = .ok (.bipush 126, 2) := by decide +kernel
theorem d_K_isFinal_9 : decode prog_6_method_7_code 9 = .ok (.if_icmp .gt 7, 3) := by decide +kernel
theorem d_K_isFinal_12 : decode prog_6_method_7_code 12 = .ok (.iconst 1, 1) := by decide +kernel
theorem d_K_isFinal_13 : decode prog_6_method_7_code 13 = .ok (.goto 4, 3) := by decide +kernel
theorem d_K_isFinal_16 : decode prog_6_method_7_code 16 = .ok (.iconst 0, 1) := by decide +kernel
theorem d_K_isFinal_17 : decode prog_6_method_7_code 17 = .ok (.ireturn, 1) := by decide +kernel
theorem d_K_takePlain_0 : decode prog_6_method_8_code 0 = .ok (.iload_n 1, 1) := by decide +kernel
theorem d_K_takePlain_1 : decode prog_6_method_8_code 1 = .ok (.bipush 27, 2) := by decide +kernel
theorem d_K_takePlain_3 : decode prog_6_method_8_code 3 = .ok (.if_icmp .ne 10, 3) := by decide +kernel
theorem d_K_takePlain_6 : decode prog_6_method_8_code 6 = .ok (.aload_n 0, 1) := by decide +kernel
theorem d_K_takePlain_7 : decode prog_6_method_8_code 7 = .ok (.iconst 1, 1) := by decide +kernel
theorem d_K_takePlain_8 : decode prog_6_method_8_code 8 = .ok (.putfield 11, 3) := by decide +kernel
theorem d_K_takePlain_11 : decode prog_6_method_8_code 11 = .ok (.iconst (-1), 1) := by decide +kernel
theorem d_K_takePlain_12 : decode prog_6_method_8_code 12 = .ok (.ireturn, 1) := by decide +kernel
theorem d_K_takePlain_13 : decode prog_6_method_8_code 13 = .ok (.iload_n 1, 1) := by decide +kernel
theorem d_K_takePlain_14 : decode prog_6_method_8_code 14 = .ok (.sipush 194, 3) := by decide +kernel
theorem d_K_takePlain_17 : decode prog_6_method_8_code 17 = .ok (.if_icmp .lt 17, 3) := by decide +kernel
theorem d_K_takePlain_20 : decode prog_6_method_8_code 20 = .ok (.iload_n 1, 1) := by decide +kernel
theorem d_K_takePlain_21 : decode prog_6_method_8_code 21 = .ok (.sipush 239, 3) := by decide +kernel
theorem d_K_takePlain_24 : decode prog_6_method_8_code 24 = .ok (.if_icmp .gt 10, 3) := by decide +kernel
theorem d_K_takePlain_27 : decode prog_6_method_8_code 27 = .ok (.aload_n 0, 1) := by decide +kernel
theorem d_K_takePlain_28 : decode prog_6_method_8_code 28 = .ok (.iload_n 1, 1) := by decide +kernel
theorem d_K_takePlain_29 : decode prog_6_method_8_code 29 = .ok (.invokevirtual 52, 3) := by decide +kernel
theorem d_K_takePlain_32 : decode prog_6_method_8_code 32 = .ok (.iconst (-1), 1) := by decide +kernel
theorem d_K_takePlain_33 : decode prog_6_method_8_code 33 = .ok (.ireturn, 1) := by decide +kernel
theorem d_K_takePlain_34 : decode prog_6_method_8_code 34 = .ok (.iload_n 1, 1) := by decide +kernel
theorem d_K_takePlain_35 : decode prog_6_method_8_code 35 = .ok (.sipush 128, 3) := by decide +kernel
theorem d_K_takePlain_38 : decode prog_6_method_8_code 38 = .ok (.if_icmp .lt 6, 3) := by decide +kernel
theorem d_K_takePlain_41 : decode prog_6_method_8_code 41 = .ok (.ldc 26, 2) := by decide +kernel
theorem d_K_takePlain_43 : decode prog_6_method_8_code 43 = .ok (.ireturn, 1) := by decide +kernel
theorem d_K_takePlain_44 : decode prog_6_method_8_code 44 = .ok (.iload_n 1, 1) := by decide +kernel
theorem d_K_takePlain_45 : decode prog_6_method_8_code 45 = .ok (.bipush 10, 2) := by decide +kernel
theorem d_K_takePlain_47 : decode prog_6_method_8_code 47 = .ok (.if_icmp .ne 16, 3) := by decide +kernel
theorem d_K_takePlain_50 : decode prog_6_method_8_code 50 = .ok (.aload_n 0, 1) := by decide +kernel
theorem d_K_takePlain_51 : decode prog_6_method_8_code 51 = .ok (.getfield 15, 3) := by decide +kernel
theorem d_K_takePlain_54 : decode prog_6_method_8_code 54 = .ok (.bipush 13, 2) := by decide +kernel
theorem d_K_takePlain_56 : decode prog_6_method_8_code 56 = .ok (.if_icmp .ne 7, 3) := by decide +kernel
theorem d_K_takePlain_59 : decode prog_6_method_8_code 59 = .ok (.iconst (-1), 1) := by decide +kernel
theorem d_K_takePlain_60 : decode prog_6_method_8_code 60 = .ok (.goto 4, 3) := by decide +kernel
theorem d_K_takePlain_63 : decode prog_6_method_8_code 63 = .ok (.iload_n 1, 1) := by decide +kernel
theorem d_K_takePlain_64 : decode prog_6_method_8_code 64 = .ok (.ireturn, 1) := by decide +kernel
theorem d_K_beginCharacter_0 : decode prog_6_method_9_code 0 = .ok (.aload_n 0, 1) := by decide +kernel
theorem d_K_beginCharacter_1 : decode prog_6_method_9_code 1 = .ok (.iconst 3, 1) := by decide +kernel
theorem d_K_beginCharacter_2 : decode prog_6_method_9_code 2 = .ok (.putfield 11, 3) := by decide +kernel
theorem d_K_beginCharacter_5 : decode prog_6_method_9_code 5 = .ok (.aload_n 0, 1) := by decide +kernel
theorem d_K_beginCharacter_6 : decode prog_6_method_9_code 6 = .ok (.iload_n 1, 1) := by decide +kernel
theorem d_K_beginCharacter_7 : decode prog_6_method_9_code 7 = .ok (.sipush 224, 3) := by decide +kernel
theorem d_K_beginCharacter_10 : decode prog_6_method_9_code 10 = .ok (.if_icmp .ge 7, 3) := by decide +kernel
theorem d_K_beginCharacter_13 : decode prog_6_method_9_code 13 = .ok (.iconst 1, 1) := by decide +kernel
theorem d_K_beginCharacter_14 : decode prog_6_method_9_code 14 = .ok (.goto 4, 3) := by decide +kernel
theorem d_K_beginCharacter_17 : decode prog_6_method_9_code 17 = .ok (.iconst 2, 1) := by decide +kernel
theorem d_K_beginCharacter_18 : decode prog_6_method_9_code 18 = .ok (.putfield 56, 3) := by decide +kernel
theorem d_K_beginCharacter_21 : decode prog_6_method_9_code 21 = .ok (.aload_n 0, 1) := by decide +kernel
theorem d_K_beginCharacter_22 : decode prog_6_method_9_code 22 = .ok (.iload_n 1, 1) := by decide +kernel
theorem d_K_beginCharacter_23 : decode prog_6_method_9_code 23 = .ok (.sipush 224, 3) := by decide +kernel
theorem d_K_beginCharacter_26 : decode prog_6_method_9_code 26 = .ok (.if_icmp .ge 10, 3) := by decide +kernel
theorem d_K_beginCharacter_29 : decode prog_6_method_9_code 29 = .ok (.iload_n 1, 1) := by decide +kernel
theorem d_K_beginCharacter_30 : decode prog_6_method_9_code 30 = .ok (.bipush 31, 2) := by decide +kernel
theorem d_K_beginCharacter_32 : decode prog_6_method_9_code 32 = .ok (.iand, 1) := by decide +kernel
theorem d_K_beginCharacter_33 : decode prog_6_method_9_code 33 = .ok (.goto 7, 3) := by decide +kernel
theorem d_K_beginCharacter_36 : decode prog_6_method_9_code 36 = .ok (.iload_n 1, 1) := by decide +kernel
theorem d_K_beginCharacter_37 : decode prog_6_method_9_code 37 = .ok (.bipush 15, 2) := by decide +kernel
theorem d_K_beginCharacter_39 : decode prog_6_method_9_code 39 = .ok (.iand, 1) := by decide +kernel
theorem d_K_beginCharacter_40 : decode prog_6_method_9_code 40 = .ok (.putfield 59, 3) := by decide +kernel
theorem d_K_beginCharacter_43 : decode prog_6_method_9_code 43 = .ok (.aload_n 0, 1) := by decide +kernel
theorem d_K_beginCharacter_44 : decode prog_6_method_9_code 44 = .ok (.iload_n 1, 1) := by decide +kernel
theorem d_K_beginCharacter_45 : decode prog_6_method_9_code 45 = .ok (.sipush 224, 3) := by decide +kernel
theorem d_K_beginCharacter_48 : decode prog_6_method_9_code 48 = .ok (.if_icmp .ne 9, 3) := by decide +kernel
theorem d_K_beginCharacter_51 : decode prog_6_method_9_code 51 = .ok (.sipush 160, 3) := by decide +kernel
theorem d_K_beginCharacter_54 : decode prog_6_method_9_code 54 = .ok (.goto 6, 3) := by decide +kernel
theorem d_K_beginCharacter_57 : decode prog_6_method_9_code 57 = .ok (.sipush 128, 3) := by decide +kernel
theorem d_K_beginCharacter_60 : decode prog_6_method_9_code 60 = .ok (.putfield 46, 3) := by decide +kernel
theorem d_K_beginCharacter_63 : decode prog_6_method_9_code 63 = .ok (.aload_n 0, 1) := by decide +kernel
theorem d_K_beginCharacter_64 : decode prog_6_method_9_code 64 = .ok (.iload_n 1, 1) := by decide +kernel
theorem d_K_beginCharacter_65 : decode prog_6_method_9_code 65 = .ok (.sipush 237, 3) := by decide +kernel
theorem d_K_beginCharacter_68 : decode prog_6_method_9_code 68 = .ok (.if_icmp .ne 9, 3) := by decide +kernel
theorem d_K_beginCharacter_71 : decode prog_6_method_9_code 71 = .ok (.sipush 159, 3) := by decide +kernel
theorem d_K_beginCharacter_74 : decode prog_6_method_9_code 74 = .ok (.goto 6, 3) := by decide +kernel
theorem d_K_beginCharacter_77 : decode prog_6_method_9_code 77 = .ok (.sipush 191, 3) := by decide +kernel
theorem d_K_beginCharacter_80 : decode prog_6_method_9_code 80 = .ok (.putfield 49, 3) := by decide +kernel
theorem d_K_beginCharacter_83 : decode prog_6_method_9_code 83 = .ok (.return_, 1) := by decide +kernel
theorem d_K_takeWithin_0 : decode prog_6_method_10_code 0 = .ok (.aload_n 0, 1) := by decide +kernel
theorem d_K_takeWithin_1 : decode prog_6_method_10_code 1 = .ok (.aload_n 0, 1) := by decide +kernel
theorem d_K_takeWithin_2 : decode prog_6_method_10_code 2 = .ok (.getfield 59, 3) := by decide +kernel
theorem d_K_takeWithin_5 : decode prog_6_method_10_code 5 = .ok (.bipush 64, 2) := by decide +kernel
theorem d_K_takeWithin_7 : decode prog_6_method_10_code 7 = .ok (.imul, 1) := by decide +kernel
theorem d_K_takeWithin_8 : decode prog_6_method_10_code 8 = .ok (.iload_n 1, 1) := by decide +kernel
theorem d_K_takeWithin_9 : decode prog_6_method_10_code 9 = .ok (.bipush 63, 2) := by decide +kernel
theorem d_K_takeWithin_11 : decode prog_6_method_10_code 11 = .ok (.iand, 1) := by decide +kernel
theorem d_K_takeWithin_12 : decode prog_6_method_10_code 12 = .ok (.iadd, 1) := by decide +kernel
theorem d_K_takeWithin_13 : decode prog_6_method_10_code 13 = .ok (.putfield 59, 3) := by decide +kernel
theorem d_K_takeWithin_16 : decode prog_6_method_10_code 16 = .ok (.aload_n 0, 1) := by decide +kernel
theorem d_K_takeWithin_17 : decode prog_6_method_10_code 17 = .ok (.sipush 128, 3) := by decide +kernel
theorem d_K_takeWithin_20 : decode prog_6_method_10_code 20 = .ok (.putfield 46, 3) := by decide +kernel
theorem d_K_takeWithin_23 : decode prog_6_method_10_code 23 = .ok (.aload_n 0, 1) := by decide +kernel
theorem d_K_takeWithin_24 : decode prog_6_method_10_code 24 = .ok (.sipush 191, 3) := by decide +kernel
theorem d_K_takeWithin_27 : decode prog_6_method_10_code 27 = .ok (.putfield 49, 3) := by decide +kernel
theorem d_K_takeWithin_30 : decode prog_6_method_10_code 30 = .ok (.aload_n 0, 1) := by decide +kernel
theorem d_K_takeWithin_31 : decode prog_6_method_10_code 31 = .ok (.dup, 1) := by decide +kernel
theorem d_K_takeWithin_32 : decode prog_6_method_10_code 32 = .ok (.getfield 56, 3) := by decide +kernel
theorem d_K_takeWithin_35 : decode prog_6_method_10_code 35 = .ok (.iconst 1, 1) := by decide +kernel
theorem d_K_takeWithin_36 : decode prog_6_method_10_code 36 = .ok (.isub, 1) := by decide +kernel
theorem d_K_takeWithin_37 : decode prog_6_method_10_code 37 = .ok (.putfield 56, 3) := by decide +kernel
theorem d_K_takeWithin_40 : decode prog_6_method_10_code 40 = .ok (.aload_n 0, 1) := by decide +kernel
theorem d_K_takeWithin_41 : decode prog_6_method_10_code 41 = .ok (.getfield 56, 3) := by decide +kernel
theorem d_K_takeWithin_44 : decode prog_6_method_10_code 44 = .ok (.ifCond .le 5, 3) := by decide +kernel
theorem d_K_takeWithin_47 : decode prog_6_method_10_code 47 = .ok (.iconst (-1), 1) := by decide +kernel
theorem d_K_takeWithin_48 : decode prog_6_method_10_code 48 = .ok (.ireturn, 1) := by decide +kernel
theorem d_K_takeWithin_49 : decode prog_6_method_10_code 49 = .ok (.aload_n 0, 1) := by decide +kernel
theorem d_K_takeWithin_50 : decode prog_6_method_10_code 50 = .ok (.iconst 0, 1) := by decide +kernel
theorem d_K_takeWithin_51 : decode prog_6_method_10_code 51 = .ok (.putfield 11, 3) := by decide +kernel
theorem d_K_takeWithin_54 : decode prog_6_method_10_code 54 = .ok (.aload_n 0, 1) := by decide +kernel
theorem d_K_takeWithin_55 : decode prog_6_method_10_code 55 = .ok (.getfield 59, 3) := by decide +kernel
theorem d_K_takeWithin_58 : decode prog_6_method_10_code 58 = .ok (.sipush 160, 3) := by decide +kernel
theorem d_K_takeWithin_61 : decode prog_6_method_10_code 61 = .ok (.if_icmp .ge 7, 3) := by decide +kernel
theorem d_K_takeWithin_64 : decode prog_6_method_10_code 64 = .ok (.iconst (-1), 1) := by decide +kernel
theorem d_K_takeWithin_65 : decode prog_6_method_10_code 65 = .ok (.goto 7, 3) := by decide +kernel
theorem d_K_takeWithin_68 : decode prog_6_method_10_code 68 = .ok (.aload_n 0, 1) := by decide +kernel
theorem d_K_takeWithin_69 : decode prog_6_method_10_code 69 = .ok (.getfield 59, 3) := by decide +kernel
theorem d_K_takeWithin_72 : decode prog_6_method_10_code 72 = .ok (.ireturn, 1) := by decide +kernel
theorem d_K_takeInSequence_0 : decode prog_6_method_11_code 0 = .ok (.iload_n 1, 1) := by decide +kernel
theorem d_K_takeInSequence_1 : decode prog_6_method_11_code 1 = .ok (.invokestatic 40, 3) := by decide +kernel
theorem d_K_takeInSequence_4 : decode prog_6_method_11_code 4 = .ok (.ifCond .eq 27, 3) := by decide +kernel
theorem d_K_takeInSequence_7 : decode prog_6_method_11_code 7 = .ok (.aload_n 0, 1) := by decide +kernel
theorem d_K_takeInSequence_8 : decode prog_6_method_11_code 8 = .ok (.sipush 9999, 3) := by decide +kernel
theorem d_K_takeInSequence_11 : decode prog_6_method_11_code 11 = .ok (.bipush 10, 2) := by decide +kernel
theorem d_K_takeInSequence_13 : decode prog_6_method_11_code 13 = .ok (.aload_n 0, 1) := by decide +kernel
theorem d_K_takeInSequence_14 : decode prog_6_method_11_code 14 = .ok (.getfield 27, 3) := by decide +kernel
theorem d_K_takeInSequence_17 : decode prog_6_method_11_code 17 = .ok (.imul, 1) := by decide +kernel
theorem d_K_takeInSequence_18 : decode prog_6_method_11_code 18 = .ok (.iload_n 1, 1) := by decide +kernel
theorem d_K_takeInSequence_19 : decode prog_6_method_11_code 19 = .ok (.iadd, 1) := by decide +kernel
theorem d_K_takeInSequence_20 : decode prog_6_method_11_code 20 = .ok (.bipush 48, 2) := by decide +kernel
theorem d_K_takeInSequence_22 : decode prog_6_method_11_code 22 = .ok (.isub, 1) := by decide +kernel
theorem d_K_takeInSequence_23 : decode prog_6_method_11_code 23 = .ok (.invokestatic 62, 3) := by decide +kernel
theorem d_K_takeInSequence_26 : decode prog_6_method_11_code 26 = .ok (.putfield 27, 3) := by decide +kernel
theorem d_K_takeInSequence_29 : decode prog_6_method_11_code 29 = .ok (.iconst (-1), 1) := by decide +kernel
theorem d_K_takeInSequence_30 : decode prog_6_method_11_code 30 = .ok (.ireturn, 1) := by decide +kernel
theorem d_K_takeInSequence_31 : decode prog_6_method_11_code 31 = .ok (.aload_n 0, 1) := by decide +kernel
theorem d_K_takeInSequence_32 : decode prog_6_method_11_code 32 = .ok (.iconst 0, 1) := by decide +kernel
theorem d_K_takeInSequence_33 : decode prog_6_method_11_code 33 = .ok (.putfield 11, 3) := by decide +kernel
theorem d_K_takeInSequence_36 : decode prog_6_method_11_code 36 = .ok (.iload_n 1, 1) := by decide +kernel
theorem d_K_takeInSequence_37 : decode prog_6_method_11_code 37 = .ok (.lookupswitch 90 #[(65, 67), (66, 70), (67, 73), (68, 76), (70, 82), (72, 79), (126, 85)], 67) := by decide +kernel
theorem d_K_takeInSequence_104 : decode prog_6_method_11_code 104 = .ok (.ldc 68, 2) := by decide +kernel
theorem d_K_takeInSequence_106 : decode prog_6_method_11_code 106 = .ok (.ireturn, 1) := by decide +kernel
theorem d_K_takeInSequence_107 : decode prog_6_method_11_code 107 = .ok (.ldc 69, 2) := by decide +kernel
theorem d_K_takeInSequence_109 : decode prog_6_method_11_code 109 = .ok (.ireturn, 1) := by decide +kernel
theorem d_K_takeInSequence_110 : decode prog_6_method_11_code 110 = .ok (.ldc 70, 2) := by decide +kernel
theorem d_K_takeInSequence_112 : decode prog_6_method_11_code 112 = .ok (.ireturn, 1) := by decide +kernel
theorem d_K_takeInSequence_113 : decode prog_6_method_11_code 113 = .ok (.ldc 71, 2) := by decide +kernel
theorem d_K_takeInSequence_115 : decode prog_6_method_11_code 115 = .ok (.ireturn, 1) := by decide +kernel
theorem d_K_takeInSequence_116 : decode prog_6_method_11_code 116 = .ok (.ldc 72, 2) := by decide +kernel
theorem d_K_takeInSequence_118 : decode prog_6_method_11_code 118 = .ok (.ireturn, 1) := by decide +kernel
theorem d_K_takeInSequence_119 : decode prog_6_method_11_code 119 = .ok (.ldc 73, 2) := by decide +kernel
theorem d_K_takeInSequence_121 : decode prog_6_method_11_code 121 = .ok (.ireturn, 1) := by decide +kernel
theorem d_K_takeInSequence_122 : decode prog_6_method_11_code 122 = .ok (.aload_n 0, 1) := by decide +kernel
theorem d_K_takeInSequence_123 : decode prog_6_method_11_code 123 = .ok (.invokevirtual 74, 3) := by decide +kernel
theorem d_K_takeInSequence_126 : decode prog_6_method_11_code 126 = .ok (.ireturn, 1) := by decide +kernel
theorem d_K_takeInSequence_127 : decode prog_6_method_11_code 127 = .ok (.iconst (-1), 1) := by decide +kernel
theorem d_K_takeInSequence_128 : decode prog_6_method_11_code 128 = .ok (.ireturn, 1) := by decide +kernel
theorem d_K_numberedKey_0 : decode prog_6_method_12_code 0 = .ok (.aload_n 0, 1) := by decide +kernel
theorem d_K_numberedKey_1 : decode prog_6_method_12_code 1 = .ok (.getfield 27, 3) := by decide +kernel
theorem d_K_numberedKey_4 : decode prog_6_method_12_code 4 = .ok (.lookupswitch 45 #[(3, 36), (200, 39), (201, 42)], 36) := by decide +kernel
theorem d_K_numberedKey_40 : decode prog_6_method_12_code 40 = .ok (.ldc 77, 2) := by decide +kernel
theorem d_K_numberedKey_42 : decode prog_6_method_12_code 42 = .ok (.ireturn, 1) := by decide +kernel
theorem d_K_numberedKey_43 : decode prog_6_method_12_code 43 = .ok (.ldc 78, 2) := by decide +kernel
theorem d_K_numberedKey_45 : decode prog_6_method_12_code 45 = .ok (.ireturn, 1) := by decide +kernel
theorem d_K_numberedKey_46 : decode prog_6_method_12_code 46 = .ok (.ldc 79, 2) := by decide +kernel
theorem d_K_numberedKey_48 : decode prog_6_method_12_code 48 = .ok (.ireturn, 1) := by decide +kernel
theorem d_K_numberedKey_49 : decode prog_6_method_12_code 49 = .ok (.iconst (-1), 1) := by decide +kernel
theorem d_K_numberedKey_50 : decode prog_6_method_12_code 50 = .ok (.ireturn, 1) := by decide +kernel
end
section
theorem d_M_isMark_0 : decode prog_13_method_2_code 0 = .ok (.iload_n 0, 1) := by decide +kernel
theorem d_M_isMark_1 : decode prog_13_method_2_code 1 = .ok (.sipush 768, 3) := by decide +kernel
theorem d_M_isMark_4 : decode prog_13_method_2_code 4 = .ok (.if_icmp .lt 14, 3) := by decide +kernel
theorem d_M_isMark_7 : decode prog_13_method_2_code 7 = .ok (.iload_n 0, 1) := by decide +kernel
theorem d_M_isMark_8 : decode prog_13_method_2_code 8 = .ok (.sipush 879, 3) := by decide +kernel
theorem d_M_isMark_11 : decode prog_13_method_2_code 11 = .ok (.if_icmp .gt 7, 3) := by decide +kernel
theorem d_M_isMark_14 : decode prog_13_method_2_code 14 = .ok (.iconst 1, 1) := by decide +kernel
theorem d_M_isMark_15 : decode prog_13_method_2_code 15 = .ok (.goto 4, 3) := by decide +kernel
theorem d_M_isMark_18 : decode prog_13_method_2_code 18 = .ok (.iconst 0, 1) := by decide +kernel
theorem d_M_isMark_19 : decode prog_13_method_2_code 19 = .ok (.ireturn, 1) := by decide +kernel
theorem d_M_isWide_0 : decode prog_13_method_3_code 0 = .ok (.iload_n 0, 1) := by decide +kernel
theorem d_M_isWide_1 : decode prog_13_method_3_code 1 = .ok (.sipush 11904, 3) := by decide +kernel
theorem d_M_isWide_4 : decode prog_13_method_3_code 4 = .ok (.if_icmp .lt 9, 3) := by decide +kernel
theorem d_M_isWide_7 : decode prog_13_method_3_code 7 = .ok (.iload_n 0, 1) := by decide +kernel
theorem d_M_isWide_8 : decode prog_13_method_3_code 8 = .ok (.ldc 84, 2) := by decide +kernel
theorem d_M_isWide_10 : decode prog_13_method_3_code 10 = .ok (.if_icmp .le 15, 3) := by decide +kernel
theorem d_M_isWide_13 : decode prog_13_method_3_code 13 = .ok (.iload_n 0, 1) := by decide +kernel
theorem d_M_isWide_14 : decode prog_13_method_3_code 14 = .ok (.ldc 85, 2) := by decide +kernel
theorem d_M_isWide_16 : decode prog_13_method_3_code 16 = .ok (.if_icmp .lt 13, 3) := by decide +kernel
theorem d_M_isWide_19 : decode prog_13_method_3_code 19 = .ok (.iload_n 0, 1) := by decide +kernel
theorem d_M_isWide_20 : decode prog_13_method_3_code 20 = .ok (.ldc 86, 2) := by decide +kernel
theorem d_M_isWide_22 : decode prog_13_method_3_code 22 = .ok (.if_icmp .gt 7, 3) := by decide +kernel
theorem d_M_isWide_25 : decode prog_13_method_3_code 25 = .ok (.iconst 1, 1) := by decide +kernel
theorem d_M_isWide_26 : decode prog_13_method_3_code 26 = .ok (.goto 4, 3) := by decide +kernel
theorem d_M_isWide_29 : decode prog_13_method_3_code 29 = .ok (.iconst 0, 1) := by decide +kernel
theorem d_M_isWide_30 : decode prog_13_method_3_code 30 = .ok (.ireturn, 1) := by decide +kernel
theorem d_M_begins_0 : decode prog_13_method_4_code 0 = .ok (.iload_n 1, 1) := by decide +kernel
theorem d_M_begins_1 : decode prog_13_method_4_code 1 = .ok (.aload_n 0, 1) := by decide +kernel
theorem d_M_begins_2 : decode prog_13_method_4_code 2 = .ok (.getfield 87, 3) := by decide +kernel
theorem d_M_begins_5 : decode prog_13_method_4_code 5 = .ok (.if_icmp .ge 15, 3) := by decide +kernel
theorem d_M_begins_8 : decode prog_13_method_4_code 8 = .ok (.aload_n 0, 1) := by decide +kernel
theorem d_M_begins_9 : decode prog_13_method_4_code 9 = .ok (.getfield 7, 3) := by decide +kernel
theorem d_M_begins_12 : decode prog_13_method_4_code 12 = .ok (.iload_n 1, 1) := by decide +kernel
theorem d_M_begins_13 : decode prog_13_method_4_code 13 = .ok (.iaload, 1) := by decide +kernel
theorem d_M_begins_14 : decode prog_13_method_4_code 14 = .ok (.invokestatic 90, 3) := by decide +kernel
theorem d_M_begins_17 : decode prog_13_method_4_code 17 = .ok (.ifCond .ne 5, 3) := by decide +kernel
theorem d_M_begins_20 : decode prog_13_method_4_code 20 = .ok (.iconst 1, 1) := by decide +kernel
theorem d_M_begins_21 : decode prog_13_method_4_code 21 = .ok (.ireturn, 1) := by decide +kernel
theorem d_M_begins_22 : decode prog_13_method_4_code 22 = .ok (.iload_n 1, 1) := by decide +kernel
theorem d_M_begins_23 : decode prog_13_method_4_code 23 = .ok (.iconst 1, 1) := by decide +kernel
theorem d_M_begins_24 : decode prog_13_method_4_code 24 = .ok (.isub, 1) := by decide +kernel
theorem d_M_begins_25 : decode prog_13_method_4_code 25 = .ok (.istore_n 2, 1) := by decide +kernel
theorem d_M_begins_26 : decode prog_13_method_4_code 26 = .ok (.iload_n 2, 1) := by decide +kernel
theorem d_M_begins_27 : decode prog_13_method_4_code 27 = .ok (.ifCond .lt 21, 3) := by decide +kernel
theorem d_M_begins_30 : decode prog_13_method_4_code 30 = .ok (.aload_n 0, 1) := by decide +kernel
theorem d_M_begins_31 : decode prog_13_method_4_code 31 = .ok (.getfield 7, 3) := by decide +kernel
theorem d_M_begins_34 : decode prog_13_method_4_code 34 = .ok (.iload_n 2, 1) := by decide +kernel
theorem d_M_begins_35 : decode prog_13_method_4_code 35 = .ok (.iaload, 1) := by decide +kernel
theorem d_M_begins_36 : decode prog_13_method_4_code 36 = .ok (.invokestatic 90, 3) := by decide +kernel
theorem d_M_begins_39 : decode prog_13_method_4_code 39 = .ok (.ifCond .eq 9, 3) := by decide +kernel
theorem d_M_begins_42 : decode prog_13_method_4_code 42 = .ok (.iinc 2 (-1), 3) := by decide +kernel
theorem d_M_begins_45 : decode prog_13_method_4_code 45 = .ok (.goto (-19), 3) := by decide +kernel
theorem d_M_begins_48 : decode prog_13_method_4_code 48 = .ok (.iload_n 2, 1) := by decide +kernel
theorem d_M_begins_49 : decode prog_13_method_4_code 49 = .ok (.ifCond .lt 32, 3) := by decide +kernel
theorem d_M_begins_52 : decode prog_13_method_4_code 52 = .ok (.aload_n 0, 1) := by decide +kernel
theorem d_M_begins_53 : decode prog_13_method_4_code 53 = .ok (.getfield 7, 3) := by decide +kernel
theorem d_M_begins_56 : decode prog_13_method_4_code 56 = .ok (.iload_n 2, 1) := by decide +kernel
theorem d_M_begins_57 : decode prog_13_method_4_code 57 = .ok (.iaload, 1) := by decide +kernel
theorem d_M_begins_58 : decode prog_13_method_4_code 58 = .ok (.bipush 9, 2) := by decide +kernel
theorem d_M_begins_60 : decode prog_13_method_4_code 60 = .ok (.if_icmp .eq 21, 3) := by decide +kernel
theorem d_M_begins_63 : decode prog_13_method_4_code 63 = .ok (.aload_n 0, 1) := by decide +kernel
theorem d_M_begins_64 : decode prog_13_method_4_code 64 = .ok (.getfield 7, 3) := by decide +kernel
theorem d_M_begins_67 : decode prog_13_method_4_code 67 = .ok (.iload_n 2, 1) := by decide +kernel
theorem d_M_begins_68 : decode prog_13_method_4_code 68 = .ok (.iaload, 1) := by decide +kernel
theorem d_M_begins_69 : decode prog_13_method_4_code 69 = .ok (.bipush 10, 2) := by decide +kernel
theorem d_M_begins_71 : decode prog_13_method_4_code 71 = .ok (.if_icmp .eq 10, 3) := by decide +kernel
theorem d_M_begins_74 : decode prog_13_method_4_code 74 = .ok (.iload_n 1, 1) := by decide +kernel
theorem d_M_begins_75 : decode prog_13_method_4_code 75 = .ok (.iload_n 2, 1) := by decide +kernel
theorem d_M_begins_76 : decode prog_13_method_4_code 76 = .ok (.isub, 1) := by decide +kernel
theorem d_M_begins_77 : decode prog_13_method_4_code 77 = .ok (.iconst 2, 1) := by decide +kernel
theorem d_M_begins_78 : decode prog_13_method_4_code 78 = .ok (.if_icmp .le 7, 3) := by decide +kernel
theorem d_M_begins_81 : decode prog_13_method_4_code 81 = .ok (.iconst 1, 1) := by decide +kernel
theorem d_M_begins_82 : decode prog_13_method_4_code 82 = .ok (.goto 4, 3) := by decide +kernel
theorem d_M_begins_85 : decode prog_13_method_4_code 85 = .ok (.iconst 0, 1) := by decide +kernel
theorem d_M_begins_86 : decode prog_13_method_4_code 86 = .ok (.ireturn, 1) := by decide +kernel
theorem d_M_after_0 : decode prog_13_method_5_code 0 = .ok (.iload_n 1, 1) := by decide +kernel
theorem d_M_after_1 : decode prog_13_method_5_code 1 = .ok (.iconst 1, 1) := by decide +kernel
theorem d_M_after_2 : decode prog_13_method_5_code 2 = .ok (.iadd, 1) := by decide +kernel
theorem d_M_after_3 : decode prog_13_method_5_code 3 = .ok (.istore_n 2, 1) := by decide +kernel
theorem d_M_after_4 : decode prog_13_method_5_code 4 = .ok (.aload_n 0, 1) := by decide +kernel
theorem d_M_after_5 : decode prog_13_method_5_code 5 = .ok (.iload_n 2, 1) := by decide +kernel
theorem d_M_after_6 : decode prog_13_method_5_code 6 = .ok (.invokevirtual 94, 3) := by decide +kernel
theorem d_M_after_9 : decode prog_13_method_5_code 9 = .ok (.ifCond .ne 9, 3) := by decide +kernel
theorem d_M_after_12 : decode prog_13_method_5_code 12 = .ok (.iinc 2 1, 3) := by decide +kernel
theorem d_M_after_15 : decode prog_13_method_5_code 15 = .ok (.goto (-11), 3) := by decide +kernel
theorem d_M_after_18 : decode prog_13_method_5_code 18 = .ok (.iload_n 2, 1) := by decide +kernel
theorem d_M_after_19 : decode prog_13_method_5_code 19 = .ok (.ireturn, 1) := by decide +kernel
theorem d_M_before_0 : decode prog_13_method_6_code 0 = .ok (.iload_n 1, 1) := by decide +kernel
theorem d_M_before_1 : decode prog_13_method_6_code 1 = .ok (.iconst 1, 1) := by decide +kernel
theorem d_M_before_2 : decode prog_13_method_6_code 2 = .ok (.isub, 1) := by decide +kernel
theorem d_M_before_3 : decode prog_13_method_6_code 3 = .ok (.istore_n 2, 1) := by decide +kernel
theorem d_M_before_4 : decode prog_13_method_6_code 4 = .ok (.aload_n 0, 1) := by decide +kernel
theorem d_M_before_5 : decode prog_13_method_6_code 5 = .ok (.iload_n 2, 1) := by decide +kernel
theorem d_M_before_6 : decode prog_13_method_6_code 6 = .ok (.invokevirtual 94, 3) := by decide +kernel
theorem d_M_before_9 : decode prog_13_method_6_code 9 = .ok (.ifCond .ne 9, 3) := by decide +kernel
theorem d_M_before_12 : decode prog_13_method_6_code 12 = .ok (.iinc 2 (-1), 3) := by decide +kernel
theorem d_M_before_15 : decode prog_13_method_6_code 15 = .ok (.goto (-11), 3) := by decide +kernel
theorem d_M_before_18 : decode prog_13_method_6_code 18 = .ok (.iload_n 2, 1) := by decide +kernel
theorem d_M_before_19 : decode prog_13_method_6_code 19 = .ok (.ireturn, 1) := by decide +kernel
theorem d_M_widthOf_0 : decode prog_13_method_7_code 0 = .ok (.iload_n 1, 1) := by decide +kernel
theorem d_M_widthOf_1 : decode prog_13_method_7_code 1 = .ok (.aload_n 0, 1) := by decide +kernel
theorem d_M_widthOf_2 : decode prog_13_method_7_code 2 = .ok (.getfield 87, 3) := by decide +kernel
theorem d_M_widthOf_5 : decode prog_13_method_7_code 5 = .ok (.if_icmp .eq 14, 3) := by decide +kernel
theorem d_M_widthOf_8 : decode prog_13_method_7_code 8 = .ok (.aload_n 0, 1) := by decide +kernel
theorem d_M_widthOf_9 : decode prog_13_method_7_code 9 = .ok (.getfield 7, 3) := by decide +kernel
theorem d_M_widthOf_12 : decode prog_13_method_7_code 12 = .ok (.iload_n 1, 1) := by decide +kernel
theorem d_M_widthOf_13 : decode prog_13_method_7_code 13 = .ok (.iaload, 1) := by decide +kernel
theorem d_M_widthOf_14 : decode prog_13_method_7_code 14 = .ok (.bipush 10, 2) := by decide +kernel
theorem d_M_widthOf_16 : decode prog_13_method_7_code 16 = .ok (.if_icmp .ne 5, 3) := by decide +kernel
theorem d_M_widthOf_19 : decode prog_13_method_7_code 19 = .ok (.iconst 1, 1) := by decide +kernel
theorem d_M_widthOf_20 : decode prog_13_method_7_code 20 = .ok (.ireturn, 1) := by decide +kernel
theorem d_M_widthOf_21 : decode prog_13_method_7_code 21 = .ok (.aload_n 0, 1) := by decide +kernel
theorem d_M_widthOf_22 : decode prog_13_method_7_code 22 = .ok (.getfield 7, 3) := by decide +kernel
theorem d_M_widthOf_25 : decode prog_13_method_7_code 25 = .ok (.iload_n 1, 1) := by decide +kernel
theorem d_M_widthOf_26 : decode prog_13_method_7_code 26 = .ok (.iaload, 1) := by decide +kernel
theorem d_M_widthOf_27 : decode prog_13_method_7_code 27 = .ok (.bipush 9, 2) := by decide +kernel
theorem d_M_widthOf_29 : decode prog_13_method_7_code 29 = .ok (.if_icmp .ne 32, 3) := by decide +kernel
theorem d_M_widthOf_32 : decode prog_13_method_7_code 32 = .ok (.aload_n 0, 1) := by decide +kernel
theorem d_M_widthOf_33 : decode prog_13_method_7_code 33 = .ok (.getfield 78, 3) := by decide +kernel
theorem d_M_widthOf_36 : decode prog_13_method_7_code 36 = .ok (.iload_n 2, 1) := by decide +kernel
theorem d_M_widthOf_37 : decode prog_13_method_7_code 37 = .ok (.isub, 1) := by decide +kernel
theorem d_M_widthOf_38 : decode prog_13_method_7_code 38 = .ok (.iconst 4, 1) := by decide +kernel
theorem d_M_widthOf_39 : decode prog_13_method_7_code 39 = .ok (.iload_n 2, 1) := by decide +kernel
theorem d_M_widthOf_40 : decode prog_13_method_7_code 40 = .ok (.iconst 4, 1) := by decide +kernel
theorem d_M_widthOf_41 : decode prog_13_method_7_code 41 = .ok (.irem, 1) := by decide +kernel
theorem d_M_widthOf_42 : decode prog_13_method_7_code 42 = .ok (.isub, 1) := by decide +kernel
theorem d_M_widthOf_43 : decode prog_13_method_7_code 43 = .ok (.if_icmp .ge 12, 3) := by decide +kernel
theorem d_M_widthOf_46 : decode prog_13_method_7_code 46 = .ok (.aload_n 0, 1) := by decide +kernel
theorem d_M_widthOf_47 : decode prog_13_method_7_code 47 = .ok (.getfield 78, 3) := by decide +kernel
theorem d_M_widthOf_50 : decode prog_13_method_7_code 50 = .ok (.iload_n 2, 1) := by decide +kernel
theorem d_M_widthOf_51 : decode prog_13_method_7_code 51 = .ok (.isub, 1) := by decide +kernel
theorem d_M_widthOf_52 : decode prog_13_method_7_code 52 = .ok (.goto 8, 3) := by decide +kernel
theorem d_M_widthOf_55 : decode prog_13_method_7_code 55 = .ok (.iconst 4, 1) := by decide +kernel
theorem d_M_widthOf_56 : decode prog_13_method_7_code 56 = .ok (.iload_n 2, 1) := by decide +kernel
theorem d_M_widthOf_57 : decode prog_13_method_7_code 57 = .ok (.iconst 4, 1) := by decide +kernel
theorem d_M_widthOf_58 : decode prog_13_method_7_code 58 = .ok (.irem, 1) := by decide +kernel
theorem d_M_widthOf_59 : decode prog_13_method_7_code 59 = .ok (.isub, 1) := by decide +kernel
theorem d_M_widthOf_60 : decode prog_13_method_7_code 60 = .ok (.ireturn, 1) := by decide +kernel
theorem d_M_widthOf_61 : decode prog_13_method_7_code 61 = .ok (.aload_n 0, 1) := by decide +kernel
theorem d_M_widthOf_62 : decode prog_13_method_7_code 62 = .ok (.getfield 7, 3) := by decide +kernel
theorem d_M_widthOf_65 : decode prog_13_method_7_code 65 = .ok (.iload_n 1, 1) := by decide +kernel
theorem d_M_widthOf_66 : decode prog_13_method_7_code 66 = .ok (.iaload, 1) := by decide +kernel
theorem d_M_widthOf_67 : decode prog_13_method_7_code 67 = .ok (.invokestatic 97, 3) := by decide +kernel
theorem d_M_widthOf_70 : decode prog_13_method_7_code 70 = .ok (.ifCond .eq 7, 3) := by decide +kernel
theorem d_M_widthOf_73 : decode prog_13_method_7_code 73 = .ok (.iconst 2, 1) := by decide +kernel
theorem d_M_widthOf_74 : decode prog_13_method_7_code 74 = .ok (.goto 4, 3) := by decide +kernel
theorem d_M_widthOf_77 : decode prog_13_method_7_code 77 = .ok (.iconst 1, 1) := by decide +kernel
theorem d_M_widthOf_78 : decode prog_13_method_7_code 78 = .ok (.ireturn, 1) := by decide +kernel
theorem d_M_layOut_0 : decode prog_13_method_8_code 0 = .ok (.iconst 0, 1) := by decide +kernel
theorem d_M_layOut_1 : decode prog_13_method_8_code 1 = .ok (.istore_n 1, 1) := by decide +kernel
theorem d_M_layOut_2 : decode prog_13_method_8_code 2 = .ok (.iconst 0, 1) := by decide +kernel
theorem d_M_layOut_3 : decode prog_13_method_8_code 3 = .ok (.istore_n 2, 1) := by decide +kernel
theorem d_M_layOut_4 : decode prog_13_method_8_code 4 = .ok (.iconst 0, 1) := by decide +kernel
theorem d_M_layOut_5 : decode prog_13_method_8_code 5 = .ok (.istore_n 3, 1) := by decide +kernel
theorem d_M_layOut_6 : decode prog_13_method_8_code 6 = .ok (.iload_n 3, 1) := by decide +kernel
theorem d_M_layOut_7 : decode prog_13_method_8_code 7 = .ok (.aload_n 0, 1) := by decide +kernel
theorem d_M_layOut_8 : decode prog_13_method_8_code 8 = .ok (.getfield 87, 3) := by decide +kernel
theorem d_M_layOut_11 : decode prog_13_method_8_code 11 = .ok (.if_icmp .gt 143, 3) := by decide +kernel
theorem d_M_layOut_14 : decode prog_13_method_8_code 14 = .ok (.aload_n 0, 1) := by decide +kernel
theorem d_M_layOut_15 : decode prog_13_method_8_code 15 = .ok (.iload_n 3, 1) := by decide +kernel
theorem d_M_layOut_16 : decode prog_13_method_8_code 16 = .ok (.iload_n 2, 1) := by decide +kernel
theorem d_M_layOut_17 : decode prog_13_method_8_code 17 = .ok (.invokevirtual 100, 3) := by decide +kernel
theorem d_M_layOut_20 : decode prog_13_method_8_code 20 = .ok (.istore 4, 2) := by decide +kernel
theorem d_M_layOut_22 : decode prog_13_method_8_code 22 = .ok (.iload 4, 2) := by decide +kernel
theorem d_M_layOut_24 : decode prog_13_method_8_code 24 = .ok (.ifCond .eq 14, 3) := by decide +kernel
theorem d_M_layOut_27 : decode prog_13_method_8_code 27 = .ok (.iload_n 2, 1) := by decide +kernel
theorem d_M_layOut_28 : decode prog_13_method_8_code 28 = .ok (.iload 4, 2) := by decide +kernel
theorem d_M_layOut_30 : decode prog_13_method_8_code 30 = .ok (.iadd, 1) := by decide +kernel
theorem d_M_layOut_31 : decode prog_13_method_8_code 31 = .ok (.aload_n 0, 1) := by decide +kernel
theorem d_M_layOut_32 : decode prog_13_method_8_code 32 = .ok (.getfield 78, 3) := by decide +kernel
theorem d_M_layOut_35 : decode prog_13_method_8_code 35 = .ok (.if_icmp .le 16, 3) := by decide +kernel
theorem d_M_layOut_38 : decode prog_13_method_8_code 38 = .ok (.iinc 1 1, 3) := by decide +kernel
theorem d_M_layOut_41 : decode prog_13_method_8_code 41 = .ok (.iconst 0, 1) := by decide +kernel
theorem d_M_layOut_42 : decode prog_13_method_8_code 42 = .ok (.istore_n 2, 1) := by decide +kernel
theorem d_M_layOut_43 : decode prog_13_method_8_code 43 = .ok (.aload_n 0, 1) := by decide +kernel
theorem d_M_layOut_44 : decode prog_13_method_8_code 44 = .ok (.iload_n 3, 1) := by decide +kernel
theorem d_M_layOut_45 : decode prog_13_method_8_code 45 = .ok (.iconst 0, 1) := by decide +kernel
theorem d_M_layOut_46 : decode prog_13_method_8_code 46 = .ok (.invokevirtual 100, 3) := by decide +kernel
theorem d_M_layOut_49 : decode prog_13_method_8_code 49 = .ok (.istore 4, 2) := by decide +kernel
theorem d_M_layOut_51 : decode prog_13_method_8_code 51 = .ok (.aload_n 0, 1) := by decide +kernel
theorem d_M_layOut_52 : decode prog_13_method_8_code 52 = .ok (.getfield 41, 3) := by decide +kernel
theorem d_M_layOut_55 : decode prog_13_method_8_code 55 = .ok (.iload_n 3, 1) := by decide +kernel
theorem d_M_layOut_56 : decode prog_13_method_8_code 56 = .ok (.iload_n 1, 1) := by decide +kernel
theorem d_M_layOut_57 : decode prog_13_method_8_code 57 = .ok (.iastore, 1) := by decide +kernel
theorem d_M_layOut_58 : decode prog_13_method_8_code 58 = .ok (.aload_n 0, 1) := by decide +kernel
theorem d_M_layOut_59 : decode prog_13_method_8_code 59 = .ok (.getfield 44, 3) := by decide +kernel
theorem d_M_layOut_62 : decode prog_13_method_8_code 62 = .ok (.iload_n 3, 1) := by decide +kernel
theorem d_M_layOut_63 : decode prog_13_method_8_code 63 = .ok (.iload_n 2, 1) := by decide +kernel
theorem d_M_layOut_64 : decode prog_13_method_8_code 64 = .ok (.iastore, 1) := by decide +kernel
theorem d_M_layOut_65 : decode prog_13_method_8_code 65 = .ok (.aload_n 0, 1) := by decide +kernel
theorem d_M_layOut_66 : decode prog_13_method_8_code 66 = .ok (.getfield 47, 3) := by decide +kernel
theorem d_M_layOut_69 : decode prog_13_method_8_code 69 = .ok (.iload_n 3, 1) := by decide +kernel
theorem d_M_layOut_70 : decode prog_13_method_8_code 70 = .ok (.iload 4, 2) := by decide +kernel
theorem d_M_layOut_72 : decode prog_13_method_8_code 72 = .ok (.iastore, 1) := by decide +kernel
theorem d_M_layOut_73 : decode prog_13_method_8_code 73 = .ok (.aload_n 0, 1) := by decide +kernel
theorem d_M_layOut_74 : decode prog_13_method_8_code 74 = .ok (.iload_n 1, 1) := by decide +kernel
theorem d_M_layOut_75 : decode prog_13_method_8_code 75 = .ok (.putfield 104, 3) := by decide +kernel
theorem d_M_layOut_78 : decode prog_13_method_8_code 78 = .ok (.iload_n 3, 1) := by decide +kernel
theorem d_M_layOut_79 : decode prog_13_method_8_code 79 = .ok (.aload_n 0, 1) := by decide +kernel
theorem d_M_layOut_80 : decode prog_13_method_8_code 80 = .ok (.getfield 87, 3) := by decide +kernel
theorem d_M_layOut_83 : decode prog_13_method_8_code 83 = .ok (.if_icmp .ge 18, 3) := by decide +kernel
theorem d_M_layOut_86 : decode prog_13_method_8_code 86 = .ok (.aload_n 0, 1) := by decide +kernel
theorem d_M_layOut_87 : decode prog_13_method_8_code 87 = .ok (.getfield 7, 3) := by decide +kernel
theorem d_M_layOut_90 : decode prog_13_method_8_code 90 = .ok (.iload_n 3, 1) := by decide +kernel
theorem d_M_layOut_91 : decode prog_13_method_8_code 91 = .ok (.iaload, 1) := by decide +kernel
theorem d_M_layOut_92 : decode prog_13_method_8_code 92 = .ok (.bipush 10, 2) := by decide +kernel
theorem d_M_layOut_94 : decode prog_13_method_8_code 94 = .ok (.if_icmp .ne 7, 3) := by decide +kernel
theorem d_M_layOut_97 : decode prog_13_method_8_code 97 = .ok (.iconst 1, 1) := by decide +kernel
theorem d_M_layOut_98 : decode prog_13_method_8_code 98 = .ok (.goto 4, 3) := by decide +kernel
theorem d_M_layOut_101 : decode prog_13_method_8_code 101 = .ok (.iconst 0, 1) := by decide +kernel
theorem d_M_layOut_102 : decode prog_13_method_8_code 102 = .ok (.istore 5, 2) := by decide +kernel
theorem d_M_layOut_104 : decode prog_13_method_8_code 104 = .ok (.iload 5, 2) := by decide +kernel
theorem d_M_layOut_106 : decode prog_13_method_8_code 106 = .ok (.ifCond .eq 7, 3) := by decide +kernel
theorem d_M_layOut_109 : decode prog_13_method_8_code 109 = .ok (.iconst 0, 1) := by decide +kernel
theorem d_M_layOut_110 : decode prog_13_method_8_code 110 = .ok (.goto 7, 3) := by decide +kernel
theorem d_M_layOut_113 : decode prog_13_method_8_code 113 = .ok (.iload_n 2, 1) := by decide +kernel
theorem d_M_layOut_114 : decode prog_13_method_8_code 114 = .ok (.iload 4, 2) := by decide +kernel
theorem d_M_layOut_116 : decode prog_13_method_8_code 116 = .ok (.iadd, 1) := by decide +kernel
theorem d_M_layOut_117 : decode prog_13_method_8_code 117 = .ok (.istore_n 2, 1) := by decide +kernel
theorem d_M_layOut_118 : decode prog_13_method_8_code 118 = .ok (.iload 5, 2) := by decide +kernel
theorem d_M_layOut_120 : decode prog_13_method_8_code 120 = .ok (.ifCond .eq 9, 3) := by decide +kernel
theorem d_M_layOut_123 : decode prog_13_method_8_code 123 = .ok (.iload_n 1, 1) := by decide +kernel
theorem d_M_layOut_124 : decode prog_13_method_8_code 124 = .ok (.iconst 1, 1) := by decide +kernel
theorem d_M_layOut_125 : decode prog_13_method_8_code 125 = .ok (.iadd, 1) := by decide +kernel
theorem d_M_layOut_126 : decode prog_13_method_8_code 126 = .ok (.goto 4, 3) := by decide +kernel
theorem d_M_layOut_129 : decode prog_13_method_8_code 129 = .ok (.iload_n 1, 1) := by decide +kernel
theorem d_M_layOut_130 : decode prog_13_method_8_code 130 = .ok (.istore_n 1, 1) := by decide +kernel
theorem d_M_layOut_131 : decode prog_13_method_8_code 131 = .ok (.iload_n 3, 1) := by decide +kernel
theorem d_M_layOut_132 : decode prog_13_method_8_code 132 = .ok (.aload_n 0, 1) := by decide +kernel
theorem d_M_layOut_133 : decode prog_13_method_8_code 133 = .ok (.getfield 87, 3) := by decide +kernel
theorem d_M_layOut_136 : decode prog_13_method_8_code 136 = .ok (.if_icmp .ne 9, 3) := by decide +kernel
theorem d_M_layOut_139 : decode prog_13_method_8_code 139 = .ok (.iload_n 3, 1) := by decide +kernel
theorem d_M_layOut_140 : decode prog_13_method_8_code 140 = .ok (.iconst 1, 1) := by decide +kernel
theorem d_M_layOut_141 : decode prog_13_method_8_code 141 = .ok (.iadd, 1) := by decide +kernel
theorem d_M_layOut_142 : decode prog_13_method_8_code 142 = .ok (.goto 8, 3) := by decide +kernel
theorem d_M_layOut_145 : decode prog_13_method_8_code 145 = .ok (.aload_n 0, 1) := by decide +kernel
theorem d_M_layOut_146 : decode prog_13_method_8_code 146 = .ok (.iload_n 3, 1) := by decide +kernel
theorem d_M_layOut_147 : decode prog_13_method_8_code 147 = .ok (.invokevirtual 107, 3) := by decide +kernel
theorem d_M_layOut_150 : decode prog_13_method_8_code 150 = .ok (.istore_n 3, 1) := by decide +kernel
theorem d_M_layOut_151 : decode prog_13_method_8_code 151 = .ok (.goto (-145), 3) := by decide +kernel
theorem d_M_layOut_154 : decode prog_13_method_8_code 154 = .ok (.return_, 1) := by decide +kernel
theorem d_M_isSmall_0 : decode prog_13_method_9_code 0 = .ok (.aload_n 0, 1) := by decide +kernel
theorem d_M_isSmall_1 : decode prog_13_method_9_code 1 = .ok (.getfield 78, 3) := by decide +kernel
theorem d_M_isSmall_4 : decode prog_13_method_9_code 4 = .ok (.iconst 4, 1) := by decide +kernel
theorem d_M_isSmall_5 : decode prog_13_method_9_code 5 = .ok (.if_icmp .lt 11, 3) := by decide +kernel
theorem d_M_isSmall_8 : decode prog_13_method_9_code 8 = .ok (.aload_n 0, 1) := by decide +kernel
theorem d_M_isSmall_9 : decode prog_13_method_9_code 9 = .ok (.getfield 81, 3) := by decide +kernel
theorem d_M_isSmall_12 : decode prog_13_method_9_code 12 = .ok (.iconst 2, 1) := by decide +kernel
theorem d_M_isSmall_13 : decode prog_13_method_9_code 13 = .ok (.if_icmp .ge 7, 3) := by decide +kernel
theorem d_M_isSmall_16 : decode prog_13_method_9_code 16 = .ok (.iconst 1, 1) := by decide +kernel
theorem d_M_isSmall_17 : decode prog_13_method_9_code 17 = .ok (.goto 4, 3) := by decide +kernel
theorem d_M_isSmall_20 : decode prog_13_method_9_code 20 = .ok (.iconst 0, 1) := by decide +kernel
theorem d_M_isSmall_21 : decode prog_13_method_9_code 21 = .ok (.ireturn, 1) := by decide +kernel
theorem d_M_forgetFirst_0 : decode prog_13_method_10_code 0 = .ok (.iconst 1, 1) := by decide +kernel
theorem d_M_forgetFirst_1 : decode prog_13_method_10_code 1 = .ok (.istore_n 1, 1) := by decide +kernel
theorem d_M_forgetFirst_2 : decode prog_13_method_10_code 2 = .ok (.iload_n 1, 1) := by decide +kernel
theorem d_M_forgetFirst_3 : decode prog_13_method_10_code 3 = .ok (.bipush 12, 2) := by decide +kernel
theorem d_M_forgetFirst_5 : decode prog_13_method_10_code 5 = .ok (.if_icmp .ge 65, 3) := by decide +kernel
theorem d_M_forgetFirst_8 : decode prog_13_method_10_code 8 = .ok (.aload_n 0, 1) := by decide +kernel
theorem d_M_forgetFirst_9 : decode prog_13_method_10_code 9 = .ok (.getfield 23, 3) := by decide +kernel
theorem d_M_forgetFirst_12 : decode prog_13_method_10_code 12 = .ok (.iload_n 1, 1) := by decide +kernel
theorem d_M_forgetFirst_13 : decode prog_13_method_10_code 13 = .ok (.iconst 1, 1) := by decide +kernel
theorem d_M_forgetFirst_14 : decode prog_13_method_10_code 14 = .ok (.isub, 1) := by decide +kernel
theorem d_M_forgetFirst_15 : decode prog_13_method_10_code 15 = .ok (.aload_n 0, 1) := by decide +kernel
theorem d_M_forgetFirst_16 : decode prog_13_method_10_code 16 = .ok (.getfield 23, 3) := by decide +kernel
theorem d_M_forgetFirst_19 : decode prog_13_method_10_code 19 = .ok (.iload_n 1, 1) := by decide +kernel
theorem d_M_forgetFirst_20 : decode prog_13_method_10_code 20 = .ok (.iaload, 1) := by decide +kernel
theorem d_M_forgetFirst_21 : decode prog_13_method_10_code 21 = .ok (.iastore, 1) := by decide +kernel
theorem d_M_forgetFirst_22 : decode prog_13_method_10_code 22 = .ok (.aload_n 0, 1) := by decide +kernel
theorem d_M_forgetFirst_23 : decode prog_13_method_10_code 23 = .ok (.getfield 26, 3) := by decide +kernel
theorem d_M_forgetFirst_26 : decode prog_13_method_10_code 26 = .ok (.iload_n 1, 1) := by decide +kernel
theorem d_M_forgetFirst_27 : decode prog_13_method_10_code 27 = .ok (.iconst 1, 1) := by decide +kernel
theorem d_M_forgetFirst_28 : decode prog_13_method_10_code 28 = .ok (.isub, 1) := by decide +kernel
theorem d_M_forgetFirst_29 : decode prog_13_method_10_code 29 = .ok (.aload_n 0, 1) := by decide +kernel
theorem d_M_forgetFirst_30 : decode prog_13_method_10_code 30 = .ok (.getfield 26, 3) := by decide +kernel
theorem d_M_forgetFirst_33 : decode prog_13_method_10_code 33 = .ok (.iload_n 1, 1) := by decide +kernel
theorem d_M_forgetFirst_34 : decode prog_13_method_10_code 34 = .ok (.iaload, 1) := by decide +kernel
theorem d_M_forgetFirst_35 : decode prog_13_method_10_code 35 = .ok (.iastore, 1) := by decide +kernel
theorem d_M_forgetFirst_36 : decode prog_13_method_10_code 36 = .ok (.aload_n 0, 1) := by decide +kernel
theorem d_M_forgetFirst_37 : decode prog_13_method_10_code 37 = .ok (.getfield 29, 3) := by decide +kernel
theorem d_M_forgetFirst_40 : decode prog_13_method_10_code 40 = .ok (.iload_n 1, 1) := by decide +kernel
theorem d_M_forgetFirst_41 : decode prog_13_method_10_code 41 = .ok (.iconst 1, 1) := by decide +kernel
theorem d_M_forgetFirst_42 : decode prog_13_method_10_code 42 = .ok (.isub, 1) := by decide +kernel
theorem d_M_forgetFirst_43 : decode prog_13_method_10_code 43 = .ok (.aload_n 0, 1) := by decide +kernel
theorem d_M_forgetFirst_44 : decode prog_13_method_10_code 44 = .ok (.getfield 29, 3) := by decide +kernel
theorem d_M_forgetFirst_47 : decode prog_13_method_10_code 47 = .ok (.iload_n 1, 1) := by decide +kernel
theorem d_M_forgetFirst_48 : decode prog_13_method_10_code 48 = .ok (.iaload, 1) := by decide +kernel
theorem d_M_forgetFirst_49 : decode prog_13_method_10_code 49 = .ok (.iastore, 1) := by decide +kernel
theorem d_M_forgetFirst_50 : decode prog_13_method_10_code 50 = .ok (.aload_n 0, 1) := by decide +kernel
theorem d_M_forgetFirst_51 : decode prog_13_method_10_code 51 = .ok (.getfield 32, 3) := by decide +kernel
theorem d_M_forgetFirst_54 : decode prog_13_method_10_code 54 = .ok (.iload_n 1, 1) := by decide +kernel
theorem d_M_forgetFirst_55 : decode prog_13_method_10_code 55 = .ok (.iconst 1, 1) := by decide +kernel
theorem d_M_forgetFirst_56 : decode prog_13_method_10_code 56 = .ok (.isub, 1) := by decide +kernel
theorem d_M_forgetFirst_57 : decode prog_13_method_10_code 57 = .ok (.aload_n 0, 1) := by decide +kernel
theorem d_M_forgetFirst_58 : decode prog_13_method_10_code 58 = .ok (.getfield 32, 3) := by decide +kernel
theorem d_M_forgetFirst_61 : decode prog_13_method_10_code 61 = .ok (.iload_n 1, 1) := by decide +kernel
theorem d_M_forgetFirst_62 : decode prog_13_method_10_code 62 = .ok (.iaload, 1) := by decide +kernel
theorem d_M_forgetFirst_63 : decode prog_13_method_10_code 63 = .ok (.iastore, 1) := by decide +kernel
theorem d_M_forgetFirst_64 : decode prog_13_method_10_code 64 = .ok (.iinc 1 1, 3) := by decide +kernel
theorem d_M_forgetFirst_67 : decode prog_13_method_10_code 67 = .ok (.goto (-65), 3) := by decide +kernel
theorem d_M_forgetFirst_70 : decode prog_13_method_10_code 70 = .ok (.sipush 200, 3) := by decide +kernel
theorem d_M_forgetFirst_73 : decode prog_13_method_10_code 73 = .ok (.istore_n 1, 1) := by decide +kernel
theorem d_M_forgetFirst_74 : decode prog_13_method_10_code 74 = .ok (.iload_n 1, 1) := by decide +kernel
theorem d_M_forgetFirst_75 : decode prog_13_method_10_code 75 = .ok (.sipush 2400, 3) := by decide +kernel
theorem d_M_forgetFirst_78 : decode prog_13_method_10_code 78 = .ok (.if_icmp .ge 25, 3) := by decide +kernel
theorem d_M_forgetFirst_81 : decode prog_13_method_10_code 81 = .ok (.aload_n 0, 1) := by decide +kernel
theorem d_M_forgetFirst_82 : decode prog_13_method_10_code 82 = .ok (.getfield 35, 3) := by decide +kernel
theorem d_M_forgetFirst_85 : decode prog_13_method_10_code 85 = .ok (.iload_n 1, 1) := by decide +kernel
theorem d_M_forgetFirst_86 : decode prog_13_method_10_code 86 = .ok (.sipush 200, 3) := by decide +kernel
theorem d_M_forgetFirst_89 : decode prog_13_method_10_code 89 = .ok (.isub, 1) := by decide +kernel
theorem d_M_forgetFirst_90 : decode prog_13_method_10_code 90 = .ok (.aload_n 0, 1) := by decide +kernel
theorem d_M_forgetFirst_91 : decode prog_13_method_10_code 91 = .ok (.getfield 35, 3) := by decide +kernel
theorem d_M_forgetFirst_94 : decode prog_13_method_10_code 94 = .ok (.iload_n 1, 1) := by decide +kernel
theorem d_M_forgetFirst_95 : decode prog_13_method_10_code 95 = .ok (.iaload, 1) := by decide +kernel
theorem d_M_forgetFirst_96 : decode prog_13_method_10_code 96 = .ok (.iastore, 1) := by decide +kernel
theorem d_M_forgetFirst_97 : decode prog_13_method_10_code 97 = .ok (.iinc 1 1, 3) := by decide +kernel
theorem d_M_forgetFirst_100 : decode prog_13_method_10_code 100 = .ok (.goto (-26), 3) := by decide +kernel
theorem d_M_forgetFirst_103 : decode prog_13_method_10_code 103 = .ok (.aload_n 0, 1) := by decide +kernel
theorem d_M_forgetFirst_104 : decode prog_13_method_10_code 104 = .ok (.bipush 11, 2) := by decide +kernel
theorem d_M_forgetFirst_106 : decode prog_13_method_10_code 106 = .ok (.putfield 111, 3) := by decide +kernel
theorem d_M_forgetFirst_109 : decode prog_13_method_10_code 109 = .ok (.return_, 1) := by decide +kernel
theorem d_M_open_0 : decode prog_13_method_11_code 0 = .ok (.aload_n 0, 1) := by decide +kernel
theorem d_M_open_1 : decode prog_13_method_11_code 1 = .ok (.getfield 87, 3) := by decide +kernel
theorem d_M_open_4 : decode prog_13_method_11_code 4 = .ok (.iconst 1, 1) := by decide +kernel
theorem d_M_open_5 : decode prog_13_method_11_code 5 = .ok (.isub, 1) := by decide +kernel
theorem d_M_open_6 : decode prog_13_method_11_code 6 = .ok (.istore_n 3, 1) := by decide +kernel
theorem d_M_open_7 : decode prog_13_method_11_code 7 = .ok (.iload_n 3, 1) := by decide +kernel
theorem d_M_open_8 : decode prog_13_method_11_code 8 = .ok (.iload_n 1, 1) := by decide +kernel
theorem d_M_open_9 : decode prog_13_method_11_code 9 = .ok (.if_icmp .lt 23, 3) := by decide +kernel
theorem d_M_open_12 : decode prog_13_method_11_code 12 = .ok (.aload_n 0, 1) := by decide +kernel
theorem d_M_open_13 : decode prog_13_method_11_code 13 = .ok (.getfield 7, 3) := by decide +kernel
theorem d_M_open_16 : decode prog_13_method_11_code 16 = .ok (.iload_n 3, 1) := by decide +kernel
theorem d_M_open_17 : decode prog_13_method_11_code 17 = .ok (.iload_n 2, 1) := by decide +kernel
theorem d_M_open_18 : decode prog_13_method_11_code 18 = .ok (.iadd, 1) := by decide +kernel
theorem d_M_open_19 : decode prog_13_method_11_code 19 = .ok (.aload_n 0, 1) := by decide +kernel
theorem d_M_open_20 : decode prog_13_method_11_code 20 = .ok (.getfield 7, 3) := by decide +kernel
theorem d_M_open_23 : decode prog_13_method_11_code 23 = .ok (.iload_n 3, 1) := by decide +kernel
theorem d_M_open_24 : decode prog_13_method_11_code 24 = .ok (.iaload, 1) := by decide +kernel
theorem d_M_open_25 : decode prog_13_method_11_code 25 = .ok (.iastore, 1) := by decide +kernel
theorem d_M_open_26 : decode prog_13_method_11_code 26 = .ok (.iinc 3 (-1), 3) := by decide +kernel
theorem d_M_open_29 : decode prog_13_method_11_code 29 = .ok (.goto (-22), 3) := by decide +kernel
theorem d_M_open_32 : decode prog_13_method_11_code 32 = .ok (.aload_n 0, 1) := by decide +kernel
theorem d_M_open_33 : decode prog_13_method_11_code 33 = .ok (.dup, 1) := by decide +kernel
theorem d_M_open_34 : decode prog_13_method_11_code 34 = .ok (.getfield 87, 3) := by decide +kernel
theorem d_M_open_37 : decode prog_13_method_11_code 37 = .ok (.iload_n 2, 1) := by decide +kernel
theorem d_M_open_38 : decode prog_13_method_11_code 38 = .ok (.iadd, 1) := by decide +kernel
theorem d_M_open_39 : decode prog_13_method_11_code 39 = .ok (.putfield 87, 3) := by decide +kernel
theorem d_M_open_42 : decode prog_13_method_11_code 42 = .ok (.return_, 1) := by decide +kernel
theorem d_M_close_0 : decode prog_13_method_12_code 0 = .ok (.iload_n 1, 1) := by decide +kernel
theorem d_M_close_1 : decode prog_13_method_12_code 1 = .ok (.istore_n 3, 1) := by decide +kernel
theorem d_M_close_2 : decode prog_13_method_12_code 2 = .ok (.iload_n 3, 1) := by decide +kernel
theorem d_M_close_3 : decode prog_13_method_12_code 3 = .ok (.iload_n 2, 1) := by decide +kernel
theorem d_M_close_4 : decode prog_13_method_12_code 4 = .ok (.iadd, 1) := by decide +kernel
theorem d_M_close_5 : decode prog_13_method_12_code 5 = .ok (.aload_n 0, 1) := by decide +kernel
theorem d_M_close_6 : decode prog_13_method_12_code 6 = .ok (.getfield 87, 3) := by decide +kernel
theorem d_M_close_9 : decode prog_13_method_12_code 9 = .ok (.if_icmp .ge 23, 3) := by decide +kernel
theorem d_M_close_12 : decode prog_13_method_12_code 12 = .ok (.aload_n 0, 1) := by decide +kernel
theorem d_M_close_13 : decode prog_13_method_12_code 13 = .ok (.getfield 7, 3) := by decide +kernel
theorem d_M_close_16 : decode prog_13_method_12_code 16 = .ok (.iload_n 3, 1) := by decide +kernel
theorem d_M_close_17 : decode prog_13_method_12_code 17 = .ok (.aload_n 0, 1) := by decide +kernel
theorem d_M_close_18 : decode prog_13_method_12_code 18 = .ok (.getfield 7, 3) := by decide +kernel
theorem d_M_close_21 : decode prog_13_method_12_code 21 = .ok (.iload_n 3, 1) := by decide +kernel
theorem d_M_close_22 : decode prog_13_method_12_code 22 = .ok (.iload_n 2, 1) := by decide +kernel
theorem d_M_close_23 : decode prog_13_method_12_code 23 = .ok (.iadd, 1) := by decide +kernel
theorem d_M_close_24 : decode prog_13_method_12_code 24 = .ok (.iaload, 1) := by decide +kernel
theorem d_M_close_25 : decode prog_13_method_12_code 25 = .ok (.iastore, 1) := by decide +kernel
theorem d_M_close_26 : decode prog_13_method_12_code 26 = .ok (.iinc 3 1, 3) := by decide +kernel
theorem d_M_close_29 : decode prog_13_method_12_code 29 = .ok (.goto (-27), 3) := by decide +kernel
theorem d_M_close_32 : decode prog_13_method_12_code 32 = .ok (.aload_n 0, 1) := by decide +kernel
theorem d_M_close_33 : decode prog_13_method_12_code 33 = .ok (.dup, 1) := by decide +kernel
theorem d_M_close_34 : decode prog_13_method_12_code 34 = .ok (.getfield 87, 3) := by decide +kernel
theorem d_M_close_37 : decode prog_13_method_12_code 37 = .ok (.iload_n 2, 1) := by decide +kernel
theorem d_M_close_38 : decode prog_13_method_12_code 38 = .ok (.isub, 1) := by decide +kernel
theorem d_M_close_39 : decode prog_13_method_12_code 39 = .ok (.putfield 87, 3) := by decide +kernel
theorem d_M_close_42 : decode prog_13_method_12_code 42 = .ok (.return_, 1) := by decide +kernel
theorem d_M_note_0 : decode prog_13_method_13_code 0 = .ok (.aload_n 0, 1) := by decide +kernel
theorem d_M_note_1 : decode prog_13_method_13_code 1 = .ok (.getfield 111, 3) := by decide +kernel
theorem d_M_note_4 : decode prog_13_method_13_code 4 = .ok (.bipush 12, 2) := by decide +kernel
theorem d_M_note_6 : decode prog_13_method_13_code 6 = .ok (.if_icmp .ne 7, 3) := by decide +kernel
theorem d_M_note_9 : decode prog_13_method_13_code 9 = .ok (.aload_n 0, 1) := by decide +kernel
theorem d_M_note_10 : decode prog_13_method_13_code 10 = .ok (.invokevirtual 114, 3) := by decide +kernel
theorem d_M_note_13 : decode prog_13_method_13_code 13 = .ok (.aload_n 0, 1) := by decide +kernel
theorem d_M_note_14 : decode prog_13_method_13_code 14 = .ok (.getfield 23, 3) := by decide +kernel
theorem d_M_note_17 : decode prog_13_method_13_code 17 = .ok (.aload_n 0, 1) := by decide +kernel
theorem d_M_note_18 : decode prog_13_method_13_code 18 = .ok (.getfield 111, 3) := by decide +kernel
theorem d_M_note_21 : decode prog_13_method_13_code 21 = .ok (.iload_n 1, 1) := by decide +kernel
theorem d_M_note_22 : decode prog_13_method_13_code 22 = .ok (.iastore, 1) := by decide +kernel
theorem d_M_note_23 : decode prog_13_method_13_code 23 = .ok (.aload_n 0, 1) := by decide +kernel
theorem d_M_note_24 : decode prog_13_method_13_code 24 = .ok (.getfield 26, 3) := by decide +kernel
theorem d_M_note_27 : decode prog_13_method_13_code 27 = .ok (.aload_n 0, 1) := by decide +kernel
theorem d_M_note_28 : decode prog_13_method_13_code 28 = .ok (.getfield 111, 3) := by decide +kernel
theorem d_M_note_31 : decode prog_13_method_13_code 31 = .ok (.iload_n 2, 1) := by decide +kernel
theorem d_M_note_32 : decode prog_13_method_13_code 32 = .ok (.iastore, 1) := by decide +kernel
theorem d_M_note_33 : decode prog_13_method_13_code 33 = .ok (.aload_n 0, 1) := by decide +kernel
theorem d_M_note_34 : decode prog_13_method_13_code 34 = .ok (.getfield 29, 3) := by decide +kernel
theorem d_M_note_37 : decode prog_13_method_13_code 37 = .ok (.aload_n 0, 1) := by decide +kernel
theorem d_M_note_38 : decode prog_13_method_13_code 38 = .ok (.getfield 111, 3) := by decide +kernel
theorem d_M_note_41 : decode prog_13_method_13_code 41 = .ok (.iload_n 3, 1) := by decide +kernel
theorem d_M_note_42 : decode prog_13_method_13_code 42 = .ok (.iastore, 1) := by decide +kernel
theorem d_M_note_43 : decode prog_13_method_13_code 43 = .ok (.aload_n 0, 1) := by decide +kernel
theorem d_M_note_44 : decode prog_13_method_13_code 44 = .ok (.getfield 32, 3) := by decide +kernel
theorem d_M_note_47 : decode prog_13_method_13_code 47 = .ok (.aload_n 0, 1) := by decide +kernel
theorem d_M_note_48 : decode prog_13_method_13_code 48 = .ok (.getfield 111, 3) := by decide +kernel
theorem d_M_note_51 : decode prog_13_method_13_code 51 = .ok (.aload_n 0, 1) := by decide +kernel
theorem d_M_note_52 : decode prog_13_method_13_code 52 = .ok (.getfield 117, 3) := by decide +kernel
theorem d_M_note_55 : decode prog_13_method_13_code 55 = .ok (.iastore, 1) := by decide +kernel
theorem d_M_note_56 : decode prog_13_method_13_code 56 = .ok (.iconst 0, 1) := by decide +kernel
theorem d_M_note_57 : decode prog_13_method_13_code 57 = .ok (.istore 4, 2) := by decide +kernel
theorem d_M_note_59 : decode prog_13_method_13_code 59 = .ok (.iload 4, 2) := by decide +kernel
theorem d_M_note_61 : decode prog_13_method_13_code 61 = .ok (.iload_n 3, 1) := by decide +kernel
theorem d_M_note_62 : decode prog_13_method_13_code 62 = .ok (.if_icmp .ge 34, 3) := by decide +kernel
theorem d_M_note_65 : decode prog_13_method_13_code 65 = .ok (.aload_n 0, 1) := by decide +kernel
theorem d_M_note_66 : decode prog_13_method_13_code 66 = .ok (.getfield 35, 3) := by decide +kernel
theorem d_M_note_69 : decode prog_13_method_13_code 69 = .ok (.sipush 200, 3) := by decide +kernel
theorem d_M_note_72 : decode prog_13_method_13_code 72 = .ok (.aload_n 0, 1) := by decide +kernel
theorem d_M_note_73 : decode prog_13_method_13_code 73 = .ok (.getfield 111, 3) := by decide +kernel
theorem d_M_note_76 : decode prog_13_method_13_code 76 = .ok (.imul, 1) := by decide +kernel
theorem d_M_note_77 : decode prog_13_method_13_code 77 = .ok (.iload 4, 2) := by decide +kernel
theorem d_M_note_79 : decode prog_13_method_13_code 79 = .ok (.iadd, 1) := by decide +kernel
theorem d_M_note_80 : decode prog_13_method_13_code 80 = .ok (.aload_n 0, 1) := by decide +kernel
theorem d_M_note_81 : decode prog_13_method_13_code 81 = .ok (.getfield 7, 3) := by decide +kernel
theorem d_M_note_84 : decode prog_13_method_13_code 84 = .ok (.iload_n 1, 1) := by decide +kernel
theorem d_M_note_85 : decode prog_13_method_13_code 85 = .ok (.iload 4, 2) := by decide +kernel
theorem d_M_note_87 : decode prog_13_method_13_code 87 = .ok (.iadd, 1) := by decide +kernel
theorem d_M_note_88 : decode prog_13_method_13_code 88 = .ok (.iaload, 1) := by decide +kernel
theorem d_M_note_89 : decode prog_13_method_13_code 89 = .ok (.iastore, 1) := by decide +kernel
theorem d_M_note_90 : decode prog_13_method_13_code 90 = .ok (.iinc 4 1, 3) := by decide +kernel
theorem d_M_note_93 : decode prog_13_method_13_code 93 = .ok (.goto (-34), 3) := by decide +kernel
theorem d_M_note_96 : decode prog_13_method_13_code 96 = .ok (.aload_n 0, 1) := by decide +kernel
theorem d_M_note_97 : decode prog_13_method_13_code 97 = .ok (.dup, 1) := by decide +kernel
theorem d_M_note_98 : decode prog_13_method_13_code 98 = .ok (.getfield 111, 3) := by decide +kernel
theorem d_M_note_101 : decode prog_13_method_13_code 101 = .ok (.iconst 1, 1) := by decide +kernel
theorem d_M_note_102 : decode prog_13_method_13_code 102 = .ok (.iadd, 1) := by decide +kernel
theorem d_M_note_103 : decode prog_13_method_13_code 103 = .ok (.putfield 111, 3) := by decide +kernel
theorem d_M_note_106 : decode prog_13_method_13_code 106 = .ok (.aload_n 0, 1) := by decide +kernel
theorem d_M_note_107 : decode prog_13_method_13_code 107 = .ok (.iconst (-1), 1) := by decide +kernel
theorem d_M_note_108 : decode prog_13_method_13_code 108 = .ok (.putfield 13, 3) := by decide +kernel
theorem d_M_note_111 : decode prog_13_method_13_code 111 = .ok (.return_, 1) := by decide +kernel
theorem d_M_settle_0 : decode prog_13_method_14_code 0 = .ok (.aload_n 0, 1) := by decide +kernel
theorem d_M_settle_1 : decode prog_13_method_14_code 1 = .ok (.iload_n 1, 1) := by decide +kernel
theorem d_M_settle_2 : decode prog_13_method_14_code 2 = .ok (.putfield 117, 3) := by decide +kernel
theorem d_M_settle_5 : decode prog_13_method_14_code 5 = .ok (.aload_n 0, 1) := by decide +kernel
theorem d_M_settle_6 : decode prog_13_method_14_code 6 = .ok (.aload_n 0, 1) := by decide +kernel
theorem d_M_settle_7 : decode prog_13_method_14_code 7 = .ok (.getfield 117, 3) := by decide +kernel
theorem d_M_settle_10 : decode prog_13_method_14_code 10 = .ok (.invokevirtual 94, 3) := by decide +kernel
theorem d_M_settle_13 : decode prog_13_method_14_code 13 = .ok (.ifCond .ne 16, 3) := by decide +kernel
theorem d_M_settle_16 : decode prog_13_method_14_code 16 = .ok (.aload_n 0, 1) := by decide +kernel
theorem d_M_settle_17 : decode prog_13_method_14_code 17 = .ok (.dup, 1) := by decide +kernel
theorem d_M_settle_18 : decode prog_13_method_14_code 18 = .ok (.getfield 117, 3) := by decide +kernel
theorem d_M_settle_21 : decode prog_13_method_14_code 21 = .ok (.iconst 1, 1) := by decide +kernel
theorem d_M_settle_22 : decode prog_13_method_14_code 22 = .ok (.iadd, 1) := by decide +kernel
theorem d_M_settle_23 : decode prog_13_method_14_code 23 = .ok (.putfield 117, 3) := by decide +kernel
theorem d_M_settle_26 : decode prog_13_method_14_code 26 = .ok (.goto (-21), 3) := by decide +kernel
theorem d_M_settle_29 : decode prog_13_method_14_code 29 = .ok (.return_, 1) := by decide +kernel
theorem d_M_insertOne_0 : decode prog_13_method_15_code 0 = .ok (.aload_n 0, 1) := by decide +kernel
theorem d_M_insertOne_1 : decode prog_13_method_15_code 1 = .ok (.getfield 87, 3) := by decide +kernel
theorem d_M_insertOne_4 : decode prog_13_method_15_code 4 = .ok (.sipush 200, 3) := by decide +kernel
theorem d_M_insertOne_7 : decode prog_13_method_15_code 7 = .ok (.if_icmp .ne 4, 3) := by decide +kernel
theorem d_M_insertOne_10 : decode prog_13_method_15_code 10 = .ok (.return_, 1) := by decide +kernel
theorem d_M_insertOne_11 : decode prog_13_method_15_code 11 = .ok (.aload_n 0, 1) := by decide +kernel
theorem d_M_insertOne_12 : decode prog_13_method_15_code 12 = .ok (.aload_n 0, 1) := by decide +kernel
theorem d_M_insertOne_13 : decode prog_13_method_15_code 13 = .ok (.getfield 117, 3) := by decide +kernel
theorem d_M_insertOne_16 : decode prog_13_method_15_code 16 = .ok (.iconst 1, 1) := by decide +kernel
theorem d_M_insertOne_17 : decode prog_13_method_15_code 17 = .ok (.iconst 0, 1) := by decide +kernel
theorem d_M_insertOne_18 : decode prog_13_method_15_code 18 = .ok (.invokevirtual 120, 3) := by decide +kernel
theorem d_M_insertOne_21 : decode prog_13_method_15_code 21 = .ok (.aload_n 0, 1) := by decide +kernel
theorem d_M_insertOne_22 : decode prog_13_method_15_code 22 = .ok (.aload_n 0, 1) := by decide +kernel
theorem d_M_insertOne_23 : decode prog_13_method_15_code 23 = .ok (.getfield 117, 3) := by decide +kernel
theorem d_M_insertOne_26 : decode prog_13_method_15_code 26 = .ok (.iconst 1, 1) := by decide +kernel
theorem d_M_insertOne_27 : decode prog_13_method_15_code 27 = .ok (.invokevirtual 124, 3) := by decide +kernel
theorem d_M_insertOne_30 : decode prog_13_method_15_code 30 = .ok (.aload_n 0, 1) := by decide +kernel
theorem d_M_insertOne_31 : decode prog_13_method_15_code 31 = .ok (.getfield 7, 3) := by decide +kernel
theorem d_M_insertOne_34 : decode prog_13_method_15_code 34 = .ok (.aload_n 0, 1) := by decide +kernel
theorem d_M_insertOne_35 : decode prog_13_method_15_code 35 = .ok (.getfield 117, 3) := by decide +kernel
theorem d_M_insertOne_38 : decode prog_13_method_15_code 38 = .ok (.iload_n 1, 1) := by decide +kernel
theorem d_M_insertOne_39 : decode prog_13_method_15_code 39 = .ok (.iastore, 1) := by decide +kernel
theorem d_M_insertOne_40 : decode prog_13_method_15_code 40 = .ok (.aload_n 0, 1) := by decide +kernel
theorem d_M_insertOne_41 : decode prog_13_method_15_code 41 = .ok (.aload_n 0, 1) := by decide +kernel
theorem d_M_insertOne_42 : decode prog_13_method_15_code 42 = .ok (.getfield 117, 3) := by decide +kernel
theorem d_M_insertOne_45 : decode prog_13_method_15_code 45 = .ok (.iconst 1, 1) := by decide +kernel
theorem d_M_insertOne_46 : decode prog_13_method_15_code 46 = .ok (.iadd, 1) := by decide +kernel
theorem d_M_insertOne_47 : decode prog_13_method_15_code 47 = .ok (.invokevirtual 128, 3) := by decide +kernel
theorem d_M_insertOne_50 : decode prog_13_method_15_code 50 = .ok (.return_, 1) := by decide +kernel
theorem d_M_insertClip_0 : decode prog_13_method_16_code 0 = .ok (.aload_n 0, 1) := by decide +kernel
theorem d_M_insertClip_1 : decode prog_13_method_16_code 1 = .ok (.getfield 132, 3) := by decide +kernel
theorem d_M_insertClip_4 : decode prog_13_method_16_code 4 = .ok (.ifCond .eq 18, 3) := by decide +kernel
theorem d_M_insertClip_7 : decode prog_13_method_16_code 7 = .ok (.aload_n 0, 1) := by decide +kernel
theorem d_M_insertClip_8 : decode prog_13_method_16_code 8 = .ok (.getfield 87, 3) := by decide +kernel
theorem d_M_insertClip_11 : decode prog_13_method_16_code 11 = .ok (.aload_n 0, 1) := by decide +kernel
theorem d_M_insertClip_12 : decode prog_13_method_16_code 12 = .ok (.getfield 132, 3) := by decide +kernel
theorem d_M_insertClip_15 : decode prog_13_method_16_code 15 = .ok (.iadd, 1) := by decide +kernel
theorem d_M_insertClip_16 : decode prog_13_method_16_code 16 = .ok (.sipush 200, 3) := by decide +kernel
theorem d_M_insertClip_19 : decode prog_13_method_16_code 19 = .ok (.if_icmp .le 4, 3) := by decide +kernel
theorem d_M_insertClip_22 : decode prog_13_method_16_code 22 = .ok (.return_, 1) := by decide +kernel
theorem d_M_insertClip_23 : decode prog_13_method_16_code 23 = .ok (.aload_n 0, 1) := by decide +kernel
theorem d_M_insertClip_24 : decode prog_13_method_16_code 24 = .ok (.aload_n 0, 1) := by decide +kernel
theorem d_M_insertClip_25 : decode prog_13_method_16_code 25 = .ok (.getfield 117, 3) := by decide +kernel
theorem d_M_insertClip_28 : decode prog_13_method_16_code 28 = .ok (.aload_n 0, 1) := by decide +kernel
theorem d_M_insertClip_29 : decode prog_13_method_16_code 29 = .ok (.getfield 132, 3) := by decide +kernel
theorem d_M_insertClip_32 : decode prog_13_method_16_code 32 = .ok (.iconst 0, 1) := by decide +kernel
theorem d_M_insertClip_33 : decode prog_13_method_16_code 33 = .ok (.invokevirtual 120, 3) := by decide +kernel
theorem d_M_insertClip_36 : decode prog_13_method_16_code 36 = .ok (.aload_n 0, 1) := by decide +kernel
theorem d_M_insertClip_37 : decode prog_13_method_16_code 37 = .ok (.aload_n 0, 1) := by decide +kernel
theorem d_M_insertClip_38 : decode prog_13_method_16_code 38 = .ok (.getfield 117, 3) := by decide +kernel
theorem d_M_insertClip_41 : decode prog_13_method_16_code 41 = .ok (.aload_n 0, 1) := by decide +kernel
theorem d_M_insertClip_42 : decode prog_13_method_16_code 42 = .ok (.getfield 132, 3) := by decide +kernel
theorem d_M_insertClip_45 : decode prog_13_method_16_code 45 = .ok (.invokevirtual 124, 3) := by decide +kernel
theorem d_M_insertClip_48 : decode prog_13_method_16_code 48 = .ok (.iconst 0, 1) := by decide +kernel
theorem d_M_insertClip_49 : decode prog_13_method_16_code 49 = .ok (.istore_n 1, 1) := by decide +kernel
theorem d_M_insertClip_50 : decode prog_13_method_16_code 50 = .ok (.iload_n 1, 1) := by decide +kernel
theorem d_M_insertClip_51 : decode prog_13_method_16_code 51 = .ok (.aload_n 0, 1) := by decide +kernel
theorem d_M_insertClip_52 : decode prog_13_method_16_code 52 = .ok (.getfield 132, 3) := by decide +kernel
theorem d_M_insertClip_55 : decode prog_13_method_16_code 55 = .ok (.if_icmp .ge 26, 3) := by decide +kernel
theorem d_M_insertClip_58 : decode prog_13_method_16_code 58 = .ok (.aload_n 0, 1) := by decide +kernel
theorem d_M_insertClip_59 : decode prog_13_method_16_code 59 = .ok (.getfield 7, 3) := by decide +kernel
theorem d_M_insertClip_62 : decode prog_13_method_16_code 62 = .ok (.aload_n 0, 1) := by decide +kernel
theorem d_M_insertClip_63 : decode prog_13_method_16_code 63 = .ok (.getfield 117, 3) := by decide +kernel
theorem d_M_insertClip_66 : decode prog_13_method_16_code 66 = .ok (.iload_n 1, 1) := by decide +kernel
theorem d_M_insertClip_67 : decode prog_13_method_16_code 67 = .ok (.iadd, 1) := by decide +kernel
theorem d_M_insertClip_68 : decode prog_13_method_16_code 68 = .ok (.aload_n 0, 1) := by decide +kernel
theorem d_M_insertClip_69 : decode prog_13_method_16_code 69 = .ok (.getfield 17, 3) := by decide +kernel
theorem d_M_insertClip_72 : decode prog_13_method_16_code 72 = .ok (.iload_n 1, 1) := by decide +kernel
theorem d_M_insertClip_73 : decode prog_13_method_16_code 73 = .ok (.iaload, 1) := by decide +kernel
theorem d_M_insertClip_74 : decode prog_13_method_16_code 74 = .ok (.iastore, 1) := by decide +kernel
theorem d_M_insertClip_75 : decode prog_13_method_16_code 75 = .ok (.iinc 1 1, 3) := by decide +kernel
theorem d_M_insertClip_78 : decode prog_13_method_16_code 78 = .ok (.goto (-28), 3) := by decide +kernel
theorem d_M_insertClip_81 : decode prog_13_method_16_code 81 = .ok (.aload_n 0, 1) := by decide +kernel
theorem d_M_insertClip_82 : decode prog_13_method_16_code 82 = .ok (.aload_n 0, 1) := by decide +kernel
theorem d_M_insertClip_83 : decode prog_13_method_16_code 83 = .ok (.getfield 117, 3) := by decide +kernel
theorem d_M_insertClip_86 : decode prog_13_method_16_code 86 = .ok (.aload_n 0, 1) := by decide +kernel
theorem d_M_insertClip_87 : decode prog_13_method_16_code 87 = .ok (.getfield 132, 3) := by decide +kernel
theorem d_M_insertClip_90 : decode prog_13_method_16_code 90 = .ok (.iadd, 1) := by decide +kernel
theorem d_M_insertClip_91 : decode prog_13_method_16_code 91 = .ok (.invokevirtual 128, 3) := by decide +kernel
theorem d_M_insertClip_94 : decode prog_13_method_16_code 94 = .ok (.return_, 1) := by decide +kernel
theorem d_M_takeAway_0 : decode prog_13_method_17_code 0 = .ok (.iload_n 1, 1) := by decide +kernel
theorem d_M_takeAway_1 : decode prog_13_method_17_code 1 = .ok (.iload_n 2, 1) := by decide +kernel
theorem d_M_takeAway_2 : decode prog_13_method_17_code 2 = .ok (.if_icmp .ne 4, 3) := by decide +kernel
theorem d_M_takeAway_5 : decode prog_13_method_17_code 5 = .ok (.return_, 1) := by decide +kernel
theorem d_M_takeAway_6 : decode prog_13_method_17_code 6 = .ok (.aload_n 0, 1) := by decide +kernel
theorem d_M_takeAway_7 : decode prog_13_method_17_code 7 = .ok (.iload_n 1, 1) := by decide +kernel
theorem d_M_takeAway_8 : decode prog_13_method_17_code 8 = .ok (.iconst 0, 1) := by decide +kernel
theorem d_M_takeAway_9 : decode prog_13_method_17_code 9 = .ok (.iload_n 2, 1) := by decide +kernel
theorem d_M_takeAway_10 : decode prog_13_method_17_code 10 = .ok (.iload_n 1, 1) := by decide +kernel
theorem d_M_takeAway_11 : decode prog_13_method_17_code 11 = .ok (.isub, 1) := by decide +kernel
theorem d_M_takeAway_12 : decode prog_13_method_17_code 12 = .ok (.invokevirtual 120, 3) := by decide +kernel
theorem d_M_takeAway_15 : decode prog_13_method_17_code 15 = .ok (.aload_n 0, 1) := by decide +kernel
theorem d_M_takeAway_16 : decode prog_13_method_17_code 16 = .ok (.iload_n 1, 1) := by decide +kernel
theorem d_M_takeAway_17 : decode prog_13_method_17_code 17 = .ok (.iload_n 2, 1) := by decide +kernel
theorem d_M_takeAway_18 : decode prog_13_method_17_code 18 = .ok (.iload_n 1, 1) := by decide +kernel
theorem d_M_takeAway_19 : decode prog_13_method_17_code 19 = .ok (.isub, 1) := by decide +kernel
theorem d_M_takeAway_20 : decode prog_13_method_17_code 20 = .ok (.invokevirtual 135, 3) := by decide +kernel
theorem d_M_takeAway_23 : decode prog_13_method_17_code 23 = .ok (.aload_n 0, 1) := by decide +kernel
theorem d_M_takeAway_24 : decode prog_13_method_17_code 24 = .ok (.iload_n 1, 1) := by decide +kernel
theorem d_M_takeAway_25 : decode prog_13_method_17_code 25 = .ok (.invokevirtual 128, 3) := by decide +kernel
theorem d_M_takeAway_28 : decode prog_13_method_17_code 28 = .ok (.return_, 1) := by decide +kernel
theorem d_M_cutOut_0 : decode prog_13_method_18_code 0 = .ok (.aload_n 0, 1) := by decide +kernel
theorem d_M_cutOut_1 : decode prog_13_method_18_code 1 = .ok (.getfield 13, 3) := by decide +kernel
theorem d_M_cutOut_4 : decode prog_13_method_18_code 4 = .ok (.ifCond .lt 14, 3) := by decide +kernel
theorem d_M_cutOut_7 : decode prog_13_method_18_code 7 = .ok (.aload_n 0, 1) := by decide +kernel
theorem d_M_cutOut_8 : decode prog_13_method_18_code 8 = .ok (.getfield 13, 3) := by decide +kernel
theorem d_M_cutOut_11 : decode prog_13_method_18_code 11 = .ok (.aload_n 0, 1) := by decide +kernel
theorem d_M_cutOut_12 : decode prog_13_method_18_code 12 = .ok (.getfield 117, 3) := by decide +kernel
theorem d_M_cutOut_15 : decode prog_13_method_18_code 15 = .ok (.if_icmp .ne 4, 3) := by decide +kernel
theorem d_M_cutOut_18 : decode prog_13_method_18_code 18 = .ok (.return_, 1) := by decide +kernel
theorem d_M_cutOut_19 : decode prog_13_method_18_code 19 = .ok (.aload_n 0, 1) := by decide +kernel
theorem d_M_cutOut_20 : decode prog_13_method_18_code 20 = .ok (.getfield 13, 3) := by decide +kernel
theorem d_M_cutOut_23 : decode prog_13_method_18_code 23 = .ok (.aload_n 0, 1) := by decide +kernel
theorem d_M_cutOut_24 : decode prog_13_method_18_code 24 = .ok (.getfield 117, 3) := by decide +kernel
theorem d_M_cutOut_27 : decode prog_13_method_18_code 27 = .ok (.if_icmp .ge 10, 3) := by decide +kernel
theorem d_M_cutOut_30 : decode prog_13_method_18_code 30 = .ok (.aload_n 0, 1) := by decide +kernel
theorem d_M_cutOut_31 : decode prog_13_method_18_code 31 = .ok (.getfield 13, 3) := by decide +kernel
theorem d_M_cutOut_34 : decode prog_13_method_18_code 34 = .ok (.goto 7, 3) := by decide +kernel
theorem d_M_cutOut_37 : decode prog_13_method_18_code 37 = .ok (.aload_n 0, 1) := by decide +kernel
theorem d_M_cutOut_38 : decode prog_13_method_18_code 38 = .ok (.getfield 117, 3) := by decide +kernel
theorem d_M_cutOut_41 : decode prog_13_method_18_code 41 = .ok (.istore_n 1, 1) := by decide +kernel
theorem d_M_cutOut_42 : decode prog_13_method_18_code 42 = .ok (.aload_n 0, 1) := by decide +kernel
theorem d_M_cutOut_43 : decode prog_13_method_18_code 43 = .ok (.getfield 13, 3) := by decide +kernel
theorem d_M_cutOut_46 : decode prog_13_method_18_code 46 = .ok (.aload_n 0, 1) := by decide +kernel
theorem d_M_cutOut_47 : decode prog_13_method_18_code 47 = .ok (.getfield 117, 3) := by decide +kernel
theorem d_M_cutOut_50 : decode prog_13_method_18_code 50 = .ok (.if_icmp .ge 10, 3) := by decide +kernel
theorem d_M_cutOut_53 : decode prog_13_method_18_code 53 = .ok (.aload_n 0, 1) := by decide +kernel
theorem d_M_cutOut_54 : decode prog_13_method_18_code 54 = .ok (.getfield 117, 3) := by decide +kernel
theorem d_M_cutOut_57 : decode prog_13_method_18_code 57 = .ok (.goto 7, 3) := by decide +kernel
theorem d_M_cutOut_60 : decode prog_13_method_18_code 60 = .ok (.aload_n 0, 1) := by decide +kernel
theorem d_M_cutOut_61 : decode prog_13_method_18_code 61 = .ok (.getfield 13, 3) := by decide +kernel
theorem d_M_cutOut_64 : decode prog_13_method_18_code 64 = .ok (.istore_n 2, 1) := by decide +kernel
theorem d_M_cutOut_65 : decode prog_13_method_18_code 65 = .ok (.aload_n 0, 1) := by decide +kernel
theorem d_M_cutOut_66 : decode prog_13_method_18_code 66 = .ok (.iload_n 2, 1) := by decide +kernel
theorem d_M_cutOut_67 : decode prog_13_method_18_code 67 = .ok (.iload_n 1, 1) := by decide +kernel
theorem d_M_cutOut_68 : decode prog_13_method_18_code 68 = .ok (.isub, 1) := by decide +kernel
theorem d_M_cutOut_69 : decode prog_13_method_18_code 69 = .ok (.putfield 132, 3) := by decide +kernel
theorem d_M_cutOut_72 : decode prog_13_method_18_code 72 = .ok (.iconst 0, 1) := by decide +kernel
theorem d_M_cutOut_73 : decode prog_13_method_18_code 73 = .ok (.istore_n 3, 1) := by decide +kernel
theorem d_M_cutOut_74 : decode prog_13_method_18_code 74 = .ok (.iload_n 3, 1) := by decide +kernel
theorem d_M_cutOut_75 : decode prog_13_method_18_code 75 = .ok (.aload_n 0, 1) := by decide +kernel
theorem d_M_cutOut_76 : decode prog_13_method_18_code 76 = .ok (.getfield 132, 3) := by decide +kernel
theorem d_M_cutOut_79 : decode prog_13_method_18_code 79 = .ok (.if_icmp .ge 23, 3) := by decide +kernel
theorem d_M_cutOut_82 : decode prog_13_method_18_code 82 = .ok (.aload_n 0, 1) := by decide +kernel
theorem d_M_cutOut_83 : decode prog_13_method_18_code 83 = .ok (.getfield 17, 3) := by decide +kernel
theorem d_M_cutOut_86 : decode prog_13_method_18_code 86 = .ok (.iload_n 3, 1) := by decide +kernel
theorem d_M_cutOut_87 : decode prog_13_method_18_code 87 = .ok (.aload_n 0, 1) := by decide +kernel
theorem d_M_cutOut_88 : decode prog_13_method_18_code 88 = .ok (.getfield 7, 3) := by decide +kernel
theorem d_M_cutOut_91 : decode prog_13_method_18_code 91 = .ok (.iload_n 1, 1) := by decide +kernel
theorem d_M_cutOut_92 : decode prog_13_method_18_code 92 = .ok (.iload_n 3, 1) := by decide +kernel
theorem d_M_cutOut_93 : decode prog_13_method_18_code 93 = .ok (.iadd, 1) := by decide +kernel
theorem d_M_cutOut_94 : decode prog_13_method_18_code 94 = .ok (.iaload, 1) := by decide +kernel
theorem d_M_cutOut_95 : decode prog_13_method_18_code 95 = .ok (.iastore, 1) := by decide +kernel
theorem d_M_cutOut_96 : decode prog_13_method_18_code 96 = .ok (.iinc 3 1, 3) := by decide +kernel
theorem d_M_cutOut_99 : decode prog_13_method_18_code 99 = .ok (.goto (-25), 3) := by decide +kernel
theorem d_M_cutOut_102 : decode prog_13_method_18_code 102 = .ok (.aload_n 0, 1) := by decide +kernel
theorem d_M_cutOut_103 : decode prog_13_method_18_code 103 = .ok (.iload_n 1, 1) := by decide +kernel
theorem d_M_cutOut_104 : decode prog_13_method_18_code 104 = .ok (.iload_n 2, 1) := by decide +kernel
theorem d_M_cutOut_105 : decode prog_13_method_18_code 105 = .ok (.invokevirtual 138, 3) := by decide +kernel
theorem d_M_cutOut_108 : decode prog_13_method_18_code 108 = .ok (.return_, 1) := by decide +kernel
theorem d_M_undo_0 : decode prog_13_method_19_code 0 = .ok (.aload_n 0, 1) := by decide +kernel
theorem d_M_undo_1 : decode prog_13_method_19_code 1 = .ok (.getfield 111, 3) := by decide +kernel
theorem d_M_undo_4 : decode prog_13_method_19_code 4 = .ok (.ifCond .ne 4, 3) := by decide +kernel
theorem d_M_undo_7 : decode prog_13_method_19_code 7 = .ok (.return_, 1) := by decide +kernel
theorem d_M_undo_8 : decode prog_13_method_19_code 8 = .ok (.aload_n 0, 1) := by decide +kernel
theorem d_M_undo_9 : decode prog_13_method_19_code 9 = .ok (.dup, 1) := by decide +kernel
theorem d_M_undo_10 : decode prog_13_method_19_code 10 = .ok (.getfield 111, 3) := by decide +kernel
theorem d_M_undo_13 : decode prog_13_method_19_code 13 = .ok (.iconst 1, 1) := by decide +kernel
theorem d_M_undo_14 : decode prog_13_method_19_code 14 = .ok (.isub, 1) := by decide +kernel
theorem d_M_undo_15 : decode prog_13_method_19_code 15 = .ok (.putfield 111, 3) := by decide +kernel
theorem d_M_undo_18 : decode prog_13_method_19_code 18 = .ok (.aload_n 0, 1) := by decide +kernel
theorem d_M_undo_19 : decode prog_13_method_19_code 19 = .ok (.getfield 23, 3) := by decide +kernel
theorem d_M_undo_22 : decode prog_13_method_19_code 22 = .ok (.aload_n 0, 1) := by decide +kernel
theorem d_M_undo_23 : decode prog_13_method_19_code 23 = .ok (.getfield 111, 3) := by decide +kernel
theorem d_M_undo_26 : decode prog_13_method_19_code 26 = .ok (.iaload, 1) := by decide +kernel
theorem d_M_undo_27 : decode prog_13_method_19_code 27 = .ok (.istore_n 1, 1) := by decide +kernel
theorem d_M_undo_28 : decode prog_13_method_19_code 28 = .ok (.aload_n 0, 1) := by decide +kernel
theorem d_M_undo_29 : decode prog_13_method_19_code 29 = .ok (.iload_n 1, 1) := by decide +kernel
theorem d_M_undo_30 : decode prog_13_method_19_code 30 = .ok (.aload_n 0, 1) := by decide +kernel
theorem d_M_undo_31 : decode prog_13_method_19_code 31 = .ok (.getfield 26, 3) := by decide +kernel
theorem d_M_undo_34 : decode prog_13_method_19_code 34 = .ok (.aload_n 0, 1) := by decide +kernel
theorem d_M_undo_35 : decode prog_13_method_19_code 35 = .ok (.getfield 111, 3) := by decide +kernel
theorem d_M_undo_38 : decode prog_13_method_19_code 38 = .ok (.iaload, 1) := by decide +kernel
theorem d_M_undo_39 : decode prog_13_method_19_code 39 = .ok (.invokevirtual 135, 3) := by decide +kernel
theorem d_M_undo_42 : decode prog_13_method_19_code 42 = .ok (.aload_n 0, 1) := by decide +kernel
theorem d_M_undo_43 : decode prog_13_method_19_code 43 = .ok (.iload_n 1, 1) := by decide +kernel
theorem d_M_undo_44 : decode prog_13_method_19_code 44 = .ok (.aload_n 0, 1) := by decide +kernel
theorem d_M_undo_45 : decode prog_13_method_19_code 45 = .ok (.getfield 29, 3) := by decide +kernel
theorem d_M_undo_48 : decode prog_13_method_19_code 48 = .ok (.aload_n 0, 1) := by decide +kernel
theorem d_M_undo_49 : decode prog_13_method_19_code 49 = .ok (.getfield 111, 3) := by decide +kernel
theorem d_M_undo_52 : decode prog_13_method_19_code 52 = .ok (.iaload, 1) := by decide +kernel
theorem d_M_undo_53 : decode prog_13_method_19_code 53 = .ok (.invokevirtual 124, 3) := by decide +kernel
theorem d_M_undo_56 : decode prog_13_method_19_code 56 = .ok (.iconst 0, 1) := by decide +kernel
theorem d_M_undo_57 : decode prog_13_method_19_code 57 = .ok (.istore_n 2, 1) := by decide +kernel
theorem d_M_undo_58 : decode prog_13_method_19_code 58 = .ok (.iload_n 2, 1) := by decide +kernel
theorem d_M_undo_59 : decode prog_13_method_19_code 59 = .ok (.aload_n 0, 1) := by decide +kernel
theorem d_M_undo_60 : decode prog_13_method_19_code 60 = .ok (.getfield 29, 3) := by decide +kernel
theorem d_M_undo_63 : decode prog_13_method_19_code 63 = .ok (.aload_n 0, 1) := by decide +kernel
theorem d_M_undo_64 : decode prog_13_method_19_code 64 = .ok (.getfield 111, 3) := by decide +kernel
theorem d_M_undo_67 : decode prog_13_method_19_code 67 = .ok (.iaload, 1) := by decide +kernel
theorem d_M_undo_68 : decode prog_13_method_19_code 68 = .ok (.if_icmp .ge 32, 3) := by decide +kernel
theorem d_M_undo_71 : decode prog_13_method_19_code 71 = .ok (.aload_n 0, 1) := by decide +kernel
theorem d_M_undo_72 : decode prog_13_method_19_code 72 = .ok (.getfield 7, 3) := by decide +kernel
theorem d_M_undo_75 : decode prog_13_method_19_code 75 = .ok (.iload_n 1, 1) := by decide +kernel
theorem d_M_undo_76 : decode prog_13_method_19_code 76 = .ok (.iload_n 2, 1) := by decide +kernel
theorem d_M_undo_77 : decode prog_13_method_19_code 77 = .ok (.iadd, 1) := by decide +kernel
theorem d_M_undo_78 : decode prog_13_method_19_code 78 = .ok (.aload_n 0, 1) := by decide +kernel
theorem d_M_undo_79 : decode prog_13_method_19_code 79 = .ok (.getfield 35, 3) := by decide +kernel
theorem d_M_undo_82 : decode prog_13_method_19_code 82 = .ok (.sipush 200, 3) := by decide +kernel
theorem d_M_undo_85 : decode prog_13_method_19_code 85 = .ok (.aload_n 0, 1) := by decide +kernel
theorem d_M_undo_86 : decode prog_13_method_19_code 86 = .ok (.getfield 111, 3) := by decide +kernel
theorem d_M_undo_89 : decode prog_13_method_19_code 89 = .ok (.imul, 1) := by decide +kernel
theorem d_M_undo_90 : decode prog_13_method_19_code 90 = .ok (.iload_n 2, 1) := by decide +kernel
theorem d_M_undo_91 : decode prog_13_method_19_code 91 = .ok (.iadd, 1) := by decide +kernel
theorem d_M_undo_92 : decode prog_13_method_19_code 92 = .ok (.iaload, 1) := by decide +kernel
theorem d_M_undo_93 : decode prog_13_method_19_code 93 = .ok (.iastore, 1) := by decide +kernel
theorem d_M_undo_94 : decode prog_13_method_19_code 94 = .ok (.iinc 2 1, 3) := by decide +kernel
theorem d_M_undo_97 : decode prog_13_method_19_code 97 = .ok (.goto (-39), 3) := by decide +kernel
theorem d_M_undo_100 : decode prog_13_method_19_code 100 = .ok (.aload_n 0, 1) := by decide +kernel
theorem d_M_undo_101 : decode prog_13_method_19_code 101 = .ok (.iconst (-1), 1) := by decide +kernel
theorem d_M_undo_102 : decode prog_13_method_19_code 102 = .ok (.putfield 13, 3) := by decide +kernel
theorem d_M_undo_105 : decode prog_13_method_19_code 105 = .ok (.aload_n 0, 1) := by decide +kernel
theorem d_M_undo_106 : decode prog_13_method_19_code 106 = .ok (.aload_n 0, 1) := by decide +kernel
theorem d_M_undo_107 : decode prog_13_method_19_code 107 = .ok (.getfield 32, 3) := by decide +kernel
theorem d_M_undo_110 : decode prog_13_method_19_code 110 = .ok (.aload_n 0, 1) := by decide +kernel
theorem d_M_undo_111 : decode prog_13_method_19_code 111 = .ok (.getfield 111, 3) := by decide +kernel
theorem d_M_undo_114 : decode prog_13_method_19_code 114 = .ok (.iaload, 1) := by decide +kernel
theorem d_M_undo_115 : decode prog_13_method_19_code 115 = .ok (.invokevirtual 128, 3) := by decide +kernel
theorem d_M_undo_118 : decode prog_13_method_19_code 118 = .ok (.return_, 1) := by decide +kernel
theorem d_M_character_0 : decode prog_13_method_20_code 0 = .ok (.aload_n 0, 1) := by decide +kernel
theorem d_M_character_1 : decode prog_13_method_20_code 1 = .ok (.iconst (-1), 1) := by decide +kernel
theorem d_M_character_2 : decode prog_13_method_20_code 2 = .ok (.putfield 20, 3) := by decide +kernel
theorem d_M_character_5 : decode prog_13_method_20_code 5 = .ok (.aload_n 0, 1) := by decide +kernel
theorem d_M_character_6 : decode prog_13_method_20_code 6 = .ok (.iload_n 1, 1) := by decide +kernel
theorem d_M_character_7 : decode prog_13_method_20_code 7 = .ok (.invokevirtual 141, 3) := by decide +kernel
theorem d_M_character_10 : decode prog_13_method_20_code 10 = .ok (.return_, 1) := by decide +kernel
theorem d_M_control_0 : decode prog_13_method_21_code 0 = .ok (.iload_n 1, 1) := by decide +kernel
theorem d_M_control_1 : decode prog_13_method_21_code 1 = .ok (.bipush 13, 2) := by decide +kernel
theorem d_M_control_3 : decode prog_13_method_21_code 3 = .ok (.if_icmp .ne 12, 3) := by decide +kernel
theorem d_M_control_6 : decode prog_13_method_21_code 6 = .ok (.aload_n 0, 1) := by decide +kernel
theorem d_M_control_7 : decode prog_13_method_21_code 7 = .ok (.bipush 10, 2) := by decide +kernel
theorem d_M_control_9 : decode prog_13_method_21_code 9 = .ok (.invokevirtual 144, 3) := by decide +kernel
theorem d_M_control_12 : decode prog_13_method_21_code 12 = .ok (.goto 51, 3) := by decide +kernel
theorem d_M_control_15 : decode prog_13_method_21_code 15 = .ok (.iload_n 1, 1) := by decide +kernel
theorem d_M_control_16 : decode prog_13_method_21_code 16 = .ok (.bipush 9, 2) := by decide +kernel
theorem d_M_control_18 : decode prog_13_method_21_code 18 = .ok (.if_icmp .ne 12, 3) := by decide +kernel
theorem d_M_control_21 : decode prog_13_method_21_code 21 = .ok (.aload_n 0, 1) := by decide +kernel
theorem d_M_control_22 : decode prog_13_method_21_code 22 = .ok (.bipush 9, 2) := by decide +kernel
theorem d_M_control_24 : decode prog_13_method_21_code 24 = .ok (.invokevirtual 144, 3) := by decide +kernel
theorem d_M_control_27 : decode prog_13_method_21_code 27 = .ok (.goto 36, 3) := by decide +kernel
theorem d_M_control_30 : decode prog_13_method_21_code 30 = .ok (.aload_n 0, 1) := by decide +kernel
theorem d_M_control_31 : decode prog_13_method_21_code 31 = .ok (.getfield 147, 3) := by decide +kernel
theorem d_M_control_34 : decode prog_13_method_21_code 34 = .ok (.ifCond .eq 24, 3) := by decide +kernel
theorem d_M_control_37 : decode prog_13_method_21_code 37 = .ok (.iload_n 1, 1) := by decide +kernel
theorem d_M_control_38 : decode prog_13_method_21_code 38 = .ok (.bipush 10, 2) := by decide +kernel
theorem d_M_control_40 : decode prog_13_method_21_code 40 = .ok (.if_icmp .ne 23, 3) := by decide +kernel
theorem d_M_control_43 : decode prog_13_method_21_code 43 = .ok (.iload_n 2, 1) := by decide +kernel
theorem d_M_control_44 : decode prog_13_method_21_code 44 = .ok (.bipush 13, 2) := by decide +kernel
theorem d_M_control_46 : decode prog_13_method_21_code 46 = .ok (.if_icmp .eq 17, 3) := by decide +kernel
theorem d_M_control_49 : decode prog_13_method_21_code 49 = .ok (.aload_n 0, 1) := by decide +kernel
theorem d_M_control_50 : decode prog_13_method_21_code 50 = .ok (.bipush 10, 2) := by decide +kernel
theorem d_M_control_52 : decode prog_13_method_21_code 52 = .ok (.invokevirtual 144, 3) := by decide +kernel
theorem d_M_control_55 : decode prog_13_method_21_code 55 = .ok (.goto 8, 3) := by decide +kernel
theorem d_M_control_58 : decode prog_13_method_21_code 58 = .ok (.aload_n 0, 1) := by decide +kernel
theorem d_M_control_59 : decode prog_13_method_21_code 59 = .ok (.iload_n 1, 1) := by decide +kernel
theorem d_M_control_60 : decode prog_13_method_21_code 60 = .ok (.invokevirtual 150, 3) := by decide +kernel
theorem d_M_control_63 : decode prog_13_method_21_code 63 = .ok (.return_, 1) := by decide +kernel
end
section
theorem d_M_command_0 : decode prog_13_method_22_code 0 = .ok (.iload_n 1, 1) := by decide +kernel
theorem d_M_command_1 : decode prog_13_method_22_code 1 = .ok (.bipush 127, 2) := by decide +kernel
theorem d_M_command_3 : decode prog_13_method_22_code 3 = .ok (.if_icmp .eq 38, 3) := by decide +kernel
theorem d_M_command_6 : decode prog_13_method_22_code 6 = .ok (.iload_n 1, 1) := by decide +kernel
theorem d_M_command_7 : decode prog_13_method_22_code 7 = .ok (.bipush 8, 2) := by decide +kernel
theorem d_M_command_9 : decode prog_13_method_22_code 9 = .ok (.if_icmp .eq 32, 3) := by decide +kernel
theorem d_M_command_12 : decode prog_13_method_22_code 12 = .ok (.iload_n 1, 1) := by decide +kernel
theorem d_M_command_13 : decode prog_13_method_22_code 13 = .ok (.ifCond .eq 28, 3) := by decide +kernel
theorem d_M_command_16 : decode prog_13_method_22_code 16 = .ok (.iload_n 1, 1) := by decide +kernel
theorem d_M_command_17 : decode prog_13_method_22_code 17 = .ok (.bipush 23, 2) := by decide +kernel
theorem d_M_command_19 : decode prog_13_method_22_code 19 = .ok (.if_icmp .eq 22, 3) := by decide +kernel
theorem d_M_command_22 : decode prog_13_method_22_code 22 = .ok (.iload_n 1, 1) := by decide +kernel
theorem d_M_command_23 : decode prog_13_method_22_code 23 = .ok (.bipush 25, 2) := by decide +kernel
theorem d_M_command_25 : decode prog_13_method_22_code 25 = .ok (.if_icmp .eq 16, 3) := by decide +kernel
theorem d_M_command_28 : decode prog_13_method_22_code 28 = .ok (.iload_n 1, 1) := by decide +kernel
theorem d_M_command_29 : decode prog_13_method_22_code 29 = .ok (.bipush 26, 2) := by decide +kernel
theorem d_M_command_31 : decode prog_13_method_22_code 31 = .ok (.if_icmp .eq 10, 3) := by decide +kernel
theorem d_M_command_34 : decode prog_13_method_22_code 34 = .ok (.iload_n 1, 1) := by decide +kernel
theorem d_M_command_35 : decode prog_13_method_22_code 35 = .ok (.bipush 12, 2) := by decide +kernel
theorem d_M_command_37 : decode prog_13_method_22_code 37 = .ok (.if_icmp .eq 4, 3) := by decide +kernel
theorem d_M_command_40 : decode prog_13_method_22_code 40 = .ok (.return_, 1) := by decide +kernel
theorem d_M_command_41 : decode prog_13_method_22_code 41 = .ok (.aload_n 0, 1) := by decide +kernel
theorem d_M_command_42 : decode prog_13_method_22_code 42 = .ok (.iconst (-1), 1) := by decide +kernel
theorem d_M_command_43 : decode prog_13_method_22_code 43 = .ok (.putfield 20, 3) := by decide +kernel
theorem d_M_command_46 : decode prog_13_method_22_code 46 = .ok (.iload_n 1, 1) := by decide +kernel
theorem d_M_command_47 : decode prog_13_method_22_code 47 = .ok (.ifCond .ne 14, 3) := by decide +kernel
theorem d_M_command_50 : decode prog_13_method_22_code 50 = .ok (.aload_n 0, 1) := by decide +kernel
theorem d_M_command_51 : decode prog_13_method_22_code 51 = .ok (.aload_n 0, 1) := by decide +kernel
theorem d_M_command_52 : decode prog_13_method_22_code 52 = .ok (.getfield 117, 3) := by decide +kernel
theorem d_M_command_55 : decode prog_13_method_22_code 55 = .ok (.putfield 13, 3) := by decide +kernel
theorem d_M_command_58 : decode prog_13_method_22_code 58 = .ok (.goto 79, 3) := by decide +kernel
theorem d_M_command_61 : decode prog_13_method_22_code 61 = .ok (.iload_n 1, 1) := by decide +kernel
theorem d_M_command_62 : decode prog_13_method_22_code 62 = .ok (.bipush 23, 2) := by decide +kernel
theorem d_M_command_64 : decode prog_13_method_22_code 64 = .ok (.if_icmp .ne 10, 3) := by decide +kernel
theorem d_M_command_67 : decode prog_13_method_22_code 67 = .ok (.aload_n 0, 1) := by decide +kernel
theorem d_M_command_68 : decode prog_13_method_22_code 68 = .ok (.invokevirtual 153, 3) := by decide +kernel
theorem d_M_command_71 : decode prog_13_method_22_code 71 = .ok (.goto 66, 3) := by decide +kernel
theorem d_M_command_74 : decode prog_13_method_22_code 74 = .ok (.iload_n 1, 1) := by decide +kernel
theorem d_M_command_75 : decode prog_13_method_22_code 75 = .ok (.bipush 25, 2) := by decide +kernel
theorem d_M_command_77 : decode prog_13_method_22_code 77 = .ok (.if_icmp .ne 10, 3) := by decide +kernel
theorem d_M_command_80 : decode prog_13_method_22_code 80 = .ok (.aload_n 0, 1) := by decide +kernel
theorem d_M_command_81 : decode prog_13_method_22_code 81 = .ok (.invokevirtual 156, 3) := by decide +kernel
theorem d_M_command_84 : decode prog_13_method_22_code 84 = .ok (.goto 53, 3) := by decide +kernel
theorem d_M_command_87 : decode prog_13_method_22_code 87 = .ok (.iload_n 1, 1) := by decide +kernel
theorem d_M_command_88 : decode prog_13_method_22_code 88 = .ok (.bipush 26, 2) := by decide +kernel
theorem d_M_command_90 : decode prog_13_method_22_code 90 = .ok (.if_icmp .ne 10, 3) := by decide +kernel
theorem d_M_command_93 : decode prog_13_method_22_code 93 = .ok (.aload_n 0, 1) := by decide +kernel
theorem d_M_command_94 : decode prog_13_method_22_code 94 = .ok (.invokevirtual 159, 3) := by decide +kernel
theorem d_M_command_97 : decode prog_13_method_22_code 97 = .ok (.goto 40, 3) := by decide +kernel
theorem d_M_command_100 : decode prog_13_method_22_code 100 = .ok (.iload_n 1, 1) := by decide +kernel
theorem d_M_command_101 : decode prog_13_method_22_code 101 = .ok (.bipush 12, 2) := by decide +kernel
theorem d_M_command_103 : decode prog_13_method_22_code 103 = .ok (.if_icmp .ne 11, 3) := by decide +kernel
theorem d_M_command_106 : decode prog_13_method_22_code 106 = .ok (.aload_n 0, 1) := by decide +kernel
theorem d_M_command_107 : decode prog_13_method_22_code 107 = .ok (.iconst 1, 1) := by decide +kernel
theorem d_M_command_108 : decode prog_13_method_22_code 108 = .ok (.putfield 71, 3) := by decide +kernel
theorem d_M_command_111 : decode prog_13_method_22_code 111 = .ok (.goto 26, 3) := by decide +kernel
theorem d_M_command_114 : decode prog_13_method_22_code 114 = .ok (.aload_n 0, 1) := by decide +kernel
theorem d_M_command_115 : decode prog_13_method_22_code 115 = .ok (.getfield 117, 3) := by decide +kernel
theorem d_M_command_118 : decode prog_13_method_22_code 118 = .ok (.ifCond .le 19, 3) := by decide +kernel
theorem d_M_command_121 : decode prog_13_method_22_code 121 = .ok (.aload_n 0, 1) := by decide +kernel
theorem d_M_command_122 : decode prog_13_method_22_code 122 = .ok (.aload_n 0, 1) := by decide +kernel
theorem d_M_command_123 : decode prog_13_method_22_code 123 = .ok (.aload_n 0, 1) := by decide +kernel
theorem d_M_command_124 : decode prog_13_method_22_code 124 = .ok (.getfield 117, 3) := by decide +kernel
theorem d_M_command_127 : decode prog_13_method_22_code 127 = .ok (.invokevirtual 162, 3) := by decide +kernel
theorem d_M_command_130 : decode prog_13_method_22_code 130 = .ok (.aload_n 0, 1) := by decide +kernel
theorem d_M_command_131 : decode prog_13_method_22_code 131 = .ok (.getfield 117, 3) := by decide +kernel
theorem d_M_command_134 : decode prog_13_method_22_code 134 = .ok (.invokevirtual 138, 3) := by decide +kernel
theorem d_M_command_137 : decode prog_13_method_22_code 137 = .ok (.return_, 1) := by decide +kernel
theorem d_M_escapeKey_0 : decode prog_13_method_23_code 0 = .ok (.aload_n 0, 1) := by decide +kernel
theorem d_M_escapeKey_1 : decode prog_13_method_23_code 1 = .ok (.getfield 147, 3) := by decide +kernel
theorem d_M_escapeKey_4 : decode prog_13_method_23_code 4 = .ok (.ifCond .eq 4, 3) := by decide +kernel
theorem d_M_escapeKey_7 : decode prog_13_method_23_code 7 = .ok (.return_, 1) := by decide +kernel
theorem d_M_escapeKey_8 : decode prog_13_method_23_code 8 = .ok (.aload_n 0, 1) := by decide +kernel
theorem d_M_escapeKey_9 : decode prog_13_method_23_code 9 = .ok (.iconst (-1), 1) := by decide +kernel
theorem d_M_escapeKey_10 : decode prog_13_method_23_code 10 = .ok (.putfield 20, 3) := by decide +kernel
theorem d_M_escapeKey_13 : decode prog_13_method_23_code 13 = .ok (.aload_n 0, 1) := by decide +kernel
theorem d_M_escapeKey_14 : decode prog_13_method_23_code 14 = .ok (.iconst (-1), 1) := by decide +kernel
theorem d_M_escapeKey_15 : decode prog_13_method_23_code 15 = .ok (.putfield 13, 3) := by decide +kernel
theorem d_M_escapeKey_18 : decode prog_13_method_23_code 18 = .ok (.return_, 1) := by decide +kernel
theorem d_M_upOrDown_0 : decode prog_13_method_24_code 0 = .ok (.aload_n 0, 1) := by decide +kernel
theorem d_M_upOrDown_1 : decode prog_13_method_24_code 1 = .ok (.getfield 78, 3) := by decide +kernel
theorem d_M_upOrDown_4 : decode prog_13_method_24_code 4 = .ok (.iconst 4, 1) := by decide +kernel
theorem d_M_upOrDown_5 : decode prog_13_method_24_code 5 = .ok (.if_icmp .ge 4, 3) := by decide +kernel
theorem d_M_upOrDown_8 : decode prog_13_method_24_code 8 = .ok (.return_, 1) := by decide +kernel
theorem d_M_upOrDown_9 : decode prog_13_method_24_code 9 = .ok (.aload_n 0, 1) := by decide +kernel
theorem d_M_upOrDown_10 : decode prog_13_method_24_code 10 = .ok (.invokevirtual 165, 3) := by decide +kernel
theorem d_M_upOrDown_13 : decode prog_13_method_24_code 13 = .ok (.aload_n 0, 1) := by decide +kernel
theorem d_M_upOrDown_14 : decode prog_13_method_24_code 14 = .ok (.getfield 41, 3) := by decide +kernel
theorem d_M_upOrDown_17 : decode prog_13_method_24_code 17 = .ok (.aload_n 0, 1) := by decide +kernel
theorem d_M_upOrDown_18 : decode prog_13_method_24_code 18 = .ok (.getfield 117, 3) := by decide +kernel
theorem d_M_upOrDown_21 : decode prog_13_method_24_code 21 = .ok (.iaload, 1) := by decide +kernel
theorem d_M_upOrDown_22 : decode prog_13_method_24_code 22 = .ok (.iload_n 1, 1) := by decide +kernel
theorem d_M_upOrDown_23 : decode prog_13_method_24_code 23 = .ok (.iadd, 1) := by decide +kernel
theorem d_M_upOrDown_24 : decode prog_13_method_24_code 24 = .ok (.istore_n 2, 1) := by decide +kernel
theorem d_M_upOrDown_25 : decode prog_13_method_24_code 25 = .ok (.aload_n 0, 1) := by decide +kernel
theorem d_M_upOrDown_26 : decode prog_13_method_24_code 26 = .ok (.getfield 20, 3) := by decide +kernel
theorem d_M_upOrDown_29 : decode prog_13_method_24_code 29 = .ok (.ifCond .ge 16, 3) := by decide +kernel
theorem d_M_upOrDown_32 : decode prog_13_method_24_code 32 = .ok (.aload_n 0, 1) := by decide +kernel
theorem d_M_upOrDown_33 : decode prog_13_method_24_code 33 = .ok (.aload_n 0, 1) := by decide +kernel
theorem d_M_upOrDown_34 : decode prog_13_method_24_code 34 = .ok (.getfield 44, 3) := by decide +kernel
theorem d_M_upOrDown_37 : decode prog_13_method_24_code 37 = .ok (.aload_n 0, 1) := by decide +kernel
theorem d_M_upOrDown_38 : decode prog_13_method_24_code 38 = .ok (.getfield 117, 3) := by decide +kernel
theorem d_M_upOrDown_41 : decode prog_13_method_24_code 41 = .ok (.iaload, 1) := by decide +kernel
theorem d_M_upOrDown_42 : decode prog_13_method_24_code 42 = .ok (.putfield 20, 3) := by decide +kernel
theorem d_M_upOrDown_45 : decode prog_13_method_24_code 45 = .ok (.iload_n 2, 1) := by decide +kernel
theorem d_M_upOrDown_46 : decode prog_13_method_24_code 46 = .ok (.ifCond .lt 11, 3) := by decide +kernel
theorem d_M_upOrDown_49 : decode prog_13_method_24_code 49 = .ok (.iload_n 2, 1) := by decide +kernel
theorem d_M_upOrDown_50 : decode prog_13_method_24_code 50 = .ok (.aload_n 0, 1) := by decide +kernel
theorem d_M_upOrDown_51 : decode prog_13_method_24_code 51 = .ok (.getfield 104, 3) := by decide +kernel
theorem d_M_upOrDown_54 : decode prog_13_method_24_code 54 = .ok (.if_icmp .le 4, 3) := by decide +kernel
theorem d_M_upOrDown_57 : decode prog_13_method_24_code 57 = .ok (.return_, 1) := by decide +kernel
theorem d_M_upOrDown_58 : decode prog_13_method_24_code 58 = .ok (.iconst (-1), 1) := by decide +kernel
theorem d_M_upOrDown_59 : decode prog_13_method_24_code 59 = .ok (.istore_n 3, 1) := by decide +kernel
theorem d_M_upOrDown_60 : decode prog_13_method_24_code 60 = .ok (.iconst 0, 1) := by decide +kernel
theorem d_M_upOrDown_61 : decode prog_13_method_24_code 61 = .ok (.istore 4, 2) := by decide +kernel
theorem d_M_upOrDown_63 : decode prog_13_method_24_code 63 = .ok (.iload 4, 2) := by decide +kernel
theorem d_M_upOrDown_65 : decode prog_13_method_24_code 65 = .ok (.aload_n 0, 1) := by decide +kernel
theorem d_M_upOrDown_66 : decode prog_13_method_24_code 66 = .ok (.getfield 87, 3) := by decide +kernel
theorem d_M_upOrDown_69 : decode prog_13_method_24_code 69 = .ok (.if_icmp .gt 62, 3) := by decide +kernel
theorem d_M_upOrDown_72 : decode prog_13_method_24_code 72 = .ok (.aload_n 0, 1) := by decide +kernel
theorem d_M_upOrDown_73 : decode prog_13_method_24_code 73 = .ok (.iload 4, 2) := by decide +kernel
theorem d_M_upOrDown_75 : decode prog_13_method_24_code 75 = .ok (.invokevirtual 94, 3) := by decide +kernel
theorem d_M_upOrDown_78 : decode prog_13_method_24_code 78 = .ok (.ifCond .eq 18, 3) := by decide +kernel
theorem d_M_upOrDown_81 : decode prog_13_method_24_code 81 = .ok (.aload_n 0, 1) := by decide +kernel
theorem d_M_upOrDown_82 : decode prog_13_method_24_code 82 = .ok (.getfield 41, 3) := by decide +kernel
theorem d_M_upOrDown_85 : decode prog_13_method_24_code 85 = .ok (.iload 4, 2) := by decide +kernel
theorem d_M_upOrDown_87 : decode prog_13_method_24_code 87 = .ok (.iaload, 1) := by decide +kernel
theorem d_M_upOrDown_88 : decode prog_13_method_24_code 88 = .ok (.iload_n 2, 1) := by decide +kernel
theorem d_M_upOrDown_89 : decode prog_13_method_24_code 89 = .ok (.if_icmp .ne 7, 3) := by decide +kernel
theorem d_M_upOrDown_92 : decode prog_13_method_24_code 92 = .ok (.iconst 1, 1) := by decide +kernel
theorem d_M_upOrDown_93 : decode prog_13_method_24_code 93 = .ok (.goto 4, 3) := by decide +kernel
theorem d_M_upOrDown_96 : decode prog_13_method_24_code 96 = .ok (.iconst 0, 1) := by decide +kernel
theorem d_M_upOrDown_97 : decode prog_13_method_24_code 97 = .ok (.istore 5, 2) := by decide +kernel
theorem d_M_upOrDown_99 : decode prog_13_method_24_code 99 = .ok (.iload 5, 2) := by decide +kernel
theorem d_M_upOrDown_101 : decode prog_13_method_24_code 101 = .ok (.ifCond .eq 24, 3) := by decide +kernel
theorem d_M_upOrDown_104 : decode prog_13_method_24_code 104 = .ok (.iload_n 3, 1) := by decide +kernel
theorem d_M_upOrDown_105 : decode prog_13_method_24_code 105 = .ok (.ifCond .lt 17, 3) := by decide +kernel
theorem d_M_upOrDown_108 : decode prog_13_method_24_code 108 = .ok (.aload_n 0, 1) := by decide +kernel
theorem d_M_upOrDown_109 : decode prog_13_method_24_code 109 = .ok (.getfield 44, 3) := by decide +kernel
theorem d_M_upOrDown_112 : decode prog_13_method_24_code 112 = .ok (.iload 4, 2) := by decide +kernel
theorem d_M_upOrDown_114 : decode prog_13_method_24_code 114 = .ok (.iaload, 1) := by decide +kernel
theorem d_M_upOrDown_115 : decode prog_13_method_24_code 115 = .ok (.aload_n 0, 1) := by decide +kernel
theorem d_M_upOrDown_116 : decode prog_13_method_24_code 116 = .ok (.getfield 20, 3) := by decide +kernel
theorem d_M_upOrDown_119 : decode prog_13_method_24_code 119 = .ok (.if_icmp .gt 6, 3) := by decide +kernel
theorem d_M_upOrDown_122 : decode prog_13_method_24_code 122 = .ok (.iload 4, 2) := by decide +kernel
theorem d_M_upOrDown_124 : decode prog_13_method_24_code 124 = .ok (.istore_n 3, 1) := by decide +kernel
theorem d_M_upOrDown_125 : decode prog_13_method_24_code 125 = .ok (.iinc 4 1, 3) := by decide +kernel
theorem d_M_upOrDown_128 : decode prog_13_method_24_code 128 = .ok (.goto (-65), 3) := by decide +kernel
theorem d_M_upOrDown_131 : decode prog_13_method_24_code 131 = .ok (.aload_n 0, 1) := by decide +kernel
theorem d_M_upOrDown_132 : decode prog_13_method_24_code 132 = .ok (.iload_n 3, 1) := by decide +kernel
theorem d_M_upOrDown_133 : decode prog_13_method_24_code 133 = .ok (.putfield 117, 3) := by decide +kernel
theorem d_M_upOrDown_136 : decode prog_13_method_24_code 136 = .ok (.return_, 1) := by decide +kernel
theorem d_M_lineBegin_0 : decode prog_13_method_25_code 0 = .ok (.aload_n 0, 1) := by decide +kernel
theorem d_M_lineBegin_1 : decode prog_13_method_25_code 1 = .ok (.getfield 117, 3) := by decide +kernel
theorem d_M_lineBegin_4 : decode prog_13_method_25_code 4 = .ok (.istore_n 1, 1) := by decide +kernel
theorem d_M_lineBegin_5 : decode prog_13_method_25_code 5 = .ok (.iload_n 1, 1) := by decide +kernel
theorem d_M_lineBegin_6 : decode prog_13_method_25_code 6 = .ok (.ifCond .le 22, 3) := by decide +kernel
theorem d_M_lineBegin_9 : decode prog_13_method_25_code 9 = .ok (.aload_n 0, 1) := by decide +kernel
theorem d_M_lineBegin_10 : decode prog_13_method_25_code 10 = .ok (.getfield 7, 3) := by decide +kernel
theorem d_M_lineBegin_13 : decode prog_13_method_25_code 13 = .ok (.iload_n 1, 1) := by decide +kernel
theorem d_M_lineBegin_14 : decode prog_13_method_25_code 14 = .ok (.iconst 1, 1) := by decide +kernel
theorem d_M_lineBegin_15 : decode prog_13_method_25_code 15 = .ok (.isub, 1) := by decide +kernel
theorem d_M_lineBegin_16 : decode prog_13_method_25_code 16 = .ok (.iaload, 1) := by decide +kernel
theorem d_M_lineBegin_17 : decode prog_13_method_25_code 17 = .ok (.bipush 10, 2) := by decide +kernel
theorem d_M_lineBegin_19 : decode prog_13_method_25_code 19 = .ok (.if_icmp .eq 9, 3) := by decide +kernel
theorem d_M_lineBegin_22 : decode prog_13_method_25_code 22 = .ok (.iinc 1 (-1), 3) := by decide +kernel
theorem d_M_lineBegin_25 : decode prog_13_method_25_code 25 = .ok (.goto (-20), 3) := by decide +kernel
theorem d_M_lineBegin_28 : decode prog_13_method_25_code 28 = .ok (.iload_n 1, 1) := by decide +kernel
theorem d_M_lineBegin_29 : decode prog_13_method_25_code 29 = .ok (.ireturn, 1) := by decide +kernel
theorem d_M_lineEnd_0 : decode prog_13_method_26_code 0 = .ok (.aload_n 0, 1) := by decide +kernel
theorem d_M_lineEnd_1 : decode prog_13_method_26_code 1 = .ok (.getfield 117, 3) := by decide +kernel
theorem d_M_lineEnd_4 : decode prog_13_method_26_code 4 = .ok (.istore_n 1, 1) := by decide +kernel
theorem d_M_lineEnd_5 : decode prog_13_method_26_code 5 = .ok (.iload_n 1, 1) := by decide +kernel
theorem d_M_lineEnd_6 : decode prog_13_method_26_code 6 = .ok (.aload_n 0, 1) := by decide +kernel
theorem d_M_lineEnd_7 : decode prog_13_method_26_code 7 = .ok (.getfield 87, 3) := by decide +kernel
theorem d_M_lineEnd_10 : decode prog_13_method_26_code 10 = .ok (.if_icmp .ge 20, 3) := by decide +kernel
theorem d_M_lineEnd_13 : decode prog_13_method_26_code 13 = .ok (.aload_n 0, 1) := by decide +kernel
theorem d_M_lineEnd_14 : decode prog_13_method_26_code 14 = .ok (.getfield 7, 3) := by decide +kernel
theorem d_M_lineEnd_17 : decode prog_13_method_26_code 17 = .ok (.iload_n 1, 1) := by decide +kernel
theorem d_M_lineEnd_18 : decode prog_13_method_26_code 18 = .ok (.iaload, 1) := by decide +kernel
theorem d_M_lineEnd_19 : decode prog_13_method_26_code 19 = .ok (.bipush 10, 2) := by decide +kernel
theorem d_M_lineEnd_21 : decode prog_13_method_26_code 21 = .ok (.if_icmp .eq 9, 3) := by decide +kernel
theorem d_M_lineEnd_24 : decode prog_13_method_26_code 24 = .ok (.iinc 1 1, 3) := by decide +kernel
theorem d_M_lineEnd_27 : decode prog_13_method_26_code 27 = .ok (.goto (-22), 3) := by decide +kernel
theorem d_M_lineEnd_30 : decode prog_13_method_26_code 30 = .ok (.iload_n 1, 1) := by decide +kernel
theorem d_M_lineEnd_31 : decode prog_13_method_26_code 31 = .ok (.ireturn, 1) := by decide +kernel
theorem d_M_finish_0 : decode prog_13_method_27_code 0 = .ok (.iload_n 1, 1) := by decide +kernel
theorem d_M_finish_1 : decode prog_13_method_27_code 1 = .ok (.bipush 126, 2) := by decide +kernel
theorem d_M_finish_3 : decode prog_13_method_27_code 3 = .ok (.if_icmp .ne 17, 3) := by decide +kernel
theorem d_M_finish_6 : decode prog_13_method_27_code 6 = .ok (.aload_n 0, 1) := by decide +kernel
theorem d_M_finish_7 : decode prog_13_method_27_code 7 = .ok (.getfield 168, 3) := by decide +kernel
theorem d_M_finish_10 : decode prog_13_method_27_code 10 = .ok (.sipush 201, 3) := by decide +kernel
theorem d_M_finish_13 : decode prog_13_method_27_code 13 = .ok (.if_icmp .ne 7, 3) := by decide +kernel
theorem d_M_finish_16 : decode prog_13_method_27_code 16 = .ok (.iconst 1, 1) := by decide +kernel
theorem d_M_finish_17 : decode prog_13_method_27_code 17 = .ok (.goto 4, 3) := by decide +kernel
theorem d_M_finish_20 : decode prog_13_method_27_code 20 = .ok (.iconst 0, 1) := by decide +kernel
theorem d_M_finish_21 : decode prog_13_method_27_code 21 = .ok (.istore_n 2, 1) := by decide +kernel
theorem d_M_finish_22 : decode prog_13_method_27_code 22 = .ok (.aload_n 0, 1) := by decide +kernel
theorem d_M_finish_23 : decode prog_13_method_27_code 23 = .ok (.getfield 147, 3) := by decide +kernel
theorem d_M_finish_26 : decode prog_13_method_27_code 26 = .ok (.ifCond .eq 8, 3) := by decide +kernel
theorem d_M_finish_29 : decode prog_13_method_27_code 29 = .ok (.iload_n 2, 1) := by decide +kernel
theorem d_M_finish_30 : decode prog_13_method_27_code 30 = .ok (.ifCond .ne 4, 3) := by decide +kernel
theorem d_M_finish_33 : decode prog_13_method_27_code 33 = .ok (.return_, 1) := by decide +kernel
theorem d_M_finish_34 : decode prog_13_method_27_code 34 = .ok (.iload_n 1, 1) := by decide +kernel
theorem d_M_finish_35 : decode prog_13_method_27_code 35 = .ok (.bipush 65, 2) := by decide +kernel
theorem d_M_finish_37 : decode prog_13_method_27_code 37 = .ok (.if_icmp .eq 9, 3) := by decide +kernel
theorem d_M_finish_40 : decode prog_13_method_27_code 40 = .ok (.iload_n 1, 1) := by decide +kernel
theorem d_M_finish_41 : decode prog_13_method_27_code 41 = .ok (.bipush 66, 2) := by decide +kernel
theorem d_M_finish_43 : decode prog_13_method_27_code 43 = .ok (.if_icmp .ne 19, 3) := by decide +kernel
theorem d_M_finish_46 : decode prog_13_method_27_code 46 = .ok (.aload_n 0, 1) := by decide +kernel
theorem d_M_finish_47 : decode prog_13_method_27_code 47 = .ok (.iload_n 1, 1) := by decide +kernel
theorem d_M_finish_48 : decode prog_13_method_27_code 48 = .ok (.bipush 65, 2) := by decide +kernel
theorem d_M_finish_50 : decode prog_13_method_27_code 50 = .ok (.if_icmp .ne 7, 3) := by decide +kernel
theorem d_M_finish_53 : decode prog_13_method_27_code 53 = .ok (.iconst (-1), 1) := by decide +kernel
theorem d_M_finish_54 : decode prog_13_method_27_code 54 = .ok (.goto 4, 3) := by decide +kernel
theorem d_M_finish_57 : decode prog_13_method_27_code 57 = .ok (.iconst 1, 1) := by decide +kernel
theorem d_M_finish_58 : decode prog_13_method_27_code 58 = .ok (.invokevirtual 171, 3) := by decide +kernel
theorem d_M_finish_61 : decode prog_13_method_27_code 61 = .ok (.return_, 1) := by decide +kernel
theorem d_M_finish_62 : decode prog_13_method_27_code 62 = .ok (.iload_n 1, 1) := by decide +kernel
theorem d_M_finish_63 : decode prog_13_method_27_code 63 = .ok (.bipush 67, 2) := by decide +kernel
theorem d_M_finish_65 : decode prog_13_method_27_code 65 = .ok (.if_icmp .eq 55, 3) := by decide +kernel
theorem d_M_finish_68 : decode prog_13_method_27_code 68 = .ok (.iload_n 1, 1) := by decide +kernel
theorem d_M_finish_69 : decode prog_13_method_27_code 69 = .ok (.bipush 68, 2) := by decide +kernel
theorem d_M_finish_71 : decode prog_13_method_27_code 71 = .ok (.if_icmp .eq 49, 3) := by decide +kernel
theorem d_M_finish_74 : decode prog_13_method_27_code 74 = .ok (.iload_n 1, 1) := by decide +kernel
theorem d_M_finish_75 : decode prog_13_method_27_code 75 = .ok (.bipush 72, 2) := by decide +kernel
theorem d_M_finish_77 : decode prog_13_method_27_code 77 = .ok (.if_icmp .eq 43, 3) := by decide +kernel
theorem d_M_finish_80 : decode prog_13_method_27_code 80 = .ok (.iload_n 1, 1) := by decide +kernel
theorem d_M_finish_81 : decode prog_13_method_27_code 81 = .ok (.bipush 70, 2) := by decide +kernel
theorem d_M_finish_83 : decode prog_13_method_27_code 83 = .ok (.if_icmp .eq 37, 3) := by decide +kernel
theorem d_M_finish_86 : decode prog_13_method_27_code 86 = .ok (.iload_n 1, 1) := by decide +kernel
theorem d_M_finish_87 : decode prog_13_method_27_code 87 = .ok (.bipush 126, 2) := by decide +kernel
theorem d_M_finish_89 : decode prog_13_method_27_code 89 = .ok (.if_icmp .ne 35, 3) := by decide +kernel
theorem d_M_finish_92 : decode prog_13_method_27_code 92 = .ok (.aload_n 0, 1) := by decide +kernel
theorem d_M_finish_93 : decode prog_13_method_27_code 93 = .ok (.getfield 168, 3) := by decide +kernel
theorem d_M_finish_96 : decode prog_13_method_27_code 96 = .ok (.iconst 3, 1) := by decide +kernel
theorem d_M_finish_97 : decode prog_13_method_27_code 97 = .ok (.if_icmp .eq 23, 3) := by decide +kernel
theorem d_M_finish_100 : decode prog_13_method_27_code 100 = .ok (.aload_n 0, 1) := by decide +kernel
theorem d_M_finish_101 : decode prog_13_method_27_code 101 = .ok (.getfield 168, 3) := by decide +kernel
theorem d_M_finish_104 : decode prog_13_method_27_code 104 = .ok (.sipush 200, 3) := by decide +kernel
theorem d_M_finish_107 : decode prog_13_method_27_code 107 = .ok (.if_icmp .eq 13, 3) := by decide +kernel
theorem d_M_finish_110 : decode prog_13_method_27_code 110 = .ok (.aload_n 0, 1) := by decide +kernel
theorem d_M_finish_111 : decode prog_13_method_27_code 111 = .ok (.getfield 168, 3) := by decide +kernel
theorem d_M_finish_114 : decode prog_13_method_27_code 114 = .ok (.sipush 201, 3) := by decide +kernel
theorem d_M_finish_117 : decode prog_13_method_27_code 117 = .ok (.if_icmp .ne 7, 3) := by decide +kernel
theorem d_M_finish_120 : decode prog_13_method_27_code 120 = .ok (.iconst 1, 1) := by decide +kernel
theorem d_M_finish_121 : decode prog_13_method_27_code 121 = .ok (.goto 4, 3) := by decide +kernel
theorem d_M_finish_124 : decode prog_13_method_27_code 124 = .ok (.iconst 0, 1) := by decide +kernel
theorem d_M_finish_125 : decode prog_13_method_27_code 125 = .ok (.istore_n 3, 1) := by decide +kernel
theorem d_M_finish_126 : decode prog_13_method_27_code 126 = .ok (.iload_n 3, 1) := by decide +kernel
theorem d_M_finish_127 : decode prog_13_method_27_code 127 = .ok (.ifCond .ne 4, 3) := by decide +kernel
theorem d_M_finish_130 : decode prog_13_method_27_code 130 = .ok (.return_, 1) := by decide +kernel
theorem d_M_finish_131 : decode prog_13_method_27_code 131 = .ok (.aload_n 0, 1) := by decide +kernel
theorem d_M_finish_132 : decode prog_13_method_27_code 132 = .ok (.iconst (-1), 1) := by decide +kernel
theorem d_M_finish_133 : decode prog_13_method_27_code 133 = .ok (.putfield 20, 3) := by decide +kernel
theorem d_M_finish_136 : decode prog_13_method_27_code 136 = .ok (.iload_n 1, 1) := by decide +kernel
theorem d_M_finish_137 : decode prog_13_method_27_code 137 = .ok (.bipush 67, 2) := by decide +kernel
theorem d_M_finish_139 : decode prog_13_method_27_code 139 = .ok (.if_icmp .ne 26, 3) := by decide +kernel
theorem d_M_finish_142 : decode prog_13_method_27_code 142 = .ok (.aload_n 0, 1) := by decide +kernel
theorem d_M_finish_143 : decode prog_13_method_27_code 143 = .ok (.getfield 117, 3) := by decide +kernel
theorem d_M_finish_146 : decode prog_13_method_27_code 146 = .ok (.aload_n 0, 1) := by decide +kernel
theorem d_M_finish_147 : decode prog_13_method_27_code 147 = .ok (.getfield 87, 3) := by decide +kernel
theorem d_M_finish_150 : decode prog_13_method_27_code 150 = .ok (.if_icmp .ge 15, 3) := by decide +kernel
theorem d_M_finish_153 : decode prog_13_method_27_code 153 = .ok (.aload_n 0, 1) := by decide +kernel
theorem d_M_finish_154 : decode prog_13_method_27_code 154 = .ok (.aload_n 0, 1) := by decide +kernel
theorem d_M_finish_155 : decode prog_13_method_27_code 155 = .ok (.aload_n 0, 1) := by decide +kernel
theorem d_M_finish_156 : decode prog_13_method_27_code 156 = .ok (.getfield 117, 3) := by decide +kernel
theorem d_M_finish_159 : decode prog_13_method_27_code 159 = .ok (.invokevirtual 107, 3) := by decide +kernel
theorem d_M_finish_162 : decode prog_13_method_27_code 162 = .ok (.putfield 117, 3) := by decide +kernel
theorem d_M_finish_165 : decode prog_13_method_27_code 165 = .ok (.iload_n 1, 1) := by decide +kernel
theorem d_M_finish_166 : decode prog_13_method_27_code 166 = .ok (.bipush 68, 2) := by decide +kernel
theorem d_M_finish_168 : decode prog_13_method_27_code 168 = .ok (.if_icmp .ne 22, 3) := by decide +kernel
theorem d_M_finish_171 : decode prog_13_method_27_code 171 = .ok (.aload_n 0, 1) := by decide +kernel
theorem d_M_finish_172 : decode prog_13_method_27_code 172 = .ok (.getfield 117, 3) := by decide +kernel
theorem d_M_finish_175 : decode prog_13_method_27_code 175 = .ok (.ifCond .le 15, 3) := by decide +kernel
theorem d_M_finish_178 : decode prog_13_method_27_code 178 = .ok (.aload_n 0, 1) := by decide +kernel
theorem d_M_finish_179 : decode prog_13_method_27_code 179 = .ok (.aload_n 0, 1) := by decide +kernel
theorem d_M_finish_180 : decode prog_13_method_27_code 180 = .ok (.aload_n 0, 1) := by decide +kernel
theorem d_M_finish_181 : decode prog_13_method_27_code 181 = .ok (.getfield 117, 3) := by decide +kernel
theorem d_M_finish_184 : decode prog_13_method_27_code 184 = .ok (.invokevirtual 162, 3) := by decide +kernel
theorem d_M_finish_187 : decode prog_13_method_27_code 187 = .ok (.putfield 117, 3) := by decide +kernel
theorem d_M_finish_190 : decode prog_13_method_27_code 190 = .ok (.iload_n 1, 1) := by decide +kernel
theorem d_M_finish_191 : decode prog_13_method_27_code 191 = .ok (.bipush 72, 2) := by decide +kernel
theorem d_M_finish_193 : decode prog_13_method_27_code 193 = .ok (.if_icmp .ne 11, 3) := by decide +kernel
theorem d_M_finish_196 : decode prog_13_method_27_code 196 = .ok (.aload_n 0, 1) := by decide +kernel
theorem d_M_finish_197 : decode prog_13_method_27_code 197 = .ok (.aload_n 0, 1) := by decide +kernel
theorem d_M_finish_198 : decode prog_13_method_27_code 198 = .ok (.invokevirtual 174, 3) := by decide +kernel
theorem d_M_finish_201 : decode prog_13_method_27_code 201 = .ok (.putfield 117, 3) := by decide +kernel
theorem d_M_finish_204 : decode prog_13_method_27_code 204 = .ok (.iload_n 1, 1) := by decide +kernel
theorem d_M_finish_205 : decode prog_13_method_27_code 205 = .ok (.bipush 70, 2) := by decide +kernel
theorem d_M_finish_207 : decode prog_13_method_27_code 207 = .ok (.if_icmp .ne 11, 3) := by decide +kernel
theorem d_M_finish_210 : decode prog_13_method_27_code 210 = .ok (.aload_n 0, 1) := by decide +kernel
theorem d_M_finish_211 : decode prog_13_method_27_code 211 = .ok (.aload_n 0, 1) := by decide +kernel
theorem d_M_finish_212 : decode prog_13_method_27_code 212 = .ok (.invokevirtual 178, 3) := by decide +kernel
theorem d_M_finish_215 : decode prog_13_method_27_code 215 = .ok (.putfield 117, 3) := by decide +kernel
theorem d_M_finish_218 : decode prog_13_method_27_code 218 = .ok (.iload_n 1, 1) := by decide +kernel
theorem d_M_finish_219 : decode prog_13_method_27_code 219 = .ok (.bipush 126, 2) := by decide +kernel
theorem d_M_finish_221 : decode prog_13_method_27_code 221 = .ok (.if_icmp .ne 38, 3) := by decide +kernel
theorem d_M_finish_224 : decode prog_13_method_27_code 224 = .ok (.aload_n 0, 1) := by decide +kernel
theorem d_M_finish_225 : decode prog_13_method_27_code 225 = .ok (.getfield 168, 3) := by decide +kernel
theorem d_M_finish_228 : decode prog_13_method_27_code 228 = .ok (.iconst 3, 1) := by decide +kernel
theorem d_M_finish_229 : decode prog_13_method_27_code 229 = .ok (.if_icmp .ne 30, 3) := by decide +kernel
theorem d_M_finish_232 : decode prog_13_method_27_code 232 = .ok (.aload_n 0, 1) := by decide +kernel
theorem d_M_finish_233 : decode prog_13_method_27_code 233 = .ok (.getfield 117, 3) := by decide +kernel
theorem d_M_finish_236 : decode prog_13_method_27_code 236 = .ok (.aload_n 0, 1) := by decide +kernel
theorem d_M_finish_237 : decode prog_13_method_27_code 237 = .ok (.getfield 87, 3) := by decide +kernel
theorem d_M_finish_240 : decode prog_13_method_27_code 240 = .ok (.if_icmp .ge 19, 3) := by decide +kernel
theorem d_M_finish_243 : decode prog_13_method_27_code 243 = .ok (.aload_n 0, 1) := by decide +kernel
theorem d_M_finish_244 : decode prog_13_method_27_code 244 = .ok (.aload_n 0, 1) := by decide +kernel
theorem d_M_finish_245 : decode prog_13_method_27_code 245 = .ok (.getfield 117, 3) := by decide +kernel
theorem d_M_finish_248 : decode prog_13_method_27_code 248 = .ok (.aload_n 0, 1) := by decide +kernel
theorem d_M_finish_249 : decode prog_13_method_27_code 249 = .ok (.aload_n 0, 1) := by decide +kernel
theorem d_M_finish_250 : decode prog_13_method_27_code 250 = .ok (.getfield 117, 3) := by decide +kernel
theorem d_M_finish_253 : decode prog_13_method_27_code 253 = .ok (.invokevirtual 107, 3) := by decide +kernel
theorem d_M_finish_256 : decode prog_13_method_27_code 256 = .ok (.invokevirtual 138, 3) := by decide +kernel
theorem d_M_finish_259 : decode prog_13_method_27_code 259 = .ok (.iload_n 1, 1) := by decide +kernel
theorem d_M_finish_260 : decode prog_13_method_27_code 260 = .ok (.bipush 126, 2) := by decide +kernel
theorem d_M_finish_262 : decode prog_13_method_27_code 262 = .ok (.if_icmp .ne 30, 3) := by decide +kernel
theorem d_M_finish_265 : decode prog_13_method_27_code 265 = .ok (.aload_n 0, 1) := by decide +kernel
theorem d_M_finish_266 : decode prog_13_method_27_code 266 = .ok (.getfield 168, 3) := by decide +kernel
theorem d_M_finish_269 : decode prog_13_method_27_code 269 = .ok (.iconst 3, 1) := by decide +kernel
theorem d_M_finish_270 : decode prog_13_method_27_code 270 = .ok (.if_icmp .le 22, 3) := by decide +kernel
theorem d_M_finish_273 : decode prog_13_method_27_code 273 = .ok (.aload_n 0, 1) := by decide +kernel
theorem d_M_finish_274 : decode prog_13_method_27_code 274 = .ok (.aload_n 0, 1) := by decide +kernel
theorem d_M_finish_275 : decode prog_13_method_27_code 275 = .ok (.getfield 168, 3) := by decide +kernel
theorem d_M_finish_278 : decode prog_13_method_27_code 278 = .ok (.sipush 200, 3) := by decide +kernel
theorem d_M_finish_281 : decode prog_13_method_27_code 281 = .ok (.if_icmp .ne 7, 3) := by decide +kernel
theorem d_M_finish_284 : decode prog_13_method_27_code 284 = .ok (.iconst 1, 1) := by decide +kernel
theorem d_M_finish_285 : decode prog_13_method_27_code 285 = .ok (.goto 4, 3) := by decide +kernel
theorem d_M_finish_288 : decode prog_13_method_27_code 288 = .ok (.iconst 0, 1) := by decide +kernel
theorem d_M_finish_289 : decode prog_13_method_27_code 289 = .ok (.putfield 147, 3) := by decide +kernel
theorem d_M_finish_292 : decode prog_13_method_27_code 292 = .ok (.return_, 1) := by decide +kernel
theorem d_M_plain_0 : decode prog_13_method_28_code 0 = .ok (.iload_n 1, 1) := by decide +kernel
theorem d_M_plain_1 : decode prog_13_method_28_code 1 = .ok (.bipush 27, 2) := by decide +kernel
theorem d_M_plain_3 : decode prog_13_method_28_code 3 = .ok (.if_icmp .ne 11, 3) := by decide +kernel
theorem d_M_plain_6 : decode prog_13_method_28_code 6 = .ok (.aload_n 0, 1) := by decide +kernel
theorem d_M_plain_7 : decode prog_13_method_28_code 7 = .ok (.iconst 1, 1) := by decide +kernel
theorem d_M_plain_8 : decode prog_13_method_28_code 8 = .ok (.putfield 181, 3) := by decide +kernel
theorem d_M_plain_11 : decode prog_13_method_28_code 11 = .ok (.goto 140, 3) := by decide +kernel
theorem d_M_plain_14 : decode prog_13_method_28_code 14 = .ok (.iload_n 1, 1) := by decide +kernel
theorem d_M_plain_15 : decode prog_13_method_28_code 15 = .ok (.bipush 32, 2) := by decide +kernel
theorem d_M_plain_17 : decode prog_13_method_28_code 17 = .ok (.if_icmp .lt 17, 3) := by decide +kernel
theorem d_M_plain_20 : decode prog_13_method_28_code 20 = .ok (.iload_n 1, 1) := by decide +kernel
theorem d_M_plain_21 : decode prog_13_method_28_code 21 = .ok (.bipush 126, 2) := by decide +kernel
theorem d_M_plain_23 : decode prog_13_method_28_code 23 = .ok (.if_icmp .gt 11, 3) := by decide +kernel
theorem d_M_plain_26 : decode prog_13_method_28_code 26 = .ok (.aload_n 0, 1) := by decide +kernel
theorem d_M_plain_27 : decode prog_13_method_28_code 27 = .ok (.iload_n 1, 1) := by decide +kernel
theorem d_M_plain_28 : decode prog_13_method_28_code 28 = .ok (.invokevirtual 144, 3) := by decide +kernel
theorem d_M_plain_31 : decode prog_13_method_28_code 31 = .ok (.goto 120, 3) := by decide +kernel
theorem d_M_plain_34 : decode prog_13_method_28_code 34 = .ok (.iload_n 1, 1) := by decide +kernel
theorem d_M_plain_35 : decode prog_13_method_28_code 35 = .ok (.sipush 194, 3) := by decide +kernel
theorem d_M_plain_38 : decode prog_13_method_28_code 38 = .ok (.if_icmp .lt 91, 3) := by decide +kernel
theorem d_M_plain_41 : decode prog_13_method_28_code 41 = .ok (.iload_n 1, 1) := by decide +kernel
theorem d_M_plain_42 : decode prog_13_method_28_code 42 = .ok (.sipush 239, 3) := by decide +kernel
theorem d_M_plain_45 : decode prog_13_method_28_code 45 = .ok (.if_icmp .gt 84, 3) := by decide +kernel
theorem d_M_plain_48 : decode prog_13_method_28_code 48 = .ok (.aload_n 0, 1) := by decide +kernel
theorem d_M_plain_49 : decode prog_13_method_28_code 49 = .ok (.iload_n 1, 1) := by decide +kernel
theorem d_M_plain_50 : decode prog_13_method_28_code 50 = .ok (.sipush 224, 3) := by decide +kernel
theorem d_M_plain_53 : decode prog_13_method_28_code 53 = .ok (.if_icmp .ge 7, 3) := by decide +kernel
theorem d_M_plain_56 : decode prog_13_method_28_code 56 = .ok (.iconst 1, 1) := by decide +kernel
theorem d_M_plain_57 : decode prog_13_method_28_code 57 = .ok (.goto 4, 3) := by decide +kernel
theorem d_M_plain_60 : decode prog_13_method_28_code 60 = .ok (.iconst 2, 1) := by decide +kernel
theorem d_M_plain_61 : decode prog_13_method_28_code 61 = .ok (.putfield 184, 3) := by decide +kernel
theorem d_M_plain_64 : decode prog_13_method_28_code 64 = .ok (.aload_n 0, 1) := by decide +kernel
theorem d_M_plain_65 : decode prog_13_method_28_code 65 = .ok (.iload_n 1, 1) := by decide +kernel
theorem d_M_plain_66 : decode prog_13_method_28_code 66 = .ok (.sipush 224, 3) := by decide +kernel
theorem d_M_plain_69 : decode prog_13_method_28_code 69 = .ok (.if_icmp .ge 10, 3) := by decide +kernel
theorem d_M_plain_72 : decode prog_13_method_28_code 72 = .ok (.iload_n 1, 1) := by decide +kernel
theorem d_M_plain_73 : decode prog_13_method_28_code 73 = .ok (.bipush 31, 2) := by decide +kernel
theorem d_M_plain_75 : decode prog_13_method_28_code 75 = .ok (.iand, 1) := by decide +kernel
theorem d_M_plain_76 : decode prog_13_method_28_code 76 = .ok (.goto 7, 3) := by decide +kernel
theorem d_M_plain_79 : decode prog_13_method_28_code 79 = .ok (.iload_n 1, 1) := by decide +kernel
theorem d_M_plain_80 : decode prog_13_method_28_code 80 = .ok (.bipush 15, 2) := by decide +kernel
theorem d_M_plain_82 : decode prog_13_method_28_code 82 = .ok (.iand, 1) := by decide +kernel
theorem d_M_plain_83 : decode prog_13_method_28_code 83 = .ok (.putfield 187, 3) := by decide +kernel
theorem d_M_plain_86 : decode prog_13_method_28_code 86 = .ok (.aload_n 0, 1) := by decide +kernel
theorem d_M_plain_87 : decode prog_13_method_28_code 87 = .ok (.iload_n 1, 1) := by decide +kernel
theorem d_M_plain_88 : decode prog_13_method_28_code 88 = .ok (.sipush 224, 3) := by decide +kernel
theorem d_M_plain_91 : decode prog_13_method_28_code 91 = .ok (.if_icmp .ne 9, 3) := by decide +kernel
theorem d_M_plain_94 : decode prog_13_method_28_code 94 = .ok (.sipush 160, 3) := by decide +kernel
theorem d_M_plain_97 : decode prog_13_method_28_code 97 = .ok (.goto 6, 3) := by decide +kernel
theorem d_M_plain_100 : decode prog_13_method_28_code 100 = .ok (.sipush 128, 3) := by decide +kernel
theorem d_M_plain_103 : decode prog_13_method_28_code 103 = .ok (.putfield 190, 3) := by decide +kernel
theorem d_M_plain_106 : decode prog_13_method_28_code 106 = .ok (.aload_n 0, 1) := by decide +kernel
theorem d_M_plain_107 : decode prog_13_method_28_code 107 = .ok (.iload_n 1, 1) := by decide +kernel
theorem d_M_plain_108 : decode prog_13_method_28_code 108 = .ok (.sipush 237, 3) := by decide +kernel
theorem d_M_plain_111 : decode prog_13_method_28_code 111 = .ok (.if_icmp .ne 9, 3) := by decide +kernel
theorem d_M_plain_114 : decode prog_13_method_28_code 114 = .ok (.sipush 159, 3) := by decide +kernel
theorem d_M_plain_117 : decode prog_13_method_28_code 117 = .ok (.goto 6, 3) := by decide +kernel
theorem d_M_plain_120 : decode prog_13_method_28_code 120 = .ok (.sipush 191, 3) := by decide +kernel
theorem d_M_plain_123 : decode prog_13_method_28_code 123 = .ok (.putfield 193, 3) := by decide +kernel
theorem d_M_plain_126 : decode prog_13_method_28_code 126 = .ok (.goto 25, 3) := by decide +kernel
theorem d_M_plain_129 : decode prog_13_method_28_code 129 = .ok (.iload_n 1, 1) := by decide +kernel
theorem d_M_plain_130 : decode prog_13_method_28_code 130 = .ok (.sipush 128, 3) := by decide +kernel
theorem d_M_plain_133 : decode prog_13_method_28_code 133 = .ok (.if_icmp .lt 12, 3) := by decide +kernel
theorem d_M_plain_136 : decode prog_13_method_28_code 136 = .ok (.aload_n 0, 1) := by decide +kernel
theorem d_M_plain_137 : decode prog_13_method_28_code 137 = .ok (.ldc 196, 2) := by decide +kernel
theorem d_M_plain_139 : decode prog_13_method_28_code 139 = .ok (.invokevirtual 144, 3) := by decide +kernel
theorem d_M_plain_142 : decode prog_13_method_28_code 142 = .ok (.goto 9, 3) := by decide +kernel
theorem d_M_plain_145 : decode prog_13_method_28_code 145 = .ok (.aload_n 0, 1) := by decide +kernel
theorem d_M_plain_146 : decode prog_13_method_28_code 146 = .ok (.iload_n 1, 1) := by decide +kernel
theorem d_M_plain_147 : decode prog_13_method_28_code 147 = .ok (.iload_n 2, 1) := by decide +kernel
theorem d_M_plain_148 : decode prog_13_method_28_code 148 = .ok (.invokevirtual 197, 3) := by decide +kernel
theorem d_M_plain_151 : decode prog_13_method_28_code 151 = .ok (.return_, 1) := by decide +kernel
theorem d_M_within_0 : decode prog_13_method_29_code 0 = .ok (.iload_n 1, 1) := by decide +kernel
theorem d_M_within_1 : decode prog_13_method_29_code 1 = .ok (.aload_n 0, 1) := by decide +kernel
theorem d_M_within_2 : decode prog_13_method_29_code 2 = .ok (.getfield 190, 3) := by decide +kernel
theorem d_M_within_5 : decode prog_13_method_29_code 5 = .ok (.if_icmp .lt 11, 3) := by decide +kernel
theorem d_M_within_8 : decode prog_13_method_29_code 8 = .ok (.iload_n 1, 1) := by decide +kernel
theorem d_M_within_9 : decode prog_13_method_29_code 9 = .ok (.aload_n 0, 1) := by decide +kernel
theorem d_M_within_10 : decode prog_13_method_29_code 10 = .ok (.getfield 193, 3) := by decide +kernel
theorem d_M_within_13 : decode prog_13_method_29_code 13 = .ok (.if_icmp .le 21, 3) := by decide +kernel
theorem d_M_within_16 : decode prog_13_method_29_code 16 = .ok (.aload_n 0, 1) := by decide +kernel
theorem d_M_within_17 : decode prog_13_method_29_code 17 = .ok (.iconst 0, 1) := by decide +kernel
theorem d_M_within_18 : decode prog_13_method_29_code 18 = .ok (.putfield 184, 3) := by decide +kernel
theorem d_M_within_21 : decode prog_13_method_29_code 21 = .ok (.aload_n 0, 1) := by decide +kernel
theorem d_M_within_22 : decode prog_13_method_29_code 22 = .ok (.ldc 196, 2) := by decide +kernel
theorem d_M_within_24 : decode prog_13_method_29_code 24 = .ok (.invokevirtual 144, 3) := by decide +kernel
theorem d_M_within_27 : decode prog_13_method_29_code 27 = .ok (.aload_n 0, 1) := by decide +kernel
theorem d_M_within_28 : decode prog_13_method_29_code 28 = .ok (.iload_n 1, 1) := by decide +kernel
theorem d_M_within_29 : decode prog_13_method_29_code 29 = .ok (.iload_n 2, 1) := by decide +kernel
theorem d_M_within_30 : decode prog_13_method_29_code 30 = .ok (.invokevirtual 200, 3) := by decide +kernel
theorem d_M_within_33 : decode prog_13_method_29_code 33 = .ok (.return_, 1) := by decide +kernel
theorem d_M_within_34 : decode prog_13_method_29_code 34 = .ok (.aload_n 0, 1) := by decide +kernel
theorem d_M_within_35 : decode prog_13_method_29_code 35 = .ok (.aload_n 0, 1) := by decide +kernel
theorem d_M_within_36 : decode prog_13_method_29_code 36 = .ok (.getfield 187, 3) := by decide +kernel
theorem d_M_within_39 : decode prog_13_method_29_code 39 = .ok (.bipush 6, 2) := by decide +kernel
theorem d_M_within_41 : decode prog_13_method_29_code 41 = .ok (.ishl, 1) := by decide +kernel
theorem d_M_within_42 : decode prog_13_method_29_code 42 = .ok (.iload_n 1, 1) := by decide +kernel
theorem d_M_within_43 : decode prog_13_method_29_code 43 = .ok (.bipush 63, 2) := by decide +kernel
theorem d_M_within_45 : decode prog_13_method_29_code 45 = .ok (.iand, 1) := by decide +kernel
theorem d_M_within_46 : decode prog_13_method_29_code 46 = .ok (.ior, 1) := by decide +kernel
theorem d_M_within_47 : decode prog_13_method_29_code 47 = .ok (.putfield 187, 3) := by decide +kernel
theorem d_M_within_50 : decode prog_13_method_29_code 50 = .ok (.aload_n 0, 1) := by decide +kernel
theorem d_M_within_51 : decode prog_13_method_29_code 51 = .ok (.sipush 128, 3) := by decide +kernel
theorem d_M_within_54 : decode prog_13_method_29_code 54 = .ok (.putfield 190, 3) := by decide +kernel
theorem d_M_within_57 : decode prog_13_method_29_code 57 = .ok (.aload_n 0, 1) := by decide +kernel
theorem d_M_within_58 : decode prog_13_method_29_code 58 = .ok (.sipush 191, 3) := by decide +kernel
theorem d_M_within_61 : decode prog_13_method_29_code 61 = .ok (.putfield 193, 3) := by decide +kernel
theorem d_M_within_64 : decode prog_13_method_29_code 64 = .ok (.aload_n 0, 1) := by decide +kernel
theorem d_M_within_65 : decode prog_13_method_29_code 65 = .ok (.dup, 1) := by decide +kernel
theorem d_M_within_66 : decode prog_13_method_29_code 66 = .ok (.getfield 184, 3) := by decide +kernel
theorem d_M_within_69 : decode prog_13_method_29_code 69 = .ok (.iconst 1, 1) := by decide +kernel
theorem d_M_within_70 : decode prog_13_method_29_code 70 = .ok (.isub, 1) := by decide +kernel
theorem d_M_within_71 : decode prog_13_method_29_code 71 = .ok (.putfield 184, 3) := by decide +kernel
theorem d_M_within_74 : decode prog_13_method_29_code 74 = .ok (.aload_n 0, 1) := by decide +kernel
theorem d_M_within_75 : decode prog_13_method_29_code 75 = .ok (.getfield 184, 3) := by decide +kernel
theorem d_M_within_78 : decode prog_13_method_29_code 78 = .ok (.ifCond .ne 31, 3) := by decide +kernel
theorem d_M_within_81 : decode prog_13_method_29_code 81 = .ok (.aload_n 0, 1) := by decide +kernel
theorem d_M_within_82 : decode prog_13_method_29_code 82 = .ok (.getfield 187, 3) := by decide +kernel
theorem d_M_within_85 : decode prog_13_method_29_code 85 = .ok (.sipush 128, 3) := by decide +kernel
theorem d_M_within_88 : decode prog_13_method_29_code 88 = .ok (.if_icmp .lt 13, 3) := by decide +kernel
theorem d_M_within_91 : decode prog_13_method_29_code 91 = .ok (.aload_n 0, 1) := by decide +kernel
theorem d_M_within_92 : decode prog_13_method_29_code 92 = .ok (.getfield 187, 3) := by decide +kernel
theorem d_M_within_95 : decode prog_13_method_29_code 95 = .ok (.sipush 159, 3) := by decide +kernel
theorem d_M_within_98 : decode prog_13_method_29_code 98 = .ok (.if_icmp .le 11, 3) := by decide +kernel
theorem d_M_within_101 : decode prog_13_method_29_code 101 = .ok (.aload_n 0, 1) := by decide +kernel
theorem d_M_within_102 : decode prog_13_method_29_code 102 = .ok (.aload_n 0, 1) := by decide +kernel
theorem d_M_within_103 : decode prog_13_method_29_code 103 = .ok (.getfield 187, 3) := by decide +kernel
theorem d_M_within_106 : decode prog_13_method_29_code 106 = .ok (.invokevirtual 144, 3) := by decide +kernel
theorem d_M_within_109 : decode prog_13_method_29_code 109 = .ok (.return_, 1) := by decide +kernel
theorem d_M_inSequence_0 : decode prog_13_method_30_code 0 = .ok (.iload_n 1, 1) := by decide +kernel
theorem d_M_inSequence_1 : decode prog_13_method_30_code 1 = .ok (.bipush 48, 2) := by decide +kernel
theorem d_M_inSequence_3 : decode prog_13_method_30_code 3 = .ok (.if_icmp .lt 52, 3) := by decide +kernel
theorem d_M_inSequence_6 : decode prog_13_method_30_code 6 = .ok (.iload_n 1, 1) := by decide +kernel
theorem d_M_inSequence_7 : decode prog_13_method_30_code 7 = .ok (.bipush 57, 2) := by decide +kernel
theorem d_M_inSequence_9 : decode prog_13_method_30_code 9 = .ok (.if_icmp .gt 46, 3) := by decide +kernel
theorem d_M_inSequence_12 : decode prog_13_method_30_code 12 = .ok (.aload_n 0, 1) := by decide +kernel
theorem d_M_inSequence_13 : decode prog_13_method_30_code 13 = .ok (.bipush 10, 2) := by decide +kernel
theorem d_M_inSequence_15 : decode prog_13_method_30_code 15 = .ok (.aload_n 0, 1) := by decide +kernel
theorem d_M_inSequence_16 : decode prog_13_method_30_code 16 = .ok (.getfield 168, 3) := by decide +kernel
theorem d_M_inSequence_19 : decode prog_13_method_30_code 19 = .ok (.imul, 1) := by decide +kernel
theorem d_M_inSequence_20 : decode prog_13_method_30_code 20 = .ok (.iload_n 1, 1) := by decide +kernel
theorem d_M_inSequence_21 : decode prog_13_method_30_code 21 = .ok (.iadd, 1) := by decide +kernel
theorem d_M_inSequence_22 : decode prog_13_method_30_code 22 = .ok (.bipush 48, 2) := by decide +kernel
theorem d_M_inSequence_24 : decode prog_13_method_30_code 24 = .ok (.isub, 1) := by decide +kernel
theorem d_M_inSequence_25 : decode prog_13_method_30_code 25 = .ok (.putfield 168, 3) := by decide +kernel
theorem d_M_inSequence_28 : decode prog_13_method_30_code 28 = .ok (.aload_n 0, 1) := by decide +kernel
theorem d_M_inSequence_29 : decode prog_13_method_30_code 29 = .ok (.aload_n 0, 1) := by decide +kernel
theorem d_M_inSequence_30 : decode prog_13_method_30_code 30 = .ok (.getfield 168, 3) := by decide +kernel
theorem d_M_inSequence_33 : decode prog_13_method_30_code 33 = .ok (.sipush 9999, 3) := by decide +kernel
theorem d_M_inSequence_36 : decode prog_13_method_30_code 36 = .ok (.if_icmp .le 9, 3) := by decide +kernel
theorem d_M_inSequence_39 : decode prog_13_method_30_code 39 = .ok (.sipush 9999, 3) := by decide +kernel
theorem d_M_inSequence_42 : decode prog_13_method_30_code 42 = .ok (.goto 7, 3) := by decide +kernel
theorem d_M_inSequence_45 : decode prog_13_method_30_code 45 = .ok (.aload_n 0, 1) := by decide +kernel
theorem d_M_inSequence_46 : decode prog_13_method_30_code 46 = .ok (.getfield 168, 3) := by decide +kernel
theorem d_M_inSequence_49 : decode prog_13_method_30_code 49 = .ok (.putfield 168, 3) := by decide +kernel
theorem d_M_inSequence_52 : decode prog_13_method_30_code 52 = .ok (.goto 39, 3) := by decide +kernel
theorem d_M_inSequence_55 : decode prog_13_method_30_code 55 = .ok (.iload_n 1, 1) := by decide +kernel
theorem d_M_inSequence_56 : decode prog_13_method_30_code 56 = .ok (.bipush 64, 2) := by decide +kernel
theorem d_M_inSequence_58 : decode prog_13_method_30_code 58 = .ok (.if_icmp .lt 22, 3) := by decide +kernel
theorem d_M_inSequence_61 : decode prog_13_method_30_code 61 = .ok (.iload_n 1, 1) := by decide +kernel
theorem d_M_inSequence_62 : decode prog_13_method_30_code 62 = .ok (.bipush 126, 2) := by decide +kernel
theorem d_M_inSequence_64 : decode prog_13_method_30_code 64 = .ok (.if_icmp .gt 16, 3) := by decide +kernel
theorem d_M_inSequence_67 : decode prog_13_method_30_code 67 = .ok (.aload_n 0, 1) := by decide +kernel
theorem d_M_inSequence_68 : decode prog_13_method_30_code 68 = .ok (.iconst 0, 1) := by decide +kernel
theorem d_M_inSequence_69 : decode prog_13_method_30_code 69 = .ok (.putfield 181, 3) := by decide +kernel
theorem d_M_inSequence_72 : decode prog_13_method_30_code 72 = .ok (.aload_n 0, 1) := by decide +kernel
theorem d_M_inSequence_73 : decode prog_13_method_30_code 73 = .ok (.iload_n 1, 1) := by decide +kernel
theorem d_M_inSequence_74 : decode prog_13_method_30_code 74 = .ok (.invokevirtual 203, 3) := by decide +kernel
theorem d_M_inSequence_77 : decode prog_13_method_30_code 77 = .ok (.goto 14, 3) := by decide +kernel
theorem d_M_inSequence_80 : decode prog_13_method_30_code 80 = .ok (.aload_n 0, 1) := by decide +kernel
theorem d_M_inSequence_81 : decode prog_13_method_30_code 81 = .ok (.iconst 0, 1) := by decide +kernel
theorem d_M_inSequence_82 : decode prog_13_method_30_code 82 = .ok (.putfield 181, 3) := by decide +kernel
theorem d_M_inSequence_85 : decode prog_13_method_30_code 85 = .ok (.aload_n 0, 1) := by decide +kernel
theorem d_M_inSequence_86 : decode prog_13_method_30_code 86 = .ok (.iload_n 1, 1) := by decide +kernel
theorem d_M_inSequence_87 : decode prog_13_method_30_code 87 = .ok (.iload_n 2, 1) := by decide +kernel
theorem d_M_inSequence_88 : decode prog_13_method_30_code 88 = .ok (.invokevirtual 200, 3) := by decide +kernel
theorem d_M_inSequence_91 : decode prog_13_method_30_code 91 = .ok (.return_, 1) := by decide +kernel
theorem d_M_take_0 : decode prog_13_method_31_code 0 = .ok (.aload_n 0, 1) := by decide +kernel
theorem d_M_take_1 : decode prog_13_method_31_code 1 = .ok (.getfield 38, 3) := by decide +kernel
theorem d_M_take_4 : decode prog_13_method_31_code 4 = .ok (.istore_n 2, 1) := by decide +kernel
theorem d_M_take_5 : decode prog_13_method_31_code 5 = .ok (.aload_n 0, 1) := by decide +kernel
theorem d_M_take_6 : decode prog_13_method_31_code 6 = .ok (.iload_n 1, 1) := by decide +kernel
theorem d_M_take_7 : decode prog_13_method_31_code 7 = .ok (.putfield 38, 3) := by decide +kernel
theorem d_M_take_10 : decode prog_13_method_31_code 10 = .ok (.aload_n 0, 1) := by decide +kernel
theorem d_M_take_11 : decode prog_13_method_31_code 11 = .ok (.getfield 184, 3) := by decide +kernel
theorem d_M_take_14 : decode prog_13_method_31_code 14 = .ok (.ifCond .le 12, 3) := by decide +kernel
theorem d_M_take_17 : decode prog_13_method_31_code 17 = .ok (.aload_n 0, 1) := by decide +kernel
theorem d_M_take_18 : decode prog_13_method_31_code 18 = .ok (.iload_n 1, 1) := by decide +kernel
theorem d_M_take_19 : decode prog_13_method_31_code 19 = .ok (.iload_n 2, 1) := by decide +kernel
theorem d_M_take_20 : decode prog_13_method_31_code 20 = .ok (.invokevirtual 206, 3) := by decide +kernel
theorem d_M_take_23 : decode prog_13_method_31_code 23 = .ok (.goto 76, 3) := by decide +kernel
theorem d_M_take_26 : decode prog_13_method_31_code 26 = .ok (.aload_n 0, 1) := by decide +kernel
theorem d_M_take_27 : decode prog_13_method_31_code 27 = .ok (.getfield 181, 3) := by decide +kernel
theorem d_M_take_30 : decode prog_13_method_31_code 30 = .ok (.ifCond .ne 12, 3) := by decide +kernel
theorem d_M_take_33 : decode prog_13_method_31_code 33 = .ok (.aload_n 0, 1) := by decide +kernel
theorem d_M_take_34 : decode prog_13_method_31_code 34 = .ok (.iload_n 1, 1) := by decide +kernel
theorem d_M_take_35 : decode prog_13_method_31_code 35 = .ok (.iload_n 2, 1) := by decide +kernel
theorem d_M_take_36 : decode prog_13_method_31_code 36 = .ok (.invokevirtual 200, 3) := by decide +kernel
theorem d_M_take_39 : decode prog_13_method_31_code 39 = .ok (.goto 60, 3) := by decide +kernel
theorem d_M_take_42 : decode prog_13_method_31_code 42 = .ok (.aload_n 0, 1) := by decide +kernel
theorem d_M_take_43 : decode prog_13_method_31_code 43 = .ok (.getfield 181, 3) := by decide +kernel
theorem d_M_take_46 : decode prog_13_method_31_code 46 = .ok (.iconst 2, 1) := by decide +kernel
theorem d_M_take_47 : decode prog_13_method_31_code 47 = .ok (.if_icmp .ne 12, 3) := by decide +kernel
theorem d_M_take_50 : decode prog_13_method_31_code 50 = .ok (.aload_n 0, 1) := by decide +kernel
theorem d_M_take_51 : decode prog_13_method_31_code 51 = .ok (.iload_n 1, 1) := by decide +kernel
theorem d_M_take_52 : decode prog_13_method_31_code 52 = .ok (.iload_n 2, 1) := by decide +kernel
theorem d_M_take_53 : decode prog_13_method_31_code 53 = .ok (.invokevirtual 209, 3) := by decide +kernel
theorem d_M_take_56 : decode prog_13_method_31_code 56 = .ok (.goto 43, 3) := by decide +kernel
theorem d_M_take_59 : decode prog_13_method_31_code 59 = .ok (.iload_n 1, 1) := by decide +kernel
theorem d_M_take_60 : decode prog_13_method_31_code 60 = .ok (.bipush 91, 2) := by decide +kernel
theorem d_M_take_62 : decode prog_13_method_31_code 62 = .ok (.if_icmp .ne 16, 3) := by decide +kernel
theorem d_M_take_65 : decode prog_13_method_31_code 65 = .ok (.aload_n 0, 1) := by decide +kernel
theorem d_M_take_66 : decode prog_13_method_31_code 66 = .ok (.iconst 2, 1) := by decide +kernel
theorem d_M_take_67 : decode prog_13_method_31_code 67 = .ok (.putfield 181, 3) := by decide +kernel
theorem d_M_take_70 : decode prog_13_method_31_code 70 = .ok (.aload_n 0, 1) := by decide +kernel
theorem d_M_take_71 : decode prog_13_method_31_code 71 = .ok (.iconst 0, 1) := by decide +kernel
theorem d_M_take_72 : decode prog_13_method_31_code 72 = .ok (.putfield 168, 3) := by decide +kernel
theorem d_M_take_75 : decode prog_13_method_31_code 75 = .ok (.goto 24, 3) := by decide +kernel
theorem d_M_take_78 : decode prog_13_method_31_code 78 = .ok (.aload_n 0, 1) := by decide +kernel
theorem d_M_take_79 : decode prog_13_method_31_code 79 = .ok (.invokevirtual 212, 3) := by decide +kernel
theorem d_M_take_82 : decode prog_13_method_31_code 82 = .ok (.iload_n 1, 1) := by decide +kernel
theorem d_M_take_83 : decode prog_13_method_31_code 83 = .ok (.bipush 27, 2) := by decide +kernel
theorem d_M_take_85 : decode prog_13_method_31_code 85 = .ok (.if_icmp .eq 14, 3) := by decide +kernel
theorem d_M_take_88 : decode prog_13_method_31_code 88 = .ok (.aload_n 0, 1) := by decide +kernel
theorem d_M_take_89 : decode prog_13_method_31_code 89 = .ok (.iconst 0, 1) := by decide +kernel
theorem d_M_take_90 : decode prog_13_method_31_code 90 = .ok (.putfield 181, 3) := by decide +kernel
theorem d_M_take_93 : decode prog_13_method_31_code 93 = .ok (.aload_n 0, 1) := by decide +kernel
theorem d_M_take_94 : decode prog_13_method_31_code 94 = .ok (.iload_n 1, 1) := by decide +kernel
theorem d_M_take_95 : decode prog_13_method_31_code 95 = .ok (.iload_n 2, 1) := by decide +kernel
theorem d_M_take_96 : decode prog_13_method_31_code 96 = .ok (.invokevirtual 200, 3) := by decide +kernel
theorem d_M_take_99 : decode prog_13_method_31_code 99 = .ok (.return_, 1) := by decide +kernel
theorem d_M_type_0 : decode prog_13_method_32_code 0 = .ok (.iload_n 3, 1) := by decide +kernel
theorem d_M_type_1 : decode prog_13_method_32_code 1 = .ok (.iconst 1, 1) := by decide +kernel
theorem d_M_type_2 : decode prog_13_method_32_code 2 = .ok (.if_icmp .lt 9, 3) := by decide +kernel
theorem d_M_type_5 : decode prog_13_method_32_code 5 = .ok (.iload_n 3, 1) := by decide +kernel
theorem d_M_type_6 : decode prog_13_method_32_code 6 = .ok (.bipush 8, 2) := by decide +kernel
theorem d_M_type_8 : decode prog_13_method_32_code 8 = .ok (.if_icmp .le 5, 3) := by decide +kernel
theorem d_M_type_11 : decode prog_13_method_32_code 11 = .ok (.iconst (-1), 1) := by decide +kernel
theorem d_M_type_12 : decode prog_13_method_32_code 12 = .ok (.ireturn, 1) := by decide +kernel
theorem d_M_type_13 : decode prog_13_method_32_code 13 = .ok (.iconst 0, 1) := by decide +kernel
theorem d_M_type_14 : decode prog_13_method_32_code 14 = .ok (.istore 4, 2) := by decide +kernel
theorem d_M_type_16 : decode prog_13_method_32_code 16 = .ok (.iload 4, 2) := by decide +kernel
theorem d_M_type_18 : decode prog_13_method_32_code 18 = .ok (.iload_n 3, 1) := by decide +kernel
theorem d_M_type_19 : decode prog_13_method_32_code 19 = .ok (.if_icmp .ge 25, 3) := by decide +kernel
theorem d_M_type_22 : decode prog_13_method_32_code 22 = .ok (.aload_n 0, 1) := by decide +kernel
theorem d_M_type_23 : decode prog_13_method_32_code 23 = .ok (.lload_n 1, 1) := by decide +kernel
theorem d_M_type_24 : decode prog_13_method_32_code 24 = .ok (.bipush 8, 2) := by decide +kernel
theorem d_M_type_26 : decode prog_13_method_32_code 26 = .ok (.iload 4, 2) := by decide +kernel
theorem d_M_type_28 : decode prog_13_method_32_code 28 = .ok (.imul, 1) := by decide +kernel
theorem d_M_type_29 : decode prog_13_method_32_code 29 = .ok (.lshr, 1) := by decide +kernel
theorem d_M_type_30 : decode prog_13_method_32_code 30 = .ok (.ldc2_w 215, 3) := by decide +kernel
theorem d_M_type_33 : decode prog_13_method_32_code 33 = .ok (.land, 1) := by decide +kernel
theorem d_M_type_34 : decode prog_13_method_32_code 34 = .ok (.l2i, 1) := by decide +kernel
theorem d_M_type_35 : decode prog_13_method_32_code 35 = .ok (.invokevirtual 217, 3) := by decide +kernel
theorem d_M_type_38 : decode prog_13_method_32_code 38 = .ok (.iinc 4 1, 3) := by decide +kernel
theorem d_M_type_41 : decode prog_13_method_32_code 41 = .ok (.goto (-25), 3) := by decide +kernel
theorem d_M_type_44 : decode prog_13_method_32_code 44 = .ok (.aload_n 0, 1) := by decide +kernel
theorem d_M_type_45 : decode prog_13_method_32_code 45 = .ok (.getfield 87, 3) := by decide +kernel
theorem d_M_type_48 : decode prog_13_method_32_code 48 = .ok (.ireturn, 1) := by decide +kernel
theorem d_M_tick_0 : decode prog_13_method_33_code 0 = .ok (.aload_n 0, 1) := by decide +kernel
theorem d_M_tick_1 : decode prog_13_method_33_code 1 = .ok (.getfield 184, 3) := by decide +kernel
theorem d_M_tick_4 : decode prog_13_method_33_code 4 = .ok (.ifCond .le 17, 3) := by decide +kernel
theorem d_M_tick_7 : decode prog_13_method_33_code 7 = .ok (.aload_n 0, 1) := by decide +kernel
theorem d_M_tick_8 : decode prog_13_method_33_code 8 = .ok (.iconst 0, 1) := by decide +kernel
theorem d_M_tick_9 : decode prog_13_method_33_code 9 = .ok (.putfield 184, 3) := by decide +kernel
theorem d_M_tick_12 : decode prog_13_method_33_code 12 = .ok (.aload_n 0, 1) := by decide +kernel
theorem d_M_tick_13 : decode prog_13_method_33_code 13 = .ok (.ldc 196, 2) := by decide +kernel
theorem d_M_tick_15 : decode prog_13_method_33_code 15 = .ok (.invokevirtual 144, 3) := by decide +kernel
theorem d_M_tick_18 : decode prog_13_method_33_code 18 = .ok (.goto 36, 3) := by decide +kernel
theorem d_M_tick_21 : decode prog_13_method_33_code 21 = .ok (.aload_n 0, 1) := by decide +kernel
theorem d_M_tick_22 : decode prog_13_method_33_code 22 = .ok (.getfield 181, 3) := by decide +kernel
theorem d_M_tick_25 : decode prog_13_method_33_code 25 = .ok (.iconst 1, 1) := by decide +kernel
theorem d_M_tick_26 : decode prog_13_method_33_code 26 = .ok (.if_icmp .ne 15, 3) := by decide +kernel
theorem d_M_tick_29 : decode prog_13_method_33_code 29 = .ok (.aload_n 0, 1) := by decide +kernel
theorem d_M_tick_30 : decode prog_13_method_33_code 30 = .ok (.iconst 0, 1) := by decide +kernel
theorem d_M_tick_31 : decode prog_13_method_33_code 31 = .ok (.putfield 181, 3) := by decide +kernel
theorem d_M_tick_34 : decode prog_13_method_33_code 34 = .ok (.aload_n 0, 1) := by decide +kernel
theorem d_M_tick_35 : decode prog_13_method_33_code 35 = .ok (.invokevirtual 212, 3) := by decide +kernel
theorem d_M_tick_38 : decode prog_13_method_33_code 38 = .ok (.goto 16, 3) := by decide +kernel
theorem d_M_tick_41 : decode prog_13_method_33_code 41 = .ok (.aload_n 0, 1) := by decide +kernel
theorem d_M_tick_42 : decode prog_13_method_33_code 42 = .ok (.getfield 181, 3) := by decide +kernel
theorem d_M_tick_45 : decode prog_13_method_33_code 45 = .ok (.iconst 2, 1) := by decide +kernel
theorem d_M_tick_46 : decode prog_13_method_33_code 46 = .ok (.if_icmp .ne 8, 3) := by decide +kernel
theorem d_M_tick_49 : decode prog_13_method_33_code 49 = .ok (.aload_n 0, 1) := by decide +kernel
theorem d_M_tick_50 : decode prog_13_method_33_code 50 = .ok (.iconst 0, 1) := by decide +kernel
theorem d_M_tick_51 : decode prog_13_method_33_code 51 = .ok (.putfield 181, 3) := by decide +kernel
theorem d_M_tick_54 : decode prog_13_method_33_code 54 = .ok (.aload_n 0, 1) := by decide +kernel
theorem d_M_tick_55 : decode prog_13_method_33_code 55 = .ok (.getfield 87, 3) := by decide +kernel
theorem d_M_tick_58 : decode prog_13_method_33_code 58 = .ok (.ireturn, 1) := by decide +kernel
theorem d_M_clusterAt_0 : decode prog_13_method_34_code 0 = .ok (.aload_n 0, 1) := by decide +kernel
theorem d_M_clusterAt_1 : decode prog_13_method_34_code 1 = .ok (.getfield 7, 3) := by decide +kernel
theorem d_M_clusterAt_4 : decode prog_13_method_34_code 4 = .ok (.iload_n 1, 1) := by decide +kernel
theorem d_M_clusterAt_5 : decode prog_13_method_34_code 5 = .ok (.iaload, 1) := by decide +kernel
theorem d_M_clusterAt_6 : decode prog_13_method_34_code 6 = .ok (.istore_n 2, 1) := by decide +kernel
theorem d_M_clusterAt_7 : decode prog_13_method_34_code 7 = .ok (.aload_n 0, 1) := by decide +kernel
theorem d_M_clusterAt_8 : decode prog_13_method_34_code 8 = .ok (.iload_n 1, 1) := by decide +kernel
theorem d_M_clusterAt_9 : decode prog_13_method_34_code 9 = .ok (.invokevirtual 107, 3) := by decide +kernel
theorem d_M_clusterAt_12 : decode prog_13_method_34_code 12 = .ok (.istore_n 3, 1) := by decide +kernel
theorem d_M_clusterAt_13 : decode prog_13_method_34_code 13 = .ok (.iload_n 3, 1) := by decide +kernel
theorem d_M_clusterAt_14 : decode prog_13_method_34_code 14 = .ok (.iload_n 1, 1) := by decide +kernel
theorem d_M_clusterAt_15 : decode prog_13_method_34_code 15 = .ok (.isub, 1) := by decide +kernel
theorem d_M_clusterAt_16 : decode prog_13_method_34_code 16 = .ok (.iconst 1, 1) := by decide +kernel
theorem d_M_clusterAt_17 : decode prog_13_method_34_code 17 = .ok (.if_icmp .le 21, 3) := by decide +kernel
theorem d_M_clusterAt_20 : decode prog_13_method_34_code 20 = .ok (.iload_n 2, 1) := by decide +kernel
theorem d_M_clusterAt_21 : decode prog_13_method_34_code 21 = .ok (.ldc 220, 2) := by decide +kernel
theorem d_M_clusterAt_23 : decode prog_13_method_34_code 23 = .ok (.aload_n 0, 1) := by decide +kernel
theorem d_M_clusterAt_24 : decode prog_13_method_34_code 24 = .ok (.getfield 7, 3) := by decide +kernel
theorem d_M_clusterAt_27 : decode prog_13_method_34_code 27 = .ok (.iload_n 1, 1) := by decide +kernel
theorem d_M_clusterAt_28 : decode prog_13_method_34_code 28 = .ok (.iconst 1, 1) := by decide +kernel
theorem d_M_clusterAt_29 : decode prog_13_method_34_code 29 = .ok (.iadd, 1) := by decide +kernel
theorem d_M_clusterAt_30 : decode prog_13_method_34_code 30 = .ok (.iaload, 1) := by decide +kernel
theorem d_M_clusterAt_31 : decode prog_13_method_34_code 31 = .ok (.sipush 767, 3) := by decide +kernel
theorem d_M_clusterAt_34 : decode prog_13_method_34_code 34 = .ok (.isub, 1) := by decide +kernel
theorem d_M_clusterAt_35 : decode prog_13_method_34_code 35 = .ok (.imul, 1) := by decide +kernel
theorem d_M_clusterAt_36 : decode prog_13_method_34_code 36 = .ok (.iadd, 1) := by decide +kernel
theorem d_M_clusterAt_37 : decode prog_13_method_34_code 37 = .ok (.istore_n 2, 1) := by decide +kernel
theorem d_M_clusterAt_38 : decode prog_13_method_34_code 38 = .ok (.iload_n 3, 1) := by decide +kernel
theorem d_M_clusterAt_39 : decode prog_13_method_34_code 39 = .ok (.iload_n 1, 1) := by decide +kernel
theorem d_M_clusterAt_40 : decode prog_13_method_34_code 40 = .ok (.isub, 1) := by decide +kernel
theorem d_M_clusterAt_41 : decode prog_13_method_34_code 41 = .ok (.iconst 2, 1) := by decide +kernel
theorem d_M_clusterAt_42 : decode prog_13_method_34_code 42 = .ok (.if_icmp .le 21, 3) := by decide +kernel
theorem d_M_clusterAt_45 : decode prog_13_method_34_code 45 = .ok (.iload_n 2, 1) := by decide +kernel
theorem d_M_clusterAt_46 : decode prog_13_method_34_code 46 = .ok (.ldc 221, 2) := by decide +kernel
theorem d_M_clusterAt_48 : decode prog_13_method_34_code 48 = .ok (.aload_n 0, 1) := by decide +kernel
theorem d_M_clusterAt_49 : decode prog_13_method_34_code 49 = .ok (.getfield 7, 3) := by decide +kernel
theorem d_M_clusterAt_52 : decode prog_13_method_34_code 52 = .ok (.iload_n 1, 1) := by decide +kernel
theorem d_M_clusterAt_53 : decode prog_13_method_34_code 53 = .ok (.iconst 2, 1) := by decide +kernel
theorem d_M_clusterAt_54 : decode prog_13_method_34_code 54 = .ok (.iadd, 1) := by decide +kernel
theorem d_M_clusterAt_55 : decode prog_13_method_34_code 55 = .ok (.iaload, 1) := by decide +kernel
theorem d_M_clusterAt_56 : decode prog_13_method_34_code 56 = .ok (.sipush 767, 3) := by decide +kernel
theorem d_M_clusterAt_59 : decode prog_13_method_34_code 59 = .ok (.isub, 1) := by decide +kernel
theorem d_M_clusterAt_60 : decode prog_13_method_34_code 60 = .ok (.imul, 1) := by decide +kernel
theorem d_M_clusterAt_61 : decode prog_13_method_34_code 61 = .ok (.iadd, 1) := by decide +kernel
theorem d_M_clusterAt_62 : decode prog_13_method_34_code 62 = .ok (.istore_n 2, 1) := by decide +kernel
theorem d_M_clusterAt_63 : decode prog_13_method_34_code 63 = .ok (.iload_n 2, 1) := by decide +kernel
theorem d_M_clusterAt_64 : decode prog_13_method_34_code 64 = .ok (.ireturn, 1) := by decide +kernel
theorem d_M_fillText_0 : decode prog_13_method_35_code 0 = .ok (.aload_n 0, 1) := by decide +kernel
theorem d_M_fillText_1 : decode prog_13_method_35_code 1 = .ok (.getfield 13, 3) := by decide +kernel
theorem d_M_fillText_4 : decode prog_13_method_35_code 4 = .ok (.aload_n 0, 1) := by decide +kernel
theorem d_M_fillText_5 : decode prog_13_method_35_code 5 = .ok (.getfield 117, 3) := by decide +kernel
theorem d_M_fillText_8 : decode prog_13_method_35_code 8 = .ok (.if_icmp .ge 10, 3) := by decide +kernel
theorem d_M_fillText_11 : decode prog_13_method_35_code 11 = .ok (.aload_n 0, 1) := by decide +kernel
theorem d_M_fillText_12 : decode prog_13_method_35_code 12 = .ok (.getfield 13, 3) := by decide +kernel
theorem d_M_fillText_15 : decode prog_13_method_35_code 15 = .ok (.goto 7, 3) := by decide +kernel
theorem d_M_fillText_18 : decode prog_13_method_35_code 18 = .ok (.aload_n 0, 1) := by decide +kernel
theorem d_M_fillText_19 : decode prog_13_method_35_code 19 = .ok (.getfield 117, 3) := by decide +kernel
theorem d_M_fillText_22 : decode prog_13_method_35_code 22 = .ok (.istore_n 1, 1) := by decide +kernel
theorem d_M_fillText_23 : decode prog_13_method_35_code 23 = .ok (.aload_n 0, 1) := by decide +kernel
theorem d_M_fillText_24 : decode prog_13_method_35_code 24 = .ok (.getfield 13, 3) := by decide +kernel
theorem d_M_fillText_27 : decode prog_13_method_35_code 27 = .ok (.aload_n 0, 1) := by decide +kernel
theorem d_M_fillText_28 : decode prog_13_method_35_code 28 = .ok (.getfield 117, 3) := by decide +kernel
theorem d_M_fillText_31 : decode prog_13_method_35_code 31 = .ok (.if_icmp .ge 10, 3) := by decide +kernel
theorem d_M_fillText_34 : decode prog_13_method_35_code 34 = .ok (.aload_n 0, 1) := by decide +kernel
theorem d_M_fillText_35 : decode prog_13_method_35_code 35 = .ok (.getfield 117, 3) := by decide +kernel
theorem d_M_fillText_38 : decode prog_13_method_35_code 38 = .ok (.goto 7, 3) := by decide +kernel
theorem d_M_fillText_41 : decode prog_13_method_35_code 41 = .ok (.aload_n 0, 1) := by decide +kernel
theorem d_M_fillText_42 : decode prog_13_method_35_code 42 = .ok (.getfield 13, 3) := by decide +kernel
theorem d_M_fillText_45 : decode prog_13_method_35_code 45 = .ok (.istore_n 2, 1) := by decide +kernel
theorem d_M_fillText_46 : decode prog_13_method_35_code 46 = .ok (.iconst 0, 1) := by decide +kernel
theorem d_M_fillText_47 : decode prog_13_method_35_code 47 = .ok (.istore_n 3, 1) := by decide +kernel
theorem d_M_fillText_48 : decode prog_13_method_35_code 48 = .ok (.iload_n 3, 1) := by decide +kernel
theorem d_M_fillText_49 : decode prog_13_method_35_code 49 = .ok (.aload_n 0, 1) := by decide +kernel
theorem d_M_fillText_50 : decode prog_13_method_35_code 50 = .ok (.getfield 87, 3) := by decide +kernel
theorem d_M_fillText_53 : decode prog_13_method_35_code 53 = .ok (.if_icmp .gt 193, 3) := by decide +kernel
theorem d_M_fillText_56 : decode prog_13_method_35_code 56 = .ok (.aload_n 0, 1) := by decide +kernel
theorem d_M_fillText_57 : decode prog_13_method_35_code 57 = .ok (.iload_n 3, 1) := by decide +kernel
theorem d_M_fillText_58 : decode prog_13_method_35_code 58 = .ok (.invokevirtual 94, 3) := by decide +kernel
theorem d_M_fillText_61 : decode prog_13_method_35_code 61 = .ok (.ifCond .eq 17, 3) := by decide +kernel
theorem d_M_fillText_64 : decode prog_13_method_35_code 64 = .ok (.aload_n 0, 1) := by decide +kernel
theorem d_M_fillText_65 : decode prog_13_method_35_code 65 = .ok (.getfield 41, 3) := by decide +kernel
theorem d_M_fillText_68 : decode prog_13_method_35_code 68 = .ok (.iload_n 3, 1) := by decide +kernel
theorem d_M_fillText_69 : decode prog_13_method_35_code 69 = .ok (.iaload, 1) := by decide +kernel
theorem d_M_fillText_70 : decode prog_13_method_35_code 70 = .ok (.aload_n 0, 1) := by decide +kernel
theorem d_M_fillText_71 : decode prog_13_method_35_code 71 = .ok (.getfield 222, 3) := by decide +kernel
theorem d_M_fillText_74 : decode prog_13_method_35_code 74 = .ok (.isub, 1) := by decide +kernel
theorem d_M_fillText_75 : decode prog_13_method_35_code 75 = .ok (.goto 4, 3) := by decide +kernel
theorem d_M_fillText_78 : decode prog_13_method_35_code 78 = .ok (.iconst (-1), 1) := by decide +kernel
theorem d_M_fillText_79 : decode prog_13_method_35_code 79 = .ok (.istore 4, 2) := by decide +kernel
theorem d_M_fillText_81 : decode prog_13_method_35_code 81 = .ok (.iload 4, 2) := by decide +kernel
theorem d_M_fillText_83 : decode prog_13_method_35_code 83 = .ok (.ifCond .lt 157, 3) := by decide +kernel
theorem d_M_fillText_86 : decode prog_13_method_35_code 86 = .ok (.iload 4, 2) := by decide +kernel
theorem d_M_fillText_88 : decode prog_13_method_35_code 88 = .ok (.aload_n 0, 1) := by decide +kernel
theorem d_M_fillText_89 : decode prog_13_method_35_code 89 = .ok (.getfield 81, 3) := by decide +kernel
theorem d_M_fillText_92 : decode prog_13_method_35_code 92 = .ok (.iconst 1, 1) := by decide +kernel
theorem d_M_fillText_93 : decode prog_13_method_35_code 93 = .ok (.isub, 1) := by decide +kernel
theorem d_M_fillText_94 : decode prog_13_method_35_code 94 = .ok (.if_icmp .ge 146, 3) := by decide +kernel
theorem d_M_fillText_97 : decode prog_13_method_35_code 97 = .ok (.aload_n 0, 1) := by decide +kernel
theorem d_M_fillText_98 : decode prog_13_method_35_code 98 = .ok (.getfield 78, 3) := by decide +kernel
theorem d_M_fillText_101 : decode prog_13_method_35_code 101 = .ok (.iload 4, 2) := by decide +kernel
theorem d_M_fillText_103 : decode prog_13_method_35_code 103 = .ok (.imul, 1) := by decide +kernel
theorem d_M_fillText_104 : decode prog_13_method_35_code 104 = .ok (.aload_n 0, 1) := by decide +kernel
theorem d_M_fillText_105 : decode prog_13_method_35_code 105 = .ok (.getfield 44, 3) := by decide +kernel
theorem d_M_fillText_108 : decode prog_13_method_35_code 108 = .ok (.iload_n 3, 1) := by decide +kernel
theorem d_M_fillText_109 : decode prog_13_method_35_code 109 = .ok (.iaload, 1) := by decide +kernel
theorem d_M_fillText_110 : decode prog_13_method_35_code 110 = .ok (.iadd, 1) := by decide +kernel
theorem d_M_fillText_111 : decode prog_13_method_35_code 111 = .ok (.istore 5, 2) := by decide +kernel
theorem d_M_fillText_113 : decode prog_13_method_35_code 113 = .ok (.iload_n 3, 1) := by decide +kernel
theorem d_M_fillText_114 : decode prog_13_method_35_code 114 = .ok (.aload_n 0, 1) := by decide +kernel
theorem d_M_fillText_115 : decode prog_13_method_35_code 115 = .ok (.getfield 87, 3) := by decide +kernel
theorem d_M_fillText_118 : decode prog_13_method_35_code 118 = .ok (.if_icmp .eq 25, 3) := by decide +kernel
theorem d_M_fillText_121 : decode prog_13_method_35_code 121 = .ok (.aload_n 0, 1) := by decide +kernel
theorem d_M_fillText_122 : decode prog_13_method_35_code 122 = .ok (.getfield 7, 3) := by decide +kernel
theorem d_M_fillText_125 : decode prog_13_method_35_code 125 = .ok (.iload_n 3, 1) := by decide +kernel
theorem d_M_fillText_126 : decode prog_13_method_35_code 126 = .ok (.iaload, 1) := by decide +kernel
theorem d_M_fillText_127 : decode prog_13_method_35_code 127 = .ok (.bipush 9, 2) := by decide +kernel
theorem d_M_fillText_129 : decode prog_13_method_35_code 129 = .ok (.if_icmp .eq 14, 3) := by decide +kernel
theorem d_M_fillText_132 : decode prog_13_method_35_code 132 = .ok (.aload_n 0, 1) := by decide +kernel
theorem d_M_fillText_133 : decode prog_13_method_35_code 133 = .ok (.getfield 7, 3) := by decide +kernel
theorem d_M_fillText_136 : decode prog_13_method_35_code 136 = .ok (.iload_n 3, 1) := by decide +kernel
theorem d_M_fillText_137 : decode prog_13_method_35_code 137 = .ok (.iaload, 1) := by decide +kernel
theorem d_M_fillText_138 : decode prog_13_method_35_code 138 = .ok (.bipush 10, 2) := by decide +kernel
theorem d_M_fillText_140 : decode prog_13_method_35_code 140 = .ok (.if_icmp .ne 7, 3) := by decide +kernel
theorem d_M_fillText_143 : decode prog_13_method_35_code 143 = .ok (.iconst 1, 1) := by decide +kernel
theorem d_M_fillText_144 : decode prog_13_method_35_code 144 = .ok (.goto 4, 3) := by decide +kernel
theorem d_M_fillText_147 : decode prog_13_method_35_code 147 = .ok (.iconst 0, 1) := by decide +kernel
theorem d_M_fillText_148 : decode prog_13_method_35_code 148 = .ok (.istore 6, 2) := by decide +kernel
theorem d_M_fillText_150 : decode prog_13_method_35_code 150 = .ok (.aload_n 0, 1) := by decide +kernel
theorem d_M_fillText_151 : decode prog_13_method_35_code 151 = .ok (.getfield 13, 3) := by decide +kernel
theorem d_M_fillText_154 : decode prog_13_method_35_code 154 = .ok (.ifCond .lt 17, 3) := by decide +kernel
theorem d_M_fillText_157 : decode prog_13_method_35_code 157 = .ok (.iload_n 3, 1) := by decide +kernel
theorem d_M_fillText_158 : decode prog_13_method_35_code 158 = .ok (.iload_n 1, 1) := by decide +kernel
theorem d_M_fillText_159 : decode prog_13_method_35_code 159 = .ok (.if_icmp .lt 12, 3) := by decide +kernel
theorem d_M_fillText_162 : decode prog_13_method_35_code 162 = .ok (.iload_n 3, 1) := by decide +kernel
theorem d_M_fillText_163 : decode prog_13_method_35_code 163 = .ok (.iload_n 2, 1) := by decide +kernel
theorem d_M_fillText_164 : decode prog_13_method_35_code 164 = .ok (.if_icmp .ge 7, 3) := by decide +kernel
theorem d_M_fillText_167 : decode prog_13_method_35_code 167 = .ok (.iconst 2, 1) := by decide +kernel
theorem d_M_fillText_168 : decode prog_13_method_35_code 168 = .ok (.goto 4, 3) := by decide +kernel
theorem d_M_fillText_171 : decode prog_13_method_35_code 171 = .ok (.iconst 0, 1) := by decide +kernel
theorem d_M_fillText_172 : decode prog_13_method_35_code 172 = .ok (.istore 7, 2) := by decide +kernel
theorem d_M_fillText_174 : decode prog_13_method_35_code 174 = .ok (.iconst 0, 1) := by decide +kernel
theorem d_M_fillText_175 : decode prog_13_method_35_code 175 = .ok (.istore 8, 2) := by decide +kernel
theorem d_M_fillText_177 : decode prog_13_method_35_code 177 = .ok (.iload 8, 2) := by decide +kernel
theorem d_M_fillText_179 : decode prog_13_method_35_code 179 = .ok (.aload_n 0, 1) := by decide +kernel
theorem d_M_fillText_180 : decode prog_13_method_35_code 180 = .ok (.getfield 47, 3) := by decide +kernel
theorem d_M_fillText_183 : decode prog_13_method_35_code 183 = .ok (.iload_n 3, 1) := by decide +kernel
theorem d_M_fillText_184 : decode prog_13_method_35_code 184 = .ok (.iaload, 1) := by decide +kernel
theorem d_M_fillText_185 : decode prog_13_method_35_code 185 = .ok (.if_icmp .ge 55, 3) := by decide +kernel
theorem d_M_fillText_188 : decode prog_13_method_35_code 188 = .ok (.aload_n 0, 1) := by decide +kernel
theorem d_M_fillText_189 : decode prog_13_method_35_code 189 = .ok (.getfield 50, 3) := by decide +kernel
theorem d_M_fillText_192 : decode prog_13_method_35_code 192 = .ok (.iload 5, 2) := by decide +kernel
theorem d_M_fillText_194 : decode prog_13_method_35_code 194 = .ok (.iload 8, 2) := by decide +kernel
theorem d_M_fillText_196 : decode prog_13_method_35_code 196 = .ok (.iadd, 1) := by decide +kernel
theorem d_M_fillText_197 : decode prog_13_method_35_code 197 = .ok (.iload 6, 2) := by decide +kernel
theorem d_M_fillText_199 : decode prog_13_method_35_code 199 = .ok (.ifCond .eq 8, 3) := by decide +kernel
theorem d_M_fillText_202 : decode prog_13_method_35_code 202 = .ok (.bipush 32, 2) := by decide +kernel
theorem d_M_fillText_204 : decode prog_13_method_35_code 204 = .ok (.goto 17, 3) := by decide +kernel
theorem d_M_fillText_207 : decode prog_13_method_35_code 207 = .ok (.iload 8, 2) := by decide +kernel
theorem d_M_fillText_209 : decode prog_13_method_35_code 209 = .ok (.ifCond .ne 11, 3) := by decide +kernel
theorem d_M_fillText_212 : decode prog_13_method_35_code 212 = .ok (.aload_n 0, 1) := by decide +kernel
theorem d_M_fillText_213 : decode prog_13_method_35_code 213 = .ok (.iload_n 3, 1) := by decide +kernel
theorem d_M_fillText_214 : decode prog_13_method_35_code 214 = .ok (.invokevirtual 225, 3) := by decide +kernel
theorem d_M_fillText_217 : decode prog_13_method_35_code 217 = .ok (.goto 4, 3) := by decide +kernel
theorem d_M_fillText_220 : decode prog_13_method_35_code 220 = .ok (.iconst 0, 1) := by decide +kernel
theorem d_M_fillText_221 : decode prog_13_method_35_code 221 = .ok (.iastore, 1) := by decide +kernel
theorem d_M_fillText_222 : decode prog_13_method_35_code 222 = .ok (.aload_n 0, 1) := by decide +kernel
theorem d_M_fillText_223 : decode prog_13_method_35_code 223 = .ok (.getfield 53, 3) := by decide +kernel
theorem d_M_fillText_226 : decode prog_13_method_35_code 226 = .ok (.iload 5, 2) := by decide +kernel
theorem d_M_fillText_228 : decode prog_13_method_35_code 228 = .ok (.iload 8, 2) := by decide +kernel
theorem d_M_fillText_230 : decode prog_13_method_35_code 230 = .ok (.iadd, 1) := by decide +kernel
theorem d_M_fillText_231 : decode prog_13_method_35_code 231 = .ok (.iload 7, 2) := by decide +kernel
theorem d_M_fillText_233 : decode prog_13_method_35_code 233 = .ok (.iastore, 1) := by decide +kernel
theorem d_M_fillText_234 : decode prog_13_method_35_code 234 = .ok (.iinc 8 1, 3) := by decide +kernel
theorem d_M_fillText_237 : decode prog_13_method_35_code 237 = .ok (.goto (-60), 3) := by decide +kernel
theorem d_M_fillText_240 : decode prog_13_method_35_code 240 = .ok (.iinc 3 1, 3) := by decide +kernel
theorem d_M_fillText_243 : decode prog_13_method_35_code 243 = .ok (.goto (-195), 3) := by decide +kernel
theorem d_M_fillText_246 : decode prog_13_method_35_code 246 = .ok (.return_, 1) := by decide +kernel
theorem d_M_status_0 : decode prog_13_method_36_code 0 = .ok (.iload_n 1, 1) := by decide +kernel
theorem d_M_status_1 : decode prog_13_method_36_code 1 = .ok (.aload_n 0, 1) := by decide +kernel
theorem d_M_status_2 : decode prog_13_method_36_code 2 = .ok (.getfield 78, 3) := by decide +kernel
theorem d_M_status_5 : decode prog_13_method_36_code 5 = .ok (.if_icmp .ge 22, 3) := by decide +kernel
theorem d_M_status_8 : decode prog_13_method_36_code 8 = .ok (.aload_n 0, 1) := by decide +kernel
theorem d_M_status_9 : decode prog_13_method_36_code 9 = .ok (.getfield 50, 3) := by decide +kernel
theorem d_M_status_12 : decode prog_13_method_36_code 12 = .ok (.aload_n 0, 1) := by decide +kernel
theorem d_M_status_13 : decode prog_13_method_36_code 13 = .ok (.getfield 78, 3) := by decide +kernel
theorem d_M_status_16 : decode prog_13_method_36_code 16 = .ok (.aload_n 0, 1) := by decide +kernel
theorem d_M_status_17 : decode prog_13_method_36_code 17 = .ok (.getfield 81, 3) := by decide +kernel
theorem d_M_status_20 : decode prog_13_method_36_code 20 = .ok (.iconst 1, 1) := by decide +kernel
theorem d_M_status_21 : decode prog_13_method_36_code 21 = .ok (.isub, 1) := by decide +kernel
theorem d_M_status_22 : decode prog_13_method_36_code 22 = .ok (.imul, 1) := by decide +kernel
theorem d_M_status_23 : decode prog_13_method_36_code 23 = .ok (.iload_n 1, 1) := by decide +kernel
theorem d_M_status_24 : decode prog_13_method_36_code 24 = .ok (.iadd, 1) := by decide +kernel
theorem d_M_status_25 : decode prog_13_method_36_code 25 = .ok (.iload_n 2, 1) := by decide +kernel
theorem d_M_status_26 : decode prog_13_method_36_code 26 = .ok (.iastore, 1) := by decide +kernel
theorem d_M_status_27 : decode prog_13_method_36_code 27 = .ok (.iload_n 1, 1) := by decide +kernel
theorem d_M_status_28 : decode prog_13_method_36_code 28 = .ok (.iconst 1, 1) := by decide +kernel
theorem d_M_status_29 : decode prog_13_method_36_code 29 = .ok (.iadd, 1) := by decide +kernel
theorem d_M_status_30 : decode prog_13_method_36_code 30 = .ok (.ireturn, 1) := by decide +kernel
theorem d_M_statusNumber_0 : decode prog_13_method_37_code 0 = .ok (.iconst 1, 1) := by decide +kernel
theorem d_M_statusNumber_1 : decode prog_13_method_37_code 1 = .ok (.istore_n 3, 1) := by decide +kernel
theorem d_M_statusNumber_2 : decode prog_13_method_37_code 2 = .ok (.iload_n 3, 1) := by decide +kernel
theorem d_M_statusNumber_3 : decode prog_13_method_37_code 3 = .ok (.bipush 10, 2) := by decide +kernel
theorem d_M_statusNumber_5 : decode prog_13_method_37_code 5 = .ok (.imul, 1) := by decide +kernel
theorem d_M_statusNumber_6 : decode prog_13_method_37_code 6 = .ok (.iload_n 2, 1) := by decide +kernel
theorem d_M_statusNumber_7 : decode prog_13_method_37_code 7 = .ok (.if_icmp .gt 11, 3) := by decide +kernel
theorem d_M_statusNumber_10 : decode prog_13_method_37_code 10 = .ok (.iload_n 3, 1) := by decide +kernel
theorem d_M_statusNumber_11 : decode prog_13_method_37_code 11 = .ok (.bipush 10, 2) := by decide +kernel
theorem d_M_statusNumber_13 : decode prog_13_method_37_code 13 = .ok (.imul, 1) := by decide +kernel
theorem d_M_statusNumber_14 : decode prog_13_method_37_code 14 = .ok (.istore_n 3, 1) := by decide +kernel
theorem d_M_statusNumber_15 : decode prog_13_method_37_code 15 = .ok (.goto (-13), 3) := by decide +kernel
theorem d_M_statusNumber_18 : decode prog_13_method_37_code 18 = .ok (.iload_n 1, 1) := by decide +kernel
theorem d_M_statusNumber_19 : decode prog_13_method_37_code 19 = .ok (.istore 4, 2) := by decide +kernel
theorem d_M_statusNumber_21 : decode prog_13_method_37_code 21 = .ok (.iload_n 3, 1) := by decide +kernel
theorem d_M_statusNumber_22 : decode prog_13_method_37_code 22 = .ok (.ifCond .le 28, 3) := by decide +kernel
theorem d_M_statusNumber_25 : decode prog_13_method_37_code 25 = .ok (.aload_n 0, 1) := by decide +kernel
theorem d_M_statusNumber_26 : decode prog_13_method_37_code 26 = .ok (.iload 4, 2) := by decide +kernel
theorem d_M_statusNumber_28 : decode prog_13_method_37_code 28 = .ok (.bipush 48, 2) := by decide +kernel
theorem d_M_statusNumber_30 : decode prog_13_method_37_code 30 = .ok (.iload_n 2, 1) := by decide +kernel
theorem d_M_statusNumber_31 : decode prog_13_method_37_code 31 = .ok (.iload_n 3, 1) := by decide +kernel
theorem d_M_statusNumber_32 : decode prog_13_method_37_code 32 = .ok (.idiv, 1) := by decide +kernel
theorem d_M_statusNumber_33 : decode prog_13_method_37_code 33 = .ok (.bipush 10, 2) := by decide +kernel
theorem d_M_statusNumber_35 : decode prog_13_method_37_code 35 = .ok (.irem, 1) := by decide +kernel
theorem d_M_statusNumber_36 : decode prog_13_method_37_code 36 = .ok (.iadd, 1) := by decide +kernel
theorem d_M_statusNumber_37 : decode prog_13_method_37_code 37 = .ok (.invokevirtual 228, 3) := by decide +kernel
theorem d_M_statusNumber_40 : decode prog_13_method_37_code 40 = .ok (.istore 4, 2) := by decide +kernel
theorem d_M_statusNumber_42 : decode prog_13_method_37_code 42 = .ok (.iload_n 3, 1) := by decide +kernel
theorem d_M_statusNumber_43 : decode prog_13_method_37_code 43 = .ok (.bipush 10, 2) := by decide +kernel
theorem d_M_statusNumber_45 : decode prog_13_method_37_code 45 = .ok (.idiv, 1) := by decide +kernel
theorem d_M_statusNumber_46 : decode prog_13_method_37_code 46 = .ok (.istore_n 3, 1) := by decide +kernel
theorem d_M_statusNumber_47 : decode prog_13_method_37_code 47 = .ok (.goto (-26), 3) := by decide +kernel
theorem d_M_statusNumber_50 : decode prog_13_method_37_code 50 = .ok (.iload 4, 2) := by decide +kernel
theorem d_M_statusNumber_52 : decode prog_13_method_37_code 52 = .ok (.ireturn, 1) := by decide +kernel
theorem d_M_fillStatus_0 : decode prog_13_method_38_code 0 = .ok (.iconst 1, 1) := by decide +kernel
theorem d_M_fillStatus_1 : decode prog_13_method_38_code 1 = .ok (.istore_n 1, 1) := by decide +kernel
theorem d_M_fillStatus_2 : decode prog_13_method_38_code 2 = .ok (.iconst 0, 1) := by decide +kernel
theorem d_M_fillStatus_3 : decode prog_13_method_38_code 3 = .ok (.istore_n 2, 1) := by decide +kernel
theorem d_M_fillStatus_4 : decode prog_13_method_38_code 4 = .ok (.iload_n 2, 1) := by decide +kernel
theorem d_M_fillStatus_5 : decode prog_13_method_38_code 5 = .ok (.aload_n 0, 1) := by decide +kernel
theorem d_M_fillStatus_6 : decode prog_13_method_38_code 6 = .ok (.getfield 117, 3) := by decide +kernel
theorem d_M_fillStatus_9 : decode prog_13_method_38_code 9 = .ok (.if_icmp .ge 28, 3) := by decide +kernel
theorem d_M_fillStatus_12 : decode prog_13_method_38_code 12 = .ok (.aload_n 0, 1) := by decide +kernel
theorem d_M_fillStatus_13 : decode prog_13_method_38_code 13 = .ok (.getfield 7, 3) := by decide +kernel
theorem d_M_fillStatus_16 : decode prog_13_method_38_code 16 = .ok (.iload_n 2, 1) := by decide +kernel
theorem d_M_fillStatus_17 : decode prog_13_method_38_code 17 = .ok (.iaload, 1) := by decide +kernel
theorem d_M_fillStatus_18 : decode prog_13_method_38_code 18 = .ok (.bipush 10, 2) := by decide +kernel
theorem d_M_fillStatus_20 : decode prog_13_method_38_code 20 = .ok (.if_icmp .ne 9, 3) := by decide +kernel
theorem d_M_fillStatus_23 : decode prog_13_method_38_code 23 = .ok (.iload_n 1, 1) := by decide +kernel
theorem d_M_fillStatus_24 : decode prog_13_method_38_code 24 = .ok (.iconst 1, 1) := by decide +kernel
theorem d_M_fillStatus_25 : decode prog_13_method_38_code 25 = .ok (.iadd, 1) := by decide +kernel
theorem d_M_fillStatus_26 : decode prog_13_method_38_code 26 = .ok (.goto 4, 3) := by decide +kernel
theorem d_M_fillStatus_29 : decode prog_13_method_38_code 29 = .ok (.iload_n 1, 1) := by decide +kernel
theorem d_M_fillStatus_30 : decode prog_13_method_38_code 30 = .ok (.istore_n 1, 1) := by decide +kernel
theorem d_M_fillStatus_31 : decode prog_13_method_38_code 31 = .ok (.iinc 2 1, 3) := by decide +kernel
theorem d_M_fillStatus_34 : decode prog_13_method_38_code 34 = .ok (.goto (-30), 3) := by decide +kernel
theorem d_M_fillStatus_37 : decode prog_13_method_38_code 37 = .ok (.aload_n 0, 1) := by decide +kernel
theorem d_M_fillStatus_38 : decode prog_13_method_38_code 38 = .ok (.iconst 0, 1) := by decide +kernel
theorem d_M_fillStatus_39 : decode prog_13_method_38_code 39 = .ok (.iload_n 1, 1) := by decide +kernel
theorem d_M_fillStatus_40 : decode prog_13_method_38_code 40 = .ok (.invokevirtual 231, 3) := by decide +kernel
theorem d_M_fillStatus_43 : decode prog_13_method_38_code 43 = .ok (.istore_n 2, 1) := by decide +kernel
theorem d_M_fillStatus_44 : decode prog_13_method_38_code 44 = .ok (.aload_n 0, 1) := by decide +kernel
theorem d_M_fillStatus_45 : decode prog_13_method_38_code 45 = .ok (.iload_n 2, 1) := by decide +kernel
theorem d_M_fillStatus_46 : decode prog_13_method_38_code 46 = .ok (.bipush 58, 2) := by decide +kernel
theorem d_M_fillStatus_48 : decode prog_13_method_38_code 48 = .ok (.invokevirtual 228, 3) := by decide +kernel
theorem d_M_fillStatus_51 : decode prog_13_method_38_code 51 = .ok (.istore_n 2, 1) := by decide +kernel
theorem d_M_fillStatus_52 : decode prog_13_method_38_code 52 = .ok (.aload_n 0, 1) := by decide +kernel
theorem d_M_fillStatus_53 : decode prog_13_method_38_code 53 = .ok (.iload_n 2, 1) := by decide +kernel
theorem d_M_fillStatus_54 : decode prog_13_method_38_code 54 = .ok (.aload_n 0, 1) := by decide +kernel
theorem d_M_fillStatus_55 : decode prog_13_method_38_code 55 = .ok (.getfield 44, 3) := by decide +kernel
theorem d_M_fillStatus_58 : decode prog_13_method_38_code 58 = .ok (.aload_n 0, 1) := by decide +kernel
theorem d_M_fillStatus_59 : decode prog_13_method_38_code 59 = .ok (.getfield 117, 3) := by decide +kernel
theorem d_M_fillStatus_62 : decode prog_13_method_38_code 62 = .ok (.iaload, 1) := by decide +kernel
theorem d_M_fillStatus_63 : decode prog_13_method_38_code 63 = .ok (.iconst 1, 1) := by decide +kernel
theorem d_M_fillStatus_64 : decode prog_13_method_38_code 64 = .ok (.iadd, 1) := by decide +kernel
theorem d_M_fillStatus_65 : decode prog_13_method_38_code 65 = .ok (.invokevirtual 231, 3) := by decide +kernel
theorem d_M_fillStatus_68 : decode prog_13_method_38_code 68 = .ok (.istore_n 2, 1) := by decide +kernel
theorem d_M_fillStatus_69 : decode prog_13_method_38_code 69 = .ok (.aload_n 0, 1) := by decide +kernel
theorem d_M_fillStatus_70 : decode prog_13_method_38_code 70 = .ok (.getfield 111, 3) := by decide +kernel
theorem d_M_fillStatus_73 : decode prog_13_method_38_code 73 = .ok (.ifCond .le 11, 3) := by decide +kernel
theorem d_M_fillStatus_76 : decode prog_13_method_38_code 76 = .ok (.aload_n 0, 1) := by decide +kernel
theorem d_M_fillStatus_77 : decode prog_13_method_38_code 77 = .ok (.iload_n 2, 1) := by decide +kernel
theorem d_M_fillStatus_78 : decode prog_13_method_38_code 78 = .ok (.bipush 42, 2) := by decide +kernel
theorem d_M_fillStatus_80 : decode prog_13_method_38_code 80 = .ok (.invokevirtual 228, 3) := by decide +kernel
theorem d_M_fillStatus_83 : decode prog_13_method_38_code 83 = .ok (.pop, 1) := by decide +kernel
theorem d_M_fillStatus_84 : decode prog_13_method_38_code 84 = .ok (.iconst 0, 1) := by decide +kernel
theorem d_M_fillStatus_85 : decode prog_13_method_38_code 85 = .ok (.istore_n 3, 1) := by decide +kernel
theorem d_M_fillStatus_86 : decode prog_13_method_38_code 86 = .ok (.iload_n 3, 1) := by decide +kernel
theorem d_M_fillStatus_87 : decode prog_13_method_38_code 87 = .ok (.aload_n 0, 1) := by decide +kernel
theorem d_M_fillStatus_88 : decode prog_13_method_38_code 88 = .ok (.getfield 78, 3) := by decide +kernel
theorem d_M_fillStatus_91 : decode prog_13_method_38_code 91 = .ok (.if_icmp .ge 28, 3) := by decide +kernel
theorem d_M_fillStatus_94 : decode prog_13_method_38_code 94 = .ok (.aload_n 0, 1) := by decide +kernel
theorem d_M_fillStatus_95 : decode prog_13_method_38_code 95 = .ok (.getfield 53, 3) := by decide +kernel
theorem d_M_fillStatus_98 : decode prog_13_method_38_code 98 = .ok (.aload_n 0, 1) := by decide +kernel
theorem d_M_fillStatus_99 : decode prog_13_method_38_code 99 = .ok (.getfield 78, 3) := by decide +kernel
theorem d_M_fillStatus_102 : decode prog_13_method_38_code 102 = .ok (.aload_n 0, 1) := by decide +kernel
theorem d_M_fillStatus_103 : decode prog_13_method_38_code 103 = .ok (.getfield 81, 3) := by decide +kernel
theorem d_M_fillStatus_106 : decode prog_13_method_38_code 106 = .ok (.iconst 1, 1) := by decide +kernel
theorem d_M_fillStatus_107 : decode prog_13_method_38_code 107 = .ok (.isub, 1) := by decide +kernel
theorem d_M_fillStatus_108 : decode prog_13_method_38_code 108 = .ok (.imul, 1) := by decide +kernel
theorem d_M_fillStatus_109 : decode prog_13_method_38_code 109 = .ok (.iload_n 3, 1) := by decide +kernel
theorem d_M_fillStatus_110 : decode prog_13_method_38_code 110 = .ok (.iadd, 1) := by decide +kernel
theorem d_M_fillStatus_111 : decode prog_13_method_38_code 111 = .ok (.iconst 1, 1) := by decide +kernel
theorem d_M_fillStatus_112 : decode prog_13_method_38_code 112 = .ok (.iastore, 1) := by decide +kernel
theorem d_M_fillStatus_113 : decode prog_13_method_38_code 113 = .ok (.iinc 3 1, 3) := by decide +kernel
theorem d_M_fillStatus_116 : decode prog_13_method_38_code 116 = .ok (.goto (-30), 3) := by decide +kernel
theorem d_M_fillStatus_119 : decode prog_13_method_38_code 119 = .ok (.return_, 1) := by decide +kernel
theorem d_M_compose_0 : decode prog_13_method_39_code 0 = .ok (.iconst 0, 1) := by decide +kernel
theorem d_M_compose_1 : decode prog_13_method_39_code 1 = .ok (.istore_n 1, 1) := by decide +kernel
theorem d_M_compose_2 : decode prog_13_method_39_code 2 = .ok (.iload_n 1, 1) := by decide +kernel
theorem d_M_compose_3 : decode prog_13_method_39_code 3 = .ok (.sipush 192, 3) := by decide +kernel
theorem d_M_compose_6 : decode prog_13_method_39_code 6 = .ok (.if_icmp .ge 24, 3) := by decide +kernel
theorem d_M_compose_9 : decode prog_13_method_39_code 9 = .ok (.aload_n 0, 1) := by decide +kernel
theorem d_M_compose_10 : decode prog_13_method_39_code 10 = .ok (.getfield 50, 3) := by decide +kernel
theorem d_M_compose_13 : decode prog_13_method_39_code 13 = .ok (.iload_n 1, 1) := by decide +kernel
theorem d_M_compose_14 : decode prog_13_method_39_code 14 = .ok (.bipush 32, 2) := by decide +kernel
theorem d_M_compose_16 : decode prog_13_method_39_code 16 = .ok (.iastore, 1) := by decide +kernel
theorem d_M_compose_17 : decode prog_13_method_39_code 17 = .ok (.aload_n 0, 1) := by decide +kernel
theorem d_M_compose_18 : decode prog_13_method_39_code 18 = .ok (.getfield 53, 3) := by decide +kernel
theorem d_M_compose_21 : decode prog_13_method_39_code 21 = .ok (.iload_n 1, 1) := by decide +kernel
theorem d_M_compose_22 : decode prog_13_method_39_code 22 = .ok (.iconst 0, 1) := by decide +kernel
theorem d_M_compose_23 : decode prog_13_method_39_code 23 = .ok (.iastore, 1) := by decide +kernel
theorem d_M_compose_24 : decode prog_13_method_39_code 24 = .ok (.iinc 1 1, 3) := by decide +kernel
theorem d_M_compose_27 : decode prog_13_method_39_code 27 = .ok (.goto (-25), 3) := by decide +kernel
theorem d_M_compose_30 : decode prog_13_method_39_code 30 = .ok (.aload_n 0, 1) := by decide +kernel
theorem d_M_compose_31 : decode prog_13_method_39_code 31 = .ok (.iconst 0, 1) := by decide +kernel
theorem d_M_compose_32 : decode prog_13_method_39_code 32 = .ok (.putfield 234, 3) := by decide +kernel
theorem d_M_compose_35 : decode prog_13_method_39_code 35 = .ok (.aload_n 0, 1) := by decide +kernel
theorem d_M_compose_36 : decode prog_13_method_39_code 36 = .ok (.iconst 0, 1) := by decide +kernel
theorem d_M_compose_37 : decode prog_13_method_39_code 37 = .ok (.putfield 237, 3) := by decide +kernel
theorem d_M_compose_40 : decode prog_13_method_39_code 40 = .ok (.aload_n 0, 1) := by decide +kernel
theorem d_M_compose_41 : decode prog_13_method_39_code 41 = .ok (.invokevirtual 240, 3) := by decide +kernel
theorem d_M_compose_44 : decode prog_13_method_39_code 44 = .ok (.ifCond .eq 4, 3) := by decide +kernel
theorem d_M_compose_47 : decode prog_13_method_39_code 47 = .ok (.return_, 1) := by decide +kernel
theorem d_M_compose_48 : decode prog_13_method_39_code 48 = .ok (.aload_n 0, 1) := by decide +kernel
theorem d_M_compose_49 : decode prog_13_method_39_code 49 = .ok (.invokevirtual 165, 3) := by decide +kernel
theorem d_M_compose_52 : decode prog_13_method_39_code 52 = .ok (.aload_n 0, 1) := by decide +kernel
theorem d_M_compose_53 : decode prog_13_method_39_code 53 = .ok (.getfield 41, 3) := by decide +kernel
theorem d_M_compose_56 : decode prog_13_method_39_code 56 = .ok (.aload_n 0, 1) := by decide +kernel
theorem d_M_compose_57 : decode prog_13_method_39_code 57 = .ok (.getfield 117, 3) := by decide +kernel
theorem d_M_compose_60 : decode prog_13_method_39_code 60 = .ok (.iaload, 1) := by decide +kernel
theorem d_M_compose_61 : decode prog_13_method_39_code 61 = .ok (.istore_n 1, 1) := by decide +kernel
theorem d_M_compose_62 : decode prog_13_method_39_code 62 = .ok (.iload_n 1, 1) := by decide +kernel
theorem d_M_compose_63 : decode prog_13_method_39_code 63 = .ok (.aload_n 0, 1) := by decide +kernel
theorem d_M_compose_64 : decode prog_13_method_39_code 64 = .ok (.getfield 222, 3) := by decide +kernel
theorem d_M_compose_67 : decode prog_13_method_39_code 67 = .ok (.if_icmp .ge 8, 3) := by decide +kernel
theorem d_M_compose_70 : decode prog_13_method_39_code 70 = .ok (.aload_n 0, 1) := by decide +kernel
theorem d_M_compose_71 : decode prog_13_method_39_code 71 = .ok (.iload_n 1, 1) := by decide +kernel
theorem d_M_compose_72 : decode prog_13_method_39_code 72 = .ok (.putfield 222, 3) := by decide +kernel
theorem d_M_compose_75 : decode prog_13_method_39_code 75 = .ok (.iload_n 1, 1) := by decide +kernel
theorem d_M_compose_76 : decode prog_13_method_39_code 76 = .ok (.aload_n 0, 1) := by decide +kernel
theorem d_M_compose_77 : decode prog_13_method_39_code 77 = .ok (.getfield 222, 3) := by decide +kernel
theorem d_M_compose_80 : decode prog_13_method_39_code 80 = .ok (.aload_n 0, 1) := by decide +kernel
theorem d_M_compose_81 : decode prog_13_method_39_code 81 = .ok (.getfield 81, 3) := by decide +kernel
theorem d_M_compose_84 : decode prog_13_method_39_code 84 = .ok (.iadd, 1) := by decide +kernel
theorem d_M_compose_85 : decode prog_13_method_39_code 85 = .ok (.iconst 1, 1) := by decide +kernel
theorem d_M_compose_86 : decode prog_13_method_39_code 86 = .ok (.isub, 1) := by decide +kernel
theorem d_M_compose_87 : decode prog_13_method_39_code 87 = .ok (.if_icmp .lt 15, 3) := by decide +kernel
theorem d_M_compose_90 : decode prog_13_method_39_code 90 = .ok (.aload_n 0, 1) := by decide +kernel
theorem d_M_compose_91 : decode prog_13_method_39_code 91 = .ok (.iload_n 1, 1) := by decide +kernel
theorem d_M_compose_92 : decode prog_13_method_39_code 92 = .ok (.aload_n 0, 1) := by decide +kernel
theorem d_M_compose_93 : decode prog_13_method_39_code 93 = .ok (.getfield 81, 3) := by decide +kernel
theorem d_M_compose_96 : decode prog_13_method_39_code 96 = .ok (.iconst 2, 1) := by decide +kernel
theorem d_M_compose_97 : decode prog_13_method_39_code 97 = .ok (.isub, 1) := by decide +kernel
theorem d_M_compose_98 : decode prog_13_method_39_code 98 = .ok (.isub, 1) := by decide +kernel
theorem d_M_compose_99 : decode prog_13_method_39_code 99 = .ok (.putfield 222, 3) := by decide +kernel
theorem d_M_compose_102 : decode prog_13_method_39_code 102 = .ok (.aload_n 0, 1) := by decide +kernel
theorem d_M_compose_103 : decode prog_13_method_39_code 103 = .ok (.invokevirtual 244, 3) := by decide +kernel
theorem d_M_compose_106 : decode prog_13_method_39_code 106 = .ok (.aload_n 0, 1) := by decide +kernel
theorem d_M_compose_107 : decode prog_13_method_39_code 107 = .ok (.invokevirtual 247, 3) := by decide +kernel
theorem d_M_compose_110 : decode prog_13_method_39_code 110 = .ok (.aload_n 0, 1) := by decide +kernel
theorem d_M_compose_111 : decode prog_13_method_39_code 111 = .ok (.iload_n 1, 1) := by decide +kernel
theorem d_M_compose_112 : decode prog_13_method_39_code 112 = .ok (.aload_n 0, 1) := by decide +kernel
theorem d_M_compose_113 : decode prog_13_method_39_code 113 = .ok (.getfield 222, 3) := by decide +kernel
theorem d_M_compose_116 : decode prog_13_method_39_code 116 = .ok (.isub, 1) := by decide +kernel
theorem d_M_compose_117 : decode prog_13_method_39_code 117 = .ok (.putfield 234, 3) := by decide +kernel
theorem d_M_compose_120 : decode prog_13_method_39_code 120 = .ok (.aload_n 0, 1) := by decide +kernel
theorem d_M_compose_121 : decode prog_13_method_39_code 121 = .ok (.aload_n 0, 1) := by decide +kernel
theorem d_M_compose_122 : decode prog_13_method_39_code 122 = .ok (.getfield 44, 3) := by decide +kernel
theorem d_M_compose_125 : decode prog_13_method_39_code 125 = .ok (.aload_n 0, 1) := by decide +kernel
theorem d_M_compose_126 : decode prog_13_method_39_code 126 = .ok (.getfield 117, 3) := by decide +kernel
theorem d_M_compose_129 : decode prog_13_method_39_code 129 = .ok (.iaload, 1) := by decide +kernel
theorem d_M_compose_130 : decode prog_13_method_39_code 130 = .ok (.putfield 237, 3) := by decide +kernel
theorem d_M_compose_133 : decode prog_13_method_39_code 133 = .ok (.return_, 1) := by decide +kernel
theorem d_M_put_0 : decode prog_13_method_40_code 0 = .ok (.aload_n 0, 1) := by decide +kernel
theorem d_M_put_1 : decode prog_13_method_40_code 1 = .ok (.getfield 75, 3) := by decide +kernel
theorem d_M_put_4 : decode prog_13_method_40_code 4 = .ok (.aload_n 0, 1) := by decide +kernel
theorem d_M_put_5 : decode prog_13_method_40_code 5 = .ok (.getfield 250, 3) := by decide +kernel
theorem d_M_put_8 : decode prog_13_method_40_code 8 = .ok (.iload_n 1, 1) := by decide +kernel
theorem d_M_put_9 : decode prog_13_method_40_code 9 = .ok (.iastore, 1) := by decide +kernel
theorem d_M_put_10 : decode prog_13_method_40_code 10 = .ok (.aload_n 0, 1) := by decide +kernel
theorem d_M_put_11 : decode prog_13_method_40_code 11 = .ok (.dup, 1) := by decide +kernel
theorem d_M_put_12 : decode prog_13_method_40_code 12 = .ok (.getfield 250, 3) := by decide +kernel
theorem d_M_put_15 : decode prog_13_method_40_code 15 = .ok (.iconst 1, 1) := by decide +kernel
theorem d_M_put_16 : decode prog_13_method_40_code 16 = .ok (.iadd, 1) := by decide +kernel
theorem d_M_put_17 : decode prog_13_method_40_code 17 = .ok (.putfield 250, 3) := by decide +kernel
theorem d_M_put_20 : decode prog_13_method_40_code 20 = .ok (.return_, 1) := by decide +kernel
theorem d_M_putNumber_0 : decode prog_13_method_41_code 0 = .ok (.iload_n 1, 1) := by decide +kernel
theorem d_M_putNumber_1 : decode prog_13_method_41_code 1 = .ok (.bipush 9, 2) := by decide +kernel
theorem d_M_putNumber_3 : decode prog_13_method_41_code 3 = .ok (.if_icmp .le 14, 3) := by decide +kernel
theorem d_M_putNumber_6 : decode prog_13_method_41_code 6 = .ok (.aload_n 0, 1) := by decide +kernel
theorem d_M_putNumber_7 : decode prog_13_method_41_code 7 = .ok (.bipush 48, 2) := by decide +kernel
theorem d_M_putNumber_9 : decode prog_13_method_41_code 9 = .ok (.iload_n 1, 1) := by decide +kernel
theorem d_M_putNumber_10 : decode prog_13_method_41_code 10 = .ok (.bipush 10, 2) := by decide +kernel
theorem d_M_putNumber_12 : decode prog_13_method_41_code 12 = .ok (.idiv, 1) := by decide +kernel
theorem d_M_putNumber_13 : decode prog_13_method_41_code 13 = .ok (.iadd, 1) := by decide +kernel
theorem d_M_putNumber_14 : decode prog_13_method_41_code 14 = .ok (.invokevirtual 253, 3) := by decide +kernel
theorem d_M_putNumber_17 : decode prog_13_method_41_code 17 = .ok (.aload_n 0, 1) := by decide +kernel
theorem d_M_putNumber_18 : decode prog_13_method_41_code 18 = .ok (.bipush 48, 2) := by decide +kernel
theorem d_M_putNumber_20 : decode prog_13_method_41_code 20 = .ok (.iload_n 1, 1) := by decide +kernel
theorem d_M_putNumber_21 : decode prog_13_method_41_code 21 = .ok (.bipush 10, 2) := by decide +kernel
theorem d_M_putNumber_23 : decode prog_13_method_41_code 23 = .ok (.irem, 1) := by decide +kernel
theorem d_M_putNumber_24 : decode prog_13_method_41_code 24 = .ok (.iadd, 1) := by decide +kernel
theorem d_M_putNumber_25 : decode prog_13_method_41_code 25 = .ok (.invokevirtual 253, 3) := by decide +kernel
theorem d_M_putNumber_28 : decode prog_13_method_41_code 28 = .ok (.return_, 1) := by decide +kernel
end
section
theorem d_M_putBegin_0 : decode prog_13_method_42_code 0 = .ok (.aload_n 0, 1) := by decide +kernel
theorem d_M_putBegin_1 : decode prog_13_method_42_code 1 = .ok (.bipush 27, 2) := by decide +kernel
theorem d_M_putBegin_3 : decode prog_13_method_42_code 3 = .ok (.invokevirtual 253, 3) := by decide +kernel
theorem d_M_putBegin_6 : decode prog_13_method_42_code 6 = .ok (.aload_n 0, 1) := by decide +kernel
theorem d_M_putBegin_7 : decode prog_13_method_42_code 7 = .ok (.bipush 91, 2) := by decide +kernel
theorem d_M_putBegin_9 : decode prog_13_method_42_code 9 = .ok (.invokevirtual 253, 3) := by decide +kernel
theorem d_M_putBegin_12 : decode prog_13_method_42_code 12 = .ok (.return_, 1) := by decide +kernel
theorem d_M_blankHalf_0 : decode prog_13_method_43_code 0 = .ok (.aload_n 0, 1) := by decide +kernel
theorem d_M_blankHalf_1 : decode prog_13_method_43_code 1 = .ok (.getfield 56, 3) := by decide +kernel
theorem d_M_blankHalf_4 : decode prog_13_method_43_code 4 = .ok (.iload_n 1, 1) := by decide +kernel
theorem d_M_blankHalf_5 : decode prog_13_method_43_code 5 = .ok (.iaload, 1) := by decide +kernel
theorem d_M_blankHalf_6 : decode prog_13_method_43_code 6 = .ok (.ifCond .ne 25, 3) := by decide +kernel
theorem d_M_blankHalf_9 : decode prog_13_method_43_code 9 = .ok (.aload_n 0, 1) := by decide +kernel
theorem d_M_blankHalf_10 : decode prog_13_method_43_code 10 = .ok (.getfield 56, 3) := by decide +kernel
theorem d_M_blankHalf_13 : decode prog_13_method_43_code 13 = .ok (.iload_n 1, 1) := by decide +kernel
theorem d_M_blankHalf_14 : decode prog_13_method_43_code 14 = .ok (.iconst 1, 1) := by decide +kernel
theorem d_M_blankHalf_15 : decode prog_13_method_43_code 15 = .ok (.isub, 1) := by decide +kernel
theorem d_M_blankHalf_16 : decode prog_13_method_43_code 16 = .ok (.bipush 32, 2) := by decide +kernel
theorem d_M_blankHalf_18 : decode prog_13_method_43_code 18 = .ok (.iastore, 1) := by decide +kernel
theorem d_M_blankHalf_19 : decode prog_13_method_43_code 19 = .ok (.aload_n 0, 1) := by decide +kernel
theorem d_M_blankHalf_20 : decode prog_13_method_43_code 20 = .ok (.getfield 59, 3) := by decide +kernel
theorem d_M_blankHalf_23 : decode prog_13_method_43_code 23 = .ok (.iload_n 1, 1) := by decide +kernel
theorem d_M_blankHalf_24 : decode prog_13_method_43_code 24 = .ok (.iconst 1, 1) := by decide +kernel
theorem d_M_blankHalf_25 : decode prog_13_method_43_code 25 = .ok (.isub, 1) := by decide +kernel
theorem d_M_blankHalf_26 : decode prog_13_method_43_code 26 = .ok (.iconst 0, 1) := by decide +kernel
theorem d_M_blankHalf_27 : decode prog_13_method_43_code 27 = .ok (.iastore, 1) := by decide +kernel
theorem d_M_blankHalf_28 : decode prog_13_method_43_code 28 = .ok (.goto 38, 3) := by decide +kernel
theorem d_M_blankHalf_31 : decode prog_13_method_43_code 31 = .ok (.aload_n 0, 1) := by decide +kernel
theorem d_M_blankHalf_32 : decode prog_13_method_43_code 32 = .ok (.getfield 56, 3) := by decide +kernel
theorem d_M_blankHalf_35 : decode prog_13_method_43_code 35 = .ok (.iload_n 1, 1) := by decide +kernel
theorem d_M_blankHalf_36 : decode prog_13_method_43_code 36 = .ok (.iaload, 1) := by decide +kernel
theorem d_M_blankHalf_37 : decode prog_13_method_43_code 37 = .ok (.ldc_w 256, 3) := by decide +kernel
theorem d_M_blankHalf_40 : decode prog_13_method_43_code 40 = .ok (.iand, 1) := by decide +kernel
theorem d_M_blankHalf_41 : decode prog_13_method_43_code 41 = .ok (.invokestatic 97, 3) := by decide +kernel
theorem d_M_blankHalf_44 : decode prog_13_method_43_code 44 = .ok (.ifCond .eq 22, 3) := by decide +kernel
theorem d_M_blankHalf_47 : decode prog_13_method_43_code 47 = .ok (.aload_n 0, 1) := by decide +kernel
theorem d_M_blankHalf_48 : decode prog_13_method_43_code 48 = .ok (.getfield 56, 3) := by decide +kernel
theorem d_M_blankHalf_51 : decode prog_13_method_43_code 51 = .ok (.iload_n 1, 1) := by decide +kernel
theorem d_M_blankHalf_52 : decode prog_13_method_43_code 52 = .ok (.iconst 1, 1) := by decide +kernel
theorem d_M_blankHalf_53 : decode prog_13_method_43_code 53 = .ok (.iadd, 1) := by decide +kernel
theorem d_M_blankHalf_54 : decode prog_13_method_43_code 54 = .ok (.bipush 32, 2) := by decide +kernel
theorem d_M_blankHalf_56 : decode prog_13_method_43_code 56 = .ok (.iastore, 1) := by decide +kernel
theorem d_M_blankHalf_57 : decode prog_13_method_43_code 57 = .ok (.aload_n 0, 1) := by decide +kernel
theorem d_M_blankHalf_58 : decode prog_13_method_43_code 58 = .ok (.getfield 59, 3) := by decide +kernel
theorem d_M_blankHalf_61 : decode prog_13_method_43_code 61 = .ok (.iload_n 1, 1) := by decide +kernel
theorem d_M_blankHalf_62 : decode prog_13_method_43_code 62 = .ok (.iconst 1, 1) := by decide +kernel
theorem d_M_blankHalf_63 : decode prog_13_method_43_code 63 = .ok (.iadd, 1) := by decide +kernel
theorem d_M_blankHalf_64 : decode prog_13_method_43_code 64 = .ok (.iconst 0, 1) := by decide +kernel
theorem d_M_blankHalf_65 : decode prog_13_method_43_code 65 = .ok (.iastore, 1) := by decide +kernel
theorem d_M_blankHalf_66 : decode prog_13_method_43_code 66 = .ok (.return_, 1) := by decide +kernel
theorem d_M_putCode_0 : decode prog_13_method_44_code 0 = .ok (.iload_n 1, 1) := by decide +kernel
theorem d_M_putCode_1 : decode prog_13_method_44_code 1 = .ok (.sipush 128, 3) := by decide +kernel
theorem d_M_putCode_4 : decode prog_13_method_44_code 4 = .ok (.if_icmp .ge 11, 3) := by decide +kernel
theorem d_M_putCode_7 : decode prog_13_method_44_code 7 = .ok (.aload_n 0, 1) := by decide +kernel
theorem d_M_putCode_8 : decode prog_13_method_44_code 8 = .ok (.iload_n 1, 1) := by decide +kernel
theorem d_M_putCode_9 : decode prog_13_method_44_code 9 = .ok (.invokevirtual 253, 3) := by decide +kernel
theorem d_M_putCode_12 : decode prog_13_method_44_code 12 = .ok (.goto 76, 3) := by decide +kernel
theorem d_M_putCode_15 : decode prog_13_method_44_code 15 = .ok (.iload_n 1, 1) := by decide +kernel
theorem d_M_putCode_16 : decode prog_13_method_44_code 16 = .ok (.sipush 2048, 3) := by decide +kernel
theorem d_M_putCode_19 : decode prog_13_method_44_code 19 = .ok (.if_icmp .ge 30, 3) := by decide +kernel
theorem d_M_putCode_22 : decode prog_13_method_44_code 22 = .ok (.aload_n 0, 1) := by decide +kernel
theorem d_M_putCode_23 : decode prog_13_method_44_code 23 = .ok (.sipush 192, 3) := by decide +kernel
theorem d_M_putCode_26 : decode prog_13_method_44_code 26 = .ok (.iload_n 1, 1) := by decide +kernel
theorem d_M_putCode_27 : decode prog_13_method_44_code 27 = .ok (.bipush 6, 2) := by decide +kernel
theorem d_M_putCode_29 : decode prog_13_method_44_code 29 = .ok (.ishr, 1) := by decide +kernel
theorem d_M_putCode_30 : decode prog_13_method_44_code 30 = .ok (.iadd, 1) := by decide +kernel
theorem d_M_putCode_31 : decode prog_13_method_44_code 31 = .ok (.invokevirtual 253, 3) := by decide +kernel
theorem d_M_putCode_34 : decode prog_13_method_44_code 34 = .ok (.aload_n 0, 1) := by decide +kernel
theorem d_M_putCode_35 : decode prog_13_method_44_code 35 = .ok (.sipush 128, 3) := by decide +kernel
theorem d_M_putCode_38 : decode prog_13_method_44_code 38 = .ok (.iload_n 1, 1) := by decide +kernel
theorem d_M_putCode_39 : decode prog_13_method_44_code 39 = .ok (.bipush 63, 2) := by decide +kernel
theorem d_M_putCode_41 : decode prog_13_method_44_code 41 = .ok (.iand, 1) := by decide +kernel
theorem d_M_putCode_42 : decode prog_13_method_44_code 42 = .ok (.iadd, 1) := by decide +kernel
theorem d_M_putCode_43 : decode prog_13_method_44_code 43 = .ok (.invokevirtual 253, 3) := by decide +kernel
theorem d_M_putCode_46 : decode prog_13_method_44_code 46 = .ok (.goto 42, 3) := by decide +kernel
theorem d_M_putCode_49 : decode prog_13_method_44_code 49 = .ok (.aload_n 0, 1) := by decide +kernel
theorem d_M_putCode_50 : decode prog_13_method_44_code 50 = .ok (.sipush 224, 3) := by decide +kernel
theorem d_M_putCode_53 : decode prog_13_method_44_code 53 = .ok (.iload_n 1, 1) := by decide +kernel
theorem d_M_putCode_54 : decode prog_13_method_44_code 54 = .ok (.bipush 12, 2) := by decide +kernel
theorem d_M_putCode_56 : decode prog_13_method_44_code 56 = .ok (.ishr, 1) := by decide +kernel
theorem d_M_putCode_57 : decode prog_13_method_44_code 57 = .ok (.iadd, 1) := by decide +kernel
theorem d_M_putCode_58 : decode prog_13_method_44_code 58 = .ok (.invokevirtual 253, 3) := by decide +kernel
theorem d_M_putCode_61 : decode prog_13_method_44_code 61 = .ok (.aload_n 0, 1) := by decide +kernel
theorem d_M_putCode_62 : decode prog_13_method_44_code 62 = .ok (.sipush 128, 3) := by decide +kernel
theorem d_M_putCode_65 : decode prog_13_method_44_code 65 = .ok (.iload_n 1, 1) := by decide +kernel
theorem d_M_putCode_66 : decode prog_13_method_44_code 66 = .ok (.bipush 6, 2) := by decide +kernel
theorem d_M_putCode_68 : decode prog_13_method_44_code 68 = .ok (.ishr, 1) := by decide +kernel
theorem d_M_putCode_69 : decode prog_13_method_44_code 69 = .ok (.bipush 63, 2) := by decide +kernel
theorem d_M_putCode_71 : decode prog_13_method_44_code 71 = .ok (.iand, 1) := by decide +kernel
theorem d_M_putCode_72 : decode prog_13_method_44_code 72 = .ok (.iadd, 1) := by decide +kernel
theorem d_M_putCode_73 : decode prog_13_method_44_code 73 = .ok (.invokevirtual 253, 3) := by decide +kernel
theorem d_M_putCode_76 : decode prog_13_method_44_code 76 = .ok (.aload_n 0, 1) := by decide +kernel
theorem d_M_putCode_77 : decode prog_13_method_44_code 77 = .ok (.sipush 128, 3) := by decide +kernel
theorem d_M_putCode_80 : decode prog_13_method_44_code 80 = .ok (.iload_n 1, 1) := by decide +kernel
theorem d_M_putCode_81 : decode prog_13_method_44_code 81 = .ok (.bipush 63, 2) := by decide +kernel
theorem d_M_putCode_83 : decode prog_13_method_44_code 83 = .ok (.iand, 1) := by decide +kernel
theorem d_M_putCode_84 : decode prog_13_method_44_code 84 = .ok (.iadd, 1) := by decide +kernel
theorem d_M_putCode_85 : decode prog_13_method_44_code 85 = .ok (.invokevirtual 253, 3) := by decide +kernel
theorem d_M_putCode_88 : decode prog_13_method_44_code 88 = .ok (.return_, 1) := by decide +kernel
theorem d_M_write_0 : decode prog_13_method_45_code 0 = .ok (.aload_n 0, 1) := by decide +kernel
theorem d_M_write_1 : decode prog_13_method_45_code 1 = .ok (.iload_n 1, 1) := by decide +kernel
theorem d_M_write_2 : decode prog_13_method_45_code 2 = .ok (.invokevirtual 257, 3) := by decide +kernel
theorem d_M_write_5 : decode prog_13_method_45_code 5 = .ok (.iload_n 1, 1) := by decide +kernel
theorem d_M_write_6 : decode prog_13_method_45_code 6 = .ok (.invokestatic 90, 3) := by decide +kernel
theorem d_M_write_9 : decode prog_13_method_45_code 9 = .ok (.ifCond .eq 64, 3) := by decide +kernel
theorem d_M_write_12 : decode prog_13_method_45_code 12 = .ok (.aload_n 0, 1) := by decide +kernel
theorem d_M_write_13 : decode prog_13_method_45_code 13 = .ok (.getfield 68, 3) := by decide +kernel
theorem d_M_write_16 : decode prog_13_method_45_code 16 = .ok (.ifCond .lt 57, 3) := by decide +kernel
theorem d_M_write_19 : decode prog_13_method_45_code 19 = .ok (.aload_n 0, 1) := by decide +kernel
theorem d_M_write_20 : decode prog_13_method_45_code 20 = .ok (.getfield 56, 3) := by decide +kernel
theorem d_M_write_23 : decode prog_13_method_45_code 23 = .ok (.aload_n 0, 1) := by decide +kernel
theorem d_M_write_24 : decode prog_13_method_45_code 24 = .ok (.getfield 68, 3) := by decide +kernel
theorem d_M_write_27 : decode prog_13_method_45_code 27 = .ok (.iaload, 1) := by decide +kernel
theorem d_M_write_28 : decode prog_13_method_45_code 28 = .ok (.ldc 221, 2) := by decide +kernel
theorem d_M_write_30 : decode prog_13_method_45_code 30 = .ok (.if_icmp .ge 43, 3) := by decide +kernel
theorem d_M_write_33 : decode prog_13_method_45_code 33 = .ok (.aload_n 0, 1) := by decide +kernel
theorem d_M_write_34 : decode prog_13_method_45_code 34 = .ok (.getfield 56, 3) := by decide +kernel
theorem d_M_write_37 : decode prog_13_method_45_code 37 = .ok (.aload_n 0, 1) := by decide +kernel
theorem d_M_write_38 : decode prog_13_method_45_code 38 = .ok (.getfield 68, 3) := by decide +kernel
theorem d_M_write_41 : decode prog_13_method_45_code 41 = .ok (.dup2, 1) := by decide +kernel
theorem d_M_write_42 : decode prog_13_method_45_code 42 = .ok (.iaload, 1) := by decide +kernel
theorem d_M_write_43 : decode prog_13_method_45_code 43 = .ok (.aload_n 0, 1) := by decide +kernel
theorem d_M_write_44 : decode prog_13_method_45_code 44 = .ok (.getfield 56, 3) := by decide +kernel
theorem d_M_write_47 : decode prog_13_method_45_code 47 = .ok (.aload_n 0, 1) := by decide +kernel
theorem d_M_write_48 : decode prog_13_method_45_code 48 = .ok (.getfield 68, 3) := by decide +kernel
theorem d_M_write_51 : decode prog_13_method_45_code 51 = .ok (.iaload, 1) := by decide +kernel
theorem d_M_write_52 : decode prog_13_method_45_code 52 = .ok (.ldc 220, 2) := by decide +kernel
theorem d_M_write_54 : decode prog_13_method_45_code 54 = .ok (.if_icmp .ge 8, 3) := by decide +kernel
theorem d_M_write_57 : decode prog_13_method_45_code 57 = .ok (.ldc 220, 2) := by decide +kernel
theorem d_M_write_59 : decode prog_13_method_45_code 59 = .ok (.goto 5, 3) := by decide +kernel
theorem d_M_write_62 : decode prog_13_method_45_code 62 = .ok (.ldc 221, 2) := by decide +kernel
theorem d_M_write_64 : decode prog_13_method_45_code 64 = .ok (.iload_n 1, 1) := by decide +kernel
theorem d_M_write_65 : decode prog_13_method_45_code 65 = .ok (.sipush 767, 3) := by decide +kernel
theorem d_M_write_68 : decode prog_13_method_45_code 68 = .ok (.isub, 1) := by decide +kernel
theorem d_M_write_69 : decode prog_13_method_45_code 69 = .ok (.imul, 1) := by decide +kernel
theorem d_M_write_70 : decode prog_13_method_45_code 70 = .ok (.iadd, 1) := by decide +kernel
theorem d_M_write_71 : decode prog_13_method_45_code 71 = .ok (.iastore, 1) := by decide +kernel
theorem d_M_write_72 : decode prog_13_method_45_code 72 = .ok (.return_, 1) := by decide +kernel
theorem d_M_write_73 : decode prog_13_method_45_code 73 = .ok (.aload_n 0, 1) := by decide +kernel
theorem d_M_write_74 : decode prog_13_method_45_code 74 = .ok (.getfield 260, 3) := by decide +kernel
theorem d_M_write_77 : decode prog_13_method_45_code 77 = .ok (.ifCond .eq 43, 3) := by decide +kernel
theorem d_M_write_80 : decode prog_13_method_45_code 80 = .ok (.aload_n 0, 1) := by decide +kernel
theorem d_M_write_81 : decode prog_13_method_45_code 81 = .ok (.aload_n 0, 1) := by decide +kernel
theorem d_M_write_82 : decode prog_13_method_45_code 82 = .ok (.getfield 263, 3) := by decide +kernel
theorem d_M_write_85 : decode prog_13_method_45_code 85 = .ok (.aload_n 0, 1) := by decide +kernel
theorem d_M_write_86 : decode prog_13_method_45_code 86 = .ok (.getfield 81, 3) := by decide +kernel
theorem d_M_write_89 : decode prog_13_method_45_code 89 = .ok (.iconst 1, 1) := by decide +kernel
theorem d_M_write_90 : decode prog_13_method_45_code 90 = .ok (.isub, 1) := by decide +kernel
theorem d_M_write_91 : decode prog_13_method_45_code 91 = .ok (.if_icmp .ge 12, 3) := by decide +kernel
theorem d_M_write_94 : decode prog_13_method_45_code 94 = .ok (.aload_n 0, 1) := by decide +kernel
theorem d_M_write_95 : decode prog_13_method_45_code 95 = .ok (.getfield 263, 3) := by decide +kernel
theorem d_M_write_98 : decode prog_13_method_45_code 98 = .ok (.iconst 1, 1) := by decide +kernel
theorem d_M_write_99 : decode prog_13_method_45_code 99 = .ok (.iadd, 1) := by decide +kernel
theorem d_M_write_100 : decode prog_13_method_45_code 100 = .ok (.goto 7, 3) := by decide +kernel
theorem d_M_write_103 : decode prog_13_method_45_code 103 = .ok (.aload_n 0, 1) := by decide +kernel
theorem d_M_write_104 : decode prog_13_method_45_code 104 = .ok (.getfield 263, 3) := by decide +kernel
theorem d_M_write_107 : decode prog_13_method_45_code 107 = .ok (.putfield 263, 3) := by decide +kernel
theorem d_M_write_110 : decode prog_13_method_45_code 110 = .ok (.aload_n 0, 1) := by decide +kernel
theorem d_M_write_111 : decode prog_13_method_45_code 111 = .ok (.iconst 0, 1) := by decide +kernel
theorem d_M_write_112 : decode prog_13_method_45_code 112 = .ok (.putfield 266, 3) := by decide +kernel
theorem d_M_write_115 : decode prog_13_method_45_code 115 = .ok (.aload_n 0, 1) := by decide +kernel
theorem d_M_write_116 : decode prog_13_method_45_code 116 = .ok (.iconst 0, 1) := by decide +kernel
theorem d_M_write_117 : decode prog_13_method_45_code 117 = .ok (.putfield 260, 3) := by decide +kernel
theorem d_M_write_120 : decode prog_13_method_45_code 120 = .ok (.iload_n 1, 1) := by decide +kernel
theorem d_M_write_121 : decode prog_13_method_45_code 121 = .ok (.invokestatic 97, 3) := by decide +kernel
theorem d_M_write_124 : decode prog_13_method_45_code 124 = .ok (.ifCond .eq 7, 3) := by decide +kernel
theorem d_M_write_127 : decode prog_13_method_45_code 127 = .ok (.iconst 2, 1) := by decide +kernel
theorem d_M_write_128 : decode prog_13_method_45_code 128 = .ok (.goto 4, 3) := by decide +kernel
theorem d_M_write_131 : decode prog_13_method_45_code 131 = .ok (.iconst 1, 1) := by decide +kernel
theorem d_M_write_132 : decode prog_13_method_45_code 132 = .ok (.istore_n 2, 1) := by decide +kernel
theorem d_M_write_133 : decode prog_13_method_45_code 133 = .ok (.aload_n 0, 1) := by decide +kernel
theorem d_M_write_134 : decode prog_13_method_45_code 134 = .ok (.getfield 78, 3) := by decide +kernel
theorem d_M_write_137 : decode prog_13_method_45_code 137 = .ok (.aload_n 0, 1) := by decide +kernel
theorem d_M_write_138 : decode prog_13_method_45_code 138 = .ok (.getfield 263, 3) := by decide +kernel
theorem d_M_write_141 : decode prog_13_method_45_code 141 = .ok (.imul, 1) := by decide +kernel
theorem d_M_write_142 : decode prog_13_method_45_code 142 = .ok (.aload_n 0, 1) := by decide +kernel
theorem d_M_write_143 : decode prog_13_method_45_code 143 = .ok (.getfield 266, 3) := by decide +kernel
theorem d_M_write_146 : decode prog_13_method_45_code 146 = .ok (.iadd, 1) := by decide +kernel
theorem d_M_write_147 : decode prog_13_method_45_code 147 = .ok (.istore_n 3, 1) := by decide +kernel
theorem d_M_write_148 : decode prog_13_method_45_code 148 = .ok (.aload_n 0, 1) := by decide +kernel
theorem d_M_write_149 : decode prog_13_method_45_code 149 = .ok (.iload_n 3, 1) := by decide +kernel
theorem d_M_write_150 : decode prog_13_method_45_code 150 = .ok (.invokevirtual 269, 3) := by decide +kernel
theorem d_M_write_153 : decode prog_13_method_45_code 153 = .ok (.iload_n 2, 1) := by decide +kernel
theorem d_M_write_154 : decode prog_13_method_45_code 154 = .ok (.iconst 2, 1) := by decide +kernel
theorem d_M_write_155 : decode prog_13_method_45_code 155 = .ok (.if_icmp .ne 10, 3) := by decide +kernel
theorem d_M_write_158 : decode prog_13_method_45_code 158 = .ok (.aload_n 0, 1) := by decide +kernel
theorem d_M_write_159 : decode prog_13_method_45_code 159 = .ok (.iload_n 3, 1) := by decide +kernel
theorem d_M_write_160 : decode prog_13_method_45_code 160 = .ok (.iconst 1, 1) := by decide +kernel
theorem d_M_write_161 : decode prog_13_method_45_code 161 = .ok (.iadd, 1) := by decide +kernel
theorem d_M_write_162 : decode prog_13_method_45_code 162 = .ok (.invokevirtual 269, 3) := by decide +kernel
theorem d_M_write_165 : decode prog_13_method_45_code 165 = .ok (.aload_n 0, 1) := by decide +kernel
theorem d_M_write_166 : decode prog_13_method_45_code 166 = .ok (.getfield 56, 3) := by decide +kernel
theorem d_M_write_169 : decode prog_13_method_45_code 169 = .ok (.iload_n 3, 1) := by decide +kernel
theorem d_M_write_170 : decode prog_13_method_45_code 170 = .ok (.iload_n 1, 1) := by decide +kernel
theorem d_M_write_171 : decode prog_13_method_45_code 171 = .ok (.iastore, 1) := by decide +kernel
theorem d_M_write_172 : decode prog_13_method_45_code 172 = .ok (.aload_n 0, 1) := by decide +kernel
theorem d_M_write_173 : decode prog_13_method_45_code 173 = .ok (.getfield 59, 3) := by decide +kernel
theorem d_M_write_176 : decode prog_13_method_45_code 176 = .ok (.iload_n 3, 1) := by decide +kernel
theorem d_M_write_177 : decode prog_13_method_45_code 177 = .ok (.aload_n 0, 1) := by decide +kernel
theorem d_M_write_178 : decode prog_13_method_45_code 178 = .ok (.getfield 272, 3) := by decide +kernel
theorem d_M_write_181 : decode prog_13_method_45_code 181 = .ok (.iastore, 1) := by decide +kernel
theorem d_M_write_182 : decode prog_13_method_45_code 182 = .ok (.iload_n 2, 1) := by decide +kernel
theorem d_M_write_183 : decode prog_13_method_45_code 183 = .ok (.iconst 2, 1) := by decide +kernel
theorem d_M_write_184 : decode prog_13_method_45_code 184 = .ok (.if_icmp .ne 24, 3) := by decide +kernel
theorem d_M_write_187 : decode prog_13_method_45_code 187 = .ok (.aload_n 0, 1) := by decide +kernel
theorem d_M_write_188 : decode prog_13_method_45_code 188 = .ok (.getfield 56, 3) := by decide +kernel
theorem d_M_write_191 : decode prog_13_method_45_code 191 = .ok (.iload_n 3, 1) := by decide +kernel
theorem d_M_write_192 : decode prog_13_method_45_code 192 = .ok (.iconst 1, 1) := by decide +kernel
theorem d_M_write_193 : decode prog_13_method_45_code 193 = .ok (.iadd, 1) := by decide +kernel
theorem d_M_write_194 : decode prog_13_method_45_code 194 = .ok (.iconst 0, 1) := by decide +kernel
theorem d_M_write_195 : decode prog_13_method_45_code 195 = .ok (.iastore, 1) := by decide +kernel
theorem d_M_write_196 : decode prog_13_method_45_code 196 = .ok (.aload_n 0, 1) := by decide +kernel
theorem d_M_write_197 : decode prog_13_method_45_code 197 = .ok (.getfield 59, 3) := by decide +kernel
theorem d_M_write_200 : decode prog_13_method_45_code 200 = .ok (.iload_n 3, 1) := by decide +kernel
theorem d_M_write_201 : decode prog_13_method_45_code 201 = .ok (.iconst 1, 1) := by decide +kernel
theorem d_M_write_202 : decode prog_13_method_45_code 202 = .ok (.iadd, 1) := by decide +kernel
theorem d_M_write_203 : decode prog_13_method_45_code 203 = .ok (.aload_n 0, 1) := by decide +kernel
theorem d_M_write_204 : decode prog_13_method_45_code 204 = .ok (.getfield 272, 3) := by decide +kernel
theorem d_M_write_207 : decode prog_13_method_45_code 207 = .ok (.iastore, 1) := by decide +kernel
theorem d_M_write_208 : decode prog_13_method_45_code 208 = .ok (.aload_n 0, 1) := by decide +kernel
theorem d_M_write_209 : decode prog_13_method_45_code 209 = .ok (.iload_n 3, 1) := by decide +kernel
theorem d_M_write_210 : decode prog_13_method_45_code 210 = .ok (.putfield 68, 3) := by decide +kernel
theorem d_M_write_213 : decode prog_13_method_45_code 213 = .ok (.aload_n 0, 1) := by decide +kernel
theorem d_M_write_214 : decode prog_13_method_45_code 214 = .ok (.dup, 1) := by decide +kernel
theorem d_M_write_215 : decode prog_13_method_45_code 215 = .ok (.getfield 266, 3) := by decide +kernel
theorem d_M_write_218 : decode prog_13_method_45_code 218 = .ok (.iload_n 2, 1) := by decide +kernel
theorem d_M_write_219 : decode prog_13_method_45_code 219 = .ok (.iadd, 1) := by decide +kernel
theorem d_M_write_220 : decode prog_13_method_45_code 220 = .ok (.putfield 266, 3) := by decide +kernel
theorem d_M_write_223 : decode prog_13_method_45_code 223 = .ok (.aload_n 0, 1) := by decide +kernel
theorem d_M_write_224 : decode prog_13_method_45_code 224 = .ok (.getfield 266, 3) := by decide +kernel
theorem d_M_write_227 : decode prog_13_method_45_code 227 = .ok (.aload_n 0, 1) := by decide +kernel
theorem d_M_write_228 : decode prog_13_method_45_code 228 = .ok (.getfield 78, 3) := by decide +kernel
theorem d_M_write_231 : decode prog_13_method_45_code 231 = .ok (.if_icmp .ne 18, 3) := by decide +kernel
theorem d_M_write_234 : decode prog_13_method_45_code 234 = .ok (.aload_n 0, 1) := by decide +kernel
theorem d_M_write_235 : decode prog_13_method_45_code 235 = .ok (.aload_n 0, 1) := by decide +kernel
theorem d_M_write_236 : decode prog_13_method_45_code 236 = .ok (.getfield 78, 3) := by decide +kernel
theorem d_M_write_239 : decode prog_13_method_45_code 239 = .ok (.iconst 1, 1) := by decide +kernel
theorem d_M_write_240 : decode prog_13_method_45_code 240 = .ok (.isub, 1) := by decide +kernel
theorem d_M_write_241 : decode prog_13_method_45_code 241 = .ok (.putfield 266, 3) := by decide +kernel
theorem d_M_write_244 : decode prog_13_method_45_code 244 = .ok (.aload_n 0, 1) := by decide +kernel
theorem d_M_write_245 : decode prog_13_method_45_code 245 = .ok (.iconst 1, 1) := by decide +kernel
theorem d_M_write_246 : decode prog_13_method_45_code 246 = .ok (.putfield 260, 3) := by decide +kernel
theorem d_M_write_249 : decode prog_13_method_45_code 249 = .ok (.return_, 1) := by decide +kernel
theorem d_M_sendPlace_0 : decode prog_13_method_46_code 0 = .ok (.aload_n 0, 1) := by decide +kernel
theorem d_M_sendPlace_1 : decode prog_13_method_46_code 1 = .ok (.invokevirtual 275, 3) := by decide +kernel
theorem d_M_sendPlace_4 : decode prog_13_method_46_code 4 = .ok (.aload_n 0, 1) := by decide +kernel
theorem d_M_sendPlace_5 : decode prog_13_method_46_code 5 = .ok (.iload_n 1, 1) := by decide +kernel
theorem d_M_sendPlace_6 : decode prog_13_method_46_code 6 = .ok (.iconst 1, 1) := by decide +kernel
theorem d_M_sendPlace_7 : decode prog_13_method_46_code 7 = .ok (.iadd, 1) := by decide +kernel
theorem d_M_sendPlace_8 : decode prog_13_method_46_code 8 = .ok (.invokevirtual 278, 3) := by decide +kernel
theorem d_M_sendPlace_11 : decode prog_13_method_46_code 11 = .ok (.aload_n 0, 1) := by decide +kernel
theorem d_M_sendPlace_12 : decode prog_13_method_46_code 12 = .ok (.bipush 59, 2) := by decide +kernel
theorem d_M_sendPlace_14 : decode prog_13_method_46_code 14 = .ok (.invokevirtual 253, 3) := by decide +kernel
theorem d_M_sendPlace_17 : decode prog_13_method_46_code 17 = .ok (.aload_n 0, 1) := by decide +kernel
theorem d_M_sendPlace_18 : decode prog_13_method_46_code 18 = .ok (.iload_n 2, 1) := by decide +kernel
theorem d_M_sendPlace_19 : decode prog_13_method_46_code 19 = .ok (.iconst 1, 1) := by decide +kernel
theorem d_M_sendPlace_20 : decode prog_13_method_46_code 20 = .ok (.iadd, 1) := by decide +kernel
theorem d_M_sendPlace_21 : decode prog_13_method_46_code 21 = .ok (.invokevirtual 278, 3) := by decide +kernel
theorem d_M_sendPlace_24 : decode prog_13_method_46_code 24 = .ok (.aload_n 0, 1) := by decide +kernel
theorem d_M_sendPlace_25 : decode prog_13_method_46_code 25 = .ok (.bipush 72, 2) := by decide +kernel
theorem d_M_sendPlace_27 : decode prog_13_method_46_code 27 = .ok (.invokevirtual 253, 3) := by decide +kernel
theorem d_M_sendPlace_30 : decode prog_13_method_46_code 30 = .ok (.return_, 1) := by decide +kernel
theorem d_M_go_0 : decode prog_13_method_47_code 0 = .ok (.iload_n 1, 1) := by decide +kernel
theorem d_M_go_1 : decode prog_13_method_47_code 1 = .ok (.aload_n 0, 1) := by decide +kernel
theorem d_M_go_2 : decode prog_13_method_47_code 2 = .ok (.getfield 263, 3) := by decide +kernel
theorem d_M_go_5 : decode prog_13_method_47_code 5 = .ok (.if_icmp .ne 22, 3) := by decide +kernel
theorem d_M_go_8 : decode prog_13_method_47_code 8 = .ok (.iload_n 2, 1) := by decide +kernel
theorem d_M_go_9 : decode prog_13_method_47_code 9 = .ok (.aload_n 0, 1) := by decide +kernel
theorem d_M_go_10 : decode prog_13_method_47_code 10 = .ok (.getfield 266, 3) := by decide +kernel
theorem d_M_go_13 : decode prog_13_method_47_code 13 = .ok (.if_icmp .ne 14, 3) := by decide +kernel
theorem d_M_go_16 : decode prog_13_method_47_code 16 = .ok (.aload_n 0, 1) := by decide +kernel
theorem d_M_go_17 : decode prog_13_method_47_code 17 = .ok (.getfield 260, 3) := by decide +kernel
theorem d_M_go_20 : decode prog_13_method_47_code 20 = .ok (.ifCond .ne 7, 3) := by decide +kernel
theorem d_M_go_23 : decode prog_13_method_47_code 23 = .ok (.iconst 1, 1) := by decide +kernel
theorem d_M_go_24 : decode prog_13_method_47_code 24 = .ok (.goto 4, 3) := by decide +kernel
theorem d_M_go_27 : decode prog_13_method_47_code 27 = .ok (.iconst 0, 1) := by decide +kernel
theorem d_M_go_28 : decode prog_13_method_47_code 28 = .ok (.istore 4, 2) := by decide +kernel
theorem d_M_go_30 : decode prog_13_method_47_code 30 = .ok (.iload 4, 2) := by decide +kernel
theorem d_M_go_32 : decode prog_13_method_47_code 32 = .ok (.ifCond .eq 8, 3) := by decide +kernel
theorem d_M_go_35 : decode prog_13_method_47_code 35 = .ok (.iload_n 3, 1) := by decide +kernel
theorem d_M_go_36 : decode prog_13_method_47_code 36 = .ok (.ifCond .ne 4, 3) := by decide +kernel
theorem d_M_go_39 : decode prog_13_method_47_code 39 = .ok (.return_, 1) := by decide +kernel
theorem d_M_go_40 : decode prog_13_method_47_code 40 = .ok (.iload_n 3, 1) := by decide +kernel
theorem d_M_go_41 : decode prog_13_method_47_code 41 = .ok (.ifCond .eq 12, 3) := by decide +kernel
theorem d_M_go_44 : decode prog_13_method_47_code 44 = .ok (.aload_n 0, 1) := by decide +kernel
theorem d_M_go_45 : decode prog_13_method_47_code 45 = .ok (.iload_n 1, 1) := by decide +kernel
theorem d_M_go_46 : decode prog_13_method_47_code 46 = .ok (.iload_n 2, 1) := by decide +kernel
theorem d_M_go_47 : decode prog_13_method_47_code 47 = .ok (.invokevirtual 281, 3) := by decide +kernel
theorem d_M_go_50 : decode prog_13_method_47_code 50 = .ok (.goto 115, 3) := by decide +kernel
theorem d_M_go_53 : decode prog_13_method_47_code 53 = .ok (.iload_n 1, 1) := by decide +kernel
theorem d_M_go_54 : decode prog_13_method_47_code 54 = .ok (.aload_n 0, 1) := by decide +kernel
theorem d_M_go_55 : decode prog_13_method_47_code 55 = .ok (.getfield 263, 3) := by decide +kernel
theorem d_M_go_58 : decode prog_13_method_47_code 58 = .ok (.if_icmp .ne 51, 3) := by decide +kernel
theorem d_M_go_61 : decode prog_13_method_47_code 61 = .ok (.aload_n 0, 1) := by decide +kernel
theorem d_M_go_62 : decode prog_13_method_47_code 62 = .ok (.getfield 260, 3) := by decide +kernel
theorem d_M_go_65 : decode prog_13_method_47_code 65 = .ok (.ifCond .ne 44, 3) := by decide +kernel
theorem d_M_go_68 : decode prog_13_method_47_code 68 = .ok (.iload_n 2, 1) := by decide +kernel
theorem d_M_go_69 : decode prog_13_method_47_code 69 = .ok (.aload_n 0, 1) := by decide +kernel
theorem d_M_go_70 : decode prog_13_method_47_code 70 = .ok (.getfield 266, 3) := by decide +kernel
theorem d_M_go_73 : decode prog_13_method_47_code 73 = .ok (.if_icmp .le 36, 3) := by decide +kernel
theorem d_M_go_76 : decode prog_13_method_47_code 76 = .ok (.aload_n 0, 1) := by decide +kernel
theorem d_M_go_77 : decode prog_13_method_47_code 77 = .ok (.invokevirtual 275, 3) := by decide +kernel
theorem d_M_go_80 : decode prog_13_method_47_code 80 = .ok (.iload_n 2, 1) := by decide +kernel
theorem d_M_go_81 : decode prog_13_method_47_code 81 = .ok (.aload_n 0, 1) := by decide +kernel
theorem d_M_go_82 : decode prog_13_method_47_code 82 = .ok (.getfield 266, 3) := by decide +kernel
theorem d_M_go_85 : decode prog_13_method_47_code 85 = .ok (.isub, 1) := by decide +kernel
theorem d_M_go_86 : decode prog_13_method_47_code 86 = .ok (.iconst 1, 1) := by decide +kernel
theorem d_M_go_87 : decode prog_13_method_47_code 87 = .ok (.if_icmp .le 13, 3) := by decide +kernel
theorem d_M_go_90 : decode prog_13_method_47_code 90 = .ok (.aload_n 0, 1) := by decide +kernel
theorem d_M_go_91 : decode prog_13_method_47_code 91 = .ok (.iload_n 2, 1) := by decide +kernel
theorem d_M_go_92 : decode prog_13_method_47_code 92 = .ok (.aload_n 0, 1) := by decide +kernel
theorem d_M_go_93 : decode prog_13_method_47_code 93 = .ok (.getfield 266, 3) := by decide +kernel
theorem d_M_go_96 : decode prog_13_method_47_code 96 = .ok (.isub, 1) := by decide +kernel
theorem d_M_go_97 : decode prog_13_method_47_code 97 = .ok (.invokevirtual 278, 3) := by decide +kernel
theorem d_M_go_100 : decode prog_13_method_47_code 100 = .ok (.aload_n 0, 1) := by decide +kernel
theorem d_M_go_101 : decode prog_13_method_47_code 101 = .ok (.bipush 67, 2) := by decide +kernel
theorem d_M_go_103 : decode prog_13_method_47_code 103 = .ok (.invokevirtual 253, 3) := by decide +kernel
theorem d_M_go_106 : decode prog_13_method_47_code 106 = .ok (.goto 59, 3) := by decide +kernel
theorem d_M_go_109 : decode prog_13_method_47_code 109 = .ok (.iload_n 1, 1) := by decide +kernel
theorem d_M_go_110 : decode prog_13_method_47_code 110 = .ok (.aload_n 0, 1) := by decide +kernel
theorem d_M_go_111 : decode prog_13_method_47_code 111 = .ok (.getfield 263, 3) := by decide +kernel
theorem d_M_go_114 : decode prog_13_method_47_code 114 = .ok (.if_icmp .ne 16, 3) := by decide +kernel
theorem d_M_go_117 : decode prog_13_method_47_code 117 = .ok (.iload_n 2, 1) := by decide +kernel
theorem d_M_go_118 : decode prog_13_method_47_code 118 = .ok (.ifCond .ne 12, 3) := by decide +kernel
theorem d_M_go_121 : decode prog_13_method_47_code 121 = .ok (.aload_n 0, 1) := by decide +kernel
theorem d_M_go_122 : decode prog_13_method_47_code 122 = .ok (.bipush 13, 2) := by decide +kernel
theorem d_M_go_124 : decode prog_13_method_47_code 124 = .ok (.invokevirtual 253, 3) := by decide +kernel
theorem d_M_go_127 : decode prog_13_method_47_code 127 = .ok (.goto 38, 3) := by decide +kernel
theorem d_M_go_130 : decode prog_13_method_47_code 130 = .ok (.iload_n 1, 1) := by decide +kernel
theorem d_M_go_131 : decode prog_13_method_47_code 131 = .ok (.aload_n 0, 1) := by decide +kernel
theorem d_M_go_132 : decode prog_13_method_47_code 132 = .ok (.getfield 263, 3) := by decide +kernel
theorem d_M_go_135 : decode prog_13_method_47_code 135 = .ok (.iconst 1, 1) := by decide +kernel
theorem d_M_go_136 : decode prog_13_method_47_code 136 = .ok (.iadd, 1) := by decide +kernel
theorem d_M_go_137 : decode prog_13_method_47_code 137 = .ok (.if_icmp .ne 22, 3) := by decide +kernel
theorem d_M_go_140 : decode prog_13_method_47_code 140 = .ok (.iload_n 2, 1) := by decide +kernel
theorem d_M_go_141 : decode prog_13_method_47_code 141 = .ok (.ifCond .ne 18, 3) := by decide +kernel
theorem d_M_go_144 : decode prog_13_method_47_code 144 = .ok (.aload_n 0, 1) := by decide +kernel
theorem d_M_go_145 : decode prog_13_method_47_code 145 = .ok (.bipush 13, 2) := by decide +kernel
theorem d_M_go_147 : decode prog_13_method_47_code 147 = .ok (.invokevirtual 253, 3) := by decide +kernel
theorem d_M_go_150 : decode prog_13_method_47_code 150 = .ok (.aload_n 0, 1) := by decide +kernel
theorem d_M_go_151 : decode prog_13_method_47_code 151 = .ok (.bipush 10, 2) := by decide +kernel
theorem d_M_go_153 : decode prog_13_method_47_code 153 = .ok (.invokevirtual 253, 3) := by decide +kernel
theorem d_M_go_156 : decode prog_13_method_47_code 156 = .ok (.goto 9, 3) := by decide +kernel
theorem d_M_go_159 : decode prog_13_method_47_code 159 = .ok (.aload_n 0, 1) := by decide +kernel
theorem d_M_go_160 : decode prog_13_method_47_code 160 = .ok (.iload_n 1, 1) := by decide +kernel
theorem d_M_go_161 : decode prog_13_method_47_code 161 = .ok (.iload_n 2, 1) := by decide +kernel
theorem d_M_go_162 : decode prog_13_method_47_code 162 = .ok (.invokevirtual 281, 3) := by decide +kernel
theorem d_M_go_165 : decode prog_13_method_47_code 165 = .ok (.aload_n 0, 1) := by decide +kernel
theorem d_M_go_166 : decode prog_13_method_47_code 166 = .ok (.iload_n 1, 1) := by decide +kernel
theorem d_M_go_167 : decode prog_13_method_47_code 167 = .ok (.putfield 263, 3) := by decide +kernel
theorem d_M_go_170 : decode prog_13_method_47_code 170 = .ok (.aload_n 0, 1) := by decide +kernel
theorem d_M_go_171 : decode prog_13_method_47_code 171 = .ok (.iload_n 2, 1) := by decide +kernel
theorem d_M_go_172 : decode prog_13_method_47_code 172 = .ok (.putfield 266, 3) := by decide +kernel
theorem d_M_go_175 : decode prog_13_method_47_code 175 = .ok (.aload_n 0, 1) := by decide +kernel
theorem d_M_go_176 : decode prog_13_method_47_code 176 = .ok (.iconst 0, 1) := by decide +kernel
theorem d_M_go_177 : decode prog_13_method_47_code 177 = .ok (.putfield 260, 3) := by decide +kernel
theorem d_M_go_180 : decode prog_13_method_47_code 180 = .ok (.aload_n 0, 1) := by decide +kernel
theorem d_M_go_181 : decode prog_13_method_47_code 181 = .ok (.iconst (-1), 1) := by decide +kernel
theorem d_M_go_182 : decode prog_13_method_47_code 182 = .ok (.putfield 68, 3) := by decide +kernel
theorem d_M_go_185 : decode prog_13_method_47_code 185 = .ok (.return_, 1) := by decide +kernel
theorem d_M_setLook_0 : decode prog_13_method_48_code 0 = .ok (.aload_n 0, 1) := by decide +kernel
theorem d_M_setLook_1 : decode prog_13_method_48_code 1 = .ok (.invokevirtual 275, 3) := by decide +kernel
theorem d_M_setLook_4 : decode prog_13_method_48_code 4 = .ok (.aload_n 0, 1) := by decide +kernel
theorem d_M_setLook_5 : decode prog_13_method_48_code 5 = .ok (.bipush 48, 2) := by decide +kernel
theorem d_M_setLook_7 : decode prog_13_method_48_code 7 = .ok (.invokevirtual 253, 3) := by decide +kernel
theorem d_M_setLook_10 : decode prog_13_method_48_code 10 = .ok (.iload_n 1, 1) := by decide +kernel
theorem d_M_setLook_11 : decode prog_13_method_48_code 11 = .ok (.ifCond .le 25, 3) := by decide +kernel
theorem d_M_setLook_14 : decode prog_13_method_48_code 14 = .ok (.aload_n 0, 1) := by decide +kernel
theorem d_M_setLook_15 : decode prog_13_method_48_code 15 = .ok (.bipush 59, 2) := by decide +kernel
theorem d_M_setLook_17 : decode prog_13_method_48_code 17 = .ok (.invokevirtual 253, 3) := by decide +kernel
theorem d_M_setLook_20 : decode prog_13_method_48_code 20 = .ok (.aload_n 0, 1) := by decide +kernel
theorem d_M_setLook_21 : decode prog_13_method_48_code 21 = .ok (.iload_n 1, 1) := by decide +kernel
theorem d_M_setLook_22 : decode prog_13_method_48_code 22 = .ok (.iconst 1, 1) := by decide +kernel
theorem d_M_setLook_23 : decode prog_13_method_48_code 23 = .ok (.if_icmp .ne 8, 3) := by decide +kernel
theorem d_M_setLook_26 : decode prog_13_method_48_code 26 = .ok (.bipush 55, 2) := by decide +kernel
theorem d_M_setLook_28 : decode prog_13_method_48_code 28 = .ok (.goto 5, 3) := by decide +kernel
theorem d_M_setLook_31 : decode prog_13_method_48_code 31 = .ok (.bipush 52, 2) := by decide +kernel
theorem d_M_setLook_33 : decode prog_13_method_48_code 33 = .ok (.invokevirtual 253, 3) := by decide +kernel
theorem d_M_setLook_36 : decode prog_13_method_48_code 36 = .ok (.aload_n 0, 1) := by decide +kernel
theorem d_M_setLook_37 : decode prog_13_method_48_code 37 = .ok (.bipush 109, 2) := by decide +kernel
theorem d_M_setLook_39 : decode prog_13_method_48_code 39 = .ok (.invokevirtual 253, 3) := by decide +kernel
theorem d_M_setLook_42 : decode prog_13_method_48_code 42 = .ok (.aload_n 0, 1) := by decide +kernel
theorem d_M_setLook_43 : decode prog_13_method_48_code 43 = .ok (.iload_n 1, 1) := by decide +kernel
theorem d_M_setLook_44 : decode prog_13_method_48_code 44 = .ok (.putfield 272, 3) := by decide +kernel
theorem d_M_setLook_47 : decode prog_13_method_48_code 47 = .ok (.return_, 1) := by decide +kernel
theorem d_M_sendCluster_0 : decode prog_13_method_49_code 0 = .ok (.aload_n 0, 1) := by decide +kernel
theorem d_M_sendCluster_1 : decode prog_13_method_49_code 1 = .ok (.getfield 78, 3) := by decide +kernel
theorem d_M_sendCluster_4 : decode prog_13_method_49_code 4 = .ok (.iload_n 1, 1) := by decide +kernel
theorem d_M_sendCluster_5 : decode prog_13_method_49_code 5 = .ok (.imul, 1) := by decide +kernel
theorem d_M_sendCluster_6 : decode prog_13_method_49_code 6 = .ok (.iload_n 2, 1) := by decide +kernel
theorem d_M_sendCluster_7 : decode prog_13_method_49_code 7 = .ok (.iadd, 1) := by decide +kernel
theorem d_M_sendCluster_8 : decode prog_13_method_49_code 8 = .ok (.istore_n 3, 1) := by decide +kernel
theorem d_M_sendCluster_9 : decode prog_13_method_49_code 9 = .ok (.aload_n 0, 1) := by decide +kernel
theorem d_M_sendCluster_10 : decode prog_13_method_49_code 10 = .ok (.getfield 50, 3) := by decide +kernel
theorem d_M_sendCluster_13 : decode prog_13_method_49_code 13 = .ok (.iload_n 3, 1) := by decide +kernel
theorem d_M_sendCluster_14 : decode prog_13_method_49_code 14 = .ok (.iaload, 1) := by decide +kernel
theorem d_M_sendCluster_15 : decode prog_13_method_49_code 15 = .ok (.istore 4, 2) := by decide +kernel
theorem d_M_sendCluster_17 : decode prog_13_method_49_code 17 = .ok (.iload 4, 2) := by decide +kernel
theorem d_M_sendCluster_19 : decode prog_13_method_49_code 19 = .ok (.ldc_w 256, 3) := by decide +kernel
theorem d_M_sendCluster_22 : decode prog_13_method_49_code 22 = .ok (.iand, 1) := by decide +kernel
theorem d_M_sendCluster_23 : decode prog_13_method_49_code 23 = .ok (.istore 5, 2) := by decide +kernel
theorem d_M_sendCluster_25 : decode prog_13_method_49_code 25 = .ok (.iload 4, 2) := by decide +kernel
theorem d_M_sendCluster_27 : decode prog_13_method_49_code 27 = .ok (.bipush 16, 2) := by decide +kernel
theorem d_M_sendCluster_29 : decode prog_13_method_49_code 29 = .ok (.ishr, 1) := by decide +kernel
theorem d_M_sendCluster_30 : decode prog_13_method_49_code 30 = .ok (.bipush 127, 2) := by decide +kernel
theorem d_M_sendCluster_32 : decode prog_13_method_49_code 32 = .ok (.iand, 1) := by decide +kernel
theorem d_M_sendCluster_33 : decode prog_13_method_49_code 33 = .ok (.istore 6, 2) := by decide +kernel
theorem d_M_sendCluster_35 : decode prog_13_method_49_code 35 = .ok (.iload 4, 2) := by decide +kernel
theorem d_M_sendCluster_37 : decode prog_13_method_49_code 37 = .ok (.bipush 23, 2) := by decide +kernel
theorem d_M_sendCluster_39 : decode prog_13_method_49_code 39 = .ok (.ishr, 1) := by decide +kernel
theorem d_M_sendCluster_40 : decode prog_13_method_49_code 40 = .ok (.istore 7, 2) := by decide +kernel
theorem d_M_sendCluster_42 : decode prog_13_method_49_code 42 = .ok (.aload_n 0, 1) := by decide +kernel
theorem d_M_sendCluster_43 : decode prog_13_method_49_code 43 = .ok (.iload_n 1, 1) := by decide +kernel
theorem d_M_sendCluster_44 : decode prog_13_method_49_code 44 = .ok (.iload_n 2, 1) := by decide +kernel
theorem d_M_sendCluster_45 : decode prog_13_method_49_code 45 = .ok (.iload 5, 2) := by decide +kernel
theorem d_M_sendCluster_47 : decode prog_13_method_49_code 47 = .ok (.invokestatic 90, 3) := by decide +kernel
theorem d_M_sendCluster_50 : decode prog_13_method_49_code 50 = .ok (.invokevirtual 284, 3) := by decide +kernel
theorem d_M_sendCluster_53 : decode prog_13_method_49_code 53 = .ok (.aload_n 0, 1) := by decide +kernel
theorem d_M_sendCluster_54 : decode prog_13_method_49_code 54 = .ok (.getfield 272, 3) := by decide +kernel
theorem d_M_sendCluster_57 : decode prog_13_method_49_code 57 = .ok (.aload_n 0, 1) := by decide +kernel
theorem d_M_sendCluster_58 : decode prog_13_method_49_code 58 = .ok (.getfield 53, 3) := by decide +kernel
theorem d_M_sendCluster_61 : decode prog_13_method_49_code 61 = .ok (.iload_n 3, 1) := by decide +kernel
theorem d_M_sendCluster_62 : decode prog_13_method_49_code 62 = .ok (.iaload, 1) := by decide +kernel
theorem d_M_sendCluster_63 : decode prog_13_method_49_code 63 = .ok (.if_icmp .eq 13, 3) := by decide +kernel
theorem d_M_sendCluster_66 : decode prog_13_method_49_code 66 = .ok (.aload_n 0, 1) := by decide +kernel
theorem d_M_sendCluster_67 : decode prog_13_method_49_code 67 = .ok (.aload_n 0, 1) := by decide +kernel
theorem d_M_sendCluster_68 : decode prog_13_method_49_code 68 = .ok (.getfield 53, 3) := by decide +kernel
theorem d_M_sendCluster_71 : decode prog_13_method_49_code 71 = .ok (.iload_n 3, 1) := by decide +kernel
theorem d_M_sendCluster_72 : decode prog_13_method_49_code 72 = .ok (.iaload, 1) := by decide +kernel
theorem d_M_sendCluster_73 : decode prog_13_method_49_code 73 = .ok (.invokevirtual 288, 3) := by decide +kernel
theorem d_M_sendCluster_76 : decode prog_13_method_49_code 76 = .ok (.aload_n 0, 1) := by decide +kernel
theorem d_M_sendCluster_77 : decode prog_13_method_49_code 77 = .ok (.iload 5, 2) := by decide +kernel
theorem d_M_sendCluster_79 : decode prog_13_method_49_code 79 = .ok (.invokevirtual 291, 3) := by decide +kernel
theorem d_M_sendCluster_82 : decode prog_13_method_49_code 82 = .ok (.iload 6, 2) := by decide +kernel
theorem d_M_sendCluster_84 : decode prog_13_method_49_code 84 = .ok (.ifCond .le 13, 3) := by decide +kernel
theorem d_M_sendCluster_87 : decode prog_13_method_49_code 87 = .ok (.aload_n 0, 1) := by decide +kernel
theorem d_M_sendCluster_88 : decode prog_13_method_49_code 88 = .ok (.sipush 767, 3) := by decide +kernel
theorem d_M_sendCluster_91 : decode prog_13_method_49_code 91 = .ok (.iload 6, 2) := by decide +kernel
theorem d_M_sendCluster_93 : decode prog_13_method_49_code 93 = .ok (.iadd, 1) := by decide +kernel
theorem d_M_sendCluster_94 : decode prog_13_method_49_code 94 = .ok (.invokevirtual 291, 3) := by decide +kernel
theorem d_M_sendCluster_97 : decode prog_13_method_49_code 97 = .ok (.iload 7, 2) := by decide +kernel
theorem d_M_sendCluster_99 : decode prog_13_method_49_code 99 = .ok (.ifCond .le 13, 3) := by decide +kernel
theorem d_M_sendCluster_102 : decode prog_13_method_49_code 102 = .ok (.aload_n 0, 1) := by decide +kernel
theorem d_M_sendCluster_103 : decode prog_13_method_49_code 103 = .ok (.sipush 767, 3) := by decide +kernel
theorem d_M_sendCluster_106 : decode prog_13_method_49_code 106 = .ok (.iload 7, 2) := by decide +kernel
theorem d_M_sendCluster_108 : decode prog_13_method_49_code 108 = .ok (.iadd, 1) := by decide +kernel
theorem d_M_sendCluster_109 : decode prog_13_method_49_code 109 = .ok (.invokevirtual 291, 3) := by decide +kernel
theorem d_M_sendCluster_112 : decode prog_13_method_49_code 112 = .ok (.return_, 1) := by decide +kernel
theorem d_M_sendClusters_0 : decode prog_13_method_50_code 0 = .ok (.iload_n 2, 1) := by decide +kernel
theorem d_M_sendClusters_1 : decode prog_13_method_50_code 1 = .ok (.istore 4, 2) := by decide +kernel
theorem d_M_sendClusters_3 : decode prog_13_method_50_code 3 = .ok (.iload 4, 2) := by decide +kernel
theorem d_M_sendClusters_5 : decode prog_13_method_50_code 5 = .ok (.iload_n 3, 1) := by decide +kernel
theorem d_M_sendClusters_6 : decode prog_13_method_50_code 6 = .ok (.if_icmp .gt 47, 3) := by decide +kernel
theorem d_M_sendClusters_9 : decode prog_13_method_50_code 9 = .ok (.aload_n 0, 1) := by decide +kernel
theorem d_M_sendClusters_10 : decode prog_13_method_50_code 10 = .ok (.iload_n 1, 1) := by decide +kernel
theorem d_M_sendClusters_11 : decode prog_13_method_50_code 11 = .ok (.iload 4, 2) := by decide +kernel
theorem d_M_sendClusters_13 : decode prog_13_method_50_code 13 = .ok (.invokevirtual 294, 3) := by decide +kernel
theorem d_M_sendClusters_16 : decode prog_13_method_50_code 16 = .ok (.iload 4, 2) := by decide +kernel
theorem d_M_sendClusters_18 : decode prog_13_method_50_code 18 = .ok (.aload_n 0, 1) := by decide +kernel
theorem d_M_sendClusters_19 : decode prog_13_method_50_code 19 = .ok (.getfield 50, 3) := by decide +kernel
theorem d_M_sendClusters_22 : decode prog_13_method_50_code 22 = .ok (.aload_n 0, 1) := by decide +kernel
theorem d_M_sendClusters_23 : decode prog_13_method_50_code 23 = .ok (.getfield 78, 3) := by decide +kernel
theorem d_M_sendClusters_26 : decode prog_13_method_50_code 26 = .ok (.iload_n 1, 1) := by decide +kernel
theorem d_M_sendClusters_27 : decode prog_13_method_50_code 27 = .ok (.imul, 1) := by decide +kernel
theorem d_M_sendClusters_28 : decode prog_13_method_50_code 28 = .ok (.iload 4, 2) := by decide +kernel
theorem d_M_sendClusters_30 : decode prog_13_method_50_code 30 = .ok (.iadd, 1) := by decide +kernel
theorem d_M_sendClusters_31 : decode prog_13_method_50_code 31 = .ok (.iaload, 1) := by decide +kernel
theorem d_M_sendClusters_32 : decode prog_13_method_50_code 32 = .ok (.ldc_w 256, 3) := by decide +kernel
theorem d_M_sendClusters_35 : decode prog_13_method_50_code 35 = .ok (.iand, 1) := by decide +kernel
theorem d_M_sendClusters_36 : decode prog_13_method_50_code 36 = .ok (.invokestatic 97, 3) := by decide +kernel
theorem d_M_sendClusters_39 : decode prog_13_method_50_code 39 = .ok (.ifCond .eq 7, 3) := by decide +kernel
theorem d_M_sendClusters_42 : decode prog_13_method_50_code 42 = .ok (.iconst 2, 1) := by decide +kernel
theorem d_M_sendClusters_43 : decode prog_13_method_50_code 43 = .ok (.goto 4, 3) := by decide +kernel
theorem d_M_sendClusters_46 : decode prog_13_method_50_code 46 = .ok (.iconst 1, 1) := by decide +kernel
theorem d_M_sendClusters_47 : decode prog_13_method_50_code 47 = .ok (.iadd, 1) := by decide +kernel
theorem d_M_sendClusters_48 : decode prog_13_method_50_code 48 = .ok (.istore 4, 2) := by decide +kernel
theorem d_M_sendClusters_50 : decode prog_13_method_50_code 50 = .ok (.goto (-47), 3) := by decide +kernel
theorem d_M_sendClusters_53 : decode prog_13_method_50_code 53 = .ok (.return_, 1) := by decide +kernel
theorem d_M_differs_0 : decode prog_13_method_51_code 0 = .ok (.aload_n 0, 1) := by decide +kernel
theorem d_M_differs_1 : decode prog_13_method_51_code 1 = .ok (.getfield 50, 3) := by decide +kernel
theorem d_M_differs_4 : decode prog_13_method_51_code 4 = .ok (.iload_n 1, 1) := by decide +kernel
theorem d_M_differs_5 : decode prog_13_method_51_code 5 = .ok (.iaload, 1) := by decide +kernel
theorem d_M_differs_6 : decode prog_13_method_51_code 6 = .ok (.aload_n 0, 1) := by decide +kernel
theorem d_M_differs_7 : decode prog_13_method_51_code 7 = .ok (.getfield 56, 3) := by decide +kernel
theorem d_M_differs_10 : decode prog_13_method_51_code 10 = .ok (.iload_n 1, 1) := by decide +kernel
theorem d_M_differs_11 : decode prog_13_method_51_code 11 = .ok (.iaload, 1) := by decide +kernel
theorem d_M_differs_12 : decode prog_13_method_51_code 12 = .ok (.if_icmp .ne 18, 3) := by decide +kernel
theorem d_M_differs_15 : decode prog_13_method_51_code 15 = .ok (.aload_n 0, 1) := by decide +kernel
theorem d_M_differs_16 : decode prog_13_method_51_code 16 = .ok (.getfield 53, 3) := by decide +kernel
theorem d_M_differs_19 : decode prog_13_method_51_code 19 = .ok (.iload_n 1, 1) := by decide +kernel
theorem d_M_differs_20 : decode prog_13_method_51_code 20 = .ok (.iaload, 1) := by decide +kernel
theorem d_M_differs_21 : decode prog_13_method_51_code 21 = .ok (.aload_n 0, 1) := by decide +kernel
theorem d_M_differs_22 : decode prog_13_method_51_code 22 = .ok (.getfield 59, 3) := by decide +kernel
theorem d_M_differs_25 : decode prog_13_method_51_code 25 = .ok (.iload_n 1, 1) := by decide +kernel
theorem d_M_differs_26 : decode prog_13_method_51_code 26 = .ok (.iaload, 1) := by decide +kernel
theorem d_M_differs_27 : decode prog_13_method_51_code 27 = .ok (.if_icmp .eq 7, 3) := by decide +kernel
theorem d_M_differs_30 : decode prog_13_method_51_code 30 = .ok (.iconst 1, 1) := by decide +kernel
theorem d_M_differs_31 : decode prog_13_method_51_code 31 = .ok (.goto 4, 3) := by decide +kernel
theorem d_M_differs_34 : decode prog_13_method_51_code 34 = .ok (.iconst 0, 1) := by decide +kernel
theorem d_M_differs_35 : decode prog_13_method_51_code 35 = .ok (.ireturn, 1) := by decide +kernel
theorem d_M_drawRow_0 : decode prog_13_method_52_code 0 = .ok (.aload_n 0, 1) := by decide +kernel
theorem d_M_drawRow_1 : decode prog_13_method_52_code 1 = .ok (.getfield 78, 3) := by decide +kernel
theorem d_M_drawRow_4 : decode prog_13_method_52_code 4 = .ok (.iload_n 1, 1) := by decide +kernel
theorem d_M_drawRow_5 : decode prog_13_method_52_code 5 = .ok (.imul, 1) := by decide +kernel
theorem d_M_drawRow_6 : decode prog_13_method_52_code 6 = .ok (.istore_n 2, 1) := by decide +kernel
theorem d_M_drawRow_7 : decode prog_13_method_52_code 7 = .ok (.iconst 0, 1) := by decide +kernel
theorem d_M_drawRow_8 : decode prog_13_method_52_code 8 = .ok (.istore_n 3, 1) := by decide +kernel
theorem d_M_drawRow_9 : decode prog_13_method_52_code 9 = .ok (.iload_n 3, 1) := by decide +kernel
theorem d_M_drawRow_10 : decode prog_13_method_52_code 10 = .ok (.aload_n 0, 1) := by decide +kernel
theorem d_M_drawRow_11 : decode prog_13_method_52_code 11 = .ok (.getfield 78, 3) := by decide +kernel
theorem d_M_drawRow_14 : decode prog_13_method_52_code 14 = .ok (.if_icmp .ge 19, 3) := by decide +kernel
theorem d_M_drawRow_17 : decode prog_13_method_52_code 17 = .ok (.aload_n 0, 1) := by decide +kernel
theorem d_M_drawRow_18 : decode prog_13_method_52_code 18 = .ok (.iload_n 2, 1) := by decide +kernel
theorem d_M_drawRow_19 : decode prog_13_method_52_code 19 = .ok (.iload_n 3, 1) := by decide +kernel
theorem d_M_drawRow_20 : decode prog_13_method_52_code 20 = .ok (.iadd, 1) := by decide +kernel
theorem d_M_drawRow_21 : decode prog_13_method_52_code 21 = .ok (.invokevirtual 297, 3) := by decide +kernel
theorem d_M_drawRow_24 : decode prog_13_method_52_code 24 = .ok (.ifCond .ne 9, 3) := by decide +kernel
theorem d_M_drawRow_27 : decode prog_13_method_52_code 27 = .ok (.iinc 3 1, 3) := by decide +kernel
theorem d_M_drawRow_30 : decode prog_13_method_52_code 30 = .ok (.goto (-21), 3) := by decide +kernel
theorem d_M_drawRow_33 : decode prog_13_method_52_code 33 = .ok (.iload_n 3, 1) := by decide +kernel
theorem d_M_drawRow_34 : decode prog_13_method_52_code 34 = .ok (.aload_n 0, 1) := by decide +kernel
theorem d_M_drawRow_35 : decode prog_13_method_52_code 35 = .ok (.getfield 78, 3) := by decide +kernel
theorem d_M_drawRow_38 : decode prog_13_method_52_code 38 = .ok (.if_icmp .ne 4, 3) := by decide +kernel
theorem d_M_drawRow_41 : decode prog_13_method_52_code 41 = .ok (.return_, 1) := by decide +kernel
theorem d_M_drawRow_42 : decode prog_13_method_52_code 42 = .ok (.aload_n 0, 1) := by decide +kernel
theorem d_M_drawRow_43 : decode prog_13_method_52_code 43 = .ok (.getfield 78, 3) := by decide +kernel
theorem d_M_drawRow_46 : decode prog_13_method_52_code 46 = .ok (.iconst 1, 1) := by decide +kernel
theorem d_M_drawRow_47 : decode prog_13_method_52_code 47 = .ok (.isub, 1) := by decide +kernel
theorem d_M_drawRow_48 : decode prog_13_method_52_code 48 = .ok (.istore 4, 2) := by decide +kernel
theorem d_M_drawRow_50 : decode prog_13_method_52_code 50 = .ok (.aload_n 0, 1) := by decide +kernel
theorem d_M_drawRow_51 : decode prog_13_method_52_code 51 = .ok (.iload_n 2, 1) := by decide +kernel
theorem d_M_drawRow_52 : decode prog_13_method_52_code 52 = .ok (.iload 4, 2) := by decide +kernel
theorem d_M_drawRow_54 : decode prog_13_method_52_code 54 = .ok (.iadd, 1) := by decide +kernel
theorem d_M_drawRow_55 : decode prog_13_method_52_code 55 = .ok (.invokevirtual 297, 3) := by decide +kernel
theorem d_M_drawRow_58 : decode prog_13_method_52_code 58 = .ok (.ifCond .ne 9, 3) := by decide +kernel
theorem d_M_drawRow_61 : decode prog_13_method_52_code 61 = .ok (.iinc 4 (-1), 3) := by decide +kernel
theorem d_M_drawRow_64 : decode prog_13_method_52_code 64 = .ok (.goto (-14), 3) := by decide +kernel
theorem d_M_drawRow_67 : decode prog_13_method_52_code 67 = .ok (.aload_n 0, 1) := by decide +kernel
theorem d_M_drawRow_68 : decode prog_13_method_52_code 68 = .ok (.getfield 50, 3) := by decide +kernel
theorem d_M_drawRow_71 : decode prog_13_method_52_code 71 = .ok (.iload_n 2, 1) := by decide +kernel
theorem d_M_drawRow_72 : decode prog_13_method_52_code 72 = .ok (.iload_n 3, 1) := by decide +kernel
theorem d_M_drawRow_73 : decode prog_13_method_52_code 73 = .ok (.iadd, 1) := by decide +kernel
theorem d_M_drawRow_74 : decode prog_13_method_52_code 74 = .ok (.iaload, 1) := by decide +kernel
theorem d_M_drawRow_75 : decode prog_13_method_52_code 75 = .ok (.ifCond .ne 6, 3) := by decide +kernel
theorem d_M_drawRow_78 : decode prog_13_method_52_code 78 = .ok (.iinc 3 (-1), 3) := by decide +kernel
theorem d_M_drawRow_81 : decode prog_13_method_52_code 81 = .ok (.aload_n 0, 1) := by decide +kernel
theorem d_M_drawRow_82 : decode prog_13_method_52_code 82 = .ok (.getfield 78, 3) := by decide +kernel
theorem d_M_drawRow_85 : decode prog_13_method_52_code 85 = .ok (.istore 5, 2) := by decide +kernel
theorem d_M_drawRow_87 : decode prog_13_method_52_code 87 = .ok (.iload 5, 2) := by decide +kernel
theorem d_M_drawRow_89 : decode prog_13_method_52_code 89 = .ok (.ifCond .le 39, 3) := by decide +kernel
theorem d_M_drawRow_92 : decode prog_13_method_52_code 92 = .ok (.aload_n 0, 1) := by decide +kernel
theorem d_M_drawRow_93 : decode prog_13_method_52_code 93 = .ok (.getfield 50, 3) := by decide +kernel
theorem d_M_drawRow_96 : decode prog_13_method_52_code 96 = .ok (.iload_n 2, 1) := by decide +kernel
theorem d_M_drawRow_97 : decode prog_13_method_52_code 97 = .ok (.iload 5, 2) := by decide +kernel
theorem d_M_drawRow_99 : decode prog_13_method_52_code 99 = .ok (.iadd, 1) := by decide +kernel
theorem d_M_drawRow_100 : decode prog_13_method_52_code 100 = .ok (.iconst 1, 1) := by decide +kernel
theorem d_M_drawRow_101 : decode prog_13_method_52_code 101 = .ok (.isub, 1) := by decide +kernel
theorem d_M_drawRow_102 : decode prog_13_method_52_code 102 = .ok (.iaload, 1) := by decide +kernel
theorem d_M_drawRow_103 : decode prog_13_method_52_code 103 = .ok (.bipush 32, 2) := by decide +kernel
theorem d_M_drawRow_105 : decode prog_13_method_52_code 105 = .ok (.if_icmp .ne 23, 3) := by decide +kernel
theorem d_M_drawRow_108 : decode prog_13_method_52_code 108 = .ok (.aload_n 0, 1) := by decide +kernel
theorem d_M_drawRow_109 : decode prog_13_method_52_code 109 = .ok (.getfield 53, 3) := by decide +kernel
theorem d_M_drawRow_112 : decode prog_13_method_52_code 112 = .ok (.iload_n 2, 1) := by decide +kernel
theorem d_M_drawRow_113 : decode prog_13_method_52_code 113 = .ok (.iload 5, 2) := by decide +kernel
theorem d_M_drawRow_115 : decode prog_13_method_52_code 115 = .ok (.iadd, 1) := by decide +kernel
theorem d_M_drawRow_116 : decode prog_13_method_52_code 116 = .ok (.iconst 1, 1) := by decide +kernel
theorem d_M_drawRow_117 : decode prog_13_method_52_code 117 = .ok (.isub, 1) := by decide +kernel
theorem d_M_drawRow_118 : decode prog_13_method_52_code 118 = .ok (.iaload, 1) := by decide +kernel
theorem d_M_drawRow_119 : decode prog_13_method_52_code 119 = .ok (.ifCond .ne 9, 3) := by decide +kernel
theorem d_M_drawRow_122 : decode prog_13_method_52_code 122 = .ok (.iinc 5 (-1), 3) := by decide +kernel
theorem d_M_drawRow_125 : decode prog_13_method_52_code 125 = .ok (.goto (-38), 3) := by decide +kernel
theorem d_M_drawRow_128 : decode prog_13_method_52_code 128 = .ok (.iload_n 3, 1) := by decide +kernel
theorem d_M_drawRow_129 : decode prog_13_method_52_code 129 = .ok (.iload 5, 2) := by decide +kernel
theorem d_M_drawRow_131 : decode prog_13_method_52_code 131 = .ok (.if_icmp .le 7, 3) := by decide +kernel
theorem d_M_drawRow_134 : decode prog_13_method_52_code 134 = .ok (.iload_n 3, 1) := by decide +kernel
theorem d_M_drawRow_135 : decode prog_13_method_52_code 135 = .ok (.goto 5, 3) := by decide +kernel
theorem d_M_drawRow_138 : decode prog_13_method_52_code 138 = .ok (.iload 5, 2) := by decide +kernel
theorem d_M_drawRow_140 : decode prog_13_method_52_code 140 = .ok (.istore 6, 2) := by decide +kernel
theorem d_M_drawRow_142 : decode prog_13_method_52_code 142 = .ok (.iload 4, 2) := by decide +kernel
theorem d_M_drawRow_144 : decode prog_13_method_52_code 144 = .ok (.iload 6, 2) := by decide +kernel
theorem d_M_drawRow_146 : decode prog_13_method_52_code 146 = .ok (.isub, 1) := by decide +kernel
theorem d_M_drawRow_147 : decode prog_13_method_52_code 147 = .ok (.iconst 1, 1) := by decide +kernel
theorem d_M_drawRow_148 : decode prog_13_method_52_code 148 = .ok (.iadd, 1) := by decide +kernel
theorem d_M_drawRow_149 : decode prog_13_method_52_code 149 = .ok (.iconst 3, 1) := by decide +kernel
theorem d_M_drawRow_150 : decode prog_13_method_52_code 150 = .ok (.if_icmp .gt 12, 3) := by decide +kernel
theorem d_M_drawRow_153 : decode prog_13_method_52_code 153 = .ok (.aload_n 0, 1) := by decide +kernel
theorem d_M_drawRow_154 : decode prog_13_method_52_code 154 = .ok (.iload_n 1, 1) := by decide +kernel
theorem d_M_drawRow_155 : decode prog_13_method_52_code 155 = .ok (.iload_n 3, 1) := by decide +kernel
theorem d_M_drawRow_156 : decode prog_13_method_52_code 156 = .ok (.iload 4, 2) := by decide +kernel
theorem d_M_drawRow_158 : decode prog_13_method_52_code 158 = .ok (.invokevirtual 300, 3) := by decide +kernel
theorem d_M_drawRow_161 : decode prog_13_method_52_code 161 = .ok (.return_, 1) := by decide +kernel
theorem d_M_drawRow_162 : decode prog_13_method_52_code 162 = .ok (.aload_n 0, 1) := by decide +kernel
theorem d_M_drawRow_163 : decode prog_13_method_52_code 163 = .ok (.iload_n 1, 1) := by decide +kernel
theorem d_M_drawRow_164 : decode prog_13_method_52_code 164 = .ok (.iload_n 3, 1) := by decide +kernel
theorem d_M_drawRow_165 : decode prog_13_method_52_code 165 = .ok (.iload 5, 2) := by decide +kernel
theorem d_M_drawRow_167 : decode prog_13_method_52_code 167 = .ok (.iconst 1, 1) := by decide +kernel
theorem d_M_drawRow_168 : decode prog_13_method_52_code 168 = .ok (.isub, 1) := by decide +kernel
theorem d_M_drawRow_169 : decode prog_13_method_52_code 169 = .ok (.invokevirtual 300, 3) := by decide +kernel
theorem d_M_drawRow_172 : decode prog_13_method_52_code 172 = .ok (.aload_n 0, 1) := by decide +kernel
theorem d_M_drawRow_173 : decode prog_13_method_52_code 173 = .ok (.iload_n 1, 1) := by decide +kernel
theorem d_M_drawRow_174 : decode prog_13_method_52_code 174 = .ok (.iload 6, 2) := by decide +kernel
theorem d_M_drawRow_176 : decode prog_13_method_52_code 176 = .ok (.iconst 0, 1) := by decide +kernel
theorem d_M_drawRow_177 : decode prog_13_method_52_code 177 = .ok (.invokevirtual 284, 3) := by decide +kernel
theorem d_M_drawRow_180 : decode prog_13_method_52_code 180 = .ok (.aload_n 0, 1) := by decide +kernel
theorem d_M_drawRow_181 : decode prog_13_method_52_code 181 = .ok (.invokevirtual 275, 3) := by decide +kernel
theorem d_M_drawRow_184 : decode prog_13_method_52_code 184 = .ok (.aload_n 0, 1) := by decide +kernel
theorem d_M_drawRow_185 : decode prog_13_method_52_code 185 = .ok (.bipush 75, 2) := by decide +kernel
theorem d_M_drawRow_187 : decode prog_13_method_52_code 187 = .ok (.invokevirtual 253, 3) := by decide +kernel
theorem d_M_drawRow_190 : decode prog_13_method_52_code 190 = .ok (.iload 6, 2) := by decide +kernel
theorem d_M_drawRow_192 : decode prog_13_method_52_code 192 = .ok (.istore 7, 2) := by decide +kernel
theorem d_M_drawRow_194 : decode prog_13_method_52_code 194 = .ok (.iload 7, 2) := by decide +kernel
theorem d_M_drawRow_196 : decode prog_13_method_52_code 196 = .ok (.aload_n 0, 1) := by decide +kernel
theorem d_M_drawRow_197 : decode prog_13_method_52_code 197 = .ok (.getfield 78, 3) := by decide +kernel
theorem d_M_drawRow_200 : decode prog_13_method_52_code 200 = .ok (.if_icmp .ge 30, 3) := by decide +kernel
theorem d_M_drawRow_203 : decode prog_13_method_52_code 203 = .ok (.aload_n 0, 1) := by decide +kernel
theorem d_M_drawRow_204 : decode prog_13_method_52_code 204 = .ok (.getfield 56, 3) := by decide +kernel
theorem d_M_drawRow_207 : decode prog_13_method_52_code 207 = .ok (.iload_n 2, 1) := by decide +kernel
theorem d_M_drawRow_208 : decode prog_13_method_52_code 208 = .ok (.iload 7, 2) := by decide +kernel
theorem d_M_drawRow_210 : decode prog_13_method_52_code 210 = .ok (.iadd, 1) := by decide +kernel
theorem d_M_drawRow_211 : decode prog_13_method_52_code 211 = .ok (.bipush 32, 2) := by decide +kernel
theorem d_M_drawRow_213 : decode prog_13_method_52_code 213 = .ok (.iastore, 1) := by decide +kernel
theorem d_M_drawRow_214 : decode prog_13_method_52_code 214 = .ok (.aload_n 0, 1) := by decide +kernel
theorem d_M_drawRow_215 : decode prog_13_method_52_code 215 = .ok (.getfield 59, 3) := by decide +kernel
theorem d_M_drawRow_218 : decode prog_13_method_52_code 218 = .ok (.iload_n 2, 1) := by decide +kernel
theorem d_M_drawRow_219 : decode prog_13_method_52_code 219 = .ok (.iload 7, 2) := by decide +kernel
theorem d_M_drawRow_221 : decode prog_13_method_52_code 221 = .ok (.iadd, 1) := by decide +kernel
theorem d_M_drawRow_222 : decode prog_13_method_52_code 222 = .ok (.iconst 0, 1) := by decide +kernel
theorem d_M_drawRow_223 : decode prog_13_method_52_code 223 = .ok (.iastore, 1) := by decide +kernel
theorem d_M_drawRow_224 : decode prog_13_method_52_code 224 = .ok (.iinc 7 1, 3) := by decide +kernel
theorem d_M_drawRow_227 : decode prog_13_method_52_code 227 = .ok (.goto (-33), 3) := by decide +kernel
theorem d_M_drawRow_230 : decode prog_13_method_52_code 230 = .ok (.aload_n 0, 1) := by decide +kernel
theorem d_M_drawRow_231 : decode prog_13_method_52_code 231 = .ok (.iconst 0, 1) := by decide +kernel
theorem d_M_drawRow_232 : decode prog_13_method_52_code 232 = .ok (.putfield 260, 3) := by decide +kernel
theorem d_M_drawRow_235 : decode prog_13_method_52_code 235 = .ok (.aload_n 0, 1) := by decide +kernel
theorem d_M_drawRow_236 : decode prog_13_method_52_code 236 = .ok (.iconst (-1), 1) := by decide +kernel
theorem d_M_drawRow_237 : decode prog_13_method_52_code 237 = .ok (.putfield 68, 3) := by decide +kernel
theorem d_M_drawRow_240 : decode prog_13_method_52_code 240 = .ok (.return_, 1) := by decide +kernel
theorem d_M_draw_0 : decode prog_13_method_53_code 0 = .ok (.aload_n 0, 1) := by decide +kernel
theorem d_M_draw_1 : decode prog_13_method_53_code 1 = .ok (.iconst 0, 1) := by decide +kernel
theorem d_M_draw_2 : decode prog_13_method_53_code 2 = .ok (.putfield 250, 3) := by decide +kernel
theorem d_M_draw_5 : decode prog_13_method_53_code 5 = .ok (.aload_n 0, 1) := by decide +kernel
theorem d_M_draw_6 : decode prog_13_method_53_code 6 = .ok (.invokevirtual 303, 3) := by decide +kernel
theorem d_M_draw_9 : decode prog_13_method_53_code 9 = .ok (.aload_n 0, 1) := by decide +kernel
theorem d_M_draw_10 : decode prog_13_method_53_code 10 = .ok (.getfield 71, 3) := by decide +kernel
theorem d_M_draw_13 : decode prog_13_method_53_code 13 = .ok (.ifCond .eq 69, 3) := by decide +kernel
theorem d_M_draw_16 : decode prog_13_method_53_code 16 = .ok (.aload_n 0, 1) := by decide +kernel
theorem d_M_draw_17 : decode prog_13_method_53_code 17 = .ok (.iconst 0, 1) := by decide +kernel
theorem d_M_draw_18 : decode prog_13_method_53_code 18 = .ok (.invokevirtual 288, 3) := by decide +kernel
theorem d_M_draw_21 : decode prog_13_method_53_code 21 = .ok (.aload_n 0, 1) := by decide +kernel
theorem d_M_draw_22 : decode prog_13_method_53_code 22 = .ok (.invokevirtual 275, 3) := by decide +kernel
theorem d_M_draw_25 : decode prog_13_method_53_code 25 = .ok (.aload_n 0, 1) := by decide +kernel
theorem d_M_draw_26 : decode prog_13_method_53_code 26 = .ok (.bipush 50, 2) := by decide +kernel
theorem d_M_draw_28 : decode prog_13_method_53_code 28 = .ok (.invokevirtual 253, 3) := by decide +kernel
theorem d_M_draw_31 : decode prog_13_method_53_code 31 = .ok (.aload_n 0, 1) := by decide +kernel
theorem d_M_draw_32 : decode prog_13_method_53_code 32 = .ok (.bipush 74, 2) := by decide +kernel
theorem d_M_draw_34 : decode prog_13_method_53_code 34 = .ok (.invokevirtual 253, 3) := by decide +kernel
theorem d_M_draw_37 : decode prog_13_method_53_code 37 = .ok (.iconst 0, 1) := by decide +kernel
theorem d_M_draw_38 : decode prog_13_method_53_code 38 = .ok (.istore_n 1, 1) := by decide +kernel
theorem d_M_draw_39 : decode prog_13_method_53_code 39 = .ok (.iload_n 1, 1) := by decide +kernel
theorem d_M_draw_40 : decode prog_13_method_53_code 40 = .ok (.sipush 192, 3) := by decide +kernel
theorem d_M_draw_43 : decode prog_13_method_53_code 43 = .ok (.if_icmp .ge 24, 3) := by decide +kernel
theorem d_M_draw_46 : decode prog_13_method_53_code 46 = .ok (.aload_n 0, 1) := by decide +kernel
theorem d_M_draw_47 : decode prog_13_method_53_code 47 = .ok (.getfield 56, 3) := by decide +kernel
theorem d_M_draw_50 : decode prog_13_method_53_code 50 = .ok (.iload_n 1, 1) := by decide +kernel
theorem d_M_draw_51 : decode prog_13_method_53_code 51 = .ok (.bipush 32, 2) := by decide +kernel
theorem d_M_draw_53 : decode prog_13_method_53_code 53 = .ok (.iastore, 1) := by decide +kernel
theorem d_M_draw_54 : decode prog_13_method_53_code 54 = .ok (.aload_n 0, 1) := by decide +kernel
theorem d_M_draw_55 : decode prog_13_method_53_code 55 = .ok (.getfield 59, 3) := by decide +kernel
theorem d_M_draw_58 : decode prog_13_method_53_code 58 = .ok (.iload_n 1, 1) := by decide +kernel
theorem d_M_draw_59 : decode prog_13_method_53_code 59 = .ok (.iconst 0, 1) := by decide +kernel
theorem d_M_draw_60 : decode prog_13_method_53_code 60 = .ok (.iastore, 1) := by decide +kernel
theorem d_M_draw_61 : decode prog_13_method_53_code 61 = .ok (.iinc 1 1, 3) := by decide +kernel
theorem d_M_draw_64 : decode prog_13_method_53_code 64 = .ok (.goto (-25), 3) := by decide +kernel
theorem d_M_draw_67 : decode prog_13_method_53_code 67 = .ok (.aload_n 0, 1) := by decide +kernel
theorem d_M_draw_68 : decode prog_13_method_53_code 68 = .ok (.iconst 0, 1) := by decide +kernel
theorem d_M_draw_69 : decode prog_13_method_53_code 69 = .ok (.putfield 260, 3) := by decide +kernel
theorem d_M_draw_72 : decode prog_13_method_53_code 72 = .ok (.aload_n 0, 1) := by decide +kernel
theorem d_M_draw_73 : decode prog_13_method_53_code 73 = .ok (.iconst (-1), 1) := by decide +kernel
theorem d_M_draw_74 : decode prog_13_method_53_code 74 = .ok (.putfield 68, 3) := by decide +kernel
theorem d_M_draw_77 : decode prog_13_method_53_code 77 = .ok (.aload_n 0, 1) := by decide +kernel
theorem d_M_draw_78 : decode prog_13_method_53_code 78 = .ok (.iconst 0, 1) := by decide +kernel
theorem d_M_draw_79 : decode prog_13_method_53_code 79 = .ok (.putfield 71, 3) := by decide +kernel
theorem d_M_draw_82 : decode prog_13_method_53_code 82 = .ok (.iconst 0, 1) := by decide +kernel
theorem d_M_draw_83 : decode prog_13_method_53_code 83 = .ok (.istore_n 1, 1) := by decide +kernel
theorem d_M_draw_84 : decode prog_13_method_53_code 84 = .ok (.iload_n 1, 1) := by decide +kernel
theorem d_M_draw_85 : decode prog_13_method_53_code 85 = .ok (.aload_n 0, 1) := by decide +kernel
theorem d_M_draw_86 : decode prog_13_method_53_code 86 = .ok (.getfield 81, 3) := by decide +kernel
theorem d_M_draw_89 : decode prog_13_method_53_code 89 = .ok (.if_icmp .ge 14, 3) := by decide +kernel
theorem d_M_draw_92 : decode prog_13_method_53_code 92 = .ok (.aload_n 0, 1) := by decide +kernel
theorem d_M_draw_93 : decode prog_13_method_53_code 93 = .ok (.iload_n 1, 1) := by decide +kernel
theorem d_M_draw_94 : decode prog_13_method_53_code 94 = .ok (.invokevirtual 306, 3) := by decide +kernel
theorem d_M_draw_97 : decode prog_13_method_53_code 97 = .ok (.iinc 1 1, 3) := by decide +kernel
theorem d_M_draw_100 : decode prog_13_method_53_code 100 = .ok (.goto (-16), 3) := by decide +kernel
theorem d_M_draw_103 : decode prog_13_method_53_code 103 = .ok (.aload_n 0, 1) := by decide +kernel
theorem d_M_draw_104 : decode prog_13_method_53_code 104 = .ok (.aload_n 0, 1) := by decide +kernel
theorem d_M_draw_105 : decode prog_13_method_53_code 105 = .ok (.getfield 234, 3) := by decide +kernel
theorem d_M_draw_108 : decode prog_13_method_53_code 108 = .ok (.aload_n 0, 1) := by decide +kernel
theorem d_M_draw_109 : decode prog_13_method_53_code 109 = .ok (.getfield 237, 3) := by decide +kernel
theorem d_M_draw_112 : decode prog_13_method_53_code 112 = .ok (.iconst 0, 1) := by decide +kernel
theorem d_M_draw_113 : decode prog_13_method_53_code 113 = .ok (.invokevirtual 284, 3) := by decide +kernel
theorem d_M_draw_116 : decode prog_13_method_53_code 116 = .ok (.aload_n 0, 1) := by decide +kernel
theorem d_M_draw_117 : decode prog_13_method_53_code 117 = .ok (.getfield 250, 3) := by decide +kernel
theorem d_M_draw_120 : decode prog_13_method_53_code 120 = .ok (.ireturn, 1) := by decide +kernel
theorem d_M_size_0 : decode prog_13_method_54_code 0 = .ok (.iload_n 1, 1) := by decide +kernel
theorem d_M_size_1 : decode prog_13_method_54_code 1 = .ok (.iconst 1, 1) := by decide +kernel
theorem d_M_size_2 : decode prog_13_method_54_code 2 = .ok (.if_icmp .lt 20, 3) := by decide +kernel
theorem d_M_size_5 : decode prog_13_method_54_code 5 = .ok (.iload_n 1, 1) := by decide +kernel
theorem d_M_size_6 : decode prog_13_method_54_code 6 = .ok (.bipush 24, 2) := by decide +kernel
theorem d_M_size_8 : decode prog_13_method_54_code 8 = .ok (.if_icmp .gt 14, 3) := by decide +kernel
theorem d_M_size_11 : decode prog_13_method_54_code 11 = .ok (.iload_n 2, 1) := by decide +kernel
theorem d_M_size_12 : decode prog_13_method_54_code 12 = .ok (.iconst 1, 1) := by decide +kernel
theorem d_M_size_13 : decode prog_13_method_54_code 13 = .ok (.if_icmp .lt 9, 3) := by decide +kernel
theorem d_M_size_16 : decode prog_13_method_54_code 16 = .ok (.iload_n 2, 1) := by decide +kernel
theorem d_M_size_17 : decode prog_13_method_54_code 17 = .ok (.bipush 8, 2) := by decide +kernel
theorem d_M_size_19 : decode prog_13_method_54_code 19 = .ok (.if_icmp .le 5, 3) := by decide +kernel
theorem d_M_size_22 : decode prog_13_method_54_code 22 = .ok (.iconst 0, 1) := by decide +kernel
theorem d_M_size_23 : decode prog_13_method_54_code 23 = .ok (.ireturn, 1) := by decide +kernel
theorem d_M_size_24 : decode prog_13_method_54_code 24 = .ok (.iconst 0, 1) := by decide +kernel
theorem d_M_size_25 : decode prog_13_method_54_code 25 = .ok (.istore_n 3, 1) := by decide +kernel
theorem d_M_size_26 : decode prog_13_method_54_code 26 = .ok (.iload_n 3, 1) := by decide +kernel
theorem d_M_size_27 : decode prog_13_method_54_code 27 = .ok (.sipush 192, 3) := by decide +kernel
theorem d_M_size_30 : decode prog_13_method_54_code 30 = .ok (.if_icmp .ge 33, 3) := by decide +kernel
theorem d_M_size_33 : decode prog_13_method_54_code 33 = .ok (.aload_n 0, 1) := by decide +kernel
theorem d_M_size_34 : decode prog_13_method_54_code 34 = .ok (.getfield 62, 3) := by decide +kernel
theorem d_M_size_37 : decode prog_13_method_54_code 37 = .ok (.iload_n 3, 1) := by decide +kernel
theorem d_M_size_38 : decode prog_13_method_54_code 38 = .ok (.aload_n 0, 1) := by decide +kernel
theorem d_M_size_39 : decode prog_13_method_54_code 39 = .ok (.getfield 56, 3) := by decide +kernel
theorem d_M_size_42 : decode prog_13_method_54_code 42 = .ok (.iload_n 3, 1) := by decide +kernel
theorem d_M_size_43 : decode prog_13_method_54_code 43 = .ok (.iaload, 1) := by decide +kernel
theorem d_M_size_44 : decode prog_13_method_54_code 44 = .ok (.iastore, 1) := by decide +kernel
theorem d_M_size_45 : decode prog_13_method_54_code 45 = .ok (.aload_n 0, 1) := by decide +kernel
theorem d_M_size_46 : decode prog_13_method_54_code 46 = .ok (.getfield 65, 3) := by decide +kernel
theorem d_M_size_49 : decode prog_13_method_54_code 49 = .ok (.iload_n 3, 1) := by decide +kernel
theorem d_M_size_50 : decode prog_13_method_54_code 50 = .ok (.aload_n 0, 1) := by decide +kernel
theorem d_M_size_51 : decode prog_13_method_54_code 51 = .ok (.getfield 59, 3) := by decide +kernel
theorem d_M_size_54 : decode prog_13_method_54_code 54 = .ok (.iload_n 3, 1) := by decide +kernel
theorem d_M_size_55 : decode prog_13_method_54_code 55 = .ok (.iaload, 1) := by decide +kernel
theorem d_M_size_56 : decode prog_13_method_54_code 56 = .ok (.iastore, 1) := by decide +kernel
theorem d_M_size_57 : decode prog_13_method_54_code 57 = .ok (.iinc 3 1, 3) := by decide +kernel
theorem d_M_size_60 : decode prog_13_method_54_code 60 = .ok (.goto (-34), 3) := by decide +kernel
theorem d_M_size_63 : decode prog_13_method_54_code 63 = .ok (.iconst 0, 1) := by decide +kernel
theorem d_M_size_64 : decode prog_13_method_54_code 64 = .ok (.istore_n 3, 1) := by decide +kernel
theorem d_M_size_65 : decode prog_13_method_54_code 65 = .ok (.iload_n 3, 1) := by decide +kernel
theorem d_M_size_66 : decode prog_13_method_54_code 66 = .ok (.iload_n 2, 1) := by decide +kernel
theorem d_M_size_67 : decode prog_13_method_54_code 67 = .ok (.if_icmp .ge 170, 3) := by decide +kernel
theorem d_M_size_70 : decode prog_13_method_54_code 70 = .ok (.iconst 0, 1) := by decide +kernel
theorem d_M_size_71 : decode prog_13_method_54_code 71 = .ok (.istore 4, 2) := by decide +kernel
theorem d_M_size_73 : decode prog_13_method_54_code 73 = .ok (.iload 4, 2) := by decide +kernel
theorem d_M_size_75 : decode prog_13_method_54_code 75 = .ok (.iload_n 1, 1) := by decide +kernel
theorem d_M_size_76 : decode prog_13_method_54_code 76 = .ok (.if_icmp .ge 155, 3) := by decide +kernel
theorem d_M_size_79 : decode prog_13_method_54_code 79 = .ok (.iload_n 1, 1) := by decide +kernel
theorem d_M_size_80 : decode prog_13_method_54_code 80 = .ok (.iload_n 3, 1) := by decide +kernel
theorem d_M_size_81 : decode prog_13_method_54_code 81 = .ok (.imul, 1) := by decide +kernel
theorem d_M_size_82 : decode prog_13_method_54_code 82 = .ok (.iload 4, 2) := by decide +kernel
theorem d_M_size_84 : decode prog_13_method_54_code 84 = .ok (.iadd, 1) := by decide +kernel
theorem d_M_size_85 : decode prog_13_method_54_code 85 = .ok (.istore 5, 2) := by decide +kernel
theorem d_M_size_87 : decode prog_13_method_54_code 87 = .ok (.iload_n 3, 1) := by decide +kernel
theorem d_M_size_88 : decode prog_13_method_54_code 88 = .ok (.aload_n 0, 1) := by decide +kernel
theorem d_M_size_89 : decode prog_13_method_54_code 89 = .ok (.getfield 81, 3) := by decide +kernel
theorem d_M_size_92 : decode prog_13_method_54_code 92 = .ok (.if_icmp .ge 16, 3) := by decide +kernel
theorem d_M_size_95 : decode prog_13_method_54_code 95 = .ok (.iload 4, 2) := by decide +kernel
theorem d_M_size_97 : decode prog_13_method_54_code 97 = .ok (.aload_n 0, 1) := by decide +kernel
theorem d_M_size_98 : decode prog_13_method_54_code 98 = .ok (.getfield 78, 3) := by decide +kernel
theorem d_M_size_101 : decode prog_13_method_54_code 101 = .ok (.if_icmp .ge 7, 3) := by decide +kernel
theorem d_M_size_104 : decode prog_13_method_54_code 104 = .ok (.iconst 1, 1) := by decide +kernel
theorem d_M_size_105 : decode prog_13_method_54_code 105 = .ok (.goto 4, 3) := by decide +kernel
theorem d_M_size_108 : decode prog_13_method_54_code 108 = .ok (.iconst 0, 1) := by decide +kernel
theorem d_M_size_109 : decode prog_13_method_54_code 109 = .ok (.istore 6, 2) := by decide +kernel
theorem d_M_size_111 : decode prog_13_method_54_code 111 = .ok (.iload 6, 2) := by decide +kernel
theorem d_M_size_113 : decode prog_13_method_54_code 113 = .ok (.ifCond .eq 15, 3) := by decide +kernel
theorem d_M_size_116 : decode prog_13_method_54_code 116 = .ok (.aload_n 0, 1) := by decide +kernel
theorem d_M_size_117 : decode prog_13_method_54_code 117 = .ok (.getfield 78, 3) := by decide +kernel
theorem d_M_size_120 : decode prog_13_method_54_code 120 = .ok (.iload_n 3, 1) := by decide +kernel
theorem d_M_size_121 : decode prog_13_method_54_code 121 = .ok (.imul, 1) := by decide +kernel
theorem d_M_size_122 : decode prog_13_method_54_code 122 = .ok (.iload 4, 2) := by decide +kernel
theorem d_M_size_124 : decode prog_13_method_54_code 124 = .ok (.iadd, 1) := by decide +kernel
theorem d_M_size_125 : decode prog_13_method_54_code 125 = .ok (.goto 4, 3) := by decide +kernel
theorem d_M_size_128 : decode prog_13_method_54_code 128 = .ok (.iconst 0, 1) := by decide +kernel
theorem d_M_size_129 : decode prog_13_method_54_code 129 = .ok (.istore 7, 2) := by decide +kernel
theorem d_M_size_131 : decode prog_13_method_54_code 131 = .ok (.iload 6, 2) := by decide +kernel
theorem d_M_size_133 : decode prog_13_method_54_code 133 = .ok (.ifCond .eq 32, 3) := by decide +kernel
theorem d_M_size_136 : decode prog_13_method_54_code 136 = .ok (.iload 4, 2) := by decide +kernel
theorem d_M_size_138 : decode prog_13_method_54_code 138 = .ok (.iload_n 1, 1) := by decide +kernel
theorem d_M_size_139 : decode prog_13_method_54_code 139 = .ok (.iconst 1, 1) := by decide +kernel
theorem d_M_size_140 : decode prog_13_method_54_code 140 = .ok (.isub, 1) := by decide +kernel
theorem d_M_size_141 : decode prog_13_method_54_code 141 = .ok (.if_icmp .ne 24, 3) := by decide +kernel
theorem d_M_size_144 : decode prog_13_method_54_code 144 = .ok (.aload_n 0, 1) := by decide +kernel
theorem d_M_size_145 : decode prog_13_method_54_code 145 = .ok (.getfield 62, 3) := by decide +kernel
theorem d_M_size_148 : decode prog_13_method_54_code 148 = .ok (.iload 7, 2) := by decide +kernel
theorem d_M_size_150 : decode prog_13_method_54_code 150 = .ok (.iaload, 1) := by decide +kernel
theorem d_M_size_151 : decode prog_13_method_54_code 151 = .ok (.ldc_w 256, 3) := by decide +kernel
theorem d_M_size_154 : decode prog_13_method_54_code 154 = .ok (.iand, 1) := by decide +kernel
theorem d_M_size_155 : decode prog_13_method_54_code 155 = .ok (.invokestatic 97, 3) := by decide +kernel
theorem d_M_size_158 : decode prog_13_method_54_code 158 = .ok (.ifCond .eq 7, 3) := by decide +kernel
theorem d_M_size_161 : decode prog_13_method_54_code 161 = .ok (.iconst 1, 1) := by decide +kernel
theorem d_M_size_162 : decode prog_13_method_54_code 162 = .ok (.goto 4, 3) := by decide +kernel
theorem d_M_size_165 : decode prog_13_method_54_code 165 = .ok (.iconst 0, 1) := by decide +kernel
theorem d_M_size_166 : decode prog_13_method_54_code 166 = .ok (.istore 8, 2) := by decide +kernel
theorem d_M_size_168 : decode prog_13_method_54_code 168 = .ok (.aload_n 0, 1) := by decide +kernel
theorem d_M_size_169 : decode prog_13_method_54_code 169 = .ok (.getfield 56, 3) := by decide +kernel
theorem d_M_size_172 : decode prog_13_method_54_code 172 = .ok (.iload 5, 2) := by decide +kernel
theorem d_M_size_174 : decode prog_13_method_54_code 174 = .ok (.iload 6, 2) := by decide +kernel
theorem d_M_size_176 : decode prog_13_method_54_code 176 = .ok (.ifCond .eq 18, 3) := by decide +kernel
theorem d_M_size_179 : decode prog_13_method_54_code 179 = .ok (.iload 8, 2) := by decide +kernel
theorem d_M_size_181 : decode prog_13_method_54_code 181 = .ok (.ifCond .ne 13, 3) := by decide +kernel
theorem d_M_size_184 : decode prog_13_method_54_code 184 = .ok (.aload_n 0, 1) := by decide +kernel
theorem d_M_size_185 : decode prog_13_method_54_code 185 = .ok (.getfield 62, 3) := by decide +kernel
theorem d_M_size_188 : decode prog_13_method_54_code 188 = .ok (.iload 7, 2) := by decide +kernel
theorem d_M_size_190 : decode prog_13_method_54_code 190 = .ok (.iaload, 1) := by decide +kernel
theorem d_M_size_191 : decode prog_13_method_54_code 191 = .ok (.goto 5, 3) := by decide +kernel
theorem d_M_size_194 : decode prog_13_method_54_code 194 = .ok (.bipush 32, 2) := by decide +kernel
theorem d_M_size_196 : decode prog_13_method_54_code 196 = .ok (.iastore, 1) := by decide +kernel
theorem d_M_size_197 : decode prog_13_method_54_code 197 = .ok (.aload_n 0, 1) := by decide +kernel
theorem d_M_size_198 : decode prog_13_method_54_code 198 = .ok (.getfield 59, 3) := by decide +kernel
theorem d_M_size_201 : decode prog_13_method_54_code 201 = .ok (.iload 5, 2) := by decide +kernel
theorem d_M_size_203 : decode prog_13_method_54_code 203 = .ok (.iload 6, 2) := by decide +kernel
theorem d_M_size_205 : decode prog_13_method_54_code 205 = .ok (.ifCond .eq 18, 3) := by decide +kernel
theorem d_M_size_208 : decode prog_13_method_54_code 208 = .ok (.iload 8, 2) := by decide +kernel
theorem d_M_size_210 : decode prog_13_method_54_code 210 = .ok (.ifCond .ne 13, 3) := by decide +kernel
theorem d_M_size_213 : decode prog_13_method_54_code 213 = .ok (.aload_n 0, 1) := by decide +kernel
theorem d_M_size_214 : decode prog_13_method_54_code 214 = .ok (.getfield 65, 3) := by decide +kernel
theorem d_M_size_217 : decode prog_13_method_54_code 217 = .ok (.iload 7, 2) := by decide +kernel
theorem d_M_size_219 : decode prog_13_method_54_code 219 = .ok (.iaload, 1) := by decide +kernel
theorem d_M_size_220 : decode prog_13_method_54_code 220 = .ok (.goto 4, 3) := by decide +kernel
theorem d_M_size_223 : decode prog_13_method_54_code 223 = .ok (.iconst 0, 1) := by decide +kernel
theorem d_M_size_224 : decode prog_13_method_54_code 224 = .ok (.iastore, 1) := by decide +kernel
theorem d_M_size_225 : decode prog_13_method_54_code 225 = .ok (.iinc 4 1, 3) := by decide +kernel
theorem d_M_size_228 : decode prog_13_method_54_code 228 = .ok (.goto (-155), 3) := by decide +kernel
theorem d_M_size_231 : decode prog_13_method_54_code 231 = .ok (.iinc 3 1, 3) := by decide +kernel
theorem d_M_size_234 : decode prog_13_method_54_code 234 = .ok (.goto (-169), 3) := by decide +kernel
theorem d_M_size_237 : decode prog_13_method_54_code 237 = .ok (.aload_n 0, 1) := by decide +kernel
theorem d_M_size_238 : decode prog_13_method_54_code 238 = .ok (.iload_n 1, 1) := by decide +kernel
theorem d_M_size_239 : decode prog_13_method_54_code 239 = .ok (.putfield 78, 3) := by decide +kernel
theorem d_M_size_242 : decode prog_13_method_54_code 242 = .ok (.aload_n 0, 1) := by decide +kernel
theorem d_M_size_243 : decode prog_13_method_54_code 243 = .ok (.iload_n 2, 1) := by decide +kernel
theorem d_M_size_244 : decode prog_13_method_54_code 244 = .ok (.putfield 81, 3) := by decide +kernel
theorem d_M_size_247 : decode prog_13_method_54_code 247 = .ok (.aload_n 0, 1) := by decide +kernel
theorem d_M_size_248 : decode prog_13_method_54_code 248 = .ok (.iconst 0, 1) := by decide +kernel
theorem d_M_size_249 : decode prog_13_method_54_code 249 = .ok (.putfield 263, 3) := by decide +kernel
theorem d_M_size_252 : decode prog_13_method_54_code 252 = .ok (.aload_n 0, 1) := by decide +kernel
theorem d_M_size_253 : decode prog_13_method_54_code 253 = .ok (.iconst 0, 1) := by decide +kernel
theorem d_M_size_254 : decode prog_13_method_54_code 254 = .ok (.putfield 266, 3) := by decide +kernel
theorem d_M_size_257 : decode prog_13_method_54_code 257 = .ok (.aload_n 0, 1) := by decide +kernel
theorem d_M_size_258 : decode prog_13_method_54_code 258 = .ok (.iconst 0, 1) := by decide +kernel
theorem d_M_size_259 : decode prog_13_method_54_code 259 = .ok (.putfield 260, 3) := by decide +kernel
theorem d_M_size_262 : decode prog_13_method_54_code 262 = .ok (.aload_n 0, 1) := by decide +kernel
theorem d_M_size_263 : decode prog_13_method_54_code 263 = .ok (.iconst (-1), 1) := by decide +kernel
theorem d_M_size_264 : decode prog_13_method_54_code 264 = .ok (.putfield 68, 3) := by decide +kernel
theorem d_M_size_267 : decode prog_13_method_54_code 267 = .ok (.aload_n 0, 1) := by decide +kernel
theorem d_M_size_268 : decode prog_13_method_54_code 268 = .ok (.iconst 1, 1) := by decide +kernel
theorem d_M_size_269 : decode prog_13_method_54_code 269 = .ok (.putfield 71, 3) := by decide +kernel
theorem d_M_size_272 : decode prog_13_method_54_code 272 = .ok (.iconst 1, 1) := by decide +kernel
theorem d_M_size_273 : decode prog_13_method_54_code 273 = .ok (.ireturn, 1) := by decide +kernel
theorem d_M_text_0 : decode prog_13_method_55_code 0 = .ok (.iload_n 1, 1) := by decide +kernel
theorem d_M_text_1 : decode prog_13_method_55_code 1 = .ok (.ifCond .lt 11, 3) := by decide +kernel
theorem d_M_text_4 : decode prog_13_method_55_code 4 = .ok (.iload_n 1, 1) := by decide +kernel
theorem d_M_text_5 : decode prog_13_method_55_code 5 = .ok (.aload_n 0, 1) := by decide +kernel
theorem d_M_text_6 : decode prog_13_method_55_code 6 = .ok (.getfield 87, 3) := by decide +kernel
theorem d_M_text_9 : decode prog_13_method_55_code 9 = .ok (.if_icmp .lt 7, 3) := by decide +kernel
theorem d_M_text_12 : decode prog_13_method_55_code 12 = .ok (.iconst (-1), 1) := by decide +kernel
theorem d_M_text_13 : decode prog_13_method_55_code 13 = .ok (.goto 9, 3) := by decide +kernel
theorem d_M_text_16 : decode prog_13_method_55_code 16 = .ok (.aload_n 0, 1) := by decide +kernel
theorem d_M_text_17 : decode prog_13_method_55_code 17 = .ok (.getfield 7, 3) := by decide +kernel
theorem d_M_text_20 : decode prog_13_method_55_code 20 = .ok (.iload_n 1, 1) := by decide +kernel
theorem d_M_text_21 : decode prog_13_method_55_code 21 = .ok (.iaload, 1) := by decide +kernel
theorem d_M_text_22 : decode prog_13_method_55_code 22 = .ok (.ireturn, 1) := by decide +kernel
theorem d_M_state_0 : decode prog_13_method_56_code 0 = .ok (.iload_n 1, 1) := by decide +kernel
theorem d_M_state_1 : decode prog_13_method_56_code 1 = .ok (.tableswitch 110 0 7 #[47, 52, 59, 64, 69, 76, 81, 97], 47) := by decide +kernel
theorem d_M_state_48 : decode prog_13_method_56_code 48 = .ok (.aload_n 0, 1) := by decide +kernel
theorem d_M_state_49 : decode prog_13_method_56_code 49 = .ok (.getfield 117, 3) := by decide +kernel
theorem d_M_state_52 : decode prog_13_method_56_code 52 = .ok (.ireturn, 1) := by decide +kernel
theorem d_M_state_53 : decode prog_13_method_56_code 53 = .ok (.aload_n 0, 1) := by decide +kernel
theorem d_M_state_54 : decode prog_13_method_56_code 54 = .ok (.getfield 13, 3) := by decide +kernel
theorem d_M_state_57 : decode prog_13_method_56_code 57 = .ok (.iconst 1, 1) := by decide +kernel
theorem d_M_state_58 : decode prog_13_method_56_code 58 = .ok (.iadd, 1) := by decide +kernel
theorem d_M_state_59 : decode prog_13_method_56_code 59 = .ok (.ireturn, 1) := by decide +kernel
theorem d_M_state_60 : decode prog_13_method_56_code 60 = .ok (.aload_n 0, 1) := by decide +kernel
theorem d_M_state_61 : decode prog_13_method_56_code 61 = .ok (.getfield 132, 3) := by decide +kernel
theorem d_M_state_64 : decode prog_13_method_56_code 64 = .ok (.ireturn, 1) := by decide +kernel
theorem d_M_state_65 : decode prog_13_method_56_code 65 = .ok (.aload_n 0, 1) := by decide +kernel
theorem d_M_state_66 : decode prog_13_method_56_code 66 = .ok (.getfield 111, 3) := by decide +kernel
theorem d_M_state_69 : decode prog_13_method_56_code 69 = .ok (.ireturn, 1) := by decide +kernel
theorem d_M_state_70 : decode prog_13_method_56_code 70 = .ok (.aload_n 0, 1) := by decide +kernel
theorem d_M_state_71 : decode prog_13_method_56_code 71 = .ok (.getfield 20, 3) := by decide +kernel
theorem d_M_state_74 : decode prog_13_method_56_code 74 = .ok (.iconst 1, 1) := by decide +kernel
theorem d_M_state_75 : decode prog_13_method_56_code 75 = .ok (.iadd, 1) := by decide +kernel
theorem d_M_state_76 : decode prog_13_method_56_code 76 = .ok (.ireturn, 1) := by decide +kernel
theorem d_M_state_77 : decode prog_13_method_56_code 77 = .ok (.aload_n 0, 1) := by decide +kernel
theorem d_M_state_78 : decode prog_13_method_56_code 78 = .ok (.getfield 222, 3) := by decide +kernel
theorem d_M_state_81 : decode prog_13_method_56_code 81 = .ok (.ireturn, 1) := by decide +kernel
theorem d_M_state_82 : decode prog_13_method_56_code 82 = .ok (.aload_n 0, 1) := by decide +kernel
theorem d_M_state_83 : decode prog_13_method_56_code 83 = .ok (.getfield 184, 3) := by decide +kernel
theorem d_M_state_86 : decode prog_13_method_56_code 86 = .ok (.ifCond .le 7, 3) := by decide +kernel
theorem d_M_state_89 : decode prog_13_method_56_code 89 = .ok (.iconst 3, 1) := by decide +kernel
theorem d_M_state_90 : decode prog_13_method_56_code 90 = .ok (.goto 7, 3) := by decide +kernel
theorem d_M_state_93 : decode prog_13_method_56_code 93 = .ok (.aload_n 0, 1) := by decide +kernel
theorem d_M_state_94 : decode prog_13_method_56_code 94 = .ok (.getfield 181, 3) := by decide +kernel
theorem d_M_state_97 : decode prog_13_method_56_code 97 = .ok (.ireturn, 1) := by decide +kernel
theorem d_M_state_98 : decode prog_13_method_56_code 98 = .ok (.aload_n 0, 1) := by decide +kernel
theorem d_M_state_99 : decode prog_13_method_56_code 99 = .ok (.getfield 147, 3) := by decide +kernel
theorem d_M_state_102 : decode prog_13_method_56_code 102 = .ok (.ifCond .eq 7, 3) := by decide +kernel
theorem d_M_state_105 : decode prog_13_method_56_code 105 = .ok (.iconst 1, 1) := by decide +kernel
theorem d_M_state_106 : decode prog_13_method_56_code 106 = .ok (.goto 4, 3) := by decide +kernel
theorem d_M_state_109 : decode prog_13_method_56_code 109 = .ok (.iconst 0, 1) := by decide +kernel
theorem d_M_state_110 : decode prog_13_method_56_code 110 = .ok (.ireturn, 1) := by decide +kernel
theorem d_M_state_111 : decode prog_13_method_56_code 111 = .ok (.iconst (-1), 1) := by decide +kernel
theorem d_M_state_112 : decode prog_13_method_56_code 112 = .ok (.ireturn, 1) := by decide +kernel
theorem d_M_isCell_0 : decode prog_13_method_57_code 0 = .ok (.iload_n 1, 1) := by decide +kernel
theorem d_M_isCell_1 : decode prog_13_method_57_code 1 = .ok (.ifCond .lt 27, 3) := by decide +kernel
theorem d_M_isCell_4 : decode prog_13_method_57_code 4 = .ok (.iload_n 1, 1) := by decide +kernel
theorem d_M_isCell_5 : decode prog_13_method_57_code 5 = .ok (.aload_n 0, 1) := by decide +kernel
theorem d_M_isCell_6 : decode prog_13_method_57_code 6 = .ok (.getfield 81, 3) := by decide +kernel
theorem d_M_isCell_9 : decode prog_13_method_57_code 9 = .ok (.if_icmp .ge 19, 3) := by decide +kernel
theorem d_M_isCell_12 : decode prog_13_method_57_code 12 = .ok (.iload_n 2, 1) := by decide +kernel
theorem d_M_isCell_13 : decode prog_13_method_57_code 13 = .ok (.ifCond .lt 15, 3) := by decide +kernel
theorem d_M_isCell_16 : decode prog_13_method_57_code 16 = .ok (.iload_n 2, 1) := by decide +kernel
theorem d_M_isCell_17 : decode prog_13_method_57_code 17 = .ok (.aload_n 0, 1) := by decide +kernel
theorem d_M_isCell_18 : decode prog_13_method_57_code 18 = .ok (.getfield 78, 3) := by decide +kernel
theorem d_M_isCell_21 : decode prog_13_method_57_code 21 = .ok (.if_icmp .ge 7, 3) := by decide +kernel
theorem d_M_isCell_24 : decode prog_13_method_57_code 24 = .ok (.iconst 1, 1) := by decide +kernel
theorem d_M_isCell_25 : decode prog_13_method_57_code 25 = .ok (.goto 4, 3) := by decide +kernel
theorem d_M_isCell_28 : decode prog_13_method_57_code 28 = .ok (.iconst 0, 1) := by decide +kernel
theorem d_M_isCell_29 : decode prog_13_method_57_code 29 = .ok (.ireturn, 1) := by decide +kernel
theorem d_M_cell_0 : decode prog_13_method_58_code 0 = .ok (.aload_n 0, 1) := by decide +kernel
theorem d_M_cell_1 : decode prog_13_method_58_code 1 = .ok (.iload_n 1, 1) := by decide +kernel
theorem d_M_cell_2 : decode prog_13_method_58_code 2 = .ok (.iload_n 2, 1) := by decide +kernel
theorem d_M_cell_3 : decode prog_13_method_58_code 3 = .ok (.invokevirtual 309, 3) := by decide +kernel
theorem d_M_cell_6 : decode prog_13_method_58_code 6 = .ok (.ifCond .eq 19, 3) := by decide +kernel
theorem d_M_cell_9 : decode prog_13_method_58_code 9 = .ok (.aload_n 0, 1) := by decide +kernel
theorem d_M_cell_10 : decode prog_13_method_58_code 10 = .ok (.getfield 56, 3) := by decide +kernel
theorem d_M_cell_13 : decode prog_13_method_58_code 13 = .ok (.aload_n 0, 1) := by decide +kernel
theorem d_M_cell_14 : decode prog_13_method_58_code 14 = .ok (.getfield 78, 3) := by decide +kernel
theorem d_M_cell_17 : decode prog_13_method_58_code 17 = .ok (.iload_n 1, 1) := by decide +kernel
theorem d_M_cell_18 : decode prog_13_method_58_code 18 = .ok (.imul, 1) := by decide +kernel
theorem d_M_cell_19 : decode prog_13_method_58_code 19 = .ok (.iload_n 2, 1) := by decide +kernel
theorem d_M_cell_20 : decode prog_13_method_58_code 20 = .ok (.iadd, 1) := by decide +kernel
theorem d_M_cell_21 : decode prog_13_method_58_code 21 = .ok (.iaload, 1) := by decide +kernel
theorem d_M_cell_22 : decode prog_13_method_58_code 22 = .ok (.goto 4, 3) := by decide +kernel
theorem d_M_cell_25 : decode prog_13_method_58_code 25 = .ok (.iconst (-1), 1) := by decide +kernel
theorem d_M_cell_26 : decode prog_13_method_58_code 26 = .ok (.ireturn, 1) := by decide +kernel
theorem d_M_look_0 : decode prog_13_method_59_code 0 = .ok (.aload_n 0, 1) := by decide +kernel
theorem d_M_look_1 : decode prog_13_method_59_code 1 = .ok (.iload_n 1, 1) := by decide +kernel
theorem d_M_look_2 : decode prog_13_method_59_code 2 = .ok (.iload_n 2, 1) := by decide +kernel
theorem d_M_look_3 : decode prog_13_method_59_code 3 = .ok (.invokevirtual 309, 3) := by decide +kernel
theorem d_M_look_6 : decode prog_13_method_59_code 6 = .ok (.ifCond .eq 19, 3) := by decide +kernel
theorem d_M_look_9 : decode prog_13_method_59_code 9 = .ok (.aload_n 0, 1) := by decide +kernel
theorem d_M_look_10 : decode prog_13_method_59_code 10 = .ok (.getfield 59, 3) := by decide +kernel
theorem d_M_look_13 : decode prog_13_method_59_code 13 = .ok (.aload_n 0, 1) := by decide +kernel
theorem d_M_look_14 : decode prog_13_method_59_code 14 = .ok (.getfield 78, 3) := by decide +kernel
theorem d_M_look_17 : decode prog_13_method_59_code 17 = .ok (.iload_n 1, 1) := by decide +kernel
theorem d_M_look_18 : decode prog_13_method_59_code 18 = .ok (.imul, 1) := by decide +kernel
theorem d_M_look_19 : decode prog_13_method_59_code 19 = .ok (.iload_n 2, 1) := by decide +kernel
theorem d_M_look_20 : decode prog_13_method_59_code 20 = .ok (.iadd, 1) := by decide +kernel
theorem d_M_look_21 : decode prog_13_method_59_code 21 = .ok (.iaload, 1) := by decide +kernel
theorem d_M_look_22 : decode prog_13_method_59_code 22 = .ok (.goto 4, 3) := by decide +kernel
theorem d_M_look_25 : decode prog_13_method_59_code 25 = .ok (.iconst (-1), 1) := by decide +kernel
theorem d_M_look_26 : decode prog_13_method_59_code 26 = .ok (.ireturn, 1) := by decide +kernel
theorem d_M_terminal_0 : decode prog_13_method_60_code 0 = .ok (.iload_n 1, 1) := by decide +kernel
theorem d_M_terminal_1 : decode prog_13_method_60_code 1 = .ok (.tableswitch 59 0 3 #[31, 36, 41, 54], 31) := by decide +kernel
theorem d_M_terminal_32 : decode prog_13_method_60_code 32 = .ok (.aload_n 0, 1) := by decide +kernel
theorem d_M_terminal_33 : decode prog_13_method_60_code 33 = .ok (.getfield 263, 3) := by decide +kernel
theorem d_M_terminal_36 : decode prog_13_method_60_code 36 = .ok (.ireturn, 1) := by decide +kernel
theorem d_M_terminal_37 : decode prog_13_method_60_code 37 = .ok (.aload_n 0, 1) := by decide +kernel
theorem d_M_terminal_38 : decode prog_13_method_60_code 38 = .ok (.getfield 266, 3) := by decide +kernel
theorem d_M_terminal_41 : decode prog_13_method_60_code 41 = .ok (.ireturn, 1) := by decide +kernel
theorem d_M_terminal_42 : decode prog_13_method_60_code 42 = .ok (.aload_n 0, 1) := by decide +kernel
theorem d_M_terminal_43 : decode prog_13_method_60_code 43 = .ok (.getfield 260, 3) := by decide +kernel
theorem d_M_terminal_46 : decode prog_13_method_60_code 46 = .ok (.ifCond .eq 7, 3) := by decide +kernel
theorem d_M_terminal_49 : decode prog_13_method_60_code 49 = .ok (.iconst 1, 1) := by decide +kernel
theorem d_M_terminal_50 : decode prog_13_method_60_code 50 = .ok (.goto 4, 3) := by decide +kernel
theorem d_M_terminal_53 : decode prog_13_method_60_code 53 = .ok (.iconst 0, 1) := by decide +kernel
theorem d_M_terminal_54 : decode prog_13_method_60_code 54 = .ok (.ireturn, 1) := by decide +kernel
theorem d_M_terminal_55 : decode prog_13_method_60_code 55 = .ok (.aload_n 0, 1) := by decide +kernel
theorem d_M_terminal_56 : decode prog_13_method_60_code 56 = .ok (.getfield 272, 3) := by decide +kernel
theorem d_M_terminal_59 : decode prog_13_method_60_code 59 = .ok (.ireturn, 1) := by decide +kernel
theorem d_M_terminal_60 : decode prog_13_method_60_code 60 = .ok (.iconst (-1), 1) := by decide +kernel
theorem d_M_terminal_61 : decode prog_13_method_60_code 61 = .ok (.ireturn, 1) := by decide +kernel
theorem d_M_sent_0 : decode prog_13_method_61_code 0 = .ok (.iload_n 1, 1) := by decide +kernel
theorem d_M_sent_1 : decode prog_13_method_61_code 1 = .ok (.ifCond .lt 11, 3) := by decide +kernel
theorem d_M_sent_4 : decode prog_13_method_61_code 4 = .ok (.iload_n 1, 1) := by decide +kernel
theorem d_M_sent_5 : decode prog_13_method_61_code 5 = .ok (.aload_n 0, 1) := by decide +kernel
theorem d_M_sent_6 : decode prog_13_method_61_code 6 = .ok (.getfield 250, 3) := by decide +kernel
theorem d_M_sent_9 : decode prog_13_method_61_code 9 = .ok (.if_icmp .lt 7, 3) := by decide +kernel
theorem d_M_sent_12 : decode prog_13_method_61_code 12 = .ok (.iconst (-1), 1) := by decide +kernel
theorem d_M_sent_13 : decode prog_13_method_61_code 13 = .ok (.goto 9, 3) := by decide +kernel
theorem d_M_sent_16 : decode prog_13_method_61_code 16 = .ok (.aload_n 0, 1) := by decide +kernel
theorem d_M_sent_17 : decode prog_13_method_61_code 17 = .ok (.getfield 75, 3) := by decide +kernel
theorem d_M_sent_20 : decode prog_13_method_61_code 20 = .ok (.iload_n 1, 1) := by decide +kernel
theorem d_M_sent_21 : decode prog_13_method_61_code 21 = .ok (.iaload, 1) := by decide +kernel
theorem d_M_sent_22 : decode prog_13_method_61_code 22 = .ok (.ireturn, 1) := by decide +kernel
end
section
theorem d_Q_byteAt_0 : decode prog_8_method_2_code 0 = .ok (.iload_n 1, 1) := by decide +kernel
theorem d_Q_byteAt_1 : decode prog_8_method_2_code 1 = .ok (.ifCond .lt 20, 3) := by decide +kernel
theorem d_Q_byteAt_4 : decode prog_8_method_2_code 4 = .ok (.iload_n 1, 1) := by decide +kernel
theorem d_Q_byteAt_5 : decode prog_8_method_2_code 5 = .ok (.aload_n 0, 1) := by decide +kernel
theorem d_Q_byteAt_6 : decode prog_8_method_2_code 6 = .ok (.getfield 24, 3) := by decide +kernel
theorem d_Q_byteAt_9 : decode prog_8_method_2_code 9 = .ok (.if_icmp .ge 12, 3) := by decide +kernel
theorem d_Q_byteAt_12 : decode prog_8_method_2_code 12 = .ok (.aload_n 0, 1) := by decide +kernel
theorem d_Q_byteAt_13 : decode prog_8_method_2_code 13 = .ok (.getfield 9, 3) := by decide +kernel
theorem d_Q_byteAt_16 : decode prog_8_method_2_code 16 = .ok (.iload_n 1, 1) := by decide +kernel
theorem d_Q_byteAt_17 : decode prog_8_method_2_code 17 = .ok (.iaload, 1) := by decide +kernel
theorem d_Q_byteAt_18 : decode prog_8_method_2_code 18 = .ok (.goto 4, 3) := by decide +kernel
theorem d_Q_byteAt_21 : decode prog_8_method_2_code 21 = .ok (.iconst (-1), 1) := by decide +kernel
theorem d_Q_byteAt_22 : decode prog_8_method_2_code 22 = .ok (.ireturn, 1) := by decide +kernel
theorem d_Q_begin_0 : decode prog_8_method_3_code 0 = .ok (.aload_n 0, 1) := by decide +kernel
theorem d_Q_begin_1 : decode prog_8_method_3_code 1 = .ok (.iconst 0, 1) := by decide +kernel
theorem d_Q_begin_2 : decode prog_8_method_3_code 2 = .ok (.putfield 24, 3) := by decide +kernel
theorem d_Q_begin_5 : decode prog_8_method_3_code 5 = .ok (.iload_n 1, 1) := by decide +kernel
theorem d_Q_begin_6 : decode prog_8_method_3_code 6 = .ok (.ifCond .eq 23, 3) := by decide +kernel
theorem d_Q_begin_9 : decode prog_8_method_3_code 9 = .ok (.aload_n 0, 1) := by decide +kernel
theorem d_Q_begin_10 : decode prog_8_method_3_code 10 = .ok (.iconst 0, 1) := by decide +kernel
theorem d_Q_begin_11 : decode prog_8_method_3_code 11 = .ok (.invokevirtual 28, 3) := by decide +kernel
theorem d_Q_begin_14 : decode prog_8_method_3_code 14 = .ok (.aload_n 0, 1) := by decide +kernel
theorem d_Q_begin_15 : decode prog_8_method_3_code 15 = .ok (.iconst 2, 1) := by decide +kernel
theorem d_Q_begin_16 : decode prog_8_method_3_code 16 = .ok (.iconst (-1), 1) := by decide +kernel
theorem d_Q_begin_17 : decode prog_8_method_3_code 17 = .ok (.bipush 74, 2) := by decide +kernel
theorem d_Q_begin_19 : decode prog_8_method_3_code 19 = .ok (.invokevirtual 32, 3) := by decide +kernel
theorem d_Q_begin_22 : decode prog_8_method_3_code 22 = .ok (.aload_n 0, 1) := by decide +kernel
theorem d_Q_begin_23 : decode prog_8_method_3_code 23 = .ok (.getfield 20, 3) := by decide +kernel
theorem d_Q_begin_26 : decode prog_8_method_3_code 26 = .ok (.invokevirtual 36, 3) := by decide +kernel
theorem d_Q_begin_29 : decode prog_8_method_3_code 29 = .ok (.return_, 1) := by decide +kernel
theorem d_Q_paintRow_0 : decode prog_8_method_4_code 0 = .ok (.aload_n 0, 1) := by decide +kernel
theorem d_Q_paintRow_1 : decode prog_8_method_4_code 1 = .ok (.aload_n 1, 1) := by decide +kernel
theorem d_Q_paintRow_2 : decode prog_8_method_4_code 2 = .ok (.iload_n 2, 1) := by decide +kernel
theorem d_Q_paintRow_3 : decode prog_8_method_4_code 3 = .ok (.invokevirtual 39, 3) := by decide +kernel
theorem d_Q_paintRow_6 : decode prog_8_method_4_code 6 = .ok (.istore_n 3, 1) := by decide +kernel
theorem d_Q_paintRow_7 : decode prog_8_method_4_code 7 = .ok (.iload_n 3, 1) := by decide +kernel
theorem d_Q_paintRow_8 : decode prog_8_method_4_code 8 = .ok (.iconst (-1), 1) := by decide +kernel
theorem d_Q_paintRow_9 : decode prog_8_method_4_code 9 = .ok (.if_icmp .ne 4, 3) := by decide +kernel
theorem d_Q_paintRow_12 : decode prog_8_method_4_code 12 = .ok (.return_, 1) := by decide +kernel
theorem d_Q_paintRow_13 : decode prog_8_method_4_code 13 = .ok (.aload_n 0, 1) := by decide +kernel
theorem d_Q_paintRow_14 : decode prog_8_method_4_code 14 = .ok (.aload_n 1, 1) := by decide +kernel
theorem d_Q_paintRow_15 : decode prog_8_method_4_code 15 = .ok (.iload_n 2, 1) := by decide +kernel
theorem d_Q_paintRow_16 : decode prog_8_method_4_code 16 = .ok (.invokevirtual 43, 3) := by decide +kernel
theorem d_Q_paintRow_19 : decode prog_8_method_4_code 19 = .ok (.istore 4, 2) := by decide +kernel
theorem d_Q_paintRow_21 : decode prog_8_method_4_code 21 = .ok (.iload_n 3, 1) := by decide +kernel
theorem d_Q_paintRow_22 : decode prog_8_method_4_code 22 = .ok (.ifCond .le 15, 3) := by decide +kernel
theorem d_Q_paintRow_25 : decode prog_8_method_4_code 25 = .ok (.aload_n 1, 1) := by decide +kernel
theorem d_Q_paintRow_26 : decode prog_8_method_4_code 26 = .ok (.iload_n 2, 1) := by decide +kernel
theorem d_Q_paintRow_27 : decode prog_8_method_4_code 27 = .ok (.iload_n 3, 1) := by decide +kernel
theorem d_Q_paintRow_28 : decode prog_8_method_4_code 28 = .ok (.invokevirtual 46, 3) := by decide +kernel
theorem d_Q_paintRow_31 : decode prog_8_method_4_code 31 = .ok (.ifCond .ne 6, 3) := by decide +kernel
theorem d_Q_paintRow_34 : decode prog_8_method_4_code 34 = .ok (.iinc 3 (-1), 3) := by decide +kernel
theorem d_Q_paintRow_37 : decode prog_8_method_4_code 37 = .ok (.aload_n 1, 1) := by decide +kernel
theorem d_Q_paintRow_38 : decode prog_8_method_4_code 38 = .ok (.iload_n 2, 1) := by decide +kernel
theorem d_Q_paintRow_39 : decode prog_8_method_4_code 39 = .ok (.invokestatic 52, 3) := by decide +kernel
theorem d_Q_paintRow_42 : decode prog_8_method_4_code 42 = .ok (.istore 5, 2) := by decide +kernel
theorem d_Q_paintRow_44 : decode prog_8_method_4_code 44 = .ok (.iload_n 3, 1) := by decide +kernel
theorem d_Q_paintRow_45 : decode prog_8_method_4_code 45 = .ok (.iload 5, 2) := by decide +kernel
theorem d_Q_paintRow_47 : decode prog_8_method_4_code 47 = .ok (.invokestatic 55, 3) := by decide +kernel
theorem d_Q_paintRow_50 : decode prog_8_method_4_code 50 = .ok (.istore 6, 2) := by decide +kernel
theorem d_Q_paintRow_52 : decode prog_8_method_4_code 52 = .ok (.iload 4, 2) := by decide +kernel
theorem d_Q_paintRow_54 : decode prog_8_method_4_code 54 = .ok (.iload 6, 2) := by decide +kernel
theorem d_Q_paintRow_56 : decode prog_8_method_4_code 56 = .ok (.isub, 1) := by decide +kernel
theorem d_Q_paintRow_57 : decode prog_8_method_4_code 57 = .ok (.iconst 1, 1) := by decide +kernel
theorem d_Q_paintRow_58 : decode prog_8_method_4_code 58 = .ok (.iadd, 1) := by decide +kernel
theorem d_Q_paintRow_59 : decode prog_8_method_4_code 59 = .ok (.iconst 3, 1) := by decide +kernel
theorem d_Q_paintRow_60 : decode prog_8_method_4_code 60 = .ok (.if_icmp .le 7, 3) := by decide +kernel
theorem d_Q_paintRow_63 : decode prog_8_method_4_code 63 = .ok (.iconst 1, 1) := by decide +kernel
theorem d_Q_paintRow_64 : decode prog_8_method_4_code 64 = .ok (.goto 4, 3) := by decide +kernel
theorem d_Q_paintRow_67 : decode prog_8_method_4_code 67 = .ok (.iconst 0, 1) := by decide +kernel
theorem d_Q_paintRow_68 : decode prog_8_method_4_code 68 = .ok (.istore 7, 2) := by decide +kernel
theorem d_Q_paintRow_70 : decode prog_8_method_4_code 70 = .ok (.iload 7, 2) := by decide +kernel
theorem d_Q_paintRow_72 : decode prog_8_method_4_code 72 = .ok (.ifCond .eq 10, 3) := by decide +kernel
theorem d_Q_paintRow_75 : decode prog_8_method_4_code 75 = .ok (.iload 5, 2) := by decide +kernel
theorem d_Q_paintRow_77 : decode prog_8_method_4_code 77 = .ok (.iconst 1, 1) := by decide +kernel
theorem d_Q_paintRow_78 : decode prog_8_method_4_code 78 = .ok (.isub, 1) := by decide +kernel
theorem d_Q_paintRow_79 : decode prog_8_method_4_code 79 = .ok (.goto 5, 3) := by decide +kernel
theorem d_Q_paintRow_82 : decode prog_8_method_4_code 82 = .ok (.iload 4, 2) := by decide +kernel
theorem d_Q_paintRow_84 : decode prog_8_method_4_code 84 = .ok (.istore 8, 2) := by decide +kernel
theorem d_Q_paintRow_86 : decode prog_8_method_4_code 86 = .ok (.iload_n 3, 1) := by decide +kernel
theorem d_Q_paintRow_87 : decode prog_8_method_4_code 87 = .ok (.istore 9, 2) := by decide +kernel
theorem d_Q_paintRow_89 : decode prog_8_method_4_code 89 = .ok (.iload 9, 2) := by decide +kernel
theorem d_Q_paintRow_91 : decode prog_8_method_4_code 91 = .ok (.iload 8, 2) := by decide +kernel
theorem d_Q_paintRow_93 : decode prog_8_method_4_code 93 = .ok (.if_icmp .gt 40, 3) := by decide +kernel
theorem d_Q_paintRow_96 : decode prog_8_method_4_code 96 = .ok (.aload_n 1, 1) := by decide +kernel
theorem d_Q_paintRow_97 : decode prog_8_method_4_code 97 = .ok (.iload_n 2, 1) := by decide +kernel
theorem d_Q_paintRow_98 : decode prog_8_method_4_code 98 = .ok (.iload 9, 2) := by decide +kernel
theorem d_Q_paintRow_100 : decode prog_8_method_4_code 100 = .ok (.invokevirtual 46, 3) := by decide +kernel
theorem d_Q_paintRow_103 : decode prog_8_method_4_code 103 = .ok (.ifCond .eq 24, 3) := by decide +kernel
theorem d_Q_paintRow_106 : decode prog_8_method_4_code 106 = .ok (.aload_n 0, 1) := by decide +kernel
theorem d_Q_paintRow_107 : decode prog_8_method_4_code 107 = .ok (.iload_n 2, 1) := by decide +kernel
theorem d_Q_paintRow_108 : decode prog_8_method_4_code 108 = .ok (.iload 9, 2) := by decide +kernel
theorem d_Q_paintRow_110 : decode prog_8_method_4_code 110 = .ok (.aload_n 1, 1) := by decide +kernel
theorem d_Q_paintRow_111 : decode prog_8_method_4_code 111 = .ok (.iload_n 2, 1) := by decide +kernel
theorem d_Q_paintRow_112 : decode prog_8_method_4_code 112 = .ok (.iload 9, 2) := by decide +kernel
theorem d_Q_paintRow_114 : decode prog_8_method_4_code 114 = .ok (.invokevirtual 46, 3) := by decide +kernel
theorem d_Q_paintRow_117 : decode prog_8_method_4_code 117 = .ok (.aload_n 1, 1) := by decide +kernel
theorem d_Q_paintRow_118 : decode prog_8_method_4_code 118 = .ok (.iload_n 2, 1) := by decide +kernel
theorem d_Q_paintRow_119 : decode prog_8_method_4_code 119 = .ok (.iload 9, 2) := by decide +kernel
theorem d_Q_paintRow_121 : decode prog_8_method_4_code 121 = .ok (.invokevirtual 60, 3) := by decide +kernel
theorem d_Q_paintRow_124 : decode prog_8_method_4_code 124 = .ok (.invokevirtual 63, 3) := by decide +kernel
theorem d_Q_paintRow_127 : decode prog_8_method_4_code 127 = .ok (.iinc 9 1, 3) := by decide +kernel
theorem d_Q_paintRow_130 : decode prog_8_method_4_code 130 = .ok (.goto (-41), 3) := by decide +kernel
theorem d_Q_paintRow_133 : decode prog_8_method_4_code 133 = .ok (.iload 7, 2) := by decide +kernel
theorem d_Q_paintRow_135 : decode prog_8_method_4_code 135 = .ok (.ifCond .eq 25, 3) := by decide +kernel
theorem d_Q_paintRow_138 : decode prog_8_method_4_code 138 = .ok (.aload_n 0, 1) := by decide +kernel
theorem d_Q_paintRow_139 : decode prog_8_method_4_code 139 = .ok (.iload_n 2, 1) := by decide +kernel
theorem d_Q_paintRow_140 : decode prog_8_method_4_code 140 = .ok (.iload 6, 2) := by decide +kernel
theorem d_Q_paintRow_142 : decode prog_8_method_4_code 142 = .ok (.invokevirtual 67, 3) := by decide +kernel
theorem d_Q_paintRow_145 : decode prog_8_method_4_code 145 = .ok (.aload_n 0, 1) := by decide +kernel
theorem d_Q_paintRow_146 : decode prog_8_method_4_code 146 = .ok (.iconst (-1), 1) := by decide +kernel
theorem d_Q_paintRow_147 : decode prog_8_method_4_code 147 = .ok (.iconst (-1), 1) := by decide +kernel
theorem d_Q_paintRow_148 : decode prog_8_method_4_code 148 = .ok (.bipush 75, 2) := by decide +kernel
theorem d_Q_paintRow_150 : decode prog_8_method_4_code 150 = .ok (.invokevirtual 32, 3) := by decide +kernel
theorem d_Q_paintRow_153 : decode prog_8_method_4_code 153 = .ok (.aload_n 0, 1) := by decide +kernel
theorem d_Q_paintRow_154 : decode prog_8_method_4_code 154 = .ok (.getfield 20, 3) := by decide +kernel
theorem d_Q_paintRow_157 : decode prog_8_method_4_code 157 = .ok (.invokevirtual 70, 3) := by decide +kernel
theorem d_Q_paintRow_160 : decode prog_8_method_4_code 160 = .ok (.return_, 1) := by decide +kernel
theorem d_Q_differs_0 : decode prog_8_method_5_code 0 = .ok (.aload_n 1, 1) := by decide +kernel
theorem d_Q_differs_1 : decode prog_8_method_5_code 1 = .ok (.iload_n 2, 1) := by decide +kernel
theorem d_Q_differs_2 : decode prog_8_method_5_code 2 = .ok (.iload_n 3, 1) := by decide +kernel
theorem d_Q_differs_3 : decode prog_8_method_5_code 3 = .ok (.invokevirtual 46, 3) := by decide +kernel
theorem d_Q_differs_6 : decode prog_8_method_5_code 6 = .ok (.aload_n 0, 1) := by decide +kernel
theorem d_Q_differs_7 : decode prog_8_method_5_code 7 = .ok (.getfield 20, 3) := by decide +kernel
theorem d_Q_differs_10 : decode prog_8_method_5_code 10 = .ok (.getfield 73, 3) := by decide +kernel
theorem d_Q_differs_13 : decode prog_8_method_5_code 13 = .ok (.iload_n 2, 1) := by decide +kernel
theorem d_Q_differs_14 : decode prog_8_method_5_code 14 = .ok (.iload_n 3, 1) := by decide +kernel
theorem d_Q_differs_15 : decode prog_8_method_5_code 15 = .ok (.invokevirtual 46, 3) := by decide +kernel
theorem d_Q_differs_18 : decode prog_8_method_5_code 18 = .ok (.if_icmp .ne 24, 3) := by decide +kernel
theorem d_Q_differs_21 : decode prog_8_method_5_code 21 = .ok (.aload_n 1, 1) := by decide +kernel
theorem d_Q_differs_22 : decode prog_8_method_5_code 22 = .ok (.iload_n 2, 1) := by decide +kernel
theorem d_Q_differs_23 : decode prog_8_method_5_code 23 = .ok (.iload_n 3, 1) := by decide +kernel
theorem d_Q_differs_24 : decode prog_8_method_5_code 24 = .ok (.invokevirtual 60, 3) := by decide +kernel
theorem d_Q_differs_27 : decode prog_8_method_5_code 27 = .ok (.aload_n 0, 1) := by decide +kernel
theorem d_Q_differs_28 : decode prog_8_method_5_code 28 = .ok (.getfield 20, 3) := by decide +kernel
theorem d_Q_differs_31 : decode prog_8_method_5_code 31 = .ok (.getfield 73, 3) := by decide +kernel
theorem d_Q_differs_34 : decode prog_8_method_5_code 34 = .ok (.iload_n 2, 1) := by decide +kernel
theorem d_Q_differs_35 : decode prog_8_method_5_code 35 = .ok (.iload_n 3, 1) := by decide +kernel
theorem d_Q_differs_36 : decode prog_8_method_5_code 36 = .ok (.invokevirtual 60, 3) := by decide +kernel
theorem d_Q_differs_39 : decode prog_8_method_5_code 39 = .ok (.if_icmp .eq 7, 3) := by decide +kernel
theorem d_Q_differs_42 : decode prog_8_method_5_code 42 = .ok (.iconst 1, 1) := by decide +kernel
theorem d_Q_differs_43 : decode prog_8_method_5_code 43 = .ok (.goto 4, 3) := by decide +kernel
theorem d_Q_differs_46 : decode prog_8_method_5_code 46 = .ok (.iconst 0, 1) := by decide +kernel
theorem d_Q_differs_47 : decode prog_8_method_5_code 47 = .ok (.ireturn, 1) := by decide +kernel
theorem d_Q_firstDifference_0 : decode prog_8_method_6_code 0 = .ok (.iconst 0, 1) := by decide +kernel
theorem d_Q_firstDifference_1 : decode prog_8_method_6_code 1 = .ok (.istore_n 3, 1) := by decide +kernel
theorem d_Q_firstDifference_2 : decode prog_8_method_6_code 2 = .ok (.iload_n 3, 1) := by decide +kernel
theorem d_Q_firstDifference_3 : decode prog_8_method_6_code 3 = .ok (.aload_n 1, 1) := by decide +kernel
theorem d_Q_firstDifference_4 : decode prog_8_method_6_code 4 = .ok (.getfield 77, 3) := by decide +kernel
theorem d_Q_firstDifference_7 : decode prog_8_method_6_code 7 = .ok (.if_icmp .ge 21, 3) := by decide +kernel
theorem d_Q_firstDifference_10 : decode prog_8_method_6_code 10 = .ok (.aload_n 0, 1) := by decide +kernel
theorem d_Q_firstDifference_11 : decode prog_8_method_6_code 11 = .ok (.aload_n 1, 1) := by decide +kernel
theorem d_Q_firstDifference_12 : decode prog_8_method_6_code 12 = .ok (.iload_n 2, 1) := by decide +kernel
theorem d_Q_firstDifference_13 : decode prog_8_method_6_code 13 = .ok (.iload_n 3, 1) := by decide +kernel
theorem d_Q_firstDifference_14 : decode prog_8_method_6_code 14 = .ok (.invokevirtual 80, 3) := by decide +kernel
theorem d_Q_firstDifference_17 : decode prog_8_method_6_code 17 = .ok (.ifCond .eq 5, 3) := by decide +kernel
theorem d_Q_firstDifference_20 : decode prog_8_method_6_code 20 = .ok (.iload_n 3, 1) := by decide +kernel
theorem d_Q_firstDifference_21 : decode prog_8_method_6_code 21 = .ok (.ireturn, 1) := by decide +kernel
theorem d_Q_firstDifference_22 : decode prog_8_method_6_code 22 = .ok (.iinc 3 1, 3) := by decide +kernel
theorem d_Q_firstDifference_25 : decode prog_8_method_6_code 25 = .ok (.goto (-23), 3) := by decide +kernel
theorem d_Q_firstDifference_28 : decode prog_8_method_6_code 28 = .ok (.iconst (-1), 1) := by decide +kernel
theorem d_Q_firstDifference_29 : decode prog_8_method_6_code 29 = .ok (.ireturn, 1) := by decide +kernel
theorem d_Q_lastDifference_0 : decode prog_8_method_7_code 0 = .ok (.aload_n 1, 1) := by decide +kernel
theorem d_Q_lastDifference_1 : decode prog_8_method_7_code 1 = .ok (.getfield 77, 3) := by decide +kernel
theorem d_Q_lastDifference_4 : decode prog_8_method_7_code 4 = .ok (.iconst 1, 1) := by decide +kernel
theorem d_Q_lastDifference_5 : decode prog_8_method_7_code 5 = .ok (.isub, 1) := by decide +kernel
theorem d_Q_lastDifference_6 : decode prog_8_method_7_code 6 = .ok (.istore_n 3, 1) := by decide +kernel
theorem d_Q_lastDifference_7 : decode prog_8_method_7_code 7 = .ok (.iload_n 3, 1) := by decide +kernel
theorem d_Q_lastDifference_8 : decode prog_8_method_7_code 8 = .ok (.ifCond .lt 21, 3) := by decide +kernel
theorem d_Q_lastDifference_11 : decode prog_8_method_7_code 11 = .ok (.aload_n 0, 1) := by decide +kernel
theorem d_Q_lastDifference_12 : decode prog_8_method_7_code 12 = .ok (.aload_n 1, 1) := by decide +kernel
theorem d_Q_lastDifference_13 : decode prog_8_method_7_code 13 = .ok (.iload_n 2, 1) := by decide +kernel
theorem d_Q_lastDifference_14 : decode prog_8_method_7_code 14 = .ok (.iload_n 3, 1) := by decide +kernel
theorem d_Q_lastDifference_15 : decode prog_8_method_7_code 15 = .ok (.invokevirtual 80, 3) := by decide +kernel
theorem d_Q_lastDifference_18 : decode prog_8_method_7_code 18 = .ok (.ifCond .eq 5, 3) := by decide +kernel
theorem d_Q_lastDifference_21 : decode prog_8_method_7_code 21 = .ok (.iload_n 3, 1) := by decide +kernel
theorem d_Q_lastDifference_22 : decode prog_8_method_7_code 22 = .ok (.ireturn, 1) := by decide +kernel
theorem d_Q_lastDifference_23 : decode prog_8_method_7_code 23 = .ok (.iinc 3 (-1), 3) := by decide +kernel
theorem d_Q_lastDifference_26 : decode prog_8_method_7_code 26 = .ok (.goto (-19), 3) := by decide +kernel
theorem d_Q_lastDifference_29 : decode prog_8_method_7_code 29 = .ok (.iconst (-1), 1) := by decide +kernel
theorem d_Q_lastDifference_30 : decode prog_8_method_7_code 30 = .ok (.ireturn, 1) := by decide +kernel
theorem d_Q_blankBeginning_0 : decode prog_8_method_8_code 0 = .ok (.aload_n 0, 1) := by decide +kernel
theorem d_Q_blankBeginning_1 : decode prog_8_method_8_code 1 = .ok (.getfield 77, 3) := by decide +kernel
theorem d_Q_blankBeginning_4 : decode prog_8_method_8_code 4 = .ok (.istore_n 2, 1) := by decide +kernel
theorem d_Q_blankBeginning_5 : decode prog_8_method_8_code 5 = .ok (.iload_n 2, 1) := by decide +kernel
theorem d_Q_blankBeginning_6 : decode prog_8_method_8_code 6 = .ok (.ifCond .le 20, 3) := by decide +kernel
theorem d_Q_blankBeginning_9 : decode prog_8_method_8_code 9 = .ok (.aload_n 0, 1) := by decide +kernel
theorem d_Q_blankBeginning_10 : decode prog_8_method_8_code 10 = .ok (.iload_n 1, 1) := by decide +kernel
theorem d_Q_blankBeginning_11 : decode prog_8_method_8_code 11 = .ok (.iload_n 2, 1) := by decide +kernel
theorem d_Q_blankBeginning_12 : decode prog_8_method_8_code 12 = .ok (.iconst 1, 1) := by decide +kernel
theorem d_Q_blankBeginning_13 : decode prog_8_method_8_code 13 = .ok (.isub, 1) := by decide +kernel
theorem d_Q_blankBeginning_14 : decode prog_8_method_8_code 14 = .ok (.invokevirtual 84, 3) := by decide +kernel
theorem d_Q_blankBeginning_17 : decode prog_8_method_8_code 17 = .ok (.ifCond .eq 9, 3) := by decide +kernel
theorem d_Q_blankBeginning_20 : decode prog_8_method_8_code 20 = .ok (.iinc 2 (-1), 3) := by decide +kernel
theorem d_Q_blankBeginning_23 : decode prog_8_method_8_code 23 = .ok (.goto (-18), 3) := by decide +kernel
theorem d_Q_blankBeginning_26 : decode prog_8_method_8_code 26 = .ok (.iload_n 2, 1) := by decide +kernel
theorem d_Q_blankBeginning_27 : decode prog_8_method_8_code 27 = .ok (.ireturn, 1) := by decide +kernel
theorem d_Q_sendCluster_0 : decode prog_8_method_9_code 0 = .ok (.iload_n 3, 1) := by decide +kernel
theorem d_Q_sendCluster_1 : decode prog_8_method_9_code 1 = .ok (.invokestatic 88, 3) := by decide +kernel
theorem d_Q_sendCluster_4 : decode prog_8_method_9_code 4 = .ok (.istore 5, 2) := by decide +kernel
theorem d_Q_sendCluster_6 : decode prog_8_method_9_code 6 = .ok (.iload 5, 2) := by decide +kernel
theorem d_Q_sendCluster_8 : decode prog_8_method_9_code 8 = .ok (.invokestatic 94, 3) := by decide +kernel
theorem d_Q_sendCluster_11 : decode prog_8_method_9_code 11 = .ok (.ifCond .eq 12, 3) := by decide +kernel
theorem d_Q_sendCluster_14 : decode prog_8_method_9_code 14 = .ok (.aload_n 0, 1) := by decide +kernel
theorem d_Q_sendCluster_15 : decode prog_8_method_9_code 15 = .ok (.iload_n 1, 1) := by decide +kernel
theorem d_Q_sendCluster_16 : decode prog_8_method_9_code 16 = .ok (.iload_n 2, 1) := by decide +kernel
theorem d_Q_sendCluster_17 : decode prog_8_method_9_code 17 = .ok (.invokevirtual 98, 3) := by decide +kernel
theorem d_Q_sendCluster_20 : decode prog_8_method_9_code 20 = .ok (.goto 9, 3) := by decide +kernel
theorem d_Q_sendCluster_23 : decode prog_8_method_9_code 23 = .ok (.aload_n 0, 1) := by decide +kernel
theorem d_Q_sendCluster_24 : decode prog_8_method_9_code 24 = .ok (.iload_n 1, 1) := by decide +kernel
theorem d_Q_sendCluster_25 : decode prog_8_method_9_code 25 = .ok (.iload_n 2, 1) := by decide +kernel
theorem d_Q_sendCluster_26 : decode prog_8_method_9_code 26 = .ok (.invokevirtual 67, 3) := by decide +kernel
theorem d_Q_sendCluster_29 : decode prog_8_method_9_code 29 = .ok (.aload_n 0, 1) := by decide +kernel
theorem d_Q_sendCluster_30 : decode prog_8_method_9_code 30 = .ok (.getfield 20, 3) := by decide +kernel
theorem d_Q_sendCluster_33 : decode prog_8_method_9_code 33 = .ok (.getfield 101, 3) := by decide +kernel
theorem d_Q_sendCluster_36 : decode prog_8_method_9_code 36 = .ok (.iload 4, 2) := by decide +kernel
theorem d_Q_sendCluster_38 : decode prog_8_method_9_code 38 = .ok (.if_icmp .eq 9, 3) := by decide +kernel
theorem d_Q_sendCluster_41 : decode prog_8_method_9_code 41 = .ok (.aload_n 0, 1) := by decide +kernel
theorem d_Q_sendCluster_42 : decode prog_8_method_9_code 42 = .ok (.iload 4, 2) := by decide +kernel
theorem d_Q_sendCluster_44 : decode prog_8_method_9_code 44 = .ok (.invokevirtual 28, 3) := by decide +kernel
theorem d_Q_sendCluster_47 : decode prog_8_method_9_code 47 = .ok (.aload_n 0, 1) := by decide +kernel
theorem d_Q_sendCluster_48 : decode prog_8_method_9_code 48 = .ok (.iload 5, 2) := by decide +kernel
theorem d_Q_sendCluster_50 : decode prog_8_method_9_code 50 = .ok (.invokevirtual 104, 3) := by decide +kernel
theorem d_Q_sendCluster_53 : decode prog_8_method_9_code 53 = .ok (.aload_n 0, 1) := by decide +kernel
theorem d_Q_sendCluster_54 : decode prog_8_method_9_code 54 = .ok (.iload_n 3, 1) := by decide +kernel
theorem d_Q_sendCluster_55 : decode prog_8_method_9_code 55 = .ok (.invokestatic 107, 3) := by decide +kernel
theorem d_Q_sendCluster_58 : decode prog_8_method_9_code 58 = .ok (.invokevirtual 104, 3) := by decide +kernel
theorem d_Q_sendCluster_61 : decode prog_8_method_9_code 61 = .ok (.aload_n 0, 1) := by decide +kernel
theorem d_Q_sendCluster_62 : decode prog_8_method_9_code 62 = .ok (.iload_n 3, 1) := by decide +kernel
theorem d_Q_sendCluster_63 : decode prog_8_method_9_code 63 = .ok (.invokestatic 110, 3) := by decide +kernel
theorem d_Q_sendCluster_66 : decode prog_8_method_9_code 66 = .ok (.invokevirtual 104, 3) := by decide +kernel
theorem d_Q_sendCluster_69 : decode prog_8_method_9_code 69 = .ok (.return_, 1) := by decide +kernel
theorem d_Q_makePlaceRight_0 : decode prog_8_method_10_code 0 = .ok (.aload_n 0, 1) := by decide +kernel
theorem d_Q_makePlaceRight_1 : decode prog_8_method_10_code 1 = .ok (.getfield 20, 3) := by decide +kernel
theorem d_Q_makePlaceRight_4 : decode prog_8_method_10_code 4 = .ok (.getfield 113, 3) := by decide +kernel
theorem d_Q_makePlaceRight_7 : decode prog_8_method_10_code 7 = .ok (.iload_n 1, 1) := by decide +kernel
theorem d_Q_makePlaceRight_8 : decode prog_8_method_10_code 8 = .ok (.if_icmp .ne 7, 3) := by decide +kernel
theorem d_Q_makePlaceRight_11 : decode prog_8_method_10_code 11 = .ok (.iconst 1, 1) := by decide +kernel
theorem d_Q_makePlaceRight_12 : decode prog_8_method_10_code 12 = .ok (.goto 4, 3) := by decide +kernel
theorem d_Q_makePlaceRight_15 : decode prog_8_method_10_code 15 = .ok (.iconst 0, 1) := by decide +kernel
theorem d_Q_makePlaceRight_16 : decode prog_8_method_10_code 16 = .ok (.istore_n 3, 1) := by decide +kernel
theorem d_Q_makePlaceRight_17 : decode prog_8_method_10_code 17 = .ok (.iload_n 3, 1) := by decide +kernel
theorem d_Q_makePlaceRight_18 : decode prog_8_method_10_code 18 = .ok (.ifCond .eq 25, 3) := by decide +kernel
theorem d_Q_makePlaceRight_21 : decode prog_8_method_10_code 21 = .ok (.aload_n 0, 1) := by decide +kernel
theorem d_Q_makePlaceRight_22 : decode prog_8_method_10_code 22 = .ok (.getfield 20, 3) := by decide +kernel
theorem d_Q_makePlaceRight_25 : decode prog_8_method_10_code 25 = .ok (.getfield 116, 3) := by decide +kernel
theorem d_Q_makePlaceRight_28 : decode prog_8_method_10_code 28 = .ok (.iload_n 2, 1) := by decide +kernel
theorem d_Q_makePlaceRight_29 : decode prog_8_method_10_code 29 = .ok (.if_icmp .ne 14, 3) := by decide +kernel
theorem d_Q_makePlaceRight_32 : decode prog_8_method_10_code 32 = .ok (.aload_n 0, 1) := by decide +kernel
theorem d_Q_makePlaceRight_33 : decode prog_8_method_10_code 33 = .ok (.getfield 20, 3) := by decide +kernel
theorem d_Q_makePlaceRight_36 : decode prog_8_method_10_code 36 = .ok (.getfield 119, 3) := by decide +kernel
theorem d_Q_makePlaceRight_39 : decode prog_8_method_10_code 39 = .ok (.ifCond .ne 4, 3) := by decide +kernel
theorem d_Q_makePlaceRight_42 : decode prog_8_method_10_code 42 = .ok (.return_, 1) := by decide +kernel
theorem d_Q_makePlaceRight_43 : decode prog_8_method_10_code 43 = .ok (.iload_n 3, 1) := by decide +kernel
theorem d_Q_makePlaceRight_44 : decode prog_8_method_10_code 44 = .ok (.ifCond .eq 66, 3) := by decide +kernel
theorem d_Q_makePlaceRight_47 : decode prog_8_method_10_code 47 = .ok (.iload_n 2, 1) := by decide +kernel
theorem d_Q_makePlaceRight_48 : decode prog_8_method_10_code 48 = .ok (.aload_n 0, 1) := by decide +kernel
theorem d_Q_makePlaceRight_49 : decode prog_8_method_10_code 49 = .ok (.getfield 20, 3) := by decide +kernel
theorem d_Q_makePlaceRight_52 : decode prog_8_method_10_code 52 = .ok (.getfield 116, 3) := by decide +kernel
theorem d_Q_makePlaceRight_55 : decode prog_8_method_10_code 55 = .ok (.if_icmp .le 55, 3) := by decide +kernel
theorem d_Q_makePlaceRight_58 : decode prog_8_method_10_code 58 = .ok (.aload_n 0, 1) := by decide +kernel
theorem d_Q_makePlaceRight_59 : decode prog_8_method_10_code 59 = .ok (.getfield 20, 3) := by decide +kernel
theorem d_Q_makePlaceRight_62 : decode prog_8_method_10_code 62 = .ok (.getfield 119, 3) := by decide +kernel
theorem d_Q_makePlaceRight_65 : decode prog_8_method_10_code 65 = .ok (.ifCond .ne 45, 3) := by decide +kernel
theorem d_Q_makePlaceRight_68 : decode prog_8_method_10_code 68 = .ok (.iload_n 2, 1) := by decide +kernel
theorem d_Q_makePlaceRight_69 : decode prog_8_method_10_code 69 = .ok (.aload_n 0, 1) := by decide +kernel
theorem d_Q_makePlaceRight_70 : decode prog_8_method_10_code 70 = .ok (.getfield 20, 3) := by decide +kernel
theorem d_Q_makePlaceRight_73 : decode prog_8_method_10_code 73 = .ok (.getfield 116, 3) := by decide +kernel
theorem d_Q_makePlaceRight_76 : decode prog_8_method_10_code 76 = .ok (.isub, 1) := by decide +kernel
theorem d_Q_makePlaceRight_77 : decode prog_8_method_10_code 77 = .ok (.istore 4, 2) := by decide +kernel
theorem d_Q_makePlaceRight_79 : decode prog_8_method_10_code 79 = .ok (.aload_n 0, 1) := by decide +kernel
theorem d_Q_makePlaceRight_80 : decode prog_8_method_10_code 80 = .ok (.iload 4, 2) := by decide +kernel
theorem d_Q_makePlaceRight_82 : decode prog_8_method_10_code 82 = .ok (.iconst 1, 1) := by decide +kernel
theorem d_Q_makePlaceRight_83 : decode prog_8_method_10_code 83 = .ok (.if_icmp .ne 7, 3) := by decide +kernel
theorem d_Q_makePlaceRight_86 : decode prog_8_method_10_code 86 = .ok (.iconst (-1), 1) := by decide +kernel
theorem d_Q_makePlaceRight_87 : decode prog_8_method_10_code 87 = .ok (.goto 5, 3) := by decide +kernel
theorem d_Q_makePlaceRight_90 : decode prog_8_method_10_code 90 = .ok (.iload 4, 2) := by decide +kernel
theorem d_Q_makePlaceRight_92 : decode prog_8_method_10_code 92 = .ok (.iconst (-1), 1) := by decide +kernel
theorem d_Q_makePlaceRight_93 : decode prog_8_method_10_code 93 = .ok (.bipush 67, 2) := by decide +kernel
theorem d_Q_makePlaceRight_95 : decode prog_8_method_10_code 95 = .ok (.invokevirtual 32, 3) := by decide +kernel
theorem d_Q_makePlaceRight_98 : decode prog_8_method_10_code 98 = .ok (.aload_n 0, 1) := by decide +kernel
theorem d_Q_makePlaceRight_99 : decode prog_8_method_10_code 99 = .ok (.getfield 20, 3) := by decide +kernel
theorem d_Q_makePlaceRight_102 : decode prog_8_method_10_code 102 = .ok (.iload_n 1, 1) := by decide +kernel
theorem d_Q_makePlaceRight_103 : decode prog_8_method_10_code 103 = .ok (.iload_n 2, 1) := by decide +kernel
theorem d_Q_makePlaceRight_104 : decode prog_8_method_10_code 104 = .ok (.invokevirtual 123, 3) := by decide +kernel
theorem d_Q_makePlaceRight_107 : decode prog_8_method_10_code 107 = .ok (.goto 76, 3) := by decide +kernel
theorem d_Q_makePlaceRight_110 : decode prog_8_method_10_code 110 = .ok (.iload_n 2, 1) := by decide +kernel
theorem d_Q_makePlaceRight_111 : decode prog_8_method_10_code 111 = .ok (.ifCond .ne 25, 3) := by decide +kernel
theorem d_Q_makePlaceRight_114 : decode prog_8_method_10_code 114 = .ok (.iload_n 3, 1) := by decide +kernel
theorem d_Q_makePlaceRight_115 : decode prog_8_method_10_code 115 = .ok (.ifCond .eq 21, 3) := by decide +kernel
theorem d_Q_makePlaceRight_118 : decode prog_8_method_10_code 118 = .ok (.aload_n 0, 1) := by decide +kernel
theorem d_Q_makePlaceRight_119 : decode prog_8_method_10_code 119 = .ok (.bipush 13, 2) := by decide +kernel
theorem d_Q_makePlaceRight_121 : decode prog_8_method_10_code 121 = .ok (.invokevirtual 126, 3) := by decide +kernel
theorem d_Q_makePlaceRight_124 : decode prog_8_method_10_code 124 = .ok (.aload_n 0, 1) := by decide +kernel
theorem d_Q_makePlaceRight_125 : decode prog_8_method_10_code 125 = .ok (.getfield 20, 3) := by decide +kernel
theorem d_Q_makePlaceRight_128 : decode prog_8_method_10_code 128 = .ok (.iload_n 1, 1) := by decide +kernel
theorem d_Q_makePlaceRight_129 : decode prog_8_method_10_code 129 = .ok (.iconst 0, 1) := by decide +kernel
theorem d_Q_makePlaceRight_130 : decode prog_8_method_10_code 130 = .ok (.invokevirtual 123, 3) := by decide +kernel
theorem d_Q_makePlaceRight_133 : decode prog_8_method_10_code 133 = .ok (.goto 50, 3) := by decide +kernel
theorem d_Q_makePlaceRight_136 : decode prog_8_method_10_code 136 = .ok (.iload_n 2, 1) := by decide +kernel
theorem d_Q_makePlaceRight_137 : decode prog_8_method_10_code 137 = .ok (.ifCond .ne 40, 3) := by decide +kernel
theorem d_Q_makePlaceRight_140 : decode prog_8_method_10_code 140 = .ok (.iload_n 1, 1) := by decide +kernel
theorem d_Q_makePlaceRight_141 : decode prog_8_method_10_code 141 = .ok (.aload_n 0, 1) := by decide +kernel
theorem d_Q_makePlaceRight_142 : decode prog_8_method_10_code 142 = .ok (.getfield 20, 3) := by decide +kernel
theorem d_Q_makePlaceRight_145 : decode prog_8_method_10_code 145 = .ok (.getfield 113, 3) := by decide +kernel
theorem d_Q_makePlaceRight_148 : decode prog_8_method_10_code 148 = .ok (.iconst 1, 1) := by decide +kernel
theorem d_Q_makePlaceRight_149 : decode prog_8_method_10_code 149 = .ok (.iadd, 1) := by decide +kernel
theorem d_Q_makePlaceRight_150 : decode prog_8_method_10_code 150 = .ok (.if_icmp .ne 27, 3) := by decide +kernel
theorem d_Q_makePlaceRight_153 : decode prog_8_method_10_code 153 = .ok (.aload_n 0, 1) := by decide +kernel
theorem d_Q_makePlaceRight_154 : decode prog_8_method_10_code 154 = .ok (.bipush 13, 2) := by decide +kernel
theorem d_Q_makePlaceRight_156 : decode prog_8_method_10_code 156 = .ok (.invokevirtual 126, 3) := by decide +kernel
theorem d_Q_makePlaceRight_159 : decode prog_8_method_10_code 159 = .ok (.aload_n 0, 1) := by decide +kernel
theorem d_Q_makePlaceRight_160 : decode prog_8_method_10_code 160 = .ok (.bipush 10, 2) := by decide +kernel
theorem d_Q_makePlaceRight_162 : decode prog_8_method_10_code 162 = .ok (.invokevirtual 126, 3) := by decide +kernel
theorem d_Q_makePlaceRight_165 : decode prog_8_method_10_code 165 = .ok (.aload_n 0, 1) := by decide +kernel
theorem d_Q_makePlaceRight_166 : decode prog_8_method_10_code 166 = .ok (.getfield 20, 3) := by decide +kernel
theorem d_Q_makePlaceRight_169 : decode prog_8_method_10_code 169 = .ok (.iload_n 1, 1) := by decide +kernel
theorem d_Q_makePlaceRight_170 : decode prog_8_method_10_code 170 = .ok (.iconst 0, 1) := by decide +kernel
theorem d_Q_makePlaceRight_171 : decode prog_8_method_10_code 171 = .ok (.invokevirtual 123, 3) := by decide +kernel
theorem d_Q_makePlaceRight_174 : decode prog_8_method_10_code 174 = .ok (.goto 9, 3) := by decide +kernel
theorem d_Q_makePlaceRight_177 : decode prog_8_method_10_code 177 = .ok (.aload_n 0, 1) := by decide +kernel
theorem d_Q_makePlaceRight_178 : decode prog_8_method_10_code 178 = .ok (.iload_n 1, 1) := by decide +kernel
theorem d_Q_makePlaceRight_179 : decode prog_8_method_10_code 179 = .ok (.iload_n 2, 1) := by decide +kernel
theorem d_Q_makePlaceRight_180 : decode prog_8_method_10_code 180 = .ok (.invokevirtual 98, 3) := by decide +kernel
theorem d_Q_makePlaceRight_183 : decode prog_8_method_10_code 183 = .ok (.return_, 1) := by decide +kernel
theorem d_Q_sendPlace_0 : decode prog_8_method_11_code 0 = .ok (.aload_n 0, 1) := by decide +kernel
theorem d_Q_sendPlace_1 : decode prog_8_method_11_code 1 = .ok (.iload_n 1, 1) := by decide +kernel
theorem d_Q_sendPlace_2 : decode prog_8_method_11_code 2 = .ok (.iconst 1, 1) := by decide +kernel
theorem d_Q_sendPlace_3 : decode prog_8_method_11_code 3 = .ok (.iadd, 1) := by decide +kernel
theorem d_Q_sendPlace_4 : decode prog_8_method_11_code 4 = .ok (.iload_n 2, 1) := by decide +kernel
theorem d_Q_sendPlace_5 : decode prog_8_method_11_code 5 = .ok (.iconst 1, 1) := by decide +kernel
theorem d_Q_sendPlace_6 : decode prog_8_method_11_code 6 = .ok (.iadd, 1) := by decide +kernel
theorem d_Q_sendPlace_7 : decode prog_8_method_11_code 7 = .ok (.bipush 72, 2) := by decide +kernel
theorem d_Q_sendPlace_9 : decode prog_8_method_11_code 9 = .ok (.invokevirtual 32, 3) := by decide +kernel
theorem d_Q_sendPlace_12 : decode prog_8_method_11_code 12 = .ok (.aload_n 0, 1) := by decide +kernel
theorem d_Q_sendPlace_13 : decode prog_8_method_11_code 13 = .ok (.getfield 20, 3) := by decide +kernel
theorem d_Q_sendPlace_16 : decode prog_8_method_11_code 16 = .ok (.iload_n 1, 1) := by decide +kernel
theorem d_Q_sendPlace_17 : decode prog_8_method_11_code 17 = .ok (.iload_n 2, 1) := by decide +kernel
theorem d_Q_sendPlace_18 : decode prog_8_method_11_code 18 = .ok (.invokevirtual 123, 3) := by decide +kernel
theorem d_Q_sendPlace_21 : decode prog_8_method_11_code 21 = .ok (.return_, 1) := by decide +kernel
theorem d_Q_sendLook_0 : decode prog_8_method_12_code 0 = .ok (.iload_n 1, 1) := by decide +kernel
theorem d_Q_sendLook_1 : decode prog_8_method_12_code 1 = .ok (.iconst 1, 1) := by decide +kernel
theorem d_Q_sendLook_2 : decode prog_8_method_12_code 2 = .ok (.if_icmp .ne 8, 3) := by decide +kernel
theorem d_Q_sendLook_5 : decode prog_8_method_12_code 5 = .ok (.bipush 7, 2) := by decide +kernel
theorem d_Q_sendLook_7 : decode prog_8_method_12_code 7 = .ok (.goto 13, 3) := by decide +kernel
theorem d_Q_sendLook_10 : decode prog_8_method_12_code 10 = .ok (.iload_n 1, 1) := by decide +kernel
theorem d_Q_sendLook_11 : decode prog_8_method_12_code 11 = .ok (.iconst 2, 1) := by decide +kernel
theorem d_Q_sendLook_12 : decode prog_8_method_12_code 12 = .ok (.if_icmp .ne 7, 3) := by decide +kernel
theorem d_Q_sendLook_15 : decode prog_8_method_12_code 15 = .ok (.iconst 4, 1) := by decide +kernel
theorem d_Q_sendLook_16 : decode prog_8_method_12_code 16 = .ok (.goto 4, 3) := by decide +kernel
theorem d_Q_sendLook_19 : decode prog_8_method_12_code 19 = .ok (.iconst (-1), 1) := by decide +kernel
theorem d_Q_sendLook_20 : decode prog_8_method_12_code 20 = .ok (.istore_n 2, 1) := by decide +kernel
theorem d_Q_sendLook_21 : decode prog_8_method_12_code 21 = .ok (.aload_n 0, 1) := by decide +kernel
theorem d_Q_sendLook_22 : decode prog_8_method_12_code 22 = .ok (.iconst 0, 1) := by decide +kernel
theorem d_Q_sendLook_23 : decode prog_8_method_12_code 23 = .ok (.iload_n 2, 1) := by decide +kernel
theorem d_Q_sendLook_24 : decode prog_8_method_12_code 24 = .ok (.bipush 109, 2) := by decide +kernel
theorem d_Q_sendLook_26 : decode prog_8_method_12_code 26 = .ok (.invokevirtual 32, 3) := by decide +kernel
theorem d_Q_sendLook_29 : decode prog_8_method_12_code 29 = .ok (.aload_n 0, 1) := by decide +kernel
theorem d_Q_sendLook_30 : decode prog_8_method_12_code 30 = .ok (.getfield 20, 3) := by decide +kernel
theorem d_Q_sendLook_33 : decode prog_8_method_12_code 33 = .ok (.iload_n 1, 1) := by decide +kernel
theorem d_Q_sendLook_34 : decode prog_8_method_12_code 34 = .ok (.putfield 101, 3) := by decide +kernel
theorem d_Q_sendLook_37 : decode prog_8_method_12_code 37 = .ok (.return_, 1) := by decide +kernel
theorem d_Q_sendSequence_0 : decode prog_8_method_13_code 0 = .ok (.aload_n 0, 1) := by decide +kernel
theorem d_Q_sendSequence_1 : decode prog_8_method_13_code 1 = .ok (.bipush 27, 2) := by decide +kernel
theorem d_Q_sendSequence_3 : decode prog_8_method_13_code 3 = .ok (.invokevirtual 126, 3) := by decide +kernel
theorem d_Q_sendSequence_6 : decode prog_8_method_13_code 6 = .ok (.aload_n 0, 1) := by decide +kernel
theorem d_Q_sendSequence_7 : decode prog_8_method_13_code 7 = .ok (.bipush 91, 2) := by decide +kernel
theorem d_Q_sendSequence_9 : decode prog_8_method_13_code 9 = .ok (.invokevirtual 126, 3) := by decide +kernel
theorem d_Q_sendSequence_12 : decode prog_8_method_13_code 12 = .ok (.aload_n 0, 1) := by decide +kernel
theorem d_Q_sendSequence_13 : decode prog_8_method_13_code 13 = .ok (.iload_n 1, 1) := by decide +kernel
theorem d_Q_sendSequence_14 : decode prog_8_method_13_code 14 = .ok (.invokevirtual 129, 3) := by decide +kernel
theorem d_Q_sendSequence_17 : decode prog_8_method_13_code 17 = .ok (.iload_n 2, 1) := by decide +kernel
theorem d_Q_sendSequence_18 : decode prog_8_method_13_code 18 = .ok (.iconst (-1), 1) := by decide +kernel
theorem d_Q_sendSequence_19 : decode prog_8_method_13_code 19 = .ok (.if_icmp .eq 14, 3) := by decide +kernel
theorem d_Q_sendSequence_22 : decode prog_8_method_13_code 22 = .ok (.aload_n 0, 1) := by decide +kernel
theorem d_Q_sendSequence_23 : decode prog_8_method_13_code 23 = .ok (.bipush 59, 2) := by decide +kernel
theorem d_Q_sendSequence_25 : decode prog_8_method_13_code 25 = .ok (.invokevirtual 126, 3) := by decide +kernel
theorem d_Q_sendSequence_28 : decode prog_8_method_13_code 28 = .ok (.aload_n 0, 1) := by decide +kernel
theorem d_Q_sendSequence_29 : decode prog_8_method_13_code 29 = .ok (.iload_n 2, 1) := by decide +kernel
theorem d_Q_sendSequence_30 : decode prog_8_method_13_code 30 = .ok (.invokevirtual 129, 3) := by decide +kernel
theorem d_Q_sendSequence_33 : decode prog_8_method_13_code 33 = .ok (.aload_n 0, 1) := by decide +kernel
theorem d_Q_sendSequence_34 : decode prog_8_method_13_code 34 = .ok (.iload_n 3, 1) := by decide +kernel
theorem d_Q_sendSequence_35 : decode prog_8_method_13_code 35 = .ok (.invokevirtual 126, 3) := by decide +kernel
theorem d_Q_sendSequence_38 : decode prog_8_method_13_code 38 = .ok (.return_, 1) := by decide +kernel
theorem d_Q_putNumber_0 : decode prog_8_method_14_code 0 = .ok (.iload_n 1, 1) := by decide +kernel
theorem d_Q_putNumber_1 : decode prog_8_method_14_code 1 = .ok (.bipush 10, 2) := by decide +kernel
theorem d_Q_putNumber_3 : decode prog_8_method_14_code 3 = .ok (.if_icmp .lt 14, 3) := by decide +kernel
theorem d_Q_putNumber_6 : decode prog_8_method_14_code 6 = .ok (.aload_n 0, 1) := by decide +kernel
theorem d_Q_putNumber_7 : decode prog_8_method_14_code 7 = .ok (.bipush 48, 2) := by decide +kernel
theorem d_Q_putNumber_9 : decode prog_8_method_14_code 9 = .ok (.iload_n 1, 1) := by decide +kernel
theorem d_Q_putNumber_10 : decode prog_8_method_14_code 10 = .ok (.bipush 10, 2) := by decide +kernel
theorem d_Q_putNumber_12 : decode prog_8_method_14_code 12 = .ok (.idiv, 1) := by decide +kernel
theorem d_Q_putNumber_13 : decode prog_8_method_14_code 13 = .ok (.iadd, 1) := by decide +kernel
theorem d_Q_putNumber_14 : decode prog_8_method_14_code 14 = .ok (.invokevirtual 126, 3) := by decide +kernel
theorem d_Q_putNumber_17 : decode prog_8_method_14_code 17 = .ok (.iload_n 1, 1) := by decide +kernel
theorem d_Q_putNumber_18 : decode prog_8_method_14_code 18 = .ok (.ifCond .lt 14, 3) := by decide +kernel
theorem d_Q_putNumber_21 : decode prog_8_method_14_code 21 = .ok (.aload_n 0, 1) := by decide +kernel
theorem d_Q_putNumber_22 : decode prog_8_method_14_code 22 = .ok (.bipush 48, 2) := by decide +kernel
theorem d_Q_putNumber_24 : decode prog_8_method_14_code 24 = .ok (.iload_n 1, 1) := by decide +kernel
theorem d_Q_putNumber_25 : decode prog_8_method_14_code 25 = .ok (.bipush 10, 2) := by decide +kernel
theorem d_Q_putNumber_27 : decode prog_8_method_14_code 27 = .ok (.irem, 1) := by decide +kernel
theorem d_Q_putNumber_28 : decode prog_8_method_14_code 28 = .ok (.iadd, 1) := by decide +kernel
theorem d_Q_putNumber_29 : decode prog_8_method_14_code 29 = .ok (.invokevirtual 126, 3) := by decide +kernel
theorem d_Q_putNumber_32 : decode prog_8_method_14_code 32 = .ok (.return_, 1) := by decide +kernel
theorem d_Q_sendCharacter_0 : decode prog_8_method_15_code 0 = .ok (.iload_n 1, 1) := by decide +kernel
theorem d_Q_sendCharacter_1 : decode prog_8_method_15_code 1 = .ok (.iconst (-1), 1) := by decide +kernel
theorem d_Q_sendCharacter_2 : decode prog_8_method_15_code 2 = .ok (.if_icmp .ne 4, 3) := by decide +kernel
theorem d_Q_sendCharacter_5 : decode prog_8_method_15_code 5 = .ok (.return_, 1) := by decide +kernel
theorem d_Q_sendCharacter_6 : decode prog_8_method_15_code 6 = .ok (.iload_n 1, 1) := by decide +kernel
theorem d_Q_sendCharacter_7 : decode prog_8_method_15_code 7 = .ok (.sipush 128, 3) := by decide +kernel
theorem d_Q_sendCharacter_10 : decode prog_8_method_15_code 10 = .ok (.if_icmp .ge 11, 3) := by decide +kernel
theorem d_Q_sendCharacter_13 : decode prog_8_method_15_code 13 = .ok (.aload_n 0, 1) := by decide +kernel
theorem d_Q_sendCharacter_14 : decode prog_8_method_15_code 14 = .ok (.iload_n 1, 1) := by decide +kernel
theorem d_Q_sendCharacter_15 : decode prog_8_method_15_code 15 = .ok (.invokevirtual 126, 3) := by decide +kernel
theorem d_Q_sendCharacter_18 : decode prog_8_method_15_code 18 = .ok (.goto 77, 3) := by decide +kernel
theorem d_Q_sendCharacter_21 : decode prog_8_method_15_code 21 = .ok (.iload_n 1, 1) := by decide +kernel
theorem d_Q_sendCharacter_22 : decode prog_8_method_15_code 22 = .ok (.sipush 2048, 3) := by decide +kernel
theorem d_Q_sendCharacter_25 : decode prog_8_method_15_code 25 = .ok (.if_icmp .ge 30, 3) := by decide +kernel
theorem d_Q_sendCharacter_28 : decode prog_8_method_15_code 28 = .ok (.aload_n 0, 1) := by decide +kernel
theorem d_Q_sendCharacter_29 : decode prog_8_method_15_code 29 = .ok (.sipush 192, 3) := by decide +kernel
theorem d_Q_sendCharacter_32 : decode prog_8_method_15_code 32 = .ok (.iload_n 1, 1) := by decide +kernel
theorem d_Q_sendCharacter_33 : decode prog_8_method_15_code 33 = .ok (.bipush 64, 2) := by decide +kernel
theorem d_Q_sendCharacter_35 : decode prog_8_method_15_code 35 = .ok (.idiv, 1) := by decide +kernel
theorem d_Q_sendCharacter_36 : decode prog_8_method_15_code 36 = .ok (.iadd, 1) := by decide +kernel
theorem d_Q_sendCharacter_37 : decode prog_8_method_15_code 37 = .ok (.invokevirtual 126, 3) := by decide +kernel
theorem d_Q_sendCharacter_40 : decode prog_8_method_15_code 40 = .ok (.aload_n 0, 1) := by decide +kernel
theorem d_Q_sendCharacter_41 : decode prog_8_method_15_code 41 = .ok (.sipush 128, 3) := by decide +kernel
theorem d_Q_sendCharacter_44 : decode prog_8_method_15_code 44 = .ok (.iload_n 1, 1) := by decide +kernel
theorem d_Q_sendCharacter_45 : decode prog_8_method_15_code 45 = .ok (.bipush 64, 2) := by decide +kernel
theorem d_Q_sendCharacter_47 : decode prog_8_method_15_code 47 = .ok (.irem, 1) := by decide +kernel
theorem d_Q_sendCharacter_48 : decode prog_8_method_15_code 48 = .ok (.iadd, 1) := by decide +kernel
theorem d_Q_sendCharacter_49 : decode prog_8_method_15_code 49 = .ok (.invokevirtual 126, 3) := by decide +kernel
theorem d_Q_sendCharacter_52 : decode prog_8_method_15_code 52 = .ok (.goto 43, 3) := by decide +kernel
theorem d_Q_sendCharacter_55 : decode prog_8_method_15_code 55 = .ok (.aload_n 0, 1) := by decide +kernel
theorem d_Q_sendCharacter_56 : decode prog_8_method_15_code 56 = .ok (.sipush 224, 3) := by decide +kernel
theorem d_Q_sendCharacter_59 : decode prog_8_method_15_code 59 = .ok (.iload_n 1, 1) := by decide +kernel
theorem d_Q_sendCharacter_60 : decode prog_8_method_15_code 60 = .ok (.sipush 4096, 3) := by decide +kernel
theorem d_Q_sendCharacter_63 : decode prog_8_method_15_code 63 = .ok (.idiv, 1) := by decide +kernel
theorem d_Q_sendCharacter_64 : decode prog_8_method_15_code 64 = .ok (.iadd, 1) := by decide +kernel
theorem d_Q_sendCharacter_65 : decode prog_8_method_15_code 65 = .ok (.invokevirtual 126, 3) := by decide +kernel
theorem d_Q_sendCharacter_68 : decode prog_8_method_15_code 68 = .ok (.aload_n 0, 1) := by decide +kernel
theorem d_Q_sendCharacter_69 : decode prog_8_method_15_code 69 = .ok (.sipush 128, 3) := by decide +kernel
theorem d_Q_sendCharacter_72 : decode prog_8_method_15_code 72 = .ok (.iload_n 1, 1) := by decide +kernel
theorem d_Q_sendCharacter_73 : decode prog_8_method_15_code 73 = .ok (.bipush 64, 2) := by decide +kernel
theorem d_Q_sendCharacter_75 : decode prog_8_method_15_code 75 = .ok (.idiv, 1) := by decide +kernel
theorem d_Q_sendCharacter_76 : decode prog_8_method_15_code 76 = .ok (.bipush 64, 2) := by decide +kernel
theorem d_Q_sendCharacter_78 : decode prog_8_method_15_code 78 = .ok (.irem, 1) := by decide +kernel
theorem d_Q_sendCharacter_79 : decode prog_8_method_15_code 79 = .ok (.iadd, 1) := by decide +kernel
theorem d_Q_sendCharacter_80 : decode prog_8_method_15_code 80 = .ok (.invokevirtual 126, 3) := by decide +kernel
theorem d_Q_sendCharacter_83 : decode prog_8_method_15_code 83 = .ok (.aload_n 0, 1) := by decide +kernel
theorem d_Q_sendCharacter_84 : decode prog_8_method_15_code 84 = .ok (.sipush 128, 3) := by decide +kernel
theorem d_Q_sendCharacter_87 : decode prog_8_method_15_code 87 = .ok (.iload_n 1, 1) := by decide +kernel
theorem d_Q_sendCharacter_88 : decode prog_8_method_15_code 88 = .ok (.bipush 64, 2) := by decide +kernel
theorem d_Q_sendCharacter_90 : decode prog_8_method_15_code 90 = .ok (.irem, 1) := by decide +kernel
theorem d_Q_sendCharacter_91 : decode prog_8_method_15_code 91 = .ok (.iadd, 1) := by decide +kernel
theorem d_Q_sendCharacter_92 : decode prog_8_method_15_code 92 = .ok (.invokevirtual 126, 3) := by decide +kernel
theorem d_Q_sendCharacter_95 : decode prog_8_method_15_code 95 = .ok (.aload_n 0, 1) := by decide +kernel
theorem d_Q_sendCharacter_96 : decode prog_8_method_15_code 96 = .ok (.getfield 20, 3) := by decide +kernel
theorem d_Q_sendCharacter_99 : decode prog_8_method_15_code 99 = .ok (.iload_n 1, 1) := by decide +kernel
theorem d_Q_sendCharacter_100 : decode prog_8_method_15_code 100 = .ok (.invokevirtual 132, 3) := by decide +kernel
theorem d_Q_sendCharacter_103 : decode prog_8_method_15_code 103 = .ok (.return_, 1) := by decide +kernel
theorem d_Q_put_0 : decode prog_8_method_16_code 0 = .ok (.aload_n 0, 1) := by decide +kernel
theorem d_Q_put_1 : decode prog_8_method_16_code 1 = .ok (.getfield 24, 3) := by decide +kernel
theorem d_Q_put_4 : decode prog_8_method_16_code 4 = .ok (.sipush 2048, 3) := by decide +kernel
theorem d_Q_put_7 : decode prog_8_method_16_code 7 = .ok (.if_icmp .ge 23, 3) := by decide +kernel
theorem d_Q_put_10 : decode prog_8_method_16_code 10 = .ok (.aload_n 0, 1) := by decide +kernel
theorem d_Q_put_11 : decode prog_8_method_16_code 11 = .ok (.getfield 9, 3) := by decide +kernel
theorem d_Q_put_14 : decode prog_8_method_16_code 14 = .ok (.aload_n 0, 1) := by decide +kernel
theorem d_Q_put_15 : decode prog_8_method_16_code 15 = .ok (.getfield 24, 3) := by decide +kernel
theorem d_Q_put_18 : decode prog_8_method_16_code 18 = .ok (.iload_n 1, 1) := by decide +kernel
theorem d_Q_put_19 : decode prog_8_method_16_code 19 = .ok (.iastore, 1) := by decide +kernel
theorem d_Q_put_20 : decode prog_8_method_16_code 20 = .ok (.aload_n 0, 1) := by decide +kernel
theorem d_Q_put_21 : decode prog_8_method_16_code 21 = .ok (.dup, 1) := by decide +kernel
theorem d_Q_put_22 : decode prog_8_method_16_code 22 = .ok (.getfield 24, 3) := by decide +kernel
theorem d_Q_put_25 : decode prog_8_method_16_code 25 = .ok (.iconst 1, 1) := by decide +kernel
theorem d_Q_put_26 : decode prog_8_method_16_code 26 = .ok (.iadd, 1) := by decide +kernel
theorem d_Q_put_27 : decode prog_8_method_16_code 27 = .ok (.putfield 24, 3) := by decide +kernel
theorem d_Q_put_30 : decode prog_8_method_16_code 30 = .ok (.return_, 1) := by decide +kernel
theorem d_P_type_0 : decode prog_1_method_2_code 0 = .ok (.iload_n 3, 1) := by decide +kernel
theorem d_P_type_1 : decode prog_1_method_2_code 1 = .ok (.iconst 1, 1) := by decide +kernel
theorem d_P_type_2 : decode prog_1_method_2_code 2 = .ok (.if_icmp .lt 9, 3) := by decide +kernel
theorem d_P_type_5 : decode prog_1_method_2_code 5 = .ok (.iload_n 3, 1) := by decide +kernel
theorem d_P_type_6 : decode prog_1_method_2_code 6 = .ok (.bipush 8, 2) := by decide +kernel
theorem d_P_type_8 : decode prog_1_method_2_code 8 = .ok (.if_icmp .le 5, 3) := by decide +kernel
theorem d_P_type_11 : decode prog_1_method_2_code 11 = .ok (.iconst (-1), 1) := by decide +kernel
theorem d_P_type_12 : decode prog_1_method_2_code 12 = .ok (.ireturn, 1) := by decide +kernel
theorem d_P_type_13 : decode prog_1_method_2_code 13 = .ok (.iconst 0, 1) := by decide +kernel
theorem d_P_type_14 : decode prog_1_method_2_code 14 = .ok (.istore 4, 2) := by decide +kernel
theorem d_P_type_16 : decode prog_1_method_2_code 16 = .ok (.iload 4, 2) := by decide +kernel
theorem d_P_type_18 : decode prog_1_method_2_code 18 = .ok (.iload_n 3, 1) := by decide +kernel
theorem d_P_type_19 : decode prog_1_method_2_code 19 = .ok (.if_icmp .ge 55, 3) := by decide +kernel
theorem d_P_type_22 : decode prog_1_method_2_code 22 = .ok (.lload_n 1, 1) := by decide +kernel
theorem d_P_type_23 : decode prog_1_method_2_code 23 = .ok (.bipush 8, 2) := by decide +kernel
theorem d_P_type_25 : decode prog_1_method_2_code 25 = .ok (.iload 4, 2) := by decide +kernel
theorem d_P_type_27 : decode prog_1_method_2_code 27 = .ok (.imul, 1) := by decide +kernel
theorem d_P_type_28 : decode prog_1_method_2_code 28 = .ok (.lushr, 1) := by decide +kernel
theorem d_P_type_29 : decode prog_1_method_2_code 29 = .ok (.l2i, 1) := by decide +kernel
theorem d_P_type_30 : decode prog_1_method_2_code 30 = .ok (.sipush 255, 3) := by decide +kernel
theorem d_P_type_33 : decode prog_1_method_2_code 33 = .ok (.iand, 1) := by decide +kernel
theorem d_P_type_34 : decode prog_1_method_2_code 34 = .ok (.istore 5, 2) := by decide +kernel
theorem d_P_type_36 : decode prog_1_method_2_code 36 = .ok (.aload_n 0, 1) := by decide +kernel
theorem d_P_type_37 : decode prog_1_method_2_code 37 = .ok (.getfield 30, 3) := by decide +kernel
theorem d_P_type_40 : decode prog_1_method_2_code 40 = .ok (.aload_n 0, 1) := by decide +kernel
theorem d_P_type_41 : decode prog_1_method_2_code 41 = .ok (.getfield 21, 3) := by decide +kernel
theorem d_P_type_44 : decode prog_1_method_2_code 44 = .ok (.iload 5, 2) := by decide +kernel
theorem d_P_type_46 : decode prog_1_method_2_code 46 = .ok (.invokevirtual 50, 3) := by decide +kernel
theorem d_P_type_49 : decode prog_1_method_2_code 49 = .ok (.invokevirtual 54, 3) := by decide +kernel
theorem d_P_type_52 : decode prog_1_method_2_code 52 = .ok (.aload_n 0, 1) := by decide +kernel
theorem d_P_type_53 : decode prog_1_method_2_code 53 = .ok (.getfield 30, 3) := by decide +kernel
theorem d_P_type_56 : decode prog_1_method_2_code 56 = .ok (.aload_n 0, 1) := by decide +kernel
theorem d_P_type_57 : decode prog_1_method_2_code 57 = .ok (.getfield 21, 3) := by decide +kernel
theorem d_P_type_60 : decode prog_1_method_2_code 60 = .ok (.iload 5, 2) := by decide +kernel
theorem d_P_type_62 : decode prog_1_method_2_code 62 = .ok (.invokevirtual 57, 3) := by decide +kernel
theorem d_P_type_65 : decode prog_1_method_2_code 65 = .ok (.invokevirtual 54, 3) := by decide +kernel
theorem d_P_type_68 : decode prog_1_method_2_code 68 = .ok (.iinc 4 1, 3) := by decide +kernel
theorem d_P_type_71 : decode prog_1_method_2_code 71 = .ok (.goto (-55), 3) := by decide +kernel
theorem d_P_type_74 : decode prog_1_method_2_code 74 = .ok (.aload_n 0, 1) := by decide +kernel
theorem d_P_type_75 : decode prog_1_method_2_code 75 = .ok (.getfield 30, 3) := by decide +kernel
theorem d_P_type_78 : decode prog_1_method_2_code 78 = .ok (.getfield 60, 3) := by decide +kernel
theorem d_P_type_81 : decode prog_1_method_2_code 81 = .ok (.getfield 64, 3) := by decide +kernel
theorem d_P_type_84 : decode prog_1_method_2_code 84 = .ok (.ireturn, 1) := by decide +kernel
theorem d_P_tick_0 : decode prog_1_method_3_code 0 = .ok (.aload_n 0, 1) := by decide +kernel
theorem d_P_tick_1 : decode prog_1_method_3_code 1 = .ok (.getfield 30, 3) := by decide +kernel
theorem d_P_tick_4 : decode prog_1_method_3_code 4 = .ok (.aload_n 0, 1) := by decide +kernel
theorem d_P_tick_5 : decode prog_1_method_3_code 5 = .ok (.getfield 21, 3) := by decide +kernel
theorem d_P_tick_8 : decode prog_1_method_3_code 8 = .ok (.invokevirtual 70, 3) := by decide +kernel
theorem d_P_tick_11 : decode prog_1_method_3_code 11 = .ok (.invokevirtual 54, 3) := by decide +kernel
theorem d_P_tick_14 : decode prog_1_method_3_code 14 = .ok (.aload_n 0, 1) := by decide +kernel
theorem d_P_tick_15 : decode prog_1_method_3_code 15 = .ok (.getfield 30, 3) := by decide +kernel
theorem d_P_tick_18 : decode prog_1_method_3_code 18 = .ok (.getfield 60, 3) := by decide +kernel
theorem d_P_tick_21 : decode prog_1_method_3_code 21 = .ok (.getfield 64, 3) := by decide +kernel
theorem d_P_tick_24 : decode prog_1_method_3_code 24 = .ok (.ireturn, 1) := by decide +kernel
theorem d_P_size_0 : decode prog_1_method_4_code 0 = .ok (.iload_n 1, 1) := by decide +kernel
theorem d_P_size_1 : decode prog_1_method_4_code 1 = .ok (.iconst 1, 1) := by decide +kernel
theorem d_P_size_2 : decode prog_1_method_4_code 2 = .ok (.if_icmp .lt 20, 3) := by decide +kernel
theorem d_P_size_5 : decode prog_1_method_4_code 5 = .ok (.iload_n 1, 1) := by decide +kernel
theorem d_P_size_6 : decode prog_1_method_4_code 6 = .ok (.bipush 24, 2) := by decide +kernel
theorem d_P_size_8 : decode prog_1_method_4_code 8 = .ok (.if_icmp .gt 14, 3) := by decide +kernel
theorem d_P_size_11 : decode prog_1_method_4_code 11 = .ok (.iload_n 2, 1) := by decide +kernel
theorem d_P_size_12 : decode prog_1_method_4_code 12 = .ok (.iconst 1, 1) := by decide +kernel
theorem d_P_size_13 : decode prog_1_method_4_code 13 = .ok (.if_icmp .lt 9, 3) := by decide +kernel
theorem d_P_size_16 : decode prog_1_method_4_code 16 = .ok (.iload_n 2, 1) := by decide +kernel
theorem d_P_size_17 : decode prog_1_method_4_code 17 = .ok (.bipush 8, 2) := by decide +kernel
theorem d_P_size_19 : decode prog_1_method_4_code 19 = .ok (.if_icmp .le 5, 3) := by decide +kernel
theorem d_P_size_22 : decode prog_1_method_4_code 22 = .ok (.iconst 0, 1) := by decide +kernel
theorem d_P_size_23 : decode prog_1_method_4_code 23 = .ok (.ireturn, 1) := by decide +kernel
theorem d_P_size_24 : decode prog_1_method_4_code 24 = .ok (.aload_n 0, 1) := by decide +kernel
theorem d_P_size_25 : decode prog_1_method_4_code 25 = .ok (.getfield 30, 3) := by decide +kernel
theorem d_P_size_28 : decode prog_1_method_4_code 28 = .ok (.iload_n 1, 1) := by decide +kernel
theorem d_P_size_29 : decode prog_1_method_4_code 29 = .ok (.putfield 74, 3) := by decide +kernel
theorem d_P_size_32 : decode prog_1_method_4_code 32 = .ok (.aload_n 0, 1) := by decide +kernel
theorem d_P_size_33 : decode prog_1_method_4_code 33 = .ok (.getfield 30, 3) := by decide +kernel
theorem d_P_size_36 : decode prog_1_method_4_code 36 = .ok (.iconst 1, 1) := by decide +kernel
theorem d_P_size_37 : decode prog_1_method_4_code 37 = .ok (.putfield 77, 3) := by decide +kernel
theorem d_P_size_40 : decode prog_1_method_4_code 40 = .ok (.aload_n 0, 1) := by decide +kernel
theorem d_P_size_41 : decode prog_1_method_4_code 41 = .ok (.getfield 39, 3) := by decide +kernel
theorem d_P_size_44 : decode prog_1_method_4_code 44 = .ok (.getfield 81, 3) := by decide +kernel
theorem d_P_size_47 : decode prog_1_method_4_code 47 = .ok (.iload_n 1, 1) := by decide +kernel
theorem d_P_size_48 : decode prog_1_method_4_code 48 = .ok (.iload_n 2, 1) := by decide +kernel
theorem d_P_size_49 : decode prog_1_method_4_code 49 = .ok (.invokevirtual 85, 3) := by decide +kernel
theorem d_P_size_52 : decode prog_1_method_4_code 52 = .ok (.aload_n 0, 1) := by decide +kernel
theorem d_P_size_53 : decode prog_1_method_4_code 53 = .ok (.getfield 46, 3) := by decide +kernel
theorem d_P_size_56 : decode prog_1_method_4_code 56 = .ok (.getfield 90, 3) := by decide +kernel
theorem d_P_size_59 : decode prog_1_method_4_code 59 = .ok (.iload_n 1, 1) := by decide +kernel
theorem d_P_size_60 : decode prog_1_method_4_code 60 = .ok (.iload_n 2, 1) := by decide +kernel
theorem d_P_size_61 : decode prog_1_method_4_code 61 = .ok (.invokevirtual 94, 3) := by decide +kernel
theorem d_P_size_64 : decode prog_1_method_4_code 64 = .ok (.iconst 1, 1) := by decide +kernel
theorem d_P_size_65 : decode prog_1_method_4_code 65 = .ok (.ireturn, 1) := by decide +kernel
theorem d_P_draw_0 : decode prog_1_method_5_code 0 = .ok (.aload_n 0, 1) := by decide +kernel
theorem d_P_draw_1 : decode prog_1_method_5_code 1 = .ok (.getfield 39, 3) := by decide +kernel
theorem d_P_draw_4 : decode prog_1_method_5_code 4 = .ok (.aload_n 0, 1) := by decide +kernel
theorem d_P_draw_5 : decode prog_1_method_5_code 5 = .ok (.getfield 30, 3) := by decide +kernel
theorem d_P_draw_8 : decode prog_1_method_5_code 8 = .ok (.invokevirtual 97, 3) := by decide +kernel
theorem d_P_draw_11 : decode prog_1_method_5_code 11 = .ok (.aload_n 0, 1) := by decide +kernel
theorem d_P_draw_12 : decode prog_1_method_5_code 12 = .ok (.getfield 46, 3) := by decide +kernel
theorem d_P_draw_15 : decode prog_1_method_5_code 15 = .ok (.aload_n 0, 1) := by decide +kernel
theorem d_P_draw_16 : decode prog_1_method_5_code 16 = .ok (.getfield 30, 3) := by decide +kernel
theorem d_P_draw_19 : decode prog_1_method_5_code 19 = .ok (.getfield 77, 3) := by decide +kernel
theorem d_P_draw_22 : decode prog_1_method_5_code 22 = .ok (.invokevirtual 101, 3) := by decide +kernel
theorem d_P_draw_25 : decode prog_1_method_5_code 25 = .ok (.aload_n 0, 1) := by decide +kernel
theorem d_P_draw_26 : decode prog_1_method_5_code 26 = .ok (.getfield 30, 3) := by decide +kernel
theorem d_P_draw_29 : decode prog_1_method_5_code 29 = .ok (.iconst 0, 1) := by decide +kernel
theorem d_P_draw_30 : decode prog_1_method_5_code 30 = .ok (.putfield 77, 3) := by decide +kernel
theorem d_P_draw_33 : decode prog_1_method_5_code 33 = .ok (.iconst 0, 1) := by decide +kernel
theorem d_P_draw_34 : decode prog_1_method_5_code 34 = .ok (.istore_n 1, 1) := by decide +kernel
theorem d_P_draw_35 : decode prog_1_method_5_code 35 = .ok (.iload_n 1, 1) := by decide +kernel
theorem d_P_draw_36 : decode prog_1_method_5_code 36 = .ok (.aload_n 0, 1) := by decide +kernel
theorem d_P_draw_37 : decode prog_1_method_5_code 37 = .ok (.getfield 39, 3) := by decide +kernel
theorem d_P_draw_40 : decode prog_1_method_5_code 40 = .ok (.getfield 81, 3) := by decide +kernel
theorem d_P_draw_43 : decode prog_1_method_5_code 43 = .ok (.getfield 105, 3) := by decide +kernel
theorem d_P_draw_46 : decode prog_1_method_5_code 46 = .ok (.if_icmp .ge 24, 3) := by decide +kernel
theorem d_P_draw_49 : decode prog_1_method_5_code 49 = .ok (.aload_n 0, 1) := by decide +kernel
theorem d_P_draw_50 : decode prog_1_method_5_code 50 = .ok (.getfield 46, 3) := by decide +kernel
theorem d_P_draw_53 : decode prog_1_method_5_code 53 = .ok (.aload_n 0, 1) := by decide +kernel
theorem d_P_draw_54 : decode prog_1_method_5_code 54 = .ok (.getfield 39, 3) := by decide +kernel
theorem d_P_draw_57 : decode prog_1_method_5_code 57 = .ok (.getfield 81, 3) := by decide +kernel
theorem d_P_draw_60 : decode prog_1_method_5_code 60 = .ok (.iload_n 1, 1) := by decide +kernel
theorem d_P_draw_61 : decode prog_1_method_5_code 61 = .ok (.invokevirtual 108, 3) := by decide +kernel
theorem d_P_draw_64 : decode prog_1_method_5_code 64 = .ok (.iinc 1 1, 3) := by decide +kernel
theorem d_P_draw_67 : decode prog_1_method_5_code 67 = .ok (.goto (-32), 3) := by decide +kernel
theorem d_P_draw_70 : decode prog_1_method_5_code 70 = .ok (.aload_n 0, 1) := by decide +kernel
theorem d_P_draw_71 : decode prog_1_method_5_code 71 = .ok (.getfield 46, 3) := by decide +kernel
theorem d_P_draw_74 : decode prog_1_method_5_code 74 = .ok (.aload_n 0, 1) := by decide +kernel
theorem d_P_draw_75 : decode prog_1_method_5_code 75 = .ok (.getfield 39, 3) := by decide +kernel
theorem d_P_draw_78 : decode prog_1_method_5_code 78 = .ok (.getfield 112, 3) := by decide +kernel
theorem d_P_draw_81 : decode prog_1_method_5_code 81 = .ok (.aload_n 0, 1) := by decide +kernel
theorem d_P_draw_82 : decode prog_1_method_5_code 82 = .ok (.getfield 39, 3) := by decide +kernel
theorem d_P_draw_85 : decode prog_1_method_5_code 85 = .ok (.getfield 115, 3) := by decide +kernel
theorem d_P_draw_88 : decode prog_1_method_5_code 88 = .ok (.invokevirtual 118, 3) := by decide +kernel
theorem d_P_draw_91 : decode prog_1_method_5_code 91 = .ok (.aload_n 0, 1) := by decide +kernel
theorem d_P_draw_92 : decode prog_1_method_5_code 92 = .ok (.getfield 46, 3) := by decide +kernel
theorem d_P_draw_95 : decode prog_1_method_5_code 95 = .ok (.getfield 121, 3) := by decide +kernel
theorem d_P_draw_98 : decode prog_1_method_5_code 98 = .ok (.ireturn, 1) := by decide +kernel
theorem d_P_text_0 : decode prog_1_method_6_code 0 = .ok (.aload_n 0, 1) := by decide +kernel
theorem d_P_text_1 : decode prog_1_method_6_code 1 = .ok (.getfield 30, 3) := by decide +kernel
theorem d_P_text_4 : decode prog_1_method_6_code 4 = .ok (.getfield 60, 3) := by decide +kernel
theorem d_P_text_7 : decode prog_1_method_6_code 7 = .ok (.iload_n 1, 1) := by decide +kernel
theorem d_P_text_8 : decode prog_1_method_6_code 8 = .ok (.invokevirtual 124, 3) := by decide +kernel
theorem d_P_text_11 : decode prog_1_method_6_code 11 = .ok (.ireturn, 1) := by decide +kernel
theorem d_P_state_0 : decode prog_1_method_7_code 0 = .ok (.iload_n 1, 1) := by decide +kernel
theorem d_P_state_1 : decode prog_1_method_7_code 1 = .ok (.tableswitch 126 0 7 #[47, 55, 65, 73, 84, 94, 102, 110], 47) := by decide +kernel
theorem d_P_state_48 : decode prog_1_method_7_code 48 = .ok (.aload_n 0, 1) := by decide +kernel
theorem d_P_state_49 : decode prog_1_method_7_code 49 = .ok (.getfield 30, 3) := by decide +kernel
theorem d_P_state_52 : decode prog_1_method_7_code 52 = .ok (.getfield 127, 3) := by decide +kernel
theorem d_P_state_55 : decode prog_1_method_7_code 55 = .ok (.ireturn, 1) := by decide +kernel
theorem d_P_state_56 : decode prog_1_method_7_code 56 = .ok (.aload_n 0, 1) := by decide +kernel
theorem d_P_state_57 : decode prog_1_method_7_code 57 = .ok (.getfield 30, 3) := by decide +kernel
theorem d_P_state_60 : decode prog_1_method_7_code 60 = .ok (.getfield 130, 3) := by decide +kernel
theorem d_P_state_63 : decode prog_1_method_7_code 63 = .ok (.iconst 1, 1) := by decide +kernel
theorem d_P_state_64 : decode prog_1_method_7_code 64 = .ok (.iadd, 1) := by decide +kernel
theorem d_P_state_65 : decode prog_1_method_7_code 65 = .ok (.ireturn, 1) := by decide +kernel
theorem d_P_state_66 : decode prog_1_method_7_code 66 = .ok (.aload_n 0, 1) := by decide +kernel
theorem d_P_state_67 : decode prog_1_method_7_code 67 = .ok (.getfield 30, 3) := by decide +kernel
theorem d_P_state_70 : decode prog_1_method_7_code 70 = .ok (.getfield 133, 3) := by decide +kernel
theorem d_P_state_73 : decode prog_1_method_7_code 73 = .ok (.ireturn, 1) := by decide +kernel
theorem d_P_state_74 : decode prog_1_method_7_code 74 = .ok (.aload_n 0, 1) := by decide +kernel
theorem d_P_state_75 : decode prog_1_method_7_code 75 = .ok (.getfield 30, 3) := by decide +kernel
theorem d_P_state_78 : decode prog_1_method_7_code 78 = .ok (.getfield 136, 3) := by decide +kernel
theorem d_P_state_81 : decode prog_1_method_7_code 81 = .ok (.getfield 140, 3) := by decide +kernel
theorem d_P_state_84 : decode prog_1_method_7_code 84 = .ok (.ireturn, 1) := by decide +kernel
theorem d_P_state_85 : decode prog_1_method_7_code 85 = .ok (.aload_n 0, 1) := by decide +kernel
theorem d_P_state_86 : decode prog_1_method_7_code 86 = .ok (.getfield 30, 3) := by decide +kernel
theorem d_P_state_89 : decode prog_1_method_7_code 89 = .ok (.getfield 145, 3) := by decide +kernel
theorem d_P_state_92 : decode prog_1_method_7_code 92 = .ok (.iconst 1, 1) := by decide +kernel
theorem d_P_state_93 : decode prog_1_method_7_code 93 = .ok (.iadd, 1) := by decide +kernel
theorem d_P_state_94 : decode prog_1_method_7_code 94 = .ok (.ireturn, 1) := by decide +kernel
theorem d_P_state_95 : decode prog_1_method_7_code 95 = .ok (.aload_n 0, 1) := by decide +kernel
theorem d_P_state_96 : decode prog_1_method_7_code 96 = .ok (.getfield 39, 3) := by decide +kernel
theorem d_P_state_99 : decode prog_1_method_7_code 99 = .ok (.getfield 148, 3) := by decide +kernel
theorem d_P_state_102 : decode prog_1_method_7_code 102 = .ok (.ireturn, 1) := by decide +kernel
theorem d_P_state_103 : decode prog_1_method_7_code 103 = .ok (.aload_n 0, 1) := by decide +kernel
theorem d_P_state_104 : decode prog_1_method_7_code 104 = .ok (.getfield 21, 3) := by decide +kernel
theorem d_P_state_107 : decode prog_1_method_7_code 107 = .ok (.getfield 151, 3) := by decide +kernel
theorem d_P_state_110 : decode prog_1_method_7_code 110 = .ok (.ireturn, 1) := by decide +kernel
theorem d_P_state_111 : decode prog_1_method_7_code 111 = .ok (.aload_n 0, 1) := by decide +kernel
theorem d_P_state_112 : decode prog_1_method_7_code 112 = .ok (.getfield 30, 3) := by decide +kernel
theorem d_P_state_115 : decode prog_1_method_7_code 115 = .ok (.getfield 154, 3) := by decide +kernel
theorem d_P_state_118 : decode prog_1_method_7_code 118 = .ok (.ifCond .eq 7, 3) := by decide +kernel
theorem d_P_state_121 : decode prog_1_method_7_code 121 = .ok (.iconst 1, 1) := by decide +kernel
theorem d_P_state_122 : decode prog_1_method_7_code 122 = .ok (.goto 4, 3) := by decide +kernel
theorem d_P_state_125 : decode prog_1_method_7_code 125 = .ok (.iconst 0, 1) := by decide +kernel
theorem d_P_state_126 : decode prog_1_method_7_code 126 = .ok (.ireturn, 1) := by decide +kernel
theorem d_P_state_127 : decode prog_1_method_7_code 127 = .ok (.iconst (-1), 1) := by decide +kernel
theorem d_P_state_128 : decode prog_1_method_7_code 128 = .ok (.ireturn, 1) := by decide +kernel
theorem d_P_cell_0 : decode prog_1_method_8_code 0 = .ok (.aload_n 0, 1) := by decide +kernel
theorem d_P_cell_1 : decode prog_1_method_8_code 1 = .ok (.getfield 46, 3) := by decide +kernel
theorem d_P_cell_4 : decode prog_1_method_8_code 4 = .ok (.getfield 90, 3) := by decide +kernel
theorem d_P_cell_7 : decode prog_1_method_8_code 7 = .ok (.getfield 157, 3) := by decide +kernel
theorem d_P_cell_10 : decode prog_1_method_8_code 10 = .ok (.iload_n 1, 1) := by decide +kernel
theorem d_P_cell_11 : decode prog_1_method_8_code 11 = .ok (.iload_n 2, 1) := by decide +kernel
theorem d_P_cell_12 : decode prog_1_method_8_code 12 = .ok (.invokevirtual 158, 3) := by decide +kernel
theorem d_P_cell_15 : decode prog_1_method_8_code 15 = .ok (.ireturn, 1) := by decide +kernel
theorem d_P_look_0 : decode prog_1_method_9_code 0 = .ok (.aload_n 0, 1) := by decide +kernel
theorem d_P_look_1 : decode prog_1_method_9_code 1 = .ok (.getfield 46, 3) := by decide +kernel
theorem d_P_look_4 : decode prog_1_method_9_code 4 = .ok (.getfield 90, 3) := by decide +kernel
theorem d_P_look_7 : decode prog_1_method_9_code 7 = .ok (.getfield 157, 3) := by decide +kernel
theorem d_P_look_10 : decode prog_1_method_9_code 10 = .ok (.iload_n 1, 1) := by decide +kernel
theorem d_P_look_11 : decode prog_1_method_9_code 11 = .ok (.iload_n 2, 1) := by decide +kernel
theorem d_P_look_12 : decode prog_1_method_9_code 12 = .ok (.invokevirtual 161, 3) := by decide +kernel
theorem d_P_look_15 : decode prog_1_method_9_code 15 = .ok (.ireturn, 1) := by decide +kernel
theorem d_P_terminal_0 : decode prog_1_method_10_code 0 = .ok (.aload_n 0, 1) := by decide +kernel
theorem d_P_terminal_1 : decode prog_1_method_10_code 1 = .ok (.getfield 46, 3) := by decide +kernel
theorem d_P_terminal_4 : decode prog_1_method_10_code 4 = .ok (.getfield 90, 3) := by decide +kernel
theorem d_P_terminal_7 : decode prog_1_method_10_code 7 = .ok (.astore_n 2, 1) := by decide +kernel
theorem d_P_terminal_8 : decode prog_1_method_10_code 8 = .ok (.iload_n 1, 1) := by decide +kernel
theorem d_P_terminal_9 : decode prog_1_method_10_code 9 = .ok (.tableswitch 59 0 3 #[31, 36, 41, 54], 31) := by decide +kernel
theorem d_P_terminal_40 : decode prog_1_method_10_code 40 = .ok (.aload_n 2, 1) := by decide +kernel
theorem d_P_terminal_41 : decode prog_1_method_10_code 41 = .ok (.getfield 164, 3) := by decide +kernel
theorem d_P_terminal_44 : decode prog_1_method_10_code 44 = .ok (.ireturn, 1) := by decide +kernel
theorem d_P_terminal_45 : decode prog_1_method_10_code 45 = .ok (.aload_n 2, 1) := by decide +kernel
theorem d_P_terminal_46 : decode prog_1_method_10_code 46 = .ok (.getfield 167, 3) := by decide +kernel
theorem d_P_terminal_49 : decode prog_1_method_10_code 49 = .ok (.ireturn, 1) := by decide +kernel
theorem d_P_terminal_50 : decode prog_1_method_10_code 50 = .ok (.aload_n 2, 1) := by decide +kernel
theorem d_P_terminal_51 : decode prog_1_method_10_code 51 = .ok (.getfield 170, 3) := by decide +kernel
theorem d_P_terminal_54 : decode prog_1_method_10_code 54 = .ok (.ifCond .eq 7, 3) := by decide +kernel
theorem d_P_terminal_57 : decode prog_1_method_10_code 57 = .ok (.iconst 1, 1) := by decide +kernel
theorem d_P_terminal_58 : decode prog_1_method_10_code 58 = .ok (.goto 4, 3) := by decide +kernel
theorem d_P_terminal_61 : decode prog_1_method_10_code 61 = .ok (.iconst 0, 1) := by decide +kernel
theorem d_P_terminal_62 : decode prog_1_method_10_code 62 = .ok (.ireturn, 1) := by decide +kernel
theorem d_P_terminal_63 : decode prog_1_method_10_code 63 = .ok (.aload_n 2, 1) := by decide +kernel
theorem d_P_terminal_64 : decode prog_1_method_10_code 64 = .ok (.getfield 173, 3) := by decide +kernel
theorem d_P_terminal_67 : decode prog_1_method_10_code 67 = .ok (.ireturn, 1) := by decide +kernel
theorem d_P_terminal_68 : decode prog_1_method_10_code 68 = .ok (.iconst (-1), 1) := by decide +kernel
theorem d_P_terminal_69 : decode prog_1_method_10_code 69 = .ok (.ireturn, 1) := by decide +kernel
theorem d_P_sent_0 : decode prog_1_method_11_code 0 = .ok (.aload_n 0, 1) := by decide +kernel
theorem d_P_sent_1 : decode prog_1_method_11_code 1 = .ok (.getfield 46, 3) := by decide +kernel
theorem d_P_sent_4 : decode prog_1_method_11_code 4 = .ok (.iload_n 1, 1) := by decide +kernel
theorem d_P_sent_5 : decode prog_1_method_11_code 5 = .ok (.invokevirtual 176, 3) := by decide +kernel
theorem d_P_sent_8 : decode prog_1_method_11_code 8 = .ok (.ireturn, 1) := by decide +kernel
end
section
theorem d_T_codeAt_0 : decode prog_11_method_2_code 0 = .ok (.iload_n 1, 1) := by decide +kernel
theorem d_T_codeAt_1 : decode prog_11_method_2_code 1 = .ok (.ifCond .lt 20, 3) := by decide +kernel
theorem d_T_codeAt_4 : decode prog_11_method_2_code 4 = .ok (.iload_n 1, 1) := by decide +kernel
theorem d_T_codeAt_5 : decode prog_11_method_2_code 5 = .ok (.aload_n 0, 1) := by decide +kernel
theorem d_T_codeAt_6 : decode prog_11_method_2_code 6 = .ok (.getfield 15, 3) := by decide +kernel
theorem d_T_codeAt_9 : decode prog_11_method_2_code 9 = .ok (.if_icmp .ge 12, 3) := by decide +kernel
theorem d_T_codeAt_12 : decode prog_11_method_2_code 12 = .ok (.aload_n 0, 1) := by decide +kernel
theorem d_T_codeAt_13 : decode prog_11_method_2_code 13 = .ok (.getfield 9, 3) := by decide +kernel
theorem d_T_codeAt_16 : decode prog_11_method_2_code 16 = .ok (.iload_n 1, 1) := by decide +kernel
theorem d_T_codeAt_17 : decode prog_11_method_2_code 17 = .ok (.iaload, 1) := by decide +kernel
theorem d_T_codeAt_18 : decode prog_11_method_2_code 18 = .ok (.goto 4, 3) := by decide +kernel
theorem d_T_codeAt_21 : decode prog_11_method_2_code 21 = .ok (.iconst (-1), 1) := by decide +kernel
theorem d_T_codeAt_22 : decode prog_11_method_2_code 22 = .ok (.ireturn, 1) := by decide +kernel
theorem d_T_hasRoomFor_0 : decode prog_11_method_3_code 0 = .ok (.iload_n 1, 1) := by decide +kernel
theorem d_T_hasRoomFor_1 : decode prog_11_method_3_code 1 = .ok (.sipush 200, 3) := by decide +kernel
theorem d_T_hasRoomFor_4 : decode prog_11_method_3_code 4 = .ok (.aload_n 0, 1) := by decide +kernel
theorem d_T_hasRoomFor_5 : decode prog_11_method_3_code 5 = .ok (.getfield 15, 3) := by decide +kernel
theorem d_T_hasRoomFor_8 : decode prog_11_method_3_code 8 = .ok (.isub, 1) := by decide +kernel
theorem d_T_hasRoomFor_9 : decode prog_11_method_3_code 9 = .ok (.if_icmp .gt 7, 3) := by decide +kernel
theorem d_T_hasRoomFor_12 : decode prog_11_method_3_code 12 = .ok (.iconst 1, 1) := by decide +kernel
theorem d_T_hasRoomFor_13 : decode prog_11_method_3_code 13 = .ok (.goto 4, 3) := by decide +kernel
theorem d_T_hasRoomFor_16 : decode prog_11_method_3_code 16 = .ok (.iconst 0, 1) := by decide +kernel
theorem d_T_hasRoomFor_17 : decode prog_11_method_3_code 17 = .ok (.ireturn, 1) := by decide +kernel
theorem d_T_insert_0 : decode prog_11_method_4_code 0 = .ok (.aload_n 0, 1) := by decide +kernel
theorem d_T_insert_1 : decode prog_11_method_4_code 1 = .ok (.getfield 9, 3) := by decide +kernel
theorem d_T_insert_4 : decode prog_11_method_4_code 4 = .ok (.iload_n 1, 1) := by decide +kernel
theorem d_T_insert_5 : decode prog_11_method_4_code 5 = .ok (.aload_n 0, 1) := by decide +kernel
theorem d_T_insert_6 : decode prog_11_method_4_code 6 = .ok (.getfield 9, 3) := by decide +kernel
theorem d_T_insert_9 : decode prog_11_method_4_code 9 = .ok (.iload_n 1, 1) := by decide +kernel
theorem d_T_insert_10 : decode prog_11_method_4_code 10 = .ok (.iload 4, 2) := by decide +kernel
theorem d_T_insert_12 : decode prog_11_method_4_code 12 = .ok (.iadd, 1) := by decide +kernel
theorem d_T_insert_13 : decode prog_11_method_4_code 13 = .ok (.aload_n 0, 1) := by decide +kernel
theorem d_T_insert_14 : decode prog_11_method_4_code 14 = .ok (.getfield 15, 3) := by decide +kernel
theorem d_T_insert_17 : decode prog_11_method_4_code 17 = .ok (.iload_n 1, 1) := by decide +kernel
theorem d_T_insert_18 : decode prog_11_method_4_code 18 = .ok (.isub, 1) := by decide +kernel
theorem d_T_insert_19 : decode prog_11_method_4_code 19 = .ok (.invokestatic 19, 3) := by decide +kernel
theorem d_T_insert_22 : decode prog_11_method_4_code 22 = .ok (.aload_n 2, 1) := by decide +kernel
theorem d_T_insert_23 : decode prog_11_method_4_code 23 = .ok (.iload_n 3, 1) := by decide +kernel
theorem d_T_insert_24 : decode prog_11_method_4_code 24 = .ok (.aload_n 0, 1) := by decide +kernel
theorem d_T_insert_25 : decode prog_11_method_4_code 25 = .ok (.getfield 9, 3) := by decide +kernel
theorem d_T_insert_28 : decode prog_11_method_4_code 28 = .ok (.iload_n 1, 1) := by decide +kernel
theorem d_T_insert_29 : decode prog_11_method_4_code 29 = .ok (.iload 4, 2) := by decide +kernel
theorem d_T_insert_31 : decode prog_11_method_4_code 31 = .ok (.invokestatic 19, 3) := by decide +kernel
theorem d_T_insert_34 : decode prog_11_method_4_code 34 = .ok (.aload_n 0, 1) := by decide +kernel
theorem d_T_insert_35 : decode prog_11_method_4_code 35 = .ok (.dup, 1) := by decide +kernel
theorem d_T_insert_36 : decode prog_11_method_4_code 36 = .ok (.getfield 15, 3) := by decide +kernel
theorem d_T_insert_39 : decode prog_11_method_4_code 39 = .ok (.iload 4, 2) := by decide +kernel
theorem d_T_insert_41 : decode prog_11_method_4_code 41 = .ok (.iadd, 1) := by decide +kernel
theorem d_T_insert_42 : decode prog_11_method_4_code 42 = .ok (.putfield 15, 3) := by decide +kernel
theorem d_T_insert_45 : decode prog_11_method_4_code 45 = .ok (.return_, 1) := by decide +kernel
theorem d_T_remove_0 : decode prog_11_method_5_code 0 = .ok (.aload_n 0, 1) := by decide +kernel
theorem d_T_remove_1 : decode prog_11_method_5_code 1 = .ok (.getfield 9, 3) := by decide +kernel
theorem d_T_remove_4 : decode prog_11_method_5_code 4 = .ok (.iload_n 1, 1) := by decide +kernel
theorem d_T_remove_5 : decode prog_11_method_5_code 5 = .ok (.iload_n 2, 1) := by decide +kernel
theorem d_T_remove_6 : decode prog_11_method_5_code 6 = .ok (.iadd, 1) := by decide +kernel
theorem d_T_remove_7 : decode prog_11_method_5_code 7 = .ok (.aload_n 0, 1) := by decide +kernel
theorem d_T_remove_8 : decode prog_11_method_5_code 8 = .ok (.getfield 9, 3) := by decide +kernel
theorem d_T_remove_11 : decode prog_11_method_5_code 11 = .ok (.iload_n 1, 1) := by decide +kernel
theorem d_T_remove_12 : decode prog_11_method_5_code 12 = .ok (.aload_n 0, 1) := by decide +kernel
theorem d_T_remove_13 : decode prog_11_method_5_code 13 = .ok (.getfield 15, 3) := by decide +kernel
theorem d_T_remove_16 : decode prog_11_method_5_code 16 = .ok (.iload_n 1, 1) := by decide +kernel
theorem d_T_remove_17 : decode prog_11_method_5_code 17 = .ok (.isub, 1) := by decide +kernel
theorem d_T_remove_18 : decode prog_11_method_5_code 18 = .ok (.iload_n 2, 1) := by decide +kernel
theorem d_T_remove_19 : decode prog_11_method_5_code 19 = .ok (.isub, 1) := by decide +kernel
theorem d_T_remove_20 : decode prog_11_method_5_code 20 = .ok (.invokestatic 19, 3) := by decide +kernel
theorem d_T_remove_23 : decode prog_11_method_5_code 23 = .ok (.aload_n 0, 1) := by decide +kernel
theorem d_T_remove_24 : decode prog_11_method_5_code 24 = .ok (.dup, 1) := by decide +kernel
theorem d_T_remove_25 : decode prog_11_method_5_code 25 = .ok (.getfield 15, 3) := by decide +kernel
theorem d_T_remove_28 : decode prog_11_method_5_code 28 = .ok (.iload_n 2, 1) := by decide +kernel
theorem d_T_remove_29 : decode prog_11_method_5_code 29 = .ok (.isub, 1) := by decide +kernel
theorem d_T_remove_30 : decode prog_11_method_5_code 30 = .ok (.putfield 15, 3) := by decide +kernel
theorem d_T_remove_33 : decode prog_11_method_5_code 33 = .ok (.return_, 1) := by decide +kernel
theorem d_T_copyTo_0 : decode prog_11_method_6_code 0 = .ok (.aload_n 0, 1) := by decide +kernel
theorem d_T_copyTo_1 : decode prog_11_method_6_code 1 = .ok (.getfield 9, 3) := by decide +kernel
theorem d_T_copyTo_4 : decode prog_11_method_6_code 4 = .ok (.iload_n 3, 1) := by decide +kernel
theorem d_T_copyTo_5 : decode prog_11_method_6_code 5 = .ok (.aload_n 1, 1) := by decide +kernel
theorem d_T_copyTo_6 : decode prog_11_method_6_code 6 = .ok (.iload_n 2, 1) := by decide +kernel
theorem d_T_copyTo_7 : decode prog_11_method_6_code 7 = .ok (.iload 4, 2) := by decide +kernel
theorem d_T_copyTo_9 : decode prog_11_method_6_code 9 = .ok (.invokestatic 19, 3) := by decide +kernel
theorem d_T_copyTo_12 : decode prog_11_method_6_code 12 = .ok (.return_, 1) := by decide +kernel
theorem d_T_isBeginning_0 : decode prog_11_method_7_code 0 = .ok (.aload_n 0, 1) := by decide +kernel
theorem d_T_isBeginning_1 : decode prog_11_method_7_code 1 = .ok (.iload_n 1, 1) := by decide +kernel
theorem d_T_isBeginning_2 : decode prog_11_method_7_code 2 = .ok (.invokevirtual 25, 3) := by decide +kernel
theorem d_T_isBeginning_5 : decode prog_11_method_7_code 5 = .ok (.invokestatic 29, 3) := by decide +kernel
theorem d_T_isBeginning_8 : decode prog_11_method_7_code 8 = .ok (.ifCond .ne 5, 3) := by decide +kernel
theorem d_T_isBeginning_11 : decode prog_11_method_7_code 11 = .ok (.iconst 1, 1) := by decide +kernel
theorem d_T_isBeginning_12 : decode prog_11_method_7_code 12 = .ok (.ireturn, 1) := by decide +kernel
theorem d_T_isBeginning_13 : decode prog_11_method_7_code 13 = .ok (.aload_n 0, 1) := by decide +kernel
theorem d_T_isBeginning_14 : decode prog_11_method_7_code 14 = .ok (.iload_n 1, 1) := by decide +kernel
theorem d_T_isBeginning_15 : decode prog_11_method_7_code 15 = .ok (.iconst 1, 1) := by decide +kernel
theorem d_T_isBeginning_16 : decode prog_11_method_7_code 16 = .ok (.isub, 1) := by decide +kernel
theorem d_T_isBeginning_17 : decode prog_11_method_7_code 17 = .ok (.invokevirtual 25, 3) := by decide +kernel
theorem d_T_isBeginning_20 : decode prog_11_method_7_code 20 = .ok (.invokestatic 29, 3) := by decide +kernel
theorem d_T_isBeginning_23 : decode prog_11_method_7_code 23 = .ok (.ifCond .eq 9, 3) := by decide +kernel
theorem d_T_isBeginning_26 : decode prog_11_method_7_code 26 = .ok (.iload_n 1, 1) := by decide +kernel
theorem d_T_isBeginning_27 : decode prog_11_method_7_code 27 = .ok (.iconst 2, 1) := by decide +kernel
theorem d_T_isBeginning_28 : decode prog_11_method_7_code 28 = .ok (.isub, 1) := by decide +kernel
theorem d_T_isBeginning_29 : decode prog_11_method_7_code 29 = .ok (.goto 6, 3) := by decide +kernel
theorem d_T_isBeginning_32 : decode prog_11_method_7_code 32 = .ok (.iload_n 1, 1) := by decide +kernel
theorem d_T_isBeginning_33 : decode prog_11_method_7_code 33 = .ok (.iconst 1, 1) := by decide +kernel
theorem d_T_isBeginning_34 : decode prog_11_method_7_code 34 = .ok (.isub, 1) := by decide +kernel
theorem d_T_isBeginning_35 : decode prog_11_method_7_code 35 = .ok (.istore_n 2, 1) := by decide +kernel
theorem d_T_isBeginning_36 : decode prog_11_method_7_code 36 = .ok (.aload_n 0, 1) := by decide +kernel
theorem d_T_isBeginning_37 : decode prog_11_method_7_code 37 = .ok (.iload_n 2, 1) := by decide +kernel
theorem d_T_isBeginning_38 : decode prog_11_method_7_code 38 = .ok (.invokevirtual 25, 3) := by decide +kernel
theorem d_T_isBeginning_41 : decode prog_11_method_7_code 41 = .ok (.invokestatic 35, 3) := by decide +kernel
theorem d_T_isBeginning_44 : decode prog_11_method_7_code 44 = .ok (.ifCond .ne 7, 3) := by decide +kernel
theorem d_T_isBeginning_47 : decode prog_11_method_7_code 47 = .ok (.iconst 1, 1) := by decide +kernel
theorem d_T_isBeginning_48 : decode prog_11_method_7_code 48 = .ok (.goto 4, 3) := by decide +kernel
theorem d_T_isBeginning_51 : decode prog_11_method_7_code 51 = .ok (.iconst 0, 1) := by decide +kernel
theorem d_T_isBeginning_52 : decode prog_11_method_7_code 52 = .ok (.ireturn, 1) := by decide +kernel
theorem d_T_beginningFrom_0 : decode prog_11_method_8_code 0 = .ok (.iload_n 1, 1) := by decide +kernel
theorem d_T_beginningFrom_1 : decode prog_11_method_8_code 1 = .ok (.istore_n 2, 1) := by decide +kernel
theorem d_T_beginningFrom_2 : decode prog_11_method_8_code 2 = .ok (.iload_n 2, 1) := by decide +kernel
theorem d_T_beginningFrom_3 : decode prog_11_method_8_code 3 = .ok (.aload_n 0, 1) := by decide +kernel
theorem d_T_beginningFrom_4 : decode prog_11_method_8_code 4 = .ok (.getfield 15, 3) := by decide +kernel
theorem d_T_beginningFrom_7 : decode prog_11_method_8_code 7 = .ok (.if_icmp .ge 17, 3) := by decide +kernel
theorem d_T_beginningFrom_10 : decode prog_11_method_8_code 10 = .ok (.aload_n 0, 1) := by decide +kernel
theorem d_T_beginningFrom_11 : decode prog_11_method_8_code 11 = .ok (.iload_n 2, 1) := by decide +kernel
theorem d_T_beginningFrom_12 : decode prog_11_method_8_code 12 = .ok (.invokevirtual 38, 3) := by decide +kernel
theorem d_T_beginningFrom_15 : decode prog_11_method_8_code 15 = .ok (.ifCond .ne 9, 3) := by decide +kernel
theorem d_T_beginningFrom_18 : decode prog_11_method_8_code 18 = .ok (.iinc 2 1, 3) := by decide +kernel
theorem d_T_beginningFrom_21 : decode prog_11_method_8_code 21 = .ok (.goto (-19), 3) := by decide +kernel
theorem d_T_beginningFrom_24 : decode prog_11_method_8_code 24 = .ok (.iload_n 2, 1) := by decide +kernel
theorem d_T_beginningFrom_25 : decode prog_11_method_8_code 25 = .ok (.aload_n 0, 1) := by decide +kernel
theorem d_T_beginningFrom_26 : decode prog_11_method_8_code 26 = .ok (.getfield 15, 3) := by decide +kernel
theorem d_T_beginningFrom_29 : decode prog_11_method_8_code 29 = .ok (.invokestatic 41, 3) := by decide +kernel
theorem d_T_beginningFrom_32 : decode prog_11_method_8_code 32 = .ok (.ireturn, 1) := by decide +kernel
theorem d_T_beginningAhead_0 : decode prog_11_method_9_code 0 = .ok (.iload_n 1, 1) := by decide +kernel
theorem d_T_beginningAhead_1 : decode prog_11_method_9_code 1 = .ok (.iconst 1, 1) := by decide +kernel
theorem d_T_beginningAhead_2 : decode prog_11_method_9_code 2 = .ok (.isub, 1) := by decide +kernel
theorem d_T_beginningAhead_3 : decode prog_11_method_9_code 3 = .ok (.istore_n 2, 1) := by decide +kernel
theorem d_T_beginningAhead_4 : decode prog_11_method_9_code 4 = .ok (.iload_n 2, 1) := by decide +kernel
theorem d_T_beginningAhead_5 : decode prog_11_method_9_code 5 = .ok (.ifCond .le 17, 3) := by decide +kernel
theorem d_T_beginningAhead_8 : decode prog_11_method_9_code 8 = .ok (.aload_n 0, 1) := by decide +kernel
theorem d_T_beginningAhead_9 : decode prog_11_method_9_code 9 = .ok (.iload_n 2, 1) := by decide +kernel
theorem d_T_beginningAhead_10 : decode prog_11_method_9_code 10 = .ok (.invokevirtual 38, 3) := by decide +kernel
theorem d_T_beginningAhead_13 : decode prog_11_method_9_code 13 = .ok (.ifCond .ne 9, 3) := by decide +kernel
theorem d_T_beginningAhead_16 : decode prog_11_method_9_code 16 = .ok (.iinc 2 (-1), 3) := by decide +kernel
theorem d_T_beginningAhead_19 : decode prog_11_method_9_code 19 = .ok (.goto (-15), 3) := by decide +kernel
theorem d_T_beginningAhead_22 : decode prog_11_method_9_code 22 = .ok (.iload_n 2, 1) := by decide +kernel
theorem d_T_beginningAhead_23 : decode prog_11_method_9_code 23 = .ok (.iconst 0, 1) := by decide +kernel
theorem d_T_beginningAhead_24 : decode prog_11_method_9_code 24 = .ok (.invokestatic 47, 3) := by decide +kernel
theorem d_T_beginningAhead_27 : decode prog_11_method_9_code 27 = .ok (.ireturn, 1) := by decide +kernel
theorem d_T_lineBeginning_0 : decode prog_11_method_10_code 0 = .ok (.iload_n 1, 1) := by decide +kernel
theorem d_T_lineBeginning_1 : decode prog_11_method_10_code 1 = .ok (.istore_n 2, 1) := by decide +kernel
theorem d_T_lineBeginning_2 : decode prog_11_method_10_code 2 = .ok (.iload_n 2, 1) := by decide +kernel
theorem d_T_lineBeginning_3 : decode prog_11_method_10_code 3 = .ok (.ifCond .le 21, 3) := by decide +kernel
theorem d_T_lineBeginning_6 : decode prog_11_method_10_code 6 = .ok (.aload_n 0, 1) := by decide +kernel
theorem d_T_lineBeginning_7 : decode prog_11_method_10_code 7 = .ok (.iload_n 2, 1) := by decide +kernel
theorem d_T_lineBeginning_8 : decode prog_11_method_10_code 8 = .ok (.iconst 1, 1) := by decide +kernel
theorem d_T_lineBeginning_9 : decode prog_11_method_10_code 9 = .ok (.isub, 1) := by decide +kernel
theorem d_T_lineBeginning_10 : decode prog_11_method_10_code 10 = .ok (.invokevirtual 25, 3) := by decide +kernel
theorem d_T_lineBeginning_13 : decode prog_11_method_10_code 13 = .ok (.bipush 10, 2) := by decide +kernel
theorem d_T_lineBeginning_15 : decode prog_11_method_10_code 15 = .ok (.if_icmp .eq 9, 3) := by decide +kernel
theorem d_T_lineBeginning_18 : decode prog_11_method_10_code 18 = .ok (.iinc 2 (-1), 3) := by decide +kernel
theorem d_T_lineBeginning_21 : decode prog_11_method_10_code 21 = .ok (.goto (-19), 3) := by decide +kernel
theorem d_T_lineBeginning_24 : decode prog_11_method_10_code 24 = .ok (.iload_n 2, 1) := by decide +kernel
theorem d_T_lineBeginning_25 : decode prog_11_method_10_code 25 = .ok (.ireturn, 1) := by decide +kernel
theorem d_T_lineEnd_0 : decode prog_11_method_11_code 0 = .ok (.iload_n 1, 1) := by decide +kernel
theorem d_T_lineEnd_1 : decode prog_11_method_11_code 1 = .ok (.istore_n 2, 1) := by decide +kernel
theorem d_T_lineEnd_2 : decode prog_11_method_11_code 2 = .ok (.iload_n 2, 1) := by decide +kernel
theorem d_T_lineEnd_3 : decode prog_11_method_11_code 3 = .ok (.aload_n 0, 1) := by decide +kernel
theorem d_T_lineEnd_4 : decode prog_11_method_11_code 4 = .ok (.getfield 15, 3) := by decide +kernel
theorem d_T_lineEnd_7 : decode prog_11_method_11_code 7 = .ok (.if_icmp .ge 19, 3) := by decide +kernel
theorem d_T_lineEnd_10 : decode prog_11_method_11_code 10 = .ok (.aload_n 0, 1) := by decide +kernel
theorem d_T_lineEnd_11 : decode prog_11_method_11_code 11 = .ok (.iload_n 2, 1) := by decide +kernel
theorem d_T_lineEnd_12 : decode prog_11_method_11_code 12 = .ok (.invokevirtual 25, 3) := by decide +kernel
theorem d_T_lineEnd_15 : decode prog_11_method_11_code 15 = .ok (.bipush 10, 2) := by decide +kernel
theorem d_T_lineEnd_17 : decode prog_11_method_11_code 17 = .ok (.if_icmp .eq 9, 3) := by decide +kernel
theorem d_T_lineEnd_20 : decode prog_11_method_11_code 20 = .ok (.iinc 2 1, 3) := by decide +kernel
theorem d_T_lineEnd_23 : decode prog_11_method_11_code 23 = .ok (.goto (-21), 3) := by decide +kernel
theorem d_T_lineEnd_26 : decode prog_11_method_11_code 26 = .ok (.iload_n 2, 1) := by decide +kernel
theorem d_T_lineEnd_27 : decode prog_11_method_11_code 27 = .ok (.ireturn, 1) := by decide +kernel
theorem d_T_lineNumber_0 : decode prog_11_method_12_code 0 = .ok (.iconst 1, 1) := by decide +kernel
theorem d_T_lineNumber_1 : decode prog_11_method_12_code 1 = .ok (.istore_n 2, 1) := by decide +kernel
theorem d_T_lineNumber_2 : decode prog_11_method_12_code 2 = .ok (.iconst 0, 1) := by decide +kernel
theorem d_T_lineNumber_3 : decode prog_11_method_12_code 3 = .ok (.istore_n 3, 1) := by decide +kernel
theorem d_T_lineNumber_4 : decode prog_11_method_12_code 4 = .ok (.iload_n 3, 1) := by decide +kernel
theorem d_T_lineNumber_5 : decode prog_11_method_12_code 5 = .ok (.iload_n 1, 1) := by decide +kernel
theorem d_T_lineNumber_6 : decode prog_11_method_12_code 6 = .ok (.if_icmp .ge 22, 3) := by decide +kernel
theorem d_T_lineNumber_9 : decode prog_11_method_12_code 9 = .ok (.aload_n 0, 1) := by decide +kernel
theorem d_T_lineNumber_10 : decode prog_11_method_12_code 10 = .ok (.iload_n 3, 1) := by decide +kernel
theorem d_T_lineNumber_11 : decode prog_11_method_12_code 11 = .ok (.invokevirtual 25, 3) := by decide +kernel
theorem d_T_lineNumber_14 : decode prog_11_method_12_code 14 = .ok (.bipush 10, 2) := by decide +kernel
theorem d_T_lineNumber_16 : decode prog_11_method_12_code 16 = .ok (.if_icmp .ne 6, 3) := by decide +kernel
theorem d_T_lineNumber_19 : decode prog_11_method_12_code 19 = .ok (.iinc 2 1, 3) := by decide +kernel
theorem d_T_lineNumber_22 : decode prog_11_method_12_code 22 = .ok (.iinc 3 1, 3) := by decide +kernel
theorem d_T_lineNumber_25 : decode prog_11_method_12_code 25 = .ok (.goto (-21), 3) := by decide +kernel
theorem d_T_lineNumber_28 : decode prog_11_method_12_code 28 = .ok (.iload_n 2, 1) := by decide +kernel
theorem d_T_lineNumber_29 : decode prog_11_method_12_code 29 = .ok (.ireturn, 1) := by decide +kernel
theorem d_T_clusterAt_0 : decode prog_11_method_13_code 0 = .ok (.aload_n 0, 1) := by decide +kernel
theorem d_T_clusterAt_1 : decode prog_11_method_13_code 1 = .ok (.iload_n 1, 1) := by decide +kernel
theorem d_T_clusterAt_2 : decode prog_11_method_13_code 2 = .ok (.invokevirtual 25, 3) := by decide +kernel
theorem d_T_clusterAt_5 : decode prog_11_method_13_code 5 = .ok (.istore_n 2, 1) := by decide +kernel
theorem d_T_clusterAt_6 : decode prog_11_method_13_code 6 = .ok (.iload_n 2, 1) := by decide +kernel
theorem d_T_clusterAt_7 : decode prog_11_method_13_code 7 = .ok (.bipush 32, 2) := by decide +kernel
theorem d_T_clusterAt_9 : decode prog_11_method_13_code 9 = .ok (.if_icmp .ge 6, 3) := by decide +kernel
theorem d_T_clusterAt_12 : decode prog_11_method_13_code 12 = .ok (.bipush 32, 2) := by decide +kernel
theorem d_T_clusterAt_14 : decode prog_11_method_13_code 14 = .ok (.ireturn, 1) := by decide +kernel
theorem d_T_clusterAt_15 : decode prog_11_method_13_code 15 = .ok (.iload_n 2, 1) := by decide +kernel
theorem d_T_clusterAt_16 : decode prog_11_method_13_code 16 = .ok (.istore_n 3, 1) := by decide +kernel
theorem d_T_clusterAt_17 : decode prog_11_method_13_code 17 = .ok (.aload_n 0, 1) := by decide +kernel
theorem d_T_clusterAt_18 : decode prog_11_method_13_code 18 = .ok (.iload_n 1, 1) := by decide +kernel
theorem d_T_clusterAt_19 : decode prog_11_method_13_code 19 = .ok (.iconst 1, 1) := by decide +kernel
theorem d_T_clusterAt_20 : decode prog_11_method_13_code 20 = .ok (.iadd, 1) := by decide +kernel
theorem d_T_clusterAt_21 : decode prog_11_method_13_code 21 = .ok (.invokevirtual 50, 3) := by decide +kernel
theorem d_T_clusterAt_24 : decode prog_11_method_13_code 24 = .ok (.istore 4, 2) := by decide +kernel
theorem d_T_clusterAt_26 : decode prog_11_method_13_code 26 = .ok (.iload_n 1, 1) := by decide +kernel
theorem d_T_clusterAt_27 : decode prog_11_method_13_code 27 = .ok (.iconst 1, 1) := by decide +kernel
theorem d_T_clusterAt_28 : decode prog_11_method_13_code 28 = .ok (.iadd, 1) := by decide +kernel
theorem d_T_clusterAt_29 : decode prog_11_method_13_code 29 = .ok (.istore 5, 2) := by decide +kernel
theorem d_T_clusterAt_31 : decode prog_11_method_13_code 31 = .ok (.iload 5, 2) := by decide +kernel
theorem d_T_clusterAt_33 : decode prog_11_method_13_code 33 = .ok (.iload 4, 2) := by decide +kernel
theorem d_T_clusterAt_35 : decode prog_11_method_13_code 35 = .ok (.if_icmp .ge 20, 3) := by decide +kernel
theorem d_T_clusterAt_38 : decode prog_11_method_13_code 38 = .ok (.iload_n 3, 1) := by decide +kernel
theorem d_T_clusterAt_39 : decode prog_11_method_13_code 39 = .ok (.aload_n 0, 1) := by decide +kernel
theorem d_T_clusterAt_40 : decode prog_11_method_13_code 40 = .ok (.iload 5, 2) := by decide +kernel
theorem d_T_clusterAt_42 : decode prog_11_method_13_code 42 = .ok (.invokevirtual 25, 3) := by decide +kernel
theorem d_T_clusterAt_45 : decode prog_11_method_13_code 45 = .ok (.invokestatic 53, 3) := by decide +kernel
theorem d_T_clusterAt_48 : decode prog_11_method_13_code 48 = .ok (.istore_n 3, 1) := by decide +kernel
theorem d_T_clusterAt_49 : decode prog_11_method_13_code 49 = .ok (.iinc 5 1, 3) := by decide +kernel
theorem d_T_clusterAt_52 : decode prog_11_method_13_code 52 = .ok (.goto (-21), 3) := by decide +kernel
theorem d_T_clusterAt_55 : decode prog_11_method_13_code 55 = .ok (.iload_n 3, 1) := by decide +kernel
theorem d_T_clusterAt_56 : decode prog_11_method_13_code 56 = .ok (.ireturn, 1) := by decide +kernel
theorem d_H_keepInsertion_0 : decode prog_5_method_2_code 0 = .ok (.aload_n 0, 1) := by decide +kernel
theorem d_H_keepInsertion_1 : decode prog_5_method_2_code 1 = .ok (.invokevirtual 28, 3) := by decide +kernel
theorem d_H_keepInsertion_4 : decode prog_5_method_2_code 4 = .ok (.istore_n 3, 1) := by decide +kernel
theorem d_H_keepInsertion_5 : decode prog_5_method_2_code 5 = .ok (.aload_n 0, 1) := by decide +kernel
theorem d_H_keepInsertion_6 : decode prog_5_method_2_code 6 = .ok (.getfield 9, 3) := by decide +kernel
theorem d_H_keepInsertion_9 : decode prog_5_method_2_code 9 = .ok (.iload_n 3, 1) := by decide +kernel
theorem d_H_keepInsertion_10 : decode prog_5_method_2_code 10 = .ok (.iload_n 1, 1) := by decide +kernel
theorem d_H_keepInsertion_11 : decode prog_5_method_2_code 11 = .ok (.iastore, 1) := by decide +kernel
theorem d_H_keepInsertion_12 : decode prog_5_method_2_code 12 = .ok (.aload_n 0, 1) := by decide +kernel
theorem d_H_keepInsertion_13 : decode prog_5_method_2_code 13 = .ok (.getfield 15, 3) := by decide +kernel
theorem d_H_keepInsertion_16 : decode prog_5_method_2_code 16 = .ok (.iload_n 3, 1) := by decide +kernel
theorem d_H_keepInsertion_17 : decode prog_5_method_2_code 17 = .ok (.iload_n 2, 1) := by decide +kernel
theorem d_H_keepInsertion_18 : decode prog_5_method_2_code 18 = .ok (.iastore, 1) := by decide +kernel
theorem d_H_keepInsertion_19 : decode prog_5_method_2_code 19 = .ok (.aload_n 0, 1) := by decide +kernel
theorem d_H_keepInsertion_20 : decode prog_5_method_2_code 20 = .ok (.getfield 18, 3) := by decide +kernel
theorem d_H_keepInsertion_23 : decode prog_5_method_2_code 23 = .ok (.iload_n 3, 1) := by decide +kernel
theorem d_H_keepInsertion_24 : decode prog_5_method_2_code 24 = .ok (.iload_n 1, 1) := by decide +kernel
theorem d_H_keepInsertion_25 : decode prog_5_method_2_code 25 = .ok (.iastore, 1) := by decide +kernel
theorem d_H_keepInsertion_26 : decode prog_5_method_2_code 26 = .ok (.aload_n 0, 1) := by decide +kernel
theorem d_H_keepInsertion_27 : decode prog_5_method_2_code 27 = .ok (.getfield 21, 3) := by decide +kernel
theorem d_H_keepInsertion_30 : decode prog_5_method_2_code 30 = .ok (.iload_n 3, 1) := by decide +kernel
theorem d_H_keepInsertion_31 : decode prog_5_method_2_code 31 = .ok (.iconst 0, 1) := by decide +kernel
theorem d_H_keepInsertion_32 : decode prog_5_method_2_code 32 = .ok (.bastore, 1) := by decide +kernel
theorem d_H_keepInsertion_33 : decode prog_5_method_2_code 33 = .ok (.return_, 1) := by decide +kernel
theorem d_H_keepRemoval_0 : decode prog_5_method_3_code 0 = .ok (.aload_n 0, 1) := by decide +kernel
theorem d_H_keepRemoval_1 : decode prog_5_method_3_code 1 = .ok (.invokevirtual 28, 3) := by decide +kernel
theorem d_H_keepRemoval_4 : decode prog_5_method_3_code 4 = .ok (.istore 5, 2) := by decide +kernel
theorem d_H_keepRemoval_6 : decode prog_5_method_3_code 6 = .ok (.aload_n 0, 1) := by decide +kernel
theorem d_H_keepRemoval_7 : decode prog_5_method_3_code 7 = .ok (.getfield 9, 3) := by decide +kernel
theorem d_H_keepRemoval_10 : decode prog_5_method_3_code 10 = .ok (.iload 5, 2) := by decide +kernel
theorem d_H_keepRemoval_12 : decode prog_5_method_3_code 12 = .ok (.iload_n 2, 1) := by decide +kernel
theorem d_H_keepRemoval_13 : decode prog_5_method_3_code 13 = .ok (.iastore, 1) := by decide +kernel
theorem d_H_keepRemoval_14 : decode prog_5_method_3_code 14 = .ok (.aload_n 0, 1) := by decide +kernel
theorem d_H_keepRemoval_15 : decode prog_5_method_3_code 15 = .ok (.getfield 15, 3) := by decide +kernel
theorem d_H_keepRemoval_18 : decode prog_5_method_3_code 18 = .ok (.iload 5, 2) := by decide +kernel
theorem d_H_keepRemoval_20 : decode prog_5_method_3_code 20 = .ok (.iload_n 3, 1) := by decide +kernel
theorem d_H_keepRemoval_21 : decode prog_5_method_3_code 21 = .ok (.iastore, 1) := by decide +kernel
theorem d_H_keepRemoval_22 : decode prog_5_method_3_code 22 = .ok (.aload_n 0, 1) := by decide +kernel
theorem d_H_keepRemoval_23 : decode prog_5_method_3_code 23 = .ok (.getfield 18, 3) := by decide +kernel
theorem d_H_keepRemoval_26 : decode prog_5_method_3_code 26 = .ok (.iload 5, 2) := by decide +kernel
theorem d_H_keepRemoval_28 : decode prog_5_method_3_code 28 = .ok (.iload 4, 2) := by decide +kernel
theorem d_H_keepRemoval_30 : decode prog_5_method_3_code 30 = .ok (.iastore, 1) := by decide +kernel
theorem d_H_keepRemoval_31 : decode prog_5_method_3_code 31 = .ok (.aload_n 0, 1) := by decide +kernel
theorem d_H_keepRemoval_32 : decode prog_5_method_3_code 32 = .ok (.getfield 21, 3) := by decide +kernel
theorem d_H_keepRemoval_35 : decode prog_5_method_3_code 35 = .ok (.iload 5, 2) := by decide +kernel
theorem d_H_keepRemoval_37 : decode prog_5_method_3_code 37 = .ok (.iconst 1, 1) := by decide +kernel
theorem d_H_keepRemoval_38 : decode prog_5_method_3_code 38 = .ok (.bastore, 1) := by decide +kernel
theorem d_H_keepRemoval_39 : decode prog_5_method_3_code 39 = .ok (.aload_n 1, 1) := by decide +kernel
theorem d_H_keepRemoval_40 : decode prog_5_method_3_code 40 = .ok (.aload_n 0, 1) := by decide +kernel
theorem d_H_keepRemoval_41 : decode prog_5_method_3_code 41 = .ok (.getfield 25, 3) := by decide +kernel
theorem d_H_keepRemoval_44 : decode prog_5_method_3_code 44 = .ok (.iload 5, 2) := by decide +kernel
theorem d_H_keepRemoval_46 : decode prog_5_method_3_code 46 = .ok (.sipush 200, 3) := by decide +kernel
theorem d_H_keepRemoval_49 : decode prog_5_method_3_code 49 = .ok (.imul, 1) := by decide +kernel
theorem d_H_keepRemoval_50 : decode prog_5_method_3_code 50 = .ok (.iload_n 2, 1) := by decide +kernel
theorem d_H_keepRemoval_51 : decode prog_5_method_3_code 51 = .ok (.iload_n 3, 1) := by decide +kernel
theorem d_H_keepRemoval_52 : decode prog_5_method_3_code 52 = .ok (.invokevirtual 32, 3) := by decide +kernel
theorem d_H_keepRemoval_55 : decode prog_5_method_3_code 55 = .ok (.return_, 1) := by decide +kernel
theorem d_H_undoIn_0 : decode prog_5_method_4_code 0 = .ok (.aload_n 0, 1) := by decide +kernel
theorem d_H_undoIn_1 : decode prog_5_method_4_code 1 = .ok (.getfield 38, 3) := by decide +kernel
theorem d_H_undoIn_4 : decode prog_5_method_4_code 4 = .ok (.ifCond .ne 5, 3) := by decide +kernel
theorem d_H_undoIn_7 : decode prog_5_method_4_code 7 = .ok (.iconst (-1), 1) := by decide +kernel
theorem d_H_undoIn_8 : decode prog_5_method_4_code 8 = .ok (.ireturn, 1) := by decide +kernel
theorem d_H_undoIn_9 : decode prog_5_method_4_code 9 = .ok (.aload_n 0, 1) := by decide +kernel
theorem d_H_undoIn_10 : decode prog_5_method_4_code 10 = .ok (.dup, 1) := by decide +kernel
theorem d_H_undoIn_11 : decode prog_5_method_4_code 11 = .ok (.getfield 38, 3) := by decide +kernel
theorem d_H_undoIn_14 : decode prog_5_method_4_code 14 = .ok (.iconst 1, 1) := by decide +kernel
theorem d_H_undoIn_15 : decode prog_5_method_4_code 15 = .ok (.isub, 1) := by decide +kernel
theorem d_H_undoIn_16 : decode prog_5_method_4_code 16 = .ok (.putfield 38, 3) := by decide +kernel
theorem d_H_undoIn_19 : decode prog_5_method_4_code 19 = .ok (.aload_n 0, 1) := by decide +kernel
theorem d_H_undoIn_20 : decode prog_5_method_4_code 20 = .ok (.getfield 42, 3) := by decide +kernel
theorem d_H_undoIn_23 : decode prog_5_method_4_code 23 = .ok (.aload_n 0, 1) := by decide +kernel
theorem d_H_undoIn_24 : decode prog_5_method_4_code 24 = .ok (.getfield 38, 3) := by decide +kernel
theorem d_H_undoIn_27 : decode prog_5_method_4_code 27 = .ok (.iadd, 1) := by decide +kernel
theorem d_H_undoIn_28 : decode prog_5_method_4_code 28 = .ok (.bipush 12, 2) := by decide +kernel
theorem d_H_undoIn_30 : decode prog_5_method_4_code 30 = .ok (.irem, 1) := by decide +kernel
theorem d_H_undoIn_31 : decode prog_5_method_4_code 31 = .ok (.istore_n 2, 1) := by decide +kernel
theorem d_H_undoIn_32 : decode prog_5_method_4_code 32 = .ok (.aload_n 0, 1) := by decide +kernel
theorem d_H_undoIn_33 : decode prog_5_method_4_code 33 = .ok (.getfield 21, 3) := by decide +kernel
theorem d_H_undoIn_36 : decode prog_5_method_4_code 36 = .ok (.iload_n 2, 1) := by decide +kernel
theorem d_H_undoIn_37 : decode prog_5_method_4_code 37 = .ok (.baload, 1) := by decide +kernel
theorem d_H_undoIn_38 : decode prog_5_method_4_code 38 = .ok (.ifCond .eq 31, 3) := by decide +kernel
theorem d_H_undoIn_41 : decode prog_5_method_4_code 41 = .ok (.aload_n 1, 1) := by decide +kernel
theorem d_H_undoIn_42 : decode prog_5_method_4_code 42 = .ok (.aload_n 0, 1) := by decide +kernel
theorem d_H_undoIn_43 : decode prog_5_method_4_code 43 = .ok (.getfield 9, 3) := by decide +kernel
theorem d_H_undoIn_46 : decode prog_5_method_4_code 46 = .ok (.iload_n 2, 1) := by decide +kernel
theorem d_H_undoIn_47 : decode prog_5_method_4_code 47 = .ok (.iaload, 1) := by decide +kernel
theorem d_H_undoIn_48 : decode prog_5_method_4_code 48 = .ok (.aload_n 0, 1) := by decide +kernel
theorem d_H_undoIn_49 : decode prog_5_method_4_code 49 = .ok (.getfield 25, 3) := by decide +kernel
theorem d_H_undoIn_52 : decode prog_5_method_4_code 52 = .ok (.iload_n 2, 1) := by decide +kernel
theorem d_H_undoIn_53 : decode prog_5_method_4_code 53 = .ok (.sipush 200, 3) := by decide +kernel
theorem d_H_undoIn_56 : decode prog_5_method_4_code 56 = .ok (.imul, 1) := by decide +kernel
theorem d_H_undoIn_57 : decode prog_5_method_4_code 57 = .ok (.aload_n 0, 1) := by decide +kernel
theorem d_H_undoIn_58 : decode prog_5_method_4_code 58 = .ok (.getfield 15, 3) := by decide +kernel
theorem d_H_undoIn_61 : decode prog_5_method_4_code 61 = .ok (.iload_n 2, 1) := by decide +kernel
theorem d_H_undoIn_62 : decode prog_5_method_4_code 62 = .ok (.iaload, 1) := by decide +kernel
theorem d_H_undoIn_63 : decode prog_5_method_4_code 63 = .ok (.invokevirtual 45, 3) := by decide +kernel
theorem d_H_undoIn_66 : decode prog_5_method_4_code 66 = .ok (.goto 19, 3) := by decide +kernel
theorem d_H_undoIn_69 : decode prog_5_method_4_code 69 = .ok (.aload_n 1, 1) := by decide +kernel
theorem d_H_undoIn_70 : decode prog_5_method_4_code 70 = .ok (.aload_n 0, 1) := by decide +kernel
theorem d_H_undoIn_71 : decode prog_5_method_4_code 71 = .ok (.getfield 9, 3) := by decide +kernel
theorem d_H_undoIn_74 : decode prog_5_method_4_code 74 = .ok (.iload_n 2, 1) := by decide +kernel
theorem d_H_undoIn_75 : decode prog_5_method_4_code 75 = .ok (.iaload, 1) := by decide +kernel
theorem d_H_undoIn_76 : decode prog_5_method_4_code 76 = .ok (.aload_n 0, 1) := by decide +kernel
theorem d_H_undoIn_77 : decode prog_5_method_4_code 77 = .ok (.getfield 15, 3) := by decide +kernel
theorem d_H_undoIn_80 : decode prog_5_method_4_code 80 = .ok (.iload_n 2, 1) := by decide +kernel
theorem d_H_undoIn_81 : decode prog_5_method_4_code 81 = .ok (.iaload, 1) := by decide +kernel
theorem d_H_undoIn_82 : decode prog_5_method_4_code 82 = .ok (.invokevirtual 49, 3) := by decide +kernel
theorem d_H_undoIn_85 : decode prog_5_method_4_code 85 = .ok (.aload_n 0, 1) := by decide +kernel
theorem d_H_undoIn_86 : decode prog_5_method_4_code 86 = .ok (.getfield 18, 3) := by decide +kernel
theorem d_H_undoIn_89 : decode prog_5_method_4_code 89 = .ok (.iload_n 2, 1) := by decide +kernel
theorem d_H_undoIn_90 : decode prog_5_method_4_code 90 = .ok (.iaload, 1) := by decide +kernel
theorem d_H_undoIn_91 : decode prog_5_method_4_code 91 = .ok (.ireturn, 1) := by decide +kernel
theorem d_H_newSlot_0 : decode prog_5_method_5_code 0 = .ok (.aload_n 0, 1) := by decide +kernel
theorem d_H_newSlot_1 : decode prog_5_method_5_code 1 = .ok (.getfield 38, 3) := by decide +kernel
theorem d_H_newSlot_4 : decode prog_5_method_5_code 4 = .ok (.bipush 12, 2) := by decide +kernel
theorem d_H_newSlot_6 : decode prog_5_method_5_code 6 = .ok (.if_icmp .ge 16, 3) := by decide +kernel
theorem d_H_newSlot_9 : decode prog_5_method_5_code 9 = .ok (.aload_n 0, 1) := by decide +kernel
theorem d_H_newSlot_10 : decode prog_5_method_5_code 10 = .ok (.dup, 1) := by decide +kernel
theorem d_H_newSlot_11 : decode prog_5_method_5_code 11 = .ok (.getfield 38, 3) := by decide +kernel
theorem d_H_newSlot_14 : decode prog_5_method_5_code 14 = .ok (.iconst 1, 1) := by decide +kernel
theorem d_H_newSlot_15 : decode prog_5_method_5_code 15 = .ok (.iadd, 1) := by decide +kernel
theorem d_H_newSlot_16 : decode prog_5_method_5_code 16 = .ok (.putfield 38, 3) := by decide +kernel
theorem d_H_newSlot_19 : decode prog_5_method_5_code 19 = .ok (.goto 16, 3) := by decide +kernel
theorem d_H_newSlot_22 : decode prog_5_method_5_code 22 = .ok (.aload_n 0, 1) := by decide +kernel
theorem d_H_newSlot_23 : decode prog_5_method_5_code 23 = .ok (.aload_n 0, 1) := by decide +kernel
theorem d_H_newSlot_24 : decode prog_5_method_5_code 24 = .ok (.getfield 42, 3) := by decide +kernel
theorem d_H_newSlot_27 : decode prog_5_method_5_code 27 = .ok (.iconst 1, 1) := by decide +kernel
theorem d_H_newSlot_28 : decode prog_5_method_5_code 28 = .ok (.iadd, 1) := by decide +kernel
theorem d_H_newSlot_29 : decode prog_5_method_5_code 29 = .ok (.bipush 12, 2) := by decide +kernel
theorem d_H_newSlot_31 : decode prog_5_method_5_code 31 = .ok (.irem, 1) := by decide +kernel
theorem d_H_newSlot_32 : decode prog_5_method_5_code 32 = .ok (.putfield 42, 3) := by decide +kernel
theorem d_H_newSlot_35 : decode prog_5_method_5_code 35 = .ok (.aload_n 0, 1) := by decide +kernel
theorem d_H_newSlot_36 : decode prog_5_method_5_code 36 = .ok (.getfield 42, 3) := by decide +kernel
theorem d_H_newSlot_39 : decode prog_5_method_5_code 39 = .ok (.aload_n 0, 1) := by decide +kernel
theorem d_H_newSlot_40 : decode prog_5_method_5_code 40 = .ok (.getfield 38, 3) := by decide +kernel
theorem d_H_newSlot_43 : decode prog_5_method_5_code 43 = .ok (.iadd, 1) := by decide +kernel
theorem d_H_newSlot_44 : decode prog_5_method_5_code 44 = .ok (.iconst 1, 1) := by decide +kernel
theorem d_H_newSlot_45 : decode prog_5_method_5_code 45 = .ok (.isub, 1) := by decide +kernel
theorem d_H_newSlot_46 : decode prog_5_method_5_code 46 = .ok (.bipush 12, 2) := by decide +kernel
theorem d_H_newSlot_48 : decode prog_5_method_5_code 48 = .ok (.irem, 1) := by decide +kernel
theorem d_H_newSlot_49 : decode prog_5_method_5_code 49 = .ok (.ireturn, 1) := by decide +kernel
theorem d_L_lay_0 : decode prog_7_method_2_code 0 = .ok (.iconst 0, 1) := by decide +kernel
theorem d_L_lay_1 : decode prog_7_method_2_code 1 = .ok (.istore_n 3, 1) := by decide +kernel
theorem d_L_lay_2 : decode prog_7_method_2_code 2 = .ok (.iconst 0, 1) := by decide +kernel
theorem d_L_lay_3 : decode prog_7_method_2_code 3 = .ok (.istore 4, 2) := by decide +kernel
theorem d_L_lay_5 : decode prog_7_method_2_code 5 = .ok (.iconst 0, 1) := by decide +kernel
theorem d_L_lay_6 : decode prog_7_method_2_code 6 = .ok (.istore 5, 2) := by decide +kernel
theorem d_L_lay_8 : decode prog_7_method_2_code 8 = .ok (.iload 5, 2) := by decide +kernel
theorem d_L_lay_10 : decode prog_7_method_2_code 10 = .ok (.aload_n 1, 1) := by decide +kernel
theorem d_L_lay_11 : decode prog_7_method_2_code 11 = .ok (.getfield 21, 3) := by decide +kernel
theorem d_L_lay_14 : decode prog_7_method_2_code 14 = .ok (.if_icmp .gt 130, 3) := by decide +kernel
theorem d_L_lay_17 : decode prog_7_method_2_code 17 = .ok (.aload_n 0, 1) := by decide +kernel
theorem d_L_lay_18 : decode prog_7_method_2_code 18 = .ok (.getfield 9, 3) := by decide +kernel
theorem d_L_lay_21 : decode prog_7_method_2_code 21 = .ok (.iload 5, 2) := by decide +kernel
theorem d_L_lay_23 : decode prog_7_method_2_code 23 = .ok (.iconst (-1), 1) := by decide +kernel
theorem d_L_lay_24 : decode prog_7_method_2_code 24 = .ok (.iastore, 1) := by decide +kernel
theorem d_L_lay_25 : decode prog_7_method_2_code 25 = .ok (.aload_n 1, 1) := by decide +kernel
theorem d_L_lay_26 : decode prog_7_method_2_code 26 = .ok (.iload 5, 2) := by decide +kernel
theorem d_L_lay_28 : decode prog_7_method_2_code 28 = .ok (.invokevirtual 27, 3) := by decide +kernel
theorem d_L_lay_31 : decode prog_7_method_2_code 31 = .ok (.ifCond .ne 6, 3) := by decide +kernel
theorem d_L_lay_34 : decode prog_7_method_2_code 34 = .ok (.goto 104, 3) := by decide +kernel
theorem d_L_lay_37 : decode prog_7_method_2_code 37 = .ok (.aload_n 1, 1) := by decide +kernel
theorem d_L_lay_38 : decode prog_7_method_2_code 38 = .ok (.iload 5, 2) := by decide +kernel
theorem d_L_lay_40 : decode prog_7_method_2_code 40 = .ok (.invokevirtual 31, 3) := by decide +kernel
theorem d_L_lay_43 : decode prog_7_method_2_code 43 = .ok (.istore 6, 2) := by decide +kernel
theorem d_L_lay_45 : decode prog_7_method_2_code 45 = .ok (.iload 6, 2) := by decide +kernel
theorem d_L_lay_47 : decode prog_7_method_2_code 47 = .ok (.invokestatic 35, 3) := by decide +kernel
theorem d_L_lay_50 : decode prog_7_method_2_code 50 = .ok (.istore 7, 2) := by decide +kernel
theorem d_L_lay_52 : decode prog_7_method_2_code 52 = .ok (.iload 4, 2) := by decide +kernel
theorem d_L_lay_54 : decode prog_7_method_2_code 54 = .ok (.iload 7, 2) := by decide +kernel
theorem d_L_lay_56 : decode prog_7_method_2_code 56 = .ok (.iadd, 1) := by decide +kernel
theorem d_L_lay_57 : decode prog_7_method_2_code 57 = .ok (.iload_n 2, 1) := by decide +kernel
theorem d_L_lay_58 : decode prog_7_method_2_code 58 = .ok (.if_icmp .le 9, 3) := by decide +kernel
theorem d_L_lay_61 : decode prog_7_method_2_code 61 = .ok (.iinc 3 1, 3) := by decide +kernel
theorem d_L_lay_64 : decode prog_7_method_2_code 64 = .ok (.iconst 0, 1) := by decide +kernel
theorem d_L_lay_65 : decode prog_7_method_2_code 65 = .ok (.istore 4, 2) := by decide +kernel
theorem d_L_lay_67 : decode prog_7_method_2_code 67 = .ok (.iload 6, 2) := by decide +kernel
theorem d_L_lay_69 : decode prog_7_method_2_code 69 = .ok (.bipush 9, 2) := by decide +kernel
theorem d_L_lay_71 : decode prog_7_method_2_code 71 = .ok (.if_icmp .ne 21, 3) := by decide +kernel
theorem d_L_lay_74 : decode prog_7_method_2_code 74 = .ok (.iload_n 2, 1) := by decide +kernel
theorem d_L_lay_75 : decode prog_7_method_2_code 75 = .ok (.iload 4, 2) := by decide +kernel
theorem d_L_lay_77 : decode prog_7_method_2_code 77 = .ok (.iload 4, 2) := by decide +kernel
theorem d_L_lay_79 : decode prog_7_method_2_code 79 = .ok (.iconst 4, 1) := by decide +kernel
theorem d_L_lay_80 : decode prog_7_method_2_code 80 = .ok (.irem, 1) := by decide +kernel
theorem d_L_lay_81 : decode prog_7_method_2_code 81 = .ok (.isub, 1) := by decide +kernel
theorem d_L_lay_82 : decode prog_7_method_2_code 82 = .ok (.iconst 4, 1) := by decide +kernel
theorem d_L_lay_83 : decode prog_7_method_2_code 83 = .ok (.iadd, 1) := by decide +kernel
theorem d_L_lay_84 : decode prog_7_method_2_code 84 = .ok (.invokestatic 39, 3) := by decide +kernel
theorem d_L_lay_87 : decode prog_7_method_2_code 87 = .ok (.iload 4, 2) := by decide +kernel
theorem d_L_lay_89 : decode prog_7_method_2_code 89 = .ok (.isub, 1) := by decide +kernel
theorem d_L_lay_90 : decode prog_7_method_2_code 90 = .ok (.istore 7, 2) := by decide +kernel
theorem d_L_lay_92 : decode prog_7_method_2_code 92 = .ok (.aload_n 0, 1) := by decide +kernel
theorem d_L_lay_93 : decode prog_7_method_2_code 93 = .ok (.getfield 9, 3) := by decide +kernel
theorem d_L_lay_96 : decode prog_7_method_2_code 96 = .ok (.iload 5, 2) := by decide +kernel
theorem d_L_lay_98 : decode prog_7_method_2_code 98 = .ok (.iload_n 3, 1) := by decide +kernel
theorem d_L_lay_99 : decode prog_7_method_2_code 99 = .ok (.iastore, 1) := by decide +kernel
theorem d_L_lay_100 : decode prog_7_method_2_code 100 = .ok (.aload_n 0, 1) := by decide +kernel
theorem d_L_lay_101 : decode prog_7_method_2_code 101 = .ok (.getfield 15, 3) := by decide +kernel
theorem d_L_lay_104 : decode prog_7_method_2_code 104 = .ok (.iload 5, 2) := by decide +kernel
theorem d_L_lay_106 : decode prog_7_method_2_code 106 = .ok (.iload 4, 2) := by decide +kernel
theorem d_L_lay_108 : decode prog_7_method_2_code 108 = .ok (.iastore, 1) := by decide +kernel
theorem d_L_lay_109 : decode prog_7_method_2_code 109 = .ok (.aload_n 0, 1) := by decide +kernel
theorem d_L_lay_110 : decode prog_7_method_2_code 110 = .ok (.getfield 18, 3) := by decide +kernel
theorem d_L_lay_113 : decode prog_7_method_2_code 113 = .ok (.iload 5, 2) := by decide +kernel
theorem d_L_lay_115 : decode prog_7_method_2_code 115 = .ok (.iload 7, 2) := by decide +kernel
theorem d_L_lay_117 : decode prog_7_method_2_code 117 = .ok (.iastore, 1) := by decide +kernel
theorem d_L_lay_118 : decode prog_7_method_2_code 118 = .ok (.iload 4, 2) := by decide +kernel
theorem d_L_lay_120 : decode prog_7_method_2_code 120 = .ok (.iload 7, 2) := by decide +kernel
theorem d_L_lay_122 : decode prog_7_method_2_code 122 = .ok (.iadd, 1) := by decide +kernel
theorem d_L_lay_123 : decode prog_7_method_2_code 123 = .ok (.istore 4, 2) := by decide +kernel
theorem d_L_lay_125 : decode prog_7_method_2_code 125 = .ok (.iload 6, 2) := by decide +kernel
theorem d_L_lay_127 : decode prog_7_method_2_code 127 = .ok (.bipush 10, 2) := by decide +kernel
theorem d_L_lay_129 : decode prog_7_method_2_code 129 = .ok (.if_icmp .ne 9, 3) := by decide +kernel
theorem d_L_lay_132 : decode prog_7_method_2_code 132 = .ok (.iinc 3 1, 3) := by decide +kernel
theorem d_L_lay_135 : decode prog_7_method_2_code 135 = .ok (.iconst 0, 1) := by decide +kernel
theorem d_L_lay_136 : decode prog_7_method_2_code 136 = .ok (.istore 4, 2) := by decide +kernel
theorem d_L_lay_138 : decode prog_7_method_2_code 138 = .ok (.iinc 5 1, 3) := by decide +kernel
theorem d_L_lay_141 : decode prog_7_method_2_code 141 = .ok (.goto (-133), 3) := by decide +kernel
theorem d_L_lay_144 : decode prog_7_method_2_code 144 = .ok (.return_, 1) := by decide +kernel
theorem d_L_placeIn_0 : decode prog_7_method_3_code 0 = .ok (.iconst (-1), 1) := by decide +kernel
theorem d_L_placeIn_1 : decode prog_7_method_3_code 1 = .ok (.istore 4, 2) := by decide +kernel
theorem d_L_placeIn_3 : decode prog_7_method_3_code 3 = .ok (.iconst 0, 1) := by decide +kernel
theorem d_L_placeIn_4 : decode prog_7_method_3_code 4 = .ok (.istore 5, 2) := by decide +kernel
theorem d_L_placeIn_6 : decode prog_7_method_3_code 6 = .ok (.iload 5, 2) := by decide +kernel
theorem d_L_placeIn_8 : decode prog_7_method_3_code 8 = .ok (.aload_n 1, 1) := by decide +kernel
theorem d_L_placeIn_9 : decode prog_7_method_3_code 9 = .ok (.getfield 21, 3) := by decide +kernel
theorem d_L_placeIn_12 : decode prog_7_method_3_code 12 = .ok (.if_icmp .gt 45, 3) := by decide +kernel
theorem d_L_placeIn_15 : decode prog_7_method_3_code 15 = .ok (.iload_n 2, 1) := by decide +kernel
theorem d_L_placeIn_16 : decode prog_7_method_3_code 16 = .ok (.ifCond .lt 35, 3) := by decide +kernel
theorem d_L_placeIn_19 : decode prog_7_method_3_code 19 = .ok (.aload_n 0, 1) := by decide +kernel
theorem d_L_placeIn_20 : decode prog_7_method_3_code 20 = .ok (.getfield 9, 3) := by decide +kernel
theorem d_L_placeIn_23 : decode prog_7_method_3_code 23 = .ok (.iload 5, 2) := by decide +kernel
theorem d_L_placeIn_25 : decode prog_7_method_3_code 25 = .ok (.iaload, 1) := by decide +kernel
theorem d_L_placeIn_26 : decode prog_7_method_3_code 26 = .ok (.iload_n 2, 1) := by decide +kernel
theorem d_L_placeIn_27 : decode prog_7_method_3_code 27 = .ok (.if_icmp .ne 24, 3) := by decide +kernel
theorem d_L_placeIn_30 : decode prog_7_method_3_code 30 = .ok (.iload 4, 2) := by decide +kernel
theorem d_L_placeIn_32 : decode prog_7_method_3_code 32 = .ok (.iconst (-1), 1) := by decide +kernel
theorem d_L_placeIn_33 : decode prog_7_method_3_code 33 = .ok (.if_icmp .eq 14, 3) := by decide +kernel
theorem d_L_placeIn_36 : decode prog_7_method_3_code 36 = .ok (.aload_n 0, 1) := by decide +kernel
theorem d_L_placeIn_37 : decode prog_7_method_3_code 37 = .ok (.getfield 15, 3) := by decide +kernel
theorem d_L_placeIn_40 : decode prog_7_method_3_code 40 = .ok (.iload 5, 2) := by decide +kernel
theorem d_L_placeIn_42 : decode prog_7_method_3_code 42 = .ok (.iaload, 1) := by decide +kernel
theorem d_L_placeIn_43 : decode prog_7_method_3_code 43 = .ok (.iload_n 3, 1) := by decide +kernel
theorem d_L_placeIn_44 : decode prog_7_method_3_code 44 = .ok (.if_icmp .gt 7, 3) := by decide +kernel
theorem d_L_placeIn_47 : decode prog_7_method_3_code 47 = .ok (.iload 5, 2) := by decide +kernel
theorem d_L_placeIn_49 : decode prog_7_method_3_code 49 = .ok (.istore 4, 2) := by decide +kernel
theorem d_L_placeIn_51 : decode prog_7_method_3_code 51 = .ok (.iinc 5 1, 3) := by decide +kernel
theorem d_L_placeIn_54 : decode prog_7_method_3_code 54 = .ok (.goto (-48), 3) := by decide +kernel
theorem d_L_placeIn_57 : decode prog_7_method_3_code 57 = .ok (.iload 4, 2) := by decide +kernel
theorem d_L_placeIn_59 : decode prog_7_method_3_code 59 = .ok (.ireturn, 1) := by decide +kernel
end
section
/-! names, by program: the classes, the cells of the two objects, the words -/
def pe_T0 : u_T := fun k => match k with
  | 0 => ("PaintEditor", "keyboard", "LPaintEditor$Keyboard;", true)
  | 1 => ("PaintEditor", "editor", "LPaintEditor$Editor;", true)
  | 2 => ("PaintEditor", "screen", "LPaintEditor$Screen;", true)
  | _ => ("PaintEditor", "painter", "LPaintEditor$Painter;", true)
def pe_t0 : Nat → FieldType := fun k => match k with
  | 0 => .object "PaintEditor$Keyboard"
  | 1 => .object "PaintEditor$Editor"
  | 2 => .object "PaintEditor$Screen"
  | _ => .object "PaintEditor$Painter"
def pe_T1 : u_T := fun k => match k with
  | 0 => ("PaintEditor$Keyboard", "mode", "I", false)
  | 1 => ("PaintEditor$Keyboard", "number", "I", false)
  | 2 => ("PaintEditor$Keyboard", "code", "I", false)
  | 3 => ("PaintEditor$Keyboard", "bytesDue", "I", false)
  | 4 => ("PaintEditor$Keyboard", "leastNext", "I", false)
  | 5 => ("PaintEditor$Keyboard", "mostNext", "I", false)
  | _ => ("PaintEditor$Keyboard", "previous", "I", false)
def pe_t1 : Nat → FieldType := fun k => match k with
  | 0 => .int
  | 1 => .int
  | 2 => .int
  | 3 => .int
  | 4 => .int
  | 5 => .int
  | _ => .int
def pe_T2 : u_T := fun k => match k with
  | 0 => ("PaintEditor$Editor", "text", "LPaintEditor$Text;", true)
  | 1 => ("PaintEditor$Editor", "history", "LPaintEditor$History;", true)
  | 2 => ("PaintEditor$Editor", "layout", "LPaintEditor$Layout;", true)
  | 3 => ("PaintEditor$Editor", "clip", "[I", true)
  | 4 => ("PaintEditor$Editor", "single", "[I", true)
  | 5 => ("PaintEditor$Editor", "clipLength", "I", false)
  | 6 => ("PaintEditor$Editor", "columns", "I", false)
  | 7 => ("PaintEditor$Editor", "cursor", "I", false)
  | 8 => ("PaintEditor$Editor", "marked", "I", false)
  | 9 => ("PaintEditor$Editor", "goal", "I", false)
  | 10 => ("PaintEditor$Editor", "pasting", "Z", false)
  | _ => ("PaintEditor$Editor", "fullDrawingDue", "Z", false)
def pe_t2 : Nat → FieldType := fun k => match k with
  | 0 => .object "PaintEditor$Text"
  | 1 => .object "PaintEditor$History"
  | 2 => .object "PaintEditor$Layout"
  | 3 => .array .int
  | 4 => .array .int
  | 5 => .int
  | 6 => .int
  | 7 => .int
  | 8 => .int
  | 9 => .int
  | 10 => .boolean
  | _ => .boolean
def pe_T3 : u_T := fun k => match k with
  | 0 => ("PaintEditor$Text", "codes", "[I", true)
  | _ => ("PaintEditor$Text", "length", "I", false)
def pe_t3 : Nat → FieldType := fun k => match k with
  | 0 => .array .int
  | _ => .int
def pe_T4 : u_T := fun k => match k with
  | 0 => ("PaintEditor$History", "places", "[I", true)
  | 1 => ("PaintEditor$History", "counts", "[I", true)
  | 2 => ("PaintEditor$History", "cursors", "[I", true)
  | 3 => ("PaintEditor$History", "wentAway", "[Z", true)
  | 4 => ("PaintEditor$History", "gone", "[I", true)
  | 5 => ("PaintEditor$History", "earliest", "I", false)
  | _ => ("PaintEditor$History", "kept", "I", false)
def pe_t4 : Nat → FieldType := fun k => match k with
  | 0 => .array .int
  | 1 => .array .int
  | 2 => .array .int
  | 3 => .array .boolean
  | 4 => .array .int
  | 5 => .int
  | _ => .int
def pe_T5 : u_T := fun k => match k with
  | 0 => ("PaintEditor$Layout", "rowOf", "[I", true)
  | 1 => ("PaintEditor$Layout", "columnOf", "[I", true)
  | _ => ("PaintEditor$Layout", "widthOf", "[I", true)
def pe_t5 : Nat → FieldType := fun k => match k with
  | 0 => .array .int
  | 1 => .array .int
  | _ => .array .int
def pe_T6 : u_T := fun k => match k with
  | 0 => ("PaintEditor$Screen", "grid", "LPaintEditor$Grid;", true)
  | 1 => ("PaintEditor$Screen", "status", "Ljava/lang/StringBuilder;", true)
  | 2 => ("PaintEditor$Screen", "top", "I", false)
  | 3 => ("PaintEditor$Screen", "cursorRow", "I", false)
  | _ => ("PaintEditor$Screen", "cursorColumn", "I", false)
def pe_t6 : Nat → FieldType := fun k => match k with
  | 0 => .object "PaintEditor$Grid"
  | 1 => .object "java/lang/StringBuilder"
  | 2 => .int
  | 3 => .int
  | _ => .int
def pe_T7 : u_T := fun k => match k with
  | 0 => ("PaintEditor$Grid", "clusters", "[I", true)
  | 1 => ("PaintEditor$Grid", "looks", "[I", true)
  | 2 => ("PaintEditor$Grid", "columns", "I", false)
  | _ => ("PaintEditor$Grid", "rows", "I", false)
def pe_t7 : Nat → FieldType := fun k => match k with
  | 0 => .array .int
  | 1 => .array .int
  | 2 => .int
  | _ => .int
def pe_T8 : u_T := fun k => match k with
  | 0 => ("java/lang/AbstractStringBuilder", "value", "[B", false)
  | 1 => ("java/lang/AbstractStringBuilder", "coder", "B", false)
  | 2 => ("java/lang/AbstractStringBuilder", "maybeLatin1", "Z", false)
  | _ => ("java/lang/AbstractStringBuilder", "count", "I", false)
def pe_t8 : Nat → FieldType := fun k => match k with
  | 0 => .array .byte
  | 1 => .byte
  | 2 => .boolean
  | _ => .int
def pe_T9 : u_T := fun k => match k with
  | 0 => ("PaintEditor$Painter", "display", "LPaintEditor$Terminal;", true)
  | 1 => ("PaintEditor$Painter", "bytes", "[I", true)
  | _ => ("PaintEditor$Painter", "count", "I", false)
def pe_t9 : Nat → FieldType := fun k => match k with
  | 0 => .object "PaintEditor$Terminal"
  | 1 => .array .int
  | _ => .int
def pe_T10 : u_T := fun k => match k with
  | 0 => ("PaintEditor$Terminal", "grid", "LPaintEditor$Grid;", true)
  | 1 => ("PaintEditor$Terminal", "row", "I", false)
  | 2 => ("PaintEditor$Terminal", "column", "I", false)
  | 3 => ("PaintEditor$Terminal", "atMargin", "Z", false)
  | 4 => ("PaintEditor$Terminal", "writingLook", "I", false)
  | 5 => ("PaintEditor$Terminal", "writtenRow", "I", false)
  | 6 => ("PaintEditor$Terminal", "writtenColumn", "I", false)
  | _ => ("PaintEditor$Terminal", "markMayJoin", "Z", false)
def pe_t10 : Nat → FieldType := fun k => match k with
  | 0 => .object "PaintEditor$Grid"
  | 1 => .int
  | 2 => .int
  | 3 => .boolean
  | 4 => .int
  | 5 => .int
  | 6 => .int
  | _ => .boolean
def pe_T11 : u_T := fun k => match k with
  | 0 => ("PaintEditorModel", "text", "[I", false)
  | 1 => ("PaintEditorModel", "length", "I", false)
  | 2 => ("PaintEditorModel", "cursor", "I", false)
  | 3 => ("PaintEditorModel", "mark", "I", false)
  | 4 => ("PaintEditorModel", "clip", "[I", false)
  | 5 => ("PaintEditorModel", "clipLength", "I", false)
  | 6 => ("PaintEditorModel", "goal", "I", false)
  | 7 => ("PaintEditorModel", "changes", "I", false)
  | 8 => ("PaintEditorModel", "changedAt", "[I", false)
  | 9 => ("PaintEditorModel", "came", "[I", false)
  | 10 => ("PaintEditorModel", "went", "[I", false)
  | 11 => ("PaintEditorModel", "cursorBefore", "[I", false)
  | 12 => ("PaintEditorModel", "lost", "[I", false)
  | 13 => ("PaintEditorModel", "mode", "I", false)
  | 14 => ("PaintEditorModel", "number", "I", false)
  | 15 => ("PaintEditorModel", "pending", "I", false)
  | 16 => ("PaintEditorModel", "code", "I", false)
  | 17 => ("PaintEditorModel", "least", "I", false)
  | 18 => ("PaintEditorModel", "most", "I", false)
  | 19 => ("PaintEditorModel", "pasting", "Z", false)
  | 20 => ("PaintEditorModel", "lastByte", "I", false)
  | 21 => ("PaintEditorModel", "columns", "I", false)
  | 22 => ("PaintEditorModel", "rows", "I", false)
  | 23 => ("PaintEditorModel", "rowAt", "[I", false)
  | 24 => ("PaintEditorModel", "columnAt", "[I", false)
  | 25 => ("PaintEditorModel", "widthAt", "[I", false)
  | 26 => ("PaintEditorModel", "lastRow", "I", false)
  | 27 => ("PaintEditorModel", "top", "I", false)
  | 28 => ("PaintEditorModel", "due", "[I", false)
  | 29 => ("PaintEditorModel", "dueLook", "[I", false)
  | 30 => ("PaintEditorModel", "dueRow", "I", false)
  | 31 => ("PaintEditorModel", "dueColumn", "I", false)
  | 32 => ("PaintEditorModel", "shown", "[I", false)
  | 33 => ("PaintEditorModel", "shownLook", "[I", false)
  | 34 => ("PaintEditorModel", "spare", "[I", false)
  | 35 => ("PaintEditorModel", "spareLook", "[I", false)
  | 36 => ("PaintEditorModel", "row", "I", false)
  | 37 => ("PaintEditorModel", "column", "I", false)
  | 38 => ("PaintEditorModel", "margin", "Z", false)
  | 39 => ("PaintEditorModel", "look", "I", false)
  | 40 => ("PaintEditorModel", "lastCell", "I", false)
  | 41 => ("PaintEditorModel", "full", "Z", false)
  | 42 => ("PaintEditorModel", "bytes", "[I", false)
  | _ => ("PaintEditorModel", "sent", "I", false)
def pe_t11 : Nat → FieldType := fun k => match k with
  | 0 => .array .int
  | 1 => .int
  | 2 => .int
  | 3 => .int
  | 4 => .array .int
  | 5 => .int
  | 6 => .int
  | 7 => .int
  | 8 => .array .int
  | 9 => .array .int
  | 10 => .array .int
  | 11 => .array .int
  | 12 => .array .int
  | 13 => .int
  | 14 => .int
  | 15 => .int
  | 16 => .int
  | 17 => .int
  | 18 => .int
  | 19 => .boolean
  | 20 => .int
  | 21 => .int
  | 22 => .int
  | 23 => .array .int
  | 24 => .array .int
  | 25 => .array .int
  | 26 => .int
  | 27 => .int
  | 28 => .array .int
  | 29 => .array .int
  | 30 => .int
  | 31 => .int
  | 32 => .array .int
  | 33 => .array .int
  | 34 => .array .int
  | 35 => .array .int
  | 36 => .int
  | 37 => .int
  | 38 => .boolean
  | 39 => .int
  | 40 => .int
  | 41 => .boolean
  | 42 => .array .int
  | _ => .int
abbrev vwCl : List vw_C := [("PaintEditor", pe_T0, 4), ("PaintEditor$Keyboard", pe_T1, 7), ("PaintEditor$Editor", pe_T2, 12), ("PaintEditor$Text", pe_T3, 2), ("PaintEditor$History", pe_T4, 7), ("PaintEditor$Layout", pe_T5, 3), ("PaintEditor$Screen", pe_T6, 5), ("PaintEditor$Grid", pe_T7, 4), ("java/lang/StringBuilder", pe_T8, 4), ("PaintEditor$Painter", pe_T9, 3), ("PaintEditor$Terminal", pe_T10, 8), ("PaintEditorModel", pe_T11, 44)]
abbrev pe_E : Type := (FieldType × Nat) ⊕ (Nat × Nat)
abbrev pe_sh : List pe_E := [.inr (0, 4), .inr (1, 7), .inr (2, 12), .inr (3, 2), .inl (.int, 200), .inr (4, 7), .inl (.int, 12), .inl (.int, 12), .inl (.int, 12), .inl (.boolean, 12), .inl (.int, 2400), .inr (5, 3), .inl (.int, 201), .inl (.int, 201), .inl (.int, 201), .inl (.int, 200), .inl (.int, 1), .inr (6, 5), .inr (7, 4), .inl (.int, 192), .inl (.int, 192), .inr (8, 4), .inl (.byte, 16), .inr (9, 3), .inr (10, 8), .inr (7, 4), .inl (.int, 192), .inl (.int, 192), .inl (.int, 2048), .inr (11, 44), .inl (.int, 200), .inl (.int, 200), .inl (.int, 12), .inl (.int, 12), .inl (.int, 12), .inl (.int, 12), .inl (.int, 2400), .inl (.int, 201), .inl (.int, 201), .inl (.int, 201), .inl (.int, 192), .inl (.int, 192), .inl (.int, 192), .inl (.int, 192), .inl (.int, 192), .inl (.int, 192), .inl (.int, 6000)]
def pe_rt (a k : Nat) : Option Nat := match a with
  | 0 => match k with
    | 0 => some 1
    | 1 => some 2
    | 2 => some 17
    | 3 => some 23
    | _ => none
  | 2 => match k with
    | 0 => some 3
    | 1 => some 5
    | 2 => some 11
    | 3 => some 15
    | 4 => some 16
    | _ => none
  | 3 => match k with
    | 0 => some 4
    | _ => none
  | 5 => match k with
    | 0 => some 6
    | 1 => some 7
    | 2 => some 8
    | 3 => some 9
    | 4 => some 10
    | _ => none
  | 11 => match k with
    | 0 => some 12
    | 1 => some 13
    | 2 => some 14
    | _ => none
  | 17 => match k with
    | 0 => some 18
    | 1 => some 21
    | _ => none
  | 18 => match k with
    | 0 => some 19
    | 1 => some 20
    | _ => none
  | 21 => match k with
    | 0 => some 22
    | _ => none
  | 23 => match k with
    | 0 => some 24
    | 1 => some 28
    | _ => none
  | 24 => match k with
    | 0 => some 25
    | _ => none
  | 25 => match k with
    | 0 => some 26
    | 1 => some 27
    | _ => none
  | 29 => match k with
    | 0 => some 30
    | 4 => some 31
    | 8 => some 32
    | 9 => some 33
    | 10 => some 34
    | 11 => some 35
    | 12 => some 36
    | 23 => some 37
    | 24 => some 38
    | 25 => some 39
    | 28 => some 40
    | 29 => some 41
    | 32 => some 42
    | 33 => some 43
    | 34 => some 44
    | 35 => some 45
    | 42 => some 46
    | _ => none
  | _ => none
def pe_WS : List Cond := lw_tbl.filter goodWord
theorem pe_WS_good : ∀ w ∈ pe_WS, (w.onTables && w.keeps) = true ∨ ∃ ty, w = .arrayClass ty := fun w h => good_of_word (List.mem_filter.mp h).2
theorem pe_w1 {w : Cond} (h : w ∈ tables_1_1) (g : goodWord w = true := by rfl) : w ∈ pe_WS := List.mem_filter.mpr ⟨List.mem_append_right _ (by show w ∈ tables_1; exact List.mem_append_left _ h), g⟩
theorem pe_w2 {w : Cond} (h : w ∈ tables_1_2) (g : goodWord w = true := by rfl) : w ∈ pe_WS := List.mem_filter.mpr ⟨List.mem_append_right _ (by show w ∈ tables_1; exact List.mem_append_right _ (List.mem_append_left _ h)), g⟩
theorem pe_w3 {w : Cond} (h : w ∈ tables_1_3) (g : goodWord w = true := by rfl) : w ∈ pe_WS := List.mem_filter.mpr ⟨List.mem_append_right _ (by show w ∈ tables_1; exact List.mem_append_right _ (List.mem_append_right _ (List.mem_append_left _ h))), g⟩
theorem pe_w4 {w : Cond} (h : w ∈ tables_1_4) (g : goodWord w = true := by rfl) : w ∈ pe_WS := List.mem_filter.mpr ⟨List.mem_append_right _ (by show w ∈ tables_1; exact List.mem_append_right _ (List.mem_append_right _ (List.mem_append_right _ (List.mem_append_left _ h)))), g⟩
theorem pe_w5 {w : Cond} (h : w ∈ tables_1_5) (g : goodWord w = true := by rfl) : w ∈ pe_WS := List.mem_filter.mpr ⟨List.mem_append_right _ (by show w ∈ tables_1; exact List.mem_append_right _ (List.mem_append_right _ (List.mem_append_right _ (List.mem_append_right _ (List.mem_append_left _ h))))), g⟩
theorem pe_w6 {w : Cond} (h : w ∈ tables_1_6) (g : goodWord w = true := by rfl) : w ∈ pe_WS := List.mem_filter.mpr ⟨List.mem_append_right _ (by show w ∈ tables_1; exact List.mem_append_right _ (List.mem_append_right _ (List.mem_append_right _ (List.mem_append_right _ (List.mem_append_right _ (h)))))), g⟩
theorem pe_wp {q : MethodName × Nat} (h : q ∈ lw_privs) : Cond.selects q.1.cls q.1 q.1 ∈ pe_WS := List.mem_filter.mpr ⟨List.mem_append_left _ (List.mem_map.mpr ⟨q, h, rfl⟩), rfl⟩
end
section
/-! The machine seen through one picture. Every cell of the two objects has a number (pe_sh says what it is, pe_rt which fields hold which cells); what the cells hold is ONE function pe_H; ints are Int. -/
abbrev pe_V : Type := Int ⊕ (Nat ⊕ Int64)
abbrev pe_H : Type := Nat → Int → Int
abbrev pe_L : Type := List (Option pe_V)
def pe_c (ad : Nat → Nat) : pe_V → Value
  | .inl z => .int (Int32.ofInt z)
  | .inr (.inl a) => .ref (ad a)
  | .inr (.inr x) => .long x
abbrev pe_i (z : Int) : pe_V := .inl z
abbrev pe_r (a : Nat) : pe_V := .inr (.inl a)
abbrev pe_l (x : Int64) : pe_V := .inr (.inr x)
def pe_cat : pe_V → Nat
  | .inr (.inr _) => 2
  | _ => 1
theorem pe_cat_c (ad : Nat → Nat) (v : pe_V) : (pe_c ad v).category = pe_cat v := by
  rcases v with z | a | x <;> rfl
/-- an int -/
abbrev pe_R (z : Int) : Prop := -2147483648 ≤ z ∧ z < 2147483648
def pe_up (σ : pe_H) (a : Nat) (i v : Int) : pe_H := fun b j => if b = a ∧ j = i then v else σ b j
theorem pe_up_ne {σ : pe_H} {a b : Nat} {i v : Int} (h : b ≠ a) : pe_up σ a i v b = σ b := by
  funext j
  unfold pe_up
  rw [if_neg (fun q => h q.1)]
theorem pe_up_at {σ : pe_H} {a : Nat} {i v j : Int} : pe_up σ a i v a j = if j = i then v else σ a j := by
  unfold pe_up
  by_cases h : j = i
  · rw [if_pos ⟨rfl, h⟩, if_pos h]
  · rw [if_neg (fun q => h q.2), if_neg h]
theorem pe_toInt {z : Int} (h : pe_R z) : (Int32.ofInt z).toInt = z := Int32.toInt_ofInt_of_le (by have := h.1; omega) (by have := h.2; omega)
theorem pe_lt {a b : Int} (ha : pe_R a) (hb : pe_R b) : Int32.ofInt a < Int32.ofInt b ↔ a < b := by
  rw [Int32.lt_iff_toInt_lt, pe_toInt ha, pe_toInt hb]
theorem pe_le {a b : Int} (ha : pe_R a) (hb : pe_R b) : Int32.ofInt a ≤ Int32.ofInt b ↔ a ≤ b := by
  rw [Int32.le_iff_toInt_le, pe_toInt ha, pe_toInt hb]
theorem pe_eq {a b : Int} (ha : pe_R a) (hb : pe_R b) : Int32.ofInt a = Int32.ofInt b ↔ a = b := by
  rw [← Int32.toInt_inj, pe_toInt ha, pe_toInt hb]
theorem pe_0 : Int32.ofInt 0 = 0 := rfl
theorem pe_R0 : pe_R 0 := ⟨by decide, by decide⟩
theorem pe_in {i : Int} {n : Nat} (hn : n < 2147483648) (h0 : 0 ≤ i) (h1 : i < n) : vp_in (Int32.ofInt i) n := by
  have hr : pe_R i := ⟨by omega, by omega⟩
  rw [vp_in_iff, pe_toInt hr]
  exact ⟨h0, h1⟩
theorem pe_clamp {i : Int} (h0 : 0 ≤ i) (h1 : i < 2147483648) : (Int32.ofInt i).toNatClampNeg = i.toNat :=
  Int32.toNatClampNeg_ofInt_of_le (by omega) (by omega)
theorem pe_cm_eq {a b : Int} (ha : pe_R a) (hb : pe_R b) (h : Int32.ofInt a = Int32.ofInt b) : a = b := (pe_eq ha hb).mp h
theorem pe_cn_eq {a b : Int} (ha : pe_R a) (hb : pe_R b) (h : ¬ Int32.ofInt a = Int32.ofInt b) : ¬ a = b := fun q => h ((pe_eq ha hb).mpr q)
theorem pe_cm_ne {a b : Int} (ha : pe_R a) (hb : pe_R b) (h : ¬ Int32.ofInt a = Int32.ofInt b) : ¬ a = b := pe_cn_eq ha hb h
theorem pe_cn_ne {a b : Int} (ha : pe_R a) (hb : pe_R b) (h : Int32.ofInt a = Int32.ofInt b) : a = b := pe_cm_eq ha hb h
theorem pe_cm_lt {a b : Int} (ha : pe_R a) (hb : pe_R b) (h : Int32.ofInt a < Int32.ofInt b) : a < b := (pe_lt ha hb).mp h
theorem pe_cn_lt {a b : Int} (ha : pe_R a) (hb : pe_R b) (h : ¬ Int32.ofInt a < Int32.ofInt b) : b ≤ a := Int.not_lt.mp fun q => h ((pe_lt ha hb).mpr q)
theorem pe_cm_ge {a b : Int} (ha : pe_R a) (hb : pe_R b) (h : Int32.ofInt b ≤ Int32.ofInt a) : b ≤ a := (pe_le hb ha).mp h
theorem pe_cn_ge {a b : Int} (ha : pe_R a) (hb : pe_R b) (h : ¬ Int32.ofInt b ≤ Int32.ofInt a) : a < b := Int.not_le.mp fun q => h ((pe_le hb ha).mpr q)
theorem pe_cm_gt {a b : Int} (ha : pe_R a) (hb : pe_R b) (h : Int32.ofInt b < Int32.ofInt a) : b < a := (pe_lt hb ha).mp h
theorem pe_cn_gt {a b : Int} (ha : pe_R a) (hb : pe_R b) (h : ¬ Int32.ofInt b < Int32.ofInt a) : a ≤ b := Int.not_lt.mp fun q => h ((pe_lt hb ha).mpr q)
theorem pe_cm_le {a b : Int} (ha : pe_R a) (hb : pe_R b) (h : Int32.ofInt a ≤ Int32.ofInt b) : a ≤ b := (pe_le ha hb).mp h
theorem pe_cn_le {a b : Int} (ha : pe_R a) (hb : pe_R b) (h : ¬ Int32.ofInt a ≤ Int32.ofInt b) : b < a := Int.not_le.mp fun q => h ((pe_le ha hb).mpr q)
theorem pe_tdiv {a b : Int} (ha : pe_R a) (hb : pe_R b) : Int32.ofInt (a.tdiv b) = Int32.ofInt a / Int32.ofInt b :=
  Int32.ofInt_tdiv (by show (-2147483648 : Int) ≤ a; exact ha.1) (by show a ≤ (2147483647 : Int); have := ha.2; omega) (by show (-2147483648 : Int) ≤ b; exact hb.1) (by show b ≤ (2147483647 : Int); have := hb.2; omega)
theorem pe_tmod {a b : Int} (ha : pe_R a) (hb : pe_R b) : Int32.ofInt (a.tmod b) = Int32.ofInt a - Int32.ofInt a / Int32.ofInt b * Int32.ofInt b := by
  rw [← pe_tdiv ha hb, ← Int32.ofInt_mul, ← Int32.ofInt_sub, Int.tmod_def, Int.mul_comm]
/-! the locals -/
def pe_lc (ad : Nat → Nat) (nL : Nat) (lv : pe_L) : List (Nat × Value) := (List.range nL).filterMap (fun i => match lv[i]? with
  | some (some v) => some (i, pe_c ad v)
  | _ => none)
def pe_lh (ad : Nat → Nat) (ls : Array Slot) (nL : Nat) (lv : pe_L) : Prop := lv.length ≤ nL ∧ lv_has ls nL (pe_lc ad nL lv)
theorem pe_lhas {ad : Nat → Nat} {ls : Array Slot} {nL : Nat} {lv : pe_L} (h : pe_lh ad ls nL lv) : lv_has ls nL (pe_lc ad nL lv) := h.2
theorem pe_lmem {ad : Nat → Nat} {nL : Nat} {lv : pe_L} {i : Nat} {v : pe_V} (hg : lv[i]? = some (some v)) (hn : i < nL) : (i, pe_c ad v) ∈ pe_lc ad nL lv := by
  refine List.mem_filterMap.mpr ⟨i, List.mem_range.mpr hn, ?_⟩
  rw [hg]
theorem pe_lat {ad : Nat → Nat} {ls : Array Slot} {nL : Nat} {lv : pe_L} {i : Nat} {v : pe_V} (h : pe_lh ad ls nL lv) (hg : lv[i]? = some (some v)) : ls[i]? = some (.val (pe_c ad v)) :=
  h.2.2.2 _ (pe_lmem hg (Nat.lt_of_lt_of_le (List.getElem?_eq_some_iff.mp hg).1 h.1))
def pe_ok1 (lv : pe_L) (i : Nat) : Bool := match i with
  | 0 => true
  | j + 1 => match lv[j]? with
    | some (some w) => pe_cat w == 1
    | _ => true
theorem pe_lset {ad : Nat → Nat} {ls ls' : Array Slot} {nL : Nat} {lv : pe_L} {i : Nat} {v : pe_V} (h : pe_lh ad ls nL lv) (h' : lv_has ls' nL ((i, pe_c ad v) :: (pe_lc ad nL lv).filter (fun q => !(q.1 == i) && !(q.1 + 1 == i && q.2.category == 2)))) (ho : pe_ok1 lv i = true) : pe_lh ad ls' nL (lv.set i (some v)) := by
  refine ⟨by rw [List.length_set]; exact h.1, h'.1, h'.2.1, fun q hq => ?_⟩
  obtain ⟨j, hj, hjq⟩ := List.mem_filterMap.mp hq
  rw [List.getElem?_set] at hjq
  by_cases e : i = j
  · subst e
    rw [if_pos rfl] at hjq
    by_cases hlt : i < lv.length
    · rw [if_pos hlt] at hjq
      have e1 : (i, pe_c ad v) = q := Option.some.inj hjq
      rw [← e1]
      exact h'.2.2 (i, pe_c ad v) List.mem_cons_self
    · rw [if_neg hlt] at hjq
      cases hjq
  · rw [if_neg e] at hjq
    cases hl : lv[j]? with
    | none => rw [hl] at hjq; cases hjq
    | some o =>
      cases o with
      | none => rw [hl] at hjq; cases hjq
      | some w =>
        rw [hl] at hjq
        have e1 : (j, pe_c ad w) = q := Option.some.inj hjq
        rw [← e1]
        refine h'.2.2 (j, pe_c ad w) (List.mem_cons_of_mem _ (List.mem_filter.mpr ⟨pe_lmem hl (List.mem_range.mp hj), ?_⟩))
        have e2 : (j == i) = false := by simpa using fun z : j = i => e z.symm
        show (!(j == i) && !(j + 1 == i && (pe_c ad w).category == 2)) = true
        rw [e2]
        by_cases e3 : j + 1 = i
        · subst e3
          have hc : (pe_cat w == 1) = true := by
            have this : (match lv[j]? with
              | some (some w) => pe_cat w == 1
              | _ => true) = true := ho
            rw [hl] at this
            exact this
          have hc : pe_cat w = 1 := by simpa using hc
          rw [pe_cat_c, hc]
          simp
        · have : (j + 1 == i) = false := by simpa using e3
          rw [this]
          rfl
def pe_args (av : List pe_V) : pe_L := match av with
  | [] => []
  | v :: vs => if pe_cat v = 2 then some v :: none :: pe_args vs else some v :: pe_args vs
theorem pe_args_in {ad : Nat → Nat} : ∀ (av : List pe_V) (o j : Nat) (v : pe_V), (pe_args av)[j]? = some (some v) → (o + j, pe_c ad v) ∈ lv_args o (av.map (pe_c ad))
  | [], o, j, v, h => by simp [pe_args] at h
  | w :: vs, o, j, v, h => by
    unfold pe_args at h
    show (o + j, pe_c ad v) ∈ (o, pe_c ad w) :: lv_args (if (pe_c ad w).category = 2 then o + 2 else o + 1) (vs.map (pe_c ad))
    rw [pe_cat_c]
    by_cases hc : pe_cat w = 2
    · rw [if_pos hc] at h
      rw [if_pos hc]
      match j, h with
      | 0, h => have e : w = v := by simpa using h
                rw [e]; exact List.mem_cons_self
      | 1, h => simp at h
      | j + 2, h =>
        have := pe_args_in (ad := ad) vs (o + 2) j v (by simpa using h)
        rw [show o + (j + 2) = o + 2 + j by omega]
        exact List.mem_cons_of_mem _ this
    · rw [if_neg hc] at h
      rw [if_neg hc]
      match j, h with
      | 0, h => have e : w = v := by simpa using h
                rw [e]; exact List.mem_cons_self
      | j + 1, h =>
        have := pe_args_in (ad := ad) vs (o + 1) j v (by simpa using h)
        rw [show o + (j + 1) = o + 1 + j by omega]
        exact List.mem_cons_of_mem _ this
theorem pe_args_len {ad : Nat → Nat} : ∀ av : List pe_V, (lg_sl (av.map (pe_c ad))).length = (pe_args av).length
  | [] => rfl
  | w :: vs => by
    have ih := pe_args_len (ad := ad) vs
    unfold lg_sl at ih ⊢
    unfold pe_args
    rw [List.map_cons, List.flatMap_cons, List.length_append, ih, pe_cat_c]
    by_cases hc : pe_cat w = 2
    · rw [if_pos hc, if_pos hc]; simp; omega
    · rw [if_neg hc, if_neg hc]; simp; omega
/-- what a field holds -/
def pe_av (σ : pe_H) (a k : Nat) : pe_V := match pe_rt a k with
  | some j => .inr (.inl j)
  | none => .inl (σ a (k : Int))
def pe_en (ad : Nat → Nat) (cA : FieldType → ClassId) (σ : pe_H) (a : Nat) (e : pe_E) : va_E := match e with
  | .inl (ty, n) => .inl (cA ty, n, .inl (fun j => Int32.ofInt (σ a (j : Int))))
  | .inr (ci, N) => .inr (ci, (List.range N).map (fun k => pe_c ad (pe_av σ a k)))
def pe_wd (ad : Nat → Nat) (cA : FieldType → ClassId) (σ : pe_H) : va_W := pe_sh.mapIdx (fun a e => (ad a, pe_en ad cA σ a e))
theorem pe_wd_at {ad : Nat → Nat} {cA : FieldType → ClassId} {σ : pe_H} {a : Nat} {e : pe_E} (h : pe_sh[a]? = some e) : (pe_wd ad cA σ)[a]? = some (ad a, pe_en ad cA σ a e) := by
  unfold pe_wd
  rw [List.getElem?_mapIdx, h]
  rfl
theorem pe_av_same {σ σ' : pe_H} {a k : Nat} (h : σ' a = σ a) : pe_av σ' a k = pe_av σ a k := by
  unfold pe_av
  rw [h]
theorem pe_en_same {ad : Nat → Nat} {cA : FieldType → ClassId} {σ σ' : pe_H} {a : Nat} {e : pe_E} (h : σ' a = σ a) : pe_en ad cA σ' a e = pe_en ad cA σ a e := by
  unfold pe_en
  rcases e with ⟨ty, n⟩ | ⟨ci, N⟩
  · rw [h]
  · simp only [pe_av_same h]
theorem pe_wd_set {ad : Nat → Nat} {cA : FieldType → ClassId} {σ σ' : pe_H} {a : Nat} {e : pe_E} {E : va_E} (h : pe_sh[a]? = some e) (ho : ∀ b, b ≠ a → σ' b = σ b) (hE : E = pe_en ad cA σ' a e) : (pe_wd ad cA σ).set a (ad a, E) = pe_wd ad cA σ' := by
  subst hE
  apply List.ext_getElem?
  intro k
  rw [List.getElem?_set]
  unfold pe_wd
  by_cases hk : a = k
  · subst hk
    rw [if_pos rfl, List.getElem?_mapIdx, h]
    have hl : a < pe_sh.length := (List.getElem?_eq_some_iff.mp h).1
    rw [if_pos (by rw [List.length_mapIdx]; exact hl)]
    rfl
  · rw [if_neg hk, List.getElem?_mapIdx, List.getElem?_mapIdx]
    cases pe_sh[k]? with
    | none => rfl
    | some e' =>
      show some (ad k, pe_en ad cA σ k e') = some (ad k, pe_en ad cA σ' k e')
      rw [pe_en_same (ho k (fun q => hk q.symm))]
def pe_A (ad : Nat → Nat) (sz : Nat) : Nat → Prop := fun q => (∃ a, a < pe_sh.length ∧ q = ad a) ∨ sz ≤ q
theorem pe_wd_fst {ad : Nat → Nat} {cA : FieldType → ClassId} {σ : pe_H} {k : Nat} {q : Nat × va_E} (h : (pe_wd ad cA σ)[k]? = some q) : k < pe_sh.length ∧ q.1 = ad k := by
  unfold pe_wd at h
  rw [List.getElem?_mapIdx] at h
  cases hs : pe_sh[k]? with
  | none => rw [hs] at h; cases h
  | some e =>
    rw [hs] at h
    have h2 : (ad k, pe_en ad cA σ k e) = q := Option.some.inj h
    exact ⟨(List.getElem?_eq_some_iff.mp hs).1, by rw [← h2]⟩
theorem pe_D {ad : Nat → Nat} {cA : FieldType → ClassId} {σ : pe_H} {B : Nat → Prop} {sz : Nat} (h : va_D B (pe_wd ad cA σ)) (σ' : pe_H) : va_D (pe_A ad sz) (pe_wd ad cA σ') := by
  refine ⟨fun i j p q hp hq e => ?_, fun k q hk => Or.inl ⟨k, pe_wd_fst hk⟩⟩
  obtain ⟨h1, h2⟩ := pe_wd_fst hp
  obtain ⟨h3, h4⟩ := pe_wd_fst hq
  have e1 : pe_sh[i]? = some pe_sh[i] := List.getElem?_eq_getElem h1
  have e2 : pe_sh[j]? = some pe_sh[j] := List.getElem?_eq_getElem h3
  exact h.1 i j _ _ (pe_wd_at e1) (pe_wd_at e2) (by show ad i = ad j; rw [← h2, ← h4]; exact e)
theorem pe_A_wd {ad : Nat → Nat} {cA : FieldType → ClassId} {σ : pe_H} {sz q : Nat} : va_A (pe_wd ad cA σ) sz q ↔ pe_A ad sz q := by
  constructor
  · rintro (⟨k, e, h⟩ | h)
    · exact Or.inl ⟨k, pe_wd_fst h⟩
    · exact Or.inr h
  · rintro (⟨k, h1, h2⟩ | h)
    · refine Or.inl ⟨k, pe_en ad cA σ k pe_sh[k], ?_⟩
      rw [h2]
      exact pe_wd_at (List.getElem?_eq_getElem h1)
    · exact Or.inr h
theorem pe_A_le {ad : Nat → Nat} {s1 s2 q : Nat} (h : s1 ≤ s2) (hq : pe_A ad s2 q) : pe_A ad s1 q := by
  rcases hq with h1 | h1
  · exact Or.inl h1
  · exact Or.inr (Nat.le_trans h h1)
abbrev pe_ty (cA : FieldType → ClassId) : List (ClassId × FieldType) := [(cA .int, .int), (cA .boolean, .boolean), (cA .byte, .byte)]
/-- a method: its name, its code, its locals, its result; the frames and words that it nests -/
abbrev pe_Y : Type := MethodName × ByteArray × Nat × Option FieldType × Nat × Nat
abbrev pe_ws (y : pe_Y) : List Cond := .code y.1 y.2.1 y.2.2.1 y.2.2.2.1 :: pe_WS
abbrev pe_rm (y : pe_Y) : Room := { frames := y.2.2.2.2.1, cells := 0, slots := 0, locals := y.2.2.2.2.2 }
def pe_Qc (D : va_G) (ad : Nat → Nat) (cA : FieldType → ClassId) (A : Nat → Prop) (Q : Option pe_V → pe_H → Prop) : Array Value → State → Outcome → State → Prop := fun _ st oc t =>
  (∃ (r : Option pe_V) (σ' : pe_H), oc = .returned (r.map (pe_c ad)) ∧ Q r σ' ∧ va_P D vwCl (pe_wd ad cA σ') t.heap) ∧ va_F A st t
def pe_X (y : pe_Y) (D : va_G) (cA : FieldType → ClassId) (p : Program) (s : State) (m : MethodId) (args : Array Value) (meth : Method) (c : Code) : Prop :=
  p.tables.exec = Jvm.exec ∧ c.code = y.2.1 ∧ meth.sig.returnType = y.2.2.2.1 ∧ meth.locks = false ∧ c.maxLocals = y.2.2.1 ∧ (∀ w ∈ pe_ws y, w.before args s = true) ∧ s.vm.findClass y.1.cls = some m.cls ∧ va_K D vwCl (pe_ty cA) s ∧ True
/-- the judgement: from this place of the method, with these locals, operands and cells, the method ends, and Q of its answer and of the cells -/
def pe_G (y : pe_Y) (pc : Nat) (lv : pe_L) (st : List pe_V) (σ : pe_H) (Q : Option pe_V → pe_H → Prop) : Prop :=
  ∀ (l : Launch) (D : va_G) (ad : Nat → Nat) (cA : FieldType → ClassId) (p : Program) (e : Env) (s : State) (m : MethodId) (args : Array Value) (below : List Frame) (meth : Method) (c : Code) (H : Heap) (locs : List Loc) (ls : Array Slot),
    pe_X y D cA p s m args meth c → pe_lh ad ls y.2.2.1 lv → va_P D vwCl (pe_wd ad cA σ) H → va_D (pe_A ad s.heap.size) (pe_wd ad cA σ) → va_S (pe_A ad s.heap.size) s.heap H locs →
    W p l e (headSpec (pe_ws y) (pe_rm y)).room s m args below meth c H locs 0 0 (MQ below (pe_Qc D ad cA (pe_A ad s.heap.size) Q) args s 0 0 (pe_A ad s.heap.size)) (F0 m pc ls (st.map (pe_c ad)))
/-- the contract: called with these arguments over these cells, it returns, and Q -/
def pe_M (y : pe_Y) (av : List pe_V) (σ : pe_H) (Q : Option pe_V → pe_H → Prop) : Prop :=
  ∀ (l : Launch) (D : va_G) (ad : Nat → Nat) (cA : FieldType → ClassId) (sz : Nat), Met l y.1 (pe_ws y) (pe_rm y)
    (va_Pc (av.map (pe_c ad)) (fun U => U.heap.size = sz ∧ va_P D vwCl (pe_wd ad cA σ) U.heap ∧ va_K D vwCl (pe_ty cA) U ∧ va_D (fun _ => True) (pe_wd ad cA σ)))
    (pe_Qc D ad cA (pe_A ad sz) Q) 0 0 (pe_A ad sz)
theorem pe_G.to {y : pe_Y} {pc : Nat} {lv lv' : pe_L} {st st' : List pe_V} {σ σ' : pe_H} {Q : Option pe_V → pe_H → Prop} (h : pe_G y pc lv st σ Q) (h1 : lv = lv' := by rfl) (h2 : st = st' := by rfl) (h3 : σ = σ' := by rfl) : pe_G y pc lv' st' σ' Q := by
  subst h1; subst h2; subst h3; exact h
theorem pe_enter {y : pe_Y} {av : List pe_V} {lv : pe_L} {σ : pe_H} {Q : Option pe_V → pe_H → Prop} (hy : plainName y.1.cls = true) (hlv : lv = pe_args av ++ List.replicate (y.2.2.1 - (pe_args av).length) none) (hlen : (pe_args av).length ≤ y.2.2.1) (k : pe_G y 0 lv [] σ Q) : pe_M y av σ Q := by
  intro l D ad cA sz
  refine Met.ofW (cc := y.2.1) (maxL := y.2.2.1) (ret := y.2.2.2.1) hy rfl ?_
  intro p e s m args below meth c s₁ B hml hv
  obtain ⟨rfl, hsz, hP, hK, hD0⟩ := hv
  subst hsz
  have hts := atoms_spec (ws := pe_ws y) B.pre
  have hl := lv_entry (av.map (pe_c ad)) (n := y.2.2.1) (by rw [pe_args_len]; exact hlen)
  rw [lg_entry_eq]
  generalize (lg_sl (av.map (pe_c ad)) ++ List.replicate (y.2.2.1 - (lg_sl (av.map (pe_c ad))).length) Slot.unset).toArray = ls at hl ⊢
  refine k l D ad cA p e s m _ below meth c s.heap [] ls ⟨B.exec, B.bytes, B.returns, B.notSynchronized, hml, hts, findClass_of_methodNamed B.named, hK, trivial⟩ ⟨?_, hl.1, hl.2.1, fun q hq => ?_⟩ hP (pe_D hD0 σ) va_S.rf
  · rw [hlv, List.length_append, List.length_replicate]
    omega
  · obtain ⟨j, hj, hjq⟩ := List.mem_filterMap.mp hq
    cases hg : lv[j]? with
    | none => rw [hg] at hjq; cases hjq
    | some o =>
      cases o with
      | none => rw [hg] at hjq; cases hjq
      | some w =>
        rw [hg] at hjq
        have e1 : (j, pe_c ad w) = q := Option.some.inj hjq
        rw [← e1]
        refine hl.2.2 (j, pe_c ad w) ?_
        have h1 : (pe_args av)[j]? = some (some w) := by
          rw [hlv, List.getElem?_append] at hg
          by_cases hlt : j < (pe_args av).length
          · rw [if_pos hlt] at hg; exact hg
          · rw [if_neg hlt, List.getElem?_replicate] at hg
            by_cases h2 : j - (pe_args av).length < y.2.2.1 - (pe_args av).length
            · rw [if_pos h2] at hg; cases hg
            · rw [if_neg h2] at hg; cases hg
        have := pe_args_in (ad := ad) av 0 j w h1
        rw [Nat.zero_add] at this
        exact this
/-- class facts of a field -/
def pe_FL (own : String) (idx ci k N : Nat) : Prop := ∃ (C : String) (T : u_T) (ty0 : Nat → FieldType), vwCl[ci]? = some (C, T, N) ∧ k < N ∧ (∀ w ∈ u_ws C T N, w ∈ pe_WS) ∧ (T k).1 = C ∧ (∀ k, k < N → parseFieldDescriptor (T k).2.2.1 = some (ty0 k)) ∧ (∀ a, a < N → ∀ b, b < N → a ≠ b → (T a).2.1 ≠ (T b).2.1) ∧ Cond.fieldLink own idx C (T k).2.1 (T k).2.2.1 ∈ pe_WS
def pe_FP (ci k : Nat) (ty : FieldType) : Prop := ∃ (C : String) (T : u_T) (N : Nat), vwCl[ci]? = some (C, T, N) ∧ (T k).2.2.2 = false ∧ parseFieldDescriptor (T k).2.2.1 = some ty
/-- the word of a call -/
def pe_CL (own : String) (idx : Nat) (y : pe_Y) (n : Nat) : Prop := Cond.methodLink own idx y.1 ∈ pe_WS ∧ Cond.code y.1 y.2.1 y.2.2.1 y.2.2.2.1 ∈ pe_WS ∧ Cond.initialized y.1.cls ∈ pe_WS ∧ (y.1.cls ≠ "java/lang/invoke/MethodHandle" ∧ y.1.cls ≠ "java/lang/invoke/VarHandle" ∧ (parseMethodDescriptor y.1.desc).map (fun d => d.parameters.length) = some n)
theorem pe_good {y y' : pe_Y} (h : Cond.code y'.1 y'.2.1 y'.2.2.1 y'.2.2.2.1 ∈ pe_WS) : GoodIn (pe_ws y) (pe_ws y') := by
  intro w hw
  rcases List.mem_cons.mp hw with rfl | hw
  · exact ⟨List.mem_cons_of_mem _ h, pe_WS_good _ h⟩
  · exact ⟨List.mem_cons_of_mem _ hw, pe_WS_good _ hw⟩
end
section
section PE_OPS
variable {y : pe_Y} {pc : Nat} {lv : pe_L} {st : List pe_V} {σ : pe_H} {Q : Option pe_V → pe_H → Prop}
theorem pe_top {p : Program} {l : Launch} {e : Env} {R : Room} {s : State} {m : MethodId} {args : Array Value} {below : List Frame} {meth : Method} {c : Code} {H : Heap} {locs : List Loc} {cells slots : Nat} {QQ : State → Prop} {ls : Array Slot} {ad : Nat → Nat} {v : Value} {w : pe_V} (k : W p l e R s m args below meth c H locs cells slots QQ (F0 m pc ls ((w :: st).map (pe_c ad)))) (h : v = pe_c ad w) : W p l e R s m args below meth c H locs cells slots QQ (F0 m pc ls (v :: st.map (pe_c ad))) := by
  subst h
  exact k
theorem pe_iconst {n : Int} (hd : decode y.2.1 pc = .ok (.iconst n, 1)) (k : pe_G y (pc + 1) lv (.inl n :: st) σ Q) : pe_G y pc lv st σ Q := by
  intro l D ad cA p e s m args below meth c H locs ls X hl hP hD hS
  have k := k l D ad cA p e s m args below meth c H locs ls X hl hP hD hS
  exact lv_iconst X.1 X.2.1 hd rfl k
theorem pe_bipush {n : Int} (hd : decode y.2.1 pc = .ok (.bipush n, 2)) (k : pe_G y (pc + 2) lv (.inl n :: st) σ Q) (hv : (Int8.ofInt n).toInt32 = Int32.ofInt n := by decide) : pe_G y pc lv st σ Q := by
  intro l D ad cA p e s m args below meth c H locs ls X hl hP hD hS
  have k := k l D ad cA p e s m args below meth c H locs ls X hl hP hD hS
  exact lv_bipush X.1 X.2.1 hd hv k
theorem pe_sipush {n : Int} (hd : decode y.2.1 pc = .ok (.sipush n, 3)) (k : pe_G y (pc + 3) lv (.inl n :: st) σ Q) (hv : (Int16.ofInt n).toInt32 = Int32.ofInt n := by decide) : pe_G y pc lv st σ Q := by
  intro l D ad cA p e s m args below meth c H locs ls X hl hP hD hS
  have k := k l D ad cA p e s m args below meth c H locs ls X hl hP hD hS
  exact lv_sipush X.1 X.2.1 hd hv k
theorem pe_ldc {idx : Nat} {z : Int} {v : Int32} (hw : Cond.constant y.1.cls idx v ∈ pe_WS) (hd : decode y.2.1 pc = .ok (.ldc idx, 2)) (hv : v = Int32.ofInt z) (k : pe_G y (pc + 2) lv (.inl z :: st) σ Q) : pe_G y pc lv st σ Q := by
  intro l D ad cA p e s m args below meth c H locs ls X hl hP hD hS
  have k := k l D ad cA p e s m args below meth c H locs ls X hl hP hD hS
  exact lv_ldc X.1 X.2.1 X.2.2.2.2.2.2.1 (X.2.2.2.2.2.1 _ (List.mem_cons_of_mem _ hw)) hd (pe_top k (by rw [hv]; rfl))
theorem pe_ldcw {idx : Nat} {z : Int} {v : Int32} (hw : Cond.constant y.1.cls idx v ∈ pe_WS) (hd : decode y.2.1 pc = .ok (.ldc_w idx, 3)) (hv : v = Int32.ofInt z) (k : pe_G y (pc + 3) lv (.inl z :: st) σ Q) : pe_G y pc lv st σ Q := by
  intro l D ad cA p e s m args below meth c H locs ls X hl hP hD hS
  have k := k l D ad cA p e s m args below meth c H locs ls X hl hP hD hS
  exact lv_ldcw X.1 X.2.1 X.2.2.2.2.2.2.1 (X.2.2.2.2.2.1 _ (List.mem_cons_of_mem _ hw)) hd (pe_top k (by rw [hv]; rfl))
theorem pe_ldc2 {idx : Nat} {v : Int64} (hw : Cond.constantLong y.1.cls idx v ∈ pe_WS) (hd : decode y.2.1 pc = .ok (.ldc2_w idx, 3)) (k : pe_G y (pc + 3) lv (.inr (.inr v) :: st) σ Q) : pe_G y pc lv st σ Q := by
  intro l D ad cA p e s m args below meth c H locs ls X hl hP hD hS
  have k := k l D ad cA p e s m args below meth c H locs ls X hl hP hD hS
  exact lv_ldc2 X.1 X.2.1 X.2.2.2.2.2.2.1 (X.2.2.2.2.2.1 _ (List.mem_cons_of_mem _ hw)) hd k
theorem pe_iload_n {i : Fin 4} {z : Int} (hd : decode y.2.1 pc = .ok (.iload_n i, 1)) (hg : lv[(i : Nat)]? = some (some (.inl z))) (k : pe_G y (pc + 1) lv (.inl z :: st) σ Q) : pe_G y pc lv st σ Q := by
  intro l D ad cA p e s m args below meth c H locs ls X hl hP hD hS
  have k := k l D ad cA p e s m args below meth c H locs ls X hl hP hD hS
  exact lv_iload_n X.1 X.2.1 hd rfl (pe_lat hl hg) k
theorem pe_iload {i : Nat} {z : Int} (hd : decode y.2.1 pc = .ok (.iload i, 2)) (hg : lv[i]? = some (some (.inl z))) (k : pe_G y (pc + 2) lv (.inl z :: st) σ Q) : pe_G y pc lv st σ Q := by
  intro l D ad cA p e s m args below meth c H locs ls X hl hP hD hS
  have k := k l D ad cA p e s m args below meth c H locs ls X hl hP hD hS
  exact lv_iload X.1 X.2.1 hd (pe_lat hl hg) k
theorem pe_aload_n {i : Fin 4} {z : Nat} (hd : decode y.2.1 pc = .ok (.aload_n i, 1)) (hg : lv[(i : Nat)]? = some (some (.inr (.inl z)))) (k : pe_G y (pc + 1) lv (.inr (.inl z) :: st) σ Q) : pe_G y pc lv st σ Q := by
  intro l D ad cA p e s m args below meth c H locs ls X hl hP hD hS
  have k := k l D ad cA p e s m args below meth c H locs ls X hl hP hD hS
  exact lv_aload_n X.1 X.2.1 hd rfl (pe_lat hl hg) k
theorem pe_aload {i : Nat} {z : Nat} (hd : decode y.2.1 pc = .ok (.aload i, 2)) (hg : lv[i]? = some (some (.inr (.inl z)))) (k : pe_G y (pc + 2) lv (.inr (.inl z) :: st) σ Q) : pe_G y pc lv st σ Q := by
  intro l D ad cA p e s m args below meth c H locs ls X hl hP hD hS
  have k := k l D ad cA p e s m args below meth c H locs ls X hl hP hD hS
  exact lv_aload X.1 X.2.1 hd (pe_lat hl hg) k
theorem pe_lload_n {i : Fin 4} {z : Int64} (hd : decode y.2.1 pc = .ok (.lload_n i, 1)) (hg : lv[(i : Nat)]? = some (some (.inr (.inr z)))) (k : pe_G y (pc + 1) lv (.inr (.inr z) :: st) σ Q) : pe_G y pc lv st σ Q := by
  intro l D ad cA p e s m args below meth c H locs ls X hl hP hD hS
  have k := k l D ad cA p e s m args below meth c H locs ls X hl hP hD hS
  exact lv_lload_n X.1 X.2.1 hd rfl (pe_lat hl hg) k
theorem pe_lload {i : Nat} {z : Int64} (hd : decode y.2.1 pc = .ok (.lload i, 2)) (hg : lv[i]? = some (some (.inr (.inr z)))) (k : pe_G y (pc + 2) lv (.inr (.inr z) :: st) σ Q) : pe_G y pc lv st σ Q := by
  intro l D ad cA p e s m args below meth c H locs ls X hl hP hD hS
  have k := k l D ad cA p e s m args below meth c H locs ls X hl hP hD hS
  exact lv_lload X.1 X.2.1 hd (pe_lat hl hg) k
theorem pe_istore_n {i : Fin 4} {z : Int} (hd : decode y.2.1 pc = .ok (.istore_n i, 1)) (k : pe_G y (pc + 1) (lv.set (i : Nat) (some (.inl z))) st σ Q) (hn : (i : Nat) < y.2.2.1 := by decide) (ho : pe_ok1 lv (i : Nat) = true := by rfl) : pe_G y pc lv (.inl z :: st) σ Q := by
  intro l D ad cA p e s m args below meth c H locs ls X hl hP hD hS
  exact lv_istore_n X.1 X.2.1 hd rfl (pe_lhas hl) hn rfl (fun ls' h' => k l D ad cA p e s m args below meth c H locs ls' X (pe_lset hl h' ho) hP hD hS)
theorem pe_istore {i : Nat} {z : Int} (hd : decode y.2.1 pc = .ok (.istore i, 2)) (k : pe_G y (pc + 2) (lv.set i (some (.inl z))) st σ Q) (hn : i < y.2.2.1 := by decide) (ho : pe_ok1 lv i = true := by rfl) : pe_G y pc lv (.inl z :: st) σ Q := by
  intro l D ad cA p e s m args below meth c H locs ls X hl hP hD hS
  exact lv_istore X.1 X.2.1 hd (pe_lhas hl) hn rfl (fun ls' h' => k l D ad cA p e s m args below meth c H locs ls' X (pe_lset hl h' ho) hP hD hS)
theorem pe_astore_n {i : Fin 4} {z : Nat} (hd : decode y.2.1 pc = .ok (.astore_n i, 1)) (k : pe_G y (pc + 1) (lv.set (i : Nat) (some (.inr (.inl z)))) st σ Q) (hn : (i : Nat) < y.2.2.1 := by decide) (ho : pe_ok1 lv (i : Nat) = true := by rfl) : pe_G y pc lv (.inr (.inl z) :: st) σ Q := by
  intro l D ad cA p e s m args below meth c H locs ls X hl hP hD hS
  exact lv_astore_n X.1 X.2.1 hd rfl (pe_lhas hl) hn rfl (fun ls' h' => k l D ad cA p e s m args below meth c H locs ls' X (pe_lset hl h' ho) hP hD hS)
theorem pe_astore {i : Nat} {z : Nat} (hd : decode y.2.1 pc = .ok (.astore i, 2)) (k : pe_G y (pc + 2) (lv.set i (some (.inr (.inl z)))) st σ Q) (hn : i < y.2.2.1 := by decide) (ho : pe_ok1 lv i = true := by rfl) : pe_G y pc lv (.inr (.inl z) :: st) σ Q := by
  intro l D ad cA p e s m args below meth c H locs ls X hl hP hD hS
  exact lv_astore X.1 X.2.1 hd (pe_lhas hl) hn rfl (fun ls' h' => k l D ad cA p e s m args below meth c H locs ls' X (pe_lset hl h' ho) hP hD hS)
theorem pe_iinc {i : Nat} {n z : Int} (hd : decode y.2.1 pc = .ok (.iinc i n, 3)) (hg : lv[i]? = some (some (.inl z))) (k : pe_G y (pc + 3) (lv.set i (some (.inl (z + n)))) st σ Q) (hn : i < y.2.2.1 := by decide) (ho : pe_ok1 lv i = true := by rfl) : pe_G y pc lv st σ Q := by
  intro l D ad cA p e s m args below meth c H locs ls X hl hP hD hS
  obtain ⟨q, hq⟩ := List.getElem?_of_mem (pe_lmem (ad := ad) (nL := y.2.2.1) hg hn)
  refine lv_iinc (v := Int32.ofInt (z + n)) X.1 X.2.1 hd (pe_lhas hl) hq (by rw [Int32.ofInt_add]) hn rfl (fun ls' h' => k l D ad cA p e s m args below meth c H locs ls' X (pe_lset (v := .inl (z + n)) hl h' ho) hP hD hS)
theorem pe_iadd {a b : Int} (hd : decode y.2.1 pc = .ok (.iadd, 1)) (k : pe_G y (pc + 1) lv (.inl (a + b) :: st) σ Q) : pe_G y pc lv (.inl b :: .inl a :: st) σ Q := by
  intro l D ad cA p e s m args below meth c H locs ls X hl hP hD hS
  have k := k l D ad cA p e s m args below meth c H locs ls X hl hP hD hS
  exact lv_iadd X.1 X.2.1 hd (pe_top k (by show _ = Value.int (Int32.ofInt (a + b)); rw [Int32.ofInt_add]))
theorem pe_isub {a b : Int} (hd : decode y.2.1 pc = .ok (.isub, 1)) (k : pe_G y (pc + 1) lv (.inl (a - b) :: st) σ Q) : pe_G y pc lv (.inl b :: .inl a :: st) σ Q := by
  intro l D ad cA p e s m args below meth c H locs ls X hl hP hD hS
  have k := k l D ad cA p e s m args below meth c H locs ls X hl hP hD hS
  exact lv_isub X.1 X.2.1 hd (pe_top k (by show _ = Value.int (Int32.ofInt (a - b)); rw [Int32.ofInt_sub]))
theorem pe_imul {a b : Int} (hd : decode y.2.1 pc = .ok (.imul, 1)) (k : pe_G y (pc + 1) lv (.inl (a * b) :: st) σ Q) : pe_G y pc lv (.inl b :: .inl a :: st) σ Q := by
  intro l D ad cA p e s m args below meth c H locs ls X hl hP hD hS
  have k := k l D ad cA p e s m args below meth c H locs ls X hl hP hD hS
  exact lv_imul X.1 X.2.1 hd (pe_top k (by show _ = Value.int (Int32.ofInt (a * b)); rw [Int32.ofInt_mul]))
theorem pe_iand {a b z : Int} (hd : decode y.2.1 pc = .ok (.iand, 1)) (hz : Int32.ofInt a &&& Int32.ofInt b = Int32.ofInt z) (k : pe_G y (pc + 1) lv (.inl z :: st) σ Q) : pe_G y pc lv (.inl b :: .inl a :: st) σ Q := by
  intro l D ad cA p e s m args below meth c H locs ls X hl hP hD hS
  have k := k l D ad cA p e s m args below meth c H locs ls X hl hP hD hS
  exact lv_iand X.1 X.2.1 hd (pe_top k (by show _ = Value.int (Int32.ofInt z); rw [← hz]))
theorem pe_ior {a b z : Int} (hd : decode y.2.1 pc = .ok (.ior, 1)) (hz : Int32.ofInt a ||| Int32.ofInt b = Int32.ofInt z) (k : pe_G y (pc + 1) lv (.inl z :: st) σ Q) : pe_G y pc lv (.inl b :: .inl a :: st) σ Q := by
  intro l D ad cA p e s m args below meth c H locs ls X hl hP hD hS
  have k := k l D ad cA p e s m args below meth c H locs ls X hl hP hD hS
  exact lv_ior X.1 X.2.1 hd (pe_top k (by show _ = Value.int (Int32.ofInt z); rw [← hz]))
theorem pe_ixor {a b z : Int} (hd : decode y.2.1 pc = .ok (.ixor, 1)) (hz : Int32.ofInt a ^^^ Int32.ofInt b = Int32.ofInt z) (k : pe_G y (pc + 1) lv (.inl z :: st) σ Q) : pe_G y pc lv (.inl b :: .inl a :: st) σ Q := by
  intro l D ad cA p e s m args below meth c H locs ls X hl hP hD hS
  have k := k l D ad cA p e s m args below meth c H locs ls X hl hP hD hS
  exact lv_ixor X.1 X.2.1 hd (pe_top k (by show _ = Value.int (Int32.ofInt z); rw [← hz]))
theorem pe_ishl {a b z : Int} (hd : decode y.2.1 pc = .ok (.ishl, 1)) (hz : Int32.ofInt a <<< (Int32.ofInt b &&& 31) = Int32.ofInt z) (k : pe_G y (pc + 1) lv (.inl z :: st) σ Q) : pe_G y pc lv (.inl b :: .inl a :: st) σ Q := by
  intro l D ad cA p e s m args below meth c H locs ls X hl hP hD hS
  have k := k l D ad cA p e s m args below meth c H locs ls X hl hP hD hS
  exact lv_ishl X.1 X.2.1 hd (pe_top k (by show _ = Value.int (Int32.ofInt z); rw [← hz]))
theorem pe_ishr {a b z : Int} (hd : decode y.2.1 pc = .ok (.ishr, 1)) (hz : Int32.ofInt a >>> (Int32.ofInt b &&& 31) = Int32.ofInt z) (k : pe_G y (pc + 1) lv (.inl z :: st) σ Q) : pe_G y pc lv (.inl b :: .inl a :: st) σ Q := by
  intro l D ad cA p e s m args below meth c H locs ls X hl hP hD hS
  have k := k l D ad cA p e s m args below meth c H locs ls X hl hP hD hS
  exact lv_ishr X.1 X.2.1 hd (pe_top k (by show _ = Value.int (Int32.ofInt z); rw [← hz]))
theorem pe_idiv {a b : Int} (hd : decode y.2.1 pc = .ok (.idiv, 1)) (ha : pe_R a) (hb0 : 0 < b) (hb : pe_R b) (k : pe_G y (pc + 1) lv (.inl (a.tdiv b) :: st) σ Q) : pe_G y pc lv (.inl b :: .inl a :: st) σ Q := by
  intro l D ad cA p e s m args below meth c H locs ls X hl hP hD hS
  have k := k l D ad cA p e s m args below meth c H locs ls X hl hP hD hS
  exact lv_idiv X.1 X.2.1 hd (fun q => by have := (pe_eq hb pe_R0).mp q; omega) (pe_top k (by show _ = Value.int (Int32.ofInt (a.tdiv b)); rw [pe_tdiv ha hb]))
theorem pe_irem {a b : Int} (hd : decode y.2.1 pc = .ok (.irem, 1)) (ha : pe_R a) (hb0 : 0 < b) (hb : pe_R b) (k : pe_G y (pc + 1) lv (.inl (a.tmod b) :: st) σ Q) : pe_G y pc lv (.inl b :: .inl a :: st) σ Q := by
  intro l D ad cA p e s m args below meth c H locs ls X hl hP hD hS
  have k := k l D ad cA p e s m args below meth c H locs ls X hl hP hD hS
  exact lv_irem X.1 X.2.1 hd (fun q => by have := (pe_eq hb pe_R0).mp q; omega) (pe_top k (by show _ = Value.int (Int32.ofInt (a.tmod b)); rw [pe_tmod ha hb]))
theorem pe_i2l {a : Int} {v : Int64} (hd : decode y.2.1 pc = .ok (.i2l, 1)) (hv : (Int32.ofInt a).toInt64 = v) (k : pe_G y (pc + 1) lv (.inr (.inr v) :: st) σ Q) : pe_G y pc lv (.inl a :: st) σ Q := by
  intro l D ad cA p e s m args below meth c H locs ls X hl hP hD hS
  have k := k l D ad cA p e s m args below meth c H locs ls X hl hP hD hS
  exact lv_i2l X.1 X.2.1 hd hv k
theorem pe_l2i {x : Int64} {z : Int} (hd : decode y.2.1 pc = .ok (.l2i, 1)) (hv : x.toInt32 = Int32.ofInt z) (k : pe_G y (pc + 1) lv (.inl z :: st) σ Q) : pe_G y pc lv (.inr (.inr x) :: st) σ Q := by
  intro l D ad cA p e s m args below meth c H locs ls X hl hP hD hS
  have k := k l D ad cA p e s m args below meth c H locs ls X hl hP hD hS
  exact lv_l2i X.1 X.2.1 hd hv k
theorem pe_lushr {x v : Int64} {b : Int} (hd : decode y.2.1 pc = .ok (.lushr, 1)) (hv : (x.toUInt64 >>> ((Int32.ofInt b).toInt64.toUInt64 &&& Int64.toUInt64 63)).toInt64 = v) (k : pe_G y (pc + 1) lv (.inr (.inr v) :: st) σ Q) : pe_G y pc lv (.inl b :: .inr (.inr x) :: st) σ Q := by
  intro l D ad cA p e s m args below meth c H locs ls X hl hP hD hS
  have k := k l D ad cA p e s m args below meth c H locs ls X hl hP hD hS
  exact lv_lushr X.1 X.2.1 hd hv k
theorem pe_lshr {x v : Int64} {b : Int} (hd : decode y.2.1 pc = .ok (.lshr, 1)) (hv : x >>> ((Int32.ofInt b).toInt64 &&& 63) = v) (k : pe_G y (pc + 1) lv (.inr (.inr v) :: st) σ Q) : pe_G y pc lv (.inl b :: .inr (.inr x) :: st) σ Q := by
  intro l D ad cA p e s m args below meth c H locs ls X hl hP hD hS
  have k := k l D ad cA p e s m args below meth c H locs ls X hl hP hD hS
  exact lv_lshr X.1 X.2.1 hd hv k
theorem pe_lshl {x v : Int64} {b : Int} (hd : decode y.2.1 pc = .ok (.lshl, 1)) (hv : x <<< ((Int32.ofInt b).toInt64 &&& 63) = v) (k : pe_G y (pc + 1) lv (.inr (.inr v) :: st) σ Q) : pe_G y pc lv (.inl b :: .inr (.inr x) :: st) σ Q := by
  intro l D ad cA p e s m args below meth c H locs ls X hl hP hD hS
  have k := k l D ad cA p e s m args below meth c H locs ls X hl hP hD hS
  exact lv_lshl X.1 X.2.1 hd hv k
theorem pe_land {x v : Int64} (hd : decode y.2.1 pc = .ok (.land, 1)) (k : pe_G y (pc + 1) lv (.inr (.inr (x &&& v)) :: st) σ Q) : pe_G y pc lv (.inr (.inr v) :: .inr (.inr x) :: st) σ Q := by
  intro l D ad cA p e s m args below meth c H locs ls X hl hP hD hS
  have k := k l D ad cA p e s m args below meth c H locs ls X hl hP hD hS
  exact lv_land X.1 X.2.1 hd k
theorem pe_dup {v : pe_V} (hd : decode y.2.1 pc = .ok (.dup, 1)) (k : pe_G y (pc + 1) lv (v :: v :: st) σ Q) (hc : pe_cat v = 1 := by rfl) : pe_G y pc lv (v :: st) σ Q := by
  intro l D ad cA p e s m args below meth c H locs ls X hl hP hD hS
  have k := k l D ad cA p e s m args below meth c H locs ls X hl hP hD hS
  exact lv_dup X.1 X.2.1 hd (by rw [pe_cat_c]; exact hc) k
theorem pe_dup2 {v w : pe_V} (hd : decode y.2.1 pc = .ok (.dup2, 1)) (k : pe_G y (pc + 1) lv (v :: w :: v :: w :: st) σ Q) (hc : pe_cat v = 1 := by rfl) (hc2 : pe_cat w = 1 := by rfl) : pe_G y pc lv (v :: w :: st) σ Q := by
  intro l D ad cA p e s m args below meth c H locs ls X hl hP hD hS
  have k := k l D ad cA p e s m args below meth c H locs ls X hl hP hD hS
  exact lv_dup2_11 X.1 X.2.1 hd (by rw [pe_cat_c]; exact hc) (by rw [pe_cat_c]; exact hc2) k
theorem pe_pop {v : pe_V} (hd : decode y.2.1 pc = .ok (.pop, 1)) (k : pe_G y (pc + 1) lv st σ Q) (hc : pe_cat v = 1 := by rfl) : pe_G y pc lv (v :: st) σ Q := by
  intro l D ad cA p e s m args below meth c H locs ls X hl hP hD hS
  have k := k l D ad cA p e s m args below meth c H locs ls X hl hP hD hS
  exact lv_pop X.1 X.2.1 hd (by rw [pe_cat_c]; exact hc) k
theorem pe_goto {off : Int} {t : Nat} (hd : decode y.2.1 pc = .ok (.goto off, 3)) (k : pe_G y t lv st σ Q) (ht : (pc : Int) + off = (t : Int) := by decide) : pe_G y pc lv st σ Q := by
  intro l D ad cA p e s m args below meth c H locs ls X hl hP hD hS
  have k := k l D ad cA p e s m args below meth c H locs ls X hl hP hD hS
  exact lv_goto X.1 X.2.1 hd ht k
theorem pe_icmp_eq {a b off : Int} {t : Nat} (hd : decode y.2.1 pc = .ok (.if_icmp .eq off, 3)) (ha : pe_R a) (hb : pe_R b) (kt : a = b → pe_G y t lv st σ Q) (kf : ¬ a = b → pe_G y (pc + 3) lv st σ Q) (ht : (pc : Int) + off = (t : Int) := by decide) : pe_G y pc lv (.inl b :: .inl a :: st) σ Q := by
  intro l D ad cA p e s m args below meth c H locs ls X hl hP hD hS
  refine lv_icmp_eq X.1 X.2.1 hd ht (fun q => kt ?_ l D ad cA p e s m args below meth c H locs ls X hl hP hD hS) (fun q => kf ?_ l D ad cA p e s m args below meth c H locs ls X hl hP hD hS)
  · exact pe_cm_eq ha hb q
  · exact pe_cn_eq ha hb q
theorem pe_if_eq {a off : Int} {t : Nat} (hd : decode y.2.1 pc = .ok (.ifCond .eq off, 3)) (ha : pe_R a) (kt : a = 0 → pe_G y t lv st σ Q) (kf : ¬ a = 0 → pe_G y (pc + 3) lv st σ Q) (ht : (pc : Int) + off = (t : Int) := by decide) : pe_G y pc lv (.inl a :: st) σ Q := by
  intro l D ad cA p e s m args below meth c H locs ls X hl hP hD hS
  refine lv_if_eq X.1 X.2.1 hd ht (fun q => kt ?_ l D ad cA p e s m args below meth c H locs ls X hl hP hD hS) (fun q => kf ?_ l D ad cA p e s m args below meth c H locs ls X hl hP hD hS)
  · exact pe_cm_eq ha pe_R0 q
  · exact pe_cn_eq ha pe_R0 q
theorem pe_icmp_ne {a b off : Int} {t : Nat} (hd : decode y.2.1 pc = .ok (.if_icmp .ne off, 3)) (ha : pe_R a) (hb : pe_R b) (kt : ¬ a = b → pe_G y t lv st σ Q) (kf : a = b → pe_G y (pc + 3) lv st σ Q) (ht : (pc : Int) + off = (t : Int) := by decide) : pe_G y pc lv (.inl b :: .inl a :: st) σ Q := by
  intro l D ad cA p e s m args below meth c H locs ls X hl hP hD hS
  refine lv_icmp_ne X.1 X.2.1 hd ht (fun q => kt ?_ l D ad cA p e s m args below meth c H locs ls X hl hP hD hS) (fun q => kf ?_ l D ad cA p e s m args below meth c H locs ls X hl hP hD hS)
  · exact pe_cm_ne ha hb q
  · exact pe_cn_ne ha hb q
theorem pe_if_ne {a off : Int} {t : Nat} (hd : decode y.2.1 pc = .ok (.ifCond .ne off, 3)) (ha : pe_R a) (kt : ¬ a = 0 → pe_G y t lv st σ Q) (kf : a = 0 → pe_G y (pc + 3) lv st σ Q) (ht : (pc : Int) + off = (t : Int) := by decide) : pe_G y pc lv (.inl a :: st) σ Q := by
  intro l D ad cA p e s m args below meth c H locs ls X hl hP hD hS
  refine lv_if_ne X.1 X.2.1 hd ht (fun q => kt ?_ l D ad cA p e s m args below meth c H locs ls X hl hP hD hS) (fun q => kf ?_ l D ad cA p e s m args below meth c H locs ls X hl hP hD hS)
  · exact pe_cm_ne ha pe_R0 q
  · exact pe_cn_ne ha pe_R0 q
theorem pe_icmp_lt {a b off : Int} {t : Nat} (hd : decode y.2.1 pc = .ok (.if_icmp .lt off, 3)) (ha : pe_R a) (hb : pe_R b) (kt : a < b → pe_G y t lv st σ Q) (kf : b ≤ a → pe_G y (pc + 3) lv st σ Q) (ht : (pc : Int) + off = (t : Int) := by decide) : pe_G y pc lv (.inl b :: .inl a :: st) σ Q := by
  intro l D ad cA p e s m args below meth c H locs ls X hl hP hD hS
  refine lv_icmp_lt X.1 X.2.1 hd ht (fun q => kt ?_ l D ad cA p e s m args below meth c H locs ls X hl hP hD hS) (fun q => kf ?_ l D ad cA p e s m args below meth c H locs ls X hl hP hD hS)
  · exact pe_cm_lt ha hb q
  · exact pe_cn_lt ha hb q
theorem pe_if_lt {a off : Int} {t : Nat} (hd : decode y.2.1 pc = .ok (.ifCond .lt off, 3)) (ha : pe_R a) (kt : a < 0 → pe_G y t lv st σ Q) (kf : 0 ≤ a → pe_G y (pc + 3) lv st σ Q) (ht : (pc : Int) + off = (t : Int) := by decide) : pe_G y pc lv (.inl a :: st) σ Q := by
  intro l D ad cA p e s m args below meth c H locs ls X hl hP hD hS
  refine lv_if_lt X.1 X.2.1 hd ht (fun q => kt ?_ l D ad cA p e s m args below meth c H locs ls X hl hP hD hS) (fun q => kf ?_ l D ad cA p e s m args below meth c H locs ls X hl hP hD hS)
  · exact pe_cm_lt ha pe_R0 q
  · exact pe_cn_lt ha pe_R0 q
theorem pe_icmp_ge {a b off : Int} {t : Nat} (hd : decode y.2.1 pc = .ok (.if_icmp .ge off, 3)) (ha : pe_R a) (hb : pe_R b) (kt : b ≤ a → pe_G y t lv st σ Q) (kf : a < b → pe_G y (pc + 3) lv st σ Q) (ht : (pc : Int) + off = (t : Int) := by decide) : pe_G y pc lv (.inl b :: .inl a :: st) σ Q := by
  intro l D ad cA p e s m args below meth c H locs ls X hl hP hD hS
  refine lv_icmp_ge X.1 X.2.1 hd ht (fun q => kt ?_ l D ad cA p e s m args below meth c H locs ls X hl hP hD hS) (fun q => kf ?_ l D ad cA p e s m args below meth c H locs ls X hl hP hD hS)
  · exact pe_cm_ge ha hb q
  · exact pe_cn_ge ha hb q
theorem pe_if_ge {a off : Int} {t : Nat} (hd : decode y.2.1 pc = .ok (.ifCond .ge off, 3)) (ha : pe_R a) (kt : 0 ≤ a → pe_G y t lv st σ Q) (kf : a < 0 → pe_G y (pc + 3) lv st σ Q) (ht : (pc : Int) + off = (t : Int) := by decide) : pe_G y pc lv (.inl a :: st) σ Q := by
  intro l D ad cA p e s m args below meth c H locs ls X hl hP hD hS
  refine lv_if_ge X.1 X.2.1 hd ht (fun q => kt ?_ l D ad cA p e s m args below meth c H locs ls X hl hP hD hS) (fun q => kf ?_ l D ad cA p e s m args below meth c H locs ls X hl hP hD hS)
  · exact pe_cm_ge ha pe_R0 q
  · exact pe_cn_ge ha pe_R0 q
theorem pe_icmp_gt {a b off : Int} {t : Nat} (hd : decode y.2.1 pc = .ok (.if_icmp .gt off, 3)) (ha : pe_R a) (hb : pe_R b) (kt : b < a → pe_G y t lv st σ Q) (kf : a ≤ b → pe_G y (pc + 3) lv st σ Q) (ht : (pc : Int) + off = (t : Int) := by decide) : pe_G y pc lv (.inl b :: .inl a :: st) σ Q := by
  intro l D ad cA p e s m args below meth c H locs ls X hl hP hD hS
  refine lv_icmp_gt X.1 X.2.1 hd ht (fun q => kt ?_ l D ad cA p e s m args below meth c H locs ls X hl hP hD hS) (fun q => kf ?_ l D ad cA p e s m args below meth c H locs ls X hl hP hD hS)
  · exact pe_cm_gt ha hb q
  · exact pe_cn_gt ha hb q
theorem pe_if_gt {a off : Int} {t : Nat} (hd : decode y.2.1 pc = .ok (.ifCond .gt off, 3)) (ha : pe_R a) (kt : 0 < a → pe_G y t lv st σ Q) (kf : a ≤ 0 → pe_G y (pc + 3) lv st σ Q) (ht : (pc : Int) + off = (t : Int) := by decide) : pe_G y pc lv (.inl a :: st) σ Q := by
  intro l D ad cA p e s m args below meth c H locs ls X hl hP hD hS
  refine lv_if_gt X.1 X.2.1 hd ht (fun q => kt ?_ l D ad cA p e s m args below meth c H locs ls X hl hP hD hS) (fun q => kf ?_ l D ad cA p e s m args below meth c H locs ls X hl hP hD hS)
  · exact pe_cm_gt ha pe_R0 q
  · exact pe_cn_gt ha pe_R0 q
theorem pe_icmp_le {a b off : Int} {t : Nat} (hd : decode y.2.1 pc = .ok (.if_icmp .le off, 3)) (ha : pe_R a) (hb : pe_R b) (kt : a ≤ b → pe_G y t lv st σ Q) (kf : b < a → pe_G y (pc + 3) lv st σ Q) (ht : (pc : Int) + off = (t : Int) := by decide) : pe_G y pc lv (.inl b :: .inl a :: st) σ Q := by
  intro l D ad cA p e s m args below meth c H locs ls X hl hP hD hS
  refine lv_icmp_le X.1 X.2.1 hd ht (fun q => kt ?_ l D ad cA p e s m args below meth c H locs ls X hl hP hD hS) (fun q => kf ?_ l D ad cA p e s m args below meth c H locs ls X hl hP hD hS)
  · exact pe_cm_le ha hb q
  · exact pe_cn_le ha hb q
theorem pe_if_le {a off : Int} {t : Nat} (hd : decode y.2.1 pc = .ok (.ifCond .le off, 3)) (ha : pe_R a) (kt : a ≤ 0 → pe_G y t lv st σ Q) (kf : 0 < a → pe_G y (pc + 3) lv st σ Q) (ht : (pc : Int) + off = (t : Int) := by decide) : pe_G y pc lv (.inl a :: st) σ Q := by
  intro l D ad cA p e s m args below meth c H locs ls X hl hP hD hS
  refine lv_if_le X.1 X.2.1 hd ht (fun q => kt ?_ l D ad cA p e s m args below meth c H locs ls X hl hP hD hS) (fun q => kf ?_ l D ad cA p e s m args below meth c H locs ls X hl hP hD hS)
  · exact pe_cm_le ha pe_R0 q
  · exact pe_cn_le ha pe_R0 q
theorem pe_iald {a n : Nat} {i : Int} (hd : decode y.2.1 pc = .ok (.iaload, 1)) (hs : pe_sh[a]? = some (.inl (.int, n))) (h0 : 0 ≤ i) (h1 : i < n) (k : pe_G y (pc + 1) lv (.inl (σ a i) :: st) σ Q) (hn : n < 2147483648 := by decide) : pe_G y pc lv (.inl i :: .inr (.inl a) :: st) σ Q := by
  intro l D ad cA p e s m args below meth c H locs ls X hl hP hD hS
  have k := k l D ad cA p e s m args below meth c H locs ls X hl hP hD hS
  refine va_iald X.1 X.2.1 X.2.2.2.2.2.2.2.1 hP a 0 (pe_wd_at hs) rfl (pe_in hn h0 h1) hd (pe_top k ?_)
  show Value.int (Int32.ofInt (σ a (((Int32.ofInt i).toNatClampNeg : Nat) : Int))) = Value.int (Int32.ofInt (σ a i))
  rw [pe_clamp h0 (by omega), Int.toNat_of_nonneg h0]
theorem pe_zald {a n : Nat} {i : Int} (hd : decode y.2.1 pc = .ok (.baload, 1)) (hs : pe_sh[a]? = some (.inl (.boolean, n))) (h0 : 0 ≤ i) (h1 : i < n) (k : pe_G y (pc + 1) lv (.inl (σ a i) :: st) σ Q) (hn : n < 2147483648 := by decide) : pe_G y pc lv (.inl i :: .inr (.inl a) :: st) σ Q := by
  intro l D ad cA p e s m args below meth c H locs ls X hl hP hD hS
  have k := k l D ad cA p e s m args below meth c H locs ls X hl hP hD hS
  refine va_zald X.1 X.2.1 X.2.2.2.2.2.2.2.1 hP a 1 (pe_wd_at hs) rfl (pe_in hn h0 h1) hd (pe_top k ?_)
  show Value.int (Int32.ofInt (σ a (((Int32.ofInt i).toNatClampNeg : Nat) : Int))) = Value.int (Int32.ofInt (σ a i))
  rw [pe_clamp h0 (by omega), Int.toNat_of_nonneg h0]
theorem pe_bald {a n : Nat} {i : Int} (hd : decode y.2.1 pc = .ok (.baload, 1)) (hs : pe_sh[a]? = some (.inl (.byte, n))) (h0 : 0 ≤ i) (h1 : i < n) (k : pe_G y (pc + 1) lv (.inl (σ a i) :: st) σ Q) (hn : n < 2147483648 := by decide) : pe_G y pc lv (.inl i :: .inr (.inl a) :: st) σ Q := by
  intro l D ad cA p e s m args below meth c H locs ls X hl hP hD hS
  have k := k l D ad cA p e s m args below meth c H locs ls X hl hP hD hS
  refine va_bald X.1 X.2.1 X.2.2.2.2.2.2.2.1 hP a 2 (pe_wd_at hs) rfl (pe_in hn h0 h1) hd (pe_top k ?_)
  show Value.int (Int32.ofInt (σ a (((Int32.ofInt i).toNatClampNeg : Nat) : Int))) = Value.int (Int32.ofInt (σ a i))
  rw [pe_clamp h0 (by omega), Int.toNat_of_nonneg h0]
theorem pe_iast {a n : Nat} {i v : Int} (hd : decode y.2.1 pc = .ok (.iastore, 1)) (hs : pe_sh[a]? = some (.inl (.int, n))) (h0 : 0 ≤ i) (h1 : i < n) (k : pe_G y (pc + 1) lv st (pe_up σ a i v) Q) (hn : n < 2147483648 := by decide) : pe_G y pc lv (.inl v :: .inl i :: .inr (.inl a) :: st) σ Q := by
  intro l D ad cA p e s m args below meth c H locs ls X hl hP hD hS
  refine va_iast X.1 X.2.1 X.2.2.2.2.2.2.2.1 hP hD hS a 0 (pe_wd_at hs) rfl (pe_in hn h0 h1) hd (fun H1 locs1 hP1 hD1 hS1 => ?_)
  have hE : (Sum.inl (cA .int, n, Sum.inl (upd (fun j : Nat => Int32.ofInt (σ a (j : Int))) (Int32.ofInt i).toNatClampNeg (Int32.ofInt v))) : va_E) = pe_en ad cA (pe_up σ a i v) a (.inl (.int, n)) := by
    have h2 : upd (fun j : Nat => Int32.ofInt (σ a (j : Int))) (Int32.ofInt i).toNatClampNeg (Int32.ofInt v) = fun j : Nat => Int32.ofInt (pe_up σ a i v a (j : Int)) := by
      funext j
      rw [pe_up_at, pe_clamp h0 (by omega)]
      by_cases hj : (j : Int) = i
      · rw [if_pos hj]
        have : j = i.toNat := by omega
        subst this
        exact pk_us
      · rw [if_neg hj]
        exact pk_un (by omega)
    rw [h2]
    rfl
  rw [pe_wd_set (σ' := pe_up σ a i v) hs (fun b hb => pe_up_ne hb) hE] at hP1 hD1
  exact k l D ad cA p e s m args below meth c H1 locs1 ls X hl hP1 hD1 hS1
theorem pe_zast {a n : Nat} {i v : Int} (hd : decode y.2.1 pc = .ok (.bastore, 1)) (hs : pe_sh[a]? = some (.inl (.boolean, n))) (h0 : 0 ≤ i) (h1 : i < n) (hv : vp_nar .boolean (Int32.ofInt v) = Int32.ofInt v) (k : pe_G y (pc + 1) lv st (pe_up σ a i v) Q) (hn : n < 2147483648 := by decide) : pe_G y pc lv (.inl v :: .inl i :: .inr (.inl a) :: st) σ Q := by
  intro l D ad cA p e s m args below meth c H locs ls X hl hP hD hS
  refine va_zast X.1 X.2.1 X.2.2.2.2.2.2.2.1 hP hD hS a 1 (pe_wd_at hs) rfl (pe_in hn h0 h1) hd (fun H1 locs1 hP1 hD1 hS1 => ?_)
  have hE : (Sum.inl (cA .boolean, n, Sum.inl (upd (fun j : Nat => Int32.ofInt (σ a (j : Int))) (Int32.ofInt i).toNatClampNeg (vp_nar .boolean (Int32.ofInt v)))) : va_E) = pe_en ad cA (pe_up σ a i v) a (.inl (.boolean, n)) := by
    have h2 : upd (fun j : Nat => Int32.ofInt (σ a (j : Int))) (Int32.ofInt i).toNatClampNeg (vp_nar .boolean (Int32.ofInt v)) = fun j : Nat => Int32.ofInt (pe_up σ a i v a (j : Int)) := by
      funext j
      rw [pe_up_at, pe_clamp h0 (by omega)]
      by_cases hj : (j : Int) = i
      · rw [if_pos hj]
        have : j = i.toNat := by omega
        subst this
        rw [pk_us]; exact hv
      · rw [if_neg hj]
        exact pk_un (by omega)
    rw [h2]
    rfl
  rw [pe_wd_set (σ' := pe_up σ a i v) hs (fun b hb => pe_up_ne hb) hE] at hP1 hD1
  exact k l D ad cA p e s m args below meth c H1 locs1 ls X hl hP1 hD1 hS1
theorem pe_bast {a n : Nat} {i v : Int} (hd : decode y.2.1 pc = .ok (.bastore, 1)) (hs : pe_sh[a]? = some (.inl (.byte, n))) (h0 : 0 ≤ i) (h1 : i < n) (hv : vp_nar .byte (Int32.ofInt v) = Int32.ofInt v) (k : pe_G y (pc + 1) lv st (pe_up σ a i v) Q) (hn : n < 2147483648 := by decide) : pe_G y pc lv (.inl v :: .inl i :: .inr (.inl a) :: st) σ Q := by
  intro l D ad cA p e s m args below meth c H locs ls X hl hP hD hS
  refine va_bast X.1 X.2.1 X.2.2.2.2.2.2.2.1 hP hD hS a 2 (pe_wd_at hs) rfl (pe_in hn h0 h1) hd (fun H1 locs1 hP1 hD1 hS1 => ?_)
  have hE : (Sum.inl (cA .byte, n, Sum.inl (upd (fun j : Nat => Int32.ofInt (σ a (j : Int))) (Int32.ofInt i).toNatClampNeg (vp_nar .byte (Int32.ofInt v)))) : va_E) = pe_en ad cA (pe_up σ a i v) a (.inl (.byte, n)) := by
    have h2 : upd (fun j : Nat => Int32.ofInt (σ a (j : Int))) (Int32.ofInt i).toNatClampNeg (vp_nar .byte (Int32.ofInt v)) = fun j : Nat => Int32.ofInt (pe_up σ a i v a (j : Int)) := by
      funext j
      rw [pe_up_at, pe_clamp h0 (by omega)]
      by_cases hj : (j : Int) = i
      · rw [if_pos hj]
        have : j = i.toNat := by omega
        subst this
        rw [pk_us]; exact hv
      · rw [if_neg hj]
        exact pk_un (by omega)
    rw [h2]
    rfl
  rw [pe_wd_set (σ' := pe_up σ a i v) hs (fun b hb => pe_up_ne hb) hE] at hP1 hD1
  exact k l D ad cA p e s m args below meth c H1 locs1 ls X hl hP1 hD1 hS1
theorem pe_alen {a n : Nat} {t0 : Nat} {ty : FieldType} (hd : decode y.2.1 pc = .ok (.arraylength, 1)) (hs : pe_sh[a]? = some (.inl (ty, n))) (ht : ∀ cA : FieldType → ClassId, (pe_ty cA)[t0]? = some (cA ty, ty)) (k : pe_G y (pc + 1) lv (.inl (n : Int) :: st) σ Q) : pe_G y pc lv (.inr (.inl a) :: st) σ Q := by
  intro l D ad cA p e s m args below meth c H locs ls X hl hP hD hS
  have k := k l D ad cA p e s m args below meth c H locs ls X hl hP hD hS
  exact va_alen X.1 X.2.1 X.2.2.2.2.2.2.2.1 hP a t0 (pe_wd_at hs) (ht cA) (show Int32.ofNat n = Int32.ofInt (n : Int) from Int32.ofInt_eq_ofNat.symm) hd k
theorem pe_getv {a idx ci k N : Nat} (F : pe_FL y.1.cls idx ci k N) (hd : decode y.2.1 pc = .ok (.getfield idx, 3)) (hs : pe_sh[a]? = some (.inr (ci, N))) (kk : pe_G y (pc + 3) lv (pe_av σ a k :: st) σ Q) : pe_G y pc lv (.inr (.inl a) :: st) σ Q := by
  intro l D ad cA p e s m args below meth c H locs ls X hl hP hD hS
  have kk := kk l D ad cA p e s m args below meth c H locs ls X hl hP hD hS
  obtain ⟨C, T, ty0, hc, hk, hw, hdecl, hty, hnm, hlink⟩ := F
  have hv : ((List.range N).map (fun k => pe_c ad (pe_av σ a k)))[k]? = some (pe_c ad (pe_av σ a k)) := by
    rw [List.getElem?_map, List.getElem?_range hk]; rfl
  exact va_get X.1 X.2.1 X.2.2.2.2.2.1 (fun w h => List.mem_cons_of_mem _ (hw w h)) X.2.2.2.2.2.2.1 X.2.2.2.2.2.2.2.1 hP a (pe_wd_at hs) hc k hk (X.2.2.2.2.2.1 _ (List.mem_cons_of_mem _ hlink)) (fun x h => by rw [hdecl] at h; exact h) hv hd kk
theorem pe_geti {a idx ci k N : Nat} (F : pe_FL y.1.cls idx ci k N) (hd : decode y.2.1 pc = .ok (.getfield idx, 3)) (hs : pe_sh[a]? = some (.inr (ci, N))) (hr : pe_rt a k = none) (kz : Int) (hkz : (k : Int) = kz) (kk : pe_G y (pc + 3) lv (.inl (σ a kz) :: st) σ Q) : pe_G y pc lv (.inr (.inl a) :: st) σ Q := by
  subst hkz
  refine pe_getv F hd hs ?_
  have : pe_av σ a k = .inl (σ a (k : Int)) := by unfold pe_av; rw [hr]
  rw [this]
  exact kk
theorem pe_getr {a j idx ci k N : Nat} (F : pe_FL y.1.cls idx ci k N) (hd : decode y.2.1 pc = .ok (.getfield idx, 3)) (hs : pe_sh[a]? = some (.inr (ci, N))) (hr : pe_rt a k = some j) (kk : pe_G y (pc + 3) lv (.inr (.inl j) :: st) σ Q) : pe_G y pc lv (.inr (.inl a) :: st) σ Q := by
  refine pe_getv F hd hs ?_
  have : pe_av σ a k = .inr (.inl j) := by unfold pe_av; rw [hr]
  rw [this]
  exact kk
theorem pe_put {a idx ci k N : Nat} {v : Int} {ty : FieldType} (F : pe_FL y.1.cls idx ci k N) (hf : pe_FP ci k ty) (hd : decode y.2.1 pc = .ok (.putfield idx, 3)) (hs : pe_sh[a]? = some (.inr (ci, N))) (hr : pe_rt a k = none) (hn : narrow ty (.int (Int32.ofInt v)) = .int (Int32.ofInt v)) (hfit : fits ty (.int (Int32.ofInt v)) = true) (kk : pe_G y (pc + 3) lv st (pe_up σ a (k : Int) v) Q) : pe_G y pc lv (.inl v :: .inr (.inl a) :: st) σ Q := by
  intro l D ad cA p e s m args below meth c H locs ls X hl hP hD hS
  obtain ⟨C, T, ty0, hc, hk, hw, hdecl, hty, hnm, hlink⟩ := F
  obtain ⟨C', T', N', hc', hfin, hdsc⟩ := hf
  have he := hc.symm.trans hc'
  cases he
  have hset : ((List.range N).map (fun k => pe_c ad (pe_av σ a k))).set k (.int (Int32.ofInt v)) = (List.range N).map (fun j => pe_c ad (pe_av (pe_up σ a (k : Int) v) a j)) := by
    apply List.ext_getElem?
    intro j
    rw [List.getElem?_set, List.getElem?_map, List.getElem?_map]
    by_cases hj : k = j
    · subst hj
      rw [if_pos rfl, if_pos (by simpa using hk), List.getElem?_range hk]
      show some _ = some (pe_c ad (pe_av (pe_up σ a (k : Int) v) a k))
      have : pe_av (pe_up σ a (k : Int) v) a k = .inl v := by unfold pe_av; rw [hr, pe_up_at, if_pos rfl]
      rw [this]
      rfl
    · rw [if_neg hj]
      by_cases hjN : j < N
      · rw [List.getElem?_range hjN]
        show some (pe_c ad (pe_av σ a j)) = some (pe_c ad (pe_av (pe_up σ a (k : Int) v) a j))
        have : pe_av (pe_up σ a (k : Int) v) a j = pe_av σ a j := by
          unfold pe_av
          cases pe_rt a j with
          | some r => rfl
          | none => show (Sum.inl _ : pe_V) = Sum.inl _; rw [pe_up_at, if_neg (by omega)]
        rw [this]
      · rw [List.getElem?_eq_none (by simpa using hjN)]
        rfl
  have hlen : k < ((List.range N).map (fun k => pe_c ad (pe_av σ a k))).length := by simpa using hk
  have hE : (Sum.inr (ci, ((List.range N).map (fun k => pe_c ad (pe_av σ a k))).set k (.int (Int32.ofInt v))) : va_E) = pe_en ad cA (pe_up σ a (k : Int) v) a (.inr (ci, N)) := by
    rw [hset]
    rfl
  refine va_put (v := .int (Int32.ofInt v)) X.1 X.2.1 X.2.2.2.2.2.1 (fun w h => List.mem_cons_of_mem _ (hw w h)) ty0 hty hnm X.2.2.2.2.2.2.1 X.2.2.2.2.2.2.2.1 hP hD hS a (pe_wd_at hs) hc k hk (X.2.2.2.2.2.1 _ (List.mem_cons_of_mem _ hlink)) (fun x h => by rw [hdecl] at h; exact h) hfin hdsc hn hfit hlen hd (fun H1 locs1 hP1 hD1 hS1 => ?_)
  rw [pe_wd_set (σ' := pe_up σ a (k : Int) v) hs (fun b hb => pe_up_ne hb) hE] at hP1 hD1
  exact kk l D ad cA p e s m args below meth c H1 locs1 ls X hl hP1 hD1 hS1
theorem pe_puti {a idx ci k N : Nat} {v : Int} (F : pe_FL y.1.cls idx ci k N) (hf : pe_FP ci k .int) (hd : decode y.2.1 pc = .ok (.putfield idx, 3)) (hs : pe_sh[a]? = some (.inr (ci, N))) (hr : pe_rt a k = none) (kz : Int) (hkz : (k : Int) = kz) (kk : pe_G y (pc + 3) lv st (pe_up σ a kz v) Q) : pe_G y pc lv (.inl v :: .inr (.inl a) :: st) σ Q := by
  subst hkz
  exact pe_put F hf hd hs hr rfl rfl kk
theorem pe_putz {a idx ci k N : Nat} {v : Int} (F : pe_FL y.1.cls idx ci k N) (hf : pe_FP ci k .boolean) (hd : decode y.2.1 pc = .ok (.putfield idx, 3)) (hs : pe_sh[a]? = some (.inr (ci, N))) (hr : pe_rt a k = none) (hv : v = 0 ∨ v = 1) (kz : Int) (hkz : (k : Int) = kz) (kk : pe_G y (pc + 3) lv st (pe_up σ a kz v) Q) : pe_G y pc lv (.inl v :: .inr (.inl a) :: st) σ Q := by
  subst hkz
  refine pe_put F hf hd hs hr ?_ ?_ kk
  · rcases hv with rfl | rfl <;> decide
  · rcases hv with rfl | rfl <;> decide
/-- ends -/
theorem pe_reti {z : Int} (hd : decode y.2.1 pc = .ok (.ireturn, 1)) (hr : y.2.2.2.1 = some .int) (hq : Q (some (.inl z)) σ) : pe_G y pc lv [.inl z] σ Q := by
  intro l D ad cA p e s m args below meth c H locs ls X hl hP hD hS
  exact W.iret X.1 X.2.1 (X.2.2.1.trans hr) (fun t ht hW => ⟨⟨some (.inl z), σ, rfl, hq, by rw [ht]; exact hP⟩, hS.F ht⟩) hS.2.2 hd X.2.2.2.1
theorem pe_retz {z : Int} (hd : decode y.2.1 pc = .ok (.ireturn, 1)) (hr : y.2.2.2.1 = some .boolean) (hz : z = 0 ∨ z = 1) (hq : Q (some (.inl z)) σ) : pe_G y pc lv [.inl z] σ Q := by
  intro l D ad cA p e s m args below meth c H locs ls X hl hP hD hS
  exact W.zret X.1 X.2.1 (X.2.2.1.trans hr) (by rcases hz with rfl | rfl <;> decide) (fun t ht hW => ⟨⟨some (.inl z), σ, rfl, hq, by rw [ht]; exact hP⟩, hS.F ht⟩) hS.2.2 hd X.2.2.2.1
theorem pe_retv (hd : decode y.2.1 pc = .ok (.return_, 1)) (hr : y.2.2.2.1 = none) (hq : Q none σ) : pe_G y pc lv [] σ Q := by
  intro l D ad cA p e s m args below meth c H locs ls X hl hP hD hS
  exact W.vret X.1 X.2.1 (X.2.2.1.trans hr) (fun t ht hW => ⟨⟨none, σ, rfl, hq, by rw [ht]; exact hP⟩, hS.F ht⟩) hS.2.2 hd X.2.2.2.1
end PE_OPS
end
section
section PE_CALLS
variable {y : pe_Y} {pc : Nat} {lv : pe_L} {st : List pe_V} {σ : pe_H} {Q : Option pe_V → pe_H → Prop}
theorem pe_after {p : Program} {l : Launch} {e : Env} {R : Room} {s : State} {m : MethodId} {args a : Array Value} {below : List Frame} {meth : Method} {c : Code} {H : Heap} {locs : List Loc} {QQ : State → Prop} {ls : Array Slot} {ad : Nat → Nat} {cA : FieldType → ClassId} {D : va_G} {Q1 : Option pe_V → pe_H → Prop} {st0 rest : List Value}
    (hr : va_Run p l e R s m args below meth c H locs 0 0 0 0 (F0 m pc ls st0) rest (pe_Qc D ad cA (pe_A ad H.size) Q1 a) (pe_A ad H.size)) (hS : va_S (pe_A ad s.heap.size) s.heap H locs)
    (kk : ∀ (r : Option pe_V) (σ' : pe_H) (H1 : Heap) (locs1 : List Loc), Q1 r σ' → va_P D vwCl (pe_wd ad cA σ') H1 → va_S (pe_A ad s.heap.size) s.heap H1 locs1 → W p l e R s m args below meth c H1 locs1 0 0 QQ (F0 m (pc + 3) ls ((r.map (pe_c ad)).toList ++ rest))) : W p l e R s m args below meth c H locs 0 0 QQ (F0 m pc ls st0) := by
  intro T hT X
  obtain ⟨v, st₀, t, T', L, h0, X', hL, e1, e2, ⟨⟨r, σ', hv, hq, hp⟩, hz, hk⟩, st⟩ := hr T hT X
  cases hv
  rw [h0] at hz hk
  obtain ⟨t2, a1, b1⟩ := kk r σ' T'.heap (locs ++ L) hq (by rw [e1]; exact hp) ⟨Nat.le_trans hS.1 (by rw [e1]; exact hz), fun q h1 h2 => by rw [e1, hk q (Nat.lt_of_lt_of_le h1 hS.1) (fun z => h2 (pe_A_le hS.1 z))]; exact hS.2.1 q h1 h2, fun q hq => by
      rcases List.mem_append.mp hq with h | h
      · exact hS.2.2 q h
      · exact pe_A_le hS.1 (hL q h)⟩ T' rfl X'
  exact ⟨t2, st t2 a1, b1⟩
theorem pe_toL {ad : Nat → Nat} (r : Option pe_V) (st : List pe_V) : (r.map (pe_c ad)).toList ++ st.map (pe_c ad) = (r.toList ++ st).map (pe_c ad) := by
  cases r <;> rfl
theorem pe_cats {ad : Nat → Nat} (st : List pe_V) : ((st.map (pe_c ad)).map fun v => v.category) = st.map pe_cat := by
  rw [List.map_map]
  exact List.map_congr_left (fun v _ => pe_cat_c ad v)
/-- the callee's start holds at the call -/
theorem pe_pre {s : State} {D : va_G} {ad : Nat → Nat} {cA : FieldType → ClassId} {H : Heap} {A : Nat → Prop} {av : List pe_V} (hK : va_K D vwCl (pe_ty cA) s) (hP : va_P D vwCl (pe_wd ad cA σ) H) (hD : va_D A (pe_wd ad cA σ)) :
    PreS s H (va_Pc (av.map (pe_c ad)) (fun U => U.heap.size = H.size ∧ va_P D vwCl (pe_wd ad cA σ) U.heap ∧ va_K D vwCl (pe_ty cA) U ∧ va_D (fun _ => True) (pe_wd ad cA σ))) (av.map (pe_c ad)) :=
  ⟨fun a U g mk q => by
      obtain ⟨q0, q1, qP, qK, qD⟩ := q
      exact ⟨q0, q1, qP, va_K.moved (u := U) (U := U.calling g mk a) (Vm.Alike.refl U.vm) qK, qD⟩,
   fun U hU hW => ⟨rfl, by rw [hU], by rw [hU]; exact hP, va_K.moved hW.alike hK, hD.weaken (fun _ _ _ _ => trivial)⟩⟩
theorem pe_callS {y' : pe_Y} {idx n : Nat} {av : List pe_V} {Q1 : Option pe_V → pe_H → Prop} (hM : pe_M y' av σ Q1) (hd : decode y.2.1 pc = .ok (.invokestatic idx, 3)) (hw : pe_CL y.1.cls idx y' n) (hst : Cond.static y'.1 ∈ pe_WS) (hn : av.length = n)
    (hf : y'.2.2.2.2.1 + 1 ≤ y.2.2.2.2.1) (hlo : 8 + (y'.2.2.1 + 11) + y'.2.2.2.2.2 ≤ y.2.2.2.2.2) (hcat : (st.map pe_cat).sum ≤ 8) (k : ∀ r σ', Q1 r σ' → pe_G y (pc + 3) lv (r.toList ++ st) σ' Q) : pe_G y pc lv (av.reverse ++ st) σ Q := by
  intro l D ad cA p e s m args below meth c H locs ls X hl hP hD hS
  obtain ⟨hlink, hcode, hini, hd1, hd2, hd3⟩ := hw
  have hX := X.2.2.2.2.2.1
  have hts : ∀ w ∈ pe_WS, w.before args s = true := fun w h => hX w (List.mem_cons_of_mem _ h)
  have hrest : ∀ g : JFrame, g.monitorRoom = 0 → 2 * g.monitorRoom + ((st.map (pe_c ad)).map fun v => v.category).sum ≤ 8 := fun g hg => by rw [hg, pe_cats]; omega
  have hstack : (F0 m pc ls ((av.reverse ++ st).map (pe_c ad))).stack = (av.map (pe_c ad)).reverse ++ st.map (pe_c ad) := by
    show (av.reverse ++ st).map (pe_c ad) = _
    rw [List.map_append, List.map_reverse]
  have hfix : CallFix p m c y.2.1 y.2.2.1 s args (pe_ws y) y.1.cls := ⟨X.1, X.2.1, X.2.2.2.2.1, X.2.2.2.2.2.2.1, hX⟩
  have go : va_Run p l e (headSpec (pe_ws y) (pe_rm y)).room s m args below meth c H locs 0 0 0 0 (F0 m pc ls ((av.reverse ++ st).map (pe_c ad))) (st.map (pe_c ad)) (pe_Qc D ad cA (pe_A ad H.size) Q1 (av.map (pe_c ad)).toArray) (pe_A ad H.size) := by
    exact va_runS hfix (hM l D ad cA H.size) ⟨callB_of n hX (pe_good hcode) rfl rfl rfl (hts _ hini) (hts _ hlink) ⟨hd1, hd2, hd3⟩ ⟨hf, hlo⟩, hts _ hst⟩ (pe_pre X.2.2.2.2.2.2.2.1 hP hD) rfl (by rw [List.length_map]; exact hn) hl.2.1 hstack (hrest _ rfl) hd ⟨Nat.zero_le _, Nat.zero_le _⟩
  refine pe_after go hS (fun r σ' H1 locs1 hq hP1 hS1 => ?_)
  rw [pe_toL]
  exact k r σ' hq l D ad cA p e s m args below meth c H1 locs1 ls X hl hP1 (pe_D hD σ') hS1
theorem pe_callV {y' : pe_Y} {idx n b ci N : Nat} {av : List pe_V} {C : String} {T : u_T} {Q1 : Option pe_V → pe_H → Prop} (hM : pe_M y' (.inr (.inl b) :: av) σ Q1) (hd : decode y.2.1 pc = .ok (.invokevirtual idx, 3)) (hw : pe_CL y.1.cls idx y' n) (hin : Cond.instanceMethod y'.1 ∈ pe_WS) (hsel : Cond.selects C y'.1 y'.1 ∈ pe_WS) (hs : pe_sh[b]? = some (.inr (ci, N))) (hc : vwCl[ci]? = some (C, T, N)) (hn : av.length = n)
    (hf : y'.2.2.2.2.1 + 1 ≤ y.2.2.2.2.1) (hlo : 8 + (y'.2.2.1 + 11) + y'.2.2.2.2.2 ≤ y.2.2.2.2.2) (hcat : (st.map pe_cat).sum ≤ 8) (k : ∀ r σ', Q1 r σ' → pe_G y (pc + 3) lv (r.toList ++ st) σ' Q) : pe_G y pc lv (av.reverse ++ .inr (.inl b) :: st) σ Q := by
  intro l D ad cA p e s m args below meth c H locs ls X hl hP hD hS
  obtain ⟨hlink, hcode, hini, hd1, hd2, hd3⟩ := hw
  have hX := X.2.2.2.2.2.1
  have hts : ∀ w ∈ pe_WS, w.before args s = true := fun w h => hX w (List.mem_cons_of_mem _ h)
  have hrest : ∀ g : JFrame, g.monitorRoom = 0 → 2 * g.monitorRoom + ((st.map (pe_c ad)).map fun v => v.category).sum ≤ 8 := fun g hg => by rw [hg, pe_cats]; omega
  have hstack : (F0 m pc ls ((av.reverse ++ .inr (.inl b) :: st).map (pe_c ad))).stack = (av.map (pe_c ad)).reverse ++ .ref (ad b) :: st.map (pe_c ad) := by
    show (av.reverse ++ .inr (.inl b) :: st).map (pe_c ad) = _
    rw [List.map_append, List.map_reverse]
    rfl
  have hfix : CallFix p m c y.2.1 y.2.2.1 s args (pe_ws y) y.1.cls := ⟨X.1, X.2.1, X.2.2.2.2.1, X.2.2.2.2.2.2.1, hX⟩
  have hK := X.2.2.2.2.2.2.2.1
  have hcell : ∃ cellB : Cell, H[ad b]? = some cellB ∧ cellB.vm.isStatics = false ∧ s.vm.findClass C = some cellB.cls := va_recv hK hP hc (pe_wd_at hs)
  have hpre := pe_pre (av := .inr (.inl b) :: av) hK hP hD
  have go : va_Run p l e (headSpec (pe_ws y) (pe_rm y)).room s m args below meth c H locs 0 0 0 0 (F0 m pc ls ((av.reverse ++ .inr (.inl b) :: st).map (pe_c ad))) (st.map (pe_c ad)) (pe_Qc D ad cA (pe_A ad H.size) Q1 (Value.ref (ad b) :: av.map (pe_c ad)).toArray) (pe_A ad H.size) := by
    exact va_runV hfix (hM l D ad cA H.size) ⟨callB_of n hX (pe_good hcode) rfl rfl rfl (hts _ hini) (hts _ hlink) ⟨hd1, hd2, hd3⟩ ⟨hf, hlo⟩, hts _ hin, hts _ hsel⟩ ⟨hpre.1, hcell, hpre.2⟩ rfl (by rw [List.length_map]; exact hn) hl.2.1 hstack (hrest _ rfl) hd ⟨Nat.zero_le _, Nat.zero_le _⟩
  refine pe_after go hS (fun r σ' H1 locs1 hq hP1 hS1 => ?_)
  rw [pe_toL]
  exact k r σ' hq l D ad cA p e s m args below meth c H1 locs1 ls X hl hP1 (pe_D hD σ') hS1
end PE_CALLS
end
section
section PE_MORE
variable {y : pe_Y} {pc : Nat} {lv : pe_L} {st : List pe_V} {σ : pe_H} {Q : Option pe_V → pe_H → Prop}
/-- an operand is any int with the same bits -/
theorem pe_any {v : Int} (k : ∀ z : Int, pe_R z → pe_G y pc lv (.inl z :: st) σ Q) : pe_G y pc lv (.inl v :: st) σ Q := by
  intro l D ad cA p e s m args below meth c H locs ls X hl hP hD hS
  have hz : pe_R (Int32.ofInt v).toInt := ⟨by have := Int32.le_toInt (Int32.ofInt v); omega, by have := Int32.toInt_lt (Int32.ofInt v); omega⟩
  have k := k _ hz l D ad cA p e s m args below meth c H locs ls X hl hP hD hS
  refine W.eq ?_ k
  show F0 m pc ls (Value.int (Int32.ofInt v) :: _) = F0 m pc ls (Value.int (Int32.ofInt (Int32.ofInt v).toInt) :: _)
  rw [Int32.ofInt_toInt]
/-- switches -/
def pe_sw (a : Int) (G : Nat → Prop) (d : Nat) : List (Int × Nat) → Prop
  | [] => G d
  | (k, t) :: r => (a = k → G t) ∧ (¬ a = k → pe_sw a G d r)
theorem pe_sw_off {pc : Nat} {a : Int} {d : Int} {dt : Nat} {G : Nat → Prop} (hdt : (pc : Int) + d = (dt : Int)) : ∀ (ps : List (Int × Int)) (tb : List (Int × Nat)), ps.map (fun q => (q.1, (pc : Int) + q.2)) = tb.map (fun q => (q.1, (q.2 : Int))) → pe_sw a G dt tb → ∃ tgt : Nat, (pc : Int) + Op.lookupswitch.offset ps d a = (tgt : Int) ∧ G tgt
  | [], tb, h, hs => by
    cases tb with
    | nil => exact ⟨dt, hdt, hs⟩
    | cons q r => cases h
  | (k, o) :: ps, tb, h, hs => by
    cases tb with
    | nil => cases h
    | cons q r =>
      obtain ⟨k', t⟩ := q
      simp only [List.map_cons, List.cons.injEq, Prod.mk.injEq] at h
      obtain ⟨⟨hk, ht⟩, hr⟩ := h
      subst hk
      rw [Op.lookupswitch.offset_cons]
      by_cases e : a = k
      · rw [if_pos e.symm]
        exact ⟨t, ht, hs.1 e⟩
      · rw [if_neg (fun q => e q.symm)]
        exact pe_sw_off hdt ps r hr (hs.2 e)
theorem pe_lsw {a d : Int} {ps : Array (Int × Int)} {n dt : Nat} (tb : List (Int × Nat)) (hd : decode y.2.1 pc = .ok (.lookupswitch d ps, n)) (ha : pe_R a) (k : pe_sw a (fun t => pe_G y t lv st σ Q) dt tb) (hp : (ps.toList.zip (ps.toList.drop 1)).all (fun (a, next) => a.1 < next.1) = true := by decide) (hdt : (pc : Int) + d = (dt : Int) := by decide) (htb : ps.toList.map (fun q => (q.1, (pc : Int) + q.2)) = tb.map (fun q => (q.1, (q.2 : Int))) := by decide) : pe_G y pc lv (.inl a :: st) σ Q := by
  intro l D ad cA p e s m args below meth c H locs ls X hl hP hD hS
  obtain ⟨tgt, h1, h2⟩ := pe_sw_off hdt ps.toList tb htb k
  exact lv_lookup X.1 X.2.1 hd hp (by rw [pe_toInt ha]) h1 (h2 l D ad cA p e s m args below meth c H locs ls X hl hP hD hS)
theorem pe_sw_at {a : Int} {G : Nat → Prop} {d : Nat} : ∀ (tb : List (Int × Nat)) (i : Nat) (t : Nat), tb[i]? = some (a, t) → (∀ j : Nat, j < i → ∀ q, tb[j]? = some q → ¬ a = q.1) → pe_sw a G d tb → G t
  | [], i, t, h, _, _ => by simp at h
  | (k, u) :: r, 0, t, h, _, hs => by
    have e : k = a ∧ u = t := by simpa using h
    rw [← e.2]
    exact hs.1 e.1.symm
  | (k, u) :: r, i + 1, t, h, hj, hs => pe_sw_at r i t (by simpa using h) (fun j hji q hq => hj (j + 1) (by omega) q (by simpa using hq)) (hs.2 (hj 0 (by omega) (k, u) rfl))
theorem pe_sw_no {a : Int} {G : Nat → Prop} {d : Nat} : ∀ (tb : List (Int × Nat)), (∀ q ∈ tb, ¬ a = q.1) → pe_sw a G d tb → G d
  | [], _, hs => hs
  | (k, u) :: r, h, hs => pe_sw_no r (fun q hq => h q (List.mem_cons_of_mem _ hq)) (hs.2 (h (k, u) List.mem_cons_self))
theorem pe_tsw {a d lo hi : Int} {offs : Array Int} {n dt : Nat} (tb : List (Int × Nat)) (hd : decode y.2.1 pc = .ok (.tableswitch d lo hi offs, n)) (ha : pe_R a) (k : pe_sw a (fun t => pe_G y t lv st σ Q) dt tb) (hdt : (pc : Int) + d = (dt : Int) := by decide) (hk : tb.map (fun q => q.1) = (List.range tb.length).map (fun j : Nat => lo + (j : Int)) := by decide) (hn : lo + (tb.length : Int) = hi + 1 := by decide) (ht : tb.map (fun q => (q.2 : Int)) = offs.toList.map (fun o => (pc : Int) + o) := by decide) : pe_G y pc lv (.inl a :: st) σ Q := by
  intro l D ad cA p e s m args below meth c H locs ls X hl hP hD hS
  have key : ∀ (j : Nat) (q : Int × Nat), tb[j]? = some q → q.1 = lo + (j : Int) := by
    intro j q hq
    have h1 : (tb.map (fun q => q.1))[j]? = some q.1 := by rw [List.getElem?_map, hq]; rfl
    rw [hk, List.getElem?_map] at h1
    have hj : j < tb.length := (List.getElem?_eq_some_iff.mp hq).1
    rw [List.getElem?_range hj] at h1
    exact (Option.some.inj h1).symm
  by_cases h : a < lo ∨ hi < a
  · refine lv_tableOut X.1 X.2.1 hd (by rw [pe_toInt ha]; exact h) hdt (pe_sw_no tb (fun q hq e => ?_) k l D ad cA p e s m args below meth c H locs ls X hl hP hD hS)
    obtain ⟨j, hj⟩ := List.getElem?_of_mem hq
    have h1 := key j q hj
    have h2 : j < tb.length := (List.getElem?_eq_some_iff.mp hj).1
    omega
  · have hj : (a - lo).toNat < tb.length := by omega
    rcases hq : tb[(a - lo).toNat]'hj with ⟨k1, t1⟩
    have hq2 : tb[(a - lo).toNat]? = some (k1, t1) := by rw [List.getElem?_eq_getElem hj, hq]
    have h1 := key _ _ hq2
    have hk1 : k1 = a := by
      have : k1 = lo + ((a - lo).toNat : Int) := h1
      omega
    subst hk1
    have ho : ∃ off, offs[(k1 - lo).toNat]? = some off ∧ (pc : Int) + off = (t1 : Int) := by
      have h3 : (tb.map (fun q => (q.2 : Int)))[(k1 - lo).toNat]? = some (t1 : Int) := by rw [List.getElem?_map, hq2]; rfl
      rw [ht, List.getElem?_map] at h3
      cases h4 : offs.toList[(k1 - lo).toNat]? with
      | none => rw [h4] at h3; cases h3
      | some off =>
        rw [h4] at h3
        exact ⟨off, by simpa using h4, Option.some.inj h3⟩
    obtain ⟨off, ho1, ho2⟩ := ho
    refine lv_tableIn X.1 X.2.1 hd (by rw [pe_toInt ha]; omega) (by rw [pe_toInt ha]; omega) (by rw [pe_toInt ha]; exact ho1) ho2 (pe_sw_at tb _ t1 hq2 (fun j hj2 q hq3 e => ?_) k l D ad cA p e s m args below meth c H locs ls X hl hP hD hS)
    have h5 := key j q hq3
    omega
/-- the library's -/
theorem pe_max {a b : Int} {idx : Nat} (hw : Cond.methodLink y.1.cls idx Lib.Math.max.name ∈ pe_WS) (hst : Cond.static Lib.Math.max.name ∈ pe_WS) (hini : Cond.initialized "java/lang/Math" ∈ pe_WS) (hco : Cond.code Lib.Math.max.name Lib.Math.max.code 2 (some .int) ∈ pe_WS) (hd : decode y.2.1 pc = .ok (.invokestatic idx, 3)) (ha : pe_R a) (hb : pe_R b) (hf : 1 ≤ y.2.2.2.2.1) (hlo : (st.map pe_cat).sum + 13 ≤ y.2.2.2.2.2) (k : pe_G y (pc + 3) lv (.inl (if a < b then b else a) :: st) σ Q) : pe_G y pc lv (.inl b :: .inl a :: st) σ Q := by
  intro l D ad cA p e s m args below meth c H locs ls X hl hP hD hS
  have k := k l D ad cA p e s m args below meth c H locs ls X hl hP hD hS
  have hX : ∀ w ∈ pe_WS, w.before args s = true := fun w h => X.2.2.2.2.2.1 w (List.mem_cons_of_mem _ h)
  refine va_mmax X.1 X.2.1 (X.2.2.2.2.1.trans hl.2.1.symm) X.2.2.2.2.2.2.1 (hX _ hw) (hX _ hst) (hX _ hini) (hX _ hco) hf (by rw [pe_cats]; exact hlo) (Nat.zero_le _) (Nat.zero_le _) hd (pe_top k ?_)
  show Value.int (if Int32.ofInt a < Int32.ofInt b then Int32.ofInt b else Int32.ofInt a) = Value.int (Int32.ofInt (if a < b then b else a))
  by_cases h : a < b
  · rw [if_pos h, if_pos ((pe_lt ha hb).mpr h)]
  · rw [if_neg h, if_neg (fun q => h ((pe_lt ha hb).mp q))]
theorem pe_min {a b : Int} {idx : Nat} (hw : Cond.methodLink y.1.cls idx Lib.Math.min.name ∈ pe_WS) (hst : Cond.static Lib.Math.min.name ∈ pe_WS) (hini : Cond.initialized "java/lang/Math" ∈ pe_WS) (hco : Cond.code Lib.Math.min.name Lib.Math.min.code 2 (some .int) ∈ pe_WS) (hd : decode y.2.1 pc = .ok (.invokestatic idx, 3)) (ha : pe_R a) (hb : pe_R b) (hf : 1 ≤ y.2.2.2.2.1) (hlo : (st.map pe_cat).sum + 13 ≤ y.2.2.2.2.2) (k : pe_G y (pc + 3) lv (.inl (if b < a then b else a) :: st) σ Q) : pe_G y pc lv (.inl b :: .inl a :: st) σ Q := by
  intro l D ad cA p e s m args below meth c H locs ls X hl hP hD hS
  have k := k l D ad cA p e s m args below meth c H locs ls X hl hP hD hS
  have hX : ∀ w ∈ pe_WS, w.before args s = true := fun w h => X.2.2.2.2.2.1 w (List.mem_cons_of_mem _ h)
  refine va_mmin X.1 X.2.1 (X.2.2.2.2.1.trans hl.2.1.symm) X.2.2.2.2.2.2.1 (hX _ hw) (hX _ hst) (hX _ hini) (hX _ hco) hf (by rw [pe_cats]; exact hlo) (Nat.zero_le _) (Nat.zero_le _) hd (pe_top k ?_)
  show Value.int (if Int32.ofInt b < Int32.ofInt a then Int32.ofInt b else Int32.ofInt a) = Value.int (Int32.ofInt (if b < a then b else a))
  by_cases h : b < a
  · rw [if_pos h, if_pos ((pe_lt hb ha).mpr h)]
  · rw [if_neg h, if_neg (fun q => h ((pe_lt hb ha).mp q))]
def pe_cp (σ : pe_H) (a0 : Nat) (sp : Int) (a : Nat) (dp n : Int) : pe_H := fun b j => if b = a ∧ dp ≤ j ∧ j < dp + n then σ a0 (sp + (j - dp)) else σ b j
theorem pe_acopy {a0 a n0 n1 idx : Nat} {sp dp n : Int} (hw : Cond.methodLink y.1.cls idx arraycopyName ∈ pe_WS) (hna : Cond.native arraycopyName ∈ pe_WS) (hst : Cond.static arraycopyName ∈ pe_WS) (hini : Cond.initialized "java/lang/System" ∈ pe_WS) (hd : decode y.2.1 pc = .ok (.invokestatic idx, 3)) (hs0 : pe_sh[a0]? = some (.inl (.int, n0))) (hs1 : pe_sh[a]? = some (.inl (.int, n1))) (h1 : 0 ≤ sp) (h2 : 0 ≤ dp) (h3 : 0 ≤ n) (h4 : sp + n ≤ n0) (h5 : dp + n ≤ n1) (hf : 1 ≤ y.2.2.2.2.1) (hlo : (st.map pe_cat).sum + (nativeFrameWords "java/lang/System" "arraycopy" 5 + 11) ≤ y.2.2.2.2.2) (k : pe_G y (pc + 3) lv st (pe_cp σ a0 sp a dp n) Q) (hn0 : n0 < 2147483648 := by decide) (hn1 : n1 < 2147483648 := by decide) : pe_G y pc lv (.inl n :: .inl dp :: .inr (.inl a) :: .inl sp :: .inr (.inl a0) :: st) σ Q := by
  intro l D ad cA p e s m args below meth c H locs ls X hl hP hD hS
  have hX : ∀ w ∈ pe_WS, w.before args s = true := fun w h => X.2.2.2.2.2.1 w (List.mem_cons_of_mem _ h)
  have nl : ∀ z : Int, 0 ≤ z → z < 2147483648 → ¬ Int32.ofInt z < 0 := fun z q1 q2 q => by
    have := (pe_lt (a := z) (b := 0) ⟨by omega, by omega⟩ pe_R0).mp q
    omega
  have cs := pe_clamp h1 (by omega)
  have cd := pe_clamp h2 (by omega)
  have cn := pe_clamp h3 (by omega)
  refine va_copyi X.1 X.2.1 (X.2.2.2.2.1.trans hl.2.1.symm) X.2.2.2.2.2.2.1 (hX _ hw) (hX _ hna) (hX _ hst) (hX _ hini) X.2.2.2.2.2.2.2.1 hP hD hS a0 a 0 0 (pe_wd_at hs0) (pe_wd_at hs1) rfl rfl rfl (nl sp h1 (by omega)) (nl dp h2 (by omega)) (nl n h3 (by omega)) (by rw [cs, cn]; omega) (by rw [cd, cn]; omega) (fun _ _ => rfl) hf (by rw [pe_cats]; exact hlo) hd (fun H1 locs1 hP1 hD1 hS1 => ?_)
  have hE : (Sum.inl (cA .int, n1, Sum.inl (va_cpy (fun j : Nat => Int32.ofInt (σ a0 (j : Int))) (fun j : Nat => Int32.ofInt (σ a (j : Int))) (Int32.ofInt sp).toNatClampNeg (Int32.ofInt dp).toNatClampNeg (Int32.ofInt n).toNatClampNeg)) : va_E) = pe_en ad cA (pe_cp σ a0 sp a dp n) a (.inl (.int, n1)) := by
    have h6 : va_cpy (fun j : Nat => Int32.ofInt (σ a0 (j : Int))) (fun j : Nat => Int32.ofInt (σ a (j : Int))) (Int32.ofInt sp).toNatClampNeg (Int32.ofInt dp).toNatClampNeg (Int32.ofInt n).toNatClampNeg = fun j : Nat => Int32.ofInt (pe_cp σ a0 sp a dp n a (j : Int)) := by
      funext j
      rw [cs, cd, cn]
      unfold va_cpy pe_cp
      by_cases hj : dp ≤ (j : Int) ∧ (j : Int) < dp + n
      · rw [if_pos (by omega), if_pos ⟨rfl, hj⟩]
        show Int32.ofInt (σ a0 ((sp.toNat + (j - dp.toNat) : Nat) : Int)) = Int32.ofInt (σ a0 (sp + ((j : Int) - dp)))
        have h7 : ((sp.toNat + (j - dp.toNat) : Nat) : Int) = sp + ((j : Int) - dp) := by omega
        rw [h7]
      · rw [if_neg (by omega), if_neg (fun q => hj q.2)]
    rw [h6]
    rfl
  rw [pe_wd_set (σ' := pe_cp σ a0 sp a dp n) hs1 (fun b hb => by funext j; unfold pe_cp; rw [if_neg (fun q => hb q.1)]) hE] at hP1 hD1
  exact k l D ad cA p e s m args below meth c H1 locs1 ls X hl hP1 hD1 hS1
end PE_MORE
end
section
/-! methods, by program: a name, code, locals, result, frames, words -/
abbrev m_P_type : pe_Y := (⟨"PaintEditor", "type", "(JI)I"⟩, prog_1_method_2_code, 6, (Option.some FieldType.int), 7, 161)
abbrev m_P_tick : pe_Y := (⟨"PaintEditor", "tick", "()I"⟩, prog_1_method_3_code, 1, (Option.some FieldType.int), 7, 161)
abbrev m_P_size : pe_Y := (⟨"PaintEditor", "size", "(II)Z"⟩, prog_1_method_4_code, 3, (Option.some FieldType.boolean), 5, 114)
abbrev m_P_draw : pe_Y := (⟨"PaintEditor", "draw", "()I"⟩, prog_1_method_5_code, 2, (Option.some FieldType.int), 7, 165)
abbrev m_P_text : pe_Y := (⟨"PaintEditor", "text", "(I)I"⟩, prog_1_method_6_code, 2, (Option.some FieldType.int), 1, 21)
abbrev m_P_state : pe_Y := (⟨"PaintEditor", "state", "(I)I"⟩, prog_1_method_7_code, 2, (Option.some FieldType.int), 0, 0)
abbrev m_P_cell : pe_Y := (⟨"PaintEditor", "cell", "(II)I"⟩, prog_1_method_8_code, 3, (Option.some FieldType.int), 2, 44)
abbrev m_P_look : pe_Y := (⟨"PaintEditor", "look", "(II)I"⟩, prog_1_method_9_code, 3, (Option.some FieldType.int), 2, 44)
abbrev m_P_terminal : pe_Y := (⟨"PaintEditor", "terminal", "(I)I"⟩, prog_1_method_10_code, 3, (Option.some FieldType.int), 0, 0)
abbrev m_P_sent : pe_Y := (⟨"PaintEditor", "sent", "(I)I"⟩, prog_1_method_11_code, 2, (Option.some FieldType.int), 1, 21)
abbrev m_M_isMark : pe_Y := (⟨"PaintEditorModel", "isMark", "(I)Z"⟩, prog_13_method_2_code, 1, (Option.some FieldType.boolean), 0, 0)
abbrev m_M_isWide : pe_Y := (⟨"PaintEditorModel", "isWide", "(I)Z"⟩, prog_13_method_3_code, 1, (Option.some FieldType.boolean), 0, 0)
abbrev m_M_begins : pe_Y := (⟨"PaintEditorModel", "begins", "(I)Z"⟩, prog_13_method_4_code, 3, (Option.some FieldType.boolean), 1, 20)
abbrev m_M_after : pe_Y := (⟨"PaintEditorModel", "after", "(I)I"⟩, prog_13_method_5_code, 3, (Option.some FieldType.int), 2, 42)
abbrev m_M_before : pe_Y := (⟨"PaintEditorModel", "before", "(I)I"⟩, prog_13_method_6_code, 3, (Option.some FieldType.int), 2, 42)
abbrev m_M_widthOf : pe_Y := (⟨"PaintEditorModel", "widthOf", "(II)I"⟩, prog_13_method_7_code, 3, (Option.some FieldType.int), 1, 20)
abbrev m_M_layOut : pe_Y := (⟨"PaintEditorModel", "layOut", "()V"⟩, prog_13_method_8_code, 6, (Option.none : Option FieldType), 3, 64)
abbrev m_M_isSmall : pe_Y := (⟨"PaintEditorModel", "isSmall", "()Z"⟩, prog_13_method_9_code, 1, (Option.some FieldType.boolean), 0, 0)
abbrev m_M_forgetFirst : pe_Y := (⟨"PaintEditorModel", "forgetFirst", "()V"⟩, prog_13_method_10_code, 2, (Option.none : Option FieldType), 0, 0)
abbrev m_M_open : pe_Y := (⟨"PaintEditorModel", "open", "(II)V"⟩, prog_13_method_11_code, 4, (Option.none : Option FieldType), 0, 0)
abbrev m_M_close : pe_Y := (⟨"PaintEditorModel", "close", "(II)V"⟩, prog_13_method_12_code, 4, (Option.none : Option FieldType), 0, 0)
abbrev m_M_note : pe_Y := (⟨"PaintEditorModel", "note", "(III)V"⟩, prog_13_method_13_code, 5, (Option.none : Option FieldType), 1, 21)
abbrev m_M_settle : pe_Y := (⟨"PaintEditorModel", "settle", "(I)V"⟩, prog_13_method_14_code, 2, (Option.none : Option FieldType), 2, 42)
abbrev m_M_insertOne : pe_Y := (⟨"PaintEditorModel", "insertOne", "(I)V"⟩, prog_13_method_15_code, 2, (Option.none : Option FieldType), 3, 63)
abbrev m_M_insertClip : pe_Y := (⟨"PaintEditorModel", "insertClip", "()V"⟩, prog_13_method_16_code, 2, (Option.none : Option FieldType), 3, 63)
abbrev m_M_takeAway : pe_Y := (⟨"PaintEditorModel", "takeAway", "(II)V"⟩, prog_13_method_17_code, 3, (Option.none : Option FieldType), 3, 63)
abbrev m_M_cutOut : pe_Y := (⟨"PaintEditorModel", "cutOut", "()V"⟩, prog_13_method_18_code, 4, (Option.none : Option FieldType), 4, 85)
abbrev m_M_undo : pe_Y := (⟨"PaintEditorModel", "undo", "()V"⟩, prog_13_method_19_code, 3, (Option.none : Option FieldType), 3, 63)
abbrev m_M_character : pe_Y := (⟨"PaintEditorModel", "character", "(I)V"⟩, prog_13_method_20_code, 2, (Option.none : Option FieldType), 4, 84)
abbrev m_M_control : pe_Y := (⟨"PaintEditorModel", "control", "(II)V"⟩, prog_13_method_21_code, 3, (Option.none : Option FieldType), 6, 129)
abbrev m_M_command : pe_Y := (⟨"PaintEditorModel", "command", "(I)V"⟩, prog_13_method_22_code, 2, (Option.none : Option FieldType), 5, 108)
abbrev m_M_escapeKey : pe_Y := (⟨"PaintEditorModel", "escapeKey", "()V"⟩, prog_13_method_23_code, 1, (Option.none : Option FieldType), 0, 0)
abbrev m_M_upOrDown : pe_Y := (⟨"PaintEditorModel", "upOrDown", "(I)V"⟩, prog_13_method_24_code, 6, (Option.none : Option FieldType), 4, 89)
abbrev m_M_lineBegin : pe_Y := (⟨"PaintEditorModel", "lineBegin", "()I"⟩, prog_13_method_25_code, 2, (Option.some FieldType.int), 0, 0)
abbrev m_M_lineEnd : pe_Y := (⟨"PaintEditorModel", "lineEnd", "()I"⟩, prog_13_method_26_code, 2, (Option.some FieldType.int), 0, 0)
abbrev m_M_finish : pe_Y := (⟨"PaintEditorModel", "finish", "(I)V"⟩, prog_13_method_27_code, 4, (Option.none : Option FieldType), 5, 114)
abbrev m_M_plain : pe_Y := (⟨"PaintEditorModel", "plain", "(II)V"⟩, prog_13_method_28_code, 3, (Option.none : Option FieldType), 7, 151)
abbrev m_M_within : pe_Y := (⟨"PaintEditorModel", "within", "(II)V"⟩, prog_13_method_29_code, 3, (Option.none : Option FieldType), 8, 173)
abbrev m_M_inSequence : pe_Y := (⟨"PaintEditorModel", "inSequence", "(II)V"⟩, prog_13_method_30_code, 3, (Option.none : Option FieldType), 8, 173)
abbrev m_M_take : pe_Y := (⟨"PaintEditorModel", "take", "(I)V"⟩, prog_13_method_31_code, 3, (Option.none : Option FieldType), 9, 195)
abbrev m_M_type : pe_Y := (⟨"PaintEditorModel", "type", "(JI)I"⟩, prog_13_method_32_code, 5, (Option.some FieldType.int), 10, 217)
abbrev m_M_tick : pe_Y := (⟨"PaintEditorModel", "tick", "()I"⟩, prog_13_method_33_code, 1, (Option.some FieldType.int), 5, 105)
abbrev m_M_clusterAt : pe_Y := (⟨"PaintEditorModel", "clusterAt", "(I)I"⟩, prog_13_method_34_code, 4, (Option.some FieldType.int), 3, 64)
abbrev m_M_fillText : pe_Y := (⟨"PaintEditorModel", "fillText", "()V"⟩, prog_13_method_35_code, 9, (Option.none : Option FieldType), 4, 87)
abbrev m_M_status : pe_Y := (⟨"PaintEditorModel", "status", "(II)I"⟩, prog_13_method_36_code, 3, (Option.some FieldType.int), 0, 0)
abbrev m_M_statusNumber : pe_Y := (⟨"PaintEditorModel", "statusNumber", "(II)I"⟩, prog_13_method_37_code, 5, (Option.some FieldType.int), 1, 22)
abbrev m_M_fillStatus : pe_Y := (⟨"PaintEditorModel", "fillStatus", "()V"⟩, prog_13_method_38_code, 4, (Option.none : Option FieldType), 2, 46)
abbrev m_M_compose : pe_Y := (⟨"PaintEditorModel", "compose", "()V"⟩, prog_13_method_39_code, 2, (Option.none : Option FieldType), 5, 115)
abbrev m_M_put : pe_Y := (⟨"PaintEditorModel", "put", "(I)V"⟩, prog_13_method_40_code, 2, (Option.none : Option FieldType), 0, 0)
abbrev m_M_putNumber : pe_Y := (⟨"PaintEditorModel", "putNumber", "(I)V"⟩, prog_13_method_41_code, 2, (Option.none : Option FieldType), 1, 21)
abbrev m_M_putBegin : pe_Y := (⟨"PaintEditorModel", "putBegin", "()V"⟩, prog_13_method_42_code, 1, (Option.none : Option FieldType), 1, 21)
abbrev m_M_blankHalf : pe_Y := (⟨"PaintEditorModel", "blankHalf", "(I)V"⟩, prog_13_method_43_code, 2, (Option.none : Option FieldType), 1, 20)
abbrev m_M_putCode : pe_Y := (⟨"PaintEditorModel", "putCode", "(I)V"⟩, prog_13_method_44_code, 2, (Option.none : Option FieldType), 1, 21)
abbrev m_M_write : pe_Y := (⟨"PaintEditorModel", "write", "(I)V"⟩, prog_13_method_45_code, 4, (Option.none : Option FieldType), 2, 42)
abbrev m_M_sendPlace : pe_Y := (⟨"PaintEditorModel", "sendPlace", "(II)V"⟩, prog_13_method_46_code, 3, (Option.none : Option FieldType), 2, 42)
abbrev m_M_go : pe_Y := (⟨"PaintEditorModel", "go", "(IIZ)V"⟩, prog_13_method_47_code, 5, (Option.none : Option FieldType), 3, 64)
abbrev m_M_setLook : pe_Y := (⟨"PaintEditorModel", "setLook", "(I)V"⟩, prog_13_method_48_code, 2, (Option.none : Option FieldType), 2, 41)
abbrev m_M_sendCluster : pe_Y := (⟨"PaintEditorModel", "sendCluster", "(II)V"⟩, prog_13_method_49_code, 8, (Option.none : Option FieldType), 4, 88)
abbrev m_M_sendClusters : pe_Y := (⟨"PaintEditorModel", "sendClusters", "(III)V"⟩, prog_13_method_50_code, 5, (Option.none : Option FieldType), 5, 115)
abbrev m_M_differs : pe_Y := (⟨"PaintEditorModel", "differs", "(I)Z"⟩, prog_13_method_51_code, 2, (Option.some FieldType.boolean), 0, 0)
abbrev m_M_drawRow : pe_Y := (⟨"PaintEditorModel", "drawRow", "(I)V"⟩, prog_13_method_52_code, 8, (Option.none : Option FieldType), 6, 139)
abbrev m_M_draw : pe_Y := (⟨"PaintEditorModel", "draw", "()I"⟩, prog_13_method_53_code, 2, (Option.some FieldType.int), 7, 166)
abbrev m_M_size : pe_Y := (⟨"PaintEditorModel", "size", "(II)Z"⟩, prog_13_method_54_code, 9, (Option.some FieldType.boolean), 1, 20)
abbrev m_M_text : pe_Y := (⟨"PaintEditorModel", "text", "(I)I"⟩, prog_13_method_55_code, 2, (Option.some FieldType.int), 0, 0)
abbrev m_M_state : pe_Y := (⟨"PaintEditorModel", "state", "(I)I"⟩, prog_13_method_56_code, 2, (Option.some FieldType.int), 0, 0)
abbrev m_M_isCell : pe_Y := (⟨"PaintEditorModel", "isCell", "(II)Z"⟩, prog_13_method_57_code, 3, (Option.some FieldType.boolean), 0, 0)
abbrev m_M_cell : pe_Y := (⟨"PaintEditorModel", "cell", "(II)I"⟩, prog_13_method_58_code, 3, (Option.some FieldType.int), 1, 22)
abbrev m_M_look : pe_Y := (⟨"PaintEditorModel", "look", "(II)I"⟩, prog_13_method_59_code, 3, (Option.some FieldType.int), 1, 22)
abbrev m_M_terminal : pe_Y := (⟨"PaintEditorModel", "terminal", "(I)I"⟩, prog_13_method_60_code, 2, (Option.some FieldType.int), 0, 0)
abbrev m_M_sent : pe_Y := (⟨"PaintEditorModel", "sent", "(I)I"⟩, prog_13_method_61_code, 2, (Option.some FieldType.int), 0, 0)
abbrev m_C_isMark : pe_Y := (⟨"PaintEditor$Codes", "isMark", "(I)Z"⟩, prog_2_method_2_code, 1, (Option.some FieldType.boolean), 0, 0)
abbrev m_C_takesMarks : pe_Y := (⟨"PaintEditor$Codes", "takesMarks", "(I)Z"⟩, prog_2_method_3_code, 1, (Option.some FieldType.boolean), 1, 20)
abbrev m_C_isWide : pe_Y := (⟨"PaintEditor$Codes", "isWide", "(I)Z"⟩, prog_2_method_4_code, 1, (Option.some FieldType.boolean), 0, 0)
abbrev m_C_widthOf : pe_Y := (⟨"PaintEditor$Codes", "widthOf", "(I)I"⟩, prog_2_method_5_code, 1, (Option.some FieldType.int), 1, 20)
abbrev m_C_characterOf : pe_Y := (⟨"PaintEditor$Codes", "characterOf", "(I)I"⟩, prog_2_method_6_code, 1, (Option.some FieldType.int), 0, 0)
abbrev m_C_firstMarkOf : pe_Y := (⟨"PaintEditor$Codes", "firstMarkOf", "(I)I"⟩, prog_2_method_7_code, 2, (Option.some FieldType.int), 0, 0)
abbrev m_C_secondMarkOf : pe_Y := (⟨"PaintEditor$Codes", "secondMarkOf", "(I)I"⟩, prog_2_method_8_code, 2, (Option.some FieldType.int), 0, 0)
abbrev m_C_withMark : pe_Y := (⟨"PaintEditor$Codes", "withMark", "(II)I"⟩, prog_2_method_9_code, 3, (Option.some FieldType.int), 0, 0)
abbrev m_E_press : pe_Y := (⟨"PaintEditor$Editor", "press", "(I)V"⟩, prog_3_method_2_code, 2, (Option.none : Option FieldType), 6, 140)
abbrev m_E_isCharacter : pe_Y := (⟨"PaintEditor$Editor", "isCharacter", "(I)Z"⟩, prog_3_method_3_code, 1, (Option.some FieldType.boolean), 0, 0)
abbrev m_E_worksWhilePasting : pe_Y := (⟨"PaintEditor$Editor", "worksWhilePasting", "(I)Z"⟩, prog_3_method_4_code, 1, (Option.some FieldType.boolean), 1, 20)
abbrev m_E_worksOtherwise : pe_Y := (⟨"PaintEditor$Editor", "worksOtherwise", "(I)Z"⟩, prog_3_method_5_code, 1, (Option.some FieldType.boolean), 0, 0)
abbrev m_E_command : pe_Y := (⟨"PaintEditor$Editor", "command", "(I)V"⟩, prog_3_method_6_code, 2, (Option.none : Option FieldType), 5, 119)
abbrev m_E_insertOne : pe_Y := (⟨"PaintEditor$Editor", "insertOne", "(I)V"⟩, prog_3_method_7_code, 2, (Option.none : Option FieldType), 3, 72)
abbrev m_E_insert : pe_Y := (⟨"PaintEditor$Editor", "insert", "([II)V"⟩, prog_3_method_8_code, 3, (Option.none : Option FieldType), 2, 50)
abbrev m_E_removeBetween : pe_Y := (⟨"PaintEditor$Editor", "removeBetween", "(II)V"⟩, prog_3_method_9_code, 3, (Option.none : Option FieldType), 3, 75)
abbrev m_E_cut : pe_Y := (⟨"PaintEditor$Editor", "cut", "()V"⟩, prog_3_method_10_code, 3, (Option.none : Option FieldType), 4, 97)
abbrev m_E_undo : pe_Y := (⟨"PaintEditor$Editor", "undo", "()V"⟩, prog_3_method_11_code, 2, (Option.none : Option FieldType), 3, 72)
abbrev m_E_moveByRow : pe_Y := (⟨"PaintEditor$Editor", "moveByRow", "(I)V"⟩, prog_3_method_12_code, 3, (Option.none : Option FieldType), 4, 89)
abbrev m_E_isBetween : pe_Y := (⟨"PaintEditor$Editor", "isBetween", "(I)Z"⟩, prog_3_method_13_code, 2, (Option.some FieldType.boolean), 1, 21)
abbrev m_G_has : pe_Y := (⟨"PaintEditor$Grid", "has", "(II)Z"⟩, prog_4_method_2_code, 3, (Option.some FieldType.boolean), 0, 0)
abbrev m_G_clusterAt : pe_Y := (⟨"PaintEditor$Grid", "clusterAt", "(II)I"⟩, prog_4_method_3_code, 3, (Option.some FieldType.int), 1, 22)
abbrev m_G_lookAt : pe_Y := (⟨"PaintEditor$Grid", "lookAt", "(II)I"⟩, prog_4_method_4_code, 3, (Option.some FieldType.int), 1, 22)
abbrev m_G_put : pe_Y := (⟨"PaintEditor$Grid", "put", "(IIII)V"⟩, prog_4_method_5_code, 5, (Option.none : Option FieldType), 1, 22)
abbrev m_G_isBlank : pe_Y := (⟨"PaintEditor$Grid", "isBlank", "(II)Z"⟩, prog_4_method_6_code, 3, (Option.some FieldType.boolean), 2, 44)
abbrev m_G_isWideAt : pe_Y := (⟨"PaintEditor$Grid", "isWideAt", "(II)Z"⟩, prog_4_method_7_code, 3, (Option.some FieldType.boolean), 2, 44)
abbrev m_G_blankAll : pe_Y := (⟨"PaintEditor$Grid", "blankAll", "()V"⟩, prog_4_method_8_code, 1, (Option.none : Option FieldType), 1, 23)
abbrev m_G_blankFrom : pe_Y := (⟨"PaintEditor$Grid", "blankFrom", "(II)V"⟩, prog_4_method_9_code, 4, (Option.none : Option FieldType), 2, 46)
abbrev m_G_resize : pe_Y := (⟨"PaintEditor$Grid", "resize", "(II)V"⟩, prog_4_method_10_code, 4, (Option.none : Option FieldType), 3, 69)
abbrev m_H_keepInsertion : pe_Y := (⟨"PaintEditor$History", "keepInsertion", "(II)V"⟩, prog_5_method_2_code, 4, (Option.none : Option FieldType), 1, 20)
abbrev m_H_keepRemoval : pe_Y := (⟨"PaintEditor$History", "keepRemoval", "(LPaintEditor$Text;III)V"⟩, prog_5_method_3_code, 6, (Option.none : Option FieldType), 2, 50)
abbrev m_H_undoIn : pe_Y := (⟨"PaintEditor$History", "undoIn", "(LPaintEditor$Text;)I"⟩, prog_5_method_4_code, 3, (Option.some FieldType.int), 2, 50)
abbrev m_H_newSlot : pe_Y := (⟨"PaintEditor$History", "newSlot", "()I"⟩, prog_5_method_5_code, 1, (Option.some FieldType.int), 0, 0)
abbrev m_K_leave : pe_Y := (⟨"PaintEditor$Keyboard", "leave", "(I)I"⟩, prog_6_method_2_code, 2, (Option.some FieldType.int), 2, 41)
abbrev m_K_giveUp : pe_Y := (⟨"PaintEditor$Keyboard", "giveUp", "()I"⟩, prog_6_method_3_code, 2, (Option.some FieldType.int), 0, 0)
abbrev m_K_take : pe_Y := (⟨"PaintEditor$Keyboard", "take", "(I)I"⟩, prog_6_method_4_code, 3, (Option.some FieldType.int), 2, 42)
abbrev m_K_goesOn : pe_Y := (⟨"PaintEditor$Keyboard", "goesOn", "(I)Z"⟩, prog_6_method_5_code, 2, (Option.some FieldType.boolean), 1, 20)
abbrev m_K_isDigit : pe_Y := (⟨"PaintEditor$Keyboard", "isDigit", "(I)Z"⟩, prog_6_method_6_code, 1, (Option.some FieldType.boolean), 0, 0)
abbrev m_K_isFinal : pe_Y := (⟨"PaintEditor$Keyboard", "isFinal", "(I)Z"⟩, prog_6_method_7_code, 1, (Option.some FieldType.boolean), 0, 0)
abbrev m_K_takePlain : pe_Y := (⟨"PaintEditor$Keyboard", "takePlain", "(I)I"⟩, prog_6_method_8_code, 2, (Option.some FieldType.int), 1, 21)
abbrev m_K_beginCharacter : pe_Y := (⟨"PaintEditor$Keyboard", "beginCharacter", "(I)V"⟩, prog_6_method_9_code, 2, (Option.none : Option FieldType), 0, 0)
abbrev m_K_takeWithin : pe_Y := (⟨"PaintEditor$Keyboard", "takeWithin", "(I)I"⟩, prog_6_method_10_code, 2, (Option.some FieldType.int), 0, 0)
abbrev m_K_takeInSequence : pe_Y := (⟨"PaintEditor$Keyboard", "takeInSequence", "(I)I"⟩, prog_6_method_11_code, 2, (Option.some FieldType.int), 1, 21)
abbrev m_K_numberedKey : pe_Y := (⟨"PaintEditor$Keyboard", "numberedKey", "()I"⟩, prog_6_method_12_code, 1, (Option.some FieldType.int), 0, 0)
abbrev m_L_lay : pe_Y := (⟨"PaintEditor$Layout", "lay", "(LPaintEditor$Text;I)V"⟩, prog_7_method_2_code, 8, (Option.none : Option FieldType), 3, 62)
abbrev m_L_placeIn : pe_Y := (⟨"PaintEditor$Layout", "placeIn", "(LPaintEditor$Text;II)I"⟩, prog_7_method_3_code, 6, (Option.some FieldType.int), 0, 0)
abbrev m_Q_byteAt : pe_Y := (⟨"PaintEditor$Painter", "byteAt", "(I)I"⟩, prog_8_method_2_code, 2, (Option.some FieldType.int), 0, 0)
abbrev m_Q_begin : pe_Y := (⟨"PaintEditor$Painter", "begin", "(Z)V"⟩, prog_8_method_3_code, 2, (Option.none : Option FieldType), 4, 87)
abbrev m_Q_paintRow : pe_Y := (⟨"PaintEditor$Painter", "paintRow", "(LPaintEditor$Grid;I)V"⟩, prog_8_method_4_code, 10, (Option.none : Option FieldType), 6, 136)
abbrev m_Q_differs : pe_Y := (⟨"PaintEditor$Painter", "differs", "(LPaintEditor$Grid;II)Z"⟩, prog_8_method_5_code, 4, (Option.some FieldType.boolean), 2, 44)
abbrev m_Q_firstDifference : pe_Y := (⟨"PaintEditor$Painter", "firstDifference", "(LPaintEditor$Grid;I)I"⟩, prog_8_method_6_code, 4, (Option.some FieldType.int), 3, 67)
abbrev m_Q_lastDifference : pe_Y := (⟨"PaintEditor$Painter", "lastDifference", "(LPaintEditor$Grid;I)I"⟩, prog_8_method_7_code, 4, (Option.some FieldType.int), 3, 67)
abbrev m_Q_blankBeginning : pe_Y := (⟨"PaintEditor$Painter", "blankBeginning", "(LPaintEditor$Grid;I)I"⟩, prog_8_method_8_code, 3, (Option.some FieldType.int), 3, 66)
abbrev m_Q_sendCluster : pe_Y := (⟨"PaintEditor$Painter", "sendCluster", "(IIII)V"⟩, prog_8_method_9_code, 6, (Option.none : Option FieldType), 5, 111)
abbrev m_Q_makePlaceRight : pe_Y := (⟨"PaintEditor$Painter", "makePlaceRight", "(II)V"⟩, prog_8_method_10_code, 5, (Option.none : Option FieldType), 4, 87)
abbrev m_Q_sendPlace : pe_Y := (⟨"PaintEditor$Painter", "sendPlace", "(II)V"⟩, prog_8_method_11_code, 3, (Option.none : Option FieldType), 3, 65)
abbrev m_Q_sendLook : pe_Y := (⟨"PaintEditor$Painter", "sendLook", "(I)V"⟩, prog_8_method_12_code, 3, (Option.none : Option FieldType), 3, 65)
abbrev m_Q_sendSequence : pe_Y := (⟨"PaintEditor$Painter", "sendSequence", "(III)V"⟩, prog_8_method_13_code, 4, (Option.none : Option FieldType), 2, 42)
abbrev m_Q_putNumber : pe_Y := (⟨"PaintEditor$Painter", "putNumber", "(I)V"⟩, prog_8_method_14_code, 2, (Option.none : Option FieldType), 1, 21)
abbrev m_Q_sendCharacter : pe_Y := (⟨"PaintEditor$Painter", "sendCharacter", "(I)V"⟩, prog_8_method_15_code, 2, (Option.none : Option FieldType), 4, 90)
abbrev m_Q_put : pe_Y := (⟨"PaintEditor$Painter", "put", "(I)V"⟩, prog_8_method_16_code, 2, (Option.none : Option FieldType), 0, 0)
abbrev m_S_compose : pe_Y := (⟨"PaintEditor$Screen", "compose", "(LPaintEditor$Editor;)V"⟩, prog_9_method_2_code, 3, (Option.none : Option FieldType), 6, 138)
abbrev m_S_follow : pe_Y := (⟨"PaintEditor$Screen", "follow", "(I)V"⟩, prog_9_method_3_code, 2, (Option.none : Option FieldType), 0, 0)
abbrev m_S_showCluster : pe_Y := (⟨"PaintEditor$Screen", "showCluster", "(LPaintEditor$Editor;I)V"⟩, prog_9_method_4_code, 10, (Option.none : Option FieldType), 5, 109)
abbrev m_S_showStatus : pe_Y := (⟨"PaintEditor$Screen", "showStatus", "(LPaintEditor$Editor;)V"⟩, prog_9_method_5_code, 4, (Option.none : Option FieldType), 3, 70)
abbrev m_Z_write : pe_Y := (⟨"PaintEditor$Terminal", "write", "(I)V"⟩, prog_10_method_2_code, 3, (Option.none : Option FieldType), 3, 68)
abbrev m_Z_joins : pe_Y := (⟨"PaintEditor$Terminal", "joins", "(I)Z"⟩, prog_10_method_3_code, 3, (Option.some FieldType.boolean), 2, 46)
abbrev m_Z_writeCells : pe_Y := (⟨"PaintEditor$Terminal", "writeCells", "(I)V"⟩, prog_10_method_4_code, 3, (Option.none : Option FieldType), 2, 46)
abbrev m_Z_moveTo : pe_Y := (⟨"PaintEditor$Terminal", "moveTo", "(II)V"⟩, prog_10_method_5_code, 3, (Option.none : Option FieldType), 1, 20)
abbrev m_Z_eraseRestOfRow : pe_Y := (⟨"PaintEditor$Terminal", "eraseRestOfRow", "()V"⟩, prog_10_method_6_code, 1, (Option.none : Option FieldType), 3, 69)
abbrev m_Z_eraseAll : pe_Y := (⟨"PaintEditor$Terminal", "eraseAll", "()V"⟩, prog_10_method_7_code, 1, (Option.none : Option FieldType), 2, 43)
abbrev m_Z_resize : pe_Y := (⟨"PaintEditor$Terminal", "resize", "(II)V"⟩, prog_10_method_8_code, 3, (Option.none : Option FieldType), 4, 92)
abbrev m_Z_endWriting : pe_Y := (⟨"PaintEditor$Terminal", "endWriting", "()V"⟩, prog_10_method_9_code, 1, (Option.none : Option FieldType), 0, 0)
abbrev m_T_codeAt : pe_Y := (⟨"PaintEditor$Text", "codeAt", "(I)I"⟩, prog_11_method_2_code, 2, (Option.some FieldType.int), 0, 0)
abbrev m_T_hasRoomFor : pe_Y := (⟨"PaintEditor$Text", "hasRoomFor", "(I)Z"⟩, prog_11_method_3_code, 2, (Option.some FieldType.boolean), 0, 0)
abbrev m_T_insert : pe_Y := (⟨"PaintEditor$Text", "insert", "(I[III)V"⟩, prog_11_method_4_code, 5, (Option.none : Option FieldType), 1, 26)
abbrev m_T_remove : pe_Y := (⟨"PaintEditor$Text", "remove", "(II)V"⟩, prog_11_method_5_code, 3, (Option.none : Option FieldType), 1, 26)
abbrev m_T_copyTo : pe_Y := (⟨"PaintEditor$Text", "copyTo", "([IIII)V"⟩, prog_11_method_6_code, 5, (Option.none : Option FieldType), 1, 26)
abbrev m_T_isBeginning : pe_Y := (⟨"PaintEditor$Text", "isBeginning", "(I)Z"⟩, prog_11_method_7_code, 3, (Option.some FieldType.boolean), 2, 40)
abbrev m_T_beginningFrom : pe_Y := (⟨"PaintEditor$Text", "beginningFrom", "(I)I"⟩, prog_11_method_8_code, 3, (Option.some FieldType.int), 3, 62)
abbrev m_T_beginningAhead : pe_Y := (⟨"PaintEditor$Text", "beginningAhead", "(I)I"⟩, prog_11_method_9_code, 3, (Option.some FieldType.int), 3, 62)
abbrev m_T_lineBeginning : pe_Y := (⟨"PaintEditor$Text", "lineBeginning", "(I)I"⟩, prog_11_method_10_code, 3, (Option.some FieldType.int), 1, 21)
abbrev m_T_lineEnd : pe_Y := (⟨"PaintEditor$Text", "lineEnd", "(I)I"⟩, prog_11_method_11_code, 3, (Option.some FieldType.int), 1, 21)
abbrev m_T_lineNumber : pe_Y := (⟨"PaintEditor$Text", "lineNumber", "(I)I"⟩, prog_11_method_12_code, 4, (Option.some FieldType.int), 1, 21)
abbrev m_T_clusterAt : pe_Y := (⟨"PaintEditor$Text", "clusterAt", "(I)I"⟩, prog_11_method_13_code, 6, (Option.some FieldType.int), 4, 84)
abbrev m_A_fill : pe_Y := (⟨"java/util/Arrays", "fill", "([II)V"⟩, prog_23_method_103_code, 4, (Option.none : Option FieldType), 0, 0)
/-! classes -/
theorem pe_k0 : (∀ w ∈ u_ws "PaintEditor" pe_T0 4, w ∈ pe_WS) ∧ (∀ k, k < 4 → parseFieldDescriptor (pe_T0 k).2.2.1 = some (pe_t0 k)) ∧ ∀ a, a < 4 → ∀ b, b < 4 → a ≠ b → (pe_T0 a).2.1 ≠ (pe_T0 b).2.1 := by
  refine ⟨?_, by decide +kernel, by decide +kernel⟩
  intro w hw
  obtain ⟨k, hk, rfl⟩ := List.mem_map.mp hw
  have hk := List.mem_range.mp hk
  rcases (show k = 0 ∨ k = 1 ∨ k = 2 ∨ k = 3 by omega) with rfl | rfl | rfl | rfl
  · exact pe_w2 (List.mem_of_getElem? (i := 103) (by decide +kernel))
  · exact pe_w2 (List.mem_of_getElem? (i := 105) (by decide +kernel))
  · exact pe_w2 (List.mem_of_getElem? (i := 107) (by decide +kernel))
  · exact pe_w2 (List.mem_of_getElem? (i := 109) (by decide +kernel))
theorem pe_k1 : (∀ w ∈ u_ws "PaintEditor$Keyboard" pe_T1 7, w ∈ pe_WS) ∧ (∀ k, k < 7 → parseFieldDescriptor (pe_T1 k).2.2.1 = some (pe_t1 k)) ∧ ∀ a, a < 7 → ∀ b, b < 7 → a ≠ b → (pe_T1 a).2.1 ≠ (pe_T1 b).2.1 := by
  refine ⟨?_, by decide +kernel, by decide +kernel⟩
  intro w hw
  obtain ⟨k, hk, rfl⟩ := List.mem_map.mp hw
  have hk := List.mem_range.mp hk
  rcases (show k = 0 ∨ k = 1 ∨ k = 2 ∨ k = 3 ∨ k = 4 ∨ k = 5 ∨ k = 6 by omega) with rfl | rfl | rfl | rfl | rfl | rfl | rfl
  · exact pe_w1 (List.mem_of_getElem? (i := 52) (by decide +kernel))
  · exact pe_w1 (List.mem_of_getElem? (i := 54) (by decide +kernel))
  · exact pe_w1 (List.mem_of_getElem? (i := 56) (by decide +kernel))
  · exact pe_w1 (List.mem_of_getElem? (i := 58) (by decide +kernel))
  · exact pe_w1 (List.mem_of_getElem? (i := 60) (by decide +kernel))
  · exact pe_w1 (List.mem_of_getElem? (i := 62) (by decide +kernel))
  · exact pe_w1 (List.mem_of_getElem? (i := 64) (by decide +kernel))
theorem pe_k2 : (∀ w ∈ u_ws "PaintEditor$Editor" pe_T2 12, w ∈ pe_WS) ∧ (∀ k, k < 12 → parseFieldDescriptor (pe_T2 k).2.2.1 = some (pe_t2 k)) ∧ ∀ a, a < 12 → ∀ b, b < 12 → a ≠ b → (pe_T2 a).2.1 ≠ (pe_T2 b).2.1 := by
  refine ⟨?_, by decide +kernel, by decide +kernel⟩
  intro w hw
  obtain ⟨k, hk, rfl⟩ := List.mem_map.mp hw
  have hk := List.mem_range.mp hk
  rcases (show k = 0 ∨ k = 1 ∨ k = 2 ∨ k = 3 ∨ k = 4 ∨ k = 5 ∨ k = 6 ∨ k = 7 ∨ k = 8 ∨ k = 9 ∨ k = 10 ∨ k = 11 by omega) with rfl | rfl | rfl | rfl | rfl | rfl | rfl | rfl | rfl | rfl | rfl | rfl
  · exact pe_w1 (List.mem_of_getElem? (i := 167) (by decide +kernel))
  · exact pe_w1 (List.mem_of_getElem? (i := 169) (by decide +kernel))
  · exact pe_w1 (List.mem_of_getElem? (i := 171) (by decide +kernel))
  · exact pe_w1 (List.mem_of_getElem? (i := 173) (by decide +kernel))
  · exact pe_w1 (List.mem_of_getElem? (i := 175) (by decide +kernel))
  · exact pe_w1 (List.mem_of_getElem? (i := 177) (by decide +kernel))
  · exact pe_w1 (List.mem_of_getElem? (i := 179) (by decide +kernel))
  · exact pe_w1 (List.mem_of_getElem? (i := 181) (by decide +kernel))
  · exact pe_w1 (List.mem_of_getElem? (i := 183) (by decide +kernel))
  · exact pe_w1 (List.mem_of_getElem? (i := 185) (by decide +kernel))
  · exact pe_w1 (List.mem_of_getElem? (i := 187) (by decide +kernel))
  · exact pe_w1 (List.mem_of_getElem? (i := 189) (by decide +kernel))
theorem pe_k3 : (∀ w ∈ u_ws "PaintEditor$Text" pe_T3 2, w ∈ pe_WS) ∧ (∀ k, k < 2 → parseFieldDescriptor (pe_T3 k).2.2.1 = some (pe_t3 k)) ∧ ∀ a, a < 2 → ∀ b, b < 2 → a ≠ b → (pe_T3 a).2.1 ≠ (pe_T3 b).2.1 := by
  refine ⟨?_, by decide +kernel, by decide +kernel⟩
  intro w hw
  obtain ⟨k, hk, rfl⟩ := List.mem_map.mp hw
  have hk := List.mem_range.mp hk
  rcases (show k = 0 ∨ k = 1 by omega) with rfl | rfl
  · exact pe_w1 (List.mem_of_getElem? (i := 84) (by decide +kernel))
  · exact pe_w1 (List.mem_of_getElem? (i := 86) (by decide +kernel))
theorem pe_k4 : (∀ w ∈ u_ws "PaintEditor$History" pe_T4 7, w ∈ pe_WS) ∧ (∀ k, k < 7 → parseFieldDescriptor (pe_T4 k).2.2.1 = some (pe_t4 k)) ∧ ∀ a, a < 7 → ∀ b, b < 7 → a ≠ b → (pe_T4 a).2.1 ≠ (pe_T4 b).2.1 := by
  refine ⟨?_, by decide +kernel, by decide +kernel⟩
  intro w hw
  obtain ⟨k, hk, rfl⟩ := List.mem_map.mp hw
  have hk := List.mem_range.mp hk
  rcases (show k = 0 ∨ k = 1 ∨ k = 2 ∨ k = 3 ∨ k = 4 ∨ k = 5 ∨ k = 6 by omega) with rfl | rfl | rfl | rfl | rfl | rfl | rfl
  · exact pe_w1 (List.mem_of_getElem? (i := 105) (by decide +kernel))
  · exact pe_w1 (List.mem_of_getElem? (i := 107) (by decide +kernel))
  · exact pe_w1 (List.mem_of_getElem? (i := 109) (by decide +kernel))
  · exact pe_w1 (List.mem_of_getElem? (i := 111) (by decide +kernel))
  · exact pe_w1 (List.mem_of_getElem? (i := 113) (by decide +kernel))
  · exact pe_w1 (List.mem_of_getElem? (i := 115) (by decide +kernel))
  · exact pe_w1 (List.mem_of_getElem? (i := 117) (by decide +kernel))
theorem pe_k5 : (∀ w ∈ u_ws "PaintEditor$Layout" pe_T5 3, w ∈ pe_WS) ∧ (∀ k, k < 3 → parseFieldDescriptor (pe_T5 k).2.2.1 = some (pe_t5 k)) ∧ ∀ a, a < 3 → ∀ b, b < 3 → a ≠ b → (pe_T5 a).2.1 ≠ (pe_T5 b).2.1 := by
  refine ⟨?_, by decide +kernel, by decide +kernel⟩
  intro w hw
  obtain ⟨k, hk, rfl⟩ := List.mem_map.mp hw
  have hk := List.mem_range.mp hk
  rcases (show k = 0 ∨ k = 1 ∨ k = 2 by omega) with rfl | rfl | rfl
  · exact pe_w1 (List.mem_of_getElem? (i := 135) (by decide +kernel))
  · exact pe_w1 (List.mem_of_getElem? (i := 137) (by decide +kernel))
  · exact pe_w1 (List.mem_of_getElem? (i := 139) (by decide +kernel))
theorem pe_k6 : (∀ w ∈ u_ws "PaintEditor$Screen" pe_T6 5, w ∈ pe_WS) ∧ (∀ k, k < 5 → parseFieldDescriptor (pe_T6 k).2.2.1 = some (pe_t6 k)) ∧ ∀ a, a < 5 → ∀ b, b < 5 → a ≠ b → (pe_T6 a).2.1 ≠ (pe_T6 b).2.1 := by
  refine ⟨?_, by decide +kernel, by decide +kernel⟩
  intro w hw
  obtain ⟨k, hk, rfl⟩ := List.mem_map.mp hw
  have hk := List.mem_range.mp hk
  rcases (show k = 0 ∨ k = 1 ∨ k = 2 ∨ k = 3 ∨ k = 4 by omega) with rfl | rfl | rfl | rfl | rfl
  · exact pe_w2 (List.mem_of_getElem? (i := 27) (by decide +kernel))
  · exact pe_w2 (List.mem_of_getElem? (i := 29) (by decide +kernel))
  · exact pe_w2 (List.mem_of_getElem? (i := 31) (by decide +kernel))
  · exact pe_w2 (List.mem_of_getElem? (i := 33) (by decide +kernel))
  · exact pe_w2 (List.mem_of_getElem? (i := 35) (by decide +kernel))
theorem pe_k7 : (∀ w ∈ u_ws "PaintEditor$Grid" pe_T7 4, w ∈ pe_WS) ∧ (∀ k, k < 4 → parseFieldDescriptor (pe_T7 k).2.2.1 = some (pe_t7 k)) ∧ ∀ a, a < 4 → ∀ b, b < 4 → a ≠ b → (pe_T7 a).2.1 ≠ (pe_T7 b).2.1 := by
  refine ⟨?_, by decide +kernel, by decide +kernel⟩
  intro w hw
  obtain ⟨k, hk, rfl⟩ := List.mem_map.mp hw
  have hk := List.mem_range.mp hk
  rcases (show k = 0 ∨ k = 1 ∨ k = 2 ∨ k = 3 by omega) with rfl | rfl | rfl | rfl
  · exact pe_w2 (List.mem_of_getElem? (i := 9) (by decide +kernel))
  · exact pe_w2 (List.mem_of_getElem? (i := 11) (by decide +kernel))
  · exact pe_w2 (List.mem_of_getElem? (i := 13) (by decide +kernel))
  · exact pe_w2 (List.mem_of_getElem? (i := 15) (by decide +kernel))
theorem pe_k8 : (∀ w ∈ u_ws "java/lang/StringBuilder" pe_T8 4, w ∈ pe_WS) ∧ (∀ k, k < 4 → parseFieldDescriptor (pe_T8 k).2.2.1 = some (pe_t8 k)) ∧ ∀ a, a < 4 → ∀ b, b < 4 → a ≠ b → (pe_T8 a).2.1 ≠ (pe_T8 b).2.1 := by
  refine ⟨?_, by decide +kernel, by decide +kernel⟩
  intro w hw
  obtain ⟨k, hk, rfl⟩ := List.mem_map.mp hw
  have hk := List.mem_range.mp hk
  rcases (show k = 0 ∨ k = 1 ∨ k = 2 ∨ k = 3 by omega) with rfl | rfl | rfl | rfl
  · exact pe_w1 (List.mem_of_getElem? (i := 220) (by decide +kernel))
  · exact pe_w1 (List.mem_of_getElem? (i := 222) (by decide +kernel))
  · exact pe_w1 (List.mem_of_getElem? (i := 224) (by decide +kernel))
  · exact pe_w1 (List.mem_of_getElem? (i := 226) (by decide +kernel))
theorem pe_k9 : (∀ w ∈ u_ws "PaintEditor$Painter" pe_T9 3, w ∈ pe_WS) ∧ (∀ k, k < 3 → parseFieldDescriptor (pe_T9 k).2.2.1 = some (pe_t9 k)) ∧ ∀ a, a < 3 → ∀ b, b < 3 → a ≠ b → (pe_T9 a).2.1 ≠ (pe_T9 b).2.1 := by
  refine ⟨?_, by decide +kernel, by decide +kernel⟩
  intro w hw
  obtain ⟨k, hk, rfl⟩ := List.mem_map.mp hw
  have hk := List.mem_range.mp hk
  rcases (show k = 0 ∨ k = 1 ∨ k = 2 by omega) with rfl | rfl | rfl
  · exact pe_w2 (List.mem_of_getElem? (i := 92) (by decide +kernel))
  · exact pe_w2 (List.mem_of_getElem? (i := 94) (by decide +kernel))
  · exact pe_w2 (List.mem_of_getElem? (i := 96) (by decide +kernel))
theorem pe_k10 : (∀ w ∈ u_ws "PaintEditor$Terminal" pe_T10 8, w ∈ pe_WS) ∧ (∀ k, k < 8 → parseFieldDescriptor (pe_T10 k).2.2.1 = some (pe_t10 k)) ∧ ∀ a, a < 8 → ∀ b, b < 8 → a ≠ b → (pe_T10 a).2.1 ≠ (pe_T10 b).2.1 := by
  refine ⟨?_, by decide +kernel, by decide +kernel⟩
  intro w hw
  obtain ⟨k, hk, rfl⟩ := List.mem_map.mp hw
  have hk := List.mem_range.mp hk
  rcases (show k = 0 ∨ k = 1 ∨ k = 2 ∨ k = 3 ∨ k = 4 ∨ k = 5 ∨ k = 6 ∨ k = 7 by omega) with rfl | rfl | rfl | rfl | rfl | rfl | rfl | rfl
  · exact pe_w2 (List.mem_of_getElem? (i := 70) (by decide +kernel))
  · exact pe_w2 (List.mem_of_getElem? (i := 72) (by decide +kernel))
  · exact pe_w2 (List.mem_of_getElem? (i := 74) (by decide +kernel))
  · exact pe_w2 (List.mem_of_getElem? (i := 76) (by decide +kernel))
  · exact pe_w2 (List.mem_of_getElem? (i := 78) (by decide +kernel))
  · exact pe_w2 (List.mem_of_getElem? (i := 80) (by decide +kernel))
  · exact pe_w2 (List.mem_of_getElem? (i := 82) (by decide +kernel))
  · exact pe_w2 (List.mem_of_getElem? (i := 84) (by decide +kernel))
theorem pe_k11 : (∀ w ∈ u_ws "PaintEditorModel" pe_T11 44, w ∈ pe_WS) ∧ (∀ k, k < 44 → parseFieldDescriptor (pe_T11 k).2.2.1 = some (pe_t11 k)) ∧ ∀ a, a < 44 → ∀ b, b < 44 → a ≠ b → (pe_T11 a).2.1 ≠ (pe_T11 b).2.1 := by
  refine ⟨?_, by decide +kernel, by decide +kernel⟩
  intro w hw
  obtain ⟨k, hk, rfl⟩ := List.mem_map.mp hw
  have hk := List.mem_range.mp hk
  rcases (show k = 0 ∨ k = 1 ∨ k = 2 ∨ k = 3 ∨ k = 4 ∨ k = 5 ∨ k = 6 ∨ k = 7 ∨ k = 8 ∨ k = 9 ∨ k = 10 ∨ k = 11 ∨ k = 12 ∨ k = 13 ∨ k = 14 ∨ k = 15 ∨ k = 16 ∨ k = 17 ∨ k = 18 ∨ k = 19 ∨ k = 20 ∨ k = 21 ∨ k = 22 ∨ k = 23 ∨ k = 24 ∨ k = 25 ∨ k = 26 ∨ k = 27 ∨ k = 28 ∨ k = 29 ∨ k = 30 ∨ k = 31 ∨ k = 32 ∨ k = 33 ∨ k = 34 ∨ k = 35 ∨ k = 36 ∨ k = 37 ∨ k = 38 ∨ k = 39 ∨ k = 40 ∨ k = 41 ∨ k = 42 ∨ k = 43 by omega) with rfl | rfl | rfl | rfl | rfl | rfl | rfl | rfl | rfl | rfl | rfl | rfl | rfl | rfl | rfl | rfl | rfl | rfl | rfl | rfl | rfl | rfl | rfl | rfl | rfl | rfl | rfl | rfl | rfl | rfl | rfl | rfl | rfl | rfl | rfl | rfl | rfl | rfl | rfl | rfl | rfl | rfl | rfl | rfl
  · exact pe_w5 (List.mem_of_getElem? (i := 32) (by decide +kernel))
  · exact pe_w5 (List.mem_of_getElem? (i := 34) (by decide +kernel))
  · exact pe_w5 (List.mem_of_getElem? (i := 36) (by decide +kernel))
  · exact pe_w5 (List.mem_of_getElem? (i := 38) (by decide +kernel))
  · exact pe_w5 (List.mem_of_getElem? (i := 40) (by decide +kernel))
  · exact pe_w5 (List.mem_of_getElem? (i := 42) (by decide +kernel))
  · exact pe_w5 (List.mem_of_getElem? (i := 44) (by decide +kernel))
  · exact pe_w5 (List.mem_of_getElem? (i := 46) (by decide +kernel))
  · exact pe_w5 (List.mem_of_getElem? (i := 48) (by decide +kernel))
  · exact pe_w5 (List.mem_of_getElem? (i := 50) (by decide +kernel))
  · exact pe_w5 (List.mem_of_getElem? (i := 52) (by decide +kernel))
  · exact pe_w5 (List.mem_of_getElem? (i := 54) (by decide +kernel))
  · exact pe_w5 (List.mem_of_getElem? (i := 56) (by decide +kernel))
  · exact pe_w5 (List.mem_of_getElem? (i := 58) (by decide +kernel))
  · exact pe_w5 (List.mem_of_getElem? (i := 60) (by decide +kernel))
  · exact pe_w5 (List.mem_of_getElem? (i := 62) (by decide +kernel))
  · exact pe_w5 (List.mem_of_getElem? (i := 64) (by decide +kernel))
  · exact pe_w5 (List.mem_of_getElem? (i := 66) (by decide +kernel))
  · exact pe_w5 (List.mem_of_getElem? (i := 68) (by decide +kernel))
  · exact pe_w5 (List.mem_of_getElem? (i := 70) (by decide +kernel))
  · exact pe_w5 (List.mem_of_getElem? (i := 72) (by decide +kernel))
  · exact pe_w5 (List.mem_of_getElem? (i := 74) (by decide +kernel))
  · exact pe_w5 (List.mem_of_getElem? (i := 76) (by decide +kernel))
  · exact pe_w5 (List.mem_of_getElem? (i := 78) (by decide +kernel))
  · exact pe_w5 (List.mem_of_getElem? (i := 80) (by decide +kernel))
  · exact pe_w5 (List.mem_of_getElem? (i := 82) (by decide +kernel))
  · exact pe_w5 (List.mem_of_getElem? (i := 84) (by decide +kernel))
  · exact pe_w5 (List.mem_of_getElem? (i := 86) (by decide +kernel))
  · exact pe_w5 (List.mem_of_getElem? (i := 88) (by decide +kernel))
  · exact pe_w5 (List.mem_of_getElem? (i := 90) (by decide +kernel))
  · exact pe_w5 (List.mem_of_getElem? (i := 92) (by decide +kernel))
  · exact pe_w5 (List.mem_of_getElem? (i := 94) (by decide +kernel))
  · exact pe_w5 (List.mem_of_getElem? (i := 96) (by decide +kernel))
  · exact pe_w5 (List.mem_of_getElem? (i := 98) (by decide +kernel))
  · exact pe_w5 (List.mem_of_getElem? (i := 100) (by decide +kernel))
  · exact pe_w5 (List.mem_of_getElem? (i := 102) (by decide +kernel))
  · exact pe_w5 (List.mem_of_getElem? (i := 104) (by decide +kernel))
  · exact pe_w5 (List.mem_of_getElem? (i := 106) (by decide +kernel))
  · exact pe_w5 (List.mem_of_getElem? (i := 108) (by decide +kernel))
  · exact pe_w5 (List.mem_of_getElem? (i := 110) (by decide +kernel))
  · exact pe_w5 (List.mem_of_getElem? (i := 112) (by decide +kernel))
  · exact pe_w5 (List.mem_of_getElem? (i := 114) (by decide +kernel))
  · exact pe_w5 (List.mem_of_getElem? (i := 116) (by decide +kernel))
  · exact pe_w5 (List.mem_of_getElem? (i := 118) (by decide +kernel))
/-! fields that are linked: f_<class>_<pool entry> -/
theorem f_K_11 : pe_FL "PaintEditor$Keyboard" 11 1 0 7 := ⟨"PaintEditor$Keyboard", pe_T1, pe_t1, rfl, by decide, pe_k1.1, rfl, pe_k1.2.1, pe_k1.2.2, pe_w1 (List.mem_of_getElem? (i := 44) (by decide +kernel))⟩
theorem f_P_151 : pe_FL "PaintEditor" 151 1 0 7 := ⟨"PaintEditor$Keyboard", pe_T1, pe_t1, rfl, by decide, pe_k1.1, rfl, pe_k1.2.1, pe_k1.2.2, pe_w1 (List.mem_of_getElem? (i := 45) (by decide +kernel))⟩
theorem f_K_27 : pe_FL "PaintEditor$Keyboard" 27 1 1 7 := ⟨"PaintEditor$Keyboard", pe_T1, pe_t1, rfl, by decide, pe_k1.1, rfl, pe_k1.2.1, pe_k1.2.2, pe_w1 (List.mem_of_getElem? (i := 46) (by decide +kernel))⟩
theorem f_K_59 : pe_FL "PaintEditor$Keyboard" 59 1 2 7 := ⟨"PaintEditor$Keyboard", pe_T1, pe_t1, rfl, by decide, pe_k1.1, rfl, pe_k1.2.1, pe_k1.2.2, pe_w1 (List.mem_of_getElem? (i := 47) (by decide +kernel))⟩
theorem f_K_56 : pe_FL "PaintEditor$Keyboard" 56 1 3 7 := ⟨"PaintEditor$Keyboard", pe_T1, pe_t1, rfl, by decide, pe_k1.1, rfl, pe_k1.2.1, pe_k1.2.2, pe_w1 (List.mem_of_getElem? (i := 48) (by decide +kernel))⟩
theorem f_K_46 : pe_FL "PaintEditor$Keyboard" 46 1 4 7 := ⟨"PaintEditor$Keyboard", pe_T1, pe_t1, rfl, by decide, pe_k1.1, rfl, pe_k1.2.1, pe_k1.2.2, pe_w1 (List.mem_of_getElem? (i := 49) (by decide +kernel))⟩
theorem f_K_49 : pe_FL "PaintEditor$Keyboard" 49 1 5 7 := ⟨"PaintEditor$Keyboard", pe_T1, pe_t1, rfl, by decide, pe_k1.1, rfl, pe_k1.2.1, pe_k1.2.2, pe_w1 (List.mem_of_getElem? (i := 50) (by decide +kernel))⟩
theorem f_K_15 : pe_FL "PaintEditor$Keyboard" 15 1 6 7 := ⟨"PaintEditor$Keyboard", pe_T1, pe_t1, rfl, by decide, pe_k1.1, rfl, pe_k1.2.1, pe_k1.2.2, pe_w1 (List.mem_of_getElem? (i := 51) (by decide +kernel))⟩
theorem f_T_9 : pe_FL "PaintEditor$Text" 9 3 0 2 := ⟨"PaintEditor$Text", pe_T3, pe_t3, rfl, by decide, pe_k3.1, rfl, pe_k3.2.1, pe_k3.2.2, pe_w1 (List.mem_of_getElem? (i := 79) (by decide +kernel))⟩
theorem f_T_15 : pe_FL "PaintEditor$Text" 15 3 1 2 := ⟨"PaintEditor$Text", pe_T3, pe_t3, rfl, by decide, pe_k3.1, rfl, pe_k3.2.1, pe_k3.2.2, pe_w1 (List.mem_of_getElem? (i := 80) (by decide +kernel))⟩
theorem f_L_21 : pe_FL "PaintEditor$Layout" 21 3 1 2 := ⟨"PaintEditor$Text", pe_T3, pe_t3, rfl, by decide, pe_k3.1, rfl, pe_k3.2.1, pe_k3.2.2, pe_w1 (List.mem_of_getElem? (i := 81) (by decide +kernel))⟩
theorem f_P_64 : pe_FL "PaintEditor" 64 3 1 2 := ⟨"PaintEditor$Text", pe_T3, pe_t3, rfl, by decide, pe_k3.1, rfl, pe_k3.2.1, pe_k3.2.2, pe_w1 (List.mem_of_getElem? (i := 82) (by decide +kernel))⟩
theorem f_S_73 : pe_FL "PaintEditor$Screen" 73 3 1 2 := ⟨"PaintEditor$Text", pe_T3, pe_t3, rfl, by decide, pe_k3.1, rfl, pe_k3.2.1, pe_k3.2.2, pe_w1 (List.mem_of_getElem? (i := 83) (by decide +kernel))⟩
theorem f_H_9 : pe_FL "PaintEditor$History" 9 4 0 7 := ⟨"PaintEditor$History", pe_T4, pe_t4, rfl, by decide, pe_k4.1, rfl, pe_k4.2.1, pe_k4.2.2, pe_w1 (List.mem_of_getElem? (i := 96) (by decide +kernel))⟩
theorem f_H_15 : pe_FL "PaintEditor$History" 15 4 1 7 := ⟨"PaintEditor$History", pe_T4, pe_t4, rfl, by decide, pe_k4.1, rfl, pe_k4.2.1, pe_k4.2.2, pe_w1 (List.mem_of_getElem? (i := 97) (by decide +kernel))⟩
theorem f_H_18 : pe_FL "PaintEditor$History" 18 4 2 7 := ⟨"PaintEditor$History", pe_T4, pe_t4, rfl, by decide, pe_k4.1, rfl, pe_k4.2.1, pe_k4.2.2, pe_w1 (List.mem_of_getElem? (i := 98) (by decide +kernel))⟩
theorem f_H_21 : pe_FL "PaintEditor$History" 21 4 3 7 := ⟨"PaintEditor$History", pe_T4, pe_t4, rfl, by decide, pe_k4.1, rfl, pe_k4.2.1, pe_k4.2.2, pe_w1 (List.mem_of_getElem? (i := 99) (by decide +kernel))⟩
theorem f_H_25 : pe_FL "PaintEditor$History" 25 4 4 7 := ⟨"PaintEditor$History", pe_T4, pe_t4, rfl, by decide, pe_k4.1, rfl, pe_k4.2.1, pe_k4.2.2, pe_w1 (List.mem_of_getElem? (i := 100) (by decide +kernel))⟩
theorem f_H_42 : pe_FL "PaintEditor$History" 42 4 5 7 := ⟨"PaintEditor$History", pe_T4, pe_t4, rfl, by decide, pe_k4.1, rfl, pe_k4.2.1, pe_k4.2.2, pe_w1 (List.mem_of_getElem? (i := 101) (by decide +kernel))⟩
theorem f_H_38 : pe_FL "PaintEditor$History" 38 4 6 7 := ⟨"PaintEditor$History", pe_T4, pe_t4, rfl, by decide, pe_k4.1, rfl, pe_k4.2.1, pe_k4.2.2, pe_w1 (List.mem_of_getElem? (i := 102) (by decide +kernel))⟩
theorem f_S_121 : pe_FL "PaintEditor$Screen" 121 4 6 7 := ⟨"PaintEditor$History", pe_T4, pe_t4, rfl, by decide, pe_k4.1, rfl, pe_k4.2.1, pe_k4.2.2, pe_w1 (List.mem_of_getElem? (i := 103) (by decide +kernel))⟩
theorem f_P_140 : pe_FL "PaintEditor" 140 4 6 7 := ⟨"PaintEditor$History", pe_T4, pe_t4, rfl, by decide, pe_k4.1, rfl, pe_k4.2.1, pe_k4.2.2, pe_w1 (List.mem_of_getElem? (i := 104) (by decide +kernel))⟩
theorem f_L_9 : pe_FL "PaintEditor$Layout" 9 5 0 3 := ⟨"PaintEditor$Layout", pe_T5, pe_t5, rfl, by decide, pe_k5.1, rfl, pe_k5.2.1, pe_k5.2.2, pe_w1 (List.mem_of_getElem? (i := 127) (by decide +kernel))⟩
theorem f_S_59 : pe_FL "PaintEditor$Screen" 59 5 0 3 := ⟨"PaintEditor$Layout", pe_T5, pe_t5, rfl, by decide, pe_k5.1, rfl, pe_k5.2.1, pe_k5.2.2, pe_w1 (List.mem_of_getElem? (i := 128) (by decide +kernel))⟩
theorem f_E_152 : pe_FL "PaintEditor$Editor" 152 5 0 3 := ⟨"PaintEditor$Layout", pe_T5, pe_t5, rfl, by decide, pe_k5.1, rfl, pe_k5.2.1, pe_k5.2.2, pe_w1 (List.mem_of_getElem? (i := 129) (by decide +kernel))⟩
theorem f_L_15 : pe_FL "PaintEditor$Layout" 15 5 1 3 := ⟨"PaintEditor$Layout", pe_T5, pe_t5, rfl, by decide, pe_k5.1, rfl, pe_k5.2.1, pe_k5.2.2, pe_w1 (List.mem_of_getElem? (i := 130) (by decide +kernel))⟩
theorem f_S_70 : pe_FL "PaintEditor$Screen" 70 5 1 3 := ⟨"PaintEditor$Layout", pe_T5, pe_t5, rfl, by decide, pe_k5.1, rfl, pe_k5.2.1, pe_k5.2.2, pe_w1 (List.mem_of_getElem? (i := 131) (by decide +kernel))⟩
theorem f_E_149 : pe_FL "PaintEditor$Editor" 149 5 1 3 := ⟨"PaintEditor$Layout", pe_T5, pe_t5, rfl, by decide, pe_k5.1, rfl, pe_k5.2.1, pe_k5.2.2, pe_w1 (List.mem_of_getElem? (i := 132) (by decide +kernel))⟩
theorem f_L_18 : pe_FL "PaintEditor$Layout" 18 5 2 3 := ⟨"PaintEditor$Layout", pe_T5, pe_t5, rfl, by decide, pe_k5.1, rfl, pe_k5.2.1, pe_k5.2.2, pe_w1 (List.mem_of_getElem? (i := 133) (by decide +kernel))⟩
theorem f_S_101 : pe_FL "PaintEditor$Screen" 101 5 2 3 := ⟨"PaintEditor$Layout", pe_T5, pe_t5, rfl, by decide, pe_k5.1, rfl, pe_k5.2.1, pe_k5.2.2, pe_w1 (List.mem_of_getElem? (i := 134) (by decide +kernel))⟩
theorem f_E_12 : pe_FL "PaintEditor$Editor" 12 2 0 12 := ⟨"PaintEditor$Editor", pe_T2, pe_t2, rfl, by decide, pe_k2.1, rfl, pe_k2.2.1, pe_k2.2.2, pe_w1 (List.mem_of_getElem? (i := 142) (by decide +kernel))⟩
theorem f_S_49 : pe_FL "PaintEditor$Screen" 49 2 0 12 := ⟨"PaintEditor$Editor", pe_T2, pe_t2, rfl, by decide, pe_k2.1, rfl, pe_k2.2.1, pe_k2.2.2, pe_w1 (List.mem_of_getElem? (i := 143) (by decide +kernel))⟩
theorem f_P_60 : pe_FL "PaintEditor" 60 2 0 12 := ⟨"PaintEditor$Editor", pe_T2, pe_t2, rfl, by decide, pe_k2.1, rfl, pe_k2.2.1, pe_k2.2.2, pe_w1 (List.mem_of_getElem? (i := 144) (by decide +kernel))⟩
theorem f_E_21 : pe_FL "PaintEditor$Editor" 21 2 1 12 := ⟨"PaintEditor$Editor", pe_T2, pe_t2, rfl, by decide, pe_k2.1, rfl, pe_k2.2.1, pe_k2.2.2, pe_w1 (List.mem_of_getElem? (i := 145) (by decide +kernel))⟩
theorem f_S_117 : pe_FL "PaintEditor$Screen" 117 2 1 12 := ⟨"PaintEditor$Editor", pe_T2, pe_t2, rfl, by decide, pe_k2.1, rfl, pe_k2.2.1, pe_k2.2.2, pe_w1 (List.mem_of_getElem? (i := 146) (by decide +kernel))⟩
theorem f_P_136 : pe_FL "PaintEditor" 136 2 1 12 := ⟨"PaintEditor$Editor", pe_T2, pe_t2, rfl, by decide, pe_k2.1, rfl, pe_k2.2.1, pe_k2.2.2, pe_w1 (List.mem_of_getElem? (i := 147) (by decide +kernel))⟩
theorem f_E_28 : pe_FL "PaintEditor$Editor" 28 2 2 12 := ⟨"PaintEditor$Editor", pe_T2, pe_t2, rfl, by decide, pe_k2.1, rfl, pe_k2.2.1, pe_k2.2.2, pe_w1 (List.mem_of_getElem? (i := 148) (by decide +kernel))⟩
theorem f_S_43 : pe_FL "PaintEditor$Screen" 43 2 2 12 := ⟨"PaintEditor$Editor", pe_T2, pe_t2, rfl, by decide, pe_k2.1, rfl, pe_k2.2.1, pe_k2.2.2, pe_w1 (List.mem_of_getElem? (i := 149) (by decide +kernel))⟩
theorem f_E_32 : pe_FL "PaintEditor$Editor" 32 2 3 12 := ⟨"PaintEditor$Editor", pe_T2, pe_t2, rfl, by decide, pe_k2.1, rfl, pe_k2.2.1, pe_k2.2.2, pe_w1 (List.mem_of_getElem? (i := 150) (by decide +kernel))⟩
theorem f_E_36 : pe_FL "PaintEditor$Editor" 36 2 4 12 := ⟨"PaintEditor$Editor", pe_T2, pe_t2, rfl, by decide, pe_k2.1, rfl, pe_k2.2.1, pe_k2.2.2, pe_w1 (List.mem_of_getElem? (i := 151) (by decide +kernel))⟩
theorem f_E_102 : pe_FL "PaintEditor$Editor" 102 2 5 12 := ⟨"PaintEditor$Editor", pe_T2, pe_t2, rfl, by decide, pe_k2.1, rfl, pe_k2.2.1, pe_k2.2.2, pe_w1 (List.mem_of_getElem? (i := 152) (by decide +kernel))⟩
theorem f_P_133 : pe_FL "PaintEditor" 133 2 5 12 := ⟨"PaintEditor$Editor", pe_T2, pe_t2, rfl, by decide, pe_k2.1, rfl, pe_k2.2.1, pe_k2.2.2, pe_w1 (List.mem_of_getElem? (i := 153) (by decide +kernel))⟩
theorem f_E_50 : pe_FL "PaintEditor$Editor" 50 2 6 12 := ⟨"PaintEditor$Editor", pe_T2, pe_t2, rfl, by decide, pe_k2.1, rfl, pe_k2.2.1, pe_k2.2.2, pe_w1 (List.mem_of_getElem? (i := 154) (by decide +kernel))⟩
theorem f_P_74 : pe_FL "PaintEditor" 74 2 6 12 := ⟨"PaintEditor$Editor", pe_T2, pe_t2, rfl, by decide, pe_k2.1, rfl, pe_k2.2.1, pe_k2.2.2, pe_w1 (List.mem_of_getElem? (i := 155) (by decide +kernel))⟩
theorem f_S_63 : pe_FL "PaintEditor$Screen" 63 2 7 12 := ⟨"PaintEditor$Editor", pe_T2, pe_t2, rfl, by decide, pe_k2.1, rfl, pe_k2.2.1, pe_k2.2.2, pe_w1 (List.mem_of_getElem? (i := 156) (by decide +kernel))⟩
theorem f_E_78 : pe_FL "PaintEditor$Editor" 78 2 7 12 := ⟨"PaintEditor$Editor", pe_T2, pe_t2, rfl, by decide, pe_k2.1, rfl, pe_k2.2.1, pe_k2.2.2, pe_w1 (List.mem_of_getElem? (i := 157) (by decide +kernel))⟩
theorem f_P_127 : pe_FL "PaintEditor" 127 2 7 12 := ⟨"PaintEditor$Editor", pe_T2, pe_t2, rfl, by decide, pe_k2.1, rfl, pe_k2.2.1, pe_k2.2.2, pe_w1 (List.mem_of_getElem? (i := 158) (by decide +kernel))⟩
theorem f_E_39 : pe_FL "PaintEditor$Editor" 39 2 8 12 := ⟨"PaintEditor$Editor", pe_T2, pe_t2, rfl, by decide, pe_k2.1, rfl, pe_k2.2.1, pe_k2.2.2, pe_w1 (List.mem_of_getElem? (i := 159) (by decide +kernel))⟩
theorem f_P_130 : pe_FL "PaintEditor" 130 2 8 12 := ⟨"PaintEditor$Editor", pe_T2, pe_t2, rfl, by decide, pe_k2.1, rfl, pe_k2.2.1, pe_k2.2.2, pe_w1 (List.mem_of_getElem? (i := 160) (by decide +kernel))⟩
theorem f_E_43 : pe_FL "PaintEditor$Editor" 43 2 9 12 := ⟨"PaintEditor$Editor", pe_T2, pe_t2, rfl, by decide, pe_k2.1, rfl, pe_k2.2.1, pe_k2.2.2, pe_w1 (List.mem_of_getElem? (i := 161) (by decide +kernel))⟩
theorem f_P_145 : pe_FL "PaintEditor" 145 2 9 12 := ⟨"PaintEditor$Editor", pe_T2, pe_t2, rfl, by decide, pe_k2.1, rfl, pe_k2.2.1, pe_k2.2.2, pe_w1 (List.mem_of_getElem? (i := 162) (by decide +kernel))⟩
theorem f_E_55 : pe_FL "PaintEditor$Editor" 55 2 10 12 := ⟨"PaintEditor$Editor", pe_T2, pe_t2, rfl, by decide, pe_k2.1, rfl, pe_k2.2.1, pe_k2.2.2, pe_w1 (List.mem_of_getElem? (i := 163) (by decide +kernel))⟩
theorem f_P_154 : pe_FL "PaintEditor" 154 2 10 12 := ⟨"PaintEditor$Editor", pe_T2, pe_t2, rfl, by decide, pe_k2.1, rfl, pe_k2.2.1, pe_k2.2.2, pe_w1 (List.mem_of_getElem? (i := 164) (by decide +kernel))⟩
theorem f_E_46 : pe_FL "PaintEditor$Editor" 46 2 11 12 := ⟨"PaintEditor$Editor", pe_T2, pe_t2, rfl, by decide, pe_k2.1, rfl, pe_k2.2.1, pe_k2.2.2, pe_w1 (List.mem_of_getElem? (i := 165) (by decide +kernel))⟩
theorem f_P_77 : pe_FL "PaintEditor" 77 2 11 12 := ⟨"PaintEditor$Editor", pe_T2, pe_t2, rfl, by decide, pe_k2.1, rfl, pe_k2.2.1, pe_k2.2.2, pe_w1 (List.mem_of_getElem? (i := 166) (by decide +kernel))⟩
theorem f_G_9 : pe_FL "PaintEditor$Grid" 9 7 0 4 := ⟨"PaintEditor$Grid", pe_T7, pe_t7, rfl, by decide, pe_k7.1, rfl, pe_k7.2.1, pe_k7.2.2, pe_w1 (List.mem_of_getElem? (i := 239) (by decide +kernel))⟩
theorem f_G_15 : pe_FL "PaintEditor$Grid" 15 7 1 4 := ⟨"PaintEditor$Grid", pe_T7, pe_t7, rfl, by decide, pe_k7.1, rfl, pe_k7.2.1, pe_k7.2.2, pe_w2 (List.mem_of_getElem? (i := 0) (by decide +kernel))⟩
theorem f_G_18 : pe_FL "PaintEditor$Grid" 18 7 2 4 := ⟨"PaintEditor$Grid", pe_T7, pe_t7, rfl, by decide, pe_k7.1, rfl, pe_k7.2.1, pe_k7.2.2, pe_w2 (List.mem_of_getElem? (i := 1) (by decide +kernel))⟩
theorem f_S_37 : pe_FL "PaintEditor$Screen" 37 7 2 4 := ⟨"PaintEditor$Grid", pe_T7, pe_t7, rfl, by decide, pe_k7.1, rfl, pe_k7.2.1, pe_k7.2.2, pe_w2 (List.mem_of_getElem? (i := 2) (by decide +kernel))⟩
theorem f_Z_53 : pe_FL "PaintEditor$Terminal" 53 7 2 4 := ⟨"PaintEditor$Grid", pe_T7, pe_t7, rfl, by decide, pe_k7.1, rfl, pe_k7.2.1, pe_k7.2.2, pe_w2 (List.mem_of_getElem? (i := 3) (by decide +kernel))⟩
theorem f_Q_77 : pe_FL "PaintEditor$Painter" 77 7 2 4 := ⟨"PaintEditor$Grid", pe_T7, pe_t7, rfl, by decide, pe_k7.1, rfl, pe_k7.2.1, pe_k7.2.2, pe_w2 (List.mem_of_getElem? (i := 4) (by decide +kernel))⟩
theorem f_G_22 : pe_FL "PaintEditor$Grid" 22 7 3 4 := ⟨"PaintEditor$Grid", pe_T7, pe_t7, rfl, by decide, pe_k7.1, rfl, pe_k7.2.1, pe_k7.2.2, pe_w2 (List.mem_of_getElem? (i := 5) (by decide +kernel))⟩
theorem f_S_40 : pe_FL "PaintEditor$Screen" 40 7 3 4 := ⟨"PaintEditor$Grid", pe_T7, pe_t7, rfl, by decide, pe_k7.1, rfl, pe_k7.2.1, pe_k7.2.2, pe_w2 (List.mem_of_getElem? (i := 6) (by decide +kernel))⟩
theorem f_Z_37 : pe_FL "PaintEditor$Terminal" 37 7 3 4 := ⟨"PaintEditor$Grid", pe_T7, pe_t7, rfl, by decide, pe_k7.1, rfl, pe_k7.2.1, pe_k7.2.2, pe_w2 (List.mem_of_getElem? (i := 7) (by decide +kernel))⟩
theorem f_P_105 : pe_FL "PaintEditor" 105 7 3 4 := ⟨"PaintEditor$Grid", pe_T7, pe_t7, rfl, by decide, pe_k7.1, rfl, pe_k7.2.1, pe_k7.2.2, pe_w2 (List.mem_of_getElem? (i := 8) (by decide +kernel))⟩
theorem f_S_23 : pe_FL "PaintEditor$Screen" 23 6 0 5 := ⟨"PaintEditor$Screen", pe_T6, pe_t6, rfl, by decide, pe_k6.1, rfl, pe_k6.2.1, pe_k6.2.2, pe_w2 (List.mem_of_getElem? (i := 18) (by decide +kernel))⟩
theorem f_P_81 : pe_FL "PaintEditor" 81 6 0 5 := ⟨"PaintEditor$Screen", pe_T6, pe_t6, rfl, by decide, pe_k6.1, rfl, pe_k6.2.1, pe_k6.2.2, pe_w2 (List.mem_of_getElem? (i := 19) (by decide +kernel))⟩
theorem f_S_12 : pe_FL "PaintEditor$Screen" 12 6 1 5 := ⟨"PaintEditor$Screen", pe_T6, pe_t6, rfl, by decide, pe_k6.1, rfl, pe_k6.2.1, pe_k6.2.2, pe_w2 (List.mem_of_getElem? (i := 20) (by decide +kernel))⟩
theorem f_S_86 : pe_FL "PaintEditor$Screen" 86 6 2 5 := ⟨"PaintEditor$Screen", pe_T6, pe_t6, rfl, by decide, pe_k6.1, rfl, pe_k6.2.1, pe_k6.2.2, pe_w2 (List.mem_of_getElem? (i := 21) (by decide +kernel))⟩
theorem f_P_148 : pe_FL "PaintEditor" 148 6 2 5 := ⟨"PaintEditor$Screen", pe_T6, pe_t6, rfl, by decide, pe_k6.1, rfl, pe_k6.2.1, pe_k6.2.2, pe_w2 (List.mem_of_getElem? (i := 22) (by decide +kernel))⟩
theorem f_S_30 : pe_FL "PaintEditor$Screen" 30 6 3 5 := ⟨"PaintEditor$Screen", pe_T6, pe_t6, rfl, by decide, pe_k6.1, rfl, pe_k6.2.1, pe_k6.2.2, pe_w2 (List.mem_of_getElem? (i := 23) (by decide +kernel))⟩
theorem f_P_112 : pe_FL "PaintEditor" 112 6 3 5 := ⟨"PaintEditor$Screen", pe_T6, pe_t6, rfl, by decide, pe_k6.1, rfl, pe_k6.2.1, pe_k6.2.2, pe_w2 (List.mem_of_getElem? (i := 24) (by decide +kernel))⟩
theorem f_S_34 : pe_FL "PaintEditor$Screen" 34 6 4 5 := ⟨"PaintEditor$Screen", pe_T6, pe_t6, rfl, by decide, pe_k6.1, rfl, pe_k6.2.1, pe_k6.2.2, pe_w2 (List.mem_of_getElem? (i := 25) (by decide +kernel))⟩
theorem f_P_115 : pe_FL "PaintEditor" 115 6 4 5 := ⟨"PaintEditor$Screen", pe_T6, pe_t6, rfl, by decide, pe_k6.1, rfl, pe_k6.2.1, pe_k6.2.2, pe_w2 (List.mem_of_getElem? (i := 26) (by decide +kernel))⟩
theorem f_Z_14 : pe_FL "PaintEditor$Terminal" 14 10 0 8 := ⟨"PaintEditor$Terminal", pe_T10, pe_t10, rfl, by decide, pe_k10.1, rfl, pe_k10.2.1, pe_k10.2.2, pe_w2 (List.mem_of_getElem? (i := 52) (by decide +kernel))⟩
theorem f_Q_73 : pe_FL "PaintEditor$Painter" 73 10 0 8 := ⟨"PaintEditor$Terminal", pe_T10, pe_t10, rfl, by decide, pe_k10.1, rfl, pe_k10.2.1, pe_k10.2.2, pe_w2 (List.mem_of_getElem? (i := 53) (by decide +kernel))⟩
theorem f_P_157 : pe_FL "PaintEditor" 157 10 0 8 := ⟨"PaintEditor$Terminal", pe_T10, pe_t10, rfl, by decide, pe_k10.1, rfl, pe_k10.2.1, pe_k10.2.2, pe_w2 (List.mem_of_getElem? (i := 54) (by decide +kernel))⟩
theorem f_Z_33 : pe_FL "PaintEditor$Terminal" 33 10 1 8 := ⟨"PaintEditor$Terminal", pe_T10, pe_t10, rfl, by decide, pe_k10.1, rfl, pe_k10.2.1, pe_k10.2.2, pe_w2 (List.mem_of_getElem? (i := 55) (by decide +kernel))⟩
theorem f_Q_113 : pe_FL "PaintEditor$Painter" 113 10 1 8 := ⟨"PaintEditor$Terminal", pe_T10, pe_t10, rfl, by decide, pe_k10.1, rfl, pe_k10.2.1, pe_k10.2.2, pe_w2 (List.mem_of_getElem? (i := 56) (by decide +kernel))⟩
theorem f_P_164 : pe_FL "PaintEditor" 164 10 1 8 := ⟨"PaintEditor$Terminal", pe_T10, pe_t10, rfl, by decide, pe_k10.1, rfl, pe_k10.2.1, pe_k10.2.2, pe_w2 (List.mem_of_getElem? (i := 57) (by decide +kernel))⟩
theorem f_Z_46 : pe_FL "PaintEditor$Terminal" 46 10 2 8 := ⟨"PaintEditor$Terminal", pe_T10, pe_t10, rfl, by decide, pe_k10.1, rfl, pe_k10.2.1, pe_k10.2.2, pe_w2 (List.mem_of_getElem? (i := 58) (by decide +kernel))⟩
theorem f_Q_116 : pe_FL "PaintEditor$Painter" 116 10 2 8 := ⟨"PaintEditor$Terminal", pe_T10, pe_t10, rfl, by decide, pe_k10.1, rfl, pe_k10.2.1, pe_k10.2.2, pe_w2 (List.mem_of_getElem? (i := 59) (by decide +kernel))⟩
theorem f_P_167 : pe_FL "PaintEditor" 167 10 2 8 := ⟨"PaintEditor$Terminal", pe_T10, pe_t10, rfl, by decide, pe_k10.1, rfl, pe_k10.2.1, pe_k10.2.2, pe_w2 (List.mem_of_getElem? (i := 60) (by decide +kernel))⟩
theorem f_Z_29 : pe_FL "PaintEditor$Terminal" 29 10 3 8 := ⟨"PaintEditor$Terminal", pe_T10, pe_t10, rfl, by decide, pe_k10.1, rfl, pe_k10.2.1, pe_k10.2.2, pe_w2 (List.mem_of_getElem? (i := 61) (by decide +kernel))⟩
theorem f_Q_119 : pe_FL "PaintEditor$Painter" 119 10 3 8 := ⟨"PaintEditor$Terminal", pe_T10, pe_t10, rfl, by decide, pe_k10.1, rfl, pe_k10.2.1, pe_k10.2.2, pe_w2 (List.mem_of_getElem? (i := 62) (by decide +kernel))⟩
theorem f_P_170 : pe_FL "PaintEditor" 170 10 3 8 := ⟨"PaintEditor$Terminal", pe_T10, pe_t10, rfl, by decide, pe_k10.1, rfl, pe_k10.2.1, pe_k10.2.2, pe_w2 (List.mem_of_getElem? (i := 63) (by decide +kernel))⟩
theorem f_Z_85 : pe_FL "PaintEditor$Terminal" 85 10 4 8 := ⟨"PaintEditor$Terminal", pe_T10, pe_t10, rfl, by decide, pe_k10.1, rfl, pe_k10.2.1, pe_k10.2.2, pe_w2 (List.mem_of_getElem? (i := 64) (by decide +kernel))⟩
theorem f_Q_101 : pe_FL "PaintEditor$Painter" 101 10 4 8 := ⟨"PaintEditor$Terminal", pe_T10, pe_t10, rfl, by decide, pe_k10.1, rfl, pe_k10.2.1, pe_k10.2.2, pe_w2 (List.mem_of_getElem? (i := 65) (by decide +kernel))⟩
theorem f_P_173 : pe_FL "PaintEditor" 173 10 4 8 := ⟨"PaintEditor$Terminal", pe_T10, pe_t10, rfl, by decide, pe_k10.1, rfl, pe_k10.2.1, pe_k10.2.2, pe_w2 (List.mem_of_getElem? (i := 66) (by decide +kernel))⟩
theorem f_Z_60 : pe_FL "PaintEditor$Terminal" 60 10 5 8 := ⟨"PaintEditor$Terminal", pe_T10, pe_t10, rfl, by decide, pe_k10.1, rfl, pe_k10.2.1, pe_k10.2.2, pe_w2 (List.mem_of_getElem? (i := 67) (by decide +kernel))⟩
theorem f_Z_63 : pe_FL "PaintEditor$Terminal" 63 10 6 8 := ⟨"PaintEditor$Terminal", pe_T10, pe_t10, rfl, by decide, pe_k10.1, rfl, pe_k10.2.1, pe_k10.2.2, pe_w2 (List.mem_of_getElem? (i := 68) (by decide +kernel))⟩
theorem f_Z_69 : pe_FL "PaintEditor$Terminal" 69 10 7 8 := ⟨"PaintEditor$Terminal", pe_T10, pe_t10, rfl, by decide, pe_k10.1, rfl, pe_k10.2.1, pe_k10.2.2, pe_w2 (List.mem_of_getElem? (i := 69) (by decide +kernel))⟩
theorem f_Q_20 : pe_FL "PaintEditor$Painter" 20 9 0 3 := ⟨"PaintEditor$Painter", pe_T9, pe_t9, rfl, by decide, pe_k9.1, rfl, pe_k9.2.1, pe_k9.2.2, pe_w2 (List.mem_of_getElem? (i := 87) (by decide +kernel))⟩
theorem f_P_90 : pe_FL "PaintEditor" 90 9 0 3 := ⟨"PaintEditor$Painter", pe_T9, pe_t9, rfl, by decide, pe_k9.1, rfl, pe_k9.2.1, pe_k9.2.2, pe_w2 (List.mem_of_getElem? (i := 88) (by decide +kernel))⟩
theorem f_Q_9 : pe_FL "PaintEditor$Painter" 9 9 1 3 := ⟨"PaintEditor$Painter", pe_T9, pe_t9, rfl, by decide, pe_k9.1, rfl, pe_k9.2.1, pe_k9.2.2, pe_w2 (List.mem_of_getElem? (i := 89) (by decide +kernel))⟩
theorem f_Q_24 : pe_FL "PaintEditor$Painter" 24 9 2 3 := ⟨"PaintEditor$Painter", pe_T9, pe_t9, rfl, by decide, pe_k9.1, rfl, pe_k9.2.1, pe_k9.2.2, pe_w2 (List.mem_of_getElem? (i := 90) (by decide +kernel))⟩
theorem f_P_121 : pe_FL "PaintEditor" 121 9 2 3 := ⟨"PaintEditor$Painter", pe_T9, pe_t9, rfl, by decide, pe_k9.1, rfl, pe_k9.2.1, pe_k9.2.2, pe_w2 (List.mem_of_getElem? (i := 91) (by decide +kernel))⟩
theorem f_P_21 : pe_FL "PaintEditor" 21 0 0 4 := ⟨"PaintEditor", pe_T0, pe_t0, rfl, by decide, pe_k0.1, rfl, pe_k0.2.1, pe_k0.2.2, pe_w2 (List.mem_of_getElem? (i := 99) (by decide +kernel))⟩
theorem f_P_30 : pe_FL "PaintEditor" 30 0 1 4 := ⟨"PaintEditor", pe_T0, pe_t0, rfl, by decide, pe_k0.1, rfl, pe_k0.2.1, pe_k0.2.2, pe_w2 (List.mem_of_getElem? (i := 100) (by decide +kernel))⟩
theorem f_P_39 : pe_FL "PaintEditor" 39 0 2 4 := ⟨"PaintEditor", pe_T0, pe_t0, rfl, by decide, pe_k0.1, rfl, pe_k0.2.1, pe_k0.2.2, pe_w2 (List.mem_of_getElem? (i := 101) (by decide +kernel))⟩
theorem f_P_46 : pe_FL "PaintEditor" 46 0 3 4 := ⟨"PaintEditor", pe_T0, pe_t0, rfl, by decide, pe_k0.1, rfl, pe_k0.2.1, pe_k0.2.2, pe_w2 (List.mem_of_getElem? (i := 102) (by decide +kernel))⟩
theorem f_M_7 : pe_FL "PaintEditorModel" 7 11 0 44 := ⟨"PaintEditorModel", pe_T11, pe_t11, rfl, by decide, pe_k11.1, rfl, pe_k11.2.1, pe_k11.2.2, pe_w4 (List.mem_of_getElem? (i := 228) (by decide +kernel))⟩
theorem f_M_87 : pe_FL "PaintEditorModel" 87 11 1 44 := ⟨"PaintEditorModel", pe_T11, pe_t11, rfl, by decide, pe_k11.1, rfl, pe_k11.2.1, pe_k11.2.2, pe_w4 (List.mem_of_getElem? (i := 229) (by decide +kernel))⟩
theorem f_M_117 : pe_FL "PaintEditorModel" 117 11 2 44 := ⟨"PaintEditorModel", pe_T11, pe_t11, rfl, by decide, pe_k11.1, rfl, pe_k11.2.1, pe_k11.2.2, pe_w4 (List.mem_of_getElem? (i := 230) (by decide +kernel))⟩
theorem f_M_13 : pe_FL "PaintEditorModel" 13 11 3 44 := ⟨"PaintEditorModel", pe_T11, pe_t11, rfl, by decide, pe_k11.1, rfl, pe_k11.2.1, pe_k11.2.2, pe_w4 (List.mem_of_getElem? (i := 231) (by decide +kernel))⟩
theorem f_M_17 : pe_FL "PaintEditorModel" 17 11 4 44 := ⟨"PaintEditorModel", pe_T11, pe_t11, rfl, by decide, pe_k11.1, rfl, pe_k11.2.1, pe_k11.2.2, pe_w4 (List.mem_of_getElem? (i := 232) (by decide +kernel))⟩
theorem f_M_132 : pe_FL "PaintEditorModel" 132 11 5 44 := ⟨"PaintEditorModel", pe_T11, pe_t11, rfl, by decide, pe_k11.1, rfl, pe_k11.2.1, pe_k11.2.2, pe_w4 (List.mem_of_getElem? (i := 233) (by decide +kernel))⟩
theorem f_M_20 : pe_FL "PaintEditorModel" 20 11 6 44 := ⟨"PaintEditorModel", pe_T11, pe_t11, rfl, by decide, pe_k11.1, rfl, pe_k11.2.1, pe_k11.2.2, pe_w4 (List.mem_of_getElem? (i := 234) (by decide +kernel))⟩
theorem f_M_111 : pe_FL "PaintEditorModel" 111 11 7 44 := ⟨"PaintEditorModel", pe_T11, pe_t11, rfl, by decide, pe_k11.1, rfl, pe_k11.2.1, pe_k11.2.2, pe_w4 (List.mem_of_getElem? (i := 235) (by decide +kernel))⟩
theorem f_M_23 : pe_FL "PaintEditorModel" 23 11 8 44 := ⟨"PaintEditorModel", pe_T11, pe_t11, rfl, by decide, pe_k11.1, rfl, pe_k11.2.1, pe_k11.2.2, pe_w4 (List.mem_of_getElem? (i := 236) (by decide +kernel))⟩
theorem f_M_26 : pe_FL "PaintEditorModel" 26 11 9 44 := ⟨"PaintEditorModel", pe_T11, pe_t11, rfl, by decide, pe_k11.1, rfl, pe_k11.2.1, pe_k11.2.2, pe_w4 (List.mem_of_getElem? (i := 237) (by decide +kernel))⟩
theorem f_M_29 : pe_FL "PaintEditorModel" 29 11 10 44 := ⟨"PaintEditorModel", pe_T11, pe_t11, rfl, by decide, pe_k11.1, rfl, pe_k11.2.1, pe_k11.2.2, pe_w4 (List.mem_of_getElem? (i := 238) (by decide +kernel))⟩
theorem f_M_32 : pe_FL "PaintEditorModel" 32 11 11 44 := ⟨"PaintEditorModel", pe_T11, pe_t11, rfl, by decide, pe_k11.1, rfl, pe_k11.2.1, pe_k11.2.2, pe_w4 (List.mem_of_getElem? (i := 239) (by decide +kernel))⟩
theorem f_M_35 : pe_FL "PaintEditorModel" 35 11 12 44 := ⟨"PaintEditorModel", pe_T11, pe_t11, rfl, by decide, pe_k11.1, rfl, pe_k11.2.1, pe_k11.2.2, pe_w5 (List.mem_of_getElem? (i := 0) (by decide +kernel))⟩
theorem f_M_181 : pe_FL "PaintEditorModel" 181 11 13 44 := ⟨"PaintEditorModel", pe_T11, pe_t11, rfl, by decide, pe_k11.1, rfl, pe_k11.2.1, pe_k11.2.2, pe_w5 (List.mem_of_getElem? (i := 1) (by decide +kernel))⟩
theorem f_M_168 : pe_FL "PaintEditorModel" 168 11 14 44 := ⟨"PaintEditorModel", pe_T11, pe_t11, rfl, by decide, pe_k11.1, rfl, pe_k11.2.1, pe_k11.2.2, pe_w5 (List.mem_of_getElem? (i := 2) (by decide +kernel))⟩
theorem f_M_184 : pe_FL "PaintEditorModel" 184 11 15 44 := ⟨"PaintEditorModel", pe_T11, pe_t11, rfl, by decide, pe_k11.1, rfl, pe_k11.2.1, pe_k11.2.2, pe_w5 (List.mem_of_getElem? (i := 3) (by decide +kernel))⟩
theorem f_M_187 : pe_FL "PaintEditorModel" 187 11 16 44 := ⟨"PaintEditorModel", pe_T11, pe_t11, rfl, by decide, pe_k11.1, rfl, pe_k11.2.1, pe_k11.2.2, pe_w5 (List.mem_of_getElem? (i := 4) (by decide +kernel))⟩
theorem f_M_190 : pe_FL "PaintEditorModel" 190 11 17 44 := ⟨"PaintEditorModel", pe_T11, pe_t11, rfl, by decide, pe_k11.1, rfl, pe_k11.2.1, pe_k11.2.2, pe_w5 (List.mem_of_getElem? (i := 5) (by decide +kernel))⟩
theorem f_M_193 : pe_FL "PaintEditorModel" 193 11 18 44 := ⟨"PaintEditorModel", pe_T11, pe_t11, rfl, by decide, pe_k11.1, rfl, pe_k11.2.1, pe_k11.2.2, pe_w5 (List.mem_of_getElem? (i := 6) (by decide +kernel))⟩
theorem f_M_147 : pe_FL "PaintEditorModel" 147 11 19 44 := ⟨"PaintEditorModel", pe_T11, pe_t11, rfl, by decide, pe_k11.1, rfl, pe_k11.2.1, pe_k11.2.2, pe_w5 (List.mem_of_getElem? (i := 7) (by decide +kernel))⟩
theorem f_M_38 : pe_FL "PaintEditorModel" 38 11 20 44 := ⟨"PaintEditorModel", pe_T11, pe_t11, rfl, by decide, pe_k11.1, rfl, pe_k11.2.1, pe_k11.2.2, pe_w5 (List.mem_of_getElem? (i := 8) (by decide +kernel))⟩
theorem f_M_78 : pe_FL "PaintEditorModel" 78 11 21 44 := ⟨"PaintEditorModel", pe_T11, pe_t11, rfl, by decide, pe_k11.1, rfl, pe_k11.2.1, pe_k11.2.2, pe_w5 (List.mem_of_getElem? (i := 9) (by decide +kernel))⟩
theorem f_M_81 : pe_FL "PaintEditorModel" 81 11 22 44 := ⟨"PaintEditorModel", pe_T11, pe_t11, rfl, by decide, pe_k11.1, rfl, pe_k11.2.1, pe_k11.2.2, pe_w5 (List.mem_of_getElem? (i := 10) (by decide +kernel))⟩
theorem f_M_41 : pe_FL "PaintEditorModel" 41 11 23 44 := ⟨"PaintEditorModel", pe_T11, pe_t11, rfl, by decide, pe_k11.1, rfl, pe_k11.2.1, pe_k11.2.2, pe_w5 (List.mem_of_getElem? (i := 11) (by decide +kernel))⟩
theorem f_M_44 : pe_FL "PaintEditorModel" 44 11 24 44 := ⟨"PaintEditorModel", pe_T11, pe_t11, rfl, by decide, pe_k11.1, rfl, pe_k11.2.1, pe_k11.2.2, pe_w5 (List.mem_of_getElem? (i := 12) (by decide +kernel))⟩
theorem f_M_47 : pe_FL "PaintEditorModel" 47 11 25 44 := ⟨"PaintEditorModel", pe_T11, pe_t11, rfl, by decide, pe_k11.1, rfl, pe_k11.2.1, pe_k11.2.2, pe_w5 (List.mem_of_getElem? (i := 13) (by decide +kernel))⟩
theorem f_M_104 : pe_FL "PaintEditorModel" 104 11 26 44 := ⟨"PaintEditorModel", pe_T11, pe_t11, rfl, by decide, pe_k11.1, rfl, pe_k11.2.1, pe_k11.2.2, pe_w5 (List.mem_of_getElem? (i := 14) (by decide +kernel))⟩
theorem f_M_222 : pe_FL "PaintEditorModel" 222 11 27 44 := ⟨"PaintEditorModel", pe_T11, pe_t11, rfl, by decide, pe_k11.1, rfl, pe_k11.2.1, pe_k11.2.2, pe_w5 (List.mem_of_getElem? (i := 15) (by decide +kernel))⟩
theorem f_M_50 : pe_FL "PaintEditorModel" 50 11 28 44 := ⟨"PaintEditorModel", pe_T11, pe_t11, rfl, by decide, pe_k11.1, rfl, pe_k11.2.1, pe_k11.2.2, pe_w5 (List.mem_of_getElem? (i := 16) (by decide +kernel))⟩
theorem f_M_53 : pe_FL "PaintEditorModel" 53 11 29 44 := ⟨"PaintEditorModel", pe_T11, pe_t11, rfl, by decide, pe_k11.1, rfl, pe_k11.2.1, pe_k11.2.2, pe_w5 (List.mem_of_getElem? (i := 17) (by decide +kernel))⟩
theorem f_M_234 : pe_FL "PaintEditorModel" 234 11 30 44 := ⟨"PaintEditorModel", pe_T11, pe_t11, rfl, by decide, pe_k11.1, rfl, pe_k11.2.1, pe_k11.2.2, pe_w5 (List.mem_of_getElem? (i := 18) (by decide +kernel))⟩
theorem f_M_237 : pe_FL "PaintEditorModel" 237 11 31 44 := ⟨"PaintEditorModel", pe_T11, pe_t11, rfl, by decide, pe_k11.1, rfl, pe_k11.2.1, pe_k11.2.2, pe_w5 (List.mem_of_getElem? (i := 19) (by decide +kernel))⟩
theorem f_M_56 : pe_FL "PaintEditorModel" 56 11 32 44 := ⟨"PaintEditorModel", pe_T11, pe_t11, rfl, by decide, pe_k11.1, rfl, pe_k11.2.1, pe_k11.2.2, pe_w5 (List.mem_of_getElem? (i := 20) (by decide +kernel))⟩
theorem f_M_59 : pe_FL "PaintEditorModel" 59 11 33 44 := ⟨"PaintEditorModel", pe_T11, pe_t11, rfl, by decide, pe_k11.1, rfl, pe_k11.2.1, pe_k11.2.2, pe_w5 (List.mem_of_getElem? (i := 21) (by decide +kernel))⟩
theorem f_M_62 : pe_FL "PaintEditorModel" 62 11 34 44 := ⟨"PaintEditorModel", pe_T11, pe_t11, rfl, by decide, pe_k11.1, rfl, pe_k11.2.1, pe_k11.2.2, pe_w5 (List.mem_of_getElem? (i := 22) (by decide +kernel))⟩
theorem f_M_65 : pe_FL "PaintEditorModel" 65 11 35 44 := ⟨"PaintEditorModel", pe_T11, pe_t11, rfl, by decide, pe_k11.1, rfl, pe_k11.2.1, pe_k11.2.2, pe_w5 (List.mem_of_getElem? (i := 23) (by decide +kernel))⟩
theorem f_M_263 : pe_FL "PaintEditorModel" 263 11 36 44 := ⟨"PaintEditorModel", pe_T11, pe_t11, rfl, by decide, pe_k11.1, rfl, pe_k11.2.1, pe_k11.2.2, pe_w5 (List.mem_of_getElem? (i := 24) (by decide +kernel))⟩
theorem f_M_266 : pe_FL "PaintEditorModel" 266 11 37 44 := ⟨"PaintEditorModel", pe_T11, pe_t11, rfl, by decide, pe_k11.1, rfl, pe_k11.2.1, pe_k11.2.2, pe_w5 (List.mem_of_getElem? (i := 25) (by decide +kernel))⟩
theorem f_M_260 : pe_FL "PaintEditorModel" 260 11 38 44 := ⟨"PaintEditorModel", pe_T11, pe_t11, rfl, by decide, pe_k11.1, rfl, pe_k11.2.1, pe_k11.2.2, pe_w5 (List.mem_of_getElem? (i := 26) (by decide +kernel))⟩
theorem f_M_272 : pe_FL "PaintEditorModel" 272 11 39 44 := ⟨"PaintEditorModel", pe_T11, pe_t11, rfl, by decide, pe_k11.1, rfl, pe_k11.2.1, pe_k11.2.2, pe_w5 (List.mem_of_getElem? (i := 27) (by decide +kernel))⟩
theorem f_M_68 : pe_FL "PaintEditorModel" 68 11 40 44 := ⟨"PaintEditorModel", pe_T11, pe_t11, rfl, by decide, pe_k11.1, rfl, pe_k11.2.1, pe_k11.2.2, pe_w5 (List.mem_of_getElem? (i := 28) (by decide +kernel))⟩
theorem f_M_71 : pe_FL "PaintEditorModel" 71 11 41 44 := ⟨"PaintEditorModel", pe_T11, pe_t11, rfl, by decide, pe_k11.1, rfl, pe_k11.2.1, pe_k11.2.2, pe_w5 (List.mem_of_getElem? (i := 29) (by decide +kernel))⟩
theorem f_M_75 : pe_FL "PaintEditorModel" 75 11 42 44 := ⟨"PaintEditorModel", pe_T11, pe_t11, rfl, by decide, pe_k11.1, rfl, pe_k11.2.1, pe_k11.2.2, pe_w5 (List.mem_of_getElem? (i := 30) (by decide +kernel))⟩
theorem f_M_250 : pe_FL "PaintEditorModel" 250 11 43 44 := ⟨"PaintEditorModel", pe_T11, pe_t11, rfl, by decide, pe_k11.1, rfl, pe_k11.2.1, pe_k11.2.2, pe_w5 (List.mem_of_getElem? (i := 31) (by decide +kernel))⟩
/-! fields that may be put: g_<class number>_<place> -/
theorem g_1_0 : pe_FP 1 0 .int := ⟨"PaintEditor$Keyboard", pe_T1, 7, rfl, rfl, by decide +kernel⟩
theorem g_1_1 : pe_FP 1 1 .int := ⟨"PaintEditor$Keyboard", pe_T1, 7, rfl, rfl, by decide +kernel⟩
theorem g_1_2 : pe_FP 1 2 .int := ⟨"PaintEditor$Keyboard", pe_T1, 7, rfl, rfl, by decide +kernel⟩
theorem g_1_3 : pe_FP 1 3 .int := ⟨"PaintEditor$Keyboard", pe_T1, 7, rfl, rfl, by decide +kernel⟩
theorem g_1_4 : pe_FP 1 4 .int := ⟨"PaintEditor$Keyboard", pe_T1, 7, rfl, rfl, by decide +kernel⟩
theorem g_1_5 : pe_FP 1 5 .int := ⟨"PaintEditor$Keyboard", pe_T1, 7, rfl, rfl, by decide +kernel⟩
theorem g_1_6 : pe_FP 1 6 .int := ⟨"PaintEditor$Keyboard", pe_T1, 7, rfl, rfl, by decide +kernel⟩
theorem g_2_5 : pe_FP 2 5 .int := ⟨"PaintEditor$Editor", pe_T2, 12, rfl, rfl, by decide +kernel⟩
theorem g_2_6 : pe_FP 2 6 .int := ⟨"PaintEditor$Editor", pe_T2, 12, rfl, rfl, by decide +kernel⟩
theorem g_2_7 : pe_FP 2 7 .int := ⟨"PaintEditor$Editor", pe_T2, 12, rfl, rfl, by decide +kernel⟩
theorem g_2_8 : pe_FP 2 8 .int := ⟨"PaintEditor$Editor", pe_T2, 12, rfl, rfl, by decide +kernel⟩
theorem g_2_9 : pe_FP 2 9 .int := ⟨"PaintEditor$Editor", pe_T2, 12, rfl, rfl, by decide +kernel⟩
theorem g_2_10 : pe_FP 2 10 .boolean := ⟨"PaintEditor$Editor", pe_T2, 12, rfl, rfl, by decide +kernel⟩
theorem g_2_11 : pe_FP 2 11 .boolean := ⟨"PaintEditor$Editor", pe_T2, 12, rfl, rfl, by decide +kernel⟩
theorem g_3_1 : pe_FP 3 1 .int := ⟨"PaintEditor$Text", pe_T3, 2, rfl, rfl, by decide +kernel⟩
theorem g_4_5 : pe_FP 4 5 .int := ⟨"PaintEditor$History", pe_T4, 7, rfl, rfl, by decide +kernel⟩
theorem g_4_6 : pe_FP 4 6 .int := ⟨"PaintEditor$History", pe_T4, 7, rfl, rfl, by decide +kernel⟩
theorem g_6_2 : pe_FP 6 2 .int := ⟨"PaintEditor$Screen", pe_T6, 5, rfl, rfl, by decide +kernel⟩
theorem g_6_3 : pe_FP 6 3 .int := ⟨"PaintEditor$Screen", pe_T6, 5, rfl, rfl, by decide +kernel⟩
theorem g_6_4 : pe_FP 6 4 .int := ⟨"PaintEditor$Screen", pe_T6, 5, rfl, rfl, by decide +kernel⟩
theorem g_7_2 : pe_FP 7 2 .int := ⟨"PaintEditor$Grid", pe_T7, 4, rfl, rfl, by decide +kernel⟩
theorem g_7_3 : pe_FP 7 3 .int := ⟨"PaintEditor$Grid", pe_T7, 4, rfl, rfl, by decide +kernel⟩
theorem g_9_2 : pe_FP 9 2 .int := ⟨"PaintEditor$Painter", pe_T9, 3, rfl, rfl, by decide +kernel⟩
theorem g_10_1 : pe_FP 10 1 .int := ⟨"PaintEditor$Terminal", pe_T10, 8, rfl, rfl, by decide +kernel⟩
theorem g_10_2 : pe_FP 10 2 .int := ⟨"PaintEditor$Terminal", pe_T10, 8, rfl, rfl, by decide +kernel⟩
theorem g_10_3 : pe_FP 10 3 .boolean := ⟨"PaintEditor$Terminal", pe_T10, 8, rfl, rfl, by decide +kernel⟩
theorem g_10_4 : pe_FP 10 4 .int := ⟨"PaintEditor$Terminal", pe_T10, 8, rfl, rfl, by decide +kernel⟩
theorem g_10_5 : pe_FP 10 5 .int := ⟨"PaintEditor$Terminal", pe_T10, 8, rfl, rfl, by decide +kernel⟩
theorem g_10_6 : pe_FP 10 6 .int := ⟨"PaintEditor$Terminal", pe_T10, 8, rfl, rfl, by decide +kernel⟩
theorem g_10_7 : pe_FP 10 7 .boolean := ⟨"PaintEditor$Terminal", pe_T10, 8, rfl, rfl, by decide +kernel⟩
theorem g_11_1 : pe_FP 11 1 .int := ⟨"PaintEditorModel", pe_T11, 44, rfl, rfl, by decide +kernel⟩
theorem g_11_2 : pe_FP 11 2 .int := ⟨"PaintEditorModel", pe_T11, 44, rfl, rfl, by decide +kernel⟩
theorem g_11_3 : pe_FP 11 3 .int := ⟨"PaintEditorModel", pe_T11, 44, rfl, rfl, by decide +kernel⟩
theorem g_11_5 : pe_FP 11 5 .int := ⟨"PaintEditorModel", pe_T11, 44, rfl, rfl, by decide +kernel⟩
theorem g_11_6 : pe_FP 11 6 .int := ⟨"PaintEditorModel", pe_T11, 44, rfl, rfl, by decide +kernel⟩
theorem g_11_7 : pe_FP 11 7 .int := ⟨"PaintEditorModel", pe_T11, 44, rfl, rfl, by decide +kernel⟩
theorem g_11_13 : pe_FP 11 13 .int := ⟨"PaintEditorModel", pe_T11, 44, rfl, rfl, by decide +kernel⟩
theorem g_11_14 : pe_FP 11 14 .int := ⟨"PaintEditorModel", pe_T11, 44, rfl, rfl, by decide +kernel⟩
theorem g_11_15 : pe_FP 11 15 .int := ⟨"PaintEditorModel", pe_T11, 44, rfl, rfl, by decide +kernel⟩
theorem g_11_16 : pe_FP 11 16 .int := ⟨"PaintEditorModel", pe_T11, 44, rfl, rfl, by decide +kernel⟩
theorem g_11_17 : pe_FP 11 17 .int := ⟨"PaintEditorModel", pe_T11, 44, rfl, rfl, by decide +kernel⟩
theorem g_11_18 : pe_FP 11 18 .int := ⟨"PaintEditorModel", pe_T11, 44, rfl, rfl, by decide +kernel⟩
theorem g_11_19 : pe_FP 11 19 .boolean := ⟨"PaintEditorModel", pe_T11, 44, rfl, rfl, by decide +kernel⟩
theorem g_11_20 : pe_FP 11 20 .int := ⟨"PaintEditorModel", pe_T11, 44, rfl, rfl, by decide +kernel⟩
theorem g_11_21 : pe_FP 11 21 .int := ⟨"PaintEditorModel", pe_T11, 44, rfl, rfl, by decide +kernel⟩
theorem g_11_22 : pe_FP 11 22 .int := ⟨"PaintEditorModel", pe_T11, 44, rfl, rfl, by decide +kernel⟩
theorem g_11_26 : pe_FP 11 26 .int := ⟨"PaintEditorModel", pe_T11, 44, rfl, rfl, by decide +kernel⟩
theorem g_11_27 : pe_FP 11 27 .int := ⟨"PaintEditorModel", pe_T11, 44, rfl, rfl, by decide +kernel⟩
theorem g_11_30 : pe_FP 11 30 .int := ⟨"PaintEditorModel", pe_T11, 44, rfl, rfl, by decide +kernel⟩
theorem g_11_31 : pe_FP 11 31 .int := ⟨"PaintEditorModel", pe_T11, 44, rfl, rfl, by decide +kernel⟩
theorem g_11_36 : pe_FP 11 36 .int := ⟨"PaintEditorModel", pe_T11, 44, rfl, rfl, by decide +kernel⟩
theorem g_11_37 : pe_FP 11 37 .int := ⟨"PaintEditorModel", pe_T11, 44, rfl, rfl, by decide +kernel⟩
theorem g_11_38 : pe_FP 11 38 .boolean := ⟨"PaintEditorModel", pe_T11, 44, rfl, rfl, by decide +kernel⟩
theorem g_11_39 : pe_FP 11 39 .int := ⟨"PaintEditorModel", pe_T11, 44, rfl, rfl, by decide +kernel⟩
theorem g_11_40 : pe_FP 11 40 .int := ⟨"PaintEditorModel", pe_T11, 44, rfl, rfl, by decide +kernel⟩
theorem g_11_41 : pe_FP 11 41 .boolean := ⟨"PaintEditorModel", pe_T11, 44, rfl, rfl, by decide +kernel⟩
theorem g_11_43 : pe_FP 11 43 .int := ⟨"PaintEditorModel", pe_T11, 44, rfl, rfl, by decide +kernel⟩
/-! calls that are linked: c_<class>_<pool entry>; what a callee is: i_, s_ (instance, selected) or z_ (static) -/
theorem c_G_25 : pe_CL "PaintEditor$Grid" 25 m_A_fill 2 := ⟨pe_w1 (List.mem_of_getElem? (i := 236) (by decide +kernel)), pe_w1 (List.mem_of_getElem? (i := 238) rfl), pe_w1 (List.mem_of_getElem? (i := 14) (by decide +kernel)), by decide, by decide, by decide +kernel⟩
theorem c_P_50 : pe_CL "PaintEditor" 50 m_K_leave 1 := ⟨pe_w2 (List.mem_of_getElem? (i := 116) (by decide +kernel)), pe_w2 (List.mem_of_getElem? (i := 119) rfl), pe_w1 (List.mem_of_getElem? (i := 3) (by decide +kernel)), by decide, by decide, by decide +kernel⟩
theorem c_K_18 : pe_CL "PaintEditor$Keyboard" 18 m_K_goesOn 1 := ⟨pe_w2 (List.mem_of_getElem? (i := 120) (by decide +kernel)), pe_w2 (List.mem_of_getElem? (i := 123) rfl), pe_w1 (List.mem_of_getElem? (i := 3) (by decide +kernel)), by decide, by decide, by decide +kernel⟩
theorem c_K_40 : pe_CL "PaintEditor$Keyboard" 40 m_K_isDigit 1 := ⟨pe_w2 (List.mem_of_getElem? (i := 124) (by decide +kernel)), pe_w2 (List.mem_of_getElem? (i := 126) rfl), pe_w1 (List.mem_of_getElem? (i := 3) (by decide +kernel)), by decide, by decide, by decide +kernel⟩
theorem c_K_43 : pe_CL "PaintEditor$Keyboard" 43 m_K_isFinal 1 := ⟨pe_w2 (List.mem_of_getElem? (i := 127) (by decide +kernel)), pe_w2 (List.mem_of_getElem? (i := 129) rfl), pe_w1 (List.mem_of_getElem? (i := 3) (by decide +kernel)), by decide, by decide, by decide +kernel⟩
theorem c_K_22 : pe_CL "PaintEditor$Keyboard" 22 m_K_giveUp 0 := ⟨pe_w2 (List.mem_of_getElem? (i := 130) (by decide +kernel)), pe_w2 (List.mem_of_getElem? (i := 133) rfl), pe_w1 (List.mem_of_getElem? (i := 3) (by decide +kernel)), by decide, by decide, by decide +kernel⟩
theorem c_P_54 : pe_CL "PaintEditor" 54 m_E_press 1 := ⟨pe_w2 (List.mem_of_getElem? (i := 135) (by decide +kernel)), pe_w2 (List.mem_of_getElem? (i := 138) rfl), pe_w1 (List.mem_of_getElem? (i := 4) (by decide +kernel)), by decide, by decide, by decide +kernel⟩
theorem c_E_58 : pe_CL "PaintEditor$Editor" 58 m_E_moveByRow 1 := ⟨pe_w2 (List.mem_of_getElem? (i := 141) (by decide +kernel)), pe_w2 (List.mem_of_getElem? (i := 144) rfl), pe_w1 (List.mem_of_getElem? (i := 4) (by decide +kernel)), by decide, by decide, by decide +kernel⟩
theorem c_E_145 : pe_CL "PaintEditor$Editor" 145 m_L_lay 2 := ⟨pe_w2 (List.mem_of_getElem? (i := 145) (by decide +kernel)), pe_w2 (List.mem_of_getElem? (i := 148) rfl), pe_w1 (List.mem_of_getElem? (i := 7) (by decide +kernel)), by decide, by decide, by decide +kernel⟩
theorem c_L_27 : pe_CL "PaintEditor$Layout" 27 m_T_isBeginning 1 := ⟨pe_w2 (List.mem_of_getElem? (i := 149) (by decide +kernel)), pe_w2 (List.mem_of_getElem? (i := 152) rfl), pe_w1 (List.mem_of_getElem? (i := 5) (by decide +kernel)), by decide, by decide, by decide +kernel⟩
theorem c_T_25 : pe_CL "PaintEditor$Text" 25 m_T_codeAt 1 := ⟨pe_w2 (List.mem_of_getElem? (i := 153) (by decide +kernel)), pe_w2 (List.mem_of_getElem? (i := 156) rfl), pe_w1 (List.mem_of_getElem? (i := 5) (by decide +kernel)), by decide, by decide, by decide +kernel⟩
theorem c_T_29 : pe_CL "PaintEditor$Text" 29 m_C_isMark 1 := ⟨pe_w2 (List.mem_of_getElem? (i := 157) (by decide +kernel)), pe_w2 (List.mem_of_getElem? (i := 159) rfl), pe_w1 (List.mem_of_getElem? (i := 18) (by decide +kernel)), by decide, by decide, by decide +kernel⟩
theorem c_T_35 : pe_CL "PaintEditor$Text" 35 m_C_takesMarks 1 := ⟨pe_w2 (List.mem_of_getElem? (i := 160) (by decide +kernel)), pe_w2 (List.mem_of_getElem? (i := 162) rfl), pe_w1 (List.mem_of_getElem? (i := 18) (by decide +kernel)), by decide, by decide, by decide +kernel⟩
theorem c_C_9 : pe_CL "PaintEditor$Codes" 9 m_C_isMark 1 := ⟨pe_w2 (List.mem_of_getElem? (i := 163) (by decide +kernel)), pe_w2 (List.mem_of_getElem? (i := 159) rfl), pe_w1 (List.mem_of_getElem? (i := 18) (by decide +kernel)), by decide, by decide, by decide +kernel⟩
theorem c_L_31 : pe_CL "PaintEditor$Layout" 31 m_T_codeAt 1 := ⟨pe_w2 (List.mem_of_getElem? (i := 164) (by decide +kernel)), pe_w2 (List.mem_of_getElem? (i := 156) rfl), pe_w1 (List.mem_of_getElem? (i := 5) (by decide +kernel)), by decide, by decide, by decide +kernel⟩
theorem c_L_35 : pe_CL "PaintEditor$Layout" 35 m_C_widthOf 1 := ⟨pe_w2 (List.mem_of_getElem? (i := 165) (by decide +kernel)), pe_w2 (List.mem_of_getElem? (i := 167) rfl), pe_w1 (List.mem_of_getElem? (i := 18) (by decide +kernel)), by decide, by decide, by decide +kernel⟩
theorem c_C_18 : pe_CL "PaintEditor$Codes" 18 m_C_isWide 1 := ⟨pe_w2 (List.mem_of_getElem? (i := 168) (by decide +kernel)), pe_w2 (List.mem_of_getElem? (i := 170) rfl), pe_w1 (List.mem_of_getElem? (i := 18) (by decide +kernel)), by decide, by decide, by decide +kernel⟩
theorem c_E_155 : pe_CL "PaintEditor$Editor" 155 m_L_placeIn 3 := ⟨pe_w2 (List.mem_of_getElem? (i := 175) (by decide +kernel)), pe_w2 (List.mem_of_getElem? (i := 178) rfl), pe_w1 (List.mem_of_getElem? (i := 7) (by decide +kernel)), by decide, by decide, by decide +kernel⟩
theorem c_E_62 : pe_CL "PaintEditor$Editor" 62 m_E_worksWhilePasting 1 := ⟨pe_w2 (List.mem_of_getElem? (i := 179) (by decide +kernel)), pe_w2 (List.mem_of_getElem? (i := 181) rfl), pe_w1 (List.mem_of_getElem? (i := 4) (by decide +kernel)), by decide, by decide, by decide +kernel⟩
theorem c_E_69 : pe_CL "PaintEditor$Editor" 69 m_E_isCharacter 1 := ⟨pe_w2 (List.mem_of_getElem? (i := 182) (by decide +kernel)), pe_w2 (List.mem_of_getElem? (i := 184) rfl), pe_w1 (List.mem_of_getElem? (i := 4) (by decide +kernel)), by decide, by decide, by decide +kernel⟩
theorem c_E_66 : pe_CL "PaintEditor$Editor" 66 m_E_worksOtherwise 1 := ⟨pe_w2 (List.mem_of_getElem? (i := 186) (by decide +kernel)), pe_w2 (List.mem_of_getElem? (i := 188) rfl), pe_w1 (List.mem_of_getElem? (i := 4) (by decide +kernel)), by decide, by decide, by decide +kernel⟩
theorem c_E_72 : pe_CL "PaintEditor$Editor" 72 m_E_insertOne 1 := ⟨pe_w2 (List.mem_of_getElem? (i := 189) (by decide +kernel)), pe_w2 (List.mem_of_getElem? (i := 192) rfl), pe_w1 (List.mem_of_getElem? (i := 4) (by decide +kernel)), by decide, by decide, by decide +kernel⟩
theorem c_E_105 : pe_CL "PaintEditor$Editor" 105 m_E_insert 2 := ⟨pe_w2 (List.mem_of_getElem? (i := 193) (by decide +kernel)), pe_w2 (List.mem_of_getElem? (i := 196) rfl), pe_w1 (List.mem_of_getElem? (i := 4) (by decide +kernel)), by decide, by decide, by decide +kernel⟩
theorem c_E_112 : pe_CL "PaintEditor$Editor" 112 m_T_hasRoomFor 1 := ⟨pe_w2 (List.mem_of_getElem? (i := 197) (by decide +kernel)), pe_w2 (List.mem_of_getElem? (i := 200) rfl), pe_w1 (List.mem_of_getElem? (i := 5) (by decide +kernel)), by decide, by decide, by decide +kernel⟩
theorem c_E_115 : pe_CL "PaintEditor$Editor" 115 m_H_keepInsertion 2 := ⟨pe_w2 (List.mem_of_getElem? (i := 201) (by decide +kernel)), pe_w2 (List.mem_of_getElem? (i := 204) rfl), pe_w1 (List.mem_of_getElem? (i := 6) (by decide +kernel)), by decide, by decide, by decide +kernel⟩
theorem c_H_28 : pe_CL "PaintEditor$History" 28 m_H_newSlot 0 := ⟨pe_w2 (List.mem_of_getElem? (i := 205) (by decide +kernel)), pe_w2 (List.mem_of_getElem? (i := 208) rfl), pe_w1 (List.mem_of_getElem? (i := 6) (by decide +kernel)), by decide, by decide, by decide +kernel⟩
theorem c_E_118 : pe_CL "PaintEditor$Editor" 118 m_T_insert 4 := ⟨pe_w2 (List.mem_of_getElem? (i := 209) (by decide +kernel)), pe_w2 (List.mem_of_getElem? (i := 212) rfl), pe_w1 (List.mem_of_getElem? (i := 5) (by decide +kernel)), by decide, by decide, by decide +kernel⟩
theorem c_E_75 : pe_CL "PaintEditor$Editor" 75 m_E_command 1 := ⟨pe_w2 (List.mem_of_getElem? (i := 216) (by decide +kernel)), pe_w2 (List.mem_of_getElem? (i := 219) rfl), pe_w1 (List.mem_of_getElem? (i := 4) (by decide +kernel)), by decide, by decide, by decide +kernel⟩
theorem c_E_86 : pe_CL "PaintEditor$Editor" 86 m_T_beginningAhead 1 := ⟨pe_w2 (List.mem_of_getElem? (i := 220) (by decide +kernel)), pe_w2 (List.mem_of_getElem? (i := 223) rfl), pe_w1 (List.mem_of_getElem? (i := 5) (by decide +kernel)), by decide, by decide, by decide +kernel⟩
theorem c_T_38 : pe_CL "PaintEditor$Text" 38 m_T_isBeginning 1 := ⟨pe_w2 (List.mem_of_getElem? (i := 224) (by decide +kernel)), pe_w2 (List.mem_of_getElem? (i := 152) rfl), pe_w1 (List.mem_of_getElem? (i := 5) (by decide +kernel)), by decide, by decide, by decide +kernel⟩
theorem c_E_89 : pe_CL "PaintEditor$Editor" 89 m_E_removeBetween 2 := ⟨pe_w2 (List.mem_of_getElem? (i := 226) (by decide +kernel)), pe_w2 (List.mem_of_getElem? (i := 229) rfl), pe_w1 (List.mem_of_getElem? (i := 4) (by decide +kernel)), by decide, by decide, by decide +kernel⟩
theorem c_E_121 : pe_CL "PaintEditor$Editor" 121 m_H_keepRemoval 4 := ⟨pe_w2 (List.mem_of_getElem? (i := 230) (by decide +kernel)), pe_w2 (List.mem_of_getElem? (i := 233) rfl), pe_w1 (List.mem_of_getElem? (i := 6) (by decide +kernel)), by decide, by decide, by decide +kernel⟩
theorem c_H_32 : pe_CL "PaintEditor$History" 32 m_T_copyTo 4 := ⟨pe_w2 (List.mem_of_getElem? (i := 234) (by decide +kernel)), pe_w2 (List.mem_of_getElem? (i := 237) rfl), pe_w1 (List.mem_of_getElem? (i := 5) (by decide +kernel)), by decide, by decide, by decide +kernel⟩
theorem c_E_125 : pe_CL "PaintEditor$Editor" 125 m_T_remove 2 := ⟨pe_w2 (List.mem_of_getElem? (i := 238) (by decide +kernel)), pe_w3 (List.mem_of_getElem? (i := 1) rfl), pe_w1 (List.mem_of_getElem? (i := 5) (by decide +kernel)), by decide, by decide, by decide +kernel⟩
theorem c_E_81 : pe_CL "PaintEditor$Editor" 81 m_T_beginningFrom 1 := ⟨pe_w3 (List.mem_of_getElem? (i := 2) (by decide +kernel)), pe_w3 (List.mem_of_getElem? (i := 5) rfl), pe_w1 (List.mem_of_getElem? (i := 5) (by decide +kernel)), by decide, by decide, by decide +kernel⟩
theorem c_E_93 : pe_CL "PaintEditor$Editor" 93 m_T_lineBeginning 1 := ⟨pe_w3 (List.mem_of_getElem? (i := 7) (by decide +kernel)), pe_w3 (List.mem_of_getElem? (i := 10) rfl), pe_w1 (List.mem_of_getElem? (i := 5) (by decide +kernel)), by decide, by decide, by decide +kernel⟩
theorem c_E_96 : pe_CL "PaintEditor$Editor" 96 m_T_lineEnd 1 := ⟨pe_w3 (List.mem_of_getElem? (i := 11) (by decide +kernel)), pe_w3 (List.mem_of_getElem? (i := 14) rfl), pe_w1 (List.mem_of_getElem? (i := 5) (by decide +kernel)), by decide, by decide, by decide +kernel⟩
theorem c_E_99 : pe_CL "PaintEditor$Editor" 99 m_E_cut 0 := ⟨pe_w3 (List.mem_of_getElem? (i := 15) (by decide +kernel)), pe_w3 (List.mem_of_getElem? (i := 18) rfl), pe_w1 (List.mem_of_getElem? (i := 4) (by decide +kernel)), by decide, by decide, by decide +kernel⟩
theorem c_E_137 : pe_CL "PaintEditor$Editor" 137 m_T_copyTo 4 := ⟨pe_w3 (List.mem_of_getElem? (i := 21) (by decide +kernel)), pe_w2 (List.mem_of_getElem? (i := 237) rfl), pe_w1 (List.mem_of_getElem? (i := 5) (by decide +kernel)), by decide, by decide, by decide +kernel⟩
theorem c_E_109 : pe_CL "PaintEditor$Editor" 109 m_E_undo 0 := ⟨pe_w3 (List.mem_of_getElem? (i := 22) (by decide +kernel)), pe_w3 (List.mem_of_getElem? (i := 25) rfl), pe_w1 (List.mem_of_getElem? (i := 4) (by decide +kernel)), by decide, by decide, by decide +kernel⟩
theorem c_E_141 : pe_CL "PaintEditor$Editor" 141 m_H_undoIn 1 := ⟨pe_w3 (List.mem_of_getElem? (i := 26) (by decide +kernel)), pe_w3 (List.mem_of_getElem? (i := 29) rfl), pe_w1 (List.mem_of_getElem? (i := 6) (by decide +kernel)), by decide, by decide, by decide +kernel⟩
theorem c_H_45 : pe_CL "PaintEditor$History" 45 m_T_insert 4 := ⟨pe_w3 (List.mem_of_getElem? (i := 30) (by decide +kernel)), pe_w2 (List.mem_of_getElem? (i := 212) rfl), pe_w1 (List.mem_of_getElem? (i := 5) (by decide +kernel)), by decide, by decide, by decide +kernel⟩
theorem c_H_49 : pe_CL "PaintEditor$History" 49 m_T_remove 2 := ⟨pe_w3 (List.mem_of_getElem? (i := 31) (by decide +kernel)), pe_w3 (List.mem_of_getElem? (i := 1) rfl), pe_w1 (List.mem_of_getElem? (i := 5) (by decide +kernel)), by decide, by decide, by decide +kernel⟩
theorem c_P_57 : pe_CL "PaintEditor" 57 m_K_take 1 := ⟨pe_w3 (List.mem_of_getElem? (i := 32) (by decide +kernel)), pe_w3 (List.mem_of_getElem? (i := 35) rfl), pe_w1 (List.mem_of_getElem? (i := 3) (by decide +kernel)), by decide, by decide, by decide +kernel⟩
theorem c_K_30 : pe_CL "PaintEditor$Keyboard" 30 m_K_takeInSequence 1 := ⟨pe_w3 (List.mem_of_getElem? (i := 36) (by decide +kernel)), pe_w3 (List.mem_of_getElem? (i := 39) rfl), pe_w1 (List.mem_of_getElem? (i := 3) (by decide +kernel)), by decide, by decide, by decide +kernel⟩
theorem c_K_74 : pe_CL "PaintEditor$Keyboard" 74 m_K_numberedKey 0 := ⟨pe_w3 (List.mem_of_getElem? (i := 47) (by decide +kernel)), pe_w3 (List.mem_of_getElem? (i := 50) rfl), pe_w1 (List.mem_of_getElem? (i := 3) (by decide +kernel)), by decide, by decide, by decide +kernel⟩
theorem c_K_34 : pe_CL "PaintEditor$Keyboard" 34 m_K_takeWithin 1 := ⟨pe_w3 (List.mem_of_getElem? (i := 54) (by decide +kernel)), pe_w3 (List.mem_of_getElem? (i := 57) rfl), pe_w1 (List.mem_of_getElem? (i := 3) (by decide +kernel)), by decide, by decide, by decide +kernel⟩
theorem c_K_37 : pe_CL "PaintEditor$Keyboard" 37 m_K_takePlain 1 := ⟨pe_w3 (List.mem_of_getElem? (i := 58) (by decide +kernel)), pe_w3 (List.mem_of_getElem? (i := 61) rfl), pe_w1 (List.mem_of_getElem? (i := 3) (by decide +kernel)), by decide, by decide, by decide +kernel⟩
theorem c_K_52 : pe_CL "PaintEditor$Keyboard" 52 m_K_beginCharacter 1 := ⟨pe_w3 (List.mem_of_getElem? (i := 62) (by decide +kernel)), pe_w3 (List.mem_of_getElem? (i := 65) rfl), pe_w1 (List.mem_of_getElem? (i := 3) (by decide +kernel)), by decide, by decide, by decide +kernel⟩
theorem c_P_70 : pe_CL "PaintEditor" 70 m_K_giveUp 0 := ⟨pe_w3 (List.mem_of_getElem? (i := 70) (by decide +kernel)), pe_w2 (List.mem_of_getElem? (i := 133) rfl), pe_w1 (List.mem_of_getElem? (i := 3) (by decide +kernel)), by decide, by decide, by decide +kernel⟩
theorem c_P_85 : pe_CL "PaintEditor" 85 m_G_resize 2 := ⟨pe_w3 (List.mem_of_getElem? (i := 75) (by decide +kernel)), pe_w3 (List.mem_of_getElem? (i := 78) rfl), pe_w1 (List.mem_of_getElem? (i := 13) (by decide +kernel)), by decide, by decide, by decide +kernel⟩
theorem c_G_56 : pe_CL "PaintEditor$Grid" 56 m_G_blankFrom 2 := ⟨pe_w3 (List.mem_of_getElem? (i := 79) (by decide +kernel)), pe_w3 (List.mem_of_getElem? (i := 82) rfl), pe_w1 (List.mem_of_getElem? (i := 13) (by decide +kernel)), by decide, by decide, by decide +kernel⟩
theorem c_G_52 : pe_CL "PaintEditor$Grid" 52 m_G_put 4 := ⟨pe_w3 (List.mem_of_getElem? (i := 83) (by decide +kernel)), pe_w3 (List.mem_of_getElem? (i := 86) rfl), pe_w1 (List.mem_of_getElem? (i := 13) (by decide +kernel)), by decide, by decide, by decide +kernel⟩
theorem c_G_31 : pe_CL "PaintEditor$Grid" 31 m_G_has 2 := ⟨pe_w3 (List.mem_of_getElem? (i := 87) (by decide +kernel)), pe_w3 (List.mem_of_getElem? (i := 90) rfl), pe_w1 (List.mem_of_getElem? (i := 13) (by decide +kernel)), by decide, by decide, by decide +kernel⟩
theorem c_G_60 : pe_CL "PaintEditor$Grid" 60 m_G_isWideAt 2 := ⟨pe_w3 (List.mem_of_getElem? (i := 91) (by decide +kernel)), pe_w3 (List.mem_of_getElem? (i := 94) rfl), pe_w1 (List.mem_of_getElem? (i := 13) (by decide +kernel)), by decide, by decide, by decide +kernel⟩
theorem c_G_35 : pe_CL "PaintEditor$Grid" 35 m_G_clusterAt 2 := ⟨pe_w3 (List.mem_of_getElem? (i := 95) (by decide +kernel)), pe_w3 (List.mem_of_getElem? (i := 98) rfl), pe_w1 (List.mem_of_getElem? (i := 13) (by decide +kernel)), by decide, by decide, by decide +kernel⟩
theorem c_G_42 : pe_CL "PaintEditor$Grid" 42 m_C_characterOf 1 := ⟨pe_w3 (List.mem_of_getElem? (i := 99) (by decide +kernel)), pe_w3 (List.mem_of_getElem? (i := 101) rfl), pe_w1 (List.mem_of_getElem? (i := 18) (by decide +kernel)), by decide, by decide, by decide +kernel⟩
theorem c_G_48 : pe_CL "PaintEditor$Grid" 48 m_C_isWide 1 := ⟨pe_w3 (List.mem_of_getElem? (i := 103) (by decide +kernel)), pe_w2 (List.mem_of_getElem? (i := 170) rfl), pe_w1 (List.mem_of_getElem? (i := 18) (by decide +kernel)), by decide, by decide, by decide +kernel⟩
theorem c_P_94 : pe_CL "PaintEditor" 94 m_Z_resize 2 := ⟨pe_w3 (List.mem_of_getElem? (i := 104) (by decide +kernel)), pe_w3 (List.mem_of_getElem? (i := 107) rfl), pe_w1 (List.mem_of_getElem? (i := 16) (by decide +kernel)), by decide, by decide, by decide +kernel⟩
theorem c_Z_97 : pe_CL "PaintEditor$Terminal" 97 m_G_resize 2 := ⟨pe_w3 (List.mem_of_getElem? (i := 108) (by decide +kernel)), pe_w3 (List.mem_of_getElem? (i := 78) rfl), pe_w1 (List.mem_of_getElem? (i := 13) (by decide +kernel)), by decide, by decide, by decide +kernel⟩
theorem c_Z_100 : pe_CL "PaintEditor$Terminal" 100 m_Z_moveTo 2 := ⟨pe_w3 (List.mem_of_getElem? (i := 109) (by decide +kernel)), pe_w3 (List.mem_of_getElem? (i := 112) rfl), pe_w1 (List.mem_of_getElem? (i := 16) (by decide +kernel)), by decide, by decide, by decide +kernel⟩
theorem c_Z_88 : pe_CL "PaintEditor$Terminal" 88 m_Z_endWriting 0 := ⟨pe_w3 (List.mem_of_getElem? (i := 113) (by decide +kernel)), pe_w3 (List.mem_of_getElem? (i := 116) rfl), pe_w1 (List.mem_of_getElem? (i := 16) (by decide +kernel)), by decide, by decide, by decide +kernel⟩
theorem c_P_97 : pe_CL "PaintEditor" 97 m_S_compose 1 := ⟨pe_w3 (List.mem_of_getElem? (i := 121) (by decide +kernel)), pe_w3 (List.mem_of_getElem? (i := 124) rfl), pe_w1 (List.mem_of_getElem? (i := 8) (by decide +kernel)), by decide, by decide, by decide +kernel⟩
theorem c_S_27 : pe_CL "PaintEditor$Screen" 27 m_G_blankAll 0 := ⟨pe_w3 (List.mem_of_getElem? (i := 125) (by decide +kernel)), pe_w3 (List.mem_of_getElem? (i := 128) rfl), pe_w1 (List.mem_of_getElem? (i := 13) (by decide +kernel)), by decide, by decide, by decide +kernel⟩
theorem c_S_53 : pe_CL "PaintEditor$Screen" 53 m_L_lay 2 := ⟨pe_w3 (List.mem_of_getElem? (i := 129) (by decide +kernel)), pe_w2 (List.mem_of_getElem? (i := 148) rfl), pe_w1 (List.mem_of_getElem? (i := 7) (by decide +kernel)), by decide, by decide, by decide +kernel⟩
theorem c_S_66 : pe_CL "PaintEditor$Screen" 66 m_S_follow 1 := ⟨pe_w3 (List.mem_of_getElem? (i := 130) (by decide +kernel)), pe_w3 (List.mem_of_getElem? (i := 133) rfl), pe_w1 (List.mem_of_getElem? (i := 8) (by decide +kernel)), by decide, by decide, by decide +kernel⟩
theorem c_S_78 : pe_CL "PaintEditor$Screen" 78 m_S_showCluster 2 := ⟨pe_w3 (List.mem_of_getElem? (i := 134) (by decide +kernel)), pe_w3 (List.mem_of_getElem? (i := 137) rfl), pe_w1 (List.mem_of_getElem? (i := 8) (by decide +kernel)), by decide, by decide, by decide +kernel⟩
theorem c_S_89 : pe_CL "PaintEditor$Screen" 89 m_E_isBetween 1 := ⟨pe_w3 (List.mem_of_getElem? (i := 138) (by decide +kernel)), pe_w3 (List.mem_of_getElem? (i := 141) rfl), pe_w1 (List.mem_of_getElem? (i := 4) (by decide +kernel)), by decide, by decide, by decide +kernel⟩
theorem c_S_93 : pe_CL "PaintEditor$Screen" 93 m_T_clusterAt 1 := ⟨pe_w3 (List.mem_of_getElem? (i := 142) (by decide +kernel)), pe_w3 (List.mem_of_getElem? (i := 145) rfl), pe_w1 (List.mem_of_getElem? (i := 5) (by decide +kernel)), by decide, by decide, by decide +kernel⟩
theorem c_T_50 : pe_CL "PaintEditor$Text" 50 m_T_beginningFrom 1 := ⟨pe_w3 (List.mem_of_getElem? (i := 146) (by decide +kernel)), pe_w3 (List.mem_of_getElem? (i := 5) rfl), pe_w1 (List.mem_of_getElem? (i := 5) (by decide +kernel)), by decide, by decide, by decide +kernel⟩
theorem c_T_53 : pe_CL "PaintEditor$Text" 53 m_C_withMark 2 := ⟨pe_w3 (List.mem_of_getElem? (i := 147) (by decide +kernel)), pe_w3 (List.mem_of_getElem? (i := 149) rfl), pe_w1 (List.mem_of_getElem? (i := 18) (by decide +kernel)), by decide, by decide, by decide +kernel⟩
theorem c_S_97 : pe_CL "PaintEditor$Screen" 97 m_G_put 4 := ⟨pe_w3 (List.mem_of_getElem? (i := 151) (by decide +kernel)), pe_w3 (List.mem_of_getElem? (i := 86) rfl), pe_w1 (List.mem_of_getElem? (i := 13) (by decide +kernel)), by decide, by decide, by decide +kernel⟩
theorem c_S_82 : pe_CL "PaintEditor$Screen" 82 m_S_showStatus 1 := ⟨pe_w3 (List.mem_of_getElem? (i := 152) (by decide +kernel)), pe_w3 (List.mem_of_getElem? (i := 155) rfl), pe_w1 (List.mem_of_getElem? (i := 8) (by decide +kernel)), by decide, by decide, by decide +kernel⟩
theorem c_S_107 : pe_CL "PaintEditor$Screen" 107 m_T_lineNumber 1 := ⟨pe_w3 (List.mem_of_getElem? (i := 210) (by decide +kernel)), pe_w3 (List.mem_of_getElem? (i := 213) rfl), pe_w1 (List.mem_of_getElem? (i := 5) (by decide +kernel)), by decide, by decide, by decide +kernel⟩
theorem c_P_101 : pe_CL "PaintEditor" 101 m_Q_begin 1 := ⟨pe_w4 (List.mem_of_getElem? (i := 82) (by decide +kernel)), pe_w4 (List.mem_of_getElem? (i := 85) rfl), pe_w1 (List.mem_of_getElem? (i := 15) (by decide +kernel)), by decide, by decide, by decide +kernel⟩
theorem c_Q_28 : pe_CL "PaintEditor$Painter" 28 m_Q_sendLook 1 := ⟨pe_w4 (List.mem_of_getElem? (i := 86) (by decide +kernel)), pe_w4 (List.mem_of_getElem? (i := 89) rfl), pe_w1 (List.mem_of_getElem? (i := 15) (by decide +kernel)), by decide, by decide, by decide +kernel⟩
theorem c_Q_32 : pe_CL "PaintEditor$Painter" 32 m_Q_sendSequence 3 := ⟨pe_w4 (List.mem_of_getElem? (i := 90) (by decide +kernel)), pe_w4 (List.mem_of_getElem? (i := 93) rfl), pe_w1 (List.mem_of_getElem? (i := 15) (by decide +kernel)), by decide, by decide, by decide +kernel⟩
theorem c_Q_126 : pe_CL "PaintEditor$Painter" 126 m_Q_put 1 := ⟨pe_w4 (List.mem_of_getElem? (i := 94) (by decide +kernel)), pe_w4 (List.mem_of_getElem? (i := 97) rfl), pe_w1 (List.mem_of_getElem? (i := 15) (by decide +kernel)), by decide, by decide, by decide +kernel⟩
theorem c_Q_129 : pe_CL "PaintEditor$Painter" 129 m_Q_putNumber 1 := ⟨pe_w4 (List.mem_of_getElem? (i := 98) (by decide +kernel)), pe_w4 (List.mem_of_getElem? (i := 101) rfl), pe_w1 (List.mem_of_getElem? (i := 15) (by decide +kernel)), by decide, by decide, by decide +kernel⟩
theorem c_Q_36 : pe_CL "PaintEditor$Painter" 36 m_Z_eraseAll 0 := ⟨pe_w4 (List.mem_of_getElem? (i := 102) (by decide +kernel)), pe_w4 (List.mem_of_getElem? (i := 105) rfl), pe_w1 (List.mem_of_getElem? (i := 16) (by decide +kernel)), by decide, by decide, by decide +kernel⟩
theorem c_Z_94 : pe_CL "PaintEditor$Terminal" 94 m_G_blankAll 0 := ⟨pe_w4 (List.mem_of_getElem? (i := 106) (by decide +kernel)), pe_w3 (List.mem_of_getElem? (i := 128) rfl), pe_w1 (List.mem_of_getElem? (i := 13) (by decide +kernel)), by decide, by decide, by decide +kernel⟩
theorem c_P_108 : pe_CL "PaintEditor" 108 m_Q_paintRow 2 := ⟨pe_w4 (List.mem_of_getElem? (i := 107) (by decide +kernel)), pe_w4 (List.mem_of_getElem? (i := 110) rfl), pe_w1 (List.mem_of_getElem? (i := 15) (by decide +kernel)), by decide, by decide, by decide +kernel⟩
theorem c_Q_39 : pe_CL "PaintEditor$Painter" 39 m_Q_firstDifference 2 := ⟨pe_w4 (List.mem_of_getElem? (i := 111) (by decide +kernel)), pe_w4 (List.mem_of_getElem? (i := 114) rfl), pe_w1 (List.mem_of_getElem? (i := 15) (by decide +kernel)), by decide, by decide, by decide +kernel⟩
theorem c_Q_80 : pe_CL "PaintEditor$Painter" 80 m_Q_differs 3 := ⟨pe_w4 (List.mem_of_getElem? (i := 115) (by decide +kernel)), pe_w4 (List.mem_of_getElem? (i := 118) rfl), pe_w1 (List.mem_of_getElem? (i := 15) (by decide +kernel)), by decide, by decide, by decide +kernel⟩
theorem c_Q_46 : pe_CL "PaintEditor$Painter" 46 m_G_clusterAt 2 := ⟨pe_w4 (List.mem_of_getElem? (i := 119) (by decide +kernel)), pe_w3 (List.mem_of_getElem? (i := 98) rfl), pe_w1 (List.mem_of_getElem? (i := 13) (by decide +kernel)), by decide, by decide, by decide +kernel⟩
theorem c_Q_60 : pe_CL "PaintEditor$Painter" 60 m_G_lookAt 2 := ⟨pe_w4 (List.mem_of_getElem? (i := 120) (by decide +kernel)), pe_w4 (List.mem_of_getElem? (i := 123) rfl), pe_w1 (List.mem_of_getElem? (i := 13) (by decide +kernel)), by decide, by decide, by decide +kernel⟩
theorem c_Q_43 : pe_CL "PaintEditor$Painter" 43 m_Q_lastDifference 2 := ⟨pe_w4 (List.mem_of_getElem? (i := 124) (by decide +kernel)), pe_w4 (List.mem_of_getElem? (i := 127) rfl), pe_w1 (List.mem_of_getElem? (i := 15) (by decide +kernel)), by decide, by decide, by decide +kernel⟩
theorem c_Q_52 : pe_CL "PaintEditor$Painter" 52 m_Q_blankBeginning 2 := ⟨pe_w4 (List.mem_of_getElem? (i := 128) (by decide +kernel)), pe_w4 (List.mem_of_getElem? (i := 130) rfl), pe_w1 (List.mem_of_getElem? (i := 15) (by decide +kernel)), by decide, by decide, by decide +kernel⟩
theorem c_Q_84 : pe_CL "PaintEditor$Painter" 84 m_G_isBlank 2 := ⟨pe_w4 (List.mem_of_getElem? (i := 131) (by decide +kernel)), pe_w4 (List.mem_of_getElem? (i := 134) rfl), pe_w1 (List.mem_of_getElem? (i := 13) (by decide +kernel)), by decide, by decide, by decide +kernel⟩
theorem c_G_39 : pe_CL "PaintEditor$Grid" 39 m_G_lookAt 2 := ⟨pe_w4 (List.mem_of_getElem? (i := 135) (by decide +kernel)), pe_w4 (List.mem_of_getElem? (i := 123) rfl), pe_w1 (List.mem_of_getElem? (i := 13) (by decide +kernel)), by decide, by decide, by decide +kernel⟩
theorem c_Q_63 : pe_CL "PaintEditor$Painter" 63 m_Q_sendCluster 4 := ⟨pe_w4 (List.mem_of_getElem? (i := 137) (by decide +kernel)), pe_w4 (List.mem_of_getElem? (i := 140) rfl), pe_w1 (List.mem_of_getElem? (i := 15) (by decide +kernel)), by decide, by decide, by decide +kernel⟩
theorem c_Q_88 : pe_CL "PaintEditor$Painter" 88 m_C_characterOf 1 := ⟨pe_w4 (List.mem_of_getElem? (i := 141) (by decide +kernel)), pe_w3 (List.mem_of_getElem? (i := 101) rfl), pe_w1 (List.mem_of_getElem? (i := 18) (by decide +kernel)), by decide, by decide, by decide +kernel⟩
theorem c_Q_94 : pe_CL "PaintEditor$Painter" 94 m_C_isMark 1 := ⟨pe_w4 (List.mem_of_getElem? (i := 142) (by decide +kernel)), pe_w2 (List.mem_of_getElem? (i := 159) rfl), pe_w1 (List.mem_of_getElem? (i := 18) (by decide +kernel)), by decide, by decide, by decide +kernel⟩
theorem c_Q_98 : pe_CL "PaintEditor$Painter" 98 m_Q_sendPlace 2 := ⟨pe_w4 (List.mem_of_getElem? (i := 143) (by decide +kernel)), pe_w4 (List.mem_of_getElem? (i := 146) rfl), pe_w1 (List.mem_of_getElem? (i := 15) (by decide +kernel)), by decide, by decide, by decide +kernel⟩
theorem c_Q_123 : pe_CL "PaintEditor$Painter" 123 m_Z_moveTo 2 := ⟨pe_w4 (List.mem_of_getElem? (i := 147) (by decide +kernel)), pe_w3 (List.mem_of_getElem? (i := 112) rfl), pe_w1 (List.mem_of_getElem? (i := 16) (by decide +kernel)), by decide, by decide, by decide +kernel⟩
theorem c_Q_67 : pe_CL "PaintEditor$Painter" 67 m_Q_makePlaceRight 2 := ⟨pe_w4 (List.mem_of_getElem? (i := 148) (by decide +kernel)), pe_w4 (List.mem_of_getElem? (i := 151) rfl), pe_w1 (List.mem_of_getElem? (i := 15) (by decide +kernel)), by decide, by decide, by decide +kernel⟩
theorem c_Q_104 : pe_CL "PaintEditor$Painter" 104 m_Q_sendCharacter 1 := ⟨pe_w4 (List.mem_of_getElem? (i := 152) (by decide +kernel)), pe_w4 (List.mem_of_getElem? (i := 155) rfl), pe_w1 (List.mem_of_getElem? (i := 15) (by decide +kernel)), by decide, by decide, by decide +kernel⟩
theorem c_Q_132 : pe_CL "PaintEditor$Painter" 132 m_Z_write 1 := ⟨pe_w4 (List.mem_of_getElem? (i := 156) (by decide +kernel)), pe_w4 (List.mem_of_getElem? (i := 159) rfl), pe_w1 (List.mem_of_getElem? (i := 16) (by decide +kernel)), by decide, by decide, by decide +kernel⟩
theorem c_Z_20 : pe_CL "PaintEditor$Terminal" 20 m_C_isMark 1 := ⟨pe_w4 (List.mem_of_getElem? (i := 160) (by decide +kernel)), pe_w2 (List.mem_of_getElem? (i := 159) rfl), pe_w1 (List.mem_of_getElem? (i := 18) (by decide +kernel)), by decide, by decide, by decide +kernel⟩
theorem c_Z_26 : pe_CL "PaintEditor$Terminal" 26 m_Z_joins 1 := ⟨pe_w4 (List.mem_of_getElem? (i := 161) (by decide +kernel)), pe_w4 (List.mem_of_getElem? (i := 164) rfl), pe_w1 (List.mem_of_getElem? (i := 16) (by decide +kernel)), by decide, by decide, by decide +kernel⟩
theorem c_Z_66 : pe_CL "PaintEditor$Terminal" 66 m_G_clusterAt 2 := ⟨pe_w4 (List.mem_of_getElem? (i := 165) (by decide +kernel)), pe_w3 (List.mem_of_getElem? (i := 98) rfl), pe_w1 (List.mem_of_getElem? (i := 13) (by decide +kernel)), by decide, by decide, by decide +kernel⟩
theorem c_Z_72 : pe_CL "PaintEditor$Terminal" 72 m_C_secondMarkOf 1 := ⟨pe_w4 (List.mem_of_getElem? (i := 166) (by decide +kernel)), pe_w4 (List.mem_of_getElem? (i := 168) rfl), pe_w1 (List.mem_of_getElem? (i := 18) (by decide +kernel)), by decide, by decide, by decide +kernel⟩
theorem c_Z_75 : pe_CL "PaintEditor$Terminal" 75 m_C_withMark 2 := ⟨pe_w4 (List.mem_of_getElem? (i := 169) (by decide +kernel)), pe_w3 (List.mem_of_getElem? (i := 149) rfl), pe_w1 (List.mem_of_getElem? (i := 18) (by decide +kernel)), by decide, by decide, by decide +kernel⟩
theorem c_Z_78 : pe_CL "PaintEditor$Terminal" 78 m_G_lookAt 2 := ⟨pe_w4 (List.mem_of_getElem? (i := 170) (by decide +kernel)), pe_w4 (List.mem_of_getElem? (i := 123) rfl), pe_w1 (List.mem_of_getElem? (i := 13) (by decide +kernel)), by decide, by decide, by decide +kernel⟩
theorem c_Z_81 : pe_CL "PaintEditor$Terminal" 81 m_G_put 4 := ⟨pe_w4 (List.mem_of_getElem? (i := 171) (by decide +kernel)), pe_w3 (List.mem_of_getElem? (i := 86) rfl), pe_w1 (List.mem_of_getElem? (i := 13) (by decide +kernel)), by decide, by decide, by decide +kernel⟩
theorem c_Z_49 : pe_CL "PaintEditor$Terminal" 49 m_C_widthOf 1 := ⟨pe_w4 (List.mem_of_getElem? (i := 173) (by decide +kernel)), pe_w2 (List.mem_of_getElem? (i := 167) rfl), pe_w1 (List.mem_of_getElem? (i := 18) (by decide +kernel)), by decide, by decide, by decide +kernel⟩
theorem c_Z_56 : pe_CL "PaintEditor$Terminal" 56 m_Z_writeCells 1 := ⟨pe_w4 (List.mem_of_getElem? (i := 174) (by decide +kernel)), pe_w4 (List.mem_of_getElem? (i := 177) rfl), pe_w1 (List.mem_of_getElem? (i := 16) (by decide +kernel)), by decide, by decide, by decide +kernel⟩
theorem c_Q_107 : pe_CL "PaintEditor$Painter" 107 m_C_firstMarkOf 1 := ⟨pe_w4 (List.mem_of_getElem? (i := 178) (by decide +kernel)), pe_w4 (List.mem_of_getElem? (i := 180) rfl), pe_w1 (List.mem_of_getElem? (i := 18) (by decide +kernel)), by decide, by decide, by decide +kernel⟩
theorem c_Q_110 : pe_CL "PaintEditor$Painter" 110 m_C_secondMarkOf 1 := ⟨pe_w4 (List.mem_of_getElem? (i := 181) (by decide +kernel)), pe_w4 (List.mem_of_getElem? (i := 168) rfl), pe_w1 (List.mem_of_getElem? (i := 18) (by decide +kernel)), by decide, by decide, by decide +kernel⟩
theorem c_Q_70 : pe_CL "PaintEditor$Painter" 70 m_Z_eraseRestOfRow 0 := ⟨pe_w4 (List.mem_of_getElem? (i := 182) (by decide +kernel)), pe_w4 (List.mem_of_getElem? (i := 185) rfl), pe_w1 (List.mem_of_getElem? (i := 16) (by decide +kernel)), by decide, by decide, by decide +kernel⟩
theorem c_Z_91 : pe_CL "PaintEditor$Terminal" 91 m_G_blankFrom 2 := ⟨pe_w4 (List.mem_of_getElem? (i := 186) (by decide +kernel)), pe_w3 (List.mem_of_getElem? (i := 82) rfl), pe_w1 (List.mem_of_getElem? (i := 13) (by decide +kernel)), by decide, by decide, by decide +kernel⟩
theorem c_P_118 : pe_CL "PaintEditor" 118 m_Q_makePlaceRight 2 := ⟨pe_w4 (List.mem_of_getElem? (i := 187) (by decide +kernel)), pe_w4 (List.mem_of_getElem? (i := 151) rfl), pe_w1 (List.mem_of_getElem? (i := 15) (by decide +kernel)), by decide, by decide, by decide +kernel⟩
theorem c_P_124 : pe_CL "PaintEditor" 124 m_T_codeAt 1 := ⟨pe_w4 (List.mem_of_getElem? (i := 192) (by decide +kernel)), pe_w2 (List.mem_of_getElem? (i := 156) rfl), pe_w1 (List.mem_of_getElem? (i := 5) (by decide +kernel)), by decide, by decide, by decide +kernel⟩
theorem c_P_158 : pe_CL "PaintEditor" 158 m_G_clusterAt 2 := ⟨pe_w4 (List.mem_of_getElem? (i := 201) (by decide +kernel)), pe_w3 (List.mem_of_getElem? (i := 98) rfl), pe_w1 (List.mem_of_getElem? (i := 13) (by decide +kernel)), by decide, by decide, by decide +kernel⟩
theorem c_P_161 : pe_CL "PaintEditor" 161 m_G_lookAt 2 := ⟨pe_w4 (List.mem_of_getElem? (i := 206) (by decide +kernel)), pe_w4 (List.mem_of_getElem? (i := 123) rfl), pe_w1 (List.mem_of_getElem? (i := 13) (by decide +kernel)), by decide, by decide, by decide +kernel⟩
theorem c_P_176 : pe_CL "PaintEditor" 176 m_Q_byteAt 1 := ⟨pe_w4 (List.mem_of_getElem? (i := 215) (by decide +kernel)), pe_w4 (List.mem_of_getElem? (i := 218) rfl), pe_w1 (List.mem_of_getElem? (i := 15) (by decide +kernel)), by decide, by decide, by decide +kernel⟩
theorem c_M_217 : pe_CL "PaintEditorModel" 217 m_M_take 1 := ⟨pe_w5 (List.mem_of_getElem? (i := 126) (by decide +kernel)), pe_w5 (List.mem_of_getElem? (i := 129) rfl), pe_w1 (List.mem_of_getElem? (i := 17) (by decide +kernel)), by decide, by decide, by decide +kernel⟩
theorem c_M_206 : pe_CL "PaintEditorModel" 206 m_M_within 2 := ⟨pe_w5 (List.mem_of_getElem? (i := 130) (by decide +kernel)), pe_w5 (List.mem_of_getElem? (i := 133) rfl), pe_w1 (List.mem_of_getElem? (i := 17) (by decide +kernel)), by decide, by decide, by decide +kernel⟩
theorem c_M_144 : pe_CL "PaintEditorModel" 144 m_M_character 1 := ⟨pe_w5 (List.mem_of_getElem? (i := 135) (by decide +kernel)), pe_w5 (List.mem_of_getElem? (i := 138) rfl), pe_w1 (List.mem_of_getElem? (i := 17) (by decide +kernel)), by decide, by decide, by decide +kernel⟩
theorem c_M_141 : pe_CL "PaintEditorModel" 141 m_M_insertOne 1 := ⟨pe_w5 (List.mem_of_getElem? (i := 139) (by decide +kernel)), pe_w5 (List.mem_of_getElem? (i := 142) rfl), pe_w1 (List.mem_of_getElem? (i := 17) (by decide +kernel)), by decide, by decide, by decide +kernel⟩
theorem c_M_120 : pe_CL "PaintEditorModel" 120 m_M_note 3 := ⟨pe_w5 (List.mem_of_getElem? (i := 143) (by decide +kernel)), pe_w5 (List.mem_of_getElem? (i := 146) rfl), pe_w1 (List.mem_of_getElem? (i := 17) (by decide +kernel)), by decide, by decide, by decide +kernel⟩
theorem c_M_114 : pe_CL "PaintEditorModel" 114 m_M_forgetFirst 0 := ⟨pe_w5 (List.mem_of_getElem? (i := 147) (by decide +kernel)), pe_w5 (List.mem_of_getElem? (i := 150) rfl), pe_w1 (List.mem_of_getElem? (i := 17) (by decide +kernel)), by decide, by decide, by decide +kernel⟩
theorem c_M_124 : pe_CL "PaintEditorModel" 124 m_M_open 2 := ⟨pe_w5 (List.mem_of_getElem? (i := 151) (by decide +kernel)), pe_w5 (List.mem_of_getElem? (i := 154) rfl), pe_w1 (List.mem_of_getElem? (i := 17) (by decide +kernel)), by decide, by decide, by decide +kernel⟩
theorem c_M_128 : pe_CL "PaintEditorModel" 128 m_M_settle 1 := ⟨pe_w5 (List.mem_of_getElem? (i := 155) (by decide +kernel)), pe_w5 (List.mem_of_getElem? (i := 158) rfl), pe_w1 (List.mem_of_getElem? (i := 17) (by decide +kernel)), by decide, by decide, by decide +kernel⟩
theorem c_M_94 : pe_CL "PaintEditorModel" 94 m_M_begins 1 := ⟨pe_w5 (List.mem_of_getElem? (i := 159) (by decide +kernel)), pe_w5 (List.mem_of_getElem? (i := 162) rfl), pe_w1 (List.mem_of_getElem? (i := 17) (by decide +kernel)), by decide, by decide, by decide +kernel⟩
theorem c_M_90 : pe_CL "PaintEditorModel" 90 m_M_isMark 1 := ⟨pe_w5 (List.mem_of_getElem? (i := 163) (by decide +kernel)), pe_w5 (List.mem_of_getElem? (i := 165) rfl), pe_w1 (List.mem_of_getElem? (i := 17) (by decide +kernel)), by decide, by decide, by decide +kernel⟩
theorem c_M_200 : pe_CL "PaintEditorModel" 200 m_M_plain 2 := ⟨pe_w5 (List.mem_of_getElem? (i := 166) (by decide +kernel)), pe_w5 (List.mem_of_getElem? (i := 169) rfl), pe_w1 (List.mem_of_getElem? (i := 17) (by decide +kernel)), by decide, by decide, by decide +kernel⟩
theorem c_M_197 : pe_CL "PaintEditorModel" 197 m_M_control 2 := ⟨pe_w5 (List.mem_of_getElem? (i := 170) (by decide +kernel)), pe_w5 (List.mem_of_getElem? (i := 173) rfl), pe_w1 (List.mem_of_getElem? (i := 17) (by decide +kernel)), by decide, by decide, by decide +kernel⟩
theorem c_M_150 : pe_CL "PaintEditorModel" 150 m_M_command 1 := ⟨pe_w5 (List.mem_of_getElem? (i := 174) (by decide +kernel)), pe_w5 (List.mem_of_getElem? (i := 177) rfl), pe_w1 (List.mem_of_getElem? (i := 17) (by decide +kernel)), by decide, by decide, by decide +kernel⟩
theorem c_M_153 : pe_CL "PaintEditorModel" 153 m_M_cutOut 0 := ⟨pe_w5 (List.mem_of_getElem? (i := 178) (by decide +kernel)), pe_w5 (List.mem_of_getElem? (i := 181) rfl), pe_w1 (List.mem_of_getElem? (i := 17) (by decide +kernel)), by decide, by decide, by decide +kernel⟩
theorem c_M_138 : pe_CL "PaintEditorModel" 138 m_M_takeAway 2 := ⟨pe_w5 (List.mem_of_getElem? (i := 182) (by decide +kernel)), pe_w5 (List.mem_of_getElem? (i := 185) rfl), pe_w1 (List.mem_of_getElem? (i := 17) (by decide +kernel)), by decide, by decide, by decide +kernel⟩
theorem c_M_135 : pe_CL "PaintEditorModel" 135 m_M_close 2 := ⟨pe_w5 (List.mem_of_getElem? (i := 186) (by decide +kernel)), pe_w5 (List.mem_of_getElem? (i := 189) rfl), pe_w1 (List.mem_of_getElem? (i := 17) (by decide +kernel)), by decide, by decide, by decide +kernel⟩
theorem c_M_156 : pe_CL "PaintEditorModel" 156 m_M_insertClip 0 := ⟨pe_w5 (List.mem_of_getElem? (i := 190) (by decide +kernel)), pe_w5 (List.mem_of_getElem? (i := 193) rfl), pe_w1 (List.mem_of_getElem? (i := 17) (by decide +kernel)), by decide, by decide, by decide +kernel⟩
theorem c_M_159 : pe_CL "PaintEditorModel" 159 m_M_undo 0 := ⟨pe_w5 (List.mem_of_getElem? (i := 194) (by decide +kernel)), pe_w5 (List.mem_of_getElem? (i := 197) rfl), pe_w1 (List.mem_of_getElem? (i := 17) (by decide +kernel)), by decide, by decide, by decide +kernel⟩
theorem c_M_162 : pe_CL "PaintEditorModel" 162 m_M_before 1 := ⟨pe_w5 (List.mem_of_getElem? (i := 198) (by decide +kernel)), pe_w5 (List.mem_of_getElem? (i := 201) rfl), pe_w1 (List.mem_of_getElem? (i := 17) (by decide +kernel)), by decide, by decide, by decide +kernel⟩
theorem c_M_209 : pe_CL "PaintEditorModel" 209 m_M_inSequence 2 := ⟨pe_w5 (List.mem_of_getElem? (i := 202) (by decide +kernel)), pe_w5 (List.mem_of_getElem? (i := 205) rfl), pe_w1 (List.mem_of_getElem? (i := 17) (by decide +kernel)), by decide, by decide, by decide +kernel⟩
theorem c_M_203 : pe_CL "PaintEditorModel" 203 m_M_finish 1 := ⟨pe_w5 (List.mem_of_getElem? (i := 206) (by decide +kernel)), pe_w5 (List.mem_of_getElem? (i := 209) rfl), pe_w1 (List.mem_of_getElem? (i := 17) (by decide +kernel)), by decide, by decide, by decide +kernel⟩
theorem c_M_171 : pe_CL "PaintEditorModel" 171 m_M_upOrDown 1 := ⟨pe_w5 (List.mem_of_getElem? (i := 210) (by decide +kernel)), pe_w5 (List.mem_of_getElem? (i := 213) rfl), pe_w1 (List.mem_of_getElem? (i := 17) (by decide +kernel)), by decide, by decide, by decide +kernel⟩
theorem c_M_165 : pe_CL "PaintEditorModel" 165 m_M_layOut 0 := ⟨pe_w5 (List.mem_of_getElem? (i := 214) (by decide +kernel)), pe_w5 (List.mem_of_getElem? (i := 217) rfl), pe_w1 (List.mem_of_getElem? (i := 17) (by decide +kernel)), by decide, by decide, by decide +kernel⟩
theorem c_M_100 : pe_CL "PaintEditorModel" 100 m_M_widthOf 2 := ⟨pe_w5 (List.mem_of_getElem? (i := 218) (by decide +kernel)), pe_w5 (List.mem_of_getElem? (i := 221) rfl), pe_w1 (List.mem_of_getElem? (i := 17) (by decide +kernel)), by decide, by decide, by decide +kernel⟩
theorem c_M_97 : pe_CL "PaintEditorModel" 97 m_M_isWide 1 := ⟨pe_w5 (List.mem_of_getElem? (i := 222) (by decide +kernel)), pe_w5 (List.mem_of_getElem? (i := 224) rfl), pe_w1 (List.mem_of_getElem? (i := 17) (by decide +kernel)), by decide, by decide, by decide +kernel⟩
theorem c_M_107 : pe_CL "PaintEditorModel" 107 m_M_after 1 := ⟨pe_w5 (List.mem_of_getElem? (i := 228) (by decide +kernel)), pe_w5 (List.mem_of_getElem? (i := 231) rfl), pe_w1 (List.mem_of_getElem? (i := 17) (by decide +kernel)), by decide, by decide, by decide +kernel⟩
theorem c_M_174 : pe_CL "PaintEditorModel" 174 m_M_lineBegin 0 := ⟨pe_w5 (List.mem_of_getElem? (i := 232) (by decide +kernel)), pe_w5 (List.mem_of_getElem? (i := 235) rfl), pe_w1 (List.mem_of_getElem? (i := 17) (by decide +kernel)), by decide, by decide, by decide +kernel⟩
theorem c_M_178 : pe_CL "PaintEditorModel" 178 m_M_lineEnd 0 := ⟨pe_w5 (List.mem_of_getElem? (i := 236) (by decide +kernel)), pe_w5 (List.mem_of_getElem? (i := 239) rfl), pe_w1 (List.mem_of_getElem? (i := 17) (by decide +kernel)), by decide, by decide, by decide +kernel⟩
theorem c_M_212 : pe_CL "PaintEditorModel" 212 m_M_escapeKey 0 := ⟨pe_w6 (List.mem_of_getElem? (i := 0) (by decide +kernel)), pe_w6 (List.mem_of_getElem? (i := 3) rfl), pe_w1 (List.mem_of_getElem? (i := 17) (by decide +kernel)), by decide, by decide, by decide +kernel⟩
theorem c_M_303 : pe_CL "PaintEditorModel" 303 m_M_compose 0 := ⟨pe_w6 (List.mem_of_getElem? (i := 12) (by decide +kernel)), pe_w6 (List.mem_of_getElem? (i := 15) rfl), pe_w1 (List.mem_of_getElem? (i := 17) (by decide +kernel)), by decide, by decide, by decide +kernel⟩
theorem c_M_240 : pe_CL "PaintEditorModel" 240 m_M_isSmall 0 := ⟨pe_w6 (List.mem_of_getElem? (i := 16) (by decide +kernel)), pe_w6 (List.mem_of_getElem? (i := 19) rfl), pe_w1 (List.mem_of_getElem? (i := 17) (by decide +kernel)), by decide, by decide, by decide +kernel⟩
theorem c_M_244 : pe_CL "PaintEditorModel" 244 m_M_fillText 0 := ⟨pe_w6 (List.mem_of_getElem? (i := 20) (by decide +kernel)), pe_w6 (List.mem_of_getElem? (i := 23) rfl), pe_w1 (List.mem_of_getElem? (i := 17) (by decide +kernel)), by decide, by decide, by decide +kernel⟩
theorem c_M_225 : pe_CL "PaintEditorModel" 225 m_M_clusterAt 1 := ⟨pe_w6 (List.mem_of_getElem? (i := 24) (by decide +kernel)), pe_w6 (List.mem_of_getElem? (i := 27) rfl), pe_w1 (List.mem_of_getElem? (i := 17) (by decide +kernel)), by decide, by decide, by decide +kernel⟩
theorem c_M_247 : pe_CL "PaintEditorModel" 247 m_M_fillStatus 0 := ⟨pe_w6 (List.mem_of_getElem? (i := 30) (by decide +kernel)), pe_w6 (List.mem_of_getElem? (i := 33) rfl), pe_w1 (List.mem_of_getElem? (i := 17) (by decide +kernel)), by decide, by decide, by decide +kernel⟩
theorem c_M_231 : pe_CL "PaintEditorModel" 231 m_M_statusNumber 2 := ⟨pe_w6 (List.mem_of_getElem? (i := 34) (by decide +kernel)), pe_w6 (List.mem_of_getElem? (i := 37) rfl), pe_w1 (List.mem_of_getElem? (i := 17) (by decide +kernel)), by decide, by decide, by decide +kernel⟩
theorem c_M_228 : pe_CL "PaintEditorModel" 228 m_M_status 2 := ⟨pe_w6 (List.mem_of_getElem? (i := 38) (by decide +kernel)), pe_w6 (List.mem_of_getElem? (i := 41) rfl), pe_w1 (List.mem_of_getElem? (i := 17) (by decide +kernel)), by decide, by decide, by decide +kernel⟩
theorem c_M_288 : pe_CL "PaintEditorModel" 288 m_M_setLook 1 := ⟨pe_w6 (List.mem_of_getElem? (i := 42) (by decide +kernel)), pe_w6 (List.mem_of_getElem? (i := 45) rfl), pe_w1 (List.mem_of_getElem? (i := 17) (by decide +kernel)), by decide, by decide, by decide +kernel⟩
theorem c_M_275 : pe_CL "PaintEditorModel" 275 m_M_putBegin 0 := ⟨pe_w6 (List.mem_of_getElem? (i := 46) (by decide +kernel)), pe_w6 (List.mem_of_getElem? (i := 49) rfl), pe_w1 (List.mem_of_getElem? (i := 17) (by decide +kernel)), by decide, by decide, by decide +kernel⟩
theorem c_M_253 : pe_CL "PaintEditorModel" 253 m_M_put 1 := ⟨pe_w6 (List.mem_of_getElem? (i := 50) (by decide +kernel)), pe_w6 (List.mem_of_getElem? (i := 53) rfl), pe_w1 (List.mem_of_getElem? (i := 17) (by decide +kernel)), by decide, by decide, by decide +kernel⟩
theorem c_M_306 : pe_CL "PaintEditorModel" 306 m_M_drawRow 1 := ⟨pe_w6 (List.mem_of_getElem? (i := 54) (by decide +kernel)), pe_w6 (List.mem_of_getElem? (i := 57) rfl), pe_w1 (List.mem_of_getElem? (i := 17) (by decide +kernel)), by decide, by decide, by decide +kernel⟩
theorem c_M_297 : pe_CL "PaintEditorModel" 297 m_M_differs 1 := ⟨pe_w6 (List.mem_of_getElem? (i := 58) (by decide +kernel)), pe_w6 (List.mem_of_getElem? (i := 61) rfl), pe_w1 (List.mem_of_getElem? (i := 17) (by decide +kernel)), by decide, by decide, by decide +kernel⟩
theorem c_M_300 : pe_CL "PaintEditorModel" 300 m_M_sendClusters 3 := ⟨pe_w6 (List.mem_of_getElem? (i := 62) (by decide +kernel)), pe_w6 (List.mem_of_getElem? (i := 65) rfl), pe_w1 (List.mem_of_getElem? (i := 17) (by decide +kernel)), by decide, by decide, by decide +kernel⟩
theorem c_M_294 : pe_CL "PaintEditorModel" 294 m_M_sendCluster 2 := ⟨pe_w6 (List.mem_of_getElem? (i := 66) (by decide +kernel)), pe_w6 (List.mem_of_getElem? (i := 69) rfl), pe_w1 (List.mem_of_getElem? (i := 17) (by decide +kernel)), by decide, by decide, by decide +kernel⟩
theorem c_M_284 : pe_CL "PaintEditorModel" 284 m_M_go 3 := ⟨pe_w6 (List.mem_of_getElem? (i := 71) (by decide +kernel)), pe_w6 (List.mem_of_getElem? (i := 74) rfl), pe_w1 (List.mem_of_getElem? (i := 17) (by decide +kernel)), by decide, by decide, by decide +kernel⟩
theorem c_M_281 : pe_CL "PaintEditorModel" 281 m_M_sendPlace 2 := ⟨pe_w6 (List.mem_of_getElem? (i := 75) (by decide +kernel)), pe_w6 (List.mem_of_getElem? (i := 78) rfl), pe_w1 (List.mem_of_getElem? (i := 17) (by decide +kernel)), by decide, by decide, by decide +kernel⟩
theorem c_M_278 : pe_CL "PaintEditorModel" 278 m_M_putNumber 1 := ⟨pe_w6 (List.mem_of_getElem? (i := 79) (by decide +kernel)), pe_w6 (List.mem_of_getElem? (i := 82) rfl), pe_w1 (List.mem_of_getElem? (i := 17) (by decide +kernel)), by decide, by decide, by decide +kernel⟩
theorem c_M_291 : pe_CL "PaintEditorModel" 291 m_M_write 1 := ⟨pe_w6 (List.mem_of_getElem? (i := 83) (by decide +kernel)), pe_w6 (List.mem_of_getElem? (i := 86) rfl), pe_w1 (List.mem_of_getElem? (i := 17) (by decide +kernel)), by decide, by decide, by decide +kernel⟩
theorem c_M_257 : pe_CL "PaintEditorModel" 257 m_M_putCode 1 := ⟨pe_w6 (List.mem_of_getElem? (i := 87) (by decide +kernel)), pe_w6 (List.mem_of_getElem? (i := 90) rfl), pe_w1 (List.mem_of_getElem? (i := 17) (by decide +kernel)), by decide, by decide, by decide +kernel⟩
theorem c_M_269 : pe_CL "PaintEditorModel" 269 m_M_blankHalf 1 := ⟨pe_w6 (List.mem_of_getElem? (i := 91) (by decide +kernel)), pe_w6 (List.mem_of_getElem? (i := 94) rfl), pe_w1 (List.mem_of_getElem? (i := 17) (by decide +kernel)), by decide, by decide, by decide +kernel⟩
theorem c_M_309 : pe_CL "PaintEditorModel" 309 m_M_isCell 2 := ⟨pe_w6 (List.mem_of_getElem? (i := 111) (by decide +kernel)), pe_w6 (List.mem_of_getElem? (i := 114) rfl), pe_w1 (List.mem_of_getElem? (i := 17) (by decide +kernel)), by decide, by decide, by decide +kernel⟩
theorem i_P_type : Cond.instanceMethod m_P_type.1 ∈ pe_WS := pe_w2 (List.mem_of_getElem? (i := 113) (by decide +kernel))
theorem s_P_type : Cond.selects "PaintEditor" m_P_type.1 m_P_type.1 ∈ pe_WS := pe_w2 (List.mem_of_getElem? (i := 114) (by decide +kernel))
theorem i_P_tick : Cond.instanceMethod m_P_tick.1 ∈ pe_WS := pe_w3 (List.mem_of_getElem? (i := 67) (by decide +kernel))
theorem s_P_tick : Cond.selects "PaintEditor" m_P_tick.1 m_P_tick.1 ∈ pe_WS := pe_w3 (List.mem_of_getElem? (i := 68) (by decide +kernel))
theorem i_P_size : Cond.instanceMethod m_P_size.1 ∈ pe_WS := pe_w3 (List.mem_of_getElem? (i := 72) (by decide +kernel))
theorem s_P_size : Cond.selects "PaintEditor" m_P_size.1 m_P_size.1 ∈ pe_WS := pe_w3 (List.mem_of_getElem? (i := 73) (by decide +kernel))
theorem i_P_draw : Cond.instanceMethod m_P_draw.1 ∈ pe_WS := pe_w3 (List.mem_of_getElem? (i := 118) (by decide +kernel))
theorem s_P_draw : Cond.selects "PaintEditor" m_P_draw.1 m_P_draw.1 ∈ pe_WS := pe_w3 (List.mem_of_getElem? (i := 119) (by decide +kernel))
theorem i_P_text : Cond.instanceMethod m_P_text.1 ∈ pe_WS := pe_w4 (List.mem_of_getElem? (i := 189) (by decide +kernel))
theorem s_P_text : Cond.selects "PaintEditor" m_P_text.1 m_P_text.1 ∈ pe_WS := pe_w4 (List.mem_of_getElem? (i := 190) (by decide +kernel))
theorem i_P_state : Cond.instanceMethod m_P_state.1 ∈ pe_WS := pe_w4 (List.mem_of_getElem? (i := 194) (by decide +kernel))
theorem s_P_state : Cond.selects "PaintEditor" m_P_state.1 m_P_state.1 ∈ pe_WS := pe_w4 (List.mem_of_getElem? (i := 195) (by decide +kernel))
theorem i_P_cell : Cond.instanceMethod m_P_cell.1 ∈ pe_WS := pe_w4 (List.mem_of_getElem? (i := 198) (by decide +kernel))
theorem s_P_cell : Cond.selects "PaintEditor" m_P_cell.1 m_P_cell.1 ∈ pe_WS := pe_w4 (List.mem_of_getElem? (i := 199) (by decide +kernel))
theorem i_P_look : Cond.instanceMethod m_P_look.1 ∈ pe_WS := pe_w4 (List.mem_of_getElem? (i := 203) (by decide +kernel))
theorem s_P_look : Cond.selects "PaintEditor" m_P_look.1 m_P_look.1 ∈ pe_WS := pe_w4 (List.mem_of_getElem? (i := 204) (by decide +kernel))
theorem i_P_terminal : Cond.instanceMethod m_P_terminal.1 ∈ pe_WS := pe_w4 (List.mem_of_getElem? (i := 208) (by decide +kernel))
theorem s_P_terminal : Cond.selects "PaintEditor" m_P_terminal.1 m_P_terminal.1 ∈ pe_WS := pe_w4 (List.mem_of_getElem? (i := 209) (by decide +kernel))
theorem i_P_sent : Cond.instanceMethod m_P_sent.1 ∈ pe_WS := pe_w4 (List.mem_of_getElem? (i := 212) (by decide +kernel))
theorem s_P_sent : Cond.selects "PaintEditor" m_P_sent.1 m_P_sent.1 ∈ pe_WS := pe_w4 (List.mem_of_getElem? (i := 213) (by decide +kernel))
theorem z_M_isMark : Cond.static m_M_isMark.1 ∈ pe_WS := pe_w5 (List.mem_of_getElem? (i := 164) (by decide +kernel))
theorem z_M_isWide : Cond.static m_M_isWide.1 ∈ pe_WS := pe_w5 (List.mem_of_getElem? (i := 223) (by decide +kernel))
theorem i_M_begins : Cond.instanceMethod m_M_begins.1 ∈ pe_WS := pe_w5 (List.mem_of_getElem? (i := 161) (by decide +kernel))
theorem s_M_begins : Cond.selects "PaintEditorModel" m_M_begins.1 m_M_begins.1 ∈ pe_WS := pe_wp (q := (m_M_begins.1, 44)) (by decide +kernel)
theorem i_M_after : Cond.instanceMethod m_M_after.1 ∈ pe_WS := pe_w5 (List.mem_of_getElem? (i := 230) (by decide +kernel))
theorem s_M_after : Cond.selects "PaintEditorModel" m_M_after.1 m_M_after.1 ∈ pe_WS := pe_wp (q := (m_M_after.1, 44)) (by decide +kernel)
theorem i_M_before : Cond.instanceMethod m_M_before.1 ∈ pe_WS := pe_w5 (List.mem_of_getElem? (i := 200) (by decide +kernel))
theorem s_M_before : Cond.selects "PaintEditorModel" m_M_before.1 m_M_before.1 ∈ pe_WS := pe_wp (q := (m_M_before.1, 44)) (by decide +kernel)
theorem i_M_widthOf : Cond.instanceMethod m_M_widthOf.1 ∈ pe_WS := pe_w5 (List.mem_of_getElem? (i := 220) (by decide +kernel))
theorem s_M_widthOf : Cond.selects "PaintEditorModel" m_M_widthOf.1 m_M_widthOf.1 ∈ pe_WS := pe_wp (q := (m_M_widthOf.1, 44)) (by decide +kernel)
theorem i_M_layOut : Cond.instanceMethod m_M_layOut.1 ∈ pe_WS := pe_w5 (List.mem_of_getElem? (i := 216) (by decide +kernel))
theorem s_M_layOut : Cond.selects "PaintEditorModel" m_M_layOut.1 m_M_layOut.1 ∈ pe_WS := pe_wp (q := (m_M_layOut.1, 44)) (by decide +kernel)
theorem i_M_isSmall : Cond.instanceMethod m_M_isSmall.1 ∈ pe_WS := pe_w6 (List.mem_of_getElem? (i := 18) (by decide +kernel))
theorem s_M_isSmall : Cond.selects "PaintEditorModel" m_M_isSmall.1 m_M_isSmall.1 ∈ pe_WS := pe_wp (q := (m_M_isSmall.1, 44)) (by decide +kernel)
theorem i_M_forgetFirst : Cond.instanceMethod m_M_forgetFirst.1 ∈ pe_WS := pe_w5 (List.mem_of_getElem? (i := 149) (by decide +kernel))
theorem s_M_forgetFirst : Cond.selects "PaintEditorModel" m_M_forgetFirst.1 m_M_forgetFirst.1 ∈ pe_WS := pe_wp (q := (m_M_forgetFirst.1, 44)) (by decide +kernel)
theorem i_M_open : Cond.instanceMethod m_M_open.1 ∈ pe_WS := pe_w5 (List.mem_of_getElem? (i := 153) (by decide +kernel))
theorem s_M_open : Cond.selects "PaintEditorModel" m_M_open.1 m_M_open.1 ∈ pe_WS := pe_wp (q := (m_M_open.1, 44)) (by decide +kernel)
theorem i_M_close : Cond.instanceMethod m_M_close.1 ∈ pe_WS := pe_w5 (List.mem_of_getElem? (i := 188) (by decide +kernel))
theorem s_M_close : Cond.selects "PaintEditorModel" m_M_close.1 m_M_close.1 ∈ pe_WS := pe_wp (q := (m_M_close.1, 44)) (by decide +kernel)
theorem i_M_note : Cond.instanceMethod m_M_note.1 ∈ pe_WS := pe_w5 (List.mem_of_getElem? (i := 145) (by decide +kernel))
theorem s_M_note : Cond.selects "PaintEditorModel" m_M_note.1 m_M_note.1 ∈ pe_WS := pe_wp (q := (m_M_note.1, 44)) (by decide +kernel)
theorem i_M_settle : Cond.instanceMethod m_M_settle.1 ∈ pe_WS := pe_w5 (List.mem_of_getElem? (i := 157) (by decide +kernel))
theorem s_M_settle : Cond.selects "PaintEditorModel" m_M_settle.1 m_M_settle.1 ∈ pe_WS := pe_wp (q := (m_M_settle.1, 44)) (by decide +kernel)
theorem i_M_insertOne : Cond.instanceMethod m_M_insertOne.1 ∈ pe_WS := pe_w5 (List.mem_of_getElem? (i := 141) (by decide +kernel))
theorem s_M_insertOne : Cond.selects "PaintEditorModel" m_M_insertOne.1 m_M_insertOne.1 ∈ pe_WS := pe_wp (q := (m_M_insertOne.1, 44)) (by decide +kernel)
theorem i_M_insertClip : Cond.instanceMethod m_M_insertClip.1 ∈ pe_WS := pe_w5 (List.mem_of_getElem? (i := 192) (by decide +kernel))
theorem s_M_insertClip : Cond.selects "PaintEditorModel" m_M_insertClip.1 m_M_insertClip.1 ∈ pe_WS := pe_wp (q := (m_M_insertClip.1, 44)) (by decide +kernel)
theorem i_M_takeAway : Cond.instanceMethod m_M_takeAway.1 ∈ pe_WS := pe_w5 (List.mem_of_getElem? (i := 184) (by decide +kernel))
theorem s_M_takeAway : Cond.selects "PaintEditorModel" m_M_takeAway.1 m_M_takeAway.1 ∈ pe_WS := pe_wp (q := (m_M_takeAway.1, 44)) (by decide +kernel)
theorem i_M_cutOut : Cond.instanceMethod m_M_cutOut.1 ∈ pe_WS := pe_w5 (List.mem_of_getElem? (i := 180) (by decide +kernel))
theorem s_M_cutOut : Cond.selects "PaintEditorModel" m_M_cutOut.1 m_M_cutOut.1 ∈ pe_WS := pe_wp (q := (m_M_cutOut.1, 44)) (by decide +kernel)
theorem i_M_undo : Cond.instanceMethod m_M_undo.1 ∈ pe_WS := pe_w5 (List.mem_of_getElem? (i := 196) (by decide +kernel))
theorem s_M_undo : Cond.selects "PaintEditorModel" m_M_undo.1 m_M_undo.1 ∈ pe_WS := pe_wp (q := (m_M_undo.1, 44)) (by decide +kernel)
theorem i_M_character : Cond.instanceMethod m_M_character.1 ∈ pe_WS := pe_w5 (List.mem_of_getElem? (i := 137) (by decide +kernel))
theorem s_M_character : Cond.selects "PaintEditorModel" m_M_character.1 m_M_character.1 ∈ pe_WS := pe_wp (q := (m_M_character.1, 44)) (by decide +kernel)
theorem i_M_control : Cond.instanceMethod m_M_control.1 ∈ pe_WS := pe_w5 (List.mem_of_getElem? (i := 172) (by decide +kernel))
theorem s_M_control : Cond.selects "PaintEditorModel" m_M_control.1 m_M_control.1 ∈ pe_WS := pe_wp (q := (m_M_control.1, 44)) (by decide +kernel)
theorem i_M_command : Cond.instanceMethod m_M_command.1 ∈ pe_WS := pe_w5 (List.mem_of_getElem? (i := 176) (by decide +kernel))
theorem s_M_command : Cond.selects "PaintEditorModel" m_M_command.1 m_M_command.1 ∈ pe_WS := pe_wp (q := (m_M_command.1, 44)) (by decide +kernel)
theorem i_M_escapeKey : Cond.instanceMethod m_M_escapeKey.1 ∈ pe_WS := pe_w6 (List.mem_of_getElem? (i := 2) (by decide +kernel))
theorem s_M_escapeKey : Cond.selects "PaintEditorModel" m_M_escapeKey.1 m_M_escapeKey.1 ∈ pe_WS := pe_wp (q := (m_M_escapeKey.1, 44)) (by decide +kernel)
theorem i_M_upOrDown : Cond.instanceMethod m_M_upOrDown.1 ∈ pe_WS := pe_w5 (List.mem_of_getElem? (i := 212) (by decide +kernel))
theorem s_M_upOrDown : Cond.selects "PaintEditorModel" m_M_upOrDown.1 m_M_upOrDown.1 ∈ pe_WS := pe_wp (q := (m_M_upOrDown.1, 44)) (by decide +kernel)
theorem i_M_lineBegin : Cond.instanceMethod m_M_lineBegin.1 ∈ pe_WS := pe_w5 (List.mem_of_getElem? (i := 234) (by decide +kernel))
theorem s_M_lineBegin : Cond.selects "PaintEditorModel" m_M_lineBegin.1 m_M_lineBegin.1 ∈ pe_WS := pe_wp (q := (m_M_lineBegin.1, 44)) (by decide +kernel)
theorem i_M_lineEnd : Cond.instanceMethod m_M_lineEnd.1 ∈ pe_WS := pe_w5 (List.mem_of_getElem? (i := 238) (by decide +kernel))
theorem s_M_lineEnd : Cond.selects "PaintEditorModel" m_M_lineEnd.1 m_M_lineEnd.1 ∈ pe_WS := pe_wp (q := (m_M_lineEnd.1, 44)) (by decide +kernel)
theorem i_M_finish : Cond.instanceMethod m_M_finish.1 ∈ pe_WS := pe_w5 (List.mem_of_getElem? (i := 208) (by decide +kernel))
theorem s_M_finish : Cond.selects "PaintEditorModel" m_M_finish.1 m_M_finish.1 ∈ pe_WS := pe_wp (q := (m_M_finish.1, 44)) (by decide +kernel)
theorem i_M_plain : Cond.instanceMethod m_M_plain.1 ∈ pe_WS := pe_w5 (List.mem_of_getElem? (i := 168) (by decide +kernel))
theorem s_M_plain : Cond.selects "PaintEditorModel" m_M_plain.1 m_M_plain.1 ∈ pe_WS := pe_wp (q := (m_M_plain.1, 44)) (by decide +kernel)
theorem i_M_within : Cond.instanceMethod m_M_within.1 ∈ pe_WS := pe_w5 (List.mem_of_getElem? (i := 132) (by decide +kernel))
theorem s_M_within : Cond.selects "PaintEditorModel" m_M_within.1 m_M_within.1 ∈ pe_WS := pe_wp (q := (m_M_within.1, 44)) (by decide +kernel)
theorem i_M_inSequence : Cond.instanceMethod m_M_inSequence.1 ∈ pe_WS := pe_w5 (List.mem_of_getElem? (i := 204) (by decide +kernel))
theorem s_M_inSequence : Cond.selects "PaintEditorModel" m_M_inSequence.1 m_M_inSequence.1 ∈ pe_WS := pe_wp (q := (m_M_inSequence.1, 44)) (by decide +kernel)
theorem i_M_take : Cond.instanceMethod m_M_take.1 ∈ pe_WS := pe_w5 (List.mem_of_getElem? (i := 128) (by decide +kernel))
theorem s_M_take : Cond.selects "PaintEditorModel" m_M_take.1 m_M_take.1 ∈ pe_WS := pe_wp (q := (m_M_take.1, 44)) (by decide +kernel)
theorem i_M_type : Cond.instanceMethod m_M_type.1 ∈ pe_WS := pe_w5 (List.mem_of_getElem? (i := 122) (by decide +kernel))
theorem s_M_type : Cond.selects "PaintEditorModel" m_M_type.1 m_M_type.1 ∈ pe_WS := pe_w5 (List.mem_of_getElem? (i := 123) (by decide +kernel))
theorem i_M_tick : Cond.instanceMethod m_M_tick.1 ∈ pe_WS := pe_w6 (List.mem_of_getElem? (i := 5) (by decide +kernel))
theorem s_M_tick : Cond.selects "PaintEditorModel" m_M_tick.1 m_M_tick.1 ∈ pe_WS := pe_w6 (List.mem_of_getElem? (i := 6) (by decide +kernel))
theorem i_M_clusterAt : Cond.instanceMethod m_M_clusterAt.1 ∈ pe_WS := pe_w6 (List.mem_of_getElem? (i := 26) (by decide +kernel))
theorem s_M_clusterAt : Cond.selects "PaintEditorModel" m_M_clusterAt.1 m_M_clusterAt.1 ∈ pe_WS := pe_wp (q := (m_M_clusterAt.1, 44)) (by decide +kernel)
theorem i_M_fillText : Cond.instanceMethod m_M_fillText.1 ∈ pe_WS := pe_w6 (List.mem_of_getElem? (i := 22) (by decide +kernel))
theorem s_M_fillText : Cond.selects "PaintEditorModel" m_M_fillText.1 m_M_fillText.1 ∈ pe_WS := pe_wp (q := (m_M_fillText.1, 44)) (by decide +kernel)
theorem i_M_status : Cond.instanceMethod m_M_status.1 ∈ pe_WS := pe_w6 (List.mem_of_getElem? (i := 40) (by decide +kernel))
theorem s_M_status : Cond.selects "PaintEditorModel" m_M_status.1 m_M_status.1 ∈ pe_WS := pe_wp (q := (m_M_status.1, 44)) (by decide +kernel)
theorem i_M_statusNumber : Cond.instanceMethod m_M_statusNumber.1 ∈ pe_WS := pe_w6 (List.mem_of_getElem? (i := 36) (by decide +kernel))
theorem s_M_statusNumber : Cond.selects "PaintEditorModel" m_M_statusNumber.1 m_M_statusNumber.1 ∈ pe_WS := pe_wp (q := (m_M_statusNumber.1, 44)) (by decide +kernel)
theorem i_M_fillStatus : Cond.instanceMethod m_M_fillStatus.1 ∈ pe_WS := pe_w6 (List.mem_of_getElem? (i := 32) (by decide +kernel))
theorem s_M_fillStatus : Cond.selects "PaintEditorModel" m_M_fillStatus.1 m_M_fillStatus.1 ∈ pe_WS := pe_wp (q := (m_M_fillStatus.1, 44)) (by decide +kernel)
theorem i_M_compose : Cond.instanceMethod m_M_compose.1 ∈ pe_WS := pe_w6 (List.mem_of_getElem? (i := 14) (by decide +kernel))
theorem s_M_compose : Cond.selects "PaintEditorModel" m_M_compose.1 m_M_compose.1 ∈ pe_WS := pe_wp (q := (m_M_compose.1, 44)) (by decide +kernel)
theorem i_M_put : Cond.instanceMethod m_M_put.1 ∈ pe_WS := pe_w6 (List.mem_of_getElem? (i := 52) (by decide +kernel))
theorem s_M_put : Cond.selects "PaintEditorModel" m_M_put.1 m_M_put.1 ∈ pe_WS := pe_wp (q := (m_M_put.1, 44)) (by decide +kernel)
theorem i_M_putNumber : Cond.instanceMethod m_M_putNumber.1 ∈ pe_WS := pe_w6 (List.mem_of_getElem? (i := 81) (by decide +kernel))
theorem s_M_putNumber : Cond.selects "PaintEditorModel" m_M_putNumber.1 m_M_putNumber.1 ∈ pe_WS := pe_wp (q := (m_M_putNumber.1, 44)) (by decide +kernel)
theorem i_M_putBegin : Cond.instanceMethod m_M_putBegin.1 ∈ pe_WS := pe_w6 (List.mem_of_getElem? (i := 48) (by decide +kernel))
theorem s_M_putBegin : Cond.selects "PaintEditorModel" m_M_putBegin.1 m_M_putBegin.1 ∈ pe_WS := pe_wp (q := (m_M_putBegin.1, 44)) (by decide +kernel)
theorem i_M_blankHalf : Cond.instanceMethod m_M_blankHalf.1 ∈ pe_WS := pe_w6 (List.mem_of_getElem? (i := 93) (by decide +kernel))
theorem s_M_blankHalf : Cond.selects "PaintEditorModel" m_M_blankHalf.1 m_M_blankHalf.1 ∈ pe_WS := pe_wp (q := (m_M_blankHalf.1, 44)) (by decide +kernel)
theorem i_M_putCode : Cond.instanceMethod m_M_putCode.1 ∈ pe_WS := pe_w6 (List.mem_of_getElem? (i := 89) (by decide +kernel))
theorem s_M_putCode : Cond.selects "PaintEditorModel" m_M_putCode.1 m_M_putCode.1 ∈ pe_WS := pe_wp (q := (m_M_putCode.1, 44)) (by decide +kernel)
theorem i_M_write : Cond.instanceMethod m_M_write.1 ∈ pe_WS := pe_w6 (List.mem_of_getElem? (i := 85) (by decide +kernel))
theorem s_M_write : Cond.selects "PaintEditorModel" m_M_write.1 m_M_write.1 ∈ pe_WS := pe_wp (q := (m_M_write.1, 44)) (by decide +kernel)
theorem i_M_sendPlace : Cond.instanceMethod m_M_sendPlace.1 ∈ pe_WS := pe_w6 (List.mem_of_getElem? (i := 77) (by decide +kernel))
theorem s_M_sendPlace : Cond.selects "PaintEditorModel" m_M_sendPlace.1 m_M_sendPlace.1 ∈ pe_WS := pe_wp (q := (m_M_sendPlace.1, 44)) (by decide +kernel)
theorem i_M_go : Cond.instanceMethod m_M_go.1 ∈ pe_WS := pe_w6 (List.mem_of_getElem? (i := 73) (by decide +kernel))
theorem s_M_go : Cond.selects "PaintEditorModel" m_M_go.1 m_M_go.1 ∈ pe_WS := pe_wp (q := (m_M_go.1, 44)) (by decide +kernel)
theorem i_M_setLook : Cond.instanceMethod m_M_setLook.1 ∈ pe_WS := pe_w6 (List.mem_of_getElem? (i := 44) (by decide +kernel))
theorem s_M_setLook : Cond.selects "PaintEditorModel" m_M_setLook.1 m_M_setLook.1 ∈ pe_WS := pe_wp (q := (m_M_setLook.1, 44)) (by decide +kernel)
theorem i_M_sendCluster : Cond.instanceMethod m_M_sendCluster.1 ∈ pe_WS := pe_w6 (List.mem_of_getElem? (i := 68) (by decide +kernel))
theorem s_M_sendCluster : Cond.selects "PaintEditorModel" m_M_sendCluster.1 m_M_sendCluster.1 ∈ pe_WS := pe_wp (q := (m_M_sendCluster.1, 44)) (by decide +kernel)
theorem i_M_sendClusters : Cond.instanceMethod m_M_sendClusters.1 ∈ pe_WS := pe_w6 (List.mem_of_getElem? (i := 64) (by decide +kernel))
theorem s_M_sendClusters : Cond.selects "PaintEditorModel" m_M_sendClusters.1 m_M_sendClusters.1 ∈ pe_WS := pe_wp (q := (m_M_sendClusters.1, 44)) (by decide +kernel)
theorem i_M_differs : Cond.instanceMethod m_M_differs.1 ∈ pe_WS := pe_w6 (List.mem_of_getElem? (i := 60) (by decide +kernel))
theorem s_M_differs : Cond.selects "PaintEditorModel" m_M_differs.1 m_M_differs.1 ∈ pe_WS := pe_wp (q := (m_M_differs.1, 44)) (by decide +kernel)
theorem i_M_drawRow : Cond.instanceMethod m_M_drawRow.1 ∈ pe_WS := pe_w6 (List.mem_of_getElem? (i := 56) (by decide +kernel))
theorem s_M_drawRow : Cond.selects "PaintEditorModel" m_M_drawRow.1 m_M_drawRow.1 ∈ pe_WS := pe_wp (q := (m_M_drawRow.1, 44)) (by decide +kernel)
theorem i_M_draw : Cond.instanceMethod m_M_draw.1 ∈ pe_WS := pe_w6 (List.mem_of_getElem? (i := 9) (by decide +kernel))
theorem s_M_draw : Cond.selects "PaintEditorModel" m_M_draw.1 m_M_draw.1 ∈ pe_WS := pe_w6 (List.mem_of_getElem? (i := 10) (by decide +kernel))
theorem i_M_size : Cond.instanceMethod m_M_size.1 ∈ pe_WS := pe_w6 (List.mem_of_getElem? (i := 96) (by decide +kernel))
theorem s_M_size : Cond.selects "PaintEditorModel" m_M_size.1 m_M_size.1 ∈ pe_WS := pe_w6 (List.mem_of_getElem? (i := 97) (by decide +kernel))
theorem i_M_text : Cond.instanceMethod m_M_text.1 ∈ pe_WS := pe_w6 (List.mem_of_getElem? (i := 100) (by decide +kernel))
theorem s_M_text : Cond.selects "PaintEditorModel" m_M_text.1 m_M_text.1 ∈ pe_WS := pe_w6 (List.mem_of_getElem? (i := 101) (by decide +kernel))
theorem i_M_state : Cond.instanceMethod m_M_state.1 ∈ pe_WS := pe_w6 (List.mem_of_getElem? (i := 104) (by decide +kernel))
theorem s_M_state : Cond.selects "PaintEditorModel" m_M_state.1 m_M_state.1 ∈ pe_WS := pe_w6 (List.mem_of_getElem? (i := 105) (by decide +kernel))
theorem i_M_isCell : Cond.instanceMethod m_M_isCell.1 ∈ pe_WS := pe_w6 (List.mem_of_getElem? (i := 113) (by decide +kernel))
theorem s_M_isCell : Cond.selects "PaintEditorModel" m_M_isCell.1 m_M_isCell.1 ∈ pe_WS := pe_wp (q := (m_M_isCell.1, 44)) (by decide +kernel)
theorem i_M_cell : Cond.instanceMethod m_M_cell.1 ∈ pe_WS := pe_w6 (List.mem_of_getElem? (i := 108) (by decide +kernel))
theorem s_M_cell : Cond.selects "PaintEditorModel" m_M_cell.1 m_M_cell.1 ∈ pe_WS := pe_w6 (List.mem_of_getElem? (i := 109) (by decide +kernel))
theorem i_M_look : Cond.instanceMethod m_M_look.1 ∈ pe_WS := pe_w6 (List.mem_of_getElem? (i := 116) (by decide +kernel))
theorem s_M_look : Cond.selects "PaintEditorModel" m_M_look.1 m_M_look.1 ∈ pe_WS := pe_w6 (List.mem_of_getElem? (i := 117) (by decide +kernel))
theorem i_M_terminal : Cond.instanceMethod m_M_terminal.1 ∈ pe_WS := pe_w6 (List.mem_of_getElem? (i := 120) (by decide +kernel))
theorem s_M_terminal : Cond.selects "PaintEditorModel" m_M_terminal.1 m_M_terminal.1 ∈ pe_WS := pe_w6 (List.mem_of_getElem? (i := 121) (by decide +kernel))
theorem i_M_sent : Cond.instanceMethod m_M_sent.1 ∈ pe_WS := pe_w6 (List.mem_of_getElem? (i := 124) (by decide +kernel))
theorem s_M_sent : Cond.selects "PaintEditorModel" m_M_sent.1 m_M_sent.1 ∈ pe_WS := pe_w6 (List.mem_of_getElem? (i := 125) (by decide +kernel))
theorem z_C_isMark : Cond.static m_C_isMark.1 ∈ pe_WS := pe_w2 (List.mem_of_getElem? (i := 158) (by decide +kernel))
theorem z_C_takesMarks : Cond.static m_C_takesMarks.1 ∈ pe_WS := pe_w2 (List.mem_of_getElem? (i := 161) (by decide +kernel))
theorem z_C_isWide : Cond.static m_C_isWide.1 ∈ pe_WS := pe_w2 (List.mem_of_getElem? (i := 169) (by decide +kernel))
theorem z_C_widthOf : Cond.static m_C_widthOf.1 ∈ pe_WS := pe_w2 (List.mem_of_getElem? (i := 166) (by decide +kernel))
theorem z_C_characterOf : Cond.static m_C_characterOf.1 ∈ pe_WS := pe_w3 (List.mem_of_getElem? (i := 100) (by decide +kernel))
theorem z_C_firstMarkOf : Cond.static m_C_firstMarkOf.1 ∈ pe_WS := pe_w4 (List.mem_of_getElem? (i := 179) (by decide +kernel))
theorem z_C_secondMarkOf : Cond.static m_C_secondMarkOf.1 ∈ pe_WS := pe_w4 (List.mem_of_getElem? (i := 167) (by decide +kernel))
theorem z_C_withMark : Cond.static m_C_withMark.1 ∈ pe_WS := pe_w3 (List.mem_of_getElem? (i := 148) (by decide +kernel))
theorem i_E_press : Cond.instanceMethod m_E_press.1 ∈ pe_WS := pe_w2 (List.mem_of_getElem? (i := 136) (by decide +kernel))
theorem s_E_press : Cond.selects "PaintEditor$Editor" m_E_press.1 m_E_press.1 ∈ pe_WS := pe_w2 (List.mem_of_getElem? (i := 137) (by decide +kernel))
theorem z_E_isCharacter : Cond.static m_E_isCharacter.1 ∈ pe_WS := pe_w2 (List.mem_of_getElem? (i := 183) (by decide +kernel))
theorem z_E_worksWhilePasting : Cond.static m_E_worksWhilePasting.1 ∈ pe_WS := pe_w2 (List.mem_of_getElem? (i := 180) (by decide +kernel))
theorem z_E_worksOtherwise : Cond.static m_E_worksOtherwise.1 ∈ pe_WS := pe_w2 (List.mem_of_getElem? (i := 187) (by decide +kernel))
theorem i_E_command : Cond.instanceMethod m_E_command.1 ∈ pe_WS := pe_w2 (List.mem_of_getElem? (i := 218) (by decide +kernel))
theorem s_E_command : Cond.selects "PaintEditor$Editor" m_E_command.1 m_E_command.1 ∈ pe_WS := pe_wp (q := (m_E_command.1, 12)) (by decide +kernel)
theorem i_E_insertOne : Cond.instanceMethod m_E_insertOne.1 ∈ pe_WS := pe_w2 (List.mem_of_getElem? (i := 191) (by decide +kernel))
theorem s_E_insertOne : Cond.selects "PaintEditor$Editor" m_E_insertOne.1 m_E_insertOne.1 ∈ pe_WS := pe_wp (q := (m_E_insertOne.1, 12)) (by decide +kernel)
theorem i_E_insert : Cond.instanceMethod m_E_insert.1 ∈ pe_WS := pe_w2 (List.mem_of_getElem? (i := 195) (by decide +kernel))
theorem s_E_insert : Cond.selects "PaintEditor$Editor" m_E_insert.1 m_E_insert.1 ∈ pe_WS := pe_wp (q := (m_E_insert.1, 12)) (by decide +kernel)
theorem i_E_removeBetween : Cond.instanceMethod m_E_removeBetween.1 ∈ pe_WS := pe_w2 (List.mem_of_getElem? (i := 228) (by decide +kernel))
theorem s_E_removeBetween : Cond.selects "PaintEditor$Editor" m_E_removeBetween.1 m_E_removeBetween.1 ∈ pe_WS := pe_wp (q := (m_E_removeBetween.1, 12)) (by decide +kernel)
theorem i_E_cut : Cond.instanceMethod m_E_cut.1 ∈ pe_WS := pe_w3 (List.mem_of_getElem? (i := 17) (by decide +kernel))
theorem s_E_cut : Cond.selects "PaintEditor$Editor" m_E_cut.1 m_E_cut.1 ∈ pe_WS := pe_wp (q := (m_E_cut.1, 12)) (by decide +kernel)
theorem i_E_undo : Cond.instanceMethod m_E_undo.1 ∈ pe_WS := pe_w3 (List.mem_of_getElem? (i := 24) (by decide +kernel))
theorem s_E_undo : Cond.selects "PaintEditor$Editor" m_E_undo.1 m_E_undo.1 ∈ pe_WS := pe_wp (q := (m_E_undo.1, 12)) (by decide +kernel)
theorem i_E_moveByRow : Cond.instanceMethod m_E_moveByRow.1 ∈ pe_WS := pe_w2 (List.mem_of_getElem? (i := 143) (by decide +kernel))
theorem s_E_moveByRow : Cond.selects "PaintEditor$Editor" m_E_moveByRow.1 m_E_moveByRow.1 ∈ pe_WS := pe_wp (q := (m_E_moveByRow.1, 12)) (by decide +kernel)
theorem i_E_isBetween : Cond.instanceMethod m_E_isBetween.1 ∈ pe_WS := pe_w3 (List.mem_of_getElem? (i := 139) (by decide +kernel))
theorem s_E_isBetween : Cond.selects "PaintEditor$Editor" m_E_isBetween.1 m_E_isBetween.1 ∈ pe_WS := pe_w3 (List.mem_of_getElem? (i := 140) (by decide +kernel))
theorem i_G_has : Cond.instanceMethod m_G_has.1 ∈ pe_WS := pe_w3 (List.mem_of_getElem? (i := 88) (by decide +kernel))
theorem s_G_has : Cond.selects "PaintEditor$Grid" m_G_has.1 m_G_has.1 ∈ pe_WS := pe_w3 (List.mem_of_getElem? (i := 89) (by decide +kernel))
theorem i_G_clusterAt : Cond.instanceMethod m_G_clusterAt.1 ∈ pe_WS := pe_w3 (List.mem_of_getElem? (i := 96) (by decide +kernel))
theorem s_G_clusterAt : Cond.selects "PaintEditor$Grid" m_G_clusterAt.1 m_G_clusterAt.1 ∈ pe_WS := pe_w3 (List.mem_of_getElem? (i := 97) (by decide +kernel))
theorem i_G_lookAt : Cond.instanceMethod m_G_lookAt.1 ∈ pe_WS := pe_w4 (List.mem_of_getElem? (i := 121) (by decide +kernel))
theorem s_G_lookAt : Cond.selects "PaintEditor$Grid" m_G_lookAt.1 m_G_lookAt.1 ∈ pe_WS := pe_w4 (List.mem_of_getElem? (i := 122) (by decide +kernel))
theorem i_G_put : Cond.instanceMethod m_G_put.1 ∈ pe_WS := pe_w3 (List.mem_of_getElem? (i := 84) (by decide +kernel))
theorem s_G_put : Cond.selects "PaintEditor$Grid" m_G_put.1 m_G_put.1 ∈ pe_WS := pe_w3 (List.mem_of_getElem? (i := 85) (by decide +kernel))
theorem i_G_isBlank : Cond.instanceMethod m_G_isBlank.1 ∈ pe_WS := pe_w4 (List.mem_of_getElem? (i := 132) (by decide +kernel))
theorem s_G_isBlank : Cond.selects "PaintEditor$Grid" m_G_isBlank.1 m_G_isBlank.1 ∈ pe_WS := pe_w4 (List.mem_of_getElem? (i := 133) (by decide +kernel))
theorem i_G_isWideAt : Cond.instanceMethod m_G_isWideAt.1 ∈ pe_WS := pe_w3 (List.mem_of_getElem? (i := 92) (by decide +kernel))
theorem s_G_isWideAt : Cond.selects "PaintEditor$Grid" m_G_isWideAt.1 m_G_isWideAt.1 ∈ pe_WS := pe_w3 (List.mem_of_getElem? (i := 93) (by decide +kernel))
theorem i_G_blankAll : Cond.instanceMethod m_G_blankAll.1 ∈ pe_WS := pe_w3 (List.mem_of_getElem? (i := 126) (by decide +kernel))
theorem s_G_blankAll : Cond.selects "PaintEditor$Grid" m_G_blankAll.1 m_G_blankAll.1 ∈ pe_WS := pe_w3 (List.mem_of_getElem? (i := 127) (by decide +kernel))
theorem i_G_blankFrom : Cond.instanceMethod m_G_blankFrom.1 ∈ pe_WS := pe_w3 (List.mem_of_getElem? (i := 80) (by decide +kernel))
theorem s_G_blankFrom : Cond.selects "PaintEditor$Grid" m_G_blankFrom.1 m_G_blankFrom.1 ∈ pe_WS := pe_w3 (List.mem_of_getElem? (i := 81) (by decide +kernel))
theorem i_G_resize : Cond.instanceMethod m_G_resize.1 ∈ pe_WS := pe_w3 (List.mem_of_getElem? (i := 76) (by decide +kernel))
theorem s_G_resize : Cond.selects "PaintEditor$Grid" m_G_resize.1 m_G_resize.1 ∈ pe_WS := pe_w3 (List.mem_of_getElem? (i := 77) (by decide +kernel))
theorem i_H_keepInsertion : Cond.instanceMethod m_H_keepInsertion.1 ∈ pe_WS := pe_w2 (List.mem_of_getElem? (i := 202) (by decide +kernel))
theorem s_H_keepInsertion : Cond.selects "PaintEditor$History" m_H_keepInsertion.1 m_H_keepInsertion.1 ∈ pe_WS := pe_w2 (List.mem_of_getElem? (i := 203) (by decide +kernel))
theorem i_H_keepRemoval : Cond.instanceMethod m_H_keepRemoval.1 ∈ pe_WS := pe_w2 (List.mem_of_getElem? (i := 231) (by decide +kernel))
theorem s_H_keepRemoval : Cond.selects "PaintEditor$History" m_H_keepRemoval.1 m_H_keepRemoval.1 ∈ pe_WS := pe_w2 (List.mem_of_getElem? (i := 232) (by decide +kernel))
theorem i_H_undoIn : Cond.instanceMethod m_H_undoIn.1 ∈ pe_WS := pe_w3 (List.mem_of_getElem? (i := 27) (by decide +kernel))
theorem s_H_undoIn : Cond.selects "PaintEditor$History" m_H_undoIn.1 m_H_undoIn.1 ∈ pe_WS := pe_w3 (List.mem_of_getElem? (i := 28) (by decide +kernel))
theorem i_H_newSlot : Cond.instanceMethod m_H_newSlot.1 ∈ pe_WS := pe_w2 (List.mem_of_getElem? (i := 207) (by decide +kernel))
theorem s_H_newSlot : Cond.selects "PaintEditor$History" m_H_newSlot.1 m_H_newSlot.1 ∈ pe_WS := pe_wp (q := (m_H_newSlot.1, 7)) (by decide +kernel)
theorem i_K_leave : Cond.instanceMethod m_K_leave.1 ∈ pe_WS := pe_w2 (List.mem_of_getElem? (i := 117) (by decide +kernel))
theorem s_K_leave : Cond.selects "PaintEditor$Keyboard" m_K_leave.1 m_K_leave.1 ∈ pe_WS := pe_w2 (List.mem_of_getElem? (i := 118) (by decide +kernel))
theorem i_K_giveUp : Cond.instanceMethod m_K_giveUp.1 ∈ pe_WS := pe_w2 (List.mem_of_getElem? (i := 131) (by decide +kernel))
theorem s_K_giveUp : Cond.selects "PaintEditor$Keyboard" m_K_giveUp.1 m_K_giveUp.1 ∈ pe_WS := pe_w2 (List.mem_of_getElem? (i := 132) (by decide +kernel))
theorem i_K_take : Cond.instanceMethod m_K_take.1 ∈ pe_WS := pe_w3 (List.mem_of_getElem? (i := 33) (by decide +kernel))
theorem s_K_take : Cond.selects "PaintEditor$Keyboard" m_K_take.1 m_K_take.1 ∈ pe_WS := pe_w3 (List.mem_of_getElem? (i := 34) (by decide +kernel))
theorem i_K_goesOn : Cond.instanceMethod m_K_goesOn.1 ∈ pe_WS := pe_w2 (List.mem_of_getElem? (i := 122) (by decide +kernel))
theorem s_K_goesOn : Cond.selects "PaintEditor$Keyboard" m_K_goesOn.1 m_K_goesOn.1 ∈ pe_WS := pe_wp (q := (m_K_goesOn.1, 7)) (by decide +kernel)
theorem z_K_isDigit : Cond.static m_K_isDigit.1 ∈ pe_WS := pe_w2 (List.mem_of_getElem? (i := 125) (by decide +kernel))
theorem z_K_isFinal : Cond.static m_K_isFinal.1 ∈ pe_WS := pe_w2 (List.mem_of_getElem? (i := 128) (by decide +kernel))
theorem i_K_takePlain : Cond.instanceMethod m_K_takePlain.1 ∈ pe_WS := pe_w3 (List.mem_of_getElem? (i := 60) (by decide +kernel))
theorem s_K_takePlain : Cond.selects "PaintEditor$Keyboard" m_K_takePlain.1 m_K_takePlain.1 ∈ pe_WS := pe_wp (q := (m_K_takePlain.1, 7)) (by decide +kernel)
theorem i_K_beginCharacter : Cond.instanceMethod m_K_beginCharacter.1 ∈ pe_WS := pe_w3 (List.mem_of_getElem? (i := 64) (by decide +kernel))
theorem s_K_beginCharacter : Cond.selects "PaintEditor$Keyboard" m_K_beginCharacter.1 m_K_beginCharacter.1 ∈ pe_WS := pe_wp (q := (m_K_beginCharacter.1, 7)) (by decide +kernel)
theorem i_K_takeWithin : Cond.instanceMethod m_K_takeWithin.1 ∈ pe_WS := pe_w3 (List.mem_of_getElem? (i := 56) (by decide +kernel))
theorem s_K_takeWithin : Cond.selects "PaintEditor$Keyboard" m_K_takeWithin.1 m_K_takeWithin.1 ∈ pe_WS := pe_wp (q := (m_K_takeWithin.1, 7)) (by decide +kernel)
theorem i_K_takeInSequence : Cond.instanceMethod m_K_takeInSequence.1 ∈ pe_WS := pe_w3 (List.mem_of_getElem? (i := 38) (by decide +kernel))
theorem s_K_takeInSequence : Cond.selects "PaintEditor$Keyboard" m_K_takeInSequence.1 m_K_takeInSequence.1 ∈ pe_WS := pe_wp (q := (m_K_takeInSequence.1, 7)) (by decide +kernel)
theorem i_K_numberedKey : Cond.instanceMethod m_K_numberedKey.1 ∈ pe_WS := pe_w3 (List.mem_of_getElem? (i := 49) (by decide +kernel))
theorem s_K_numberedKey : Cond.selects "PaintEditor$Keyboard" m_K_numberedKey.1 m_K_numberedKey.1 ∈ pe_WS := pe_wp (q := (m_K_numberedKey.1, 7)) (by decide +kernel)
theorem i_L_lay : Cond.instanceMethod m_L_lay.1 ∈ pe_WS := pe_w2 (List.mem_of_getElem? (i := 146) (by decide +kernel))
theorem s_L_lay : Cond.selects "PaintEditor$Layout" m_L_lay.1 m_L_lay.1 ∈ pe_WS := pe_w2 (List.mem_of_getElem? (i := 147) (by decide +kernel))
theorem i_L_placeIn : Cond.instanceMethod m_L_placeIn.1 ∈ pe_WS := pe_w2 (List.mem_of_getElem? (i := 176) (by decide +kernel))
theorem s_L_placeIn : Cond.selects "PaintEditor$Layout" m_L_placeIn.1 m_L_placeIn.1 ∈ pe_WS := pe_w2 (List.mem_of_getElem? (i := 177) (by decide +kernel))
theorem i_Q_byteAt : Cond.instanceMethod m_Q_byteAt.1 ∈ pe_WS := pe_w4 (List.mem_of_getElem? (i := 216) (by decide +kernel))
theorem s_Q_byteAt : Cond.selects "PaintEditor$Painter" m_Q_byteAt.1 m_Q_byteAt.1 ∈ pe_WS := pe_w4 (List.mem_of_getElem? (i := 217) (by decide +kernel))
theorem i_Q_begin : Cond.instanceMethod m_Q_begin.1 ∈ pe_WS := pe_w4 (List.mem_of_getElem? (i := 83) (by decide +kernel))
theorem s_Q_begin : Cond.selects "PaintEditor$Painter" m_Q_begin.1 m_Q_begin.1 ∈ pe_WS := pe_w4 (List.mem_of_getElem? (i := 84) (by decide +kernel))
theorem i_Q_paintRow : Cond.instanceMethod m_Q_paintRow.1 ∈ pe_WS := pe_w4 (List.mem_of_getElem? (i := 108) (by decide +kernel))
theorem s_Q_paintRow : Cond.selects "PaintEditor$Painter" m_Q_paintRow.1 m_Q_paintRow.1 ∈ pe_WS := pe_w4 (List.mem_of_getElem? (i := 109) (by decide +kernel))
theorem i_Q_differs : Cond.instanceMethod m_Q_differs.1 ∈ pe_WS := pe_w4 (List.mem_of_getElem? (i := 117) (by decide +kernel))
theorem s_Q_differs : Cond.selects "PaintEditor$Painter" m_Q_differs.1 m_Q_differs.1 ∈ pe_WS := pe_wp (q := (m_Q_differs.1, 3)) (by decide +kernel)
theorem i_Q_firstDifference : Cond.instanceMethod m_Q_firstDifference.1 ∈ pe_WS := pe_w4 (List.mem_of_getElem? (i := 113) (by decide +kernel))
theorem s_Q_firstDifference : Cond.selects "PaintEditor$Painter" m_Q_firstDifference.1 m_Q_firstDifference.1 ∈ pe_WS := pe_wp (q := (m_Q_firstDifference.1, 3)) (by decide +kernel)
theorem i_Q_lastDifference : Cond.instanceMethod m_Q_lastDifference.1 ∈ pe_WS := pe_w4 (List.mem_of_getElem? (i := 126) (by decide +kernel))
theorem s_Q_lastDifference : Cond.selects "PaintEditor$Painter" m_Q_lastDifference.1 m_Q_lastDifference.1 ∈ pe_WS := pe_wp (q := (m_Q_lastDifference.1, 3)) (by decide +kernel)
theorem z_Q_blankBeginning : Cond.static m_Q_blankBeginning.1 ∈ pe_WS := pe_w4 (List.mem_of_getElem? (i := 129) (by decide +kernel))
theorem i_Q_sendCluster : Cond.instanceMethod m_Q_sendCluster.1 ∈ pe_WS := pe_w4 (List.mem_of_getElem? (i := 139) (by decide +kernel))
theorem s_Q_sendCluster : Cond.selects "PaintEditor$Painter" m_Q_sendCluster.1 m_Q_sendCluster.1 ∈ pe_WS := pe_wp (q := (m_Q_sendCluster.1, 3)) (by decide +kernel)
theorem i_Q_makePlaceRight : Cond.instanceMethod m_Q_makePlaceRight.1 ∈ pe_WS := pe_w4 (List.mem_of_getElem? (i := 149) (by decide +kernel))
theorem s_Q_makePlaceRight : Cond.selects "PaintEditor$Painter" m_Q_makePlaceRight.1 m_Q_makePlaceRight.1 ∈ pe_WS := pe_w4 (List.mem_of_getElem? (i := 150) (by decide +kernel))
theorem i_Q_sendPlace : Cond.instanceMethod m_Q_sendPlace.1 ∈ pe_WS := pe_w4 (List.mem_of_getElem? (i := 145) (by decide +kernel))
theorem s_Q_sendPlace : Cond.selects "PaintEditor$Painter" m_Q_sendPlace.1 m_Q_sendPlace.1 ∈ pe_WS := pe_wp (q := (m_Q_sendPlace.1, 3)) (by decide +kernel)
theorem i_Q_sendLook : Cond.instanceMethod m_Q_sendLook.1 ∈ pe_WS := pe_w4 (List.mem_of_getElem? (i := 88) (by decide +kernel))
theorem s_Q_sendLook : Cond.selects "PaintEditor$Painter" m_Q_sendLook.1 m_Q_sendLook.1 ∈ pe_WS := pe_wp (q := (m_Q_sendLook.1, 3)) (by decide +kernel)
theorem i_Q_sendSequence : Cond.instanceMethod m_Q_sendSequence.1 ∈ pe_WS := pe_w4 (List.mem_of_getElem? (i := 92) (by decide +kernel))
theorem s_Q_sendSequence : Cond.selects "PaintEditor$Painter" m_Q_sendSequence.1 m_Q_sendSequence.1 ∈ pe_WS := pe_wp (q := (m_Q_sendSequence.1, 3)) (by decide +kernel)
theorem i_Q_putNumber : Cond.instanceMethod m_Q_putNumber.1 ∈ pe_WS := pe_w4 (List.mem_of_getElem? (i := 100) (by decide +kernel))
theorem s_Q_putNumber : Cond.selects "PaintEditor$Painter" m_Q_putNumber.1 m_Q_putNumber.1 ∈ pe_WS := pe_wp (q := (m_Q_putNumber.1, 3)) (by decide +kernel)
theorem i_Q_sendCharacter : Cond.instanceMethod m_Q_sendCharacter.1 ∈ pe_WS := pe_w4 (List.mem_of_getElem? (i := 154) (by decide +kernel))
theorem s_Q_sendCharacter : Cond.selects "PaintEditor$Painter" m_Q_sendCharacter.1 m_Q_sendCharacter.1 ∈ pe_WS := pe_wp (q := (m_Q_sendCharacter.1, 3)) (by decide +kernel)
theorem i_Q_put : Cond.instanceMethod m_Q_put.1 ∈ pe_WS := pe_w4 (List.mem_of_getElem? (i := 96) (by decide +kernel))
theorem s_Q_put : Cond.selects "PaintEditor$Painter" m_Q_put.1 m_Q_put.1 ∈ pe_WS := pe_wp (q := (m_Q_put.1, 3)) (by decide +kernel)
theorem i_S_compose : Cond.instanceMethod m_S_compose.1 ∈ pe_WS := pe_w3 (List.mem_of_getElem? (i := 122) (by decide +kernel))
theorem s_S_compose : Cond.selects "PaintEditor$Screen" m_S_compose.1 m_S_compose.1 ∈ pe_WS := pe_w3 (List.mem_of_getElem? (i := 123) (by decide +kernel))
theorem i_S_follow : Cond.instanceMethod m_S_follow.1 ∈ pe_WS := pe_w3 (List.mem_of_getElem? (i := 132) (by decide +kernel))
theorem s_S_follow : Cond.selects "PaintEditor$Screen" m_S_follow.1 m_S_follow.1 ∈ pe_WS := pe_wp (q := (m_S_follow.1, 5)) (by decide +kernel)
theorem i_S_showCluster : Cond.instanceMethod m_S_showCluster.1 ∈ pe_WS := pe_w3 (List.mem_of_getElem? (i := 136) (by decide +kernel))
theorem s_S_showCluster : Cond.selects "PaintEditor$Screen" m_S_showCluster.1 m_S_showCluster.1 ∈ pe_WS := pe_wp (q := (m_S_showCluster.1, 5)) (by decide +kernel)
theorem i_S_showStatus : Cond.instanceMethod m_S_showStatus.1 ∈ pe_WS := pe_w3 (List.mem_of_getElem? (i := 154) (by decide +kernel))
theorem s_S_showStatus : Cond.selects "PaintEditor$Screen" m_S_showStatus.1 m_S_showStatus.1 ∈ pe_WS := pe_wp (q := (m_S_showStatus.1, 5)) (by decide +kernel)
theorem i_Z_write : Cond.instanceMethod m_Z_write.1 ∈ pe_WS := pe_w4 (List.mem_of_getElem? (i := 157) (by decide +kernel))
theorem s_Z_write : Cond.selects "PaintEditor$Terminal" m_Z_write.1 m_Z_write.1 ∈ pe_WS := pe_w4 (List.mem_of_getElem? (i := 158) (by decide +kernel))
theorem i_Z_joins : Cond.instanceMethod m_Z_joins.1 ∈ pe_WS := pe_w4 (List.mem_of_getElem? (i := 163) (by decide +kernel))
theorem s_Z_joins : Cond.selects "PaintEditor$Terminal" m_Z_joins.1 m_Z_joins.1 ∈ pe_WS := pe_wp (q := (m_Z_joins.1, 8)) (by decide +kernel)
theorem i_Z_writeCells : Cond.instanceMethod m_Z_writeCells.1 ∈ pe_WS := pe_w4 (List.mem_of_getElem? (i := 176) (by decide +kernel))
theorem s_Z_writeCells : Cond.selects "PaintEditor$Terminal" m_Z_writeCells.1 m_Z_writeCells.1 ∈ pe_WS := pe_wp (q := (m_Z_writeCells.1, 8)) (by decide +kernel)
theorem i_Z_moveTo : Cond.instanceMethod m_Z_moveTo.1 ∈ pe_WS := pe_w3 (List.mem_of_getElem? (i := 110) (by decide +kernel))
theorem s_Z_moveTo : Cond.selects "PaintEditor$Terminal" m_Z_moveTo.1 m_Z_moveTo.1 ∈ pe_WS := pe_w3 (List.mem_of_getElem? (i := 111) (by decide +kernel))
theorem i_Z_eraseRestOfRow : Cond.instanceMethod m_Z_eraseRestOfRow.1 ∈ pe_WS := pe_w4 (List.mem_of_getElem? (i := 183) (by decide +kernel))
theorem s_Z_eraseRestOfRow : Cond.selects "PaintEditor$Terminal" m_Z_eraseRestOfRow.1 m_Z_eraseRestOfRow.1 ∈ pe_WS := pe_w4 (List.mem_of_getElem? (i := 184) (by decide +kernel))
theorem i_Z_eraseAll : Cond.instanceMethod m_Z_eraseAll.1 ∈ pe_WS := pe_w4 (List.mem_of_getElem? (i := 103) (by decide +kernel))
theorem s_Z_eraseAll : Cond.selects "PaintEditor$Terminal" m_Z_eraseAll.1 m_Z_eraseAll.1 ∈ pe_WS := pe_w4 (List.mem_of_getElem? (i := 104) (by decide +kernel))
theorem i_Z_resize : Cond.instanceMethod m_Z_resize.1 ∈ pe_WS := pe_w3 (List.mem_of_getElem? (i := 105) (by decide +kernel))
theorem s_Z_resize : Cond.selects "PaintEditor$Terminal" m_Z_resize.1 m_Z_resize.1 ∈ pe_WS := pe_w3 (List.mem_of_getElem? (i := 106) (by decide +kernel))
theorem i_Z_endWriting : Cond.instanceMethod m_Z_endWriting.1 ∈ pe_WS := pe_w3 (List.mem_of_getElem? (i := 115) (by decide +kernel))
theorem s_Z_endWriting : Cond.selects "PaintEditor$Terminal" m_Z_endWriting.1 m_Z_endWriting.1 ∈ pe_WS := pe_wp (q := (m_Z_endWriting.1, 8)) (by decide +kernel)
theorem i_T_codeAt : Cond.instanceMethod m_T_codeAt.1 ∈ pe_WS := pe_w2 (List.mem_of_getElem? (i := 154) (by decide +kernel))
theorem s_T_codeAt : Cond.selects "PaintEditor$Text" m_T_codeAt.1 m_T_codeAt.1 ∈ pe_WS := pe_w2 (List.mem_of_getElem? (i := 155) (by decide +kernel))
theorem i_T_hasRoomFor : Cond.instanceMethod m_T_hasRoomFor.1 ∈ pe_WS := pe_w2 (List.mem_of_getElem? (i := 198) (by decide +kernel))
theorem s_T_hasRoomFor : Cond.selects "PaintEditor$Text" m_T_hasRoomFor.1 m_T_hasRoomFor.1 ∈ pe_WS := pe_w2 (List.mem_of_getElem? (i := 199) (by decide +kernel))
theorem i_T_insert : Cond.instanceMethod m_T_insert.1 ∈ pe_WS := pe_w2 (List.mem_of_getElem? (i := 210) (by decide +kernel))
theorem s_T_insert : Cond.selects "PaintEditor$Text" m_T_insert.1 m_T_insert.1 ∈ pe_WS := pe_w2 (List.mem_of_getElem? (i := 211) (by decide +kernel))
theorem i_T_remove : Cond.instanceMethod m_T_remove.1 ∈ pe_WS := pe_w2 (List.mem_of_getElem? (i := 239) (by decide +kernel))
theorem s_T_remove : Cond.selects "PaintEditor$Text" m_T_remove.1 m_T_remove.1 ∈ pe_WS := pe_w3 (List.mem_of_getElem? (i := 0) (by decide +kernel))
theorem i_T_copyTo : Cond.instanceMethod m_T_copyTo.1 ∈ pe_WS := pe_w2 (List.mem_of_getElem? (i := 235) (by decide +kernel))
theorem s_T_copyTo : Cond.selects "PaintEditor$Text" m_T_copyTo.1 m_T_copyTo.1 ∈ pe_WS := pe_w2 (List.mem_of_getElem? (i := 236) (by decide +kernel))
theorem i_T_isBeginning : Cond.instanceMethod m_T_isBeginning.1 ∈ pe_WS := pe_w2 (List.mem_of_getElem? (i := 150) (by decide +kernel))
theorem s_T_isBeginning : Cond.selects "PaintEditor$Text" m_T_isBeginning.1 m_T_isBeginning.1 ∈ pe_WS := pe_w2 (List.mem_of_getElem? (i := 151) (by decide +kernel))
theorem i_T_beginningFrom : Cond.instanceMethod m_T_beginningFrom.1 ∈ pe_WS := pe_w3 (List.mem_of_getElem? (i := 3) (by decide +kernel))
theorem s_T_beginningFrom : Cond.selects "PaintEditor$Text" m_T_beginningFrom.1 m_T_beginningFrom.1 ∈ pe_WS := pe_w3 (List.mem_of_getElem? (i := 4) (by decide +kernel))
theorem i_T_beginningAhead : Cond.instanceMethod m_T_beginningAhead.1 ∈ pe_WS := pe_w2 (List.mem_of_getElem? (i := 221) (by decide +kernel))
theorem s_T_beginningAhead : Cond.selects "PaintEditor$Text" m_T_beginningAhead.1 m_T_beginningAhead.1 ∈ pe_WS := pe_w2 (List.mem_of_getElem? (i := 222) (by decide +kernel))
theorem i_T_lineBeginning : Cond.instanceMethod m_T_lineBeginning.1 ∈ pe_WS := pe_w3 (List.mem_of_getElem? (i := 8) (by decide +kernel))
theorem s_T_lineBeginning : Cond.selects "PaintEditor$Text" m_T_lineBeginning.1 m_T_lineBeginning.1 ∈ pe_WS := pe_w3 (List.mem_of_getElem? (i := 9) (by decide +kernel))
theorem i_T_lineEnd : Cond.instanceMethod m_T_lineEnd.1 ∈ pe_WS := pe_w3 (List.mem_of_getElem? (i := 12) (by decide +kernel))
theorem s_T_lineEnd : Cond.selects "PaintEditor$Text" m_T_lineEnd.1 m_T_lineEnd.1 ∈ pe_WS := pe_w3 (List.mem_of_getElem? (i := 13) (by decide +kernel))
theorem i_T_lineNumber : Cond.instanceMethod m_T_lineNumber.1 ∈ pe_WS := pe_w3 (List.mem_of_getElem? (i := 211) (by decide +kernel))
theorem s_T_lineNumber : Cond.selects "PaintEditor$Text" m_T_lineNumber.1 m_T_lineNumber.1 ∈ pe_WS := pe_w3 (List.mem_of_getElem? (i := 212) (by decide +kernel))
theorem i_T_clusterAt : Cond.instanceMethod m_T_clusterAt.1 ∈ pe_WS := pe_w3 (List.mem_of_getElem? (i := 143) (by decide +kernel))
theorem s_T_clusterAt : Cond.selects "PaintEditor$Text" m_T_clusterAt.1 m_T_clusterAt.1 ∈ pe_WS := pe_w3 (List.mem_of_getElem? (i := 144) (by decide +kernel))
theorem z_A_fill : Cond.static m_A_fill.1 ∈ pe_WS := pe_w1 (List.mem_of_getElem? (i := 237) (by decide +kernel))
theorem z_max : Cond.static Lib.Math.max.name ∈ pe_WS := pe_w1 (List.mem_of_getElem? (i := 36) (by decide +kernel))
theorem z_min : Cond.static Lib.Math.min.name ∈ pe_WS := pe_w1 (List.mem_of_getElem? (i := 33) (by decide +kernel))
theorem n_math : Cond.initialized "java/lang/Math" ∈ pe_WS := pe_w1 (List.mem_of_getElem? (i := 2) (by decide +kernel))
theorem k_max : Cond.code Lib.Math.max.name Lib.Math.max.code 2 (some .int) ∈ pe_WS := pe_w1 (List.mem_of_getElem? (i := 37) (by decide +kernel))
theorem k_min : Cond.code Lib.Math.min.name Lib.Math.min.code 2 (some .int) ∈ pe_WS := pe_w1 (List.mem_of_getElem? (i := 34) (by decide +kernel))
theorem z_copy : Cond.static arraycopyName ∈ pe_WS := pe_w2 (List.mem_of_getElem? (i := 214) (by decide +kernel))
theorem n_copy : Cond.native arraycopyName ∈ pe_WS := pe_w2 (List.mem_of_getElem? (i := 215) (by decide +kernel))
theorem n_system : Cond.initialized "java/lang/System" ∈ pe_WS := pe_w1 (List.mem_of_getElem? (i := 19) (by decide +kernel))
theorem c_P_9 : Cond.methodLink "PaintEditor" 9 Lib.Math.min.name ∈ pe_WS := pe_w1 (List.mem_of_getElem? (i := 32) (by decide +kernel))
theorem c_P_15 : Cond.methodLink "PaintEditor" 15 Lib.Math.max.name ∈ pe_WS := pe_w1 (List.mem_of_getElem? (i := 35) (by decide +kernel))
theorem q_SU_20 : Cond.constant "java/lang/StringUTF16" 20 (1073741823) ∈ pe_WS := pe_w1 (List.mem_of_getElem? (i := 215) (by decide +kernel))
theorem q_K_26 : Cond.constant "PaintEditor$Keyboard" 26 (65533) ∈ pe_WS := pe_w2 (List.mem_of_getElem? (i := 134) (by decide +kernel))
theorem q_E_53 : Cond.constant "PaintEditor$Editor" 53 (65536) ∈ pe_WS := pe_w2 (List.mem_of_getElem? (i := 139) (by decide +kernel))
theorem q_E_54 : Cond.constant "PaintEditor$Editor" 54 (65537) ∈ pe_WS := pe_w2 (List.mem_of_getElem? (i := 140) (by decide +kernel))
theorem q_C_15 : Cond.constant "PaintEditor$Codes" 15 (55203) ∈ pe_WS := pe_w2 (List.mem_of_getElem? (i := 171) (by decide +kernel))
theorem q_C_16 : Cond.constant "PaintEditor$Codes" 16 (65281) ∈ pe_WS := pe_w2 (List.mem_of_getElem? (i := 172) (by decide +kernel))
theorem q_C_17 : Cond.constant "PaintEditor$Codes" 17 (65376) ∈ pe_WS := pe_w2 (List.mem_of_getElem? (i := 173) (by decide +kernel))
theorem c_L_39 : Cond.methodLink "PaintEditor$Layout" 39 Lib.Math.min.name ∈ pe_WS := pe_w2 (List.mem_of_getElem? (i := 174) (by decide +kernel))
theorem q_E_85 : Cond.constant "PaintEditor$Editor" 85 (65544) ∈ pe_WS := pe_w2 (List.mem_of_getElem? (i := 185) (by decide +kernel))
theorem c_T_19 : Cond.methodLink "PaintEditor$Text" 19 arraycopyName ∈ pe_WS := pe_w2 (List.mem_of_getElem? (i := 213) (by decide +kernel))
theorem c_T_47 : Cond.methodLink "PaintEditor$Text" 47 Lib.Math.max.name ∈ pe_WS := pe_w2 (List.mem_of_getElem? (i := 225) (by decide +kernel))
theorem c_T_41 : Cond.methodLink "PaintEditor$Text" 41 Lib.Math.min.name ∈ pe_WS := pe_w3 (List.mem_of_getElem? (i := 6) (by decide +kernel))
theorem c_E_128 : Cond.methodLink "PaintEditor$Editor" 128 Lib.Math.min.name ∈ pe_WS := pe_w3 (List.mem_of_getElem? (i := 19) (by decide +kernel))
theorem c_E_134 : Cond.methodLink "PaintEditor$Editor" 134 Lib.Math.max.name ∈ pe_WS := pe_w3 (List.mem_of_getElem? (i := 20) (by decide +kernel))
theorem c_K_62 : Cond.methodLink "PaintEditor$Keyboard" 62 Lib.Math.min.name ∈ pe_WS := pe_w3 (List.mem_of_getElem? (i := 40) (by decide +kernel))
theorem q_K_68 : Cond.constant "PaintEditor$Keyboard" 68 (65536) ∈ pe_WS := pe_w3 (List.mem_of_getElem? (i := 41) (by decide +kernel))
theorem q_K_69 : Cond.constant "PaintEditor$Keyboard" 69 (65537) ∈ pe_WS := pe_w3 (List.mem_of_getElem? (i := 42) (by decide +kernel))
theorem q_K_70 : Cond.constant "PaintEditor$Keyboard" 70 (65538) ∈ pe_WS := pe_w3 (List.mem_of_getElem? (i := 43) (by decide +kernel))
theorem q_K_71 : Cond.constant "PaintEditor$Keyboard" 71 (65539) ∈ pe_WS := pe_w3 (List.mem_of_getElem? (i := 44) (by decide +kernel))
theorem q_K_72 : Cond.constant "PaintEditor$Keyboard" 72 (65540) ∈ pe_WS := pe_w3 (List.mem_of_getElem? (i := 45) (by decide +kernel))
theorem q_K_73 : Cond.constant "PaintEditor$Keyboard" 73 (65541) ∈ pe_WS := pe_w3 (List.mem_of_getElem? (i := 46) (by decide +kernel))
theorem q_K_77 : Cond.constant "PaintEditor$Keyboard" 77 (65542) ∈ pe_WS := pe_w3 (List.mem_of_getElem? (i := 51) (by decide +kernel))
theorem q_K_78 : Cond.constant "PaintEditor$Keyboard" 78 (65543) ∈ pe_WS := pe_w3 (List.mem_of_getElem? (i := 52) (by decide +kernel))
theorem q_K_79 : Cond.constant "PaintEditor$Keyboard" 79 (65544) ∈ pe_WS := pe_w3 (List.mem_of_getElem? (i := 53) (by decide +kernel))
theorem q_C_21 : Cond.constant "PaintEditor$Codes" 21 (65536) ∈ pe_WS := pe_w3 (List.mem_of_getElem? (i := 102) (by decide +kernel))
theorem q_C_22 : Cond.constant "PaintEditor$Codes" 22 (8388608) ∈ pe_WS := pe_w3 (List.mem_of_getElem? (i := 150) (by decide +kernel))
theorem q_AB_39 : Cond.constant "java/lang/AbstractStringBuilder" 39 (2147483647) ∈ pe_WS := pe_w3 (List.mem_of_getElem? (i := 179) (by decide +kernel))
theorem c_A_304 : Cond.methodLink "java/util/Arrays" 304 Lib.Math.min.name ∈ pe_WS := pe_w3 (List.mem_of_getElem? (i := 190) (by decide +kernel))
theorem c_A_150 : Cond.methodLink "java/util/Arrays" 150 arraycopyName ∈ pe_WS := pe_w3 (List.mem_of_getElem? (i := 191) (by decide +kernel))
theorem c_AB_138 : Cond.methodLink "java/lang/AbstractStringBuilder" 138 Lib.Math.min.name ∈ pe_WS := pe_w4 (List.mem_of_getElem? (i := 77) (by decide +kernel))
theorem c_Q_55 : Cond.methodLink "PaintEditor$Painter" 55 Lib.Math.max.name ∈ pe_WS := pe_w4 (List.mem_of_getElem? (i := 136) (by decide +kernel))
theorem c_Z_40 : Cond.methodLink "PaintEditor$Terminal" 40 Lib.Math.min.name ∈ pe_WS := pe_w4 (List.mem_of_getElem? (i := 172) (by decide +kernel))
theorem q_M_215 : Cond.constantLong "PaintEditorModel" 215 (255) ∈ pe_WS := pe_w5 (List.mem_of_getElem? (i := 125) (by decide +kernel))
theorem q_M_196 : Cond.constant "PaintEditorModel" 196 (65533) ∈ pe_WS := pe_w5 (List.mem_of_getElem? (i := 134) (by decide +kernel))
theorem q_M_84 : Cond.constant "PaintEditorModel" 84 (55203) ∈ pe_WS := pe_w5 (List.mem_of_getElem? (i := 225) (by decide +kernel))
theorem q_M_85 : Cond.constant "PaintEditorModel" 85 (65281) ∈ pe_WS := pe_w5 (List.mem_of_getElem? (i := 226) (by decide +kernel))
theorem q_M_86 : Cond.constant "PaintEditorModel" 86 (65376) ∈ pe_WS := pe_w5 (List.mem_of_getElem? (i := 227) (by decide +kernel))
theorem q_M_220 : Cond.constant "PaintEditorModel" 220 (65536) ∈ pe_WS := pe_w6 (List.mem_of_getElem? (i := 28) (by decide +kernel))
theorem q_M_221 : Cond.constant "PaintEditorModel" 221 (8388608) ∈ pe_WS := pe_w6 (List.mem_of_getElem? (i := 29) (by decide +kernel))
theorem q_M_256 : Cond.constant "PaintEditorModel" 256 (65535) ∈ pe_WS := pe_w6 (List.mem_of_getElem? (i := 70) (by decide +kernel))
end
section
/-! contracts by the kind of the answer -/
def pe_qi (Q : Int → pe_H → Prop) : Option pe_V → pe_H → Prop := fun r σ => ∃ z, r = some (.inl z) ∧ Q z σ
def pe_qv (Q : pe_H → Prop) : Option pe_V → pe_H → Prop := fun r σ => r = none ∧ Q σ
/-- nothing changes; the answer is such an int -/
abbrev pe_qp (σ : pe_H) (P : Int → Prop) : Option pe_V → pe_H → Prop := pe_qi (fun z σ' => σ' = σ ∧ P z)
theorem pe_loop {α : Type} (μ : α → Nat) (I G : α → Prop) (step : ∀ a, I a → (∀ b, I b → μ b < μ a → G b) → G a) : ∀ a, I a → G a := by
  have key : ∀ n a, μ a < n → I a → G a := by
    intro n
    induction n with
    | zero => intro a h; omega
    | succ n ih => intro a h hI; exact step a hI (fun b hb hlt => ih b (by omega) hb)
  exact fun a hI => key (μ a + 1) a (by omega) hI
section PE_FORMS
variable {y y' : pe_Y} {pc : Nat} {lv : pe_L} {st : List pe_V} {σ : pe_H} {Q : Option pe_V → pe_H → Prop}
theorem pe_ri {Q : Int → pe_H → Prop} {z : Int} (hd : decode y.2.1 pc = .ok (.ireturn, 1)) (hq : Q z σ) (hr : y.2.2.2.1 = some .int := by rfl) : pe_G y pc lv [.inl z] σ (pe_qi Q) := pe_reti hd hr ⟨z, rfl, hq⟩
theorem pe_rz {Q : Int → pe_H → Prop} {z : Int} (hd : decode y.2.1 pc = .ok (.ireturn, 1)) (hz : z = 0 ∨ z = 1) (hq : Q z σ) (hr : y.2.2.2.1 = some .boolean := by rfl) : pe_G y pc lv [.inl z] σ (pe_qi Q) := pe_retz hd hr hz ⟨z, rfl, hq⟩
theorem pe_rv {Q : pe_H → Prop} (hd : decode y.2.1 pc = .ok (.return_, 1)) (hq : Q σ) (hr : y.2.2.2.1 = none := by rfl) : pe_G y pc lv [] σ (pe_qv Q) := pe_retv hd hr ⟨rfl, hq⟩
theorem pe_in0 {av : List pe_V} {lv : pe_L} (k : pe_G y 0 lv [] σ Q) (hy : plainName y.1.cls = true := by decide) (hlv : lv = pe_args av ++ List.replicate (y.2.2.1 - (pe_args av).length) none := by rfl) (hlen : (pe_args av).length ≤ y.2.2.1 := by exact Nat.le_of_ble_eq_true rfl) : pe_M y av σ Q := pe_enter hy hlv hlen k
theorem pe_v0p {idx b ci N : Nat} {C : String} {T : u_T} {R : Int → Prop} (hd : decode y.2.1 pc = .ok (.invokevirtual idx, 3)) (hw : pe_CL y.1.cls idx y' 0) (hin : Cond.instanceMethod y'.1 ∈ pe_WS) (hsel : Cond.selects C y'.1 y'.1 ∈ pe_WS) (hs : pe_sh[b]? = some (.inr (ci, N))) (hc : vwCl[ci]? = some (C, T, N)) (hM : pe_M y' [.inr (.inl b)] σ (pe_qp σ R)) (k : ∀ z, R z → pe_G y (pc + 3) lv (.inl z :: st) σ Q) (hf : y'.2.2.2.2.1 + 1 ≤ y.2.2.2.2.1 := by decide) (hlo : 8 + (y'.2.2.1 + 11) + y'.2.2.2.2.2 ≤ y.2.2.2.2.2 := by decide) (hcat : (st.map pe_cat).sum ≤ 8 := by exact Nat.le_of_ble_eq_true rfl) : pe_G y pc lv (.inr (.inl b) :: st) σ Q :=
  pe_callV (av := []) hM hd hw hin hsel hs hc rfl hf hlo hcat (fun r σ' h => by obtain ⟨z, rfl, rfl, h⟩ := h; exact k z h)
theorem pe_v1p {idx b ci N : Nat} {C : String} {T : u_T} {a1 : pe_V} {R : Int → Prop} (hd : decode y.2.1 pc = .ok (.invokevirtual idx, 3)) (hw : pe_CL y.1.cls idx y' 1) (hin : Cond.instanceMethod y'.1 ∈ pe_WS) (hsel : Cond.selects C y'.1 y'.1 ∈ pe_WS) (hs : pe_sh[b]? = some (.inr (ci, N))) (hc : vwCl[ci]? = some (C, T, N)) (hM : pe_M y' [.inr (.inl b), a1] σ (pe_qp σ R)) (k : ∀ z, R z → pe_G y (pc + 3) lv (.inl z :: st) σ Q) (hf : y'.2.2.2.2.1 + 1 ≤ y.2.2.2.2.1 := by decide) (hlo : 8 + (y'.2.2.1 + 11) + y'.2.2.2.2.2 ≤ y.2.2.2.2.2 := by decide) (hcat : (st.map pe_cat).sum ≤ 8 := by exact Nat.le_of_ble_eq_true rfl) : pe_G y pc lv (a1 :: .inr (.inl b) :: st) σ Q :=
  pe_callV (av := [a1]) hM hd hw hin hsel hs hc rfl hf hlo hcat (fun r σ' h => by obtain ⟨z, rfl, rfl, h⟩ := h; exact k z h)
theorem pe_s1p {idx : Nat} {a1 : pe_V} {R : Int → Prop} (hd : decode y.2.1 pc = .ok (.invokestatic idx, 3)) (hw : pe_CL y.1.cls idx y' 1) (hst : Cond.static y'.1 ∈ pe_WS) (hM : pe_M y' [a1] σ (pe_qp σ R)) (k : ∀ z, R z → pe_G y (pc + 3) lv (.inl z :: st) σ Q) (hf : y'.2.2.2.2.1 + 1 ≤ y.2.2.2.2.1 := by decide) (hlo : 8 + (y'.2.2.1 + 11) + y'.2.2.2.2.2 ≤ y.2.2.2.2.2 := by decide) (hcat : (st.map pe_cat).sum ≤ 8 := by exact Nat.le_of_ble_eq_true rfl) : pe_G y pc lv (a1 :: st) σ Q :=
  pe_callS (av := [a1]) hM hd hw hst rfl hf hlo hcat (fun r σ' h => by obtain ⟨z, rfl, rfl, h⟩ := h; exact k z h)
theorem pe_v2p {idx b ci N : Nat} {C : String} {T : u_T} {a1 a2 : pe_V} {R : Int → Prop} (hd : decode y.2.1 pc = .ok (.invokevirtual idx, 3)) (hw : pe_CL y.1.cls idx y' 2) (hin : Cond.instanceMethod y'.1 ∈ pe_WS) (hsel : Cond.selects C y'.1 y'.1 ∈ pe_WS) (hs : pe_sh[b]? = some (.inr (ci, N))) (hc : vwCl[ci]? = some (C, T, N)) (hM : pe_M y' [.inr (.inl b), a1, a2] σ (pe_qp σ R)) (k : ∀ z, R z → pe_G y (pc + 3) lv (.inl z :: st) σ Q) (hf : y'.2.2.2.2.1 + 1 ≤ y.2.2.2.2.1 := by decide) (hlo : 8 + (y'.2.2.1 + 11) + y'.2.2.2.2.2 ≤ y.2.2.2.2.2 := by decide) (hcat : (st.map pe_cat).sum ≤ 8 := by exact Nat.le_of_ble_eq_true rfl) : pe_G y pc lv (a2 :: a1 :: .inr (.inl b) :: st) σ Q :=
  pe_callV (av := [a1, a2]) hM hd hw hin hsel hs hc rfl hf hlo hcat (fun r σ' h => by obtain ⟨z, rfl, rfl, h⟩ := h; exact k z h)
theorem pe_s2p {idx : Nat} {a1 a2 : pe_V} {R : Int → Prop} (hd : decode y.2.1 pc = .ok (.invokestatic idx, 3)) (hw : pe_CL y.1.cls idx y' 2) (hst : Cond.static y'.1 ∈ pe_WS) (hM : pe_M y' [a1, a2] σ (pe_qp σ R)) (k : ∀ z, R z → pe_G y (pc + 3) lv (.inl z :: st) σ Q) (hf : y'.2.2.2.2.1 + 1 ≤ y.2.2.2.2.1 := by decide) (hlo : 8 + (y'.2.2.1 + 11) + y'.2.2.2.2.2 ≤ y.2.2.2.2.2 := by decide) (hcat : (st.map pe_cat).sum ≤ 8 := by exact Nat.le_of_ble_eq_true rfl) : pe_G y pc lv (a2 :: a1 :: st) σ Q :=
  pe_callS (av := [a1, a2]) hM hd hw hst rfl hf hlo hcat (fun r σ' h => by obtain ⟨z, rfl, rfl, h⟩ := h; exact k z h)
theorem pe_v3p {idx b ci N : Nat} {C : String} {T : u_T} {a1 a2 a3 : pe_V} {R : Int → Prop} (hd : decode y.2.1 pc = .ok (.invokevirtual idx, 3)) (hw : pe_CL y.1.cls idx y' 3) (hin : Cond.instanceMethod y'.1 ∈ pe_WS) (hsel : Cond.selects C y'.1 y'.1 ∈ pe_WS) (hs : pe_sh[b]? = some (.inr (ci, N))) (hc : vwCl[ci]? = some (C, T, N)) (hM : pe_M y' [.inr (.inl b), a1, a2, a3] σ (pe_qp σ R)) (k : ∀ z, R z → pe_G y (pc + 3) lv (.inl z :: st) σ Q) (hf : y'.2.2.2.2.1 + 1 ≤ y.2.2.2.2.1 := by decide) (hlo : 8 + (y'.2.2.1 + 11) + y'.2.2.2.2.2 ≤ y.2.2.2.2.2 := by decide) (hcat : (st.map pe_cat).sum ≤ 8 := by exact Nat.le_of_ble_eq_true rfl) : pe_G y pc lv (a3 :: a2 :: a1 :: .inr (.inl b) :: st) σ Q :=
  pe_callV (av := [a1, a2, a3]) hM hd hw hin hsel hs hc rfl hf hlo hcat (fun r σ' h => by obtain ⟨z, rfl, rfl, h⟩ := h; exact k z h)
theorem pe_s3p {idx : Nat} {a1 a2 a3 : pe_V} {R : Int → Prop} (hd : decode y.2.1 pc = .ok (.invokestatic idx, 3)) (hw : pe_CL y.1.cls idx y' 3) (hst : Cond.static y'.1 ∈ pe_WS) (hM : pe_M y' [a1, a2, a3] σ (pe_qp σ R)) (k : ∀ z, R z → pe_G y (pc + 3) lv (.inl z :: st) σ Q) (hf : y'.2.2.2.2.1 + 1 ≤ y.2.2.2.2.1 := by decide) (hlo : 8 + (y'.2.2.1 + 11) + y'.2.2.2.2.2 ≤ y.2.2.2.2.2 := by decide) (hcat : (st.map pe_cat).sum ≤ 8 := by exact Nat.le_of_ble_eq_true rfl) : pe_G y pc lv (a3 :: a2 :: a1 :: st) σ Q :=
  pe_callS (av := [a1, a2, a3]) hM hd hw hst rfl hf hlo hcat (fun r σ' h => by obtain ⟨z, rfl, rfl, h⟩ := h; exact k z h)
theorem pe_v4p {idx b ci N : Nat} {C : String} {T : u_T} {a1 a2 a3 a4 : pe_V} {R : Int → Prop} (hd : decode y.2.1 pc = .ok (.invokevirtual idx, 3)) (hw : pe_CL y.1.cls idx y' 4) (hin : Cond.instanceMethod y'.1 ∈ pe_WS) (hsel : Cond.selects C y'.1 y'.1 ∈ pe_WS) (hs : pe_sh[b]? = some (.inr (ci, N))) (hc : vwCl[ci]? = some (C, T, N)) (hM : pe_M y' [.inr (.inl b), a1, a2, a3, a4] σ (pe_qp σ R)) (k : ∀ z, R z → pe_G y (pc + 3) lv (.inl z :: st) σ Q) (hf : y'.2.2.2.2.1 + 1 ≤ y.2.2.2.2.1 := by decide) (hlo : 8 + (y'.2.2.1 + 11) + y'.2.2.2.2.2 ≤ y.2.2.2.2.2 := by decide) (hcat : (st.map pe_cat).sum ≤ 8 := by exact Nat.le_of_ble_eq_true rfl) : pe_G y pc lv (a4 :: a3 :: a2 :: a1 :: .inr (.inl b) :: st) σ Q :=
  pe_callV (av := [a1, a2, a3, a4]) hM hd hw hin hsel hs hc rfl hf hlo hcat (fun r σ' h => by obtain ⟨z, rfl, rfl, h⟩ := h; exact k z h)
theorem pe_s4p {idx : Nat} {a1 a2 a3 a4 : pe_V} {R : Int → Prop} (hd : decode y.2.1 pc = .ok (.invokestatic idx, 3)) (hw : pe_CL y.1.cls idx y' 4) (hst : Cond.static y'.1 ∈ pe_WS) (hM : pe_M y' [a1, a2, a3, a4] σ (pe_qp σ R)) (k : ∀ z, R z → pe_G y (pc + 3) lv (.inl z :: st) σ Q) (hf : y'.2.2.2.2.1 + 1 ≤ y.2.2.2.2.1 := by decide) (hlo : 8 + (y'.2.2.1 + 11) + y'.2.2.2.2.2 ≤ y.2.2.2.2.2 := by decide) (hcat : (st.map pe_cat).sum ≤ 8 := by exact Nat.le_of_ble_eq_true rfl) : pe_G y pc lv (a4 :: a3 :: a2 :: a1 :: st) σ Q :=
  pe_callS (av := [a1, a2, a3, a4]) hM hd hw hst rfl hf hlo hcat (fun r σ' h => by obtain ⟨z, rfl, rfl, h⟩ := h; exact k z h)
theorem pe_v0i {idx b ci N : Nat} {C : String} {T : u_T} {R : Int → pe_H → Prop} (hd : decode y.2.1 pc = .ok (.invokevirtual idx, 3)) (hw : pe_CL y.1.cls idx y' 0) (hin : Cond.instanceMethod y'.1 ∈ pe_WS) (hsel : Cond.selects C y'.1 y'.1 ∈ pe_WS) (hs : pe_sh[b]? = some (.inr (ci, N))) (hc : vwCl[ci]? = some (C, T, N)) (hM : pe_M y' [.inr (.inl b)] σ (pe_qi R)) (k : ∀ z σ', R z σ' → pe_G y (pc + 3) lv (.inl z :: st) σ' Q) (hf : y'.2.2.2.2.1 + 1 ≤ y.2.2.2.2.1 := by decide) (hlo : 8 + (y'.2.2.1 + 11) + y'.2.2.2.2.2 ≤ y.2.2.2.2.2 := by decide) (hcat : (st.map pe_cat).sum ≤ 8 := by exact Nat.le_of_ble_eq_true rfl) : pe_G y pc lv (.inr (.inl b) :: st) σ Q :=
  pe_callV (av := []) hM hd hw hin hsel hs hc rfl hf hlo hcat (fun r σ' h => by obtain ⟨z, rfl, h⟩ := h; exact k z σ' h)
theorem pe_v1i {idx b ci N : Nat} {C : String} {T : u_T} {a1 : pe_V} {R : Int → pe_H → Prop} (hd : decode y.2.1 pc = .ok (.invokevirtual idx, 3)) (hw : pe_CL y.1.cls idx y' 1) (hin : Cond.instanceMethod y'.1 ∈ pe_WS) (hsel : Cond.selects C y'.1 y'.1 ∈ pe_WS) (hs : pe_sh[b]? = some (.inr (ci, N))) (hc : vwCl[ci]? = some (C, T, N)) (hM : pe_M y' [.inr (.inl b), a1] σ (pe_qi R)) (k : ∀ z σ', R z σ' → pe_G y (pc + 3) lv (.inl z :: st) σ' Q) (hf : y'.2.2.2.2.1 + 1 ≤ y.2.2.2.2.1 := by decide) (hlo : 8 + (y'.2.2.1 + 11) + y'.2.2.2.2.2 ≤ y.2.2.2.2.2 := by decide) (hcat : (st.map pe_cat).sum ≤ 8 := by exact Nat.le_of_ble_eq_true rfl) : pe_G y pc lv (a1 :: .inr (.inl b) :: st) σ Q :=
  pe_callV (av := [a1]) hM hd hw hin hsel hs hc rfl hf hlo hcat (fun r σ' h => by obtain ⟨z, rfl, h⟩ := h; exact k z σ' h)
theorem pe_s1i {idx : Nat} {a1 : pe_V} {R : Int → pe_H → Prop} (hd : decode y.2.1 pc = .ok (.invokestatic idx, 3)) (hw : pe_CL y.1.cls idx y' 1) (hst : Cond.static y'.1 ∈ pe_WS) (hM : pe_M y' [a1] σ (pe_qi R)) (k : ∀ z σ', R z σ' → pe_G y (pc + 3) lv (.inl z :: st) σ' Q) (hf : y'.2.2.2.2.1 + 1 ≤ y.2.2.2.2.1 := by decide) (hlo : 8 + (y'.2.2.1 + 11) + y'.2.2.2.2.2 ≤ y.2.2.2.2.2 := by decide) (hcat : (st.map pe_cat).sum ≤ 8 := by exact Nat.le_of_ble_eq_true rfl) : pe_G y pc lv (a1 :: st) σ Q :=
  pe_callS (av := [a1]) hM hd hw hst rfl hf hlo hcat (fun r σ' h => by obtain ⟨z, rfl, h⟩ := h; exact k z σ' h)
theorem pe_v2i {idx b ci N : Nat} {C : String} {T : u_T} {a1 a2 : pe_V} {R : Int → pe_H → Prop} (hd : decode y.2.1 pc = .ok (.invokevirtual idx, 3)) (hw : pe_CL y.1.cls idx y' 2) (hin : Cond.instanceMethod y'.1 ∈ pe_WS) (hsel : Cond.selects C y'.1 y'.1 ∈ pe_WS) (hs : pe_sh[b]? = some (.inr (ci, N))) (hc : vwCl[ci]? = some (C, T, N)) (hM : pe_M y' [.inr (.inl b), a1, a2] σ (pe_qi R)) (k : ∀ z σ', R z σ' → pe_G y (pc + 3) lv (.inl z :: st) σ' Q) (hf : y'.2.2.2.2.1 + 1 ≤ y.2.2.2.2.1 := by decide) (hlo : 8 + (y'.2.2.1 + 11) + y'.2.2.2.2.2 ≤ y.2.2.2.2.2 := by decide) (hcat : (st.map pe_cat).sum ≤ 8 := by exact Nat.le_of_ble_eq_true rfl) : pe_G y pc lv (a2 :: a1 :: .inr (.inl b) :: st) σ Q :=
  pe_callV (av := [a1, a2]) hM hd hw hin hsel hs hc rfl hf hlo hcat (fun r σ' h => by obtain ⟨z, rfl, h⟩ := h; exact k z σ' h)
theorem pe_s2i {idx : Nat} {a1 a2 : pe_V} {R : Int → pe_H → Prop} (hd : decode y.2.1 pc = .ok (.invokestatic idx, 3)) (hw : pe_CL y.1.cls idx y' 2) (hst : Cond.static y'.1 ∈ pe_WS) (hM : pe_M y' [a1, a2] σ (pe_qi R)) (k : ∀ z σ', R z σ' → pe_G y (pc + 3) lv (.inl z :: st) σ' Q) (hf : y'.2.2.2.2.1 + 1 ≤ y.2.2.2.2.1 := by decide) (hlo : 8 + (y'.2.2.1 + 11) + y'.2.2.2.2.2 ≤ y.2.2.2.2.2 := by decide) (hcat : (st.map pe_cat).sum ≤ 8 := by exact Nat.le_of_ble_eq_true rfl) : pe_G y pc lv (a2 :: a1 :: st) σ Q :=
  pe_callS (av := [a1, a2]) hM hd hw hst rfl hf hlo hcat (fun r σ' h => by obtain ⟨z, rfl, h⟩ := h; exact k z σ' h)
theorem pe_v3i {idx b ci N : Nat} {C : String} {T : u_T} {a1 a2 a3 : pe_V} {R : Int → pe_H → Prop} (hd : decode y.2.1 pc = .ok (.invokevirtual idx, 3)) (hw : pe_CL y.1.cls idx y' 3) (hin : Cond.instanceMethod y'.1 ∈ pe_WS) (hsel : Cond.selects C y'.1 y'.1 ∈ pe_WS) (hs : pe_sh[b]? = some (.inr (ci, N))) (hc : vwCl[ci]? = some (C, T, N)) (hM : pe_M y' [.inr (.inl b), a1, a2, a3] σ (pe_qi R)) (k : ∀ z σ', R z σ' → pe_G y (pc + 3) lv (.inl z :: st) σ' Q) (hf : y'.2.2.2.2.1 + 1 ≤ y.2.2.2.2.1 := by decide) (hlo : 8 + (y'.2.2.1 + 11) + y'.2.2.2.2.2 ≤ y.2.2.2.2.2 := by decide) (hcat : (st.map pe_cat).sum ≤ 8 := by exact Nat.le_of_ble_eq_true rfl) : pe_G y pc lv (a3 :: a2 :: a1 :: .inr (.inl b) :: st) σ Q :=
  pe_callV (av := [a1, a2, a3]) hM hd hw hin hsel hs hc rfl hf hlo hcat (fun r σ' h => by obtain ⟨z, rfl, h⟩ := h; exact k z σ' h)
theorem pe_s3i {idx : Nat} {a1 a2 a3 : pe_V} {R : Int → pe_H → Prop} (hd : decode y.2.1 pc = .ok (.invokestatic idx, 3)) (hw : pe_CL y.1.cls idx y' 3) (hst : Cond.static y'.1 ∈ pe_WS) (hM : pe_M y' [a1, a2, a3] σ (pe_qi R)) (k : ∀ z σ', R z σ' → pe_G y (pc + 3) lv (.inl z :: st) σ' Q) (hf : y'.2.2.2.2.1 + 1 ≤ y.2.2.2.2.1 := by decide) (hlo : 8 + (y'.2.2.1 + 11) + y'.2.2.2.2.2 ≤ y.2.2.2.2.2 := by decide) (hcat : (st.map pe_cat).sum ≤ 8 := by exact Nat.le_of_ble_eq_true rfl) : pe_G y pc lv (a3 :: a2 :: a1 :: st) σ Q :=
  pe_callS (av := [a1, a2, a3]) hM hd hw hst rfl hf hlo hcat (fun r σ' h => by obtain ⟨z, rfl, h⟩ := h; exact k z σ' h)
theorem pe_v4i {idx b ci N : Nat} {C : String} {T : u_T} {a1 a2 a3 a4 : pe_V} {R : Int → pe_H → Prop} (hd : decode y.2.1 pc = .ok (.invokevirtual idx, 3)) (hw : pe_CL y.1.cls idx y' 4) (hin : Cond.instanceMethod y'.1 ∈ pe_WS) (hsel : Cond.selects C y'.1 y'.1 ∈ pe_WS) (hs : pe_sh[b]? = some (.inr (ci, N))) (hc : vwCl[ci]? = some (C, T, N)) (hM : pe_M y' [.inr (.inl b), a1, a2, a3, a4] σ (pe_qi R)) (k : ∀ z σ', R z σ' → pe_G y (pc + 3) lv (.inl z :: st) σ' Q) (hf : y'.2.2.2.2.1 + 1 ≤ y.2.2.2.2.1 := by decide) (hlo : 8 + (y'.2.2.1 + 11) + y'.2.2.2.2.2 ≤ y.2.2.2.2.2 := by decide) (hcat : (st.map pe_cat).sum ≤ 8 := by exact Nat.le_of_ble_eq_true rfl) : pe_G y pc lv (a4 :: a3 :: a2 :: a1 :: .inr (.inl b) :: st) σ Q :=
  pe_callV (av := [a1, a2, a3, a4]) hM hd hw hin hsel hs hc rfl hf hlo hcat (fun r σ' h => by obtain ⟨z, rfl, h⟩ := h; exact k z σ' h)
theorem pe_s4i {idx : Nat} {a1 a2 a3 a4 : pe_V} {R : Int → pe_H → Prop} (hd : decode y.2.1 pc = .ok (.invokestatic idx, 3)) (hw : pe_CL y.1.cls idx y' 4) (hst : Cond.static y'.1 ∈ pe_WS) (hM : pe_M y' [a1, a2, a3, a4] σ (pe_qi R)) (k : ∀ z σ', R z σ' → pe_G y (pc + 3) lv (.inl z :: st) σ' Q) (hf : y'.2.2.2.2.1 + 1 ≤ y.2.2.2.2.1 := by decide) (hlo : 8 + (y'.2.2.1 + 11) + y'.2.2.2.2.2 ≤ y.2.2.2.2.2 := by decide) (hcat : (st.map pe_cat).sum ≤ 8 := by exact Nat.le_of_ble_eq_true rfl) : pe_G y pc lv (a4 :: a3 :: a2 :: a1 :: st) σ Q :=
  pe_callS (av := [a1, a2, a3, a4]) hM hd hw hst rfl hf hlo hcat (fun r σ' h => by obtain ⟨z, rfl, h⟩ := h; exact k z σ' h)
theorem pe_v0v {idx b ci N : Nat} {C : String} {T : u_T} {R : pe_H → Prop} (hd : decode y.2.1 pc = .ok (.invokevirtual idx, 3)) (hw : pe_CL y.1.cls idx y' 0) (hin : Cond.instanceMethod y'.1 ∈ pe_WS) (hsel : Cond.selects C y'.1 y'.1 ∈ pe_WS) (hs : pe_sh[b]? = some (.inr (ci, N))) (hc : vwCl[ci]? = some (C, T, N)) (hM : pe_M y' [.inr (.inl b)] σ (pe_qv R)) (k : ∀ σ', R σ' → pe_G y (pc + 3) lv st σ' Q) (hf : y'.2.2.2.2.1 + 1 ≤ y.2.2.2.2.1 := by decide) (hlo : 8 + (y'.2.2.1 + 11) + y'.2.2.2.2.2 ≤ y.2.2.2.2.2 := by decide) (hcat : (st.map pe_cat).sum ≤ 8 := by exact Nat.le_of_ble_eq_true rfl) : pe_G y pc lv (.inr (.inl b) :: st) σ Q :=
  pe_callV (av := []) hM hd hw hin hsel hs hc rfl hf hlo hcat (fun r σ' h => by obtain ⟨rfl, h⟩ := h; exact k σ' h)
theorem pe_v1v {idx b ci N : Nat} {C : String} {T : u_T} {a1 : pe_V} {R : pe_H → Prop} (hd : decode y.2.1 pc = .ok (.invokevirtual idx, 3)) (hw : pe_CL y.1.cls idx y' 1) (hin : Cond.instanceMethod y'.1 ∈ pe_WS) (hsel : Cond.selects C y'.1 y'.1 ∈ pe_WS) (hs : pe_sh[b]? = some (.inr (ci, N))) (hc : vwCl[ci]? = some (C, T, N)) (hM : pe_M y' [.inr (.inl b), a1] σ (pe_qv R)) (k : ∀ σ', R σ' → pe_G y (pc + 3) lv st σ' Q) (hf : y'.2.2.2.2.1 + 1 ≤ y.2.2.2.2.1 := by decide) (hlo : 8 + (y'.2.2.1 + 11) + y'.2.2.2.2.2 ≤ y.2.2.2.2.2 := by decide) (hcat : (st.map pe_cat).sum ≤ 8 := by exact Nat.le_of_ble_eq_true rfl) : pe_G y pc lv (a1 :: .inr (.inl b) :: st) σ Q :=
  pe_callV (av := [a1]) hM hd hw hin hsel hs hc rfl hf hlo hcat (fun r σ' h => by obtain ⟨rfl, h⟩ := h; exact k σ' h)
theorem pe_s1v {idx : Nat} {a1 : pe_V} {R : pe_H → Prop} (hd : decode y.2.1 pc = .ok (.invokestatic idx, 3)) (hw : pe_CL y.1.cls idx y' 1) (hst : Cond.static y'.1 ∈ pe_WS) (hM : pe_M y' [a1] σ (pe_qv R)) (k : ∀ σ', R σ' → pe_G y (pc + 3) lv st σ' Q) (hf : y'.2.2.2.2.1 + 1 ≤ y.2.2.2.2.1 := by decide) (hlo : 8 + (y'.2.2.1 + 11) + y'.2.2.2.2.2 ≤ y.2.2.2.2.2 := by decide) (hcat : (st.map pe_cat).sum ≤ 8 := by exact Nat.le_of_ble_eq_true rfl) : pe_G y pc lv (a1 :: st) σ Q :=
  pe_callS (av := [a1]) hM hd hw hst rfl hf hlo hcat (fun r σ' h => by obtain ⟨rfl, h⟩ := h; exact k σ' h)
theorem pe_v2v {idx b ci N : Nat} {C : String} {T : u_T} {a1 a2 : pe_V} {R : pe_H → Prop} (hd : decode y.2.1 pc = .ok (.invokevirtual idx, 3)) (hw : pe_CL y.1.cls idx y' 2) (hin : Cond.instanceMethod y'.1 ∈ pe_WS) (hsel : Cond.selects C y'.1 y'.1 ∈ pe_WS) (hs : pe_sh[b]? = some (.inr (ci, N))) (hc : vwCl[ci]? = some (C, T, N)) (hM : pe_M y' [.inr (.inl b), a1, a2] σ (pe_qv R)) (k : ∀ σ', R σ' → pe_G y (pc + 3) lv st σ' Q) (hf : y'.2.2.2.2.1 + 1 ≤ y.2.2.2.2.1 := by decide) (hlo : 8 + (y'.2.2.1 + 11) + y'.2.2.2.2.2 ≤ y.2.2.2.2.2 := by decide) (hcat : (st.map pe_cat).sum ≤ 8 := by exact Nat.le_of_ble_eq_true rfl) : pe_G y pc lv (a2 :: a1 :: .inr (.inl b) :: st) σ Q :=
  pe_callV (av := [a1, a2]) hM hd hw hin hsel hs hc rfl hf hlo hcat (fun r σ' h => by obtain ⟨rfl, h⟩ := h; exact k σ' h)
theorem pe_s2v {idx : Nat} {a1 a2 : pe_V} {R : pe_H → Prop} (hd : decode y.2.1 pc = .ok (.invokestatic idx, 3)) (hw : pe_CL y.1.cls idx y' 2) (hst : Cond.static y'.1 ∈ pe_WS) (hM : pe_M y' [a1, a2] σ (pe_qv R)) (k : ∀ σ', R σ' → pe_G y (pc + 3) lv st σ' Q) (hf : y'.2.2.2.2.1 + 1 ≤ y.2.2.2.2.1 := by decide) (hlo : 8 + (y'.2.2.1 + 11) + y'.2.2.2.2.2 ≤ y.2.2.2.2.2 := by decide) (hcat : (st.map pe_cat).sum ≤ 8 := by exact Nat.le_of_ble_eq_true rfl) : pe_G y pc lv (a2 :: a1 :: st) σ Q :=
  pe_callS (av := [a1, a2]) hM hd hw hst rfl hf hlo hcat (fun r σ' h => by obtain ⟨rfl, h⟩ := h; exact k σ' h)
theorem pe_v3v {idx b ci N : Nat} {C : String} {T : u_T} {a1 a2 a3 : pe_V} {R : pe_H → Prop} (hd : decode y.2.1 pc = .ok (.invokevirtual idx, 3)) (hw : pe_CL y.1.cls idx y' 3) (hin : Cond.instanceMethod y'.1 ∈ pe_WS) (hsel : Cond.selects C y'.1 y'.1 ∈ pe_WS) (hs : pe_sh[b]? = some (.inr (ci, N))) (hc : vwCl[ci]? = some (C, T, N)) (hM : pe_M y' [.inr (.inl b), a1, a2, a3] σ (pe_qv R)) (k : ∀ σ', R σ' → pe_G y (pc + 3) lv st σ' Q) (hf : y'.2.2.2.2.1 + 1 ≤ y.2.2.2.2.1 := by decide) (hlo : 8 + (y'.2.2.1 + 11) + y'.2.2.2.2.2 ≤ y.2.2.2.2.2 := by decide) (hcat : (st.map pe_cat).sum ≤ 8 := by exact Nat.le_of_ble_eq_true rfl) : pe_G y pc lv (a3 :: a2 :: a1 :: .inr (.inl b) :: st) σ Q :=
  pe_callV (av := [a1, a2, a3]) hM hd hw hin hsel hs hc rfl hf hlo hcat (fun r σ' h => by obtain ⟨rfl, h⟩ := h; exact k σ' h)
theorem pe_s3v {idx : Nat} {a1 a2 a3 : pe_V} {R : pe_H → Prop} (hd : decode y.2.1 pc = .ok (.invokestatic idx, 3)) (hw : pe_CL y.1.cls idx y' 3) (hst : Cond.static y'.1 ∈ pe_WS) (hM : pe_M y' [a1, a2, a3] σ (pe_qv R)) (k : ∀ σ', R σ' → pe_G y (pc + 3) lv st σ' Q) (hf : y'.2.2.2.2.1 + 1 ≤ y.2.2.2.2.1 := by decide) (hlo : 8 + (y'.2.2.1 + 11) + y'.2.2.2.2.2 ≤ y.2.2.2.2.2 := by decide) (hcat : (st.map pe_cat).sum ≤ 8 := by exact Nat.le_of_ble_eq_true rfl) : pe_G y pc lv (a3 :: a2 :: a1 :: st) σ Q :=
  pe_callS (av := [a1, a2, a3]) hM hd hw hst rfl hf hlo hcat (fun r σ' h => by obtain ⟨rfl, h⟩ := h; exact k σ' h)
theorem pe_v4v {idx b ci N : Nat} {C : String} {T : u_T} {a1 a2 a3 a4 : pe_V} {R : pe_H → Prop} (hd : decode y.2.1 pc = .ok (.invokevirtual idx, 3)) (hw : pe_CL y.1.cls idx y' 4) (hin : Cond.instanceMethod y'.1 ∈ pe_WS) (hsel : Cond.selects C y'.1 y'.1 ∈ pe_WS) (hs : pe_sh[b]? = some (.inr (ci, N))) (hc : vwCl[ci]? = some (C, T, N)) (hM : pe_M y' [.inr (.inl b), a1, a2, a3, a4] σ (pe_qv R)) (k : ∀ σ', R σ' → pe_G y (pc + 3) lv st σ' Q) (hf : y'.2.2.2.2.1 + 1 ≤ y.2.2.2.2.1 := by decide) (hlo : 8 + (y'.2.2.1 + 11) + y'.2.2.2.2.2 ≤ y.2.2.2.2.2 := by decide) (hcat : (st.map pe_cat).sum ≤ 8 := by exact Nat.le_of_ble_eq_true rfl) : pe_G y pc lv (a4 :: a3 :: a2 :: a1 :: .inr (.inl b) :: st) σ Q :=
  pe_callV (av := [a1, a2, a3, a4]) hM hd hw hin hsel hs hc rfl hf hlo hcat (fun r σ' h => by obtain ⟨rfl, h⟩ := h; exact k σ' h)
theorem pe_s4v {idx : Nat} {a1 a2 a3 a4 : pe_V} {R : pe_H → Prop} (hd : decode y.2.1 pc = .ok (.invokestatic idx, 3)) (hw : pe_CL y.1.cls idx y' 4) (hst : Cond.static y'.1 ∈ pe_WS) (hM : pe_M y' [a1, a2, a3, a4] σ (pe_qv R)) (k : ∀ σ', R σ' → pe_G y (pc + 3) lv st σ' Q) (hf : y'.2.2.2.2.1 + 1 ≤ y.2.2.2.2.1 := by decide) (hlo : 8 + (y'.2.2.1 + 11) + y'.2.2.2.2.2 ≤ y.2.2.2.2.2 := by decide) (hcat : (st.map pe_cat).sum ≤ 8 := by exact Nat.le_of_ble_eq_true rfl) : pe_G y pc lv (a4 :: a3 :: a2 :: a1 :: st) σ Q :=
  pe_callS (av := [a1, a2, a3, a4]) hM hd hw hst rfl hf hlo hcat (fun r σ' h => by obtain ⟨rfl, h⟩ := h; exact k σ' h)
end PE_FORMS
end
section
/-! rows that name the new cells -/
abbrev pe_B (σ : pe_H) : Prop := ∀ b j, pe_R (σ b j)
theorem pe_B_up {σ : pe_H} {a : Nat} {i v : Int} (h : pe_B σ) (hv : pe_R v) : pe_B (pe_up σ a i v) := by
  intro b j
  unfold pe_up
  by_cases q : b = a ∧ j = i
  · rw [if_pos q]; exact hv
  · rw [if_neg q]; exact h b j
theorem pe_B_cp {σ : pe_H} {a0 a : Nat} {sp dp n : Int} (h : pe_B σ) : pe_B (pe_cp σ a0 sp a dp n) := by
  intro b j
  unfold pe_cp
  by_cases q : b = a ∧ dp ≤ j ∧ j < dp + n
  · rw [if_pos q]; exact h _ _
  · rw [if_neg q]; exact h b j
theorem pe_cp_ne {σ : pe_H} {a0 a b : Nat} {sp dp n : Int} (h : b ≠ a) : pe_cp σ a0 sp a dp n b = σ b := by
  funext j
  unfold pe_cp
  rw [if_neg (fun q => h q.1)]
section PE_TRACK
variable {y : pe_Y} {pc : Nat} {lv : pe_L} {st : List pe_V} {σ : pe_H} {Q : Option pe_V → pe_H → Prop}
theorem pe_upT {a : Nat} {i v : Int} (hB : pe_B σ) (hv : pe_R v) (kk : ∀ τ : pe_H, pe_B τ → τ a i = v → (∀ j, j ≠ i → τ a j = σ a j) → (∀ b, b ≠ a → τ b = σ b) → pe_G y pc lv st τ Q) : pe_G y pc lv st (pe_up σ a i v) Q :=
  kk _ (pe_B_up hB hv) (by rw [pe_up_at, if_pos rfl]) (fun j hj => by rw [pe_up_at, if_neg hj]) (fun b hb => pe_up_ne hb)
theorem pe_putiT {a idx ci k N : Nat} {v : Int} (F : pe_FL y.1.cls idx ci k N) (hf : pe_FP ci k .int) (hd : decode y.2.1 pc = .ok (.putfield idx, 3)) (hs : pe_sh[a]? = some (.inr (ci, N))) (hr : pe_rt a k = none) (kz : Int) (hkz : (k : Int) = kz) (hB : pe_B σ) (hv : pe_R v) (kk : ∀ τ : pe_H, pe_B τ → τ a kz = v → (∀ j, j ≠ kz → τ a j = σ a j) → (∀ b, b ≠ a → τ b = σ b) → pe_G y (pc + 3) lv st τ Q) : pe_G y pc lv (.inl v :: .inr (.inl a) :: st) σ Q :=
  pe_puti F hf hd hs hr kz hkz (pe_upT hB hv kk)
theorem pe_putzT {a idx ci k N : Nat} {v : Int} (F : pe_FL y.1.cls idx ci k N) (hf : pe_FP ci k .boolean) (hd : decode y.2.1 pc = .ok (.putfield idx, 3)) (hs : pe_sh[a]? = some (.inr (ci, N))) (hr : pe_rt a k = none) (hz : v = 0 ∨ v = 1) (kz : Int) (hkz : (k : Int) = kz) (hB : pe_B σ) (kk : ∀ τ : pe_H, pe_B τ → τ a kz = v → (∀ j, j ≠ kz → τ a j = σ a j) → (∀ b, b ≠ a → τ b = σ b) → pe_G y (pc + 3) lv st τ Q) : pe_G y pc lv (.inl v :: .inr (.inl a) :: st) σ Q :=
  pe_putz F hf hd hs hr hz kz hkz (pe_upT hB ⟨by omega, by omega⟩ kk)
theorem pe_iastT {a n : Nat} {i v : Int} (hd : decode y.2.1 pc = .ok (.iastore, 1)) (hs : pe_sh[a]? = some (.inl (.int, n))) (h0 : 0 ≤ i) (h1 : i < n) (hB : pe_B σ) (hv : pe_R v) (kk : ∀ τ : pe_H, pe_B τ → τ a i = v → (∀ j, j ≠ i → τ a j = σ a j) → (∀ b, b ≠ a → τ b = σ b) → pe_G y (pc + 1) lv st τ Q) (hn : n < 2147483648 := by decide) : pe_G y pc lv (.inl v :: .inl i :: .inr (.inl a) :: st) σ Q :=
  pe_iast hd hs h0 h1 (pe_upT hB hv kk) hn
theorem pe_zastT {a n : Nat} {i v : Int} (hd : decode y.2.1 pc = .ok (.bastore, 1)) (hs : pe_sh[a]? = some (.inl (.boolean, n))) (h0 : 0 ≤ i) (h1 : i < n) (hz : v = 0 ∨ v = 1) (hB : pe_B σ) (kk : ∀ τ : pe_H, pe_B τ → τ a i = v → (∀ j, j ≠ i → τ a j = σ a j) → (∀ b, b ≠ a → τ b = σ b) → pe_G y (pc + 1) lv st τ Q) (hn : n < 2147483648 := by decide) : pe_G y pc lv (.inl v :: .inl i :: .inr (.inl a) :: st) σ Q :=
  pe_zast hd hs h0 h1 (by rcases hz with rfl | rfl <;> decide) (pe_upT hB ⟨by omega, by omega⟩ kk) hn
theorem pe_acopyT {a0 a n0 n1 idx : Nat} {sp dp n : Int} (hw : Cond.methodLink y.1.cls idx arraycopyName ∈ pe_WS) (hd : decode y.2.1 pc = .ok (.invokestatic idx, 3)) (hs0 : pe_sh[a0]? = some (.inl (.int, n0))) (hs1 : pe_sh[a]? = some (.inl (.int, n1))) (h1 : 0 ≤ sp) (h2 : 0 ≤ dp) (h3 : 0 ≤ n) (h4 : sp + n ≤ n0) (h5 : dp + n ≤ n1) (hB : pe_B σ) (kk : ∀ τ : pe_H, pe_B τ → (∀ j, τ a j = if dp ≤ j ∧ j < dp + n then σ a0 (sp + (j - dp)) else σ a j) → (∀ b, b ≠ a → τ b = σ b) → pe_G y (pc + 3) lv st τ Q) (hf : 1 ≤ y.2.2.2.2.1 := by decide) (hlo : (st.map pe_cat).sum + (nativeFrameWords "java/lang/System" "arraycopy" 5 + 11) ≤ y.2.2.2.2.2 := by exact Nat.le_of_ble_eq_true rfl) (hn0 : n0 < 2147483648 := by decide) (hn1 : n1 < 2147483648 := by decide) : pe_G y pc lv (.inl n :: .inl dp :: .inr (.inl a) :: .inl sp :: .inr (.inl a0) :: st) σ Q :=
  pe_acopy hw n_copy z_copy n_system hd hs0 hs1 h1 h2 h3 h4 h5 hf hlo (kk _ (pe_B_cp hB) (fun j => by
    unfold pe_cp
    by_cases q : dp ≤ j ∧ j < dp + n
    · rw [if_pos ⟨rfl, q⟩, if_pos q]
    · rw [if_neg (fun z => q z.2), if_neg q]) (fun b hb => pe_cp_ne hb)) hn0 hn1
end PE_TRACK
end
section
/-! by program (wip/p4/spec1.py): Codes, Keyboard, Text -/
theorem pe_tm (a : Int) {b : Int} (hb : 0 < b) : -b < a.tmod b ∧ a.tmod b < b := by
  constructor
  · have := Int.lt_tmod_of_pos a hb; omega
  · exact Int.tmod_lt_of_pos a hb
theorem pe_td (a : Int) {b : Int} (hb : 0 < b) : a.tdiv b * b ≤ a + b ∧ a - b ≤ a.tdiv b * b := by
  have h1 := Int.tmod_def a b
  have h2 := pe_tm a hb
  rw [Int.mul_comm] at h1
  omega
theorem t_C_isMark {σ : pe_H} {c : Int} (hc : pe_R c) : pe_M m_C_isMark [pe_i c] σ (pe_qp σ (fun z => (z = 0 ∨ z = 1) ∧ (z = 1 ↔ 768 ≤ c ∧ c ≤ 879))) := by
  refine pe_in0 (lv := [some (pe_i c)]) ?_
  refine pe_iload_n d_C_isMark_0 rfl ?_
  refine pe_sipush d_C_isMark_1 ?_
  refine pe_icmp_lt (t := 18) d_C_isMark_4 (by first | exact hB _ _ | exact ⟨by omega, by omega⟩) (by first | exact hB _ _ | exact ⟨by omega, by omega⟩) (fun h4 => ?_) (fun h4 => ?_)
  · skip
    refine pe_iconst d_C_isMark_18 ?_
    refine pe_rz d_C_isMark_19 (by first | exact Or.inl rfl | exact Or.inr rfl | omega) ?_
    exact ⟨rfl, by (try dsimp only); omega⟩
  · skip
    refine pe_iload_n d_C_isMark_7 rfl ?_
    refine pe_sipush d_C_isMark_8 ?_
    refine pe_icmp_gt (t := 18) d_C_isMark_11 (by first | exact hB _ _ | exact ⟨by omega, by omega⟩) (by first | exact hB _ _ | exact ⟨by omega, by omega⟩) (fun h11 => ?_) (fun h11 => ?_)
    · skip
      refine pe_iconst d_C_isMark_18 ?_
      refine pe_rz d_C_isMark_19 (by first | exact Or.inl rfl | exact Or.inr rfl | omega) ?_
      exact ⟨rfl, by (try dsimp only); omega⟩
    · skip
      refine pe_iconst d_C_isMark_14 ?_
      refine pe_goto (t := 19) d_C_isMark_15 ?_
      refine pe_rz d_C_isMark_19 (by first | exact Or.inl rfl | exact Or.inr rfl | omega) ?_
      exact ⟨rfl, by (try dsimp only); omega⟩
theorem t_C_takesMarks {σ : pe_H} {c : Int} (hc : pe_R c) : pe_M m_C_takesMarks [pe_i c] σ (pe_qp σ (fun z => (z = 0 ∨ z = 1) ∧ (z = 1 ↔ 32 ≤ c ∧ ¬ (768 ≤ c ∧ c ≤ 879)))) := by
  refine pe_in0 (lv := [some (pe_i c)]) ?_
  refine pe_iload_n d_C_takesMarks_0 rfl ?_
  refine pe_bipush d_C_takesMarks_1 ?_
  refine pe_icmp_lt (t := 17) d_C_takesMarks_3 (by first | exact hB _ _ | exact ⟨by omega, by omega⟩) (by first | exact hB _ _ | exact ⟨by omega, by omega⟩) (fun h3 => ?_) (fun h3 => ?_)
  · skip
    refine pe_iconst d_C_takesMarks_17 ?_
    refine pe_rz d_C_takesMarks_18 (by first | exact Or.inl rfl | exact Or.inr rfl | omega) ?_
    exact ⟨rfl, by (try dsimp only); omega⟩
  · skip
    refine pe_iload_n d_C_takesMarks_6 rfl ?_
    refine pe_s1p d_C_takesMarks_7 c_C_9 z_C_isMark (t_C_isMark (by first | exact hB _ _ | exact ⟨by omega, by omega⟩)) (fun z7 hz7 => ?_)
    refine pe_if_ne (t := 17) d_C_takesMarks_10 (by first | exact hB _ _ | exact ⟨by omega, by omega⟩) (fun h10 => ?_) (fun h10 => ?_)
    · skip
      refine pe_iconst d_C_takesMarks_17 ?_
      refine pe_rz d_C_takesMarks_18 (by first | exact Or.inl rfl | exact Or.inr rfl | omega) ?_
      exact ⟨rfl, by (try dsimp only); omega⟩
    · skip
      refine pe_iconst d_C_takesMarks_13 ?_
      refine pe_goto (t := 18) d_C_takesMarks_14 ?_
      refine pe_rz d_C_takesMarks_18 (by first | exact Or.inl rfl | exact Or.inr rfl | omega) ?_
      exact ⟨rfl, by (try dsimp only); omega⟩
theorem t_C_isWide {σ : pe_H} {c : Int} (hc : pe_R c) : pe_M m_C_isWide [pe_i c] σ (pe_qp σ (fun z => (z = 0 ∨ z = 1) ∧ (z = 1 ↔ (11904 ≤ c ∧ c ≤ 55203) ∨ (65281 ≤ c ∧ c ≤ 65376)))) := by
  refine pe_in0 (lv := [some (pe_i c)]) ?_
  refine pe_iload_n d_C_isWide_0 rfl ?_
  refine pe_sipush d_C_isWide_1 ?_
  refine pe_icmp_lt (t := 13) d_C_isWide_4 (by first | exact hB _ _ | exact ⟨by omega, by omega⟩) (by first | exact hB _ _ | exact ⟨by omega, by omega⟩) (fun h4 => ?_) (fun h4 => ?_)
  · skip
    refine pe_iload_n d_C_isWide_13 rfl ?_
    refine pe_ldc q_C_16 d_C_isWide_14 (z := 65281) rfl ?_
    refine pe_icmp_lt (t := 29) d_C_isWide_16 (by first | exact hB _ _ | exact ⟨by omega, by omega⟩) (by first | exact hB _ _ | exact ⟨by omega, by omega⟩) (fun h16 => ?_) (fun h16 => ?_)
    · skip
      refine pe_iconst d_C_isWide_29 ?_
      refine pe_rz d_C_isWide_30 (by first | exact Or.inl rfl | exact Or.inr rfl | omega) ?_
      exact ⟨rfl, by (try dsimp only); omega⟩
    · skip
      refine pe_iload_n d_C_isWide_19 rfl ?_
      refine pe_ldc q_C_17 d_C_isWide_20 (z := 65376) rfl ?_
      refine pe_icmp_gt (t := 29) d_C_isWide_22 (by first | exact hB _ _ | exact ⟨by omega, by omega⟩) (by first | exact hB _ _ | exact ⟨by omega, by omega⟩) (fun h22 => ?_) (fun h22 => ?_)
      · skip
        refine pe_iconst d_C_isWide_29 ?_
        refine pe_rz d_C_isWide_30 (by first | exact Or.inl rfl | exact Or.inr rfl | omega) ?_
        exact ⟨rfl, by (try dsimp only); omega⟩
      · skip
        refine pe_iconst d_C_isWide_25 ?_
        refine pe_goto (t := 30) d_C_isWide_26 ?_
        refine pe_rz d_C_isWide_30 (by first | exact Or.inl rfl | exact Or.inr rfl | omega) ?_
        exact ⟨rfl, by (try dsimp only); omega⟩
  · skip
    refine pe_iload_n d_C_isWide_7 rfl ?_
    refine pe_ldc q_C_15 d_C_isWide_8 (z := 55203) rfl ?_
    refine pe_icmp_le (t := 25) d_C_isWide_10 (by first | exact hB _ _ | exact ⟨by omega, by omega⟩) (by first | exact hB _ _ | exact ⟨by omega, by omega⟩) (fun h10 => ?_) (fun h10 => ?_)
    · skip
      refine pe_iconst d_C_isWide_25 ?_
      refine pe_goto (t := 30) d_C_isWide_26 ?_
      refine pe_rz d_C_isWide_30 (by first | exact Or.inl rfl | exact Or.inr rfl | omega) ?_
      exact ⟨rfl, by (try dsimp only); omega⟩
    · skip
      refine pe_iload_n d_C_isWide_13 rfl ?_
      refine pe_ldc q_C_16 d_C_isWide_14 (z := 65281) rfl ?_
      refine pe_icmp_lt (t := 29) d_C_isWide_16 (by first | exact hB _ _ | exact ⟨by omega, by omega⟩) (by first | exact hB _ _ | exact ⟨by omega, by omega⟩) (fun h16 => ?_) (fun h16 => ?_)
      · skip
        refine pe_iconst d_C_isWide_29 ?_
        refine pe_rz d_C_isWide_30 (by first | exact Or.inl rfl | exact Or.inr rfl | omega) ?_
        exact ⟨rfl, by (try dsimp only); omega⟩
      · skip
        refine pe_iload_n d_C_isWide_19 rfl ?_
        refine pe_ldc q_C_17 d_C_isWide_20 (z := 65376) rfl ?_
        refine pe_icmp_gt (t := 29) d_C_isWide_22 (by first | exact hB _ _ | exact ⟨by omega, by omega⟩) (by first | exact hB _ _ | exact ⟨by omega, by omega⟩) (fun h22 => ?_) (fun h22 => ?_)
        · skip
          refine pe_iconst d_C_isWide_29 ?_
          refine pe_rz d_C_isWide_30 (by first | exact Or.inl rfl | exact Or.inr rfl | omega) ?_
          exact ⟨rfl, by (try dsimp only); omega⟩
        · skip
          refine pe_iconst d_C_isWide_25 ?_
          refine pe_goto (t := 30) d_C_isWide_26 ?_
          refine pe_rz d_C_isWide_30 (by first | exact Or.inl rfl | exact Or.inr rfl | omega) ?_
          exact ⟨rfl, by (try dsimp only); omega⟩
theorem t_C_widthOf {σ : pe_H} {c : Int} (hc : pe_R c) : pe_M m_C_widthOf [pe_i c] σ (pe_qp σ (fun z => (z = 1 ∨ z = 2) ∧ (z = 2 ↔ (11904 ≤ c ∧ c ≤ 55203) ∨ (65281 ≤ c ∧ c ≤ 65376)))) := by
  refine pe_in0 (lv := [some (pe_i c)]) ?_
  refine pe_iload_n d_C_widthOf_0 rfl ?_
  refine pe_s1p d_C_widthOf_1 c_C_18 z_C_isWide (t_C_isWide (by first | exact hB _ _ | exact ⟨by omega, by omega⟩)) (fun z1 hz1 => ?_)
  refine pe_if_eq (t := 11) d_C_widthOf_4 (by first | exact hB _ _ | exact ⟨by omega, by omega⟩) (fun h4 => ?_) (fun h4 => ?_)
  · skip
    refine pe_iconst d_C_widthOf_11 ?_
    refine pe_ri d_C_widthOf_12 ?_
    exact ⟨rfl, by (try dsimp only); omega⟩
  · skip
    refine pe_iconst d_C_widthOf_7 ?_
    refine pe_goto (t := 12) d_C_widthOf_8 ?_
    refine pe_ri d_C_widthOf_12 ?_
    exact ⟨rfl, by (try dsimp only); omega⟩
theorem t_C_characterOf {σ : pe_H} {c : Int} (hc : pe_R c) : pe_M m_C_characterOf [pe_i c] σ (pe_qp σ (fun z => z = c.tmod 65536)) := by
  refine pe_in0 (lv := [some (pe_i c)]) ?_
  refine pe_iload_n d_C_characterOf_0 rfl ?_
  refine pe_ldc q_C_21 d_C_characterOf_1 (z := 65536) rfl ?_
  refine pe_irem d_C_characterOf_3 (by first | exact hB _ _ | exact ⟨by omega, by omega⟩) (by omega) (by first | exact hB _ _ | exact ⟨by omega, by omega⟩) ?_
  refine pe_ri d_C_characterOf_4 ?_
  exact ⟨rfl, rfl⟩
theorem t_C_firstMarkOf {σ : pe_H} {c : Int} (hc : pe_R c) : pe_M m_C_firstMarkOf [pe_i c] σ (pe_qp σ (fun z => -1000 ≤ z ∧ z ≤ 1000)) := by
  refine pe_in0 (lv := [some (pe_i c), none]) ?_
  have h1 := pe_tm c (b := 8388608) (by omega)
  have h2 := pe_td (c.tmod 8388608) (b := 65536) (by omega)
  refine pe_iload_n d_C_firstMarkOf_0 rfl ?_
  refine pe_ldc q_C_22 d_C_firstMarkOf_1 (z := 8388608) rfl ?_
  refine pe_irem d_C_firstMarkOf_3 (by first | exact hB _ _ | exact ⟨by omega, by omega⟩) (by omega) (by first | exact hB _ _ | exact ⟨by omega, by omega⟩) ?_
  refine pe_ldc q_C_21 d_C_firstMarkOf_4 (z := 65536) rfl ?_
  refine pe_idiv d_C_firstMarkOf_6 (by first | exact hB _ _ | exact ⟨by omega, by omega⟩) (by omega) (by first | exact hB _ _ | exact ⟨by omega, by omega⟩) ?_
  refine pe_istore_n d_C_firstMarkOf_7 ?_
  refine pe_iload_n d_C_firstMarkOf_8 rfl ?_
  refine pe_if_ne (t := 16) d_C_firstMarkOf_9 (by first | exact hB _ _ | exact ⟨by omega, by omega⟩) (fun h9 => ?_) (fun h9 => ?_)
  · skip
    refine pe_iload_n d_C_firstMarkOf_16 rfl ?_
    refine pe_sipush d_C_firstMarkOf_17 ?_
    refine pe_iadd d_C_firstMarkOf_20 ?_
    refine pe_ri d_C_firstMarkOf_21 ?_
    exact ⟨rfl, by (try dsimp only); omega⟩
  · skip
    refine pe_iconst d_C_firstMarkOf_12 ?_
    refine pe_goto (t := 21) d_C_firstMarkOf_13 ?_
    refine pe_ri d_C_firstMarkOf_21 ?_
    exact ⟨rfl, by (try dsimp only); omega⟩
theorem t_C_secondMarkOf {σ : pe_H} {c : Int} (hc : pe_R c) : pe_M m_C_secondMarkOf [pe_i c] σ (pe_qp σ (fun z => -1000 ≤ z ∧ z ≤ 2000)) := by
  refine pe_in0 (lv := [some (pe_i c), none]) ?_
  have h2 := pe_td c (b := 8388608) (by omega)
  refine pe_iload_n d_C_secondMarkOf_0 rfl ?_
  refine pe_ldc q_C_22 d_C_secondMarkOf_1 (z := 8388608) rfl ?_
  refine pe_idiv d_C_secondMarkOf_3 (by first | exact hB _ _ | exact ⟨by omega, by omega⟩) (by omega) (by first | exact hB _ _ | exact ⟨by omega, by omega⟩) ?_
  refine pe_istore_n d_C_secondMarkOf_4 ?_
  refine pe_iload_n d_C_secondMarkOf_5 rfl ?_
  refine pe_if_ne (t := 13) d_C_secondMarkOf_6 (by first | exact hB _ _ | exact ⟨by omega, by omega⟩) (fun h6 => ?_) (fun h6 => ?_)
  · skip
    refine pe_iload_n d_C_secondMarkOf_13 rfl ?_
    refine pe_sipush d_C_secondMarkOf_14 ?_
    refine pe_iadd d_C_secondMarkOf_17 ?_
    refine pe_ri d_C_secondMarkOf_18 ?_
    exact ⟨rfl, by (try dsimp only); omega⟩
  · skip
    refine pe_iconst d_C_secondMarkOf_9 ?_
    refine pe_goto (t := 18) d_C_secondMarkOf_10 ?_
    refine pe_ri d_C_secondMarkOf_18 ?_
    exact ⟨rfl, by (try dsimp only); omega⟩
theorem t_C_withMark {σ : pe_H} {c m : Int} (hc : pe_R c) (hm : pe_R m) : pe_M m_C_withMark [pe_i c, pe_i m] σ (pe_qp σ (fun z => pe_R z)) := by
  refine pe_in0 (lv := [some (pe_i c), some (pe_i m), none]) ?_
  refine pe_iload_n d_C_withMark_0 rfl ?_
  refine pe_ldc q_C_21 d_C_withMark_1 (z := 65536) rfl ?_
  refine pe_icmp_ge (t := 11) d_C_withMark_3 (by first | exact hB _ _ | exact ⟨by omega, by omega⟩) (by first | exact hB _ _ | exact ⟨by omega, by omega⟩) (fun h3 => ?_) (fun h3 => ?_)
  · skip
    refine pe_ldc q_C_22 d_C_withMark_11 (z := 8388608) rfl ?_
    refine pe_istore_n d_C_withMark_13 ?_
    refine pe_iload_n d_C_withMark_14 rfl ?_
    refine pe_iload_n d_C_withMark_15 rfl ?_
    refine pe_iload_n d_C_withMark_16 rfl ?_
    refine pe_sipush d_C_withMark_17 ?_
    refine pe_isub d_C_withMark_20 ?_
    refine pe_imul d_C_withMark_21 ?_
    refine pe_iadd d_C_withMark_22 ?_
    refine pe_any (fun z hz => ?_)
    refine pe_ri d_C_withMark_23 ?_
    exact ⟨rfl, hz⟩
  · skip
    refine pe_ldc q_C_21 d_C_withMark_6 (z := 65536) rfl ?_
    refine pe_goto (t := 13) d_C_withMark_8 ?_
    refine pe_istore_n d_C_withMark_13 ?_
    refine pe_iload_n d_C_withMark_14 rfl ?_
    refine pe_iload_n d_C_withMark_15 rfl ?_
    refine pe_iload_n d_C_withMark_16 rfl ?_
    refine pe_sipush d_C_withMark_17 ?_
    refine pe_isub d_C_withMark_20 ?_
    refine pe_imul d_C_withMark_21 ?_
    refine pe_iadd d_C_withMark_22 ?_
    refine pe_any (fun z hz => ?_)
    refine pe_ri d_C_withMark_23 ?_
    exact ⟨rfl, hz⟩
end
section
theorem t_T_codeAt {σ : pe_H} {p : Int} (hB : pe_B σ) (hp : pe_R p) (hl : 0 ≤ σ 3 1 ∧ σ 3 1 ≤ 200) : pe_M m_T_codeAt [pe_r 3, pe_i p] σ (pe_qp σ (fun z => z = if 0 ≤ p ∧ p < σ 3 1 then σ 4 p else -1)) := by
  refine pe_in0 (lv := [some (pe_r 3), some (pe_i p)]) ?_
  refine pe_iload_n d_T_codeAt_0 rfl ?_
  refine pe_if_lt (t := 21) d_T_codeAt_1 (by first | exact hB _ _ | exact ⟨by omega, by omega⟩) (fun h1 => ?_) (fun h1 => ?_)
  · skip
    refine pe_iconst d_T_codeAt_21 ?_
    refine pe_ri d_T_codeAt_22 ?_
    refine ⟨rfl, ?_⟩
    try dsimp only
    split <;> first | rfl | omega
  · skip
    refine pe_iload_n d_T_codeAt_4 rfl ?_
    refine pe_aload_n d_T_codeAt_5 rfl ?_
    refine pe_geti f_T_15 d_T_codeAt_6 rfl rfl 1 rfl ?_
    refine pe_icmp_ge (t := 21) d_T_codeAt_9 (by first | exact hB _ _ | exact ⟨by omega, by omega⟩) (by first | exact hB _ _ | exact ⟨by omega, by omega⟩) (fun h9 => ?_) (fun h9 => ?_)
    · skip
      refine pe_iconst d_T_codeAt_21 ?_
      refine pe_ri d_T_codeAt_22 ?_
      refine ⟨rfl, ?_⟩
      try dsimp only
      split <;> first | rfl | omega
    · skip
      refine pe_aload_n d_T_codeAt_12 rfl ?_
      refine pe_getr f_T_9 d_T_codeAt_13 rfl rfl ?_
      refine pe_iload_n d_T_codeAt_16 rfl ?_
      refine pe_iald d_T_codeAt_17 rfl (by omega) (by omega) ?_
      refine pe_goto (t := 22) d_T_codeAt_18 ?_
      refine pe_ri d_T_codeAt_22 ?_
      refine ⟨rfl, ?_⟩
      try dsimp only
      split <;> first | rfl | omega
theorem t_T_hasRoomFor {σ : pe_H} {n : Int} (hn : pe_R n) (hl : 0 ≤ σ 3 1 ∧ σ 3 1 ≤ 200) : pe_M m_T_hasRoomFor [pe_r 3, pe_i n] σ (pe_qp σ (fun z => (z = 0 ∨ z = 1) ∧ (z = 1 ↔ n ≤ 200 - σ 3 1))) := by
  refine pe_in0 (lv := [some (pe_r 3), some (pe_i n)]) ?_
  refine pe_iload_n d_T_hasRoomFor_0 rfl ?_
  refine pe_sipush d_T_hasRoomFor_1 ?_
  refine pe_aload_n d_T_hasRoomFor_4 rfl ?_
  refine pe_geti f_T_15 d_T_hasRoomFor_5 rfl rfl 1 rfl ?_
  refine pe_isub d_T_hasRoomFor_8 ?_
  refine pe_icmp_gt (t := 16) d_T_hasRoomFor_9 (by first | exact hB _ _ | exact ⟨by omega, by omega⟩) (by first | exact hB _ _ | exact ⟨by omega, by omega⟩) (fun h9 => ?_) (fun h9 => ?_)
  · skip
    refine pe_iconst d_T_hasRoomFor_16 ?_
    refine pe_rz d_T_hasRoomFor_17 (by first | exact Or.inl rfl | exact Or.inr rfl | omega) ?_
    exact ⟨rfl, by (try dsimp only); omega⟩
  · skip
    refine pe_iconst d_T_hasRoomFor_12 ?_
    refine pe_goto (t := 17) d_T_hasRoomFor_13 ?_
    refine pe_rz d_T_hasRoomFor_17 (by first | exact Or.inl rfl | exact Or.inr rfl | omega) ?_
    exact ⟨rfl, by (try dsimp only); omega⟩
theorem t_T_isBeginning {σ : pe_H} {p : Int} (hB : pe_B σ) (hp : -1000 ≤ p ∧ p ≤ 1000) (hl : 0 ≤ σ 3 1 ∧ σ 3 1 ≤ 200) : pe_M m_T_isBeginning [pe_r 3, pe_i p] σ (pe_qp σ (fun z => z = 0 ∨ z = 1)) := by
  refine pe_in0 (lv := [some (pe_r 3), some (pe_i p), none]) ?_
  refine pe_aload_n d_T_isBeginning_0 rfl ?_
  refine pe_iload_n d_T_isBeginning_1 rfl ?_
  refine pe_v1p d_T_isBeginning_2 c_T_25 i_T_codeAt s_T_codeAt rfl rfl (t_T_codeAt hB (by first | exact hB _ _ | exact ⟨by omega, by omega⟩) (by omega)) (fun z2 hz2 => ?_)
  have hR2 : pe_R z2 := by rw [hz2]; split <;> first | exact hB _ _ | exact ⟨by omega, by omega⟩
  refine pe_s1p d_T_isBeginning_5 c_T_29 z_C_isMark (t_C_isMark (by first | exact hB _ _ | exact ⟨by omega, by omega⟩)) (fun z5 hz5 => ?_)
  refine pe_if_ne (t := 13) d_T_isBeginning_8 (by first | exact hB _ _ | exact ⟨by omega, by omega⟩) (fun h8 => ?_) (fun h8 => ?_)
  · skip
    refine pe_aload_n d_T_isBeginning_13 rfl ?_
    refine pe_iload_n d_T_isBeginning_14 rfl ?_
    refine pe_iconst d_T_isBeginning_15 ?_
    refine pe_isub d_T_isBeginning_16 ?_
    refine pe_v1p d_T_isBeginning_17 c_T_25 i_T_codeAt s_T_codeAt rfl rfl (t_T_codeAt hB (by first | exact hB _ _ | exact ⟨by omega, by omega⟩) (by omega)) (fun z17 hz17 => ?_)
    have hR17 : pe_R z17 := by rw [hz17]; split <;> first | exact hB _ _ | exact ⟨by omega, by omega⟩
    refine pe_s1p d_T_isBeginning_20 c_T_29 z_C_isMark (t_C_isMark (by first | exact hB _ _ | exact ⟨by omega, by omega⟩)) (fun z20 hz20 => ?_)
    refine pe_if_eq (t := 32) d_T_isBeginning_23 (by first | exact hB _ _ | exact ⟨by omega, by omega⟩) (fun h23 => ?_) (fun h23 => ?_)
    · skip
      refine pe_iload_n d_T_isBeginning_32 rfl ?_
      refine pe_iconst d_T_isBeginning_33 ?_
      refine pe_isub d_T_isBeginning_34 ?_
      refine pe_istore_n d_T_isBeginning_35 ?_
      refine pe_aload_n d_T_isBeginning_36 rfl ?_
      refine pe_iload_n d_T_isBeginning_37 rfl ?_
      refine pe_v1p d_T_isBeginning_38 c_T_25 i_T_codeAt s_T_codeAt rfl rfl (t_T_codeAt hB (by first | exact hB _ _ | exact ⟨by omega, by omega⟩) (by omega)) (fun z38 hz38 => ?_)
      have hR38 : pe_R z38 := by rw [hz38]; split <;> first | exact hB _ _ | exact ⟨by omega, by omega⟩
      refine pe_s1p d_T_isBeginning_41 c_T_35 z_C_takesMarks (t_C_takesMarks (by first | exact hB _ _ | exact ⟨by omega, by omega⟩)) (fun z41 hz41 => ?_)
      refine pe_if_ne (t := 51) d_T_isBeginning_44 (by first | exact hB _ _ | exact ⟨by omega, by omega⟩) (fun h44 => ?_) (fun h44 => ?_)
      · skip
        refine pe_iconst d_T_isBeginning_51 ?_
        refine pe_rz d_T_isBeginning_52 (by first | exact Or.inl rfl | exact Or.inr rfl | omega) ?_
        exact ⟨rfl, by (try dsimp only); omega⟩
      · skip
        refine pe_iconst d_T_isBeginning_47 ?_
        refine pe_goto (t := 52) d_T_isBeginning_48 ?_
        refine pe_rz d_T_isBeginning_52 (by first | exact Or.inl rfl | exact Or.inr rfl | omega) ?_
        exact ⟨rfl, by (try dsimp only); omega⟩
    · skip
      refine pe_iload_n d_T_isBeginning_26 rfl ?_
      refine pe_iconst d_T_isBeginning_27 ?_
      refine pe_isub d_T_isBeginning_28 ?_
      refine pe_goto (t := 35) d_T_isBeginning_29 ?_
      refine pe_istore_n d_T_isBeginning_35 ?_
      refine pe_aload_n d_T_isBeginning_36 rfl ?_
      refine pe_iload_n d_T_isBeginning_37 rfl ?_
      refine pe_v1p d_T_isBeginning_38 c_T_25 i_T_codeAt s_T_codeAt rfl rfl (t_T_codeAt hB (by first | exact hB _ _ | exact ⟨by omega, by omega⟩) (by omega)) (fun z38 hz38 => ?_)
      have hR38 : pe_R z38 := by rw [hz38]; split <;> first | exact hB _ _ | exact ⟨by omega, by omega⟩
      refine pe_s1p d_T_isBeginning_41 c_T_35 z_C_takesMarks (t_C_takesMarks (by first | exact hB _ _ | exact ⟨by omega, by omega⟩)) (fun z41 hz41 => ?_)
      refine pe_if_ne (t := 51) d_T_isBeginning_44 (by first | exact hB _ _ | exact ⟨by omega, by omega⟩) (fun h44 => ?_) (fun h44 => ?_)
      · skip
        refine pe_iconst d_T_isBeginning_51 ?_
        refine pe_rz d_T_isBeginning_52 (by first | exact Or.inl rfl | exact Or.inr rfl | omega) ?_
        exact ⟨rfl, by (try dsimp only); omega⟩
      · skip
        refine pe_iconst d_T_isBeginning_47 ?_
        refine pe_goto (t := 52) d_T_isBeginning_48 ?_
        refine pe_rz d_T_isBeginning_52 (by first | exact Or.inl rfl | exact Or.inr rfl | omega) ?_
        exact ⟨rfl, by (try dsimp only); omega⟩
  · skip
    refine pe_iconst d_T_isBeginning_11 ?_
    refine pe_rz d_T_isBeginning_12 (by first | exact Or.inl rfl | exact Or.inr rfl | omega) ?_
    exact ⟨rfl, by (try dsimp only); omega⟩
theorem t_T_beginningFrom {σ : pe_H} {p : Int} (hB : pe_B σ) (hp : 0 ≤ p ∧ p ≤ 1000) (hl : 0 ≤ σ 3 1 ∧ σ 3 1 ≤ 200) : pe_M m_T_beginningFrom [pe_r 3, pe_i p] σ (pe_qp σ (fun z => 0 ≤ z ∧ z ≤ σ 3 1)) := by
  refine pe_in0 (lv := [some (pe_r 3), some (pe_i p), none]) ?_
  have J2 : ∀ f : Int, (0 ≤ f ∧ f ≤ 1000) → pe_G m_T_beginningFrom 2 [some (pe_r 3), some (pe_i p), some (pe_i f)] [] σ (pe_qp σ (fun z => 0 ≤ z ∧ z ≤ σ 3 1)) := by
    refine pe_loop (fun f : Int => (2000 - f).toNat) _ _ ?_
    intro f hI ih
    refine pe_iload_n d_T_beginningFrom_2 rfl ?_
    refine pe_aload_n d_T_beginningFrom_3 rfl ?_
    refine pe_geti f_T_15 d_T_beginningFrom_4 rfl rfl 1 rfl ?_
    refine pe_icmp_ge (t := 24) d_T_beginningFrom_7 (by first | exact hB _ _ | exact ⟨by omega, by omega⟩) (by first | exact hB _ _ | exact ⟨by omega, by omega⟩) (fun h7 => ?_) (fun h7 => ?_)
    · skip
      refine pe_iload_n d_T_beginningFrom_24 rfl ?_
      refine pe_aload_n d_T_beginningFrom_25 rfl ?_
      refine pe_geti f_T_15 d_T_beginningFrom_26 rfl rfl 1 rfl ?_
      refine pe_min c_T_41 z_min n_math k_min d_T_beginningFrom_29 (by first | exact hB _ _ | exact ⟨by omega, by omega⟩) (by first | exact hB _ _ | exact ⟨by omega, by omega⟩) (by decide) (Nat.le_of_ble_eq_true rfl) ?_
      refine pe_ri d_T_beginningFrom_32 ?_
      refine ⟨rfl, ?_⟩
      try dsimp only
      split <;> omega
    · skip
      refine pe_aload_n d_T_beginningFrom_10 rfl ?_
      refine pe_iload_n d_T_beginningFrom_11 rfl ?_
      refine pe_v1p d_T_beginningFrom_12 c_T_38 i_T_isBeginning s_T_isBeginning rfl rfl (t_T_isBeginning hB (by omega) (by omega)) (fun z12 hz12 => ?_)
      refine pe_if_ne (t := 24) d_T_beginningFrom_15 (by first | exact hB _ _ | exact ⟨by omega, by omega⟩) (fun h15 => ?_) (fun h15 => ?_)
      · skip
        refine pe_iload_n d_T_beginningFrom_24 rfl ?_
        refine pe_aload_n d_T_beginningFrom_25 rfl ?_
        refine pe_geti f_T_15 d_T_beginningFrom_26 rfl rfl 1 rfl ?_
        refine pe_min c_T_41 z_min n_math k_min d_T_beginningFrom_29 (by first | exact hB _ _ | exact ⟨by omega, by omega⟩) (by first | exact hB _ _ | exact ⟨by omega, by omega⟩) (by decide) (Nat.le_of_ble_eq_true rfl) ?_
        refine pe_ri d_T_beginningFrom_32 ?_
        refine ⟨rfl, ?_⟩
        try dsimp only
        split <;> omega
      · skip
        refine pe_iinc d_T_beginningFrom_18 rfl ?_
        refine pe_goto (t := 2) d_T_beginningFrom_21 ?_
        exact ih _ (by omega) (by omega)
  refine pe_iload_n d_T_beginningFrom_0 rfl ?_
  refine pe_istore_n d_T_beginningFrom_1 ?_
  exact J2 _ (by omega)
end
section
theorem t_T_beginningAhead {σ : pe_H} {p : Int} (hB : pe_B σ) (hp : 0 ≤ p ∧ p ≤ σ 3 1) (hl : 0 ≤ σ 3 1 ∧ σ 3 1 ≤ 200) : pe_M m_T_beginningAhead [pe_r 3, pe_i p] σ (pe_qp σ (fun z => 0 ≤ z ∧ z ≤ p ∧ z ≤ σ 3 1)) := by
  refine pe_in0 (lv := [some (pe_r 3), some (pe_i p), none]) ?_
  have J4 : ∀ f : Int, (-1 ≤ f ∧ f < p) → pe_G m_T_beginningAhead 4 [some (pe_r 3), some (pe_i p), some (pe_i f)] [] σ (pe_qp σ (fun z => 0 ≤ z ∧ z ≤ p ∧ z ≤ σ 3 1)) := by
    refine pe_loop (fun f : Int => (f + 10).toNat) _ _ ?_
    intro f hI ih
    refine pe_iload_n d_T_beginningAhead_4 rfl ?_
    refine pe_if_le (t := 22) d_T_beginningAhead_5 (by first | exact hB _ _ | exact ⟨by omega, by omega⟩) (fun h5 => ?_) (fun h5 => ?_)
    · skip
      refine pe_iload_n d_T_beginningAhead_22 rfl ?_
      refine pe_iconst d_T_beginningAhead_23 ?_
      refine pe_max c_T_47 z_max n_math k_max d_T_beginningAhead_24 (by first | exact hB _ _ | exact ⟨by omega, by omega⟩) (by first | exact hB _ _ | exact ⟨by omega, by omega⟩) (by decide) (Nat.le_of_ble_eq_true rfl) ?_
      refine pe_ri d_T_beginningAhead_27 ?_
      refine ⟨rfl, ?_⟩
      try dsimp only
      split <;> omega
    · skip
      refine pe_aload_n d_T_beginningAhead_8 rfl ?_
      refine pe_iload_n d_T_beginningAhead_9 rfl ?_
      refine pe_v1p d_T_beginningAhead_10 c_T_38 i_T_isBeginning s_T_isBeginning rfl rfl (t_T_isBeginning hB (by omega) (by omega)) (fun z10 hz10 => ?_)
      refine pe_if_ne (t := 22) d_T_beginningAhead_13 (by first | exact hB _ _ | exact ⟨by omega, by omega⟩) (fun h13 => ?_) (fun h13 => ?_)
      · skip
        refine pe_iload_n d_T_beginningAhead_22 rfl ?_
        refine pe_iconst d_T_beginningAhead_23 ?_
        refine pe_max c_T_47 z_max n_math k_max d_T_beginningAhead_24 (by first | exact hB _ _ | exact ⟨by omega, by omega⟩) (by first | exact hB _ _ | exact ⟨by omega, by omega⟩) (by decide) (Nat.le_of_ble_eq_true rfl) ?_
        refine pe_ri d_T_beginningAhead_27 ?_
        refine ⟨rfl, ?_⟩
        try dsimp only
        split <;> omega
      · skip
        refine pe_iinc d_T_beginningAhead_16 rfl ?_
        refine pe_goto (t := 4) d_T_beginningAhead_19 ?_
        exact ih _ (by omega) (by omega)
  refine pe_iload_n d_T_beginningAhead_0 rfl ?_
  refine pe_iconst d_T_beginningAhead_1 ?_
  refine pe_isub d_T_beginningAhead_2 ?_
  refine pe_istore_n d_T_beginningAhead_3 ?_
  exact J4 _ (by omega)
theorem t_T_lineBeginning {σ : pe_H} {p : Int} (hB : pe_B σ) (hp : 0 ≤ p ∧ p ≤ σ 3 1) (hl : 0 ≤ σ 3 1 ∧ σ 3 1 ≤ 200) : pe_M m_T_lineBeginning [pe_r 3, pe_i p] σ (pe_qp σ (fun z => 0 ≤ z ∧ z ≤ σ 3 1)) := by
  refine pe_in0 (lv := [some (pe_r 3), some (pe_i p), none]) ?_
  have J2 : ∀ f : Int, (0 ≤ f ∧ f ≤ σ 3 1) → pe_G m_T_lineBeginning 2 [some (pe_r 3), some (pe_i p), some (pe_i f)] [] σ (pe_qp σ (fun z => 0 ≤ z ∧ z ≤ σ 3 1)) := by
    refine pe_loop (fun f : Int => (f + 10).toNat) _ _ ?_
    intro f hI ih
    refine pe_iload_n d_T_lineBeginning_2 rfl ?_
    refine pe_if_le (t := 24) d_T_lineBeginning_3 (by first | exact hB _ _ | exact ⟨by omega, by omega⟩) (fun h3 => ?_) (fun h3 => ?_)
    · skip
      refine pe_iload_n d_T_lineBeginning_24 rfl ?_
      refine pe_ri d_T_lineBeginning_25 ?_
      exact ⟨rfl, by (try dsimp only); omega⟩
    · skip
      refine pe_aload_n d_T_lineBeginning_6 rfl ?_
      refine pe_iload_n d_T_lineBeginning_7 rfl ?_
      refine pe_iconst d_T_lineBeginning_8 ?_
      refine pe_isub d_T_lineBeginning_9 ?_
      refine pe_v1p d_T_lineBeginning_10 c_T_25 i_T_codeAt s_T_codeAt rfl rfl (t_T_codeAt hB (by first | exact hB _ _ | exact ⟨by omega, by omega⟩) (by omega)) (fun z10 hz10 => ?_)
      have hR10 : pe_R z10 := by rw [hz10]; split <;> first | exact hB _ _ | exact ⟨by omega, by omega⟩
      refine pe_bipush d_T_lineBeginning_13 ?_
      refine pe_icmp_eq (t := 24) d_T_lineBeginning_15 (by first | exact hB _ _ | exact ⟨by omega, by omega⟩) (by first | exact hB _ _ | exact ⟨by omega, by omega⟩) (fun h15 => ?_) (fun h15 => ?_)
      · skip
        refine pe_iload_n d_T_lineBeginning_24 rfl ?_
        refine pe_ri d_T_lineBeginning_25 ?_
        exact ⟨rfl, by (try dsimp only); omega⟩
      · skip
        refine pe_iinc d_T_lineBeginning_18 rfl ?_
        refine pe_goto (t := 2) d_T_lineBeginning_21 ?_
        exact ih _ (by omega) (by omega)
  refine pe_iload_n d_T_lineBeginning_0 rfl ?_
  refine pe_istore_n d_T_lineBeginning_1 ?_
  exact J2 _ (by omega)
theorem t_T_lineEnd {σ : pe_H} {p : Int} (hB : pe_B σ) (hp : 0 ≤ p ∧ p ≤ σ 3 1) (hl : 0 ≤ σ 3 1 ∧ σ 3 1 ≤ 200) : pe_M m_T_lineEnd [pe_r 3, pe_i p] σ (pe_qp σ (fun z => 0 ≤ z ∧ z ≤ σ 3 1)) := by
  refine pe_in0 (lv := [some (pe_r 3), some (pe_i p), none]) ?_
  have J2 : ∀ f : Int, (0 ≤ f ∧ f ≤ σ 3 1) → pe_G m_T_lineEnd 2 [some (pe_r 3), some (pe_i p), some (pe_i f)] [] σ (pe_qp σ (fun z => 0 ≤ z ∧ z ≤ σ 3 1)) := by
    refine pe_loop (fun f : Int => (300 - f).toNat) _ _ ?_
    intro f hI ih
    refine pe_iload_n d_T_lineEnd_2 rfl ?_
    refine pe_aload_n d_T_lineEnd_3 rfl ?_
    refine pe_geti f_T_15 d_T_lineEnd_4 rfl rfl 1 rfl ?_
    refine pe_icmp_ge (t := 26) d_T_lineEnd_7 (by first | exact hB _ _ | exact ⟨by omega, by omega⟩) (by first | exact hB _ _ | exact ⟨by omega, by omega⟩) (fun h7 => ?_) (fun h7 => ?_)
    · skip
      refine pe_iload_n d_T_lineEnd_26 rfl ?_
      refine pe_ri d_T_lineEnd_27 ?_
      exact ⟨rfl, by (try dsimp only); omega⟩
    · skip
      refine pe_aload_n d_T_lineEnd_10 rfl ?_
      refine pe_iload_n d_T_lineEnd_11 rfl ?_
      refine pe_v1p d_T_lineEnd_12 c_T_25 i_T_codeAt s_T_codeAt rfl rfl (t_T_codeAt hB (by first | exact hB _ _ | exact ⟨by omega, by omega⟩) (by omega)) (fun z12 hz12 => ?_)
      have hR12 : pe_R z12 := by rw [hz12]; split <;> first | exact hB _ _ | exact ⟨by omega, by omega⟩
      refine pe_bipush d_T_lineEnd_15 ?_
      refine pe_icmp_eq (t := 26) d_T_lineEnd_17 (by first | exact hB _ _ | exact ⟨by omega, by omega⟩) (by first | exact hB _ _ | exact ⟨by omega, by omega⟩) (fun h17 => ?_) (fun h17 => ?_)
      · skip
        refine pe_iload_n d_T_lineEnd_26 rfl ?_
        refine pe_ri d_T_lineEnd_27 ?_
        exact ⟨rfl, by (try dsimp only); omega⟩
      · skip
        refine pe_iinc d_T_lineEnd_20 rfl ?_
        refine pe_goto (t := 2) d_T_lineEnd_23 ?_
        exact ih _ (by omega) (by omega)
  refine pe_iload_n d_T_lineEnd_0 rfl ?_
  refine pe_istore_n d_T_lineEnd_1 ?_
  exact J2 _ (by omega)
theorem t_T_lineNumber {σ : pe_H} {p : Int} (hB : pe_B σ) (hp : 0 ≤ p ∧ p ≤ σ 3 1) (hl : 0 ≤ σ 3 1 ∧ σ 3 1 ≤ 200) : pe_M m_T_lineNumber [pe_r 3, pe_i p] σ (pe_qp σ (fun z => 1 ≤ z ∧ z ≤ p + 1)) := by
  refine pe_in0 (lv := [some (pe_r 3), some (pe_i p), none, none]) ?_
  have J4 : ∀ fs : Int × Int, (0 ≤ fs.2 ∧ fs.2 ≤ p ∧ 1 ≤ fs.1 ∧ fs.1 ≤ fs.2 + 1) → pe_G m_T_lineNumber 4 [some (pe_r 3), some (pe_i p), some (pe_i fs.1), some (pe_i fs.2)] [] σ (pe_qp σ (fun z => 1 ≤ z ∧ z ≤ p + 1)) := by
    refine pe_loop (fun fs : Int × Int => (300 - fs.2).toNat) _ _ ?_
    intro fs hI ih
    obtain ⟨n, f⟩ := fs
    dsimp only at hI ⊢
    refine pe_iload_n d_T_lineNumber_4 rfl ?_
    refine pe_iload_n d_T_lineNumber_5 rfl ?_
    refine pe_icmp_ge (t := 28) d_T_lineNumber_6 (by first | exact hB _ _ | exact ⟨by omega, by omega⟩) (by first | exact hB _ _ | exact ⟨by omega, by omega⟩) (fun h6 => ?_) (fun h6 => ?_)
    · skip
      refine pe_iload_n d_T_lineNumber_28 rfl ?_
      refine pe_ri d_T_lineNumber_29 ?_
      exact ⟨rfl, by (try dsimp only); omega⟩
    · skip
      refine pe_aload_n d_T_lineNumber_9 rfl ?_
      refine pe_iload_n d_T_lineNumber_10 rfl ?_
      refine pe_v1p d_T_lineNumber_11 c_T_25 i_T_codeAt s_T_codeAt rfl rfl (t_T_codeAt hB (by first | exact hB _ _ | exact ⟨by omega, by omega⟩) (by omega)) (fun z11 hz11 => ?_)
      have hR11 : pe_R z11 := by rw [hz11]; split <;> first | exact hB _ _ | exact ⟨by omega, by omega⟩
      refine pe_bipush d_T_lineNumber_14 ?_
      refine pe_icmp_ne (t := 22) d_T_lineNumber_16 (by first | exact hB _ _ | exact ⟨by omega, by omega⟩) (by first | exact hB _ _ | exact ⟨by omega, by omega⟩) (fun h16 => ?_) (fun h16 => ?_)
      · skip
        refine pe_iinc d_T_lineNumber_22 rfl ?_
        refine pe_goto (t := 4) d_T_lineNumber_25 ?_
        exact ih (_, _) (by (try dsimp only); omega) (by (try dsimp only); omega)
      · skip
        refine pe_iinc d_T_lineNumber_19 rfl ?_
        refine pe_iinc d_T_lineNumber_22 rfl ?_
        refine pe_goto (t := 4) d_T_lineNumber_25 ?_
        exact ih (_, _) (by (try dsimp only); omega) (by (try dsimp only); omega)
  refine pe_iconst d_T_lineNumber_0 ?_
  refine pe_istore_n d_T_lineNumber_1 ?_
  refine pe_iconst d_T_lineNumber_2 ?_
  refine pe_istore_n d_T_lineNumber_3 ?_
  exact J4 (1, 0) (by (try dsimp only); omega)
theorem t_T_clusterAt {σ : pe_H} {p : Int} (hB : pe_B σ) (hp : 0 ≤ p ∧ p ≤ σ 3 1) (hl : 0 ≤ σ 3 1 ∧ σ 3 1 ≤ 200) : pe_M m_T_clusterAt [pe_r 3, pe_i p] σ (pe_qp σ (fun z => pe_R z)) := by
  refine pe_in0 (lv := [some (pe_r 3), some (pe_i p), none, none, none, none]) ?_
  have J31 : ∀ fs : Int × Int × Int × Int, ((0 ≤ fs.2.2.2 ∧ fs.2.2.2 ≤ 300) ∧ (0 ≤ fs.2.2.1 ∧ fs.2.2.1 ≤ 200) ∧ pe_R fs.2.1) → pe_G m_T_clusterAt 31 [some (pe_r 3), some (pe_i p), some (pe_i fs.1), some (pe_i fs.2.1), some (pe_i fs.2.2.1), some (pe_i fs.2.2.2)] [] σ (pe_qp σ (fun z => pe_R z)) := by
    refine pe_loop (fun fs : Int × Int × Int × Int => (300 - fs.2.2.2).toNat) _ _ ?_
    intro fs hI ih
    obtain ⟨c, u, e, f⟩ := fs
    dsimp only at hI ⊢
    refine pe_iload d_T_clusterAt_31 rfl ?_
    refine pe_iload d_T_clusterAt_33 rfl ?_
    refine pe_icmp_ge (t := 55) d_T_clusterAt_35 (by first | exact hB _ _ | exact ⟨by omega, by omega⟩) (by first | exact hB _ _ | exact ⟨by omega, by omega⟩) (fun h35 => ?_) (fun h35 => ?_)
    · skip
      refine pe_iload_n d_T_clusterAt_55 rfl ?_
      refine pe_ri d_T_clusterAt_56 ?_
      exact ⟨rfl, by first | exact hI.2.2 | exact ⟨by omega, by omega⟩⟩
    · skip
      refine pe_iload_n d_T_clusterAt_38 rfl ?_
      refine pe_aload_n d_T_clusterAt_39 rfl ?_
      refine pe_iload d_T_clusterAt_40 rfl ?_
      refine pe_v1p d_T_clusterAt_42 c_T_25 i_T_codeAt s_T_codeAt rfl rfl (t_T_codeAt hB (by first | exact hB _ _ | exact ⟨by omega, by omega⟩) (by omega)) (fun z42 hz42 => ?_)
      have hR42 : pe_R z42 := by rw [hz42]; split <;> first | exact hB _ _ | exact ⟨by omega, by omega⟩
      refine pe_s2p d_T_clusterAt_45 c_T_53 z_C_withMark (t_C_withMark hI.2.2 hR42) (fun z45 hz45 => ?_)
      refine pe_istore_n d_T_clusterAt_48 ?_
      refine pe_iinc d_T_clusterAt_49 rfl ?_
      refine pe_goto (t := 31) d_T_clusterAt_52 ?_
      exact ih (_, _, _, _) (by (try dsimp only); exact ⟨by omega, by omega, hz45⟩) (by (try dsimp only); omega)
  refine pe_aload_n d_T_clusterAt_0 rfl ?_
  refine pe_iload_n d_T_clusterAt_1 rfl ?_
  refine pe_v1p d_T_clusterAt_2 c_T_25 i_T_codeAt s_T_codeAt rfl rfl (t_T_codeAt hB (by first | exact hB _ _ | exact ⟨by omega, by omega⟩) (by omega)) (fun z2 hz2 => ?_)
  have hR2 : pe_R z2 := by rw [hz2]; split <;> first | exact hB _ _ | exact ⟨by omega, by omega⟩
  refine pe_istore_n d_T_clusterAt_5 ?_
  refine pe_iload_n d_T_clusterAt_6 rfl ?_
  refine pe_bipush d_T_clusterAt_7 ?_
  refine pe_icmp_ge (t := 15) d_T_clusterAt_9 (by first | exact hB _ _ | exact ⟨by omega, by omega⟩) (by first | exact hB _ _ | exact ⟨by omega, by omega⟩) (fun h9 => ?_) (fun h9 => ?_)
  · skip
    refine pe_iload_n d_T_clusterAt_15 rfl ?_
    refine pe_istore_n d_T_clusterAt_16 ?_
    refine pe_aload_n d_T_clusterAt_17 rfl ?_
    refine pe_iload_n d_T_clusterAt_18 rfl ?_
    refine pe_iconst d_T_clusterAt_19 ?_
    refine pe_iadd d_T_clusterAt_20 ?_
    refine pe_v1p d_T_clusterAt_21 c_T_50 i_T_beginningFrom s_T_beginningFrom rfl rfl (t_T_beginningFrom hB (by omega) (by omega)) (fun z21 hz21 => ?_)
    refine pe_istore d_T_clusterAt_24 ?_
    refine pe_iload_n d_T_clusterAt_26 rfl ?_
    refine pe_iconst d_T_clusterAt_27 ?_
    refine pe_iadd d_T_clusterAt_28 ?_
    refine pe_istore d_T_clusterAt_29 ?_
    exact J31 (_, _, _, _) (by (try dsimp only); exact ⟨by omega, by omega, by first | assumption | omega⟩)
  · skip
    refine pe_bipush d_T_clusterAt_12 ?_
    refine pe_ri d_T_clusterAt_14 ?_
    exact ⟨rfl, by first | exact hI.2.2 | exact ⟨by omega, by omega⟩⟩
theorem pe_ni2 {b x y : Nat} (h : b ∉ [x, y]) : b ≠ x ∧ b ≠ y := ⟨fun q => h (by rw [q]; simp), fun q => h (by rw [q]; simp)⟩
theorem pe_ni3 {b x y z : Nat} (h : b ∉ [x, y, z]) : b ≠ x ∧ b ∉ [y, z] := ⟨fun q => h (by rw [q]; simp), fun q => h (List.mem_cons_of_mem _ q)⟩
theorem t_T_insert_16 {σ : pe_H} {p f n : Int} (hB : pe_B σ) (hp : 0 ≤ p ∧ p ≤ σ 3 1) (hn : 0 ≤ n ∧ σ 3 1 + n ≤ 200) (hf : 0 ≤ f ∧ f + n ≤ 1) : pe_M m_T_insert [pe_r 3, pe_i p, pe_r 16, pe_i f, pe_i n] σ (pe_qv (fun σ' => pe_B σ' ∧ (∀ b, b ∉ [3, 4] → σ' b = σ b) ∧ σ' 3 1 = σ 3 1 + n)) := by
  refine pe_in0 (lv := [some (pe_r 3), some (pe_i p), some (pe_r 16), some (pe_i f), some (pe_i n)]) ?_
  refine pe_aload_n d_T_insert_0 rfl ?_
  refine pe_getr f_T_9 d_T_insert_1 rfl rfl ?_
  refine pe_iload_n d_T_insert_4 rfl ?_
  refine pe_aload_n d_T_insert_5 rfl ?_
  refine pe_getr f_T_9 d_T_insert_6 rfl rfl ?_
  refine pe_iload_n d_T_insert_9 rfl ?_
  refine pe_iload d_T_insert_10 rfl ?_
  refine pe_iadd d_T_insert_12 ?_
  refine pe_aload_n d_T_insert_13 rfl ?_
  refine pe_geti f_T_15 d_T_insert_14 rfl rfl 1 rfl ?_
  refine pe_iload_n d_T_insert_17 rfl ?_
  refine pe_isub d_T_insert_18 ?_
  refine pe_acopyT c_T_19 d_T_insert_19 rfl rfl (by omega) (by omega) (by omega) (by omega) (by omega) hB (fun σ19 hB e19 f19 => ?_)
  have o19 := f19
  try have u19_0 : σ19 3 1 = σ 3 1 := by first | exact o19 1 (by decide) | exact congrFun (f19 3 (by decide)) 1
  refine pe_aload_n d_T_insert_22 rfl ?_
  refine pe_iload_n d_T_insert_23 rfl ?_
  refine pe_aload_n d_T_insert_24 rfl ?_
  refine pe_getr f_T_9 d_T_insert_25 rfl rfl ?_
  refine pe_iload_n d_T_insert_28 rfl ?_
  refine pe_iload d_T_insert_29 rfl ?_
  refine pe_acopyT c_T_19 d_T_insert_31 rfl rfl (by omega) (by omega) (by omega) (by omega) (by omega) hB (fun σ31 hB e31 f31 => ?_)
  have o31 := f31
  try have u31_0 : σ31 3 1 = σ19 3 1 := by first | exact o31 1 (by decide) | exact congrFun (f31 3 (by decide)) 1
  refine pe_aload_n d_T_insert_34 rfl ?_
  refine pe_dup d_T_insert_35 ?_
  refine pe_geti f_T_15 d_T_insert_36 rfl rfl 1 rfl ?_
  refine pe_iload d_T_insert_39 rfl ?_
  refine pe_iadd d_T_insert_41 ?_
  refine pe_putiT f_T_15 g_3_1 d_T_insert_42 rfl rfl 1 rfl hB (by first | exact hB _ _ | exact ⟨by omega, by omega⟩) (fun σ42 hB e42 o42 f42 => ?_)
  try have u42_0 : σ42 3 1 = σ31 3 1 := by first | exact o42 1 (by decide) | exact congrFun (f42 3 (by decide)) 1
  refine pe_rv d_T_insert_45 ?_
  exact ⟨hB, (fun b hb => (f42 b (by simp at hb ⊢; try omega)).trans ((f31 b (by simp at hb ⊢; try omega)).trans ((f19 b (by simp at hb ⊢; try omega)).trans (rfl)))), by omega⟩
theorem t_T_insert_15 {σ : pe_H} {p f n : Int} (hB : pe_B σ) (hp : 0 ≤ p ∧ p ≤ σ 3 1) (hn : 0 ≤ n ∧ σ 3 1 + n ≤ 200) (hf : 0 ≤ f ∧ f + n ≤ 200) : pe_M m_T_insert [pe_r 3, pe_i p, pe_r 15, pe_i f, pe_i n] σ (pe_qv (fun σ' => pe_B σ' ∧ (∀ b, b ∉ [3, 4] → σ' b = σ b) ∧ σ' 3 1 = σ 3 1 + n)) := by
  refine pe_in0 (lv := [some (pe_r 3), some (pe_i p), some (pe_r 15), some (pe_i f), some (pe_i n)]) ?_
  refine pe_aload_n d_T_insert_0 rfl ?_
  refine pe_getr f_T_9 d_T_insert_1 rfl rfl ?_
  refine pe_iload_n d_T_insert_4 rfl ?_
  refine pe_aload_n d_T_insert_5 rfl ?_
  refine pe_getr f_T_9 d_T_insert_6 rfl rfl ?_
  refine pe_iload_n d_T_insert_9 rfl ?_
  refine pe_iload d_T_insert_10 rfl ?_
  refine pe_iadd d_T_insert_12 ?_
  refine pe_aload_n d_T_insert_13 rfl ?_
  refine pe_geti f_T_15 d_T_insert_14 rfl rfl 1 rfl ?_
  refine pe_iload_n d_T_insert_17 rfl ?_
  refine pe_isub d_T_insert_18 ?_
  refine pe_acopyT c_T_19 d_T_insert_19 rfl rfl (by omega) (by omega) (by omega) (by omega) (by omega) hB (fun σ19 hB e19 f19 => ?_)
  have o19 := f19
  try have u19_0 : σ19 3 1 = σ 3 1 := by first | exact o19 1 (by decide) | exact congrFun (f19 3 (by decide)) 1
  refine pe_aload_n d_T_insert_22 rfl ?_
  refine pe_iload_n d_T_insert_23 rfl ?_
  refine pe_aload_n d_T_insert_24 rfl ?_
  refine pe_getr f_T_9 d_T_insert_25 rfl rfl ?_
  refine pe_iload_n d_T_insert_28 rfl ?_
  refine pe_iload d_T_insert_29 rfl ?_
  refine pe_acopyT c_T_19 d_T_insert_31 rfl rfl (by omega) (by omega) (by omega) (by omega) (by omega) hB (fun σ31 hB e31 f31 => ?_)
  have o31 := f31
  try have u31_0 : σ31 3 1 = σ19 3 1 := by first | exact o31 1 (by decide) | exact congrFun (f31 3 (by decide)) 1
  refine pe_aload_n d_T_insert_34 rfl ?_
  refine pe_dup d_T_insert_35 ?_
  refine pe_geti f_T_15 d_T_insert_36 rfl rfl 1 rfl ?_
  refine pe_iload d_T_insert_39 rfl ?_
  refine pe_iadd d_T_insert_41 ?_
  refine pe_putiT f_T_15 g_3_1 d_T_insert_42 rfl rfl 1 rfl hB (by first | exact hB _ _ | exact ⟨by omega, by omega⟩) (fun σ42 hB e42 o42 f42 => ?_)
  try have u42_0 : σ42 3 1 = σ31 3 1 := by first | exact o42 1 (by decide) | exact congrFun (f42 3 (by decide)) 1
  refine pe_rv d_T_insert_45 ?_
  exact ⟨hB, (fun b hb => (f42 b (by simp at hb ⊢; try omega)).trans ((f31 b (by simp at hb ⊢; try omega)).trans ((f19 b (by simp at hb ⊢; try omega)).trans (rfl)))), by omega⟩
theorem t_T_insert_10 {σ : pe_H} {p f n : Int} (hB : pe_B σ) (hp : 0 ≤ p ∧ p ≤ σ 3 1) (hn : 0 ≤ n ∧ σ 3 1 + n ≤ 200) (hf : 0 ≤ f ∧ f + n ≤ 2400) : pe_M m_T_insert [pe_r 3, pe_i p, pe_r 10, pe_i f, pe_i n] σ (pe_qv (fun σ' => pe_B σ' ∧ (∀ b, b ∉ [3, 4] → σ' b = σ b) ∧ σ' 3 1 = σ 3 1 + n)) := by
  refine pe_in0 (lv := [some (pe_r 3), some (pe_i p), some (pe_r 10), some (pe_i f), some (pe_i n)]) ?_
  refine pe_aload_n d_T_insert_0 rfl ?_
  refine pe_getr f_T_9 d_T_insert_1 rfl rfl ?_
  refine pe_iload_n d_T_insert_4 rfl ?_
  refine pe_aload_n d_T_insert_5 rfl ?_
  refine pe_getr f_T_9 d_T_insert_6 rfl rfl ?_
  refine pe_iload_n d_T_insert_9 rfl ?_
  refine pe_iload d_T_insert_10 rfl ?_
  refine pe_iadd d_T_insert_12 ?_
  refine pe_aload_n d_T_insert_13 rfl ?_
  refine pe_geti f_T_15 d_T_insert_14 rfl rfl 1 rfl ?_
  refine pe_iload_n d_T_insert_17 rfl ?_
  refine pe_isub d_T_insert_18 ?_
  refine pe_acopyT c_T_19 d_T_insert_19 rfl rfl (by omega) (by omega) (by omega) (by omega) (by omega) hB (fun σ19 hB e19 f19 => ?_)
  have o19 := f19
  try have u19_0 : σ19 3 1 = σ 3 1 := by first | exact o19 1 (by decide) | exact congrFun (f19 3 (by decide)) 1
  refine pe_aload_n d_T_insert_22 rfl ?_
  refine pe_iload_n d_T_insert_23 rfl ?_
  refine pe_aload_n d_T_insert_24 rfl ?_
  refine pe_getr f_T_9 d_T_insert_25 rfl rfl ?_
  refine pe_iload_n d_T_insert_28 rfl ?_
  refine pe_iload d_T_insert_29 rfl ?_
  refine pe_acopyT c_T_19 d_T_insert_31 rfl rfl (by omega) (by omega) (by omega) (by omega) (by omega) hB (fun σ31 hB e31 f31 => ?_)
  have o31 := f31
  try have u31_0 : σ31 3 1 = σ19 3 1 := by first | exact o31 1 (by decide) | exact congrFun (f31 3 (by decide)) 1
  refine pe_aload_n d_T_insert_34 rfl ?_
  refine pe_dup d_T_insert_35 ?_
  refine pe_geti f_T_15 d_T_insert_36 rfl rfl 1 rfl ?_
  refine pe_iload d_T_insert_39 rfl ?_
  refine pe_iadd d_T_insert_41 ?_
  refine pe_putiT f_T_15 g_3_1 d_T_insert_42 rfl rfl 1 rfl hB (by first | exact hB _ _ | exact ⟨by omega, by omega⟩) (fun σ42 hB e42 o42 f42 => ?_)
  try have u42_0 : σ42 3 1 = σ31 3 1 := by first | exact o42 1 (by decide) | exact congrFun (f42 3 (by decide)) 1
  refine pe_rv d_T_insert_45 ?_
  exact ⟨hB, (fun b hb => (f42 b (by simp at hb ⊢; try omega)).trans ((f31 b (by simp at hb ⊢; try omega)).trans ((f19 b (by simp at hb ⊢; try omega)).trans (rfl)))), by omega⟩
theorem t_T_remove {σ : pe_H} {p n : Int} (hB : pe_B σ) (hp : 0 ≤ p ∧ 0 ≤ n ∧ p + n ≤ σ 3 1) (hl : σ 3 1 ≤ 200) : pe_M m_T_remove [pe_r 3, pe_i p, pe_i n] σ (pe_qv (fun σ' => pe_B σ' ∧ (∀ b, b ∉ [3, 4] → σ' b = σ b) ∧ σ' 3 1 = σ 3 1 - n)) := by
  refine pe_in0 (lv := [some (pe_r 3), some (pe_i p), some (pe_i n)]) ?_
  refine pe_aload_n d_T_remove_0 rfl ?_
  refine pe_getr f_T_9 d_T_remove_1 rfl rfl ?_
  refine pe_iload_n d_T_remove_4 rfl ?_
  refine pe_iload_n d_T_remove_5 rfl ?_
  refine pe_iadd d_T_remove_6 ?_
  refine pe_aload_n d_T_remove_7 rfl ?_
  refine pe_getr f_T_9 d_T_remove_8 rfl rfl ?_
  refine pe_iload_n d_T_remove_11 rfl ?_
  refine pe_aload_n d_T_remove_12 rfl ?_
  refine pe_geti f_T_15 d_T_remove_13 rfl rfl 1 rfl ?_
  refine pe_iload_n d_T_remove_16 rfl ?_
  refine pe_isub d_T_remove_17 ?_
  refine pe_iload_n d_T_remove_18 rfl ?_
  refine pe_isub d_T_remove_19 ?_
  refine pe_acopyT c_T_19 d_T_remove_20 rfl rfl (by omega) (by omega) (by omega) (by omega) (by omega) hB (fun σ20 hB e20 f20 => ?_)
  have o20 := f20
  try have u20_0 : σ20 3 1 = σ 3 1 := by first | exact o20 1 (by decide) | exact congrFun (f20 3 (by decide)) 1
  refine pe_aload_n d_T_remove_23 rfl ?_
  refine pe_dup d_T_remove_24 ?_
  refine pe_geti f_T_15 d_T_remove_25 rfl rfl 1 rfl ?_
  refine pe_iload_n d_T_remove_28 rfl ?_
  refine pe_isub d_T_remove_29 ?_
  refine pe_putiT f_T_15 g_3_1 d_T_remove_30 rfl rfl 1 rfl hB (by first | exact hB _ _ | exact ⟨by omega, by omega⟩) (fun σ30 hB e30 o30 f30 => ?_)
  try have u30_0 : σ30 3 1 = σ20 3 1 := by first | exact o30 1 (by decide) | exact congrFun (f30 3 (by decide)) 1
  refine pe_rv d_T_remove_33 ?_
  exact ⟨hB, (fun b hb => (f30 b (by simp at hb ⊢; try omega)).trans ((f20 b (by simp at hb ⊢; try omega)).trans (rfl))), by omega⟩
theorem t_T_copyTo_15 {σ : pe_H} {t p n : Int} (hB : pe_B σ) (hp : 0 ≤ p ∧ 0 ≤ n ∧ p + n ≤ σ 3 1) (hl : σ 3 1 ≤ 200) (ht : 0 ≤ t ∧ t + n ≤ 200) : pe_M m_T_copyTo [pe_r 3, pe_r 15, pe_i t, pe_i p, pe_i n] σ (pe_qv (fun σ' => pe_B σ' ∧ ∀ b, b ∉ [15] → σ' b = σ b)) := by
  refine pe_in0 (lv := [some (pe_r 3), some (pe_r 15), some (pe_i t), some (pe_i p), some (pe_i n)]) ?_
  refine pe_aload_n d_T_copyTo_0 rfl ?_
  refine pe_getr f_T_9 d_T_copyTo_1 rfl rfl ?_
  refine pe_iload_n d_T_copyTo_4 rfl ?_
  refine pe_aload_n d_T_copyTo_5 rfl ?_
  refine pe_iload_n d_T_copyTo_6 rfl ?_
  refine pe_iload d_T_copyTo_7 rfl ?_
  refine pe_acopyT c_T_19 d_T_copyTo_9 rfl rfl (by omega) (by omega) (by omega) (by omega) (by omega) hB (fun σ9 hB e9 f9 => ?_)
  have o9 := f9
  refine pe_rv d_T_copyTo_12 ?_
  exact ⟨hB, (fun b hb => (f9 b (by simp at hb ⊢; try omega)).trans (rfl))⟩
theorem t_T_copyTo_10 {σ : pe_H} {t p n : Int} (hB : pe_B σ) (hp : 0 ≤ p ∧ 0 ≤ n ∧ p + n ≤ σ 3 1) (hl : σ 3 1 ≤ 200) (ht : 0 ≤ t ∧ t + n ≤ 2400) : pe_M m_T_copyTo [pe_r 3, pe_r 10, pe_i t, pe_i p, pe_i n] σ (pe_qv (fun σ' => pe_B σ' ∧ ∀ b, b ∉ [10] → σ' b = σ b)) := by
  refine pe_in0 (lv := [some (pe_r 3), some (pe_r 10), some (pe_i t), some (pe_i p), some (pe_i n)]) ?_
  refine pe_aload_n d_T_copyTo_0 rfl ?_
  refine pe_getr f_T_9 d_T_copyTo_1 rfl rfl ?_
  refine pe_iload_n d_T_copyTo_4 rfl ?_
  refine pe_aload_n d_T_copyTo_5 rfl ?_
  refine pe_iload_n d_T_copyTo_6 rfl ?_
  refine pe_iload d_T_copyTo_7 rfl ?_
  refine pe_acopyT c_T_19 d_T_copyTo_9 rfl rfl (by omega) (by omega) (by omega) (by omega) (by omega) hB (fun σ9 hB e9 f9 => ?_)
  have o9 := f9
  refine pe_rv d_T_copyTo_12 ?_
  exact ⟨hB, (fun b hb => (f9 b (by simp at hb ⊢; try omega)).trans (rfl))⟩
end
section
theorem t_G_has_18 {σ : pe_H} {r c : Int} (hd : 1 ≤ σ 18 2 ∧ σ 18 2 ≤ 24 ∧ 1 ≤ σ 18 3 ∧ σ 18 3 ≤ 8) (hr : pe_R r) (hc : pe_R c) : pe_M m_G_has [pe_r 18, pe_i r, pe_i c] σ (pe_qp σ (fun z => (z = 0 ∨ z = 1) ∧ (z = 1 ↔ 0 ≤ r ∧ r < σ 18 3 ∧ 0 ≤ c ∧ c < σ 18 2))) := by
  refine pe_in0 (lv := [some (pe_r 18), some (pe_i r), some (pe_i c)]) ?_
  refine pe_iload_n d_G_has_0 rfl ?_
  refine pe_if_lt (t := 28) d_G_has_1 (by first | exact hB _ _ | exact ⟨by omega, by omega⟩) (fun h1 => ?_) (fun h1 => ?_)
  · skip
    refine pe_iconst d_G_has_28 ?_
    refine pe_rz d_G_has_29 (by first | exact Or.inl rfl | exact Or.inr rfl | omega) ?_
    exact ⟨rfl, by (try dsimp only); omega⟩
  · skip
    refine pe_iload_n d_G_has_4 rfl ?_
    refine pe_aload_n d_G_has_5 rfl ?_
    refine pe_geti f_G_22 d_G_has_6 rfl rfl 3 rfl ?_
    refine pe_icmp_ge (t := 28) d_G_has_9 (by first | exact hB _ _ | exact ⟨by omega, by omega⟩) (by first | exact hB _ _ | exact ⟨by omega, by omega⟩) (fun h9 => ?_) (fun h9 => ?_)
    · skip
      refine pe_iconst d_G_has_28 ?_
      refine pe_rz d_G_has_29 (by first | exact Or.inl rfl | exact Or.inr rfl | omega) ?_
      exact ⟨rfl, by (try dsimp only); omega⟩
    · skip
      refine pe_iload_n d_G_has_12 rfl ?_
      refine pe_if_lt (t := 28) d_G_has_13 (by first | exact hB _ _ | exact ⟨by omega, by omega⟩) (fun h13 => ?_) (fun h13 => ?_)
      · skip
        refine pe_iconst d_G_has_28 ?_
        refine pe_rz d_G_has_29 (by first | exact Or.inl rfl | exact Or.inr rfl | omega) ?_
        exact ⟨rfl, by (try dsimp only); omega⟩
      · skip
        refine pe_iload_n d_G_has_16 rfl ?_
        refine pe_aload_n d_G_has_17 rfl ?_
        refine pe_geti f_G_18 d_G_has_18 rfl rfl 2 rfl ?_
        refine pe_icmp_ge (t := 28) d_G_has_21 (by first | exact hB _ _ | exact ⟨by omega, by omega⟩) (by first | exact hB _ _ | exact ⟨by omega, by omega⟩) (fun h21 => ?_) (fun h21 => ?_)
        · skip
          refine pe_iconst d_G_has_28 ?_
          refine pe_rz d_G_has_29 (by first | exact Or.inl rfl | exact Or.inr rfl | omega) ?_
          exact ⟨rfl, by (try dsimp only); omega⟩
        · skip
          refine pe_iconst d_G_has_24 ?_
          refine pe_goto (t := 29) d_G_has_25 ?_
          refine pe_rz d_G_has_29 (by first | exact Or.inl rfl | exact Or.inr rfl | omega) ?_
          exact ⟨rfl, by (try dsimp only); omega⟩
theorem t_G_clusterAt_18 {σ : pe_H} {r c : Int} (hB : pe_B σ) (hd : 1 ≤ σ 18 2 ∧ σ 18 2 ≤ 24 ∧ 1 ≤ σ 18 3 ∧ σ 18 3 ≤ 8) (hr : pe_R r) (hc : pe_R c) : pe_M m_G_clusterAt [pe_r 18, pe_i r, pe_i c] σ (pe_qp σ (fun z => pe_R z)) := by
  refine pe_in0 (lv := [some (pe_r 18), some (pe_i r), some (pe_i c)]) ?_
  refine pe_aload_n d_G_clusterAt_0 rfl ?_
  refine pe_iload_n d_G_clusterAt_1 rfl ?_
  refine pe_iload_n d_G_clusterAt_2 rfl ?_
  refine pe_v2p d_G_clusterAt_3 c_G_31 i_G_has s_G_has rfl rfl (t_G_has_18 (by omega) (by first | exact hB _ _ | exact ⟨by omega, by omega⟩) (by first | exact hB _ _ | exact ⟨by omega, by omega⟩)) (fun z3 hz3 => ?_)
  refine pe_if_eq (t := 23) d_G_clusterAt_6 (by first | exact hB _ _ | exact ⟨by omega, by omega⟩) (fun h6 => ?_) (fun h6 => ?_)
  · skip
    refine pe_iconst d_G_clusterAt_23 ?_
    refine pe_ri d_G_clusterAt_24 ?_
    exact ⟨rfl, by first | exact hB _ _ | exact ⟨by omega, by omega⟩⟩
  · skip
    refine pe_aload_n d_G_clusterAt_9 rfl ?_
    refine pe_getr f_G_9 d_G_clusterAt_10 rfl rfl ?_
    refine pe_iload_n d_G_clusterAt_13 rfl ?_
    refine pe_bipush d_G_clusterAt_14 ?_
    refine pe_imul d_G_clusterAt_16 ?_
    refine pe_iload_n d_G_clusterAt_17 rfl ?_
    refine pe_iadd d_G_clusterAt_18 ?_
    refine pe_iald d_G_clusterAt_19 rfl (by omega) (by omega) ?_
    refine pe_goto (t := 24) d_G_clusterAt_20 ?_
    refine pe_ri d_G_clusterAt_24 ?_
    exact ⟨rfl, by first | exact hB _ _ | exact ⟨by omega, by omega⟩⟩
theorem t_G_lookAt_18 {σ : pe_H} {r c : Int} (hB : pe_B σ) (hd : 1 ≤ σ 18 2 ∧ σ 18 2 ≤ 24 ∧ 1 ≤ σ 18 3 ∧ σ 18 3 ≤ 8) (hr : pe_R r) (hc : pe_R c) : pe_M m_G_lookAt [pe_r 18, pe_i r, pe_i c] σ (pe_qp σ (fun z => pe_R z)) := by
  refine pe_in0 (lv := [some (pe_r 18), some (pe_i r), some (pe_i c)]) ?_
  refine pe_aload_n d_G_lookAt_0 rfl ?_
  refine pe_iload_n d_G_lookAt_1 rfl ?_
  refine pe_iload_n d_G_lookAt_2 rfl ?_
  refine pe_v2p d_G_lookAt_3 c_G_31 i_G_has s_G_has rfl rfl (t_G_has_18 (by omega) (by first | exact hB _ _ | exact ⟨by omega, by omega⟩) (by first | exact hB _ _ | exact ⟨by omega, by omega⟩)) (fun z3 hz3 => ?_)
  refine pe_if_eq (t := 23) d_G_lookAt_6 (by first | exact hB _ _ | exact ⟨by omega, by omega⟩) (fun h6 => ?_) (fun h6 => ?_)
  · skip
    refine pe_iconst d_G_lookAt_23 ?_
    refine pe_ri d_G_lookAt_24 ?_
    exact ⟨rfl, by first | exact hB _ _ | exact ⟨by omega, by omega⟩⟩
  · skip
    refine pe_aload_n d_G_lookAt_9 rfl ?_
    refine pe_getr f_G_15 d_G_lookAt_10 rfl rfl ?_
    refine pe_iload_n d_G_lookAt_13 rfl ?_
    refine pe_bipush d_G_lookAt_14 ?_
    refine pe_imul d_G_lookAt_16 ?_
    refine pe_iload_n d_G_lookAt_17 rfl ?_
    refine pe_iadd d_G_lookAt_18 ?_
    refine pe_iald d_G_lookAt_19 rfl (by omega) (by omega) ?_
    refine pe_goto (t := 24) d_G_lookAt_20 ?_
    refine pe_ri d_G_lookAt_24 ?_
    exact ⟨rfl, by first | exact hB _ _ | exact ⟨by omega, by omega⟩⟩
theorem t_G_put_18 {σ : pe_H} {r c u w : Int} (hB : pe_B σ) (hd : 1 ≤ σ 18 2 ∧ σ 18 2 ≤ 24 ∧ 1 ≤ σ 18 3 ∧ σ 18 3 ≤ 8) (hr : pe_R r) (hc : pe_R c) (hu : pe_R u) (hw : pe_R w) : pe_M m_G_put [pe_r 18, pe_i r, pe_i c, pe_i u, pe_i w] σ (pe_qv (fun σ' => pe_B σ' ∧ ∀ b, b ∉ [19, 20] → σ' b = σ b)) := by
  refine pe_in0 (lv := [some (pe_r 18), some (pe_i r), some (pe_i c), some (pe_i u), some (pe_i w)]) ?_
  refine pe_aload_n d_G_put_0 rfl ?_
  refine pe_iload_n d_G_put_1 rfl ?_
  refine pe_iload_n d_G_put_2 rfl ?_
  refine pe_v2p d_G_put_3 c_G_31 i_G_has s_G_has rfl rfl (t_G_has_18 (by omega) (by first | exact hB _ _ | exact ⟨by omega, by omega⟩) (by first | exact hB _ _ | exact ⟨by omega, by omega⟩)) (fun z3 hz3 => ?_)
  refine pe_if_eq (t := 34) d_G_put_6 (by first | exact hB _ _ | exact ⟨by omega, by omega⟩) (fun h6 => ?_) (fun h6 => ?_)
  · skip
    refine pe_rv d_G_put_34 ?_
    exact ⟨hB, (fun b hb => rfl)⟩
  · skip
    refine pe_aload_n d_G_put_9 rfl ?_
    refine pe_getr f_G_9 d_G_put_10 rfl rfl ?_
    refine pe_iload_n d_G_put_13 rfl ?_
    refine pe_bipush d_G_put_14 ?_
    refine pe_imul d_G_put_16 ?_
    refine pe_iload_n d_G_put_17 rfl ?_
    refine pe_iadd d_G_put_18 ?_
    refine pe_iload_n d_G_put_19 rfl ?_
    refine pe_iastT d_G_put_20 rfl (by omega) (by omega) hB (by first | exact hB _ _ | exact ⟨by omega, by omega⟩) (fun σ20 hB e20 o20 f20 => ?_)
    refine pe_aload_n d_G_put_21 rfl ?_
    refine pe_getr f_G_15 d_G_put_22 rfl rfl ?_
    refine pe_iload_n d_G_put_25 rfl ?_
    refine pe_bipush d_G_put_26 ?_
    refine pe_imul d_G_put_28 ?_
    refine pe_iload_n d_G_put_29 rfl ?_
    refine pe_iadd d_G_put_30 ?_
    refine pe_iload d_G_put_31 rfl ?_
    refine pe_iastT d_G_put_33 rfl (by omega) (by omega) hB (by first | exact hB _ _ | exact ⟨by omega, by omega⟩) (fun σ33 hB e33 o33 f33 => ?_)
    refine pe_rv d_G_put_34 ?_
    exact ⟨hB, (fun b hb => (f33 b (by simp at hb ⊢; try omega)).trans ((f20 b (by simp at hb ⊢; try omega)).trans (rfl)))⟩
theorem t_G_isBlank_18 {σ : pe_H} {r c : Int} (hB : pe_B σ) (hd : 1 ≤ σ 18 2 ∧ σ 18 2 ≤ 24 ∧ 1 ≤ σ 18 3 ∧ σ 18 3 ≤ 8) (hr : pe_R r) (hc : pe_R c) : pe_M m_G_isBlank [pe_r 18, pe_i r, pe_i c] σ (pe_qp σ (fun z => z = 0 ∨ z = 1)) := by
  refine pe_in0 (lv := [some (pe_r 18), some (pe_i r), some (pe_i c)]) ?_
  refine pe_aload_n d_G_isBlank_0 rfl ?_
  refine pe_iload_n d_G_isBlank_1 rfl ?_
  refine pe_iload_n d_G_isBlank_2 rfl ?_
  refine pe_v2p d_G_isBlank_3 c_G_35 i_G_clusterAt s_G_clusterAt rfl rfl (t_G_clusterAt_18 hB (by omega) (by first | exact hB _ _ | exact ⟨by omega, by omega⟩) (by first | exact hB _ _ | exact ⟨by omega, by omega⟩)) (fun z3 hz3 => ?_)
  refine pe_bipush d_G_isBlank_6 ?_
  refine pe_icmp_ne (t := 24) d_G_isBlank_8 (by first | exact hB _ _ | exact ⟨by omega, by omega⟩) (by first | exact hB _ _ | exact ⟨by omega, by omega⟩) (fun h8 => ?_) (fun h8 => ?_)
  · skip
    refine pe_iconst d_G_isBlank_24 ?_
    refine pe_rz d_G_isBlank_25 (by first | exact Or.inl rfl | exact Or.inr rfl | omega) ?_
    exact ⟨rfl, by (try dsimp only); omega⟩
  · skip
    refine pe_aload_n d_G_isBlank_11 rfl ?_
    refine pe_iload_n d_G_isBlank_12 rfl ?_
    refine pe_iload_n d_G_isBlank_13 rfl ?_
    refine pe_v2p d_G_isBlank_14 c_G_39 i_G_lookAt s_G_lookAt rfl rfl (t_G_lookAt_18 hB (by omega) (by first | exact hB _ _ | exact ⟨by omega, by omega⟩) (by first | exact hB _ _ | exact ⟨by omega, by omega⟩)) (fun z14 hz14 => ?_)
    refine pe_if_ne (t := 24) d_G_isBlank_17 (by first | exact hB _ _ | exact ⟨by omega, by omega⟩) (fun h17 => ?_) (fun h17 => ?_)
    · skip
      refine pe_iconst d_G_isBlank_24 ?_
      refine pe_rz d_G_isBlank_25 (by first | exact Or.inl rfl | exact Or.inr rfl | omega) ?_
      exact ⟨rfl, by (try dsimp only); omega⟩
    · skip
      refine pe_iconst d_G_isBlank_20 ?_
      refine pe_goto (t := 25) d_G_isBlank_21 ?_
      refine pe_rz d_G_isBlank_25 (by first | exact Or.inl rfl | exact Or.inr rfl | omega) ?_
      exact ⟨rfl, by (try dsimp only); omega⟩
theorem t_G_isWideAt_18 {σ : pe_H} {r c : Int} (hB : pe_B σ) (hd : 1 ≤ σ 18 2 ∧ σ 18 2 ≤ 24 ∧ 1 ≤ σ 18 3 ∧ σ 18 3 ≤ 8) (hr : pe_R r) (hc : pe_R c) : pe_M m_G_isWideAt [pe_r 18, pe_i r, pe_i c] σ (pe_qp σ (fun z => z = 0 ∨ z = 1)) := by
  refine pe_in0 (lv := [some (pe_r 18), some (pe_i r), some (pe_i c)]) ?_
  refine pe_aload_n d_G_isWideAt_0 rfl ?_
  refine pe_iload_n d_G_isWideAt_1 rfl ?_
  refine pe_iload_n d_G_isWideAt_2 rfl ?_
  refine pe_v2p d_G_isWideAt_3 c_G_31 i_G_has s_G_has rfl rfl (t_G_has_18 (by omega) (by first | exact hB _ _ | exact ⟨by omega, by omega⟩) (by first | exact hB _ _ | exact ⟨by omega, by omega⟩)) (fun z3 hz3 => ?_)
  refine pe_if_eq (t := 28) d_G_isWideAt_6 (by first | exact hB _ _ | exact ⟨by omega, by omega⟩) (fun h6 => ?_) (fun h6 => ?_)
  · skip
    refine pe_iconst d_G_isWideAt_28 ?_
    refine pe_rz d_G_isWideAt_29 (by first | exact Or.inl rfl | exact Or.inr rfl | omega) ?_
    exact ⟨rfl, by (try dsimp only); omega⟩
  · skip
    refine pe_aload_n d_G_isWideAt_9 rfl ?_
    refine pe_iload_n d_G_isWideAt_10 rfl ?_
    refine pe_iload_n d_G_isWideAt_11 rfl ?_
    refine pe_v2p d_G_isWideAt_12 c_G_35 i_G_clusterAt s_G_clusterAt rfl rfl (t_G_clusterAt_18 hB (by omega) (by first | exact hB _ _ | exact ⟨by omega, by omega⟩) (by first | exact hB _ _ | exact ⟨by omega, by omega⟩)) (fun z12 hz12 => ?_)
    refine pe_s1p d_G_isWideAt_15 c_G_42 z_C_characterOf (t_C_characterOf (by first | exact hB _ _ | exact ⟨by omega, by omega⟩)) (fun z15 hz15 => ?_)
    have hT15 : -65536 < z15 ∧ z15 < 65536 := by rw [hz15]; exact pe_tm _ (by omega)
    refine pe_s1p d_G_isWideAt_18 c_G_48 z_C_isWide (t_C_isWide (by first | exact hB _ _ | exact ⟨by omega, by omega⟩)) (fun z18 hz18 => ?_)
    refine pe_if_eq (t := 28) d_G_isWideAt_21 (by first | exact hB _ _ | exact ⟨by omega, by omega⟩) (fun h21 => ?_) (fun h21 => ?_)
    · skip
      refine pe_iconst d_G_isWideAt_28 ?_
      refine pe_rz d_G_isWideAt_29 (by first | exact Or.inl rfl | exact Or.inr rfl | omega) ?_
      exact ⟨rfl, by (try dsimp only); omega⟩
    · skip
      refine pe_iconst d_G_isWideAt_24 ?_
      refine pe_goto (t := 29) d_G_isWideAt_25 ?_
      refine pe_rz d_G_isWideAt_29 (by first | exact Or.inl rfl | exact Or.inr rfl | omega) ?_
      exact ⟨rfl, by (try dsimp only); omega⟩
theorem t_G_blankFrom_18 {σ : pe_H} {r c : Int} (hB : pe_B σ) (hd : 1 ≤ σ 18 2 ∧ σ 18 2 ≤ 24 ∧ 1 ≤ σ 18 3 ∧ σ 18 3 ≤ 8) (hr : -100 ≤ r ∧ r ≤ 100) (hc : -100 ≤ c ∧ c ≤ 100) : pe_M m_G_blankFrom [pe_r 18, pe_i r, pe_i c] σ (pe_qv (fun σ' => pe_B σ' ∧ ∀ b, b ∉ [19, 20] → σ' b = σ b)) := by
  refine pe_in0 (lv := [some (pe_r 18), some (pe_i r), some (pe_i c), none]) ?_
  have J2 : ∀ fs : Int × pe_H, ((-100 ≤ fs.1 ∧ fs.1 ≤ 200) ∧ pe_B fs.2 ∧ ∀ b, b ∉ [19, 20] → fs.2 b = σ b) → pe_G m_G_blankFrom 2 [some (pe_r 18), some (pe_i r), some (pe_i c), some (pe_i fs.1)] [] fs.2 (pe_qv (fun σ' => pe_B σ' ∧ ∀ b, b ∉ [19, 20] → σ' b = σ b)) := by
    refine pe_loop (fun fs : Int × pe_H => (300 - fs.1).toNat) _ _ ?_
    intro fs hI ih
    obtain ⟨f, τ⟩ := fs
    dsimp only at hI ⊢
    obtain ⟨hI1, hB, hfr⟩ := hI
    rw [← hfr 18 (by decide)] at hd
    refine pe_iload_n d_G_blankFrom_2 rfl ?_
    refine pe_aload_n d_G_blankFrom_3 rfl ?_
    refine pe_geti f_G_18 d_G_blankFrom_4 rfl rfl 2 rfl ?_
    refine pe_icmp_ge (t := 25) d_G_blankFrom_7 (by first | exact hB _ _ | exact ⟨by omega, by omega⟩) (by first | exact hB _ _ | exact ⟨by omega, by omega⟩) (fun h7 => ?_) (fun h7 => ?_)
    · skip
      refine pe_rv d_G_blankFrom_25 ?_
      exact ⟨hB, hfr⟩
    · skip
      refine pe_aload_n d_G_blankFrom_10 rfl ?_
      refine pe_iload_n d_G_blankFrom_11 rfl ?_
      refine pe_iload_n d_G_blankFrom_12 rfl ?_
      refine pe_bipush d_G_blankFrom_13 ?_
      refine pe_iconst d_G_blankFrom_15 ?_
      refine pe_v4v d_G_blankFrom_16 c_G_52 i_G_put s_G_put rfl rfl (t_G_put_18 hB (by omega) (by first | exact hB _ _ | exact ⟨by omega, by omega⟩) (by first | exact hB _ _ | exact ⟨by omega, by omega⟩) (by first | exact hB _ _ | exact ⟨by omega, by omega⟩) (by first | exact hB _ _ | exact ⟨by omega, by omega⟩)) (fun σ16 hz16 => ?_)
      obtain ⟨hB, f16⟩ := hz16
      try have u16_0 : σ16 18 2 = τ 18 2 := by first | exact o16 2 (by decide) | exact congrFun (f16 18 (by decide)) 2
      try have u16_1 : σ16 18 3 = τ 18 3 := by first | exact o16 3 (by decide) | exact congrFun (f16 18 (by decide)) 3
      refine pe_iinc d_G_blankFrom_19 rfl ?_
      refine pe_goto (t := 2) d_G_blankFrom_22 ?_
      exact ih (_, _) ⟨by (try dsimp only); omega, hB, (fun b hb => (f16 b (by simp at hb ⊢; try omega)).trans (hfr b hb))⟩ (by (try dsimp only); omega)
  refine pe_iload_n d_G_blankFrom_0 rfl ?_
  refine pe_istore_n d_G_blankFrom_1 ?_
  exact J2 (_, _) ⟨by (try dsimp only); omega, hB, fun _ _ => rfl⟩
theorem t_A_fill_19 {σ : pe_H} {v : Int} (hB : pe_B σ) (hv : pe_R v) : pe_M m_A_fill [pe_r 19, pe_i v] σ (pe_qv (fun σ' => pe_B σ' ∧ ∀ b, b ∉ [19] → σ' b = σ b)) := by
  refine pe_in0 (lv := [some (pe_r 19), some (pe_i v), none, none]) ?_
  have J5 : ∀ fs : Int × pe_H, ((0 ≤ fs.1 ∧ fs.1 ≤ 192) ∧ pe_B fs.2 ∧ ∀ b, b ∉ [19] → fs.2 b = σ b) → pe_G m_A_fill 5 [some (pe_r 19), some (pe_i v), some (pe_i fs.1), some (pe_i 192)] [] fs.2 (pe_qv (fun σ' => pe_B σ' ∧ ∀ b, b ∉ [19] → σ' b = σ b)) := by
    refine pe_loop (fun fs : Int × pe_H => (300 - fs.1).toNat) _ _ ?_
    intro fs hI ih
    obtain ⟨f, τ⟩ := fs
    dsimp only at hI ⊢
    obtain ⟨hI1, hB, hfr⟩ := hI
    refine pe_iload_n d_A_fill_5 rfl ?_
    refine pe_iload_n d_A_fill_6 rfl ?_
    refine pe_icmp_ge (t := 20) d_A_fill_7 (by first | exact hB _ _ | exact ⟨by omega, by omega⟩) (by first | exact hB _ _ | exact ⟨by omega, by omega⟩) (fun h7 => ?_) (fun h7 => ?_)
    · skip
      refine pe_rv d_A_fill_20 ?_
      exact ⟨hB, hfr⟩
    · skip
      refine pe_aload_n d_A_fill_10 rfl ?_
      refine pe_iload_n d_A_fill_11 rfl ?_
      refine pe_iload_n d_A_fill_12 rfl ?_
      refine pe_iastT d_A_fill_13 rfl (by omega) (by omega) hB (by first | exact hB _ _ | exact ⟨by omega, by omega⟩) (fun σ13 hB e13 o13 f13 => ?_)
      refine pe_iinc d_A_fill_14 rfl ?_
      refine pe_goto (t := 5) d_A_fill_17 ?_
      exact ih (_, _) ⟨by (try dsimp only); omega, hB, (fun b hb => (f13 b (by simp at hb ⊢; try omega)).trans (hfr b hb))⟩ (by (try dsimp only); omega)
  refine pe_iconst d_A_fill_0 ?_
  refine pe_istore_n d_A_fill_1 ?_
  refine pe_aload_n d_A_fill_2 rfl ?_
  refine pe_alen (t0 := 0) d_A_fill_3 rfl (fun _ => rfl) ?_
  refine pe_istore_n d_A_fill_4 ?_
  exact J5 (_, _) ⟨by (try dsimp only); omega, hB, fun _ _ => rfl⟩
theorem t_A_fill_20 {σ : pe_H} {v : Int} (hB : pe_B σ) (hv : pe_R v) : pe_M m_A_fill [pe_r 20, pe_i v] σ (pe_qv (fun σ' => pe_B σ' ∧ ∀ b, b ∉ [20] → σ' b = σ b)) := by
  refine pe_in0 (lv := [some (pe_r 20), some (pe_i v), none, none]) ?_
  have J5 : ∀ fs : Int × pe_H, ((0 ≤ fs.1 ∧ fs.1 ≤ 192) ∧ pe_B fs.2 ∧ ∀ b, b ∉ [20] → fs.2 b = σ b) → pe_G m_A_fill 5 [some (pe_r 20), some (pe_i v), some (pe_i fs.1), some (pe_i 192)] [] fs.2 (pe_qv (fun σ' => pe_B σ' ∧ ∀ b, b ∉ [20] → σ' b = σ b)) := by
    refine pe_loop (fun fs : Int × pe_H => (300 - fs.1).toNat) _ _ ?_
    intro fs hI ih
    obtain ⟨f, τ⟩ := fs
    dsimp only at hI ⊢
    obtain ⟨hI1, hB, hfr⟩ := hI
    refine pe_iload_n d_A_fill_5 rfl ?_
    refine pe_iload_n d_A_fill_6 rfl ?_
    refine pe_icmp_ge (t := 20) d_A_fill_7 (by first | exact hB _ _ | exact ⟨by omega, by omega⟩) (by first | exact hB _ _ | exact ⟨by omega, by omega⟩) (fun h7 => ?_) (fun h7 => ?_)
    · skip
      refine pe_rv d_A_fill_20 ?_
      exact ⟨hB, hfr⟩
    · skip
      refine pe_aload_n d_A_fill_10 rfl ?_
      refine pe_iload_n d_A_fill_11 rfl ?_
      refine pe_iload_n d_A_fill_12 rfl ?_
      refine pe_iastT d_A_fill_13 rfl (by omega) (by omega) hB (by first | exact hB _ _ | exact ⟨by omega, by omega⟩) (fun σ13 hB e13 o13 f13 => ?_)
      refine pe_iinc d_A_fill_14 rfl ?_
      refine pe_goto (t := 5) d_A_fill_17 ?_
      exact ih (_, _) ⟨by (try dsimp only); omega, hB, (fun b hb => (f13 b (by simp at hb ⊢; try omega)).trans (hfr b hb))⟩ (by (try dsimp only); omega)
  refine pe_iconst d_A_fill_0 ?_
  refine pe_istore_n d_A_fill_1 ?_
  refine pe_aload_n d_A_fill_2 rfl ?_
  refine pe_alen (t0 := 0) d_A_fill_3 rfl (fun _ => rfl) ?_
  refine pe_istore_n d_A_fill_4 ?_
  exact J5 (_, _) ⟨by (try dsimp only); omega, hB, fun _ _ => rfl⟩
theorem t_G_blankAll_18 {σ : pe_H} (hB : pe_B σ) : pe_M m_G_blankAll [pe_r 18] σ (pe_qv (fun σ' => pe_B σ' ∧ ∀ b, b ∉ [19, 20] → σ' b = σ b)) := by
  refine pe_in0 (lv := [some (pe_r 18)]) ?_
  refine pe_aload_n d_G_blankAll_0 rfl ?_
  refine pe_getr f_G_9 d_G_blankAll_1 rfl rfl ?_
  refine pe_bipush d_G_blankAll_4 ?_
  refine pe_s2v d_G_blankAll_6 c_G_25 z_A_fill (t_A_fill_19 hB (by first | exact hB _ _ | exact ⟨by omega, by omega⟩)) (fun σ6 hz6 => ?_)
  obtain ⟨hB, f6⟩ := hz6
  refine pe_aload_n d_G_blankAll_9 rfl ?_
  refine pe_getr f_G_15 d_G_blankAll_10 rfl rfl ?_
  refine pe_iconst d_G_blankAll_13 ?_
  refine pe_s2v d_G_blankAll_14 c_G_25 z_A_fill (t_A_fill_20 hB (by first | exact hB _ _ | exact ⟨by omega, by omega⟩)) (fun σ14 hz14 => ?_)
  obtain ⟨hB, f14⟩ := hz14
  refine pe_rv d_G_blankAll_17 ?_
  exact ⟨hB, (fun b hb => (f14 b (by simp at hb ⊢; try omega)).trans ((f6 b (by simp at hb ⊢; try omega)).trans (rfl)))⟩
theorem t_G_resize_18 {σ : pe_H} {r c : Int} (hB : pe_B σ) (hd : 1 ≤ σ 18 2 ∧ σ 18 2 ≤ 24 ∧ 1 ≤ σ 18 3 ∧ σ 18 3 ≤ 8) (hc : 1 ≤ c ∧ c ≤ 24) (hr : 1 ≤ r ∧ r ≤ 8) : pe_M m_G_resize [pe_r 18, pe_i c, pe_i r] σ (pe_qv (fun σ' => pe_B σ' ∧ (∀ b, b ∉ [18, 19, 20] → σ' b = σ b) ∧ σ' 18 2 = c ∧ σ' 18 3 = r)) := by
  refine pe_in0 (lv := [some (pe_r 18), some (pe_i c), some (pe_i r), none]) ?_
  have J2 : ∀ fs : Int × pe_H, ((0 ≤ fs.1 ∧ fs.1 ≤ 8) ∧ pe_B fs.2 ∧ ∀ b, b ∉ [19, 20] → fs.2 b = σ b) → pe_G m_G_resize 2 [some (pe_r 18), some (pe_i c), some (pe_i r), some (pe_i fs.1)] [] fs.2 (pe_qv (fun σ' => pe_B σ' ∧ (∀ b, b ∉ [18, 19, 20] → σ' b = σ b) ∧ σ' 18 2 = c ∧ σ' 18 3 = r)) := by
    refine pe_loop (fun fs : Int × pe_H => (300 - fs.1).toNat) _ _ ?_
    intro fs hI ih
    obtain ⟨f, τ⟩ := fs
    dsimp only at hI ⊢
    obtain ⟨hI1, hB, hfr⟩ := hI
    rw [← hfr 18 (by decide)] at hd
    refine pe_iload_n d_G_resize_2 rfl ?_
    refine pe_aload_n d_G_resize_3 rfl ?_
    refine pe_geti f_G_22 d_G_resize_4 rfl rfl 3 rfl ?_
    refine pe_icmp_ge (t := 53) d_G_resize_7 (by first | exact hB _ _ | exact ⟨by omega, by omega⟩) (by first | exact hB _ _ | exact ⟨by omega, by omega⟩) (fun h7 => ?_) (fun h7 => ?_)
    · skip
      refine pe_aload_n d_G_resize_53 rfl ?_
      refine pe_iload_n d_G_resize_54 rfl ?_
      refine pe_putiT f_G_18 g_7_2 d_G_resize_55 rfl rfl 2 rfl hB (by first | exact hB _ _ | exact ⟨by omega, by omega⟩) (fun σ55 hB e55 o55 f55 => ?_)
      try have u55_0 : σ55 18 2 = τ 18 2 := by first | exact o55 2 (by decide) | exact congrFun (f55 18 (by decide)) 2
      try have u55_1 : σ55 18 3 = τ 18 3 := by first | exact o55 3 (by decide) | exact congrFun (f55 18 (by decide)) 3
      refine pe_aload_n d_G_resize_58 rfl ?_
      refine pe_iload_n d_G_resize_59 rfl ?_
      refine pe_putiT f_G_22 g_7_3 d_G_resize_60 rfl rfl 3 rfl hB (by first | exact hB _ _ | exact ⟨by omega, by omega⟩) (fun σ60 hB e60 o60 f60 => ?_)
      try have u60_0 : σ60 18 2 = σ55 18 2 := by first | exact o60 2 (by decide) | exact congrFun (f60 18 (by decide)) 2
      try have u60_1 : σ60 18 3 = σ55 18 3 := by first | exact o60 3 (by decide) | exact congrFun (f60 18 (by decide)) 3
      refine pe_rv d_G_resize_63 ?_
      exact ⟨hB, (fun b hb => (f60 b (by simp at hb ⊢; try omega)).trans ((f55 b (by simp at hb ⊢; try omega)).trans (hfr b (by simp at hb ⊢; try omega)))), by omega, by omega⟩
    · skip
      refine pe_aload_n d_G_resize_10 rfl ?_
      refine pe_iload_n d_G_resize_11 rfl ?_
      refine pe_iload_n d_G_resize_12 rfl ?_
      refine pe_iload_n d_G_resize_13 rfl ?_
      refine pe_icmp_ge (t := 21) d_G_resize_14 (by first | exact hB _ _ | exact ⟨by omega, by omega⟩) (by first | exact hB _ _ | exact ⟨by omega, by omega⟩) (fun h14 => ?_) (fun h14 => ?_)
      · skip
        refine pe_iconst d_G_resize_21 ?_
        refine pe_v2v d_G_resize_22 c_G_56 i_G_blankFrom s_G_blankFrom rfl rfl (t_G_blankFrom_18 hB (by omega) (by omega) (by omega)) (fun σ22 hz22 => ?_)
        obtain ⟨hB, f22⟩ := hz22
        try have u22_0 : σ22 18 2 = τ 18 2 := by first | exact o22 2 (by decide) | exact congrFun (f22 18 (by decide)) 2
        try have u22_1 : σ22 18 3 = τ 18 3 := by first | exact o22 3 (by decide) | exact congrFun (f22 18 (by decide)) 3
        have hd : 1 ≤ σ22 18 2 ∧ σ22 18 2 ≤ 24 ∧ 1 ≤ σ22 18 3 ∧ σ22 18 3 ≤ 8 := by omega
        refine pe_aload_n d_G_resize_25 rfl ?_
        refine pe_iload_n d_G_resize_26 rfl ?_
        refine pe_iload_n d_G_resize_27 rfl ?_
        refine pe_iconst d_G_resize_28 ?_
        refine pe_isub d_G_resize_29 ?_
        refine pe_v2p d_G_resize_30 c_G_60 i_G_isWideAt s_G_isWideAt rfl rfl (t_G_isWideAt_18 hB (by omega) (by first | exact hB _ _ | exact ⟨by omega, by omega⟩) (by first | exact hB _ _ | exact ⟨by omega, by omega⟩)) (fun z30 hz30 => ?_)
        refine pe_if_eq (t := 47) d_G_resize_33 (by first | exact hB _ _ | exact ⟨by omega, by omega⟩) (fun h33 => ?_) (fun h33 => ?_)
        · skip
          refine pe_iinc d_G_resize_47 rfl ?_
          refine pe_goto (t := 2) d_G_resize_50 ?_
          exact ih (_, _) ⟨by (try dsimp only); omega, hB, (fun b hb => (f22 b (by simp at hb ⊢; try omega)).trans (hfr b (by simp at hb ⊢; try omega)))⟩ (by (try dsimp only); omega)
        · skip
          refine pe_aload_n d_G_resize_36 rfl ?_
          refine pe_iload_n d_G_resize_37 rfl ?_
          refine pe_iload_n d_G_resize_38 rfl ?_
          refine pe_iconst d_G_resize_39 ?_
          refine pe_isub d_G_resize_40 ?_
          refine pe_bipush d_G_resize_41 ?_
          refine pe_iconst d_G_resize_43 ?_
          refine pe_v4v d_G_resize_44 c_G_52 i_G_put s_G_put rfl rfl (t_G_put_18 hB (by omega) (by first | exact hB _ _ | exact ⟨by omega, by omega⟩) (by first | exact hB _ _ | exact ⟨by omega, by omega⟩) (by first | exact hB _ _ | exact ⟨by omega, by omega⟩) (by first | exact hB _ _ | exact ⟨by omega, by omega⟩)) (fun σ44 hz44 => ?_)
          obtain ⟨hB, f44⟩ := hz44
          try have u44_0 : σ44 18 2 = σ22 18 2 := by first | exact o44 2 (by decide) | exact congrFun (f44 18 (by decide)) 2
          try have u44_1 : σ44 18 3 = σ22 18 3 := by first | exact o44 3 (by decide) | exact congrFun (f44 18 (by decide)) 3
          refine pe_iinc d_G_resize_47 rfl ?_
          refine pe_goto (t := 2) d_G_resize_50 ?_
          exact ih (_, _) ⟨by (try dsimp only); omega, hB, (fun b hb => (f44 b (by simp at hb ⊢; try omega)).trans ((f22 b (by simp at hb ⊢; try omega)).trans (hfr b (by simp at hb ⊢; try omega))))⟩ (by (try dsimp only); omega)
      · skip
        refine pe_iload_n d_G_resize_17 rfl ?_
        refine pe_goto (t := 22) d_G_resize_18 ?_
        refine pe_v2v d_G_resize_22 c_G_56 i_G_blankFrom s_G_blankFrom rfl rfl (t_G_blankFrom_18 hB (by omega) (by omega) (by omega)) (fun σ22 hz22 => ?_)
        obtain ⟨hB, f22⟩ := hz22
        try have u22_0 : σ22 18 2 = τ 18 2 := by first | exact o22 2 (by decide) | exact congrFun (f22 18 (by decide)) 2
        try have u22_1 : σ22 18 3 = τ 18 3 := by first | exact o22 3 (by decide) | exact congrFun (f22 18 (by decide)) 3
        have hd : 1 ≤ σ22 18 2 ∧ σ22 18 2 ≤ 24 ∧ 1 ≤ σ22 18 3 ∧ σ22 18 3 ≤ 8 := by omega
        refine pe_aload_n d_G_resize_25 rfl ?_
        refine pe_iload_n d_G_resize_26 rfl ?_
        refine pe_iload_n d_G_resize_27 rfl ?_
        refine pe_iconst d_G_resize_28 ?_
        refine pe_isub d_G_resize_29 ?_
        refine pe_v2p d_G_resize_30 c_G_60 i_G_isWideAt s_G_isWideAt rfl rfl (t_G_isWideAt_18 hB (by omega) (by first | exact hB _ _ | exact ⟨by omega, by omega⟩) (by first | exact hB _ _ | exact ⟨by omega, by omega⟩)) (fun z30 hz30 => ?_)
        refine pe_if_eq (t := 47) d_G_resize_33 (by first | exact hB _ _ | exact ⟨by omega, by omega⟩) (fun h33 => ?_) (fun h33 => ?_)
        · skip
          refine pe_iinc d_G_resize_47 rfl ?_
          refine pe_goto (t := 2) d_G_resize_50 ?_
          exact ih (_, _) ⟨by (try dsimp only); omega, hB, (fun b hb => (f22 b (by simp at hb ⊢; try omega)).trans (hfr b (by simp at hb ⊢; try omega)))⟩ (by (try dsimp only); omega)
        · skip
          refine pe_aload_n d_G_resize_36 rfl ?_
          refine pe_iload_n d_G_resize_37 rfl ?_
          refine pe_iload_n d_G_resize_38 rfl ?_
          refine pe_iconst d_G_resize_39 ?_
          refine pe_isub d_G_resize_40 ?_
          refine pe_bipush d_G_resize_41 ?_
          refine pe_iconst d_G_resize_43 ?_
          refine pe_v4v d_G_resize_44 c_G_52 i_G_put s_G_put rfl rfl (t_G_put_18 hB (by omega) (by first | exact hB _ _ | exact ⟨by omega, by omega⟩) (by first | exact hB _ _ | exact ⟨by omega, by omega⟩) (by first | exact hB _ _ | exact ⟨by omega, by omega⟩) (by first | exact hB _ _ | exact ⟨by omega, by omega⟩)) (fun σ44 hz44 => ?_)
          obtain ⟨hB, f44⟩ := hz44
          try have u44_0 : σ44 18 2 = σ22 18 2 := by first | exact o44 2 (by decide) | exact congrFun (f44 18 (by decide)) 2
          try have u44_1 : σ44 18 3 = σ22 18 3 := by first | exact o44 3 (by decide) | exact congrFun (f44 18 (by decide)) 3
          refine pe_iinc d_G_resize_47 rfl ?_
          refine pe_goto (t := 2) d_G_resize_50 ?_
          exact ih (_, _) ⟨by (try dsimp only); omega, hB, (fun b hb => (f44 b (by simp at hb ⊢; try omega)).trans ((f22 b (by simp at hb ⊢; try omega)).trans (hfr b (by simp at hb ⊢; try omega))))⟩ (by (try dsimp only); omega)
  refine pe_iconst d_G_resize_0 ?_
  refine pe_istore_n d_G_resize_1 ?_
  exact J2 (_, _) ⟨by (try dsimp only); omega, hB, fun _ _ => rfl⟩
theorem t_G_has_25 {σ : pe_H} {r c : Int} (hd : 1 ≤ σ 25 2 ∧ σ 25 2 ≤ 24 ∧ 1 ≤ σ 25 3 ∧ σ 25 3 ≤ 8) (hr : pe_R r) (hc : pe_R c) : pe_M m_G_has [pe_r 25, pe_i r, pe_i c] σ (pe_qp σ (fun z => (z = 0 ∨ z = 1) ∧ (z = 1 ↔ 0 ≤ r ∧ r < σ 25 3 ∧ 0 ≤ c ∧ c < σ 25 2))) := by
  refine pe_in0 (lv := [some (pe_r 25), some (pe_i r), some (pe_i c)]) ?_
  refine pe_iload_n d_G_has_0 rfl ?_
  refine pe_if_lt (t := 28) d_G_has_1 (by first | exact hB _ _ | exact ⟨by omega, by omega⟩) (fun h1 => ?_) (fun h1 => ?_)
  · skip
    refine pe_iconst d_G_has_28 ?_
    refine pe_rz d_G_has_29 (by first | exact Or.inl rfl | exact Or.inr rfl | omega) ?_
    exact ⟨rfl, by (try dsimp only); omega⟩
  · skip
    refine pe_iload_n d_G_has_4 rfl ?_
    refine pe_aload_n d_G_has_5 rfl ?_
    refine pe_geti f_G_22 d_G_has_6 rfl rfl 3 rfl ?_
    refine pe_icmp_ge (t := 28) d_G_has_9 (by first | exact hB _ _ | exact ⟨by omega, by omega⟩) (by first | exact hB _ _ | exact ⟨by omega, by omega⟩) (fun h9 => ?_) (fun h9 => ?_)
    · skip
      refine pe_iconst d_G_has_28 ?_
      refine pe_rz d_G_has_29 (by first | exact Or.inl rfl | exact Or.inr rfl | omega) ?_
      exact ⟨rfl, by (try dsimp only); omega⟩
    · skip
      refine pe_iload_n d_G_has_12 rfl ?_
      refine pe_if_lt (t := 28) d_G_has_13 (by first | exact hB _ _ | exact ⟨by omega, by omega⟩) (fun h13 => ?_) (fun h13 => ?_)
      · skip
        refine pe_iconst d_G_has_28 ?_
        refine pe_rz d_G_has_29 (by first | exact Or.inl rfl | exact Or.inr rfl | omega) ?_
        exact ⟨rfl, by (try dsimp only); omega⟩
      · skip
        refine pe_iload_n d_G_has_16 rfl ?_
        refine pe_aload_n d_G_has_17 rfl ?_
        refine pe_geti f_G_18 d_G_has_18 rfl rfl 2 rfl ?_
        refine pe_icmp_ge (t := 28) d_G_has_21 (by first | exact hB _ _ | exact ⟨by omega, by omega⟩) (by first | exact hB _ _ | exact ⟨by omega, by omega⟩) (fun h21 => ?_) (fun h21 => ?_)
        · skip
          refine pe_iconst d_G_has_28 ?_
          refine pe_rz d_G_has_29 (by first | exact Or.inl rfl | exact Or.inr rfl | omega) ?_
          exact ⟨rfl, by (try dsimp only); omega⟩
        · skip
          refine pe_iconst d_G_has_24 ?_
          refine pe_goto (t := 29) d_G_has_25 ?_
          refine pe_rz d_G_has_29 (by first | exact Or.inl rfl | exact Or.inr rfl | omega) ?_
          exact ⟨rfl, by (try dsimp only); omega⟩
theorem t_G_clusterAt_25 {σ : pe_H} {r c : Int} (hB : pe_B σ) (hd : 1 ≤ σ 25 2 ∧ σ 25 2 ≤ 24 ∧ 1 ≤ σ 25 3 ∧ σ 25 3 ≤ 8) (hr : pe_R r) (hc : pe_R c) : pe_M m_G_clusterAt [pe_r 25, pe_i r, pe_i c] σ (pe_qp σ (fun z => pe_R z)) := by
  refine pe_in0 (lv := [some (pe_r 25), some (pe_i r), some (pe_i c)]) ?_
  refine pe_aload_n d_G_clusterAt_0 rfl ?_
  refine pe_iload_n d_G_clusterAt_1 rfl ?_
  refine pe_iload_n d_G_clusterAt_2 rfl ?_
  refine pe_v2p d_G_clusterAt_3 c_G_31 i_G_has s_G_has rfl rfl (t_G_has_25 (by omega) (by first | exact hB _ _ | exact ⟨by omega, by omega⟩) (by first | exact hB _ _ | exact ⟨by omega, by omega⟩)) (fun z3 hz3 => ?_)
  refine pe_if_eq (t := 23) d_G_clusterAt_6 (by first | exact hB _ _ | exact ⟨by omega, by omega⟩) (fun h6 => ?_) (fun h6 => ?_)
  · skip
    refine pe_iconst d_G_clusterAt_23 ?_
    refine pe_ri d_G_clusterAt_24 ?_
    exact ⟨rfl, by first | exact hB _ _ | exact ⟨by omega, by omega⟩⟩
  · skip
    refine pe_aload_n d_G_clusterAt_9 rfl ?_
    refine pe_getr f_G_9 d_G_clusterAt_10 rfl rfl ?_
    refine pe_iload_n d_G_clusterAt_13 rfl ?_
    refine pe_bipush d_G_clusterAt_14 ?_
    refine pe_imul d_G_clusterAt_16 ?_
    refine pe_iload_n d_G_clusterAt_17 rfl ?_
    refine pe_iadd d_G_clusterAt_18 ?_
    refine pe_iald d_G_clusterAt_19 rfl (by omega) (by omega) ?_
    refine pe_goto (t := 24) d_G_clusterAt_20 ?_
    refine pe_ri d_G_clusterAt_24 ?_
    exact ⟨rfl, by first | exact hB _ _ | exact ⟨by omega, by omega⟩⟩
theorem t_G_lookAt_25 {σ : pe_H} {r c : Int} (hB : pe_B σ) (hd : 1 ≤ σ 25 2 ∧ σ 25 2 ≤ 24 ∧ 1 ≤ σ 25 3 ∧ σ 25 3 ≤ 8) (hr : pe_R r) (hc : pe_R c) : pe_M m_G_lookAt [pe_r 25, pe_i r, pe_i c] σ (pe_qp σ (fun z => pe_R z)) := by
  refine pe_in0 (lv := [some (pe_r 25), some (pe_i r), some (pe_i c)]) ?_
  refine pe_aload_n d_G_lookAt_0 rfl ?_
  refine pe_iload_n d_G_lookAt_1 rfl ?_
  refine pe_iload_n d_G_lookAt_2 rfl ?_
  refine pe_v2p d_G_lookAt_3 c_G_31 i_G_has s_G_has rfl rfl (t_G_has_25 (by omega) (by first | exact hB _ _ | exact ⟨by omega, by omega⟩) (by first | exact hB _ _ | exact ⟨by omega, by omega⟩)) (fun z3 hz3 => ?_)
  refine pe_if_eq (t := 23) d_G_lookAt_6 (by first | exact hB _ _ | exact ⟨by omega, by omega⟩) (fun h6 => ?_) (fun h6 => ?_)
  · skip
    refine pe_iconst d_G_lookAt_23 ?_
    refine pe_ri d_G_lookAt_24 ?_
    exact ⟨rfl, by first | exact hB _ _ | exact ⟨by omega, by omega⟩⟩
  · skip
    refine pe_aload_n d_G_lookAt_9 rfl ?_
    refine pe_getr f_G_15 d_G_lookAt_10 rfl rfl ?_
    refine pe_iload_n d_G_lookAt_13 rfl ?_
    refine pe_bipush d_G_lookAt_14 ?_
    refine pe_imul d_G_lookAt_16 ?_
    refine pe_iload_n d_G_lookAt_17 rfl ?_
    refine pe_iadd d_G_lookAt_18 ?_
    refine pe_iald d_G_lookAt_19 rfl (by omega) (by omega) ?_
    refine pe_goto (t := 24) d_G_lookAt_20 ?_
    refine pe_ri d_G_lookAt_24 ?_
    exact ⟨rfl, by first | exact hB _ _ | exact ⟨by omega, by omega⟩⟩
theorem t_G_put_25 {σ : pe_H} {r c u w : Int} (hB : pe_B σ) (hd : 1 ≤ σ 25 2 ∧ σ 25 2 ≤ 24 ∧ 1 ≤ σ 25 3 ∧ σ 25 3 ≤ 8) (hr : pe_R r) (hc : pe_R c) (hu : pe_R u) (hw : pe_R w) : pe_M m_G_put [pe_r 25, pe_i r, pe_i c, pe_i u, pe_i w] σ (pe_qv (fun σ' => pe_B σ' ∧ ∀ b, b ∉ [26, 27] → σ' b = σ b)) := by
  refine pe_in0 (lv := [some (pe_r 25), some (pe_i r), some (pe_i c), some (pe_i u), some (pe_i w)]) ?_
  refine pe_aload_n d_G_put_0 rfl ?_
  refine pe_iload_n d_G_put_1 rfl ?_
  refine pe_iload_n d_G_put_2 rfl ?_
  refine pe_v2p d_G_put_3 c_G_31 i_G_has s_G_has rfl rfl (t_G_has_25 (by omega) (by first | exact hB _ _ | exact ⟨by omega, by omega⟩) (by first | exact hB _ _ | exact ⟨by omega, by omega⟩)) (fun z3 hz3 => ?_)
  refine pe_if_eq (t := 34) d_G_put_6 (by first | exact hB _ _ | exact ⟨by omega, by omega⟩) (fun h6 => ?_) (fun h6 => ?_)
  · skip
    refine pe_rv d_G_put_34 ?_
    exact ⟨hB, (fun b hb => rfl)⟩
  · skip
    refine pe_aload_n d_G_put_9 rfl ?_
    refine pe_getr f_G_9 d_G_put_10 rfl rfl ?_
    refine pe_iload_n d_G_put_13 rfl ?_
    refine pe_bipush d_G_put_14 ?_
    refine pe_imul d_G_put_16 ?_
    refine pe_iload_n d_G_put_17 rfl ?_
    refine pe_iadd d_G_put_18 ?_
    refine pe_iload_n d_G_put_19 rfl ?_
    refine pe_iastT d_G_put_20 rfl (by omega) (by omega) hB (by first | exact hB _ _ | exact ⟨by omega, by omega⟩) (fun σ20 hB e20 o20 f20 => ?_)
    refine pe_aload_n d_G_put_21 rfl ?_
    refine pe_getr f_G_15 d_G_put_22 rfl rfl ?_
    refine pe_iload_n d_G_put_25 rfl ?_
    refine pe_bipush d_G_put_26 ?_
    refine pe_imul d_G_put_28 ?_
    refine pe_iload_n d_G_put_29 rfl ?_
    refine pe_iadd d_G_put_30 ?_
    refine pe_iload d_G_put_31 rfl ?_
    refine pe_iastT d_G_put_33 rfl (by omega) (by omega) hB (by first | exact hB _ _ | exact ⟨by omega, by omega⟩) (fun σ33 hB e33 o33 f33 => ?_)
    refine pe_rv d_G_put_34 ?_
    exact ⟨hB, (fun b hb => (f33 b (by simp at hb ⊢; try omega)).trans ((f20 b (by simp at hb ⊢; try omega)).trans (rfl)))⟩
theorem t_G_isBlank_25 {σ : pe_H} {r c : Int} (hB : pe_B σ) (hd : 1 ≤ σ 25 2 ∧ σ 25 2 ≤ 24 ∧ 1 ≤ σ 25 3 ∧ σ 25 3 ≤ 8) (hr : pe_R r) (hc : pe_R c) : pe_M m_G_isBlank [pe_r 25, pe_i r, pe_i c] σ (pe_qp σ (fun z => z = 0 ∨ z = 1)) := by
  refine pe_in0 (lv := [some (pe_r 25), some (pe_i r), some (pe_i c)]) ?_
  refine pe_aload_n d_G_isBlank_0 rfl ?_
  refine pe_iload_n d_G_isBlank_1 rfl ?_
  refine pe_iload_n d_G_isBlank_2 rfl ?_
  refine pe_v2p d_G_isBlank_3 c_G_35 i_G_clusterAt s_G_clusterAt rfl rfl (t_G_clusterAt_25 hB (by omega) (by first | exact hB _ _ | exact ⟨by omega, by omega⟩) (by first | exact hB _ _ | exact ⟨by omega, by omega⟩)) (fun z3 hz3 => ?_)
  refine pe_bipush d_G_isBlank_6 ?_
  refine pe_icmp_ne (t := 24) d_G_isBlank_8 (by first | exact hB _ _ | exact ⟨by omega, by omega⟩) (by first | exact hB _ _ | exact ⟨by omega, by omega⟩) (fun h8 => ?_) (fun h8 => ?_)
  · skip
    refine pe_iconst d_G_isBlank_24 ?_
    refine pe_rz d_G_isBlank_25 (by first | exact Or.inl rfl | exact Or.inr rfl | omega) ?_
    exact ⟨rfl, by (try dsimp only); omega⟩
  · skip
    refine pe_aload_n d_G_isBlank_11 rfl ?_
    refine pe_iload_n d_G_isBlank_12 rfl ?_
    refine pe_iload_n d_G_isBlank_13 rfl ?_
    refine pe_v2p d_G_isBlank_14 c_G_39 i_G_lookAt s_G_lookAt rfl rfl (t_G_lookAt_25 hB (by omega) (by first | exact hB _ _ | exact ⟨by omega, by omega⟩) (by first | exact hB _ _ | exact ⟨by omega, by omega⟩)) (fun z14 hz14 => ?_)
    refine pe_if_ne (t := 24) d_G_isBlank_17 (by first | exact hB _ _ | exact ⟨by omega, by omega⟩) (fun h17 => ?_) (fun h17 => ?_)
    · skip
      refine pe_iconst d_G_isBlank_24 ?_
      refine pe_rz d_G_isBlank_25 (by first | exact Or.inl rfl | exact Or.inr rfl | omega) ?_
      exact ⟨rfl, by (try dsimp only); omega⟩
    · skip
      refine pe_iconst d_G_isBlank_20 ?_
      refine pe_goto (t := 25) d_G_isBlank_21 ?_
      refine pe_rz d_G_isBlank_25 (by first | exact Or.inl rfl | exact Or.inr rfl | omega) ?_
      exact ⟨rfl, by (try dsimp only); omega⟩
theorem t_G_isWideAt_25 {σ : pe_H} {r c : Int} (hB : pe_B σ) (hd : 1 ≤ σ 25 2 ∧ σ 25 2 ≤ 24 ∧ 1 ≤ σ 25 3 ∧ σ 25 3 ≤ 8) (hr : pe_R r) (hc : pe_R c) : pe_M m_G_isWideAt [pe_r 25, pe_i r, pe_i c] σ (pe_qp σ (fun z => z = 0 ∨ z = 1)) := by
  refine pe_in0 (lv := [some (pe_r 25), some (pe_i r), some (pe_i c)]) ?_
  refine pe_aload_n d_G_isWideAt_0 rfl ?_
  refine pe_iload_n d_G_isWideAt_1 rfl ?_
  refine pe_iload_n d_G_isWideAt_2 rfl ?_
  refine pe_v2p d_G_isWideAt_3 c_G_31 i_G_has s_G_has rfl rfl (t_G_has_25 (by omega) (by first | exact hB _ _ | exact ⟨by omega, by omega⟩) (by first | exact hB _ _ | exact ⟨by omega, by omega⟩)) (fun z3 hz3 => ?_)
  refine pe_if_eq (t := 28) d_G_isWideAt_6 (by first | exact hB _ _ | exact ⟨by omega, by omega⟩) (fun h6 => ?_) (fun h6 => ?_)
  · skip
    refine pe_iconst d_G_isWideAt_28 ?_
    refine pe_rz d_G_isWideAt_29 (by first | exact Or.inl rfl | exact Or.inr rfl | omega) ?_
    exact ⟨rfl, by (try dsimp only); omega⟩
  · skip
    refine pe_aload_n d_G_isWideAt_9 rfl ?_
    refine pe_iload_n d_G_isWideAt_10 rfl ?_
    refine pe_iload_n d_G_isWideAt_11 rfl ?_
    refine pe_v2p d_G_isWideAt_12 c_G_35 i_G_clusterAt s_G_clusterAt rfl rfl (t_G_clusterAt_25 hB (by omega) (by first | exact hB _ _ | exact ⟨by omega, by omega⟩) (by first | exact hB _ _ | exact ⟨by omega, by omega⟩)) (fun z12 hz12 => ?_)
    refine pe_s1p d_G_isWideAt_15 c_G_42 z_C_characterOf (t_C_characterOf (by first | exact hB _ _ | exact ⟨by omega, by omega⟩)) (fun z15 hz15 => ?_)
    have hT15 : -65536 < z15 ∧ z15 < 65536 := by rw [hz15]; exact pe_tm _ (by omega)
    refine pe_s1p d_G_isWideAt_18 c_G_48 z_C_isWide (t_C_isWide (by first | exact hB _ _ | exact ⟨by omega, by omega⟩)) (fun z18 hz18 => ?_)
    refine pe_if_eq (t := 28) d_G_isWideAt_21 (by first | exact hB _ _ | exact ⟨by omega, by omega⟩) (fun h21 => ?_) (fun h21 => ?_)
    · skip
      refine pe_iconst d_G_isWideAt_28 ?_
      refine pe_rz d_G_isWideAt_29 (by first | exact Or.inl rfl | exact Or.inr rfl | omega) ?_
      exact ⟨rfl, by (try dsimp only); omega⟩
    · skip
      refine pe_iconst d_G_isWideAt_24 ?_
      refine pe_goto (t := 29) d_G_isWideAt_25 ?_
      refine pe_rz d_G_isWideAt_29 (by first | exact Or.inl rfl | exact Or.inr rfl | omega) ?_
      exact ⟨rfl, by (try dsimp only); omega⟩
theorem t_G_blankFrom_25 {σ : pe_H} {r c : Int} (hB : pe_B σ) (hd : 1 ≤ σ 25 2 ∧ σ 25 2 ≤ 24 ∧ 1 ≤ σ 25 3 ∧ σ 25 3 ≤ 8) (hr : -100 ≤ r ∧ r ≤ 100) (hc : -100 ≤ c ∧ c ≤ 100) : pe_M m_G_blankFrom [pe_r 25, pe_i r, pe_i c] σ (pe_qv (fun σ' => pe_B σ' ∧ ∀ b, b ∉ [26, 27] → σ' b = σ b)) := by
  refine pe_in0 (lv := [some (pe_r 25), some (pe_i r), some (pe_i c), none]) ?_
  have J2 : ∀ fs : Int × pe_H, ((-100 ≤ fs.1 ∧ fs.1 ≤ 200) ∧ pe_B fs.2 ∧ ∀ b, b ∉ [26, 27] → fs.2 b = σ b) → pe_G m_G_blankFrom 2 [some (pe_r 25), some (pe_i r), some (pe_i c), some (pe_i fs.1)] [] fs.2 (pe_qv (fun σ' => pe_B σ' ∧ ∀ b, b ∉ [26, 27] → σ' b = σ b)) := by
    refine pe_loop (fun fs : Int × pe_H => (300 - fs.1).toNat) _ _ ?_
    intro fs hI ih
    obtain ⟨f, τ⟩ := fs
    dsimp only at hI ⊢
    obtain ⟨hI1, hB, hfr⟩ := hI
    rw [← hfr 25 (by decide)] at hd
    refine pe_iload_n d_G_blankFrom_2 rfl ?_
    refine pe_aload_n d_G_blankFrom_3 rfl ?_
    refine pe_geti f_G_18 d_G_blankFrom_4 rfl rfl 2 rfl ?_
    refine pe_icmp_ge (t := 25) d_G_blankFrom_7 (by first | exact hB _ _ | exact ⟨by omega, by omega⟩) (by first | exact hB _ _ | exact ⟨by omega, by omega⟩) (fun h7 => ?_) (fun h7 => ?_)
    · skip
      refine pe_rv d_G_blankFrom_25 ?_
      exact ⟨hB, hfr⟩
    · skip
      refine pe_aload_n d_G_blankFrom_10 rfl ?_
      refine pe_iload_n d_G_blankFrom_11 rfl ?_
      refine pe_iload_n d_G_blankFrom_12 rfl ?_
      refine pe_bipush d_G_blankFrom_13 ?_
      refine pe_iconst d_G_blankFrom_15 ?_
      refine pe_v4v d_G_blankFrom_16 c_G_52 i_G_put s_G_put rfl rfl (t_G_put_25 hB (by omega) (by first | exact hB _ _ | exact ⟨by omega, by omega⟩) (by first | exact hB _ _ | exact ⟨by omega, by omega⟩) (by first | exact hB _ _ | exact ⟨by omega, by omega⟩) (by first | exact hB _ _ | exact ⟨by omega, by omega⟩)) (fun σ16 hz16 => ?_)
      obtain ⟨hB, f16⟩ := hz16
      try have u16_0 : σ16 25 2 = τ 25 2 := by first | exact o16 2 (by decide) | exact congrFun (f16 25 (by decide)) 2
      try have u16_1 : σ16 25 3 = τ 25 3 := by first | exact o16 3 (by decide) | exact congrFun (f16 25 (by decide)) 3
      refine pe_iinc d_G_blankFrom_19 rfl ?_
      refine pe_goto (t := 2) d_G_blankFrom_22 ?_
      exact ih (_, _) ⟨by (try dsimp only); omega, hB, (fun b hb => (f16 b (by simp at hb ⊢; try omega)).trans (hfr b hb))⟩ (by (try dsimp only); omega)
  refine pe_iload_n d_G_blankFrom_0 rfl ?_
  refine pe_istore_n d_G_blankFrom_1 ?_
  exact J2 (_, _) ⟨by (try dsimp only); omega, hB, fun _ _ => rfl⟩
theorem t_A_fill_26 {σ : pe_H} {v : Int} (hB : pe_B σ) (hv : pe_R v) : pe_M m_A_fill [pe_r 26, pe_i v] σ (pe_qv (fun σ' => pe_B σ' ∧ ∀ b, b ∉ [26] → σ' b = σ b)) := by
  refine pe_in0 (lv := [some (pe_r 26), some (pe_i v), none, none]) ?_
  have J5 : ∀ fs : Int × pe_H, ((0 ≤ fs.1 ∧ fs.1 ≤ 192) ∧ pe_B fs.2 ∧ ∀ b, b ∉ [26] → fs.2 b = σ b) → pe_G m_A_fill 5 [some (pe_r 26), some (pe_i v), some (pe_i fs.1), some (pe_i 192)] [] fs.2 (pe_qv (fun σ' => pe_B σ' ∧ ∀ b, b ∉ [26] → σ' b = σ b)) := by
    refine pe_loop (fun fs : Int × pe_H => (300 - fs.1).toNat) _ _ ?_
    intro fs hI ih
    obtain ⟨f, τ⟩ := fs
    dsimp only at hI ⊢
    obtain ⟨hI1, hB, hfr⟩ := hI
    refine pe_iload_n d_A_fill_5 rfl ?_
    refine pe_iload_n d_A_fill_6 rfl ?_
    refine pe_icmp_ge (t := 20) d_A_fill_7 (by first | exact hB _ _ | exact ⟨by omega, by omega⟩) (by first | exact hB _ _ | exact ⟨by omega, by omega⟩) (fun h7 => ?_) (fun h7 => ?_)
    · skip
      refine pe_rv d_A_fill_20 ?_
      exact ⟨hB, hfr⟩
    · skip
      refine pe_aload_n d_A_fill_10 rfl ?_
      refine pe_iload_n d_A_fill_11 rfl ?_
      refine pe_iload_n d_A_fill_12 rfl ?_
      refine pe_iastT d_A_fill_13 rfl (by omega) (by omega) hB (by first | exact hB _ _ | exact ⟨by omega, by omega⟩) (fun σ13 hB e13 o13 f13 => ?_)
      refine pe_iinc d_A_fill_14 rfl ?_
      refine pe_goto (t := 5) d_A_fill_17 ?_
      exact ih (_, _) ⟨by (try dsimp only); omega, hB, (fun b hb => (f13 b (by simp at hb ⊢; try omega)).trans (hfr b hb))⟩ (by (try dsimp only); omega)
  refine pe_iconst d_A_fill_0 ?_
  refine pe_istore_n d_A_fill_1 ?_
  refine pe_aload_n d_A_fill_2 rfl ?_
  refine pe_alen (t0 := 0) d_A_fill_3 rfl (fun _ => rfl) ?_
  refine pe_istore_n d_A_fill_4 ?_
  exact J5 (_, _) ⟨by (try dsimp only); omega, hB, fun _ _ => rfl⟩
theorem t_A_fill_27 {σ : pe_H} {v : Int} (hB : pe_B σ) (hv : pe_R v) : pe_M m_A_fill [pe_r 27, pe_i v] σ (pe_qv (fun σ' => pe_B σ' ∧ ∀ b, b ∉ [27] → σ' b = σ b)) := by
  refine pe_in0 (lv := [some (pe_r 27), some (pe_i v), none, none]) ?_
  have J5 : ∀ fs : Int × pe_H, ((0 ≤ fs.1 ∧ fs.1 ≤ 192) ∧ pe_B fs.2 ∧ ∀ b, b ∉ [27] → fs.2 b = σ b) → pe_G m_A_fill 5 [some (pe_r 27), some (pe_i v), some (pe_i fs.1), some (pe_i 192)] [] fs.2 (pe_qv (fun σ' => pe_B σ' ∧ ∀ b, b ∉ [27] → σ' b = σ b)) := by
    refine pe_loop (fun fs : Int × pe_H => (300 - fs.1).toNat) _ _ ?_
    intro fs hI ih
    obtain ⟨f, τ⟩ := fs
    dsimp only at hI ⊢
    obtain ⟨hI1, hB, hfr⟩ := hI
    refine pe_iload_n d_A_fill_5 rfl ?_
    refine pe_iload_n d_A_fill_6 rfl ?_
    refine pe_icmp_ge (t := 20) d_A_fill_7 (by first | exact hB _ _ | exact ⟨by omega, by omega⟩) (by first | exact hB _ _ | exact ⟨by omega, by omega⟩) (fun h7 => ?_) (fun h7 => ?_)
    · skip
      refine pe_rv d_A_fill_20 ?_
      exact ⟨hB, hfr⟩
    · skip
      refine pe_aload_n d_A_fill_10 rfl ?_
      refine pe_iload_n d_A_fill_11 rfl ?_
      refine pe_iload_n d_A_fill_12 rfl ?_
      refine pe_iastT d_A_fill_13 rfl (by omega) (by omega) hB (by first | exact hB _ _ | exact ⟨by omega, by omega⟩) (fun σ13 hB e13 o13 f13 => ?_)
      refine pe_iinc d_A_fill_14 rfl ?_
      refine pe_goto (t := 5) d_A_fill_17 ?_
      exact ih (_, _) ⟨by (try dsimp only); omega, hB, (fun b hb => (f13 b (by simp at hb ⊢; try omega)).trans (hfr b hb))⟩ (by (try dsimp only); omega)
  refine pe_iconst d_A_fill_0 ?_
  refine pe_istore_n d_A_fill_1 ?_
  refine pe_aload_n d_A_fill_2 rfl ?_
  refine pe_alen (t0 := 0) d_A_fill_3 rfl (fun _ => rfl) ?_
  refine pe_istore_n d_A_fill_4 ?_
  exact J5 (_, _) ⟨by (try dsimp only); omega, hB, fun _ _ => rfl⟩
theorem t_G_blankAll_25 {σ : pe_H} (hB : pe_B σ) : pe_M m_G_blankAll [pe_r 25] σ (pe_qv (fun σ' => pe_B σ' ∧ ∀ b, b ∉ [26, 27] → σ' b = σ b)) := by
  refine pe_in0 (lv := [some (pe_r 25)]) ?_
  refine pe_aload_n d_G_blankAll_0 rfl ?_
  refine pe_getr f_G_9 d_G_blankAll_1 rfl rfl ?_
  refine pe_bipush d_G_blankAll_4 ?_
  refine pe_s2v d_G_blankAll_6 c_G_25 z_A_fill (t_A_fill_26 hB (by first | exact hB _ _ | exact ⟨by omega, by omega⟩)) (fun σ6 hz6 => ?_)
  obtain ⟨hB, f6⟩ := hz6
  refine pe_aload_n d_G_blankAll_9 rfl ?_
  refine pe_getr f_G_15 d_G_blankAll_10 rfl rfl ?_
  refine pe_iconst d_G_blankAll_13 ?_
  refine pe_s2v d_G_blankAll_14 c_G_25 z_A_fill (t_A_fill_27 hB (by first | exact hB _ _ | exact ⟨by omega, by omega⟩)) (fun σ14 hz14 => ?_)
  obtain ⟨hB, f14⟩ := hz14
  refine pe_rv d_G_blankAll_17 ?_
  exact ⟨hB, (fun b hb => (f14 b (by simp at hb ⊢; try omega)).trans ((f6 b (by simp at hb ⊢; try omega)).trans (rfl)))⟩
theorem t_G_resize_25 {σ : pe_H} {r c : Int} (hB : pe_B σ) (hd : 1 ≤ σ 25 2 ∧ σ 25 2 ≤ 24 ∧ 1 ≤ σ 25 3 ∧ σ 25 3 ≤ 8) (hc : 1 ≤ c ∧ c ≤ 24) (hr : 1 ≤ r ∧ r ≤ 8) : pe_M m_G_resize [pe_r 25, pe_i c, pe_i r] σ (pe_qv (fun σ' => pe_B σ' ∧ (∀ b, b ∉ [25, 26, 27] → σ' b = σ b) ∧ σ' 25 2 = c ∧ σ' 25 3 = r)) := by
  refine pe_in0 (lv := [some (pe_r 25), some (pe_i c), some (pe_i r), none]) ?_
  have J2 : ∀ fs : Int × pe_H, ((0 ≤ fs.1 ∧ fs.1 ≤ 8) ∧ pe_B fs.2 ∧ ∀ b, b ∉ [26, 27] → fs.2 b = σ b) → pe_G m_G_resize 2 [some (pe_r 25), some (pe_i c), some (pe_i r), some (pe_i fs.1)] [] fs.2 (pe_qv (fun σ' => pe_B σ' ∧ (∀ b, b ∉ [25, 26, 27] → σ' b = σ b) ∧ σ' 25 2 = c ∧ σ' 25 3 = r)) := by
    refine pe_loop (fun fs : Int × pe_H => (300 - fs.1).toNat) _ _ ?_
    intro fs hI ih
    obtain ⟨f, τ⟩ := fs
    dsimp only at hI ⊢
    obtain ⟨hI1, hB, hfr⟩ := hI
    rw [← hfr 25 (by decide)] at hd
    refine pe_iload_n d_G_resize_2 rfl ?_
    refine pe_aload_n d_G_resize_3 rfl ?_
    refine pe_geti f_G_22 d_G_resize_4 rfl rfl 3 rfl ?_
    refine pe_icmp_ge (t := 53) d_G_resize_7 (by first | exact hB _ _ | exact ⟨by omega, by omega⟩) (by first | exact hB _ _ | exact ⟨by omega, by omega⟩) (fun h7 => ?_) (fun h7 => ?_)
    · skip
      refine pe_aload_n d_G_resize_53 rfl ?_
      refine pe_iload_n d_G_resize_54 rfl ?_
      refine pe_putiT f_G_18 g_7_2 d_G_resize_55 rfl rfl 2 rfl hB (by first | exact hB _ _ | exact ⟨by omega, by omega⟩) (fun σ55 hB e55 o55 f55 => ?_)
      try have u55_0 : σ55 25 2 = τ 25 2 := by first | exact o55 2 (by decide) | exact congrFun (f55 25 (by decide)) 2
      try have u55_1 : σ55 25 3 = τ 25 3 := by first | exact o55 3 (by decide) | exact congrFun (f55 25 (by decide)) 3
      refine pe_aload_n d_G_resize_58 rfl ?_
      refine pe_iload_n d_G_resize_59 rfl ?_
      refine pe_putiT f_G_22 g_7_3 d_G_resize_60 rfl rfl 3 rfl hB (by first | exact hB _ _ | exact ⟨by omega, by omega⟩) (fun σ60 hB e60 o60 f60 => ?_)
      try have u60_0 : σ60 25 2 = σ55 25 2 := by first | exact o60 2 (by decide) | exact congrFun (f60 25 (by decide)) 2
      try have u60_1 : σ60 25 3 = σ55 25 3 := by first | exact o60 3 (by decide) | exact congrFun (f60 25 (by decide)) 3
      refine pe_rv d_G_resize_63 ?_
      exact ⟨hB, (fun b hb => (f60 b (by simp at hb ⊢; try omega)).trans ((f55 b (by simp at hb ⊢; try omega)).trans (hfr b (by simp at hb ⊢; try omega)))), by omega, by omega⟩
    · skip
      refine pe_aload_n d_G_resize_10 rfl ?_
      refine pe_iload_n d_G_resize_11 rfl ?_
      refine pe_iload_n d_G_resize_12 rfl ?_
      refine pe_iload_n d_G_resize_13 rfl ?_
      refine pe_icmp_ge (t := 21) d_G_resize_14 (by first | exact hB _ _ | exact ⟨by omega, by omega⟩) (by first | exact hB _ _ | exact ⟨by omega, by omega⟩) (fun h14 => ?_) (fun h14 => ?_)
      · skip
        refine pe_iconst d_G_resize_21 ?_
        refine pe_v2v d_G_resize_22 c_G_56 i_G_blankFrom s_G_blankFrom rfl rfl (t_G_blankFrom_25 hB (by omega) (by omega) (by omega)) (fun σ22 hz22 => ?_)
        obtain ⟨hB, f22⟩ := hz22
        try have u22_0 : σ22 25 2 = τ 25 2 := by first | exact o22 2 (by decide) | exact congrFun (f22 25 (by decide)) 2
        try have u22_1 : σ22 25 3 = τ 25 3 := by first | exact o22 3 (by decide) | exact congrFun (f22 25 (by decide)) 3
        have hd : 1 ≤ σ22 25 2 ∧ σ22 25 2 ≤ 24 ∧ 1 ≤ σ22 25 3 ∧ σ22 25 3 ≤ 8 := by omega
        refine pe_aload_n d_G_resize_25 rfl ?_
        refine pe_iload_n d_G_resize_26 rfl ?_
        refine pe_iload_n d_G_resize_27 rfl ?_
        refine pe_iconst d_G_resize_28 ?_
        refine pe_isub d_G_resize_29 ?_
        refine pe_v2p d_G_resize_30 c_G_60 i_G_isWideAt s_G_isWideAt rfl rfl (t_G_isWideAt_25 hB (by omega) (by first | exact hB _ _ | exact ⟨by omega, by omega⟩) (by first | exact hB _ _ | exact ⟨by omega, by omega⟩)) (fun z30 hz30 => ?_)
        refine pe_if_eq (t := 47) d_G_resize_33 (by first | exact hB _ _ | exact ⟨by omega, by omega⟩) (fun h33 => ?_) (fun h33 => ?_)
        · skip
          refine pe_iinc d_G_resize_47 rfl ?_
          refine pe_goto (t := 2) d_G_resize_50 ?_
          exact ih (_, _) ⟨by (try dsimp only); omega, hB, (fun b hb => (f22 b (by simp at hb ⊢; try omega)).trans (hfr b (by simp at hb ⊢; try omega)))⟩ (by (try dsimp only); omega)
        · skip
          refine pe_aload_n d_G_resize_36 rfl ?_
          refine pe_iload_n d_G_resize_37 rfl ?_
          refine pe_iload_n d_G_resize_38 rfl ?_
          refine pe_iconst d_G_resize_39 ?_
          refine pe_isub d_G_resize_40 ?_
          refine pe_bipush d_G_resize_41 ?_
          refine pe_iconst d_G_resize_43 ?_
          refine pe_v4v d_G_resize_44 c_G_52 i_G_put s_G_put rfl rfl (t_G_put_25 hB (by omega) (by first | exact hB _ _ | exact ⟨by omega, by omega⟩) (by first | exact hB _ _ | exact ⟨by omega, by omega⟩) (by first | exact hB _ _ | exact ⟨by omega, by omega⟩) (by first | exact hB _ _ | exact ⟨by omega, by omega⟩)) (fun σ44 hz44 => ?_)
          obtain ⟨hB, f44⟩ := hz44
          try have u44_0 : σ44 25 2 = σ22 25 2 := by first | exact o44 2 (by decide) | exact congrFun (f44 25 (by decide)) 2
          try have u44_1 : σ44 25 3 = σ22 25 3 := by first | exact o44 3 (by decide) | exact congrFun (f44 25 (by decide)) 3
          refine pe_iinc d_G_resize_47 rfl ?_
          refine pe_goto (t := 2) d_G_resize_50 ?_
          exact ih (_, _) ⟨by (try dsimp only); omega, hB, (fun b hb => (f44 b (by simp at hb ⊢; try omega)).trans ((f22 b (by simp at hb ⊢; try omega)).trans (hfr b (by simp at hb ⊢; try omega))))⟩ (by (try dsimp only); omega)
      · skip
        refine pe_iload_n d_G_resize_17 rfl ?_
        refine pe_goto (t := 22) d_G_resize_18 ?_
        refine pe_v2v d_G_resize_22 c_G_56 i_G_blankFrom s_G_blankFrom rfl rfl (t_G_blankFrom_25 hB (by omega) (by omega) (by omega)) (fun σ22 hz22 => ?_)
        obtain ⟨hB, f22⟩ := hz22
        try have u22_0 : σ22 25 2 = τ 25 2 := by first | exact o22 2 (by decide) | exact congrFun (f22 25 (by decide)) 2
        try have u22_1 : σ22 25 3 = τ 25 3 := by first | exact o22 3 (by decide) | exact congrFun (f22 25 (by decide)) 3
        have hd : 1 ≤ σ22 25 2 ∧ σ22 25 2 ≤ 24 ∧ 1 ≤ σ22 25 3 ∧ σ22 25 3 ≤ 8 := by omega
        refine pe_aload_n d_G_resize_25 rfl ?_
        refine pe_iload_n d_G_resize_26 rfl ?_
        refine pe_iload_n d_G_resize_27 rfl ?_
        refine pe_iconst d_G_resize_28 ?_
        refine pe_isub d_G_resize_29 ?_
        refine pe_v2p d_G_resize_30 c_G_60 i_G_isWideAt s_G_isWideAt rfl rfl (t_G_isWideAt_25 hB (by omega) (by first | exact hB _ _ | exact ⟨by omega, by omega⟩) (by first | exact hB _ _ | exact ⟨by omega, by omega⟩)) (fun z30 hz30 => ?_)
        refine pe_if_eq (t := 47) d_G_resize_33 (by first | exact hB _ _ | exact ⟨by omega, by omega⟩) (fun h33 => ?_) (fun h33 => ?_)
        · skip
          refine pe_iinc d_G_resize_47 rfl ?_
          refine pe_goto (t := 2) d_G_resize_50 ?_
          exact ih (_, _) ⟨by (try dsimp only); omega, hB, (fun b hb => (f22 b (by simp at hb ⊢; try omega)).trans (hfr b (by simp at hb ⊢; try omega)))⟩ (by (try dsimp only); omega)
        · skip
          refine pe_aload_n d_G_resize_36 rfl ?_
          refine pe_iload_n d_G_resize_37 rfl ?_
          refine pe_iload_n d_G_resize_38 rfl ?_
          refine pe_iconst d_G_resize_39 ?_
          refine pe_isub d_G_resize_40 ?_
          refine pe_bipush d_G_resize_41 ?_
          refine pe_iconst d_G_resize_43 ?_
          refine pe_v4v d_G_resize_44 c_G_52 i_G_put s_G_put rfl rfl (t_G_put_25 hB (by omega) (by first | exact hB _ _ | exact ⟨by omega, by omega⟩) (by first | exact hB _ _ | exact ⟨by omega, by omega⟩) (by first | exact hB _ _ | exact ⟨by omega, by omega⟩) (by first | exact hB _ _ | exact ⟨by omega, by omega⟩)) (fun σ44 hz44 => ?_)
          obtain ⟨hB, f44⟩ := hz44
          try have u44_0 : σ44 25 2 = σ22 25 2 := by first | exact o44 2 (by decide) | exact congrFun (f44 25 (by decide)) 2
          try have u44_1 : σ44 25 3 = σ22 25 3 := by first | exact o44 3 (by decide) | exact congrFun (f44 25 (by decide)) 3
          refine pe_iinc d_G_resize_47 rfl ?_
          refine pe_goto (t := 2) d_G_resize_50 ?_
          exact ih (_, _) ⟨by (try dsimp only); omega, hB, (fun b hb => (f44 b (by simp at hb ⊢; try omega)).trans ((f22 b (by simp at hb ⊢; try omega)).trans (hfr b (by simp at hb ⊢; try omega))))⟩ (by (try dsimp only); omega)
  refine pe_iconst d_G_resize_0 ?_
  refine pe_istore_n d_G_resize_1 ?_
  exact J2 (_, _) ⟨by (try dsimp only); omega, hB, fun _ _ => rfl⟩
end
section
theorem t_Z_endWriting {σ : pe_H} (hB : pe_B σ) : pe_M m_Z_endWriting [pe_r 24] σ (pe_qv (fun σ' => pe_B σ' ∧ (∀ b, b ∉ [24] → σ' b = σ b) ∧ σ' 24 1 = σ 24 1 ∧ σ' 24 2 = σ 24 2)) := by
  refine pe_in0 (lv := [some (pe_r 24)]) ?_
  refine pe_aload_n d_Z_endWriting_0 rfl ?_
  refine pe_iconst d_Z_endWriting_1 ?_
  refine pe_putzT f_Z_29 g_10_3 d_Z_endWriting_2 rfl rfl (by first | exact Or.inl rfl | exact Or.inr rfl | omega) 3 rfl hB (fun σ2 hB e2 o2 f2 => ?_)
  try have u2_0 : σ2 24 1 = σ 24 1 := by first | exact o2 1 (by decide) | exact congrFun (f2 24 (by decide)) 1
  try have u2_1 : σ2 24 2 = σ 24 2 := by first | exact o2 2 (by decide) | exact congrFun (f2 24 (by decide)) 2
  try have u2_2 : σ2 25 2 = σ 25 2 := by first | exact o2 2 (by decide) | exact congrFun (f2 25 (by decide)) 2
  try have u2_3 : σ2 25 3 = σ 25 3 := by first | exact o2 3 (by decide) | exact congrFun (f2 25 (by decide)) 3
  refine pe_aload_n d_Z_endWriting_5 rfl ?_
  refine pe_iconst d_Z_endWriting_6 ?_
  refine pe_putzT f_Z_69 g_10_7 d_Z_endWriting_7 rfl rfl (by first | exact Or.inl rfl | exact Or.inr rfl | omega) 7 rfl hB (fun σ7 hB e7 o7 f7 => ?_)
  try have u7_0 : σ7 24 1 = σ2 24 1 := by first | exact o7 1 (by decide) | exact congrFun (f7 24 (by decide)) 1
  try have u7_1 : σ7 24 2 = σ2 24 2 := by first | exact o7 2 (by decide) | exact congrFun (f7 24 (by decide)) 2
  try have u7_2 : σ7 25 2 = σ2 25 2 := by first | exact o7 2 (by decide) | exact congrFun (f7 25 (by decide)) 2
  try have u7_3 : σ7 25 3 = σ2 25 3 := by first | exact o7 3 (by decide) | exact congrFun (f7 25 (by decide)) 3
  refine pe_rv d_Z_endWriting_10 ?_
  exact ⟨hB, (fun b hb => (f7 b (by simp at hb ⊢; try omega)).trans ((f2 b (by simp at hb ⊢; try omega)).trans (rfl))), by omega, by omega⟩
theorem t_Z_moveTo {σ : pe_H} {r c : Int} (hB : pe_B σ) (hr : 0 ≤ r ∧ r ≤ 8) (hc : 0 ≤ c ∧ c ≤ 24) : pe_M m_Z_moveTo [pe_r 24, pe_i r, pe_i c] σ (pe_qv (fun σ' => pe_B σ' ∧ (∀ b, b ∉ [24] → σ' b = σ b) ∧ σ' 24 1 = r ∧ σ' 24 2 = c)) := by
  refine pe_in0 (lv := [some (pe_r 24), some (pe_i r), some (pe_i c)]) ?_
  refine pe_aload_n d_Z_moveTo_0 rfl ?_
  refine pe_iload_n d_Z_moveTo_1 rfl ?_
  refine pe_putiT f_Z_33 g_10_1 d_Z_moveTo_2 rfl rfl 1 rfl hB (by first | exact hB _ _ | exact ⟨by omega, by omega⟩) (fun σ2 hB e2 o2 f2 => ?_)
  try have u2_0 : σ2 24 1 = σ 24 1 := by first | exact o2 1 (by decide) | exact congrFun (f2 24 (by decide)) 1
  try have u2_1 : σ2 24 2 = σ 24 2 := by first | exact o2 2 (by decide) | exact congrFun (f2 24 (by decide)) 2
  try have u2_2 : σ2 25 2 = σ 25 2 := by first | exact o2 2 (by decide) | exact congrFun (f2 25 (by decide)) 2
  try have u2_3 : σ2 25 3 = σ 25 3 := by first | exact o2 3 (by decide) | exact congrFun (f2 25 (by decide)) 3
  refine pe_aload_n d_Z_moveTo_5 rfl ?_
  refine pe_iload_n d_Z_moveTo_6 rfl ?_
  refine pe_putiT f_Z_46 g_10_2 d_Z_moveTo_7 rfl rfl 2 rfl hB (by first | exact hB _ _ | exact ⟨by omega, by omega⟩) (fun σ7 hB e7 o7 f7 => ?_)
  try have u7_0 : σ7 24 1 = σ2 24 1 := by first | exact o7 1 (by decide) | exact congrFun (f7 24 (by decide)) 1
  try have u7_1 : σ7 24 2 = σ2 24 2 := by first | exact o7 2 (by decide) | exact congrFun (f7 24 (by decide)) 2
  try have u7_2 : σ7 25 2 = σ2 25 2 := by first | exact o7 2 (by decide) | exact congrFun (f7 25 (by decide)) 2
  try have u7_3 : σ7 25 3 = σ2 25 3 := by first | exact o7 3 (by decide) | exact congrFun (f7 25 (by decide)) 3
  refine pe_aload_n d_Z_moveTo_10 rfl ?_
  refine pe_v0v d_Z_moveTo_11 c_Z_88 i_Z_endWriting s_Z_endWriting rfl rfl (t_Z_endWriting hB) (fun σ11 hz11 => ?_)
  obtain ⟨hB, f11, x11⟩ := hz11
  try have u11_0 : σ11 24 1 = σ7 24 1 := by first | exact o11 1 (by decide) | exact congrFun (f11 24 (by decide)) 1
  try have u11_1 : σ11 24 2 = σ7 24 2 := by first | exact o11 2 (by decide) | exact congrFun (f11 24 (by decide)) 2
  try have u11_2 : σ11 25 2 = σ7 25 2 := by first | exact o11 2 (by decide) | exact congrFun (f11 25 (by decide)) 2
  try have u11_3 : σ11 25 3 = σ7 25 3 := by first | exact o11 3 (by decide) | exact congrFun (f11 25 (by decide)) 3
  refine pe_rv d_Z_moveTo_14 ?_
  exact ⟨hB, (fun b hb => (f11 b (by simp at hb ⊢; try omega)).trans ((f7 b (by simp at hb ⊢; try omega)).trans ((f2 b (by simp at hb ⊢; try omega)).trans (rfl)))), by omega, by omega⟩
theorem t_Z_eraseRestOfRow {σ : pe_H} (hB : pe_B σ) (hd : 1 ≤ σ 25 2 ∧ σ 25 2 ≤ 24 ∧ 1 ≤ σ 25 3 ∧ σ 25 3 ≤ 8) (ht : 0 ≤ σ 24 1 ∧ σ 24 1 ≤ 8 ∧ 0 ≤ σ 24 2 ∧ σ 24 2 ≤ 24) : pe_M m_Z_eraseRestOfRow [pe_r 24] σ (pe_qv (fun σ' => pe_B σ' ∧ (∀ b, b ∉ [24, 26, 27] → σ' b = σ b) ∧ σ' 24 1 = σ 24 1 ∧ σ' 24 2 = σ 24 2)) := by
  refine pe_in0 (lv := [some (pe_r 24)]) ?_
  refine pe_aload_n d_Z_eraseRestOfRow_0 rfl ?_
  refine pe_getr f_Z_14 d_Z_eraseRestOfRow_1 rfl rfl ?_
  refine pe_aload_n d_Z_eraseRestOfRow_4 rfl ?_
  refine pe_geti f_Z_33 d_Z_eraseRestOfRow_5 rfl rfl 1 rfl ?_
  refine pe_aload_n d_Z_eraseRestOfRow_8 rfl ?_
  refine pe_geti f_Z_46 d_Z_eraseRestOfRow_9 rfl rfl 2 rfl ?_
  refine pe_v2v d_Z_eraseRestOfRow_12 c_Z_91 i_G_blankFrom s_G_blankFrom rfl rfl (t_G_blankFrom_25 hB (by omega) (by omega) (by omega)) (fun σ12 hz12 => ?_)
  obtain ⟨hB, f12⟩ := hz12
  try have u12_0 : σ12 24 1 = σ 24 1 := by first | exact o12 1 (by decide) | exact congrFun (f12 24 (by decide)) 1
  try have u12_1 : σ12 24 2 = σ 24 2 := by first | exact o12 2 (by decide) | exact congrFun (f12 24 (by decide)) 2
  try have u12_2 : σ12 25 2 = σ 25 2 := by first | exact o12 2 (by decide) | exact congrFun (f12 25 (by decide)) 2
  try have u12_3 : σ12 25 3 = σ 25 3 := by first | exact o12 3 (by decide) | exact congrFun (f12 25 (by decide)) 3
  refine pe_aload_n d_Z_eraseRestOfRow_15 rfl ?_
  refine pe_v0v d_Z_eraseRestOfRow_16 c_Z_88 i_Z_endWriting s_Z_endWriting rfl rfl (t_Z_endWriting hB) (fun σ16 hz16 => ?_)
  obtain ⟨hB, f16, x16⟩ := hz16
  try have u16_0 : σ16 24 1 = σ12 24 1 := by first | exact o16 1 (by decide) | exact congrFun (f16 24 (by decide)) 1
  try have u16_1 : σ16 24 2 = σ12 24 2 := by first | exact o16 2 (by decide) | exact congrFun (f16 24 (by decide)) 2
  try have u16_2 : σ16 25 2 = σ12 25 2 := by first | exact o16 2 (by decide) | exact congrFun (f16 25 (by decide)) 2
  try have u16_3 : σ16 25 3 = σ12 25 3 := by first | exact o16 3 (by decide) | exact congrFun (f16 25 (by decide)) 3
  refine pe_rv d_Z_eraseRestOfRow_19 ?_
  exact ⟨hB, (fun b hb => (f16 b (by simp at hb ⊢; try omega)).trans ((f12 b (by simp at hb ⊢; try omega)).trans (rfl))), by omega, by omega⟩
theorem t_Z_eraseAll {σ : pe_H} (hB : pe_B σ) (hd : 1 ≤ σ 25 2 ∧ σ 25 2 ≤ 24 ∧ 1 ≤ σ 25 3 ∧ σ 25 3 ≤ 8) (ht : 0 ≤ σ 24 1 ∧ σ 24 1 ≤ 8 ∧ 0 ≤ σ 24 2 ∧ σ 24 2 ≤ 24) : pe_M m_Z_eraseAll [pe_r 24] σ (pe_qv (fun σ' => pe_B σ' ∧ (∀ b, b ∉ [24, 26, 27] → σ' b = σ b) ∧ σ' 24 1 = σ 24 1 ∧ σ' 24 2 = σ 24 2)) := by
  refine pe_in0 (lv := [some (pe_r 24)]) ?_
  refine pe_aload_n d_Z_eraseAll_0 rfl ?_
  refine pe_getr f_Z_14 d_Z_eraseAll_1 rfl rfl ?_
  refine pe_v0v d_Z_eraseAll_4 c_Z_94 i_G_blankAll s_G_blankAll rfl rfl (t_G_blankAll_25 hB) (fun σ4 hz4 => ?_)
  obtain ⟨hB, f4⟩ := hz4
  try have u4_0 : σ4 24 1 = σ 24 1 := by first | exact o4 1 (by decide) | exact congrFun (f4 24 (by decide)) 1
  try have u4_1 : σ4 24 2 = σ 24 2 := by first | exact o4 2 (by decide) | exact congrFun (f4 24 (by decide)) 2
  try have u4_2 : σ4 25 2 = σ 25 2 := by first | exact o4 2 (by decide) | exact congrFun (f4 25 (by decide)) 2
  try have u4_3 : σ4 25 3 = σ 25 3 := by first | exact o4 3 (by decide) | exact congrFun (f4 25 (by decide)) 3
  refine pe_aload_n d_Z_eraseAll_7 rfl ?_
  refine pe_v0v d_Z_eraseAll_8 c_Z_88 i_Z_endWriting s_Z_endWriting rfl rfl (t_Z_endWriting hB) (fun σ8 hz8 => ?_)
  obtain ⟨hB, f8, x8⟩ := hz8
  try have u8_0 : σ8 24 1 = σ4 24 1 := by first | exact o8 1 (by decide) | exact congrFun (f8 24 (by decide)) 1
  try have u8_1 : σ8 24 2 = σ4 24 2 := by first | exact o8 2 (by decide) | exact congrFun (f8 24 (by decide)) 2
  try have u8_2 : σ8 25 2 = σ4 25 2 := by first | exact o8 2 (by decide) | exact congrFun (f8 25 (by decide)) 2
  try have u8_3 : σ8 25 3 = σ4 25 3 := by first | exact o8 3 (by decide) | exact congrFun (f8 25 (by decide)) 3
  refine pe_rv d_Z_eraseAll_11 ?_
  exact ⟨hB, (fun b hb => (f8 b (by simp at hb ⊢; try omega)).trans ((f4 b (by simp at hb ⊢; try omega)).trans (rfl))), by omega, by omega⟩
theorem t_Z_resize {σ : pe_H} {r c : Int} (hB : pe_B σ) (hd : 1 ≤ σ 25 2 ∧ σ 25 2 ≤ 24 ∧ 1 ≤ σ 25 3 ∧ σ 25 3 ≤ 8) (ht : 0 ≤ σ 24 1 ∧ σ 24 1 ≤ 8 ∧ 0 ≤ σ 24 2 ∧ σ 24 2 ≤ 24) (hc : 1 ≤ c ∧ c ≤ 24) (hr : 1 ≤ r ∧ r ≤ 8) : pe_M m_Z_resize [pe_r 24, pe_i c, pe_i r] σ (pe_qv (fun σ' => pe_B σ' ∧ (∀ b, b ∉ [24, 25, 26, 27] → σ' b = σ b) ∧ σ' 24 1 = 0 ∧ σ' 24 2 = 0 ∧ σ' 25 2 = c ∧ σ' 25 3 = r)) := by
  refine pe_in0 (lv := [some (pe_r 24), some (pe_i c), some (pe_i r)]) ?_
  refine pe_aload_n d_Z_resize_0 rfl ?_
  refine pe_getr f_Z_14 d_Z_resize_1 rfl rfl ?_
  refine pe_iload_n d_Z_resize_4 rfl ?_
  refine pe_iload_n d_Z_resize_5 rfl ?_
  refine pe_v2v d_Z_resize_6 c_Z_97 i_G_resize s_G_resize rfl rfl (t_G_resize_25 hB (by omega) (by omega) (by omega)) (fun σ6 hz6 => ?_)
  obtain ⟨hB, f6, x6⟩ := hz6
  try have u6_0 : σ6 24 1 = σ 24 1 := by first | exact o6 1 (by decide) | exact congrFun (f6 24 (by decide)) 1
  try have u6_1 : σ6 24 2 = σ 24 2 := by first | exact o6 2 (by decide) | exact congrFun (f6 24 (by decide)) 2
  try have u6_2 : σ6 25 2 = σ 25 2 := by first | exact o6 2 (by decide) | exact congrFun (f6 25 (by decide)) 2
  try have u6_3 : σ6 25 3 = σ 25 3 := by first | exact o6 3 (by decide) | exact congrFun (f6 25 (by decide)) 3
  refine pe_aload_n d_Z_resize_9 rfl ?_
  refine pe_iconst d_Z_resize_10 ?_
  refine pe_iconst d_Z_resize_11 ?_
  refine pe_v2v d_Z_resize_12 c_Z_100 i_Z_moveTo s_Z_moveTo rfl rfl (t_Z_moveTo hB (by omega) (by omega)) (fun σ12 hz12 => ?_)
  obtain ⟨hB, f12, x12⟩ := hz12
  try have u12_0 : σ12 24 1 = σ6 24 1 := by first | exact o12 1 (by decide) | exact congrFun (f12 24 (by decide)) 1
  try have u12_1 : σ12 24 2 = σ6 24 2 := by first | exact o12 2 (by decide) | exact congrFun (f12 24 (by decide)) 2
  try have u12_2 : σ12 25 2 = σ6 25 2 := by first | exact o12 2 (by decide) | exact congrFun (f12 25 (by decide)) 2
  try have u12_3 : σ12 25 3 = σ6 25 3 := by first | exact o12 3 (by decide) | exact congrFun (f12 25 (by decide)) 3
  refine pe_rv d_Z_resize_15 ?_
  exact ⟨hB, (fun b hb => (f12 b (by simp at hb ⊢; try omega)).trans ((f6 b (by simp at hb ⊢; try omega)).trans (rfl))), by omega, by omega, by omega, by omega⟩
theorem t_Z_joins {σ : pe_H} {m : Int} (hB : pe_B σ) (hd : 1 ≤ σ 25 2 ∧ σ 25 2 ≤ 24 ∧ 1 ≤ σ 25 3 ∧ σ 25 3 ≤ 8) (ht : 0 ≤ σ 24 1 ∧ σ 24 1 ≤ 8 ∧ 0 ≤ σ 24 2 ∧ σ 24 2 ≤ 24) (hm : pe_R m) : pe_M m_Z_joins [pe_r 24, pe_i m] σ (pe_qi (fun z σ' => pe_B σ' ∧ (∀ b, b ∉ [26, 27] → σ' b = σ b) ∧ (z = 0 ∨ z = 1))) := by
  refine pe_in0 (lv := [some (pe_r 24), some (pe_i m), none]) ?_
  refine pe_aload_n d_Z_joins_0 rfl ?_
  refine pe_getr f_Z_14 d_Z_joins_1 rfl rfl ?_
  refine pe_aload_n d_Z_joins_4 rfl ?_
  refine pe_geti f_Z_60 d_Z_joins_5 rfl rfl 5 rfl ?_
  refine pe_aload_n d_Z_joins_8 rfl ?_
  refine pe_geti f_Z_63 d_Z_joins_9 rfl rfl 6 rfl ?_
  refine pe_v2p d_Z_joins_12 c_Z_66 i_G_clusterAt s_G_clusterAt rfl rfl (t_G_clusterAt_25 hB (by omega) (by first | exact hB _ _ | exact ⟨by omega, by omega⟩) (by first | exact hB _ _ | exact ⟨by omega, by omega⟩)) (fun z12 hz12 => ?_)
  refine pe_istore_n d_Z_joins_15 ?_
  refine pe_aload_n d_Z_joins_16 rfl ?_
  refine pe_geti f_Z_69 d_Z_joins_17 rfl rfl 7 rfl ?_
  refine pe_if_eq (t := 31) d_Z_joins_20 (by first | exact hB _ _ | exact ⟨by omega, by omega⟩) (fun h20 => ?_) (fun h20 => ?_)
  · skip
    refine pe_iconst d_Z_joins_31 ?_
    refine pe_rz d_Z_joins_32 (by first | exact Or.inl rfl | exact Or.inr rfl | omega) ?_
    exact ⟨hB, (fun b hb => rfl), by omega⟩
  · skip
    refine pe_iload_n d_Z_joins_23 rfl ?_
    refine pe_s1p d_Z_joins_24 c_Z_72 z_C_secondMarkOf (t_C_secondMarkOf (by first | exact hB _ _ | exact ⟨by omega, by omega⟩)) (fun z24 hz24 => ?_)
    refine pe_iconst d_Z_joins_27 ?_
    refine pe_icmp_eq (t := 33) d_Z_joins_28 (by first | exact hB _ _ | exact ⟨by omega, by omega⟩) (by first | exact hB _ _ | exact ⟨by omega, by omega⟩) (fun h28 => ?_) (fun h28 => ?_)
    · skip
      refine pe_aload_n d_Z_joins_33 rfl ?_
      refine pe_getr f_Z_14 d_Z_joins_34 rfl rfl ?_
      refine pe_aload_n d_Z_joins_37 rfl ?_
      refine pe_geti f_Z_60 d_Z_joins_38 rfl rfl 5 rfl ?_
      refine pe_aload_n d_Z_joins_41 rfl ?_
      refine pe_geti f_Z_63 d_Z_joins_42 rfl rfl 6 rfl ?_
      refine pe_iload_n d_Z_joins_45 rfl ?_
      refine pe_iload_n d_Z_joins_46 rfl ?_
      refine pe_s2p d_Z_joins_47 c_Z_75 z_C_withMark (t_C_withMark (by first | exact hB _ _ | exact ⟨by omega, by omega⟩) (by first | exact hB _ _ | exact ⟨by omega, by omega⟩)) (fun z47 hz47 => ?_)
      refine pe_aload_n d_Z_joins_50 rfl ?_
      refine pe_getr f_Z_14 d_Z_joins_51 rfl rfl ?_
      refine pe_aload_n d_Z_joins_54 rfl ?_
      refine pe_geti f_Z_60 d_Z_joins_55 rfl rfl 5 rfl ?_
      refine pe_aload_n d_Z_joins_58 rfl ?_
      refine pe_geti f_Z_63 d_Z_joins_59 rfl rfl 6 rfl ?_
      refine pe_v2p d_Z_joins_62 c_Z_78 i_G_lookAt s_G_lookAt rfl rfl (t_G_lookAt_25 hB (by omega) (by first | exact hB _ _ | exact ⟨by omega, by omega⟩) (by first | exact hB _ _ | exact ⟨by omega, by omega⟩)) (fun z62 hz62 => ?_)
      refine pe_v4v d_Z_joins_65 c_Z_81 i_G_put s_G_put rfl rfl (t_G_put_25 hB (by omega) (by first | exact hB _ _ | exact ⟨by omega, by omega⟩) (by first | exact hB _ _ | exact ⟨by omega, by omega⟩) (by first | exact hB _ _ | exact ⟨by omega, by omega⟩) (by first | exact hB _ _ | exact ⟨by omega, by omega⟩)) (fun σ65 hz65 => ?_)
      obtain ⟨hB, f65⟩ := hz65
      try have u65_0 : σ65 24 1 = σ 24 1 := by first | exact o65 1 (by decide) | exact congrFun (f65 24 (by decide)) 1
      try have u65_1 : σ65 24 2 = σ 24 2 := by first | exact o65 2 (by decide) | exact congrFun (f65 24 (by decide)) 2
      try have u65_2 : σ65 25 2 = σ 25 2 := by first | exact o65 2 (by decide) | exact congrFun (f65 25 (by decide)) 2
      try have u65_3 : σ65 25 3 = σ 25 3 := by first | exact o65 3 (by decide) | exact congrFun (f65 25 (by decide)) 3
      refine pe_iconst d_Z_joins_68 ?_
      refine pe_rz d_Z_joins_69 (by first | exact Or.inl rfl | exact Or.inr rfl | omega) ?_
      exact ⟨hB, (fun b hb => (f65 b (by simp at hb ⊢; try omega)).trans (rfl)), by omega⟩
    · skip
      refine pe_iconst d_Z_joins_31 ?_
      refine pe_rz d_Z_joins_32 (by first | exact Or.inl rfl | exact Or.inr rfl | omega) ?_
      exact ⟨hB, (fun b hb => rfl), by omega⟩
set_option maxHeartbeats 1000000 in
theorem t_Z_writeCells {σ : pe_H} {k : Int} (hB : pe_B σ) (hd : 1 ≤ σ 25 2 ∧ σ 25 2 ≤ 24 ∧ 1 ≤ σ 25 3 ∧ σ 25 3 ≤ 8) (ht : 0 ≤ σ 24 1 ∧ σ 24 1 ≤ 8 ∧ 0 ≤ σ 24 2 ∧ σ 24 2 ≤ 24) (hk : pe_R k) : pe_M m_Z_writeCells [pe_r 24, pe_i k] σ (pe_qv (fun σ' => pe_B σ' ∧ (∀ b, b ∉ [24, 26, 27] → σ' b = σ b) ∧ (0 ≤ σ' 24 1 ∧ σ' 24 1 ≤ 8 ∧ 0 ≤ σ' 24 2 ∧ σ' 24 2 ≤ 24))) := by
  refine pe_in0 (lv := [some (pe_r 24), some (pe_i k), none]) ?_
  have J130 : ∀ wt : Int × pe_H, ((wt.1 = 1 ∨ wt.1 = 2) ∧ pe_B wt.2 ∧ (∀ b, b ∉ [26, 27] → wt.2 b = σ b)) → pe_G m_Z_writeCells 130 [some (pe_r 24), some (pe_i k), some (pe_i wt.1)] [] wt.2 (pe_qv (fun σ' => pe_B σ' ∧ (∀ b, b ∉ [24, 26, 27] → σ' b = σ b) ∧ (0 ≤ σ' 24 1 ∧ σ' 24 1 ≤ 8 ∧ 0 ≤ σ' 24 2 ∧ σ' 24 2 ≤ 24))) := by
    intro wt hI
    obtain ⟨w, τ⟩ := wt
    dsimp only at hI ⊢
    obtain ⟨hw, hI⟩ := hI
    obtain ⟨hB, hfr⟩ := hI
    have v_24_1 : τ 24 1 = σ 24 1 := congrFun (hfr 24 (by decide)) 1
    have v_24_2 : τ 24 2 = σ 24 2 := congrFun (hfr 24 (by decide)) 2
    have v_25_2 : τ 25 2 = σ 25 2 := congrFun (hfr 25 (by decide)) 2
    have v_25_3 : τ 25 3 = σ 25 3 := congrFun (hfr 25 (by decide)) 3
    refine pe_aload_n d_Z_writeCells_130 rfl ?_
    refine pe_aload_n d_Z_writeCells_131 rfl ?_
    refine pe_geti f_Z_33 d_Z_writeCells_132 rfl rfl 1 rfl ?_
    refine pe_putiT f_Z_60 g_10_5 d_Z_writeCells_135 rfl rfl 5 rfl hB (by first | exact hB _ _ | exact ⟨by omega, by omega⟩) (fun σ135 hB e135 o135 f135 => ?_)
    try have u135_0 : σ135 24 1 = τ 24 1 := by first | exact o135 1 (by decide) | exact congrFun (f135 24 (by decide)) 1
    try have u135_1 : σ135 24 2 = τ 24 2 := by first | exact o135 2 (by decide) | exact congrFun (f135 24 (by decide)) 2
    try have u135_2 : σ135 25 2 = τ 25 2 := by first | exact o135 2 (by decide) | exact congrFun (f135 25 (by decide)) 2
    try have u135_3 : σ135 25 3 = τ 25 3 := by first | exact o135 3 (by decide) | exact congrFun (f135 25 (by decide)) 3
    refine pe_aload_n d_Z_writeCells_138 rfl ?_
    refine pe_aload_n d_Z_writeCells_139 rfl ?_
    refine pe_geti f_Z_46 d_Z_writeCells_140 rfl rfl 2 rfl ?_
    refine pe_putiT f_Z_63 g_10_6 d_Z_writeCells_143 rfl rfl 6 rfl hB (by first | exact hB _ _ | exact ⟨by omega, by omega⟩) (fun σ143 hB e143 o143 f143 => ?_)
    try have u143_0 : σ143 24 1 = σ135 24 1 := by first | exact o143 1 (by decide) | exact congrFun (f143 24 (by decide)) 1
    try have u143_1 : σ143 24 2 = σ135 24 2 := by first | exact o143 2 (by decide) | exact congrFun (f143 24 (by decide)) 2
    try have u143_2 : σ143 25 2 = σ135 25 2 := by first | exact o143 2 (by decide) | exact congrFun (f143 25 (by decide)) 2
    try have u143_3 : σ143 25 3 = σ135 25 3 := by first | exact o143 3 (by decide) | exact congrFun (f143 25 (by decide)) 3
    refine pe_aload_n d_Z_writeCells_146 rfl ?_
    refine pe_iconst d_Z_writeCells_147 ?_
    refine pe_putzT f_Z_69 g_10_7 d_Z_writeCells_148 rfl rfl (by first | exact Or.inl rfl | exact Or.inr rfl | omega) 7 rfl hB (fun σ148 hB e148 o148 f148 => ?_)
    try have u148_0 : σ148 24 1 = σ143 24 1 := by first | exact o148 1 (by decide) | exact congrFun (f148 24 (by decide)) 1
    try have u148_1 : σ148 24 2 = σ143 24 2 := by first | exact o148 2 (by decide) | exact congrFun (f148 24 (by decide)) 2
    try have u148_2 : σ148 25 2 = σ143 25 2 := by first | exact o148 2 (by decide) | exact congrFun (f148 25 (by decide)) 2
    try have u148_3 : σ148 25 3 = σ143 25 3 := by first | exact o148 3 (by decide) | exact congrFun (f148 25 (by decide)) 3
    refine pe_aload_n d_Z_writeCells_151 rfl ?_
    refine pe_aload_n d_Z_writeCells_152 rfl ?_
    refine pe_geti f_Z_46 d_Z_writeCells_153 rfl rfl 2 rfl ?_
    refine pe_iload_n d_Z_writeCells_156 rfl ?_
    refine pe_iadd d_Z_writeCells_157 ?_
    refine pe_aload_n d_Z_writeCells_158 rfl ?_
    refine pe_getr f_Z_14 d_Z_writeCells_159 rfl rfl ?_
    refine pe_geti f_Z_53 d_Z_writeCells_162 rfl rfl 2 rfl ?_
    refine pe_icmp_lt (t := 172) d_Z_writeCells_165 (by first | exact hB _ _ | exact ⟨by omega, by omega⟩) (by first | exact hB _ _ | exact ⟨by omega, by omega⟩) (fun h165 => ?_) (fun h165 => ?_)
    · skip
      refine pe_iconst d_Z_writeCells_172 ?_
      refine pe_putzT f_Z_29 g_10_3 d_Z_writeCells_173 rfl rfl (by first | exact Or.inl rfl | exact Or.inr rfl | omega) 3 rfl hB (fun σ173 hB e173 o173 f173 => ?_)
      try have u173_0 : σ173 24 1 = σ148 24 1 := by first | exact o173 1 (by decide) | exact congrFun (f173 24 (by decide)) 1
      try have u173_1 : σ173 24 2 = σ148 24 2 := by first | exact o173 2 (by decide) | exact congrFun (f173 24 (by decide)) 2
      try have u173_2 : σ173 25 2 = σ148 25 2 := by first | exact o173 2 (by decide) | exact congrFun (f173 25 (by decide)) 2
      try have u173_3 : σ173 25 3 = σ148 25 3 := by first | exact o173 3 (by decide) | exact congrFun (f173 25 (by decide)) 3
      refine pe_aload_n d_Z_writeCells_176 rfl ?_
      refine pe_aload_n d_Z_writeCells_177 rfl ?_
      refine pe_geti f_Z_46 d_Z_writeCells_178 rfl rfl 2 rfl ?_
      refine pe_iload_n d_Z_writeCells_181 rfl ?_
      refine pe_iadd d_Z_writeCells_182 ?_
      refine pe_aload_n d_Z_writeCells_183 rfl ?_
      refine pe_getr f_Z_14 d_Z_writeCells_184 rfl rfl ?_
      refine pe_geti f_Z_53 d_Z_writeCells_187 rfl rfl 2 rfl ?_
      refine pe_iconst d_Z_writeCells_190 ?_
      refine pe_isub d_Z_writeCells_191 ?_
      refine pe_min c_Z_40 z_min n_math k_min d_Z_writeCells_192 (by first | exact hB _ _ | exact ⟨by omega, by omega⟩) (by first | exact hB _ _ | exact ⟨by omega, by omega⟩) (by decide) (Nat.le_of_ble_eq_true rfl) ?_
      refine pe_putiT f_Z_46 g_10_2 d_Z_writeCells_195 rfl rfl 2 rfl hB (by first | exact hB _ _ | exact ⟨by omega, by omega⟩) (fun σ195 hB e195 o195 f195 => ?_)
      try have u195_0 : σ195 24 1 = σ173 24 1 := by first | exact o195 1 (by decide) | exact congrFun (f195 24 (by decide)) 1
      try have u195_1 : σ195 24 2 = σ173 24 2 := by first | exact o195 2 (by decide) | exact congrFun (f195 24 (by decide)) 2
      try have u195_2 : σ195 25 2 = σ173 25 2 := by first | exact o195 2 (by decide) | exact congrFun (f195 25 (by decide)) 2
      try have u195_3 : σ195 25 3 = σ173 25 3 := by first | exact o195 3 (by decide) | exact congrFun (f195 25 (by decide)) 3
      refine pe_rv d_Z_writeCells_198 ?_
      exact ⟨hB, (fun b hb => (f195 b (by simp at hb ⊢; try omega)).trans ((f173 b (by simp at hb ⊢; try omega)).trans ((f148 b (by simp at hb ⊢; try omega)).trans ((f143 b (by simp at hb ⊢; try omega)).trans ((f135 b (by simp at hb ⊢; try omega)).trans (hfr b (by simp at hb ⊢; try omega))))))), by omega⟩
    · skip
      refine pe_iconst d_Z_writeCells_168 ?_
      refine pe_goto (t := 173) d_Z_writeCells_169 ?_
      refine pe_putzT f_Z_29 g_10_3 d_Z_writeCells_173 rfl rfl (by first | exact Or.inl rfl | exact Or.inr rfl | omega) 3 rfl hB (fun σ173 hB e173 o173 f173 => ?_)
      try have u173_0 : σ173 24 1 = σ148 24 1 := by first | exact o173 1 (by decide) | exact congrFun (f173 24 (by decide)) 1
      try have u173_1 : σ173 24 2 = σ148 24 2 := by first | exact o173 2 (by decide) | exact congrFun (f173 24 (by decide)) 2
      try have u173_2 : σ173 25 2 = σ148 25 2 := by first | exact o173 2 (by decide) | exact congrFun (f173 25 (by decide)) 2
      try have u173_3 : σ173 25 3 = σ148 25 3 := by first | exact o173 3 (by decide) | exact congrFun (f173 25 (by decide)) 3
      refine pe_aload_n d_Z_writeCells_176 rfl ?_
      refine pe_aload_n d_Z_writeCells_177 rfl ?_
      refine pe_geti f_Z_46 d_Z_writeCells_178 rfl rfl 2 rfl ?_
      refine pe_iload_n d_Z_writeCells_181 rfl ?_
      refine pe_iadd d_Z_writeCells_182 ?_
      refine pe_aload_n d_Z_writeCells_183 rfl ?_
      refine pe_getr f_Z_14 d_Z_writeCells_184 rfl rfl ?_
      refine pe_geti f_Z_53 d_Z_writeCells_187 rfl rfl 2 rfl ?_
      refine pe_iconst d_Z_writeCells_190 ?_
      refine pe_isub d_Z_writeCells_191 ?_
      refine pe_min c_Z_40 z_min n_math k_min d_Z_writeCells_192 (by first | exact hB _ _ | exact ⟨by omega, by omega⟩) (by first | exact hB _ _ | exact ⟨by omega, by omega⟩) (by decide) (Nat.le_of_ble_eq_true rfl) ?_
      refine pe_putiT f_Z_46 g_10_2 d_Z_writeCells_195 rfl rfl 2 rfl hB (by first | exact hB _ _ | exact ⟨by omega, by omega⟩) (fun σ195 hB e195 o195 f195 => ?_)
      try have u195_0 : σ195 24 1 = σ173 24 1 := by first | exact o195 1 (by decide) | exact congrFun (f195 24 (by decide)) 1
      try have u195_1 : σ195 24 2 = σ173 24 2 := by first | exact o195 2 (by decide) | exact congrFun (f195 24 (by decide)) 2
      try have u195_2 : σ195 25 2 = σ173 25 2 := by first | exact o195 2 (by decide) | exact congrFun (f195 25 (by decide)) 2
      try have u195_3 : σ195 25 3 = σ173 25 3 := by first | exact o195 3 (by decide) | exact congrFun (f195 25 (by decide)) 3
      refine pe_rv d_Z_writeCells_198 ?_
      exact ⟨hB, (fun b hb => (f195 b (by simp at hb ⊢; try omega)).trans ((f173 b (by simp at hb ⊢; try omega)).trans ((f148 b (by simp at hb ⊢; try omega)).trans ((f143 b (by simp at hb ⊢; try omega)).trans ((f135 b (by simp at hb ⊢; try omega)).trans (hfr b (by simp at hb ⊢; try omega))))))), by omega⟩
  have J83 : ∀ wt : Int × pe_H, ((wt.1 = 1 ∨ wt.1 = 2) ∧ pe_B wt.2 ∧ (∀ b, b ∉ [26, 27] → wt.2 b = σ b)) → pe_G m_Z_writeCells 83 [some (pe_r 24), some (pe_i k), some (pe_i wt.1)] [] wt.2 (pe_qv (fun σ' => pe_B σ' ∧ (∀ b, b ∉ [24, 26, 27] → σ' b = σ b) ∧ (0 ≤ σ' 24 1 ∧ σ' 24 1 ≤ 8 ∧ 0 ≤ σ' 24 2 ∧ σ' 24 2 ≤ 24))) := by
    intro wt hI
    obtain ⟨w, τ⟩ := wt
    dsimp only at hI ⊢
    obtain ⟨hw, hI⟩ := hI
    obtain ⟨hB, hfr⟩ := hI
    have v_24_1 : τ 24 1 = σ 24 1 := congrFun (hfr 24 (by decide)) 1
    have v_24_2 : τ 24 2 = σ 24 2 := congrFun (hfr 24 (by decide)) 2
    have v_25_2 : τ 25 2 = σ 25 2 := congrFun (hfr 25 (by decide)) 2
    have v_25_3 : τ 25 3 = σ 25 3 := congrFun (hfr 25 (by decide)) 3
    refine pe_aload_n d_Z_writeCells_83 rfl ?_
    refine pe_getr f_Z_14 d_Z_writeCells_84 rfl rfl ?_
    refine pe_aload_n d_Z_writeCells_87 rfl ?_
    refine pe_geti f_Z_33 d_Z_writeCells_88 rfl rfl 1 rfl ?_
    refine pe_aload_n d_Z_writeCells_91 rfl ?_
    refine pe_geti f_Z_46 d_Z_writeCells_92 rfl rfl 2 rfl ?_
    refine pe_iload_n d_Z_writeCells_95 rfl ?_
    refine pe_aload_n d_Z_writeCells_96 rfl ?_
    refine pe_geti f_Z_85 d_Z_writeCells_97 rfl rfl 4 rfl ?_
    refine pe_v4v d_Z_writeCells_100 c_Z_81 i_G_put s_G_put rfl rfl (t_G_put_25 hB (by omega) (by first | exact hB _ _ | exact ⟨by omega, by omega⟩) (by first | exact hB _ _ | exact ⟨by omega, by omega⟩) (by first | exact hB _ _ | exact ⟨by omega, by omega⟩) (by first | exact hB _ _ | exact ⟨by omega, by omega⟩)) (fun σ100 hz100 => ?_)
    obtain ⟨hB, f100⟩ := hz100
    try have u100_0 : σ100 24 1 = τ 24 1 := by first | exact o100 1 (by decide) | exact congrFun (f100 24 (by decide)) 1
    try have u100_1 : σ100 24 2 = τ 24 2 := by first | exact o100 2 (by decide) | exact congrFun (f100 24 (by decide)) 2
    try have u100_2 : σ100 25 2 = τ 25 2 := by first | exact o100 2 (by decide) | exact congrFun (f100 25 (by decide)) 2
    try have u100_3 : σ100 25 3 = τ 25 3 := by first | exact o100 3 (by decide) | exact congrFun (f100 25 (by decide)) 3
    refine pe_iload_n d_Z_writeCells_103 rfl ?_
    refine pe_iconst d_Z_writeCells_104 ?_
    refine pe_icmp_ne (t := 130) d_Z_writeCells_105 (by first | exact hB _ _ | exact ⟨by omega, by omega⟩) (by first | exact hB _ _ | exact ⟨by omega, by omega⟩) (fun h105 => ?_) (fun h105 => ?_)
    · skip
      exact J130 (_, _) ⟨by (try dsimp only); omega, hB, (fun b hb => (f100 b (by simp at hb ⊢; try omega)).trans (hfr b (by simp at hb ⊢; try omega)))⟩
    · skip
      refine pe_aload_n d_Z_writeCells_108 rfl ?_
      refine pe_getr f_Z_14 d_Z_writeCells_109 rfl rfl ?_
      refine pe_aload_n d_Z_writeCells_112 rfl ?_
      refine pe_geti f_Z_33 d_Z_writeCells_113 rfl rfl 1 rfl ?_
      refine pe_aload_n d_Z_writeCells_116 rfl ?_
      refine pe_geti f_Z_46 d_Z_writeCells_117 rfl rfl 2 rfl ?_
      refine pe_iconst d_Z_writeCells_120 ?_
      refine pe_iadd d_Z_writeCells_121 ?_
      refine pe_iconst d_Z_writeCells_122 ?_
      refine pe_aload_n d_Z_writeCells_123 rfl ?_
      refine pe_geti f_Z_85 d_Z_writeCells_124 rfl rfl 4 rfl ?_
      refine pe_v4v d_Z_writeCells_127 c_Z_81 i_G_put s_G_put rfl rfl (t_G_put_25 hB (by omega) (by first | exact hB _ _ | exact ⟨by omega, by omega⟩) (by first | exact hB _ _ | exact ⟨by omega, by omega⟩) (by first | exact hB _ _ | exact ⟨by omega, by omega⟩) (by first | exact hB _ _ | exact ⟨by omega, by omega⟩)) (fun σ127 hz127 => ?_)
      obtain ⟨hB, f127⟩ := hz127
      try have u127_0 : σ127 24 1 = σ100 24 1 := by first | exact o127 1 (by decide) | exact congrFun (f127 24 (by decide)) 1
      try have u127_1 : σ127 24 2 = σ100 24 2 := by first | exact o127 2 (by decide) | exact congrFun (f127 24 (by decide)) 2
      try have u127_2 : σ127 25 2 = σ100 25 2 := by first | exact o127 2 (by decide) | exact congrFun (f127 25 (by decide)) 2
      try have u127_3 : σ127 25 3 = σ100 25 3 := by first | exact o127 3 (by decide) | exact congrFun (f127 25 (by decide)) 3
      exact J130 (_, _) ⟨by (try dsimp only); omega, hB, (fun b hb => (f127 b (by simp at hb ⊢; try omega)).trans ((f100 b (by simp at hb ⊢; try omega)).trans (hfr b (by simp at hb ⊢; try omega))))⟩
  have J43 : ∀ wt : Int × pe_H, ((wt.1 = 1 ∨ wt.1 = 2) ∧ pe_B wt.2 ∧ (∀ b, b ∉ [26, 27] → wt.2 b = σ b)) → pe_G m_Z_writeCells 43 [some (pe_r 24), some (pe_i k), some (pe_i wt.1)] [] wt.2 (pe_qv (fun σ' => pe_B σ' ∧ (∀ b, b ∉ [24, 26, 27] → σ' b = σ b) ∧ (0 ≤ σ' 24 1 ∧ σ' 24 1 ≤ 8 ∧ 0 ≤ σ' 24 2 ∧ σ' 24 2 ≤ 24))) := by
    intro wt hI
    obtain ⟨w, τ⟩ := wt
    dsimp only at hI ⊢
    obtain ⟨hw, hI⟩ := hI
    obtain ⟨hB, hfr⟩ := hI
    have v_24_1 : τ 24 1 = σ 24 1 := congrFun (hfr 24 (by decide)) 1
    have v_24_2 : τ 24 2 = σ 24 2 := congrFun (hfr 24 (by decide)) 2
    have v_25_2 : τ 25 2 = σ 25 2 := congrFun (hfr 25 (by decide)) 2
    have v_25_3 : τ 25 3 = σ 25 3 := congrFun (hfr 25 (by decide)) 3
    refine pe_aload_n d_Z_writeCells_43 rfl ?_
    refine pe_getr f_Z_14 d_Z_writeCells_44 rfl rfl ?_
    refine pe_aload_n d_Z_writeCells_47 rfl ?_
    refine pe_geti f_Z_33 d_Z_writeCells_48 rfl rfl 1 rfl ?_
    refine pe_aload_n d_Z_writeCells_51 rfl ?_
    refine pe_geti f_Z_46 d_Z_writeCells_52 rfl rfl 2 rfl ?_
    refine pe_iload_n d_Z_writeCells_55 rfl ?_
    refine pe_iadd d_Z_writeCells_56 ?_
    refine pe_v2p d_Z_writeCells_57 c_Z_66 i_G_clusterAt s_G_clusterAt rfl rfl (t_G_clusterAt_25 hB (by omega) (by first | exact hB _ _ | exact ⟨by omega, by omega⟩) (by first | exact hB _ _ | exact ⟨by omega, by omega⟩)) (fun z57 hz57 => ?_)
    refine pe_if_ne (t := 83) d_Z_writeCells_60 (by first | exact hB _ _ | exact ⟨by omega, by omega⟩) (fun h60 => ?_) (fun h60 => ?_)
    · skip
      exact J83 (_, _) ⟨by (try dsimp only); omega, hB, (fun b hb => hfr b (by simp at hb ⊢; try omega))⟩
    · skip
      refine pe_aload_n d_Z_writeCells_63 rfl ?_
      refine pe_getr f_Z_14 d_Z_writeCells_64 rfl rfl ?_
      refine pe_aload_n d_Z_writeCells_67 rfl ?_
      refine pe_geti f_Z_33 d_Z_writeCells_68 rfl rfl 1 rfl ?_
      refine pe_aload_n d_Z_writeCells_71 rfl ?_
      refine pe_geti f_Z_46 d_Z_writeCells_72 rfl rfl 2 rfl ?_
      refine pe_iload_n d_Z_writeCells_75 rfl ?_
      refine pe_iadd d_Z_writeCells_76 ?_
      refine pe_bipush d_Z_writeCells_77 ?_
      refine pe_iconst d_Z_writeCells_79 ?_
      refine pe_v4v d_Z_writeCells_80 c_Z_81 i_G_put s_G_put rfl rfl (t_G_put_25 hB (by omega) (by first | exact hB _ _ | exact ⟨by omega, by omega⟩) (by first | exact hB _ _ | exact ⟨by omega, by omega⟩) (by first | exact hB _ _ | exact ⟨by omega, by omega⟩) (by first | exact hB _ _ | exact ⟨by omega, by omega⟩)) (fun σ80 hz80 => ?_)
      obtain ⟨hB, f80⟩ := hz80
      try have u80_0 : σ80 24 1 = τ 24 1 := by first | exact o80 1 (by decide) | exact congrFun (f80 24 (by decide)) 1
      try have u80_1 : σ80 24 2 = τ 24 2 := by first | exact o80 2 (by decide) | exact congrFun (f80 24 (by decide)) 2
      try have u80_2 : σ80 25 2 = τ 25 2 := by first | exact o80 2 (by decide) | exact congrFun (f80 25 (by decide)) 2
      try have u80_3 : σ80 25 3 = τ 25 3 := by first | exact o80 3 (by decide) | exact congrFun (f80 25 (by decide)) 3
      exact J83 (_, _) ⟨by (try dsimp only); omega, hB, (fun b hb => (f80 b (by simp at hb ⊢; try omega)).trans (hfr b (by simp at hb ⊢; try omega)))⟩
  refine pe_iload_n d_Z_writeCells_0 rfl ?_
  refine pe_s1p d_Z_writeCells_1 c_Z_49 z_C_widthOf (t_C_widthOf (by first | exact hB _ _ | exact ⟨by omega, by omega⟩)) (fun z1 hz1 => ?_)
  refine pe_istore_n d_Z_writeCells_4 ?_
  refine pe_aload_n d_Z_writeCells_5 rfl ?_
  refine pe_getr f_Z_14 d_Z_writeCells_6 rfl rfl ?_
  refine pe_aload_n d_Z_writeCells_9 rfl ?_
  refine pe_geti f_Z_33 d_Z_writeCells_10 rfl rfl 1 rfl ?_
  refine pe_aload_n d_Z_writeCells_13 rfl ?_
  refine pe_geti f_Z_46 d_Z_writeCells_14 rfl rfl 2 rfl ?_
  refine pe_v2p d_Z_writeCells_17 c_Z_66 i_G_clusterAt s_G_clusterAt rfl rfl (t_G_clusterAt_25 hB (by omega) (by first | exact hB _ _ | exact ⟨by omega, by omega⟩) (by first | exact hB _ _ | exact ⟨by omega, by omega⟩)) (fun z17 hz17 => ?_)
  refine pe_if_ne (t := 43) d_Z_writeCells_20 (by first | exact hB _ _ | exact ⟨by omega, by omega⟩) (fun h20 => ?_) (fun h20 => ?_)
  · skip
    exact J43 (_, _) ⟨by (try dsimp only); omega, hB, (fun b hb => rfl)⟩
  · skip
    refine pe_aload_n d_Z_writeCells_23 rfl ?_
    refine pe_getr f_Z_14 d_Z_writeCells_24 rfl rfl ?_
    refine pe_aload_n d_Z_writeCells_27 rfl ?_
    refine pe_geti f_Z_33 d_Z_writeCells_28 rfl rfl 1 rfl ?_
    refine pe_aload_n d_Z_writeCells_31 rfl ?_
    refine pe_geti f_Z_46 d_Z_writeCells_32 rfl rfl 2 rfl ?_
    refine pe_iconst d_Z_writeCells_35 ?_
    refine pe_isub d_Z_writeCells_36 ?_
    refine pe_bipush d_Z_writeCells_37 ?_
    refine pe_iconst d_Z_writeCells_39 ?_
    refine pe_v4v d_Z_writeCells_40 c_Z_81 i_G_put s_G_put rfl rfl (t_G_put_25 hB (by omega) (by first | exact hB _ _ | exact ⟨by omega, by omega⟩) (by first | exact hB _ _ | exact ⟨by omega, by omega⟩) (by first | exact hB _ _ | exact ⟨by omega, by omega⟩) (by first | exact hB _ _ | exact ⟨by omega, by omega⟩)) (fun σ40 hz40 => ?_)
    obtain ⟨hB, f40⟩ := hz40
    try have u40_0 : σ40 24 1 = σ 24 1 := by first | exact o40 1 (by decide) | exact congrFun (f40 24 (by decide)) 1
    try have u40_1 : σ40 24 2 = σ 24 2 := by first | exact o40 2 (by decide) | exact congrFun (f40 24 (by decide)) 2
    try have u40_2 : σ40 25 2 = σ 25 2 := by first | exact o40 2 (by decide) | exact congrFun (f40 25 (by decide)) 2
    try have u40_3 : σ40 25 3 = σ 25 3 := by first | exact o40 3 (by decide) | exact congrFun (f40 25 (by decide)) 3
    exact J43 (_, _) ⟨by (try dsimp only); omega, hB, (fun b hb => (f40 b (by simp at hb ⊢; try omega)).trans (rfl))⟩
theorem t_Z_write {σ : pe_H} {k : Int} (hB : pe_B σ) (hd : 1 ≤ σ 25 2 ∧ σ 25 2 ≤ 24 ∧ 1 ≤ σ 25 3 ∧ σ 25 3 ≤ 8) (ht : 0 ≤ σ 24 1 ∧ σ 24 1 ≤ 8 ∧ 0 ≤ σ 24 2 ∧ σ 24 2 ≤ 24) (hk : pe_R k) : pe_M m_Z_write [pe_r 24, pe_i k] σ (pe_qv (fun σ' => pe_B σ' ∧ (∀ b, b ∉ [24, 26, 27] → σ' b = σ b) ∧ (0 ≤ σ' 24 1 ∧ σ' 24 1 ≤ 8 ∧ 0 ≤ σ' 24 2 ∧ σ' 24 2 ≤ 24))) := by
  refine pe_in0 (lv := [some (pe_r 24), some (pe_i k), none]) ?_
  have J50 : ∀ τ : pe_H, (pe_B τ ∧ (∀ b, b ∉ [24, 26, 27] → τ b = σ b) ∧ (0 ≤ τ 24 1 ∧ τ 24 1 ≤ 8 ∧ 0 ≤ τ 24 2 ∧ τ 24 2 ≤ 24)) → pe_G m_Z_write 50 [some (pe_r 24), some (pe_i k), none] [] τ (pe_qv (fun σ' => pe_B σ' ∧ (∀ b, b ∉ [24, 26, 27] → σ' b = σ b) ∧ (0 ≤ σ' 24 1 ∧ σ' 24 1 ≤ 8 ∧ 0 ≤ σ' 24 2 ∧ σ' 24 2 ≤ 24))) := by
    intro τ hI
    obtain ⟨hB, hfr, hX⟩ := hI
    have v_25_2 : τ 25 2 = σ 25 2 := congrFun (hfr 25 (by decide)) 2
    have v_25_3 : τ 25 3 = σ 25 3 := congrFun (hfr 25 (by decide)) 3
    refine pe_aload_n d_Z_write_50 rfl ?_
    refine pe_geti f_Z_46 d_Z_write_51 rfl rfl 2 rfl ?_
    refine pe_iload_n d_Z_write_54 rfl ?_
    refine pe_s1p d_Z_write_55 c_Z_49 z_C_widthOf (t_C_widthOf (by first | exact hB _ _ | exact ⟨by omega, by omega⟩)) (fun z55 hz55 => ?_)
    refine pe_iadd d_Z_write_58 ?_
    refine pe_aload_n d_Z_write_59 rfl ?_
    refine pe_getr f_Z_14 d_Z_write_60 rfl rfl ?_
    refine pe_geti f_Z_53 d_Z_write_63 rfl rfl 2 rfl ?_
    refine pe_icmp_gt (t := 73) d_Z_write_66 (by first | exact hB _ _ | exact ⟨by omega, by omega⟩) (by first | exact hB _ _ | exact ⟨by omega, by omega⟩) (fun h66 => ?_) (fun h66 => ?_)
    · skip
      refine pe_iconst d_Z_write_73 ?_
      refine pe_istore_n d_Z_write_74 ?_
      refine pe_aload_n d_Z_write_75 rfl ?_
      refine pe_iload_n d_Z_write_76 rfl ?_
      refine pe_if_eq (t := 84) d_Z_write_77 (by first | exact hB _ _ | exact ⟨by omega, by omega⟩) (fun h77 => ?_) (fun h77 => ?_)
      · skip
        refine pe_bipush d_Z_write_84 ?_
        refine pe_v1v d_Z_write_86 c_Z_56 i_Z_writeCells s_Z_writeCells rfl rfl (t_Z_writeCells hB (by omega) (by omega) (by first | exact hB _ _ | exact ⟨by omega, by omega⟩)) (fun σ86 hz86 => ?_)
        obtain ⟨hB, f86, x86⟩ := hz86
        try have u86_0 : σ86 24 1 = τ 24 1 := by first | exact o86 1 (by decide) | exact congrFun (f86 24 (by decide)) 1
        try have u86_1 : σ86 24 2 = τ 24 2 := by first | exact o86 2 (by decide) | exact congrFun (f86 24 (by decide)) 2
        try have u86_2 : σ86 25 2 = τ 25 2 := by first | exact o86 2 (by decide) | exact congrFun (f86 25 (by decide)) 2
        try have u86_3 : σ86 25 3 = τ 25 3 := by first | exact o86 3 (by decide) | exact congrFun (f86 25 (by decide)) 3
        refine pe_rv d_Z_write_89 ?_
        exact ⟨hB, (fun b hb => (f86 b (by simp at hb ⊢; try omega)).trans (hfr b (by simp at hb ⊢; try omega))), by omega⟩
      · skip
        refine pe_iload_n d_Z_write_80 rfl ?_
        refine pe_goto (t := 86) d_Z_write_81 ?_
        refine pe_v1v d_Z_write_86 c_Z_56 i_Z_writeCells s_Z_writeCells rfl rfl (t_Z_writeCells hB (by omega) (by omega) (by first | exact hB _ _ | exact ⟨by omega, by omega⟩)) (fun σ86 hz86 => ?_)
        obtain ⟨hB, f86, x86⟩ := hz86
        try have u86_0 : σ86 24 1 = τ 24 1 := by first | exact o86 1 (by decide) | exact congrFun (f86 24 (by decide)) 1
        try have u86_1 : σ86 24 2 = τ 24 2 := by first | exact o86 2 (by decide) | exact congrFun (f86 24 (by decide)) 2
        try have u86_2 : σ86 25 2 = τ 25 2 := by first | exact o86 2 (by decide) | exact congrFun (f86 25 (by decide)) 2
        try have u86_3 : σ86 25 3 = τ 25 3 := by first | exact o86 3 (by decide) | exact congrFun (f86 25 (by decide)) 3
        refine pe_rv d_Z_write_89 ?_
        exact ⟨hB, (fun b hb => (f86 b (by simp at hb ⊢; try omega)).trans (hfr b (by simp at hb ⊢; try omega))), by omega⟩
    · skip
      refine pe_iconst d_Z_write_69 ?_
      refine pe_goto (t := 74) d_Z_write_70 ?_
      refine pe_istore_n d_Z_write_74 ?_
      refine pe_aload_n d_Z_write_75 rfl ?_
      refine pe_iload_n d_Z_write_76 rfl ?_
      refine pe_if_eq (t := 84) d_Z_write_77 (by first | exact hB _ _ | exact ⟨by omega, by omega⟩) (fun h77 => ?_) (fun h77 => ?_)
      · skip
        refine pe_bipush d_Z_write_84 ?_
        refine pe_v1v d_Z_write_86 c_Z_56 i_Z_writeCells s_Z_writeCells rfl rfl (t_Z_writeCells hB (by omega) (by omega) (by first | exact hB _ _ | exact ⟨by omega, by omega⟩)) (fun σ86 hz86 => ?_)
        obtain ⟨hB, f86, x86⟩ := hz86
        try have u86_0 : σ86 24 1 = τ 24 1 := by first | exact o86 1 (by decide) | exact congrFun (f86 24 (by decide)) 1
        try have u86_1 : σ86 24 2 = τ 24 2 := by first | exact o86 2 (by decide) | exact congrFun (f86 24 (by decide)) 2
        try have u86_2 : σ86 25 2 = τ 25 2 := by first | exact o86 2 (by decide) | exact congrFun (f86 25 (by decide)) 2
        try have u86_3 : σ86 25 3 = τ 25 3 := by first | exact o86 3 (by decide) | exact congrFun (f86 25 (by decide)) 3
        refine pe_rv d_Z_write_89 ?_
        exact ⟨hB, (fun b hb => (f86 b (by simp at hb ⊢; try omega)).trans (hfr b (by simp at hb ⊢; try omega))), by omega⟩
      · skip
        refine pe_iload_n d_Z_write_80 rfl ?_
        refine pe_goto (t := 86) d_Z_write_81 ?_
        refine pe_v1v d_Z_write_86 c_Z_56 i_Z_writeCells s_Z_writeCells rfl rfl (t_Z_writeCells hB (by omega) (by omega) (by first | exact hB _ _ | exact ⟨by omega, by omega⟩)) (fun σ86 hz86 => ?_)
        obtain ⟨hB, f86, x86⟩ := hz86
        try have u86_0 : σ86 24 1 = τ 24 1 := by first | exact o86 1 (by decide) | exact congrFun (f86 24 (by decide)) 1
        try have u86_1 : σ86 24 2 = τ 24 2 := by first | exact o86 2 (by decide) | exact congrFun (f86 24 (by decide)) 2
        try have u86_2 : σ86 25 2 = τ 25 2 := by first | exact o86 2 (by decide) | exact congrFun (f86 25 (by decide)) 2
        try have u86_3 : σ86 25 3 = τ 25 3 := by first | exact o86 3 (by decide) | exact congrFun (f86 25 (by decide)) 3
        refine pe_rv d_Z_write_89 ?_
        exact ⟨hB, (fun b hb => (f86 b (by simp at hb ⊢; try omega)).trans (hfr b (by simp at hb ⊢; try omega))), by omega⟩
  have J16 : ∀ τ : pe_H, (pe_B τ ∧ (∀ b, b ∉ [26, 27] → τ b = σ b)) → pe_G m_Z_write 16 [some (pe_r 24), some (pe_i k), none] [] τ (pe_qv (fun σ' => pe_B σ' ∧ (∀ b, b ∉ [24, 26, 27] → σ' b = σ b) ∧ (0 ≤ σ' 24 1 ∧ σ' 24 1 ≤ 8 ∧ 0 ≤ σ' 24 2 ∧ σ' 24 2 ≤ 24))) := by
    intro τ hI
    obtain ⟨hB, hfr⟩ := hI
    have v_24_1 : τ 24 1 = σ 24 1 := congrFun (hfr 24 (by decide)) 1
    have v_24_2 : τ 24 2 = σ 24 2 := congrFun (hfr 24 (by decide)) 2
    have v_25_2 : τ 25 2 = σ 25 2 := congrFun (hfr 25 (by decide)) 2
    have v_25_3 : τ 25 3 = σ 25 3 := congrFun (hfr 25 (by decide)) 3
    refine pe_aload_n d_Z_write_16 rfl ?_
    refine pe_geti f_Z_29 d_Z_write_17 rfl rfl 3 rfl ?_
    refine pe_if_eq (t := 50) d_Z_write_20 (by first | exact hB _ _ | exact ⟨by omega, by omega⟩) (fun h20 => ?_) (fun h20 => ?_)
    · skip
      exact J50 _ ⟨hB, (fun b hb => hfr b (by simp at hb ⊢; try omega)), by omega⟩
    · skip
      refine pe_aload_n d_Z_write_23 rfl ?_
      refine pe_aload_n d_Z_write_24 rfl ?_
      refine pe_geti f_Z_33 d_Z_write_25 rfl rfl 1 rfl ?_
      refine pe_iconst d_Z_write_28 ?_
      refine pe_iadd d_Z_write_29 ?_
      refine pe_aload_n d_Z_write_30 rfl ?_
      refine pe_getr f_Z_14 d_Z_write_31 rfl rfl ?_
      refine pe_geti f_Z_37 d_Z_write_34 rfl rfl 3 rfl ?_
      refine pe_iconst d_Z_write_37 ?_
      refine pe_isub d_Z_write_38 ?_
      refine pe_min c_Z_40 z_min n_math k_min d_Z_write_39 (by first | exact hB _ _ | exact ⟨by omega, by omega⟩) (by first | exact hB _ _ | exact ⟨by omega, by omega⟩) (by decide) (Nat.le_of_ble_eq_true rfl) ?_
      refine pe_putiT f_Z_33 g_10_1 d_Z_write_42 rfl rfl 1 rfl hB (by first | exact hB _ _ | exact ⟨by omega, by omega⟩) (fun σ42 hB e42 o42 f42 => ?_)
      try have u42_0 : σ42 24 1 = τ 24 1 := by first | exact o42 1 (by decide) | exact congrFun (f42 24 (by decide)) 1
      try have u42_1 : σ42 24 2 = τ 24 2 := by first | exact o42 2 (by decide) | exact congrFun (f42 24 (by decide)) 2
      try have u42_2 : σ42 25 2 = τ 25 2 := by first | exact o42 2 (by decide) | exact congrFun (f42 25 (by decide)) 2
      try have u42_3 : σ42 25 3 = τ 25 3 := by first | exact o42 3 (by decide) | exact congrFun (f42 25 (by decide)) 3
      refine pe_aload_n d_Z_write_45 rfl ?_
      refine pe_iconst d_Z_write_46 ?_
      refine pe_putiT f_Z_46 g_10_2 d_Z_write_47 rfl rfl 2 rfl hB (by first | exact hB _ _ | exact ⟨by omega, by omega⟩) (fun σ47 hB e47 o47 f47 => ?_)
      try have u47_0 : σ47 24 1 = σ42 24 1 := by first | exact o47 1 (by decide) | exact congrFun (f47 24 (by decide)) 1
      try have u47_1 : σ47 24 2 = σ42 24 2 := by first | exact o47 2 (by decide) | exact congrFun (f47 24 (by decide)) 2
      try have u47_2 : σ47 25 2 = σ42 25 2 := by first | exact o47 2 (by decide) | exact congrFun (f47 25 (by decide)) 2
      try have u47_3 : σ47 25 3 = σ42 25 3 := by first | exact o47 3 (by decide) | exact congrFun (f47 25 (by decide)) 3
      exact J50 _ ⟨hB, (fun b hb => (f47 b (by simp at hb ⊢; try omega)).trans ((f42 b (by simp at hb ⊢; try omega)).trans (hfr b (by simp at hb ⊢; try omega)))), by omega⟩
  refine pe_iload_n d_Z_write_0 rfl ?_
  refine pe_s1p d_Z_write_1 c_Z_20 z_C_isMark (t_C_isMark (by first | exact hB _ _ | exact ⟨by omega, by omega⟩)) (fun z1 hz1 => ?_)
  refine pe_if_eq (t := 16) d_Z_write_4 (by first | exact hB _ _ | exact ⟨by omega, by omega⟩) (fun h4 => ?_) (fun h4 => ?_)
  · skip
    exact J16 _ ⟨hB, (fun b hb => rfl)⟩
  · skip
    refine pe_aload_n d_Z_write_7 rfl ?_
    refine pe_iload_n d_Z_write_8 rfl ?_
    refine pe_v1i d_Z_write_9 c_Z_26 i_Z_joins s_Z_joins rfl rfl (t_Z_joins hB (by omega) (by omega) (by first | exact hB _ _ | exact ⟨by omega, by omega⟩)) (fun z9 σ9 hz9 => ?_)
    obtain ⟨hB, f9, x9⟩ := hz9
    try have u9_0 : σ9 24 1 = σ 24 1 := by first | exact o9 1 (by decide) | exact congrFun (f9 24 (by decide)) 1
    try have u9_1 : σ9 24 2 = σ 24 2 := by first | exact o9 2 (by decide) | exact congrFun (f9 24 (by decide)) 2
    try have u9_2 : σ9 25 2 = σ 25 2 := by first | exact o9 2 (by decide) | exact congrFun (f9 25 (by decide)) 2
    try have u9_3 : σ9 25 3 = σ 25 3 := by first | exact o9 3 (by decide) | exact congrFun (f9 25 (by decide)) 3
    refine pe_if_eq (t := 16) d_Z_write_12 (by first | exact hB _ _ | exact ⟨by omega, by omega⟩) (fun h12 => ?_) (fun h12 => ?_)
    · skip
      exact J16 _ ⟨hB, (fun b hb => (f9 b (by simp at hb ⊢; try omega)).trans (rfl))⟩
    · skip
      refine pe_rv d_Z_write_15 ?_
      exact ⟨hB, (fun b hb => (f9 b (by simp at hb ⊢; try omega)).trans (rfl)), by omega⟩
end
