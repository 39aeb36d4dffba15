section
-- ===== PART A: goes FIRST, ahead of the names: the tables' words, and 'selects' of the private methods out of them =====
/-- a private method of a class that the tables say can be made, by its rows of tables_1 -/
def lw_okq (q : MethodName × Nat) : Prop := (q.1.cls ≠ "java/lang/invoke/MethodHandle" ∧ q.1.cls ≠ "java/lang/invoke/VarHandle") ∧ Cond.instantiable q.1.cls q.2 ∈ tables_1 ∧ Cond.privateMethod q.1 ∈ tables_1 ∧ Cond.instanceMethod q.1 ∈ tables_1
theorem lw_p0 : lw_okq (⟨"PaintEditor$Keyboard", "goesOn", "(I)Z"⟩, 7) := ⟨⟨by decide +kernel, by decide +kernel⟩, List.mem_of_getElem? (i := 39) (by decide +kernel), List.mem_of_getElem? (i := 361) (by decide +kernel), List.mem_of_getElem? (i := 362) (by decide +kernel)⟩
theorem lw_p1 : lw_okq (⟨"PaintEditor$Editor", "moveByRow", "(I)V"⟩, 12) := ⟨⟨by decide +kernel, by decide +kernel⟩, List.mem_of_getElem? (i := 68) (by decide +kernel), List.mem_of_getElem? (i := 382) (by decide +kernel), List.mem_of_getElem? (i := 383) (by decide +kernel)⟩
theorem lw_p2 : lw_okq (⟨"PaintEditor$Editor", "insertOne", "(I)V"⟩, 12) := ⟨⟨by decide +kernel, by decide +kernel⟩, List.mem_of_getElem? (i := 68) (by decide +kernel), List.mem_of_getElem? (i := 430) (by decide +kernel), List.mem_of_getElem? (i := 431) (by decide +kernel)⟩
theorem lw_p3 : lw_okq (⟨"PaintEditor$Editor", "insert", "([II)V"⟩, 12) := ⟨⟨by decide +kernel, by decide +kernel⟩, List.mem_of_getElem? (i := 68) (by decide +kernel), List.mem_of_getElem? (i := 434) (by decide +kernel), List.mem_of_getElem? (i := 435) (by decide +kernel)⟩
theorem lw_p4 : lw_okq (⟨"PaintEditor$History", "newSlot", "()I"⟩, 7) := ⟨⟨by decide +kernel, by decide +kernel⟩, List.mem_of_getElem? (i := 91) (by decide +kernel), List.mem_of_getElem? (i := 446) (by decide +kernel), List.mem_of_getElem? (i := 447) (by decide +kernel)⟩
theorem lw_p5 : lw_okq (⟨"PaintEditor$Editor", "command", "(I)V"⟩, 12) := ⟨⟨by decide +kernel, by decide +kernel⟩, List.mem_of_getElem? (i := 68) (by decide +kernel), List.mem_of_getElem? (i := 457) (by decide +kernel), List.mem_of_getElem? (i := 458) (by decide +kernel)⟩
theorem lw_p6 : lw_okq (⟨"PaintEditor$Editor", "removeBetween", "(II)V"⟩, 12) := ⟨⟨by decide +kernel, by decide +kernel⟩, List.mem_of_getElem? (i := 68) (by decide +kernel), List.mem_of_getElem? (i := 467) (by decide +kernel), List.mem_of_getElem? (i := 468) (by decide +kernel)⟩
theorem lw_p7 : lw_okq (⟨"PaintEditor$Editor", "cut", "()V"⟩, 12) := ⟨⟨by decide +kernel, by decide +kernel⟩, List.mem_of_getElem? (i := 68) (by decide +kernel), List.mem_of_getElem? (i := 496) (by decide +kernel), List.mem_of_getElem? (i := 497) (by decide +kernel)⟩
theorem lw_p8 : lw_okq (⟨"PaintEditor$Editor", "undo", "()V"⟩, 12) := ⟨⟨by decide +kernel, by decide +kernel⟩, List.mem_of_getElem? (i := 68) (by decide +kernel), List.mem_of_getElem? (i := 503) (by decide +kernel), List.mem_of_getElem? (i := 504) (by decide +kernel)⟩
theorem lw_p9 : lw_okq (⟨"PaintEditor$Keyboard", "takeInSequence", "(I)I"⟩, 7) := ⟨⟨by decide +kernel, by decide +kernel⟩, List.mem_of_getElem? (i := 39) (by decide +kernel), List.mem_of_getElem? (i := 517) (by decide +kernel), List.mem_of_getElem? (i := 518) (by decide +kernel)⟩
theorem lw_p10 : lw_okq (⟨"PaintEditor$Keyboard", "numberedKey", "()I"⟩, 7) := ⟨⟨by decide +kernel, by decide +kernel⟩, List.mem_of_getElem? (i := 39) (by decide +kernel), List.mem_of_getElem? (i := 528) (by decide +kernel), List.mem_of_getElem? (i := 529) (by decide +kernel)⟩
theorem lw_p11 : lw_okq (⟨"PaintEditor$Keyboard", "takeWithin", "(I)I"⟩, 7) := ⟨⟨by decide +kernel, by decide +kernel⟩, List.mem_of_getElem? (i := 39) (by decide +kernel), List.mem_of_getElem? (i := 535) (by decide +kernel), List.mem_of_getElem? (i := 536) (by decide +kernel)⟩
theorem lw_p12 : lw_okq (⟨"PaintEditor$Keyboard", "takePlain", "(I)I"⟩, 7) := ⟨⟨by decide +kernel, by decide +kernel⟩, List.mem_of_getElem? (i := 39) (by decide +kernel), List.mem_of_getElem? (i := 539) (by decide +kernel), List.mem_of_getElem? (i := 540) (by decide +kernel)⟩
theorem lw_p13 : lw_okq (⟨"PaintEditor$Keyboard", "beginCharacter", "(I)V"⟩, 7) := ⟨⟨by decide +kernel, by decide +kernel⟩, List.mem_of_getElem? (i := 39) (by decide +kernel), List.mem_of_getElem? (i := 543) (by decide +kernel), List.mem_of_getElem? (i := 544) (by decide +kernel)⟩
theorem lw_p14 : lw_okq (⟨"PaintEditor$Terminal", "endWriting", "()V"⟩, 8) := ⟨⟨by decide +kernel, by decide +kernel⟩, List.mem_of_getElem? (i := 285) (by decide +kernel), List.mem_of_getElem? (i := 594) (by decide +kernel), List.mem_of_getElem? (i := 595) (by decide +kernel)⟩
theorem lw_p15 : lw_okq (⟨"PaintEditor$Screen", "follow", "(I)V"⟩, 5) := ⟨⟨by decide +kernel, by decide +kernel⟩, List.mem_of_getElem? (i := 193) (by decide +kernel), List.mem_of_getElem? (i := 611) (by decide +kernel), List.mem_of_getElem? (i := 612) (by decide +kernel)⟩
def lw_privs_1 : List (MethodName × Nat) := [(⟨"PaintEditor$Keyboard", "goesOn", "(I)Z"⟩, 7), (⟨"PaintEditor$Editor", "moveByRow", "(I)V"⟩, 12), (⟨"PaintEditor$Editor", "insertOne", "(I)V"⟩, 12), (⟨"PaintEditor$Editor", "insert", "([II)V"⟩, 12), (⟨"PaintEditor$History", "newSlot", "()I"⟩, 7), (⟨"PaintEditor$Editor", "command", "(I)V"⟩, 12), (⟨"PaintEditor$Editor", "removeBetween", "(II)V"⟩, 12), (⟨"PaintEditor$Editor", "cut", "()V"⟩, 12), (⟨"PaintEditor$Editor", "undo", "()V"⟩, 12), (⟨"PaintEditor$Keyboard", "takeInSequence", "(I)I"⟩, 7), (⟨"PaintEditor$Keyboard", "numberedKey", "()I"⟩, 7), (⟨"PaintEditor$Keyboard", "takeWithin", "(I)I"⟩, 7), (⟨"PaintEditor$Keyboard", "takePlain", "(I)I"⟩, 7), (⟨"PaintEditor$Keyboard", "beginCharacter", "(I)V"⟩, 7), (⟨"PaintEditor$Terminal", "endWriting", "()V"⟩, 8), (⟨"PaintEditor$Screen", "follow", "(I)V"⟩, 5)]
theorem lw_r1 : ∀ q ∈ lw_privs_1, lw_okq q := List.forall_mem_cons.mpr ⟨lw_p0, List.forall_mem_cons.mpr ⟨lw_p1, List.forall_mem_cons.mpr ⟨lw_p2, List.forall_mem_cons.mpr ⟨lw_p3, List.forall_mem_cons.mpr ⟨lw_p4, List.forall_mem_cons.mpr ⟨lw_p5, List.forall_mem_cons.mpr ⟨lw_p6, List.forall_mem_cons.mpr ⟨lw_p7, List.forall_mem_cons.mpr ⟨lw_p8, List.forall_mem_cons.mpr ⟨lw_p9, List.forall_mem_cons.mpr ⟨lw_p10, List.forall_mem_cons.mpr ⟨lw_p11, List.forall_mem_cons.mpr ⟨lw_p12, List.forall_mem_cons.mpr ⟨lw_p13, List.forall_mem_cons.mpr ⟨lw_p14, List.forall_mem_cons.mpr ⟨lw_p15, fun _ h => absurd h List.not_mem_nil⟩⟩⟩⟩⟩⟩⟩⟩⟩⟩⟩⟩⟩⟩⟩⟩
theorem lw_p16 : lw_okq (⟨"PaintEditor$Screen", "showCluster", "(LPaintEditor$Editor;I)V"⟩, 5) := ⟨⟨by decide +kernel, by decide +kernel⟩, List.mem_of_getElem? (i := 193) (by decide +kernel), List.mem_of_getElem? (i := 615) (by decide +kernel), List.mem_of_getElem? (i := 616) (by decide +kernel)⟩
theorem lw_p17 : lw_okq (⟨"PaintEditor$Screen", "showStatus", "(LPaintEditor$Editor;)V"⟩, 5) := ⟨⟨by decide +kernel, by decide +kernel⟩, List.mem_of_getElem? (i := 193) (by decide +kernel), List.mem_of_getElem? (i := 633) (by decide +kernel), List.mem_of_getElem? (i := 634) (by decide +kernel)⟩
theorem lw_p18 : lw_okq (⟨"PaintEditor$Painter", "sendLook", "(I)V"⟩, 3) := ⟨⟨by decide +kernel, by decide +kernel⟩, List.mem_of_getElem? (i := 279) (by decide +kernel), List.mem_of_getElem? (i := 807) (by decide +kernel), List.mem_of_getElem? (i := 808) (by decide +kernel)⟩
theorem lw_p19 : lw_okq (⟨"PaintEditor$Painter", "sendSequence", "(III)V"⟩, 3) := ⟨⟨by decide +kernel, by decide +kernel⟩, List.mem_of_getElem? (i := 279) (by decide +kernel), List.mem_of_getElem? (i := 811) (by decide +kernel), List.mem_of_getElem? (i := 812) (by decide +kernel)⟩
theorem lw_p20 : lw_okq (⟨"PaintEditor$Painter", "put", "(I)V"⟩, 3) := ⟨⟨by decide +kernel, by decide +kernel⟩, List.mem_of_getElem? (i := 279) (by decide +kernel), List.mem_of_getElem? (i := 815) (by decide +kernel), List.mem_of_getElem? (i := 816) (by decide +kernel)⟩
theorem lw_p21 : lw_okq (⟨"PaintEditor$Painter", "putNumber", "(I)V"⟩, 3) := ⟨⟨by decide +kernel, by decide +kernel⟩, List.mem_of_getElem? (i := 279) (by decide +kernel), List.mem_of_getElem? (i := 819) (by decide +kernel), List.mem_of_getElem? (i := 820) (by decide +kernel)⟩
theorem lw_p22 : lw_okq (⟨"PaintEditor$Painter", "firstDifference", "(LPaintEditor$Grid;I)I"⟩, 3) := ⟨⟨by decide +kernel, by decide +kernel⟩, List.mem_of_getElem? (i := 279) (by decide +kernel), List.mem_of_getElem? (i := 832) (by decide +kernel), List.mem_of_getElem? (i := 833) (by decide +kernel)⟩
theorem lw_p23 : lw_okq (⟨"PaintEditor$Painter", "differs", "(LPaintEditor$Grid;II)Z"⟩, 3) := ⟨⟨by decide +kernel, by decide +kernel⟩, List.mem_of_getElem? (i := 279) (by decide +kernel), List.mem_of_getElem? (i := 836) (by decide +kernel), List.mem_of_getElem? (i := 837) (by decide +kernel)⟩
theorem lw_p24 : lw_okq (⟨"PaintEditor$Painter", "lastDifference", "(LPaintEditor$Grid;I)I"⟩, 3) := ⟨⟨by decide +kernel, by decide +kernel⟩, List.mem_of_getElem? (i := 279) (by decide +kernel), List.mem_of_getElem? (i := 845) (by decide +kernel), List.mem_of_getElem? (i := 846) (by decide +kernel)⟩
theorem lw_p25 : lw_okq (⟨"PaintEditor$Painter", "sendCluster", "(IIII)V"⟩, 3) := ⟨⟨by decide +kernel, by decide +kernel⟩, List.mem_of_getElem? (i := 279) (by decide +kernel), List.mem_of_getElem? (i := 858) (by decide +kernel), List.mem_of_getElem? (i := 859) (by decide +kernel)⟩
theorem lw_p26 : lw_okq (⟨"PaintEditor$Painter", "sendPlace", "(II)V"⟩, 3) := ⟨⟨by decide +kernel, by decide +kernel⟩, List.mem_of_getElem? (i := 279) (by decide +kernel), List.mem_of_getElem? (i := 864) (by decide +kernel), List.mem_of_getElem? (i := 865) (by decide +kernel)⟩
theorem lw_p27 : lw_okq (⟨"PaintEditor$Painter", "sendCharacter", "(I)V"⟩, 3) := ⟨⟨by decide +kernel, by decide +kernel⟩, List.mem_of_getElem? (i := 279) (by decide +kernel), List.mem_of_getElem? (i := 873) (by decide +kernel), List.mem_of_getElem? (i := 874) (by decide +kernel)⟩
theorem lw_p28 : lw_okq (⟨"PaintEditor$Terminal", "joins", "(I)Z"⟩, 8) := ⟨⟨by decide +kernel, by decide +kernel⟩, List.mem_of_getElem? (i := 285) (by decide +kernel), List.mem_of_getElem? (i := 882) (by decide +kernel), List.mem_of_getElem? (i := 883) (by decide +kernel)⟩
theorem lw_p29 : lw_okq (⟨"PaintEditor$Terminal", "writeCells", "(I)V"⟩, 8) := ⟨⟨by decide +kernel, by decide +kernel⟩, List.mem_of_getElem? (i := 285) (by decide +kernel), List.mem_of_getElem? (i := 895) (by decide +kernel), List.mem_of_getElem? (i := 896) (by decide +kernel)⟩
theorem lw_p30 : lw_okq (⟨"PaintEditorModel", "take", "(I)V"⟩, 44) := ⟨⟨by decide +kernel, by decide +kernel⟩, List.mem_of_getElem? (i := 943) (by decide +kernel), List.mem_of_getElem? (i := 1087) (by decide +kernel), List.mem_of_getElem? (i := 1088) (by decide +kernel)⟩
theorem lw_p31 : lw_okq (⟨"PaintEditorModel", "within", "(II)V"⟩, 44) := ⟨⟨by decide +kernel, by decide +kernel⟩, List.mem_of_getElem? (i := 943) (by decide +kernel), List.mem_of_getElem? (i := 1091) (by decide +kernel), List.mem_of_getElem? (i := 1092) (by decide +kernel)⟩
def lw_privs_2 : List (MethodName × Nat) := [(⟨"PaintEditor$Screen", "showCluster", "(LPaintEditor$Editor;I)V"⟩, 5), (⟨"PaintEditor$Screen", "showStatus", "(LPaintEditor$Editor;)V"⟩, 5), (⟨"PaintEditor$Painter", "sendLook", "(I)V"⟩, 3), (⟨"PaintEditor$Painter", "sendSequence", "(III)V"⟩, 3), (⟨"PaintEditor$Painter", "put", "(I)V"⟩, 3), (⟨"PaintEditor$Painter", "putNumber", "(I)V"⟩, 3), (⟨"PaintEditor$Painter", "firstDifference", "(LPaintEditor$Grid;I)I"⟩, 3), (⟨"PaintEditor$Painter", "differs", "(LPaintEditor$Grid;II)Z"⟩, 3), (⟨"PaintEditor$Painter", "lastDifference", "(LPaintEditor$Grid;I)I"⟩, 3), (⟨"PaintEditor$Painter", "sendCluster", "(IIII)V"⟩, 3), (⟨"PaintEditor$Painter", "sendPlace", "(II)V"⟩, 3), (⟨"PaintEditor$Painter", "sendCharacter", "(I)V"⟩, 3), (⟨"PaintEditor$Terminal", "joins", "(I)Z"⟩, 8), (⟨"PaintEditor$Terminal", "writeCells", "(I)V"⟩, 8), (⟨"PaintEditorModel", "take", "(I)V"⟩, 44), (⟨"PaintEditorModel", "within", "(II)V"⟩, 44)]
theorem lw_r2 : ∀ q ∈ lw_privs_2, lw_okq q := List.forall_mem_cons.mpr ⟨lw_p16, List.forall_mem_cons.mpr ⟨lw_p17, List.forall_mem_cons.mpr ⟨lw_p18, List.forall_mem_cons.mpr ⟨lw_p19, List.forall_mem_cons.mpr ⟨lw_p20, List.forall_mem_cons.mpr ⟨lw_p21, List.forall_mem_cons.mpr ⟨lw_p22, List.forall_mem_cons.mpr ⟨lw_p23, List.forall_mem_cons.mpr ⟨lw_p24, List.forall_mem_cons.mpr ⟨lw_p25, List.forall_mem_cons.mpr ⟨lw_p26, List.forall_mem_cons.mpr ⟨lw_p27, List.forall_mem_cons.mpr ⟨lw_p28, List.forall_mem_cons.mpr ⟨lw_p29, List.forall_mem_cons.mpr ⟨lw_p30, List.forall_mem_cons.mpr ⟨lw_p31, fun _ h => absurd h List.not_mem_nil⟩⟩⟩⟩⟩⟩⟩⟩⟩⟩⟩⟩⟩⟩⟩⟩
theorem lw_p32 : lw_okq (⟨"PaintEditorModel", "character", "(I)V"⟩, 44) := ⟨⟨by decide +kernel, by decide +kernel⟩, List.mem_of_getElem? (i := 943) (by decide +kernel), List.mem_of_getElem? (i := 1096) (by decide +kernel), List.mem_of_getElem? (i := 1097) (by decide +kernel)⟩
theorem lw_p33 : lw_okq (⟨"PaintEditorModel", "insertOne", "(I)V"⟩, 44) := ⟨⟨by decide +kernel, by decide +kernel⟩, List.mem_of_getElem? (i := 943) (by decide +kernel), List.mem_of_getElem? (i := 1100) (by decide +kernel), List.mem_of_getElem? (i := 1101) (by decide +kernel)⟩
theorem lw_p34 : lw_okq (⟨"PaintEditorModel", "note", "(III)V"⟩, 44) := ⟨⟨by decide +kernel, by decide +kernel⟩, List.mem_of_getElem? (i := 943) (by decide +kernel), List.mem_of_getElem? (i := 1104) (by decide +kernel), List.mem_of_getElem? (i := 1105) (by decide +kernel)⟩
theorem lw_p35 : lw_okq (⟨"PaintEditorModel", "forgetFirst", "()V"⟩, 44) := ⟨⟨by decide +kernel, by decide +kernel⟩, List.mem_of_getElem? (i := 943) (by decide +kernel), List.mem_of_getElem? (i := 1108) (by decide +kernel), List.mem_of_getElem? (i := 1109) (by decide +kernel)⟩
theorem lw_p36 : lw_okq (⟨"PaintEditorModel", "open", "(II)V"⟩, 44) := ⟨⟨by decide +kernel, by decide +kernel⟩, List.mem_of_getElem? (i := 943) (by decide +kernel), List.mem_of_getElem? (i := 1112) (by decide +kernel), List.mem_of_getElem? (i := 1113) (by decide +kernel)⟩
theorem lw_p37 : lw_okq (⟨"PaintEditorModel", "settle", "(I)V"⟩, 44) := ⟨⟨by decide +kernel, by decide +kernel⟩, List.mem_of_getElem? (i := 943) (by decide +kernel), List.mem_of_getElem? (i := 1116) (by decide +kernel), List.mem_of_getElem? (i := 1117) (by decide +kernel)⟩
theorem lw_p38 : lw_okq (⟨"PaintEditorModel", "begins", "(I)Z"⟩, 44) := ⟨⟨by decide +kernel, by decide +kernel⟩, List.mem_of_getElem? (i := 943) (by decide +kernel), List.mem_of_getElem? (i := 1120) (by decide +kernel), List.mem_of_getElem? (i := 1121) (by decide +kernel)⟩
theorem lw_p39 : lw_okq (⟨"PaintEditorModel", "plain", "(II)V"⟩, 44) := ⟨⟨by decide +kernel, by decide +kernel⟩, List.mem_of_getElem? (i := 943) (by decide +kernel), List.mem_of_getElem? (i := 1127) (by decide +kernel), List.mem_of_getElem? (i := 1128) (by decide +kernel)⟩
theorem lw_p40 : lw_okq (⟨"PaintEditorModel", "control", "(II)V"⟩, 44) := ⟨⟨by decide +kernel, by decide +kernel⟩, List.mem_of_getElem? (i := 943) (by decide +kernel), List.mem_of_getElem? (i := 1131) (by decide +kernel), List.mem_of_getElem? (i := 1132) (by decide +kernel)⟩
theorem lw_p41 : lw_okq (⟨"PaintEditorModel", "command", "(I)V"⟩, 44) := ⟨⟨by decide +kernel, by decide +kernel⟩, List.mem_of_getElem? (i := 943) (by decide +kernel), List.mem_of_getElem? (i := 1135) (by decide +kernel), List.mem_of_getElem? (i := 1136) (by decide +kernel)⟩
theorem lw_p42 : lw_okq (⟨"PaintEditorModel", "cutOut", "()V"⟩, 44) := ⟨⟨by decide +kernel, by decide +kernel⟩, List.mem_of_getElem? (i := 943) (by decide +kernel), List.mem_of_getElem? (i := 1139) (by decide +kernel), List.mem_of_getElem? (i := 1140) (by decide +kernel)⟩
theorem lw_p43 : lw_okq (⟨"PaintEditorModel", "takeAway", "(II)V"⟩, 44) := ⟨⟨by decide +kernel, by decide +kernel⟩, List.mem_of_getElem? (i := 943) (by decide +kernel), List.mem_of_getElem? (i := 1143) (by decide +kernel), List.mem_of_getElem? (i := 1144) (by decide +kernel)⟩
theorem lw_p44 : lw_okq (⟨"PaintEditorModel", "close", "(II)V"⟩, 44) := ⟨⟨by decide +kernel, by decide +kernel⟩, List.mem_of_getElem? (i := 943) (by decide +kernel), List.mem_of_getElem? (i := 1147) (by decide +kernel), List.mem_of_getElem? (i := 1148) (by decide +kernel)⟩
theorem lw_p45 : lw_okq (⟨"PaintEditorModel", "insertClip", "()V"⟩, 44) := ⟨⟨by decide +kernel, by decide +kernel⟩, List.mem_of_getElem? (i := 943) (by decide +kernel), List.mem_of_getElem? (i := 1151) (by decide +kernel), List.mem_of_getElem? (i := 1152) (by decide +kernel)⟩
theorem lw_p46 : lw_okq (⟨"PaintEditorModel", "undo", "()V"⟩, 44) := ⟨⟨by decide +kernel, by decide +kernel⟩, List.mem_of_getElem? (i := 943) (by decide +kernel), List.mem_of_getElem? (i := 1155) (by decide +kernel), List.mem_of_getElem? (i := 1156) (by decide +kernel)⟩
theorem lw_p47 : lw_okq (⟨"PaintEditorModel", "before", "(I)I"⟩, 44) := ⟨⟨by decide +kernel, by decide +kernel⟩, List.mem_of_getElem? (i := 943) (by decide +kernel), List.mem_of_getElem? (i := 1159) (by decide +kernel), List.mem_of_getElem? (i := 1160) (by decide +kernel)⟩
def lw_privs_3 : List (MethodName × Nat) := [(⟨"PaintEditorModel", "character", "(I)V"⟩, 44), (⟨"PaintEditorModel", "insertOne", "(I)V"⟩, 44), (⟨"PaintEditorModel", "note", "(III)V"⟩, 44), (⟨"PaintEditorModel", "forgetFirst", "()V"⟩, 44), (⟨"PaintEditorModel", "open", "(II)V"⟩, 44), (⟨"PaintEditorModel", "settle", "(I)V"⟩, 44), (⟨"PaintEditorModel", "begins", "(I)Z"⟩, 44), (⟨"PaintEditorModel", "plain", "(II)V"⟩, 44), (⟨"PaintEditorModel", "control", "(II)V"⟩, 44), (⟨"PaintEditorModel", "command", "(I)V"⟩, 44), (⟨"PaintEditorModel", "cutOut", "()V"⟩, 44), (⟨"PaintEditorModel", "takeAway", "(II)V"⟩, 44), (⟨"PaintEditorModel", "close", "(II)V"⟩, 44), (⟨"PaintEditorModel", "insertClip", "()V"⟩, 44), (⟨"PaintEditorModel", "undo", "()V"⟩, 44), (⟨"PaintEditorModel", "before", "(I)I"⟩, 44)]
theorem lw_r3 : ∀ q ∈ lw_privs_3, lw_okq q := List.forall_mem_cons.mpr ⟨lw_p32, List.forall_mem_cons.mpr ⟨lw_p33, List.forall_mem_cons.mpr ⟨lw_p34, List.forall_mem_cons.mpr ⟨lw_p35, List.forall_mem_cons.mpr ⟨lw_p36, List.forall_mem_cons.mpr ⟨lw_p37, List.forall_mem_cons.mpr ⟨lw_p38, List.forall_mem_cons.mpr ⟨lw_p39, List.forall_mem_cons.mpr ⟨lw_p40, List.forall_mem_cons.mpr ⟨lw_p41, List.forall_mem_cons.mpr ⟨lw_p42, List.forall_mem_cons.mpr ⟨lw_p43, List.forall_mem_cons.mpr ⟨lw_p44, List.forall_mem_cons.mpr ⟨lw_p45, List.forall_mem_cons.mpr ⟨lw_p46, List.forall_mem_cons.mpr ⟨lw_p47, fun _ h => absurd h List.not_mem_nil⟩⟩⟩⟩⟩⟩⟩⟩⟩⟩⟩⟩⟩⟩⟩⟩
theorem lw_p48 : lw_okq (⟨"PaintEditorModel", "inSequence", "(II)V"⟩, 44) := ⟨⟨by decide +kernel, by decide +kernel⟩, List.mem_of_getElem? (i := 943) (by decide +kernel), List.mem_of_getElem? (i := 1163) (by decide +kernel), List.mem_of_getElem? (i := 1164) (by decide +kernel)⟩
theorem lw_p49 : lw_okq (⟨"PaintEditorModel", "finish", "(I)V"⟩, 44) := ⟨⟨by decide +kernel, by decide +kernel⟩, List.mem_of_getElem? (i := 943) (by decide +kernel), List.mem_of_getElem? (i := 1167) (by decide +kernel), List.mem_of_getElem? (i := 1168) (by decide +kernel)⟩
theorem lw_p50 : lw_okq (⟨"PaintEditorModel", "upOrDown", "(I)V"⟩, 44) := ⟨⟨by decide +kernel, by decide +kernel⟩, List.mem_of_getElem? (i := 943) (by decide +kernel), List.mem_of_getElem? (i := 1171) (by decide +kernel), List.mem_of_getElem? (i := 1172) (by decide +kernel)⟩
theorem lw_p51 : lw_okq (⟨"PaintEditorModel", "layOut", "()V"⟩, 44) := ⟨⟨by decide +kernel, by decide +kernel⟩, List.mem_of_getElem? (i := 943) (by decide +kernel), List.mem_of_getElem? (i := 1175) (by decide +kernel), List.mem_of_getElem? (i := 1176) (by decide +kernel)⟩
theorem lw_p52 : lw_okq (⟨"PaintEditorModel", "widthOf", "(II)I"⟩, 44) := ⟨⟨by decide +kernel, by decide +kernel⟩, List.mem_of_getElem? (i := 943) (by decide +kernel), List.mem_of_getElem? (i := 1179) (by decide +kernel), List.mem_of_getElem? (i := 1180) (by decide +kernel)⟩
theorem lw_p53 : lw_okq (⟨"PaintEditorModel", "after", "(I)I"⟩, 44) := ⟨⟨by decide +kernel, by decide +kernel⟩, List.mem_of_getElem? (i := 943) (by decide +kernel), List.mem_of_getElem? (i := 1189) (by decide +kernel), List.mem_of_getElem? (i := 1190) (by decide +kernel)⟩
theorem lw_p54 : lw_okq (⟨"PaintEditorModel", "lineBegin", "()I"⟩, 44) := ⟨⟨by decide +kernel, by decide +kernel⟩, List.mem_of_getElem? (i := 943) (by decide +kernel), List.mem_of_getElem? (i := 1193) (by decide +kernel), List.mem_of_getElem? (i := 1194) (by decide +kernel)⟩
theorem lw_p55 : lw_okq (⟨"PaintEditorModel", "lineEnd", "()I"⟩, 44) := ⟨⟨by decide +kernel, by decide +kernel⟩, List.mem_of_getElem? (i := 943) (by decide +kernel), List.mem_of_getElem? (i := 1197) (by decide +kernel), List.mem_of_getElem? (i := 1198) (by decide +kernel)⟩
theorem lw_p56 : lw_okq (⟨"PaintEditorModel", "escapeKey", "()V"⟩, 44) := ⟨⟨by decide +kernel, by decide +kernel⟩, List.mem_of_getElem? (i := 943) (by decide +kernel), List.mem_of_getElem? (i := 1201) (by decide +kernel), List.mem_of_getElem? (i := 1202) (by decide +kernel)⟩
theorem lw_p57 : lw_okq (⟨"PaintEditorModel", "compose", "()V"⟩, 44) := ⟨⟨by decide +kernel, by decide +kernel⟩, List.mem_of_getElem? (i := 943) (by decide +kernel), List.mem_of_getElem? (i := 1213) (by decide +kernel), List.mem_of_getElem? (i := 1214) (by decide +kernel)⟩
theorem lw_p58 : lw_okq (⟨"PaintEditorModel", "isSmall", "()Z"⟩, 44) := ⟨⟨by decide +kernel, by decide +kernel⟩, List.mem_of_getElem? (i := 943) (by decide +kernel), List.mem_of_getElem? (i := 1217) (by decide +kernel), List.mem_of_getElem? (i := 1218) (by decide +kernel)⟩
theorem lw_p59 : lw_okq (⟨"PaintEditorModel", "fillText", "()V"⟩, 44) := ⟨⟨by decide +kernel, by decide +kernel⟩, List.mem_of_getElem? (i := 943) (by decide +kernel), List.mem_of_getElem? (i := 1221) (by decide +kernel), List.mem_of_getElem? (i := 1222) (by decide +kernel)⟩
theorem lw_p60 : lw_okq (⟨"PaintEditorModel", "clusterAt", "(I)I"⟩, 44) := ⟨⟨by decide +kernel, by decide +kernel⟩, List.mem_of_getElem? (i := 943) (by decide +kernel), List.mem_of_getElem? (i := 1225) (by decide +kernel), List.mem_of_getElem? (i := 1226) (by decide +kernel)⟩
theorem lw_p61 : lw_okq (⟨"PaintEditorModel", "fillStatus", "()V"⟩, 44) := ⟨⟨by decide +kernel, by decide +kernel⟩, List.mem_of_getElem? (i := 943) (by decide +kernel), List.mem_of_getElem? (i := 1231) (by decide +kernel), List.mem_of_getElem? (i := 1232) (by decide +kernel)⟩
theorem lw_p62 : lw_okq (⟨"PaintEditorModel", "statusNumber", "(II)I"⟩, 44) := ⟨⟨by decide +kernel, by decide +kernel⟩, List.mem_of_getElem? (i := 943) (by decide +kernel), List.mem_of_getElem? (i := 1235) (by decide +kernel), List.mem_of_getElem? (i := 1236) (by decide +kernel)⟩
theorem lw_p63 : lw_okq (⟨"PaintEditorModel", "status", "(II)I"⟩, 44) := ⟨⟨by decide +kernel, by decide +kernel⟩, List.mem_of_getElem? (i := 943) (by decide +kernel), List.mem_of_getElem? (i := 1239) (by decide +kernel), List.mem_of_getElem? (i := 1240) (by decide +kernel)⟩
def lw_privs_4 : List (MethodName × Nat) := [(⟨"PaintEditorModel", "inSequence", "(II)V"⟩, 44), (⟨"PaintEditorModel", "finish", "(I)V"⟩, 44), (⟨"PaintEditorModel", "upOrDown", "(I)V"⟩, 44), (⟨"PaintEditorModel", "layOut", "()V"⟩, 44), (⟨"PaintEditorModel", "widthOf", "(II)I"⟩, 44), (⟨"PaintEditorModel", "after", "(I)I"⟩, 44), (⟨"PaintEditorModel", "lineBegin", "()I"⟩, 44), (⟨"PaintEditorModel", "lineEnd", "()I"⟩, 44), (⟨"PaintEditorModel", "escapeKey", "()V"⟩, 44), (⟨"PaintEditorModel", "compose", "()V"⟩, 44), (⟨"PaintEditorModel", "isSmall", "()Z"⟩, 44), (⟨"PaintEditorModel", "fillText", "()V"⟩, 44), (⟨"PaintEditorModel", "clusterAt", "(I)I"⟩, 44), (⟨"PaintEditorModel", "fillStatus", "()V"⟩, 44), (⟨"PaintEditorModel", "statusNumber", "(II)I"⟩, 44), (⟨"PaintEditorModel", "status", "(II)I"⟩, 44)]
theorem lw_r4 : ∀ q ∈ lw_privs_4, lw_okq q := List.forall_mem_cons.mpr ⟨lw_p48, List.forall_mem_cons.mpr ⟨lw_p49, List.forall_mem_cons.mpr ⟨lw_p50, List.forall_mem_cons.mpr ⟨lw_p51, List.forall_mem_cons.mpr ⟨lw_p52, List.forall_mem_cons.mpr ⟨lw_p53, List.forall_mem_cons.mpr ⟨lw_p54, List.forall_mem_cons.mpr ⟨lw_p55, List.forall_mem_cons.mpr ⟨lw_p56, List.forall_mem_cons.mpr ⟨lw_p57, List.forall_mem_cons.mpr ⟨lw_p58, List.forall_mem_cons.mpr ⟨lw_p59, List.forall_mem_cons.mpr ⟨lw_p60, List.forall_mem_cons.mpr ⟨lw_p61, List.forall_mem_cons.mpr ⟨lw_p62, List.forall_mem_cons.mpr ⟨lw_p63, fun _ h => absurd h List.not_mem_nil⟩⟩⟩⟩⟩⟩⟩⟩⟩⟩⟩⟩⟩⟩⟩⟩
theorem lw_p64 : lw_okq (⟨"PaintEditorModel", "setLook", "(I)V"⟩, 44) := ⟨⟨by decide +kernel, by decide +kernel⟩, List.mem_of_getElem? (i := 943) (by decide +kernel), List.mem_of_getElem? (i := 1243) (by decide +kernel), List.mem_of_getElem? (i := 1244) (by decide +kernel)⟩
theorem lw_p65 : lw_okq (⟨"PaintEditorModel", "putBegin", "()V"⟩, 44) := ⟨⟨by decide +kernel, by decide +kernel⟩, List.mem_of_getElem? (i := 943) (by decide +kernel), List.mem_of_getElem? (i := 1247) (by decide +kernel), List.mem_of_getElem? (i := 1248) (by decide +kernel)⟩
theorem lw_p66 : lw_okq (⟨"PaintEditorModel", "put", "(I)V"⟩, 44) := ⟨⟨by decide +kernel, by decide +kernel⟩, List.mem_of_getElem? (i := 943) (by decide +kernel), List.mem_of_getElem? (i := 1251) (by decide +kernel), List.mem_of_getElem? (i := 1252) (by decide +kernel)⟩
theorem lw_p67 : lw_okq (⟨"PaintEditorModel", "drawRow", "(I)V"⟩, 44) := ⟨⟨by decide +kernel, by decide +kernel⟩, List.mem_of_getElem? (i := 943) (by decide +kernel), List.mem_of_getElem? (i := 1255) (by decide +kernel), List.mem_of_getElem? (i := 1256) (by decide +kernel)⟩
theorem lw_p68 : lw_okq (⟨"PaintEditorModel", "differs", "(I)Z"⟩, 44) := ⟨⟨by decide +kernel, by decide +kernel⟩, List.mem_of_getElem? (i := 943) (by decide +kernel), List.mem_of_getElem? (i := 1259) (by decide +kernel), List.mem_of_getElem? (i := 1260) (by decide +kernel)⟩
theorem lw_p69 : lw_okq (⟨"PaintEditorModel", "sendClusters", "(III)V"⟩, 44) := ⟨⟨by decide +kernel, by decide +kernel⟩, List.mem_of_getElem? (i := 943) (by decide +kernel), List.mem_of_getElem? (i := 1263) (by decide +kernel), List.mem_of_getElem? (i := 1264) (by decide +kernel)⟩
theorem lw_p70 : lw_okq (⟨"PaintEditorModel", "sendCluster", "(II)V"⟩, 44) := ⟨⟨by decide +kernel, by decide +kernel⟩, List.mem_of_getElem? (i := 943) (by decide +kernel), List.mem_of_getElem? (i := 1267) (by decide +kernel), List.mem_of_getElem? (i := 1268) (by decide +kernel)⟩
theorem lw_p71 : lw_okq (⟨"PaintEditorModel", "go", "(IIZ)V"⟩, 44) := ⟨⟨by decide +kernel, by decide +kernel⟩, List.mem_of_getElem? (i := 943) (by decide +kernel), List.mem_of_getElem? (i := 1272) (by decide +kernel), List.mem_of_getElem? (i := 1273) (by decide +kernel)⟩
theorem lw_p72 : lw_okq (⟨"PaintEditorModel", "sendPlace", "(II)V"⟩, 44) := ⟨⟨by decide +kernel, by decide +kernel⟩, List.mem_of_getElem? (i := 943) (by decide +kernel), List.mem_of_getElem? (i := 1276) (by decide +kernel), List.mem_of_getElem? (i := 1277) (by decide +kernel)⟩
theorem lw_p73 : lw_okq (⟨"PaintEditorModel", "putNumber", "(I)V"⟩, 44) := ⟨⟨by decide +kernel, by decide +kernel⟩, List.mem_of_getElem? (i := 943) (by decide +kernel), List.mem_of_getElem? (i := 1280) (by decide +kernel), List.mem_of_getElem? (i := 1281) (by decide +kernel)⟩
theorem lw_p74 : lw_okq (⟨"PaintEditorModel", "write", "(I)V"⟩, 44) := ⟨⟨by decide +kernel, by decide +kernel⟩, List.mem_of_getElem? (i := 943) (by decide +kernel), List.mem_of_getElem? (i := 1284) (by decide +kernel), List.mem_of_getElem? (i := 1285) (by decide +kernel)⟩
theorem lw_p75 : lw_okq (⟨"PaintEditorModel", "putCode", "(I)V"⟩, 44) := ⟨⟨by decide +kernel, by decide +kernel⟩, List.mem_of_getElem? (i := 943) (by decide +kernel), List.mem_of_getElem? (i := 1288) (by decide +kernel), List.mem_of_getElem? (i := 1289) (by decide +kernel)⟩
theorem lw_p76 : lw_okq (⟨"PaintEditorModel", "blankHalf", "(I)V"⟩, 44) := ⟨⟨by decide +kernel, by decide +kernel⟩, List.mem_of_getElem? (i := 943) (by decide +kernel), List.mem_of_getElem? (i := 1292) (by decide +kernel), List.mem_of_getElem? (i := 1293) (by decide +kernel)⟩
theorem lw_p77 : lw_okq (⟨"PaintEditorModel", "isCell", "(II)Z"⟩, 44) := ⟨⟨by decide +kernel, by decide +kernel⟩, List.mem_of_getElem? (i := 943) (by decide +kernel), List.mem_of_getElem? (i := 1312) (by decide +kernel), List.mem_of_getElem? (i := 1313) (by decide +kernel)⟩
def lw_privs_5 : List (MethodName × Nat) := [(⟨"PaintEditorModel", "setLook", "(I)V"⟩, 44), (⟨"PaintEditorModel", "putBegin", "()V"⟩, 44), (⟨"PaintEditorModel", "put", "(I)V"⟩, 44), (⟨"PaintEditorModel", "drawRow", "(I)V"⟩, 44), (⟨"PaintEditorModel", "differs", "(I)Z"⟩, 44), (⟨"PaintEditorModel", "sendClusters", "(III)V"⟩, 44), (⟨"PaintEditorModel", "sendCluster", "(II)V"⟩, 44), (⟨"PaintEditorModel", "go", "(IIZ)V"⟩, 44), (⟨"PaintEditorModel", "sendPlace", "(II)V"⟩, 44), (⟨"PaintEditorModel", "putNumber", "(I)V"⟩, 44), (⟨"PaintEditorModel", "write", "(I)V"⟩, 44), (⟨"PaintEditorModel", "putCode", "(I)V"⟩, 44), (⟨"PaintEditorModel", "blankHalf", "(I)V"⟩, 44), (⟨"PaintEditorModel", "isCell", "(II)Z"⟩, 44)]
theorem lw_r5 : ∀ q ∈ lw_privs_5, lw_okq q := List.forall_mem_cons.mpr ⟨lw_p64, List.forall_mem_cons.mpr ⟨lw_p65, List.forall_mem_cons.mpr ⟨lw_p66, List.forall_mem_cons.mpr ⟨lw_p67, List.forall_mem_cons.mpr ⟨lw_p68, List.forall_mem_cons.mpr ⟨lw_p69, List.forall_mem_cons.mpr ⟨lw_p70, List.forall_mem_cons.mpr ⟨lw_p71, List.forall_mem_cons.mpr ⟨lw_p72, List.forall_mem_cons.mpr ⟨lw_p73, List.forall_mem_cons.mpr ⟨lw_p74, List.forall_mem_cons.mpr ⟨lw_p75, List.forall_mem_cons.mpr ⟨lw_p76, List.forall_mem_cons.mpr ⟨lw_p77, fun _ h => absurd h List.not_mem_nil⟩⟩⟩⟩⟩⟩⟩⟩⟩⟩⟩⟩⟩⟩
def lw_privs : List (MethodName × Nat) := lw_privs_1 ++ (lw_privs_2 ++ (lw_privs_3 ++ (lw_privs_4 ++ (lw_privs_5))))
def lw_tbl : List Cond := k2_sels lw_privs ++ tables_1
theorem lw_privs_ok : ∀ q ∈ lw_privs, lw_okq q := by
  show ∀ q ∈ lw_privs_1 ++ (lw_privs_2 ++ (lw_privs_3 ++ (lw_privs_4 ++ (lw_privs_5)))), lw_okq q
  exact List.forall_mem_append.mpr ⟨lw_r1, List.forall_mem_append.mpr ⟨lw_r2, List.forall_mem_append.mpr ⟨lw_r3, List.forall_mem_append.mpr ⟨lw_r4, lw_r5⟩⟩⟩⟩
end
section
/-! names, by program: the classes, the cells of the two objects, the words -/
def pe_T0 : u_T := fun k => match k with
  | 0 => ("PaintEditor", "keyboard", "LPaintEditor$Keyboard;", true)
  | 1 => ("PaintEditor", "editor", "LPaintEditor$Editor;", true)
  | 2 => ("PaintEditor", "screen", "LPaintEditor$Screen;", true)
  | _ => ("PaintEditor", "painter", "LPaintEditor$Painter;", true)
def pe_t0 : Nat → FieldType := fun k => match k with
  | 0 => .object "PaintEditor$Keyboard"
  | 1 => .object "PaintEditor$Editor"
  | 2 => .object "PaintEditor$Screen"
  | _ => .object "PaintEditor$Painter"
def pe_T1 : u_T := fun k => match k with
  | 0 => ("PaintEditor$Keyboard", "mode", "I", false)
  | 1 => ("PaintEditor$Keyboard", "number", "I", false)
  | 2 => ("PaintEditor$Keyboard", "code", "I", false)
  | 3 => ("PaintEditor$Keyboard", "bytesDue", "I", false)
  | 4 => ("PaintEditor$Keyboard", "leastNext", "I", false)
  | 5 => ("PaintEditor$Keyboard", "mostNext", "I", false)
  | _ => ("PaintEditor$Keyboard", "previous", "I", false)
def pe_t1 : Nat → FieldType := fun k => match k with
  | 0 => .int
  | 1 => .int
  | 2 => .int
  | 3 => .int
  | 4 => .int
  | 5 => .int
  | _ => .int
def pe_T2 : u_T := fun k => match k with
  | 0 => ("PaintEditor$Editor", "text", "LPaintEditor$Text;", true)
  | 1 => ("PaintEditor$Editor", "history", "LPaintEditor$History;", true)
  | 2 => ("PaintEditor$Editor", "layout", "LPaintEditor$Layout;", true)
  | 3 => ("PaintEditor$Editor", "clip", "[I", true)
  | 4 => ("PaintEditor$Editor", "single", "[I", true)
  | 5 => ("PaintEditor$Editor", "clipLength", "I", false)
  | 6 => ("PaintEditor$Editor", "columns", "I", false)
  | 7 => ("PaintEditor$Editor", "cursor", "I", false)
  | 8 => ("PaintEditor$Editor", "marked", "I", false)
  | 9 => ("PaintEditor$Editor", "goal", "I", false)
  | 10 => ("PaintEditor$Editor", "pasting", "Z", false)
  | _ => ("PaintEditor$Editor", "fullDrawingDue", "Z", false)
def pe_t2 : Nat → FieldType := fun k => match k with
  | 0 => .object "PaintEditor$Text"
  | 1 => .object "PaintEditor$History"
  | 2 => .object "PaintEditor$Layout"
  | 3 => .array .int
  | 4 => .array .int
  | 5 => .int
  | 6 => .int
  | 7 => .int
  | 8 => .int
  | 9 => .int
  | 10 => .boolean
  | _ => .boolean
def pe_T3 : u_T := fun k => match k with
  | 0 => ("PaintEditor$Text", "codes", "[I", true)
  | _ => ("PaintEditor$Text", "length", "I", false)
def pe_t3 : Nat → FieldType := fun k => match k with
  | 0 => .array .int
  | _ => .int
def pe_T4 : u_T := fun k => match k with
  | 0 => ("PaintEditor$History", "places", "[I", true)
  | 1 => ("PaintEditor$History", "counts", "[I", true)
  | 2 => ("PaintEditor$History", "cursors", "[I", true)
  | 3 => ("PaintEditor$History", "wentAway", "[Z", true)
  | 4 => ("PaintEditor$History", "gone", "[I", true)
  | 5 => ("PaintEditor$History", "earliest", "I", false)
  | _ => ("PaintEditor$History", "kept", "I", false)
def pe_t4 : Nat → FieldType := fun k => match k with
  | 0 => .array .int
  | 1 => .array .int
  | 2 => .array .int
  | 3 => .array .boolean
  | 4 => .array .int
  | 5 => .int
  | _ => .int
def pe_T5 : u_T := fun k => match k with
  | 0 => ("PaintEditor$Layout", "rowOf", "[I", true)
  | 1 => ("PaintEditor$Layout", "columnOf", "[I", true)
  | _ => ("PaintEditor$Layout", "widthOf", "[I", true)
def pe_t5 : Nat → FieldType := fun k => match k with
  | 0 => .array .int
  | 1 => .array .int
  | _ => .array .int
def pe_T6 : u_T := fun k => match k with
  | 0 => ("PaintEditor$Screen", "grid", "LPaintEditor$Grid;", true)
  | 1 => ("PaintEditor$Screen", "status", "Ljava/lang/StringBuilder;", true)
  | 2 => ("PaintEditor$Screen", "top", "I", false)
  | 3 => ("PaintEditor$Screen", "cursorRow", "I", false)
  | _ => ("PaintEditor$Screen", "cursorColumn", "I", false)
def pe_t6 : Nat → FieldType := fun k => match k with
  | 0 => .object "PaintEditor$Grid"
  | 1 => .object "java/lang/StringBuilder"
  | 2 => .int
  | 3 => .int
  | _ => .int
def pe_T7 : u_T := fun k => match k with
  | 0 => ("PaintEditor$Grid", "clusters", "[I", true)
  | 1 => ("PaintEditor$Grid", "looks", "[I", true)
  | 2 => ("PaintEditor$Grid", "columns", "I", false)
  | _ => ("PaintEditor$Grid", "rows", "I", false)
def pe_t7 : Nat → FieldType := fun k => match k with
  | 0 => .array .int
  | 1 => .array .int
  | 2 => .int
  | _ => .int
def pe_T8 : u_T := fun k => match k with
  | 0 => ("java/lang/AbstractStringBuilder", "value", "[B", false)
  | 1 => ("java/lang/AbstractStringBuilder", "coder", "B", false)
  | 2 => ("java/lang/AbstractStringBuilder", "maybeLatin1", "Z", false)
  | _ => ("java/lang/AbstractStringBuilder", "count", "I", false)
def pe_t8 : Nat → FieldType := fun k => match k with
  | 0 => .array .byte
  | 1 => .byte
  | 2 => .boolean
  | _ => .int
def pe_T9 : u_T := fun k => match k with
  | 0 => ("PaintEditor$Painter", "display", "LPaintEditor$Terminal;", true)
  | 1 => ("PaintEditor$Painter", "bytes", "[I", true)
  | _ => ("PaintEditor$Painter", "count", "I", false)
def pe_t9 : Nat → FieldType := fun k => match k with
  | 0 => .object "PaintEditor$Terminal"
  | 1 => .array .int
  | _ => .int
def pe_T10 : u_T := fun k => match k with
  | 0 => ("PaintEditor$Terminal", "grid", "LPaintEditor$Grid;", true)
  | 1 => ("PaintEditor$Terminal", "row", "I", false)
  | 2 => ("PaintEditor$Terminal", "column", "I", false)
  | 3 => ("PaintEditor$Terminal", "atMargin", "Z", false)
  | 4 => ("PaintEditor$Terminal", "writingLook", "I", false)
  | 5 => ("PaintEditor$Terminal", "writtenRow", "I", false)
  | 6 => ("PaintEditor$Terminal", "writtenColumn", "I", false)
  | _ => ("PaintEditor$Terminal", "markMayJoin", "Z", false)
def pe_t10 : Nat → FieldType := fun k => match k with
  | 0 => .object "PaintEditor$Grid"
  | 1 => .int
  | 2 => .int
  | 3 => .boolean
  | 4 => .int
  | 5 => .int
  | 6 => .int
  | _ => .boolean
def pe_T11 : u_T := fun k => match k with
  | 0 => ("PaintEditorModel", "text", "[I", false)
  | 1 => ("PaintEditorModel", "length", "I", false)
  | 2 => ("PaintEditorModel", "cursor", "I", false)
  | 3 => ("PaintEditorModel", "mark", "I", false)
  | 4 => ("PaintEditorModel", "clip", "[I", false)
  | 5 => ("PaintEditorModel", "clipLength", "I", false)
  | 6 => ("PaintEditorModel", "goal", "I", false)
  | 7 => ("PaintEditorModel", "changes", "I", false)
  | 8 => ("PaintEditorModel", "changedAt", "[I", false)
  | 9 => ("PaintEditorModel", "came", "[I", false)
  | 10 => ("PaintEditorModel", "went", "[I", false)
  | 11 => ("PaintEditorModel", "cursorBefore", "[I", false)
  | 12 => ("PaintEditorModel", "lost", "[I", false)
  | 13 => ("PaintEditorModel", "mode", "I", false)
  | 14 => ("PaintEditorModel", "number", "I", false)
  | 15 => ("PaintEditorModel", "pending", "I", false)
  | 16 => ("PaintEditorModel", "code", "I", false)
  | 17 => ("PaintEditorModel", "least", "I", false)
  | 18 => ("PaintEditorModel", "most", "I", false)
  | 19 => ("PaintEditorModel", "pasting", "Z", false)
  | 20 => ("PaintEditorModel", "lastByte", "I", false)
  | 21 => ("PaintEditorModel", "columns", "I", false)
  | 22 => ("PaintEditorModel", "rows", "I", false)
  | 23 => ("PaintEditorModel", "rowAt", "[I", false)
  | 24 => ("PaintEditorModel", "columnAt", "[I", false)
  | 25 => ("PaintEditorModel", "widthAt", "[I", false)
  | 26 => ("PaintEditorModel", "lastRow", "I", false)
  | 27 => ("PaintEditorModel", "top", "I", false)
  | 28 => ("PaintEditorModel", "due", "[I", false)
  | 29 => ("PaintEditorModel", "dueLook", "[I", false)
  | 30 => ("PaintEditorModel", "dueRow", "I", false)
  | 31 => ("PaintEditorModel", "dueColumn", "I", false)
  | 32 => ("PaintEditorModel", "shown", "[I", false)
  | 33 => ("PaintEditorModel", "shownLook", "[I", false)
  | 34 => ("PaintEditorModel", "spare", "[I", false)
  | 35 => ("PaintEditorModel", "spareLook", "[I", false)
  | 36 => ("PaintEditorModel", "row", "I", false)
  | 37 => ("PaintEditorModel", "column", "I", false)
  | 38 => ("PaintEditorModel", "margin", "Z", false)
  | 39 => ("PaintEditorModel", "look", "I", false)
  | 40 => ("PaintEditorModel", "lastCell", "I", false)
  | 41 => ("PaintEditorModel", "full", "Z", false)
  | 42 => ("PaintEditorModel", "bytes", "[I", false)
  | _ => ("PaintEditorModel", "sent", "I", false)
def pe_t11 : Nat → FieldType := fun k => match k with
  | 0 => .array .int
  | 1 => .int
  | 2 => .int
  | 3 => .int
  | 4 => .array .int
  | 5 => .int
  | 6 => .int
  | 7 => .int
  | 8 => .array .int
  | 9 => .array .int
  | 10 => .array .int
  | 11 => .array .int
  | 12 => .array .int
  | 13 => .int
  | 14 => .int
  | 15 => .int
  | 16 => .int
  | 17 => .int
  | 18 => .int
  | 19 => .boolean
  | 20 => .int
  | 21 => .int
  | 22 => .int
  | 23 => .array .int
  | 24 => .array .int
  | 25 => .array .int
  | 26 => .int
  | 27 => .int
  | 28 => .array .int
  | 29 => .array .int
  | 30 => .int
  | 31 => .int
  | 32 => .array .int
  | 33 => .array .int
  | 34 => .array .int
  | 35 => .array .int
  | 36 => .int
  | 37 => .int
  | 38 => .boolean
  | 39 => .int
  | 40 => .int
  | 41 => .boolean
  | 42 => .array .int
  | _ => .int
abbrev vwCl : List vw_C := [("PaintEditor", pe_T0, 4), ("PaintEditor$Keyboard", pe_T1, 7), ("PaintEditor$Editor", pe_T2, 12), ("PaintEditor$Text", pe_T3, 2), ("PaintEditor$History", pe_T4, 7), ("PaintEditor$Layout", pe_T5, 3), ("PaintEditor$Screen", pe_T6, 5), ("PaintEditor$Grid", pe_T7, 4), ("java/lang/StringBuilder", pe_T8, 4), ("PaintEditor$Painter", pe_T9, 3), ("PaintEditor$Terminal", pe_T10, 8), ("PaintEditorModel", pe_T11, 44)]
abbrev pe_E : Type := (FieldType × Nat) ⊕ (Nat × Nat)
abbrev pe_sh : List pe_E := [.inr (0, 4), .inr (1, 7), .inr (2, 12), .inr (3, 2), .inl (.int, 200), .inr (4, 7), .inl (.int, 12), .inl (.int, 12), .inl (.int, 12), .inl (.boolean, 12), .inl (.int, 2400), .inr (5, 3), .inl (.int, 201), .inl (.int, 201), .inl (.int, 201), .inl (.int, 200), .inl (.int, 1), .inr (6, 5), .inr (7, 4), .inl (.int, 192), .inl (.int, 192), .inr (8, 4), .inl (.byte, 16), .inr (9, 3), .inr (10, 8), .inr (7, 4), .inl (.int, 192), .inl (.int, 192), .inl (.int, 2048), .inr (11, 44), .inl (.int, 200), .inl (.int, 200), .inl (.int, 12), .inl (.int, 12), .inl (.int, 12), .inl (.int, 12), .inl (.int, 2400), .inl (.int, 201), .inl (.int, 201), .inl (.int, 201), .inl (.int, 192), .inl (.int, 192), .inl (.int, 192), .inl (.int, 192), .inl (.int, 192), .inl (.int, 192), .inl (.int, 6000)]
def pe_rt (a k : Nat) : Option Nat := match a with
  | 0 => match k with
    | 0 => some 1
    | 1 => some 2
    | 2 => some 17
    | 3 => some 23
    | _ => none
  | 2 => match k with
    | 0 => some 3
    | 1 => some 5
    | 2 => some 11
    | 3 => some 15
    | 4 => some 16
    | _ => none
  | 3 => match k with
    | 0 => some 4
    | _ => none
  | 5 => match k with
    | 0 => some 6
    | 1 => some 7
    | 2 => some 8
    | 3 => some 9
    | 4 => some 10
    | _ => none
  | 11 => match k with
    | 0 => some 12
    | 1 => some 13
    | 2 => some 14
    | _ => none
  | 17 => match k with
    | 0 => some 18
    | 1 => some 21
    | _ => none
  | 18 => match k with
    | 0 => some 19
    | 1 => some 20
    | _ => none
  | 21 => match k with
    | 0 => some 22
    | _ => none
  | 23 => match k with
    | 0 => some 24
    | 1 => some 28
    | _ => none
  | 24 => match k with
    | 0 => some 25
    | _ => none
  | 25 => match k with
    | 0 => some 26
    | 1 => some 27
    | _ => none
  | 29 => match k with
    | 0 => some 30
    | 4 => some 31
    | 8 => some 32
    | 9 => some 33
    | 10 => some 34
    | 11 => some 35
    | 12 => some 36
    | 23 => some 37
    | 24 => some 38
    | 25 => some 39
    | 28 => some 40
    | 29 => some 41
    | 32 => some 42
    | 33 => some 43
    | 34 => some 44
    | 35 => some 45
    | 42 => some 46
    | _ => none
  | _ => none
def pe_WS : List Cond := lw_tbl.filter goodWord
theorem pe_WS_good : ∀ w ∈ pe_WS, (w.onTables && w.keeps) = true ∨ ∃ ty, w = .arrayClass ty := fun w h => good_of_word (List.mem_filter.mp h).2
theorem pe_w1 {w : Cond} (h : w ∈ tables_1_1) (g : goodWord w = true := by rfl) : w ∈ pe_WS := List.mem_filter.mpr ⟨List.mem_append_right _ (by show w ∈ tables_1; exact List.mem_append_left _ h), g⟩
theorem pe_w2 {w : Cond} (h : w ∈ tables_1_2) (g : goodWord w = true := by rfl) : w ∈ pe_WS := List.mem_filter.mpr ⟨List.mem_append_right _ (by show w ∈ tables_1; exact List.mem_append_right _ (List.mem_append_left _ h)), g⟩
theorem pe_w3 {w : Cond} (h : w ∈ tables_1_3) (g : goodWord w = true := by rfl) : w ∈ pe_WS := List.mem_filter.mpr ⟨List.mem_append_right _ (by show w ∈ tables_1; exact List.mem_append_right _ (List.mem_append_right _ (List.mem_append_left _ h))), g⟩
theorem pe_w4 {w : Cond} (h : w ∈ tables_1_4) (g : goodWord w = true := by rfl) : w ∈ pe_WS := List.mem_filter.mpr ⟨List.mem_append_right _ (by show w ∈ tables_1; exact List.mem_append_right _ (List.mem_append_right _ (List.mem_append_right _ (List.mem_append_left _ h)))), g⟩
theorem pe_w5 {w : Cond} (h : w ∈ tables_1_5) (g : goodWord w = true := by rfl) : w ∈ pe_WS := List.mem_filter.mpr ⟨List.mem_append_right _ (by show w ∈ tables_1; exact List.mem_append_right _ (List.mem_append_right _ (List.mem_append_right _ (List.mem_append_right _ (List.mem_append_left _ h))))), g⟩
theorem pe_w6 {w : Cond} (h : w ∈ tables_1_6) (g : goodWord w = true := by rfl) : w ∈ pe_WS := List.mem_filter.mpr ⟨List.mem_append_right _ (by show w ∈ tables_1; exact List.mem_append_right _ (List.mem_append_right _ (List.mem_append_right _ (List.mem_append_right _ (List.mem_append_right _ (h)))))), g⟩
theorem pe_wp {q : MethodName × Nat} (h : q ∈ lw_privs) : Cond.selects q.1.cls q.1 q.1 ∈ pe_WS := List.mem_filter.mpr ⟨List.mem_append_left _ (List.mem_map.mpr ⟨q, h, rfl⟩), rfl⟩
end
section
/-! The machine seen through one picture. Every cell of the two objects has a number (pe_sh says what it is, pe_rt which fields hold which cells); what the cells hold is ONE function pe_H; ints are Int. -/
abbrev pe_V : Type := Int ⊕ (Nat ⊕ Int64)
abbrev pe_H : Type := Nat → Int → Int
abbrev pe_L : Type := List (Option pe_V)
def pe_c (ad : Nat → Nat) : pe_V → Value
  | .inl z => .int (Int32.ofInt z)
  | .inr (.inl a) => .ref (ad a)
  | .inr (.inr x) => .long x
abbrev pe_i (z : Int) : pe_V := .inl z
abbrev pe_r (a : Nat) : pe_V := .inr (.inl a)
abbrev pe_l (x : Int64) : pe_V := .inr (.inr x)
def pe_cat : pe_V → Nat
  | .inr (.inr _) => 2
  | _ => 1
theorem pe_cat_c (ad : Nat → Nat) (v : pe_V) : (pe_c ad v).category = pe_cat v := by
  rcases v with z | a | x <;> rfl
/-- an int -/
abbrev pe_R (z : Int) : Prop := -2147483648 ≤ z ∧ z < 2147483648
def pe_up (σ : pe_H) (a : Nat) (i v : Int) : pe_H := fun b j => if b = a ∧ j = i then v else σ b j
theorem pe_up_ne {σ : pe_H} {a b : Nat} {i v : Int} (h : b ≠ a) : pe_up σ a i v b = σ b := by
  funext j
  unfold pe_up
  rw [if_neg (fun q => h q.1)]
theorem pe_up_at {σ : pe_H} {a : Nat} {i v j : Int} : pe_up σ a i v a j = if j = i then v else σ a j := by
  unfold pe_up
  by_cases h : j = i
  · rw [if_pos ⟨rfl, h⟩, if_pos h]
  · rw [if_neg (fun q => h q.2), if_neg h]
theorem pe_toInt {z : Int} (h : pe_R z) : (Int32.ofInt z).toInt = z := Int32.toInt_ofInt_of_le (by have := h.1; omega) (by have := h.2; omega)
theorem pe_lt {a b : Int} (ha : pe_R a) (hb : pe_R b) : Int32.ofInt a < Int32.ofInt b ↔ a < b := by
  rw [Int32.lt_iff_toInt_lt, pe_toInt ha, pe_toInt hb]
theorem pe_le {a b : Int} (ha : pe_R a) (hb : pe_R b) : Int32.ofInt a ≤ Int32.ofInt b ↔ a ≤ b := by
  rw [Int32.le_iff_toInt_le, pe_toInt ha, pe_toInt hb]
theorem pe_eq {a b : Int} (ha : pe_R a) (hb : pe_R b) : Int32.ofInt a = Int32.ofInt b ↔ a = b := by
  rw [← Int32.toInt_inj, pe_toInt ha, pe_toInt hb]
theorem pe_0 : Int32.ofInt 0 = 0 := rfl
theorem pe_R0 : pe_R 0 := ⟨by decide, by decide⟩
theorem pe_in {i : Int} {n : Nat} (hn : n < 2147483648) (h0 : 0 ≤ i) (h1 : i < n) : vp_in (Int32.ofInt i) n := by
  have hr : pe_R i := ⟨by omega, by omega⟩
  rw [vp_in_iff, pe_toInt hr]
  exact ⟨h0, h1⟩
theorem pe_clamp {i : Int} (h0 : 0 ≤ i) (h1 : i < 2147483648) : (Int32.ofInt i).toNatClampNeg = i.toNat :=
  Int32.toNatClampNeg_ofInt_of_le (by omega) (by omega)
theorem pe_cm_eq {a b : Int} (ha : pe_R a) (hb : pe_R b) (h : Int32.ofInt a = Int32.ofInt b) : a = b := (pe_eq ha hb).mp h
theorem pe_cn_eq {a b : Int} (ha : pe_R a) (hb : pe_R b) (h : ¬ Int32.ofInt a = Int32.ofInt b) : ¬ a = b := fun q => h ((pe_eq ha hb).mpr q)
theorem pe_cm_ne {a b : Int} (ha : pe_R a) (hb : pe_R b) (h : ¬ Int32.ofInt a = Int32.ofInt b) : ¬ a = b := pe_cn_eq ha hb h
theorem pe_cn_ne {a b : Int} (ha : pe_R a) (hb : pe_R b) (h : Int32.ofInt a = Int32.ofInt b) : a = b := pe_cm_eq ha hb h
theorem pe_cm_lt {a b : Int} (ha : pe_R a) (hb : pe_R b) (h : Int32.ofInt a < Int32.ofInt b) : a < b := (pe_lt ha hb).mp h
theorem pe_cn_lt {a b : Int} (ha : pe_R a) (hb : pe_R b) (h : ¬ Int32.ofInt a < Int32.ofInt b) : b ≤ a := Int.not_lt.mp fun q => h ((pe_lt ha hb).mpr q)
theorem pe_cm_ge {a b : Int} (ha : pe_R a) (hb : pe_R b) (h : Int32.ofInt b ≤ Int32.ofInt a) : b ≤ a := (pe_le hb ha).mp h
theorem pe_cn_ge {a b : Int} (ha : pe_R a) (hb : pe_R b) (h : ¬ Int32.ofInt b ≤ Int32.ofInt a) : a < b := Int.not_le.mp fun q => h ((pe_le hb ha).mpr q)
theorem pe_cm_gt {a b : Int} (ha : pe_R a) (hb : pe_R b) (h : Int32.ofInt b < Int32.ofInt a) : b < a := (pe_lt hb ha).mp h
theorem pe_cn_gt {a b : Int} (ha : pe_R a) (hb : pe_R b) (h : ¬ Int32.ofInt b < Int32.ofInt a) : a ≤ b := Int.not_lt.mp fun q => h ((pe_lt hb ha).mpr q)
theorem pe_cm_le {a b : Int} (ha : pe_R a) (hb : pe_R b) (h : Int32.ofInt a ≤ Int32.ofInt b) : a ≤ b := (pe_le ha hb).mp h
theorem pe_cn_le {a b : Int} (ha : pe_R a) (hb : pe_R b) (h : ¬ Int32.ofInt a ≤ Int32.ofInt b) : b < a := Int.not_le.mp fun q => h ((pe_le ha hb).mpr q)
theorem pe_tdiv {a b : Int} (ha : pe_R a) (hb : pe_R b) : Int32.ofInt (a.tdiv b) = Int32.ofInt a / Int32.ofInt b :=
  Int32.ofInt_tdiv (by show (-2147483648 : Int) ≤ a; exact ha.1) (by show a ≤ (2147483647 : Int); have := ha.2; omega) (by show (-2147483648 : Int) ≤ b; exact hb.1) (by show b ≤ (2147483647 : Int); have := hb.2; omega)
theorem pe_tmod {a b : Int} (ha : pe_R a) (hb : pe_R b) : Int32.ofInt (a.tmod b) = Int32.ofInt a - Int32.ofInt a / Int32.ofInt b * Int32.ofInt b := by
  rw [← pe_tdiv ha hb, ← Int32.ofInt_mul, ← Int32.ofInt_sub, Int.tmod_def, Int.mul_comm]
/-! the locals -/
def pe_lc (ad : Nat → Nat) (nL : Nat) (lv : pe_L) : List (Nat × Value) := (List.range nL).filterMap (fun i => match lv[i]? with
  | some (some v) => some (i, pe_c ad v)
  | _ => none)
def pe_lh (ad : Nat → Nat) (ls : Array Slot) (nL : Nat) (lv : pe_L) : Prop := lv.length ≤ nL ∧ lv_has ls nL (pe_lc ad nL lv)
theorem pe_lhas {ad : Nat → Nat} {ls : Array Slot} {nL : Nat} {lv : pe_L} (h : pe_lh ad ls nL lv) : lv_has ls nL (pe_lc ad nL lv) := h.2
theorem pe_lmem {ad : Nat → Nat} {nL : Nat} {lv : pe_L} {i : Nat} {v : pe_V} (hg : lv[i]? = some (some v)) (hn : i < nL) : (i, pe_c ad v) ∈ pe_lc ad nL lv := by
  refine List.mem_filterMap.mpr ⟨i, List.mem_range.mpr hn, ?_⟩
  rw [hg]
theorem pe_lat {ad : Nat → Nat} {ls : Array Slot} {nL : Nat} {lv : pe_L} {i : Nat} {v : pe_V} (h : pe_lh ad ls nL lv) (hg : lv[i]? = some (some v)) : ls[i]? = some (.val (pe_c ad v)) :=
  h.2.2.2 _ (pe_lmem hg (Nat.lt_of_lt_of_le (List.getElem?_eq_some_iff.mp hg).1 h.1))
def pe_ok1 (lv : pe_L) (i : Nat) : Bool := match i with
  | 0 => true
  | j + 1 => match lv[j]? with
    | some (some w) => pe_cat w == 1
    | _ => true
theorem pe_lset {ad : Nat → Nat} {ls ls' : Array Slot} {nL : Nat} {lv : pe_L} {i : Nat} {v : pe_V} (h : pe_lh ad ls nL lv) (h' : lv_has ls' nL ((i, pe_c ad v) :: (pe_lc ad nL lv).filter (fun q => !(q.1 == i) && !(q.1 + 1 == i && q.2.category == 2)))) (ho : pe_ok1 lv i = true) : pe_lh ad ls' nL (lv.set i (some v)) := by
  refine ⟨by rw [List.length_set]; exact h.1, h'.1, h'.2.1, fun q hq => ?_⟩
  obtain ⟨j, hj, hjq⟩ := List.mem_filterMap.mp hq
  rw [List.getElem?_set] at hjq
  by_cases e : i = j
  · subst e
    rw [if_pos rfl] at hjq
    by_cases hlt : i < lv.length
    · rw [if_pos hlt] at hjq
      have e1 : (i, pe_c ad v) = q := Option.some.inj hjq
      rw [← e1]
      exact h'.2.2 (i, pe_c ad v) List.mem_cons_self
    · rw [if_neg hlt] at hjq
      cases hjq
  · rw [if_neg e] at hjq
    cases hl : lv[j]? with
    | none => rw [hl] at hjq; cases hjq
    | some o =>
      cases o with
      | none => rw [hl] at hjq; cases hjq
      | some w =>
        rw [hl] at hjq
        have e1 : (j, pe_c ad w) = q := Option.some.inj hjq
        rw [← e1]
        refine h'.2.2 (j, pe_c ad w) (List.mem_cons_of_mem _ (List.mem_filter.mpr ⟨pe_lmem hl (List.mem_range.mp hj), ?_⟩))
        have e2 : (j == i) = false := by simpa using fun z : j = i => e z.symm
        show (!(j == i) && !(j + 1 == i && (pe_c ad w).category == 2)) = true
        rw [e2]
        by_cases e3 : j + 1 = i
        · subst e3
          have hc : (pe_cat w == 1) = true := by
            have this : (match lv[j]? with
              | some (some w) => pe_cat w == 1
              | _ => true) = true := ho
            rw [hl] at this
            exact this
          have hc : pe_cat w = 1 := by simpa using hc
          rw [pe_cat_c, hc]
          simp
        · have : (j + 1 == i) = false := by simpa using e3
          rw [this]
          rfl
def pe_args (av : List pe_V) : pe_L := match av with
  | [] => []
  | v :: vs => if pe_cat v = 2 then some v :: none :: pe_args vs else some v :: pe_args vs
theorem pe_args_in {ad : Nat → Nat} : ∀ (av : List pe_V) (o j : Nat) (v : pe_V), (pe_args av)[j]? = some (some v) → (o + j, pe_c ad v) ∈ lv_args o (av.map (pe_c ad))
  | [], o, j, v, h => by simp [pe_args] at h
  | w :: vs, o, j, v, h => by
    unfold pe_args at h
    show (o + j, pe_c ad v) ∈ (o, pe_c ad w) :: lv_args (if (pe_c ad w).category = 2 then o + 2 else o + 1) (vs.map (pe_c ad))
    rw [pe_cat_c]
    by_cases hc : pe_cat w = 2
    · rw [if_pos hc] at h
      rw [if_pos hc]
      match j, h with
      | 0, h => have e : w = v := by simpa using h
                rw [e]; exact List.mem_cons_self
      | 1, h => simp at h
      | j + 2, h =>
        have := pe_args_in (ad := ad) vs (o + 2) j v (by simpa using h)
        rw [show o + (j + 2) = o + 2 + j by omega]
        exact List.mem_cons_of_mem _ this
    · rw [if_neg hc] at h
      rw [if_neg hc]
      match j, h with
      | 0, h => have e : w = v := by simpa using h
                rw [e]; exact List.mem_cons_self
      | j + 1, h =>
        have := pe_args_in (ad := ad) vs (o + 1) j v (by simpa using h)
        rw [show o + (j + 1) = o + 1 + j by omega]
        exact List.mem_cons_of_mem _ this
theorem pe_args_len {ad : Nat → Nat} : ∀ av : List pe_V, (lg_sl (av.map (pe_c ad))).length = (pe_args av).length
  | [] => rfl
  | w :: vs => by
    have ih := pe_args_len (ad := ad) vs
    unfold lg_sl at ih ⊢
    unfold pe_args
    rw [List.map_cons, List.flatMap_cons, List.length_append, ih, pe_cat_c]
    by_cases hc : pe_cat w = 2
    · rw [if_pos hc, if_pos hc]; simp; omega
    · rw [if_neg hc, if_neg hc]; simp; omega
/-- what a field holds -/
def pe_av (σ : pe_H) (a k : Nat) : pe_V := match pe_rt a k with
  | some j => .inr (.inl j)
  | none => .inl (σ a (k : Int))
def pe_en (ad : Nat → Nat) (cA : FieldType → ClassId) (σ : pe_H) (a : Nat) (e : pe_E) : va_E := match e with
  | .inl (ty, n) => .inl (cA ty, n, .inl (fun j => Int32.ofInt (σ a (j : Int))))
  | .inr (ci, N) => .inr (ci, (List.range N).map (fun k => pe_c ad (pe_av σ a k)))
def pe_wd (ad : Nat → Nat) (cA : FieldType → ClassId) (σ : pe_H) : va_W := pe_sh.mapIdx (fun a e => (ad a, pe_en ad cA σ a e))
theorem pe_wd_at {ad : Nat → Nat} {cA : FieldType → ClassId} {σ : pe_H} {a : Nat} {e : pe_E} (h : pe_sh[a]? = some e) : (pe_wd ad cA σ)[a]? = some (ad a, pe_en ad cA σ a e) := by
  unfold pe_wd
  rw [List.getElem?_mapIdx, h]
  rfl
theorem pe_av_same {σ σ' : pe_H} {a k : Nat} (h : σ' a = σ a) : pe_av σ' a k = pe_av σ a k := by
  unfold pe_av
  rw [h]
theorem pe_en_same {ad : Nat → Nat} {cA : FieldType → ClassId} {σ σ' : pe_H} {a : Nat} {e : pe_E} (h : σ' a = σ a) : pe_en ad cA σ' a e = pe_en ad cA σ a e := by
  unfold pe_en
  rcases e with ⟨ty, n⟩ | ⟨ci, N⟩
  · rw [h]
  · simp only [pe_av_same h]
theorem pe_wd_set {ad : Nat → Nat} {cA : FieldType → ClassId} {σ σ' : pe_H} {a : Nat} {e : pe_E} {E : va_E} (h : pe_sh[a]? = some e) (ho : ∀ b, b ≠ a → σ' b = σ b) (hE : E = pe_en ad cA σ' a e) : (pe_wd ad cA σ).set a (ad a, E) = pe_wd ad cA σ' := by
  subst hE
  apply List.ext_getElem?
  intro k
  rw [List.getElem?_set]
  unfold pe_wd
  by_cases hk : a = k
  · subst hk
    rw [if_pos rfl, List.getElem?_mapIdx, h]
    have hl : a < pe_sh.length := (List.getElem?_eq_some_iff.mp h).1
    rw [if_pos (by rw [List.length_mapIdx]; exact hl)]
    rfl
  · rw [if_neg hk, List.getElem?_mapIdx, List.getElem?_mapIdx]
    cases pe_sh[k]? with
    | none => rfl
    | some e' =>
      show some (ad k, pe_en ad cA σ k e') = some (ad k, pe_en ad cA σ' k e')
      rw [pe_en_same (ho k (fun q => hk q.symm))]
def pe_A (ad : Nat → Nat) (sz : Nat) : Nat → Prop := fun q => (∃ a, a < pe_sh.length ∧ q = ad a) ∨ sz ≤ q
theorem pe_wd_fst {ad : Nat → Nat} {cA : FieldType → ClassId} {σ : pe_H} {k : Nat} {q : Nat × va_E} (h : (pe_wd ad cA σ)[k]? = some q) : k < pe_sh.length ∧ q.1 = ad k := by
  unfold pe_wd at h
  rw [List.getElem?_mapIdx] at h
  cases hs : pe_sh[k]? with
  | none => rw [hs] at h; cases h
  | some e =>
    rw [hs] at h
    have h2 : (ad k, pe_en ad cA σ k e) = q := Option.some.inj h
    exact ⟨(List.getElem?_eq_some_iff.mp hs).1, by rw [← h2]⟩
theorem pe_D {ad : Nat → Nat} {cA : FieldType → ClassId} {σ : pe_H} {B : Nat → Prop} {sz : Nat} (h : va_D B (pe_wd ad cA σ)) (σ' : pe_H) : va_D (pe_A ad sz) (pe_wd ad cA σ') := by
  refine ⟨fun i j p q hp hq e => ?_, fun k q hk => Or.inl ⟨k, pe_wd_fst hk⟩⟩
  obtain ⟨h1, h2⟩ := pe_wd_fst hp
  obtain ⟨h3, h4⟩ := pe_wd_fst hq
  have e1 : pe_sh[i]? = some pe_sh[i] := List.getElem?_eq_getElem h1
  have e2 : pe_sh[j]? = some pe_sh[j] := List.getElem?_eq_getElem h3
  exact h.1 i j _ _ (pe_wd_at e1) (pe_wd_at e2) (by show ad i = ad j; rw [← h2, ← h4]; exact e)
theorem pe_A_wd {ad : Nat → Nat} {cA : FieldType → ClassId} {σ : pe_H} {sz q : Nat} : va_A (pe_wd ad cA σ) sz q ↔ pe_A ad sz q := by
  constructor
  · rintro (⟨k, e, h⟩ | h)
    · exact Or.inl ⟨k, pe_wd_fst h⟩
    · exact Or.inr h
  · rintro (⟨k, h1, h2⟩ | h)
    · refine Or.inl ⟨k, pe_en ad cA σ k pe_sh[k], ?_⟩
      rw [h2]
      exact pe_wd_at (List.getElem?_eq_getElem h1)
    · exact Or.inr h
theorem pe_A_le {ad : Nat → Nat} {s1 s2 q : Nat} (h : s1 ≤ s2) (hq : pe_A ad s2 q) : pe_A ad s1 q := by
  rcases hq with h1 | h1
  · exact Or.inl h1
  · exact Or.inr (Nat.le_trans h h1)
abbrev pe_ty (cA : FieldType → ClassId) : List (ClassId × FieldType) := [(cA .int, .int), (cA .boolean, .boolean), (cA .byte, .byte)]
/-- a method: its name, its code, its locals, its result; the frames and words that it nests -/
abbrev pe_Y : Type := MethodName × ByteArray × Nat × Option FieldType × Nat × Nat
abbrev pe_ws (y : pe_Y) : List Cond := .code y.1 y.2.1 y.2.2.1 y.2.2.2.1 :: pe_WS
abbrev pe_rm (y : pe_Y) : Room := { frames := y.2.2.2.2.1, cells := 0, slots := 0, locals := y.2.2.2.2.2 }
def pe_Qc (D : va_G) (ad : Nat → Nat) (cA : FieldType → ClassId) (A : Nat → Prop) (Q : Option pe_V → pe_H → Prop) : Array Value → State → Outcome → State → Prop := fun _ st oc t =>
  (∃ (r : Option pe_V) (σ' : pe_H), oc = .returned (r.map (pe_c ad)) ∧ Q r σ' ∧ va_P D vwCl (pe_wd ad cA σ') t.heap) ∧ va_F A st t
def pe_X (y : pe_Y) (D : va_G) (cA : FieldType → ClassId) (p : Program) (s : State) (m : MethodId) (args : Array Value) (meth : Method) (c : Code) : Prop :=
  p.tables.exec = Jvm.exec ∧ c.code = y.2.1 ∧ meth.sig.returnType = y.2.2.2.1 ∧ meth.locks = false ∧ c.maxLocals = y.2.2.1 ∧ (∀ w ∈ pe_ws y, w.before args s = true) ∧ s.vm.findClass y.1.cls = some m.cls ∧ va_K D vwCl (pe_ty cA) s ∧ True
/-- the judgement: from this place of the method, with these locals, operands and cells, the method ends, and Q of its answer and of the cells -/
def pe_G (y : pe_Y) (pc : Nat) (lv : pe_L) (st : List pe_V) (σ : pe_H) (Q : Option pe_V → pe_H → Prop) : Prop :=
  ∀ (l : Launch) (D : va_G) (ad : Nat → Nat) (cA : FieldType → ClassId) (p : Program) (e : Env) (s : State) (m : MethodId) (args : Array Value) (below : List Frame) (meth : Method) (c : Code) (H : Heap) (locs : List Loc) (ls : Array Slot),
    pe_X y D cA p s m args meth c → pe_lh ad ls y.2.2.1 lv → va_P D vwCl (pe_wd ad cA σ) H → va_D (pe_A ad s.heap.size) (pe_wd ad cA σ) → va_S (pe_A ad s.heap.size) s.heap H locs →
    W p l e (headSpec (pe_ws y) (pe_rm y)).room s m args below meth c H locs 0 0 (MQ below (pe_Qc D ad cA (pe_A ad s.heap.size) Q) args s 0 0 (pe_A ad s.heap.size)) (F0 m pc ls (st.map (pe_c ad)))
/-- the contract: called with these arguments over these cells, it returns, and Q -/
def pe_M (y : pe_Y) (av : List pe_V) (σ : pe_H) (Q : Option pe_V → pe_H → Prop) : Prop :=
  ∀ (l : Launch) (D : va_G) (ad : Nat → Nat) (cA : FieldType → ClassId) (sz : Nat), Met l y.1 (pe_ws y) (pe_rm y)
    (va_Pc (av.map (pe_c ad)) (fun U => U.heap.size = sz ∧ va_P D vwCl (pe_wd ad cA σ) U.heap ∧ va_K D vwCl (pe_ty cA) U ∧ va_D (fun _ => True) (pe_wd ad cA σ)))
    (pe_Qc D ad cA (pe_A ad sz) Q) 0 0 (pe_A ad sz)
theorem pe_G.to {y : pe_Y} {pc : Nat} {lv lv' : pe_L} {st st' : List pe_V} {σ σ' : pe_H} {Q : Option pe_V → pe_H → Prop} (h : pe_G y pc lv st σ Q) (h1 : lv = lv' := by rfl) (h2 : st = st' := by rfl) (h3 : σ = σ' := by rfl) : pe_G y pc lv' st' σ' Q := by
  subst h1; subst h2; subst h3; exact h
theorem pe_enter {y : pe_Y} {av : List pe_V} {lv : pe_L} {σ : pe_H} {Q : Option pe_V → pe_H → Prop} (hy : plainName y.1.cls = true) (hlv : lv = pe_args av ++ List.replicate (y.2.2.1 - (pe_args av).length) none) (hlen : (pe_args av).length ≤ y.2.2.1) (k : pe_G y 0 lv [] σ Q) : pe_M y av σ Q := by
  intro l D ad cA sz
  refine Met.ofW (cc := y.2.1) (maxL := y.2.2.1) (ret := y.2.2.2.1) hy rfl ?_
  intro p e s m args below meth c s₁ B hml hv
  obtain ⟨rfl, hsz, hP, hK, hD0⟩ := hv
  subst hsz
  have hts := atoms_spec (ws := pe_ws y) B.pre
  have hl := lv_entry (av.map (pe_c ad)) (n := y.2.2.1) (by rw [pe_args_len]; exact hlen)
  rw [lg_entry_eq]
  generalize (lg_sl (av.map (pe_c ad)) ++ List.replicate (y.2.2.1 - (lg_sl (av.map (pe_c ad))).length) Slot.unset).toArray = ls at hl ⊢
  refine k l D ad cA p e s m _ below meth c s.heap [] ls ⟨B.exec, B.bytes, B.returns, B.notSynchronized, hml, hts, findClass_of_methodNamed B.named, hK, trivial⟩ ⟨?_, hl.1, hl.2.1, fun q hq => ?_⟩ hP (pe_D hD0 σ) va_S.rf
  · rw [hlv, List.length_append, List.length_replicate]
    omega
  · obtain ⟨j, hj, hjq⟩ := List.mem_filterMap.mp hq
    cases hg : lv[j]? with
    | none => rw [hg] at hjq; cases hjq
    | some o =>
      cases o with
      | none => rw [hg] at hjq; cases hjq
      | some w =>
        rw [hg] at hjq
        have e1 : (j, pe_c ad w) = q := Option.some.inj hjq
        rw [← e1]
        refine hl.2.2 (j, pe_c ad w) ?_
        have h1 : (pe_args av)[j]? = some (some w) := by
          rw [hlv, List.getElem?_append] at hg
          by_cases hlt : j < (pe_args av).length
          · rw [if_pos hlt] at hg; exact hg
          · rw [if_neg hlt, List.getElem?_replicate] at hg
            by_cases h2 : j - (pe_args av).length < y.2.2.1 - (pe_args av).length
            · rw [if_pos h2] at hg; cases hg
            · rw [if_neg h2] at hg; cases hg
        have := pe_args_in (ad := ad) av 0 j w h1
        rw [Nat.zero_add] at this
        exact this
/-- class facts of a field -/
def pe_FL (own : String) (idx ci k N : Nat) : Prop := ∃ (C : String) (T : u_T) (ty0 : Nat → FieldType), vwCl[ci]? = some (C, T, N) ∧ k < N ∧ (∀ w ∈ u_ws C T N, w ∈ pe_WS) ∧ (T k).1 = C ∧ (∀ k, k < N → parseFieldDescriptor (T k).2.2.1 = some (ty0 k)) ∧ (∀ a, a < N → ∀ b, b < N → a ≠ b → (T a).2.1 ≠ (T b).2.1) ∧ Cond.fieldLink own idx C (T k).2.1 (T k).2.2.1 ∈ pe_WS
def pe_FP (ci k : Nat) (ty : FieldType) : Prop := ∃ (C : String) (T : u_T) (N : Nat), vwCl[ci]? = some (C, T, N) ∧ (T k).2.2.2 = false ∧ parseFieldDescriptor (T k).2.2.1 = some ty
/-- the word of a call -/
def pe_CL (own : String) (idx : Nat) (y : pe_Y) (n : Nat) : Prop := Cond.methodLink own idx y.1 ∈ pe_WS ∧ Cond.code y.1 y.2.1 y.2.2.1 y.2.2.2.1 ∈ pe_WS ∧ Cond.initialized y.1.cls ∈ pe_WS ∧ (y.1.cls ≠ "java/lang/invoke/MethodHandle" ∧ y.1.cls ≠ "java/lang/invoke/VarHandle" ∧ (parseMethodDescriptor y.1.desc).map (fun d => d.parameters.length) = some n)
theorem pe_good {y y' : pe_Y} (h : Cond.code y'.1 y'.2.1 y'.2.2.1 y'.2.2.2.1 ∈ pe_WS) : GoodIn (pe_ws y) (pe_ws y') := by
  intro w hw
  rcases List.mem_cons.mp hw with rfl | hw
  · exact ⟨List.mem_cons_of_mem _ h, pe_WS_good _ h⟩
  · exact ⟨List.mem_cons_of_mem _ hw, pe_WS_good _ hw⟩
end
section
section PE_OPS
variable {y : pe_Y} {pc : Nat} {lv : pe_L} {st : List pe_V} {σ : pe_H} {Q : Option pe_V → pe_H → Prop}
theorem pe_top {p : Program} {l : Launch} {e : Env} {R : Room} {s : State} {m : MethodId} {args : Array Value} {below : List Frame} {meth : Method} {c : Code} {H : Heap} {locs : List Loc} {cells slots : Nat} {QQ : State → Prop} {ls : Array Slot} {ad : Nat → Nat} {v : Value} {w : pe_V} (k : W p l e R s m args below meth c H locs cells slots QQ (F0 m pc ls ((w :: st).map (pe_c ad)))) (h : v = pe_c ad w) : W p l e R s m args below meth c H locs cells slots QQ (F0 m pc ls (v :: st.map (pe_c ad))) := by
  subst h
  exact k
theorem pe_iconst {n : Int} (hd : decode y.2.1 pc = .ok (.iconst n, 1)) (k : pe_G y (pc + 1) lv (.inl n :: st) σ Q) : pe_G y pc lv st σ Q := by
  intro l D ad cA p e s m args below meth c H locs ls X hl hP hD hS
  have k := k l D ad cA p e s m args below meth c H locs ls X hl hP hD hS
  exact lv_iconst X.1 X.2.1 hd rfl k
theorem pe_bipush {n : Int} (hd : decode y.2.1 pc = .ok (.bipush n, 2)) (k : pe_G y (pc + 2) lv (.inl n :: st) σ Q) (hv : (Int8.ofInt n).toInt32 = Int32.ofInt n := by decide) : pe_G y pc lv st σ Q := by
  intro l D ad cA p e s m args below meth c H locs ls X hl hP hD hS
  have k := k l D ad cA p e s m args below meth c H locs ls X hl hP hD hS
  exact lv_bipush X.1 X.2.1 hd hv k
theorem pe_sipush {n : Int} (hd : decode y.2.1 pc = .ok (.sipush n, 3)) (k : pe_G y (pc + 3) lv (.inl n :: st) σ Q) (hv : (Int16.ofInt n).toInt32 = Int32.ofInt n := by decide) : pe_G y pc lv st σ Q := by
  intro l D ad cA p e s m args below meth c H locs ls X hl hP hD hS
  have k := k l D ad cA p e s m args below meth c H locs ls X hl hP hD hS
  exact lv_sipush X.1 X.2.1 hd hv k
theorem pe_ldc {idx : Nat} {z : Int} {v : Int32} (hw : Cond.constant y.1.cls idx v ∈ pe_WS) (hd : decode y.2.1 pc = .ok (.ldc idx, 2)) (hv : v = Int32.ofInt z) (k : pe_G y (pc + 2) lv (.inl z :: st) σ Q) : pe_G y pc lv st σ Q := by
  intro l D ad cA p e s m args below meth c H locs ls X hl hP hD hS
  have k := k l D ad cA p e s m args below meth c H locs ls X hl hP hD hS
  exact lv_ldc X.1 X.2.1 X.2.2.2.2.2.2.1 (X.2.2.2.2.2.1 _ (List.mem_cons_of_mem _ hw)) hd (pe_top k (by rw [hv]; rfl))
theorem pe_ldcw {idx : Nat} {z : Int} {v : Int32} (hw : Cond.constant y.1.cls idx v ∈ pe_WS) (hd : decode y.2.1 pc = .ok (.ldc_w idx, 3)) (hv : v = Int32.ofInt z) (k : pe_G y (pc + 3) lv (.inl z :: st) σ Q) : pe_G y pc lv st σ Q := by
  intro l D ad cA p e s m args below meth c H locs ls X hl hP hD hS
  have k := k l D ad cA p e s m args below meth c H locs ls X hl hP hD hS
  exact lv_ldcw X.1 X.2.1 X.2.2.2.2.2.2.1 (X.2.2.2.2.2.1 _ (List.mem_cons_of_mem _ hw)) hd (pe_top k (by rw [hv]; rfl))
theorem pe_ldc2 {idx : Nat} {v : Int64} (hw : Cond.constantLong y.1.cls idx v ∈ pe_WS) (hd : decode y.2.1 pc = .ok (.ldc2_w idx, 3)) (k : pe_G y (pc + 3) lv (.inr (.inr v) :: st) σ Q) : pe_G y pc lv st σ Q := by
  intro l D ad cA p e s m args below meth c H locs ls X hl hP hD hS
  have k := k l D ad cA p e s m args below meth c H locs ls X hl hP hD hS
  exact lv_ldc2 X.1 X.2.1 X.2.2.2.2.2.2.1 (X.2.2.2.2.2.1 _ (List.mem_cons_of_mem _ hw)) hd k
theorem pe_iload_n {i : Fin 4} {z : Int} (hd : decode y.2.1 pc = .ok (.iload_n i, 1)) (hg : lv[(i : Nat)]? = some (some (.inl z))) (k : pe_G y (pc + 1) lv (.inl z :: st) σ Q) : pe_G y pc lv st σ Q := by
  intro l D ad cA p e s m args below meth c H locs ls X hl hP hD hS
  have k := k l D ad cA p e s m args below meth c H locs ls X hl hP hD hS
  exact lv_iload_n X.1 X.2.1 hd rfl (pe_lat hl hg) k
theorem pe_iload {i : Nat} {z : Int} (hd : decode y.2.1 pc = .ok (.iload i, 2)) (hg : lv[i]? = some (some (.inl z))) (k : pe_G y (pc + 2) lv (.inl z :: st) σ Q) : pe_G y pc lv st σ Q := by
  intro l D ad cA p e s m args below meth c H locs ls X hl hP hD hS
  have k := k l D ad cA p e s m args below meth c H locs ls X hl hP hD hS
  exact lv_iload X.1 X.2.1 hd (pe_lat hl hg) k
theorem pe_aload_n {i : Fin 4} {z : Nat} (hd : decode y.2.1 pc = .ok (.aload_n i, 1)) (hg : lv[(i : Nat)]? = some (some (.inr (.inl z)))) (k : pe_G y (pc + 1) lv (.inr (.inl z) :: st) σ Q) : pe_G y pc lv st σ Q := by
  intro l D ad cA p e s m args below meth c H locs ls X hl hP hD hS
  have k := k l D ad cA p e s m args below meth c H locs ls X hl hP hD hS
  exact lv_aload_n X.1 X.2.1 hd rfl (pe_lat hl hg) k
theorem pe_aload {i : Nat} {z : Nat} (hd : decode y.2.1 pc = .ok (.aload i, 2)) (hg : lv[i]? = some (some (.inr (.inl z)))) (k : pe_G y (pc + 2) lv (.inr (.inl z) :: st) σ Q) : pe_G y pc lv st σ Q := by
  intro l D ad cA p e s m args below meth c H locs ls X hl hP hD hS
  have k := k l D ad cA p e s m args below meth c H locs ls X hl hP hD hS
  exact lv_aload X.1 X.2.1 hd (pe_lat hl hg) k
theorem pe_lload_n {i : Fin 4} {z : Int64} (hd : decode y.2.1 pc = .ok (.lload_n i, 1)) (hg : lv[(i : Nat)]? = some (some (.inr (.inr z)))) (k : pe_G y (pc + 1) lv (.inr (.inr z) :: st) σ Q) : pe_G y pc lv st σ Q := by
  intro l D ad cA p e s m args below meth c H locs ls X hl hP hD hS
  have k := k l D ad cA p e s m args below meth c H locs ls X hl hP hD hS
  exact lv_lload_n X.1 X.2.1 hd rfl (pe_lat hl hg) k
theorem pe_lload {i : Nat} {z : Int64} (hd : decode y.2.1 pc = .ok (.lload i, 2)) (hg : lv[i]? = some (some (.inr (.inr z)))) (k : pe_G y (pc + 2) lv (.inr (.inr z) :: st) σ Q) : pe_G y pc lv st σ Q := by
  intro l D ad cA p e s m args below meth c H locs ls X hl hP hD hS
  have k := k l D ad cA p e s m args below meth c H locs ls X hl hP hD hS
  exact lv_lload X.1 X.2.1 hd (pe_lat hl hg) k
theorem pe_istore_n {i : Fin 4} {z : Int} (hd : decode y.2.1 pc = .ok (.istore_n i, 1)) (k : pe_G y (pc + 1) (lv.set (i : Nat) (some (.inl z))) st σ Q) (hn : (i : Nat) < y.2.2.1 := by decide) (ho : pe_ok1 lv (i : Nat) = true := by rfl) : pe_G y pc lv (.inl z :: st) σ Q := by
  intro l D ad cA p e s m args below meth c H locs ls X hl hP hD hS
  exact lv_istore_n X.1 X.2.1 hd rfl (pe_lhas hl) hn rfl (fun ls' h' => k l D ad cA p e s m args below meth c H locs ls' X (pe_lset hl h' ho) hP hD hS)
theorem pe_istore {i : Nat} {z : Int} (hd : decode y.2.1 pc = .ok (.istore i, 2)) (k : pe_G y (pc + 2) (lv.set i (some (.inl z))) st σ Q) (hn : i < y.2.2.1 := by decide) (ho : pe_ok1 lv i = true := by rfl) : pe_G y pc lv (.inl z :: st) σ Q := by
  intro l D ad cA p e s m args below meth c H locs ls X hl hP hD hS
  exact lv_istore X.1 X.2.1 hd (pe_lhas hl) hn rfl (fun ls' h' => k l D ad cA p e s m args below meth c H locs ls' X (pe_lset hl h' ho) hP hD hS)
theorem pe_astore_n {i : Fin 4} {z : Nat} (hd : decode y.2.1 pc = .ok (.astore_n i, 1)) (k : pe_G y (pc + 1) (lv.set (i : Nat) (some (.inr (.inl z)))) st σ Q) (hn : (i : Nat) < y.2.2.1 := by decide) (ho : pe_ok1 lv (i : Nat) = true := by rfl) : pe_G y pc lv (.inr (.inl z) :: st) σ Q := by
  intro l D ad cA p e s m args below meth c H locs ls X hl hP hD hS
  exact lv_astore_n X.1 X.2.1 hd rfl (pe_lhas hl) hn rfl (fun ls' h' => k l D ad cA p e s m args below meth c H locs ls' X (pe_lset hl h' ho) hP hD hS)
theorem pe_astore {i : Nat} {z : Nat} (hd : decode y.2.1 pc = .ok (.astore i, 2)) (k : pe_G y (pc + 2) (lv.set i (some (.inr (.inl z)))) st σ Q) (hn : i < y.2.2.1 := by decide) (ho : pe_ok1 lv i = true := by rfl) : pe_G y pc lv (.inr (.inl z) :: st) σ Q := by
  intro l D ad cA p e s m args below meth c H locs ls X hl hP hD hS
  exact lv_astore X.1 X.2.1 hd (pe_lhas hl) hn rfl (fun ls' h' => k l D ad cA p e s m args below meth c H locs ls' X (pe_lset hl h' ho) hP hD hS)
theorem pe_iinc {i : Nat} {n z : Int} (hd : decode y.2.1 pc = .ok (.iinc i n, 3)) (hg : lv[i]? = some (some (.inl z))) (k : pe_G y (pc + 3) (lv.set i (some (.inl (z + n)))) st σ Q) (hn : i < y.2.2.1 := by decide) (ho : pe_ok1 lv i = true := by rfl) : pe_G y pc lv st σ Q := by
  intro l D ad cA p e s m args below meth c H locs ls X hl hP hD hS
  obtain ⟨q, hq⟩ := List.getElem?_of_mem (pe_lmem (ad := ad) (nL := y.2.2.1) hg hn)
  refine lv_iinc (v := Int32.ofInt (z + n)) X.1 X.2.1 hd (pe_lhas hl) hq (by rw [Int32.ofInt_add]) hn rfl (fun ls' h' => k l D ad cA p e s m args below meth c H locs ls' X (pe_lset (v := .inl (z + n)) hl h' ho) hP hD hS)
theorem pe_iadd {a b : Int} (hd : decode y.2.1 pc = .ok (.iadd, 1)) (k : pe_G y (pc + 1) lv (.inl (a + b) :: st) σ Q) : pe_G y pc lv (.inl b :: .inl a :: st) σ Q := by
  intro l D ad cA p e s m args below meth c H locs ls X hl hP hD hS
  have k := k l D ad cA p e s m args below meth c H locs ls X hl hP hD hS
  exact lv_iadd X.1 X.2.1 hd (pe_top k (by show _ = Value.int (Int32.ofInt (a + b)); rw [Int32.ofInt_add]))
theorem pe_isub {a b : Int} (hd : decode y.2.1 pc = .ok (.isub, 1)) (k : pe_G y (pc + 1) lv (.inl (a - b) :: st) σ Q) : pe_G y pc lv (.inl b :: .inl a :: st) σ Q := by
  intro l D ad cA p e s m args below meth c H locs ls X hl hP hD hS
  have k := k l D ad cA p e s m args below meth c H locs ls X hl hP hD hS
  exact lv_isub X.1 X.2.1 hd (pe_top k (by show _ = Value.int (Int32.ofInt (a - b)); rw [Int32.ofInt_sub]))
theorem pe_imul {a b : Int} (hd : decode y.2.1 pc = .ok (.imul, 1)) (k : pe_G y (pc + 1) lv (.inl (a * b) :: st) σ Q) : pe_G y pc lv (.inl b :: .inl a :: st) σ Q := by
  intro l D ad cA p e s m args below meth c H locs ls X hl hP hD hS
  have k := k l D ad cA p e s m args below meth c H locs ls X hl hP hD hS
  exact lv_imul X.1 X.2.1 hd (pe_top k (by show _ = Value.int (Int32.ofInt (a * b)); rw [Int32.ofInt_mul]))
theorem pe_iand {a b z : Int} (hd : decode y.2.1 pc = .ok (.iand, 1)) (hz : Int32.ofInt a &&& Int32.ofInt b = Int32.ofInt z) (k : pe_G y (pc + 1) lv (.inl z :: st) σ Q) : pe_G y pc lv (.inl b :: .inl a :: st) σ Q := by
  intro l D ad cA p e s m args below meth c H locs ls X hl hP hD hS
  have k := k l D ad cA p e s m args below meth c H locs ls X hl hP hD hS
  exact lv_iand X.1 X.2.1 hd (pe_top k (by show _ = Value.int (Int32.ofInt z); rw [← hz]))
theorem pe_ior {a b z : Int} (hd : decode y.2.1 pc = .ok (.ior, 1)) (hz : Int32.ofInt a ||| Int32.ofInt b = Int32.ofInt z) (k : pe_G y (pc + 1) lv (.inl z :: st) σ Q) : pe_G y pc lv (.inl b :: .inl a :: st) σ Q := by
  intro l D ad cA p e s m args below meth c H locs ls X hl hP hD hS
  have k := k l D ad cA p e s m args below meth c H locs ls X hl hP hD hS
  exact lv_ior X.1 X.2.1 hd (pe_top k (by show _ = Value.int (Int32.ofInt z); rw [← hz]))
theorem pe_ixor {a b z : Int} (hd : decode y.2.1 pc = .ok (.ixor, 1)) (hz : Int32.ofInt a ^^^ Int32.ofInt b = Int32.ofInt z) (k : pe_G y (pc + 1) lv (.inl z :: st) σ Q) : pe_G y pc lv (.inl b :: .inl a :: st) σ Q := by
  intro l D ad cA p e s m args below meth c H locs ls X hl hP hD hS
  have k := k l D ad cA p e s m args below meth c H locs ls X hl hP hD hS
  exact lv_ixor X.1 X.2.1 hd (pe_top k (by show _ = Value.int (Int32.ofInt z); rw [← hz]))
theorem pe_ishl {a b z : Int} (hd : decode y.2.1 pc = .ok (.ishl, 1)) (hz : Int32.ofInt a <<< (Int32.ofInt b &&& 31) = Int32.ofInt z) (k : pe_G y (pc + 1) lv (.inl z :: st) σ Q) : pe_G y pc lv (.inl b :: .inl a :: st) σ Q := by
  intro l D ad cA p e s m args below meth c H locs ls X hl hP hD hS
  have k := k l D ad cA p e s m args below meth c H locs ls X hl hP hD hS
  exact lv_ishl X.1 X.2.1 hd (pe_top k (by show _ = Value.int (Int32.ofInt z); rw [← hz]))
theorem pe_ishr {a b z : Int} (hd : decode y.2.1 pc = .ok (.ishr, 1)) (hz : Int32.ofInt a >>> (Int32.ofInt b &&& 31) = Int32.ofInt z) (k : pe_G y (pc + 1) lv (.inl z :: st) σ Q) : pe_G y pc lv (.inl b :: .inl a :: st) σ Q := by
  intro l D ad cA p e s m args below meth c H locs ls X hl hP hD hS
  have k := k l D ad cA p e s m args below meth c H locs ls X hl hP hD hS
  exact lv_ishr X.1 X.2.1 hd (pe_top k (by show _ = Value.int (Int32.ofInt z); rw [← hz]))
theorem pe_idiv {a b : Int} (hd : decode y.2.1 pc = .ok (.idiv, 1)) (ha : pe_R a) (hb0 : 0 < b) (hb : pe_R b) (k : pe_G y (pc + 1) lv (.inl (a.tdiv b) :: st) σ Q) : pe_G y pc lv (.inl b :: .inl a :: st) σ Q := by
  intro l D ad cA p e s m args below meth c H locs ls X hl hP hD hS
  have k := k l D ad cA p e s m args below meth c H locs ls X hl hP hD hS
  exact lv_idiv X.1 X.2.1 hd (fun q => by have := (pe_eq hb pe_R0).mp q; omega) (pe_top k (by show _ = Value.int (Int32.ofInt (a.tdiv b)); rw [pe_tdiv ha hb]))
theorem pe_irem {a b : Int} (hd : decode y.2.1 pc = .ok (.irem, 1)) (ha : pe_R a) (hb0 : 0 < b) (hb : pe_R b) (k : pe_G y (pc + 1) lv (.inl (a.tmod b) :: st) σ Q) : pe_G y pc lv (.inl b :: .inl a :: st) σ Q := by
  intro l D ad cA p e s m args below meth c H locs ls X hl hP hD hS
  have k := k l D ad cA p e s m args below meth c H locs ls X hl hP hD hS
  exact lv_irem X.1 X.2.1 hd (fun q => by have := (pe_eq hb pe_R0).mp q; omega) (pe_top k (by show _ = Value.int (Int32.ofInt (a.tmod b)); rw [pe_tmod ha hb]))
theorem pe_i2l {a : Int} {v : Int64} (hd : decode y.2.1 pc = .ok (.i2l, 1)) (hv : (Int32.ofInt a).toInt64 = v) (k : pe_G y (pc + 1) lv (.inr (.inr v) :: st) σ Q) : pe_G y pc lv (.inl a :: st) σ Q := by
  intro l D ad cA p e s m args below meth c H locs ls X hl hP hD hS
  have k := k l D ad cA p e s m args below meth c H locs ls X hl hP hD hS
  exact lv_i2l X.1 X.2.1 hd hv k
theorem pe_l2i {x : Int64} {z : Int} (hd : decode y.2.1 pc = .ok (.l2i, 1)) (hv : x.toInt32 = Int32.ofInt z) (k : pe_G y (pc + 1) lv (.inl z :: st) σ Q) : pe_G y pc lv (.inr (.inr x) :: st) σ Q := by
  intro l D ad cA p e s m args below meth c H locs ls X hl hP hD hS
  have k := k l D ad cA p e s m args below meth c H locs ls X hl hP hD hS
  exact lv_l2i X.1 X.2.1 hd hv k
theorem pe_lushr {x v : Int64} {b : Int} (hd : decode y.2.1 pc = .ok (.lushr, 1)) (hv : (x.toUInt64 >>> ((Int32.ofInt b).toInt64.toUInt64 &&& Int64.toUInt64 63)).toInt64 = v) (k : pe_G y (pc + 1) lv (.inr (.inr v) :: st) σ Q) : pe_G y pc lv (.inl b :: .inr (.inr x) :: st) σ Q := by
  intro l D ad cA p e s m args below meth c H locs ls X hl hP hD hS
  have k := k l D ad cA p e s m args below meth c H locs ls X hl hP hD hS
  exact lv_lushr X.1 X.2.1 hd hv k
theorem pe_lshr {x v : Int64} {b : Int} (hd : decode y.2.1 pc = .ok (.lshr, 1)) (hv : x >>> ((Int32.ofInt b).toInt64 &&& 63) = v) (k : pe_G y (pc + 1) lv (.inr (.inr v) :: st) σ Q) : pe_G y pc lv (.inl b :: .inr (.inr x) :: st) σ Q := by
  intro l D ad cA p e s m args below meth c H locs ls X hl hP hD hS
  have k := k l D ad cA p e s m args below meth c H locs ls X hl hP hD hS
  exact lv_lshr X.1 X.2.1 hd hv k
theorem pe_lshl {x v : Int64} {b : Int} (hd : decode y.2.1 pc = .ok (.lshl, 1)) (hv : x <<< ((Int32.ofInt b).toInt64 &&& 63) = v) (k : pe_G y (pc + 1) lv (.inr (.inr v) :: st) σ Q) : pe_G y pc lv (.inl b :: .inr (.inr x) :: st) σ Q := by
  intro l D ad cA p e s m args below meth c H locs ls X hl hP hD hS
  have k := k l D ad cA p e s m args below meth c H locs ls X hl hP hD hS
  exact lv_lshl X.1 X.2.1 hd hv k
theorem pe_land {x v : Int64} (hd : decode y.2.1 pc = .ok (.land, 1)) (k : pe_G y (pc + 1) lv (.inr (.inr (x &&& v)) :: st) σ Q) : pe_G y pc lv (.inr (.inr v) :: .inr (.inr x) :: st) σ Q := by
  intro l D ad cA p e s m args below meth c H locs ls X hl hP hD hS
  have k := k l D ad cA p e s m args below meth c H locs ls X hl hP hD hS
  exact lv_land X.1 X.2.1 hd k
theorem pe_dup {v : pe_V} (hd : decode y.2.1 pc = .ok (.dup, 1)) (k : pe_G y (pc + 1) lv (v :: v :: st) σ Q) (hc : pe_cat v = 1 := by rfl) : pe_G y pc lv (v :: st) σ Q := by
  intro l D ad cA p e s m args below meth c H locs ls X hl hP hD hS
  have k := k l D ad cA p e s m args below meth c H locs ls X hl hP hD hS
  exact lv_dup X.1 X.2.1 hd (by rw [pe_cat_c]; exact hc) k
theorem pe_dup2 {v w : pe_V} (hd : decode y.2.1 pc = .ok (.dup2, 1)) (k : pe_G y (pc + 1) lv (v :: w :: v :: w :: st) σ Q) (hc : pe_cat v = 1 := by rfl) (hc2 : pe_cat w = 1 := by rfl) : pe_G y pc lv (v :: w :: st) σ Q := by
  intro l D ad cA p e s m args below meth c H locs ls X hl hP hD hS
  have k := k l D ad cA p e s m args below meth c H locs ls X hl hP hD hS
  exact lv_dup2_11 X.1 X.2.1 hd (by rw [pe_cat_c]; exact hc) (by rw [pe_cat_c]; exact hc2) k
theorem pe_pop {v : pe_V} (hd : decode y.2.1 pc = .ok (.pop, 1)) (k : pe_G y (pc + 1) lv st σ Q) (hc : pe_cat v = 1 := by rfl) : pe_G y pc lv (v :: st) σ Q := by
  intro l D ad cA p e s m args below meth c H locs ls X hl hP hD hS
  have k := k l D ad cA p e s m args below meth c H locs ls X hl hP hD hS
  exact lv_pop X.1 X.2.1 hd (by rw [pe_cat_c]; exact hc) k
theorem pe_goto {off : Int} {t : Nat} (hd : decode y.2.1 pc = .ok (.goto off, 3)) (k : pe_G y t lv st σ Q) (ht : (pc : Int) + off = (t : Int) := by decide) : pe_G y pc lv st σ Q := by
  intro l D ad cA p e s m args below meth c H locs ls X hl hP hD hS
  have k := k l D ad cA p e s m args below meth c H locs ls X hl hP hD hS
  exact lv_goto X.1 X.2.1 hd ht k
theorem pe_icmp_eq {a b off : Int} {t : Nat} (hd : decode y.2.1 pc = .ok (.if_icmp .eq off, 3)) (ha : pe_R a) (hb : pe_R b) (kt : a = b → pe_G y t lv st σ Q) (kf : ¬ a = b → pe_G y (pc + 3) lv st σ Q) (ht : (pc : Int) + off = (t : Int) := by decide) : pe_G y pc lv (.inl b :: .inl a :: st) σ Q := by
  intro l D ad cA p e s m args below meth c H locs ls X hl hP hD hS
  refine lv_icmp_eq X.1 X.2.1 hd ht (fun q => kt ?_ l D ad cA p e s m args below meth c H locs ls X hl hP hD hS) (fun q => kf ?_ l D ad cA p e s m args below meth c H locs ls X hl hP hD hS)
  · exact pe_cm_eq ha hb q
  · exact pe_cn_eq ha hb q
theorem pe_if_eq {a off : Int} {t : Nat} (hd : decode y.2.1 pc = .ok (.ifCond .eq off, 3)) (ha : pe_R a) (kt : a = 0 → pe_G y t lv st σ Q) (kf : ¬ a = 0 → pe_G y (pc + 3) lv st σ Q) (ht : (pc : Int) + off = (t : Int) := by decide) : pe_G y pc lv (.inl a :: st) σ Q := by
  intro l D ad cA p e s m args below meth c H locs ls X hl hP hD hS
  refine lv_if_eq X.1 X.2.1 hd ht (fun q => kt ?_ l D ad cA p e s m args below meth c H locs ls X hl hP hD hS) (fun q => kf ?_ l D ad cA p e s m args below meth c H locs ls X hl hP hD hS)
  · exact pe_cm_eq ha pe_R0 q
  · exact pe_cn_eq ha pe_R0 q
theorem pe_icmp_ne {a b off : Int} {t : Nat} (hd : decode y.2.1 pc = .ok (.if_icmp .ne off, 3)) (ha : pe_R a) (hb : pe_R b) (kt : ¬ a = b → pe_G y t lv st σ Q) (kf : a = b → pe_G y (pc + 3) lv st σ Q) (ht : (pc : Int) + off = (t : Int) := by decide) : pe_G y pc lv (.inl b :: .inl a :: st) σ Q := by
  intro l D ad cA p e s m args below meth c H locs ls X hl hP hD hS
  refine lv_icmp_ne X.1 X.2.1 hd ht (fun q => kt ?_ l D ad cA p e s m args below meth c H locs ls X hl hP hD hS) (fun q => kf ?_ l D ad cA p e s m args below meth c H locs ls X hl hP hD hS)
  · exact pe_cm_ne ha hb q
  · exact pe_cn_ne ha hb q
theorem pe_if_ne {a off : Int} {t : Nat} (hd : decode y.2.1 pc = .ok (.ifCond .ne off, 3)) (ha : pe_R a) (kt : ¬ a = 0 → pe_G y t lv st σ Q) (kf : a = 0 → pe_G y (pc + 3) lv st σ Q) (ht : (pc : Int) + off = (t : Int) := by decide) : pe_G y pc lv (.inl a :: st) σ Q := by
  intro l D ad cA p e s m args below meth c H locs ls X hl hP hD hS
  refine lv_if_ne X.1 X.2.1 hd ht (fun q => kt ?_ l D ad cA p e s m args below meth c H locs ls X hl hP hD hS) (fun q => kf ?_ l D ad cA p e s m args below meth c H locs ls X hl hP hD hS)
  · exact pe_cm_ne ha pe_R0 q
  · exact pe_cn_ne ha pe_R0 q
theorem pe_icmp_lt {a b off : Int} {t : Nat} (hd : decode y.2.1 pc = .ok (.if_icmp .lt off, 3)) (ha : pe_R a) (hb : pe_R b) (kt : a < b → pe_G y t lv st σ Q) (kf : b ≤ a → pe_G y (pc + 3) lv st σ Q) (ht : (pc : Int) + off = (t : Int) := by decide) : pe_G y pc lv (.inl b :: .inl a :: st) σ Q := by
  intro l D ad cA p e s m args below meth c H locs ls X hl hP hD hS
  refine lv_icmp_lt X.1 X.2.1 hd ht (fun q => kt ?_ l D ad cA p e s m args below meth c H locs ls X hl hP hD hS) (fun q => kf ?_ l D ad cA p e s m args below meth c H locs ls X hl hP hD hS)
  · exact pe_cm_lt ha hb q
  · exact pe_cn_lt ha hb q
theorem pe_if_lt {a off : Int} {t : Nat} (hd : decode y.2.1 pc = .ok (.ifCond .lt off, 3)) (ha : pe_R a) (kt : a < 0 → pe_G y t lv st σ Q) (kf : 0 ≤ a → pe_G y (pc + 3) lv st σ Q) (ht : (pc : Int) + off = (t : Int) := by decide) : pe_G y pc lv (.inl a :: st) σ Q := by
  intro l D ad cA p e s m args below meth c H locs ls X hl hP hD hS
  refine lv_if_lt X.1 X.2.1 hd ht (fun q => kt ?_ l D ad cA p e s m args below meth c H locs ls X hl hP hD hS) (fun q => kf ?_ l D ad cA p e s m args below meth c H locs ls X hl hP hD hS)
  · exact pe_cm_lt ha pe_R0 q
  · exact pe_cn_lt ha pe_R0 q
theorem pe_icmp_ge {a b off : Int} {t : Nat} (hd : decode y.2.1 pc = .ok (.if_icmp .ge off, 3)) (ha : pe_R a) (hb : pe_R b) (kt : b ≤ a → pe_G y t lv st σ Q) (kf : a < b → pe_G y (pc + 3) lv st σ Q) (ht : (pc : Int) + off = (t : Int) := by decide) : pe_G y pc lv (.inl b :: .inl a :: st) σ Q := by
  intro l D ad cA p e s m args below meth c H locs ls X hl hP hD hS
  refine lv_icmp_ge X.1 X.2.1 hd ht (fun q => kt ?_ l D ad cA p e s m args below meth c H locs ls X hl hP hD hS) (fun q => kf ?_ l D ad cA p e s m args below meth c H locs ls X hl hP hD hS)
  · exact pe_cm_ge ha hb q
  · exact pe_cn_ge ha hb q
theorem pe_if_ge {a off : Int} {t : Nat} (hd : decode y.2.1 pc = .ok (.ifCond .ge off, 3)) (ha : pe_R a) (kt : 0 ≤ a → pe_G y t lv st σ Q) (kf : a < 0 → pe_G y (pc + 3) lv st σ Q) (ht : (pc : Int) + off = (t : Int) := by decide) : pe_G y pc lv (.inl a :: st) σ Q := by
  intro l D ad cA p e s m args below meth c H locs ls X hl hP hD hS
  refine lv_if_ge X.1 X.2.1 hd ht (fun q => kt ?_ l D ad cA p e s m args below meth c H locs ls X hl hP hD hS) (fun q => kf ?_ l D ad cA p e s m args below meth c H locs ls X hl hP hD hS)
  · exact pe_cm_ge ha pe_R0 q
  · exact pe_cn_ge ha pe_R0 q
theorem pe_icmp_gt {a b off : Int} {t : Nat} (hd : decode y.2.1 pc = .ok (.if_icmp .gt off, 3)) (ha : pe_R a) (hb : pe_R b) (kt : b < a → pe_G y t lv st σ Q) (kf : a ≤ b → pe_G y (pc + 3) lv st σ Q) (ht : (pc : Int) + off = (t : Int) := by decide) : pe_G y pc lv (.inl b :: .inl a :: st) σ Q := by
  intro l D ad cA p e s m args below meth c H locs ls X hl hP hD hS
  refine lv_icmp_gt X.1 X.2.1 hd ht (fun q => kt ?_ l D ad cA p e s m args below meth c H locs ls X hl hP hD hS) (fun q => kf ?_ l D ad cA p e s m args below meth c H locs ls X hl hP hD hS)
  · exact pe_cm_gt ha hb q
  · exact pe_cn_gt ha hb q
theorem pe_if_gt {a off : Int} {t : Nat} (hd : decode y.2.1 pc = .ok (.ifCond .gt off, 3)) (ha : pe_R a) (kt : 0 < a → pe_G y t lv st σ Q) (kf : a ≤ 0 → pe_G y (pc + 3) lv st σ Q) (ht : (pc : Int) + off = (t : Int) := by decide) : pe_G y pc lv (.inl a :: st) σ Q := by
  intro l D ad cA p e s m args below meth c H locs ls X hl hP hD hS
  refine lv_if_gt X.1 X.2.1 hd ht (fun q => kt ?_ l D ad cA p e s m args below meth c H locs ls X hl hP hD hS) (fun q => kf ?_ l D ad cA p e s m args below meth c H locs ls X hl hP hD hS)
  · exact pe_cm_gt ha pe_R0 q
  · exact pe_cn_gt ha pe_R0 q
theorem pe_icmp_le {a b off : Int} {t : Nat} (hd : decode y.2.1 pc = .ok (.if_icmp .le off, 3)) (ha : pe_R a) (hb : pe_R b) (kt : a ≤ b → pe_G y t lv st σ Q) (kf : b < a → pe_G y (pc + 3) lv st σ Q) (ht : (pc : Int) + off = (t : Int) := by decide) : pe_G y pc lv (.inl b :: .inl a :: st) σ Q := by
  intro l D ad cA p e s m args below meth c H locs ls X hl hP hD hS
  refine lv_icmp_le X.1 X.2.1 hd ht (fun q => kt ?_ l D ad cA p e s m args below meth c H locs ls X hl hP hD hS) (fun q => kf ?_ l D ad cA p e s m args below meth c H locs ls X hl hP hD hS)
  · exact pe_cm_le ha hb q
  · exact pe_cn_le ha hb q
theorem pe_if_le {a off : Int} {t : Nat} (hd : decode y.2.1 pc = .ok (.ifCond .le off, 3)) (ha : pe_R a) (kt : a ≤ 0 → pe_G y t lv st σ Q) (kf : 0 < a → pe_G y (pc + 3) lv st σ Q) (ht : (pc : Int) + off = (t : Int) := by decide) : pe_G y pc lv (.inl a :: st) σ Q := by
  intro l D ad cA p e s m args below meth c H locs ls X hl hP hD hS
  refine lv_if_le X.1 X.2.1 hd ht (fun q => kt ?_ l D ad cA p e s m args below meth c H locs ls X hl hP hD hS) (fun q => kf ?_ l D ad cA p e s m args below meth c H locs ls X hl hP hD hS)
  · exact pe_cm_le ha pe_R0 q
  · exact pe_cn_le ha pe_R0 q
theorem pe_iald {a n : Nat} {i : Int} (hd : decode y.2.1 pc = .ok (.iaload, 1)) (hs : pe_sh[a]? = some (.inl (.int, n))) (h0 : 0 ≤ i) (h1 : i < n) (k : pe_G y (pc + 1) lv (.inl (σ a i) :: st) σ Q) (hn : n < 2147483648 := by decide) : pe_G y pc lv (.inl i :: .inr (.inl a) :: st) σ Q := by
  intro l D ad cA p e s m args below meth c H locs ls X hl hP hD hS
  have k := k l D ad cA p e s m args below meth c H locs ls X hl hP hD hS
  refine va_iald X.1 X.2.1 X.2.2.2.2.2.2.2.1 hP a 0 (pe_wd_at hs) rfl (pe_in hn h0 h1) hd (pe_top k ?_)
  show Value.int (Int32.ofInt (σ a (((Int32.ofInt i).toNatClampNeg : Nat) : Int))) = Value.int (Int32.ofInt (σ a i))
  rw [pe_clamp h0 (by omega), Int.toNat_of_nonneg h0]
theorem pe_zald {a n : Nat} {i : Int} (hd : decode y.2.1 pc = .ok (.baload, 1)) (hs : pe_sh[a]? = some (.inl (.boolean, n))) (h0 : 0 ≤ i) (h1 : i < n) (k : pe_G y (pc + 1) lv (.inl (σ a i) :: st) σ Q) (hn : n < 2147483648 := by decide) : pe_G y pc lv (.inl i :: .inr (.inl a) :: st) σ Q := by
  intro l D ad cA p e s m args below meth c H locs ls X hl hP hD hS
  have k := k l D ad cA p e s m args below meth c H locs ls X hl hP hD hS
  refine va_zald X.1 X.2.1 X.2.2.2.2.2.2.2.1 hP a 1 (pe_wd_at hs) rfl (pe_in hn h0 h1) hd (pe_top k ?_)
  show Value.int (Int32.ofInt (σ a (((Int32.ofInt i).toNatClampNeg : Nat) : Int))) = Value.int (Int32.ofInt (σ a i))
  rw [pe_clamp h0 (by omega), Int.toNat_of_nonneg h0]
theorem pe_bald {a n : Nat} {i : Int} (hd : decode y.2.1 pc = .ok (.baload, 1)) (hs : pe_sh[a]? = some (.inl (.byte, n))) (h0 : 0 ≤ i) (h1 : i < n) (k : pe_G y (pc + 1) lv (.inl (σ a i) :: st) σ Q) (hn : n < 2147483648 := by decide) : pe_G y pc lv (.inl i :: .inr (.inl a) :: st) σ Q := by
  intro l D ad cA p e s m args below meth c H locs ls X hl hP hD hS
  have k := k l D ad cA p e s m args below meth c H locs ls X hl hP hD hS
  refine va_bald X.1 X.2.1 X.2.2.2.2.2.2.2.1 hP a 2 (pe_wd_at hs) rfl (pe_in hn h0 h1) hd (pe_top k ?_)
  show Value.int (Int32.ofInt (σ a (((Int32.ofInt i).toNatClampNeg : Nat) : Int))) = Value.int (Int32.ofInt (σ a i))
  rw [pe_clamp h0 (by omega), Int.toNat_of_nonneg h0]
theorem pe_iast {a n : Nat} {i v : Int} (hd : decode y.2.1 pc = .ok (.iastore, 1)) (hs : pe_sh[a]? = some (.inl (.int, n))) (h0 : 0 ≤ i) (h1 : i < n) (k : pe_G y (pc + 1) lv st (pe_up σ a i v) Q) (hn : n < 2147483648 := by decide) : pe_G y pc lv (.inl v :: .inl i :: .inr (.inl a) :: st) σ Q := by
  intro l D ad cA p e s m args below meth c H locs ls X hl hP hD hS
  refine va_iast X.1 X.2.1 X.2.2.2.2.2.2.2.1 hP hD hS a 0 (pe_wd_at hs) rfl (pe_in hn h0 h1) hd (fun H1 locs1 hP1 hD1 hS1 => ?_)
  have hE : (Sum.inl (cA .int, n, Sum.inl (upd (fun j : Nat => Int32.ofInt (σ a (j : Int))) (Int32.ofInt i).toNatClampNeg (Int32.ofInt v))) : va_E) = pe_en ad cA (pe_up σ a i v) a (.inl (.int, n)) := by
    have h2 : upd (fun j : Nat => Int32.ofInt (σ a (j : Int))) (Int32.ofInt i).toNatClampNeg (Int32.ofInt v) = fun j : Nat => Int32.ofInt (pe_up σ a i v a (j : Int)) := by
      funext j
      rw [pe_up_at, pe_clamp h0 (by omega)]
      by_cases hj : (j : Int) = i
      · rw [if_pos hj]
        have : j = i.toNat := by omega
        subst this
        exact pk_us
      · rw [if_neg hj]
        exact pk_un (by omega)
    rw [h2]
    rfl
  rw [pe_wd_set (σ' := pe_up σ a i v) hs (fun b hb => pe_up_ne hb) hE] at hP1 hD1
  exact k l D ad cA p e s m args below meth c H1 locs1 ls X hl hP1 hD1 hS1
theorem pe_zast {a n : Nat} {i v : Int} (hd : decode y.2.1 pc = .ok (.bastore, 1)) (hs : pe_sh[a]? = some (.inl (.boolean, n))) (h0 : 0 ≤ i) (h1 : i < n) (hv : vp_nar .boolean (Int32.ofInt v) = Int32.ofInt v) (k : pe_G y (pc + 1) lv st (pe_up σ a i v) Q) (hn : n < 2147483648 := by decide) : pe_G y pc lv (.inl v :: .inl i :: .inr (.inl a) :: st) σ Q := by
  intro l D ad cA p e s m args below meth c H locs ls X hl hP hD hS
  refine va_zast X.1 X.2.1 X.2.2.2.2.2.2.2.1 hP hD hS a 1 (pe_wd_at hs) rfl (pe_in hn h0 h1) hd (fun H1 locs1 hP1 hD1 hS1 => ?_)
  have hE : (Sum.inl (cA .boolean, n, Sum.inl (upd (fun j : Nat => Int32.ofInt (σ a (j : Int))) (Int32.ofInt i).toNatClampNeg (vp_nar .boolean (Int32.ofInt v)))) : va_E) = pe_en ad cA (pe_up σ a i v) a (.inl (.boolean, n)) := by
    have h2 : upd (fun j : Nat => Int32.ofInt (σ a (j : Int))) (Int32.ofInt i).toNatClampNeg (vp_nar .boolean (Int32.ofInt v)) = fun j : Nat => Int32.ofInt (pe_up σ a i v a (j : Int)) := by
      funext j
      rw [pe_up_at, pe_clamp h0 (by omega)]
      by_cases hj : (j : Int) = i
      · rw [if_pos hj]
        have : j = i.toNat := by omega
        subst this
        rw [pk_us]; exact hv
      · rw [if_neg hj]
        exact pk_un (by omega)
    rw [h2]
    rfl
  rw [pe_wd_set (σ' := pe_up σ a i v) hs (fun b hb => pe_up_ne hb) hE] at hP1 hD1
  exact k l D ad cA p e s m args below meth c H1 locs1 ls X hl hP1 hD1 hS1
theorem pe_bast {a n : Nat} {i v : Int} (hd : decode y.2.1 pc = .ok (.bastore, 1)) (hs : pe_sh[a]? = some (.inl (.byte, n))) (h0 : 0 ≤ i) (h1 : i < n) (hv : vp_nar .byte (Int32.ofInt v) = Int32.ofInt v) (k : pe_G y (pc + 1) lv st (pe_up σ a i v) Q) (hn : n < 2147483648 := by decide) : pe_G y pc lv (.inl v :: .inl i :: .inr (.inl a) :: st) σ Q := by
  intro l D ad cA p e s m args below meth c H locs ls X hl hP hD hS
  refine va_bast X.1 X.2.1 X.2.2.2.2.2.2.2.1 hP hD hS a 2 (pe_wd_at hs) rfl (pe_in hn h0 h1) hd (fun H1 locs1 hP1 hD1 hS1 => ?_)
  have hE : (Sum.inl (cA .byte, n, Sum.inl (upd (fun j : Nat => Int32.ofInt (σ a (j : Int))) (Int32.ofInt i).toNatClampNeg (vp_nar .byte (Int32.ofInt v)))) : va_E) = pe_en ad cA (pe_up σ a i v) a (.inl (.byte, n)) := by
    have h2 : upd (fun j : Nat => Int32.ofInt (σ a (j : Int))) (Int32.ofInt i).toNatClampNeg (vp_nar .byte (Int32.ofInt v)) = fun j : Nat => Int32.ofInt (pe_up σ a i v a (j : Int)) := by
      funext j
      rw [pe_up_at, pe_clamp h0 (by omega)]
      by_cases hj : (j : Int) = i
      · rw [if_pos hj]
        have : j = i.toNat := by omega
        subst this
        rw [pk_us]; exact hv
      · rw [if_neg hj]
        exact pk_un (by omega)
    rw [h2]
    rfl
  rw [pe_wd_set (σ' := pe_up σ a i v) hs (fun b hb => pe_up_ne hb) hE] at hP1 hD1
  exact k l D ad cA p e s m args below meth c H1 locs1 ls X hl hP1 hD1 hS1
theorem pe_alen {a n : Nat} {t0 : Nat} {ty : FieldType} (hd : decode y.2.1 pc = .ok (.arraylength, 1)) (hs : pe_sh[a]? = some (.inl (ty, n))) (ht : ∀ cA : FieldType → ClassId, (pe_ty cA)[t0]? = some (cA ty, ty)) (k : pe_G y (pc + 1) lv (.inl (n : Int) :: st) σ Q) : pe_G y pc lv (.inr (.inl a) :: st) σ Q := by
  intro l D ad cA p e s m args below meth c H locs ls X hl hP hD hS
  have k := k l D ad cA p e s m args below meth c H locs ls X hl hP hD hS
  exact va_alen X.1 X.2.1 X.2.2.2.2.2.2.2.1 hP a t0 (pe_wd_at hs) (ht cA) (show Int32.ofNat n = Int32.ofInt (n : Int) from Int32.ofInt_eq_ofNat.symm) hd k
theorem pe_getv {a idx ci k N : Nat} (F : pe_FL y.1.cls idx ci k N) (hd : decode y.2.1 pc = .ok (.getfield idx, 3)) (hs : pe_sh[a]? = some (.inr (ci, N))) (kk : pe_G y (pc + 3) lv (pe_av σ a k :: st) σ Q) : pe_G y pc lv (.inr (.inl a) :: st) σ Q := by
  intro l D ad cA p e s m args below meth c H locs ls X hl hP hD hS
  have kk := kk l D ad cA p e s m args below meth c H locs ls X hl hP hD hS
  obtain ⟨C, T, ty0, hc, hk, hw, hdecl, hty, hnm, hlink⟩ := F
  have hv : ((List.range N).map (fun k => pe_c ad (pe_av σ a k)))[k]? = some (pe_c ad (pe_av σ a k)) := by
    rw [List.getElem?_map, List.getElem?_range hk]; rfl
  exact va_get X.1 X.2.1 X.2.2.2.2.2.1 (fun w h => List.mem_cons_of_mem _ (hw w h)) X.2.2.2.2.2.2.1 X.2.2.2.2.2.2.2.1 hP a (pe_wd_at hs) hc k hk (X.2.2.2.2.2.1 _ (List.mem_cons_of_mem _ hlink)) (fun x h => by rw [hdecl] at h; exact h) hv hd kk
theorem pe_geti {a idx ci k N : Nat} (F : pe_FL y.1.cls idx ci k N) (hd : decode y.2.1 pc = .ok (.getfield idx, 3)) (hs : pe_sh[a]? = some (.inr (ci, N))) (hr : pe_rt a k = none) (kk : pe_G y (pc + 3) lv (.inl (σ a (k : Int)) :: st) σ Q) : pe_G y pc lv (.inr (.inl a) :: st) σ Q := by
  refine pe_getv F hd hs ?_
  have : pe_av σ a k = .inl (σ a (k : Int)) := by unfold pe_av; rw [hr]
  rw [this]
  exact kk
theorem pe_getr {a j idx ci k N : Nat} (F : pe_FL y.1.cls idx ci k N) (hd : decode y.2.1 pc = .ok (.getfield idx, 3)) (hs : pe_sh[a]? = some (.inr (ci, N))) (hr : pe_rt a k = some j) (kk : pe_G y (pc + 3) lv (.inr (.inl j) :: st) σ Q) : pe_G y pc lv (.inr (.inl a) :: st) σ Q := by
  refine pe_getv F hd hs ?_
  have : pe_av σ a k = .inr (.inl j) := by unfold pe_av; rw [hr]
  rw [this]
  exact kk
theorem pe_put {a idx ci k N : Nat} {v : Int} {ty : FieldType} (F : pe_FL y.1.cls idx ci k N) (hf : pe_FP ci k ty) (hd : decode y.2.1 pc = .ok (.putfield idx, 3)) (hs : pe_sh[a]? = some (.inr (ci, N))) (hr : pe_rt a k = none) (hn : narrow ty (.int (Int32.ofInt v)) = .int (Int32.ofInt v)) (hfit : fits ty (.int (Int32.ofInt v)) = true) (kk : pe_G y (pc + 3) lv st (pe_up σ a (k : Int) v) Q) : pe_G y pc lv (.inl v :: .inr (.inl a) :: st) σ Q := by
  intro l D ad cA p e s m args below meth c H locs ls X hl hP hD hS
  obtain ⟨C, T, ty0, hc, hk, hw, hdecl, hty, hnm, hlink⟩ := F
  obtain ⟨C', T', N', hc', hfin, hdsc⟩ := hf
  have he := hc.symm.trans hc'
  cases he
  have hset : ((List.range N).map (fun k => pe_c ad (pe_av σ a k))).set k (.int (Int32.ofInt v)) = (List.range N).map (fun j => pe_c ad (pe_av (pe_up σ a (k : Int) v) a j)) := by
    apply List.ext_getElem?
    intro j
    rw [List.getElem?_set, List.getElem?_map, List.getElem?_map]
    by_cases hj : k = j
    · subst hj
      rw [if_pos rfl, if_pos (by simpa using hk), List.getElem?_range hk]
      show some _ = some (pe_c ad (pe_av (pe_up σ a (k : Int) v) a k))
      have : pe_av (pe_up σ a (k : Int) v) a k = .inl v := by unfold pe_av; rw [hr, pe_up_at, if_pos rfl]
      rw [this]
      rfl
    · rw [if_neg hj]
      by_cases hjN : j < N
      · rw [List.getElem?_range hjN]
        show some (pe_c ad (pe_av σ a j)) = some (pe_c ad (pe_av (pe_up σ a (k : Int) v) a j))
        have : pe_av (pe_up σ a (k : Int) v) a j = pe_av σ a j := by
          unfold pe_av
          cases pe_rt a j with
          | some r => rfl
          | none => show (Sum.inl _ : pe_V) = Sum.inl _; rw [pe_up_at, if_neg (by omega)]
        rw [this]
      · rw [List.getElem?_eq_none (by simpa using hjN)]
        rfl
  have hlen : k < ((List.range N).map (fun k => pe_c ad (pe_av σ a k))).length := by simpa using hk
  have hE : (Sum.inr (ci, ((List.range N).map (fun k => pe_c ad (pe_av σ a k))).set k (.int (Int32.ofInt v))) : va_E) = pe_en ad cA (pe_up σ a (k : Int) v) a (.inr (ci, N)) := by
    rw [hset]
    rfl
  refine va_put (v := .int (Int32.ofInt v)) X.1 X.2.1 X.2.2.2.2.2.1 (fun w h => List.mem_cons_of_mem _ (hw w h)) ty0 hty hnm X.2.2.2.2.2.2.1 X.2.2.2.2.2.2.2.1 hP hD hS a (pe_wd_at hs) hc k hk (X.2.2.2.2.2.1 _ (List.mem_cons_of_mem _ hlink)) (fun x h => by rw [hdecl] at h; exact h) hfin hdsc hn hfit hlen hd (fun H1 locs1 hP1 hD1 hS1 => ?_)
  rw [pe_wd_set (σ' := pe_up σ a (k : Int) v) hs (fun b hb => pe_up_ne hb) hE] at hP1 hD1
  exact kk l D ad cA p e s m args below meth c H1 locs1 ls X hl hP1 hD1 hS1
theorem pe_puti {a idx ci k N : Nat} {v : Int} (F : pe_FL y.1.cls idx ci k N) (hf : pe_FP ci k .int) (hd : decode y.2.1 pc = .ok (.putfield idx, 3)) (hs : pe_sh[a]? = some (.inr (ci, N))) (hr : pe_rt a k = none) (kk : pe_G y (pc + 3) lv st (pe_up σ a (k : Int) v) Q) : pe_G y pc lv (.inl v :: .inr (.inl a) :: st) σ Q :=
  pe_put F hf hd hs hr rfl rfl kk
theorem pe_putz {a idx ci k N : Nat} {v : Int} (F : pe_FL y.1.cls idx ci k N) (hf : pe_FP ci k .boolean) (hd : decode y.2.1 pc = .ok (.putfield idx, 3)) (hs : pe_sh[a]? = some (.inr (ci, N))) (hr : pe_rt a k = none) (hv : v = 0 ∨ v = 1) (kk : pe_G y (pc + 3) lv st (pe_up σ a (k : Int) v) Q) : pe_G y pc lv (.inl v :: .inr (.inl a) :: st) σ Q := by
  refine pe_put F hf hd hs hr ?_ ?_ kk
  · rcases hv with rfl | rfl <;> decide
  · rcases hv with rfl | rfl <;> decide
/-- ends -/
theorem pe_reti {z : Int} (hd : decode y.2.1 pc = .ok (.ireturn, 1)) (hr : y.2.2.2.1 = some .int) (hq : Q (some (.inl z)) σ) : pe_G y pc lv [.inl z] σ Q := by
  intro l D ad cA p e s m args below meth c H locs ls X hl hP hD hS
  exact W.iret X.1 X.2.1 (X.2.2.1.trans hr) (fun t ht hW => ⟨⟨some (.inl z), σ, rfl, hq, by rw [ht]; exact hP⟩, hS.F ht⟩) hS.2.2 hd X.2.2.2.1
theorem pe_retz {z : Int} (hd : decode y.2.1 pc = .ok (.ireturn, 1)) (hr : y.2.2.2.1 = some .boolean) (hz : z = 0 ∨ z = 1) (hq : Q (some (.inl z)) σ) : pe_G y pc lv [.inl z] σ Q := by
  intro l D ad cA p e s m args below meth c H locs ls X hl hP hD hS
  exact W.zret X.1 X.2.1 (X.2.2.1.trans hr) (by rcases hz with rfl | rfl <;> decide) (fun t ht hW => ⟨⟨some (.inl z), σ, rfl, hq, by rw [ht]; exact hP⟩, hS.F ht⟩) hS.2.2 hd X.2.2.2.1
theorem pe_retv (hd : decode y.2.1 pc = .ok (.return_, 1)) (hr : y.2.2.2.1 = none) (hq : Q none σ) : pe_G y pc lv [] σ Q := by
  intro l D ad cA p e s m args below meth c H locs ls X hl hP hD hS
  exact W.vret X.1 X.2.1 (X.2.2.1.trans hr) (fun t ht hW => ⟨⟨none, σ, rfl, hq, by rw [ht]; exact hP⟩, hS.F ht⟩) hS.2.2 hd X.2.2.2.1
end PE_OPS
end
section
section PE_CALLS
variable {y : pe_Y} {pc : Nat} {lv : pe_L} {st : List pe_V} {σ : pe_H} {Q : Option pe_V → pe_H → Prop}
theorem pe_after {p : Program} {l : Launch} {e : Env} {R : Room} {s : State} {m : MethodId} {args a : Array Value} {below : List Frame} {meth : Method} {c : Code} {H : Heap} {locs : List Loc} {QQ : State → Prop} {ls : Array Slot} {ad : Nat → Nat} {cA : FieldType → ClassId} {D : va_G} {Q1 : Option pe_V → pe_H → Prop} {st0 rest : List Value}
    (hr : va_Run p l e R s m args below meth c H locs 0 0 0 0 (F0 m pc ls st0) rest (pe_Qc D ad cA (pe_A ad H.size) Q1 a) (pe_A ad H.size)) (hS : va_S (pe_A ad s.heap.size) s.heap H locs)
    (kk : ∀ (r : Option pe_V) (σ' : pe_H) (H1 : Heap) (locs1 : List Loc), Q1 r σ' → va_P D vwCl (pe_wd ad cA σ') H1 → va_S (pe_A ad s.heap.size) s.heap H1 locs1 → W p l e R s m args below meth c H1 locs1 0 0 QQ (F0 m (pc + 3) ls ((r.map (pe_c ad)).toList ++ rest))) : W p l e R s m args below meth c H locs 0 0 QQ (F0 m pc ls st0) := by
  intro T hT X
  obtain ⟨v, st₀, t, T', L, h0, X', hL, e1, e2, ⟨⟨r, σ', hv, hq, hp⟩, hz, hk⟩, st⟩ := hr T hT X
  cases hv
  rw [h0] at hz hk
  obtain ⟨t2, a1, b1⟩ := kk r σ' T'.heap (locs ++ L) hq (by rw [e1]; exact hp) ⟨Nat.le_trans hS.1 (by rw [e1]; exact hz), fun q h1 h2 => by rw [e1, hk q (Nat.lt_of_lt_of_le h1 hS.1) (fun z => h2 (pe_A_le hS.1 z))]; exact hS.2.1 q h1 h2, fun q hq => by
      rcases List.mem_append.mp hq with h | h
      · exact hS.2.2 q h
      · exact pe_A_le hS.1 (hL q h)⟩ T' rfl X'
  exact ⟨t2, st t2 a1, b1⟩
theorem pe_toL {ad : Nat → Nat} (r : Option pe_V) (st : List pe_V) : (r.map (pe_c ad)).toList ++ st.map (pe_c ad) = (r.toList ++ st).map (pe_c ad) := by
  cases r <;> rfl
theorem pe_cats {ad : Nat → Nat} (st : List pe_V) : ((st.map (pe_c ad)).map fun v => v.category) = st.map pe_cat := by
  rw [List.map_map]
  exact List.map_congr_left (fun v _ => pe_cat_c ad v)
/-- the callee's start holds at the call -/
theorem pe_pre {s : State} {D : va_G} {ad : Nat → Nat} {cA : FieldType → ClassId} {H : Heap} {A : Nat → Prop} {av : List pe_V} (hK : va_K D vwCl (pe_ty cA) s) (hP : va_P D vwCl (pe_wd ad cA σ) H) (hD : va_D A (pe_wd ad cA σ)) :
    PreS s H (va_Pc (av.map (pe_c ad)) (fun U => U.heap.size = H.size ∧ va_P D vwCl (pe_wd ad cA σ) U.heap ∧ va_K D vwCl (pe_ty cA) U ∧ va_D (fun _ => True) (pe_wd ad cA σ))) (av.map (pe_c ad)) :=
  ⟨fun a U g mk q => by
      obtain ⟨q0, q1, qP, qK, qD⟩ := q
      exact ⟨q0, q1, qP, va_K.moved (u := U) (U := U.calling g mk a) (Vm.Alike.refl U.vm) qK, qD⟩,
   fun U hU hW => ⟨rfl, by rw [hU], by rw [hU]; exact hP, va_K.moved hW.alike hK, hD.weaken (fun _ _ _ _ => trivial)⟩⟩
theorem pe_callS {y' : pe_Y} {idx n : Nat} {av : List pe_V} {Q1 : Option pe_V → pe_H → Prop} (hM : pe_M y' av σ Q1) (hd : decode y.2.1 pc = .ok (.invokestatic idx, 3)) (hw : pe_CL y.1.cls idx y' n) (hst : Cond.static y'.1 ∈ pe_WS) (hn : av.length = n)
    (hf : y'.2.2.2.2.1 + 1 ≤ y.2.2.2.2.1) (hlo : 8 + (y'.2.2.1 + 11) + y'.2.2.2.2.2 ≤ y.2.2.2.2.2) (hcat : (st.map pe_cat).sum ≤ 8) (k : ∀ r σ', Q1 r σ' → pe_G y (pc + 3) lv (r.toList ++ st) σ' Q) : pe_G y pc lv (av.reverse ++ st) σ Q := by
  intro l D ad cA p e s m args below meth c H locs ls X hl hP hD hS
  obtain ⟨hlink, hcode, hini, hd1, hd2, hd3⟩ := hw
  have hX := X.2.2.2.2.2.1
  have hts : ∀ w ∈ pe_WS, w.before args s = true := fun w h => hX w (List.mem_cons_of_mem _ h)
  have hrest : ∀ g : JFrame, g.monitorRoom = 0 → 2 * g.monitorRoom + ((st.map (pe_c ad)).map fun v => v.category).sum ≤ 8 := fun g hg => by rw [hg, pe_cats]; omega
  have hstack : (F0 m pc ls ((av.reverse ++ st).map (pe_c ad))).stack = (av.map (pe_c ad)).reverse ++ st.map (pe_c ad) := by
    show (av.reverse ++ st).map (pe_c ad) = _
    rw [List.map_append, List.map_reverse]
  have hfix : CallFix p m c y.2.1 y.2.2.1 s args (pe_ws y) y.1.cls := ⟨X.1, X.2.1, X.2.2.2.2.1, X.2.2.2.2.2.2.1, hX⟩
  have go : va_Run p l e (headSpec (pe_ws y) (pe_rm y)).room s m args below meth c H locs 0 0 0 0 (F0 m pc ls ((av.reverse ++ st).map (pe_c ad))) (st.map (pe_c ad)) (pe_Qc D ad cA (pe_A ad H.size) Q1 (av.map (pe_c ad)).toArray) (pe_A ad H.size) := by
    exact va_runS hfix (hM l D ad cA H.size) ⟨callB_of n hX (pe_good hcode) rfl rfl rfl (hts _ hini) (hts _ hlink) ⟨hd1, hd2, hd3⟩ ⟨hf, hlo⟩, hts _ hst⟩ (pe_pre X.2.2.2.2.2.2.2.1 hP hD) rfl (by rw [List.length_map]; exact hn) hl.2.1 hstack (hrest _ rfl) hd ⟨Nat.zero_le _, Nat.zero_le _⟩
  refine pe_after go hS (fun r σ' H1 locs1 hq hP1 hS1 => ?_)
  rw [pe_toL]
  exact k r σ' hq l D ad cA p e s m args below meth c H1 locs1 ls X hl hP1 (pe_D hD σ') hS1
theorem pe_callV {y' : pe_Y} {idx n b ci N : Nat} {av : List pe_V} {C : String} {T : u_T} {Q1 : Option pe_V → pe_H → Prop} (hM : pe_M y' (.inr (.inl b) :: av) σ Q1) (hd : decode y.2.1 pc = .ok (.invokevirtual idx, 3)) (hw : pe_CL y.1.cls idx y' n) (hin : Cond.instanceMethod y'.1 ∈ pe_WS) (hsel : Cond.selects C y'.1 y'.1 ∈ pe_WS) (hs : pe_sh[b]? = some (.inr (ci, N))) (hc : vwCl[ci]? = some (C, T, N)) (hn : av.length = n)
    (hf : y'.2.2.2.2.1 + 1 ≤ y.2.2.2.2.1) (hlo : 8 + (y'.2.2.1 + 11) + y'.2.2.2.2.2 ≤ y.2.2.2.2.2) (hcat : (st.map pe_cat).sum ≤ 8) (k : ∀ r σ', Q1 r σ' → pe_G y (pc + 3) lv (r.toList ++ st) σ' Q) : pe_G y pc lv (av.reverse ++ .inr (.inl b) :: st) σ Q := by
  intro l D ad cA p e s m args below meth c H locs ls X hl hP hD hS
  obtain ⟨hlink, hcode, hini, hd1, hd2, hd3⟩ := hw
  have hX := X.2.2.2.2.2.1
  have hts : ∀ w ∈ pe_WS, w.before args s = true := fun w h => hX w (List.mem_cons_of_mem _ h)
  have hrest : ∀ g : JFrame, g.monitorRoom = 0 → 2 * g.monitorRoom + ((st.map (pe_c ad)).map fun v => v.category).sum ≤ 8 := fun g hg => by rw [hg, pe_cats]; omega
  have hstack : (F0 m pc ls ((av.reverse ++ .inr (.inl b) :: st).map (pe_c ad))).stack = (av.map (pe_c ad)).reverse ++ .ref (ad b) :: st.map (pe_c ad) := by
    show (av.reverse ++ .inr (.inl b) :: st).map (pe_c ad) = _
    rw [List.map_append, List.map_reverse]
    rfl
  have hfix : CallFix p m c y.2.1 y.2.2.1 s args (pe_ws y) y.1.cls := ⟨X.1, X.2.1, X.2.2.2.2.1, X.2.2.2.2.2.2.1, hX⟩
  have hK := X.2.2.2.2.2.2.2.1
  have hcell : ∃ cellB : Cell, H[ad b]? = some cellB ∧ cellB.vm.isStatics = false ∧ s.vm.findClass C = some cellB.cls := va_recv hK hP hc (pe_wd_at hs)
  have hpre := pe_pre (av := .inr (.inl b) :: av) hK hP hD
  have go : va_Run p l e (headSpec (pe_ws y) (pe_rm y)).room s m args below meth c H locs 0 0 0 0 (F0 m pc ls ((av.reverse ++ .inr (.inl b) :: st).map (pe_c ad))) (st.map (pe_c ad)) (pe_Qc D ad cA (pe_A ad H.size) Q1 (Value.ref (ad b) :: av.map (pe_c ad)).toArray) (pe_A ad H.size) := by
    exact va_runV hfix (hM l D ad cA H.size) ⟨callB_of n hX (pe_good hcode) rfl rfl rfl (hts _ hini) (hts _ hlink) ⟨hd1, hd2, hd3⟩ ⟨hf, hlo⟩, hts _ hin, hts _ hsel⟩ ⟨hpre.1, hcell, hpre.2⟩ rfl (by rw [List.length_map]; exact hn) hl.2.1 hstack (hrest _ rfl) hd ⟨Nat.zero_le _, Nat.zero_le _⟩
  refine pe_after go hS (fun r σ' H1 locs1 hq hP1 hS1 => ?_)
  rw [pe_toL]
  exact k r σ' hq l D ad cA p e s m args below meth c H1 locs1 ls X hl hP1 (pe_D hD σ') hS1
end PE_CALLS
end
section
section PE_MORE
variable {y : pe_Y} {pc : Nat} {lv : pe_L} {st : List pe_V} {σ : pe_H} {Q : Option pe_V → pe_H → Prop}
/-- an operand is any int with the same bits -/
theorem pe_any {v : Int} (k : ∀ z : Int, pe_R z → pe_G y pc lv (.inl z :: st) σ Q) : pe_G y pc lv (.inl v :: st) σ Q := by
  intro l D ad cA p e s m args below meth c H locs ls X hl hP hD hS
  have hz : pe_R (Int32.ofInt v).toInt := ⟨by have := Int32.le_toInt (Int32.ofInt v); omega, by have := Int32.toInt_lt (Int32.ofInt v); omega⟩
  have k := k _ hz l D ad cA p e s m args below meth c H locs ls X hl hP hD hS
  refine W.eq ?_ k
  show F0 m pc ls (Value.int (Int32.ofInt v) :: _) = F0 m pc ls (Value.int (Int32.ofInt (Int32.ofInt v).toInt) :: _)
  rw [Int32.ofInt_toInt]
/-- switches -/
def pe_sw (a : Int) (G : Nat → Prop) (d : Nat) : List (Int × Nat) → Prop
  | [] => G d
  | (k, t) :: r => (a = k → G t) ∧ (¬ a = k → pe_sw a G d r)
theorem pe_sw_off {pc : Nat} {a : Int} {d : Int} {dt : Nat} {G : Nat → Prop} (hdt : (pc : Int) + d = (dt : Int)) : ∀ (ps : List (Int × Int)) (tb : List (Int × Nat)), ps.map (fun q => (q.1, (pc : Int) + q.2)) = tb.map (fun q => (q.1, (q.2 : Int))) → pe_sw a G dt tb → ∃ tgt : Nat, (pc : Int) + Op.lookupswitch.offset ps d a = (tgt : Int) ∧ G tgt
  | [], tb, h, hs => by
    cases tb with
    | nil => exact ⟨dt, hdt, hs⟩
    | cons q r => cases h
  | (k, o) :: ps, tb, h, hs => by
    cases tb with
    | nil => cases h
    | cons q r =>
      obtain ⟨k', t⟩ := q
      simp only [List.map_cons, List.cons.injEq, Prod.mk.injEq] at h
      obtain ⟨⟨hk, ht⟩, hr⟩ := h
      subst hk
      rw [Op.lookupswitch.offset_cons]
      by_cases e : a = k
      · rw [if_pos e.symm]
        exact ⟨t, ht, hs.1 e⟩
      · rw [if_neg (fun q => e q.symm)]
        exact pe_sw_off hdt ps r hr (hs.2 e)
theorem pe_lsw {a d : Int} {ps : Array (Int × Int)} {n dt : Nat} (tb : List (Int × Nat)) (hd : decode y.2.1 pc = .ok (.lookupswitch d ps, n)) (ha : pe_R a) (k : pe_sw a (fun t => pe_G y t lv st σ Q) dt tb) (hp : (ps.toList.zip (ps.toList.drop 1)).all (fun (a, next) => a.1 < next.1) = true := by decide) (hdt : (pc : Int) + d = (dt : Int) := by decide) (htb : ps.toList.map (fun q => (q.1, (pc : Int) + q.2)) = tb.map (fun q => (q.1, (q.2 : Int))) := by decide) : pe_G y pc lv (.inl a :: st) σ Q := by
  intro l D ad cA p e s m args below meth c H locs ls X hl hP hD hS
  obtain ⟨tgt, h1, h2⟩ := pe_sw_off hdt ps.toList tb htb k
  exact lv_lookup X.1 X.2.1 hd hp (by rw [pe_toInt ha]) h1 (h2 l D ad cA p e s m args below meth c H locs ls X hl hP hD hS)
theorem pe_sw_at {a : Int} {G : Nat → Prop} {d : Nat} : ∀ (tb : List (Int × Nat)) (i : Nat) (t : Nat), tb[i]? = some (a, t) → (∀ j : Nat, j < i → ∀ q, tb[j]? = some q → ¬ a = q.1) → pe_sw a G d tb → G t
  | [], i, t, h, _, _ => by simp at h
  | (k, u) :: r, 0, t, h, _, hs => by
    have e : k = a ∧ u = t := by simpa using h
    rw [← e.2]
    exact hs.1 e.1.symm
  | (k, u) :: r, i + 1, t, h, hj, hs => pe_sw_at r i t (by simpa using h) (fun j hji q hq => hj (j + 1) (by omega) q (by simpa using hq)) (hs.2 (hj 0 (by omega) (k, u) rfl))
theorem pe_sw_no {a : Int} {G : Nat → Prop} {d : Nat} : ∀ (tb : List (Int × Nat)), (∀ q ∈ tb, ¬ a = q.1) → pe_sw a G d tb → G d
  | [], _, hs => hs
  | (k, u) :: r, h, hs => pe_sw_no r (fun q hq => h q (List.mem_cons_of_mem _ hq)) (hs.2 (h (k, u) List.mem_cons_self))
theorem pe_tsw {a d lo hi : Int} {offs : Array Int} {n dt : Nat} (tb : List (Int × Nat)) (hd : decode y.2.1 pc = .ok (.tableswitch d lo hi offs, n)) (ha : pe_R a) (k : pe_sw a (fun t => pe_G y t lv st σ Q) dt tb) (hdt : (pc : Int) + d = (dt : Int) := by decide) (hk : tb.map (fun q => q.1) = (List.range tb.length).map (fun j : Nat => lo + (j : Int)) := by decide) (hn : lo + (tb.length : Int) = hi + 1 := by decide) (ht : tb.map (fun q => (q.2 : Int)) = offs.toList.map (fun o => (pc : Int) + o) := by decide) : pe_G y pc lv (.inl a :: st) σ Q := by
  intro l D ad cA p e s m args below meth c H locs ls X hl hP hD hS
  have key : ∀ (j : Nat) (q : Int × Nat), tb[j]? = some q → q.1 = lo + (j : Int) := by
    intro j q hq
    have h1 : (tb.map (fun q => q.1))[j]? = some q.1 := by rw [List.getElem?_map, hq]; rfl
    rw [hk, List.getElem?_map] at h1
    have hj : j < tb.length := (List.getElem?_eq_some_iff.mp hq).1
    rw [List.getElem?_range hj] at h1
    exact (Option.some.inj h1).symm
  by_cases h : a < lo ∨ hi < a
  · refine lv_tableOut X.1 X.2.1 hd (by rw [pe_toInt ha]; exact h) hdt (pe_sw_no tb (fun q hq e => ?_) k l D ad cA p e s m args below meth c H locs ls X hl hP hD hS)
    obtain ⟨j, hj⟩ := List.getElem?_of_mem hq
    have h1 := key j q hj
    have h2 : j < tb.length := (List.getElem?_eq_some_iff.mp hj).1
    omega
  · have hj : (a - lo).toNat < tb.length := by omega
    rcases hq : tb[(a - lo).toNat]'hj with ⟨k1, t1⟩
    have hq2 : tb[(a - lo).toNat]? = some (k1, t1) := by rw [List.getElem?_eq_getElem hj, hq]
    have h1 := key _ _ hq2
    have hk1 : k1 = a := by
      have : k1 = lo + ((a - lo).toNat : Int) := h1
      omega
    subst hk1
    have ho : ∃ off, offs[(k1 - lo).toNat]? = some off ∧ (pc : Int) + off = (t1 : Int) := by
      have h3 : (tb.map (fun q => (q.2 : Int)))[(k1 - lo).toNat]? = some (t1 : Int) := by rw [List.getElem?_map, hq2]; rfl
      rw [ht, List.getElem?_map] at h3
      cases h4 : offs.toList[(k1 - lo).toNat]? with
      | none => rw [h4] at h3; cases h3
      | some off =>
        rw [h4] at h3
        exact ⟨off, by simpa using h4, Option.some.inj h3⟩
    obtain ⟨off, ho1, ho2⟩ := ho
    refine lv_tableIn X.1 X.2.1 hd (by rw [pe_toInt ha]; omega) (by rw [pe_toInt ha]; omega) (by rw [pe_toInt ha]; exact ho1) ho2 (pe_sw_at tb _ t1 hq2 (fun j hj2 q hq3 e => ?_) k l D ad cA p e s m args below meth c H locs ls X hl hP hD hS)
    have h5 := key j q hq3
    omega
/-- the library's -/
theorem pe_max {a b : Int} {idx : Nat} (hw : Cond.methodLink y.1.cls idx Lib.Math.max.name ∈ pe_WS) (hst : Cond.static Lib.Math.max.name ∈ pe_WS) (hini : Cond.initialized "java/lang/Math" ∈ pe_WS) (hco : Cond.code Lib.Math.max.name Lib.Math.max.code 2 (some .int) ∈ pe_WS) (hd : decode y.2.1 pc = .ok (.invokestatic idx, 3)) (ha : pe_R a) (hb : pe_R b) (hf : 1 ≤ y.2.2.2.2.1) (hlo : (st.map pe_cat).sum + 13 ≤ y.2.2.2.2.2) (k : pe_G y (pc + 3) lv (.inl (if a < b then b else a) :: st) σ Q) : pe_G y pc lv (.inl b :: .inl a :: st) σ Q := by
  intro l D ad cA p e s m args below meth c H locs ls X hl hP hD hS
  have k := k l D ad cA p e s m args below meth c H locs ls X hl hP hD hS
  have hX : ∀ w ∈ pe_WS, w.before args s = true := fun w h => X.2.2.2.2.2.1 w (List.mem_cons_of_mem _ h)
  refine va_mmax X.1 X.2.1 (X.2.2.2.2.1.trans hl.2.1.symm) X.2.2.2.2.2.2.1 (hX _ hw) (hX _ hst) (hX _ hini) (hX _ hco) hf (by rw [pe_cats]; exact hlo) (Nat.zero_le _) (Nat.zero_le _) hd (pe_top k ?_)
  show Value.int (if Int32.ofInt a < Int32.ofInt b then Int32.ofInt b else Int32.ofInt a) = Value.int (Int32.ofInt (if a < b then b else a))
  by_cases h : a < b
  · rw [if_pos h, if_pos ((pe_lt ha hb).mpr h)]
  · rw [if_neg h, if_neg (fun q => h ((pe_lt ha hb).mp q))]
theorem pe_min {a b : Int} {idx : Nat} (hw : Cond.methodLink y.1.cls idx Lib.Math.min.name ∈ pe_WS) (hst : Cond.static Lib.Math.min.name ∈ pe_WS) (hini : Cond.initialized "java/lang/Math" ∈ pe_WS) (hco : Cond.code Lib.Math.min.name Lib.Math.min.code 2 (some .int) ∈ pe_WS) (hd : decode y.2.1 pc = .ok (.invokestatic idx, 3)) (ha : pe_R a) (hb : pe_R b) (hf : 1 ≤ y.2.2.2.2.1) (hlo : (st.map pe_cat).sum + 13 ≤ y.2.2.2.2.2) (k : pe_G y (pc + 3) lv (.inl (if b < a then b else a) :: st) σ Q) : pe_G y pc lv (.inl b :: .inl a :: st) σ Q := by
  intro l D ad cA p e s m args below meth c H locs ls X hl hP hD hS
  have k := k l D ad cA p e s m args below meth c H locs ls X hl hP hD hS
  have hX : ∀ w ∈ pe_WS, w.before args s = true := fun w h => X.2.2.2.2.2.1 w (List.mem_cons_of_mem _ h)
  refine va_mmin X.1 X.2.1 (X.2.2.2.2.1.trans hl.2.1.symm) X.2.2.2.2.2.2.1 (hX _ hw) (hX _ hst) (hX _ hini) (hX _ hco) hf (by rw [pe_cats]; exact hlo) (Nat.zero_le _) (Nat.zero_le _) hd (pe_top k ?_)
  show Value.int (if Int32.ofInt b < Int32.ofInt a then Int32.ofInt b else Int32.ofInt a) = Value.int (Int32.ofInt (if b < a then b else a))
  by_cases h : b < a
  · rw [if_pos h, if_pos ((pe_lt hb ha).mpr h)]
  · rw [if_neg h, if_neg (fun q => h ((pe_lt hb ha).mp q))]
def pe_cp (σ : pe_H) (a0 : Nat) (sp : Int) (a : Nat) (dp n : Int) : pe_H := fun b j => if b = a ∧ dp ≤ j ∧ j < dp + n then σ a0 (sp + (j - dp)) else σ b j
theorem pe_acopy {a0 a n0 n1 idx : Nat} {sp dp n : Int} (hw : Cond.methodLink y.1.cls idx arraycopyName ∈ pe_WS) (hna : Cond.native arraycopyName ∈ pe_WS) (hst : Cond.static arraycopyName ∈ pe_WS) (hini : Cond.initialized "java/lang/System" ∈ pe_WS) (hd : decode y.2.1 pc = .ok (.invokestatic idx, 3)) (hs0 : pe_sh[a0]? = some (.inl (.int, n0))) (hs1 : pe_sh[a]? = some (.inl (.int, n1))) (h1 : 0 ≤ sp) (h2 : 0 ≤ dp) (h3 : 0 ≤ n) (h4 : sp + n ≤ n0) (h5 : dp + n ≤ n1) (hf : 1 ≤ y.2.2.2.2.1) (hlo : (st.map pe_cat).sum + (nativeFrameWords "java/lang/System" "arraycopy" 5 + 11) ≤ y.2.2.2.2.2) (k : pe_G y (pc + 3) lv st (pe_cp σ a0 sp a dp n) Q) (hn0 : n0 < 2147483648 := by decide) (hn1 : n1 < 2147483648 := by decide) : pe_G y pc lv (.inl n :: .inl dp :: .inr (.inl a) :: .inl sp :: .inr (.inl a0) :: st) σ Q := by
  intro l D ad cA p e s m args below meth c H locs ls X hl hP hD hS
  have hX : ∀ w ∈ pe_WS, w.before args s = true := fun w h => X.2.2.2.2.2.1 w (List.mem_cons_of_mem _ h)
  have nl : ∀ z : Int, 0 ≤ z → z < 2147483648 → ¬ Int32.ofInt z < 0 := fun z q1 q2 q => by
    have := (pe_lt (a := z) (b := 0) ⟨by omega, by omega⟩ pe_R0).mp q
    omega
  have cs := pe_clamp h1 (by omega)
  have cd := pe_clamp h2 (by omega)
  have cn := pe_clamp h3 (by omega)
  refine va_copyi X.1 X.2.1 (X.2.2.2.2.1.trans hl.2.1.symm) X.2.2.2.2.2.2.1 (hX _ hw) (hX _ hna) (hX _ hst) (hX _ hini) X.2.2.2.2.2.2.2.1 hP hD hS a0 a 0 0 (pe_wd_at hs0) (pe_wd_at hs1) rfl rfl rfl (nl sp h1 (by omega)) (nl dp h2 (by omega)) (nl n h3 (by omega)) (by rw [cs, cn]; omega) (by rw [cd, cn]; omega) (fun _ _ => rfl) hf (by rw [pe_cats]; exact hlo) hd (fun H1 locs1 hP1 hD1 hS1 => ?_)
  have hE : (Sum.inl (cA .int, n1, Sum.inl (va_cpy (fun j : Nat => Int32.ofInt (σ a0 (j : Int))) (fun j : Nat => Int32.ofInt (σ a (j : Int))) (Int32.ofInt sp).toNatClampNeg (Int32.ofInt dp).toNatClampNeg (Int32.ofInt n).toNatClampNeg)) : va_E) = pe_en ad cA (pe_cp σ a0 sp a dp n) a (.inl (.int, n1)) := by
    have h6 : va_cpy (fun j : Nat => Int32.ofInt (σ a0 (j : Int))) (fun j : Nat => Int32.ofInt (σ a (j : Int))) (Int32.ofInt sp).toNatClampNeg (Int32.ofInt dp).toNatClampNeg (Int32.ofInt n).toNatClampNeg = fun j : Nat => Int32.ofInt (pe_cp σ a0 sp a dp n a (j : Int)) := by
      funext j
      rw [cs, cd, cn]
      unfold va_cpy pe_cp
      by_cases hj : dp ≤ (j : Int) ∧ (j : Int) < dp + n
      · rw [if_pos (by omega), if_pos ⟨rfl, hj⟩]
        show Int32.ofInt (σ a0 ((sp.toNat + (j - dp.toNat) : Nat) : Int)) = Int32.ofInt (σ a0 (sp + ((j : Int) - dp)))
        have h7 : ((sp.toNat + (j - dp.toNat) : Nat) : Int) = sp + ((j : Int) - dp) := by omega
        rw [h7]
      · rw [if_neg (by omega), if_neg (fun q => hj q.2)]
    rw [h6]
    rfl
  rw [pe_wd_set (σ' := pe_cp σ a0 sp a dp n) hs1 (fun b hb => by funext j; unfold pe_cp; rw [if_neg (fun q => hb q.1)]) hE] at hP1 hD1
  exact k l D ad cA p e s m args below meth c H1 locs1 ls X hl hP1 hD1 hS1
end PE_MORE
end
section
/-! methods, by program: a name, code, locals, result, frames, words -/
abbrev m_P_type : pe_Y := (⟨"PaintEditor", "type", "(JI)I"⟩, prog_1_method_2_code, 6, (Option.some FieldType.int), 7, 161)
abbrev m_P_tick : pe_Y := (⟨"PaintEditor", "tick", "()I"⟩, prog_1_method_3_code, 1, (Option.some FieldType.int), 7, 161)
abbrev m_P_size : pe_Y := (⟨"PaintEditor", "size", "(II)Z"⟩, prog_1_method_4_code, 3, (Option.some FieldType.boolean), 5, 114)
abbrev m_P_draw : pe_Y := (⟨"PaintEditor", "draw", "()I"⟩, prog_1_method_5_code, 2, (Option.some FieldType.int), 7, 165)
abbrev m_P_text : pe_Y := (⟨"PaintEditor", "text", "(I)I"⟩, prog_1_method_6_code, 2, (Option.some FieldType.int), 1, 21)
abbrev m_P_state : pe_Y := (⟨"PaintEditor", "state", "(I)I"⟩, prog_1_method_7_code, 2, (Option.some FieldType.int), 0, 0)
abbrev m_P_cell : pe_Y := (⟨"PaintEditor", "cell", "(II)I"⟩, prog_1_method_8_code, 3, (Option.some FieldType.int), 2, 44)
abbrev m_P_look : pe_Y := (⟨"PaintEditor", "look", "(II)I"⟩, prog_1_method_9_code, 3, (Option.some FieldType.int), 2, 44)
abbrev m_P_terminal : pe_Y := (⟨"PaintEditor", "terminal", "(I)I"⟩, prog_1_method_10_code, 3, (Option.some FieldType.int), 0, 0)
abbrev m_P_sent : pe_Y := (⟨"PaintEditor", "sent", "(I)I"⟩, prog_1_method_11_code, 2, (Option.some FieldType.int), 1, 21)
abbrev m_M_isMark : pe_Y := (⟨"PaintEditorModel", "isMark", "(I)Z"⟩, prog_13_method_2_code, 1, (Option.some FieldType.boolean), 0, 0)
abbrev m_M_isWide : pe_Y := (⟨"PaintEditorModel", "isWide", "(I)Z"⟩, prog_13_method_3_code, 1, (Option.some FieldType.boolean), 0, 0)
abbrev m_M_begins : pe_Y := (⟨"PaintEditorModel", "begins", "(I)Z"⟩, prog_13_method_4_code, 3, (Option.some FieldType.boolean), 1, 20)
abbrev m_M_after : pe_Y := (⟨"PaintEditorModel", "after", "(I)I"⟩, prog_13_method_5_code, 3, (Option.some FieldType.int), 2, 42)
abbrev m_M_before : pe_Y := (⟨"PaintEditorModel", "before", "(I)I"⟩, prog_13_method_6_code, 3, (Option.some FieldType.int), 2, 42)
abbrev m_M_widthOf : pe_Y := (⟨"PaintEditorModel", "widthOf", "(II)I"⟩, prog_13_method_7_code, 3, (Option.some FieldType.int), 1, 20)
abbrev m_M_layOut : pe_Y := (⟨"PaintEditorModel", "layOut", "()V"⟩, prog_13_method_8_code, 6, (Option.none : Option FieldType), 3, 64)
abbrev m_M_isSmall : pe_Y := (⟨"PaintEditorModel", "isSmall", "()Z"⟩, prog_13_method_9_code, 1, (Option.some FieldType.boolean), 0, 0)
abbrev m_M_forgetFirst : pe_Y := (⟨"PaintEditorModel", "forgetFirst", "()V"⟩, prog_13_method_10_code, 2, (Option.none : Option FieldType), 0, 0)
abbrev m_M_open : pe_Y := (⟨"PaintEditorModel", "open", "(II)V"⟩, prog_13_method_11_code, 4, (Option.none : Option FieldType), 0, 0)
abbrev m_M_close : pe_Y := (⟨"PaintEditorModel", "close", "(II)V"⟩, prog_13_method_12_code, 4, (Option.none : Option FieldType), 0, 0)
abbrev m_M_note : pe_Y := (⟨"PaintEditorModel", "note", "(III)V"⟩, prog_13_method_13_code, 5, (Option.none : Option FieldType), 1, 21)
abbrev m_M_settle : pe_Y := (⟨"PaintEditorModel", "settle", "(I)V"⟩, prog_13_method_14_code, 2, (Option.none : Option FieldType), 2, 42)
abbrev m_M_insertOne : pe_Y := (⟨"PaintEditorModel", "insertOne", "(I)V"⟩, prog_13_method_15_code, 2, (Option.none : Option FieldType), 3, 63)
abbrev m_M_insertClip : pe_Y := (⟨"PaintEditorModel", "insertClip", "()V"⟩, prog_13_method_16_code, 2, (Option.none : Option FieldType), 3, 63)
abbrev m_M_takeAway : pe_Y := (⟨"PaintEditorModel", "takeAway", "(II)V"⟩, prog_13_method_17_code, 3, (Option.none : Option FieldType), 3, 63)
abbrev m_M_cutOut : pe_Y := (⟨"PaintEditorModel", "cutOut", "()V"⟩, prog_13_method_18_code, 4, (Option.none : Option FieldType), 4, 85)
abbrev m_M_undo : pe_Y := (⟨"PaintEditorModel", "undo", "()V"⟩, prog_13_method_19_code, 3, (Option.none : Option FieldType), 3, 63)
abbrev m_M_character : pe_Y := (⟨"PaintEditorModel", "character", "(I)V"⟩, prog_13_method_20_code, 2, (Option.none : Option FieldType), 4, 84)
abbrev m_M_control : pe_Y := (⟨"PaintEditorModel", "control", "(II)V"⟩, prog_13_method_21_code, 3, (Option.none : Option FieldType), 6, 129)
abbrev m_M_command : pe_Y := (⟨"PaintEditorModel", "command", "(I)V"⟩, prog_13_method_22_code, 2, (Option.none : Option FieldType), 5, 108)
abbrev m_M_escapeKey : pe_Y := (⟨"PaintEditorModel", "escapeKey", "()V"⟩, prog_13_method_23_code, 1, (Option.none : Option FieldType), 0, 0)
abbrev m_M_upOrDown : pe_Y := (⟨"PaintEditorModel", "upOrDown", "(I)V"⟩, prog_13_method_24_code, 6, (Option.none : Option FieldType), 4, 89)
abbrev m_M_lineBegin : pe_Y := (⟨"PaintEditorModel", "lineBegin", "()I"⟩, prog_13_method_25_code, 2, (Option.some FieldType.int), 0, 0)
abbrev m_M_lineEnd : pe_Y := (⟨"PaintEditorModel", "lineEnd", "()I"⟩, prog_13_method_26_code, 2, (Option.some FieldType.int), 0, 0)
abbrev m_M_finish : pe_Y := (⟨"PaintEditorModel", "finish", "(I)V"⟩, prog_13_method_27_code, 4, (Option.none : Option FieldType), 5, 114)
abbrev m_M_plain : pe_Y := (⟨"PaintEditorModel", "plain", "(II)V"⟩, prog_13_method_28_code, 3, (Option.none : Option FieldType), 7, 151)
abbrev m_M_within : pe_Y := (⟨"PaintEditorModel", "within", "(II)V"⟩, prog_13_method_29_code, 3, (Option.none : Option FieldType), 8, 173)
abbrev m_M_inSequence : pe_Y := (⟨"PaintEditorModel", "inSequence", "(II)V"⟩, prog_13_method_30_code, 3, (Option.none : Option FieldType), 8, 173)
abbrev m_M_take : pe_Y := (⟨"PaintEditorModel", "take", "(I)V"⟩, prog_13_method_31_code, 3, (Option.none : Option FieldType), 9, 195)
abbrev m_M_type : pe_Y := (⟨"PaintEditorModel", "type", "(JI)I"⟩, prog_13_method_32_code, 5, (Option.some FieldType.int), 10, 217)
abbrev m_M_tick : pe_Y := (⟨"PaintEditorModel", "tick", "()I"⟩, prog_13_method_33_code, 1, (Option.some FieldType.int), 5, 105)
abbrev m_M_clusterAt : pe_Y := (⟨"PaintEditorModel", "clusterAt", "(I)I"⟩, prog_13_method_34_code, 4, (Option.some FieldType.int), 3, 64)
abbrev m_M_fillText : pe_Y := (⟨"PaintEditorModel", "fillText", "()V"⟩, prog_13_method_35_code, 9, (Option.none : Option FieldType), 4, 87)
abbrev m_M_status : pe_Y := (⟨"PaintEditorModel", "status", "(II)I"⟩, prog_13_method_36_code, 3, (Option.some FieldType.int), 0, 0)
abbrev m_M_statusNumber : pe_Y := (⟨"PaintEditorModel", "statusNumber", "(II)I"⟩, prog_13_method_37_code, 5, (Option.some FieldType.int), 1, 22)
abbrev m_M_fillStatus : pe_Y := (⟨"PaintEditorModel", "fillStatus", "()V"⟩, prog_13_method_38_code, 4, (Option.none : Option FieldType), 2, 46)
abbrev m_M_compose : pe_Y := (⟨"PaintEditorModel", "compose", "()V"⟩, prog_13_method_39_code, 2, (Option.none : Option FieldType), 5, 115)
abbrev m_M_put : pe_Y := (⟨"PaintEditorModel", "put", "(I)V"⟩, prog_13_method_40_code, 2, (Option.none : Option FieldType), 0, 0)
abbrev m_M_putNumber : pe_Y := (⟨"PaintEditorModel", "putNumber", "(I)V"⟩, prog_13_method_41_code, 2, (Option.none : Option FieldType), 1, 21)
abbrev m_M_putBegin : pe_Y := (⟨"PaintEditorModel", "putBegin", "()V"⟩, prog_13_method_42_code, 1, (Option.none : Option FieldType), 1, 21)
abbrev m_M_blankHalf : pe_Y := (⟨"PaintEditorModel", "blankHalf", "(I)V"⟩, prog_13_method_43_code, 2, (Option.none : Option FieldType), 1, 20)
abbrev m_M_putCode : pe_Y := (⟨"PaintEditorModel", "putCode", "(I)V"⟩, prog_13_method_44_code, 2, (Option.none : Option FieldType), 1, 21)
abbrev m_M_write : pe_Y := (⟨"PaintEditorModel", "write", "(I)V"⟩, prog_13_method_45_code, 4, (Option.none : Option FieldType), 2, 42)
abbrev m_M_sendPlace : pe_Y := (⟨"PaintEditorModel", "sendPlace", "(II)V"⟩, prog_13_method_46_code, 3, (Option.none : Option FieldType), 2, 42)
abbrev m_M_go : pe_Y := (⟨"PaintEditorModel", "go", "(IIZ)V"⟩, prog_13_method_47_code, 5, (Option.none : Option FieldType), 3, 64)
abbrev m_M_setLook : pe_Y := (⟨"PaintEditorModel", "setLook", "(I)V"⟩, prog_13_method_48_code, 2, (Option.none : Option FieldType), 2, 41)
abbrev m_M_sendCluster : pe_Y := (⟨"PaintEditorModel", "sendCluster", "(II)V"⟩, prog_13_method_49_code, 8, (Option.none : Option FieldType), 4, 88)
abbrev m_M_sendClusters : pe_Y := (⟨"PaintEditorModel", "sendClusters", "(III)V"⟩, prog_13_method_50_code, 5, (Option.none : Option FieldType), 5, 115)
abbrev m_M_differs : pe_Y := (⟨"PaintEditorModel", "differs", "(I)Z"⟩, prog_13_method_51_code, 2, (Option.some FieldType.boolean), 0, 0)
abbrev m_M_drawRow : pe_Y := (⟨"PaintEditorModel", "drawRow", "(I)V"⟩, prog_13_method_52_code, 8, (Option.none : Option FieldType), 6, 139)
abbrev m_M_draw : pe_Y := (⟨"PaintEditorModel", "draw", "()I"⟩, prog_13_method_53_code, 2, (Option.some FieldType.int), 7, 166)
abbrev m_M_size : pe_Y := (⟨"PaintEditorModel", "size", "(II)Z"⟩, prog_13_method_54_code, 9, (Option.some FieldType.boolean), 1, 20)
abbrev m_M_text : pe_Y := (⟨"PaintEditorModel", "text", "(I)I"⟩, prog_13_method_55_code, 2, (Option.some FieldType.int), 0, 0)
abbrev m_M_state : pe_Y := (⟨"PaintEditorModel", "state", "(I)I"⟩, prog_13_method_56_code, 2, (Option.some FieldType.int), 0, 0)
abbrev m_M_isCell : pe_Y := (⟨"PaintEditorModel", "isCell", "(II)Z"⟩, prog_13_method_57_code, 3, (Option.some FieldType.boolean), 0, 0)
abbrev m_M_cell : pe_Y := (⟨"PaintEditorModel", "cell", "(II)I"⟩, prog_13_method_58_code, 3, (Option.some FieldType.int), 1, 22)
abbrev m_M_look : pe_Y := (⟨"PaintEditorModel", "look", "(II)I"⟩, prog_13_method_59_code, 3, (Option.some FieldType.int), 1, 22)
abbrev m_M_terminal : pe_Y := (⟨"PaintEditorModel", "terminal", "(I)I"⟩, prog_13_method_60_code, 2, (Option.some FieldType.int), 0, 0)
abbrev m_M_sent : pe_Y := (⟨"PaintEditorModel", "sent", "(I)I"⟩, prog_13_method_61_code, 2, (Option.some FieldType.int), 0, 0)
abbrev m_C_isMark : pe_Y := (⟨"PaintEditor$Codes", "isMark", "(I)Z"⟩, prog_2_method_2_code, 1, (Option.some FieldType.boolean), 0, 0)
abbrev m_C_takesMarks : pe_Y := (⟨"PaintEditor$Codes", "takesMarks", "(I)Z"⟩, prog_2_method_3_code, 1, (Option.some FieldType.boolean), 1, 20)
abbrev m_C_isWide : pe_Y := (⟨"PaintEditor$Codes", "isWide", "(I)Z"⟩, prog_2_method_4_code, 1, (Option.some FieldType.boolean), 0, 0)
abbrev m_C_widthOf : pe_Y := (⟨"PaintEditor$Codes", "widthOf", "(I)I"⟩, prog_2_method_5_code, 1, (Option.some FieldType.int), 1, 20)
abbrev m_C_characterOf : pe_Y := (⟨"PaintEditor$Codes", "characterOf", "(I)I"⟩, prog_2_method_6_code, 1, (Option.some FieldType.int), 0, 0)
abbrev m_C_firstMarkOf : pe_Y := (⟨"PaintEditor$Codes", "firstMarkOf", "(I)I"⟩, prog_2_method_7_code, 2, (Option.some FieldType.int), 0, 0)
abbrev m_C_secondMarkOf : pe_Y := (⟨"PaintEditor$Codes", "secondMarkOf", "(I)I"⟩, prog_2_method_8_code, 2, (Option.some FieldType.int), 0, 0)
abbrev m_C_withMark : pe_Y := (⟨"PaintEditor$Codes", "withMark", "(II)I"⟩, prog_2_method_9_code, 3, (Option.some FieldType.int), 0, 0)
abbrev m_E_press : pe_Y := (⟨"PaintEditor$Editor", "press", "(I)V"⟩, prog_3_method_2_code, 2, (Option.none : Option FieldType), 6, 140)
abbrev m_E_isCharacter : pe_Y := (⟨"PaintEditor$Editor", "isCharacter", "(I)Z"⟩, prog_3_method_3_code, 1, (Option.some FieldType.boolean), 0, 0)
abbrev m_E_worksWhilePasting : pe_Y := (⟨"PaintEditor$Editor", "worksWhilePasting", "(I)Z"⟩, prog_3_method_4_code, 1, (Option.some FieldType.boolean), 1, 20)
abbrev m_E_worksOtherwise : pe_Y := (⟨"PaintEditor$Editor", "worksOtherwise", "(I)Z"⟩, prog_3_method_5_code, 1, (Option.some FieldType.boolean), 0, 0)
abbrev m_E_command : pe_Y := (⟨"PaintEditor$Editor", "command", "(I)V"⟩, prog_3_method_6_code, 2, (Option.none : Option FieldType), 5, 119)
abbrev m_E_insertOne : pe_Y := (⟨"PaintEditor$Editor", "insertOne", "(I)V"⟩, prog_3_method_7_code, 2, (Option.none : Option FieldType), 3, 72)
abbrev m_E_insert : pe_Y := (⟨"PaintEditor$Editor", "insert", "([II)V"⟩, prog_3_method_8_code, 3, (Option.none : Option FieldType), 2, 50)
abbrev m_E_removeBetween : pe_Y := (⟨"PaintEditor$Editor", "removeBetween", "(II)V"⟩, prog_3_method_9_code, 3, (Option.none : Option FieldType), 3, 75)
abbrev m_E_cut : pe_Y := (⟨"PaintEditor$Editor", "cut", "()V"⟩, prog_3_method_10_code, 3, (Option.none : Option FieldType), 4, 97)
abbrev m_E_undo : pe_Y := (⟨"PaintEditor$Editor", "undo", "()V"⟩, prog_3_method_11_code, 2, (Option.none : Option FieldType), 3, 72)
abbrev m_E_moveByRow : pe_Y := (⟨"PaintEditor$Editor", "moveByRow", "(I)V"⟩, prog_3_method_12_code, 3, (Option.none : Option FieldType), 4, 89)
abbrev m_E_isBetween : pe_Y := (⟨"PaintEditor$Editor", "isBetween", "(I)Z"⟩, prog_3_method_13_code, 2, (Option.some FieldType.boolean), 1, 21)
abbrev m_G_has : pe_Y := (⟨"PaintEditor$Grid", "has", "(II)Z"⟩, prog_4_method_2_code, 3, (Option.some FieldType.boolean), 0, 0)
abbrev m_G_clusterAt : pe_Y := (⟨"PaintEditor$Grid", "clusterAt", "(II)I"⟩, prog_4_method_3_code, 3, (Option.some FieldType.int), 1, 22)
abbrev m_G_lookAt : pe_Y := (⟨"PaintEditor$Grid", "lookAt", "(II)I"⟩, prog_4_method_4_code, 3, (Option.some FieldType.int), 1, 22)
abbrev m_G_put : pe_Y := (⟨"PaintEditor$Grid", "put", "(IIII)V"⟩, prog_4_method_5_code, 5, (Option.none : Option FieldType), 1, 22)
abbrev m_G_isBlank : pe_Y := (⟨"PaintEditor$Grid", "isBlank", "(II)Z"⟩, prog_4_method_6_code, 3, (Option.some FieldType.boolean), 2, 44)
abbrev m_G_isWideAt : pe_Y := (⟨"PaintEditor$Grid", "isWideAt", "(II)Z"⟩, prog_4_method_7_code, 3, (Option.some FieldType.boolean), 2, 44)
abbrev m_G_blankAll : pe_Y := (⟨"PaintEditor$Grid", "blankAll", "()V"⟩, prog_4_method_8_code, 1, (Option.none : Option FieldType), 1, 23)
abbrev m_G_blankFrom : pe_Y := (⟨"PaintEditor$Grid", "blankFrom", "(II)V"⟩, prog_4_method_9_code, 4, (Option.none : Option FieldType), 2, 46)
abbrev m_G_resize : pe_Y := (⟨"PaintEditor$Grid", "resize", "(II)V"⟩, prog_4_method_10_code, 4, (Option.none : Option FieldType), 3, 69)
abbrev m_H_keepInsertion : pe_Y := (⟨"PaintEditor$History", "keepInsertion", "(II)V"⟩, prog_5_method_2_code, 4, (Option.none : Option FieldType), 1, 20)
abbrev m_H_keepRemoval : pe_Y := (⟨"PaintEditor$History", "keepRemoval", "(LPaintEditor$Text;III)V"⟩, prog_5_method_3_code, 6, (Option.none : Option FieldType), 2, 50)
abbrev m_H_undoIn : pe_Y := (⟨"PaintEditor$History", "undoIn", "(LPaintEditor$Text;)I"⟩, prog_5_method_4_code, 3, (Option.some FieldType.int), 2, 50)
abbrev m_H_newSlot : pe_Y := (⟨"PaintEditor$History", "newSlot", "()I"⟩, prog_5_method_5_code, 1, (Option.some FieldType.int), 0, 0)
abbrev m_K_leave : pe_Y := (⟨"PaintEditor$Keyboard", "leave", "(I)I"⟩, prog_6_method_2_code, 2, (Option.some FieldType.int), 2, 41)
abbrev m_K_giveUp : pe_Y := (⟨"PaintEditor$Keyboard", "giveUp", "()I"⟩, prog_6_method_3_code, 2, (Option.some FieldType.int), 0, 0)
abbrev m_K_take : pe_Y := (⟨"PaintEditor$Keyboard", "take", "(I)I"⟩, prog_6_method_4_code, 3, (Option.some FieldType.int), 2, 42)
abbrev m_K_goesOn : pe_Y := (⟨"PaintEditor$Keyboard", "goesOn", "(I)Z"⟩, prog_6_method_5_code, 2, (Option.some FieldType.boolean), 1, 20)
abbrev m_K_isDigit : pe_Y := (⟨"PaintEditor$Keyboard", "isDigit", "(I)Z"⟩, prog_6_method_6_code, 1, (Option.some FieldType.boolean), 0, 0)
abbrev m_K_isFinal : pe_Y := (⟨"PaintEditor$Keyboard", "isFinal", "(I)Z"⟩, prog_6_method_7_code, 1, (Option.some FieldType.boolean), 0, 0)
abbrev m_K_takePlain : pe_Y := (⟨"PaintEditor$Keyboard", "takePlain", "(I)I"⟩, prog_6_method_8_code, 2, (Option.some FieldType.int), 1, 21)
abbrev m_K_beginCharacter : pe_Y := (⟨"PaintEditor$Keyboard", "beginCharacter", "(I)V"⟩, prog_6_method_9_code, 2, (Option.none : Option FieldType), 0, 0)
abbrev m_K_takeWithin : pe_Y := (⟨"PaintEditor$Keyboard", "takeWithin", "(I)I"⟩, prog_6_method_10_code, 2, (Option.some FieldType.int), 0, 0)
abbrev m_K_takeInSequence : pe_Y := (⟨"PaintEditor$Keyboard", "takeInSequence", "(I)I"⟩, prog_6_method_11_code, 2, (Option.some FieldType.int), 1, 21)
abbrev m_K_numberedKey : pe_Y := (⟨"PaintEditor$Keyboard", "numberedKey", "()I"⟩, prog_6_method_12_code, 1, (Option.some FieldType.int), 0, 0)
abbrev m_L_lay : pe_Y := (⟨"PaintEditor$Layout", "lay", "(LPaintEditor$Text;I)V"⟩, prog_7_method_2_code, 8, (Option.none : Option FieldType), 3, 62)
abbrev m_L_placeIn : pe_Y := (⟨"PaintEditor$Layout", "placeIn", "(LPaintEditor$Text;II)I"⟩, prog_7_method_3_code, 6, (Option.some FieldType.int), 0, 0)
abbrev m_Q_byteAt : pe_Y := (⟨"PaintEditor$Painter", "byteAt", "(I)I"⟩, prog_8_method_2_code, 2, (Option.some FieldType.int), 0, 0)
abbrev m_Q_begin : pe_Y := (⟨"PaintEditor$Painter", "begin", "(Z)V"⟩, prog_8_method_3_code, 2, (Option.none : Option FieldType), 4, 87)
abbrev m_Q_paintRow : pe_Y := (⟨"PaintEditor$Painter", "paintRow", "(LPaintEditor$Grid;I)V"⟩, prog_8_method_4_code, 10, (Option.none : Option FieldType), 6, 136)
abbrev m_Q_differs : pe_Y := (⟨"PaintEditor$Painter", "differs", "(LPaintEditor$Grid;II)Z"⟩, prog_8_method_5_code, 4, (Option.some FieldType.boolean), 2, 44)
abbrev m_Q_firstDifference : pe_Y := (⟨"PaintEditor$Painter", "firstDifference", "(LPaintEditor$Grid;I)I"⟩, prog_8_method_6_code, 4, (Option.some FieldType.int), 3, 67)
abbrev m_Q_lastDifference : pe_Y := (⟨"PaintEditor$Painter", "lastDifference", "(LPaintEditor$Grid;I)I"⟩, prog_8_method_7_code, 4, (Option.some FieldType.int), 3, 67)
abbrev m_Q_blankBeginning : pe_Y := (⟨"PaintEditor$Painter", "blankBeginning", "(LPaintEditor$Grid;I)I"⟩, prog_8_method_8_code, 3, (Option.some FieldType.int), 3, 66)
abbrev m_Q_sendCluster : pe_Y := (⟨"PaintEditor$Painter", "sendCluster", "(IIII)V"⟩, prog_8_method_9_code, 6, (Option.none : Option FieldType), 5, 111)
abbrev m_Q_makePlaceRight : pe_Y := (⟨"PaintEditor$Painter", "makePlaceRight", "(II)V"⟩, prog_8_method_10_code, 5, (Option.none : Option FieldType), 4, 87)
abbrev m_Q_sendPlace : pe_Y := (⟨"PaintEditor$Painter", "sendPlace", "(II)V"⟩, prog_8_method_11_code, 3, (Option.none : Option FieldType), 3, 65)
abbrev m_Q_sendLook : pe_Y := (⟨"PaintEditor$Painter", "sendLook", "(I)V"⟩, prog_8_method_12_code, 3, (Option.none : Option FieldType), 3, 65)
abbrev m_Q_sendSequence : pe_Y := (⟨"PaintEditor$Painter", "sendSequence", "(III)V"⟩, prog_8_method_13_code, 4, (Option.none : Option FieldType), 2, 42)
abbrev m_Q_putNumber : pe_Y := (⟨"PaintEditor$Painter", "putNumber", "(I)V"⟩, prog_8_method_14_code, 2, (Option.none : Option FieldType), 1, 21)
abbrev m_Q_sendCharacter : pe_Y := (⟨"PaintEditor$Painter", "sendCharacter", "(I)V"⟩, prog_8_method_15_code, 2, (Option.none : Option FieldType), 4, 90)
abbrev m_Q_put : pe_Y := (⟨"PaintEditor$Painter", "put", "(I)V"⟩, prog_8_method_16_code, 2, (Option.none : Option FieldType), 0, 0)
abbrev m_S_compose : pe_Y := (⟨"PaintEditor$Screen", "compose", "(LPaintEditor$Editor;)V"⟩, prog_9_method_2_code, 3, (Option.none : Option FieldType), 6, 138)
abbrev m_S_follow : pe_Y := (⟨"PaintEditor$Screen", "follow", "(I)V"⟩, prog_9_method_3_code, 2, (Option.none : Option FieldType), 0, 0)
abbrev m_S_showCluster : pe_Y := (⟨"PaintEditor$Screen", "showCluster", "(LPaintEditor$Editor;I)V"⟩, prog_9_method_4_code, 10, (Option.none : Option FieldType), 5, 109)
abbrev m_S_showStatus : pe_Y := (⟨"PaintEditor$Screen", "showStatus", "(LPaintEditor$Editor;)V"⟩, prog_9_method_5_code, 4, (Option.none : Option FieldType), 3, 70)
abbrev m_Z_write : pe_Y := (⟨"PaintEditor$Terminal", "write", "(I)V"⟩, prog_10_method_2_code, 3, (Option.none : Option FieldType), 3, 68)
abbrev m_Z_joins : pe_Y := (⟨"PaintEditor$Terminal", "joins", "(I)Z"⟩, prog_10_method_3_code, 3, (Option.some FieldType.boolean), 2, 46)
abbrev m_Z_writeCells : pe_Y := (⟨"PaintEditor$Terminal", "writeCells", "(I)V"⟩, prog_10_method_4_code, 3, (Option.none : Option FieldType), 2, 46)
abbrev m_Z_moveTo : pe_Y := (⟨"PaintEditor$Terminal", "moveTo", "(II)V"⟩, prog_10_method_5_code, 3, (Option.none : Option FieldType), 1, 20)
abbrev m_Z_eraseRestOfRow : pe_Y := (⟨"PaintEditor$Terminal", "eraseRestOfRow", "()V"⟩, prog_10_method_6_code, 1, (Option.none : Option FieldType), 3, 69)
abbrev m_Z_eraseAll : pe_Y := (⟨"PaintEditor$Terminal", "eraseAll", "()V"⟩, prog_10_method_7_code, 1, (Option.none : Option FieldType), 2, 43)
abbrev m_Z_resize : pe_Y := (⟨"PaintEditor$Terminal", "resize", "(II)V"⟩, prog_10_method_8_code, 3, (Option.none : Option FieldType), 4, 92)
abbrev m_Z_endWriting : pe_Y := (⟨"PaintEditor$Terminal", "endWriting", "()V"⟩, prog_10_method_9_code, 1, (Option.none : Option FieldType), 0, 0)
abbrev m_T_codeAt : pe_Y := (⟨"PaintEditor$Text", "codeAt", "(I)I"⟩, prog_11_method_2_code, 2, (Option.some FieldType.int), 0, 0)
abbrev m_T_hasRoomFor : pe_Y := (⟨"PaintEditor$Text", "hasRoomFor", "(I)Z"⟩, prog_11_method_3_code, 2, (Option.some FieldType.boolean), 0, 0)
abbrev m_T_insert : pe_Y := (⟨"PaintEditor$Text", "insert", "(I[III)V"⟩, prog_11_method_4_code, 5, (Option.none : Option FieldType), 1, 26)
abbrev m_T_remove : pe_Y := (⟨"PaintEditor$Text", "remove", "(II)V"⟩, prog_11_method_5_code, 3, (Option.none : Option FieldType), 1, 26)
abbrev m_T_copyTo : pe_Y := (⟨"PaintEditor$Text", "copyTo", "([IIII)V"⟩, prog_11_method_6_code, 5, (Option.none : Option FieldType), 1, 26)
abbrev m_T_isBeginning : pe_Y := (⟨"PaintEditor$Text", "isBeginning", "(I)Z"⟩, prog_11_method_7_code, 3, (Option.some FieldType.boolean), 2, 40)
abbrev m_T_beginningFrom : pe_Y := (⟨"PaintEditor$Text", "beginningFrom", "(I)I"⟩, prog_11_method_8_code, 3, (Option.some FieldType.int), 3, 62)
abbrev m_T_beginningAhead : pe_Y := (⟨"PaintEditor$Text", "beginningAhead", "(I)I"⟩, prog_11_method_9_code, 3, (Option.some FieldType.int), 3, 62)
abbrev m_T_lineBeginning : pe_Y := (⟨"PaintEditor$Text", "lineBeginning", "(I)I"⟩, prog_11_method_10_code, 3, (Option.some FieldType.int), 1, 21)
abbrev m_T_lineEnd : pe_Y := (⟨"PaintEditor$Text", "lineEnd", "(I)I"⟩, prog_11_method_11_code, 3, (Option.some FieldType.int), 1, 21)
abbrev m_T_lineNumber : pe_Y := (⟨"PaintEditor$Text", "lineNumber", "(I)I"⟩, prog_11_method_12_code, 4, (Option.some FieldType.int), 1, 21)
abbrev m_T_clusterAt : pe_Y := (⟨"PaintEditor$Text", "clusterAt", "(I)I"⟩, prog_11_method_13_code, 6, (Option.some FieldType.int), 4, 84)
abbrev m_A_fill : pe_Y := (⟨"java/util/Arrays", "fill", "([II)V"⟩, prog_23_method_103_code, 4, (Option.none : Option FieldType), 0, 0)
/-! classes -/
theorem pe_k0 : (∀ w ∈ u_ws "PaintEditor" pe_T0 4, w ∈ pe_WS) ∧ (∀ k, k < 4 → parseFieldDescriptor (pe_T0 k).2.2.1 = some (pe_t0 k)) ∧ ∀ a, a < 4 → ∀ b, b < 4 → a ≠ b → (pe_T0 a).2.1 ≠ (pe_T0 b).2.1 := by
  refine ⟨?_, by decide +kernel, by decide +kernel⟩
  intro w hw
  obtain ⟨k, hk, rfl⟩ := List.mem_map.mp hw
  have hk := List.mem_range.mp hk
  rcases (show k = 0 ∨ k = 1 ∨ k = 2 ∨ k = 3 by omega) with rfl | rfl | rfl | rfl
  · exact pe_w2 (List.mem_of_getElem? (i := 103) (by decide +kernel))
  · exact pe_w2 (List.mem_of_getElem? (i := 105) (by decide +kernel))
  · exact pe_w2 (List.mem_of_getElem? (i := 107) (by decide +kernel))
  · exact pe_w2 (List.mem_of_getElem? (i := 109) (by decide +kernel))
theorem pe_k1 : (∀ w ∈ u_ws "PaintEditor$Keyboard" pe_T1 7, w ∈ pe_WS) ∧ (∀ k, k < 7 → parseFieldDescriptor (pe_T1 k).2.2.1 = some (pe_t1 k)) ∧ ∀ a, a < 7 → ∀ b, b < 7 → a ≠ b → (pe_T1 a).2.1 ≠ (pe_T1 b).2.1 := by
  refine ⟨?_, by decide +kernel, by decide +kernel⟩
  intro w hw
  obtain ⟨k, hk, rfl⟩ := List.mem_map.mp hw
  have hk := List.mem_range.mp hk
  rcases (show k = 0 ∨ k = 1 ∨ k = 2 ∨ k = 3 ∨ k = 4 ∨ k = 5 ∨ k = 6 by omega) with rfl | rfl | rfl | rfl | rfl | rfl | rfl
  · exact pe_w1 (List.mem_of_getElem? (i := 52) (by decide +kernel))
  · exact pe_w1 (List.mem_of_getElem? (i := 54) (by decide +kernel))
  · exact pe_w1 (List.mem_of_getElem? (i := 56) (by decide +kernel))
  · exact pe_w1 (List.mem_of_getElem? (i := 58) (by decide +kernel))
  · exact pe_w1 (List.mem_of_getElem? (i := 60) (by decide +kernel))
  · exact pe_w1 (List.mem_of_getElem? (i := 62) (by decide +kernel))
  · exact pe_w1 (List.mem_of_getElem? (i := 64) (by decide +kernel))
theorem pe_k2 : (∀ w ∈ u_ws "PaintEditor$Editor" pe_T2 12, w ∈ pe_WS) ∧ (∀ k, k < 12 → parseFieldDescriptor (pe_T2 k).2.2.1 = some (pe_t2 k)) ∧ ∀ a, a < 12 → ∀ b, b < 12 → a ≠ b → (pe_T2 a).2.1 ≠ (pe_T2 b).2.1 := by
  refine ⟨?_, by decide +kernel, by decide +kernel⟩
  intro w hw
  obtain ⟨k, hk, rfl⟩ := List.mem_map.mp hw
  have hk := List.mem_range.mp hk
  rcases (show k = 0 ∨ k = 1 ∨ k = 2 ∨ k = 3 ∨ k = 4 ∨ k = 5 ∨ k = 6 ∨ k = 7 ∨ k = 8 ∨ k = 9 ∨ k = 10 ∨ k = 11 by omega) with rfl | rfl | rfl | rfl | rfl | rfl | rfl | rfl | rfl | rfl | rfl | rfl
  · exact pe_w1 (List.mem_of_getElem? (i := 167) (by decide +kernel))
  · exact pe_w1 (List.mem_of_getElem? (i := 169) (by decide +kernel))
  · exact pe_w1 (List.mem_of_getElem? (i := 171) (by decide +kernel))
  · exact pe_w1 (List.mem_of_getElem? (i := 173) (by decide +kernel))
  · exact pe_w1 (List.mem_of_getElem? (i := 175) (by decide +kernel))
  · exact pe_w1 (List.mem_of_getElem? (i := 177) (by decide +kernel))
  · exact pe_w1 (List.mem_of_getElem? (i := 179) (by decide +kernel))
  · exact pe_w1 (List.mem_of_getElem? (i := 181) (by decide +kernel))
  · exact pe_w1 (List.mem_of_getElem? (i := 183) (by decide +kernel))
  · exact pe_w1 (List.mem_of_getElem? (i := 185) (by decide +kernel))
  · exact pe_w1 (List.mem_of_getElem? (i := 187) (by decide +kernel))
  · exact pe_w1 (List.mem_of_getElem? (i := 189) (by decide +kernel))
theorem pe_k3 : (∀ w ∈ u_ws "PaintEditor$Text" pe_T3 2, w ∈ pe_WS) ∧ (∀ k, k < 2 → parseFieldDescriptor (pe_T3 k).2.2.1 = some (pe_t3 k)) ∧ ∀ a, a < 2 → ∀ b, b < 2 → a ≠ b → (pe_T3 a).2.1 ≠ (pe_T3 b).2.1 := by
  refine ⟨?_, by decide +kernel, by decide +kernel⟩
  intro w hw
  obtain ⟨k, hk, rfl⟩ := List.mem_map.mp hw
  have hk := List.mem_range.mp hk
  rcases (show k = 0 ∨ k = 1 by omega) with rfl | rfl
  · exact pe_w1 (List.mem_of_getElem? (i := 84) (by decide +kernel))
  · exact pe_w1 (List.mem_of_getElem? (i := 86) (by decide +kernel))
theorem pe_k4 : (∀ w ∈ u_ws "PaintEditor$History" pe_T4 7, w ∈ pe_WS) ∧ (∀ k, k < 7 → parseFieldDescriptor (pe_T4 k).2.2.1 = some (pe_t4 k)) ∧ ∀ a, a < 7 → ∀ b, b < 7 → a ≠ b → (pe_T4 a).2.1 ≠ (pe_T4 b).2.1 := by
  refine ⟨?_, by decide +kernel, by decide +kernel⟩
  intro w hw
  obtain ⟨k, hk, rfl⟩ := List.mem_map.mp hw
  have hk := List.mem_range.mp hk
  rcases (show k = 0 ∨ k = 1 ∨ k = 2 ∨ k = 3 ∨ k = 4 ∨ k = 5 ∨ k = 6 by omega) with rfl | rfl | rfl | rfl | rfl | rfl | rfl
  · exact pe_w1 (List.mem_of_getElem? (i := 105) (by decide +kernel))
  · exact pe_w1 (List.mem_of_getElem? (i := 107) (by decide +kernel))
  · exact pe_w1 (List.mem_of_getElem? (i := 109) (by decide +kernel))
  · exact pe_w1 (List.mem_of_getElem? (i := 111) (by decide +kernel))
  · exact pe_w1 (List.mem_of_getElem? (i := 113) (by decide +kernel))
  · exact pe_w1 (List.mem_of_getElem? (i := 115) (by decide +kernel))
  · exact pe_w1 (List.mem_of_getElem? (i := 117) (by decide +kernel))
theorem pe_k5 : (∀ w ∈ u_ws "PaintEditor$Layout" pe_T5 3, w ∈ pe_WS) ∧ (∀ k, k < 3 → parseFieldDescriptor (pe_T5 k).2.2.1 = some (pe_t5 k)) ∧ ∀ a, a < 3 → ∀ b, b < 3 → a ≠ b → (pe_T5 a).2.1 ≠ (pe_T5 b).2.1 := by
  refine ⟨?_, by decide +kernel, by decide +kernel⟩
  intro w hw
  obtain ⟨k, hk, rfl⟩ := List.mem_map.mp hw
  have hk := List.mem_range.mp hk
  rcases (show k = 0 ∨ k = 1 ∨ k = 2 by omega) with rfl | rfl | rfl
  · exact pe_w1 (List.mem_of_getElem? (i := 135) (by decide +kernel))
  · exact pe_w1 (List.mem_of_getElem? (i := 137) (by decide +kernel))
  · exact pe_w1 (List.mem_of_getElem? (i := 139) (by decide +kernel))
theorem pe_k6 : (∀ w ∈ u_ws "PaintEditor$Screen" pe_T6 5, w ∈ pe_WS) ∧ (∀ k, k < 5 → parseFieldDescriptor (pe_T6 k).2.2.1 = some (pe_t6 k)) ∧ ∀ a, a < 5 → ∀ b, b < 5 → a ≠ b → (pe_T6 a).2.1 ≠ (pe_T6 b).2.1 := by
  refine ⟨?_, by decide +kernel, by decide +kernel⟩
  intro w hw
  obtain ⟨k, hk, rfl⟩ := List.mem_map.mp hw
  have hk := List.mem_range.mp hk
  rcases (show k = 0 ∨ k = 1 ∨ k = 2 ∨ k = 3 ∨ k = 4 by omega) with rfl | rfl | rfl | rfl | rfl
  · exact pe_w2 (List.mem_of_getElem? (i := 27) (by decide +kernel))
  · exact pe_w2 (List.mem_of_getElem? (i := 29) (by decide +kernel))
  · exact pe_w2 (List.mem_of_getElem? (i := 31) (by decide +kernel))
  · exact pe_w2 (List.mem_of_getElem? (i := 33) (by decide +kernel))
  · exact pe_w2 (List.mem_of_getElem? (i := 35) (by decide +kernel))
theorem pe_k7 : (∀ w ∈ u_ws "PaintEditor$Grid" pe_T7 4, w ∈ pe_WS) ∧ (∀ k, k < 4 → parseFieldDescriptor (pe_T7 k).2.2.1 = some (pe_t7 k)) ∧ ∀ a, a < 4 → ∀ b, b < 4 → a ≠ b → (pe_T7 a).2.1 ≠ (pe_T7 b).2.1 := by
  refine ⟨?_, by decide +kernel, by decide +kernel⟩
  intro w hw
  obtain ⟨k, hk, rfl⟩ := List.mem_map.mp hw
  have hk := List.mem_range.mp hk
  rcases (show k = 0 ∨ k = 1 ∨ k = 2 ∨ k = 3 by omega) with rfl | rfl | rfl | rfl
  · exact pe_w2 (List.mem_of_getElem? (i := 9) (by decide +kernel))
  · exact pe_w2 (List.mem_of_getElem? (i := 11) (by decide +kernel))
  · exact pe_w2 (List.mem_of_getElem? (i := 13) (by decide +kernel))
  · exact pe_w2 (List.mem_of_getElem? (i := 15) (by decide +kernel))
theorem pe_k8 : (∀ w ∈ u_ws "java/lang/StringBuilder" pe_T8 4, w ∈ pe_WS) ∧ (∀ k, k < 4 → parseFieldDescriptor (pe_T8 k).2.2.1 = some (pe_t8 k)) ∧ ∀ a, a < 4 → ∀ b, b < 4 → a ≠ b → (pe_T8 a).2.1 ≠ (pe_T8 b).2.1 := by
  refine ⟨?_, by decide +kernel, by decide +kernel⟩
  intro w hw
  obtain ⟨k, hk, rfl⟩ := List.mem_map.mp hw
  have hk := List.mem_range.mp hk
  rcases (show k = 0 ∨ k = 1 ∨ k = 2 ∨ k = 3 by omega) with rfl | rfl | rfl | rfl
  · exact pe_w1 (List.mem_of_getElem? (i := 220) (by decide +kernel))
  · exact pe_w1 (List.mem_of_getElem? (i := 222) (by decide +kernel))
  · exact pe_w1 (List.mem_of_getElem? (i := 224) (by decide +kernel))
  · exact pe_w1 (List.mem_of_getElem? (i := 226) (by decide +kernel))
theorem pe_k9 : (∀ w ∈ u_ws "PaintEditor$Painter" pe_T9 3, w ∈ pe_WS) ∧ (∀ k, k < 3 → parseFieldDescriptor (pe_T9 k).2.2.1 = some (pe_t9 k)) ∧ ∀ a, a < 3 → ∀ b, b < 3 → a ≠ b → (pe_T9 a).2.1 ≠ (pe_T9 b).2.1 := by
  refine ⟨?_, by decide +kernel, by decide +kernel⟩
  intro w hw
  obtain ⟨k, hk, rfl⟩ := List.mem_map.mp hw
  have hk := List.mem_range.mp hk
  rcases (show k = 0 ∨ k = 1 ∨ k = 2 by omega) with rfl | rfl | rfl
  · exact pe_w2 (List.mem_of_getElem? (i := 92) (by decide +kernel))
  · exact pe_w2 (List.mem_of_getElem? (i := 94) (by decide +kernel))
  · exact pe_w2 (List.mem_of_getElem? (i := 96) (by decide +kernel))
theorem pe_k10 : (∀ w ∈ u_ws "PaintEditor$Terminal" pe_T10 8, w ∈ pe_WS) ∧ (∀ k, k < 8 → parseFieldDescriptor (pe_T10 k).2.2.1 = some (pe_t10 k)) ∧ ∀ a, a < 8 → ∀ b, b < 8 → a ≠ b → (pe_T10 a).2.1 ≠ (pe_T10 b).2.1 := by
  refine ⟨?_, by decide +kernel, by decide +kernel⟩
  intro w hw
  obtain ⟨k, hk, rfl⟩ := List.mem_map.mp hw
  have hk := List.mem_range.mp hk
  rcases (show k = 0 ∨ k = 1 ∨ k = 2 ∨ k = 3 ∨ k = 4 ∨ k = 5 ∨ k = 6 ∨ k = 7 by omega) with rfl | rfl | rfl | rfl | rfl | rfl | rfl | rfl
  · exact pe_w2 (List.mem_of_getElem? (i := 70) (by decide +kernel))
  · exact pe_w2 (List.mem_of_getElem? (i := 72) (by decide +kernel))
  · exact pe_w2 (List.mem_of_getElem? (i := 74) (by decide +kernel))
  · exact pe_w2 (List.mem_of_getElem? (i := 76) (by decide +kernel))
  · exact pe_w2 (List.mem_of_getElem? (i := 78) (by decide +kernel))
  · exact pe_w2 (List.mem_of_getElem? (i := 80) (by decide +kernel))
  · exact pe_w2 (List.mem_of_getElem? (i := 82) (by decide +kernel))
  · exact pe_w2 (List.mem_of_getElem? (i := 84) (by decide +kernel))
theorem pe_k11 : (∀ w ∈ u_ws "PaintEditorModel" pe_T11 44, w ∈ pe_WS) ∧ (∀ k, k < 44 → parseFieldDescriptor (pe_T11 k).2.2.1 = some (pe_t11 k)) ∧ ∀ a, a < 44 → ∀ b, b < 44 → a ≠ b → (pe_T11 a).2.1 ≠ (pe_T11 b).2.1 := by
  refine ⟨?_, by decide +kernel, by decide +kernel⟩
  intro w hw
  obtain ⟨k, hk, rfl⟩ := List.mem_map.mp hw
  have hk := List.mem_range.mp hk
  rcases (show k = 0 ∨ k = 1 ∨ k = 2 ∨ k = 3 ∨ k = 4 ∨ k = 5 ∨ k = 6 ∨ k = 7 ∨ k = 8 ∨ k = 9 ∨ k = 10 ∨ k = 11 ∨ k = 12 ∨ k = 13 ∨ k = 14 ∨ k = 15 ∨ k = 16 ∨ k = 17 ∨ k = 18 ∨ k = 19 ∨ k = 20 ∨ k = 21 ∨ k = 22 ∨ k = 23 ∨ k = 24 ∨ k = 25 ∨ k = 26 ∨ k = 27 ∨ k = 28 ∨ k = 29 ∨ k = 30 ∨ k = 31 ∨ k = 32 ∨ k = 33 ∨ k = 34 ∨ k = 35 ∨ k = 36 ∨ k = 37 ∨ k = 38 ∨ k = 39 ∨ k = 40 ∨ k = 41 ∨ k = 42 ∨ k = 43 by omega) with rfl | rfl | rfl | rfl | rfl | rfl | rfl | rfl | rfl | rfl | rfl | rfl | rfl | rfl | rfl | rfl | rfl | rfl | rfl | rfl | rfl | rfl | rfl | rfl | rfl | rfl | rfl | rfl | rfl | rfl | rfl | rfl | rfl | rfl | rfl | rfl | rfl | rfl | rfl | rfl | rfl | rfl | rfl | rfl
  · exact pe_w5 (List.mem_of_getElem? (i := 32) (by decide +kernel))
  · exact pe_w5 (List.mem_of_getElem? (i := 34) (by decide +kernel))
  · exact pe_w5 (List.mem_of_getElem? (i := 36) (by decide +kernel))
  · exact pe_w5 (List.mem_of_getElem? (i := 38) (by decide +kernel))
  · exact pe_w5 (List.mem_of_getElem? (i := 40) (by decide +kernel))
  · exact pe_w5 (List.mem_of_getElem? (i := 42) (by decide +kernel))
  · exact pe_w5 (List.mem_of_getElem? (i := 44) (by decide +kernel))
  · exact pe_w5 (List.mem_of_getElem? (i := 46) (by decide +kernel))
  · exact pe_w5 (List.mem_of_getElem? (i := 48) (by decide +kernel))
  · exact pe_w5 (List.mem_of_getElem? (i := 50) (by decide +kernel))
  · exact pe_w5 (List.mem_of_getElem? (i := 52) (by decide +kernel))
  · exact pe_w5 (List.mem_of_getElem? (i := 54) (by decide +kernel))
  · exact pe_w5 (List.mem_of_getElem? (i := 56) (by decide +kernel))
  · exact pe_w5 (List.mem_of_getElem? (i := 58) (by decide +kernel))
  · exact pe_w5 (List.mem_of_getElem? (i := 60) (by decide +kernel))
  · exact pe_w5 (List.mem_of_getElem? (i := 62) (by decide +kernel))
  · exact pe_w5 (List.mem_of_getElem? (i := 64) (by decide +kernel))
  · exact pe_w5 (List.mem_of_getElem? (i := 66) (by decide +kernel))
  · exact pe_w5 (List.mem_of_getElem? (i := 68) (by decide +kernel))
  · exact pe_w5 (List.mem_of_getElem? (i := 70) (by decide +kernel))
  · exact pe_w5 (List.mem_of_getElem? (i := 72) (by decide +kernel))
  · exact pe_w5 (List.mem_of_getElem? (i := 74) (by decide +kernel))
  · exact pe_w5 (List.mem_of_getElem? (i := 76) (by decide +kernel))
  · exact pe_w5 (List.mem_of_getElem? (i := 78) (by decide +kernel))
  · exact pe_w5 (List.mem_of_getElem? (i := 80) (by decide +kernel))
  · exact pe_w5 (List.mem_of_getElem? (i := 82) (by decide +kernel))
  · exact pe_w5 (List.mem_of_getElem? (i := 84) (by decide +kernel))
  · exact pe_w5 (List.mem_of_getElem? (i := 86) (by decide +kernel))
  · exact pe_w5 (List.mem_of_getElem? (i := 88) (by decide +kernel))
  · exact pe_w5 (List.mem_of_getElem? (i := 90) (by decide +kernel))
  · exact pe_w5 (List.mem_of_getElem? (i := 92) (by decide +kernel))
  · exact pe_w5 (List.mem_of_getElem? (i := 94) (by decide +kernel))
  · exact pe_w5 (List.mem_of_getElem? (i := 96) (by decide +kernel))
  · exact pe_w5 (List.mem_of_getElem? (i := 98) (by decide +kernel))
  · exact pe_w5 (List.mem_of_getElem? (i := 100) (by decide +kernel))
  · exact pe_w5 (List.mem_of_getElem? (i := 102) (by decide +kernel))
  · exact pe_w5 (List.mem_of_getElem? (i := 104) (by decide +kernel))
  · exact pe_w5 (List.mem_of_getElem? (i := 106) (by decide +kernel))
  · exact pe_w5 (List.mem_of_getElem? (i := 108) (by decide +kernel))
  · exact pe_w5 (List.mem_of_getElem? (i := 110) (by decide +kernel))
  · exact pe_w5 (List.mem_of_getElem? (i := 112) (by decide +kernel))
  · exact pe_w5 (List.mem_of_getElem? (i := 114) (by decide +kernel))
  · exact pe_w5 (List.mem_of_getElem? (i := 116) (by decide +kernel))
  · exact pe_w5 (List.mem_of_getElem? (i := 118) (by decide +kernel))
/-! fields that are linked: f_<class>_<pool entry> -/
theorem f_K_11 : pe_FL "PaintEditor$Keyboard" 11 1 0 7 := ⟨"PaintEditor$Keyboard", pe_T1, pe_t1, rfl, by decide, pe_k1.1, rfl, pe_k1.2.1, pe_k1.2.2, pe_w1 (List.mem_of_getElem? (i := 44) (by decide +kernel))⟩
theorem f_P_151 : pe_FL "PaintEditor" 151 1 0 7 := ⟨"PaintEditor$Keyboard", pe_T1, pe_t1, rfl, by decide, pe_k1.1, rfl, pe_k1.2.1, pe_k1.2.2, pe_w1 (List.mem_of_getElem? (i := 45) (by decide +kernel))⟩
theorem f_K_27 : pe_FL "PaintEditor$Keyboard" 27 1 1 7 := ⟨"PaintEditor$Keyboard", pe_T1, pe_t1, rfl, by decide, pe_k1.1, rfl, pe_k1.2.1, pe_k1.2.2, pe_w1 (List.mem_of_getElem? (i := 46) (by decide +kernel))⟩
theorem f_K_59 : pe_FL "PaintEditor$Keyboard" 59 1 2 7 := ⟨"PaintEditor$Keyboard", pe_T1, pe_t1, rfl, by decide, pe_k1.1, rfl, pe_k1.2.1, pe_k1.2.2, pe_w1 (List.mem_of_getElem? (i := 47) (by decide +kernel))⟩
theorem f_K_56 : pe_FL "PaintEditor$Keyboard" 56 1 3 7 := ⟨"PaintEditor$Keyboard", pe_T1, pe_t1, rfl, by decide, pe_k1.1, rfl, pe_k1.2.1, pe_k1.2.2, pe_w1 (List.mem_of_getElem? (i := 48) (by decide +kernel))⟩
theorem f_K_46 : pe_FL "PaintEditor$Keyboard" 46 1 4 7 := ⟨"PaintEditor$Keyboard", pe_T1, pe_t1, rfl, by decide, pe_k1.1, rfl, pe_k1.2.1, pe_k1.2.2, pe_w1 (List.mem_of_getElem? (i := 49) (by decide +kernel))⟩
theorem f_K_49 : pe_FL "PaintEditor$Keyboard" 49 1 5 7 := ⟨"PaintEditor$Keyboard", pe_T1, pe_t1, rfl, by decide, pe_k1.1, rfl, pe_k1.2.1, pe_k1.2.2, pe_w1 (List.mem_of_getElem? (i := 50) (by decide +kernel))⟩
theorem f_K_15 : pe_FL "PaintEditor$Keyboard" 15 1 6 7 := ⟨"PaintEditor$Keyboard", pe_T1, pe_t1, rfl, by decide, pe_k1.1, rfl, pe_k1.2.1, pe_k1.2.2, pe_w1 (List.mem_of_getElem? (i := 51) (by decide +kernel))⟩
theorem f_T_9 : pe_FL "PaintEditor$Text" 9 3 0 2 := ⟨"PaintEditor$Text", pe_T3, pe_t3, rfl, by decide, pe_k3.1, rfl, pe_k3.2.1, pe_k3.2.2, pe_w1 (List.mem_of_getElem? (i := 79) (by decide +kernel))⟩
theorem f_T_15 : pe_FL "PaintEditor$Text" 15 3 1 2 := ⟨"PaintEditor$Text", pe_T3, pe_t3, rfl, by decide, pe_k3.1, rfl, pe_k3.2.1, pe_k3.2.2, pe_w1 (List.mem_of_getElem? (i := 80) (by decide +kernel))⟩
theorem f_L_21 : pe_FL "PaintEditor$Layout" 21 3 1 2 := ⟨"PaintEditor$Text", pe_T3, pe_t3, rfl, by decide, pe_k3.1, rfl, pe_k3.2.1, pe_k3.2.2, pe_w1 (List.mem_of_getElem? (i := 81) (by decide +kernel))⟩
theorem f_P_64 : pe_FL "PaintEditor" 64 3 1 2 := ⟨"PaintEditor$Text", pe_T3, pe_t3, rfl, by decide, pe_k3.1, rfl, pe_k3.2.1, pe_k3.2.2, pe_w1 (List.mem_of_getElem? (i := 82) (by decide +kernel))⟩
theorem f_S_73 : pe_FL "PaintEditor$Screen" 73 3 1 2 := ⟨"PaintEditor$Text", pe_T3, pe_t3, rfl, by decide, pe_k3.1, rfl, pe_k3.2.1, pe_k3.2.2, pe_w1 (List.mem_of_getElem? (i := 83) (by decide +kernel))⟩
theorem f_H_9 : pe_FL "PaintEditor$History" 9 4 0 7 := ⟨"PaintEditor$History", pe_T4, pe_t4, rfl, by decide, pe_k4.1, rfl, pe_k4.2.1, pe_k4.2.2, pe_w1 (List.mem_of_getElem? (i := 96) (by decide +kernel))⟩
theorem f_H_15 : pe_FL "PaintEditor$History" 15 4 1 7 := ⟨"PaintEditor$History", pe_T4, pe_t4, rfl, by decide, pe_k4.1, rfl, pe_k4.2.1, pe_k4.2.2, pe_w1 (List.mem_of_getElem? (i := 97) (by decide +kernel))⟩
theorem f_H_18 : pe_FL "PaintEditor$History" 18 4 2 7 := ⟨"PaintEditor$History", pe_T4, pe_t4, rfl, by decide, pe_k4.1, rfl, pe_k4.2.1, pe_k4.2.2, pe_w1 (List.mem_of_getElem? (i := 98) (by decide +kernel))⟩
theorem f_H_21 : pe_FL "PaintEditor$History" 21 4 3 7 := ⟨"PaintEditor$History", pe_T4, pe_t4, rfl, by decide, pe_k4.1, rfl, pe_k4.2.1, pe_k4.2.2, pe_w1 (List.mem_of_getElem? (i := 99) (by decide +kernel))⟩
theorem f_H_25 : pe_FL "PaintEditor$History" 25 4 4 7 := ⟨"PaintEditor$History", pe_T4, pe_t4, rfl, by decide, pe_k4.1, rfl, pe_k4.2.1, pe_k4.2.2, pe_w1 (List.mem_of_getElem? (i := 100) (by decide +kernel))⟩
theorem f_H_42 : pe_FL "PaintEditor$History" 42 4 5 7 := ⟨"PaintEditor$History", pe_T4, pe_t4, rfl, by decide, pe_k4.1, rfl, pe_k4.2.1, pe_k4.2.2, pe_w1 (List.mem_of_getElem? (i := 101) (by decide +kernel))⟩
theorem f_H_38 : pe_FL "PaintEditor$History" 38 4 6 7 := ⟨"PaintEditor$History", pe_T4, pe_t4, rfl, by decide, pe_k4.1, rfl, pe_k4.2.1, pe_k4.2.2, pe_w1 (List.mem_of_getElem? (i := 102) (by decide +kernel))⟩
theorem f_S_121 : pe_FL "PaintEditor$Screen" 121 4 6 7 := ⟨"PaintEditor$History", pe_T4, pe_t4, rfl, by decide, pe_k4.1, rfl, pe_k4.2.1, pe_k4.2.2, pe_w1 (List.mem_of_getElem? (i := 103) (by decide +kernel))⟩
theorem f_P_140 : pe_FL "PaintEditor" 140 4 6 7 := ⟨"PaintEditor$History", pe_T4, pe_t4, rfl, by decide, pe_k4.1, rfl, pe_k4.2.1, pe_k4.2.2, pe_w1 (List.mem_of_getElem? (i := 104) (by decide +kernel))⟩
theorem f_L_9 : pe_FL "PaintEditor$Layout" 9 5 0 3 := ⟨"PaintEditor$Layout", pe_T5, pe_t5, rfl, by decide, pe_k5.1, rfl, pe_k5.2.1, pe_k5.2.2, pe_w1 (List.mem_of_getElem? (i := 127) (by decide +kernel))⟩
theorem f_S_59 : pe_FL "PaintEditor$Screen" 59 5 0 3 := ⟨"PaintEditor$Layout", pe_T5, pe_t5, rfl, by decide, pe_k5.1, rfl, pe_k5.2.1, pe_k5.2.2, pe_w1 (List.mem_of_getElem? (i := 128) (by decide +kernel))⟩
theorem f_E_152 : pe_FL "PaintEditor$Editor" 152 5 0 3 := ⟨"PaintEditor$Layout", pe_T5, pe_t5, rfl, by decide, pe_k5.1, rfl, pe_k5.2.1, pe_k5.2.2, pe_w1 (List.mem_of_getElem? (i := 129) (by decide +kernel))⟩
theorem f_L_15 : pe_FL "PaintEditor$Layout" 15 5 1 3 := ⟨"PaintEditor$Layout", pe_T5, pe_t5, rfl, by decide, pe_k5.1, rfl, pe_k5.2.1, pe_k5.2.2, pe_w1 (List.mem_of_getElem? (i := 130) (by decide +kernel))⟩
theorem f_S_70 : pe_FL "PaintEditor$Screen" 70 5 1 3 := ⟨"PaintEditor$Layout", pe_T5, pe_t5, rfl, by decide, pe_k5.1, rfl, pe_k5.2.1, pe_k5.2.2, pe_w1 (List.mem_of_getElem? (i := 131) (by decide +kernel))⟩
theorem f_E_149 : pe_FL "PaintEditor$Editor" 149 5 1 3 := ⟨"PaintEditor$Layout", pe_T5, pe_t5, rfl, by decide, pe_k5.1, rfl, pe_k5.2.1, pe_k5.2.2, pe_w1 (List.mem_of_getElem? (i := 132) (by decide +kernel))⟩
theorem f_L_18 : pe_FL "PaintEditor$Layout" 18 5 2 3 := ⟨"PaintEditor$Layout", pe_T5, pe_t5, rfl, by decide, pe_k5.1, rfl, pe_k5.2.1, pe_k5.2.2, pe_w1 (List.mem_of_getElem? (i := 133) (by decide +kernel))⟩
theorem f_S_101 : pe_FL "PaintEditor$Screen" 101 5 2 3 := ⟨"PaintEditor$Layout", pe_T5, pe_t5, rfl, by decide, pe_k5.1, rfl, pe_k5.2.1, pe_k5.2.2, pe_w1 (List.mem_of_getElem? (i := 134) (by decide +kernel))⟩
theorem f_E_12 : pe_FL "PaintEditor$Editor" 12 2 0 12 := ⟨"PaintEditor$Editor", pe_T2, pe_t2, rfl, by decide, pe_k2.1, rfl, pe_k2.2.1, pe_k2.2.2, pe_w1 (List.mem_of_getElem? (i := 142) (by decide +kernel))⟩
theorem f_S_49 : pe_FL "PaintEditor$Screen" 49 2 0 12 := ⟨"PaintEditor$Editor", pe_T2, pe_t2, rfl, by decide, pe_k2.1, rfl, pe_k2.2.1, pe_k2.2.2, pe_w1 (List.mem_of_getElem? (i := 143) (by decide +kernel))⟩
theorem f_P_60 : pe_FL "PaintEditor" 60 2 0 12 := ⟨"PaintEditor$Editor", pe_T2, pe_t2, rfl, by decide, pe_k2.1, rfl, pe_k2.2.1, pe_k2.2.2, pe_w1 (List.mem_of_getElem? (i := 144) (by decide +kernel))⟩
theorem f_E_21 : pe_FL "PaintEditor$Editor" 21 2 1 12 := ⟨"PaintEditor$Editor", pe_T2, pe_t2, rfl, by decide, pe_k2.1, rfl, pe_k2.2.1, pe_k2.2.2, pe_w1 (List.mem_of_getElem? (i := 145) (by decide +kernel))⟩
theorem f_S_117 : pe_FL "PaintEditor$Screen" 117 2 1 12 := ⟨"PaintEditor$Editor", pe_T2, pe_t2, rfl, by decide, pe_k2.1, rfl, pe_k2.2.1, pe_k2.2.2, pe_w1 (List.mem_of_getElem? (i := 146) (by decide +kernel))⟩
theorem f_P_136 : pe_FL "PaintEditor" 136 2 1 12 := ⟨"PaintEditor$Editor", pe_T2, pe_t2, rfl, by decide, pe_k2.1, rfl, pe_k2.2.1, pe_k2.2.2, pe_w1 (List.mem_of_getElem? (i := 147) (by decide +kernel))⟩
theorem f_E_28 : pe_FL "PaintEditor$Editor" 28 2 2 12 := ⟨"PaintEditor$Editor", pe_T2, pe_t2, rfl, by decide, pe_k2.1, rfl, pe_k2.2.1, pe_k2.2.2, pe_w1 (List.mem_of_getElem? (i := 148) (by decide +kernel))⟩
theorem f_S_43 : pe_FL "PaintEditor$Screen" 43 2 2 12 := ⟨"PaintEditor$Editor", pe_T2, pe_t2, rfl, by decide, pe_k2.1, rfl, pe_k2.2.1, pe_k2.2.2, pe_w1 (List.mem_of_getElem? (i := 149) (by decide +kernel))⟩
theorem f_E_32 : pe_FL "PaintEditor$Editor" 32 2 3 12 := ⟨"PaintEditor$Editor", pe_T2, pe_t2, rfl, by decide, pe_k2.1, rfl, pe_k2.2.1, pe_k2.2.2, pe_w1 (List.mem_of_getElem? (i := 150) (by decide +kernel))⟩
theorem f_E_36 : pe_FL "PaintEditor$Editor" 36 2 4 12 := ⟨"PaintEditor$Editor", pe_T2, pe_t2, rfl, by decide, pe_k2.1, rfl, pe_k2.2.1, pe_k2.2.2, pe_w1 (List.mem_of_getElem? (i := 151) (by decide +kernel))⟩
theorem f_E_102 : pe_FL "PaintEditor$Editor" 102 2 5 12 := ⟨"PaintEditor$Editor", pe_T2, pe_t2, rfl, by decide, pe_k2.1, rfl, pe_k2.2.1, pe_k2.2.2, pe_w1 (List.mem_of_getElem? (i := 152) (by decide +kernel))⟩
theorem f_P_133 : pe_FL "PaintEditor" 133 2 5 12 := ⟨"PaintEditor$Editor", pe_T2, pe_t2, rfl, by decide, pe_k2.1, rfl, pe_k2.2.1, pe_k2.2.2, pe_w1 (List.mem_of_getElem? (i := 153) (by decide +kernel))⟩
theorem f_E_50 : pe_FL "PaintEditor$Editor" 50 2 6 12 := ⟨"PaintEditor$Editor", pe_T2, pe_t2, rfl, by decide, pe_k2.1, rfl, pe_k2.2.1, pe_k2.2.2, pe_w1 (List.mem_of_getElem? (i := 154) (by decide +kernel))⟩
theorem f_P_74 : pe_FL "PaintEditor" 74 2 6 12 := ⟨"PaintEditor$Editor", pe_T2, pe_t2, rfl, by decide, pe_k2.1, rfl, pe_k2.2.1, pe_k2.2.2, pe_w1 (List.mem_of_getElem? (i := 155) (by decide +kernel))⟩
theorem f_S_63 : pe_FL "PaintEditor$Screen" 63 2 7 12 := ⟨"PaintEditor$Editor", pe_T2, pe_t2, rfl, by decide, pe_k2.1, rfl, pe_k2.2.1, pe_k2.2.2, pe_w1 (List.mem_of_getElem? (i := 156) (by decide +kernel))⟩
theorem f_E_78 : pe_FL "PaintEditor$Editor" 78 2 7 12 := ⟨"PaintEditor$Editor", pe_T2, pe_t2, rfl, by decide, pe_k2.1, rfl, pe_k2.2.1, pe_k2.2.2, pe_w1 (List.mem_of_getElem? (i := 157) (by decide +kernel))⟩
theorem f_P_127 : pe_FL "PaintEditor" 127 2 7 12 := ⟨"PaintEditor$Editor", pe_T2, pe_t2, rfl, by decide, pe_k2.1, rfl, pe_k2.2.1, pe_k2.2.2, pe_w1 (List.mem_of_getElem? (i := 158) (by decide +kernel))⟩
theorem f_E_39 : pe_FL "PaintEditor$Editor" 39 2 8 12 := ⟨"PaintEditor$Editor", pe_T2, pe_t2, rfl, by decide, pe_k2.1, rfl, pe_k2.2.1, pe_k2.2.2, pe_w1 (List.mem_of_getElem? (i := 159) (by decide +kernel))⟩
theorem f_P_130 : pe_FL "PaintEditor" 130 2 8 12 := ⟨"PaintEditor$Editor", pe_T2, pe_t2, rfl, by decide, pe_k2.1, rfl, pe_k2.2.1, pe_k2.2.2, pe_w1 (List.mem_of_getElem? (i := 160) (by decide +kernel))⟩
theorem f_E_43 : pe_FL "PaintEditor$Editor" 43 2 9 12 := ⟨"PaintEditor$Editor", pe_T2, pe_t2, rfl, by decide, pe_k2.1, rfl, pe_k2.2.1, pe_k2.2.2, pe_w1 (List.mem_of_getElem? (i := 161) (by decide +kernel))⟩
theorem f_P_145 : pe_FL "PaintEditor" 145 2 9 12 := ⟨"PaintEditor$Editor", pe_T2, pe_t2, rfl, by decide, pe_k2.1, rfl, pe_k2.2.1, pe_k2.2.2, pe_w1 (List.mem_of_getElem? (i := 162) (by decide +kernel))⟩
theorem f_E_55 : pe_FL "PaintEditor$Editor" 55 2 10 12 := ⟨"PaintEditor$Editor", pe_T2, pe_t2, rfl, by decide, pe_k2.1, rfl, pe_k2.2.1, pe_k2.2.2, pe_w1 (List.mem_of_getElem? (i := 163) (by decide +kernel))⟩
theorem f_P_154 : pe_FL "PaintEditor" 154 2 10 12 := ⟨"PaintEditor$Editor", pe_T2, pe_t2, rfl, by decide, pe_k2.1, rfl, pe_k2.2.1, pe_k2.2.2, pe_w1 (List.mem_of_getElem? (i := 164) (by decide +kernel))⟩
theorem f_E_46 : pe_FL "PaintEditor$Editor" 46 2 11 12 := ⟨"PaintEditor$Editor", pe_T2, pe_t2, rfl, by decide, pe_k2.1, rfl, pe_k2.2.1, pe_k2.2.2, pe_w1 (List.mem_of_getElem? (i := 165) (by decide +kernel))⟩
theorem f_P_77 : pe_FL "PaintEditor" 77 2 11 12 := ⟨"PaintEditor$Editor", pe_T2, pe_t2, rfl, by decide, pe_k2.1, rfl, pe_k2.2.1, pe_k2.2.2, pe_w1 (List.mem_of_getElem? (i := 166) (by decide +kernel))⟩
theorem f_G_9 : pe_FL "PaintEditor$Grid" 9 7 0 4 := ⟨"PaintEditor$Grid", pe_T7, pe_t7, rfl, by decide, pe_k7.1, rfl, pe_k7.2.1, pe_k7.2.2, pe_w1 (List.mem_of_getElem? (i := 239) (by decide +kernel))⟩
theorem f_G_15 : pe_FL "PaintEditor$Grid" 15 7 1 4 := ⟨"PaintEditor$Grid", pe_T7, pe_t7, rfl, by decide, pe_k7.1, rfl, pe_k7.2.1, pe_k7.2.2, pe_w2 (List.mem_of_getElem? (i := 0) (by decide +kernel))⟩
theorem f_G_18 : pe_FL "PaintEditor$Grid" 18 7 2 4 := ⟨"PaintEditor$Grid", pe_T7, pe_t7, rfl, by decide, pe_k7.1, rfl, pe_k7.2.1, pe_k7.2.2, pe_w2 (List.mem_of_getElem? (i := 1) (by decide +kernel))⟩
theorem f_S_37 : pe_FL "PaintEditor$Screen" 37 7 2 4 := ⟨"PaintEditor$Grid", pe_T7, pe_t7, rfl, by decide, pe_k7.1, rfl, pe_k7.2.1, pe_k7.2.2, pe_w2 (List.mem_of_getElem? (i := 2) (by decide +kernel))⟩
theorem f_Z_53 : pe_FL "PaintEditor$Terminal" 53 7 2 4 := ⟨"PaintEditor$Grid", pe_T7, pe_t7, rfl, by decide, pe_k7.1, rfl, pe_k7.2.1, pe_k7.2.2, pe_w2 (List.mem_of_getElem? (i := 3) (by decide +kernel))⟩
theorem f_Q_77 : pe_FL "PaintEditor$Painter" 77 7 2 4 := ⟨"PaintEditor$Grid", pe_T7, pe_t7, rfl, by decide, pe_k7.1, rfl, pe_k7.2.1, pe_k7.2.2, pe_w2 (List.mem_of_getElem? (i := 4) (by decide +kernel))⟩
theorem f_G_22 : pe_FL "PaintEditor$Grid" 22 7 3 4 := ⟨"PaintEditor$Grid", pe_T7, pe_t7, rfl, by decide, pe_k7.1, rfl, pe_k7.2.1, pe_k7.2.2, pe_w2 (List.mem_of_getElem? (i := 5) (by decide +kernel))⟩
theorem f_S_40 : pe_FL "PaintEditor$Screen" 40 7 3 4 := ⟨"PaintEditor$Grid", pe_T7, pe_t7, rfl, by decide, pe_k7.1, rfl, pe_k7.2.1, pe_k7.2.2, pe_w2 (List.mem_of_getElem? (i := 6) (by decide +kernel))⟩
theorem f_Z_37 : pe_FL "PaintEditor$Terminal" 37 7 3 4 := ⟨"PaintEditor$Grid", pe_T7, pe_t7, rfl, by decide, pe_k7.1, rfl, pe_k7.2.1, pe_k7.2.2, pe_w2 (List.mem_of_getElem? (i := 7) (by decide +kernel))⟩
theorem f_P_105 : pe_FL "PaintEditor" 105 7 3 4 := ⟨"PaintEditor$Grid", pe_T7, pe_t7, rfl, by decide, pe_k7.1, rfl, pe_k7.2.1, pe_k7.2.2, pe_w2 (List.mem_of_getElem? (i := 8) (by decide +kernel))⟩
theorem f_S_23 : pe_FL "PaintEditor$Screen" 23 6 0 5 := ⟨"PaintEditor$Screen", pe_T6, pe_t6, rfl, by decide, pe_k6.1, rfl, pe_k6.2.1, pe_k6.2.2, pe_w2 (List.mem_of_getElem? (i := 18) (by decide +kernel))⟩
theorem f_P_81 : pe_FL "PaintEditor" 81 6 0 5 := ⟨"PaintEditor$Screen", pe_T6, pe_t6, rfl, by decide, pe_k6.1, rfl, pe_k6.2.1, pe_k6.2.2, pe_w2 (List.mem_of_getElem? (i := 19) (by decide +kernel))⟩
theorem f_S_12 : pe_FL "PaintEditor$Screen" 12 6 1 5 := ⟨"PaintEditor$Screen", pe_T6, pe_t6, rfl, by decide, pe_k6.1, rfl, pe_k6.2.1, pe_k6.2.2, pe_w2 (List.mem_of_getElem? (i := 20) (by decide +kernel))⟩
theorem f_S_86 : pe_FL "PaintEditor$Screen" 86 6 2 5 := ⟨"PaintEditor$Screen", pe_T6, pe_t6, rfl, by decide, pe_k6.1, rfl, pe_k6.2.1, pe_k6.2.2, pe_w2 (List.mem_of_getElem? (i := 21) (by decide +kernel))⟩
theorem f_P_148 : pe_FL "PaintEditor" 148 6 2 5 := ⟨"PaintEditor$Screen", pe_T6, pe_t6, rfl, by decide, pe_k6.1, rfl, pe_k6.2.1, pe_k6.2.2, pe_w2 (List.mem_of_getElem? (i := 22) (by decide +kernel))⟩
theorem f_S_30 : pe_FL "PaintEditor$Screen" 30 6 3 5 := ⟨"PaintEditor$Screen", pe_T6, pe_t6, rfl, by decide, pe_k6.1, rfl, pe_k6.2.1, pe_k6.2.2, pe_w2 (List.mem_of_getElem? (i := 23) (by decide +kernel))⟩
theorem f_P_112 : pe_FL "PaintEditor" 112 6 3 5 := ⟨"PaintEditor$Screen", pe_T6, pe_t6, rfl, by decide, pe_k6.1, rfl, pe_k6.2.1, pe_k6.2.2, pe_w2 (List.mem_of_getElem? (i := 24) (by decide +kernel))⟩
theorem f_S_34 : pe_FL "PaintEditor$Screen" 34 6 4 5 := ⟨"PaintEditor$Screen", pe_T6, pe_t6, rfl, by decide, pe_k6.1, rfl, pe_k6.2.1, pe_k6.2.2, pe_w2 (List.mem_of_getElem? (i := 25) (by decide +kernel))⟩
theorem f_P_115 : pe_FL "PaintEditor" 115 6 4 5 := ⟨"PaintEditor$Screen", pe_T6, pe_t6, rfl, by decide, pe_k6.1, rfl, pe_k6.2.1, pe_k6.2.2, pe_w2 (List.mem_of_getElem? (i := 26) (by decide +kernel))⟩
theorem f_Z_14 : pe_FL "PaintEditor$Terminal" 14 10 0 8 := ⟨"PaintEditor$Terminal", pe_T10, pe_t10, rfl, by decide, pe_k10.1, rfl, pe_k10.2.1, pe_k10.2.2, pe_w2 (List.mem_of_getElem? (i := 52) (by decide +kernel))⟩
theorem f_Q_73 : pe_FL "PaintEditor$Painter" 73 10 0 8 := ⟨"PaintEditor$Terminal", pe_T10, pe_t10, rfl, by decide, pe_k10.1, rfl, pe_k10.2.1, pe_k10.2.2, pe_w2 (List.mem_of_getElem? (i := 53) (by decide +kernel))⟩
theorem f_P_157 : pe_FL "PaintEditor" 157 10 0 8 := ⟨"PaintEditor$Terminal", pe_T10, pe_t10, rfl, by decide, pe_k10.1, rfl, pe_k10.2.1, pe_k10.2.2, pe_w2 (List.mem_of_getElem? (i := 54) (by decide +kernel))⟩
theorem f_Z_33 : pe_FL "PaintEditor$Terminal" 33 10 1 8 := ⟨"PaintEditor$Terminal", pe_T10, pe_t10, rfl, by decide, pe_k10.1, rfl, pe_k10.2.1, pe_k10.2.2, pe_w2 (List.mem_of_getElem? (i := 55) (by decide +kernel))⟩
theorem f_Q_113 : pe_FL "PaintEditor$Painter" 113 10 1 8 := ⟨"PaintEditor$Terminal", pe_T10, pe_t10, rfl, by decide, pe_k10.1, rfl, pe_k10.2.1, pe_k10.2.2, pe_w2 (List.mem_of_getElem? (i := 56) (by decide +kernel))⟩
theorem f_P_164 : pe_FL "PaintEditor" 164 10 1 8 := ⟨"PaintEditor$Terminal", pe_T10, pe_t10, rfl, by decide, pe_k10.1, rfl, pe_k10.2.1, pe_k10.2.2, pe_w2 (List.mem_of_getElem? (i := 57) (by decide +kernel))⟩
theorem f_Z_46 : pe_FL "PaintEditor$Terminal" 46 10 2 8 := ⟨"PaintEditor$Terminal", pe_T10, pe_t10, rfl, by decide, pe_k10.1, rfl, pe_k10.2.1, pe_k10.2.2, pe_w2 (List.mem_of_getElem? (i := 58) (by decide +kernel))⟩
theorem f_Q_116 : pe_FL "PaintEditor$Painter" 116 10 2 8 := ⟨"PaintEditor$Terminal", pe_T10, pe_t10, rfl, by decide, pe_k10.1, rfl, pe_k10.2.1, pe_k10.2.2, pe_w2 (List.mem_of_getElem? (i := 59) (by decide +kernel))⟩
theorem f_P_167 : pe_FL "PaintEditor" 167 10 2 8 := ⟨"PaintEditor$Terminal", pe_T10, pe_t10, rfl, by decide, pe_k10.1, rfl, pe_k10.2.1, pe_k10.2.2, pe_w2 (List.mem_of_getElem? (i := 60) (by decide +kernel))⟩
theorem f_Z_29 : pe_FL "PaintEditor$Terminal" 29 10 3 8 := ⟨"PaintEditor$Terminal", pe_T10, pe_t10, rfl, by decide, pe_k10.1, rfl, pe_k10.2.1, pe_k10.2.2, pe_w2 (List.mem_of_getElem? (i := 61) (by decide +kernel))⟩
theorem f_Q_119 : pe_FL "PaintEditor$Painter" 119 10 3 8 := ⟨"PaintEditor$Terminal", pe_T10, pe_t10, rfl, by decide, pe_k10.1, rfl, pe_k10.2.1, pe_k10.2.2, pe_w2 (List.mem_of_getElem? (i := 62) (by decide +kernel))⟩
theorem f_P_170 : pe_FL "PaintEditor" 170 10 3 8 := ⟨"PaintEditor$Terminal", pe_T10, pe_t10, rfl, by decide, pe_k10.1, rfl, pe_k10.2.1, pe_k10.2.2, pe_w2 (List.mem_of_getElem? (i := 63) (by decide +kernel))⟩
theorem f_Z_85 : pe_FL "PaintEditor$Terminal" 85 10 4 8 := ⟨"PaintEditor$Terminal", pe_T10, pe_t10, rfl, by decide, pe_k10.1, rfl, pe_k10.2.1, pe_k10.2.2, pe_w2 (List.mem_of_getElem? (i := 64) (by decide +kernel))⟩
theorem f_Q_101 : pe_FL "PaintEditor$Painter" 101 10 4 8 := ⟨"PaintEditor$Terminal", pe_T10, pe_t10, rfl, by decide, pe_k10.1, rfl, pe_k10.2.1, pe_k10.2.2, pe_w2 (List.mem_of_getElem? (i := 65) (by decide +kernel))⟩
theorem f_P_173 : pe_FL "PaintEditor" 173 10 4 8 := ⟨"PaintEditor$Terminal", pe_T10, pe_t10, rfl, by decide, pe_k10.1, rfl, pe_k10.2.1, pe_k10.2.2, pe_w2 (List.mem_of_getElem? (i := 66) (by decide +kernel))⟩
theorem f_Z_60 : pe_FL "PaintEditor$Terminal" 60 10 5 8 := ⟨"PaintEditor$Terminal", pe_T10, pe_t10, rfl, by decide, pe_k10.1, rfl, pe_k10.2.1, pe_k10.2.2, pe_w2 (List.mem_of_getElem? (i := 67) (by decide +kernel))⟩
theorem f_Z_63 : pe_FL "PaintEditor$Terminal" 63 10 6 8 := ⟨"PaintEditor$Terminal", pe_T10, pe_t10, rfl, by decide, pe_k10.1, rfl, pe_k10.2.1, pe_k10.2.2, pe_w2 (List.mem_of_getElem? (i := 68) (by decide +kernel))⟩
theorem f_Z_69 : pe_FL "PaintEditor$Terminal" 69 10 7 8 := ⟨"PaintEditor$Terminal", pe_T10, pe_t10, rfl, by decide, pe_k10.1, rfl, pe_k10.2.1, pe_k10.2.2, pe_w2 (List.mem_of_getElem? (i := 69) (by decide +kernel))⟩
theorem f_Q_20 : pe_FL "PaintEditor$Painter" 20 9 0 3 := ⟨"PaintEditor$Painter", pe_T9, pe_t9, rfl, by decide, pe_k9.1, rfl, pe_k9.2.1, pe_k9.2.2, pe_w2 (List.mem_of_getElem? (i := 87) (by decide +kernel))⟩
theorem f_P_90 : pe_FL "PaintEditor" 90 9 0 3 := ⟨"PaintEditor$Painter", pe_T9, pe_t9, rfl, by decide, pe_k9.1, rfl, pe_k9.2.1, pe_k9.2.2, pe_w2 (List.mem_of_getElem? (i := 88) (by decide +kernel))⟩
theorem f_Q_9 : pe_FL "PaintEditor$Painter" 9 9 1 3 := ⟨"PaintEditor$Painter", pe_T9, pe_t9, rfl, by decide, pe_k9.1, rfl, pe_k9.2.1, pe_k9.2.2, pe_w2 (List.mem_of_getElem? (i := 89) (by decide +kernel))⟩
theorem f_Q_24 : pe_FL "PaintEditor$Painter" 24 9 2 3 := ⟨"PaintEditor$Painter", pe_T9, pe_t9, rfl, by decide, pe_k9.1, rfl, pe_k9.2.1, pe_k9.2.2, pe_w2 (List.mem_of_getElem? (i := 90) (by decide +kernel))⟩
theorem f_P_121 : pe_FL "PaintEditor" 121 9 2 3 := ⟨"PaintEditor$Painter", pe_T9, pe_t9, rfl, by decide, pe_k9.1, rfl, pe_k9.2.1, pe_k9.2.2, pe_w2 (List.mem_of_getElem? (i := 91) (by decide +kernel))⟩
theorem f_P_21 : pe_FL "PaintEditor" 21 0 0 4 := ⟨"PaintEditor", pe_T0, pe_t0, rfl, by decide, pe_k0.1, rfl, pe_k0.2.1, pe_k0.2.2, pe_w2 (List.mem_of_getElem? (i := 99) (by decide +kernel))⟩
theorem f_P_30 : pe_FL "PaintEditor" 30 0 1 4 := ⟨"PaintEditor", pe_T0, pe_t0, rfl, by decide, pe_k0.1, rfl, pe_k0.2.1, pe_k0.2.2, pe_w2 (List.mem_of_getElem? (i := 100) (by decide +kernel))⟩
theorem f_P_39 : pe_FL "PaintEditor" 39 0 2 4 := ⟨"PaintEditor", pe_T0, pe_t0, rfl, by decide, pe_k0.1, rfl, pe_k0.2.1, pe_k0.2.2, pe_w2 (List.mem_of_getElem? (i := 101) (by decide +kernel))⟩
theorem f_P_46 : pe_FL "PaintEditor" 46 0 3 4 := ⟨"PaintEditor", pe_T0, pe_t0, rfl, by decide, pe_k0.1, rfl, pe_k0.2.1, pe_k0.2.2, pe_w2 (List.mem_of_getElem? (i := 102) (by decide +kernel))⟩
theorem f_M_7 : pe_FL "PaintEditorModel" 7 11 0 44 := ⟨"PaintEditorModel", pe_T11, pe_t11, rfl, by decide, pe_k11.1, rfl, pe_k11.2.1, pe_k11.2.2, pe_w4 (List.mem_of_getElem? (i := 228) (by decide +kernel))⟩
theorem f_M_87 : pe_FL "PaintEditorModel" 87 11 1 44 := ⟨"PaintEditorModel", pe_T11, pe_t11, rfl, by decide, pe_k11.1, rfl, pe_k11.2.1, pe_k11.2.2, pe_w4 (List.mem_of_getElem? (i := 229) (by decide +kernel))⟩
theorem f_M_117 : pe_FL "PaintEditorModel" 117 11 2 44 := ⟨"PaintEditorModel", pe_T11, pe_t11, rfl, by decide, pe_k11.1, rfl, pe_k11.2.1, pe_k11.2.2, pe_w4 (List.mem_of_getElem? (i := 230) (by decide +kernel))⟩
theorem f_M_13 : pe_FL "PaintEditorModel" 13 11 3 44 := ⟨"PaintEditorModel", pe_T11, pe_t11, rfl, by decide, pe_k11.1, rfl, pe_k11.2.1, pe_k11.2.2, pe_w4 (List.mem_of_getElem? (i := 231) (by decide +kernel))⟩
theorem f_M_17 : pe_FL "PaintEditorModel" 17 11 4 44 := ⟨"PaintEditorModel", pe_T11, pe_t11, rfl, by decide, pe_k11.1, rfl, pe_k11.2.1, pe_k11.2.2, pe_w4 (List.mem_of_getElem? (i := 232) (by decide +kernel))⟩
theorem f_M_132 : pe_FL "PaintEditorModel" 132 11 5 44 := ⟨"PaintEditorModel", pe_T11, pe_t11, rfl, by decide, pe_k11.1, rfl, pe_k11.2.1, pe_k11.2.2, pe_w4 (List.mem_of_getElem? (i := 233) (by decide +kernel))⟩
theorem f_M_20 : pe_FL "PaintEditorModel" 20 11 6 44 := ⟨"PaintEditorModel", pe_T11, pe_t11, rfl, by decide, pe_k11.1, rfl, pe_k11.2.1, pe_k11.2.2, pe_w4 (List.mem_of_getElem? (i := 234) (by decide +kernel))⟩
theorem f_M_111 : pe_FL "PaintEditorModel" 111 11 7 44 := ⟨"PaintEditorModel", pe_T11, pe_t11, rfl, by decide, pe_k11.1, rfl, pe_k11.2.1, pe_k11.2.2, pe_w4 (List.mem_of_getElem? (i := 235) (by decide +kernel))⟩
theorem f_M_23 : pe_FL "PaintEditorModel" 23 11 8 44 := ⟨"PaintEditorModel", pe_T11, pe_t11, rfl, by decide, pe_k11.1, rfl, pe_k11.2.1, pe_k11.2.2, pe_w4 (List.mem_of_getElem? (i := 236) (by decide +kernel))⟩
theorem f_M_26 : pe_FL "PaintEditorModel" 26 11 9 44 := ⟨"PaintEditorModel", pe_T11, pe_t11, rfl, by decide, pe_k11.1, rfl, pe_k11.2.1, pe_k11.2.2, pe_w4 (List.mem_of_getElem? (i := 237) (by decide +kernel))⟩
theorem f_M_29 : pe_FL "PaintEditorModel" 29 11 10 44 := ⟨"PaintEditorModel", pe_T11, pe_t11, rfl, by decide, pe_k11.1, rfl, pe_k11.2.1, pe_k11.2.2, pe_w4 (List.mem_of_getElem? (i := 238) (by decide +kernel))⟩
theorem f_M_32 : pe_FL "PaintEditorModel" 32 11 11 44 := ⟨"PaintEditorModel", pe_T11, pe_t11, rfl, by decide, pe_k11.1, rfl, pe_k11.2.1, pe_k11.2.2, pe_w4 (List.mem_of_getElem? (i := 239) (by decide +kernel))⟩
theorem f_M_35 : pe_FL "PaintEditorModel" 35 11 12 44 := ⟨"PaintEditorModel", pe_T11, pe_t11, rfl, by decide, pe_k11.1, rfl, pe_k11.2.1, pe_k11.2.2, pe_w5 (List.mem_of_getElem? (i := 0) (by decide +kernel))⟩
theorem f_M_181 : pe_FL "PaintEditorModel" 181 11 13 44 := ⟨"PaintEditorModel", pe_T11, pe_t11, rfl, by decide, pe_k11.1, rfl, pe_k11.2.1, pe_k11.2.2, pe_w5 (List.mem_of_getElem? (i := 1) (by decide +kernel))⟩
theorem f_M_168 : pe_FL "PaintEditorModel" 168 11 14 44 := ⟨"PaintEditorModel", pe_T11, pe_t11, rfl, by decide, pe_k11.1, rfl, pe_k11.2.1, pe_k11.2.2, pe_w5 (List.mem_of_getElem? (i := 2) (by decide +kernel))⟩
theorem f_M_184 : pe_FL "PaintEditorModel" 184 11 15 44 := ⟨"PaintEditorModel", pe_T11, pe_t11, rfl, by decide, pe_k11.1, rfl, pe_k11.2.1, pe_k11.2.2, pe_w5 (List.mem_of_getElem? (i := 3) (by decide +kernel))⟩
theorem f_M_187 : pe_FL "PaintEditorModel" 187 11 16 44 := ⟨"PaintEditorModel", pe_T11, pe_t11, rfl, by decide, pe_k11.1, rfl, pe_k11.2.1, pe_k11.2.2, pe_w5 (List.mem_of_getElem? (i := 4) (by decide +kernel))⟩
theorem f_M_190 : pe_FL "PaintEditorModel" 190 11 17 44 := ⟨"PaintEditorModel", pe_T11, pe_t11, rfl, by decide, pe_k11.1, rfl, pe_k11.2.1, pe_k11.2.2, pe_w5 (List.mem_of_getElem? (i := 5) (by decide +kernel))⟩
theorem f_M_193 : pe_FL "PaintEditorModel" 193 11 18 44 := ⟨"PaintEditorModel", pe_T11, pe_t11, rfl, by decide, pe_k11.1, rfl, pe_k11.2.1, pe_k11.2.2, pe_w5 (List.mem_of_getElem? (i := 6) (by decide +kernel))⟩
theorem f_M_147 : pe_FL "PaintEditorModel" 147 11 19 44 := ⟨"PaintEditorModel", pe_T11, pe_t11, rfl, by decide, pe_k11.1, rfl, pe_k11.2.1, pe_k11.2.2, pe_w5 (List.mem_of_getElem? (i := 7) (by decide +kernel))⟩
theorem f_M_38 : pe_FL "PaintEditorModel" 38 11 20 44 := ⟨"PaintEditorModel", pe_T11, pe_t11, rfl, by decide, pe_k11.1, rfl, pe_k11.2.1, pe_k11.2.2, pe_w5 (List.mem_of_getElem? (i := 8) (by decide +kernel))⟩
theorem f_M_78 : pe_FL "PaintEditorModel" 78 11 21 44 := ⟨"PaintEditorModel", pe_T11, pe_t11, rfl, by decide, pe_k11.1, rfl, pe_k11.2.1, pe_k11.2.2, pe_w5 (List.mem_of_getElem? (i := 9) (by decide +kernel))⟩
theorem f_M_81 : pe_FL "PaintEditorModel" 81 11 22 44 := ⟨"PaintEditorModel", pe_T11, pe_t11, rfl, by decide, pe_k11.1, rfl, pe_k11.2.1, pe_k11.2.2, pe_w5 (List.mem_of_getElem? (i := 10) (by decide +kernel))⟩
theorem f_M_41 : pe_FL "PaintEditorModel" 41 11 23 44 := ⟨"PaintEditorModel", pe_T11, pe_t11, rfl, by decide, pe_k11.1, rfl, pe_k11.2.1, pe_k11.2.2, pe_w5 (List.mem_of_getElem? (i := 11) (by decide +kernel))⟩
theorem f_M_44 : pe_FL "PaintEditorModel" 44 11 24 44 := ⟨"PaintEditorModel", pe_T11, pe_t11, rfl, by decide, pe_k11.1, rfl, pe_k11.2.1, pe_k11.2.2, pe_w5 (List.mem_of_getElem? (i := 12) (by decide +kernel))⟩
theorem f_M_47 : pe_FL "PaintEditorModel" 47 11 25 44 := ⟨"PaintEditorModel", pe_T11, pe_t11, rfl, by decide, pe_k11.1, rfl, pe_k11.2.1, pe_k11.2.2, pe_w5 (List.mem_of_getElem? (i := 13) (by decide +kernel))⟩
theorem f_M_104 : pe_FL "PaintEditorModel" 104 11 26 44 := ⟨"PaintEditorModel", pe_T11, pe_t11, rfl, by decide, pe_k11.1, rfl, pe_k11.2.1, pe_k11.2.2, pe_w5 (List.mem_of_getElem? (i := 14) (by decide +kernel))⟩
theorem f_M_222 : pe_FL "PaintEditorModel" 222 11 27 44 := ⟨"PaintEditorModel", pe_T11, pe_t11, rfl, by decide, pe_k11.1, rfl, pe_k11.2.1, pe_k11.2.2, pe_w5 (List.mem_of_getElem? (i := 15) (by decide +kernel))⟩
theorem f_M_50 : pe_FL "PaintEditorModel" 50 11 28 44 := ⟨"PaintEditorModel", pe_T11, pe_t11, rfl, by decide, pe_k11.1, rfl, pe_k11.2.1, pe_k11.2.2, pe_w5 (List.mem_of_getElem? (i := 16) (by decide +kernel))⟩
theorem f_M_53 : pe_FL "PaintEditorModel" 53 11 29 44 := ⟨"PaintEditorModel", pe_T11, pe_t11, rfl, by decide, pe_k11.1, rfl, pe_k11.2.1, pe_k11.2.2, pe_w5 (List.mem_of_getElem? (i := 17) (by decide +kernel))⟩
theorem f_M_234 : pe_FL "PaintEditorModel" 234 11 30 44 := ⟨"PaintEditorModel", pe_T11, pe_t11, rfl, by decide, pe_k11.1, rfl, pe_k11.2.1, pe_k11.2.2, pe_w5 (List.mem_of_getElem? (i := 18) (by decide +kernel))⟩
theorem f_M_237 : pe_FL "PaintEditorModel" 237 11 31 44 := ⟨"PaintEditorModel", pe_T11, pe_t11, rfl, by decide, pe_k11.1, rfl, pe_k11.2.1, pe_k11.2.2, pe_w5 (List.mem_of_getElem? (i := 19) (by decide +kernel))⟩
theorem f_M_56 : pe_FL "PaintEditorModel" 56 11 32 44 := ⟨"PaintEditorModel", pe_T11, pe_t11, rfl, by decide, pe_k11.1, rfl, pe_k11.2.1, pe_k11.2.2, pe_w5 (List.mem_of_getElem? (i := 20) (by decide +kernel))⟩
theorem f_M_59 : pe_FL "PaintEditorModel" 59 11 33 44 := ⟨"PaintEditorModel", pe_T11, pe_t11, rfl, by decide, pe_k11.1, rfl, pe_k11.2.1, pe_k11.2.2, pe_w5 (List.mem_of_getElem? (i := 21) (by decide +kernel))⟩
theorem f_M_62 : pe_FL "PaintEditorModel" 62 11 34 44 := ⟨"PaintEditorModel", pe_T11, pe_t11, rfl, by decide, pe_k11.1, rfl, pe_k11.2.1, pe_k11.2.2, pe_w5 (List.mem_of_getElem? (i := 22) (by decide +kernel))⟩
theorem f_M_65 : pe_FL "PaintEditorModel" 65 11 35 44 := ⟨"PaintEditorModel", pe_T11, pe_t11, rfl, by decide, pe_k11.1, rfl, pe_k11.2.1, pe_k11.2.2, pe_w5 (List.mem_of_getElem? (i := 23) (by decide +kernel))⟩
theorem f_M_263 : pe_FL "PaintEditorModel" 263 11 36 44 := ⟨"PaintEditorModel", pe_T11, pe_t11, rfl, by decide, pe_k11.1, rfl, pe_k11.2.1, pe_k11.2.2, pe_w5 (List.mem_of_getElem? (i := 24) (by decide +kernel))⟩
theorem f_M_266 : pe_FL "PaintEditorModel" 266 11 37 44 := ⟨"PaintEditorModel", pe_T11, pe_t11, rfl, by decide, pe_k11.1, rfl, pe_k11.2.1, pe_k11.2.2, pe_w5 (List.mem_of_getElem? (i := 25) (by decide +kernel))⟩
theorem f_M_260 : pe_FL "PaintEditorModel" 260 11 38 44 := ⟨"PaintEditorModel", pe_T11, pe_t11, rfl, by decide, pe_k11.1, rfl, pe_k11.2.1, pe_k11.2.2, pe_w5 (List.mem_of_getElem? (i := 26) (by decide +kernel))⟩
theorem f_M_272 : pe_FL "PaintEditorModel" 272 11 39 44 := ⟨"PaintEditorModel", pe_T11, pe_t11, rfl, by decide, pe_k11.1, rfl, pe_k11.2.1, pe_k11.2.2, pe_w5 (List.mem_of_getElem? (i := 27) (by decide +kernel))⟩
theorem f_M_68 : pe_FL "PaintEditorModel" 68 11 40 44 := ⟨"PaintEditorModel", pe_T11, pe_t11, rfl, by decide, pe_k11.1, rfl, pe_k11.2.1, pe_k11.2.2, pe_w5 (List.mem_of_getElem? (i := 28) (by decide +kernel))⟩
theorem f_M_71 : pe_FL "PaintEditorModel" 71 11 41 44 := ⟨"PaintEditorModel", pe_T11, pe_t11, rfl, by decide, pe_k11.1, rfl, pe_k11.2.1, pe_k11.2.2, pe_w5 (List.mem_of_getElem? (i := 29) (by decide +kernel))⟩
theorem f_M_75 : pe_FL "PaintEditorModel" 75 11 42 44 := ⟨"PaintEditorModel", pe_T11, pe_t11, rfl, by decide, pe_k11.1, rfl, pe_k11.2.1, pe_k11.2.2, pe_w5 (List.mem_of_getElem? (i := 30) (by decide +kernel))⟩
theorem f_M_250 : pe_FL "PaintEditorModel" 250 11 43 44 := ⟨"PaintEditorModel", pe_T11, pe_t11, rfl, by decide, pe_k11.1, rfl, pe_k11.2.1, pe_k11.2.2, pe_w5 (List.mem_of_getElem? (i := 31) (by decide +kernel))⟩
/-! fields that may be put: g_<class number>_<place> -/
theorem g_1_0 : pe_FP 1 0 .int := ⟨"PaintEditor$Keyboard", pe_T1, 7, rfl, rfl, by decide +kernel⟩
theorem g_1_1 : pe_FP 1 1 .int := ⟨"PaintEditor$Keyboard", pe_T1, 7, rfl, rfl, by decide +kernel⟩
theorem g_1_2 : pe_FP 1 2 .int := ⟨"PaintEditor$Keyboard", pe_T1, 7, rfl, rfl, by decide +kernel⟩
theorem g_1_3 : pe_FP 1 3 .int := ⟨"PaintEditor$Keyboard", pe_T1, 7, rfl, rfl, by decide +kernel⟩
theorem g_1_4 : pe_FP 1 4 .int := ⟨"PaintEditor$Keyboard", pe_T1, 7, rfl, rfl, by decide +kernel⟩
theorem g_1_5 : pe_FP 1 5 .int := ⟨"PaintEditor$Keyboard", pe_T1, 7, rfl, rfl, by decide +kernel⟩
theorem g_1_6 : pe_FP 1 6 .int := ⟨"PaintEditor$Keyboard", pe_T1, 7, rfl, rfl, by decide +kernel⟩
theorem g_2_5 : pe_FP 2 5 .int := ⟨"PaintEditor$Editor", pe_T2, 12, rfl, rfl, by decide +kernel⟩
theorem g_2_6 : pe_FP 2 6 .int := ⟨"PaintEditor$Editor", pe_T2, 12, rfl, rfl, by decide +kernel⟩
theorem g_2_7 : pe_FP 2 7 .int := ⟨"PaintEditor$Editor", pe_T2, 12, rfl, rfl, by decide +kernel⟩
theorem g_2_8 : pe_FP 2 8 .int := ⟨"PaintEditor$Editor", pe_T2, 12, rfl, rfl, by decide +kernel⟩
theorem g_2_9 : pe_FP 2 9 .int := ⟨"PaintEditor$Editor", pe_T2, 12, rfl, rfl, by decide +kernel⟩
theorem g_2_10 : pe_FP 2 10 .boolean := ⟨"PaintEditor$Editor", pe_T2, 12, rfl, rfl, by decide +kernel⟩
theorem g_2_11 : pe_FP 2 11 .boolean := ⟨"PaintEditor$Editor", pe_T2, 12, rfl, rfl, by decide +kernel⟩
theorem g_3_1 : pe_FP 3 1 .int := ⟨"PaintEditor$Text", pe_T3, 2, rfl, rfl, by decide +kernel⟩
theorem g_4_5 : pe_FP 4 5 .int := ⟨"PaintEditor$History", pe_T4, 7, rfl, rfl, by decide +kernel⟩
theorem g_4_6 : pe_FP 4 6 .int := ⟨"PaintEditor$History", pe_T4, 7, rfl, rfl, by decide +kernel⟩
theorem g_6_2 : pe_FP 6 2 .int := ⟨"PaintEditor$Screen", pe_T6, 5, rfl, rfl, by decide +kernel⟩
theorem g_6_3 : pe_FP 6 3 .int := ⟨"PaintEditor$Screen", pe_T6, 5, rfl, rfl, by decide +kernel⟩
theorem g_6_4 : pe_FP 6 4 .int := ⟨"PaintEditor$Screen", pe_T6, 5, rfl, rfl, by decide +kernel⟩
theorem g_7_2 : pe_FP 7 2 .int := ⟨"PaintEditor$Grid", pe_T7, 4, rfl, rfl, by decide +kernel⟩
theorem g_7_3 : pe_FP 7 3 .int := ⟨"PaintEditor$Grid", pe_T7, 4, rfl, rfl, by decide +kernel⟩
theorem g_9_2 : pe_FP 9 2 .int := ⟨"PaintEditor$Painter", pe_T9, 3, rfl, rfl, by decide +kernel⟩
theorem g_10_1 : pe_FP 10 1 .int := ⟨"PaintEditor$Terminal", pe_T10, 8, rfl, rfl, by decide +kernel⟩
theorem g_10_2 : pe_FP 10 2 .int := ⟨"PaintEditor$Terminal", pe_T10, 8, rfl, rfl, by decide +kernel⟩
theorem g_10_3 : pe_FP 10 3 .boolean := ⟨"PaintEditor$Terminal", pe_T10, 8, rfl, rfl, by decide +kernel⟩
theorem g_10_4 : pe_FP 10 4 .int := ⟨"PaintEditor$Terminal", pe_T10, 8, rfl, rfl, by decide +kernel⟩
theorem g_10_5 : pe_FP 10 5 .int := ⟨"PaintEditor$Terminal", pe_T10, 8, rfl, rfl, by decide +kernel⟩
theorem g_10_6 : pe_FP 10 6 .int := ⟨"PaintEditor$Terminal", pe_T10, 8, rfl, rfl, by decide +kernel⟩
theorem g_10_7 : pe_FP 10 7 .boolean := ⟨"PaintEditor$Terminal", pe_T10, 8, rfl, rfl, by decide +kernel⟩
theorem g_11_1 : pe_FP 11 1 .int := ⟨"PaintEditorModel", pe_T11, 44, rfl, rfl, by decide +kernel⟩
theorem g_11_2 : pe_FP 11 2 .int := ⟨"PaintEditorModel", pe_T11, 44, rfl, rfl, by decide +kernel⟩
theorem g_11_3 : pe_FP 11 3 .int := ⟨"PaintEditorModel", pe_T11, 44, rfl, rfl, by decide +kernel⟩
theorem g_11_5 : pe_FP 11 5 .int := ⟨"PaintEditorModel", pe_T11, 44, rfl, rfl, by decide +kernel⟩
theorem g_11_6 : pe_FP 11 6 .int := ⟨"PaintEditorModel", pe_T11, 44, rfl, rfl, by decide +kernel⟩
theorem g_11_7 : pe_FP 11 7 .int := ⟨"PaintEditorModel", pe_T11, 44, rfl, rfl, by decide +kernel⟩
theorem g_11_13 : pe_FP 11 13 .int := ⟨"PaintEditorModel", pe_T11, 44, rfl, rfl, by decide +kernel⟩
theorem g_11_14 : pe_FP 11 14 .int := ⟨"PaintEditorModel", pe_T11, 44, rfl, rfl, by decide +kernel⟩
theorem g_11_15 : pe_FP 11 15 .int := ⟨"PaintEditorModel", pe_T11, 44, rfl, rfl, by decide +kernel⟩
theorem g_11_16 : pe_FP 11 16 .int := ⟨"PaintEditorModel", pe_T11, 44, rfl, rfl, by decide +kernel⟩
theorem g_11_17 : pe_FP 11 17 .int := ⟨"PaintEditorModel", pe_T11, 44, rfl, rfl, by decide +kernel⟩
theorem g_11_18 : pe_FP 11 18 .int := ⟨"PaintEditorModel", pe_T11, 44, rfl, rfl, by decide +kernel⟩
theorem g_11_19 : pe_FP 11 19 .boolean := ⟨"PaintEditorModel", pe_T11, 44, rfl, rfl, by decide +kernel⟩
theorem g_11_20 : pe_FP 11 20 .int := ⟨"PaintEditorModel", pe_T11, 44, rfl, rfl, by decide +kernel⟩
theorem g_11_21 : pe_FP 11 21 .int := ⟨"PaintEditorModel", pe_T11, 44, rfl, rfl, by decide +kernel⟩
theorem g_11_22 : pe_FP 11 22 .int := ⟨"PaintEditorModel", pe_T11, 44, rfl, rfl, by decide +kernel⟩
theorem g_11_26 : pe_FP 11 26 .int := ⟨"PaintEditorModel", pe_T11, 44, rfl, rfl, by decide +kernel⟩
theorem g_11_27 : pe_FP 11 27 .int := ⟨"PaintEditorModel", pe_T11, 44, rfl, rfl, by decide +kernel⟩
theorem g_11_30 : pe_FP 11 30 .int := ⟨"PaintEditorModel", pe_T11, 44, rfl, rfl, by decide +kernel⟩
theorem g_11_31 : pe_FP 11 31 .int := ⟨"PaintEditorModel", pe_T11, 44, rfl, rfl, by decide +kernel⟩
theorem g_11_36 : pe_FP 11 36 .int := ⟨"PaintEditorModel", pe_T11, 44, rfl, rfl, by decide +kernel⟩
theorem g_11_37 : pe_FP 11 37 .int := ⟨"PaintEditorModel", pe_T11, 44, rfl, rfl, by decide +kernel⟩
theorem g_11_38 : pe_FP 11 38 .boolean := ⟨"PaintEditorModel", pe_T11, 44, rfl, rfl, by decide +kernel⟩
theorem g_11_39 : pe_FP 11 39 .int := ⟨"PaintEditorModel", pe_T11, 44, rfl, rfl, by decide +kernel⟩
theorem g_11_40 : pe_FP 11 40 .int := ⟨"PaintEditorModel", pe_T11, 44, rfl, rfl, by decide +kernel⟩
theorem g_11_41 : pe_FP 11 41 .boolean := ⟨"PaintEditorModel", pe_T11, 44, rfl, rfl, by decide +kernel⟩
theorem g_11_43 : pe_FP 11 43 .int := ⟨"PaintEditorModel", pe_T11, 44, rfl, rfl, by decide +kernel⟩
/-! calls that are linked: c_<class>_<pool entry>; what a callee is: i_, s_ (instance, selected) or z_ (static) -/
theorem c_G_25 : pe_CL "PaintEditor$Grid" 25 m_A_fill 2 := ⟨pe_w1 (List.mem_of_getElem? (i := 236) (by decide +kernel)), pe_w1 (List.mem_of_getElem? (i := 238) rfl), pe_w1 (List.mem_of_getElem? (i := 14) (by decide +kernel)), by decide, by decide, by decide +kernel⟩
theorem c_P_50 : pe_CL "PaintEditor" 50 m_K_leave 1 := ⟨pe_w2 (List.mem_of_getElem? (i := 116) (by decide +kernel)), pe_w2 (List.mem_of_getElem? (i := 119) rfl), pe_w1 (List.mem_of_getElem? (i := 3) (by decide +kernel)), by decide, by decide, by decide +kernel⟩
theorem c_K_18 : pe_CL "PaintEditor$Keyboard" 18 m_K_goesOn 1 := ⟨pe_w2 (List.mem_of_getElem? (i := 120) (by decide +kernel)), pe_w2 (List.mem_of_getElem? (i := 123) rfl), pe_w1 (List.mem_of_getElem? (i := 3) (by decide +kernel)), by decide, by decide, by decide +kernel⟩
theorem c_K_40 : pe_CL "PaintEditor$Keyboard" 40 m_K_isDigit 1 := ⟨pe_w2 (List.mem_of_getElem? (i := 124) (by decide +kernel)), pe_w2 (List.mem_of_getElem? (i := 126) rfl), pe_w1 (List.mem_of_getElem? (i := 3) (by decide +kernel)), by decide, by decide, by decide +kernel⟩
theorem c_K_43 : pe_CL "PaintEditor$Keyboard" 43 m_K_isFinal 1 := ⟨pe_w2 (List.mem_of_getElem? (i := 127) (by decide +kernel)), pe_w2 (List.mem_of_getElem? (i := 129) rfl), pe_w1 (List.mem_of_getElem? (i := 3) (by decide +kernel)), by decide, by decide, by decide +kernel⟩
theorem c_K_22 : pe_CL "PaintEditor$Keyboard" 22 m_K_giveUp 0 := ⟨pe_w2 (List.mem_of_getElem? (i := 130) (by decide +kernel)), pe_w2 (List.mem_of_getElem? (i := 133) rfl), pe_w1 (List.mem_of_getElem? (i := 3) (by decide +kernel)), by decide, by decide, by decide +kernel⟩
theorem c_P_54 : pe_CL "PaintEditor" 54 m_E_press 1 := ⟨pe_w2 (List.mem_of_getElem? (i := 135) (by decide +kernel)), pe_w2 (List.mem_of_getElem? (i := 138) rfl), pe_w1 (List.mem_of_getElem? (i := 4) (by decide +kernel)), by decide, by decide, by decide +kernel⟩
theorem c_E_58 : pe_CL "PaintEditor$Editor" 58 m_E_moveByRow 1 := ⟨pe_w2 (List.mem_of_getElem? (i := 141) (by decide +kernel)), pe_w2 (List.mem_of_getElem? (i := 144) rfl), pe_w1 (List.mem_of_getElem? (i := 4) (by decide +kernel)), by decide, by decide, by decide +kernel⟩
theorem c_E_145 : pe_CL "PaintEditor$Editor" 145 m_L_lay 2 := ⟨pe_w2 (List.mem_of_getElem? (i := 145) (by decide +kernel)), pe_w2 (List.mem_of_getElem? (i := 148) rfl), pe_w1 (List.mem_of_getElem? (i := 7) (by decide +kernel)), by decide, by decide, by decide +kernel⟩
theorem c_L_27 : pe_CL "PaintEditor$Layout" 27 m_T_isBeginning 1 := ⟨pe_w2 (List.mem_of_getElem? (i := 149) (by decide +kernel)), pe_w2 (List.mem_of_getElem? (i := 152) rfl), pe_w1 (List.mem_of_getElem? (i := 5) (by decide +kernel)), by decide, by decide, by decide +kernel⟩
theorem c_T_25 : pe_CL "PaintEditor$Text" 25 m_T_codeAt 1 := ⟨pe_w2 (List.mem_of_getElem? (i := 153) (by decide +kernel)), pe_w2 (List.mem_of_getElem? (i := 156) rfl), pe_w1 (List.mem_of_getElem? (i := 5) (by decide +kernel)), by decide, by decide, by decide +kernel⟩
theorem c_T_29 : pe_CL "PaintEditor$Text" 29 m_C_isMark 1 := ⟨pe_w2 (List.mem_of_getElem? (i := 157) (by decide +kernel)), pe_w2 (List.mem_of_getElem? (i := 159) rfl), pe_w1 (List.mem_of_getElem? (i := 18) (by decide +kernel)), by decide, by decide, by decide +kernel⟩
theorem c_T_35 : pe_CL "PaintEditor$Text" 35 m_C_takesMarks 1 := ⟨pe_w2 (List.mem_of_getElem? (i := 160) (by decide +kernel)), pe_w2 (List.mem_of_getElem? (i := 162) rfl), pe_w1 (List.mem_of_getElem? (i := 18) (by decide +kernel)), by decide, by decide, by decide +kernel⟩
theorem c_C_9 : pe_CL "PaintEditor$Codes" 9 m_C_isMark 1 := ⟨pe_w2 (List.mem_of_getElem? (i := 163) (by decide +kernel)), pe_w2 (List.mem_of_getElem? (i := 159) rfl), pe_w1 (List.mem_of_getElem? (i := 18) (by decide +kernel)), by decide, by decide, by decide +kernel⟩
theorem c_L_31 : pe_CL "PaintEditor$Layout" 31 m_T_codeAt 1 := ⟨pe_w2 (List.mem_of_getElem? (i := 164) (by decide +kernel)), pe_w2 (List.mem_of_getElem? (i := 156) rfl), pe_w1 (List.mem_of_getElem? (i := 5) (by decide +kernel)), by decide, by decide, by decide +kernel⟩
theorem c_L_35 : pe_CL "PaintEditor$Layout" 35 m_C_widthOf 1 := ⟨pe_w2 (List.mem_of_getElem? (i := 165) (by decide +kernel)), pe_w2 (List.mem_of_getElem? (i := 167) rfl), pe_w1 (List.mem_of_getElem? (i := 18) (by decide +kernel)), by decide, by decide, by decide +kernel⟩
theorem c_C_18 : pe_CL "PaintEditor$Codes" 18 m_C_isWide 1 := ⟨pe_w2 (List.mem_of_getElem? (i := 168) (by decide +kernel)), pe_w2 (List.mem_of_getElem? (i := 170) rfl), pe_w1 (List.mem_of_getElem? (i := 18) (by decide +kernel)), by decide, by decide, by decide +kernel⟩
theorem c_E_155 : pe_CL "PaintEditor$Editor" 155 m_L_placeIn 3 := ⟨pe_w2 (List.mem_of_getElem? (i := 175) (by decide +kernel)), pe_w2 (List.mem_of_getElem? (i := 178) rfl), pe_w1 (List.mem_of_getElem? (i := 7) (by decide +kernel)), by decide, by decide, by decide +kernel⟩
theorem c_E_62 : pe_CL "PaintEditor$Editor" 62 m_E_worksWhilePasting 1 := ⟨pe_w2 (List.mem_of_getElem? (i := 179) (by decide +kernel)), pe_w2 (List.mem_of_getElem? (i := 181) rfl), pe_w1 (List.mem_of_getElem? (i := 4) (by decide +kernel)), by decide, by decide, by decide +kernel⟩
theorem c_E_69 : pe_CL "PaintEditor$Editor" 69 m_E_isCharacter 1 := ⟨pe_w2 (List.mem_of_getElem? (i := 182) (by decide +kernel)), pe_w2 (List.mem_of_getElem? (i := 184) rfl), pe_w1 (List.mem_of_getElem? (i := 4) (by decide +kernel)), by decide, by decide, by decide +kernel⟩
theorem c_E_66 : pe_CL "PaintEditor$Editor" 66 m_E_worksOtherwise 1 := ⟨pe_w2 (List.mem_of_getElem? (i := 186) (by decide +kernel)), pe_w2 (List.mem_of_getElem? (i := 188) rfl), pe_w1 (List.mem_of_getElem? (i := 4) (by decide +kernel)), by decide, by decide, by decide +kernel⟩
theorem c_E_72 : pe_CL "PaintEditor$Editor" 72 m_E_insertOne 1 := ⟨pe_w2 (List.mem_of_getElem? (i := 189) (by decide +kernel)), pe_w2 (List.mem_of_getElem? (i := 192) rfl), pe_w1 (List.mem_of_getElem? (i := 4) (by decide +kernel)), by decide, by decide, by decide +kernel⟩
theorem c_E_105 : pe_CL "PaintEditor$Editor" 105 m_E_insert 2 := ⟨pe_w2 (List.mem_of_getElem? (i := 193) (by decide +kernel)), pe_w2 (List.mem_of_getElem? (i := 196) rfl), pe_w1 (List.mem_of_getElem? (i := 4) (by decide +kernel)), by decide, by decide, by decide +kernel⟩
theorem c_E_112 : pe_CL "PaintEditor$Editor" 112 m_T_hasRoomFor 1 := ⟨pe_w2 (List.mem_of_getElem? (i := 197) (by decide +kernel)), pe_w2 (List.mem_of_getElem? (i := 200) rfl), pe_w1 (List.mem_of_getElem? (i := 5) (by decide +kernel)), by decide, by decide, by decide +kernel⟩
theorem c_E_115 : pe_CL "PaintEditor$Editor" 115 m_H_keepInsertion 2 := ⟨pe_w2 (List.mem_of_getElem? (i := 201) (by decide +kernel)), pe_w2 (List.mem_of_getElem? (i := 204) rfl), pe_w1 (List.mem_of_getElem? (i := 6) (by decide +kernel)), by decide, by decide, by decide +kernel⟩
theorem c_H_28 : pe_CL "PaintEditor$History" 28 m_H_newSlot 0 := ⟨pe_w2 (List.mem_of_getElem? (i := 205) (by decide +kernel)), pe_w2 (List.mem_of_getElem? (i := 208) rfl), pe_w1 (List.mem_of_getElem? (i := 6) (by decide +kernel)), by decide, by decide, by decide +kernel⟩
theorem c_E_118 : pe_CL "PaintEditor$Editor" 118 m_T_insert 4 := ⟨pe_w2 (List.mem_of_getElem? (i := 209) (by decide +kernel)), pe_w2 (List.mem_of_getElem? (i := 212) rfl), pe_w1 (List.mem_of_getElem? (i := 5) (by decide +kernel)), by decide, by decide, by decide +kernel⟩
theorem c_E_75 : pe_CL "PaintEditor$Editor" 75 m_E_command 1 := ⟨pe_w2 (List.mem_of_getElem? (i := 216) (by decide +kernel)), pe_w2 (List.mem_of_getElem? (i := 219) rfl), pe_w1 (List.mem_of_getElem? (i := 4) (by decide +kernel)), by decide, by decide, by decide +kernel⟩
theorem c_E_86 : pe_CL "PaintEditor$Editor" 86 m_T_beginningAhead 1 := ⟨pe_w2 (List.mem_of_getElem? (i := 220) (by decide +kernel)), pe_w2 (List.mem_of_getElem? (i := 223) rfl), pe_w1 (List.mem_of_getElem? (i := 5) (by decide +kernel)), by decide, by decide, by decide +kernel⟩
theorem c_T_38 : pe_CL "PaintEditor$Text" 38 m_T_isBeginning 1 := ⟨pe_w2 (List.mem_of_getElem? (i := 224) (by decide +kernel)), pe_w2 (List.mem_of_getElem? (i := 152) rfl), pe_w1 (List.mem_of_getElem? (i := 5) (by decide +kernel)), by decide, by decide, by decide +kernel⟩
theorem c_E_89 : pe_CL "PaintEditor$Editor" 89 m_E_removeBetween 2 := ⟨pe_w2 (List.mem_of_getElem? (i := 226) (by decide +kernel)), pe_w2 (List.mem_of_getElem? (i := 229) rfl), pe_w1 (List.mem_of_getElem? (i := 4) (by decide +kernel)), by decide, by decide, by decide +kernel⟩
theorem c_E_121 : pe_CL "PaintEditor$Editor" 121 m_H_keepRemoval 4 := ⟨pe_w2 (List.mem_of_getElem? (i := 230) (by decide +kernel)), pe_w2 (List.mem_of_getElem? (i := 233) rfl), pe_w1 (List.mem_of_getElem? (i := 6) (by decide +kernel)), by decide, by decide, by decide +kernel⟩
theorem c_H_32 : pe_CL "PaintEditor$History" 32 m_T_copyTo 4 := ⟨pe_w2 (List.mem_of_getElem? (i := 234) (by decide +kernel)), pe_w2 (List.mem_of_getElem? (i := 237) rfl), pe_w1 (List.mem_of_getElem? (i := 5) (by decide +kernel)), by decide, by decide, by decide +kernel⟩
theorem c_E_125 : pe_CL "PaintEditor$Editor" 125 m_T_remove 2 := ⟨pe_w2 (List.mem_of_getElem? (i := 238) (by decide +kernel)), pe_w3 (List.mem_of_getElem? (i := 1) rfl), pe_w1 (List.mem_of_getElem? (i := 5) (by decide +kernel)), by decide, by decide, by decide +kernel⟩
theorem c_E_81 : pe_CL "PaintEditor$Editor" 81 m_T_beginningFrom 1 := ⟨pe_w3 (List.mem_of_getElem? (i := 2) (by decide +kernel)), pe_w3 (List.mem_of_getElem? (i := 5) rfl), pe_w1 (List.mem_of_getElem? (i := 5) (by decide +kernel)), by decide, by decide, by decide +kernel⟩
theorem c_E_93 : pe_CL "PaintEditor$Editor" 93 m_T_lineBeginning 1 := ⟨pe_w3 (List.mem_of_getElem? (i := 7) (by decide +kernel)), pe_w3 (List.mem_of_getElem? (i := 10) rfl), pe_w1 (List.mem_of_getElem? (i := 5) (by decide +kernel)), by decide, by decide, by decide +kernel⟩
theorem c_E_96 : pe_CL "PaintEditor$Editor" 96 m_T_lineEnd 1 := ⟨pe_w3 (List.mem_of_getElem? (i := 11) (by decide +kernel)), pe_w3 (List.mem_of_getElem? (i := 14) rfl), pe_w1 (List.mem_of_getElem? (i := 5) (by decide +kernel)), by decide, by decide, by decide +kernel⟩
theorem c_E_99 : pe_CL "PaintEditor$Editor" 99 m_E_cut 0 := ⟨pe_w3 (List.mem_of_getElem? (i := 15) (by decide +kernel)), pe_w3 (List.mem_of_getElem? (i := 18) rfl), pe_w1 (List.mem_of_getElem? (i := 4) (by decide +kernel)), by decide, by decide, by decide +kernel⟩
theorem c_E_137 : pe_CL "PaintEditor$Editor" 137 m_T_copyTo 4 := ⟨pe_w3 (List.mem_of_getElem? (i := 21) (by decide +kernel)), pe_w2 (List.mem_of_getElem? (i := 237) rfl), pe_w1 (List.mem_of_getElem? (i := 5) (by decide +kernel)), by decide, by decide, by decide +kernel⟩
theorem c_E_109 : pe_CL "PaintEditor$Editor" 109 m_E_undo 0 := ⟨pe_w3 (List.mem_of_getElem? (i := 22) (by decide +kernel)), pe_w3 (List.mem_of_getElem? (i := 25) rfl), pe_w1 (List.mem_of_getElem? (i := 4) (by decide +kernel)), by decide, by decide, by decide +kernel⟩
theorem c_E_141 : pe_CL "PaintEditor$Editor" 141 m_H_undoIn 1 := ⟨pe_w3 (List.mem_of_getElem? (i := 26) (by decide +kernel)), pe_w3 (List.mem_of_getElem? (i := 29) rfl), pe_w1 (List.mem_of_getElem? (i := 6) (by decide +kernel)), by decide, by decide, by decide +kernel⟩
theorem c_H_45 : pe_CL "PaintEditor$History" 45 m_T_insert 4 := ⟨pe_w3 (List.mem_of_getElem? (i := 30) (by decide +kernel)), pe_w2 (List.mem_of_getElem? (i := 212) rfl), pe_w1 (List.mem_of_getElem? (i := 5) (by decide +kernel)), by decide, by decide, by decide +kernel⟩
theorem c_H_49 : pe_CL "PaintEditor$History" 49 m_T_remove 2 := ⟨pe_w3 (List.mem_of_getElem? (i := 31) (by decide +kernel)), pe_w3 (List.mem_of_getElem? (i := 1) rfl), pe_w1 (List.mem_of_getElem? (i := 5) (by decide +kernel)), by decide, by decide, by decide +kernel⟩
theorem c_P_57 : pe_CL "PaintEditor" 57 m_K_take 1 := ⟨pe_w3 (List.mem_of_getElem? (i := 32) (by decide +kernel)), pe_w3 (List.mem_of_getElem? (i := 35) rfl), pe_w1 (List.mem_of_getElem? (i := 3) (by decide +kernel)), by decide, by decide, by decide +kernel⟩
theorem c_K_30 : pe_CL "PaintEditor$Keyboard" 30 m_K_takeInSequence 1 := ⟨pe_w3 (List.mem_of_getElem? (i := 36) (by decide +kernel)), pe_w3 (List.mem_of_getElem? (i := 39) rfl), pe_w1 (List.mem_of_getElem? (i := 3) (by decide +kernel)), by decide, by decide, by decide +kernel⟩
theorem c_K_74 : pe_CL "PaintEditor$Keyboard" 74 m_K_numberedKey 0 := ⟨pe_w3 (List.mem_of_getElem? (i := 47) (by decide +kernel)), pe_w3 (List.mem_of_getElem? (i := 50) rfl), pe_w1 (List.mem_of_getElem? (i := 3) (by decide +kernel)), by decide, by decide, by decide +kernel⟩
theorem c_K_34 : pe_CL "PaintEditor$Keyboard" 34 m_K_takeWithin 1 := ⟨pe_w3 (List.mem_of_getElem? (i := 54) (by decide +kernel)), pe_w3 (List.mem_of_getElem? (i := 57) rfl), pe_w1 (List.mem_of_getElem? (i := 3) (by decide +kernel)), by decide, by decide, by decide +kernel⟩
theorem c_K_37 : pe_CL "PaintEditor$Keyboard" 37 m_K_takePlain 1 := ⟨pe_w3 (List.mem_of_getElem? (i := 58) (by decide +kernel)), pe_w3 (List.mem_of_getElem? (i := 61) rfl), pe_w1 (List.mem_of_getElem? (i := 3) (by decide +kernel)), by decide, by decide, by decide +kernel⟩
theorem c_K_52 : pe_CL "PaintEditor$Keyboard" 52 m_K_beginCharacter 1 := ⟨pe_w3 (List.mem_of_getElem? (i := 62) (by decide +kernel)), pe_w3 (List.mem_of_getElem? (i := 65) rfl), pe_w1 (List.mem_of_getElem? (i := 3) (by decide +kernel)), by decide, by decide, by decide +kernel⟩
theorem c_P_70 : pe_CL "PaintEditor" 70 m_K_giveUp 0 := ⟨pe_w3 (List.mem_of_getElem? (i := 70) (by decide +kernel)), pe_w2 (List.mem_of_getElem? (i := 133) rfl), pe_w1 (List.mem_of_getElem? (i := 3) (by decide +kernel)), by decide, by decide, by decide +kernel⟩
theorem c_P_85 : pe_CL "PaintEditor" 85 m_G_resize 2 := ⟨pe_w3 (List.mem_of_getElem? (i := 75) (by decide +kernel)), pe_w3 (List.mem_of_getElem? (i := 78) rfl), pe_w1 (List.mem_of_getElem? (i := 13) (by decide +kernel)), by decide, by decide, by decide +kernel⟩
theorem c_G_56 : pe_CL "PaintEditor$Grid" 56 m_G_blankFrom 2 := ⟨pe_w3 (List.mem_of_getElem? (i := 79) (by decide +kernel)), pe_w3 (List.mem_of_getElem? (i := 82) rfl), pe_w1 (List.mem_of_getElem? (i := 13) (by decide +kernel)), by decide, by decide, by decide +kernel⟩
theorem c_G_52 : pe_CL "PaintEditor$Grid" 52 m_G_put 4 := ⟨pe_w3 (List.mem_of_getElem? (i := 83) (by decide +kernel)), pe_w3 (List.mem_of_getElem? (i := 86) rfl), pe_w1 (List.mem_of_getElem? (i := 13) (by decide +kernel)), by decide, by decide, by decide +kernel⟩
theorem c_G_31 : pe_CL "PaintEditor$Grid" 31 m_G_has 2 := ⟨pe_w3 (List.mem_of_getElem? (i := 87) (by decide +kernel)), pe_w3 (List.mem_of_getElem? (i := 90) rfl), pe_w1 (List.mem_of_getElem? (i := 13) (by decide +kernel)), by decide, by decide, by decide +kernel⟩
theorem c_G_60 : pe_CL "PaintEditor$Grid" 60 m_G_isWideAt 2 := ⟨pe_w3 (List.mem_of_getElem? (i := 91) (by decide +kernel)), pe_w3 (List.mem_of_getElem? (i := 94) rfl), pe_w1 (List.mem_of_getElem? (i := 13) (by decide +kernel)), by decide, by decide, by decide +kernel⟩
theorem c_G_35 : pe_CL "PaintEditor$Grid" 35 m_G_clusterAt 2 := ⟨pe_w3 (List.mem_of_getElem? (i := 95) (by decide +kernel)), pe_w3 (List.mem_of_getElem? (i := 98) rfl), pe_w1 (List.mem_of_getElem? (i := 13) (by decide +kernel)), by decide, by decide, by decide +kernel⟩
theorem c_G_42 : pe_CL "PaintEditor$Grid" 42 m_C_characterOf 1 := ⟨pe_w3 (List.mem_of_getElem? (i := 99) (by decide +kernel)), pe_w3 (List.mem_of_getElem? (i := 101) rfl), pe_w1 (List.mem_of_getElem? (i := 18) (by decide +kernel)), by decide, by decide, by decide +kernel⟩
theorem c_G_48 : pe_CL "PaintEditor$Grid" 48 m_C_isWide 1 := ⟨pe_w3 (List.mem_of_getElem? (i := 103) (by decide +kernel)), pe_w2 (List.mem_of_getElem? (i := 170) rfl), pe_w1 (List.mem_of_getElem? (i := 18) (by decide +kernel)), by decide, by decide, by decide +kernel⟩
theorem c_P_94 : pe_CL "PaintEditor" 94 m_Z_resize 2 := ⟨pe_w3 (List.mem_of_getElem? (i := 104) (by decide +kernel)), pe_w3 (List.mem_of_getElem? (i := 107) rfl), pe_w1 (List.mem_of_getElem? (i := 16) (by decide +kernel)), by decide, by decide, by decide +kernel⟩
theorem c_Z_97 : pe_CL "PaintEditor$Terminal" 97 m_G_resize 2 := ⟨pe_w3 (List.mem_of_getElem? (i := 108) (by decide +kernel)), pe_w3 (List.mem_of_getElem? (i := 78) rfl), pe_w1 (List.mem_of_getElem? (i := 13) (by decide +kernel)), by decide, by decide, by decide +kernel⟩
theorem c_Z_100 : pe_CL "PaintEditor$Terminal" 100 m_Z_moveTo 2 := ⟨pe_w3 (List.mem_of_getElem? (i := 109) (by decide +kernel)), pe_w3 (List.mem_of_getElem? (i := 112) rfl), pe_w1 (List.mem_of_getElem? (i := 16) (by decide +kernel)), by decide, by decide, by decide +kernel⟩
theorem c_Z_88 : pe_CL "PaintEditor$Terminal" 88 m_Z_endWriting 0 := ⟨pe_w3 (List.mem_of_getElem? (i := 113) (by decide +kernel)), pe_w3 (List.mem_of_getElem? (i := 116) rfl), pe_w1 (List.mem_of_getElem? (i := 16) (by decide +kernel)), by decide, by decide, by decide +kernel⟩
theorem c_P_97 : pe_CL "PaintEditor" 97 m_S_compose 1 := ⟨pe_w3 (List.mem_of_getElem? (i := 121) (by decide +kernel)), pe_w3 (List.mem_of_getElem? (i := 124) rfl), pe_w1 (List.mem_of_getElem? (i := 8) (by decide +kernel)), by decide, by decide, by decide +kernel⟩
theorem c_S_27 : pe_CL "PaintEditor$Screen" 27 m_G_blankAll 0 := ⟨pe_w3 (List.mem_of_getElem? (i := 125) (by decide +kernel)), pe_w3 (List.mem_of_getElem? (i := 128) rfl), pe_w1 (List.mem_of_getElem? (i := 13) (by decide +kernel)), by decide, by decide, by decide +kernel⟩
theorem c_S_53 : pe_CL "PaintEditor$Screen" 53 m_L_lay 2 := ⟨pe_w3 (List.mem_of_getElem? (i := 129) (by decide +kernel)), pe_w2 (List.mem_of_getElem? (i := 148) rfl), pe_w1 (List.mem_of_getElem? (i := 7) (by decide +kernel)), by decide, by decide, by decide +kernel⟩
theorem c_S_66 : pe_CL "PaintEditor$Screen" 66 m_S_follow 1 := ⟨pe_w3 (List.mem_of_getElem? (i := 130) (by decide +kernel)), pe_w3 (List.mem_of_getElem? (i := 133) rfl), pe_w1 (List.mem_of_getElem? (i := 8) (by decide +kernel)), by decide, by decide, by decide +kernel⟩
theorem c_S_78 : pe_CL "PaintEditor$Screen" 78 m_S_showCluster 2 := ⟨pe_w3 (List.mem_of_getElem? (i := 134) (by decide +kernel)), pe_w3 (List.mem_of_getElem? (i := 137) rfl), pe_w1 (List.mem_of_getElem? (i := 8) (by decide +kernel)), by decide, by decide, by decide +kernel⟩
theorem c_S_89 : pe_CL "PaintEditor$Screen" 89 m_E_isBetween 1 := ⟨pe_w3 (List.mem_of_getElem? (i := 138) (by decide +kernel)), pe_w3 (List.mem_of_getElem? (i := 141) rfl), pe_w1 (List.mem_of_getElem? (i := 4) (by decide +kernel)), by decide, by decide, by decide +kernel⟩
theorem c_S_93 : pe_CL "PaintEditor$Screen" 93 m_T_clusterAt 1 := ⟨pe_w3 (List.mem_of_getElem? (i := 142) (by decide +kernel)), pe_w3 (List.mem_of_getElem? (i := 145) rfl), pe_w1 (List.mem_of_getElem? (i := 5) (by decide +kernel)), by decide, by decide, by decide +kernel⟩
theorem c_T_50 : pe_CL "PaintEditor$Text" 50 m_T_beginningFrom 1 := ⟨pe_w3 (List.mem_of_getElem? (i := 146) (by decide +kernel)), pe_w3 (List.mem_of_getElem? (i := 5) rfl), pe_w1 (List.mem_of_getElem? (i := 5) (by decide +kernel)), by decide, by decide, by decide +kernel⟩
theorem c_T_53 : pe_CL "PaintEditor$Text" 53 m_C_withMark 2 := ⟨pe_w3 (List.mem_of_getElem? (i := 147) (by decide +kernel)), pe_w3 (List.mem_of_getElem? (i := 149) rfl), pe_w1 (List.mem_of_getElem? (i := 18) (by decide +kernel)), by decide, by decide, by decide +kernel⟩
theorem c_S_97 : pe_CL "PaintEditor$Screen" 97 m_G_put 4 := ⟨pe_w3 (List.mem_of_getElem? (i := 151) (by decide +kernel)), pe_w3 (List.mem_of_getElem? (i := 86) rfl), pe_w1 (List.mem_of_getElem? (i := 13) (by decide +kernel)), by decide, by decide, by decide +kernel⟩
theorem c_S_82 : pe_CL "PaintEditor$Screen" 82 m_S_showStatus 1 := ⟨pe_w3 (List.mem_of_getElem? (i := 152) (by decide +kernel)), pe_w3 (List.mem_of_getElem? (i := 155) rfl), pe_w1 (List.mem_of_getElem? (i := 8) (by decide +kernel)), by decide, by decide, by decide +kernel⟩
theorem c_S_107 : pe_CL "PaintEditor$Screen" 107 m_T_lineNumber 1 := ⟨pe_w3 (List.mem_of_getElem? (i := 210) (by decide +kernel)), pe_w3 (List.mem_of_getElem? (i := 213) rfl), pe_w1 (List.mem_of_getElem? (i := 5) (by decide +kernel)), by decide, by decide, by decide +kernel⟩
theorem c_P_101 : pe_CL "PaintEditor" 101 m_Q_begin 1 := ⟨pe_w4 (List.mem_of_getElem? (i := 82) (by decide +kernel)), pe_w4 (List.mem_of_getElem? (i := 85) rfl), pe_w1 (List.mem_of_getElem? (i := 15) (by decide +kernel)), by decide, by decide, by decide +kernel⟩
theorem c_Q_28 : pe_CL "PaintEditor$Painter" 28 m_Q_sendLook 1 := ⟨pe_w4 (List.mem_of_getElem? (i := 86) (by decide +kernel)), pe_w4 (List.mem_of_getElem? (i := 89) rfl), pe_w1 (List.mem_of_getElem? (i := 15) (by decide +kernel)), by decide, by decide, by decide +kernel⟩
theorem c_Q_32 : pe_CL "PaintEditor$Painter" 32 m_Q_sendSequence 3 := ⟨pe_w4 (List.mem_of_getElem? (i := 90) (by decide +kernel)), pe_w4 (List.mem_of_getElem? (i := 93) rfl), pe_w1 (List.mem_of_getElem? (i := 15) (by decide +kernel)), by decide, by decide, by decide +kernel⟩
theorem c_Q_126 : pe_CL "PaintEditor$Painter" 126 m_Q_put 1 := ⟨pe_w4 (List.mem_of_getElem? (i := 94) (by decide +kernel)), pe_w4 (List.mem_of_getElem? (i := 97) rfl), pe_w1 (List.mem_of_getElem? (i := 15) (by decide +kernel)), by decide, by decide, by decide +kernel⟩
theorem c_Q_129 : pe_CL "PaintEditor$Painter" 129 m_Q_putNumber 1 := ⟨pe_w4 (List.mem_of_getElem? (i := 98) (by decide +kernel)), pe_w4 (List.mem_of_getElem? (i := 101) rfl), pe_w1 (List.mem_of_getElem? (i := 15) (by decide +kernel)), by decide, by decide, by decide +kernel⟩
theorem c_Q_36 : pe_CL "PaintEditor$Painter" 36 m_Z_eraseAll 0 := ⟨pe_w4 (List.mem_of_getElem? (i := 102) (by decide +kernel)), pe_w4 (List.mem_of_getElem? (i := 105) rfl), pe_w1 (List.mem_of_getElem? (i := 16) (by decide +kernel)), by decide, by decide, by decide +kernel⟩
theorem c_Z_94 : pe_CL "PaintEditor$Terminal" 94 m_G_blankAll 0 := ⟨pe_w4 (List.mem_of_getElem? (i := 106) (by decide +kernel)), pe_w3 (List.mem_of_getElem? (i := 128) rfl), pe_w1 (List.mem_of_getElem? (i := 13) (by decide +kernel)), by decide, by decide, by decide +kernel⟩
theorem c_P_108 : pe_CL "PaintEditor" 108 m_Q_paintRow 2 := ⟨pe_w4 (List.mem_of_getElem? (i := 107) (by decide +kernel)), pe_w4 (List.mem_of_getElem? (i := 110) rfl), pe_w1 (List.mem_of_getElem? (i := 15) (by decide +kernel)), by decide, by decide, by decide +kernel⟩
theorem c_Q_39 : pe_CL "PaintEditor$Painter" 39 m_Q_firstDifference 2 := ⟨pe_w4 (List.mem_of_getElem? (i := 111) (by decide +kernel)), pe_w4 (List.mem_of_getElem? (i := 114) rfl), pe_w1 (List.mem_of_getElem? (i := 15) (by decide +kernel)), by decide, by decide, by decide +kernel⟩
theorem c_Q_80 : pe_CL "PaintEditor$Painter" 80 m_Q_differs 3 := ⟨pe_w4 (List.mem_of_getElem? (i := 115) (by decide +kernel)), pe_w4 (List.mem_of_getElem? (i := 118) rfl), pe_w1 (List.mem_of_getElem? (i := 15) (by decide +kernel)), by decide, by decide, by decide +kernel⟩
theorem c_Q_46 : pe_CL "PaintEditor$Painter" 46 m_G_clusterAt 2 := ⟨pe_w4 (List.mem_of_getElem? (i := 119) (by decide +kernel)), pe_w3 (List.mem_of_getElem? (i := 98) rfl), pe_w1 (List.mem_of_getElem? (i := 13) (by decide +kernel)), by decide, by decide, by decide +kernel⟩
theorem c_Q_60 : pe_CL "PaintEditor$Painter" 60 m_G_lookAt 2 := ⟨pe_w4 (List.mem_of_getElem? (i := 120) (by decide +kernel)), pe_w4 (List.mem_of_getElem? (i := 123) rfl), pe_w1 (List.mem_of_getElem? (i := 13) (by decide +kernel)), by decide, by decide, by decide +kernel⟩
theorem c_Q_43 : pe_CL "PaintEditor$Painter" 43 m_Q_lastDifference 2 := ⟨pe_w4 (List.mem_of_getElem? (i := 124) (by decide +kernel)), pe_w4 (List.mem_of_getElem? (i := 127) rfl), pe_w1 (List.mem_of_getElem? (i := 15) (by decide +kernel)), by decide, by decide, by decide +kernel⟩
theorem c_Q_52 : pe_CL "PaintEditor$Painter" 52 m_Q_blankBeginning 2 := ⟨pe_w4 (List.mem_of_getElem? (i := 128) (by decide +kernel)), pe_w4 (List.mem_of_getElem? (i := 130) rfl), pe_w1 (List.mem_of_getElem? (i := 15) (by decide +kernel)), by decide, by decide, by decide +kernel⟩
theorem c_Q_84 : pe_CL "PaintEditor$Painter" 84 m_G_isBlank 2 := ⟨pe_w4 (List.mem_of_getElem? (i := 131) (by decide +kernel)), pe_w4 (List.mem_of_getElem? (i := 134) rfl), pe_w1 (List.mem_of_getElem? (i := 13) (by decide +kernel)), by decide, by decide, by decide +kernel⟩
theorem c_G_39 : pe_CL "PaintEditor$Grid" 39 m_G_lookAt 2 := ⟨pe_w4 (List.mem_of_getElem? (i := 135) (by decide +kernel)), pe_w4 (List.mem_of_getElem? (i := 123) rfl), pe_w1 (List.mem_of_getElem? (i := 13) (by decide +kernel)), by decide, by decide, by decide +kernel⟩
theorem c_Q_63 : pe_CL "PaintEditor$Painter" 63 m_Q_sendCluster 4 := ⟨pe_w4 (List.mem_of_getElem? (i := 137) (by decide +kernel)), pe_w4 (List.mem_of_getElem? (i := 140) rfl), pe_w1 (List.mem_of_getElem? (i := 15) (by decide +kernel)), by decide, by decide, by decide +kernel⟩
theorem c_Q_88 : pe_CL "PaintEditor$Painter" 88 m_C_characterOf 1 := ⟨pe_w4 (List.mem_of_getElem? (i := 141) (by decide +kernel)), pe_w3 (List.mem_of_getElem? (i := 101) rfl), pe_w1 (List.mem_of_getElem? (i := 18) (by decide +kernel)), by decide, by decide, by decide +kernel⟩
theorem c_Q_94 : pe_CL "PaintEditor$Painter" 94 m_C_isMark 1 := ⟨pe_w4 (List.mem_of_getElem? (i := 142) (by decide +kernel)), pe_w2 (List.mem_of_getElem? (i := 159) rfl), pe_w1 (List.mem_of_getElem? (i := 18) (by decide +kernel)), by decide, by decide, by decide +kernel⟩
theorem c_Q_98 : pe_CL "PaintEditor$Painter" 98 m_Q_sendPlace 2 := ⟨pe_w4 (List.mem_of_getElem? (i := 143) (by decide +kernel)), pe_w4 (List.mem_of_getElem? (i := 146) rfl), pe_w1 (List.mem_of_getElem? (i := 15) (by decide +kernel)), by decide, by decide, by decide +kernel⟩
theorem c_Q_123 : pe_CL "PaintEditor$Painter" 123 m_Z_moveTo 2 := ⟨pe_w4 (List.mem_of_getElem? (i := 147) (by decide +kernel)), pe_w3 (List.mem_of_getElem? (i := 112) rfl), pe_w1 (List.mem_of_getElem? (i := 16) (by decide +kernel)), by decide, by decide, by decide +kernel⟩
theorem c_Q_67 : pe_CL "PaintEditor$Painter" 67 m_Q_makePlaceRight 2 := ⟨pe_w4 (List.mem_of_getElem? (i := 148) (by decide +kernel)), pe_w4 (List.mem_of_getElem? (i := 151) rfl), pe_w1 (List.mem_of_getElem? (i := 15) (by decide +kernel)), by decide, by decide, by decide +kernel⟩
theorem c_Q_104 : pe_CL "PaintEditor$Painter" 104 m_Q_sendCharacter 1 := ⟨pe_w4 (List.mem_of_getElem? (i := 152) (by decide +kernel)), pe_w4 (List.mem_of_getElem? (i := 155) rfl), pe_w1 (List.mem_of_getElem? (i := 15) (by decide +kernel)), by decide, by decide, by decide +kernel⟩
theorem c_Q_132 : pe_CL "PaintEditor$Painter" 132 m_Z_write 1 := ⟨pe_w4 (List.mem_of_getElem? (i := 156) (by decide +kernel)), pe_w4 (List.mem_of_getElem? (i := 159) rfl), pe_w1 (List.mem_of_getElem? (i := 16) (by decide +kernel)), by decide, by decide, by decide +kernel⟩
theorem c_Z_20 : pe_CL "PaintEditor$Terminal" 20 m_C_isMark 1 := ⟨pe_w4 (List.mem_of_getElem? (i := 160) (by decide +kernel)), pe_w2 (List.mem_of_getElem? (i := 159) rfl), pe_w1 (List.mem_of_getElem? (i := 18) (by decide +kernel)), by decide, by decide, by decide +kernel⟩
theorem c_Z_26 : pe_CL "PaintEditor$Terminal" 26 m_Z_joins 1 := ⟨pe_w4 (List.mem_of_getElem? (i := 161) (by decide +kernel)), pe_w4 (List.mem_of_getElem? (i := 164) rfl), pe_w1 (List.mem_of_getElem? (i := 16) (by decide +kernel)), by decide, by decide, by decide +kernel⟩
theorem c_Z_66 : pe_CL "PaintEditor$Terminal" 66 m_G_clusterAt 2 := ⟨pe_w4 (List.mem_of_getElem? (i := 165) (by decide +kernel)), pe_w3 (List.mem_of_getElem? (i := 98) rfl), pe_w1 (List.mem_of_getElem? (i := 13) (by decide +kernel)), by decide, by decide, by decide +kernel⟩
theorem c_Z_72 : pe_CL "PaintEditor$Terminal" 72 m_C_secondMarkOf 1 := ⟨pe_w4 (List.mem_of_getElem? (i := 166) (by decide +kernel)), pe_w4 (List.mem_of_getElem? (i := 168) rfl), pe_w1 (List.mem_of_getElem? (i := 18) (by decide +kernel)), by decide, by decide, by decide +kernel⟩
theorem c_Z_75 : pe_CL "PaintEditor$Terminal" 75 m_C_withMark 2 := ⟨pe_w4 (List.mem_of_getElem? (i := 169) (by decide +kernel)), pe_w3 (List.mem_of_getElem? (i := 149) rfl), pe_w1 (List.mem_of_getElem? (i := 18) (by decide +kernel)), by decide, by decide, by decide +kernel⟩
theorem c_Z_78 : pe_CL "PaintEditor$Terminal" 78 m_G_lookAt 2 := ⟨pe_w4 (List.mem_of_getElem? (i := 170) (by decide +kernel)), pe_w4 (List.mem_of_getElem? (i := 123) rfl), pe_w1 (List.mem_of_getElem? (i := 13) (by decide +kernel)), by decide, by decide, by decide +kernel⟩
theorem c_Z_81 : pe_CL "PaintEditor$Terminal" 81 m_G_put 4 := ⟨pe_w4 (List.mem_of_getElem? (i := 171) (by decide +kernel)), pe_w3 (List.mem_of_getElem? (i := 86) rfl), pe_w1 (List.mem_of_getElem? (i := 13) (by decide +kernel)), by decide, by decide, by decide +kernel⟩
theorem c_Z_49 : pe_CL "PaintEditor$Terminal" 49 m_C_widthOf 1 := ⟨pe_w4 (List.mem_of_getElem? (i := 173) (by decide +kernel)), pe_w2 (List.mem_of_getElem? (i := 167) rfl), pe_w1 (List.mem_of_getElem? (i := 18) (by decide +kernel)), by decide, by decide, by decide +kernel⟩
theorem c_Z_56 : pe_CL "PaintEditor$Terminal" 56 m_Z_writeCells 1 := ⟨pe_w4 (List.mem_of_getElem? (i := 174) (by decide +kernel)), pe_w4 (List.mem_of_getElem? (i := 177) rfl), pe_w1 (List.mem_of_getElem? (i := 16) (by decide +kernel)), by decide, by decide, by decide +kernel⟩
theorem c_Q_107 : pe_CL "PaintEditor$Painter" 107 m_C_firstMarkOf 1 := ⟨pe_w4 (List.mem_of_getElem? (i := 178) (by decide +kernel)), pe_w4 (List.mem_of_getElem? (i := 180) rfl), pe_w1 (List.mem_of_getElem? (i := 18) (by decide +kernel)), by decide, by decide, by decide +kernel⟩
theorem c_Q_110 : pe_CL "PaintEditor$Painter" 110 m_C_secondMarkOf 1 := ⟨pe_w4 (List.mem_of_getElem? (i := 181) (by decide +kernel)), pe_w4 (List.mem_of_getElem? (i := 168) rfl), pe_w1 (List.mem_of_getElem? (i := 18) (by decide +kernel)), by decide, by decide, by decide +kernel⟩
theorem c_Q_70 : pe_CL "PaintEditor$Painter" 70 m_Z_eraseRestOfRow 0 := ⟨pe_w4 (List.mem_of_getElem? (i := 182) (by decide +kernel)), pe_w4 (List.mem_of_getElem? (i := 185) rfl), pe_w1 (List.mem_of_getElem? (i := 16) (by decide +kernel)), by decide, by decide, by decide +kernel⟩
theorem c_Z_91 : pe_CL "PaintEditor$Terminal" 91 m_G_blankFrom 2 := ⟨pe_w4 (List.mem_of_getElem? (i := 186) (by decide +kernel)), pe_w3 (List.mem_of_getElem? (i := 82) rfl), pe_w1 (List.mem_of_getElem? (i := 13) (by decide +kernel)), by decide, by decide, by decide +kernel⟩
theorem c_P_118 : pe_CL "PaintEditor" 118 m_Q_makePlaceRight 2 := ⟨pe_w4 (List.mem_of_getElem? (i := 187) (by decide +kernel)), pe_w4 (List.mem_of_getElem? (i := 151) rfl), pe_w1 (List.mem_of_getElem? (i := 15) (by decide +kernel)), by decide, by decide, by decide +kernel⟩
theorem c_P_124 : pe_CL "PaintEditor" 124 m_T_codeAt 1 := ⟨pe_w4 (List.mem_of_getElem? (i := 192) (by decide +kernel)), pe_w2 (List.mem_of_getElem? (i := 156) rfl), pe_w1 (List.mem_of_getElem? (i := 5) (by decide +kernel)), by decide, by decide, by decide +kernel⟩
theorem c_P_158 : pe_CL "PaintEditor" 158 m_G_clusterAt 2 := ⟨pe_w4 (List.mem_of_getElem? (i := 201) (by decide +kernel)), pe_w3 (List.mem_of_getElem? (i := 98) rfl), pe_w1 (List.mem_of_getElem? (i := 13) (by decide +kernel)), by decide, by decide, by decide +kernel⟩
theorem c_P_161 : pe_CL "PaintEditor" 161 m_G_lookAt 2 := ⟨pe_w4 (List.mem_of_getElem? (i := 206) (by decide +kernel)), pe_w4 (List.mem_of_getElem? (i := 123) rfl), pe_w1 (List.mem_of_getElem? (i := 13) (by decide +kernel)), by decide, by decide, by decide +kernel⟩
theorem c_P_176 : pe_CL "PaintEditor" 176 m_Q_byteAt 1 := ⟨pe_w4 (List.mem_of_getElem? (i := 215) (by decide +kernel)), pe_w4 (List.mem_of_getElem? (i := 218) rfl), pe_w1 (List.mem_of_getElem? (i := 15) (by decide +kernel)), by decide, by decide, by decide +kernel⟩
theorem c_M_217 : pe_CL "PaintEditorModel" 217 m_M_take 1 := ⟨pe_w5 (List.mem_of_getElem? (i := 126) (by decide +kernel)), pe_w5 (List.mem_of_getElem? (i := 129) rfl), pe_w1 (List.mem_of_getElem? (i := 17) (by decide +kernel)), by decide, by decide, by decide +kernel⟩
theorem c_M_206 : pe_CL "PaintEditorModel" 206 m_M_within 2 := ⟨pe_w5 (List.mem_of_getElem? (i := 130) (by decide +kernel)), pe_w5 (List.mem_of_getElem? (i := 133) rfl), pe_w1 (List.mem_of_getElem? (i := 17) (by decide +kernel)), by decide, by decide, by decide +kernel⟩
theorem c_M_144 : pe_CL "PaintEditorModel" 144 m_M_character 1 := ⟨pe_w5 (List.mem_of_getElem? (i := 135) (by decide +kernel)), pe_w5 (List.mem_of_getElem? (i := 138) rfl), pe_w1 (List.mem_of_getElem? (i := 17) (by decide +kernel)), by decide, by decide, by decide +kernel⟩
theorem c_M_141 : pe_CL "PaintEditorModel" 141 m_M_insertOne 1 := ⟨pe_w5 (List.mem_of_getElem? (i := 139) (by decide +kernel)), pe_w5 (List.mem_of_getElem? (i := 142) rfl), pe_w1 (List.mem_of_getElem? (i := 17) (by decide +kernel)), by decide, by decide, by decide +kernel⟩
theorem c_M_120 : pe_CL "PaintEditorModel" 120 m_M_note 3 := ⟨pe_w5 (List.mem_of_getElem? (i := 143) (by decide +kernel)), pe_w5 (List.mem_of_getElem? (i := 146) rfl), pe_w1 (List.mem_of_getElem? (i := 17) (by decide +kernel)), by decide, by decide, by decide +kernel⟩
theorem c_M_114 : pe_CL "PaintEditorModel" 114 m_M_forgetFirst 0 := ⟨pe_w5 (List.mem_of_getElem? (i := 147) (by decide +kernel)), pe_w5 (List.mem_of_getElem? (i := 150) rfl), pe_w1 (List.mem_of_getElem? (i := 17) (by decide +kernel)), by decide, by decide, by decide +kernel⟩
theorem c_M_124 : pe_CL "PaintEditorModel" 124 m_M_open 2 := ⟨pe_w5 (List.mem_of_getElem? (i := 151) (by decide +kernel)), pe_w5 (List.mem_of_getElem? (i := 154) rfl), pe_w1 (List.mem_of_getElem? (i := 17) (by decide +kernel)), by decide, by decide, by decide +kernel⟩
theorem c_M_128 : pe_CL "PaintEditorModel" 128 m_M_settle 1 := ⟨pe_w5 (List.mem_of_getElem? (i := 155) (by decide +kernel)), pe_w5 (List.mem_of_getElem? (i := 158) rfl), pe_w1 (List.mem_of_getElem? (i := 17) (by decide +kernel)), by decide, by decide, by decide +kernel⟩
theorem c_M_94 : pe_CL "PaintEditorModel" 94 m_M_begins 1 := ⟨pe_w5 (List.mem_of_getElem? (i := 159) (by decide +kernel)), pe_w5 (List.mem_of_getElem? (i := 162) rfl), pe_w1 (List.mem_of_getElem? (i := 17) (by decide +kernel)), by decide, by decide, by decide +kernel⟩
theorem c_M_90 : pe_CL "PaintEditorModel" 90 m_M_isMark 1 := ⟨pe_w5 (List.mem_of_getElem? (i := 163) (by decide +kernel)), pe_w5 (List.mem_of_getElem? (i := 165) rfl), pe_w1 (List.mem_of_getElem? (i := 17) (by decide +kernel)), by decide, by decide, by decide +kernel⟩
theorem c_M_200 : pe_CL "PaintEditorModel" 200 m_M_plain 2 := ⟨pe_w5 (List.mem_of_getElem? (i := 166) (by decide +kernel)), pe_w5 (List.mem_of_getElem? (i := 169) rfl), pe_w1 (List.mem_of_getElem? (i := 17) (by decide +kernel)), by decide, by decide, by decide +kernel⟩
theorem c_M_197 : pe_CL "PaintEditorModel" 197 m_M_control 2 := ⟨pe_w5 (List.mem_of_getElem? (i := 170) (by decide +kernel)), pe_w5 (List.mem_of_getElem? (i := 173) rfl), pe_w1 (List.mem_of_getElem? (i := 17) (by decide +kernel)), by decide, by decide, by decide +kernel⟩
theorem c_M_150 : pe_CL "PaintEditorModel" 150 m_M_command 1 := ⟨pe_w5 (List.mem_of_getElem? (i := 174) (by decide +kernel)), pe_w5 (List.mem_of_getElem? (i := 177) rfl), pe_w1 (List.mem_of_getElem? (i := 17) (by decide +kernel)), by decide, by decide, by decide +kernel⟩
theorem c_M_153 : pe_CL "PaintEditorModel" 153 m_M_cutOut 0 := ⟨pe_w5 (List.mem_of_getElem? (i := 178) (by decide +kernel)), pe_w5 (List.mem_of_getElem? (i := 181) rfl), pe_w1 (List.mem_of_getElem? (i := 17) (by decide +kernel)), by decide, by decide, by decide +kernel⟩
theorem c_M_138 : pe_CL "PaintEditorModel" 138 m_M_takeAway 2 := ⟨pe_w5 (List.mem_of_getElem? (i := 182) (by decide +kernel)), pe_w5 (List.mem_of_getElem? (i := 185) rfl), pe_w1 (List.mem_of_getElem? (i := 17) (by decide +kernel)), by decide, by decide, by decide +kernel⟩
theorem c_M_135 : pe_CL "PaintEditorModel" 135 m_M_close 2 := ⟨pe_w5 (List.mem_of_getElem? (i := 186) (by decide +kernel)), pe_w5 (List.mem_of_getElem? (i := 189) rfl), pe_w1 (List.mem_of_getElem? (i := 17) (by decide +kernel)), by decide, by decide, by decide +kernel⟩
theorem c_M_156 : pe_CL "PaintEditorModel" 156 m_M_insertClip 0 := ⟨pe_w5 (List.mem_of_getElem? (i := 190) (by decide +kernel)), pe_w5 (List.mem_of_getElem? (i := 193) rfl), pe_w1 (List.mem_of_getElem? (i := 17) (by decide +kernel)), by decide, by decide, by decide +kernel⟩
theorem c_M_159 : pe_CL "PaintEditorModel" 159 m_M_undo 0 := ⟨pe_w5 (List.mem_of_getElem? (i := 194) (by decide +kernel)), pe_w5 (List.mem_of_getElem? (i := 197) rfl), pe_w1 (List.mem_of_getElem? (i := 17) (by decide +kernel)), by decide, by decide, by decide +kernel⟩
theorem c_M_162 : pe_CL "PaintEditorModel" 162 m_M_before 1 := ⟨pe_w5 (List.mem_of_getElem? (i := 198) (by decide +kernel)), pe_w5 (List.mem_of_getElem? (i := 201) rfl), pe_w1 (List.mem_of_getElem? (i := 17) (by decide +kernel)), by decide, by decide, by decide +kernel⟩
theorem c_M_209 : pe_CL "PaintEditorModel" 209 m_M_inSequence 2 := ⟨pe_w5 (List.mem_of_getElem? (i := 202) (by decide +kernel)), pe_w5 (List.mem_of_getElem? (i := 205) rfl), pe_w1 (List.mem_of_getElem? (i := 17) (by decide +kernel)), by decide, by decide, by decide +kernel⟩
theorem c_M_203 : pe_CL "PaintEditorModel" 203 m_M_finish 1 := ⟨pe_w5 (List.mem_of_getElem? (i := 206) (by decide +kernel)), pe_w5 (List.mem_of_getElem? (i := 209) rfl), pe_w1 (List.mem_of_getElem? (i := 17) (by decide +kernel)), by decide, by decide, by decide +kernel⟩
theorem c_M_171 : pe_CL "PaintEditorModel" 171 m_M_upOrDown 1 := ⟨pe_w5 (List.mem_of_getElem? (i := 210) (by decide +kernel)), pe_w5 (List.mem_of_getElem? (i := 213) rfl), pe_w1 (List.mem_of_getElem? (i := 17) (by decide +kernel)), by decide, by decide, by decide +kernel⟩
theorem c_M_165 : pe_CL "PaintEditorModel" 165 m_M_layOut 0 := ⟨pe_w5 (List.mem_of_getElem? (i := 214) (by decide +kernel)), pe_w5 (List.mem_of_getElem? (i := 217) rfl), pe_w1 (List.mem_of_getElem? (i := 17) (by decide +kernel)), by decide, by decide, by decide +kernel⟩
theorem c_M_100 : pe_CL "PaintEditorModel" 100 m_M_widthOf 2 := ⟨pe_w5 (List.mem_of_getElem? (i := 218) (by decide +kernel)), pe_w5 (List.mem_of_getElem? (i := 221) rfl), pe_w1 (List.mem_of_getElem? (i := 17) (by decide +kernel)), by decide, by decide, by decide +kernel⟩
theorem c_M_97 : pe_CL "PaintEditorModel" 97 m_M_isWide 1 := ⟨pe_w5 (List.mem_of_getElem? (i := 222) (by decide +kernel)), pe_w5 (List.mem_of_getElem? (i := 224) rfl), pe_w1 (List.mem_of_getElem? (i := 17) (by decide +kernel)), by decide, by decide, by decide +kernel⟩
theorem c_M_107 : pe_CL "PaintEditorModel" 107 m_M_after 1 := ⟨pe_w5 (List.mem_of_getElem? (i := 228) (by decide +kernel)), pe_w5 (List.mem_of_getElem? (i := 231) rfl), pe_w1 (List.mem_of_getElem? (i := 17) (by decide +kernel)), by decide, by decide, by decide +kernel⟩
theorem c_M_174 : pe_CL "PaintEditorModel" 174 m_M_lineBegin 0 := ⟨pe_w5 (List.mem_of_getElem? (i := 232) (by decide +kernel)), pe_w5 (List.mem_of_getElem? (i := 235) rfl), pe_w1 (List.mem_of_getElem? (i := 17) (by decide +kernel)), by decide, by decide, by decide +kernel⟩
theorem c_M_178 : pe_CL "PaintEditorModel" 178 m_M_lineEnd 0 := ⟨pe_w5 (List.mem_of_getElem? (i := 236) (by decide +kernel)), pe_w5 (List.mem_of_getElem? (i := 239) rfl), pe_w1 (List.mem_of_getElem? (i := 17) (by decide +kernel)), by decide, by decide, by decide +kernel⟩
theorem c_M_212 : pe_CL "PaintEditorModel" 212 m_M_escapeKey 0 := ⟨pe_w6 (List.mem_of_getElem? (i := 0) (by decide +kernel)), pe_w6 (List.mem_of_getElem? (i := 3) rfl), pe_w1 (List.mem_of_getElem? (i := 17) (by decide +kernel)), by decide, by decide, by decide +kernel⟩
theorem c_M_303 : pe_CL "PaintEditorModel" 303 m_M_compose 0 := ⟨pe_w6 (List.mem_of_getElem? (i := 12) (by decide +kernel)), pe_w6 (List.mem_of_getElem? (i := 15) rfl), pe_w1 (List.mem_of_getElem? (i := 17) (by decide +kernel)), by decide, by decide, by decide +kernel⟩
theorem c_M_240 : pe_CL "PaintEditorModel" 240 m_M_isSmall 0 := ⟨pe_w6 (List.mem_of_getElem? (i := 16) (by decide +kernel)), pe_w6 (List.mem_of_getElem? (i := 19) rfl), pe_w1 (List.mem_of_getElem? (i := 17) (by decide +kernel)), by decide, by decide, by decide +kernel⟩
theorem c_M_244 : pe_CL "PaintEditorModel" 244 m_M_fillText 0 := ⟨pe_w6 (List.mem_of_getElem? (i := 20) (by decide +kernel)), pe_w6 (List.mem_of_getElem? (i := 23) rfl), pe_w1 (List.mem_of_getElem? (i := 17) (by decide +kernel)), by decide, by decide, by decide +kernel⟩
theorem c_M_225 : pe_CL "PaintEditorModel" 225 m_M_clusterAt 1 := ⟨pe_w6 (List.mem_of_getElem? (i := 24) (by decide +kernel)), pe_w6 (List.mem_of_getElem? (i := 27) rfl), pe_w1 (List.mem_of_getElem? (i := 17) (by decide +kernel)), by decide, by decide, by decide +kernel⟩
theorem c_M_247 : pe_CL "PaintEditorModel" 247 m_M_fillStatus 0 := ⟨pe_w6 (List.mem_of_getElem? (i := 30) (by decide +kernel)), pe_w6 (List.mem_of_getElem? (i := 33) rfl), pe_w1 (List.mem_of_getElem? (i := 17) (by decide +kernel)), by decide, by decide, by decide +kernel⟩
theorem c_M_231 : pe_CL "PaintEditorModel" 231 m_M_statusNumber 2 := ⟨pe_w6 (List.mem_of_getElem? (i := 34) (by decide +kernel)), pe_w6 (List.mem_of_getElem? (i := 37) rfl), pe_w1 (List.mem_of_getElem? (i := 17) (by decide +kernel)), by decide, by decide, by decide +kernel⟩
theorem c_M_228 : pe_CL "PaintEditorModel" 228 m_M_status 2 := ⟨pe_w6 (List.mem_of_getElem? (i := 38) (by decide +kernel)), pe_w6 (List.mem_of_getElem? (i := 41) rfl), pe_w1 (List.mem_of_getElem? (i := 17) (by decide +kernel)), by decide, by decide, by decide +kernel⟩
theorem c_M_288 : pe_CL "PaintEditorModel" 288 m_M_setLook 1 := ⟨pe_w6 (List.mem_of_getElem? (i := 42) (by decide +kernel)), pe_w6 (List.mem_of_getElem? (i := 45) rfl), pe_w1 (List.mem_of_getElem? (i := 17) (by decide +kernel)), by decide, by decide, by decide +kernel⟩
theorem c_M_275 : pe_CL "PaintEditorModel" 275 m_M_putBegin 0 := ⟨pe_w6 (List.mem_of_getElem? (i := 46) (by decide +kernel)), pe_w6 (List.mem_of_getElem? (i := 49) rfl), pe_w1 (List.mem_of_getElem? (i := 17) (by decide +kernel)), by decide, by decide, by decide +kernel⟩
theorem c_M_253 : pe_CL "PaintEditorModel" 253 m_M_put 1 := ⟨pe_w6 (List.mem_of_getElem? (i := 50) (by decide +kernel)), pe_w6 (List.mem_of_getElem? (i := 53) rfl), pe_w1 (List.mem_of_getElem? (i := 17) (by decide +kernel)), by decide, by decide, by decide +kernel⟩
theorem c_M_306 : pe_CL "PaintEditorModel" 306 m_M_drawRow 1 := ⟨pe_w6 (List.mem_of_getElem? (i := 54) (by decide +kernel)), pe_w6 (List.mem_of_getElem? (i := 57) rfl), pe_w1 (List.mem_of_getElem? (i := 17) (by decide +kernel)), by decide, by decide, by decide +kernel⟩
theorem c_M_297 : pe_CL "PaintEditorModel" 297 m_M_differs 1 := ⟨pe_w6 (List.mem_of_getElem? (i := 58) (by decide +kernel)), pe_w6 (List.mem_of_getElem? (i := 61) rfl), pe_w1 (List.mem_of_getElem? (i := 17) (by decide +kernel)), by decide, by decide, by decide +kernel⟩
theorem c_M_300 : pe_CL "PaintEditorModel" 300 m_M_sendClusters 3 := ⟨pe_w6 (List.mem_of_getElem? (i := 62) (by decide +kernel)), pe_w6 (List.mem_of_getElem? (i := 65) rfl), pe_w1 (List.mem_of_getElem? (i := 17) (by decide +kernel)), by decide, by decide, by decide +kernel⟩
theorem c_M_294 : pe_CL "PaintEditorModel" 294 m_M_sendCluster 2 := ⟨pe_w6 (List.mem_of_getElem? (i := 66) (by decide +kernel)), pe_w6 (List.mem_of_getElem? (i := 69) rfl), pe_w1 (List.mem_of_getElem? (i := 17) (by decide +kernel)), by decide, by decide, by decide +kernel⟩
theorem c_M_284 : pe_CL "PaintEditorModel" 284 m_M_go 3 := ⟨pe_w6 (List.mem_of_getElem? (i := 71) (by decide +kernel)), pe_w6 (List.mem_of_getElem? (i := 74) rfl), pe_w1 (List.mem_of_getElem? (i := 17) (by decide +kernel)), by decide, by decide, by decide +kernel⟩
theorem c_M_281 : pe_CL "PaintEditorModel" 281 m_M_sendPlace 2 := ⟨pe_w6 (List.mem_of_getElem? (i := 75) (by decide +kernel)), pe_w6 (List.mem_of_getElem? (i := 78) rfl), pe_w1 (List.mem_of_getElem? (i := 17) (by decide +kernel)), by decide, by decide, by decide +kernel⟩
theorem c_M_278 : pe_CL "PaintEditorModel" 278 m_M_putNumber 1 := ⟨pe_w6 (List.mem_of_getElem? (i := 79) (by decide +kernel)), pe_w6 (List.mem_of_getElem? (i := 82) rfl), pe_w1 (List.mem_of_getElem? (i := 17) (by decide +kernel)), by decide, by decide, by decide +kernel⟩
theorem c_M_291 : pe_CL "PaintEditorModel" 291 m_M_write 1 := ⟨pe_w6 (List.mem_of_getElem? (i := 83) (by decide +kernel)), pe_w6 (List.mem_of_getElem? (i := 86) rfl), pe_w1 (List.mem_of_getElem? (i := 17) (by decide +kernel)), by decide, by decide, by decide +kernel⟩
theorem c_M_257 : pe_CL "PaintEditorModel" 257 m_M_putCode 1 := ⟨pe_w6 (List.mem_of_getElem? (i := 87) (by decide +kernel)), pe_w6 (List.mem_of_getElem? (i := 90) rfl), pe_w1 (List.mem_of_getElem? (i := 17) (by decide +kernel)), by decide, by decide, by decide +kernel⟩
theorem c_M_269 : pe_CL "PaintEditorModel" 269 m_M_blankHalf 1 := ⟨pe_w6 (List.mem_of_getElem? (i := 91) (by decide +kernel)), pe_w6 (List.mem_of_getElem? (i := 94) rfl), pe_w1 (List.mem_of_getElem? (i := 17) (by decide +kernel)), by decide, by decide, by decide +kernel⟩
theorem c_M_309 : pe_CL "PaintEditorModel" 309 m_M_isCell 2 := ⟨pe_w6 (List.mem_of_getElem? (i := 111) (by decide +kernel)), pe_w6 (List.mem_of_getElem? (i := 114) rfl), pe_w1 (List.mem_of_getElem? (i := 17) (by decide +kernel)), by decide, by decide, by decide +kernel⟩
theorem i_P_type : Cond.instanceMethod m_P_type.1 ∈ pe_WS := pe_w2 (List.mem_of_getElem? (i := 113) (by decide +kernel))
theorem s_P_type : Cond.selects "PaintEditor" m_P_type.1 m_P_type.1 ∈ pe_WS := pe_w2 (List.mem_of_getElem? (i := 114) (by decide +kernel))
theorem i_P_tick : Cond.instanceMethod m_P_tick.1 ∈ pe_WS := pe_w3 (List.mem_of_getElem? (i := 67) (by decide +kernel))
theorem s_P_tick : Cond.selects "PaintEditor" m_P_tick.1 m_P_tick.1 ∈ pe_WS := pe_w3 (List.mem_of_getElem? (i := 68) (by decide +kernel))
theorem i_P_size : Cond.instanceMethod m_P_size.1 ∈ pe_WS := pe_w3 (List.mem_of_getElem? (i := 72) (by decide +kernel))
theorem s_P_size : Cond.selects "PaintEditor" m_P_size.1 m_P_size.1 ∈ pe_WS := pe_w3 (List.mem_of_getElem? (i := 73) (by decide +kernel))
theorem i_P_draw : Cond.instanceMethod m_P_draw.1 ∈ pe_WS := pe_w3 (List.mem_of_getElem? (i := 118) (by decide +kernel))
theorem s_P_draw : Cond.selects "PaintEditor" m_P_draw.1 m_P_draw.1 ∈ pe_WS := pe_w3 (List.mem_of_getElem? (i := 119) (by decide +kernel))
theorem i_P_text : Cond.instanceMethod m_P_text.1 ∈ pe_WS := pe_w4 (List.mem_of_getElem? (i := 189) (by decide +kernel))
theorem s_P_text : Cond.selects "PaintEditor" m_P_text.1 m_P_text.1 ∈ pe_WS := pe_w4 (List.mem_of_getElem? (i := 190) (by decide +kernel))
theorem i_P_state : Cond.instanceMethod m_P_state.1 ∈ pe_WS := pe_w4 (List.mem_of_getElem? (i := 194) (by decide +kernel))
theorem s_P_state : Cond.selects "PaintEditor" m_P_state.1 m_P_state.1 ∈ pe_WS := pe_w4 (List.mem_of_getElem? (i := 195) (by decide +kernel))
theorem i_P_cell : Cond.instanceMethod m_P_cell.1 ∈ pe_WS := pe_w4 (List.mem_of_getElem? (i := 198) (by decide +kernel))
theorem s_P_cell : Cond.selects "PaintEditor" m_P_cell.1 m_P_cell.1 ∈ pe_WS := pe_w4 (List.mem_of_getElem? (i := 199) (by decide +kernel))
theorem i_P_look : Cond.instanceMethod m_P_look.1 ∈ pe_WS := pe_w4 (List.mem_of_getElem? (i := 203) (by decide +kernel))
theorem s_P_look : Cond.selects "PaintEditor" m_P_look.1 m_P_look.1 ∈ pe_WS := pe_w4 (List.mem_of_getElem? (i := 204) (by decide +kernel))
theorem i_P_terminal : Cond.instanceMethod m_P_terminal.1 ∈ pe_WS := pe_w4 (List.mem_of_getElem? (i := 208) (by decide +kernel))
theorem s_P_terminal : Cond.selects "PaintEditor" m_P_terminal.1 m_P_terminal.1 ∈ pe_WS := pe_w4 (List.mem_of_getElem? (i := 209) (by decide +kernel))
theorem i_P_sent : Cond.instanceMethod m_P_sent.1 ∈ pe_WS := pe_w4 (List.mem_of_getElem? (i := 212) (by decide +kernel))
theorem s_P_sent : Cond.selects "PaintEditor" m_P_sent.1 m_P_sent.1 ∈ pe_WS := pe_w4 (List.mem_of_getElem? (i := 213) (by decide +kernel))
theorem z_M_isMark : Cond.static m_M_isMark.1 ∈ pe_WS := pe_w5 (List.mem_of_getElem? (i := 164) (by decide +kernel))
theorem z_M_isWide : Cond.static m_M_isWide.1 ∈ pe_WS := pe_w5 (List.mem_of_getElem? (i := 223) (by decide +kernel))
theorem i_M_begins : Cond.instanceMethod m_M_begins.1 ∈ pe_WS := pe_w5 (List.mem_of_getElem? (i := 161) (by decide +kernel))
theorem s_M_begins : Cond.selects "PaintEditorModel" m_M_begins.1 m_M_begins.1 ∈ pe_WS := pe_wp (q := (m_M_begins.1, 44)) (by decide +kernel)
theorem i_M_after : Cond.instanceMethod m_M_after.1 ∈ pe_WS := pe_w5 (List.mem_of_getElem? (i := 230) (by decide +kernel))
theorem s_M_after : Cond.selects "PaintEditorModel" m_M_after.1 m_M_after.1 ∈ pe_WS := pe_wp (q := (m_M_after.1, 44)) (by decide +kernel)
theorem i_M_before : Cond.instanceMethod m_M_before.1 ∈ pe_WS := pe_w5 (List.mem_of_getElem? (i := 200) (by decide +kernel))
theorem s_M_before : Cond.selects "PaintEditorModel" m_M_before.1 m_M_before.1 ∈ pe_WS := pe_wp (q := (m_M_before.1, 44)) (by decide +kernel)
theorem i_M_widthOf : Cond.instanceMethod m_M_widthOf.1 ∈ pe_WS := pe_w5 (List.mem_of_getElem? (i := 220) (by decide +kernel))
theorem s_M_widthOf : Cond.selects "PaintEditorModel" m_M_widthOf.1 m_M_widthOf.1 ∈ pe_WS := pe_wp (q := (m_M_widthOf.1, 44)) (by decide +kernel)
theorem i_M_layOut : Cond.instanceMethod m_M_layOut.1 ∈ pe_WS := pe_w5 (List.mem_of_getElem? (i := 216) (by decide +kernel))
theorem s_M_layOut : Cond.selects "PaintEditorModel" m_M_layOut.1 m_M_layOut.1 ∈ pe_WS := pe_wp (q := (m_M_layOut.1, 44)) (by decide +kernel)
theorem i_M_isSmall : Cond.instanceMethod m_M_isSmall.1 ∈ pe_WS := pe_w6 (List.mem_of_getElem? (i := 18) (by decide +kernel))
theorem s_M_isSmall : Cond.selects "PaintEditorModel" m_M_isSmall.1 m_M_isSmall.1 ∈ pe_WS := pe_wp (q := (m_M_isSmall.1, 44)) (by decide +kernel)
theorem i_M_forgetFirst : Cond.instanceMethod m_M_forgetFirst.1 ∈ pe_WS := pe_w5 (List.mem_of_getElem? (i := 149) (by decide +kernel))
theorem s_M_forgetFirst : Cond.selects "PaintEditorModel" m_M_forgetFirst.1 m_M_forgetFirst.1 ∈ pe_WS := pe_wp (q := (m_M_forgetFirst.1, 44)) (by decide +kernel)
theorem i_M_open : Cond.instanceMethod m_M_open.1 ∈ pe_WS := pe_w5 (List.mem_of_getElem? (i := 153) (by decide +kernel))
theorem s_M_open : Cond.selects "PaintEditorModel" m_M_open.1 m_M_open.1 ∈ pe_WS := pe_wp (q := (m_M_open.1, 44)) (by decide +kernel)
theorem i_M_close : Cond.instanceMethod m_M_close.1 ∈ pe_WS := pe_w5 (List.mem_of_getElem? (i := 188) (by decide +kernel))
theorem s_M_close : Cond.selects "PaintEditorModel" m_M_close.1 m_M_close.1 ∈ pe_WS := pe_wp (q := (m_M_close.1, 44)) (by decide +kernel)
theorem i_M_note : Cond.instanceMethod m_M_note.1 ∈ pe_WS := pe_w5 (List.mem_of_getElem? (i := 145) (by decide +kernel))
theorem s_M_note : Cond.selects "PaintEditorModel" m_M_note.1 m_M_note.1 ∈ pe_WS := pe_wp (q := (m_M_note.1, 44)) (by decide +kernel)
theorem i_M_settle : Cond.instanceMethod m_M_settle.1 ∈ pe_WS := pe_w5 (List.mem_of_getElem? (i := 157) (by decide +kernel))
theorem s_M_settle : Cond.selects "PaintEditorModel" m_M_settle.1 m_M_settle.1 ∈ pe_WS := pe_wp (q := (m_M_settle.1, 44)) (by decide +kernel)
theorem i_M_insertOne : Cond.instanceMethod m_M_insertOne.1 ∈ pe_WS := pe_w5 (List.mem_of_getElem? (i := 141) (by decide +kernel))
theorem s_M_insertOne : Cond.selects "PaintEditorModel" m_M_insertOne.1 m_M_insertOne.1 ∈ pe_WS := pe_wp (q := (m_M_insertOne.1, 44)) (by decide +kernel)
theorem i_M_insertClip : Cond.instanceMethod m_M_insertClip.1 ∈ pe_WS := pe_w5 (List.mem_of_getElem? (i := 192) (by decide +kernel))
theorem s_M_insertClip : Cond.selects "PaintEditorModel" m_M_insertClip.1 m_M_insertClip.1 ∈ pe_WS := pe_wp (q := (m_M_insertClip.1, 44)) (by decide +kernel)
theorem i_M_takeAway : Cond.instanceMethod m_M_takeAway.1 ∈ pe_WS := pe_w5 (List.mem_of_getElem? (i := 184) (by decide +kernel))
theorem s_M_takeAway : Cond.selects "PaintEditorModel" m_M_takeAway.1 m_M_takeAway.1 ∈ pe_WS := pe_wp (q := (m_M_takeAway.1, 44)) (by decide +kernel)
theorem i_M_cutOut : Cond.instanceMethod m_M_cutOut.1 ∈ pe_WS := pe_w5 (List.mem_of_getElem? (i := 180) (by decide +kernel))
theorem s_M_cutOut : Cond.selects "PaintEditorModel" m_M_cutOut.1 m_M_cutOut.1 ∈ pe_WS := pe_wp (q := (m_M_cutOut.1, 44)) (by decide +kernel)
theorem i_M_undo : Cond.instanceMethod m_M_undo.1 ∈ pe_WS := pe_w5 (List.mem_of_getElem? (i := 196) (by decide +kernel))
theorem s_M_undo : Cond.selects "PaintEditorModel" m_M_undo.1 m_M_undo.1 ∈ pe_WS := pe_wp (q := (m_M_undo.1, 44)) (by decide +kernel)
theorem i_M_character : Cond.instanceMethod m_M_character.1 ∈ pe_WS := pe_w5 (List.mem_of_getElem? (i := 137) (by decide +kernel))
theorem s_M_character : Cond.selects "PaintEditorModel" m_M_character.1 m_M_character.1 ∈ pe_WS := pe_wp (q := (m_M_character.1, 44)) (by decide +kernel)
theorem i_M_control : Cond.instanceMethod m_M_control.1 ∈ pe_WS := pe_w5 (List.mem_of_getElem? (i := 172) (by decide +kernel))
theorem s_M_control : Cond.selects "PaintEditorModel" m_M_control.1 m_M_control.1 ∈ pe_WS := pe_wp (q := (m_M_control.1, 44)) (by decide +kernel)
theorem i_M_command : Cond.instanceMethod m_M_command.1 ∈ pe_WS := pe_w5 (List.mem_of_getElem? (i := 176) (by decide +kernel))
theorem s_M_command : Cond.selects "PaintEditorModel" m_M_command.1 m_M_command.1 ∈ pe_WS := pe_wp (q := (m_M_command.1, 44)) (by decide +kernel)
theorem i_M_escapeKey : Cond.instanceMethod m_M_escapeKey.1 ∈ pe_WS := pe_w6 (List.mem_of_getElem? (i := 2) (by decide +kernel))
theorem s_M_escapeKey : Cond.selects "PaintEditorModel" m_M_escapeKey.1 m_M_escapeKey.1 ∈ pe_WS := pe_wp (q := (m_M_escapeKey.1, 44)) (by decide +kernel)
theorem i_M_upOrDown : Cond.instanceMethod m_M_upOrDown.1 ∈ pe_WS := pe_w5 (List.mem_of_getElem? (i := 212) (by decide +kernel))
theorem s_M_upOrDown : Cond.selects "PaintEditorModel" m_M_upOrDown.1 m_M_upOrDown.1 ∈ pe_WS := pe_wp (q := (m_M_upOrDown.1, 44)) (by decide +kernel)
theorem i_M_lineBegin : Cond.instanceMethod m_M_lineBegin.1 ∈ pe_WS := pe_w5 (List.mem_of_getElem? (i := 234) (by decide +kernel))
theorem s_M_lineBegin : Cond.selects "PaintEditorModel" m_M_lineBegin.1 m_M_lineBegin.1 ∈ pe_WS := pe_wp (q := (m_M_lineBegin.1, 44)) (by decide +kernel)
theorem i_M_lineEnd : Cond.instanceMethod m_M_lineEnd.1 ∈ pe_WS := pe_w5 (List.mem_of_getElem? (i := 238) (by decide +kernel))
theorem s_M_lineEnd : Cond.selects "PaintEditorModel" m_M_lineEnd.1 m_M_lineEnd.1 ∈ pe_WS := pe_wp (q := (m_M_lineEnd.1, 44)) (by decide +kernel)
theorem i_M_finish : Cond.instanceMethod m_M_finish.1 ∈ pe_WS := pe_w5 (List.mem_of_getElem? (i := 208) (by decide +kernel))
theorem s_M_finish : Cond.selects "PaintEditorModel" m_M_finish.1 m_M_finish.1 ∈ pe_WS := pe_wp (q := (m_M_finish.1, 44)) (by decide +kernel)
theorem i_M_plain : Cond.instanceMethod m_M_plain.1 ∈ pe_WS := pe_w5 (List.mem_of_getElem? (i := 168) (by decide +kernel))
theorem s_M_plain : Cond.selects "PaintEditorModel" m_M_plain.1 m_M_plain.1 ∈ pe_WS := pe_wp (q := (m_M_plain.1, 44)) (by decide +kernel)
theorem i_M_within : Cond.instanceMethod m_M_within.1 ∈ pe_WS := pe_w5 (List.mem_of_getElem? (i := 132) (by decide +kernel))
theorem s_M_within : Cond.selects "PaintEditorModel" m_M_within.1 m_M_within.1 ∈ pe_WS := pe_wp (q := (m_M_within.1, 44)) (by decide +kernel)
theorem i_M_inSequence : Cond.instanceMethod m_M_inSequence.1 ∈ pe_WS := pe_w5 (List.mem_of_getElem? (i := 204) (by decide +kernel))
theorem s_M_inSequence : Cond.selects "PaintEditorModel" m_M_inSequence.1 m_M_inSequence.1 ∈ pe_WS := pe_wp (q := (m_M_inSequence.1, 44)) (by decide +kernel)
theorem i_M_take : Cond.instanceMethod m_M_take.1 ∈ pe_WS := pe_w5 (List.mem_of_getElem? (i := 128) (by decide +kernel))
theorem s_M_take : Cond.selects "PaintEditorModel" m_M_take.1 m_M_take.1 ∈ pe_WS := pe_wp (q := (m_M_take.1, 44)) (by decide +kernel)
theorem i_M_type : Cond.instanceMethod m_M_type.1 ∈ pe_WS := pe_w5 (List.mem_of_getElem? (i := 122) (by decide +kernel))
theorem s_M_type : Cond.selects "PaintEditorModel" m_M_type.1 m_M_type.1 ∈ pe_WS := pe_w5 (List.mem_of_getElem? (i := 123) (by decide +kernel))
theorem i_M_tick : Cond.instanceMethod m_M_tick.1 ∈ pe_WS := pe_w6 (List.mem_of_getElem? (i := 5) (by decide +kernel))
theorem s_M_tick : Cond.selects "PaintEditorModel" m_M_tick.1 m_M_tick.1 ∈ pe_WS := pe_w6 (List.mem_of_getElem? (i := 6) (by decide +kernel))
theorem i_M_clusterAt : Cond.instanceMethod m_M_clusterAt.1 ∈ pe_WS := pe_w6 (List.mem_of_getElem? (i := 26) (by decide +kernel))
theorem s_M_clusterAt : Cond.selects "PaintEditorModel" m_M_clusterAt.1 m_M_clusterAt.1 ∈ pe_WS := pe_wp (q := (m_M_clusterAt.1, 44)) (by decide +kernel)
theorem i_M_fillText : Cond.instanceMethod m_M_fillText.1 ∈ pe_WS := pe_w6 (List.mem_of_getElem? (i := 22) (by decide +kernel))
theorem s_M_fillText : Cond.selects "PaintEditorModel" m_M_fillText.1 m_M_fillText.1 ∈ pe_WS := pe_wp (q := (m_M_fillText.1, 44)) (by decide +kernel)
theorem i_M_status : Cond.instanceMethod m_M_status.1 ∈ pe_WS := pe_w6 (List.mem_of_getElem? (i := 40) (by decide +kernel))
theorem s_M_status : Cond.selects "PaintEditorModel" m_M_status.1 m_M_status.1 ∈ pe_WS := pe_wp (q := (m_M_status.1, 44)) (by decide +kernel)
theorem i_M_statusNumber : Cond.instanceMethod m_M_statusNumber.1 ∈ pe_WS := pe_w6 (List.mem_of_getElem? (i := 36) (by decide +kernel))
theorem s_M_statusNumber : Cond.selects "PaintEditorModel" m_M_statusNumber.1 m_M_statusNumber.1 ∈ pe_WS := pe_wp (q := (m_M_statusNumber.1, 44)) (by decide +kernel)
theorem i_M_fillStatus : Cond.instanceMethod m_M_fillStatus.1 ∈ pe_WS := pe_w6 (List.mem_of_getElem? (i := 32) (by decide +kernel))
theorem s_M_fillStatus : Cond.selects "PaintEditorModel" m_M_fillStatus.1 m_M_fillStatus.1 ∈ pe_WS := pe_wp (q := (m_M_fillStatus.1, 44)) (by decide +kernel)
theorem i_M_compose : Cond.instanceMethod m_M_compose.1 ∈ pe_WS := pe_w6 (List.mem_of_getElem? (i := 14) (by decide +kernel))
theorem s_M_compose : Cond.selects "PaintEditorModel" m_M_compose.1 m_M_compose.1 ∈ pe_WS := pe_wp (q := (m_M_compose.1, 44)) (by decide +kernel)
theorem i_M_put : Cond.instanceMethod m_M_put.1 ∈ pe_WS := pe_w6 (List.mem_of_getElem? (i := 52) (by decide +kernel))
theorem s_M_put : Cond.selects "PaintEditorModel" m_M_put.1 m_M_put.1 ∈ pe_WS := pe_wp (q := (m_M_put.1, 44)) (by decide +kernel)
theorem i_M_putNumber : Cond.instanceMethod m_M_putNumber.1 ∈ pe_WS := pe_w6 (List.mem_of_getElem? (i := 81) (by decide +kernel))
theorem s_M_putNumber : Cond.selects "PaintEditorModel" m_M_putNumber.1 m_M_putNumber.1 ∈ pe_WS := pe_wp (q := (m_M_putNumber.1, 44)) (by decide +kernel)
theorem i_M_putBegin : Cond.instanceMethod m_M_putBegin.1 ∈ pe_WS := pe_w6 (List.mem_of_getElem? (i := 48) (by decide +kernel))
theorem s_M_putBegin : Cond.selects "PaintEditorModel" m_M_putBegin.1 m_M_putBegin.1 ∈ pe_WS := pe_wp (q := (m_M_putBegin.1, 44)) (by decide +kernel)
theorem i_M_blankHalf : Cond.instanceMethod m_M_blankHalf.1 ∈ pe_WS := pe_w6 (List.mem_of_getElem? (i := 93) (by decide +kernel))
theorem s_M_blankHalf : Cond.selects "PaintEditorModel" m_M_blankHalf.1 m_M_blankHalf.1 ∈ pe_WS := pe_wp (q := (m_M_blankHalf.1, 44)) (by decide +kernel)
theorem i_M_putCode : Cond.instanceMethod m_M_putCode.1 ∈ pe_WS := pe_w6 (List.mem_of_getElem? (i := 89) (by decide +kernel))
theorem s_M_putCode : Cond.selects "PaintEditorModel" m_M_putCode.1 m_M_putCode.1 ∈ pe_WS := pe_wp (q := (m_M_putCode.1, 44)) (by decide +kernel)
theorem i_M_write : Cond.instanceMethod m_M_write.1 ∈ pe_WS := pe_w6 (List.mem_of_getElem? (i := 85) (by decide +kernel))
theorem s_M_write : Cond.selects "PaintEditorModel" m_M_write.1 m_M_write.1 ∈ pe_WS := pe_wp (q := (m_M_write.1, 44)) (by decide +kernel)
theorem i_M_sendPlace : Cond.instanceMethod m_M_sendPlace.1 ∈ pe_WS := pe_w6 (List.mem_of_getElem? (i := 77) (by decide +kernel))
theorem s_M_sendPlace : Cond.selects "PaintEditorModel" m_M_sendPlace.1 m_M_sendPlace.1 ∈ pe_WS := pe_wp (q := (m_M_sendPlace.1, 44)) (by decide +kernel)
theorem i_M_go : Cond.instanceMethod m_M_go.1 ∈ pe_WS := pe_w6 (List.mem_of_getElem? (i := 73) (by decide +kernel))
theorem s_M_go : Cond.selects "PaintEditorModel" m_M_go.1 m_M_go.1 ∈ pe_WS := pe_wp (q := (m_M_go.1, 44)) (by decide +kernel)
theorem i_M_setLook : Cond.instanceMethod m_M_setLook.1 ∈ pe_WS := pe_w6 (List.mem_of_getElem? (i := 44) (by decide +kernel))
theorem s_M_setLook : Cond.selects "PaintEditorModel" m_M_setLook.1 m_M_setLook.1 ∈ pe_WS := pe_wp (q := (m_M_setLook.1, 44)) (by decide +kernel)
theorem i_M_sendCluster : Cond.instanceMethod m_M_sendCluster.1 ∈ pe_WS := pe_w6 (List.mem_of_getElem? (i := 68) (by decide +kernel))
theorem s_M_sendCluster : Cond.selects "PaintEditorModel" m_M_sendCluster.1 m_M_sendCluster.1 ∈ pe_WS := pe_wp (q := (m_M_sendCluster.1, 44)) (by decide +kernel)
theorem i_M_sendClusters : Cond.instanceMethod m_M_sendClusters.1 ∈ pe_WS := pe_w6 (List.mem_of_getElem? (i := 64) (by decide +kernel))
theorem s_M_sendClusters : Cond.selects "PaintEditorModel" m_M_sendClusters.1 m_M_sendClusters.1 ∈ pe_WS := pe_wp (q := (m_M_sendClusters.1, 44)) (by decide +kernel)
theorem i_M_differs : Cond.instanceMethod m_M_differs.1 ∈ pe_WS := pe_w6 (List.mem_of_getElem? (i := 60) (by decide +kernel))
theorem s_M_differs : Cond.selects "PaintEditorModel" m_M_differs.1 m_M_differs.1 ∈ pe_WS := pe_wp (q := (m_M_differs.1, 44)) (by decide +kernel)
theorem i_M_drawRow : Cond.instanceMethod m_M_drawRow.1 ∈ pe_WS := pe_w6 (List.mem_of_getElem? (i := 56) (by decide +kernel))
theorem s_M_drawRow : Cond.selects "PaintEditorModel" m_M_drawRow.1 m_M_drawRow.1 ∈ pe_WS := pe_wp (q := (m_M_drawRow.1, 44)) (by decide +kernel)
theorem i_M_draw : Cond.instanceMethod m_M_draw.1 ∈ pe_WS := pe_w6 (List.mem_of_getElem? (i := 9) (by decide +kernel))
theorem s_M_draw : Cond.selects "PaintEditorModel" m_M_draw.1 m_M_draw.1 ∈ pe_WS := pe_w6 (List.mem_of_getElem? (i := 10) (by decide +kernel))
theorem i_M_size : Cond.instanceMethod m_M_size.1 ∈ pe_WS := pe_w6 (List.mem_of_getElem? (i := 96) (by decide +kernel))
theorem s_M_size : Cond.selects "PaintEditorModel" m_M_size.1 m_M_size.1 ∈ pe_WS := pe_w6 (List.mem_of_getElem? (i := 97) (by decide +kernel))
theorem i_M_text : Cond.instanceMethod m_M_text.1 ∈ pe_WS := pe_w6 (List.mem_of_getElem? (i := 100) (by decide +kernel))
theorem s_M_text : Cond.selects "PaintEditorModel" m_M_text.1 m_M_text.1 ∈ pe_WS := pe_w6 (List.mem_of_getElem? (i := 101) (by decide +kernel))
theorem i_M_state : Cond.instanceMethod m_M_state.1 ∈ pe_WS := pe_w6 (List.mem_of_getElem? (i := 104) (by decide +kernel))
theorem s_M_state : Cond.selects "PaintEditorModel" m_M_state.1 m_M_state.1 ∈ pe_WS := pe_w6 (List.mem_of_getElem? (i := 105) (by decide +kernel))
theorem i_M_isCell : Cond.instanceMethod m_M_isCell.1 ∈ pe_WS := pe_w6 (List.mem_of_getElem? (i := 113) (by decide +kernel))
theorem s_M_isCell : Cond.selects "PaintEditorModel" m_M_isCell.1 m_M_isCell.1 ∈ pe_WS := pe_wp (q := (m_M_isCell.1, 44)) (by decide +kernel)
theorem i_M_cell : Cond.instanceMethod m_M_cell.1 ∈ pe_WS := pe_w6 (List.mem_of_getElem? (i := 108) (by decide +kernel))
theorem s_M_cell : Cond.selects "PaintEditorModel" m_M_cell.1 m_M_cell.1 ∈ pe_WS := pe_w6 (List.mem_of_getElem? (i := 109) (by decide +kernel))
theorem i_M_look : Cond.instanceMethod m_M_look.1 ∈ pe_WS := pe_w6 (List.mem_of_getElem? (i := 116) (by decide +kernel))
theorem s_M_look : Cond.selects "PaintEditorModel" m_M_look.1 m_M_look.1 ∈ pe_WS := pe_w6 (List.mem_of_getElem? (i := 117) (by decide +kernel))
theorem i_M_terminal : Cond.instanceMethod m_M_terminal.1 ∈ pe_WS := pe_w6 (List.mem_of_getElem? (i := 120) (by decide +kernel))
theorem s_M_terminal : Cond.selects "PaintEditorModel" m_M_terminal.1 m_M_terminal.1 ∈ pe_WS := pe_w6 (List.mem_of_getElem? (i := 121) (by decide +kernel))
theorem i_M_sent : Cond.instanceMethod m_M_sent.1 ∈ pe_WS := pe_w6 (List.mem_of_getElem? (i := 124) (by decide +kernel))
theorem s_M_sent : Cond.selects "PaintEditorModel" m_M_sent.1 m_M_sent.1 ∈ pe_WS := pe_w6 (List.mem_of_getElem? (i := 125) (by decide +kernel))
theorem z_C_isMark : Cond.static m_C_isMark.1 ∈ pe_WS := pe_w2 (List.mem_of_getElem? (i := 158) (by decide +kernel))
theorem z_C_takesMarks : Cond.static m_C_takesMarks.1 ∈ pe_WS := pe_w2 (List.mem_of_getElem? (i := 161) (by decide +kernel))
theorem z_C_isWide : Cond.static m_C_isWide.1 ∈ pe_WS := pe_w2 (List.mem_of_getElem? (i := 169) (by decide +kernel))
theorem z_C_widthOf : Cond.static m_C_widthOf.1 ∈ pe_WS := pe_w2 (List.mem_of_getElem? (i := 166) (by decide +kernel))
theorem z_C_characterOf : Cond.static m_C_characterOf.1 ∈ pe_WS := pe_w3 (List.mem_of_getElem? (i := 100) (by decide +kernel))
theorem z_C_firstMarkOf : Cond.static m_C_firstMarkOf.1 ∈ pe_WS := pe_w4 (List.mem_of_getElem? (i := 179) (by decide +kernel))
theorem z_C_secondMarkOf : Cond.static m_C_secondMarkOf.1 ∈ pe_WS := pe_w4 (List.mem_of_getElem? (i := 167) (by decide +kernel))
theorem z_C_withMark : Cond.static m_C_withMark.1 ∈ pe_WS := pe_w3 (List.mem_of_getElem? (i := 148) (by decide +kernel))
theorem i_E_press : Cond.instanceMethod m_E_press.1 ∈ pe_WS := pe_w2 (List.mem_of_getElem? (i := 136) (by decide +kernel))
theorem s_E_press : Cond.selects "PaintEditor$Editor" m_E_press.1 m_E_press.1 ∈ pe_WS := pe_w2 (List.mem_of_getElem? (i := 137) (by decide +kernel))
theorem z_E_isCharacter : Cond.static m_E_isCharacter.1 ∈ pe_WS := pe_w2 (List.mem_of_getElem? (i := 183) (by decide +kernel))
theorem z_E_worksWhilePasting : Cond.static m_E_worksWhilePasting.1 ∈ pe_WS := pe_w2 (List.mem_of_getElem? (i := 180) (by decide +kernel))
theorem z_E_worksOtherwise : Cond.static m_E_worksOtherwise.1 ∈ pe_WS := pe_w2 (List.mem_of_getElem? (i := 187) (by decide +kernel))
theorem i_E_command : Cond.instanceMethod m_E_command.1 ∈ pe_WS := pe_w2 (List.mem_of_getElem? (i := 218) (by decide +kernel))
theorem s_E_command : Cond.selects "PaintEditor$Editor" m_E_command.1 m_E_command.1 ∈ pe_WS := pe_wp (q := (m_E_command.1, 12)) (by decide +kernel)
theorem i_E_insertOne : Cond.instanceMethod m_E_insertOne.1 ∈ pe_WS := pe_w2 (List.mem_of_getElem? (i := 191) (by decide +kernel))
theorem s_E_insertOne : Cond.selects "PaintEditor$Editor" m_E_insertOne.1 m_E_insertOne.1 ∈ pe_WS := pe_wp (q := (m_E_insertOne.1, 12)) (by decide +kernel)
theorem i_E_insert : Cond.instanceMethod m_E_insert.1 ∈ pe_WS := pe_w2 (List.mem_of_getElem? (i := 195) (by decide +kernel))
theorem s_E_insert : Cond.selects "PaintEditor$Editor" m_E_insert.1 m_E_insert.1 ∈ pe_WS := pe_wp (q := (m_E_insert.1, 12)) (by decide +kernel)
theorem i_E_removeBetween : Cond.instanceMethod m_E_removeBetween.1 ∈ pe_WS := pe_w2 (List.mem_of_getElem? (i := 228) (by decide +kernel))
theorem s_E_removeBetween : Cond.selects "PaintEditor$Editor" m_E_removeBetween.1 m_E_removeBetween.1 ∈ pe_WS := pe_wp (q := (m_E_removeBetween.1, 12)) (by decide +kernel)
theorem i_E_cut : Cond.instanceMethod m_E_cut.1 ∈ pe_WS := pe_w3 (List.mem_of_getElem? (i := 17) (by decide +kernel))
theorem s_E_cut : Cond.selects "PaintEditor$Editor" m_E_cut.1 m_E_cut.1 ∈ pe_WS := pe_wp (q := (m_E_cut.1, 12)) (by decide +kernel)
theorem i_E_undo : Cond.instanceMethod m_E_undo.1 ∈ pe_WS := pe_w3 (List.mem_of_getElem? (i := 24) (by decide +kernel))
theorem s_E_undo : Cond.selects "PaintEditor$Editor" m_E_undo.1 m_E_undo.1 ∈ pe_WS := pe_wp (q := (m_E_undo.1, 12)) (by decide +kernel)
theorem i_E_moveByRow : Cond.instanceMethod m_E_moveByRow.1 ∈ pe_WS := pe_w2 (List.mem_of_getElem? (i := 143) (by decide +kernel))
theorem s_E_moveByRow : Cond.selects "PaintEditor$Editor" m_E_moveByRow.1 m_E_moveByRow.1 ∈ pe_WS := pe_wp (q := (m_E_moveByRow.1, 12)) (by decide +kernel)
theorem i_E_isBetween : Cond.instanceMethod m_E_isBetween.1 ∈ pe_WS := pe_w3 (List.mem_of_getElem? (i := 139) (by decide +kernel))
theorem s_E_isBetween : Cond.selects "PaintEditor$Editor" m_E_isBetween.1 m_E_isBetween.1 ∈ pe_WS := pe_w3 (List.mem_of_getElem? (i := 140) (by decide +kernel))
theorem i_G_has : Cond.instanceMethod m_G_has.1 ∈ pe_WS := pe_w3 (List.mem_of_getElem? (i := 88) (by decide +kernel))
theorem s_G_has : Cond.selects "PaintEditor$Grid" m_G_has.1 m_G_has.1 ∈ pe_WS := pe_w3 (List.mem_of_getElem? (i := 89) (by decide +kernel))
theorem i_G_clusterAt : Cond.instanceMethod m_G_clusterAt.1 ∈ pe_WS := pe_w3 (List.mem_of_getElem? (i := 96) (by decide +kernel))
theorem s_G_clusterAt : Cond.selects "PaintEditor$Grid" m_G_clusterAt.1 m_G_clusterAt.1 ∈ pe_WS := pe_w3 (List.mem_of_getElem? (i := 97) (by decide +kernel))
theorem i_G_lookAt : Cond.instanceMethod m_G_lookAt.1 ∈ pe_WS := pe_w4 (List.mem_of_getElem? (i := 121) (by decide +kernel))
theorem s_G_lookAt : Cond.selects "PaintEditor$Grid" m_G_lookAt.1 m_G_lookAt.1 ∈ pe_WS := pe_w4 (List.mem_of_getElem? (i := 122) (by decide +kernel))
theorem i_G_put : Cond.instanceMethod m_G_put.1 ∈ pe_WS := pe_w3 (List.mem_of_getElem? (i := 84) (by decide +kernel))
theorem s_G_put : Cond.selects "PaintEditor$Grid" m_G_put.1 m_G_put.1 ∈ pe_WS := pe_w3 (List.mem_of_getElem? (i := 85) (by decide +kernel))
theorem i_G_isBlank : Cond.instanceMethod m_G_isBlank.1 ∈ pe_WS := pe_w4 (List.mem_of_getElem? (i := 132) (by decide +kernel))
theorem s_G_isBlank : Cond.selects "PaintEditor$Grid" m_G_isBlank.1 m_G_isBlank.1 ∈ pe_WS := pe_w4 (List.mem_of_getElem? (i := 133) (by decide +kernel))
theorem i_G_isWideAt : Cond.instanceMethod m_G_isWideAt.1 ∈ pe_WS := pe_w3 (List.mem_of_getElem? (i := 92) (by decide +kernel))
theorem s_G_isWideAt : Cond.selects "PaintEditor$Grid" m_G_isWideAt.1 m_G_isWideAt.1 ∈ pe_WS := pe_w3 (List.mem_of_getElem? (i := 93) (by decide +kernel))
theorem i_G_blankAll : Cond.instanceMethod m_G_blankAll.1 ∈ pe_WS := pe_w3 (List.mem_of_getElem? (i := 126) (by decide +kernel))
theorem s_G_blankAll : Cond.selects "PaintEditor$Grid" m_G_blankAll.1 m_G_blankAll.1 ∈ pe_WS := pe_w3 (List.mem_of_getElem? (i := 127) (by decide +kernel))
theorem i_G_blankFrom : Cond.instanceMethod m_G_blankFrom.1 ∈ pe_WS := pe_w3 (List.mem_of_getElem? (i := 80) (by decide +kernel))
theorem s_G_blankFrom : Cond.selects "PaintEditor$Grid" m_G_blankFrom.1 m_G_blankFrom.1 ∈ pe_WS := pe_w3 (List.mem_of_getElem? (i := 81) (by decide +kernel))
theorem i_G_resize : Cond.instanceMethod m_G_resize.1 ∈ pe_WS := pe_w3 (List.mem_of_getElem? (i := 76) (by decide +kernel))
theorem s_G_resize : Cond.selects "PaintEditor$Grid" m_G_resize.1 m_G_resize.1 ∈ pe_WS := pe_w3 (List.mem_of_getElem? (i := 77) (by decide +kernel))
theorem i_H_keepInsertion : Cond.instanceMethod m_H_keepInsertion.1 ∈ pe_WS := pe_w2 (List.mem_of_getElem? (i := 202) (by decide +kernel))
theorem s_H_keepInsertion : Cond.selects "PaintEditor$History" m_H_keepInsertion.1 m_H_keepInsertion.1 ∈ pe_WS := pe_w2 (List.mem_of_getElem? (i := 203) (by decide +kernel))
theorem i_H_keepRemoval : Cond.instanceMethod m_H_keepRemoval.1 ∈ pe_WS := pe_w2 (List.mem_of_getElem? (i := 231) (by decide +kernel))
theorem s_H_keepRemoval : Cond.selects "PaintEditor$History" m_H_keepRemoval.1 m_H_keepRemoval.1 ∈ pe_WS := pe_w2 (List.mem_of_getElem? (i := 232) (by decide +kernel))
theorem i_H_undoIn : Cond.instanceMethod m_H_undoIn.1 ∈ pe_WS := pe_w3 (List.mem_of_getElem? (i := 27) (by decide +kernel))
theorem s_H_undoIn : Cond.selects "PaintEditor$History" m_H_undoIn.1 m_H_undoIn.1 ∈ pe_WS := pe_w3 (List.mem_of_getElem? (i := 28) (by decide +kernel))
theorem i_H_newSlot : Cond.instanceMethod m_H_newSlot.1 ∈ pe_WS := pe_w2 (List.mem_of_getElem? (i := 207) (by decide +kernel))
theorem s_H_newSlot : Cond.selects "PaintEditor$History" m_H_newSlot.1 m_H_newSlot.1 ∈ pe_WS := pe_wp (q := (m_H_newSlot.1, 7)) (by decide +kernel)
theorem i_K_leave : Cond.instanceMethod m_K_leave.1 ∈ pe_WS := pe_w2 (List.mem_of_getElem? (i := 117) (by decide +kernel))
theorem s_K_leave : Cond.selects "PaintEditor$Keyboard" m_K_leave.1 m_K_leave.1 ∈ pe_WS := pe_w2 (List.mem_of_getElem? (i := 118) (by decide +kernel))
theorem i_K_giveUp : Cond.instanceMethod m_K_giveUp.1 ∈ pe_WS := pe_w2 (List.mem_of_getElem? (i := 131) (by decide +kernel))
theorem s_K_giveUp : Cond.selects "PaintEditor$Keyboard" m_K_giveUp.1 m_K_giveUp.1 ∈ pe_WS := pe_w2 (List.mem_of_getElem? (i := 132) (by decide +kernel))
theorem i_K_take : Cond.instanceMethod m_K_take.1 ∈ pe_WS := pe_w3 (List.mem_of_getElem? (i := 33) (by decide +kernel))
theorem s_K_take : Cond.selects "PaintEditor$Keyboard" m_K_take.1 m_K_take.1 ∈ pe_WS := pe_w3 (List.mem_of_getElem? (i := 34) (by decide +kernel))
theorem i_K_goesOn : Cond.instanceMethod m_K_goesOn.1 ∈ pe_WS := pe_w2 (List.mem_of_getElem? (i := 122) (by decide +kernel))
theorem s_K_goesOn : Cond.selects "PaintEditor$Keyboard" m_K_goesOn.1 m_K_goesOn.1 ∈ pe_WS := pe_wp (q := (m_K_goesOn.1, 7)) (by decide +kernel)
theorem z_K_isDigit : Cond.static m_K_isDigit.1 ∈ pe_WS := pe_w2 (List.mem_of_getElem? (i := 125) (by decide +kernel))
theorem z_K_isFinal : Cond.static m_K_isFinal.1 ∈ pe_WS := pe_w2 (List.mem_of_getElem? (i := 128) (by decide +kernel))
theorem i_K_takePlain : Cond.instanceMethod m_K_takePlain.1 ∈ pe_WS := pe_w3 (List.mem_of_getElem? (i := 60) (by decide +kernel))
theorem s_K_takePlain : Cond.selects "PaintEditor$Keyboard" m_K_takePlain.1 m_K_takePlain.1 ∈ pe_WS := pe_wp (q := (m_K_takePlain.1, 7)) (by decide +kernel)
theorem i_K_beginCharacter : Cond.instanceMethod m_K_beginCharacter.1 ∈ pe_WS := pe_w3 (List.mem_of_getElem? (i := 64) (by decide +kernel))
theorem s_K_beginCharacter : Cond.selects "PaintEditor$Keyboard" m_K_beginCharacter.1 m_K_beginCharacter.1 ∈ pe_WS := pe_wp (q := (m_K_beginCharacter.1, 7)) (by decide +kernel)
theorem i_K_takeWithin : Cond.instanceMethod m_K_takeWithin.1 ∈ pe_WS := pe_w3 (List.mem_of_getElem? (i := 56) (by decide +kernel))
theorem s_K_takeWithin : Cond.selects "PaintEditor$Keyboard" m_K_takeWithin.1 m_K_takeWithin.1 ∈ pe_WS := pe_wp (q := (m_K_takeWithin.1, 7)) (by decide +kernel)
theorem i_K_takeInSequence : Cond.instanceMethod m_K_takeInSequence.1 ∈ pe_WS := pe_w3 (List.mem_of_getElem? (i := 38) (by decide +kernel))
theorem s_K_takeInSequence : Cond.selects "PaintEditor$Keyboard" m_K_takeInSequence.1 m_K_takeInSequence.1 ∈ pe_WS := pe_wp (q := (m_K_takeInSequence.1, 7)) (by decide +kernel)
theorem i_K_numberedKey : Cond.instanceMethod m_K_numberedKey.1 ∈ pe_WS := pe_w3 (List.mem_of_getElem? (i := 49) (by decide +kernel))
theorem s_K_numberedKey : Cond.selects "PaintEditor$Keyboard" m_K_numberedKey.1 m_K_numberedKey.1 ∈ pe_WS := pe_wp (q := (m_K_numberedKey.1, 7)) (by decide +kernel)
theorem i_L_lay : Cond.instanceMethod m_L_lay.1 ∈ pe_WS := pe_w2 (List.mem_of_getElem? (i := 146) (by decide +kernel))
theorem s_L_lay : Cond.selects "PaintEditor$Layout" m_L_lay.1 m_L_lay.1 ∈ pe_WS := pe_w2 (List.mem_of_getElem? (i := 147) (by decide +kernel))
theorem i_L_placeIn : Cond.instanceMethod m_L_placeIn.1 ∈ pe_WS := pe_w2 (List.mem_of_getElem? (i := 176) (by decide +kernel))
theorem s_L_placeIn : Cond.selects "PaintEditor$Layout" m_L_placeIn.1 m_L_placeIn.1 ∈ pe_WS := pe_w2 (List.mem_of_getElem? (i := 177) (by decide +kernel))
theorem i_Q_byteAt : Cond.instanceMethod m_Q_byteAt.1 ∈ pe_WS := pe_w4 (List.mem_of_getElem? (i := 216) (by decide +kernel))
theorem s_Q_byteAt : Cond.selects "PaintEditor$Painter" m_Q_byteAt.1 m_Q_byteAt.1 ∈ pe_WS := pe_w4 (List.mem_of_getElem? (i := 217) (by decide +kernel))
theorem i_Q_begin : Cond.instanceMethod m_Q_begin.1 ∈ pe_WS := pe_w4 (List.mem_of_getElem? (i := 83) (by decide +kernel))
theorem s_Q_begin : Cond.selects "PaintEditor$Painter" m_Q_begin.1 m_Q_begin.1 ∈ pe_WS := pe_w4 (List.mem_of_getElem? (i := 84) (by decide +kernel))
theorem i_Q_paintRow : Cond.instanceMethod m_Q_paintRow.1 ∈ pe_WS := pe_w4 (List.mem_of_getElem? (i := 108) (by decide +kernel))
theorem s_Q_paintRow : Cond.selects "PaintEditor$Painter" m_Q_paintRow.1 m_Q_paintRow.1 ∈ pe_WS := pe_w4 (List.mem_of_getElem? (i := 109) (by decide +kernel))
theorem i_Q_differs : Cond.instanceMethod m_Q_differs.1 ∈ pe_WS := pe_w4 (List.mem_of_getElem? (i := 117) (by decide +kernel))
theorem s_Q_differs : Cond.selects "PaintEditor$Painter" m_Q_differs.1 m_Q_differs.1 ∈ pe_WS := pe_wp (q := (m_Q_differs.1, 3)) (by decide +kernel)
theorem i_Q_firstDifference : Cond.instanceMethod m_Q_firstDifference.1 ∈ pe_WS := pe_w4 (List.mem_of_getElem? (i := 113) (by decide +kernel))
theorem s_Q_firstDifference : Cond.selects "PaintEditor$Painter" m_Q_firstDifference.1 m_Q_firstDifference.1 ∈ pe_WS := pe_wp (q := (m_Q_firstDifference.1, 3)) (by decide +kernel)
theorem i_Q_lastDifference : Cond.instanceMethod m_Q_lastDifference.1 ∈ pe_WS := pe_w4 (List.mem_of_getElem? (i := 126) (by decide +kernel))
theorem s_Q_lastDifference : Cond.selects "PaintEditor$Painter" m_Q_lastDifference.1 m_Q_lastDifference.1 ∈ pe_WS := pe_wp (q := (m_Q_lastDifference.1, 3)) (by decide +kernel)
theorem z_Q_blankBeginning : Cond.static m_Q_blankBeginning.1 ∈ pe_WS := pe_w4 (List.mem_of_getElem? (i := 129) (by decide +kernel))
theorem i_Q_sendCluster : Cond.instanceMethod m_Q_sendCluster.1 ∈ pe_WS := pe_w4 (List.mem_of_getElem? (i := 139) (by decide +kernel))
theorem s_Q_sendCluster : Cond.selects "PaintEditor$Painter" m_Q_sendCluster.1 m_Q_sendCluster.1 ∈ pe_WS := pe_wp (q := (m_Q_sendCluster.1, 3)) (by decide +kernel)
theorem i_Q_makePlaceRight : Cond.instanceMethod m_Q_makePlaceRight.1 ∈ pe_WS := pe_w4 (List.mem_of_getElem? (i := 149) (by decide +kernel))
theorem s_Q_makePlaceRight : Cond.selects "PaintEditor$Painter" m_Q_makePlaceRight.1 m_Q_makePlaceRight.1 ∈ pe_WS := pe_w4 (List.mem_of_getElem? (i := 150) (by decide +kernel))
theorem i_Q_sendPlace : Cond.instanceMethod m_Q_sendPlace.1 ∈ pe_WS := pe_w4 (List.mem_of_getElem? (i := 145) (by decide +kernel))
theorem s_Q_sendPlace : Cond.selects "PaintEditor$Painter" m_Q_sendPlace.1 m_Q_sendPlace.1 ∈ pe_WS := pe_wp (q := (m_Q_sendPlace.1, 3)) (by decide +kernel)
theorem i_Q_sendLook : Cond.instanceMethod m_Q_sendLook.1 ∈ pe_WS := pe_w4 (List.mem_of_getElem? (i := 88) (by decide +kernel))
theorem s_Q_sendLook : Cond.selects "PaintEditor$Painter" m_Q_sendLook.1 m_Q_sendLook.1 ∈ pe_WS := pe_wp (q := (m_Q_sendLook.1, 3)) (by decide +kernel)
theorem i_Q_sendSequence : Cond.instanceMethod m_Q_sendSequence.1 ∈ pe_WS := pe_w4 (List.mem_of_getElem? (i := 92) (by decide +kernel))
theorem s_Q_sendSequence : Cond.selects "PaintEditor$Painter" m_Q_sendSequence.1 m_Q_sendSequence.1 ∈ pe_WS := pe_wp (q := (m_Q_sendSequence.1, 3)) (by decide +kernel)
theorem i_Q_putNumber : Cond.instanceMethod m_Q_putNumber.1 ∈ pe_WS := pe_w4 (List.mem_of_getElem? (i := 100) (by decide +kernel))
theorem s_Q_putNumber : Cond.selects "PaintEditor$Painter" m_Q_putNumber.1 m_Q_putNumber.1 ∈ pe_WS := pe_wp (q := (m_Q_putNumber.1, 3)) (by decide +kernel)
theorem i_Q_sendCharacter : Cond.instanceMethod m_Q_sendCharacter.1 ∈ pe_WS := pe_w4 (List.mem_of_getElem? (i := 154) (by decide +kernel))
theorem s_Q_sendCharacter : Cond.selects "PaintEditor$Painter" m_Q_sendCharacter.1 m_Q_sendCharacter.1 ∈ pe_WS := pe_wp (q := (m_Q_sendCharacter.1, 3)) (by decide +kernel)
theorem i_Q_put : Cond.instanceMethod m_Q_put.1 ∈ pe_WS := pe_w4 (List.mem_of_getElem? (i := 96) (by decide +kernel))
theorem s_Q_put : Cond.selects "PaintEditor$Painter" m_Q_put.1 m_Q_put.1 ∈ pe_WS := pe_wp (q := (m_Q_put.1, 3)) (by decide +kernel)
theorem i_S_compose : Cond.instanceMethod m_S_compose.1 ∈ pe_WS := pe_w3 (List.mem_of_getElem? (i := 122) (by decide +kernel))
theorem s_S_compose : Cond.selects "PaintEditor$Screen" m_S_compose.1 m_S_compose.1 ∈ pe_WS := pe_w3 (List.mem_of_getElem? (i := 123) (by decide +kernel))
theorem i_S_follow : Cond.instanceMethod m_S_follow.1 ∈ pe_WS := pe_w3 (List.mem_of_getElem? (i := 132) (by decide +kernel))
theorem s_S_follow : Cond.selects "PaintEditor$Screen" m_S_follow.1 m_S_follow.1 ∈ pe_WS := pe_wp (q := (m_S_follow.1, 5)) (by decide +kernel)
theorem i_S_showCluster : Cond.instanceMethod m_S_showCluster.1 ∈ pe_WS := pe_w3 (List.mem_of_getElem? (i := 136) (by decide +kernel))
theorem s_S_showCluster : Cond.selects "PaintEditor$Screen" m_S_showCluster.1 m_S_showCluster.1 ∈ pe_WS := pe_wp (q := (m_S_showCluster.1, 5)) (by decide +kernel)
theorem i_S_showStatus : Cond.instanceMethod m_S_showStatus.1 ∈ pe_WS := pe_w3 (List.mem_of_getElem? (i := 154) (by decide +kernel))
theorem s_S_showStatus : Cond.selects "PaintEditor$Screen" m_S_showStatus.1 m_S_showStatus.1 ∈ pe_WS := pe_wp (q := (m_S_showStatus.1, 5)) (by decide +kernel)
theorem i_Z_write : Cond.instanceMethod m_Z_write.1 ∈ pe_WS := pe_w4 (List.mem_of_getElem? (i := 157) (by decide +kernel))
theorem s_Z_write : Cond.selects "PaintEditor$Terminal" m_Z_write.1 m_Z_write.1 ∈ pe_WS := pe_w4 (List.mem_of_getElem? (i := 158) (by decide +kernel))
theorem i_Z_joins : Cond.instanceMethod m_Z_joins.1 ∈ pe_WS := pe_w4 (List.mem_of_getElem? (i := 163) (by decide +kernel))
theorem s_Z_joins : Cond.selects "PaintEditor$Terminal" m_Z_joins.1 m_Z_joins.1 ∈ pe_WS := pe_wp (q := (m_Z_joins.1, 8)) (by decide +kernel)
theorem i_Z_writeCells : Cond.instanceMethod m_Z_writeCells.1 ∈ pe_WS := pe_w4 (List.mem_of_getElem? (i := 176) (by decide +kernel))
theorem s_Z_writeCells : Cond.selects "PaintEditor$Terminal" m_Z_writeCells.1 m_Z_writeCells.1 ∈ pe_WS := pe_wp (q := (m_Z_writeCells.1, 8)) (by decide +kernel)
theorem i_Z_moveTo : Cond.instanceMethod m_Z_moveTo.1 ∈ pe_WS := pe_w3 (List.mem_of_getElem? (i := 110) (by decide +kernel))
theorem s_Z_moveTo : Cond.selects "PaintEditor$Terminal" m_Z_moveTo.1 m_Z_moveTo.1 ∈ pe_WS := pe_w3 (List.mem_of_getElem? (i := 111) (by decide +kernel))
theorem i_Z_eraseRestOfRow : Cond.instanceMethod m_Z_eraseRestOfRow.1 ∈ pe_WS := pe_w4 (List.mem_of_getElem? (i := 183) (by decide +kernel))
theorem s_Z_eraseRestOfRow : Cond.selects "PaintEditor$Terminal" m_Z_eraseRestOfRow.1 m_Z_eraseRestOfRow.1 ∈ pe_WS := pe_w4 (List.mem_of_getElem? (i := 184) (by decide +kernel))
theorem i_Z_eraseAll : Cond.instanceMethod m_Z_eraseAll.1 ∈ pe_WS := pe_w4 (List.mem_of_getElem? (i := 103) (by decide +kernel))
theorem s_Z_eraseAll : Cond.selects "PaintEditor$Terminal" m_Z_eraseAll.1 m_Z_eraseAll.1 ∈ pe_WS := pe_w4 (List.mem_of_getElem? (i := 104) (by decide +kernel))
theorem i_Z_resize : Cond.instanceMethod m_Z_resize.1 ∈ pe_WS := pe_w3 (List.mem_of_getElem? (i := 105) (by decide +kernel))
theorem s_Z_resize : Cond.selects "PaintEditor$Terminal" m_Z_resize.1 m_Z_resize.1 ∈ pe_WS := pe_w3 (List.mem_of_getElem? (i := 106) (by decide +kernel))
theorem i_Z_endWriting : Cond.instanceMethod m_Z_endWriting.1 ∈ pe_WS := pe_w3 (List.mem_of_getElem? (i := 115) (by decide +kernel))
theorem s_Z_endWriting : Cond.selects "PaintEditor$Terminal" m_Z_endWriting.1 m_Z_endWriting.1 ∈ pe_WS := pe_wp (q := (m_Z_endWriting.1, 8)) (by decide +kernel)
theorem i_T_codeAt : Cond.instanceMethod m_T_codeAt.1 ∈ pe_WS := pe_w2 (List.mem_of_getElem? (i := 154) (by decide +kernel))
theorem s_T_codeAt : Cond.selects "PaintEditor$Text" m_T_codeAt.1 m_T_codeAt.1 ∈ pe_WS := pe_w2 (List.mem_of_getElem? (i := 155) (by decide +kernel))
theorem i_T_hasRoomFor : Cond.instanceMethod m_T_hasRoomFor.1 ∈ pe_WS := pe_w2 (List.mem_of_getElem? (i := 198) (by decide +kernel))
theorem s_T_hasRoomFor : Cond.selects "PaintEditor$Text" m_T_hasRoomFor.1 m_T_hasRoomFor.1 ∈ pe_WS := pe_w2 (List.mem_of_getElem? (i := 199) (by decide +kernel))
theorem i_T_insert : Cond.instanceMethod m_T_insert.1 ∈ pe_WS := pe_w2 (List.mem_of_getElem? (i := 210) (by decide +kernel))
theorem s_T_insert : Cond.selects "PaintEditor$Text" m_T_insert.1 m_T_insert.1 ∈ pe_WS := pe_w2 (List.mem_of_getElem? (i := 211) (by decide +kernel))
theorem i_T_remove : Cond.instanceMethod m_T_remove.1 ∈ pe_WS := pe_w2 (List.mem_of_getElem? (i := 239) (by decide +kernel))
theorem s_T_remove : Cond.selects "PaintEditor$Text" m_T_remove.1 m_T_remove.1 ∈ pe_WS := pe_w3 (List.mem_of_getElem? (i := 0) (by decide +kernel))
theorem i_T_copyTo : Cond.instanceMethod m_T_copyTo.1 ∈ pe_WS := pe_w2 (List.mem_of_getElem? (i := 235) (by decide +kernel))
theorem s_T_copyTo : Cond.selects "PaintEditor$Text" m_T_copyTo.1 m_T_copyTo.1 ∈ pe_WS := pe_w2 (List.mem_of_getElem? (i := 236) (by decide +kernel))
theorem i_T_isBeginning : Cond.instanceMethod m_T_isBeginning.1 ∈ pe_WS := pe_w2 (List.mem_of_getElem? (i := 150) (by decide +kernel))
theorem s_T_isBeginning : Cond.selects "PaintEditor$Text" m_T_isBeginning.1 m_T_isBeginning.1 ∈ pe_WS := pe_w2 (List.mem_of_getElem? (i := 151) (by decide +kernel))
theorem i_T_beginningFrom : Cond.instanceMethod m_T_beginningFrom.1 ∈ pe_WS := pe_w3 (List.mem_of_getElem? (i := 3) (by decide +kernel))
theorem s_T_beginningFrom : Cond.selects "PaintEditor$Text" m_T_beginningFrom.1 m_T_beginningFrom.1 ∈ pe_WS := pe_w3 (List.mem_of_getElem? (i := 4) (by decide +kernel))
theorem i_T_beginningAhead : Cond.instanceMethod m_T_beginningAhead.1 ∈ pe_WS := pe_w2 (List.mem_of_getElem? (i := 221) (by decide +kernel))
theorem s_T_beginningAhead : Cond.selects "PaintEditor$Text" m_T_beginningAhead.1 m_T_beginningAhead.1 ∈ pe_WS := pe_w2 (List.mem_of_getElem? (i := 222) (by decide +kernel))
theorem i_T_lineBeginning : Cond.instanceMethod m_T_lineBeginning.1 ∈ pe_WS := pe_w3 (List.mem_of_getElem? (i := 8) (by decide +kernel))
theorem s_T_lineBeginning : Cond.selects "PaintEditor$Text" m_T_lineBeginning.1 m_T_lineBeginning.1 ∈ pe_WS := pe_w3 (List.mem_of_getElem? (i := 9) (by decide +kernel))
theorem i_T_lineEnd : Cond.instanceMethod m_T_lineEnd.1 ∈ pe_WS := pe_w3 (List.mem_of_getElem? (i := 12) (by decide +kernel))
theorem s_T_lineEnd : Cond.selects "PaintEditor$Text" m_T_lineEnd.1 m_T_lineEnd.1 ∈ pe_WS := pe_w3 (List.mem_of_getElem? (i := 13) (by decide +kernel))
theorem i_T_lineNumber : Cond.instanceMethod m_T_lineNumber.1 ∈ pe_WS := pe_w3 (List.mem_of_getElem? (i := 211) (by decide +kernel))
theorem s_T_lineNumber : Cond.selects "PaintEditor$Text" m_T_lineNumber.1 m_T_lineNumber.1 ∈ pe_WS := pe_w3 (List.mem_of_getElem? (i := 212) (by decide +kernel))
theorem i_T_clusterAt : Cond.instanceMethod m_T_clusterAt.1 ∈ pe_WS := pe_w3 (List.mem_of_getElem? (i := 143) (by decide +kernel))
theorem s_T_clusterAt : Cond.selects "PaintEditor$Text" m_T_clusterAt.1 m_T_clusterAt.1 ∈ pe_WS := pe_w3 (List.mem_of_getElem? (i := 144) (by decide +kernel))
theorem z_A_fill : Cond.static m_A_fill.1 ∈ pe_WS := pe_w1 (List.mem_of_getElem? (i := 237) (by decide +kernel))
theorem z_max : Cond.static Lib.Math.max.name ∈ pe_WS := pe_w1 (List.mem_of_getElem? (i := 36) (by decide +kernel))
theorem z_min : Cond.static Lib.Math.min.name ∈ pe_WS := pe_w1 (List.mem_of_getElem? (i := 33) (by decide +kernel))
theorem n_math : Cond.initialized "java/lang/Math" ∈ pe_WS := pe_w1 (List.mem_of_getElem? (i := 2) (by decide +kernel))
theorem k_max : Cond.code Lib.Math.max.name Lib.Math.max.code 2 (some .int) ∈ pe_WS := pe_w1 (List.mem_of_getElem? (i := 37) (by decide +kernel))
theorem k_min : Cond.code Lib.Math.min.name Lib.Math.min.code 2 (some .int) ∈ pe_WS := pe_w1 (List.mem_of_getElem? (i := 34) (by decide +kernel))
theorem z_copy : Cond.static arraycopyName ∈ pe_WS := pe_w2 (List.mem_of_getElem? (i := 214) (by decide +kernel))
theorem n_copy : Cond.native arraycopyName ∈ pe_WS := pe_w2 (List.mem_of_getElem? (i := 215) (by decide +kernel))
theorem n_system : Cond.initialized "java/lang/System" ∈ pe_WS := pe_w1 (List.mem_of_getElem? (i := 19) (by decide +kernel))
theorem c_P_9 : Cond.methodLink "PaintEditor" 9 Lib.Math.min.name ∈ pe_WS := pe_w1 (List.mem_of_getElem? (i := 32) (by decide +kernel))
theorem c_P_15 : Cond.methodLink "PaintEditor" 15 Lib.Math.max.name ∈ pe_WS := pe_w1 (List.mem_of_getElem? (i := 35) (by decide +kernel))
theorem q_SU_20 : Cond.constant "java/lang/StringUTF16" 20 (1073741823) ∈ pe_WS := pe_w1 (List.mem_of_getElem? (i := 215) (by decide +kernel))
theorem q_K_26 : Cond.constant "PaintEditor$Keyboard" 26 (65533) ∈ pe_WS := pe_w2 (List.mem_of_getElem? (i := 134) (by decide +kernel))
theorem q_E_53 : Cond.constant "PaintEditor$Editor" 53 (65536) ∈ pe_WS := pe_w2 (List.mem_of_getElem? (i := 139) (by decide +kernel))
theorem q_E_54 : Cond.constant "PaintEditor$Editor" 54 (65537) ∈ pe_WS := pe_w2 (List.mem_of_getElem? (i := 140) (by decide +kernel))
theorem q_C_15 : Cond.constant "PaintEditor$Codes" 15 (55203) ∈ pe_WS := pe_w2 (List.mem_of_getElem? (i := 171) (by decide +kernel))
theorem q_C_16 : Cond.constant "PaintEditor$Codes" 16 (65281) ∈ pe_WS := pe_w2 (List.mem_of_getElem? (i := 172) (by decide +kernel))
theorem q_C_17 : Cond.constant "PaintEditor$Codes" 17 (65376) ∈ pe_WS := pe_w2 (List.mem_of_getElem? (i := 173) (by decide +kernel))
theorem c_L_39 : Cond.methodLink "PaintEditor$Layout" 39 Lib.Math.min.name ∈ pe_WS := pe_w2 (List.mem_of_getElem? (i := 174) (by decide +kernel))
theorem q_E_85 : Cond.constant "PaintEditor$Editor" 85 (65544) ∈ pe_WS := pe_w2 (List.mem_of_getElem? (i := 185) (by decide +kernel))
theorem c_T_19 : Cond.methodLink "PaintEditor$Text" 19 arraycopyName ∈ pe_WS := pe_w2 (List.mem_of_getElem? (i := 213) (by decide +kernel))
theorem c_T_47 : Cond.methodLink "PaintEditor$Text" 47 Lib.Math.max.name ∈ pe_WS := pe_w2 (List.mem_of_getElem? (i := 225) (by decide +kernel))
theorem c_T_41 : Cond.methodLink "PaintEditor$Text" 41 Lib.Math.min.name ∈ pe_WS := pe_w3 (List.mem_of_getElem? (i := 6) (by decide +kernel))
theorem c_E_128 : Cond.methodLink "PaintEditor$Editor" 128 Lib.Math.min.name ∈ pe_WS := pe_w3 (List.mem_of_getElem? (i := 19) (by decide +kernel))
theorem c_E_134 : Cond.methodLink "PaintEditor$Editor" 134 Lib.Math.max.name ∈ pe_WS := pe_w3 (List.mem_of_getElem? (i := 20) (by decide +kernel))
theorem c_K_62 : Cond.methodLink "PaintEditor$Keyboard" 62 Lib.Math.min.name ∈ pe_WS := pe_w3 (List.mem_of_getElem? (i := 40) (by decide +kernel))
theorem q_K_68 : Cond.constant "PaintEditor$Keyboard" 68 (65536) ∈ pe_WS := pe_w3 (List.mem_of_getElem? (i := 41) (by decide +kernel))
theorem q_K_69 : Cond.constant "PaintEditor$Keyboard" 69 (65537) ∈ pe_WS := pe_w3 (List.mem_of_getElem? (i := 42) (by decide +kernel))
theorem q_K_70 : Cond.constant "PaintEditor$Keyboard" 70 (65538) ∈ pe_WS := pe_w3 (List.mem_of_getElem? (i := 43) (by decide +kernel))
theorem q_K_71 : Cond.constant "PaintEditor$Keyboard" 71 (65539) ∈ pe_WS := pe_w3 (List.mem_of_getElem? (i := 44) (by decide +kernel))
theorem q_K_72 : Cond.constant "PaintEditor$Keyboard" 72 (65540) ∈ pe_WS := pe_w3 (List.mem_of_getElem? (i := 45) (by decide +kernel))
theorem q_K_73 : Cond.constant "PaintEditor$Keyboard" 73 (65541) ∈ pe_WS := pe_w3 (List.mem_of_getElem? (i := 46) (by decide +kernel))
theorem q_K_77 : Cond.constant "PaintEditor$Keyboard" 77 (65542) ∈ pe_WS := pe_w3 (List.mem_of_getElem? (i := 51) (by decide +kernel))
theorem q_K_78 : Cond.constant "PaintEditor$Keyboard" 78 (65543) ∈ pe_WS := pe_w3 (List.mem_of_getElem? (i := 52) (by decide +kernel))
theorem q_K_79 : Cond.constant "PaintEditor$Keyboard" 79 (65544) ∈ pe_WS := pe_w3 (List.mem_of_getElem? (i := 53) (by decide +kernel))
theorem q_C_21 : Cond.constant "PaintEditor$Codes" 21 (65536) ∈ pe_WS := pe_w3 (List.mem_of_getElem? (i := 102) (by decide +kernel))
theorem q_C_22 : Cond.constant "PaintEditor$Codes" 22 (8388608) ∈ pe_WS := pe_w3 (List.mem_of_getElem? (i := 150) (by decide +kernel))
theorem q_AB_39 : Cond.constant "java/lang/AbstractStringBuilder" 39 (2147483647) ∈ pe_WS := pe_w3 (List.mem_of_getElem? (i := 179) (by decide +kernel))
theorem c_A_304 : Cond.methodLink "java/util/Arrays" 304 Lib.Math.min.name ∈ pe_WS := pe_w3 (List.mem_of_getElem? (i := 190) (by decide +kernel))
theorem c_A_150 : Cond.methodLink "java/util/Arrays" 150 arraycopyName ∈ pe_WS := pe_w3 (List.mem_of_getElem? (i := 191) (by decide +kernel))
theorem c_AB_138 : Cond.methodLink "java/lang/AbstractStringBuilder" 138 Lib.Math.min.name ∈ pe_WS := pe_w4 (List.mem_of_getElem? (i := 77) (by decide +kernel))
theorem c_Q_55 : Cond.methodLink "PaintEditor$Painter" 55 Lib.Math.max.name ∈ pe_WS := pe_w4 (List.mem_of_getElem? (i := 136) (by decide +kernel))
theorem c_Z_40 : Cond.methodLink "PaintEditor$Terminal" 40 Lib.Math.min.name ∈ pe_WS := pe_w4 (List.mem_of_getElem? (i := 172) (by decide +kernel))
theorem q_M_215 : Cond.constantLong "PaintEditorModel" 215 (255) ∈ pe_WS := pe_w5 (List.mem_of_getElem? (i := 125) (by decide +kernel))
theorem q_M_196 : Cond.constant "PaintEditorModel" 196 (65533) ∈ pe_WS := pe_w5 (List.mem_of_getElem? (i := 134) (by decide +kernel))
theorem q_M_84 : Cond.constant "PaintEditorModel" 84 (55203) ∈ pe_WS := pe_w5 (List.mem_of_getElem? (i := 225) (by decide +kernel))
theorem q_M_85 : Cond.constant "PaintEditorModel" 85 (65281) ∈ pe_WS := pe_w5 (List.mem_of_getElem? (i := 226) (by decide +kernel))
theorem q_M_86 : Cond.constant "PaintEditorModel" 86 (65376) ∈ pe_WS := pe_w5 (List.mem_of_getElem? (i := 227) (by decide +kernel))
theorem q_M_220 : Cond.constant "PaintEditorModel" 220 (65536) ∈ pe_WS := pe_w6 (List.mem_of_getElem? (i := 28) (by decide +kernel))
theorem q_M_221 : Cond.constant "PaintEditorModel" 221 (8388608) ∈ pe_WS := pe_w6 (List.mem_of_getElem? (i := 29) (by decide +kernel))
theorem q_M_256 : Cond.constant "PaintEditorModel" 256 (65535) ∈ pe_WS := pe_w6 (List.mem_of_getElem? (i := 70) (by decide +kernel))
end
