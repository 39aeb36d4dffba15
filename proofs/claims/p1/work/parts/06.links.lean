/-! methods, by program: a name, code, locals, result, frames, words -/
abbrev m_P_type : pe_Y := (⟨"PaintEditor", "type", "(JI)I"⟩, prog_1_method_2_code, 6, (Option.some FieldType.int), 7, 161)
abbrev m_P_tick : pe_Y := (⟨"PaintEditor", "tick", "()I"⟩, prog_1_method_3_code, 1, (Option.some FieldType.int), 7, 161)
abbrev m_P_size : pe_Y := (⟨"PaintEditor", "size", "(II)Z"⟩, prog_1_method_4_code, 3, (Option.some FieldType.boolean), 5, 114)
abbrev m_P_draw : pe_Y := (⟨"PaintEditor", "draw", "()I"⟩, prog_1_method_5_code, 2, (Option.some FieldType.int), 7, 165)
abbrev m_P_text : pe_Y := (⟨"PaintEditor", "text", "(I)I"⟩, prog_1_method_6_code, 2, (Option.some FieldType.int), 1, 21)
abbrev m_P_state : pe_Y := (⟨"PaintEditor", "state", "(I)I"⟩, prog_1_method_7_code, 2, (Option.some FieldType.int), 0, 0)
abbrev m_P_cell : pe_Y := (⟨"PaintEditor", "cell", "(II)I"⟩, prog_1_method_8_code, 3, (Option.some FieldType.int), 2, 44)
abbrev m_P_look : pe_Y := (⟨"PaintEditor", "look", "(II)I"⟩, prog_1_method_9_code, 3, (Option.some FieldType.int), 2, 44)
abbrev m_P_terminal : pe_Y := (⟨"PaintEditor", "terminal", "(I)I"⟩, prog_1_method_10_code, 3, (Option.some FieldType.int), 0, 0)
abbrev m_P_sent : pe_Y := (⟨"PaintEditor", "sent", "(I)I"⟩, prog_1_method_11_code, 2, (Option.some FieldType.int), 1, 21)
abbrev m_M_isMark : pe_Y := (⟨"PaintEditorModel", "isMark", "(I)Z"⟩, prog_13_method_2_code, 1, (Option.some FieldType.boolean), 0, 0)
abbrev m_M_isWide : pe_Y := (⟨"PaintEditorModel", "isWide", "(I)Z"⟩, prog_13_method_3_code, 1, (Option.some FieldType.boolean), 0, 0)
abbrev m_M_begins : pe_Y := (⟨"PaintEditorModel", "begins", "(I)Z"⟩, prog_13_method_4_code, 3, (Option.some FieldType.boolean), 1, 20)
abbrev m_M_after : pe_Y := (⟨"PaintEditorModel", "after", "(I)I"⟩, prog_13_method_5_code, 3, (Option.some FieldType.int), 2, 42)
abbrev m_M_before : pe_Y := (⟨"PaintEditorModel", "before", "(I)I"⟩, prog_13_method_6_code, 3, (Option.some FieldType.int), 2, 42)
abbrev m_M_widthOf : pe_Y := (⟨"PaintEditorModel", "widthOf", "(II)I"⟩, prog_13_method_7_code, 3, (Option.some FieldType.int), 1, 20)
abbrev m_M_layOut : pe_Y := (⟨"PaintEditorModel", "layOut", "()V"⟩, prog_13_method_8_code, 6, (Option.none : Option FieldType), 3, 64)
abbrev m_M_isSmall : pe_Y := (⟨"PaintEditorModel", "isSmall", "()Z"⟩, prog_13_method_9_code, 1, (Option.some FieldType.boolean), 0, 0)
abbrev m_M_forgetFirst : pe_Y := (⟨"PaintEditorModel", "forgetFirst", "()V"⟩, prog_13_method_10_code, 2, (Option.none : Option FieldType), 0, 0)
abbrev m_M_open : pe_Y := (⟨"PaintEditorModel", "open", "(II)V"⟩, prog_13_method_11_code, 4, (Option.none : Option FieldType), 0, 0)
abbrev m_M_close : pe_Y := (⟨"PaintEditorModel", "close", "(II)V"⟩, prog_13_method_12_code, 4, (Option.none : Option FieldType), 0, 0)
abbrev m_M_note : pe_Y := (⟨"PaintEditorModel", "note", "(III)V"⟩, prog_13_method_13_code, 5, (Option.none : Option FieldType), 1, 21)
abbrev m_M_settle : pe_Y := (⟨"PaintEditorModel", "settle", "(I)V"⟩, prog_13_method_14_code, 2, (Option.none : Option FieldType), 2, 42)
abbrev m_M_insertOne : pe_Y := (⟨"PaintEditorModel", "insertOne", "(I)V"⟩, prog_13_method_15_code, 2, (Option.none : Option FieldType), 3, 63)
abbrev m_M_insertClip : pe_Y := (⟨"PaintEditorModel", "insertClip", "()V"⟩, prog_13_method_16_code, 2, (Option.none : Option FieldType), 3, 63)
abbrev m_M_takeAway : pe_Y := (⟨"PaintEditorModel", "takeAway", "(II)V"⟩, prog_13_method_17_code, 3, (Option.none : Option FieldType), 3, 63)
abbrev m_M_cutOut : pe_Y := (⟨"PaintEditorModel", "cutOut", "()V"⟩, prog_13_method_18_code, 4, (Option.none : Option FieldType), 4, 85)
abbrev m_M_undo : pe_Y := (⟨"PaintEditorModel", "undo", "()V"⟩, prog_13_method_19_code, 3, (Option.none : Option FieldType), 3, 63)
abbrev m_M_character : pe_Y := (⟨"PaintEditorModel", "character", "(I)V"⟩, prog_13_method_20_code, 2, (Option.none : Option FieldType), 4, 84)
abbrev m_M_control : pe_Y := (⟨"PaintEditorModel", "control", "(II)V"⟩, prog_13_method_21_code, 3, (Option.none : Option FieldType), 6, 129)
abbrev m_M_command : pe_Y := (⟨"PaintEditorModel", "command", "(I)V"⟩, prog_13_method_22_code, 2, (Option.none : Option FieldType), 5, 108)
abbrev m_M_escapeKey : pe_Y := (⟨"PaintEditorModel", "escapeKey", "()V"⟩, prog_13_method_23_code, 1, (Option.none : Option FieldType), 0, 0)
abbrev m_M_upOrDown : pe_Y := (⟨"PaintEditorModel", "upOrDown", "(I)V"⟩, prog_13_method_24_code, 6, (Option.none : Option FieldType), 4, 89)
abbrev m_M_lineBegin : pe_Y := (⟨"PaintEditorModel", "lineBegin", "()I"⟩, prog_13_method_25_code, 2, (Option.some FieldType.int), 0, 0)
abbrev m_M_lineEnd : pe_Y := (⟨"PaintEditorModel", "lineEnd", "()I"⟩, prog_13_method_26_code, 2, (Option.some FieldType.int), 0, 0)
abbrev m_M_finish : pe_Y := (⟨"PaintEditorModel", "finish", "(I)V"⟩, prog_13_method_27_code, 4, (Option.none : Option FieldType), 5, 114)
abbrev m_M_plain : pe_Y := (⟨"PaintEditorModel", "plain", "(II)V"⟩, prog_13_method_28_code, 3, (Option.none : Option FieldType), 7, 151)
abbrev m_M_within : pe_Y := (⟨"PaintEditorModel", "within", "(II)V"⟩, prog_13_method_29_code, 3, (Option.none : Option FieldType), 8, 173)
abbrev m_M_inSequence : pe_Y := (⟨"PaintEditorModel", "inSequence", "(II)V"⟩, prog_13_method_30_code, 3, (Option.none : Option FieldType), 8, 173)
abbrev m_M_take : pe_Y := (⟨"PaintEditorModel", "take", "(I)V"⟩, prog_13_method_31_code, 3, (Option.none : Option FieldType), 9, 195)
abbrev m_M_type : pe_Y := (⟨"PaintEditorModel", "type", "(JI)I"⟩, prog_13_method_32_code, 5, (Option.some FieldType.int), 10, 217)
abbrev m_M_tick : pe_Y := (⟨"PaintEditorModel", "tick", "()I"⟩, prog_13_method_33_code, 1, (Option.some FieldType.int), 5, 105)
abbrev m_M_clusterAt : pe_Y := (⟨"PaintEditorModel", "clusterAt", "(I)I"⟩, prog_13_method_34_code, 4, (Option.some FieldType.int), 3, 64)
abbrev m_M_fillText : pe_Y := (⟨"PaintEditorModel", "fillText", "()V"⟩, prog_13_method_35_code, 9, (Option.none : Option FieldType), 4, 87)
abbrev m_M_status : pe_Y := (⟨"PaintEditorModel", "status", "(II)I"⟩, prog_13_method_36_code, 3, (Option.some FieldType.int), 0, 0)
abbrev m_M_statusNumber : pe_Y := (⟨"PaintEditorModel", "statusNumber", "(II)I"⟩, prog_13_method_37_code, 5, (Option.some FieldType.int), 1, 22)
abbrev m_M_fillStatus : pe_Y := (⟨"PaintEditorModel", "fillStatus", "()V"⟩, prog_13_method_38_code, 4, (Option.none : Option FieldType), 2, 46)
abbrev m_M_compose : pe_Y := (⟨"PaintEditorModel", "compose", "()V"⟩, prog_13_method_39_code, 2, (Option.none : Option FieldType), 5, 115)
abbrev m_M_put : pe_Y := (⟨"PaintEditorModel", "put", "(I)V"⟩, prog_13_method_40_code, 2, (Option.none : Option FieldType), 0, 0)
abbrev m_M_putNumber : pe_Y := (⟨"PaintEditorModel", "putNumber", "(I)V"⟩, prog_13_method_41_code, 2, (Option.none : Option FieldType), 1, 21)
abbrev m_M_putBegin : pe_Y := (⟨"PaintEditorModel", "putBegin", "()V"⟩, prog_13_method_42_code, 1, (Option.none : Option FieldType), 1, 21)
abbrev m_M_blankHalf : pe_Y := (⟨"PaintEditorModel", "blankHalf", "(I)V"⟩, prog_13_method_43_code, 2, (Option.none : Option FieldType), 1, 20)
abbrev m_M_putCode : pe_Y := (⟨"PaintEditorModel", "putCode", "(I)V"⟩, prog_13_method_44_code, 2, (Option.none : Option FieldType), 1, 21)
abbrev m_M_write : pe_Y := (⟨"PaintEditorModel", "write", "(I)V"⟩, prog_13_method_45_code, 4, (Option.none : Option FieldType), 2, 42)
abbrev m_M_sendPlace : pe_Y := (⟨"PaintEditorModel", "sendPlace", "(II)V"⟩, prog_13_method_46_code, 3, (Option.none : Option FieldType), 2, 42)
abbrev m_M_go : pe_Y := (⟨"PaintEditorModel", "go", "(IIZ)V"⟩, prog_13_method_47_code, 5, (Option.none : Option FieldType), 3, 64)
abbrev m_M_setLook : pe_Y := (⟨"PaintEditorModel", "setLook", "(I)V"⟩, prog_13_method_48_code, 2, (Option.none : Option FieldType), 2, 41)
abbrev m_M_sendCluster : pe_Y := (⟨"PaintEditorModel", "sendCluster", "(II)V"⟩, prog_13_method_49_code, 8, (Option.none : Option FieldType), 4, 88)
abbrev m_M_sendClusters : pe_Y := (⟨"PaintEditorModel", "sendClusters", "(III)V"⟩, prog_13_method_50_code, 5, (Option.none : Option FieldType), 5, 115)
abbrev m_M_differs : pe_Y := (⟨"PaintEditorModel", "differs", "(I)Z"⟩, prog_13_method_51_code, 2, (Option.some FieldType.boolean), 0, 0)
abbrev m_M_drawRow : pe_Y := (⟨"PaintEditorModel", "drawRow", "(I)V"⟩, prog_13_method_52_code, 8, (Option.none : Option FieldType), 6, 139)
abbrev m_M_draw : pe_Y := (⟨"PaintEditorModel", "draw", "()I"⟩, prog_13_method_53_code, 2, (Option.some FieldType.int), 7, 166)
abbrev m_M_size : pe_Y := (⟨"PaintEditorModel", "size", "(II)Z"⟩, prog_13_method_54_code, 9, (Option.some FieldType.boolean), 1, 20)
abbrev m_M_text : pe_Y := (⟨"PaintEditorModel", "text", "(I)I"⟩, prog_13_method_55_code, 2, (Option.some FieldType.int), 0, 0)
abbrev m_M_state : pe_Y := (⟨"PaintEditorModel", "state", "(I)I"⟩, prog_13_method_56_code, 2, (Option.some FieldType.int), 0, 0)
abbrev m_M_isCell : pe_Y := (⟨"PaintEditorModel", "isCell", "(II)Z"⟩, prog_13_method_57_code, 3, (Option.some FieldType.boolean), 0, 0)
abbrev m_M_cell : pe_Y := (⟨"PaintEditorModel", "cell", "(II)I"⟩, prog_13_method_58_code, 3, (Option.some FieldType.int), 1, 22)
abbrev m_M_look : pe_Y := (⟨"PaintEditorModel", "look", "(II)I"⟩, prog_13_method_59_code, 3, (Option.some FieldType.int), 1, 22)
abbrev m_M_terminal : pe_Y := (⟨"PaintEditorModel", "terminal", "(I)I"⟩, prog_13_method_60_code, 2, (Option.some FieldType.int), 0, 0)
abbrev m_M_sent : pe_Y := (⟨"PaintEditorModel", "sent", "(I)I"⟩, prog_13_method_61_code, 2, (Option.some FieldType.int), 0, 0)
abbrev m_C_isMark : pe_Y := (⟨"PaintEditor$Codes", "isMark", "(I)Z"⟩, prog_2_method_2_code, 1, (Option.some FieldType.boolean), 0, 0)
abbrev m_C_takesMarks : pe_Y := (⟨"PaintEditor$Codes", "takesMarks", "(I)Z"⟩, prog_2_method_3_code, 1, (Option.some FieldType.boolean), 1, 20)
abbrev m_C_isWide : pe_Y := (⟨"PaintEditor$Codes", "isWide", "(I)Z"⟩, prog_2_method_4_code, 1, (Option.some FieldType.boolean), 0, 0)
abbrev m_C_widthOf : pe_Y := (⟨"PaintEditor$Codes", "widthOf", "(I)I"⟩, prog_2_method_5_code, 1, (Option.some FieldType.int), 1, 20)
abbrev m_C_characterOf : pe_Y := (⟨"PaintEditor$Codes", "characterOf", "(I)I"⟩, prog_2_method_6_code, 1, (Option.some FieldType.int), 0, 0)
abbrev m_C_firstMarkOf : pe_Y := (⟨"PaintEditor$Codes", "firstMarkOf", "(I)I"⟩, prog_2_method_7_code, 2, (Option.some FieldType.int), 0, 0)
abbrev m_C_secondMarkOf : pe_Y := (⟨"PaintEditor$Codes", "secondMarkOf", "(I)I"⟩, prog_2_method_8_code, 2, (Option.some FieldType.int), 0, 0)
abbrev m_C_withMark : pe_Y := (⟨"PaintEditor$Codes", "withMark", "(II)I"⟩, prog_2_method_9_code, 3, (Option.some FieldType.int), 0, 0)
abbrev m_E_press : pe_Y := (⟨"PaintEditor$Editor", "press", "(I)V"⟩, prog_3_method_2_code, 2, (Option.none : Option FieldType), 6, 140)
abbrev m_E_isCharacter : pe_Y := (⟨"PaintEditor$Editor", "isCharacter", "(I)Z"⟩, prog_3_method_3_code, 1, (Option.some FieldType.boolean), 0, 0)
abbrev m_E_worksWhilePasting : pe_Y := (⟨"PaintEditor$Editor", "worksWhilePasting", "(I)Z"⟩, prog_3_method_4_code, 1, (Option.some FieldType.boolean), 1, 20)
abbrev m_E_worksOtherwise : pe_Y := (⟨"PaintEditor$Editor", "worksOtherwise", "(I)Z"⟩, prog_3_method_5_code, 1, (Option.some FieldType.boolean), 0, 0)
abbrev m_E_command : pe_Y := (⟨"PaintEditor$Editor", "command", "(I)V"⟩, prog_3_method_6_code, 2, (Option.none : Option FieldType), 5, 119)
abbrev m_E_insertOne : pe_Y := (⟨"PaintEditor$Editor", "insertOne", "(I)V"⟩, prog_3_method_7_code, 2, (Option.none : Option FieldType), 3, 72)
abbrev m_E_insert : pe_Y := (⟨"PaintEditor$Editor", "insert", "([II)V"⟩, prog_3_method_8_code, 3, (Option.none : Option FieldType), 2, 50)
abbrev m_E_removeBetween : pe_Y := (⟨"PaintEditor$Editor", "removeBetween", "(II)V"⟩, prog_3_method_9_code, 3, (Option.none : Option FieldType), 3, 75)
abbrev m_E_cut : pe_Y := (⟨"PaintEditor$Editor", "cut", "()V"⟩, prog_3_method_10_code, 3, (Option.none : Option FieldType), 4, 97)
abbrev m_E_undo : pe_Y := (⟨"PaintEditor$Editor", "undo", "()V"⟩, prog_3_method_11_code, 2, (Option.none : Option FieldType), 3, 72)
abbrev m_E_moveByRow : pe_Y := (⟨"PaintEditor$Editor", "moveByRow", "(I)V"⟩, prog_3_method_12_code, 3, (Option.none : Option FieldType), 4, 89)
abbrev m_E_isBetween : pe_Y := (⟨"PaintEditor$Editor", "isBetween", "(I)Z"⟩, prog_3_method_13_code, 2, (Option.some FieldType.boolean), 1, 21)
abbrev m_G_has : pe_Y := (⟨"PaintEditor$Grid", "has", "(II)Z"⟩, prog_4_method_2_code, 3, (Option.some FieldType.boolean), 0, 0)
abbrev m_G_clusterAt : pe_Y := (⟨"PaintEditor$Grid", "clusterAt", "(II)I"⟩, prog_4_method_3_code, 3, (Option.some FieldType.int), 1, 22)
abbrev m_G_lookAt : pe_Y := (⟨"PaintEditor$Grid", "lookAt", "(II)I"⟩, prog_4_method_4_code, 3, (Option.some FieldType.int), 1, 22)
abbrev m_G_put : pe_Y := (⟨"PaintEditor$Grid", "put", "(IIII)V"⟩, prog_4_method_5_code, 5, (Option.none : Option FieldType), 1, 22)
abbrev m_G_isBlank : pe_Y := (⟨"PaintEditor$Grid", "isBlank", "(II)Z"⟩, prog_4_method_6_code, 3, (Option.some FieldType.boolean), 2, 44)
abbrev m_G_isWideAt : pe_Y := (⟨"PaintEditor$Grid", "isWideAt", "(II)Z"⟩, prog_4_method_7_code, 3, (Option.some FieldType.boolean), 2, 44)
abbrev m_G_blankAll : pe_Y := (⟨"PaintEditor$Grid", "blankAll", "()V"⟩, prog_4_method_8_code, 1, (Option.none : Option FieldType), 1, 23)
abbrev m_G_blankFrom : pe_Y := (⟨"PaintEditor$Grid", "blankFrom", "(II)V"⟩, prog_4_method_9_code, 4, (Option.none : Option FieldType), 2, 46)
abbrev m_G_resize : pe_Y := (⟨"PaintEditor$Grid", "resize", "(II)V"⟩, prog_4_method_10_code, 4, (Option.none : Option FieldType), 3, 69)
abbrev m_H_keepInsertion : pe_Y := (⟨"PaintEditor$History", "keepInsertion", "(II)V"⟩, prog_5_method_2_code, 4, (Option.none : Option FieldType), 1, 20)
abbrev m_H_keepRemoval : pe_Y := (⟨"PaintEditor$History", "keepRemoval", "(LPaintEditor$Text;III)V"⟩, prog_5_method_3_code, 6, (Option.none : Option FieldType), 2, 50)
abbrev m_H_undoIn : pe_Y := (⟨"PaintEditor$History", "undoIn", "(LPaintEditor$Text;)I"⟩, prog_5_method_4_code, 3, (Option.some FieldType.int), 2, 50)
abbrev m_H_newSlot : pe_Y := (⟨"PaintEditor$History", "newSlot", "()I"⟩, prog_5_method_5_code, 1, (Option.some FieldType.int), 0, 0)
abbrev m_K_leave : pe_Y := (⟨"PaintEditor$Keyboard", "leave", "(I)I"⟩, prog_6_method_2_code, 2, (Option.some FieldType.int), 2, 41)
abbrev m_K_giveUp : pe_Y := (⟨"PaintEditor$Keyboard", "giveUp", "()I"⟩, prog_6_method_3_code, 2, (Option.some FieldType.int), 0, 0)
abbrev m_K_take : pe_Y := (⟨"PaintEditor$Keyboard", "take", "(I)I"⟩, prog_6_method_4_code, 3, (Option.some FieldType.int), 2, 42)
abbrev m_K_goesOn : pe_Y := (⟨"PaintEditor$Keyboard", "goesOn", "(I)Z"⟩, prog_6_method_5_code, 2, (Option.some FieldType.boolean), 1, 20)
abbrev m_K_isDigit : pe_Y := (⟨"PaintEditor$Keyboard", "isDigit", "(I)Z"⟩, prog_6_method_6_code, 1, (Option.some FieldType.boolean), 0, 0)
abbrev m_K_isFinal : pe_Y := (⟨"PaintEditor$Keyboard", "isFinal", "(I)Z"⟩, prog_6_method_7_code, 1, (Option.some FieldType.boolean), 0, 0)
abbrev m_K_takePlain : pe_Y := (⟨"PaintEditor$Keyboard", "takePlain", "(I)I"⟩, prog_6_method_8_code, 2, (Option.some FieldType.int), 1, 21)
abbrev m_K_beginCharacter : pe_Y := (⟨"PaintEditor$Keyboard", "beginCharacter", "(I)V"⟩, prog_6_method_9_code, 2, (Option.none : Option FieldType), 0, 0)
abbrev m_K_takeWithin : pe_Y := (⟨"PaintEditor$Keyboard", "takeWithin", "(I)I"⟩, prog_6_method_10_code, 2, (Option.some FieldType.int), 0, 0)
abbrev m_K_takeInSequence : pe_Y := (⟨"PaintEditor$Keyboard", "takeInSequence", "(I)I"⟩, prog_6_method_11_code, 2, (Option.some FieldType.int), 1, 21)
abbrev m_K_numberedKey : pe_Y := (⟨"PaintEditor$Keyboard", "numberedKey", "()I"⟩, prog_6_method_12_code, 1, (Option.some FieldType.int), 0, 0)
abbrev m_L_lay : pe_Y := (⟨"PaintEditor$Layout", "lay", "(LPaintEditor$Text;I)V"⟩, prog_7_method_2_code, 8, (Option.none : Option FieldType), 3, 62)
abbrev m_L_placeIn : pe_Y := (⟨"PaintEditor$Layout", "placeIn", "(LPaintEditor$Text;II)I"⟩, prog_7_method_3_code, 6, (Option.some FieldType.int), 0, 0)
abbrev m_Q_byteAt : pe_Y := (⟨"PaintEditor$Painter", "byteAt", "(I)I"⟩, prog_8_method_2_code, 2, (Option.some FieldType.int), 0, 0)
abbrev m_Q_begin : pe_Y := (⟨"PaintEditor$Painter", "begin", "(Z)V"⟩, prog_8_method_3_code, 2, (Option.none : Option FieldType), 4, 87)
abbrev m_Q_paintRow : pe_Y := (⟨"PaintEditor$Painter", "paintRow", "(LPaintEditor$Grid;I)V"⟩, prog_8_method_4_code, 10, (Option.none : Option FieldType), 6, 136)
abbrev m_Q_differs : pe_Y := (⟨"PaintEditor$Painter", "differs", "(LPaintEditor$Grid;II)Z"⟩, prog_8_method_5_code, 4, (Option.some FieldType.boolean), 2, 44)
abbrev m_Q_firstDifference : pe_Y := (⟨"PaintEditor$Painter", "firstDifference", "(LPaintEditor$Grid;I)I"⟩, prog_8_method_6_code, 4, (Option.some FieldType.int), 3, 67)
abbrev m_Q_lastDifference : pe_Y := (⟨"PaintEditor$Painter", "lastDifference", "(LPaintEditor$Grid;I)I"⟩, prog_8_method_7_code, 4, (Option.some FieldType.int), 3, 67)
abbrev m_Q_blankBeginning : pe_Y := (⟨"PaintEditor$Painter", "blankBeginning", "(LPaintEditor$Grid;I)I"⟩, prog_8_method_8_code, 3, (Option.some FieldType.int), 3, 66)
abbrev m_Q_sendCluster : pe_Y := (⟨"PaintEditor$Painter", "sendCluster", "(IIII)V"⟩, prog_8_method_9_code, 6, (Option.none : Option FieldType), 5, 111)
abbrev m_Q_makePlaceRight : pe_Y := (⟨"PaintEditor$Painter", "makePlaceRight", "(II)V"⟩, prog_8_method_10_code, 5, (Option.none : Option FieldType), 4, 87)
abbrev m_Q_sendPlace : pe_Y := (⟨"PaintEditor$Painter", "sendPlace", "(II)V"⟩, prog_8_method_11_code, 3, (Option.none : Option FieldType), 3, 65)
abbrev m_Q_sendLook : pe_Y := (⟨"PaintEditor$Painter", "sendLook", "(I)V"⟩, prog_8_method_12_code, 3, (Option.none : Option FieldType), 3, 65)
abbrev m_Q_sendSequence : pe_Y := (⟨"PaintEditor$Painter", "sendSequence", "(III)V"⟩, prog_8_method_13_code, 4, (Option.none : Option FieldType), 2, 42)
abbrev m_Q_putNumber : pe_Y := (⟨"PaintEditor$Painter", "putNumber", "(I)V"⟩, prog_8_method_14_code, 2, (Option.none : Option FieldType), 1, 21)
abbrev m_Q_sendCharacter : pe_Y := (⟨"PaintEditor$Painter", "sendCharacter", "(I)V"⟩, prog_8_method_15_code, 2, (Option.none : Option FieldType), 4, 90)
abbrev m_Q_put : pe_Y := (⟨"PaintEditor$Painter", "put", "(I)V"⟩, prog_8_method_16_code, 2, (Option.none : Option FieldType), 0, 0)
abbrev m_S_compose : pe_Y := (⟨"PaintEditor$Screen", "compose", "(LPaintEditor$Editor;)V"⟩, prog_9_method_2_code, 3, (Option.none : Option FieldType), 6, 138)
abbrev m_S_follow : pe_Y := (⟨"PaintEditor$Screen", "follow", "(I)V"⟩, prog_9_method_3_code, 2, (Option.none : Option FieldType), 0, 0)
abbrev m_S_showCluster : pe_Y := (⟨"PaintEditor$Screen", "showCluster", "(LPaintEditor$Editor;I)V"⟩, prog_9_method_4_code, 10, (Option.none : Option FieldType), 5, 109)
abbrev m_S_showStatus : pe_Y := (⟨"PaintEditor$Screen", "showStatus", "(LPaintEditor$Editor;)V"⟩, prog_9_method_5_code, 4, (Option.none : Option FieldType), 4, 88)
abbrev m_Z_write : pe_Y := (⟨"PaintEditor$Terminal", "write", "(I)V"⟩, prog_10_method_2_code, 3, (Option.none : Option FieldType), 3, 68)
abbrev m_Z_joins : pe_Y := (⟨"PaintEditor$Terminal", "joins", "(I)Z"⟩, prog_10_method_3_code, 3, (Option.some FieldType.boolean), 2, 46)
abbrev m_Z_writeCells : pe_Y := (⟨"PaintEditor$Terminal", "writeCells", "(I)V"⟩, prog_10_method_4_code, 3, (Option.none : Option FieldType), 2, 46)
abbrev m_Z_moveTo : pe_Y := (⟨"PaintEditor$Terminal", "moveTo", "(II)V"⟩, prog_10_method_5_code, 3, (Option.none : Option FieldType), 1, 20)
abbrev m_Z_eraseRestOfRow : pe_Y := (⟨"PaintEditor$Terminal", "eraseRestOfRow", "()V"⟩, prog_10_method_6_code, 1, (Option.none : Option FieldType), 3, 69)
abbrev m_Z_eraseAll : pe_Y := (⟨"PaintEditor$Terminal", "eraseAll", "()V"⟩, prog_10_method_7_code, 1, (Option.none : Option FieldType), 2, 43)
abbrev m_Z_resize : pe_Y := (⟨"PaintEditor$Terminal", "resize", "(II)V"⟩, prog_10_method_8_code, 3, (Option.none : Option FieldType), 4, 92)
abbrev m_Z_endWriting : pe_Y := (⟨"PaintEditor$Terminal", "endWriting", "()V"⟩, prog_10_method_9_code, 1, (Option.none : Option FieldType), 0, 0)
abbrev m_T_codeAt : pe_Y := (⟨"PaintEditor$Text", "codeAt", "(I)I"⟩, prog_11_method_2_code, 2, (Option.some FieldType.int), 0, 0)
abbrev m_T_hasRoomFor : pe_Y := (⟨"PaintEditor$Text", "hasRoomFor", "(I)Z"⟩, prog_11_method_3_code, 2, (Option.some FieldType.boolean), 0, 0)
abbrev m_T_insert : pe_Y := (⟨"PaintEditor$Text", "insert", "(I[III)V"⟩, prog_11_method_4_code, 5, (Option.none : Option FieldType), 1, 26)
abbrev m_T_remove : pe_Y := (⟨"PaintEditor$Text", "remove", "(II)V"⟩, prog_11_method_5_code, 3, (Option.none : Option FieldType), 1, 26)
abbrev m_T_copyTo : pe_Y := (⟨"PaintEditor$Text", "copyTo", "([IIII)V"⟩, prog_11_method_6_code, 5, (Option.none : Option FieldType), 1, 26)
abbrev m_T_isBeginning : pe_Y := (⟨"PaintEditor$Text", "isBeginning", "(I)Z"⟩, prog_11_method_7_code, 3, (Option.some FieldType.boolean), 2, 40)
abbrev m_T_beginningFrom : pe_Y := (⟨"PaintEditor$Text", "beginningFrom", "(I)I"⟩, prog_11_method_8_code, 3, (Option.some FieldType.int), 3, 62)
abbrev m_T_beginningAhead : pe_Y := (⟨"PaintEditor$Text", "beginningAhead", "(I)I"⟩, prog_11_method_9_code, 3, (Option.some FieldType.int), 3, 62)
abbrev m_T_lineBeginning : pe_Y := (⟨"PaintEditor$Text", "lineBeginning", "(I)I"⟩, prog_11_method_10_code, 3, (Option.some FieldType.int), 1, 21)
abbrev m_T_lineEnd : pe_Y := (⟨"PaintEditor$Text", "lineEnd", "(I)I"⟩, prog_11_method_11_code, 3, (Option.some FieldType.int), 1, 21)
abbrev m_T_lineNumber : pe_Y := (⟨"PaintEditor$Text", "lineNumber", "(I)I"⟩, prog_11_method_12_code, 4, (Option.some FieldType.int), 1, 21)
abbrev m_T_clusterAt : pe_Y := (⟨"PaintEditor$Text", "clusterAt", "(I)I"⟩, prog_11_method_13_code, 6, (Option.some FieldType.int), 4, 84)
abbrev m_A_fill : pe_Y := (⟨"java/util/Arrays", "fill", "([II)V"⟩, prog_23_method_103_code, 4, (Option.none : Option FieldType), 0, 0)
/-! classes -/
theorem pe_k0 : (∀ w ∈ u_ws "PaintEditor" pe_T0 4, w ∈ pe_WS) ∧ (∀ k, k < 4 → parseFieldDescriptor (pe_T0 k).2.2.1 = some (pe_t0 k)) ∧ ∀ a, a < 4 → ∀ b, b < 4 → a ≠ b → (pe_T0 a).2.1 ≠ (pe_T0 b).2.1 := by
  refine ⟨?_, by decide +kernel, by decide +kernel⟩
  intro w hw
  obtain ⟨k, hk, rfl⟩ := List.mem_map.mp hw
  have hk := List.mem_range.mp hk
  rcases (show k = 0 ∨ k = 1 ∨ k = 2 ∨ k = 3 by omega) with rfl | rfl | rfl | rfl
  · exact pe_w2 (List.mem_of_getElem? (i := 103) (by decide +kernel))
  · exact pe_w2 (List.mem_of_getElem? (i := 105) (by decide +kernel))
  · exact pe_w2 (List.mem_of_getElem? (i := 107) (by decide +kernel))
  · exact pe_w2 (List.mem_of_getElem? (i := 109) (by decide +kernel))
theorem pe_k1 : (∀ w ∈ u_ws "PaintEditor$Keyboard" pe_T1 7, w ∈ pe_WS) ∧ (∀ k, k < 7 → parseFieldDescriptor (pe_T1 k).2.2.1 = some (pe_t1 k)) ∧ ∀ a, a < 7 → ∀ b, b < 7 → a ≠ b → (pe_T1 a).2.1 ≠ (pe_T1 b).2.1 := by
  refine ⟨?_, by decide +kernel, by decide +kernel⟩
  intro w hw
  obtain ⟨k, hk, rfl⟩ := List.mem_map.mp hw
  have hk := List.mem_range.mp hk
  rcases (show k = 0 ∨ k = 1 ∨ k = 2 ∨ k = 3 ∨ k = 4 ∨ k = 5 ∨ k = 6 by omega) with rfl | rfl | rfl | rfl | rfl | rfl | rfl
  · exact pe_w1 (List.mem_of_getElem? (i := 52) (by decide +kernel))
  · exact pe_w1 (List.mem_of_getElem? (i := 54) (by decide +kernel))
  · exact pe_w1 (List.mem_of_getElem? (i := 56) (by decide +kernel))
  · exact pe_w1 (List.mem_of_getElem? (i := 58) (by decide +kernel))
  · exact pe_w1 (List.mem_of_getElem? (i := 60) (by decide +kernel))
  · exact pe_w1 (List.mem_of_getElem? (i := 62) (by decide +kernel))
  · exact pe_w1 (List.mem_of_getElem? (i := 64) (by decide +kernel))
theorem pe_k2 : (∀ w ∈ u_ws "PaintEditor$Editor" pe_T2 12, w ∈ pe_WS) ∧ (∀ k, k < 12 → parseFieldDescriptor (pe_T2 k).2.2.1 = some (pe_t2 k)) ∧ ∀ a, a < 12 → ∀ b, b < 12 → a ≠ b → (pe_T2 a).2.1 ≠ (pe_T2 b).2.1 := by
  refine ⟨?_, by decide +kernel, by decide +kernel⟩
  intro w hw
  obtain ⟨k, hk, rfl⟩ := List.mem_map.mp hw
  have hk := List.mem_range.mp hk
  rcases (show k = 0 ∨ k = 1 ∨ k = 2 ∨ k = 3 ∨ k = 4 ∨ k = 5 ∨ k = 6 ∨ k = 7 ∨ k = 8 ∨ k = 9 ∨ k = 10 ∨ k = 11 by omega) with rfl | rfl | rfl | rfl | rfl | rfl | rfl | rfl | rfl | rfl | rfl | rfl
  · exact pe_w1 (List.mem_of_getElem? (i := 167) (by decide +kernel))
  · exact pe_w1 (List.mem_of_getElem? (i := 169) (by decide +kernel))
  · exact pe_w1 (List.mem_of_getElem? (i := 171) (by decide +kernel))
  · exact pe_w1 (List.mem_of_getElem? (i := 173) (by decide +kernel))
  · exact pe_w1 (List.mem_of_getElem? (i := 175) (by decide +kernel))
  · exact pe_w1 (List.mem_of_getElem? (i := 177) (by decide +kernel))
  · exact pe_w1 (List.mem_of_getElem? (i := 179) (by decide +kernel))
  · exact pe_w1 (List.mem_of_getElem? (i := 181) (by decide +kernel))
  · exact pe_w1 (List.mem_of_getElem? (i := 183) (by decide +kernel))
  · exact pe_w1 (List.mem_of_getElem? (i := 185) (by decide +kernel))
  · exact pe_w1 (List.mem_of_getElem? (i := 187) (by decide +kernel))
  · exact pe_w1 (List.mem_of_getElem? (i := 189) (by decide +kernel))
theorem pe_k3 : (∀ w ∈ u_ws "PaintEditor$Text" pe_T3 2, w ∈ pe_WS) ∧ (∀ k, k < 2 → parseFieldDescriptor (pe_T3 k).2.2.1 = some (pe_t3 k)) ∧ ∀ a, a < 2 → ∀ b, b < 2 → a ≠ b → (pe_T3 a).2.1 ≠ (pe_T3 b).2.1 := by
  refine ⟨?_, by decide +kernel, by decide +kernel⟩
  intro w hw
  obtain ⟨k, hk, rfl⟩ := List.mem_map.mp hw
  have hk := List.mem_range.mp hk
  rcases (show k = 0 ∨ k = 1 by omega) with rfl | rfl
  · exact pe_w1 (List.mem_of_getElem? (i := 84) (by decide +kernel))
  · exact pe_w1 (List.mem_of_getElem? (i := 86) (by decide +kernel))
theorem pe_k4 : (∀ w ∈ u_ws "PaintEditor$History" pe_T4 7, w ∈ pe_WS) ∧ (∀ k, k < 7 → parseFieldDescriptor (pe_T4 k).2.2.1 = some (pe_t4 k)) ∧ ∀ a, a < 7 → ∀ b, b < 7 → a ≠ b → (pe_T4 a).2.1 ≠ (pe_T4 b).2.1 := by
  refine ⟨?_, by decide +kernel, by decide +kernel⟩
  intro w hw
  obtain ⟨k, hk, rfl⟩ := List.mem_map.mp hw
  have hk := List.mem_range.mp hk
  rcases (show k = 0 ∨ k = 1 ∨ k = 2 ∨ k = 3 ∨ k = 4 ∨ k = 5 ∨ k = 6 by omega) with rfl | rfl | rfl | rfl | rfl | rfl | rfl
  · exact pe_w1 (List.mem_of_getElem? (i := 105) (by decide +kernel))
  · exact pe_w1 (List.mem_of_getElem? (i := 107) (by decide +kernel))
  · exact pe_w1 (List.mem_of_getElem? (i := 109) (by decide +kernel))
  · exact pe_w1 (List.mem_of_getElem? (i := 111) (by decide +kernel))
  · exact pe_w1 (List.mem_of_getElem? (i := 113) (by decide +kernel))
  · exact pe_w1 (List.mem_of_getElem? (i := 115) (by decide +kernel))
  · exact pe_w1 (List.mem_of_getElem? (i := 117) (by decide +kernel))
theorem pe_k5 : (∀ w ∈ u_ws "PaintEditor$Layout" pe_T5 3, w ∈ pe_WS) ∧ (∀ k, k < 3 → parseFieldDescriptor (pe_T5 k).2.2.1 = some (pe_t5 k)) ∧ ∀ a, a < 3 → ∀ b, b < 3 → a ≠ b → (pe_T5 a).2.1 ≠ (pe_T5 b).2.1 := by
  refine ⟨?_, by decide +kernel, by decide +kernel⟩
  intro w hw
  obtain ⟨k, hk, rfl⟩ := List.mem_map.mp hw
  have hk := List.mem_range.mp hk
  rcases (show k = 0 ∨ k = 1 ∨ k = 2 by omega) with rfl | rfl | rfl
  · exact pe_w1 (List.mem_of_getElem? (i := 135) (by decide +kernel))
  · exact pe_w1 (List.mem_of_getElem? (i := 137) (by decide +kernel))
  · exact pe_w1 (List.mem_of_getElem? (i := 139) (by decide +kernel))
theorem pe_k6 : (∀ w ∈ u_ws "PaintEditor$Screen" pe_T6 5, w ∈ pe_WS) ∧ (∀ k, k < 5 → parseFieldDescriptor (pe_T6 k).2.2.1 = some (pe_t6 k)) ∧ ∀ a, a < 5 → ∀ b, b < 5 → a ≠ b → (pe_T6 a).2.1 ≠ (pe_T6 b).2.1 := by
  refine ⟨?_, by decide +kernel, by decide +kernel⟩
  intro w hw
  obtain ⟨k, hk, rfl⟩ := List.mem_map.mp hw
  have hk := List.mem_range.mp hk
  rcases (show k = 0 ∨ k = 1 ∨ k = 2 ∨ k = 3 ∨ k = 4 by omega) with rfl | rfl | rfl | rfl | rfl
  · exact pe_w2 (List.mem_of_getElem? (i := 27) (by decide +kernel))
  · exact pe_w2 (List.mem_of_getElem? (i := 29) (by decide +kernel))
  · exact pe_w2 (List.mem_of_getElem? (i := 31) (by decide +kernel))
  · exact pe_w2 (List.mem_of_getElem? (i := 33) (by decide +kernel))
  · exact pe_w2 (List.mem_of_getElem? (i := 35) (by decide +kernel))
theorem pe_k7 : (∀ w ∈ u_ws "PaintEditor$Grid" pe_T7 4, w ∈ pe_WS) ∧ (∀ k, k < 4 → parseFieldDescriptor (pe_T7 k).2.2.1 = some (pe_t7 k)) ∧ ∀ a, a < 4 → ∀ b, b < 4 → a ≠ b → (pe_T7 a).2.1 ≠ (pe_T7 b).2.1 := by
  refine ⟨?_, by decide +kernel, by decide +kernel⟩
  intro w hw
  obtain ⟨k, hk, rfl⟩ := List.mem_map.mp hw
  have hk := List.mem_range.mp hk
  rcases (show k = 0 ∨ k = 1 ∨ k = 2 ∨ k = 3 by omega) with rfl | rfl | rfl | rfl
  · exact pe_w2 (List.mem_of_getElem? (i := 9) (by decide +kernel))
  · exact pe_w2 (List.mem_of_getElem? (i := 11) (by decide +kernel))
  · exact pe_w2 (List.mem_of_getElem? (i := 13) (by decide +kernel))
  · exact pe_w2 (List.mem_of_getElem? (i := 15) (by decide +kernel))
theorem pe_k8 : (∀ w ∈ u_ws "java/lang/StringBuilder" pe_T8 4, w ∈ pe_WS) ∧ (∀ k, k < 4 → parseFieldDescriptor (pe_T8 k).2.2.1 = some (pe_t8 k)) ∧ ∀ a, a < 4 → ∀ b, b < 4 → a ≠ b → (pe_T8 a).2.1 ≠ (pe_T8 b).2.1 := by
  refine ⟨?_, by decide +kernel, by decide +kernel⟩
  intro w hw
  obtain ⟨k, hk, rfl⟩ := List.mem_map.mp hw
  have hk := List.mem_range.mp hk
  rcases (show k = 0 ∨ k = 1 ∨ k = 2 ∨ k = 3 by omega) with rfl | rfl | rfl | rfl
  · exact pe_w1 (List.mem_of_getElem? (i := 220) (by decide +kernel))
  · exact pe_w1 (List.mem_of_getElem? (i := 222) (by decide +kernel))
  · exact pe_w1 (List.mem_of_getElem? (i := 224) (by decide +kernel))
  · exact pe_w1 (List.mem_of_getElem? (i := 226) (by decide +kernel))
theorem pe_k9 : (∀ w ∈ u_ws "PaintEditor$Painter" pe_T9 3, w ∈ pe_WS) ∧ (∀ k, k < 3 → parseFieldDescriptor (pe_T9 k).2.2.1 = some (pe_t9 k)) ∧ ∀ a, a < 3 → ∀ b, b < 3 → a ≠ b → (pe_T9 a).2.1 ≠ (pe_T9 b).2.1 := by
  refine ⟨?_, by decide +kernel, by decide +kernel⟩
  intro w hw
  obtain ⟨k, hk, rfl⟩ := List.mem_map.mp hw
  have hk := List.mem_range.mp hk
  rcases (show k = 0 ∨ k = 1 ∨ k = 2 by omega) with rfl | rfl | rfl
  · exact pe_w2 (List.mem_of_getElem? (i := 92) (by decide +kernel))
  · exact pe_w2 (List.mem_of_getElem? (i := 94) (by decide +kernel))
  · exact pe_w2 (List.mem_of_getElem? (i := 96) (by decide +kernel))
theorem pe_k10 : (∀ w ∈ u_ws "PaintEditor$Terminal" pe_T10 8, w ∈ pe_WS) ∧ (∀ k, k < 8 → parseFieldDescriptor (pe_T10 k).2.2.1 = some (pe_t10 k)) ∧ ∀ a, a < 8 → ∀ b, b < 8 → a ≠ b → (pe_T10 a).2.1 ≠ (pe_T10 b).2.1 := by
  refine ⟨?_, by decide +kernel, by decide +kernel⟩
  intro w hw
  obtain ⟨k, hk, rfl⟩ := List.mem_map.mp hw
  have hk := List.mem_range.mp hk
  rcases (show k = 0 ∨ k = 1 ∨ k = 2 ∨ k = 3 ∨ k = 4 ∨ k = 5 ∨ k = 6 ∨ k = 7 by omega) with rfl | rfl | rfl | rfl | rfl | rfl | rfl | rfl
  · exact pe_w2 (List.mem_of_getElem? (i := 70) (by decide +kernel))
  · exact pe_w2 (List.mem_of_getElem? (i := 72) (by decide +kernel))
  · exact pe_w2 (List.mem_of_getElem? (i := 74) (by decide +kernel))
  · exact pe_w2 (List.mem_of_getElem? (i := 76) (by decide +kernel))
  · exact pe_w2 (List.mem_of_getElem? (i := 78) (by decide +kernel))
  · exact pe_w2 (List.mem_of_getElem? (i := 80) (by decide +kernel))
  · exact pe_w2 (List.mem_of_getElem? (i := 82) (by decide +kernel))
  · exact pe_w2 (List.mem_of_getElem? (i := 84) (by decide +kernel))
theorem pe_k11 : (∀ w ∈ u_ws "PaintEditorModel" pe_T11 44, w ∈ pe_WS) ∧ (∀ k, k < 44 → parseFieldDescriptor (pe_T11 k).2.2.1 = some (pe_t11 k)) ∧ ∀ a, a < 44 → ∀ b, b < 44 → a ≠ b → (pe_T11 a).2.1 ≠ (pe_T11 b).2.1 := by
  refine ⟨?_, by decide +kernel, by decide +kernel⟩
  intro w hw
  obtain ⟨k, hk, rfl⟩ := List.mem_map.mp hw
  have hk := List.mem_range.mp hk
  rcases (show k = 0 ∨ k = 1 ∨ k = 2 ∨ k = 3 ∨ k = 4 ∨ k = 5 ∨ k = 6 ∨ k = 7 ∨ k = 8 ∨ k = 9 ∨ k = 10 ∨ k = 11 ∨ k = 12 ∨ k = 13 ∨ k = 14 ∨ k = 15 ∨ k = 16 ∨ k = 17 ∨ k = 18 ∨ k = 19 ∨ k = 20 ∨ k = 21 ∨ k = 22 ∨ k = 23 ∨ k = 24 ∨ k = 25 ∨ k = 26 ∨ k = 27 ∨ k = 28 ∨ k = 29 ∨ k = 30 ∨ k = 31 ∨ k = 32 ∨ k = 33 ∨ k = 34 ∨ k = 35 ∨ k = 36 ∨ k = 37 ∨ k = 38 ∨ k = 39 ∨ k = 40 ∨ k = 41 ∨ k = 42 ∨ k = 43 by omega) with rfl | rfl | rfl | rfl | rfl | rfl | rfl | rfl | rfl | rfl | rfl | rfl | rfl | rfl | rfl | rfl | rfl | rfl | rfl | rfl | rfl | rfl | rfl | rfl | rfl | rfl | rfl | rfl | rfl | rfl | rfl | rfl | rfl | rfl | rfl | rfl | rfl | rfl | rfl | rfl | rfl | rfl | rfl | rfl
  · exact pe_w5 (List.mem_of_getElem? (i := 32) (by decide +kernel))
  · exact pe_w5 (List.mem_of_getElem? (i := 34) (by decide +kernel))
  · exact pe_w5 (List.mem_of_getElem? (i := 36) (by decide +kernel))
  · exact pe_w5 (List.mem_of_getElem? (i := 38) (by decide +kernel))
  · exact pe_w5 (List.mem_of_getElem? (i := 40) (by decide +kernel))
  · exact pe_w5 (List.mem_of_getElem? (i := 42) (by decide +kernel))
  · exact pe_w5 (List.mem_of_getElem? (i := 44) (by decide +kernel))
  · exact pe_w5 (List.mem_of_getElem? (i := 46) (by decide +kernel))
  · exact pe_w5 (List.mem_of_getElem? (i := 48) (by decide +kernel))
  · exact pe_w5 (List.mem_of_getElem? (i := 50) (by decide +kernel))
  · exact pe_w5 (List.mem_of_getElem? (i := 52) (by decide +kernel))
  · exact pe_w5 (List.mem_of_getElem? (i := 54) (by decide +kernel))
  · exact pe_w5 (List.mem_of_getElem? (i := 56) (by decide +kernel))
  · exact pe_w5 (List.mem_of_getElem? (i := 58) (by decide +kernel))
  · exact pe_w5 (List.mem_of_getElem? (i := 60) (by decide +kernel))
  · exact pe_w5 (List.mem_of_getElem? (i := 62) (by decide +kernel))
  · exact pe_w5 (List.mem_of_getElem? (i := 64) (by decide +kernel))
  · exact pe_w5 (List.mem_of_getElem? (i := 66) (by decide +kernel))
  · exact pe_w5 (List.mem_of_getElem? (i := 68) (by decide +kernel))
  · exact pe_w5 (List.mem_of_getElem? (i := 70) (by decide +kernel))
  · exact pe_w5 (List.mem_of_getElem? (i := 72) (by decide +kernel))
  · exact pe_w5 (List.mem_of_getElem? (i := 74) (by decide +kernel))
  · exact pe_w5 (List.mem_of_getElem? (i := 76) (by decide +kernel))
  · exact pe_w5 (List.mem_of_getElem? (i := 78) (by decide +kernel))
  · exact pe_w5 (List.mem_of_getElem? (i := 80) (by decide +kernel))
  · exact pe_w5 (List.mem_of_getElem? (i := 82) (by decide +kernel))
  · exact pe_w5 (List.mem_of_getElem? (i := 84) (by decide +kernel))
  · exact pe_w5 (List.mem_of_getElem? (i := 86) (by decide +kernel))
  · exact pe_w5 (List.mem_of_getElem? (i := 88) (by decide +kernel))
  · exact pe_w5 (List.mem_of_getElem? (i := 90) (by decide +kernel))
  · exact pe_w5 (List.mem_of_getElem? (i := 92) (by decide +kernel))
  · exact pe_w5 (List.mem_of_getElem? (i := 94) (by decide +kernel))
  · exact pe_w5 (List.mem_of_getElem? (i := 96) (by decide +kernel))
  · exact pe_w5 (List.mem_of_getElem? (i := 98) (by decide +kernel))
  · exact pe_w5 (List.mem_of_getElem? (i := 100) (by decide +kernel))
  · exact pe_w5 (List.mem_of_getElem? (i := 102) (by decide +kernel))
  · exact pe_w5 (List.mem_of_getElem? (i := 104) (by decide +kernel))
  · exact pe_w5 (List.mem_of_getElem? (i := 106) (by decide +kernel))
  · exact pe_w5 (List.mem_of_getElem? (i := 108) (by decide +kernel))
  · exact pe_w5 (List.mem_of_getElem? (i := 110) (by decide +kernel))
  · exact pe_w5 (List.mem_of_getElem? (i := 112) (by decide +kernel))
  · exact pe_w5 (List.mem_of_getElem? (i := 114) (by decide +kernel))
  · exact pe_w5 (List.mem_of_getElem? (i := 116) (by decide +kernel))
  · exact pe_w5 (List.mem_of_getElem? (i := 118) (by decide +kernel))
/-! fields that are linked: f_<class>_<pool entry> -/
theorem f_K_11 : pe_FL "PaintEditor$Keyboard" 11 1 0 7 := ⟨"PaintEditor$Keyboard", pe_T1, pe_t1, rfl, by decide, pe_k1.1, pe_k1.2.1, pe_k1.2.2, pe_w1 (List.mem_of_getElem? (i := 44) (by decide +kernel))⟩
theorem f_P_151 : pe_FL "PaintEditor" 151 1 0 7 := ⟨"PaintEditor$Keyboard", pe_T1, pe_t1, rfl, by decide, pe_k1.1, pe_k1.2.1, pe_k1.2.2, pe_w1 (List.mem_of_getElem? (i := 45) (by decide +kernel))⟩
theorem f_K_27 : pe_FL "PaintEditor$Keyboard" 27 1 1 7 := ⟨"PaintEditor$Keyboard", pe_T1, pe_t1, rfl, by decide, pe_k1.1, pe_k1.2.1, pe_k1.2.2, pe_w1 (List.mem_of_getElem? (i := 46) (by decide +kernel))⟩
theorem f_K_59 : pe_FL "PaintEditor$Keyboard" 59 1 2 7 := ⟨"PaintEditor$Keyboard", pe_T1, pe_t1, rfl, by decide, pe_k1.1, pe_k1.2.1, pe_k1.2.2, pe_w1 (List.mem_of_getElem? (i := 47) (by decide +kernel))⟩
theorem f_K_56 : pe_FL "PaintEditor$Keyboard" 56 1 3 7 := ⟨"PaintEditor$Keyboard", pe_T1, pe_t1, rfl, by decide, pe_k1.1, pe_k1.2.1, pe_k1.2.2, pe_w1 (List.mem_of_getElem? (i := 48) (by decide +kernel))⟩
theorem f_K_46 : pe_FL "PaintEditor$Keyboard" 46 1 4 7 := ⟨"PaintEditor$Keyboard", pe_T1, pe_t1, rfl, by decide, pe_k1.1, pe_k1.2.1, pe_k1.2.2, pe_w1 (List.mem_of_getElem? (i := 49) (by decide +kernel))⟩
theorem f_K_49 : pe_FL "PaintEditor$Keyboard" 49 1 5 7 := ⟨"PaintEditor$Keyboard", pe_T1, pe_t1, rfl, by decide, pe_k1.1, pe_k1.2.1, pe_k1.2.2, pe_w1 (List.mem_of_getElem? (i := 50) (by decide +kernel))⟩
theorem f_K_15 : pe_FL "PaintEditor$Keyboard" 15 1 6 7 := ⟨"PaintEditor$Keyboard", pe_T1, pe_t1, rfl, by decide, pe_k1.1, pe_k1.2.1, pe_k1.2.2, pe_w1 (List.mem_of_getElem? (i := 51) (by decide +kernel))⟩
theorem f_T_9 : pe_FL "PaintEditor$Text" 9 3 0 2 := ⟨"PaintEditor$Text", pe_T3, pe_t3, rfl, by decide, pe_k3.1, pe_k3.2.1, pe_k3.2.2, pe_w1 (List.mem_of_getElem? (i := 79) (by decide +kernel))⟩
theorem f_T_15 : pe_FL "PaintEditor$Text" 15 3 1 2 := ⟨"PaintEditor$Text", pe_T3, pe_t3, rfl, by decide, pe_k3.1, pe_k3.2.1, pe_k3.2.2, pe_w1 (List.mem_of_getElem? (i := 80) (by decide +kernel))⟩
theorem f_L_21 : pe_FL "PaintEditor$Layout" 21 3 1 2 := ⟨"PaintEditor$Text", pe_T3, pe_t3, rfl, by decide, pe_k3.1, pe_k3.2.1, pe_k3.2.2, pe_w1 (List.mem_of_getElem? (i := 81) (by decide +kernel))⟩
theorem f_P_64 : pe_FL "PaintEditor" 64 3 1 2 := ⟨"PaintEditor$Text", pe_T3, pe_t3, rfl, by decide, pe_k3.1, pe_k3.2.1, pe_k3.2.2, pe_w1 (List.mem_of_getElem? (i := 82) (by decide +kernel))⟩
theorem f_S_73 : pe_FL "PaintEditor$Screen" 73 3 1 2 := ⟨"PaintEditor$Text", pe_T3, pe_t3, rfl, by decide, pe_k3.1, pe_k3.2.1, pe_k3.2.2, pe_w1 (List.mem_of_getElem? (i := 83) (by decide +kernel))⟩
theorem f_H_9 : pe_FL "PaintEditor$History" 9 4 0 7 := ⟨"PaintEditor$History", pe_T4, pe_t4, rfl, by decide, pe_k4.1, pe_k4.2.1, pe_k4.2.2, pe_w1 (List.mem_of_getElem? (i := 96) (by decide +kernel))⟩
theorem f_H_15 : pe_FL "PaintEditor$History" 15 4 1 7 := ⟨"PaintEditor$History", pe_T4, pe_t4, rfl, by decide, pe_k4.1, pe_k4.2.1, pe_k4.2.2, pe_w1 (List.mem_of_getElem? (i := 97) (by decide +kernel))⟩
theorem f_H_18 : pe_FL "PaintEditor$History" 18 4 2 7 := ⟨"PaintEditor$History", pe_T4, pe_t4, rfl, by decide, pe_k4.1, pe_k4.2.1, pe_k4.2.2, pe_w1 (List.mem_of_getElem? (i := 98) (by decide +kernel))⟩
theorem f_H_21 : pe_FL "PaintEditor$History" 21 4 3 7 := ⟨"PaintEditor$History", pe_T4, pe_t4, rfl, by decide, pe_k4.1, pe_k4.2.1, pe_k4.2.2, pe_w1 (List.mem_of_getElem? (i := 99) (by decide +kernel))⟩
theorem f_H_25 : pe_FL "PaintEditor$History" 25 4 4 7 := ⟨"PaintEditor$History", pe_T4, pe_t4, rfl, by decide, pe_k4.1, pe_k4.2.1, pe_k4.2.2, pe_w1 (List.mem_of_getElem? (i := 100) (by decide +kernel))⟩
theorem f_H_42 : pe_FL "PaintEditor$History" 42 4 5 7 := ⟨"PaintEditor$History", pe_T4, pe_t4, rfl, by decide, pe_k4.1, pe_k4.2.1, pe_k4.2.2, pe_w1 (List.mem_of_getElem? (i := 101) (by decide +kernel))⟩
theorem f_H_38 : pe_FL "PaintEditor$History" 38 4 6 7 := ⟨"PaintEditor$History", pe_T4, pe_t4, rfl, by decide, pe_k4.1, pe_k4.2.1, pe_k4.2.2, pe_w1 (List.mem_of_getElem? (i := 102) (by decide +kernel))⟩
theorem f_S_121 : pe_FL "PaintEditor$Screen" 121 4 6 7 := ⟨"PaintEditor$History", pe_T4, pe_t4, rfl, by decide, pe_k4.1, pe_k4.2.1, pe_k4.2.2, pe_w1 (List.mem_of_getElem? (i := 103) (by decide +kernel))⟩
theorem f_P_140 : pe_FL "PaintEditor" 140 4 6 7 := ⟨"PaintEditor$History", pe_T4, pe_t4, rfl, by decide, pe_k4.1, pe_k4.2.1, pe_k4.2.2, pe_w1 (List.mem_of_getElem? (i := 104) (by decide +kernel))⟩
theorem f_L_9 : pe_FL "PaintEditor$Layout" 9 5 0 3 := ⟨"PaintEditor$Layout", pe_T5, pe_t5, rfl, by decide, pe_k5.1, pe_k5.2.1, pe_k5.2.2, pe_w1 (List.mem_of_getElem? (i := 127) (by decide +kernel))⟩
theorem f_S_59 : pe_FL "PaintEditor$Screen" 59 5 0 3 := ⟨"PaintEditor$Layout", pe_T5, pe_t5, rfl, by decide, pe_k5.1, pe_k5.2.1, pe_k5.2.2, pe_w1 (List.mem_of_getElem? (i := 128) (by decide +kernel))⟩
theorem f_E_152 : pe_FL "PaintEditor$Editor" 152 5 0 3 := ⟨"PaintEditor$Layout", pe_T5, pe_t5, rfl, by decide, pe_k5.1, pe_k5.2.1, pe_k5.2.2, pe_w1 (List.mem_of_getElem? (i := 129) (by decide +kernel))⟩
theorem f_L_15 : pe_FL "PaintEditor$Layout" 15 5 1 3 := ⟨"PaintEditor$Layout", pe_T5, pe_t5, rfl, by decide, pe_k5.1, pe_k5.2.1, pe_k5.2.2, pe_w1 (List.mem_of_getElem? (i := 130) (by decide +kernel))⟩
theorem f_S_70 : pe_FL "PaintEditor$Screen" 70 5 1 3 := ⟨"PaintEditor$Layout", pe_T5, pe_t5, rfl, by decide, pe_k5.1, pe_k5.2.1, pe_k5.2.2, pe_w1 (List.mem_of_getElem? (i := 131) (by decide +kernel))⟩
theorem f_E_149 : pe_FL "PaintEditor$Editor" 149 5 1 3 := ⟨"PaintEditor$Layout", pe_T5, pe_t5, rfl, by decide, pe_k5.1, pe_k5.2.1, pe_k5.2.2, pe_w1 (List.mem_of_getElem? (i := 132) (by decide +kernel))⟩
theorem f_L_18 : pe_FL "PaintEditor$Layout" 18 5 2 3 := ⟨"PaintEditor$Layout", pe_T5, pe_t5, rfl, by decide, pe_k5.1, pe_k5.2.1, pe_k5.2.2, pe_w1 (List.mem_of_getElem? (i := 133) (by decide +kernel))⟩
theorem f_S_101 : pe_FL "PaintEditor$Screen" 101 5 2 3 := ⟨"PaintEditor$Layout", pe_T5, pe_t5, rfl, by decide, pe_k5.1, pe_k5.2.1, pe_k5.2.2, pe_w1 (List.mem_of_getElem? (i := 134) (by decide +kernel))⟩
theorem f_E_12 : pe_FL "PaintEditor$Editor" 12 2 0 12 := ⟨"PaintEditor$Editor", pe_T2, pe_t2, rfl, by decide, pe_k2.1, pe_k2.2.1, pe_k2.2.2, pe_w1 (List.mem_of_getElem? (i := 142) (by decide +kernel))⟩
theorem f_S_49 : pe_FL "PaintEditor$Screen" 49 2 0 12 := ⟨"PaintEditor$Editor", pe_T2, pe_t2, rfl, by decide, pe_k2.1, pe_k2.2.1, pe_k2.2.2, pe_w1 (List.mem_of_getElem? (i := 143) (by decide +kernel))⟩
theorem f_P_60 : pe_FL "PaintEditor" 60 2 0 12 := ⟨"PaintEditor$Editor", pe_T2, pe_t2, rfl, by decide, pe_k2.1, pe_k2.2.1, pe_k2.2.2, pe_w1 (List.mem_of_getElem? (i := 144) (by decide +kernel))⟩
theorem f_E_21 : pe_FL "PaintEditor$Editor" 21 2 1 12 := ⟨"PaintEditor$Editor", pe_T2, pe_t2, rfl, by decide, pe_k2.1, pe_k2.2.1, pe_k2.2.2, pe_w1 (List.mem_of_getElem? (i := 145) (by decide +kernel))⟩
theorem f_S_117 : pe_FL "PaintEditor$Screen" 117 2 1 12 := ⟨"PaintEditor$Editor", pe_T2, pe_t2, rfl, by decide, pe_k2.1, pe_k2.2.1, pe_k2.2.2, pe_w1 (List.mem_of_getElem? (i := 146) (by decide +kernel))⟩
theorem f_P_136 : pe_FL "PaintEditor" 136 2 1 12 := ⟨"PaintEditor$Editor", pe_T2, pe_t2, rfl, by decide, pe_k2.1, pe_k2.2.1, pe_k2.2.2, pe_w1 (List.mem_of_getElem? (i := 147) (by decide +kernel))⟩
theorem f_E_28 : pe_FL "PaintEditor$Editor" 28 2 2 12 := ⟨"PaintEditor$Editor", pe_T2, pe_t2, rfl, by decide, pe_k2.1, pe_k2.2.1, pe_k2.2.2, pe_w1 (List.mem_of_getElem? (i := 148) (by decide +kernel))⟩
theorem f_S_43 : pe_FL "PaintEditor$Screen" 43 2 2 12 := ⟨"PaintEditor$Editor", pe_T2, pe_t2, rfl, by decide, pe_k2.1, pe_k2.2.1, pe_k2.2.2, pe_w1 (List.mem_of_getElem? (i := 149) (by decide +kernel))⟩
theorem f_E_32 : pe_FL "PaintEditor$Editor" 32 2 3 12 := ⟨"PaintEditor$Editor", pe_T2, pe_t2, rfl, by decide, pe_k2.1, pe_k2.2.1, pe_k2.2.2, pe_w1 (List.mem_of_getElem? (i := 150) (by decide +kernel))⟩
theorem f_E_36 : pe_FL "PaintEditor$Editor" 36 2 4 12 := ⟨"PaintEditor$Editor", pe_T2, pe_t2, rfl, by decide, pe_k2.1, pe_k2.2.1, pe_k2.2.2, pe_w1 (List.mem_of_getElem? (i := 151) (by decide +kernel))⟩
theorem f_E_102 : pe_FL "PaintEditor$Editor" 102 2 5 12 := ⟨"PaintEditor$Editor", pe_T2, pe_t2, rfl, by decide, pe_k2.1, pe_k2.2.1, pe_k2.2.2, pe_w1 (List.mem_of_getElem? (i := 152) (by decide +kernel))⟩
theorem f_P_133 : pe_FL "PaintEditor" 133 2 5 12 := ⟨"PaintEditor$Editor", pe_T2, pe_t2, rfl, by decide, pe_k2.1, pe_k2.2.1, pe_k2.2.2, pe_w1 (List.mem_of_getElem? (i := 153) (by decide +kernel))⟩
theorem f_E_50 : pe_FL "PaintEditor$Editor" 50 2 6 12 := ⟨"PaintEditor$Editor", pe_T2, pe_t2, rfl, by decide, pe_k2.1, pe_k2.2.1, pe_k2.2.2, pe_w1 (List.mem_of_getElem? (i := 154) (by decide +kernel))⟩
theorem f_P_74 : pe_FL "PaintEditor" 74 2 6 12 := ⟨"PaintEditor$Editor", pe_T2, pe_t2, rfl, by decide, pe_k2.1, pe_k2.2.1, pe_k2.2.2, pe_w1 (List.mem_of_getElem? (i := 155) (by decide +kernel))⟩
theorem f_S_63 : pe_FL "PaintEditor$Screen" 63 2 7 12 := ⟨"PaintEditor$Editor", pe_T2, pe_t2, rfl, by decide, pe_k2.1, pe_k2.2.1, pe_k2.2.2, pe_w1 (List.mem_of_getElem? (i := 156) (by decide +kernel))⟩
theorem f_E_78 : pe_FL "PaintEditor$Editor" 78 2 7 12 := ⟨"PaintEditor$Editor", pe_T2, pe_t2, rfl, by decide, pe_k2.1, pe_k2.2.1, pe_k2.2.2, pe_w1 (List.mem_of_getElem? (i := 157) (by decide +kernel))⟩
theorem f_P_127 : pe_FL "PaintEditor" 127 2 7 12 := ⟨"PaintEditor$Editor", pe_T2, pe_t2, rfl, by decide, pe_k2.1, pe_k2.2.1, pe_k2.2.2, pe_w1 (List.mem_of_getElem? (i := 158) (by decide +kernel))⟩
theorem f_E_39 : pe_FL "PaintEditor$Editor" 39 2 8 12 := ⟨"PaintEditor$Editor", pe_T2, pe_t2, rfl, by decide, pe_k2.1, pe_k2.2.1, pe_k2.2.2, pe_w1 (List.mem_of_getElem? (i := 159) (by decide +kernel))⟩
theorem f_P_130 : pe_FL "PaintEditor" 130 2 8 12 := ⟨"PaintEditor$Editor", pe_T2, pe_t2, rfl, by decide, pe_k2.1, pe_k2.2.1, pe_k2.2.2, pe_w1 (List.mem_of_getElem? (i := 160) (by decide +kernel))⟩
theorem f_E_43 : pe_FL "PaintEditor$Editor" 43 2 9 12 := ⟨"PaintEditor$Editor", pe_T2, pe_t2, rfl, by decide, pe_k2.1, pe_k2.2.1, pe_k2.2.2, pe_w1 (List.mem_of_getElem? (i := 161) (by decide +kernel))⟩
theorem f_P_145 : pe_FL "PaintEditor" 145 2 9 12 := ⟨"PaintEditor$Editor", pe_T2, pe_t2, rfl, by decide, pe_k2.1, pe_k2.2.1, pe_k2.2.2, pe_w1 (List.mem_of_getElem? (i := 162) (by decide +kernel))⟩
theorem f_E_55 : pe_FL "PaintEditor$Editor" 55 2 10 12 := ⟨"PaintEditor$Editor", pe_T2, pe_t2, rfl, by decide, pe_k2.1, pe_k2.2.1, pe_k2.2.2, pe_w1 (List.mem_of_getElem? (i := 163) (by decide +kernel))⟩
theorem f_P_154 : pe_FL "PaintEditor" 154 2 10 12 := ⟨"PaintEditor$Editor", pe_T2, pe_t2, rfl, by decide, pe_k2.1, pe_k2.2.1, pe_k2.2.2, pe_w1 (List.mem_of_getElem? (i := 164) (by decide +kernel))⟩
theorem f_E_46 : pe_FL "PaintEditor$Editor" 46 2 11 12 := ⟨"PaintEditor$Editor", pe_T2, pe_t2, rfl, by decide, pe_k2.1, pe_k2.2.1, pe_k2.2.2, pe_w1 (List.mem_of_getElem? (i := 165) (by decide +kernel))⟩
theorem f_P_77 : pe_FL "PaintEditor" 77 2 11 12 := ⟨"PaintEditor$Editor", pe_T2, pe_t2, rfl, by decide, pe_k2.1, pe_k2.2.1, pe_k2.2.2, pe_w1 (List.mem_of_getElem? (i := 166) (by decide +kernel))⟩
theorem f_G_9 : pe_FL "PaintEditor$Grid" 9 7 0 4 := ⟨"PaintEditor$Grid", pe_T7, pe_t7, rfl, by decide, pe_k7.1, pe_k7.2.1, pe_k7.2.2, pe_w1 (List.mem_of_getElem? (i := 239) (by decide +kernel))⟩
theorem f_G_15 : pe_FL "PaintEditor$Grid" 15 7 1 4 := ⟨"PaintEditor$Grid", pe_T7, pe_t7, rfl, by decide, pe_k7.1, pe_k7.2.1, pe_k7.2.2, pe_w2 (List.mem_of_getElem? (i := 0) (by decide +kernel))⟩
theorem f_G_18 : pe_FL "PaintEditor$Grid" 18 7 2 4 := ⟨"PaintEditor$Grid", pe_T7, pe_t7, rfl, by decide, pe_k7.1, pe_k7.2.1, pe_k7.2.2, pe_w2 (List.mem_of_getElem? (i := 1) (by decide +kernel))⟩
theorem f_S_37 : pe_FL "PaintEditor$Screen" 37 7 2 4 := ⟨"PaintEditor$Grid", pe_T7, pe_t7, rfl, by decide, pe_k7.1, pe_k7.2.1, pe_k7.2.2, pe_w2 (List.mem_of_getElem? (i := 2) (by decide +kernel))⟩
theorem f_Z_53 : pe_FL "PaintEditor$Terminal" 53 7 2 4 := ⟨"PaintEditor$Grid", pe_T7, pe_t7, rfl, by decide, pe_k7.1, pe_k7.2.1, pe_k7.2.2, pe_w2 (List.mem_of_getElem? (i := 3) (by decide +kernel))⟩
theorem f_Q_77 : pe_FL "PaintEditor$Painter" 77 7 2 4 := ⟨"PaintEditor$Grid", pe_T7, pe_t7, rfl, by decide, pe_k7.1, pe_k7.2.1, pe_k7.2.2, pe_w2 (List.mem_of_getElem? (i := 4) (by decide +kernel))⟩
theorem f_G_22 : pe_FL "PaintEditor$Grid" 22 7 3 4 := ⟨"PaintEditor$Grid", pe_T7, pe_t7, rfl, by decide, pe_k7.1, pe_k7.2.1, pe_k7.2.2, pe_w2 (List.mem_of_getElem? (i := 5) (by decide +kernel))⟩
theorem f_S_40 : pe_FL "PaintEditor$Screen" 40 7 3 4 := ⟨"PaintEditor$Grid", pe_T7, pe_t7, rfl, by decide, pe_k7.1, pe_k7.2.1, pe_k7.2.2, pe_w2 (List.mem_of_getElem? (i := 6) (by decide +kernel))⟩
theorem f_Z_37 : pe_FL "PaintEditor$Terminal" 37 7 3 4 := ⟨"PaintEditor$Grid", pe_T7, pe_t7, rfl, by decide, pe_k7.1, pe_k7.2.1, pe_k7.2.2, pe_w2 (List.mem_of_getElem? (i := 7) (by decide +kernel))⟩
theorem f_P_105 : pe_FL "PaintEditor" 105 7 3 4 := ⟨"PaintEditor$Grid", pe_T7, pe_t7, rfl, by decide, pe_k7.1, pe_k7.2.1, pe_k7.2.2, pe_w2 (List.mem_of_getElem? (i := 8) (by decide +kernel))⟩
theorem f_S_23 : pe_FL "PaintEditor$Screen" 23 6 0 5 := ⟨"PaintEditor$Screen", pe_T6, pe_t6, rfl, by decide, pe_k6.1, pe_k6.2.1, pe_k6.2.2, pe_w2 (List.mem_of_getElem? (i := 18) (by decide +kernel))⟩
theorem f_P_81 : pe_FL "PaintEditor" 81 6 0 5 := ⟨"PaintEditor$Screen", pe_T6, pe_t6, rfl, by decide, pe_k6.1, pe_k6.2.1, pe_k6.2.2, pe_w2 (List.mem_of_getElem? (i := 19) (by decide +kernel))⟩
theorem f_S_12 : pe_FL "PaintEditor$Screen" 12 6 1 5 := ⟨"PaintEditor$Screen", pe_T6, pe_t6, rfl, by decide, pe_k6.1, pe_k6.2.1, pe_k6.2.2, pe_w2 (List.mem_of_getElem? (i := 20) (by decide +kernel))⟩
theorem f_S_86 : pe_FL "PaintEditor$Screen" 86 6 2 5 := ⟨"PaintEditor$Screen", pe_T6, pe_t6, rfl, by decide, pe_k6.1, pe_k6.2.1, pe_k6.2.2, pe_w2 (List.mem_of_getElem? (i := 21) (by decide +kernel))⟩
theorem f_P_148 : pe_FL "PaintEditor" 148 6 2 5 := ⟨"PaintEditor$Screen", pe_T6, pe_t6, rfl, by decide, pe_k6.1, pe_k6.2.1, pe_k6.2.2, pe_w2 (List.mem_of_getElem? (i := 22) (by decide +kernel))⟩
theorem f_S_30 : pe_FL "PaintEditor$Screen" 30 6 3 5 := ⟨"PaintEditor$Screen", pe_T6, pe_t6, rfl, by decide, pe_k6.1, pe_k6.2.1, pe_k6.2.2, pe_w2 (List.mem_of_getElem? (i := 23) (by decide +kernel))⟩
theorem f_P_112 : pe_FL "PaintEditor" 112 6 3 5 := ⟨"PaintEditor$Screen", pe_T6, pe_t6, rfl, by decide, pe_k6.1, pe_k6.2.1, pe_k6.2.2, pe_w2 (List.mem_of_getElem? (i := 24) (by decide +kernel))⟩
theorem f_S_34 : pe_FL "PaintEditor$Screen" 34 6 4 5 := ⟨"PaintEditor$Screen", pe_T6, pe_t6, rfl, by decide, pe_k6.1, pe_k6.2.1, pe_k6.2.2, pe_w2 (List.mem_of_getElem? (i := 25) (by decide +kernel))⟩
theorem f_P_115 : pe_FL "PaintEditor" 115 6 4 5 := ⟨"PaintEditor$Screen", pe_T6, pe_t6, rfl, by decide, pe_k6.1, pe_k6.2.1, pe_k6.2.2, pe_w2 (List.mem_of_getElem? (i := 26) (by decide +kernel))⟩
theorem f_Z_14 : pe_FL "PaintEditor$Terminal" 14 10 0 8 := ⟨"PaintEditor$Terminal", pe_T10, pe_t10, rfl, by decide, pe_k10.1, pe_k10.2.1, pe_k10.2.2, pe_w2 (List.mem_of_getElem? (i := 52) (by decide +kernel))⟩
theorem f_Q_73 : pe_FL "PaintEditor$Painter" 73 10 0 8 := ⟨"PaintEditor$Terminal", pe_T10, pe_t10, rfl, by decide, pe_k10.1, pe_k10.2.1, pe_k10.2.2, pe_w2 (List.mem_of_getElem? (i := 53) (by decide +kernel))⟩
theorem f_P_157 : pe_FL "PaintEditor" 157 10 0 8 := ⟨"PaintEditor$Terminal", pe_T10, pe_t10, rfl, by decide, pe_k10.1, pe_k10.2.1, pe_k10.2.2, pe_w2 (List.mem_of_getElem? (i := 54) (by decide +kernel))⟩
theorem f_Z_33 : pe_FL "PaintEditor$Terminal" 33 10 1 8 := ⟨"PaintEditor$Terminal", pe_T10, pe_t10, rfl, by decide, pe_k10.1, pe_k10.2.1, pe_k10.2.2, pe_w2 (List.mem_of_getElem? (i := 55) (by decide +kernel))⟩
theorem f_Q_113 : pe_FL "PaintEditor$Painter" 113 10 1 8 := ⟨"PaintEditor$Terminal", pe_T10, pe_t10, rfl, by decide, pe_k10.1, pe_k10.2.1, pe_k10.2.2, pe_w2 (List.mem_of_getElem? (i := 56) (by decide +kernel))⟩
theorem f_P_164 : pe_FL "PaintEditor" 164 10 1 8 := ⟨"PaintEditor$Terminal", pe_T10, pe_t10, rfl, by decide, pe_k10.1, pe_k10.2.1, pe_k10.2.2, pe_w2 (List.mem_of_getElem? (i := 57) (by decide +kernel))⟩
theorem f_Z_46 : pe_FL "PaintEditor$Terminal" 46 10 2 8 := ⟨"PaintEditor$Terminal", pe_T10, pe_t10, rfl, by decide, pe_k10.1, pe_k10.2.1, pe_k10.2.2, pe_w2 (List.mem_of_getElem? (i := 58) (by decide +kernel))⟩
theorem f_Q_116 : pe_FL "PaintEditor$Painter" 116 10 2 8 := ⟨"PaintEditor$Terminal", pe_T10, pe_t10, rfl, by decide, pe_k10.1, pe_k10.2.1, pe_k10.2.2, pe_w2 (List.mem_of_getElem? (i := 59) (by decide +kernel))⟩
theorem f_P_167 : pe_FL "PaintEditor" 167 10 2 8 := ⟨"PaintEditor$Terminal", pe_T10, pe_t10, rfl, by decide, pe_k10.1, pe_k10.2.1, pe_k10.2.2, pe_w2 (List.mem_of_getElem? (i := 60) (by decide +kernel))⟩
theorem f_Z_29 : pe_FL "PaintEditor$Terminal" 29 10 3 8 := ⟨"PaintEditor$Terminal", pe_T10, pe_t10, rfl, by decide, pe_k10.1, pe_k10.2.1, pe_k10.2.2, pe_w2 (List.mem_of_getElem? (i := 61) (by decide +kernel))⟩
theorem f_Q_119 : pe_FL "PaintEditor$Painter" 119 10 3 8 := ⟨"PaintEditor$Terminal", pe_T10, pe_t10, rfl, by decide, pe_k10.1, pe_k10.2.1, pe_k10.2.2, pe_w2 (List.mem_of_getElem? (i := 62) (by decide +kernel))⟩
theorem f_P_170 : pe_FL "PaintEditor" 170 10 3 8 := ⟨"PaintEditor$Terminal", pe_T10, pe_t10, rfl, by decide, pe_k10.1, pe_k10.2.1, pe_k10.2.2, pe_w2 (List.mem_of_getElem? (i := 63) (by decide +kernel))⟩
theorem f_Z_85 : pe_FL "PaintEditor$Terminal" 85 10 4 8 := ⟨"PaintEditor$Terminal", pe_T10, pe_t10, rfl, by decide, pe_k10.1, pe_k10.2.1, pe_k10.2.2, pe_w2 (List.mem_of_getElem? (i := 64) (by decide +kernel))⟩
theorem f_Q_101 : pe_FL "PaintEditor$Painter" 101 10 4 8 := ⟨"PaintEditor$Terminal", pe_T10, pe_t10, rfl, by decide, pe_k10.1, pe_k10.2.1, pe_k10.2.2, pe_w2 (List.mem_of_getElem? (i := 65) (by decide +kernel))⟩
theorem f_P_173 : pe_FL "PaintEditor" 173 10 4 8 := ⟨"PaintEditor$Terminal", pe_T10, pe_t10, rfl, by decide, pe_k10.1, pe_k10.2.1, pe_k10.2.2, pe_w2 (List.mem_of_getElem? (i := 66) (by decide +kernel))⟩
theorem f_Z_60 : pe_FL "PaintEditor$Terminal" 60 10 5 8 := ⟨"PaintEditor$Terminal", pe_T10, pe_t10, rfl, by decide, pe_k10.1, pe_k10.2.1, pe_k10.2.2, pe_w2 (List.mem_of_getElem? (i := 67) (by decide +kernel))⟩
theorem f_Z_63 : pe_FL "PaintEditor$Terminal" 63 10 6 8 := ⟨"PaintEditor$Terminal", pe_T10, pe_t10, rfl, by decide, pe_k10.1, pe_k10.2.1, pe_k10.2.2, pe_w2 (List.mem_of_getElem? (i := 68) (by decide +kernel))⟩
theorem f_Z_69 : pe_FL "PaintEditor$Terminal" 69 10 7 8 := ⟨"PaintEditor$Terminal", pe_T10, pe_t10, rfl, by decide, pe_k10.1, pe_k10.2.1, pe_k10.2.2, pe_w2 (List.mem_of_getElem? (i := 69) (by decide +kernel))⟩
theorem f_Q_20 : pe_FL "PaintEditor$Painter" 20 9 0 3 := ⟨"PaintEditor$Painter", pe_T9, pe_t9, rfl, by decide, pe_k9.1, pe_k9.2.1, pe_k9.2.2, pe_w2 (List.mem_of_getElem? (i := 87) (by decide +kernel))⟩
theorem f_P_90 : pe_FL "PaintEditor" 90 9 0 3 := ⟨"PaintEditor$Painter", pe_T9, pe_t9, rfl, by decide, pe_k9.1, pe_k9.2.1, pe_k9.2.2, pe_w2 (List.mem_of_getElem? (i := 88) (by decide +kernel))⟩
theorem f_Q_9 : pe_FL "PaintEditor$Painter" 9 9 1 3 := ⟨"PaintEditor$Painter", pe_T9, pe_t9, rfl, by decide, pe_k9.1, pe_k9.2.1, pe_k9.2.2, pe_w2 (List.mem_of_getElem? (i := 89) (by decide +kernel))⟩
theorem f_Q_24 : pe_FL "PaintEditor$Painter" 24 9 2 3 := ⟨"PaintEditor$Painter", pe_T9, pe_t9, rfl, by decide, pe_k9.1, pe_k9.2.1, pe_k9.2.2, pe_w2 (List.mem_of_getElem? (i := 90) (by decide +kernel))⟩
theorem f_P_121 : pe_FL "PaintEditor" 121 9 2 3 := ⟨"PaintEditor$Painter", pe_T9, pe_t9, rfl, by decide, pe_k9.1, pe_k9.2.1, pe_k9.2.2, pe_w2 (List.mem_of_getElem? (i := 91) (by decide +kernel))⟩
theorem f_P_21 : pe_FL "PaintEditor" 21 0 0 4 := ⟨"PaintEditor", pe_T0, pe_t0, rfl, by decide, pe_k0.1, pe_k0.2.1, pe_k0.2.2, pe_w2 (List.mem_of_getElem? (i := 99) (by decide +kernel))⟩
theorem f_P_30 : pe_FL "PaintEditor" 30 0 1 4 := ⟨"PaintEditor", pe_T0, pe_t0, rfl, by decide, pe_k0.1, pe_k0.2.1, pe_k0.2.2, pe_w2 (List.mem_of_getElem? (i := 100) (by decide +kernel))⟩
theorem f_P_39 : pe_FL "PaintEditor" 39 0 2 4 := ⟨"PaintEditor", pe_T0, pe_t0, rfl, by decide, pe_k0.1, pe_k0.2.1, pe_k0.2.2, pe_w2 (List.mem_of_getElem? (i := 101) (by decide +kernel))⟩
theorem f_P_46 : pe_FL "PaintEditor" 46 0 3 4 := ⟨"PaintEditor", pe_T0, pe_t0, rfl, by decide, pe_k0.1, pe_k0.2.1, pe_k0.2.2, pe_w2 (List.mem_of_getElem? (i := 102) (by decide +kernel))⟩
theorem f_M_7 : pe_FL "PaintEditorModel" 7 11 0 44 := ⟨"PaintEditorModel", pe_T11, pe_t11, rfl, by decide, pe_k11.1, pe_k11.2.1, pe_k11.2.2, pe_w4 (List.mem_of_getElem? (i := 228) (by decide +kernel))⟩
theorem f_M_87 : pe_FL "PaintEditorModel" 87 11 1 44 := ⟨"PaintEditorModel", pe_T11, pe_t11, rfl, by decide, pe_k11.1, pe_k11.2.1, pe_k11.2.2, pe_w4 (List.mem_of_getElem? (i := 229) (by decide +kernel))⟩
theorem f_M_117 : pe_FL "PaintEditorModel" 117 11 2 44 := ⟨"PaintEditorModel", pe_T11, pe_t11, rfl, by decide, pe_k11.1, pe_k11.2.1, pe_k11.2.2, pe_w4 (List.mem_of_getElem? (i := 230) (by decide +kernel))⟩
theorem f_M_13 : pe_FL "PaintEditorModel" 13 11 3 44 := ⟨"PaintEditorModel", pe_T11, pe_t11, rfl, by decide, pe_k11.1, pe_k11.2.1, pe_k11.2.2, pe_w4 (List.mem_of_getElem? (i := 231) (by decide +kernel))⟩
theorem f_M_17 : pe_FL "PaintEditorModel" 17 11 4 44 := ⟨"PaintEditorModel", pe_T11, pe_t11, rfl, by decide, pe_k11.1, pe_k11.2.1, pe_k11.2.2, pe_w4 (List.mem_of_getElem? (i := 232) (by decide +kernel))⟩
theorem f_M_132 : pe_FL "PaintEditorModel" 132 11 5 44 := ⟨"PaintEditorModel", pe_T11, pe_t11, rfl, by decide, pe_k11.1, pe_k11.2.1, pe_k11.2.2, pe_w4 (List.mem_of_getElem? (i := 233) (by decide +kernel))⟩
theorem f_M_20 : pe_FL "PaintEditorModel" 20 11 6 44 := ⟨"PaintEditorModel", pe_T11, pe_t11, rfl, by decide, pe_k11.1, pe_k11.2.1, pe_k11.2.2, pe_w4 (List.mem_of_getElem? (i := 234) (by decide +kernel))⟩
theorem f_M_111 : pe_FL "PaintEditorModel" 111 11 7 44 := ⟨"PaintEditorModel", pe_T11, pe_t11, rfl, by decide, pe_k11.1, pe_k11.2.1, pe_k11.2.2, pe_w4 (List.mem_of_getElem? (i := 235) (by decide +kernel))⟩
theorem f_M_23 : pe_FL "PaintEditorModel" 23 11 8 44 := ⟨"PaintEditorModel", pe_T11, pe_t11, rfl, by decide, pe_k11.1, pe_k11.2.1, pe_k11.2.2, pe_w4 (List.mem_of_getElem? (i := 236) (by decide +kernel))⟩
theorem f_M_26 : pe_FL "PaintEditorModel" 26 11 9 44 := ⟨"PaintEditorModel", pe_T11, pe_t11, rfl, by decide, pe_k11.1, pe_k11.2.1, pe_k11.2.2, pe_w4 (List.mem_of_getElem? (i := 237) (by decide +kernel))⟩
theorem f_M_29 : pe_FL "PaintEditorModel" 29 11 10 44 := ⟨"PaintEditorModel", pe_T11, pe_t11, rfl, by decide, pe_k11.1, pe_k11.2.1, pe_k11.2.2, pe_w4 (List.mem_of_getElem? (i := 238) (by decide +kernel))⟩
theorem f_M_32 : pe_FL "PaintEditorModel" 32 11 11 44 := ⟨"PaintEditorModel", pe_T11, pe_t11, rfl, by decide, pe_k11.1, pe_k11.2.1, pe_k11.2.2, pe_w4 (List.mem_of_getElem? (i := 239) (by decide +kernel))⟩
theorem f_M_35 : pe_FL "PaintEditorModel" 35 11 12 44 := ⟨"PaintEditorModel", pe_T11, pe_t11, rfl, by decide, pe_k11.1, pe_k11.2.1, pe_k11.2.2, pe_w5 (List.mem_of_getElem? (i := 0) (by decide +kernel))⟩
theorem f_M_181 : pe_FL "PaintEditorModel" 181 11 13 44 := ⟨"PaintEditorModel", pe_T11, pe_t11, rfl, by decide, pe_k11.1, pe_k11.2.1, pe_k11.2.2, pe_w5 (List.mem_of_getElem? (i := 1) (by decide +kernel))⟩
theorem f_M_168 : pe_FL "PaintEditorModel" 168 11 14 44 := ⟨"PaintEditorModel", pe_T11, pe_t11, rfl, by decide, pe_k11.1, pe_k11.2.1, pe_k11.2.2, pe_w5 (List.mem_of_getElem? (i := 2) (by decide +kernel))⟩
theorem f_M_184 : pe_FL "PaintEditorModel" 184 11 15 44 := ⟨"PaintEditorModel", pe_T11, pe_t11, rfl, by decide, pe_k11.1, pe_k11.2.1, pe_k11.2.2, pe_w5 (List.mem_of_getElem? (i := 3) (by decide +kernel))⟩
theorem f_M_187 : pe_FL "PaintEditorModel" 187 11 16 44 := ⟨"PaintEditorModel", pe_T11, pe_t11, rfl, by decide, pe_k11.1, pe_k11.2.1, pe_k11.2.2, pe_w5 (List.mem_of_getElem? (i := 4) (by decide +kernel))⟩
theorem f_M_190 : pe_FL "PaintEditorModel" 190 11 17 44 := ⟨"PaintEditorModel", pe_T11, pe_t11, rfl, by decide, pe_k11.1, pe_k11.2.1, pe_k11.2.2, pe_w5 (List.mem_of_getElem? (i := 5) (by decide +kernel))⟩
theorem f_M_193 : pe_FL "PaintEditorModel" 193 11 18 44 := ⟨"PaintEditorModel", pe_T11, pe_t11, rfl, by decide, pe_k11.1, pe_k11.2.1, pe_k11.2.2, pe_w5 (List.mem_of_getElem? (i := 6) (by decide +kernel))⟩
theorem f_M_147 : pe_FL "PaintEditorModel" 147 11 19 44 := ⟨"PaintEditorModel", pe_T11, pe_t11, rfl, by decide, pe_k11.1, pe_k11.2.1, pe_k11.2.2, pe_w5 (List.mem_of_getElem? (i := 7) (by decide +kernel))⟩
theorem f_M_38 : pe_FL "PaintEditorModel" 38 11 20 44 := ⟨"PaintEditorModel", pe_T11, pe_t11, rfl, by decide, pe_k11.1, pe_k11.2.1, pe_k11.2.2, pe_w5 (List.mem_of_getElem? (i := 8) (by decide +kernel))⟩
theorem f_M_78 : pe_FL "PaintEditorModel" 78 11 21 44 := ⟨"PaintEditorModel", pe_T11, pe_t11, rfl, by decide, pe_k11.1, pe_k11.2.1, pe_k11.2.2, pe_w5 (List.mem_of_getElem? (i := 9) (by decide +kernel))⟩
theorem f_M_81 : pe_FL "PaintEditorModel" 81 11 22 44 := ⟨"PaintEditorModel", pe_T11, pe_t11, rfl, by decide, pe_k11.1, pe_k11.2.1, pe_k11.2.2, pe_w5 (List.mem_of_getElem? (i := 10) (by decide +kernel))⟩
theorem f_M_41 : pe_FL "PaintEditorModel" 41 11 23 44 := ⟨"PaintEditorModel", pe_T11, pe_t11, rfl, by decide, pe_k11.1, pe_k11.2.1, pe_k11.2.2, pe_w5 (List.mem_of_getElem? (i := 11) (by decide +kernel))⟩
theorem f_M_44 : pe_FL "PaintEditorModel" 44 11 24 44 := ⟨"PaintEditorModel", pe_T11, pe_t11, rfl, by decide, pe_k11.1, pe_k11.2.1, pe_k11.2.2, pe_w5 (List.mem_of_getElem? (i := 12) (by decide +kernel))⟩
theorem f_M_47 : pe_FL "PaintEditorModel" 47 11 25 44 := ⟨"PaintEditorModel", pe_T11, pe_t11, rfl, by decide, pe_k11.1, pe_k11.2.1, pe_k11.2.2, pe_w5 (List.mem_of_getElem? (i := 13) (by decide +kernel))⟩
theorem f_M_104 : pe_FL "PaintEditorModel" 104 11 26 44 := ⟨"PaintEditorModel", pe_T11, pe_t11, rfl, by decide, pe_k11.1, pe_k11.2.1, pe_k11.2.2, pe_w5 (List.mem_of_getElem? (i := 14) (by decide +kernel))⟩
theorem f_M_222 : pe_FL "PaintEditorModel" 222 11 27 44 := ⟨"PaintEditorModel", pe_T11, pe_t11, rfl, by decide, pe_k11.1, pe_k11.2.1, pe_k11.2.2, pe_w5 (List.mem_of_getElem? (i := 15) (by decide +kernel))⟩
theorem f_M_50 : pe_FL "PaintEditorModel" 50 11 28 44 := ⟨"PaintEditorModel", pe_T11, pe_t11, rfl, by decide, pe_k11.1, pe_k11.2.1, pe_k11.2.2, pe_w5 (List.mem_of_getElem? (i := 16) (by decide +kernel))⟩
theorem f_M_53 : pe_FL "PaintEditorModel" 53 11 29 44 := ⟨"PaintEditorModel", pe_T11, pe_t11, rfl, by decide, pe_k11.1, pe_k11.2.1, pe_k11.2.2, pe_w5 (List.mem_of_getElem? (i := 17) (by decide +kernel))⟩
theorem f_M_234 : pe_FL "PaintEditorModel" 234 11 30 44 := ⟨"PaintEditorModel", pe_T11, pe_t11, rfl, by decide, pe_k11.1, pe_k11.2.1, pe_k11.2.2, pe_w5 (List.mem_of_getElem? (i := 18) (by decide +kernel))⟩
theorem f_M_237 : pe_FL "PaintEditorModel" 237 11 31 44 := ⟨"PaintEditorModel", pe_T11, pe_t11, rfl, by decide, pe_k11.1, pe_k11.2.1, pe_k11.2.2, pe_w5 (List.mem_of_getElem? (i := 19) (by decide +kernel))⟩
theorem f_M_56 : pe_FL "PaintEditorModel" 56 11 32 44 := ⟨"PaintEditorModel", pe_T11, pe_t11, rfl, by decide, pe_k11.1, pe_k11.2.1, pe_k11.2.2, pe_w5 (List.mem_of_getElem? (i := 20) (by decide +kernel))⟩
theorem f_M_59 : pe_FL "PaintEditorModel" 59 11 33 44 := ⟨"PaintEditorModel", pe_T11, pe_t11, rfl, by decide, pe_k11.1, pe_k11.2.1, pe_k11.2.2, pe_w5 (List.mem_of_getElem? (i := 21) (by decide +kernel))⟩
theorem f_M_62 : pe_FL "PaintEditorModel" 62 11 34 44 := ⟨"PaintEditorModel", pe_T11, pe_t11, rfl, by decide, pe_k11.1, pe_k11.2.1, pe_k11.2.2, pe_w5 (List.mem_of_getElem? (i := 22) (by decide +kernel))⟩
theorem f_M_65 : pe_FL "PaintEditorModel" 65 11 35 44 := ⟨"PaintEditorModel", pe_T11, pe_t11, rfl, by decide, pe_k11.1, pe_k11.2.1, pe_k11.2.2, pe_w5 (List.mem_of_getElem? (i := 23) (by decide +kernel))⟩
theorem f_M_263 : pe_FL "PaintEditorModel" 263 11 36 44 := ⟨"PaintEditorModel", pe_T11, pe_t11, rfl, by decide, pe_k11.1, pe_k11.2.1, pe_k11.2.2, pe_w5 (List.mem_of_getElem? (i := 24) (by decide +kernel))⟩
theorem f_M_266 : pe_FL "PaintEditorModel" 266 11 37 44 := ⟨"PaintEditorModel", pe_T11, pe_t11, rfl, by decide, pe_k11.1, pe_k11.2.1, pe_k11.2.2, pe_w5 (List.mem_of_getElem? (i := 25) (by decide +kernel))⟩
theorem f_M_260 : pe_FL "PaintEditorModel" 260 11 38 44 := ⟨"PaintEditorModel", pe_T11, pe_t11, rfl, by decide, pe_k11.1, pe_k11.2.1, pe_k11.2.2, pe_w5 (List.mem_of_getElem? (i := 26) (by decide +kernel))⟩
theorem f_M_272 : pe_FL "PaintEditorModel" 272 11 39 44 := ⟨"PaintEditorModel", pe_T11, pe_t11, rfl, by decide, pe_k11.1, pe_k11.2.1, pe_k11.2.2, pe_w5 (List.mem_of_getElem? (i := 27) (by decide +kernel))⟩
theorem f_M_68 : pe_FL "PaintEditorModel" 68 11 40 44 := ⟨"PaintEditorModel", pe_T11, pe_t11, rfl, by decide, pe_k11.1, pe_k11.2.1, pe_k11.2.2, pe_w5 (List.mem_of_getElem? (i := 28) (by decide +kernel))⟩
theorem f_M_71 : pe_FL "PaintEditorModel" 71 11 41 44 := ⟨"PaintEditorModel", pe_T11, pe_t11, rfl, by decide, pe_k11.1, pe_k11.2.1, pe_k11.2.2, pe_w5 (List.mem_of_getElem? (i := 29) (by decide +kernel))⟩
theorem f_M_75 : pe_FL "PaintEditorModel" 75 11 42 44 := ⟨"PaintEditorModel", pe_T11, pe_t11, rfl, by decide, pe_k11.1, pe_k11.2.1, pe_k11.2.2, pe_w5 (List.mem_of_getElem? (i := 30) (by decide +kernel))⟩
theorem f_M_250 : pe_FL "PaintEditorModel" 250 11 43 44 := ⟨"PaintEditorModel", pe_T11, pe_t11, rfl, by decide, pe_k11.1, pe_k11.2.1, pe_k11.2.2, pe_w5 (List.mem_of_getElem? (i := 31) (by decide +kernel))⟩
/-! fields that may be put: g_<class number>_<place> -/
theorem g_1_0 : pe_FP 1 0 .int := ⟨"PaintEditor$Keyboard", pe_T1, 7, rfl, rfl, by decide +kernel⟩
theorem g_1_1 : pe_FP 1 1 .int := ⟨"PaintEditor$Keyboard", pe_T1, 7, rfl, rfl, by decide +kernel⟩
theorem g_1_2 : pe_FP 1 2 .int := ⟨"PaintEditor$Keyboard", pe_T1, 7, rfl, rfl, by decide +kernel⟩
theorem g_1_3 : pe_FP 1 3 .int := ⟨"PaintEditor$Keyboard", pe_T1, 7, rfl, rfl, by decide +kernel⟩
theorem g_1_4 : pe_FP 1 4 .int := ⟨"PaintEditor$Keyboard", pe_T1, 7, rfl, rfl, by decide +kernel⟩
theorem g_1_5 : pe_FP 1 5 .int := ⟨"PaintEditor$Keyboard", pe_T1, 7, rfl, rfl, by decide +kernel⟩
theorem g_1_6 : pe_FP 1 6 .int := ⟨"PaintEditor$Keyboard", pe_T1, 7, rfl, rfl, by decide +kernel⟩
theorem g_2_5 : pe_FP 2 5 .int := ⟨"PaintEditor$Editor", pe_T2, 12, rfl, rfl, by decide +kernel⟩
theorem g_2_6 : pe_FP 2 6 .int := ⟨"PaintEditor$Editor", pe_T2, 12, rfl, rfl, by decide +kernel⟩
theorem g_2_7 : pe_FP 2 7 .int := ⟨"PaintEditor$Editor", pe_T2, 12, rfl, rfl, by decide +kernel⟩
theorem g_2_8 : pe_FP 2 8 .int := ⟨"PaintEditor$Editor", pe_T2, 12, rfl, rfl, by decide +kernel⟩
theorem g_2_9 : pe_FP 2 9 .int := ⟨"PaintEditor$Editor", pe_T2, 12, rfl, rfl, by decide +kernel⟩
theorem g_2_10 : pe_FP 2 10 .boolean := ⟨"PaintEditor$Editor", pe_T2, 12, rfl, rfl, by decide +kernel⟩
theorem g_2_11 : pe_FP 2 11 .boolean := ⟨"PaintEditor$Editor", pe_T2, 12, rfl, rfl, by decide +kernel⟩
theorem g_3_1 : pe_FP 3 1 .int := ⟨"PaintEditor$Text", pe_T3, 2, rfl, rfl, by decide +kernel⟩
theorem g_4_5 : pe_FP 4 5 .int := ⟨"PaintEditor$History", pe_T4, 7, rfl, rfl, by decide +kernel⟩
theorem g_4_6 : pe_FP 4 6 .int := ⟨"PaintEditor$History", pe_T4, 7, rfl, rfl, by decide +kernel⟩
theorem g_6_2 : pe_FP 6 2 .int := ⟨"PaintEditor$Screen", pe_T6, 5, rfl, rfl, by decide +kernel⟩
theorem g_6_3 : pe_FP 6 3 .int := ⟨"PaintEditor$Screen", pe_T6, 5, rfl, rfl, by decide +kernel⟩
theorem g_6_4 : pe_FP 6 4 .int := ⟨"PaintEditor$Screen", pe_T6, 5, rfl, rfl, by decide +kernel⟩
theorem g_7_2 : pe_FP 7 2 .int := ⟨"PaintEditor$Grid", pe_T7, 4, rfl, rfl, by decide +kernel⟩
theorem g_7_3 : pe_FP 7 3 .int := ⟨"PaintEditor$Grid", pe_T7, 4, rfl, rfl, by decide +kernel⟩
theorem g_9_2 : pe_FP 9 2 .int := ⟨"PaintEditor$Painter", pe_T9, 3, rfl, rfl, by decide +kernel⟩
theorem g_10_1 : pe_FP 10 1 .int := ⟨"PaintEditor$Terminal", pe_T10, 8, rfl, rfl, by decide +kernel⟩
theorem g_10_2 : pe_FP 10 2 .int := ⟨"PaintEditor$Terminal", pe_T10, 8, rfl, rfl, by decide +kernel⟩
theorem g_10_3 : pe_FP 10 3 .boolean := ⟨"PaintEditor$Terminal", pe_T10, 8, rfl, rfl, by decide +kernel⟩
theorem g_10_4 : pe_FP 10 4 .int := ⟨"PaintEditor$Terminal", pe_T10, 8, rfl, rfl, by decide +kernel⟩
theorem g_10_5 : pe_FP 10 5 .int := ⟨"PaintEditor$Terminal", pe_T10, 8, rfl, rfl, by decide +kernel⟩
theorem g_10_6 : pe_FP 10 6 .int := ⟨"PaintEditor$Terminal", pe_T10, 8, rfl, rfl, by decide +kernel⟩
theorem g_10_7 : pe_FP 10 7 .boolean := ⟨"PaintEditor$Terminal", pe_T10, 8, rfl, rfl, by decide +kernel⟩
theorem g_11_1 : pe_FP 11 1 .int := ⟨"PaintEditorModel", pe_T11, 44, rfl, rfl, by decide +kernel⟩
theorem g_11_2 : pe_FP 11 2 .int := ⟨"PaintEditorModel", pe_T11, 44, rfl, rfl, by decide +kernel⟩
theorem g_11_3 : pe_FP 11 3 .int := ⟨"PaintEditorModel", pe_T11, 44, rfl, rfl, by decide +kernel⟩
theorem g_11_5 : pe_FP 11 5 .int := ⟨"PaintEditorModel", pe_T11, 44, rfl, rfl, by decide +kernel⟩
theorem g_11_6 : pe_FP 11 6 .int := ⟨"PaintEditorModel", pe_T11, 44, rfl, rfl, by decide +kernel⟩
theorem g_11_7 : pe_FP 11 7 .int := ⟨"PaintEditorModel", pe_T11, 44, rfl, rfl, by decide +kernel⟩
theorem g_11_13 : pe_FP 11 13 .int := ⟨"PaintEditorModel", pe_T11, 44, rfl, rfl, by decide +kernel⟩
theorem g_11_14 : pe_FP 11 14 .int := ⟨"PaintEditorModel", pe_T11, 44, rfl, rfl, by decide +kernel⟩
theorem g_11_15 : pe_FP 11 15 .int := ⟨"PaintEditorModel", pe_T11, 44, rfl, rfl, by decide +kernel⟩
theorem g_11_16 : pe_FP 11 16 .int := ⟨"PaintEditorModel", pe_T11, 44, rfl, rfl, by decide +kernel⟩
theorem g_11_17 : pe_FP 11 17 .int := ⟨"PaintEditorModel", pe_T11, 44, rfl, rfl, by decide +kernel⟩
theorem g_11_18 : pe_FP 11 18 .int := ⟨"PaintEditorModel", pe_T11, 44, rfl, rfl, by decide +kernel⟩
theorem g_11_19 : pe_FP 11 19 .boolean := ⟨"PaintEditorModel", pe_T11, 44, rfl, rfl, by decide +kernel⟩
theorem g_11_20 : pe_FP 11 20 .int := ⟨"PaintEditorModel", pe_T11, 44, rfl, rfl, by decide +kernel⟩
theorem g_11_21 : pe_FP 11 21 .int := ⟨"PaintEditorModel", pe_T11, 44, rfl, rfl, by decide +kernel⟩
theorem g_11_22 : pe_FP 11 22 .int := ⟨"PaintEditorModel", pe_T11, 44, rfl, rfl, by decide +kernel⟩
theorem g_11_26 : pe_FP 11 26 .int := ⟨"PaintEditorModel", pe_T11, 44, rfl, rfl, by decide +kernel⟩
theorem g_11_27 : pe_FP 11 27 .int := ⟨"PaintEditorModel", pe_T11, 44, rfl, rfl, by decide +kernel⟩
theorem g_11_30 : pe_FP 11 30 .int := ⟨"PaintEditorModel", pe_T11, 44, rfl, rfl, by decide +kernel⟩
theorem g_11_31 : pe_FP 11 31 .int := ⟨"PaintEditorModel", pe_T11, 44, rfl, rfl, by decide +kernel⟩
theorem g_11_36 : pe_FP 11 36 .int := ⟨"PaintEditorModel", pe_T11, 44, rfl, rfl, by decide +kernel⟩
theorem g_11_37 : pe_FP 11 37 .int := ⟨"PaintEditorModel", pe_T11, 44, rfl, rfl, by decide +kernel⟩
theorem g_11_38 : pe_FP 11 38 .boolean := ⟨"PaintEditorModel", pe_T11, 44, rfl, rfl, by decide +kernel⟩
theorem g_11_39 : pe_FP 11 39 .int := ⟨"PaintEditorModel", pe_T11, 44, rfl, rfl, by decide +kernel⟩
theorem g_11_40 : pe_FP 11 40 .int := ⟨"PaintEditorModel", pe_T11, 44, rfl, rfl, by decide +kernel⟩
theorem g_11_41 : pe_FP 11 41 .boolean := ⟨"PaintEditorModel", pe_T11, 44, rfl, rfl, by decide +kernel⟩
theorem g_11_43 : pe_FP 11 43 .int := ⟨"PaintEditorModel", pe_T11, 44, rfl, rfl, by decide +kernel⟩
/-! calls that are linked: c_<class>_<pool entry>; what a callee is: i_, s_ (instance, selected) or z_ (static) -/
theorem c_G_25 : pe_CL "PaintEditor$Grid" 25 m_A_fill 2 := ⟨pe_w1 (List.mem_of_getElem? (i := 236) (by decide +kernel)), pe_w1 (List.mem_of_getElem? (i := 238) rfl), pe_w1 (List.mem_of_getElem? (i := 14) (by decide +kernel)), by decide, by decide, by decide +kernel⟩
theorem c_P_50 : pe_CL "PaintEditor" 50 m_K_leave 1 := ⟨pe_w2 (List.mem_of_getElem? (i := 116) (by decide +kernel)), pe_w2 (List.mem_of_getElem? (i := 119) rfl), pe_w1 (List.mem_of_getElem? (i := 3) (by decide +kernel)), by decide, by decide, by decide +kernel⟩
theorem c_K_18 : pe_CL "PaintEditor$Keyboard" 18 m_K_goesOn 1 := ⟨pe_w2 (List.mem_of_getElem? (i := 120) (by decide +kernel)), pe_w2 (List.mem_of_getElem? (i := 123) rfl), pe_w1 (List.mem_of_getElem? (i := 3) (by decide +kernel)), by decide, by decide, by decide +kernel⟩
theorem c_K_40 : pe_CL "PaintEditor$Keyboard" 40 m_K_isDigit 1 := ⟨pe_w2 (List.mem_of_getElem? (i := 124) (by decide +kernel)), pe_w2 (List.mem_of_getElem? (i := 126) rfl), pe_w1 (List.mem_of_getElem? (i := 3) (by decide +kernel)), by decide, by decide, by decide +kernel⟩
theorem c_K_43 : pe_CL "PaintEditor$Keyboard" 43 m_K_isFinal 1 := ⟨pe_w2 (List.mem_of_getElem? (i := 127) (by decide +kernel)), pe_w2 (List.mem_of_getElem? (i := 129) rfl), pe_w1 (List.mem_of_getElem? (i := 3) (by decide +kernel)), by decide, by decide, by decide +kernel⟩
theorem c_K_22 : pe_CL "PaintEditor$Keyboard" 22 m_K_giveUp 0 := ⟨pe_w2 (List.mem_of_getElem? (i := 130) (by decide +kernel)), pe_w2 (List.mem_of_getElem? (i := 133) rfl), pe_w1 (List.mem_of_getElem? (i := 3) (by decide +kernel)), by decide, by decide, by decide +kernel⟩
theorem c_P_54 : pe_CL "PaintEditor" 54 m_E_press 1 := ⟨pe_w2 (List.mem_of_getElem? (i := 135) (by decide +kernel)), pe_w2 (List.mem_of_getElem? (i := 138) rfl), pe_w1 (List.mem_of_getElem? (i := 4) (by decide +kernel)), by decide, by decide, by decide +kernel⟩
theorem c_E_58 : pe_CL "PaintEditor$Editor" 58 m_E_moveByRow 1 := ⟨pe_w2 (List.mem_of_getElem? (i := 141) (by decide +kernel)), pe_w2 (List.mem_of_getElem? (i := 144) rfl), pe_w1 (List.mem_of_getElem? (i := 4) (by decide +kernel)), by decide, by decide, by decide +kernel⟩
theorem c_E_145 : pe_CL "PaintEditor$Editor" 145 m_L_lay 2 := ⟨pe_w2 (List.mem_of_getElem? (i := 145) (by decide +kernel)), pe_w2 (List.mem_of_getElem? (i := 148) rfl), pe_w1 (List.mem_of_getElem? (i := 7) (by decide +kernel)), by decide, by decide, by decide +kernel⟩
theorem c_L_27 : pe_CL "PaintEditor$Layout" 27 m_T_isBeginning 1 := ⟨pe_w2 (List.mem_of_getElem? (i := 149) (by decide +kernel)), pe_w2 (List.mem_of_getElem? (i := 152) rfl), pe_w1 (List.mem_of_getElem? (i := 5) (by decide +kernel)), by decide, by decide, by decide +kernel⟩
theorem c_T_25 : pe_CL "PaintEditor$Text" 25 m_T_codeAt 1 := ⟨pe_w2 (List.mem_of_getElem? (i := 153) (by decide +kernel)), pe_w2 (List.mem_of_getElem? (i := 156) rfl), pe_w1 (List.mem_of_getElem? (i := 5) (by decide +kernel)), by decide, by decide, by decide +kernel⟩
theorem c_T_29 : pe_CL "PaintEditor$Text" 29 m_C_isMark 1 := ⟨pe_w2 (List.mem_of_getElem? (i := 157) (by decide +kernel)), pe_w2 (List.mem_of_getElem? (i := 159) rfl), pe_w1 (List.mem_of_getElem? (i := 18) (by decide +kernel)), by decide, by decide, by decide +kernel⟩
theorem c_T_35 : pe_CL "PaintEditor$Text" 35 m_C_takesMarks 1 := ⟨pe_w2 (List.mem_of_getElem? (i := 160) (by decide +kernel)), pe_w2 (List.mem_of_getElem? (i := 162) rfl), pe_w1 (List.mem_of_getElem? (i := 18) (by decide +kernel)), by decide, by decide, by decide +kernel⟩
theorem c_C_9 : pe_CL "PaintEditor$Codes" 9 m_C_isMark 1 := ⟨pe_w2 (List.mem_of_getElem? (i := 163) (by decide +kernel)), pe_w2 (List.mem_of_getElem? (i := 159) rfl), pe_w1 (List.mem_of_getElem? (i := 18) (by decide +kernel)), by decide, by decide, by decide +kernel⟩
theorem c_L_31 : pe_CL "PaintEditor$Layout" 31 m_T_codeAt 1 := ⟨pe_w2 (List.mem_of_getElem? (i := 164) (by decide +kernel)), pe_w2 (List.mem_of_getElem? (i := 156) rfl), pe_w1 (List.mem_of_getElem? (i := 5) (by decide +kernel)), by decide, by decide, by decide +kernel⟩
theorem c_L_35 : pe_CL "PaintEditor$Layout" 35 m_C_widthOf 1 := ⟨pe_w2 (List.mem_of_getElem? (i := 165) (by decide +kernel)), pe_w2 (List.mem_of_getElem? (i := 167) rfl), pe_w1 (List.mem_of_getElem? (i := 18) (by decide +kernel)), by decide, by decide, by decide +kernel⟩
theorem c_C_18 : pe_CL "PaintEditor$Codes" 18 m_C_isWide 1 := ⟨pe_w2 (List.mem_of_getElem? (i := 168) (by decide +kernel)), pe_w2 (List.mem_of_getElem? (i := 170) rfl), pe_w1 (List.mem_of_getElem? (i := 18) (by decide +kernel)), by decide, by decide, by decide +kernel⟩
theorem c_E_155 : pe_CL "PaintEditor$Editor" 155 m_L_placeIn 3 := ⟨pe_w2 (List.mem_of_getElem? (i := 175) (by decide +kernel)), pe_w2 (List.mem_of_getElem? (i := 178) rfl), pe_w1 (List.mem_of_getElem? (i := 7) (by decide +kernel)), by decide, by decide, by decide +kernel⟩
theorem c_E_62 : pe_CL "PaintEditor$Editor" 62 m_E_worksWhilePasting 1 := ⟨pe_w2 (List.mem_of_getElem? (i := 179) (by decide +kernel)), pe_w2 (List.mem_of_getElem? (i := 181) rfl), pe_w1 (List.mem_of_getElem? (i := 4) (by decide +kernel)), by decide, by decide, by decide +kernel⟩
theorem c_E_69 : pe_CL "PaintEditor$Editor" 69 m_E_isCharacter 1 := ⟨pe_w2 (List.mem_of_getElem? (i := 182) (by decide +kernel)), pe_w2 (List.mem_of_getElem? (i := 184) rfl), pe_w1 (List.mem_of_getElem? (i := 4) (by decide +kernel)), by decide, by decide, by decide +kernel⟩
theorem c_E_66 : pe_CL "PaintEditor$Editor" 66 m_E_worksOtherwise 1 := ⟨pe_w2 (List.mem_of_getElem? (i := 186) (by decide +kernel)), pe_w2 (List.mem_of_getElem? (i := 188) rfl), pe_w1 (List.mem_of_getElem? (i := 4) (by decide +kernel)), by decide, by decide, by decide +kernel⟩
theorem c_E_72 : pe_CL "PaintEditor$Editor" 72 m_E_insertOne 1 := ⟨pe_w2 (List.mem_of_getElem? (i := 189) (by decide +kernel)), pe_w2 (List.mem_of_getElem? (i := 192) rfl), pe_w1 (List.mem_of_getElem? (i := 4) (by decide +kernel)), by decide, by decide, by decide +kernel⟩
theorem c_E_105 : pe_CL "PaintEditor$Editor" 105 m_E_insert 2 := ⟨pe_w2 (List.mem_of_getElem? (i := 193) (by decide +kernel)), pe_w2 (List.mem_of_getElem? (i := 196) rfl), pe_w1 (List.mem_of_getElem? (i := 4) (by decide +kernel)), by decide, by decide, by decide +kernel⟩
theorem c_E_112 : pe_CL "PaintEditor$Editor" 112 m_T_hasRoomFor 1 := ⟨pe_w2 (List.mem_of_getElem? (i := 197) (by decide +kernel)), pe_w2 (List.mem_of_getElem? (i := 200) rfl), pe_w1 (List.mem_of_getElem? (i := 5) (by decide +kernel)), by decide, by decide, by decide +kernel⟩
theorem c_E_115 : pe_CL "PaintEditor$Editor" 115 m_H_keepInsertion 2 := ⟨pe_w2 (List.mem_of_getElem? (i := 201) (by decide +kernel)), pe_w2 (List.mem_of_getElem? (i := 204) rfl), pe_w1 (List.mem_of_getElem? (i := 6) (by decide +kernel)), by decide, by decide, by decide +kernel⟩
theorem c_H_28 : pe_CL "PaintEditor$History" 28 m_H_newSlot 0 := ⟨pe_w2 (List.mem_of_getElem? (i := 205) (by decide +kernel)), pe_w2 (List.mem_of_getElem? (i := 208) rfl), pe_w1 (List.mem_of_getElem? (i := 6) (by decide +kernel)), by decide, by decide, by decide +kernel⟩
theorem c_E_118 : pe_CL "PaintEditor$Editor" 118 m_T_insert 4 := ⟨pe_w2 (List.mem_of_getElem? (i := 209) (by decide +kernel)), pe_w2 (List.mem_of_getElem? (i := 212) rfl), pe_w1 (List.mem_of_getElem? (i := 5) (by decide +kernel)), by decide, by decide, by decide +kernel⟩
theorem c_E_75 : pe_CL "PaintEditor$Editor" 75 m_E_command 1 := ⟨pe_w2 (List.mem_of_getElem? (i := 216) (by decide +kernel)), pe_w2 (List.mem_of_getElem? (i := 219) rfl), pe_w1 (List.mem_of_getElem? (i := 4) (by decide +kernel)), by decide, by decide, by decide +kernel⟩
theorem c_E_86 : pe_CL "PaintEditor$Editor" 86 m_T_beginningAhead 1 := ⟨pe_w2 (List.mem_of_getElem? (i := 220) (by decide +kernel)), pe_w2 (List.mem_of_getElem? (i := 223) rfl), pe_w1 (List.mem_of_getElem? (i := 5) (by decide +kernel)), by decide, by decide, by decide +kernel⟩
theorem c_T_38 : pe_CL "PaintEditor$Text" 38 m_T_isBeginning 1 := ⟨pe_w2 (List.mem_of_getElem? (i := 224) (by decide +kernel)), pe_w2 (List.mem_of_getElem? (i := 152) rfl), pe_w1 (List.mem_of_getElem? (i := 5) (by decide +kernel)), by decide, by decide, by decide +kernel⟩
theorem c_E_89 : pe_CL "PaintEditor$Editor" 89 m_E_removeBetween 2 := ⟨pe_w2 (List.mem_of_getElem? (i := 226) (by decide +kernel)), pe_w2 (List.mem_of_getElem? (i := 229) rfl), pe_w1 (List.mem_of_getElem? (i := 4) (by decide +kernel)), by decide, by decide, by decide +kernel⟩
theorem c_E_121 : pe_CL "PaintEditor$Editor" 121 m_H_keepRemoval 4 := ⟨pe_w2 (List.mem_of_getElem? (i := 230) (by decide +kernel)), pe_w2 (List.mem_of_getElem? (i := 233) rfl), pe_w1 (List.mem_of_getElem? (i := 6) (by decide +kernel)), by decide, by decide, by decide +kernel⟩
theorem c_H_32 : pe_CL "PaintEditor$History" 32 m_T_copyTo 4 := ⟨pe_w2 (List.mem_of_getElem? (i := 234) (by decide +kernel)), pe_w2 (List.mem_of_getElem? (i := 237) rfl), pe_w1 (List.mem_of_getElem? (i := 5) (by decide +kernel)), by decide, by decide, by decide +kernel⟩
theorem c_E_125 : pe_CL "PaintEditor$Editor" 125 m_T_remove 2 := ⟨pe_w2 (List.mem_of_getElem? (i := 238) (by decide +kernel)), pe_w3 (List.mem_of_getElem? (i := 1) rfl), pe_w1 (List.mem_of_getElem? (i := 5) (by decide +kernel)), by decide, by decide, by decide +kernel⟩
theorem c_E_81 : pe_CL "PaintEditor$Editor" 81 m_T_beginningFrom 1 := ⟨pe_w3 (List.mem_of_getElem? (i := 2) (by decide +kernel)), pe_w3 (List.mem_of_getElem? (i := 5) rfl), pe_w1 (List.mem_of_getElem? (i := 5) (by decide +kernel)), by decide, by decide, by decide +kernel⟩
theorem c_E_93 : pe_CL "PaintEditor$Editor" 93 m_T_lineBeginning 1 := ⟨pe_w3 (List.mem_of_getElem? (i := 7) (by decide +kernel)), pe_w3 (List.mem_of_getElem? (i := 10) rfl), pe_w1 (List.mem_of_getElem? (i := 5) (by decide +kernel)), by decide, by decide, by decide +kernel⟩
theorem c_E_96 : pe_CL "PaintEditor$Editor" 96 m_T_lineEnd 1 := ⟨pe_w3 (List.mem_of_getElem? (i := 11) (by decide +kernel)), pe_w3 (List.mem_of_getElem? (i := 14) rfl), pe_w1 (List.mem_of_getElem? (i := 5) (by decide +kernel)), by decide, by decide, by decide +kernel⟩
theorem c_E_99 : pe_CL "PaintEditor$Editor" 99 m_E_cut 0 := ⟨pe_w3 (List.mem_of_getElem? (i := 15) (by decide +kernel)), pe_w3 (List.mem_of_getElem? (i := 18) rfl), pe_w1 (List.mem_of_getElem? (i := 4) (by decide +kernel)), by decide, by decide, by decide +kernel⟩
theorem c_E_137 : pe_CL "PaintEditor$Editor" 137 m_T_copyTo 4 := ⟨pe_w3 (List.mem_of_getElem? (i := 21) (by decide +kernel)), pe_w2 (List.mem_of_getElem? (i := 237) rfl), pe_w1 (List.mem_of_getElem? (i := 5) (by decide +kernel)), by decide, by decide, by decide +kernel⟩
theorem c_E_109 : pe_CL "PaintEditor$Editor" 109 m_E_undo 0 := ⟨pe_w3 (List.mem_of_getElem? (i := 22) (by decide +kernel)), pe_w3 (List.mem_of_getElem? (i := 25) rfl), pe_w1 (List.mem_of_getElem? (i := 4) (by decide +kernel)), by decide, by decide, by decide +kernel⟩
theorem c_E_141 : pe_CL "PaintEditor$Editor" 141 m_H_undoIn 1 := ⟨pe_w3 (List.mem_of_getElem? (i := 26) (by decide +kernel)), pe_w3 (List.mem_of_getElem? (i := 29) rfl), pe_w1 (List.mem_of_getElem? (i := 6) (by decide +kernel)), by decide, by decide, by decide +kernel⟩
theorem c_H_45 : pe_CL "PaintEditor$History" 45 m_T_insert 4 := ⟨pe_w3 (List.mem_of_getElem? (i := 30) (by decide +kernel)), pe_w2 (List.mem_of_getElem? (i := 212) rfl), pe_w1 (List.mem_of_getElem? (i := 5) (by decide +kernel)), by decide, by decide, by decide +kernel⟩
theorem c_H_49 : pe_CL "PaintEditor$History" 49 m_T_remove 2 := ⟨pe_w3 (List.mem_of_getElem? (i := 31) (by decide +kernel)), pe_w3 (List.mem_of_getElem? (i := 1) rfl), pe_w1 (List.mem_of_getElem? (i := 5) (by decide +kernel)), by decide, by decide, by decide +kernel⟩
theorem c_P_57 : pe_CL "PaintEditor" 57 m_K_take 1 := ⟨pe_w3 (List.mem_of_getElem? (i := 32) (by decide +kernel)), pe_w3 (List.mem_of_getElem? (i := 35) rfl), pe_w1 (List.mem_of_getElem? (i := 3) (by decide +kernel)), by decide, by decide, by decide +kernel⟩
theorem c_K_30 : pe_CL "PaintEditor$Keyboard" 30 m_K_takeInSequence 1 := ⟨pe_w3 (List.mem_of_getElem? (i := 36) (by decide +kernel)), pe_w3 (List.mem_of_getElem? (i := 39) rfl), pe_w1 (List.mem_of_getElem? (i := 3) (by decide +kernel)), by decide, by decide, by decide +kernel⟩
theorem c_K_74 : pe_CL "PaintEditor$Keyboard" 74 m_K_numberedKey 0 := ⟨pe_w3 (List.mem_of_getElem? (i := 47) (by decide +kernel)), pe_w3 (List.mem_of_getElem? (i := 50) rfl), pe_w1 (List.mem_of_getElem? (i := 3) (by decide +kernel)), by decide, by decide, by decide +kernel⟩
theorem c_K_34 : pe_CL "PaintEditor$Keyboard" 34 m_K_takeWithin 1 := ⟨pe_w3 (List.mem_of_getElem? (i := 54) (by decide +kernel)), pe_w3 (List.mem_of_getElem? (i := 57) rfl), pe_w1 (List.mem_of_getElem? (i := 3) (by decide +kernel)), by decide, by decide, by decide +kernel⟩
theorem c_K_37 : pe_CL "PaintEditor$Keyboard" 37 m_K_takePlain 1 := ⟨pe_w3 (List.mem_of_getElem? (i := 58) (by decide +kernel)), pe_w3 (List.mem_of_getElem? (i := 61) rfl), pe_w1 (List.mem_of_getElem? (i := 3) (by decide +kernel)), by decide, by decide, by decide +kernel⟩
theorem c_K_52 : pe_CL "PaintEditor$Keyboard" 52 m_K_beginCharacter 1 := ⟨pe_w3 (List.mem_of_getElem? (i := 62) (by decide +kernel)), pe_w3 (List.mem_of_getElem? (i := 65) rfl), pe_w1 (List.mem_of_getElem? (i := 3) (by decide +kernel)), by decide, by decide, by decide +kernel⟩
theorem c_P_70 : pe_CL "PaintEditor" 70 m_K_giveUp 0 := ⟨pe_w3 (List.mem_of_getElem? (i := 70) (by decide +kernel)), pe_w2 (List.mem_of_getElem? (i := 133) rfl), pe_w1 (List.mem_of_getElem? (i := 3) (by decide +kernel)), by decide, by decide, by decide +kernel⟩
theorem c_P_85 : pe_CL "PaintEditor" 85 m_G_resize 2 := ⟨pe_w3 (List.mem_of_getElem? (i := 75) (by decide +kernel)), pe_w3 (List.mem_of_getElem? (i := 78) rfl), pe_w1 (List.mem_of_getElem? (i := 13) (by decide +kernel)), by decide, by decide, by decide +kernel⟩
theorem c_G_56 : pe_CL "PaintEditor$Grid" 56 m_G_blankFrom 2 := ⟨pe_w3 (List.mem_of_getElem? (i := 79) (by decide +kernel)), pe_w3 (List.mem_of_getElem? (i := 82) rfl), pe_w1 (List.mem_of_getElem? (i := 13) (by decide +kernel)), by decide, by decide, by decide +kernel⟩
theorem c_G_52 : pe_CL "PaintEditor$Grid" 52 m_G_put 4 := ⟨pe_w3 (List.mem_of_getElem? (i := 83) (by decide +kernel)), pe_w3 (List.mem_of_getElem? (i := 86) rfl), pe_w1 (List.mem_of_getElem? (i := 13) (by decide +kernel)), by decide, by decide, by decide +kernel⟩
theorem c_G_31 : pe_CL "PaintEditor$Grid" 31 m_G_has 2 := ⟨pe_w3 (List.mem_of_getElem? (i := 87) (by decide +kernel)), pe_w3 (List.mem_of_getElem? (i := 90) rfl), pe_w1 (List.mem_of_getElem? (i := 13) (by decide +kernel)), by decide, by decide, by decide +kernel⟩
theorem c_G_60 : pe_CL "PaintEditor$Grid" 60 m_G_isWideAt 2 := ⟨pe_w3 (List.mem_of_getElem? (i := 91) (by decide +kernel)), pe_w3 (List.mem_of_getElem? (i := 94) rfl), pe_w1 (List.mem_of_getElem? (i := 13) (by decide +kernel)), by decide, by decide, by decide +kernel⟩
theorem c_G_35 : pe_CL "PaintEditor$Grid" 35 m_G_clusterAt 2 := ⟨pe_w3 (List.mem_of_getElem? (i := 95) (by decide +kernel)), pe_w3 (List.mem_of_getElem? (i := 98) rfl), pe_w1 (List.mem_of_getElem? (i := 13) (by decide +kernel)), by decide, by decide, by decide +kernel⟩
theorem c_G_42 : pe_CL "PaintEditor$Grid" 42 m_C_characterOf 1 := ⟨pe_w3 (List.mem_of_getElem? (i := 99) (by decide +kernel)), pe_w3 (List.mem_of_getElem? (i := 101) rfl), pe_w1 (List.mem_of_getElem? (i := 18) (by decide +kernel)), by decide, by decide, by decide +kernel⟩
theorem c_G_48 : pe_CL "PaintEditor$Grid" 48 m_C_isWide 1 := ⟨pe_w3 (List.mem_of_getElem? (i := 103) (by decide +kernel)), pe_w2 (List.mem_of_getElem? (i := 170) rfl), pe_w1 (List.mem_of_getElem? (i := 18) (by decide +kernel)), by decide, by decide, by decide +kernel⟩
theorem c_P_94 : pe_CL "PaintEditor" 94 m_Z_resize 2 := ⟨pe_w3 (List.mem_of_getElem? (i := 104) (by decide +kernel)), pe_w3 (List.mem_of_getElem? (i := 107) rfl), pe_w1 (List.mem_of_getElem? (i := 16) (by decide +kernel)), by decide, by decide, by decide +kernel⟩
theorem c_Z_97 : pe_CL "PaintEditor$Terminal" 97 m_G_resize 2 := ⟨pe_w3 (List.mem_of_getElem? (i := 108) (by decide +kernel)), pe_w3 (List.mem_of_getElem? (i := 78) rfl), pe_w1 (List.mem_of_getElem? (i := 13) (by decide +kernel)), by decide, by decide, by decide +kernel⟩
theorem c_Z_100 : pe_CL "PaintEditor$Terminal" 100 m_Z_moveTo 2 := ⟨pe_w3 (List.mem_of_getElem? (i := 109) (by decide +kernel)), pe_w3 (List.mem_of_getElem? (i := 112) rfl), pe_w1 (List.mem_of_getElem? (i := 16) (by decide +kernel)), by decide, by decide, by decide +kernel⟩
theorem c_Z_88 : pe_CL "PaintEditor$Terminal" 88 m_Z_endWriting 0 := ⟨pe_w3 (List.mem_of_getElem? (i := 113) (by decide +kernel)), pe_w3 (List.mem_of_getElem? (i := 116) rfl), pe_w1 (List.mem_of_getElem? (i := 16) (by decide +kernel)), by decide, by decide, by decide +kernel⟩
theorem c_P_97 : pe_CL "PaintEditor" 97 m_S_compose 1 := ⟨pe_w3 (List.mem_of_getElem? (i := 121) (by decide +kernel)), pe_w3 (List.mem_of_getElem? (i := 124) rfl), pe_w1 (List.mem_of_getElem? (i := 8) (by decide +kernel)), by decide, by decide, by decide +kernel⟩
theorem c_S_27 : pe_CL "PaintEditor$Screen" 27 m_G_blankAll 0 := ⟨pe_w3 (List.mem_of_getElem? (i := 125) (by decide +kernel)), pe_w3 (List.mem_of_getElem? (i := 128) rfl), pe_w1 (List.mem_of_getElem? (i := 13) (by decide +kernel)), by decide, by decide, by decide +kernel⟩
theorem c_S_53 : pe_CL "PaintEditor$Screen" 53 m_L_lay 2 := ⟨pe_w3 (List.mem_of_getElem? (i := 129) (by decide +kernel)), pe_w2 (List.mem_of_getElem? (i := 148) rfl), pe_w1 (List.mem_of_getElem? (i := 7) (by decide +kernel)), by decide, by decide, by decide +kernel⟩
theorem c_S_66 : pe_CL "PaintEditor$Screen" 66 m_S_follow 1 := ⟨pe_w3 (List.mem_of_getElem? (i := 130) (by decide +kernel)), pe_w3 (List.mem_of_getElem? (i := 133) rfl), pe_w1 (List.mem_of_getElem? (i := 8) (by decide +kernel)), by decide, by decide, by decide +kernel⟩
theorem c_S_78 : pe_CL "PaintEditor$Screen" 78 m_S_showCluster 2 := ⟨pe_w3 (List.mem_of_getElem? (i := 134) (by decide +kernel)), pe_w3 (List.mem_of_getElem? (i := 137) rfl), pe_w1 (List.mem_of_getElem? (i := 8) (by decide +kernel)), by decide, by decide, by decide +kernel⟩
theorem c_S_89 : pe_CL "PaintEditor$Screen" 89 m_E_isBetween 1 := ⟨pe_w3 (List.mem_of_getElem? (i := 138) (by decide +kernel)), pe_w3 (List.mem_of_getElem? (i := 141) rfl), pe_w1 (List.mem_of_getElem? (i := 4) (by decide +kernel)), by decide, by decide, by decide +kernel⟩
theorem c_S_93 : pe_CL "PaintEditor$Screen" 93 m_T_clusterAt 1 := ⟨pe_w3 (List.mem_of_getElem? (i := 142) (by decide +kernel)), pe_w3 (List.mem_of_getElem? (i := 145) rfl), pe_w1 (List.mem_of_getElem? (i := 5) (by decide +kernel)), by decide, by decide, by decide +kernel⟩
theorem c_T_50 : pe_CL "PaintEditor$Text" 50 m_T_beginningFrom 1 := ⟨pe_w3 (List.mem_of_getElem? (i := 146) (by decide +kernel)), pe_w3 (List.mem_of_getElem? (i := 5) rfl), pe_w1 (List.mem_of_getElem? (i := 5) (by decide +kernel)), by decide, by decide, by decide +kernel⟩
theorem c_T_53 : pe_CL "PaintEditor$Text" 53 m_C_withMark 2 := ⟨pe_w3 (List.mem_of_getElem? (i := 147) (by decide +kernel)), pe_w3 (List.mem_of_getElem? (i := 149) rfl), pe_w1 (List.mem_of_getElem? (i := 18) (by decide +kernel)), by decide, by decide, by decide +kernel⟩
theorem c_S_97 : pe_CL "PaintEditor$Screen" 97 m_G_put 4 := ⟨pe_w3 (List.mem_of_getElem? (i := 151) (by decide +kernel)), pe_w3 (List.mem_of_getElem? (i := 86) rfl), pe_w1 (List.mem_of_getElem? (i := 13) (by decide +kernel)), by decide, by decide, by decide +kernel⟩
theorem c_S_82 : pe_CL "PaintEditor$Screen" 82 m_S_showStatus 1 := ⟨pe_w3 (List.mem_of_getElem? (i := 152) (by decide +kernel)), pe_w3 (List.mem_of_getElem? (i := 155) rfl), pe_w1 (List.mem_of_getElem? (i := 8) (by decide +kernel)), by decide, by decide, by decide +kernel⟩
theorem c_S_107 : pe_CL "PaintEditor$Screen" 107 m_T_lineNumber 1 := ⟨pe_w3 (List.mem_of_getElem? (i := 210) (by decide +kernel)), pe_w3 (List.mem_of_getElem? (i := 213) rfl), pe_w1 (List.mem_of_getElem? (i := 5) (by decide +kernel)), by decide, by decide, by decide +kernel⟩
theorem c_P_101 : pe_CL "PaintEditor" 101 m_Q_begin 1 := ⟨pe_w4 (List.mem_of_getElem? (i := 82) (by decide +kernel)), pe_w4 (List.mem_of_getElem? (i := 85) rfl), pe_w1 (List.mem_of_getElem? (i := 15) (by decide +kernel)), by decide, by decide, by decide +kernel⟩
theorem c_Q_28 : pe_CL "PaintEditor$Painter" 28 m_Q_sendLook 1 := ⟨pe_w4 (List.mem_of_getElem? (i := 86) (by decide +kernel)), pe_w4 (List.mem_of_getElem? (i := 89) rfl), pe_w1 (List.mem_of_getElem? (i := 15) (by decide +kernel)), by decide, by decide, by decide +kernel⟩
theorem c_Q_32 : pe_CL "PaintEditor$Painter" 32 m_Q_sendSequence 3 := ⟨pe_w4 (List.mem_of_getElem? (i := 90) (by decide +kernel)), pe_w4 (List.mem_of_getElem? (i := 93) rfl), pe_w1 (List.mem_of_getElem? (i := 15) (by decide +kernel)), by decide, by decide, by decide +kernel⟩
theorem c_Q_126 : pe_CL "PaintEditor$Painter" 126 m_Q_put 1 := ⟨pe_w4 (List.mem_of_getElem? (i := 94) (by decide +kernel)), pe_w4 (List.mem_of_getElem? (i := 97) rfl), pe_w1 (List.mem_of_getElem? (i := 15) (by decide +kernel)), by decide, by decide, by decide +kernel⟩
theorem c_Q_129 : pe_CL "PaintEditor$Painter" 129 m_Q_putNumber 1 := ⟨pe_w4 (List.mem_of_getElem? (i := 98) (by decide +kernel)), pe_w4 (List.mem_of_getElem? (i := 101) rfl), pe_w1 (List.mem_of_getElem? (i := 15) (by decide +kernel)), by decide, by decide, by decide +kernel⟩
theorem c_Q_36 : pe_CL "PaintEditor$Painter" 36 m_Z_eraseAll 0 := ⟨pe_w4 (List.mem_of_getElem? (i := 102) (by decide +kernel)), pe_w4 (List.mem_of_getElem? (i := 105) rfl), pe_w1 (List.mem_of_getElem? (i := 16) (by decide +kernel)), by decide, by decide, by decide +kernel⟩
theorem c_Z_94 : pe_CL "PaintEditor$Terminal" 94 m_G_blankAll 0 := ⟨pe_w4 (List.mem_of_getElem? (i := 106) (by decide +kernel)), pe_w3 (List.mem_of_getElem? (i := 128) rfl), pe_w1 (List.mem_of_getElem? (i := 13) (by decide +kernel)), by decide, by decide, by decide +kernel⟩
theorem c_P_108 : pe_CL "PaintEditor" 108 m_Q_paintRow 2 := ⟨pe_w4 (List.mem_of_getElem? (i := 107) (by decide +kernel)), pe_w4 (List.mem_of_getElem? (i := 110) rfl), pe_w1 (List.mem_of_getElem? (i := 15) (by decide +kernel)), by decide, by decide, by decide +kernel⟩
theorem c_Q_39 : pe_CL "PaintEditor$Painter" 39 m_Q_firstDifference 2 := ⟨pe_w4 (List.mem_of_getElem? (i := 111) (by decide +kernel)), pe_w4 (List.mem_of_getElem? (i := 114) rfl), pe_w1 (List.mem_of_getElem? (i := 15) (by decide +kernel)), by decide, by decide, by decide +kernel⟩
theorem c_Q_80 : pe_CL "PaintEditor$Painter" 80 m_Q_differs 3 := ⟨pe_w4 (List.mem_of_getElem? (i := 115) (by decide +kernel)), pe_w4 (List.mem_of_getElem? (i := 118) rfl), pe_w1 (List.mem_of_getElem? (i := 15) (by decide +kernel)), by decide, by decide, by decide +kernel⟩
theorem c_Q_46 : pe_CL "PaintEditor$Painter" 46 m_G_clusterAt 2 := ⟨pe_w4 (List.mem_of_getElem? (i := 119) (by decide +kernel)), pe_w3 (List.mem_of_getElem? (i := 98) rfl), pe_w1 (List.mem_of_getElem? (i := 13) (by decide +kernel)), by decide, by decide, by decide +kernel⟩
theorem c_Q_60 : pe_CL "PaintEditor$Painter" 60 m_G_lookAt 2 := ⟨pe_w4 (List.mem_of_getElem? (i := 120) (by decide +kernel)), pe_w4 (List.mem_of_getElem? (i := 123) rfl), pe_w1 (List.mem_of_getElem? (i := 13) (by decide +kernel)), by decide, by decide, by decide +kernel⟩
theorem c_Q_43 : pe_CL "PaintEditor$Painter" 43 m_Q_lastDifference 2 := ⟨pe_w4 (List.mem_of_getElem? (i := 124) (by decide +kernel)), pe_w4 (List.mem_of_getElem? (i := 127) rfl), pe_w1 (List.mem_of_getElem? (i := 15) (by decide +kernel)), by decide, by decide, by decide +kernel⟩
theorem c_Q_52 : pe_CL "PaintEditor$Painter" 52 m_Q_blankBeginning 2 := ⟨pe_w4 (List.mem_of_getElem? (i := 128) (by decide +kernel)), pe_w4 (List.mem_of_getElem? (i := 130) rfl), pe_w1 (List.mem_of_getElem? (i := 15) (by decide +kernel)), by decide, by decide, by decide +kernel⟩
theorem c_Q_84 : pe_CL "PaintEditor$Painter" 84 m_G_isBlank 2 := ⟨pe_w4 (List.mem_of_getElem? (i := 131) (by decide +kernel)), pe_w4 (List.mem_of_getElem? (i := 134) rfl), pe_w1 (List.mem_of_getElem? (i := 13) (by decide +kernel)), by decide, by decide, by decide +kernel⟩
theorem c_G_39 : pe_CL "PaintEditor$Grid" 39 m_G_lookAt 2 := ⟨pe_w4 (List.mem_of_getElem? (i := 135) (by decide +kernel)), pe_w4 (List.mem_of_getElem? (i := 123) rfl), pe_w1 (List.mem_of_getElem? (i := 13) (by decide +kernel)), by decide, by decide, by decide +kernel⟩
theorem c_Q_63 : pe_CL "PaintEditor$Painter" 63 m_Q_sendCluster 4 := ⟨pe_w4 (List.mem_of_getElem? (i := 137) (by decide +kernel)), pe_w4 (List.mem_of_getElem? (i := 140) rfl), pe_w1 (List.mem_of_getElem? (i := 15) (by decide +kernel)), by decide, by decide, by decide +kernel⟩
theorem c_Q_88 : pe_CL "PaintEditor$Painter" 88 m_C_characterOf 1 := ⟨pe_w4 (List.mem_of_getElem? (i := 141) (by decide +kernel)), pe_w3 (List.mem_of_getElem? (i := 101) rfl), pe_w1 (List.mem_of_getElem? (i := 18) (by decide +kernel)), by decide, by decide, by decide +kernel⟩
theorem c_Q_94 : pe_CL "PaintEditor$Painter" 94 m_C_isMark 1 := ⟨pe_w4 (List.mem_of_getElem? (i := 142) (by decide +kernel)), pe_w2 (List.mem_of_getElem? (i := 159) rfl), pe_w1 (List.mem_of_getElem? (i := 18) (by decide +kernel)), by decide, by decide, by decide +kernel⟩
theorem c_Q_98 : pe_CL "PaintEditor$Painter" 98 m_Q_sendPlace 2 := ⟨pe_w4 (List.mem_of_getElem? (i := 143) (by decide +kernel)), pe_w4 (List.mem_of_getElem? (i := 146) rfl), pe_w1 (List.mem_of_getElem? (i := 15) (by decide +kernel)), by decide, by decide, by decide +kernel⟩
theorem c_Q_123 : pe_CL "PaintEditor$Painter" 123 m_Z_moveTo 2 := ⟨pe_w4 (List.mem_of_getElem? (i := 147) (by decide +kernel)), pe_w3 (List.mem_of_getElem? (i := 112) rfl), pe_w1 (List.mem_of_getElem? (i := 16) (by decide +kernel)), by decide, by decide, by decide +kernel⟩
theorem c_Q_67 : pe_CL "PaintEditor$Painter" 67 m_Q_makePlaceRight 2 := ⟨pe_w4 (List.mem_of_getElem? (i := 148) (by decide +kernel)), pe_w4 (List.mem_of_getElem? (i := 151) rfl), pe_w1 (List.mem_of_getElem? (i := 15) (by decide +kernel)), by decide, by decide, by decide +kernel⟩
theorem c_Q_104 : pe_CL "PaintEditor$Painter" 104 m_Q_sendCharacter 1 := ⟨pe_w4 (List.mem_of_getElem? (i := 152) (by decide +kernel)), pe_w4 (List.mem_of_getElem? (i := 155) rfl), pe_w1 (List.mem_of_getElem? (i := 15) (by decide +kernel)), by decide, by decide, by decide +kernel⟩
theorem c_Q_132 : pe_CL "PaintEditor$Painter" 132 m_Z_write 1 := ⟨pe_w4 (List.mem_of_getElem? (i := 156) (by decide +kernel)), pe_w4 (List.mem_of_getElem? (i := 159) rfl), pe_w1 (List.mem_of_getElem? (i := 16) (by decide +kernel)), by decide, by decide, by decide +kernel⟩
theorem c_Z_20 : pe_CL "PaintEditor$Terminal" 20 m_C_isMark 1 := ⟨pe_w4 (List.mem_of_getElem? (i := 160) (by decide +kernel)), pe_w2 (List.mem_of_getElem? (i := 159) rfl), pe_w1 (List.mem_of_getElem? (i := 18) (by decide +kernel)), by decide, by decide, by decide +kernel⟩
theorem c_Z_26 : pe_CL "PaintEditor$Terminal" 26 m_Z_joins 1 := ⟨pe_w4 (List.mem_of_getElem? (i := 161) (by decide +kernel)), pe_w4 (List.mem_of_getElem? (i := 164) rfl), pe_w1 (List.mem_of_getElem? (i := 16) (by decide +kernel)), by decide, by decide, by decide +kernel⟩
theorem c_Z_66 : pe_CL "PaintEditor$Terminal" 66 m_G_clusterAt 2 := ⟨pe_w4 (List.mem_of_getElem? (i := 165) (by decide +kernel)), pe_w3 (List.mem_of_getElem? (i := 98) rfl), pe_w1 (List.mem_of_getElem? (i := 13) (by decide +kernel)), by decide, by decide, by decide +kernel⟩
theorem c_Z_72 : pe_CL "PaintEditor$Terminal" 72 m_C_secondMarkOf 1 := ⟨pe_w4 (List.mem_of_getElem? (i := 166) (by decide +kernel)), pe_w4 (List.mem_of_getElem? (i := 168) rfl), pe_w1 (List.mem_of_getElem? (i := 18) (by decide +kernel)), by decide, by decide, by decide +kernel⟩
theorem c_Z_75 : pe_CL "PaintEditor$Terminal" 75 m_C_withMark 2 := ⟨pe_w4 (List.mem_of_getElem? (i := 169) (by decide +kernel)), pe_w3 (List.mem_of_getElem? (i := 149) rfl), pe_w1 (List.mem_of_getElem? (i := 18) (by decide +kernel)), by decide, by decide, by decide +kernel⟩
theorem c_Z_78 : pe_CL "PaintEditor$Terminal" 78 m_G_lookAt 2 := ⟨pe_w4 (List.mem_of_getElem? (i := 170) (by decide +kernel)), pe_w4 (List.mem_of_getElem? (i := 123) rfl), pe_w1 (List.mem_of_getElem? (i := 13) (by decide +kernel)), by decide, by decide, by decide +kernel⟩
theorem c_Z_81 : pe_CL "PaintEditor$Terminal" 81 m_G_put 4 := ⟨pe_w4 (List.mem_of_getElem? (i := 171) (by decide +kernel)), pe_w3 (List.mem_of_getElem? (i := 86) rfl), pe_w1 (List.mem_of_getElem? (i := 13) (by decide +kernel)), by decide, by decide, by decide +kernel⟩
theorem c_Z_49 : pe_CL "PaintEditor$Terminal" 49 m_C_widthOf 1 := ⟨pe_w4 (List.mem_of_getElem? (i := 173) (by decide +kernel)), pe_w2 (List.mem_of_getElem? (i := 167) rfl), pe_w1 (List.mem_of_getElem? (i := 18) (by decide +kernel)), by decide, by decide, by decide +kernel⟩
theorem c_Z_56 : pe_CL "PaintEditor$Terminal" 56 m_Z_writeCells 1 := ⟨pe_w4 (List.mem_of_getElem? (i := 174) (by decide +kernel)), pe_w4 (List.mem_of_getElem? (i := 177) rfl), pe_w1 (List.mem_of_getElem? (i := 16) (by decide +kernel)), by decide, by decide, by decide +kernel⟩
theorem c_Q_107 : pe_CL "PaintEditor$Painter" 107 m_C_firstMarkOf 1 := ⟨pe_w4 (List.mem_of_getElem? (i := 178) (by decide +kernel)), pe_w4 (List.mem_of_getElem? (i := 180) rfl), pe_w1 (List.mem_of_getElem? (i := 18) (by decide +kernel)), by decide, by decide, by decide +kernel⟩
theorem c_Q_110 : pe_CL "PaintEditor$Painter" 110 m_C_secondMarkOf 1 := ⟨pe_w4 (List.mem_of_getElem? (i := 181) (by decide +kernel)), pe_w4 (List.mem_of_getElem? (i := 168) rfl), pe_w1 (List.mem_of_getElem? (i := 18) (by decide +kernel)), by decide, by decide, by decide +kernel⟩
theorem c_Q_70 : pe_CL "PaintEditor$Painter" 70 m_Z_eraseRestOfRow 0 := ⟨pe_w4 (List.mem_of_getElem? (i := 182) (by decide +kernel)), pe_w4 (List.mem_of_getElem? (i := 185) rfl), pe_w1 (List.mem_of_getElem? (i := 16) (by decide +kernel)), by decide, by decide, by decide +kernel⟩
theorem c_Z_91 : pe_CL "PaintEditor$Terminal" 91 m_G_blankFrom 2 := ⟨pe_w4 (List.mem_of_getElem? (i := 186) (by decide +kernel)), pe_w3 (List.mem_of_getElem? (i := 82) rfl), pe_w1 (List.mem_of_getElem? (i := 13) (by decide +kernel)), by decide, by decide, by decide +kernel⟩
theorem c_P_118 : pe_CL "PaintEditor" 118 m_Q_makePlaceRight 2 := ⟨pe_w4 (List.mem_of_getElem? (i := 187) (by decide +kernel)), pe_w4 (List.mem_of_getElem? (i := 151) rfl), pe_w1 (List.mem_of_getElem? (i := 15) (by decide +kernel)), by decide, by decide, by decide +kernel⟩
theorem c_P_124 : pe_CL "PaintEditor" 124 m_T_codeAt 1 := ⟨pe_w4 (List.mem_of_getElem? (i := 192) (by decide +kernel)), pe_w2 (List.mem_of_getElem? (i := 156) rfl), pe_w1 (List.mem_of_getElem? (i := 5) (by decide +kernel)), by decide, by decide, by decide +kernel⟩
theorem c_P_158 : pe_CL "PaintEditor" 158 m_G_clusterAt 2 := ⟨pe_w4 (List.mem_of_getElem? (i := 201) (by decide +kernel)), pe_w3 (List.mem_of_getElem? (i := 98) rfl), pe_w1 (List.mem_of_getElem? (i := 13) (by decide +kernel)), by decide, by decide, by decide +kernel⟩
theorem c_P_161 : pe_CL "PaintEditor" 161 m_G_lookAt 2 := ⟨pe_w4 (List.mem_of_getElem? (i := 206) (by decide +kernel)), pe_w4 (List.mem_of_getElem? (i := 123) rfl), pe_w1 (List.mem_of_getElem? (i := 13) (by decide +kernel)), by decide, by decide, by decide +kernel⟩
theorem c_P_176 : pe_CL "PaintEditor" 176 m_Q_byteAt 1 := ⟨pe_w4 (List.mem_of_getElem? (i := 215) (by decide +kernel)), pe_w4 (List.mem_of_getElem? (i := 218) rfl), pe_w1 (List.mem_of_getElem? (i := 15) (by decide +kernel)), by decide, by decide, by decide +kernel⟩
theorem c_M_217 : pe_CL "PaintEditorModel" 217 m_M_take 1 := ⟨pe_w5 (List.mem_of_getElem? (i := 126) (by decide +kernel)), pe_w5 (List.mem_of_getElem? (i := 129) rfl), pe_w1 (List.mem_of_getElem? (i := 17) (by decide +kernel)), by decide, by decide, by decide +kernel⟩
theorem c_M_206 : pe_CL "PaintEditorModel" 206 m_M_within 2 := ⟨pe_w5 (List.mem_of_getElem? (i := 130) (by decide +kernel)), pe_w5 (List.mem_of_getElem? (i := 133) rfl), pe_w1 (List.mem_of_getElem? (i := 17) (by decide +kernel)), by decide, by decide, by decide +kernel⟩
theorem c_M_144 : pe_CL "PaintEditorModel" 144 m_M_character 1 := ⟨pe_w5 (List.mem_of_getElem? (i := 135) (by decide +kernel)), pe_w5 (List.mem_of_getElem? (i := 138) rfl), pe_w1 (List.mem_of_getElem? (i := 17) (by decide +kernel)), by decide, by decide, by decide +kernel⟩
theorem c_M_141 : pe_CL "PaintEditorModel" 141 m_M_insertOne 1 := ⟨pe_w5 (List.mem_of_getElem? (i := 139) (by decide +kernel)), pe_w5 (List.mem_of_getElem? (i := 142) rfl), pe_w1 (List.mem_of_getElem? (i := 17) (by decide +kernel)), by decide, by decide, by decide +kernel⟩
theorem c_M_120 : pe_CL "PaintEditorModel" 120 m_M_note 3 := ⟨pe_w5 (List.mem_of_getElem? (i := 143) (by decide +kernel)), pe_w5 (List.mem_of_getElem? (i := 146) rfl), pe_w1 (List.mem_of_getElem? (i := 17) (by decide +kernel)), by decide, by decide, by decide +kernel⟩
theorem c_M_114 : pe_CL "PaintEditorModel" 114 m_M_forgetFirst 0 := ⟨pe_w5 (List.mem_of_getElem? (i := 147) (by decide +kernel)), pe_w5 (List.mem_of_getElem? (i := 150) rfl), pe_w1 (List.mem_of_getElem? (i := 17) (by decide +kernel)), by decide, by decide, by decide +kernel⟩
theorem c_M_124 : pe_CL "PaintEditorModel" 124 m_M_open 2 := ⟨pe_w5 (List.mem_of_getElem? (i := 151) (by decide +kernel)), pe_w5 (List.mem_of_getElem? (i := 154) rfl), pe_w1 (List.mem_of_getElem? (i := 17) (by decide +kernel)), by decide, by decide, by decide +kernel⟩
theorem c_M_128 : pe_CL "PaintEditorModel" 128 m_M_settle 1 := ⟨pe_w5 (List.mem_of_getElem? (i := 155) (by decide +kernel)), pe_w5 (List.mem_of_getElem? (i := 158) rfl), pe_w1 (List.mem_of_getElem? (i := 17) (by decide +kernel)), by decide, by decide, by decide +kernel⟩
theorem c_M_94 : pe_CL "PaintEditorModel" 94 m_M_begins 1 := ⟨pe_w5 (List.mem_of_getElem? (i := 159) (by decide +kernel)), pe_w5 (List.mem_of_getElem? (i := 162) rfl), pe_w1 (List.mem_of_getElem? (i := 17) (by decide +kernel)), by decide, by decide, by decide +kernel⟩
theorem c_M_90 : pe_CL "PaintEditorModel" 90 m_M_isMark 1 := ⟨pe_w5 (List.mem_of_getElem? (i := 163) (by decide +kernel)), pe_w5 (List.mem_of_getElem? (i := 165) rfl), pe_w1 (List.mem_of_getElem? (i := 17) (by decide +kernel)), by decide, by decide, by decide +kernel⟩
theorem c_M_200 : pe_CL "PaintEditorModel" 200 m_M_plain 2 := ⟨pe_w5 (List.mem_of_getElem? (i := 166) (by decide +kernel)), pe_w5 (List.mem_of_getElem? (i := 169) rfl), pe_w1 (List.mem_of_getElem? (i := 17) (by decide +kernel)), by decide, by decide, by decide +kernel⟩
theorem c_M_197 : pe_CL "PaintEditorModel" 197 m_M_control 2 := ⟨pe_w5 (List.mem_of_getElem? (i := 170) (by decide +kernel)), pe_w5 (List.mem_of_getElem? (i := 173) rfl), pe_w1 (List.mem_of_getElem? (i := 17) (by decide +kernel)), by decide, by decide, by decide +kernel⟩
theorem c_M_150 : pe_CL "PaintEditorModel" 150 m_M_command 1 := ⟨pe_w5 (List.mem_of_getElem? (i := 174) (by decide +kernel)), pe_w5 (List.mem_of_getElem? (i := 177) rfl), pe_w1 (List.mem_of_getElem? (i := 17) (by decide +kernel)), by decide, by decide, by decide +kernel⟩
theorem c_M_153 : pe_CL "PaintEditorModel" 153 m_M_cutOut 0 := ⟨pe_w5 (List.mem_of_getElem? (i := 178) (by decide +kernel)), pe_w5 (List.mem_of_getElem? (i := 181) rfl), pe_w1 (List.mem_of_getElem? (i := 17) (by decide +kernel)), by decide, by decide, by decide +kernel⟩
theorem c_M_138 : pe_CL "PaintEditorModel" 138 m_M_takeAway 2 := ⟨pe_w5 (List.mem_of_getElem? (i := 182) (by decide +kernel)), pe_w5 (List.mem_of_getElem? (i := 185) rfl), pe_w1 (List.mem_of_getElem? (i := 17) (by decide +kernel)), by decide, by decide, by decide +kernel⟩
theorem c_M_135 : pe_CL "PaintEditorModel" 135 m_M_close 2 := ⟨pe_w5 (List.mem_of_getElem? (i := 186) (by decide +kernel)), pe_w5 (List.mem_of_getElem? (i := 189) rfl), pe_w1 (List.mem_of_getElem? (i := 17) (by decide +kernel)), by decide, by decide, by decide +kernel⟩
theorem c_M_156 : pe_CL "PaintEditorModel" 156 m_M_insertClip 0 := ⟨pe_w5 (List.mem_of_getElem? (i := 190) (by decide +kernel)), pe_w5 (List.mem_of_getElem? (i := 193) rfl), pe_w1 (List.mem_of_getElem? (i := 17) (by decide +kernel)), by decide, by decide, by decide +kernel⟩
theorem c_M_159 : pe_CL "PaintEditorModel" 159 m_M_undo 0 := ⟨pe_w5 (List.mem_of_getElem? (i := 194) (by decide +kernel)), pe_w5 (List.mem_of_getElem? (i := 197) rfl), pe_w1 (List.mem_of_getElem? (i := 17) (by decide +kernel)), by decide, by decide, by decide +kernel⟩
theorem c_M_162 : pe_CL "PaintEditorModel" 162 m_M_before 1 := ⟨pe_w5 (List.mem_of_getElem? (i := 198) (by decide +kernel)), pe_w5 (List.mem_of_getElem? (i := 201) rfl), pe_w1 (List.mem_of_getElem? (i := 17) (by decide +kernel)), by decide, by decide, by decide +kernel⟩
theorem c_M_209 : pe_CL "PaintEditorModel" 209 m_M_inSequence 2 := ⟨pe_w5 (List.mem_of_getElem? (i := 202) (by decide +kernel)), pe_w5 (List.mem_of_getElem? (i := 205) rfl), pe_w1 (List.mem_of_getElem? (i := 17) (by decide +kernel)), by decide, by decide, by decide +kernel⟩
theorem c_M_203 : pe_CL "PaintEditorModel" 203 m_M_finish 1 := ⟨pe_w5 (List.mem_of_getElem? (i := 206) (by decide +kernel)), pe_w5 (List.mem_of_getElem? (i := 209) rfl), pe_w1 (List.mem_of_getElem? (i := 17) (by decide +kernel)), by decide, by decide, by decide +kernel⟩
theorem c_M_171 : pe_CL "PaintEditorModel" 171 m_M_upOrDown 1 := ⟨pe_w5 (List.mem_of_getElem? (i := 210) (by decide +kernel)), pe_w5 (List.mem_of_getElem? (i := 213) rfl), pe_w1 (List.mem_of_getElem? (i := 17) (by decide +kernel)), by decide, by decide, by decide +kernel⟩
theorem c_M_165 : pe_CL "PaintEditorModel" 165 m_M_layOut 0 := ⟨pe_w5 (List.mem_of_getElem? (i := 214) (by decide +kernel)), pe_w5 (List.mem_of_getElem? (i := 217) rfl), pe_w1 (List.mem_of_getElem? (i := 17) (by decide +kernel)), by decide, by decide, by decide +kernel⟩
theorem c_M_100 : pe_CL "PaintEditorModel" 100 m_M_widthOf 2 := ⟨pe_w5 (List.mem_of_getElem? (i := 218) (by decide +kernel)), pe_w5 (List.mem_of_getElem? (i := 221) rfl), pe_w1 (List.mem_of_getElem? (i := 17) (by decide +kernel)), by decide, by decide, by decide +kernel⟩
theorem c_M_97 : pe_CL "PaintEditorModel" 97 m_M_isWide 1 := ⟨pe_w5 (List.mem_of_getElem? (i := 222) (by decide +kernel)), pe_w5 (List.mem_of_getElem? (i := 224) rfl), pe_w1 (List.mem_of_getElem? (i := 17) (by decide +kernel)), by decide, by decide, by decide +kernel⟩
theorem c_M_107 : pe_CL "PaintEditorModel" 107 m_M_after 1 := ⟨pe_w5 (List.mem_of_getElem? (i := 228) (by decide +kernel)), pe_w5 (List.mem_of_getElem? (i := 231) rfl), pe_w1 (List.mem_of_getElem? (i := 17) (by decide +kernel)), by decide, by decide, by decide +kernel⟩
theorem c_M_174 : pe_CL "PaintEditorModel" 174 m_M_lineBegin 0 := ⟨pe_w5 (List.mem_of_getElem? (i := 232) (by decide +kernel)), pe_w5 (List.mem_of_getElem? (i := 235) rfl), pe_w1 (List.mem_of_getElem? (i := 17) (by decide +kernel)), by decide, by decide, by decide +kernel⟩
theorem c_M_178 : pe_CL "PaintEditorModel" 178 m_M_lineEnd 0 := ⟨pe_w5 (List.mem_of_getElem? (i := 236) (by decide +kernel)), pe_w5 (List.mem_of_getElem? (i := 239) rfl), pe_w1 (List.mem_of_getElem? (i := 17) (by decide +kernel)), by decide, by decide, by decide +kernel⟩
theorem c_M_212 : pe_CL "PaintEditorModel" 212 m_M_escapeKey 0 := ⟨pe_w6 (List.mem_of_getElem? (i := 0) (by decide +kernel)), pe_w6 (List.mem_of_getElem? (i := 3) rfl), pe_w1 (List.mem_of_getElem? (i := 17) (by decide +kernel)), by decide, by decide, by decide +kernel⟩
theorem c_M_303 : pe_CL "PaintEditorModel" 303 m_M_compose 0 := ⟨pe_w6 (List.mem_of_getElem? (i := 12) (by decide +kernel)), pe_w6 (List.mem_of_getElem? (i := 15) rfl), pe_w1 (List.mem_of_getElem? (i := 17) (by decide +kernel)), by decide, by decide, by decide +kernel⟩
theorem c_M_240 : pe_CL "PaintEditorModel" 240 m_M_isSmall 0 := ⟨pe_w6 (List.mem_of_getElem? (i := 16) (by decide +kernel)), pe_w6 (List.mem_of_getElem? (i := 19) rfl), pe_w1 (List.mem_of_getElem? (i := 17) (by decide +kernel)), by decide, by decide, by decide +kernel⟩
theorem c_M_244 : pe_CL "PaintEditorModel" 244 m_M_fillText 0 := ⟨pe_w6 (List.mem_of_getElem? (i := 20) (by decide +kernel)), pe_w6 (List.mem_of_getElem? (i := 23) rfl), pe_w1 (List.mem_of_getElem? (i := 17) (by decide +kernel)), by decide, by decide, by decide +kernel⟩
theorem c_M_225 : pe_CL "PaintEditorModel" 225 m_M_clusterAt 1 := ⟨pe_w6 (List.mem_of_getElem? (i := 24) (by decide +kernel)), pe_w6 (List.mem_of_getElem? (i := 27) rfl), pe_w1 (List.mem_of_getElem? (i := 17) (by decide +kernel)), by decide, by decide, by decide +kernel⟩
theorem c_M_247 : pe_CL "PaintEditorModel" 247 m_M_fillStatus 0 := ⟨pe_w6 (List.mem_of_getElem? (i := 30) (by decide +kernel)), pe_w6 (List.mem_of_getElem? (i := 33) rfl), pe_w1 (List.mem_of_getElem? (i := 17) (by decide +kernel)), by decide, by decide, by decide +kernel⟩
theorem c_M_231 : pe_CL "PaintEditorModel" 231 m_M_statusNumber 2 := ⟨pe_w6 (List.mem_of_getElem? (i := 34) (by decide +kernel)), pe_w6 (List.mem_of_getElem? (i := 37) rfl), pe_w1 (List.mem_of_getElem? (i := 17) (by decide +kernel)), by decide, by decide, by decide +kernel⟩
theorem c_M_228 : pe_CL "PaintEditorModel" 228 m_M_status 2 := ⟨pe_w6 (List.mem_of_getElem? (i := 38) (by decide +kernel)), pe_w6 (List.mem_of_getElem? (i := 41) rfl), pe_w1 (List.mem_of_getElem? (i := 17) (by decide +kernel)), by decide, by decide, by decide +kernel⟩
theorem c_M_288 : pe_CL "PaintEditorModel" 288 m_M_setLook 1 := ⟨pe_w6 (List.mem_of_getElem? (i := 42) (by decide +kernel)), pe_w6 (List.mem_of_getElem? (i := 45) rfl), pe_w1 (List.mem_of_getElem? (i := 17) (by decide +kernel)), by decide, by decide, by decide +kernel⟩
theorem c_M_275 : pe_CL "PaintEditorModel" 275 m_M_putBegin 0 := ⟨pe_w6 (List.mem_of_getElem? (i := 46) (by decide +kernel)), pe_w6 (List.mem_of_getElem? (i := 49) rfl), pe_w1 (List.mem_of_getElem? (i := 17) (by decide +kernel)), by decide, by decide, by decide +kernel⟩
theorem c_M_253 : pe_CL "PaintEditorModel" 253 m_M_put 1 := ⟨pe_w6 (List.mem_of_getElem? (i := 50) (by decide +kernel)), pe_w6 (List.mem_of_getElem? (i := 53) rfl), pe_w1 (List.mem_of_getElem? (i := 17) (by decide +kernel)), by decide, by decide, by decide +kernel⟩
theorem c_M_306 : pe_CL "PaintEditorModel" 306 m_M_drawRow 1 := ⟨pe_w6 (List.mem_of_getElem? (i := 54) (by decide +kernel)), pe_w6 (List.mem_of_getElem? (i := 57) rfl), pe_w1 (List.mem_of_getElem? (i := 17) (by decide +kernel)), by decide, by decide, by decide +kernel⟩
theorem c_M_297 : pe_CL "PaintEditorModel" 297 m_M_differs 1 := ⟨pe_w6 (List.mem_of_getElem? (i := 58) (by decide +kernel)), pe_w6 (List.mem_of_getElem? (i := 61) rfl), pe_w1 (List.mem_of_getElem? (i := 17) (by decide +kernel)), by decide, by decide, by decide +kernel⟩
theorem c_M_300 : pe_CL "PaintEditorModel" 300 m_M_sendClusters 3 := ⟨pe_w6 (List.mem_of_getElem? (i := 62) (by decide +kernel)), pe_w6 (List.mem_of_getElem? (i := 65) rfl), pe_w1 (List.mem_of_getElem? (i := 17) (by decide +kernel)), by decide, by decide, by decide +kernel⟩
theorem c_M_294 : pe_CL "PaintEditorModel" 294 m_M_sendCluster 2 := ⟨pe_w6 (List.mem_of_getElem? (i := 66) (by decide +kernel)), pe_w6 (List.mem_of_getElem? (i := 69) rfl), pe_w1 (List.mem_of_getElem? (i := 17) (by decide +kernel)), by decide, by decide, by decide +kernel⟩
theorem c_M_284 : pe_CL "PaintEditorModel" 284 m_M_go 3 := ⟨pe_w6 (List.mem_of_getElem? (i := 71) (by decide +kernel)), pe_w6 (List.mem_of_getElem? (i := 74) rfl), pe_w1 (List.mem_of_getElem? (i := 17) (by decide +kernel)), by decide, by decide, by decide +kernel⟩
theorem c_M_281 : pe_CL "PaintEditorModel" 281 m_M_sendPlace 2 := ⟨pe_w6 (List.mem_of_getElem? (i := 75) (by decide +kernel)), pe_w6 (List.mem_of_getElem? (i := 78) rfl), pe_w1 (List.mem_of_getElem? (i := 17) (by decide +kernel)), by decide, by decide, by decide +kernel⟩
theorem c_M_278 : pe_CL "PaintEditorModel" 278 m_M_putNumber 1 := ⟨pe_w6 (List.mem_of_getElem? (i := 79) (by decide +kernel)), pe_w6 (List.mem_of_getElem? (i := 82) rfl), pe_w1 (List.mem_of_getElem? (i := 17) (by decide +kernel)), by decide, by decide, by decide +kernel⟩
theorem c_M_291 : pe_CL "PaintEditorModel" 291 m_M_write 1 := ⟨pe_w6 (List.mem_of_getElem? (i := 83) (by decide +kernel)), pe_w6 (List.mem_of_getElem? (i := 86) rfl), pe_w1 (List.mem_of_getElem? (i := 17) (by decide +kernel)), by decide, by decide, by decide +kernel⟩
theorem c_M_257 : pe_CL "PaintEditorModel" 257 m_M_putCode 1 := ⟨pe_w6 (List.mem_of_getElem? (i := 87) (by decide +kernel)), pe_w6 (List.mem_of_getElem? (i := 90) rfl), pe_w1 (List.mem_of_getElem? (i := 17) (by decide +kernel)), by decide, by decide, by decide +kernel⟩
theorem c_M_269 : pe_CL "PaintEditorModel" 269 m_M_blankHalf 1 := ⟨pe_w6 (List.mem_of_getElem? (i := 91) (by decide +kernel)), pe_w6 (List.mem_of_getElem? (i := 94) rfl), pe_w1 (List.mem_of_getElem? (i := 17) (by decide +kernel)), by decide, by decide, by decide +kernel⟩
theorem c_M_309 : pe_CL "PaintEditorModel" 309 m_M_isCell 2 := ⟨pe_w6 (List.mem_of_getElem? (i := 111) (by decide +kernel)), pe_w6 (List.mem_of_getElem? (i := 114) rfl), pe_w1 (List.mem_of_getElem? (i := 17) (by decide +kernel)), by decide, by decide, by decide +kernel⟩
theorem i_P_type : Cond.instanceMethod m_P_type.1 ∈ pe_WS := pe_w2 (List.mem_of_getElem? (i := 113) (by decide +kernel))
theorem s_P_type : Cond.selects "PaintEditor" m_P_type.1 m_P_type.1 ∈ pe_WS := pe_w2 (List.mem_of_getElem? (i := 114) (by decide +kernel))
theorem i_P_tick : Cond.instanceMethod m_P_tick.1 ∈ pe_WS := pe_w3 (List.mem_of_getElem? (i := 67) (by decide +kernel))
theorem s_P_tick : Cond.selects "PaintEditor" m_P_tick.1 m_P_tick.1 ∈ pe_WS := pe_w3 (List.mem_of_getElem? (i := 68) (by decide +kernel))
theorem i_P_size : Cond.instanceMethod m_P_size.1 ∈ pe_WS := pe_w3 (List.mem_of_getElem? (i := 72) (by decide +kernel))
theorem s_P_size : Cond.selects "PaintEditor" m_P_size.1 m_P_size.1 ∈ pe_WS := pe_w3 (List.mem_of_getElem? (i := 73) (by decide +kernel))
theorem i_P_draw : Cond.instanceMethod m_P_draw.1 ∈ pe_WS := pe_w3 (List.mem_of_getElem? (i := 118) (by decide +kernel))
theorem s_P_draw : Cond.selects "PaintEditor" m_P_draw.1 m_P_draw.1 ∈ pe_WS := pe_w3 (List.mem_of_getElem? (i := 119) (by decide +kernel))
theorem i_P_text : Cond.instanceMethod m_P_text.1 ∈ pe_WS := pe_w4 (List.mem_of_getElem? (i := 189) (by decide +kernel))
theorem s_P_text : Cond.selects "PaintEditor" m_P_text.1 m_P_text.1 ∈ pe_WS := pe_w4 (List.mem_of_getElem? (i := 190) (by decide +kernel))
theorem i_P_state : Cond.instanceMethod m_P_state.1 ∈ pe_WS := pe_w4 (List.mem_of_getElem? (i := 194) (by decide +kernel))
theorem s_P_state : Cond.selects "PaintEditor" m_P_state.1 m_P_state.1 ∈ pe_WS := pe_w4 (List.mem_of_getElem? (i := 195) (by decide +kernel))
theorem i_P_cell : Cond.instanceMethod m_P_cell.1 ∈ pe_WS := pe_w4 (List.mem_of_getElem? (i := 198) (by decide +kernel))
theorem s_P_cell : Cond.selects "PaintEditor" m_P_cell.1 m_P_cell.1 ∈ pe_WS := pe_w4 (List.mem_of_getElem? (i := 199) (by decide +kernel))
theorem i_P_look : Cond.instanceMethod m_P_look.1 ∈ pe_WS := pe_w4 (List.mem_of_getElem? (i := 203) (by decide +kernel))
theorem s_P_look : Cond.selects "PaintEditor" m_P_look.1 m_P_look.1 ∈ pe_WS := pe_w4 (List.mem_of_getElem? (i := 204) (by decide +kernel))
theorem i_P_terminal : Cond.instanceMethod m_P_terminal.1 ∈ pe_WS := pe_w4 (List.mem_of_getElem? (i := 208) (by decide +kernel))
theorem s_P_terminal : Cond.selects "PaintEditor" m_P_terminal.1 m_P_terminal.1 ∈ pe_WS := pe_w4 (List.mem_of_getElem? (i := 209) (by decide +kernel))
theorem i_P_sent : Cond.instanceMethod m_P_sent.1 ∈ pe_WS := pe_w4 (List.mem_of_getElem? (i := 212) (by decide +kernel))
theorem s_P_sent : Cond.selects "PaintEditor" m_P_sent.1 m_P_sent.1 ∈ pe_WS := pe_w4 (List.mem_of_getElem? (i := 213) (by decide +kernel))
theorem z_M_isMark : Cond.static m_M_isMark.1 ∈ pe_WS := pe_w5 (List.mem_of_getElem? (i := 164) (by decide +kernel))
theorem z_M_isWide : Cond.static m_M_isWide.1 ∈ pe_WS := pe_w5 (List.mem_of_getElem? (i := 223) (by decide +kernel))
theorem i_M_begins : Cond.instanceMethod m_M_begins.1 ∈ pe_WS := pe_w5 (List.mem_of_getElem? (i := 161) (by decide +kernel))
theorem s_M_begins : Cond.selects "PaintEditorModel" m_M_begins.1 m_M_begins.1 ∈ pe_WS := pe_wp (q := (m_M_begins.1, 44)) (by decide +kernel)
theorem i_M_after : Cond.instanceMethod m_M_after.1 ∈ pe_WS := pe_w5 (List.mem_of_getElem? (i := 230) (by decide +kernel))
theorem s_M_after : Cond.selects "PaintEditorModel" m_M_after.1 m_M_after.1 ∈ pe_WS := pe_wp (q := (m_M_after.1, 44)) (by decide +kernel)
theorem i_M_before : Cond.instanceMethod m_M_before.1 ∈ pe_WS := pe_w5 (List.mem_of_getElem? (i := 200) (by decide +kernel))
theorem s_M_before : Cond.selects "PaintEditorModel" m_M_before.1 m_M_before.1 ∈ pe_WS := pe_wp (q := (m_M_before.1, 44)) (by decide +kernel)
theorem i_M_widthOf : Cond.instanceMethod m_M_widthOf.1 ∈ pe_WS := pe_w5 (List.mem_of_getElem? (i := 220) (by decide +kernel))
theorem s_M_widthOf : Cond.selects "PaintEditorModel" m_M_widthOf.1 m_M_widthOf.1 ∈ pe_WS := pe_wp (q := (m_M_widthOf.1, 44)) (by decide +kernel)
theorem i_M_layOut : Cond.instanceMethod m_M_layOut.1 ∈ pe_WS := pe_w5 (List.mem_of_getElem? (i := 216) (by decide +kernel))
theorem s_M_layOut : Cond.selects "PaintEditorModel" m_M_layOut.1 m_M_layOut.1 ∈ pe_WS := pe_wp (q := (m_M_layOut.1, 44)) (by decide +kernel)
theorem i_M_isSmall : Cond.instanceMethod m_M_isSmall.1 ∈ pe_WS := pe_w6 (List.mem_of_getElem? (i := 18) (by decide +kernel))
theorem s_M_isSmall : Cond.selects "PaintEditorModel" m_M_isSmall.1 m_M_isSmall.1 ∈ pe_WS := pe_wp (q := (m_M_isSmall.1, 44)) (by decide +kernel)
theorem i_M_forgetFirst : Cond.instanceMethod m_M_forgetFirst.1 ∈ pe_WS := pe_w5 (List.mem_of_getElem? (i := 149) (by decide +kernel))
theorem s_M_forgetFirst : Cond.selects "PaintEditorModel" m_M_forgetFirst.1 m_M_forgetFirst.1 ∈ pe_WS := pe_wp (q := (m_M_forgetFirst.1, 44)) (by decide +kernel)
theorem i_M_open : Cond.instanceMethod m_M_open.1 ∈ pe_WS := pe_w5 (List.mem_of_getElem? (i := 153) (by decide +kernel))
theorem s_M_open : Cond.selects "PaintEditorModel" m_M_open.1 m_M_open.1 ∈ pe_WS := pe_wp (q := (m_M_open.1, 44)) (by decide +kernel)
theorem i_M_close : Cond.instanceMethod m_M_close.1 ∈ pe_WS := pe_w5 (List.mem_of_getElem? (i := 188) (by decide +kernel))
theorem s_M_close : Cond.selects "PaintEditorModel" m_M_close.1 m_M_close.1 ∈ pe_WS := pe_wp (q := (m_M_close.1, 44)) (by decide +kernel)
theorem i_M_note : Cond.instanceMethod m_M_note.1 ∈ pe_WS := pe_w5 (List.mem_of_getElem? (i := 145) (by decide +kernel))
theorem s_M_note : Cond.selects "PaintEditorModel" m_M_note.1 m_M_note.1 ∈ pe_WS := pe_wp (q := (m_M_note.1, 44)) (by decide +kernel)
theorem i_M_settle : Cond.instanceMethod m_M_settle.1 ∈ pe_WS := pe_w5 (List.mem_of_getElem? (i := 157) (by decide +kernel))
theorem s_M_settle : Cond.selects "PaintEditorModel" m_M_settle.1 m_M_settle.1 ∈ pe_WS := pe_wp (q := (m_M_settle.1, 44)) (by decide +kernel)
theorem i_M_insertOne : Cond.instanceMethod m_M_insertOne.1 ∈ pe_WS := pe_w5 (List.mem_of_getElem? (i := 141) (by decide +kernel))
theorem s_M_insertOne : Cond.selects "PaintEditorModel" m_M_insertOne.1 m_M_insertOne.1 ∈ pe_WS := pe_wp (q := (m_M_insertOne.1, 44)) (by decide +kernel)
theorem i_M_insertClip : Cond.instanceMethod m_M_insertClip.1 ∈ pe_WS := pe_w5 (List.mem_of_getElem? (i := 192) (by decide +kernel))
theorem s_M_insertClip : Cond.selects "PaintEditorModel" m_M_insertClip.1 m_M_insertClip.1 ∈ pe_WS := pe_wp (q := (m_M_insertClip.1, 44)) (by decide +kernel)
theorem i_M_takeAway : Cond.instanceMethod m_M_takeAway.1 ∈ pe_WS := pe_w5 (List.mem_of_getElem? (i := 184) (by decide +kernel))
theorem s_M_takeAway : Cond.selects "PaintEditorModel" m_M_takeAway.1 m_M_takeAway.1 ∈ pe_WS := pe_wp (q := (m_M_takeAway.1, 44)) (by decide +kernel)
theorem i_M_cutOut : Cond.instanceMethod m_M_cutOut.1 ∈ pe_WS := pe_w5 (List.mem_of_getElem? (i := 180) (by decide +kernel))
theorem s_M_cutOut : Cond.selects "PaintEditorModel" m_M_cutOut.1 m_M_cutOut.1 ∈ pe_WS := pe_wp (q := (m_M_cutOut.1, 44)) (by decide +kernel)
theorem i_M_undo : Cond.instanceMethod m_M_undo.1 ∈ pe_WS := pe_w5 (List.mem_of_getElem? (i := 196) (by decide +kernel))
theorem s_M_undo : Cond.selects "PaintEditorModel" m_M_undo.1 m_M_undo.1 ∈ pe_WS := pe_wp (q := (m_M_undo.1, 44)) (by decide +kernel)
theorem i_M_character : Cond.instanceMethod m_M_character.1 ∈ pe_WS := pe_w5 (List.mem_of_getElem? (i := 137) (by decide +kernel))
theorem s_M_character : Cond.selects "PaintEditorModel" m_M_character.1 m_M_character.1 ∈ pe_WS := pe_wp (q := (m_M_character.1, 44)) (by decide +kernel)
theorem i_M_control : Cond.instanceMethod m_M_control.1 ∈ pe_WS := pe_w5 (List.mem_of_getElem? (i := 172) (by decide +kernel))
theorem s_M_control : Cond.selects "PaintEditorModel" m_M_control.1 m_M_control.1 ∈ pe_WS := pe_wp (q := (m_M_control.1, 44)) (by decide +kernel)
theorem i_M_command : Cond.instanceMethod m_M_command.1 ∈ pe_WS := pe_w5 (List.mem_of_getElem? (i := 176) (by decide +kernel))
theorem s_M_command : Cond.selects "PaintEditorModel" m_M_command.1 m_M_command.1 ∈ pe_WS := pe_wp (q := (m_M_command.1, 44)) (by decide +kernel)
theorem i_M_escapeKey : Cond.instanceMethod m_M_escapeKey.1 ∈ pe_WS := pe_w6 (List.mem_of_getElem? (i := 2) (by decide +kernel))
theorem s_M_escapeKey : Cond.selects "PaintEditorModel" m_M_escapeKey.1 m_M_escapeKey.1 ∈ pe_WS := pe_wp (q := (m_M_escapeKey.1, 44)) (by decide +kernel)
theorem i_M_upOrDown : Cond.instanceMethod m_M_upOrDown.1 ∈ pe_WS := pe_w5 (List.mem_of_getElem? (i := 212) (by decide +kernel))
theorem s_M_upOrDown : Cond.selects "PaintEditorModel" m_M_upOrDown.1 m_M_upOrDown.1 ∈ pe_WS := pe_wp (q := (m_M_upOrDown.1, 44)) (by decide +kernel)
theorem i_M_lineBegin : Cond.instanceMethod m_M_lineBegin.1 ∈ pe_WS := pe_w5 (List.mem_of_getElem? (i := 234) (by decide +kernel))
theorem s_M_lineBegin : Cond.selects "PaintEditorModel" m_M_lineBegin.1 m_M_lineBegin.1 ∈ pe_WS := pe_wp (q := (m_M_lineBegin.1, 44)) (by decide +kernel)
theorem i_M_lineEnd : Cond.instanceMethod m_M_lineEnd.1 ∈ pe_WS := pe_w5 (List.mem_of_getElem? (i := 238) (by decide +kernel))
theorem s_M_lineEnd : Cond.selects "PaintEditorModel" m_M_lineEnd.1 m_M_lineEnd.1 ∈ pe_WS := pe_wp (q := (m_M_lineEnd.1, 44)) (by decide +kernel)
theorem i_M_finish : Cond.instanceMethod m_M_finish.1 ∈ pe_WS := pe_w5 (List.mem_of_getElem? (i := 208) (by decide +kernel))
theorem s_M_finish : Cond.selects "PaintEditorModel" m_M_finish.1 m_M_finish.1 ∈ pe_WS := pe_wp (q := (m_M_finish.1, 44)) (by decide +kernel)
theorem i_M_plain : Cond.instanceMethod m_M_plain.1 ∈ pe_WS := pe_w5 (List.mem_of_getElem? (i := 168) (by decide +kernel))
theorem s_M_plain : Cond.selects "PaintEditorModel" m_M_plain.1 m_M_plain.1 ∈ pe_WS := pe_wp (q := (m_M_plain.1, 44)) (by decide +kernel)
theorem i_M_within : Cond.instanceMethod m_M_within.1 ∈ pe_WS := pe_w5 (List.mem_of_getElem? (i := 132) (by decide +kernel))
theorem s_M_within : Cond.selects "PaintEditorModel" m_M_within.1 m_M_within.1 ∈ pe_WS := pe_wp (q := (m_M_within.1, 44)) (by decide +kernel)
theorem i_M_inSequence : Cond.instanceMethod m_M_inSequence.1 ∈ pe_WS := pe_w5 (List.mem_of_getElem? (i := 204) (by decide +kernel))
theorem s_M_inSequence : Cond.selects "PaintEditorModel" m_M_inSequence.1 m_M_inSequence.1 ∈ pe_WS := pe_wp (q := (m_M_inSequence.1, 44)) (by decide +kernel)
theorem i_M_take : Cond.instanceMethod m_M_take.1 ∈ pe_WS := pe_w5 (List.mem_of_getElem? (i := 128) (by decide +kernel))
theorem s_M_take : Cond.selects "PaintEditorModel" m_M_take.1 m_M_take.1 ∈ pe_WS := pe_wp (q := (m_M_take.1, 44)) (by decide +kernel)
theorem i_M_type : Cond.instanceMethod m_M_type.1 ∈ pe_WS := pe_w5 (List.mem_of_getElem? (i := 122) (by decide +kernel))
theorem s_M_type : Cond.selects "PaintEditorModel" m_M_type.1 m_M_type.1 ∈ pe_WS := pe_w5 (List.mem_of_getElem? (i := 123) (by decide +kernel))
theorem i_M_tick : Cond.instanceMethod m_M_tick.1 ∈ pe_WS := pe_w6 (List.mem_of_getElem? (i := 5) (by decide +kernel))
theorem s_M_tick : Cond.selects "PaintEditorModel" m_M_tick.1 m_M_tick.1 ∈ pe_WS := pe_w6 (List.mem_of_getElem? (i := 6) (by decide +kernel))
theorem i_M_clusterAt : Cond.instanceMethod m_M_clusterAt.1 ∈ pe_WS := pe_w6 (List.mem_of_getElem? (i := 26) (by decide +kernel))
theorem s_M_clusterAt : Cond.selects "PaintEditorModel" m_M_clusterAt.1 m_M_clusterAt.1 ∈ pe_WS := pe_wp (q := (m_M_clusterAt.1, 44)) (by decide +kernel)
theorem i_M_fillText : Cond.instanceMethod m_M_fillText.1 ∈ pe_WS := pe_w6 (List.mem_of_getElem? (i := 22) (by decide +kernel))
theorem s_M_fillText : Cond.selects "PaintEditorModel" m_M_fillText.1 m_M_fillText.1 ∈ pe_WS := pe_wp (q := (m_M_fillText.1, 44)) (by decide +kernel)
theorem i_M_status : Cond.instanceMethod m_M_status.1 ∈ pe_WS := pe_w6 (List.mem_of_getElem? (i := 40) (by decide +kernel))
theorem s_M_status : Cond.selects "PaintEditorModel" m_M_status.1 m_M_status.1 ∈ pe_WS := pe_wp (q := (m_M_status.1, 44)) (by decide +kernel)
theorem i_M_statusNumber : Cond.instanceMethod m_M_statusNumber.1 ∈ pe_WS := pe_w6 (List.mem_of_getElem? (i := 36) (by decide +kernel))
theorem s_M_statusNumber : Cond.selects "PaintEditorModel" m_M_statusNumber.1 m_M_statusNumber.1 ∈ pe_WS := pe_wp (q := (m_M_statusNumber.1, 44)) (by decide +kernel)
theorem i_M_fillStatus : Cond.instanceMethod m_M_fillStatus.1 ∈ pe_WS := pe_w6 (List.mem_of_getElem? (i := 32) (by decide +kernel))
theorem s_M_fillStatus : Cond.selects "PaintEditorModel" m_M_fillStatus.1 m_M_fillStatus.1 ∈ pe_WS := pe_wp (q := (m_M_fillStatus.1, 44)) (by decide +kernel)
theorem i_M_compose : Cond.instanceMethod m_M_compose.1 ∈ pe_WS := pe_w6 (List.mem_of_getElem? (i := 14) (by decide +kernel))
theorem s_M_compose : Cond.selects "PaintEditorModel" m_M_compose.1 m_M_compose.1 ∈ pe_WS := pe_wp (q := (m_M_compose.1, 44)) (by decide +kernel)
theorem i_M_put : Cond.instanceMethod m_M_put.1 ∈ pe_WS := pe_w6 (List.mem_of_getElem? (i := 52) (by decide +kernel))
theorem s_M_put : Cond.selects "PaintEditorModel" m_M_put.1 m_M_put.1 ∈ pe_WS := pe_wp (q := (m_M_put.1, 44)) (by decide +kernel)
theorem i_M_putNumber : Cond.instanceMethod m_M_putNumber.1 ∈ pe_WS := pe_w6 (List.mem_of_getElem? (i := 81) (by decide +kernel))
theorem s_M_putNumber : Cond.selects "PaintEditorModel" m_M_putNumber.1 m_M_putNumber.1 ∈ pe_WS := pe_wp (q := (m_M_putNumber.1, 44)) (by decide +kernel)
theorem i_M_putBegin : Cond.instanceMethod m_M_putBegin.1 ∈ pe_WS := pe_w6 (List.mem_of_getElem? (i := 48) (by decide +kernel))
theorem s_M_putBegin : Cond.selects "PaintEditorModel" m_M_putBegin.1 m_M_putBegin.1 ∈ pe_WS := pe_wp (q := (m_M_putBegin.1, 44)) (by decide +kernel)
theorem i_M_blankHalf : Cond.instanceMethod m_M_blankHalf.1 ∈ pe_WS := pe_w6 (List.mem_of_getElem? (i := 93) (by decide +kernel))
theorem s_M_blankHalf : Cond.selects "PaintEditorModel" m_M_blankHalf.1 m_M_blankHalf.1 ∈ pe_WS := pe_wp (q := (m_M_blankHalf.1, 44)) (by decide +kernel)
theorem i_M_putCode : Cond.instanceMethod m_M_putCode.1 ∈ pe_WS := pe_w6 (List.mem_of_getElem? (i := 89) (by decide +kernel))
theorem s_M_putCode : Cond.selects "PaintEditorModel" m_M_putCode.1 m_M_putCode.1 ∈ pe_WS := pe_wp (q := (m_M_putCode.1, 44)) (by decide +kernel)
theorem i_M_write : Cond.instanceMethod m_M_write.1 ∈ pe_WS := pe_w6 (List.mem_of_getElem? (i := 85) (by decide +kernel))
theorem s_M_write : Cond.selects "PaintEditorModel" m_M_write.1 m_M_write.1 ∈ pe_WS := pe_wp (q := (m_M_write.1, 44)) (by decide +kernel)
theorem i_M_sendPlace : Cond.instanceMethod m_M_sendPlace.1 ∈ pe_WS := pe_w6 (List.mem_of_getElem? (i := 77) (by decide +kernel))
theorem s_M_sendPlace : Cond.selects "PaintEditorModel" m_M_sendPlace.1 m_M_sendPlace.1 ∈ pe_WS := pe_wp (q := (m_M_sendPlace.1, 44)) (by decide +kernel)
theorem i_M_go : Cond.instanceMethod m_M_go.1 ∈ pe_WS := pe_w6 (List.mem_of_getElem? (i := 73) (by decide +kernel))
theorem s_M_go : Cond.selects "PaintEditorModel" m_M_go.1 m_M_go.1 ∈ pe_WS := pe_wp (q := (m_M_go.1, 44)) (by decide +kernel)
theorem i_M_setLook : Cond.instanceMethod m_M_setLook.1 ∈ pe_WS := pe_w6 (List.mem_of_getElem? (i := 44) (by decide +kernel))
theorem s_M_setLook : Cond.selects "PaintEditorModel" m_M_setLook.1 m_M_setLook.1 ∈ pe_WS := pe_wp (q := (m_M_setLook.1, 44)) (by decide +kernel)
theorem i_M_sendCluster : Cond.instanceMethod m_M_sendCluster.1 ∈ pe_WS := pe_w6 (List.mem_of_getElem? (i := 68) (by decide +kernel))
theorem s_M_sendCluster : Cond.selects "PaintEditorModel" m_M_sendCluster.1 m_M_sendCluster.1 ∈ pe_WS := pe_wp (q := (m_M_sendCluster.1, 44)) (by decide +kernel)
theorem i_M_sendClusters : Cond.instanceMethod m_M_sendClusters.1 ∈ pe_WS := pe_w6 (List.mem_of_getElem? (i := 64) (by decide +kernel))
theorem s_M_sendClusters : Cond.selects "PaintEditorModel" m_M_sendClusters.1 m_M_sendClusters.1 ∈ pe_WS := pe_wp (q := (m_M_sendClusters.1, 44)) (by decide +kernel)
theorem i_M_differs : Cond.instanceMethod m_M_differs.1 ∈ pe_WS := pe_w6 (List.mem_of_getElem? (i := 60) (by decide +kernel))
theorem s_M_differs : Cond.selects "PaintEditorModel" m_M_differs.1 m_M_differs.1 ∈ pe_WS := pe_wp (q := (m_M_differs.1, 44)) (by decide +kernel)
theorem i_M_drawRow : Cond.instanceMethod m_M_drawRow.1 ∈ pe_WS := pe_w6 (List.mem_of_getElem? (i := 56) (by decide +kernel))
theorem s_M_drawRow : Cond.selects "PaintEditorModel" m_M_drawRow.1 m_M_drawRow.1 ∈ pe_WS := pe_wp (q := (m_M_drawRow.1, 44)) (by decide +kernel)
theorem i_M_draw : Cond.instanceMethod m_M_draw.1 ∈ pe_WS := pe_w6 (List.mem_of_getElem? (i := 9) (by decide +kernel))
theorem s_M_draw : Cond.selects "PaintEditorModel" m_M_draw.1 m_M_draw.1 ∈ pe_WS := pe_w6 (List.mem_of_getElem? (i := 10) (by decide +kernel))
theorem i_M_size : Cond.instanceMethod m_M_size.1 ∈ pe_WS := pe_w6 (List.mem_of_getElem? (i := 96) (by decide +kernel))
theorem s_M_size : Cond.selects "PaintEditorModel" m_M_size.1 m_M_size.1 ∈ pe_WS := pe_w6 (List.mem_of_getElem? (i := 97) (by decide +kernel))
theorem i_M_text : Cond.instanceMethod m_M_text.1 ∈ pe_WS := pe_w6 (List.mem_of_getElem? (i := 100) (by decide +kernel))
theorem s_M_text : Cond.selects "PaintEditorModel" m_M_text.1 m_M_text.1 ∈ pe_WS := pe_w6 (List.mem_of_getElem? (i := 101) (by decide +kernel))
theorem i_M_state : Cond.instanceMethod m_M_state.1 ∈ pe_WS := pe_w6 (List.mem_of_getElem? (i := 104) (by decide +kernel))
theorem s_M_state : Cond.selects "PaintEditorModel" m_M_state.1 m_M_state.1 ∈ pe_WS := pe_w6 (List.mem_of_getElem? (i := 105) (by decide +kernel))
theorem i_M_isCell : Cond.instanceMethod m_M_isCell.1 ∈ pe_WS := pe_w6 (List.mem_of_getElem? (i := 113) (by decide +kernel))
theorem s_M_isCell : Cond.selects "PaintEditorModel" m_M_isCell.1 m_M_isCell.1 ∈ pe_WS := pe_wp (q := (m_M_isCell.1, 44)) (by decide +kernel)
theorem i_M_cell : Cond.instanceMethod m_M_cell.1 ∈ pe_WS := pe_w6 (List.mem_of_getElem? (i := 108) (by decide +kernel))
theorem s_M_cell : Cond.selects "PaintEditorModel" m_M_cell.1 m_M_cell.1 ∈ pe_WS := pe_w6 (List.mem_of_getElem? (i := 109) (by decide +kernel))
theorem i_M_look : Cond.instanceMethod m_M_look.1 ∈ pe_WS := pe_w6 (List.mem_of_getElem? (i := 116) (by decide +kernel))
theorem s_M_look : Cond.selects "PaintEditorModel" m_M_look.1 m_M_look.1 ∈ pe_WS := pe_w6 (List.mem_of_getElem? (i := 117) (by decide +kernel))
theorem i_M_terminal : Cond.instanceMethod m_M_terminal.1 ∈ pe_WS := pe_w6 (List.mem_of_getElem? (i := 120) (by decide +kernel))
theorem s_M_terminal : Cond.selects "PaintEditorModel" m_M_terminal.1 m_M_terminal.1 ∈ pe_WS := pe_w6 (List.mem_of_getElem? (i := 121) (by decide +kernel))
theorem i_M_sent : Cond.instanceMethod m_M_sent.1 ∈ pe_WS := pe_w6 (List.mem_of_getElem? (i := 124) (by decide +kernel))
theorem s_M_sent : Cond.selects "PaintEditorModel" m_M_sent.1 m_M_sent.1 ∈ pe_WS := pe_w6 (List.mem_of_getElem? (i := 125) (by decide +kernel))
theorem z_C_isMark : Cond.static m_C_isMark.1 ∈ pe_WS := pe_w2 (List.mem_of_getElem? (i := 158) (by decide +kernel))
theorem z_C_takesMarks : Cond.static m_C_takesMarks.1 ∈ pe_WS := pe_w2 (List.mem_of_getElem? (i := 161) (by decide +kernel))
theorem z_C_isWide : Cond.static m_C_isWide.1 ∈ pe_WS := pe_w2 (List.mem_of_getElem? (i := 169) (by decide +kernel))
theorem z_C_widthOf : Cond.static m_C_widthOf.1 ∈ pe_WS := pe_w2 (List.mem_of_getElem? (i := 166) (by decide +kernel))
theorem z_C_characterOf : Cond.static m_C_characterOf.1 ∈ pe_WS := pe_w3 (List.mem_of_getElem? (i := 100) (by decide +kernel))
theorem z_C_firstMarkOf : Cond.static m_C_firstMarkOf.1 ∈ pe_WS := pe_w4 (List.mem_of_getElem? (i := 179) (by decide +kernel))
theorem z_C_secondMarkOf : Cond.static m_C_secondMarkOf.1 ∈ pe_WS := pe_w4 (List.mem_of_getElem? (i := 167) (by decide +kernel))
theorem z_C_withMark : Cond.static m_C_withMark.1 ∈ pe_WS := pe_w3 (List.mem_of_getElem? (i := 148) (by decide +kernel))
theorem i_E_press : Cond.instanceMethod m_E_press.1 ∈ pe_WS := pe_w2 (List.mem_of_getElem? (i := 136) (by decide +kernel))
theorem s_E_press : Cond.selects "PaintEditor$Editor" m_E_press.1 m_E_press.1 ∈ pe_WS := pe_w2 (List.mem_of_getElem? (i := 137) (by decide +kernel))
theorem z_E_isCharacter : Cond.static m_E_isCharacter.1 ∈ pe_WS := pe_w2 (List.mem_of_getElem? (i := 183) (by decide +kernel))
theorem z_E_worksWhilePasting : Cond.static m_E_worksWhilePasting.1 ∈ pe_WS := pe_w2 (List.mem_of_getElem? (i := 180) (by decide +kernel))
theorem z_E_worksOtherwise : Cond.static m_E_worksOtherwise.1 ∈ pe_WS := pe_w2 (List.mem_of_getElem? (i := 187) (by decide +kernel))
theorem i_E_command : Cond.instanceMethod m_E_command.1 ∈ pe_WS := pe_w2 (List.mem_of_getElem? (i := 218) (by decide +kernel))
theorem s_E_command : Cond.selects "PaintEditor$Editor" m_E_command.1 m_E_command.1 ∈ pe_WS := pe_wp (q := (m_E_command.1, 12)) (by decide +kernel)
theorem i_E_insertOne : Cond.instanceMethod m_E_insertOne.1 ∈ pe_WS := pe_w2 (List.mem_of_getElem? (i := 191) (by decide +kernel))
theorem s_E_insertOne : Cond.selects "PaintEditor$Editor" m_E_insertOne.1 m_E_insertOne.1 ∈ pe_WS := pe_wp (q := (m_E_insertOne.1, 12)) (by decide +kernel)
theorem i_E_insert : Cond.instanceMethod m_E_insert.1 ∈ pe_WS := pe_w2 (List.mem_of_getElem? (i := 195) (by decide +kernel))
theorem s_E_insert : Cond.selects "PaintEditor$Editor" m_E_insert.1 m_E_insert.1 ∈ pe_WS := pe_wp (q := (m_E_insert.1, 12)) (by decide +kernel)
theorem i_E_removeBetween : Cond.instanceMethod m_E_removeBetween.1 ∈ pe_WS := pe_w2 (List.mem_of_getElem? (i := 228) (by decide +kernel))
theorem s_E_removeBetween : Cond.selects "PaintEditor$Editor" m_E_removeBetween.1 m_E_removeBetween.1 ∈ pe_WS := pe_wp (q := (m_E_removeBetween.1, 12)) (by decide +kernel)
theorem i_E_cut : Cond.instanceMethod m_E_cut.1 ∈ pe_WS := pe_w3 (List.mem_of_getElem? (i := 17) (by decide +kernel))
theorem s_E_cut : Cond.selects "PaintEditor$Editor" m_E_cut.1 m_E_cut.1 ∈ pe_WS := pe_wp (q := (m_E_cut.1, 12)) (by decide +kernel)
theorem i_E_undo : Cond.instanceMethod m_E_undo.1 ∈ pe_WS := pe_w3 (List.mem_of_getElem? (i := 24) (by decide +kernel))
theorem s_E_undo : Cond.selects "PaintEditor$Editor" m_E_undo.1 m_E_undo.1 ∈ pe_WS := pe_wp (q := (m_E_undo.1, 12)) (by decide +kernel)
theorem i_E_moveByRow : Cond.instanceMethod m_E_moveByRow.1 ∈ pe_WS := pe_w2 (List.mem_of_getElem? (i := 143) (by decide +kernel))
theorem s_E_moveByRow : Cond.selects "PaintEditor$Editor" m_E_moveByRow.1 m_E_moveByRow.1 ∈ pe_WS := pe_wp (q := (m_E_moveByRow.1, 12)) (by decide +kernel)
theorem i_E_isBetween : Cond.instanceMethod m_E_isBetween.1 ∈ pe_WS := pe_w3 (List.mem_of_getElem? (i := 139) (by decide +kernel))
theorem s_E_isBetween : Cond.selects "PaintEditor$Editor" m_E_isBetween.1 m_E_isBetween.1 ∈ pe_WS := pe_w3 (List.mem_of_getElem? (i := 140) (by decide +kernel))
theorem i_G_has : Cond.instanceMethod m_G_has.1 ∈ pe_WS := pe_w3 (List.mem_of_getElem? (i := 88) (by decide +kernel))
theorem s_G_has : Cond.selects "PaintEditor$Grid" m_G_has.1 m_G_has.1 ∈ pe_WS := pe_w3 (List.mem_of_getElem? (i := 89) (by decide +kernel))
theorem i_G_clusterAt : Cond.instanceMethod m_G_clusterAt.1 ∈ pe_WS := pe_w3 (List.mem_of_getElem? (i := 96) (by decide +kernel))
theorem s_G_clusterAt : Cond.selects "PaintEditor$Grid" m_G_clusterAt.1 m_G_clusterAt.1 ∈ pe_WS := pe_w3 (List.mem_of_getElem? (i := 97) (by decide +kernel))
theorem i_G_lookAt : Cond.instanceMethod m_G_lookAt.1 ∈ pe_WS := pe_w4 (List.mem_of_getElem? (i := 121) (by decide +kernel))
theorem s_G_lookAt : Cond.selects "PaintEditor$Grid" m_G_lookAt.1 m_G_lookAt.1 ∈ pe_WS := pe_w4 (List.mem_of_getElem? (i := 122) (by decide +kernel))
theorem i_G_put : Cond.instanceMethod m_G_put.1 ∈ pe_WS := pe_w3 (List.mem_of_getElem? (i := 84) (by decide +kernel))
theorem s_G_put : Cond.selects "PaintEditor$Grid" m_G_put.1 m_G_put.1 ∈ pe_WS := pe_w3 (List.mem_of_getElem? (i := 85) (by decide +kernel))
theorem i_G_isBlank : Cond.instanceMethod m_G_isBlank.1 ∈ pe_WS := pe_w4 (List.mem_of_getElem? (i := 132) (by decide +kernel))
theorem s_G_isBlank : Cond.selects "PaintEditor$Grid" m_G_isBlank.1 m_G_isBlank.1 ∈ pe_WS := pe_w4 (List.mem_of_getElem? (i := 133) (by decide +kernel))
theorem i_G_isWideAt : Cond.instanceMethod m_G_isWideAt.1 ∈ pe_WS := pe_w3 (List.mem_of_getElem? (i := 92) (by decide +kernel))
theorem s_G_isWideAt : Cond.selects "PaintEditor$Grid" m_G_isWideAt.1 m_G_isWideAt.1 ∈ pe_WS := pe_w3 (List.mem_of_getElem? (i := 93) (by decide +kernel))
theorem i_G_blankAll : Cond.instanceMethod m_G_blankAll.1 ∈ pe_WS := pe_w3 (List.mem_of_getElem? (i := 126) (by decide +kernel))
theorem s_G_blankAll : Cond.selects "PaintEditor$Grid" m_G_blankAll.1 m_G_blankAll.1 ∈ pe_WS := pe_w3 (List.mem_of_getElem? (i := 127) (by decide +kernel))
theorem i_G_blankFrom : Cond.instanceMethod m_G_blankFrom.1 ∈ pe_WS := pe_w3 (List.mem_of_getElem? (i := 80) (by decide +kernel))
theorem s_G_blankFrom : Cond.selects "PaintEditor$Grid" m_G_blankFrom.1 m_G_blankFrom.1 ∈ pe_WS := pe_w3 (List.mem_of_getElem? (i := 81) (by decide +kernel))
theorem i_G_resize : Cond.instanceMethod m_G_resize.1 ∈ pe_WS := pe_w3 (List.mem_of_getElem? (i := 76) (by decide +kernel))
theorem s_G_resize : Cond.selects "PaintEditor$Grid" m_G_resize.1 m_G_resize.1 ∈ pe_WS := pe_w3 (List.mem_of_getElem? (i := 77) (by decide +kernel))
theorem i_H_keepInsertion : Cond.instanceMethod m_H_keepInsertion.1 ∈ pe_WS := pe_w2 (List.mem_of_getElem? (i := 202) (by decide +kernel))
theorem s_H_keepInsertion : Cond.selects "PaintEditor$History" m_H_keepInsertion.1 m_H_keepInsertion.1 ∈ pe_WS := pe_w2 (List.mem_of_getElem? (i := 203) (by decide +kernel))
theorem i_H_keepRemoval : Cond.instanceMethod m_H_keepRemoval.1 ∈ pe_WS := pe_w2 (List.mem_of_getElem? (i := 231) (by decide +kernel))
theorem s_H_keepRemoval : Cond.selects "PaintEditor$History" m_H_keepRemoval.1 m_H_keepRemoval.1 ∈ pe_WS := pe_w2 (List.mem_of_getElem? (i := 232) (by decide +kernel))
theorem i_H_undoIn : Cond.instanceMethod m_H_undoIn.1 ∈ pe_WS := pe_w3 (List.mem_of_getElem? (i := 27) (by decide +kernel))
theorem s_H_undoIn : Cond.selects "PaintEditor$History" m_H_undoIn.1 m_H_undoIn.1 ∈ pe_WS := pe_w3 (List.mem_of_getElem? (i := 28) (by decide +kernel))
theorem i_H_newSlot : Cond.instanceMethod m_H_newSlot.1 ∈ pe_WS := pe_w2 (List.mem_of_getElem? (i := 207) (by decide +kernel))
theorem s_H_newSlot : Cond.selects "PaintEditor$History" m_H_newSlot.1 m_H_newSlot.1 ∈ pe_WS := pe_wp (q := (m_H_newSlot.1, 7)) (by decide +kernel)
theorem i_K_leave : Cond.instanceMethod m_K_leave.1 ∈ pe_WS := pe_w2 (List.mem_of_getElem? (i := 117) (by decide +kernel))
theorem s_K_leave : Cond.selects "PaintEditor$Keyboard" m_K_leave.1 m_K_leave.1 ∈ pe_WS := pe_w2 (List.mem_of_getElem? (i := 118) (by decide +kernel))
theorem i_K_giveUp : Cond.instanceMethod m_K_giveUp.1 ∈ pe_WS := pe_w2 (List.mem_of_getElem? (i := 131) (by decide +kernel))
theorem s_K_giveUp : Cond.selects "PaintEditor$Keyboard" m_K_giveUp.1 m_K_giveUp.1 ∈ pe_WS := pe_w2 (List.mem_of_getElem? (i := 132) (by decide +kernel))
theorem i_K_take : Cond.instanceMethod m_K_take.1 ∈ pe_WS := pe_w3 (List.mem_of_getElem? (i := 33) (by decide +kernel))
theorem s_K_take : Cond.selects "PaintEditor$Keyboard" m_K_take.1 m_K_take.1 ∈ pe_WS := pe_w3 (List.mem_of_getElem? (i := 34) (by decide +kernel))
theorem i_K_goesOn : Cond.instanceMethod m_K_goesOn.1 ∈ pe_WS := pe_w2 (List.mem_of_getElem? (i := 122) (by decide +kernel))
theorem s_K_goesOn : Cond.selects "PaintEditor$Keyboard" m_K_goesOn.1 m_K_goesOn.1 ∈ pe_WS := pe_wp (q := (m_K_goesOn.1, 7)) (by decide +kernel)
theorem z_K_isDigit : Cond.static m_K_isDigit.1 ∈ pe_WS := pe_w2 (List.mem_of_getElem? (i := 125) (by decide +kernel))
theorem z_K_isFinal : Cond.static m_K_isFinal.1 ∈ pe_WS := pe_w2 (List.mem_of_getElem? (i := 128) (by decide +kernel))
theorem i_K_takePlain : Cond.instanceMethod m_K_takePlain.1 ∈ pe_WS := pe_w3 (List.mem_of_getElem? (i := 60) (by decide +kernel))
theorem s_K_takePlain : Cond.selects "PaintEditor$Keyboard" m_K_takePlain.1 m_K_takePlain.1 ∈ pe_WS := pe_wp (q := (m_K_takePlain.1, 7)) (by decide +kernel)
theorem i_K_beginCharacter : Cond.instanceMethod m_K_beginCharacter.1 ∈ pe_WS := pe_w3 (List.mem_of_getElem? (i := 64) (by decide +kernel))
theorem s_K_beginCharacter : Cond.selects "PaintEditor$Keyboard" m_K_beginCharacter.1 m_K_beginCharacter.1 ∈ pe_WS := pe_wp (q := (m_K_beginCharacter.1, 7)) (by decide +kernel)
theorem i_K_takeWithin : Cond.instanceMethod m_K_takeWithin.1 ∈ pe_WS := pe_w3 (List.mem_of_getElem? (i := 56) (by decide +kernel))
theorem s_K_takeWithin : Cond.selects "PaintEditor$Keyboard" m_K_takeWithin.1 m_K_takeWithin.1 ∈ pe_WS := pe_wp (q := (m_K_takeWithin.1, 7)) (by decide +kernel)
theorem i_K_takeInSequence : Cond.instanceMethod m_K_takeInSequence.1 ∈ pe_WS := pe_w3 (List.mem_of_getElem? (i := 38) (by decide +kernel))
theorem s_K_takeInSequence : Cond.selects "PaintEditor$Keyboard" m_K_takeInSequence.1 m_K_takeInSequence.1 ∈ pe_WS := pe_wp (q := (m_K_takeInSequence.1, 7)) (by decide +kernel)
theorem i_K_numberedKey : Cond.instanceMethod m_K_numberedKey.1 ∈ pe_WS := pe_w3 (List.mem_of_getElem? (i := 49) (by decide +kernel))
theorem s_K_numberedKey : Cond.selects "PaintEditor$Keyboard" m_K_numberedKey.1 m_K_numberedKey.1 ∈ pe_WS := pe_wp (q := (m_K_numberedKey.1, 7)) (by decide +kernel)
theorem i_L_lay : Cond.instanceMethod m_L_lay.1 ∈ pe_WS := pe_w2 (List.mem_of_getElem? (i := 146) (by decide +kernel))
theorem s_L_lay : Cond.selects "PaintEditor$Layout" m_L_lay.1 m_L_lay.1 ∈ pe_WS := pe_w2 (List.mem_of_getElem? (i := 147) (by decide +kernel))
theorem i_L_placeIn : Cond.instanceMethod m_L_placeIn.1 ∈ pe_WS := pe_w2 (List.mem_of_getElem? (i := 176) (by decide +kernel))
theorem s_L_placeIn : Cond.selects "PaintEditor$Layout" m_L_placeIn.1 m_L_placeIn.1 ∈ pe_WS := pe_w2 (List.mem_of_getElem? (i := 177) (by decide +kernel))
theorem i_Q_byteAt : Cond.instanceMethod m_Q_byteAt.1 ∈ pe_WS := pe_w4 (List.mem_of_getElem? (i := 216) (by decide +kernel))
theorem s_Q_byteAt : Cond.selects "PaintEditor$Painter" m_Q_byteAt.1 m_Q_byteAt.1 ∈ pe_WS := pe_w4 (List.mem_of_getElem? (i := 217) (by decide +kernel))
theorem i_Q_begin : Cond.instanceMethod m_Q_begin.1 ∈ pe_WS := pe_w4 (List.mem_of_getElem? (i := 83) (by decide +kernel))
theorem s_Q_begin : Cond.selects "PaintEditor$Painter" m_Q_begin.1 m_Q_begin.1 ∈ pe_WS := pe_w4 (List.mem_of_getElem? (i := 84) (by decide +kernel))
theorem i_Q_paintRow : Cond.instanceMethod m_Q_paintRow.1 ∈ pe_WS := pe_w4 (List.mem_of_getElem? (i := 108) (by decide +kernel))
theorem s_Q_paintRow : Cond.selects "PaintEditor$Painter" m_Q_paintRow.1 m_Q_paintRow.1 ∈ pe_WS := pe_w4 (List.mem_of_getElem? (i := 109) (by decide +kernel))
theorem i_Q_differs : Cond.instanceMethod m_Q_differs.1 ∈ pe_WS := pe_w4 (List.mem_of_getElem? (i := 117) (by decide +kernel))
theorem s_Q_differs : Cond.selects "PaintEditor$Painter" m_Q_differs.1 m_Q_differs.1 ∈ pe_WS := pe_wp (q := (m_Q_differs.1, 3)) (by decide +kernel)
theorem i_Q_firstDifference : Cond.instanceMethod m_Q_firstDifference.1 ∈ pe_WS := pe_w4 (List.mem_of_getElem? (i := 113) (by decide +kernel))
theorem s_Q_firstDifference : Cond.selects "PaintEditor$Painter" m_Q_firstDifference.1 m_Q_firstDifference.1 ∈ pe_WS := pe_wp (q := (m_Q_firstDifference.1, 3)) (by decide +kernel)
theorem i_Q_lastDifference : Cond.instanceMethod m_Q_lastDifference.1 ∈ pe_WS := pe_w4 (List.mem_of_getElem? (i := 126) (by decide +kernel))
theorem s_Q_lastDifference : Cond.selects "PaintEditor$Painter" m_Q_lastDifference.1 m_Q_lastDifference.1 ∈ pe_WS := pe_wp (q := (m_Q_lastDifference.1, 3)) (by decide +kernel)
theorem z_Q_blankBeginning : Cond.static m_Q_blankBeginning.1 ∈ pe_WS := pe_w4 (List.mem_of_getElem? (i := 129) (by decide +kernel))
theorem i_Q_sendCluster : Cond.instanceMethod m_Q_sendCluster.1 ∈ pe_WS := pe_w4 (List.mem_of_getElem? (i := 139) (by decide +kernel))
theorem s_Q_sendCluster : Cond.selects "PaintEditor$Painter" m_Q_sendCluster.1 m_Q_sendCluster.1 ∈ pe_WS := pe_wp (q := (m_Q_sendCluster.1, 3)) (by decide +kernel)
theorem i_Q_makePlaceRight : Cond.instanceMethod m_Q_makePlaceRight.1 ∈ pe_WS := pe_w4 (List.mem_of_getElem? (i := 149) (by decide +kernel))
theorem s_Q_makePlaceRight : Cond.selects "PaintEditor$Painter" m_Q_makePlaceRight.1 m_Q_makePlaceRight.1 ∈ pe_WS := pe_w4 (List.mem_of_getElem? (i := 150) (by decide +kernel))
theorem i_Q_sendPlace : Cond.instanceMethod m_Q_sendPlace.1 ∈ pe_WS := pe_w4 (List.mem_of_getElem? (i := 145) (by decide +kernel))
theorem s_Q_sendPlace : Cond.selects "PaintEditor$Painter" m_Q_sendPlace.1 m_Q_sendPlace.1 ∈ pe_WS := pe_wp (q := (m_Q_sendPlace.1, 3)) (by decide +kernel)
theorem i_Q_sendLook : Cond.instanceMethod m_Q_sendLook.1 ∈ pe_WS := pe_w4 (List.mem_of_getElem? (i := 88) (by decide +kernel))
theorem s_Q_sendLook : Cond.selects "PaintEditor$Painter" m_Q_sendLook.1 m_Q_sendLook.1 ∈ pe_WS := pe_wp (q := (m_Q_sendLook.1, 3)) (by decide +kernel)
theorem i_Q_sendSequence : Cond.instanceMethod m_Q_sendSequence.1 ∈ pe_WS := pe_w4 (List.mem_of_getElem? (i := 92) (by decide +kernel))
theorem s_Q_sendSequence : Cond.selects "PaintEditor$Painter" m_Q_sendSequence.1 m_Q_sendSequence.1 ∈ pe_WS := pe_wp (q := (m_Q_sendSequence.1, 3)) (by decide +kernel)
theorem i_Q_putNumber : Cond.instanceMethod m_Q_putNumber.1 ∈ pe_WS := pe_w4 (List.mem_of_getElem? (i := 100) (by decide +kernel))
theorem s_Q_putNumber : Cond.selects "PaintEditor$Painter" m_Q_putNumber.1 m_Q_putNumber.1 ∈ pe_WS := pe_wp (q := (m_Q_putNumber.1, 3)) (by decide +kernel)
theorem i_Q_sendCharacter : Cond.instanceMethod m_Q_sendCharacter.1 ∈ pe_WS := pe_w4 (List.mem_of_getElem? (i := 154) (by decide +kernel))
theorem s_Q_sendCharacter : Cond.selects "PaintEditor$Painter" m_Q_sendCharacter.1 m_Q_sendCharacter.1 ∈ pe_WS := pe_wp (q := (m_Q_sendCharacter.1, 3)) (by decide +kernel)
theorem i_Q_put : Cond.instanceMethod m_Q_put.1 ∈ pe_WS := pe_w4 (List.mem_of_getElem? (i := 96) (by decide +kernel))
theorem s_Q_put : Cond.selects "PaintEditor$Painter" m_Q_put.1 m_Q_put.1 ∈ pe_WS := pe_wp (q := (m_Q_put.1, 3)) (by decide +kernel)
theorem i_S_compose : Cond.instanceMethod m_S_compose.1 ∈ pe_WS := pe_w3 (List.mem_of_getElem? (i := 122) (by decide +kernel))
theorem s_S_compose : Cond.selects "PaintEditor$Screen" m_S_compose.1 m_S_compose.1 ∈ pe_WS := pe_w3 (List.mem_of_getElem? (i := 123) (by decide +kernel))
theorem i_S_follow : Cond.instanceMethod m_S_follow.1 ∈ pe_WS := pe_w3 (List.mem_of_getElem? (i := 132) (by decide +kernel))
theorem s_S_follow : Cond.selects "PaintEditor$Screen" m_S_follow.1 m_S_follow.1 ∈ pe_WS := pe_wp (q := (m_S_follow.1, 5)) (by decide +kernel)
theorem i_S_showCluster : Cond.instanceMethod m_S_showCluster.1 ∈ pe_WS := pe_w3 (List.mem_of_getElem? (i := 136) (by decide +kernel))
theorem s_S_showCluster : Cond.selects "PaintEditor$Screen" m_S_showCluster.1 m_S_showCluster.1 ∈ pe_WS := pe_wp (q := (m_S_showCluster.1, 5)) (by decide +kernel)
theorem i_S_showStatus : Cond.instanceMethod m_S_showStatus.1 ∈ pe_WS := pe_w3 (List.mem_of_getElem? (i := 154) (by decide +kernel))
theorem s_S_showStatus : Cond.selects "PaintEditor$Screen" m_S_showStatus.1 m_S_showStatus.1 ∈ pe_WS := pe_wp (q := (m_S_showStatus.1, 5)) (by decide +kernel)
theorem i_Z_write : Cond.instanceMethod m_Z_write.1 ∈ pe_WS := pe_w4 (List.mem_of_getElem? (i := 157) (by decide +kernel))
theorem s_Z_write : Cond.selects "PaintEditor$Terminal" m_Z_write.1 m_Z_write.1 ∈ pe_WS := pe_w4 (List.mem_of_getElem? (i := 158) (by decide +kernel))
theorem i_Z_joins : Cond.instanceMethod m_Z_joins.1 ∈ pe_WS := pe_w4 (List.mem_of_getElem? (i := 163) (by decide +kernel))
theorem s_Z_joins : Cond.selects "PaintEditor$Terminal" m_Z_joins.1 m_Z_joins.1 ∈ pe_WS := pe_wp (q := (m_Z_joins.1, 8)) (by decide +kernel)
theorem i_Z_writeCells : Cond.instanceMethod m_Z_writeCells.1 ∈ pe_WS := pe_w4 (List.mem_of_getElem? (i := 176) (by decide +kernel))
theorem s_Z_writeCells : Cond.selects "PaintEditor$Terminal" m_Z_writeCells.1 m_Z_writeCells.1 ∈ pe_WS := pe_wp (q := (m_Z_writeCells.1, 8)) (by decide +kernel)
theorem i_Z_moveTo : Cond.instanceMethod m_Z_moveTo.1 ∈ pe_WS := pe_w3 (List.mem_of_getElem? (i := 110) (by decide +kernel))
theorem s_Z_moveTo : Cond.selects "PaintEditor$Terminal" m_Z_moveTo.1 m_Z_moveTo.1 ∈ pe_WS := pe_w3 (List.mem_of_getElem? (i := 111) (by decide +kernel))
theorem i_Z_eraseRestOfRow : Cond.instanceMethod m_Z_eraseRestOfRow.1 ∈ pe_WS := pe_w4 (List.mem_of_getElem? (i := 183) (by decide +kernel))
theorem s_Z_eraseRestOfRow : Cond.selects "PaintEditor$Terminal" m_Z_eraseRestOfRow.1 m_Z_eraseRestOfRow.1 ∈ pe_WS := pe_w4 (List.mem_of_getElem? (i := 184) (by decide +kernel))
theorem i_Z_eraseAll : Cond.instanceMethod m_Z_eraseAll.1 ∈ pe_WS := pe_w4 (List.mem_of_getElem? (i := 103) (by decide +kernel))
theorem s_Z_eraseAll : Cond.selects "PaintEditor$Terminal" m_Z_eraseAll.1 m_Z_eraseAll.1 ∈ pe_WS := pe_w4 (List.mem_of_getElem? (i := 104) (by decide +kernel))
theorem i_Z_resize : Cond.instanceMethod m_Z_resize.1 ∈ pe_WS := pe_w3 (List.mem_of_getElem? (i := 105) (by decide +kernel))
theorem s_Z_resize : Cond.selects "PaintEditor$Terminal" m_Z_resize.1 m_Z_resize.1 ∈ pe_WS := pe_w3 (List.mem_of_getElem? (i := 106) (by decide +kernel))
theorem i_Z_endWriting : Cond.instanceMethod m_Z_endWriting.1 ∈ pe_WS := pe_w3 (List.mem_of_getElem? (i := 115) (by decide +kernel))
theorem s_Z_endWriting : Cond.selects "PaintEditor$Terminal" m_Z_endWriting.1 m_Z_endWriting.1 ∈ pe_WS := pe_wp (q := (m_Z_endWriting.1, 8)) (by decide +kernel)
theorem i_T_codeAt : Cond.instanceMethod m_T_codeAt.1 ∈ pe_WS := pe_w2 (List.mem_of_getElem? (i := 154) (by decide +kernel))
theorem s_T_codeAt : Cond.selects "PaintEditor$Text" m_T_codeAt.1 m_T_codeAt.1 ∈ pe_WS := pe_w2 (List.mem_of_getElem? (i := 155) (by decide +kernel))
theorem i_T_hasRoomFor : Cond.instanceMethod m_T_hasRoomFor.1 ∈ pe_WS := pe_w2 (List.mem_of_getElem? (i := 198) (by decide +kernel))
theorem s_T_hasRoomFor : Cond.selects "PaintEditor$Text" m_T_hasRoomFor.1 m_T_hasRoomFor.1 ∈ pe_WS := pe_w2 (List.mem_of_getElem? (i := 199) (by decide +kernel))
theorem i_T_insert : Cond.instanceMethod m_T_insert.1 ∈ pe_WS := pe_w2 (List.mem_of_getElem? (i := 210) (by decide +kernel))
theorem s_T_insert : Cond.selects "PaintEditor$Text" m_T_insert.1 m_T_insert.1 ∈ pe_WS := pe_w2 (List.mem_of_getElem? (i := 211) (by decide +kernel))
theorem i_T_remove : Cond.instanceMethod m_T_remove.1 ∈ pe_WS := pe_w2 (List.mem_of_getElem? (i := 239) (by decide +kernel))
theorem s_T_remove : Cond.selects "PaintEditor$Text" m_T_remove.1 m_T_remove.1 ∈ pe_WS := pe_w3 (List.mem_of_getElem? (i := 0) (by decide +kernel))
theorem i_T_copyTo : Cond.instanceMethod m_T_copyTo.1 ∈ pe_WS := pe_w2 (List.mem_of_getElem? (i := 235) (by decide +kernel))
theorem s_T_copyTo : Cond.selects "PaintEditor$Text" m_T_copyTo.1 m_T_copyTo.1 ∈ pe_WS := pe_w2 (List.mem_of_getElem? (i := 236) (by decide +kernel))
theorem i_T_isBeginning : Cond.instanceMethod m_T_isBeginning.1 ∈ pe_WS := pe_w2 (List.mem_of_getElem? (i := 150) (by decide +kernel))
theorem s_T_isBeginning : Cond.selects "PaintEditor$Text" m_T_isBeginning.1 m_T_isBeginning.1 ∈ pe_WS := pe_w2 (List.mem_of_getElem? (i := 151) (by decide +kernel))
theorem i_T_beginningFrom : Cond.instanceMethod m_T_beginningFrom.1 ∈ pe_WS := pe_w3 (List.mem_of_getElem? (i := 3) (by decide +kernel))
theorem s_T_beginningFrom : Cond.selects "PaintEditor$Text" m_T_beginningFrom.1 m_T_beginningFrom.1 ∈ pe_WS := pe_w3 (List.mem_of_getElem? (i := 4) (by decide +kernel))
theorem i_T_beginningAhead : Cond.instanceMethod m_T_beginningAhead.1 ∈ pe_WS := pe_w2 (List.mem_of_getElem? (i := 221) (by decide +kernel))
theorem s_T_beginningAhead : Cond.selects "PaintEditor$Text" m_T_beginningAhead.1 m_T_beginningAhead.1 ∈ pe_WS := pe_w2 (List.mem_of_getElem? (i := 222) (by decide +kernel))
theorem i_T_lineBeginning : Cond.instanceMethod m_T_lineBeginning.1 ∈ pe_WS := pe_w3 (List.mem_of_getElem? (i := 8) (by decide +kernel))
theorem s_T_lineBeginning : Cond.selects "PaintEditor$Text" m_T_lineBeginning.1 m_T_lineBeginning.1 ∈ pe_WS := pe_w3 (List.mem_of_getElem? (i := 9) (by decide +kernel))
theorem i_T_lineEnd : Cond.instanceMethod m_T_lineEnd.1 ∈ pe_WS := pe_w3 (List.mem_of_getElem? (i := 12) (by decide +kernel))
theorem s_T_lineEnd : Cond.selects "PaintEditor$Text" m_T_lineEnd.1 m_T_lineEnd.1 ∈ pe_WS := pe_w3 (List.mem_of_getElem? (i := 13) (by decide +kernel))
theorem i_T_lineNumber : Cond.instanceMethod m_T_lineNumber.1 ∈ pe_WS := pe_w3 (List.mem_of_getElem? (i := 211) (by decide +kernel))
theorem s_T_lineNumber : Cond.selects "PaintEditor$Text" m_T_lineNumber.1 m_T_lineNumber.1 ∈ pe_WS := pe_w3 (List.mem_of_getElem? (i := 212) (by decide +kernel))
theorem i_T_clusterAt : Cond.instanceMethod m_T_clusterAt.1 ∈ pe_WS := pe_w3 (List.mem_of_getElem? (i := 143) (by decide +kernel))
theorem s_T_clusterAt : Cond.selects "PaintEditor$Text" m_T_clusterAt.1 m_T_clusterAt.1 ∈ pe_WS := pe_w3 (List.mem_of_getElem? (i := 144) (by decide +kernel))
theorem z_A_fill : Cond.static m_A_fill.1 ∈ pe_WS := pe_w1 (List.mem_of_getElem? (i := 237) (by decide +kernel))
theorem z_max : Cond.static Lib.Math.max.name ∈ pe_WS := pe_w1 (List.mem_of_getElem? (i := 36) (by decide +kernel))
theorem z_min : Cond.static Lib.Math.min.name ∈ pe_WS := pe_w1 (List.mem_of_getElem? (i := 33) (by decide +kernel))
theorem n_math : Cond.initialized "java/lang/Math" ∈ pe_WS := pe_w1 (List.mem_of_getElem? (i := 2) (by decide +kernel))
theorem k_max : Cond.code Lib.Math.max.name Lib.Math.max.code 2 (some .int) ∈ pe_WS := pe_w1 (List.mem_of_getElem? (i := 37) (by decide +kernel))
theorem k_min : Cond.code Lib.Math.min.name Lib.Math.min.code 2 (some .int) ∈ pe_WS := pe_w1 (List.mem_of_getElem? (i := 34) (by decide +kernel))
theorem z_copy : Cond.static arraycopyName ∈ pe_WS := pe_w2 (List.mem_of_getElem? (i := 214) (by decide +kernel))
theorem n_copy : Cond.native arraycopyName ∈ pe_WS := pe_w2 (List.mem_of_getElem? (i := 215) (by decide +kernel))
theorem n_system : Cond.initialized "java/lang/System" ∈ pe_WS := pe_w1 (List.mem_of_getElem? (i := 19) (by decide +kernel))
theorem c_P_9 : Cond.methodLink "PaintEditor" 9 Lib.Math.min.name ∈ pe_WS := pe_w1 (List.mem_of_getElem? (i := 32) (by decide +kernel))
theorem c_P_15 : Cond.methodLink "PaintEditor" 15 Lib.Math.max.name ∈ pe_WS := pe_w1 (List.mem_of_getElem? (i := 35) (by decide +kernel))
theorem q_SU_20 : Cond.constant "java/lang/StringUTF16" 20 (1073741823) ∈ pe_WS := pe_w1 (List.mem_of_getElem? (i := 215) (by decide +kernel))
theorem q_K_26 : Cond.constant "PaintEditor$Keyboard" 26 (65533) ∈ pe_WS := pe_w2 (List.mem_of_getElem? (i := 134) (by decide +kernel))
theorem q_E_53 : Cond.constant "PaintEditor$Editor" 53 (65536) ∈ pe_WS := pe_w2 (List.mem_of_getElem? (i := 139) (by decide +kernel))
theorem q_E_54 : Cond.constant "PaintEditor$Editor" 54 (65537) ∈ pe_WS := pe_w2 (List.mem_of_getElem? (i := 140) (by decide +kernel))
theorem q_C_15 : Cond.constant "PaintEditor$Codes" 15 (55203) ∈ pe_WS := pe_w2 (List.mem_of_getElem? (i := 171) (by decide +kernel))
theorem q_C_16 : Cond.constant "PaintEditor$Codes" 16 (65281) ∈ pe_WS := pe_w2 (List.mem_of_getElem? (i := 172) (by decide +kernel))
theorem q_C_17 : Cond.constant "PaintEditor$Codes" 17 (65376) ∈ pe_WS := pe_w2 (List.mem_of_getElem? (i := 173) (by decide +kernel))
theorem c_L_39 : Cond.methodLink "PaintEditor$Layout" 39 Lib.Math.min.name ∈ pe_WS := pe_w2 (List.mem_of_getElem? (i := 174) (by decide +kernel))
theorem q_E_85 : Cond.constant "PaintEditor$Editor" 85 (65544) ∈ pe_WS := pe_w2 (List.mem_of_getElem? (i := 185) (by decide +kernel))
theorem c_T_19 : Cond.methodLink "PaintEditor$Text" 19 arraycopyName ∈ pe_WS := pe_w2 (List.mem_of_getElem? (i := 213) (by decide +kernel))
theorem c_T_47 : Cond.methodLink "PaintEditor$Text" 47 Lib.Math.max.name ∈ pe_WS := pe_w2 (List.mem_of_getElem? (i := 225) (by decide +kernel))
theorem c_T_41 : Cond.methodLink "PaintEditor$Text" 41 Lib.Math.min.name ∈ pe_WS := pe_w3 (List.mem_of_getElem? (i := 6) (by decide +kernel))
theorem c_E_128 : Cond.methodLink "PaintEditor$Editor" 128 Lib.Math.min.name ∈ pe_WS := pe_w3 (List.mem_of_getElem? (i := 19) (by decide +kernel))
theorem c_E_134 : Cond.methodLink "PaintEditor$Editor" 134 Lib.Math.max.name ∈ pe_WS := pe_w3 (List.mem_of_getElem? (i := 20) (by decide +kernel))
theorem c_K_62 : Cond.methodLink "PaintEditor$Keyboard" 62 Lib.Math.min.name ∈ pe_WS := pe_w3 (List.mem_of_getElem? (i := 40) (by decide +kernel))
theorem q_K_68 : Cond.constant "PaintEditor$Keyboard" 68 (65536) ∈ pe_WS := pe_w3 (List.mem_of_getElem? (i := 41) (by decide +kernel))
theorem q_K_69 : Cond.constant "PaintEditor$Keyboard" 69 (65537) ∈ pe_WS := pe_w3 (List.mem_of_getElem? (i := 42) (by decide +kernel))
theorem q_K_70 : Cond.constant "PaintEditor$Keyboard" 70 (65538) ∈ pe_WS := pe_w3 (List.mem_of_getElem? (i := 43) (by decide +kernel))
theorem q_K_71 : Cond.constant "PaintEditor$Keyboard" 71 (65539) ∈ pe_WS := pe_w3 (List.mem_of_getElem? (i := 44) (by decide +kernel))
theorem q_K_72 : Cond.constant "PaintEditor$Keyboard" 72 (65540) ∈ pe_WS := pe_w3 (List.mem_of_getElem? (i := 45) (by decide +kernel))
theorem q_K_73 : Cond.constant "PaintEditor$Keyboard" 73 (65541) ∈ pe_WS := pe_w3 (List.mem_of_getElem? (i := 46) (by decide +kernel))
theorem q_K_77 : Cond.constant "PaintEditor$Keyboard" 77 (65542) ∈ pe_WS := pe_w3 (List.mem_of_getElem? (i := 51) (by decide +kernel))
theorem q_K_78 : Cond.constant "PaintEditor$Keyboard" 78 (65543) ∈ pe_WS := pe_w3 (List.mem_of_getElem? (i := 52) (by decide +kernel))
theorem q_K_79 : Cond.constant "PaintEditor$Keyboard" 79 (65544) ∈ pe_WS := pe_w3 (List.mem_of_getElem? (i := 53) (by decide +kernel))
theorem q_C_21 : Cond.constant "PaintEditor$Codes" 21 (65536) ∈ pe_WS := pe_w3 (List.mem_of_getElem? (i := 102) (by decide +kernel))
theorem q_C_22 : Cond.constant "PaintEditor$Codes" 22 (8388608) ∈ pe_WS := pe_w3 (List.mem_of_getElem? (i := 150) (by decide +kernel))
theorem q_AB_39 : Cond.constant "java/lang/AbstractStringBuilder" 39 (2147483647) ∈ pe_WS := pe_w3 (List.mem_of_getElem? (i := 179) (by decide +kernel))
theorem c_A_304 : Cond.methodLink "java/util/Arrays" 304 Lib.Math.min.name ∈ pe_WS := pe_w3 (List.mem_of_getElem? (i := 190) (by decide +kernel))
theorem c_A_150 : Cond.methodLink "java/util/Arrays" 150 arraycopyName ∈ pe_WS := pe_w3 (List.mem_of_getElem? (i := 191) (by decide +kernel))
theorem c_AB_138 : Cond.methodLink "java/lang/AbstractStringBuilder" 138 Lib.Math.min.name ∈ pe_WS := pe_w4 (List.mem_of_getElem? (i := 77) (by decide +kernel))
theorem c_Q_55 : Cond.methodLink "PaintEditor$Painter" 55 Lib.Math.max.name ∈ pe_WS := pe_w4 (List.mem_of_getElem? (i := 136) (by decide +kernel))
theorem c_Z_40 : Cond.methodLink "PaintEditor$Terminal" 40 Lib.Math.min.name ∈ pe_WS := pe_w4 (List.mem_of_getElem? (i := 172) (by decide +kernel))
theorem q_M_215 : Cond.constantLong "PaintEditorModel" 215 (255) ∈ pe_WS := pe_w5 (List.mem_of_getElem? (i := 125) (by decide +kernel))
theorem q_M_196 : Cond.constant "PaintEditorModel" 196 (65533) ∈ pe_WS := pe_w5 (List.mem_of_getElem? (i := 134) (by decide +kernel))
theorem q_M_84 : Cond.constant "PaintEditorModel" 84 (55203) ∈ pe_WS := pe_w5 (List.mem_of_getElem? (i := 225) (by decide +kernel))
theorem q_M_85 : Cond.constant "PaintEditorModel" 85 (65281) ∈ pe_WS := pe_w5 (List.mem_of_getElem? (i := 226) (by decide +kernel))
theorem q_M_86 : Cond.constant "PaintEditorModel" 86 (65376) ∈ pe_WS := pe_w5 (List.mem_of_getElem? (i := 227) (by decide +kernel))
theorem q_M_220 : Cond.constant "PaintEditorModel" 220 (65536) ∈ pe_WS := pe_w6 (List.mem_of_getElem? (i := 28) (by decide +kernel))
theorem q_M_221 : Cond.constant "PaintEditorModel" 221 (8388608) ∈ pe_WS := pe_w6 (List.mem_of_getElem? (i := 29) (by decide +kernel))
theorem q_M_256 : Cond.constant "PaintEditorModel" 256 (65535) ∈ pe_WS := pe_w6 (List.mem_of_getElem? (i := 70) (by decide +kernel))
