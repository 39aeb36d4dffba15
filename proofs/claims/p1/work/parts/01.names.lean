/-! names, by program: the classes, the cells of the two objects, the words -/
def pe_T0 : u_T := fun k => match k with
  | 0 => ("PaintEditor", "keyboard", "LPaintEditor$Keyboard;", true)
  | 1 => ("PaintEditor", "editor", "LPaintEditor$Editor;", true)
  | 2 => ("PaintEditor", "screen", "LPaintEditor$Screen;", true)
  | _ => ("PaintEditor", "painter", "LPaintEditor$Painter;", true)
def pe_t0 : Nat → FieldType := fun k => match k with
  | 0 => .object "PaintEditor$Keyboard"
  | 1 => .object "PaintEditor$Editor"
  | 2 => .object "PaintEditor$Screen"
  | _ => .object "PaintEditor$Painter"
def pe_T1 : u_T := fun k => match k with
  | 0 => ("PaintEditor$Keyboard", "mode", "I", false)
  | 1 => ("PaintEditor$Keyboard", "number", "I", false)
  | 2 => ("PaintEditor$Keyboard", "code", "I", false)
  | 3 => ("PaintEditor$Keyboard", "bytesDue", "I", false)
  | 4 => ("PaintEditor$Keyboard", "leastNext", "I", false)
  | 5 => ("PaintEditor$Keyboard", "mostNext", "I", false)
  | _ => ("PaintEditor$Keyboard", "previous", "I", false)
def pe_t1 : Nat → FieldType := fun k => match k with
  | 0 => .int
  | 1 => .int
  | 2 => .int
  | 3 => .int
  | 4 => .int
  | 5 => .int
  | _ => .int
def pe_T2 : u_T := fun k => match k with
  | 0 => ("PaintEditor$Editor", "text", "LPaintEditor$Text;", true)
  | 1 => ("PaintEditor$Editor", "history", "LPaintEditor$History;", true)
  | 2 => ("PaintEditor$Editor", "layout", "LPaintEditor$Layout;", true)
  | 3 => ("PaintEditor$Editor", "clip", "[I", true)
  | 4 => ("PaintEditor$Editor", "single", "[I", true)
  | 5 => ("PaintEditor$Editor", "clipLength", "I", false)
  | 6 => ("PaintEditor$Editor", "columns", "I", false)
  | 7 => ("PaintEditor$Editor", "cursor", "I", false)
  | 8 => ("PaintEditor$Editor", "marked", "I", false)
  | 9 => ("PaintEditor$Editor", "goal", "I", false)
  | 10 => ("PaintEditor$Editor", "pasting", "Z", false)
  | _ => ("PaintEditor$Editor", "fullDrawingDue", "Z", false)
def pe_t2 : Nat → FieldType := fun k => match k with
  | 0 => .object "PaintEditor$Text"
  | 1 => .object "PaintEditor$History"
  | 2 => .object "PaintEditor$Layout"
  | 3 => .array .int
  | 4 => .array .int
  | 5 => .int
  | 6 => .int
  | 7 => .int
  | 8 => .int
  | 9 => .int
  | 10 => .boolean
  | _ => .boolean
def pe_T3 : u_T := fun k => match k with
  | 0 => ("PaintEditor$Text", "codes", "[I", true)
  | _ => ("PaintEditor$Text", "length", "I", false)
def pe_t3 : Nat → FieldType := fun k => match k with
  | 0 => .array .int
  | _ => .int
def pe_T4 : u_T := fun k => match k with
  | 0 => ("PaintEditor$History", "places", "[I", true)
  | 1 => ("PaintEditor$History", "counts", "[I", true)
  | 2 => ("PaintEditor$History", "cursors", "[I", true)
  | 3 => ("PaintEditor$History", "wentAway", "[Z", true)
  | 4 => ("PaintEditor$History", "gone", "[I", true)
  | 5 => ("PaintEditor$History", "earliest", "I", false)
  | _ => ("PaintEditor$History", "kept", "I", false)
def pe_t4 : Nat → FieldType := fun k => match k with
  | 0 => .array .int
  | 1 => .array .int
  | 2 => .array .int
  | 3 => .array .boolean
  | 4 => .array .int
  | 5 => .int
  | _ => .int
def pe_T5 : u_T := fun k => match k with
  | 0 => ("PaintEditor$Layout", "rowOf", "[I", true)
  | 1 => ("PaintEditor$Layout", "columnOf", "[I", true)
  | _ => ("PaintEditor$Layout", "widthOf", "[I", true)
def pe_t5 : Nat → FieldType := fun k => match k with
  | 0 => .array .int
  | 1 => .array .int
  | _ => .array .int
def pe_T6 : u_T := fun k => match k with
  | 0 => ("PaintEditor$Screen", "grid", "LPaintEditor$Grid;", true)
  | 1 => ("PaintEditor$Screen", "status", "Ljava/lang/StringBuilder;", true)
  | 2 => ("PaintEditor$Screen", "top", "I", false)
  | 3 => ("PaintEditor$Screen", "cursorRow", "I", false)
  | _ => ("PaintEditor$Screen", "cursorColumn", "I", false)
def pe_t6 : Nat → FieldType := fun k => match k with
  | 0 => .object "PaintEditor$Grid"
  | 1 => .object "java/lang/StringBuilder"
  | 2 => .int
  | 3 => .int
  | _ => .int
def pe_T7 : u_T := fun k => match k with
  | 0 => ("PaintEditor$Grid", "clusters", "[I", true)
  | 1 => ("PaintEditor$Grid", "looks", "[I", true)
  | 2 => ("PaintEditor$Grid", "columns", "I", false)
  | _ => ("PaintEditor$Grid", "rows", "I", false)
def pe_t7 : Nat → FieldType := fun k => match k with
  | 0 => .array .int
  | 1 => .array .int
  | 2 => .int
  | _ => .int
def pe_T8 : u_T := fun k => match k with
  | 0 => ("java/lang/AbstractStringBuilder", "value", "[B", false)
  | 1 => ("java/lang/AbstractStringBuilder", "coder", "B", false)
  | 2 => ("java/lang/AbstractStringBuilder", "maybeLatin1", "Z", false)
  | _ => ("java/lang/AbstractStringBuilder", "count", "I", false)
def pe_t8 : Nat → FieldType := fun k => match k with
  | 0 => .array .byte
  | 1 => .byte
  | 2 => .boolean
  | _ => .int
def pe_T9 : u_T := fun k => match k with
  | 0 => ("PaintEditor$Painter", "display", "LPaintEditor$Terminal;", true)
  | 1 => ("PaintEditor$Painter", "bytes", "[I", true)
  | _ => ("PaintEditor$Painter", "count", "I", false)
def pe_t9 : Nat → FieldType := fun k => match k with
  | 0 => .object "PaintEditor$Terminal"
  | 1 => .array .int
  | _ => .int
def pe_T10 : u_T := fun k => match k with
  | 0 => ("PaintEditor$Terminal", "grid", "LPaintEditor$Grid;", true)
  | 1 => ("PaintEditor$Terminal", "row", "I", false)
  | 2 => ("PaintEditor$Terminal", "column", "I", false)
  | 3 => ("PaintEditor$Terminal", "atMargin", "Z", false)
  | 4 => ("PaintEditor$Terminal", "writingLook", "I", false)
  | 5 => ("PaintEditor$Terminal", "writtenRow", "I", false)
  | 6 => ("PaintEditor$Terminal", "writtenColumn", "I", false)
  | _ => ("PaintEditor$Terminal", "markMayJoin", "Z", false)
def pe_t10 : Nat → FieldType := fun k => match k with
  | 0 => .object "PaintEditor$Grid"
  | 1 => .int
  | 2 => .int
  | 3 => .boolean
  | 4 => .int
  | 5 => .int
  | 6 => .int
  | _ => .boolean
def pe_T11 : u_T := fun k => match k with
  | 0 => ("PaintEditorModel", "text", "[I", false)
  | 1 => ("PaintEditorModel", "length", "I", false)
  | 2 => ("PaintEditorModel", "cursor", "I", false)
  | 3 => ("PaintEditorModel", "mark", "I", false)
  | 4 => ("PaintEditorModel", "clip", "[I", false)
  | 5 => ("PaintEditorModel", "clipLength", "I", false)
  | 6 => ("PaintEditorModel", "goal", "I", false)
  | 7 => ("PaintEditorModel", "changes", "I", false)
  | 8 => ("PaintEditorModel", "changedAt", "[I", false)
  | 9 => ("PaintEditorModel", "came", "[I", false)
  | 10 => ("PaintEditorModel", "went", "[I", false)
  | 11 => ("PaintEditorModel", "cursorBefore", "[I", false)
  | 12 => ("PaintEditorModel", "lost", "[I", false)
  | 13 => ("PaintEditorModel", "mode", "I", false)
  | 14 => ("PaintEditorModel", "number", "I", false)
  | 15 => ("PaintEditorModel", "pending", "I", false)
  | 16 => ("PaintEditorModel", "code", "I", false)
  | 17 => ("PaintEditorModel", "least", "I", false)
  | 18 => ("PaintEditorModel", "most", "I", false)
  | 19 => ("PaintEditorModel", "pasting", "Z", false)
  | 20 => ("PaintEditorModel", "lastByte", "I", false)
  | 21 => ("PaintEditorModel", "columns", "I", false)
  | 22 => ("PaintEditorModel", "rows", "I", false)
  | 23 => ("PaintEditorModel", "rowAt", "[I", false)
  | 24 => ("PaintEditorModel", "columnAt", "[I", false)
  | 25 => ("PaintEditorModel", "widthAt", "[I", false)
  | 26 => ("PaintEditorModel", "lastRow", "I", false)
  | 27 => ("PaintEditorModel", "top", "I", false)
  | 28 => ("PaintEditorModel", "due", "[I", false)
  | 29 => ("PaintEditorModel", "dueLook", "[I", false)
  | 30 => ("PaintEditorModel", "dueRow", "I", false)
  | 31 => ("PaintEditorModel", "dueColumn", "I", false)
  | 32 => ("PaintEditorModel", "shown", "[I", false)
  | 33 => ("PaintEditorModel", "shownLook", "[I", false)
  | 34 => ("PaintEditorModel", "spare", "[I", false)
  | 35 => ("PaintEditorModel", "spareLook", "[I", false)
  | 36 => ("PaintEditorModel", "row", "I", false)
  | 37 => ("PaintEditorModel", "column", "I", false)
  | 38 => ("PaintEditorModel", "margin", "Z", false)
  | 39 => ("PaintEditorModel", "look", "I", false)
  | 40 => ("PaintEditorModel", "lastCell", "I", false)
  | 41 => ("PaintEditorModel", "full", "Z", false)
  | 42 => ("PaintEditorModel", "bytes", "[I", false)
  | _ => ("PaintEditorModel", "sent", "I", false)
def pe_t11 : Nat → FieldType := fun k => match k with
  | 0 => .array .int
  | 1 => .int
  | 2 => .int
  | 3 => .int
  | 4 => .array .int
  | 5 => .int
  | 6 => .int
  | 7 => .int
  | 8 => .array .int
  | 9 => .array .int
  | 10 => .array .int
  | 11 => .array .int
  | 12 => .array .int
  | 13 => .int
  | 14 => .int
  | 15 => .int
  | 16 => .int
  | 17 => .int
  | 18 => .int
  | 19 => .boolean
  | 20 => .int
  | 21 => .int
  | 22 => .int
  | 23 => .array .int
  | 24 => .array .int
  | 25 => .array .int
  | 26 => .int
  | 27 => .int
  | 28 => .array .int
  | 29 => .array .int
  | 30 => .int
  | 31 => .int
  | 32 => .array .int
  | 33 => .array .int
  | 34 => .array .int
  | 35 => .array .int
  | 36 => .int
  | 37 => .int
  | 38 => .boolean
  | 39 => .int
  | 40 => .int
  | 41 => .boolean
  | 42 => .array .int
  | _ => .int
abbrev vwCl : List vw_C := [("PaintEditor", pe_T0, 4), ("PaintEditor$Keyboard", pe_T1, 7), ("PaintEditor$Editor", pe_T2, 12), ("PaintEditor$Text", pe_T3, 2), ("PaintEditor$History", pe_T4, 7), ("PaintEditor$Layout", pe_T5, 3), ("PaintEditor$Screen", pe_T6, 5), ("PaintEditor$Grid", pe_T7, 4), ("java/lang/StringBuilder", pe_T8, 4), ("PaintEditor$Painter", pe_T9, 3), ("PaintEditor$Terminal", pe_T10, 8), ("PaintEditorModel", pe_T11, 44)]
abbrev pe_E : Type := (FieldType × Nat) ⊕ (Nat × Nat)
abbrev pe_sh : List pe_E := [.inr (0, 4), .inr (1, 7), .inr (2, 12), .inr (3, 2), .inl (.int, 200), .inr (4, 7), .inl (.int, 12), .inl (.int, 12), .inl (.int, 12), .inl (.boolean, 12), .inl (.int, 2400), .inr (5, 3), .inl (.int, 201), .inl (.int, 201), .inl (.int, 201), .inl (.int, 200), .inl (.int, 1), .inr (6, 5), .inr (7, 4), .inl (.int, 192), .inl (.int, 192), .inr (8, 4), .inl (.byte, 16), .inr (9, 3), .inr (10, 8), .inr (7, 4), .inl (.int, 192), .inl (.int, 192), .inl (.int, 2048), .inr (11, 44), .inl (.int, 200), .inl (.int, 200), .inl (.int, 12), .inl (.int, 12), .inl (.int, 12), .inl (.int, 12), .inl (.int, 2400), .inl (.int, 201), .inl (.int, 201), .inl (.int, 201), .inl (.int, 192), .inl (.int, 192), .inl (.int, 192), .inl (.int, 192), .inl (.int, 192), .inl (.int, 192), .inl (.int, 6000)]
def pe_rt (a k : Nat) : Option Nat := match a with
  | 0 => match k with
    | 0 => some 1
    | 1 => some 2
    | 2 => some 17
    | 3 => some 23
    | _ => none
  | 2 => match k with
    | 0 => some 3
    | 1 => some 5
    | 2 => some 11
    | 3 => some 15
    | 4 => some 16
    | _ => none
  | 3 => match k with
    | 0 => some 4
    | _ => none
  | 5 => match k with
    | 0 => some 6
    | 1 => some 7
    | 2 => some 8
    | 3 => some 9
    | 4 => some 10
    | _ => none
  | 11 => match k with
    | 0 => some 12
    | 1 => some 13
    | 2 => some 14
    | _ => none
  | 17 => match k with
    | 0 => some 18
    | 1 => some 21
    | _ => none
  | 18 => match k with
    | 0 => some 19
    | 1 => some 20
    | _ => none
  | 21 => match k with
    | 0 => some 22
    | _ => none
  | 23 => match k with
    | 0 => some 24
    | 1 => some 28
    | _ => none
  | 24 => match k with
    | 0 => some 25
    | _ => none
  | 25 => match k with
    | 0 => some 26
    | 1 => some 27
    | _ => none
  | 29 => match k with
    | 0 => some 30
    | 4 => some 31
    | 8 => some 32
    | 9 => some 33
    | 10 => some 34
    | 11 => some 35
    | 12 => some 36
    | 23 => some 37
    | 24 => some 38
    | 25 => some 39
    | 28 => some 40
    | 29 => some 41
    | 32 => some 42
    | 33 => some 43
    | 34 => some 44
    | 35 => some 45
    | 42 => some 46
    | _ => none
  | _ => none
abbrev pe_En : MethodName := ⟨"java/lang/AbstractStringBuilder", "ensureCapacityInternal", "(I)V"⟩
abbrev pe_Il : MethodName := ⟨"java/lang/AbstractStringBuilder", "isLatin1", "()Z"⟩
/-- a word that the tables do not have, but that follows from them: a private method of the superclass -/
abbrev pe_xw : Cond := .selects "java/lang/StringBuilder" pe_En pe_En
def pe_WS : List Cond := (pe_xw :: lw_tbl).filter goodWord
theorem pe_wx : pe_xw ∈ pe_WS := List.mem_filter.mpr ⟨List.mem_cons_self, rfl⟩
theorem pe_WS_good : ∀ w ∈ pe_WS, (w.onTables && w.keeps) = true ∨ ∃ ty, w = .arrayClass ty := fun w h => good_of_word (List.mem_filter.mp h).2
theorem pe_w1 {w : Cond} (h : w ∈ tables_1_1) (g : goodWord w = true := by rfl) : w ∈ pe_WS := List.mem_filter.mpr ⟨List.mem_cons_of_mem _ (List.mem_append_right _ (by show w ∈ tables_1; exact List.mem_append_left _ h)), g⟩
theorem pe_w2 {w : Cond} (h : w ∈ tables_1_2) (g : goodWord w = true := by rfl) : w ∈ pe_WS := List.mem_filter.mpr ⟨List.mem_cons_of_mem _ (List.mem_append_right _ (by show w ∈ tables_1; exact List.mem_append_right _ (List.mem_append_left _ h))), g⟩
theorem pe_w3 {w : Cond} (h : w ∈ tables_1_3) (g : goodWord w = true := by rfl) : w ∈ pe_WS := List.mem_filter.mpr ⟨List.mem_cons_of_mem _ (List.mem_append_right _ (by show w ∈ tables_1; exact List.mem_append_right _ (List.mem_append_right _ (List.mem_append_left _ h)))), g⟩
theorem pe_w4 {w : Cond} (h : w ∈ tables_1_4) (g : goodWord w = true := by rfl) : w ∈ pe_WS := List.mem_filter.mpr ⟨List.mem_cons_of_mem _ (List.mem_append_right _ (by show w ∈ tables_1; exact List.mem_append_right _ (List.mem_append_right _ (List.mem_append_right _ (List.mem_append_left _ h))))), g⟩
theorem pe_w5 {w : Cond} (h : w ∈ tables_1_5) (g : goodWord w = true := by rfl) : w ∈ pe_WS := List.mem_filter.mpr ⟨List.mem_cons_of_mem _ (List.mem_append_right _ (by show w ∈ tables_1; exact List.mem_append_right _ (List.mem_append_right _ (List.mem_append_right _ (List.mem_append_right _ (List.mem_append_left _ h)))))), g⟩
theorem pe_w6 {w : Cond} (h : w ∈ tables_1_6) (g : goodWord w = true := by rfl) : w ∈ pe_WS := List.mem_filter.mpr ⟨List.mem_cons_of_mem _ (List.mem_append_right _ (by show w ∈ tables_1; exact List.mem_append_right _ (List.mem_append_right _ (List.mem_append_right _ (List.mem_append_right _ (List.mem_append_right _ (h))))))), g⟩
theorem pe_wp {q : MethodName × Nat} (h : q ∈ lw_privs) : Cond.selects q.1.cls q.1 q.1 ∈ pe_WS := List.mem_filter.mpr ⟨List.mem_cons_of_mem _ (List.mem_append_left _ (List.mem_map.mpr ⟨q, h, rfl⟩)), rfl⟩
