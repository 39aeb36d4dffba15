/-! the constructors, by program -/
theorem a_int : Cond.arrayClass .int ∈ pe_WS := pe_w1 (List.mem_of_getElem? (i := 89) (by decide +kernel))
theorem a_boolean : Cond.arrayClass .boolean ∈ pe_WS := pe_w1 (List.mem_of_getElem? (i := 120) (by decide +kernel))
theorem a_byte : Cond.arrayClass .byte ∈ pe_WS := pe_w1 (List.mem_of_getElem? (i := 229) (by decide +kernel))
theorem i_obj : Cond.instanceMethod Lib.objectInit ∈ pe_WS := (pe_w1 (List.mem_of_getElem? (i := 30) (by decide +kernel)))
theorem k_obj : Cond.code Lib.objectInit ⟨#[0xb1]⟩ 1 none ∈ pe_WS := pe_w1 (List.mem_of_getElem? (i := 31) (by decide +kernel))
theorem h_0_0 : pe_FF "PaintEditor" 0 0 (.object "PaintEditor$Keyboard") := ⟨"PaintEditor", pe_T0, 4, rfl, rfl, rfl, by decide +kernel⟩
theorem h_0_1 : pe_FF "PaintEditor" 0 1 (.object "PaintEditor$Editor") := ⟨"PaintEditor", pe_T0, 4, rfl, rfl, rfl, by decide +kernel⟩
theorem h_0_2 : pe_FF "PaintEditor" 0 2 (.object "PaintEditor$Screen") := ⟨"PaintEditor", pe_T0, 4, rfl, rfl, rfl, by decide +kernel⟩
theorem h_0_3 : pe_FF "PaintEditor" 0 3 (.object "PaintEditor$Painter") := ⟨"PaintEditor", pe_T0, 4, rfl, rfl, rfl, by decide +kernel⟩
theorem h_2_0 : pe_FF "PaintEditor$Editor" 2 0 (.object "PaintEditor$Text") := ⟨"PaintEditor$Editor", pe_T2, 12, rfl, rfl, rfl, by decide +kernel⟩
theorem h_2_1 : pe_FF "PaintEditor$Editor" 2 1 (.object "PaintEditor$History") := ⟨"PaintEditor$Editor", pe_T2, 12, rfl, rfl, rfl, by decide +kernel⟩
theorem h_2_2 : pe_FF "PaintEditor$Editor" 2 2 (.object "PaintEditor$Layout") := ⟨"PaintEditor$Editor", pe_T2, 12, rfl, rfl, rfl, by decide +kernel⟩
theorem h_2_3 : pe_FF "PaintEditor$Editor" 2 3 (.array .int) := ⟨"PaintEditor$Editor", pe_T2, 12, rfl, rfl, rfl, by decide +kernel⟩
theorem h_2_4 : pe_FF "PaintEditor$Editor" 2 4 (.array .int) := ⟨"PaintEditor$Editor", pe_T2, 12, rfl, rfl, rfl, by decide +kernel⟩
theorem h_3_0 : pe_FF "PaintEditor$Text" 3 0 (.array .int) := ⟨"PaintEditor$Text", pe_T3, 2, rfl, rfl, rfl, by decide +kernel⟩
theorem h_4_0 : pe_FF "PaintEditor$History" 4 0 (.array .int) := ⟨"PaintEditor$History", pe_T4, 7, rfl, rfl, rfl, by decide +kernel⟩
theorem h_4_1 : pe_FF "PaintEditor$History" 4 1 (.array .int) := ⟨"PaintEditor$History", pe_T4, 7, rfl, rfl, rfl, by decide +kernel⟩
theorem h_4_2 : pe_FF "PaintEditor$History" 4 2 (.array .int) := ⟨"PaintEditor$History", pe_T4, 7, rfl, rfl, rfl, by decide +kernel⟩
theorem h_4_3 : pe_FF "PaintEditor$History" 4 3 (.array .boolean) := ⟨"PaintEditor$History", pe_T4, 7, rfl, rfl, rfl, by decide +kernel⟩
theorem h_4_4 : pe_FF "PaintEditor$History" 4 4 (.array .int) := ⟨"PaintEditor$History", pe_T4, 7, rfl, rfl, rfl, by decide +kernel⟩
theorem h_5_0 : pe_FF "PaintEditor$Layout" 5 0 (.array .int) := ⟨"PaintEditor$Layout", pe_T5, 3, rfl, rfl, rfl, by decide +kernel⟩
theorem h_5_1 : pe_FF "PaintEditor$Layout" 5 1 (.array .int) := ⟨"PaintEditor$Layout", pe_T5, 3, rfl, rfl, rfl, by decide +kernel⟩
theorem h_5_2 : pe_FF "PaintEditor$Layout" 5 2 (.array .int) := ⟨"PaintEditor$Layout", pe_T5, 3, rfl, rfl, rfl, by decide +kernel⟩
theorem h_6_0 : pe_FF "PaintEditor$Screen" 6 0 (.object "PaintEditor$Grid") := ⟨"PaintEditor$Screen", pe_T6, 5, rfl, rfl, rfl, by decide +kernel⟩
theorem h_6_1 : pe_FF "PaintEditor$Screen" 6 1 (.object "java/lang/StringBuilder") := ⟨"PaintEditor$Screen", pe_T6, 5, rfl, rfl, rfl, by decide +kernel⟩
theorem h_7_0 : pe_FF "PaintEditor$Grid" 7 0 (.array .int) := ⟨"PaintEditor$Grid", pe_T7, 4, rfl, rfl, rfl, by decide +kernel⟩
theorem h_7_1 : pe_FF "PaintEditor$Grid" 7 1 (.array .int) := ⟨"PaintEditor$Grid", pe_T7, 4, rfl, rfl, rfl, by decide +kernel⟩
theorem g_8_0 : pe_FP 8 0 (.array .byte) := ⟨"java/lang/StringBuilder", pe_T8, 4, rfl, rfl, by decide +kernel⟩
theorem h_9_0 : pe_FF "PaintEditor$Painter" 9 0 (.object "PaintEditor$Terminal") := ⟨"PaintEditor$Painter", pe_T9, 3, rfl, rfl, rfl, by decide +kernel⟩
theorem h_9_1 : pe_FF "PaintEditor$Painter" 9 1 (.array .int) := ⟨"PaintEditor$Painter", pe_T9, 3, rfl, rfl, rfl, by decide +kernel⟩
theorem h_10_0 : pe_FF "PaintEditor$Terminal" 10 0 (.object "PaintEditor$Grid") := ⟨"PaintEditor$Terminal", pe_T10, 8, rfl, rfl, rfl, by decide +kernel⟩
theorem g_11_0 : pe_FP 11 0 (.array .int) := ⟨"PaintEditorModel", pe_T11, 44, rfl, rfl, by decide +kernel⟩
theorem g_11_4 : pe_FP 11 4 (.array .int) := ⟨"PaintEditorModel", pe_T11, 44, rfl, rfl, by decide +kernel⟩
theorem g_11_8 : pe_FP 11 8 (.array .int) := ⟨"PaintEditorModel", pe_T11, 44, rfl, rfl, by decide +kernel⟩
theorem g_11_9 : pe_FP 11 9 (.array .int) := ⟨"PaintEditorModel", pe_T11, 44, rfl, rfl, by decide +kernel⟩
theorem g_11_10 : pe_FP 11 10 (.array .int) := ⟨"PaintEditorModel", pe_T11, 44, rfl, rfl, by decide +kernel⟩
theorem g_11_11 : pe_FP 11 11 (.array .int) := ⟨"PaintEditorModel", pe_T11, 44, rfl, rfl, by decide +kernel⟩
theorem g_11_12 : pe_FP 11 12 (.array .int) := ⟨"PaintEditorModel", pe_T11, 44, rfl, rfl, by decide +kernel⟩
theorem g_11_23 : pe_FP 11 23 (.array .int) := ⟨"PaintEditorModel", pe_T11, 44, rfl, rfl, by decide +kernel⟩
theorem g_11_24 : pe_FP 11 24 (.array .int) := ⟨"PaintEditorModel", pe_T11, 44, rfl, rfl, by decide +kernel⟩
theorem g_11_25 : pe_FP 11 25 (.array .int) := ⟨"PaintEditorModel", pe_T11, 44, rfl, rfl, by decide +kernel⟩
theorem g_11_28 : pe_FP 11 28 (.array .int) := ⟨"PaintEditorModel", pe_T11, 44, rfl, rfl, by decide +kernel⟩
theorem g_11_29 : pe_FP 11 29 (.array .int) := ⟨"PaintEditorModel", pe_T11, 44, rfl, rfl, by decide +kernel⟩
theorem g_11_32 : pe_FP 11 32 (.array .int) := ⟨"PaintEditorModel", pe_T11, 44, rfl, rfl, by decide +kernel⟩
theorem g_11_33 : pe_FP 11 33 (.array .int) := ⟨"PaintEditorModel", pe_T11, 44, rfl, rfl, by decide +kernel⟩
theorem g_11_34 : pe_FP 11 34 (.array .int) := ⟨"PaintEditorModel", pe_T11, 44, rfl, rfl, by decide +kernel⟩
theorem g_11_35 : pe_FP 11 35 (.array .int) := ⟨"PaintEditorModel", pe_T11, 44, rfl, rfl, by decide +kernel⟩
theorem g_11_42 : pe_FP 11 42 (.array .int) := ⟨"PaintEditorModel", pe_T11, 44, rfl, rfl, by decide +kernel⟩
theorem n_fill {D : va_G} {cA : FieldType → ClassId} (a n : Nat) (v : Int32) (f : Nat → Int32) (hn : n < 2147483648) : pn_C m_A_fill 0 0 [.ref a, .int v] [(a, .inl (cA .int, n, .inl f))] D cA (fun w1 => ∃ g : Nat → Int32, (∀ j : Nat, j < n → g j = v) ∧ w1 = [(a, .inl (cA .int, n, .inl g))]) := by
  refine pn_enter (by decide) (Nat.le_of_ble_eq_true rfl) ?_
  intro l p e s m below meth c A X hr hlocks hname
  refine pn_lv (lv' := [(0, .ref a), (1, .int v)]) [0, 1] rfl ?_
  refine pn_iconst X d_A_fill_0 ?_
  refine pn_istore_n (lv' := [(2, .int (Int32.ofInt 0)), (0, .ref a), (1, .int v)]) X d_A_fill_1 rfl rfl ?_
  refine pn_aload_n X d_A_fill_2 rfl 1 rfl ?_
  refine pn_alen X d_A_fill_3 0 rfl ?_
  refine pn_istore_n (lv' := [(3, .int (Int32.ofInt (n : Int))), (2, .int (Int32.ofInt 0)), (0, .ref a), (1, .int v)]) X d_A_fill_4 rfl rfl ?_
  refine pn_lv (lv' := [(2, .int (Int32.ofInt 0)), (3, .int (Int32.ofInt (n : Int))), (0, .ref a), (1, .int v)]) [1, 0, 2, 3] rfl ?_
  have J : ∀ x : Int × (Nat → Int32), ((0 ≤ x.1 ∧ x.1 ≤ n) ∧ ∀ j : Nat, (j : Int) < x.1 → x.2 j = v) → pn_G 4 D A p l e (headSpec (pe_ws m_A_fill) (pn_rm m_A_fill 0 0)).room s m [.ref a, .int v].toArray below meth c (MQ below (pn_Q D A (fun w1 => ∃ g : Nat → Int32, (∀ j : Nat, j < n → g j = v) ∧ w1 = [(a, .inl (cA .int, n, .inl g))])) [.ref a, .int v].toArray s 0 0 A) 5 [(2, .int (Int32.ofInt x.1)), (3, .int (Int32.ofInt (n : Int))), (0, .ref a), (1, .int v)] [] [(a, .inl (cA .int, n, .inl x.2))] 0 0 := by
    refine pe_loop (fun x : Int × (Nat → Int32) => ((n : Int) - x.1).toNat) _ _ ?_
    rintro ⟨i, g⟩ hI ih
    dsimp only at hI ih ⊢
    refine pn_iload_n X d_A_fill_5 rfl 0 rfl ?_
    refine pn_iload_n X d_A_fill_6 rfl 1 rfl ?_
    refine pn_icmp_ge (t := 20) X d_A_fill_7 ⟨by omega, by omega⟩ ⟨by omega, by omega⟩ (fun h => ?_) (fun h => ?_)
    · exact pn_ret X hr hlocks d_A_fill_20 ⟨g, fun j hj => hI.2 j (by omega), rfl⟩
    · refine pn_aload_n X d_A_fill_10 rfl 2 rfl ?_
      refine pn_iload_n X d_A_fill_11 rfl 0 rfl ?_
      refine pn_iload_n X d_A_fill_12 rfl 3 rfl ?_
      refine pn_iast X d_A_fill_13 0 rfl (by omega) (by omega) hn ?_
      refine pn_iinc (lv' := [(2, .int (Int32.ofInt (i + 1))), (3, .int (Int32.ofInt (n : Int))), (0, .ref a), (1, .int v)]) X d_A_fill_14 0 rfl rfl ?_
      refine pn_goto (t := 5) X d_A_fill_17 ?_
      refine ih (i + 1, upd g (Int32.ofInt i).toNatClampNeg v) ⟨by dsimp only; omega, fun j hj => ?_⟩ (by dsimp only; omega)
      dsimp only at hj ⊢
      rw [pe_clamp hI.1.1 (by omega)]
      unfold upd
      by_cases e1 : j = i.toNat
      · rw [if_pos e1]
      · rw [if_neg e1]; exact hI.2 j (by omega)
  exact J (0, f) ⟨⟨by simp, by simp⟩, fun j hj => by dsimp only at hj; omega⟩
abbrev m_K_init : pe_Y := (⟨"PaintEditor$Keyboard", "<init>", "()V"⟩, prog_6_method_1_code, 1, (Option.none : Option FieldType), 1, 20)
theorem d_K_init_0 : decode prog_6_method_1_code 0 = .ok (.aload_n 0, 1) := by decide +kernel
theorem d_K_init_1 : decode prog_6_method_1_code 1 = .ok (.invokespecial 3, 3) := by decide +kernel
theorem d_K_init_4 : decode prog_6_method_1_code 4 = .ok (.aload_n 0, 1) := by decide +kernel
theorem d_K_init_5 : decode prog_6_method_1_code 5 = .ok (.iconst 0, 1) := by decide +kernel
theorem d_K_init_6 : decode prog_6_method_1_code 6 = .ok (.putfield 11, 3) := by decide +kernel
theorem d_K_init_9 : decode prog_6_method_1_code 9 = .ok (.aload_n 0, 1) := by decide +kernel
theorem d_K_init_10 : decode prog_6_method_1_code 10 = .ok (.iconst (-1), 1) := by decide +kernel
theorem d_K_init_11 : decode prog_6_method_1_code 11 = .ok (.putfield 15, 3) := by decide +kernel
theorem d_K_init_14 : decode prog_6_method_1_code 14 = .ok (.return_, 1) := by decide +kernel
theorem k_K_init : Cond.code m_K_init.1 m_K_init.2.1 m_K_init.2.2.1 m_K_init.2.2.2.1 ∈ pe_WS := pe_w1 (List.mem_of_getElem? (i := 42) rfl)
theorem i_K_init : Cond.instanceMethod m_K_init.1 ∈ pe_WS := (pe_w1 (List.mem_of_getElem? (i := 41) (by decide +kernel)))
def B_K_init (cA : FieldType → ClassId) (h0 : Nat) (w1 : va_W) : Prop := w1 = [(h0, .inr (1, [.int (Int32.ofInt (0)), .int 0, .int 0, .int 0, .int 0, .int 0, .int (Int32.ofInt (-1))]))]
set_option maxRecDepth 100000 in
set_option maxHeartbeats 4000000 in
theorem n_K_init {D : va_G} {cA : FieldType → ClassId} (h0 : Nat) : pn_C m_K_init 0 0 [.ref h0] [(h0, .inr (1, [.int 0, .int 0, .int 0, .int 0, .int 0, .int 0, .int 0]))] D cA (B_K_init cA h0) := by
  refine pn_enter (by decide) (Nat.le_of_ble_eq_true rfl) ?_
  intro l p e s m below meth c0 A X hr hlocks hname
  refine pn_lv (lv' := [(0, .ref h0)]) [0] rfl ?_
  refine pn_aload_n X d_K_init_0 rfl 0 rfl ?_
  refine pn_objInit X d_K_init_1 (pe_w1 (List.mem_of_getElem? (i := 43) (by decide +kernel))) i_obj k_obj (Nat.le_of_ble_eq_true rfl) (Nat.le_of_ble_eq_true rfl) ?_
  refine pn_aload_n X d_K_init_4 rfl 0 rfl ?_
  refine pn_iconst X d_K_init_5 ?_
  refine pn_put X f_K_11 g_1_0 d_K_init_6 0 rfl (by first | rfl | decide) (by first | rfl | decide) (Nat.le_of_ble_eq_true rfl) ?_
  refine pn_w (w' := [(h0, .inr (1, [.int (Int32.ofInt (0)), .int 0, .int 0, .int 0, .int 0, .int 0, .int 0]))]) rfl ?_
  refine pn_aload_n X d_K_init_9 rfl 0 rfl ?_
  refine pn_iconst X d_K_init_10 ?_
  refine pn_put X f_K_15 g_1_6 d_K_init_11 0 rfl (by first | rfl | decide) (by first | rfl | decide) (Nat.le_of_ble_eq_true rfl) ?_
  refine pn_w (w' := [(h0, .inr (1, [.int (Int32.ofInt (0)), .int 0, .int 0, .int 0, .int 0, .int 0, .int (Int32.ofInt (-1))]))]) rfl ?_
  exact pn_ret X hr hlocks d_K_init_14 rfl
abbrev m_T_init : pe_Y := (⟨"PaintEditor$Text", "<init>", "()V"⟩, prog_11_method_1_code, 1, (Option.none : Option FieldType), 1, 20)
theorem d_T_init_0 : decode prog_11_method_1_code 0 = .ok (.aload_n 0, 1) := by decide +kernel
theorem d_T_init_1 : decode prog_11_method_1_code 1 = .ok (.invokespecial 3, 3) := by decide +kernel
theorem d_T_init_4 : decode prog_11_method_1_code 4 = .ok (.aload_n 0, 1) := by decide +kernel
theorem d_T_init_5 : decode prog_11_method_1_code 5 = .ok (.sipush 200, 3) := by decide +kernel
theorem d_T_init_8 : decode prog_11_method_1_code 8 = .ok (.newarray .int, 2) := by decide +kernel
theorem d_T_init_10 : decode prog_11_method_1_code 10 = .ok (.putfield 9, 3) := by decide +kernel
theorem d_T_init_13 : decode prog_11_method_1_code 13 = .ok (.return_, 1) := by decide +kernel
theorem k_T_init : Cond.code m_T_init.1 m_T_init.2.1 m_T_init.2.2.1 m_T_init.2.2.2.1 ∈ pe_WS := pe_w1 (List.mem_of_getElem? (i := 77) rfl)
theorem i_T_init : Cond.instanceMethod m_T_init.1 ∈ pe_WS := (pe_w1 (List.mem_of_getElem? (i := 76) (by decide +kernel)))
def B_T_init (cA : FieldType → ClassId) (h0 : Nat) (w1 : va_W) : Prop := ∃ (q8 : Nat), w1 = [(h0, .inr (3, [.ref q8, .int 0])), (q8, .inl (cA .int, 200, .inl (fun _ => 0)))]
set_option maxRecDepth 100000 in
set_option maxHeartbeats 4000000 in
theorem n_T_init {D : va_G} {cA : FieldType → ClassId} (h0 : Nat) : pn_C m_T_init 1 200 [.ref h0] [(h0, .inr (3, [.null, .int 0]))] D cA (B_T_init cA h0) := by
  refine pn_enter (by decide) (Nat.le_of_ble_eq_true rfl) ?_
  intro l p e s m below meth c0 A X hr hlocks hname
  refine pn_lv (lv' := [(0, .ref h0)]) [0] rfl ?_
  refine pn_aload_n X d_T_init_0 rfl 0 rfl ?_
  refine pn_objInit X d_T_init_1 (pe_w1 (List.mem_of_getElem? (i := 78) (by decide +kernel))) i_obj k_obj (Nat.le_of_ble_eq_true rfl) (Nat.le_of_ble_eq_true rfl) ?_
  refine pn_aload_n X d_T_init_4 rfl 0 rfl ?_
  refine pn_sipush X d_T_init_5 ?_
  refine pn_newa (N := 200) (ty := .int) X d_T_init_8 a_int rfl (by exact Or.inl rfl) (by decide) (by decide +kernel) (by decide) (Nat.le_of_ble_eq_true rfl) (Nat.le_of_ble_eq_true rfl) (fun q8 => ?_)
  refine pn_w (w' := [(h0, .inr (3, [.null, .int 0])), (q8, .inl (cA .int, 200, .inl (fun _ => 0)))]) rfl ?_
  refine pn_putF X f_T_9 h_3_0 hname d_T_init_10 0 rfl (by first | rfl | decide) (by first | rfl | decide) (Nat.le_of_ble_eq_true rfl) ?_
  refine pn_w (w' := [(h0, .inr (3, [.ref q8, .int 0])), (q8, .inl (cA .int, 200, .inl (fun _ => 0)))]) rfl ?_
  exact pn_ret X hr hlocks d_T_init_13 ⟨q8, rfl⟩
abbrev m_H_init : pe_Y := (⟨"PaintEditor$History", "<init>", "()V"⟩, prog_5_method_1_code, 1, (Option.none : Option FieldType), 1, 20)
theorem d_H_init_0 : decode prog_5_method_1_code 0 = .ok (.aload_n 0, 1) := by decide +kernel
theorem d_H_init_1 : decode prog_5_method_1_code 1 = .ok (.invokespecial 3, 3) := by decide +kernel
theorem d_H_init_4 : decode prog_5_method_1_code 4 = .ok (.aload_n 0, 1) := by decide +kernel
theorem d_H_init_5 : decode prog_5_method_1_code 5 = .ok (.bipush 12, 2) := by decide +kernel
theorem d_H_init_7 : decode prog_5_method_1_code 7 = .ok (.newarray .int, 2) := by decide +kernel
theorem d_H_init_9 : decode prog_5_method_1_code 9 = .ok (.putfield 9, 3) := by decide +kernel
theorem d_H_init_12 : decode prog_5_method_1_code 12 = .ok (.aload_n 0, 1) := by decide +kernel
theorem d_H_init_13 : decode prog_5_method_1_code 13 = .ok (.bipush 12, 2) := by decide +kernel
theorem d_H_init_15 : decode prog_5_method_1_code 15 = .ok (.newarray .int, 2) := by decide +kernel
theorem d_H_init_17 : decode prog_5_method_1_code 17 = .ok (.putfield 15, 3) := by decide +kernel
theorem d_H_init_20 : decode prog_5_method_1_code 20 = .ok (.aload_n 0, 1) := by decide +kernel
theorem d_H_init_21 : decode prog_5_method_1_code 21 = .ok (.bipush 12, 2) := by decide +kernel
theorem d_H_init_23 : decode prog_5_method_1_code 23 = .ok (.newarray .int, 2) := by decide +kernel
theorem d_H_init_25 : decode prog_5_method_1_code 25 = .ok (.putfield 18, 3) := by decide +kernel
theorem d_H_init_28 : decode prog_5_method_1_code 28 = .ok (.aload_n 0, 1) := by decide +kernel
theorem d_H_init_29 : decode prog_5_method_1_code 29 = .ok (.bipush 12, 2) := by decide +kernel
theorem d_H_init_31 : decode prog_5_method_1_code 31 = .ok (.newarray .boolean, 2) := by decide +kernel
theorem d_H_init_33 : decode prog_5_method_1_code 33 = .ok (.putfield 21, 3) := by decide +kernel
theorem d_H_init_36 : decode prog_5_method_1_code 36 = .ok (.aload_n 0, 1) := by decide +kernel
theorem d_H_init_37 : decode prog_5_method_1_code 37 = .ok (.sipush 2400, 3) := by decide +kernel
theorem d_H_init_40 : decode prog_5_method_1_code 40 = .ok (.newarray .int, 2) := by decide +kernel
theorem d_H_init_42 : decode prog_5_method_1_code 42 = .ok (.putfield 25, 3) := by decide +kernel
theorem d_H_init_45 : decode prog_5_method_1_code 45 = .ok (.return_, 1) := by decide +kernel
theorem k_H_init : Cond.code m_H_init.1 m_H_init.2.1 m_H_init.2.2.1 m_H_init.2.2.2.1 ∈ pe_WS := pe_w1 (List.mem_of_getElem? (i := 94) rfl)
theorem i_H_init : Cond.instanceMethod m_H_init.1 ∈ pe_WS := (pe_w1 (List.mem_of_getElem? (i := 93) (by decide +kernel)))
def B_H_init (cA : FieldType → ClassId) (h0 : Nat) (w1 : va_W) : Prop := ∃ (q7 q15 q23 q31 q40 : Nat), w1 = [(h0, .inr (4, [.ref q7, .ref q15, .ref q23, .ref q31, .ref q40, .int 0, .int 0])), (q7, .inl (cA .int, 12, .inl (fun _ => 0))), (q15, .inl (cA .int, 12, .inl (fun _ => 0))), (q23, .inl (cA .int, 12, .inl (fun _ => 0))), (q31, .inl (cA .boolean, 12, .inl (fun _ => 0))), (q40, .inl (cA .int, 2400, .inl (fun _ => 0)))]
set_option maxRecDepth 100000 in
set_option maxHeartbeats 4000000 in
theorem n_H_init {D : va_G} {cA : FieldType → ClassId} (h0 : Nat) : pn_C m_H_init 5 2448 [.ref h0] [(h0, .inr (4, [.null, .null, .null, .null, .null, .int 0, .int 0]))] D cA (B_H_init cA h0) := by
  refine pn_enter (by decide) (Nat.le_of_ble_eq_true rfl) ?_
  intro l p e s m below meth c0 A X hr hlocks hname
  refine pn_lv (lv' := [(0, .ref h0)]) [0] rfl ?_
  refine pn_aload_n X d_H_init_0 rfl 0 rfl ?_
  refine pn_objInit X d_H_init_1 (pe_w1 (List.mem_of_getElem? (i := 95) (by decide +kernel))) i_obj k_obj (Nat.le_of_ble_eq_true rfl) (Nat.le_of_ble_eq_true rfl) ?_
  refine pn_aload_n X d_H_init_4 rfl 0 rfl ?_
  refine pn_bipush X d_H_init_5 ?_
  refine pn_newa (N := 12) (ty := .int) X d_H_init_7 a_int rfl (by exact Or.inl rfl) (by decide) (by decide +kernel) (by decide) (Nat.le_of_ble_eq_true rfl) (Nat.le_of_ble_eq_true rfl) (fun q7 => ?_)
  refine pn_w (w' := [(h0, .inr (4, [.null, .null, .null, .null, .null, .int 0, .int 0])), (q7, .inl (cA .int, 12, .inl (fun _ => 0)))]) rfl ?_
  refine pn_putF X f_H_9 h_4_0 hname d_H_init_9 0 rfl (by first | rfl | decide) (by first | rfl | decide) (Nat.le_of_ble_eq_true rfl) ?_
  refine pn_w (w' := [(h0, .inr (4, [.ref q7, .null, .null, .null, .null, .int 0, .int 0])), (q7, .inl (cA .int, 12, .inl (fun _ => 0)))]) rfl ?_
  refine pn_aload_n X d_H_init_12 rfl 0 rfl ?_
  refine pn_bipush X d_H_init_13 ?_
  refine pn_newa (N := 12) (ty := .int) X d_H_init_15 a_int rfl (by exact Or.inl rfl) (by decide) (by decide +kernel) (by decide) (Nat.le_of_ble_eq_true rfl) (Nat.le_of_ble_eq_true rfl) (fun q15 => ?_)
  refine pn_w (w' := [(h0, .inr (4, [.ref q7, .null, .null, .null, .null, .int 0, .int 0])), (q7, .inl (cA .int, 12, .inl (fun _ => 0))), (q15, .inl (cA .int, 12, .inl (fun _ => 0)))]) rfl ?_
  refine pn_putF X f_H_15 h_4_1 hname d_H_init_17 0 rfl (by first | rfl | decide) (by first | rfl | decide) (Nat.le_of_ble_eq_true rfl) ?_
  refine pn_w (w' := [(h0, .inr (4, [.ref q7, .ref q15, .null, .null, .null, .int 0, .int 0])), (q7, .inl (cA .int, 12, .inl (fun _ => 0))), (q15, .inl (cA .int, 12, .inl (fun _ => 0)))]) rfl ?_
  refine pn_aload_n X d_H_init_20 rfl 0 rfl ?_
  refine pn_bipush X d_H_init_21 ?_
  refine pn_newa (N := 12) (ty := .int) X d_H_init_23 a_int rfl (by exact Or.inl rfl) (by decide) (by decide +kernel) (by decide) (Nat.le_of_ble_eq_true rfl) (Nat.le_of_ble_eq_true rfl) (fun q23 => ?_)
  refine pn_w (w' := [(h0, .inr (4, [.ref q7, .ref q15, .null, .null, .null, .int 0, .int 0])), (q7, .inl (cA .int, 12, .inl (fun _ => 0))), (q15, .inl (cA .int, 12, .inl (fun _ => 0))), (q23, .inl (cA .int, 12, .inl (fun _ => 0)))]) rfl ?_
  refine pn_putF X f_H_18 h_4_2 hname d_H_init_25 0 rfl (by first | rfl | decide) (by first | rfl | decide) (Nat.le_of_ble_eq_true rfl) ?_
  refine pn_w (w' := [(h0, .inr (4, [.ref q7, .ref q15, .ref q23, .null, .null, .int 0, .int 0])), (q7, .inl (cA .int, 12, .inl (fun _ => 0))), (q15, .inl (cA .int, 12, .inl (fun _ => 0))), (q23, .inl (cA .int, 12, .inl (fun _ => 0)))]) rfl ?_
  refine pn_aload_n X d_H_init_28 rfl 0 rfl ?_
  refine pn_bipush X d_H_init_29 ?_
  refine pn_newa (N := 12) (ty := .boolean) X d_H_init_31 a_boolean rfl (by exact Or.inr (Or.inl rfl)) (by decide) (by decide +kernel) (by decide) (Nat.le_of_ble_eq_true rfl) (Nat.le_of_ble_eq_true rfl) (fun q31 => ?_)
  refine pn_w (w' := [(h0, .inr (4, [.ref q7, .ref q15, .ref q23, .null, .null, .int 0, .int 0])), (q7, .inl (cA .int, 12, .inl (fun _ => 0))), (q15, .inl (cA .int, 12, .inl (fun _ => 0))), (q23, .inl (cA .int, 12, .inl (fun _ => 0))), (q31, .inl (cA .boolean, 12, .inl (fun _ => 0)))]) rfl ?_
  refine pn_putF X f_H_21 h_4_3 hname d_H_init_33 0 rfl (by first | rfl | decide) (by first | rfl | decide) (Nat.le_of_ble_eq_true rfl) ?_
  refine pn_w (w' := [(h0, .inr (4, [.ref q7, .ref q15, .ref q23, .ref q31, .null, .int 0, .int 0])), (q7, .inl (cA .int, 12, .inl (fun _ => 0))), (q15, .inl (cA .int, 12, .inl (fun _ => 0))), (q23, .inl (cA .int, 12, .inl (fun _ => 0))), (q31, .inl (cA .boolean, 12, .inl (fun _ => 0)))]) rfl ?_
  refine pn_aload_n X d_H_init_36 rfl 0 rfl ?_
  refine pn_sipush X d_H_init_37 ?_
  refine pn_newa (N := 2400) (ty := .int) X d_H_init_40 a_int rfl (by exact Or.inl rfl) (by decide) (by decide +kernel) (by decide) (Nat.le_of_ble_eq_true rfl) (Nat.le_of_ble_eq_true rfl) (fun q40 => ?_)
  refine pn_w (w' := [(h0, .inr (4, [.ref q7, .ref q15, .ref q23, .ref q31, .null, .int 0, .int 0])), (q7, .inl (cA .int, 12, .inl (fun _ => 0))), (q15, .inl (cA .int, 12, .inl (fun _ => 0))), (q23, .inl (cA .int, 12, .inl (fun _ => 0))), (q31, .inl (cA .boolean, 12, .inl (fun _ => 0))), (q40, .inl (cA .int, 2400, .inl (fun _ => 0)))]) rfl ?_
  refine pn_putF X f_H_25 h_4_4 hname d_H_init_42 0 rfl (by first | rfl | decide) (by first | rfl | decide) (Nat.le_of_ble_eq_true rfl) ?_
  refine pn_w (w' := [(h0, .inr (4, [.ref q7, .ref q15, .ref q23, .ref q31, .ref q40, .int 0, .int 0])), (q7, .inl (cA .int, 12, .inl (fun _ => 0))), (q15, .inl (cA .int, 12, .inl (fun _ => 0))), (q23, .inl (cA .int, 12, .inl (fun _ => 0))), (q31, .inl (cA .boolean, 12, .inl (fun _ => 0))), (q40, .inl (cA .int, 2400, .inl (fun _ => 0)))]) rfl ?_
  exact pn_ret X hr hlocks d_H_init_45 ⟨q7, q15, q23, q31, q40, rfl⟩
abbrev m_L_init : pe_Y := (⟨"PaintEditor$Layout", "<init>", "()V"⟩, prog_7_method_1_code, 1, (Option.none : Option FieldType), 1, 20)
theorem d_L_init_0 : decode prog_7_method_1_code 0 = .ok (.aload_n 0, 1) := by decide +kernel
theorem d_L_init_1 : decode prog_7_method_1_code 1 = .ok (.invokespecial 3, 3) := by decide +kernel
theorem d_L_init_4 : decode prog_7_method_1_code 4 = .ok (.aload_n 0, 1) := by decide +kernel
theorem d_L_init_5 : decode prog_7_method_1_code 5 = .ok (.sipush 201, 3) := by decide +kernel
theorem d_L_init_8 : decode prog_7_method_1_code 8 = .ok (.newarray .int, 2) := by decide +kernel
theorem d_L_init_10 : decode prog_7_method_1_code 10 = .ok (.putfield 9, 3) := by decide +kernel
theorem d_L_init_13 : decode prog_7_method_1_code 13 = .ok (.aload_n 0, 1) := by decide +kernel
theorem d_L_init_14 : decode prog_7_method_1_code 14 = .ok (.sipush 201, 3) := by decide +kernel
theorem d_L_init_17 : decode prog_7_method_1_code 17 = .ok (.newarray .int, 2) := by decide +kernel
theorem d_L_init_19 : decode prog_7_method_1_code 19 = .ok (.putfield 15, 3) := by decide +kernel
theorem d_L_init_22 : decode prog_7_method_1_code 22 = .ok (.aload_n 0, 1) := by decide +kernel
theorem d_L_init_23 : decode prog_7_method_1_code 23 = .ok (.sipush 201, 3) := by decide +kernel
theorem d_L_init_26 : decode prog_7_method_1_code 26 = .ok (.newarray .int, 2) := by decide +kernel
theorem d_L_init_28 : decode prog_7_method_1_code 28 = .ok (.putfield 18, 3) := by decide +kernel
theorem d_L_init_31 : decode prog_7_method_1_code 31 = .ok (.return_, 1) := by decide +kernel
theorem k_L_init : Cond.code m_L_init.1 m_L_init.2.1 m_L_init.2.2.1 m_L_init.2.2.2.1 ∈ pe_WS := pe_w1 (List.mem_of_getElem? (i := 125) rfl)
theorem i_L_init : Cond.instanceMethod m_L_init.1 ∈ pe_WS := (pe_w1 (List.mem_of_getElem? (i := 124) (by decide +kernel)))
def B_L_init (cA : FieldType → ClassId) (h0 : Nat) (w1 : va_W) : Prop := ∃ (q8 q17 q26 : Nat), w1 = [(h0, .inr (5, [.ref q8, .ref q17, .ref q26])), (q8, .inl (cA .int, 201, .inl (fun _ => 0))), (q17, .inl (cA .int, 201, .inl (fun _ => 0))), (q26, .inl (cA .int, 201, .inl (fun _ => 0)))]
set_option maxRecDepth 100000 in
set_option maxHeartbeats 4000000 in
theorem n_L_init {D : va_G} {cA : FieldType → ClassId} (h0 : Nat) : pn_C m_L_init 3 603 [.ref h0] [(h0, .inr (5, [.null, .null, .null]))] D cA (B_L_init cA h0) := by
  refine pn_enter (by decide) (Nat.le_of_ble_eq_true rfl) ?_
  intro l p e s m below meth c0 A X hr hlocks hname
  refine pn_lv (lv' := [(0, .ref h0)]) [0] rfl ?_
  refine pn_aload_n X d_L_init_0 rfl 0 rfl ?_
  refine pn_objInit X d_L_init_1 (pe_w1 (List.mem_of_getElem? (i := 126) (by decide +kernel))) i_obj k_obj (Nat.le_of_ble_eq_true rfl) (Nat.le_of_ble_eq_true rfl) ?_
  refine pn_aload_n X d_L_init_4 rfl 0 rfl ?_
  refine pn_sipush X d_L_init_5 ?_
  refine pn_newa (N := 201) (ty := .int) X d_L_init_8 a_int rfl (by exact Or.inl rfl) (by decide) (by decide +kernel) (by decide) (Nat.le_of_ble_eq_true rfl) (Nat.le_of_ble_eq_true rfl) (fun q8 => ?_)
  refine pn_w (w' := [(h0, .inr (5, [.null, .null, .null])), (q8, .inl (cA .int, 201, .inl (fun _ => 0)))]) rfl ?_
  refine pn_putF X f_L_9 h_5_0 hname d_L_init_10 0 rfl (by first | rfl | decide) (by first | rfl | decide) (Nat.le_of_ble_eq_true rfl) ?_
  refine pn_w (w' := [(h0, .inr (5, [.ref q8, .null, .null])), (q8, .inl (cA .int, 201, .inl (fun _ => 0)))]) rfl ?_
  refine pn_aload_n X d_L_init_13 rfl 0 rfl ?_
  refine pn_sipush X d_L_init_14 ?_
  refine pn_newa (N := 201) (ty := .int) X d_L_init_17 a_int rfl (by exact Or.inl rfl) (by decide) (by decide +kernel) (by decide) (Nat.le_of_ble_eq_true rfl) (Nat.le_of_ble_eq_true rfl) (fun q17 => ?_)
  refine pn_w (w' := [(h0, .inr (5, [.ref q8, .null, .null])), (q8, .inl (cA .int, 201, .inl (fun _ => 0))), (q17, .inl (cA .int, 201, .inl (fun _ => 0)))]) rfl ?_
  refine pn_putF X f_L_15 h_5_1 hname d_L_init_19 0 rfl (by first | rfl | decide) (by first | rfl | decide) (Nat.le_of_ble_eq_true rfl) ?_
  refine pn_w (w' := [(h0, .inr (5, [.ref q8, .ref q17, .null])), (q8, .inl (cA .int, 201, .inl (fun _ => 0))), (q17, .inl (cA .int, 201, .inl (fun _ => 0)))]) rfl ?_
  refine pn_aload_n X d_L_init_22 rfl 0 rfl ?_
  refine pn_sipush X d_L_init_23 ?_
  refine pn_newa (N := 201) (ty := .int) X d_L_init_26 a_int rfl (by exact Or.inl rfl) (by decide) (by decide +kernel) (by decide) (Nat.le_of_ble_eq_true rfl) (Nat.le_of_ble_eq_true rfl) (fun q26 => ?_)
  refine pn_w (w' := [(h0, .inr (5, [.ref q8, .ref q17, .null])), (q8, .inl (cA .int, 201, .inl (fun _ => 0))), (q17, .inl (cA .int, 201, .inl (fun _ => 0))), (q26, .inl (cA .int, 201, .inl (fun _ => 0)))]) rfl ?_
  refine pn_putF X f_L_18 h_5_2 hname d_L_init_28 0 rfl (by first | rfl | decide) (by first | rfl | decide) (Nat.le_of_ble_eq_true rfl) ?_
  refine pn_w (w' := [(h0, .inr (5, [.ref q8, .ref q17, .ref q26])), (q8, .inl (cA .int, 201, .inl (fun _ => 0))), (q17, .inl (cA .int, 201, .inl (fun _ => 0))), (q26, .inl (cA .int, 201, .inl (fun _ => 0)))]) rfl ?_
  exact pn_ret X hr hlocks d_L_init_31 ⟨q8, q17, q26, rfl⟩
abbrev m_E_init : pe_Y := (⟨"PaintEditor$Editor", "<init>", "(I)V"⟩, prog_3_method_1_code, 2, (Option.none : Option FieldType), 2, 40)
theorem d_E_init_0 : decode prog_3_method_1_code 0 = .ok (.aload_n 0, 1) := by decide +kernel
theorem d_E_init_1 : decode prog_3_method_1_code 1 = .ok (.invokespecial 3, 3) := by decide +kernel
theorem d_E_init_4 : decode prog_3_method_1_code 4 = .ok (.aload_n 0, 1) := by decide +kernel
theorem d_E_init_5 : decode prog_3_method_1_code 5 = .ok (.new 9, 3) := by decide +kernel
theorem d_E_init_8 : decode prog_3_method_1_code 8 = .ok (.dup, 1) := by decide +kernel
theorem d_E_init_9 : decode prog_3_method_1_code 9 = .ok (.invokespecial 11, 3) := by decide +kernel
theorem d_E_init_12 : decode prog_3_method_1_code 12 = .ok (.putfield 12, 3) := by decide +kernel
theorem d_E_init_15 : decode prog_3_method_1_code 15 = .ok (.aload_n 0, 1) := by decide +kernel
theorem d_E_init_16 : decode prog_3_method_1_code 16 = .ok (.new 18, 3) := by decide +kernel
theorem d_E_init_19 : decode prog_3_method_1_code 19 = .ok (.dup, 1) := by decide +kernel
theorem d_E_init_20 : decode prog_3_method_1_code 20 = .ok (.invokespecial 20, 3) := by decide +kernel
theorem d_E_init_23 : decode prog_3_method_1_code 23 = .ok (.putfield 21, 3) := by decide +kernel
theorem d_E_init_26 : decode prog_3_method_1_code 26 = .ok (.aload_n 0, 1) := by decide +kernel
theorem d_E_init_27 : decode prog_3_method_1_code 27 = .ok (.new 25, 3) := by decide +kernel
theorem d_E_init_30 : decode prog_3_method_1_code 30 = .ok (.dup, 1) := by decide +kernel
theorem d_E_init_31 : decode prog_3_method_1_code 31 = .ok (.invokespecial 27, 3) := by decide +kernel
theorem d_E_init_34 : decode prog_3_method_1_code 34 = .ok (.putfield 28, 3) := by decide +kernel
theorem d_E_init_37 : decode prog_3_method_1_code 37 = .ok (.aload_n 0, 1) := by decide +kernel
theorem d_E_init_38 : decode prog_3_method_1_code 38 = .ok (.sipush 200, 3) := by decide +kernel
theorem d_E_init_41 : decode prog_3_method_1_code 41 = .ok (.newarray .int, 2) := by decide +kernel
theorem d_E_init_43 : decode prog_3_method_1_code 43 = .ok (.putfield 32, 3) := by decide +kernel
theorem d_E_init_46 : decode prog_3_method_1_code 46 = .ok (.aload_n 0, 1) := by decide +kernel
theorem d_E_init_47 : decode prog_3_method_1_code 47 = .ok (.iconst 1, 1) := by decide +kernel
theorem d_E_init_48 : decode prog_3_method_1_code 48 = .ok (.newarray .int, 2) := by decide +kernel
theorem d_E_init_50 : decode prog_3_method_1_code 50 = .ok (.putfield 36, 3) := by decide +kernel
theorem d_E_init_53 : decode prog_3_method_1_code 53 = .ok (.aload_n 0, 1) := by decide +kernel
theorem d_E_init_54 : decode prog_3_method_1_code 54 = .ok (.iconst (-1), 1) := by decide +kernel
theorem d_E_init_55 : decode prog_3_method_1_code 55 = .ok (.putfield 39, 3) := by decide +kernel
theorem d_E_init_58 : decode prog_3_method_1_code 58 = .ok (.aload_n 0, 1) := by decide +kernel
theorem d_E_init_59 : decode prog_3_method_1_code 59 = .ok (.iconst (-1), 1) := by decide +kernel
theorem d_E_init_60 : decode prog_3_method_1_code 60 = .ok (.putfield 43, 3) := by decide +kernel
theorem d_E_init_63 : decode prog_3_method_1_code 63 = .ok (.aload_n 0, 1) := by decide +kernel
theorem d_E_init_64 : decode prog_3_method_1_code 64 = .ok (.iconst 1, 1) := by decide +kernel
theorem d_E_init_65 : decode prog_3_method_1_code 65 = .ok (.putfield 46, 3) := by decide +kernel
theorem d_E_init_68 : decode prog_3_method_1_code 68 = .ok (.aload_n 0, 1) := by decide +kernel
theorem d_E_init_69 : decode prog_3_method_1_code 69 = .ok (.iload_n 1, 1) := by decide +kernel
theorem d_E_init_70 : decode prog_3_method_1_code 70 = .ok (.putfield 50, 3) := by decide +kernel
theorem d_E_init_73 : decode prog_3_method_1_code 73 = .ok (.return_, 1) := by decide +kernel
theorem k_E_init : Cond.code m_E_init.1 m_E_init.2.1 m_E_init.2.2.1 m_E_init.2.2.2.1 ∈ pe_WS := pe_w1 (List.mem_of_getElem? (i := 71) rfl)
theorem i_E_init : Cond.instanceMethod m_E_init.1 ∈ pe_WS := (pe_w1 (List.mem_of_getElem? (i := 70) (by decide +kernel)))
def B_E_init (cA : FieldType → ClassId) (h0 : Nat) (c : Int) (w1 : va_W) : Prop := ∃ (q5 q8_9 q16 q7_20 q15_20 q23_20 q31_20 q40_20 q27 q8_31 q17_31 q26_31 q41 q48 : Nat), w1 = [(h0, .inr (2, [.ref q5, .ref q16, .ref q27, .ref q41, .ref q48, .int 0, .int (Int32.ofInt c), .int 0, .int (Int32.ofInt (-1)), .int (Int32.ofInt (-1)), .int 0, .int (Int32.ofInt (1))])), (q5, .inr (3, [.ref q8_9, .int 0])), (q8_9, .inl (cA .int, 200, .inl (fun _ => 0))), (q16, .inr (4, [.ref q7_20, .ref q15_20, .ref q23_20, .ref q31_20, .ref q40_20, .int 0, .int 0])), (q7_20, .inl (cA .int, 12, .inl (fun _ => 0))), (q15_20, .inl (cA .int, 12, .inl (fun _ => 0))), (q23_20, .inl (cA .int, 12, .inl (fun _ => 0))), (q31_20, .inl (cA .boolean, 12, .inl (fun _ => 0))), (q40_20, .inl (cA .int, 2400, .inl (fun _ => 0))), (q27, .inr (5, [.ref q8_31, .ref q17_31, .ref q26_31])), (q8_31, .inl (cA .int, 201, .inl (fun _ => 0))), (q17_31, .inl (cA .int, 201, .inl (fun _ => 0))), (q26_31, .inl (cA .int, 201, .inl (fun _ => 0))), (q41, .inl (cA .int, 200, .inl (fun _ => 0))), (q48, .inl (cA .int, 1, .inl (fun _ => 0)))]
set_option maxRecDepth 100000 in
set_option maxHeartbeats 4000000 in
theorem n_E_init {D : va_G} {cA : FieldType → ClassId} (h0 : Nat) (c : Int) : pn_C m_E_init 14 3464 [.ref h0, .int (Int32.ofInt c)] [(h0, .inr (2, [.null, .null, .null, .null, .null, .int 0, .int 0, .int 0, .int 0, .int 0, .int 0, .int 0]))] D cA (B_E_init cA h0 c) := by
  refine pn_enter (by decide) (Nat.le_of_ble_eq_true rfl) ?_
  intro l p e s m below meth c0 A X hr hlocks hname
  refine pn_lv (lv' := [(0, .ref h0), (1, .int (Int32.ofInt c))]) [0, 1] rfl ?_
  refine pn_aload_n X d_E_init_0 rfl 0 rfl ?_
  refine pn_objInit X d_E_init_1 (pe_w1 (List.mem_of_getElem? (i := 72) (by decide +kernel))) i_obj k_obj (Nat.le_of_ble_eq_true rfl) (Nat.le_of_ble_eq_true rfl) ?_
  refine pn_aload_n X d_E_init_4 rfl 0 rfl ?_
  refine pn_new (ci := 3) (fs := [.null, .int 0]) X d_E_init_5 pe_k3 (pe_w1 (List.mem_of_getElem? (i := 73) (by decide +kernel))) (pe_w1 (List.mem_of_getElem? (i := 74) (by decide +kernel))) (pe_w1 (List.mem_of_getElem? (i := 5) (by decide +kernel))) rfl (by decide +kernel) (Nat.le_of_ble_eq_true rfl) (Nat.le_of_ble_eq_true rfl) (fun q5 => ?_)
  refine pn_w (w' := [(h0, .inr (2, [.null, .null, .null, .null, .null, .int 0, .int 0, .int 0, .int 0, .int 0, .int 0, .int 0])), (q5, .inr (3, [.null, .int 0]))]) rfl ?_
  refine pn_dup X d_E_init_8 ?_
  refine pn_st (st' := ([] : List Value).reverse ++ .ref q5 :: [.ref q5, .ref h0]) rfl (pn_callN (n := 0) (wr := [(h0, .inr (2, [.null, .null, .null, .null, .null, .int 0, .int 0, .int 0, .int 0, .int 0, .int 0, .int 0]))]) X (n_T_init q5) d_E_init_9 X.2.2.2.2.2.2.2.2.2.1 rfl i_T_init rfl k_T_init (pe_w1 (List.mem_of_getElem? (i := 5) (by decide +kernel))) (by decide +kernel) rfl [1] [0] rfl rfl ⟨rfl, rfl, by decide⟩ ⟨(Nat.le_of_ble_eq_true rfl), (Nat.le_of_ble_eq_true rfl)⟩ (Nat.le_of_ble_eq_true rfl) ⟨(Nat.le_of_ble_eq_true rfl), (Nat.le_of_ble_eq_true rfl)⟩ (fun w1 hw1 => ?_))
  obtain ⟨q8_9, rfl⟩ := hw1
  refine pn_w (w' := [(h0, .inr (2, [.null, .null, .null, .null, .null, .int 0, .int 0, .int 0, .int 0, .int 0, .int 0, .int 0])), (q5, .inr (3, [.ref q8_9, .int 0])), (q8_9, .inl (cA .int, 200, .inl (fun _ => 0)))]) rfl ?_
  refine pn_putF X f_E_12 h_2_0 hname d_E_init_12 0 rfl (by first | rfl | decide) (by first | rfl | decide) (Nat.le_of_ble_eq_true rfl) ?_
  refine pn_w (w' := [(h0, .inr (2, [.ref q5, .null, .null, .null, .null, .int 0, .int 0, .int 0, .int 0, .int 0, .int 0, .int 0])), (q5, .inr (3, [.ref q8_9, .int 0])), (q8_9, .inl (cA .int, 200, .inl (fun _ => 0)))]) rfl ?_
  refine pn_aload_n X d_E_init_15 rfl 0 rfl ?_
  refine pn_new (ci := 4) (fs := [.null, .null, .null, .null, .null, .int 0, .int 0]) X d_E_init_16 pe_k4 (pe_w1 (List.mem_of_getElem? (i := 90) (by decide +kernel))) (pe_w1 (List.mem_of_getElem? (i := 91) (by decide +kernel))) (pe_w1 (List.mem_of_getElem? (i := 6) (by decide +kernel))) rfl (by decide +kernel) (Nat.le_of_ble_eq_true rfl) (Nat.le_of_ble_eq_true rfl) (fun q16 => ?_)
  refine pn_w (w' := [(h0, .inr (2, [.ref q5, .null, .null, .null, .null, .int 0, .int 0, .int 0, .int 0, .int 0, .int 0, .int 0])), (q5, .inr (3, [.ref q8_9, .int 0])), (q8_9, .inl (cA .int, 200, .inl (fun _ => 0))), (q16, .inr (4, [.null, .null, .null, .null, .null, .int 0, .int 0]))]) rfl ?_
  refine pn_dup X d_E_init_19 ?_
  refine pn_st (st' := ([] : List Value).reverse ++ .ref q16 :: [.ref q16, .ref h0]) rfl (pn_callN (n := 0) (wr := [(h0, .inr (2, [.ref q5, .null, .null, .null, .null, .int 0, .int 0, .int 0, .int 0, .int 0, .int 0, .int 0])), (q5, .inr (3, [.ref q8_9, .int 0])), (q8_9, .inl (cA .int, 200, .inl (fun _ => 0)))]) X (n_H_init q16) d_E_init_20 X.2.2.2.2.2.2.2.2.2.2.1 rfl i_H_init rfl k_H_init (pe_w1 (List.mem_of_getElem? (i := 6) (by decide +kernel))) (by decide +kernel) rfl [3] [0, 1, 2] rfl rfl ⟨rfl, rfl, by decide⟩ ⟨(Nat.le_of_ble_eq_true rfl), (Nat.le_of_ble_eq_true rfl)⟩ (Nat.le_of_ble_eq_true rfl) ⟨(Nat.le_of_ble_eq_true rfl), (Nat.le_of_ble_eq_true rfl)⟩ (fun w1 hw1 => ?_))
  obtain ⟨q7_20, q15_20, q23_20, q31_20, q40_20, rfl⟩ := hw1
  refine pn_w (w' := [(h0, .inr (2, [.ref q5, .null, .null, .null, .null, .int 0, .int 0, .int 0, .int 0, .int 0, .int 0, .int 0])), (q5, .inr (3, [.ref q8_9, .int 0])), (q8_9, .inl (cA .int, 200, .inl (fun _ => 0))), (q16, .inr (4, [.ref q7_20, .ref q15_20, .ref q23_20, .ref q31_20, .ref q40_20, .int 0, .int 0])), (q7_20, .inl (cA .int, 12, .inl (fun _ => 0))), (q15_20, .inl (cA .int, 12, .inl (fun _ => 0))), (q23_20, .inl (cA .int, 12, .inl (fun _ => 0))), (q31_20, .inl (cA .boolean, 12, .inl (fun _ => 0))), (q40_20, .inl (cA .int, 2400, .inl (fun _ => 0)))]) rfl ?_
  refine pn_putF X f_E_21 h_2_1 hname d_E_init_23 0 rfl (by first | rfl | decide) (by first | rfl | decide) (Nat.le_of_ble_eq_true rfl) ?_
  refine pn_w (w' := [(h0, .inr (2, [.ref q5, .ref q16, .null, .null, .null, .int 0, .int 0, .int 0, .int 0, .int 0, .int 0, .int 0])), (q5, .inr (3, [.ref q8_9, .int 0])), (q8_9, .inl (cA .int, 200, .inl (fun _ => 0))), (q16, .inr (4, [.ref q7_20, .ref q15_20, .ref q23_20, .ref q31_20, .ref q40_20, .int 0, .int 0])), (q7_20, .inl (cA .int, 12, .inl (fun _ => 0))), (q15_20, .inl (cA .int, 12, .inl (fun _ => 0))), (q23_20, .inl (cA .int, 12, .inl (fun _ => 0))), (q31_20, .inl (cA .boolean, 12, .inl (fun _ => 0))), (q40_20, .inl (cA .int, 2400, .inl (fun _ => 0)))]) rfl ?_
  refine pn_aload_n X d_E_init_26 rfl 0 rfl ?_
  refine pn_new (ci := 5) (fs := [.null, .null, .null]) X d_E_init_27 pe_k5 (pe_w1 (List.mem_of_getElem? (i := 121) (by decide +kernel))) (pe_w1 (List.mem_of_getElem? (i := 122) (by decide +kernel))) (pe_w1 (List.mem_of_getElem? (i := 7) (by decide +kernel))) rfl (by decide +kernel) (Nat.le_of_ble_eq_true rfl) (Nat.le_of_ble_eq_true rfl) (fun q27 => ?_)
  refine pn_w (w' := [(h0, .inr (2, [.ref q5, .ref q16, .null, .null, .null, .int 0, .int 0, .int 0, .int 0, .int 0, .int 0, .int 0])), (q5, .inr (3, [.ref q8_9, .int 0])), (q8_9, .inl (cA .int, 200, .inl (fun _ => 0))), (q16, .inr (4, [.ref q7_20, .ref q15_20, .ref q23_20, .ref q31_20, .ref q40_20, .int 0, .int 0])), (q7_20, .inl (cA .int, 12, .inl (fun _ => 0))), (q15_20, .inl (cA .int, 12, .inl (fun _ => 0))), (q23_20, .inl (cA .int, 12, .inl (fun _ => 0))), (q31_20, .inl (cA .boolean, 12, .inl (fun _ => 0))), (q40_20, .inl (cA .int, 2400, .inl (fun _ => 0))), (q27, .inr (5, [.null, .null, .null]))]) rfl ?_
  refine pn_dup X d_E_init_30 ?_
  refine pn_st (st' := ([] : List Value).reverse ++ .ref q27 :: [.ref q27, .ref h0]) rfl (pn_callN (n := 0) (wr := [(h0, .inr (2, [.ref q5, .ref q16, .null, .null, .null, .int 0, .int 0, .int 0, .int 0, .int 0, .int 0, .int 0])), (q5, .inr (3, [.ref q8_9, .int 0])), (q8_9, .inl (cA .int, 200, .inl (fun _ => 0))), (q16, .inr (4, [.ref q7_20, .ref q15_20, .ref q23_20, .ref q31_20, .ref q40_20, .int 0, .int 0])), (q7_20, .inl (cA .int, 12, .inl (fun _ => 0))), (q15_20, .inl (cA .int, 12, .inl (fun _ => 0))), (q23_20, .inl (cA .int, 12, .inl (fun _ => 0))), (q31_20, .inl (cA .boolean, 12, .inl (fun _ => 0))), (q40_20, .inl (cA .int, 2400, .inl (fun _ => 0)))]) X (n_L_init q27) d_E_init_31 X.2.2.2.2.2.2.2.2.2.2.2 rfl i_L_init rfl k_L_init (pe_w1 (List.mem_of_getElem? (i := 7) (by decide +kernel))) (by decide +kernel) rfl [9] [0, 1, 2, 3, 4, 5, 6, 7, 8] rfl rfl ⟨rfl, rfl, by decide⟩ ⟨(Nat.le_of_ble_eq_true rfl), (Nat.le_of_ble_eq_true rfl)⟩ (Nat.le_of_ble_eq_true rfl) ⟨(Nat.le_of_ble_eq_true rfl), (Nat.le_of_ble_eq_true rfl)⟩ (fun w1 hw1 => ?_))
  obtain ⟨q8_31, q17_31, q26_31, rfl⟩ := hw1
  refine pn_w (w' := [(h0, .inr (2, [.ref q5, .ref q16, .null, .null, .null, .int 0, .int 0, .int 0, .int 0, .int 0, .int 0, .int 0])), (q5, .inr (3, [.ref q8_9, .int 0])), (q8_9, .inl (cA .int, 200, .inl (fun _ => 0))), (q16, .inr (4, [.ref q7_20, .ref q15_20, .ref q23_20, .ref q31_20, .ref q40_20, .int 0, .int 0])), (q7_20, .inl (cA .int, 12, .inl (fun _ => 0))), (q15_20, .inl (cA .int, 12, .inl (fun _ => 0))), (q23_20, .inl (cA .int, 12, .inl (fun _ => 0))), (q31_20, .inl (cA .boolean, 12, .inl (fun _ => 0))), (q40_20, .inl (cA .int, 2400, .inl (fun _ => 0))), (q27, .inr (5, [.ref q8_31, .ref q17_31, .ref q26_31])), (q8_31, .inl (cA .int, 201, .inl (fun _ => 0))), (q17_31, .inl (cA .int, 201, .inl (fun _ => 0))), (q26_31, .inl (cA .int, 201, .inl (fun _ => 0)))]) rfl ?_
  refine pn_putF X f_E_28 h_2_2 hname d_E_init_34 0 rfl (by first | rfl | decide) (by first | rfl | decide) (Nat.le_of_ble_eq_true rfl) ?_
  refine pn_w (w' := [(h0, .inr (2, [.ref q5, .ref q16, .ref q27, .null, .null, .int 0, .int 0, .int 0, .int 0, .int 0, .int 0, .int 0])), (q5, .inr (3, [.ref q8_9, .int 0])), (q8_9, .inl (cA .int, 200, .inl (fun _ => 0))), (q16, .inr (4, [.ref q7_20, .ref q15_20, .ref q23_20, .ref q31_20, .ref q40_20, .int 0, .int 0])), (q7_20, .inl (cA .int, 12, .inl (fun _ => 0))), (q15_20, .inl (cA .int, 12, .inl (fun _ => 0))), (q23_20, .inl (cA .int, 12, .inl (fun _ => 0))), (q31_20, .inl (cA .boolean, 12, .inl (fun _ => 0))), (q40_20, .inl (cA .int, 2400, .inl (fun _ => 0))), (q27, .inr (5, [.ref q8_31, .ref q17_31, .ref q26_31])), (q8_31, .inl (cA .int, 201, .inl (fun _ => 0))), (q17_31, .inl (cA .int, 201, .inl (fun _ => 0))), (q26_31, .inl (cA .int, 201, .inl (fun _ => 0)))]) rfl ?_
  refine pn_aload_n X d_E_init_37 rfl 0 rfl ?_
  refine pn_sipush X d_E_init_38 ?_
  refine pn_newa (N := 200) (ty := .int) X d_E_init_41 a_int rfl (by exact Or.inl rfl) (by decide) (by decide +kernel) (by decide) (Nat.le_of_ble_eq_true rfl) (Nat.le_of_ble_eq_true rfl) (fun q41 => ?_)
  refine pn_w (w' := [(h0, .inr (2, [.ref q5, .ref q16, .ref q27, .null, .null, .int 0, .int 0, .int 0, .int 0, .int 0, .int 0, .int 0])), (q5, .inr (3, [.ref q8_9, .int 0])), (q8_9, .inl (cA .int, 200, .inl (fun _ => 0))), (q16, .inr (4, [.ref q7_20, .ref q15_20, .ref q23_20, .ref q31_20, .ref q40_20, .int 0, .int 0])), (q7_20, .inl (cA .int, 12, .inl (fun _ => 0))), (q15_20, .inl (cA .int, 12, .inl (fun _ => 0))), (q23_20, .inl (cA .int, 12, .inl (fun _ => 0))), (q31_20, .inl (cA .boolean, 12, .inl (fun _ => 0))), (q40_20, .inl (cA .int, 2400, .inl (fun _ => 0))), (q27, .inr (5, [.ref q8_31, .ref q17_31, .ref q26_31])), (q8_31, .inl (cA .int, 201, .inl (fun _ => 0))), (q17_31, .inl (cA .int, 201, .inl (fun _ => 0))), (q26_31, .inl (cA .int, 201, .inl (fun _ => 0))), (q41, .inl (cA .int, 200, .inl (fun _ => 0)))]) rfl ?_
  refine pn_putF X f_E_32 h_2_3 hname d_E_init_43 0 rfl (by first | rfl | decide) (by first | rfl | decide) (Nat.le_of_ble_eq_true rfl) ?_
  refine pn_w (w' := [(h0, .inr (2, [.ref q5, .ref q16, .ref q27, .ref q41, .null, .int 0, .int 0, .int 0, .int 0, .int 0, .int 0, .int 0])), (q5, .inr (3, [.ref q8_9, .int 0])), (q8_9, .inl (cA .int, 200, .inl (fun _ => 0))), (q16, .inr (4, [.ref q7_20, .ref q15_20, .ref q23_20, .ref q31_20, .ref q40_20, .int 0, .int 0])), (q7_20, .inl (cA .int, 12, .inl (fun _ => 0))), (q15_20, .inl (cA .int, 12, .inl (fun _ => 0))), (q23_20, .inl (cA .int, 12, .inl (fun _ => 0))), (q31_20, .inl (cA .boolean, 12, .inl (fun _ => 0))), (q40_20, .inl (cA .int, 2400, .inl (fun _ => 0))), (q27, .inr (5, [.ref q8_31, .ref q17_31, .ref q26_31])), (q8_31, .inl (cA .int, 201, .inl (fun _ => 0))), (q17_31, .inl (cA .int, 201, .inl (fun _ => 0))), (q26_31, .inl (cA .int, 201, .inl (fun _ => 0))), (q41, .inl (cA .int, 200, .inl (fun _ => 0)))]) rfl ?_
  refine pn_aload_n X d_E_init_46 rfl 0 rfl ?_
  refine pn_iconst X d_E_init_47 ?_
  refine pn_newa (N := 1) (ty := .int) X d_E_init_48 a_int rfl (by exact Or.inl rfl) (by decide) (by decide +kernel) (by decide) (Nat.le_of_ble_eq_true rfl) (Nat.le_of_ble_eq_true rfl) (fun q48 => ?_)
  refine pn_w (w' := [(h0, .inr (2, [.ref q5, .ref q16, .ref q27, .ref q41, .null, .int 0, .int 0, .int 0, .int 0, .int 0, .int 0, .int 0])), (q5, .inr (3, [.ref q8_9, .int 0])), (q8_9, .inl (cA .int, 200, .inl (fun _ => 0))), (q16, .inr (4, [.ref q7_20, .ref q15_20, .ref q23_20, .ref q31_20, .ref q40_20, .int 0, .int 0])), (q7_20, .inl (cA .int, 12, .inl (fun _ => 0))), (q15_20, .inl (cA .int, 12, .inl (fun _ => 0))), (q23_20, .inl (cA .int, 12, .inl (fun _ => 0))), (q31_20, .inl (cA .boolean, 12, .inl (fun _ => 0))), (q40_20, .inl (cA .int, 2400, .inl (fun _ => 0))), (q27, .inr (5, [.ref q8_31, .ref q17_31, .ref q26_31])), (q8_31, .inl (cA .int, 201, .inl (fun _ => 0))), (q17_31, .inl (cA .int, 201, .inl (fun _ => 0))), (q26_31, .inl (cA .int, 201, .inl (fun _ => 0))), (q41, .inl (cA .int, 200, .inl (fun _ => 0))), (q48, .inl (cA .int, 1, .inl (fun _ => 0)))]) rfl ?_
  refine pn_putF X f_E_36 h_2_4 hname d_E_init_50 0 rfl (by first | rfl | decide) (by first | rfl | decide) (Nat.le_of_ble_eq_true rfl) ?_
  refine pn_w (w' := [(h0, .inr (2, [.ref q5, .ref q16, .ref q27, .ref q41, .ref q48, .int 0, .int 0, .int 0, .int 0, .int 0, .int 0, .int 0])), (q5, .inr (3, [.ref q8_9, .int 0])), (q8_9, .inl (cA .int, 200, .inl (fun _ => 0))), (q16, .inr (4, [.ref q7_20, .ref q15_20, .ref q23_20, .ref q31_20, .ref q40_20, .int 0, .int 0])), (q7_20, .inl (cA .int, 12, .inl (fun _ => 0))), (q15_20, .inl (cA .int, 12, .inl (fun _ => 0))), (q23_20, .inl (cA .int, 12, .inl (fun _ => 0))), (q31_20, .inl (cA .boolean, 12, .inl (fun _ => 0))), (q40_20, .inl (cA .int, 2400, .inl (fun _ => 0))), (q27, .inr (5, [.ref q8_31, .ref q17_31, .ref q26_31])), (q8_31, .inl (cA .int, 201, .inl (fun _ => 0))), (q17_31, .inl (cA .int, 201, .inl (fun _ => 0))), (q26_31, .inl (cA .int, 201, .inl (fun _ => 0))), (q41, .inl (cA .int, 200, .inl (fun _ => 0))), (q48, .inl (cA .int, 1, .inl (fun _ => 0)))]) rfl ?_
  refine pn_aload_n X d_E_init_53 rfl 0 rfl ?_
  refine pn_iconst X d_E_init_54 ?_
  refine pn_put X f_E_39 g_2_8 d_E_init_55 0 rfl (by first | rfl | decide) (by first | rfl | decide) (Nat.le_of_ble_eq_true rfl) ?_
  refine pn_w (w' := [(h0, .inr (2, [.ref q5, .ref q16, .ref q27, .ref q41, .ref q48, .int 0, .int 0, .int 0, .int (Int32.ofInt (-1)), .int 0, .int 0, .int 0])), (q5, .inr (3, [.ref q8_9, .int 0])), (q8_9, .inl (cA .int, 200, .inl (fun _ => 0))), (q16, .inr (4, [.ref q7_20, .ref q15_20, .ref q23_20, .ref q31_20, .ref q40_20, .int 0, .int 0])), (q7_20, .inl (cA .int, 12, .inl (fun _ => 0))), (q15_20, .inl (cA .int, 12, .inl (fun _ => 0))), (q23_20, .inl (cA .int, 12, .inl (fun _ => 0))), (q31_20, .inl (cA .boolean, 12, .inl (fun _ => 0))), (q40_20, .inl (cA .int, 2400, .inl (fun _ => 0))), (q27, .inr (5, [.ref q8_31, .ref q17_31, .ref q26_31])), (q8_31, .inl (cA .int, 201, .inl (fun _ => 0))), (q17_31, .inl (cA .int, 201, .inl (fun _ => 0))), (q26_31, .inl (cA .int, 201, .inl (fun _ => 0))), (q41, .inl (cA .int, 200, .inl (fun _ => 0))), (q48, .inl (cA .int, 1, .inl (fun _ => 0)))]) rfl ?_
  refine pn_aload_n X d_E_init_58 rfl 0 rfl ?_
  refine pn_iconst X d_E_init_59 ?_
  refine pn_put X f_E_43 g_2_9 d_E_init_60 0 rfl (by first | rfl | decide) (by first | rfl | decide) (Nat.le_of_ble_eq_true rfl) ?_
  refine pn_w (w' := [(h0, .inr (2, [.ref q5, .ref q16, .ref q27, .ref q41, .ref q48, .int 0, .int 0, .int 0, .int (Int32.ofInt (-1)), .int (Int32.ofInt (-1)), .int 0, .int 0])), (q5, .inr (3, [.ref q8_9, .int 0])), (q8_9, .inl (cA .int, 200, .inl (fun _ => 0))), (q16, .inr (4, [.ref q7_20, .ref q15_20, .ref q23_20, .ref q31_20, .ref q40_20, .int 0, .int 0])), (q7_20, .inl (cA .int, 12, .inl (fun _ => 0))), (q15_20, .inl (cA .int, 12, .inl (fun _ => 0))), (q23_20, .inl (cA .int, 12, .inl (fun _ => 0))), (q31_20, .inl (cA .boolean, 12, .inl (fun _ => 0))), (q40_20, .inl (cA .int, 2400, .inl (fun _ => 0))), (q27, .inr (5, [.ref q8_31, .ref q17_31, .ref q26_31])), (q8_31, .inl (cA .int, 201, .inl (fun _ => 0))), (q17_31, .inl (cA .int, 201, .inl (fun _ => 0))), (q26_31, .inl (cA .int, 201, .inl (fun _ => 0))), (q41, .inl (cA .int, 200, .inl (fun _ => 0))), (q48, .inl (cA .int, 1, .inl (fun _ => 0)))]) rfl ?_
  refine pn_aload_n X d_E_init_63 rfl 0 rfl ?_
  refine pn_iconst X d_E_init_64 ?_
  refine pn_put X f_E_46 g_2_11 d_E_init_65 0 rfl (by first | rfl | decide) (by first | rfl | decide) (Nat.le_of_ble_eq_true rfl) ?_
  refine pn_w (w' := [(h0, .inr (2, [.ref q5, .ref q16, .ref q27, .ref q41, .ref q48, .int 0, .int 0, .int 0, .int (Int32.ofInt (-1)), .int (Int32.ofInt (-1)), .int 0, .int (Int32.ofInt (1))])), (q5, .inr (3, [.ref q8_9, .int 0])), (q8_9, .inl (cA .int, 200, .inl (fun _ => 0))), (q16, .inr (4, [.ref q7_20, .ref q15_20, .ref q23_20, .ref q31_20, .ref q40_20, .int 0, .int 0])), (q7_20, .inl (cA .int, 12, .inl (fun _ => 0))), (q15_20, .inl (cA .int, 12, .inl (fun _ => 0))), (q23_20, .inl (cA .int, 12, .inl (fun _ => 0))), (q31_20, .inl (cA .boolean, 12, .inl (fun _ => 0))), (q40_20, .inl (cA .int, 2400, .inl (fun _ => 0))), (q27, .inr (5, [.ref q8_31, .ref q17_31, .ref q26_31])), (q8_31, .inl (cA .int, 201, .inl (fun _ => 0))), (q17_31, .inl (cA .int, 201, .inl (fun _ => 0))), (q26_31, .inl (cA .int, 201, .inl (fun _ => 0))), (q41, .inl (cA .int, 200, .inl (fun _ => 0))), (q48, .inl (cA .int, 1, .inl (fun _ => 0)))]) rfl ?_
  refine pn_aload_n X d_E_init_68 rfl 0 rfl ?_
  refine pn_iload_n X d_E_init_69 rfl 1 rfl ?_
  refine pn_put X f_E_50 g_2_6 d_E_init_70 0 rfl (by first | rfl | decide) (by first | rfl | decide) (Nat.le_of_ble_eq_true rfl) ?_
  refine pn_w (w' := [(h0, .inr (2, [.ref q5, .ref q16, .ref q27, .ref q41, .ref q48, .int 0, .int (Int32.ofInt c), .int 0, .int (Int32.ofInt (-1)), .int (Int32.ofInt (-1)), .int 0, .int (Int32.ofInt (1))])), (q5, .inr (3, [.ref q8_9, .int 0])), (q8_9, .inl (cA .int, 200, .inl (fun _ => 0))), (q16, .inr (4, [.ref q7_20, .ref q15_20, .ref q23_20, .ref q31_20, .ref q40_20, .int 0, .int 0])), (q7_20, .inl (cA .int, 12, .inl (fun _ => 0))), (q15_20, .inl (cA .int, 12, .inl (fun _ => 0))), (q23_20, .inl (cA .int, 12, .inl (fun _ => 0))), (q31_20, .inl (cA .boolean, 12, .inl (fun _ => 0))), (q40_20, .inl (cA .int, 2400, .inl (fun _ => 0))), (q27, .inr (5, [.ref q8_31, .ref q17_31, .ref q26_31])), (q8_31, .inl (cA .int, 201, .inl (fun _ => 0))), (q17_31, .inl (cA .int, 201, .inl (fun _ => 0))), (q26_31, .inl (cA .int, 201, .inl (fun _ => 0))), (q41, .inl (cA .int, 200, .inl (fun _ => 0))), (q48, .inl (cA .int, 1, .inl (fun _ => 0)))]) rfl ?_
  exact pn_ret X hr hlocks d_E_init_73 ⟨q5, q8_9, q16, q7_20, q15_20, q23_20, q31_20, q40_20, q27, q8_31, q17_31, q26_31, q41, q48, rfl⟩
abbrev m_G_init : pe_Y := (⟨"PaintEditor$Grid", "<init>", "(II)V"⟩, prog_4_method_1_code, 3, (Option.none : Option FieldType), 1, 23)
theorem d_G_init_0 : decode prog_4_method_1_code 0 = .ok (.aload_n 0, 1) := by decide +kernel
theorem d_G_init_1 : decode prog_4_method_1_code 1 = .ok (.invokespecial 3, 3) := by decide +kernel
theorem d_G_init_4 : decode prog_4_method_1_code 4 = .ok (.aload_n 0, 1) := by decide +kernel
theorem d_G_init_5 : decode prog_4_method_1_code 5 = .ok (.sipush 192, 3) := by decide +kernel
theorem d_G_init_8 : decode prog_4_method_1_code 8 = .ok (.newarray .int, 2) := by decide +kernel
theorem d_G_init_10 : decode prog_4_method_1_code 10 = .ok (.putfield 9, 3) := by decide +kernel
theorem d_G_init_13 : decode prog_4_method_1_code 13 = .ok (.aload_n 0, 1) := by decide +kernel
theorem d_G_init_14 : decode prog_4_method_1_code 14 = .ok (.sipush 192, 3) := by decide +kernel
theorem d_G_init_17 : decode prog_4_method_1_code 17 = .ok (.newarray .int, 2) := by decide +kernel
theorem d_G_init_19 : decode prog_4_method_1_code 19 = .ok (.putfield 15, 3) := by decide +kernel
theorem d_G_init_22 : decode prog_4_method_1_code 22 = .ok (.aload_n 0, 1) := by decide +kernel
theorem d_G_init_23 : decode prog_4_method_1_code 23 = .ok (.iload_n 1, 1) := by decide +kernel
theorem d_G_init_24 : decode prog_4_method_1_code 24 = .ok (.putfield 18, 3) := by decide +kernel
theorem d_G_init_27 : decode prog_4_method_1_code 27 = .ok (.aload_n 0, 1) := by decide +kernel
theorem d_G_init_28 : decode prog_4_method_1_code 28 = .ok (.iload_n 2, 1) := by decide +kernel
theorem d_G_init_29 : decode prog_4_method_1_code 29 = .ok (.putfield 22, 3) := by decide +kernel
theorem d_G_init_32 : decode prog_4_method_1_code 32 = .ok (.aload_n 0, 1) := by decide +kernel
theorem d_G_init_33 : decode prog_4_method_1_code 33 = .ok (.getfield 9, 3) := by decide +kernel
theorem d_G_init_36 : decode prog_4_method_1_code 36 = .ok (.bipush 32, 2) := by decide +kernel
theorem d_G_init_38 : decode prog_4_method_1_code 38 = .ok (.invokestatic 25, 3) := by decide +kernel
theorem d_G_init_41 : decode prog_4_method_1_code 41 = .ok (.return_, 1) := by decide +kernel
theorem k_G_init : Cond.code m_G_init.1 m_G_init.2.1 m_G_init.2.2.1 m_G_init.2.2.2.1 ∈ pe_WS := pe_w1 (List.mem_of_getElem? (i := 234) rfl)
theorem i_G_init : Cond.instanceMethod m_G_init.1 ∈ pe_WS := (pe_w1 (List.mem_of_getElem? (i := 233) (by decide +kernel)))
def B_G_init (cA : FieldType → ClassId) (h0 : Nat) (c : Int) (r : Int) (w1 : va_W) : Prop := ∃ (q8 q17 : Nat) (f38 : Nat → Int32), (∀ j : Nat, j < 192 → f38 j = 32) ∧ w1 = [(h0, .inr (7, [.ref q8, .ref q17, .int (Int32.ofInt c), .int (Int32.ofInt r)])), (q17, .inl (cA .int, 192, .inl (fun _ => 0))), (q8, .inl (cA .int, 192, .inl f38))]
set_option maxRecDepth 100000 in
set_option maxHeartbeats 4000000 in
theorem n_G_init {D : va_G} {cA : FieldType → ClassId} (h0 : Nat) (c : Int) (r : Int) : pn_C m_G_init 2 384 [.ref h0, .int (Int32.ofInt c), .int (Int32.ofInt r)] [(h0, .inr (7, [.null, .null, .int 0, .int 0]))] D cA (B_G_init cA h0 c r) := by
  refine pn_enter (by decide) (Nat.le_of_ble_eq_true rfl) ?_
  intro l p e s m below meth c0 A X hr hlocks hname
  refine pn_lv (lv' := [(0, .ref h0), (1, .int (Int32.ofInt c)), (2, .int (Int32.ofInt r))]) [0, 1, 2] rfl ?_
  refine pn_aload_n X d_G_init_0 rfl 0 rfl ?_
  refine pn_objInit X d_G_init_1 (pe_w1 (List.mem_of_getElem? (i := 235) (by decide +kernel))) i_obj k_obj (Nat.le_of_ble_eq_true rfl) (Nat.le_of_ble_eq_true rfl) ?_
  refine pn_aload_n X d_G_init_4 rfl 0 rfl ?_
  refine pn_sipush X d_G_init_5 ?_
  refine pn_newa (N := 192) (ty := .int) X d_G_init_8 a_int rfl (by exact Or.inl rfl) (by decide) (by decide +kernel) (by decide) (Nat.le_of_ble_eq_true rfl) (Nat.le_of_ble_eq_true rfl) (fun q8 => ?_)
  refine pn_w (w' := [(h0, .inr (7, [.null, .null, .int 0, .int 0])), (q8, .inl (cA .int, 192, .inl (fun _ => 0)))]) rfl ?_
  refine pn_putF X f_G_9 h_7_0 hname d_G_init_10 0 rfl (by first | rfl | decide) (by first | rfl | decide) (Nat.le_of_ble_eq_true rfl) ?_
  refine pn_w (w' := [(h0, .inr (7, [.ref q8, .null, .int 0, .int 0])), (q8, .inl (cA .int, 192, .inl (fun _ => 0)))]) rfl ?_
  refine pn_aload_n X d_G_init_13 rfl 0 rfl ?_
  refine pn_sipush X d_G_init_14 ?_
  refine pn_newa (N := 192) (ty := .int) X d_G_init_17 a_int rfl (by exact Or.inl rfl) (by decide) (by decide +kernel) (by decide) (Nat.le_of_ble_eq_true rfl) (Nat.le_of_ble_eq_true rfl) (fun q17 => ?_)
  refine pn_w (w' := [(h0, .inr (7, [.ref q8, .null, .int 0, .int 0])), (q8, .inl (cA .int, 192, .inl (fun _ => 0))), (q17, .inl (cA .int, 192, .inl (fun _ => 0)))]) rfl ?_
  refine pn_putF X f_G_15 h_7_1 hname d_G_init_19 0 rfl (by first | rfl | decide) (by first | rfl | decide) (Nat.le_of_ble_eq_true rfl) ?_
  refine pn_w (w' := [(h0, .inr (7, [.ref q8, .ref q17, .int 0, .int 0])), (q8, .inl (cA .int, 192, .inl (fun _ => 0))), (q17, .inl (cA .int, 192, .inl (fun _ => 0)))]) rfl ?_
  refine pn_aload_n X d_G_init_22 rfl 0 rfl ?_
  refine pn_iload_n X d_G_init_23 rfl 1 rfl ?_
  refine pn_put X f_G_18 g_7_2 d_G_init_24 0 rfl (by first | rfl | decide) (by first | rfl | decide) (Nat.le_of_ble_eq_true rfl) ?_
  refine pn_w (w' := [(h0, .inr (7, [.ref q8, .ref q17, .int (Int32.ofInt c), .int 0])), (q8, .inl (cA .int, 192, .inl (fun _ => 0))), (q17, .inl (cA .int, 192, .inl (fun _ => 0)))]) rfl ?_
  refine pn_aload_n X d_G_init_27 rfl 0 rfl ?_
  refine pn_iload_n X d_G_init_28 rfl 2 rfl ?_
  refine pn_put X f_G_22 g_7_3 d_G_init_29 0 rfl (by first | rfl | decide) (by first | rfl | decide) (Nat.le_of_ble_eq_true rfl) ?_
  refine pn_w (w' := [(h0, .inr (7, [.ref q8, .ref q17, .int (Int32.ofInt c), .int (Int32.ofInt r)])), (q8, .inl (cA .int, 192, .inl (fun _ => 0))), (q17, .inl (cA .int, 192, .inl (fun _ => 0)))]) rfl ?_
  refine pn_aload_n X d_G_init_32 rfl 0 rfl ?_
  refine pn_get X f_G_9 d_G_init_33 0 rfl rfl ?_
  refine pn_bipush X d_G_init_36 ?_
  refine pn_st (st' := ([.ref q8, .int (Int32.ofInt (32))] : List Value).reverse ++ []) rfl (pn_callS (wr := [(h0, .inr (7, [.ref q8, .ref q17, .int (Int32.ofInt c), .int (Int32.ofInt r)])), (q17, .inl (cA .int, 192, .inl (fun _ => 0)))]) X (n_fill q8 192 (Int32.ofInt 32) (fun _ => 0) (by decide)) d_G_init_38 c_G_25.1 z_A_fill c_G_25.2.1 c_G_25.2.2.1 c_G_25.2.2.2 rfl [1] [0, 2] rfl rfl ⟨rfl, rfl, by decide⟩ ⟨(Nat.le_of_ble_eq_true rfl), (Nat.le_of_ble_eq_true rfl)⟩ (Nat.le_of_ble_eq_true rfl) ⟨(Nat.le_of_ble_eq_true rfl), (Nat.le_of_ble_eq_true rfl)⟩ (fun w1 hw1 => ?_))
  obtain ⟨f38, hf38, rfl⟩ := hw1
  refine pn_w (w' := [(h0, .inr (7, [.ref q8, .ref q17, .int (Int32.ofInt c), .int (Int32.ofInt r)])), (q17, .inl (cA .int, 192, .inl (fun _ => 0))), (q8, .inl (cA .int, 192, .inl f38))]) rfl ?_
  exact pn_ret X hr hlocks d_G_init_41 ⟨q8, q17, f38, hf38, rfl⟩
abbrev m_AB_init : pe_Y := (⟨"java/lang/AbstractStringBuilder", "<init>", "(I)V"⟩, prog_14_method_2_code, 2, (Option.none : Option FieldType), 1, 20)
theorem d_AB_init_0 : decode prog_14_method_2_code 0 = .ok (.aload_n 0, 1) := by decide +kernel
theorem d_AB_init_1 : decode prog_14_method_2_code 1 = .ok (.invokespecial 3, 3) := by decide +kernel
theorem d_AB_init_4 : decode prog_14_method_2_code 4 = .ok (.getstatic 18, 3) := by decide +kernel
theorem d_AB_init_7 : decode prog_14_method_2_code 7 = .ok (.ifCond .eq 18, 3) := by decide +kernel
theorem d_AB_init_10 : decode prog_14_method_2_code 10 = .ok (.aload_n 0, 1) := by decide +kernel
theorem d_AB_init_11 : decode prog_14_method_2_code 11 = .ok (.iload_n 1, 1) := by decide +kernel
theorem d_AB_init_12 : decode prog_14_method_2_code 12 = .ok (.newarray .byte, 2) := by decide +kernel
theorem d_AB_init_14 : decode prog_14_method_2_code 14 = .ok (.putfield 15, 3) := by decide +kernel
theorem d_AB_init_17 : decode prog_14_method_2_code 17 = .ok (.aload_n 0, 1) := by decide +kernel
theorem d_AB_init_18 : decode prog_14_method_2_code 18 = .ok (.iconst 0, 1) := by decide +kernel
theorem d_AB_init_19 : decode prog_14_method_2_code 19 = .ok (.putfield 22, 3) := by decide +kernel
theorem d_AB_init_22 : decode prog_14_method_2_code 22 = .ok (.goto 16, 3) := by decide +kernel
theorem d_AB_init_25 : decode prog_14_method_2_code 25 = .ok (.aload_n 0, 1) := by decide +kernel
theorem d_AB_init_26 : decode prog_14_method_2_code 26 = .ok (.iload_n 1, 1) := by decide +kernel
theorem d_AB_init_27 : decode prog_14_method_2_code 27 = .ok (.invokestatic 26, 3) := by decide +kernel
theorem d_AB_init_30 : decode prog_14_method_2_code 30 = .ok (.putfield 15, 3) := by decide +kernel
theorem d_AB_init_33 : decode prog_14_method_2_code 33 = .ok (.aload_n 0, 1) := by decide +kernel
theorem d_AB_init_34 : decode prog_14_method_2_code 34 = .ok (.iconst 1, 1) := by decide +kernel
theorem d_AB_init_35 : decode prog_14_method_2_code 35 = .ok (.putfield 22, 3) := by decide +kernel
theorem d_AB_init_38 : decode prog_14_method_2_code 38 = .ok (.return_, 1) := by decide +kernel
theorem k_AB_init : Cond.code m_AB_init.1 m_AB_init.2.1 m_AB_init.2.2.1 m_AB_init.2.2.2.1 ∈ pe_WS := pe_w1 (List.mem_of_getElem? (i := 205) rfl)
theorem i_AB_init : Cond.instanceMethod m_AB_init.1 ∈ pe_WS := (pe_w1 (List.mem_of_getElem? (i := 204) (by decide +kernel)))
def B_AB_init (cA : FieldType → ClassId) (h0 : Nat) (w1 : va_W) : Prop := ∃ (q12 : Nat), w1 = [(h0, .inr (8, [.ref q12, .int (Int32.ofInt (0)), .int 0, .int 0])), (q12, .inl (cA .byte, 16, .inl (fun _ => 0)))]
set_option maxRecDepth 100000 in
set_option maxHeartbeats 4000000 in
theorem n_AB_init {D : va_G} {cA : FieldType → ClassId} (h0 : Nat) : pn_C m_AB_init 1 16 [.ref h0, .int (Int32.ofInt 16)] [(h0, .inr (8, [.null, .int 0, .int 0, .int 0]))] D cA (B_AB_init cA h0) := by
  refine pn_enter (by decide) (Nat.le_of_ble_eq_true rfl) ?_
  intro l p e s m below meth c0 A X hr hlocks hname
  refine pn_lv (lv' := [(0, .ref h0), (1, .int (Int32.ofInt 16))]) [0, 1] rfl ?_
  refine pn_aload_n X d_AB_init_0 rfl 0 rfl ?_
  refine pn_objInit X d_AB_init_1 (pe_w1 (List.mem_of_getElem? (i := 206) (by decide +kernel))) i_obj k_obj (Nat.le_of_ble_eq_true rfl) (Nat.le_of_ble_eq_true rfl) ?_
  refine pn_compact X d_AB_init_4 w_AB_18 ?_
  refine pn_if_eq (t := 25) X d_AB_init_7 ⟨by decide, by decide⟩ (fun h => absurd h (by decide)) (fun _ => ?_)
  refine pn_aload_n X d_AB_init_10 rfl 0 rfl ?_
  refine pn_iload_n X d_AB_init_11 rfl 1 rfl ?_
  refine pn_newa (N := 16) (ty := .byte) X d_AB_init_12 a_byte rfl (by exact Or.inr (Or.inr rfl)) (by decide) (by decide +kernel) (by decide) (Nat.le_of_ble_eq_true rfl) (Nat.le_of_ble_eq_true rfl) (fun q12 => ?_)
  refine pn_w (w' := [(h0, .inr (8, [.null, .int 0, .int 0, .int 0])), (q12, .inl (cA .byte, 16, .inl (fun _ => 0)))]) rfl ?_
  refine pn_put X f_AB_15 g_8_0 d_AB_init_14 0 rfl (by first | rfl | decide) (by first | rfl | decide) (Nat.le_of_ble_eq_true rfl) ?_
  refine pn_w (w' := [(h0, .inr (8, [.ref q12, .int 0, .int 0, .int 0])), (q12, .inl (cA .byte, 16, .inl (fun _ => 0)))]) rfl ?_
  refine pn_aload_n X d_AB_init_17 rfl 0 rfl ?_
  refine pn_iconst X d_AB_init_18 ?_
  refine pn_put X f_AB_22 g_8_1 d_AB_init_19 0 rfl (by first | rfl | decide) (by first | rfl | decide) (Nat.le_of_ble_eq_true rfl) ?_
  refine pn_w (w' := [(h0, .inr (8, [.ref q12, .int (Int32.ofInt (0)), .int 0, .int 0])), (q12, .inl (cA .byte, 16, .inl (fun _ => 0)))]) rfl ?_
  refine pn_goto (t := 38) X d_AB_init_22 ?_
  exact pn_ret X hr hlocks d_AB_init_38 ⟨q12, rfl⟩
abbrev m_B_init : pe_Y := (⟨"java/lang/StringBuilder", "<init>", "()V"⟩, prog_19_method_1_code, 1, (Option.none : Option FieldType), 2, 41)
theorem d_B_init_0 : decode prog_19_method_1_code 0 = .ok (.aload_n 0, 1) := by decide +kernel
theorem d_B_init_1 : decode prog_19_method_1_code 1 = .ok (.bipush 16, 2) := by decide +kernel
theorem d_B_init_3 : decode prog_19_method_1_code 3 = .ok (.invokespecial 1, 3) := by decide +kernel
theorem d_B_init_6 : decode prog_19_method_1_code 6 = .ok (.return_, 1) := by decide +kernel
theorem k_B_init : Cond.code m_B_init.1 m_B_init.2.1 m_B_init.2.2.1 m_B_init.2.2.2.1 ∈ pe_WS := pe_w1 (List.mem_of_getElem? (i := 202) rfl)
theorem i_B_init : Cond.instanceMethod m_B_init.1 ∈ pe_WS := (pe_w1 (List.mem_of_getElem? (i := 201) (by decide +kernel)))
def B_B_init (cA : FieldType → ClassId) (h0 : Nat) (w1 : va_W) : Prop := ∃ (q12_3 : Nat), w1 = [(h0, .inr (8, [.ref q12_3, .int (Int32.ofInt (0)), .int 0, .int 0])), (q12_3, .inl (cA .byte, 16, .inl (fun _ => 0)))]
set_option maxRecDepth 100000 in
set_option maxHeartbeats 4000000 in
theorem n_B_init {D : va_G} {cA : FieldType → ClassId} (h0 : Nat) : pn_C m_B_init 1 16 [.ref h0] [(h0, .inr (8, [.null, .int 0, .int 0, .int 0]))] D cA (B_B_init cA h0) := by
  refine pn_enter (by decide) (Nat.le_of_ble_eq_true rfl) ?_
  intro l p e s m below meth c0 A X hr hlocks hname
  refine pn_lv (lv' := [(0, .ref h0)]) [0] rfl ?_
  refine pn_aload_n X d_B_init_0 rfl 0 rfl ?_
  refine pn_bipush X d_B_init_1 ?_
  refine pn_st (st' := ([.int (Int32.ofInt (16))] : List Value).reverse ++ .ref h0 :: []) rfl (pn_call (n := 1) (wr := []) X (n_AB_init h0) d_B_init_3 (pe_w1 (List.mem_of_getElem? (i := 203) (by decide +kernel))) rfl i_AB_init rfl k_AB_init (pe_w1 (List.mem_of_getElem? (i := 9) (by decide +kernel))) (by decide +kernel) rfl [0] [] rfl rfl ⟨rfl, rfl, by decide⟩ ⟨(Nat.le_of_ble_eq_true rfl), (Nat.le_of_ble_eq_true rfl)⟩ (Nat.le_of_ble_eq_true rfl) ⟨(Nat.le_of_ble_eq_true rfl), (Nat.le_of_ble_eq_true rfl)⟩ (fun w1 hw1 => ?_))
  obtain ⟨q12_3, rfl⟩ := hw1
  refine pn_w (w' := [(h0, .inr (8, [.ref q12_3, .int (Int32.ofInt (0)), .int 0, .int 0])), (q12_3, .inl (cA .byte, 16, .inl (fun _ => 0)))]) rfl ?_
  exact pn_ret X hr hlocks d_B_init_6 ⟨q12_3, rfl⟩
abbrev m_S_init : pe_Y := (⟨"PaintEditor$Screen", "<init>", "(II)V"⟩, prog_9_method_1_code, 3, (Option.none : Option FieldType), 3, 61)
theorem d_S_init_0 : decode prog_9_method_1_code 0 = .ok (.aload_n 0, 1) := by decide +kernel
theorem d_S_init_1 : decode prog_9_method_1_code 1 = .ok (.invokespecial 3, 3) := by decide +kernel
theorem d_S_init_4 : decode prog_9_method_1_code 4 = .ok (.aload_n 0, 1) := by decide +kernel
theorem d_S_init_5 : decode prog_9_method_1_code 5 = .ok (.new 9, 3) := by decide +kernel
theorem d_S_init_8 : decode prog_9_method_1_code 8 = .ok (.dup, 1) := by decide +kernel
theorem d_S_init_9 : decode prog_9_method_1_code 9 = .ok (.invokespecial 11, 3) := by decide +kernel
theorem d_S_init_12 : decode prog_9_method_1_code 12 = .ok (.putfield 12, 3) := by decide +kernel
theorem d_S_init_15 : decode prog_9_method_1_code 15 = .ok (.aload_n 0, 1) := by decide +kernel
theorem d_S_init_16 : decode prog_9_method_1_code 16 = .ok (.new 18, 3) := by decide +kernel
theorem d_S_init_19 : decode prog_9_method_1_code 19 = .ok (.dup, 1) := by decide +kernel
theorem d_S_init_20 : decode prog_9_method_1_code 20 = .ok (.iload_n 1, 1) := by decide +kernel
theorem d_S_init_21 : decode prog_9_method_1_code 21 = .ok (.iload_n 2, 1) := by decide +kernel
theorem d_S_init_22 : decode prog_9_method_1_code 22 = .ok (.invokespecial 20, 3) := by decide +kernel
theorem d_S_init_25 : decode prog_9_method_1_code 25 = .ok (.putfield 23, 3) := by decide +kernel
theorem d_S_init_28 : decode prog_9_method_1_code 28 = .ok (.return_, 1) := by decide +kernel
theorem k_S_init : Cond.code m_S_init.1 m_S_init.2.1 m_S_init.2.2.1 m_S_init.2.2.2.1 ∈ pe_WS := pe_w1 (List.mem_of_getElem? (i := 196) rfl)
theorem i_S_init : Cond.instanceMethod m_S_init.1 ∈ pe_WS := (pe_w1 (List.mem_of_getElem? (i := 195) (by decide +kernel)))
def B_S_init (cA : FieldType → ClassId) (h0 : Nat) (c : Int) (r : Int) (w1 : va_W) : Prop := ∃ (q5 q12_3_9 q16 q8_22 q17_22 : Nat) (f38_22 : Nat → Int32), (∀ j : Nat, j < 192 → f38_22 j = 32) ∧ w1 = [(h0, .inr (6, [.ref q16, .ref q5, .int 0, .int 0, .int 0])), (q5, .inr (8, [.ref q12_3_9, .int (Int32.ofInt (0)), .int 0, .int 0])), (q12_3_9, .inl (cA .byte, 16, .inl (fun _ => 0))), (q16, .inr (7, [.ref q8_22, .ref q17_22, .int (Int32.ofInt c), .int (Int32.ofInt r)])), (q17_22, .inl (cA .int, 192, .inl (fun _ => 0))), (q8_22, .inl (cA .int, 192, .inl f38_22))]
set_option maxRecDepth 100000 in
set_option maxHeartbeats 4000000 in
theorem n_S_init {D : va_G} {cA : FieldType → ClassId} (h0 : Nat) (c : Int) (r : Int) : pn_C m_S_init 5 408 [.ref h0, .int (Int32.ofInt c), .int (Int32.ofInt r)] [(h0, .inr (6, [.null, .null, .int 0, .int 0, .int 0]))] D cA (B_S_init cA h0 c r) := by
  refine pn_enter (by decide) (Nat.le_of_ble_eq_true rfl) ?_
  intro l p e s m below meth c0 A X hr hlocks hname
  refine pn_lv (lv' := [(0, .ref h0), (1, .int (Int32.ofInt c)), (2, .int (Int32.ofInt r))]) [0, 1, 2] rfl ?_
  refine pn_aload_n X d_S_init_0 rfl 0 rfl ?_
  refine pn_objInit X d_S_init_1 (pe_w1 (List.mem_of_getElem? (i := 197) (by decide +kernel))) i_obj k_obj (Nat.le_of_ble_eq_true rfl) (Nat.le_of_ble_eq_true rfl) ?_
  refine pn_aload_n X d_S_init_4 rfl 0 rfl ?_
  refine pn_new (ci := 8) (fs := [.null, .int 0, .int 0, .int 0]) X d_S_init_5 pe_k8 (pe_w1 (List.mem_of_getElem? (i := 198) (by decide +kernel))) (pe_w1 (List.mem_of_getElem? (i := 199) (by decide +kernel))) (pe_w1 (List.mem_of_getElem? (i := 10) (by decide +kernel))) rfl (by decide +kernel) (Nat.le_of_ble_eq_true rfl) (Nat.le_of_ble_eq_true rfl) (fun q5 => ?_)
  refine pn_w (w' := [(h0, .inr (6, [.null, .null, .int 0, .int 0, .int 0])), (q5, .inr (8, [.null, .int 0, .int 0, .int 0]))]) rfl ?_
  refine pn_dup X d_S_init_8 ?_
  refine pn_st (st' := ([] : List Value).reverse ++ .ref q5 :: [.ref q5, .ref h0]) rfl (pn_call (n := 0) (wr := [(h0, .inr (6, [.null, .null, .int 0, .int 0, .int 0]))]) X (n_B_init q5) d_S_init_9 (pe_w1 (List.mem_of_getElem? (i := 200) (by decide +kernel))) rfl i_B_init rfl k_B_init (pe_w1 (List.mem_of_getElem? (i := 10) (by decide +kernel))) (by decide +kernel) rfl [1] [0] rfl rfl ⟨rfl, rfl, by decide⟩ ⟨(Nat.le_of_ble_eq_true rfl), (Nat.le_of_ble_eq_true rfl)⟩ (Nat.le_of_ble_eq_true rfl) ⟨(Nat.le_of_ble_eq_true rfl), (Nat.le_of_ble_eq_true rfl)⟩ (fun w1 hw1 => ?_))
  obtain ⟨q12_3_9, rfl⟩ := hw1
  refine pn_w (w' := [(h0, .inr (6, [.null, .null, .int 0, .int 0, .int 0])), (q5, .inr (8, [.ref q12_3_9, .int (Int32.ofInt (0)), .int 0, .int 0])), (q12_3_9, .inl (cA .byte, 16, .inl (fun _ => 0)))]) rfl ?_
  refine pn_putF X f_S_12 h_6_1 hname d_S_init_12 0 rfl (by first | rfl | decide) (by first | rfl | decide) (Nat.le_of_ble_eq_true rfl) ?_
  refine pn_w (w' := [(h0, .inr (6, [.null, .ref q5, .int 0, .int 0, .int 0])), (q5, .inr (8, [.ref q12_3_9, .int (Int32.ofInt (0)), .int 0, .int 0])), (q12_3_9, .inl (cA .byte, 16, .inl (fun _ => 0)))]) rfl ?_
  refine pn_aload_n X d_S_init_15 rfl 0 rfl ?_
  refine pn_new (ci := 7) (fs := [.null, .null, .int 0, .int 0]) X d_S_init_16 pe_k7 (pe_w1 (List.mem_of_getElem? (i := 230) (by decide +kernel))) (pe_w1 (List.mem_of_getElem? (i := 231) (by decide +kernel))) (pe_w1 (List.mem_of_getElem? (i := 13) (by decide +kernel))) rfl (by decide +kernel) (Nat.le_of_ble_eq_true rfl) (Nat.le_of_ble_eq_true rfl) (fun q16 => ?_)
  refine pn_w (w' := [(h0, .inr (6, [.null, .ref q5, .int 0, .int 0, .int 0])), (q5, .inr (8, [.ref q12_3_9, .int (Int32.ofInt (0)), .int 0, .int 0])), (q12_3_9, .inl (cA .byte, 16, .inl (fun _ => 0))), (q16, .inr (7, [.null, .null, .int 0, .int 0]))]) rfl ?_
  refine pn_dup X d_S_init_19 ?_
  refine pn_iload_n X d_S_init_20 rfl 1 rfl ?_
  refine pn_iload_n X d_S_init_21 rfl 2 rfl ?_
  refine pn_st (st' := ([.int (Int32.ofInt c), .int (Int32.ofInt r)] : List Value).reverse ++ .ref q16 :: [.ref q16, .ref h0]) rfl (pn_call (n := 2) (wr := [(h0, .inr (6, [.null, .ref q5, .int 0, .int 0, .int 0])), (q5, .inr (8, [.ref q12_3_9, .int (Int32.ofInt (0)), .int 0, .int 0])), (q12_3_9, .inl (cA .byte, 16, .inl (fun _ => 0)))]) X (n_G_init q16 c r) d_S_init_22 (pe_w1 (List.mem_of_getElem? (i := 232) (by decide +kernel))) rfl i_G_init rfl k_G_init (pe_w1 (List.mem_of_getElem? (i := 13) (by decide +kernel))) (by decide +kernel) rfl [3] [0, 1, 2] rfl rfl ⟨rfl, rfl, by decide⟩ ⟨(Nat.le_of_ble_eq_true rfl), (Nat.le_of_ble_eq_true rfl)⟩ (Nat.le_of_ble_eq_true rfl) ⟨(Nat.le_of_ble_eq_true rfl), (Nat.le_of_ble_eq_true rfl)⟩ (fun w1 hw1 => ?_))
  obtain ⟨q8_22, q17_22, f38_22, hf38_22, rfl⟩ := hw1
  refine pn_w (w' := [(h0, .inr (6, [.null, .ref q5, .int 0, .int 0, .int 0])), (q5, .inr (8, [.ref q12_3_9, .int (Int32.ofInt (0)), .int 0, .int 0])), (q12_3_9, .inl (cA .byte, 16, .inl (fun _ => 0))), (q16, .inr (7, [.ref q8_22, .ref q17_22, .int (Int32.ofInt c), .int (Int32.ofInt r)])), (q17_22, .inl (cA .int, 192, .inl (fun _ => 0))), (q8_22, .inl (cA .int, 192, .inl f38_22))]) rfl ?_
  refine pn_putF X f_S_23 h_6_0 hname d_S_init_25 0 rfl (by first | rfl | decide) (by first | rfl | decide) (Nat.le_of_ble_eq_true rfl) ?_
  refine pn_w (w' := [(h0, .inr (6, [.ref q16, .ref q5, .int 0, .int 0, .int 0])), (q5, .inr (8, [.ref q12_3_9, .int (Int32.ofInt (0)), .int 0, .int 0])), (q12_3_9, .inl (cA .byte, 16, .inl (fun _ => 0))), (q16, .inr (7, [.ref q8_22, .ref q17_22, .int (Int32.ofInt c), .int (Int32.ofInt r)])), (q17_22, .inl (cA .int, 192, .inl (fun _ => 0))), (q8_22, .inl (cA .int, 192, .inl f38_22))]) rfl ?_
  exact pn_ret X hr hlocks d_S_init_28 ⟨q5, q12_3_9, q16, q8_22, q17_22, f38_22, hf38_22, rfl⟩
abbrev m_Z_init : pe_Y := (⟨"PaintEditor$Terminal", "<init>", "(II)V"⟩, prog_10_method_1_code, 3, (Option.none : Option FieldType), 2, 45)
theorem d_Z_init_0 : decode prog_10_method_1_code 0 = .ok (.aload_n 0, 1) := by decide +kernel
theorem d_Z_init_1 : decode prog_10_method_1_code 1 = .ok (.invokespecial 3, 3) := by decide +kernel
theorem d_Z_init_4 : decode prog_10_method_1_code 4 = .ok (.aload_n 0, 1) := by decide +kernel
theorem d_Z_init_5 : decode prog_10_method_1_code 5 = .ok (.new 9, 3) := by decide +kernel
theorem d_Z_init_8 : decode prog_10_method_1_code 8 = .ok (.dup, 1) := by decide +kernel
theorem d_Z_init_9 : decode prog_10_method_1_code 9 = .ok (.iload_n 1, 1) := by decide +kernel
theorem d_Z_init_10 : decode prog_10_method_1_code 10 = .ok (.iload_n 2, 1) := by decide +kernel
theorem d_Z_init_11 : decode prog_10_method_1_code 11 = .ok (.invokespecial 11, 3) := by decide +kernel
theorem d_Z_init_14 : decode prog_10_method_1_code 14 = .ok (.putfield 14, 3) := by decide +kernel
theorem d_Z_init_17 : decode prog_10_method_1_code 17 = .ok (.return_, 1) := by decide +kernel
theorem k_Z_init : Cond.code m_Z_init.1 m_Z_init.2.1 m_Z_init.2.2.1 m_Z_init.2.2.2.1 ∈ pe_WS := pe_w2 (List.mem_of_getElem? (i := 48) rfl)
theorem i_Z_init : Cond.instanceMethod m_Z_init.1 ∈ pe_WS := (pe_w2 (List.mem_of_getElem? (i := 47) (by decide +kernel)))
def B_Z_init (cA : FieldType → ClassId) (h0 : Nat) (c : Int) (r : Int) (w1 : va_W) : Prop := ∃ (q5 q8_11 q17_11 : Nat) (f38_11 : Nat → Int32), (∀ j : Nat, j < 192 → f38_11 j = 32) ∧ w1 = [(h0, .inr (10, [.ref q5, .int 0, .int 0, .int 0, .int 0, .int 0, .int 0, .int 0])), (q5, .inr (7, [.ref q8_11, .ref q17_11, .int (Int32.ofInt c), .int (Int32.ofInt r)])), (q17_11, .inl (cA .int, 192, .inl (fun _ => 0))), (q8_11, .inl (cA .int, 192, .inl f38_11))]
set_option maxRecDepth 100000 in
set_option maxHeartbeats 4000000 in
theorem n_Z_init {D : va_G} {cA : FieldType → ClassId} (h0 : Nat) (c : Int) (r : Int) : pn_C m_Z_init 3 388 [.ref h0, .int (Int32.ofInt c), .int (Int32.ofInt r)] [(h0, .inr (10, [.null, .int 0, .int 0, .int 0, .int 0, .int 0, .int 0, .int 0]))] D cA (B_Z_init cA h0 c r) := by
  refine pn_enter (by decide) (Nat.le_of_ble_eq_true rfl) ?_
  intro l p e s m below meth c0 A X hr hlocks hname
  refine pn_lv (lv' := [(0, .ref h0), (1, .int (Int32.ofInt c)), (2, .int (Int32.ofInt r))]) [0, 1, 2] rfl ?_
  refine pn_aload_n X d_Z_init_0 rfl 0 rfl ?_
  refine pn_objInit X d_Z_init_1 (pe_w2 (List.mem_of_getElem? (i := 49) (by decide +kernel))) i_obj k_obj (Nat.le_of_ble_eq_true rfl) (Nat.le_of_ble_eq_true rfl) ?_
  refine pn_aload_n X d_Z_init_4 rfl 0 rfl ?_
  refine pn_new (ci := 7) (fs := [.null, .null, .int 0, .int 0]) X d_Z_init_5 pe_k7 (pe_w2 (List.mem_of_getElem? (i := 50) (by decide +kernel))) (pe_w1 (List.mem_of_getElem? (i := 231) (by decide +kernel))) (pe_w1 (List.mem_of_getElem? (i := 13) (by decide +kernel))) rfl (by decide +kernel) (Nat.le_of_ble_eq_true rfl) (Nat.le_of_ble_eq_true rfl) (fun q5 => ?_)
  refine pn_w (w' := [(h0, .inr (10, [.null, .int 0, .int 0, .int 0, .int 0, .int 0, .int 0, .int 0])), (q5, .inr (7, [.null, .null, .int 0, .int 0]))]) rfl ?_
  refine pn_dup X d_Z_init_8 ?_
  refine pn_iload_n X d_Z_init_9 rfl 1 rfl ?_
  refine pn_iload_n X d_Z_init_10 rfl 2 rfl ?_
  refine pn_st (st' := ([.int (Int32.ofInt c), .int (Int32.ofInt r)] : List Value).reverse ++ .ref q5 :: [.ref q5, .ref h0]) rfl (pn_call (n := 2) (wr := [(h0, .inr (10, [.null, .int 0, .int 0, .int 0, .int 0, .int 0, .int 0, .int 0]))]) X (n_G_init q5 c r) d_Z_init_11 (pe_w2 (List.mem_of_getElem? (i := 51) (by decide +kernel))) rfl i_G_init rfl k_G_init (pe_w1 (List.mem_of_getElem? (i := 13) (by decide +kernel))) (by decide +kernel) rfl [1] [0] rfl rfl ⟨rfl, rfl, by decide⟩ ⟨(Nat.le_of_ble_eq_true rfl), (Nat.le_of_ble_eq_true rfl)⟩ (Nat.le_of_ble_eq_true rfl) ⟨(Nat.le_of_ble_eq_true rfl), (Nat.le_of_ble_eq_true rfl)⟩ (fun w1 hw1 => ?_))
  obtain ⟨q8_11, q17_11, f38_11, hf38_11, rfl⟩ := hw1
  refine pn_w (w' := [(h0, .inr (10, [.null, .int 0, .int 0, .int 0, .int 0, .int 0, .int 0, .int 0])), (q5, .inr (7, [.ref q8_11, .ref q17_11, .int (Int32.ofInt c), .int (Int32.ofInt r)])), (q17_11, .inl (cA .int, 192, .inl (fun _ => 0))), (q8_11, .inl (cA .int, 192, .inl f38_11))]) rfl ?_
  refine pn_putF X f_Z_14 h_10_0 hname d_Z_init_14 0 rfl (by first | rfl | decide) (by first | rfl | decide) (Nat.le_of_ble_eq_true rfl) ?_
  refine pn_w (w' := [(h0, .inr (10, [.ref q5, .int 0, .int 0, .int 0, .int 0, .int 0, .int 0, .int 0])), (q5, .inr (7, [.ref q8_11, .ref q17_11, .int (Int32.ofInt c), .int (Int32.ofInt r)])), (q17_11, .inl (cA .int, 192, .inl (fun _ => 0))), (q8_11, .inl (cA .int, 192, .inl f38_11))]) rfl ?_
  exact pn_ret X hr hlocks d_Z_init_17 ⟨q5, q8_11, q17_11, f38_11, hf38_11, rfl⟩
abbrev m_Q_init : pe_Y := (⟨"PaintEditor$Painter", "<init>", "(II)V"⟩, prog_8_method_1_code, 3, (Option.none : Option FieldType), 3, 67)
theorem d_Q_init_0 : decode prog_8_method_1_code 0 = .ok (.aload_n 0, 1) := by decide +kernel
theorem d_Q_init_1 : decode prog_8_method_1_code 1 = .ok (.invokespecial 3, 3) := by decide +kernel
theorem d_Q_init_4 : decode prog_8_method_1_code 4 = .ok (.aload_n 0, 1) := by decide +kernel
theorem d_Q_init_5 : decode prog_8_method_1_code 5 = .ok (.sipush 2048, 3) := by decide +kernel
theorem d_Q_init_8 : decode prog_8_method_1_code 8 = .ok (.newarray .int, 2) := by decide +kernel
theorem d_Q_init_10 : decode prog_8_method_1_code 10 = .ok (.putfield 9, 3) := by decide +kernel
theorem d_Q_init_13 : decode prog_8_method_1_code 13 = .ok (.aload_n 0, 1) := by decide +kernel
theorem d_Q_init_14 : decode prog_8_method_1_code 14 = .ok (.new 15, 3) := by decide +kernel
theorem d_Q_init_17 : decode prog_8_method_1_code 17 = .ok (.dup, 1) := by decide +kernel
theorem d_Q_init_18 : decode prog_8_method_1_code 18 = .ok (.iload_n 1, 1) := by decide +kernel
theorem d_Q_init_19 : decode prog_8_method_1_code 19 = .ok (.iload_n 2, 1) := by decide +kernel
theorem d_Q_init_20 : decode prog_8_method_1_code 20 = .ok (.invokespecial 17, 3) := by decide +kernel
theorem d_Q_init_23 : decode prog_8_method_1_code 23 = .ok (.putfield 20, 3) := by decide +kernel
theorem d_Q_init_26 : decode prog_8_method_1_code 26 = .ok (.return_, 1) := by decide +kernel
theorem k_Q_init : Cond.code m_Q_init.1 m_Q_init.2.1 m_Q_init.2.2.1 m_Q_init.2.2.2.1 ∈ pe_WS := pe_w2 (List.mem_of_getElem? (i := 42) rfl)
theorem i_Q_init : Cond.instanceMethod m_Q_init.1 ∈ pe_WS := (pe_w2 (List.mem_of_getElem? (i := 41) (by decide +kernel)))
def B_Q_init (cA : FieldType → ClassId) (h0 : Nat) (c : Int) (r : Int) (w1 : va_W) : Prop := ∃ (q8 q14 q5_20 q8_11_20 q17_11_20 : Nat) (f38_11_20 : Nat → Int32), (∀ j : Nat, j < 192 → f38_11_20 j = 32) ∧ w1 = [(h0, .inr (9, [.ref q14, .ref q8, .int 0])), (q8, .inl (cA .int, 2048, .inl (fun _ => 0))), (q14, .inr (10, [.ref q5_20, .int 0, .int 0, .int 0, .int 0, .int 0, .int 0, .int 0])), (q5_20, .inr (7, [.ref q8_11_20, .ref q17_11_20, .int (Int32.ofInt c), .int (Int32.ofInt r)])), (q17_11_20, .inl (cA .int, 192, .inl (fun _ => 0))), (q8_11_20, .inl (cA .int, 192, .inl f38_11_20))]
set_option maxRecDepth 100000 in
set_option maxHeartbeats 4000000 in
theorem n_Q_init {D : va_G} {cA : FieldType → ClassId} (h0 : Nat) (c : Int) (r : Int) : pn_C m_Q_init 5 2444 [.ref h0, .int (Int32.ofInt c), .int (Int32.ofInt r)] [(h0, .inr (9, [.null, .null, .int 0]))] D cA (B_Q_init cA h0 c r) := by
  refine pn_enter (by decide) (Nat.le_of_ble_eq_true rfl) ?_
  intro l p e s m below meth c0 A X hr hlocks hname
  refine pn_lv (lv' := [(0, .ref h0), (1, .int (Int32.ofInt c)), (2, .int (Int32.ofInt r))]) [0, 1, 2] rfl ?_
  refine pn_aload_n X d_Q_init_0 rfl 0 rfl ?_
  refine pn_objInit X d_Q_init_1 (pe_w2 (List.mem_of_getElem? (i := 43) (by decide +kernel))) i_obj k_obj (Nat.le_of_ble_eq_true rfl) (Nat.le_of_ble_eq_true rfl) ?_
  refine pn_aload_n X d_Q_init_4 rfl 0 rfl ?_
  refine pn_sipush X d_Q_init_5 ?_
  refine pn_newa (N := 2048) (ty := .int) X d_Q_init_8 a_int rfl (by exact Or.inl rfl) (by decide) (by decide +kernel) (by decide) (Nat.le_of_ble_eq_true rfl) (Nat.le_of_ble_eq_true rfl) (fun q8 => ?_)
  refine pn_w (w' := [(h0, .inr (9, [.null, .null, .int 0])), (q8, .inl (cA .int, 2048, .inl (fun _ => 0)))]) rfl ?_
  refine pn_putF X f_Q_9 h_9_1 hname d_Q_init_10 0 rfl (by first | rfl | decide) (by first | rfl | decide) (Nat.le_of_ble_eq_true rfl) ?_
  refine pn_w (w' := [(h0, .inr (9, [.null, .ref q8, .int 0])), (q8, .inl (cA .int, 2048, .inl (fun _ => 0)))]) rfl ?_
  refine pn_aload_n X d_Q_init_13 rfl 0 rfl ?_
  refine pn_new (ci := 10) (fs := [.null, .int 0, .int 0, .int 0, .int 0, .int 0, .int 0, .int 0]) X d_Q_init_14 pe_k10 (pe_w2 (List.mem_of_getElem? (i := 44) (by decide +kernel))) (pe_w2 (List.mem_of_getElem? (i := 45) (by decide +kernel))) (pe_w1 (List.mem_of_getElem? (i := 16) (by decide +kernel))) rfl (by decide +kernel) (Nat.le_of_ble_eq_true rfl) (Nat.le_of_ble_eq_true rfl) (fun q14 => ?_)
  refine pn_w (w' := [(h0, .inr (9, [.null, .ref q8, .int 0])), (q8, .inl (cA .int, 2048, .inl (fun _ => 0))), (q14, .inr (10, [.null, .int 0, .int 0, .int 0, .int 0, .int 0, .int 0, .int 0]))]) rfl ?_
  refine pn_dup X d_Q_init_17 ?_
  refine pn_iload_n X d_Q_init_18 rfl 1 rfl ?_
  refine pn_iload_n X d_Q_init_19 rfl 2 rfl ?_
  refine pn_st (st' := ([.int (Int32.ofInt c), .int (Int32.ofInt r)] : List Value).reverse ++ .ref q14 :: [.ref q14, .ref h0]) rfl (pn_call (n := 2) (wr := [(h0, .inr (9, [.null, .ref q8, .int 0])), (q8, .inl (cA .int, 2048, .inl (fun _ => 0)))]) X (n_Z_init q14 c r) d_Q_init_20 (pe_w2 (List.mem_of_getElem? (i := 46) (by decide +kernel))) rfl i_Z_init rfl k_Z_init (pe_w1 (List.mem_of_getElem? (i := 16) (by decide +kernel))) (by decide +kernel) rfl [2] [0, 1] rfl rfl ⟨rfl, rfl, by decide⟩ ⟨(Nat.le_of_ble_eq_true rfl), (Nat.le_of_ble_eq_true rfl)⟩ (Nat.le_of_ble_eq_true rfl) ⟨(Nat.le_of_ble_eq_true rfl), (Nat.le_of_ble_eq_true rfl)⟩ (fun w1 hw1 => ?_))
  obtain ⟨q5_20, q8_11_20, q17_11_20, f38_11_20, hf38_11_20, rfl⟩ := hw1
  refine pn_w (w' := [(h0, .inr (9, [.null, .ref q8, .int 0])), (q8, .inl (cA .int, 2048, .inl (fun _ => 0))), (q14, .inr (10, [.ref q5_20, .int 0, .int 0, .int 0, .int 0, .int 0, .int 0, .int 0])), (q5_20, .inr (7, [.ref q8_11_20, .ref q17_11_20, .int (Int32.ofInt c), .int (Int32.ofInt r)])), (q17_11_20, .inl (cA .int, 192, .inl (fun _ => 0))), (q8_11_20, .inl (cA .int, 192, .inl f38_11_20))]) rfl ?_
  refine pn_putF X f_Q_20 h_9_0 hname d_Q_init_23 0 rfl (by first | rfl | decide) (by first | rfl | decide) (Nat.le_of_ble_eq_true rfl) ?_
  refine pn_w (w' := [(h0, .inr (9, [.ref q14, .ref q8, .int 0])), (q8, .inl (cA .int, 2048, .inl (fun _ => 0))), (q14, .inr (10, [.ref q5_20, .int 0, .int 0, .int 0, .int 0, .int 0, .int 0, .int 0])), (q5_20, .inr (7, [.ref q8_11_20, .ref q17_11_20, .int (Int32.ofInt c), .int (Int32.ofInt r)])), (q17_11_20, .inl (cA .int, 192, .inl (fun _ => 0))), (q8_11_20, .inl (cA .int, 192, .inl f38_11_20))]) rfl ?_
  exact pn_ret X hr hlocks d_Q_init_26 ⟨q8, q14, q5_20, q8_11_20, q17_11_20, f38_11_20, hf38_11_20, rfl⟩
abbrev m_P_init : pe_Y := (⟨"PaintEditor", "<init>", "(II)V"⟩, prog_1_method_1_code, 5, (Option.none : Option FieldType), 4, 89)
theorem d_P_init_0 : decode prog_1_method_1_code 0 = .ok (.aload_n 0, 1) := by decide +kernel
theorem d_P_init_1 : decode prog_1_method_1_code 1 = .ok (.invokespecial 1, 3) := by decide +kernel
theorem d_P_init_4 : decode prog_1_method_1_code 4 = .ok (.iconst 1, 1) := by decide +kernel
theorem d_P_init_5 : decode prog_1_method_1_code 5 = .ok (.bipush 24, 2) := by decide +kernel
theorem d_P_init_7 : decode prog_1_method_1_code 7 = .ok (.iload_n 1, 1) := by decide +kernel
theorem d_P_init_8 : decode prog_1_method_1_code 8 = .ok (.invokestatic 9, 3) := by decide +kernel
theorem d_P_init_11 : decode prog_1_method_1_code 11 = .ok (.invokestatic 15, 3) := by decide +kernel
theorem d_P_init_14 : decode prog_1_method_1_code 14 = .ok (.istore_n 3, 1) := by decide +kernel
theorem d_P_init_15 : decode prog_1_method_1_code 15 = .ok (.iconst 1, 1) := by decide +kernel
theorem d_P_init_16 : decode prog_1_method_1_code 16 = .ok (.bipush 8, 2) := by decide +kernel
theorem d_P_init_18 : decode prog_1_method_1_code 18 = .ok (.iload_n 2, 1) := by decide +kernel
theorem d_P_init_19 : decode prog_1_method_1_code 19 = .ok (.invokestatic 9, 3) := by decide +kernel
theorem d_P_init_22 : decode prog_1_method_1_code 22 = .ok (.invokestatic 15, 3) := by decide +kernel
theorem d_P_init_25 : decode prog_1_method_1_code 25 = .ok (.istore 4, 2) := by decide +kernel
theorem d_P_init_27 : decode prog_1_method_1_code 27 = .ok (.aload_n 0, 1) := by decide +kernel
theorem d_P_init_28 : decode prog_1_method_1_code 28 = .ok (.new 18, 3) := by decide +kernel
theorem d_P_init_31 : decode prog_1_method_1_code 31 = .ok (.dup, 1) := by decide +kernel
theorem d_P_init_32 : decode prog_1_method_1_code 32 = .ok (.invokespecial 20, 3) := by decide +kernel
theorem d_P_init_35 : decode prog_1_method_1_code 35 = .ok (.putfield 21, 3) := by decide +kernel
theorem d_P_init_38 : decode prog_1_method_1_code 38 = .ok (.aload_n 0, 1) := by decide +kernel
theorem d_P_init_39 : decode prog_1_method_1_code 39 = .ok (.new 25, 3) := by decide +kernel
theorem d_P_init_42 : decode prog_1_method_1_code 42 = .ok (.dup, 1) := by decide +kernel
theorem d_P_init_43 : decode prog_1_method_1_code 43 = .ok (.iload_n 3, 1) := by decide +kernel
theorem d_P_init_44 : decode prog_1_method_1_code 44 = .ok (.invokespecial 27, 3) := by decide +kernel
theorem d_P_init_47 : decode prog_1_method_1_code 47 = .ok (.putfield 30, 3) := by decide +kernel
theorem d_P_init_50 : decode prog_1_method_1_code 50 = .ok (.aload_n 0, 1) := by decide +kernel
theorem d_P_init_51 : decode prog_1_method_1_code 51 = .ok (.new 34, 3) := by decide +kernel
theorem d_P_init_54 : decode prog_1_method_1_code 54 = .ok (.dup, 1) := by decide +kernel
theorem d_P_init_55 : decode prog_1_method_1_code 55 = .ok (.iload_n 3, 1) := by decide +kernel
theorem d_P_init_56 : decode prog_1_method_1_code 56 = .ok (.iload 4, 2) := by decide +kernel
theorem d_P_init_58 : decode prog_1_method_1_code 58 = .ok (.invokespecial 36, 3) := by decide +kernel
theorem d_P_init_61 : decode prog_1_method_1_code 61 = .ok (.putfield 39, 3) := by decide +kernel
theorem d_P_init_64 : decode prog_1_method_1_code 64 = .ok (.aload_n 0, 1) := by decide +kernel
theorem d_P_init_65 : decode prog_1_method_1_code 65 = .ok (.new 43, 3) := by decide +kernel
theorem d_P_init_68 : decode prog_1_method_1_code 68 = .ok (.dup, 1) := by decide +kernel
theorem d_P_init_69 : decode prog_1_method_1_code 69 = .ok (.iload_n 3, 1) := by decide +kernel
theorem d_P_init_70 : decode prog_1_method_1_code 70 = .ok (.iload 4, 2) := by decide +kernel
theorem d_P_init_72 : decode prog_1_method_1_code 72 = .ok (.invokespecial 45, 3) := by decide +kernel
theorem d_P_init_75 : decode prog_1_method_1_code 75 = .ok (.putfield 46, 3) := by decide +kernel
theorem d_P_init_78 : decode prog_1_method_1_code 78 = .ok (.return_, 1) := by decide +kernel
theorem k_P_init : Cond.code m_P_init.1 m_P_init.2.1 m_P_init.2.2.1 m_P_init.2.2.2.1 ∈ pe_WS := pe_w1 (List.mem_of_getElem? (i := 28) rfl)
theorem i_P_init : Cond.instanceMethod m_P_init.1 ∈ pe_WS := (pe_w1 (List.mem_of_getElem? (i := 27) (by decide +kernel)))
def B_P_init (cA : FieldType → ClassId) (h0 : Nat) (c : Int) (r : Int) (w1 : va_W) : Prop := ∃ (q28 q39 q5_44 q8_9_44 q16_44 q7_20_44 q15_20_44 q23_20_44 q31_20_44 q40_20_44 q27_44 q8_31_44 q17_31_44 q26_31_44 q41_44 q48_44 q51 q5_58 q12_3_9_58 q16_58 q8_22_58 q17_22_58 q65 q8_72 q14_72 q5_20_72 q8_11_20_72 q17_11_20_72 : Nat) (f38_22_58 f38_11_20_72 : Nat → Int32) (z11 z22 : Int), (1 ≤ z11 ∧ z11 ≤ 24) ∧ (1 ≤ z22 ∧ z22 ≤ 8) ∧ ((c < 1 → z11 = 1) ∧ (24 < c → z11 = 24) ∧ (1 ≤ c ∧ c ≤ 24 → z11 = c)) ∧ ((r < 1 → z22 = 1) ∧ (8 < r → z22 = 8) ∧ (1 ≤ r ∧ r ≤ 8 → z22 = r)) ∧ (∀ j : Nat, j < 192 → f38_22_58 j = 32) ∧ (∀ j : Nat, j < 192 → f38_11_20_72 j = 32) ∧ w1 = [(h0, .inr (0, [.ref q28, .ref q39, .ref q51, .ref q65])), (q28, .inr (1, [.int (Int32.ofInt (0)), .int 0, .int 0, .int 0, .int 0, .int 0, .int (Int32.ofInt (-1))])), (q39, .inr (2, [.ref q5_44, .ref q16_44, .ref q27_44, .ref q41_44, .ref q48_44, .int 0, .int (Int32.ofInt z11), .int 0, .int (Int32.ofInt (-1)), .int (Int32.ofInt (-1)), .int 0, .int (Int32.ofInt (1))])), (q5_44, .inr (3, [.ref q8_9_44, .int 0])), (q8_9_44, .inl (cA .int, 200, .inl (fun _ => 0))), (q16_44, .inr (4, [.ref q7_20_44, .ref q15_20_44, .ref q23_20_44, .ref q31_20_44, .ref q40_20_44, .int 0, .int 0])), (q7_20_44, .inl (cA .int, 12, .inl (fun _ => 0))), (q15_20_44, .inl (cA .int, 12, .inl (fun _ => 0))), (q23_20_44, .inl (cA .int, 12, .inl (fun _ => 0))), (q31_20_44, .inl (cA .boolean, 12, .inl (fun _ => 0))), (q40_20_44, .inl (cA .int, 2400, .inl (fun _ => 0))), (q27_44, .inr (5, [.ref q8_31_44, .ref q17_31_44, .ref q26_31_44])), (q8_31_44, .inl (cA .int, 201, .inl (fun _ => 0))), (q17_31_44, .inl (cA .int, 201, .inl (fun _ => 0))), (q26_31_44, .inl (cA .int, 201, .inl (fun _ => 0))), (q41_44, .inl (cA .int, 200, .inl (fun _ => 0))), (q48_44, .inl (cA .int, 1, .inl (fun _ => 0))), (q51, .inr (6, [.ref q16_58, .ref q5_58, .int 0, .int 0, .int 0])), (q5_58, .inr (8, [.ref q12_3_9_58, .int (Int32.ofInt (0)), .int 0, .int 0])), (q12_3_9_58, .inl (cA .byte, 16, .inl (fun _ => 0))), (q16_58, .inr (7, [.ref q8_22_58, .ref q17_22_58, .int (Int32.ofInt z11), .int (Int32.ofInt z22)])), (q17_22_58, .inl (cA .int, 192, .inl (fun _ => 0))), (q8_22_58, .inl (cA .int, 192, .inl f38_22_58)), (q65, .inr (9, [.ref q14_72, .ref q8_72, .int 0])), (q8_72, .inl (cA .int, 2048, .inl (fun _ => 0))), (q14_72, .inr (10, [.ref q5_20_72, .int 0, .int 0, .int 0, .int 0, .int 0, .int 0, .int 0])), (q5_20_72, .inr (7, [.ref q8_11_20_72, .ref q17_11_20_72, .int (Int32.ofInt z11), .int (Int32.ofInt z22)])), (q17_11_20_72, .inl (cA .int, 192, .inl (fun _ => 0))), (q8_11_20_72, .inl (cA .int, 192, .inl f38_11_20_72))]
set_option maxRecDepth 100000 in
set_option maxHeartbeats 4000000 in
theorem n_P_init {D : va_G} {cA : FieldType → ClassId} (h0 : Nat) (c : Int) (r : Int) (hc : pe_R c) (hr0 : pe_R r) : pn_C m_P_init 28 6343 [.ref h0, .int (Int32.ofInt c), .int (Int32.ofInt r)] [(h0, .inr (0, [.null, .null, .null, .null]))] D cA (B_P_init cA h0 c r) := by
  refine pn_enter (by decide) (Nat.le_of_ble_eq_true rfl) ?_
  intro l p e s m below meth c0 A X hr hlocks hname
  refine pn_lv (lv' := [(0, .ref h0), (1, .int (Int32.ofInt c)), (2, .int (Int32.ofInt r))]) [0, 1, 2] rfl ?_
  refine pn_aload_n X d_P_init_0 rfl 0 rfl ?_
  refine pn_objInit X d_P_init_1 (pe_w1 (List.mem_of_getElem? (i := 29) (by decide +kernel))) i_obj k_obj (Nat.le_of_ble_eq_true rfl) (Nat.le_of_ble_eq_true rfl) ?_
  refine pn_iconst X d_P_init_4 ?_
  refine pn_bipush X d_P_init_5 ?_
  refine pn_iload_n X d_P_init_7 rfl 1 rfl ?_
  refine pn_min X c_P_9 d_P_init_8 (by first | exact ⟨by decide, by decide⟩ | exact hc | exact hr0 | exact ⟨by omega, by omega⟩) (by first | exact ⟨by decide, by decide⟩ | exact hc | exact hr0 | exact ⟨by omega, by omega⟩) (Nat.le_of_ble_eq_true rfl) (Nat.le_of_ble_eq_true rfl) ⟨(Nat.le_of_ble_eq_true rfl), (Nat.le_of_ble_eq_true rfl)⟩ (fun z8 hz8 => ?_)
  refine pn_max X c_P_15 d_P_init_11 (by first | exact ⟨by decide, by decide⟩ | exact hc | exact hr0 | exact ⟨by omega, by omega⟩) (by first | exact ⟨by decide, by decide⟩ | exact hc | exact hr0 | exact ⟨by omega, by omega⟩) (Nat.le_of_ble_eq_true rfl) (Nat.le_of_ble_eq_true rfl) ⟨(Nat.le_of_ble_eq_true rfl), (Nat.le_of_ble_eq_true rfl)⟩ (fun z11 hz11 => ?_)
  refine pn_istore_n (lv' := [(3, .int (Int32.ofInt z11)), (0, .ref h0), (1, .int (Int32.ofInt c)), (2, .int (Int32.ofInt r))]) X d_P_init_14 rfl rfl ?_
  refine pn_iconst X d_P_init_15 ?_
  refine pn_bipush X d_P_init_16 ?_
  refine pn_iload_n X d_P_init_18 rfl 3 rfl ?_
  refine pn_min X c_P_9 d_P_init_19 (by first | exact ⟨by decide, by decide⟩ | exact hc | exact hr0 | exact ⟨by omega, by omega⟩) (by first | exact ⟨by decide, by decide⟩ | exact hc | exact hr0 | exact ⟨by omega, by omega⟩) (Nat.le_of_ble_eq_true rfl) (Nat.le_of_ble_eq_true rfl) ⟨(Nat.le_of_ble_eq_true rfl), (Nat.le_of_ble_eq_true rfl)⟩ (fun z19 hz19 => ?_)
  refine pn_max X c_P_15 d_P_init_22 (by first | exact ⟨by decide, by decide⟩ | exact hc | exact hr0 | exact ⟨by omega, by omega⟩) (by first | exact ⟨by decide, by decide⟩ | exact hc | exact hr0 | exact ⟨by omega, by omega⟩) (Nat.le_of_ble_eq_true rfl) (Nat.le_of_ble_eq_true rfl) ⟨(Nat.le_of_ble_eq_true rfl), (Nat.le_of_ble_eq_true rfl)⟩ (fun z22 hz22 => ?_)
  refine pn_istore (lv' := [(4, .int (Int32.ofInt z22)), (3, .int (Int32.ofInt z11)), (0, .ref h0), (1, .int (Int32.ofInt c)), (2, .int (Int32.ofInt r))]) X d_P_init_25 rfl ?_
  refine pn_aload_n X d_P_init_27 rfl 2 rfl ?_
  refine pn_new (ci := 1) (fs := [.int 0, .int 0, .int 0, .int 0, .int 0, .int 0, .int 0]) X d_P_init_28 pe_k1 (pe_w1 (List.mem_of_getElem? (i := 38) (by decide +kernel))) (pe_w1 (List.mem_of_getElem? (i := 39) (by decide +kernel))) (pe_w1 (List.mem_of_getElem? (i := 3) (by decide +kernel))) rfl (by decide +kernel) (Nat.le_of_ble_eq_true rfl) (Nat.le_of_ble_eq_true rfl) (fun q28 => ?_)
  refine pn_w (w' := [(h0, .inr (0, [.null, .null, .null, .null])), (q28, .inr (1, [.int 0, .int 0, .int 0, .int 0, .int 0, .int 0, .int 0]))]) rfl ?_
  refine pn_dup X d_P_init_31 ?_
  refine pn_st (st' := ([] : List Value).reverse ++ .ref q28 :: [.ref q28, .ref h0]) rfl (pn_callN (n := 0) (wr := [(h0, .inr (0, [.null, .null, .null, .null]))]) X (n_K_init q28) d_P_init_32 X.2.2.2.2.2.2.2.2.1 rfl i_K_init rfl k_K_init (pe_w1 (List.mem_of_getElem? (i := 3) (by decide +kernel))) (by decide +kernel) rfl [1] [0] rfl rfl ⟨rfl, rfl, by decide⟩ ⟨(Nat.le_of_ble_eq_true rfl), (Nat.le_of_ble_eq_true rfl)⟩ (Nat.le_of_ble_eq_true rfl) ⟨(Nat.le_of_ble_eq_true rfl), (Nat.le_of_ble_eq_true rfl)⟩ (fun w1 hw1 => ?_))
  have hw1 : w1 = _ := hw1
  subst hw1
  refine pn_w (w' := [(h0, .inr (0, [.null, .null, .null, .null])), (q28, .inr (1, [.int (Int32.ofInt (0)), .int 0, .int 0, .int 0, .int 0, .int 0, .int (Int32.ofInt (-1))]))]) rfl ?_
  refine pn_putF X f_P_21 h_0_0 hname d_P_init_35 0 rfl (by first | rfl | decide) (by first | rfl | decide) (Nat.le_of_ble_eq_true rfl) ?_
  refine pn_w (w' := [(h0, .inr (0, [.ref q28, .null, .null, .null])), (q28, .inr (1, [.int (Int32.ofInt (0)), .int 0, .int 0, .int 0, .int 0, .int 0, .int (Int32.ofInt (-1))]))]) rfl ?_
  refine pn_aload_n X d_P_init_38 rfl 2 rfl ?_
  refine pn_new (ci := 2) (fs := [.null, .null, .null, .null, .null, .int 0, .int 0, .int 0, .int 0, .int 0, .int 0, .int 0]) X d_P_init_39 pe_k2 (pe_w1 (List.mem_of_getElem? (i := 67) (by decide +kernel))) (pe_w1 (List.mem_of_getElem? (i := 68) (by decide +kernel))) (pe_w1 (List.mem_of_getElem? (i := 4) (by decide +kernel))) rfl (by decide +kernel) (Nat.le_of_ble_eq_true rfl) (Nat.le_of_ble_eq_true rfl) (fun q39 => ?_)
  refine pn_w (w' := [(h0, .inr (0, [.ref q28, .null, .null, .null])), (q28, .inr (1, [.int (Int32.ofInt (0)), .int 0, .int 0, .int 0, .int 0, .int 0, .int (Int32.ofInt (-1))])), (q39, .inr (2, [.null, .null, .null, .null, .null, .int 0, .int 0, .int 0, .int 0, .int 0, .int 0, .int 0]))]) rfl ?_
  refine pn_dup X d_P_init_42 ?_
  refine pn_iload_n X d_P_init_43 rfl 1 rfl ?_
  refine pn_st (st' := ([.int (Int32.ofInt z11)] : List Value).reverse ++ .ref q39 :: [.ref q39, .ref h0]) rfl (pn_call (n := 1) (wr := [(h0, .inr (0, [.ref q28, .null, .null, .null])), (q28, .inr (1, [.int (Int32.ofInt (0)), .int 0, .int 0, .int 0, .int 0, .int 0, .int (Int32.ofInt (-1))]))]) X (n_E_init q39 z11) d_P_init_44 (pe_w1 (List.mem_of_getElem? (i := 69) (by decide +kernel))) rfl i_E_init rfl k_E_init (pe_w1 (List.mem_of_getElem? (i := 4) (by decide +kernel))) (by decide +kernel) rfl [2] [0, 1] rfl rfl ⟨rfl, rfl, by decide⟩ ⟨(Nat.le_of_ble_eq_true rfl), (Nat.le_of_ble_eq_true rfl)⟩ (Nat.le_of_ble_eq_true rfl) ⟨(Nat.le_of_ble_eq_true rfl), (Nat.le_of_ble_eq_true rfl)⟩ (fun w1 hw1 => ?_))
  obtain ⟨q5_44, q8_9_44, q16_44, q7_20_44, q15_20_44, q23_20_44, q31_20_44, q40_20_44, q27_44, q8_31_44, q17_31_44, q26_31_44, q41_44, q48_44, rfl⟩ := hw1
  refine pn_w (w' := [(h0, .inr (0, [.ref q28, .null, .null, .null])), (q28, .inr (1, [.int (Int32.ofInt (0)), .int 0, .int 0, .int 0, .int 0, .int 0, .int (Int32.ofInt (-1))])), (q39, .inr (2, [.ref q5_44, .ref q16_44, .ref q27_44, .ref q41_44, .ref q48_44, .int 0, .int (Int32.ofInt z11), .int 0, .int (Int32.ofInt (-1)), .int (Int32.ofInt (-1)), .int 0, .int (Int32.ofInt (1))])), (q5_44, .inr (3, [.ref q8_9_44, .int 0])), (q8_9_44, .inl (cA .int, 200, .inl (fun _ => 0))), (q16_44, .inr (4, [.ref q7_20_44, .ref q15_20_44, .ref q23_20_44, .ref q31_20_44, .ref q40_20_44, .int 0, .int 0])), (q7_20_44, .inl (cA .int, 12, .inl (fun _ => 0))), (q15_20_44, .inl (cA .int, 12, .inl (fun _ => 0))), (q23_20_44, .inl (cA .int, 12, .inl (fun _ => 0))), (q31_20_44, .inl (cA .boolean, 12, .inl (fun _ => 0))), (q40_20_44, .inl (cA .int, 2400, .inl (fun _ => 0))), (q27_44, .inr (5, [.ref q8_31_44, .ref q17_31_44, .ref q26_31_44])), (q8_31_44, .inl (cA .int, 201, .inl (fun _ => 0))), (q17_31_44, .inl (cA .int, 201, .inl (fun _ => 0))), (q26_31_44, .inl (cA .int, 201, .inl (fun _ => 0))), (q41_44, .inl (cA .int, 200, .inl (fun _ => 0))), (q48_44, .inl (cA .int, 1, .inl (fun _ => 0)))]) rfl ?_
  refine pn_putF X f_P_30 h_0_1 hname d_P_init_47 0 rfl (by first | rfl | decide) (by first | rfl | decide) (Nat.le_of_ble_eq_true rfl) ?_
  refine pn_w (w' := [(h0, .inr (0, [.ref q28, .ref q39, .null, .null])), (q28, .inr (1, [.int (Int32.ofInt (0)), .int 0, .int 0, .int 0, .int 0, .int 0, .int (Int32.ofInt (-1))])), (q39, .inr (2, [.ref q5_44, .ref q16_44, .ref q27_44, .ref q41_44, .ref q48_44, .int 0, .int (Int32.ofInt z11), .int 0, .int (Int32.ofInt (-1)), .int (Int32.ofInt (-1)), .int 0, .int (Int32.ofInt (1))])), (q5_44, .inr (3, [.ref q8_9_44, .int 0])), (q8_9_44, .inl (cA .int, 200, .inl (fun _ => 0))), (q16_44, .inr (4, [.ref q7_20_44, .ref q15_20_44, .ref q23_20_44, .ref q31_20_44, .ref q40_20_44, .int 0, .int 0])), (q7_20_44, .inl (cA .int, 12, .inl (fun _ => 0))), (q15_20_44, .inl (cA .int, 12, .inl (fun _ => 0))), (q23_20_44, .inl (cA .int, 12, .inl (fun _ => 0))), (q31_20_44, .inl (cA .boolean, 12, .inl (fun _ => 0))), (q40_20_44, .inl (cA .int, 2400, .inl (fun _ => 0))), (q27_44, .inr (5, [.ref q8_31_44, .ref q17_31_44, .ref q26_31_44])), (q8_31_44, .inl (cA .int, 201, .inl (fun _ => 0))), (q17_31_44, .inl (cA .int, 201, .inl (fun _ => 0))), (q26_31_44, .inl (cA .int, 201, .inl (fun _ => 0))), (q41_44, .inl (cA .int, 200, .inl (fun _ => 0))), (q48_44, .inl (cA .int, 1, .inl (fun _ => 0)))]) rfl ?_
  refine pn_aload_n X d_P_init_50 rfl 2 rfl ?_
  refine pn_new (ci := 6) (fs := [.null, .null, .int 0, .int 0, .int 0]) X d_P_init_51 pe_k6 (pe_w1 (List.mem_of_getElem? (i := 192) (by decide +kernel))) (pe_w1 (List.mem_of_getElem? (i := 193) (by decide +kernel))) (pe_w1 (List.mem_of_getElem? (i := 8) (by decide +kernel))) rfl (by decide +kernel) (Nat.le_of_ble_eq_true rfl) (Nat.le_of_ble_eq_true rfl) (fun q51 => ?_)
  refine pn_w (w' := [(h0, .inr (0, [.ref q28, .ref q39, .null, .null])), (q28, .inr (1, [.int (Int32.ofInt (0)), .int 0, .int 0, .int 0, .int 0, .int 0, .int (Int32.ofInt (-1))])), (q39, .inr (2, [.ref q5_44, .ref q16_44, .ref q27_44, .ref q41_44, .ref q48_44, .int 0, .int (Int32.ofInt z11), .int 0, .int (Int32.ofInt (-1)), .int (Int32.ofInt (-1)), .int 0, .int (Int32.ofInt (1))])), (q5_44, .inr (3, [.ref q8_9_44, .int 0])), (q8_9_44, .inl (cA .int, 200, .inl (fun _ => 0))), (q16_44, .inr (4, [.ref q7_20_44, .ref q15_20_44, .ref q23_20_44, .ref q31_20_44, .ref q40_20_44, .int 0, .int 0])), (q7_20_44, .inl (cA .int, 12, .inl (fun _ => 0))), (q15_20_44, .inl (cA .int, 12, .inl (fun _ => 0))), (q23_20_44, .inl (cA .int, 12, .inl (fun _ => 0))), (q31_20_44, .inl (cA .boolean, 12, .inl (fun _ => 0))), (q40_20_44, .inl (cA .int, 2400, .inl (fun _ => 0))), (q27_44, .inr (5, [.ref q8_31_44, .ref q17_31_44, .ref q26_31_44])), (q8_31_44, .inl (cA .int, 201, .inl (fun _ => 0))), (q17_31_44, .inl (cA .int, 201, .inl (fun _ => 0))), (q26_31_44, .inl (cA .int, 201, .inl (fun _ => 0))), (q41_44, .inl (cA .int, 200, .inl (fun _ => 0))), (q48_44, .inl (cA .int, 1, .inl (fun _ => 0))), (q51, .inr (6, [.null, .null, .int 0, .int 0, .int 0]))]) rfl ?_
  refine pn_dup X d_P_init_54 ?_
  refine pn_iload_n X d_P_init_55 rfl 1 rfl ?_
  refine pn_iload X d_P_init_56 0 rfl ?_
  refine pn_st (st' := ([.int (Int32.ofInt z11), .int (Int32.ofInt z22)] : List Value).reverse ++ .ref q51 :: [.ref q51, .ref h0]) rfl (pn_call (n := 2) (wr := [(h0, .inr (0, [.ref q28, .ref q39, .null, .null])), (q28, .inr (1, [.int (Int32.ofInt (0)), .int 0, .int 0, .int 0, .int 0, .int 0, .int (Int32.ofInt (-1))])), (q39, .inr (2, [.ref q5_44, .ref q16_44, .ref q27_44, .ref q41_44, .ref q48_44, .int 0, .int (Int32.ofInt z11), .int 0, .int (Int32.ofInt (-1)), .int (Int32.ofInt (-1)), .int 0, .int (Int32.ofInt (1))])), (q5_44, .inr (3, [.ref q8_9_44, .int 0])), (q8_9_44, .inl (cA .int, 200, .inl (fun _ => 0))), (q16_44, .inr (4, [.ref q7_20_44, .ref q15_20_44, .ref q23_20_44, .ref q31_20_44, .ref q40_20_44, .int 0, .int 0])), (q7_20_44, .inl (cA .int, 12, .inl (fun _ => 0))), (q15_20_44, .inl (cA .int, 12, .inl (fun _ => 0))), (q23_20_44, .inl (cA .int, 12, .inl (fun _ => 0))), (q31_20_44, .inl (cA .boolean, 12, .inl (fun _ => 0))), (q40_20_44, .inl (cA .int, 2400, .inl (fun _ => 0))), (q27_44, .inr (5, [.ref q8_31_44, .ref q17_31_44, .ref q26_31_44])), (q8_31_44, .inl (cA .int, 201, .inl (fun _ => 0))), (q17_31_44, .inl (cA .int, 201, .inl (fun _ => 0))), (q26_31_44, .inl (cA .int, 201, .inl (fun _ => 0))), (q41_44, .inl (cA .int, 200, .inl (fun _ => 0))), (q48_44, .inl (cA .int, 1, .inl (fun _ => 0)))]) X (n_S_init q51 z11 z22) d_P_init_58 (pe_w1 (List.mem_of_getElem? (i := 194) (by decide +kernel))) rfl i_S_init rfl k_S_init (pe_w1 (List.mem_of_getElem? (i := 8) (by decide +kernel))) (by decide +kernel) rfl [17] [0, 1, 2, 3, 4, 5, 6, 7, 8, 9, 10, 11, 12, 13, 14, 15, 16] rfl rfl ⟨rfl, rfl, by decide⟩ ⟨(Nat.le_of_ble_eq_true rfl), (Nat.le_of_ble_eq_true rfl)⟩ (Nat.le_of_ble_eq_true rfl) ⟨(Nat.le_of_ble_eq_true rfl), (Nat.le_of_ble_eq_true rfl)⟩ (fun w1 hw1 => ?_))
  obtain ⟨q5_58, q12_3_9_58, q16_58, q8_22_58, q17_22_58, f38_22_58, hf38_22_58, rfl⟩ := hw1
  refine pn_w (w' := [(h0, .inr (0, [.ref q28, .ref q39, .null, .null])), (q28, .inr (1, [.int (Int32.ofInt (0)), .int 0, .int 0, .int 0, .int 0, .int 0, .int (Int32.ofInt (-1))])), (q39, .inr (2, [.ref q5_44, .ref q16_44, .ref q27_44, .ref q41_44, .ref q48_44, .int 0, .int (Int32.ofInt z11), .int 0, .int (Int32.ofInt (-1)), .int (Int32.ofInt (-1)), .int 0, .int (Int32.ofInt (1))])), (q5_44, .inr (3, [.ref q8_9_44, .int 0])), (q8_9_44, .inl (cA .int, 200, .inl (fun _ => 0))), (q16_44, .inr (4, [.ref q7_20_44, .ref q15_20_44, .ref q23_20_44, .ref q31_20_44, .ref q40_20_44, .int 0, .int 0])), (q7_20_44, .inl (cA .int, 12, .inl (fun _ => 0))), (q15_20_44, .inl (cA .int, 12, .inl (fun _ => 0))), (q23_20_44, .inl (cA .int, 12, .inl (fun _ => 0))), (q31_20_44, .inl (cA .boolean, 12, .inl (fun _ => 0))), (q40_20_44, .inl (cA .int, 2400, .inl (fun _ => 0))), (q27_44, .inr (5, [.ref q8_31_44, .ref q17_31_44, .ref q26_31_44])), (q8_31_44, .inl (cA .int, 201, .inl (fun _ => 0))), (q17_31_44, .inl (cA .int, 201, .inl (fun _ => 0))), (q26_31_44, .inl (cA .int, 201, .inl (fun _ => 0))), (q41_44, .inl (cA .int, 200, .inl (fun _ => 0))), (q48_44, .inl (cA .int, 1, .inl (fun _ => 0))), (q51, .inr (6, [.ref q16_58, .ref q5_58, .int 0, .int 0, .int 0])), (q5_58, .inr (8, [.ref q12_3_9_58, .int (Int32.ofInt (0)), .int 0, .int 0])), (q12_3_9_58, .inl (cA .byte, 16, .inl (fun _ => 0))), (q16_58, .inr (7, [.ref q8_22_58, .ref q17_22_58, .int (Int32.ofInt z11), .int (Int32.ofInt z22)])), (q17_22_58, .inl (cA .int, 192, .inl (fun _ => 0))), (q8_22_58, .inl (cA .int, 192, .inl f38_22_58))]) rfl ?_
  refine pn_putF X f_P_39 h_0_2 hname d_P_init_61 0 rfl (by first | rfl | decide) (by first | rfl | decide) (Nat.le_of_ble_eq_true rfl) ?_
  refine pn_w (w' := [(h0, .inr (0, [.ref q28, .ref q39, .ref q51, .null])), (q28, .inr (1, [.int (Int32.ofInt (0)), .int 0, .int 0, .int 0, .int 0, .int 0, .int (Int32.ofInt (-1))])), (q39, .inr (2, [.ref q5_44, .ref q16_44, .ref q27_44, .ref q41_44, .ref q48_44, .int 0, .int (Int32.ofInt z11), .int 0, .int (Int32.ofInt (-1)), .int (Int32.ofInt (-1)), .int 0, .int (Int32.ofInt (1))])), (q5_44, .inr (3, [.ref q8_9_44, .int 0])), (q8_9_44, .inl (cA .int, 200, .inl (fun _ => 0))), (q16_44, .inr (4, [.ref q7_20_44, .ref q15_20_44, .ref q23_20_44, .ref q31_20_44, .ref q40_20_44, .int 0, .int 0])), (q7_20_44, .inl (cA .int, 12, .inl (fun _ => 0))), (q15_20_44, .inl (cA .int, 12, .inl (fun _ => 0))), (q23_20_44, .inl (cA .int, 12, .inl (fun _ => 0))), (q31_20_44, .inl (cA .boolean, 12, .inl (fun _ => 0))), (q40_20_44, .inl (cA .int, 2400, .inl (fun _ => 0))), (q27_44, .inr (5, [.ref q8_31_44, .ref q17_31_44, .ref q26_31_44])), (q8_31_44, .inl (cA .int, 201, .inl (fun _ => 0))), (q17_31_44, .inl (cA .int, 201, .inl (fun _ => 0))), (q26_31_44, .inl (cA .int, 201, .inl (fun _ => 0))), (q41_44, .inl (cA .int, 200, .inl (fun _ => 0))), (q48_44, .inl (cA .int, 1, .inl (fun _ => 0))), (q51, .inr (6, [.ref q16_58, .ref q5_58, .int 0, .int 0, .int 0])), (q5_58, .inr (8, [.ref q12_3_9_58, .int (Int32.ofInt (0)), .int 0, .int 0])), (q12_3_9_58, .inl (cA .byte, 16, .inl (fun _ => 0))), (q16_58, .inr (7, [.ref q8_22_58, .ref q17_22_58, .int (Int32.ofInt z11), .int (Int32.ofInt z22)])), (q17_22_58, .inl (cA .int, 192, .inl (fun _ => 0))), (q8_22_58, .inl (cA .int, 192, .inl f38_22_58))]) rfl ?_
  refine pn_aload_n X d_P_init_64 rfl 2 rfl ?_
  refine pn_new (ci := 9) (fs := [.null, .null, .int 0]) X d_P_init_65 pe_k9 (pe_w2 (List.mem_of_getElem? (i := 38) (by decide +kernel))) (pe_w2 (List.mem_of_getElem? (i := 39) (by decide +kernel))) (pe_w1 (List.mem_of_getElem? (i := 15) (by decide +kernel))) rfl (by decide +kernel) (Nat.le_of_ble_eq_true rfl) (Nat.le_of_ble_eq_true rfl) (fun q65 => ?_)
  refine pn_w (w' := [(h0, .inr (0, [.ref q28, .ref q39, .ref q51, .null])), (q28, .inr (1, [.int (Int32.ofInt (0)), .int 0, .int 0, .int 0, .int 0, .int 0, .int (Int32.ofInt (-1))])), (q39, .inr (2, [.ref q5_44, .ref q16_44, .ref q27_44, .ref q41_44, .ref q48_44, .int 0, .int (Int32.ofInt z11), .int 0, .int (Int32.ofInt (-1)), .int (Int32.ofInt (-1)), .int 0, .int (Int32.ofInt (1))])), (q5_44, .inr (3, [.ref q8_9_44, .int 0])), (q8_9_44, .inl (cA .int, 200, .inl (fun _ => 0))), (q16_44, .inr (4, [.ref q7_20_44, .ref q15_20_44, .ref q23_20_44, .ref q31_20_44, .ref q40_20_44, .int 0, .int 0])), (q7_20_44, .inl (cA .int, 12, .inl (fun _ => 0))), (q15_20_44, .inl (cA .int, 12, .inl (fun _ => 0))), (q23_20_44, .inl (cA .int, 12, .inl (fun _ => 0))), (q31_20_44, .inl (cA .boolean, 12, .inl (fun _ => 0))), (q40_20_44, .inl (cA .int, 2400, .inl (fun _ => 0))), (q27_44, .inr (5, [.ref q8_31_44, .ref q17_31_44, .ref q26_31_44])), (q8_31_44, .inl (cA .int, 201, .inl (fun _ => 0))), (q17_31_44, .inl (cA .int, 201, .inl (fun _ => 0))), (q26_31_44, .inl (cA .int, 201, .inl (fun _ => 0))), (q41_44, .inl (cA .int, 200, .inl (fun _ => 0))), (q48_44, .inl (cA .int, 1, .inl (fun _ => 0))), (q51, .inr (6, [.ref q16_58, .ref q5_58, .int 0, .int 0, .int 0])), (q5_58, .inr (8, [.ref q12_3_9_58, .int (Int32.ofInt (0)), .int 0, .int 0])), (q12_3_9_58, .inl (cA .byte, 16, .inl (fun _ => 0))), (q16_58, .inr (7, [.ref q8_22_58, .ref q17_22_58, .int (Int32.ofInt z11), .int (Int32.ofInt z22)])), (q17_22_58, .inl (cA .int, 192, .inl (fun _ => 0))), (q8_22_58, .inl (cA .int, 192, .inl f38_22_58)), (q65, .inr (9, [.null, .null, .int 0]))]) rfl ?_
  refine pn_dup X d_P_init_68 ?_
  refine pn_iload_n X d_P_init_69 rfl 1 rfl ?_
  refine pn_iload X d_P_init_70 0 rfl ?_
  refine pn_st (st' := ([.int (Int32.ofInt z11), .int (Int32.ofInt z22)] : List Value).reverse ++ .ref q65 :: [.ref q65, .ref h0]) rfl (pn_call (n := 2) (wr := [(h0, .inr (0, [.ref q28, .ref q39, .ref q51, .null])), (q28, .inr (1, [.int (Int32.ofInt (0)), .int 0, .int 0, .int 0, .int 0, .int 0, .int (Int32.ofInt (-1))])), (q39, .inr (2, [.ref q5_44, .ref q16_44, .ref q27_44, .ref q41_44, .ref q48_44, .int 0, .int (Int32.ofInt z11), .int 0, .int (Int32.ofInt (-1)), .int (Int32.ofInt (-1)), .int 0, .int (Int32.ofInt (1))])), (q5_44, .inr (3, [.ref q8_9_44, .int 0])), (q8_9_44, .inl (cA .int, 200, .inl (fun _ => 0))), (q16_44, .inr (4, [.ref q7_20_44, .ref q15_20_44, .ref q23_20_44, .ref q31_20_44, .ref q40_20_44, .int 0, .int 0])), (q7_20_44, .inl (cA .int, 12, .inl (fun _ => 0))), (q15_20_44, .inl (cA .int, 12, .inl (fun _ => 0))), (q23_20_44, .inl (cA .int, 12, .inl (fun _ => 0))), (q31_20_44, .inl (cA .boolean, 12, .inl (fun _ => 0))), (q40_20_44, .inl (cA .int, 2400, .inl (fun _ => 0))), (q27_44, .inr (5, [.ref q8_31_44, .ref q17_31_44, .ref q26_31_44])), (q8_31_44, .inl (cA .int, 201, .inl (fun _ => 0))), (q17_31_44, .inl (cA .int, 201, .inl (fun _ => 0))), (q26_31_44, .inl (cA .int, 201, .inl (fun _ => 0))), (q41_44, .inl (cA .int, 200, .inl (fun _ => 0))), (q48_44, .inl (cA .int, 1, .inl (fun _ => 0))), (q51, .inr (6, [.ref q16_58, .ref q5_58, .int 0, .int 0, .int 0])), (q5_58, .inr (8, [.ref q12_3_9_58, .int (Int32.ofInt (0)), .int 0, .int 0])), (q12_3_9_58, .inl (cA .byte, 16, .inl (fun _ => 0))), (q16_58, .inr (7, [.ref q8_22_58, .ref q17_22_58, .int (Int32.ofInt z11), .int (Int32.ofInt z22)])), (q17_22_58, .inl (cA .int, 192, .inl (fun _ => 0))), (q8_22_58, .inl (cA .int, 192, .inl f38_22_58))]) X (n_Q_init q65 z11 z22) d_P_init_72 (pe_w2 (List.mem_of_getElem? (i := 40) (by decide +kernel))) rfl i_Q_init rfl k_Q_init (pe_w1 (List.mem_of_getElem? (i := 15) (by decide +kernel))) (by decide +kernel) rfl [23] [0, 1, 2, 3, 4, 5, 6, 7, 8, 9, 10, 11, 12, 13, 14, 15, 16, 17, 18, 19, 20, 21, 22] rfl rfl ⟨rfl, rfl, by decide⟩ ⟨(Nat.le_of_ble_eq_true rfl), (Nat.le_of_ble_eq_true rfl)⟩ (Nat.le_of_ble_eq_true rfl) ⟨(Nat.le_of_ble_eq_true rfl), (Nat.le_of_ble_eq_true rfl)⟩ (fun w1 hw1 => ?_))
  obtain ⟨q8_72, q14_72, q5_20_72, q8_11_20_72, q17_11_20_72, f38_11_20_72, hf38_11_20_72, rfl⟩ := hw1
  refine pn_w (w' := [(h0, .inr (0, [.ref q28, .ref q39, .ref q51, .null])), (q28, .inr (1, [.int (Int32.ofInt (0)), .int 0, .int 0, .int 0, .int 0, .int 0, .int (Int32.ofInt (-1))])), (q39, .inr (2, [.ref q5_44, .ref q16_44, .ref q27_44, .ref q41_44, .ref q48_44, .int 0, .int (Int32.ofInt z11), .int 0, .int (Int32.ofInt (-1)), .int (Int32.ofInt (-1)), .int 0, .int (Int32.ofInt (1))])), (q5_44, .inr (3, [.ref q8_9_44, .int 0])), (q8_9_44, .inl (cA .int, 200, .inl (fun _ => 0))), (q16_44, .inr (4, [.ref q7_20_44, .ref q15_20_44, .ref q23_20_44, .ref q31_20_44, .ref q40_20_44, .int 0, .int 0])), (q7_20_44, .inl (cA .int, 12, .inl (fun _ => 0))), (q15_20_44, .inl (cA .int, 12, .inl (fun _ => 0))), (q23_20_44, .inl (cA .int, 12, .inl (fun _ => 0))), (q31_20_44, .inl (cA .boolean, 12, .inl (fun _ => 0))), (q40_20_44, .inl (cA .int, 2400, .inl (fun _ => 0))), (q27_44, .inr (5, [.ref q8_31_44, .ref q17_31_44, .ref q26_31_44])), (q8_31_44, .inl (cA .int, 201, .inl (fun _ => 0))), (q17_31_44, .inl (cA .int, 201, .inl (fun _ => 0))), (q26_31_44, .inl (cA .int, 201, .inl (fun _ => 0))), (q41_44, .inl (cA .int, 200, .inl (fun _ => 0))), (q48_44, .inl (cA .int, 1, .inl (fun _ => 0))), (q51, .inr (6, [.ref q16_58, .ref q5_58, .int 0, .int 0, .int 0])), (q5_58, .inr (8, [.ref q12_3_9_58, .int (Int32.ofInt (0)), .int 0, .int 0])), (q12_3_9_58, .inl (cA .byte, 16, .inl (fun _ => 0))), (q16_58, .inr (7, [.ref q8_22_58, .ref q17_22_58, .int (Int32.ofInt z11), .int (Int32.ofInt z22)])), (q17_22_58, .inl (cA .int, 192, .inl (fun _ => 0))), (q8_22_58, .inl (cA .int, 192, .inl f38_22_58)), (q65, .inr (9, [.ref q14_72, .ref q8_72, .int 0])), (q8_72, .inl (cA .int, 2048, .inl (fun _ => 0))), (q14_72, .inr (10, [.ref q5_20_72, .int 0, .int 0, .int 0, .int 0, .int 0, .int 0, .int 0])), (q5_20_72, .inr (7, [.ref q8_11_20_72, .ref q17_11_20_72, .int (Int32.ofInt z11), .int (Int32.ofInt z22)])), (q17_11_20_72, .inl (cA .int, 192, .inl (fun _ => 0))), (q8_11_20_72, .inl (cA .int, 192, .inl f38_11_20_72))]) rfl ?_
  refine pn_putF X f_P_46 h_0_3 hname d_P_init_75 0 rfl (by first | rfl | decide) (by first | rfl | decide) (Nat.le_of_ble_eq_true rfl) ?_
  refine pn_w (w' := [(h0, .inr (0, [.ref q28, .ref q39, .ref q51, .ref q65])), (q28, .inr (1, [.int (Int32.ofInt (0)), .int 0, .int 0, .int 0, .int 0, .int 0, .int (Int32.ofInt (-1))])), (q39, .inr (2, [.ref q5_44, .ref q16_44, .ref q27_44, .ref q41_44, .ref q48_44, .int 0, .int (Int32.ofInt z11), .int 0, .int (Int32.ofInt (-1)), .int (Int32.ofInt (-1)), .int 0, .int (Int32.ofInt (1))])), (q5_44, .inr (3, [.ref q8_9_44, .int 0])), (q8_9_44, .inl (cA .int, 200, .inl (fun _ => 0))), (q16_44, .inr (4, [.ref q7_20_44, .ref q15_20_44, .ref q23_20_44, .ref q31_20_44, .ref q40_20_44, .int 0, .int 0])), (q7_20_44, .inl (cA .int, 12, .inl (fun _ => 0))), (q15_20_44, .inl (cA .int, 12, .inl (fun _ => 0))), (q23_20_44, .inl (cA .int, 12, .inl (fun _ => 0))), (q31_20_44, .inl (cA .boolean, 12, .inl (fun _ => 0))), (q40_20_44, .inl (cA .int, 2400, .inl (fun _ => 0))), (q27_44, .inr (5, [.ref q8_31_44, .ref q17_31_44, .ref q26_31_44])), (q8_31_44, .inl (cA .int, 201, .inl (fun _ => 0))), (q17_31_44, .inl (cA .int, 201, .inl (fun _ => 0))), (q26_31_44, .inl (cA .int, 201, .inl (fun _ => 0))), (q41_44, .inl (cA .int, 200, .inl (fun _ => 0))), (q48_44, .inl (cA .int, 1, .inl (fun _ => 0))), (q51, .inr (6, [.ref q16_58, .ref q5_58, .int 0, .int 0, .int 0])), (q5_58, .inr (8, [.ref q12_3_9_58, .int (Int32.ofInt (0)), .int 0, .int 0])), (q12_3_9_58, .inl (cA .byte, 16, .inl (fun _ => 0))), (q16_58, .inr (7, [.ref q8_22_58, .ref q17_22_58, .int (Int32.ofInt z11), .int (Int32.ofInt z22)])), (q17_22_58, .inl (cA .int, 192, .inl (fun _ => 0))), (q8_22_58, .inl (cA .int, 192, .inl f38_22_58)), (q65, .inr (9, [.ref q14_72, .ref q8_72, .int 0])), (q8_72, .inl (cA .int, 2048, .inl (fun _ => 0))), (q14_72, .inr (10, [.ref q5_20_72, .int 0, .int 0, .int 0, .int 0, .int 0, .int 0, .int 0])), (q5_20_72, .inr (7, [.ref q8_11_20_72, .ref q17_11_20_72, .int (Int32.ofInt z11), .int (Int32.ofInt z22)])), (q17_11_20_72, .inl (cA .int, 192, .inl (fun _ => 0))), (q8_11_20_72, .inl (cA .int, 192, .inl f38_11_20_72))]) rfl ?_
  exact pn_ret X hr hlocks d_P_init_78 ⟨q28, q39, q5_44, q8_9_44, q16_44, q7_20_44, q15_20_44, q23_20_44, q31_20_44, q40_20_44, q27_44, q8_31_44, q17_31_44, q26_31_44, q41_44, q48_44, q51, q5_58, q12_3_9_58, q16_58, q8_22_58, q17_22_58, q65, q8_72, q14_72, q5_20_72, q8_11_20_72, q17_11_20_72, f38_22_58, f38_11_20_72, z11, z22, by omega, by omega, by omega, by omega, hf38_22_58, hf38_11_20_72, rfl⟩
