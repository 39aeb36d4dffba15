/-! THE CLAIM OUT OF ONE WALK OF THE LAW'S BODY. Your part is whole_start (and what it stands on); all else here is the same for every law, but numbers. -/
def R_law : String := "PaintEditorLaw"
def lw_P (b : Addr) (xs : List Int32) (args : Array Value) (s : State) : Prop := args = #[.ref b] ∧ s.IntsAt b xs ∧ xs.length ≤ 2050 ∧ (Jvm.Cond.and given_1 narrow_1).before args s = true
def lw_Q (_ : Array Value) (s : State) (o : Outcome) (t : State) : Prop := o = .returned (some (.int 1)) ∧ Framed s o t [] 600000 7302250
def lw_Z (below : List Frame) (a : Array Value) (s : State) : State → Prop := fun t => ∃ o, t.status = .running ∧ Ended t below o ∧ lw_Q a s o t
/-- the law's own end, with 1 on the stack, nothing written that was there before, its room as the claim has it -/
theorem lw_ret {p : Program} {l : Launch} {e : Env} {s : State} {m : MethodId} {below : List Frame} {meth : Method} {c : Code} {b : Nat} (hx : p.tables.exec = Jvm.exec) (hb : c.code = code) (hr : meth.sig.returnType = ret) (hlocks : meth.locks = false) {pc : Nat} {H : Heap} {ls : Array Slot} (hdg : decode code pc = .ok (.ireturn, 1)) : W p l e room_1 s m #[Value.ref b] below meth c H [] 600000 7302250 (lw_Z below #[Value.ref b] s) (F0 m pc ls [.int 1]) := by
  intro T hT X
  obtain ⟨fs, hret, hrun, hended, hW, hframe⟩ := X.leave (v := some (.int 1)) (hlocks := hlocks) (fun h => by rw [hr] at h; cases h)
  have hmeth' : T.vm.method? m = some meth := X.method'
  refine ⟨T.setFrames fs, ?_, .returned (some (.int 1)), hrun, hended, rfl, ⟨_, rfl⟩, hW, hframe⟩
  jvm_step X.here [X.here.top, hx, hb, hdg, hmeth', hr, ret, narrow_b1]
  (try refine ⟨rfl, ?_⟩); (try refine ⟨rfl, ?_⟩)
  first | (intro acts; rw [hret _ acts rfl rfl rfl]) | rw [hret _ _ rfl rfl rfl]
  exact Steps.refl _
/-- what holds at the law's entry: the machine, the code, the tables' words (any of lw_tbl by 'hts w (by decide +kernel)'), the script of L ints xs at the cell b, what the Statement gives of the start (any of its parts by flat_of_before) -/
def lw_At (p : Program) (s : State) (m : MethodId) (meth : Method) (c : Code) (b L : Nat) (xs : Nat → Int32) : Prop :=
  p.tables.exec = Jvm.exec ∧ c.code = code ∧ meth.sig.returnType = ret ∧ c.maxLocals = 4 ∧ s.vm.findClass R_law = some m.cls ∧ (∀ w ∈ lw_tbl, w.before #[Value.ref b] s = true) ∧ va_X b L xs s s.heap ∧ b < s.heap.size ∧ meth.locks = false ∧ (Jvm.Cond.and given_1 narrow_1).before #[Value.ref b] s = true

/-- the law's end -/
theorem lw_fin {p : Program} {e : Env} {s : State} {m : MethodId} {below : List Frame} {meth : Method} {c : Code} {l : Launch} {D : va_G} {cA : FieldType → ClassId} {b : Nat} {lv : List (Nat × Value)} {w : va_W} {k n : Nat} (X : pn_X "PaintEditorLaw" code 4 D cA (fun q => s.heap.size ≤ q) p s m #[Value.ref b] c) (hr : meth.sig.returnType = ret) (hlocks : meth.locks = false) (hk : k ≤ 600000) (hn : n ≤ 7302250) : pn_G 4 D (fun q => s.heap.size ≤ q) p l e room_1 s m #[Value.ref b] below meth c (lw_Z below #[Value.ref b] s) 394 lv [] w k n := by
  intro H locs ls hl hP hD hS
  refine W.widen (k := 600000) (n := 7302250) hk hn ?_
  refine va_forget (fun q hq => hS.2.2 q hq) ?_
  refine lv_iconst X.1 X.2.1 d_W_394 rfl ?_
  exact lw_ret X.1 X.2.1 hr hlocks d_W_395
abbrev lw_I (σ : pe_H) : Prop := pe_B σ ∧ pe_CI σ ∧ pe_MI σ
set_option maxRecDepth 100000 in
set_option maxHeartbeats 4000000 in
theorem lw_loop {p : Program} {e : Env} {s : State} {m : MethodId} {below : List Frame} {meth : Method} {c : Code} {l : Launch} {D : va_G} {cA : FieldType → ClassId} {b L : Nat} {xs : Nat → Int32} (ad : Nat → Nat) (X : pn_X "PaintEditorLaw" code 4 D cA (fun q => s.heap.size ≤ q) p s m #[Value.ref b] c) (hr : meth.sig.returnType = ret) (hlocks : meth.locks = false) (hX : va_X b L xs s s.heap) (hbl : b < s.heap.size) (hL : L ≤ 2050) (hZ : pe_Zs ad (fun q => s.heap.size ≤ q) s s.heap) : ∀ x : Int × pe_H, ((2 ≤ x.1 ∧ x.1 ≤ 3000) ∧ lw_I x.2) → pn_G 4 D (fun q => s.heap.size ≤ q) p l e room_1 s m #[Value.ref b] below meth c (lw_Z below #[Value.ref b] s) 38 [(3, .int (Int32.ofInt x.1)), (2, .ref (ad 29)), (1, .ref (ad 0)), (0, .ref b)] [] (pe_wd ad cA x.2) 47 16994 := by
  have hbA : ¬ (s.heap.size ≤ b) := by omega
  refine pe_loop (fun x => (4000 - x.1).toNat) _ _ ?_
  rintro ⟨i, σ⟩ hI ih
  dsimp only at hI ih ⊢
  obtain ⟨hi, hB, hC, hM⟩ := hI
  have J388 : ∀ σ' : pe_H, i ≤ 2050 → lw_I σ' → pn_G 4 D (fun q => s.heap.size ≤ q) p l e room_1 s m #[Value.ref b] below meth c (lw_Z below #[Value.ref b] s) 388 [(3, .int (Int32.ofInt i)), (2, .ref (ad 29)), (1, .ref (ad 0)), (0, .ref b)] [] (pe_wd ad cA σ') 47 16994 := by
    intro σ' h0 h1
    refine pn_iinc (lv' := [(3, .int (Int32.ofInt (i + 4))), (2, .ref (ad 29)), (1, .ref (ad 0)), (0, .ref b)]) X d_W_388 0 rfl rfl ?_
    refine pn_goto (t := 38) X d_W_391 ?_
    exact ih (i + 4, σ') ⟨by dsimp only; omega, h1⟩ (by dsimp only; omega)
  refine pn_iload_n X d_W_38 rfl 0 rfl ?_
  refine pn_aload_n X d_W_39 rfl 3 rfl ?_
  refine pn_slen X hX hbl hbA d_W_40 ?_
  refine pn_iconst X d_W_41 ?_
  refine pn_isub X d_W_42 ?_
  refine pn_icmp_gt (t := 394) X d_W_43 ⟨by omega, by omega⟩ ⟨by omega, by omega⟩ (fun h43 => ?_) (fun h43 => ?_)
  · exact lw_fin X hr hlocks (Nat.le_of_ble_eq_true rfl) (Nat.le_of_ble_eq_true rfl)
  refine pn_aload_n X d_W_46 rfl 3 rfl ?_
  refine pn_iload_n X d_W_47 rfl 0 rfl ?_
  refine pn_sld X hX hbl hbA d_W_48 (by omega) (by omega) (by omega) ?_
  refine pn_bipush X d_W_49 ?_
  refine pn_iand X d_W_51 ?_
  refine pn_tsw (dt := 388) X [(0, 108), (1, 171), (2, 184), (3, 217), (4, 230), (5, 253), (6, 276), (7, 309), (8, 342), (9, 365)] d_W_52 (pe_Ri _) ?_
  refine ⟨fun _ => ?_, fun _ => ?_⟩
  · show pn_G 4 D (fun q => s.heap.size ≤ q) p l e room_1 s m #[Value.ref b] below meth c (lw_Z below #[Value.ref b] s) 108 [(3, .int (Int32.ofInt i)), (2, .ref (ad 29)), (1, .ref (ad 0)), (0, .ref b)] [] (pe_wd ad cA σ) 47 16994
    refine pn_aload_n X d_W_108 rfl 2 rfl ?_
    refine pn_aload_n X d_W_109 rfl 3 rfl ?_
    refine pn_iload_n X d_W_110 rfl 0 rfl ?_
    refine pn_iconst X d_W_111 ?_
    refine pn_iadd X d_W_112 ?_
    refine pn_sld X hX hbl hbA d_W_113 (by omega) (by omega) (by omega) ?_
    refine pn_i2l X d_W_114 ?_
    refine pn_bipush X d_W_115 ?_
    refine pn_lshl X d_W_117 ?_
    refine pn_aload_n X d_W_118 rfl 3 rfl ?_
    refine pn_iload_n X d_W_119 rfl 0 rfl ?_
    refine pn_iconst X d_W_120 ?_
    refine pn_iadd X d_W_121 ?_
    refine pn_sld X hX hbl hbA d_W_122 (by omega) (by omega) (by omega) ?_
    refine pn_i2l X d_W_123 ?_
    refine pn_ldc2 X q_W_21 d_W_124 ?_
    refine pn_land X d_W_127 ?_
    refine pn_lor X d_W_128 ?_
    refine pn_aload_n X d_W_129 rfl 3 rfl ?_
    refine pn_iload_n X d_W_130 rfl 0 rfl ?_
    refine pn_iconst X d_W_131 ?_
    refine pn_iadd X d_W_132 ?_
    refine pn_sld X hX hbl hbA d_W_133 (by omega) (by omega) (by omega) ?_
    refine pn_st (st' := (([pe_l _, pe_i ((xs (i + 3).toNat).toInt)] : List pe_V).map (pe_c ad)).reverse ++ .ref (ad 0) :: []) rfl (pn_callM (n := 2) (b := 0) X hZ (t_P_type hB hC (pe_Ri _)) d_W_134 c_W_23 i_P_type s_P_type rfl rfl rfl (Nat.le_of_ble_eq_true rfl) (Nat.le_of_ble_eq_true rfl) (Nat.le_of_ble_eq_true rfl) ⟨(Nat.le_of_ble_eq_true rfl), (Nat.le_of_ble_eq_true rfl)⟩ (fun r1 σ1 hq1 => ?_))
    obtain ⟨z1, rfl, hB1, fr1, hC1⟩ := hq1
    have hM1 : pe_MI σ1 := pe_MI_congr (pe_frC fr1) hM
    refine pn_st (st' := [.int (Int32.ofInt z1)]) rfl ?_
    refine pn_pop X d_W_137 ?_
    refine pn_aload_n X d_W_138 rfl 1 rfl ?_
    refine pn_aload_n X d_W_139 rfl 3 rfl ?_
    refine pn_iload_n X d_W_140 rfl 0 rfl ?_
    refine pn_iconst X d_W_141 ?_
    refine pn_iadd X d_W_142 ?_
    refine pn_sld X hX hbl hbA d_W_143 (by omega) (by omega) (by omega) ?_
    refine pn_i2l X d_W_144 ?_
    refine pn_bipush X d_W_145 ?_
    refine pn_lshl X d_W_147 ?_
    refine pn_aload_n X d_W_148 rfl 3 rfl ?_
    refine pn_iload_n X d_W_149 rfl 0 rfl ?_
    refine pn_iconst X d_W_150 ?_
    refine pn_iadd X d_W_151 ?_
    refine pn_sld X hX hbl hbA d_W_152 (by omega) (by omega) (by omega) ?_
    refine pn_i2l X d_W_153 ?_
    refine pn_ldc2 X q_W_21 d_W_154 ?_
    refine pn_land X d_W_157 ?_
    refine pn_lor X d_W_158 ?_
    refine pn_aload_n X d_W_159 rfl 3 rfl ?_
    refine pn_iload_n X d_W_160 rfl 0 rfl ?_
    refine pn_iconst X d_W_161 ?_
    refine pn_iadd X d_W_162 ?_
    refine pn_sld X hX hbl hbA d_W_163 (by omega) (by omega) (by omega) ?_
    refine pn_st (st' := (([pe_l _, pe_i ((xs (i + 3).toNat).toInt)] : List pe_V).map (pe_c ad)).reverse ++ .ref (ad 29) :: []) rfl (pn_callM (n := 2) (b := 29) X hZ (t_M_type hB1 hM1.1 hM1.2.1 ⟨hM1.2.2.1.1, hM1.2.2.1.2.1⟩ (pe_Ri _)) d_W_164 c_W_27 i_M_type s_M_type rfl rfl rfl (Nat.le_of_ble_eq_true rfl) (Nat.le_of_ble_eq_true rfl) (Nat.le_of_ble_eq_true rfl) ⟨(Nat.le_of_ble_eq_true rfl), (Nat.le_of_ble_eq_true rfl)⟩ (fun r2 σ2 hq2 => ?_))
    obtain ⟨z2, rfl, hB2, fr2, o2, x2⟩ := hq2
    have hC2 : pe_CI σ2 := pe_CI_congr (pe_frM fr2) hC1
    have hM2 : pe_MI σ2 := pe_MI_type hM1 fr2 o2 x2
    refine pn_st (st' := [.int (Int32.ofInt z2)]) rfl ?_
    refine pn_pop X d_W_167 ?_
    refine pn_goto (t := 388) X d_W_168 ?_
    exact J388 _ (by omega) ⟨hB2, hC2, hM2⟩
  refine ⟨fun _ => ?_, fun _ => ?_⟩
  · show pn_G 4 D (fun q => s.heap.size ≤ q) p l e room_1 s m #[Value.ref b] below meth c (lw_Z below #[Value.ref b] s) 171 [(3, .int (Int32.ofInt i)), (2, .ref (ad 29)), (1, .ref (ad 0)), (0, .ref b)] [] (pe_wd ad cA σ) 47 16994
    refine pn_aload_n X d_W_171 rfl 2 rfl ?_
    refine pn_st (st' := (([] : List pe_V).map (pe_c ad)).reverse ++ .ref (ad 0) :: []) rfl (pn_callM (n := 0) (b := 0) X hZ (t_P_tick hB hC ) d_W_172 c_W_28 i_P_tick s_P_tick rfl rfl rfl (Nat.le_of_ble_eq_true rfl) (Nat.le_of_ble_eq_true rfl) (Nat.le_of_ble_eq_true rfl) ⟨(Nat.le_of_ble_eq_true rfl), (Nat.le_of_ble_eq_true rfl)⟩ (fun r1 σ1 hq1 => ?_))
    obtain ⟨z1, rfl, hB1, fr1, hC1⟩ := hq1
    have hM1 : pe_MI σ1 := pe_MI_congr (pe_frC fr1) hM
    refine pn_st (st' := [.int (Int32.ofInt z1)]) rfl ?_
    refine pn_pop X d_W_175 ?_
    refine pn_aload_n X d_W_176 rfl 1 rfl ?_
    refine pn_st (st' := (([] : List pe_V).map (pe_c ad)).reverse ++ .ref (ad 29) :: []) rfl (pn_callM (n := 0) (b := 29) X hZ (t_M_tick hB1 hM1.1 hM1.2.1 ⟨hM1.2.2.1.1, hM1.2.2.1.2.1⟩) d_W_177 c_W_32 i_M_tick s_M_tick rfl rfl rfl (Nat.le_of_ble_eq_true rfl) (Nat.le_of_ble_eq_true rfl) (Nat.le_of_ble_eq_true rfl) ⟨(Nat.le_of_ble_eq_true rfl), (Nat.le_of_ble_eq_true rfl)⟩ (fun r2 σ2 hq2 => ?_))
    obtain ⟨z2, rfl, hB2, fr2, o2, x2⟩ := hq2
    have hC2 : pe_CI σ2 := pe_CI_congr (pe_frM fr2) hC1
    have hM2 : pe_MI σ2 := pe_MI_type hM1 fr2 o2 x2
    refine pn_st (st' := [.int (Int32.ofInt z2)]) rfl ?_
    refine pn_pop X d_W_180 ?_
    refine pn_goto (t := 388) X d_W_181 ?_
    exact J388 _ (by omega) ⟨hB2, hC2, hM2⟩
  refine ⟨fun _ => ?_, fun _ => ?_⟩
  · show pn_G 4 D (fun q => s.heap.size ≤ q) p l e room_1 s m #[Value.ref b] below meth c (lw_Z below #[Value.ref b] s) 184 [(3, .int (Int32.ofInt i)), (2, .ref (ad 29)), (1, .ref (ad 0)), (0, .ref b)] [] (pe_wd ad cA σ) 47 16994
    refine pn_aload_n X d_W_184 rfl 2 rfl ?_
    refine pn_aload_n X d_W_185 rfl 3 rfl ?_
    refine pn_iload_n X d_W_186 rfl 0 rfl ?_
    refine pn_iconst X d_W_187 ?_
    refine pn_iadd X d_W_188 ?_
    refine pn_sld X hX hbl hbA d_W_189 (by omega) (by omega) (by omega) ?_
    refine pn_aload_n X d_W_190 rfl 3 rfl ?_
    refine pn_iload_n X d_W_191 rfl 0 rfl ?_
    refine pn_iconst X d_W_192 ?_
    refine pn_iadd X d_W_193 ?_
    refine pn_sld X hX hbl hbA d_W_194 (by omega) (by omega) (by omega) ?_
    refine pn_st (st' := (([pe_i ((xs (i + 1).toNat).toInt), pe_i ((xs (i + 2).toNat).toInt)] : List pe_V).map (pe_c ad)).reverse ++ .ref (ad 0) :: []) rfl (pn_callM (n := 2) (b := 0) X hZ (t_P_size hB hC (pe_Ri _) (pe_Ri _)) d_W_195 c_W_33 i_P_size s_P_size rfl rfl rfl (Nat.le_of_ble_eq_true rfl) (Nat.le_of_ble_eq_true rfl) (Nat.le_of_ble_eq_true rfl) ⟨(Nat.le_of_ble_eq_true rfl), (Nat.le_of_ble_eq_true rfl)⟩ (fun r1 σ1 hq1 => ?_))
    obtain ⟨z1, rfl, hB1, fr1, hC1, hz1, hi1⟩ := hq1
    have hM1 : pe_MI σ1 := pe_MI_congr (pe_frC fr1) hM
    refine pn_st (st' := [.int (Int32.ofInt z1)]) rfl ?_
    refine pn_aload_n X d_W_198 rfl 1 rfl ?_
    refine pn_aload_n X d_W_199 rfl 3 rfl ?_
    refine pn_iload_n X d_W_200 rfl 0 rfl ?_
    refine pn_iconst X d_W_201 ?_
    refine pn_iadd X d_W_202 ?_
    refine pn_sld X hX hbl hbA d_W_203 (by omega) (by omega) (by omega) ?_
    refine pn_aload_n X d_W_204 rfl 3 rfl ?_
    refine pn_iload_n X d_W_205 rfl 0 rfl ?_
    refine pn_iconst X d_W_206 ?_
    refine pn_iadd X d_W_207 ?_
    refine pn_sld X hX hbl hbA d_W_208 (by omega) (by omega) (by omega) ?_
    refine pn_st (st' := (([pe_i ((xs (i + 1).toNat).toInt), pe_i ((xs (i + 2).toNat).toInt)] : List pe_V).map (pe_c ad)).reverse ++ .ref (ad 29) :: [.int (Int32.ofInt z1)]) rfl (pn_callM (n := 2) (b := 29) X hZ (t_M_size hB1 hM1.2.2.1 hM1.2.2.2.2.1 hM1.2.2.2.2.2.1 (pe_Ri _) (pe_Ri _)) d_W_209 c_W_37 i_M_size s_M_size rfl rfl rfl (Nat.le_of_ble_eq_true rfl) (Nat.le_of_ble_eq_true rfl) (Nat.le_of_ble_eq_true rfl) ⟨(Nat.le_of_ble_eq_true rfl), (Nat.le_of_ble_eq_true rfl)⟩ (fun r2 σ2 hq2 => ?_))
    obtain ⟨z2, rfl, hB2, fr2, o2, hz2, hi2, h20, h21, hS2, hA2⟩ := hq2
    have hC2 : pe_CI σ2 := pe_CI_congr (pe_frM fr2) hC1
    have hM2 : pe_MI σ2 := pe_MI_size hM1 fr2 o2 hz2 hi2 h20 h21 hS2 hA2
    refine pn_st (st' := [.int (Int32.ofInt z2), .int (Int32.ofInt z1)]) rfl ?_
    refine pn_icmp_eq (t := 388) X d_W_212 ⟨by omega, by omega⟩ ⟨by omega, by omega⟩ (fun _ => ?_) (fun h => absurd (by omega) h)
    exact J388 _ (by omega) ⟨hB2, hC2, hM2⟩
  refine ⟨fun _ => ?_, fun _ => ?_⟩
  · show pn_G 4 D (fun q => s.heap.size ≤ q) p l e room_1 s m #[Value.ref b] below meth c (lw_Z below #[Value.ref b] s) 217 [(3, .int (Int32.ofInt i)), (2, .ref (ad 29)), (1, .ref (ad 0)), (0, .ref b)] [] (pe_wd ad cA σ) 47 16994
    refine pn_aload_n X d_W_217 rfl 2 rfl ?_
    refine pn_st (st' := (([] : List pe_V).map (pe_c ad)).reverse ++ .ref (ad 0) :: []) rfl (pn_callM (n := 0) (b := 0) X hZ (t_P_draw pe_ss hB hC) d_W_218 c_W_38 i_P_draw s_P_draw rfl rfl rfl (Nat.le_of_ble_eq_true rfl) (Nat.le_of_ble_eq_true rfl) (Nat.le_of_ble_eq_true rfl) ⟨(Nat.le_of_ble_eq_true rfl), (Nat.le_of_ble_eq_true rfl)⟩ (fun r1 σ1 hq1 => ?_))
    obtain ⟨z1, rfl, hB1, fr1, hC1⟩ := hq1
    have hM1 : pe_MI σ1 := pe_MI_congr (pe_frC fr1) hM
    refine pn_st (st' := [.int (Int32.ofInt z1)]) rfl ?_
    refine pn_pop X d_W_221 ?_
    refine pn_aload_n X d_W_222 rfl 1 rfl ?_
    refine pn_st (st' := (([] : List pe_V).map (pe_c ad)).reverse ++ .ref (ad 29) :: []) rfl (pn_callM (n := 0) (b := 29) X hZ (t_M_draw pe_cm hB1 hM1) d_W_223 c_W_41 i_M_draw s_M_draw rfl rfl rfl (Nat.le_of_ble_eq_true rfl) (Nat.le_of_ble_eq_true rfl) (Nat.le_of_ble_eq_true rfl) ⟨(Nat.le_of_ble_eq_true rfl), (Nat.le_of_ble_eq_true rfl)⟩ (fun r2 σ2 hq2 => ?_))
    obtain ⟨z2, rfl, hB2, fr2, o2, hM2⟩ := hq2
    have hC2 : pe_CI σ2 := pe_CI_congr (pe_frM fr2) hC1
    refine pn_st (st' := [.int (Int32.ofInt z2)]) rfl ?_
    refine pn_pop X d_W_226 ?_
    refine pn_goto (t := 388) X d_W_227 ?_
    exact J388 _ (by omega) ⟨hB2, hC2, hM2⟩
  refine ⟨fun _ => ?_, fun _ => ?_⟩
  · show pn_G 4 D (fun q => s.heap.size ≤ q) p l e room_1 s m #[Value.ref b] below meth c (lw_Z below #[Value.ref b] s) 230 [(3, .int (Int32.ofInt i)), (2, .ref (ad 29)), (1, .ref (ad 0)), (0, .ref b)] [] (pe_wd ad cA σ) 47 16994
    refine pn_aload_n X d_W_230 rfl 2 rfl ?_
    refine pn_aload_n X d_W_231 rfl 3 rfl ?_
    refine pn_iload_n X d_W_232 rfl 0 rfl ?_
    refine pn_iconst X d_W_233 ?_
    refine pn_iadd X d_W_234 ?_
    refine pn_sld X hX hbl hbA d_W_235 (by omega) (by omega) (by omega) ?_
    refine pn_st (st' := (([pe_i ((xs (i + 1).toNat).toInt)] : List pe_V).map (pe_c ad)).reverse ++ .ref (ad 0) :: []) rfl (pn_callM (n := 1) (b := 0) X hZ (t_P_text hB hC (pe_Ri _)) d_W_236 c_W_42 i_P_text s_P_text rfl rfl rfl (Nat.le_of_ble_eq_true rfl) (Nat.le_of_ble_eq_true rfl) (Nat.le_of_ble_eq_true rfl) ⟨(Nat.le_of_ble_eq_true rfl), (Nat.le_of_ble_eq_true rfl)⟩ (fun r1 σ1 hq1 => ?_))
    obtain ⟨z1, rfl, e1, _⟩ := hq1
    rw [e1]
    refine pn_st (st' := [.int (Int32.ofInt z1)]) rfl ?_
    refine pn_pop X d_W_239 ?_
    refine pn_aload_n X d_W_240 rfl 1 rfl ?_
    refine pn_aload_n X d_W_241 rfl 3 rfl ?_
    refine pn_iload_n X d_W_242 rfl 0 rfl ?_
    refine pn_iconst X d_W_243 ?_
    refine pn_iadd X d_W_244 ?_
    refine pn_sld X hX hbl hbA d_W_245 (by omega) (by omega) (by omega) ?_
    refine pn_st (st' := (([pe_i ((xs (i + 1).toNat).toInt)] : List pe_V).map (pe_c ad)).reverse ++ .ref (ad 29) :: []) rfl (pn_callM (n := 1) (b := 29) X hZ (t_M_text hB hM (pe_Ri _)) d_W_246 c_W_46 i_M_text s_M_text rfl rfl rfl (Nat.le_of_ble_eq_true rfl) (Nat.le_of_ble_eq_true rfl) (Nat.le_of_ble_eq_true rfl) ⟨(Nat.le_of_ble_eq_true rfl), (Nat.le_of_ble_eq_true rfl)⟩ (fun r2 σ2 hq2 => ?_))
    obtain ⟨z2, rfl, e2, _⟩ := hq2
    rw [e2]
    refine pn_st (st' := [.int (Int32.ofInt z2)]) rfl ?_
    refine pn_pop X d_W_249 ?_
    refine pn_goto (t := 388) X d_W_250 ?_
    exact J388 _ (by omega) ⟨hB, hC, hM⟩
  refine ⟨fun _ => ?_, fun _ => ?_⟩
  · show pn_G 4 D (fun q => s.heap.size ≤ q) p l e room_1 s m #[Value.ref b] below meth c (lw_Z below #[Value.ref b] s) 253 [(3, .int (Int32.ofInt i)), (2, .ref (ad 29)), (1, .ref (ad 0)), (0, .ref b)] [] (pe_wd ad cA σ) 47 16994
    refine pn_aload_n X d_W_253 rfl 2 rfl ?_
    refine pn_aload_n X d_W_254 rfl 3 rfl ?_
    refine pn_iload_n X d_W_255 rfl 0 rfl ?_
    refine pn_iconst X d_W_256 ?_
    refine pn_iadd X d_W_257 ?_
    refine pn_sld X hX hbl hbA d_W_258 (by omega) (by omega) (by omega) ?_
    refine pn_st (st' := (([pe_i ((xs (i + 1).toNat).toInt)] : List pe_V).map (pe_c ad)).reverse ++ .ref (ad 0) :: []) rfl (pn_callM (n := 1) (b := 0) X hZ (t_P_state hB hC (pe_Ri _)) d_W_259 c_W_47 i_P_state s_P_state rfl rfl rfl (Nat.le_of_ble_eq_true rfl) (Nat.le_of_ble_eq_true rfl) (Nat.le_of_ble_eq_true rfl) ⟨(Nat.le_of_ble_eq_true rfl), (Nat.le_of_ble_eq_true rfl)⟩ (fun r1 σ1 hq1 => ?_))
    obtain ⟨z1, rfl, e1, _⟩ := hq1
    rw [e1]
    refine pn_st (st' := [.int (Int32.ofInt z1)]) rfl ?_
    refine pn_pop X d_W_262 ?_
    refine pn_aload_n X d_W_263 rfl 1 rfl ?_
    refine pn_aload_n X d_W_264 rfl 3 rfl ?_
    refine pn_iload_n X d_W_265 rfl 0 rfl ?_
    refine pn_iconst X d_W_266 ?_
    refine pn_iadd X d_W_267 ?_
    refine pn_sld X hX hbl hbA d_W_268 (by omega) (by omega) (by omega) ?_
    refine pn_st (st' := (([pe_i ((xs (i + 1).toNat).toInt)] : List pe_V).map (pe_c ad)).reverse ++ .ref (ad 29) :: []) rfl (pn_callM (n := 1) (b := 29) X hZ (t_M_state hB hM (pe_Ri _)) d_W_269 c_W_50 i_M_state s_M_state rfl rfl rfl (Nat.le_of_ble_eq_true rfl) (Nat.le_of_ble_eq_true rfl) (Nat.le_of_ble_eq_true rfl) ⟨(Nat.le_of_ble_eq_true rfl), (Nat.le_of_ble_eq_true rfl)⟩ (fun r2 σ2 hq2 => ?_))
    obtain ⟨z2, rfl, e2, _⟩ := hq2
    rw [e2]
    refine pn_st (st' := [.int (Int32.ofInt z2)]) rfl ?_
    refine pn_pop X d_W_272 ?_
    refine pn_goto (t := 388) X d_W_273 ?_
    exact J388 _ (by omega) ⟨hB, hC, hM⟩
  refine ⟨fun _ => ?_, fun _ => ?_⟩
  · show pn_G 4 D (fun q => s.heap.size ≤ q) p l e room_1 s m #[Value.ref b] below meth c (lw_Z below #[Value.ref b] s) 276 [(3, .int (Int32.ofInt i)), (2, .ref (ad 29)), (1, .ref (ad 0)), (0, .ref b)] [] (pe_wd ad cA σ) 47 16994
    refine pn_aload_n X d_W_276 rfl 2 rfl ?_
    refine pn_aload_n X d_W_277 rfl 3 rfl ?_
    refine pn_iload_n X d_W_278 rfl 0 rfl ?_
    refine pn_iconst X d_W_279 ?_
    refine pn_iadd X d_W_280 ?_
    refine pn_sld X hX hbl hbA d_W_281 (by omega) (by omega) (by omega) ?_
    refine pn_aload_n X d_W_282 rfl 3 rfl ?_
    refine pn_iload_n X d_W_283 rfl 0 rfl ?_
    refine pn_iconst X d_W_284 ?_
    refine pn_iadd X d_W_285 ?_
    refine pn_sld X hX hbl hbA d_W_286 (by omega) (by omega) (by omega) ?_
    refine pn_st (st' := (([pe_i ((xs (i + 1).toNat).toInt), pe_i ((xs (i + 2).toNat).toInt)] : List pe_V).map (pe_c ad)).reverse ++ .ref (ad 0) :: []) rfl (pn_callM (n := 2) (b := 0) X hZ (t_P_cell hB hC (pe_Ri _) (pe_Ri _)) d_W_287 c_W_51 i_P_cell s_P_cell rfl rfl rfl (Nat.le_of_ble_eq_true rfl) (Nat.le_of_ble_eq_true rfl) (Nat.le_of_ble_eq_true rfl) ⟨(Nat.le_of_ble_eq_true rfl), (Nat.le_of_ble_eq_true rfl)⟩ (fun r1 σ1 hq1 => ?_))
    obtain ⟨z1, rfl, e1, _⟩ := hq1
    rw [e1]
    refine pn_st (st' := [.int (Int32.ofInt z1)]) rfl ?_
    refine pn_pop X d_W_290 ?_
    refine pn_aload_n X d_W_291 rfl 1 rfl ?_
    refine pn_aload_n X d_W_292 rfl 3 rfl ?_
    refine pn_iload_n X d_W_293 rfl 0 rfl ?_
    refine pn_iconst X d_W_294 ?_
    refine pn_iadd X d_W_295 ?_
    refine pn_sld X hX hbl hbA d_W_296 (by omega) (by omega) (by omega) ?_
    refine pn_aload_n X d_W_297 rfl 3 rfl ?_
    refine pn_iload_n X d_W_298 rfl 0 rfl ?_
    refine pn_iconst X d_W_299 ?_
    refine pn_iadd X d_W_300 ?_
    refine pn_sld X hX hbl hbA d_W_301 (by omega) (by omega) (by omega) ?_
    refine pn_st (st' := (([pe_i ((xs (i + 1).toNat).toInt), pe_i ((xs (i + 2).toNat).toInt)] : List pe_V).map (pe_c ad)).reverse ++ .ref (ad 29) :: []) rfl (pn_callM (n := 2) (b := 29) X hZ (t_M_cell hB hM (pe_Ri _) (pe_Ri _)) d_W_302 c_W_54 i_M_cell s_M_cell rfl rfl rfl (Nat.le_of_ble_eq_true rfl) (Nat.le_of_ble_eq_true rfl) (Nat.le_of_ble_eq_true rfl) ⟨(Nat.le_of_ble_eq_true rfl), (Nat.le_of_ble_eq_true rfl)⟩ (fun r2 σ2 hq2 => ?_))
    obtain ⟨z2, rfl, e2, _⟩ := hq2
    rw [e2]
    refine pn_st (st' := [.int (Int32.ofInt z2)]) rfl ?_
    refine pn_pop X d_W_305 ?_
    refine pn_goto (t := 388) X d_W_306 ?_
    exact J388 _ (by omega) ⟨hB, hC, hM⟩
  refine ⟨fun _ => ?_, fun _ => ?_⟩
  · show pn_G 4 D (fun q => s.heap.size ≤ q) p l e room_1 s m #[Value.ref b] below meth c (lw_Z below #[Value.ref b] s) 309 [(3, .int (Int32.ofInt i)), (2, .ref (ad 29)), (1, .ref (ad 0)), (0, .ref b)] [] (pe_wd ad cA σ) 47 16994
    refine pn_aload_n X d_W_309 rfl 2 rfl ?_
    refine pn_aload_n X d_W_310 rfl 3 rfl ?_
    refine pn_iload_n X d_W_311 rfl 0 rfl ?_
    refine pn_iconst X d_W_312 ?_
    refine pn_iadd X d_W_313 ?_
    refine pn_sld X hX hbl hbA d_W_314 (by omega) (by omega) (by omega) ?_
    refine pn_aload_n X d_W_315 rfl 3 rfl ?_
    refine pn_iload_n X d_W_316 rfl 0 rfl ?_
    refine pn_iconst X d_W_317 ?_
    refine pn_iadd X d_W_318 ?_
    refine pn_sld X hX hbl hbA d_W_319 (by omega) (by omega) (by omega) ?_
    refine pn_st (st' := (([pe_i ((xs (i + 1).toNat).toInt), pe_i ((xs (i + 2).toNat).toInt)] : List pe_V).map (pe_c ad)).reverse ++ .ref (ad 0) :: []) rfl (pn_callM (n := 2) (b := 0) X hZ (t_P_look hB hC (pe_Ri _) (pe_Ri _)) d_W_320 c_W_55 i_P_look s_P_look rfl rfl rfl (Nat.le_of_ble_eq_true rfl) (Nat.le_of_ble_eq_true rfl) (Nat.le_of_ble_eq_true rfl) ⟨(Nat.le_of_ble_eq_true rfl), (Nat.le_of_ble_eq_true rfl)⟩ (fun r1 σ1 hq1 => ?_))
    obtain ⟨z1, rfl, e1, _⟩ := hq1
    rw [e1]
    refine pn_st (st' := [.int (Int32.ofInt z1)]) rfl ?_
    refine pn_pop X d_W_323 ?_
    refine pn_aload_n X d_W_324 rfl 1 rfl ?_
    refine pn_aload_n X d_W_325 rfl 3 rfl ?_
    refine pn_iload_n X d_W_326 rfl 0 rfl ?_
    refine pn_iconst X d_W_327 ?_
    refine pn_iadd X d_W_328 ?_
    refine pn_sld X hX hbl hbA d_W_329 (by omega) (by omega) (by omega) ?_
    refine pn_aload_n X d_W_330 rfl 3 rfl ?_
    refine pn_iload_n X d_W_331 rfl 0 rfl ?_
    refine pn_iconst X d_W_332 ?_
    refine pn_iadd X d_W_333 ?_
    refine pn_sld X hX hbl hbA d_W_334 (by omega) (by omega) (by omega) ?_
    refine pn_st (st' := (([pe_i ((xs (i + 1).toNat).toInt), pe_i ((xs (i + 2).toNat).toInt)] : List pe_V).map (pe_c ad)).reverse ++ .ref (ad 29) :: []) rfl (pn_callM (n := 2) (b := 29) X hZ (t_M_look hB hM (pe_Ri _) (pe_Ri _)) d_W_335 c_W_58 i_M_look s_M_look rfl rfl rfl (Nat.le_of_ble_eq_true rfl) (Nat.le_of_ble_eq_true rfl) (Nat.le_of_ble_eq_true rfl) ⟨(Nat.le_of_ble_eq_true rfl), (Nat.le_of_ble_eq_true rfl)⟩ (fun r2 σ2 hq2 => ?_))
    obtain ⟨z2, rfl, e2, _⟩ := hq2
    rw [e2]
    refine pn_st (st' := [.int (Int32.ofInt z2)]) rfl ?_
    refine pn_pop X d_W_338 ?_
    refine pn_goto (t := 388) X d_W_339 ?_
    exact J388 _ (by omega) ⟨hB, hC, hM⟩
  refine ⟨fun _ => ?_, fun _ => ?_⟩
  · show pn_G 4 D (fun q => s.heap.size ≤ q) p l e room_1 s m #[Value.ref b] below meth c (lw_Z below #[Value.ref b] s) 342 [(3, .int (Int32.ofInt i)), (2, .ref (ad 29)), (1, .ref (ad 0)), (0, .ref b)] [] (pe_wd ad cA σ) 47 16994
    refine pn_aload_n X d_W_342 rfl 2 rfl ?_
    refine pn_aload_n X d_W_343 rfl 3 rfl ?_
    refine pn_iload_n X d_W_344 rfl 0 rfl ?_
    refine pn_iconst X d_W_345 ?_
    refine pn_iadd X d_W_346 ?_
    refine pn_sld X hX hbl hbA d_W_347 (by omega) (by omega) (by omega) ?_
    refine pn_st (st' := (([pe_i ((xs (i + 1).toNat).toInt)] : List pe_V).map (pe_c ad)).reverse ++ .ref (ad 0) :: []) rfl (pn_callM (n := 1) (b := 0) X hZ (t_P_terminal hB hC (pe_Ri _)) d_W_348 c_W_59 i_P_terminal s_P_terminal rfl rfl rfl (Nat.le_of_ble_eq_true rfl) (Nat.le_of_ble_eq_true rfl) (Nat.le_of_ble_eq_true rfl) ⟨(Nat.le_of_ble_eq_true rfl), (Nat.le_of_ble_eq_true rfl)⟩ (fun r1 σ1 hq1 => ?_))
    obtain ⟨z1, rfl, e1, _⟩ := hq1
    rw [e1]
    refine pn_st (st' := [.int (Int32.ofInt z1)]) rfl ?_
    refine pn_pop X d_W_351 ?_
    refine pn_aload_n X d_W_352 rfl 1 rfl ?_
    refine pn_aload_n X d_W_353 rfl 3 rfl ?_
    refine pn_iload_n X d_W_354 rfl 0 rfl ?_
    refine pn_iconst X d_W_355 ?_
    refine pn_iadd X d_W_356 ?_
    refine pn_sld X hX hbl hbA d_W_357 (by omega) (by omega) (by omega) ?_
    refine pn_st (st' := (([pe_i ((xs (i + 1).toNat).toInt)] : List pe_V).map (pe_c ad)).reverse ++ .ref (ad 29) :: []) rfl (pn_callM (n := 1) (b := 29) X hZ (t_M_terminal hB hM (pe_Ri _)) d_W_358 c_W_62 i_M_terminal s_M_terminal rfl rfl rfl (Nat.le_of_ble_eq_true rfl) (Nat.le_of_ble_eq_true rfl) (Nat.le_of_ble_eq_true rfl) ⟨(Nat.le_of_ble_eq_true rfl), (Nat.le_of_ble_eq_true rfl)⟩ (fun r2 σ2 hq2 => ?_))
    obtain ⟨z2, rfl, e2, _⟩ := hq2
    rw [e2]
    refine pn_st (st' := [.int (Int32.ofInt z2)]) rfl ?_
    refine pn_pop X d_W_361 ?_
    refine pn_goto (t := 388) X d_W_362 ?_
    exact J388 _ (by omega) ⟨hB, hC, hM⟩
  refine ⟨fun _ => ?_, fun _ => ?_⟩
  · show pn_G 4 D (fun q => s.heap.size ≤ q) p l e room_1 s m #[Value.ref b] below meth c (lw_Z below #[Value.ref b] s) 365 [(3, .int (Int32.ofInt i)), (2, .ref (ad 29)), (1, .ref (ad 0)), (0, .ref b)] [] (pe_wd ad cA σ) 47 16994
    refine pn_aload_n X d_W_365 rfl 2 rfl ?_
    refine pn_aload_n X d_W_366 rfl 3 rfl ?_
    refine pn_iload_n X d_W_367 rfl 0 rfl ?_
    refine pn_iconst X d_W_368 ?_
    refine pn_iadd X d_W_369 ?_
    refine pn_sld X hX hbl hbA d_W_370 (by omega) (by omega) (by omega) ?_
    refine pn_st (st' := (([pe_i ((xs (i + 1).toNat).toInt)] : List pe_V).map (pe_c ad)).reverse ++ .ref (ad 0) :: []) rfl (pn_callM (n := 1) (b := 0) X hZ (t_P_sent hB hC (pe_Ri _)) d_W_371 c_W_63 i_P_sent s_P_sent rfl rfl rfl (Nat.le_of_ble_eq_true rfl) (Nat.le_of_ble_eq_true rfl) (Nat.le_of_ble_eq_true rfl) ⟨(Nat.le_of_ble_eq_true rfl), (Nat.le_of_ble_eq_true rfl)⟩ (fun r1 σ1 hq1 => ?_))
    obtain ⟨z1, rfl, e1, _⟩ := hq1
    rw [e1]
    refine pn_st (st' := [.int (Int32.ofInt z1)]) rfl ?_
    refine pn_pop X d_W_374 ?_
    refine pn_aload_n X d_W_375 rfl 1 rfl ?_
    refine pn_aload_n X d_W_376 rfl 3 rfl ?_
    refine pn_iload_n X d_W_377 rfl 0 rfl ?_
    refine pn_iconst X d_W_378 ?_
    refine pn_iadd X d_W_379 ?_
    refine pn_sld X hX hbl hbA d_W_380 (by omega) (by omega) (by omega) ?_
    refine pn_st (st' := (([pe_i ((xs (i + 1).toNat).toInt)] : List pe_V).map (pe_c ad)).reverse ++ .ref (ad 29) :: []) rfl (pn_callM (n := 1) (b := 29) X hZ (t_M_sent hB hM (pe_Ri _)) d_W_381 c_W_66 i_M_sent s_M_sent rfl rfl rfl (Nat.le_of_ble_eq_true rfl) (Nat.le_of_ble_eq_true rfl) (Nat.le_of_ble_eq_true rfl) ⟨(Nat.le_of_ble_eq_true rfl), (Nat.le_of_ble_eq_true rfl)⟩ (fun r2 σ2 hq2 => ?_))
    obtain ⟨z2, rfl, e2, _⟩ := hq2
    rw [e2]
    refine pn_st (st' := [.int (Int32.ofInt z2)]) rfl ?_
    refine pn_pop X d_W_384 ?_
    refine pn_goto (t := 388) X d_W_385 ?_
    exact J388 _ (by omega) ⟨hB, hC, hM⟩
  show pn_G 4 D (fun q => s.heap.size ≤ q) p l e room_1 s m #[Value.ref b] below meth c (lw_Z below #[Value.ref b] s) 388 [(3, .int (Int32.ofInt i)), (2, .ref (ad 29)), (1, .ref (ad 0)), (0, .ref b)] [] (pe_wd ad cA σ) 47 16994
  exact J388 _ (by omega) ⟨hB, hC, hM⟩
