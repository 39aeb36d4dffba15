/-! p1: fresh objects, and what typing on them must answer (proved apart) -/
def pe_FC (σ : pe_H) (c r : Int) : Prop := ((σ 3 1 = 0 ∧ σ 2 7 = 0 ∧ σ 2 8 = -1 ∧ σ 5 6 = 0) ∧ (σ 2 5 = 0 ∧ σ 2 9 = -1 ∧ σ 2 10 = 0 ∧ σ 2 11 = 1 ∧ σ 2 6 = c ∧ σ 5 5 = 0)) ∧ (σ 1 0 = 0 ∧ σ 1 6 = -1) ∧ (σ 17 2 = 0 ∧ σ 23 2 = 0 ∧ σ 24 1 = 0 ∧ σ 24 2 = 0 ∧ σ 24 3 = 0 ∧ σ 24 4 = 0) ∧ (σ 21 1 = 0 ∧ 0 ≤ σ 21 3 ∧ σ 21 3 ≤ 16) ∧ (σ 18 2 = c ∧ σ 18 3 = r ∧ σ 25 2 = c ∧ σ 25 3 = r) ∧ (1 ≤ c ∧ c ≤ 24 ∧ 1 ≤ r ∧ r ≤ 8) ∧ (∀ j, 0 ≤ j → j < 192 → σ 26 j = 32) ∧ ∀ j, 0 ≤ j → j < 192 → σ 27 j = 0
def pe_FM (σ : pe_H) (c r : Int) : Prop := (σ 29 1 = 0 ∧ σ 29 2 = 0 ∧ σ 29 3 = -1 ∧ σ 29 5 = 0 ∧ σ 29 6 = -1 ∧ σ 29 7 = 0 ∧ σ 29 13 = 0 ∧ σ 29 15 = 0 ∧ σ 29 19 = 0 ∧ σ 29 20 = -1 ∧ σ 29 27 = 0) ∧ (σ 29 36 = 0 ∧ σ 29 37 = 0 ∧ σ 29 38 = 0 ∧ σ 29 39 = 0 ∧ σ 29 41 = 1 ∧ σ 29 43 = 0) ∧ (σ 29 21 = c ∧ σ 29 22 = r) ∧ (1 ≤ c ∧ c ≤ 24 ∧ 1 ≤ r ∧ r ≤ 8) ∧ (∀ j, 0 ≤ j → j < 192 → σ 42 j = 32) ∧ ∀ j, 0 ≤ j → j < 192 → σ 43 j = 0
theorem pe_FM_congr {σ σ' : pe_H} {c r : Int} (e : ∀ b, 29 ≤ b → σ' b = σ b) (h : pe_FM σ c r) : pe_FM σ' c r := by
  unfold pe_FM at h ⊢
  rw [e 29 (by decide), e 42 (by decide), e 43 (by decide)]
  exact h
def lw_TYPE : Prop := ∀ (c r : Int) (w : Int64) (n : Int), pe_R n → ∃ z : Int, pe_R z ∧ (∀ σ, pe_B σ → pe_CI σ → pe_FC σ c r → pe_M m_P_type [pe_r 0, pe_l w, pe_i n] σ (pe_qi (fun z' σ' => (pe_B σ' ∧ ∀ b, 29 ≤ b → σ' b = σ b) ∧ z' = z))) ∧ ∀ σ, pe_B σ → pe_MI σ → pe_FM σ c r → pe_M m_M_type [pe_r 29, pe_l w, pe_i n] σ (pe_qi (fun z' _ => z' = z))
/-! THE CLAIM OUT OF ONE WALK OF THE LAW'S BODY. Your part is whole_start (and what it stands on); all else here is the same for every law, but numbers. -/
def R_law : String := "PaintEditorLaw"
def lw_P (b : Addr) (xs : List Int32) (args : Array Value) (s : State) : Prop := args = #[.ref b] ∧ s.IntsAt b xs ∧ xs.length ≤ 6 ∧ (Jvm.Cond.and given_1 narrow_1).before args s = true
def lw_Q (_ : Array Value) (s : State) (o : Outcome) (t : State) : Prop := o = .returned (some (.int 1)) ∧ Framed s o t [] 600000 7302250
def lw_Z (below : List Frame) (a : Array Value) (s : State) : State → Prop := fun t => ∃ o, t.status = .running ∧ Ended t below o ∧ lw_Q a s o t
/-- the law's own end, with 1 on the stack, nothing written that was there before, its room as the claim has it -/
theorem lw_ret {p : Program} {l : Launch} {e : Env} {s : State} {m : MethodId} {below : List Frame} {meth : Method} {c : Code} {b : Nat} (hx : p.tables.exec = Jvm.exec) (hb : c.code = code) (hr : meth.sig.returnType = ret) (hlocks : meth.locks = false) {pc : Nat} {H : Heap} {ls : Array Slot} (hdg : decode code pc = .ok (.ireturn, 1)) : W p l e room_1 s m #[Value.ref b] below meth c H [] 600000 7302250 (lw_Z below #[Value.ref b] s) (F0 m pc ls [.int 1]) := by
  intro T hT X
  obtain ⟨fs, hret, hrun, hended, hW, hframe⟩ := X.leave (v := some (.int 1)) (hlocks := hlocks) (fun h => by rw [hr] at h; cases h)
  have hmeth' : T.vm.method? m = some meth := X.method'
  refine ⟨T.setFrames fs, ?_, .returned (some (.int 1)), hrun, hended, rfl, ⟨_, rfl⟩, hW, hframe⟩
  jvm_step X.here [X.here.top, hx, hb, hdg, hmeth', hr, ret, narrow_b1]
  (try refine ⟨rfl, ?_⟩); (try refine ⟨rfl, ?_⟩)
  first | (intro acts; rw [hret _ acts rfl rfl rfl]) | rw [hret _ _ rfl rfl rfl]
  exact Steps.refl _
/-- what holds at the law's entry: the machine, the code, the tables' words (any of lw_tbl by 'hts w (by decide +kernel)'), the script of L ints xs at the cell b, what the Statement gives of the start (any of its parts by flat_of_before) -/
def lw_At (p : Program) (s : State) (m : MethodId) (meth : Method) (c : Code) (b L : Nat) (xs : Nat → Int32) : Prop :=
  p.tables.exec = Jvm.exec ∧ c.code = code ∧ meth.sig.returnType = ret ∧ c.maxLocals = 4 ∧ s.vm.findClass R_law = some m.cls ∧ (∀ w ∈ lw_tbl, w.before #[Value.ref b] s = true) ∧ va_X b L xs s s.heap ∧ b < s.heap.size ∧ meth.locks = false ∧ (Jvm.Cond.and given_1 narrow_1).before #[Value.ref b] s = true

def lw_w (a b : Int) : Int64 := (((Int32.ofInt a).toInt64) <<< ((Int32.ofInt 32).toInt64 &&& 63)) ||| (((Int32.ofInt b).toInt64) &&& (4294967295))
/-- the law's end -/
theorem lw_fin {p : Program} {e : Env} {s : State} {m : MethodId} {below : List Frame} {meth : Method} {c : Code} {l : Launch} {D : va_G} {cA : FieldType → ClassId} {b : Nat} {lv : List (Nat × Value)} {w : va_W} {k n : Nat} (X : pn_X "PaintEditorLaw" code 4 D cA (fun q => s.heap.size ≤ q) p s m #[Value.ref b] c) (hr : meth.sig.returnType = ret) (hlocks : meth.locks = false) (hk : k ≤ 600000) (hn : n ≤ 7302250) : pn_G 4 D (fun q => s.heap.size ≤ q) p l e room_1 s m #[Value.ref b] below meth c (lw_Z below #[Value.ref b] s) 394 lv [] w k n := by
  intro H locs ls hl hP hD hS
  refine W.widen (k := 600000) (n := 7302250) hk hn ?_
  refine va_forget (fun q hq => hS.2.2 q hq) ?_
  refine lv_iconst X.1 X.2.1 d_W_394 rfl ?_
  exact lw_ret X.1 X.2.1 hr hlocks d_W_395
set_option maxRecDepth 100000 in
set_option maxHeartbeats 4000000 in
theorem lw_call {p : Program} {e : Env} {s : State} {m : MethodId} {below : List Frame} {meth : Method} {c : Code} {l : Launch} {D : va_G} {cA : FieldType → ClassId} {b L : Nat} {xs : Nat → Int32} (hT : lw_TYPE) (ad : Nat → Nat) (X : pn_X "PaintEditorLaw" code 4 D cA (fun q => s.heap.size ≤ q) p s m #[Value.ref b] c) (hr : meth.sig.returnType = ret) (hlocks : meth.locks = false) (hX : va_X b L xs s s.heap) (hbl : b < s.heap.size) (hL : L ≤ 6) (hZ : pe_Zs ad (fun q => s.heap.size ≤ q) s s.heap) (σ : pe_H) (co ro : Int) (hB : pe_B σ) (hC : pe_CI σ) (hM : pe_MI σ) (hFC : pe_FC σ co ro) (hFM : pe_FM σ co ro) : pn_G 4 D (fun q => s.heap.size ≤ q) p l e room_1 s m #[Value.ref b] below meth c (lw_Z below #[Value.ref b] s) 38 [(3, .int (Int32.ofInt 2)), (2, .ref (ad 29)), (1, .ref (ad 0)), (0, .ref b)] [] (pe_wd ad cA σ) 47 16994 := by
  have hbA : ¬ (s.heap.size ≤ b) := by omega
  have J388 : ∀ σ' : pe_H, pn_G 4 D (fun q => s.heap.size ≤ q) p l e room_1 s m #[Value.ref b] below meth c (lw_Z below #[Value.ref b] s) 388 [(3, .int (Int32.ofInt 2)), (2, .ref (ad 29)), (1, .ref (ad 0)), (0, .ref b)] [] (pe_wd ad cA σ') 47 16994 := by
    intro σ'
    refine pn_iinc (lv' := [(3, .int (Int32.ofInt (2 + 4))), (2, .ref (ad 29)), (1, .ref (ad 0)), (0, .ref b)]) X d_W_388 0 rfl rfl ?_
    refine pn_goto (t := 38) X d_W_391 ?_
    refine pn_iload_n X d_W_38 rfl 0 rfl ?_
    refine pn_aload_n X d_W_39 rfl 3 rfl ?_
    refine pn_slen X hX hbl hbA d_W_40 ?_
    refine pn_iconst X d_W_41 ?_
    refine pn_isub X d_W_42 ?_
    refine pn_icmp_gt (t := 394) X d_W_43 ⟨by omega, by omega⟩ ⟨by omega, by omega⟩ (fun h43 => ?_) (fun h43 => absurd h43 (by omega))
    exact lw_fin X hr hlocks (Nat.le_of_ble_eq_true rfl) (Nat.le_of_ble_eq_true rfl)
  have hFC0 := hFC
  have hFM0 := hFM
  obtain ⟨⟨hf1, hf2⟩, hf3, hf4, hf5, hf6, hf7, hf8, hf9⟩ := hFC0
  obtain ⟨hm1, hm2, hm3, hm4, hm5, hm6⟩ := hFM0
  refine pn_iload_n X d_W_38 rfl 0 rfl ?_
  refine pn_aload_n X d_W_39 rfl 3 rfl ?_
  refine pn_slen X hX hbl hbA d_W_40 ?_
  refine pn_iconst X d_W_41 ?_
  refine pn_isub X d_W_42 ?_
  refine pn_icmp_gt (t := 394) X d_W_43 ⟨by omega, by omega⟩ ⟨by omega, by omega⟩ (fun h43 => ?_) (fun h43 => ?_)
  · exact lw_fin X hr hlocks (Nat.le_of_ble_eq_true rfl) (Nat.le_of_ble_eq_true rfl)
  refine pn_aload_n X d_W_46 rfl 3 rfl ?_
  refine pn_iload_n X d_W_47 rfl 0 rfl ?_
  refine pn_sld X hX hbl hbA d_W_48 (by omega) (by omega) (by omega) ?_
  refine pn_bipush X d_W_49 ?_
  refine pn_iand X d_W_51 ?_
  refine pn_tsw (dt := 388) X [(0, 108), (1, 171), (2, 184), (3, 217), (4, 230), (5, 253), (6, 276), (7, 309), (8, 342), (9, 365)] d_W_52 (pe_Ri _) ?_
  refine ⟨fun _ => ?_, fun _ => ?_⟩
  · show pn_G 4 D (fun q => s.heap.size ≤ q) p l e room_1 s m #[Value.ref b] below meth c (lw_Z below #[Value.ref b] s) 108 [(3, .int (Int32.ofInt 2)), (2, .ref (ad 29)), (1, .ref (ad 0)), (0, .ref b)] [] (pe_wd ad cA σ) 47 16994
    refine pn_aload_n X d_W_108 rfl 2 rfl ?_
    refine pn_aload_n X d_W_109 rfl 3 rfl ?_
    refine pn_iload_n X d_W_110 rfl 0 rfl ?_
    refine pn_iconst X d_W_111 ?_
    refine pn_iadd X d_W_112 ?_
    refine pn_sld X hX hbl hbA d_W_113 (by omega) (by omega) (by omega) ?_
    refine pn_i2l X d_W_114 ?_
    refine pn_bipush X d_W_115 ?_
    refine pn_lshl X d_W_117 ?_
    refine pn_aload_n X d_W_118 rfl 3 rfl ?_
    refine pn_iload_n X d_W_119 rfl 0 rfl ?_
    refine pn_iconst X d_W_120 ?_
    refine pn_iadd X d_W_121 ?_
    refine pn_sld X hX hbl hbA d_W_122 (by omega) (by omega) (by omega) ?_
    refine pn_i2l X d_W_123 ?_
    refine pn_ldc2 X q_W_21 d_W_124 ?_
    refine pn_land X d_W_127 ?_
    refine pn_lor X d_W_128 ?_
    refine pn_aload_n X d_W_129 rfl 3 rfl ?_
    refine pn_iload_n X d_W_130 rfl 0 rfl ?_
    refine pn_iconst X d_W_131 ?_
    refine pn_iadd X d_W_132 ?_
    refine pn_sld X hX hbl hbA d_W_133 (by omega) (by omega) (by omega) ?_
    obtain ⟨zt, hzt, hTC, hTM⟩ := hT co ro (lw_w ((xs ((2 : Int) + 1).toNat).toInt) ((xs ((2 : Int) + 2).toNat).toInt)) ((xs ((2 : Int) + 3).toNat).toInt) (pe_Ri _)
    refine pn_st (st' := (([pe_l (lw_w ((xs ((2 : Int) + 1).toNat).toInt) ((xs ((2 : Int) + 2).toNat).toInt)), pe_i ((xs ((2 : Int) + 3).toNat).toInt)] : List pe_V).map (pe_c ad)).reverse ++ .ref (ad 0) :: []) rfl (pn_callM (n := 2) (b := 0) X hZ (hTC σ hB hC hFC) d_W_134 c_W_23 i_P_type s_P_type rfl rfl rfl (Nat.le_of_ble_eq_true rfl) (Nat.le_of_ble_eq_true rfl) (Nat.le_of_ble_eq_true rfl) ⟨(Nat.le_of_ble_eq_true rfl), (Nat.le_of_ble_eq_true rfl)⟩ (fun r1 σ1 hq1 => ?_))
    obtain ⟨z1, rfl, ⟨hB1, fr1⟩, hz1⟩ := hq1
    have hM1 : pe_MI σ1 := pe_MI_congr fr1 hM
    have hFM1 : pe_FM σ1 co ro := pe_FM_congr fr1 hFM
    obtain ⟨hn1, hn2, hn3, hn4, hn5, hn6⟩ := id hFM1
    refine pn_st (st' := [.int (Int32.ofInt z1)]) rfl ?_
    refine pn_aload_n X d_W_137 rfl 1 rfl ?_
    refine pn_aload_n X d_W_138 rfl 3 rfl ?_
    refine pn_iload_n X d_W_139 rfl 0 rfl ?_
    refine pn_iconst X d_W_140 ?_
    refine pn_iadd X d_W_141 ?_
    refine pn_sld X hX hbl hbA d_W_142 (by omega) (by omega) (by omega) ?_
    refine pn_i2l X d_W_143 ?_
    refine pn_bipush X d_W_144 ?_
    refine pn_lshl X d_W_146 ?_
    refine pn_aload_n X d_W_147 rfl 3 rfl ?_
    refine pn_iload_n X d_W_148 rfl 0 rfl ?_
    refine pn_iconst X d_W_149 ?_
    refine pn_iadd X d_W_150 ?_
    refine pn_sld X hX hbl hbA d_W_151 (by omega) (by omega) (by omega) ?_
    refine pn_i2l X d_W_152 ?_
    refine pn_ldc2 X q_W_21 d_W_153 ?_
    refine pn_land X d_W_156 ?_
    refine pn_lor X d_W_157 ?_
    refine pn_aload_n X d_W_158 rfl 3 rfl ?_
    refine pn_iload_n X d_W_159 rfl 0 rfl ?_
    refine pn_iconst X d_W_160 ?_
    refine pn_iadd X d_W_161 ?_
    refine pn_sld X hX hbl hbA d_W_162 (by omega) (by omega) (by omega) ?_
    refine pn_st (st' := (([pe_l (lw_w ((xs ((2 : Int) + 1).toNat).toInt) ((xs ((2 : Int) + 2).toNat).toInt)), pe_i ((xs ((2 : Int) + 3).toNat).toInt)] : List pe_V).map (pe_c ad)).reverse ++ .ref (ad 29) :: [.int (Int32.ofInt z1)]) rfl (pn_callM (n := 2) (b := 29) X hZ (hTM σ1 hB1 hM1 hFM1) d_W_163 c_W_27 i_M_type s_M_type rfl rfl rfl (Nat.le_of_ble_eq_true rfl) (Nat.le_of_ble_eq_true rfl) (Nat.le_of_ble_eq_true rfl) ⟨(Nat.le_of_ble_eq_true rfl), (Nat.le_of_ble_eq_true rfl)⟩ (fun r2 σ2 hq2 => ?_))
    obtain ⟨z2, rfl, hz2⟩ := hq2
    refine pn_st (st' := [.int (Int32.ofInt z2), .int (Int32.ofInt z1)]) rfl ?_
    have hzz : z1 = z2 := by rw [hz1, hz2]
    have hR2 : pe_R z2 := by rw [hz2]; exact hzt
    refine pn_icmp_eq (t := 388) X d_W_166 (by rw [hzz]; exact hR2) hR2 (fun _ => ?_) (fun h => absurd hzz h)
    exact J388 _
  refine ⟨fun _ => ?_, fun _ => ?_⟩
  · show pn_G 4 D (fun q => s.heap.size ≤ q) p l e room_1 s m #[Value.ref b] below meth c (lw_Z below #[Value.ref b] s) 171 [(3, .int (Int32.ofInt 2)), (2, .ref (ad 29)), (1, .ref (ad 0)), (0, .ref b)] [] (pe_wd ad cA σ) 47 16994
    refine pn_aload_n X d_W_171 rfl 2 rfl ?_
    refine pn_st (st' := (([] : List pe_V).map (pe_c ad)).reverse ++ .ref (ad 0) :: []) rfl (pn_callM (n := 0) (b := 0) X hZ (y_P_tick hB ⟨hf1.1, hf3.1, hf2.2.2.1⟩) d_W_172 c_W_28 i_P_tick s_P_tick rfl rfl rfl (Nat.le_of_ble_eq_true rfl) (Nat.le_of_ble_eq_true rfl) (Nat.le_of_ble_eq_true rfl) ⟨(Nat.le_of_ble_eq_true rfl), (Nat.le_of_ble_eq_true rfl)⟩ (fun r1 σ1 hq1 => ?_))
    obtain ⟨z1, rfl, hB1, fr0, hz1⟩ := hq1
    have fr1 : ∀ b, 29 ≤ b → σ1 b = σ b := fun b hb => fr0 b (by simp; omega)
    have hM1 : pe_MI σ1 := pe_MI_congr fr1 hM
    have hFM1 : pe_FM σ1 co ro := pe_FM_congr fr1 hFM
    obtain ⟨hn1, hn2, hn3, hn4, hn5, hn6⟩ := id hFM1
    refine pn_st (st' := [.int (Int32.ofInt z1)]) rfl ?_
    refine pn_aload_n X d_W_175 rfl 1 rfl ?_
    refine pn_st (st' := (([] : List pe_V).map (pe_c ad)).reverse ++ .ref (ad 29) :: [.int (Int32.ofInt z1)]) rfl (pn_callM (n := 0) (b := 29) X hZ (y_M_tick hB1 (by omega)) d_W_176 c_W_32 i_M_tick s_M_tick rfl rfl rfl (Nat.le_of_ble_eq_true rfl) (Nat.le_of_ble_eq_true rfl) (Nat.le_of_ble_eq_true rfl) ⟨(Nat.le_of_ble_eq_true rfl), (Nat.le_of_ble_eq_true rfl)⟩ (fun r2 σ2 hq2 => ?_))
    obtain ⟨z2, rfl, e2, hz2⟩ := hq2
    rw [e2]
    refine pn_st (st' := [.int (Int32.ofInt z2), .int (Int32.ofInt z1)]) rfl ?_
    have hzz : z1 = z2 := by omega
    have hR2 : pe_R z2 := ⟨by omega, by omega⟩
    refine pn_icmp_eq (t := 388) X d_W_179 (by rw [hzz]; exact hR2) hR2 (fun _ => ?_) (fun h => absurd hzz h)
    exact J388 _
  refine ⟨fun _ => ?_, fun _ => ?_⟩
  · show pn_G 4 D (fun q => s.heap.size ≤ q) p l e room_1 s m #[Value.ref b] below meth c (lw_Z below #[Value.ref b] s) 184 [(3, .int (Int32.ofInt 2)), (2, .ref (ad 29)), (1, .ref (ad 0)), (0, .ref b)] [] (pe_wd ad cA σ) 47 16994
    refine pn_aload_n X d_W_184 rfl 2 rfl ?_
    refine pn_aload_n X d_W_185 rfl 3 rfl ?_
    refine pn_iload_n X d_W_186 rfl 0 rfl ?_
    refine pn_iconst X d_W_187 ?_
    refine pn_iadd X d_W_188 ?_
    refine pn_sld X hX hbl hbA d_W_189 (by omega) (by omega) (by omega) ?_
    refine pn_aload_n X d_W_190 rfl 3 rfl ?_
    refine pn_iload_n X d_W_191 rfl 0 rfl ?_
    refine pn_iconst X d_W_192 ?_
    refine pn_iadd X d_W_193 ?_
    refine pn_sld X hX hbl hbA d_W_194 (by omega) (by omega) (by omega) ?_
    refine pn_st (st' := (([pe_i ((xs ((2 : Int) + 1).toNat).toInt), pe_i ((xs ((2 : Int) + 2).toNat).toInt)] : List pe_V).map (pe_c ad)).reverse ++ .ref (ad 0) :: []) rfl (pn_callM (n := 2) (b := 0) X hZ (t_P_size hB hC (pe_Ri _) (pe_Ri _)) d_W_195 c_W_33 i_P_size s_P_size rfl rfl rfl (Nat.le_of_ble_eq_true rfl) (Nat.le_of_ble_eq_true rfl) (Nat.le_of_ble_eq_true rfl) ⟨(Nat.le_of_ble_eq_true rfl), (Nat.le_of_ble_eq_true rfl)⟩ (fun r1 σ1 hq1 => ?_))
    obtain ⟨z1, rfl, hB1, fr0, hC1, hz1, hi1⟩ := hq1
    have fr1 : ∀ b, 29 ≤ b → σ1 b = σ b := fun b hb => fr0 b (by simp; omega)
    have hM1 : pe_MI σ1 := pe_MI_congr fr1 hM
    have hFM1 : pe_FM σ1 co ro := pe_FM_congr fr1 hFM
    obtain ⟨hn1, hn2, hn3, hn4, hn5, hn6⟩ := id hFM1
    refine pn_st (st' := [.int (Int32.ofInt z1)]) rfl ?_
    refine pn_aload_n X d_W_198 rfl 1 rfl ?_
    refine pn_aload_n X d_W_199 rfl 3 rfl ?_
    refine pn_iload_n X d_W_200 rfl 0 rfl ?_
    refine pn_iconst X d_W_201 ?_
    refine pn_iadd X d_W_202 ?_
    refine pn_sld X hX hbl hbA d_W_203 (by omega) (by omega) (by omega) ?_
    refine pn_aload_n X d_W_204 rfl 3 rfl ?_
    refine pn_iload_n X d_W_205 rfl 0 rfl ?_
    refine pn_iconst X d_W_206 ?_
    refine pn_iadd X d_W_207 ?_
    refine pn_sld X hX hbl hbA d_W_208 (by omega) (by omega) (by omega) ?_
    refine pn_st (st' := (([pe_i ((xs ((2 : Int) + 1).toNat).toInt), pe_i ((xs ((2 : Int) + 2).toNat).toInt)] : List pe_V).map (pe_c ad)).reverse ++ .ref (ad 29) :: [.int (Int32.ofInt z1)]) rfl (pn_callM (n := 2) (b := 29) X hZ (t_M_size hB1 hM1.2.2.1 hM1.2.2.2.2.1 hM1.2.2.2.2.2.1 (pe_Ri _) (pe_Ri _)) d_W_209 c_W_37 i_M_size s_M_size rfl rfl rfl (Nat.le_of_ble_eq_true rfl) (Nat.le_of_ble_eq_true rfl) (Nat.le_of_ble_eq_true rfl) ⟨(Nat.le_of_ble_eq_true rfl), (Nat.le_of_ble_eq_true rfl)⟩ (fun r2 σ2 hq2 => ?_))
    obtain ⟨z2, rfl, hB2, fr2, o2, hz2, hi2, h20, h21, hS2, hA2⟩ := hq2
    refine pn_st (st' := [.int (Int32.ofInt z2), .int (Int32.ofInt z1)]) rfl ?_
    have hzz : z1 = z2 := by omega
    have hR2 : pe_R z2 := ⟨by omega, by omega⟩
    refine pn_icmp_eq (t := 388) X d_W_212 (by rw [hzz]; exact hR2) hR2 (fun _ => ?_) (fun h => absurd hzz h)
    exact J388 _
  refine ⟨fun _ => ?_, fun _ => ?_⟩
  · show pn_G 4 D (fun q => s.heap.size ≤ q) p l e room_1 s m #[Value.ref b] below meth c (lw_Z below #[Value.ref b] s) 217 [(3, .int (Int32.ofInt 2)), (2, .ref (ad 29)), (1, .ref (ad 0)), (0, .ref b)] [] (pe_wd ad cA σ) 47 16994
    refine pn_aload_n X d_W_217 rfl 2 rfl ?_
    refine pn_st (st' := (([] : List pe_V).map (pe_c ad)).reverse ++ .ref (ad 0) :: []) rfl (pn_callM (n := 0) (b := 0) X hZ (y_P_draw hB ⟨hf1, ⟨hf2.2.2.2.1, hf4.1, hf4.2.2⟩, hf5, by omega, by omega⟩) d_W_218 c_W_38 i_P_draw s_P_draw rfl rfl rfl (Nat.le_of_ble_eq_true rfl) (Nat.le_of_ble_eq_true rfl) (Nat.le_of_ble_eq_true rfl) ⟨(Nat.le_of_ble_eq_true rfl), (Nat.le_of_ble_eq_true rfl)⟩ (fun r1 σ1 hq1 => ?_))
    obtain ⟨z1, rfl, hB1, fr0, hz1⟩ := hq1
    have fr1 : ∀ b, 29 ≤ b → σ1 b = σ b := fun b hb => fr0 b (by simp; omega)
    have hM1 : pe_MI σ1 := pe_MI_congr fr1 hM
    have hFM1 : pe_FM σ1 co ro := pe_FM_congr fr1 hFM
    obtain ⟨hn1, hn2, hn3, hn4, hn5, hn6⟩ := id hFM1
    refine pn_st (st' := [.int (Int32.ofInt z1)]) rfl ?_
    refine pn_aload_n X d_W_221 rfl 1 rfl ?_
    refine pn_st (st' := (([] : List pe_V).map (pe_c ad)).reverse ++ .ref (ad 29) :: [.int (Int32.ofInt z1)]) rfl (pn_callM (n := 0) (b := 29) X hZ (y_M_draw hB1 (by omega) (by omega)) d_W_222 c_W_41 i_M_draw s_M_draw rfl rfl rfl (Nat.le_of_ble_eq_true rfl) (Nat.le_of_ble_eq_true rfl) (Nat.le_of_ble_eq_true rfl) ⟨(Nat.le_of_ble_eq_true rfl), (Nat.le_of_ble_eq_true rfl)⟩ (fun r2 σ2 hq2 => ?_))
    obtain ⟨z2, rfl, hB2, fr2, o2, hz2⟩ := hq2
    refine pn_st (st' := [.int (Int32.ofInt z2), .int (Int32.ofInt z1)]) rfl ?_
    have hzz : z1 = z2 := by omega
    have hR2 : pe_R z2 := ⟨by omega, by omega⟩
    refine pn_icmp_eq (t := 388) X d_W_225 (by rw [hzz]; exact hR2) hR2 (fun _ => ?_) (fun h => absurd hzz h)
    exact J388 _
  refine ⟨fun _ => ?_, fun _ => ?_⟩
  · show pn_G 4 D (fun q => s.heap.size ≤ q) p l e room_1 s m #[Value.ref b] below meth c (lw_Z below #[Value.ref b] s) 230 [(3, .int (Int32.ofInt 2)), (2, .ref (ad 29)), (1, .ref (ad 0)), (0, .ref b)] [] (pe_wd ad cA σ) 47 16994
    refine pn_aload_n X d_W_230 rfl 2 rfl ?_
    refine pn_aload_n X d_W_231 rfl 3 rfl ?_
    refine pn_iload_n X d_W_232 rfl 0 rfl ?_
    refine pn_iconst X d_W_233 ?_
    refine pn_iadd X d_W_234 ?_
    refine pn_sld X hX hbl hbA d_W_235 (by omega) (by omega) (by omega) ?_
    refine pn_st (st' := (([pe_i ((xs ((2 : Int) + 1).toNat).toInt)] : List pe_V).map (pe_c ad)).reverse ++ .ref (ad 0) :: []) rfl (pn_callM (n := 1) (b := 0) X hZ (y_P_text hB hf1.1 (pe_Ri _)) d_W_236 c_W_42 i_P_text s_P_text rfl rfl rfl (Nat.le_of_ble_eq_true rfl) (Nat.le_of_ble_eq_true rfl) (Nat.le_of_ble_eq_true rfl) ⟨(Nat.le_of_ble_eq_true rfl), (Nat.le_of_ble_eq_true rfl)⟩ (fun r1 σ1 hq1 => ?_))
    obtain ⟨z1, rfl, e1, hz1⟩ := hq1
    rw [e1]
    refine pn_st (st' := [.int (Int32.ofInt z1)]) rfl ?_
    refine pn_aload_n X d_W_239 rfl 1 rfl ?_
    refine pn_aload_n X d_W_240 rfl 3 rfl ?_
    refine pn_iload_n X d_W_241 rfl 0 rfl ?_
    refine pn_iconst X d_W_242 ?_
    refine pn_iadd X d_W_243 ?_
    refine pn_sld X hX hbl hbA d_W_244 (by omega) (by omega) (by omega) ?_
    refine pn_st (st' := (([pe_i ((xs ((2 : Int) + 1).toNat).toInt)] : List pe_V).map (pe_c ad)).reverse ++ .ref (ad 29) :: [.int (Int32.ofInt z1)]) rfl (pn_callM (n := 1) (b := 29) X hZ (y_M_text hB hm1.1 (pe_Ri _)) d_W_245 c_W_46 i_M_text s_M_text rfl rfl rfl (Nat.le_of_ble_eq_true rfl) (Nat.le_of_ble_eq_true rfl) (Nat.le_of_ble_eq_true rfl) ⟨(Nat.le_of_ble_eq_true rfl), (Nat.le_of_ble_eq_true rfl)⟩ (fun r2 σ2 hq2 => ?_))
    obtain ⟨z2, rfl, e2, hz2⟩ := hq2
    rw [e2]
    refine pn_st (st' := [.int (Int32.ofInt z2), .int (Int32.ofInt z1)]) rfl ?_
    have hzz : z1 = z2 := by omega
    have hR2 : pe_R z2 := ⟨by omega, by omega⟩
    refine pn_icmp_eq (t := 388) X d_W_248 (by rw [hzz]; exact hR2) hR2 (fun _ => ?_) (fun h => absurd hzz h)
    exact J388 _
  refine ⟨fun _ => ?_, fun _ => ?_⟩
  · show pn_G 4 D (fun q => s.heap.size ≤ q) p l e room_1 s m #[Value.ref b] below meth c (lw_Z below #[Value.ref b] s) 253 [(3, .int (Int32.ofInt 2)), (2, .ref (ad 29)), (1, .ref (ad 0)), (0, .ref b)] [] (pe_wd ad cA σ) 47 16994
    refine pn_aload_n X d_W_253 rfl 2 rfl ?_
    refine pn_aload_n X d_W_254 rfl 3 rfl ?_
    refine pn_iload_n X d_W_255 rfl 0 rfl ?_
    refine pn_iconst X d_W_256 ?_
    refine pn_iadd X d_W_257 ?_
    refine pn_sld X hX hbl hbA d_W_258 (by omega) (by omega) (by omega) ?_
    refine pn_st (st' := (([pe_i ((xs ((2 : Int) + 1).toNat).toInt)] : List pe_V).map (pe_c ad)).reverse ++ .ref (ad 0) :: []) rfl (pn_callM (n := 1) (b := 0) X hZ (y_P_state hB (by omega) (pe_Ri _)) d_W_259 c_W_47 i_P_state s_P_state rfl rfl rfl (Nat.le_of_ble_eq_true rfl) (Nat.le_of_ble_eq_true rfl) (Nat.le_of_ble_eq_true rfl) ⟨(Nat.le_of_ble_eq_true rfl), (Nat.le_of_ble_eq_true rfl)⟩ (fun r1 σ1 hq1 => ?_))
    obtain ⟨z1, rfl, e1, hz1⟩ := hq1
    rw [e1]
    refine pn_st (st' := [.int (Int32.ofInt z1)]) rfl ?_
    refine pn_aload_n X d_W_262 rfl 1 rfl ?_
    refine pn_aload_n X d_W_263 rfl 3 rfl ?_
    refine pn_iload_n X d_W_264 rfl 0 rfl ?_
    refine pn_iconst X d_W_265 ?_
    refine pn_iadd X d_W_266 ?_
    refine pn_sld X hX hbl hbA d_W_267 (by omega) (by omega) (by omega) ?_
    refine pn_st (st' := (([pe_i ((xs ((2 : Int) + 1).toNat).toInt)] : List pe_V).map (pe_c ad)).reverse ++ .ref (ad 29) :: [.int (Int32.ofInt z1)]) rfl (pn_callM (n := 1) (b := 29) X hZ (y_M_state hB (by omega) (pe_Ri _)) d_W_268 c_W_50 i_M_state s_M_state rfl rfl rfl (Nat.le_of_ble_eq_true rfl) (Nat.le_of_ble_eq_true rfl) (Nat.le_of_ble_eq_true rfl) ⟨(Nat.le_of_ble_eq_true rfl), (Nat.le_of_ble_eq_true rfl)⟩ (fun r2 σ2 hq2 => ?_))
    obtain ⟨z2, rfl, e2, hz2⟩ := hq2
    rw [e2]
    refine pn_st (st' := [.int (Int32.ofInt z2), .int (Int32.ofInt z1)]) rfl ?_
    have hzz : z1 = z2 := by rw [hz1, hz2]
    have hR2 : pe_R z2 := by rw [hz2]; split <;> exact ⟨by decide, by decide⟩
    refine pn_icmp_eq (t := 388) X d_W_271 (by rw [hzz]; exact hR2) hR2 (fun _ => ?_) (fun h => absurd hzz h)
    exact J388 _
  refine ⟨fun _ => ?_, fun _ => ?_⟩
  · show pn_G 4 D (fun q => s.heap.size ≤ q) p l e room_1 s m #[Value.ref b] below meth c (lw_Z below #[Value.ref b] s) 276 [(3, .int (Int32.ofInt 2)), (2, .ref (ad 29)), (1, .ref (ad 0)), (0, .ref b)] [] (pe_wd ad cA σ) 47 16994
    refine pn_aload_n X d_W_276 rfl 2 rfl ?_
    refine pn_aload_n X d_W_277 rfl 3 rfl ?_
    refine pn_iload_n X d_W_278 rfl 0 rfl ?_
    refine pn_iconst X d_W_279 ?_
    refine pn_iadd X d_W_280 ?_
    refine pn_sld X hX hbl hbA d_W_281 (by omega) (by omega) (by omega) ?_
    refine pn_aload_n X d_W_282 rfl 3 rfl ?_
    refine pn_iload_n X d_W_283 rfl 0 rfl ?_
    refine pn_iconst X d_W_284 ?_
    refine pn_iadd X d_W_285 ?_
    refine pn_sld X hX hbl hbA d_W_286 (by omega) (by omega) (by omega) ?_
    refine pn_st (st' := (([pe_i ((xs ((2 : Int) + 1).toNat).toInt), pe_i ((xs ((2 : Int) + 2).toNat).toInt)] : List pe_V).map (pe_c ad)).reverse ++ .ref (ad 0) :: []) rfl (pn_callM (n := 2) (b := 0) X hZ (y_P_cell hB (by omega) hf8 (pe_Ri _) (pe_Ri _)) d_W_287 c_W_51 i_P_cell s_P_cell rfl rfl rfl (Nat.le_of_ble_eq_true rfl) (Nat.le_of_ble_eq_true rfl) (Nat.le_of_ble_eq_true rfl) ⟨(Nat.le_of_ble_eq_true rfl), (Nat.le_of_ble_eq_true rfl)⟩ (fun r1 σ1 hq1 => ?_))
    obtain ⟨z1, rfl, e1, hz1⟩ := hq1
    rw [e1]
    refine pn_st (st' := [.int (Int32.ofInt z1)]) rfl ?_
    refine pn_aload_n X d_W_290 rfl 1 rfl ?_
    refine pn_aload_n X d_W_291 rfl 3 rfl ?_
    refine pn_iload_n X d_W_292 rfl 0 rfl ?_
    refine pn_iconst X d_W_293 ?_
    refine pn_iadd X d_W_294 ?_
    refine pn_sld X hX hbl hbA d_W_295 (by omega) (by omega) (by omega) ?_
    refine pn_aload_n X d_W_296 rfl 3 rfl ?_
    refine pn_iload_n X d_W_297 rfl 0 rfl ?_
    refine pn_iconst X d_W_298 ?_
    refine pn_iadd X d_W_299 ?_
    refine pn_sld X hX hbl hbA d_W_300 (by omega) (by omega) (by omega) ?_
    refine pn_st (st' := (([pe_i ((xs ((2 : Int) + 1).toNat).toInt), pe_i ((xs ((2 : Int) + 2).toNat).toInt)] : List pe_V).map (pe_c ad)).reverse ++ .ref (ad 29) :: [.int (Int32.ofInt z1)]) rfl (pn_callM (n := 2) (b := 29) X hZ (y_M_cell hB (by omega) hm5 (pe_Ri _) (pe_Ri _)) d_W_301 c_W_54 i_M_cell s_M_cell rfl rfl rfl (Nat.le_of_ble_eq_true rfl) (Nat.le_of_ble_eq_true rfl) (Nat.le_of_ble_eq_true rfl) ⟨(Nat.le_of_ble_eq_true rfl), (Nat.le_of_ble_eq_true rfl)⟩ (fun r2 σ2 hq2 => ?_))
    obtain ⟨z2, rfl, e2, hz2⟩ := hq2
    rw [e2]
    refine pn_st (st' := [.int (Int32.ofInt z2), .int (Int32.ofInt z1)]) rfl ?_
    have hzz : z1 = z2 := by rw [hz1, hz2, hf6.2.2.1, hf6.2.2.2, hm3.1, hm3.2]
    have hR2 : pe_R z2 := by rw [hz2]; split <;> exact ⟨by decide, by decide⟩
    refine pn_icmp_eq (t := 388) X d_W_304 (by rw [hzz]; exact hR2) hR2 (fun _ => ?_) (fun h => absurd hzz h)
    exact J388 _
  refine ⟨fun _ => ?_, fun _ => ?_⟩
  · show pn_G 4 D (fun q => s.heap.size ≤ q) p l e room_1 s m #[Value.ref b] below meth c (lw_Z below #[Value.ref b] s) 309 [(3, .int (Int32.ofInt 2)), (2, .ref (ad 29)), (1, .ref (ad 0)), (0, .ref b)] [] (pe_wd ad cA σ) 47 16994
    refine pn_aload_n X d_W_309 rfl 2 rfl ?_
    refine pn_aload_n X d_W_310 rfl 3 rfl ?_
    refine pn_iload_n X d_W_311 rfl 0 rfl ?_
    refine pn_iconst X d_W_312 ?_
    refine pn_iadd X d_W_313 ?_
    refine pn_sld X hX hbl hbA d_W_314 (by omega) (by omega) (by omega) ?_
    refine pn_aload_n X d_W_315 rfl 3 rfl ?_
    refine pn_iload_n X d_W_316 rfl 0 rfl ?_
    refine pn_iconst X d_W_317 ?_
    refine pn_iadd X d_W_318 ?_
    refine pn_sld X hX hbl hbA d_W_319 (by omega) (by omega) (by omega) ?_
    refine pn_st (st' := (([pe_i ((xs ((2 : Int) + 1).toNat).toInt), pe_i ((xs ((2 : Int) + 2).toNat).toInt)] : List pe_V).map (pe_c ad)).reverse ++ .ref (ad 0) :: []) rfl (pn_callM (n := 2) (b := 0) X hZ (y_P_look hB (by omega) hf9 (pe_Ri _) (pe_Ri _)) d_W_320 c_W_55 i_P_look s_P_look rfl rfl rfl (Nat.le_of_ble_eq_true rfl) (Nat.le_of_ble_eq_true rfl) (Nat.le_of_ble_eq_true rfl) ⟨(Nat.le_of_ble_eq_true rfl), (Nat.le_of_ble_eq_true rfl)⟩ (fun r1 σ1 hq1 => ?_))
    obtain ⟨z1, rfl, e1, hz1⟩ := hq1
    rw [e1]
    refine pn_st (st' := [.int (Int32.ofInt z1)]) rfl ?_
    refine pn_aload_n X d_W_323 rfl 1 rfl ?_
    refine pn_aload_n X d_W_324 rfl 3 rfl ?_
    refine pn_iload_n X d_W_325 rfl 0 rfl ?_
    refine pn_iconst X d_W_326 ?_
    refine pn_iadd X d_W_327 ?_
    refine pn_sld X hX hbl hbA d_W_328 (by omega) (by omega) (by omega) ?_
    refine pn_aload_n X d_W_329 rfl 3 rfl ?_
    refine pn_iload_n X d_W_330 rfl 0 rfl ?_
    refine pn_iconst X d_W_331 ?_
    refine pn_iadd X d_W_332 ?_
    refine pn_sld X hX hbl hbA d_W_333 (by omega) (by omega) (by omega) ?_
    refine pn_st (st' := (([pe_i ((xs ((2 : Int) + 1).toNat).toInt), pe_i ((xs ((2 : Int) + 2).toNat).toInt)] : List pe_V).map (pe_c ad)).reverse ++ .ref (ad 29) :: [.int (Int32.ofInt z1)]) rfl (pn_callM (n := 2) (b := 29) X hZ (y_M_look hB (by omega) hm6 (pe_Ri _) (pe_Ri _)) d_W_334 c_W_58 i_M_look s_M_look rfl rfl rfl (Nat.le_of_ble_eq_true rfl) (Nat.le_of_ble_eq_true rfl) (Nat.le_of_ble_eq_true rfl) ⟨(Nat.le_of_ble_eq_true rfl), (Nat.le_of_ble_eq_true rfl)⟩ (fun r2 σ2 hq2 => ?_))
    obtain ⟨z2, rfl, e2, hz2⟩ := hq2
    rw [e2]
    refine pn_st (st' := [.int (Int32.ofInt z2), .int (Int32.ofInt z1)]) rfl ?_
    have hzz : z1 = z2 := by rw [hz1, hz2, hf6.2.2.1, hf6.2.2.2, hm3.1, hm3.2]
    have hR2 : pe_R z2 := by rw [hz2]; split <;> exact ⟨by decide, by decide⟩
    refine pn_icmp_eq (t := 388) X d_W_337 (by rw [hzz]; exact hR2) hR2 (fun _ => ?_) (fun h => absurd hzz h)
    exact J388 _
  refine ⟨fun _ => ?_, fun _ => ?_⟩
  · show pn_G 4 D (fun q => s.heap.size ≤ q) p l e room_1 s m #[Value.ref b] below meth c (lw_Z below #[Value.ref b] s) 342 [(3, .int (Int32.ofInt 2)), (2, .ref (ad 29)), (1, .ref (ad 0)), (0, .ref b)] [] (pe_wd ad cA σ) 47 16994
    refine pn_aload_n X d_W_342 rfl 2 rfl ?_
    refine pn_aload_n X d_W_343 rfl 3 rfl ?_
    refine pn_iload_n X d_W_344 rfl 0 rfl ?_
    refine pn_iconst X d_W_345 ?_
    refine pn_iadd X d_W_346 ?_
    refine pn_sld X hX hbl hbA d_W_347 (by omega) (by omega) (by omega) ?_
    refine pn_st (st' := (([pe_i ((xs ((2 : Int) + 1).toNat).toInt)] : List pe_V).map (pe_c ad)).reverse ++ .ref (ad 0) :: []) rfl (pn_callM (n := 1) (b := 0) X hZ (y_P_terminal hB (by omega) (pe_Ri _)) d_W_348 c_W_59 i_P_terminal s_P_terminal rfl rfl rfl (Nat.le_of_ble_eq_true rfl) (Nat.le_of_ble_eq_true rfl) (Nat.le_of_ble_eq_true rfl) ⟨(Nat.le_of_ble_eq_true rfl), (Nat.le_of_ble_eq_true rfl)⟩ (fun r1 σ1 hq1 => ?_))
    obtain ⟨z1, rfl, e1, hz1⟩ := hq1
    rw [e1]
    refine pn_st (st' := [.int (Int32.ofInt z1)]) rfl ?_
    refine pn_aload_n X d_W_351 rfl 1 rfl ?_
    refine pn_aload_n X d_W_352 rfl 3 rfl ?_
    refine pn_iload_n X d_W_353 rfl 0 rfl ?_
    refine pn_iconst X d_W_354 ?_
    refine pn_iadd X d_W_355 ?_
    refine pn_sld X hX hbl hbA d_W_356 (by omega) (by omega) (by omega) ?_
    refine pn_st (st' := (([pe_i ((xs ((2 : Int) + 1).toNat).toInt)] : List pe_V).map (pe_c ad)).reverse ++ .ref (ad 29) :: [.int (Int32.ofInt z1)]) rfl (pn_callM (n := 1) (b := 29) X hZ (y_M_terminal hB (by omega) (pe_Ri _)) d_W_357 c_W_62 i_M_terminal s_M_terminal rfl rfl rfl (Nat.le_of_ble_eq_true rfl) (Nat.le_of_ble_eq_true rfl) (Nat.le_of_ble_eq_true rfl) ⟨(Nat.le_of_ble_eq_true rfl), (Nat.le_of_ble_eq_true rfl)⟩ (fun r2 σ2 hq2 => ?_))
    obtain ⟨z2, rfl, e2, hz2⟩ := hq2
    rw [e2]
    refine pn_st (st' := [.int (Int32.ofInt z2), .int (Int32.ofInt z1)]) rfl ?_
    have hzz : z1 = z2 := by rw [hz1, hz2]
    have hR2 : pe_R z2 := by rw [hz2]; split <;> exact ⟨by decide, by decide⟩
    refine pn_icmp_eq (t := 388) X d_W_360 (by rw [hzz]; exact hR2) hR2 (fun _ => ?_) (fun h => absurd hzz h)
    exact J388 _
  refine ⟨fun _ => ?_, fun _ => ?_⟩
  · show pn_G 4 D (fun q => s.heap.size ≤ q) p l e room_1 s m #[Value.ref b] below meth c (lw_Z below #[Value.ref b] s) 365 [(3, .int (Int32.ofInt 2)), (2, .ref (ad 29)), (1, .ref (ad 0)), (0, .ref b)] [] (pe_wd ad cA σ) 47 16994
    refine pn_aload_n X d_W_365 rfl 2 rfl ?_
    refine pn_aload_n X d_W_366 rfl 3 rfl ?_
    refine pn_iload_n X d_W_367 rfl 0 rfl ?_
    refine pn_iconst X d_W_368 ?_
    refine pn_iadd X d_W_369 ?_
    refine pn_sld X hX hbl hbA d_W_370 (by omega) (by omega) (by omega) ?_
    refine pn_st (st' := (([pe_i ((xs ((2 : Int) + 1).toNat).toInt)] : List pe_V).map (pe_c ad)).reverse ++ .ref (ad 0) :: []) rfl (pn_callM (n := 1) (b := 0) X hZ (y_P_sent hB hf4.2.1 (pe_Ri _)) d_W_371 c_W_63 i_P_sent s_P_sent rfl rfl rfl (Nat.le_of_ble_eq_true rfl) (Nat.le_of_ble_eq_true rfl) (Nat.le_of_ble_eq_true rfl) ⟨(Nat.le_of_ble_eq_true rfl), (Nat.le_of_ble_eq_true rfl)⟩ (fun r1 σ1 hq1 => ?_))
    obtain ⟨z1, rfl, e1, hz1⟩ := hq1
    rw [e1]
    refine pn_st (st' := [.int (Int32.ofInt z1)]) rfl ?_
    refine pn_aload_n X d_W_374 rfl 1 rfl ?_
    refine pn_aload_n X d_W_375 rfl 3 rfl ?_
    refine pn_iload_n X d_W_376 rfl 0 rfl ?_
    refine pn_iconst X d_W_377 ?_
    refine pn_iadd X d_W_378 ?_
    refine pn_sld X hX hbl hbA d_W_379 (by omega) (by omega) (by omega) ?_
    refine pn_st (st' := (([pe_i ((xs ((2 : Int) + 1).toNat).toInt)] : List pe_V).map (pe_c ad)).reverse ++ .ref (ad 29) :: [.int (Int32.ofInt z1)]) rfl (pn_callM (n := 1) (b := 29) X hZ (y_M_sent hB (by omega) (pe_Ri _)) d_W_380 c_W_66 i_M_sent s_M_sent rfl rfl rfl (Nat.le_of_ble_eq_true rfl) (Nat.le_of_ble_eq_true rfl) (Nat.le_of_ble_eq_true rfl) ⟨(Nat.le_of_ble_eq_true rfl), (Nat.le_of_ble_eq_true rfl)⟩ (fun r2 σ2 hq2 => ?_))
    obtain ⟨z2, rfl, e2, hz2⟩ := hq2
    rw [e2]
    refine pn_st (st' := [.int (Int32.ofInt z2), .int (Int32.ofInt z1)]) rfl ?_
    have hzz : z1 = z2 := by omega
    have hR2 : pe_R z2 := ⟨by omega, by omega⟩
    refine pn_icmp_eq (t := 388) X d_W_383 (by rw [hzz]; exact hR2) hR2 (fun _ => ?_) (fun h => absurd hzz h)
    exact J388 _
  show pn_G 4 D (fun q => s.heap.size ≤ q) p l e room_1 s m #[Value.ref b] below meth c (lw_Z below #[Value.ref b] s) 388 [(3, .int (Int32.ofInt 2)), (2, .ref (ad 29)), (1, .ref (ad 0)), (0, .ref b)] [] (pe_wd ad cA σ) 47 16994
  exact J388 _
