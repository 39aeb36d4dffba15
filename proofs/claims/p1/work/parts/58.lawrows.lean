/-! rows of the law -/
section PNL
variable {own : String} {cc : ByteArray} {nL : Nat} {D : va_G} {cA : FieldType → ClassId} {A : Nat → Prop} {p : Program} {l : Launch} {e : Env} {R : Room} {s : State} {m : MethodId} {args : Array Value} {below : List Frame} {meth : Method} {c : Code} {QQ : State → Prop} {pc : Nat} {lv : List (Nat × Value)} {st : List Value} {w : va_W} {cells slots : Nat}
theorem pn_perm {w' : va_W} (is : List Nat) (hn : va_nd is = true) (h : is.map (fun i => w[i]?) = w'.map some) (kk : pn_G nL D A p l e R s m args below meth c QQ (pc) lv (st) w' (cells) (slots)) : pn_G nL D A p l e R s m args below meth c QQ (pc) lv (st) w (cells) (slots) := by
  intro H locs ls hl hP hD hS
  have hfm : is.filterMap (fun i => w[i]?) = w' := by
    have q : is.filterMap (fun i => w[i]?) = (is.map (fun i => w[i]?)).filterMap id := by rw [List.filterMap_map]; rfl
    rw [q, h, List.filterMap_map]
    exact List.filterMap_some
  exact kk H locs ls hl (hP.sub is hfm) (hD.sub is hn h) hS
theorem pn_sld (X : pn_X own cc nL D cA A p s m args c) {b L : Nat} {xs : Nat → Int32} {i : Int} (hX : va_X b L xs s s.heap) (hbl : b < s.heap.size) (hbA : ¬ A b) (hd : decode cc pc = .ok (.iaload, 1)) (h0 : 0 ≤ i) (h1 : i < L) (hL : L < 2147483648) (kk : pn_G nL D A p l e R s m args below meth c QQ (pc + 1) lv (.int (Int32.ofInt (xs i.toNat).toInt) :: st) w (cells) (slots)) : pn_G nL D A p l e R s m args below meth c QQ (pc) lv (.int (Int32.ofInt i) :: .ref b :: st) w (cells) (slots) := by
  intro H locs ls hl hP hD hS
  refine va_sld X.1 X.2.1 hX hbl hbA hS (pe_in hL h0 h1) hd ?_
  have kk := kk H locs ls hl hP hD hS
  rw [Int32.ofInt_toInt] at kk
  rw [pe_clamp h0 (by omega)]
  exact kk
theorem pn_slen (X : pn_X own cc nL D cA A p s m args c) {b L : Nat} {xs : Nat → Int32} (hX : va_X b L xs s s.heap) (hbl : b < s.heap.size) (hbA : ¬ A b) (hd : decode cc pc = .ok (.arraylength, 1)) (kk : pn_G nL D A p l e R s m args below meth c QQ (pc + 1) lv (.int (Int32.ofInt (L : Int)) :: st) w (cells) (slots)) : pn_G nL D A p l e R s m args below meth c QQ (pc) lv (.ref b :: st) w (cells) (slots) := by
  intro H locs ls hl hP hD hS
  refine va_slen X.1 X.2.1 hX hbl hbA hS hd ?_
  have kk := kk H locs ls hl hP hD hS
  rw [Int32.ofInt_eq_ofNat] at kk
  exact kk
theorem pn_tsw (X : pn_X own cc nL D cA A p s m args c) {a d lo hi : Int} {offs : Array Int} {n dt : Nat} (tb : List (Int × Nat)) (hd : decode cc pc = .ok (.tableswitch d lo hi offs, n)) (ha : pe_R a) (kk : pe_sw a (fun t => pn_G nL D A p l e R s m args below meth c QQ (t) lv (st) w (cells) (slots)) dt tb) (hdt : (pc : Int) + d = (dt : Int) := by decide) (hk : tb.map (fun q => q.1) = (List.range tb.length).map (fun j : Nat => lo + (j : Int)) := by decide) (hn : lo + (tb.length : Int) = hi + 1 := by decide) (ht : tb.map (fun q => (q.2 : Int)) = offs.toList.map (fun o => (pc : Int) + o) := by decide) : pn_G nL D A p l e R s m args below meth c QQ (pc) lv (.int (Int32.ofInt a) :: st) w (cells) (slots) := by
  intro H locs ls hl hP hD hS
  have key : ∀ (j : Nat) (q : Int × Nat), tb[j]? = some q → q.1 = lo + (j : Int) := by
    intro j q hq
    have h1 : (tb.map (fun q => q.1))[j]? = some q.1 := by rw [List.getElem?_map, hq]; rfl
    rw [hk, List.getElem?_map] at h1
    have hj : j < tb.length := (List.getElem?_eq_some_iff.mp hq).1
    rw [List.getElem?_range hj] at h1
    exact (Option.some.inj h1).symm
  by_cases h : a < lo ∨ hi < a
  · refine lv_tableOut X.1 X.2.1 hd (by rw [pe_toInt ha]; exact h) hdt (pe_sw_no tb (fun q hq e => ?_) kk H locs ls hl hP hD hS)
    obtain ⟨j, hj⟩ := List.getElem?_of_mem hq
    have h1 := key j q hj
    have h2 : j < tb.length := (List.getElem?_eq_some_iff.mp hj).1
    omega
  · have hj : (a - lo).toNat < tb.length := by omega
    rcases hq : tb[(a - lo).toNat]'hj with ⟨k1, t1⟩
    have hq2 : tb[(a - lo).toNat]? = some (k1, t1) := by rw [List.getElem?_eq_getElem hj, hq]
    have h1 := key _ _ hq2
    have hk1 : k1 = a := by
      have : k1 = lo + ((a - lo).toNat : Int) := h1
      omega
    subst hk1
    have ho : ∃ off, offs[(k1 - lo).toNat]? = some off ∧ (pc : Int) + off = (t1 : Int) := by
      have h3 : (tb.map (fun q => (q.2 : Int)))[(k1 - lo).toNat]? = some (t1 : Int) := by rw [List.getElem?_map, hq2]; rfl
      rw [ht, List.getElem?_map] at h3
      cases h4 : offs.toList[(k1 - lo).toNat]? with
      | none => rw [h4] at h3; cases h3
      | some off =>
        rw [h4] at h3
        exact ⟨off, by simpa using h4, Option.some.inj h3⟩
    obtain ⟨off, ho1, ho2⟩ := ho
    refine lv_tableIn X.1 X.2.1 hd (by rw [pe_toInt ha]; omega) (by rw [pe_toInt ha]; omega) (by rw [pe_toInt ha]; exact ho1) ho2 (pe_sw_at tb _ t1 hq2 (fun j hj2 q hq3 e => ?_) kk H locs ls hl hP hD hS)
    have h5 := key j q hq3
    omega
theorem pn_callM (X : pn_X own cc nL D cA A p s m args c) {y' : pe_Y} {ad : Nat → Nat} {σ : pe_H} {idx n b ci N : Nat} {av : List pe_V} {C : String} {T : u_T} {Q1 : Option pe_V → pe_H → Prop} (hZ : pe_Zs ad A s s.heap) (hM : pe_M y' (.inr (.inl b) :: av) σ Q1) (hd : decode cc pc = .ok (.invokevirtual idx, 3)) (hw : pe_CL own idx y' n) (hin : Cond.instanceMethod y'.1 ∈ pe_WS) (hsel : Cond.selects C y'.1 y'.1 ∈ pe_WS) (hs : pe_sh[b]? = some (.inr (ci, N))) (hc : vwCl[ci]? = some (C, T, N)) (hn : av.length = n) (hf : y'.2.2.2.2.1 + 1 ≤ R.frames) (hlo : 8 + (y'.2.2.1 + 11) + y'.2.2.2.2.2 ≤ R.locals) (hcat : (st.map fun v => v.category).sum ≤ 8) (hcs : cells ≤ R.cells ∧ slots ≤ R.slots) (kk : ∀ r σ', Q1 r σ' → pn_G nL D A p l e R s m args below meth c QQ (pc + 3) lv ((r.map (pe_c ad)).toList ++ st) (pe_wd ad cA σ') (cells) (slots)) : pn_G nL D A p l e R s m args below meth c QQ (pc) lv ((av.map (pe_c ad)).reverse ++ .ref (ad b) :: st) (pe_wd ad cA σ) (cells) (slots) := by
  intro H locs ls hl hP hD hS
  obtain ⟨hlink, hcode, hini, hd1, hd2, hd3⟩ := hw
  have hAa : ∀ q, pe_A ad H.size q → A q := by
    rintro q (⟨a, ha, rfl⟩ | h)
    · exact hD.2 a _ (pe_wd_at (List.getElem?_eq_getElem ha))
    · exact X.2.2.2.2.2.2.1 q (Nat.le_trans hS.1 h)
  have hkept : ∀ a : Nat, a < s.heap.size → ¬ A a → H[a]? = s.heap[a]? := fun a h1 h2 => hS.2.1 a h1 h2
  have hZ' : pe_Zs ad (pe_A ad H.size) s H := ⟨(hZ.1.kept hkept).narrow hAa, (hZ.2.1.kept hkept).narrow hAa, (hZ.2.2.1.kept hkept).narrow hAa, (hZ.2.2.2.kept hkept).narrow hAa⟩
  have hK := X.2.2.2.2.2.1
  have hfix : CallFix p m c cc nL s args pe_WS own := ⟨X.1, X.2.1, X.2.2.1, X.2.2.2.2.1, X.2.2.2.1⟩
  have hcell : ∃ cellB : Cell, H[ad b]? = some cellB ∧ cellB.vm.isStatics = false ∧ s.vm.findClass C = some cellB.cls := va_recv hK hP hc (pe_wd_at hs)
  have hpre := pe_pre (av := .inr (.inl b) :: av) hK hP hD hZ'
  have go : va_Run p l e R s m args below meth c H locs cells slots 0 0 (F0 m pc ls ((av.map (pe_c ad)).reverse ++ .ref (ad b) :: st)) st (pe_Qc D ad cA (pe_A ad H.size) Q1 (Value.ref (ad b) :: av.map (pe_c ad)).toArray) (pe_A ad H.size) := by
    exact va_runV (As := av.map (pe_c ad)) hfix (hM l D ad cA H.size) ⟨callB_of n X.2.2.2.1 (pn_good hcode) rfl rfl rfl (X.2.2.2.1 _ hini) (X.2.2.2.1 _ hlink) ⟨hd1, hd2, hd3⟩ ⟨hf, hlo⟩, X.2.2.2.1 _ hin, X.2.2.2.1 _ hsel⟩ ⟨hpre.1, hcell, hpre.2⟩ rfl (by rw [List.length_map]; exact hn) hl.1 rfl (lv_room hcat) hd hcs
  intro T hT XX
  obtain ⟨v, st₀, t, T', L, h0, X', hL, e1, e2, ⟨⟨r, σ', hv, hq, hp⟩, hz, hk⟩, stp⟩ := go T hT XX
  cases hv
  rw [h0] at hz hk
  have hD' : va_D A (pe_wd ad cA σ') := ⟨(pe_D (sz := H.size) hD σ').1, fun k q hk => by
    obtain ⟨g1, g2⟩ := pe_wd_fst hk
    rw [g2]
    exact hD.2 k _ (pe_wd_at (List.getElem?_eq_getElem g1))⟩
  obtain ⟨t2, a1, b1⟩ := kk r σ' hq T'.heap (locs ++ L) ls hl (by rw [e1]; exact hp) hD' ⟨Nat.le_trans hS.1 (by rw [e1]; exact hz), fun q h1 h2 => by rw [e1, hk q (Nat.lt_of_lt_of_le h1 hS.1) (fun z => h2 (hAa q z))]; exact hS.2.1 q h1 h2, fun q hq => by
      rcases List.mem_append.mp hq with h | h
      · exact hS.2.2 q h
      · exact hAa _ (hL q h)⟩ T' rfl X'
  exact ⟨t2, stp t2 a1, b1⟩
end PNL
theorem d_W_0 : decode code 0 = .ok (.new 7, 3) := by decide +kernel
theorem d_W_3 : decode code 3 = .ok (.dup, 1) := by decide +kernel
theorem d_W_4 : decode code 4 = .ok (.aload_n 0, 1) := by decide +kernel
theorem d_W_5 : decode code 5 = .ok (.iconst 0, 1) := by decide +kernel
theorem d_W_6 : decode code 6 = .ok (.invokestatic 9, 3) := by decide +kernel
theorem d_W_9 : decode code 9 = .ok (.aload_n 0, 1) := by decide +kernel
theorem d_W_10 : decode code 10 = .ok (.iconst 1, 1) := by decide +kernel
theorem d_W_11 : decode code 11 = .ok (.invokestatic 9, 3) := by decide +kernel
theorem d_W_14 : decode code 14 = .ok (.invokespecial 15, 3) := by decide +kernel
theorem d_W_17 : decode code 17 = .ok (.astore_n 1, 1) := by decide +kernel
theorem d_W_18 : decode code 18 = .ok (.new 18, 3) := by decide +kernel
theorem d_W_21 : decode code 21 = .ok (.dup, 1) := by decide +kernel
theorem d_W_22 : decode code 22 = .ok (.aload_n 0, 1) := by decide +kernel
theorem d_W_23 : decode code 23 = .ok (.iconst 0, 1) := by decide +kernel
theorem d_W_24 : decode code 24 = .ok (.invokestatic 9, 3) := by decide +kernel
theorem d_W_27 : decode code 27 = .ok (.aload_n 0, 1) := by decide +kernel
theorem d_W_28 : decode code 28 = .ok (.iconst 1, 1) := by decide +kernel
theorem d_W_29 : decode code 29 = .ok (.invokestatic 9, 3) := by decide +kernel
theorem d_W_32 : decode code 32 = .ok (.invokespecial 20, 3) := by decide +kernel
theorem d_W_35 : decode code 35 = .ok (.astore_n 2, 1) := by decide +kernel
theorem d_W_36 : decode code 36 = .ok (.iconst 2, 1) := by decide +kernel
theorem d_W_37 : decode code 37 = .ok (.istore_n 3, 1) := by decide +kernel
theorem d_W_38 : decode code 38 = .ok (.iload_n 3, 1) := by decide +kernel
theorem d_W_39 : decode code 39 = .ok (.aload_n 0, 1) := by decide +kernel
theorem d_W_40 : decode code 40 = .ok (.arraylength, 1) := by decide +kernel
theorem d_W_41 : decode code 41 = .ok (.iconst 4, 1) := by decide +kernel
theorem d_W_42 : decode code 42 = .ok (.isub, 1) := by decide +kernel
theorem d_W_43 : decode code 43 = .ok (.if_icmp .gt 351, 3) := by decide +kernel
theorem d_W_46 : decode code 46 = .ok (.aload_n 0, 1) := by decide +kernel
theorem d_W_47 : decode code 47 = .ok (.iload_n 3, 1) := by decide +kernel
theorem d_W_48 : decode code 48 = .ok (.iaload, 1) := by decide +kernel
theorem d_W_49 : decode code 49 = .ok (.bipush 15, 2) := by decide +kernel
theorem d_W_51 : decode code 51 = .ok (.iand, 1) := by decide +kernel
theorem d_W_52 : decode code 52 = .ok (.tableswitch 336 0 9 #[56, 119, 132, 165, 178, 201, 224, 257, 290, 313], 56) := by decide +kernel
theorem d_W_108 : decode code 108 = .ok (.aload_n 1, 1) := by decide +kernel
theorem d_W_109 : decode code 109 = .ok (.aload_n 0, 1) := by decide +kernel
theorem d_W_110 : decode code 110 = .ok (.iload_n 3, 1) := by decide +kernel
theorem d_W_111 : decode code 111 = .ok (.iconst 1, 1) := by decide +kernel
theorem d_W_112 : decode code 112 = .ok (.iadd, 1) := by decide +kernel
theorem d_W_113 : decode code 113 = .ok (.iaload, 1) := by decide +kernel
theorem d_W_114 : decode code 114 = .ok (.i2l, 1) := by decide +kernel
theorem d_W_115 : decode code 115 = .ok (.bipush 32, 2) := by decide +kernel
theorem d_W_117 : decode code 117 = .ok (.lshl, 1) := by decide +kernel
theorem d_W_118 : decode code 118 = .ok (.aload_n 0, 1) := by decide +kernel
theorem d_W_119 : decode code 119 = .ok (.iload_n 3, 1) := by decide +kernel
theorem d_W_120 : decode code 120 = .ok (.iconst 2, 1) := by decide +kernel
theorem d_W_121 : decode code 121 = .ok (.iadd, 1) := by decide +kernel
theorem d_W_122 : decode code 122 = .ok (.iaload, 1) := by decide +kernel
theorem d_W_123 : decode code 123 = .ok (.i2l, 1) := by decide +kernel
theorem d_W_124 : decode code 124 = .ok (.ldc2_w 21, 3) := by decide +kernel
theorem d_W_127 : decode code 127 = .ok (.land, 1) := by decide +kernel
theorem d_W_128 : decode code 128 = .ok (.lor, 1) := by decide +kernel
theorem d_W_129 : decode code 129 = .ok (.aload_n 0, 1) := by decide +kernel
theorem d_W_130 : decode code 130 = .ok (.iload_n 3, 1) := by decide +kernel
theorem d_W_131 : decode code 131 = .ok (.iconst 3, 1) := by decide +kernel
theorem d_W_132 : decode code 132 = .ok (.iadd, 1) := by decide +kernel
theorem d_W_133 : decode code 133 = .ok (.iaload, 1) := by decide +kernel
theorem d_W_134 : decode code 134 = .ok (.invokevirtual 23, 3) := by decide +kernel
theorem d_W_137 : decode code 137 = .ok (.aload_n 2, 1) := by decide +kernel
theorem d_W_138 : decode code 138 = .ok (.aload_n 0, 1) := by decide +kernel
theorem d_W_139 : decode code 139 = .ok (.iload_n 3, 1) := by decide +kernel
theorem d_W_140 : decode code 140 = .ok (.iconst 1, 1) := by decide +kernel
theorem d_W_141 : decode code 141 = .ok (.iadd, 1) := by decide +kernel
theorem d_W_142 : decode code 142 = .ok (.iaload, 1) := by decide +kernel
theorem d_W_143 : decode code 143 = .ok (.i2l, 1) := by decide +kernel
theorem d_W_144 : decode code 144 = .ok (.bipush 32, 2) := by decide +kernel
theorem d_W_146 : decode code 146 = .ok (.lshl, 1) := by decide +kernel
theorem d_W_147 : decode code 147 = .ok (.aload_n 0, 1) := by decide +kernel
theorem d_W_148 : decode code 148 = .ok (.iload_n 3, 1) := by decide +kernel
theorem d_W_149 : decode code 149 = .ok (.iconst 2, 1) := by decide +kernel
theorem d_W_150 : decode code 150 = .ok (.iadd, 1) := by decide +kernel
theorem d_W_151 : decode code 151 = .ok (.iaload, 1) := by decide +kernel
theorem d_W_152 : decode code 152 = .ok (.i2l, 1) := by decide +kernel
theorem d_W_153 : decode code 153 = .ok (.ldc2_w 21, 3) := by decide +kernel
theorem d_W_156 : decode code 156 = .ok (.land, 1) := by decide +kernel
theorem d_W_157 : decode code 157 = .ok (.lor, 1) := by decide +kernel
theorem d_W_158 : decode code 158 = .ok (.aload_n 0, 1) := by decide +kernel
theorem d_W_159 : decode code 159 = .ok (.iload_n 3, 1) := by decide +kernel
theorem d_W_160 : decode code 160 = .ok (.iconst 3, 1) := by decide +kernel
theorem d_W_161 : decode code 161 = .ok (.iadd, 1) := by decide +kernel
theorem d_W_162 : decode code 162 = .ok (.iaload, 1) := by decide +kernel
theorem d_W_163 : decode code 163 = .ok (.invokevirtual 27, 3) := by decide +kernel
theorem d_W_166 : decode code 166 = .ok (.if_icmp .eq 222, 3) := by decide +kernel
theorem d_W_169 : decode code 169 = .ok (.iconst 0, 1) := by decide +kernel
theorem d_W_170 : decode code 170 = .ok (.ireturn, 1) := by decide +kernel
theorem d_W_171 : decode code 171 = .ok (.aload_n 1, 1) := by decide +kernel
theorem d_W_172 : decode code 172 = .ok (.invokevirtual 28, 3) := by decide +kernel
theorem d_W_175 : decode code 175 = .ok (.aload_n 2, 1) := by decide +kernel
theorem d_W_176 : decode code 176 = .ok (.invokevirtual 32, 3) := by decide +kernel
theorem d_W_179 : decode code 179 = .ok (.if_icmp .eq 209, 3) := by decide +kernel
theorem d_W_182 : decode code 182 = .ok (.iconst 0, 1) := by decide +kernel
theorem d_W_183 : decode code 183 = .ok (.ireturn, 1) := by decide +kernel
theorem d_W_184 : decode code 184 = .ok (.aload_n 1, 1) := by decide +kernel
theorem d_W_185 : decode code 185 = .ok (.aload_n 0, 1) := by decide +kernel
theorem d_W_186 : decode code 186 = .ok (.iload_n 3, 1) := by decide +kernel
theorem d_W_187 : decode code 187 = .ok (.iconst 1, 1) := by decide +kernel
theorem d_W_188 : decode code 188 = .ok (.iadd, 1) := by decide +kernel
theorem d_W_189 : decode code 189 = .ok (.iaload, 1) := by decide +kernel
theorem d_W_190 : decode code 190 = .ok (.aload_n 0, 1) := by decide +kernel
theorem d_W_191 : decode code 191 = .ok (.iload_n 3, 1) := by decide +kernel
theorem d_W_192 : decode code 192 = .ok (.iconst 2, 1) := by decide +kernel
theorem d_W_193 : decode code 193 = .ok (.iadd, 1) := by decide +kernel
theorem d_W_194 : decode code 194 = .ok (.iaload, 1) := by decide +kernel
theorem d_W_195 : decode code 195 = .ok (.invokevirtual 33, 3) := by decide +kernel
theorem d_W_198 : decode code 198 = .ok (.aload_n 2, 1) := by decide +kernel
theorem d_W_199 : decode code 199 = .ok (.aload_n 0, 1) := by decide +kernel
theorem d_W_200 : decode code 200 = .ok (.iload_n 3, 1) := by decide +kernel
theorem d_W_201 : decode code 201 = .ok (.iconst 1, 1) := by decide +kernel
theorem d_W_202 : decode code 202 = .ok (.iadd, 1) := by decide +kernel
theorem d_W_203 : decode code 203 = .ok (.iaload, 1) := by decide +kernel
theorem d_W_204 : decode code 204 = .ok (.aload_n 0, 1) := by decide +kernel
theorem d_W_205 : decode code 205 = .ok (.iload_n 3, 1) := by decide +kernel
theorem d_W_206 : decode code 206 = .ok (.iconst 2, 1) := by decide +kernel
theorem d_W_207 : decode code 207 = .ok (.iadd, 1) := by decide +kernel
theorem d_W_208 : decode code 208 = .ok (.iaload, 1) := by decide +kernel
theorem d_W_209 : decode code 209 = .ok (.invokevirtual 37, 3) := by decide +kernel
theorem d_W_212 : decode code 212 = .ok (.if_icmp .eq 176, 3) := by decide +kernel
theorem d_W_215 : decode code 215 = .ok (.iconst 0, 1) := by decide +kernel
theorem d_W_216 : decode code 216 = .ok (.ireturn, 1) := by decide +kernel
theorem d_W_217 : decode code 217 = .ok (.aload_n 1, 1) := by decide +kernel
theorem d_W_218 : decode code 218 = .ok (.invokevirtual 38, 3) := by decide +kernel
theorem d_W_221 : decode code 221 = .ok (.aload_n 2, 1) := by decide +kernel
theorem d_W_222 : decode code 222 = .ok (.invokevirtual 41, 3) := by decide +kernel
theorem d_W_225 : decode code 225 = .ok (.if_icmp .eq 163, 3) := by decide +kernel
theorem d_W_228 : decode code 228 = .ok (.iconst 0, 1) := by decide +kernel
theorem d_W_229 : decode code 229 = .ok (.ireturn, 1) := by decide +kernel
theorem d_W_230 : decode code 230 = .ok (.aload_n 1, 1) := by decide +kernel
theorem d_W_231 : decode code 231 = .ok (.aload_n 0, 1) := by decide +kernel
theorem d_W_232 : decode code 232 = .ok (.iload_n 3, 1) := by decide +kernel
theorem d_W_233 : decode code 233 = .ok (.iconst 1, 1) := by decide +kernel
theorem d_W_234 : decode code 234 = .ok (.iadd, 1) := by decide +kernel
theorem d_W_235 : decode code 235 = .ok (.iaload, 1) := by decide +kernel
theorem d_W_236 : decode code 236 = .ok (.invokevirtual 42, 3) := by decide +kernel
theorem d_W_239 : decode code 239 = .ok (.aload_n 2, 1) := by decide +kernel
theorem d_W_240 : decode code 240 = .ok (.aload_n 0, 1) := by decide +kernel
theorem d_W_241 : decode code 241 = .ok (.iload_n 3, 1) := by decide +kernel
theorem d_W_242 : decode code 242 = .ok (.iconst 1, 1) := by decide +kernel
theorem d_W_243 : decode code 243 = .ok (.iadd, 1) := by decide +kernel
theorem d_W_244 : decode code 244 = .ok (.iaload, 1) := by decide +kernel
theorem d_W_245 : decode code 245 = .ok (.invokevirtual 46, 3) := by decide +kernel
theorem d_W_248 : decode code 248 = .ok (.if_icmp .eq 140, 3) := by decide +kernel
theorem d_W_251 : decode code 251 = .ok (.iconst 0, 1) := by decide +kernel
theorem d_W_252 : decode code 252 = .ok (.ireturn, 1) := by decide +kernel
theorem d_W_253 : decode code 253 = .ok (.aload_n 1, 1) := by decide +kernel
theorem d_W_254 : decode code 254 = .ok (.aload_n 0, 1) := by decide +kernel
theorem d_W_255 : decode code 255 = .ok (.iload_n 3, 1) := by decide +kernel
theorem d_W_256 : decode code 256 = .ok (.iconst 1, 1) := by decide +kernel
theorem d_W_257 : decode code 257 = .ok (.iadd, 1) := by decide +kernel
theorem d_W_258 : decode code 258 = .ok (.iaload, 1) := by decide +kernel
theorem d_W_259 : decode code 259 = .ok (.invokevirtual 47, 3) := by decide +kernel
theorem d_W_262 : decode code 262 = .ok (.aload_n 2, 1) := by decide +kernel
theorem d_W_263 : decode code 263 = .ok (.aload_n 0, 1) := by decide +kernel
theorem d_W_264 : decode code 264 = .ok (.iload_n 3, 1) := by decide +kernel
theorem d_W_265 : decode code 265 = .ok (.iconst 1, 1) := by decide +kernel
theorem d_W_266 : decode code 266 = .ok (.iadd, 1) := by decide +kernel
theorem d_W_267 : decode code 267 = .ok (.iaload, 1) := by decide +kernel
theorem d_W_268 : decode code 268 = .ok (.invokevirtual 50, 3) := by decide +kernel
theorem d_W_271 : decode code 271 = .ok (.if_icmp .eq 117, 3) := by decide +kernel
theorem d_W_274 : decode code 274 = .ok (.iconst 0, 1) := by decide +kernel
theorem d_W_275 : decode code 275 = .ok (.ireturn, 1) := by decide +kernel
theorem d_W_276 : decode code 276 = .ok (.aload_n 1, 1) := by decide +kernel
theorem d_W_277 : decode code 277 = .ok (.aload_n 0, 1) := by decide +kernel
theorem d_W_278 : decode code 278 = .ok (.iload_n 3, 1) := by decide +kernel
theorem d_W_279 : decode code 279 = .ok (.iconst 1, 1) := by decide +kernel
theorem d_W_280 : decode code 280 = .ok (.iadd, 1) := by decide +kernel
theorem d_W_281 : decode code 281 = .ok (.iaload, 1) := by decide +kernel
theorem d_W_282 : decode code 282 = .ok (.aload_n 0, 1) := by decide +kernel
theorem d_W_283 : decode code 283 = .ok (.iload_n 3, 1) := by decide +kernel
theorem d_W_284 : decode code 284 = .ok (.iconst 2, 1) := by decide +kernel
theorem d_W_285 : decode code 285 = .ok (.iadd, 1) := by decide +kernel
theorem d_W_286 : decode code 286 = .ok (.iaload, 1) := by decide +kernel
theorem d_W_287 : decode code 287 = .ok (.invokevirtual 51, 3) := by decide +kernel
theorem d_W_290 : decode code 290 = .ok (.aload_n 2, 1) := by decide +kernel
theorem d_W_291 : decode code 291 = .ok (.aload_n 0, 1) := by decide +kernel
theorem d_W_292 : decode code 292 = .ok (.iload_n 3, 1) := by decide +kernel
theorem d_W_293 : decode code 293 = .ok (.iconst 1, 1) := by decide +kernel
theorem d_W_294 : decode code 294 = .ok (.iadd, 1) := by decide +kernel
theorem d_W_295 : decode code 295 = .ok (.iaload, 1) := by decide +kernel
theorem d_W_296 : decode code 296 = .ok (.aload_n 0, 1) := by decide +kernel
theorem d_W_297 : decode code 297 = .ok (.iload_n 3, 1) := by decide +kernel
theorem d_W_298 : decode code 298 = .ok (.iconst 2, 1) := by decide +kernel
theorem d_W_299 : decode code 299 = .ok (.iadd, 1) := by decide +kernel
theorem d_W_300 : decode code 300 = .ok (.iaload, 1) := by decide +kernel
theorem d_W_301 : decode code 301 = .ok (.invokevirtual 54, 3) := by decide +kernel
theorem d_W_304 : decode code 304 = .ok (.if_icmp .eq 84, 3) := by decide +kernel
theorem d_W_307 : decode code 307 = .ok (.iconst 0, 1) := by decide +kernel
theorem d_W_308 : decode code 308 = .ok (.ireturn, 1) := by decide +kernel
theorem d_W_309 : decode code 309 = .ok (.aload_n 1, 1) := by decide +kernel
theorem d_W_310 : decode code 310 = .ok (.aload_n 0, 1) := by decide +kernel
theorem d_W_311 : decode code 311 = .ok (.iload_n 3, 1) := by decide +kernel
theorem d_W_312 : decode code 312 = .ok (.iconst 1, 1) := by decide +kernel
theorem d_W_313 : decode code 313 = .ok (.iadd, 1) := by decide +kernel
theorem d_W_314 : decode code 314 = .ok (.iaload, 1) := by decide +kernel
theorem d_W_315 : decode code 315 = .ok (.aload_n 0, 1) := by decide +kernel
theorem d_W_316 : decode code 316 = .ok (.iload_n 3, 1) := by decide +kernel
theorem d_W_317 : decode code 317 = .ok (.iconst 2, 1) := by decide +kernel
theorem d_W_318 : decode code 318 = .ok (.iadd, 1) := by decide +kernel
theorem d_W_319 : decode code 319 = .ok (.iaload, 1) := by decide +kernel
theorem d_W_320 : decode code 320 = .ok (.invokevirtual 55, 3) := by decide +kernel
theorem d_W_323 : decode code 323 = .ok (.aload_n 2, 1) := by decide +kernel
theorem d_W_324 : decode code 324 = .ok (.aload_n 0, 1) := by decide +kernel
theorem d_W_325 : decode code 325 = .ok (.iload_n 3, 1) := by decide +kernel
theorem d_W_326 : decode code 326 = .ok (.iconst 1, 1) := by decide +kernel
theorem d_W_327 : decode code 327 = .ok (.iadd, 1) := by decide +kernel
theorem d_W_328 : decode code 328 = .ok (.iaload, 1) := by decide +kernel
theorem d_W_329 : decode code 329 = .ok (.aload_n 0, 1) := by decide +kernel
theorem d_W_330 : decode code 330 = .ok (.iload_n 3, 1) := by decide +kernel
theorem d_W_331 : decode code 331 = .ok (.iconst 2, 1) := by decide +kernel
theorem d_W_332 : decode code 332 = .ok (.iadd, 1) := by decide +kernel
theorem d_W_333 : decode code 333 = .ok (.iaload, 1) := by decide +kernel
theorem d_W_334 : decode code 334 = .ok (.invokevirtual 58, 3) := by decide +kernel
theorem d_W_337 : decode code 337 = .ok (.if_icmp .eq 51, 3) := by decide +kernel
theorem d_W_340 : decode code 340 = .ok (.iconst 0, 1) := by decide +kernel
theorem d_W_341 : decode code 341 = .ok (.ireturn, 1) := by decide +kernel
theorem d_W_342 : decode code 342 = .ok (.aload_n 1, 1) := by decide +kernel
theorem d_W_343 : decode code 343 = .ok (.aload_n 0, 1) := by decide +kernel
theorem d_W_344 : decode code 344 = .ok (.iload_n 3, 1) := by decide +kernel
theorem d_W_345 : decode code 345 = .ok (.iconst 1, 1) := by decide +kernel
theorem d_W_346 : decode code 346 = .ok (.iadd, 1) := by decide +kernel
theorem d_W_347 : decode code 347 = .ok (.iaload, 1) := by decide +kernel
theorem d_W_348 : decode code 348 = .ok (.invokevirtual 59, 3) := by decide +kernel
theorem d_W_351 : decode code 351 = .ok (.aload_n 2, 1) := by decide +kernel
theorem d_W_352 : decode code 352 = .ok (.aload_n 0, 1) := by decide +kernel
theorem d_W_353 : decode code 353 = .ok (.iload_n 3, 1) := by decide +kernel
theorem d_W_354 : decode code 354 = .ok (.iconst 1, 1) := by decide +kernel
theorem d_W_355 : decode code 355 = .ok (.iadd, 1) := by decide +kernel
theorem d_W_356 : decode code 356 = .ok (.iaload, 1) := by decide +kernel
theorem d_W_357 : decode code 357 = .ok (.invokevirtual 62, 3) := by decide +kernel
theorem d_W_360 : decode code 360 = .ok (.if_icmp .eq 28, 3) := by decide +kernel
theorem d_W_363 : decode code 363 = .ok (.iconst 0, 1) := by decide +kernel
theorem d_W_364 : decode code 364 = .ok (.ireturn, 1) := by decide +kernel
theorem d_W_365 : decode code 365 = .ok (.aload_n 1, 1) := by decide +kernel
theorem d_W_366 : decode code 366 = .ok (.aload_n 0, 1) := by decide +kernel
theorem d_W_367 : decode code 367 = .ok (.iload_n 3, 1) := by decide +kernel
theorem d_W_368 : decode code 368 = .ok (.iconst 1, 1) := by decide +kernel
theorem d_W_369 : decode code 369 = .ok (.iadd, 1) := by decide +kernel
theorem d_W_370 : decode code 370 = .ok (.iaload, 1) := by decide +kernel
theorem d_W_371 : decode code 371 = .ok (.invokevirtual 63, 3) := by decide +kernel
theorem d_W_374 : decode code 374 = .ok (.aload_n 2, 1) := by decide +kernel
theorem d_W_375 : decode code 375 = .ok (.aload_n 0, 1) := by decide +kernel
theorem d_W_376 : decode code 376 = .ok (.iload_n 3, 1) := by decide +kernel
theorem d_W_377 : decode code 377 = .ok (.iconst 1, 1) := by decide +kernel
theorem d_W_378 : decode code 378 = .ok (.iadd, 1) := by decide +kernel
theorem d_W_379 : decode code 379 = .ok (.iaload, 1) := by decide +kernel
theorem d_W_380 : decode code 380 = .ok (.invokevirtual 66, 3) := by decide +kernel
theorem d_W_383 : decode code 383 = .ok (.if_icmp .eq 5, 3) := by decide +kernel
theorem d_W_386 : decode code 386 = .ok (.iconst 0, 1) := by decide +kernel
theorem d_W_387 : decode code 387 = .ok (.ireturn, 1) := by decide +kernel
theorem d_W_388 : decode code 388 = .ok (.iinc 3 4, 3) := by decide +kernel
theorem d_W_391 : decode code 391 = .ok (.goto (-353), 3) := by decide +kernel
theorem d_W_394 : decode code 394 = .ok (.iconst 1, 1) := by decide +kernel
theorem d_W_395 : decode code 395 = .ok (.ireturn, 1) := by decide +kernel
abbrev m_W_cell : pe_Y := (⟨"PaintEditorLaw", "cell", "([II)I"⟩, method_2_code, 2, (Option.some FieldType.int), 0, 0)
theorem d_W_cell_0 : decode method_2_code 0 = .ok (.iload_n 1, 1) := by decide +kernel
theorem d_W_cell_1 : decode method_2_code 1 = .ok (.aload_n 0, 1) := by decide +kernel
theorem d_W_cell_2 : decode method_2_code 2 = .ok (.arraylength, 1) := by decide +kernel
theorem d_W_cell_3 : decode method_2_code 3 = .ok (.if_icmp .ge 9, 3) := by decide +kernel
theorem d_W_cell_6 : decode method_2_code 6 = .ok (.aload_n 0, 1) := by decide +kernel
theorem d_W_cell_7 : decode method_2_code 7 = .ok (.iload_n 1, 1) := by decide +kernel
theorem d_W_cell_8 : decode method_2_code 8 = .ok (.iaload, 1) := by decide +kernel
theorem d_W_cell_9 : decode method_2_code 9 = .ok (.goto 4, 3) := by decide +kernel
theorem d_W_cell_12 : decode method_2_code 12 = .ok (.iconst 0, 1) := by decide +kernel
theorem d_W_cell_13 : decode method_2_code 13 = .ok (.ireturn, 1) := by decide +kernel
theorem c_W_23 : pe_CL "PaintEditorLaw" 23 m_P_type 2 := ⟨(pe_w2 (List.mem_of_getElem? (i := 112) (by decide +kernel))), pe_w2 (List.mem_of_getElem? (i := 115) rfl), pe_w1 (List.mem_of_getElem? (i := 1) (by decide +kernel)), by decide, by decide, by decide +kernel⟩
theorem c_W_28 : pe_CL "PaintEditorLaw" 28 m_P_tick 0 := ⟨(pe_w3 (List.mem_of_getElem? (i := 66) (by decide +kernel))), pe_w3 (List.mem_of_getElem? (i := 69) rfl), pe_w1 (List.mem_of_getElem? (i := 1) (by decide +kernel)), by decide, by decide, by decide +kernel⟩
theorem c_W_33 : pe_CL "PaintEditorLaw" 33 m_P_size 2 := ⟨(pe_w3 (List.mem_of_getElem? (i := 71) (by decide +kernel))), pe_w3 (List.mem_of_getElem? (i := 74) rfl), pe_w1 (List.mem_of_getElem? (i := 1) (by decide +kernel)), by decide, by decide, by decide +kernel⟩
theorem c_W_38 : pe_CL "PaintEditorLaw" 38 m_P_draw 0 := ⟨(pe_w3 (List.mem_of_getElem? (i := 117) (by decide +kernel))), pe_w3 (List.mem_of_getElem? (i := 120) rfl), pe_w1 (List.mem_of_getElem? (i := 1) (by decide +kernel)), by decide, by decide, by decide +kernel⟩
theorem c_W_42 : pe_CL "PaintEditorLaw" 42 m_P_text 1 := ⟨(pe_w4 (List.mem_of_getElem? (i := 188) (by decide +kernel))), pe_w4 (List.mem_of_getElem? (i := 191) rfl), pe_w1 (List.mem_of_getElem? (i := 1) (by decide +kernel)), by decide, by decide, by decide +kernel⟩
theorem c_W_47 : pe_CL "PaintEditorLaw" 47 m_P_state 1 := ⟨(pe_w4 (List.mem_of_getElem? (i := 193) (by decide +kernel))), pe_w4 (List.mem_of_getElem? (i := 196) rfl), pe_w1 (List.mem_of_getElem? (i := 1) (by decide +kernel)), by decide, by decide, by decide +kernel⟩
theorem c_W_51 : pe_CL "PaintEditorLaw" 51 m_P_cell 2 := ⟨(pe_w4 (List.mem_of_getElem? (i := 197) (by decide +kernel))), pe_w4 (List.mem_of_getElem? (i := 200) rfl), pe_w1 (List.mem_of_getElem? (i := 1) (by decide +kernel)), by decide, by decide, by decide +kernel⟩
theorem c_W_55 : pe_CL "PaintEditorLaw" 55 m_P_look 2 := ⟨(pe_w4 (List.mem_of_getElem? (i := 202) (by decide +kernel))), pe_w4 (List.mem_of_getElem? (i := 205) rfl), pe_w1 (List.mem_of_getElem? (i := 1) (by decide +kernel)), by decide, by decide, by decide +kernel⟩
theorem c_W_59 : pe_CL "PaintEditorLaw" 59 m_P_terminal 1 := ⟨(pe_w4 (List.mem_of_getElem? (i := 207) (by decide +kernel))), pe_w4 (List.mem_of_getElem? (i := 210) rfl), pe_w1 (List.mem_of_getElem? (i := 1) (by decide +kernel)), by decide, by decide, by decide +kernel⟩
theorem c_W_63 : pe_CL "PaintEditorLaw" 63 m_P_sent 1 := ⟨(pe_w4 (List.mem_of_getElem? (i := 211) (by decide +kernel))), pe_w4 (List.mem_of_getElem? (i := 214) rfl), pe_w1 (List.mem_of_getElem? (i := 1) (by decide +kernel)), by decide, by decide, by decide +kernel⟩
theorem c_W_9 : pe_CL "PaintEditorLaw" 9 m_W_cell 2 := ⟨(pe_w4 (List.mem_of_getElem? (i := 219) (by decide +kernel))), pe_w4 (List.mem_of_getElem? (i := 221) rfl), pe_w1 (List.mem_of_getElem? (i := 0) (by decide +kernel)), by decide, by decide, by decide +kernel⟩
theorem c_W_27 : pe_CL "PaintEditorLaw" 27 m_M_type 2 := ⟨(pe_w5 (List.mem_of_getElem? (i := 121) (by decide +kernel))), pe_w5 (List.mem_of_getElem? (i := 124) rfl), pe_w1 (List.mem_of_getElem? (i := 17) (by decide +kernel)), by decide, by decide, by decide +kernel⟩
theorem c_W_32 : pe_CL "PaintEditorLaw" 32 m_M_tick 0 := ⟨(pe_w6 (List.mem_of_getElem? (i := 4) (by decide +kernel))), pe_w6 (List.mem_of_getElem? (i := 7) rfl), pe_w1 (List.mem_of_getElem? (i := 17) (by decide +kernel)), by decide, by decide, by decide +kernel⟩
theorem c_W_41 : pe_CL "PaintEditorLaw" 41 m_M_draw 0 := ⟨(pe_w6 (List.mem_of_getElem? (i := 8) (by decide +kernel))), pe_w6 (List.mem_of_getElem? (i := 11) rfl), pe_w1 (List.mem_of_getElem? (i := 17) (by decide +kernel)), by decide, by decide, by decide +kernel⟩
theorem c_W_37 : pe_CL "PaintEditorLaw" 37 m_M_size 2 := ⟨(pe_w6 (List.mem_of_getElem? (i := 95) (by decide +kernel))), pe_w6 (List.mem_of_getElem? (i := 98) rfl), pe_w1 (List.mem_of_getElem? (i := 17) (by decide +kernel)), by decide, by decide, by decide +kernel⟩
theorem c_W_46 : pe_CL "PaintEditorLaw" 46 m_M_text 1 := ⟨(pe_w6 (List.mem_of_getElem? (i := 99) (by decide +kernel))), pe_w6 (List.mem_of_getElem? (i := 102) rfl), pe_w1 (List.mem_of_getElem? (i := 17) (by decide +kernel)), by decide, by decide, by decide +kernel⟩
theorem c_W_50 : pe_CL "PaintEditorLaw" 50 m_M_state 1 := ⟨(pe_w6 (List.mem_of_getElem? (i := 103) (by decide +kernel))), pe_w6 (List.mem_of_getElem? (i := 106) rfl), pe_w1 (List.mem_of_getElem? (i := 17) (by decide +kernel)), by decide, by decide, by decide +kernel⟩
theorem c_W_54 : pe_CL "PaintEditorLaw" 54 m_M_cell 2 := ⟨(pe_w6 (List.mem_of_getElem? (i := 107) (by decide +kernel))), pe_w6 (List.mem_of_getElem? (i := 110) rfl), pe_w1 (List.mem_of_getElem? (i := 17) (by decide +kernel)), by decide, by decide, by decide +kernel⟩
theorem c_W_58 : pe_CL "PaintEditorLaw" 58 m_M_look 2 := ⟨(pe_w6 (List.mem_of_getElem? (i := 115) (by decide +kernel))), pe_w6 (List.mem_of_getElem? (i := 118) rfl), pe_w1 (List.mem_of_getElem? (i := 17) (by decide +kernel)), by decide, by decide, by decide +kernel⟩
theorem c_W_62 : pe_CL "PaintEditorLaw" 62 m_M_terminal 1 := ⟨(pe_w6 (List.mem_of_getElem? (i := 119) (by decide +kernel))), pe_w6 (List.mem_of_getElem? (i := 122) rfl), pe_w1 (List.mem_of_getElem? (i := 17) (by decide +kernel)), by decide, by decide, by decide +kernel⟩
theorem c_W_66 : pe_CL "PaintEditorLaw" 66 m_M_sent 1 := ⟨(pe_w6 (List.mem_of_getElem? (i := 123) (by decide +kernel))), pe_w6 (List.mem_of_getElem? (i := 126) rfl), pe_w1 (List.mem_of_getElem? (i := 17) (by decide +kernel)), by decide, by decide, by decide +kernel⟩
theorem z_W_cell : Cond.static m_W_cell.1 ∈ pe_WS := pe_w4 (List.mem_of_getElem? (i := 220) (by decide +kernel))
theorem q_W_21 : Cond.constantLong "PaintEditorLaw" 21 (4294967295) ∈ pe_WS := pe_w6 (List.mem_of_getElem? (i := 127) (by decide +kernel))
def lw_cv (L : Nat) (xs : Nat → Int32) (k : Int) : Int := if k < L then (xs k.toNat).toInt else 0
theorem n_cell {b L : Nat} {xs : Nat → Int32} {k : Int} (hk : 0 ≤ k ∧ k < 100) (hL : L < 2147483648) (l : Launch) (H0 : Heap) : Met l m_W_cell.1 (pe_ws m_W_cell) (pe_rm m_W_cell) (va_Pc [.ref b, .int (Int32.ofInt k)] (fun U => U.heap = H0 ∧ va_X b L xs U H0)) (fun _ _ oc t => (∃ z : Int, (pe_R z ∧ z = lw_cv L xs k) ∧ oc = .returned (some (.int (Int32.ofInt z)))) ∧ t.heap = H0) 0 0 (fun _ => False) := by
  refine Met.ofW (cc := m_W_cell.2.1) (maxL := 2) (ret := some .int) (by decide) rfl ?_
  intro p e s m args below meth c s₁ B hml hv
  obtain ⟨rfl, hH, hX⟩ := hv
  subst hH
  have hx := B.exec
  have hb := B.bytes
  have hl := lv_entry ([.ref b, .int (Int32.ofInt k)]) (n := 2) (Nat.le_of_ble_eq_true rfl)
  rw [lg_entry_eq]
  generalize (lg_sl [.ref b, .int (Int32.ofInt k)] ++ List.replicate (2 - (lg_sl [.ref b, .int (Int32.ofInt k)]).length) Slot.unset).toArray = ls at hl ⊢
  have rk : pe_R k := ⟨by omega, by omega⟩
  have hS : va_S (fun _ => False) s.heap s.heap [] := va_S.rf
  have hbl : b < s.heap.size := by
    obtain ⟨scr, h1, _⟩ := hX
    exact (Array.getElem?_eq_some_iff.mp h1).1
  have rL : pe_R (L : Int) := ⟨by omega, by omega⟩
  have fin : ∀ z : Int32, z.toInt = lw_cv L xs k → W p l e (headSpec (pe_ws m_W_cell) (pe_rm m_W_cell)).room s m [.ref b, .int (Int32.ofInt k)].toArray below meth c s.heap [] 0 0 (MQ below (fun _ _ oc t => (∃ z : Int, (pe_R z ∧ z = lw_cv L xs k) ∧ oc = .returned (some (.int (Int32.ofInt z)))) ∧ t.heap = s.heap) [.ref b, .int (Int32.ofInt k)].toArray s 0 0 (fun _ => False)) (F0 m 13 ls [.int z]) := fun z hz =>
    W.iret hx hb B.returns (fun t ht _ => ⟨⟨z.toInt, ⟨⟨by have := Int32.le_toInt z; omega, by have := Int32.toInt_lt z; omega⟩, hz⟩, by rw [Int32.ofInt_toInt]⟩, ht⟩) (fun _ h => by cases h) d_W_cell_13 B.notSynchronized
  refine lv_iload_n hx hb d_W_cell_0 rfl (lv_at hl 1 rfl) ?_
  refine lv_aload_n hx hb d_W_cell_1 rfl (lv_at hl 0 rfl) ?_
  refine va_slen hx hb hX hbl (fun h => h) hS d_W_cell_2 ?_
  refine lv_icmp_ge (tgt := 12) hx hb d_W_cell_3 rfl (fun h => ?_) (fun h => ?_)
  · rw [← Int32.ofInt_eq_ofNat] at h
    have h1 := pe_cm_ge rk rL h
    refine lv_iconst hx hb d_W_cell_12 rfl ?_
    exact fin _ (by unfold lw_cv; rw [if_neg (by omega)]; rfl)
  · rw [← Int32.ofInt_eq_ofNat] at h
    have h1 := pe_cn_ge rk rL h
    refine lv_aload_n hx hb d_W_cell_6 rfl (lv_at hl 0 rfl) ?_
    refine lv_iload_n hx hb d_W_cell_7 rfl (lv_at hl 1 rfl) ?_
    refine va_sld hx hb hX hbl (fun h => h) hS (pe_in hL hk.1 h1) d_W_cell_8 ?_
    refine lv_goto (tgt := 13) hx hb d_W_cell_9 rfl ?_
    exact fin _ (by unfold lw_cv; rw [if_pos h1, pe_clamp hk.1 (by omega)])
theorem pn_cell {nL : Nat} {D : va_G} {cA : FieldType → ClassId} {A : Nat → Prop} {p : Program} {l : Launch} {e : Env} {R : Room} {s : State} {m : MethodId} {args : Array Value} {below : List Frame} {meth : Method} {c : Code} {QQ : State → Prop} {pc : Nat} {lv : List (Nat × Value)} {st : List Value} {w : va_W} {cells slots : Nat} (X : pn_X "PaintEditorLaw" code nL D cA A p s m args c) {b L : Nat} {xs : Nat → Int32} {k : Int} (hX : va_X b L xs s s.heap) (hbl : b < s.heap.size) (hbA : ¬ A b) (hk : 0 ≤ k ∧ k < 100) (hL : L < 2147483648) (hd : decode code pc = .ok (.invokestatic 9, 3)) (hf : 1 ≤ R.frames) (hlo : 21 ≤ R.locals) (hcat : (st.map fun v => v.category).sum ≤ 8) (hcs : cells ≤ R.cells ∧ slots ≤ R.slots) (kk : ∀ z : Int, pe_R z → z = lw_cv L xs k → pn_G nL D A p l e R s m args below meth c QQ (pc + 3) lv (.int (Int32.ofInt z) :: st) w (cells) (slots)) : pn_G nL D A p l e R s m args below meth c QQ (pc) lv (.int (Int32.ofInt k) :: .ref b :: st) w (cells) (slots) := by
  intro H locs ls hl hP hD hS
  obtain ⟨hlink, hcode, hini, hd1, hd2, hd3⟩ := c_W_9
  have hfix : CallFix p m c code nL s args pe_WS "PaintEditorLaw" := ⟨X.1, X.2.1, X.2.2.1, X.2.2.2.2.1, X.2.2.2.1⟩
  have hXH : va_X b L xs s H := hX.kept (hS.2.1 b hbl hbA)
  have go : va_Run p l e R s m args below meth c H locs cells slots 0 0 (F0 m pc ls (.int (Int32.ofInt k) :: .ref b :: st)) st (fun _ oc t => (∃ z : Int, (pe_R z ∧ z = lw_cv L xs k) ∧ oc = .returned (some (.int (Int32.ofInt z)))) ∧ t.heap = H) (fun _ => False) :=
    va_runS (As := [.ref b, .int (Int32.ofInt k)]) hfix (n_cell (xs := xs) (L := L) hk hL l H) ⟨callB_of 2 X.2.2.2.1 (pn_good hcode) rfl rfl rfl (X.2.2.2.1 _ hini) (X.2.2.2.1 _ hlink) ⟨hd1, hd2, hd3⟩ ⟨hf, hlo⟩, X.2.2.2.1 _ z_W_cell⟩ ⟨fun a U g mk q => ⟨q.1, q.2.1, va_X.moved (u := U) (U := U.calling g mk a) (Vm.Alike.refl U.vm) q.2.2⟩, fun U hU hW => ⟨rfl, hU, va_X.moved hW.alike hXH⟩⟩ rfl rfl hl.1 rfl (lv_room hcat) hd hcs
  intro T hT XX
  obtain ⟨v, st₀, t, T', L', e0, X', hL', e1, e2, ⟨⟨z, ⟨hz, hzv⟩, hv⟩, ht⟩, stp⟩ := go T hT XX
  cases hv
  have hL0 : L' = [] := by
    cases L' with
    | nil => rfl
    | cons q L' => exact absurd (hL' q List.mem_cons_self) id
  subst hL0
  rw [List.append_nil] at X'
  obtain ⟨t2, a1, b1⟩ := kk z hz hzv H locs ls hl hP hD hS T' (e1.trans ht) X'
  exact ⟨t2, stp t2 a1, b1⟩
