/-! what the JDK's StringBuilder wants of the machine -/
section PE_SB
variable {y : pe_Y} {pc : Nat} {lv : pe_L} {st : List pe_V} {σ : pe_H} {Q : Option pe_V → pe_H → Prop}
theorem pe_ineg {a : Int} (hd : decode y.2.1 pc = .ok (.ineg, 1)) (k : pe_G y (pc + 1) lv (.inl (-a) :: st) σ Q) : pe_G y pc lv (.inl a :: st) σ Q := by
  intro l D ad cA p e s m args below meth c H locs ls X hl hP hD hS
  have k := k l D ad cA p e s m args below meth c H locs ls X hl hP hD hS
  exact lv_ineg X.1 X.2.1 hd (pe_top k (by show _ = Value.int (Int32.ofInt (-a)); rw [Int32.ofInt_neg]))
theorem pe_dup_x1 {v w : pe_V} (hd : decode y.2.1 pc = .ok (.dup_x1, 1)) (k : pe_G y (pc + 1) lv (v :: w :: v :: st) σ Q) (hc : pe_cat v = 1 := by rfl) (hc2 : pe_cat w = 1 := by rfl) : pe_G y pc lv (v :: w :: st) σ Q := by
  intro l D ad cA p e s m args below meth c H locs ls X hl hP hD hS
  have k := k l D ad cA p e s m args below meth c H locs ls X hl hP hD hS
  exact lv_dup_x1 X.1 X.2.1 hd (by rw [pe_cat_c]; exact hc) (by rw [pe_cat_c]; exact hc2) k
theorem pe_b256 : ∀ k : Fin 256, (Int32.ofInt ((k : Nat) - 128 : Int)).toInt8.toInt32 = Int32.ofInt ((k : Nat) - 128 : Int) := by decide +kernel
theorem pe_byteI {v : Int} (h : -128 ≤ v ∧ v ≤ 127) : (Int32.ofInt v).toInt8.toInt32 = Int32.ofInt v := by
  have q := pe_b256 ⟨(v + 128).toNat, by omega⟩
  have e : (((v + 128).toNat : Nat) : Int) - 128 = v := by omega
  dsimp only at q
  rw [e] at q
  exact q
theorem pe_i2b {a : Int} (h : -128 ≤ a ∧ a ≤ 127) (hd : decode y.2.1 pc = .ok (.i2b, 1)) (k : pe_G y (pc + 1) lv (.inl a :: st) σ Q) : pe_G y pc lv (.inl a :: st) σ Q := by
  intro l D ad cA p e s m args below meth c H locs ls X hl hP hD hS
  have k := k l D ad cA p e s m args below meth c H locs ls X hl hP hD hS
  exact lv_i2b X.1 X.2.1 hd (pe_byteI h) k
theorem pe_c256 : ∀ k : Fin 256, ((Int32.ofInt ((k : Nat) : Int)).toUInt32 % 65536).toInt32 = Int32.ofInt ((k : Nat) : Int) := by decide +kernel
theorem pe_i2c {a : Int} (h : 0 ≤ a ∧ a ≤ 255) (hd : decode y.2.1 pc = .ok (.i2c, 1)) (k : pe_G y (pc + 1) lv (.inl a :: st) σ Q) : pe_G y pc lv (.inl a :: st) σ Q := by
  intro l D ad cA p e s m args below meth c H locs ls X hl hP hD hS
  have k := k l D ad cA p e s m args below meth c H locs ls X hl hP hD hS
  have q := pe_c256 ⟨a.toNat, by omega⟩
  have e1 : ((a.toNat : Nat) : Int) = a := by omega
  dsimp only at q
  rw [e1] at q
  exact lv_i2c X.1 X.2.1 hd q k
theorem pe_bastT {a n : Nat} {i v : Int} (hd : decode y.2.1 pc = .ok (.bastore, 1)) (hs : pe_sh[a]? = some (.inl (.byte, n))) (h0 : 0 ≤ i) (h1 : i < n) (hz : -128 ≤ v ∧ v ≤ 127) (hB : pe_B σ) (kk : ∀ τ : pe_H, pe_B τ → τ a i = v → (∀ j, j ≠ i → τ a j = σ a j) → (∀ b, b ≠ a → τ b = σ b) → pe_G y (pc + 1) lv st τ Q) (hn : n < 2147483648 := by decide) : pe_G y pc lv (.inl v :: .inl i :: .inr (.inl a) :: st) σ Q :=
  pe_bast hd hs h0 h1 (pe_byteI hz) (pe_upT hB ⟨by omega, by omega⟩ kk) hn
/-- a reference as the answer -/
theorem pe_reta {b : Nat} {C : String} (hd : decode y.2.1 pc = .ok (.areturn, 1)) (hr : y.2.2.2.1 = some (.object C)) (hq : Q (some (.inr (.inl b))) σ) : pe_G y pc lv [.inr (.inl b)] σ Q := by
  intro l D ad cA p e s m args below meth c H locs ls X hl hP hD hS
  exact W.aret X.1 X.2.1 (X.2.2.1.trans hr) (Or.inl ⟨C, rfl⟩) (Or.inr ⟨ad b, rfl⟩) (fun t ht hW => ⟨⟨some (.inr (.inl b)), σ, rfl, hq, by rw [ht]; exact hP⟩, hS.F ht⟩) hS.2.2 hd X.2.2.2.1
theorem pe_goodL {y' : pe_Y} {L : List Cond} (hL : ∀ w ∈ L, w ∈ pe_WS) (h : Cond.code y'.1 y'.2.1 y'.2.2.1 y'.2.2.2.1 ∈ pe_WS) : GoodIn (pe_ws y) (L ++ pe_ws y') := by
  intro w hw
  rcases List.mem_append.mp hw with hw | hw
  · exact ⟨List.mem_cons_of_mem _ (hL w hw), pe_WS_good _ (hL w hw)⟩
  · exact pe_good h w hw
/-- super.m(..) -/
theorem pe_callSU {y' : pe_Y} {idx n b ci N : Nat} {av : List pe_V} {C : String} {T : u_T} {Q1 : Option pe_V → pe_H → Prop} (hM : pe_M y' (.inr (.inl b) :: av) σ Q1) (hd : decode y.2.1 pc = .ok (.invokespecial idx, 3)) (hL : ∀ w ∈ va_wsSU y.1.cls idx y'.1 [], w ∈ pe_WS) (hcode : Cond.code y'.1 y'.2.1 y'.2.2.1 y'.2.2.2.1 ∈ pe_WS) (hdd : y'.1.name ≠ "<init>" ∧ (parseMethodDescriptor y'.1.desc).map (fun d => d.parameters.length) = some n) (hs : pe_sh[b]? = some (.inr (ci, N))) (hc : vwCl[ci]? = some (C, T, N)) (hn : av.length = n)
    (hf : y'.2.2.2.2.1 + 1 ≤ y.2.2.2.2.1) (hlo : 8 + (y'.2.2.1 + 11) + y'.2.2.2.2.2 ≤ y.2.2.2.2.2) (hcat : (st.map pe_cat).sum ≤ 8) (k : ∀ r σ', Q1 r σ' → pe_G y (pc + 3) lv (r.toList ++ st) σ' Q) : pe_G y pc lv (av.reverse ++ .inr (.inl b) :: st) σ Q := by
  intro l D ad cA p e s m args below meth c H locs ls X hl hP hD hS
  have hX := X.2.2.2.2.2.1
  have hrest : ∀ g : JFrame, g.monitorRoom = 0 → 2 * g.monitorRoom + ((st.map (pe_c ad)).map fun v => v.category).sum ≤ 8 := fun g hg => by rw [hg, pe_cats]; omega
  have hstack : (F0 m pc ls ((av.reverse ++ .inr (.inl b) :: st).map (pe_c ad))).stack = (av.map (pe_c ad)).reverse ++ .ref (ad b) :: st.map (pe_c ad) := by
    show (av.reverse ++ .inr (.inl b) :: st).map (pe_c ad) = _
    rw [List.map_append, List.map_reverse]
    rfl
  have hfix : CallFix p m c y.2.1 y.2.2.1 s args (pe_ws y) y.1.cls := ⟨X.1, X.2.1, X.2.2.2.2.1, X.2.2.2.2.2.2.1, hX⟩
  have hK := X.2.2.2.2.2.2.2.1
  have hcell : ∃ cellB : Cell, H[ad b]? = some cellB ∧ cellB.vm.isStatics = false ∧ s.vm.findClass C = some cellB.cls := va_recv hK hP hc (pe_wd_at hs)
  have hpre := pe_pre (av := .inr (.inl b) :: av) hK hP hD (pe_Zs_at X.2.2.2.2.2.2.2.2 hS)
  have hat : ∃ cC, ClassAt s C cC := ⟨_, (hK.1 ci _ hc).2⟩
  obtain ⟨cC, hat⟩ := hat
  have go : va_Run p l e (headSpec (pe_ws y) (pe_rm y)).room s m args below meth c H locs 0 0 0 0 (F0 m pc ls ((av.reverse ++ .inr (.inl b) :: st).map (pe_c ad))) (st.map (pe_c ad)) (pe_Qc D ad cA (pe_A ad H.size) Q1 (Value.ref (ad b) :: av.map (pe_c ad)).toArray) (pe_A ad H.size) := by
    exact va_runSU hat hfix (hM l D ad cA H.size) (va_cwSU n hX (by have q := pe_goodL (y := y) hL hcode; unfold va_wsSU at q ⊢; rw [List.append_nil] at q; exact q) rfl rfl rfl hdd ⟨hf, hlo⟩) ⟨hpre.1, hcell, hpre.2⟩ rfl (by rw [List.length_map]; exact hn) hl.2.1 hstack (hrest _ rfl) hd ⟨Nat.zero_le _, Nat.zero_le _⟩
  refine pe_after go hS (fun r σ' H1 locs1 hq hP1 hS1 => ?_)
  rw [pe_toL]
  exact k r σ' hq l D ad cA p e s m args below meth c H1 locs1 ls X hl hP1 (pe_D hD σ') hS1
/-- a method that the class inherits -/
theorem pe_callU {y' : pe_Y} {x : MethodName} {owner : String} {idx n b ci N : Nat} {av : List pe_V} {C : String} {T : u_T} {Q1 : Option pe_V → pe_H → Prop} (hM : pe_M y' (.inr (.inl b) :: av) σ Q1) (hd : decode y.2.1 pc = .ok (.invokevirtual idx, 3)) (hL : ∀ w ∈ va_wsU y.1.cls idx C owner x y'.1 [], w ∈ pe_WS) (hcode : Cond.code y'.1 y'.2.1 y'.2.2.1 y'.2.2.2.1 ∈ pe_WS) (hyx : y'.1 = ⟨owner, x.name, x.desc⟩) (hdd : owner ≠ "java/lang/invoke/MethodHandle" ∧ owner ≠ "java/lang/invoke/VarHandle" ∧ (parseMethodDescriptor x.desc).map (fun d => d.parameters.length) = some n) (hs : pe_sh[b]? = some (.inr (ci, N))) (hc : vwCl[ci]? = some (C, T, N)) (hn : av.length = n)
    (hf : y'.2.2.2.2.1 + 1 ≤ y.2.2.2.2.1) (hlo : 8 + (y'.2.2.1 + 11) + y'.2.2.2.2.2 ≤ y.2.2.2.2.2) (hcat : (st.map pe_cat).sum ≤ 8) (k : ∀ r σ', Q1 r σ' → pe_G y (pc + 3) lv (r.toList ++ st) σ' Q) : pe_G y pc lv (av.reverse ++ .inr (.inl b) :: st) σ Q := by
  intro l D ad cA p e s m args below meth c H locs ls X hl hP hD hS
  have hX := X.2.2.2.2.2.1
  have hrest : ∀ g : JFrame, g.monitorRoom = 0 → 2 * g.monitorRoom + ((st.map (pe_c ad)).map fun v => v.category).sum ≤ 8 := fun g hg => by rw [hg, pe_cats]; omega
  have hstack : (F0 m pc ls ((av.reverse ++ .inr (.inl b) :: st).map (pe_c ad))).stack = (av.map (pe_c ad)).reverse ++ .ref (ad b) :: st.map (pe_c ad) := by
    show (av.reverse ++ .inr (.inl b) :: st).map (pe_c ad) = _
    rw [List.map_append, List.map_reverse]
    rfl
  have hfix : CallFix p m c y.2.1 y.2.2.1 s args (pe_ws y) y.1.cls := ⟨X.1, X.2.1, X.2.2.2.2.1, X.2.2.2.2.2.2.1, hX⟩
  have hK := X.2.2.2.2.2.2.2.1
  have hcell : ∃ cellB : Cell, H[ad b]? = some cellB ∧ cellB.vm.isStatics = false ∧ s.vm.findClass C = some cellB.cls := va_recv hK hP hc (pe_wd_at hs)
  have hpre := pe_pre (av := .inr (.inl b) :: av) hK hP hD (pe_Zs_at X.2.2.2.2.2.2.2.2 hS)
  have go : va_Run p l e (headSpec (pe_ws y) (pe_rm y)).room s m args below meth c H locs 0 0 0 0 (F0 m pc ls ((av.reverse ++ .inr (.inl b) :: st).map (pe_c ad))) (st.map (pe_c ad)) (pe_Qc D ad cA (pe_A ad H.size) Q1 (Value.ref (ad b) :: av.map (pe_c ad)).toArray) (pe_A ad H.size) := by
    exact va_runU hfix (hM l D ad cA H.size) (va_cwU n hX (by have q := pe_goodL (y := y) hL hcode; unfold va_wsU at q ⊢; rw [List.append_nil] at q; exact q) rfl rfl rfl hyx hdd ⟨hf, hlo⟩) ⟨hpre.1, hcell, hpre.2⟩ rfl (by rw [List.length_map]; exact hn) hl.2.1 hstack (hrest _ rfl) hd ⟨Nat.zero_le _, Nat.zero_le _⟩
  refine pe_after go hS (fun r σ' H1 locs1 hq hP1 hS1 => ?_)
  rw [pe_toL]
  exact k r σ' hq l D ad cA p e s m args below meth c H1 locs1 ls X hl hP1 (pe_D hD σ') hS1
end PE_SB
