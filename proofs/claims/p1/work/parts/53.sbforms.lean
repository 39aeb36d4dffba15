/-! StringBuilder's rows and the forms of its calls -/
def pe_qr (Q : pe_H → Prop) : Option pe_V → pe_H → Prop := fun r σ => r = some (.inr (.inl 21)) ∧ Q σ
theorem pe_n256 : ∀ k : Fin 256, narrow .char (.int (Int32.ofInt ((k : Nat) : Int))) = .int (Int32.ofInt ((k : Nat) : Int)) := by decide +kernel
theorem pe_and255 (x : Int32) : 0 ≤ (x &&& 255).toInt ∧ (x &&& 255).toInt ≤ 255 := by
  have h : (x &&& 255).toBitVec.toNat ≤ 255 := by
    rw [Int32.toBitVec_and, BitVec.toNat_and]
    exact Nat.and_le_right
  have e : (x &&& 255).toInt = ((x &&& 255).toBitVec.toNat : Int) := by
    show (x &&& 255).toBitVec.toInt = _
    rw [BitVec.toInt_eq_toNat_of_lt (by omega)]
  omega
theorem pe_sh0 (x : Int32) : x >>> ((0 : Int32) &&& 31) = x := by
  apply Int32.toBitVec_inj.1
  rw [Int32.toBitVec_shiftRight]
  show x.toBitVec.sshiftRight 0 = x.toBitVec
  simp
section PE_SBF
variable {y y' : pe_Y} {pc : Nat} {lv : pe_L} {st : List pe_V} {σ : pe_H} {Q : Option pe_V → pe_H → Prop}
theorem pe_retc {z : Int} (hd : decode y.2.1 pc = .ok (.ireturn, 1)) (hr : y.2.2.2.1 = some .char) (hz : 0 ≤ z ∧ z ≤ 255) (hq : Q (some (.inl z)) σ) : pe_G y pc lv [.inl z] σ Q := by
  intro l D ad cA p e s m args below meth c H locs ls X hl hP hD hS
  have q := pe_n256 ⟨z.toNat, by omega⟩
  have e1 : ((z.toNat : Nat) : Int) = z := by omega
  dsimp only at q
  rw [e1] at q
  exact W.zret X.1 X.2.1 (X.2.2.1.trans hr) q (fun t ht hW => ⟨⟨some (.inl z), σ, rfl, hq, by rw [ht]; exact hP⟩, hS.F ht⟩) hS.2.2 hd X.2.2.2.1
theorem pe_rc {Q : Int → pe_H → Prop} {z : Int} (hd : decode y.2.1 pc = .ok (.ireturn, 1)) (hz : 0 ≤ z ∧ z ≤ 255) (hq : Q z σ) (hr : y.2.2.2.1 = some .char := by rfl) : pe_G y pc lv [.inl z] σ (pe_qi Q) := pe_retc hd hr hz ⟨z, rfl, hq⟩
theorem pe_ishr0 {a b : Int} (hb : b = 0) (hd : decode y.2.1 pc = .ok (.ishr, 1)) (k : pe_G y (pc + 1) lv (.inl a :: st) σ Q) : pe_G y pc lv (.inl b :: .inl a :: st) σ Q := by
  subst hb
  exact pe_ishr hd (pe_sh0 _) k
theorem pe_iand255 {a : Int} (hd : decode y.2.1 pc = .ok (.iand, 1)) (k : ∀ z : Int, 0 ≤ z ∧ z ≤ 255 → pe_G y (pc + 1) lv (.inl z :: st) σ Q) : pe_G y pc lv (.inl 255 :: .inl a :: st) σ Q :=
  pe_iand hd (Int32.ofInt_toInt _).symm (k _ (pe_and255 _))
theorem pe_su0p {idx b ci N : Nat} {C : String} {T : u_T} {R : Int → Prop} (hd : decode y.2.1 pc = .ok (.invokespecial idx, 3)) (hL : ∀ w ∈ va_wsSU y.1.cls idx y'.1 [], w ∈ pe_WS) (hcode : Cond.code y'.1 y'.2.1 y'.2.2.1 y'.2.2.2.1 ∈ pe_WS) (hs : pe_sh[b]? = some (.inr (ci, N))) (hc : vwCl[ci]? = some (C, T, N)) (hM : pe_M y' [.inr (.inl b)] σ (pe_qp σ R)) (k : ∀ z, R z → pe_G y (pc + 3) lv (.inl z :: st) σ Q) (hdd : y'.1.name ≠ "<init>" ∧ (parseMethodDescriptor y'.1.desc).map (fun d => d.parameters.length) = some 0 := by decide +kernel) (hf : y'.2.2.2.2.1 + 1 ≤ y.2.2.2.2.1 := by decide) (hlo : 8 + (y'.2.2.1 + 11) + y'.2.2.2.2.2 ≤ y.2.2.2.2.2 := by decide) (hcat : (st.map pe_cat).sum ≤ 8 := by exact Nat.le_of_ble_eq_true rfl) : pe_G y pc lv (.inr (.inl b) :: st) σ Q :=
  pe_callSU (av := []) hM hd hL hcode hdd hs hc rfl hf hlo hcat (fun r σ' h => by obtain ⟨z, rfl, rfl, h⟩ := h; exact k z h)
theorem pe_un0p {idx b ci N : Nat} {C : String} {T : u_T} {R : Int → Prop} (hd : decode y.2.1 pc = .ok (.invokevirtual idx, 3)) (hL : ∀ w ∈ va_wsU y.1.cls idx C y'.1.cls y'.1 y'.1 [], w ∈ pe_WS) (hcode : Cond.code y'.1 y'.2.1 y'.2.2.1 y'.2.2.2.1 ∈ pe_WS) (hs : pe_sh[b]? = some (.inr (ci, N))) (hc : vwCl[ci]? = some (C, T, N)) (hM : pe_M y' [.inr (.inl b)] σ (pe_qp σ R)) (k : ∀ z, R z → pe_G y (pc + 3) lv (.inl z :: st) σ Q) (hdd : y'.1.cls ≠ "java/lang/invoke/MethodHandle" ∧ y'.1.cls ≠ "java/lang/invoke/VarHandle" ∧ (parseMethodDescriptor y'.1.desc).map (fun d => d.parameters.length) = some 0 := by decide +kernel) (hf : y'.2.2.2.2.1 + 1 ≤ y.2.2.2.2.1 := by decide) (hlo : 8 + (y'.2.2.1 + 11) + y'.2.2.2.2.2 ≤ y.2.2.2.2.2 := by decide) (hcat : (st.map pe_cat).sum ≤ 8 := by exact Nat.le_of_ble_eq_true rfl) : pe_G y pc lv (.inr (.inl b) :: st) σ Q :=
  pe_callU (av := []) hM hd hL hcode rfl hdd hs hc rfl hf hlo hcat (fun r σ' h => by obtain ⟨z, rfl, rfl, h⟩ := h; exact k z h)
theorem pe_su0i {idx b ci N : Nat} {C : String} {T : u_T} {R : Int → pe_H → Prop} (hd : decode y.2.1 pc = .ok (.invokespecial idx, 3)) (hL : ∀ w ∈ va_wsSU y.1.cls idx y'.1 [], w ∈ pe_WS) (hcode : Cond.code y'.1 y'.2.1 y'.2.2.1 y'.2.2.2.1 ∈ pe_WS) (hs : pe_sh[b]? = some (.inr (ci, N))) (hc : vwCl[ci]? = some (C, T, N)) (hM : pe_M y' [.inr (.inl b)] σ (pe_qi R)) (k : ∀ z σ', R z σ' → pe_G y (pc + 3) lv (.inl z :: st) σ' Q) (hdd : y'.1.name ≠ "<init>" ∧ (parseMethodDescriptor y'.1.desc).map (fun d => d.parameters.length) = some 0 := by decide +kernel) (hf : y'.2.2.2.2.1 + 1 ≤ y.2.2.2.2.1 := by decide) (hlo : 8 + (y'.2.2.1 + 11) + y'.2.2.2.2.2 ≤ y.2.2.2.2.2 := by decide) (hcat : (st.map pe_cat).sum ≤ 8 := by exact Nat.le_of_ble_eq_true rfl) : pe_G y pc lv (.inr (.inl b) :: st) σ Q :=
  pe_callSU (av := []) hM hd hL hcode hdd hs hc rfl hf hlo hcat (fun r σ' h => by obtain ⟨z, rfl, h⟩ := h; exact k z σ' h)
theorem pe_un0i {idx b ci N : Nat} {C : String} {T : u_T} {R : Int → pe_H → Prop} (hd : decode y.2.1 pc = .ok (.invokevirtual idx, 3)) (hL : ∀ w ∈ va_wsU y.1.cls idx C y'.1.cls y'.1 y'.1 [], w ∈ pe_WS) (hcode : Cond.code y'.1 y'.2.1 y'.2.2.1 y'.2.2.2.1 ∈ pe_WS) (hs : pe_sh[b]? = some (.inr (ci, N))) (hc : vwCl[ci]? = some (C, T, N)) (hM : pe_M y' [.inr (.inl b)] σ (pe_qi R)) (k : ∀ z σ', R z σ' → pe_G y (pc + 3) lv (.inl z :: st) σ' Q) (hdd : y'.1.cls ≠ "java/lang/invoke/MethodHandle" ∧ y'.1.cls ≠ "java/lang/invoke/VarHandle" ∧ (parseMethodDescriptor y'.1.desc).map (fun d => d.parameters.length) = some 0 := by decide +kernel) (hf : y'.2.2.2.2.1 + 1 ≤ y.2.2.2.2.1 := by decide) (hlo : 8 + (y'.2.2.1 + 11) + y'.2.2.2.2.2 ≤ y.2.2.2.2.2 := by decide) (hcat : (st.map pe_cat).sum ≤ 8 := by exact Nat.le_of_ble_eq_true rfl) : pe_G y pc lv (.inr (.inl b) :: st) σ Q :=
  pe_callU (av := []) hM hd hL hcode rfl hdd hs hc rfl hf hlo hcat (fun r σ' h => by obtain ⟨z, rfl, h⟩ := h; exact k z σ' h)
theorem pe_su0v {idx b ci N : Nat} {C : String} {T : u_T} {R : pe_H → Prop} (hd : decode y.2.1 pc = .ok (.invokespecial idx, 3)) (hL : ∀ w ∈ va_wsSU y.1.cls idx y'.1 [], w ∈ pe_WS) (hcode : Cond.code y'.1 y'.2.1 y'.2.2.1 y'.2.2.2.1 ∈ pe_WS) (hs : pe_sh[b]? = some (.inr (ci, N))) (hc : vwCl[ci]? = some (C, T, N)) (hM : pe_M y' [.inr (.inl b)] σ (pe_qv R)) (k : ∀ σ', R σ' → pe_G y (pc + 3) lv st σ' Q) (hdd : y'.1.name ≠ "<init>" ∧ (parseMethodDescriptor y'.1.desc).map (fun d => d.parameters.length) = some 0 := by decide +kernel) (hf : y'.2.2.2.2.1 + 1 ≤ y.2.2.2.2.1 := by decide) (hlo : 8 + (y'.2.2.1 + 11) + y'.2.2.2.2.2 ≤ y.2.2.2.2.2 := by decide) (hcat : (st.map pe_cat).sum ≤ 8 := by exact Nat.le_of_ble_eq_true rfl) : pe_G y pc lv (.inr (.inl b) :: st) σ Q :=
  pe_callSU (av := []) hM hd hL hcode hdd hs hc rfl hf hlo hcat (fun r σ' h => by obtain ⟨rfl, h⟩ := h; exact k σ' h)
theorem pe_un0v {idx b ci N : Nat} {C : String} {T : u_T} {R : pe_H → Prop} (hd : decode y.2.1 pc = .ok (.invokevirtual idx, 3)) (hL : ∀ w ∈ va_wsU y.1.cls idx C y'.1.cls y'.1 y'.1 [], w ∈ pe_WS) (hcode : Cond.code y'.1 y'.2.1 y'.2.2.1 y'.2.2.2.1 ∈ pe_WS) (hs : pe_sh[b]? = some (.inr (ci, N))) (hc : vwCl[ci]? = some (C, T, N)) (hM : pe_M y' [.inr (.inl b)] σ (pe_qv R)) (k : ∀ σ', R σ' → pe_G y (pc + 3) lv st σ' Q) (hdd : y'.1.cls ≠ "java/lang/invoke/MethodHandle" ∧ y'.1.cls ≠ "java/lang/invoke/VarHandle" ∧ (parseMethodDescriptor y'.1.desc).map (fun d => d.parameters.length) = some 0 := by decide +kernel) (hf : y'.2.2.2.2.1 + 1 ≤ y.2.2.2.2.1 := by decide) (hlo : 8 + (y'.2.2.1 + 11) + y'.2.2.2.2.2 ≤ y.2.2.2.2.2 := by decide) (hcat : (st.map pe_cat).sum ≤ 8 := by exact Nat.le_of_ble_eq_true rfl) : pe_G y pc lv (.inr (.inl b) :: st) σ Q :=
  pe_callU (av := []) hM hd hL hcode rfl hdd hs hc rfl hf hlo hcat (fun r σ' h => by obtain ⟨rfl, h⟩ := h; exact k σ' h)
theorem pe_su0r {idx b ci N : Nat} {C : String} {T : u_T} {R : pe_H → Prop} (hd : decode y.2.1 pc = .ok (.invokespecial idx, 3)) (hL : ∀ w ∈ va_wsSU y.1.cls idx y'.1 [], w ∈ pe_WS) (hcode : Cond.code y'.1 y'.2.1 y'.2.2.1 y'.2.2.2.1 ∈ pe_WS) (hs : pe_sh[b]? = some (.inr (ci, N))) (hc : vwCl[ci]? = some (C, T, N)) (hM : pe_M y' [.inr (.inl b)] σ (pe_qr R)) (k : ∀ σ', R σ' → pe_G y (pc + 3) lv (.inr (.inl 21) :: st) σ' Q) (hdd : y'.1.name ≠ "<init>" ∧ (parseMethodDescriptor y'.1.desc).map (fun d => d.parameters.length) = some 0 := by decide +kernel) (hf : y'.2.2.2.2.1 + 1 ≤ y.2.2.2.2.1 := by decide) (hlo : 8 + (y'.2.2.1 + 11) + y'.2.2.2.2.2 ≤ y.2.2.2.2.2 := by decide) (hcat : (st.map pe_cat).sum ≤ 8 := by exact Nat.le_of_ble_eq_true rfl) : pe_G y pc lv (.inr (.inl b) :: st) σ Q :=
  pe_callSU (av := []) hM hd hL hcode hdd hs hc rfl hf hlo hcat (fun r σ' h => by obtain ⟨rfl, h⟩ := h; exact k σ' h)
theorem pe_un0r {idx b ci N : Nat} {C : String} {T : u_T} {R : pe_H → Prop} (hd : decode y.2.1 pc = .ok (.invokevirtual idx, 3)) (hL : ∀ w ∈ va_wsU y.1.cls idx C y'.1.cls y'.1 y'.1 [], w ∈ pe_WS) (hcode : Cond.code y'.1 y'.2.1 y'.2.2.1 y'.2.2.2.1 ∈ pe_WS) (hs : pe_sh[b]? = some (.inr (ci, N))) (hc : vwCl[ci]? = some (C, T, N)) (hM : pe_M y' [.inr (.inl b)] σ (pe_qr R)) (k : ∀ σ', R σ' → pe_G y (pc + 3) lv (.inr (.inl 21) :: st) σ' Q) (hdd : y'.1.cls ≠ "java/lang/invoke/MethodHandle" ∧ y'.1.cls ≠ "java/lang/invoke/VarHandle" ∧ (parseMethodDescriptor y'.1.desc).map (fun d => d.parameters.length) = some 0 := by decide +kernel) (hf : y'.2.2.2.2.1 + 1 ≤ y.2.2.2.2.1 := by decide) (hlo : 8 + (y'.2.2.1 + 11) + y'.2.2.2.2.2 ≤ y.2.2.2.2.2 := by decide) (hcat : (st.map pe_cat).sum ≤ 8 := by exact Nat.le_of_ble_eq_true rfl) : pe_G y pc lv (.inr (.inl b) :: st) σ Q :=
  pe_callU (av := []) hM hd hL hcode rfl hdd hs hc rfl hf hlo hcat (fun r σ' h => by obtain ⟨rfl, h⟩ := h; exact k σ' h)
theorem pe_su1p {idx b ci N : Nat} {C : String} {T : u_T} {a1 : pe_V} {R : Int → Prop} (hd : decode y.2.1 pc = .ok (.invokespecial idx, 3)) (hL : ∀ w ∈ va_wsSU y.1.cls idx y'.1 [], w ∈ pe_WS) (hcode : Cond.code y'.1 y'.2.1 y'.2.2.1 y'.2.2.2.1 ∈ pe_WS) (hs : pe_sh[b]? = some (.inr (ci, N))) (hc : vwCl[ci]? = some (C, T, N)) (hM : pe_M y' [.inr (.inl b), a1] σ (pe_qp σ R)) (k : ∀ z, R z → pe_G y (pc + 3) lv (.inl z :: st) σ Q) (hdd : y'.1.name ≠ "<init>" ∧ (parseMethodDescriptor y'.1.desc).map (fun d => d.parameters.length) = some 1 := by decide +kernel) (hf : y'.2.2.2.2.1 + 1 ≤ y.2.2.2.2.1 := by decide) (hlo : 8 + (y'.2.2.1 + 11) + y'.2.2.2.2.2 ≤ y.2.2.2.2.2 := by decide) (hcat : (st.map pe_cat).sum ≤ 8 := by exact Nat.le_of_ble_eq_true rfl) : pe_G y pc lv (a1 :: .inr (.inl b) :: st) σ Q :=
  pe_callSU (av := [a1]) hM hd hL hcode hdd hs hc rfl hf hlo hcat (fun r σ' h => by obtain ⟨z, rfl, rfl, h⟩ := h; exact k z h)
theorem pe_un1p {idx b ci N : Nat} {C : String} {T : u_T} {a1 : pe_V} {R : Int → Prop} (hd : decode y.2.1 pc = .ok (.invokevirtual idx, 3)) (hL : ∀ w ∈ va_wsU y.1.cls idx C y'.1.cls y'.1 y'.1 [], w ∈ pe_WS) (hcode : Cond.code y'.1 y'.2.1 y'.2.2.1 y'.2.2.2.1 ∈ pe_WS) (hs : pe_sh[b]? = some (.inr (ci, N))) (hc : vwCl[ci]? = some (C, T, N)) (hM : pe_M y' [.inr (.inl b), a1] σ (pe_qp σ R)) (k : ∀ z, R z → pe_G y (pc + 3) lv (.inl z :: st) σ Q) (hdd : y'.1.cls ≠ "java/lang/invoke/MethodHandle" ∧ y'.1.cls ≠ "java/lang/invoke/VarHandle" ∧ (parseMethodDescriptor y'.1.desc).map (fun d => d.parameters.length) = some 1 := by decide +kernel) (hf : y'.2.2.2.2.1 + 1 ≤ y.2.2.2.2.1 := by decide) (hlo : 8 + (y'.2.2.1 + 11) + y'.2.2.2.2.2 ≤ y.2.2.2.2.2 := by decide) (hcat : (st.map pe_cat).sum ≤ 8 := by exact Nat.le_of_ble_eq_true rfl) : pe_G y pc lv (a1 :: .inr (.inl b) :: st) σ Q :=
  pe_callU (av := [a1]) hM hd hL hcode rfl hdd hs hc rfl hf hlo hcat (fun r σ' h => by obtain ⟨z, rfl, rfl, h⟩ := h; exact k z h)
theorem pe_su1i {idx b ci N : Nat} {C : String} {T : u_T} {a1 : pe_V} {R : Int → pe_H → Prop} (hd : decode y.2.1 pc = .ok (.invokespecial idx, 3)) (hL : ∀ w ∈ va_wsSU y.1.cls idx y'.1 [], w ∈ pe_WS) (hcode : Cond.code y'.1 y'.2.1 y'.2.2.1 y'.2.2.2.1 ∈ pe_WS) (hs : pe_sh[b]? = some (.inr (ci, N))) (hc : vwCl[ci]? = some (C, T, N)) (hM : pe_M y' [.inr (.inl b), a1] σ (pe_qi R)) (k : ∀ z σ', R z σ' → pe_G y (pc + 3) lv (.inl z :: st) σ' Q) (hdd : y'.1.name ≠ "<init>" ∧ (parseMethodDescriptor y'.1.desc).map (fun d => d.parameters.length) = some 1 := by decide +kernel) (hf : y'.2.2.2.2.1 + 1 ≤ y.2.2.2.2.1 := by decide) (hlo : 8 + (y'.2.2.1 + 11) + y'.2.2.2.2.2 ≤ y.2.2.2.2.2 := by decide) (hcat : (st.map pe_cat).sum ≤ 8 := by exact Nat.le_of_ble_eq_true rfl) : pe_G y pc lv (a1 :: .inr (.inl b) :: st) σ Q :=
  pe_callSU (av := [a1]) hM hd hL hcode hdd hs hc rfl hf hlo hcat (fun r σ' h => by obtain ⟨z, rfl, h⟩ := h; exact k z σ' h)
theorem pe_un1i {idx b ci N : Nat} {C : String} {T : u_T} {a1 : pe_V} {R : Int → pe_H → Prop} (hd : decode y.2.1 pc = .ok (.invokevirtual idx, 3)) (hL : ∀ w ∈ va_wsU y.1.cls idx C y'.1.cls y'.1 y'.1 [], w ∈ pe_WS) (hcode : Cond.code y'.1 y'.2.1 y'.2.2.1 y'.2.2.2.1 ∈ pe_WS) (hs : pe_sh[b]? = some (.inr (ci, N))) (hc : vwCl[ci]? = some (C, T, N)) (hM : pe_M y' [.inr (.inl b), a1] σ (pe_qi R)) (k : ∀ z σ', R z σ' → pe_G y (pc + 3) lv (.inl z :: st) σ' Q) (hdd : y'.1.cls ≠ "java/lang/invoke/MethodHandle" ∧ y'.1.cls ≠ "java/lang/invoke/VarHandle" ∧ (parseMethodDescriptor y'.1.desc).map (fun d => d.parameters.length) = some 1 := by decide +kernel) (hf : y'.2.2.2.2.1 + 1 ≤ y.2.2.2.2.1 := by decide) (hlo : 8 + (y'.2.2.1 + 11) + y'.2.2.2.2.2 ≤ y.2.2.2.2.2 := by decide) (hcat : (st.map pe_cat).sum ≤ 8 := by exact Nat.le_of_ble_eq_true rfl) : pe_G y pc lv (a1 :: .inr (.inl b) :: st) σ Q :=
  pe_callU (av := [a1]) hM hd hL hcode rfl hdd hs hc rfl hf hlo hcat (fun r σ' h => by obtain ⟨z, rfl, h⟩ := h; exact k z σ' h)
theorem pe_su1v {idx b ci N : Nat} {C : String} {T : u_T} {a1 : pe_V} {R : pe_H → Prop} (hd : decode y.2.1 pc = .ok (.invokespecial idx, 3)) (hL : ∀ w ∈ va_wsSU y.1.cls idx y'.1 [], w ∈ pe_WS) (hcode : Cond.code y'.1 y'.2.1 y'.2.2.1 y'.2.2.2.1 ∈ pe_WS) (hs : pe_sh[b]? = some (.inr (ci, N))) (hc : vwCl[ci]? = some (C, T, N)) (hM : pe_M y' [.inr (.inl b), a1] σ (pe_qv R)) (k : ∀ σ', R σ' → pe_G y (pc + 3) lv st σ' Q) (hdd : y'.1.name ≠ "<init>" ∧ (parseMethodDescriptor y'.1.desc).map (fun d => d.parameters.length) = some 1 := by decide +kernel) (hf : y'.2.2.2.2.1 + 1 ≤ y.2.2.2.2.1 := by decide) (hlo : 8 + (y'.2.2.1 + 11) + y'.2.2.2.2.2 ≤ y.2.2.2.2.2 := by decide) (hcat : (st.map pe_cat).sum ≤ 8 := by exact Nat.le_of_ble_eq_true rfl) : pe_G y pc lv (a1 :: .inr (.inl b) :: st) σ Q :=
  pe_callSU (av := [a1]) hM hd hL hcode hdd hs hc rfl hf hlo hcat (fun r σ' h => by obtain ⟨rfl, h⟩ := h; exact k σ' h)
theorem pe_un1v {idx b ci N : Nat} {C : String} {T : u_T} {a1 : pe_V} {R : pe_H → Prop} (hd : decode y.2.1 pc = .ok (.invokevirtual idx, 3)) (hL : ∀ w ∈ va_wsU y.1.cls idx C y'.1.cls y'.1 y'.1 [], w ∈ pe_WS) (hcode : Cond.code y'.1 y'.2.1 y'.2.2.1 y'.2.2.2.1 ∈ pe_WS) (hs : pe_sh[b]? = some (.inr (ci, N))) (hc : vwCl[ci]? = some (C, T, N)) (hM : pe_M y' [.inr (.inl b), a1] σ (pe_qv R)) (k : ∀ σ', R σ' → pe_G y (pc + 3) lv st σ' Q) (hdd : y'.1.cls ≠ "java/lang/invoke/MethodHandle" ∧ y'.1.cls ≠ "java/lang/invoke/VarHandle" ∧ (parseMethodDescriptor y'.1.desc).map (fun d => d.parameters.length) = some 1 := by decide +kernel) (hf : y'.2.2.2.2.1 + 1 ≤ y.2.2.2.2.1 := by decide) (hlo : 8 + (y'.2.2.1 + 11) + y'.2.2.2.2.2 ≤ y.2.2.2.2.2 := by decide) (hcat : (st.map pe_cat).sum ≤ 8 := by exact Nat.le_of_ble_eq_true rfl) : pe_G y pc lv (a1 :: .inr (.inl b) :: st) σ Q :=
  pe_callU (av := [a1]) hM hd hL hcode rfl hdd hs hc rfl hf hlo hcat (fun r σ' h => by obtain ⟨rfl, h⟩ := h; exact k σ' h)
theorem pe_su1r {idx b ci N : Nat} {C : String} {T : u_T} {a1 : pe_V} {R : pe_H → Prop} (hd : decode y.2.1 pc = .ok (.invokespecial idx, 3)) (hL : ∀ w ∈ va_wsSU y.1.cls idx y'.1 [], w ∈ pe_WS) (hcode : Cond.code y'.1 y'.2.1 y'.2.2.1 y'.2.2.2.1 ∈ pe_WS) (hs : pe_sh[b]? = some (.inr (ci, N))) (hc : vwCl[ci]? = some (C, T, N)) (hM : pe_M y' [.inr (.inl b), a1] σ (pe_qr R)) (k : ∀ σ', R σ' → pe_G y (pc + 3) lv (.inr (.inl 21) :: st) σ' Q) (hdd : y'.1.name ≠ "<init>" ∧ (parseMethodDescriptor y'.1.desc).map (fun d => d.parameters.length) = some 1 := by decide +kernel) (hf : y'.2.2.2.2.1 + 1 ≤ y.2.2.2.2.1 := by decide) (hlo : 8 + (y'.2.2.1 + 11) + y'.2.2.2.2.2 ≤ y.2.2.2.2.2 := by decide) (hcat : (st.map pe_cat).sum ≤ 8 := by exact Nat.le_of_ble_eq_true rfl) : pe_G y pc lv (a1 :: .inr (.inl b) :: st) σ Q :=
  pe_callSU (av := [a1]) hM hd hL hcode hdd hs hc rfl hf hlo hcat (fun r σ' h => by obtain ⟨rfl, h⟩ := h; exact k σ' h)
theorem pe_un1r {idx b ci N : Nat} {C : String} {T : u_T} {a1 : pe_V} {R : pe_H → Prop} (hd : decode y.2.1 pc = .ok (.invokevirtual idx, 3)) (hL : ∀ w ∈ va_wsU y.1.cls idx C y'.1.cls y'.1 y'.1 [], w ∈ pe_WS) (hcode : Cond.code y'.1 y'.2.1 y'.2.2.1 y'.2.2.2.1 ∈ pe_WS) (hs : pe_sh[b]? = some (.inr (ci, N))) (hc : vwCl[ci]? = some (C, T, N)) (hM : pe_M y' [.inr (.inl b), a1] σ (pe_qr R)) (k : ∀ σ', R σ' → pe_G y (pc + 3) lv (.inr (.inl 21) :: st) σ' Q) (hdd : y'.1.cls ≠ "java/lang/invoke/MethodHandle" ∧ y'.1.cls ≠ "java/lang/invoke/VarHandle" ∧ (parseMethodDescriptor y'.1.desc).map (fun d => d.parameters.length) = some 1 := by decide +kernel) (hf : y'.2.2.2.2.1 + 1 ≤ y.2.2.2.2.1 := by decide) (hlo : 8 + (y'.2.2.1 + 11) + y'.2.2.2.2.2 ≤ y.2.2.2.2.2 := by decide) (hcat : (st.map pe_cat).sum ≤ 8 := by exact Nat.le_of_ble_eq_true rfl) : pe_G y pc lv (a1 :: .inr (.inl b) :: st) σ Q :=
  pe_callU (av := [a1]) hM hd hL hcode rfl hdd hs hc rfl hf hlo hcat (fun r σ' h => by obtain ⟨rfl, h⟩ := h; exact k σ' h)
theorem pe_v1r {idx b ci N : Nat} {C : String} {T : u_T} {a1 : pe_V} {R : pe_H → Prop} (hd : decode y.2.1 pc = .ok (.invokevirtual idx, 3)) (hw : pe_CL y.1.cls idx y' 1) (hin : Cond.instanceMethod y'.1 ∈ pe_WS) (hsel : Cond.selects C y'.1 y'.1 ∈ pe_WS) (hs : pe_sh[b]? = some (.inr (ci, N))) (hc : vwCl[ci]? = some (C, T, N)) (hM : pe_M y' [.inr (.inl b), a1] σ (pe_qr R)) (k : ∀ σ', R σ' → pe_G y (pc + 3) lv (.inr (.inl 21) :: st) σ' Q) (hf : y'.2.2.2.2.1 + 1 ≤ y.2.2.2.2.1 := by decide) (hlo : 8 + (y'.2.2.1 + 11) + y'.2.2.2.2.2 ≤ y.2.2.2.2.2 := by decide) (hcat : (st.map pe_cat).sum ≤ 8 := by exact Nat.le_of_ble_eq_true rfl) : pe_G y pc lv (a1 :: .inr (.inl b) :: st) σ Q :=
  pe_callV (av := [a1]) hM hd hw hin hsel hs hc rfl hf hlo hcat (fun r σ' h => by obtain ⟨rfl, h⟩ := h; exact k σ' h)
end PE_SBF
/-- the two that carry a reference of which nothing is known -/
theorem pe_checkP {i n : Int} (h0 : 0 ≤ i) (h1 : i < n) (h2 : n < 2147483648) (l : Launch) (w : Value) (hw : w.category = 1) (H0 : Heap) : Met l m_PR_checkIndex.1 (pe_ws m_PR_checkIndex) (pe_rm m_PR_checkIndex) (va_Pc [.int (Int32.ofInt i), .int (Int32.ofInt n), w] (fun U => U.heap = H0)) (fun _ _ oc t => oc = .returned (some (.int (Int32.ofInt i))) ∧ t.heap = H0) 0 0 (fun _ => False) := by
  refine Met.ofW (cc := m_PR_checkIndex.2.1) (maxL := 3) (ret := some .int) (by decide) rfl ?_
  intro p e s m args below meth c s₁ B hml hv
  obtain ⟨rfl, hH⟩ := hv
  have hx := B.exec
  have hb := B.bytes
  have hl := lv_entry ([.int (Int32.ofInt i), .int (Int32.ofInt n), w]) (n := 3) (by cases w <;> first | exact Nat.le_of_ble_eq_true rfl | (have q : (2 : Nat) = 1 := hw; omega))
  rw [lg_entry_eq]
  generalize (lg_sl [.int (Int32.ofInt i), .int (Int32.ofInt n), w] ++ List.replicate (3 - (lg_sl [.int (Int32.ofInt i), .int (Int32.ofInt n), w]).length) Slot.unset).toArray = ls at hl ⊢
  have ri : pe_R i := ⟨by omega, by omega⟩
  have rn : pe_R n := ⟨by omega, by omega⟩
  refine lv_iload_n hx hb d_PR_checkIndex_0 rfl (lv_at hl 0 rfl) ?_
  refine lv_if_lt (tgt := 9) hx hb d_PR_checkIndex_1 rfl (fun h => ?_) (fun _ => ?_)
  · have := (pe_lt ri pe_R0).mp h
    omega
  refine lv_iload_n hx hb d_PR_checkIndex_4 rfl (lv_at hl 0 rfl) ?_
  refine lv_iload_n hx hb d_PR_checkIndex_5 rfl (lv_at hl 1 rfl) ?_
  refine lv_icmp_lt (tgt := 16) hx hb d_PR_checkIndex_6 rfl (fun _ => ?_) (fun h => ?_)
  · refine lv_iload_n hx hb d_PR_checkIndex_16 rfl (lv_at hl 0 rfl) ?_
    exact W.iret hx hb B.returns (fun t ht _ => ⟨rfl, ht.trans hH⟩) (fun _ h => by cases h) d_PR_checkIndex_17 B.notSynchronized
  · exact absurd ((pe_lt ri rn).mpr h1) h
theorem t_ST_checkIndex {σ : pe_H} {i n : Int} (h0 : 0 ≤ i) (h1 : i < n) (h2 : n < 2147483648) : pe_M m_ST_checkIndex [pe_i i, pe_i n] σ (pe_qv (fun σ' => σ' = σ)) := by
  refine pe_in0 (lv := [some (pe_i i), some (pe_i n)]) ?_
  refine pe_iload_n d_ST_checkIndex_0 rfl ?_
  refine pe_iload_n d_ST_checkIndex_1 rfl ?_
  intro l D ad cA p e s m args below meth c H locs ls X hl hP hD hS
  have hX := X.2.2.2.2.2.1
  have hts : ∀ w ∈ pe_WS, w.before args s = true := fun w h => hX w (List.mem_cons_of_mem _ h)
  obtain ⟨w, hw, hZ⟩ : ∃ w : Value, w.category = 1 ∧ va_Z "jdk/internal/util/Preconditions" "SIOOBE_FORMATTER" "Ljava/util/function/BiFunction;" w (pe_A ad s.heap.size) s s.heap := by
    rcases X.2.2.2.2.2.2.2.2.2.2.2 with h | ⟨t, h⟩
    · exact ⟨.null, rfl, h⟩
    · exact ⟨.ref t, rfl, h⟩
  refine va_gets X.1 X.2.1 hZ hS X.2.2.2.2.2.2.1 (hts _ w_ST_1053) (fun _ h => h) d_ST_checkIndex_2 ?_
  have hfix : CallFix p m c m_ST_checkIndex.2.1 m_ST_checkIndex.2.2.1 s args (pe_ws m_ST_checkIndex) m_ST_checkIndex.1.cls := ⟨X.1, X.2.1, X.2.2.2.2.1, X.2.2.2.2.2.2.1, hX⟩
  obtain ⟨hlink, hcode, hini, hd1, hd2, hd3⟩ := c_ST_1059
  have go : va_Run p l e (headSpec (pe_ws m_ST_checkIndex) (pe_rm m_ST_checkIndex)).room s m args below meth c H locs 0 0 0 0 (F0 m 5 ls [w, .int (Int32.ofInt n), .int (Int32.ofInt i)]) [] (fun _ oc t => oc = .returned (some (.int (Int32.ofInt i))) ∧ t.heap = H) (fun _ => False) :=
    va_runS (As := [.int (Int32.ofInt i), .int (Int32.ofInt n), w]) hfix (pe_checkP h0 h1 h2 l w hw H) ⟨callB_of 3 hX (pe_good hcode) rfl rfl rfl (hts _ hini) (hts _ hlink) ⟨hd1, hd2, hd3⟩ ⟨by decide, by decide⟩, hts _ z_PR_checkIndex⟩ ⟨fun a U g mk q => ⟨q.1, q.2⟩, fun U hU hW => ⟨rfl, hU⟩⟩ rfl rfl hl.2.1 rfl (Nat.le_of_ble_eq_true rfl) d_ST_checkIndex_5 ⟨Nat.zero_le _, Nat.zero_le _⟩
  intro T hT XX
  obtain ⟨v, st₀, t, T', L, e0, X', hL, e1, e2, ⟨hv, ht⟩, st⟩ := go T hT XX
  cases hv
  have hL0 : L = [] := by
    cases L with
    | nil => rfl
    | cons q L => exact absurd (hL q List.mem_cons_self) id
  subst hL0
  rw [List.append_nil] at X'
  have k : W p l e (headSpec (pe_ws m_ST_checkIndex) (pe_rm m_ST_checkIndex)).room s m args below meth c H locs 0 0 (MQ below (pe_Qc D ad cA (pe_A ad s.heap.size) (pe_qv (fun σ' => σ' = σ))) args s 0 0 (pe_A ad s.heap.size)) (F0 m 8 ls [.int (Int32.ofInt i)]) := by
    refine lv_pop X.1 X.2.1 d_ST_checkIndex_8 rfl ?_
    exact W.vret X.1 X.2.1 X.2.2.1 (fun t ht hW => ⟨⟨none, σ, rfl, ⟨rfl, rfl⟩, by rw [ht]; exact hP⟩, hS.F ht⟩) hS.2.2 d_ST_checkIndex_9 X.2.2.2.1
  obtain ⟨t2, a1, b1⟩ := k T' (e1.trans ht) X'
  exact ⟨t2, st t2 a1, b1⟩
