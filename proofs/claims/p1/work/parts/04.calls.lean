section PE_CALLS
variable {y : pe_Y} {pc : Nat} {lv : pe_L} {st : List pe_V} {σ : pe_H} {Q : Option pe_V → pe_H → Prop}
theorem pe_after {p : Program} {l : Launch} {e : Env} {R : Room} {s : State} {m : MethodId} {args a : Array Value} {below : List Frame} {meth : Method} {c : Code} {H : Heap} {locs : List Loc} {QQ : State → Prop} {ls : Array Slot} {ad : Nat → Nat} {cA : FieldType → ClassId} {D : va_G} {Q1 : Option pe_V → pe_H → Prop} {st0 rest : List Value}
    (hr : va_Run p l e R s m args below meth c H locs 0 0 0 0 (F0 m pc ls st0) rest (pe_Qc D ad cA (pe_A ad H.size) Q1 a) (pe_A ad H.size)) (hS : va_S (pe_A ad s.heap.size) s.heap H locs)
    (kk : ∀ (r : Option pe_V) (σ' : pe_H) (H1 : Heap) (locs1 : List Loc), Q1 r σ' → va_P D vwCl (pe_wd ad cA σ') H1 → va_S (pe_A ad s.heap.size) s.heap H1 locs1 → W p l e R s m args below meth c H1 locs1 0 0 QQ (F0 m (pc + 3) ls ((r.map (pe_c ad)).toList ++ rest))) : W p l e R s m args below meth c H locs 0 0 QQ (F0 m pc ls st0) := by
  intro T hT X
  obtain ⟨v, st₀, t, T', L, h0, X', hL, e1, e2, ⟨⟨r, σ', hv, hq, hp⟩, hz, hk⟩, st⟩ := hr T hT X
  cases hv
  rw [h0] at hz hk
  obtain ⟨t2, a1, b1⟩ := kk r σ' T'.heap (locs ++ L) hq (by rw [e1]; exact hp) ⟨Nat.le_trans hS.1 (by rw [e1]; exact hz), fun q h1 h2 => by rw [e1, hk q (Nat.lt_of_lt_of_le h1 hS.1) (fun z => h2 (pe_A_le hS.1 z))]; exact hS.2.1 q h1 h2, fun q hq => by
      rcases List.mem_append.mp hq with h | h
      · exact hS.2.2 q h
      · exact pe_A_le hS.1 (hL q h)⟩ T' rfl X'
  exact ⟨t2, st t2 a1, b1⟩
theorem pe_toL {ad : Nat → Nat} (r : Option pe_V) (st : List pe_V) : (r.map (pe_c ad)).toList ++ st.map (pe_c ad) = (r.toList ++ st).map (pe_c ad) := by
  cases r <;> rfl
theorem pe_cats {ad : Nat → Nat} (st : List pe_V) : ((st.map (pe_c ad)).map fun v => v.category) = st.map pe_cat := by
  rw [List.map_map]
  exact List.map_congr_left (fun v _ => pe_cat_c ad v)
/-- the callee's start holds at the call -/
theorem pe_pre {s : State} {D : va_G} {ad : Nat → Nat} {cA : FieldType → ClassId} {H : Heap} {A : Nat → Prop} {av : List pe_V} (hK : va_K D vwCl (pe_ty cA) s) (hP : va_P D vwCl (pe_wd ad cA σ) H) (hD : va_D A (pe_wd ad cA σ)) (hZ : pe_Zs ad (pe_A ad H.size) s H) :
    PreS s H (va_Pc (av.map (pe_c ad)) (fun U => U.heap.size = H.size ∧ va_P D vwCl (pe_wd ad cA σ) U.heap ∧ va_K D vwCl (pe_ty cA) U ∧ va_D (fun _ => True) (pe_wd ad cA σ) ∧ pe_Zs ad (pe_A ad H.size) U U.heap)) (av.map (pe_c ad)) :=
  ⟨fun a U g mk q => by
      obtain ⟨q0, q1, qP, qK, qD, qZ⟩ := q
      exact ⟨q0, q1, qP, va_K.moved (u := U) (U := U.calling g mk a) (Vm.Alike.refl U.vm) qK, qD, pe_Zs.moved (u := U) (U := U.calling g mk a) (Vm.Alike.refl U.vm) qZ⟩,
   fun U hU hW => ⟨rfl, by rw [hU], by rw [hU]; exact hP, va_K.moved hW.alike hK, hD.weaken (fun _ _ _ _ => trivial), by rw [hU]; exact pe_Zs.moved hW.alike hZ⟩⟩
theorem pe_callS {y' : pe_Y} {idx n : Nat} {av : List pe_V} {Q1 : Option pe_V → pe_H → Prop} (hM : pe_M y' av σ Q1) (hd : decode y.2.1 pc = .ok (.invokestatic idx, 3)) (hw : pe_CL y.1.cls idx y' n) (hst : Cond.static y'.1 ∈ pe_WS) (hn : av.length = n)
    (hf : y'.2.2.2.2.1 + 1 ≤ y.2.2.2.2.1) (hlo : 8 + (y'.2.2.1 + 11) + y'.2.2.2.2.2 ≤ y.2.2.2.2.2) (hcat : (st.map pe_cat).sum ≤ 8) (k : ∀ r σ', Q1 r σ' → pe_G y (pc + 3) lv (r.toList ++ st) σ' Q) : pe_G y pc lv (av.reverse ++ st) σ Q := by
  intro l D ad cA p e s m args below meth c H locs ls X hl hP hD hS
  obtain ⟨hlink, hcode, hini, hd1, hd2, hd3⟩ := hw
  have hX := X.2.2.2.2.2.1
  have hts : ∀ w ∈ pe_WS, w.before args s = true := fun w h => hX w (List.mem_cons_of_mem _ h)
  have hrest : ∀ g : JFrame, g.monitorRoom = 0 → 2 * g.monitorRoom + ((st.map (pe_c ad)).map fun v => v.category).sum ≤ 8 := fun g hg => by rw [hg, pe_cats]; omega
  have hstack : (F0 m pc ls ((av.reverse ++ st).map (pe_c ad))).stack = (av.map (pe_c ad)).reverse ++ st.map (pe_c ad) := by
    show (av.reverse ++ st).map (pe_c ad) = _
    rw [List.map_append, List.map_reverse]
  have hfix : CallFix p m c y.2.1 y.2.2.1 s args (pe_ws y) y.1.cls := ⟨X.1, X.2.1, X.2.2.2.2.1, X.2.2.2.2.2.2.1, hX⟩
  have go : va_Run p l e (headSpec (pe_ws y) (pe_rm y)).room s m args below meth c H locs 0 0 0 0 (F0 m pc ls ((av.reverse ++ st).map (pe_c ad))) (st.map (pe_c ad)) (pe_Qc D ad cA (pe_A ad H.size) Q1 (av.map (pe_c ad)).toArray) (pe_A ad H.size) := by
    exact va_runS hfix (hM l D ad cA H.size) ⟨callB_of n hX (pe_good hcode) rfl rfl rfl (hts _ hini) (hts _ hlink) ⟨hd1, hd2, hd3⟩ ⟨hf, hlo⟩, hts _ hst⟩ (pe_pre X.2.2.2.2.2.2.2.1 hP hD (pe_Zs_at X.2.2.2.2.2.2.2.2 hS)) rfl (by rw [List.length_map]; exact hn) hl.2.1 hstack (hrest _ rfl) hd ⟨Nat.zero_le _, Nat.zero_le _⟩
  refine pe_after go hS (fun r σ' H1 locs1 hq hP1 hS1 => ?_)
  rw [pe_toL]
  exact k r σ' hq l D ad cA p e s m args below meth c H1 locs1 ls X hl hP1 (pe_D hD σ') hS1
theorem pe_callV {y' : pe_Y} {idx n b ci N : Nat} {av : List pe_V} {C : String} {T : u_T} {Q1 : Option pe_V → pe_H → Prop} (hM : pe_M y' (.inr (.inl b) :: av) σ Q1) (hd : decode y.2.1 pc = .ok (.invokevirtual idx, 3)) (hw : pe_CL y.1.cls idx y' n) (hin : Cond.instanceMethod y'.1 ∈ pe_WS) (hsel : Cond.selects C y'.1 y'.1 ∈ pe_WS) (hs : pe_sh[b]? = some (.inr (ci, N))) (hc : vwCl[ci]? = some (C, T, N)) (hn : av.length = n)
    (hf : y'.2.2.2.2.1 + 1 ≤ y.2.2.2.2.1) (hlo : 8 + (y'.2.2.1 + 11) + y'.2.2.2.2.2 ≤ y.2.2.2.2.2) (hcat : (st.map pe_cat).sum ≤ 8) (k : ∀ r σ', Q1 r σ' → pe_G y (pc + 3) lv (r.toList ++ st) σ' Q) : pe_G y pc lv (av.reverse ++ .inr (.inl b) :: st) σ Q := by
  intro l D ad cA p e s m args below meth c H locs ls X hl hP hD hS
  obtain ⟨hlink, hcode, hini, hd1, hd2, hd3⟩ := hw
  have hX := X.2.2.2.2.2.1
  have hts : ∀ w ∈ pe_WS, w.before args s = true := fun w h => hX w (List.mem_cons_of_mem _ h)
  have hrest : ∀ g : JFrame, g.monitorRoom = 0 → 2 * g.monitorRoom + ((st.map (pe_c ad)).map fun v => v.category).sum ≤ 8 := fun g hg => by rw [hg, pe_cats]; omega
  have hstack : (F0 m pc ls ((av.reverse ++ .inr (.inl b) :: st).map (pe_c ad))).stack = (av.map (pe_c ad)).reverse ++ .ref (ad b) :: st.map (pe_c ad) := by
    show (av.reverse ++ .inr (.inl b) :: st).map (pe_c ad) = _
    rw [List.map_append, List.map_reverse]
    rfl
  have hfix : CallFix p m c y.2.1 y.2.2.1 s args (pe_ws y) y.1.cls := ⟨X.1, X.2.1, X.2.2.2.2.1, X.2.2.2.2.2.2.1, hX⟩
  have hK := X.2.2.2.2.2.2.2.1
  have hcell : ∃ cellB : Cell, H[ad b]? = some cellB ∧ cellB.vm.isStatics = false ∧ s.vm.findClass C = some cellB.cls := va_recv hK hP hc (pe_wd_at hs)
  have hpre := pe_pre (av := .inr (.inl b) :: av) hK hP hD (pe_Zs_at X.2.2.2.2.2.2.2.2 hS)
  have go : va_Run p l e (headSpec (pe_ws y) (pe_rm y)).room s m args below meth c H locs 0 0 0 0 (F0 m pc ls ((av.reverse ++ .inr (.inl b) :: st).map (pe_c ad))) (st.map (pe_c ad)) (pe_Qc D ad cA (pe_A ad H.size) Q1 (Value.ref (ad b) :: av.map (pe_c ad)).toArray) (pe_A ad H.size) := by
    exact va_runV hfix (hM l D ad cA H.size) ⟨callB_of n hX (pe_good hcode) rfl rfl rfl (hts _ hini) (hts _ hlink) ⟨hd1, hd2, hd3⟩ ⟨hf, hlo⟩, hts _ hin, hts _ hsel⟩ ⟨hpre.1, hcell, hpre.2⟩ rfl (by rw [List.length_map]; exact hn) hl.2.1 hstack (hrest _ rfl) hd ⟨Nat.zero_le _, Nat.zero_le _⟩
  refine pe_after go hS (fun r σ' H1 locs1 hq hP1 hS1 => ?_)
  rw [pe_toL]
  exact k r σ' hq l D ad cA p e s m args below meth c H1 locs1 ls X hl hP1 (pe_D hD σ') hS1
end PE_CALLS
