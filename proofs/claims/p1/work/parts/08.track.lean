/-! rows that name the new cells -/
abbrev pe_B (σ : pe_H) : Prop := ∀ b j, pe_R (σ b j)
theorem pe_B_up {σ : pe_H} {a : Nat} {i v : Int} (h : pe_B σ) (hv : pe_R v) : pe_B (pe_up σ a i v) := by
  intro b j
  unfold pe_up
  by_cases q : b = a ∧ j = i
  · rw [if_pos q]; exact hv
  · rw [if_neg q]; exact h b j
theorem pe_B_cp {σ : pe_H} {a0 a : Nat} {sp dp n : Int} (h : pe_B σ) : pe_B (pe_cp σ a0 sp a dp n) := by
  intro b j
  unfold pe_cp
  by_cases q : b = a ∧ dp ≤ j ∧ j < dp + n
  · rw [if_pos q]; exact h _ _
  · rw [if_neg q]; exact h b j
theorem pe_cp_ne {σ : pe_H} {a0 a b : Nat} {sp dp n : Int} (h : b ≠ a) : pe_cp σ a0 sp a dp n b = σ b := by
  funext j
  unfold pe_cp
  rw [if_neg (fun q => h q.1)]
section PE_TRACK
variable {y : pe_Y} {pc : Nat} {lv : pe_L} {st : List pe_V} {σ : pe_H} {Q : Option pe_V → pe_H → Prop}
theorem pe_upT {a : Nat} {i v : Int} (hB : pe_B σ) (hv : pe_R v) (kk : ∀ τ : pe_H, pe_B τ → τ a i = v → (∀ j, j ≠ i → τ a j = σ a j) → (∀ b, b ≠ a → τ b = σ b) → pe_G y pc lv st τ Q) : pe_G y pc lv st (pe_up σ a i v) Q :=
  kk _ (pe_B_up hB hv) (by rw [pe_up_at, if_pos rfl]) (fun j hj => by rw [pe_up_at, if_neg hj]) (fun b hb => pe_up_ne hb)
theorem pe_putiT {a idx ci k N : Nat} {v : Int} (F : pe_FL y.1.cls idx ci k N) (hf : pe_FP ci k .int) (hd : decode y.2.1 pc = .ok (.putfield idx, 3)) (hs : pe_sh[a]? = some (.inr (ci, N))) (hr : pe_rt a k = none) (kz : Int) (hkz : (k : Int) = kz) (hB : pe_B σ) (hv : pe_R v) (kk : ∀ τ : pe_H, pe_B τ → τ a kz = v → (∀ j, j ≠ kz → τ a j = σ a j) → (∀ b, b ≠ a → τ b = σ b) → pe_G y (pc + 3) lv st τ Q) : pe_G y pc lv (.inl v :: .inr (.inl a) :: st) σ Q :=
  pe_puti F hf hd hs hr kz hkz (pe_upT hB hv kk)
theorem pe_putzT {a idx ci k N : Nat} {v : Int} (F : pe_FL y.1.cls idx ci k N) (hf : pe_FP ci k .boolean) (hd : decode y.2.1 pc = .ok (.putfield idx, 3)) (hs : pe_sh[a]? = some (.inr (ci, N))) (hr : pe_rt a k = none) (hz : v = 0 ∨ v = 1) (kz : Int) (hkz : (k : Int) = kz) (hB : pe_B σ) (kk : ∀ τ : pe_H, pe_B τ → τ a kz = v → (∀ j, j ≠ kz → τ a j = σ a j) → (∀ b, b ≠ a → τ b = σ b) → pe_G y (pc + 3) lv st τ Q) : pe_G y pc lv (.inl v :: .inr (.inl a) :: st) σ Q :=
  pe_putz F hf hd hs hr hz kz hkz (pe_upT hB ⟨by omega, by omega⟩ kk)
theorem pe_iastT {a n : Nat} {i v : Int} (hd : decode y.2.1 pc = .ok (.iastore, 1)) (hs : pe_sh[a]? = some (.inl (.int, n))) (h0 : 0 ≤ i) (h1 : i < n) (hB : pe_B σ) (hv : pe_R v) (kk : ∀ τ : pe_H, pe_B τ → τ a i = v → (∀ j, j ≠ i → τ a j = σ a j) → (∀ b, b ≠ a → τ b = σ b) → pe_G y (pc + 1) lv st τ Q) (hn : n < 2147483648 := by decide) : pe_G y pc lv (.inl v :: .inl i :: .inr (.inl a) :: st) σ Q :=
  pe_iast hd hs h0 h1 (pe_upT hB hv kk) hn
theorem pe_zastT {a n : Nat} {i v : Int} (hd : decode y.2.1 pc = .ok (.bastore, 1)) (hs : pe_sh[a]? = some (.inl (.boolean, n))) (h0 : 0 ≤ i) (h1 : i < n) (hz : v = 0 ∨ v = 1) (hB : pe_B σ) (kk : ∀ τ : pe_H, pe_B τ → τ a i = v → (∀ j, j ≠ i → τ a j = σ a j) → (∀ b, b ≠ a → τ b = σ b) → pe_G y (pc + 1) lv st τ Q) (hn : n < 2147483648 := by decide) : pe_G y pc lv (.inl v :: .inl i :: .inr (.inl a) :: st) σ Q :=
  pe_zast hd hs h0 h1 (by rcases hz with rfl | rfl <;> decide) (pe_upT hB ⟨by omega, by omega⟩ kk) hn
theorem pe_acopyT {a0 a n0 n1 idx : Nat} {sp dp n : Int} (hw : Cond.methodLink y.1.cls idx arraycopyName ∈ pe_WS) (hd : decode y.2.1 pc = .ok (.invokestatic idx, 3)) (hs0 : pe_sh[a0]? = some (.inl (.int, n0))) (hs1 : pe_sh[a]? = some (.inl (.int, n1))) (h1 : 0 ≤ sp) (h2 : 0 ≤ dp) (h3 : 0 ≤ n) (h4 : sp + n ≤ n0) (h5 : dp + n ≤ n1) (hB : pe_B σ) (kk : ∀ τ : pe_H, pe_B τ → (∀ j, τ a j = if dp ≤ j ∧ j < dp + n then σ a0 (sp + (j - dp)) else σ a j) → (∀ b, b ≠ a → τ b = σ b) → pe_G y (pc + 3) lv st τ Q) (hf : 1 ≤ y.2.2.2.2.1 := by decide) (hlo : (st.map pe_cat).sum + (nativeFrameWords "java/lang/System" "arraycopy" 5 + 11) ≤ y.2.2.2.2.2 := by exact Nat.le_of_ble_eq_true rfl) (hn0 : n0 < 2147483648 := by decide) (hn1 : n1 < 2147483648 := by decide) : pe_G y pc lv (.inl n :: .inl dp :: .inr (.inl a) :: .inl sp :: .inr (.inl a0) :: st) σ Q :=
  pe_acopy hw n_copy z_copy n_system hd hs0 hs1 h1 h2 h3 h4 h5 hf hlo (kk _ (pe_B_cp hB) (fun j => by
    unfold pe_cp
    by_cases q : dp ≤ j ∧ j < dp + n
    · rw [if_pos ⟨rfl, q⟩, if_pos q]
    · rw [if_neg (fun z => q z.2), if_neg q]) (fun b hb => pe_cp_ne hb)) hn0 hn1
theorem pe_maxT {a b : Int} {idx : Nat} (hw : Cond.methodLink y.1.cls idx Lib.Math.max.name ∈ pe_WS) (hd : decode y.2.1 pc = .ok (.invokestatic idx, 3)) (ha : pe_R a) (hb : pe_R b) (k : ∀ z, a ≤ z ∧ b ≤ z ∧ (z = a ∨ z = b) → pe_G y (pc + 3) lv (.inl z :: st) σ Q) (hf : 1 ≤ y.2.2.2.2.1 := by decide) (hlo : (st.map pe_cat).sum + 13 ≤ y.2.2.2.2.2 := by exact Nat.le_of_ble_eq_true rfl) : pe_G y pc lv (.inl b :: .inl a :: st) σ Q :=
  pe_max hw z_max n_math k_max hd ha hb hf hlo (k _ (by split <;> omega))
theorem pe_minT {a b : Int} {idx : Nat} (hw : Cond.methodLink y.1.cls idx Lib.Math.min.name ∈ pe_WS) (hd : decode y.2.1 pc = .ok (.invokestatic idx, 3)) (ha : pe_R a) (hb : pe_R b) (k : ∀ z, z ≤ a ∧ z ≤ b ∧ (z = a ∨ z = b) → pe_G y (pc + 3) lv (.inl z :: st) σ Q) (hf : 1 ≤ y.2.2.2.2.1 := by decide) (hlo : (st.map pe_cat).sum + 13 ≤ y.2.2.2.2.2 := by exact Nat.le_of_ble_eq_true rfl) : pe_G y pc lv (.inl b :: .inl a :: st) σ Q :=
  pe_min hw z_min n_math k_min hd ha hb hf hlo (k _ (by split <;> omega))
theorem pe_iremN {a b : Int} (hd : decode y.2.1 pc = .ok (.irem, 1)) (ha : 0 ≤ a ∧ a < 2147483648) (hb : 0 < b ∧ b < 2147483648) (k : pe_G y (pc + 1) lv (.inl (a % b) :: st) σ Q) : pe_G y pc lv (.inl b :: .inl a :: st) σ Q :=
  pe_irem hd ⟨by omega, by omega⟩ hb.1 ⟨by omega, by omega⟩ (by rw [Int.tmod_eq_emod_of_nonneg ha.1]; exact k)
theorem pe_idivN {a b : Int} (hd : decode y.2.1 pc = .ok (.idiv, 1)) (ha : 0 ≤ a ∧ a < 2147483648) (hb : 0 < b ∧ b < 2147483648) (k : pe_G y (pc + 1) lv (.inl (a / b) :: st) σ Q) : pe_G y pc lv (.inl b :: .inl a :: st) σ Q :=
  pe_idiv hd ⟨by omega, by omega⟩ hb.1 ⟨by omega, by omega⟩ (by rw [Int.tdiv_eq_ediv_of_nonneg ha.1]; exact k)
theorem pe_lh_drop {ad : Nat → Nat} {ls : Array Slot} {nL : Nat} (i : Nat) (h : pe_lh ad ls nL lv) : pe_lh ad ls nL (lv.set i none) := by
  refine ⟨by rw [List.length_set]; exact h.1, h.2.1, h.2.2.1, fun q hq => ?_⟩
  obtain ⟨j, hj, hjq⟩ := List.mem_filterMap.mp hq
  rw [List.getElem?_set] at hjq
  by_cases e : i = j
  · rw [if_pos e] at hjq
    by_cases e2 : i < lv.length
    · rw [if_pos e2] at hjq; cases hjq
    · rw [if_neg e2] at hjq; cases hjq
  · rw [if_neg e] at hjq
    exact h.2.2.2 q (List.mem_filterMap.mpr ⟨j, hj, hjq⟩)
/-- a local is forgotten -/
theorem pe_drop (i : Nat) (k : pe_G y pc (lv.set i none) st σ Q) : pe_G y pc lv st σ Q := by
  intro l D ad cA p e s m args below meth c H locs ls X hl hP hD hS
  exact k l D ad cA p e s m args below meth c H locs ls X (pe_lh_drop i hl) hP hD hS
theorem pe_all_up {f g : Int → Int} {i v lo hi : Int} (e : g i = v) (o : ∀ j, j ≠ i → g j = f j) (h : ∀ j, lo ≤ f j ∧ f j ≤ hi) (hv : lo ≤ v ∧ v ≤ hi) : ∀ j, lo ≤ g j ∧ g j ≤ hi := by
  intro j
  by_cases q : j = i
  · rw [q, e]; exact hv
  · rw [o j q]; exact h j
end PE_TRACK
