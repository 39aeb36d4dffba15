/-! the reference's terminal -/
theorem pe_ix {W H r c : Int} (hW : 1 ≤ W ∧ W ≤ 24) (hH : H ≤ 8) (hr : 0 ≤ r ∧ r < H) (hc : 0 ≤ c ∧ c < W) : 0 ≤ W * r ∧ W * r + c < 192 ∧ W * r + W ≤ 192 := by
  have h1 : W * (r + 1) ≤ 24 * 8 := Int.mul_le_mul hW.2 (by omega) (by omega) (by omega)
  have h2 : W * (r + 1) = W * r + W := by rw [Int.mul_add, Int.mul_one]
  have h3 : 0 ≤ W * r := Int.mul_nonneg (by omega) hr.1
  omega
theorem pe_col {W r c r' c' : Int} (hc : 0 ≤ c ∧ c < W) (hc' : 0 ≤ c' ∧ c' < W) (e : W * r + c = W * r' + c') : c = c' := by
  have h1 : (W * r + c) % W = c := by rw [Int.add_comm, Int.add_mul_emod_self_left]; exact Int.emod_eq_of_lt hc.1 hc.2
  have h2 : (W * r' + c') % W = c' := by rw [Int.add_comm, Int.add_mul_emod_self_left]; exact Int.emod_eq_of_lt hc'.1 hc'.2
  rw [← h1, e, h2]
def pe_SW (m s : Int → Int) : Prop := (∀ j, 0 ≤ s j) ∧ s 0 ≠ 0 ∧ ∀ r, 0 ≤ r → r < m 22 → ¬ pe_wi (s (m 21 * r + (m 21 - 1)) % 65536)
theorem pe_SW_up {m s s' : Int → Int} {i v : Int} (q : pe_SW m s) (e : s' i = v) (o : ∀ j, j ≠ i → s' j = s j) (h0 : 0 ≤ v) (h1 : i = 0 → v ≠ 0) (h2 : pe_wi (v % 65536) → ∀ r, 0 ≤ r → r < m 22 → m 21 * r + (m 21 - 1) ≠ i) : pe_SW m s' := by
  refine ⟨fun j => ?_, ?_, fun r a b => ?_⟩
  · by_cases ej : j = i
    · rw [ej, e]; exact h0
    · rw [o j ej]; exact q.1 j
  · by_cases ej : (0 : Int) = i
    · subst ej; rw [e]; exact h1 rfl
    · rw [o 0 ej]; exact q.2.1
  · by_cases ej : m 21 * r + (m 21 - 1) = i
    · rw [ej, e]; exact fun z => h2 z r a b ej
    · rw [o _ ej]; exact q.2.2 r a b
theorem pe_SW_to {m m' s s' : Int → Int} (q : pe_SW m s) (e1 : m' 21 = m 21) (e2 : m' 22 = m 22) (e3 : s' = s) : pe_SW m' s' := by
  subst e3
  unfold pe_SW
  rw [e1, e2]
  exact q
theorem pe_nw {v : Int} (h : v % 65536 < 11904) : ¬ pe_wi (v % 65536) := by unfold pe_wi; omega
theorem pe_shr (k : Nat) (M : Int) {a s : Int} (h0 : 0 ≤ a) (h1 : a < 2147483648) (hs : ((Int32.ofInt s &&& 31).toBitVec.smod 32).toNat = k := by decide) (hM : ((2 ^ k : Nat) : Int) = M := by decide) : Int32.ofInt a >>> (Int32.ofInt s &&& 31) = Int32.ofInt (a / M) := by
  subst hM
  obtain ⟨n, rfl⟩ : ∃ n : Nat, a = n := ⟨a.toNat, by omega⟩
  have h := pk_shrN (n := n) (by omega) (Int32.ofInt s &&& 31) k hs
  have e1 : Int32.ofInt (n : Int) = nI n := Int32.ofInt_eq_ofNat
  have e2 : Int32.ofInt ((n : Int) / ((2 ^ k : Nat) : Int)) = nI (n / 2 ^ k) := by
    rw [← Int.natCast_ediv]
    exact Int32.ofInt_eq_ofNat
  rw [e1, e2]
  exact h
theorem t_M_put {σ : pe_H} {k : Int} (hB : pe_B σ) (hs : 0 ≤ σ 29 43 ∧ σ 29 43 + 1 ≤ 6000) (hk : pe_R k) : pe_M m_M_put [pe_r 29, pe_i k] σ (pe_qv (fun σ' => pe_B σ' ∧ (∀ b, b ∉ [29, 46] → σ' b = σ b) ∧ (∀ j, j ∉ ([43] : List Int) → σ' 29 j = σ 29 j) ∧ σ' 29 43 = σ 29 43 + 1)) := by
  refine pe_in0 (lv := [some (pe_r 29), some (pe_i k)]) ?_
  have hB0 := hB
  refine pe_aload_n d_M_put_0 rfl ?_
  refine pe_getr f_M_75 d_M_put_1 rfl rfl ?_
  refine pe_aload_n d_M_put_4 rfl ?_
  refine pe_geti f_M_250 d_M_put_5 rfl rfl 43 rfl ?_
  refine pe_iload_n d_M_put_8 rfl ?_
  refine pe_iastT d_M_put_9 rfl (by omega) (by omega) hB (by first | exact hB _ _ | exact hB0 _ _ | exact hBt _ _ | exact ⟨by omega, by omega⟩) (fun σ9 hB e9 o9 f9 => ?_)
  try have u9_0 : σ9 29 21 = σ 29 21 := by first | exact o9 21 (by decide) | exact congrFun (f9 29 (by decide)) 21
  try have u9_1 : σ9 29 22 = σ 29 22 := by first | exact o9 22 (by decide) | exact congrFun (f9 29 (by decide)) 22
  try have u9_2 : σ9 29 36 = σ 29 36 := by first | exact o9 36 (by decide) | exact congrFun (f9 29 (by decide)) 36
  try have u9_3 : σ9 29 37 = σ 29 37 := by first | exact o9 37 (by decide) | exact congrFun (f9 29 (by decide)) 37
  try have u9_4 : σ9 29 38 = σ 29 38 := by first | exact o9 38 (by decide) | exact congrFun (f9 29 (by decide)) 38
  try have u9_5 : σ9 29 39 = σ 29 39 := by first | exact o9 39 (by decide) | exact congrFun (f9 29 (by decide)) 39
  try have u9_6 : σ9 29 40 = σ 29 40 := by first | exact o9 40 (by decide) | exact congrFun (f9 29 (by decide)) 40
  try have u9_7 : σ9 29 43 = σ 29 43 := by first | exact o9 43 (by decide) | exact congrFun (f9 29 (by decide)) 43
  refine pe_aload_n d_M_put_10 rfl ?_
  refine pe_dup d_M_put_11 ?_
  refine pe_geti f_M_250 d_M_put_12 rfl rfl 43 rfl ?_
  refine pe_iconst d_M_put_15 ?_
  refine pe_iadd d_M_put_16 ?_
  refine pe_putiT f_M_250 g_11_43 d_M_put_17 rfl rfl 43 rfl hB (by first | exact hB _ _ | exact hB0 _ _ | exact hBt _ _ | exact ⟨by omega, by omega⟩) (fun σ17 hB e17 o17 f17 => ?_)
  try have u17_0 : σ17 29 21 = σ9 29 21 := by first | exact o17 21 (by decide) | exact congrFun (f17 29 (by decide)) 21
  try have u17_1 : σ17 29 22 = σ9 29 22 := by first | exact o17 22 (by decide) | exact congrFun (f17 29 (by decide)) 22
  try have u17_2 : σ17 29 36 = σ9 29 36 := by first | exact o17 36 (by decide) | exact congrFun (f17 29 (by decide)) 36
  try have u17_3 : σ17 29 37 = σ9 29 37 := by first | exact o17 37 (by decide) | exact congrFun (f17 29 (by decide)) 37
  try have u17_4 : σ17 29 38 = σ9 29 38 := by first | exact o17 38 (by decide) | exact congrFun (f17 29 (by decide)) 38
  try have u17_5 : σ17 29 39 = σ9 29 39 := by first | exact o17 39 (by decide) | exact congrFun (f17 29 (by decide)) 39
  try have u17_6 : σ17 29 40 = σ9 29 40 := by first | exact o17 40 (by decide) | exact congrFun (f17 29 (by decide)) 40
  try have u17_7 : σ17 29 43 = σ9 29 43 := by first | exact o17 43 (by decide) | exact congrFun (f17 29 (by decide)) 43
  refine pe_rv d_M_put_20 ?_
  exact ⟨hB, (fun b hb => (f17 b (by simp at hb ⊢; try omega)).trans ((f9 b (by simp at hb ⊢; try omega)).trans (rfl))), (fun j hj => (o17 j (by simp at hj ⊢; try omega)).trans ((congrFun (f9 29 (by decide)) j).trans (rfl))), by omega⟩
theorem t_M_putBegin {σ : pe_H} (hB : pe_B σ) (hs : 0 ≤ σ 29 43 ∧ σ 29 43 + 2 ≤ 6000) : pe_M m_M_putBegin [pe_r 29] σ (pe_qv (fun σ' => pe_B σ' ∧ (∀ b, b ∉ [29, 46] → σ' b = σ b) ∧ (∀ j, j ∉ ([43] : List Int) → σ' 29 j = σ 29 j) ∧ σ' 29 43 = σ 29 43 + 2)) := by
  refine pe_in0 (lv := [some (pe_r 29)]) ?_
  have hB0 := hB
  refine pe_aload_n d_M_putBegin_0 rfl ?_
  refine pe_bipush d_M_putBegin_1 ?_
  refine pe_v1v d_M_putBegin_3 c_M_253 i_M_put s_M_put rfl rfl (t_M_put hB (by omega) (by first | exact hB _ _ | exact hB0 _ _ | exact hBt _ _ | exact ⟨by omega, by omega⟩)) (fun σ3 hz3 => ?_)
  obtain ⟨hB, f3, o3, x3⟩ := hz3
  try have u3_0 : σ3 29 21 = σ 29 21 := by first | exact o3 21 (by decide) | exact congrFun (f3 29 (by decide)) 21
  try have u3_1 : σ3 29 22 = σ 29 22 := by first | exact o3 22 (by decide) | exact congrFun (f3 29 (by decide)) 22
  try have u3_2 : σ3 29 36 = σ 29 36 := by first | exact o3 36 (by decide) | exact congrFun (f3 29 (by decide)) 36
  try have u3_3 : σ3 29 37 = σ 29 37 := by first | exact o3 37 (by decide) | exact congrFun (f3 29 (by decide)) 37
  try have u3_4 : σ3 29 38 = σ 29 38 := by first | exact o3 38 (by decide) | exact congrFun (f3 29 (by decide)) 38
  try have u3_5 : σ3 29 39 = σ 29 39 := by first | exact o3 39 (by decide) | exact congrFun (f3 29 (by decide)) 39
  try have u3_6 : σ3 29 40 = σ 29 40 := by first | exact o3 40 (by decide) | exact congrFun (f3 29 (by decide)) 40
  try have u3_7 : σ3 29 43 = σ 29 43 := by first | exact o3 43 (by decide) | exact congrFun (f3 29 (by decide)) 43
  refine pe_aload_n d_M_putBegin_6 rfl ?_
  refine pe_bipush d_M_putBegin_7 ?_
  refine pe_v1v d_M_putBegin_9 c_M_253 i_M_put s_M_put rfl rfl (t_M_put hB (by omega) (by first | exact hB _ _ | exact hB0 _ _ | exact hBt _ _ | exact ⟨by omega, by omega⟩)) (fun σ9 hz9 => ?_)
  obtain ⟨hB, f9, o9, x9⟩ := hz9
  try have u9_0 : σ9 29 21 = σ3 29 21 := by first | exact o9 21 (by decide) | exact congrFun (f9 29 (by decide)) 21
  try have u9_1 : σ9 29 22 = σ3 29 22 := by first | exact o9 22 (by decide) | exact congrFun (f9 29 (by decide)) 22
  try have u9_2 : σ9 29 36 = σ3 29 36 := by first | exact o9 36 (by decide) | exact congrFun (f9 29 (by decide)) 36
  try have u9_3 : σ9 29 37 = σ3 29 37 := by first | exact o9 37 (by decide) | exact congrFun (f9 29 (by decide)) 37
  try have u9_4 : σ9 29 38 = σ3 29 38 := by first | exact o9 38 (by decide) | exact congrFun (f9 29 (by decide)) 38
  try have u9_5 : σ9 29 39 = σ3 29 39 := by first | exact o9 39 (by decide) | exact congrFun (f9 29 (by decide)) 39
  try have u9_6 : σ9 29 40 = σ3 29 40 := by first | exact o9 40 (by decide) | exact congrFun (f9 29 (by decide)) 40
  try have u9_7 : σ9 29 43 = σ3 29 43 := by first | exact o9 43 (by decide) | exact congrFun (f9 29 (by decide)) 43
  refine pe_rv d_M_putBegin_12 ?_
  exact ⟨hB, (fun b hb => (f9 b (by simp at hb ⊢; try omega)).trans ((f3 b (by simp at hb ⊢; try omega)).trans (rfl))), (fun j hj => (o9 j (by simp at hj ⊢; try omega)).trans ((o3 j (by simp at hj ⊢; try omega)).trans (rfl))), by omega⟩
theorem t_M_putNumber {σ : pe_H} {k : Int} (hB : pe_B σ) (hs : 0 ≤ σ 29 43 ∧ σ 29 43 + 2 ≤ 6000) (hk : 0 ≤ k ∧ k ≤ 100) : pe_M m_M_putNumber [pe_r 29, pe_i k] σ (pe_qv (fun σ' => pe_B σ' ∧ (∀ b, b ∉ [29, 46] → σ' b = σ b) ∧ (∀ j, j ∉ ([43] : List Int) → σ' 29 j = σ 29 j) ∧ (σ 29 43 ≤ σ' 29 43 ∧ σ' 29 43 ≤ σ 29 43 + 2))) := by
  refine pe_in0 (lv := [some (pe_r 29), some (pe_i k)]) ?_
  have hB0 := hB
  refine pe_iload_n d_M_putNumber_0 rfl ?_
  refine pe_bipush d_M_putNumber_1 ?_
  refine pe_icmp_le (t := 17) d_M_putNumber_3 (by first | exact hB _ _ | exact hB0 _ _ | exact hBt _ _ | exact ⟨by omega, by omega⟩) (by first | exact hB _ _ | exact hB0 _ _ | exact hBt _ _ | exact ⟨by omega, by omega⟩) (fun h3 => ?_) (fun h3 => ?_)
  · skip
    refine pe_aload_n d_M_putNumber_17 rfl ?_
    refine pe_bipush d_M_putNumber_18 ?_
    refine pe_iload_n d_M_putNumber_20 rfl ?_
    refine pe_bipush d_M_putNumber_21 ?_
    refine pe_iremN d_M_putNumber_23 (by omega) (by omega) ?_
    refine pe_iadd d_M_putNumber_24 ?_
    refine pe_v1v d_M_putNumber_25 c_M_253 i_M_put s_M_put rfl rfl (t_M_put hB (by omega) (by first | exact hB _ _ | exact hB0 _ _ | exact hBt _ _ | exact ⟨by omega, by omega⟩)) (fun σ25 hz25 => ?_)
    obtain ⟨hB, f25, o25, x25⟩ := hz25
    try have u25_0 : σ25 29 21 = σ 29 21 := by first | exact o25 21 (by decide) | exact congrFun (f25 29 (by decide)) 21
    try have u25_1 : σ25 29 22 = σ 29 22 := by first | exact o25 22 (by decide) | exact congrFun (f25 29 (by decide)) 22
    try have u25_2 : σ25 29 36 = σ 29 36 := by first | exact o25 36 (by decide) | exact congrFun (f25 29 (by decide)) 36
    try have u25_3 : σ25 29 37 = σ 29 37 := by first | exact o25 37 (by decide) | exact congrFun (f25 29 (by decide)) 37
    try have u25_4 : σ25 29 38 = σ 29 38 := by first | exact o25 38 (by decide) | exact congrFun (f25 29 (by decide)) 38
    try have u25_5 : σ25 29 39 = σ 29 39 := by first | exact o25 39 (by decide) | exact congrFun (f25 29 (by decide)) 39
    try have u25_6 : σ25 29 40 = σ 29 40 := by first | exact o25 40 (by decide) | exact congrFun (f25 29 (by decide)) 40
    try have u25_7 : σ25 29 43 = σ 29 43 := by first | exact o25 43 (by decide) | exact congrFun (f25 29 (by decide)) 43
    refine pe_rv d_M_putNumber_28 ?_
    exact ⟨hB, (fun b hb => (f25 b (by simp at hb ⊢; try omega)).trans (rfl)), (fun j hj => (o25 j (by simp at hj ⊢; try omega)).trans (rfl)), by omega⟩
  · skip
    refine pe_aload_n d_M_putNumber_6 rfl ?_
    refine pe_bipush d_M_putNumber_7 ?_
    refine pe_iload_n d_M_putNumber_9 rfl ?_
    refine pe_bipush d_M_putNumber_10 ?_
    refine pe_idivN d_M_putNumber_12 (by omega) (by omega) ?_
    refine pe_iadd d_M_putNumber_13 ?_
    refine pe_v1v d_M_putNumber_14 c_M_253 i_M_put s_M_put rfl rfl (t_M_put hB (by omega) (by first | exact hB _ _ | exact hB0 _ _ | exact hBt _ _ | exact ⟨by omega, by omega⟩)) (fun σ14 hz14 => ?_)
    obtain ⟨hB, f14, o14, x14⟩ := hz14
    try have u14_0 : σ14 29 21 = σ 29 21 := by first | exact o14 21 (by decide) | exact congrFun (f14 29 (by decide)) 21
    try have u14_1 : σ14 29 22 = σ 29 22 := by first | exact o14 22 (by decide) | exact congrFun (f14 29 (by decide)) 22
    try have u14_2 : σ14 29 36 = σ 29 36 := by first | exact o14 36 (by decide) | exact congrFun (f14 29 (by decide)) 36
    try have u14_3 : σ14 29 37 = σ 29 37 := by first | exact o14 37 (by decide) | exact congrFun (f14 29 (by decide)) 37
    try have u14_4 : σ14 29 38 = σ 29 38 := by first | exact o14 38 (by decide) | exact congrFun (f14 29 (by decide)) 38
    try have u14_5 : σ14 29 39 = σ 29 39 := by first | exact o14 39 (by decide) | exact congrFun (f14 29 (by decide)) 39
    try have u14_6 : σ14 29 40 = σ 29 40 := by first | exact o14 40 (by decide) | exact congrFun (f14 29 (by decide)) 40
    try have u14_7 : σ14 29 43 = σ 29 43 := by first | exact o14 43 (by decide) | exact congrFun (f14 29 (by decide)) 43
    refine pe_aload_n d_M_putNumber_17 rfl ?_
    refine pe_bipush d_M_putNumber_18 ?_
    refine pe_iload_n d_M_putNumber_20 rfl ?_
    refine pe_bipush d_M_putNumber_21 ?_
    refine pe_iremN d_M_putNumber_23 (by omega) (by omega) ?_
    refine pe_iadd d_M_putNumber_24 ?_
    refine pe_v1v d_M_putNumber_25 c_M_253 i_M_put s_M_put rfl rfl (t_M_put hB (by omega) (by first | exact hB _ _ | exact hB0 _ _ | exact hBt _ _ | exact ⟨by omega, by omega⟩)) (fun σ25 hz25 => ?_)
    obtain ⟨hB, f25, o25, x25⟩ := hz25
    try have u25_0 : σ25 29 21 = σ14 29 21 := by first | exact o25 21 (by decide) | exact congrFun (f25 29 (by decide)) 21
    try have u25_1 : σ25 29 22 = σ14 29 22 := by first | exact o25 22 (by decide) | exact congrFun (f25 29 (by decide)) 22
    try have u25_2 : σ25 29 36 = σ14 29 36 := by first | exact o25 36 (by decide) | exact congrFun (f25 29 (by decide)) 36
    try have u25_3 : σ25 29 37 = σ14 29 37 := by first | exact o25 37 (by decide) | exact congrFun (f25 29 (by decide)) 37
    try have u25_4 : σ25 29 38 = σ14 29 38 := by first | exact o25 38 (by decide) | exact congrFun (f25 29 (by decide)) 38
    try have u25_5 : σ25 29 39 = σ14 29 39 := by first | exact o25 39 (by decide) | exact congrFun (f25 29 (by decide)) 39
    try have u25_6 : σ25 29 40 = σ14 29 40 := by first | exact o25 40 (by decide) | exact congrFun (f25 29 (by decide)) 40
    try have u25_7 : σ25 29 43 = σ14 29 43 := by first | exact o25 43 (by decide) | exact congrFun (f25 29 (by decide)) 43
    refine pe_rv d_M_putNumber_28 ?_
    exact ⟨hB, (fun b hb => (f25 b (by simp at hb ⊢; try omega)).trans ((f14 b (by simp at hb ⊢; try omega)).trans (rfl))), (fun j hj => (o25 j (by simp at hj ⊢; try omega)).trans ((o14 j (by simp at hj ⊢; try omega)).trans (rfl))), by omega⟩
theorem t_M_putCode {σ : pe_H} {k : Int} (hB : pe_B σ) (hs : 0 ≤ σ 29 43 ∧ σ 29 43 + 3 ≤ 6000) (hk : pe_R k) : pe_M m_M_putCode [pe_r 29, pe_i k] σ (pe_qv (fun σ' => pe_B σ' ∧ (∀ b, b ∉ [29, 46] → σ' b = σ b) ∧ (∀ j, j ∉ ([43] : List Int) → σ' 29 j = σ 29 j) ∧ (σ 29 43 ≤ σ' 29 43 ∧ σ' 29 43 ≤ σ 29 43 + 3))) := by
  refine pe_in0 (lv := [some (pe_r 29), some (pe_i k)]) ?_
  have hB0 := hB
  refine pe_iload_n d_M_putCode_0 rfl ?_
  refine pe_sipush d_M_putCode_1 ?_
  refine pe_icmp_ge (t := 15) d_M_putCode_4 (by first | exact hB _ _ | exact hB0 _ _ | exact hBt _ _ | exact ⟨by omega, by omega⟩) (by first | exact hB _ _ | exact hB0 _ _ | exact hBt _ _ | exact ⟨by omega, by omega⟩) (fun h4 => ?_) (fun h4 => ?_)
  · skip
    refine pe_iload_n d_M_putCode_15 rfl ?_
    refine pe_sipush d_M_putCode_16 ?_
    refine pe_icmp_ge (t := 49) d_M_putCode_19 (by first | exact hB _ _ | exact hB0 _ _ | exact hBt _ _ | exact ⟨by omega, by omega⟩) (by first | exact hB _ _ | exact hB0 _ _ | exact hBt _ _ | exact ⟨by omega, by omega⟩) (fun h19 => ?_) (fun h19 => ?_)
    · skip
      refine pe_aload_n d_M_putCode_49 rfl ?_
      refine pe_sipush d_M_putCode_50 ?_
      refine pe_iload_n d_M_putCode_53 rfl ?_
      refine pe_bipush d_M_putCode_54 ?_
      refine pe_ishr d_M_putCode_56 (Int32.ofInt_toInt _).symm ?_
      refine pe_any (fun y56 hy56 => ?_)
      refine pe_iadd d_M_putCode_57 ?_
      refine pe_any (fun v58 hv58 => ?_)
      refine pe_v1v d_M_putCode_58 c_M_253 i_M_put s_M_put rfl rfl (t_M_put hB (by omega) (by first | exact hB _ _ | exact hB0 _ _ | exact hBt _ _ | exact ⟨by omega, by omega⟩)) (fun σ58 hz58 => ?_)
      obtain ⟨hB, f58, o58, x58⟩ := hz58
      try have u58_0 : σ58 29 21 = σ 29 21 := by first | exact o58 21 (by decide) | exact congrFun (f58 29 (by decide)) 21
      try have u58_1 : σ58 29 22 = σ 29 22 := by first | exact o58 22 (by decide) | exact congrFun (f58 29 (by decide)) 22
      try have u58_2 : σ58 29 36 = σ 29 36 := by first | exact o58 36 (by decide) | exact congrFun (f58 29 (by decide)) 36
      try have u58_3 : σ58 29 37 = σ 29 37 := by first | exact o58 37 (by decide) | exact congrFun (f58 29 (by decide)) 37
      try have u58_4 : σ58 29 38 = σ 29 38 := by first | exact o58 38 (by decide) | exact congrFun (f58 29 (by decide)) 38
      try have u58_5 : σ58 29 39 = σ 29 39 := by first | exact o58 39 (by decide) | exact congrFun (f58 29 (by decide)) 39
      try have u58_6 : σ58 29 40 = σ 29 40 := by first | exact o58 40 (by decide) | exact congrFun (f58 29 (by decide)) 40
      try have u58_7 : σ58 29 43 = σ 29 43 := by first | exact o58 43 (by decide) | exact congrFun (f58 29 (by decide)) 43
      refine pe_aload_n d_M_putCode_61 rfl ?_
      refine pe_sipush d_M_putCode_62 ?_
      refine pe_iload_n d_M_putCode_65 rfl ?_
      refine pe_bipush d_M_putCode_66 ?_
      refine pe_ishr d_M_putCode_68 (Int32.ofInt_toInt _).symm ?_
      refine pe_any (fun y68 hy68 => ?_)
      refine pe_bipush d_M_putCode_69 ?_
      refine pe_iand d_M_putCode_71 (Int32.ofInt_toInt _).symm ?_
      refine pe_any (fun y71 hy71 => ?_)
      refine pe_iadd d_M_putCode_72 ?_
      refine pe_any (fun v73 hv73 => ?_)
      refine pe_v1v d_M_putCode_73 c_M_253 i_M_put s_M_put rfl rfl (t_M_put hB (by omega) (by first | exact hB _ _ | exact hB0 _ _ | exact hBt _ _ | exact ⟨by omega, by omega⟩)) (fun σ73 hz73 => ?_)
      obtain ⟨hB, f73, o73, x73⟩ := hz73
      try have u73_0 : σ73 29 21 = σ58 29 21 := by first | exact o73 21 (by decide) | exact congrFun (f73 29 (by decide)) 21
      try have u73_1 : σ73 29 22 = σ58 29 22 := by first | exact o73 22 (by decide) | exact congrFun (f73 29 (by decide)) 22
      try have u73_2 : σ73 29 36 = σ58 29 36 := by first | exact o73 36 (by decide) | exact congrFun (f73 29 (by decide)) 36
      try have u73_3 : σ73 29 37 = σ58 29 37 := by first | exact o73 37 (by decide) | exact congrFun (f73 29 (by decide)) 37
      try have u73_4 : σ73 29 38 = σ58 29 38 := by first | exact o73 38 (by decide) | exact congrFun (f73 29 (by decide)) 38
      try have u73_5 : σ73 29 39 = σ58 29 39 := by first | exact o73 39 (by decide) | exact congrFun (f73 29 (by decide)) 39
      try have u73_6 : σ73 29 40 = σ58 29 40 := by first | exact o73 40 (by decide) | exact congrFun (f73 29 (by decide)) 40
      try have u73_7 : σ73 29 43 = σ58 29 43 := by first | exact o73 43 (by decide) | exact congrFun (f73 29 (by decide)) 43
      refine pe_aload_n d_M_putCode_76 rfl ?_
      refine pe_sipush d_M_putCode_77 ?_
      refine pe_iload_n d_M_putCode_80 rfl ?_
      refine pe_bipush d_M_putCode_81 ?_
      refine pe_iand d_M_putCode_83 (Int32.ofInt_toInt _).symm ?_
      refine pe_any (fun y83 hy83 => ?_)
      refine pe_iadd d_M_putCode_84 ?_
      refine pe_any (fun v85 hv85 => ?_)
      refine pe_v1v d_M_putCode_85 c_M_253 i_M_put s_M_put rfl rfl (t_M_put hB (by omega) (by first | exact hB _ _ | exact hB0 _ _ | exact hBt _ _ | exact ⟨by omega, by omega⟩)) (fun σ85 hz85 => ?_)
      obtain ⟨hB, f85, o85, x85⟩ := hz85
      try have u85_0 : σ85 29 21 = σ73 29 21 := by first | exact o85 21 (by decide) | exact congrFun (f85 29 (by decide)) 21
      try have u85_1 : σ85 29 22 = σ73 29 22 := by first | exact o85 22 (by decide) | exact congrFun (f85 29 (by decide)) 22
      try have u85_2 : σ85 29 36 = σ73 29 36 := by first | exact o85 36 (by decide) | exact congrFun (f85 29 (by decide)) 36
      try have u85_3 : σ85 29 37 = σ73 29 37 := by first | exact o85 37 (by decide) | exact congrFun (f85 29 (by decide)) 37
      try have u85_4 : σ85 29 38 = σ73 29 38 := by first | exact o85 38 (by decide) | exact congrFun (f85 29 (by decide)) 38
      try have u85_5 : σ85 29 39 = σ73 29 39 := by first | exact o85 39 (by decide) | exact congrFun (f85 29 (by decide)) 39
      try have u85_6 : σ85 29 40 = σ73 29 40 := by first | exact o85 40 (by decide) | exact congrFun (f85 29 (by decide)) 40
      try have u85_7 : σ85 29 43 = σ73 29 43 := by first | exact o85 43 (by decide) | exact congrFun (f85 29 (by decide)) 43
      refine pe_rv d_M_putCode_88 ?_
      exact ⟨hB, (fun b hb => (f85 b (by simp at hb ⊢; try omega)).trans ((f73 b (by simp at hb ⊢; try omega)).trans ((f58 b (by simp at hb ⊢; try omega)).trans (rfl)))), (fun j hj => (o85 j (by simp at hj ⊢; try omega)).trans ((o73 j (by simp at hj ⊢; try omega)).trans ((o58 j (by simp at hj ⊢; try omega)).trans (rfl)))), by omega⟩
    · skip
      refine pe_aload_n d_M_putCode_22 rfl ?_
      refine pe_sipush d_M_putCode_23 ?_
      refine pe_iload_n d_M_putCode_26 rfl ?_
      refine pe_bipush d_M_putCode_27 ?_
      refine pe_ishr d_M_putCode_29 (Int32.ofInt_toInt _).symm ?_
      refine pe_any (fun y29 hy29 => ?_)
      refine pe_iadd d_M_putCode_30 ?_
      refine pe_any (fun v31 hv31 => ?_)
      refine pe_v1v d_M_putCode_31 c_M_253 i_M_put s_M_put rfl rfl (t_M_put hB (by omega) (by first | exact hB _ _ | exact hB0 _ _ | exact hBt _ _ | exact ⟨by omega, by omega⟩)) (fun σ31 hz31 => ?_)
      obtain ⟨hB, f31, o31, x31⟩ := hz31
      try have u31_0 : σ31 29 21 = σ 29 21 := by first | exact o31 21 (by decide) | exact congrFun (f31 29 (by decide)) 21
      try have u31_1 : σ31 29 22 = σ 29 22 := by first | exact o31 22 (by decide) | exact congrFun (f31 29 (by decide)) 22
      try have u31_2 : σ31 29 36 = σ 29 36 := by first | exact o31 36 (by decide) | exact congrFun (f31 29 (by decide)) 36
      try have u31_3 : σ31 29 37 = σ 29 37 := by first | exact o31 37 (by decide) | exact congrFun (f31 29 (by decide)) 37
      try have u31_4 : σ31 29 38 = σ 29 38 := by first | exact o31 38 (by decide) | exact congrFun (f31 29 (by decide)) 38
      try have u31_5 : σ31 29 39 = σ 29 39 := by first | exact o31 39 (by decide) | exact congrFun (f31 29 (by decide)) 39
      try have u31_6 : σ31 29 40 = σ 29 40 := by first | exact o31 40 (by decide) | exact congrFun (f31 29 (by decide)) 40
      try have u31_7 : σ31 29 43 = σ 29 43 := by first | exact o31 43 (by decide) | exact congrFun (f31 29 (by decide)) 43
      refine pe_aload_n d_M_putCode_34 rfl ?_
      refine pe_sipush d_M_putCode_35 ?_
      refine pe_iload_n d_M_putCode_38 rfl ?_
      refine pe_bipush d_M_putCode_39 ?_
      refine pe_iand d_M_putCode_41 (Int32.ofInt_toInt _).symm ?_
      refine pe_any (fun y41 hy41 => ?_)
      refine pe_iadd d_M_putCode_42 ?_
      refine pe_any (fun v43 hv43 => ?_)
      refine pe_v1v d_M_putCode_43 c_M_253 i_M_put s_M_put rfl rfl (t_M_put hB (by omega) (by first | exact hB _ _ | exact hB0 _ _ | exact hBt _ _ | exact ⟨by omega, by omega⟩)) (fun σ43 hz43 => ?_)
      obtain ⟨hB, f43, o43, x43⟩ := hz43
      try have u43_0 : σ43 29 21 = σ31 29 21 := by first | exact o43 21 (by decide) | exact congrFun (f43 29 (by decide)) 21
      try have u43_1 : σ43 29 22 = σ31 29 22 := by first | exact o43 22 (by decide) | exact congrFun (f43 29 (by decide)) 22
      try have u43_2 : σ43 29 36 = σ31 29 36 := by first | exact o43 36 (by decide) | exact congrFun (f43 29 (by decide)) 36
      try have u43_3 : σ43 29 37 = σ31 29 37 := by first | exact o43 37 (by decide) | exact congrFun (f43 29 (by decide)) 37
      try have u43_4 : σ43 29 38 = σ31 29 38 := by first | exact o43 38 (by decide) | exact congrFun (f43 29 (by decide)) 38
      try have u43_5 : σ43 29 39 = σ31 29 39 := by first | exact o43 39 (by decide) | exact congrFun (f43 29 (by decide)) 39
      try have u43_6 : σ43 29 40 = σ31 29 40 := by first | exact o43 40 (by decide) | exact congrFun (f43 29 (by decide)) 40
      try have u43_7 : σ43 29 43 = σ31 29 43 := by first | exact o43 43 (by decide) | exact congrFun (f43 29 (by decide)) 43
      refine pe_goto (t := 88) d_M_putCode_46 ?_
      refine pe_rv d_M_putCode_88 ?_
      exact ⟨hB, (fun b hb => (f43 b (by simp at hb ⊢; try omega)).trans ((f31 b (by simp at hb ⊢; try omega)).trans (rfl))), (fun j hj => (o43 j (by simp at hj ⊢; try omega)).trans ((o31 j (by simp at hj ⊢; try omega)).trans (rfl))), by omega⟩
  · skip
    refine pe_aload_n d_M_putCode_7 rfl ?_
    refine pe_iload_n d_M_putCode_8 rfl ?_
    refine pe_any (fun v9 hv9 => ?_)
    refine pe_v1v d_M_putCode_9 c_M_253 i_M_put s_M_put rfl rfl (t_M_put hB (by omega) (by first | exact hB _ _ | exact hB0 _ _ | exact hBt _ _ | exact ⟨by omega, by omega⟩)) (fun σ9 hz9 => ?_)
    obtain ⟨hB, f9, o9, x9⟩ := hz9
    try have u9_0 : σ9 29 21 = σ 29 21 := by first | exact o9 21 (by decide) | exact congrFun (f9 29 (by decide)) 21
    try have u9_1 : σ9 29 22 = σ 29 22 := by first | exact o9 22 (by decide) | exact congrFun (f9 29 (by decide)) 22
    try have u9_2 : σ9 29 36 = σ 29 36 := by first | exact o9 36 (by decide) | exact congrFun (f9 29 (by decide)) 36
    try have u9_3 : σ9 29 37 = σ 29 37 := by first | exact o9 37 (by decide) | exact congrFun (f9 29 (by decide)) 37
    try have u9_4 : σ9 29 38 = σ 29 38 := by first | exact o9 38 (by decide) | exact congrFun (f9 29 (by decide)) 38
    try have u9_5 : σ9 29 39 = σ 29 39 := by first | exact o9 39 (by decide) | exact congrFun (f9 29 (by decide)) 39
    try have u9_6 : σ9 29 40 = σ 29 40 := by first | exact o9 40 (by decide) | exact congrFun (f9 29 (by decide)) 40
    try have u9_7 : σ9 29 43 = σ 29 43 := by first | exact o9 43 (by decide) | exact congrFun (f9 29 (by decide)) 43
    refine pe_goto (t := 88) d_M_putCode_12 ?_
    refine pe_rv d_M_putCode_88 ?_
    exact ⟨hB, (fun b hb => (f9 b (by simp at hb ⊢; try omega)).trans (rfl)), (fun j hj => (o9 j (by simp at hj ⊢; try omega)).trans (rfl)), by omega⟩
theorem t_M_sendPlace {σ : pe_H} {r c : Int} (hB : pe_B σ) (hs : 0 ≤ σ 29 43 ∧ σ 29 43 + 8 ≤ 6000) (hr : 0 ≤ r ∧ r ≤ 50) (hc : 0 ≤ c ∧ c ≤ 50) : pe_M m_M_sendPlace [pe_r 29, pe_i r, pe_i c] σ (pe_qv (fun σ' => pe_B σ' ∧ (∀ b, b ∉ [29, 46] → σ' b = σ b) ∧ (∀ j, j ∉ ([43] : List Int) → σ' 29 j = σ 29 j) ∧ (σ 29 43 ≤ σ' 29 43 ∧ σ' 29 43 ≤ σ 29 43 + 8))) := by
  refine pe_in0 (lv := [some (pe_r 29), some (pe_i r), some (pe_i c)]) ?_
  have hB0 := hB
  refine pe_aload_n d_M_sendPlace_0 rfl ?_
  refine pe_v0v d_M_sendPlace_1 c_M_275 i_M_putBegin s_M_putBegin rfl rfl (t_M_putBegin hB (by omega)) (fun σ1 hz1 => ?_)
  obtain ⟨hB, f1, o1, x1⟩ := hz1
  try have u1_0 : σ1 29 21 = σ 29 21 := by first | exact o1 21 (by decide) | exact congrFun (f1 29 (by decide)) 21
  try have u1_1 : σ1 29 22 = σ 29 22 := by first | exact o1 22 (by decide) | exact congrFun (f1 29 (by decide)) 22
  try have u1_2 : σ1 29 36 = σ 29 36 := by first | exact o1 36 (by decide) | exact congrFun (f1 29 (by decide)) 36
  try have u1_3 : σ1 29 37 = σ 29 37 := by first | exact o1 37 (by decide) | exact congrFun (f1 29 (by decide)) 37
  try have u1_4 : σ1 29 38 = σ 29 38 := by first | exact o1 38 (by decide) | exact congrFun (f1 29 (by decide)) 38
  try have u1_5 : σ1 29 39 = σ 29 39 := by first | exact o1 39 (by decide) | exact congrFun (f1 29 (by decide)) 39
  try have u1_6 : σ1 29 40 = σ 29 40 := by first | exact o1 40 (by decide) | exact congrFun (f1 29 (by decide)) 40
  try have u1_7 : σ1 29 43 = σ 29 43 := by first | exact o1 43 (by decide) | exact congrFun (f1 29 (by decide)) 43
  refine pe_aload_n d_M_sendPlace_4 rfl ?_
  refine pe_iload_n d_M_sendPlace_5 rfl ?_
  refine pe_iconst d_M_sendPlace_6 ?_
  refine pe_iadd d_M_sendPlace_7 ?_
  refine pe_v1v d_M_sendPlace_8 c_M_278 i_M_putNumber s_M_putNumber rfl rfl (t_M_putNumber hB (by omega) (by omega)) (fun σ8 hz8 => ?_)
  obtain ⟨hB, f8, o8, x8⟩ := hz8
  try have u8_0 : σ8 29 21 = σ1 29 21 := by first | exact o8 21 (by decide) | exact congrFun (f8 29 (by decide)) 21
  try have u8_1 : σ8 29 22 = σ1 29 22 := by first | exact o8 22 (by decide) | exact congrFun (f8 29 (by decide)) 22
  try have u8_2 : σ8 29 36 = σ1 29 36 := by first | exact o8 36 (by decide) | exact congrFun (f8 29 (by decide)) 36
  try have u8_3 : σ8 29 37 = σ1 29 37 := by first | exact o8 37 (by decide) | exact congrFun (f8 29 (by decide)) 37
  try have u8_4 : σ8 29 38 = σ1 29 38 := by first | exact o8 38 (by decide) | exact congrFun (f8 29 (by decide)) 38
  try have u8_5 : σ8 29 39 = σ1 29 39 := by first | exact o8 39 (by decide) | exact congrFun (f8 29 (by decide)) 39
  try have u8_6 : σ8 29 40 = σ1 29 40 := by first | exact o8 40 (by decide) | exact congrFun (f8 29 (by decide)) 40
  try have u8_7 : σ8 29 43 = σ1 29 43 := by first | exact o8 43 (by decide) | exact congrFun (f8 29 (by decide)) 43
  refine pe_aload_n d_M_sendPlace_11 rfl ?_
  refine pe_bipush d_M_sendPlace_12 ?_
  refine pe_v1v d_M_sendPlace_14 c_M_253 i_M_put s_M_put rfl rfl (t_M_put hB (by omega) (by first | exact hB _ _ | exact hB0 _ _ | exact hBt _ _ | exact ⟨by omega, by omega⟩)) (fun σ14 hz14 => ?_)
  obtain ⟨hB, f14, o14, x14⟩ := hz14
  try have u14_0 : σ14 29 21 = σ8 29 21 := by first | exact o14 21 (by decide) | exact congrFun (f14 29 (by decide)) 21
  try have u14_1 : σ14 29 22 = σ8 29 22 := by first | exact o14 22 (by decide) | exact congrFun (f14 29 (by decide)) 22
  try have u14_2 : σ14 29 36 = σ8 29 36 := by first | exact o14 36 (by decide) | exact congrFun (f14 29 (by decide)) 36
  try have u14_3 : σ14 29 37 = σ8 29 37 := by first | exact o14 37 (by decide) | exact congrFun (f14 29 (by decide)) 37
  try have u14_4 : σ14 29 38 = σ8 29 38 := by first | exact o14 38 (by decide) | exact congrFun (f14 29 (by decide)) 38
  try have u14_5 : σ14 29 39 = σ8 29 39 := by first | exact o14 39 (by decide) | exact congrFun (f14 29 (by decide)) 39
  try have u14_6 : σ14 29 40 = σ8 29 40 := by first | exact o14 40 (by decide) | exact congrFun (f14 29 (by decide)) 40
  try have u14_7 : σ14 29 43 = σ8 29 43 := by first | exact o14 43 (by decide) | exact congrFun (f14 29 (by decide)) 43
  refine pe_aload_n d_M_sendPlace_17 rfl ?_
  refine pe_iload_n d_M_sendPlace_18 rfl ?_
  refine pe_iconst d_M_sendPlace_19 ?_
  refine pe_iadd d_M_sendPlace_20 ?_
  refine pe_v1v d_M_sendPlace_21 c_M_278 i_M_putNumber s_M_putNumber rfl rfl (t_M_putNumber hB (by omega) (by omega)) (fun σ21 hz21 => ?_)
  obtain ⟨hB, f21, o21, x21⟩ := hz21
  try have u21_0 : σ21 29 21 = σ14 29 21 := by first | exact o21 21 (by decide) | exact congrFun (f21 29 (by decide)) 21
  try have u21_1 : σ21 29 22 = σ14 29 22 := by first | exact o21 22 (by decide) | exact congrFun (f21 29 (by decide)) 22
  try have u21_2 : σ21 29 36 = σ14 29 36 := by first | exact o21 36 (by decide) | exact congrFun (f21 29 (by decide)) 36
  try have u21_3 : σ21 29 37 = σ14 29 37 := by first | exact o21 37 (by decide) | exact congrFun (f21 29 (by decide)) 37
  try have u21_4 : σ21 29 38 = σ14 29 38 := by first | exact o21 38 (by decide) | exact congrFun (f21 29 (by decide)) 38
  try have u21_5 : σ21 29 39 = σ14 29 39 := by first | exact o21 39 (by decide) | exact congrFun (f21 29 (by decide)) 39
  try have u21_6 : σ21 29 40 = σ14 29 40 := by first | exact o21 40 (by decide) | exact congrFun (f21 29 (by decide)) 40
  try have u21_7 : σ21 29 43 = σ14 29 43 := by first | exact o21 43 (by decide) | exact congrFun (f21 29 (by decide)) 43
  refine pe_aload_n d_M_sendPlace_24 rfl ?_
  refine pe_bipush d_M_sendPlace_25 ?_
  refine pe_v1v d_M_sendPlace_27 c_M_253 i_M_put s_M_put rfl rfl (t_M_put hB (by omega) (by first | exact hB _ _ | exact hB0 _ _ | exact hBt _ _ | exact ⟨by omega, by omega⟩)) (fun σ27 hz27 => ?_)
  obtain ⟨hB, f27, o27, x27⟩ := hz27
  try have u27_0 : σ27 29 21 = σ21 29 21 := by first | exact o27 21 (by decide) | exact congrFun (f27 29 (by decide)) 21
  try have u27_1 : σ27 29 22 = σ21 29 22 := by first | exact o27 22 (by decide) | exact congrFun (f27 29 (by decide)) 22
  try have u27_2 : σ27 29 36 = σ21 29 36 := by first | exact o27 36 (by decide) | exact congrFun (f27 29 (by decide)) 36
  try have u27_3 : σ27 29 37 = σ21 29 37 := by first | exact o27 37 (by decide) | exact congrFun (f27 29 (by decide)) 37
  try have u27_4 : σ27 29 38 = σ21 29 38 := by first | exact o27 38 (by decide) | exact congrFun (f27 29 (by decide)) 38
  try have u27_5 : σ27 29 39 = σ21 29 39 := by first | exact o27 39 (by decide) | exact congrFun (f27 29 (by decide)) 39
  try have u27_6 : σ27 29 40 = σ21 29 40 := by first | exact o27 40 (by decide) | exact congrFun (f27 29 (by decide)) 40
  try have u27_7 : σ27 29 43 = σ21 29 43 := by first | exact o27 43 (by decide) | exact congrFun (f27 29 (by decide)) 43
  refine pe_rv d_M_sendPlace_30 ?_
  exact ⟨hB, (fun b hb => (f27 b (by simp at hb ⊢; try omega)).trans ((f21 b (by simp at hb ⊢; try omega)).trans ((f14 b (by simp at hb ⊢; try omega)).trans ((f8 b (by simp at hb ⊢; try omega)).trans ((f1 b (by simp at hb ⊢; try omega)).trans (rfl)))))), (fun j hj => (o27 j (by simp at hj ⊢; try omega)).trans ((o21 j (by simp at hj ⊢; try omega)).trans ((o14 j (by simp at hj ⊢; try omega)).trans ((o8 j (by simp at hj ⊢; try omega)).trans ((o1 j (by simp at hj ⊢; try omega)).trans (rfl)))))), by omega⟩
theorem t_M_setLook {σ : pe_H} {k : Int} (hB : pe_B σ) (hs : 0 ≤ σ 29 43 ∧ σ 29 43 + 6 ≤ 6000) (hk : pe_R k) : pe_M m_M_setLook [pe_r 29, pe_i k] σ (pe_qv (fun σ' => pe_B σ' ∧ (∀ b, b ∉ [29, 46] → σ' b = σ b) ∧ (∀ j, j ∉ ([39, 43] : List Int) → σ' 29 j = σ 29 j) ∧ (σ 29 43 ≤ σ' 29 43 ∧ σ' 29 43 ≤ σ 29 43 + 6))) := by
  refine pe_in0 (lv := [some (pe_r 29), some (pe_i k)]) ?_
  have hB0 := hB
  refine pe_aload_n d_M_setLook_0 rfl ?_
  refine pe_v0v d_M_setLook_1 c_M_275 i_M_putBegin s_M_putBegin rfl rfl (t_M_putBegin hB (by omega)) (fun σ1 hz1 => ?_)
  obtain ⟨hB, f1, o1, x1⟩ := hz1
  try have u1_0 : σ1 29 21 = σ 29 21 := by first | exact o1 21 (by decide) | exact congrFun (f1 29 (by decide)) 21
  try have u1_1 : σ1 29 22 = σ 29 22 := by first | exact o1 22 (by decide) | exact congrFun (f1 29 (by decide)) 22
  try have u1_2 : σ1 29 36 = σ 29 36 := by first | exact o1 36 (by decide) | exact congrFun (f1 29 (by decide)) 36
  try have u1_3 : σ1 29 37 = σ 29 37 := by first | exact o1 37 (by decide) | exact congrFun (f1 29 (by decide)) 37
  try have u1_4 : σ1 29 38 = σ 29 38 := by first | exact o1 38 (by decide) | exact congrFun (f1 29 (by decide)) 38
  try have u1_5 : σ1 29 39 = σ 29 39 := by first | exact o1 39 (by decide) | exact congrFun (f1 29 (by decide)) 39
  try have u1_6 : σ1 29 40 = σ 29 40 := by first | exact o1 40 (by decide) | exact congrFun (f1 29 (by decide)) 40
  try have u1_7 : σ1 29 43 = σ 29 43 := by first | exact o1 43 (by decide) | exact congrFun (f1 29 (by decide)) 43
  refine pe_aload_n d_M_setLook_4 rfl ?_
  refine pe_bipush d_M_setLook_5 ?_
  refine pe_v1v d_M_setLook_7 c_M_253 i_M_put s_M_put rfl rfl (t_M_put hB (by omega) (by first | exact hB _ _ | exact hB0 _ _ | exact hBt _ _ | exact ⟨by omega, by omega⟩)) (fun σ7 hz7 => ?_)
  obtain ⟨hB, f7, o7, x7⟩ := hz7
  try have u7_0 : σ7 29 21 = σ1 29 21 := by first | exact o7 21 (by decide) | exact congrFun (f7 29 (by decide)) 21
  try have u7_1 : σ7 29 22 = σ1 29 22 := by first | exact o7 22 (by decide) | exact congrFun (f7 29 (by decide)) 22
  try have u7_2 : σ7 29 36 = σ1 29 36 := by first | exact o7 36 (by decide) | exact congrFun (f7 29 (by decide)) 36
  try have u7_3 : σ7 29 37 = σ1 29 37 := by first | exact o7 37 (by decide) | exact congrFun (f7 29 (by decide)) 37
  try have u7_4 : σ7 29 38 = σ1 29 38 := by first | exact o7 38 (by decide) | exact congrFun (f7 29 (by decide)) 38
  try have u7_5 : σ7 29 39 = σ1 29 39 := by first | exact o7 39 (by decide) | exact congrFun (f7 29 (by decide)) 39
  try have u7_6 : σ7 29 40 = σ1 29 40 := by first | exact o7 40 (by decide) | exact congrFun (f7 29 (by decide)) 40
  try have u7_7 : σ7 29 43 = σ1 29 43 := by first | exact o7 43 (by decide) | exact congrFun (f7 29 (by decide)) 43
  refine pe_iload_n d_M_setLook_10 rfl ?_
  refine pe_if_le (t := 36) d_M_setLook_11 (by first | exact hB _ _ | exact hB0 _ _ | exact hBt _ _ | exact ⟨by omega, by omega⟩) (fun h11 => ?_) (fun h11 => ?_)
  · skip
    refine pe_aload_n d_M_setLook_36 rfl ?_
    refine pe_bipush d_M_setLook_37 ?_
    refine pe_v1v d_M_setLook_39 c_M_253 i_M_put s_M_put rfl rfl (t_M_put hB (by omega) (by first | exact hB _ _ | exact hB0 _ _ | exact hBt _ _ | exact ⟨by omega, by omega⟩)) (fun σ39 hz39 => ?_)
    obtain ⟨hB, f39, o39, x39⟩ := hz39
    try have u39_0 : σ39 29 21 = σ7 29 21 := by first | exact o39 21 (by decide) | exact congrFun (f39 29 (by decide)) 21
    try have u39_1 : σ39 29 22 = σ7 29 22 := by first | exact o39 22 (by decide) | exact congrFun (f39 29 (by decide)) 22
    try have u39_2 : σ39 29 36 = σ7 29 36 := by first | exact o39 36 (by decide) | exact congrFun (f39 29 (by decide)) 36
    try have u39_3 : σ39 29 37 = σ7 29 37 := by first | exact o39 37 (by decide) | exact congrFun (f39 29 (by decide)) 37
    try have u39_4 : σ39 29 38 = σ7 29 38 := by first | exact o39 38 (by decide) | exact congrFun (f39 29 (by decide)) 38
    try have u39_5 : σ39 29 39 = σ7 29 39 := by first | exact o39 39 (by decide) | exact congrFun (f39 29 (by decide)) 39
    try have u39_6 : σ39 29 40 = σ7 29 40 := by first | exact o39 40 (by decide) | exact congrFun (f39 29 (by decide)) 40
    try have u39_7 : σ39 29 43 = σ7 29 43 := by first | exact o39 43 (by decide) | exact congrFun (f39 29 (by decide)) 43
    refine pe_aload_n d_M_setLook_42 rfl ?_
    refine pe_iload_n d_M_setLook_43 rfl ?_
    refine pe_putiT f_M_272 g_11_39 d_M_setLook_44 rfl rfl 39 rfl hB (by first | exact hB _ _ | exact hB0 _ _ | exact hBt _ _ | exact ⟨by omega, by omega⟩) (fun σ44 hB e44 o44 f44 => ?_)
    try have u44_0 : σ44 29 21 = σ39 29 21 := by first | exact o44 21 (by decide) | exact congrFun (f44 29 (by decide)) 21
    try have u44_1 : σ44 29 22 = σ39 29 22 := by first | exact o44 22 (by decide) | exact congrFun (f44 29 (by decide)) 22
    try have u44_2 : σ44 29 36 = σ39 29 36 := by first | exact o44 36 (by decide) | exact congrFun (f44 29 (by decide)) 36
    try have u44_3 : σ44 29 37 = σ39 29 37 := by first | exact o44 37 (by decide) | exact congrFun (f44 29 (by decide)) 37
    try have u44_4 : σ44 29 38 = σ39 29 38 := by first | exact o44 38 (by decide) | exact congrFun (f44 29 (by decide)) 38
    try have u44_5 : σ44 29 39 = σ39 29 39 := by first | exact o44 39 (by decide) | exact congrFun (f44 29 (by decide)) 39
    try have u44_6 : σ44 29 40 = σ39 29 40 := by first | exact o44 40 (by decide) | exact congrFun (f44 29 (by decide)) 40
    try have u44_7 : σ44 29 43 = σ39 29 43 := by first | exact o44 43 (by decide) | exact congrFun (f44 29 (by decide)) 43
    refine pe_rv d_M_setLook_47 ?_
    exact ⟨hB, (fun b hb => (f44 b (by simp at hb ⊢; try omega)).trans ((f39 b (by simp at hb ⊢; try omega)).trans ((f7 b (by simp at hb ⊢; try omega)).trans ((f1 b (by simp at hb ⊢; try omega)).trans (rfl))))), (fun j hj => (o44 j (by simp at hj ⊢; try omega)).trans ((o39 j (by simp at hj ⊢; try omega)).trans ((o7 j (by simp at hj ⊢; try omega)).trans ((o1 j (by simp at hj ⊢; try omega)).trans (rfl))))), by omega⟩
  · skip
    refine pe_aload_n d_M_setLook_14 rfl ?_
    refine pe_bipush d_M_setLook_15 ?_
    refine pe_v1v d_M_setLook_17 c_M_253 i_M_put s_M_put rfl rfl (t_M_put hB (by omega) (by first | exact hB _ _ | exact hB0 _ _ | exact hBt _ _ | exact ⟨by omega, by omega⟩)) (fun σ17 hz17 => ?_)
    obtain ⟨hB, f17, o17, x17⟩ := hz17
    try have u17_0 : σ17 29 21 = σ7 29 21 := by first | exact o17 21 (by decide) | exact congrFun (f17 29 (by decide)) 21
    try have u17_1 : σ17 29 22 = σ7 29 22 := by first | exact o17 22 (by decide) | exact congrFun (f17 29 (by decide)) 22
    try have u17_2 : σ17 29 36 = σ7 29 36 := by first | exact o17 36 (by decide) | exact congrFun (f17 29 (by decide)) 36
    try have u17_3 : σ17 29 37 = σ7 29 37 := by first | exact o17 37 (by decide) | exact congrFun (f17 29 (by decide)) 37
    try have u17_4 : σ17 29 38 = σ7 29 38 := by first | exact o17 38 (by decide) | exact congrFun (f17 29 (by decide)) 38
    try have u17_5 : σ17 29 39 = σ7 29 39 := by first | exact o17 39 (by decide) | exact congrFun (f17 29 (by decide)) 39
    try have u17_6 : σ17 29 40 = σ7 29 40 := by first | exact o17 40 (by decide) | exact congrFun (f17 29 (by decide)) 40
    try have u17_7 : σ17 29 43 = σ7 29 43 := by first | exact o17 43 (by decide) | exact congrFun (f17 29 (by decide)) 43
    refine pe_aload_n d_M_setLook_20 rfl ?_
    refine pe_iload_n d_M_setLook_21 rfl ?_
    refine pe_iconst d_M_setLook_22 ?_
    refine pe_icmp_ne (t := 31) d_M_setLook_23 (by first | exact hB _ _ | exact hB0 _ _ | exact hBt _ _ | exact ⟨by omega, by omega⟩) (by first | exact hB _ _ | exact hB0 _ _ | exact hBt _ _ | exact ⟨by omega, by omega⟩) (fun h23 => ?_) (fun h23 => ?_)
    · skip
      refine pe_bipush d_M_setLook_31 ?_
      refine pe_v1v d_M_setLook_33 c_M_253 i_M_put s_M_put rfl rfl (t_M_put hB (by omega) (by first | exact hB _ _ | exact hB0 _ _ | exact hBt _ _ | exact ⟨by omega, by omega⟩)) (fun σ33 hz33 => ?_)
      obtain ⟨hB, f33, o33, x33⟩ := hz33
      try have u33_0 : σ33 29 21 = σ17 29 21 := by first | exact o33 21 (by decide) | exact congrFun (f33 29 (by decide)) 21
      try have u33_1 : σ33 29 22 = σ17 29 22 := by first | exact o33 22 (by decide) | exact congrFun (f33 29 (by decide)) 22
      try have u33_2 : σ33 29 36 = σ17 29 36 := by first | exact o33 36 (by decide) | exact congrFun (f33 29 (by decide)) 36
      try have u33_3 : σ33 29 37 = σ17 29 37 := by first | exact o33 37 (by decide) | exact congrFun (f33 29 (by decide)) 37
      try have u33_4 : σ33 29 38 = σ17 29 38 := by first | exact o33 38 (by decide) | exact congrFun (f33 29 (by decide)) 38
      try have u33_5 : σ33 29 39 = σ17 29 39 := by first | exact o33 39 (by decide) | exact congrFun (f33 29 (by decide)) 39
      try have u33_6 : σ33 29 40 = σ17 29 40 := by first | exact o33 40 (by decide) | exact congrFun (f33 29 (by decide)) 40
      try have u33_7 : σ33 29 43 = σ17 29 43 := by first | exact o33 43 (by decide) | exact congrFun (f33 29 (by decide)) 43
      refine pe_aload_n d_M_setLook_36 rfl ?_
      refine pe_bipush d_M_setLook_37 ?_
      refine pe_v1v d_M_setLook_39 c_M_253 i_M_put s_M_put rfl rfl (t_M_put hB (by omega) (by first | exact hB _ _ | exact hB0 _ _ | exact hBt _ _ | exact ⟨by omega, by omega⟩)) (fun σ39 hz39 => ?_)
      obtain ⟨hB, f39, o39, x39⟩ := hz39
      try have u39_0 : σ39 29 21 = σ33 29 21 := by first | exact o39 21 (by decide) | exact congrFun (f39 29 (by decide)) 21
      try have u39_1 : σ39 29 22 = σ33 29 22 := by first | exact o39 22 (by decide) | exact congrFun (f39 29 (by decide)) 22
      try have u39_2 : σ39 29 36 = σ33 29 36 := by first | exact o39 36 (by decide) | exact congrFun (f39 29 (by decide)) 36
      try have u39_3 : σ39 29 37 = σ33 29 37 := by first | exact o39 37 (by decide) | exact congrFun (f39 29 (by decide)) 37
      try have u39_4 : σ39 29 38 = σ33 29 38 := by first | exact o39 38 (by decide) | exact congrFun (f39 29 (by decide)) 38
      try have u39_5 : σ39 29 39 = σ33 29 39 := by first | exact o39 39 (by decide) | exact congrFun (f39 29 (by decide)) 39
      try have u39_6 : σ39 29 40 = σ33 29 40 := by first | exact o39 40 (by decide) | exact congrFun (f39 29 (by decide)) 40
      try have u39_7 : σ39 29 43 = σ33 29 43 := by first | exact o39 43 (by decide) | exact congrFun (f39 29 (by decide)) 43
      refine pe_aload_n d_M_setLook_42 rfl ?_
      refine pe_iload_n d_M_setLook_43 rfl ?_
      refine pe_putiT f_M_272 g_11_39 d_M_setLook_44 rfl rfl 39 rfl hB (by first | exact hB _ _ | exact hB0 _ _ | exact hBt _ _ | exact ⟨by omega, by omega⟩) (fun σ44 hB e44 o44 f44 => ?_)
      try have u44_0 : σ44 29 21 = σ39 29 21 := by first | exact o44 21 (by decide) | exact congrFun (f44 29 (by decide)) 21
      try have u44_1 : σ44 29 22 = σ39 29 22 := by first | exact o44 22 (by decide) | exact congrFun (f44 29 (by decide)) 22
      try have u44_2 : σ44 29 36 = σ39 29 36 := by first | exact o44 36 (by decide) | exact congrFun (f44 29 (by decide)) 36
      try have u44_3 : σ44 29 37 = σ39 29 37 := by first | exact o44 37 (by decide) | exact congrFun (f44 29 (by decide)) 37
      try have u44_4 : σ44 29 38 = σ39 29 38 := by first | exact o44 38 (by decide) | exact congrFun (f44 29 (by decide)) 38
      try have u44_5 : σ44 29 39 = σ39 29 39 := by first | exact o44 39 (by decide) | exact congrFun (f44 29 (by decide)) 39
      try have u44_6 : σ44 29 40 = σ39 29 40 := by first | exact o44 40 (by decide) | exact congrFun (f44 29 (by decide)) 40
      try have u44_7 : σ44 29 43 = σ39 29 43 := by first | exact o44 43 (by decide) | exact congrFun (f44 29 (by decide)) 43
      refine pe_rv d_M_setLook_47 ?_
      exact ⟨hB, (fun b hb => (f44 b (by simp at hb ⊢; try omega)).trans ((f39 b (by simp at hb ⊢; try omega)).trans ((f33 b (by simp at hb ⊢; try omega)).trans ((f17 b (by simp at hb ⊢; try omega)).trans ((f7 b (by simp at hb ⊢; try omega)).trans ((f1 b (by simp at hb ⊢; try omega)).trans (rfl))))))), (fun j hj => (o44 j (by simp at hj ⊢; try omega)).trans ((o39 j (by simp at hj ⊢; try omega)).trans ((o33 j (by simp at hj ⊢; try omega)).trans ((o17 j (by simp at hj ⊢; try omega)).trans ((o7 j (by simp at hj ⊢; try omega)).trans ((o1 j (by simp at hj ⊢; try omega)).trans (rfl))))))), by omega⟩
    · skip
      refine pe_bipush d_M_setLook_26 ?_
      refine pe_goto (t := 33) d_M_setLook_28 ?_
      refine pe_v1v d_M_setLook_33 c_M_253 i_M_put s_M_put rfl rfl (t_M_put hB (by omega) (by first | exact hB _ _ | exact hB0 _ _ | exact hBt _ _ | exact ⟨by omega, by omega⟩)) (fun σ33 hz33 => ?_)
      obtain ⟨hB, f33, o33, x33⟩ := hz33
      try have u33_0 : σ33 29 21 = σ17 29 21 := by first | exact o33 21 (by decide) | exact congrFun (f33 29 (by decide)) 21
      try have u33_1 : σ33 29 22 = σ17 29 22 := by first | exact o33 22 (by decide) | exact congrFun (f33 29 (by decide)) 22
      try have u33_2 : σ33 29 36 = σ17 29 36 := by first | exact o33 36 (by decide) | exact congrFun (f33 29 (by decide)) 36
      try have u33_3 : σ33 29 37 = σ17 29 37 := by first | exact o33 37 (by decide) | exact congrFun (f33 29 (by decide)) 37
      try have u33_4 : σ33 29 38 = σ17 29 38 := by first | exact o33 38 (by decide) | exact congrFun (f33 29 (by decide)) 38
      try have u33_5 : σ33 29 39 = σ17 29 39 := by first | exact o33 39 (by decide) | exact congrFun (f33 29 (by decide)) 39
      try have u33_6 : σ33 29 40 = σ17 29 40 := by first | exact o33 40 (by decide) | exact congrFun (f33 29 (by decide)) 40
      try have u33_7 : σ33 29 43 = σ17 29 43 := by first | exact o33 43 (by decide) | exact congrFun (f33 29 (by decide)) 43
      refine pe_aload_n d_M_setLook_36 rfl ?_
      refine pe_bipush d_M_setLook_37 ?_
      refine pe_v1v d_M_setLook_39 c_M_253 i_M_put s_M_put rfl rfl (t_M_put hB (by omega) (by first | exact hB _ _ | exact hB0 _ _ | exact hBt _ _ | exact ⟨by omega, by omega⟩)) (fun σ39 hz39 => ?_)
      obtain ⟨hB, f39, o39, x39⟩ := hz39
      try have u39_0 : σ39 29 21 = σ33 29 21 := by first | exact o39 21 (by decide) | exact congrFun (f39 29 (by decide)) 21
      try have u39_1 : σ39 29 22 = σ33 29 22 := by first | exact o39 22 (by decide) | exact congrFun (f39 29 (by decide)) 22
      try have u39_2 : σ39 29 36 = σ33 29 36 := by first | exact o39 36 (by decide) | exact congrFun (f39 29 (by decide)) 36
      try have u39_3 : σ39 29 37 = σ33 29 37 := by first | exact o39 37 (by decide) | exact congrFun (f39 29 (by decide)) 37
      try have u39_4 : σ39 29 38 = σ33 29 38 := by first | exact o39 38 (by decide) | exact congrFun (f39 29 (by decide)) 38
      try have u39_5 : σ39 29 39 = σ33 29 39 := by first | exact o39 39 (by decide) | exact congrFun (f39 29 (by decide)) 39
      try have u39_6 : σ39 29 40 = σ33 29 40 := by first | exact o39 40 (by decide) | exact congrFun (f39 29 (by decide)) 40
      try have u39_7 : σ39 29 43 = σ33 29 43 := by first | exact o39 43 (by decide) | exact congrFun (f39 29 (by decide)) 43
      refine pe_aload_n d_M_setLook_42 rfl ?_
      refine pe_iload_n d_M_setLook_43 rfl ?_
      refine pe_putiT f_M_272 g_11_39 d_M_setLook_44 rfl rfl 39 rfl hB (by first | exact hB _ _ | exact hB0 _ _ | exact hBt _ _ | exact ⟨by omega, by omega⟩) (fun σ44 hB e44 o44 f44 => ?_)
      try have u44_0 : σ44 29 21 = σ39 29 21 := by first | exact o44 21 (by decide) | exact congrFun (f44 29 (by decide)) 21
      try have u44_1 : σ44 29 22 = σ39 29 22 := by first | exact o44 22 (by decide) | exact congrFun (f44 29 (by decide)) 22
      try have u44_2 : σ44 29 36 = σ39 29 36 := by first | exact o44 36 (by decide) | exact congrFun (f44 29 (by decide)) 36
      try have u44_3 : σ44 29 37 = σ39 29 37 := by first | exact o44 37 (by decide) | exact congrFun (f44 29 (by decide)) 37
      try have u44_4 : σ44 29 38 = σ39 29 38 := by first | exact o44 38 (by decide) | exact congrFun (f44 29 (by decide)) 38
      try have u44_5 : σ44 29 39 = σ39 29 39 := by first | exact o44 39 (by decide) | exact congrFun (f44 29 (by decide)) 39
      try have u44_6 : σ44 29 40 = σ39 29 40 := by first | exact o44 40 (by decide) | exact congrFun (f44 29 (by decide)) 40
      try have u44_7 : σ44 29 43 = σ39 29 43 := by first | exact o44 43 (by decide) | exact congrFun (f44 29 (by decide)) 43
      refine pe_rv d_M_setLook_47 ?_
      exact ⟨hB, (fun b hb => (f44 b (by simp at hb ⊢; try omega)).trans ((f39 b (by simp at hb ⊢; try omega)).trans ((f33 b (by simp at hb ⊢; try omega)).trans ((f17 b (by simp at hb ⊢; try omega)).trans ((f7 b (by simp at hb ⊢; try omega)).trans ((f1 b (by simp at hb ⊢; try omega)).trans (rfl))))))), (fun j hj => (o44 j (by simp at hj ⊢; try omega)).trans ((o39 j (by simp at hj ⊢; try omega)).trans ((o33 j (by simp at hj ⊢; try omega)).trans ((o17 j (by simp at hj ⊢; try omega)).trans ((o7 j (by simp at hj ⊢; try omega)).trans ((o1 j (by simp at hj ⊢; try omega)).trans (rfl))))))), by omega⟩
theorem t_M_blankHalf {σ : pe_H} {a : Int} (hB : pe_B σ) (hS : pe_SW (σ 29) (σ 42)) (ha : 0 ≤ a ∧ a < 192) (hw : pe_wi (σ 42 a % 65536) → a + 1 < 192) : pe_M m_M_blankHalf [pe_r 29, pe_i a] σ (pe_qv (fun σ' => pe_B σ' ∧ (∀ b, b ∉ [42, 43] → σ' b = σ b) ∧ pe_SW (σ' 29) (σ' 42))) := by
  refine pe_in0 (lv := [some (pe_r 29), some (pe_i a)]) ?_
  have hB0 := hB
  have hn := hS.1 a
  have hn2 := hB 42 a
  have h00 : a = 0 → σ 42 a ≠ 0 := fun e => by rw [e]; exact hS.2.1
  refine pe_aload_n d_M_blankHalf_0 rfl ?_
  refine pe_getr f_M_56 d_M_blankHalf_1 rfl rfl ?_
  refine pe_iload_n d_M_blankHalf_4 rfl ?_
  refine pe_iald d_M_blankHalf_5 rfl (by omega) (by omega) ?_
  refine pe_if_ne (t := 31) d_M_blankHalf_6 (by first | exact hB _ _ | exact hB0 _ _ | exact hBt _ _ | exact ⟨by omega, by omega⟩) (fun h6 => ?_) (fun h6 => ?_)
  · skip
    refine pe_aload_n d_M_blankHalf_31 rfl ?_
    refine pe_getr f_M_56 d_M_blankHalf_32 rfl rfl ?_
    refine pe_iload_n d_M_blankHalf_35 rfl ?_
    refine pe_iald d_M_blankHalf_36 rfl (by omega) (by omega) ?_
    refine pe_ldcw q_M_256 d_M_blankHalf_37 (z := 65535) rfl ?_
    refine pe_iand d_M_blankHalf_40 (pe_and 16 65536 (by omega) (by omega)) ?_
    refine pe_s1p d_M_blankHalf_41 c_M_97 z_M_isWide (t_M_isWide (by first | exact hB _ _ | exact hB0 _ _ | exact hBt _ _ | exact ⟨by omega, by omega⟩)) (fun z41 hz41 => ?_)
    refine pe_if_eq (t := 66) d_M_blankHalf_44 (by first | exact hB _ _ | exact hB0 _ _ | exact hBt _ _ | exact ⟨by omega, by omega⟩) (fun h44 => ?_) (fun h44 => ?_)
    · skip
      refine pe_rv d_M_blankHalf_66 ?_
      first | exact ⟨hB, (fun b hb => rfl), hS⟩ | exact ⟨hB, (fun b hb => rfl), pe_SW_to hS (congrFun (rfl) 21) (congrFun (rfl) 22) (by first | exact f27 42 (by decide) | exact f65 42 (by decide))⟩
    · skip
      have hw1 := hw (hz41.2.mp (by omega))
      refine pe_aload_n d_M_blankHalf_47 rfl ?_
      refine pe_getr f_M_56 d_M_blankHalf_48 rfl rfl ?_
      refine pe_iload_n d_M_blankHalf_51 rfl ?_
      refine pe_iconst d_M_blankHalf_52 ?_
      refine pe_iadd d_M_blankHalf_53 ?_
      refine pe_bipush d_M_blankHalf_54 ?_
      refine pe_iastT d_M_blankHalf_56 rfl (by omega) (by omega) hB (by first | exact hB _ _ | exact hB0 _ _ | exact hBt _ _ | exact ⟨by omega, by omega⟩) (fun σ56 hB e56 o56 f56 => ?_)
      try have u56_0 : σ56 29 21 = σ 29 21 := by first | exact o56 21 (by decide) | exact congrFun (f56 29 (by decide)) 21
      try have u56_1 : σ56 29 22 = σ 29 22 := by first | exact o56 22 (by decide) | exact congrFun (f56 29 (by decide)) 22
      try have u56_2 : σ56 29 36 = σ 29 36 := by first | exact o56 36 (by decide) | exact congrFun (f56 29 (by decide)) 36
      try have u56_3 : σ56 29 37 = σ 29 37 := by first | exact o56 37 (by decide) | exact congrFun (f56 29 (by decide)) 37
      try have u56_4 : σ56 29 38 = σ 29 38 := by first | exact o56 38 (by decide) | exact congrFun (f56 29 (by decide)) 38
      try have u56_5 : σ56 29 39 = σ 29 39 := by first | exact o56 39 (by decide) | exact congrFun (f56 29 (by decide)) 39
      try have u56_6 : σ56 29 40 = σ 29 40 := by first | exact o56 40 (by decide) | exact congrFun (f56 29 (by decide)) 40
      try have u56_7 : σ56 29 43 = σ 29 43 := by first | exact o56 43 (by decide) | exact congrFun (f56 29 (by decide)) 43
      have hS : pe_SW (σ 29) (σ56 42) := pe_SW_up hS e56 o56 (by omega) (by omega) (fun z => absurd z (pe_nw (by omega)))
      refine pe_aload_n d_M_blankHalf_57 rfl ?_
      refine pe_getr f_M_59 d_M_blankHalf_58 rfl rfl ?_
      refine pe_iload_n d_M_blankHalf_61 rfl ?_
      refine pe_iconst d_M_blankHalf_62 ?_
      refine pe_iadd d_M_blankHalf_63 ?_
      refine pe_iconst d_M_blankHalf_64 ?_
      refine pe_iastT d_M_blankHalf_65 rfl (by omega) (by omega) hB (by first | exact hB _ _ | exact hB0 _ _ | exact hBt _ _ | exact ⟨by omega, by omega⟩) (fun σ65 hB e65 o65 f65 => ?_)
      try have u65_0 : σ65 29 21 = σ56 29 21 := by first | exact o65 21 (by decide) | exact congrFun (f65 29 (by decide)) 21
      try have u65_1 : σ65 29 22 = σ56 29 22 := by first | exact o65 22 (by decide) | exact congrFun (f65 29 (by decide)) 22
      try have u65_2 : σ65 29 36 = σ56 29 36 := by first | exact o65 36 (by decide) | exact congrFun (f65 29 (by decide)) 36
      try have u65_3 : σ65 29 37 = σ56 29 37 := by first | exact o65 37 (by decide) | exact congrFun (f65 29 (by decide)) 37
      try have u65_4 : σ65 29 38 = σ56 29 38 := by first | exact o65 38 (by decide) | exact congrFun (f65 29 (by decide)) 38
      try have u65_5 : σ65 29 39 = σ56 29 39 := by first | exact o65 39 (by decide) | exact congrFun (f65 29 (by decide)) 39
      try have u65_6 : σ65 29 40 = σ56 29 40 := by first | exact o65 40 (by decide) | exact congrFun (f65 29 (by decide)) 40
      try have u65_7 : σ65 29 43 = σ56 29 43 := by first | exact o65 43 (by decide) | exact congrFun (f65 29 (by decide)) 43
      refine pe_rv d_M_blankHalf_66 ?_
      first | exact ⟨hB, (fun b hb => (f65 b (by simp at hb ⊢; try omega)).trans ((f56 b (by simp at hb ⊢; try omega)).trans (rfl))), hS⟩ | exact ⟨hB, (fun b hb => (f65 b (by simp at hb ⊢; try omega)).trans ((f56 b (by simp at hb ⊢; try omega)).trans (rfl))), pe_SW_to hS (congrFun ((f65 29 (by decide)).trans ((f56 29 (by decide)).trans (rfl))) 21) (congrFun ((f65 29 (by decide)).trans ((f56 29 (by decide)).trans (rfl))) 22) (by first | exact f27 42 (by decide) | exact f65 42 (by decide))⟩
  · skip
    refine pe_aload_n d_M_blankHalf_9 rfl ?_
    refine pe_getr f_M_56 d_M_blankHalf_10 rfl rfl ?_
    refine pe_iload_n d_M_blankHalf_13 rfl ?_
    refine pe_iconst d_M_blankHalf_14 ?_
    refine pe_isub d_M_blankHalf_15 ?_
    refine pe_bipush d_M_blankHalf_16 ?_
    refine pe_iastT d_M_blankHalf_18 rfl (by omega) (by omega) hB (by first | exact hB _ _ | exact hB0 _ _ | exact hBt _ _ | exact ⟨by omega, by omega⟩) (fun σ18 hB e18 o18 f18 => ?_)
    try have u18_0 : σ18 29 21 = σ 29 21 := by first | exact o18 21 (by decide) | exact congrFun (f18 29 (by decide)) 21
    try have u18_1 : σ18 29 22 = σ 29 22 := by first | exact o18 22 (by decide) | exact congrFun (f18 29 (by decide)) 22
    try have u18_2 : σ18 29 36 = σ 29 36 := by first | exact o18 36 (by decide) | exact congrFun (f18 29 (by decide)) 36
    try have u18_3 : σ18 29 37 = σ 29 37 := by first | exact o18 37 (by decide) | exact congrFun (f18 29 (by decide)) 37
    try have u18_4 : σ18 29 38 = σ 29 38 := by first | exact o18 38 (by decide) | exact congrFun (f18 29 (by decide)) 38
    try have u18_5 : σ18 29 39 = σ 29 39 := by first | exact o18 39 (by decide) | exact congrFun (f18 29 (by decide)) 39
    try have u18_6 : σ18 29 40 = σ 29 40 := by first | exact o18 40 (by decide) | exact congrFun (f18 29 (by decide)) 40
    try have u18_7 : σ18 29 43 = σ 29 43 := by first | exact o18 43 (by decide) | exact congrFun (f18 29 (by decide)) 43
    have hS : pe_SW (σ 29) (σ18 42) := pe_SW_up hS e18 o18 (by omega) (by omega) (fun z => absurd z (pe_nw (by omega)))
    refine pe_aload_n d_M_blankHalf_19 rfl ?_
    refine pe_getr f_M_59 d_M_blankHalf_20 rfl rfl ?_
    refine pe_iload_n d_M_blankHalf_23 rfl ?_
    refine pe_iconst d_M_blankHalf_24 ?_
    refine pe_isub d_M_blankHalf_25 ?_
    refine pe_iconst d_M_blankHalf_26 ?_
    refine pe_iastT d_M_blankHalf_27 rfl (by omega) (by omega) hB (by first | exact hB _ _ | exact hB0 _ _ | exact hBt _ _ | exact ⟨by omega, by omega⟩) (fun σ27 hB e27 o27 f27 => ?_)
    try have u27_0 : σ27 29 21 = σ18 29 21 := by first | exact o27 21 (by decide) | exact congrFun (f27 29 (by decide)) 21
    try have u27_1 : σ27 29 22 = σ18 29 22 := by first | exact o27 22 (by decide) | exact congrFun (f27 29 (by decide)) 22
    try have u27_2 : σ27 29 36 = σ18 29 36 := by first | exact o27 36 (by decide) | exact congrFun (f27 29 (by decide)) 36
    try have u27_3 : σ27 29 37 = σ18 29 37 := by first | exact o27 37 (by decide) | exact congrFun (f27 29 (by decide)) 37
    try have u27_4 : σ27 29 38 = σ18 29 38 := by first | exact o27 38 (by decide) | exact congrFun (f27 29 (by decide)) 38
    try have u27_5 : σ27 29 39 = σ18 29 39 := by first | exact o27 39 (by decide) | exact congrFun (f27 29 (by decide)) 39
    try have u27_6 : σ27 29 40 = σ18 29 40 := by first | exact o27 40 (by decide) | exact congrFun (f27 29 (by decide)) 40
    try have u27_7 : σ27 29 43 = σ18 29 43 := by first | exact o27 43 (by decide) | exact congrFun (f27 29 (by decide)) 43
    refine pe_goto (t := 66) d_M_blankHalf_28 ?_
    refine pe_rv d_M_blankHalf_66 ?_
    first | exact ⟨hB, (fun b hb => (f27 b (by simp at hb ⊢; try omega)).trans ((f18 b (by simp at hb ⊢; try omega)).trans (rfl))), hS⟩ | exact ⟨hB, (fun b hb => (f27 b (by simp at hb ⊢; try omega)).trans ((f18 b (by simp at hb ⊢; try omega)).trans (rfl))), pe_SW_to hS (congrFun ((f27 29 (by decide)).trans ((f18 29 (by decide)).trans (rfl))) 21) (congrFun ((f27 29 (by decide)).trans ((f18 29 (by decide)).trans (rfl))) 22) (by first | exact f27 42 (by decide) | exact f65 42 (by decide))⟩
theorem t_M_go {σ : pe_H} {r c s : Int} (hB : pe_B σ) (hW : 1 ≤ σ 29 21 ∧ σ 29 21 ≤ 24 ∧ 1 ≤ σ 29 22 ∧ σ 29 22 ≤ 8) (hp : 0 ≤ σ 29 36 ∧ σ 29 36 < σ 29 22 ∧ 0 ≤ σ 29 37 ∧ σ 29 37 < σ 29 21 ∧ -1 ≤ σ 29 40 ∧ σ 29 40 < 192) (hs : 0 ≤ σ 29 43 ∧ σ 29 43 + 8 ≤ 6000) (hr : 0 ≤ r ∧ r < σ 29 22) (hc : 0 ≤ c ∧ c < σ 29 21) (hq : pe_R s) : pe_M m_M_go [pe_r 29, pe_i r, pe_i c, pe_i s] σ (pe_qv (fun σ' => pe_B σ' ∧ (∀ b, b ∉ [29, 46] → σ' b = σ b) ∧ (∀ j, j ∉ ([36, 37, 38, 40, 43] : List Int) → σ' 29 j = σ 29 j) ∧ (σ' 29 36 = r ∧ σ' 29 37 = c ∧ σ' 29 38 = 0 ∧ -1 ≤ σ' 29 40 ∧ σ' 29 40 < 192) ∧ (σ 29 43 ≤ σ' 29 43 ∧ σ' 29 43 ≤ σ 29 43 + 8))) := by
  refine pe_in0 (lv := [some (pe_r 29), some (pe_i r), some (pe_i c), some (pe_i s), none]) ?_
  have hB0 := hB
  have J165 : ∀ x : Int × pe_H, (pe_B x.2 ∧ (∀ b, b ∉ [29, 46] → x.2 b = σ b) ∧ (∀ j, j ∉ ([43] : List Int) → x.2 29 j = σ 29 j) ∧ (σ 29 43 ≤ x.2 29 43 ∧ x.2 29 43 ≤ σ 29 43 + 8)) → pe_G m_M_go 165 [some (pe_r 29), some (pe_i r), some (pe_i c), some (pe_i s), some (pe_i x.1)] [] x.2 (pe_qv (fun σ' => pe_B σ' ∧ (∀ b, b ∉ [29, 46] → σ' b = σ b) ∧ (∀ j, j ∉ ([36, 37, 38, 40, 43] : List Int) → σ' 29 j = σ 29 j) ∧ (σ' 29 36 = r ∧ σ' 29 37 = c ∧ σ' 29 38 = 0 ∧ -1 ≤ σ' 29 40 ∧ σ' 29 40 < 192) ∧ (σ 29 43 ≤ σ' 29 43 ∧ σ' 29 43 ≤ σ 29 43 + 8))) := by
    intro x hI
    obtain ⟨x4, τ⟩ := x
    dsimp only at hI ⊢
    obtain ⟨hB, hfr, hX⟩ := hI
    obtain ⟨hor, hX⟩ := hX
    have w21 : τ 29 21 = σ 29 21 := hor 21 (by decide)
    have w22 : τ 29 22 = σ 29 22 := hor 22 (by decide)
    have w36 : τ 29 36 = σ 29 36 := hor 36 (by decide)
    have w37 : τ 29 37 = σ 29 37 := hor 37 (by decide)
    have w38 : τ 29 38 = σ 29 38 := hor 38 (by decide)
    have w39 : τ 29 39 = σ 29 39 := hor 39 (by decide)
    have w40 : τ 29 40 = σ 29 40 := hor 40 (by decide)
    have hBt := hB
    refine pe_aload_n d_M_go_165 rfl ?_
    refine pe_iload_n d_M_go_166 rfl ?_
    refine pe_putiT f_M_263 g_11_36 d_M_go_167 rfl rfl 36 rfl hB (by first | exact hB _ _ | exact hB0 _ _ | exact hBt _ _ | exact ⟨by omega, by omega⟩) (fun σ167 hB e167 o167 f167 => ?_)
    try have u167_0 : σ167 29 21 = τ 29 21 := by first | exact o167 21 (by decide) | exact congrFun (f167 29 (by decide)) 21
    try have u167_1 : σ167 29 22 = τ 29 22 := by first | exact o167 22 (by decide) | exact congrFun (f167 29 (by decide)) 22
    try have u167_2 : σ167 29 36 = τ 29 36 := by first | exact o167 36 (by decide) | exact congrFun (f167 29 (by decide)) 36
    try have u167_3 : σ167 29 37 = τ 29 37 := by first | exact o167 37 (by decide) | exact congrFun (f167 29 (by decide)) 37
    try have u167_4 : σ167 29 38 = τ 29 38 := by first | exact o167 38 (by decide) | exact congrFun (f167 29 (by decide)) 38
    try have u167_5 : σ167 29 39 = τ 29 39 := by first | exact o167 39 (by decide) | exact congrFun (f167 29 (by decide)) 39
    try have u167_6 : σ167 29 40 = τ 29 40 := by first | exact o167 40 (by decide) | exact congrFun (f167 29 (by decide)) 40
    try have u167_7 : σ167 29 43 = τ 29 43 := by first | exact o167 43 (by decide) | exact congrFun (f167 29 (by decide)) 43
    refine pe_aload_n d_M_go_170 rfl ?_
    refine pe_iload_n d_M_go_171 rfl ?_
    refine pe_putiT f_M_266 g_11_37 d_M_go_172 rfl rfl 37 rfl hB (by first | exact hB _ _ | exact hB0 _ _ | exact hBt _ _ | exact ⟨by omega, by omega⟩) (fun σ172 hB e172 o172 f172 => ?_)
    try have u172_0 : σ172 29 21 = σ167 29 21 := by first | exact o172 21 (by decide) | exact congrFun (f172 29 (by decide)) 21
    try have u172_1 : σ172 29 22 = σ167 29 22 := by first | exact o172 22 (by decide) | exact congrFun (f172 29 (by decide)) 22
    try have u172_2 : σ172 29 36 = σ167 29 36 := by first | exact o172 36 (by decide) | exact congrFun (f172 29 (by decide)) 36
    try have u172_3 : σ172 29 37 = σ167 29 37 := by first | exact o172 37 (by decide) | exact congrFun (f172 29 (by decide)) 37
    try have u172_4 : σ172 29 38 = σ167 29 38 := by first | exact o172 38 (by decide) | exact congrFun (f172 29 (by decide)) 38
    try have u172_5 : σ172 29 39 = σ167 29 39 := by first | exact o172 39 (by decide) | exact congrFun (f172 29 (by decide)) 39
    try have u172_6 : σ172 29 40 = σ167 29 40 := by first | exact o172 40 (by decide) | exact congrFun (f172 29 (by decide)) 40
    try have u172_7 : σ172 29 43 = σ167 29 43 := by first | exact o172 43 (by decide) | exact congrFun (f172 29 (by decide)) 43
    refine pe_aload_n d_M_go_175 rfl ?_
    refine pe_iconst d_M_go_176 ?_
    refine pe_putzT f_M_260 g_11_38 d_M_go_177 rfl rfl (by first | exact Or.inl rfl | exact Or.inr rfl | omega) 38 rfl hB (fun σ177 hB e177 o177 f177 => ?_)
    try have u177_0 : σ177 29 21 = σ172 29 21 := by first | exact o177 21 (by decide) | exact congrFun (f177 29 (by decide)) 21
    try have u177_1 : σ177 29 22 = σ172 29 22 := by first | exact o177 22 (by decide) | exact congrFun (f177 29 (by decide)) 22
    try have u177_2 : σ177 29 36 = σ172 29 36 := by first | exact o177 36 (by decide) | exact congrFun (f177 29 (by decide)) 36
    try have u177_3 : σ177 29 37 = σ172 29 37 := by first | exact o177 37 (by decide) | exact congrFun (f177 29 (by decide)) 37
    try have u177_4 : σ177 29 38 = σ172 29 38 := by first | exact o177 38 (by decide) | exact congrFun (f177 29 (by decide)) 38
    try have u177_5 : σ177 29 39 = σ172 29 39 := by first | exact o177 39 (by decide) | exact congrFun (f177 29 (by decide)) 39
    try have u177_6 : σ177 29 40 = σ172 29 40 := by first | exact o177 40 (by decide) | exact congrFun (f177 29 (by decide)) 40
    try have u177_7 : σ177 29 43 = σ172 29 43 := by first | exact o177 43 (by decide) | exact congrFun (f177 29 (by decide)) 43
    refine pe_aload_n d_M_go_180 rfl ?_
    refine pe_iconst d_M_go_181 ?_
    refine pe_putiT f_M_68 g_11_40 d_M_go_182 rfl rfl 40 rfl hB (by first | exact hB _ _ | exact hB0 _ _ | exact hBt _ _ | exact ⟨by omega, by omega⟩) (fun σ182 hB e182 o182 f182 => ?_)
    try have u182_0 : σ182 29 21 = σ177 29 21 := by first | exact o182 21 (by decide) | exact congrFun (f182 29 (by decide)) 21
    try have u182_1 : σ182 29 22 = σ177 29 22 := by first | exact o182 22 (by decide) | exact congrFun (f182 29 (by decide)) 22
    try have u182_2 : σ182 29 36 = σ177 29 36 := by first | exact o182 36 (by decide) | exact congrFun (f182 29 (by decide)) 36
    try have u182_3 : σ182 29 37 = σ177 29 37 := by first | exact o182 37 (by decide) | exact congrFun (f182 29 (by decide)) 37
    try have u182_4 : σ182 29 38 = σ177 29 38 := by first | exact o182 38 (by decide) | exact congrFun (f182 29 (by decide)) 38
    try have u182_5 : σ182 29 39 = σ177 29 39 := by first | exact o182 39 (by decide) | exact congrFun (f182 29 (by decide)) 39
    try have u182_6 : σ182 29 40 = σ177 29 40 := by first | exact o182 40 (by decide) | exact congrFun (f182 29 (by decide)) 40
    try have u182_7 : σ182 29 43 = σ177 29 43 := by first | exact o182 43 (by decide) | exact congrFun (f182 29 (by decide)) 43
    refine pe_rv d_M_go_185 ?_
    exact ⟨hB, (fun b hb => (f182 b (by simp at hb ⊢; try omega)).trans ((f177 b (by simp at hb ⊢; try omega)).trans ((f172 b (by simp at hb ⊢; try omega)).trans ((f167 b (by simp at hb ⊢; try omega)).trans (hfr b (by simp at hb ⊢; try omega)))))), (fun j hj => (o182 j (by simp at hj ⊢; try omega)).trans ((o177 j (by simp at hj ⊢; try omega)).trans ((o172 j (by simp at hj ⊢; try omega)).trans ((o167 j (by simp at hj ⊢; try omega)).trans (hor j (by simp at hj ⊢; try omega)))))), by omega, by omega⟩
  have J159 : ∀ x4 : Int, (x4 = 0 ∨ x4 = 1) → pe_G m_M_go 159 [some (pe_r 29), some (pe_i r), some (pe_i c), some (pe_i s), some (pe_i x4)] [] σ (pe_qv (fun σ' => pe_B σ' ∧ (∀ b, b ∉ [29, 46] → σ' b = σ b) ∧ (∀ j, j ∉ ([36, 37, 38, 40, 43] : List Int) → σ' 29 j = σ 29 j) ∧ (σ' 29 36 = r ∧ σ' 29 37 = c ∧ σ' 29 38 = 0 ∧ -1 ≤ σ' 29 40 ∧ σ' 29 40 < 192) ∧ (σ 29 43 ≤ σ' 29 43 ∧ σ' 29 43 ≤ σ 29 43 + 8))) := by
    intro x4 hI
    refine pe_aload_n d_M_go_159 rfl ?_
    refine pe_iload_n d_M_go_160 rfl ?_
    refine pe_iload_n d_M_go_161 rfl ?_
    refine pe_v2v d_M_go_162 c_M_281 i_M_sendPlace s_M_sendPlace rfl rfl (t_M_sendPlace hB (by omega) (by omega) (by omega)) (fun σ162 hz162 => ?_)
    obtain ⟨hB, f162, o162, x162⟩ := hz162
    try have u162_0 : σ162 29 21 = σ 29 21 := by first | exact o162 21 (by decide) | exact congrFun (f162 29 (by decide)) 21
    try have u162_1 : σ162 29 22 = σ 29 22 := by first | exact o162 22 (by decide) | exact congrFun (f162 29 (by decide)) 22
    try have u162_2 : σ162 29 36 = σ 29 36 := by first | exact o162 36 (by decide) | exact congrFun (f162 29 (by decide)) 36
    try have u162_3 : σ162 29 37 = σ 29 37 := by first | exact o162 37 (by decide) | exact congrFun (f162 29 (by decide)) 37
    try have u162_4 : σ162 29 38 = σ 29 38 := by first | exact o162 38 (by decide) | exact congrFun (f162 29 (by decide)) 38
    try have u162_5 : σ162 29 39 = σ 29 39 := by first | exact o162 39 (by decide) | exact congrFun (f162 29 (by decide)) 39
    try have u162_6 : σ162 29 40 = σ 29 40 := by first | exact o162 40 (by decide) | exact congrFun (f162 29 (by decide)) 40
    try have u162_7 : σ162 29 43 = σ 29 43 := by first | exact o162 43 (by decide) | exact congrFun (f162 29 (by decide)) 43
    exact J165 (_, _) ⟨hB, (fun b hb => (f162 b (by simp at hb ⊢; try omega)).trans (rfl)), (fun j hj => (o162 j (by simp at hj ⊢; try omega)).trans (rfl)), by (try dsimp only); omega⟩
  have J130 : ∀ x4 : Int, (x4 = 0 ∨ x4 = 1) → pe_G m_M_go 130 [some (pe_r 29), some (pe_i r), some (pe_i c), some (pe_i s), some (pe_i x4)] [] σ (pe_qv (fun σ' => pe_B σ' ∧ (∀ b, b ∉ [29, 46] → σ' b = σ b) ∧ (∀ j, j ∉ ([36, 37, 38, 40, 43] : List Int) → σ' 29 j = σ 29 j) ∧ (σ' 29 36 = r ∧ σ' 29 37 = c ∧ σ' 29 38 = 0 ∧ -1 ≤ σ' 29 40 ∧ σ' 29 40 < 192) ∧ (σ 29 43 ≤ σ' 29 43 ∧ σ' 29 43 ≤ σ 29 43 + 8))) := by
    intro x4 hI
    refine pe_iload_n d_M_go_130 rfl ?_
    refine pe_aload_n d_M_go_131 rfl ?_
    refine pe_geti f_M_263 d_M_go_132 rfl rfl 36 rfl ?_
    refine pe_iconst d_M_go_135 ?_
    refine pe_iadd d_M_go_136 ?_
    refine pe_icmp_ne (t := 159) d_M_go_137 (by first | exact hB _ _ | exact hB0 _ _ | exact hBt _ _ | exact ⟨by omega, by omega⟩) (by first | exact hB _ _ | exact hB0 _ _ | exact hBt _ _ | exact ⟨by omega, by omega⟩) (fun h137 => ?_) (fun h137 => ?_)
    · skip
      exact J159 _ (by omega)
    · skip
      refine pe_iload_n d_M_go_140 rfl ?_
      refine pe_if_ne (t := 159) d_M_go_141 (by first | exact hB _ _ | exact hB0 _ _ | exact hBt _ _ | exact ⟨by omega, by omega⟩) (fun h141 => ?_) (fun h141 => ?_)
      · skip
        exact J159 _ (by omega)
      · skip
        refine pe_aload_n d_M_go_144 rfl ?_
        refine pe_bipush d_M_go_145 ?_
        refine pe_v1v d_M_go_147 c_M_253 i_M_put s_M_put rfl rfl (t_M_put hB (by omega) (by first | exact hB _ _ | exact hB0 _ _ | exact hBt _ _ | exact ⟨by omega, by omega⟩)) (fun σ147 hz147 => ?_)
        obtain ⟨hB, f147, o147, x147⟩ := hz147
        try have u147_0 : σ147 29 21 = σ 29 21 := by first | exact o147 21 (by decide) | exact congrFun (f147 29 (by decide)) 21
        try have u147_1 : σ147 29 22 = σ 29 22 := by first | exact o147 22 (by decide) | exact congrFun (f147 29 (by decide)) 22
        try have u147_2 : σ147 29 36 = σ 29 36 := by first | exact o147 36 (by decide) | exact congrFun (f147 29 (by decide)) 36
        try have u147_3 : σ147 29 37 = σ 29 37 := by first | exact o147 37 (by decide) | exact congrFun (f147 29 (by decide)) 37
        try have u147_4 : σ147 29 38 = σ 29 38 := by first | exact o147 38 (by decide) | exact congrFun (f147 29 (by decide)) 38
        try have u147_5 : σ147 29 39 = σ 29 39 := by first | exact o147 39 (by decide) | exact congrFun (f147 29 (by decide)) 39
        try have u147_6 : σ147 29 40 = σ 29 40 := by first | exact o147 40 (by decide) | exact congrFun (f147 29 (by decide)) 40
        try have u147_7 : σ147 29 43 = σ 29 43 := by first | exact o147 43 (by decide) | exact congrFun (f147 29 (by decide)) 43
        refine pe_aload_n d_M_go_150 rfl ?_
        refine pe_bipush d_M_go_151 ?_
        refine pe_v1v d_M_go_153 c_M_253 i_M_put s_M_put rfl rfl (t_M_put hB (by omega) (by first | exact hB _ _ | exact hB0 _ _ | exact hBt _ _ | exact ⟨by omega, by omega⟩)) (fun σ153 hz153 => ?_)
        obtain ⟨hB, f153, o153, x153⟩ := hz153
        try have u153_0 : σ153 29 21 = σ147 29 21 := by first | exact o153 21 (by decide) | exact congrFun (f153 29 (by decide)) 21
        try have u153_1 : σ153 29 22 = σ147 29 22 := by first | exact o153 22 (by decide) | exact congrFun (f153 29 (by decide)) 22
        try have u153_2 : σ153 29 36 = σ147 29 36 := by first | exact o153 36 (by decide) | exact congrFun (f153 29 (by decide)) 36
        try have u153_3 : σ153 29 37 = σ147 29 37 := by first | exact o153 37 (by decide) | exact congrFun (f153 29 (by decide)) 37
        try have u153_4 : σ153 29 38 = σ147 29 38 := by first | exact o153 38 (by decide) | exact congrFun (f153 29 (by decide)) 38
        try have u153_5 : σ153 29 39 = σ147 29 39 := by first | exact o153 39 (by decide) | exact congrFun (f153 29 (by decide)) 39
        try have u153_6 : σ153 29 40 = σ147 29 40 := by first | exact o153 40 (by decide) | exact congrFun (f153 29 (by decide)) 40
        try have u153_7 : σ153 29 43 = σ147 29 43 := by first | exact o153 43 (by decide) | exact congrFun (f153 29 (by decide)) 43
        refine pe_goto (t := 165) d_M_go_156 ?_
        exact J165 (_, _) ⟨hB, (fun b hb => (f153 b (by simp at hb ⊢; try omega)).trans ((f147 b (by simp at hb ⊢; try omega)).trans (rfl))), (fun j hj => (o153 j (by simp at hj ⊢; try omega)).trans ((o147 j (by simp at hj ⊢; try omega)).trans (rfl))), by (try dsimp only); omega⟩
  have J109 : ∀ x4 : Int, (x4 = 0 ∨ x4 = 1) → pe_G m_M_go 109 [some (pe_r 29), some (pe_i r), some (pe_i c), some (pe_i s), some (pe_i x4)] [] σ (pe_qv (fun σ' => pe_B σ' ∧ (∀ b, b ∉ [29, 46] → σ' b = σ b) ∧ (∀ j, j ∉ ([36, 37, 38, 40, 43] : List Int) → σ' 29 j = σ 29 j) ∧ (σ' 29 36 = r ∧ σ' 29 37 = c ∧ σ' 29 38 = 0 ∧ -1 ≤ σ' 29 40 ∧ σ' 29 40 < 192) ∧ (σ 29 43 ≤ σ' 29 43 ∧ σ' 29 43 ≤ σ 29 43 + 8))) := by
    intro x4 hI
    refine pe_iload_n d_M_go_109 rfl ?_
    refine pe_aload_n d_M_go_110 rfl ?_
    refine pe_geti f_M_263 d_M_go_111 rfl rfl 36 rfl ?_
    refine pe_icmp_ne (t := 130) d_M_go_114 (by first | exact hB _ _ | exact hB0 _ _ | exact hBt _ _ | exact ⟨by omega, by omega⟩) (by first | exact hB _ _ | exact hB0 _ _ | exact hBt _ _ | exact ⟨by omega, by omega⟩) (fun h114 => ?_) (fun h114 => ?_)
    · skip
      exact J130 _ (by omega)
    · skip
      refine pe_iload_n d_M_go_117 rfl ?_
      refine pe_if_ne (t := 130) d_M_go_118 (by first | exact hB _ _ | exact hB0 _ _ | exact hBt _ _ | exact ⟨by omega, by omega⟩) (fun h118 => ?_) (fun h118 => ?_)
      · skip
        exact J130 _ (by omega)
      · skip
        refine pe_aload_n d_M_go_121 rfl ?_
        refine pe_bipush d_M_go_122 ?_
        refine pe_v1v d_M_go_124 c_M_253 i_M_put s_M_put rfl rfl (t_M_put hB (by omega) (by first | exact hB _ _ | exact hB0 _ _ | exact hBt _ _ | exact ⟨by omega, by omega⟩)) (fun σ124 hz124 => ?_)
        obtain ⟨hB, f124, o124, x124⟩ := hz124
        try have u124_0 : σ124 29 21 = σ 29 21 := by first | exact o124 21 (by decide) | exact congrFun (f124 29 (by decide)) 21
        try have u124_1 : σ124 29 22 = σ 29 22 := by first | exact o124 22 (by decide) | exact congrFun (f124 29 (by decide)) 22
        try have u124_2 : σ124 29 36 = σ 29 36 := by first | exact o124 36 (by decide) | exact congrFun (f124 29 (by decide)) 36
        try have u124_3 : σ124 29 37 = σ 29 37 := by first | exact o124 37 (by decide) | exact congrFun (f124 29 (by decide)) 37
        try have u124_4 : σ124 29 38 = σ 29 38 := by first | exact o124 38 (by decide) | exact congrFun (f124 29 (by decide)) 38
        try have u124_5 : σ124 29 39 = σ 29 39 := by first | exact o124 39 (by decide) | exact congrFun (f124 29 (by decide)) 39
        try have u124_6 : σ124 29 40 = σ 29 40 := by first | exact o124 40 (by decide) | exact congrFun (f124 29 (by decide)) 40
        try have u124_7 : σ124 29 43 = σ 29 43 := by first | exact o124 43 (by decide) | exact congrFun (f124 29 (by decide)) 43
        refine pe_goto (t := 165) d_M_go_127 ?_
        exact J165 (_, _) ⟨hB, (fun b hb => (f124 b (by simp at hb ⊢; try omega)).trans (rfl)), (fun j hj => (o124 j (by simp at hj ⊢; try omega)).trans (rfl)), by (try dsimp only); omega⟩
  have J40 : ∀ x4 : Int, (x4 = 0 ∨ x4 = 1) → pe_G m_M_go 40 [some (pe_r 29), some (pe_i r), some (pe_i c), some (pe_i s), some (pe_i x4)] [] σ (pe_qv (fun σ' => pe_B σ' ∧ (∀ b, b ∉ [29, 46] → σ' b = σ b) ∧ (∀ j, j ∉ ([36, 37, 38, 40, 43] : List Int) → σ' 29 j = σ 29 j) ∧ (σ' 29 36 = r ∧ σ' 29 37 = c ∧ σ' 29 38 = 0 ∧ -1 ≤ σ' 29 40 ∧ σ' 29 40 < 192) ∧ (σ 29 43 ≤ σ' 29 43 ∧ σ' 29 43 ≤ σ 29 43 + 8))) := by
    intro x4 hI
    refine pe_iload_n d_M_go_40 rfl ?_
    refine pe_if_eq (t := 53) d_M_go_41 (by first | exact hB _ _ | exact hB0 _ _ | exact hBt _ _ | exact ⟨by omega, by omega⟩) (fun h41 => ?_) (fun h41 => ?_)
    · skip
      refine pe_iload_n d_M_go_53 rfl ?_
      refine pe_aload_n d_M_go_54 rfl ?_
      refine pe_geti f_M_263 d_M_go_55 rfl rfl 36 rfl ?_
      refine pe_icmp_ne (t := 109) d_M_go_58 (by first | exact hB _ _ | exact hB0 _ _ | exact hBt _ _ | exact ⟨by omega, by omega⟩) (by first | exact hB _ _ | exact hB0 _ _ | exact hBt _ _ | exact ⟨by omega, by omega⟩) (fun h58 => ?_) (fun h58 => ?_)
      · skip
        exact J109 _ (by omega)
      · skip
        refine pe_aload_n d_M_go_61 rfl ?_
        refine pe_geti f_M_260 d_M_go_62 rfl rfl 38 rfl ?_
        refine pe_if_ne (t := 109) d_M_go_65 (by first | exact hB _ _ | exact hB0 _ _ | exact hBt _ _ | exact ⟨by omega, by omega⟩) (fun h65 => ?_) (fun h65 => ?_)
        · skip
          exact J109 _ (by omega)
        · skip
          refine pe_iload_n d_M_go_68 rfl ?_
          refine pe_aload_n d_M_go_69 rfl ?_
          refine pe_geti f_M_266 d_M_go_70 rfl rfl 37 rfl ?_
          refine pe_icmp_le (t := 109) d_M_go_73 (by first | exact hB _ _ | exact hB0 _ _ | exact hBt _ _ | exact ⟨by omega, by omega⟩) (by first | exact hB _ _ | exact hB0 _ _ | exact hBt _ _ | exact ⟨by omega, by omega⟩) (fun h73 => ?_) (fun h73 => ?_)
          · skip
            exact J109 _ (by omega)
          · skip
            refine pe_aload_n d_M_go_76 rfl ?_
            refine pe_v0v d_M_go_77 c_M_275 i_M_putBegin s_M_putBegin rfl rfl (t_M_putBegin hB (by omega)) (fun σ77 hz77 => ?_)
            obtain ⟨hB, f77, o77, x77⟩ := hz77
            try have u77_0 : σ77 29 21 = σ 29 21 := by first | exact o77 21 (by decide) | exact congrFun (f77 29 (by decide)) 21
            try have u77_1 : σ77 29 22 = σ 29 22 := by first | exact o77 22 (by decide) | exact congrFun (f77 29 (by decide)) 22
            try have u77_2 : σ77 29 36 = σ 29 36 := by first | exact o77 36 (by decide) | exact congrFun (f77 29 (by decide)) 36
            try have u77_3 : σ77 29 37 = σ 29 37 := by first | exact o77 37 (by decide) | exact congrFun (f77 29 (by decide)) 37
            try have u77_4 : σ77 29 38 = σ 29 38 := by first | exact o77 38 (by decide) | exact congrFun (f77 29 (by decide)) 38
            try have u77_5 : σ77 29 39 = σ 29 39 := by first | exact o77 39 (by decide) | exact congrFun (f77 29 (by decide)) 39
            try have u77_6 : σ77 29 40 = σ 29 40 := by first | exact o77 40 (by decide) | exact congrFun (f77 29 (by decide)) 40
            try have u77_7 : σ77 29 43 = σ 29 43 := by first | exact o77 43 (by decide) | exact congrFun (f77 29 (by decide)) 43
            refine pe_iload_n d_M_go_80 rfl ?_
            refine pe_aload_n d_M_go_81 rfl ?_
            refine pe_geti f_M_266 d_M_go_82 rfl rfl 37 rfl ?_
            refine pe_isub d_M_go_85 ?_
            refine pe_iconst d_M_go_86 ?_
            refine pe_icmp_le (t := 100) d_M_go_87 (by first | exact hB _ _ | exact hB0 _ _ | exact hBt _ _ | exact ⟨by omega, by omega⟩) (by first | exact hB _ _ | exact hB0 _ _ | exact hBt _ _ | exact ⟨by omega, by omega⟩) (fun h87 => ?_) (fun h87 => ?_)
            · skip
              refine pe_aload_n d_M_go_100 rfl ?_
              refine pe_bipush d_M_go_101 ?_
              refine pe_v1v d_M_go_103 c_M_253 i_M_put s_M_put rfl rfl (t_M_put hB (by omega) (by first | exact hB _ _ | exact hB0 _ _ | exact hBt _ _ | exact ⟨by omega, by omega⟩)) (fun σ103 hz103 => ?_)
              obtain ⟨hB, f103, o103, x103⟩ := hz103
              try have u103_0 : σ103 29 21 = σ77 29 21 := by first | exact o103 21 (by decide) | exact congrFun (f103 29 (by decide)) 21
              try have u103_1 : σ103 29 22 = σ77 29 22 := by first | exact o103 22 (by decide) | exact congrFun (f103 29 (by decide)) 22
              try have u103_2 : σ103 29 36 = σ77 29 36 := by first | exact o103 36 (by decide) | exact congrFun (f103 29 (by decide)) 36
              try have u103_3 : σ103 29 37 = σ77 29 37 := by first | exact o103 37 (by decide) | exact congrFun (f103 29 (by decide)) 37
              try have u103_4 : σ103 29 38 = σ77 29 38 := by first | exact o103 38 (by decide) | exact congrFun (f103 29 (by decide)) 38
              try have u103_5 : σ103 29 39 = σ77 29 39 := by first | exact o103 39 (by decide) | exact congrFun (f103 29 (by decide)) 39
              try have u103_6 : σ103 29 40 = σ77 29 40 := by first | exact o103 40 (by decide) | exact congrFun (f103 29 (by decide)) 40
              try have u103_7 : σ103 29 43 = σ77 29 43 := by first | exact o103 43 (by decide) | exact congrFun (f103 29 (by decide)) 43
              refine pe_goto (t := 165) d_M_go_106 ?_
              exact J165 (_, _) ⟨hB, (fun b hb => (f103 b (by simp at hb ⊢; try omega)).trans ((f77 b (by simp at hb ⊢; try omega)).trans (rfl))), (fun j hj => (o103 j (by simp at hj ⊢; try omega)).trans ((o77 j (by simp at hj ⊢; try omega)).trans (rfl))), by (try dsimp only); omega⟩
            · skip
              refine pe_aload_n d_M_go_90 rfl ?_
              refine pe_iload_n d_M_go_91 rfl ?_
              refine pe_aload_n d_M_go_92 rfl ?_
              refine pe_geti f_M_266 d_M_go_93 rfl rfl 37 rfl ?_
              refine pe_isub d_M_go_96 ?_
              refine pe_v1v d_M_go_97 c_M_278 i_M_putNumber s_M_putNumber rfl rfl (t_M_putNumber hB (by omega) (by omega)) (fun σ97 hz97 => ?_)
              obtain ⟨hB, f97, o97, x97⟩ := hz97
              try have u97_0 : σ97 29 21 = σ77 29 21 := by first | exact o97 21 (by decide) | exact congrFun (f97 29 (by decide)) 21
              try have u97_1 : σ97 29 22 = σ77 29 22 := by first | exact o97 22 (by decide) | exact congrFun (f97 29 (by decide)) 22
              try have u97_2 : σ97 29 36 = σ77 29 36 := by first | exact o97 36 (by decide) | exact congrFun (f97 29 (by decide)) 36
              try have u97_3 : σ97 29 37 = σ77 29 37 := by first | exact o97 37 (by decide) | exact congrFun (f97 29 (by decide)) 37
              try have u97_4 : σ97 29 38 = σ77 29 38 := by first | exact o97 38 (by decide) | exact congrFun (f97 29 (by decide)) 38
              try have u97_5 : σ97 29 39 = σ77 29 39 := by first | exact o97 39 (by decide) | exact congrFun (f97 29 (by decide)) 39
              try have u97_6 : σ97 29 40 = σ77 29 40 := by first | exact o97 40 (by decide) | exact congrFun (f97 29 (by decide)) 40
              try have u97_7 : σ97 29 43 = σ77 29 43 := by first | exact o97 43 (by decide) | exact congrFun (f97 29 (by decide)) 43
              refine pe_aload_n d_M_go_100 rfl ?_
              refine pe_bipush d_M_go_101 ?_
              refine pe_v1v d_M_go_103 c_M_253 i_M_put s_M_put rfl rfl (t_M_put hB (by omega) (by first | exact hB _ _ | exact hB0 _ _ | exact hBt _ _ | exact ⟨by omega, by omega⟩)) (fun σ103 hz103 => ?_)
              obtain ⟨hB, f103, o103, x103⟩ := hz103
              try have u103_0 : σ103 29 21 = σ97 29 21 := by first | exact o103 21 (by decide) | exact congrFun (f103 29 (by decide)) 21
              try have u103_1 : σ103 29 22 = σ97 29 22 := by first | exact o103 22 (by decide) | exact congrFun (f103 29 (by decide)) 22
              try have u103_2 : σ103 29 36 = σ97 29 36 := by first | exact o103 36 (by decide) | exact congrFun (f103 29 (by decide)) 36
              try have u103_3 : σ103 29 37 = σ97 29 37 := by first | exact o103 37 (by decide) | exact congrFun (f103 29 (by decide)) 37
              try have u103_4 : σ103 29 38 = σ97 29 38 := by first | exact o103 38 (by decide) | exact congrFun (f103 29 (by decide)) 38
              try have u103_5 : σ103 29 39 = σ97 29 39 := by first | exact o103 39 (by decide) | exact congrFun (f103 29 (by decide)) 39
              try have u103_6 : σ103 29 40 = σ97 29 40 := by first | exact o103 40 (by decide) | exact congrFun (f103 29 (by decide)) 40
              try have u103_7 : σ103 29 43 = σ97 29 43 := by first | exact o103 43 (by decide) | exact congrFun (f103 29 (by decide)) 43
              refine pe_goto (t := 165) d_M_go_106 ?_
              exact J165 (_, _) ⟨hB, (fun b hb => (f103 b (by simp at hb ⊢; try omega)).trans ((f97 b (by simp at hb ⊢; try omega)).trans ((f77 b (by simp at hb ⊢; try omega)).trans (rfl)))), (fun j hj => (o103 j (by simp at hj ⊢; try omega)).trans ((o97 j (by simp at hj ⊢; try omega)).trans ((o77 j (by simp at hj ⊢; try omega)).trans (rfl)))), by (try dsimp only); omega⟩
    · skip
      refine pe_aload_n d_M_go_44 rfl ?_
      refine pe_iload_n d_M_go_45 rfl ?_
      refine pe_iload_n d_M_go_46 rfl ?_
      refine pe_v2v d_M_go_47 c_M_281 i_M_sendPlace s_M_sendPlace rfl rfl (t_M_sendPlace hB (by omega) (by omega) (by omega)) (fun σ47 hz47 => ?_)
      obtain ⟨hB, f47, o47, x47⟩ := hz47
      try have u47_0 : σ47 29 21 = σ 29 21 := by first | exact o47 21 (by decide) | exact congrFun (f47 29 (by decide)) 21
      try have u47_1 : σ47 29 22 = σ 29 22 := by first | exact o47 22 (by decide) | exact congrFun (f47 29 (by decide)) 22
      try have u47_2 : σ47 29 36 = σ 29 36 := by first | exact o47 36 (by decide) | exact congrFun (f47 29 (by decide)) 36
      try have u47_3 : σ47 29 37 = σ 29 37 := by first | exact o47 37 (by decide) | exact congrFun (f47 29 (by decide)) 37
      try have u47_4 : σ47 29 38 = σ 29 38 := by first | exact o47 38 (by decide) | exact congrFun (f47 29 (by decide)) 38
      try have u47_5 : σ47 29 39 = σ 29 39 := by first | exact o47 39 (by decide) | exact congrFun (f47 29 (by decide)) 39
      try have u47_6 : σ47 29 40 = σ 29 40 := by first | exact o47 40 (by decide) | exact congrFun (f47 29 (by decide)) 40
      try have u47_7 : σ47 29 43 = σ 29 43 := by first | exact o47 43 (by decide) | exact congrFun (f47 29 (by decide)) 43
      refine pe_goto (t := 165) d_M_go_50 ?_
      exact J165 (_, _) ⟨hB, (fun b hb => (f47 b (by simp at hb ⊢; try omega)).trans (rfl)), (fun j hj => (o47 j (by simp at hj ⊢; try omega)).trans (rfl)), by (try dsimp only); omega⟩
  refine pe_iload_n d_M_go_0 rfl ?_
  refine pe_aload_n d_M_go_1 rfl ?_
  refine pe_geti f_M_263 d_M_go_2 rfl rfl 36 rfl ?_
  refine pe_icmp_ne (t := 27) d_M_go_5 (by first | exact hB _ _ | exact hB0 _ _ | exact hBt _ _ | exact ⟨by omega, by omega⟩) (by first | exact hB _ _ | exact hB0 _ _ | exact hBt _ _ | exact ⟨by omega, by omega⟩) (fun h5 => ?_) (fun h5 => ?_)
  · skip
    refine pe_iconst d_M_go_27 ?_
    refine pe_istore d_M_go_28 ?_
    refine pe_iload d_M_go_30 rfl ?_
    refine pe_if_eq (t := 40) d_M_go_32 (by first | exact hB _ _ | exact hB0 _ _ | exact hBt _ _ | exact ⟨by omega, by omega⟩) (fun h32 => ?_) (fun h32 => ?_)
    · skip
      exact J40 _ (by omega)
    · skip
      refine pe_iload_n d_M_go_35 rfl ?_
      refine pe_if_ne (t := 40) d_M_go_36 (by first | exact hB _ _ | exact hB0 _ _ | exact hBt _ _ | exact ⟨by omega, by omega⟩) (fun h36 => ?_) (fun h36 => ?_)
      · skip
        exact J40 _ (by omega)
      · skip
        refine pe_rv d_M_go_39 ?_
        exact ⟨hB, (fun b hb => rfl), (fun j hj => rfl), by omega, by omega⟩
  · skip
    refine pe_iload_n d_M_go_8 rfl ?_
    refine pe_aload_n d_M_go_9 rfl ?_
    refine pe_geti f_M_266 d_M_go_10 rfl rfl 37 rfl ?_
    refine pe_icmp_ne (t := 27) d_M_go_13 (by first | exact hB _ _ | exact hB0 _ _ | exact hBt _ _ | exact ⟨by omega, by omega⟩) (by first | exact hB _ _ | exact hB0 _ _ | exact hBt _ _ | exact ⟨by omega, by omega⟩) (fun h13 => ?_) (fun h13 => ?_)
    · skip
      refine pe_iconst d_M_go_27 ?_
      refine pe_istore d_M_go_28 ?_
      refine pe_iload d_M_go_30 rfl ?_
      refine pe_if_eq (t := 40) d_M_go_32 (by first | exact hB _ _ | exact hB0 _ _ | exact hBt _ _ | exact ⟨by omega, by omega⟩) (fun h32 => ?_) (fun h32 => ?_)
      · skip
        exact J40 _ (by omega)
      · skip
        refine pe_iload_n d_M_go_35 rfl ?_
        refine pe_if_ne (t := 40) d_M_go_36 (by first | exact hB _ _ | exact hB0 _ _ | exact hBt _ _ | exact ⟨by omega, by omega⟩) (fun h36 => ?_) (fun h36 => ?_)
        · skip
          exact J40 _ (by omega)
        · skip
          refine pe_rv d_M_go_39 ?_
          exact ⟨hB, (fun b hb => rfl), (fun j hj => rfl), by omega, by omega⟩
    · skip
      refine pe_aload_n d_M_go_16 rfl ?_
      refine pe_geti f_M_260 d_M_go_17 rfl rfl 38 rfl ?_
      refine pe_if_ne (t := 27) d_M_go_20 (by first | exact hB _ _ | exact hB0 _ _ | exact hBt _ _ | exact ⟨by omega, by omega⟩) (fun h20 => ?_) (fun h20 => ?_)
      · skip
        refine pe_iconst d_M_go_27 ?_
        refine pe_istore d_M_go_28 ?_
        refine pe_iload d_M_go_30 rfl ?_
        refine pe_if_eq (t := 40) d_M_go_32 (by first | exact hB _ _ | exact hB0 _ _ | exact hBt _ _ | exact ⟨by omega, by omega⟩) (fun h32 => ?_) (fun h32 => ?_)
        · skip
          exact J40 _ (by omega)
        · skip
          refine pe_iload_n d_M_go_35 rfl ?_
          refine pe_if_ne (t := 40) d_M_go_36 (by first | exact hB _ _ | exact hB0 _ _ | exact hBt _ _ | exact ⟨by omega, by omega⟩) (fun h36 => ?_) (fun h36 => ?_)
          · skip
            exact J40 _ (by omega)
          · skip
            refine pe_rv d_M_go_39 ?_
            exact ⟨hB, (fun b hb => rfl), (fun j hj => rfl), by omega, by omega⟩
      · skip
        refine pe_iconst d_M_go_23 ?_
        refine pe_goto (t := 28) d_M_go_24 ?_
        refine pe_istore d_M_go_28 ?_
        refine pe_iload d_M_go_30 rfl ?_
        refine pe_if_eq (t := 40) d_M_go_32 (by first | exact hB _ _ | exact hB0 _ _ | exact hBt _ _ | exact ⟨by omega, by omega⟩) (fun h32 => ?_) (fun h32 => ?_)
        · skip
          exact J40 _ (by omega)
        · skip
          refine pe_iload_n d_M_go_35 rfl ?_
          refine pe_if_ne (t := 40) d_M_go_36 (by first | exact hB _ _ | exact hB0 _ _ | exact hBt _ _ | exact ⟨by omega, by omega⟩) (fun h36 => ?_) (fun h36 => ?_)
          · skip
            exact J40 _ (by omega)
          · skip
            refine pe_rv d_M_go_39 ?_
            exact ⟨hB, (fun b hb => rfl), (fun j hj => rfl), by omega, by omega⟩
