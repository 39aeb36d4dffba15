/-! p1: the model's own steps, and what they keep -/
theorem pe_ba_get {t : Int → Int} {n p : Int} (hp : 1 ≤ p) : (0 ≤ pe_ba t n p ∧ pe_ba t n p < p) ∧ pe_bg t n (pe_ba t n p) := by
  have ex : ∀ (k : Nat) (q : Int), q.toNat = k → 0 ≤ q → q < p → (∀ j, q < j → j < p → ¬ pe_bg t n j) → ∃ z, (0 ≤ z ∧ z < p) ∧ pe_bg t n z ∧ ∀ j, z < j → j < p → ¬ pe_bg t n j := by
    intro k
    induction k with
    | zero => intro q hk h1 h2 h3; exact ⟨q, ⟨h1, h2⟩, by rw [show q = 0 by omega]; exact pe_bg0 _ _, h3⟩
    | succ k ih =>
      intro q hk h1 h2 h3
      by_cases b : pe_bg t n q
      · exact ⟨q, ⟨h1, h2⟩, b, h3⟩
      · refine ih (q - 1) (by omega) (by omega) (by omega) (fun j a c => ?_)
        by_cases w : j = q
        · rw [w]; exact b
        · exact h3 j (by omega) c
  obtain ⟨z, h1, h2, h3⟩ := ex _ (p - 1) rfl (by omega) (by omega) (fun j a b => absurd b (by omega))
  rw [← pe_ba_of (fun _ _ _ => rfl) h1 h2 h3]
  exact ⟨h1, h2⟩
theorem pe_lb_get {t : Int → Int} {p : Int} (hp : 0 ≤ p) : (0 ≤ pe_lb t p ∧ pe_lb t p ≤ p) ∧ (pe_lb t p = 0 ∨ t (pe_lb t p - 1) = 10) := by
  have ex : ∀ (k : Nat) (q : Int), q.toNat = k → 0 ≤ q → q ≤ p → (∀ j, q ≤ j → j < p → t j ≠ 10) → ∃ z, (0 ≤ z ∧ z ≤ p) ∧ (z = 0 ∨ t (z - 1) = 10) ∧ ∀ j, z ≤ j → j < p → t j ≠ 10 := by
    intro k
    induction k with
    | zero => intro q hk h1 h2 h3; exact ⟨q, ⟨h1, h2⟩, Or.inl (by omega), h3⟩
    | succ k ih =>
      intro q hk h1 h2 h3
      by_cases b : t (q - 1) = 10
      · exact ⟨q, ⟨h1, h2⟩, Or.inr b, h3⟩
      · refine ih (q - 1) (by omega) (by omega) (by omega) (fun j a c => ?_)
        by_cases w : j = q - 1
        · rw [w]; exact b
        · exact h3 j (by omega) c
  obtain ⟨z, h1, h2, h3⟩ := ex _ p rfl hp (Int.le_refl _) (fun j a b => absurd b (by omega))
  rw [← pe_lb_of (n := p) (fun _ _ _ => rfl) (Int.le_refl _) h1 h2 h3]
  exact ⟨h1, h2⟩
theorem pe_lz_get {t : Int → Int} {n p : Int} (hp : 0 ≤ p) (hn : p ≤ n) : (p ≤ pe_lz t n p ∧ pe_lz t n p ≤ n) ∧ (pe_lz t n p = n ∨ t (pe_lz t n p) = 10) := by
  have ex : ∀ (k : Nat) (q : Int), (n - q).toNat = k → p ≤ q → q ≤ n → (∀ j, p ≤ j → j < q → t j ≠ 10) → ∃ z, (p ≤ z ∧ z ≤ n) ∧ (z = n ∨ t z = 10) ∧ ∀ j, p ≤ j → j < z → t j ≠ 10 := by
    intro k
    induction k with
    | zero => intro q hk h1 h2 h3; exact ⟨q, ⟨h1, h2⟩, Or.inl (by omega), h3⟩
    | succ k ih =>
      intro q hk h1 h2 h3
      by_cases b : t q = 10
      · exact ⟨q, ⟨h1, h2⟩, Or.inr b, h3⟩
      · refine ih (q + 1) (by omega) (by omega) (by omega) (fun j a c => ?_)
        by_cases w : j = q
        · rw [w]; exact b
        · exact h3 j a (by omega)
  obtain ⟨z, h1, h2, h3⟩ := ex _ p rfl (Int.le_refl _) hn (fun j a b => absurd b (by omega))
  rw [← pe_lz_of (fun _ _ _ => rfl) hp h1 h2 h3]
  exact ⟨h1, h2⟩
theorem pe_wf_I {m : pe_H} {n : Int} {s : Int → Int} (hw : pe_wf m) (hn : 0 ≤ n) (hr : m 0 0 + n ≤ 200) (hs : ∀ j, 0 ≤ j → j < n → pe_ok (s j)) : pe_wf (pe_eI m n s) := by
  obtain ⟨⟨w1, w2, w3, w4, w5, w6, w7, w8⟩, ⟨V1, V2, V3⟩, W3⟩ := hw
  refine ⟨⟨?_, ?_, ?_, w4, w5, ?_, w7, w8⟩, ⟨?_, V2, ?_⟩, ?_⟩
  · show 0 ≤ m 0 0 + n ∧ m 0 0 + n ≤ 200; omega
  · show 0 ≤ m 1 0 + n ∧ m 1 0 + n ≤ m 0 0 + n; omega
  · show -1 ≤ (-1 : Int) ∧ (-1 : Int) ≤ m 0 0 + n; omega
  · show 0 ≤ m 5 0 + 1; omega
  · intro j h0 h1
    have h1' : j < m 0 0 + n := h1
    show pe_ok (if j < m 1 0 then m 8 j else if j < m 1 0 + n then s (j - m 1 0) else m 8 (j - n))
    by_cases q : j < m 1 0
    · rw [if_pos q]; exact V1 j h0 (by omega)
    · rw [if_neg q]
      by_cases q2 : j < m 1 0 + n
      · rw [if_pos q2]; exact hs _ (by omega) (by omega)
      · rw [if_neg q2]; exact V1 _ (by omega) (by omega)
  · intro i j h0 h1 h2 h3
    have h1' : i < m 5 0 + 1 := h1
    have h3' : j < (if i = m 5 0 then 0 else m 12 i) := h3
    show pe_ok (m 14 (i * 200 + j))
    by_cases q : i = m 5 0
    · rw [if_pos q] at h3'; omega
    · rw [if_neg q] at h3'; exact V3 i j h0 (by omega) h2 h3'
  · intro i h0 h1
    have h1' : i < m 5 0 + 1 := h1
    show (0 ≤ (if i = m 5 0 then m 1 0 else m 10 i) ∧ 0 ≤ (if i = m 5 0 then n else m 11 i) ∧ 0 ≤ (if i = m 5 0 then 0 else m 12 i) ∧ 0 ≤ (if i = m 5 0 then m 1 0 else m 13 i) ∧ (if i = m 5 0 then m 1 0 else m 13 i) ≤ (if i = m 5 0 then m 0 0 else m 15 i) ∧ (if i = m 5 0 then m 0 0 else m 15 i) ≤ 200 ∧ (if i = m 5 0 then m 1 0 else m 10 i) + (if i = m 5 0 then 0 else m 12 i) ≤ (if i = m 5 0 then m 0 0 else m 15 i)) ∧ (i + 1 = m 5 0 + 1 → m 0 0 + n = (if i = m 5 0 then m 0 0 else m 15 i) + (if i = m 5 0 then n else m 11 i) - (if i = m 5 0 then 0 else m 12 i)) ∧ (i + 1 < m 5 0 + 1 → (if i + 1 = m 5 0 then m 0 0 else m 15 (i + 1)) = (if i = m 5 0 then m 0 0 else m 15 i) + (if i = m 5 0 then n else m 11 i) - (if i = m 5 0 then 0 else m 12 i))
    by_cases q : i = m 5 0
    · simp only [if_pos q]; omega
    · simp only [if_neg q]
      obtain ⟨u1, u2, u3⟩ := W3 i h0 (by omega)
      by_cases q2 : i + 1 = m 5 0
      · simp only [if_pos q2]; omega
      · simp only [if_neg q2]; omega
theorem pe_wf_D {m : pe_H} {p q : Int} (hw : pe_wf m) (h : 0 ≤ p ∧ p < q ∧ q ≤ m 0 0) : pe_wf (pe_eD m p q) := by
  obtain ⟨⟨w1, w2, w3, w4, w5, w6, w7, w8⟩, ⟨V1, V2, V3⟩, W3⟩ := hw
  refine ⟨⟨?_, ?_, ?_, w4, w5, ?_, w7, w8⟩, ⟨?_, V2, ?_⟩, ?_⟩
  · show 0 ≤ m 0 0 - (q - p) ∧ m 0 0 - (q - p) ≤ 200; omega
  · show 0 ≤ p ∧ p ≤ m 0 0 - (q - p); omega
  · show -1 ≤ (-1 : Int) ∧ (-1 : Int) ≤ m 0 0 - (q - p); omega
  · show 0 ≤ m 5 0 + 1; omega
  · intro j h0 h1
    have h1' : j < m 0 0 - (q - p) := h1
    show pe_ok (if j < p then m 8 j else m 8 (j + (q - p)))
    split
    · exact V1 j h0 (by omega)
    · exact V1 _ (by omega) (by omega)
  · intro i j h0 h1 h2 h3
    have h1' : i < m 5 0 + 1 := h1
    have h3' : j < (if i = m 5 0 then q - p else m 12 i) := h3
    show pe_ok (if m 5 0 * 200 ≤ i * 200 + j then m 8 (p + (i * 200 + j - m 5 0 * 200)) else m 14 (i * 200 + j))
    by_cases e : i = m 5 0
    · rw [if_pos e] at h3'; rw [if_pos (by omega)]; exact V1 _ (by omega) (by omega)
    · rw [if_neg e] at h3'
      have u := (W3 i h0 (by omega)).1
      rw [if_neg (by omega)]; exact V3 i j h0 (by omega) h2 h3'
  · intro i h0 h1
    have h1' : i < m 5 0 + 1 := h1
    show (0 ≤ (if i = m 5 0 then p else m 10 i) ∧ 0 ≤ (if i = m 5 0 then 0 else m 11 i) ∧ 0 ≤ (if i = m 5 0 then q - p else m 12 i) ∧ 0 ≤ (if i = m 5 0 then m 1 0 else m 13 i) ∧ (if i = m 5 0 then m 1 0 else m 13 i) ≤ (if i = m 5 0 then m 0 0 else m 15 i) ∧ (if i = m 5 0 then m 0 0 else m 15 i) ≤ 200 ∧ (if i = m 5 0 then p else m 10 i) + (if i = m 5 0 then q - p else m 12 i) ≤ (if i = m 5 0 then m 0 0 else m 15 i)) ∧ (i + 1 = m 5 0 + 1 → m 0 0 - (q - p) = (if i = m 5 0 then m 0 0 else m 15 i) + (if i = m 5 0 then 0 else m 11 i) - (if i = m 5 0 then q - p else m 12 i)) ∧ (i + 1 < m 5 0 + 1 → (if i + 1 = m 5 0 then m 0 0 else m 15 (i + 1)) = (if i = m 5 0 then m 0 0 else m 15 i) + (if i = m 5 0 then 0 else m 11 i) - (if i = m 5 0 then q - p else m 12 i))
    by_cases e : i = m 5 0
    · simp only [if_pos e]; omega
    · simp only [if_neg e]
      obtain ⟨u1, u2, u3⟩ := W3 i h0 (by omega)
      by_cases q2 : i + 1 = m 5 0
      · simp only [if_pos q2]; omega
      · simp only [if_neg q2]; omega
theorem pe_wf_U {m : pe_H} {i : Int} (hw : pe_wf m) (hi : 0 ≤ i ∧ i + 1 = m 5 0) : pe_wf (pe_eU m i) := by
  obtain ⟨⟨w1, w2, w3, w4, w5, w6, w7, w8⟩, ⟨V1, V2, V3⟩, W3⟩ := hw
  obtain ⟨u1, u2, u3⟩ := W3 i hi.1 (by omega)
  have u2 := u2 hi.2
  refine ⟨⟨?_, ?_, ?_, w4, w5, hi.1, w7, w8⟩, ⟨?_, V2, ?_⟩, ?_⟩
  · show 0 ≤ m 0 0 - m 11 i + m 12 i ∧ m 0 0 - m 11 i + m 12 i ≤ 200; omega
  · show 0 ≤ m 13 i ∧ m 13 i ≤ m 0 0 - m 11 i + m 12 i; omega
  · show -1 ≤ (-1 : Int) ∧ (-1 : Int) ≤ m 0 0 - m 11 i + m 12 i; omega
  · intro j h0 h1
    have h1' : j < m 0 0 - m 11 i + m 12 i := h1
    show pe_ok (if j < m 10 i then m 8 j else if j < m 10 i + m 12 i then m 14 (i * 200 + (j - m 10 i)) else m 8 (j - m 12 i + m 11 i))
    by_cases q : j < m 10 i
    · rw [if_pos q]; exact V1 j h0 (by omega)
    · rw [if_neg q]
      by_cases q2 : j < m 10 i + m 12 i
      · rw [if_pos q2]; exact V3 i _ hi.1 (by omega) (by omega) (by omega)
      · rw [if_neg q2]; exact V1 _ (by omega) (by omega)
  · intro k j h0 h1 h2 h3
    have h1' : k < i := h1
    exact V3 k j h0 (by omega) h2 h3
  · intro k h0 h1
    have h1' : k < i := h1
    obtain ⟨x1, x2, x3⟩ := W3 k h0 (by omega)
    have x3 := x3 (by omega)
    refine ⟨x1, ?_, ?_⟩
    · show k + 1 = i → m 0 0 - m 11 i + m 12 i = m 15 k + m 11 k - m 12 k
      intro e
      rw [e] at x3; omega
    · show k + 1 < i → m 15 (k + 1) = m 15 k + m 11 k - m 12 k
      intro e; exact x3
theorem pe_wf_Ins {m : pe_H} {n : Int} {s : Int → Int} (hw : pe_wf m) (hn : 0 ≤ n) (hs : ∀ j, 0 ≤ j → j < n → pe_ok (s j)) : pe_wf (pe_eIns m n s) := by
  unfold pe_eIns
  split
  · exact hw
  · exact pe_wf_I hw hn (by omega) hs
theorem pe_wf_Del {m : pe_H} {p q : Int} (hw : pe_wf m) (h : 0 ≤ p ∧ q ≤ m 0 0) : pe_wf (pe_eDel m p q) := by
  unfold pe_eDel
  split
  · exact hw
  · exact pe_wf_D hw (by omega)
theorem pe_wf_Cut {m : pe_H} (hw : pe_wf m) : pe_wf (pe_eCut m) := by
  obtain ⟨w1, w2, w3, w4⟩ := hw.1
  unfold pe_eCut
  split
  · exact hw
  · split
    · exact pe_wf_Del (pe_wf_C hw (by omega)) (show 0 ≤ m 2 0 ∧ m 1 0 ≤ m 0 0 by omega)
    · exact pe_wf_Del (pe_wf_C hw (by omega)) (show 0 ≤ m 1 0 ∧ m 2 0 ≤ m 0 0 by omega)
theorem pe_wf_Undo {m : pe_H} (hw : pe_wf m) : pe_wf (pe_eUndo m) := by
  have := hw.1.2.2.2.2.2.1
  unfold pe_eUndo
  split
  · exact hw
  · exact pe_wf_U hw (by omega)
theorem pe_wf_cur {m : pe_H} {z : Int} (hw : pe_wf m) (h : 0 ≤ z ∧ z ≤ m 0 0) : pe_wf (pe_eS m 1 z) :=
  ⟨⟨hw.1.1, h, hw.1.2.2⟩, hw.2.1, hw.2.2⟩
theorem pe_wf_mk {m : pe_H} {z : Int} (hw : pe_wf m) (h : -1 ≤ z ∧ z ≤ m 0 0) : pe_wf (pe_eS m 2 z) :=
  ⟨⟨hw.1.1, hw.1.2.1, h, hw.1.2.2.2⟩, hw.2.1, hw.2.2⟩
theorem pe_wf_gl {m : pe_H} {z : Int} (hw : pe_wf m) (h : -1 ≤ z) : pe_wf (pe_eS m 4 z) :=
  ⟨⟨hw.1.1, hw.1.2.1, hw.1.2.2.1, hw.1.2.2.2.1, h, hw.1.2.2.2.2.2⟩, hw.2.1, hw.2.2⟩
theorem pe_wf_pa {m : pe_H} {z : Int} (hw : pe_wf m) (h : z = 0 ∨ z = 1) : pe_wf (pe_eS m 6 z) :=
  ⟨⟨hw.1.1, hw.1.2.1, hw.1.2.2.1, hw.1.2.2.2.1, hw.1.2.2.2.2.1, hw.1.2.2.2.2.2.1, h, hw.1.2.2.2.2.2.2.2⟩, hw.2.1, hw.2.2⟩
/-- a key that is no Up and no Down, where it does something -/
noncomputable def pe_eCmd (m : pe_H) (k : Int) : pe_H :=
  if k = 9 then pe_eIns m 1 (fun _ => 9) else if k = 13 then pe_eIns m 1 (fun _ => 10) else if k = 10 then (if m 6 0 = 1 then pe_eIns m 1 (fun _ => 10) else m) else if k = 8 ∨ k = 127 then (if m 1 0 = 0 then m else pe_eDel m (pe_ba (m 8) (m 0 0) (m 1 0)) (m 1 0)) else if k = 65542 then (if m 1 0 = m 0 0 then m else pe_eDel m (m 1 0) (pe_bf (m 8) (m 0 0) (m 1 0 + 1))) else if k = 65539 then (if m 1 0 = 0 then m else pe_eS m 1 (pe_ba (m 8) (m 0 0) (m 1 0))) else if k = 65538 then (if m 1 0 = m 0 0 then m else pe_eS m 1 (pe_bf (m 8) (m 0 0) (m 1 0 + 1))) else if k = 65540 then pe_eS m 1 (pe_lb (m 8) (m 1 0)) else if k = 65541 then pe_eS m 1 (pe_lz (m 8) (m 0 0) (m 1 0)) else if k = 0 then pe_eS m 2 (m 1 0) else if k = 27 then pe_eS m 2 (-1) else if k = 23 then pe_eCut m else if k = 25 then pe_eIns m (m 3 0) (m 9) else if k = 26 then pe_eUndo m else if k = 65543 then pe_eS m 6 1 else if k = 65544 then pe_eS m 6 0 else m
def pe_ic (k : Int) : Prop := 32 ≤ k ∧ k < 65536 ∧ k ≠ 127
noncomputable def pe_eK (m : pe_H) (k : Int) : pe_H := if 32 ≤ k ∧ k < 65536 ∧ k ≠ 127 then pe_eIns m 1 (fun _ => k) else pe_eCmd m k
def pe_wk (m : pe_H) (k : Int) : Prop := (m 6 0 ≠ 0 ∧ ((32 ≤ k ∧ k < 65536 ∧ k ≠ 127) ∨ k = 9 ∨ k = 13 ∨ k = 10 ∨ k = 65544)) ∨ (m 6 0 = 0 ∧ (k = 0 ∨ k = 8 ∨ k = 9 ∨ k = 10 ∨ k = 12 ∨ k = 13 ∨ k = 23 ∨ k = 25 ∨ k = 26 ∨ k = 27 ∨ 32 ≤ k))
noncomputable def pe_ePr (m : pe_H) (k : Int) : pe_H := if k = 65536 ∨ k = 65537 then (if m 6 0 = 0 then pe_eMv m (if k = 65536 then -1 else 1) else m) else @ite pe_H (pe_wk m k) (Classical.propDecidable _) (pe_eB (pe_eK (pe_eS m 4 (-1)) k)) m
theorem pe_ite {c : Prop} [Decidable c] {P : pe_H → Prop} {a b : pe_H} (h1 : c → P a) (h2 : ¬ c → P b) : P (if c then a else b) := by
  by_cases h : c
  · rw [if_pos h]; exact h1 h
  · rw [if_neg h]; exact h2 h
theorem pe_wf_cmd {m : pe_H} {k : Int} (hw : pe_wf m) : pe_wf (pe_eCmd m k) := by
  obtain ⟨w1, w2, w3, w4, w5, w6, w7, w8⟩ := hw.1
  unfold pe_eCmd
  refine pe_ite (P := pe_wf) (fun hh => ?_) (fun hh => ?_)
  · exact pe_wf_Ins hw (by omega) (fun _ _ _ => Or.inl rfl)
  refine pe_ite (P := pe_wf) (fun hh => ?_) (fun hh => ?_)
  · exact pe_wf_Ins hw (by omega) (fun _ _ _ => Or.inr (Or.inl rfl))
  refine pe_ite (P := pe_wf) (fun hh => ?_) (fun hh => ?_)
  · refine pe_ite (P := pe_wf) (fun hh => ?_) (fun hh => ?_)
    · exact pe_wf_Ins hw (by omega) (fun _ _ _ => Or.inr (Or.inl rfl))
    · exact hw
  refine pe_ite (P := pe_wf) (fun hh => ?_) (fun hh => ?_)
  · refine pe_ite (P := pe_wf) (fun hh => ?_) (fun hh => ?_)
    · exact hw
    · have := pe_ba_get (t := m 8) (n := m 0 0) (p := m 1 0) (by omega)
      exact pe_wf_Del hw (by omega)
  refine pe_ite (P := pe_wf) (fun hh => ?_) (fun hh => ?_)
  · refine pe_ite (P := pe_wf) (fun hh => ?_) (fun hh => ?_)
    · exact hw
    · have := pe_bf_get (t := m 8) (n := m 0 0) (p := m 1 0 + 1) (by omega) (by omega)
      exact pe_wf_Del hw (by omega)
  refine pe_ite (P := pe_wf) (fun hh => ?_) (fun hh => ?_)
  · refine pe_ite (P := pe_wf) (fun hh => ?_) (fun hh => ?_)
    · exact hw
    · have := pe_ba_get (t := m 8) (n := m 0 0) (p := m 1 0) (by omega)
      exact pe_wf_cur hw (by omega)
  refine pe_ite (P := pe_wf) (fun hh => ?_) (fun hh => ?_)
  · refine pe_ite (P := pe_wf) (fun hh => ?_) (fun hh => ?_)
    · exact hw
    · have := pe_bf_get (t := m 8) (n := m 0 0) (p := m 1 0 + 1) (by omega) (by omega)
      exact pe_wf_cur hw (by omega)
  refine pe_ite (P := pe_wf) (fun hh => ?_) (fun hh => ?_)
  · have := pe_lb_get (t := m 8) (p := m 1 0) (by omega)
    exact pe_wf_cur hw (by omega)
  refine pe_ite (P := pe_wf) (fun hh => ?_) (fun hh => ?_)
  · have := pe_lz_get (t := m 8) (n := m 0 0) (p := m 1 0) (by omega) (by omega)
    exact pe_wf_cur hw (by omega)
  refine pe_ite (P := pe_wf) (fun hh => ?_) (fun hh => ?_)
  · exact pe_wf_mk hw (by omega)
  refine pe_ite (P := pe_wf) (fun hh => ?_) (fun hh => ?_)
  · exact pe_wf_mk hw (by omega)
  refine pe_ite (P := pe_wf) (fun hh => ?_) (fun hh => ?_)
  · exact pe_wf_Cut hw
  refine pe_ite (P := pe_wf) (fun hh => ?_) (fun hh => ?_)
  · exact pe_wf_Ins hw (by omega) hw.2.1.2.1
  refine pe_ite (P := pe_wf) (fun hh => ?_) (fun hh => ?_)
  · exact pe_wf_Undo hw
  refine pe_ite (P := pe_wf) (fun hh => ?_) (fun hh => ?_)
  · exact pe_wf_pa hw (Or.inr rfl)
  refine pe_ite (P := pe_wf) (fun hh => ?_) (fun hh => ?_)
  · exact pe_wf_pa hw (Or.inl rfl)
  · exact hw
theorem pe_wf_K {m : pe_H} {k : Int} (hw : pe_wf m) : pe_wf (pe_eK m k) := by
  unfold pe_eK
  split
  · exact pe_wf_Ins hw (by omega) (fun _ _ _ => Or.inr (Or.inr (by omega)))
  · exact pe_wf_cmd hw
theorem pe_wf_B {m : pe_H} (hw : pe_wf m) : pe_wf (pe_eB m) := by
  have := pe_bf_get (t := m 8) (n := m 0 0) (p := m 1 0) hw.1.2.1.1 hw.1.2.1.2
  have w := hw.1.2.1
  exact pe_wf_cur hw (by omega)
theorem pe_bg_B {m : pe_H} (hw : pe_wf m) : pe_bg (pe_eB m 8) (pe_eB m 0 0) (pe_eB m 1 0) := (pe_bf_get (t := m 8) (n := m 0 0) (p := m 1 0) hw.1.2.1.1 hw.1.2.1.2).2
theorem pe_fd_get (t : Int → Int) (n c row g : Int) : ∀ p : Nat, pe_fd t n c row g p = -1 ∨ ((0 ≤ pe_fd t n c row g p ∧ pe_fd t n c row g p < p) ∧ pe_bg t n (pe_fd t n c row g p))
  | 0 => Or.inl rfl
  | p + 1 => by
    have ih := pe_fd_get t n c row g p
    by_cases h : (pe_bg t n p ∧ (pe_rw t n c p).1 = row ∧ (pe_fd t n c row g p = -1 ∨ (pe_rw t n c p).2 ≤ g))
    · have e : pe_fd t n c row g (p + 1) = p := by
        have := pe_fd_y (t := t) (n := n) (c := c) (row := row) (g := g) (p := (p : Int)) (by omega) h
        rwa [show ((p : Int) + 1).toNat = p + 1 by omega] at this
      rw [e]; exact Or.inr ⟨by omega, h.1⟩
    · have e : pe_fd t n c row g (p + 1) = pe_fd t n c row g p := by
        have := pe_fd_n (t := t) (n := n) (c := c) (row := row) (g := g) (p := (p : Int)) (by omega) h
        rwa [show ((p : Int) + 1).toNat = p + 1 by omega, show ((p : Int)).toNat = p by omega] at this
      rw [e]
      exact ih.imp id (fun q => ⟨by omega, q.2⟩)
theorem pe_ly_b (t : Int → Int) (n c : Int) (hc : 4 ≤ c) : ∀ p : Nat, (0 ≤ (pe_ly t n c p).2 ∧ (pe_ly t n c p).2 ≤ c) ∧ (pe_ly t n c p).1 ≤ 2 * p
  | 0 => by show (0 ≤ (0 : Int) ∧ (0 : Int) ≤ c) ∧ (0 : Int) ≤ 2 * ((0 : Nat) : Int); omega
  | p + 1 => by
    have ih := pe_ly_b t n c hc p
    unfold pe_ly
    split
    · generalize pe_ly t n c p = s at ih
      generalize pe_cd t n p = d
      have hd : pe_wo d = 1 ∨ pe_wo d = 2 := by unfold pe_wo; split <;> omega
      unfold pe_nx pe_at
      split
      · split <;> (dsimp only; omega)
      · split
        · dsimp only; split <;> (try split) <;> omega
        · dsimp only; split <;> (try split) <;> omega
    · omega
theorem pe_rw_b (t : Int → Int) (n c p : Int) (hc : 4 ≤ c) (hp : 0 ≤ p) : (0 ≤ (pe_rw t n c p).2 ∧ (pe_rw t n c p).2 ≤ c) ∧ (0 ≤ (pe_rw t n c p).1 ∧ (pe_rw t n c p).1 ≤ 2 * p + 1) := by
  have ih := pe_ly_b t n c hc p.toNat
  have nn := pe_ly_nn t n c p.toNat
  unfold pe_rw pe_at
  split
  · dsimp only; omega
  · omega
theorem pe_wf_Mv {m : pe_H} {b : Int} (hw : pe_wf m) : pe_wf (pe_eMv m b) := by
  obtain ⟨w1, w2, w3, w4, w5, w6, w7, w8⟩ := id hw.1
  unfold pe_eMv
  split
  · exact hw
  · have g : -1 ≤ pe_gl m := by
      have := pe_rw_b (m 8) (m 0 0) (m 7 0) (m 1 0) (by omega) w2.1
      unfold pe_gl; split <;> omega
    have f := pe_fd_get (m 8) (m 0 0) (m 7 0) ((pe_rw (m 8) (m 0 0) (m 7 0) (m 1 0)).1 + b) (pe_gl m) (m 0 0 + 1).toNat
    refine pe_wf_cur (pe_wf_gl hw g) ?_
    show 0 ≤ (if pe_mf m b = -1 then m 1 0 else pe_mf m b) ∧ (if pe_mf m b = -1 then m 1 0 else pe_mf m b) ≤ m 0 0
    unfold pe_mf
    split <;> omega
theorem pe_bg_Mv {m : pe_H} {b : Int} (hg : pe_bg (m 8) (m 0 0) (m 1 0)) : pe_bg (pe_eMv m b 8) (pe_eMv m b 0 0) (pe_eMv m b 1 0) := by
  unfold pe_eMv
  split
  · exact hg
  · show pe_bg (m 8) (m 0 0) (if pe_mf m b = -1 then m 1 0 else pe_mf m b)
    have f := pe_fd_get (m 8) (m 0 0) (m 7 0) ((pe_rw (m 8) (m 0 0) (m 7 0) (m 1 0)).1 + b) (pe_gl m) (m 0 0 + 1).toNat
    split
    · exact hg
    · exact (f.resolve_left (by assumption)).2
theorem pe_wf_Pr {m : pe_H} {k : Int} (hw : pe_wf m) : pe_wf (pe_ePr m k) := by
  unfold pe_ePr
  split
  · split
    · exact pe_wf_Mv hw
    · exact hw
  · split
    · exact pe_wf_B (pe_wf_K (pe_wf_gl hw (by omega)))
    · exact hw
theorem pe_bg_Pr {m : pe_H} {k : Int} (hw : pe_wf m) (hg : pe_bg (m 8) (m 0 0) (m 1 0)) : pe_bg (pe_ePr m k 8) (pe_ePr m k 0 0) (pe_ePr m k 1 0) := by
  unfold pe_ePr
  split
  · split
    · exact pe_bg_Mv hg
    · exact hg
  · split
    · exact pe_bg_B (pe_wf_K (pe_wf_gl hw (by omega)))
    · exact hg
