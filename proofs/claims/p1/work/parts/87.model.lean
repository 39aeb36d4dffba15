/-! p1: a model of the editor: rows 0 length, 1 cursor, 2 mark, 3 clip's length, 4 goal, 5 changes, 6 pasting, 7 columns (read at 0), 8 text, 9 clip, 10 places, 11 came, 12 went, 13 cursors, 14 lost, 15 lengths before -/
noncomputable def pe_ep (P : Int → Prop) : Int := Classical.epsilon P
theorem pe_ep_eq {P : Int → Prop} {z : Int} (h : P z) (u : ∀ y, P y → z = y) : z = pe_ep P := u _ (Classical.epsilon_spec (p := P) ⟨z, h⟩)
noncomputable def pe_bf (t : Int → Int) (n p : Int) : Int := pe_ep (fun z => p ≤ z ∧ pe_bg t n z ∧ ∀ j, p ≤ j → j < z → ¬ pe_bg t n j)
noncomputable def pe_ba (t : Int → Int) (n p : Int) : Int := pe_ep (fun z => (0 ≤ z ∧ z < p) ∧ pe_bg t n z ∧ ∀ j, z < j → j < p → ¬ pe_bg t n j)
noncomputable def pe_lb (t : Int → Int) (p : Int) : Int := pe_ep (fun z => (0 ≤ z ∧ z ≤ p) ∧ (z = 0 ∨ t (z - 1) = 10) ∧ ∀ j, z ≤ j → j < p → t j ≠ 10)
noncomputable def pe_lz (t : Int → Int) (n p : Int) : Int := pe_ep (fun z => (p ≤ z ∧ z ≤ n) ∧ (z = n ∨ t z = 10) ∧ ∀ j, p ≤ j → j < z → t j ≠ 10)
theorem pe_bg_eq {t t' : Int → Int} {n p : Int} (ag : ∀ j, 0 ≤ j → j < n → t j = t' j) (hp : 0 ≤ p) : pe_bg t n p ↔ pe_bg t' n p := by
  unfold pe_bg
  by_cases h1 : p < n
  · have a0 := ag p hp h1
    by_cases h2 : 1 ≤ p
    · have a1 := ag (p - 1) (by omega) (by omega)
      by_cases h3 : 2 ≤ p
      · have a2 := ag (p - 2) (by omega) (by omega)
        rw [a0, a1, a2]
      · rw [a0, a1]; omega
    · omega
  · omega
theorem pe_bf_of {t t' : Int → Int} {n p z : Int} (ag : ∀ j, 0 ≤ j → j < n → t j = t' j) (hp : 0 ≤ p) (h1 : p ≤ z) (h2 : pe_bg t n z) (h3 : ∀ j, p ≤ j → j < z → ¬ pe_bg t n j) : z = pe_bf t' n p := by
  refine pe_ep_eq ⟨h1, (pe_bg_eq ag (by omega)).mp h2, fun j a b => fun q => h3 j a b ((pe_bg_eq ag (by omega)).mpr q)⟩ ?_
  intro y ⟨y1, y2, y3⟩
  by_cases a : y < z
  · exact absurd ((pe_bg_eq ag (by omega)).mpr y2) (h3 y y1 a)
  · by_cases b : z < y
    · exact absurd ((pe_bg_eq ag (by omega)).mp h2) (y3 z h1 b)
    · omega
theorem pe_bf_self {t : Int → Int} {n p : Int} (hp : 0 ≤ p) (h : pe_bg t n p) : p = pe_bf t n p := pe_bf_of (fun _ _ _ => rfl) hp (Int.le_refl _) h (fun j a b => absurd b (by omega))
theorem pe_bf_get {t : Int → Int} {n p : Int} (hp : 0 ≤ p) (hn : p ≤ n) : (p ≤ pe_bf t n p ∧ pe_bf t n p ≤ n) ∧ pe_bg t n (pe_bf t n p) := by
  have ex : ∀ (k : Nat) (q : Int), (n - q).toNat = k → p ≤ q → q ≤ n → (∀ j, p ≤ j → j < q → ¬ pe_bg t n j) → ∃ z, (p ≤ z ∧ z ≤ n) ∧ pe_bg t n z ∧ ∀ j, p ≤ j → j < z → ¬ pe_bg t n j := by
    intro k
    induction k with
    | zero => intro q hk h1 h2 h3; exact ⟨q, ⟨h1, h2⟩, Or.inl (by omega), h3⟩
    | succ k ih =>
      intro q hk h1 h2 h3
      by_cases b : pe_bg t n q
      · exact ⟨q, ⟨h1, h2⟩, b, h3⟩
      · refine ih (q + 1) (by omega) (by omega) (by omega) (fun j a c => ?_)
        by_cases w : j = q
        · rw [w]; exact b
        · exact h3 j a (by omega)
  obtain ⟨z, h1, h2, h3⟩ := ex _ p rfl (Int.le_refl _) hn (fun j a b => absurd b (by omega))
  rw [← pe_bf_of (fun _ _ _ => rfl) hp h1.1 h2 h3]
  exact ⟨h1, h2⟩
theorem pe_ba_of {t t' : Int → Int} {n p z : Int} (ag : ∀ j, 0 ≤ j → j < n → t j = t' j) (h1 : 0 ≤ z ∧ z < p) (h2 : pe_bg t n z) (h3 : ∀ j, z < j → j < p → ¬ pe_bg t n j) : z = pe_ba t' n p := by
  refine pe_ep_eq ⟨h1, (pe_bg_eq ag (by omega)).mp h2, fun j a b => fun q => h3 j a b ((pe_bg_eq ag (by omega)).mpr q)⟩ ?_
  intro y ⟨y1, y2, y3⟩
  by_cases a : y < z
  · exact absurd ((pe_bg_eq ag (by omega)).mp h2) (y3 z a (by omega))
  · by_cases b : z < y
    · exact absurd ((pe_bg_eq ag (by omega)).mpr y2) (h3 y b (by omega))
    · omega
theorem pe_lb_of {t t' : Int → Int} {n p z : Int} (ag : ∀ j, 0 ≤ j → j < n → t j = t' j) (hp : p ≤ n) (h1 : 0 ≤ z ∧ z ≤ p) (h2 : z = 0 ∨ t (z - 1) = 10) (h3 : ∀ j, z ≤ j → j < p → t j ≠ 10) : z = pe_lb t' p := by
  refine pe_ep_eq ⟨h1, ?_, fun j a b => by rw [← ag j (by omega) (by omega)]; exact h3 j a b⟩ ?_
  · by_cases q : z = 0
    · exact Or.inl q
    · rw [← ag (z - 1) (by omega) (by omega)]; exact h2
  intro y ⟨y1, y2, y3⟩
  by_cases a : y < z
  · have := y3 (z - 1) (by omega) (by omega)
    rw [← ag (z - 1) (by omega) (by omega)] at this
    omega
  · by_cases b : z < y
    · have := h3 (y - 1) (by omega) (by omega)
      rw [ag (y - 1) (by omega) (by omega)] at this
      omega
    · omega
theorem pe_lz_of {t t' : Int → Int} {n p z : Int} (ag : ∀ j, 0 ≤ j → j < n → t j = t' j) (hp : 0 ≤ p) (h1 : p ≤ z ∧ z ≤ n) (h2 : z = n ∨ t z = 10) (h3 : ∀ j, p ≤ j → j < z → t j ≠ 10) : z = pe_lz t' n p := by
  refine pe_ep_eq ⟨h1, ?_, fun j a b => by rw [← ag j (by omega) (by omega)]; exact h3 j a b⟩ ?_
  · by_cases q : z = n
    · exact Or.inl q
    · rw [← ag z (by omega) (by omega)]; exact h2
  intro y ⟨y1, y2, y3⟩
  by_cases a : y < z
  · have := h3 y (by omega) a
    rw [ag y (by omega) (by omega)] at this
    omega
  · by_cases b : z < y
    · have := y3 z (by omega) b
      rw [← ag z (by omega) (by omega)] at this
      omega
    · omega
/-- one row set; an insertion; a removal; the clip; an undoing -/
def pe_eS (m : pe_H) (r : Nat) (v : Int) : pe_H := fun b j => if b = r then v else m b j
def pe_eI (m : pe_H) (n : Int) (s : Int → Int) : pe_H := fun b j => match b with
  | 0 => m 0 0 + n
  | 1 => m 1 0 + n
  | 2 => -1
  | 5 => m 5 0 + 1
  | 8 => if j < m 1 0 then m 8 j else if j < m 1 0 + n then s (j - m 1 0) else m 8 (j - n)
  | 10 => if j = m 5 0 then m 1 0 else m 10 j
  | 11 => if j = m 5 0 then n else m 11 j
  | 12 => if j = m 5 0 then 0 else m 12 j
  | 13 => if j = m 5 0 then m 1 0 else m 13 j
  | 15 => if j = m 5 0 then m 0 0 else m 15 j
  | b => m b j
def pe_eIns (m : pe_H) (n : Int) (s : Int → Int) : pe_H := if n = 0 ∨ 200 < m 0 0 + n then m else pe_eI m n s
def pe_eD (m : pe_H) (p q : Int) : pe_H := fun b j => match b with
  | 0 => m 0 0 - (q - p)
  | 1 => p
  | 2 => -1
  | 5 => m 5 0 + 1
  | 8 => if j < p then m 8 j else m 8 (j + (q - p))
  | 10 => if j = m 5 0 then p else m 10 j
  | 11 => if j = m 5 0 then 0 else m 11 j
  | 12 => if j = m 5 0 then q - p else m 12 j
  | 13 => if j = m 5 0 then m 1 0 else m 13 j
  | 14 => if m 5 0 * 200 ≤ j then m 8 (p + (j - m 5 0 * 200)) else m 14 j
  | 15 => if j = m 5 0 then m 0 0 else m 15 j
  | b => m b j
def pe_eDel (m : pe_H) (p q : Int) : pe_H := if q ≤ p then m else pe_eD m p q
def pe_eC (m : pe_H) (p q : Int) : pe_H := fun b j => match b with
  | 3 => q - p
  | 9 => m 8 (p + j)
  | b => m b j
def pe_eCut (m : pe_H) : pe_H := if m 2 0 = -1 ∨ m 2 0 = m 1 0 then m else if m 2 0 < m 1 0 then pe_eDel (pe_eC m (m 2 0) (m 1 0)) (m 2 0) (m 1 0) else pe_eDel (pe_eC m (m 1 0) (m 2 0)) (m 1 0) (m 2 0)
def pe_eU (m : pe_H) (i : Int) : pe_H := fun b j => match b with
  | 0 => m 0 0 - m 11 i + m 12 i
  | 1 => m 13 i
  | 2 => -1
  | 5 => i
  | 8 => if j < m 10 i then m 8 j else if j < m 10 i + m 12 i then m 14 (i * 200 + (j - m 10 i)) else m 8 (j - m 12 i + m 11 i)
  | b => m b j
def pe_eUndo (m : pe_H) : pe_H := if m 5 0 = 0 then m else pe_eU m (m 5 0 - 1)
noncomputable def pe_eB (m : pe_H) : pe_H := pe_eS m 1 (pe_bf (m 8) (m 0 0) (m 1 0))
/-- the class's cells, the reference's cells: as the model -/
def pe_ca (m σ : pe_H) : Prop := ((σ 3 1 = m 0 0 ∧ σ 2 7 = m 1 0 ∧ σ 2 8 = m 2 0 ∧ σ 2 5 = m 3 0 ∧ σ 2 9 = m 4 0) ∧ (σ 5 5 = 0 ∧ σ 5 6 = m 5 0) ∧ σ 2 10 = m 6 0 ∧ σ 2 6 = m 7 0) ∧ (∀ j, 0 ≤ j → j < m 0 0 → σ 4 j = m 8 j) ∧ (∀ j, 0 ≤ j → j < m 3 0 → σ 15 j = m 9 j) ∧ ∀ i, 0 ≤ i → i < m 5 0 → (σ 6 i = m 10 i ∧ σ 8 i = m 13 i) ∧ ((σ 9 i = 0 ∧ σ 7 i = m 11 i ∧ m 12 i = 0) ∨ (σ 9 i = 1 ∧ σ 7 i = m 12 i ∧ m 11 i = 0 ∧ ∀ j, 0 ≤ j → j < m 12 i → σ 10 (i * 200 + j) = m 14 (i * 200 + j)))
def pe_ra (m σ : pe_H) : Prop := ((σ 29 1 = m 0 0 ∧ σ 29 2 = m 1 0 ∧ σ 29 3 = m 2 0 ∧ σ 29 5 = m 3 0 ∧ σ 29 6 = m 4 0) ∧ σ 29 7 = m 5 0 ∧ σ 29 19 = m 6 0 ∧ σ 29 21 = m 7 0) ∧ (∀ j, 0 ≤ j → j < m 0 0 → σ 30 j = m 8 j) ∧ (∀ j, 0 ≤ j → j < m 3 0 → σ 31 j = m 9 j) ∧ ∀ i, 0 ≤ i → i < m 5 0 → (σ 32 i = m 10 i ∧ σ 33 i = m 11 i ∧ σ 34 i = m 12 i ∧ σ 35 i = m 13 i) ∧ ∀ j, 0 ≤ j → j < m 12 i → σ 36 (i * 200 + j) = m 14 (i * 200 + j)
/-- what every state of the model keeps -/
def pe_ok (c : Int) : Prop := c = 9 ∨ c = 10 ∨ (32 ≤ c ∧ c ≤ 65535)
def pe_wfa (m : pe_H) : Prop := (0 ≤ m 0 0 ∧ m 0 0 ≤ 200) ∧ (0 ≤ m 1 0 ∧ m 1 0 ≤ m 0 0) ∧ (-1 ≤ m 2 0 ∧ m 2 0 ≤ m 0 0) ∧ (0 ≤ m 3 0 ∧ m 3 0 ≤ 200) ∧ -1 ≤ m 4 0 ∧ 0 ≤ m 5 0 ∧ (m 6 0 = 0 ∨ m 6 0 = 1) ∧ (1 ≤ m 7 0 ∧ m 7 0 ≤ 24)
def pe_wfb (m : pe_H) : Prop := (∀ j, 0 ≤ j → j < m 0 0 → pe_ok (m 8 j)) ∧ (∀ j, 0 ≤ j → j < m 3 0 → pe_ok (m 9 j)) ∧ ∀ i j, 0 ≤ i → i < m 5 0 → 0 ≤ j → j < m 12 i → pe_ok (m 14 (i * 200 + j))
def pe_wfc (m : pe_H) : Prop := ∀ i, 0 ≤ i → i < m 5 0 → (0 ≤ m 10 i ∧ 0 ≤ m 11 i ∧ 0 ≤ m 12 i ∧ 0 ≤ m 13 i ∧ m 13 i ≤ m 15 i ∧ m 15 i ≤ 200 ∧ m 10 i + m 12 i ≤ m 15 i) ∧ (i + 1 = m 5 0 → m 0 0 = m 15 i + m 11 i - m 12 i) ∧ (i + 1 < m 5 0 → m 15 (i + 1) = m 15 i + m 11 i - m 12 i)
def pe_wf (m : pe_H) : Prop := pe_wfa m ∧ pe_wfb m ∧ pe_wfc m
