/-! p1: class's and reference's runs of the model have one length for eight bytes -/
def pe_ag (a b : pe_H) : Prop := ∀ r, r ≠ 4 → a r = b r
theorem pe_ag_S {a b : pe_H} (h : pe_ag a b) (v : Int) : pe_eS a 4 v = pe_eS b 4 v := by
  funext r j
  show (if r = 4 then v else a r j) = if r = 4 then v else b r j
  by_cases e : r = 4
  · rw [if_pos e, if_pos e]
  · rw [if_neg e, if_neg e, h r e]
theorem pe_4I (m : pe_H) (n : Int) (s : Int → Int) : pe_eIns m n s 4 0 = m 4 0 := by
  unfold pe_eIns
  split <;> rfl
theorem pe_4D (m : pe_H) (p q : Int) : pe_eDel m p q 4 0 = m 4 0 := by
  unfold pe_eDel
  split <;> rfl
theorem pe_4C (m : pe_H) : pe_eCut m 4 0 = m 4 0 := by
  unfold pe_eCut
  split
  · rfl
  · split <;> exact pe_4D (pe_eC m _ _) _ _
theorem pe_4U (m : pe_H) : pe_eUndo m 4 0 = m 4 0 := by
  unfold pe_eUndo
  split <;> rfl
theorem pe_4K (m : pe_H) (k : Int) : pe_eCmd m k 4 0 = m 4 0 := by
  have h0 : m 4 0 = m 4 0 := rfl
  unfold pe_eCmd
  refine pe_ite (P := fun x => x 4 0 = m 4 0) (fun hh => pe_4I _ _ _) (fun hh => ?_)
  refine pe_ite (P := fun x => x 4 0 = m 4 0) (fun hh => pe_4I _ _ _) (fun hh => ?_)
  refine pe_ite (P := fun x => x 4 0 = m 4 0) (fun hh => ?_) (fun hh => ?_)
  · exact pe_ite (P := fun x => x 4 0 = m 4 0) (fun hh => pe_4I _ _ _) (fun hh => h0)
  refine pe_ite (P := fun x => x 4 0 = m 4 0) (fun hh => ?_) (fun hh => ?_)
  · exact pe_ite (P := fun x => x 4 0 = m 4 0) (fun hh => h0) (fun hh => pe_4D _ _ _)
  refine pe_ite (P := fun x => x 4 0 = m 4 0) (fun hh => ?_) (fun hh => ?_)
  · exact pe_ite (P := fun x => x 4 0 = m 4 0) (fun hh => h0) (fun hh => pe_4D _ _ _)
  refine pe_ite (P := fun x => x 4 0 = m 4 0) (fun hh => ?_) (fun hh => ?_)
  · exact pe_ite (P := fun x => x 4 0 = m 4 0) (fun hh => h0) (fun hh => h0)
  refine pe_ite (P := fun x => x 4 0 = m 4 0) (fun hh => ?_) (fun hh => ?_)
  · exact pe_ite (P := fun x => x 4 0 = m 4 0) (fun hh => h0) (fun hh => h0)
  refine pe_ite (P := fun x => x 4 0 = m 4 0) (fun hh => h0) (fun hh => ?_)
  refine pe_ite (P := fun x => x 4 0 = m 4 0) (fun hh => h0) (fun hh => ?_)
  refine pe_ite (P := fun x => x 4 0 = m 4 0) (fun hh => h0) (fun hh => ?_)
  refine pe_ite (P := fun x => x 4 0 = m 4 0) (fun hh => h0) (fun hh => ?_)
  refine pe_ite (P := fun x => x 4 0 = m 4 0) (fun hh => pe_4C _) (fun hh => ?_)
  refine pe_ite (P := fun x => x 4 0 = m 4 0) (fun hh => pe_4I _ _ _) (fun hh => ?_)
  refine pe_ite (P := fun x => x 4 0 = m 4 0) (fun hh => pe_4U _) (fun hh => ?_)
  refine pe_ite (P := fun x => x 4 0 = m 4 0) (fun hh => h0) (fun hh => ?_)
  exact pe_ite (P := fun x => x 4 0 = m 4 0) (fun hh => h0) (fun hh => h0)
theorem pe_4B (m : pe_H) (k : Int) : pe_eB (pe_eK (pe_eS m 4 (-1)) k) 4 0 = -1 := by
  show pe_eK (pe_eS m 4 (-1)) k 4 0 = -1
  unfold pe_eK
  exact pe_ite (P := fun x => x 4 0 = -1) (fun _ => pe_4I (pe_eS m 4 (-1)) _ _) (fun _ => pe_4K (pe_eS m 4 (-1)) _)
/-- the cursor's row is one value -/
def pe_co (a : pe_H) : Prop := ∀ j, a 1 j = a 1 0
theorem pe_co_r {m : pe_H} (h : pe_co m) (k : Int) : pe_co (pe_ePr m k) := by
  unfold pe_ePr
  refine pe_ite (P := pe_co) (fun hh => ?_) (fun hh => ?_)
  · refine pe_ite (P := pe_co) (fun hh => ?_) (fun hh => h)
    unfold pe_eMv
    exact pe_ite (P := pe_co) (fun hh => h) (fun hh => fun _ => rfl)
  · split
    · exact fun _ => rfl
    · exact h
theorem pe_ag_wk {a b : pe_H} (h : pe_ag a b) (k : Int) : pe_wk a k ↔ pe_wk b k := by
  unfold pe_wk
  rw [h 6 (by decide)]
/-- one key that is no Up and no Down -/
theorem pe_ag_k {a b : pe_H} {k : Int} (h : pe_ag a b) (hc : pe_co a) (hw : pe_wf a) (hg : pe_bg (a 8) (a 0 0) (a 1 0)) (hk : k ≠ 65536 ∧ k ≠ 65537) : (pe_ePr a k = a ∧ pe_ePq b k = b ∧ ¬ pe_wk a k) ∨ (pe_ag (pe_ePr a k) (pe_ePq b k) ∧ pe_ePr a k 4 0 = -1 ∧ pe_ePq b k 4 0 = -1) ∨ (k = 10 ∧ a 6 0 = 0 ∧ pe_ag (pe_ePr a k) (pe_ePq b k) ∧ pe_ePr a k 4 0 = -1 ∧ pe_ePq b k = b) := by
  have e6 : a 6 = b 6 := h 6 (by decide)
  by_cases w : pe_wk a k
  · have A : pe_ePr a k = pe_eB (pe_eK (pe_eS a 4 (-1)) k) := by
      unfold pe_ePr; rw [if_neg (by omega), if_pos w]
    by_cases s : k = 10 ∧ b 6 0 = 0
    · have B : pe_ePq b k = b := by unfold pe_ePq; rw [if_pos s]
      have a6 : a 6 0 = 0 := by rw [e6]; exact s.2
      refine Or.inr (Or.inr ⟨s.1, a6, ?_, by rw [A]; exact pe_4B a k, B⟩)
      rw [A, B, s.1]
      have K : pe_eK (pe_eS a 4 (-1)) 10 = pe_eS a 4 (-1) := by
        unfold pe_eK
        rw [if_neg (by omega)]
        unfold pe_eCmd
        rw [if_neg (by omega), if_neg (by omega), if_pos rfl, if_neg (show ¬ pe_eS a 4 (-1) 6 0 = 1 from fun q => by change a 6 0 = 1 at q; omega)]
      rw [K]
      intro r hr
      funext j
      by_cases e : r = 1
      · rw [e, ← h 1 (by decide), hc j]
        exact (pe_bf_self hw.1.2.1.1 hg).symm
      · show (if r = 1 then _ else if r = 4 then (-1 : Int) else a r j) = b r j
        rw [if_neg e, if_neg hr, h r hr]
    · have B : pe_ePq b k = pe_eB (pe_eK (pe_eS b 4 (-1)) k) := by
        unfold pe_ePq; rw [if_neg s]; unfold pe_ePr; rw [if_neg (by omega), if_pos ((pe_ag_wk h k).mp w)]
      refine Or.inr (Or.inl ⟨?_, by rw [A]; exact pe_4B a k, by rw [B]; exact pe_4B b k⟩)
      rw [A, B, pe_ag_S h]
      exact fun _ _ => rfl
  · have w2 : ¬ pe_wk b k := fun x => w ((pe_ag_wk h k).mpr x)
    refine Or.inl ⟨?_, ?_, w⟩
    · unfold pe_ePr; rw [if_neg (by omega), if_neg w]
    · unfold pe_ePq
      split
      · rfl
      · unfold pe_ePr; rw [if_neg (by omega), if_neg w2]
theorem pe_ag_p {a b : pe_H} {k : Int} (h : pe_ag a b) (hc : pe_co a) (hw : pe_wf a) (hg : pe_bg (a 8) (a 0 0) (a 1 0)) (hk : k ≠ 65536 ∧ k ≠ 65537) : pe_ag (pe_ePr a k) (pe_ePq b k) := by
  rcases pe_ag_k h hc hw hg hk with ⟨e1, e2, _⟩ | ⟨x, _⟩ | ⟨_, _, x, _⟩
  · rw [e1, e2]; exact h
  · exact x
  · exact x
theorem pe_q_up (b : pe_H) {k : Int} (hk : k = 65536 ∨ k = 65537) : pe_ePq b k = if b 6 0 = 0 then pe_eMv b (if k = 65536 then -1 else 1) else b := by
  unfold pe_ePq
  rw [if_neg (by omega)]
  unfold pe_ePr
  rw [if_pos hk]
theorem pe_r_up (b : pe_H) {k : Int} (hk : k = 65536 ∨ k = 65537) : pe_ePr b k = if b 6 0 = 0 then pe_eMv b (if k = 65536 then -1 else 1) else b := by
  unfold pe_ePr
  rw [if_pos hk]
theorem pe_up_0 (b : pe_H) (z : Int) : (if b 6 0 = 0 then pe_eMv b z else b) 0 0 = b 0 0 := by
  refine pe_ite (P := fun x => x 0 0 = b 0 0) (fun _ => ?_) (fun _ => rfl)
  unfold pe_eMv
  exact pe_ite (P := fun x => x 0 0 = b 0 0) (fun _ => rfl) (fun _ => rfl)
theorem pe_gl_eq {a b : pe_H} (h : pe_ag a b) (e : a 4 0 = b 4 0) : pe_gl a = pe_gl b := by
  unfold pe_gl
  rw [e, h 8 (by decide), h 0 (by decide), h 7 (by decide), h 1 (by decide)]
theorem pe_mf_eq {a b : pe_H} (h : pe_ag a b) (e : a 4 0 = b 4 0) (z : Int) : pe_mf a z = pe_mf b z := by
  unfold pe_mf
  rw [pe_gl_eq h e, h 8 (by decide), h 0 (by decide), h 7 (by decide), h 1 (by decide)]
theorem pe_up_e {a b : pe_H} (h : pe_ag a b) (e : a 4 0 = b 4 0) (z : Int) : pe_ag (if a 6 0 = 0 then pe_eMv a z else a) (if b 6 0 = 0 then pe_eMv b z else b) ∧ (if a 6 0 = 0 then pe_eMv a z else a) 4 0 = (if b 6 0 = 0 then pe_eMv b z else b) 4 0 := by
  rw [h 6 (by decide)]
  by_cases g : b 6 0 = 0
  · rw [if_pos g, if_pos g]
    unfold pe_eMv
    rw [h 7 (by decide)]
    by_cases c : b 7 0 < 4
    · rw [if_pos c, if_pos c]; exact ⟨h, e⟩
    · rw [if_neg c, if_neg c, pe_gl_eq h e, pe_mf_eq h e, pe_ag_S h, h 1 (by decide)]
      exact ⟨fun _ _ => rfl, rfl⟩
  · rw [if_neg g, if_neg g]; exact ⟨h, e⟩
theorem pe_up_n {a b : pe_H} (h : pe_ag a b) (hw : pe_wf a) (e : a 0 0 = 0) (z : Int) : pe_ag (if a 6 0 = 0 then pe_eMv a z else a) (if b 6 0 = 0 then pe_eMv b z else b) := by
  have K : ∀ m : pe_H, m 0 0 = 0 → m 1 0 = 0 → (if pe_mf m z = -1 then m 1 0 else pe_mf m z) = 0 := by
    intro m h0 h1
    have q := pe_fd_get (m 8) (m 0 0) (m 7 0) ((pe_rw (m 8) (m 0 0) (m 7 0) (m 1 0)).1 + z) (pe_gl m) (m 0 0 + 1).toNat
    change pe_mf m z = -1 ∨ ((0 ≤ pe_mf m z ∧ pe_mf m z < _) ∧ _) at q
    omega
  have a1 : a 1 0 = 0 := by have := hw.1.2.1; omega
  have e1 := h 1 (by decide)
  have e0 := h 0 (by decide)
  rw [h 6 (by decide)]
  by_cases g : b 6 0 = 0
  · rw [if_pos g, if_pos g]
    unfold pe_eMv
    rw [h 7 (by decide)]
    by_cases c : b 7 0 < 4
    · rw [if_pos c, if_pos c]; exact h
    · rw [if_neg c, if_neg c, K a e a1, K b (by rw [← e0]; exact e) (by rw [← e1]; exact a1)]
      intro r hr
      funext j
      show (if r = 1 then (0 : Int) else if r = 4 then _ else a r j) = if r = 1 then (0 : Int) else if r = 4 then _ else b r j
      by_cases r1 : r = 1
      · rw [if_pos r1, if_pos r1]
      · rw [if_neg r1, if_neg r1, if_neg hr, if_neg hr, h r hr]
  · rw [if_neg g, if_neg g]; exact h
/-- the keyboard's weight -/
def pe_wg (s : Int → Int) : Int := if s 0 = 2 then 2 else if s 0 = 0 then 0 else 1
theorem pe_wg_l {s : Int → Int} {t : Int} (h : pe_kl s t ≠ -1) : (pe_kl s t = 27 ∨ pe_kl s t = 65533) ∧ pe_wg s = 1 ∧ pe_kx s t 0 = 0 := by
  show _ ∧ (if s 0 = 2 then (2 : Int) else if s 0 = 0 then 0 else 1) = 1 ∧ (if (s 0 = 1 ∧ t ≠ 91) ∨ (s 0 = 2 ∧ ¬ ((48 ≤ t ∧ t ≤ 57) ∨ (64 ≤ t ∧ t ≤ 126))) ∨ (s 0 = 3 ∧ (t < s 4 ∨ s 5 < t)) then (0 : Int) else s 0) = 0
  unfold pe_kl at h ⊢
  omega
theorem pe_wg_x (s : Int → Int) (t : Int) : pe_wg (pe_kx s t) ≤ pe_wg s ∧ 0 ≤ pe_wg (pe_kx s t) := by
  show (if (if (s 0 = 1 ∧ t ≠ 91) ∨ (s 0 = 2 ∧ ¬ ((48 ≤ t ∧ t ≤ 57) ∨ (64 ≤ t ∧ t ≤ 126))) ∨ (s 0 = 3 ∧ (t < s 4 ∨ s 5 < t)) then (0 : Int) else s 0) = 2 then (2 : Int) else if (if (s 0 = 1 ∧ t ≠ 91) ∨ (s 0 = 2 ∧ ¬ ((48 ≤ t ∧ t ≤ 57) ∨ (64 ≤ t ∧ t ≤ 126))) ∨ (s 0 = 3 ∧ (t < s 4 ∨ s 5 < t)) then (0 : Int) else s 0) = 0 then 0 else 1) ≤ (if s 0 = 2 then (2 : Int) else if s 0 = 0 then 0 else 1) ∧ 0 ≤ (if (if (s 0 = 1 ∧ t ≠ 91) ∨ (s 0 = 2 ∧ ¬ ((48 ≤ t ∧ t ≤ 57) ∨ (64 ≤ t ∧ t ≤ 126))) ∨ (s 0 = 3 ∧ (t < s 4 ∨ s 5 < t)) then (0 : Int) else s 0) = 2 then (2 : Int) else if (if (s 0 = 1 ∧ t ≠ 91) ∨ (s 0 = 2 ∧ ¬ ((48 ≤ t ∧ t ≤ 57) ∨ (64 ≤ t ∧ t ≤ 126))) ∨ (s 0 = 3 ∧ (t < s 4 ∨ s 5 < t)) then (0 : Int) else s 0) = 0 then 0 else 1)
  omega
theorem pe_wg_y {s : Int → Int} {t : Int} (hk : pe_kw s) : pe_wg (pe_ky s t) ≤ pe_wg s + 1 ∧ 0 ≤ pe_wg (pe_ky s t) ∧ (s 0 = 0 → pe_wg (pe_ky s t) ≤ 1) := by
  have h0 := hk.1
  clear hk
  show (if (if s 0 = 1 then (2 : Int) else if s 0 = 2 then (if (48 ≤ t ∧ t ≤ 57) then 2 else 0) else if s 0 = 3 then (if 1 < s 3 then 3 else 0) else if t = 27 then 1 else if (194 ≤ t ∧ t ≤ 239) then 3 else 0) = 2 then (2 : Int) else if (if s 0 = 1 then (2 : Int) else if s 0 = 2 then (if (48 ≤ t ∧ t ≤ 57) then 2 else 0) else if s 0 = 3 then (if 1 < s 3 then 3 else 0) else if t = 27 then 1 else if (194 ≤ t ∧ t ≤ 239) then 3 else 0) = 0 then 0 else 1) ≤ (if s 0 = 2 then (2 : Int) else if s 0 = 0 then 0 else 1) + 1 ∧ 0 ≤ (if (if s 0 = 1 then (2 : Int) else if s 0 = 2 then (if (48 ≤ t ∧ t ≤ 57) then 2 else 0) else if s 0 = 3 then (if 1 < s 3 then 3 else 0) else if t = 27 then 1 else if (194 ≤ t ∧ t ≤ 239) then 3 else 0) = 2 then (2 : Int) else if (if s 0 = 1 then (2 : Int) else if s 0 = 2 then (if (48 ≤ t ∧ t ≤ 57) then 2 else 0) else if s 0 = 3 then (if 1 < s 3 then 3 else 0) else if t = 27 then 1 else if (194 ≤ t ∧ t ≤ 239) then 3 else 0) = 0 then 0 else 1) ∧ (s 0 = 0 → (if (if s 0 = 1 then (2 : Int) else if s 0 = 2 then (if (48 ≤ t ∧ t ≤ 57) then 2 else 0) else if s 0 = 3 then (if 1 < s 3 then 3 else 0) else if t = 27 then 1 else if (194 ≤ t ∧ t ≤ 239) then 3 else 0) = 2 then (2 : Int) else if (if s 0 = 1 then (2 : Int) else if s 0 = 2 then (if (48 ≤ t ∧ t ≤ 57) then 2 else 0) else if s 0 = 3 then (if 1 < s 3 then 3 else 0) else if t = 27 then 1 else if (194 ≤ t ∧ t ≤ 239) then 3 else 0) = 0 then 0 else 1) ≤ 1)
  rcases (show s 0 = 0 ∨ s 0 = 1 ∨ s 0 = 2 ∨ s 0 = 3 by omega) with e | e | e | e
  · simp only [e]; simp; omega
  · simp only [e]; simp
  · simp only [e]; simp; omega
  · simp only [e]; simp; omega
theorem pe_wg_u {s : Int → Int} {t : Int} (hk : pe_kw s) (ht : 0 ≤ t ∧ t ≤ 255) (hg : s 0 = 3 → s 4 ≤ t ∧ t ≤ s 5) (h : pe_kk s t = 65536 ∨ pe_kk s t = 65537) : s 0 = 2 := by
  unfold pe_kw at hk
  rcases (show s 0 = 0 ∨ s 0 = 1 ∨ s 0 = 2 ∨ s 0 = 3 by omega) with e | e | e | e
  · unfold pe_kk at h; rw [if_neg (by omega), if_neg (by omega), if_neg (by omega)] at h; omega
  · unfold pe_kk at h; rw [if_pos e] at h; omega
  · exact e
  · unfold pe_kk at h; rw [if_neg (by omega), if_neg (by omega), if_pos e] at h; omega

def pe_bu (a b : pe_H) (s : Int → Int) (i : Int) : Prop := (a 4 0 = b 4 0 ∧ pe_wg s + (if a 4 0 = -1 then 0 else 3) + (if a 0 0 = 0 then 0 else 1) ≤ i) ∨ (a 4 0 = -1 ∧ pe_wg s + 4 + (if a 0 0 = 0 then 0 else 1) ≤ i)
theorem pe_bu_s {a b : pe_H} {s : Int → Int} {i t : Int} (hi : i ≤ 6) (hx : pe_iv (a, s) i) (h : pe_ag a b) (hc : pe_co a) (hb : pe_bu a b s i) (ht : 0 ≤ t ∧ t ≤ 255) : pe_ag (pe_st pe_ePr (a, s) t).1 (pe_st pe_ePq (b, s) t).1 ∧ (i ≤ 5 → pe_bu (pe_st pe_ePr (a, s) t).1 (pe_st pe_ePq (b, s) t).1 (pe_ky (pe_kx s t) t) (i + 1)) := by
  obtain ⟨⟨⟨g1, g2⟩, _⟩, k0, _⟩ := pe_iv_s pe_gd_r hx ht
  have k1 : pe_kw (pe_kx s t) := k0
  clear k0
  obtain ⟨⟨hw, hg⟩, hk, _⟩ := hx
  show pe_ag (pe_ePr (pe_ePr a (pe_kl s t)) (pe_kk (pe_kx s t) t)) (pe_ePq (pe_ePq b (pe_kl s t)) (pe_kk (pe_kx s t) t)) ∧ (i ≤ 5 → pe_bu (pe_ePr (pe_ePr a (pe_kl s t)) (pe_kk (pe_kx s t) t)) (pe_ePq (pe_ePq b (pe_kl s t)) (pe_kk (pe_kx s t) t)) (pe_ky (pe_kx s t) t) (i + 1))
  have wx := pe_wg_x s t
  have wy := pe_wg_y (t := t) k1
  have w2 : pe_kk (pe_kx s t) t ≠ -1 → pe_wg (pe_ky (pe_kx s t) t) = 0 := fun e => by
    have := pe_kk_n k1 e
    unfold pe_wg
    rw [this]; rfl
  have wu : (pe_kk (pe_kx s t) t = 65536 ∨ pe_kk (pe_kx s t) t = 65537) → pe_kx s t 0 = 2 := pe_wg_u k1 ht (pe_kg_1 s t).2.2
  have wv : pe_kx s t 0 = 2 → pe_wg (pe_kx s t) = 2 := fun e => by unfold pe_wg; rw [if_pos e]
  change pe_wf (pe_ePr a (pe_kl s t)) at g1
  change pe_bg (pe_ePr a (pe_kl s t) 8) (pe_ePr a (pe_kl s t) 0 0) (pe_ePr a (pe_kl s t) 1 0) at g2
  generalize hK : pe_kk (pe_kx s t) t = K at *
  have L : ∀ x : Int, (if x = 0 then (0 : Int) else 1) ≤ 1 := fun x => by split <;> omega
  have L0 : ∀ x : Int, 0 ≤ (if x = 0 then (0 : Int) else 1) := fun x => by split <;> omega
  have hb0 : pe_wg s ≤ i := by
    have := L0 (a 0 0)
    rcases hb with ⟨_, q⟩ | ⟨_, q⟩
    · revert q; split <;> intro q <;> omega
    · omega
  by_cases e : pe_kl s t = -1
  · rw [e, pe_ePr_n, pe_gd_q.2.2.2 b]
    by_cases u : K = 65536 ∨ K = 65537
    · have v0 := w2 (by omega)
      have v1 := wv (wu u)
      rw [pe_r_up a u, pe_q_up b u]
      have z0 := pe_up_0 a (if K = 65536 then -1 else 1)
      rcases hb with ⟨p, q⟩ | ⟨p, q⟩
      · obtain ⟨r1, r2⟩ := pe_up_e h p (if K = 65536 then -1 else 1)
        refine ⟨r1, fun _ => Or.inl ⟨r2, ?_⟩⟩
        rw [v0, z0]
        omega
      · have l0 : a 0 0 = 0 := by omega
        exact ⟨pe_up_n h hw l0 _, fun _ => by omega⟩
    · by_cases n : K = -1
      · rw [n, pe_ePr_n, pe_gd_q.2.2.2 b]
        refine ⟨h, fun _ => ?_⟩
        rcases hb with ⟨p, q⟩ | ⟨p, q⟩
        · exact Or.inl ⟨p, by omega⟩
        · exact Or.inr ⟨p, by omega⟩
      · have v0 := w2 n
        rcases pe_ag_k h hc hw hg (k := K) (by omega) with ⟨e1, e2, _⟩ | ⟨r, e1, e2⟩ | ⟨_, _, r, e1, e2⟩
        · rw [e1, e2]
          refine ⟨h, fun _ => ?_⟩
          rcases hb with ⟨p, q⟩ | ⟨p, q⟩
          · exact Or.inl ⟨p, by omega⟩
          · exact Or.inr ⟨p, by omega⟩
        · refine ⟨r, fun _ => Or.inl ⟨e1.trans e2.symm, ?_⟩⟩
          rw [if_pos e1]
          refine Int.le_trans (Int.add_le_add_left (L _) _) ?_
          clear hb L L0
          omega
        · refine ⟨r, fun _ => ?_⟩
          have r0 := congrFun (r 0 (by decide)) 0
          rw [e2] at r0 ⊢
          rw [← h 0 (by decide)] at r0
          rcases hb with ⟨p, q⟩ | ⟨p, q⟩
          · by_cases c : a 4 0 = -1
            · refine Or.inl ⟨by rw [e1, ← p, c], ?_⟩
              rw [if_pos e1, r0]
              omega
            · refine Or.inr ⟨e1, ?_⟩
              rw [r0]
              omega
          · refine Or.inr ⟨e1, ?_⟩
            rw [r0]
            omega
  · obtain ⟨l1, l2, l3⟩ := pe_wg_l e
    have nk : K ≠ 65536 ∧ K ≠ 65537 := by
      constructor <;> intro q <;> have := wu (by omega) <;> omega
    have v1 := wy.2.2 l3
    rcases pe_ag_k h hc hw hg (k := pe_kl s t) (by omega) with ⟨e1, e2, nw⟩ | ⟨r, e1, e2⟩ | ⟨e0, _⟩
    · rw [e1, e2]
      have n6 : a 6 0 ≠ 0 := fun q => nw (by unfold pe_wk; omega)
      rcases pe_ag_k h hc hw hg nk with ⟨e1, e2, _⟩ | ⟨r, e1, e2⟩ | ⟨_, z, _⟩
      · rw [e1, e2]
        refine ⟨h, fun _ => ?_⟩
        rcases hb with ⟨p, q⟩ | ⟨p, q⟩
        · exact Or.inl ⟨p, by omega⟩
        · exact Or.inr ⟨p, by omega⟩
      · refine ⟨r, fun _ => Or.inl ⟨e1.trans e2.symm, ?_⟩⟩
        rw [if_pos e1]
        refine Int.le_trans (Int.add_le_add_left (L _) _) ?_
        clear hb L L0
        omega
      · omega
    · rcases pe_ag_k r (pe_co_r hc _) g1 g2 nk with ⟨e3, e4, _⟩ | ⟨r, e3, e4⟩ | ⟨_, _, r, e3, e4⟩
      · rw [e3, e4]
        refine ⟨r, fun _ => Or.inl ⟨e1.trans e2.symm, ?_⟩⟩
        rw [if_pos e1]
        refine Int.le_trans (Int.add_le_add_left (L _) _) ?_
        clear hb L L0
        omega
      · refine ⟨r, fun _ => Or.inl ⟨e3.trans e4.symm, ?_⟩⟩
        rw [if_pos e3]
        refine Int.le_trans (Int.add_le_add_left (L _) _) ?_
        clear hb L L0
        omega
      · refine ⟨r, fun _ => Or.inl ⟨?_, ?_⟩⟩
        · rw [e3, e4, e2]
        · rw [if_pos e3]
          refine Int.le_trans (Int.add_le_add_left (L _) _) ?_
          clear hb L L0
          omega
    · omega
/-- the last byte: any goals -/
theorem pe_bu_l {a b : pe_H} {s : Int → Int} {i t : Int} (hx : pe_iv (a, s) i) (h : pe_ag a b) (hc : pe_co a) (ht : 0 ≤ t ∧ t ≤ 255) : (pe_st pe_ePr (a, s) t).1 0 0 = (pe_st pe_ePq (b, s) t).1 0 0 := by
  obtain ⟨⟨⟨g1, g2⟩, _⟩, k0, _⟩ := pe_iv_s pe_gd_r hx ht
  have k1 : pe_kw (pe_kx s t) := k0
  clear k0
  obtain ⟨⟨hw, hg⟩, hk, _⟩ := hx
  show pe_ePr (pe_ePr a (pe_kl s t)) (pe_kk (pe_kx s t) t) 0 0 = pe_ePq (pe_ePq b (pe_kl s t)) (pe_kk (pe_kx s t) t) 0 0
  have l : pe_kl s t ≠ 65536 ∧ pe_kl s t ≠ 65537 := by
    by_cases e : pe_kl s t = -1
    · omega
    · have := (pe_wg_l e).1; omega
  have r := pe_ag_p h hc hw hg l
  by_cases u : pe_kk (pe_kx s t) t = 65536 ∨ pe_kk (pe_kx s t) t = 65537
  · rw [pe_r_up _ u, pe_q_up _ u, pe_up_0, pe_up_0, r 0 (by decide)]
  · exact congrFun (pe_ag_p r (pe_co_r hc _) g1 g2 (by omega) 0 (by decide)) 0
theorem pe_run_k (f g : pe_H → Int → pe_H) (u : Nat → Int) (a b : pe_H) (s : Int → Int) : ∀ i : Nat, (pe_run f u (a, s) i).2 = (pe_run g u (b, s) i).2
  | 0 => rfl
  | i + 1 => by
    show pe_ky (pe_kx (pe_run f u (a, s) i).2 (u i)) (u i) = pe_ky (pe_kx (pe_run g u (b, s) i).2 (u i)) (u i)
    rw [pe_run_k f g u a b s i]
theorem pe_co_run (u : Nat → Int) (x : pe_H × (Int → Int)) (h : pe_co x.1) : ∀ i : Nat, pe_co (pe_run pe_ePr u x i).1
  | 0 => h
  | i + 1 => pe_co_r (pe_co_r (pe_co_run u x h i) _) _
theorem pe_len_run {w : Int64} {a : pe_H} {s : Int → Int} (h : pe_iv (a, s) 0) (hc : pe_co a) (hb : pe_bu a a s 0) {n : Nat} (hn : n ≤ 8) : (pe_run pe_ePr (pe_by w) (a, s) n).1 0 0 = (pe_run pe_ePq (pe_by w) (a, s) n).1 0 0 := by
  have J : ∀ i : Nat, i ≤ 7 → pe_ag (pe_run pe_ePr (pe_by w) (a, s) i).1 (pe_run pe_ePq (pe_by w) (a, s) i).1 ∧ (i ≤ 6 → pe_bu (pe_run pe_ePr (pe_by w) (a, s) i).1 (pe_run pe_ePq (pe_by w) (a, s) i).1 (pe_run pe_ePr (pe_by w) (a, s) i).2 i) := by
    intro i
    induction i with
    | zero => intro _; exact ⟨fun _ _ => rfl, fun _ => hb⟩
    | succ i ih =>
      intro hi
      obtain ⟨p, q⟩ := ih (by omega)
      have e := pe_run_k pe_ePr pe_ePq (pe_by w) a a s i
      have v := pe_iv_r (w := w) pe_gd_r h i
      have c := pe_co_run (pe_by w) (a, s) hc i
      have q := q (by omega)
      have b := pe_by_b w i
      show pe_ag (pe_st pe_ePr (pe_run pe_ePr (pe_by w) (a, s) i) (pe_by w i)).1 (pe_st pe_ePq (pe_run pe_ePq (pe_by w) (a, s) i) (pe_by w i)).1 ∧ (i + 1 ≤ 6 → pe_bu (pe_st pe_ePr (pe_run pe_ePr (pe_by w) (a, s) i) (pe_by w i)).1 (pe_st pe_ePq (pe_run pe_ePq (pe_by w) (a, s) i) (pe_by w i)).1 (pe_st pe_ePr (pe_run pe_ePr (pe_by w) (a, s) i) (pe_by w i)).2 (i + 1 : Nat))
      generalize pe_run pe_ePr (pe_by w) (a, s) i = X at *
      generalize pe_run pe_ePq (pe_by w) (a, s) i = Y at *
      generalize pe_by w i = t at *
      obtain ⟨X1, X2⟩ := X
      obtain ⟨Y1, Y2⟩ := Y
      change X2 = Y2 at e
      subst e
      have z := pe_bu_s (by omega) v p c q b
      exact ⟨z.1, fun hj => z.2 (by omega)⟩
  by_cases h8 : n = 8
  · rw [h8]
    have p := (J 7 (by omega)).1
    have e := pe_run_k pe_ePr pe_ePq (pe_by w) a a s 7
    have v := pe_iv_r (w := w) pe_gd_r h 7
    have c := pe_co_run (pe_by w) (a, s) hc 7
    have b := pe_by_b w 7
    show (pe_st pe_ePr (pe_run pe_ePr (pe_by w) (a, s) 7) (pe_by w 7)).1 0 0 = (pe_st pe_ePq (pe_run pe_ePq (pe_by w) (a, s) 7) (pe_by w 7)).1 0 0
    clear J
    generalize pe_run pe_ePr (pe_by w) (a, s) 7 = X at *
    generalize pe_run pe_ePq (pe_by w) (a, s) 7 = Y at *
    generalize pe_by w 7 = t at *
    obtain ⟨X1, X2⟩ := X
    obtain ⟨Y1, Y2⟩ := Y
    change X2 = Y2 at e
    subst e
    exact pe_bu_l v p c b
  · exact congrFun ((J n (by omega)).1 0 (by decide)) 0
