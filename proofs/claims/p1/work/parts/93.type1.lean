/-! p1: bytes, the run of the model, the class's type -/
def pe_by (w : Int64) (k : Nat) : Int := ((w.toBitVec.toNat >>> (8 * k)) % 256 : Nat)
theorem pe_by_b (w : Int64) (k : Nat) : 0 ≤ pe_by w k ∧ pe_by w k ≤ 255 := by unfold pe_by; omega
theorem pe_nand255 (x : Nat) : x &&& 255 = x % 256 := Nat.and_two_pow_sub_one_eq_mod x 8
theorem pe_by_c (w : Int64) (k : Nat) (s : UInt64) (hs : s.toNat = 8 * k) (hk : k < 8) : (w.toUInt64 >>> s).toInt64.toInt32 &&& Int32.ofInt 255 = Int32.ofInt (pe_by w k) := by
  rw [← Int32.toBitVec_inj, Int32.toBitVec_and]
  apply BitVec.eq_of_toNat_eq
  rw [BitVec.toNat_and]
  have e1 : (w.toUInt64 >>> s).toInt64.toInt32.toBitVec.toNat = (w.toBitVec.toNat >>> (8 * k)) % 2 ^ 32 := by
    rw [Int64.toBitVec_toInt32, BitVec.signExtend_eq_setWidth_of_le _ (by decide)]
    show (BitVec.setWidth 32 (w.toUInt64 >>> s).toBitVec).toNat = _
    rw [BitVec.toNat_setWidth, UInt64.toBitVec_shiftRight]
    have : (s.toBitVec % 64).toNat = 8 * k := by
      rw [BitVec.toNat_umod]
      show s.toNat % 64 = _
      omega
    show (w.toUInt64.toBitVec >>> (s.toBitVec % 64)).toNat % 2 ^ 32 = _
    rw [BitVec.ushiftRight_eq', BitVec.toNat_ushiftRight, this]
    rfl
  have e2 : (Int32.ofInt 255).toBitVec.toNat = 255 := by decide
  have e3 : (Int32.ofInt (pe_by w k)).toBitVec.toNat = (w.toBitVec.toNat >>> (8 * k)) % 256 := by
    unfold pe_by
    rw [Int32.ofInt_eq_ofNat]
    show (BitVec.ofNat 32 _).toNat = _
    rw [BitVec.toNat_ofNat]
    omega
  rw [e1, e2, e3, pe_nand255]
  omega
theorem pe_by_m (w : Int64) (k : Nat) (s : Int64) (hs : (s.toBitVec.smod 64).toNat = 8 * k) (hk : k < 8) : (w >>> s &&& 255).toInt = pe_by w k := by
  have h : (w >>> s &&& 255).toBitVec.toNat = (w.toBitVec.toNat >>> (8 * k)) % 256 := by
    rw [Int64.toBitVec_and, Int64.toBitVec_shiftRight, BitVec.sshiftRight_eq', hs]
    apply Nat.eq_of_testBit_eq
    intro i
    rw [Nat.testBit_mod_two_pow (x := w.toBitVec.toNat >>> (8 * k)) (j := 8) (i := i), Nat.testBit_shiftRight, BitVec.testBit_toNat, BitVec.getLsbD_and, BitVec.getLsbD_sshiftRight]
    by_cases hi : i < 8
    · have e : (Int64.toBitVec 255).getLsbD i = true := by
        rcases (show i = 0 ∨ i = 1 ∨ i = 2 ∨ i = 3 ∨ i = 4 ∨ i = 5 ∨ i = 6 ∨ i = 7 by omega) with e | e | e | e | e | e | e | e <;> (subst e; decide)
      rw [e, if_pos (by omega), decide_eq_false (by omega), decide_eq_true hi, BitVec.testBit_toNat]
      simp
    · have e : (Int64.toBitVec 255).getLsbD i = false := by
        show (Int64.toBitVec 255).toNat.testBit i = false
        exact Nat.testBit_lt_two_pow (Nat.lt_of_lt_of_le (show (Int64.toBitVec 255).toNat < 2 ^ 8 by decide) (Nat.pow_le_pow_right (by decide) (by omega)))
      rw [e, decide_eq_false hi]
      simp
  show (w >>> s &&& 255).toBitVec.toInt = _
  rw [BitVec.toInt_eq_toNat_of_lt (by omega)]
  unfold pe_by
  omega

theorem pe_by_c1 (w : Int64) {i : Int} (h : 0 ≤ i ∧ i < 8) : Int32.ofInt ((w.toUInt64 >>> ((Int32.ofInt (8 * i)).toInt64.toUInt64 &&& Int64.toUInt64 63)).toInt64.toInt32).toInt &&& Int32.ofInt 255 = Int32.ofInt (pe_by w i.toNat) := by
  rw [Int32.ofInt_toInt]
  refine pe_by_c w _ _ ?_ (by omega)
  rcases (show i = 0 ∨ i = 1 ∨ i = 2 ∨ i = 3 ∨ i = 4 ∨ i = 5 ∨ i = 6 ∨ i = 7 by omega) with e | e | e | e | e | e | e | e <;> (subst e; decide)
theorem pe_by_m1 (w : Int64) {i : Int} (h : 0 ≤ i ∧ i < 8) : (w >>> ((Int32.ofInt (8 * i)).toInt64 &&& 63) &&& 255).toInt = pe_by w i.toNat := by
  refine pe_by_m w _ _ ?_ (by omega)
  rcases (show i = 0 ∨ i = 1 ∨ i = 2 ∨ i = 3 ∨ i = 4 ∨ i = 5 ∨ i = 6 ∨ i = 7 by omega) with e | e | e | e | e | e | e | e <;> (subst e; decide)
theorem pe_ePr_n (m : pe_H) : pe_ePr m (-1) = m := by
  have h : ¬ pe_wk m (-1) := by unfold pe_wk; omega
  unfold pe_ePr
  rw [if_neg (by omega), if_neg h]
theorem pe_5I (m : pe_H) (n : Int) (s : Int → Int) : pe_eIns m n s 5 0 ≤ m 5 0 + 1 := by
  unfold pe_eIns
  split
  · omega
  · show m 5 0 + 1 ≤ m 5 0 + 1; omega
theorem pe_5D (m : pe_H) (p q : Int) : pe_eDel m p q 5 0 ≤ m 5 0 + 1 := by
  unfold pe_eDel
  split
  · omega
  · show m 5 0 + 1 ≤ m 5 0 + 1; omega
theorem pe_5C (m : pe_H) : pe_eCut m 5 0 ≤ m 5 0 + 1 := by
  unfold pe_eCut
  split
  · omega
  · split <;> exact pe_5D (pe_eC m _ _) _ _
theorem pe_5U (m : pe_H) : pe_eUndo m 5 0 ≤ m 5 0 + 1 := by
  unfold pe_eUndo
  split
  · omega
  · show m 5 0 - 1 ≤ m 5 0 + 1; omega
theorem pe_5K (m : pe_H) (k : Int) : pe_eCmd m k 5 0 ≤ m 5 0 + 1 := by
  have h0 : m 5 0 ≤ m 5 0 + 1 := by omega
  unfold pe_eCmd
  refine pe_ite (P := fun x => x 5 0 ≤ m 5 0 + 1) (fun hh => pe_5I _ _ _) (fun hh => ?_)
  refine pe_ite (P := fun x => x 5 0 ≤ m 5 0 + 1) (fun hh => pe_5I _ _ _) (fun hh => ?_)
  refine pe_ite (P := fun x => x 5 0 ≤ m 5 0 + 1) (fun hh => ?_) (fun hh => ?_)
  · exact pe_ite (P := fun x => x 5 0 ≤ m 5 0 + 1) (fun hh => pe_5I _ _ _) (fun hh => h0)
  refine pe_ite (P := fun x => x 5 0 ≤ m 5 0 + 1) (fun hh => ?_) (fun hh => ?_)
  · exact pe_ite (P := fun x => x 5 0 ≤ m 5 0 + 1) (fun hh => h0) (fun hh => pe_5D _ _ _)
  refine pe_ite (P := fun x => x 5 0 ≤ m 5 0 + 1) (fun hh => ?_) (fun hh => ?_)
  · exact pe_ite (P := fun x => x 5 0 ≤ m 5 0 + 1) (fun hh => h0) (fun hh => pe_5D _ _ _)
  refine pe_ite (P := fun x => x 5 0 ≤ m 5 0 + 1) (fun hh => ?_) (fun hh => ?_)
  · exact pe_ite (P := fun x => x 5 0 ≤ m 5 0 + 1) (fun hh => h0) (fun hh => h0)
  refine pe_ite (P := fun x => x 5 0 ≤ m 5 0 + 1) (fun hh => ?_) (fun hh => ?_)
  · exact pe_ite (P := fun x => x 5 0 ≤ m 5 0 + 1) (fun hh => h0) (fun hh => h0)
  refine pe_ite (P := fun x => x 5 0 ≤ m 5 0 + 1) (fun hh => h0) (fun hh => ?_)
  refine pe_ite (P := fun x => x 5 0 ≤ m 5 0 + 1) (fun hh => h0) (fun hh => ?_)
  refine pe_ite (P := fun x => x 5 0 ≤ m 5 0 + 1) (fun hh => h0) (fun hh => ?_)
  refine pe_ite (P := fun x => x 5 0 ≤ m 5 0 + 1) (fun hh => h0) (fun hh => ?_)
  refine pe_ite (P := fun x => x 5 0 ≤ m 5 0 + 1) (fun hh => pe_5C _) (fun hh => ?_)
  refine pe_ite (P := fun x => x 5 0 ≤ m 5 0 + 1) (fun hh => pe_5I _ _ _) (fun hh => ?_)
  refine pe_ite (P := fun x => x 5 0 ≤ m 5 0 + 1) (fun hh => pe_5U _) (fun hh => ?_)
  refine pe_ite (P := fun x => x 5 0 ≤ m 5 0 + 1) (fun hh => h0) (fun hh => ?_)
  exact pe_ite (P := fun x => x 5 0 ≤ m 5 0 + 1) (fun hh => h0) (fun hh => h0)
theorem pe_ePr_5 (m : pe_H) (k : Int) : pe_ePr m k 5 0 ≤ m 5 0 + 1 := by
  have h0 : m 5 0 ≤ m 5 0 + 1 := by omega
  unfold pe_ePr
  refine pe_ite (P := fun x => x 5 0 ≤ m 5 0 + 1) (fun hh => ?_) (fun hh => ?_)
  · refine pe_ite (P := fun x => x 5 0 ≤ m 5 0 + 1) (fun hh => ?_) (fun hh => h0)
    unfold pe_eMv
    exact pe_ite (P := fun x => x 5 0 ≤ m 5 0 + 1) (fun hh => h0) (fun hh => h0)
  · split
    · show pe_eK (pe_eS m 4 (-1)) k 5 0 ≤ m 5 0 + 1
      unfold pe_eK
      exact pe_ite (P := fun x => x 5 0 ≤ m 5 0 + 1) (fun hh => pe_5I (pe_eS m 4 (-1)) _ _) (fun hh => pe_5K (pe_eS m 4 (-1)) _)
    · exact h0
/-- the reference's press: byte 10 outside PASTING does nothing -/
noncomputable def pe_ePq (m : pe_H) (k : Int) : pe_H := if k = 10 ∧ m 6 0 = 0 then m else pe_ePr m k
def pe_gd (f : pe_H → Int → pe_H) : Prop := (∀ m k, pe_wf m → pe_wf (f m k)) ∧ (∀ m k, pe_wf m → pe_bg (m 8) (m 0 0) (m 1 0) → pe_bg (f m k 8) (f m k 0 0) (f m k 1 0)) ∧ (∀ m k, f m k 5 0 ≤ m 5 0 + 1) ∧ ∀ m, f m (-1) = m
theorem pe_gd_r : pe_gd pe_ePr := ⟨fun _ _ h => pe_wf_Pr h, fun _ _ h g => pe_bg_Pr h g, pe_ePr_5, pe_ePr_n⟩
theorem pe_gd_q : pe_gd pe_ePq := by
  refine ⟨fun m k h => ?_, fun m k h g => ?_, fun m k => ?_, fun m => ?_⟩ <;> unfold pe_ePq
  · split
    · exact h
    · exact pe_wf_Pr h
  · split
    · exact g
    · exact pe_bg_Pr h g
  · split
    · omega
    · exact pe_ePr_5 m k
  · rw [if_neg (by omega)]; exact pe_ePr_n m
noncomputable def pe_st (f : pe_H → Int → pe_H) (x : pe_H × (Int → Int)) (t : Int) : pe_H × (Int → Int) := (f (f x.1 (pe_kl x.2 t)) (pe_kk (pe_kx x.2 t) t), pe_ky (pe_kx x.2 t) t)
noncomputable def pe_run (f : pe_H → Int → pe_H) (u : Nat → Int) (x : pe_H × (Int → Int)) : Nat → pe_H × (Int → Int)
  | 0 => x
  | i + 1 => pe_st f (pe_run f u x i) (u i)
theorem pe_run_s {f : pe_H → Int → pe_H} {u : Nat → Int} {x : pe_H × (Int → Int)} {i : Int} (hi : 0 ≤ i) : pe_run f u x (i + 1).toNat = pe_st f (pe_run f u x i.toNat) (u i.toNat) := by
  rw [show (i + 1).toNat = i.toNat + 1 by omega]; rfl
def pe_iv (x : pe_H × (Int → Int)) (i : Int) : Prop := (pe_wf x.1 ∧ pe_bg (x.1 8) (x.1 0 0) (x.1 1 0)) ∧ pe_kw x.2 ∧ x.1 5 0 + (if x.2 0 = 0 then 0 else 1) ≤ i
theorem pe_kl_n (s : Int → Int) (t : Int) (h : pe_kl s t ≠ -1) : s 0 ≠ 0 := by
  unfold pe_kl at h
  omega
theorem pe_kk_n {s : Int → Int} {t : Int} (hk : pe_kw s) (h : pe_kk s t ≠ -1) : pe_ky s t 0 = 0 := by
  unfold pe_kw at hk
  show (if s 0 = 1 then 2 else if s 0 = 2 then (if (48 ≤ t ∧ t ≤ 57) then 2 else 0) else if s 0 = 3 then (if 1 < s 3 then 3 else 0) else if t = 27 then 1 else if (194 ≤ t ∧ t ≤ 239) then 3 else 0) = 0
  rcases (show s 0 = 0 ∨ s 0 = 1 ∨ s 0 = 2 ∨ s 0 = 3 by omega) with e | e | e | e
  · unfold pe_kk at h; rw [if_neg (by omega), if_neg (by omega), if_neg (by omega)] at h ⊢; clear hk; omega
  · unfold pe_kk at h; rw [if_pos e] at h; omega
  · unfold pe_kk at h; rw [if_neg (by omega), if_pos e] at h ⊢
    by_cases d : 48 ≤ t ∧ t ≤ 57
    · rw [if_pos d] at h; omega
    · rw [if_neg d]
  · unfold pe_kk at h; rw [if_neg (by omega), if_neg (by omega), if_pos e] at h ⊢; clear hk; omega
theorem pe_iv_s {f : pe_H → Int → pe_H} {x : pe_H × (Int → Int)} {i t : Int} (hf : pe_gd f) (h : pe_iv x i) (ht : 0 ≤ t ∧ t ≤ 255) : ((pe_wf (f x.1 (pe_kl x.2 t)) ∧ pe_bg (f x.1 (pe_kl x.2 t) 8) (f x.1 (pe_kl x.2 t) 0 0) (f x.1 (pe_kl x.2 t) 1 0)) ∧ f x.1 (pe_kl x.2 t) 5 0 ≤ i) ∧ pe_kw (pe_kx x.2 t) ∧ pe_iv (pe_st f x t) (i + 1) := by
  obtain ⟨⟨h1, h2⟩, h3, h4⟩ := h
  obtain ⟨F1, F2, F3, F4⟩ := hf
  have g1 := F1 x.1 (pe_kl x.2 t) h1
  have g2 := F2 x.1 (pe_kl x.2 t) h1 h2
  have g3 : f x.1 (pe_kl x.2 t) 5 0 ≤ i := by
    by_cases e : pe_kl x.2 t = -1
    · rw [e, F4]; omega
    · have a := pe_kl_n x.2 t e
      have b := F3 x.1 (pe_kl x.2 t)
      omega
  have k1 := pe_kw_1 (t := t) h3
  refine ⟨⟨⟨g1, g2⟩, g3⟩, k1, ⟨F1 _ _ g1, F2 _ _ g1 g2⟩, pe_kw_2 k1 ht (pe_kg_1 x.2 t).2.2, ?_⟩
  show f (f x.1 (pe_kl x.2 t)) (pe_kk (pe_kx x.2 t) t) 5 0 + (if pe_ky (pe_kx x.2 t) t 0 = 0 then 0 else 1) ≤ i + 1
  by_cases e : pe_kk (pe_kx x.2 t) t = -1
  · rw [e, F4]; omega
  · have a := pe_kk_n k1 e
    have b := F3 (f x.1 (pe_kl x.2 t)) (pe_kk (pe_kx x.2 t) t)
    omega
theorem pe_iv_r {f : pe_H → Int → pe_H} {w : Int64} {x : pe_H × (Int → Int)} (hf : pe_gd f) (h : pe_iv x 0) : ∀ i : Nat, pe_iv (pe_run f (pe_by w) x i) i
  | 0 => h
  | i + 1 => (pe_iv_s hf (pe_iv_r hf h i) (pe_by_b w i)).2.2
def pe_ck (s : Int → Int) (σ : pe_H) : Prop := (σ 1 0 = s 0 ∧ σ 1 6 = s 6) ∧ (s 0 = 2 → σ 1 1 = s 1) ∧ (s 0 = 3 → σ 1 2 = s 2 ∧ σ 1 3 = s 3 ∧ σ 1 4 = s 4 ∧ σ 1 5 = s 5)
theorem pe_ck_1 {s : Int → Int} {σ σ' : pe_H} {t z : Int} (h : pe_ck s σ) (hz : z = (if σ 1 0 = 1 ∧ t ≠ 91 then 27 else if σ 1 0 = 3 ∧ (t < σ 1 4 ∨ σ 1 5 < t) then 65533 else -1) ∧ σ' 1 0 = (if (σ 1 0 = 1 ∧ t ≠ 91) ∨ (σ 1 0 = 2 ∧ ¬ ((48 ≤ t ∧ t ≤ 57) ∨ (64 ≤ t ∧ t ≤ 126))) ∨ (σ 1 0 = 3 ∧ (t < σ 1 4 ∨ σ 1 5 < t)) then 0 else σ 1 0) ∧ ∀ j, j ≠ 0 → σ' 1 j = σ 1 j) : z = pe_kl s t ∧ pe_ck (pe_kx s t) σ' := by
  obtain ⟨⟨h0, h6⟩, h2, h3⟩ := h
  obtain ⟨z1, z2, z3⟩ := hz
  have o1 := z3 1 (by decide)
  have o2 := z3 2 (by decide)
  have o3 := z3 3 (by decide)
  have o4 := z3 4 (by decide)
  have o5 := z3 5 (by decide)
  have o6 := z3 6 (by decide)
  have p : σ' 1 0 = (if (s 0 = 1 ∧ t ≠ 91) ∨ (s 0 = 2 ∧ ¬ ((48 ≤ t ∧ t ≤ 57) ∨ (64 ≤ t ∧ t ≤ 126))) ∨ (s 0 = 3 ∧ (t < s 4 ∨ s 5 < t)) then 0 else s 0) := by clear z1 o1 o2 o3 o4 o5 o6 h2 z3; omega
  have q : (if (s 0 = 1 ∧ t ≠ 91) ∨ (s 0 = 2 ∧ ¬ ((48 ≤ t ∧ t ≤ 57) ∨ (64 ≤ t ∧ t ≤ 126))) ∨ (s 0 = 3 ∧ (t < s 4 ∨ s 5 < t)) then 0 else s 0) = s 0 ∨ (if (s 0 = 1 ∧ t ≠ 91) ∨ (s 0 = 2 ∧ ¬ ((48 ≤ t ∧ t ≤ 57) ∨ (64 ≤ t ∧ t ≤ 126))) ∨ (s 0 = 3 ∧ (t < s 4 ∨ s 5 < t)) then 0 else s 0) = 0 := by clear z1 z2 o1 o2 o3 o4 o5 o6 h2 h3 z3 p; omega
  refine ⟨by unfold pe_kl; clear z2 o1 o2 o3 o4 o5 o6 h2 z3 p q; omega, ⟨p, o6.trans h6⟩, fun a => ?_, fun a => ?_⟩
  · have a' : (if (s 0 = 1 ∧ t ≠ 91) ∨ (s 0 = 2 ∧ ¬ ((48 ≤ t ∧ t ≤ 57) ∨ (64 ≤ t ∧ t ≤ 126))) ∨ (s 0 = 3 ∧ (t < s 4 ∨ s 5 < t)) then 0 else s 0) = 2 := a
    exact o1.trans (h2 (by omega))
  · have a' : (if (s 0 = 1 ∧ t ≠ 91) ∨ (s 0 = 2 ∧ ¬ ((48 ≤ t ∧ t ≤ 57) ∨ (64 ≤ t ∧ t ≤ 126))) ∨ (s 0 = 3 ∧ (t < s 4 ∨ s 5 < t)) then 0 else s 0) = 3 := a
    have b := h3 (by omega)
    exact ⟨o2.trans b.1, o3.trans b.2.1, o4.trans b.2.2.1, o5.trans b.2.2.2⟩
theorem pe_ck_2 {s : Int → Int} {σ σ' : pe_H} {t z : Int} (hk : pe_kw s) (h : pe_ck s σ) (hz : z = (if σ 1 0 = 1 then -1 else if σ 1 0 = 2 then (if (48 ≤ t ∧ t ≤ 57) then -1 else if t = 65 then 65536 else if t = 66 then 65537 else if t = 67 then 65538 else if t = 68 then 65539 else if t = 72 then 65540 else if t = 70 then 65541 else if t = 126 then (if σ 1 1 = 3 then 65542 else if σ 1 1 = 200 then 65543 else if σ 1 1 = 201 then 65544 else -1) else -1) else if σ 1 0 = 3 then (if 1 < σ 1 3 ∨ σ 1 2 * 64 + t % 64 < 160 then -1 else σ 1 2 * 64 + t % 64) else (if t = 27 ∨ (194 ≤ t ∧ t ≤ 239) then -1 else if 128 ≤ t then 65533 else if t = 10 ∧ σ 1 6 = 13 then -1 else t)) ∧ (σ' 1 0 = (if σ 1 0 = 1 then 2 else if σ 1 0 = 2 then (if (48 ≤ t ∧ t ≤ 57) then 2 else 0) else if σ 1 0 = 3 then (if 1 < σ 1 3 then 3 else 0) else if t = 27 then 1 else if (194 ≤ t ∧ t ≤ 239) then 3 else 0)) ∧ (σ' 1 1 = (if σ 1 0 = 1 then 0 else if σ 1 0 = 2 ∧ (48 ≤ t ∧ t ≤ 57) then (if 9999 ≤ 10 * σ 1 1 + t - 48 then 9999 else 10 * σ 1 1 + t - 48) else σ 1 1)) ∧ (σ' 1 2 = (if σ 1 0 = 3 then σ 1 2 * 64 + t % 64 else if σ 1 0 = 0 ∧ (194 ≤ t ∧ t ≤ 239) then (if t < 224 then t % 32 else t % 16) else σ 1 2)) ∧ (σ' 1 3 = (if σ 1 0 = 3 then σ 1 3 - 1 else if σ 1 0 = 0 ∧ (194 ≤ t ∧ t ≤ 239) then (if t < 224 then 1 else 2) else σ 1 3)) ∧ (σ' 1 4 = (if σ 1 0 = 3 then 128 else if σ 1 0 = 0 ∧ (194 ≤ t ∧ t ≤ 239) then (if t = 224 then 160 else 128) else σ 1 4)) ∧ (σ' 1 5 = (if σ 1 0 = 3 then 191 else if σ 1 0 = 0 ∧ (194 ≤ t ∧ t ≤ 239) then (if t = 237 then 159 else 191) else σ 1 5)) ∧ (σ' 1 6 = t)) : z = pe_kk s t ∧ pe_ck (pe_ky s t) σ' := by
  obtain ⟨⟨h0, h6⟩, h2, h3⟩ := h
  have hm : 0 ≤ s 0 ∧ s 0 ≤ 3 := hk.1
  clear hk
  obtain ⟨z1, z2, z3, z4, z5, z6, z7, z8⟩ := hz
  rw [h0] at z1 z2 z3 z4 z5 z6 z7
  rw [h6] at z1
  show z = pe_kk s t ∧ (σ' 1 0 = (if s 0 = 1 then 2 else if s 0 = 2 then (if (48 ≤ t ∧ t ≤ 57) then 2 else 0) else if s 0 = 3 then (if 1 < s 3 then 3 else 0) else if t = 27 then 1 else if (194 ≤ t ∧ t ≤ 239) then 3 else 0) ∧ σ' 1 6 = t) ∧ ((if s 0 = 1 then 2 else if s 0 = 2 then (if (48 ≤ t ∧ t ≤ 57) then 2 else 0) else if s 0 = 3 then (if 1 < s 3 then 3 else 0) else if t = 27 then 1 else if (194 ≤ t ∧ t ≤ 239) then 3 else 0) = 2 → σ' 1 1 = (if s 0 = 1 then 0 else if s 0 = 2 ∧ (48 ≤ t ∧ t ≤ 57) then (if 9999 ≤ 10 * s 1 + t - 48 then 9999 else 10 * s 1 + t - 48) else s 1)) ∧ ((if s 0 = 1 then 2 else if s 0 = 2 then (if (48 ≤ t ∧ t ≤ 57) then 2 else 0) else if s 0 = 3 then (if 1 < s 3 then 3 else 0) else if t = 27 then 1 else if (194 ≤ t ∧ t ≤ 239) then 3 else 0) = 3 → σ' 1 2 = (if s 0 = 3 then s 2 * 64 + t % 64 else if s 0 = 0 ∧ (194 ≤ t ∧ t ≤ 239) then (if t < 224 then t % 32 else t % 16) else s 2) ∧ σ' 1 3 = (if s 0 = 3 then s 3 - 1 else if s 0 = 0 ∧ (194 ≤ t ∧ t ≤ 239) then (if t < 224 then 1 else 2) else s 3) ∧ σ' 1 4 = (if s 0 = 3 then 128 else if s 0 = 0 ∧ (194 ≤ t ∧ t ≤ 239) then (if t = 224 then 160 else 128) else s 4) ∧ σ' 1 5 = (if s 0 = 3 then 191 else if s 0 = 0 ∧ (194 ≤ t ∧ t ≤ 239) then (if t = 237 then 159 else 191) else s 5))
  unfold pe_kk
  rcases (show s 0 = 0 ∨ s 0 = 1 ∨ s 0 = 2 ∨ s 0 = 3 by omega) with e | e | e | e
  · clear h2 h3
    rw [if_neg (by omega), if_neg (by omega), if_neg (by omega)] at z1 z2
    refine ⟨?_, ⟨?_, z8⟩, ?_, ?_⟩
    · rw [if_neg (by omega), if_neg (by omega), if_neg (by omega)]; exact z1
    · rw [if_neg (by omega), if_neg (by omega), if_neg (by omega)]; exact z2
    · intro a
      rw [if_neg (by omega), if_neg (by omega), if_neg (by omega)] at a
      exfalso; clear z1 z2 z3 z4 z5 z6 z7 z8; omega
    · intro a
      rw [if_neg (by omega), if_neg (by omega), if_neg (by omega)] at a
      have b : 194 ≤ t ∧ t ≤ 239 := by clear z1 z2 z3 z4 z5 z6 z7 z8; omega
      rw [if_neg (by omega), if_pos ⟨e, b⟩] at z4 z5 z6 z7
      refine ⟨?_, ?_, ?_, ?_⟩
      · rw [if_neg (by omega), if_pos ⟨e, b⟩]; exact z4
      · rw [if_neg (by omega), if_pos ⟨e, b⟩]; exact z5
      · rw [if_neg (by omega), if_pos ⟨e, b⟩]; exact z6
      · rw [if_neg (by omega), if_pos ⟨e, b⟩]; exact z7
  · rw [if_pos e] at z1 z2 z3
    refine ⟨?_, ⟨?_, z8⟩, ?_, ?_⟩
    · rw [if_pos e]; exact z1
    · rw [if_pos e]; exact z2
    · intro _; rw [if_pos e]; exact z3
    · intro a; rw [if_pos e] at a; exact absurd a (by decide)
  · have h1 := h2 e
    clear h2 h3
    rw [if_neg (by omega), if_pos e] at z1 z2
    rw [h1] at z1 z3
    refine ⟨?_, ⟨?_, z8⟩, fun a => z3, fun a => ?_⟩
    · rw [if_neg (by omega), if_pos e]; exact z1
    · rw [if_neg (by omega), if_pos e]; exact z2
    · rw [if_neg (by omega), if_pos e] at a
      exfalso; clear z1 z2 z3 z4 z5 z6 z7 z8; omega
  · have h1 := h3 e
    clear h2 h3
    rw [if_neg (by omega), if_neg (by omega), if_pos e] at z1 z2
    rw [if_pos e] at z4 z5 z6 z7
    rw [h1.1, h1.2.1] at z1
    rw [h1.2.1] at z2 z5
    rw [h1.1] at z4
    refine ⟨?_, ⟨?_, z8⟩, fun a => ?_, fun a => ⟨?_, ?_, ?_, ?_⟩⟩
    · rw [if_neg (by omega), if_neg (by omega), if_pos e]; exact z1
    · rw [if_neg (by omega), if_neg (by omega), if_pos e]; exact z2
    · rw [if_neg (by omega), if_neg (by omega), if_pos e] at a
      exfalso; clear z1 z2 z3 z4 z5 z6 z7 z8; omega
    · rw [if_pos e]; exact z4
    · rw [if_pos e]; exact z5
    · rw [if_pos e]; exact z6
    · rw [if_pos e]; exact z7
theorem pe_ca_c {m σ σ' : pe_H} (hA : pe_ca m σ) (f : ∀ b, b ∉ [1] → σ' b = σ b) : pe_ca m σ' := by
  unfold pe_ca at hA ⊢
  rw [f 2 (by decide), f 3 (by decide), f 4 (by decide), f 5 (by decide), f 6 (by decide), f 7 (by decide), f 8 (by decide), f 9 (by decide), f 10 (by decide), f 15 (by decide)]
  exact hA
theorem pe_ck_c {s : Int → Int} {σ σ' : pe_H} (h : pe_ck s σ) (f : σ' 1 = σ 1) : pe_ck s σ' := by
  unfold pe_ck at h ⊢
  rw [f]; exact h
theorem pe_kw_c {s : Int → Int} {σ : pe_H} (h : pe_kw s) (hc : pe_ck s σ) : pe_kw (σ 1) := by
  unfold pe_ck at hc
  unfold pe_kw at h ⊢
  omega
theorem pe_kl_R {s : Int → Int} {t : Int} : pe_R (pe_kl s t) := by
  unfold pe_kl
  exact ⟨by omega, by omega⟩
theorem pe_kk_R {s : Int → Int} {t : Int} (hk : pe_kw s) (ht : 0 ≤ t ∧ t ≤ 255) : pe_R (pe_kk s t) := by
  unfold pe_kw at hk
  unfold pe_kk
  rcases (show s 0 = 0 ∨ s 0 = 1 ∨ s 0 = 2 ∨ s 0 = 3 by omega) with e | e | e | e
  · rw [if_neg (by omega), if_neg (by omega), if_neg (by omega)]; clear hk; exact ⟨by omega, by omega⟩
  · rw [if_pos e]; exact ⟨by omega, by omega⟩
  · rw [if_neg (by omega), if_pos e]; clear hk; exact ⟨by omega, by omega⟩
  · rw [if_neg (by omega), if_neg (by omega), if_pos e]
    have a : 0 ≤ s 2 ∧ s 2 ≤ 1023 := by omega
    clear hk
    exact ⟨by omega, by omega⟩
theorem x_P_type {σ : pe_H} {w : Int64} {n : Int} {y0 : pe_H × (Int → Int)} (hB : pe_B σ) (hA : pe_ca y0.1 σ) (hK : pe_ck y0.2 σ) (hiv : pe_iv y0 0) (hn : pe_R n) : pe_M m_P_type [pe_r 0, pe_l w, pe_i n] σ (pe_qi (fun z σ' => pe_B σ' ∧ (∀ b, b ∉ [1, 2, 3, 4, 5, 6, 7, 8, 9, 10, 12, 13, 14, 15, 16] → σ' b = σ b) ∧ z = (if 1 ≤ n ∧ n ≤ 8 then (pe_run pe_ePr (pe_by w) y0 n.toNat).1 0 0 else -1))) := by
  refine pe_in0 (lv := [some (pe_r 0), some (pe_l w), none, some (pe_i n), none, none]) ?_
  have hB0 := hB
  have J16 : ∀ x : Int × pe_H, (pe_B x.2 ∧ (∀ b, b ∉ [1, 2, 3, 4, 5, 6, 7, 8, 9, 10, 12, 13, 14, 15, 16] → x.2 b = σ b) ∧ (0 ≤ x.1 ∧ x.1 ≤ n ∧ 1 ≤ n ∧ n ≤ 8) ∧ pe_ca (pe_run pe_ePr (pe_by w) y0 x.1.toNat).1 x.2 ∧ pe_ck (pe_run pe_ePr (pe_by w) y0 x.1.toNat).2 x.2) → pe_G m_P_type 16 [some (pe_r 0), some (pe_l w), none, some (pe_i n), some (pe_i x.1), none] [] x.2 (pe_qi (fun z σ' => pe_B σ' ∧ (∀ b, b ∉ [1, 2, 3, 4, 5, 6, 7, 8, 9, 10, 12, 13, 14, 15, 16] → σ' b = σ b) ∧ z = (if 1 ≤ n ∧ n ≤ 8 then (pe_run pe_ePr (pe_by w) y0 n.toNat).1 0 0 else -1))) := by
    refine pe_loop (fun x : Int × pe_H => (100 - x.1).toNat) _ _ ?_
    intro x hI ih
    obtain ⟨i, τ⟩ := x
    dsimp only at hI ⊢
    obtain ⟨hB, hfr, hX⟩ := hI
    obtain ⟨hi, hA, hK⟩ := hX
    have hIV := pe_iv_r (w := w) pe_gd_r hiv i.toNat
    rw [show ((i.toNat : Nat) : Int) = i by omega] at hIV
    have hst := pe_run_s (f := pe_ePr) (u := pe_by w) (x := y0) hi.1
    generalize hX : pe_run pe_ePr (pe_by w) y0 i.toNat = X at hA hK hIV hst
    have hBt := hB
    refine pe_iload d_P_type_16 rfl ?_
    refine pe_iload_n d_P_type_18 rfl ?_
    refine pe_icmp_ge (t := 74) d_P_type_19 (by first | exact hB _ _ | exact hB0 _ _ | exact hBt _ _ | exact ⟨by omega, by omega⟩) (by first | exact hB _ _ | exact hB0 _ _ | exact hBt _ _ | exact ⟨by omega, by omega⟩) (fun h19 => ?_) (fun h19 => ?_)
    · skip
      refine pe_aload_n d_P_type_74 rfl ?_
      refine pe_getr f_P_30 d_P_type_75 rfl rfl ?_
      refine pe_getr f_P_60 d_P_type_78 rfl rfl ?_
      refine pe_geti f_P_64 d_P_type_81 rfl rfl 1 rfl ?_
      refine pe_ri d_P_type_84 ?_
      exact ⟨hB, (fun b hb => hfr b (by simp at hb ⊢; try omega)), by (try dsimp only); rw [if_pos (by omega), show n.toNat = i.toNat by omega, hX]; exact hA.1.1.1⟩
    · skip
      refine pe_lload_n d_P_type_22 rfl ?_
      refine pe_bipush d_P_type_23 ?_
      refine pe_iload d_P_type_25 rfl ?_
      refine pe_imul d_P_type_27 ?_
      refine pe_lushr d_P_type_28 rfl ?_
      refine pe_l2i d_P_type_29 (Int32.ofInt_toInt _).symm ?_
      refine pe_sipush d_P_type_30 ?_
      refine pe_iand d_P_type_33 (pe_by_c1 w (by omega)) ?_
      have hby := pe_by_b w i.toNat
      generalize hb : pe_by w i.toNat = t at hby hst
      obtain ⟨⟨⟨v1, v2⟩, v3⟩, v4, v5⟩ := pe_iv_s pe_gd_r hIV hby
      refine pe_istore d_P_type_34 ?_
      refine pe_aload_n d_P_type_36 rfl ?_
      refine pe_getr f_P_30 d_P_type_37 rfl rfl ?_
      refine pe_aload_n d_P_type_40 rfl ?_
      refine pe_getr f_P_21 d_P_type_41 rfl rfl ?_
      refine pe_iload d_P_type_44 rfl ?_
      refine pe_v1i d_P_type_46 c_P_50 i_K_leave s_K_leave rfl rfl (x_K_leave hB (by omega)) (fun z46 σ46 hz46 => ?_)
      obtain ⟨hB, f46, x46⟩ := hz46
      have q46 := pe_ck_1 hK x46
      have e46 := q46.1
      subst e46
      have hr46 := pe_kl_R (s := X.2) (t := t)
      refine pe_v1v d_P_type_49 c_P_54 i_E_press s_E_press rfl rfl (x_E_press (m := X.1) hB (pe_ca_c hA f46) hIV.1.1 (by have := hIV.2.2; omega) hIV.1.2 hr46) (fun σ49 hz49 => ?_)
      obtain ⟨hB, f49, x49⟩ := hz49
      skip
      refine pe_aload_n d_P_type_52 rfl ?_
      refine pe_getr f_P_30 d_P_type_53 rfl rfl ?_
      refine pe_aload_n d_P_type_56 rfl ?_
      refine pe_getr f_P_21 d_P_type_57 rfl rfl ?_
      refine pe_iload d_P_type_60 rfl ?_
      refine pe_v1i d_P_type_62 c_P_57 i_K_take s_K_take rfl rfl (x_K_take hB (pe_kw_c v4 (pe_ck_c q46.2 (f49 1 (by decide)))) (by omega)) (fun z62 σ62 hz62 => ?_)
      obtain ⟨hB, f62, x62⟩ := hz62
      have q62 := pe_ck_2 v4 (pe_ck_c q46.2 (f49 1 (by decide))) x62
      have e62 := q62.1
      subst e62
      have hr62 := pe_kk_R (s := pe_kx X.2 t) (t := t) v4 hby
      refine pe_v1v d_P_type_65 c_P_54 i_E_press s_E_press rfl rfl (x_E_press (m := pe_ePr X.1 (pe_kl X.2 t)) hB (pe_ca_c x49 f62) v1 (by omega) v2 hr62) (fun σ65 hz65 => ?_)
      obtain ⟨hB, f65, x65⟩ := hz65
      skip
      refine pe_iinc d_P_type_68 rfl ?_
      refine pe_goto (t := 16) d_P_type_71 ?_
      exact pe_drop 5 (ih (_, _) ⟨hB, (fun b hb => (f65 b (by simp at hb ⊢; try omega)).trans ((f62 b (by simp at hb ⊢; try omega)).trans ((f49 b (by simp at hb ⊢; try omega)).trans ((f46 b (by simp at hb ⊢; try omega)).trans (hfr b (by simp at hb ⊢; try omega)))))), by (try dsimp only); omega, by (try dsimp only); rw [hst]; exact x65, by (try dsimp only); rw [hst]; exact pe_ck_c q62.2 (f65 1 (by decide))⟩ (by (try dsimp only); omega))
  refine pe_iload_n d_P_type_0 rfl ?_
  refine pe_iconst d_P_type_1 ?_
  refine pe_icmp_lt (t := 11) d_P_type_2 (by first | exact hB _ _ | exact hB0 _ _ | exact hBt _ _ | exact ⟨by omega, by omega⟩) (by first | exact hB _ _ | exact hB0 _ _ | exact hBt _ _ | exact ⟨by omega, by omega⟩) (fun h2 => ?_) (fun h2 => ?_)
  · skip
    refine pe_iconst d_P_type_11 ?_
    refine pe_ri d_P_type_12 ?_
    exact ⟨hB, (fun b hb => rfl), by (try dsimp only); rw [if_neg (by omega)]⟩
  · skip
    refine pe_iload_n d_P_type_5 rfl ?_
    refine pe_bipush d_P_type_6 ?_
    refine pe_icmp_le (t := 13) d_P_type_8 (by first | exact hB _ _ | exact hB0 _ _ | exact hBt _ _ | exact ⟨by omega, by omega⟩) (by first | exact hB _ _ | exact hB0 _ _ | exact hBt _ _ | exact ⟨by omega, by omega⟩) (fun h8 => ?_) (fun h8 => ?_)
    · skip
      refine pe_iconst d_P_type_13 ?_
      refine pe_istore d_P_type_14 ?_
      exact J16 (_, _) ⟨hB, (fun b hb => rfl), by (try dsimp only); omega, hA, hK⟩
    · skip
      refine pe_iconst d_P_type_11 ?_
      refine pe_ri d_P_type_12 ?_
      exact ⟨hB, (fun b hb => rfl), by (try dsimp only); rw [if_neg (by omega)]⟩
