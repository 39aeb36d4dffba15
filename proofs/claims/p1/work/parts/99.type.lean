/-! p1: type's answers on fresh objects are one -/
def pe_m0 (c : Int) : pe_H := fun b _ => if b = 2 ∨ b = 4 then -1 else if b = 7 then c else 0
def pe_s0 : Int → Int := fun j => if j = 6 then -1 else 0
theorem pe_iv_0 {c : Int} (hc : 1 ≤ c ∧ c ≤ 24) : pe_iv (pe_m0 c, pe_s0) 0 := by
  refine ⟨⟨⟨⟨?_, ?_, ?_, ?_, ?_, ?_, ?_, hc⟩, ⟨fun j a b => absurd (show j < (0 : Int) from b) (by omega), fun j a b => absurd (show j < (0 : Int) from b) (by omega), fun i j a b => absurd (show i < (0 : Int) from b) (by omega)⟩, fun i a b => absurd (show i < (0 : Int) from b) (by omega)⟩, pe_bg0 _ _⟩, ⟨?_, ?_, ?_⟩, ?_⟩
  · show (0 : Int) ≤ 0 ∧ (0 : Int) ≤ 200; omega
  · show (0 : Int) ≤ 0 ∧ (0 : Int) ≤ 0; omega
  · show (-1 : Int) ≤ -1 ∧ (-1 : Int) ≤ 0; omega
  · show (0 : Int) ≤ 0 ∧ (0 : Int) ≤ 200; omega
  · show (-1 : Int) ≤ -1; omega
  · show (0 : Int) ≤ 0; omega
  · exact Or.inl rfl
  · show (0 : Int) ≤ 0 ∧ (0 : Int) ≤ 3; omega
  · intro h; exact absurd (show (0 : Int) = 2 from h) (by omega)
  · intro h; exact absurd (show (0 : Int) = 3 from h) (by omega)
  · show (0 : Int) + (if (0 : Int) = 0 then 0 else 1) ≤ 0; omega
theorem pe_bu_0 (c : Int) : pe_bu (pe_m0 c) (pe_m0 c) pe_s0 0 := by
  refine Or.inl ⟨rfl, ?_⟩
  show (if (0 : Int) = 2 then (2 : Int) else if (0 : Int) = 0 then 0 else 1) + (if (-1 : Int) = -1 then 0 else 3) + (if (0 : Int) = 0 then 0 else 1) ≤ 0
  omega
theorem pe_len_0 {c n : Int} (hc : 1 ≤ c ∧ c ≤ 24) (w : Int64) (hn : 1 ≤ n ∧ n ≤ 8) : (pe_run pe_ePr (pe_by w) (pe_m0 c, pe_s0) n.toNat).1 0 0 = (pe_run pe_ePq (pe_by w) (pe_m0 c, pe_s0) n.toNat).1 0 0 :=
  pe_len_run (pe_iv_0 hc) (fun _ => rfl) (pe_bu_0 c) (by omega)
theorem lw_type : lw_TYPE := by
  intro c r w n hn
  by_cases hc : 1 ≤ c ∧ c ≤ 24
  · have N : ∀ {P : Prop} (j : Int), 0 ≤ j → j < (0 : Int) → P := fun j a b => absurd b (by omega)
    refine ⟨if 1 ≤ n ∧ n ≤ 8 then (pe_run pe_ePr (pe_by w) (pe_m0 c, pe_s0) n.toNat).1 0 0 else -1, ?_, ?_, ?_⟩
    · have v := (pe_iv_r (w := w) pe_gd_r (pe_iv_0 hc) n.toNat).1.1.1.1
      split
      · exact ⟨by omega, by omega⟩
      · exact ⟨by omega, by omega⟩
    · intro σ hB _ h
      obtain ⟨⟨⟨h1, h2, h3, h4⟩, h5, h6, h7, _, h8, h9⟩, ⟨k1, k2⟩, _⟩ := h
      have hA : pe_ca (pe_m0 c) σ := ⟨⟨⟨h1, h2, h3, h5, h6⟩, ⟨h9, h4⟩, h7, h8⟩, fun j a b => N j a b, fun j a b => N j a b, fun j a b => N j a b⟩
      have hK : pe_ck pe_s0 σ := ⟨⟨k1, k2⟩, fun q => absurd (show (0 : Int) = 2 from q) (by omega), fun q => absurd (show (0 : Int) = 3 from q) (by omega)⟩
      refine pe_M.mono (x_P_type (y0 := (pe_m0 c, pe_s0)) hB hA hK (pe_iv_0 hc) hn) ?_
      rintro r σ' ⟨z, e, b1, b2, b3⟩
      exact ⟨z, e, ⟨b1, fun b hb => b2 b (by simp; omega)⟩, b3⟩
    · intro σ hB _ h
      obtain ⟨⟨h1, h2, h3, h4, h5, h6, h7, h8, h9, h10, _⟩, _, ⟨g1, _⟩, _⟩ := h
      have hA : pe_ra (pe_m0 c) σ := ⟨⟨⟨h1, h2, h3, h4, h5⟩, h6, h9, g1⟩, fun j a b => N j a b, fun j a b => N j a b, fun j a b => N j a b⟩
      have hK : pe_rk pe_s0 σ := ⟨fun q => absurd (show (0 : Int) = 3 from q) (by omega), fun _ => ⟨h8, h7, fun q => absurd (show (0 : Int) = 2 from q) (by omega)⟩, h10⟩
      refine pe_M.mono (x_M_type (y0 := (pe_m0 c, pe_s0)) hB hA hK (pe_iv_0 hc) hn) ?_
      rintro r σ' ⟨z, e, _, _, _, b3⟩
      refine ⟨z, e, b3.trans ?_⟩
      by_cases q : 1 ≤ n ∧ n ≤ 8
      · rw [if_pos q, if_pos q, pe_len_0 hc w q]
      · rw [if_neg q, if_neg q]
  · exact ⟨0, ⟨by omega, by omega⟩, fun σ _ _ h => absurd ⟨h.2.2.2.2.2.1.1, h.2.2.2.2.2.1.2.1⟩ hc, fun σ _ _ h => absurd ⟨h.2.2.2.1.1, h.2.2.2.1.2.1⟩ hc⟩
