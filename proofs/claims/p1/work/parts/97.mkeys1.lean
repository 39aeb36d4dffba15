/-! p1: the reference's keys and bytes keep to the model -/
theorem pe_q_w {m : pe_H} {k : Int} (hk : k ≠ 65536 ∧ k ≠ 65537) (hn : ¬ (k = 10 ∧ m 6 0 = 0)) (w : pe_wk m k) : pe_ePq m k = pe_eB (pe_eK (pe_eS m 4 (-1)) k) := by
  unfold pe_ePq
  rw [if_neg hn]
  unfold pe_ePr
  rw [if_neg (by omega), if_pos w]
theorem pe_q_0 {m : pe_H} {k : Int} (hk : k ≠ 65536 ∧ k ≠ 65537) (w : ¬ pe_wk m k ∨ (k = 10 ∧ m 6 0 = 0)) : pe_ePq m k = m := by
  unfold pe_ePq
  by_cases h : k = 10 ∧ m 6 0 = 0
  · rw [if_pos h]
  · rw [if_neg h]
    unfold pe_ePr
    rw [if_neg (by omega), if_neg (w.resolve_right h)]
theorem pe_q_c {m : pe_H} {k : Int} (h : 32 ≤ k ∧ k < 65536 ∧ k ≠ 127) : pe_ePq m k = pe_eB (pe_eIns (pe_eS m 4 (-1)) 1 (fun _ => k)) := by
  rw [pe_q_w (by omega) (by omega) (by unfold pe_wk; omega)]
  unfold pe_eK
  rw [if_pos h]
theorem pe_q_9 (m : pe_H) : pe_ePq m 9 = pe_eB (pe_eIns (pe_eS m 4 (-1)) 1 (fun _ => 9)) := by
  rw [pe_q_w (by omega) (by omega) (by unfold pe_wk; omega)]
  unfold pe_eK
  rw [if_neg (by omega)]
  unfold pe_eCmd
  rw [if_pos rfl]
theorem pe_q_13 (m : pe_H) : pe_ePq m 13 = pe_eB (pe_eIns (pe_eS m 4 (-1)) 1 (fun _ => 10)) := by
  rw [pe_q_w (by omega) (by omega) (by unfold pe_wk; omega)]
  unfold pe_eK
  rw [if_neg (by omega)]
  unfold pe_eCmd
  rw [if_neg (by omega), if_pos rfl]
theorem pe_q_10 {m : pe_H} (h : m 6 0 = 1) : pe_ePq m 10 = pe_eB (pe_eIns (pe_eS m 4 (-1)) 1 (fun _ => 10)) := by
  rw [pe_q_w (by omega) (by omega) (by unfold pe_wk; omega)]
  unfold pe_eK
  rw [if_neg (by omega)]
  unfold pe_eCmd
  rw [if_neg (by omega), if_neg (by omega), if_pos rfl, if_pos (show pe_eS m 4 (-1) 6 0 = 1 from h)]
/-- what a key does, outside PASTING or with the end of it -/
theorem pe_q_k {m M : pe_H} {k : Int} (hk : k ≠ 65536 ∧ k ≠ 65537 ∧ k ≠ 10 ∧ ¬ (32 ≤ k ∧ k < 65536 ∧ k ≠ 127)) (w : pe_wk m k) (e : pe_eCmd (pe_eS m 4 (-1)) k = M) : pe_ePq m k = pe_eB M := by
  rw [pe_q_w (by omega) (by omega) w]
  unfold pe_eK
  rw [if_neg hk.2.2.2, e]
theorem pe_ra_gl {m σ σ' : pe_H} {z : Int} (hA : pe_ra m σ) (f : ∀ b, b ∈ [30, 31, 32, 33, 34, 35, 36] → σ' b = σ b) (o : ∀ j, j ∈ ([1, 2, 3, 5, 7, 19, 21] : List Int) → σ' 29 j = σ 29 j) (e : σ' 29 6 = z) : pe_ra (pe_eS m 4 z) σ' := by
  obtain ⟨⟨⟨a1, a2, a3, a4, a5⟩, a7, a8, a9⟩, A2, A3, A4⟩ := hA
  refine ⟨⟨⟨(o 1 (by decide)).trans a1, (o 2 (by decide)).trans a2, (o 3 (by decide)).trans a3, (o 5 (by decide)).trans a4, e⟩, (o 7 (by decide)).trans a7, (o 19 (by decide)).trans a8, (o 21 (by decide)).trans a9⟩, ?_, ?_, ?_⟩
  · rw [f 30 (by decide)]; exact A2
  · rw [f 31 (by decide)]; exact A3
  · rw [f 32 (by decide), f 33 (by decide), f 34 (by decide), f 35 (by decide), f 36 (by decide)]; exact A4
theorem pe_ra_mk {m σ σ' : pe_H} {z : Int} (hA : pe_ra m σ) (f : ∀ b, b ∈ [30, 31, 32, 33, 34, 35, 36] → σ' b = σ b) (o : ∀ j, j ∈ ([1, 2, 5, 6, 7, 19, 21] : List Int) → σ' 29 j = σ 29 j) (e : σ' 29 3 = z) : pe_ra (pe_eS m 2 z) σ' := by
  obtain ⟨⟨⟨a1, a2, a3, a4, a5⟩, a7, a8, a9⟩, A2, A3, A4⟩ := hA
  refine ⟨⟨⟨(o 1 (by decide)).trans a1, (o 2 (by decide)).trans a2, e, (o 5 (by decide)).trans a4, (o 6 (by decide)).trans a5⟩, (o 7 (by decide)).trans a7, (o 19 (by decide)).trans a8, (o 21 (by decide)).trans a9⟩, ?_, ?_, ?_⟩
  · rw [f 30 (by decide)]; exact A2
  · rw [f 31 (by decide)]; exact A3
  · rw [f 32 (by decide), f 33 (by decide), f 34 (by decide), f 35 (by decide), f 36 (by decide)]; exact A4
theorem pe_ra_cu {m σ σ' : pe_H} {z : Int} (hA : pe_ra m σ) (f : ∀ b, b ∈ [30, 31, 32, 33, 34, 35, 36] → σ' b = σ b) (o : ∀ j, j ∈ ([1, 3, 5, 6, 7, 19, 21] : List Int) → σ' 29 j = σ 29 j) (e : σ' 29 2 = z) : pe_ra (pe_eS m 1 z) σ' := by
  obtain ⟨⟨⟨a1, a2, a3, a4, a5⟩, a7, a8, a9⟩, A2, A3, A4⟩ := hA
  refine ⟨⟨⟨(o 1 (by decide)).trans a1, e, (o 3 (by decide)).trans a3, (o 5 (by decide)).trans a4, (o 6 (by decide)).trans a5⟩, (o 7 (by decide)).trans a7, (o 19 (by decide)).trans a8, (o 21 (by decide)).trans a9⟩, ?_, ?_, ?_⟩
  · rw [f 30 (by decide)]; exact A2
  · rw [f 31 (by decide)]; exact A3
  · rw [f 32 (by decide), f 33 (by decide), f 34 (by decide), f 35 (by decide), f 36 (by decide)]; exact A4
theorem pe_ra_pa {m σ σ' : pe_H} {z : Int} (hA : pe_ra m σ) (f : ∀ b, b ∈ [30, 31, 32, 33, 34, 35, 36] → σ' b = σ b) (o : ∀ j, j ∈ ([1, 2, 3, 5, 6, 7, 21] : List Int) → σ' 29 j = σ 29 j) (e : σ' 29 19 = z) : pe_ra (pe_eS m 6 z) σ' := by
  obtain ⟨⟨⟨a1, a2, a3, a4, a5⟩, a7, a8, a9⟩, A2, A3, A4⟩ := hA
  refine ⟨⟨⟨(o 1 (by decide)).trans a1, (o 2 (by decide)).trans a2, (o 3 (by decide)).trans a3, (o 5 (by decide)).trans a4, (o 6 (by decide)).trans a5⟩, (o 7 (by decide)).trans a7, e, (o 21 (by decide)).trans a9⟩, ?_, ?_, ?_⟩
  · rw [f 30 (by decide)]; exact A2
  · rw [f 31 (by decide)]; exact A3
  · rw [f 32 (by decide), f 33 (by decide), f 34 (by decide), f 35 (by decide), f 36 (by decide)]; exact A4
/-- the reference's keyboard -/
def pe_rk (s : Int → Int) (τ : pe_H) : Prop := (s 0 = 3 → τ 29 15 = s 3 ∧ τ 29 13 = 0 ∧ τ 29 16 = s 2 ∧ τ 29 17 = s 4 ∧ τ 29 18 = s 5) ∧ (s 0 ≠ 3 → τ 29 15 = 0 ∧ τ 29 13 = s 0 ∧ (s 0 = 2 → τ 29 14 = s 1)) ∧ τ 29 20 = s 6
theorem pe_kk_p {s : Int → Int} {t : Int} (h0 : s 0 = 0) : pe_kk s t = (if t = 27 ∨ (194 ≤ t ∧ t ≤ 239) then -1 else if 128 ≤ t then 65533 else if t = 10 ∧ s 6 = 13 then -1 else t) := by
  unfold pe_kk
  rw [if_neg (by omega), if_neg (by omega), if_neg (by omega)]
theorem pe_ky_0 {s : Int → Int} {t : Int} (h0 : s 0 = 0) : pe_ky s t 0 = (if t = 27 then 1 else if (194 ≤ t ∧ t ≤ 239) then 3 else 0) := by
  show (if s 0 = 1 then 2 else if s 0 = 2 then (if (48 ≤ t ∧ t ≤ 57) then 2 else 0) else if s 0 = 3 then (if 1 < s 3 then 3 else 0) else if t = 27 then 1 else if (194 ≤ t ∧ t ≤ 239) then 3 else 0) = _
  rw [if_neg (by omega), if_neg (by omega), if_neg (by omega)]
theorem pe_rk_p {s : Int → Int} {τ : pe_H} {t : Int} (h0 : s 0 = 0) (h : t ≠ 27 ∧ ¬ (194 ≤ t ∧ t ≤ 239)) (e : τ 29 15 = 0 ∧ τ 29 13 = 0 ∧ τ 29 20 = t) : pe_rk (pe_ky s t) τ := by
  have k0 := pe_ky_0 (t := t) h0
  rw [if_neg h.1, if_neg h.2] at k0
  refine ⟨fun q => ?_, fun _ => ⟨e.1, by omega, fun q => ?_⟩, e.2.2⟩ <;> omega
theorem pe_rk_e {s : Int → Int} {τ : pe_H} {t : Int} (h0 : s 0 = 0) (h : t = 27) (e : τ 29 15 = 0 ∧ τ 29 13 = 1 ∧ τ 29 20 = t) : pe_rk (pe_ky s t) τ := by
  have k0 := pe_ky_0 (t := t) h0
  rw [if_pos h] at k0
  refine ⟨fun q => ?_, fun _ => ⟨e.1, by omega, fun q => ?_⟩, e.2.2⟩ <;> omega
theorem pe_rk_l {s : Int → Int} {τ : pe_H} {t : Int} (h0 : s 0 = 0) (h : 194 ≤ t ∧ t ≤ 239) (e : (τ 29 13 = 0 ∧ τ 29 20 = t) ∧ τ 29 15 = (if t < 224 then 1 else 2) ∧ τ 29 16 = (if t < 224 then t % 32 else t % 16) ∧ τ 29 17 = (if t = 224 then 160 else 128) ∧ τ 29 18 = (if t = 237 then 159 else 191)) : pe_rk (pe_ky s t) τ := by
  have k0 := pe_ky_0 (t := t) h0
  rw [if_neg (by omega), if_pos h] at k0
  have L : s 0 = 0 ∧ (194 ≤ t ∧ t ≤ 239) := ⟨h0, h⟩
  refine ⟨fun _ => ⟨?_, e.1.1, ?_, ?_, ?_⟩, fun q => absurd k0 q, e.1.2⟩
  · show τ 29 15 = (if s 0 = 3 then s 3 - 1 else if s 0 = 0 ∧ (194 ≤ t ∧ t ≤ 239) then (if t < 224 then 1 else 2) else s 3)
    rw [if_neg (by omega), if_pos L]; exact e.2.1
  · show τ 29 16 = (if s 0 = 3 then s 2 * 64 + t % 64 else if s 0 = 0 ∧ (194 ≤ t ∧ t ≤ 239) then (if t < 224 then t % 32 else t % 16) else s 2)
    rw [if_neg (by omega), if_pos L]; exact e.2.2.1
  · show τ 29 17 = (if s 0 = 3 then 128 else if s 0 = 0 ∧ (194 ≤ t ∧ t ≤ 239) then (if t = 224 then 160 else 128) else s 4)
    rw [if_neg (by omega), if_pos L]; exact e.2.2.2.1
  · show τ 29 18 = (if s 0 = 3 then 191 else if s 0 = 0 ∧ (194 ≤ t ∧ t ≤ 239) then (if t = 237 then 159 else 191) else s 5)
    rw [if_neg (by omega), if_pos L]; exact e.2.2.2.2
/-- within a character of several bytes -/
theorem pe_3_out {s : Int → Int} {t : Int} (h0 : s 0 = 3) (h : t < s 4 ∨ s 5 < t) : pe_kl s t = 65533 ∧ pe_kx s t 0 = 0 := by
  show (if s 0 = 1 ∧ t ≠ 91 then (27 : Int) else if s 0 = 3 ∧ (t < s 4 ∨ s 5 < t) then 65533 else -1) = 65533 ∧ (if (s 0 = 1 ∧ t ≠ 91) ∨ (s 0 = 2 ∧ ¬ ((48 ≤ t ∧ t ≤ 57) ∨ (64 ≤ t ∧ t ≤ 126))) ∨ (s 0 = 3 ∧ (t < s 4 ∨ s 5 < t)) then (0 : Int) else s 0) = 0
  rw [if_neg (by omega), if_pos ⟨h0, h⟩, if_pos (by omega)]
  exact ⟨rfl, rfl⟩
theorem pe_3_in {s : Int → Int} {t : Int} (h0 : s 0 = 3) (h : ¬ (t < s 4 ∨ s 5 < t)) : pe_kl s t = -1 ∧ pe_kx s t 0 = 3 ∧ pe_kk (pe_kx s t) t = (if 1 < s 3 ∨ s 2 * 64 + t % 64 < 160 then -1 else s 2 * 64 + t % 64) := by
  have x0 : pe_kx s t 0 = 3 := by
    show (if (s 0 = 1 ∧ t ≠ 91) ∨ (s 0 = 2 ∧ ¬ ((48 ≤ t ∧ t ≤ 57) ∨ (64 ≤ t ∧ t ≤ 126))) ∨ (s 0 = 3 ∧ (t < s 4 ∨ s 5 < t)) then (0 : Int) else s 0) = 3
    rw [if_neg (by omega)]; exact h0
  refine ⟨?_, x0, ?_⟩
  · unfold pe_kl
    rw [if_neg (by omega), if_neg (by omega)]
  · unfold pe_kk
    rw [if_neg (by omega), if_neg (by omega), if_pos x0]
    rfl
theorem pe_rk_3 {s : Int → Int} {τ : pe_H} {t : Int} (hk : pe_kw s) (h0 : s 0 = 3) (h : ¬ (t < s 4 ∨ s 5 < t)) (e : (τ 29 13 = 0 ∧ τ 29 20 = t) ∧ τ 29 15 = s 3 - 1 ∧ τ 29 16 = s 2 * 64 + t % 64 ∧ τ 29 17 = 128 ∧ τ 29 18 = 191) : pe_rk (pe_ky (pe_kx s t) t) τ := by
  obtain ⟨_, x0, _⟩ := pe_3_in h0 h
  have k3 := (hk.2.2 h0).1
  have y0 : pe_ky (pe_kx s t) t 0 = if 1 < s 3 then 3 else 0 := by
    show (if pe_kx s t 0 = 1 then (2 : Int) else if pe_kx s t 0 = 2 then (if (48 ≤ t ∧ t ≤ 57) then 2 else 0) else if pe_kx s t 0 = 3 then (if 1 < s 3 then 3 else 0) else if t = 27 then 1 else if (194 ≤ t ∧ t ≤ 239) then 3 else 0) = _
    rw [if_neg (by omega), if_neg (by omega), if_pos x0]
  have y2 : pe_ky (pe_kx s t) t 2 = s 2 * 64 + t % 64 := by
    show (if pe_kx s t 0 = 3 then s 2 * 64 + t % 64 else _) = _
    rw [if_pos x0]
  have y3 : pe_ky (pe_kx s t) t 3 = s 3 - 1 := by
    show (if pe_kx s t 0 = 3 then s 3 - 1 else _) = _
    rw [if_pos x0]
  have y4 : pe_ky (pe_kx s t) t 4 = 128 := by
    show (if pe_kx s t 0 = 3 then 128 else _) = _
    rw [if_pos x0]
  have y5 : pe_ky (pe_kx s t) t 5 = 191 := by
    show (if pe_kx s t 0 = 3 then 191 else _) = _
    rw [if_pos x0]
  refine ⟨fun _ => ⟨by omega, e.1.1, by omega, by omega, by omega⟩, fun q => ?_, e.1.2⟩
  have n3 : ¬ 1 < s 3 := fun w => q (by rw [y0, if_pos w])
  rw [if_neg n3] at y0
  exact ⟨by omega, by omega, fun w => by omega⟩
/-- within a sequence -/
theorem pe_2_dig {s : Int → Int} {t : Int} (h0 : s 0 = 2) (h : 48 ≤ t ∧ t ≤ 57) : pe_kl s t = -1 ∧ pe_kk (pe_kx s t) t = -1 ∧ pe_ky (pe_kx s t) t 0 = 2 ∧ pe_ky (pe_kx s t) t 1 = (if 9999 ≤ 10 * s 1 + t - 48 then 9999 else 10 * s 1 + t - 48) := by
  have x0 : pe_kx s t 0 = 2 := by
    show (if (s 0 = 1 ∧ t ≠ 91) ∨ (s 0 = 2 ∧ ¬ ((48 ≤ t ∧ t ≤ 57) ∨ (64 ≤ t ∧ t ≤ 126))) ∨ (s 0 = 3 ∧ (t < s 4 ∨ s 5 < t)) then (0 : Int) else s 0) = 2
    rw [if_neg (by omega)]; exact h0
  refine ⟨?_, ?_, ?_, ?_⟩
  · unfold pe_kl
    rw [if_neg (by omega), if_neg (by omega)]
  · unfold pe_kk
    rw [if_neg (by omega), if_pos x0, if_pos h]
  · show (if pe_kx s t 0 = 1 then (2 : Int) else if pe_kx s t 0 = 2 then (if (48 ≤ t ∧ t ≤ 57) then 2 else 0) else _) = 2
    rw [if_neg (by omega), if_pos x0, if_pos h]
  · show (if pe_kx s t 0 = 1 then (0 : Int) else if pe_kx s t 0 = 2 ∧ (48 ≤ t ∧ t ≤ 57) then (if 9999 ≤ 10 * s 1 + t - 48 then 9999 else 10 * s 1 + t - 48) else _) = _
    rw [if_neg (by omega), if_pos ⟨x0, h⟩]
/-- the key of a sequence's last byte -/
def pe_kf (n t : Int) : Int := if t = 65 then 65536 else if t = 66 then 65537 else if t = 67 then 65538 else if t = 68 then 65539 else if t = 72 then 65540 else if t = 70 then 65541 else if t = 126 then (if n = 3 then 65542 else if n = 200 then 65543 else if n = 201 then 65544 else -1) else -1
theorem pe_2_fin {s : Int → Int} {t : Int} (h0 : s 0 = 2) (h : 64 ≤ t ∧ t ≤ 126) : pe_kl s t = -1 ∧ pe_kk (pe_kx s t) t = pe_kf (s 1) t ∧ pe_ky (pe_kx s t) t 0 = 0 := by
  have x0 : pe_kx s t 0 = 2 := by
    show (if (s 0 = 1 ∧ t ≠ 91) ∨ (s 0 = 2 ∧ ¬ ((48 ≤ t ∧ t ≤ 57) ∨ (64 ≤ t ∧ t ≤ 126))) ∨ (s 0 = 3 ∧ (t < s 4 ∨ s 5 < t)) then (0 : Int) else s 0) = 2
    rw [if_neg (by omega)]; exact h0
  refine ⟨?_, ?_, ?_⟩
  · unfold pe_kl
    rw [if_neg (by omega), if_neg (by omega)]
  · unfold pe_kk pe_kf
    rw [if_neg (by omega), if_pos x0, if_neg (by omega)]
    rfl
  · show (if pe_kx s t 0 = 1 then (2 : Int) else if pe_kx s t 0 = 2 then (if (48 ≤ t ∧ t ≤ 57) then 2 else 0) else _) = 0
    rw [if_neg (by omega), if_pos x0, if_neg (by omega)]
theorem pe_2_out {s : Int → Int} {t : Int} (h0 : s 0 = 2) (h : ¬ (48 ≤ t ∧ t ≤ 57) ∧ ¬ (64 ≤ t ∧ t ≤ 126)) : pe_kl s t = -1 ∧ pe_kx s t 0 = 0 := by
  show (if s 0 = 1 ∧ t ≠ 91 then (27 : Int) else if s 0 = 3 ∧ (t < s 4 ∨ s 5 < t) then 65533 else -1) = -1 ∧ (if (s 0 = 1 ∧ t ≠ 91) ∨ (s 0 = 2 ∧ ¬ ((48 ≤ t ∧ t ≤ 57) ∨ (64 ≤ t ∧ t ≤ 126))) ∨ (s 0 = 3 ∧ (t < s 4 ∨ s 5 < t)) then (0 : Int) else s 0) = 0
  rw [if_neg (by omega), if_neg (by omega), if_pos (by omega)]
  exact ⟨rfl, rfl⟩
/-- after ESC -/
theorem pe_1_seq {s : Int → Int} {t : Int} (h0 : s 0 = 1) (h : t = 91) : pe_kl s t = -1 ∧ pe_kk (pe_kx s t) t = -1 ∧ pe_ky (pe_kx s t) t 0 = 2 ∧ pe_ky (pe_kx s t) t 1 = 0 := by
  have x0 : pe_kx s t 0 = 1 := by
    show (if (s 0 = 1 ∧ t ≠ 91) ∨ (s 0 = 2 ∧ ¬ ((48 ≤ t ∧ t ≤ 57) ∨ (64 ≤ t ∧ t ≤ 126))) ∨ (s 0 = 3 ∧ (t < s 4 ∨ s 5 < t)) then (0 : Int) else s 0) = 1
    rw [if_neg (by omega)]; exact h0
  refine ⟨?_, ?_, ?_, ?_⟩
  · unfold pe_kl
    rw [if_neg (by omega), if_neg (by omega)]
  · unfold pe_kk
    rw [if_pos x0]
  · show (if pe_kx s t 0 = 1 then (2 : Int) else _) = 2
    rw [if_pos x0]
  · show (if pe_kx s t 0 = 1 then (0 : Int) else _) = 0
    rw [if_pos x0]
theorem pe_1_out {s : Int → Int} {t : Int} (h0 : s 0 = 1) (h : t ≠ 91) : pe_kl s t = 27 ∧ pe_kx s t 0 = 0 := by
  show (if s 0 = 1 ∧ t ≠ 91 then (27 : Int) else _) = 27 ∧ (if (s 0 = 1 ∧ t ≠ 91) ∨ (s 0 = 2 ∧ ¬ ((48 ≤ t ∧ t ≤ 57) ∨ (64 ≤ t ∧ t ≤ 126))) ∨ (s 0 = 3 ∧ (t < s 4 ∨ s 5 < t)) then (0 : Int) else s 0) = 0
  rw [if_pos ⟨h0, h⟩, if_pos (Or.inl ⟨h0, h⟩)]
  exact ⟨rfl, rfl⟩
theorem pe_0_x {s : Int → Int} (t : Int) (h0 : s 0 = 0) : pe_kl s t = -1 ∧ pe_kx s t 0 = 0 := by
  show (if s 0 = 1 ∧ t ≠ 91 then (27 : Int) else if s 0 = 3 ∧ (t < s 4 ∨ s 5 < t) then 65533 else -1) = -1 ∧ (if (s 0 = 1 ∧ t ≠ 91) ∨ (s 0 = 2 ∧ ¬ ((48 ≤ t ∧ t ≤ 57) ∨ (64 ≤ t ∧ t ≤ 126))) ∨ (s 0 = 3 ∧ (t < s 4 ∨ s 5 < t)) then (0 : Int) else s 0) = 0
  rw [if_neg (by omega), if_neg (by omega), if_neg (by omega)]
  exact ⟨rfl, h0⟩
/-- one byte, by its two presses -/
theorem pe_st_1 {m : pe_H} {s : Int → Int} {t : Int} {k1 k2 : Int} (e1 : pe_kl s t = k1) (e2 : pe_kk (pe_kx s t) t = k2) : (pe_st pe_ePq (m, s) t).1 = pe_ePq (pe_ePq m k1) k2 := by
  show pe_ePq (pe_ePq m (pe_kl s t)) (pe_kk (pe_kx s t) t) = _
  rw [e1, e2]
theorem pe_q_n1 (m : pe_H) : pe_ePq m (-1) = m := pe_gd_q.2.2.2 m
theorem pe_kf_r (n t : Int) : (pe_kf n t = -1 ∨ (65536 ≤ pe_kf n t ∧ pe_kf n t ≤ 65544)) ∧ (pe_kf n t = 65544 → t = 126 ∧ n = 201) := by
  unfold pe_kf
  omega
theorem pe_q_ps {m : pe_H} {k : Int} (h6 : m 6 0 ≠ 0) (hk : k = -1 ∨ (65536 ≤ k ∧ k ≠ 65544)) : pe_ePq m k = m := by
  by_cases u : k = 65536 ∨ k = 65537
  · rw [pe_q_up m u, if_neg h6]
  · exact pe_q_0 (by omega) (Or.inl (by unfold pe_wk; omega))
theorem pe_rk_2 {s : Int → Int} {τ : pe_H} (y0 : s 0 = 2) (e : τ 29 15 = 0 ∧ τ 29 13 = 2 ∧ τ 29 14 = s 1 ∧ τ 29 20 = s 6) : pe_rk s τ :=
  ⟨fun q => by omega, fun _ => ⟨e.1, by omega, fun _ => e.2.2.1⟩, e.2.2.2⟩
theorem pe_rk_00 {s : Int → Int} {τ : pe_H} (y0 : s 0 = 0) (e : τ 29 15 = 0 ∧ τ 29 13 = 0 ∧ τ 29 20 = s 6) : pe_rk s τ :=
  ⟨fun q => by omega, fun _ => ⟨e.1, by omega, fun q => by omega⟩, e.2.2⟩
theorem pe_rk_f {s : Int → Int} {σ τ : pe_H} (h : pe_rk s σ) (o : ∀ j, j ∈ ([13, 14, 15, 16, 17, 18, 20] : List Int) → τ 29 j = σ 29 j) : pe_rk s τ := by
  unfold pe_rk at h ⊢
  rw [o 13 (by decide), o 14 (by decide), o 15 (by decide), o 16 (by decide), o 17 (by decide), o 18 (by decide), o 20 (by decide)]
  exact h
theorem x_M_character {m σ : pe_H} {c : Int} (hB : pe_B σ) (hA : pe_ra m σ) (hw : pe_wf m) (hk : m 5 0 ≤ 11) (hg : pe_bg (m 8) (m 0 0) (m 1 0)) (hc : pe_R c) : pe_M m_M_character [pe_r 29, pe_i c] σ (pe_qv (fun σ' => pe_B σ' ∧ (∀ b, b ∉ [29, 30, 32, 33, 34, 35, 36] → σ' b = σ b) ∧ (∀ j, j ∉ ([1, 2, 3, 6, 7] : List Int) → σ' 29 j = σ 29 j) ∧ pe_ra (pe_eB (pe_eIns (pe_eS m 4 (-1)) 1 (fun _ => c))) σ')) := by
  refine pe_in0 (lv := [some (pe_r 29), some (pe_i c)]) ?_
  have hB0 := hB
  obtain ⟨⟨⟨a1, a2, a3, a4, a5⟩, a7, a8, a9⟩, A2, A3, A4⟩ := id hA
  obtain ⟨⟨w1, w2, w3, w4, w5, w6, w7, w8⟩, W2, W3⟩ := id hw
  refine pe_aload_n d_M_character_0 rfl ?_
  refine pe_iconst d_M_character_1 ?_
  refine pe_putiT f_M_20 g_11_6 d_M_character_2 rfl rfl 6 rfl hB (by first | exact hB _ _ | exact hB0 _ _ | exact hBt _ _ | exact ⟨by omega, by omega⟩) (fun σ2 hB e2 o2 f2 => ?_)
  try have u2_0 : σ2 29 1 = σ 29 1 := by first | exact o2 1 (by decide) | exact congrFun (f2 29 (by decide)) 1
  try have u2_1 : σ2 29 2 = σ 29 2 := by first | exact o2 2 (by decide) | exact congrFun (f2 29 (by decide)) 2
  try have u2_2 : σ2 29 3 = σ 29 3 := by first | exact o2 3 (by decide) | exact congrFun (f2 29 (by decide)) 3
  try have u2_3 : σ2 29 5 = σ 29 5 := by first | exact o2 5 (by decide) | exact congrFun (f2 29 (by decide)) 5
  try have u2_4 : σ2 29 6 = σ 29 6 := by first | exact o2 6 (by decide) | exact congrFun (f2 29 (by decide)) 6
  try have u2_5 : σ2 29 7 = σ 29 7 := by first | exact o2 7 (by decide) | exact congrFun (f2 29 (by decide)) 7
  try have u2_6 : σ2 29 19 = σ 29 19 := by first | exact o2 19 (by decide) | exact congrFun (f2 29 (by decide)) 19
  try have u2_7 : σ2 29 21 = σ 29 21 := by first | exact o2 21 (by decide) | exact congrFun (f2 29 (by decide)) 21
  have hA1 := pe_ra_gl hA (fun b hb => (f2 b (by rintro rfl; simp at hb))) (fun j hj => (o2 j (by rintro rfl; simp at hj))) e2
  have hw1 := pe_wf_gl (z := -1) hw (by omega)
  refine pe_aload_n d_M_character_5 rfl ?_
  refine pe_iload_n d_M_character_6 rfl ?_
  refine pe_v1v d_M_character_7 c_M_141 i_M_insertOne s_M_insertOne rfl rfl (x_M_insertOne hB hA1 hw1 hk hg (by first | exact hB _ _ | exact hB0 _ _ | exact hBt _ _ | exact ⟨by omega, by omega⟩)) (fun σ7 hz7 => ?_)
  obtain ⟨hB, f7, o7, x7⟩ := hz7
  try have u7_0 : σ7 29 1 = σ2 29 1 := by first | exact o7 1 (by decide) | exact congrFun (f7 29 (by decide)) 1
  try have u7_1 : σ7 29 2 = σ2 29 2 := by first | exact o7 2 (by decide) | exact congrFun (f7 29 (by decide)) 2
  try have u7_2 : σ7 29 3 = σ2 29 3 := by first | exact o7 3 (by decide) | exact congrFun (f7 29 (by decide)) 3
  try have u7_3 : σ7 29 5 = σ2 29 5 := by first | exact o7 5 (by decide) | exact congrFun (f7 29 (by decide)) 5
  try have u7_4 : σ7 29 6 = σ2 29 6 := by first | exact o7 6 (by decide) | exact congrFun (f7 29 (by decide)) 6
  try have u7_5 : σ7 29 7 = σ2 29 7 := by first | exact o7 7 (by decide) | exact congrFun (f7 29 (by decide)) 7
  try have u7_6 : σ7 29 19 = σ2 29 19 := by first | exact o7 19 (by decide) | exact congrFun (f7 29 (by decide)) 19
  try have u7_7 : σ7 29 21 = σ2 29 21 := by first | exact o7 21 (by decide) | exact congrFun (f7 29 (by decide)) 21
  refine pe_rv d_M_character_10 ?_
  exact ⟨hB, (fun b hb => (f7 b (by simp at hb ⊢; try omega)).trans ((f2 b (by simp at hb ⊢; try omega)).trans (rfl))), (fun j hj => (o7 j (by simp at hj ⊢; try omega)).trans ((o2 j (by simp at hj ⊢; try omega)).trans (rfl))), x7⟩
theorem x_M_escapeKey {m σ : pe_H} (hB : pe_B σ) (hA : pe_ra m σ) (hw : pe_wf m) (hk : m 5 0 ≤ 11) (hg : pe_bg (m 8) (m 0 0) (m 1 0)) : pe_M m_M_escapeKey [pe_r 29] σ (pe_qv (fun σ' => pe_B σ' ∧ (∀ b, b ∉ [29] → σ' b = σ b) ∧ (∀ j, j ∉ ([3, 6] : List Int) → σ' 29 j = σ 29 j) ∧ pe_ra (pe_ePq m 27) σ')) := by
  refine pe_in0 (lv := [some (pe_r 29)]) ?_
  have hB0 := hB
  obtain ⟨⟨⟨a1, a2, a3, a4, a5⟩, a7, a8, a9⟩, A2, A3, A4⟩ := id hA
  obtain ⟨⟨w1, w2, w3, w4, w5, w6, w7, w8⟩, W2, W3⟩ := id hw
  refine pe_aload_n d_M_escapeKey_0 rfl ?_
  refine pe_geti f_M_147 d_M_escapeKey_1 rfl rfl 19 rfl ?_
  refine pe_if_eq (t := 8) d_M_escapeKey_4 (by first | exact hB _ _ | exact hB0 _ _ | exact hBt _ _ | exact ⟨by omega, by omega⟩) (fun h4 => ?_) (fun h4 => ?_)
  · skip
    refine pe_aload_n d_M_escapeKey_8 rfl ?_
    refine pe_iconst d_M_escapeKey_9 ?_
    refine pe_putiT f_M_20 g_11_6 d_M_escapeKey_10 rfl rfl 6 rfl hB (by first | exact hB _ _ | exact hB0 _ _ | exact hBt _ _ | exact ⟨by omega, by omega⟩) (fun σ10 hB e10 o10 f10 => ?_)
    try have u10_0 : σ10 29 1 = σ 29 1 := by first | exact o10 1 (by decide) | exact congrFun (f10 29 (by decide)) 1
    try have u10_1 : σ10 29 2 = σ 29 2 := by first | exact o10 2 (by decide) | exact congrFun (f10 29 (by decide)) 2
    try have u10_2 : σ10 29 3 = σ 29 3 := by first | exact o10 3 (by decide) | exact congrFun (f10 29 (by decide)) 3
    try have u10_3 : σ10 29 5 = σ 29 5 := by first | exact o10 5 (by decide) | exact congrFun (f10 29 (by decide)) 5
    try have u10_4 : σ10 29 6 = σ 29 6 := by first | exact o10 6 (by decide) | exact congrFun (f10 29 (by decide)) 6
    try have u10_5 : σ10 29 7 = σ 29 7 := by first | exact o10 7 (by decide) | exact congrFun (f10 29 (by decide)) 7
    try have u10_6 : σ10 29 19 = σ 29 19 := by first | exact o10 19 (by decide) | exact congrFun (f10 29 (by decide)) 19
    try have u10_7 : σ10 29 21 = σ 29 21 := by first | exact o10 21 (by decide) | exact congrFun (f10 29 (by decide)) 21
    refine pe_aload_n d_M_escapeKey_13 rfl ?_
    refine pe_iconst d_M_escapeKey_14 ?_
    refine pe_putiT f_M_13 g_11_3 d_M_escapeKey_15 rfl rfl 3 rfl hB (by first | exact hB _ _ | exact hB0 _ _ | exact hBt _ _ | exact ⟨by omega, by omega⟩) (fun σ15 hB e15 o15 f15 => ?_)
    try have u15_0 : σ15 29 1 = σ10 29 1 := by first | exact o15 1 (by decide) | exact congrFun (f15 29 (by decide)) 1
    try have u15_1 : σ15 29 2 = σ10 29 2 := by first | exact o15 2 (by decide) | exact congrFun (f15 29 (by decide)) 2
    try have u15_2 : σ15 29 3 = σ10 29 3 := by first | exact o15 3 (by decide) | exact congrFun (f15 29 (by decide)) 3
    try have u15_3 : σ15 29 5 = σ10 29 5 := by first | exact o15 5 (by decide) | exact congrFun (f15 29 (by decide)) 5
    try have u15_4 : σ15 29 6 = σ10 29 6 := by first | exact o15 6 (by decide) | exact congrFun (f15 29 (by decide)) 6
    try have u15_5 : σ15 29 7 = σ10 29 7 := by first | exact o15 7 (by decide) | exact congrFun (f15 29 (by decide)) 7
    try have u15_6 : σ15 29 19 = σ10 29 19 := by first | exact o15 19 (by decide) | exact congrFun (f15 29 (by decide)) 19
    try have u15_7 : σ15 29 21 = σ10 29 21 := by first | exact o15 21 (by decide) | exact congrFun (f15 29 (by decide)) 21
    refine pe_rv d_M_escapeKey_18 ?_
    have hA1 := pe_ra_gl hA (fun b hb => (f10 b (by rintro rfl; simp at hb))) (fun j hj => (o10 j (by rintro rfl; simp at hj))) e10
    have hA2 := pe_ra_mk hA1 (fun b hb => (f15 b (by rintro rfl; simp at hb))) (fun j hj => (o15 j (by rintro rfl; simp at hj))) e15
    exact ⟨hB, (fun b hb => (f15 b (by simp at hb ⊢; try omega)).trans ((f10 b (by simp at hb ⊢; try omega)).trans (rfl))), (fun j hj => (o15 j (by simp at hj ⊢; try omega)).trans ((o10 j (by simp at hj ⊢; try omega)).trans (rfl))), by
      rw [pe_q_k (M := pe_eS (pe_eS m 4 (-1)) 2 (-1)) (by omega) (by unfold pe_wk; omega) (by unfold pe_eCmd; (repeat (first | rw [if_pos (by omega)] | rw [if_neg (by omega)])); first | done | rfl)]
      exact pe_ra_Bs hA2 w2.1 hg⟩
  · skip
    refine pe_rv d_M_escapeKey_7 ?_
    exact ⟨hB, (fun b hb => rfl), (fun j hj => rfl), by rw [pe_q_0 (by omega) (Or.inl (by unfold pe_wk; omega))]; exact hA⟩
theorem x_M_command {m σ : pe_H} {b : Int} (hB : pe_B σ) (hA : pe_ra m σ) (hw : pe_wf m) (hk : m 5 0 ≤ 11) (hg : pe_bg (m 8) (m 0 0) (m 1 0)) (hp : m 6 0 = 0) (hb : 0 ≤ b ∧ b ≤ 127 ∧ b ≠ 9 ∧ b ≠ 13 ∧ b ≠ 27 ∧ ¬ (32 ≤ b ∧ b ≤ 126)) : pe_M m_M_command [pe_r 29, pe_i b] σ (pe_qv (fun σ' => pe_B σ' ∧ (∀ b, b ∉ [29, 30, 32, 33, 34, 35, 36, 31] → σ' b = σ b) ∧ (∀ j, j ∉ ([1, 2, 3, 5, 6, 7, 41] : List Int) → σ' 29 j = σ 29 j) ∧ pe_ra (pe_ePq m b) σ')) := by
  refine pe_in0 (lv := [some (pe_r 29), some (pe_i b)]) ?_
  have hB0 := hB
  obtain ⟨⟨⟨a1, a2, a3, a4, a5⟩, a7, a8, a9⟩, A2, A3, A4⟩ := id hA
  obtain ⟨⟨w1, w2, w3, w4, w5, w6, w7, w8⟩, W2, W3⟩ := id hw
  have J41 : ∀ _u : Unit, (b = 127 ∨ b = 8 ∨ b = 0 ∨ b = 23 ∨ b = 25 ∨ b = 26 ∨ b = 12) → pe_G m_M_command 41 [some (pe_r 29), some (pe_i b)] [] σ (pe_qv (fun σ' => pe_B σ' ∧ (∀ b, b ∉ [29, 30, 32, 33, 34, 35, 36, 31] → σ' b = σ b) ∧ (∀ j, j ∉ ([1, 2, 3, 5, 6, 7, 41] : List Int) → σ' 29 j = σ 29 j) ∧ pe_ra (pe_ePq m b) σ')) := by
    intro _u hI
    refine pe_aload_n d_M_command_41 rfl ?_
    refine pe_iconst d_M_command_42 ?_
    refine pe_putiT f_M_20 g_11_6 d_M_command_43 rfl rfl 6 rfl hB (by first | exact hB _ _ | exact hB0 _ _ | exact hBt _ _ | exact ⟨by omega, by omega⟩) (fun σ43 hB e43 o43 f43 => ?_)
    try have u43_0 : σ43 29 1 = σ 29 1 := by first | exact o43 1 (by decide) | exact congrFun (f43 29 (by decide)) 1
    try have u43_1 : σ43 29 2 = σ 29 2 := by first | exact o43 2 (by decide) | exact congrFun (f43 29 (by decide)) 2
    try have u43_2 : σ43 29 3 = σ 29 3 := by first | exact o43 3 (by decide) | exact congrFun (f43 29 (by decide)) 3
    try have u43_3 : σ43 29 5 = σ 29 5 := by first | exact o43 5 (by decide) | exact congrFun (f43 29 (by decide)) 5
    try have u43_4 : σ43 29 6 = σ 29 6 := by first | exact o43 6 (by decide) | exact congrFun (f43 29 (by decide)) 6
    try have u43_5 : σ43 29 7 = σ 29 7 := by first | exact o43 7 (by decide) | exact congrFun (f43 29 (by decide)) 7
    try have u43_6 : σ43 29 19 = σ 29 19 := by first | exact o43 19 (by decide) | exact congrFun (f43 29 (by decide)) 19
    try have u43_7 : σ43 29 21 = σ 29 21 := by first | exact o43 21 (by decide) | exact congrFun (f43 29 (by decide)) 21
    have hA1 := pe_ra_gl hA (fun b hb => (f43 b (by rintro rfl; simp at hb))) (fun j hj => (o43 j (by rintro rfl; simp at hj))) e43
    have hw1 := pe_wf_gl (z := -1) hw (by omega)
    have WK : pe_wk m b := by unfold pe_wk; omega
    have g0 : pe_eS m 4 (-1) 0 0 = m 0 0 := rfl
    have g1 : pe_eS m 4 (-1) 1 0 = m 1 0 := rfl
    have g6 : pe_eS m 4 (-1) 6 0 = m 6 0 := rfl
    have c2 : σ43 29 2 = m 1 0 := by omega
    have c1 : σ43 29 1 = m 0 0 := by omega
    refine pe_iload_n d_M_command_46 rfl ?_
    refine pe_if_ne (t := 61) d_M_command_47 (by first | exact hB _ _ | exact hB0 _ _ | exact hBt _ _ | exact ⟨by omega, by omega⟩) (fun h47 => ?_) (fun h47 => ?_)
    · skip
      refine pe_iload_n d_M_command_61 rfl ?_
      refine pe_bipush d_M_command_62 ?_
      refine pe_icmp_ne (t := 74) d_M_command_64 (by first | exact hB _ _ | exact hB0 _ _ | exact hBt _ _ | exact ⟨by omega, by omega⟩) (by first | exact hB _ _ | exact hB0 _ _ | exact hBt _ _ | exact ⟨by omega, by omega⟩) (fun h64 => ?_) (fun h64 => ?_)
      · skip
        refine pe_iload_n d_M_command_74 rfl ?_
        refine pe_bipush d_M_command_75 ?_
        refine pe_icmp_ne (t := 87) d_M_command_77 (by first | exact hB _ _ | exact hB0 _ _ | exact hBt _ _ | exact ⟨by omega, by omega⟩) (by first | exact hB _ _ | exact hB0 _ _ | exact hBt _ _ | exact ⟨by omega, by omega⟩) (fun h77 => ?_) (fun h77 => ?_)
        · skip
          refine pe_iload_n d_M_command_87 rfl ?_
          refine pe_bipush d_M_command_88 ?_
          refine pe_icmp_ne (t := 100) d_M_command_90 (by first | exact hB _ _ | exact hB0 _ _ | exact hBt _ _ | exact ⟨by omega, by omega⟩) (by first | exact hB _ _ | exact hB0 _ _ | exact hBt _ _ | exact ⟨by omega, by omega⟩) (fun h90 => ?_) (fun h90 => ?_)
          · skip
            refine pe_iload_n d_M_command_100 rfl ?_
            refine pe_bipush d_M_command_101 ?_
            refine pe_icmp_ne (t := 114) d_M_command_103 (by first | exact hB _ _ | exact hB0 _ _ | exact hBt _ _ | exact ⟨by omega, by omega⟩) (by first | exact hB _ _ | exact hB0 _ _ | exact hBt _ _ | exact ⟨by omega, by omega⟩) (fun h103 => ?_) (fun h103 => ?_)
            · skip
              refine pe_aload_n d_M_command_114 rfl ?_
              refine pe_geti f_M_117 d_M_command_115 rfl rfl 2 rfl ?_
              refine pe_if_le (t := 137) d_M_command_118 (by first | exact hB _ _ | exact hB0 _ _ | exact hBt _ _ | exact ⟨by omega, by omega⟩) (fun h118 => ?_) (fun h118 => ?_)
              · skip
                refine pe_rv d_M_command_137 ?_
                first
                | exact ⟨hB, (fun b hb => (f43 b (by simp at hb ⊢; try omega)).trans (rfl)), (fun j hj => (o43 j (by simp at hj ⊢; try omega)).trans (rfl)), xx⟩
                | (have xx : pe_ra (pe_ePq m b) σ43 := by
                     rw [pe_q_k (M := (pe_eS m 4 (-1))) (by omega) WK (by unfold pe_eCmd; (repeat (first | rw [if_pos (by omega)] | rw [if_neg (by omega)])); first | done | rfl)]
                     exact pe_ra_Bs hA1 w2.1 hg
                   exact ⟨hB, (fun b hb => (f43 b (by simp at hb ⊢; try omega)).trans (rfl)), (fun j hj => (o43 j (by simp at hj ⊢; try omega)).trans (rfl)), xx⟩)
              · skip
                refine pe_aload_n d_M_command_121 rfl ?_
                refine pe_aload_n d_M_command_122 rfl ?_
                refine pe_aload_n d_M_command_123 rfl ?_
                refine pe_geti f_M_117 d_M_command_124 rfl rfl 2 rfl ?_
                refine pe_v1p d_M_command_127 c_M_162 i_M_before s_M_before rfl rfl (x_M_before hB (by omega) (by omega)) (fun z127 hz127 => ?_)
                rw [c2, c1, f43 30 (by decide)] at hz127
                have ZB := pe_ba_of (t' := m 8) A2 hz127.1 hz127.2.1 hz127.2.2
                refine pe_aload_n d_M_command_130 rfl ?_
                refine pe_geti f_M_117 d_M_command_131 rfl rfl 2 rfl ?_
                refine pe_v2v d_M_command_134 c_M_138 i_M_takeAway s_M_takeAway rfl rfl (x_M_takeAway hB hA1 hw1 hk hg (show 0 ≤ z127 ∧ z127 ≤ σ43 29 2 ∧ σ43 29 2 ≤ m 0 0 by omega)) (fun σ134 hz134 => ?_)
                obtain ⟨hB, f134, o134, x134⟩ := hz134
                try have u134_0 : σ134 29 1 = σ43 29 1 := by first | exact o134 1 (by decide) | exact congrFun (f134 29 (by decide)) 1
                try have u134_1 : σ134 29 2 = σ43 29 2 := by first | exact o134 2 (by decide) | exact congrFun (f134 29 (by decide)) 2
                try have u134_2 : σ134 29 3 = σ43 29 3 := by first | exact o134 3 (by decide) | exact congrFun (f134 29 (by decide)) 3
                try have u134_3 : σ134 29 5 = σ43 29 5 := by first | exact o134 5 (by decide) | exact congrFun (f134 29 (by decide)) 5
                try have u134_4 : σ134 29 6 = σ43 29 6 := by first | exact o134 6 (by decide) | exact congrFun (f134 29 (by decide)) 6
                try have u134_5 : σ134 29 7 = σ43 29 7 := by first | exact o134 7 (by decide) | exact congrFun (f134 29 (by decide)) 7
                try have u134_6 : σ134 29 19 = σ43 29 19 := by first | exact o134 19 (by decide) | exact congrFun (f134 29 (by decide)) 19
                try have u134_7 : σ134 29 21 = σ43 29 21 := by first | exact o134 21 (by decide) | exact congrFun (f134 29 (by decide)) 21
                rw [c2, ZB] at x134
                have xx : pe_ra (pe_ePq m b) σ134 := by
                  rw [pe_q_k (M := pe_eDel (pe_eS m 4 (-1)) (pe_ba (m 8) (m 0 0) (m 1 0)) (m 1 0)) (by omega) WK (by unfold pe_eCmd; (repeat (first | rw [if_pos (by omega)] | rw [if_neg (by omega)])); first | done | rfl)]
                  exact x134
                refine pe_rv d_M_command_137 ?_
                first
                | exact ⟨hB, (fun b hb => (f134 b (by simp at hb ⊢; try omega)).trans ((f43 b (by simp at hb ⊢; try omega)).trans (rfl))), (fun j hj => (o134 j (by simp at hj ⊢; try omega)).trans ((o43 j (by simp at hj ⊢; try omega)).trans (rfl))), xx⟩
                | (have xx : pe_ra (pe_ePq m b) σ43 := by
                     rw [pe_q_k (M := (pe_eS m 4 (-1))) (by omega) WK (by unfold pe_eCmd; (repeat (first | rw [if_pos (by omega)] | rw [if_neg (by omega)])); first | done | rfl)]
                     exact pe_ra_Bs hA1 w2.1 hg
                   exact ⟨hB, (fun b hb => (f134 b (by simp at hb ⊢; try omega)).trans ((f43 b (by simp at hb ⊢; try omega)).trans (rfl))), (fun j hj => (o134 j (by simp at hj ⊢; try omega)).trans ((o43 j (by simp at hj ⊢; try omega)).trans (rfl))), xx⟩)
            · skip
              refine pe_aload_n d_M_command_106 rfl ?_
              refine pe_iconst d_M_command_107 ?_
              refine pe_putzT f_M_71 g_11_41 d_M_command_108 rfl rfl (by first | exact Or.inl rfl | exact Or.inr rfl | omega) 41 rfl hB (fun σ108 hB e108 o108 f108 => ?_)
              try have u108_0 : σ108 29 1 = σ43 29 1 := by first | exact o108 1 (by decide) | exact congrFun (f108 29 (by decide)) 1
              try have u108_1 : σ108 29 2 = σ43 29 2 := by first | exact o108 2 (by decide) | exact congrFun (f108 29 (by decide)) 2
              try have u108_2 : σ108 29 3 = σ43 29 3 := by first | exact o108 3 (by decide) | exact congrFun (f108 29 (by decide)) 3
              try have u108_3 : σ108 29 5 = σ43 29 5 := by first | exact o108 5 (by decide) | exact congrFun (f108 29 (by decide)) 5
              try have u108_4 : σ108 29 6 = σ43 29 6 := by first | exact o108 6 (by decide) | exact congrFun (f108 29 (by decide)) 6
              try have u108_5 : σ108 29 7 = σ43 29 7 := by first | exact o108 7 (by decide) | exact congrFun (f108 29 (by decide)) 7
              try have u108_6 : σ108 29 19 = σ43 29 19 := by first | exact o108 19 (by decide) | exact congrFun (f108 29 (by decide)) 19
              try have u108_7 : σ108 29 21 = σ43 29 21 := by first | exact o108 21 (by decide) | exact congrFun (f108 29 (by decide)) 21
              have hA2 := pe_ra_f hA1 (fun b hb => (f108 b (by rintro rfl; simp at hb))) (fun j hj => (o108 j (by rintro rfl; simp at hj)))
              have xx : pe_ra (pe_ePq m b) σ108 := by
                rw [pe_q_k (M := (pe_eS m 4 (-1))) (by omega) WK (by unfold pe_eCmd; (repeat (first | rw [if_pos (by omega)] | rw [if_neg (by omega)])); first | done | rfl)]
                exact pe_ra_Bs hA2 w2.1 hg
              refine pe_goto (t := 137) d_M_command_111 ?_
              refine pe_rv d_M_command_137 ?_
              first
              | exact ⟨hB, (fun b hb => (f108 b (by simp at hb ⊢; try omega)).trans ((f43 b (by simp at hb ⊢; try omega)).trans (rfl))), (fun j hj => (o108 j (by simp at hj ⊢; try omega)).trans ((o43 j (by simp at hj ⊢; try omega)).trans (rfl))), xx⟩
              | (have xx : pe_ra (pe_ePq m b) σ43 := by
                   rw [pe_q_k (M := (pe_eS m 4 (-1))) (by omega) WK (by unfold pe_eCmd; (repeat (first | rw [if_pos (by omega)] | rw [if_neg (by omega)])); first | done | rfl)]
                   exact pe_ra_Bs hA1 w2.1 hg
                 exact ⟨hB, (fun b hb => (f108 b (by simp at hb ⊢; try omega)).trans ((f43 b (by simp at hb ⊢; try omega)).trans (rfl))), (fun j hj => (o108 j (by simp at hj ⊢; try omega)).trans ((o43 j (by simp at hj ⊢; try omega)).trans (rfl))), xx⟩)
          · skip
            refine pe_aload_n d_M_command_93 rfl ?_
            refine pe_v0v d_M_command_94 c_M_159 i_M_undo s_M_undo rfl rfl (x_M_undo hB hA1 hw1 hk hg) (fun σ94 hz94 => ?_)
            obtain ⟨hB, f94, o94, x94⟩ := hz94
            try have u94_0 : σ94 29 1 = σ43 29 1 := by first | exact o94 1 (by decide) | exact congrFun (f94 29 (by decide)) 1
            try have u94_1 : σ94 29 2 = σ43 29 2 := by first | exact o94 2 (by decide) | exact congrFun (f94 29 (by decide)) 2
            try have u94_2 : σ94 29 3 = σ43 29 3 := by first | exact o94 3 (by decide) | exact congrFun (f94 29 (by decide)) 3
            try have u94_3 : σ94 29 5 = σ43 29 5 := by first | exact o94 5 (by decide) | exact congrFun (f94 29 (by decide)) 5
            try have u94_4 : σ94 29 6 = σ43 29 6 := by first | exact o94 6 (by decide) | exact congrFun (f94 29 (by decide)) 6
            try have u94_5 : σ94 29 7 = σ43 29 7 := by first | exact o94 7 (by decide) | exact congrFun (f94 29 (by decide)) 7
            try have u94_6 : σ94 29 19 = σ43 29 19 := by first | exact o94 19 (by decide) | exact congrFun (f94 29 (by decide)) 19
            try have u94_7 : σ94 29 21 = σ43 29 21 := by first | exact o94 21 (by decide) | exact congrFun (f94 29 (by decide)) 21
            have xx : pe_ra (pe_ePq m b) σ94 := by
              rw [pe_q_k (M := pe_eUndo (pe_eS m 4 (-1))) (by omega) WK (by unfold pe_eCmd; (repeat (first | rw [if_pos (by omega)] | rw [if_neg (by omega)])); first | done | rfl)]
              exact x94
            refine pe_goto (t := 137) d_M_command_97 ?_
            refine pe_rv d_M_command_137 ?_
            first
            | exact ⟨hB, (fun b hb => (f94 b (by simp at hb ⊢; try omega)).trans ((f43 b (by simp at hb ⊢; try omega)).trans (rfl))), (fun j hj => (o94 j (by simp at hj ⊢; try omega)).trans ((o43 j (by simp at hj ⊢; try omega)).trans (rfl))), xx⟩
            | (have xx : pe_ra (pe_ePq m b) σ43 := by
                 rw [pe_q_k (M := (pe_eS m 4 (-1))) (by omega) WK (by unfold pe_eCmd; (repeat (first | rw [if_pos (by omega)] | rw [if_neg (by omega)])); first | done | rfl)]
                 exact pe_ra_Bs hA1 w2.1 hg
               exact ⟨hB, (fun b hb => (f94 b (by simp at hb ⊢; try omega)).trans ((f43 b (by simp at hb ⊢; try omega)).trans (rfl))), (fun j hj => (o94 j (by simp at hj ⊢; try omega)).trans ((o43 j (by simp at hj ⊢; try omega)).trans (rfl))), xx⟩)
        · skip
          refine pe_aload_n d_M_command_80 rfl ?_
          refine pe_v0v d_M_command_81 c_M_156 i_M_insertClip s_M_insertClip rfl rfl (x_M_insertClip hB hA1 hw1 hk hg) (fun σ81 hz81 => ?_)
          obtain ⟨hB, f81, o81, x81⟩ := hz81
          try have u81_0 : σ81 29 1 = σ43 29 1 := by first | exact o81 1 (by decide) | exact congrFun (f81 29 (by decide)) 1
          try have u81_1 : σ81 29 2 = σ43 29 2 := by first | exact o81 2 (by decide) | exact congrFun (f81 29 (by decide)) 2
          try have u81_2 : σ81 29 3 = σ43 29 3 := by first | exact o81 3 (by decide) | exact congrFun (f81 29 (by decide)) 3
          try have u81_3 : σ81 29 5 = σ43 29 5 := by first | exact o81 5 (by decide) | exact congrFun (f81 29 (by decide)) 5
          try have u81_4 : σ81 29 6 = σ43 29 6 := by first | exact o81 6 (by decide) | exact congrFun (f81 29 (by decide)) 6
          try have u81_5 : σ81 29 7 = σ43 29 7 := by first | exact o81 7 (by decide) | exact congrFun (f81 29 (by decide)) 7
          try have u81_6 : σ81 29 19 = σ43 29 19 := by first | exact o81 19 (by decide) | exact congrFun (f81 29 (by decide)) 19
          try have u81_7 : σ81 29 21 = σ43 29 21 := by first | exact o81 21 (by decide) | exact congrFun (f81 29 (by decide)) 21
          have xx : pe_ra (pe_ePq m b) σ81 := by
            rw [pe_q_k (M := pe_eIns (pe_eS m 4 (-1)) ((pe_eS m 4 (-1)) 3 0) ((pe_eS m 4 (-1)) 9)) (by omega) WK (by unfold pe_eCmd; (repeat (first | rw [if_pos (by omega)] | rw [if_neg (by omega)])); first | done | rfl)]
            exact x81
          refine pe_goto (t := 137) d_M_command_84 ?_
          refine pe_rv d_M_command_137 ?_
          first
          | exact ⟨hB, (fun b hb => (f81 b (by simp at hb ⊢; try omega)).trans ((f43 b (by simp at hb ⊢; try omega)).trans (rfl))), (fun j hj => (o81 j (by simp at hj ⊢; try omega)).trans ((o43 j (by simp at hj ⊢; try omega)).trans (rfl))), xx⟩
          | (have xx : pe_ra (pe_ePq m b) σ43 := by
               rw [pe_q_k (M := (pe_eS m 4 (-1))) (by omega) WK (by unfold pe_eCmd; (repeat (first | rw [if_pos (by omega)] | rw [if_neg (by omega)])); first | done | rfl)]
               exact pe_ra_Bs hA1 w2.1 hg
             exact ⟨hB, (fun b hb => (f81 b (by simp at hb ⊢; try omega)).trans ((f43 b (by simp at hb ⊢; try omega)).trans (rfl))), (fun j hj => (o81 j (by simp at hj ⊢; try omega)).trans ((o43 j (by simp at hj ⊢; try omega)).trans (rfl))), xx⟩)
      · skip
        refine pe_aload_n d_M_command_67 rfl ?_
        refine pe_v0v d_M_command_68 c_M_153 i_M_cutOut s_M_cutOut rfl rfl (x_M_cutOut hB hA1 hw1 hk hg) (fun σ68 hz68 => ?_)
        obtain ⟨hB, f68, o68, x68⟩ := hz68
        try have u68_0 : σ68 29 1 = σ43 29 1 := by first | exact o68 1 (by decide) | exact congrFun (f68 29 (by decide)) 1
        try have u68_1 : σ68 29 2 = σ43 29 2 := by first | exact o68 2 (by decide) | exact congrFun (f68 29 (by decide)) 2
        try have u68_2 : σ68 29 3 = σ43 29 3 := by first | exact o68 3 (by decide) | exact congrFun (f68 29 (by decide)) 3
        try have u68_3 : σ68 29 5 = σ43 29 5 := by first | exact o68 5 (by decide) | exact congrFun (f68 29 (by decide)) 5
        try have u68_4 : σ68 29 6 = σ43 29 6 := by first | exact o68 6 (by decide) | exact congrFun (f68 29 (by decide)) 6
        try have u68_5 : σ68 29 7 = σ43 29 7 := by first | exact o68 7 (by decide) | exact congrFun (f68 29 (by decide)) 7
        try have u68_6 : σ68 29 19 = σ43 29 19 := by first | exact o68 19 (by decide) | exact congrFun (f68 29 (by decide)) 19
        try have u68_7 : σ68 29 21 = σ43 29 21 := by first | exact o68 21 (by decide) | exact congrFun (f68 29 (by decide)) 21
        have xx : pe_ra (pe_ePq m b) σ68 := by
          rw [pe_q_k (M := pe_eCut (pe_eS m 4 (-1))) (by omega) WK (by unfold pe_eCmd; (repeat (first | rw [if_pos (by omega)] | rw [if_neg (by omega)])); first | done | rfl)]
          exact x68
        refine pe_goto (t := 137) d_M_command_71 ?_
        refine pe_rv d_M_command_137 ?_
        first
        | exact ⟨hB, (fun b hb => (f68 b (by simp at hb ⊢; try omega)).trans ((f43 b (by simp at hb ⊢; try omega)).trans (rfl))), (fun j hj => (o68 j (by simp at hj ⊢; try omega)).trans ((o43 j (by simp at hj ⊢; try omega)).trans (rfl))), xx⟩
        | (have xx : pe_ra (pe_ePq m b) σ43 := by
             rw [pe_q_k (M := (pe_eS m 4 (-1))) (by omega) WK (by unfold pe_eCmd; (repeat (first | rw [if_pos (by omega)] | rw [if_neg (by omega)])); first | done | rfl)]
             exact pe_ra_Bs hA1 w2.1 hg
           exact ⟨hB, (fun b hb => (f68 b (by simp at hb ⊢; try omega)).trans ((f43 b (by simp at hb ⊢; try omega)).trans (rfl))), (fun j hj => (o68 j (by simp at hj ⊢; try omega)).trans ((o43 j (by simp at hj ⊢; try omega)).trans (rfl))), xx⟩)
    · skip
      refine pe_aload_n d_M_command_50 rfl ?_
      refine pe_aload_n d_M_command_51 rfl ?_
      refine pe_geti f_M_117 d_M_command_52 rfl rfl 2 rfl ?_
      refine pe_putiT f_M_13 g_11_3 d_M_command_55 rfl rfl 3 rfl hB (by first | exact hB _ _ | exact hB0 _ _ | exact hBt _ _ | exact ⟨by omega, by omega⟩) (fun σ55 hB e55 o55 f55 => ?_)
      try have u55_0 : σ55 29 1 = σ43 29 1 := by first | exact o55 1 (by decide) | exact congrFun (f55 29 (by decide)) 1
      try have u55_1 : σ55 29 2 = σ43 29 2 := by first | exact o55 2 (by decide) | exact congrFun (f55 29 (by decide)) 2
      try have u55_2 : σ55 29 3 = σ43 29 3 := by first | exact o55 3 (by decide) | exact congrFun (f55 29 (by decide)) 3
      try have u55_3 : σ55 29 5 = σ43 29 5 := by first | exact o55 5 (by decide) | exact congrFun (f55 29 (by decide)) 5
      try have u55_4 : σ55 29 6 = σ43 29 6 := by first | exact o55 6 (by decide) | exact congrFun (f55 29 (by decide)) 6
      try have u55_5 : σ55 29 7 = σ43 29 7 := by first | exact o55 7 (by decide) | exact congrFun (f55 29 (by decide)) 7
      try have u55_6 : σ55 29 19 = σ43 29 19 := by first | exact o55 19 (by decide) | exact congrFun (f55 29 (by decide)) 19
      try have u55_7 : σ55 29 21 = σ43 29 21 := by first | exact o55 21 (by decide) | exact congrFun (f55 29 (by decide)) 21
      have hA2 := pe_ra_mk hA1 (fun b hb => (f55 b (by rintro rfl; simp at hb))) (fun j hj => (o55 j (by rintro rfl; simp at hj))) (e55.trans c2)
      have xx : pe_ra (pe_ePq m b) σ55 := by
        rw [pe_q_k (M := pe_eS (pe_eS m 4 (-1)) 2 (m 1 0)) (by omega) WK (by unfold pe_eCmd; (repeat (first | rw [if_pos (by omega)] | rw [if_neg (by omega)])); first | done | rfl)]
        exact pe_ra_Bs hA2 w2.1 hg
      refine pe_goto (t := 137) d_M_command_58 ?_
      refine pe_rv d_M_command_137 ?_
      first
      | exact ⟨hB, (fun b hb => (f55 b (by simp at hb ⊢; try omega)).trans ((f43 b (by simp at hb ⊢; try omega)).trans (rfl))), (fun j hj => (o55 j (by simp at hj ⊢; try omega)).trans ((o43 j (by simp at hj ⊢; try omega)).trans (rfl))), xx⟩
      | (have xx : pe_ra (pe_ePq m b) σ43 := by
           rw [pe_q_k (M := (pe_eS m 4 (-1))) (by omega) WK (by unfold pe_eCmd; (repeat (first | rw [if_pos (by omega)] | rw [if_neg (by omega)])); first | done | rfl)]
           exact pe_ra_Bs hA1 w2.1 hg
         exact ⟨hB, (fun b hb => (f55 b (by simp at hb ⊢; try omega)).trans ((f43 b (by simp at hb ⊢; try omega)).trans (rfl))), (fun j hj => (o55 j (by simp at hj ⊢; try omega)).trans ((o43 j (by simp at hj ⊢; try omega)).trans (rfl))), xx⟩)
  refine pe_iload_n d_M_command_0 rfl ?_
  refine pe_bipush d_M_command_1 ?_
  refine pe_icmp_eq (t := 41) d_M_command_3 (by first | exact hB _ _ | exact hB0 _ _ | exact hBt _ _ | exact ⟨by omega, by omega⟩) (by first | exact hB _ _ | exact hB0 _ _ | exact hBt _ _ | exact ⟨by omega, by omega⟩) (fun h3 => ?_) (fun h3 => ?_)
  · skip
    exact J41 () (by omega)
  · skip
    refine pe_iload_n d_M_command_6 rfl ?_
    refine pe_bipush d_M_command_7 ?_
    refine pe_icmp_eq (t := 41) d_M_command_9 (by first | exact hB _ _ | exact hB0 _ _ | exact hBt _ _ | exact ⟨by omega, by omega⟩) (by first | exact hB _ _ | exact hB0 _ _ | exact hBt _ _ | exact ⟨by omega, by omega⟩) (fun h9 => ?_) (fun h9 => ?_)
    · skip
      exact J41 () (by omega)
    · skip
      refine pe_iload_n d_M_command_12 rfl ?_
      refine pe_if_eq (t := 41) d_M_command_13 (by first | exact hB _ _ | exact hB0 _ _ | exact hBt _ _ | exact ⟨by omega, by omega⟩) (fun h13 => ?_) (fun h13 => ?_)
      · skip
        exact J41 () (by omega)
      · skip
        refine pe_iload_n d_M_command_16 rfl ?_
        refine pe_bipush d_M_command_17 ?_
        refine pe_icmp_eq (t := 41) d_M_command_19 (by first | exact hB _ _ | exact hB0 _ _ | exact hBt _ _ | exact ⟨by omega, by omega⟩) (by first | exact hB _ _ | exact hB0 _ _ | exact hBt _ _ | exact ⟨by omega, by omega⟩) (fun h19 => ?_) (fun h19 => ?_)
        · skip
          exact J41 () (by omega)
        · skip
          refine pe_iload_n d_M_command_22 rfl ?_
          refine pe_bipush d_M_command_23 ?_
          refine pe_icmp_eq (t := 41) d_M_command_25 (by first | exact hB _ _ | exact hB0 _ _ | exact hBt _ _ | exact ⟨by omega, by omega⟩) (by first | exact hB _ _ | exact hB0 _ _ | exact hBt _ _ | exact ⟨by omega, by omega⟩) (fun h25 => ?_) (fun h25 => ?_)
          · skip
            exact J41 () (by omega)
          · skip
            refine pe_iload_n d_M_command_28 rfl ?_
            refine pe_bipush d_M_command_29 ?_
            refine pe_icmp_eq (t := 41) d_M_command_31 (by first | exact hB _ _ | exact hB0 _ _ | exact hBt _ _ | exact ⟨by omega, by omega⟩) (by first | exact hB _ _ | exact hB0 _ _ | exact hBt _ _ | exact ⟨by omega, by omega⟩) (fun h31 => ?_) (fun h31 => ?_)
            · skip
              exact J41 () (by omega)
            · skip
              refine pe_iload_n d_M_command_34 rfl ?_
              refine pe_bipush d_M_command_35 ?_
              refine pe_icmp_eq (t := 41) d_M_command_37 (by first | exact hB _ _ | exact hB0 _ _ | exact hBt _ _ | exact ⟨by omega, by omega⟩) (by first | exact hB _ _ | exact hB0 _ _ | exact hBt _ _ | exact ⟨by omega, by omega⟩) (fun h37 => ?_) (fun h37 => ?_)
              · skip
                exact J41 () (by omega)
              · skip
                refine pe_rv d_M_command_40 ?_
                have Q : pe_ePq m b = m := pe_q_0 (by omega) ((Classical.em (b = 10)).elim (fun e => Or.inr ⟨e, hp⟩) (fun e => Or.inl (by unfold pe_wk; omega)))
                exact ⟨hB, (fun b hb => rfl), (fun j hj => rfl), by rw [Q]; exact hA⟩
theorem x_M_control {m σ : pe_H} {b a : Int} (hB : pe_B σ) (hA : pe_ra m σ) (hw : pe_wf m) (hk : m 5 0 ≤ 11) (hg : pe_bg (m 8) (m 0 0) (m 1 0)) (hb : 0 ≤ b ∧ b ≤ 127 ∧ b ≠ 27 ∧ ¬ (32 ≤ b ∧ b ≤ 126)) (ha : pe_R a) : pe_M m_M_control [pe_r 29, pe_i b, pe_i a] σ (pe_qv (fun σ' => pe_B σ' ∧ (∀ b, b ∉ [29, 30, 32, 33, 34, 35, 36, 31] → σ' b = σ b) ∧ (∀ j, j ∉ ([1, 2, 3, 5, 6, 7, 41] : List Int) → σ' 29 j = σ 29 j) ∧ pe_ra (pe_ePq m (if b = 10 ∧ a = 13 then -1 else b)) σ')) := by
  refine pe_in0 (lv := [some (pe_r 29), some (pe_i b), some (pe_i a)]) ?_
  have hB0 := hB
  obtain ⟨⟨⟨a1, a2, a3, a4, a5⟩, a7, a8, a9⟩, A2, A3, A4⟩ := id hA
  obtain ⟨⟨w1, w2, w3, w4, w5, w6, w7, w8⟩, W2, W3⟩ := id hw
  refine pe_iload_n d_M_control_0 rfl ?_
  refine pe_bipush d_M_control_1 ?_
  refine pe_icmp_ne (t := 15) d_M_control_3 (by first | exact hB _ _ | exact hB0 _ _ | exact hBt _ _ | exact ⟨by omega, by omega⟩) (by first | exact hB _ _ | exact hB0 _ _ | exact hBt _ _ | exact ⟨by omega, by omega⟩) (fun h3 => ?_) (fun h3 => ?_)
  · skip
    refine pe_iload_n d_M_control_15 rfl ?_
    refine pe_bipush d_M_control_16 ?_
    refine pe_icmp_ne (t := 30) d_M_control_18 (by first | exact hB _ _ | exact hB0 _ _ | exact hBt _ _ | exact ⟨by omega, by omega⟩) (by first | exact hB _ _ | exact hB0 _ _ | exact hBt _ _ | exact ⟨by omega, by omega⟩) (fun h18 => ?_) (fun h18 => ?_)
    · skip
      refine pe_aload_n d_M_control_30 rfl ?_
      refine pe_geti f_M_147 d_M_control_31 rfl rfl 19 rfl ?_
      refine pe_if_eq (t := 58) d_M_control_34 (by first | exact hB _ _ | exact hB0 _ _ | exact hBt _ _ | exact ⟨by omega, by omega⟩) (fun h34 => ?_) (fun h34 => ?_)
      · skip
        refine pe_aload_n d_M_control_58 rfl ?_
        refine pe_iload_n d_M_control_59 rfl ?_
        refine pe_v1v d_M_control_60 c_M_150 i_M_command s_M_command rfl rfl (x_M_command hB hA hw hk hg (by omega) (by omega)) (fun σ60 hz60 => ?_)
        obtain ⟨hB, f60, o60, x60⟩ := hz60
        try have u60_0 : σ60 29 1 = σ 29 1 := by first | exact o60 1 (by decide) | exact congrFun (f60 29 (by decide)) 1
        try have u60_1 : σ60 29 2 = σ 29 2 := by first | exact o60 2 (by decide) | exact congrFun (f60 29 (by decide)) 2
        try have u60_2 : σ60 29 3 = σ 29 3 := by first | exact o60 3 (by decide) | exact congrFun (f60 29 (by decide)) 3
        try have u60_3 : σ60 29 5 = σ 29 5 := by first | exact o60 5 (by decide) | exact congrFun (f60 29 (by decide)) 5
        try have u60_4 : σ60 29 6 = σ 29 6 := by first | exact o60 6 (by decide) | exact congrFun (f60 29 (by decide)) 6
        try have u60_5 : σ60 29 7 = σ 29 7 := by first | exact o60 7 (by decide) | exact congrFun (f60 29 (by decide)) 7
        try have u60_6 : σ60 29 19 = σ 29 19 := by first | exact o60 19 (by decide) | exact congrFun (f60 29 (by decide)) 19
        try have u60_7 : σ60 29 21 = σ 29 21 := by first | exact o60 21 (by decide) | exact congrFun (f60 29 (by decide)) 21
        have xx : pe_ra (pe_ePq m (if b = 10 ∧ a = 13 then -1 else b)) σ60 := by
          by_cases e : b = 10 ∧ a = 13
          · have Q : pe_ePq m b = m := pe_q_0 (by omega) (Or.inr ⟨e.1, by omega⟩)
            rw [if_pos e, pe_q_n1]; rw [Q] at x60; exact x60
          · rw [if_neg e]; exact x60
        refine pe_rv d_M_control_63 ?_
        first
        | exact ⟨hB, (fun b hb => (f60 b (by simp at hb ⊢; try omega)).trans (rfl)), (fun j hj => (o60 j (by simp at hj ⊢; try omega)).trans (rfl)), xx⟩
        | (have xx : pe_ra (pe_ePq m (if b = 10 ∧ a = 13 then -1 else b)) σ := by
             by_cases e : b = 10 ∧ a = 13
             · rw [if_pos e, pe_q_n1]; exact hA
             · rw [if_neg e, pe_q_0 (by omega) (Or.inl (by unfold pe_wk; omega))]; exact hA
           exact ⟨hB, (fun b hb => (f60 b (by simp at hb ⊢; try omega)).trans (rfl)), (fun j hj => (o60 j (by simp at hj ⊢; try omega)).trans (rfl)), xx⟩)
      · skip
        refine pe_iload_n d_M_control_37 rfl ?_
        refine pe_bipush d_M_control_38 ?_
        refine pe_icmp_ne (t := 63) d_M_control_40 (by first | exact hB _ _ | exact hB0 _ _ | exact hBt _ _ | exact ⟨by omega, by omega⟩) (by first | exact hB _ _ | exact hB0 _ _ | exact hBt _ _ | exact ⟨by omega, by omega⟩) (fun h40 => ?_) (fun h40 => ?_)
        · skip
          refine pe_rv d_M_control_63 ?_
          first
          | exact ⟨hB, (fun b hb => rfl), (fun j hj => rfl), xx⟩
          | (have xx : pe_ra (pe_ePq m (if b = 10 ∧ a = 13 then -1 else b)) σ := by
               by_cases e : b = 10 ∧ a = 13
               · rw [if_pos e, pe_q_n1]; exact hA
               · rw [if_neg e, pe_q_0 (by omega) (Or.inl (by unfold pe_wk; omega))]; exact hA
             exact ⟨hB, (fun b hb => rfl), (fun j hj => rfl), xx⟩)
        · skip
          refine pe_iload_n d_M_control_43 rfl ?_
          refine pe_bipush d_M_control_44 ?_
          refine pe_icmp_eq (t := 63) d_M_control_46 (by first | exact hB _ _ | exact hB0 _ _ | exact hBt _ _ | exact ⟨by omega, by omega⟩) (by first | exact hB _ _ | exact hB0 _ _ | exact hBt _ _ | exact ⟨by omega, by omega⟩) (fun h46 => ?_) (fun h46 => ?_)
          · skip
            refine pe_rv d_M_control_63 ?_
            first
            | exact ⟨hB, (fun b hb => rfl), (fun j hj => rfl), xx⟩
            | (have xx : pe_ra (pe_ePq m (if b = 10 ∧ a = 13 then -1 else b)) σ := by
                 by_cases e : b = 10 ∧ a = 13
                 · rw [if_pos e, pe_q_n1]; exact hA
                 · rw [if_neg e, pe_q_0 (by omega) (Or.inl (by unfold pe_wk; omega))]; exact hA
               exact ⟨hB, (fun b hb => rfl), (fun j hj => rfl), xx⟩)
          · skip
            refine pe_aload_n d_M_control_49 rfl ?_
            refine pe_bipush d_M_control_50 ?_
            refine pe_v1v d_M_control_52 c_M_144 i_M_character s_M_character rfl rfl (x_M_character hB hA hw hk hg (by first | exact hB _ _ | exact hB0 _ _ | exact hBt _ _ | exact ⟨by omega, by omega⟩)) (fun σ52 hz52 => ?_)
            obtain ⟨hB, f52, o52, x52⟩ := hz52
            try have u52_0 : σ52 29 1 = σ 29 1 := by first | exact o52 1 (by decide) | exact congrFun (f52 29 (by decide)) 1
            try have u52_1 : σ52 29 2 = σ 29 2 := by first | exact o52 2 (by decide) | exact congrFun (f52 29 (by decide)) 2
            try have u52_2 : σ52 29 3 = σ 29 3 := by first | exact o52 3 (by decide) | exact congrFun (f52 29 (by decide)) 3
            try have u52_3 : σ52 29 5 = σ 29 5 := by first | exact o52 5 (by decide) | exact congrFun (f52 29 (by decide)) 5
            try have u52_4 : σ52 29 6 = σ 29 6 := by first | exact o52 6 (by decide) | exact congrFun (f52 29 (by decide)) 6
            try have u52_5 : σ52 29 7 = σ 29 7 := by first | exact o52 7 (by decide) | exact congrFun (f52 29 (by decide)) 7
            try have u52_6 : σ52 29 19 = σ 29 19 := by first | exact o52 19 (by decide) | exact congrFun (f52 29 (by decide)) 19
            try have u52_7 : σ52 29 21 = σ 29 21 := by first | exact o52 21 (by decide) | exact congrFun (f52 29 (by decide)) 21
            have xx : pe_ra (pe_ePq m (if b = 10 ∧ a = 13 then -1 else b)) σ52 := by
              rw [if_neg (by omega), show b = 10 by omega, pe_q_10 (by omega)]; exact x52
            refine pe_goto (t := 63) d_M_control_55 ?_
            refine pe_rv d_M_control_63 ?_
            first
            | exact ⟨hB, (fun b hb => (f52 b (by simp at hb ⊢; try omega)).trans (rfl)), (fun j hj => (o52 j (by simp at hj ⊢; try omega)).trans (rfl)), xx⟩
            | (have xx : pe_ra (pe_ePq m (if b = 10 ∧ a = 13 then -1 else b)) σ := by
                 by_cases e : b = 10 ∧ a = 13
                 · rw [if_pos e, pe_q_n1]; exact hA
                 · rw [if_neg e, pe_q_0 (by omega) (Or.inl (by unfold pe_wk; omega))]; exact hA
               exact ⟨hB, (fun b hb => (f52 b (by simp at hb ⊢; try omega)).trans (rfl)), (fun j hj => (o52 j (by simp at hj ⊢; try omega)).trans (rfl)), xx⟩)
    · skip
      refine pe_aload_n d_M_control_21 rfl ?_
      refine pe_bipush d_M_control_22 ?_
      refine pe_v1v d_M_control_24 c_M_144 i_M_character s_M_character rfl rfl (x_M_character hB hA hw hk hg (by first | exact hB _ _ | exact hB0 _ _ | exact hBt _ _ | exact ⟨by omega, by omega⟩)) (fun σ24 hz24 => ?_)
      obtain ⟨hB, f24, o24, x24⟩ := hz24
      try have u24_0 : σ24 29 1 = σ 29 1 := by first | exact o24 1 (by decide) | exact congrFun (f24 29 (by decide)) 1
      try have u24_1 : σ24 29 2 = σ 29 2 := by first | exact o24 2 (by decide) | exact congrFun (f24 29 (by decide)) 2
      try have u24_2 : σ24 29 3 = σ 29 3 := by first | exact o24 3 (by decide) | exact congrFun (f24 29 (by decide)) 3
      try have u24_3 : σ24 29 5 = σ 29 5 := by first | exact o24 5 (by decide) | exact congrFun (f24 29 (by decide)) 5
      try have u24_4 : σ24 29 6 = σ 29 6 := by first | exact o24 6 (by decide) | exact congrFun (f24 29 (by decide)) 6
      try have u24_5 : σ24 29 7 = σ 29 7 := by first | exact o24 7 (by decide) | exact congrFun (f24 29 (by decide)) 7
      try have u24_6 : σ24 29 19 = σ 29 19 := by first | exact o24 19 (by decide) | exact congrFun (f24 29 (by decide)) 19
      try have u24_7 : σ24 29 21 = σ 29 21 := by first | exact o24 21 (by decide) | exact congrFun (f24 29 (by decide)) 21
      have xx : pe_ra (pe_ePq m (if b = 10 ∧ a = 13 then -1 else b)) σ24 := by
        rw [if_neg (by omega), show b = 9 by omega, pe_q_9]; exact x24
      refine pe_goto (t := 63) d_M_control_27 ?_
      refine pe_rv d_M_control_63 ?_
      first
      | exact ⟨hB, (fun b hb => (f24 b (by simp at hb ⊢; try omega)).trans (rfl)), (fun j hj => (o24 j (by simp at hj ⊢; try omega)).trans (rfl)), xx⟩
      | (have xx : pe_ra (pe_ePq m (if b = 10 ∧ a = 13 then -1 else b)) σ := by
           by_cases e : b = 10 ∧ a = 13
           · rw [if_pos e, pe_q_n1]; exact hA
           · rw [if_neg e, pe_q_0 (by omega) (Or.inl (by unfold pe_wk; omega))]; exact hA
         exact ⟨hB, (fun b hb => (f24 b (by simp at hb ⊢; try omega)).trans (rfl)), (fun j hj => (o24 j (by simp at hj ⊢; try omega)).trans (rfl)), xx⟩)
  · skip
    refine pe_aload_n d_M_control_6 rfl ?_
    refine pe_bipush d_M_control_7 ?_
    refine pe_v1v d_M_control_9 c_M_144 i_M_character s_M_character rfl rfl (x_M_character hB hA hw hk hg (by first | exact hB _ _ | exact hB0 _ _ | exact hBt _ _ | exact ⟨by omega, by omega⟩)) (fun σ9 hz9 => ?_)
    obtain ⟨hB, f9, o9, x9⟩ := hz9
    try have u9_0 : σ9 29 1 = σ 29 1 := by first | exact o9 1 (by decide) | exact congrFun (f9 29 (by decide)) 1
    try have u9_1 : σ9 29 2 = σ 29 2 := by first | exact o9 2 (by decide) | exact congrFun (f9 29 (by decide)) 2
    try have u9_2 : σ9 29 3 = σ 29 3 := by first | exact o9 3 (by decide) | exact congrFun (f9 29 (by decide)) 3
    try have u9_3 : σ9 29 5 = σ 29 5 := by first | exact o9 5 (by decide) | exact congrFun (f9 29 (by decide)) 5
    try have u9_4 : σ9 29 6 = σ 29 6 := by first | exact o9 6 (by decide) | exact congrFun (f9 29 (by decide)) 6
    try have u9_5 : σ9 29 7 = σ 29 7 := by first | exact o9 7 (by decide) | exact congrFun (f9 29 (by decide)) 7
    try have u9_6 : σ9 29 19 = σ 29 19 := by first | exact o9 19 (by decide) | exact congrFun (f9 29 (by decide)) 19
    try have u9_7 : σ9 29 21 = σ 29 21 := by first | exact o9 21 (by decide) | exact congrFun (f9 29 (by decide)) 21
    have xx : pe_ra (pe_ePq m (if b = 10 ∧ a = 13 then -1 else b)) σ9 := by
      rw [if_neg (by omega), show b = 13 by omega, pe_q_13]; exact x9
    refine pe_goto (t := 63) d_M_control_12 ?_
    refine pe_rv d_M_control_63 ?_
    first
    | exact ⟨hB, (fun b hb => (f9 b (by simp at hb ⊢; try omega)).trans (rfl)), (fun j hj => (o9 j (by simp at hj ⊢; try omega)).trans (rfl)), xx⟩
    | (have xx : pe_ra (pe_ePq m (if b = 10 ∧ a = 13 then -1 else b)) σ := by
         by_cases e : b = 10 ∧ a = 13
         · rw [if_pos e, pe_q_n1]; exact hA
         · rw [if_neg e, pe_q_0 (by omega) (Or.inl (by unfold pe_wk; omega))]; exact hA
       exact ⟨hB, (fun b hb => (f9 b (by simp at hb ⊢; try omega)).trans (rfl)), (fun j hj => (o9 j (by simp at hj ⊢; try omega)).trans (rfl)), xx⟩)
set_option maxHeartbeats 4000000 in
theorem x_M_finish {m σ : pe_H} {b : Int} (hB : pe_B σ) (hA : pe_ra m σ) (hw : pe_wf m) (hk : m 5 0 ≤ 11) (hg : pe_bg (m 8) (m 0 0) (m 1 0)) (hb : 64 ≤ b ∧ b ≤ 126) : pe_M m_M_finish [pe_r 29, pe_i b] σ (pe_qv (fun σ' => pe_B σ' ∧ (∀ b, b ∉ [29, 30, 32, 33, 34, 35, 36, 37, 38, 39] → σ' b = σ b) ∧ (∀ j, j ∉ ([1, 2, 3, 6, 7, 19, 26] : List Int) → σ' 29 j = σ 29 j) ∧ pe_ra (pe_ePq m (pe_kf (σ 29 14) b)) σ')) := by
  refine pe_in0 (lv := [some (pe_r 29), some (pe_i b), none, none]) ?_
  have hB0 := hB
  obtain ⟨⟨⟨a1, a2, a3, a4, a5⟩, a7, a8, a9⟩, A2, A3, A4⟩ := id hA
  obtain ⟨⟨w1, w2, w3, w4, w5, w6, w7, w8⟩, W2, W3⟩ := id hw
  refine pe_iload_n d_M_finish_0 rfl ?_
  refine pe_bipush d_M_finish_1 ?_
  refine pe_icmp_ne (t := 20) d_M_finish_3 (by first | exact hB _ _ | exact hB0 _ _ | exact hBt _ _ | exact ⟨by omega, by omega⟩) (by first | exact hB _ _ | exact hB0 _ _ | exact hBt _ _ | exact ⟨by omega, by omega⟩) (fun h3 => ?_) (fun h3 => ?_)
  · skip
    refine pe_iconst d_M_finish_20 ?_
    refine pe_istore_n d_M_finish_21 ?_
    refine pe_aload_n d_M_finish_22 rfl ?_
    refine pe_geti f_M_147 d_M_finish_23 rfl rfl 19 rfl ?_
    refine pe_if_eq (t := 34) d_M_finish_26 (by first | exact hB _ _ | exact hB0 _ _ | exact hBt _ _ | exact ⟨by omega, by omega⟩) (fun h26 => ?_) (fun h26 => ?_)
    · skip
      refine pe_iload_n d_M_finish_34 rfl ?_
      refine pe_bipush d_M_finish_35 ?_
      refine pe_icmp_eq (t := 46) d_M_finish_37 (by first | exact hB _ _ | exact hB0 _ _ | exact hBt _ _ | exact ⟨by omega, by omega⟩) (by first | exact hB _ _ | exact hB0 _ _ | exact hBt _ _ | exact ⟨by omega, by omega⟩) (fun h37 => ?_) (fun h37 => ?_)
      · skip
        refine pe_aload_n d_M_finish_46 rfl ?_
        refine pe_iload_n d_M_finish_47 rfl ?_
        refine pe_bipush d_M_finish_48 ?_
        refine pe_icmp_ne (t := 57) d_M_finish_50 (by first | exact hB _ _ | exact hB0 _ _ | exact hBt _ _ | exact ⟨by omega, by omega⟩) (by first | exact hB _ _ | exact hB0 _ _ | exact hBt _ _ | exact ⟨by omega, by omega⟩) (fun h50 => ?_) (fun h50 => ?_)
        · skip
          exfalso; omega
        · skip
          refine pe_iconst d_M_finish_53 ?_
          refine pe_goto (t := 58) d_M_finish_54 ?_
          refine pe_v1v d_M_finish_58 c_M_171 i_M_upOrDown s_M_upOrDown rfl rfl (x_M_upOrDown hB hA hw hk hg (by omega)) (fun σ58 hz58 => ?_)
          obtain ⟨hB, f58, o58, x58⟩ := hz58
          try have u58_0 : σ58 29 1 = σ 29 1 := by first | exact o58 1 (by decide) | exact congrFun (f58 29 (by decide)) 1
          try have u58_1 : σ58 29 2 = σ 29 2 := by first | exact o58 2 (by decide) | exact congrFun (f58 29 (by decide)) 2
          try have u58_2 : σ58 29 3 = σ 29 3 := by first | exact o58 3 (by decide) | exact congrFun (f58 29 (by decide)) 3
          try have u58_3 : σ58 29 5 = σ 29 5 := by first | exact o58 5 (by decide) | exact congrFun (f58 29 (by decide)) 5
          try have u58_4 : σ58 29 6 = σ 29 6 := by first | exact o58 6 (by decide) | exact congrFun (f58 29 (by decide)) 6
          try have u58_5 : σ58 29 7 = σ 29 7 := by first | exact o58 7 (by decide) | exact congrFun (f58 29 (by decide)) 7
          try have u58_6 : σ58 29 19 = σ 29 19 := by first | exact o58 19 (by decide) | exact congrFun (f58 29 (by decide)) 19
          try have u58_7 : σ58 29 21 = σ 29 21 := by first | exact o58 21 (by decide) | exact congrFun (f58 29 (by decide)) 21
          try have u58_8 : σ58 29 14 = σ 29 14 := by first | exact o58 14 (by decide) | exact congrFun (f58 29 (by decide)) 14
          have xx : pe_ra (pe_ePq m (pe_kf (σ 29 14) b)) σ58 := by
            first
            | (rw [show (pe_kf (σ 29 14) b) = 65536 from (by unfold pe_kf; (repeat (first | rw [if_pos (by omega)] | rw [if_neg (by omega)])); first | done | rfl), pe_q_up m (by omega), if_pos (by omega), if_pos rfl]; exact x58)
            | (rw [show (pe_kf (σ 29 14) b) = 65537 from (by unfold pe_kf; (repeat (first | rw [if_pos (by omega)] | rw [if_neg (by omega)])); first | done | rfl), pe_q_up m (by omega), if_pos (by omega), if_neg (by omega)]; exact x58)
          refine pe_rv d_M_finish_61 ?_
          exact ⟨hB, (fun b hb => (f58 b (by simp at hb ⊢; try omega)).trans (rfl)), (fun j hj => (o58 j (by simp at hj ⊢; try omega)).trans (rfl)), xx⟩
      · skip
        refine pe_iload_n d_M_finish_40 rfl ?_
        refine pe_bipush d_M_finish_41 ?_
        refine pe_icmp_ne (t := 62) d_M_finish_43 (by first | exact hB _ _ | exact hB0 _ _ | exact hBt _ _ | exact ⟨by omega, by omega⟩) (by first | exact hB _ _ | exact hB0 _ _ | exact hBt _ _ | exact ⟨by omega, by omega⟩) (fun h43 => ?_) (fun h43 => ?_)
        · skip
          refine pe_iload_n d_M_finish_62 rfl ?_
          refine pe_bipush d_M_finish_63 ?_
          refine pe_icmp_eq (t := 120) d_M_finish_65 (by first | exact hB _ _ | exact hB0 _ _ | exact hBt _ _ | exact ⟨by omega, by omega⟩) (by first | exact hB _ _ | exact hB0 _ _ | exact hBt _ _ | exact ⟨by omega, by omega⟩) (fun h65 => ?_) (fun h65 => ?_)
          · skip
            refine pe_iconst d_M_finish_120 ?_
            refine pe_goto (t := 125) d_M_finish_121 ?_
            refine pe_istore_n d_M_finish_125 ?_
            refine pe_iload_n d_M_finish_126 rfl ?_
            refine pe_if_ne (t := 131) d_M_finish_127 (by first | exact hB _ _ | exact hB0 _ _ | exact hBt _ _ | exact ⟨by omega, by omega⟩) (fun h127 => ?_) (fun h127 => ?_)
            · skip
              refine pe_aload_n d_M_finish_131 rfl ?_
              refine pe_iconst d_M_finish_132 ?_
              refine pe_putiT f_M_20 g_11_6 d_M_finish_133 rfl rfl 6 rfl hB (by first | exact hB _ _ | exact hB0 _ _ | exact hBt _ _ | exact ⟨by omega, by omega⟩) (fun σ133 hB e133 o133 f133 => ?_)
              try have u133_0 : σ133 29 1 = σ 29 1 := by first | exact o133 1 (by decide) | exact congrFun (f133 29 (by decide)) 1
              try have u133_1 : σ133 29 2 = σ 29 2 := by first | exact o133 2 (by decide) | exact congrFun (f133 29 (by decide)) 2
              try have u133_2 : σ133 29 3 = σ 29 3 := by first | exact o133 3 (by decide) | exact congrFun (f133 29 (by decide)) 3
              try have u133_3 : σ133 29 5 = σ 29 5 := by first | exact o133 5 (by decide) | exact congrFun (f133 29 (by decide)) 5
              try have u133_4 : σ133 29 6 = σ 29 6 := by first | exact o133 6 (by decide) | exact congrFun (f133 29 (by decide)) 6
              try have u133_5 : σ133 29 7 = σ 29 7 := by first | exact o133 7 (by decide) | exact congrFun (f133 29 (by decide)) 7
              try have u133_6 : σ133 29 19 = σ 29 19 := by first | exact o133 19 (by decide) | exact congrFun (f133 29 (by decide)) 19
              try have u133_7 : σ133 29 21 = σ 29 21 := by first | exact o133 21 (by decide) | exact congrFun (f133 29 (by decide)) 21
              try have u133_8 : σ133 29 14 = σ 29 14 := by first | exact o133 14 (by decide) | exact congrFun (f133 29 (by decide)) 14
              have hA1 := pe_ra_gl hA (fun b hb => (f133 b (by rintro rfl; simp at hb))) (fun j hj => (o133 j (by rintro rfl; simp at hj))) e133
              have hw1 := pe_wf_gl (z := -1) hw (by omega)
              have g0 : pe_eS m 4 (-1) 0 0 = m 0 0 := rfl
              have g1 : pe_eS m 4 (-1) 1 0 = m 1 0 := rfl
              have g6 : pe_eS m 4 (-1) 6 0 = m 6 0 := rfl
              have c2 : σ133 29 2 = m 1 0 := by omega
              have c1 : σ133 29 1 = m 0 0 := by omega
              refine pe_iload_n d_M_finish_136 rfl ?_
              refine pe_bipush d_M_finish_137 ?_
              refine pe_icmp_ne (t := 165) d_M_finish_139 (by first | exact hB _ _ | exact hB0 _ _ | exact hBt _ _ | exact ⟨by omega, by omega⟩) (by first | exact hB _ _ | exact hB0 _ _ | exact hBt _ _ | exact ⟨by omega, by omega⟩) (fun h139 => ?_) (fun h139 => ?_)
              · skip
                exfalso; omega
              · skip
                refine pe_aload_n d_M_finish_142 rfl ?_
                refine pe_geti f_M_117 d_M_finish_143 rfl rfl 2 rfl ?_
                refine pe_aload_n d_M_finish_146 rfl ?_
                refine pe_geti f_M_87 d_M_finish_147 rfl rfl 1 rfl ?_
                refine pe_icmp_ge (t := 165) d_M_finish_150 (by first | exact hB _ _ | exact hB0 _ _ | exact hBt _ _ | exact ⟨by omega, by omega⟩) (by first | exact hB _ _ | exact hB0 _ _ | exact hBt _ _ | exact ⟨by omega, by omega⟩) (fun h150 => ?_) (fun h150 => ?_)
                · skip
                  refine pe_iload_n d_M_finish_165 rfl ?_
                  refine pe_bipush d_M_finish_166 ?_
                  refine pe_icmp_ne (t := 190) d_M_finish_168 (by first | exact hB _ _ | exact hB0 _ _ | exact hBt _ _ | exact ⟨by omega, by omega⟩) (by first | exact hB _ _ | exact hB0 _ _ | exact hBt _ _ | exact ⟨by omega, by omega⟩) (fun h168 => ?_) (fun h168 => ?_)
                  · skip
                    refine pe_iload_n d_M_finish_190 rfl ?_
                    refine pe_bipush d_M_finish_191 ?_
                    refine pe_icmp_ne (t := 204) d_M_finish_193 (by first | exact hB _ _ | exact hB0 _ _ | exact hBt _ _ | exact ⟨by omega, by omega⟩) (by first | exact hB _ _ | exact hB0 _ _ | exact hBt _ _ | exact ⟨by omega, by omega⟩) (fun h193 => ?_) (fun h193 => ?_)
                    · skip
                      refine pe_iload_n d_M_finish_204 rfl ?_
                      refine pe_bipush d_M_finish_205 ?_
                      refine pe_icmp_ne (t := 218) d_M_finish_207 (by first | exact hB _ _ | exact hB0 _ _ | exact hBt _ _ | exact ⟨by omega, by omega⟩) (by first | exact hB _ _ | exact hB0 _ _ | exact hBt _ _ | exact ⟨by omega, by omega⟩) (fun h207 => ?_) (fun h207 => ?_)
                      · skip
                        refine pe_iload_n d_M_finish_218 rfl ?_
                        refine pe_bipush d_M_finish_219 ?_
                        refine pe_icmp_ne (t := 259) d_M_finish_221 (by first | exact hB _ _ | exact hB0 _ _ | exact hBt _ _ | exact ⟨by omega, by omega⟩) (by first | exact hB _ _ | exact hB0 _ _ | exact hBt _ _ | exact ⟨by omega, by omega⟩) (fun h221 => ?_) (fun h221 => ?_)
                        · skip
                          refine pe_iload_n d_M_finish_259 rfl ?_
                          refine pe_bipush d_M_finish_260 ?_
                          refine pe_icmp_ne (t := 292) d_M_finish_262 (by first | exact hB _ _ | exact hB0 _ _ | exact hBt _ _ | exact ⟨by omega, by omega⟩) (by first | exact hB _ _ | exact hB0 _ _ | exact hBt _ _ | exact ⟨by omega, by omega⟩) (fun h262 => ?_) (fun h262 => ?_)
                          · skip
                            refine pe_rv d_M_finish_292 ?_
                            first
                            | (have K : (pe_kf (σ 29 14) b) = 65538 := (by unfold pe_kf; (repeat (first | rw [if_pos (by omega)] | rw [if_neg (by omega)])); first | done | rfl)
                               have ZB := pe_bf_of (t' := m 8) A2 (by omega) (show m 1 0 + 1 ≤ z159 by omega) hz159.2.1 (fun j a c => hz159.2.2 j (by omega) c)
                               have hA2 := pe_ra_cu hA1 (fun b hb => (f162 b (by rintro rfl; simp at hb))) (fun j hj => (o162 j (by rintro rfl; simp at hj))) e162
                               have hb2 := (pe_bg_eq A2 (by omega)).mp hz159.2.1
                               exact ⟨hB, (fun b hb => (f133 b (by simp at hb ⊢; try omega)).trans (rfl)), (fun j hj => (o133 j (by simp at hj ⊢; try omega)).trans (rfl)), by
                                 rw [K, pe_q_k (M := pe_eS (pe_eS m 4 (-1)) 1 (pe_bf (m 8) (m 0 0) (m 1 0 + 1))) (by omega) (by unfold pe_wk; omega) (by unfold pe_eCmd; (repeat (first | rw [if_pos (by omega)] | rw [if_neg (by omega)])); first | done | rfl)]
                                 rw [← ZB]; exact pe_ra_Bs hA2 (show 0 ≤ z159 by omega) hb2⟩)
                            | (have K : (pe_kf (σ 29 14) b) = 65538 := (by unfold pe_kf; (repeat (first | rw [if_pos (by omega)] | rw [if_neg (by omega)])); first | done | rfl)
                               skip
                               exact ⟨hB, (fun b hb => (f133 b (by simp at hb ⊢; try omega)).trans (rfl)), (fun j hj => (o133 j (by simp at hj ⊢; try omega)).trans (rfl)), by
                                 rw [K, pe_q_k (M := (pe_eS m 4 (-1))) (by omega) (by unfold pe_wk; omega) (by unfold pe_eCmd; (repeat (first | rw [if_pos (by omega)] | rw [if_neg (by omega)])); first | done | rfl)]
                                 exact pe_ra_Bs hA1 w2.1 hg⟩)
                            | (have K : (pe_kf (σ 29 14) b) = 65539 := (by unfold pe_kf; (repeat (first | rw [if_pos (by omega)] | rw [if_neg (by omega)])); first | done | rfl)
                               have ZB := pe_ba_of (t' := m 8) A2 hz184.1 hz184.2.1 hz184.2.2
                               have hA2 := pe_ra_cu hA1 (fun b hb => (f187 b (by rintro rfl; simp at hb))) (fun j hj => (o187 j (by rintro rfl; simp at hj))) e187
                               have hb2 := (pe_bg_eq A2 (by omega)).mp hz184.2.1
                               exact ⟨hB, (fun b hb => (f133 b (by simp at hb ⊢; try omega)).trans (rfl)), (fun j hj => (o133 j (by simp at hj ⊢; try omega)).trans (rfl)), by
                                 rw [K, pe_q_k (M := pe_eS (pe_eS m 4 (-1)) 1 (pe_ba (m 8) (m 0 0) (m 1 0))) (by omega) (by unfold pe_wk; omega) (by unfold pe_eCmd; (repeat (first | rw [if_pos (by omega)] | rw [if_neg (by omega)])); first | done | rfl)]
                                 rw [← ZB]; exact pe_ra_Bs hA2 (show 0 ≤ z184 by omega) hb2⟩)
                            | (have K : (pe_kf (σ 29 14) b) = 65539 := (by unfold pe_kf; (repeat (first | rw [if_pos (by omega)] | rw [if_neg (by omega)])); first | done | rfl)
                               skip
                               exact ⟨hB, (fun b hb => (f133 b (by simp at hb ⊢; try omega)).trans (rfl)), (fun j hj => (o133 j (by simp at hj ⊢; try omega)).trans (rfl)), by
                                 rw [K, pe_q_k (M := (pe_eS m 4 (-1))) (by omega) (by unfold pe_wk; omega) (by unfold pe_eCmd; (repeat (first | rw [if_pos (by omega)] | rw [if_neg (by omega)])); first | done | rfl)]
                                 exact pe_ra_Bs hA1 w2.1 hg⟩)
                            | (have K : (pe_kf (σ 29 14) b) = 65540 := (by unfold pe_kf; (repeat (first | rw [if_pos (by omega)] | rw [if_neg (by omega)])); first | done | rfl)
                               have ZB := pe_lb_of (t' := m 8) A2 (by omega) hz198.1 hz198.2.1 hz198.2.2
                               have hA2 := pe_ra_cu hA1 (fun b hb => (f201 b (by rintro rfl; simp at hb))) (fun j hj => (o201 j (by rintro rfl; simp at hj))) e201
                               have hb1 : pe_bg (σ 30) (m 0 0) z198 := by unfold pe_bg; omega
                               have hb2 := (pe_bg_eq A2 (by omega)).mp hb1
                               exact ⟨hB, (fun b hb => (f133 b (by simp at hb ⊢; try omega)).trans (rfl)), (fun j hj => (o133 j (by simp at hj ⊢; try omega)).trans (rfl)), by
                                 rw [K, pe_q_k (M := pe_eS (pe_eS m 4 (-1)) 1 (pe_lb (m 8) (m 1 0))) (by omega) (by unfold pe_wk; omega) (by unfold pe_eCmd; (repeat (first | rw [if_pos (by omega)] | rw [if_neg (by omega)])); first | done | rfl)]
                                 rw [← ZB]; exact pe_ra_Bs hA2 (show 0 ≤ z198 by omega) hb2⟩)
                            | (have K : (pe_kf (σ 29 14) b) = 65541 := (by unfold pe_kf; (repeat (first | rw [if_pos (by omega)] | rw [if_neg (by omega)])); first | done | rfl)
                               have ZB := pe_lz_of (t' := m 8) A2 (by omega) hz212.1 hz212.2.1 hz212.2.2
                               have hA2 := pe_ra_cu hA1 (fun b hb => (f215 b (by rintro rfl; simp at hb))) (fun j hj => (o215 j (by rintro rfl; simp at hj))) e215
                               have hb1 : pe_bg (σ 30) (m 0 0) z212 := by unfold pe_bg; omega
                               have hb2 := (pe_bg_eq A2 (by omega)).mp hb1
                               exact ⟨hB, (fun b hb => (f133 b (by simp at hb ⊢; try omega)).trans (rfl)), (fun j hj => (o133 j (by simp at hj ⊢; try omega)).trans (rfl)), by
                                 rw [K, pe_q_k (M := pe_eS (pe_eS m 4 (-1)) 1 (pe_lz (m 8) (m 0 0) (m 1 0))) (by omega) (by unfold pe_wk; omega) (by unfold pe_eCmd; (repeat (first | rw [if_pos (by omega)] | rw [if_neg (by omega)])); first | done | rfl)]
                                 rw [← ZB]; exact pe_ra_Bs hA2 (show 0 ≤ z212 by omega) hb2⟩)
                            | (have K : (pe_kf (σ 29 14) b) = 65542 := (by unfold pe_kf; (repeat (first | rw [if_pos (by omega)] | rw [if_neg (by omega)])); first | done | rfl)
                               have ZB := pe_bf_of (t' := m 8) A2 (by omega) (show m 1 0 + 1 ≤ z253 by omega) hz253.2.1 (fun j a c => hz253.2.2 j (by omega) c)
                               rw [c2, ZB] at x256
                               exact ⟨hB, (fun b hb => (f133 b (by simp at hb ⊢; try omega)).trans (rfl)), (fun j hj => (o133 j (by simp at hj ⊢; try omega)).trans (rfl)), by
                                 rw [K, pe_q_k (M := pe_eDel (pe_eS m 4 (-1)) (m 1 0) (pe_bf (m 8) (m 0 0) (m 1 0 + 1))) (by omega) (by unfold pe_wk; omega) (by unfold pe_eCmd; (repeat (first | rw [if_pos (by omega)] | rw [if_neg (by omega)])); first | done | rfl)]
                                 exact x256⟩)
                            | (have K : (pe_kf (σ 29 14) b) = 65542 := (by unfold pe_kf; (repeat (first | rw [if_pos (by omega)] | rw [if_neg (by omega)])); first | done | rfl)
                               skip
                               exact ⟨hB, (fun b hb => (f133 b (by simp at hb ⊢; try omega)).trans (rfl)), (fun j hj => (o133 j (by simp at hj ⊢; try omega)).trans (rfl)), by
                                 rw [K, pe_q_k (M := (pe_eS m 4 (-1))) (by omega) (by unfold pe_wk; omega) (by unfold pe_eCmd; (repeat (first | rw [if_pos (by omega)] | rw [if_neg (by omega)])); first | done | rfl)]
                                 exact pe_ra_Bs hA1 w2.1 hg⟩)
                            | (have K : (pe_kf (σ 29 14) b) = 65543 := (by unfold pe_kf; (repeat (first | rw [if_pos (by omega)] | rw [if_neg (by omega)])); first | done | rfl)
                               have hA2 := pe_ra_pa hA1 (fun b hb => (f289 b (by rintro rfl; simp at hb))) (fun j hj => (o289 j (by rintro rfl; simp at hj))) e289
                               exact ⟨hB, (fun b hb => (f133 b (by simp at hb ⊢; try omega)).trans (rfl)), (fun j hj => (o133 j (by simp at hj ⊢; try omega)).trans (rfl)), by
                                 rw [K, pe_q_k (M := pe_eS (pe_eS m 4 (-1)) 6 1) (by omega) (by unfold pe_wk; omega) (by unfold pe_eCmd; (repeat (first | rw [if_pos (by omega)] | rw [if_neg (by omega)])); first | done | rfl)]
                                 exact pe_ra_Bs hA2 w2.1 hg⟩)
                            | (have K : (pe_kf (σ 29 14) b) = 65544 := (by unfold pe_kf; (repeat (first | rw [if_pos (by omega)] | rw [if_neg (by omega)])); first | done | rfl)
                               have hA2 := pe_ra_pa hA1 (fun b hb => (f289 b (by rintro rfl; simp at hb))) (fun j hj => (o289 j (by rintro rfl; simp at hj))) e289
                               exact ⟨hB, (fun b hb => (f133 b (by simp at hb ⊢; try omega)).trans (rfl)), (fun j hj => (o133 j (by simp at hj ⊢; try omega)).trans (rfl)), by
                                 rw [K, pe_q_k (M := pe_eS (pe_eS m 4 (-1)) 6 0) (by omega) (by unfold pe_wk; omega) (by unfold pe_eCmd; (repeat (first | rw [if_pos (by omega)] | rw [if_neg (by omega)])); first | done | rfl)]
                                 exact pe_ra_Bs hA2 w2.1 hg⟩)
                          · skip
                            exfalso; omega
                        · skip
                          exfalso; omega
                      · skip
                        exfalso; omega
                    · skip
                      exfalso; omega
                  · skip
                    exfalso; omega
                · skip
                  refine pe_aload_n d_M_finish_153 rfl ?_
                  refine pe_aload_n d_M_finish_154 rfl ?_
                  refine pe_aload_n d_M_finish_155 rfl ?_
                  refine pe_geti f_M_117 d_M_finish_156 rfl rfl 2 rfl ?_
                  refine pe_v1p d_M_finish_159 c_M_107 i_M_after s_M_after rfl rfl (t_M_after hB (by omega) (by omega)) (fun z159 hz159 => ?_)
                  rw [c2, c1, f133 30 (by decide)] at hz159
                  refine pe_putiT f_M_117 g_11_2 d_M_finish_162 rfl rfl 2 rfl hB (by first | exact hB _ _ | exact hB0 _ _ | exact hBt _ _ | exact ⟨by omega, by omega⟩) (fun σ162 hB e162 o162 f162 => ?_)
                  try have u162_0 : σ162 29 1 = σ133 29 1 := by first | exact o162 1 (by decide) | exact congrFun (f162 29 (by decide)) 1
                  try have u162_1 : σ162 29 2 = σ133 29 2 := by first | exact o162 2 (by decide) | exact congrFun (f162 29 (by decide)) 2
                  try have u162_2 : σ162 29 3 = σ133 29 3 := by first | exact o162 3 (by decide) | exact congrFun (f162 29 (by decide)) 3
                  try have u162_3 : σ162 29 5 = σ133 29 5 := by first | exact o162 5 (by decide) | exact congrFun (f162 29 (by decide)) 5
                  try have u162_4 : σ162 29 6 = σ133 29 6 := by first | exact o162 6 (by decide) | exact congrFun (f162 29 (by decide)) 6
                  try have u162_5 : σ162 29 7 = σ133 29 7 := by first | exact o162 7 (by decide) | exact congrFun (f162 29 (by decide)) 7
                  try have u162_6 : σ162 29 19 = σ133 29 19 := by first | exact o162 19 (by decide) | exact congrFun (f162 29 (by decide)) 19
                  try have u162_7 : σ162 29 21 = σ133 29 21 := by first | exact o162 21 (by decide) | exact congrFun (f162 29 (by decide)) 21
                  try have u162_8 : σ162 29 14 = σ133 29 14 := by first | exact o162 14 (by decide) | exact congrFun (f162 29 (by decide)) 14
                  refine pe_iload_n d_M_finish_165 rfl ?_
                  refine pe_bipush d_M_finish_166 ?_
                  refine pe_icmp_ne (t := 190) d_M_finish_168 (by first | exact hB _ _ | exact hB0 _ _ | exact hBt _ _ | exact ⟨by omega, by omega⟩) (by first | exact hB _ _ | exact hB0 _ _ | exact hBt _ _ | exact ⟨by omega, by omega⟩) (fun h168 => ?_) (fun h168 => ?_)
                  · skip
                    refine pe_iload_n d_M_finish_190 rfl ?_
                    refine pe_bipush d_M_finish_191 ?_
                    refine pe_icmp_ne (t := 204) d_M_finish_193 (by first | exact hB _ _ | exact hB0 _ _ | exact hBt _ _ | exact ⟨by omega, by omega⟩) (by first | exact hB _ _ | exact hB0 _ _ | exact hBt _ _ | exact ⟨by omega, by omega⟩) (fun h193 => ?_) (fun h193 => ?_)
                    · skip
                      refine pe_iload_n d_M_finish_204 rfl ?_
                      refine pe_bipush d_M_finish_205 ?_
                      refine pe_icmp_ne (t := 218) d_M_finish_207 (by first | exact hB _ _ | exact hB0 _ _ | exact hBt _ _ | exact ⟨by omega, by omega⟩) (by first | exact hB _ _ | exact hB0 _ _ | exact hBt _ _ | exact ⟨by omega, by omega⟩) (fun h207 => ?_) (fun h207 => ?_)
                      · skip
                        refine pe_iload_n d_M_finish_218 rfl ?_
                        refine pe_bipush d_M_finish_219 ?_
                        refine pe_icmp_ne (t := 259) d_M_finish_221 (by first | exact hB _ _ | exact hB0 _ _ | exact hBt _ _ | exact ⟨by omega, by omega⟩) (by first | exact hB _ _ | exact hB0 _ _ | exact hBt _ _ | exact ⟨by omega, by omega⟩) (fun h221 => ?_) (fun h221 => ?_)
                        · skip
                          refine pe_iload_n d_M_finish_259 rfl ?_
                          refine pe_bipush d_M_finish_260 ?_
                          refine pe_icmp_ne (t := 292) d_M_finish_262 (by first | exact hB _ _ | exact hB0 _ _ | exact hBt _ _ | exact ⟨by omega, by omega⟩) (by first | exact hB _ _ | exact hB0 _ _ | exact hBt _ _ | exact ⟨by omega, by omega⟩) (fun h262 => ?_) (fun h262 => ?_)
                          · skip
                            refine pe_rv d_M_finish_292 ?_
                            first
                            | (have K : (pe_kf (σ 29 14) b) = 65538 := (by unfold pe_kf; (repeat (first | rw [if_pos (by omega)] | rw [if_neg (by omega)])); first | done | rfl)
                               have ZB := pe_bf_of (t' := m 8) A2 (by omega) (show m 1 0 + 1 ≤ z159 by omega) hz159.2.1 (fun j a c => hz159.2.2 j (by omega) c)
                               have hA2 := pe_ra_cu hA1 (fun b hb => (f162 b (by rintro rfl; simp at hb))) (fun j hj => (o162 j (by rintro rfl; simp at hj))) e162
                               have hb2 := (pe_bg_eq A2 (by omega)).mp hz159.2.1
                               exact ⟨hB, (fun b hb => (f162 b (by simp at hb ⊢; try omega)).trans ((f133 b (by simp at hb ⊢; try omega)).trans (rfl))), (fun j hj => (o162 j (by simp at hj ⊢; try omega)).trans ((o133 j (by simp at hj ⊢; try omega)).trans (rfl))), by
                                 rw [K, pe_q_k (M := pe_eS (pe_eS m 4 (-1)) 1 (pe_bf (m 8) (m 0 0) (m 1 0 + 1))) (by omega) (by unfold pe_wk; omega) (by unfold pe_eCmd; (repeat (first | rw [if_pos (by omega)] | rw [if_neg (by omega)])); first | done | rfl)]
                                 rw [← ZB]; exact pe_ra_Bs hA2 (show 0 ≤ z159 by omega) hb2⟩)
                            | (have K : (pe_kf (σ 29 14) b) = 65538 := (by unfold pe_kf; (repeat (first | rw [if_pos (by omega)] | rw [if_neg (by omega)])); first | done | rfl)
                               skip
                               exact ⟨hB, (fun b hb => (f162 b (by simp at hb ⊢; try omega)).trans ((f133 b (by simp at hb ⊢; try omega)).trans (rfl))), (fun j hj => (o162 j (by simp at hj ⊢; try omega)).trans ((o133 j (by simp at hj ⊢; try omega)).trans (rfl))), by
                                 rw [K, pe_q_k (M := (pe_eS m 4 (-1))) (by omega) (by unfold pe_wk; omega) (by unfold pe_eCmd; (repeat (first | rw [if_pos (by omega)] | rw [if_neg (by omega)])); first | done | rfl)]
                                 exact pe_ra_Bs hA1 w2.1 hg⟩)
                            | (have K : (pe_kf (σ 29 14) b) = 65539 := (by unfold pe_kf; (repeat (first | rw [if_pos (by omega)] | rw [if_neg (by omega)])); first | done | rfl)
                               have ZB := pe_ba_of (t' := m 8) A2 hz184.1 hz184.2.1 hz184.2.2
                               have hA2 := pe_ra_cu hA1 (fun b hb => (f187 b (by rintro rfl; simp at hb))) (fun j hj => (o187 j (by rintro rfl; simp at hj))) e187
                               have hb2 := (pe_bg_eq A2 (by omega)).mp hz184.2.1
                               exact ⟨hB, (fun b hb => (f162 b (by simp at hb ⊢; try omega)).trans ((f133 b (by simp at hb ⊢; try omega)).trans (rfl))), (fun j hj => (o162 j (by simp at hj ⊢; try omega)).trans ((o133 j (by simp at hj ⊢; try omega)).trans (rfl))), by
                                 rw [K, pe_q_k (M := pe_eS (pe_eS m 4 (-1)) 1 (pe_ba (m 8) (m 0 0) (m 1 0))) (by omega) (by unfold pe_wk; omega) (by unfold pe_eCmd; (repeat (first | rw [if_pos (by omega)] | rw [if_neg (by omega)])); first | done | rfl)]
                                 rw [← ZB]; exact pe_ra_Bs hA2 (show 0 ≤ z184 by omega) hb2⟩)
                            | (have K : (pe_kf (σ 29 14) b) = 65539 := (by unfold pe_kf; (repeat (first | rw [if_pos (by omega)] | rw [if_neg (by omega)])); first | done | rfl)
                               skip
                               exact ⟨hB, (fun b hb => (f162 b (by simp at hb ⊢; try omega)).trans ((f133 b (by simp at hb ⊢; try omega)).trans (rfl))), (fun j hj => (o162 j (by simp at hj ⊢; try omega)).trans ((o133 j (by simp at hj ⊢; try omega)).trans (rfl))), by
                                 rw [K, pe_q_k (M := (pe_eS m 4 (-1))) (by omega) (by unfold pe_wk; omega) (by unfold pe_eCmd; (repeat (first | rw [if_pos (by omega)] | rw [if_neg (by omega)])); first | done | rfl)]
                                 exact pe_ra_Bs hA1 w2.1 hg⟩)
                            | (have K : (pe_kf (σ 29 14) b) = 65540 := (by unfold pe_kf; (repeat (first | rw [if_pos (by omega)] | rw [if_neg (by omega)])); first | done | rfl)
                               have ZB := pe_lb_of (t' := m 8) A2 (by omega) hz198.1 hz198.2.1 hz198.2.2
                               have hA2 := pe_ra_cu hA1 (fun b hb => (f201 b (by rintro rfl; simp at hb))) (fun j hj => (o201 j (by rintro rfl; simp at hj))) e201
                               have hb1 : pe_bg (σ 30) (m 0 0) z198 := by unfold pe_bg; omega
                               have hb2 := (pe_bg_eq A2 (by omega)).mp hb1
                               exact ⟨hB, (fun b hb => (f162 b (by simp at hb ⊢; try omega)).trans ((f133 b (by simp at hb ⊢; try omega)).trans (rfl))), (fun j hj => (o162 j (by simp at hj ⊢; try omega)).trans ((o133 j (by simp at hj ⊢; try omega)).trans (rfl))), by
                                 rw [K, pe_q_k (M := pe_eS (pe_eS m 4 (-1)) 1 (pe_lb (m 8) (m 1 0))) (by omega) (by unfold pe_wk; omega) (by unfold pe_eCmd; (repeat (first | rw [if_pos (by omega)] | rw [if_neg (by omega)])); first | done | rfl)]
                                 rw [← ZB]; exact pe_ra_Bs hA2 (show 0 ≤ z198 by omega) hb2⟩)
                            | (have K : (pe_kf (σ 29 14) b) = 65541 := (by unfold pe_kf; (repeat (first | rw [if_pos (by omega)] | rw [if_neg (by omega)])); first | done | rfl)
                               have ZB := pe_lz_of (t' := m 8) A2 (by omega) hz212.1 hz212.2.1 hz212.2.2
                               have hA2 := pe_ra_cu hA1 (fun b hb => (f215 b (by rintro rfl; simp at hb))) (fun j hj => (o215 j (by rintro rfl; simp at hj))) e215
                               have hb1 : pe_bg (σ 30) (m 0 0) z212 := by unfold pe_bg; omega
                               have hb2 := (pe_bg_eq A2 (by omega)).mp hb1
                               exact ⟨hB, (fun b hb => (f162 b (by simp at hb ⊢; try omega)).trans ((f133 b (by simp at hb ⊢; try omega)).trans (rfl))), (fun j hj => (o162 j (by simp at hj ⊢; try omega)).trans ((o133 j (by simp at hj ⊢; try omega)).trans (rfl))), by
                                 rw [K, pe_q_k (M := pe_eS (pe_eS m 4 (-1)) 1 (pe_lz (m 8) (m 0 0) (m 1 0))) (by omega) (by unfold pe_wk; omega) (by unfold pe_eCmd; (repeat (first | rw [if_pos (by omega)] | rw [if_neg (by omega)])); first | done | rfl)]
                                 rw [← ZB]; exact pe_ra_Bs hA2 (show 0 ≤ z212 by omega) hb2⟩)
                            | (have K : (pe_kf (σ 29 14) b) = 65542 := (by unfold pe_kf; (repeat (first | rw [if_pos (by omega)] | rw [if_neg (by omega)])); first | done | rfl)
                               have ZB := pe_bf_of (t' := m 8) A2 (by omega) (show m 1 0 + 1 ≤ z253 by omega) hz253.2.1 (fun j a c => hz253.2.2 j (by omega) c)
                               rw [c2, ZB] at x256
                               exact ⟨hB, (fun b hb => (f162 b (by simp at hb ⊢; try omega)).trans ((f133 b (by simp at hb ⊢; try omega)).trans (rfl))), (fun j hj => (o162 j (by simp at hj ⊢; try omega)).trans ((o133 j (by simp at hj ⊢; try omega)).trans (rfl))), by
                                 rw [K, pe_q_k (M := pe_eDel (pe_eS m 4 (-1)) (m 1 0) (pe_bf (m 8) (m 0 0) (m 1 0 + 1))) (by omega) (by unfold pe_wk; omega) (by unfold pe_eCmd; (repeat (first | rw [if_pos (by omega)] | rw [if_neg (by omega)])); first | done | rfl)]
                                 exact x256⟩)
                            | (have K : (pe_kf (σ 29 14) b) = 65542 := (by unfold pe_kf; (repeat (first | rw [if_pos (by omega)] | rw [if_neg (by omega)])); first | done | rfl)
                               skip
                               exact ⟨hB, (fun b hb => (f162 b (by simp at hb ⊢; try omega)).trans ((f133 b (by simp at hb ⊢; try omega)).trans (rfl))), (fun j hj => (o162 j (by simp at hj ⊢; try omega)).trans ((o133 j (by simp at hj ⊢; try omega)).trans (rfl))), by
                                 rw [K, pe_q_k (M := (pe_eS m 4 (-1))) (by omega) (by unfold pe_wk; omega) (by unfold pe_eCmd; (repeat (first | rw [if_pos (by omega)] | rw [if_neg (by omega)])); first | done | rfl)]
                                 exact pe_ra_Bs hA1 w2.1 hg⟩)
                            | (have K : (pe_kf (σ 29 14) b) = 65543 := (by unfold pe_kf; (repeat (first | rw [if_pos (by omega)] | rw [if_neg (by omega)])); first | done | rfl)
                               have hA2 := pe_ra_pa hA1 (fun b hb => (f289 b (by rintro rfl; simp at hb))) (fun j hj => (o289 j (by rintro rfl; simp at hj))) e289
                               exact ⟨hB, (fun b hb => (f162 b (by simp at hb ⊢; try omega)).trans ((f133 b (by simp at hb ⊢; try omega)).trans (rfl))), (fun j hj => (o162 j (by simp at hj ⊢; try omega)).trans ((o133 j (by simp at hj ⊢; try omega)).trans (rfl))), by
                                 rw [K, pe_q_k (M := pe_eS (pe_eS m 4 (-1)) 6 1) (by omega) (by unfold pe_wk; omega) (by unfold pe_eCmd; (repeat (first | rw [if_pos (by omega)] | rw [if_neg (by omega)])); first | done | rfl)]
                                 exact pe_ra_Bs hA2 w2.1 hg⟩)
                            | (have K : (pe_kf (σ 29 14) b) = 65544 := (by unfold pe_kf; (repeat (first | rw [if_pos (by omega)] | rw [if_neg (by omega)])); first | done | rfl)
                               have hA2 := pe_ra_pa hA1 (fun b hb => (f289 b (by rintro rfl; simp at hb))) (fun j hj => (o289 j (by rintro rfl; simp at hj))) e289
                               exact ⟨hB, (fun b hb => (f162 b (by simp at hb ⊢; try omega)).trans ((f133 b (by simp at hb ⊢; try omega)).trans (rfl))), (fun j hj => (o162 j (by simp at hj ⊢; try omega)).trans ((o133 j (by simp at hj ⊢; try omega)).trans (rfl))), by
                                 rw [K, pe_q_k (M := pe_eS (pe_eS m 4 (-1)) 6 0) (by omega) (by unfold pe_wk; omega) (by unfold pe_eCmd; (repeat (first | rw [if_pos (by omega)] | rw [if_neg (by omega)])); first | done | rfl)]
                                 exact pe_ra_Bs hA2 w2.1 hg⟩)
                          · skip
                            exfalso; omega
                        · skip
                          exfalso; omega
                      · skip
                        exfalso; omega
                    · skip
                      exfalso; omega
                  · skip
                    exfalso; omega
            · skip
              exfalso; omega
          · skip
            refine pe_iload_n d_M_finish_68 rfl ?_
            refine pe_bipush d_M_finish_69 ?_
            refine pe_icmp_eq (t := 120) d_M_finish_71 (by first | exact hB _ _ | exact hB0 _ _ | exact hBt _ _ | exact ⟨by omega, by omega⟩) (by first | exact hB _ _ | exact hB0 _ _ | exact hBt _ _ | exact ⟨by omega, by omega⟩) (fun h71 => ?_) (fun h71 => ?_)
            · skip
              refine pe_iconst d_M_finish_120 ?_
              refine pe_goto (t := 125) d_M_finish_121 ?_
              refine pe_istore_n d_M_finish_125 ?_
              refine pe_iload_n d_M_finish_126 rfl ?_
              refine pe_if_ne (t := 131) d_M_finish_127 (by first | exact hB _ _ | exact hB0 _ _ | exact hBt _ _ | exact ⟨by omega, by omega⟩) (fun h127 => ?_) (fun h127 => ?_)
              · skip
                refine pe_aload_n d_M_finish_131 rfl ?_
                refine pe_iconst d_M_finish_132 ?_
                refine pe_putiT f_M_20 g_11_6 d_M_finish_133 rfl rfl 6 rfl hB (by first | exact hB _ _ | exact hB0 _ _ | exact hBt _ _ | exact ⟨by omega, by omega⟩) (fun σ133 hB e133 o133 f133 => ?_)
                try have u133_0 : σ133 29 1 = σ 29 1 := by first | exact o133 1 (by decide) | exact congrFun (f133 29 (by decide)) 1
                try have u133_1 : σ133 29 2 = σ 29 2 := by first | exact o133 2 (by decide) | exact congrFun (f133 29 (by decide)) 2
                try have u133_2 : σ133 29 3 = σ 29 3 := by first | exact o133 3 (by decide) | exact congrFun (f133 29 (by decide)) 3
                try have u133_3 : σ133 29 5 = σ 29 5 := by first | exact o133 5 (by decide) | exact congrFun (f133 29 (by decide)) 5
                try have u133_4 : σ133 29 6 = σ 29 6 := by first | exact o133 6 (by decide) | exact congrFun (f133 29 (by decide)) 6
                try have u133_5 : σ133 29 7 = σ 29 7 := by first | exact o133 7 (by decide) | exact congrFun (f133 29 (by decide)) 7
                try have u133_6 : σ133 29 19 = σ 29 19 := by first | exact o133 19 (by decide) | exact congrFun (f133 29 (by decide)) 19
                try have u133_7 : σ133 29 21 = σ 29 21 := by first | exact o133 21 (by decide) | exact congrFun (f133 29 (by decide)) 21
                try have u133_8 : σ133 29 14 = σ 29 14 := by first | exact o133 14 (by decide) | exact congrFun (f133 29 (by decide)) 14
                have hA1 := pe_ra_gl hA (fun b hb => (f133 b (by rintro rfl; simp at hb))) (fun j hj => (o133 j (by rintro rfl; simp at hj))) e133
                have hw1 := pe_wf_gl (z := -1) hw (by omega)
                have g0 : pe_eS m 4 (-1) 0 0 = m 0 0 := rfl
                have g1 : pe_eS m 4 (-1) 1 0 = m 1 0 := rfl
                have g6 : pe_eS m 4 (-1) 6 0 = m 6 0 := rfl
                have c2 : σ133 29 2 = m 1 0 := by omega
                have c1 : σ133 29 1 = m 0 0 := by omega
                refine pe_iload_n d_M_finish_136 rfl ?_
                refine pe_bipush d_M_finish_137 ?_
                refine pe_icmp_ne (t := 165) d_M_finish_139 (by first | exact hB _ _ | exact hB0 _ _ | exact hBt _ _ | exact ⟨by omega, by omega⟩) (by first | exact hB _ _ | exact hB0 _ _ | exact hBt _ _ | exact ⟨by omega, by omega⟩) (fun h139 => ?_) (fun h139 => ?_)
                · skip
                  refine pe_iload_n d_M_finish_165 rfl ?_
                  refine pe_bipush d_M_finish_166 ?_
                  refine pe_icmp_ne (t := 190) d_M_finish_168 (by first | exact hB _ _ | exact hB0 _ _ | exact hBt _ _ | exact ⟨by omega, by omega⟩) (by first | exact hB _ _ | exact hB0 _ _ | exact hBt _ _ | exact ⟨by omega, by omega⟩) (fun h168 => ?_) (fun h168 => ?_)
                  · skip
                    exfalso; omega
                  · skip
                    refine pe_aload_n d_M_finish_171 rfl ?_
                    refine pe_geti f_M_117 d_M_finish_172 rfl rfl 2 rfl ?_
                    refine pe_if_le (t := 190) d_M_finish_175 (by first | exact hB _ _ | exact hB0 _ _ | exact hBt _ _ | exact ⟨by omega, by omega⟩) (fun h175 => ?_) (fun h175 => ?_)
                    · skip
                      refine pe_iload_n d_M_finish_190 rfl ?_
                      refine pe_bipush d_M_finish_191 ?_
                      refine pe_icmp_ne (t := 204) d_M_finish_193 (by first | exact hB _ _ | exact hB0 _ _ | exact hBt _ _ | exact ⟨by omega, by omega⟩) (by first | exact hB _ _ | exact hB0 _ _ | exact hBt _ _ | exact ⟨by omega, by omega⟩) (fun h193 => ?_) (fun h193 => ?_)
                      · skip
                        refine pe_iload_n d_M_finish_204 rfl ?_
                        refine pe_bipush d_M_finish_205 ?_
                        refine pe_icmp_ne (t := 218) d_M_finish_207 (by first | exact hB _ _ | exact hB0 _ _ | exact hBt _ _ | exact ⟨by omega, by omega⟩) (by first | exact hB _ _ | exact hB0 _ _ | exact hBt _ _ | exact ⟨by omega, by omega⟩) (fun h207 => ?_) (fun h207 => ?_)
                        · skip
                          refine pe_iload_n d_M_finish_218 rfl ?_
                          refine pe_bipush d_M_finish_219 ?_
                          refine pe_icmp_ne (t := 259) d_M_finish_221 (by first | exact hB _ _ | exact hB0 _ _ | exact hBt _ _ | exact ⟨by omega, by omega⟩) (by first | exact hB _ _ | exact hB0 _ _ | exact hBt _ _ | exact ⟨by omega, by omega⟩) (fun h221 => ?_) (fun h221 => ?_)
                          · skip
                            refine pe_iload_n d_M_finish_259 rfl ?_
                            refine pe_bipush d_M_finish_260 ?_
                            refine pe_icmp_ne (t := 292) d_M_finish_262 (by first | exact hB _ _ | exact hB0 _ _ | exact hBt _ _ | exact ⟨by omega, by omega⟩) (by first | exact hB _ _ | exact hB0 _ _ | exact hBt _ _ | exact ⟨by omega, by omega⟩) (fun h262 => ?_) (fun h262 => ?_)
                            · skip
                              refine pe_rv d_M_finish_292 ?_
                              first
                              | (have K : (pe_kf (σ 29 14) b) = 65538 := (by unfold pe_kf; (repeat (first | rw [if_pos (by omega)] | rw [if_neg (by omega)])); first | done | rfl)
                                 have ZB := pe_bf_of (t' := m 8) A2 (by omega) (show m 1 0 + 1 ≤ z159 by omega) hz159.2.1 (fun j a c => hz159.2.2 j (by omega) c)
                                 have hA2 := pe_ra_cu hA1 (fun b hb => (f162 b (by rintro rfl; simp at hb))) (fun j hj => (o162 j (by rintro rfl; simp at hj))) e162
                                 have hb2 := (pe_bg_eq A2 (by omega)).mp hz159.2.1
                                 exact ⟨hB, (fun b hb => (f133 b (by simp at hb ⊢; try omega)).trans (rfl)), (fun j hj => (o133 j (by simp at hj ⊢; try omega)).trans (rfl)), by
                                   rw [K, pe_q_k (M := pe_eS (pe_eS m 4 (-1)) 1 (pe_bf (m 8) (m 0 0) (m 1 0 + 1))) (by omega) (by unfold pe_wk; omega) (by unfold pe_eCmd; (repeat (first | rw [if_pos (by omega)] | rw [if_neg (by omega)])); first | done | rfl)]
                                   rw [← ZB]; exact pe_ra_Bs hA2 (show 0 ≤ z159 by omega) hb2⟩)
                              | (have K : (pe_kf (σ 29 14) b) = 65538 := (by unfold pe_kf; (repeat (first | rw [if_pos (by omega)] | rw [if_neg (by omega)])); first | done | rfl)
                                 skip
                                 exact ⟨hB, (fun b hb => (f133 b (by simp at hb ⊢; try omega)).trans (rfl)), (fun j hj => (o133 j (by simp at hj ⊢; try omega)).trans (rfl)), by
                                   rw [K, pe_q_k (M := (pe_eS m 4 (-1))) (by omega) (by unfold pe_wk; omega) (by unfold pe_eCmd; (repeat (first | rw [if_pos (by omega)] | rw [if_neg (by omega)])); first | done | rfl)]
                                   exact pe_ra_Bs hA1 w2.1 hg⟩)
                              | (have K : (pe_kf (σ 29 14) b) = 65539 := (by unfold pe_kf; (repeat (first | rw [if_pos (by omega)] | rw [if_neg (by omega)])); first | done | rfl)
                                 have ZB := pe_ba_of (t' := m 8) A2 hz184.1 hz184.2.1 hz184.2.2
                                 have hA2 := pe_ra_cu hA1 (fun b hb => (f187 b (by rintro rfl; simp at hb))) (fun j hj => (o187 j (by rintro rfl; simp at hj))) e187
                                 have hb2 := (pe_bg_eq A2 (by omega)).mp hz184.2.1
                                 exact ⟨hB, (fun b hb => (f133 b (by simp at hb ⊢; try omega)).trans (rfl)), (fun j hj => (o133 j (by simp at hj ⊢; try omega)).trans (rfl)), by
                                   rw [K, pe_q_k (M := pe_eS (pe_eS m 4 (-1)) 1 (pe_ba (m 8) (m 0 0) (m 1 0))) (by omega) (by unfold pe_wk; omega) (by unfold pe_eCmd; (repeat (first | rw [if_pos (by omega)] | rw [if_neg (by omega)])); first | done | rfl)]
                                   rw [← ZB]; exact pe_ra_Bs hA2 (show 0 ≤ z184 by omega) hb2⟩)
                              | (have K : (pe_kf (σ 29 14) b) = 65539 := (by unfold pe_kf; (repeat (first | rw [if_pos (by omega)] | rw [if_neg (by omega)])); first | done | rfl)
                                 skip
                                 exact ⟨hB, (fun b hb => (f133 b (by simp at hb ⊢; try omega)).trans (rfl)), (fun j hj => (o133 j (by simp at hj ⊢; try omega)).trans (rfl)), by
                                   rw [K, pe_q_k (M := (pe_eS m 4 (-1))) (by omega) (by unfold pe_wk; omega) (by unfold pe_eCmd; (repeat (first | rw [if_pos (by omega)] | rw [if_neg (by omega)])); first | done | rfl)]
                                   exact pe_ra_Bs hA1 w2.1 hg⟩)
                              | (have K : (pe_kf (σ 29 14) b) = 65540 := (by unfold pe_kf; (repeat (first | rw [if_pos (by omega)] | rw [if_neg (by omega)])); first | done | rfl)
                                 have ZB := pe_lb_of (t' := m 8) A2 (by omega) hz198.1 hz198.2.1 hz198.2.2
                                 have hA2 := pe_ra_cu hA1 (fun b hb => (f201 b (by rintro rfl; simp at hb))) (fun j hj => (o201 j (by rintro rfl; simp at hj))) e201
                                 have hb1 : pe_bg (σ 30) (m 0 0) z198 := by unfold pe_bg; omega
                                 have hb2 := (pe_bg_eq A2 (by omega)).mp hb1
                                 exact ⟨hB, (fun b hb => (f133 b (by simp at hb ⊢; try omega)).trans (rfl)), (fun j hj => (o133 j (by simp at hj ⊢; try omega)).trans (rfl)), by
                                   rw [K, pe_q_k (M := pe_eS (pe_eS m 4 (-1)) 1 (pe_lb (m 8) (m 1 0))) (by omega) (by unfold pe_wk; omega) (by unfold pe_eCmd; (repeat (first | rw [if_pos (by omega)] | rw [if_neg (by omega)])); first | done | rfl)]
                                   rw [← ZB]; exact pe_ra_Bs hA2 (show 0 ≤ z198 by omega) hb2⟩)
                              | (have K : (pe_kf (σ 29 14) b) = 65541 := (by unfold pe_kf; (repeat (first | rw [if_pos (by omega)] | rw [if_neg (by omega)])); first | done | rfl)
                                 have ZB := pe_lz_of (t' := m 8) A2 (by omega) hz212.1 hz212.2.1 hz212.2.2
                                 have hA2 := pe_ra_cu hA1 (fun b hb => (f215 b (by rintro rfl; simp at hb))) (fun j hj => (o215 j (by rintro rfl; simp at hj))) e215
                                 have hb1 : pe_bg (σ 30) (m 0 0) z212 := by unfold pe_bg; omega
                                 have hb2 := (pe_bg_eq A2 (by omega)).mp hb1
                                 exact ⟨hB, (fun b hb => (f133 b (by simp at hb ⊢; try omega)).trans (rfl)), (fun j hj => (o133 j (by simp at hj ⊢; try omega)).trans (rfl)), by
                                   rw [K, pe_q_k (M := pe_eS (pe_eS m 4 (-1)) 1 (pe_lz (m 8) (m 0 0) (m 1 0))) (by omega) (by unfold pe_wk; omega) (by unfold pe_eCmd; (repeat (first | rw [if_pos (by omega)] | rw [if_neg (by omega)])); first | done | rfl)]
                                   rw [← ZB]; exact pe_ra_Bs hA2 (show 0 ≤ z212 by omega) hb2⟩)
                              | (have K : (pe_kf (σ 29 14) b) = 65542 := (by unfold pe_kf; (repeat (first | rw [if_pos (by omega)] | rw [if_neg (by omega)])); first | done | rfl)
                                 have ZB := pe_bf_of (t' := m 8) A2 (by omega) (show m 1 0 + 1 ≤ z253 by omega) hz253.2.1 (fun j a c => hz253.2.2 j (by omega) c)
                                 rw [c2, ZB] at x256
                                 exact ⟨hB, (fun b hb => (f133 b (by simp at hb ⊢; try omega)).trans (rfl)), (fun j hj => (o133 j (by simp at hj ⊢; try omega)).trans (rfl)), by
                                   rw [K, pe_q_k (M := pe_eDel (pe_eS m 4 (-1)) (m 1 0) (pe_bf (m 8) (m 0 0) (m 1 0 + 1))) (by omega) (by unfold pe_wk; omega) (by unfold pe_eCmd; (repeat (first | rw [if_pos (by omega)] | rw [if_neg (by omega)])); first | done | rfl)]
                                   exact x256⟩)
                              | (have K : (pe_kf (σ 29 14) b) = 65542 := (by unfold pe_kf; (repeat (first | rw [if_pos (by omega)] | rw [if_neg (by omega)])); first | done | rfl)
                                 skip
                                 exact ⟨hB, (fun b hb => (f133 b (by simp at hb ⊢; try omega)).trans (rfl)), (fun j hj => (o133 j (by simp at hj ⊢; try omega)).trans (rfl)), by
                                   rw [K, pe_q_k (M := (pe_eS m 4 (-1))) (by omega) (by unfold pe_wk; omega) (by unfold pe_eCmd; (repeat (first | rw [if_pos (by omega)] | rw [if_neg (by omega)])); first | done | rfl)]
                                   exact pe_ra_Bs hA1 w2.1 hg⟩)
                              | (have K : (pe_kf (σ 29 14) b) = 65543 := (by unfold pe_kf; (repeat (first | rw [if_pos (by omega)] | rw [if_neg (by omega)])); first | done | rfl)
                                 have hA2 := pe_ra_pa hA1 (fun b hb => (f289 b (by rintro rfl; simp at hb))) (fun j hj => (o289 j (by rintro rfl; simp at hj))) e289
                                 exact ⟨hB, (fun b hb => (f133 b (by simp at hb ⊢; try omega)).trans (rfl)), (fun j hj => (o133 j (by simp at hj ⊢; try omega)).trans (rfl)), by
                                   rw [K, pe_q_k (M := pe_eS (pe_eS m 4 (-1)) 6 1) (by omega) (by unfold pe_wk; omega) (by unfold pe_eCmd; (repeat (first | rw [if_pos (by omega)] | rw [if_neg (by omega)])); first | done | rfl)]
                                   exact pe_ra_Bs hA2 w2.1 hg⟩)
                              | (have K : (pe_kf (σ 29 14) b) = 65544 := (by unfold pe_kf; (repeat (first | rw [if_pos (by omega)] | rw [if_neg (by omega)])); first | done | rfl)
                                 have hA2 := pe_ra_pa hA1 (fun b hb => (f289 b (by rintro rfl; simp at hb))) (fun j hj => (o289 j (by rintro rfl; simp at hj))) e289
                                 exact ⟨hB, (fun b hb => (f133 b (by simp at hb ⊢; try omega)).trans (rfl)), (fun j hj => (o133 j (by simp at hj ⊢; try omega)).trans (rfl)), by
                                   rw [K, pe_q_k (M := pe_eS (pe_eS m 4 (-1)) 6 0) (by omega) (by unfold pe_wk; omega) (by unfold pe_eCmd; (repeat (first | rw [if_pos (by omega)] | rw [if_neg (by omega)])); first | done | rfl)]
                                   exact pe_ra_Bs hA2 w2.1 hg⟩)
                            · skip
                              exfalso; omega
                          · skip
                            exfalso; omega
                        · skip
                          exfalso; omega
                      · skip
                        exfalso; omega
                    · skip
                      refine pe_aload_n d_M_finish_178 rfl ?_
                      refine pe_aload_n d_M_finish_179 rfl ?_
                      refine pe_aload_n d_M_finish_180 rfl ?_
                      refine pe_geti f_M_117 d_M_finish_181 rfl rfl 2 rfl ?_
                      refine pe_v1p d_M_finish_184 c_M_162 i_M_before s_M_before rfl rfl (x_M_before hB (by omega) (by omega)) (fun z184 hz184 => ?_)
                      rw [c2, c1, f133 30 (by decide)] at hz184
                      refine pe_putiT f_M_117 g_11_2 d_M_finish_187 rfl rfl 2 rfl hB (by first | exact hB _ _ | exact hB0 _ _ | exact hBt _ _ | exact ⟨by omega, by omega⟩) (fun σ187 hB e187 o187 f187 => ?_)
                      try have u187_0 : σ187 29 1 = σ133 29 1 := by first | exact o187 1 (by decide) | exact congrFun (f187 29 (by decide)) 1
                      try have u187_1 : σ187 29 2 = σ133 29 2 := by first | exact o187 2 (by decide) | exact congrFun (f187 29 (by decide)) 2
                      try have u187_2 : σ187 29 3 = σ133 29 3 := by first | exact o187 3 (by decide) | exact congrFun (f187 29 (by decide)) 3
                      try have u187_3 : σ187 29 5 = σ133 29 5 := by first | exact o187 5 (by decide) | exact congrFun (f187 29 (by decide)) 5
                      try have u187_4 : σ187 29 6 = σ133 29 6 := by first | exact o187 6 (by decide) | exact congrFun (f187 29 (by decide)) 6
                      try have u187_5 : σ187 29 7 = σ133 29 7 := by first | exact o187 7 (by decide) | exact congrFun (f187 29 (by decide)) 7
                      try have u187_6 : σ187 29 19 = σ133 29 19 := by first | exact o187 19 (by decide) | exact congrFun (f187 29 (by decide)) 19
                      try have u187_7 : σ187 29 21 = σ133 29 21 := by first | exact o187 21 (by decide) | exact congrFun (f187 29 (by decide)) 21
                      try have u187_8 : σ187 29 14 = σ133 29 14 := by first | exact o187 14 (by decide) | exact congrFun (f187 29 (by decide)) 14
                      refine pe_iload_n d_M_finish_190 rfl ?_
                      refine pe_bipush d_M_finish_191 ?_
                      refine pe_icmp_ne (t := 204) d_M_finish_193 (by first | exact hB _ _ | exact hB0 _ _ | exact hBt _ _ | exact ⟨by omega, by omega⟩) (by first | exact hB _ _ | exact hB0 _ _ | exact hBt _ _ | exact ⟨by omega, by omega⟩) (fun h193 => ?_) (fun h193 => ?_)
                      · skip
                        refine pe_iload_n d_M_finish_204 rfl ?_
                        refine pe_bipush d_M_finish_205 ?_
                        refine pe_icmp_ne (t := 218) d_M_finish_207 (by first | exact hB _ _ | exact hB0 _ _ | exact hBt _ _ | exact ⟨by omega, by omega⟩) (by first | exact hB _ _ | exact hB0 _ _ | exact hBt _ _ | exact ⟨by omega, by omega⟩) (fun h207 => ?_) (fun h207 => ?_)
                        · skip
                          refine pe_iload_n d_M_finish_218 rfl ?_
                          refine pe_bipush d_M_finish_219 ?_
                          refine pe_icmp_ne (t := 259) d_M_finish_221 (by first | exact hB _ _ | exact hB0 _ _ | exact hBt _ _ | exact ⟨by omega, by omega⟩) (by first | exact hB _ _ | exact hB0 _ _ | exact hBt _ _ | exact ⟨by omega, by omega⟩) (fun h221 => ?_) (fun h221 => ?_)
                          · skip
                            refine pe_iload_n d_M_finish_259 rfl ?_
                            refine pe_bipush d_M_finish_260 ?_
                            refine pe_icmp_ne (t := 292) d_M_finish_262 (by first | exact hB _ _ | exact hB0 _ _ | exact hBt _ _ | exact ⟨by omega, by omega⟩) (by first | exact hB _ _ | exact hB0 _ _ | exact hBt _ _ | exact ⟨by omega, by omega⟩) (fun h262 => ?_) (fun h262 => ?_)
                            · skip
                              refine pe_rv d_M_finish_292 ?_
                              first
                              | (have K : (pe_kf (σ 29 14) b) = 65538 := (by unfold pe_kf; (repeat (first | rw [if_pos (by omega)] | rw [if_neg (by omega)])); first | done | rfl)
                                 have ZB := pe_bf_of (t' := m 8) A2 (by omega) (show m 1 0 + 1 ≤ z159 by omega) hz159.2.1 (fun j a c => hz159.2.2 j (by omega) c)
                                 have hA2 := pe_ra_cu hA1 (fun b hb => (f162 b (by rintro rfl; simp at hb))) (fun j hj => (o162 j (by rintro rfl; simp at hj))) e162
                                 have hb2 := (pe_bg_eq A2 (by omega)).mp hz159.2.1
                                 exact ⟨hB, (fun b hb => (f187 b (by simp at hb ⊢; try omega)).trans ((f133 b (by simp at hb ⊢; try omega)).trans (rfl))), (fun j hj => (o187 j (by simp at hj ⊢; try omega)).trans ((o133 j (by simp at hj ⊢; try omega)).trans (rfl))), by
                                   rw [K, pe_q_k (M := pe_eS (pe_eS m 4 (-1)) 1 (pe_bf (m 8) (m 0 0) (m 1 0 + 1))) (by omega) (by unfold pe_wk; omega) (by unfold pe_eCmd; (repeat (first | rw [if_pos (by omega)] | rw [if_neg (by omega)])); first | done | rfl)]
                                   rw [← ZB]; exact pe_ra_Bs hA2 (show 0 ≤ z159 by omega) hb2⟩)
                              | (have K : (pe_kf (σ 29 14) b) = 65538 := (by unfold pe_kf; (repeat (first | rw [if_pos (by omega)] | rw [if_neg (by omega)])); first | done | rfl)
                                 skip
                                 exact ⟨hB, (fun b hb => (f187 b (by simp at hb ⊢; try omega)).trans ((f133 b (by simp at hb ⊢; try omega)).trans (rfl))), (fun j hj => (o187 j (by simp at hj ⊢; try omega)).trans ((o133 j (by simp at hj ⊢; try omega)).trans (rfl))), by
                                   rw [K, pe_q_k (M := (pe_eS m 4 (-1))) (by omega) (by unfold pe_wk; omega) (by unfold pe_eCmd; (repeat (first | rw [if_pos (by omega)] | rw [if_neg (by omega)])); first | done | rfl)]
                                   exact pe_ra_Bs hA1 w2.1 hg⟩)
                              | (have K : (pe_kf (σ 29 14) b) = 65539 := (by unfold pe_kf; (repeat (first | rw [if_pos (by omega)] | rw [if_neg (by omega)])); first | done | rfl)
                                 have ZB := pe_ba_of (t' := m 8) A2 hz184.1 hz184.2.1 hz184.2.2
                                 have hA2 := pe_ra_cu hA1 (fun b hb => (f187 b (by rintro rfl; simp at hb))) (fun j hj => (o187 j (by rintro rfl; simp at hj))) e187
                                 have hb2 := (pe_bg_eq A2 (by omega)).mp hz184.2.1
                                 exact ⟨hB, (fun b hb => (f187 b (by simp at hb ⊢; try omega)).trans ((f133 b (by simp at hb ⊢; try omega)).trans (rfl))), (fun j hj => (o187 j (by simp at hj ⊢; try omega)).trans ((o133 j (by simp at hj ⊢; try omega)).trans (rfl))), by
                                   rw [K, pe_q_k (M := pe_eS (pe_eS m 4 (-1)) 1 (pe_ba (m 8) (m 0 0) (m 1 0))) (by omega) (by unfold pe_wk; omega) (by unfold pe_eCmd; (repeat (first | rw [if_pos (by omega)] | rw [if_neg (by omega)])); first | done | rfl)]
                                   rw [← ZB]; exact pe_ra_Bs hA2 (show 0 ≤ z184 by omega) hb2⟩)
                              | (have K : (pe_kf (σ 29 14) b) = 65539 := (by unfold pe_kf; (repeat (first | rw [if_pos (by omega)] | rw [if_neg (by omega)])); first | done | rfl)
                                 skip
                                 exact ⟨hB, (fun b hb => (f187 b (by simp at hb ⊢; try omega)).trans ((f133 b (by simp at hb ⊢; try omega)).trans (rfl))), (fun j hj => (o187 j (by simp at hj ⊢; try omega)).trans ((o133 j (by simp at hj ⊢; try omega)).trans (rfl))), by
                                   rw [K, pe_q_k (M := (pe_eS m 4 (-1))) (by omega) (by unfold pe_wk; omega) (by unfold pe_eCmd; (repeat (first | rw [if_pos (by omega)] | rw [if_neg (by omega)])); first | done | rfl)]
                                   exact pe_ra_Bs hA1 w2.1 hg⟩)
                              | (have K : (pe_kf (σ 29 14) b) = 65540 := (by unfold pe_kf; (repeat (first | rw [if_pos (by omega)] | rw [if_neg (by omega)])); first | done | rfl)
                                 have ZB := pe_lb_of (t' := m 8) A2 (by omega) hz198.1 hz198.2.1 hz198.2.2
                                 have hA2 := pe_ra_cu hA1 (fun b hb => (f201 b (by rintro rfl; simp at hb))) (fun j hj => (o201 j (by rintro rfl; simp at hj))) e201
                                 have hb1 : pe_bg (σ 30) (m 0 0) z198 := by unfold pe_bg; omega
                                 have hb2 := (pe_bg_eq A2 (by omega)).mp hb1
                                 exact ⟨hB, (fun b hb => (f187 b (by simp at hb ⊢; try omega)).trans ((f133 b (by simp at hb ⊢; try omega)).trans (rfl))), (fun j hj => (o187 j (by simp at hj ⊢; try omega)).trans ((o133 j (by simp at hj ⊢; try omega)).trans (rfl))), by
                                   rw [K, pe_q_k (M := pe_eS (pe_eS m 4 (-1)) 1 (pe_lb (m 8) (m 1 0))) (by omega) (by unfold pe_wk; omega) (by unfold pe_eCmd; (repeat (first | rw [if_pos (by omega)] | rw [if_neg (by omega)])); first | done | rfl)]
                                   rw [← ZB]; exact pe_ra_Bs hA2 (show 0 ≤ z198 by omega) hb2⟩)
                              | (have K : (pe_kf (σ 29 14) b) = 65541 := (by unfold pe_kf; (repeat (first | rw [if_pos (by omega)] | rw [if_neg (by omega)])); first | done | rfl)
                                 have ZB := pe_lz_of (t' := m 8) A2 (by omega) hz212.1 hz212.2.1 hz212.2.2
                                 have hA2 := pe_ra_cu hA1 (fun b hb => (f215 b (by rintro rfl; simp at hb))) (fun j hj => (o215 j (by rintro rfl; simp at hj))) e215
                                 have hb1 : pe_bg (σ 30) (m 0 0) z212 := by unfold pe_bg; omega
                                 have hb2 := (pe_bg_eq A2 (by omega)).mp hb1
                                 exact ⟨hB, (fun b hb => (f187 b (by simp at hb ⊢; try omega)).trans ((f133 b (by simp at hb ⊢; try omega)).trans (rfl))), (fun j hj => (o187 j (by simp at hj ⊢; try omega)).trans ((o133 j (by simp at hj ⊢; try omega)).trans (rfl))), by
                                   rw [K, pe_q_k (M := pe_eS (pe_eS m 4 (-1)) 1 (pe_lz (m 8) (m 0 0) (m 1 0))) (by omega) (by unfold pe_wk; omega) (by unfold pe_eCmd; (repeat (first | rw [if_pos (by omega)] | rw [if_neg (by omega)])); first | done | rfl)]
                                   rw [← ZB]; exact pe_ra_Bs hA2 (show 0 ≤ z212 by omega) hb2⟩)
                              | (have K : (pe_kf (σ 29 14) b) = 65542 := (by unfold pe_kf; (repeat (first | rw [if_pos (by omega)] | rw [if_neg (by omega)])); first | done | rfl)
                                 have ZB := pe_bf_of (t' := m 8) A2 (by omega) (show m 1 0 + 1 ≤ z253 by omega) hz253.2.1 (fun j a c => hz253.2.2 j (by omega) c)
                                 rw [c2, ZB] at x256
                                 exact ⟨hB, (fun b hb => (f187 b (by simp at hb ⊢; try omega)).trans ((f133 b (by simp at hb ⊢; try omega)).trans (rfl))), (fun j hj => (o187 j (by simp at hj ⊢; try omega)).trans ((o133 j (by simp at hj ⊢; try omega)).trans (rfl))), by
                                   rw [K, pe_q_k (M := pe_eDel (pe_eS m 4 (-1)) (m 1 0) (pe_bf (m 8) (m 0 0) (m 1 0 + 1))) (by omega) (by unfold pe_wk; omega) (by unfold pe_eCmd; (repeat (first | rw [if_pos (by omega)] | rw [if_neg (by omega)])); first | done | rfl)]
                                   exact x256⟩)
                              | (have K : (pe_kf (σ 29 14) b) = 65542 := (by unfold pe_kf; (repeat (first | rw [if_pos (by omega)] | rw [if_neg (by omega)])); first | done | rfl)
                                 skip
                                 exact ⟨hB, (fun b hb => (f187 b (by simp at hb ⊢; try omega)).trans ((f133 b (by simp at hb ⊢; try omega)).trans (rfl))), (fun j hj => (o187 j (by simp at hj ⊢; try omega)).trans ((o133 j (by simp at hj ⊢; try omega)).trans (rfl))), by
                                   rw [K, pe_q_k (M := (pe_eS m 4 (-1))) (by omega) (by unfold pe_wk; omega) (by unfold pe_eCmd; (repeat (first | rw [if_pos (by omega)] | rw [if_neg (by omega)])); first | done | rfl)]
                                   exact pe_ra_Bs hA1 w2.1 hg⟩)
                              | (have K : (pe_kf (σ 29 14) b) = 65543 := (by unfold pe_kf; (repeat (first | rw [if_pos (by omega)] | rw [if_neg (by omega)])); first | done | rfl)
                                 have hA2 := pe_ra_pa hA1 (fun b hb => (f289 b (by rintro rfl; simp at hb))) (fun j hj => (o289 j (by rintro rfl; simp at hj))) e289
                                 exact ⟨hB, (fun b hb => (f187 b (by simp at hb ⊢; try omega)).trans ((f133 b (by simp at hb ⊢; try omega)).trans (rfl))), (fun j hj => (o187 j (by simp at hj ⊢; try omega)).trans ((o133 j (by simp at hj ⊢; try omega)).trans (rfl))), by
                                   rw [K, pe_q_k (M := pe_eS (pe_eS m 4 (-1)) 6 1) (by omega) (by unfold pe_wk; omega) (by unfold pe_eCmd; (repeat (first | rw [if_pos (by omega)] | rw [if_neg (by omega)])); first | done | rfl)]
                                   exact pe_ra_Bs hA2 w2.1 hg⟩)
                              | (have K : (pe_kf (σ 29 14) b) = 65544 := (by unfold pe_kf; (repeat (first | rw [if_pos (by omega)] | rw [if_neg (by omega)])); first | done | rfl)
                                 have hA2 := pe_ra_pa hA1 (fun b hb => (f289 b (by rintro rfl; simp at hb))) (fun j hj => (o289 j (by rintro rfl; simp at hj))) e289
                                 exact ⟨hB, (fun b hb => (f187 b (by simp at hb ⊢; try omega)).trans ((f133 b (by simp at hb ⊢; try omega)).trans (rfl))), (fun j hj => (o187 j (by simp at hj ⊢; try omega)).trans ((o133 j (by simp at hj ⊢; try omega)).trans (rfl))), by
                                   rw [K, pe_q_k (M := pe_eS (pe_eS m 4 (-1)) 6 0) (by omega) (by unfold pe_wk; omega) (by unfold pe_eCmd; (repeat (first | rw [if_pos (by omega)] | rw [if_neg (by omega)])); first | done | rfl)]
                                   exact pe_ra_Bs hA2 w2.1 hg⟩)
                            · skip
                              exfalso; omega
                          · skip
                            exfalso; omega
                        · skip
                          exfalso; omega
                      · skip
                        exfalso; omega
                · skip
                  exfalso; omega
              · skip
                exfalso; omega
            · skip
              refine pe_iload_n d_M_finish_74 rfl ?_
              refine pe_bipush d_M_finish_75 ?_
              refine pe_icmp_eq (t := 120) d_M_finish_77 (by first | exact hB _ _ | exact hB0 _ _ | exact hBt _ _ | exact ⟨by omega, by omega⟩) (by first | exact hB _ _ | exact hB0 _ _ | exact hBt _ _ | exact ⟨by omega, by omega⟩) (fun h77 => ?_) (fun h77 => ?_)
              · skip
                refine pe_iconst d_M_finish_120 ?_
                refine pe_goto (t := 125) d_M_finish_121 ?_
                refine pe_istore_n d_M_finish_125 ?_
                refine pe_iload_n d_M_finish_126 rfl ?_
                refine pe_if_ne (t := 131) d_M_finish_127 (by first | exact hB _ _ | exact hB0 _ _ | exact hBt _ _ | exact ⟨by omega, by omega⟩) (fun h127 => ?_) (fun h127 => ?_)
                · skip
                  refine pe_aload_n d_M_finish_131 rfl ?_
                  refine pe_iconst d_M_finish_132 ?_
                  refine pe_putiT f_M_20 g_11_6 d_M_finish_133 rfl rfl 6 rfl hB (by first | exact hB _ _ | exact hB0 _ _ | exact hBt _ _ | exact ⟨by omega, by omega⟩) (fun σ133 hB e133 o133 f133 => ?_)
                  try have u133_0 : σ133 29 1 = σ 29 1 := by first | exact o133 1 (by decide) | exact congrFun (f133 29 (by decide)) 1
                  try have u133_1 : σ133 29 2 = σ 29 2 := by first | exact o133 2 (by decide) | exact congrFun (f133 29 (by decide)) 2
                  try have u133_2 : σ133 29 3 = σ 29 3 := by first | exact o133 3 (by decide) | exact congrFun (f133 29 (by decide)) 3
                  try have u133_3 : σ133 29 5 = σ 29 5 := by first | exact o133 5 (by decide) | exact congrFun (f133 29 (by decide)) 5
                  try have u133_4 : σ133 29 6 = σ 29 6 := by first | exact o133 6 (by decide) | exact congrFun (f133 29 (by decide)) 6
                  try have u133_5 : σ133 29 7 = σ 29 7 := by first | exact o133 7 (by decide) | exact congrFun (f133 29 (by decide)) 7
                  try have u133_6 : σ133 29 19 = σ 29 19 := by first | exact o133 19 (by decide) | exact congrFun (f133 29 (by decide)) 19
                  try have u133_7 : σ133 29 21 = σ 29 21 := by first | exact o133 21 (by decide) | exact congrFun (f133 29 (by decide)) 21
                  try have u133_8 : σ133 29 14 = σ 29 14 := by first | exact o133 14 (by decide) | exact congrFun (f133 29 (by decide)) 14
                  have hA1 := pe_ra_gl hA (fun b hb => (f133 b (by rintro rfl; simp at hb))) (fun j hj => (o133 j (by rintro rfl; simp at hj))) e133
                  have hw1 := pe_wf_gl (z := -1) hw (by omega)
                  have g0 : pe_eS m 4 (-1) 0 0 = m 0 0 := rfl
                  have g1 : pe_eS m 4 (-1) 1 0 = m 1 0 := rfl
                  have g6 : pe_eS m 4 (-1) 6 0 = m 6 0 := rfl
                  have c2 : σ133 29 2 = m 1 0 := by omega
                  have c1 : σ133 29 1 = m 0 0 := by omega
                  refine pe_iload_n d_M_finish_136 rfl ?_
                  refine pe_bipush d_M_finish_137 ?_
                  refine pe_icmp_ne (t := 165) d_M_finish_139 (by first | exact hB _ _ | exact hB0 _ _ | exact hBt _ _ | exact ⟨by omega, by omega⟩) (by first | exact hB _ _ | exact hB0 _ _ | exact hBt _ _ | exact ⟨by omega, by omega⟩) (fun h139 => ?_) (fun h139 => ?_)
                  · skip
                    refine pe_iload_n d_M_finish_165 rfl ?_
                    refine pe_bipush d_M_finish_166 ?_
                    refine pe_icmp_ne (t := 190) d_M_finish_168 (by first | exact hB _ _ | exact hB0 _ _ | exact hBt _ _ | exact ⟨by omega, by omega⟩) (by first | exact hB _ _ | exact hB0 _ _ | exact hBt _ _ | exact ⟨by omega, by omega⟩) (fun h168 => ?_) (fun h168 => ?_)
                    · skip
                      refine pe_iload_n d_M_finish_190 rfl ?_
                      refine pe_bipush d_M_finish_191 ?_
                      refine pe_icmp_ne (t := 204) d_M_finish_193 (by first | exact hB _ _ | exact hB0 _ _ | exact hBt _ _ | exact ⟨by omega, by omega⟩) (by first | exact hB _ _ | exact hB0 _ _ | exact hBt _ _ | exact ⟨by omega, by omega⟩) (fun h193 => ?_) (fun h193 => ?_)
                      · skip
                        exfalso; omega
                      · skip
                        refine pe_aload_n d_M_finish_196 rfl ?_
                        refine pe_aload_n d_M_finish_197 rfl ?_
                        refine pe_v0p d_M_finish_198 c_M_174 i_M_lineBegin s_M_lineBegin rfl rfl (x_M_lineBegin hB (by omega) (by omega)) (fun z198 hz198 => ?_)
                        rw [c2, f133 30 (by decide)] at hz198
                        refine pe_putiT f_M_117 g_11_2 d_M_finish_201 rfl rfl 2 rfl hB (by first | exact hB _ _ | exact hB0 _ _ | exact hBt _ _ | exact ⟨by omega, by omega⟩) (fun σ201 hB e201 o201 f201 => ?_)
                        try have u201_0 : σ201 29 1 = σ133 29 1 := by first | exact o201 1 (by decide) | exact congrFun (f201 29 (by decide)) 1
                        try have u201_1 : σ201 29 2 = σ133 29 2 := by first | exact o201 2 (by decide) | exact congrFun (f201 29 (by decide)) 2
                        try have u201_2 : σ201 29 3 = σ133 29 3 := by first | exact o201 3 (by decide) | exact congrFun (f201 29 (by decide)) 3
                        try have u201_3 : σ201 29 5 = σ133 29 5 := by first | exact o201 5 (by decide) | exact congrFun (f201 29 (by decide)) 5
                        try have u201_4 : σ201 29 6 = σ133 29 6 := by first | exact o201 6 (by decide) | exact congrFun (f201 29 (by decide)) 6
                        try have u201_5 : σ201 29 7 = σ133 29 7 := by first | exact o201 7 (by decide) | exact congrFun (f201 29 (by decide)) 7
                        try have u201_6 : σ201 29 19 = σ133 29 19 := by first | exact o201 19 (by decide) | exact congrFun (f201 29 (by decide)) 19
                        try have u201_7 : σ201 29 21 = σ133 29 21 := by first | exact o201 21 (by decide) | exact congrFun (f201 29 (by decide)) 21
                        try have u201_8 : σ201 29 14 = σ133 29 14 := by first | exact o201 14 (by decide) | exact congrFun (f201 29 (by decide)) 14
                        refine pe_iload_n d_M_finish_204 rfl ?_
                        refine pe_bipush d_M_finish_205 ?_
                        refine pe_icmp_ne (t := 218) d_M_finish_207 (by first | exact hB _ _ | exact hB0 _ _ | exact hBt _ _ | exact ⟨by omega, by omega⟩) (by first | exact hB _ _ | exact hB0 _ _ | exact hBt _ _ | exact ⟨by omega, by omega⟩) (fun h207 => ?_) (fun h207 => ?_)
                        · skip
                          refine pe_iload_n d_M_finish_218 rfl ?_
                          refine pe_bipush d_M_finish_219 ?_
                          refine pe_icmp_ne (t := 259) d_M_finish_221 (by first | exact hB _ _ | exact hB0 _ _ | exact hBt _ _ | exact ⟨by omega, by omega⟩) (by first | exact hB _ _ | exact hB0 _ _ | exact hBt _ _ | exact ⟨by omega, by omega⟩) (fun h221 => ?_) (fun h221 => ?_)
                          · skip
                            refine pe_iload_n d_M_finish_259 rfl ?_
                            refine pe_bipush d_M_finish_260 ?_
                            refine pe_icmp_ne (t := 292) d_M_finish_262 (by first | exact hB _ _ | exact hB0 _ _ | exact hBt _ _ | exact ⟨by omega, by omega⟩) (by first | exact hB _ _ | exact hB0 _ _ | exact hBt _ _ | exact ⟨by omega, by omega⟩) (fun h262 => ?_) (fun h262 => ?_)
                            · skip
                              refine pe_rv d_M_finish_292 ?_
                              first
                              | (have K : (pe_kf (σ 29 14) b) = 65538 := (by unfold pe_kf; (repeat (first | rw [if_pos (by omega)] | rw [if_neg (by omega)])); first | done | rfl)
                                 have ZB := pe_bf_of (t' := m 8) A2 (by omega) (show m 1 0 + 1 ≤ z159 by omega) hz159.2.1 (fun j a c => hz159.2.2 j (by omega) c)
                                 have hA2 := pe_ra_cu hA1 (fun b hb => (f162 b (by rintro rfl; simp at hb))) (fun j hj => (o162 j (by rintro rfl; simp at hj))) e162
                                 have hb2 := (pe_bg_eq A2 (by omega)).mp hz159.2.1
                                 exact ⟨hB, (fun b hb => (f201 b (by simp at hb ⊢; try omega)).trans ((f133 b (by simp at hb ⊢; try omega)).trans (rfl))), (fun j hj => (o201 j (by simp at hj ⊢; try omega)).trans ((o133 j (by simp at hj ⊢; try omega)).trans (rfl))), by
                                   rw [K, pe_q_k (M := pe_eS (pe_eS m 4 (-1)) 1 (pe_bf (m 8) (m 0 0) (m 1 0 + 1))) (by omega) (by unfold pe_wk; omega) (by unfold pe_eCmd; (repeat (first | rw [if_pos (by omega)] | rw [if_neg (by omega)])); first | done | rfl)]
                                   rw [← ZB]; exact pe_ra_Bs hA2 (show 0 ≤ z159 by omega) hb2⟩)
                              | (have K : (pe_kf (σ 29 14) b) = 65538 := (by unfold pe_kf; (repeat (first | rw [if_pos (by omega)] | rw [if_neg (by omega)])); first | done | rfl)
                                 skip
                                 exact ⟨hB, (fun b hb => (f201 b (by simp at hb ⊢; try omega)).trans ((f133 b (by simp at hb ⊢; try omega)).trans (rfl))), (fun j hj => (o201 j (by simp at hj ⊢; try omega)).trans ((o133 j (by simp at hj ⊢; try omega)).trans (rfl))), by
                                   rw [K, pe_q_k (M := (pe_eS m 4 (-1))) (by omega) (by unfold pe_wk; omega) (by unfold pe_eCmd; (repeat (first | rw [if_pos (by omega)] | rw [if_neg (by omega)])); first | done | rfl)]
                                   exact pe_ra_Bs hA1 w2.1 hg⟩)
                              | (have K : (pe_kf (σ 29 14) b) = 65539 := (by unfold pe_kf; (repeat (first | rw [if_pos (by omega)] | rw [if_neg (by omega)])); first | done | rfl)
                                 have ZB := pe_ba_of (t' := m 8) A2 hz184.1 hz184.2.1 hz184.2.2
                                 have hA2 := pe_ra_cu hA1 (fun b hb => (f187 b (by rintro rfl; simp at hb))) (fun j hj => (o187 j (by rintro rfl; simp at hj))) e187
                                 have hb2 := (pe_bg_eq A2 (by omega)).mp hz184.2.1
                                 exact ⟨hB, (fun b hb => (f201 b (by simp at hb ⊢; try omega)).trans ((f133 b (by simp at hb ⊢; try omega)).trans (rfl))), (fun j hj => (o201 j (by simp at hj ⊢; try omega)).trans ((o133 j (by simp at hj ⊢; try omega)).trans (rfl))), by
                                   rw [K, pe_q_k (M := pe_eS (pe_eS m 4 (-1)) 1 (pe_ba (m 8) (m 0 0) (m 1 0))) (by omega) (by unfold pe_wk; omega) (by unfold pe_eCmd; (repeat (first | rw [if_pos (by omega)] | rw [if_neg (by omega)])); first | done | rfl)]
                                   rw [← ZB]; exact pe_ra_Bs hA2 (show 0 ≤ z184 by omega) hb2⟩)
                              | (have K : (pe_kf (σ 29 14) b) = 65539 := (by unfold pe_kf; (repeat (first | rw [if_pos (by omega)] | rw [if_neg (by omega)])); first | done | rfl)
                                 skip
                                 exact ⟨hB, (fun b hb => (f201 b (by simp at hb ⊢; try omega)).trans ((f133 b (by simp at hb ⊢; try omega)).trans (rfl))), (fun j hj => (o201 j (by simp at hj ⊢; try omega)).trans ((o133 j (by simp at hj ⊢; try omega)).trans (rfl))), by
                                   rw [K, pe_q_k (M := (pe_eS m 4 (-1))) (by omega) (by unfold pe_wk; omega) (by unfold pe_eCmd; (repeat (first | rw [if_pos (by omega)] | rw [if_neg (by omega)])); first | done | rfl)]
                                   exact pe_ra_Bs hA1 w2.1 hg⟩)
                              | (have K : (pe_kf (σ 29 14) b) = 65540 := (by unfold pe_kf; (repeat (first | rw [if_pos (by omega)] | rw [if_neg (by omega)])); first | done | rfl)
                                 have ZB := pe_lb_of (t' := m 8) A2 (by omega) hz198.1 hz198.2.1 hz198.2.2
                                 have hA2 := pe_ra_cu hA1 (fun b hb => (f201 b (by rintro rfl; simp at hb))) (fun j hj => (o201 j (by rintro rfl; simp at hj))) e201
                                 have hb1 : pe_bg (σ 30) (m 0 0) z198 := by unfold pe_bg; omega
                                 have hb2 := (pe_bg_eq A2 (by omega)).mp hb1
                                 exact ⟨hB, (fun b hb => (f201 b (by simp at hb ⊢; try omega)).trans ((f133 b (by simp at hb ⊢; try omega)).trans (rfl))), (fun j hj => (o201 j (by simp at hj ⊢; try omega)).trans ((o133 j (by simp at hj ⊢; try omega)).trans (rfl))), by
                                   rw [K, pe_q_k (M := pe_eS (pe_eS m 4 (-1)) 1 (pe_lb (m 8) (m 1 0))) (by omega) (by unfold pe_wk; omega) (by unfold pe_eCmd; (repeat (first | rw [if_pos (by omega)] | rw [if_neg (by omega)])); first | done | rfl)]
                                   rw [← ZB]; exact pe_ra_Bs hA2 (show 0 ≤ z198 by omega) hb2⟩)
                              | (have K : (pe_kf (σ 29 14) b) = 65541 := (by unfold pe_kf; (repeat (first | rw [if_pos (by omega)] | rw [if_neg (by omega)])); first | done | rfl)
                                 have ZB := pe_lz_of (t' := m 8) A2 (by omega) hz212.1 hz212.2.1 hz212.2.2
                                 have hA2 := pe_ra_cu hA1 (fun b hb => (f215 b (by rintro rfl; simp at hb))) (fun j hj => (o215 j (by rintro rfl; simp at hj))) e215
                                 have hb1 : pe_bg (σ 30) (m 0 0) z212 := by unfold pe_bg; omega
                                 have hb2 := (pe_bg_eq A2 (by omega)).mp hb1
                                 exact ⟨hB, (fun b hb => (f201 b (by simp at hb ⊢; try omega)).trans ((f133 b (by simp at hb ⊢; try omega)).trans (rfl))), (fun j hj => (o201 j (by simp at hj ⊢; try omega)).trans ((o133 j (by simp at hj ⊢; try omega)).trans (rfl))), by
                                   rw [K, pe_q_k (M := pe_eS (pe_eS m 4 (-1)) 1 (pe_lz (m 8) (m 0 0) (m 1 0))) (by omega) (by unfold pe_wk; omega) (by unfold pe_eCmd; (repeat (first | rw [if_pos (by omega)] | rw [if_neg (by omega)])); first | done | rfl)]
                                   rw [← ZB]; exact pe_ra_Bs hA2 (show 0 ≤ z212 by omega) hb2⟩)
                              | (have K : (pe_kf (σ 29 14) b) = 65542 := (by unfold pe_kf; (repeat (first | rw [if_pos (by omega)] | rw [if_neg (by omega)])); first | done | rfl)
                                 have ZB := pe_bf_of (t' := m 8) A2 (by omega) (show m 1 0 + 1 ≤ z253 by omega) hz253.2.1 (fun j a c => hz253.2.2 j (by omega) c)
                                 rw [c2, ZB] at x256
                                 exact ⟨hB, (fun b hb => (f201 b (by simp at hb ⊢; try omega)).trans ((f133 b (by simp at hb ⊢; try omega)).trans (rfl))), (fun j hj => (o201 j (by simp at hj ⊢; try omega)).trans ((o133 j (by simp at hj ⊢; try omega)).trans (rfl))), by
                                   rw [K, pe_q_k (M := pe_eDel (pe_eS m 4 (-1)) (m 1 0) (pe_bf (m 8) (m 0 0) (m 1 0 + 1))) (by omega) (by unfold pe_wk; omega) (by unfold pe_eCmd; (repeat (first | rw [if_pos (by omega)] | rw [if_neg (by omega)])); first | done | rfl)]
                                   exact x256⟩)
                              | (have K : (pe_kf (σ 29 14) b) = 65542 := (by unfold pe_kf; (repeat (first | rw [if_pos (by omega)] | rw [if_neg (by omega)])); first | done | rfl)
                                 skip
                                 exact ⟨hB, (fun b hb => (f201 b (by simp at hb ⊢; try omega)).trans ((f133 b (by simp at hb ⊢; try omega)).trans (rfl))), (fun j hj => (o201 j (by simp at hj ⊢; try omega)).trans ((o133 j (by simp at hj ⊢; try omega)).trans (rfl))), by
                                   rw [K, pe_q_k (M := (pe_eS m 4 (-1))) (by omega) (by unfold pe_wk; omega) (by unfold pe_eCmd; (repeat (first | rw [if_pos (by omega)] | rw [if_neg (by omega)])); first | done | rfl)]
                                   exact pe_ra_Bs hA1 w2.1 hg⟩)
                              | (have K : (pe_kf (σ 29 14) b) = 65543 := (by unfold pe_kf; (repeat (first | rw [if_pos (by omega)] | rw [if_neg (by omega)])); first | done | rfl)
                                 have hA2 := pe_ra_pa hA1 (fun b hb => (f289 b (by rintro rfl; simp at hb))) (fun j hj => (o289 j (by rintro rfl; simp at hj))) e289
                                 exact ⟨hB, (fun b hb => (f201 b (by simp at hb ⊢; try omega)).trans ((f133 b (by simp at hb ⊢; try omega)).trans (rfl))), (fun j hj => (o201 j (by simp at hj ⊢; try omega)).trans ((o133 j (by simp at hj ⊢; try omega)).trans (rfl))), by
                                   rw [K, pe_q_k (M := pe_eS (pe_eS m 4 (-1)) 6 1) (by omega) (by unfold pe_wk; omega) (by unfold pe_eCmd; (repeat (first | rw [if_pos (by omega)] | rw [if_neg (by omega)])); first | done | rfl)]
                                   exact pe_ra_Bs hA2 w2.1 hg⟩)
                              | (have K : (pe_kf (σ 29 14) b) = 65544 := (by unfold pe_kf; (repeat (first | rw [if_pos (by omega)] | rw [if_neg (by omega)])); first | done | rfl)
                                 have hA2 := pe_ra_pa hA1 (fun b hb => (f289 b (by rintro rfl; simp at hb))) (fun j hj => (o289 j (by rintro rfl; simp at hj))) e289
                                 exact ⟨hB, (fun b hb => (f201 b (by simp at hb ⊢; try omega)).trans ((f133 b (by simp at hb ⊢; try omega)).trans (rfl))), (fun j hj => (o201 j (by simp at hj ⊢; try omega)).trans ((o133 j (by simp at hj ⊢; try omega)).trans (rfl))), by
                                   rw [K, pe_q_k (M := pe_eS (pe_eS m 4 (-1)) 6 0) (by omega) (by unfold pe_wk; omega) (by unfold pe_eCmd; (repeat (first | rw [if_pos (by omega)] | rw [if_neg (by omega)])); first | done | rfl)]
                                   exact pe_ra_Bs hA2 w2.1 hg⟩)
                            · skip
                              exfalso; omega
                          · skip
                            exfalso; omega
                        · skip
                          exfalso; omega
                    · skip
                      exfalso; omega
                  · skip
                    exfalso; omega
                · skip
                  exfalso; omega
              · skip
                refine pe_iload_n d_M_finish_80 rfl ?_
                refine pe_bipush d_M_finish_81 ?_
                refine pe_icmp_eq (t := 120) d_M_finish_83 (by first | exact hB _ _ | exact hB0 _ _ | exact hBt _ _ | exact ⟨by omega, by omega⟩) (by first | exact hB _ _ | exact hB0 _ _ | exact hBt _ _ | exact ⟨by omega, by omega⟩) (fun h83 => ?_) (fun h83 => ?_)
                · skip
                  refine pe_iconst d_M_finish_120 ?_
                  refine pe_goto (t := 125) d_M_finish_121 ?_
                  refine pe_istore_n d_M_finish_125 ?_
                  refine pe_iload_n d_M_finish_126 rfl ?_
                  refine pe_if_ne (t := 131) d_M_finish_127 (by first | exact hB _ _ | exact hB0 _ _ | exact hBt _ _ | exact ⟨by omega, by omega⟩) (fun h127 => ?_) (fun h127 => ?_)
                  · skip
                    refine pe_aload_n d_M_finish_131 rfl ?_
                    refine pe_iconst d_M_finish_132 ?_
                    refine pe_putiT f_M_20 g_11_6 d_M_finish_133 rfl rfl 6 rfl hB (by first | exact hB _ _ | exact hB0 _ _ | exact hBt _ _ | exact ⟨by omega, by omega⟩) (fun σ133 hB e133 o133 f133 => ?_)
                    try have u133_0 : σ133 29 1 = σ 29 1 := by first | exact o133 1 (by decide) | exact congrFun (f133 29 (by decide)) 1
                    try have u133_1 : σ133 29 2 = σ 29 2 := by first | exact o133 2 (by decide) | exact congrFun (f133 29 (by decide)) 2
                    try have u133_2 : σ133 29 3 = σ 29 3 := by first | exact o133 3 (by decide) | exact congrFun (f133 29 (by decide)) 3
                    try have u133_3 : σ133 29 5 = σ 29 5 := by first | exact o133 5 (by decide) | exact congrFun (f133 29 (by decide)) 5
                    try have u133_4 : σ133 29 6 = σ 29 6 := by first | exact o133 6 (by decide) | exact congrFun (f133 29 (by decide)) 6
                    try have u133_5 : σ133 29 7 = σ 29 7 := by first | exact o133 7 (by decide) | exact congrFun (f133 29 (by decide)) 7
                    try have u133_6 : σ133 29 19 = σ 29 19 := by first | exact o133 19 (by decide) | exact congrFun (f133 29 (by decide)) 19
                    try have u133_7 : σ133 29 21 = σ 29 21 := by first | exact o133 21 (by decide) | exact congrFun (f133 29 (by decide)) 21
                    try have u133_8 : σ133 29 14 = σ 29 14 := by first | exact o133 14 (by decide) | exact congrFun (f133 29 (by decide)) 14
                    have hA1 := pe_ra_gl hA (fun b hb => (f133 b (by rintro rfl; simp at hb))) (fun j hj => (o133 j (by rintro rfl; simp at hj))) e133
                    have hw1 := pe_wf_gl (z := -1) hw (by omega)
                    have g0 : pe_eS m 4 (-1) 0 0 = m 0 0 := rfl
                    have g1 : pe_eS m 4 (-1) 1 0 = m 1 0 := rfl
                    have g6 : pe_eS m 4 (-1) 6 0 = m 6 0 := rfl
                    have c2 : σ133 29 2 = m 1 0 := by omega
                    have c1 : σ133 29 1 = m 0 0 := by omega
                    refine pe_iload_n d_M_finish_136 rfl ?_
                    refine pe_bipush d_M_finish_137 ?_
                    refine pe_icmp_ne (t := 165) d_M_finish_139 (by first | exact hB _ _ | exact hB0 _ _ | exact hBt _ _ | exact ⟨by omega, by omega⟩) (by first | exact hB _ _ | exact hB0 _ _ | exact hBt _ _ | exact ⟨by omega, by omega⟩) (fun h139 => ?_) (fun h139 => ?_)
                    · skip
                      refine pe_iload_n d_M_finish_165 rfl ?_
                      refine pe_bipush d_M_finish_166 ?_
                      refine pe_icmp_ne (t := 190) d_M_finish_168 (by first | exact hB _ _ | exact hB0 _ _ | exact hBt _ _ | exact ⟨by omega, by omega⟩) (by first | exact hB _ _ | exact hB0 _ _ | exact hBt _ _ | exact ⟨by omega, by omega⟩) (fun h168 => ?_) (fun h168 => ?_)
                      · skip
                        refine pe_iload_n d_M_finish_190 rfl ?_
                        refine pe_bipush d_M_finish_191 ?_
                        refine pe_icmp_ne (t := 204) d_M_finish_193 (by first | exact hB _ _ | exact hB0 _ _ | exact hBt _ _ | exact ⟨by omega, by omega⟩) (by first | exact hB _ _ | exact hB0 _ _ | exact hBt _ _ | exact ⟨by omega, by omega⟩) (fun h193 => ?_) (fun h193 => ?_)
                        · skip
                          refine pe_iload_n d_M_finish_204 rfl ?_
                          refine pe_bipush d_M_finish_205 ?_
                          refine pe_icmp_ne (t := 218) d_M_finish_207 (by first | exact hB _ _ | exact hB0 _ _ | exact hBt _ _ | exact ⟨by omega, by omega⟩) (by first | exact hB _ _ | exact hB0 _ _ | exact hBt _ _ | exact ⟨by omega, by omega⟩) (fun h207 => ?_) (fun h207 => ?_)
                          · skip
                            exfalso; omega
                          · skip
                            refine pe_aload_n d_M_finish_210 rfl ?_
                            refine pe_aload_n d_M_finish_211 rfl ?_
                            refine pe_v0p d_M_finish_212 c_M_178 i_M_lineEnd s_M_lineEnd rfl rfl (x_M_lineEnd hB (by omega) (by omega)) (fun z212 hz212 => ?_)
                            rw [c2, c1, f133 30 (by decide)] at hz212
                            refine pe_putiT f_M_117 g_11_2 d_M_finish_215 rfl rfl 2 rfl hB (by first | exact hB _ _ | exact hB0 _ _ | exact hBt _ _ | exact ⟨by omega, by omega⟩) (fun σ215 hB e215 o215 f215 => ?_)
                            try have u215_0 : σ215 29 1 = σ133 29 1 := by first | exact o215 1 (by decide) | exact congrFun (f215 29 (by decide)) 1
                            try have u215_1 : σ215 29 2 = σ133 29 2 := by first | exact o215 2 (by decide) | exact congrFun (f215 29 (by decide)) 2
                            try have u215_2 : σ215 29 3 = σ133 29 3 := by first | exact o215 3 (by decide) | exact congrFun (f215 29 (by decide)) 3
                            try have u215_3 : σ215 29 5 = σ133 29 5 := by first | exact o215 5 (by decide) | exact congrFun (f215 29 (by decide)) 5
                            try have u215_4 : σ215 29 6 = σ133 29 6 := by first | exact o215 6 (by decide) | exact congrFun (f215 29 (by decide)) 6
                            try have u215_5 : σ215 29 7 = σ133 29 7 := by first | exact o215 7 (by decide) | exact congrFun (f215 29 (by decide)) 7
                            try have u215_6 : σ215 29 19 = σ133 29 19 := by first | exact o215 19 (by decide) | exact congrFun (f215 29 (by decide)) 19
                            try have u215_7 : σ215 29 21 = σ133 29 21 := by first | exact o215 21 (by decide) | exact congrFun (f215 29 (by decide)) 21
                            try have u215_8 : σ215 29 14 = σ133 29 14 := by first | exact o215 14 (by decide) | exact congrFun (f215 29 (by decide)) 14
                            refine pe_iload_n d_M_finish_218 rfl ?_
                            refine pe_bipush d_M_finish_219 ?_
                            refine pe_icmp_ne (t := 259) d_M_finish_221 (by first | exact hB _ _ | exact hB0 _ _ | exact hBt _ _ | exact ⟨by omega, by omega⟩) (by first | exact hB _ _ | exact hB0 _ _ | exact hBt _ _ | exact ⟨by omega, by omega⟩) (fun h221 => ?_) (fun h221 => ?_)
                            · skip
                              refine pe_iload_n d_M_finish_259 rfl ?_
                              refine pe_bipush d_M_finish_260 ?_
                              refine pe_icmp_ne (t := 292) d_M_finish_262 (by first | exact hB _ _ | exact hB0 _ _ | exact hBt _ _ | exact ⟨by omega, by omega⟩) (by first | exact hB _ _ | exact hB0 _ _ | exact hBt _ _ | exact ⟨by omega, by omega⟩) (fun h262 => ?_) (fun h262 => ?_)
                              · skip
                                refine pe_rv d_M_finish_292 ?_
                                first
                                | (have K : (pe_kf (σ 29 14) b) = 65538 := (by unfold pe_kf; (repeat (first | rw [if_pos (by omega)] | rw [if_neg (by omega)])); first | done | rfl)
                                   have ZB := pe_bf_of (t' := m 8) A2 (by omega) (show m 1 0 + 1 ≤ z159 by omega) hz159.2.1 (fun j a c => hz159.2.2 j (by omega) c)
                                   have hA2 := pe_ra_cu hA1 (fun b hb => (f162 b (by rintro rfl; simp at hb))) (fun j hj => (o162 j (by rintro rfl; simp at hj))) e162
                                   have hb2 := (pe_bg_eq A2 (by omega)).mp hz159.2.1
                                   exact ⟨hB, (fun b hb => (f215 b (by simp at hb ⊢; try omega)).trans ((f133 b (by simp at hb ⊢; try omega)).trans (rfl))), (fun j hj => (o215 j (by simp at hj ⊢; try omega)).trans ((o133 j (by simp at hj ⊢; try omega)).trans (rfl))), by
                                     rw [K, pe_q_k (M := pe_eS (pe_eS m 4 (-1)) 1 (pe_bf (m 8) (m 0 0) (m 1 0 + 1))) (by omega) (by unfold pe_wk; omega) (by unfold pe_eCmd; (repeat (first | rw [if_pos (by omega)] | rw [if_neg (by omega)])); first | done | rfl)]
                                     rw [← ZB]; exact pe_ra_Bs hA2 (show 0 ≤ z159 by omega) hb2⟩)
                                | (have K : (pe_kf (σ 29 14) b) = 65538 := (by unfold pe_kf; (repeat (first | rw [if_pos (by omega)] | rw [if_neg (by omega)])); first | done | rfl)
                                   skip
                                   exact ⟨hB, (fun b hb => (f215 b (by simp at hb ⊢; try omega)).trans ((f133 b (by simp at hb ⊢; try omega)).trans (rfl))), (fun j hj => (o215 j (by simp at hj ⊢; try omega)).trans ((o133 j (by simp at hj ⊢; try omega)).trans (rfl))), by
                                     rw [K, pe_q_k (M := (pe_eS m 4 (-1))) (by omega) (by unfold pe_wk; omega) (by unfold pe_eCmd; (repeat (first | rw [if_pos (by omega)] | rw [if_neg (by omega)])); first | done | rfl)]
                                     exact pe_ra_Bs hA1 w2.1 hg⟩)
                                | (have K : (pe_kf (σ 29 14) b) = 65539 := (by unfold pe_kf; (repeat (first | rw [if_pos (by omega)] | rw [if_neg (by omega)])); first | done | rfl)
                                   have ZB := pe_ba_of (t' := m 8) A2 hz184.1 hz184.2.1 hz184.2.2
                                   have hA2 := pe_ra_cu hA1 (fun b hb => (f187 b (by rintro rfl; simp at hb))) (fun j hj => (o187 j (by rintro rfl; simp at hj))) e187
                                   have hb2 := (pe_bg_eq A2 (by omega)).mp hz184.2.1
                                   exact ⟨hB, (fun b hb => (f215 b (by simp at hb ⊢; try omega)).trans ((f133 b (by simp at hb ⊢; try omega)).trans (rfl))), (fun j hj => (o215 j (by simp at hj ⊢; try omega)).trans ((o133 j (by simp at hj ⊢; try omega)).trans (rfl))), by
                                     rw [K, pe_q_k (M := pe_eS (pe_eS m 4 (-1)) 1 (pe_ba (m 8) (m 0 0) (m 1 0))) (by omega) (by unfold pe_wk; omega) (by unfold pe_eCmd; (repeat (first | rw [if_pos (by omega)] | rw [if_neg (by omega)])); first | done | rfl)]
                                     rw [← ZB]; exact pe_ra_Bs hA2 (show 0 ≤ z184 by omega) hb2⟩)
                                | (have K : (pe_kf (σ 29 14) b) = 65539 := (by unfold pe_kf; (repeat (first | rw [if_pos (by omega)] | rw [if_neg (by omega)])); first | done | rfl)
                                   skip
                                   exact ⟨hB, (fun b hb => (f215 b (by simp at hb ⊢; try omega)).trans ((f133 b (by simp at hb ⊢; try omega)).trans (rfl))), (fun j hj => (o215 j (by simp at hj ⊢; try omega)).trans ((o133 j (by simp at hj ⊢; try omega)).trans (rfl))), by
                                     rw [K, pe_q_k (M := (pe_eS m 4 (-1))) (by omega) (by unfold pe_wk; omega) (by unfold pe_eCmd; (repeat (first | rw [if_pos (by omega)] | rw [if_neg (by omega)])); first | done | rfl)]
                                     exact pe_ra_Bs hA1 w2.1 hg⟩)
                                | (have K : (pe_kf (σ 29 14) b) = 65540 := (by unfold pe_kf; (repeat (first | rw [if_pos (by omega)] | rw [if_neg (by omega)])); first | done | rfl)
                                   have ZB := pe_lb_of (t' := m 8) A2 (by omega) hz198.1 hz198.2.1 hz198.2.2
                                   have hA2 := pe_ra_cu hA1 (fun b hb => (f201 b (by rintro rfl; simp at hb))) (fun j hj => (o201 j (by rintro rfl; simp at hj))) e201
                                   have hb1 : pe_bg (σ 30) (m 0 0) z198 := by unfold pe_bg; omega
                                   have hb2 := (pe_bg_eq A2 (by omega)).mp hb1
                                   exact ⟨hB, (fun b hb => (f215 b (by simp at hb ⊢; try omega)).trans ((f133 b (by simp at hb ⊢; try omega)).trans (rfl))), (fun j hj => (o215 j (by simp at hj ⊢; try omega)).trans ((o133 j (by simp at hj ⊢; try omega)).trans (rfl))), by
                                     rw [K, pe_q_k (M := pe_eS (pe_eS m 4 (-1)) 1 (pe_lb (m 8) (m 1 0))) (by omega) (by unfold pe_wk; omega) (by unfold pe_eCmd; (repeat (first | rw [if_pos (by omega)] | rw [if_neg (by omega)])); first | done | rfl)]
                                     rw [← ZB]; exact pe_ra_Bs hA2 (show 0 ≤ z198 by omega) hb2⟩)
                                | (have K : (pe_kf (σ 29 14) b) = 65541 := (by unfold pe_kf; (repeat (first | rw [if_pos (by omega)] | rw [if_neg (by omega)])); first | done | rfl)
                                   have ZB := pe_lz_of (t' := m 8) A2 (by omega) hz212.1 hz212.2.1 hz212.2.2
                                   have hA2 := pe_ra_cu hA1 (fun b hb => (f215 b (by rintro rfl; simp at hb))) (fun j hj => (o215 j (by rintro rfl; simp at hj))) e215
                                   have hb1 : pe_bg (σ 30) (m 0 0) z212 := by unfold pe_bg; omega
                                   have hb2 := (pe_bg_eq A2 (by omega)).mp hb1
                                   exact ⟨hB, (fun b hb => (f215 b (by simp at hb ⊢; try omega)).trans ((f133 b (by simp at hb ⊢; try omega)).trans (rfl))), (fun j hj => (o215 j (by simp at hj ⊢; try omega)).trans ((o133 j (by simp at hj ⊢; try omega)).trans (rfl))), by
                                     rw [K, pe_q_k (M := pe_eS (pe_eS m 4 (-1)) 1 (pe_lz (m 8) (m 0 0) (m 1 0))) (by omega) (by unfold pe_wk; omega) (by unfold pe_eCmd; (repeat (first | rw [if_pos (by omega)] | rw [if_neg (by omega)])); first | done | rfl)]
                                     rw [← ZB]; exact pe_ra_Bs hA2 (show 0 ≤ z212 by omega) hb2⟩)
                                | (have K : (pe_kf (σ 29 14) b) = 65542 := (by unfold pe_kf; (repeat (first | rw [if_pos (by omega)] | rw [if_neg (by omega)])); first | done | rfl)
                                   have ZB := pe_bf_of (t' := m 8) A2 (by omega) (show m 1 0 + 1 ≤ z253 by omega) hz253.2.1 (fun j a c => hz253.2.2 j (by omega) c)
                                   rw [c2, ZB] at x256
                                   exact ⟨hB, (fun b hb => (f215 b (by simp at hb ⊢; try omega)).trans ((f133 b (by simp at hb ⊢; try omega)).trans (rfl))), (fun j hj => (o215 j (by simp at hj ⊢; try omega)).trans ((o133 j (by simp at hj ⊢; try omega)).trans (rfl))), by
                                     rw [K, pe_q_k (M := pe_eDel (pe_eS m 4 (-1)) (m 1 0) (pe_bf (m 8) (m 0 0) (m 1 0 + 1))) (by omega) (by unfold pe_wk; omega) (by unfold pe_eCmd; (repeat (first | rw [if_pos (by omega)] | rw [if_neg (by omega)])); first | done | rfl)]
                                     exact x256⟩)
                                | (have K : (pe_kf (σ 29 14) b) = 65542 := (by unfold pe_kf; (repeat (first | rw [if_pos (by omega)] | rw [if_neg (by omega)])); first | done | rfl)
                                   skip
                                   exact ⟨hB, (fun b hb => (f215 b (by simp at hb ⊢; try omega)).trans ((f133 b (by simp at hb ⊢; try omega)).trans (rfl))), (fun j hj => (o215 j (by simp at hj ⊢; try omega)).trans ((o133 j (by simp at hj ⊢; try omega)).trans (rfl))), by
                                     rw [K, pe_q_k (M := (pe_eS m 4 (-1))) (by omega) (by unfold pe_wk; omega) (by unfold pe_eCmd; (repeat (first | rw [if_pos (by omega)] | rw [if_neg (by omega)])); first | done | rfl)]
                                     exact pe_ra_Bs hA1 w2.1 hg⟩)
                                | (have K : (pe_kf (σ 29 14) b) = 65543 := (by unfold pe_kf; (repeat (first | rw [if_pos (by omega)] | rw [if_neg (by omega)])); first | done | rfl)
                                   have hA2 := pe_ra_pa hA1 (fun b hb => (f289 b (by rintro rfl; simp at hb))) (fun j hj => (o289 j (by rintro rfl; simp at hj))) e289
                                   exact ⟨hB, (fun b hb => (f215 b (by simp at hb ⊢; try omega)).trans ((f133 b (by simp at hb ⊢; try omega)).trans (rfl))), (fun j hj => (o215 j (by simp at hj ⊢; try omega)).trans ((o133 j (by simp at hj ⊢; try omega)).trans (rfl))), by
                                     rw [K, pe_q_k (M := pe_eS (pe_eS m 4 (-1)) 6 1) (by omega) (by unfold pe_wk; omega) (by unfold pe_eCmd; (repeat (first | rw [if_pos (by omega)] | rw [if_neg (by omega)])); first | done | rfl)]
                                     exact pe_ra_Bs hA2 w2.1 hg⟩)
                                | (have K : (pe_kf (σ 29 14) b) = 65544 := (by unfold pe_kf; (repeat (first | rw [if_pos (by omega)] | rw [if_neg (by omega)])); first | done | rfl)
                                   have hA2 := pe_ra_pa hA1 (fun b hb => (f289 b (by rintro rfl; simp at hb))) (fun j hj => (o289 j (by rintro rfl; simp at hj))) e289
                                   exact ⟨hB, (fun b hb => (f215 b (by simp at hb ⊢; try omega)).trans ((f133 b (by simp at hb ⊢; try omega)).trans (rfl))), (fun j hj => (o215 j (by simp at hj ⊢; try omega)).trans ((o133 j (by simp at hj ⊢; try omega)).trans (rfl))), by
                                     rw [K, pe_q_k (M := pe_eS (pe_eS m 4 (-1)) 6 0) (by omega) (by unfold pe_wk; omega) (by unfold pe_eCmd; (repeat (first | rw [if_pos (by omega)] | rw [if_neg (by omega)])); first | done | rfl)]
                                     exact pe_ra_Bs hA2 w2.1 hg⟩)
                              · skip
                                exfalso; omega
                            · skip
                              exfalso; omega
                        · skip
                          exfalso; omega
                      · skip
                        exfalso; omega
                    · skip
                      exfalso; omega
                  · skip
                    exfalso; omega
                · skip
                  refine pe_iload_n d_M_finish_86 rfl ?_
                  refine pe_bipush d_M_finish_87 ?_
                  refine pe_icmp_ne (t := 124) d_M_finish_89 (by first | exact hB _ _ | exact hB0 _ _ | exact hBt _ _ | exact ⟨by omega, by omega⟩) (by first | exact hB _ _ | exact hB0 _ _ | exact hBt _ _ | exact ⟨by omega, by omega⟩) (fun h89 => ?_) (fun h89 => ?_)
                  · skip
                    refine pe_iconst d_M_finish_124 ?_
                    refine pe_istore_n d_M_finish_125 ?_
                    refine pe_iload_n d_M_finish_126 rfl ?_
                    refine pe_if_ne (t := 131) d_M_finish_127 (by first | exact hB _ _ | exact hB0 _ _ | exact hBt _ _ | exact ⟨by omega, by omega⟩) (fun h127 => ?_) (fun h127 => ?_)
                    · skip
                      exfalso; omega
                    · skip
                      refine pe_rv d_M_finish_130 ?_
                      exact ⟨hB, (fun b hb => rfl), (fun j hj => rfl), by rw [show (pe_kf (σ 29 14) b) = -1 from (by unfold pe_kf; (repeat (first | rw [if_pos (by omega)] | rw [if_neg (by omega)])); first | done | rfl), pe_q_n1]; exact hA⟩
                  · skip
                    exfalso; omega
        · skip
          refine pe_aload_n d_M_finish_46 rfl ?_
          refine pe_iload_n d_M_finish_47 rfl ?_
          refine pe_bipush d_M_finish_48 ?_
          refine pe_icmp_ne (t := 57) d_M_finish_50 (by first | exact hB _ _ | exact hB0 _ _ | exact hBt _ _ | exact ⟨by omega, by omega⟩) (by first | exact hB _ _ | exact hB0 _ _ | exact hBt _ _ | exact ⟨by omega, by omega⟩) (fun h50 => ?_) (fun h50 => ?_)
          · skip
            refine pe_iconst d_M_finish_57 ?_
            refine pe_v1v d_M_finish_58 c_M_171 i_M_upOrDown s_M_upOrDown rfl rfl (x_M_upOrDown hB hA hw hk hg (by omega)) (fun σ58 hz58 => ?_)
            obtain ⟨hB, f58, o58, x58⟩ := hz58
            try have u58_0 : σ58 29 1 = σ 29 1 := by first | exact o58 1 (by decide) | exact congrFun (f58 29 (by decide)) 1
            try have u58_1 : σ58 29 2 = σ 29 2 := by first | exact o58 2 (by decide) | exact congrFun (f58 29 (by decide)) 2
            try have u58_2 : σ58 29 3 = σ 29 3 := by first | exact o58 3 (by decide) | exact congrFun (f58 29 (by decide)) 3
            try have u58_3 : σ58 29 5 = σ 29 5 := by first | exact o58 5 (by decide) | exact congrFun (f58 29 (by decide)) 5
            try have u58_4 : σ58 29 6 = σ 29 6 := by first | exact o58 6 (by decide) | exact congrFun (f58 29 (by decide)) 6
            try have u58_5 : σ58 29 7 = σ 29 7 := by first | exact o58 7 (by decide) | exact congrFun (f58 29 (by decide)) 7
            try have u58_6 : σ58 29 19 = σ 29 19 := by first | exact o58 19 (by decide) | exact congrFun (f58 29 (by decide)) 19
            try have u58_7 : σ58 29 21 = σ 29 21 := by first | exact o58 21 (by decide) | exact congrFun (f58 29 (by decide)) 21
            try have u58_8 : σ58 29 14 = σ 29 14 := by first | exact o58 14 (by decide) | exact congrFun (f58 29 (by decide)) 14
            have xx : pe_ra (pe_ePq m (pe_kf (σ 29 14) b)) σ58 := by
              first
              | (rw [show (pe_kf (σ 29 14) b) = 65536 from (by unfold pe_kf; (repeat (first | rw [if_pos (by omega)] | rw [if_neg (by omega)])); first | done | rfl), pe_q_up m (by omega), if_pos (by omega), if_pos rfl]; exact x58)
              | (rw [show (pe_kf (σ 29 14) b) = 65537 from (by unfold pe_kf; (repeat (first | rw [if_pos (by omega)] | rw [if_neg (by omega)])); first | done | rfl), pe_q_up m (by omega), if_pos (by omega), if_neg (by omega)]; exact x58)
            refine pe_rv d_M_finish_61 ?_
            exact ⟨hB, (fun b hb => (f58 b (by simp at hb ⊢; try omega)).trans (rfl)), (fun j hj => (o58 j (by simp at hj ⊢; try omega)).trans (rfl)), xx⟩
          · skip
            exfalso; omega
    · skip
      refine pe_iload_n d_M_finish_29 rfl ?_
      refine pe_if_ne (t := 34) d_M_finish_30 (by first | exact hB _ _ | exact hB0 _ _ | exact hBt _ _ | exact ⟨by omega, by omega⟩) (fun h30 => ?_) (fun h30 => ?_)
      · skip
        exfalso; omega
      · skip
        refine pe_rv d_M_finish_33 ?_
        exact ⟨hB, (fun b hb => rfl), (fun j hj => rfl), by
          have R := pe_kf_r (σ 29 14) b
          rw [pe_q_ps (by omega) (by omega)]; exact hA⟩
  · skip
    refine pe_aload_n d_M_finish_6 rfl ?_
    refine pe_geti f_M_168 d_M_finish_7 rfl rfl 14 rfl ?_
    refine pe_sipush d_M_finish_10 ?_
    refine pe_icmp_ne (t := 20) d_M_finish_13 (by first | exact hB _ _ | exact hB0 _ _ | exact hBt _ _ | exact ⟨by omega, by omega⟩) (by first | exact hB _ _ | exact hB0 _ _ | exact hBt _ _ | exact ⟨by omega, by omega⟩) (fun h13 => ?_) (fun h13 => ?_)
    · skip
      refine pe_iconst d_M_finish_20 ?_
      refine pe_istore_n d_M_finish_21 ?_
      refine pe_aload_n d_M_finish_22 rfl ?_
      refine pe_geti f_M_147 d_M_finish_23 rfl rfl 19 rfl ?_
      refine pe_if_eq (t := 34) d_M_finish_26 (by first | exact hB _ _ | exact hB0 _ _ | exact hBt _ _ | exact ⟨by omega, by omega⟩) (fun h26 => ?_) (fun h26 => ?_)
      · skip
        refine pe_iload_n d_M_finish_34 rfl ?_
        refine pe_bipush d_M_finish_35 ?_
        refine pe_icmp_eq (t := 46) d_M_finish_37 (by first | exact hB _ _ | exact hB0 _ _ | exact hBt _ _ | exact ⟨by omega, by omega⟩) (by first | exact hB _ _ | exact hB0 _ _ | exact hBt _ _ | exact ⟨by omega, by omega⟩) (fun h37 => ?_) (fun h37 => ?_)
        · skip
          exfalso; omega
        · skip
          refine pe_iload_n d_M_finish_40 rfl ?_
          refine pe_bipush d_M_finish_41 ?_
          refine pe_icmp_ne (t := 62) d_M_finish_43 (by first | exact hB _ _ | exact hB0 _ _ | exact hBt _ _ | exact ⟨by omega, by omega⟩) (by first | exact hB _ _ | exact hB0 _ _ | exact hBt _ _ | exact ⟨by omega, by omega⟩) (fun h43 => ?_) (fun h43 => ?_)
          · skip
            refine pe_iload_n d_M_finish_62 rfl ?_
            refine pe_bipush d_M_finish_63 ?_
            refine pe_icmp_eq (t := 120) d_M_finish_65 (by first | exact hB _ _ | exact hB0 _ _ | exact hBt _ _ | exact ⟨by omega, by omega⟩) (by first | exact hB _ _ | exact hB0 _ _ | exact hBt _ _ | exact ⟨by omega, by omega⟩) (fun h65 => ?_) (fun h65 => ?_)
            · skip
              exfalso; omega
            · skip
              refine pe_iload_n d_M_finish_68 rfl ?_
              refine pe_bipush d_M_finish_69 ?_
              refine pe_icmp_eq (t := 120) d_M_finish_71 (by first | exact hB _ _ | exact hB0 _ _ | exact hBt _ _ | exact ⟨by omega, by omega⟩) (by first | exact hB _ _ | exact hB0 _ _ | exact hBt _ _ | exact ⟨by omega, by omega⟩) (fun h71 => ?_) (fun h71 => ?_)
              · skip
                exfalso; omega
              · skip
                refine pe_iload_n d_M_finish_74 rfl ?_
                refine pe_bipush d_M_finish_75 ?_
                refine pe_icmp_eq (t := 120) d_M_finish_77 (by first | exact hB _ _ | exact hB0 _ _ | exact hBt _ _ | exact ⟨by omega, by omega⟩) (by first | exact hB _ _ | exact hB0 _ _ | exact hBt _ _ | exact ⟨by omega, by omega⟩) (fun h77 => ?_) (fun h77 => ?_)
                · skip
                  exfalso; omega
                · skip
                  refine pe_iload_n d_M_finish_80 rfl ?_
                  refine pe_bipush d_M_finish_81 ?_
                  refine pe_icmp_eq (t := 120) d_M_finish_83 (by first | exact hB _ _ | exact hB0 _ _ | exact hBt _ _ | exact ⟨by omega, by omega⟩) (by first | exact hB _ _ | exact hB0 _ _ | exact hBt _ _ | exact ⟨by omega, by omega⟩) (fun h83 => ?_) (fun h83 => ?_)
                  · skip
                    exfalso; omega
                  · skip
                    refine pe_iload_n d_M_finish_86 rfl ?_
                    refine pe_bipush d_M_finish_87 ?_
                    refine pe_icmp_ne (t := 124) d_M_finish_89 (by first | exact hB _ _ | exact hB0 _ _ | exact hBt _ _ | exact ⟨by omega, by omega⟩) (by first | exact hB _ _ | exact hB0 _ _ | exact hBt _ _ | exact ⟨by omega, by omega⟩) (fun h89 => ?_) (fun h89 => ?_)
                    · skip
                      exfalso; omega
                    · skip
                      refine pe_aload_n d_M_finish_92 rfl ?_
                      refine pe_geti f_M_168 d_M_finish_93 rfl rfl 14 rfl ?_
                      refine pe_iconst d_M_finish_96 ?_
                      refine pe_icmp_eq (t := 120) d_M_finish_97 (by first | exact hB _ _ | exact hB0 _ _ | exact hBt _ _ | exact ⟨by omega, by omega⟩) (by first | exact hB _ _ | exact hB0 _ _ | exact hBt _ _ | exact ⟨by omega, by omega⟩) (fun h97 => ?_) (fun h97 => ?_)
                      · skip
                        refine pe_iconst d_M_finish_120 ?_
                        refine pe_goto (t := 125) d_M_finish_121 ?_
                        refine pe_istore_n d_M_finish_125 ?_
                        refine pe_iload_n d_M_finish_126 rfl ?_
                        refine pe_if_ne (t := 131) d_M_finish_127 (by first | exact hB _ _ | exact hB0 _ _ | exact hBt _ _ | exact ⟨by omega, by omega⟩) (fun h127 => ?_) (fun h127 => ?_)
                        · skip
                          refine pe_aload_n d_M_finish_131 rfl ?_
                          refine pe_iconst d_M_finish_132 ?_
                          refine pe_putiT f_M_20 g_11_6 d_M_finish_133 rfl rfl 6 rfl hB (by first | exact hB _ _ | exact hB0 _ _ | exact hBt _ _ | exact ⟨by omega, by omega⟩) (fun σ133 hB e133 o133 f133 => ?_)
                          try have u133_0 : σ133 29 1 = σ 29 1 := by first | exact o133 1 (by decide) | exact congrFun (f133 29 (by decide)) 1
                          try have u133_1 : σ133 29 2 = σ 29 2 := by first | exact o133 2 (by decide) | exact congrFun (f133 29 (by decide)) 2
                          try have u133_2 : σ133 29 3 = σ 29 3 := by first | exact o133 3 (by decide) | exact congrFun (f133 29 (by decide)) 3
                          try have u133_3 : σ133 29 5 = σ 29 5 := by first | exact o133 5 (by decide) | exact congrFun (f133 29 (by decide)) 5
                          try have u133_4 : σ133 29 6 = σ 29 6 := by first | exact o133 6 (by decide) | exact congrFun (f133 29 (by decide)) 6
                          try have u133_5 : σ133 29 7 = σ 29 7 := by first | exact o133 7 (by decide) | exact congrFun (f133 29 (by decide)) 7
                          try have u133_6 : σ133 29 19 = σ 29 19 := by first | exact o133 19 (by decide) | exact congrFun (f133 29 (by decide)) 19
                          try have u133_7 : σ133 29 21 = σ 29 21 := by first | exact o133 21 (by decide) | exact congrFun (f133 29 (by decide)) 21
                          try have u133_8 : σ133 29 14 = σ 29 14 := by first | exact o133 14 (by decide) | exact congrFun (f133 29 (by decide)) 14
                          have hA1 := pe_ra_gl hA (fun b hb => (f133 b (by rintro rfl; simp at hb))) (fun j hj => (o133 j (by rintro rfl; simp at hj))) e133
                          have hw1 := pe_wf_gl (z := -1) hw (by omega)
                          have g0 : pe_eS m 4 (-1) 0 0 = m 0 0 := rfl
                          have g1 : pe_eS m 4 (-1) 1 0 = m 1 0 := rfl
                          have g6 : pe_eS m 4 (-1) 6 0 = m 6 0 := rfl
                          have c2 : σ133 29 2 = m 1 0 := by omega
                          have c1 : σ133 29 1 = m 0 0 := by omega
                          refine pe_iload_n d_M_finish_136 rfl ?_
                          refine pe_bipush d_M_finish_137 ?_
                          refine pe_icmp_ne (t := 165) d_M_finish_139 (by first | exact hB _ _ | exact hB0 _ _ | exact hBt _ _ | exact ⟨by omega, by omega⟩) (by first | exact hB _ _ | exact hB0 _ _ | exact hBt _ _ | exact ⟨by omega, by omega⟩) (fun h139 => ?_) (fun h139 => ?_)
                          · skip
                            refine pe_iload_n d_M_finish_165 rfl ?_
                            refine pe_bipush d_M_finish_166 ?_
                            refine pe_icmp_ne (t := 190) d_M_finish_168 (by first | exact hB _ _ | exact hB0 _ _ | exact hBt _ _ | exact ⟨by omega, by omega⟩) (by first | exact hB _ _ | exact hB0 _ _ | exact hBt _ _ | exact ⟨by omega, by omega⟩) (fun h168 => ?_) (fun h168 => ?_)
                            · skip
                              refine pe_iload_n d_M_finish_190 rfl ?_
                              refine pe_bipush d_M_finish_191 ?_
                              refine pe_icmp_ne (t := 204) d_M_finish_193 (by first | exact hB _ _ | exact hB0 _ _ | exact hBt _ _ | exact ⟨by omega, by omega⟩) (by first | exact hB _ _ | exact hB0 _ _ | exact hBt _ _ | exact ⟨by omega, by omega⟩) (fun h193 => ?_) (fun h193 => ?_)
                              · skip
                                refine pe_iload_n d_M_finish_204 rfl ?_
                                refine pe_bipush d_M_finish_205 ?_
                                refine pe_icmp_ne (t := 218) d_M_finish_207 (by first | exact hB _ _ | exact hB0 _ _ | exact hBt _ _ | exact ⟨by omega, by omega⟩) (by first | exact hB _ _ | exact hB0 _ _ | exact hBt _ _ | exact ⟨by omega, by omega⟩) (fun h207 => ?_) (fun h207 => ?_)
                                · skip
                                  refine pe_iload_n d_M_finish_218 rfl ?_
                                  refine pe_bipush d_M_finish_219 ?_
                                  refine pe_icmp_ne (t := 259) d_M_finish_221 (by first | exact hB _ _ | exact hB0 _ _ | exact hBt _ _ | exact ⟨by omega, by omega⟩) (by first | exact hB _ _ | exact hB0 _ _ | exact hBt _ _ | exact ⟨by omega, by omega⟩) (fun h221 => ?_) (fun h221 => ?_)
                                  · skip
                                    exfalso; omega
                                  · skip
                                    refine pe_aload_n d_M_finish_224 rfl ?_
                                    refine pe_geti f_M_168 d_M_finish_225 rfl rfl 14 rfl ?_
                                    refine pe_iconst d_M_finish_228 ?_
                                    refine pe_icmp_ne (t := 259) d_M_finish_229 (by first | exact hB _ _ | exact hB0 _ _ | exact hBt _ _ | exact ⟨by omega, by omega⟩) (by first | exact hB _ _ | exact hB0 _ _ | exact hBt _ _ | exact ⟨by omega, by omega⟩) (fun h229 => ?_) (fun h229 => ?_)
                                    · skip
                                      exfalso; omega
                                    · skip
                                      refine pe_aload_n d_M_finish_232 rfl ?_
                                      refine pe_geti f_M_117 d_M_finish_233 rfl rfl 2 rfl ?_
                                      refine pe_aload_n d_M_finish_236 rfl ?_
                                      refine pe_geti f_M_87 d_M_finish_237 rfl rfl 1 rfl ?_
                                      refine pe_icmp_ge (t := 259) d_M_finish_240 (by first | exact hB _ _ | exact hB0 _ _ | exact hBt _ _ | exact ⟨by omega, by omega⟩) (by first | exact hB _ _ | exact hB0 _ _ | exact hBt _ _ | exact ⟨by omega, by omega⟩) (fun h240 => ?_) (fun h240 => ?_)
                                      · skip
                                        refine pe_iload_n d_M_finish_259 rfl ?_
                                        refine pe_bipush d_M_finish_260 ?_
                                        refine pe_icmp_ne (t := 292) d_M_finish_262 (by first | exact hB _ _ | exact hB0 _ _ | exact hBt _ _ | exact ⟨by omega, by omega⟩) (by first | exact hB _ _ | exact hB0 _ _ | exact hBt _ _ | exact ⟨by omega, by omega⟩) (fun h262 => ?_) (fun h262 => ?_)
                                        · skip
                                          exfalso; omega
                                        · skip
                                          refine pe_aload_n d_M_finish_265 rfl ?_
                                          refine pe_geti f_M_168 d_M_finish_266 rfl rfl 14 rfl ?_
                                          refine pe_iconst d_M_finish_269 ?_
                                          refine pe_icmp_le (t := 292) d_M_finish_270 (by first | exact hB _ _ | exact hB0 _ _ | exact hBt _ _ | exact ⟨by omega, by omega⟩) (by first | exact hB _ _ | exact hB0 _ _ | exact hBt _ _ | exact ⟨by omega, by omega⟩) (fun h270 => ?_) (fun h270 => ?_)
                                          · skip
                                            refine pe_rv d_M_finish_292 ?_
                                            first
                                            | (have K : (pe_kf (σ 29 14) b) = 65538 := (by unfold pe_kf; (repeat (first | rw [if_pos (by omega)] | rw [if_neg (by omega)])); first | done | rfl)
                                               have ZB := pe_bf_of (t' := m 8) A2 (by omega) (show m 1 0 + 1 ≤ z159 by omega) hz159.2.1 (fun j a c => hz159.2.2 j (by omega) c)
                                               have hA2 := pe_ra_cu hA1 (fun b hb => (f162 b (by rintro rfl; simp at hb))) (fun j hj => (o162 j (by rintro rfl; simp at hj))) e162
                                               have hb2 := (pe_bg_eq A2 (by omega)).mp hz159.2.1
                                               exact ⟨hB, (fun b hb => (f133 b (by simp at hb ⊢; try omega)).trans (rfl)), (fun j hj => (o133 j (by simp at hj ⊢; try omega)).trans (rfl)), by
                                                 rw [K, pe_q_k (M := pe_eS (pe_eS m 4 (-1)) 1 (pe_bf (m 8) (m 0 0) (m 1 0 + 1))) (by omega) (by unfold pe_wk; omega) (by unfold pe_eCmd; (repeat (first | rw [if_pos (by omega)] | rw [if_neg (by omega)])); first | done | rfl)]
                                                 rw [← ZB]; exact pe_ra_Bs hA2 (show 0 ≤ z159 by omega) hb2⟩)
                                            | (have K : (pe_kf (σ 29 14) b) = 65538 := (by unfold pe_kf; (repeat (first | rw [if_pos (by omega)] | rw [if_neg (by omega)])); first | done | rfl)
                                               skip
                                               exact ⟨hB, (fun b hb => (f133 b (by simp at hb ⊢; try omega)).trans (rfl)), (fun j hj => (o133 j (by simp at hj ⊢; try omega)).trans (rfl)), by
                                                 rw [K, pe_q_k (M := (pe_eS m 4 (-1))) (by omega) (by unfold pe_wk; omega) (by unfold pe_eCmd; (repeat (first | rw [if_pos (by omega)] | rw [if_neg (by omega)])); first | done | rfl)]
                                                 exact pe_ra_Bs hA1 w2.1 hg⟩)
                                            | (have K : (pe_kf (σ 29 14) b) = 65539 := (by unfold pe_kf; (repeat (first | rw [if_pos (by omega)] | rw [if_neg (by omega)])); first | done | rfl)
                                               have ZB := pe_ba_of (t' := m 8) A2 hz184.1 hz184.2.1 hz184.2.2
                                               have hA2 := pe_ra_cu hA1 (fun b hb => (f187 b (by rintro rfl; simp at hb))) (fun j hj => (o187 j (by rintro rfl; simp at hj))) e187
                                               have hb2 := (pe_bg_eq A2 (by omega)).mp hz184.2.1
                                               exact ⟨hB, (fun b hb => (f133 b (by simp at hb ⊢; try omega)).trans (rfl)), (fun j hj => (o133 j (by simp at hj ⊢; try omega)).trans (rfl)), by
                                                 rw [K, pe_q_k (M := pe_eS (pe_eS m 4 (-1)) 1 (pe_ba (m 8) (m 0 0) (m 1 0))) (by omega) (by unfold pe_wk; omega) (by unfold pe_eCmd; (repeat (first | rw [if_pos (by omega)] | rw [if_neg (by omega)])); first | done | rfl)]
                                                 rw [← ZB]; exact pe_ra_Bs hA2 (show 0 ≤ z184 by omega) hb2⟩)
                                            | (have K : (pe_kf (σ 29 14) b) = 65539 := (by unfold pe_kf; (repeat (first | rw [if_pos (by omega)] | rw [if_neg (by omega)])); first | done | rfl)
                                               skip
                                               exact ⟨hB, (fun b hb => (f133 b (by simp at hb ⊢; try omega)).trans (rfl)), (fun j hj => (o133 j (by simp at hj ⊢; try omega)).trans (rfl)), by
                                                 rw [K, pe_q_k (M := (pe_eS m 4 (-1))) (by omega) (by unfold pe_wk; omega) (by unfold pe_eCmd; (repeat (first | rw [if_pos (by omega)] | rw [if_neg (by omega)])); first | done | rfl)]
                                                 exact pe_ra_Bs hA1 w2.1 hg⟩)
                                            | (have K : (pe_kf (σ 29 14) b) = 65540 := (by unfold pe_kf; (repeat (first | rw [if_pos (by omega)] | rw [if_neg (by omega)])); first | done | rfl)
                                               have ZB := pe_lb_of (t' := m 8) A2 (by omega) hz198.1 hz198.2.1 hz198.2.2
                                               have hA2 := pe_ra_cu hA1 (fun b hb => (f201 b (by rintro rfl; simp at hb))) (fun j hj => (o201 j (by rintro rfl; simp at hj))) e201
                                               have hb1 : pe_bg (σ 30) (m 0 0) z198 := by unfold pe_bg; omega
                                               have hb2 := (pe_bg_eq A2 (by omega)).mp hb1
                                               exact ⟨hB, (fun b hb => (f133 b (by simp at hb ⊢; try omega)).trans (rfl)), (fun j hj => (o133 j (by simp at hj ⊢; try omega)).trans (rfl)), by
                                                 rw [K, pe_q_k (M := pe_eS (pe_eS m 4 (-1)) 1 (pe_lb (m 8) (m 1 0))) (by omega) (by unfold pe_wk; omega) (by unfold pe_eCmd; (repeat (first | rw [if_pos (by omega)] | rw [if_neg (by omega)])); first | done | rfl)]
                                                 rw [← ZB]; exact pe_ra_Bs hA2 (show 0 ≤ z198 by omega) hb2⟩)
                                            | (have K : (pe_kf (σ 29 14) b) = 65541 := (by unfold pe_kf; (repeat (first | rw [if_pos (by omega)] | rw [if_neg (by omega)])); first | done | rfl)
                                               have ZB := pe_lz_of (t' := m 8) A2 (by omega) hz212.1 hz212.2.1 hz212.2.2
                                               have hA2 := pe_ra_cu hA1 (fun b hb => (f215 b (by rintro rfl; simp at hb))) (fun j hj => (o215 j (by rintro rfl; simp at hj))) e215
                                               have hb1 : pe_bg (σ 30) (m 0 0) z212 := by unfold pe_bg; omega
                                               have hb2 := (pe_bg_eq A2 (by omega)).mp hb1
                                               exact ⟨hB, (fun b hb => (f133 b (by simp at hb ⊢; try omega)).trans (rfl)), (fun j hj => (o133 j (by simp at hj ⊢; try omega)).trans (rfl)), by
                                                 rw [K, pe_q_k (M := pe_eS (pe_eS m 4 (-1)) 1 (pe_lz (m 8) (m 0 0) (m 1 0))) (by omega) (by unfold pe_wk; omega) (by unfold pe_eCmd; (repeat (first | rw [if_pos (by omega)] | rw [if_neg (by omega)])); first | done | rfl)]
                                                 rw [← ZB]; exact pe_ra_Bs hA2 (show 0 ≤ z212 by omega) hb2⟩)
                                            | (have K : (pe_kf (σ 29 14) b) = 65542 := (by unfold pe_kf; (repeat (first | rw [if_pos (by omega)] | rw [if_neg (by omega)])); first | done | rfl)
                                               have ZB := pe_bf_of (t' := m 8) A2 (by omega) (show m 1 0 + 1 ≤ z253 by omega) hz253.2.1 (fun j a c => hz253.2.2 j (by omega) c)
                                               rw [c2, ZB] at x256
                                               exact ⟨hB, (fun b hb => (f133 b (by simp at hb ⊢; try omega)).trans (rfl)), (fun j hj => (o133 j (by simp at hj ⊢; try omega)).trans (rfl)), by
                                                 rw [K, pe_q_k (M := pe_eDel (pe_eS m 4 (-1)) (m 1 0) (pe_bf (m 8) (m 0 0) (m 1 0 + 1))) (by omega) (by unfold pe_wk; omega) (by unfold pe_eCmd; (repeat (first | rw [if_pos (by omega)] | rw [if_neg (by omega)])); first | done | rfl)]
                                                 exact x256⟩)
                                            | (have K : (pe_kf (σ 29 14) b) = 65542 := (by unfold pe_kf; (repeat (first | rw [if_pos (by omega)] | rw [if_neg (by omega)])); first | done | rfl)
                                               skip
                                               exact ⟨hB, (fun b hb => (f133 b (by simp at hb ⊢; try omega)).trans (rfl)), (fun j hj => (o133 j (by simp at hj ⊢; try omega)).trans (rfl)), by
                                                 rw [K, pe_q_k (M := (pe_eS m 4 (-1))) (by omega) (by unfold pe_wk; omega) (by unfold pe_eCmd; (repeat (first | rw [if_pos (by omega)] | rw [if_neg (by omega)])); first | done | rfl)]
                                                 exact pe_ra_Bs hA1 w2.1 hg⟩)
                                            | (have K : (pe_kf (σ 29 14) b) = 65543 := (by unfold pe_kf; (repeat (first | rw [if_pos (by omega)] | rw [if_neg (by omega)])); first | done | rfl)
                                               have hA2 := pe_ra_pa hA1 (fun b hb => (f289 b (by rintro rfl; simp at hb))) (fun j hj => (o289 j (by rintro rfl; simp at hj))) e289
                                               exact ⟨hB, (fun b hb => (f133 b (by simp at hb ⊢; try omega)).trans (rfl)), (fun j hj => (o133 j (by simp at hj ⊢; try omega)).trans (rfl)), by
                                                 rw [K, pe_q_k (M := pe_eS (pe_eS m 4 (-1)) 6 1) (by omega) (by unfold pe_wk; omega) (by unfold pe_eCmd; (repeat (first | rw [if_pos (by omega)] | rw [if_neg (by omega)])); first | done | rfl)]
                                                 exact pe_ra_Bs hA2 w2.1 hg⟩)
                                            | (have K : (pe_kf (σ 29 14) b) = 65544 := (by unfold pe_kf; (repeat (first | rw [if_pos (by omega)] | rw [if_neg (by omega)])); first | done | rfl)
                                               have hA2 := pe_ra_pa hA1 (fun b hb => (f289 b (by rintro rfl; simp at hb))) (fun j hj => (o289 j (by rintro rfl; simp at hj))) e289
                                               exact ⟨hB, (fun b hb => (f133 b (by simp at hb ⊢; try omega)).trans (rfl)), (fun j hj => (o133 j (by simp at hj ⊢; try omega)).trans (rfl)), by
                                                 rw [K, pe_q_k (M := pe_eS (pe_eS m 4 (-1)) 6 0) (by omega) (by unfold pe_wk; omega) (by unfold pe_eCmd; (repeat (first | rw [if_pos (by omega)] | rw [if_neg (by omega)])); first | done | rfl)]
                                                 exact pe_ra_Bs hA2 w2.1 hg⟩)
                                          · skip
                                            exfalso; omega
                                      · skip
                                        refine pe_aload_n d_M_finish_243 rfl ?_
                                        refine pe_aload_n d_M_finish_244 rfl ?_
                                        refine pe_geti f_M_117 d_M_finish_245 rfl rfl 2 rfl ?_
                                        refine pe_aload_n d_M_finish_248 rfl ?_
                                        refine pe_aload_n d_M_finish_249 rfl ?_
                                        refine pe_geti f_M_117 d_M_finish_250 rfl rfl 2 rfl ?_
                                        refine pe_v1p d_M_finish_253 c_M_107 i_M_after s_M_after rfl rfl (t_M_after hB (by omega) (by omega)) (fun z253 hz253 => ?_)
                                        rw [c2, c1, f133 30 (by decide)] at hz253
                                        refine pe_v2v d_M_finish_256 c_M_138 i_M_takeAway s_M_takeAway rfl rfl (x_M_takeAway hB hA1 hw1 hk hg (show 0 ≤ σ133 29 2 ∧ σ133 29 2 ≤ z253 ∧ z253 ≤ m 0 0 by omega)) (fun σ256 hz256 => ?_)
                                        obtain ⟨hB, f256, o256, x256⟩ := hz256
                                        try have u256_0 : σ256 29 1 = σ133 29 1 := by first | exact o256 1 (by decide) | exact congrFun (f256 29 (by decide)) 1
                                        try have u256_1 : σ256 29 2 = σ133 29 2 := by first | exact o256 2 (by decide) | exact congrFun (f256 29 (by decide)) 2
                                        try have u256_2 : σ256 29 3 = σ133 29 3 := by first | exact o256 3 (by decide) | exact congrFun (f256 29 (by decide)) 3
                                        try have u256_3 : σ256 29 5 = σ133 29 5 := by first | exact o256 5 (by decide) | exact congrFun (f256 29 (by decide)) 5
                                        try have u256_4 : σ256 29 6 = σ133 29 6 := by first | exact o256 6 (by decide) | exact congrFun (f256 29 (by decide)) 6
                                        try have u256_5 : σ256 29 7 = σ133 29 7 := by first | exact o256 7 (by decide) | exact congrFun (f256 29 (by decide)) 7
                                        try have u256_6 : σ256 29 19 = σ133 29 19 := by first | exact o256 19 (by decide) | exact congrFun (f256 29 (by decide)) 19
                                        try have u256_7 : σ256 29 21 = σ133 29 21 := by first | exact o256 21 (by decide) | exact congrFun (f256 29 (by decide)) 21
                                        try have u256_8 : σ256 29 14 = σ133 29 14 := by first | exact o256 14 (by decide) | exact congrFun (f256 29 (by decide)) 14
                                        refine pe_iload_n d_M_finish_259 rfl ?_
                                        refine pe_bipush d_M_finish_260 ?_
                                        refine pe_icmp_ne (t := 292) d_M_finish_262 (by first | exact hB _ _ | exact hB0 _ _ | exact hBt _ _ | exact ⟨by omega, by omega⟩) (by first | exact hB _ _ | exact hB0 _ _ | exact hBt _ _ | exact ⟨by omega, by omega⟩) (fun h262 => ?_) (fun h262 => ?_)
                                        · skip
                                          exfalso; omega
                                        · skip
                                          refine pe_aload_n d_M_finish_265 rfl ?_
                                          refine pe_geti f_M_168 d_M_finish_266 rfl rfl 14 rfl ?_
                                          refine pe_iconst d_M_finish_269 ?_
                                          refine pe_icmp_le (t := 292) d_M_finish_270 (by first | exact hB _ _ | exact hB0 _ _ | exact hBt _ _ | exact ⟨by omega, by omega⟩) (by first | exact hB _ _ | exact hB0 _ _ | exact hBt _ _ | exact ⟨by omega, by omega⟩) (fun h270 => ?_) (fun h270 => ?_)
                                          · skip
                                            refine pe_rv d_M_finish_292 ?_
                                            first
                                            | (have K : (pe_kf (σ 29 14) b) = 65538 := (by unfold pe_kf; (repeat (first | rw [if_pos (by omega)] | rw [if_neg (by omega)])); first | done | rfl)
                                               have ZB := pe_bf_of (t' := m 8) A2 (by omega) (show m 1 0 + 1 ≤ z159 by omega) hz159.2.1 (fun j a c => hz159.2.2 j (by omega) c)
                                               have hA2 := pe_ra_cu hA1 (fun b hb => (f162 b (by rintro rfl; simp at hb))) (fun j hj => (o162 j (by rintro rfl; simp at hj))) e162
                                               have hb2 := (pe_bg_eq A2 (by omega)).mp hz159.2.1
                                               exact ⟨hB, (fun b hb => (f256 b (by simp at hb ⊢; try omega)).trans ((f133 b (by simp at hb ⊢; try omega)).trans (rfl))), (fun j hj => (o256 j (by simp at hj ⊢; try omega)).trans ((o133 j (by simp at hj ⊢; try omega)).trans (rfl))), by
                                                 rw [K, pe_q_k (M := pe_eS (pe_eS m 4 (-1)) 1 (pe_bf (m 8) (m 0 0) (m 1 0 + 1))) (by omega) (by unfold pe_wk; omega) (by unfold pe_eCmd; (repeat (first | rw [if_pos (by omega)] | rw [if_neg (by omega)])); first | done | rfl)]
                                                 rw [← ZB]; exact pe_ra_Bs hA2 (show 0 ≤ z159 by omega) hb2⟩)
                                            | (have K : (pe_kf (σ 29 14) b) = 65538 := (by unfold pe_kf; (repeat (first | rw [if_pos (by omega)] | rw [if_neg (by omega)])); first | done | rfl)
                                               skip
                                               exact ⟨hB, (fun b hb => (f256 b (by simp at hb ⊢; try omega)).trans ((f133 b (by simp at hb ⊢; try omega)).trans (rfl))), (fun j hj => (o256 j (by simp at hj ⊢; try omega)).trans ((o133 j (by simp at hj ⊢; try omega)).trans (rfl))), by
                                                 rw [K, pe_q_k (M := (pe_eS m 4 (-1))) (by omega) (by unfold pe_wk; omega) (by unfold pe_eCmd; (repeat (first | rw [if_pos (by omega)] | rw [if_neg (by omega)])); first | done | rfl)]
                                                 exact pe_ra_Bs hA1 w2.1 hg⟩)
                                            | (have K : (pe_kf (σ 29 14) b) = 65539 := (by unfold pe_kf; (repeat (first | rw [if_pos (by omega)] | rw [if_neg (by omega)])); first | done | rfl)
                                               have ZB := pe_ba_of (t' := m 8) A2 hz184.1 hz184.2.1 hz184.2.2
                                               have hA2 := pe_ra_cu hA1 (fun b hb => (f187 b (by rintro rfl; simp at hb))) (fun j hj => (o187 j (by rintro rfl; simp at hj))) e187
                                               have hb2 := (pe_bg_eq A2 (by omega)).mp hz184.2.1
                                               exact ⟨hB, (fun b hb => (f256 b (by simp at hb ⊢; try omega)).trans ((f133 b (by simp at hb ⊢; try omega)).trans (rfl))), (fun j hj => (o256 j (by simp at hj ⊢; try omega)).trans ((o133 j (by simp at hj ⊢; try omega)).trans (rfl))), by
                                                 rw [K, pe_q_k (M := pe_eS (pe_eS m 4 (-1)) 1 (pe_ba (m 8) (m 0 0) (m 1 0))) (by omega) (by unfold pe_wk; omega) (by unfold pe_eCmd; (repeat (first | rw [if_pos (by omega)] | rw [if_neg (by omega)])); first | done | rfl)]
                                                 rw [← ZB]; exact pe_ra_Bs hA2 (show 0 ≤ z184 by omega) hb2⟩)
                                            | (have K : (pe_kf (σ 29 14) b) = 65539 := (by unfold pe_kf; (repeat (first | rw [if_pos (by omega)] | rw [if_neg (by omega)])); first | done | rfl)
                                               skip
                                               exact ⟨hB, (fun b hb => (f256 b (by simp at hb ⊢; try omega)).trans ((f133 b (by simp at hb ⊢; try omega)).trans (rfl))), (fun j hj => (o256 j (by simp at hj ⊢; try omega)).trans ((o133 j (by simp at hj ⊢; try omega)).trans (rfl))), by
                                                 rw [K, pe_q_k (M := (pe_eS m 4 (-1))) (by omega) (by unfold pe_wk; omega) (by unfold pe_eCmd; (repeat (first | rw [if_pos (by omega)] | rw [if_neg (by omega)])); first | done | rfl)]
                                                 exact pe_ra_Bs hA1 w2.1 hg⟩)
                                            | (have K : (pe_kf (σ 29 14) b) = 65540 := (by unfold pe_kf; (repeat (first | rw [if_pos (by omega)] | rw [if_neg (by omega)])); first | done | rfl)
                                               have ZB := pe_lb_of (t' := m 8) A2 (by omega) hz198.1 hz198.2.1 hz198.2.2
                                               have hA2 := pe_ra_cu hA1 (fun b hb => (f201 b (by rintro rfl; simp at hb))) (fun j hj => (o201 j (by rintro rfl; simp at hj))) e201
                                               have hb1 : pe_bg (σ 30) (m 0 0) z198 := by unfold pe_bg; omega
                                               have hb2 := (pe_bg_eq A2 (by omega)).mp hb1
                                               exact ⟨hB, (fun b hb => (f256 b (by simp at hb ⊢; try omega)).trans ((f133 b (by simp at hb ⊢; try omega)).trans (rfl))), (fun j hj => (o256 j (by simp at hj ⊢; try omega)).trans ((o133 j (by simp at hj ⊢; try omega)).trans (rfl))), by
                                                 rw [K, pe_q_k (M := pe_eS (pe_eS m 4 (-1)) 1 (pe_lb (m 8) (m 1 0))) (by omega) (by unfold pe_wk; omega) (by unfold pe_eCmd; (repeat (first | rw [if_pos (by omega)] | rw [if_neg (by omega)])); first | done | rfl)]
                                                 rw [← ZB]; exact pe_ra_Bs hA2 (show 0 ≤ z198 by omega) hb2⟩)
                                            | (have K : (pe_kf (σ 29 14) b) = 65541 := (by unfold pe_kf; (repeat (first | rw [if_pos (by omega)] | rw [if_neg (by omega)])); first | done | rfl)
                                               have ZB := pe_lz_of (t' := m 8) A2 (by omega) hz212.1 hz212.2.1 hz212.2.2
                                               have hA2 := pe_ra_cu hA1 (fun b hb => (f215 b (by rintro rfl; simp at hb))) (fun j hj => (o215 j (by rintro rfl; simp at hj))) e215
                                               have hb1 : pe_bg (σ 30) (m 0 0) z212 := by unfold pe_bg; omega
                                               have hb2 := (pe_bg_eq A2 (by omega)).mp hb1
                                               exact ⟨hB, (fun b hb => (f256 b (by simp at hb ⊢; try omega)).trans ((f133 b (by simp at hb ⊢; try omega)).trans (rfl))), (fun j hj => (o256 j (by simp at hj ⊢; try omega)).trans ((o133 j (by simp at hj ⊢; try omega)).trans (rfl))), by
                                                 rw [K, pe_q_k (M := pe_eS (pe_eS m 4 (-1)) 1 (pe_lz (m 8) (m 0 0) (m 1 0))) (by omega) (by unfold pe_wk; omega) (by unfold pe_eCmd; (repeat (first | rw [if_pos (by omega)] | rw [if_neg (by omega)])); first | done | rfl)]
                                                 rw [← ZB]; exact pe_ra_Bs hA2 (show 0 ≤ z212 by omega) hb2⟩)
                                            | (have K : (pe_kf (σ 29 14) b) = 65542 := (by unfold pe_kf; (repeat (first | rw [if_pos (by omega)] | rw [if_neg (by omega)])); first | done | rfl)
                                               have ZB := pe_bf_of (t' := m 8) A2 (by omega) (show m 1 0 + 1 ≤ z253 by omega) hz253.2.1 (fun j a c => hz253.2.2 j (by omega) c)
                                               rw [c2, ZB] at x256
                                               exact ⟨hB, (fun b hb => (f256 b (by simp at hb ⊢; try omega)).trans ((f133 b (by simp at hb ⊢; try omega)).trans (rfl))), (fun j hj => (o256 j (by simp at hj ⊢; try omega)).trans ((o133 j (by simp at hj ⊢; try omega)).trans (rfl))), by
                                                 rw [K, pe_q_k (M := pe_eDel (pe_eS m 4 (-1)) (m 1 0) (pe_bf (m 8) (m 0 0) (m 1 0 + 1))) (by omega) (by unfold pe_wk; omega) (by unfold pe_eCmd; (repeat (first | rw [if_pos (by omega)] | rw [if_neg (by omega)])); first | done | rfl)]
                                                 exact x256⟩)
                                            | (have K : (pe_kf (σ 29 14) b) = 65542 := (by unfold pe_kf; (repeat (first | rw [if_pos (by omega)] | rw [if_neg (by omega)])); first | done | rfl)
                                               skip
                                               exact ⟨hB, (fun b hb => (f256 b (by simp at hb ⊢; try omega)).trans ((f133 b (by simp at hb ⊢; try omega)).trans (rfl))), (fun j hj => (o256 j (by simp at hj ⊢; try omega)).trans ((o133 j (by simp at hj ⊢; try omega)).trans (rfl))), by
                                                 rw [K, pe_q_k (M := (pe_eS m 4 (-1))) (by omega) (by unfold pe_wk; omega) (by unfold pe_eCmd; (repeat (first | rw [if_pos (by omega)] | rw [if_neg (by omega)])); first | done | rfl)]
                                                 exact pe_ra_Bs hA1 w2.1 hg⟩)
                                            | (have K : (pe_kf (σ 29 14) b) = 65543 := (by unfold pe_kf; (repeat (first | rw [if_pos (by omega)] | rw [if_neg (by omega)])); first | done | rfl)
                                               have hA2 := pe_ra_pa hA1 (fun b hb => (f289 b (by rintro rfl; simp at hb))) (fun j hj => (o289 j (by rintro rfl; simp at hj))) e289
                                               exact ⟨hB, (fun b hb => (f256 b (by simp at hb ⊢; try omega)).trans ((f133 b (by simp at hb ⊢; try omega)).trans (rfl))), (fun j hj => (o256 j (by simp at hj ⊢; try omega)).trans ((o133 j (by simp at hj ⊢; try omega)).trans (rfl))), by
                                                 rw [K, pe_q_k (M := pe_eS (pe_eS m 4 (-1)) 6 1) (by omega) (by unfold pe_wk; omega) (by unfold pe_eCmd; (repeat (first | rw [if_pos (by omega)] | rw [if_neg (by omega)])); first | done | rfl)]
                                                 exact pe_ra_Bs hA2 w2.1 hg⟩)
                                            | (have K : (pe_kf (σ 29 14) b) = 65544 := (by unfold pe_kf; (repeat (first | rw [if_pos (by omega)] | rw [if_neg (by omega)])); first | done | rfl)
                                               have hA2 := pe_ra_pa hA1 (fun b hb => (f289 b (by rintro rfl; simp at hb))) (fun j hj => (o289 j (by rintro rfl; simp at hj))) e289
                                               exact ⟨hB, (fun b hb => (f256 b (by simp at hb ⊢; try omega)).trans ((f133 b (by simp at hb ⊢; try omega)).trans (rfl))), (fun j hj => (o256 j (by simp at hj ⊢; try omega)).trans ((o133 j (by simp at hj ⊢; try omega)).trans (rfl))), by
                                                 rw [K, pe_q_k (M := pe_eS (pe_eS m 4 (-1)) 6 0) (by omega) (by unfold pe_wk; omega) (by unfold pe_eCmd; (repeat (first | rw [if_pos (by omega)] | rw [if_neg (by omega)])); first | done | rfl)]
                                                 exact pe_ra_Bs hA2 w2.1 hg⟩)
                                          · skip
                                            exfalso; omega
                                · skip
                                  exfalso; omega
                              · skip
                                exfalso; omega
                            · skip
                              exfalso; omega
                          · skip
                            exfalso; omega
                        · skip
                          exfalso; omega
                      · skip
                        refine pe_aload_n d_M_finish_100 rfl ?_
                        refine pe_geti f_M_168 d_M_finish_101 rfl rfl 14 rfl ?_
                        refine pe_sipush d_M_finish_104 ?_
                        refine pe_icmp_eq (t := 120) d_M_finish_107 (by first | exact hB _ _ | exact hB0 _ _ | exact hBt _ _ | exact ⟨by omega, by omega⟩) (by first | exact hB _ _ | exact hB0 _ _ | exact hBt _ _ | exact ⟨by omega, by omega⟩) (fun h107 => ?_) (fun h107 => ?_)
                        · skip
                          refine pe_iconst d_M_finish_120 ?_
                          refine pe_goto (t := 125) d_M_finish_121 ?_
                          refine pe_istore_n d_M_finish_125 ?_
                          refine pe_iload_n d_M_finish_126 rfl ?_
                          refine pe_if_ne (t := 131) d_M_finish_127 (by first | exact hB _ _ | exact hB0 _ _ | exact hBt _ _ | exact ⟨by omega, by omega⟩) (fun h127 => ?_) (fun h127 => ?_)
                          · skip
                            refine pe_aload_n d_M_finish_131 rfl ?_
                            refine pe_iconst d_M_finish_132 ?_
                            refine pe_putiT f_M_20 g_11_6 d_M_finish_133 rfl rfl 6 rfl hB (by first | exact hB _ _ | exact hB0 _ _ | exact hBt _ _ | exact ⟨by omega, by omega⟩) (fun σ133 hB e133 o133 f133 => ?_)
                            try have u133_0 : σ133 29 1 = σ 29 1 := by first | exact o133 1 (by decide) | exact congrFun (f133 29 (by decide)) 1
                            try have u133_1 : σ133 29 2 = σ 29 2 := by first | exact o133 2 (by decide) | exact congrFun (f133 29 (by decide)) 2
                            try have u133_2 : σ133 29 3 = σ 29 3 := by first | exact o133 3 (by decide) | exact congrFun (f133 29 (by decide)) 3
                            try have u133_3 : σ133 29 5 = σ 29 5 := by first | exact o133 5 (by decide) | exact congrFun (f133 29 (by decide)) 5
                            try have u133_4 : σ133 29 6 = σ 29 6 := by first | exact o133 6 (by decide) | exact congrFun (f133 29 (by decide)) 6
                            try have u133_5 : σ133 29 7 = σ 29 7 := by first | exact o133 7 (by decide) | exact congrFun (f133 29 (by decide)) 7
                            try have u133_6 : σ133 29 19 = σ 29 19 := by first | exact o133 19 (by decide) | exact congrFun (f133 29 (by decide)) 19
                            try have u133_7 : σ133 29 21 = σ 29 21 := by first | exact o133 21 (by decide) | exact congrFun (f133 29 (by decide)) 21
                            try have u133_8 : σ133 29 14 = σ 29 14 := by first | exact o133 14 (by decide) | exact congrFun (f133 29 (by decide)) 14
                            have hA1 := pe_ra_gl hA (fun b hb => (f133 b (by rintro rfl; simp at hb))) (fun j hj => (o133 j (by rintro rfl; simp at hj))) e133
                            have hw1 := pe_wf_gl (z := -1) hw (by omega)
                            have g0 : pe_eS m 4 (-1) 0 0 = m 0 0 := rfl
                            have g1 : pe_eS m 4 (-1) 1 0 = m 1 0 := rfl
                            have g6 : pe_eS m 4 (-1) 6 0 = m 6 0 := rfl
                            have c2 : σ133 29 2 = m 1 0 := by omega
                            have c1 : σ133 29 1 = m 0 0 := by omega
                            refine pe_iload_n d_M_finish_136 rfl ?_
                            refine pe_bipush d_M_finish_137 ?_
                            refine pe_icmp_ne (t := 165) d_M_finish_139 (by first | exact hB _ _ | exact hB0 _ _ | exact hBt _ _ | exact ⟨by omega, by omega⟩) (by first | exact hB _ _ | exact hB0 _ _ | exact hBt _ _ | exact ⟨by omega, by omega⟩) (fun h139 => ?_) (fun h139 => ?_)
                            · skip
                              refine pe_iload_n d_M_finish_165 rfl ?_
                              refine pe_bipush d_M_finish_166 ?_
                              refine pe_icmp_ne (t := 190) d_M_finish_168 (by first | exact hB _ _ | exact hB0 _ _ | exact hBt _ _ | exact ⟨by omega, by omega⟩) (by first | exact hB _ _ | exact hB0 _ _ | exact hBt _ _ | exact ⟨by omega, by omega⟩) (fun h168 => ?_) (fun h168 => ?_)
                              · skip
                                refine pe_iload_n d_M_finish_190 rfl ?_
                                refine pe_bipush d_M_finish_191 ?_
                                refine pe_icmp_ne (t := 204) d_M_finish_193 (by first | exact hB _ _ | exact hB0 _ _ | exact hBt _ _ | exact ⟨by omega, by omega⟩) (by first | exact hB _ _ | exact hB0 _ _ | exact hBt _ _ | exact ⟨by omega, by omega⟩) (fun h193 => ?_) (fun h193 => ?_)
                                · skip
                                  refine pe_iload_n d_M_finish_204 rfl ?_
                                  refine pe_bipush d_M_finish_205 ?_
                                  refine pe_icmp_ne (t := 218) d_M_finish_207 (by first | exact hB _ _ | exact hB0 _ _ | exact hBt _ _ | exact ⟨by omega, by omega⟩) (by first | exact hB _ _ | exact hB0 _ _ | exact hBt _ _ | exact ⟨by omega, by omega⟩) (fun h207 => ?_) (fun h207 => ?_)
                                  · skip
                                    refine pe_iload_n d_M_finish_218 rfl ?_
                                    refine pe_bipush d_M_finish_219 ?_
                                    refine pe_icmp_ne (t := 259) d_M_finish_221 (by first | exact hB _ _ | exact hB0 _ _ | exact hBt _ _ | exact ⟨by omega, by omega⟩) (by first | exact hB _ _ | exact hB0 _ _ | exact hBt _ _ | exact ⟨by omega, by omega⟩) (fun h221 => ?_) (fun h221 => ?_)
                                    · skip
                                      exfalso; omega
                                    · skip
                                      refine pe_aload_n d_M_finish_224 rfl ?_
                                      refine pe_geti f_M_168 d_M_finish_225 rfl rfl 14 rfl ?_
                                      refine pe_iconst d_M_finish_228 ?_
                                      refine pe_icmp_ne (t := 259) d_M_finish_229 (by first | exact hB _ _ | exact hB0 _ _ | exact hBt _ _ | exact ⟨by omega, by omega⟩) (by first | exact hB _ _ | exact hB0 _ _ | exact hBt _ _ | exact ⟨by omega, by omega⟩) (fun h229 => ?_) (fun h229 => ?_)
                                      · skip
                                        refine pe_iload_n d_M_finish_259 rfl ?_
                                        refine pe_bipush d_M_finish_260 ?_
                                        refine pe_icmp_ne (t := 292) d_M_finish_262 (by first | exact hB _ _ | exact hB0 _ _ | exact hBt _ _ | exact ⟨by omega, by omega⟩) (by first | exact hB _ _ | exact hB0 _ _ | exact hBt _ _ | exact ⟨by omega, by omega⟩) (fun h262 => ?_) (fun h262 => ?_)
                                        · skip
                                          exfalso; omega
                                        · skip
                                          refine pe_aload_n d_M_finish_265 rfl ?_
                                          refine pe_geti f_M_168 d_M_finish_266 rfl rfl 14 rfl ?_
                                          refine pe_iconst d_M_finish_269 ?_
                                          refine pe_icmp_le (t := 292) d_M_finish_270 (by first | exact hB _ _ | exact hB0 _ _ | exact hBt _ _ | exact ⟨by omega, by omega⟩) (by first | exact hB _ _ | exact hB0 _ _ | exact hBt _ _ | exact ⟨by omega, by omega⟩) (fun h270 => ?_) (fun h270 => ?_)
                                          · skip
                                            exfalso; omega
                                          · skip
                                            refine pe_aload_n d_M_finish_273 rfl ?_
                                            refine pe_aload_n d_M_finish_274 rfl ?_
                                            refine pe_geti f_M_168 d_M_finish_275 rfl rfl 14 rfl ?_
                                            refine pe_sipush d_M_finish_278 ?_
                                            refine pe_icmp_ne (t := 288) d_M_finish_281 (by first | exact hB _ _ | exact hB0 _ _ | exact hBt _ _ | exact ⟨by omega, by omega⟩) (by first | exact hB _ _ | exact hB0 _ _ | exact hBt _ _ | exact ⟨by omega, by omega⟩) (fun h281 => ?_) (fun h281 => ?_)
                                            · skip
                                              exfalso; omega
                                            · skip
                                              refine pe_iconst d_M_finish_284 ?_
                                              refine pe_goto (t := 289) d_M_finish_285 ?_
                                              refine pe_putzT f_M_147 g_11_19 d_M_finish_289 rfl rfl (by first | exact Or.inl rfl | exact Or.inr rfl | omega) 19 rfl hB (fun σ289 hB e289 o289 f289 => ?_)
                                              try have u289_0 : σ289 29 1 = σ133 29 1 := by first | exact o289 1 (by decide) | exact congrFun (f289 29 (by decide)) 1
                                              try have u289_1 : σ289 29 2 = σ133 29 2 := by first | exact o289 2 (by decide) | exact congrFun (f289 29 (by decide)) 2
                                              try have u289_2 : σ289 29 3 = σ133 29 3 := by first | exact o289 3 (by decide) | exact congrFun (f289 29 (by decide)) 3
                                              try have u289_3 : σ289 29 5 = σ133 29 5 := by first | exact o289 5 (by decide) | exact congrFun (f289 29 (by decide)) 5
                                              try have u289_4 : σ289 29 6 = σ133 29 6 := by first | exact o289 6 (by decide) | exact congrFun (f289 29 (by decide)) 6
                                              try have u289_5 : σ289 29 7 = σ133 29 7 := by first | exact o289 7 (by decide) | exact congrFun (f289 29 (by decide)) 7
                                              try have u289_6 : σ289 29 19 = σ133 29 19 := by first | exact o289 19 (by decide) | exact congrFun (f289 29 (by decide)) 19
                                              try have u289_7 : σ289 29 21 = σ133 29 21 := by first | exact o289 21 (by decide) | exact congrFun (f289 29 (by decide)) 21
                                              try have u289_8 : σ289 29 14 = σ133 29 14 := by first | exact o289 14 (by decide) | exact congrFun (f289 29 (by decide)) 14
                                              refine pe_rv d_M_finish_292 ?_
                                              first
                                              | (have K : (pe_kf (σ 29 14) b) = 65538 := (by unfold pe_kf; (repeat (first | rw [if_pos (by omega)] | rw [if_neg (by omega)])); first | done | rfl)
                                                 have ZB := pe_bf_of (t' := m 8) A2 (by omega) (show m 1 0 + 1 ≤ z159 by omega) hz159.2.1 (fun j a c => hz159.2.2 j (by omega) c)
                                                 have hA2 := pe_ra_cu hA1 (fun b hb => (f162 b (by rintro rfl; simp at hb))) (fun j hj => (o162 j (by rintro rfl; simp at hj))) e162
                                                 have hb2 := (pe_bg_eq A2 (by omega)).mp hz159.2.1
                                                 exact ⟨hB, (fun b hb => (f289 b (by simp at hb ⊢; try omega)).trans ((f133 b (by simp at hb ⊢; try omega)).trans (rfl))), (fun j hj => (o289 j (by simp at hj ⊢; try omega)).trans ((o133 j (by simp at hj ⊢; try omega)).trans (rfl))), by
                                                   rw [K, pe_q_k (M := pe_eS (pe_eS m 4 (-1)) 1 (pe_bf (m 8) (m 0 0) (m 1 0 + 1))) (by omega) (by unfold pe_wk; omega) (by unfold pe_eCmd; (repeat (first | rw [if_pos (by omega)] | rw [if_neg (by omega)])); first | done | rfl)]
                                                   rw [← ZB]; exact pe_ra_Bs hA2 (show 0 ≤ z159 by omega) hb2⟩)
                                              | (have K : (pe_kf (σ 29 14) b) = 65538 := (by unfold pe_kf; (repeat (first | rw [if_pos (by omega)] | rw [if_neg (by omega)])); first | done | rfl)
                                                 skip
                                                 exact ⟨hB, (fun b hb => (f289 b (by simp at hb ⊢; try omega)).trans ((f133 b (by simp at hb ⊢; try omega)).trans (rfl))), (fun j hj => (o289 j (by simp at hj ⊢; try omega)).trans ((o133 j (by simp at hj ⊢; try omega)).trans (rfl))), by
                                                   rw [K, pe_q_k (M := (pe_eS m 4 (-1))) (by omega) (by unfold pe_wk; omega) (by unfold pe_eCmd; (repeat (first | rw [if_pos (by omega)] | rw [if_neg (by omega)])); first | done | rfl)]
                                                   exact pe_ra_Bs hA1 w2.1 hg⟩)
                                              | (have K : (pe_kf (σ 29 14) b) = 65539 := (by unfold pe_kf; (repeat (first | rw [if_pos (by omega)] | rw [if_neg (by omega)])); first | done | rfl)
                                                 have ZB := pe_ba_of (t' := m 8) A2 hz184.1 hz184.2.1 hz184.2.2
                                                 have hA2 := pe_ra_cu hA1 (fun b hb => (f187 b (by rintro rfl; simp at hb))) (fun j hj => (o187 j (by rintro rfl; simp at hj))) e187
                                                 have hb2 := (pe_bg_eq A2 (by omega)).mp hz184.2.1
                                                 exact ⟨hB, (fun b hb => (f289 b (by simp at hb ⊢; try omega)).trans ((f133 b (by simp at hb ⊢; try omega)).trans (rfl))), (fun j hj => (o289 j (by simp at hj ⊢; try omega)).trans ((o133 j (by simp at hj ⊢; try omega)).trans (rfl))), by
                                                   rw [K, pe_q_k (M := pe_eS (pe_eS m 4 (-1)) 1 (pe_ba (m 8) (m 0 0) (m 1 0))) (by omega) (by unfold pe_wk; omega) (by unfold pe_eCmd; (repeat (first | rw [if_pos (by omega)] | rw [if_neg (by omega)])); first | done | rfl)]
                                                   rw [← ZB]; exact pe_ra_Bs hA2 (show 0 ≤ z184 by omega) hb2⟩)
                                              | (have K : (pe_kf (σ 29 14) b) = 65539 := (by unfold pe_kf; (repeat (first | rw [if_pos (by omega)] | rw [if_neg (by omega)])); first | done | rfl)
                                                 skip
                                                 exact ⟨hB, (fun b hb => (f289 b (by simp at hb ⊢; try omega)).trans ((f133 b (by simp at hb ⊢; try omega)).trans (rfl))), (fun j hj => (o289 j (by simp at hj ⊢; try omega)).trans ((o133 j (by simp at hj ⊢; try omega)).trans (rfl))), by
                                                   rw [K, pe_q_k (M := (pe_eS m 4 (-1))) (by omega) (by unfold pe_wk; omega) (by unfold pe_eCmd; (repeat (first | rw [if_pos (by omega)] | rw [if_neg (by omega)])); first | done | rfl)]
                                                   exact pe_ra_Bs hA1 w2.1 hg⟩)
                                              | (have K : (pe_kf (σ 29 14) b) = 65540 := (by unfold pe_kf; (repeat (first | rw [if_pos (by omega)] | rw [if_neg (by omega)])); first | done | rfl)
                                                 have ZB := pe_lb_of (t' := m 8) A2 (by omega) hz198.1 hz198.2.1 hz198.2.2
                                                 have hA2 := pe_ra_cu hA1 (fun b hb => (f201 b (by rintro rfl; simp at hb))) (fun j hj => (o201 j (by rintro rfl; simp at hj))) e201
                                                 have hb1 : pe_bg (σ 30) (m 0 0) z198 := by unfold pe_bg; omega
                                                 have hb2 := (pe_bg_eq A2 (by omega)).mp hb1
                                                 exact ⟨hB, (fun b hb => (f289 b (by simp at hb ⊢; try omega)).trans ((f133 b (by simp at hb ⊢; try omega)).trans (rfl))), (fun j hj => (o289 j (by simp at hj ⊢; try omega)).trans ((o133 j (by simp at hj ⊢; try omega)).trans (rfl))), by
                                                   rw [K, pe_q_k (M := pe_eS (pe_eS m 4 (-1)) 1 (pe_lb (m 8) (m 1 0))) (by omega) (by unfold pe_wk; omega) (by unfold pe_eCmd; (repeat (first | rw [if_pos (by omega)] | rw [if_neg (by omega)])); first | done | rfl)]
                                                   rw [← ZB]; exact pe_ra_Bs hA2 (show 0 ≤ z198 by omega) hb2⟩)
                                              | (have K : (pe_kf (σ 29 14) b) = 65541 := (by unfold pe_kf; (repeat (first | rw [if_pos (by omega)] | rw [if_neg (by omega)])); first | done | rfl)
                                                 have ZB := pe_lz_of (t' := m 8) A2 (by omega) hz212.1 hz212.2.1 hz212.2.2
                                                 have hA2 := pe_ra_cu hA1 (fun b hb => (f215 b (by rintro rfl; simp at hb))) (fun j hj => (o215 j (by rintro rfl; simp at hj))) e215
                                                 have hb1 : pe_bg (σ 30) (m 0 0) z212 := by unfold pe_bg; omega
                                                 have hb2 := (pe_bg_eq A2 (by omega)).mp hb1
                                                 exact ⟨hB, (fun b hb => (f289 b (by simp at hb ⊢; try omega)).trans ((f133 b (by simp at hb ⊢; try omega)).trans (rfl))), (fun j hj => (o289 j (by simp at hj ⊢; try omega)).trans ((o133 j (by simp at hj ⊢; try omega)).trans (rfl))), by
                                                   rw [K, pe_q_k (M := pe_eS (pe_eS m 4 (-1)) 1 (pe_lz (m 8) (m 0 0) (m 1 0))) (by omega) (by unfold pe_wk; omega) (by unfold pe_eCmd; (repeat (first | rw [if_pos (by omega)] | rw [if_neg (by omega)])); first | done | rfl)]
                                                   rw [← ZB]; exact pe_ra_Bs hA2 (show 0 ≤ z212 by omega) hb2⟩)
                                              | (have K : (pe_kf (σ 29 14) b) = 65542 := (by unfold pe_kf; (repeat (first | rw [if_pos (by omega)] | rw [if_neg (by omega)])); first | done | rfl)
                                                 have ZB := pe_bf_of (t' := m 8) A2 (by omega) (show m 1 0 + 1 ≤ z253 by omega) hz253.2.1 (fun j a c => hz253.2.2 j (by omega) c)
                                                 rw [c2, ZB] at x256
                                                 exact ⟨hB, (fun b hb => (f289 b (by simp at hb ⊢; try omega)).trans ((f133 b (by simp at hb ⊢; try omega)).trans (rfl))), (fun j hj => (o289 j (by simp at hj ⊢; try omega)).trans ((o133 j (by simp at hj ⊢; try omega)).trans (rfl))), by
                                                   rw [K, pe_q_k (M := pe_eDel (pe_eS m 4 (-1)) (m 1 0) (pe_bf (m 8) (m 0 0) (m 1 0 + 1))) (by omega) (by unfold pe_wk; omega) (by unfold pe_eCmd; (repeat (first | rw [if_pos (by omega)] | rw [if_neg (by omega)])); first | done | rfl)]
                                                   exact x256⟩)
                                              | (have K : (pe_kf (σ 29 14) b) = 65542 := (by unfold pe_kf; (repeat (first | rw [if_pos (by omega)] | rw [if_neg (by omega)])); first | done | rfl)
                                                 skip
                                                 exact ⟨hB, (fun b hb => (f289 b (by simp at hb ⊢; try omega)).trans ((f133 b (by simp at hb ⊢; try omega)).trans (rfl))), (fun j hj => (o289 j (by simp at hj ⊢; try omega)).trans ((o133 j (by simp at hj ⊢; try omega)).trans (rfl))), by
                                                   rw [K, pe_q_k (M := (pe_eS m 4 (-1))) (by omega) (by unfold pe_wk; omega) (by unfold pe_eCmd; (repeat (first | rw [if_pos (by omega)] | rw [if_neg (by omega)])); first | done | rfl)]
                                                   exact pe_ra_Bs hA1 w2.1 hg⟩)
                                              | (have K : (pe_kf (σ 29 14) b) = 65543 := (by unfold pe_kf; (repeat (first | rw [if_pos (by omega)] | rw [if_neg (by omega)])); first | done | rfl)
                                                 have hA2 := pe_ra_pa hA1 (fun b hb => (f289 b (by rintro rfl; simp at hb))) (fun j hj => (o289 j (by rintro rfl; simp at hj))) e289
                                                 exact ⟨hB, (fun b hb => (f289 b (by simp at hb ⊢; try omega)).trans ((f133 b (by simp at hb ⊢; try omega)).trans (rfl))), (fun j hj => (o289 j (by simp at hj ⊢; try omega)).trans ((o133 j (by simp at hj ⊢; try omega)).trans (rfl))), by
                                                   rw [K, pe_q_k (M := pe_eS (pe_eS m 4 (-1)) 6 1) (by omega) (by unfold pe_wk; omega) (by unfold pe_eCmd; (repeat (first | rw [if_pos (by omega)] | rw [if_neg (by omega)])); first | done | rfl)]
                                                   exact pe_ra_Bs hA2 w2.1 hg⟩)
                                              | (have K : (pe_kf (σ 29 14) b) = 65544 := (by unfold pe_kf; (repeat (first | rw [if_pos (by omega)] | rw [if_neg (by omega)])); first | done | rfl)
                                                 have hA2 := pe_ra_pa hA1 (fun b hb => (f289 b (by rintro rfl; simp at hb))) (fun j hj => (o289 j (by rintro rfl; simp at hj))) e289
                                                 exact ⟨hB, (fun b hb => (f289 b (by simp at hb ⊢; try omega)).trans ((f133 b (by simp at hb ⊢; try omega)).trans (rfl))), (fun j hj => (o289 j (by simp at hj ⊢; try omega)).trans ((o133 j (by simp at hj ⊢; try omega)).trans (rfl))), by
                                                   rw [K, pe_q_k (M := pe_eS (pe_eS m 4 (-1)) 6 0) (by omega) (by unfold pe_wk; omega) (by unfold pe_eCmd; (repeat (first | rw [if_pos (by omega)] | rw [if_neg (by omega)])); first | done | rfl)]
                                                   exact pe_ra_Bs hA2 w2.1 hg⟩)
                                      · skip
                                        exfalso; omega
                                  · skip
                                    exfalso; omega
                                · skip
                                  exfalso; omega
                              · skip
                                exfalso; omega
                            · skip
                              exfalso; omega
                          · skip
                            exfalso; omega
                        · skip
                          refine pe_aload_n d_M_finish_110 rfl ?_
                          refine pe_geti f_M_168 d_M_finish_111 rfl rfl 14 rfl ?_
                          refine pe_sipush d_M_finish_114 ?_
                          refine pe_icmp_ne (t := 124) d_M_finish_117 (by first | exact hB _ _ | exact hB0 _ _ | exact hBt _ _ | exact ⟨by omega, by omega⟩) (by first | exact hB _ _ | exact hB0 _ _ | exact hBt _ _ | exact ⟨by omega, by omega⟩) (fun h117 => ?_) (fun h117 => ?_)
                          · skip
                            refine pe_iconst d_M_finish_124 ?_
                            refine pe_istore_n d_M_finish_125 ?_
                            refine pe_iload_n d_M_finish_126 rfl ?_
                            refine pe_if_ne (t := 131) d_M_finish_127 (by first | exact hB _ _ | exact hB0 _ _ | exact hBt _ _ | exact ⟨by omega, by omega⟩) (fun h127 => ?_) (fun h127 => ?_)
                            · skip
                              exfalso; omega
                            · skip
                              refine pe_rv d_M_finish_130 ?_
                              exact ⟨hB, (fun b hb => rfl), (fun j hj => rfl), by rw [show (pe_kf (σ 29 14) b) = -1 from (by unfold pe_kf; (repeat (first | rw [if_pos (by omega)] | rw [if_neg (by omega)])); first | done | rfl), pe_q_n1]; exact hA⟩
                          · skip
                            exfalso; omega
          · skip
            exfalso; omega
      · skip
        refine pe_iload_n d_M_finish_29 rfl ?_
        refine pe_if_ne (t := 34) d_M_finish_30 (by first | exact hB _ _ | exact hB0 _ _ | exact hBt _ _ | exact ⟨by omega, by omega⟩) (fun h30 => ?_) (fun h30 => ?_)
        · skip
          exfalso; omega
        · skip
          refine pe_rv d_M_finish_33 ?_
          exact ⟨hB, (fun b hb => rfl), (fun j hj => rfl), by
            have R := pe_kf_r (σ 29 14) b
            rw [pe_q_ps (by omega) (by omega)]; exact hA⟩
    · skip
      refine pe_iconst d_M_finish_16 ?_
      refine pe_goto (t := 21) d_M_finish_17 ?_
      refine pe_istore_n d_M_finish_21 ?_
      refine pe_aload_n d_M_finish_22 rfl ?_
      refine pe_geti f_M_147 d_M_finish_23 rfl rfl 19 rfl ?_
      refine pe_if_eq (t := 34) d_M_finish_26 (by first | exact hB _ _ | exact hB0 _ _ | exact hBt _ _ | exact ⟨by omega, by omega⟩) (fun h26 => ?_) (fun h26 => ?_)
      · skip
        refine pe_iload_n d_M_finish_34 rfl ?_
        refine pe_bipush d_M_finish_35 ?_
        refine pe_icmp_eq (t := 46) d_M_finish_37 (by first | exact hB _ _ | exact hB0 _ _ | exact hBt _ _ | exact ⟨by omega, by omega⟩) (by first | exact hB _ _ | exact hB0 _ _ | exact hBt _ _ | exact ⟨by omega, by omega⟩) (fun h37 => ?_) (fun h37 => ?_)
        · skip
          exfalso; omega
        · skip
          refine pe_iload_n d_M_finish_40 rfl ?_
          refine pe_bipush d_M_finish_41 ?_
          refine pe_icmp_ne (t := 62) d_M_finish_43 (by first | exact hB _ _ | exact hB0 _ _ | exact hBt _ _ | exact ⟨by omega, by omega⟩) (by first | exact hB _ _ | exact hB0 _ _ | exact hBt _ _ | exact ⟨by omega, by omega⟩) (fun h43 => ?_) (fun h43 => ?_)
          · skip
            refine pe_iload_n d_M_finish_62 rfl ?_
            refine pe_bipush d_M_finish_63 ?_
            refine pe_icmp_eq (t := 120) d_M_finish_65 (by first | exact hB _ _ | exact hB0 _ _ | exact hBt _ _ | exact ⟨by omega, by omega⟩) (by first | exact hB _ _ | exact hB0 _ _ | exact hBt _ _ | exact ⟨by omega, by omega⟩) (fun h65 => ?_) (fun h65 => ?_)
            · skip
              exfalso; omega
            · skip
              refine pe_iload_n d_M_finish_68 rfl ?_
              refine pe_bipush d_M_finish_69 ?_
              refine pe_icmp_eq (t := 120) d_M_finish_71 (by first | exact hB _ _ | exact hB0 _ _ | exact hBt _ _ | exact ⟨by omega, by omega⟩) (by first | exact hB _ _ | exact hB0 _ _ | exact hBt _ _ | exact ⟨by omega, by omega⟩) (fun h71 => ?_) (fun h71 => ?_)
              · skip
                exfalso; omega
              · skip
                refine pe_iload_n d_M_finish_74 rfl ?_
                refine pe_bipush d_M_finish_75 ?_
                refine pe_icmp_eq (t := 120) d_M_finish_77 (by first | exact hB _ _ | exact hB0 _ _ | exact hBt _ _ | exact ⟨by omega, by omega⟩) (by first | exact hB _ _ | exact hB0 _ _ | exact hBt _ _ | exact ⟨by omega, by omega⟩) (fun h77 => ?_) (fun h77 => ?_)
                · skip
                  exfalso; omega
                · skip
                  refine pe_iload_n d_M_finish_80 rfl ?_
                  refine pe_bipush d_M_finish_81 ?_
                  refine pe_icmp_eq (t := 120) d_M_finish_83 (by first | exact hB _ _ | exact hB0 _ _ | exact hBt _ _ | exact ⟨by omega, by omega⟩) (by first | exact hB _ _ | exact hB0 _ _ | exact hBt _ _ | exact ⟨by omega, by omega⟩) (fun h83 => ?_) (fun h83 => ?_)
                  · skip
                    exfalso; omega
                  · skip
                    refine pe_iload_n d_M_finish_86 rfl ?_
                    refine pe_bipush d_M_finish_87 ?_
                    refine pe_icmp_ne (t := 124) d_M_finish_89 (by first | exact hB _ _ | exact hB0 _ _ | exact hBt _ _ | exact ⟨by omega, by omega⟩) (by first | exact hB _ _ | exact hB0 _ _ | exact hBt _ _ | exact ⟨by omega, by omega⟩) (fun h89 => ?_) (fun h89 => ?_)
                    · skip
                      exfalso; omega
                    · skip
                      refine pe_aload_n d_M_finish_92 rfl ?_
                      refine pe_geti f_M_168 d_M_finish_93 rfl rfl 14 rfl ?_
                      refine pe_iconst d_M_finish_96 ?_
                      refine pe_icmp_eq (t := 120) d_M_finish_97 (by first | exact hB _ _ | exact hB0 _ _ | exact hBt _ _ | exact ⟨by omega, by omega⟩) (by first | exact hB _ _ | exact hB0 _ _ | exact hBt _ _ | exact ⟨by omega, by omega⟩) (fun h97 => ?_) (fun h97 => ?_)
                      · skip
                        exfalso; omega
                      · skip
                        refine pe_aload_n d_M_finish_100 rfl ?_
                        refine pe_geti f_M_168 d_M_finish_101 rfl rfl 14 rfl ?_
                        refine pe_sipush d_M_finish_104 ?_
                        refine pe_icmp_eq (t := 120) d_M_finish_107 (by first | exact hB _ _ | exact hB0 _ _ | exact hBt _ _ | exact ⟨by omega, by omega⟩) (by first | exact hB _ _ | exact hB0 _ _ | exact hBt _ _ | exact ⟨by omega, by omega⟩) (fun h107 => ?_) (fun h107 => ?_)
                        · skip
                          exfalso; omega
                        · skip
                          refine pe_aload_n d_M_finish_110 rfl ?_
                          refine pe_geti f_M_168 d_M_finish_111 rfl rfl 14 rfl ?_
                          refine pe_sipush d_M_finish_114 ?_
                          refine pe_icmp_ne (t := 124) d_M_finish_117 (by first | exact hB _ _ | exact hB0 _ _ | exact hBt _ _ | exact ⟨by omega, by omega⟩) (by first | exact hB _ _ | exact hB0 _ _ | exact hBt _ _ | exact ⟨by omega, by omega⟩) (fun h117 => ?_) (fun h117 => ?_)
                          · skip
                            exfalso; omega
                          · skip
                            refine pe_iconst d_M_finish_120 ?_
                            refine pe_goto (t := 125) d_M_finish_121 ?_
                            refine pe_istore_n d_M_finish_125 ?_
                            refine pe_iload_n d_M_finish_126 rfl ?_
                            refine pe_if_ne (t := 131) d_M_finish_127 (by first | exact hB _ _ | exact hB0 _ _ | exact hBt _ _ | exact ⟨by omega, by omega⟩) (fun h127 => ?_) (fun h127 => ?_)
                            · skip
                              refine pe_aload_n d_M_finish_131 rfl ?_
                              refine pe_iconst d_M_finish_132 ?_
                              refine pe_putiT f_M_20 g_11_6 d_M_finish_133 rfl rfl 6 rfl hB (by first | exact hB _ _ | exact hB0 _ _ | exact hBt _ _ | exact ⟨by omega, by omega⟩) (fun σ133 hB e133 o133 f133 => ?_)
                              try have u133_0 : σ133 29 1 = σ 29 1 := by first | exact o133 1 (by decide) | exact congrFun (f133 29 (by decide)) 1
                              try have u133_1 : σ133 29 2 = σ 29 2 := by first | exact o133 2 (by decide) | exact congrFun (f133 29 (by decide)) 2
                              try have u133_2 : σ133 29 3 = σ 29 3 := by first | exact o133 3 (by decide) | exact congrFun (f133 29 (by decide)) 3
                              try have u133_3 : σ133 29 5 = σ 29 5 := by first | exact o133 5 (by decide) | exact congrFun (f133 29 (by decide)) 5
                              try have u133_4 : σ133 29 6 = σ 29 6 := by first | exact o133 6 (by decide) | exact congrFun (f133 29 (by decide)) 6
                              try have u133_5 : σ133 29 7 = σ 29 7 := by first | exact o133 7 (by decide) | exact congrFun (f133 29 (by decide)) 7
                              try have u133_6 : σ133 29 19 = σ 29 19 := by first | exact o133 19 (by decide) | exact congrFun (f133 29 (by decide)) 19
                              try have u133_7 : σ133 29 21 = σ 29 21 := by first | exact o133 21 (by decide) | exact congrFun (f133 29 (by decide)) 21
                              try have u133_8 : σ133 29 14 = σ 29 14 := by first | exact o133 14 (by decide) | exact congrFun (f133 29 (by decide)) 14
                              have hA1 := pe_ra_gl hA (fun b hb => (f133 b (by rintro rfl; simp at hb))) (fun j hj => (o133 j (by rintro rfl; simp at hj))) e133
                              have hw1 := pe_wf_gl (z := -1) hw (by omega)
                              have g0 : pe_eS m 4 (-1) 0 0 = m 0 0 := rfl
                              have g1 : pe_eS m 4 (-1) 1 0 = m 1 0 := rfl
                              have g6 : pe_eS m 4 (-1) 6 0 = m 6 0 := rfl
                              have c2 : σ133 29 2 = m 1 0 := by omega
                              have c1 : σ133 29 1 = m 0 0 := by omega
                              refine pe_iload_n d_M_finish_136 rfl ?_
                              refine pe_bipush d_M_finish_137 ?_
                              refine pe_icmp_ne (t := 165) d_M_finish_139 (by first | exact hB _ _ | exact hB0 _ _ | exact hBt _ _ | exact ⟨by omega, by omega⟩) (by first | exact hB _ _ | exact hB0 _ _ | exact hBt _ _ | exact ⟨by omega, by omega⟩) (fun h139 => ?_) (fun h139 => ?_)
                              · skip
                                refine pe_iload_n d_M_finish_165 rfl ?_
                                refine pe_bipush d_M_finish_166 ?_
                                refine pe_icmp_ne (t := 190) d_M_finish_168 (by first | exact hB _ _ | exact hB0 _ _ | exact hBt _ _ | exact ⟨by omega, by omega⟩) (by first | exact hB _ _ | exact hB0 _ _ | exact hBt _ _ | exact ⟨by omega, by omega⟩) (fun h168 => ?_) (fun h168 => ?_)
                                · skip
                                  refine pe_iload_n d_M_finish_190 rfl ?_
                                  refine pe_bipush d_M_finish_191 ?_
                                  refine pe_icmp_ne (t := 204) d_M_finish_193 (by first | exact hB _ _ | exact hB0 _ _ | exact hBt _ _ | exact ⟨by omega, by omega⟩) (by first | exact hB _ _ | exact hB0 _ _ | exact hBt _ _ | exact ⟨by omega, by omega⟩) (fun h193 => ?_) (fun h193 => ?_)
                                  · skip
                                    refine pe_iload_n d_M_finish_204 rfl ?_
                                    refine pe_bipush d_M_finish_205 ?_
                                    refine pe_icmp_ne (t := 218) d_M_finish_207 (by first | exact hB _ _ | exact hB0 _ _ | exact hBt _ _ | exact ⟨by omega, by omega⟩) (by first | exact hB _ _ | exact hB0 _ _ | exact hBt _ _ | exact ⟨by omega, by omega⟩) (fun h207 => ?_) (fun h207 => ?_)
                                    · skip
                                      refine pe_iload_n d_M_finish_218 rfl ?_
                                      refine pe_bipush d_M_finish_219 ?_
                                      refine pe_icmp_ne (t := 259) d_M_finish_221 (by first | exact hB _ _ | exact hB0 _ _ | exact hBt _ _ | exact ⟨by omega, by omega⟩) (by first | exact hB _ _ | exact hB0 _ _ | exact hBt _ _ | exact ⟨by omega, by omega⟩) (fun h221 => ?_) (fun h221 => ?_)
                                      · skip
                                        exfalso; omega
                                      · skip
                                        refine pe_aload_n d_M_finish_224 rfl ?_
                                        refine pe_geti f_M_168 d_M_finish_225 rfl rfl 14 rfl ?_
                                        refine pe_iconst d_M_finish_228 ?_
                                        refine pe_icmp_ne (t := 259) d_M_finish_229 (by first | exact hB _ _ | exact hB0 _ _ | exact hBt _ _ | exact ⟨by omega, by omega⟩) (by first | exact hB _ _ | exact hB0 _ _ | exact hBt _ _ | exact ⟨by omega, by omega⟩) (fun h229 => ?_) (fun h229 => ?_)
                                        · skip
                                          refine pe_iload_n d_M_finish_259 rfl ?_
                                          refine pe_bipush d_M_finish_260 ?_
                                          refine pe_icmp_ne (t := 292) d_M_finish_262 (by first | exact hB _ _ | exact hB0 _ _ | exact hBt _ _ | exact ⟨by omega, by omega⟩) (by first | exact hB _ _ | exact hB0 _ _ | exact hBt _ _ | exact ⟨by omega, by omega⟩) (fun h262 => ?_) (fun h262 => ?_)
                                          · skip
                                            exfalso; omega
                                          · skip
                                            refine pe_aload_n d_M_finish_265 rfl ?_
                                            refine pe_geti f_M_168 d_M_finish_266 rfl rfl 14 rfl ?_
                                            refine pe_iconst d_M_finish_269 ?_
                                            refine pe_icmp_le (t := 292) d_M_finish_270 (by first | exact hB _ _ | exact hB0 _ _ | exact hBt _ _ | exact ⟨by omega, by omega⟩) (by first | exact hB _ _ | exact hB0 _ _ | exact hBt _ _ | exact ⟨by omega, by omega⟩) (fun h270 => ?_) (fun h270 => ?_)
                                            · skip
                                              exfalso; omega
                                            · skip
                                              refine pe_aload_n d_M_finish_273 rfl ?_
                                              refine pe_aload_n d_M_finish_274 rfl ?_
                                              refine pe_geti f_M_168 d_M_finish_275 rfl rfl 14 rfl ?_
                                              refine pe_sipush d_M_finish_278 ?_
                                              refine pe_icmp_ne (t := 288) d_M_finish_281 (by first | exact hB _ _ | exact hB0 _ _ | exact hBt _ _ | exact ⟨by omega, by omega⟩) (by first | exact hB _ _ | exact hB0 _ _ | exact hBt _ _ | exact ⟨by omega, by omega⟩) (fun h281 => ?_) (fun h281 => ?_)
                                              · skip
                                                refine pe_iconst d_M_finish_288 ?_
                                                refine pe_putzT f_M_147 g_11_19 d_M_finish_289 rfl rfl (by first | exact Or.inl rfl | exact Or.inr rfl | omega) 19 rfl hB (fun σ289 hB e289 o289 f289 => ?_)
                                                try have u289_0 : σ289 29 1 = σ133 29 1 := by first | exact o289 1 (by decide) | exact congrFun (f289 29 (by decide)) 1
                                                try have u289_1 : σ289 29 2 = σ133 29 2 := by first | exact o289 2 (by decide) | exact congrFun (f289 29 (by decide)) 2
                                                try have u289_2 : σ289 29 3 = σ133 29 3 := by first | exact o289 3 (by decide) | exact congrFun (f289 29 (by decide)) 3
                                                try have u289_3 : σ289 29 5 = σ133 29 5 := by first | exact o289 5 (by decide) | exact congrFun (f289 29 (by decide)) 5
                                                try have u289_4 : σ289 29 6 = σ133 29 6 := by first | exact o289 6 (by decide) | exact congrFun (f289 29 (by decide)) 6
                                                try have u289_5 : σ289 29 7 = σ133 29 7 := by first | exact o289 7 (by decide) | exact congrFun (f289 29 (by decide)) 7
                                                try have u289_6 : σ289 29 19 = σ133 29 19 := by first | exact o289 19 (by decide) | exact congrFun (f289 29 (by decide)) 19
                                                try have u289_7 : σ289 29 21 = σ133 29 21 := by first | exact o289 21 (by decide) | exact congrFun (f289 29 (by decide)) 21
                                                try have u289_8 : σ289 29 14 = σ133 29 14 := by first | exact o289 14 (by decide) | exact congrFun (f289 29 (by decide)) 14
                                                refine pe_rv d_M_finish_292 ?_
                                                first
                                                | (have K : (pe_kf (σ 29 14) b) = 65538 := (by unfold pe_kf; (repeat (first | rw [if_pos (by omega)] | rw [if_neg (by omega)])); first | done | rfl)
                                                   have ZB := pe_bf_of (t' := m 8) A2 (by omega) (show m 1 0 + 1 ≤ z159 by omega) hz159.2.1 (fun j a c => hz159.2.2 j (by omega) c)
                                                   have hA2 := pe_ra_cu hA1 (fun b hb => (f162 b (by rintro rfl; simp at hb))) (fun j hj => (o162 j (by rintro rfl; simp at hj))) e162
                                                   have hb2 := (pe_bg_eq A2 (by omega)).mp hz159.2.1
                                                   exact ⟨hB, (fun b hb => (f289 b (by simp at hb ⊢; try omega)).trans ((f133 b (by simp at hb ⊢; try omega)).trans (rfl))), (fun j hj => (o289 j (by simp at hj ⊢; try omega)).trans ((o133 j (by simp at hj ⊢; try omega)).trans (rfl))), by
                                                     rw [K, pe_q_k (M := pe_eS (pe_eS m 4 (-1)) 1 (pe_bf (m 8) (m 0 0) (m 1 0 + 1))) (by omega) (by unfold pe_wk; omega) (by unfold pe_eCmd; (repeat (first | rw [if_pos (by omega)] | rw [if_neg (by omega)])); first | done | rfl)]
                                                     rw [← ZB]; exact pe_ra_Bs hA2 (show 0 ≤ z159 by omega) hb2⟩)
                                                | (have K : (pe_kf (σ 29 14) b) = 65538 := (by unfold pe_kf; (repeat (first | rw [if_pos (by omega)] | rw [if_neg (by omega)])); first | done | rfl)
                                                   skip
                                                   exact ⟨hB, (fun b hb => (f289 b (by simp at hb ⊢; try omega)).trans ((f133 b (by simp at hb ⊢; try omega)).trans (rfl))), (fun j hj => (o289 j (by simp at hj ⊢; try omega)).trans ((o133 j (by simp at hj ⊢; try omega)).trans (rfl))), by
                                                     rw [K, pe_q_k (M := (pe_eS m 4 (-1))) (by omega) (by unfold pe_wk; omega) (by unfold pe_eCmd; (repeat (first | rw [if_pos (by omega)] | rw [if_neg (by omega)])); first | done | rfl)]
                                                     exact pe_ra_Bs hA1 w2.1 hg⟩)
                                                | (have K : (pe_kf (σ 29 14) b) = 65539 := (by unfold pe_kf; (repeat (first | rw [if_pos (by omega)] | rw [if_neg (by omega)])); first | done | rfl)
                                                   have ZB := pe_ba_of (t' := m 8) A2 hz184.1 hz184.2.1 hz184.2.2
                                                   have hA2 := pe_ra_cu hA1 (fun b hb => (f187 b (by rintro rfl; simp at hb))) (fun j hj => (o187 j (by rintro rfl; simp at hj))) e187
                                                   have hb2 := (pe_bg_eq A2 (by omega)).mp hz184.2.1
                                                   exact ⟨hB, (fun b hb => (f289 b (by simp at hb ⊢; try omega)).trans ((f133 b (by simp at hb ⊢; try omega)).trans (rfl))), (fun j hj => (o289 j (by simp at hj ⊢; try omega)).trans ((o133 j (by simp at hj ⊢; try omega)).trans (rfl))), by
                                                     rw [K, pe_q_k (M := pe_eS (pe_eS m 4 (-1)) 1 (pe_ba (m 8) (m 0 0) (m 1 0))) (by omega) (by unfold pe_wk; omega) (by unfold pe_eCmd; (repeat (first | rw [if_pos (by omega)] | rw [if_neg (by omega)])); first | done | rfl)]
                                                     rw [← ZB]; exact pe_ra_Bs hA2 (show 0 ≤ z184 by omega) hb2⟩)
                                                | (have K : (pe_kf (σ 29 14) b) = 65539 := (by unfold pe_kf; (repeat (first | rw [if_pos (by omega)] | rw [if_neg (by omega)])); first | done | rfl)
                                                   skip
                                                   exact ⟨hB, (fun b hb => (f289 b (by simp at hb ⊢; try omega)).trans ((f133 b (by simp at hb ⊢; try omega)).trans (rfl))), (fun j hj => (o289 j (by simp at hj ⊢; try omega)).trans ((o133 j (by simp at hj ⊢; try omega)).trans (rfl))), by
                                                     rw [K, pe_q_k (M := (pe_eS m 4 (-1))) (by omega) (by unfold pe_wk; omega) (by unfold pe_eCmd; (repeat (first | rw [if_pos (by omega)] | rw [if_neg (by omega)])); first | done | rfl)]
                                                     exact pe_ra_Bs hA1 w2.1 hg⟩)
                                                | (have K : (pe_kf (σ 29 14) b) = 65540 := (by unfold pe_kf; (repeat (first | rw [if_pos (by omega)] | rw [if_neg (by omega)])); first | done | rfl)
                                                   have ZB := pe_lb_of (t' := m 8) A2 (by omega) hz198.1 hz198.2.1 hz198.2.2
                                                   have hA2 := pe_ra_cu hA1 (fun b hb => (f201 b (by rintro rfl; simp at hb))) (fun j hj => (o201 j (by rintro rfl; simp at hj))) e201
                                                   have hb1 : pe_bg (σ 30) (m 0 0) z198 := by unfold pe_bg; omega
                                                   have hb2 := (pe_bg_eq A2 (by omega)).mp hb1
                                                   exact ⟨hB, (fun b hb => (f289 b (by simp at hb ⊢; try omega)).trans ((f133 b (by simp at hb ⊢; try omega)).trans (rfl))), (fun j hj => (o289 j (by simp at hj ⊢; try omega)).trans ((o133 j (by simp at hj ⊢; try omega)).trans (rfl))), by
                                                     rw [K, pe_q_k (M := pe_eS (pe_eS m 4 (-1)) 1 (pe_lb (m 8) (m 1 0))) (by omega) (by unfold pe_wk; omega) (by unfold pe_eCmd; (repeat (first | rw [if_pos (by omega)] | rw [if_neg (by omega)])); first | done | rfl)]
                                                     rw [← ZB]; exact pe_ra_Bs hA2 (show 0 ≤ z198 by omega) hb2⟩)
                                                | (have K : (pe_kf (σ 29 14) b) = 65541 := (by unfold pe_kf; (repeat (first | rw [if_pos (by omega)] | rw [if_neg (by omega)])); first | done | rfl)
                                                   have ZB := pe_lz_of (t' := m 8) A2 (by omega) hz212.1 hz212.2.1 hz212.2.2
                                                   have hA2 := pe_ra_cu hA1 (fun b hb => (f215 b (by rintro rfl; simp at hb))) (fun j hj => (o215 j (by rintro rfl; simp at hj))) e215
                                                   have hb1 : pe_bg (σ 30) (m 0 0) z212 := by unfold pe_bg; omega
                                                   have hb2 := (pe_bg_eq A2 (by omega)).mp hb1
                                                   exact ⟨hB, (fun b hb => (f289 b (by simp at hb ⊢; try omega)).trans ((f133 b (by simp at hb ⊢; try omega)).trans (rfl))), (fun j hj => (o289 j (by simp at hj ⊢; try omega)).trans ((o133 j (by simp at hj ⊢; try omega)).trans (rfl))), by
                                                     rw [K, pe_q_k (M := pe_eS (pe_eS m 4 (-1)) 1 (pe_lz (m 8) (m 0 0) (m 1 0))) (by omega) (by unfold pe_wk; omega) (by unfold pe_eCmd; (repeat (first | rw [if_pos (by omega)] | rw [if_neg (by omega)])); first | done | rfl)]
                                                     rw [← ZB]; exact pe_ra_Bs hA2 (show 0 ≤ z212 by omega) hb2⟩)
                                                | (have K : (pe_kf (σ 29 14) b) = 65542 := (by unfold pe_kf; (repeat (first | rw [if_pos (by omega)] | rw [if_neg (by omega)])); first | done | rfl)
                                                   have ZB := pe_bf_of (t' := m 8) A2 (by omega) (show m 1 0 + 1 ≤ z253 by omega) hz253.2.1 (fun j a c => hz253.2.2 j (by omega) c)
                                                   rw [c2, ZB] at x256
                                                   exact ⟨hB, (fun b hb => (f289 b (by simp at hb ⊢; try omega)).trans ((f133 b (by simp at hb ⊢; try omega)).trans (rfl))), (fun j hj => (o289 j (by simp at hj ⊢; try omega)).trans ((o133 j (by simp at hj ⊢; try omega)).trans (rfl))), by
                                                     rw [K, pe_q_k (M := pe_eDel (pe_eS m 4 (-1)) (m 1 0) (pe_bf (m 8) (m 0 0) (m 1 0 + 1))) (by omega) (by unfold pe_wk; omega) (by unfold pe_eCmd; (repeat (first | rw [if_pos (by omega)] | rw [if_neg (by omega)])); first | done | rfl)]
                                                     exact x256⟩)
                                                | (have K : (pe_kf (σ 29 14) b) = 65542 := (by unfold pe_kf; (repeat (first | rw [if_pos (by omega)] | rw [if_neg (by omega)])); first | done | rfl)
                                                   skip
                                                   exact ⟨hB, (fun b hb => (f289 b (by simp at hb ⊢; try omega)).trans ((f133 b (by simp at hb ⊢; try omega)).trans (rfl))), (fun j hj => (o289 j (by simp at hj ⊢; try omega)).trans ((o133 j (by simp at hj ⊢; try omega)).trans (rfl))), by
                                                     rw [K, pe_q_k (M := (pe_eS m 4 (-1))) (by omega) (by unfold pe_wk; omega) (by unfold pe_eCmd; (repeat (first | rw [if_pos (by omega)] | rw [if_neg (by omega)])); first | done | rfl)]
                                                     exact pe_ra_Bs hA1 w2.1 hg⟩)
                                                | (have K : (pe_kf (σ 29 14) b) = 65543 := (by unfold pe_kf; (repeat (first | rw [if_pos (by omega)] | rw [if_neg (by omega)])); first | done | rfl)
                                                   have hA2 := pe_ra_pa hA1 (fun b hb => (f289 b (by rintro rfl; simp at hb))) (fun j hj => (o289 j (by rintro rfl; simp at hj))) e289
                                                   exact ⟨hB, (fun b hb => (f289 b (by simp at hb ⊢; try omega)).trans ((f133 b (by simp at hb ⊢; try omega)).trans (rfl))), (fun j hj => (o289 j (by simp at hj ⊢; try omega)).trans ((o133 j (by simp at hj ⊢; try omega)).trans (rfl))), by
                                                     rw [K, pe_q_k (M := pe_eS (pe_eS m 4 (-1)) 6 1) (by omega) (by unfold pe_wk; omega) (by unfold pe_eCmd; (repeat (first | rw [if_pos (by omega)] | rw [if_neg (by omega)])); first | done | rfl)]
                                                     exact pe_ra_Bs hA2 w2.1 hg⟩)
                                                | (have K : (pe_kf (σ 29 14) b) = 65544 := (by unfold pe_kf; (repeat (first | rw [if_pos (by omega)] | rw [if_neg (by omega)])); first | done | rfl)
                                                   have hA2 := pe_ra_pa hA1 (fun b hb => (f289 b (by rintro rfl; simp at hb))) (fun j hj => (o289 j (by rintro rfl; simp at hj))) e289
                                                   exact ⟨hB, (fun b hb => (f289 b (by simp at hb ⊢; try omega)).trans ((f133 b (by simp at hb ⊢; try omega)).trans (rfl))), (fun j hj => (o289 j (by simp at hj ⊢; try omega)).trans ((o133 j (by simp at hj ⊢; try omega)).trans (rfl))), by
                                                     rw [K, pe_q_k (M := pe_eS (pe_eS m 4 (-1)) 6 0) (by omega) (by unfold pe_wk; omega) (by unfold pe_eCmd; (repeat (first | rw [if_pos (by omega)] | rw [if_neg (by omega)])); first | done | rfl)]
                                                     exact pe_ra_Bs hA2 w2.1 hg⟩)
                                              · skip
                                                exfalso; omega
                                        · skip
                                          exfalso; omega
                                    · skip
                                      exfalso; omega
                                  · skip
                                    exfalso; omega
                                · skip
                                  exfalso; omega
                              · skip
                                exfalso; omega
                            · skip
                              exfalso; omega
          · skip
            exfalso; omega
      · skip
        refine pe_iload_n d_M_finish_29 rfl ?_
        refine pe_if_ne (t := 34) d_M_finish_30 (by first | exact hB _ _ | exact hB0 _ _ | exact hBt _ _ | exact ⟨by omega, by omega⟩) (fun h30 => ?_) (fun h30 => ?_)
        · skip
          refine pe_iload_n d_M_finish_34 rfl ?_
          refine pe_bipush d_M_finish_35 ?_
          refine pe_icmp_eq (t := 46) d_M_finish_37 (by first | exact hB _ _ | exact hB0 _ _ | exact hBt _ _ | exact ⟨by omega, by omega⟩) (by first | exact hB _ _ | exact hB0 _ _ | exact hBt _ _ | exact ⟨by omega, by omega⟩) (fun h37 => ?_) (fun h37 => ?_)
          · skip
            exfalso; omega
          · skip
            refine pe_iload_n d_M_finish_40 rfl ?_
            refine pe_bipush d_M_finish_41 ?_
            refine pe_icmp_ne (t := 62) d_M_finish_43 (by first | exact hB _ _ | exact hB0 _ _ | exact hBt _ _ | exact ⟨by omega, by omega⟩) (by first | exact hB _ _ | exact hB0 _ _ | exact hBt _ _ | exact ⟨by omega, by omega⟩) (fun h43 => ?_) (fun h43 => ?_)
            · skip
              refine pe_iload_n d_M_finish_62 rfl ?_
              refine pe_bipush d_M_finish_63 ?_
              refine pe_icmp_eq (t := 120) d_M_finish_65 (by first | exact hB _ _ | exact hB0 _ _ | exact hBt _ _ | exact ⟨by omega, by omega⟩) (by first | exact hB _ _ | exact hB0 _ _ | exact hBt _ _ | exact ⟨by omega, by omega⟩) (fun h65 => ?_) (fun h65 => ?_)
              · skip
                exfalso; omega
              · skip
                refine pe_iload_n d_M_finish_68 rfl ?_
                refine pe_bipush d_M_finish_69 ?_
                refine pe_icmp_eq (t := 120) d_M_finish_71 (by first | exact hB _ _ | exact hB0 _ _ | exact hBt _ _ | exact ⟨by omega, by omega⟩) (by first | exact hB _ _ | exact hB0 _ _ | exact hBt _ _ | exact ⟨by omega, by omega⟩) (fun h71 => ?_) (fun h71 => ?_)
                · skip
                  exfalso; omega
                · skip
                  refine pe_iload_n d_M_finish_74 rfl ?_
                  refine pe_bipush d_M_finish_75 ?_
                  refine pe_icmp_eq (t := 120) d_M_finish_77 (by first | exact hB _ _ | exact hB0 _ _ | exact hBt _ _ | exact ⟨by omega, by omega⟩) (by first | exact hB _ _ | exact hB0 _ _ | exact hBt _ _ | exact ⟨by omega, by omega⟩) (fun h77 => ?_) (fun h77 => ?_)
                  · skip
                    exfalso; omega
                  · skip
                    refine pe_iload_n d_M_finish_80 rfl ?_
                    refine pe_bipush d_M_finish_81 ?_
                    refine pe_icmp_eq (t := 120) d_M_finish_83 (by first | exact hB _ _ | exact hB0 _ _ | exact hBt _ _ | exact ⟨by omega, by omega⟩) (by first | exact hB _ _ | exact hB0 _ _ | exact hBt _ _ | exact ⟨by omega, by omega⟩) (fun h83 => ?_) (fun h83 => ?_)
                    · skip
                      exfalso; omega
                    · skip
                      refine pe_iload_n d_M_finish_86 rfl ?_
                      refine pe_bipush d_M_finish_87 ?_
                      refine pe_icmp_ne (t := 124) d_M_finish_89 (by first | exact hB _ _ | exact hB0 _ _ | exact hBt _ _ | exact ⟨by omega, by omega⟩) (by first | exact hB _ _ | exact hB0 _ _ | exact hBt _ _ | exact ⟨by omega, by omega⟩) (fun h89 => ?_) (fun h89 => ?_)
                      · skip
                        exfalso; omega
                      · skip
                        refine pe_aload_n d_M_finish_92 rfl ?_
                        refine pe_geti f_M_168 d_M_finish_93 rfl rfl 14 rfl ?_
                        refine pe_iconst d_M_finish_96 ?_
                        refine pe_icmp_eq (t := 120) d_M_finish_97 (by first | exact hB _ _ | exact hB0 _ _ | exact hBt _ _ | exact ⟨by omega, by omega⟩) (by first | exact hB _ _ | exact hB0 _ _ | exact hBt _ _ | exact ⟨by omega, by omega⟩) (fun h97 => ?_) (fun h97 => ?_)
                        · skip
                          exfalso; omega
                        · skip
                          refine pe_aload_n d_M_finish_100 rfl ?_
                          refine pe_geti f_M_168 d_M_finish_101 rfl rfl 14 rfl ?_
                          refine pe_sipush d_M_finish_104 ?_
                          refine pe_icmp_eq (t := 120) d_M_finish_107 (by first | exact hB _ _ | exact hB0 _ _ | exact hBt _ _ | exact ⟨by omega, by omega⟩) (by first | exact hB _ _ | exact hB0 _ _ | exact hBt _ _ | exact ⟨by omega, by omega⟩) (fun h107 => ?_) (fun h107 => ?_)
                          · skip
                            exfalso; omega
                          · skip
                            refine pe_aload_n d_M_finish_110 rfl ?_
                            refine pe_geti f_M_168 d_M_finish_111 rfl rfl 14 rfl ?_
                            refine pe_sipush d_M_finish_114 ?_
                            refine pe_icmp_ne (t := 124) d_M_finish_117 (by first | exact hB _ _ | exact hB0 _ _ | exact hBt _ _ | exact ⟨by omega, by omega⟩) (by first | exact hB _ _ | exact hB0 _ _ | exact hBt _ _ | exact ⟨by omega, by omega⟩) (fun h117 => ?_) (fun h117 => ?_)
                            · skip
                              exfalso; omega
                            · skip
                              refine pe_iconst d_M_finish_120 ?_
                              refine pe_goto (t := 125) d_M_finish_121 ?_
                              refine pe_istore_n d_M_finish_125 ?_
                              refine pe_iload_n d_M_finish_126 rfl ?_
                              refine pe_if_ne (t := 131) d_M_finish_127 (by first | exact hB _ _ | exact hB0 _ _ | exact hBt _ _ | exact ⟨by omega, by omega⟩) (fun h127 => ?_) (fun h127 => ?_)
                              · skip
                                refine pe_aload_n d_M_finish_131 rfl ?_
                                refine pe_iconst d_M_finish_132 ?_
                                refine pe_putiT f_M_20 g_11_6 d_M_finish_133 rfl rfl 6 rfl hB (by first | exact hB _ _ | exact hB0 _ _ | exact hBt _ _ | exact ⟨by omega, by omega⟩) (fun σ133 hB e133 o133 f133 => ?_)
                                try have u133_0 : σ133 29 1 = σ 29 1 := by first | exact o133 1 (by decide) | exact congrFun (f133 29 (by decide)) 1
                                try have u133_1 : σ133 29 2 = σ 29 2 := by first | exact o133 2 (by decide) | exact congrFun (f133 29 (by decide)) 2
                                try have u133_2 : σ133 29 3 = σ 29 3 := by first | exact o133 3 (by decide) | exact congrFun (f133 29 (by decide)) 3
                                try have u133_3 : σ133 29 5 = σ 29 5 := by first | exact o133 5 (by decide) | exact congrFun (f133 29 (by decide)) 5
                                try have u133_4 : σ133 29 6 = σ 29 6 := by first | exact o133 6 (by decide) | exact congrFun (f133 29 (by decide)) 6
                                try have u133_5 : σ133 29 7 = σ 29 7 := by first | exact o133 7 (by decide) | exact congrFun (f133 29 (by decide)) 7
                                try have u133_6 : σ133 29 19 = σ 29 19 := by first | exact o133 19 (by decide) | exact congrFun (f133 29 (by decide)) 19
                                try have u133_7 : σ133 29 21 = σ 29 21 := by first | exact o133 21 (by decide) | exact congrFun (f133 29 (by decide)) 21
                                try have u133_8 : σ133 29 14 = σ 29 14 := by first | exact o133 14 (by decide) | exact congrFun (f133 29 (by decide)) 14
                                have hA1 := pe_ra_gl hA (fun b hb => (f133 b (by rintro rfl; simp at hb))) (fun j hj => (o133 j (by rintro rfl; simp at hj))) e133
                                have hw1 := pe_wf_gl (z := -1) hw (by omega)
                                have g0 : pe_eS m 4 (-1) 0 0 = m 0 0 := rfl
                                have g1 : pe_eS m 4 (-1) 1 0 = m 1 0 := rfl
                                have g6 : pe_eS m 4 (-1) 6 0 = m 6 0 := rfl
                                have c2 : σ133 29 2 = m 1 0 := by omega
                                have c1 : σ133 29 1 = m 0 0 := by omega
                                refine pe_iload_n d_M_finish_136 rfl ?_
                                refine pe_bipush d_M_finish_137 ?_
                                refine pe_icmp_ne (t := 165) d_M_finish_139 (by first | exact hB _ _ | exact hB0 _ _ | exact hBt _ _ | exact ⟨by omega, by omega⟩) (by first | exact hB _ _ | exact hB0 _ _ | exact hBt _ _ | exact ⟨by omega, by omega⟩) (fun h139 => ?_) (fun h139 => ?_)
                                · skip
                                  refine pe_iload_n d_M_finish_165 rfl ?_
                                  refine pe_bipush d_M_finish_166 ?_
                                  refine pe_icmp_ne (t := 190) d_M_finish_168 (by first | exact hB _ _ | exact hB0 _ _ | exact hBt _ _ | exact ⟨by omega, by omega⟩) (by first | exact hB _ _ | exact hB0 _ _ | exact hBt _ _ | exact ⟨by omega, by omega⟩) (fun h168 => ?_) (fun h168 => ?_)
                                  · skip
                                    refine pe_iload_n d_M_finish_190 rfl ?_
                                    refine pe_bipush d_M_finish_191 ?_
                                    refine pe_icmp_ne (t := 204) d_M_finish_193 (by first | exact hB _ _ | exact hB0 _ _ | exact hBt _ _ | exact ⟨by omega, by omega⟩) (by first | exact hB _ _ | exact hB0 _ _ | exact hBt _ _ | exact ⟨by omega, by omega⟩) (fun h193 => ?_) (fun h193 => ?_)
                                    · skip
                                      refine pe_iload_n d_M_finish_204 rfl ?_
                                      refine pe_bipush d_M_finish_205 ?_
                                      refine pe_icmp_ne (t := 218) d_M_finish_207 (by first | exact hB _ _ | exact hB0 _ _ | exact hBt _ _ | exact ⟨by omega, by omega⟩) (by first | exact hB _ _ | exact hB0 _ _ | exact hBt _ _ | exact ⟨by omega, by omega⟩) (fun h207 => ?_) (fun h207 => ?_)
                                      · skip
                                        refine pe_iload_n d_M_finish_218 rfl ?_
                                        refine pe_bipush d_M_finish_219 ?_
                                        refine pe_icmp_ne (t := 259) d_M_finish_221 (by first | exact hB _ _ | exact hB0 _ _ | exact hBt _ _ | exact ⟨by omega, by omega⟩) (by first | exact hB _ _ | exact hB0 _ _ | exact hBt _ _ | exact ⟨by omega, by omega⟩) (fun h221 => ?_) (fun h221 => ?_)
                                        · skip
                                          exfalso; omega
                                        · skip
                                          refine pe_aload_n d_M_finish_224 rfl ?_
                                          refine pe_geti f_M_168 d_M_finish_225 rfl rfl 14 rfl ?_
                                          refine pe_iconst d_M_finish_228 ?_
                                          refine pe_icmp_ne (t := 259) d_M_finish_229 (by first | exact hB _ _ | exact hB0 _ _ | exact hBt _ _ | exact ⟨by omega, by omega⟩) (by first | exact hB _ _ | exact hB0 _ _ | exact hBt _ _ | exact ⟨by omega, by omega⟩) (fun h229 => ?_) (fun h229 => ?_)
                                          · skip
                                            refine pe_iload_n d_M_finish_259 rfl ?_
                                            refine pe_bipush d_M_finish_260 ?_
                                            refine pe_icmp_ne (t := 292) d_M_finish_262 (by first | exact hB _ _ | exact hB0 _ _ | exact hBt _ _ | exact ⟨by omega, by omega⟩) (by first | exact hB _ _ | exact hB0 _ _ | exact hBt _ _ | exact ⟨by omega, by omega⟩) (fun h262 => ?_) (fun h262 => ?_)
                                            · skip
                                              exfalso; omega
                                            · skip
                                              refine pe_aload_n d_M_finish_265 rfl ?_
                                              refine pe_geti f_M_168 d_M_finish_266 rfl rfl 14 rfl ?_
                                              refine pe_iconst d_M_finish_269 ?_
                                              refine pe_icmp_le (t := 292) d_M_finish_270 (by first | exact hB _ _ | exact hB0 _ _ | exact hBt _ _ | exact ⟨by omega, by omega⟩) (by first | exact hB _ _ | exact hB0 _ _ | exact hBt _ _ | exact ⟨by omega, by omega⟩) (fun h270 => ?_) (fun h270 => ?_)
                                              · skip
                                                exfalso; omega
                                              · skip
                                                refine pe_aload_n d_M_finish_273 rfl ?_
                                                refine pe_aload_n d_M_finish_274 rfl ?_
                                                refine pe_geti f_M_168 d_M_finish_275 rfl rfl 14 rfl ?_
                                                refine pe_sipush d_M_finish_278 ?_
                                                refine pe_icmp_ne (t := 288) d_M_finish_281 (by first | exact hB _ _ | exact hB0 _ _ | exact hBt _ _ | exact ⟨by omega, by omega⟩) (by first | exact hB _ _ | exact hB0 _ _ | exact hBt _ _ | exact ⟨by omega, by omega⟩) (fun h281 => ?_) (fun h281 => ?_)
                                                · skip
                                                  refine pe_iconst d_M_finish_288 ?_
                                                  refine pe_putzT f_M_147 g_11_19 d_M_finish_289 rfl rfl (by first | exact Or.inl rfl | exact Or.inr rfl | omega) 19 rfl hB (fun σ289 hB e289 o289 f289 => ?_)
                                                  try have u289_0 : σ289 29 1 = σ133 29 1 := by first | exact o289 1 (by decide) | exact congrFun (f289 29 (by decide)) 1
                                                  try have u289_1 : σ289 29 2 = σ133 29 2 := by first | exact o289 2 (by decide) | exact congrFun (f289 29 (by decide)) 2
                                                  try have u289_2 : σ289 29 3 = σ133 29 3 := by first | exact o289 3 (by decide) | exact congrFun (f289 29 (by decide)) 3
                                                  try have u289_3 : σ289 29 5 = σ133 29 5 := by first | exact o289 5 (by decide) | exact congrFun (f289 29 (by decide)) 5
                                                  try have u289_4 : σ289 29 6 = σ133 29 6 := by first | exact o289 6 (by decide) | exact congrFun (f289 29 (by decide)) 6
                                                  try have u289_5 : σ289 29 7 = σ133 29 7 := by first | exact o289 7 (by decide) | exact congrFun (f289 29 (by decide)) 7
                                                  try have u289_6 : σ289 29 19 = σ133 29 19 := by first | exact o289 19 (by decide) | exact congrFun (f289 29 (by decide)) 19
                                                  try have u289_7 : σ289 29 21 = σ133 29 21 := by first | exact o289 21 (by decide) | exact congrFun (f289 29 (by decide)) 21
                                                  try have u289_8 : σ289 29 14 = σ133 29 14 := by first | exact o289 14 (by decide) | exact congrFun (f289 29 (by decide)) 14
                                                  refine pe_rv d_M_finish_292 ?_
                                                  first
                                                  | (have K : (pe_kf (σ 29 14) b) = 65538 := (by unfold pe_kf; (repeat (first | rw [if_pos (by omega)] | rw [if_neg (by omega)])); first | done | rfl)
                                                     have ZB := pe_bf_of (t' := m 8) A2 (by omega) (show m 1 0 + 1 ≤ z159 by omega) hz159.2.1 (fun j a c => hz159.2.2 j (by omega) c)
                                                     have hA2 := pe_ra_cu hA1 (fun b hb => (f162 b (by rintro rfl; simp at hb))) (fun j hj => (o162 j (by rintro rfl; simp at hj))) e162
                                                     have hb2 := (pe_bg_eq A2 (by omega)).mp hz159.2.1
                                                     exact ⟨hB, (fun b hb => (f289 b (by simp at hb ⊢; try omega)).trans ((f133 b (by simp at hb ⊢; try omega)).trans (rfl))), (fun j hj => (o289 j (by simp at hj ⊢; try omega)).trans ((o133 j (by simp at hj ⊢; try omega)).trans (rfl))), by
                                                       rw [K, pe_q_k (M := pe_eS (pe_eS m 4 (-1)) 1 (pe_bf (m 8) (m 0 0) (m 1 0 + 1))) (by omega) (by unfold pe_wk; omega) (by unfold pe_eCmd; (repeat (first | rw [if_pos (by omega)] | rw [if_neg (by omega)])); first | done | rfl)]
                                                       rw [← ZB]; exact pe_ra_Bs hA2 (show 0 ≤ z159 by omega) hb2⟩)
                                                  | (have K : (pe_kf (σ 29 14) b) = 65538 := (by unfold pe_kf; (repeat (first | rw [if_pos (by omega)] | rw [if_neg (by omega)])); first | done | rfl)
                                                     skip
                                                     exact ⟨hB, (fun b hb => (f289 b (by simp at hb ⊢; try omega)).trans ((f133 b (by simp at hb ⊢; try omega)).trans (rfl))), (fun j hj => (o289 j (by simp at hj ⊢; try omega)).trans ((o133 j (by simp at hj ⊢; try omega)).trans (rfl))), by
                                                       rw [K, pe_q_k (M := (pe_eS m 4 (-1))) (by omega) (by unfold pe_wk; omega) (by unfold pe_eCmd; (repeat (first | rw [if_pos (by omega)] | rw [if_neg (by omega)])); first | done | rfl)]
                                                       exact pe_ra_Bs hA1 w2.1 hg⟩)
                                                  | (have K : (pe_kf (σ 29 14) b) = 65539 := (by unfold pe_kf; (repeat (first | rw [if_pos (by omega)] | rw [if_neg (by omega)])); first | done | rfl)
                                                     have ZB := pe_ba_of (t' := m 8) A2 hz184.1 hz184.2.1 hz184.2.2
                                                     have hA2 := pe_ra_cu hA1 (fun b hb => (f187 b (by rintro rfl; simp at hb))) (fun j hj => (o187 j (by rintro rfl; simp at hj))) e187
                                                     have hb2 := (pe_bg_eq A2 (by omega)).mp hz184.2.1
                                                     exact ⟨hB, (fun b hb => (f289 b (by simp at hb ⊢; try omega)).trans ((f133 b (by simp at hb ⊢; try omega)).trans (rfl))), (fun j hj => (o289 j (by simp at hj ⊢; try omega)).trans ((o133 j (by simp at hj ⊢; try omega)).trans (rfl))), by
                                                       rw [K, pe_q_k (M := pe_eS (pe_eS m 4 (-1)) 1 (pe_ba (m 8) (m 0 0) (m 1 0))) (by omega) (by unfold pe_wk; omega) (by unfold pe_eCmd; (repeat (first | rw [if_pos (by omega)] | rw [if_neg (by omega)])); first | done | rfl)]
                                                       rw [← ZB]; exact pe_ra_Bs hA2 (show 0 ≤ z184 by omega) hb2⟩)
                                                  | (have K : (pe_kf (σ 29 14) b) = 65539 := (by unfold pe_kf; (repeat (first | rw [if_pos (by omega)] | rw [if_neg (by omega)])); first | done | rfl)
                                                     skip
                                                     exact ⟨hB, (fun b hb => (f289 b (by simp at hb ⊢; try omega)).trans ((f133 b (by simp at hb ⊢; try omega)).trans (rfl))), (fun j hj => (o289 j (by simp at hj ⊢; try omega)).trans ((o133 j (by simp at hj ⊢; try omega)).trans (rfl))), by
                                                       rw [K, pe_q_k (M := (pe_eS m 4 (-1))) (by omega) (by unfold pe_wk; omega) (by unfold pe_eCmd; (repeat (first | rw [if_pos (by omega)] | rw [if_neg (by omega)])); first | done | rfl)]
                                                       exact pe_ra_Bs hA1 w2.1 hg⟩)
                                                  | (have K : (pe_kf (σ 29 14) b) = 65540 := (by unfold pe_kf; (repeat (first | rw [if_pos (by omega)] | rw [if_neg (by omega)])); first | done | rfl)
                                                     have ZB := pe_lb_of (t' := m 8) A2 (by omega) hz198.1 hz198.2.1 hz198.2.2
                                                     have hA2 := pe_ra_cu hA1 (fun b hb => (f201 b (by rintro rfl; simp at hb))) (fun j hj => (o201 j (by rintro rfl; simp at hj))) e201
                                                     have hb1 : pe_bg (σ 30) (m 0 0) z198 := by unfold pe_bg; omega
                                                     have hb2 := (pe_bg_eq A2 (by omega)).mp hb1
                                                     exact ⟨hB, (fun b hb => (f289 b (by simp at hb ⊢; try omega)).trans ((f133 b (by simp at hb ⊢; try omega)).trans (rfl))), (fun j hj => (o289 j (by simp at hj ⊢; try omega)).trans ((o133 j (by simp at hj ⊢; try omega)).trans (rfl))), by
                                                       rw [K, pe_q_k (M := pe_eS (pe_eS m 4 (-1)) 1 (pe_lb (m 8) (m 1 0))) (by omega) (by unfold pe_wk; omega) (by unfold pe_eCmd; (repeat (first | rw [if_pos (by omega)] | rw [if_neg (by omega)])); first | done | rfl)]
                                                       rw [← ZB]; exact pe_ra_Bs hA2 (show 0 ≤ z198 by omega) hb2⟩)
                                                  | (have K : (pe_kf (σ 29 14) b) = 65541 := (by unfold pe_kf; (repeat (first | rw [if_pos (by omega)] | rw [if_neg (by omega)])); first | done | rfl)
                                                     have ZB := pe_lz_of (t' := m 8) A2 (by omega) hz212.1 hz212.2.1 hz212.2.2
                                                     have hA2 := pe_ra_cu hA1 (fun b hb => (f215 b (by rintro rfl; simp at hb))) (fun j hj => (o215 j (by rintro rfl; simp at hj))) e215
                                                     have hb1 : pe_bg (σ 30) (m 0 0) z212 := by unfold pe_bg; omega
                                                     have hb2 := (pe_bg_eq A2 (by omega)).mp hb1
                                                     exact ⟨hB, (fun b hb => (f289 b (by simp at hb ⊢; try omega)).trans ((f133 b (by simp at hb ⊢; try omega)).trans (rfl))), (fun j hj => (o289 j (by simp at hj ⊢; try omega)).trans ((o133 j (by simp at hj ⊢; try omega)).trans (rfl))), by
                                                       rw [K, pe_q_k (M := pe_eS (pe_eS m 4 (-1)) 1 (pe_lz (m 8) (m 0 0) (m 1 0))) (by omega) (by unfold pe_wk; omega) (by unfold pe_eCmd; (repeat (first | rw [if_pos (by omega)] | rw [if_neg (by omega)])); first | done | rfl)]
                                                       rw [← ZB]; exact pe_ra_Bs hA2 (show 0 ≤ z212 by omega) hb2⟩)
                                                  | (have K : (pe_kf (σ 29 14) b) = 65542 := (by unfold pe_kf; (repeat (first | rw [if_pos (by omega)] | rw [if_neg (by omega)])); first | done | rfl)
                                                     have ZB := pe_bf_of (t' := m 8) A2 (by omega) (show m 1 0 + 1 ≤ z253 by omega) hz253.2.1 (fun j a c => hz253.2.2 j (by omega) c)
                                                     rw [c2, ZB] at x256
                                                     exact ⟨hB, (fun b hb => (f289 b (by simp at hb ⊢; try omega)).trans ((f133 b (by simp at hb ⊢; try omega)).trans (rfl))), (fun j hj => (o289 j (by simp at hj ⊢; try omega)).trans ((o133 j (by simp at hj ⊢; try omega)).trans (rfl))), by
                                                       rw [K, pe_q_k (M := pe_eDel (pe_eS m 4 (-1)) (m 1 0) (pe_bf (m 8) (m 0 0) (m 1 0 + 1))) (by omega) (by unfold pe_wk; omega) (by unfold pe_eCmd; (repeat (first | rw [if_pos (by omega)] | rw [if_neg (by omega)])); first | done | rfl)]
                                                       exact x256⟩)
                                                  | (have K : (pe_kf (σ 29 14) b) = 65542 := (by unfold pe_kf; (repeat (first | rw [if_pos (by omega)] | rw [if_neg (by omega)])); first | done | rfl)
                                                     skip
                                                     exact ⟨hB, (fun b hb => (f289 b (by simp at hb ⊢; try omega)).trans ((f133 b (by simp at hb ⊢; try omega)).trans (rfl))), (fun j hj => (o289 j (by simp at hj ⊢; try omega)).trans ((o133 j (by simp at hj ⊢; try omega)).trans (rfl))), by
                                                       rw [K, pe_q_k (M := (pe_eS m 4 (-1))) (by omega) (by unfold pe_wk; omega) (by unfold pe_eCmd; (repeat (first | rw [if_pos (by omega)] | rw [if_neg (by omega)])); first | done | rfl)]
                                                       exact pe_ra_Bs hA1 w2.1 hg⟩)
                                                  | (have K : (pe_kf (σ 29 14) b) = 65543 := (by unfold pe_kf; (repeat (first | rw [if_pos (by omega)] | rw [if_neg (by omega)])); first | done | rfl)
                                                     have hA2 := pe_ra_pa hA1 (fun b hb => (f289 b (by rintro rfl; simp at hb))) (fun j hj => (o289 j (by rintro rfl; simp at hj))) e289
                                                     exact ⟨hB, (fun b hb => (f289 b (by simp at hb ⊢; try omega)).trans ((f133 b (by simp at hb ⊢; try omega)).trans (rfl))), (fun j hj => (o289 j (by simp at hj ⊢; try omega)).trans ((o133 j (by simp at hj ⊢; try omega)).trans (rfl))), by
                                                       rw [K, pe_q_k (M := pe_eS (pe_eS m 4 (-1)) 6 1) (by omega) (by unfold pe_wk; omega) (by unfold pe_eCmd; (repeat (first | rw [if_pos (by omega)] | rw [if_neg (by omega)])); first | done | rfl)]
                                                       exact pe_ra_Bs hA2 w2.1 hg⟩)
                                                  | (have K : (pe_kf (σ 29 14) b) = 65544 := (by unfold pe_kf; (repeat (first | rw [if_pos (by omega)] | rw [if_neg (by omega)])); first | done | rfl)
                                                     have hA2 := pe_ra_pa hA1 (fun b hb => (f289 b (by rintro rfl; simp at hb))) (fun j hj => (o289 j (by rintro rfl; simp at hj))) e289
                                                     exact ⟨hB, (fun b hb => (f289 b (by simp at hb ⊢; try omega)).trans ((f133 b (by simp at hb ⊢; try omega)).trans (rfl))), (fun j hj => (o289 j (by simp at hj ⊢; try omega)).trans ((o133 j (by simp at hj ⊢; try omega)).trans (rfl))), by
                                                       rw [K, pe_q_k (M := pe_eS (pe_eS m 4 (-1)) 6 0) (by omega) (by unfold pe_wk; omega) (by unfold pe_eCmd; (repeat (first | rw [if_pos (by omega)] | rw [if_neg (by omega)])); first | done | rfl)]
                                                       exact pe_ra_Bs hA2 w2.1 hg⟩)
                                                · skip
                                                  exfalso; omega
                                          · skip
                                            exfalso; omega
                                      · skip
                                        exfalso; omega
                                    · skip
                                      exfalso; omega
                                  · skip
                                    exfalso; omega
                                · skip
                                  exfalso; omega
                              · skip
                                exfalso; omega
            · skip
              exfalso; omega
        · skip
          exfalso; omega
