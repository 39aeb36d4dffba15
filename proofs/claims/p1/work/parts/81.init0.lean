/-- what the cells hold at the start -/
def lw_s0 (zc zr yc yr : Int) (g19 g26 g42 : Int → Int) : pe_H := fun a => match a with
  | 1 => fun j => if j = 6 then (-1) else 0
  | 2 => fun j => if j = 6 then zc else if j = 8 then (-1) else if j = 9 then (-1) else if j = 11 then (1) else 0
  | 18 => fun j => if j = 2 then zc else if j = 3 then zr else 0
  | 19 => g19
  | 25 => fun j => if j = 2 then zc else if j = 3 then zr else 0
  | 26 => g26
  | 29 => fun j => if j = 3 then (-1) else if j = 6 then (-1) else if j = 20 then (-1) else if j = 21 then yc else if j = 22 then yr else if j = 40 then (-1) else if j = 41 then (1) else 0
  | 42 => g42
  | _ => fun _ => 0
theorem lw_B0 {zc zr yc yr : Int} {g19 g26 g42 : Int → Int} (hc : 1 ≤ zc ∧ zc ≤ 24) (hr : 1 ≤ zr ∧ zr ≤ 8) (yc0 : 1 ≤ yc ∧ yc ≤ 24) (yr0 : 1 ≤ yr ∧ yr ≤ 8) (h19 : ∀ j, pe_R (g19 j)) (h26 : ∀ j, pe_R (g26 j)) (h42 : ∀ j, g42 j = 0 ∨ g42 j = 32) : pe_B (lw_s0 zc zr yc yr g19 g26 g42) := by
  intro a j
  unfold lw_s0
  split
  all_goals try dsimp only
  all_goals first | exact pe_R0 | exact h19 j | exact h26 j | ((repeat' split) <;> exact ⟨by omega, by omega⟩) | (have := h42 j; exact ⟨by omega, by omega⟩)
theorem lw_C0 {zc zr yc yr : Int} {g19 g26 g42 : Int → Int} (hc : 1 ≤ zc ∧ zc ≤ 24) (hr : 1 ≤ zr ∧ zr ≤ 8) : pe_CI (lw_s0 zc zr yc yr g19 g26 g42) := by
  have z : ∀ a b : Int, a ≤ 0 → 0 ≤ b → a ≤ 0 ∧ 0 ≤ b := fun _ _ h1 h2 => ⟨h1, h2⟩
  refine ⟨⟨⟨⟨(show (0 : Int) ≤ 0 by decide), (show (0 : Int) ≤ 11 by decide)⟩, ⟨(show (0 : Int) ≤ 0 by decide), (show (0 : Int) ≤ 12 by decide)⟩, (show (0 : Int) ≤ 0 ∧ (0 : Int) ≤ 200 by decide)⟩, ⟨fun j => (show (-1 : Int) ≤ 0 ∧ (0 : Int) ≤ 500 by decide), fun j => (show (0 : Int) ≤ 0 ∧ (0 : Int) ≤ 24 by decide), fun j => (show (0 : Int) ≤ 0 ∧ (0 : Int) ≤ 24 by decide)⟩, (show (0 : Int) ≤ 0 ∧ (0 : Int) ≤ 0 by decide), (show (-1 : Int) ≤ -1 ∧ (-1 : Int) ≤ 0 by decide), (show (0 : Int) ≤ 0 ∧ (0 : Int) ≤ 200 by decide), hc⟩, ⟨hc.1, hc.2, hr.1, hr.2⟩, ⟨hc.1, hc.2, hr.1, hr.2⟩, (show (0 : Int) ≤ 0 ∧ (0 : Int) ≤ 8 ∧ (0 : Int) ≤ 0 ∧ (0 : Int) ≤ 24 by decide), (show (0 : Int) ≤ 0 ∧ (0 : Int) ≤ 2048 by decide), (show (-10 : Int) ≤ 0 ∧ (0 : Int) ≤ 500 by decide), (show (0 : Int) ≤ 0 ∧ (0 : Int) ≤ 8 by decide), (show (0 : Int) ≤ 0 ∧ (0 : Int) ≤ 24 by decide), (show (0 : Int) = 0 ∧ (0 : Int) ≤ 0 ∧ (0 : Int) ≤ 16 by decide)⟩
theorem lw_M0 {zc zr yc yr : Int} {g19 g26 g42 : Int → Int} (yc0 : 1 ≤ yc ∧ yc ≤ 24) (yr0 : 1 ≤ yr ∧ yr ≤ 8) (h42 : ∀ j, g42 j = 0 ∨ g42 j = 32) (h0 : g42 0 = 32) : pe_MI (lw_s0 zc zr yc yr g19 g26 g42) := by
  refine ⟨⟨(show (0 : Int) ≤ 0 ∧ (0 : Int) ≤ 200 by decide), fun j => (show (0 : Int) ≤ 0 ∧ (0 : Int) ≤ 65535 by decide), fun j => (show (0 : Int) ≤ 0 ∧ (0 : Int) ≤ 65535 by decide), fun j => (show (0 : Int) ≤ 0 ∧ (0 : Int) ≤ 65535 by decide), ⟨(show (0 : Int) ≤ 0 ∧ (0 : Int) ≤ 0 by decide), pe_bg0 _ _⟩, (show (-1 : Int) ≤ -1 ∧ (-1 : Int) ≤ 0 by decide), (show (0 : Int) ≤ 0 ∧ (0 : Int) ≤ 200 by decide), (show (0 : Int) ≤ 0 ∧ (0 : Int) ≤ 12 by decide), (show (0 : Int) ≤ 0 ∧ (0 : Int) ≤ 200 by decide), ⟨fun j a b => ?_, fun j a b => ?_, fun n j a b => ?_⟩⟩, ⟨(show (0 : Int) ≤ 0 ∧ (0 : Int) ≤ 9999 by decide), (show (0 : Int) ≤ 0 ∧ (0 : Int) ≤ 2 by decide), (show (0 : Int) ≤ 0 ∧ (0 : Int) ≤ 65535 by decide), fun h => absurd (show (0 : Int) = 2 from h) (by decide), fun h => absurd (show (0 : Int) = 1 from h) (by decide), fun h => absurd (show (0 : Int) = 2 from h) (by decide), fun h => absurd (show (0 : Int) < 0 from h) (by decide)⟩, ⟨yc0.1, yc0.2, yr0.1, yr0.2⟩, ⟨(show (0 : Int) ≤ 0 by decide), ?_, (show (0 : Int) ≤ 0 by decide), ?_, (show (-1 : Int) ≤ -1 by decide), (show (-1 : Int) < 192 by decide)⟩, ⟨fun j => ?_, ?_, fun r a b q => ?_⟩, fun j => (show (0 : Int) ≤ 0 by decide), (show (0 : Int) ≤ 0 ∧ (0 : Int) ≤ 6000 by decide), (show (0 : Int) ≤ 0 ∧ (0 : Int) ≤ 600 by decide), fun j a b => ?_⟩
  · have b : j < (0 : Int) := b
    omega
  · have b : j < (0 : Int) := b
    omega
  · have b : n < (0 : Int) := b
    omega
  · show (0 : Int) < yr
    omega
  · show (0 : Int) < yc
    omega
  · show 0 ≤ g42 j
    have := h42 j
    omega
  · show g42 0 ≠ 0
    omega
  · have q : pe_wi (g42 (yc * r + (yc - 1)) % 65536) := q
    have := h42 (yc * r + (yc - 1))
    unfold pe_wi at q
    omega
  · have b : j < (0 : Int) := b
    omega
theorem lw_g3 (f : Nat → Int32) (h1 : ∀ j : Nat, j < 192 → f j = 32) : ∃ g : Int → Int, (∀ j, pe_R (g j)) ∧ (∀ j, 0 ≤ j → j < 192 → g j = 32) ∧ f = fun j : Nat => Int32.ofInt (g (j : Int)) := ⟨fun z => (f z.toNat).toInt, fun j => pe_Ri _, fun j a b => by show (f j.toNat).toInt = 32; rw [h1 _ (by omega)]; rfl, by
  funext j
  show f j = Int32.ofInt (f ((j : Int)).toNat).toInt
  rw [Int32.ofInt_toInt, Int.toNat_natCast]⟩
theorem lw_g4 (f : Nat → Int32) (h1 : ∀ j : Nat, j < 192 → f j = 32) (h2 : ∀ j : Nat, f j = 0 ∨ f j = 32) : ∃ g : Int → Int, (∀ j, g j = 0 ∨ g j = 32) ∧ g 0 = 32 ∧ (∀ j, 0 ≤ j → j < 192 → g j = 32) ∧ f = fun j : Nat => Int32.ofInt (g (j : Int)) := ⟨fun z => (f z.toNat).toInt, fun j => by
    rcases h2 j.toNat with h | h
    · left; show (f j.toNat).toInt = 0; rw [h]; rfl
    · right; show (f j.toNat).toInt = 32; rw [h]; rfl, by show (f (0 : Int).toNat).toInt = 32; rw [h1 _ (by decide)]; rfl, fun j a b => by show (f j.toNat).toInt = 32; rw [h1 _ (by omega)]; rfl, by
  funext j
  show f j = Int32.ofInt (f ((j : Int)).toNat).toInt
  rw [Int32.ofInt_toInt, Int.toNat_natCast]⟩
theorem lw_FC0 {zc zr yc yr : Int} {g19 g26 g42 : Int → Int} (hc : 1 ≤ zc ∧ zc ≤ 24) (hr : 1 ≤ zr ∧ zr ≤ 8) (k26 : ∀ j, 0 ≤ j → j < 192 → g26 j = 32) : pe_FC (lw_s0 zc zr yc yr g19 g26 g42) zc zr := ⟨⟨⟨rfl, rfl, rfl, rfl⟩, rfl, rfl, rfl, rfl, rfl, rfl⟩, ⟨rfl, rfl⟩, ⟨rfl, rfl, rfl, rfl, rfl, rfl⟩, ⟨rfl, (show (0 : Int) ≤ 0 by decide), (show (0 : Int) ≤ 16 by decide)⟩, ⟨rfl, rfl, rfl, rfl⟩, ⟨hc.1, hc.2, hr.1, hr.2⟩, k26, fun _ _ _ => rfl⟩
theorem lw_FM0 {zc zr yc yr : Int} {g19 g26 g42 : Int → Int} (hc : 1 ≤ yc ∧ yc ≤ 24) (hr : 1 ≤ yr ∧ yr ≤ 8) (k42 : ∀ j, 0 ≤ j → j < 192 → g42 j = 32) : pe_FM (lw_s0 zc zr yc yr g19 g26 g42) yc yr := ⟨⟨rfl, rfl, rfl, rfl, rfl, rfl, rfl, rfl, rfl, rfl, rfl⟩, ⟨rfl, rfl, rfl, rfl, rfl, rfl⟩, ⟨rfl, rfl⟩, ⟨hc.1, hc.2, hr.1, hr.2⟩, k42, fun _ _ _ => rfl⟩
theorem lw_cons {α : Type} {a b : α} {l m : List α} (h : a = b) (k : l = m) : a :: l = b :: m := by
  subst h
  subst k
  rfl
def lw_ad (l : List Nat) : Nat → Nat := fun a => l.getD a 0
