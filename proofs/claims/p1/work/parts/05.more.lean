section PE_MORE
variable {y : pe_Y} {pc : Nat} {lv : pe_L} {st : List pe_V} {σ : pe_H} {Q : Option pe_V → pe_H → Prop}
/-- an operand is any int with the same bits -/
theorem pe_any {v : Int} (k : ∀ z : Int, pe_R z → pe_G y pc lv (.inl z :: st) σ Q) : pe_G y pc lv (.inl v :: st) σ Q := by
  intro l D ad cA p e s m args below meth c H locs ls X hl hP hD hS
  have hz : pe_R (Int32.ofInt v).toInt := ⟨by have := Int32.le_toInt (Int32.ofInt v); omega, by have := Int32.toInt_lt (Int32.ofInt v); omega⟩
  have k := k _ hz l D ad cA p e s m args below meth c H locs ls X hl hP hD hS
  refine W.eq ?_ k
  show F0 m pc ls (Value.int (Int32.ofInt v) :: _) = F0 m pc ls (Value.int (Int32.ofInt (Int32.ofInt v).toInt) :: _)
  rw [Int32.ofInt_toInt]
/-- switches -/
def pe_sw (a : Int) (G : Nat → Prop) (d : Nat) : List (Int × Nat) → Prop
  | [] => G d
  | (k, t) :: r => (a = k → G t) ∧ (¬ a = k → pe_sw a G d r)
theorem pe_sw_off {pc : Nat} {a : Int} {d : Int} {dt : Nat} {G : Nat → Prop} (hdt : (pc : Int) + d = (dt : Int)) : ∀ (ps : List (Int × Int)) (tb : List (Int × Nat)), ps.map (fun q => (q.1, (pc : Int) + q.2)) = tb.map (fun q => (q.1, (q.2 : Int))) → pe_sw a G dt tb → ∃ tgt : Nat, (pc : Int) + Op.lookupswitch.offset ps d a = (tgt : Int) ∧ G tgt
  | [], tb, h, hs => by
    cases tb with
    | nil => exact ⟨dt, hdt, hs⟩
    | cons q r => cases h
  | (k, o) :: ps, tb, h, hs => by
    cases tb with
    | nil => cases h
    | cons q r =>
      obtain ⟨k', t⟩ := q
      simp only [List.map_cons, List.cons.injEq, Prod.mk.injEq] at h
      obtain ⟨⟨hk, ht⟩, hr⟩ := h
      subst hk
      rw [Op.lookupswitch.offset_cons]
      by_cases e : a = k
      · rw [if_pos e.symm]
        exact ⟨t, ht, hs.1 e⟩
      · rw [if_neg (fun q => e q.symm)]
        exact pe_sw_off hdt ps r hr (hs.2 e)
theorem pe_lsw {a d : Int} {ps : Array (Int × Int)} {n dt : Nat} (tb : List (Int × Nat)) (hd : decode y.2.1 pc = .ok (.lookupswitch d ps, n)) (ha : pe_R a) (k : pe_sw a (fun t => pe_G y t lv st σ Q) dt tb) (hp : (ps.toList.zip (ps.toList.drop 1)).all (fun (a, next) => a.1 < next.1) = true := by decide) (hdt : (pc : Int) + d = (dt : Int) := by decide) (htb : ps.toList.map (fun q => (q.1, (pc : Int) + q.2)) = tb.map (fun q => (q.1, (q.2 : Int))) := by decide) : pe_G y pc lv (.inl a :: st) σ Q := by
  intro l D ad cA p e s m args below meth c H locs ls X hl hP hD hS
  obtain ⟨tgt, h1, h2⟩ := pe_sw_off hdt ps.toList tb htb k
  exact lv_lookup X.1 X.2.1 hd hp (by rw [pe_toInt ha]) h1 (h2 l D ad cA p e s m args below meth c H locs ls X hl hP hD hS)
theorem pe_sw_at {a : Int} {G : Nat → Prop} {d : Nat} : ∀ (tb : List (Int × Nat)) (i : Nat) (t : Nat), tb[i]? = some (a, t) → (∀ j : Nat, j < i → ∀ q, tb[j]? = some q → ¬ a = q.1) → pe_sw a G d tb → G t
  | [], i, t, h, _, _ => by simp at h
  | (k, u) :: r, 0, t, h, _, hs => by
    have e : k = a ∧ u = t := by simpa using h
    rw [← e.2]
    exact hs.1 e.1.symm
  | (k, u) :: r, i + 1, t, h, hj, hs => pe_sw_at r i t (by simpa using h) (fun j hji q hq => hj (j + 1) (by omega) q (by simpa using hq)) (hs.2 (hj 0 (by omega) (k, u) rfl))
theorem pe_sw_no {a : Int} {G : Nat → Prop} {d : Nat} : ∀ (tb : List (Int × Nat)), (∀ q ∈ tb, ¬ a = q.1) → pe_sw a G d tb → G d
  | [], _, hs => hs
  | (k, u) :: r, h, hs => pe_sw_no r (fun q hq => h q (List.mem_cons_of_mem _ hq)) (hs.2 (h (k, u) List.mem_cons_self))
theorem pe_tsw {a d lo hi : Int} {offs : Array Int} {n dt : Nat} (tb : List (Int × Nat)) (hd : decode y.2.1 pc = .ok (.tableswitch d lo hi offs, n)) (ha : pe_R a) (k : pe_sw a (fun t => pe_G y t lv st σ Q) dt tb) (hdt : (pc : Int) + d = (dt : Int) := by decide) (hk : tb.map (fun q => q.1) = (List.range tb.length).map (fun j : Nat => lo + (j : Int)) := by decide) (hn : lo + (tb.length : Int) = hi + 1 := by decide) (ht : tb.map (fun q => (q.2 : Int)) = offs.toList.map (fun o => (pc : Int) + o) := by decide) : pe_G y pc lv (.inl a :: st) σ Q := by
  intro l D ad cA p e s m args below meth c H locs ls X hl hP hD hS
  have key : ∀ (j : Nat) (q : Int × Nat), tb[j]? = some q → q.1 = lo + (j : Int) := by
    intro j q hq
    have h1 : (tb.map (fun q => q.1))[j]? = some q.1 := by rw [List.getElem?_map, hq]; rfl
    rw [hk, List.getElem?_map] at h1
    have hj : j < tb.length := (List.getElem?_eq_some_iff.mp hq).1
    rw [List.getElem?_range hj] at h1
    exact (Option.some.inj h1).symm
  by_cases h : a < lo ∨ hi < a
  · refine lv_tableOut X.1 X.2.1 hd (by rw [pe_toInt ha]; exact h) hdt (pe_sw_no tb (fun q hq e => ?_) k l D ad cA p e s m args below meth c H locs ls X hl hP hD hS)
    obtain ⟨j, hj⟩ := List.getElem?_of_mem hq
    have h1 := key j q hj
    have h2 : j < tb.length := (List.getElem?_eq_some_iff.mp hj).1
    omega
  · have hj : (a - lo).toNat < tb.length := by omega
    rcases hq : tb[(a - lo).toNat]'hj with ⟨k1, t1⟩
    have hq2 : tb[(a - lo).toNat]? = some (k1, t1) := by rw [List.getElem?_eq_getElem hj, hq]
    have h1 := key _ _ hq2
    have hk1 : k1 = a := by
      have : k1 = lo + ((a - lo).toNat : Int) := h1
      omega
    subst hk1
    have ho : ∃ off, offs[(k1 - lo).toNat]? = some off ∧ (pc : Int) + off = (t1 : Int) := by
      have h3 : (tb.map (fun q => (q.2 : Int)))[(k1 - lo).toNat]? = some (t1 : Int) := by rw [List.getElem?_map, hq2]; rfl
      rw [ht, List.getElem?_map] at h3
      cases h4 : offs.toList[(k1 - lo).toNat]? with
      | none => rw [h4] at h3; cases h3
      | some off =>
        rw [h4] at h3
        exact ⟨off, by simpa using h4, Option.some.inj h3⟩
    obtain ⟨off, ho1, ho2⟩ := ho
    refine lv_tableIn X.1 X.2.1 hd (by rw [pe_toInt ha]; omega) (by rw [pe_toInt ha]; omega) (by rw [pe_toInt ha]; exact ho1) ho2 (pe_sw_at tb _ t1 hq2 (fun j hj2 q hq3 e => ?_) k l D ad cA p e s m args below meth c H locs ls X hl hP hD hS)
    have h5 := key j q hq3
    omega
/-- the library's -/
theorem pe_max {a b : Int} {idx : Nat} (hw : Cond.methodLink y.1.cls idx Lib.Math.max.name ∈ pe_WS) (hst : Cond.static Lib.Math.max.name ∈ pe_WS) (hini : Cond.initialized "java/lang/Math" ∈ pe_WS) (hco : Cond.code Lib.Math.max.name Lib.Math.max.code 2 (some .int) ∈ pe_WS) (hd : decode y.2.1 pc = .ok (.invokestatic idx, 3)) (ha : pe_R a) (hb : pe_R b) (hf : 1 ≤ y.2.2.2.2.1) (hlo : (st.map pe_cat).sum + 13 ≤ y.2.2.2.2.2) (k : pe_G y (pc + 3) lv (.inl (if a < b then b else a) :: st) σ Q) : pe_G y pc lv (.inl b :: .inl a :: st) σ Q := by
  intro l D ad cA p e s m args below meth c H locs ls X hl hP hD hS
  have k := k l D ad cA p e s m args below meth c H locs ls X hl hP hD hS
  have hX : ∀ w ∈ pe_WS, w.before args s = true := fun w h => X.2.2.2.2.2.1 w (List.mem_cons_of_mem _ h)
  refine va_mmax X.1 X.2.1 (X.2.2.2.2.1.trans hl.2.1.symm) X.2.2.2.2.2.2.1 (hX _ hw) (hX _ hst) (hX _ hini) (hX _ hco) hf (by rw [pe_cats]; exact hlo) (Nat.zero_le _) (Nat.zero_le _) hd (pe_top k ?_)
  show Value.int (if Int32.ofInt a < Int32.ofInt b then Int32.ofInt b else Int32.ofInt a) = Value.int (Int32.ofInt (if a < b then b else a))
  by_cases h : a < b
  · rw [if_pos h, if_pos ((pe_lt ha hb).mpr h)]
  · rw [if_neg h, if_neg (fun q => h ((pe_lt ha hb).mp q))]
theorem pe_min {a b : Int} {idx : Nat} (hw : Cond.methodLink y.1.cls idx Lib.Math.min.name ∈ pe_WS) (hst : Cond.static Lib.Math.min.name ∈ pe_WS) (hini : Cond.initialized "java/lang/Math" ∈ pe_WS) (hco : Cond.code Lib.Math.min.name Lib.Math.min.code 2 (some .int) ∈ pe_WS) (hd : decode y.2.1 pc = .ok (.invokestatic idx, 3)) (ha : pe_R a) (hb : pe_R b) (hf : 1 ≤ y.2.2.2.2.1) (hlo : (st.map pe_cat).sum + 13 ≤ y.2.2.2.2.2) (k : pe_G y (pc + 3) lv (.inl (if b < a then b else a) :: st) σ Q) : pe_G y pc lv (.inl b :: .inl a :: st) σ Q := by
  intro l D ad cA p e s m args below meth c H locs ls X hl hP hD hS
  have k := k l D ad cA p e s m args below meth c H locs ls X hl hP hD hS
  have hX : ∀ w ∈ pe_WS, w.before args s = true := fun w h => X.2.2.2.2.2.1 w (List.mem_cons_of_mem _ h)
  refine va_mmin X.1 X.2.1 (X.2.2.2.2.1.trans hl.2.1.symm) X.2.2.2.2.2.2.1 (hX _ hw) (hX _ hst) (hX _ hini) (hX _ hco) hf (by rw [pe_cats]; exact hlo) (Nat.zero_le _) (Nat.zero_le _) hd (pe_top k ?_)
  show Value.int (if Int32.ofInt b < Int32.ofInt a then Int32.ofInt b else Int32.ofInt a) = Value.int (Int32.ofInt (if b < a then b else a))
  by_cases h : b < a
  · rw [if_pos h, if_pos ((pe_lt hb ha).mpr h)]
  · rw [if_neg h, if_neg (fun q => h ((pe_lt hb ha).mp q))]
def pe_cp (σ : pe_H) (a0 : Nat) (sp : Int) (a : Nat) (dp n : Int) : pe_H := fun b j => if b = a ∧ dp ≤ j ∧ j < dp + n then σ a0 (sp + (j - dp)) else σ b j
theorem pe_acopy {a0 a n0 n1 idx : Nat} {sp dp n : Int} (hw : Cond.methodLink y.1.cls idx arraycopyName ∈ pe_WS) (hna : Cond.native arraycopyName ∈ pe_WS) (hst : Cond.static arraycopyName ∈ pe_WS) (hini : Cond.initialized "java/lang/System" ∈ pe_WS) (hd : decode y.2.1 pc = .ok (.invokestatic idx, 3)) (hs0 : pe_sh[a0]? = some (.inl (.int, n0))) (hs1 : pe_sh[a]? = some (.inl (.int, n1))) (h1 : 0 ≤ sp) (h2 : 0 ≤ dp) (h3 : 0 ≤ n) (h4 : sp + n ≤ n0) (h5 : dp + n ≤ n1) (hf : 1 ≤ y.2.2.2.2.1) (hlo : (st.map pe_cat).sum + (nativeFrameWords "java/lang/System" "arraycopy" 5 + 11) ≤ y.2.2.2.2.2) (k : pe_G y (pc + 3) lv st (pe_cp σ a0 sp a dp n) Q) (hn0 : n0 < 2147483648 := by decide) (hn1 : n1 < 2147483648 := by decide) : pe_G y pc lv (.inl n :: .inl dp :: .inr (.inl a) :: .inl sp :: .inr (.inl a0) :: st) σ Q := by
  intro l D ad cA p e s m args below meth c H locs ls X hl hP hD hS
  have hX : ∀ w ∈ pe_WS, w.before args s = true := fun w h => X.2.2.2.2.2.1 w (List.mem_cons_of_mem _ h)
  have nl : ∀ z : Int, 0 ≤ z → z < 2147483648 → ¬ Int32.ofInt z < 0 := fun z q1 q2 q => by
    have := (pe_lt (a := z) (b := 0) ⟨by omega, by omega⟩ pe_R0).mp q
    omega
  have cs := pe_clamp h1 (by omega)
  have cd := pe_clamp h2 (by omega)
  have cn := pe_clamp h3 (by omega)
  refine va_copyi X.1 X.2.1 (X.2.2.2.2.1.trans hl.2.1.symm) X.2.2.2.2.2.2.1 (hX _ hw) (hX _ hna) (hX _ hst) (hX _ hini) X.2.2.2.2.2.2.2.1 hP hD hS a0 a 0 0 (pe_wd_at hs0) (pe_wd_at hs1) rfl rfl rfl (nl sp h1 (by omega)) (nl dp h2 (by omega)) (nl n h3 (by omega)) (by rw [cs, cn]; omega) (by rw [cd, cn]; omega) (fun _ _ => rfl) hf (by rw [pe_cats]; exact hlo) hd (fun H1 locs1 hP1 hD1 hS1 => ?_)
  have hE : (Sum.inl (cA .int, n1, Sum.inl (va_cpy (fun j : Nat => Int32.ofInt (σ a0 (j : Int))) (fun j : Nat => Int32.ofInt (σ a (j : Int))) (Int32.ofInt sp).toNatClampNeg (Int32.ofInt dp).toNatClampNeg (Int32.ofInt n).toNatClampNeg)) : va_E) = pe_en ad cA (pe_cp σ a0 sp a dp n) a (.inl (.int, n1)) := by
    have h6 : va_cpy (fun j : Nat => Int32.ofInt (σ a0 (j : Int))) (fun j : Nat => Int32.ofInt (σ a (j : Int))) (Int32.ofInt sp).toNatClampNeg (Int32.ofInt dp).toNatClampNeg (Int32.ofInt n).toNatClampNeg = fun j : Nat => Int32.ofInt (pe_cp σ a0 sp a dp n a (j : Int)) := by
      funext j
      rw [cs, cd, cn]
      unfold va_cpy pe_cp
      by_cases hj : dp ≤ (j : Int) ∧ (j : Int) < dp + n
      · rw [if_pos (by omega), if_pos ⟨rfl, hj⟩]
        show Int32.ofInt (σ a0 ((sp.toNat + (j - dp.toNat) : Nat) : Int)) = Int32.ofInt (σ a0 (sp + ((j : Int) - dp)))
        have h7 : ((sp.toNat + (j - dp.toNat) : Nat) : Int) = sp + ((j : Int) - dp) := by omega
        rw [h7]
      · rw [if_neg (by omega), if_neg (fun q => hj q.2)]
    rw [h6]
    rfl
  rw [pe_wd_set (σ' := pe_cp σ a0 sp a dp n) hs1 (fun b hb => by funext j; unfold pe_cp; rw [if_neg (fun q => hb q.1)]) hE] at hP1 hD1
  exact k l D ad cA p e s m args below meth c H1 locs1 ls X hl hP1 hD1 hS1
/-- the JDK's statics -/
theorem pe_compact {idx : Nat} (hd : decode y.2.1 pc = .ok (.getstatic idx, 3)) (hw : Cond.fieldLink y.1.cls idx "java/lang/String" "COMPACT_STRINGS" "Z" ∈ pe_WS) (k : pe_G y (pc + 3) lv (.inl 1 :: st) σ Q) : pe_G y pc lv st σ Q := by
  intro l D ad cA p e s m args below meth c H locs ls X hl hP hD hS
  have k := k l D ad cA p e s m args below meth c H locs ls X hl hP hD hS
  exact va_gets X.1 X.2.1 X.2.2.2.2.2.2.2.2.1 hS X.2.2.2.2.2.2.1 (X.2.2.2.2.2.1 _ (List.mem_cons_of_mem _ hw)) (fun _ h => h) hd k
theorem pe_dget {idx q : Nat} {n : String} (hn : (q = 47 ∧ n = "DigitOnes") ∨ (q = 48 ∧ n = "DigitTens")) (hd : decode y.2.1 pc = .ok (.getstatic idx, 3)) (hw : Cond.fieldLink y.1.cls idx "java/lang/Integer" n "[B" ∈ pe_WS) (k : pe_G y (pc + 3) lv (.inr (.inl q) :: st) σ Q) : pe_G y pc lv st σ Q := by
  intro l D ad cA p e s m args below meth c H locs ls X hl hP hD hS
  have k := k l D ad cA p e s m args below meth c H locs ls X hl hP hD hS
  have hZt : pe_Zt ad q n (pe_A ad s.heap.size) s s.heap := by
    rcases hn with ⟨rfl, rfl⟩ | ⟨rfl, rfl⟩
    · exact X.2.2.2.2.2.2.2.2.2.1
    · exact X.2.2.2.2.2.2.2.2.2.2.1
  obtain ⟨f, hZ, hT, hf⟩ := hZt
  exact va_gets X.1 X.2.1 hZ hS X.2.2.2.2.2.2.1 (X.2.2.2.2.2.1 _ (List.mem_cons_of_mem _ hw)) (fun _ h => h) hd k
theorem pe_dald {q : Nat} {i : Int} (hn : q = 47 ∨ q = 48) (h0 : 0 ≤ i) (h1 : i < 100) (hd : decode y.2.1 pc = .ok (.baload, 1)) (k : ∀ v : Int, 48 ≤ v ∧ v ≤ 57 → pe_G y (pc + 1) lv (.inl v :: st) σ Q) : pe_G y pc lv (.inl i :: .inr (.inl q) :: st) σ Q := by
  intro l D ad cA p e s m args below meth c H locs ls X hl hP hD hS
  have hZt : ∃ f : Nat → Int32, va_T .byte (ad q) 100 (fun j => .int (f j)) (pe_A ad s.heap.size) s s.heap ∧ ∀ j, j < 100 → 48 ≤ (f j).toInt ∧ (f j).toInt ≤ 57 := by
    rcases hn with rfl | rfl
    · obtain ⟨f, h⟩ := X.2.2.2.2.2.2.2.2.2.1
      exact ⟨f, h.2⟩
    · obtain ⟨f, h⟩ := X.2.2.2.2.2.2.2.2.2.2.1
      exact ⟨f, h.2⟩
  obtain ⟨f, hT, hf⟩ := hZt
  have hin : vp_in (Int32.ofInt i) 100 := pe_in (by decide) h0 (by omega)
  have hlt : (Int32.ofInt i).toNatClampNeg < 100 := Nat.not_le.mp fun z => hin (Or.inr z)
  have k := k _ (hf _ hlt) l D ad cA p e s m args below meth c H locs ls X hl hP hD hS
  exact va_tb X.1 X.2.1 hT hS hin rfl hd (pe_top k (congrArg Value.int (Int32.ofInt_toInt _).symm))
end PE_MORE
