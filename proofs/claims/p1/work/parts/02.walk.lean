/-! The machine seen through one picture. Every cell of the two objects has a number (pe_sh says what it is, pe_rt which fields hold which cells); what the cells hold is ONE function pe_H; ints are Int. -/
abbrev pe_V : Type := Int ⊕ (Nat ⊕ Int64)
abbrev pe_H : Type := Nat → Int → Int
abbrev pe_L : Type := List (Option pe_V)
def pe_c (ad : Nat → Nat) : pe_V → Value
  | .inl z => .int (Int32.ofInt z)
  | .inr (.inl a) => .ref (ad a)
  | .inr (.inr x) => .long x
abbrev pe_i (z : Int) : pe_V := .inl z
abbrev pe_r (a : Nat) : pe_V := .inr (.inl a)
abbrev pe_l (x : Int64) : pe_V := .inr (.inr x)
def pe_cat : pe_V → Nat
  | .inr (.inr _) => 2
  | _ => 1
theorem pe_cat_c (ad : Nat → Nat) (v : pe_V) : (pe_c ad v).category = pe_cat v := by
  rcases v with z | a | x <;> rfl
/-- an int -/
abbrev pe_R (z : Int) : Prop := -2147483648 ≤ z ∧ z < 2147483648
def pe_up (σ : pe_H) (a : Nat) (i v : Int) : pe_H := fun b j => if b = a ∧ j = i then v else σ b j
theorem pe_up_ne {σ : pe_H} {a b : Nat} {i v : Int} (h : b ≠ a) : pe_up σ a i v b = σ b := by
  funext j
  unfold pe_up
  rw [if_neg (fun q => h q.1)]
theorem pe_up_at {σ : pe_H} {a : Nat} {i v j : Int} : pe_up σ a i v a j = if j = i then v else σ a j := by
  unfold pe_up
  by_cases h : j = i
  · rw [if_pos ⟨rfl, h⟩, if_pos h]
  · rw [if_neg (fun q => h q.2), if_neg h]
theorem pe_toInt {z : Int} (h : pe_R z) : (Int32.ofInt z).toInt = z := Int32.toInt_ofInt_of_le (by have := h.1; omega) (by have := h.2; omega)
theorem pe_lt {a b : Int} (ha : pe_R a) (hb : pe_R b) : Int32.ofInt a < Int32.ofInt b ↔ a < b := by
  rw [Int32.lt_iff_toInt_lt, pe_toInt ha, pe_toInt hb]
theorem pe_le {a b : Int} (ha : pe_R a) (hb : pe_R b) : Int32.ofInt a ≤ Int32.ofInt b ↔ a ≤ b := by
  rw [Int32.le_iff_toInt_le, pe_toInt ha, pe_toInt hb]
theorem pe_eq {a b : Int} (ha : pe_R a) (hb : pe_R b) : Int32.ofInt a = Int32.ofInt b ↔ a = b := by
  rw [← Int32.toInt_inj, pe_toInt ha, pe_toInt hb]
theorem pe_0 : Int32.ofInt 0 = 0 := rfl
theorem pe_R0 : pe_R 0 := ⟨by decide, by decide⟩
theorem pe_in {i : Int} {n : Nat} (hn : n < 2147483648) (h0 : 0 ≤ i) (h1 : i < n) : vp_in (Int32.ofInt i) n := by
  have hr : pe_R i := ⟨by omega, by omega⟩
  rw [vp_in_iff, pe_toInt hr]
  exact ⟨h0, h1⟩
theorem pe_clamp {i : Int} (h0 : 0 ≤ i) (h1 : i < 2147483648) : (Int32.ofInt i).toNatClampNeg = i.toNat :=
  Int32.toNatClampNeg_ofInt_of_le (by omega) (by omega)
theorem pe_cm_eq {a b : Int} (ha : pe_R a) (hb : pe_R b) (h : Int32.ofInt a = Int32.ofInt b) : a = b := (pe_eq ha hb).mp h
theorem pe_cn_eq {a b : Int} (ha : pe_R a) (hb : pe_R b) (h : ¬ Int32.ofInt a = Int32.ofInt b) : ¬ a = b := fun q => h ((pe_eq ha hb).mpr q)
theorem pe_cm_ne {a b : Int} (ha : pe_R a) (hb : pe_R b) (h : ¬ Int32.ofInt a = Int32.ofInt b) : ¬ a = b := pe_cn_eq ha hb h
theorem pe_cn_ne {a b : Int} (ha : pe_R a) (hb : pe_R b) (h : Int32.ofInt a = Int32.ofInt b) : a = b := pe_cm_eq ha hb h
theorem pe_cm_lt {a b : Int} (ha : pe_R a) (hb : pe_R b) (h : Int32.ofInt a < Int32.ofInt b) : a < b := (pe_lt ha hb).mp h
theorem pe_cn_lt {a b : Int} (ha : pe_R a) (hb : pe_R b) (h : ¬ Int32.ofInt a < Int32.ofInt b) : b ≤ a := Int.not_lt.mp fun q => h ((pe_lt ha hb).mpr q)
theorem pe_cm_ge {a b : Int} (ha : pe_R a) (hb : pe_R b) (h : Int32.ofInt b ≤ Int32.ofInt a) : b ≤ a := (pe_le hb ha).mp h
theorem pe_cn_ge {a b : Int} (ha : pe_R a) (hb : pe_R b) (h : ¬ Int32.ofInt b ≤ Int32.ofInt a) : a < b := Int.not_le.mp fun q => h ((pe_le hb ha).mpr q)
theorem pe_cm_gt {a b : Int} (ha : pe_R a) (hb : pe_R b) (h : Int32.ofInt b < Int32.ofInt a) : b < a := (pe_lt hb ha).mp h
theorem pe_cn_gt {a b : Int} (ha : pe_R a) (hb : pe_R b) (h : ¬ Int32.ofInt b < Int32.ofInt a) : a ≤ b := Int.not_lt.mp fun q => h ((pe_lt hb ha).mpr q)
theorem pe_cm_le {a b : Int} (ha : pe_R a) (hb : pe_R b) (h : Int32.ofInt a ≤ Int32.ofInt b) : a ≤ b := (pe_le ha hb).mp h
theorem pe_cn_le {a b : Int} (ha : pe_R a) (hb : pe_R b) (h : ¬ Int32.ofInt a ≤ Int32.ofInt b) : b < a := Int.not_le.mp fun q => h ((pe_le ha hb).mpr q)
theorem pe_tdiv {a b : Int} (ha : pe_R a) (hb : pe_R b) : Int32.ofInt (a.tdiv b) = Int32.ofInt a / Int32.ofInt b :=
  Int32.ofInt_tdiv (by show (-2147483648 : Int) ≤ a; exact ha.1) (by show a ≤ (2147483647 : Int); have := ha.2; omega) (by show (-2147483648 : Int) ≤ b; exact hb.1) (by show b ≤ (2147483647 : Int); have := hb.2; omega)
theorem pe_tmod {a b : Int} (ha : pe_R a) (hb : pe_R b) : Int32.ofInt (a.tmod b) = Int32.ofInt a - Int32.ofInt a / Int32.ofInt b * Int32.ofInt b := by
  rw [← pe_tdiv ha hb, ← Int32.ofInt_mul, ← Int32.ofInt_sub, Int.tmod_def, Int.mul_comm]
/-! the locals -/
def pe_lc (ad : Nat → Nat) (nL : Nat) (lv : pe_L) : List (Nat × Value) := (List.range nL).filterMap (fun i => match lv[i]? with
  | some (some v) => some (i, pe_c ad v)
  | _ => none)
def pe_lh (ad : Nat → Nat) (ls : Array Slot) (nL : Nat) (lv : pe_L) : Prop := lv.length ≤ nL ∧ lv_has ls nL (pe_lc ad nL lv)
theorem pe_lhas {ad : Nat → Nat} {ls : Array Slot} {nL : Nat} {lv : pe_L} (h : pe_lh ad ls nL lv) : lv_has ls nL (pe_lc ad nL lv) := h.2
theorem pe_lmem {ad : Nat → Nat} {nL : Nat} {lv : pe_L} {i : Nat} {v : pe_V} (hg : lv[i]? = some (some v)) (hn : i < nL) : (i, pe_c ad v) ∈ pe_lc ad nL lv := by
  refine List.mem_filterMap.mpr ⟨i, List.mem_range.mpr hn, ?_⟩
  rw [hg]
theorem pe_lat {ad : Nat → Nat} {ls : Array Slot} {nL : Nat} {lv : pe_L} {i : Nat} {v : pe_V} (h : pe_lh ad ls nL lv) (hg : lv[i]? = some (some v)) : ls[i]? = some (.val (pe_c ad v)) :=
  h.2.2.2 _ (pe_lmem hg (Nat.lt_of_lt_of_le (List.getElem?_eq_some_iff.mp hg).1 h.1))
def pe_ok1 (lv : pe_L) (i : Nat) : Bool := match i with
  | 0 => true
  | j + 1 => match lv[j]? with
    | some (some w) => pe_cat w == 1
    | _ => true
theorem pe_lset {ad : Nat → Nat} {ls ls' : Array Slot} {nL : Nat} {lv : pe_L} {i : Nat} {v : pe_V} (h : pe_lh ad ls nL lv) (h' : lv_has ls' nL ((i, pe_c ad v) :: (pe_lc ad nL lv).filter (fun q => !(q.1 == i) && !(q.1 + 1 == i && q.2.category == 2)))) (ho : pe_ok1 lv i = true) : pe_lh ad ls' nL (lv.set i (some v)) := by
  refine ⟨by rw [List.length_set]; exact h.1, h'.1, h'.2.1, fun q hq => ?_⟩
  obtain ⟨j, hj, hjq⟩ := List.mem_filterMap.mp hq
  rw [List.getElem?_set] at hjq
  by_cases e : i = j
  · subst e
    rw [if_pos rfl] at hjq
    by_cases hlt : i < lv.length
    · rw [if_pos hlt] at hjq
      have e1 : (i, pe_c ad v) = q := Option.some.inj hjq
      rw [← e1]
      exact h'.2.2 (i, pe_c ad v) List.mem_cons_self
    · rw [if_neg hlt] at hjq
      cases hjq
  · rw [if_neg e] at hjq
    cases hl : lv[j]? with
    | none => rw [hl] at hjq; cases hjq
    | some o =>
      cases o with
      | none => rw [hl] at hjq; cases hjq
      | some w =>
        rw [hl] at hjq
        have e1 : (j, pe_c ad w) = q := Option.some.inj hjq
        rw [← e1]
        refine h'.2.2 (j, pe_c ad w) (List.mem_cons_of_mem _ (List.mem_filter.mpr ⟨pe_lmem hl (List.mem_range.mp hj), ?_⟩))
        have e2 : (j == i) = false := by simpa using fun z : j = i => e z.symm
        show (!(j == i) && !(j + 1 == i && (pe_c ad w).category == 2)) = true
        rw [e2]
        by_cases e3 : j + 1 = i
        · subst e3
          have hc : (pe_cat w == 1) = true := by
            have this : (match lv[j]? with
              | some (some w) => pe_cat w == 1
              | _ => true) = true := ho
            rw [hl] at this
            exact this
          have hc : pe_cat w = 1 := by simpa using hc
          rw [pe_cat_c, hc]
          simp
        · have : (j + 1 == i) = false := by simpa using e3
          rw [this]
          rfl
def pe_args (av : List pe_V) : pe_L := match av with
  | [] => []
  | v :: vs => if pe_cat v = 2 then some v :: none :: pe_args vs else some v :: pe_args vs
theorem pe_args_in {ad : Nat → Nat} : ∀ (av : List pe_V) (o j : Nat) (v : pe_V), (pe_args av)[j]? = some (some v) → (o + j, pe_c ad v) ∈ lv_args o (av.map (pe_c ad))
  | [], o, j, v, h => by simp [pe_args] at h
  | w :: vs, o, j, v, h => by
    unfold pe_args at h
    show (o + j, pe_c ad v) ∈ (o, pe_c ad w) :: lv_args (if (pe_c ad w).category = 2 then o + 2 else o + 1) (vs.map (pe_c ad))
    rw [pe_cat_c]
    by_cases hc : pe_cat w = 2
    · rw [if_pos hc] at h
      rw [if_pos hc]
      match j, h with
      | 0, h => have e : w = v := by simpa using h
                rw [e]; exact List.mem_cons_self
      | 1, h => simp at h
      | j + 2, h =>
        have := pe_args_in (ad := ad) vs (o + 2) j v (by simpa using h)
        rw [show o + (j + 2) = o + 2 + j by omega]
        exact List.mem_cons_of_mem _ this
    · rw [if_neg hc] at h
      rw [if_neg hc]
      match j, h with
      | 0, h => have e : w = v := by simpa using h
                rw [e]; exact List.mem_cons_self
      | j + 1, h =>
        have := pe_args_in (ad := ad) vs (o + 1) j v (by simpa using h)
        rw [show o + (j + 1) = o + 1 + j by omega]
        exact List.mem_cons_of_mem _ this
theorem pe_args_len {ad : Nat → Nat} : ∀ av : List pe_V, (lg_sl (av.map (pe_c ad))).length = (pe_args av).length
  | [] => rfl
  | w :: vs => by
    have ih := pe_args_len (ad := ad) vs
    unfold lg_sl at ih ⊢
    unfold pe_args
    rw [List.map_cons, List.flatMap_cons, List.length_append, ih, pe_cat_c]
    by_cases hc : pe_cat w = 2
    · rw [if_pos hc, if_pos hc]; simp; omega
    · rw [if_neg hc, if_neg hc]; simp; omega
/-- what a field holds -/
def pe_av (σ : pe_H) (a k : Nat) : pe_V := match pe_rt a k with
  | some j => .inr (.inl j)
  | none => .inl (σ a (k : Int))
def pe_en (ad : Nat → Nat) (cA : FieldType → ClassId) (σ : pe_H) (a : Nat) (e : pe_E) : va_E := match e with
  | .inl (ty, n) => .inl (cA ty, n, .inl (fun j => Int32.ofInt (σ a (j : Int))))
  | .inr (ci, N) => .inr (ci, (List.range N).map (fun k => pe_c ad (pe_av σ a k)))
def pe_wd (ad : Nat → Nat) (cA : FieldType → ClassId) (σ : pe_H) : va_W := pe_sh.mapIdx (fun a e => (ad a, pe_en ad cA σ a e))
theorem pe_wd_at {ad : Nat → Nat} {cA : FieldType → ClassId} {σ : pe_H} {a : Nat} {e : pe_E} (h : pe_sh[a]? = some e) : (pe_wd ad cA σ)[a]? = some (ad a, pe_en ad cA σ a e) := by
  unfold pe_wd
  rw [List.getElem?_mapIdx, h]
  rfl
theorem pe_av_same {σ σ' : pe_H} {a k : Nat} (h : σ' a = σ a) : pe_av σ' a k = pe_av σ a k := by
  unfold pe_av
  rw [h]
theorem pe_en_same {ad : Nat → Nat} {cA : FieldType → ClassId} {σ σ' : pe_H} {a : Nat} {e : pe_E} (h : σ' a = σ a) : pe_en ad cA σ' a e = pe_en ad cA σ a e := by
  unfold pe_en
  rcases e with ⟨ty, n⟩ | ⟨ci, N⟩
  · rw [h]
  · simp only [pe_av_same h]
theorem pe_wd_set {ad : Nat → Nat} {cA : FieldType → ClassId} {σ σ' : pe_H} {a : Nat} {e : pe_E} {E : va_E} (h : pe_sh[a]? = some e) (ho : ∀ b, b ≠ a → σ' b = σ b) (hE : E = pe_en ad cA σ' a e) : (pe_wd ad cA σ).set a (ad a, E) = pe_wd ad cA σ' := by
  subst hE
  apply List.ext_getElem?
  intro k
  rw [List.getElem?_set]
  unfold pe_wd
  by_cases hk : a = k
  · subst hk
    rw [if_pos rfl, List.getElem?_mapIdx, h]
    have hl : a < pe_sh.length := (List.getElem?_eq_some_iff.mp h).1
    rw [if_pos (by rw [List.length_mapIdx]; exact hl)]
    rfl
  · rw [if_neg hk, List.getElem?_mapIdx, List.getElem?_mapIdx]
    cases pe_sh[k]? with
    | none => rfl
    | some e' =>
      show some (ad k, pe_en ad cA σ k e') = some (ad k, pe_en ad cA σ' k e')
      rw [pe_en_same (ho k (fun q => hk q.symm))]
def pe_A (ad : Nat → Nat) (sz : Nat) : Nat → Prop := fun q => (∃ a, a < pe_sh.length ∧ q = ad a) ∨ sz ≤ q
theorem pe_wd_fst {ad : Nat → Nat} {cA : FieldType → ClassId} {σ : pe_H} {k : Nat} {q : Nat × va_E} (h : (pe_wd ad cA σ)[k]? = some q) : k < pe_sh.length ∧ q.1 = ad k := by
  unfold pe_wd at h
  rw [List.getElem?_mapIdx] at h
  cases hs : pe_sh[k]? with
  | none => rw [hs] at h; cases h
  | some e =>
    rw [hs] at h
    have h2 : (ad k, pe_en ad cA σ k e) = q := Option.some.inj h
    exact ⟨(List.getElem?_eq_some_iff.mp hs).1, by rw [← h2]⟩
theorem pe_D {ad : Nat → Nat} {cA : FieldType → ClassId} {σ : pe_H} {B : Nat → Prop} {sz : Nat} (h : va_D B (pe_wd ad cA σ)) (σ' : pe_H) : va_D (pe_A ad sz) (pe_wd ad cA σ') := by
  refine ⟨fun i j p q hp hq e => ?_, fun k q hk => Or.inl ⟨k, pe_wd_fst hk⟩⟩
  obtain ⟨h1, h2⟩ := pe_wd_fst hp
  obtain ⟨h3, h4⟩ := pe_wd_fst hq
  have e1 : pe_sh[i]? = some pe_sh[i] := List.getElem?_eq_getElem h1
  have e2 : pe_sh[j]? = some pe_sh[j] := List.getElem?_eq_getElem h3
  exact h.1 i j _ _ (pe_wd_at e1) (pe_wd_at e2) (by show ad i = ad j; rw [← h2, ← h4]; exact e)
theorem pe_A_wd {ad : Nat → Nat} {cA : FieldType → ClassId} {σ : pe_H} {sz q : Nat} : va_A (pe_wd ad cA σ) sz q ↔ pe_A ad sz q := by
  constructor
  · rintro (⟨k, e, h⟩ | h)
    · exact Or.inl ⟨k, pe_wd_fst h⟩
    · exact Or.inr h
  · rintro (⟨k, h1, h2⟩ | h)
    · refine Or.inl ⟨k, pe_en ad cA σ k pe_sh[k], ?_⟩
      rw [h2]
      exact pe_wd_at (List.getElem?_eq_getElem h1)
    · exact Or.inr h
theorem pe_A_le {ad : Nat → Nat} {s1 s2 q : Nat} (h : s1 ≤ s2) (hq : pe_A ad s2 q) : pe_A ad s1 q := by
  rcases hq with h1 | h1
  · exact Or.inl h1
  · exact Or.inr (Nat.le_trans h h1)
abbrev pe_ty (cA : FieldType → ClassId) : List (ClassId × FieldType) := [(cA .int, .int), (cA .boolean, .boolean), (cA .byte, .byte)]
/-- a method: its name, its code, its locals, its result; the frames and words that it nests -/
abbrev pe_Y : Type := MethodName × ByteArray × Nat × Option FieldType × Nat × Nat
abbrev pe_ws (y : pe_Y) : List Cond := .code y.1 y.2.1 y.2.2.1 y.2.2.2.1 :: pe_WS
abbrev pe_rm (y : pe_Y) : Room := { frames := y.2.2.2.2.1, cells := 0, slots := 0, locals := y.2.2.2.2.2 }
def pe_Qc (D : va_G) (ad : Nat → Nat) (cA : FieldType → ClassId) (A : Nat → Prop) (Q : Option pe_V → pe_H → Prop) : Array Value → State → Outcome → State → Prop := fun _ st oc t =>
  (∃ (r : Option pe_V) (σ' : pe_H), oc = .returned (r.map (pe_c ad)) ∧ Q r σ' ∧ va_P D vwCl (pe_wd ad cA σ') t.heap) ∧ va_F A st t
/-- what the JDK's statics hold, that nobody writes: Strings are compact; the tables of digits -/
def pe_Zt (ad : Nat → Nat) (q : Nat) (n : String) (A : Nat → Prop) (U : State) (H : Heap) : Prop := ∃ f : Nat → Int32, va_Z "java/lang/Integer" n "[B" (.ref (ad q)) A U H ∧ va_T .byte (ad q) 100 (fun j => .int (f j)) A U H ∧ ∀ j, j < 100 → 48 ≤ (f j).toInt ∧ (f j).toInt ≤ 57
def pe_Zs (ad : Nat → Nat) (A : Nat → Prop) (U : State) (H : Heap) : Prop := va_Z "java/lang/String" "COMPACT_STRINGS" "Z" (.int 1) A U H ∧ pe_Zt ad 47 "DigitOnes" A U H ∧ pe_Zt ad 48 "DigitTens" A U H ∧ va_Zq "jdk/internal/util/Preconditions" "SIOOBE_FORMATTER" "Ljava/util/function/BiFunction;" A U H
theorem pe_Zt.moved {ad : Nat → Nat} {q : Nat} {n : String} {A : Nat → Prop} {u U : State} {H : Heap} (hvm : u.vm.Alike U.vm) (h : pe_Zt ad q n A u H) : pe_Zt ad q n A U H := by
  obtain ⟨f, h1, h2, h3⟩ := h
  exact ⟨f, va_Z.moved hvm h1, va_T.moved hvm h2, h3⟩
theorem pe_Zs.moved {ad : Nat → Nat} {A : Nat → Prop} {u U : State} {H : Heap} (hvm : u.vm.Alike U.vm) (h : pe_Zs ad A u H) : pe_Zs ad A U H := ⟨va_Z.moved hvm h.1, pe_Zt.moved hvm h.2.1, pe_Zt.moved hvm h.2.2.1, va_Zq.moved hvm h.2.2.2⟩
theorem pe_Zt.kept {ad : Nat → Nat} {q : Nat} {n : String} {A : Nat → Prop} {U : State} {H H1 : Heap} (h : pe_Zt ad q n A U H) (hq : ∀ a : Nat, a < H.size → ¬ A a → H1[a]? = H[a]?) : pe_Zt ad q n A U H1 := by
  obtain ⟨f, h1, h2, h3⟩ := h
  exact ⟨f, h1.kept hq, h2.kept hq, h3⟩
theorem pe_Zt.narrow {ad : Nat → Nat} {q : Nat} {n : String} {A B : Nat → Prop} {U : State} {H : Heap} (h : pe_Zt ad q n A U H) (hAB : ∀ q, B q → A q) : pe_Zt ad q n B U H := by
  obtain ⟨f, h1, h2, h3⟩ := h
  exact ⟨f, h1.narrow hAB, h2.narrow hAB, h3⟩
theorem pe_Zs_at {ad : Nat → Nat} {s : State} {H : Heap} {locs : List Loc} (h : pe_Zs ad (pe_A ad s.heap.size) s s.heap) (hS : va_S (pe_A ad s.heap.size) s.heap H locs) : pe_Zs ad (pe_A ad H.size) s H :=
  have q : ∀ a : Nat, a < s.heap.size → ¬ pe_A ad s.heap.size a → H[a]? = s.heap[a]? := fun a h1 h2 => hS.2.1 a h1 h2
  have w : ∀ a, pe_A ad H.size a → pe_A ad s.heap.size a := fun _ z => pe_A_le hS.1 z
  ⟨(h.1.kept q).narrow w, (h.2.1.kept q).narrow w, (h.2.2.1.kept q).narrow w, (h.2.2.2.kept q).narrow w⟩
def pe_X (y : pe_Y) (D : va_G) (ad : Nat → Nat) (cA : FieldType → ClassId) (p : Program) (s : State) (m : MethodId) (args : Array Value) (meth : Method) (c : Code) : Prop :=
  p.tables.exec = Jvm.exec ∧ c.code = y.2.1 ∧ meth.sig.returnType = y.2.2.2.1 ∧ meth.locks = false ∧ c.maxLocals = y.2.2.1 ∧ (∀ w ∈ pe_ws y, w.before args s = true) ∧ s.vm.findClass y.1.cls = some m.cls ∧ va_K D vwCl (pe_ty cA) s ∧ pe_Zs ad (pe_A ad s.heap.size) s s.heap
/-- the judgement: from this place of the method, with these locals, operands and cells, the method ends, and Q of its answer and of the cells -/
def pe_G (y : pe_Y) (pc : Nat) (lv : pe_L) (st : List pe_V) (σ : pe_H) (Q : Option pe_V → pe_H → Prop) : Prop :=
  ∀ (l : Launch) (D : va_G) (ad : Nat → Nat) (cA : FieldType → ClassId) (p : Program) (e : Env) (s : State) (m : MethodId) (args : Array Value) (below : List Frame) (meth : Method) (c : Code) (H : Heap) (locs : List Loc) (ls : Array Slot),
    pe_X y D ad cA p s m args meth c → pe_lh ad ls y.2.2.1 lv → va_P D vwCl (pe_wd ad cA σ) H → va_D (pe_A ad s.heap.size) (pe_wd ad cA σ) → va_S (pe_A ad s.heap.size) s.heap H locs →
    W p l e (headSpec (pe_ws y) (pe_rm y)).room s m args below meth c H locs 0 0 (MQ below (pe_Qc D ad cA (pe_A ad s.heap.size) Q) args s 0 0 (pe_A ad s.heap.size)) (F0 m pc ls (st.map (pe_c ad)))
/-- the contract: called with these arguments over these cells, it returns, and Q -/
def pe_M (y : pe_Y) (av : List pe_V) (σ : pe_H) (Q : Option pe_V → pe_H → Prop) : Prop :=
  ∀ (l : Launch) (D : va_G) (ad : Nat → Nat) (cA : FieldType → ClassId) (sz : Nat), Met l y.1 (pe_ws y) (pe_rm y)
    (va_Pc (av.map (pe_c ad)) (fun U => U.heap.size = sz ∧ va_P D vwCl (pe_wd ad cA σ) U.heap ∧ va_K D vwCl (pe_ty cA) U ∧ va_D (fun _ => True) (pe_wd ad cA σ) ∧ pe_Zs ad (pe_A ad sz) U U.heap))
    (pe_Qc D ad cA (pe_A ad sz) Q) 0 0 (pe_A ad sz)
theorem pe_G.to {y : pe_Y} {pc : Nat} {lv lv' : pe_L} {st st' : List pe_V} {σ σ' : pe_H} {Q : Option pe_V → pe_H → Prop} (h : pe_G y pc lv st σ Q) (h1 : lv = lv' := by rfl) (h2 : st = st' := by rfl) (h3 : σ = σ' := by rfl) : pe_G y pc lv' st' σ' Q := by
  subst h1; subst h2; subst h3; exact h
theorem pe_enter {y : pe_Y} {av : List pe_V} {lv : pe_L} {σ : pe_H} {Q : Option pe_V → pe_H → Prop} (hy : plainName y.1.cls = true) (hlv : lv = pe_args av ++ List.replicate (y.2.2.1 - (pe_args av).length) none) (hlen : (pe_args av).length ≤ y.2.2.1) (k : pe_G y 0 lv [] σ Q) : pe_M y av σ Q := by
  intro l D ad cA sz
  refine Met.ofW (cc := y.2.1) (maxL := y.2.2.1) (ret := y.2.2.2.1) hy rfl ?_
  intro p e s m args below meth c s₁ B hml hv
  obtain ⟨rfl, hsz, hP, hK, hD0, hZ0⟩ := hv
  subst hsz
  have hts := atoms_spec (ws := pe_ws y) B.pre
  have hl := lv_entry (av.map (pe_c ad)) (n := y.2.2.1) (by rw [pe_args_len]; exact hlen)
  rw [lg_entry_eq]
  generalize (lg_sl (av.map (pe_c ad)) ++ List.replicate (y.2.2.1 - (lg_sl (av.map (pe_c ad))).length) Slot.unset).toArray = ls at hl ⊢
  refine k l D ad cA p e s m _ below meth c s.heap [] ls ⟨B.exec, B.bytes, B.returns, B.notSynchronized, hml, hts, findClass_of_methodNamed B.named, hK, hZ0⟩ ⟨?_, hl.1, hl.2.1, fun q hq => ?_⟩ hP (pe_D hD0 σ) va_S.rf
  · rw [hlv, List.length_append, List.length_replicate]
    omega
  · obtain ⟨j, hj, hjq⟩ := List.mem_filterMap.mp hq
    cases hg : lv[j]? with
    | none => rw [hg] at hjq; cases hjq
    | some o =>
      cases o with
      | none => rw [hg] at hjq; cases hjq
      | some w =>
        rw [hg] at hjq
        have e1 : (j, pe_c ad w) = q := Option.some.inj hjq
        rw [← e1]
        refine hl.2.2 (j, pe_c ad w) ?_
        have h1 : (pe_args av)[j]? = some (some w) := by
          rw [hlv, List.getElem?_append] at hg
          by_cases hlt : j < (pe_args av).length
          · rw [if_pos hlt] at hg; exact hg
          · rw [if_neg hlt, List.getElem?_replicate] at hg
            by_cases h2 : j - (pe_args av).length < y.2.2.1 - (pe_args av).length
            · rw [if_pos h2] at hg; cases hg
            · rw [if_neg h2] at hg; cases hg
        have := pe_args_in (ad := ad) av 0 j w h1
        rw [Nat.zero_add] at this
        exact this
/-- class facts of a field -/
def pe_FL (own : String) (idx ci k N : Nat) : Prop := ∃ (C : String) (T : u_T) (ty0 : Nat → FieldType), vwCl[ci]? = some (C, T, N) ∧ k < N ∧ (∀ w ∈ u_ws C T N, w ∈ pe_WS) ∧ (∀ k, k < N → parseFieldDescriptor (T k).2.2.1 = some (ty0 k)) ∧ (∀ a, a < N → ∀ b, b < N → a ≠ b → (T a).2.1 ≠ (T b).2.1) ∧ Cond.fieldLink own idx (T k).1 (T k).2.1 (T k).2.2.1 ∈ pe_WS
def pe_FP (ci k : Nat) (ty : FieldType) : Prop := ∃ (C : String) (T : u_T) (N : Nat), vwCl[ci]? = some (C, T, N) ∧ (T k).2.2.2 = false ∧ parseFieldDescriptor (T k).2.2.1 = some ty
/-- the word of a call -/
def pe_CL (own : String) (idx : Nat) (y : pe_Y) (n : Nat) : Prop := Cond.methodLink own idx y.1 ∈ pe_WS ∧ Cond.code y.1 y.2.1 y.2.2.1 y.2.2.2.1 ∈ pe_WS ∧ Cond.initialized y.1.cls ∈ pe_WS ∧ (y.1.cls ≠ "java/lang/invoke/MethodHandle" ∧ y.1.cls ≠ "java/lang/invoke/VarHandle" ∧ (parseMethodDescriptor y.1.desc).map (fun d => d.parameters.length) = some n)
theorem pe_good {y y' : pe_Y} (h : Cond.code y'.1 y'.2.1 y'.2.2.1 y'.2.2.2.1 ∈ pe_WS) : GoodIn (pe_ws y) (pe_ws y') := by
  intro w hw
  rcases List.mem_cons.mp hw with rfl | hw
  · exact ⟨List.mem_cons_of_mem _ h, pe_WS_good _ h⟩
  · exact ⟨List.mem_cons_of_mem _ hw, pe_WS_good _ hw⟩
