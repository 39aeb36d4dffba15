/-! what holds at the law's start -/
theorem pe_v1 {w : Cond} (h : w ∈ tables_1_1) : w ∈ lw_tbl := List.mem_append_right _ (by show w ∈ tables_1; exact List.mem_append_left _ h)
theorem pe_v2 {w : Cond} (h : w ∈ tables_1_2) : w ∈ lw_tbl := List.mem_append_right _ (by show w ∈ tables_1; exact List.mem_append_right _ (List.mem_append_left _ h))
theorem pe_v3 {w : Cond} (h : w ∈ tables_1_3) : w ∈ lw_tbl := List.mem_append_right _ (by show w ∈ tables_1; exact List.mem_append_right _ (List.mem_append_right _ (List.mem_append_left _ h)))
theorem pe_v4 {w : Cond} (h : w ∈ tables_1_4) : w ∈ lw_tbl := List.mem_append_right _ (by show w ∈ tables_1; exact List.mem_append_right _ (List.mem_append_right _ (List.mem_append_right _ (List.mem_append_left _ h))))
theorem pe_v5 {w : Cond} (h : w ∈ tables_1_5) : w ∈ lw_tbl := List.mem_append_right _ (by show w ∈ tables_1; exact List.mem_append_right _ (List.mem_append_right _ (List.mem_append_right _ (List.mem_append_right _ (List.mem_append_left _ h)))))
theorem pe_v6 {w : Cond} (h : w ∈ tables_1_6) : w ∈ lw_tbl := List.mem_append_right _ (by show w ∈ tables_1; exact List.mem_append_right _ (List.mem_append_right _ (List.mem_append_right _ (List.mem_append_right _ (List.mem_append_right _ (h))))))
theorem lw_xw {args : Array Value} {s : State} (h : ∀ w ∈ lw_tbl, w.before args s = true) : pe_xw.before args s = true := by
  obtain ⟨c2, r2, m2, q1, q2, q3, q4, kP, hkP, hkPi⟩ := Cond.selects_spec (h (.selects "java/lang/StringBuilder" pe_Il pe_Il) (pe_v3 (List.mem_of_getElem? (i := 195) (by decide +kernel))))
  obtain ⟨mk, methM, hnamed, hmethM, -, -⟩ := Cond.instanceMethod_spec (h (.instanceMethod pe_En) (pe_v3 (List.mem_of_getElem? (i := 165) (by decide +kernel))))
  have hpriv := h (.privateMethod pe_En) (pe_v3 (List.mem_of_getElem? (i := 164) (by decide +kernel)))
  have hfound : s.methodFound? pe_En.cls pe_En.name pe_En.desc = some mk := State.methodFound?_of_named hnamed (by decide)
  have e1 : s.vm.findClass "java/lang/AbstractStringBuilder" = some mk.cls := findClass_of_methodNamed hnamed
  have e2 : s.vm.findClass "java/lang/AbstractStringBuilder" = some m2.cls := findClass_of_methodNamed q3
  have hcls : mk.cls = m2.cls := Option.some.inj (e1.symm.trans e2)
  have hsel : selectMethod {} s.vm c2 mk = .method mk := selectMethod_private hmethM (Cond.privateMethod_at hpriv mk methM hnamed hmethM)
  simp only [Cond.before, Cond.holds, Cond.value, q1, hfound, hnamed, hsel, hcls, hkP]
  simp
  exact hkPi
theorem lw_words {args : Array Value} {s : State} (h : ∀ w ∈ lw_tbl, w.before args s = true) : ∀ w ∈ pe_WS, w.before args s = true := by
  intro w hw
  rcases List.mem_cons.mp (List.mem_filter.mp hw).1 with rfl | hw
  · exact lw_xw h
  · exact h w hw
theorem lw_kn {args : Array Value} {s : State} (hts : ∀ w ∈ pe_WS, w.before args s = true) (c : Nat) : ∃ (cC : ClassId) (iS : Nat → Nat), ∀ q, vwCl[c]? = some q → u_Kn s q.1 q.2.1 q.2.2 cC iS := by
  rcases Nat.lt_or_ge c 12 with h | h
  · rcases (show c = 0 ∨ c = 1 ∨ c = 2 ∨ c = 3 ∨ c = 4 ∨ c = 5 ∨ c = 6 ∨ c = 7 ∨ c = 8 ∨ c = 9 ∨ c = 10 ∨ c = 11 by omega) with rfl | rfl | rfl | rfl | rfl | rfl | rfl | rfl | rfl | rfl | rfl | rfl
    · obtain ⟨cC, iS, hk⟩ := u_known (n := 4) hts pe_k0.1 (hts _ (pe_w1 (List.mem_of_getElem? (i := 25) (by decide +kernel))))
      refine ⟨cC, iS, fun q hq => ?_⟩
      have e : ("PaintEditor", pe_T0, 4) = q := Option.some.inj hq
      subst e
      exact hk
    · obtain ⟨cC, iS, hk⟩ := u_known (n := 7) hts pe_k1.1 (hts _ (pe_w1 (List.mem_of_getElem? (i := 39) (by decide +kernel))))
      refine ⟨cC, iS, fun q hq => ?_⟩
      have e : ("PaintEditor$Keyboard", pe_T1, 7) = q := Option.some.inj hq
      subst e
      exact hk
    · obtain ⟨cC, iS, hk⟩ := u_known (n := 12) hts pe_k2.1 (hts _ (pe_w1 (List.mem_of_getElem? (i := 68) (by decide +kernel))))
      refine ⟨cC, iS, fun q hq => ?_⟩
      have e : ("PaintEditor$Editor", pe_T2, 12) = q := Option.some.inj hq
      subst e
      exact hk
    · obtain ⟨cC, iS, hk⟩ := u_known (n := 2) hts pe_k3.1 (hts _ (pe_w1 (List.mem_of_getElem? (i := 74) (by decide +kernel))))
      refine ⟨cC, iS, fun q hq => ?_⟩
      have e : ("PaintEditor$Text", pe_T3, 2) = q := Option.some.inj hq
      subst e
      exact hk
    · obtain ⟨cC, iS, hk⟩ := u_known (n := 7) hts pe_k4.1 (hts _ (pe_w1 (List.mem_of_getElem? (i := 91) (by decide +kernel))))
      refine ⟨cC, iS, fun q hq => ?_⟩
      have e : ("PaintEditor$History", pe_T4, 7) = q := Option.some.inj hq
      subst e
      exact hk
    · obtain ⟨cC, iS, hk⟩ := u_known (n := 3) hts pe_k5.1 (hts _ (pe_w1 (List.mem_of_getElem? (i := 122) (by decide +kernel))))
      refine ⟨cC, iS, fun q hq => ?_⟩
      have e : ("PaintEditor$Layout", pe_T5, 3) = q := Option.some.inj hq
      subst e
      exact hk
    · obtain ⟨cC, iS, hk⟩ := u_known (n := 5) hts pe_k6.1 (hts _ (pe_w1 (List.mem_of_getElem? (i := 193) (by decide +kernel))))
      refine ⟨cC, iS, fun q hq => ?_⟩
      have e : ("PaintEditor$Screen", pe_T6, 5) = q := Option.some.inj hq
      subst e
      exact hk
    · obtain ⟨cC, iS, hk⟩ := u_known (n := 4) hts pe_k7.1 (hts _ (pe_w1 (List.mem_of_getElem? (i := 231) (by decide +kernel))))
      refine ⟨cC, iS, fun q hq => ?_⟩
      have e : ("PaintEditor$Grid", pe_T7, 4) = q := Option.some.inj hq
      subst e
      exact hk
    · obtain ⟨cC, iS, hk⟩ := u_known (n := 4) hts pe_k8.1 (hts _ (pe_w1 (List.mem_of_getElem? (i := 199) (by decide +kernel))))
      refine ⟨cC, iS, fun q hq => ?_⟩
      have e : ("java/lang/StringBuilder", pe_T8, 4) = q := Option.some.inj hq
      subst e
      exact hk
    · obtain ⟨cC, iS, hk⟩ := u_known (n := 3) hts pe_k9.1 (hts _ (pe_w2 (List.mem_of_getElem? (i := 39) (by decide +kernel))))
      refine ⟨cC, iS, fun q hq => ?_⟩
      have e : ("PaintEditor$Painter", pe_T9, 3) = q := Option.some.inj hq
      subst e
      exact hk
    · obtain ⟨cC, iS, hk⟩ := u_known (n := 8) hts pe_k10.1 (hts _ (pe_w2 (List.mem_of_getElem? (i := 45) (by decide +kernel))))
      refine ⟨cC, iS, fun q hq => ?_⟩
      have e : ("PaintEditor$Terminal", pe_T10, 8) = q := Option.some.inj hq
      subst e
      exact hk
    · obtain ⟨cC, iS, hk⟩ := u_known (n := 44) hts pe_k11.1 (hts _ (pe_w4 (List.mem_of_getElem? (i := 223) (by decide +kernel))))
      refine ⟨cC, iS, fun q hq => ?_⟩
      have e : ("PaintEditorModel", pe_T11, 44) = q := Option.some.inj hq
      subst e
      exact hk
  · refine ⟨0, fun _ => 0, fun q hq => ?_⟩
    rw [List.getElem?_eq_none (by simpa using h)] at hq
    cases hq
theorem lw_arr {args : Array Value} {s : State} {ty : FieldType} (h : (Cond.arrayClass ty).before args s = true) (hp : ty = .int ∨ ty = .boolean ∨ ty = .byte) : ∃ c, ArrOfT s c ty ∧ va_RA s c ty := by
  obtain ⟨c, k, comp, h1, h2, h3⟩ := Cond.arrayClass_spec h
  refine ⟨c, fun n z => ⟨fun k h => (by cases h), k, h2, comp, h3⟩, ?_⟩
  rcases hp with rfl | rfl | rfl <;> exact h1
theorem lw_know {args : Array Value} {s : State} (hts : ∀ w ∈ pe_WS, w.before args s = true) : ∃ (D : va_G) (cA : FieldType → ClassId), va_K D vwCl (pe_ty cA) s := by
  have h := lw_kn hts
  obtain ⟨c1, h1⟩ := lw_arr (hts _ a_int) (Or.inl rfl)
  obtain ⟨c2, h2⟩ := lw_arr (hts _ a_boolean) (Or.inr (Or.inl rfl))
  obtain ⟨c3, h3⟩ := lw_arr (hts _ a_byte) (Or.inr (Or.inr rfl))
  refine ⟨(fun c => (h c).choose, fun c => (h c).choose_spec.choose), fun ty => match ty with
    | .int => c1
    | .boolean => c2
    | _ => c3, fun c q hq => (h c).choose_spec.choose_spec q hq, fun k q hk => ?_⟩
  match k, hk with
  | 0, hk => cases hk; exact h1
  | 1, hk => cases hk; exact h2
  | 2, hk => cases hk; exact h3
  | n + 3, hk => simp at hk
abbrev lw_fl : List Cond := flatC (Cond.and given_1 narrow_1)
theorem lw_xDigitOnes : ∀ j : Nat, j < 100 → lw_fl[8 + j]? = some (Cond.eq (.elem (.static "java/lang/Integer" "DigitOnes" "[B") (.int (Int32.ofNat j))) (.int (Int32.ofNat (48 + j % 10)))) := by decide +kernel
theorem lw_wDigitOnes (j : Nat) (h : j < 100) : Cond.eq (.elem (.static "java/lang/Integer" "DigitOnes" "[B") (.int (Int32.ofNat j))) (.int (Int32.ofNat (48 + j % 10))) ∈ flatC (Cond.and given_1 narrow_1) := List.mem_of_getElem? (lw_xDigitOnes j h)
theorem lw_bDigitOnes : ∀ j : Nat, j < 100 → 48 ≤ (Int32.ofNat (48 + j % 10)).toInt ∧ (Int32.ofNat (48 + j % 10)).toInt ≤ 57 := by decide +kernel
theorem lw_xDigitTens : ∀ j : Nat, j < 100 → lw_fl[111 + j]? = some (Cond.eq (.elem (.static "java/lang/Integer" "DigitTens" "[B") (.int (Int32.ofNat j))) (.int (Int32.ofNat (48 + j / 10)))) := by decide +kernel
theorem lw_wDigitTens (j : Nat) (h : j < 100) : Cond.eq (.elem (.static "java/lang/Integer" "DigitTens" "[B") (.int (Int32.ofNat j))) (.int (Int32.ofNat (48 + j / 10))) ∈ flatC (Cond.and given_1 narrow_1) := List.mem_of_getElem? (lw_xDigitTens j h)
theorem lw_bDigitTens : ∀ j : Nat, j < 100 → 48 ≤ (Int32.ofNat (48 + j / 10)).toInt ∧ (Int32.ofNat (48 + j / 10)).toInt ≤ 57 := by decide +kernel
theorem lw_Zs {s : State} {b : Nat} {A : Nat → Prop} (h : ∀ w ∈ lw_tbl, w.before #[Value.ref b] s = true) (hg : (Cond.and given_1 narrow_1).before #[Value.ref b] s = true) (hA : ∀ a : Nat, a < s.heap.size → ¬ A a) : ∃ t1 t2 : Nat, ∀ ad : Nat → Nat, ad 47 = t1 → ad 48 = t2 → pe_Zs ad A s s.heap := by
  have hs := flat_of_before _ hg
  obtain ⟨t0, ht0, hT0⟩ := va_Tof (N := 100) (f := fun j => .int (Int32.ofNat (48 + j % 10))) (by decide) (hs (Cond.arrayOf (.static "java/lang/Integer" "DigitOnes" "[B") .byte) (List.mem_of_getElem? (i := 6) (by decide +kernel))) (va_eqt (hs (Cond.eq (.length (.static "java/lang/Integer" "DigitOnes" "[B")) (.int 100)) (List.mem_of_getElem? (i := 7) (by decide +kernel)))) (fun j hj => va_eqt (hs _ (lw_wDigitOnes j hj))) hA
  obtain ⟨t1, ht1, hT1⟩ := va_Tof (N := 100) (f := fun j => .int (Int32.ofNat (48 + j / 10))) (by decide) (hs (Cond.arrayOf (.static "java/lang/Integer" "DigitTens" "[B") .byte) (List.mem_of_getElem? (i := 109) (by decide +kernel))) (va_eqt (hs (Cond.eq (.length (.static "java/lang/Integer" "DigitTens" "[B")) (.int 100)) (List.mem_of_getElem? (i := 110) (by decide +kernel)))) (fun j hj => va_eqt (hs _ (lw_wDigitTens j hj))) hA
  refine ⟨t0, t1, fun ad e1 e2 => ⟨va_Zof (h _ (pe_v1 (List.mem_of_getElem? (i := 208) (by decide +kernel)))) (h _ (pe_v1 (List.mem_of_getElem? (i := 11) (by decide +kernel)))) (va_eqi (hs (Cond.eq (.static "java/lang/String" "COMPACT_STRINGS" "Z") (.int 1)) (List.mem_of_getElem? (i := 4) (by decide +kernel)))) hA, ?_, ?_, va_Zqof (h _ (pe_v4 (List.mem_of_getElem? (i := 4) (by decide +kernel)))) (h _ (pe_v1 (List.mem_of_getElem? (i := 23) (by decide +kernel)))) (hs (Cond.isRef (.static "jdk/internal/util/Preconditions" "SIOOBE_FORMATTER" "Ljava/util/function/BiFunction;")) (List.mem_of_getElem? (i := 211) (by decide +kernel))) hA⟩⟩
  · refine ⟨fun j => Int32.ofNat (48 + j % 10), ?_, ?_, lw_bDigitOnes⟩
    · rw [e1]; exact va_Zref (h _ (pe_v3 (List.mem_of_getElem? (i := 228) (by decide +kernel)))) (h _ (pe_v1 (List.mem_of_getElem? (i := 22) (by decide +kernel)))) ht0 hA
    · rw [e1]; exact hT0
  · refine ⟨fun j => Int32.ofNat (48 + j / 10), ?_, ?_, lw_bDigitTens⟩
    · rw [e2]; exact va_Zref (h _ (pe_v3 (List.mem_of_getElem? (i := 230) (by decide +kernel)))) (h _ (pe_v1 (List.mem_of_getElem? (i := 22) (by decide +kernel)))) ht1 hA
    · rw [e2]; exact hT1
theorem pe_Ri (x : Int32) : pe_R x.toInt := ⟨by have := Int32.le_toInt x; omega, by have := Int32.toInt_lt x; omega⟩
theorem lw_g (f : Nat → Int32) : ∃ g : Int → Int, (∀ j, pe_R (g j)) ∧ f = fun j : Nat => Int32.ofInt (g (j : Int)) := ⟨fun z => (f z.toNat).toInt, fun j => pe_Ri _, by
  funext j
  show f j = Int32.ofInt (f ((j : Int)).toNat).toInt
  rw [Int32.ofInt_toInt, Int.toNat_natCast]⟩
theorem lw_g2 (f : Nat → Int32) (h1 : ∀ j : Nat, j < 192 → f j = 32) (h2 : ∀ j : Nat, f j = 0 ∨ f j = 32) : ∃ g : Int → Int, (∀ j, g j = 0 ∨ g j = 32) ∧ g 0 = 32 ∧ f = fun j : Nat => Int32.ofInt (g (j : Int)) := ⟨fun z => (f z.toNat).toInt, fun j => by
    rcases h2 j.toNat with h | h
    · left; show (f j.toNat).toInt = 0; rw [h]; rfl
    · right; show (f j.toNat).toInt = 32; rw [h]; rfl, by show (f (0 : Int).toNat).toInt = 32; rw [h1 _ (by decide)]; rfl, by
  funext j
  show f j = Int32.ofInt (f ((j : Int)).toNat).toInt
  rw [Int32.ofInt_toInt, Int.toNat_natCast]⟩
