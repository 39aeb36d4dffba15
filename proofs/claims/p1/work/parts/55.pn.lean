/-! constructors, and the law: worlds are lists here -/
def pn_E (A : Nat → Prop) (U : State) (H : Heap) : Prop := va_Z "java/lang/String" "COMPACT_STRINGS" "Z" (.int 1) A U H ∧ va_Nw (.methodLinkNest "PaintEditor" 20 ⟨"PaintEditor$Keyboard", "<init>", "()V"⟩ "PaintEditor") U ∧ va_Nw (.methodLinkNest "PaintEditor$Editor" 11 ⟨"PaintEditor$Text", "<init>", "()V"⟩ "PaintEditor") U ∧ va_Nw (.methodLinkNest "PaintEditor$Editor" 20 ⟨"PaintEditor$History", "<init>", "()V"⟩ "PaintEditor") U ∧ va_Nw (.methodLinkNest "PaintEditor$Editor" 27 ⟨"PaintEditor$Layout", "<init>", "()V"⟩ "PaintEditor") U
theorem pn_E.call {A : Nat → Prop} {U U' : State} {H : Heap} (e : U.vm = U'.vm) (h : pn_E A U H) : pn_E A U' H := ⟨va_Z.moved (by rw [e]; exact Vm.Alike.refl _) h.1, va_Nw.same rfl e h.2.1, va_Nw.same rfl e h.2.2.1, va_Nw.same rfl e h.2.2.2.1, va_Nw.same rfl e h.2.2.2.2⟩
theorem pn_E.warm {A : Nat → Prop} {s U : State} {H : Heap} (hW : s.WarmedH U.vm) (h : pn_E A s H) : pn_E A U H := ⟨va_Z.moved hW.alike h.1, va_Nw.warmM hW h.2.1, va_Nw.warmM hW h.2.2.1, va_Nw.warmM hW h.2.2.2.1, va_Nw.warmM hW h.2.2.2.2⟩
theorem pn_E.at {A B : Nat → Prop} {s : State} {H0 H : Heap} {locs : List Loc} (h : pn_E A s H0) (hS : va_S A H0 H locs) (hB : ∀ q, B q → A q) : pn_E B s H := ⟨(h.1.kept (fun a h1 h2 => hS.2.1 a h1 h2)).narrow hB, h.2⟩
def pn_X (own : String) (cc : ByteArray) (nL : Nat) (D : va_G) (cA : FieldType → ClassId) (A : Nat → Prop) (p : Program) (s : State) (m : MethodId) (args : Array Value) (c : Code) : Prop :=
  p.tables.exec = Jvm.exec ∧ c.code = cc ∧ c.maxLocals = nL ∧ (∀ w ∈ pe_WS, w.before args s = true) ∧ s.vm.findClass own = some m.cls ∧ va_K D vwCl (pe_ty cA) s ∧ (∀ q, s.heap.size ≤ q → A q) ∧ pn_E A s s.heap
def pn_G (nL : Nat) (D : va_G) (A : Nat → Prop) (p : Program) (l : Launch) (e : Env) (R : Room) (s : State) (m : MethodId) (args : Array Value) (below : List Frame) (meth : Method) (c : Code) (QQ : State → Prop) (pc : Nat) (lv : List (Nat × Value)) (st : List Value) (w : va_W) (cells slots : Nat) : Prop :=
  ∀ (H : Heap) (locs : List Loc) (ls : Array Slot), lv_has ls nL lv → va_P D vwCl w H → va_D A w → va_S A s.heap H locs → W p l e R s m args below meth c H locs cells slots QQ (F0 m pc ls st)
abbrev pn_rm (y : pe_Y) (k n : Nat) : Room := { frames := y.2.2.2.2.1, cells := k, slots := n, locals := y.2.2.2.2.2 }
abbrev pn_Q (D : va_G) (A : Nat → Prop) (B : va_W → Prop) : Array Value → State → Outcome → State → Prop := va_Qv B (fun w1 t => va_P D vwCl w1 t.heap ∧ va_D A w1) A
def pn_C (y : pe_Y) (k n : Nat) (av : List Value) (w0 : va_W) (D : va_G) (cA : FieldType → ClassId) (B : va_W → Prop) : Prop :=
  ∀ (l : Launch) (sz : Nat), Met l y.1 (pe_ws y) (pn_rm y k n) (va_Pc av (fun U => U.heap.size = sz ∧ va_P D vwCl w0 U.heap ∧ va_K D vwCl (pe_ty cA) U ∧ va_D (fun _ => True) w0 ∧ pn_E (va_A w0 sz) U U.heap)) (pn_Q D (va_A w0 sz) B) k n (va_A w0 sz)
def pe_FF (own : String) (ci k : Nat) (ty : FieldType) : Prop := ∃ (C : String) (T : u_T) (N : Nat), vwCl[ci]? = some (C, T, N) ∧ (T k).2.2.2 = true ∧ (T k).1 = own ∧ parseFieldDescriptor (T k).2.2.1 = some ty
theorem pn_good {y' : pe_Y} (h : Cond.code y'.1 y'.2.1 y'.2.2.1 y'.2.2.2.1 ∈ pe_WS) : GoodIn pe_WS (pe_ws y') := by
  intro w hw
  rcases List.mem_cons.mp hw with rfl | hw
  · exact ⟨h, pe_WS_good _ h⟩
  · exact ⟨hw, pe_WS_good _ hw⟩
section PN
variable {own : String} {cc : ByteArray} {nL : Nat} {D : va_G} {cA : FieldType → ClassId} {A : Nat → Prop} {p : Program} {l : Launch} {e : Env} {R : Room} {s : State} {m : MethodId} {args : Array Value} {below : List Frame} {meth : Method} {c : Code} {QQ : State → Prop} {pc : Nat} {lv : List (Nat × Value)} {st : List Value} {w : va_W} {cells slots : Nat}
theorem pn_w {w' : va_W} (h : w = w') (kk : pn_G nL D A p l e R s m args below meth c QQ (pc) lv (st) w' (cells) (slots)) : pn_G nL D A p l e R s m args below meth c QQ (pc) lv (st) w (cells) (slots) := by
  subst h
  exact kk
theorem pn_st {st' : List Value} (h : st = st') (kk : pn_G nL D A p l e R s m args below meth c QQ (pc) lv (st') w (cells) (slots)) : pn_G nL D A p l e R s m args below meth c QQ (pc) lv (st) w (cells) (slots) := by
  subst h
  exact kk
theorem pn_lv {lv' : List (Nat × Value)} (ks : List Nat) (h : lv_pick lv ks = lv') (kk : pn_G nL D A p l e R s m args below meth c QQ (pc) lv' (st) w (cells) (slots)) : pn_G nL D A p l e R s m args below meth c QQ (pc) lv (st) w (cells) (slots) := fun H locs ls hl hP hD hS => kk H locs ls (lv_sub hl ks h) hP hD hS
theorem pn_widen {k n : Nat} (h1 : cells ≤ k) (h2 : slots ≤ n) (kk : pn_G nL D A p l e R s m args below meth c QQ (pc) lv (st) w (k) (n)) : pn_G nL D A p l e R s m args below meth c QQ (pc) lv (st) w (cells) (slots) := fun H locs ls hl hP hD hS => W.widen h1 h2 (kk H locs ls hl hP hD hS)
theorem pn_aload_n (X : pn_X own cc nL D cA A p s m args c) {k : Fin 4} {i a : Nat} (hd : decode cc pc = .ok (.aload_n k, 1)) (hi : (k : Nat) = i) (j : Nat) (hj : lv[j]? = some (i, .ref a)) (kk : pn_G nL D A p l e R s m args below meth c QQ (pc + 1) lv (.ref a :: st) w (cells) (slots)) : pn_G nL D A p l e R s m args below meth c QQ (pc) lv (st) w (cells) (slots) := by
  intro H locs ls hl hP hD hS
  exact lv_aload_n X.1 X.2.1 hd hi (lv_at hl j hj) (kk H locs ls hl hP hD hS)
theorem pn_iload_n (X : pn_X own cc nL D cA A p s m args c) {k : Fin 4} {i : Nat} {x : Int32} (hd : decode cc pc = .ok (.iload_n k, 1)) (hi : (k : Nat) = i) (j : Nat) (hj : lv[j]? = some (i, .int x)) (kk : pn_G nL D A p l e R s m args below meth c QQ (pc + 1) lv (.int x :: st) w (cells) (slots)) : pn_G nL D A p l e R s m args below meth c QQ (pc) lv (st) w (cells) (slots) := by
  intro H locs ls hl hP hD hS
  exact lv_iload_n X.1 X.2.1 hd hi (lv_at hl j hj) (kk H locs ls hl hP hD hS)
theorem pn_iload (X : pn_X own cc nL D cA A p s m args c) {i : Nat} {x : Int32} (hd : decode cc pc = .ok (.iload i, 2)) (j : Nat) (hj : lv[j]? = some (i, .int x)) (kk : pn_G nL D A p l e R s m args below meth c QQ (pc + 2) lv (.int x :: st) w (cells) (slots)) : pn_G nL D A p l e R s m args below meth c QQ (pc) lv (st) w (cells) (slots) := by
  intro H locs ls hl hP hD hS
  exact lv_iload X.1 X.2.1 hd (lv_at hl j hj) (kk H locs ls hl hP hD hS)
theorem pn_iconst (X : pn_X own cc nL D cA A p s m args c) {z : Int} (hd : decode cc pc = .ok (.iconst z, 1)) (kk : pn_G nL D A p l e R s m args below meth c QQ (pc + 1) lv (.int (Int32.ofInt z) :: st) w (cells) (slots)) : pn_G nL D A p l e R s m args below meth c QQ (pc) lv (st) w (cells) (slots) := by
  intro H locs ls hl hP hD hS
  exact lv_iconst X.1 X.2.1 hd rfl (kk H locs ls hl hP hD hS)
theorem pn_bipush (X : pn_X own cc nL D cA A p s m args c) {z : Int} (hd : decode cc pc = .ok (.bipush z, 2)) (kk : pn_G nL D A p l e R s m args below meth c QQ (pc + 2) lv (.int (Int32.ofInt z) :: st) w (cells) (slots)) (hv : (Int8.ofInt z).toInt32 = Int32.ofInt z := by decide) : pn_G nL D A p l e R s m args below meth c QQ (pc) lv (st) w (cells) (slots) := by
  intro H locs ls hl hP hD hS
  exact lv_bipush X.1 X.2.1 hd hv (kk H locs ls hl hP hD hS)
theorem pn_sipush (X : pn_X own cc nL D cA A p s m args c) {z : Int} (hd : decode cc pc = .ok (.sipush z, 3)) (kk : pn_G nL D A p l e R s m args below meth c QQ (pc + 3) lv (.int (Int32.ofInt z) :: st) w (cells) (slots)) (hv : (Int16.ofInt z).toInt32 = Int32.ofInt z := by decide) : pn_G nL D A p l e R s m args below meth c QQ (pc) lv (st) w (cells) (slots) := by
  intro H locs ls hl hP hD hS
  exact lv_sipush X.1 X.2.1 hd hv (kk H locs ls hl hP hD hS)
theorem pn_dup (X : pn_X own cc nL D cA A p s m args c) {v : Value} (hd : decode cc pc = .ok (.dup, 1)) (kk : pn_G nL D A p l e R s m args below meth c QQ (pc + 1) lv (v :: v :: st) w (cells) (slots)) (hc : v.category = 1 := by rfl) : pn_G nL D A p l e R s m args below meth c QQ (pc) lv (v :: st) w (cells) (slots) := by
  intro H locs ls hl hP hD hS
  exact lv_dup X.1 X.2.1 hd hc (kk H locs ls hl hP hD hS)
theorem pn_pop (X : pn_X own cc nL D cA A p s m args c) {v : Value} (hd : decode cc pc = .ok (.pop, 1)) (kk : pn_G nL D A p l e R s m args below meth c QQ (pc + 1) lv (st) w (cells) (slots)) (hc : v.category = 1 := by rfl) : pn_G nL D A p l e R s m args below meth c QQ (pc) lv (v :: st) w (cells) (slots) := by
  intro H locs ls hl hP hD hS
  exact lv_pop X.1 X.2.1 hd hc (kk H locs ls hl hP hD hS)
theorem pn_goto (X : pn_X own cc nL D cA A p s m args c) {off : Int} {t : Nat} (hd : decode cc pc = .ok (.goto off, 3)) (kk : pn_G nL D A p l e R s m args below meth c QQ (t) lv (st) w (cells) (slots)) (ht : (pc : Int) + off = (t : Int) := by decide) : pn_G nL D A p l e R s m args below meth c QQ (pc) lv (st) w (cells) (slots) := by
  intro H locs ls hl hP hD hS
  exact lv_goto X.1 X.2.1 hd ht (kk H locs ls hl hP hD hS)
theorem pn_iadd (X : pn_X own cc nL D cA A p s m args c) {a b : Int} (hd : decode cc pc = .ok (.iadd, 1)) (kk : pn_G nL D A p l e R s m args below meth c QQ (pc + 1) lv (.int (Int32.ofInt (a + b)) :: st) w (cells) (slots)) : pn_G nL D A p l e R s m args below meth c QQ (pc) lv (.int (Int32.ofInt b) :: .int (Int32.ofInt a) :: st) w (cells) (slots) := by
  intro H locs ls hl hP hD hS
  refine lv_iadd X.1 X.2.1 hd ?_
  rw [← Int32.ofInt_add]
  exact kk H locs ls hl hP hD hS
theorem pn_isub (X : pn_X own cc nL D cA A p s m args c) {a b : Int} (hd : decode cc pc = .ok (.isub, 1)) (kk : pn_G nL D A p l e R s m args below meth c QQ (pc + 1) lv (.int (Int32.ofInt (a - b)) :: st) w (cells) (slots)) : pn_G nL D A p l e R s m args below meth c QQ (pc) lv (.int (Int32.ofInt b) :: .int (Int32.ofInt a) :: st) w (cells) (slots) := by
  intro H locs ls hl hP hD hS
  refine lv_isub X.1 X.2.1 hd ?_
  rw [← Int32.ofInt_sub]
  exact kk H locs ls hl hP hD hS
theorem pn_iand (X : pn_X own cc nL D cA A p s m args c) {a b : Int} (hd : decode cc pc = .ok (.iand, 1)) (kk : pn_G nL D A p l e R s m args below meth c QQ (pc + 1) lv (.int (Int32.ofInt (Int32.ofInt a &&& Int32.ofInt b).toInt) :: st) w (cells) (slots)) : pn_G nL D A p l e R s m args below meth c QQ (pc) lv (.int (Int32.ofInt b) :: .int (Int32.ofInt a) :: st) w (cells) (slots) := by
  intro H locs ls hl hP hD hS
  refine lv_iand X.1 X.2.1 hd ?_
  have kk := kk H locs ls hl hP hD hS
  rw [Int32.ofInt_toInt] at kk
  exact kk
theorem pn_i2l (X : pn_X own cc nL D cA A p s m args c) {x : Int32} (hd : decode cc pc = .ok (.i2l, 1)) (kk : pn_G nL D A p l e R s m args below meth c QQ (pc + 1) lv (.long x.toInt64 :: st) w (cells) (slots)) : pn_G nL D A p l e R s m args below meth c QQ (pc) lv (.int x :: st) w (cells) (slots) := by
  intro H locs ls hl hP hD hS
  exact lv_i2l X.1 X.2.1 hd rfl (kk H locs ls hl hP hD hS)
theorem pn_lshl (X : pn_X own cc nL D cA A p s m args c) {x : Int64} {y : Int32} (hd : decode cc pc = .ok (.lshl, 1)) (kk : pn_G nL D A p l e R s m args below meth c QQ (pc + 1) lv (.long (x <<< (y.toInt64 &&& 63)) :: st) w (cells) (slots)) : pn_G nL D A p l e R s m args below meth c QQ (pc) lv (.int y :: .long x :: st) w (cells) (slots) := by
  intro H locs ls hl hP hD hS
  exact lv_lshl X.1 X.2.1 hd rfl (kk H locs ls hl hP hD hS)
theorem pn_land (X : pn_X own cc nL D cA A p s m args c) {x y : Int64} (hd : decode cc pc = .ok (.land, 1)) (kk : pn_G nL D A p l e R s m args below meth c QQ (pc + 1) lv (.long (x &&& y) :: st) w (cells) (slots)) : pn_G nL D A p l e R s m args below meth c QQ (pc) lv (.long y :: .long x :: st) w (cells) (slots) := by
  intro H locs ls hl hP hD hS
  exact lv_land X.1 X.2.1 hd (kk H locs ls hl hP hD hS)
theorem pn_lor (X : pn_X own cc nL D cA A p s m args c) {x y : Int64} (hd : decode cc pc = .ok (.lor, 1)) (kk : pn_G nL D A p l e R s m args below meth c QQ (pc + 1) lv (.long (x ||| y) :: st) w (cells) (slots)) : pn_G nL D A p l e R s m args below meth c QQ (pc) lv (.long y :: .long x :: st) w (cells) (slots) := by
  intro H locs ls hl hP hD hS
  exact lv_lor X.1 X.2.1 hd (kk H locs ls hl hP hD hS)
theorem pn_ldc2 (X : pn_X own cc nL D cA A p s m args c) {idx : Nat} {v : Int64} (hw : Cond.constantLong own idx v ∈ pe_WS) (hd : decode cc pc = .ok (.ldc2_w idx, 3)) (kk : pn_G nL D A p l e R s m args below meth c QQ (pc + 3) lv (.long v :: st) w (cells) (slots)) : pn_G nL D A p l e R s m args below meth c QQ (pc) lv (st) w (cells) (slots) := by
  intro H locs ls hl hP hD hS
  exact lv_ldc2 X.1 X.2.1 X.2.2.2.2.1 (X.2.2.2.1 _ hw) hd (kk H locs ls hl hP hD hS)
theorem pn_icmp_eq (X : pn_X own cc nL D cA A p s m args c) {a b off : Int} {t : Nat} (hd : decode cc pc = .ok (.if_icmp .eq off, 3)) (ha : pe_R a) (hb : pe_R b) (kt : a = b → pn_G nL D A p l e R s m args below meth c QQ (t) lv (st) w (cells) (slots)) (kf : ¬ a = b → pn_G nL D A p l e R s m args below meth c QQ (pc + 3) lv (st) w (cells) (slots)) (ht : (pc : Int) + off = (t : Int) := by decide) : pn_G nL D A p l e R s m args below meth c QQ (pc) lv (.int (Int32.ofInt b) :: .int (Int32.ofInt a) :: st) w (cells) (slots) := by
  intro H locs ls hl hP hD hS
  exact lv_icmp_eq X.1 X.2.1 hd ht (fun q => kt (pe_cm_eq ha hb q) H locs ls hl hP hD hS) (fun q => kf (pe_cn_eq ha hb q) H locs ls hl hP hD hS)
theorem pn_icmp_ge (X : pn_X own cc nL D cA A p s m args c) {a b off : Int} {t : Nat} (hd : decode cc pc = .ok (.if_icmp .ge off, 3)) (ha : pe_R a) (hb : pe_R b) (kt : b ≤ a → pn_G nL D A p l e R s m args below meth c QQ (t) lv (st) w (cells) (slots)) (kf : a < b → pn_G nL D A p l e R s m args below meth c QQ (pc + 3) lv (st) w (cells) (slots)) (ht : (pc : Int) + off = (t : Int) := by decide) : pn_G nL D A p l e R s m args below meth c QQ (pc) lv (.int (Int32.ofInt b) :: .int (Int32.ofInt a) :: st) w (cells) (slots) := by
  intro H locs ls hl hP hD hS
  exact lv_icmp_ge X.1 X.2.1 hd ht (fun q => kt (pe_cm_ge ha hb q) H locs ls hl hP hD hS) (fun q => kf (pe_cn_ge ha hb q) H locs ls hl hP hD hS)
theorem pn_icmp_gt (X : pn_X own cc nL D cA A p s m args c) {a b off : Int} {t : Nat} (hd : decode cc pc = .ok (.if_icmp .gt off, 3)) (ha : pe_R a) (hb : pe_R b) (kt : b < a → pn_G nL D A p l e R s m args below meth c QQ (t) lv (st) w (cells) (slots)) (kf : a ≤ b → pn_G nL D A p l e R s m args below meth c QQ (pc + 3) lv (st) w (cells) (slots)) (ht : (pc : Int) + off = (t : Int) := by decide) : pn_G nL D A p l e R s m args below meth c QQ (pc) lv (.int (Int32.ofInt b) :: .int (Int32.ofInt a) :: st) w (cells) (slots) := by
  intro H locs ls hl hP hD hS
  exact lv_icmp_gt X.1 X.2.1 hd ht (fun q => kt (pe_cm_gt ha hb q) H locs ls hl hP hD hS) (fun q => kf (pe_cn_gt ha hb q) H locs ls hl hP hD hS)
theorem pn_icmp_le (X : pn_X own cc nL D cA A p s m args c) {a b off : Int} {t : Nat} (hd : decode cc pc = .ok (.if_icmp .le off, 3)) (ha : pe_R a) (hb : pe_R b) (kt : a ≤ b → pn_G nL D A p l e R s m args below meth c QQ (t) lv (st) w (cells) (slots)) (kf : b < a → pn_G nL D A p l e R s m args below meth c QQ (pc + 3) lv (st) w (cells) (slots)) (ht : (pc : Int) + off = (t : Int) := by decide) : pn_G nL D A p l e R s m args below meth c QQ (pc) lv (.int (Int32.ofInt b) :: .int (Int32.ofInt a) :: st) w (cells) (slots) := by
  intro H locs ls hl hP hD hS
  exact lv_icmp_le X.1 X.2.1 hd ht (fun q => kt (pe_cm_le ha hb q) H locs ls hl hP hD hS) (fun q => kf (pe_cn_le ha hb q) H locs ls hl hP hD hS)
theorem pn_icmp_lt (X : pn_X own cc nL D cA A p s m args c) {a b off : Int} {t : Nat} (hd : decode cc pc = .ok (.if_icmp .lt off, 3)) (ha : pe_R a) (hb : pe_R b) (kt : a < b → pn_G nL D A p l e R s m args below meth c QQ (t) lv (st) w (cells) (slots)) (kf : b ≤ a → pn_G nL D A p l e R s m args below meth c QQ (pc + 3) lv (st) w (cells) (slots)) (ht : (pc : Int) + off = (t : Int) := by decide) : pn_G nL D A p l e R s m args below meth c QQ (pc) lv (.int (Int32.ofInt b) :: .int (Int32.ofInt a) :: st) w (cells) (slots) := by
  intro H locs ls hl hP hD hS
  exact lv_icmp_lt X.1 X.2.1 hd ht (fun q => kt (pe_cm_lt ha hb q) H locs ls hl hP hD hS) (fun q => kf (pe_cn_lt ha hb q) H locs ls hl hP hD hS)
theorem pn_istore_n (X : pn_X own cc nL D cA A p s m args c) {k : Fin 4} {i : Nat} {x : Int32} {lv' : List (Nat × Value)} (hd : decode cc pc = .ok (.istore_n k, 1)) (hi : (k : Nat) = i) (hlv : (i, Value.int x) :: lv.filter (fun q => !(q.1 == i) && !(q.1 + 1 == i && q.2.category == 2)) = lv') (kk : pn_G nL D A p l e R s m args below meth c QQ (pc + 1) lv' (st) w (cells) (slots)) (hn : i < nL := by decide) : pn_G nL D A p l e R s m args below meth c QQ (pc) lv (Value.int x :: st) w (cells) (slots) := by
  intro H locs ls hl hP hD hS
  exact lv_istore_n X.1 X.2.1 hd hi hl hn hlv (fun ls' h' => kk H locs ls' h' hP hD hS)
theorem pn_istore (X : pn_X own cc nL D cA A p s m args c) {i : Nat} {x : Int32} {lv' : List (Nat × Value)} (hd : decode cc pc = .ok (.istore i, 2)) (hlv : (i, Value.int x) :: lv.filter (fun q => !(q.1 == i) && !(q.1 + 1 == i && q.2.category == 2)) = lv') (kk : pn_G nL D A p l e R s m args below meth c QQ (pc + 2) lv' (st) w (cells) (slots)) (hn : i < nL := by decide) : pn_G nL D A p l e R s m args below meth c QQ (pc) lv (Value.int x :: st) w (cells) (slots) := by
  intro H locs ls hl hP hD hS
  exact lv_istore X.1 X.2.1 hd hl hn hlv (fun ls' h' => kk H locs ls' h' hP hD hS)
theorem pn_astore_n (X : pn_X own cc nL D cA A p s m args c) {k : Fin 4} {i : Nat} {x : Nat} {lv' : List (Nat × Value)} (hd : decode cc pc = .ok (.astore_n k, 1)) (hi : (k : Nat) = i) (hlv : (i, Value.ref x) :: lv.filter (fun q => !(q.1 == i) && !(q.1 + 1 == i && q.2.category == 2)) = lv') (kk : pn_G nL D A p l e R s m args below meth c QQ (pc + 1) lv' (st) w (cells) (slots)) (hn : i < nL := by decide) : pn_G nL D A p l e R s m args below meth c QQ (pc) lv (Value.ref x :: st) w (cells) (slots) := by
  intro H locs ls hl hP hD hS
  exact lv_astore_n X.1 X.2.1 hd hi hl hn hlv (fun ls' h' => kk H locs ls' h' hP hD hS)
theorem pn_iinc (X : pn_X own cc nL D cA A p s m args c) {i : Nat} {z a : Int} {lv' : List (Nat × Value)} (hd : decode cc pc = .ok (.iinc i z, 3)) (j : Nat) (hj : lv[j]? = some (i, .int (Int32.ofInt a))) (hlv : (i, Value.int (Int32.ofInt (a + z))) :: lv.filter (fun q => !(q.1 == i) && !(q.1 + 1 == i && q.2.category == 2)) = lv') (kk : pn_G nL D A p l e R s m args below meth c QQ (pc + 3) lv' (st) w (cells) (slots)) (hn : i < nL := by decide) : pn_G nL D A p l e R s m args below meth c QQ (pc) lv (st) w (cells) (slots) := by
  intro H locs ls hl hP hD hS
  exact lv_iinc X.1 X.2.1 hd hl hj (by rw [Int32.ofInt_add]) hn hlv (fun ls' h' => kk H locs ls' h' hP hD hS)
theorem pn_objInit (X : pn_X own cc nL D cA A p s m args c) {idx a : Nat} (hd : decode cc pc = .ok (.invokespecial idx, 3)) (hlink : Cond.methodLink own idx Lib.objectInit ∈ pe_WS) (hinst : Cond.instanceMethod Lib.objectInit ∈ pe_WS) (hcode : Cond.code Lib.objectInit ⟨#[0xb1]⟩ 1 none ∈ pe_WS) (hf : 1 ≤ R.frames) (hlo : (st.map fun v => v.category).sum + 12 ≤ R.locals) (kk : pn_G nL D A p l e R s m args below meth c QQ (pc + 3) lv (st) w (cells) (slots)) : pn_G nL D A p l e R s m args below meth c QQ (pc) lv (.ref a :: st) w (cells) (slots) := by
  intro H locs ls hl hP hD hS
  refine W.objInit X.1 X.2.1 X.2.2.2.2.1 (X.2.2.2.1 _ hlink) (X.2.2.2.1 _ hinst) (X.2.2.2.1 _ hcode) rfl (by rw [X.2.2.1]; exact hl.1) rfl hd hf (by show 2 * 0 + _ + 12 ≤ _; omega) ?_
  exact W.eq (g2 := F0 m (pc + 3) ls st) rfl (kk H locs ls hl hP hD hS)
theorem pn_new (X : pn_X own cc nL D cA A p s m args c) {idx ci N : Nat} {C : String} {T : u_T} {ty : Nat → FieldType} {fs : List Value} (hd : decode cc pc = .ok (.new idx, 3)) (hin : (∀ w ∈ u_ws C T N, w ∈ pe_WS) ∧ (∀ k, k < N → parseFieldDescriptor (T k).2.2.1 = some (ty k)) ∧ ∀ a, a < N → ∀ b, b < N → a ≠ b → (T a).2.1 ≠ (T b).2.1) (hcl : Cond.classLink own idx C ∈ pe_WS) (hinst : Cond.instantiable C N ∈ pe_WS) (hini : Cond.initialized C ∈ pe_WS) (hc : vwCl[ci]? = some (C, T, N)) (hfs : ∀ j, j < N → defaultValue (ty j) = vp_V fs j) (hcells : cells + 1 ≤ R.cells) (hslots : slots + N ≤ R.slots) (kk : ∀ q : Nat, pn_G nL D A p l e R s m args below meth c QQ (pc + 3) lv (.ref q :: st) (w ++ [(q, .inr (ci, fs))]) (cells + 1) (slots + N)) : pn_G nL D A p l e R s m args below meth c QQ (pc) lv (st) w (cells) (slots) := by
  intro H locs ls hl hP hD hS
  exact va_new X.1 X.2.1 X.2.2.2.1 hin.1 ty hin.2.1 X.2.2.2.2.1 (X.2.2.2.1 _ hcl) (X.2.2.2.1 _ hinst) (X.2.2.2.1 _ hini) X.2.2.2.2.2.1 hP hD hS X.2.2.2.2.2.2.1 hc hfs hcells hslots hd (fun q H1 hP1 hD1 hS1 => kk q H1 locs ls hl hP1 hD1 hS1)
theorem pn_cA (X : pn_X own cc nL D cA A p s m args c) {c1 : ClassId} {ty : FieldType} (hty : ty = .int ∨ ty = .boolean ∨ ty = .byte) (h : va_RA s c1 ty) : c1 = cA ty := by
  have K := X.2.2.2.2.2.1.2
  rcases hty with rfl | rfl | rfl
  · exact Option.some.inj ((va_nm_int h).symm.trans (va_nm_int (K 0 _ rfl).2))
  · exact Option.some.inj ((va_nm_boolean h).symm.trans (va_nm_boolean (K 1 _ rfl).2))
  · exact Option.some.inj ((va_nm_byte h).symm.trans (va_nm_byte (K 2 _ rfl).2))
theorem pn_newa (X : pn_X own cc nL D cA A p s m args c) {atype : ArrayType} {ty : FieldType} {n : Int32} {N : Nat} (hd : decode cc pc = .ok (.newarray atype, 2)) (harr : Cond.arrayClass ty ∈ pe_WS) (hty : newarray.typeOf atype = ty) (hty3 : ty = .int ∨ ty = .boolean ∨ ty = .byte) (hn : ¬ n < 0) (hN : n.toNatClampNeg = N) (hbytes : N * componentBytes ty ≤ 536870912) (hcells : cells + 1 ≤ R.cells) (hslots : slots + N ≤ R.slots) (kk : ∀ q : Nat, pn_G nL D A p l e R s m args below meth c QQ (pc + 2) lv (.ref q :: st) (w ++ [(q, .inl (cA ty, N, .inl (fun _ => 0)))]) (cells + 1) (slots + N)) : pn_G nL D A p l e R s m args below meth c QQ (pc) lv (.int n :: st) w (cells) (slots) := by
  intro H locs ls hl hP hD hS
  refine va_newa (a0 := (N, .inl (fun _ => 0))) X.1 X.2.1 (by rw [hty]; exact X.2.2.2.1 _ harr) hty X.2.2.2.2.2.1 hP hD hS X.2.2.2.2.2.2.1 (fun c1 => by rcases hty3 with h | h | h <;> subst h <;> rfl) hn hN hbytes hcells hslots hd (fun q c1 H1 hK1 hP1 hD1 hS1 => ?_)
  have e1 : c1 = cA ty := pn_cA X hty3 (hK1.2 3 (c1, ty) rfl).2
  subst e1
  exact kk q H1 locs ls hl hP1 hD1 hS1
theorem pn_get (X : pn_X own cc nL D cA A p s m args c) {idx ci k N a : Nat} {fs : List Value} {v : Value} (F : pe_FL own idx ci k N) (hd : decode cc pc = .ok (.getfield idx, 3)) (q0 : Nat) (he : w[q0]? = some (a, .inr (ci, fs))) (hv : fs[k]? = some v) (kk : pn_G nL D A p l e R s m args below meth c QQ (pc + 3) lv (v :: st) w (cells) (slots)) : pn_G nL D A p l e R s m args below meth c QQ (pc) lv (.ref a :: st) w (cells) (slots) := by
  intro H locs ls hl hP hD hS
  obtain ⟨C, T, ty0, hc, hk, hw, hty, hnm, hlink⟩ := F
  exact va_get X.1 X.2.1 X.2.2.2.1 hw X.2.2.2.2.1 X.2.2.2.2.2.1 hP q0 he hc k hk (X.2.2.2.1 _ hlink) (fun _ h => h) hv hd (kk H locs ls hl hP hD hS)
theorem pn_put (X : pn_X own cc nL D cA A p s m args c) {idx ci k N a : Nat} {fs : List Value} {v : Value} {ty : FieldType} (F : pe_FL own idx ci k N) (Pf : pe_FP ci k ty) (hd : decode cc pc = .ok (.putfield idx, 3)) (q0 : Nat) (he : w[q0]? = some (a, .inr (ci, fs))) (hn : narrow ty v = v) (hfit : fits ty v = true) (hlen : k < fs.length) (kk : pn_G nL D A p l e R s m args below meth c QQ (pc + 3) lv (st) (w.set q0 (a, .inr (ci, fs.set k v))) (cells) (slots)) : pn_G nL D A p l e R s m args below meth c QQ (pc) lv (v :: .ref a :: st) w (cells) (slots) := by
  intro H locs ls hl hP hD hS
  obtain ⟨C, T, ty0, hc, hk, hw, hty, hnm, hlink⟩ := F
  obtain ⟨C', T', N', hc', hfin, hdsc⟩ := Pf
  obtain ⟨rfl, rfl, rfl⟩ : C = C' ∧ T = T' ∧ N = N' := by have := Option.some.inj (hc.symm.trans hc'); simpa using this
  exact va_put X.1 X.2.1 X.2.2.2.1 hw ty0 hty hnm X.2.2.2.2.1 X.2.2.2.2.2.1 hP hD hS q0 he hc k hk (X.2.2.2.1 _ hlink) (fun _ h => h) hfin hdsc hn hfit hlen hd (fun H1 locs1 hP1 hD1 hS1 => kk H1 locs1 ls hl hP1 hD1 hS1)
theorem pn_putF (X : pn_X own cc nL D cA A p s m args c) {idx ci k N a : Nat} {fs : List Value} {v : Value} {ty : FieldType} (F : pe_FL own idx ci k N) (Pf : pe_FF own ci k ty) (hin2 : meth.name = "<init>") (hd : decode cc pc = .ok (.putfield idx, 3)) (q0 : Nat) (he : w[q0]? = some (a, .inr (ci, fs))) (hn : narrow ty v = v) (hfit : fits ty v = true) (hlen : k < fs.length) (kk : pn_G nL D A p l e R s m args below meth c QQ (pc + 3) lv (st) (w.set q0 (a, .inr (ci, fs.set k v))) (cells) (slots)) : pn_G nL D A p l e R s m args below meth c QQ (pc) lv (v :: .ref a :: st) w (cells) (slots) := by
  intro H locs ls hl hP hD hS
  obtain ⟨C, T, ty0, hc, hk, hw, hty, hnm, hlink⟩ := F
  obtain ⟨C', T', N', hc', hfin, hdecl, hdsc⟩ := Pf
  obtain ⟨rfl, rfl, rfl⟩ : C = C' ∧ T = T' ∧ N = N' := by have := Option.some.inj (hc.symm.trans hc'); simpa using this
  exact va_putF X.1 X.2.1 X.2.2.2.1 hw ty0 hty hnm X.2.2.2.2.1 X.2.2.2.2.2.1 hP hD hS q0 he hc k hk (X.2.2.2.1 _ hlink) (fun _ h => h) hfin hin2 hdecl hdsc hn hfit hlen hd (fun H1 locs1 hP1 hD1 hS1 => kk H1 locs1 ls hl hP1 hD1 hS1)
theorem pn_iast (X : pn_X own cc nL D cA A p s m args c) {a n : Nat} {i : Int} {x : Int32} {f : Nat → Int32} (hd : decode cc pc = .ok (.iastore, 1)) (q0 : Nat) (he : w[q0]? = some (a, .inl (cA .int, n, .inl f))) (h0 : 0 ≤ i) (h1 : i < n) (hn : n < 2147483648) (kk : pn_G nL D A p l e R s m args below meth c QQ (pc + 1) lv (st) (w.set q0 (a, .inl (cA .int, n, .inl (upd f (Int32.ofInt i).toNatClampNeg x)))) (cells) (slots)) : pn_G nL D A p l e R s m args below meth c QQ (pc) lv (.int x :: .int (Int32.ofInt i) :: .ref a :: st) w (cells) (slots) := by
  intro H locs ls hl hP hD hS
  exact va_iast X.1 X.2.1 X.2.2.2.2.2.1 hP hD hS q0 0 he rfl (pe_in hn h0 h1) hd (fun H1 locs1 hP1 hD1 hS1 => kk H1 locs1 ls hl hP1 hD1 hS1)
theorem pn_alen (X : pn_X own cc nL D cA A p s m args c) {a n : Nat} {f : Nat → Int32} (hd : decode cc pc = .ok (.arraylength, 1)) (q0 : Nat) (he : w[q0]? = some (a, .inl (cA .int, n, .inl f))) (kk : pn_G nL D A p l e R s m args below meth c QQ (pc + 1) lv (.int (Int32.ofInt (n : Int)) :: st) w (cells) (slots)) : pn_G nL D A p l e R s m args below meth c QQ (pc) lv (.ref a :: st) w (cells) (slots) := by
  intro H locs ls hl hP hD hS
  exact va_alen X.1 X.2.1 X.2.2.2.2.2.1 hP q0 0 he rfl (show Int32.ofNat n = Int32.ofInt (n : Int) from Int32.ofInt_eq_ofNat.symm) hd (kk H locs ls hl hP hD hS)
theorem pn_max (X : pn_X own cc nL D cA A p s m args c) {a b : Int} {idx : Nat} (hw : Cond.methodLink own idx Lib.Math.max.name ∈ pe_WS) (hd : decode cc pc = .ok (.invokestatic idx, 3)) (ha : pe_R a) (hb : pe_R b) (hf : 1 ≤ R.frames) (hlo : (st.map fun v => v.category).sum + 13 ≤ R.locals) (hcs : cells ≤ R.cells ∧ slots ≤ R.slots) (kk : ∀ z : Int, a ≤ z ∧ b ≤ z ∧ (z = a ∨ z = b) → pn_G nL D A p l e R s m args below meth c QQ (pc + 3) lv (.int (Int32.ofInt z) :: st) w (cells) (slots)) : pn_G nL D A p l e R s m args below meth c QQ (pc) lv (.int (Int32.ofInt b) :: .int (Int32.ofInt a) :: st) w (cells) (slots) := by
  intro H locs ls hl hP hD hS
  refine va_mmax X.1 X.2.1 (X.2.2.1.trans hl.1.symm) X.2.2.2.2.1 (X.2.2.2.1 _ hw) (X.2.2.2.1 _ z_max) (X.2.2.2.1 _ n_math) (X.2.2.2.1 _ k_max) hf hlo hcs.1 hcs.2 hd ?_
  by_cases h : a < b
  · rw [if_pos ((pe_lt ha hb).mpr h)]
    exact kk b (by omega) H locs ls hl hP hD hS
  · rw [if_neg (fun q => h ((pe_lt ha hb).mp q))]
    exact kk a (by omega) H locs ls hl hP hD hS
theorem pn_min (X : pn_X own cc nL D cA A p s m args c) {a b : Int} {idx : Nat} (hw : Cond.methodLink own idx Lib.Math.min.name ∈ pe_WS) (hd : decode cc pc = .ok (.invokestatic idx, 3)) (ha : pe_R a) (hb : pe_R b) (hf : 1 ≤ R.frames) (hlo : (st.map fun v => v.category).sum + 13 ≤ R.locals) (hcs : cells ≤ R.cells ∧ slots ≤ R.slots) (kk : ∀ z : Int, z ≤ a ∧ z ≤ b ∧ (z = a ∨ z = b) → pn_G nL D A p l e R s m args below meth c QQ (pc + 3) lv (.int (Int32.ofInt z) :: st) w (cells) (slots)) : pn_G nL D A p l e R s m args below meth c QQ (pc) lv (.int (Int32.ofInt b) :: .int (Int32.ofInt a) :: st) w (cells) (slots) := by
  intro H locs ls hl hP hD hS
  refine va_mmin X.1 X.2.1 (X.2.2.1.trans hl.1.symm) X.2.2.2.2.1 (X.2.2.2.1 _ hw) (X.2.2.2.1 _ z_min) (X.2.2.2.1 _ n_math) (X.2.2.2.1 _ k_min) hf hlo hcs.1 hcs.2 hd ?_
  by_cases h : b < a
  · rw [if_pos ((pe_lt hb ha).mpr h)]
    exact kk b (by omega) H locs ls hl hP hD hS
  · rw [if_neg (fun q => h ((pe_lt hb ha).mp q))]
    exact kk a (by omega) H locs ls hl hP hD hS
theorem pn_compact (X : pn_X own cc nL D cA A p s m args c) {idx : Nat} (hd : decode cc pc = .ok (.getstatic idx, 3)) (hw : Cond.fieldLink own idx "java/lang/String" "COMPACT_STRINGS" "Z" ∈ pe_WS) (kk : pn_G nL D A p l e R s m args below meth c QQ (pc + 3) lv (.int (Int32.ofInt 1) :: st) w (cells) (slots)) : pn_G nL D A p l e R s m args below meth c QQ (pc) lv (st) w (cells) (slots) := by
  intro H locs ls hl hP hD hS
  exact va_gets X.1 X.2.1 X.2.2.2.2.2.2.2.1 hS X.2.2.2.2.1 (X.2.2.2.1 _ hw) (fun _ h => h) hd (kk H locs ls hl hP hD hS)
theorem pn_if_eq (X : pn_X own cc nL D cA A p s m args c) {a off : Int} {t : Nat} (hd : decode cc pc = .ok (.ifCond .eq off, 3)) (ha : pe_R a) (kt : a = 0 → pn_G nL D A p l e R s m args below meth c QQ (t) lv (st) w (cells) (slots)) (kf : ¬ a = 0 → pn_G nL D A p l e R s m args below meth c QQ (pc + 3) lv (st) w (cells) (slots)) (ht : (pc : Int) + off = (t : Int) := by decide) : pn_G nL D A p l e R s m args below meth c QQ (pc) lv (.int (Int32.ofInt a) :: st) w (cells) (slots) := by
  intro H locs ls hl hP hD hS
  exact lv_if_eq X.1 X.2.1 hd ht (fun q => kt (pe_cm_eq ha pe_R0 q) H locs ls hl hP hD hS) (fun q => kf (pe_cn_eq ha pe_R0 q) H locs ls hl hP hD hS)
theorem pn_call (X : pn_X own cc nL D cA A p s m args c) {y' : pe_Y} {k' n' idx n : Nat} {av : List Value} {w0 wr : va_W} {B : va_W → Prop} {b : Nat} (hM : pn_C y' k' n' (.ref b :: av) w0 D cA B) (hd : decode cc pc = .ok (.invokespecial idx, 3)) (hlink : Cond.methodLink own idx y'.1 ∈ pe_WS) (hret : y'.2.2.2.1 = none) (hinst : Cond.instanceMethod y'.1 ∈ pe_WS) (hname : y'.1.name = "<init>") (hcode : Cond.code y'.1 y'.2.1 y'.2.2.1 y'.2.2.2.1 ∈ pe_WS) (hini : Cond.initialized y'.1.cls ∈ pe_WS) (hdd : y'.1.cls ≠ "java/lang/invoke/MethodHandle" ∧ y'.1.cls ≠ "java/lang/invoke/VarHandle" ∧ (parseMethodDescriptor y'.1.desc).map (fun d => d.parameters.length) = some n) (hn : av.length = n) (isC isR : List Nat) (hC : isC.map (fun i => w[i]?) = w0.map some) (hR : isR.map (fun i => w[i]?) = wr.map some) (hnd : va_nd isC = true ∧ va_nd isR = true ∧ ∀ i ∈ isR, i ∉ isC) (hrm : y'.2.2.2.2.1 + 1 ≤ R.frames ∧ 8 + (y'.2.2.1 + 11) + y'.2.2.2.2.2 ≤ R.locals) (hcat : (st.map fun v => v.category).sum ≤ 8) (hcs : cells + k' ≤ R.cells ∧ slots + n' ≤ R.slots) (kk : ∀ w1, B w1 → pn_G nL D A p l e R s m args below meth c QQ (pc + 3) lv (st) (wr ++ w1) (cells + k') (slots + n')) : pn_G nL D A p l e R s m args below meth c QQ (pc) lv (av.reverse ++ .ref b :: st) w (cells) (slots) := by
  intro H locs ls hl hP hD hS
  have hfm : isC.filterMap (fun i => w[i]?) = w0 := by
    have q : isC.filterMap (fun i => w[i]?) = (isC.map (fun i => w[i]?)).filterMap id := by rw [List.filterMap_map]; rfl
    rw [q, hC, List.filterMap_map]
    exact List.filterMap_some
  have hPc : va_P D vwCl w0 H := hP.sub isC hfm
  have hDc : va_D A w0 := hD.sub isC hnd.1 hC
  have hFc := va_free hD hS X.2.2.2.2.2.2.1 isC hC
  have hfix : CallFix p m c cc nL s args pe_WS own := ⟨X.1, X.2.1, X.2.2.1, X.2.2.2.2.1, X.2.2.2.1⟩
  have go : va_Run p l e R s m args below meth c H locs cells slots k' n' (F0 m pc ls (av.reverse ++ .ref b :: st)) st (pn_Q D (va_A w0 H.size) B (Value.ref b :: av).toArray) (va_A w0 H.size) := by
    exact va_runI (bytes := y'.2.1) (maxL := y'.2.2.1) (As := av) hfix (hM l H.size) (cwI n X.2.2.2.1 (pn_good hcode) (by show pe_ws y' = _; unfold pe_ws; rw [hret]) rfl rfl (X.2.2.2.1 _ hini) (X.2.2.2.1 _ hlink) (X.2.2.2.1 _ hinst) hname hdd hrm) ⟨fun a U g mk q => by
      obtain ⟨q0, q1, qP, qK, qD, qE⟩ := q
      exact ⟨q0, q1, qP, va_K.moved (u := U) (U := U.calling g mk a) (Vm.Alike.refl U.vm) qK, qD, pn_E.call (U' := U.calling g mk a) rfl qE⟩, fun U hU hW => ⟨rfl, by rw [hU], by rw [hU]; exact hPc, va_K.moved hW.alike X.2.2.2.2.2.1, hDc.weaken (fun _ _ _ _ => trivial), by rw [hU]; exact pn_E.warm hW (X.2.2.2.2.2.2.2.at hS hFc)⟩⟩ rfl hn hl.1 rfl (lv_room hcat) hd hcs
  refine va_callv go hS (fun q _ h => hFc q h) hFc (fun w1 t H1 locs1 ht hvm hB hPD hz1 hk1 hS1 => ?_)
  obtain ⟨hP1, hD1⟩ := hPD
  rw [ht] at hP1
  obtain ⟨hP2, hD2⟩ := va_join hP hD isC isR hC hR hnd.2.1 hnd.2.2 hk1 hFc hP1 hD1
  exact kk w1 hB H1 locs1 ls hl hP2 hD2 hS1
theorem pn_callN (X : pn_X own cc nL D cA A p s m args c) {y' : pe_Y} {k' n' idx n : Nat} {av : List Value} {w0 wr : va_W} {B : va_W → Prop} {b : Nat} {host : String} (hM : pn_C y' k' n' (.ref b :: av) w0 D cA B) (hd : decode cc pc = .ok (.invokespecial idx, 3)) (hlink : va_Nw (.methodLinkNest own idx y'.1 host) s) (hret : y'.2.2.2.1 = none) (hinst : Cond.instanceMethod y'.1 ∈ pe_WS) (hname : y'.1.name = "<init>") (hcode : Cond.code y'.1 y'.2.1 y'.2.2.1 y'.2.2.2.1 ∈ pe_WS) (hini : Cond.initialized y'.1.cls ∈ pe_WS) (hdd : y'.1.cls ≠ "java/lang/invoke/MethodHandle" ∧ y'.1.cls ≠ "java/lang/invoke/VarHandle" ∧ (parseMethodDescriptor y'.1.desc).map (fun d => d.parameters.length) = some n) (hn : av.length = n) (isC isR : List Nat) (hC : isC.map (fun i => w[i]?) = w0.map some) (hR : isR.map (fun i => w[i]?) = wr.map some) (hnd : va_nd isC = true ∧ va_nd isR = true ∧ ∀ i ∈ isR, i ∉ isC) (hrm : y'.2.2.2.2.1 + 1 ≤ R.frames ∧ 8 + (y'.2.2.1 + 11) + y'.2.2.2.2.2 ≤ R.locals) (hcat : (st.map fun v => v.category).sum ≤ 8) (hcs : cells + k' ≤ R.cells ∧ slots + n' ≤ R.slots) (kk : ∀ w1, B w1 → pn_G nL D A p l e R s m args below meth c QQ (pc + 3) lv (st) (wr ++ w1) (cells + k') (slots + n')) : pn_G nL D A p l e R s m args below meth c QQ (pc) lv (av.reverse ++ .ref b :: st) w (cells) (slots) := by
  intro H locs ls hl hP hD hS
  have hfm : isC.filterMap (fun i => w[i]?) = w0 := by
    have q : isC.filterMap (fun i => w[i]?) = (isC.map (fun i => w[i]?)).filterMap id := by rw [List.filterMap_map]; rfl
    rw [q, hC, List.filterMap_map]
    exact List.filterMap_some
  have hPc : va_P D vwCl w0 H := hP.sub isC hfm
  have hDc : va_D A w0 := hD.sub isC hnd.1 hC
  have hFc := va_free hD hS X.2.2.2.2.2.2.1 isC hC
  have hfix : CallFix p m c cc nL s args pe_WS own := ⟨X.1, X.2.1, X.2.2.1, X.2.2.2.2.1, X.2.2.2.1⟩
  have go : va_Run p l e R s m args below meth c H locs cells slots k' n' (F0 m pc ls (av.reverse ++ .ref b :: st)) st (pn_Q D (va_A w0 H.size) B (Value.ref b :: av).toArray) (va_A w0 H.size) := by
    exact va_runIN (bytes := y'.2.1) (maxL := y'.2.2.1) (As := av) hfix (hM l H.size) ⟨va_cnB n X.2.2.2.1 (pn_good hcode) (by show pe_ws y' = _; unfold pe_ws; rw [hret]) rfl rfl hlink (X.2.2.2.1 _ hini) hdd hrm, hname, X.2.2.2.1 _ hinst⟩ ⟨fun a U g mk q => by
      obtain ⟨q0, q1, qP, qK, qD, qE⟩ := q
      exact ⟨q0, q1, qP, va_K.moved (u := U) (U := U.calling g mk a) (Vm.Alike.refl U.vm) qK, qD, pn_E.call (U' := U.calling g mk a) rfl qE⟩, fun U hU hW => ⟨rfl, by rw [hU], by rw [hU]; exact hPc, va_K.moved hW.alike X.2.2.2.2.2.1, hDc.weaken (fun _ _ _ _ => trivial), by rw [hU]; exact pn_E.warm hW (X.2.2.2.2.2.2.2.at hS hFc)⟩⟩ rfl hn hl.1 rfl (lv_room hcat) hd hcs
  refine va_callv go hS (fun q _ h => hFc q h) hFc (fun w1 t H1 locs1 ht hvm hB hPD hz1 hk1 hS1 => ?_)
  obtain ⟨hP1, hD1⟩ := hPD
  rw [ht] at hP1
  obtain ⟨hP2, hD2⟩ := va_join hP hD isC isR hC hR hnd.2.1 hnd.2.2 hk1 hFc hP1 hD1
  exact kk w1 hB H1 locs1 ls hl hP2 hD2 hS1
theorem pn_callS (X : pn_X own cc nL D cA A p s m args c) {y' : pe_Y} {k' n' idx n : Nat} {av : List Value} {w0 wr : va_W} {B : va_W → Prop} (hM : pn_C y' k' n' av w0 D cA B) (hd : decode cc pc = .ok (.invokestatic idx, 3)) (hlink : Cond.methodLink own idx y'.1 ∈ pe_WS) (hst : Cond.static y'.1 ∈ pe_WS) (hcode : Cond.code y'.1 y'.2.1 y'.2.2.1 y'.2.2.2.1 ∈ pe_WS) (hini : Cond.initialized y'.1.cls ∈ pe_WS) (hdd : y'.1.cls ≠ "java/lang/invoke/MethodHandle" ∧ y'.1.cls ≠ "java/lang/invoke/VarHandle" ∧ (parseMethodDescriptor y'.1.desc).map (fun d => d.parameters.length) = some n) (hn : av.length = n) (isC isR : List Nat) (hC : isC.map (fun i => w[i]?) = w0.map some) (hR : isR.map (fun i => w[i]?) = wr.map some) (hnd : va_nd isC = true ∧ va_nd isR = true ∧ ∀ i ∈ isR, i ∉ isC) (hrm : y'.2.2.2.2.1 + 1 ≤ R.frames ∧ 8 + (y'.2.2.1 + 11) + y'.2.2.2.2.2 ≤ R.locals) (hcat : (st.map fun v => v.category).sum ≤ 8) (hcs : cells + k' ≤ R.cells ∧ slots + n' ≤ R.slots) (kk : ∀ w1, B w1 → pn_G nL D A p l e R s m args below meth c QQ (pc + 3) lv (st) (wr ++ w1) (cells + k') (slots + n')) : pn_G nL D A p l e R s m args below meth c QQ (pc) lv (av.reverse ++ st) w (cells) (slots) := by
  intro H locs ls hl hP hD hS
  have hfm : isC.filterMap (fun i => w[i]?) = w0 := by
    have q : isC.filterMap (fun i => w[i]?) = (isC.map (fun i => w[i]?)).filterMap id := by rw [List.filterMap_map]; rfl
    rw [q, hC, List.filterMap_map]
    exact List.filterMap_some
  have hPc : va_P D vwCl w0 H := hP.sub isC hfm
  have hDc : va_D A w0 := hD.sub isC hnd.1 hC
  have hFc := va_free hD hS X.2.2.2.2.2.2.1 isC hC
  have hfix : CallFix p m c cc nL s args pe_WS own := ⟨X.1, X.2.1, X.2.2.1, X.2.2.2.2.1, X.2.2.2.1⟩
  have go : va_Run p l e R s m args below meth c H locs cells slots k' n' (F0 m pc ls (av.reverse ++ st)) st (pn_Q D (va_A w0 H.size) B av.toArray) (va_A w0 H.size) := by
    exact va_runS (bytes := y'.2.1) (maxL := y'.2.2.1) (ret := y'.2.2.2.1) (As := av) hfix (hM l H.size) ⟨callB_of n X.2.2.2.1 (pn_good hcode) rfl rfl rfl (X.2.2.2.1 _ hini) (X.2.2.2.1 _ hlink) hdd hrm, X.2.2.2.1 _ hst⟩ ⟨fun a U g mk q => by
      obtain ⟨q0, q1, qP, qK, qD, qE⟩ := q
      exact ⟨q0, q1, qP, va_K.moved (u := U) (U := U.calling g mk a) (Vm.Alike.refl U.vm) qK, qD, pn_E.call (U' := U.calling g mk a) rfl qE⟩, fun U hU hW => ⟨rfl, by rw [hU], by rw [hU]; exact hPc, va_K.moved hW.alike X.2.2.2.2.2.1, hDc.weaken (fun _ _ _ _ => trivial), by rw [hU]; exact pn_E.warm hW (X.2.2.2.2.2.2.2.at hS hFc)⟩⟩ rfl hn hl.1 rfl (lv_room hcat) hd hcs
  refine va_callv go hS (fun q _ h => hFc q h) hFc (fun w1 t H1 locs1 ht hvm hB hPD hz1 hk1 hS1 => ?_)
  obtain ⟨hP1, hD1⟩ := hPD
  rw [ht] at hP1
  obtain ⟨hP2, hD2⟩ := va_join hP hD isC isR hC hR hnd.2.1 hnd.2.2 hk1 hFc hP1 hD1
  exact kk w1 hB H1 locs1 ls hl hP2 hD2 hS1
theorem pn_ret (X : pn_X own cc nL D cA A p s m args c) {B : va_W → Prop} (hr : meth.sig.returnType = none) (hlocks : meth.locks = false) (hd : decode cc pc = .ok (.return_, 1)) (hB : B w) : pn_G nL D A p l e R s m args below meth c (MQ below (pn_Q D A B) args s cells slots A) pc lv [] w cells slots := by
  intro H locs ls hl hP hD hS
  exact W.vret X.1 X.2.1 hr (fun t ht hW => ⟨⟨w, rfl, hB, by rw [ht]; exact hP, hD⟩, hS.F ht⟩) hS.2.2 hd hlocks
end PN
theorem pn_enter {y : pe_Y} {k n : Nat} {av : List Value} {w0 : va_W} {D : va_G} {cA : FieldType → ClassId} {B : va_W → Prop} (hy : plainName y.1.cls = true) (hlen : (lg_sl av).length ≤ y.2.2.1)
    (kk : ∀ (l : Launch) (p : Program) (e : Env) (s : State) (m : MethodId) (below : List Frame) (meth : Method) (c : Code) (A : Nat → Prop), pn_X y.1.cls y.2.1 y.2.2.1 D cA A p s m av.toArray c → meth.sig.returnType = y.2.2.2.1 → meth.locks = false → meth.name = y.1.name → pn_G y.2.2.1 D A p l e (headSpec (pe_ws y) (pn_rm y k n)).room s m av.toArray below meth c (MQ below (pn_Q D A B) av.toArray s k n A) 0 (lv_args 0 av) [] w0 0 0) : pn_C y k n av w0 D cA B := by
  intro l sz
  refine Met.ofW (cc := y.2.1) (maxL := y.2.2.1) (ret := y.2.2.2.1) hy rfl ?_
  intro p e s m args below meth c s₁ B' hml hv
  obtain ⟨rfl, hsz, hP, hK, hD0, hE⟩ := hv
  subst hsz
  have hts := atoms_spec (ws := pe_ws y) B'.pre
  have hl := lv_entry av (n := y.2.2.1) hlen
  rw [lg_entry_eq]
  generalize (lg_sl av ++ List.replicate (y.2.2.1 - (lg_sl av).length) Slot.unset).toArray = ls at hl ⊢
  have hD := hD0.self (sz := s.heap.size)
  exact kk l p e s m below meth c (va_A w0 s.heap.size) ⟨B'.exec, B'.bytes, hml, fun w h => hts w (List.mem_cons_of_mem _ h), findClass_of_methodNamed B'.named, hK, fun q h => Or.inr h, hE⟩ B'.returns B'.notSynchronized (name_of_methodNamed B'.named B'.method).1 s.heap [] ls hl hP hD va_S.rf
theorem pn_cut {nL : Nat} {D : va_G} {A : Nat → Prop} {p : Program} {l : Launch} {e : Env} {R : Room} {s : State} {m : MethodId} {args : Array Value} {below : List Frame} {meth : Method} {c : Code} {QQ : State → Prop} {pc : Nat} {lv : List (Nat × Value)} {st st1 : List Value} {w : va_W} {cells slots : Nat} (P : Int → Prop) (t : Nat) (J : ∀ z, P z → pn_G nL D A p l e R s m args below meth c QQ (t) lv (.int (Int32.ofInt z) :: st1) w (cells) (slots)) (kk : (∀ z, P z → pn_G nL D A p l e R s m args below meth c QQ (t) lv (.int (Int32.ofInt z) :: st1) w (cells) (slots)) → pn_G nL D A p l e R s m args below meth c QQ (pc) lv (st) w (cells) (slots)) : pn_G nL D A p l e R s m args below meth c QQ (pc) lv (st) w (cells) (slots) := kk J
