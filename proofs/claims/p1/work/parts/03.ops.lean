section PE_OPS
variable {y : pe_Y} {pc : Nat} {lv : pe_L} {st : List pe_V} {σ : pe_H} {Q : Option pe_V → pe_H → Prop}
theorem pe_top {p : Program} {l : Launch} {e : Env} {R : Room} {s : State} {m : MethodId} {args : Array Value} {below : List Frame} {meth : Method} {c : Code} {H : Heap} {locs : List Loc} {cells slots : Nat} {QQ : State → Prop} {ls : Array Slot} {ad : Nat → Nat} {v : Value} {w : pe_V} (k : W p l e R s m args below meth c H locs cells slots QQ (F0 m pc ls ((w :: st).map (pe_c ad)))) (h : v = pe_c ad w) : W p l e R s m args below meth c H locs cells slots QQ (F0 m pc ls (v :: st.map (pe_c ad))) := by
  subst h
  exact k
theorem pe_iconst {n : Int} (hd : decode y.2.1 pc = .ok (.iconst n, 1)) (k : pe_G y (pc + 1) lv (.inl n :: st) σ Q) : pe_G y pc lv st σ Q := by
  intro l D ad cA p e s m args below meth c H locs ls X hl hP hD hS
  have k := k l D ad cA p e s m args below meth c H locs ls X hl hP hD hS
  exact lv_iconst X.1 X.2.1 hd rfl k
theorem pe_bipush {n : Int} (hd : decode y.2.1 pc = .ok (.bipush n, 2)) (k : pe_G y (pc + 2) lv (.inl n :: st) σ Q) (hv : (Int8.ofInt n).toInt32 = Int32.ofInt n := by decide) : pe_G y pc lv st σ Q := by
  intro l D ad cA p e s m args below meth c H locs ls X hl hP hD hS
  have k := k l D ad cA p e s m args below meth c H locs ls X hl hP hD hS
  exact lv_bipush X.1 X.2.1 hd hv k
theorem pe_sipush {n : Int} (hd : decode y.2.1 pc = .ok (.sipush n, 3)) (k : pe_G y (pc + 3) lv (.inl n :: st) σ Q) (hv : (Int16.ofInt n).toInt32 = Int32.ofInt n := by decide) : pe_G y pc lv st σ Q := by
  intro l D ad cA p e s m args below meth c H locs ls X hl hP hD hS
  have k := k l D ad cA p e s m args below meth c H locs ls X hl hP hD hS
  exact lv_sipush X.1 X.2.1 hd hv k
theorem pe_ldc {idx : Nat} {z : Int} {v : Int32} (hw : Cond.constant y.1.cls idx v ∈ pe_WS) (hd : decode y.2.1 pc = .ok (.ldc idx, 2)) (hv : v = Int32.ofInt z) (k : pe_G y (pc + 2) lv (.inl z :: st) σ Q) : pe_G y pc lv st σ Q := by
  intro l D ad cA p e s m args below meth c H locs ls X hl hP hD hS
  have k := k l D ad cA p e s m args below meth c H locs ls X hl hP hD hS
  exact lv_ldc X.1 X.2.1 X.2.2.2.2.2.2.1 (X.2.2.2.2.2.1 _ (List.mem_cons_of_mem _ hw)) hd (pe_top k (by rw [hv]; rfl))
theorem pe_ldcw {idx : Nat} {z : Int} {v : Int32} (hw : Cond.constant y.1.cls idx v ∈ pe_WS) (hd : decode y.2.1 pc = .ok (.ldc_w idx, 3)) (hv : v = Int32.ofInt z) (k : pe_G y (pc + 3) lv (.inl z :: st) σ Q) : pe_G y pc lv st σ Q := by
  intro l D ad cA p e s m args below meth c H locs ls X hl hP hD hS
  have k := k l D ad cA p e s m args below meth c H locs ls X hl hP hD hS
  exact lv_ldcw X.1 X.2.1 X.2.2.2.2.2.2.1 (X.2.2.2.2.2.1 _ (List.mem_cons_of_mem _ hw)) hd (pe_top k (by rw [hv]; rfl))
theorem pe_ldc2 {idx : Nat} {v : Int64} (hw : Cond.constantLong y.1.cls idx v ∈ pe_WS) (hd : decode y.2.1 pc = .ok (.ldc2_w idx, 3)) (k : pe_G y (pc + 3) lv (.inr (.inr v) :: st) σ Q) : pe_G y pc lv st σ Q := by
  intro l D ad cA p e s m args below meth c H locs ls X hl hP hD hS
  have k := k l D ad cA p e s m args below meth c H locs ls X hl hP hD hS
  exact lv_ldc2 X.1 X.2.1 X.2.2.2.2.2.2.1 (X.2.2.2.2.2.1 _ (List.mem_cons_of_mem _ hw)) hd k
theorem pe_iload_n {i : Fin 4} {z : Int} (hd : decode y.2.1 pc = .ok (.iload_n i, 1)) (hg : lv[(i : Nat)]? = some (some (.inl z))) (k : pe_G y (pc + 1) lv (.inl z :: st) σ Q) : pe_G y pc lv st σ Q := by
  intro l D ad cA p e s m args below meth c H locs ls X hl hP hD hS
  have k := k l D ad cA p e s m args below meth c H locs ls X hl hP hD hS
  exact lv_iload_n X.1 X.2.1 hd rfl (pe_lat hl hg) k
theorem pe_iload {i : Nat} {z : Int} (hd : decode y.2.1 pc = .ok (.iload i, 2)) (hg : lv[i]? = some (some (.inl z))) (k : pe_G y (pc + 2) lv (.inl z :: st) σ Q) : pe_G y pc lv st σ Q := by
  intro l D ad cA p e s m args below meth c H locs ls X hl hP hD hS
  have k := k l D ad cA p e s m args below meth c H locs ls X hl hP hD hS
  exact lv_iload X.1 X.2.1 hd (pe_lat hl hg) k
theorem pe_aload_n {i : Fin 4} {z : Nat} (hd : decode y.2.1 pc = .ok (.aload_n i, 1)) (hg : lv[(i : Nat)]? = some (some (.inr (.inl z)))) (k : pe_G y (pc + 1) lv (.inr (.inl z) :: st) σ Q) : pe_G y pc lv st σ Q := by
  intro l D ad cA p e s m args below meth c H locs ls X hl hP hD hS
  have k := k l D ad cA p e s m args below meth c H locs ls X hl hP hD hS
  exact lv_aload_n X.1 X.2.1 hd rfl (pe_lat hl hg) k
theorem pe_aload {i : Nat} {z : Nat} (hd : decode y.2.1 pc = .ok (.aload i, 2)) (hg : lv[i]? = some (some (.inr (.inl z)))) (k : pe_G y (pc + 2) lv (.inr (.inl z) :: st) σ Q) : pe_G y pc lv st σ Q := by
  intro l D ad cA p e s m args below meth c H locs ls X hl hP hD hS
  have k := k l D ad cA p e s m args below meth c H locs ls X hl hP hD hS
  exact lv_aload X.1 X.2.1 hd (pe_lat hl hg) k
theorem pe_lload_n {i : Fin 4} {z : Int64} (hd : decode y.2.1 pc = .ok (.lload_n i, 1)) (hg : lv[(i : Nat)]? = some (some (.inr (.inr z)))) (k : pe_G y (pc + 1) lv (.inr (.inr z) :: st) σ Q) : pe_G y pc lv st σ Q := by
  intro l D ad cA p e s m args below meth c H locs ls X hl hP hD hS
  have k := k l D ad cA p e s m args below meth c H locs ls X hl hP hD hS
  exact lv_lload_n X.1 X.2.1 hd rfl (pe_lat hl hg) k
theorem pe_lload {i : Nat} {z : Int64} (hd : decode y.2.1 pc = .ok (.lload i, 2)) (hg : lv[i]? = some (some (.inr (.inr z)))) (k : pe_G y (pc + 2) lv (.inr (.inr z) :: st) σ Q) : pe_G y pc lv st σ Q := by
  intro l D ad cA p e s m args below meth c H locs ls X hl hP hD hS
  have k := k l D ad cA p e s m args below meth c H locs ls X hl hP hD hS
  exact lv_lload X.1 X.2.1 hd (pe_lat hl hg) k
theorem pe_istore_n {i : Fin 4} {z : Int} (hd : decode y.2.1 pc = .ok (.istore_n i, 1)) (k : pe_G y (pc + 1) (lv.set (i : Nat) (some (.inl z))) st σ Q) (hn : (i : Nat) < y.2.2.1 := by decide) (ho : pe_ok1 lv (i : Nat) = true := by rfl) : pe_G y pc lv (.inl z :: st) σ Q := by
  intro l D ad cA p e s m args below meth c H locs ls X hl hP hD hS
  exact lv_istore_n X.1 X.2.1 hd rfl (pe_lhas hl) hn rfl (fun ls' h' => k l D ad cA p e s m args below meth c H locs ls' X (pe_lset hl h' ho) hP hD hS)
theorem pe_istore {i : Nat} {z : Int} (hd : decode y.2.1 pc = .ok (.istore i, 2)) (k : pe_G y (pc + 2) (lv.set i (some (.inl z))) st σ Q) (hn : i < y.2.2.1 := by decide) (ho : pe_ok1 lv i = true := by rfl) : pe_G y pc lv (.inl z :: st) σ Q := by
  intro l D ad cA p e s m args below meth c H locs ls X hl hP hD hS
  exact lv_istore X.1 X.2.1 hd (pe_lhas hl) hn rfl (fun ls' h' => k l D ad cA p e s m args below meth c H locs ls' X (pe_lset hl h' ho) hP hD hS)
theorem pe_astore_n {i : Fin 4} {z : Nat} (hd : decode y.2.1 pc = .ok (.astore_n i, 1)) (k : pe_G y (pc + 1) (lv.set (i : Nat) (some (.inr (.inl z)))) st σ Q) (hn : (i : Nat) < y.2.2.1 := by decide) (ho : pe_ok1 lv (i : Nat) = true := by rfl) : pe_G y pc lv (.inr (.inl z) :: st) σ Q := by
  intro l D ad cA p e s m args below meth c H locs ls X hl hP hD hS
  exact lv_astore_n X.1 X.2.1 hd rfl (pe_lhas hl) hn rfl (fun ls' h' => k l D ad cA p e s m args below meth c H locs ls' X (pe_lset hl h' ho) hP hD hS)
theorem pe_astore {i : Nat} {z : Nat} (hd : decode y.2.1 pc = .ok (.astore i, 2)) (k : pe_G y (pc + 2) (lv.set i (some (.inr (.inl z)))) st σ Q) (hn : i < y.2.2.1 := by decide) (ho : pe_ok1 lv i = true := by rfl) : pe_G y pc lv (.inr (.inl z) :: st) σ Q := by
  intro l D ad cA p e s m args below meth c H locs ls X hl hP hD hS
  exact lv_astore X.1 X.2.1 hd (pe_lhas hl) hn rfl (fun ls' h' => k l D ad cA p e s m args below meth c H locs ls' X (pe_lset hl h' ho) hP hD hS)
theorem pe_iinc {i : Nat} {n z : Int} (hd : decode y.2.1 pc = .ok (.iinc i n, 3)) (hg : lv[i]? = some (some (.inl z))) (k : pe_G y (pc + 3) (lv.set i (some (.inl (z + n)))) st σ Q) (hn : i < y.2.2.1 := by decide) (ho : pe_ok1 lv i = true := by rfl) : pe_G y pc lv st σ Q := by
  intro l D ad cA p e s m args below meth c H locs ls X hl hP hD hS
  obtain ⟨q, hq⟩ := List.getElem?_of_mem (pe_lmem (ad := ad) (nL := y.2.2.1) hg hn)
  refine lv_iinc (v := Int32.ofInt (z + n)) X.1 X.2.1 hd (pe_lhas hl) hq (by rw [Int32.ofInt_add]) hn rfl (fun ls' h' => k l D ad cA p e s m args below meth c H locs ls' X (pe_lset (v := .inl (z + n)) hl h' ho) hP hD hS)
theorem pe_iadd {a b : Int} (hd : decode y.2.1 pc = .ok (.iadd, 1)) (k : pe_G y (pc + 1) lv (.inl (a + b) :: st) σ Q) : pe_G y pc lv (.inl b :: .inl a :: st) σ Q := by
  intro l D ad cA p e s m args below meth c H locs ls X hl hP hD hS
  have k := k l D ad cA p e s m args below meth c H locs ls X hl hP hD hS
  exact lv_iadd X.1 X.2.1 hd (pe_top k (by show _ = Value.int (Int32.ofInt (a + b)); rw [Int32.ofInt_add]))
theorem pe_isub {a b : Int} (hd : decode y.2.1 pc = .ok (.isub, 1)) (k : pe_G y (pc + 1) lv (.inl (a - b) :: st) σ Q) : pe_G y pc lv (.inl b :: .inl a :: st) σ Q := by
  intro l D ad cA p e s m args below meth c H locs ls X hl hP hD hS
  have k := k l D ad cA p e s m args below meth c H locs ls X hl hP hD hS
  exact lv_isub X.1 X.2.1 hd (pe_top k (by show _ = Value.int (Int32.ofInt (a - b)); rw [Int32.ofInt_sub]))
theorem pe_imul {a b : Int} (hd : decode y.2.1 pc = .ok (.imul, 1)) (k : pe_G y (pc + 1) lv (.inl (a * b) :: st) σ Q) : pe_G y pc lv (.inl b :: .inl a :: st) σ Q := by
  intro l D ad cA p e s m args below meth c H locs ls X hl hP hD hS
  have k := k l D ad cA p e s m args below meth c H locs ls X hl hP hD hS
  exact lv_imul X.1 X.2.1 hd (pe_top k (by show _ = Value.int (Int32.ofInt (a * b)); rw [Int32.ofInt_mul]))
theorem pe_iand {a b z : Int} (hd : decode y.2.1 pc = .ok (.iand, 1)) (hz : Int32.ofInt a &&& Int32.ofInt b = Int32.ofInt z) (k : pe_G y (pc + 1) lv (.inl z :: st) σ Q) : pe_G y pc lv (.inl b :: .inl a :: st) σ Q := by
  intro l D ad cA p e s m args below meth c H locs ls X hl hP hD hS
  have k := k l D ad cA p e s m args below meth c H locs ls X hl hP hD hS
  exact lv_iand X.1 X.2.1 hd (pe_top k (by show _ = Value.int (Int32.ofInt z); rw [← hz]))
theorem pe_ior {a b z : Int} (hd : decode y.2.1 pc = .ok (.ior, 1)) (hz : Int32.ofInt a ||| Int32.ofInt b = Int32.ofInt z) (k : pe_G y (pc + 1) lv (.inl z :: st) σ Q) : pe_G y pc lv (.inl b :: .inl a :: st) σ Q := by
  intro l D ad cA p e s m args below meth c H locs ls X hl hP hD hS
  have k := k l D ad cA p e s m args below meth c H locs ls X hl hP hD hS
  exact lv_ior X.1 X.2.1 hd (pe_top k (by show _ = Value.int (Int32.ofInt z); rw [← hz]))
theorem pe_ixor {a b z : Int} (hd : decode y.2.1 pc = .ok (.ixor, 1)) (hz : Int32.ofInt a ^^^ Int32.ofInt b = Int32.ofInt z) (k : pe_G y (pc + 1) lv (.inl z :: st) σ Q) : pe_G y pc lv (.inl b :: .inl a :: st) σ Q := by
  intro l D ad cA p e s m args below meth c H locs ls X hl hP hD hS
  have k := k l D ad cA p e s m args below meth c H locs ls X hl hP hD hS
  exact lv_ixor X.1 X.2.1 hd (pe_top k (by show _ = Value.int (Int32.ofInt z); rw [← hz]))
theorem pe_ishl {a b z : Int} (hd : decode y.2.1 pc = .ok (.ishl, 1)) (hz : Int32.ofInt a <<< (Int32.ofInt b &&& 31) = Int32.ofInt z) (k : pe_G y (pc + 1) lv (.inl z :: st) σ Q) : pe_G y pc lv (.inl b :: .inl a :: st) σ Q := by
  intro l D ad cA p e s m args below meth c H locs ls X hl hP hD hS
  have k := k l D ad cA p e s m args below meth c H locs ls X hl hP hD hS
  exact lv_ishl X.1 X.2.1 hd (pe_top k (by show _ = Value.int (Int32.ofInt z); rw [← hz]))
theorem pe_ishr {a b z : Int} (hd : decode y.2.1 pc = .ok (.ishr, 1)) (hz : Int32.ofInt a >>> (Int32.ofInt b &&& 31) = Int32.ofInt z) (k : pe_G y (pc + 1) lv (.inl z :: st) σ Q) : pe_G y pc lv (.inl b :: .inl a :: st) σ Q := by
  intro l D ad cA p e s m args below meth c H locs ls X hl hP hD hS
  have k := k l D ad cA p e s m args below meth c H locs ls X hl hP hD hS
  exact lv_ishr X.1 X.2.1 hd (pe_top k (by show _ = Value.int (Int32.ofInt z); rw [← hz]))
theorem pe_idiv {a b : Int} (hd : decode y.2.1 pc = .ok (.idiv, 1)) (ha : pe_R a) (hb0 : 0 < b) (hb : pe_R b) (k : pe_G y (pc + 1) lv (.inl (a.tdiv b) :: st) σ Q) : pe_G y pc lv (.inl b :: .inl a :: st) σ Q := by
  intro l D ad cA p e s m args below meth c H locs ls X hl hP hD hS
  have k := k l D ad cA p e s m args below meth c H locs ls X hl hP hD hS
  exact lv_idiv X.1 X.2.1 hd (fun q => by have := (pe_eq hb pe_R0).mp q; omega) (pe_top k (by show _ = Value.int (Int32.ofInt (a.tdiv b)); rw [pe_tdiv ha hb]))
theorem pe_irem {a b : Int} (hd : decode y.2.1 pc = .ok (.irem, 1)) (ha : pe_R a) (hb0 : 0 < b) (hb : pe_R b) (k : pe_G y (pc + 1) lv (.inl (a.tmod b) :: st) σ Q) : pe_G y pc lv (.inl b :: .inl a :: st) σ Q := by
  intro l D ad cA p e s m args below meth c H locs ls X hl hP hD hS
  have k := k l D ad cA p e s m args below meth c H locs ls X hl hP hD hS
  exact lv_irem X.1 X.2.1 hd (fun q => by have := (pe_eq hb pe_R0).mp q; omega) (pe_top k (by show _ = Value.int (Int32.ofInt (a.tmod b)); rw [pe_tmod ha hb]))
theorem pe_i2l {a : Int} {v : Int64} (hd : decode y.2.1 pc = .ok (.i2l, 1)) (hv : (Int32.ofInt a).toInt64 = v) (k : pe_G y (pc + 1) lv (.inr (.inr v) :: st) σ Q) : pe_G y pc lv (.inl a :: st) σ Q := by
  intro l D ad cA p e s m args below meth c H locs ls X hl hP hD hS
  have k := k l D ad cA p e s m args below meth c H locs ls X hl hP hD hS
  exact lv_i2l X.1 X.2.1 hd hv k
theorem pe_l2i {x : Int64} {z : Int} (hd : decode y.2.1 pc = .ok (.l2i, 1)) (hv : x.toInt32 = Int32.ofInt z) (k : pe_G y (pc + 1) lv (.inl z :: st) σ Q) : pe_G y pc lv (.inr (.inr x) :: st) σ Q := by
  intro l D ad cA p e s m args below meth c H locs ls X hl hP hD hS
  have k := k l D ad cA p e s m args below meth c H locs ls X hl hP hD hS
  exact lv_l2i X.1 X.2.1 hd hv k
theorem pe_lushr {x v : Int64} {b : Int} (hd : decode y.2.1 pc = .ok (.lushr, 1)) (hv : (x.toUInt64 >>> ((Int32.ofInt b).toInt64.toUInt64 &&& Int64.toUInt64 63)).toInt64 = v) (k : pe_G y (pc + 1) lv (.inr (.inr v) :: st) σ Q) : pe_G y pc lv (.inl b :: .inr (.inr x) :: st) σ Q := by
  intro l D ad cA p e s m args below meth c H locs ls X hl hP hD hS
  have k := k l D ad cA p e s m args below meth c H locs ls X hl hP hD hS
  exact lv_lushr X.1 X.2.1 hd hv k
theorem pe_lshr {x v : Int64} {b : Int} (hd : decode y.2.1 pc = .ok (.lshr, 1)) (hv : x >>> ((Int32.ofInt b).toInt64 &&& 63) = v) (k : pe_G y (pc + 1) lv (.inr (.inr v) :: st) σ Q) : pe_G y pc lv (.inl b :: .inr (.inr x) :: st) σ Q := by
  intro l D ad cA p e s m args below meth c H locs ls X hl hP hD hS
  have k := k l D ad cA p e s m args below meth c H locs ls X hl hP hD hS
  exact lv_lshr X.1 X.2.1 hd hv k
theorem pe_lshl {x v : Int64} {b : Int} (hd : decode y.2.1 pc = .ok (.lshl, 1)) (hv : x <<< ((Int32.ofInt b).toInt64 &&& 63) = v) (k : pe_G y (pc + 1) lv (.inr (.inr v) :: st) σ Q) : pe_G y pc lv (.inl b :: .inr (.inr x) :: st) σ Q := by
  intro l D ad cA p e s m args below meth c H locs ls X hl hP hD hS
  have k := k l D ad cA p e s m args below meth c H locs ls X hl hP hD hS
  exact lv_lshl X.1 X.2.1 hd hv k
theorem pe_land {x v : Int64} (hd : decode y.2.1 pc = .ok (.land, 1)) (k : pe_G y (pc + 1) lv (.inr (.inr (x &&& v)) :: st) σ Q) : pe_G y pc lv (.inr (.inr v) :: .inr (.inr x) :: st) σ Q := by
  intro l D ad cA p e s m args below meth c H locs ls X hl hP hD hS
  have k := k l D ad cA p e s m args below meth c H locs ls X hl hP hD hS
  exact lv_land X.1 X.2.1 hd k
theorem pe_dup {v : pe_V} (hd : decode y.2.1 pc = .ok (.dup, 1)) (k : pe_G y (pc + 1) lv (v :: v :: st) σ Q) (hc : pe_cat v = 1 := by rfl) : pe_G y pc lv (v :: st) σ Q := by
  intro l D ad cA p e s m args below meth c H locs ls X hl hP hD hS
  have k := k l D ad cA p e s m args below meth c H locs ls X hl hP hD hS
  exact lv_dup X.1 X.2.1 hd (by rw [pe_cat_c]; exact hc) k
theorem pe_dup2 {v w : pe_V} (hd : decode y.2.1 pc = .ok (.dup2, 1)) (k : pe_G y (pc + 1) lv (v :: w :: v :: w :: st) σ Q) (hc : pe_cat v = 1 := by rfl) (hc2 : pe_cat w = 1 := by rfl) : pe_G y pc lv (v :: w :: st) σ Q := by
  intro l D ad cA p e s m args below meth c H locs ls X hl hP hD hS
  have k := k l D ad cA p e s m args below meth c H locs ls X hl hP hD hS
  exact lv_dup2_11 X.1 X.2.1 hd (by rw [pe_cat_c]; exact hc) (by rw [pe_cat_c]; exact hc2) k
theorem pe_pop {v : pe_V} (hd : decode y.2.1 pc = .ok (.pop, 1)) (k : pe_G y (pc + 1) lv st σ Q) (hc : pe_cat v = 1 := by rfl) : pe_G y pc lv (v :: st) σ Q := by
  intro l D ad cA p e s m args below meth c H locs ls X hl hP hD hS
  have k := k l D ad cA p e s m args below meth c H locs ls X hl hP hD hS
  exact lv_pop X.1 X.2.1 hd (by rw [pe_cat_c]; exact hc) k
theorem pe_goto {off : Int} {t : Nat} (hd : decode y.2.1 pc = .ok (.goto off, 3)) (k : pe_G y t lv st σ Q) (ht : (pc : Int) + off = (t : Int) := by decide) : pe_G y pc lv st σ Q := by
  intro l D ad cA p e s m args below meth c H locs ls X hl hP hD hS
  have k := k l D ad cA p e s m args below meth c H locs ls X hl hP hD hS
  exact lv_goto X.1 X.2.1 hd ht k
theorem pe_icmp_eq {a b off : Int} {t : Nat} (hd : decode y.2.1 pc = .ok (.if_icmp .eq off, 3)) (ha : pe_R a) (hb : pe_R b) (kt : a = b → pe_G y t lv st σ Q) (kf : ¬ a = b → pe_G y (pc + 3) lv st σ Q) (ht : (pc : Int) + off = (t : Int) := by decide) : pe_G y pc lv (.inl b :: .inl a :: st) σ Q := by
  intro l D ad cA p e s m args below meth c H locs ls X hl hP hD hS
  refine lv_icmp_eq X.1 X.2.1 hd ht (fun q => kt ?_ l D ad cA p e s m args below meth c H locs ls X hl hP hD hS) (fun q => kf ?_ l D ad cA p e s m args below meth c H locs ls X hl hP hD hS)
  · exact pe_cm_eq ha hb q
  · exact pe_cn_eq ha hb q
theorem pe_if_eq {a off : Int} {t : Nat} (hd : decode y.2.1 pc = .ok (.ifCond .eq off, 3)) (ha : pe_R a) (kt : a = 0 → pe_G y t lv st σ Q) (kf : ¬ a = 0 → pe_G y (pc + 3) lv st σ Q) (ht : (pc : Int) + off = (t : Int) := by decide) : pe_G y pc lv (.inl a :: st) σ Q := by
  intro l D ad cA p e s m args below meth c H locs ls X hl hP hD hS
  refine lv_if_eq X.1 X.2.1 hd ht (fun q => kt ?_ l D ad cA p e s m args below meth c H locs ls X hl hP hD hS) (fun q => kf ?_ l D ad cA p e s m args below meth c H locs ls X hl hP hD hS)
  · exact pe_cm_eq ha pe_R0 q
  · exact pe_cn_eq ha pe_R0 q
theorem pe_icmp_ne {a b off : Int} {t : Nat} (hd : decode y.2.1 pc = .ok (.if_icmp .ne off, 3)) (ha : pe_R a) (hb : pe_R b) (kt : ¬ a = b → pe_G y t lv st σ Q) (kf : a = b → pe_G y (pc + 3) lv st σ Q) (ht : (pc : Int) + off = (t : Int) := by decide) : pe_G y pc lv (.inl b :: .inl a :: st) σ Q := by
  intro l D ad cA p e s m args below meth c H locs ls X hl hP hD hS
  refine lv_icmp_ne X.1 X.2.1 hd ht (fun q => kt ?_ l D ad cA p e s m args below meth c H locs ls X hl hP hD hS) (fun q => kf ?_ l D ad cA p e s m args below meth c H locs ls X hl hP hD hS)
  · exact pe_cm_ne ha hb q
  · exact pe_cn_ne ha hb q
theorem pe_if_ne {a off : Int} {t : Nat} (hd : decode y.2.1 pc = .ok (.ifCond .ne off, 3)) (ha : pe_R a) (kt : ¬ a = 0 → pe_G y t lv st σ Q) (kf : a = 0 → pe_G y (pc + 3) lv st σ Q) (ht : (pc : Int) + off = (t : Int) := by decide) : pe_G y pc lv (.inl a :: st) σ Q := by
  intro l D ad cA p e s m args below meth c H locs ls X hl hP hD hS
  refine lv_if_ne X.1 X.2.1 hd ht (fun q => kt ?_ l D ad cA p e s m args below meth c H locs ls X hl hP hD hS) (fun q => kf ?_ l D ad cA p e s m args below meth c H locs ls X hl hP hD hS)
  · exact pe_cm_ne ha pe_R0 q
  · exact pe_cn_ne ha pe_R0 q
theorem pe_icmp_lt {a b off : Int} {t : Nat} (hd : decode y.2.1 pc = .ok (.if_icmp .lt off, 3)) (ha : pe_R a) (hb : pe_R b) (kt : a < b → pe_G y t lv st σ Q) (kf : b ≤ a → pe_G y (pc + 3) lv st σ Q) (ht : (pc : Int) + off = (t : Int) := by decide) : pe_G y pc lv (.inl b :: .inl a :: st) σ Q := by
  intro l D ad cA p e s m args below meth c H locs ls X hl hP hD hS
  refine lv_icmp_lt X.1 X.2.1 hd ht (fun q => kt ?_ l D ad cA p e s m args below meth c H locs ls X hl hP hD hS) (fun q => kf ?_ l D ad cA p e s m args below meth c H locs ls X hl hP hD hS)
  · exact pe_cm_lt ha hb q
  · exact pe_cn_lt ha hb q
theorem pe_if_lt {a off : Int} {t : Nat} (hd : decode y.2.1 pc = .ok (.ifCond .lt off, 3)) (ha : pe_R a) (kt : a < 0 → pe_G y t lv st σ Q) (kf : 0 ≤ a → pe_G y (pc + 3) lv st σ Q) (ht : (pc : Int) + off = (t : Int) := by decide) : pe_G y pc lv (.inl a :: st) σ Q := by
  intro l D ad cA p e s m args below meth c H locs ls X hl hP hD hS
  refine lv_if_lt X.1 X.2.1 hd ht (fun q => kt ?_ l D ad cA p e s m args below meth c H locs ls X hl hP hD hS) (fun q => kf ?_ l D ad cA p e s m args below meth c H locs ls X hl hP hD hS)
  · exact pe_cm_lt ha pe_R0 q
  · exact pe_cn_lt ha pe_R0 q
theorem pe_icmp_ge {a b off : Int} {t : Nat} (hd : decode y.2.1 pc = .ok (.if_icmp .ge off, 3)) (ha : pe_R a) (hb : pe_R b) (kt : b ≤ a → pe_G y t lv st σ Q) (kf : a < b → pe_G y (pc + 3) lv st σ Q) (ht : (pc : Int) + off = (t : Int) := by decide) : pe_G y pc lv (.inl b :: .inl a :: st) σ Q := by
  intro l D ad cA p e s m args below meth c H locs ls X hl hP hD hS
  refine lv_icmp_ge X.1 X.2.1 hd ht (fun q => kt ?_ l D ad cA p e s m args below meth c H locs ls X hl hP hD hS) (fun q => kf ?_ l D ad cA p e s m args below meth c H locs ls X hl hP hD hS)
  · exact pe_cm_ge ha hb q
  · exact pe_cn_ge ha hb q
theorem pe_if_ge {a off : Int} {t : Nat} (hd : decode y.2.1 pc = .ok (.ifCond .ge off, 3)) (ha : pe_R a) (kt : 0 ≤ a → pe_G y t lv st σ Q) (kf : a < 0 → pe_G y (pc + 3) lv st σ Q) (ht : (pc : Int) + off = (t : Int) := by decide) : pe_G y pc lv (.inl a :: st) σ Q := by
  intro l D ad cA p e s m args below meth c H locs ls X hl hP hD hS
  refine lv_if_ge X.1 X.2.1 hd ht (fun q => kt ?_ l D ad cA p e s m args below meth c H locs ls X hl hP hD hS) (fun q => kf ?_ l D ad cA p e s m args below meth c H locs ls X hl hP hD hS)
  · exact pe_cm_ge ha pe_R0 q
  · exact pe_cn_ge ha pe_R0 q
theorem pe_icmp_gt {a b off : Int} {t : Nat} (hd : decode y.2.1 pc = .ok (.if_icmp .gt off, 3)) (ha : pe_R a) (hb : pe_R b) (kt : b < a → pe_G y t lv st σ Q) (kf : a ≤ b → pe_G y (pc + 3) lv st σ Q) (ht : (pc : Int) + off = (t : Int) := by decide) : pe_G y pc lv (.inl b :: .inl a :: st) σ Q := by
  intro l D ad cA p e s m args below meth c H locs ls X hl hP hD hS
  refine lv_icmp_gt X.1 X.2.1 hd ht (fun q => kt ?_ l D ad cA p e s m args below meth c H locs ls X hl hP hD hS) (fun q => kf ?_ l D ad cA p e s m args below meth c H locs ls X hl hP hD hS)
  · exact pe_cm_gt ha hb q
  · exact pe_cn_gt ha hb q
theorem pe_if_gt {a off : Int} {t : Nat} (hd : decode y.2.1 pc = .ok (.ifCond .gt off, 3)) (ha : pe_R a) (kt : 0 < a → pe_G y t lv st σ Q) (kf : a ≤ 0 → pe_G y (pc + 3) lv st σ Q) (ht : (pc : Int) + off = (t : Int) := by decide) : pe_G y pc lv (.inl a :: st) σ Q := by
  intro l D ad cA p e s m args below meth c H locs ls X hl hP hD hS
  refine lv_if_gt X.1 X.2.1 hd ht (fun q => kt ?_ l D ad cA p e s m args below meth c H locs ls X hl hP hD hS) (fun q => kf ?_ l D ad cA p e s m args below meth c H locs ls X hl hP hD hS)
  · exact pe_cm_gt ha pe_R0 q
  · exact pe_cn_gt ha pe_R0 q
theorem pe_icmp_le {a b off : Int} {t : Nat} (hd : decode y.2.1 pc = .ok (.if_icmp .le off, 3)) (ha : pe_R a) (hb : pe_R b) (kt : a ≤ b → pe_G y t lv st σ Q) (kf : b < a → pe_G y (pc + 3) lv st σ Q) (ht : (pc : Int) + off = (t : Int) := by decide) : pe_G y pc lv (.inl b :: .inl a :: st) σ Q := by
  intro l D ad cA p e s m args below meth c H locs ls X hl hP hD hS
  refine lv_icmp_le X.1 X.2.1 hd ht (fun q => kt ?_ l D ad cA p e s m args below meth c H locs ls X hl hP hD hS) (fun q => kf ?_ l D ad cA p e s m args below meth c H locs ls X hl hP hD hS)
  · exact pe_cm_le ha hb q
  · exact pe_cn_le ha hb q
theorem pe_if_le {a off : Int} {t : Nat} (hd : decode y.2.1 pc = .ok (.ifCond .le off, 3)) (ha : pe_R a) (kt : a ≤ 0 → pe_G y t lv st σ Q) (kf : 0 < a → pe_G y (pc + 3) lv st σ Q) (ht : (pc : Int) + off = (t : Int) := by decide) : pe_G y pc lv (.inl a :: st) σ Q := by
  intro l D ad cA p e s m args below meth c H locs ls X hl hP hD hS
  refine lv_if_le X.1 X.2.1 hd ht (fun q => kt ?_ l D ad cA p e s m args below meth c H locs ls X hl hP hD hS) (fun q => kf ?_ l D ad cA p e s m args below meth c H locs ls X hl hP hD hS)
  · exact pe_cm_le ha pe_R0 q
  · exact pe_cn_le ha pe_R0 q
theorem pe_iald {a n : Nat} {i : Int} (hd : decode y.2.1 pc = .ok (.iaload, 1)) (hs : pe_sh[a]? = some (.inl (.int, n))) (h0 : 0 ≤ i) (h1 : i < n) (k : pe_G y (pc + 1) lv (.inl (σ a i) :: st) σ Q) (hn : n < 2147483648 := by decide) : pe_G y pc lv (.inl i :: .inr (.inl a) :: st) σ Q := by
  intro l D ad cA p e s m args below meth c H locs ls X hl hP hD hS
  have k := k l D ad cA p e s m args below meth c H locs ls X hl hP hD hS
  refine va_iald X.1 X.2.1 X.2.2.2.2.2.2.2.1 hP a 0 (pe_wd_at hs) rfl (pe_in hn h0 h1) hd (pe_top k ?_)
  show Value.int (Int32.ofInt (σ a (((Int32.ofInt i).toNatClampNeg : Nat) : Int))) = Value.int (Int32.ofInt (σ a i))
  rw [pe_clamp h0 (by omega), Int.toNat_of_nonneg h0]
theorem pe_zald {a n : Nat} {i : Int} (hd : decode y.2.1 pc = .ok (.baload, 1)) (hs : pe_sh[a]? = some (.inl (.boolean, n))) (h0 : 0 ≤ i) (h1 : i < n) (k : pe_G y (pc + 1) lv (.inl (σ a i) :: st) σ Q) (hn : n < 2147483648 := by decide) : pe_G y pc lv (.inl i :: .inr (.inl a) :: st) σ Q := by
  intro l D ad cA p e s m args below meth c H locs ls X hl hP hD hS
  have k := k l D ad cA p e s m args below meth c H locs ls X hl hP hD hS
  refine va_zald X.1 X.2.1 X.2.2.2.2.2.2.2.1 hP a 1 (pe_wd_at hs) rfl (pe_in hn h0 h1) hd (pe_top k ?_)
  show Value.int (Int32.ofInt (σ a (((Int32.ofInt i).toNatClampNeg : Nat) : Int))) = Value.int (Int32.ofInt (σ a i))
  rw [pe_clamp h0 (by omega), Int.toNat_of_nonneg h0]
theorem pe_bald {a n : Nat} {i : Int} (hd : decode y.2.1 pc = .ok (.baload, 1)) (hs : pe_sh[a]? = some (.inl (.byte, n))) (h0 : 0 ≤ i) (h1 : i < n) (k : pe_G y (pc + 1) lv (.inl (σ a i) :: st) σ Q) (hn : n < 2147483648 := by decide) : pe_G y pc lv (.inl i :: .inr (.inl a) :: st) σ Q := by
  intro l D ad cA p e s m args below meth c H locs ls X hl hP hD hS
  have k := k l D ad cA p e s m args below meth c H locs ls X hl hP hD hS
  refine va_bald X.1 X.2.1 X.2.2.2.2.2.2.2.1 hP a 2 (pe_wd_at hs) rfl (pe_in hn h0 h1) hd (pe_top k ?_)
  show Value.int (Int32.ofInt (σ a (((Int32.ofInt i).toNatClampNeg : Nat) : Int))) = Value.int (Int32.ofInt (σ a i))
  rw [pe_clamp h0 (by omega), Int.toNat_of_nonneg h0]
theorem pe_iast {a n : Nat} {i v : Int} (hd : decode y.2.1 pc = .ok (.iastore, 1)) (hs : pe_sh[a]? = some (.inl (.int, n))) (h0 : 0 ≤ i) (h1 : i < n) (k : pe_G y (pc + 1) lv st (pe_up σ a i v) Q) (hn : n < 2147483648 := by decide) : pe_G y pc lv (.inl v :: .inl i :: .inr (.inl a) :: st) σ Q := by
  intro l D ad cA p e s m args below meth c H locs ls X hl hP hD hS
  refine va_iast X.1 X.2.1 X.2.2.2.2.2.2.2.1 hP hD hS a 0 (pe_wd_at hs) rfl (pe_in hn h0 h1) hd (fun H1 locs1 hP1 hD1 hS1 => ?_)
  have hE : (Sum.inl (cA .int, n, Sum.inl (upd (fun j : Nat => Int32.ofInt (σ a (j : Int))) (Int32.ofInt i).toNatClampNeg (Int32.ofInt v))) : va_E) = pe_en ad cA (pe_up σ a i v) a (.inl (.int, n)) := by
    have h2 : upd (fun j : Nat => Int32.ofInt (σ a (j : Int))) (Int32.ofInt i).toNatClampNeg (Int32.ofInt v) = fun j : Nat => Int32.ofInt (pe_up σ a i v a (j : Int)) := by
      funext j
      rw [pe_up_at, pe_clamp h0 (by omega)]
      by_cases hj : (j : Int) = i
      · rw [if_pos hj]
        have : j = i.toNat := by omega
        subst this
        exact pk_us
      · rw [if_neg hj]
        exact pk_un (by omega)
    rw [h2]
    rfl
  rw [pe_wd_set (σ' := pe_up σ a i v) hs (fun b hb => pe_up_ne hb) hE] at hP1 hD1
  exact k l D ad cA p e s m args below meth c H1 locs1 ls X hl hP1 hD1 hS1
theorem pe_zast {a n : Nat} {i v : Int} (hd : decode y.2.1 pc = .ok (.bastore, 1)) (hs : pe_sh[a]? = some (.inl (.boolean, n))) (h0 : 0 ≤ i) (h1 : i < n) (hv : vp_nar .boolean (Int32.ofInt v) = Int32.ofInt v) (k : pe_G y (pc + 1) lv st (pe_up σ a i v) Q) (hn : n < 2147483648 := by decide) : pe_G y pc lv (.inl v :: .inl i :: .inr (.inl a) :: st) σ Q := by
  intro l D ad cA p e s m args below meth c H locs ls X hl hP hD hS
  refine va_zast X.1 X.2.1 X.2.2.2.2.2.2.2.1 hP hD hS a 1 (pe_wd_at hs) rfl (pe_in hn h0 h1) hd (fun H1 locs1 hP1 hD1 hS1 => ?_)
  have hE : (Sum.inl (cA .boolean, n, Sum.inl (upd (fun j : Nat => Int32.ofInt (σ a (j : Int))) (Int32.ofInt i).toNatClampNeg (vp_nar .boolean (Int32.ofInt v)))) : va_E) = pe_en ad cA (pe_up σ a i v) a (.inl (.boolean, n)) := by
    have h2 : upd (fun j : Nat => Int32.ofInt (σ a (j : Int))) (Int32.ofInt i).toNatClampNeg (vp_nar .boolean (Int32.ofInt v)) = fun j : Nat => Int32.ofInt (pe_up σ a i v a (j : Int)) := by
      funext j
      rw [pe_up_at, pe_clamp h0 (by omega)]
      by_cases hj : (j : Int) = i
      · rw [if_pos hj]
        have : j = i.toNat := by omega
        subst this
        rw [pk_us]; exact hv
      · rw [if_neg hj]
        exact pk_un (by omega)
    rw [h2]
    rfl
  rw [pe_wd_set (σ' := pe_up σ a i v) hs (fun b hb => pe_up_ne hb) hE] at hP1 hD1
  exact k l D ad cA p e s m args below meth c H1 locs1 ls X hl hP1 hD1 hS1
theorem pe_bast {a n : Nat} {i v : Int} (hd : decode y.2.1 pc = .ok (.bastore, 1)) (hs : pe_sh[a]? = some (.inl (.byte, n))) (h0 : 0 ≤ i) (h1 : i < n) (hv : vp_nar .byte (Int32.ofInt v) = Int32.ofInt v) (k : pe_G y (pc + 1) lv st (pe_up σ a i v) Q) (hn : n < 2147483648 := by decide) : pe_G y pc lv (.inl v :: .inl i :: .inr (.inl a) :: st) σ Q := by
  intro l D ad cA p e s m args below meth c H locs ls X hl hP hD hS
  refine va_bast X.1 X.2.1 X.2.2.2.2.2.2.2.1 hP hD hS a 2 (pe_wd_at hs) rfl (pe_in hn h0 h1) hd (fun H1 locs1 hP1 hD1 hS1 => ?_)
  have hE : (Sum.inl (cA .byte, n, Sum.inl (upd (fun j : Nat => Int32.ofInt (σ a (j : Int))) (Int32.ofInt i).toNatClampNeg (vp_nar .byte (Int32.ofInt v)))) : va_E) = pe_en ad cA (pe_up σ a i v) a (.inl (.byte, n)) := by
    have h2 : upd (fun j : Nat => Int32.ofInt (σ a (j : Int))) (Int32.ofInt i).toNatClampNeg (vp_nar .byte (Int32.ofInt v)) = fun j : Nat => Int32.ofInt (pe_up σ a i v a (j : Int)) := by
      funext j
      rw [pe_up_at, pe_clamp h0 (by omega)]
      by_cases hj : (j : Int) = i
      · rw [if_pos hj]
        have : j = i.toNat := by omega
        subst this
        rw [pk_us]; exact hv
      · rw [if_neg hj]
        exact pk_un (by omega)
    rw [h2]
    rfl
  rw [pe_wd_set (σ' := pe_up σ a i v) hs (fun b hb => pe_up_ne hb) hE] at hP1 hD1
  exact k l D ad cA p e s m args below meth c H1 locs1 ls X hl hP1 hD1 hS1
theorem pe_alen {a n : Nat} {t0 : Nat} {ty : FieldType} (hd : decode y.2.1 pc = .ok (.arraylength, 1)) (hs : pe_sh[a]? = some (.inl (ty, n))) (ht : ∀ cA : FieldType → ClassId, (pe_ty cA)[t0]? = some (cA ty, ty)) (k : pe_G y (pc + 1) lv (.inl (n : Int) :: st) σ Q) : pe_G y pc lv (.inr (.inl a) :: st) σ Q := by
  intro l D ad cA p e s m args below meth c H locs ls X hl hP hD hS
  have k := k l D ad cA p e s m args below meth c H locs ls X hl hP hD hS
  exact va_alen X.1 X.2.1 X.2.2.2.2.2.2.2.1 hP a t0 (pe_wd_at hs) (ht cA) (show Int32.ofNat n = Int32.ofInt (n : Int) from Int32.ofInt_eq_ofNat.symm) hd k
theorem pe_getv {a idx ci k N : Nat} (F : pe_FL y.1.cls idx ci k N) (hd : decode y.2.1 pc = .ok (.getfield idx, 3)) (hs : pe_sh[a]? = some (.inr (ci, N))) (kk : pe_G y (pc + 3) lv (pe_av σ a k :: st) σ Q) : pe_G y pc lv (.inr (.inl a) :: st) σ Q := by
  intro l D ad cA p e s m args below meth c H locs ls X hl hP hD hS
  have kk := kk l D ad cA p e s m args below meth c H locs ls X hl hP hD hS
  obtain ⟨C, T, ty0, hc, hk, hw, hty, hnm, hlink⟩ := F
  have hv : ((List.range N).map (fun k => pe_c ad (pe_av σ a k)))[k]? = some (pe_c ad (pe_av σ a k)) := by
    rw [List.getElem?_map, List.getElem?_range hk]; rfl
  exact va_get X.1 X.2.1 X.2.2.2.2.2.1 (fun w h => List.mem_cons_of_mem _ (hw w h)) X.2.2.2.2.2.2.1 X.2.2.2.2.2.2.2.1 hP a (pe_wd_at hs) hc k hk (X.2.2.2.2.2.1 _ (List.mem_cons_of_mem _ hlink)) (fun x h => h) hv hd kk
theorem pe_geti {a idx ci k N : Nat} (F : pe_FL y.1.cls idx ci k N) (hd : decode y.2.1 pc = .ok (.getfield idx, 3)) (hs : pe_sh[a]? = some (.inr (ci, N))) (hr : pe_rt a k = none) (kz : Int) (hkz : (k : Int) = kz) (kk : pe_G y (pc + 3) lv (.inl (σ a kz) :: st) σ Q) : pe_G y pc lv (.inr (.inl a) :: st) σ Q := by
  subst hkz
  refine pe_getv F hd hs ?_
  have : pe_av σ a k = .inl (σ a (k : Int)) := by unfold pe_av; rw [hr]
  rw [this]
  exact kk
theorem pe_getr {a j idx ci k N : Nat} (F : pe_FL y.1.cls idx ci k N) (hd : decode y.2.1 pc = .ok (.getfield idx, 3)) (hs : pe_sh[a]? = some (.inr (ci, N))) (hr : pe_rt a k = some j) (kk : pe_G y (pc + 3) lv (.inr (.inl j) :: st) σ Q) : pe_G y pc lv (.inr (.inl a) :: st) σ Q := by
  refine pe_getv F hd hs ?_
  have : pe_av σ a k = .inr (.inl j) := by unfold pe_av; rw [hr]
  rw [this]
  exact kk
theorem pe_put {a idx ci k N : Nat} {v : Int} {ty : FieldType} (F : pe_FL y.1.cls idx ci k N) (hf : pe_FP ci k ty) (hd : decode y.2.1 pc = .ok (.putfield idx, 3)) (hs : pe_sh[a]? = some (.inr (ci, N))) (hr : pe_rt a k = none) (hn : narrow ty (.int (Int32.ofInt v)) = .int (Int32.ofInt v)) (hfit : fits ty (.int (Int32.ofInt v)) = true) (kk : pe_G y (pc + 3) lv st (pe_up σ a (k : Int) v) Q) : pe_G y pc lv (.inl v :: .inr (.inl a) :: st) σ Q := by
  intro l D ad cA p e s m args below meth c H locs ls X hl hP hD hS
  obtain ⟨C, T, ty0, hc, hk, hw, hty, hnm, hlink⟩ := F
  obtain ⟨C', T', N', hc', hfin, hdsc⟩ := hf
  have he := hc.symm.trans hc'
  cases he
  have hset : ((List.range N).map (fun k => pe_c ad (pe_av σ a k))).set k (.int (Int32.ofInt v)) = (List.range N).map (fun j => pe_c ad (pe_av (pe_up σ a (k : Int) v) a j)) := by
    apply List.ext_getElem?
    intro j
    rw [List.getElem?_set, List.getElem?_map, List.getElem?_map]
    by_cases hj : k = j
    · subst hj
      rw [if_pos rfl, if_pos (by simpa using hk), List.getElem?_range hk]
      show some _ = some (pe_c ad (pe_av (pe_up σ a (k : Int) v) a k))
      have : pe_av (pe_up σ a (k : Int) v) a k = .inl v := by unfold pe_av; rw [hr, pe_up_at, if_pos rfl]
      rw [this]
      rfl
    · rw [if_neg hj]
      by_cases hjN : j < N
      · rw [List.getElem?_range hjN]
        show some (pe_c ad (pe_av σ a j)) = some (pe_c ad (pe_av (pe_up σ a (k : Int) v) a j))
        have : pe_av (pe_up σ a (k : Int) v) a j = pe_av σ a j := by
          unfold pe_av
          cases pe_rt a j with
          | some r => rfl
          | none => show (Sum.inl _ : pe_V) = Sum.inl _; rw [pe_up_at, if_neg (by omega)]
        rw [this]
      · rw [List.getElem?_eq_none (by simpa using hjN)]
        rfl
  have hlen : k < ((List.range N).map (fun k => pe_c ad (pe_av σ a k))).length := by simpa using hk
  have hE : (Sum.inr (ci, ((List.range N).map (fun k => pe_c ad (pe_av σ a k))).set k (.int (Int32.ofInt v))) : va_E) = pe_en ad cA (pe_up σ a (k : Int) v) a (.inr (ci, N)) := by
    rw [hset]
    rfl
  refine va_put (v := .int (Int32.ofInt v)) X.1 X.2.1 X.2.2.2.2.2.1 (fun w h => List.mem_cons_of_mem _ (hw w h)) ty0 hty hnm X.2.2.2.2.2.2.1 X.2.2.2.2.2.2.2.1 hP hD hS a (pe_wd_at hs) hc k hk (X.2.2.2.2.2.1 _ (List.mem_cons_of_mem _ hlink)) (fun x h => h) hfin hdsc hn hfit hlen hd (fun H1 locs1 hP1 hD1 hS1 => ?_)
  rw [pe_wd_set (σ' := pe_up σ a (k : Int) v) hs (fun b hb => pe_up_ne hb) hE] at hP1 hD1
  exact kk l D ad cA p e s m args below meth c H1 locs1 ls X hl hP1 hD1 hS1
theorem pe_puti {a idx ci k N : Nat} {v : Int} (F : pe_FL y.1.cls idx ci k N) (hf : pe_FP ci k .int) (hd : decode y.2.1 pc = .ok (.putfield idx, 3)) (hs : pe_sh[a]? = some (.inr (ci, N))) (hr : pe_rt a k = none) (kz : Int) (hkz : (k : Int) = kz) (kk : pe_G y (pc + 3) lv st (pe_up σ a kz v) Q) : pe_G y pc lv (.inl v :: .inr (.inl a) :: st) σ Q := by
  subst hkz
  exact pe_put F hf hd hs hr rfl rfl kk
theorem pe_putz {a idx ci k N : Nat} {v : Int} (F : pe_FL y.1.cls idx ci k N) (hf : pe_FP ci k .boolean) (hd : decode y.2.1 pc = .ok (.putfield idx, 3)) (hs : pe_sh[a]? = some (.inr (ci, N))) (hr : pe_rt a k = none) (hv : v = 0 ∨ v = 1) (kz : Int) (hkz : (k : Int) = kz) (kk : pe_G y (pc + 3) lv st (pe_up σ a kz v) Q) : pe_G y pc lv (.inl v :: .inr (.inl a) :: st) σ Q := by
  subst hkz
  refine pe_put F hf hd hs hr ?_ ?_ kk
  · rcases hv with rfl | rfl <;> decide
  · rcases hv with rfl | rfl <;> decide
/-- ends -/
theorem pe_reti {z : Int} (hd : decode y.2.1 pc = .ok (.ireturn, 1)) (hr : y.2.2.2.1 = some .int) (hq : Q (some (.inl z)) σ) : pe_G y pc lv [.inl z] σ Q := by
  intro l D ad cA p e s m args below meth c H locs ls X hl hP hD hS
  exact W.iret X.1 X.2.1 (X.2.2.1.trans hr) (fun t ht hW => ⟨⟨some (.inl z), σ, rfl, hq, by rw [ht]; exact hP⟩, hS.F ht⟩) hS.2.2 hd X.2.2.2.1
theorem pe_retz {z : Int} (hd : decode y.2.1 pc = .ok (.ireturn, 1)) (hr : y.2.2.2.1 = some .boolean) (hz : z = 0 ∨ z = 1) (hq : Q (some (.inl z)) σ) : pe_G y pc lv [.inl z] σ Q := by
  intro l D ad cA p e s m args below meth c H locs ls X hl hP hD hS
  exact W.zret X.1 X.2.1 (X.2.2.1.trans hr) (by rcases hz with rfl | rfl <;> decide) (fun t ht hW => ⟨⟨some (.inl z), σ, rfl, hq, by rw [ht]; exact hP⟩, hS.F ht⟩) hS.2.2 hd X.2.2.2.1
theorem pe_retv (hd : decode y.2.1 pc = .ok (.return_, 1)) (hr : y.2.2.2.1 = none) (hq : Q none σ) : pe_G y pc lv [] σ Q := by
  intro l D ad cA p e s m args below meth c H locs ls X hl hP hD hS
  exact W.vret X.1 X.2.1 (X.2.2.1.trans hr) (fun t ht hW => ⟨⟨none, σ, rfl, hq, by rw [ht]; exact hP⟩, hS.F ht⟩) hS.2.2 hd X.2.2.2.1
end PE_OPS
