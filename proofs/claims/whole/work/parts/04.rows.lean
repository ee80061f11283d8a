section
variable {N d : Nat} {own : String} {cc : ByteArray} {nL : Nat} {ret : Option FieldType} {pc : Nat} {ls st : List Value} {σ : rd_S} {Q : Option Value → rd_S → Prop}
theorem rr_iconst {n : Int} {v : Int32} (hd : decode cc pc = .ok (.iconst n, 1)) (hv : Int32.ofInt n = v) (k : rd_W N d own cc nL ret (pc + 1) ls (.int v :: st) σ Q) : rd_W N d own cc nL ret pc ls (st) σ Q := by
  intro p l e R s m args below meth c g H locs L C hP hD hS hL
  exact lv_iconst C.1 C.2.1 hd hv (k p l e R s m args below meth c g H locs L C hP hD hS hL)
theorem rr_bipush {n : Int} {v : Int32} (hd : decode cc pc = .ok (.bipush n, 2)) (hv : (Int8.ofInt n).toInt32 = v) (k : rd_W N d own cc nL ret (pc + 2) ls (.int v :: st) σ Q) : rd_W N d own cc nL ret pc ls (st) σ Q := by
  intro p l e R s m args below meth c g H locs L C hP hD hS hL
  exact lv_bipush C.1 C.2.1 hd hv (k p l e R s m args below meth c g H locs L C hP hD hS hL)
theorem rr_sipush {n : Int} {v : Int32} (hd : decode cc pc = .ok (.sipush n, 3)) (hv : (Int16.ofInt n).toInt32 = v) (k : rd_W N d own cc nL ret (pc + 3) ls (.int v :: st) σ Q) : rd_W N d own cc nL ret pc ls (st) σ Q := by
  intro p l e R s m args below meth c g H locs L C hP hD hS hL
  exact lv_sipush C.1 C.2.1 hd hv (k p l e R s m args below meth c g H locs L C hP hD hS hL)
theorem rr_lconst {n : Fin 2} {v : Int64} (hd : decode cc pc = .ok (.lconst n, 1)) (hv : Int64.ofNat (n : Nat) = v) (k : rd_W N d own cc nL ret (pc + 1) ls (.long v :: st) σ Q) : rd_W N d own cc nL ret pc ls (st) σ Q := by
  intro p l e R s m args below meth c g H locs L C hP hD hS hL
  exact lv_lconst C.1 C.2.1 hd hv (k p l e R s m args below meth c g H locs L C hP hD hS hL)
theorem rr_ldc {index : Nat} {v : Int32} (hd : decode cc pc = .ok (.ldc index, 2)) (hc : Cond.constant own index v ∈ rd_gt) (k : rd_W N d own cc nL ret (pc + 2) ls (.int v :: st) σ Q) : rd_W N d own cc nL ret pc ls st σ Q := by
  intro p l e R s m args below meth c g H locs L C hP hD hS hL
  exact lv_ldc C.1 C.2.1 C.2.2.2.2.2.1 (C.2.2.2.2.2.2.1 _ hc) hd (k p l e R s m args below meth c g H locs L C hP hD hS hL)
theorem rr_ldcw {index : Nat} {v : Int32} (hd : decode cc pc = .ok (.ldc_w index, 3)) (hc : Cond.constant own index v ∈ rd_gt) (k : rd_W N d own cc nL ret (pc + 3) ls (.int v :: st) σ Q) : rd_W N d own cc nL ret pc ls st σ Q := by
  intro p l e R s m args below meth c g H locs L C hP hD hS hL
  exact lv_ldcw C.1 C.2.1 C.2.2.2.2.2.1 (C.2.2.2.2.2.2.1 _ hc) hd (k p l e R s m args below meth c g H locs L C hP hD hS hL)
theorem rr_ldc2 {index : Nat} {v : Int64} (hd : decode cc pc = .ok (.ldc2_w index, 3)) (hc : Cond.constantLong own index v ∈ rd_gt) (k : rd_W N d own cc nL ret (pc + 3) ls (.long v :: st) σ Q) : rd_W N d own cc nL ret pc ls st σ Q := by
  intro p l e R s m args below meth c g H locs L C hP hD hS hL
  exact lv_ldc2 C.1 C.2.1 C.2.2.2.2.2.1 (C.2.2.2.2.2.2.1 _ hc) hd (k p l e R s m args below meth c g H locs L C hP hD hS hL)
theorem rr_iload_0 {x : Int32} {r : List Value} (hd : decode cc pc = .ok (.iload 0, 2)) (k : rd_W N d own cc nL ret (pc + 2) (.int x :: r) (.int x :: st) σ Q) : rd_W N d own cc nL ret pc (.int x :: r) st σ Q := by
  intro p l e R s m args below meth c g H locs L C hP hD hS hL
  exact lv_iload C.1 C.2.1 hd  (hL.2.2.2 0 (.int x) rfl (fun h => by cases h)) (k p l e R s m args below meth c g H locs L C hP hD hS hL)
theorem rr_iloadn_0 {x : Int32} {r : List Value} (hd : decode cc pc = .ok (.iload_n 0, 1)) (k : rd_W N d own cc nL ret (pc + 1) (.int x :: r) (.int x :: st) σ Q) : rd_W N d own cc nL ret pc (.int x :: r) st σ Q := by
  intro p l e R s m args below meth c g H locs L C hP hD hS hL
  exact lv_iload_n C.1 C.2.1 hd rfl (hL.2.2.2 0 (.int x) rfl (fun h => by cases h)) (k p l e R s m args below meth c g H locs L C hP hD hS hL)
theorem rr_istore_0 {w : Value} {x : Int32} {r : List Value} (hd : decode cc pc = .ok (.istore 0, 2)) (hok : rd_ok1 (w :: r) 0 = true) (k : rd_W N d own cc nL ret (pc + 2) (.int x :: r) st σ Q) : rd_W N d own cc nL ret pc (w :: r) (.int x :: st) σ Q := by
  intro p l e R s m args below meth c g H locs L C hP hD hS hL
  have hi : 0 < nL := by rw [← hL.2.2.1]; simp <;> omega
  exact lv_istore C.1 C.2.1 hd  (rd_L_has hL) hi rfl (fun L' h' => k p l e R s m args below meth c g H locs L' C hP hD hS (rd_L_store (v := .int x) hL hi hok h'))
theorem rr_istoren_0 {w : Value} {x : Int32} {r : List Value} (hd : decode cc pc = .ok (.istore_n 0, 1)) (hok : rd_ok1 (w :: r) 0 = true) (k : rd_W N d own cc nL ret (pc + 1) (.int x :: r) st σ Q) : rd_W N d own cc nL ret pc (w :: r) (.int x :: st) σ Q := by
  intro p l e R s m args below meth c g H locs L C hP hD hS hL
  have hi : 0 < nL := by rw [← hL.2.2.1]; simp <;> omega
  exact lv_istore_n C.1 C.2.1 hd rfl (rd_L_has hL) hi rfl (fun L' h' => k p l e R s m args below meth c g H locs L' C hP hD hS (rd_L_store (v := .int x) hL hi hok h'))
theorem rr_lload_0 {x : Int64} {r : List Value} (hd : decode cc pc = .ok (.lload 0, 2)) (k : rd_W N d own cc nL ret (pc + 2) (.long x :: r) (.long x :: st) σ Q) : rd_W N d own cc nL ret pc (.long x :: r) st σ Q := by
  intro p l e R s m args below meth c g H locs L C hP hD hS hL
  exact lv_lload C.1 C.2.1 hd  (hL.2.2.2 0 (.long x) rfl (fun h => by cases h)) (k p l e R s m args below meth c g H locs L C hP hD hS hL)
theorem rr_lloadn_0 {x : Int64} {r : List Value} (hd : decode cc pc = .ok (.lload_n 0, 1)) (k : rd_W N d own cc nL ret (pc + 1) (.long x :: r) (.long x :: st) σ Q) : rd_W N d own cc nL ret pc (.long x :: r) st σ Q := by
  intro p l e R s m args below meth c g H locs L C hP hD hS hL
  exact lv_lload_n C.1 C.2.1 hd rfl (hL.2.2.2 0 (.long x) rfl (fun h => by cases h)) (k p l e R s m args below meth c g H locs L C hP hD hS hL)
theorem rr_aload_0 {x : Nat} {r : List Value} (hd : decode cc pc = .ok (.aload 0, 2)) (k : rd_W N d own cc nL ret (pc + 2) (.ref x :: r) (.ref x :: st) σ Q) : rd_W N d own cc nL ret pc (.ref x :: r) st σ Q := by
  intro p l e R s m args below meth c g H locs L C hP hD hS hL
  exact lv_aload C.1 C.2.1 hd  (hL.2.2.2 0 (.ref x) rfl (fun h => by cases h)) (k p l e R s m args below meth c g H locs L C hP hD hS hL)
theorem rr_aloadn_0 {x : Nat} {r : List Value} (hd : decode cc pc = .ok (.aload_n 0, 1)) (k : rd_W N d own cc nL ret (pc + 1) (.ref x :: r) (.ref x :: st) σ Q) : rd_W N d own cc nL ret pc (.ref x :: r) st σ Q := by
  intro p l e R s m args below meth c g H locs L C hP hD hS hL
  exact lv_aload_n C.1 C.2.1 hd rfl (hL.2.2.2 0 (.ref x) rfl (fun h => by cases h)) (k p l e R s m args below meth c g H locs L C hP hD hS hL)
theorem rr_astore_0 {w : Value} {x : Nat} {r : List Value} (hd : decode cc pc = .ok (.astore 0, 2)) (hok : rd_ok1 (w :: r) 0 = true) (k : rd_W N d own cc nL ret (pc + 2) (.ref x :: r) st σ Q) : rd_W N d own cc nL ret pc (w :: r) (.ref x :: st) σ Q := by
  intro p l e R s m args below meth c g H locs L C hP hD hS hL
  have hi : 0 < nL := by rw [← hL.2.2.1]; simp <;> omega
  exact lv_astore C.1 C.2.1 hd  (rd_L_has hL) hi rfl (fun L' h' => k p l e R s m args below meth c g H locs L' C hP hD hS (rd_L_store (v := .ref x) hL hi hok h'))
theorem rr_astoren_0 {w : Value} {x : Nat} {r : List Value} (hd : decode cc pc = .ok (.astore_n 0, 1)) (hok : rd_ok1 (w :: r) 0 = true) (k : rd_W N d own cc nL ret (pc + 1) (.ref x :: r) st σ Q) : rd_W N d own cc nL ret pc (w :: r) (.ref x :: st) σ Q := by
  intro p l e R s m args below meth c g H locs L C hP hD hS hL
  have hi : 0 < nL := by rw [← hL.2.2.1]; simp <;> omega
  exact lv_astore_n C.1 C.2.1 hd rfl (rd_L_has hL) hi rfl (fun L' h' => k p l e R s m args below meth c g H locs L' C hP hD hS (rd_L_store (v := .ref x) hL hi hok h'))
theorem rr_iinc_0 {x : Int32} {n : Int} (v : Int32) {r : List Value} (hd : decode cc pc = .ok (.iinc 0 n, 3)) (hv : Int32.ofInt n = v) (hok : rd_ok1 (.int x :: r) 0 = true) (k : rd_W N d own cc nL ret (pc + 3) (.int (x + v) :: r) st σ Q) : rd_W N d own cc nL ret pc (.int x :: r) st σ Q := by
  intro p l e R s m args below meth c g H locs L C hP hD hS hL
  have hi : 0 < nL := by rw [← hL.2.2.1]; simp <;> omega
  subst hv
  obtain ⟨q, hq⟩ := List.getElem?_of_mem (rd_lv_mem (ad := g.2.1) (ls := .int x :: r) (i := 0) (v := .int x) rfl (fun h => by cases h))
  exact lv_iinc C.1 C.2.1 hd (rd_L_has hL) hq rfl hi rfl (fun L' h' => k p l e R s m args below meth c g H locs L' C hP hD hS (rd_L_store (v := .int (x + Int32.ofInt n)) hL hi hok h'))
theorem rr_lstore_0 {w w2 : Value} {x : Int64} {r : List Value} (hd : decode cc pc = .ok (.lstore 0, 2)) (hok : rd_ok1 (w :: w2 :: r) 0 = true) (k : rd_W N d own cc nL ret (pc + 2) (.long x :: .retAddr 0 :: r) st σ Q) : rd_W N d own cc nL ret pc (w :: w2 :: r) (.long x :: st) σ Q := by
  intro p l e R s m args below meth c g H locs L C hP hD hS hL
  have hi : 0 + 1 < nL := by rw [← hL.2.2.1]; simp <;> omega
  exact lv_lstore C.1 C.2.1 hd  (rd_L_has hL) hi rfl (fun L' h' => k p l e R s m args below meth c g H locs L' C hP hD hS (rd_L_store2 (v := .long x) hL hi hok h'))
theorem rr_lstoren_0 {w w2 : Value} {x : Int64} {r : List Value} (hd : decode cc pc = .ok (.lstore_n 0, 1)) (hok : rd_ok1 (w :: w2 :: r) 0 = true) (k : rd_W N d own cc nL ret (pc + 1) (.long x :: .retAddr 0 :: r) st σ Q) : rd_W N d own cc nL ret pc (w :: w2 :: r) (.long x :: st) σ Q := by
  intro p l e R s m args below meth c g H locs L C hP hD hS hL
  have hi : 0 + 1 < nL := by rw [← hL.2.2.1]; simp <;> omega
  exact lv_lstore_n C.1 C.2.1 hd rfl (rd_L_has hL) hi rfl (fun L' h' => k p l e R s m args below meth c g H locs L' C hP hD hS (rd_L_store2 (v := .long x) hL hi hok h'))
theorem rr_iload_1 {a0 : Value} {x : Int32} {r : List Value} (hd : decode cc pc = .ok (.iload 1, 2)) (k : rd_W N d own cc nL ret (pc + 2) (a0 :: .int x :: r) (.int x :: st) σ Q) : rd_W N d own cc nL ret pc (a0 :: .int x :: r) st σ Q := by
  intro p l e R s m args below meth c g H locs L C hP hD hS hL
  exact lv_iload C.1 C.2.1 hd  (hL.2.2.2 1 (.int x) rfl (fun h => by cases h)) (k p l e R s m args below meth c g H locs L C hP hD hS hL)
theorem rr_iloadn_1 {a0 : Value} {x : Int32} {r : List Value} (hd : decode cc pc = .ok (.iload_n 1, 1)) (k : rd_W N d own cc nL ret (pc + 1) (a0 :: .int x :: r) (.int x :: st) σ Q) : rd_W N d own cc nL ret pc (a0 :: .int x :: r) st σ Q := by
  intro p l e R s m args below meth c g H locs L C hP hD hS hL
  exact lv_iload_n C.1 C.2.1 hd rfl (hL.2.2.2 1 (.int x) rfl (fun h => by cases h)) (k p l e R s m args below meth c g H locs L C hP hD hS hL)
theorem rr_istore_1 {a0 : Value} {w : Value} {x : Int32} {r : List Value} (hd : decode cc pc = .ok (.istore 1, 2)) (hok : rd_ok1 (a0 :: w :: r) 1 = true) (k : rd_W N d own cc nL ret (pc + 2) (a0 :: .int x :: r) st σ Q) : rd_W N d own cc nL ret pc (a0 :: w :: r) (.int x :: st) σ Q := by
  intro p l e R s m args below meth c g H locs L C hP hD hS hL
  have hi : 1 < nL := by rw [← hL.2.2.1]; simp <;> omega
  exact lv_istore C.1 C.2.1 hd  (rd_L_has hL) hi rfl (fun L' h' => k p l e R s m args below meth c g H locs L' C hP hD hS (rd_L_store (v := .int x) hL hi hok h'))
theorem rr_istoren_1 {a0 : Value} {w : Value} {x : Int32} {r : List Value} (hd : decode cc pc = .ok (.istore_n 1, 1)) (hok : rd_ok1 (a0 :: w :: r) 1 = true) (k : rd_W N d own cc nL ret (pc + 1) (a0 :: .int x :: r) st σ Q) : rd_W N d own cc nL ret pc (a0 :: w :: r) (.int x :: st) σ Q := by
  intro p l e R s m args below meth c g H locs L C hP hD hS hL
  have hi : 1 < nL := by rw [← hL.2.2.1]; simp <;> omega
  exact lv_istore_n C.1 C.2.1 hd rfl (rd_L_has hL) hi rfl (fun L' h' => k p l e R s m args below meth c g H locs L' C hP hD hS (rd_L_store (v := .int x) hL hi hok h'))
theorem rr_lload_1 {a0 : Value} {x : Int64} {r : List Value} (hd : decode cc pc = .ok (.lload 1, 2)) (k : rd_W N d own cc nL ret (pc + 2) (a0 :: .long x :: r) (.long x :: st) σ Q) : rd_W N d own cc nL ret pc (a0 :: .long x :: r) st σ Q := by
  intro p l e R s m args below meth c g H locs L C hP hD hS hL
  exact lv_lload C.1 C.2.1 hd  (hL.2.2.2 1 (.long x) rfl (fun h => by cases h)) (k p l e R s m args below meth c g H locs L C hP hD hS hL)
theorem rr_lloadn_1 {a0 : Value} {x : Int64} {r : List Value} (hd : decode cc pc = .ok (.lload_n 1, 1)) (k : rd_W N d own cc nL ret (pc + 1) (a0 :: .long x :: r) (.long x :: st) σ Q) : rd_W N d own cc nL ret pc (a0 :: .long x :: r) st σ Q := by
  intro p l e R s m args below meth c g H locs L C hP hD hS hL
  exact lv_lload_n C.1 C.2.1 hd rfl (hL.2.2.2 1 (.long x) rfl (fun h => by cases h)) (k p l e R s m args below meth c g H locs L C hP hD hS hL)
theorem rr_aload_1 {a0 : Value} {x : Nat} {r : List Value} (hd : decode cc pc = .ok (.aload 1, 2)) (k : rd_W N d own cc nL ret (pc + 2) (a0 :: .ref x :: r) (.ref x :: st) σ Q) : rd_W N d own cc nL ret pc (a0 :: .ref x :: r) st σ Q := by
  intro p l e R s m args below meth c g H locs L C hP hD hS hL
  exact lv_aload C.1 C.2.1 hd  (hL.2.2.2 1 (.ref x) rfl (fun h => by cases h)) (k p l e R s m args below meth c g H locs L C hP hD hS hL)
theorem rr_aloadn_1 {a0 : Value} {x : Nat} {r : List Value} (hd : decode cc pc = .ok (.aload_n 1, 1)) (k : rd_W N d own cc nL ret (pc + 1) (a0 :: .ref x :: r) (.ref x :: st) σ Q) : rd_W N d own cc nL ret pc (a0 :: .ref x :: r) st σ Q := by
  intro p l e R s m args below meth c g H locs L C hP hD hS hL
  exact lv_aload_n C.1 C.2.1 hd rfl (hL.2.2.2 1 (.ref x) rfl (fun h => by cases h)) (k p l e R s m args below meth c g H locs L C hP hD hS hL)
theorem rr_astore_1 {a0 : Value} {w : Value} {x : Nat} {r : List Value} (hd : decode cc pc = .ok (.astore 1, 2)) (hok : rd_ok1 (a0 :: w :: r) 1 = true) (k : rd_W N d own cc nL ret (pc + 2) (a0 :: .ref x :: r) st σ Q) : rd_W N d own cc nL ret pc (a0 :: w :: r) (.ref x :: st) σ Q := by
  intro p l e R s m args below meth c g H locs L C hP hD hS hL
  have hi : 1 < nL := by rw [← hL.2.2.1]; simp <;> omega
  exact lv_astore C.1 C.2.1 hd  (rd_L_has hL) hi rfl (fun L' h' => k p l e R s m args below meth c g H locs L' C hP hD hS (rd_L_store (v := .ref x) hL hi hok h'))
theorem rr_astoren_1 {a0 : Value} {w : Value} {x : Nat} {r : List Value} (hd : decode cc pc = .ok (.astore_n 1, 1)) (hok : rd_ok1 (a0 :: w :: r) 1 = true) (k : rd_W N d own cc nL ret (pc + 1) (a0 :: .ref x :: r) st σ Q) : rd_W N d own cc nL ret pc (a0 :: w :: r) (.ref x :: st) σ Q := by
  intro p l e R s m args below meth c g H locs L C hP hD hS hL
  have hi : 1 < nL := by rw [← hL.2.2.1]; simp <;> omega
  exact lv_astore_n C.1 C.2.1 hd rfl (rd_L_has hL) hi rfl (fun L' h' => k p l e R s m args below meth c g H locs L' C hP hD hS (rd_L_store (v := .ref x) hL hi hok h'))
theorem rr_iinc_1 {a0 : Value} {x : Int32} {n : Int} (v : Int32) {r : List Value} (hd : decode cc pc = .ok (.iinc 1 n, 3)) (hv : Int32.ofInt n = v) (hok : rd_ok1 (a0 :: .int x :: r) 1 = true) (k : rd_W N d own cc nL ret (pc + 3) (a0 :: .int (x + v) :: r) st σ Q) : rd_W N d own cc nL ret pc (a0 :: .int x :: r) st σ Q := by
  intro p l e R s m args below meth c g H locs L C hP hD hS hL
  have hi : 1 < nL := by rw [← hL.2.2.1]; simp <;> omega
  subst hv
  obtain ⟨q, hq⟩ := List.getElem?_of_mem (rd_lv_mem (ad := g.2.1) (ls := a0 :: .int x :: r) (i := 1) (v := .int x) rfl (fun h => by cases h))
  exact lv_iinc C.1 C.2.1 hd (rd_L_has hL) hq rfl hi rfl (fun L' h' => k p l e R s m args below meth c g H locs L' C hP hD hS (rd_L_store (v := .int (x + Int32.ofInt n)) hL hi hok h'))
theorem rr_lstore_1 {a0 : Value} {w w2 : Value} {x : Int64} {r : List Value} (hd : decode cc pc = .ok (.lstore 1, 2)) (hok : rd_ok1 (a0 :: w :: w2 :: r) 1 = true) (k : rd_W N d own cc nL ret (pc + 2) (a0 :: .long x :: .retAddr 0 :: r) st σ Q) : rd_W N d own cc nL ret pc (a0 :: w :: w2 :: r) (.long x :: st) σ Q := by
  intro p l e R s m args below meth c g H locs L C hP hD hS hL
  have hi : 1 + 1 < nL := by rw [← hL.2.2.1]; simp <;> omega
  exact lv_lstore C.1 C.2.1 hd  (rd_L_has hL) hi rfl (fun L' h' => k p l e R s m args below meth c g H locs L' C hP hD hS (rd_L_store2 (v := .long x) hL hi hok h'))
theorem rr_lstoren_1 {a0 : Value} {w w2 : Value} {x : Int64} {r : List Value} (hd : decode cc pc = .ok (.lstore_n 1, 1)) (hok : rd_ok1 (a0 :: w :: w2 :: r) 1 = true) (k : rd_W N d own cc nL ret (pc + 1) (a0 :: .long x :: .retAddr 0 :: r) st σ Q) : rd_W N d own cc nL ret pc (a0 :: w :: w2 :: r) (.long x :: st) σ Q := by
  intro p l e R s m args below meth c g H locs L C hP hD hS hL
  have hi : 1 + 1 < nL := by rw [← hL.2.2.1]; simp <;> omega
  exact lv_lstore_n C.1 C.2.1 hd rfl (rd_L_has hL) hi rfl (fun L' h' => k p l e R s m args below meth c g H locs L' C hP hD hS (rd_L_store2 (v := .long x) hL hi hok h'))
theorem rr_iload_2 {a0 a1 : Value} {x : Int32} {r : List Value} (hd : decode cc pc = .ok (.iload 2, 2)) (k : rd_W N d own cc nL ret (pc + 2) (a0 :: a1 :: .int x :: r) (.int x :: st) σ Q) : rd_W N d own cc nL ret pc (a0 :: a1 :: .int x :: r) st σ Q := by
  intro p l e R s m args below meth c g H locs L C hP hD hS hL
  exact lv_iload C.1 C.2.1 hd  (hL.2.2.2 2 (.int x) rfl (fun h => by cases h)) (k p l e R s m args below meth c g H locs L C hP hD hS hL)
theorem rr_iloadn_2 {a0 a1 : Value} {x : Int32} {r : List Value} (hd : decode cc pc = .ok (.iload_n 2, 1)) (k : rd_W N d own cc nL ret (pc + 1) (a0 :: a1 :: .int x :: r) (.int x :: st) σ Q) : rd_W N d own cc nL ret pc (a0 :: a1 :: .int x :: r) st σ Q := by
  intro p l e R s m args below meth c g H locs L C hP hD hS hL
  exact lv_iload_n C.1 C.2.1 hd rfl (hL.2.2.2 2 (.int x) rfl (fun h => by cases h)) (k p l e R s m args below meth c g H locs L C hP hD hS hL)
theorem rr_istore_2 {a0 a1 : Value} {w : Value} {x : Int32} {r : List Value} (hd : decode cc pc = .ok (.istore 2, 2)) (hok : rd_ok1 (a0 :: a1 :: w :: r) 2 = true) (k : rd_W N d own cc nL ret (pc + 2) (a0 :: a1 :: .int x :: r) st σ Q) : rd_W N d own cc nL ret pc (a0 :: a1 :: w :: r) (.int x :: st) σ Q := by
  intro p l e R s m args below meth c g H locs L C hP hD hS hL
  have hi : 2 < nL := by rw [← hL.2.2.1]; simp <;> omega
  exact lv_istore C.1 C.2.1 hd  (rd_L_has hL) hi rfl (fun L' h' => k p l e R s m args below meth c g H locs L' C hP hD hS (rd_L_store (v := .int x) hL hi hok h'))
theorem rr_istoren_2 {a0 a1 : Value} {w : Value} {x : Int32} {r : List Value} (hd : decode cc pc = .ok (.istore_n 2, 1)) (hok : rd_ok1 (a0 :: a1 :: w :: r) 2 = true) (k : rd_W N d own cc nL ret (pc + 1) (a0 :: a1 :: .int x :: r) st σ Q) : rd_W N d own cc nL ret pc (a0 :: a1 :: w :: r) (.int x :: st) σ Q := by
  intro p l e R s m args below meth c g H locs L C hP hD hS hL
  have hi : 2 < nL := by rw [← hL.2.2.1]; simp <;> omega
  exact lv_istore_n C.1 C.2.1 hd rfl (rd_L_has hL) hi rfl (fun L' h' => k p l e R s m args below meth c g H locs L' C hP hD hS (rd_L_store (v := .int x) hL hi hok h'))
theorem rr_lload_2 {a0 a1 : Value} {x : Int64} {r : List Value} (hd : decode cc pc = .ok (.lload 2, 2)) (k : rd_W N d own cc nL ret (pc + 2) (a0 :: a1 :: .long x :: r) (.long x :: st) σ Q) : rd_W N d own cc nL ret pc (a0 :: a1 :: .long x :: r) st σ Q := by
  intro p l e R s m args below meth c g H locs L C hP hD hS hL
  exact lv_lload C.1 C.2.1 hd  (hL.2.2.2 2 (.long x) rfl (fun h => by cases h)) (k p l e R s m args below meth c g H locs L C hP hD hS hL)
theorem rr_lloadn_2 {a0 a1 : Value} {x : Int64} {r : List Value} (hd : decode cc pc = .ok (.lload_n 2, 1)) (k : rd_W N d own cc nL ret (pc + 1) (a0 :: a1 :: .long x :: r) (.long x :: st) σ Q) : rd_W N d own cc nL ret pc (a0 :: a1 :: .long x :: r) st σ Q := by
  intro p l e R s m args below meth c g H locs L C hP hD hS hL
  exact lv_lload_n C.1 C.2.1 hd rfl (hL.2.2.2 2 (.long x) rfl (fun h => by cases h)) (k p l e R s m args below meth c g H locs L C hP hD hS hL)
theorem rr_aload_2 {a0 a1 : Value} {x : Nat} {r : List Value} (hd : decode cc pc = .ok (.aload 2, 2)) (k : rd_W N d own cc nL ret (pc + 2) (a0 :: a1 :: .ref x :: r) (.ref x :: st) σ Q) : rd_W N d own cc nL ret pc (a0 :: a1 :: .ref x :: r) st σ Q := by
  intro p l e R s m args below meth c g H locs L C hP hD hS hL
  exact lv_aload C.1 C.2.1 hd  (hL.2.2.2 2 (.ref x) rfl (fun h => by cases h)) (k p l e R s m args below meth c g H locs L C hP hD hS hL)
theorem rr_aloadn_2 {a0 a1 : Value} {x : Nat} {r : List Value} (hd : decode cc pc = .ok (.aload_n 2, 1)) (k : rd_W N d own cc nL ret (pc + 1) (a0 :: a1 :: .ref x :: r) (.ref x :: st) σ Q) : rd_W N d own cc nL ret pc (a0 :: a1 :: .ref x :: r) st σ Q := by
  intro p l e R s m args below meth c g H locs L C hP hD hS hL
  exact lv_aload_n C.1 C.2.1 hd rfl (hL.2.2.2 2 (.ref x) rfl (fun h => by cases h)) (k p l e R s m args below meth c g H locs L C hP hD hS hL)
theorem rr_astore_2 {a0 a1 : Value} {w : Value} {x : Nat} {r : List Value} (hd : decode cc pc = .ok (.astore 2, 2)) (hok : rd_ok1 (a0 :: a1 :: w :: r) 2 = true) (k : rd_W N d own cc nL ret (pc + 2) (a0 :: a1 :: .ref x :: r) st σ Q) : rd_W N d own cc nL ret pc (a0 :: a1 :: w :: r) (.ref x :: st) σ Q := by
  intro p l e R s m args below meth c g H locs L C hP hD hS hL
  have hi : 2 < nL := by rw [← hL.2.2.1]; simp <;> omega
  exact lv_astore C.1 C.2.1 hd  (rd_L_has hL) hi rfl (fun L' h' => k p l e R s m args below meth c g H locs L' C hP hD hS (rd_L_store (v := .ref x) hL hi hok h'))
theorem rr_astoren_2 {a0 a1 : Value} {w : Value} {x : Nat} {r : List Value} (hd : decode cc pc = .ok (.astore_n 2, 1)) (hok : rd_ok1 (a0 :: a1 :: w :: r) 2 = true) (k : rd_W N d own cc nL ret (pc + 1) (a0 :: a1 :: .ref x :: r) st σ Q) : rd_W N d own cc nL ret pc (a0 :: a1 :: w :: r) (.ref x :: st) σ Q := by
  intro p l e R s m args below meth c g H locs L C hP hD hS hL
  have hi : 2 < nL := by rw [← hL.2.2.1]; simp <;> omega
  exact lv_astore_n C.1 C.2.1 hd rfl (rd_L_has hL) hi rfl (fun L' h' => k p l e R s m args below meth c g H locs L' C hP hD hS (rd_L_store (v := .ref x) hL hi hok h'))
theorem rr_iinc_2 {a0 a1 : Value} {x : Int32} {n : Int} (v : Int32) {r : List Value} (hd : decode cc pc = .ok (.iinc 2 n, 3)) (hv : Int32.ofInt n = v) (hok : rd_ok1 (a0 :: a1 :: .int x :: r) 2 = true) (k : rd_W N d own cc nL ret (pc + 3) (a0 :: a1 :: .int (x + v) :: r) st σ Q) : rd_W N d own cc nL ret pc (a0 :: a1 :: .int x :: r) st σ Q := by
  intro p l e R s m args below meth c g H locs L C hP hD hS hL
  have hi : 2 < nL := by rw [← hL.2.2.1]; simp <;> omega
  subst hv
  obtain ⟨q, hq⟩ := List.getElem?_of_mem (rd_lv_mem (ad := g.2.1) (ls := a0 :: a1 :: .int x :: r) (i := 2) (v := .int x) rfl (fun h => by cases h))
  exact lv_iinc C.1 C.2.1 hd (rd_L_has hL) hq rfl hi rfl (fun L' h' => k p l e R s m args below meth c g H locs L' C hP hD hS (rd_L_store (v := .int (x + Int32.ofInt n)) hL hi hok h'))
theorem rr_lstore_2 {a0 a1 : Value} {w w2 : Value} {x : Int64} {r : List Value} (hd : decode cc pc = .ok (.lstore 2, 2)) (hok : rd_ok1 (a0 :: a1 :: w :: w2 :: r) 2 = true) (k : rd_W N d own cc nL ret (pc + 2) (a0 :: a1 :: .long x :: .retAddr 0 :: r) st σ Q) : rd_W N d own cc nL ret pc (a0 :: a1 :: w :: w2 :: r) (.long x :: st) σ Q := by
  intro p l e R s m args below meth c g H locs L C hP hD hS hL
  have hi : 2 + 1 < nL := by rw [← hL.2.2.1]; simp <;> omega
  exact lv_lstore C.1 C.2.1 hd  (rd_L_has hL) hi rfl (fun L' h' => k p l e R s m args below meth c g H locs L' C hP hD hS (rd_L_store2 (v := .long x) hL hi hok h'))
theorem rr_lstoren_2 {a0 a1 : Value} {w w2 : Value} {x : Int64} {r : List Value} (hd : decode cc pc = .ok (.lstore_n 2, 1)) (hok : rd_ok1 (a0 :: a1 :: w :: w2 :: r) 2 = true) (k : rd_W N d own cc nL ret (pc + 1) (a0 :: a1 :: .long x :: .retAddr 0 :: r) st σ Q) : rd_W N d own cc nL ret pc (a0 :: a1 :: w :: w2 :: r) (.long x :: st) σ Q := by
  intro p l e R s m args below meth c g H locs L C hP hD hS hL
  have hi : 2 + 1 < nL := by rw [← hL.2.2.1]; simp <;> omega
  exact lv_lstore_n C.1 C.2.1 hd rfl (rd_L_has hL) hi rfl (fun L' h' => k p l e R s m args below meth c g H locs L' C hP hD hS (rd_L_store2 (v := .long x) hL hi hok h'))
theorem rr_iload_3 {a0 a1 a2 : Value} {x : Int32} {r : List Value} (hd : decode cc pc = .ok (.iload 3, 2)) (k : rd_W N d own cc nL ret (pc + 2) (a0 :: a1 :: a2 :: .int x :: r) (.int x :: st) σ Q) : rd_W N d own cc nL ret pc (a0 :: a1 :: a2 :: .int x :: r) st σ Q := by
  intro p l e R s m args below meth c g H locs L C hP hD hS hL
  exact lv_iload C.1 C.2.1 hd  (hL.2.2.2 3 (.int x) rfl (fun h => by cases h)) (k p l e R s m args below meth c g H locs L C hP hD hS hL)
theorem rr_iloadn_3 {a0 a1 a2 : Value} {x : Int32} {r : List Value} (hd : decode cc pc = .ok (.iload_n 3, 1)) (k : rd_W N d own cc nL ret (pc + 1) (a0 :: a1 :: a2 :: .int x :: r) (.int x :: st) σ Q) : rd_W N d own cc nL ret pc (a0 :: a1 :: a2 :: .int x :: r) st σ Q := by
  intro p l e R s m args below meth c g H locs L C hP hD hS hL
  exact lv_iload_n C.1 C.2.1 hd rfl (hL.2.2.2 3 (.int x) rfl (fun h => by cases h)) (k p l e R s m args below meth c g H locs L C hP hD hS hL)
theorem rr_istore_3 {a0 a1 a2 : Value} {w : Value} {x : Int32} {r : List Value} (hd : decode cc pc = .ok (.istore 3, 2)) (hok : rd_ok1 (a0 :: a1 :: a2 :: w :: r) 3 = true) (k : rd_W N d own cc nL ret (pc + 2) (a0 :: a1 :: a2 :: .int x :: r) st σ Q) : rd_W N d own cc nL ret pc (a0 :: a1 :: a2 :: w :: r) (.int x :: st) σ Q := by
  intro p l e R s m args below meth c g H locs L C hP hD hS hL
  have hi : 3 < nL := by rw [← hL.2.2.1]; simp <;> omega
  exact lv_istore C.1 C.2.1 hd  (rd_L_has hL) hi rfl (fun L' h' => k p l e R s m args below meth c g H locs L' C hP hD hS (rd_L_store (v := .int x) hL hi hok h'))
theorem rr_istoren_3 {a0 a1 a2 : Value} {w : Value} {x : Int32} {r : List Value} (hd : decode cc pc = .ok (.istore_n 3, 1)) (hok : rd_ok1 (a0 :: a1 :: a2 :: w :: r) 3 = true) (k : rd_W N d own cc nL ret (pc + 1) (a0 :: a1 :: a2 :: .int x :: r) st σ Q) : rd_W N d own cc nL ret pc (a0 :: a1 :: a2 :: w :: r) (.int x :: st) σ Q := by
  intro p l e R s m args below meth c g H locs L C hP hD hS hL
  have hi : 3 < nL := by rw [← hL.2.2.1]; simp <;> omega
  exact lv_istore_n C.1 C.2.1 hd rfl (rd_L_has hL) hi rfl (fun L' h' => k p l e R s m args below meth c g H locs L' C hP hD hS (rd_L_store (v := .int x) hL hi hok h'))
theorem rr_lload_3 {a0 a1 a2 : Value} {x : Int64} {r : List Value} (hd : decode cc pc = .ok (.lload 3, 2)) (k : rd_W N d own cc nL ret (pc + 2) (a0 :: a1 :: a2 :: .long x :: r) (.long x :: st) σ Q) : rd_W N d own cc nL ret pc (a0 :: a1 :: a2 :: .long x :: r) st σ Q := by
  intro p l e R s m args below meth c g H locs L C hP hD hS hL
  exact lv_lload C.1 C.2.1 hd  (hL.2.2.2 3 (.long x) rfl (fun h => by cases h)) (k p l e R s m args below meth c g H locs L C hP hD hS hL)
theorem rr_lloadn_3 {a0 a1 a2 : Value} {x : Int64} {r : List Value} (hd : decode cc pc = .ok (.lload_n 3, 1)) (k : rd_W N d own cc nL ret (pc + 1) (a0 :: a1 :: a2 :: .long x :: r) (.long x :: st) σ Q) : rd_W N d own cc nL ret pc (a0 :: a1 :: a2 :: .long x :: r) st σ Q := by
  intro p l e R s m args below meth c g H locs L C hP hD hS hL
  exact lv_lload_n C.1 C.2.1 hd rfl (hL.2.2.2 3 (.long x) rfl (fun h => by cases h)) (k p l e R s m args below meth c g H locs L C hP hD hS hL)
theorem rr_aload_3 {a0 a1 a2 : Value} {x : Nat} {r : List Value} (hd : decode cc pc = .ok (.aload 3, 2)) (k : rd_W N d own cc nL ret (pc + 2) (a0 :: a1 :: a2 :: .ref x :: r) (.ref x :: st) σ Q) : rd_W N d own cc nL ret pc (a0 :: a1 :: a2 :: .ref x :: r) st σ Q := by
  intro p l e R s m args below meth c g H locs L C hP hD hS hL
  exact lv_aload C.1 C.2.1 hd  (hL.2.2.2 3 (.ref x) rfl (fun h => by cases h)) (k p l e R s m args below meth c g H locs L C hP hD hS hL)
theorem rr_aloadn_3 {a0 a1 a2 : Value} {x : Nat} {r : List Value} (hd : decode cc pc = .ok (.aload_n 3, 1)) (k : rd_W N d own cc nL ret (pc + 1) (a0 :: a1 :: a2 :: .ref x :: r) (.ref x :: st) σ Q) : rd_W N d own cc nL ret pc (a0 :: a1 :: a2 :: .ref x :: r) st σ Q := by
  intro p l e R s m args below meth c g H locs L C hP hD hS hL
  exact lv_aload_n C.1 C.2.1 hd rfl (hL.2.2.2 3 (.ref x) rfl (fun h => by cases h)) (k p l e R s m args below meth c g H locs L C hP hD hS hL)
theorem rr_astore_3 {a0 a1 a2 : Value} {w : Value} {x : Nat} {r : List Value} (hd : decode cc pc = .ok (.astore 3, 2)) (hok : rd_ok1 (a0 :: a1 :: a2 :: w :: r) 3 = true) (k : rd_W N d own cc nL ret (pc + 2) (a0 :: a1 :: a2 :: .ref x :: r) st σ Q) : rd_W N d own cc nL ret pc (a0 :: a1 :: a2 :: w :: r) (.ref x :: st) σ Q := by
  intro p l e R s m args below meth c g H locs L C hP hD hS hL
  have hi : 3 < nL := by rw [← hL.2.2.1]; simp <;> omega
  exact lv_astore C.1 C.2.1 hd  (rd_L_has hL) hi rfl (fun L' h' => k p l e R s m args below meth c g H locs L' C hP hD hS (rd_L_store (v := .ref x) hL hi hok h'))
theorem rr_astoren_3 {a0 a1 a2 : Value} {w : Value} {x : Nat} {r : List Value} (hd : decode cc pc = .ok (.astore_n 3, 1)) (hok : rd_ok1 (a0 :: a1 :: a2 :: w :: r) 3 = true) (k : rd_W N d own cc nL ret (pc + 1) (a0 :: a1 :: a2 :: .ref x :: r) st σ Q) : rd_W N d own cc nL ret pc (a0 :: a1 :: a2 :: w :: r) (.ref x :: st) σ Q := by
  intro p l e R s m args below meth c g H locs L C hP hD hS hL
  have hi : 3 < nL := by rw [← hL.2.2.1]; simp <;> omega
  exact lv_astore_n C.1 C.2.1 hd rfl (rd_L_has hL) hi rfl (fun L' h' => k p l e R s m args below meth c g H locs L' C hP hD hS (rd_L_store (v := .ref x) hL hi hok h'))
theorem rr_iinc_3 {a0 a1 a2 : Value} {x : Int32} {n : Int} (v : Int32) {r : List Value} (hd : decode cc pc = .ok (.iinc 3 n, 3)) (hv : Int32.ofInt n = v) (hok : rd_ok1 (a0 :: a1 :: a2 :: .int x :: r) 3 = true) (k : rd_W N d own cc nL ret (pc + 3) (a0 :: a1 :: a2 :: .int (x + v) :: r) st σ Q) : rd_W N d own cc nL ret pc (a0 :: a1 :: a2 :: .int x :: r) st σ Q := by
  intro p l e R s m args below meth c g H locs L C hP hD hS hL
  have hi : 3 < nL := by rw [← hL.2.2.1]; simp <;> omega
  subst hv
  obtain ⟨q, hq⟩ := List.getElem?_of_mem (rd_lv_mem (ad := g.2.1) (ls := a0 :: a1 :: a2 :: .int x :: r) (i := 3) (v := .int x) rfl (fun h => by cases h))
  exact lv_iinc C.1 C.2.1 hd (rd_L_has hL) hq rfl hi rfl (fun L' h' => k p l e R s m args below meth c g H locs L' C hP hD hS (rd_L_store (v := .int (x + Int32.ofInt n)) hL hi hok h'))
theorem rr_lstore_3 {a0 a1 a2 : Value} {w w2 : Value} {x : Int64} {r : List Value} (hd : decode cc pc = .ok (.lstore 3, 2)) (hok : rd_ok1 (a0 :: a1 :: a2 :: w :: w2 :: r) 3 = true) (k : rd_W N d own cc nL ret (pc + 2) (a0 :: a1 :: a2 :: .long x :: .retAddr 0 :: r) st σ Q) : rd_W N d own cc nL ret pc (a0 :: a1 :: a2 :: w :: w2 :: r) (.long x :: st) σ Q := by
  intro p l e R s m args below meth c g H locs L C hP hD hS hL
  have hi : 3 + 1 < nL := by rw [← hL.2.2.1]; simp <;> omega
  exact lv_lstore C.1 C.2.1 hd  (rd_L_has hL) hi rfl (fun L' h' => k p l e R s m args below meth c g H locs L' C hP hD hS (rd_L_store2 (v := .long x) hL hi hok h'))
theorem rr_lstoren_3 {a0 a1 a2 : Value} {w w2 : Value} {x : Int64} {r : List Value} (hd : decode cc pc = .ok (.lstore_n 3, 1)) (hok : rd_ok1 (a0 :: a1 :: a2 :: w :: w2 :: r) 3 = true) (k : rd_W N d own cc nL ret (pc + 1) (a0 :: a1 :: a2 :: .long x :: .retAddr 0 :: r) st σ Q) : rd_W N d own cc nL ret pc (a0 :: a1 :: a2 :: w :: w2 :: r) (.long x :: st) σ Q := by
  intro p l e R s m args below meth c g H locs L C hP hD hS hL
  have hi : 3 + 1 < nL := by rw [← hL.2.2.1]; simp <;> omega
  exact lv_lstore_n C.1 C.2.1 hd rfl (rd_L_has hL) hi rfl (fun L' h' => k p l e R s m args below meth c g H locs L' C hP hD hS (rd_L_store2 (v := .long x) hL hi hok h'))
theorem rr_iload_4 {a0 a1 a2 a3 : Value} {x : Int32} {r : List Value} (hd : decode cc pc = .ok (.iload 4, 2)) (k : rd_W N d own cc nL ret (pc + 2) (a0 :: a1 :: a2 :: a3 :: .int x :: r) (.int x :: st) σ Q) : rd_W N d own cc nL ret pc (a0 :: a1 :: a2 :: a3 :: .int x :: r) st σ Q := by
  intro p l e R s m args below meth c g H locs L C hP hD hS hL
  exact lv_iload C.1 C.2.1 hd  (hL.2.2.2 4 (.int x) rfl (fun h => by cases h)) (k p l e R s m args below meth c g H locs L C hP hD hS hL)
theorem rr_istore_4 {a0 a1 a2 a3 : Value} {w : Value} {x : Int32} {r : List Value} (hd : decode cc pc = .ok (.istore 4, 2)) (hok : rd_ok1 (a0 :: a1 :: a2 :: a3 :: w :: r) 4 = true) (k : rd_W N d own cc nL ret (pc + 2) (a0 :: a1 :: a2 :: a3 :: .int x :: r) st σ Q) : rd_W N d own cc nL ret pc (a0 :: a1 :: a2 :: a3 :: w :: r) (.int x :: st) σ Q := by
  intro p l e R s m args below meth c g H locs L C hP hD hS hL
  have hi : 4 < nL := by rw [← hL.2.2.1]; simp <;> omega
  exact lv_istore C.1 C.2.1 hd  (rd_L_has hL) hi rfl (fun L' h' => k p l e R s m args below meth c g H locs L' C hP hD hS (rd_L_store (v := .int x) hL hi hok h'))
theorem rr_lload_4 {a0 a1 a2 a3 : Value} {x : Int64} {r : List Value} (hd : decode cc pc = .ok (.lload 4, 2)) (k : rd_W N d own cc nL ret (pc + 2) (a0 :: a1 :: a2 :: a3 :: .long x :: r) (.long x :: st) σ Q) : rd_W N d own cc nL ret pc (a0 :: a1 :: a2 :: a3 :: .long x :: r) st σ Q := by
  intro p l e R s m args below meth c g H locs L C hP hD hS hL
  exact lv_lload C.1 C.2.1 hd  (hL.2.2.2 4 (.long x) rfl (fun h => by cases h)) (k p l e R s m args below meth c g H locs L C hP hD hS hL)
theorem rr_aload_4 {a0 a1 a2 a3 : Value} {x : Nat} {r : List Value} (hd : decode cc pc = .ok (.aload 4, 2)) (k : rd_W N d own cc nL ret (pc + 2) (a0 :: a1 :: a2 :: a3 :: .ref x :: r) (.ref x :: st) σ Q) : rd_W N d own cc nL ret pc (a0 :: a1 :: a2 :: a3 :: .ref x :: r) st σ Q := by
  intro p l e R s m args below meth c g H locs L C hP hD hS hL
  exact lv_aload C.1 C.2.1 hd  (hL.2.2.2 4 (.ref x) rfl (fun h => by cases h)) (k p l e R s m args below meth c g H locs L C hP hD hS hL)
theorem rr_astore_4 {a0 a1 a2 a3 : Value} {w : Value} {x : Nat} {r : List Value} (hd : decode cc pc = .ok (.astore 4, 2)) (hok : rd_ok1 (a0 :: a1 :: a2 :: a3 :: w :: r) 4 = true) (k : rd_W N d own cc nL ret (pc + 2) (a0 :: a1 :: a2 :: a3 :: .ref x :: r) st σ Q) : rd_W N d own cc nL ret pc (a0 :: a1 :: a2 :: a3 :: w :: r) (.ref x :: st) σ Q := by
  intro p l e R s m args below meth c g H locs L C hP hD hS hL
  have hi : 4 < nL := by rw [← hL.2.2.1]; simp <;> omega
  exact lv_astore C.1 C.2.1 hd  (rd_L_has hL) hi rfl (fun L' h' => k p l e R s m args below meth c g H locs L' C hP hD hS (rd_L_store (v := .ref x) hL hi hok h'))
theorem rr_iinc_4 {a0 a1 a2 a3 : Value} {x : Int32} {n : Int} (v : Int32) {r : List Value} (hd : decode cc pc = .ok (.iinc 4 n, 3)) (hv : Int32.ofInt n = v) (hok : rd_ok1 (a0 :: a1 :: a2 :: a3 :: .int x :: r) 4 = true) (k : rd_W N d own cc nL ret (pc + 3) (a0 :: a1 :: a2 :: a3 :: .int (x + v) :: r) st σ Q) : rd_W N d own cc nL ret pc (a0 :: a1 :: a2 :: a3 :: .int x :: r) st σ Q := by
  intro p l e R s m args below meth c g H locs L C hP hD hS hL
  have hi : 4 < nL := by rw [← hL.2.2.1]; simp <;> omega
  subst hv
  obtain ⟨q, hq⟩ := List.getElem?_of_mem (rd_lv_mem (ad := g.2.1) (ls := a0 :: a1 :: a2 :: a3 :: .int x :: r) (i := 4) (v := .int x) rfl (fun h => by cases h))
  exact lv_iinc C.1 C.2.1 hd (rd_L_has hL) hq rfl hi rfl (fun L' h' => k p l e R s m args below meth c g H locs L' C hP hD hS (rd_L_store (v := .int (x + Int32.ofInt n)) hL hi hok h'))
theorem rr_lstore_4 {a0 a1 a2 a3 : Value} {w w2 : Value} {x : Int64} {r : List Value} (hd : decode cc pc = .ok (.lstore 4, 2)) (hok : rd_ok1 (a0 :: a1 :: a2 :: a3 :: w :: w2 :: r) 4 = true) (k : rd_W N d own cc nL ret (pc + 2) (a0 :: a1 :: a2 :: a3 :: .long x :: .retAddr 0 :: r) st σ Q) : rd_W N d own cc nL ret pc (a0 :: a1 :: a2 :: a3 :: w :: w2 :: r) (.long x :: st) σ Q := by
  intro p l e R s m args below meth c g H locs L C hP hD hS hL
  have hi : 4 + 1 < nL := by rw [← hL.2.2.1]; simp <;> omega
  exact lv_lstore C.1 C.2.1 hd  (rd_L_has hL) hi rfl (fun L' h' => k p l e R s m args below meth c g H locs L' C hP hD hS (rd_L_store2 (v := .long x) hL hi hok h'))
theorem rr_iload_5 {a0 a1 a2 a3 a4 : Value} {x : Int32} {r : List Value} (hd : decode cc pc = .ok (.iload 5, 2)) (k : rd_W N d own cc nL ret (pc + 2) (a0 :: a1 :: a2 :: a3 :: a4 :: .int x :: r) (.int x :: st) σ Q) : rd_W N d own cc nL ret pc (a0 :: a1 :: a2 :: a3 :: a4 :: .int x :: r) st σ Q := by
  intro p l e R s m args below meth c g H locs L C hP hD hS hL
  exact lv_iload C.1 C.2.1 hd  (hL.2.2.2 5 (.int x) rfl (fun h => by cases h)) (k p l e R s m args below meth c g H locs L C hP hD hS hL)
theorem rr_istore_5 {a0 a1 a2 a3 a4 : Value} {w : Value} {x : Int32} {r : List Value} (hd : decode cc pc = .ok (.istore 5, 2)) (hok : rd_ok1 (a0 :: a1 :: a2 :: a3 :: a4 :: w :: r) 5 = true) (k : rd_W N d own cc nL ret (pc + 2) (a0 :: a1 :: a2 :: a3 :: a4 :: .int x :: r) st σ Q) : rd_W N d own cc nL ret pc (a0 :: a1 :: a2 :: a3 :: a4 :: w :: r) (.int x :: st) σ Q := by
  intro p l e R s m args below meth c g H locs L C hP hD hS hL
  have hi : 5 < nL := by rw [← hL.2.2.1]; simp <;> omega
  exact lv_istore C.1 C.2.1 hd  (rd_L_has hL) hi rfl (fun L' h' => k p l e R s m args below meth c g H locs L' C hP hD hS (rd_L_store (v := .int x) hL hi hok h'))
theorem rr_lload_5 {a0 a1 a2 a3 a4 : Value} {x : Int64} {r : List Value} (hd : decode cc pc = .ok (.lload 5, 2)) (k : rd_W N d own cc nL ret (pc + 2) (a0 :: a1 :: a2 :: a3 :: a4 :: .long x :: r) (.long x :: st) σ Q) : rd_W N d own cc nL ret pc (a0 :: a1 :: a2 :: a3 :: a4 :: .long x :: r) st σ Q := by
  intro p l e R s m args below meth c g H locs L C hP hD hS hL
  exact lv_lload C.1 C.2.1 hd  (hL.2.2.2 5 (.long x) rfl (fun h => by cases h)) (k p l e R s m args below meth c g H locs L C hP hD hS hL)
theorem rr_aload_5 {a0 a1 a2 a3 a4 : Value} {x : Nat} {r : List Value} (hd : decode cc pc = .ok (.aload 5, 2)) (k : rd_W N d own cc nL ret (pc + 2) (a0 :: a1 :: a2 :: a3 :: a4 :: .ref x :: r) (.ref x :: st) σ Q) : rd_W N d own cc nL ret pc (a0 :: a1 :: a2 :: a3 :: a4 :: .ref x :: r) st σ Q := by
  intro p l e R s m args below meth c g H locs L C hP hD hS hL
  exact lv_aload C.1 C.2.1 hd  (hL.2.2.2 5 (.ref x) rfl (fun h => by cases h)) (k p l e R s m args below meth c g H locs L C hP hD hS hL)
theorem rr_astore_5 {a0 a1 a2 a3 a4 : Value} {w : Value} {x : Nat} {r : List Value} (hd : decode cc pc = .ok (.astore 5, 2)) (hok : rd_ok1 (a0 :: a1 :: a2 :: a3 :: a4 :: w :: r) 5 = true) (k : rd_W N d own cc nL ret (pc + 2) (a0 :: a1 :: a2 :: a3 :: a4 :: .ref x :: r) st σ Q) : rd_W N d own cc nL ret pc (a0 :: a1 :: a2 :: a3 :: a4 :: w :: r) (.ref x :: st) σ Q := by
  intro p l e R s m args below meth c g H locs L C hP hD hS hL
  have hi : 5 < nL := by rw [← hL.2.2.1]; simp <;> omega
  exact lv_astore C.1 C.2.1 hd  (rd_L_has hL) hi rfl (fun L' h' => k p l e R s m args below meth c g H locs L' C hP hD hS (rd_L_store (v := .ref x) hL hi hok h'))
theorem rr_iinc_5 {a0 a1 a2 a3 a4 : Value} {x : Int32} {n : Int} (v : Int32) {r : List Value} (hd : decode cc pc = .ok (.iinc 5 n, 3)) (hv : Int32.ofInt n = v) (hok : rd_ok1 (a0 :: a1 :: a2 :: a3 :: a4 :: .int x :: r) 5 = true) (k : rd_W N d own cc nL ret (pc + 3) (a0 :: a1 :: a2 :: a3 :: a4 :: .int (x + v) :: r) st σ Q) : rd_W N d own cc nL ret pc (a0 :: a1 :: a2 :: a3 :: a4 :: .int x :: r) st σ Q := by
  intro p l e R s m args below meth c g H locs L C hP hD hS hL
  have hi : 5 < nL := by rw [← hL.2.2.1]; simp <;> omega
  subst hv
  obtain ⟨q, hq⟩ := List.getElem?_of_mem (rd_lv_mem (ad := g.2.1) (ls := a0 :: a1 :: a2 :: a3 :: a4 :: .int x :: r) (i := 5) (v := .int x) rfl (fun h => by cases h))
  exact lv_iinc C.1 C.2.1 hd (rd_L_has hL) hq rfl hi rfl (fun L' h' => k p l e R s m args below meth c g H locs L' C hP hD hS (rd_L_store (v := .int (x + Int32.ofInt n)) hL hi hok h'))
theorem rr_lstore_5 {a0 a1 a2 a3 a4 : Value} {w w2 : Value} {x : Int64} {r : List Value} (hd : decode cc pc = .ok (.lstore 5, 2)) (hok : rd_ok1 (a0 :: a1 :: a2 :: a3 :: a4 :: w :: w2 :: r) 5 = true) (k : rd_W N d own cc nL ret (pc + 2) (a0 :: a1 :: a2 :: a3 :: a4 :: .long x :: .retAddr 0 :: r) st σ Q) : rd_W N d own cc nL ret pc (a0 :: a1 :: a2 :: a3 :: a4 :: w :: w2 :: r) (.long x :: st) σ Q := by
  intro p l e R s m args below meth c g H locs L C hP hD hS hL
  have hi : 5 + 1 < nL := by rw [← hL.2.2.1]; simp <;> omega
  exact lv_lstore C.1 C.2.1 hd  (rd_L_has hL) hi rfl (fun L' h' => k p l e R s m args below meth c g H locs L' C hP hD hS (rd_L_store2 (v := .long x) hL hi hok h'))
theorem rr_iload_6 {a0 a1 a2 a3 a4 a5 : Value} {x : Int32} {r : List Value} (hd : decode cc pc = .ok (.iload 6, 2)) (k : rd_W N d own cc nL ret (pc + 2) (a0 :: a1 :: a2 :: a3 :: a4 :: a5 :: .int x :: r) (.int x :: st) σ Q) : rd_W N d own cc nL ret pc (a0 :: a1 :: a2 :: a3 :: a4 :: a5 :: .int x :: r) st σ Q := by
  intro p l e R s m args below meth c g H locs L C hP hD hS hL
  exact lv_iload C.1 C.2.1 hd  (hL.2.2.2 6 (.int x) rfl (fun h => by cases h)) (k p l e R s m args below meth c g H locs L C hP hD hS hL)
theorem rr_istore_6 {a0 a1 a2 a3 a4 a5 : Value} {w : Value} {x : Int32} {r : List Value} (hd : decode cc pc = .ok (.istore 6, 2)) (hok : rd_ok1 (a0 :: a1 :: a2 :: a3 :: a4 :: a5 :: w :: r) 6 = true) (k : rd_W N d own cc nL ret (pc + 2) (a0 :: a1 :: a2 :: a3 :: a4 :: a5 :: .int x :: r) st σ Q) : rd_W N d own cc nL ret pc (a0 :: a1 :: a2 :: a3 :: a4 :: a5 :: w :: r) (.int x :: st) σ Q := by
  intro p l e R s m args below meth c g H locs L C hP hD hS hL
  have hi : 6 < nL := by rw [← hL.2.2.1]; simp <;> omega
  exact lv_istore C.1 C.2.1 hd  (rd_L_has hL) hi rfl (fun L' h' => k p l e R s m args below meth c g H locs L' C hP hD hS (rd_L_store (v := .int x) hL hi hok h'))
theorem rr_lload_6 {a0 a1 a2 a3 a4 a5 : Value} {x : Int64} {r : List Value} (hd : decode cc pc = .ok (.lload 6, 2)) (k : rd_W N d own cc nL ret (pc + 2) (a0 :: a1 :: a2 :: a3 :: a4 :: a5 :: .long x :: r) (.long x :: st) σ Q) : rd_W N d own cc nL ret pc (a0 :: a1 :: a2 :: a3 :: a4 :: a5 :: .long x :: r) st σ Q := by
  intro p l e R s m args below meth c g H locs L C hP hD hS hL
  exact lv_lload C.1 C.2.1 hd  (hL.2.2.2 6 (.long x) rfl (fun h => by cases h)) (k p l e R s m args below meth c g H locs L C hP hD hS hL)
theorem rr_aload_6 {a0 a1 a2 a3 a4 a5 : Value} {x : Nat} {r : List Value} (hd : decode cc pc = .ok (.aload 6, 2)) (k : rd_W N d own cc nL ret (pc + 2) (a0 :: a1 :: a2 :: a3 :: a4 :: a5 :: .ref x :: r) (.ref x :: st) σ Q) : rd_W N d own cc nL ret pc (a0 :: a1 :: a2 :: a3 :: a4 :: a5 :: .ref x :: r) st σ Q := by
  intro p l e R s m args below meth c g H locs L C hP hD hS hL
  exact lv_aload C.1 C.2.1 hd  (hL.2.2.2 6 (.ref x) rfl (fun h => by cases h)) (k p l e R s m args below meth c g H locs L C hP hD hS hL)
theorem rr_astore_6 {a0 a1 a2 a3 a4 a5 : Value} {w : Value} {x : Nat} {r : List Value} (hd : decode cc pc = .ok (.astore 6, 2)) (hok : rd_ok1 (a0 :: a1 :: a2 :: a3 :: a4 :: a5 :: w :: r) 6 = true) (k : rd_W N d own cc nL ret (pc + 2) (a0 :: a1 :: a2 :: a3 :: a4 :: a5 :: .ref x :: r) st σ Q) : rd_W N d own cc nL ret pc (a0 :: a1 :: a2 :: a3 :: a4 :: a5 :: w :: r) (.ref x :: st) σ Q := by
  intro p l e R s m args below meth c g H locs L C hP hD hS hL
  have hi : 6 < nL := by rw [← hL.2.2.1]; simp <;> omega
  exact lv_astore C.1 C.2.1 hd  (rd_L_has hL) hi rfl (fun L' h' => k p l e R s m args below meth c g H locs L' C hP hD hS (rd_L_store (v := .ref x) hL hi hok h'))
theorem rr_iinc_6 {a0 a1 a2 a3 a4 a5 : Value} {x : Int32} {n : Int} (v : Int32) {r : List Value} (hd : decode cc pc = .ok (.iinc 6 n, 3)) (hv : Int32.ofInt n = v) (hok : rd_ok1 (a0 :: a1 :: a2 :: a3 :: a4 :: a5 :: .int x :: r) 6 = true) (k : rd_W N d own cc nL ret (pc + 3) (a0 :: a1 :: a2 :: a3 :: a4 :: a5 :: .int (x + v) :: r) st σ Q) : rd_W N d own cc nL ret pc (a0 :: a1 :: a2 :: a3 :: a4 :: a5 :: .int x :: r) st σ Q := by
  intro p l e R s m args below meth c g H locs L C hP hD hS hL
  have hi : 6 < nL := by rw [← hL.2.2.1]; simp <;> omega
  subst hv
  obtain ⟨q, hq⟩ := List.getElem?_of_mem (rd_lv_mem (ad := g.2.1) (ls := a0 :: a1 :: a2 :: a3 :: a4 :: a5 :: .int x :: r) (i := 6) (v := .int x) rfl (fun h => by cases h))
  exact lv_iinc C.1 C.2.1 hd (rd_L_has hL) hq rfl hi rfl (fun L' h' => k p l e R s m args below meth c g H locs L' C hP hD hS (rd_L_store (v := .int (x + Int32.ofInt n)) hL hi hok h'))
theorem rr_lstore_6 {a0 a1 a2 a3 a4 a5 : Value} {w w2 : Value} {x : Int64} {r : List Value} (hd : decode cc pc = .ok (.lstore 6, 2)) (hok : rd_ok1 (a0 :: a1 :: a2 :: a3 :: a4 :: a5 :: w :: w2 :: r) 6 = true) (k : rd_W N d own cc nL ret (pc + 2) (a0 :: a1 :: a2 :: a3 :: a4 :: a5 :: .long x :: .retAddr 0 :: r) st σ Q) : rd_W N d own cc nL ret pc (a0 :: a1 :: a2 :: a3 :: a4 :: a5 :: w :: w2 :: r) (.long x :: st) σ Q := by
  intro p l e R s m args below meth c g H locs L C hP hD hS hL
  have hi : 6 + 1 < nL := by rw [← hL.2.2.1]; simp <;> omega
  exact lv_lstore C.1 C.2.1 hd  (rd_L_has hL) hi rfl (fun L' h' => k p l e R s m args below meth c g H locs L' C hP hD hS (rd_L_store2 (v := .long x) hL hi hok h'))
theorem rr_iload_7 {a0 a1 a2 a3 a4 a5 a6 : Value} {x : Int32} {r : List Value} (hd : decode cc pc = .ok (.iload 7, 2)) (k : rd_W N d own cc nL ret (pc + 2) (a0 :: a1 :: a2 :: a3 :: a4 :: a5 :: a6 :: .int x :: r) (.int x :: st) σ Q) : rd_W N d own cc nL ret pc (a0 :: a1 :: a2 :: a3 :: a4 :: a5 :: a6 :: .int x :: r) st σ Q := by
  intro p l e R s m args below meth c g H locs L C hP hD hS hL
  exact lv_iload C.1 C.2.1 hd  (hL.2.2.2 7 (.int x) rfl (fun h => by cases h)) (k p l e R s m args below meth c g H locs L C hP hD hS hL)
theorem rr_istore_7 {a0 a1 a2 a3 a4 a5 a6 : Value} {w : Value} {x : Int32} {r : List Value} (hd : decode cc pc = .ok (.istore 7, 2)) (hok : rd_ok1 (a0 :: a1 :: a2 :: a3 :: a4 :: a5 :: a6 :: w :: r) 7 = true) (k : rd_W N d own cc nL ret (pc + 2) (a0 :: a1 :: a2 :: a3 :: a4 :: a5 :: a6 :: .int x :: r) st σ Q) : rd_W N d own cc nL ret pc (a0 :: a1 :: a2 :: a3 :: a4 :: a5 :: a6 :: w :: r) (.int x :: st) σ Q := by
  intro p l e R s m args below meth c g H locs L C hP hD hS hL
  have hi : 7 < nL := by rw [← hL.2.2.1]; simp <;> omega
  exact lv_istore C.1 C.2.1 hd  (rd_L_has hL) hi rfl (fun L' h' => k p l e R s m args below meth c g H locs L' C hP hD hS (rd_L_store (v := .int x) hL hi hok h'))
theorem rr_lload_7 {a0 a1 a2 a3 a4 a5 a6 : Value} {x : Int64} {r : List Value} (hd : decode cc pc = .ok (.lload 7, 2)) (k : rd_W N d own cc nL ret (pc + 2) (a0 :: a1 :: a2 :: a3 :: a4 :: a5 :: a6 :: .long x :: r) (.long x :: st) σ Q) : rd_W N d own cc nL ret pc (a0 :: a1 :: a2 :: a3 :: a4 :: a5 :: a6 :: .long x :: r) st σ Q := by
  intro p l e R s m args below meth c g H locs L C hP hD hS hL
  exact lv_lload C.1 C.2.1 hd  (hL.2.2.2 7 (.long x) rfl (fun h => by cases h)) (k p l e R s m args below meth c g H locs L C hP hD hS hL)
theorem rr_aload_7 {a0 a1 a2 a3 a4 a5 a6 : Value} {x : Nat} {r : List Value} (hd : decode cc pc = .ok (.aload 7, 2)) (k : rd_W N d own cc nL ret (pc + 2) (a0 :: a1 :: a2 :: a3 :: a4 :: a5 :: a6 :: .ref x :: r) (.ref x :: st) σ Q) : rd_W N d own cc nL ret pc (a0 :: a1 :: a2 :: a3 :: a4 :: a5 :: a6 :: .ref x :: r) st σ Q := by
  intro p l e R s m args below meth c g H locs L C hP hD hS hL
  exact lv_aload C.1 C.2.1 hd  (hL.2.2.2 7 (.ref x) rfl (fun h => by cases h)) (k p l e R s m args below meth c g H locs L C hP hD hS hL)
theorem rr_astore_7 {a0 a1 a2 a3 a4 a5 a6 : Value} {w : Value} {x : Nat} {r : List Value} (hd : decode cc pc = .ok (.astore 7, 2)) (hok : rd_ok1 (a0 :: a1 :: a2 :: a3 :: a4 :: a5 :: a6 :: w :: r) 7 = true) (k : rd_W N d own cc nL ret (pc + 2) (a0 :: a1 :: a2 :: a3 :: a4 :: a5 :: a6 :: .ref x :: r) st σ Q) : rd_W N d own cc nL ret pc (a0 :: a1 :: a2 :: a3 :: a4 :: a5 :: a6 :: w :: r) (.ref x :: st) σ Q := by
  intro p l e R s m args below meth c g H locs L C hP hD hS hL
  have hi : 7 < nL := by rw [← hL.2.2.1]; simp <;> omega
  exact lv_astore C.1 C.2.1 hd  (rd_L_has hL) hi rfl (fun L' h' => k p l e R s m args below meth c g H locs L' C hP hD hS (rd_L_store (v := .ref x) hL hi hok h'))
theorem rr_iinc_7 {a0 a1 a2 a3 a4 a5 a6 : Value} {x : Int32} {n : Int} (v : Int32) {r : List Value} (hd : decode cc pc = .ok (.iinc 7 n, 3)) (hv : Int32.ofInt n = v) (hok : rd_ok1 (a0 :: a1 :: a2 :: a3 :: a4 :: a5 :: a6 :: .int x :: r) 7 = true) (k : rd_W N d own cc nL ret (pc + 3) (a0 :: a1 :: a2 :: a3 :: a4 :: a5 :: a6 :: .int (x + v) :: r) st σ Q) : rd_W N d own cc nL ret pc (a0 :: a1 :: a2 :: a3 :: a4 :: a5 :: a6 :: .int x :: r) st σ Q := by
  intro p l e R s m args below meth c g H locs L C hP hD hS hL
  have hi : 7 < nL := by rw [← hL.2.2.1]; simp <;> omega
  subst hv
  obtain ⟨q, hq⟩ := List.getElem?_of_mem (rd_lv_mem (ad := g.2.1) (ls := a0 :: a1 :: a2 :: a3 :: a4 :: a5 :: a6 :: .int x :: r) (i := 7) (v := .int x) rfl (fun h => by cases h))
  exact lv_iinc C.1 C.2.1 hd (rd_L_has hL) hq rfl hi rfl (fun L' h' => k p l e R s m args below meth c g H locs L' C hP hD hS (rd_L_store (v := .int (x + Int32.ofInt n)) hL hi hok h'))
theorem rr_lstore_7 {a0 a1 a2 a3 a4 a5 a6 : Value} {w w2 : Value} {x : Int64} {r : List Value} (hd : decode cc pc = .ok (.lstore 7, 2)) (hok : rd_ok1 (a0 :: a1 :: a2 :: a3 :: a4 :: a5 :: a6 :: w :: w2 :: r) 7 = true) (k : rd_W N d own cc nL ret (pc + 2) (a0 :: a1 :: a2 :: a3 :: a4 :: a5 :: a6 :: .long x :: .retAddr 0 :: r) st σ Q) : rd_W N d own cc nL ret pc (a0 :: a1 :: a2 :: a3 :: a4 :: a5 :: a6 :: w :: w2 :: r) (.long x :: st) σ Q := by
  intro p l e R s m args below meth c g H locs L C hP hD hS hL
  have hi : 7 + 1 < nL := by rw [← hL.2.2.1]; simp <;> omega
  exact lv_lstore C.1 C.2.1 hd  (rd_L_has hL) hi rfl (fun L' h' => k p l e R s m args below meth c g H locs L' C hP hD hS (rd_L_store2 (v := .long x) hL hi hok h'))
theorem rr_iload_8 {a0 a1 a2 a3 a4 a5 a6 a7 : Value} {x : Int32} {r : List Value} (hd : decode cc pc = .ok (.iload 8, 2)) (k : rd_W N d own cc nL ret (pc + 2) (a0 :: a1 :: a2 :: a3 :: a4 :: a5 :: a6 :: a7 :: .int x :: r) (.int x :: st) σ Q) : rd_W N d own cc nL ret pc (a0 :: a1 :: a2 :: a3 :: a4 :: a5 :: a6 :: a7 :: .int x :: r) st σ Q := by
  intro p l e R s m args below meth c g H locs L C hP hD hS hL
  exact lv_iload C.1 C.2.1 hd  (hL.2.2.2 8 (.int x) rfl (fun h => by cases h)) (k p l e R s m args below meth c g H locs L C hP hD hS hL)
theorem rr_istore_8 {a0 a1 a2 a3 a4 a5 a6 a7 : Value} {w : Value} {x : Int32} {r : List Value} (hd : decode cc pc = .ok (.istore 8, 2)) (hok : rd_ok1 (a0 :: a1 :: a2 :: a3 :: a4 :: a5 :: a6 :: a7 :: w :: r) 8 = true) (k : rd_W N d own cc nL ret (pc + 2) (a0 :: a1 :: a2 :: a3 :: a4 :: a5 :: a6 :: a7 :: .int x :: r) st σ Q) : rd_W N d own cc nL ret pc (a0 :: a1 :: a2 :: a3 :: a4 :: a5 :: a6 :: a7 :: w :: r) (.int x :: st) σ Q := by
  intro p l e R s m args below meth c g H locs L C hP hD hS hL
  have hi : 8 < nL := by rw [← hL.2.2.1]; simp <;> omega
  exact lv_istore C.1 C.2.1 hd  (rd_L_has hL) hi rfl (fun L' h' => k p l e R s m args below meth c g H locs L' C hP hD hS (rd_L_store (v := .int x) hL hi hok h'))
theorem rr_lload_8 {a0 a1 a2 a3 a4 a5 a6 a7 : Value} {x : Int64} {r : List Value} (hd : decode cc pc = .ok (.lload 8, 2)) (k : rd_W N d own cc nL ret (pc + 2) (a0 :: a1 :: a2 :: a3 :: a4 :: a5 :: a6 :: a7 :: .long x :: r) (.long x :: st) σ Q) : rd_W N d own cc nL ret pc (a0 :: a1 :: a2 :: a3 :: a4 :: a5 :: a6 :: a7 :: .long x :: r) st σ Q := by
  intro p l e R s m args below meth c g H locs L C hP hD hS hL
  exact lv_lload C.1 C.2.1 hd  (hL.2.2.2 8 (.long x) rfl (fun h => by cases h)) (k p l e R s m args below meth c g H locs L C hP hD hS hL)
theorem rr_aload_8 {a0 a1 a2 a3 a4 a5 a6 a7 : Value} {x : Nat} {r : List Value} (hd : decode cc pc = .ok (.aload 8, 2)) (k : rd_W N d own cc nL ret (pc + 2) (a0 :: a1 :: a2 :: a3 :: a4 :: a5 :: a6 :: a7 :: .ref x :: r) (.ref x :: st) σ Q) : rd_W N d own cc nL ret pc (a0 :: a1 :: a2 :: a3 :: a4 :: a5 :: a6 :: a7 :: .ref x :: r) st σ Q := by
  intro p l e R s m args below meth c g H locs L C hP hD hS hL
  exact lv_aload C.1 C.2.1 hd  (hL.2.2.2 8 (.ref x) rfl (fun h => by cases h)) (k p l e R s m args below meth c g H locs L C hP hD hS hL)
theorem rr_astore_8 {a0 a1 a2 a3 a4 a5 a6 a7 : Value} {w : Value} {x : Nat} {r : List Value} (hd : decode cc pc = .ok (.astore 8, 2)) (hok : rd_ok1 (a0 :: a1 :: a2 :: a3 :: a4 :: a5 :: a6 :: a7 :: w :: r) 8 = true) (k : rd_W N d own cc nL ret (pc + 2) (a0 :: a1 :: a2 :: a3 :: a4 :: a5 :: a6 :: a7 :: .ref x :: r) st σ Q) : rd_W N d own cc nL ret pc (a0 :: a1 :: a2 :: a3 :: a4 :: a5 :: a6 :: a7 :: w :: r) (.ref x :: st) σ Q := by
  intro p l e R s m args below meth c g H locs L C hP hD hS hL
  have hi : 8 < nL := by rw [← hL.2.2.1]; simp <;> omega
  exact lv_astore C.1 C.2.1 hd  (rd_L_has hL) hi rfl (fun L' h' => k p l e R s m args below meth c g H locs L' C hP hD hS (rd_L_store (v := .ref x) hL hi hok h'))
theorem rr_iinc_8 {a0 a1 a2 a3 a4 a5 a6 a7 : Value} {x : Int32} {n : Int} (v : Int32) {r : List Value} (hd : decode cc pc = .ok (.iinc 8 n, 3)) (hv : Int32.ofInt n = v) (hok : rd_ok1 (a0 :: a1 :: a2 :: a3 :: a4 :: a5 :: a6 :: a7 :: .int x :: r) 8 = true) (k : rd_W N d own cc nL ret (pc + 3) (a0 :: a1 :: a2 :: a3 :: a4 :: a5 :: a6 :: a7 :: .int (x + v) :: r) st σ Q) : rd_W N d own cc nL ret pc (a0 :: a1 :: a2 :: a3 :: a4 :: a5 :: a6 :: a7 :: .int x :: r) st σ Q := by
  intro p l e R s m args below meth c g H locs L C hP hD hS hL
  have hi : 8 < nL := by rw [← hL.2.2.1]; simp <;> omega
  subst hv
  obtain ⟨q, hq⟩ := List.getElem?_of_mem (rd_lv_mem (ad := g.2.1) (ls := a0 :: a1 :: a2 :: a3 :: a4 :: a5 :: a6 :: a7 :: .int x :: r) (i := 8) (v := .int x) rfl (fun h => by cases h))
  exact lv_iinc C.1 C.2.1 hd (rd_L_has hL) hq rfl hi rfl (fun L' h' => k p l e R s m args below meth c g H locs L' C hP hD hS (rd_L_store (v := .int (x + Int32.ofInt n)) hL hi hok h'))
theorem rr_lstore_8 {a0 a1 a2 a3 a4 a5 a6 a7 : Value} {w w2 : Value} {x : Int64} {r : List Value} (hd : decode cc pc = .ok (.lstore 8, 2)) (hok : rd_ok1 (a0 :: a1 :: a2 :: a3 :: a4 :: a5 :: a6 :: a7 :: w :: w2 :: r) 8 = true) (k : rd_W N d own cc nL ret (pc + 2) (a0 :: a1 :: a2 :: a3 :: a4 :: a5 :: a6 :: a7 :: .long x :: .retAddr 0 :: r) st σ Q) : rd_W N d own cc nL ret pc (a0 :: a1 :: a2 :: a3 :: a4 :: a5 :: a6 :: a7 :: w :: w2 :: r) (.long x :: st) σ Q := by
  intro p l e R s m args below meth c g H locs L C hP hD hS hL
  have hi : 8 + 1 < nL := by rw [← hL.2.2.1]; simp <;> omega
  exact lv_lstore C.1 C.2.1 hd  (rd_L_has hL) hi rfl (fun L' h' => k p l e R s m args below meth c g H locs L' C hP hD hS (rd_L_store2 (v := .long x) hL hi hok h'))
theorem rr_iload_9 {a0 a1 a2 a3 a4 a5 a6 a7 a8 : Value} {x : Int32} {r : List Value} (hd : decode cc pc = .ok (.iload 9, 2)) (k : rd_W N d own cc nL ret (pc + 2) (a0 :: a1 :: a2 :: a3 :: a4 :: a5 :: a6 :: a7 :: a8 :: .int x :: r) (.int x :: st) σ Q) : rd_W N d own cc nL ret pc (a0 :: a1 :: a2 :: a3 :: a4 :: a5 :: a6 :: a7 :: a8 :: .int x :: r) st σ Q := by
  intro p l e R s m args below meth c g H locs L C hP hD hS hL
  exact lv_iload C.1 C.2.1 hd  (hL.2.2.2 9 (.int x) rfl (fun h => by cases h)) (k p l e R s m args below meth c g H locs L C hP hD hS hL)
theorem rr_istore_9 {a0 a1 a2 a3 a4 a5 a6 a7 a8 : Value} {w : Value} {x : Int32} {r : List Value} (hd : decode cc pc = .ok (.istore 9, 2)) (hok : rd_ok1 (a0 :: a1 :: a2 :: a3 :: a4 :: a5 :: a6 :: a7 :: a8 :: w :: r) 9 = true) (k : rd_W N d own cc nL ret (pc + 2) (a0 :: a1 :: a2 :: a3 :: a4 :: a5 :: a6 :: a7 :: a8 :: .int x :: r) st σ Q) : rd_W N d own cc nL ret pc (a0 :: a1 :: a2 :: a3 :: a4 :: a5 :: a6 :: a7 :: a8 :: w :: r) (.int x :: st) σ Q := by
  intro p l e R s m args below meth c g H locs L C hP hD hS hL
  have hi : 9 < nL := by rw [← hL.2.2.1]; simp <;> omega
  exact lv_istore C.1 C.2.1 hd  (rd_L_has hL) hi rfl (fun L' h' => k p l e R s m args below meth c g H locs L' C hP hD hS (rd_L_store (v := .int x) hL hi hok h'))
theorem rr_lload_9 {a0 a1 a2 a3 a4 a5 a6 a7 a8 : Value} {x : Int64} {r : List Value} (hd : decode cc pc = .ok (.lload 9, 2)) (k : rd_W N d own cc nL ret (pc + 2) (a0 :: a1 :: a2 :: a3 :: a4 :: a5 :: a6 :: a7 :: a8 :: .long x :: r) (.long x :: st) σ Q) : rd_W N d own cc nL ret pc (a0 :: a1 :: a2 :: a3 :: a4 :: a5 :: a6 :: a7 :: a8 :: .long x :: r) st σ Q := by
  intro p l e R s m args below meth c g H locs L C hP hD hS hL
  exact lv_lload C.1 C.2.1 hd  (hL.2.2.2 9 (.long x) rfl (fun h => by cases h)) (k p l e R s m args below meth c g H locs L C hP hD hS hL)
theorem rr_aload_9 {a0 a1 a2 a3 a4 a5 a6 a7 a8 : Value} {x : Nat} {r : List Value} (hd : decode cc pc = .ok (.aload 9, 2)) (k : rd_W N d own cc nL ret (pc + 2) (a0 :: a1 :: a2 :: a3 :: a4 :: a5 :: a6 :: a7 :: a8 :: .ref x :: r) (.ref x :: st) σ Q) : rd_W N d own cc nL ret pc (a0 :: a1 :: a2 :: a3 :: a4 :: a5 :: a6 :: a7 :: a8 :: .ref x :: r) st σ Q := by
  intro p l e R s m args below meth c g H locs L C hP hD hS hL
  exact lv_aload C.1 C.2.1 hd  (hL.2.2.2 9 (.ref x) rfl (fun h => by cases h)) (k p l e R s m args below meth c g H locs L C hP hD hS hL)
theorem rr_astore_9 {a0 a1 a2 a3 a4 a5 a6 a7 a8 : Value} {w : Value} {x : Nat} {r : List Value} (hd : decode cc pc = .ok (.astore 9, 2)) (hok : rd_ok1 (a0 :: a1 :: a2 :: a3 :: a4 :: a5 :: a6 :: a7 :: a8 :: w :: r) 9 = true) (k : rd_W N d own cc nL ret (pc + 2) (a0 :: a1 :: a2 :: a3 :: a4 :: a5 :: a6 :: a7 :: a8 :: .ref x :: r) st σ Q) : rd_W N d own cc nL ret pc (a0 :: a1 :: a2 :: a3 :: a4 :: a5 :: a6 :: a7 :: a8 :: w :: r) (.ref x :: st) σ Q := by
  intro p l e R s m args below meth c g H locs L C hP hD hS hL
  have hi : 9 < nL := by rw [← hL.2.2.1]; simp <;> omega
  exact lv_astore C.1 C.2.1 hd  (rd_L_has hL) hi rfl (fun L' h' => k p l e R s m args below meth c g H locs L' C hP hD hS (rd_L_store (v := .ref x) hL hi hok h'))
theorem rr_iinc_9 {a0 a1 a2 a3 a4 a5 a6 a7 a8 : Value} {x : Int32} {n : Int} (v : Int32) {r : List Value} (hd : decode cc pc = .ok (.iinc 9 n, 3)) (hv : Int32.ofInt n = v) (hok : rd_ok1 (a0 :: a1 :: a2 :: a3 :: a4 :: a5 :: a6 :: a7 :: a8 :: .int x :: r) 9 = true) (k : rd_W N d own cc nL ret (pc + 3) (a0 :: a1 :: a2 :: a3 :: a4 :: a5 :: a6 :: a7 :: a8 :: .int (x + v) :: r) st σ Q) : rd_W N d own cc nL ret pc (a0 :: a1 :: a2 :: a3 :: a4 :: a5 :: a6 :: a7 :: a8 :: .int x :: r) st σ Q := by
  intro p l e R s m args below meth c g H locs L C hP hD hS hL
  have hi : 9 < nL := by rw [← hL.2.2.1]; simp <;> omega
  subst hv
  obtain ⟨q, hq⟩ := List.getElem?_of_mem (rd_lv_mem (ad := g.2.1) (ls := a0 :: a1 :: a2 :: a3 :: a4 :: a5 :: a6 :: a7 :: a8 :: .int x :: r) (i := 9) (v := .int x) rfl (fun h => by cases h))
  exact lv_iinc C.1 C.2.1 hd (rd_L_has hL) hq rfl hi rfl (fun L' h' => k p l e R s m args below meth c g H locs L' C hP hD hS (rd_L_store (v := .int (x + Int32.ofInt n)) hL hi hok h'))
theorem rr_lstore_9 {a0 a1 a2 a3 a4 a5 a6 a7 a8 : Value} {w w2 : Value} {x : Int64} {r : List Value} (hd : decode cc pc = .ok (.lstore 9, 2)) (hok : rd_ok1 (a0 :: a1 :: a2 :: a3 :: a4 :: a5 :: a6 :: a7 :: a8 :: w :: w2 :: r) 9 = true) (k : rd_W N d own cc nL ret (pc + 2) (a0 :: a1 :: a2 :: a3 :: a4 :: a5 :: a6 :: a7 :: a8 :: .long x :: .retAddr 0 :: r) st σ Q) : rd_W N d own cc nL ret pc (a0 :: a1 :: a2 :: a3 :: a4 :: a5 :: a6 :: a7 :: a8 :: w :: w2 :: r) (.long x :: st) σ Q := by
  intro p l e R s m args below meth c g H locs L C hP hD hS hL
  have hi : 9 + 1 < nL := by rw [← hL.2.2.1]; simp <;> omega
  exact lv_lstore C.1 C.2.1 hd  (rd_L_has hL) hi rfl (fun L' h' => k p l e R s m args below meth c g H locs L' C hP hD hS (rd_L_store2 (v := .long x) hL hi hok h'))
theorem rr_iload_10 {a0 a1 a2 a3 a4 a5 a6 a7 a8 a9 : Value} {x : Int32} {r : List Value} (hd : decode cc pc = .ok (.iload 10, 2)) (k : rd_W N d own cc nL ret (pc + 2) (a0 :: a1 :: a2 :: a3 :: a4 :: a5 :: a6 :: a7 :: a8 :: a9 :: .int x :: r) (.int x :: st) σ Q) : rd_W N d own cc nL ret pc (a0 :: a1 :: a2 :: a3 :: a4 :: a5 :: a6 :: a7 :: a8 :: a9 :: .int x :: r) st σ Q := by
  intro p l e R s m args below meth c g H locs L C hP hD hS hL
  exact lv_iload C.1 C.2.1 hd  (hL.2.2.2 10 (.int x) rfl (fun h => by cases h)) (k p l e R s m args below meth c g H locs L C hP hD hS hL)
theorem rr_istore_10 {a0 a1 a2 a3 a4 a5 a6 a7 a8 a9 : Value} {w : Value} {x : Int32} {r : List Value} (hd : decode cc pc = .ok (.istore 10, 2)) (hok : rd_ok1 (a0 :: a1 :: a2 :: a3 :: a4 :: a5 :: a6 :: a7 :: a8 :: a9 :: w :: r) 10 = true) (k : rd_W N d own cc nL ret (pc + 2) (a0 :: a1 :: a2 :: a3 :: a4 :: a5 :: a6 :: a7 :: a8 :: a9 :: .int x :: r) st σ Q) : rd_W N d own cc nL ret pc (a0 :: a1 :: a2 :: a3 :: a4 :: a5 :: a6 :: a7 :: a8 :: a9 :: w :: r) (.int x :: st) σ Q := by
  intro p l e R s m args below meth c g H locs L C hP hD hS hL
  have hi : 10 < nL := by rw [← hL.2.2.1]; simp <;> omega
  exact lv_istore C.1 C.2.1 hd  (rd_L_has hL) hi rfl (fun L' h' => k p l e R s m args below meth c g H locs L' C hP hD hS (rd_L_store (v := .int x) hL hi hok h'))
theorem rr_lload_10 {a0 a1 a2 a3 a4 a5 a6 a7 a8 a9 : Value} {x : Int64} {r : List Value} (hd : decode cc pc = .ok (.lload 10, 2)) (k : rd_W N d own cc nL ret (pc + 2) (a0 :: a1 :: a2 :: a3 :: a4 :: a5 :: a6 :: a7 :: a8 :: a9 :: .long x :: r) (.long x :: st) σ Q) : rd_W N d own cc nL ret pc (a0 :: a1 :: a2 :: a3 :: a4 :: a5 :: a6 :: a7 :: a8 :: a9 :: .long x :: r) st σ Q := by
  intro p l e R s m args below meth c g H locs L C hP hD hS hL
  exact lv_lload C.1 C.2.1 hd  (hL.2.2.2 10 (.long x) rfl (fun h => by cases h)) (k p l e R s m args below meth c g H locs L C hP hD hS hL)
theorem rr_aload_10 {a0 a1 a2 a3 a4 a5 a6 a7 a8 a9 : Value} {x : Nat} {r : List Value} (hd : decode cc pc = .ok (.aload 10, 2)) (k : rd_W N d own cc nL ret (pc + 2) (a0 :: a1 :: a2 :: a3 :: a4 :: a5 :: a6 :: a7 :: a8 :: a9 :: .ref x :: r) (.ref x :: st) σ Q) : rd_W N d own cc nL ret pc (a0 :: a1 :: a2 :: a3 :: a4 :: a5 :: a6 :: a7 :: a8 :: a9 :: .ref x :: r) st σ Q := by
  intro p l e R s m args below meth c g H locs L C hP hD hS hL
  exact lv_aload C.1 C.2.1 hd  (hL.2.2.2 10 (.ref x) rfl (fun h => by cases h)) (k p l e R s m args below meth c g H locs L C hP hD hS hL)
theorem rr_astore_10 {a0 a1 a2 a3 a4 a5 a6 a7 a8 a9 : Value} {w : Value} {x : Nat} {r : List Value} (hd : decode cc pc = .ok (.astore 10, 2)) (hok : rd_ok1 (a0 :: a1 :: a2 :: a3 :: a4 :: a5 :: a6 :: a7 :: a8 :: a9 :: w :: r) 10 = true) (k : rd_W N d own cc nL ret (pc + 2) (a0 :: a1 :: a2 :: a3 :: a4 :: a5 :: a6 :: a7 :: a8 :: a9 :: .ref x :: r) st σ Q) : rd_W N d own cc nL ret pc (a0 :: a1 :: a2 :: a3 :: a4 :: a5 :: a6 :: a7 :: a8 :: a9 :: w :: r) (.ref x :: st) σ Q := by
  intro p l e R s m args below meth c g H locs L C hP hD hS hL
  have hi : 10 < nL := by rw [← hL.2.2.1]; simp <;> omega
  exact lv_astore C.1 C.2.1 hd  (rd_L_has hL) hi rfl (fun L' h' => k p l e R s m args below meth c g H locs L' C hP hD hS (rd_L_store (v := .ref x) hL hi hok h'))
theorem rr_iinc_10 {a0 a1 a2 a3 a4 a5 a6 a7 a8 a9 : Value} {x : Int32} {n : Int} (v : Int32) {r : List Value} (hd : decode cc pc = .ok (.iinc 10 n, 3)) (hv : Int32.ofInt n = v) (hok : rd_ok1 (a0 :: a1 :: a2 :: a3 :: a4 :: a5 :: a6 :: a7 :: a8 :: a9 :: .int x :: r) 10 = true) (k : rd_W N d own cc nL ret (pc + 3) (a0 :: a1 :: a2 :: a3 :: a4 :: a5 :: a6 :: a7 :: a8 :: a9 :: .int (x + v) :: r) st σ Q) : rd_W N d own cc nL ret pc (a0 :: a1 :: a2 :: a3 :: a4 :: a5 :: a6 :: a7 :: a8 :: a9 :: .int x :: r) st σ Q := by
  intro p l e R s m args below meth c g H locs L C hP hD hS hL
  have hi : 10 < nL := by rw [← hL.2.2.1]; simp <;> omega
  subst hv
  obtain ⟨q, hq⟩ := List.getElem?_of_mem (rd_lv_mem (ad := g.2.1) (ls := a0 :: a1 :: a2 :: a3 :: a4 :: a5 :: a6 :: a7 :: a8 :: a9 :: .int x :: r) (i := 10) (v := .int x) rfl (fun h => by cases h))
  exact lv_iinc C.1 C.2.1 hd (rd_L_has hL) hq rfl hi rfl (fun L' h' => k p l e R s m args below meth c g H locs L' C hP hD hS (rd_L_store (v := .int (x + Int32.ofInt n)) hL hi hok h'))
theorem rr_lstore_10 {a0 a1 a2 a3 a4 a5 a6 a7 a8 a9 : Value} {w w2 : Value} {x : Int64} {r : List Value} (hd : decode cc pc = .ok (.lstore 10, 2)) (hok : rd_ok1 (a0 :: a1 :: a2 :: a3 :: a4 :: a5 :: a6 :: a7 :: a8 :: a9 :: w :: w2 :: r) 10 = true) (k : rd_W N d own cc nL ret (pc + 2) (a0 :: a1 :: a2 :: a3 :: a4 :: a5 :: a6 :: a7 :: a8 :: a9 :: .long x :: .retAddr 0 :: r) st σ Q) : rd_W N d own cc nL ret pc (a0 :: a1 :: a2 :: a3 :: a4 :: a5 :: a6 :: a7 :: a8 :: a9 :: w :: w2 :: r) (.long x :: st) σ Q := by
  intro p l e R s m args below meth c g H locs L C hP hD hS hL
  have hi : 10 + 1 < nL := by rw [← hL.2.2.1]; simp <;> omega
  exact lv_lstore C.1 C.2.1 hd  (rd_L_has hL) hi rfl (fun L' h' => k p l e R s m args below meth c g H locs L' C hP hD hS (rd_L_store2 (v := .long x) hL hi hok h'))
theorem rr_iload_11 {a0 a1 a2 a3 a4 a5 a6 a7 a8 a9 a10 : Value} {x : Int32} {r : List Value} (hd : decode cc pc = .ok (.iload 11, 2)) (k : rd_W N d own cc nL ret (pc + 2) (a0 :: a1 :: a2 :: a3 :: a4 :: a5 :: a6 :: a7 :: a8 :: a9 :: a10 :: .int x :: r) (.int x :: st) σ Q) : rd_W N d own cc nL ret pc (a0 :: a1 :: a2 :: a3 :: a4 :: a5 :: a6 :: a7 :: a8 :: a9 :: a10 :: .int x :: r) st σ Q := by
  intro p l e R s m args below meth c g H locs L C hP hD hS hL
  exact lv_iload C.1 C.2.1 hd  (hL.2.2.2 11 (.int x) rfl (fun h => by cases h)) (k p l e R s m args below meth c g H locs L C hP hD hS hL)
theorem rr_istore_11 {a0 a1 a2 a3 a4 a5 a6 a7 a8 a9 a10 : Value} {w : Value} {x : Int32} {r : List Value} (hd : decode cc pc = .ok (.istore 11, 2)) (hok : rd_ok1 (a0 :: a1 :: a2 :: a3 :: a4 :: a5 :: a6 :: a7 :: a8 :: a9 :: a10 :: w :: r) 11 = true) (k : rd_W N d own cc nL ret (pc + 2) (a0 :: a1 :: a2 :: a3 :: a4 :: a5 :: a6 :: a7 :: a8 :: a9 :: a10 :: .int x :: r) st σ Q) : rd_W N d own cc nL ret pc (a0 :: a1 :: a2 :: a3 :: a4 :: a5 :: a6 :: a7 :: a8 :: a9 :: a10 :: w :: r) (.int x :: st) σ Q := by
  intro p l e R s m args below meth c g H locs L C hP hD hS hL
  have hi : 11 < nL := by rw [← hL.2.2.1]; simp <;> omega
  exact lv_istore C.1 C.2.1 hd  (rd_L_has hL) hi rfl (fun L' h' => k p l e R s m args below meth c g H locs L' C hP hD hS (rd_L_store (v := .int x) hL hi hok h'))
theorem rr_lload_11 {a0 a1 a2 a3 a4 a5 a6 a7 a8 a9 a10 : Value} {x : Int64} {r : List Value} (hd : decode cc pc = .ok (.lload 11, 2)) (k : rd_W N d own cc nL ret (pc + 2) (a0 :: a1 :: a2 :: a3 :: a4 :: a5 :: a6 :: a7 :: a8 :: a9 :: a10 :: .long x :: r) (.long x :: st) σ Q) : rd_W N d own cc nL ret pc (a0 :: a1 :: a2 :: a3 :: a4 :: a5 :: a6 :: a7 :: a8 :: a9 :: a10 :: .long x :: r) st σ Q := by
  intro p l e R s m args below meth c g H locs L C hP hD hS hL
  exact lv_lload C.1 C.2.1 hd  (hL.2.2.2 11 (.long x) rfl (fun h => by cases h)) (k p l e R s m args below meth c g H locs L C hP hD hS hL)
theorem rr_aload_11 {a0 a1 a2 a3 a4 a5 a6 a7 a8 a9 a10 : Value} {x : Nat} {r : List Value} (hd : decode cc pc = .ok (.aload 11, 2)) (k : rd_W N d own cc nL ret (pc + 2) (a0 :: a1 :: a2 :: a3 :: a4 :: a5 :: a6 :: a7 :: a8 :: a9 :: a10 :: .ref x :: r) (.ref x :: st) σ Q) : rd_W N d own cc nL ret pc (a0 :: a1 :: a2 :: a3 :: a4 :: a5 :: a6 :: a7 :: a8 :: a9 :: a10 :: .ref x :: r) st σ Q := by
  intro p l e R s m args below meth c g H locs L C hP hD hS hL
  exact lv_aload C.1 C.2.1 hd  (hL.2.2.2 11 (.ref x) rfl (fun h => by cases h)) (k p l e R s m args below meth c g H locs L C hP hD hS hL)
theorem rr_astore_11 {a0 a1 a2 a3 a4 a5 a6 a7 a8 a9 a10 : Value} {w : Value} {x : Nat} {r : List Value} (hd : decode cc pc = .ok (.astore 11, 2)) (hok : rd_ok1 (a0 :: a1 :: a2 :: a3 :: a4 :: a5 :: a6 :: a7 :: a8 :: a9 :: a10 :: w :: r) 11 = true) (k : rd_W N d own cc nL ret (pc + 2) (a0 :: a1 :: a2 :: a3 :: a4 :: a5 :: a6 :: a7 :: a8 :: a9 :: a10 :: .ref x :: r) st σ Q) : rd_W N d own cc nL ret pc (a0 :: a1 :: a2 :: a3 :: a4 :: a5 :: a6 :: a7 :: a8 :: a9 :: a10 :: w :: r) (.ref x :: st) σ Q := by
  intro p l e R s m args below meth c g H locs L C hP hD hS hL
  have hi : 11 < nL := by rw [← hL.2.2.1]; simp <;> omega
  exact lv_astore C.1 C.2.1 hd  (rd_L_has hL) hi rfl (fun L' h' => k p l e R s m args below meth c g H locs L' C hP hD hS (rd_L_store (v := .ref x) hL hi hok h'))
theorem rr_iinc_11 {a0 a1 a2 a3 a4 a5 a6 a7 a8 a9 a10 : Value} {x : Int32} {n : Int} (v : Int32) {r : List Value} (hd : decode cc pc = .ok (.iinc 11 n, 3)) (hv : Int32.ofInt n = v) (hok : rd_ok1 (a0 :: a1 :: a2 :: a3 :: a4 :: a5 :: a6 :: a7 :: a8 :: a9 :: a10 :: .int x :: r) 11 = true) (k : rd_W N d own cc nL ret (pc + 3) (a0 :: a1 :: a2 :: a3 :: a4 :: a5 :: a6 :: a7 :: a8 :: a9 :: a10 :: .int (x + v) :: r) st σ Q) : rd_W N d own cc nL ret pc (a0 :: a1 :: a2 :: a3 :: a4 :: a5 :: a6 :: a7 :: a8 :: a9 :: a10 :: .int x :: r) st σ Q := by
  intro p l e R s m args below meth c g H locs L C hP hD hS hL
  have hi : 11 < nL := by rw [← hL.2.2.1]; simp <;> omega
  subst hv
  obtain ⟨q, hq⟩ := List.getElem?_of_mem (rd_lv_mem (ad := g.2.1) (ls := a0 :: a1 :: a2 :: a3 :: a4 :: a5 :: a6 :: a7 :: a8 :: a9 :: a10 :: .int x :: r) (i := 11) (v := .int x) rfl (fun h => by cases h))
  exact lv_iinc C.1 C.2.1 hd (rd_L_has hL) hq rfl hi rfl (fun L' h' => k p l e R s m args below meth c g H locs L' C hP hD hS (rd_L_store (v := .int (x + Int32.ofInt n)) hL hi hok h'))
theorem rr_lstore_11 {a0 a1 a2 a3 a4 a5 a6 a7 a8 a9 a10 : Value} {w w2 : Value} {x : Int64} {r : List Value} (hd : decode cc pc = .ok (.lstore 11, 2)) (hok : rd_ok1 (a0 :: a1 :: a2 :: a3 :: a4 :: a5 :: a6 :: a7 :: a8 :: a9 :: a10 :: w :: w2 :: r) 11 = true) (k : rd_W N d own cc nL ret (pc + 2) (a0 :: a1 :: a2 :: a3 :: a4 :: a5 :: a6 :: a7 :: a8 :: a9 :: a10 :: .long x :: .retAddr 0 :: r) st σ Q) : rd_W N d own cc nL ret pc (a0 :: a1 :: a2 :: a3 :: a4 :: a5 :: a6 :: a7 :: a8 :: a9 :: a10 :: w :: w2 :: r) (.long x :: st) σ Q := by
  intro p l e R s m args below meth c g H locs L C hP hD hS hL
  have hi : 11 + 1 < nL := by rw [← hL.2.2.1]; simp <;> omega
  exact lv_lstore C.1 C.2.1 hd  (rd_L_has hL) hi rfl (fun L' h' => k p l e R s m args below meth c g H locs L' C hP hD hS (rd_L_store2 (v := .long x) hL hi hok h'))
theorem rr_iload_12 {a0 a1 a2 a3 a4 a5 a6 a7 a8 a9 a10 a11 : Value} {x : Int32} {r : List Value} (hd : decode cc pc = .ok (.iload 12, 2)) (k : rd_W N d own cc nL ret (pc + 2) (a0 :: a1 :: a2 :: a3 :: a4 :: a5 :: a6 :: a7 :: a8 :: a9 :: a10 :: a11 :: .int x :: r) (.int x :: st) σ Q) : rd_W N d own cc nL ret pc (a0 :: a1 :: a2 :: a3 :: a4 :: a5 :: a6 :: a7 :: a8 :: a9 :: a10 :: a11 :: .int x :: r) st σ Q := by
  intro p l e R s m args below meth c g H locs L C hP hD hS hL
  exact lv_iload C.1 C.2.1 hd  (hL.2.2.2 12 (.int x) rfl (fun h => by cases h)) (k p l e R s m args below meth c g H locs L C hP hD hS hL)
theorem rr_istore_12 {a0 a1 a2 a3 a4 a5 a6 a7 a8 a9 a10 a11 : Value} {w : Value} {x : Int32} {r : List Value} (hd : decode cc pc = .ok (.istore 12, 2)) (hok : rd_ok1 (a0 :: a1 :: a2 :: a3 :: a4 :: a5 :: a6 :: a7 :: a8 :: a9 :: a10 :: a11 :: w :: r) 12 = true) (k : rd_W N d own cc nL ret (pc + 2) (a0 :: a1 :: a2 :: a3 :: a4 :: a5 :: a6 :: a7 :: a8 :: a9 :: a10 :: a11 :: .int x :: r) st σ Q) : rd_W N d own cc nL ret pc (a0 :: a1 :: a2 :: a3 :: a4 :: a5 :: a6 :: a7 :: a8 :: a9 :: a10 :: a11 :: w :: r) (.int x :: st) σ Q := by
  intro p l e R s m args below meth c g H locs L C hP hD hS hL
  have hi : 12 < nL := by rw [← hL.2.2.1]; simp <;> omega
  exact lv_istore C.1 C.2.1 hd  (rd_L_has hL) hi rfl (fun L' h' => k p l e R s m args below meth c g H locs L' C hP hD hS (rd_L_store (v := .int x) hL hi hok h'))
theorem rr_lload_12 {a0 a1 a2 a3 a4 a5 a6 a7 a8 a9 a10 a11 : Value} {x : Int64} {r : List Value} (hd : decode cc pc = .ok (.lload 12, 2)) (k : rd_W N d own cc nL ret (pc + 2) (a0 :: a1 :: a2 :: a3 :: a4 :: a5 :: a6 :: a7 :: a8 :: a9 :: a10 :: a11 :: .long x :: r) (.long x :: st) σ Q) : rd_W N d own cc nL ret pc (a0 :: a1 :: a2 :: a3 :: a4 :: a5 :: a6 :: a7 :: a8 :: a9 :: a10 :: a11 :: .long x :: r) st σ Q := by
  intro p l e R s m args below meth c g H locs L C hP hD hS hL
  exact lv_lload C.1 C.2.1 hd  (hL.2.2.2 12 (.long x) rfl (fun h => by cases h)) (k p l e R s m args below meth c g H locs L C hP hD hS hL)
theorem rr_aload_12 {a0 a1 a2 a3 a4 a5 a6 a7 a8 a9 a10 a11 : Value} {x : Nat} {r : List Value} (hd : decode cc pc = .ok (.aload 12, 2)) (k : rd_W N d own cc nL ret (pc + 2) (a0 :: a1 :: a2 :: a3 :: a4 :: a5 :: a6 :: a7 :: a8 :: a9 :: a10 :: a11 :: .ref x :: r) (.ref x :: st) σ Q) : rd_W N d own cc nL ret pc (a0 :: a1 :: a2 :: a3 :: a4 :: a5 :: a6 :: a7 :: a8 :: a9 :: a10 :: a11 :: .ref x :: r) st σ Q := by
  intro p l e R s m args below meth c g H locs L C hP hD hS hL
  exact lv_aload C.1 C.2.1 hd  (hL.2.2.2 12 (.ref x) rfl (fun h => by cases h)) (k p l e R s m args below meth c g H locs L C hP hD hS hL)
theorem rr_astore_12 {a0 a1 a2 a3 a4 a5 a6 a7 a8 a9 a10 a11 : Value} {w : Value} {x : Nat} {r : List Value} (hd : decode cc pc = .ok (.astore 12, 2)) (hok : rd_ok1 (a0 :: a1 :: a2 :: a3 :: a4 :: a5 :: a6 :: a7 :: a8 :: a9 :: a10 :: a11 :: w :: r) 12 = true) (k : rd_W N d own cc nL ret (pc + 2) (a0 :: a1 :: a2 :: a3 :: a4 :: a5 :: a6 :: a7 :: a8 :: a9 :: a10 :: a11 :: .ref x :: r) st σ Q) : rd_W N d own cc nL ret pc (a0 :: a1 :: a2 :: a3 :: a4 :: a5 :: a6 :: a7 :: a8 :: a9 :: a10 :: a11 :: w :: r) (.ref x :: st) σ Q := by
  intro p l e R s m args below meth c g H locs L C hP hD hS hL
  have hi : 12 < nL := by rw [← hL.2.2.1]; simp <;> omega
  exact lv_astore C.1 C.2.1 hd  (rd_L_has hL) hi rfl (fun L' h' => k p l e R s m args below meth c g H locs L' C hP hD hS (rd_L_store (v := .ref x) hL hi hok h'))
theorem rr_iinc_12 {a0 a1 a2 a3 a4 a5 a6 a7 a8 a9 a10 a11 : Value} {x : Int32} {n : Int} (v : Int32) {r : List Value} (hd : decode cc pc = .ok (.iinc 12 n, 3)) (hv : Int32.ofInt n = v) (hok : rd_ok1 (a0 :: a1 :: a2 :: a3 :: a4 :: a5 :: a6 :: a7 :: a8 :: a9 :: a10 :: a11 :: .int x :: r) 12 = true) (k : rd_W N d own cc nL ret (pc + 3) (a0 :: a1 :: a2 :: a3 :: a4 :: a5 :: a6 :: a7 :: a8 :: a9 :: a10 :: a11 :: .int (x + v) :: r) st σ Q) : rd_W N d own cc nL ret pc (a0 :: a1 :: a2 :: a3 :: a4 :: a5 :: a6 :: a7 :: a8 :: a9 :: a10 :: a11 :: .int x :: r) st σ Q := by
  intro p l e R s m args below meth c g H locs L C hP hD hS hL
  have hi : 12 < nL := by rw [← hL.2.2.1]; simp <;> omega
  subst hv
  obtain ⟨q, hq⟩ := List.getElem?_of_mem (rd_lv_mem (ad := g.2.1) (ls := a0 :: a1 :: a2 :: a3 :: a4 :: a5 :: a6 :: a7 :: a8 :: a9 :: a10 :: a11 :: .int x :: r) (i := 12) (v := .int x) rfl (fun h => by cases h))
  exact lv_iinc C.1 C.2.1 hd (rd_L_has hL) hq rfl hi rfl (fun L' h' => k p l e R s m args below meth c g H locs L' C hP hD hS (rd_L_store (v := .int (x + Int32.ofInt n)) hL hi hok h'))
theorem rr_lstore_12 {a0 a1 a2 a3 a4 a5 a6 a7 a8 a9 a10 a11 : Value} {w w2 : Value} {x : Int64} {r : List Value} (hd : decode cc pc = .ok (.lstore 12, 2)) (hok : rd_ok1 (a0 :: a1 :: a2 :: a3 :: a4 :: a5 :: a6 :: a7 :: a8 :: a9 :: a10 :: a11 :: w :: w2 :: r) 12 = true) (k : rd_W N d own cc nL ret (pc + 2) (a0 :: a1 :: a2 :: a3 :: a4 :: a5 :: a6 :: a7 :: a8 :: a9 :: a10 :: a11 :: .long x :: .retAddr 0 :: r) st σ Q) : rd_W N d own cc nL ret pc (a0 :: a1 :: a2 :: a3 :: a4 :: a5 :: a6 :: a7 :: a8 :: a9 :: a10 :: a11 :: w :: w2 :: r) (.long x :: st) σ Q := by
  intro p l e R s m args below meth c g H locs L C hP hD hS hL
  have hi : 12 + 1 < nL := by rw [← hL.2.2.1]; simp <;> omega
  exact lv_lstore C.1 C.2.1 hd  (rd_L_has hL) hi rfl (fun L' h' => k p l e R s m args below meth c g H locs L' C hP hD hS (rd_L_store2 (v := .long x) hL hi hok h'))
theorem rr_iload_13 {a0 a1 a2 a3 a4 a5 a6 a7 a8 a9 a10 a11 a12 : Value} {x : Int32} {r : List Value} (hd : decode cc pc = .ok (.iload 13, 2)) (k : rd_W N d own cc nL ret (pc + 2) (a0 :: a1 :: a2 :: a3 :: a4 :: a5 :: a6 :: a7 :: a8 :: a9 :: a10 :: a11 :: a12 :: .int x :: r) (.int x :: st) σ Q) : rd_W N d own cc nL ret pc (a0 :: a1 :: a2 :: a3 :: a4 :: a5 :: a6 :: a7 :: a8 :: a9 :: a10 :: a11 :: a12 :: .int x :: r) st σ Q := by
  intro p l e R s m args below meth c g H locs L C hP hD hS hL
  exact lv_iload C.1 C.2.1 hd  (hL.2.2.2 13 (.int x) rfl (fun h => by cases h)) (k p l e R s m args below meth c g H locs L C hP hD hS hL)
theorem rr_istore_13 {a0 a1 a2 a3 a4 a5 a6 a7 a8 a9 a10 a11 a12 : Value} {w : Value} {x : Int32} {r : List Value} (hd : decode cc pc = .ok (.istore 13, 2)) (hok : rd_ok1 (a0 :: a1 :: a2 :: a3 :: a4 :: a5 :: a6 :: a7 :: a8 :: a9 :: a10 :: a11 :: a12 :: w :: r) 13 = true) (k : rd_W N d own cc nL ret (pc + 2) (a0 :: a1 :: a2 :: a3 :: a4 :: a5 :: a6 :: a7 :: a8 :: a9 :: a10 :: a11 :: a12 :: .int x :: r) st σ Q) : rd_W N d own cc nL ret pc (a0 :: a1 :: a2 :: a3 :: a4 :: a5 :: a6 :: a7 :: a8 :: a9 :: a10 :: a11 :: a12 :: w :: r) (.int x :: st) σ Q := by
  intro p l e R s m args below meth c g H locs L C hP hD hS hL
  have hi : 13 < nL := by rw [← hL.2.2.1]; simp <;> omega
  exact lv_istore C.1 C.2.1 hd  (rd_L_has hL) hi rfl (fun L' h' => k p l e R s m args below meth c g H locs L' C hP hD hS (rd_L_store (v := .int x) hL hi hok h'))
theorem rr_lload_13 {a0 a1 a2 a3 a4 a5 a6 a7 a8 a9 a10 a11 a12 : Value} {x : Int64} {r : List Value} (hd : decode cc pc = .ok (.lload 13, 2)) (k : rd_W N d own cc nL ret (pc + 2) (a0 :: a1 :: a2 :: a3 :: a4 :: a5 :: a6 :: a7 :: a8 :: a9 :: a10 :: a11 :: a12 :: .long x :: r) (.long x :: st) σ Q) : rd_W N d own cc nL ret pc (a0 :: a1 :: a2 :: a3 :: a4 :: a5 :: a6 :: a7 :: a8 :: a9 :: a10 :: a11 :: a12 :: .long x :: r) st σ Q := by
  intro p l e R s m args below meth c g H locs L C hP hD hS hL
  exact lv_lload C.1 C.2.1 hd  (hL.2.2.2 13 (.long x) rfl (fun h => by cases h)) (k p l e R s m args below meth c g H locs L C hP hD hS hL)
theorem rr_aload_13 {a0 a1 a2 a3 a4 a5 a6 a7 a8 a9 a10 a11 a12 : Value} {x : Nat} {r : List Value} (hd : decode cc pc = .ok (.aload 13, 2)) (k : rd_W N d own cc nL ret (pc + 2) (a0 :: a1 :: a2 :: a3 :: a4 :: a5 :: a6 :: a7 :: a8 :: a9 :: a10 :: a11 :: a12 :: .ref x :: r) (.ref x :: st) σ Q) : rd_W N d own cc nL ret pc (a0 :: a1 :: a2 :: a3 :: a4 :: a5 :: a6 :: a7 :: a8 :: a9 :: a10 :: a11 :: a12 :: .ref x :: r) st σ Q := by
  intro p l e R s m args below meth c g H locs L C hP hD hS hL
  exact lv_aload C.1 C.2.1 hd  (hL.2.2.2 13 (.ref x) rfl (fun h => by cases h)) (k p l e R s m args below meth c g H locs L C hP hD hS hL)
theorem rr_astore_13 {a0 a1 a2 a3 a4 a5 a6 a7 a8 a9 a10 a11 a12 : Value} {w : Value} {x : Nat} {r : List Value} (hd : decode cc pc = .ok (.astore 13, 2)) (hok : rd_ok1 (a0 :: a1 :: a2 :: a3 :: a4 :: a5 :: a6 :: a7 :: a8 :: a9 :: a10 :: a11 :: a12 :: w :: r) 13 = true) (k : rd_W N d own cc nL ret (pc + 2) (a0 :: a1 :: a2 :: a3 :: a4 :: a5 :: a6 :: a7 :: a8 :: a9 :: a10 :: a11 :: a12 :: .ref x :: r) st σ Q) : rd_W N d own cc nL ret pc (a0 :: a1 :: a2 :: a3 :: a4 :: a5 :: a6 :: a7 :: a8 :: a9 :: a10 :: a11 :: a12 :: w :: r) (.ref x :: st) σ Q := by
  intro p l e R s m args below meth c g H locs L C hP hD hS hL
  have hi : 13 < nL := by rw [← hL.2.2.1]; simp <;> omega
  exact lv_astore C.1 C.2.1 hd  (rd_L_has hL) hi rfl (fun L' h' => k p l e R s m args below meth c g H locs L' C hP hD hS (rd_L_store (v := .ref x) hL hi hok h'))
theorem rr_iinc_13 {a0 a1 a2 a3 a4 a5 a6 a7 a8 a9 a10 a11 a12 : Value} {x : Int32} {n : Int} (v : Int32) {r : List Value} (hd : decode cc pc = .ok (.iinc 13 n, 3)) (hv : Int32.ofInt n = v) (hok : rd_ok1 (a0 :: a1 :: a2 :: a3 :: a4 :: a5 :: a6 :: a7 :: a8 :: a9 :: a10 :: a11 :: a12 :: .int x :: r) 13 = true) (k : rd_W N d own cc nL ret (pc + 3) (a0 :: a1 :: a2 :: a3 :: a4 :: a5 :: a6 :: a7 :: a8 :: a9 :: a10 :: a11 :: a12 :: .int (x + v) :: r) st σ Q) : rd_W N d own cc nL ret pc (a0 :: a1 :: a2 :: a3 :: a4 :: a5 :: a6 :: a7 :: a8 :: a9 :: a10 :: a11 :: a12 :: .int x :: r) st σ Q := by
  intro p l e R s m args below meth c g H locs L C hP hD hS hL
  have hi : 13 < nL := by rw [← hL.2.2.1]; simp <;> omega
  subst hv
  obtain ⟨q, hq⟩ := List.getElem?_of_mem (rd_lv_mem (ad := g.2.1) (ls := a0 :: a1 :: a2 :: a3 :: a4 :: a5 :: a6 :: a7 :: a8 :: a9 :: a10 :: a11 :: a12 :: .int x :: r) (i := 13) (v := .int x) rfl (fun h => by cases h))
  exact lv_iinc C.1 C.2.1 hd (rd_L_has hL) hq rfl hi rfl (fun L' h' => k p l e R s m args below meth c g H locs L' C hP hD hS (rd_L_store (v := .int (x + Int32.ofInt n)) hL hi hok h'))
theorem rr_lstore_13 {a0 a1 a2 a3 a4 a5 a6 a7 a8 a9 a10 a11 a12 : Value} {w w2 : Value} {x : Int64} {r : List Value} (hd : decode cc pc = .ok (.lstore 13, 2)) (hok : rd_ok1 (a0 :: a1 :: a2 :: a3 :: a4 :: a5 :: a6 :: a7 :: a8 :: a9 :: a10 :: a11 :: a12 :: w :: w2 :: r) 13 = true) (k : rd_W N d own cc nL ret (pc + 2) (a0 :: a1 :: a2 :: a3 :: a4 :: a5 :: a6 :: a7 :: a8 :: a9 :: a10 :: a11 :: a12 :: .long x :: .retAddr 0 :: r) st σ Q) : rd_W N d own cc nL ret pc (a0 :: a1 :: a2 :: a3 :: a4 :: a5 :: a6 :: a7 :: a8 :: a9 :: a10 :: a11 :: a12 :: w :: w2 :: r) (.long x :: st) σ Q := by
  intro p l e R s m args below meth c g H locs L C hP hD hS hL
  have hi : 13 + 1 < nL := by rw [← hL.2.2.1]; simp <;> omega
  exact lv_lstore C.1 C.2.1 hd  (rd_L_has hL) hi rfl (fun L' h' => k p l e R s m args below meth c g H locs L' C hP hD hS (rd_L_store2 (v := .long x) hL hi hok h'))
theorem rr_iadd {x y : Int32} (hd : decode cc pc = .ok (.iadd, 1))  (k : rd_W N d own cc nL ret (pc + 1) ls (.int (x + y) :: st) σ Q) : rd_W N d own cc nL ret pc ls (.int y :: .int x :: st) σ Q := by
  intro p l e R s m args below meth c g H locs L C hP hD hS hL
  exact lv_iadd C.1 C.2.1 hd  (k p l e R s m args below meth c g H locs L C hP hD hS hL)
theorem rr_isub {x y : Int32} (hd : decode cc pc = .ok (.isub, 1))  (k : rd_W N d own cc nL ret (pc + 1) ls (.int (x - y) :: st) σ Q) : rd_W N d own cc nL ret pc ls (.int y :: .int x :: st) σ Q := by
  intro p l e R s m args below meth c g H locs L C hP hD hS hL
  exact lv_isub C.1 C.2.1 hd  (k p l e R s m args below meth c g H locs L C hP hD hS hL)
theorem rr_imul {x y : Int32} (hd : decode cc pc = .ok (.imul, 1))  (k : rd_W N d own cc nL ret (pc + 1) ls (.int (x * y) :: st) σ Q) : rd_W N d own cc nL ret pc ls (.int y :: .int x :: st) σ Q := by
  intro p l e R s m args below meth c g H locs L C hP hD hS hL
  exact lv_imul C.1 C.2.1 hd  (k p l e R s m args below meth c g H locs L C hP hD hS hL)
theorem rr_iand {x y : Int32} (hd : decode cc pc = .ok (.iand, 1))  (k : rd_W N d own cc nL ret (pc + 1) ls (.int (x &&& y) :: st) σ Q) : rd_W N d own cc nL ret pc ls (.int y :: .int x :: st) σ Q := by
  intro p l e R s m args below meth c g H locs L C hP hD hS hL
  exact lv_iand C.1 C.2.1 hd  (k p l e R s m args below meth c g H locs L C hP hD hS hL)
theorem rr_ior {x y : Int32} (hd : decode cc pc = .ok (.ior, 1))  (k : rd_W N d own cc nL ret (pc + 1) ls (.int (x ||| y) :: st) σ Q) : rd_W N d own cc nL ret pc ls (.int y :: .int x :: st) σ Q := by
  intro p l e R s m args below meth c g H locs L C hP hD hS hL
  exact lv_ior C.1 C.2.1 hd  (k p l e R s m args below meth c g H locs L C hP hD hS hL)
theorem rr_ixor {x y : Int32} (hd : decode cc pc = .ok (.ixor, 1))  (k : rd_W N d own cc nL ret (pc + 1) ls (.int (x ^^^ y) :: st) σ Q) : rd_W N d own cc nL ret pc ls (.int y :: .int x :: st) σ Q := by
  intro p l e R s m args below meth c g H locs L C hP hD hS hL
  exact lv_ixor C.1 C.2.1 hd  (k p l e R s m args below meth c g H locs L C hP hD hS hL)
theorem rr_ishl {x y : Int32} (hd : decode cc pc = .ok (.ishl, 1))  (k : rd_W N d own cc nL ret (pc + 1) ls (.int (x <<< (y &&& 31)) :: st) σ Q) : rd_W N d own cc nL ret pc ls (.int y :: .int x :: st) σ Q := by
  intro p l e R s m args below meth c g H locs L C hP hD hS hL
  exact lv_ishl C.1 C.2.1 hd  (k p l e R s m args below meth c g H locs L C hP hD hS hL)
theorem rr_ishr {x y : Int32} (hd : decode cc pc = .ok (.ishr, 1))  (k : rd_W N d own cc nL ret (pc + 1) ls (.int (x >>> (y &&& 31)) :: st) σ Q) : rd_W N d own cc nL ret pc ls (.int y :: .int x :: st) σ Q := by
  intro p l e R s m args below meth c g H locs L C hP hD hS hL
  exact lv_ishr C.1 C.2.1 hd  (k p l e R s m args below meth c g H locs L C hP hD hS hL)
theorem rr_idiv {x y : Int32} (hd : decode cc pc = .ok (.idiv, 1)) (hne : ¬ y = 0) (k : rd_W N d own cc nL ret (pc + 1) ls (.int (x / y) :: st) σ Q) : rd_W N d own cc nL ret pc ls (.int y :: .int x :: st) σ Q := by
  intro p l e R s m args below meth c g H locs L C hP hD hS hL
  exact lv_idiv C.1 C.2.1 hd hne (k p l e R s m args below meth c g H locs L C hP hD hS hL)
theorem rr_irem {x y : Int32} (hd : decode cc pc = .ok (.irem, 1)) (hne : ¬ y = 0) (k : rd_W N d own cc nL ret (pc + 1) ls (.int (x - x / y * y) :: st) σ Q) : rd_W N d own cc nL ret pc ls (.int y :: .int x :: st) σ Q := by
  intro p l e R s m args below meth c g H locs L C hP hD hS hL
  exact lv_irem C.1 C.2.1 hd hne (k p l e R s m args below meth c g H locs L C hP hD hS hL)
theorem rr_ineg {x : Int32} (hd : decode cc pc = .ok (.ineg, 1))  (k : rd_W N d own cc nL ret (pc + 1) ls (.int (-x) :: st) σ Q) : rd_W N d own cc nL ret pc ls (.int x :: st) σ Q := by
  intro p l e R s m args below meth c g H locs L C hP hD hS hL
  exact lv_ineg C.1 C.2.1 hd  (k p l e R s m args below meth c g H locs L C hP hD hS hL)
theorem rr_iushr {x y : Int32} (hd : decode cc pc = .ok (.iushr, 1))  (k : rd_W N d own cc nL ret (pc + 1) ls (.int (x.toUInt32 >>> (y.toUInt32 &&& Int32.toUInt32 31)).toInt32 :: st) σ Q) : rd_W N d own cc nL ret pc ls (.int y :: .int x :: st) σ Q := by
  intro p l e R s m args below meth c g H locs L C hP hD hS hL
  exact lv_iushr C.1 C.2.1 hd rfl (k p l e R s m args below meth c g H locs L C hP hD hS hL)
theorem rr_ladd {x y : Int64} (hd : decode cc pc = .ok (.ladd, 1))  (k : rd_W N d own cc nL ret (pc + 1) ls (.long (x + y) :: st) σ Q) : rd_W N d own cc nL ret pc ls (.long y :: .long x :: st) σ Q := by
  intro p l e R s m args below meth c g H locs L C hP hD hS hL
  exact lv_ladd C.1 C.2.1 hd  (k p l e R s m args below meth c g H locs L C hP hD hS hL)
theorem rr_lmul {x y : Int64} (hd : decode cc pc = .ok (.lmul, 1))  (k : rd_W N d own cc nL ret (pc + 1) ls (.long (x * y) :: st) σ Q) : rd_W N d own cc nL ret pc ls (.long y :: .long x :: st) σ Q := by
  intro p l e R s m args below meth c g H locs L C hP hD hS hL
  exact lv_lmul C.1 C.2.1 hd  (k p l e R s m args below meth c g H locs L C hP hD hS hL)
theorem rr_lsub {x y : Int64} (hd : decode cc pc = .ok (.lsub, 1))  (k : rd_W N d own cc nL ret (pc + 1) ls (.long (x - y) :: st) σ Q) : rd_W N d own cc nL ret pc ls (.long y :: .long x :: st) σ Q := by
  intro p l e R s m args below meth c g H locs L C hP hD hS hL
  exact lv_lsub C.1 C.2.1 hd  (k p l e R s m args below meth c g H locs L C hP hD hS hL)
theorem rr_lrem {x y : Int64} (hd : decode cc pc = .ok (.lrem, 1)) (hne : ¬ y = 0) (k : rd_W N d own cc nL ret (pc + 1) ls (.long (x - x / y * y) :: st) σ Q) : rd_W N d own cc nL ret pc ls (.long y :: .long x :: st) σ Q := by
  intro p l e R s m args below meth c g H locs L C hP hD hS hL
  exact lv_lrem C.1 C.2.1 hd hne (k p l e R s m args below meth c g H locs L C hP hD hS hL)
theorem rr_i2l {x : Int32} (hd : decode cc pc = .ok (.i2l, 1))  (k : rd_W N d own cc nL ret (pc + 1) ls (.long x.toInt64 :: st) σ Q) : rd_W N d own cc nL ret pc ls (.int x :: st) σ Q := by
  intro p l e R s m args below meth c g H locs L C hP hD hS hL
  exact lv_i2l C.1 C.2.1 hd rfl (k p l e R s m args below meth c g H locs L C hP hD hS hL)
theorem rr_l2i {x : Int64} (hd : decode cc pc = .ok (.l2i, 1))  (k : rd_W N d own cc nL ret (pc + 1) ls (.int x.toInt32 :: st) σ Q) : rd_W N d own cc nL ret pc ls (.long x :: st) σ Q := by
  intro p l e R s m args below meth c g H locs L C hP hD hS hL
  exact lv_l2i C.1 C.2.1 hd rfl (k p l e R s m args below meth c g H locs L C hP hD hS hL)
theorem rr_i2b {x : Int32} (hd : decode cc pc = .ok (.i2b, 1))  (k : rd_W N d own cc nL ret (pc + 1) ls (.int x.toInt8.toInt32 :: st) σ Q) : rd_W N d own cc nL ret pc ls (.int x :: st) σ Q := by
  intro p l e R s m args below meth c g H locs L C hP hD hS hL
  exact lv_i2b C.1 C.2.1 hd rfl (k p l e R s m args below meth c g H locs L C hP hD hS hL)
theorem rr_lcmp {x y : Int64} (hd : decode cc pc = .ok (.lcmp, 1))  (k : rd_W N d own cc nL ret (pc + 1) ls (.int (lg_cmp x y) :: st) σ Q) : rd_W N d own cc nL ret pc ls (.long y :: .long x :: st) σ Q := by
  intro p l e R s m args below meth c g H locs L C hP hD hS hL
  exact W.lcmp C.1 C.2.1 hd  (k p l e R s m args below meth c g H locs L C hP hD hS hL)
theorem rr_dup {v : Value} (hd : decode cc pc = .ok (.dup, 1)) (hc : v.category = 1) (k : rd_W N d own cc nL ret (pc + 1) ls (v :: v :: st) σ Q) : rd_W N d own cc nL ret pc ls (v :: st) σ Q := by
  intro p l e R s m args below meth c g H locs L C hP hD hS hL
  exact lv_dup C.1 C.2.1 hd (by rw [rd_tr_cat]; exact hc) (k p l e R s m args below meth c g H locs L C hP hD hS hL)
theorem rr_pop {v : Value} (hd : decode cc pc = .ok (.pop, 1)) (hc : v.category = 1) (k : rd_W N d own cc nL ret (pc + 1) ls (st) σ Q) : rd_W N d own cc nL ret pc ls (v :: st) σ Q := by
  intro p l e R s m args below meth c g H locs L C hP hD hS hL
  exact lv_pop C.1 C.2.1 hd (by rw [rd_tr_cat]; exact hc) (k p l e R s m args below meth c g H locs L C hP hD hS hL)
theorem rr_dup2 {v u : Value} (hd : decode cc pc = .ok (.dup2, 1)) (hc : v.category = 1) (hu : u.category = 1) (k : rd_W N d own cc nL ret (pc + 1) ls (v :: u :: v :: u :: st) σ Q) : rd_W N d own cc nL ret pc ls (v :: u :: st) σ Q := by
  intro p l e R s m args below meth c g H locs L C hP hD hS hL
  exact lv_dup2_11 C.1 C.2.1 hd (by rw [rd_tr_cat]; exact hc) (by rw [rd_tr_cat]; exact hu) (k p l e R s m args below meth c g H locs L C hP hD hS hL)
theorem rr_if_eq {x : Int32} {off : Int} (tgt : Nat) (hd : decode cc pc = .ok (.ifCond .eq off, 3)) (ht : (pc : Int) + off = (tgt : Int)) (kt : x = 0 → rd_W N d own cc nL ret tgt ls st σ Q) (kf : ¬ x = 0 → rd_W N d own cc nL ret (pc + 3) ls st σ Q) : rd_W N d own cc nL ret pc ls (.int x :: st) σ Q := by
  intro p l e R s m args below meth c g H locs L C hP hD hS hL
  exact lv_if_eq C.1 C.2.1 hd ht (fun h => kt h p l e R s m args below meth c g H locs L C hP hD hS hL) (fun h => kf h p l e R s m args below meth c g H locs L C hP hD hS hL)
theorem rr_icmp_eq {x y : Int32} {off : Int} (tgt : Nat) (hd : decode cc pc = .ok (.if_icmp .eq off, 3)) (ht : (pc : Int) + off = (tgt : Int)) (kt : x = y → rd_W N d own cc nL ret tgt ls st σ Q) (kf : ¬ x = y → rd_W N d own cc nL ret (pc + 3) ls st σ Q) : rd_W N d own cc nL ret pc ls (.int y :: .int x :: st) σ Q := by
  intro p l e R s m args below meth c g H locs L C hP hD hS hL
  exact lv_icmp_eq C.1 C.2.1 hd ht (fun h => kt h p l e R s m args below meth c g H locs L C hP hD hS hL) (fun h => kf h p l e R s m args below meth c g H locs L C hP hD hS hL)
theorem rr_if_ne {x : Int32} {off : Int} (tgt : Nat) (hd : decode cc pc = .ok (.ifCond .ne off, 3)) (ht : (pc : Int) + off = (tgt : Int)) (kt : ¬ x = 0 → rd_W N d own cc nL ret tgt ls st σ Q) (kf : x = 0 → rd_W N d own cc nL ret (pc + 3) ls st σ Q) : rd_W N d own cc nL ret pc ls (.int x :: st) σ Q := by
  intro p l e R s m args below meth c g H locs L C hP hD hS hL
  exact lv_if_ne C.1 C.2.1 hd ht (fun h => kt h p l e R s m args below meth c g H locs L C hP hD hS hL) (fun h => kf h p l e R s m args below meth c g H locs L C hP hD hS hL)
theorem rr_icmp_ne {x y : Int32} {off : Int} (tgt : Nat) (hd : decode cc pc = .ok (.if_icmp .ne off, 3)) (ht : (pc : Int) + off = (tgt : Int)) (kt : ¬ x = y → rd_W N d own cc nL ret tgt ls st σ Q) (kf : x = y → rd_W N d own cc nL ret (pc + 3) ls st σ Q) : rd_W N d own cc nL ret pc ls (.int y :: .int x :: st) σ Q := by
  intro p l e R s m args below meth c g H locs L C hP hD hS hL
  exact lv_icmp_ne C.1 C.2.1 hd ht (fun h => kt h p l e R s m args below meth c g H locs L C hP hD hS hL) (fun h => kf h p l e R s m args below meth c g H locs L C hP hD hS hL)
theorem rr_if_lt {x : Int32} {off : Int} (tgt : Nat) (hd : decode cc pc = .ok (.ifCond .lt off, 3)) (ht : (pc : Int) + off = (tgt : Int)) (kt : x < 0 → rd_W N d own cc nL ret tgt ls st σ Q) (kf : ¬ x < 0 → rd_W N d own cc nL ret (pc + 3) ls st σ Q) : rd_W N d own cc nL ret pc ls (.int x :: st) σ Q := by
  intro p l e R s m args below meth c g H locs L C hP hD hS hL
  exact lv_if_lt C.1 C.2.1 hd ht (fun h => kt h p l e R s m args below meth c g H locs L C hP hD hS hL) (fun h => kf h p l e R s m args below meth c g H locs L C hP hD hS hL)
theorem rr_icmp_lt {x y : Int32} {off : Int} (tgt : Nat) (hd : decode cc pc = .ok (.if_icmp .lt off, 3)) (ht : (pc : Int) + off = (tgt : Int)) (kt : x < y → rd_W N d own cc nL ret tgt ls st σ Q) (kf : ¬ x < y → rd_W N d own cc nL ret (pc + 3) ls st σ Q) : rd_W N d own cc nL ret pc ls (.int y :: .int x :: st) σ Q := by
  intro p l e R s m args below meth c g H locs L C hP hD hS hL
  exact lv_icmp_lt C.1 C.2.1 hd ht (fun h => kt h p l e R s m args below meth c g H locs L C hP hD hS hL) (fun h => kf h p l e R s m args below meth c g H locs L C hP hD hS hL)
theorem rr_if_ge {x : Int32} {off : Int} (tgt : Nat) (hd : decode cc pc = .ok (.ifCond .ge off, 3)) (ht : (pc : Int) + off = (tgt : Int)) (kt : 0 ≤ x → rd_W N d own cc nL ret tgt ls st σ Q) (kf : ¬ 0 ≤ x → rd_W N d own cc nL ret (pc + 3) ls st σ Q) : rd_W N d own cc nL ret pc ls (.int x :: st) σ Q := by
  intro p l e R s m args below meth c g H locs L C hP hD hS hL
  exact lv_if_ge C.1 C.2.1 hd ht (fun h => kt h p l e R s m args below meth c g H locs L C hP hD hS hL) (fun h => kf h p l e R s m args below meth c g H locs L C hP hD hS hL)
theorem rr_icmp_ge {x y : Int32} {off : Int} (tgt : Nat) (hd : decode cc pc = .ok (.if_icmp .ge off, 3)) (ht : (pc : Int) + off = (tgt : Int)) (kt : y ≤ x → rd_W N d own cc nL ret tgt ls st σ Q) (kf : ¬ y ≤ x → rd_W N d own cc nL ret (pc + 3) ls st σ Q) : rd_W N d own cc nL ret pc ls (.int y :: .int x :: st) σ Q := by
  intro p l e R s m args below meth c g H locs L C hP hD hS hL
  exact lv_icmp_ge C.1 C.2.1 hd ht (fun h => kt h p l e R s m args below meth c g H locs L C hP hD hS hL) (fun h => kf h p l e R s m args below meth c g H locs L C hP hD hS hL)
theorem rr_if_gt {x : Int32} {off : Int} (tgt : Nat) (hd : decode cc pc = .ok (.ifCond .gt off, 3)) (ht : (pc : Int) + off = (tgt : Int)) (kt : 0 < x → rd_W N d own cc nL ret tgt ls st σ Q) (kf : ¬ 0 < x → rd_W N d own cc nL ret (pc + 3) ls st σ Q) : rd_W N d own cc nL ret pc ls (.int x :: st) σ Q := by
  intro p l e R s m args below meth c g H locs L C hP hD hS hL
  exact lv_if_gt C.1 C.2.1 hd ht (fun h => kt h p l e R s m args below meth c g H locs L C hP hD hS hL) (fun h => kf h p l e R s m args below meth c g H locs L C hP hD hS hL)
theorem rr_icmp_gt {x y : Int32} {off : Int} (tgt : Nat) (hd : decode cc pc = .ok (.if_icmp .gt off, 3)) (ht : (pc : Int) + off = (tgt : Int)) (kt : y < x → rd_W N d own cc nL ret tgt ls st σ Q) (kf : ¬ y < x → rd_W N d own cc nL ret (pc + 3) ls st σ Q) : rd_W N d own cc nL ret pc ls (.int y :: .int x :: st) σ Q := by
  intro p l e R s m args below meth c g H locs L C hP hD hS hL
  exact lv_icmp_gt C.1 C.2.1 hd ht (fun h => kt h p l e R s m args below meth c g H locs L C hP hD hS hL) (fun h => kf h p l e R s m args below meth c g H locs L C hP hD hS hL)
theorem rr_if_le {x : Int32} {off : Int} (tgt : Nat) (hd : decode cc pc = .ok (.ifCond .le off, 3)) (ht : (pc : Int) + off = (tgt : Int)) (kt : x ≤ 0 → rd_W N d own cc nL ret tgt ls st σ Q) (kf : ¬ x ≤ 0 → rd_W N d own cc nL ret (pc + 3) ls st σ Q) : rd_W N d own cc nL ret pc ls (.int x :: st) σ Q := by
  intro p l e R s m args below meth c g H locs L C hP hD hS hL
  exact lv_if_le C.1 C.2.1 hd ht (fun h => kt h p l e R s m args below meth c g H locs L C hP hD hS hL) (fun h => kf h p l e R s m args below meth c g H locs L C hP hD hS hL)
theorem rr_icmp_le {x y : Int32} {off : Int} (tgt : Nat) (hd : decode cc pc = .ok (.if_icmp .le off, 3)) (ht : (pc : Int) + off = (tgt : Int)) (kt : x ≤ y → rd_W N d own cc nL ret tgt ls st σ Q) (kf : ¬ x ≤ y → rd_W N d own cc nL ret (pc + 3) ls st σ Q) : rd_W N d own cc nL ret pc ls (.int y :: .int x :: st) σ Q := by
  intro p l e R s m args below meth c g H locs L C hP hD hS hL
  exact lv_icmp_le C.1 C.2.1 hd ht (fun h => kt h p l e R s m args below meth c g H locs L C hP hD hS hL) (fun h => kf h p l e R s m args below meth c g H locs L C hP hD hS hL)
theorem rr_goto {off : Int} (tgt : Nat) (hd : decode cc pc = .ok (.goto off, 3)) (ht : (pc : Int) + off = (tgt : Int)) (k : rd_W N d own cc nL ret tgt ls st σ Q) : rd_W N d own cc nL ret pc ls st σ Q := by
  intro p l e R s m args below meth c g H locs L C hP hD hS hL
  exact lv_goto C.1 C.2.1 hd ht (k p l e R s m args below meth c g H locs L C hP hD hS hL)
theorem rr_tableIn {dflt lo hi : Int} {offs : Array Int} {len : Nat} {x : Int32} {off : Int} (tgt : Nat) (hd : decode cc pc = .ok (.tableswitch dflt lo hi offs, len)) (h1 : ¬ x.toInt < lo) (h2 : ¬ hi < x.toInt) (ho : offs[(x.toInt - lo).toNat]? = some off) (ht : (pc : Int) + off = (tgt : Int)) (k : rd_W N d own cc nL ret tgt ls st σ Q) : rd_W N d own cc nL ret pc ls (.int x :: st) σ Q := by
  intro p l e R s m args below meth c g H locs L C hP hD hS hL
  exact lv_tableIn C.1 C.2.1 hd h1 h2 ho ht (k p l e R s m args below meth c g H locs L C hP hD hS hL)
theorem rr_tableOut {dflt lo hi : Int} {offs : Array Int} {len : Nat} {x : Int32} (tgt : Nat) (hd : decode cc pc = .ok (.tableswitch dflt lo hi offs, len)) (h : x.toInt < lo ∨ hi < x.toInt) (ht : (pc : Int) + dflt = (tgt : Int)) (k : rd_W N d own cc nL ret tgt ls st σ Q) : rd_W N d own cc nL ret pc ls (.int x :: st) σ Q := by
  intro p l e R s m args below meth c g H locs L C hP hD hS hL
  exact lv_tableOut C.1 C.2.1 hd h ht (k p l e R s m args below meth c g H locs L C hP hD hS hL)
theorem rr_lookup {dflt : Int} {ps : Array (Int × Int)} {len : Nat} {x : Int32} {off : Int} (tgt : Nat) (hd : decode cc pc = .ok (.lookupswitch dflt ps, len)) (hp : (ps.toList.zip (ps.toList.drop 1)).all (fun (a, next) => a.1 < next.1) = true) (ho : Op.lookupswitch.offset ps.toList dflt x.toInt = off) (ht : (pc : Int) + off = (tgt : Int)) (k : rd_W N d own cc nL ret tgt ls st σ Q) : rd_W N d own cc nL ret pc ls (.int x :: st) σ Q := by
  intro p l e R s m args below meth c g H locs L C hP hD hS hL
  exact lv_lookup C.1 C.2.1 hd hp ho ht (k p l e R s m args below meth c g H locs L C hP hD hS hL)
theorem rr_iret {v : Int32} (hd : decode cc pc = .ok (.ireturn, 1)) (h : Q (some (.int v)) σ) : rd_W N d own cc nL (some .int) pc ls [.int v] σ Q := by
  intro p l e R s m args below meth c g H locs L C hP hD hS hL
  have hlocks : meth.locks = false := C.2.2.2.2.1
  exact W.iret (v := v) C.1 C.2.1 C.2.2.2.1 (fun t ht hW => ⟨⟨v, σ, rfl, h, by rw [ht]; exact hP, va_K.moved hW.alike C.2.2.2.2.2.2.2.1, hD⟩, hS.F ht⟩) hS.2.2 hd
theorem rr_zret {v : Int32} (hd : decode cc pc = .ok (.ireturn, 1)) (hn : narrow .boolean (.int v) = .int v) (h : Q (some (.int v)) σ) : rd_W N d own cc nL (some .boolean) pc ls [.int v] σ Q := by
  intro p l e R s m args below meth c g H locs L C hP hD hS hL
  have hlocks : meth.locks = false := C.2.2.2.2.1
  exact W.zret (v := v) C.1 C.2.1 C.2.2.2.1 hn (fun t ht hW => ⟨⟨v, σ, rfl, h, by rw [ht]; exact hP, va_K.moved hW.alike C.2.2.2.2.2.2.2.1, hD⟩, hS.F ht⟩) hS.2.2 hd
theorem rr_vret (hd : decode cc pc = .ok (.return_, 1)) (h : Q none σ) : rd_W N d own cc nL none pc ls [] σ Q := by
  intro p l e R s m args below meth c g H locs L C hP hD hS hL
  have hlocks : meth.locks = false := C.2.2.2.2.1
  exact W.vret C.1 C.2.1 C.2.2.2.1 (fun t ht hW => ⟨⟨σ, rfl, h, by rw [ht]; exact hP, va_K.moved hW.alike C.2.2.2.2.2.2.2.1, hD⟩, hS.F ht⟩) hS.2.2 hd
/-- a field's static side: own class and pool number; the class's number, the field's place -/
def rd_FL (own : String) (idx ci k : Nat) : Prop := ∃ (C : String) (T : u_T) (Nf : Nat) (ty : Nat → FieldType), vwCl[ci]? = some (C, T, Nf) ∧ (∀ w ∈ u_ws C T Nf, w ∈ rd_gt) ∧ (∀ k, k < Nf → parseFieldDescriptor (T k).2.2.1 = some (ty k)) ∧ (∀ a, a < Nf → ∀ b, b < Nf → a ≠ b → (T a).2.1 ≠ (T b).2.1) ∧ Nf = rd_nf ci ∧ ci < 6 ∧ k < Nf ∧ Cond.fieldLink own idx (T k).1 (T k).2.1 (T k).2.2.1 ∈ rd_gt
theorem rr_getfield {own : String} {idx ci k o : Nat} (hd : decode cc pc = .ok (.getfield idx, 3)) (hf : rd_FL own idx ci k) (ho : o < N) (hkd : rd_kd o = ci) {v : Value} (hv : ∀ ad : Nat → Nat, rd_fv ad σ o k = rd_tr ad v) (kk : rd_W N d own cc nL ret (pc + 3) ls (v :: st) σ Q) : rd_W N d own cc nL ret pc ls (.ref o :: st) σ Q := by
  intro p l e R s m args below meth c g H locs L C hP hD hS hL
  obtain ⟨C0, T, Nf, ty, h1, h2, h3, h4, h5, h6, h7, h8⟩ := hf
  refine va_get (D := g.1) (ci := ci) C.1 C.2.1 C.2.2.2.2.2.2.1 h2 C.2.2.2.2.2.1 C.2.2.2.2.2.2.2.1 hP o (by rw [rd_wd_at ho, rd_cell_obj hkd h6]) h1 k h7 (C.2.2.2.2.2.2.1 _ h8) (fun _ h9 => h9) (v := rd_tr g.2.1 v) ?_ hd (kk p l e R s m args below meth c g H locs L C hP hD hS hL)
  rw [← hv g.2.1]
  simp [← h5, h7]
theorem rr_geti {own : String} {idx ci k o : Nat} (hd : decode cc pc = .ok (.getfield idx, 3)) (hf : rd_FL own idx ci k) (ho : o < N) (hkd : rd_kd o = ci) (hr : rd_isr ci k = false) (kk : rd_W N d own cc nL ret (pc + 3) ls (.int (σ o k) :: st) σ Q) : rd_W N d own cc nL ret pc ls (.ref o :: st) σ Q :=
  rr_getfield hd hf ho hkd (v := .int (σ o k)) (fun ad => by simp [rd_fv, hkd, hr, rd_tr]) kk
theorem rr_getr {own : String} {idx ci k o : Nat} (b : Nat) (hd : decode cc pc = .ok (.getfield idx, 3)) (hf : rd_FL own idx ci k) (ho : o < N) (hkd : rd_kd o = ci) (hr : rd_isr ci k = true) (hb : rd_rf o k = b) (kk : rd_W N d own cc nL ret (pc + 3) ls (.ref b :: st) σ Q) : rd_W N d own cc nL ret pc ls (.ref o :: st) σ Q :=
  rr_getfield hd hf ho hkd (v := .ref b) (fun ad => by simp [rd_fv, hkd, hr, rd_tr, hb]) kk
theorem rr_putz {own : String} {idx ci k o : Nat} {x : Int32} (hd : decode cc pc = .ok (.putfield idx, 3)) (hf : rd_FL own idx ci k) (hfin : ∀ C T Nf, vwCl[ci]? = some (C, T, Nf) → (T k).2.2.2 = false ∧ ∃ ty, parseFieldDescriptor (T k).2.2.1 = some ty ∧ narrow ty (.int x) = .int x ∧ fits ty (.int x) = true) (ho : o < N) (hkd : rd_kd o = ci) (hr : rd_isr ci k = false) (kk : rd_W N d own cc nL ret (pc + 3) ls st (rd_u2 σ o k x) Q) : rd_W N d own cc nL ret pc ls (.int x :: .ref o :: st) σ Q := by
  intro p l e R s m args below meth c g H locs L C hP hD hS hL
  obtain ⟨C0, T, Nf, ty, h1, h2, h3, h4, h5, h6, h7, h8⟩ := hf
  obtain ⟨hfn, ty1, ht1, ht2, ht3⟩ := hfin _ _ _ h1
  refine va_put (D := g.1) (ci := ci) C.1 C.2.1 C.2.2.2.2.2.2.1 h2 ty h3 h4 C.2.2.2.2.2.1 C.2.2.2.2.2.2.2.1 hP hD hS o (by rw [rd_wd_at ho, rd_cell_obj hkd h6]) h1 k h7 (C.2.2.2.2.2.2.1 _ h8) (fun _ h9 => h9) hfn ht1 ht2 ht3 (by simp [← h5, h7]) hd (fun H1 locs1 hP1 hD1 hS1 => ?_)
  have he0 := rd_wd_set (N := N) (g := g) (σ := σ) (σ' := rd_u2 σ o k x) ho (rd_cell_obj hkd h6) (fun b hb => rd_cell_ne hb)
  simp only [rd_tr] at hP1 hD1
  rw [rd_set_fields hkd (by omega) hr, he0] at hP1 hD1
  exact kk p l e R s m args below meth c g H1 locs1 L C hP1 hD1 hS1 hL
/-- an int field that isn't final -/
def rd_IF (ci k : Nat) : Prop := ∀ C T Nf, vwCl[ci]? = some (C, T, Nf) → (T k).2.2.2 = false ∧ parseFieldDescriptor (T k).2.2.1 = some .int
theorem rr_puti {own : String} {idx ci k o : Nat} {x : Int32} (hd : decode cc pc = .ok (.putfield idx, 3)) (hf : rd_FL own idx ci k) (hfin : rd_IF ci k) (ho : o < N) (hkd : rd_kd o = ci) (hr : rd_isr ci k = false) (kk : rd_W N d own cc nL ret (pc + 3) ls st (rd_u2 σ o k x) Q) : rd_W N d own cc nL ret pc ls (.int x :: .ref o :: st) σ Q :=
  rr_putz hd hf (fun C T Nf h => ⟨(hfin C T Nf h).1, .int, (hfin C T Nf h).2, rfl, rfl⟩) ho hkd hr kk
theorem rd_cell_b {g : rd_G} {σ : rd_S} {o : Nat} (hk : rd_kd o = 6) : rd_cell g σ o = .inl (g.2.2.1, rd_len o, .inl (σ o)) := by simp [rd_cell, hk]
theorem rd_cell_i {g : rd_G} {σ : rd_S} {o : Nat} (hk : rd_kd o = 7) : rd_cell g σ o = .inl (g.2.2.2.1, rd_len o, .inl (σ o)) := by simp [rd_cell, hk]
theorem rd_cell_s {g : rd_G} {σ : rd_S} {o : Nat} (hk : rd_kd o = 8) : rd_cell g σ o = .inl (g.2.2.2.2, rd_len o, .inr (.inr (.inr (.inr (fun j => some (g.2.1 (rd_rf o j))))))) := by simp [rd_cell, hk]
theorem rd_len_lt (o : Nat) : rd_len o < 2 ^ 31 := by
  by_cases h : o < 49
  · have : ∀ o, o < 49 → rd_len o < 2 ^ 31 := by decide +kernel
    exact this o h
  · have : rd_len o = 0 := by unfold rd_len; rw [List.getD_eq_getElem?_getD, List.getElem?_eq_none (by simp; omega)]; rfl
    omega
theorem rr_iald {a : Nat} {i : Int32} (j : Nat) (hd : decode cc pc = .ok (.iaload, 1)) (ha : a < N) (hkd : rd_kd a = 7) (hj : i = nI j) (hl : j < rd_len a) (kk : rd_W N d own cc nL ret (pc + 1) ls (.int (σ a j) :: st) σ Q) : rd_W N d own cc nL ret pc ls (.int i :: .ref a :: st) σ Q := by
  intro p l e R s m args below meth c g H locs L C hP hD hS hL
  subst hj
  refine va_iald (D := g.1) C.1 C.2.1 C.2.2.2.2.2.2.2.1 hP a 1 (by rw [rd_wd_at ha, rd_cell_i hkd]) rfl (vp_in_nI hl (rd_len_lt a)) hd ?_
  rw [nI_clamp (Nat.lt_trans hl (rd_len_lt a))]
  exact kk p l e R s m args below meth c g H locs L C hP hD hS hL
theorem rr_bald {a : Nat} {i : Int32} (j : Nat) (hd : decode cc pc = .ok (.baload, 1)) (ha : a < N) (hkd : rd_kd a = 6) (hj : i = nI j) (hl : j < rd_len a) (kk : rd_W N d own cc nL ret (pc + 1) ls (.int (σ a j) :: st) σ Q) : rd_W N d own cc nL ret pc ls (.int i :: .ref a :: st) σ Q := by
  intro p l e R s m args below meth c g H locs L C hP hD hS hL
  subst hj
  refine va_bald (D := g.1) C.1 C.2.1 C.2.2.2.2.2.2.2.1 hP a 0 (by rw [rd_wd_at ha, rd_cell_b hkd]) rfl (vp_in_nI hl (rd_len_lt a)) hd ?_
  rw [nI_clamp (Nat.lt_trans hl (rd_len_lt a))]
  exact kk p l e R s m args below meth c g H locs L C hP hD hS hL
theorem rr_iast {a : Nat} {i x : Int32} (j : Nat) (hd : decode cc pc = .ok (.iastore, 1)) (ha : a < N) (hkd : rd_kd a = 7) (hj : i = nI j) (hl : j < rd_len a) (kk : rd_W N d own cc nL ret (pc + 1) ls st (rd_u2 σ a j x) Q) : rd_W N d own cc nL ret pc ls (.int x :: .int i :: .ref a :: st) σ Q := by
  intro p l e R s m args below meth c g H locs L C hP hD hS hL
  subst hj
  refine va_iast (D := g.1) C.1 C.2.1 C.2.2.2.2.2.2.2.1 hP hD hS a 1 (by rw [rd_wd_at ha, rd_cell_i hkd]) rfl (vp_in_nI hl (rd_len_lt a)) hd (fun H1 locs1 hP1 hD1 hS1 => ?_)
  rw [nI_clamp (Nat.lt_trans hl (rd_len_lt a)), ← rd_u2_row (o := a), rd_wd_set (σ' := rd_u2 σ a j x) ha (rd_cell_i hkd) (fun b hb => rd_cell_ne hb)] at hP1 hD1
  exact kk p l e R s m args below meth c g H1 locs1 L C hP1 hD1 hS1 hL
theorem rr_bast {a : Nat} {i x : Int32} (j : Nat) (hd : decode cc pc = .ok (.bastore, 1)) (ha : a < N) (hkd : rd_kd a = 6) (hj : i = nI j) (hl : j < rd_len a) (kk : rd_W N d own cc nL ret (pc + 1) ls st (rd_u2 σ a j (vp_nar .byte x)) Q) : rd_W N d own cc nL ret pc ls (.int x :: .int i :: .ref a :: st) σ Q := by
  intro p l e R s m args below meth c g H locs L C hP hD hS hL
  subst hj
  refine va_bast (D := g.1) C.1 C.2.1 C.2.2.2.2.2.2.2.1 hP hD hS a 0 (by rw [rd_wd_at ha, rd_cell_b hkd]) rfl (vp_in_nI hl (rd_len_lt a)) hd (fun H1 locs1 hP1 hD1 hS1 => ?_)
  rw [nI_clamp (Nat.lt_trans hl (rd_len_lt a)), ← rd_u2_row (o := a), rd_wd_set (σ' := rd_u2 σ a j (vp_nar .byte x)) ha (rd_cell_b hkd) (fun b hb => rd_cell_ne hb)] at hP1 hD1
  exact kk p l e R s m args below meth c g H1 locs1 L C hP1 hD1 hS1 hL
theorem rr_aald {a : Nat} {i : Int32} (j b : Nat) (hd : decode cc pc = .ok (.aaload, 1)) (ha : a < N) (hkd : rd_kd a = 8) (hj : i = nI j) (hl : j < rd_len a) (hb : rd_rf a j = b) (kk : rd_W N d own cc nL ret (pc + 1) ls (.ref b :: st) σ Q) : rd_W N d own cc nL ret pc ls (.int i :: .ref a :: st) σ Q := by
  intro p l e R s m args below meth c g H locs L C hP hD hS hL
  subst hj
  subst hb
  refine va_aldq (D := g.1) C.1 C.2.1 C.2.2.2.2.2.2.2.1 hP a 2 (C := RX3) (by rw [rd_wd_at ha, rd_cell_s hkd]) rfl (vp_in_nI hl (rd_len_lt a)) hd ?_
  rw [nI_clamp (Nat.lt_trans hl (rd_len_lt a))]
  exact kk p l e R s m args below meth c g H locs L C hP hD hS hL
theorem rr_alen {a : Nat} {v : Int32} (hd : decode cc pc = .ok (.arraylength, 1)) (ha : a < N) (hkd : 6 ≤ rd_kd a) (hv : nI (rd_len a) = v) (kk : rd_W N d own cc nL ret (pc + 1) ls (.int v :: st) σ Q) : rd_W N d own cc nL ret pc ls (.ref a :: st) σ Q := by
  intro p l e R s m args below meth c g H locs L C hP hD hS hL
  by_cases h6 : rd_kd a = 6
  · exact va_alen (D := g.1) C.1 C.2.1 C.2.2.2.2.2.2.2.1 hP a 0 (x := (rd_len a, .inl (σ a))) (by rw [rd_wd_at ha, rd_cell_b h6]) rfl hv hd (kk p l e R s m args below meth c g H locs L C hP hD hS hL)
  · by_cases h7 : rd_kd a = 7
    · exact va_alen (D := g.1) C.1 C.2.1 C.2.2.2.2.2.2.2.1 hP a 1 (x := (rd_len a, .inl (σ a))) (by rw [rd_wd_at ha, rd_cell_i h7]) rfl hv hd (kk p l e R s m args below meth c g H locs L C hP hD hS hL)
    · have he0 : rd_cell g σ a = .inl (g.2.2.2.2, rd_len a, .inr (.inr (.inr (.inr (fun j => some (g.2.1 (rd_rf a j))))))) := by
        simp [rd_cell, h6, h7, show ¬ rd_kd a < 6 by omega]
      exact va_alen (D := g.1) C.1 C.2.1 C.2.2.2.2.2.2.2.1 hP a 2 (x := (rd_len a, .inr (.inr (.inr (.inr (fun j => some (g.2.1 (rd_rf a j)))))))) (by rw [rd_wd_at ha, he0]) rfl hv hd (kk p l e R s m args below meth c g H locs L C hP hD hS hL)
theorem rd_blind {N : Nat} {g : rd_G} {σ : rd_S} {as : List Value} : FrameBlind (va_Pc (as.map (rd_tr g.2.1)) (fun U => rd_B N g σ U ∧ rd_NW U)) := fun a U g' mk q => ⟨q.1, ⟨q.2.1.1, va_K.moved (u := U) (U := U.calling g' mk a) (Vm.Alike.refl U.vm) q.2.1.2.1, q.2.1.2.2⟩, q.2.2.same rfl⟩
/-- a call's static side -/
def rd_CM (own : String) (idx : Nat) (y : MethodName) (cy : ByteArray) (ny : Nat) (ry : Option FieldType) (n : Nat) : Prop :=
  (Cond.methodLink own idx y ∈ rd_gt ∨ ∃ host, (own, idx, y, host) ∈ rd_nw) ∧ Cond.initialized y.cls ∈ rd_gt ∧ Cond.code y cy ny ry ∈ rd_gt ∧ (y.cls ≠ "java/lang/invoke/MethodHandle" ∧ y.cls ≠ "java/lang/invoke/VarHandle") ∧ (parseMethodDescriptor y.desc).map (fun d => d.parameters.length) = some n ∧ ny ≤ 45
def rd_CV (own : String) (idx ci : Nat) (y : MethodName) (cy : ByteArray) (ny : Nat) (ry : Option FieldType) (n : Nat) : Prop :=
  rd_CM own idx y cy ny ry n ∧ Cond.instanceMethod y ∈ rd_gt ∧ Cond.selects y.cls y y ∈ rd_gt ∧ ∃ T Nf, vwCl[ci]? = some (y.cls, T, Nf) ∧ ci < 6
def rd_CS (own : String) (idx : Nat) (y : MethodName) (cy : ByteArray) (ny : Nat) (ry : Option FieldType) (n : Nat) : Prop :=
  rd_CM own idx y cy ny ry n ∧ Cond.static y ∈ rd_gt
theorem rd_runV {p : Program} {l : Launch} {e : Env} {R : Room} {s : State} {m : MethodId} {args : Array Value} {below : List Frame} {meth : Method} {c : Code} {g : rd_G} {H : Heap} {locs : List Loc} {L : Array Slot} {idx ci n d' cells slots : Nat} {y : MethodName} {cy : ByteArray} {ny : Nat} {ry : Option FieldType} {o : Nat} {as rest : List Value} {Qy : Option Value → rd_S → Prop}
    (hx : p.tables.exec = Jvm.exec) (hb : c.code = cc) (hml : c.maxLocals = nL) (hown : s.vm.findClass own = some m.cls) (hts : ∀ w ∈ rd_gt, w.before args s = true) (hK : va_K g.1 vwCl (rd_tys g) s) (hN : rd_NW s) (hfr : d' + 1 ≤ R.frames) (hlo : 64 * (d' + 1) ≤ R.locals) (hP : va_P g.1 vwCl (rd_wd N g σ) H) (hD : va_D (rd_A N g) (rd_wd N g σ)) (hLs : L.size = nL) (hcr : cells ≤ R.cells) (hsr : slots ≤ R.slots)
    (hT : rd_T N d' y cy ny ry (.ref o :: as) σ Qy) (hcv : rd_CV own idx ci y cy ny ry n) (hn : as.length = n) (ho : o < N) (hkd : rd_kd o = ci) (hw : (rest.map Value.category).sum ≤ 8) (hd : decode cc pc = .ok (.invokevirtual idx, 3)) :
    va_Run p l e R s m args below meth c H locs cells slots 0 0 (F0 m pc L ((as.reverse ++ .ref o :: rest).map (rd_tr g.2.1))) (rest.map (rd_tr g.2.1)) (rd_Qc N g ry Qy (Value.ref (g.2.1 o) :: as.map (rd_tr g.2.1)).toArray) (rd_A N g) := by
  obtain ⟨⟨hlk, hin, hco, hyn, hds, hny⟩, hi, hs, T, Nf, hcl, h6⟩ := hcv
  have hpre : PreV s H y.cls (g.2.1 o) (va_Pc ((Value.ref o :: as).map (rd_tr g.2.1)) (fun U => rd_B N g σ U ∧ rd_NW U)) (as.map (rd_tr g.2.1)) := ⟨rd_blind, va_recv hK hP hcl (by rw [rd_wd_at ho, rd_cell_obj hkd h6]), fun U hU hW => ⟨rfl, ⟨by rw [hU]; exact hP, va_K.moved hW.alike hK, hD⟩, hN.warm hW⟩⟩
  have hR : (rd_rm d').frames + 1 ≤ R.frames ∧ 8 + (ny + 11) + (rd_rm d').locals ≤ R.locals := by
    refine ⟨hfr, ?_⟩
    show 8 + (ny + 11) + 64 * d' ≤ R.locals
    omega
  have hst : ((as.reverse ++ .ref o :: rest).map (rd_tr g.2.1)) = (as.map (rd_tr g.2.1)).reverse ++ .ref (g.2.1 o) :: rest.map (rd_tr g.2.1) := by simp [rd_tr]
  have hw2 : 2 * (F0 m pc L ((as.reverse ++ .ref o :: rest).map (rd_tr g.2.1))).monitorRoom + ((rest.map (rd_tr g.2.1)).map fun v => v.category).sum ≤ 8 := by
    refine lv_room ?_
    rw [List.map_map, show ((fun v => Value.category v) ∘ rd_tr g.2.1) = Value.category from funext (fun v => rd_tr_cat _ v)]
    exact hw
  rcases hlk with hlk | ⟨host, hlk⟩
  · exact va_runV (As := as.map (rd_tr g.2.1)) (rest := rest.map (rd_tr g.2.1)) ⟨hx, hb, hml, hown, hts⟩ (hT l g) ⟨callB_of n hts (rd_goodIn hco) rfl rfl rfl (hts _ hin) (hts _ hlk) ⟨hyn.1, hyn.2, hds⟩ hR, hts _ hi, hts _ hs⟩ hpre rfl (by rw [List.length_map]; exact hn) hLs hst hw2 hd ⟨hcr, hsr⟩
  · exact va_runVN (As := as.map (rd_tr g.2.1)) (rest := rest.map (rd_tr g.2.1)) ⟨hx, hb, hml, hown, hts⟩ (hT l g) ⟨va_cnB n hts (rd_goodIn hco) rfl rfl rfl (hN _ hlk) (hts _ hin) ⟨hyn.1, hyn.2, hds⟩ hR, hts _ hi, hts _ hs⟩ hpre rfl (by rw [List.length_map]; exact hn) hLs hst hw2 hd ⟨hcr, hsr⟩
theorem rd_runS {p : Program} {l : Launch} {e : Env} {R : Room} {s : State} {m : MethodId} {args : Array Value} {below : List Frame} {meth : Method} {c : Code} {g : rd_G} {H : Heap} {locs : List Loc} {L : Array Slot} {idx n d' cells slots : Nat} {y : MethodName} {cy : ByteArray} {ny : Nat} {ry : Option FieldType} {as rest : List Value} {Qy : Option Value → rd_S → Prop}
    (hx : p.tables.exec = Jvm.exec) (hb : c.code = cc) (hml : c.maxLocals = nL) (hown : s.vm.findClass own = some m.cls) (hts : ∀ w ∈ rd_gt, w.before args s = true) (hK : va_K g.1 vwCl (rd_tys g) s) (hN : rd_NW s) (hfr : d' + 1 ≤ R.frames) (hlo : 64 * (d' + 1) ≤ R.locals) (hP : va_P g.1 vwCl (rd_wd N g σ) H) (hD : va_D (rd_A N g) (rd_wd N g σ)) (hLs : L.size = nL) (hcr : cells ≤ R.cells) (hsr : slots ≤ R.slots)
    (hT : rd_T N d' y cy ny ry as σ Qy) (hcv : rd_CS own idx y cy ny ry n) (hn : as.length = n) (hw : (rest.map Value.category).sum ≤ 8) (hd : decode cc pc = .ok (.invokestatic idx, 3)) :
    va_Run p l e R s m args below meth c H locs cells slots 0 0 (F0 m pc L ((as.reverse ++ rest).map (rd_tr g.2.1))) (rest.map (rd_tr g.2.1)) (rd_Qc N g ry Qy (as.map (rd_tr g.2.1)).toArray) (rd_A N g) := by
  obtain ⟨⟨hlk, hin, hco, hyn, hds, hny⟩, hi⟩ := hcv
  have hpre : PreS s H (va_Pc (as.map (rd_tr g.2.1)) (fun U => rd_B N g σ U ∧ rd_NW U)) (as.map (rd_tr g.2.1)) := ⟨rd_blind, fun U hU hW => ⟨rfl, ⟨by rw [hU]; exact hP, va_K.moved hW.alike hK, hD⟩, hN.warm hW⟩⟩
  have hR : (rd_rm d').frames + 1 ≤ R.frames ∧ 8 + (ny + 11) + (rd_rm d').locals ≤ R.locals := by
    refine ⟨hfr, ?_⟩
    show 8 + (ny + 11) + 64 * d' ≤ R.locals
    omega
  have hst : ((as.reverse ++ rest).map (rd_tr g.2.1)) = (as.map (rd_tr g.2.1)).reverse ++ rest.map (rd_tr g.2.1) := by simp
  have hw2 : 2 * (F0 m pc L ((as.reverse ++ rest).map (rd_tr g.2.1))).monitorRoom + ((rest.map (rd_tr g.2.1)).map fun v => v.category).sum ≤ 8 := by
    refine lv_room ?_
    rw [List.map_map, show ((fun v => Value.category v) ∘ rd_tr g.2.1) = Value.category from funext (fun v => rd_tr_cat _ v)]
    exact hw
  rcases hlk with hlk | ⟨host, hlk⟩
  · exact va_runS (As := as.map (rd_tr g.2.1)) (rest := rest.map (rd_tr g.2.1)) ⟨hx, hb, hml, hown, hts⟩ (hT l g) ⟨callB_of n hts (rd_goodIn hco) rfl rfl rfl (hts _ hin) (hts _ hlk) ⟨hyn.1, hyn.2, hds⟩ hR, hts _ hi⟩ hpre rfl (by rw [List.length_map]; exact hn) hLs hst hw2 hd ⟨hcr, hsr⟩
  · exact va_runSN (As := as.map (rd_tr g.2.1)) (rest := rest.map (rd_tr g.2.1)) ⟨hx, hb, hml, hown, hts⟩ (hT l g) ⟨va_cnB n hts (rd_goodIn hco) rfl rfl rfl (hN _ hlk) (hts _ hin) ⟨hyn.1, hyn.2, hds⟩ hR, hts _ hi, trivial⟩ hpre rfl (by rw [List.length_map]; exact hn) hLs hst hw2 hd ⟨hcr, hsr⟩
theorem rr_callVi {idx n d' : Nat} {o ci : Nat} {y : MethodName} {cy : ByteArray} {ny : Nat} {ty : FieldType} {as rest : List Value} {Qy : Option Value → rd_S → Prop} (hT : rd_T N d' y cy ny (some ty) (.ref o :: as) σ Qy) (hcv : rd_CV own idx ci y cy ny (some ty) n) (hn : as.length = n) (hst : st = as.reverse ++ .ref o :: rest) (ho : o < N) (hkd : rd_kd o = ci) (hw : (rest.map Value.category).sum ≤ 8) (hd : decode cc pc = .ok (.invokevirtual idx, 3)) (kk : ∀ (r : Int32) (σ1 : rd_S), Qy (some (.int r)) σ1 → rd_W N (d' + 1) own cc nL ret (pc + 3) ls (.int r :: rest) σ1 Q) : rd_W N (d' + 1) own cc nL ret pc ls st σ Q := by
  intro p l e R s m args below meth c g H locs L C hP hD hS hL
  subst hst
  exact va_calli (A1 := rd_A N g) (a := (Value.ref (g.2.1 o) :: as.map (rd_tr g.2.1)).toArray) (rd_runV C.1 C.2.1 C.2.2.1 C.2.2.2.2.2.1 C.2.2.2.2.2.2.1 C.2.2.2.2.2.2.2.1 C.2.2.2.2.2.2.2.2.2.2 C.2.2.2.2.2.2.2.2.1 C.2.2.2.2.2.2.2.2.2.1 hP hD hL.1 (Nat.zero_le _) (Nat.zero_le _) hT hcv hn ho hkd hw hd) hS (fun q _ h => h) (fun q h => h) (fun r u t H1 locs1 ht hvm hq hB hz hk hS1 => kk r u hq p l e R s m args below meth c g H1 locs1 L C (by rw [← ht]; exact hB.1) hB.2.2 hS1 hL)
theorem rr_callVv {idx n d' : Nat} {o ci : Nat} {y : MethodName} {cy : ByteArray} {ny : Nat} {as rest : List Value} {Qy : Option Value → rd_S → Prop} (hT : rd_T N d' y cy ny (none) (.ref o :: as) σ Qy) (hcv : rd_CV own idx ci y cy ny (none) n) (hn : as.length = n) (hst : st = as.reverse ++ .ref o :: rest) (ho : o < N) (hkd : rd_kd o = ci) (hw : (rest.map Value.category).sum ≤ 8) (hd : decode cc pc = .ok (.invokevirtual idx, 3)) (kk : ∀ (σ1 : rd_S), Qy none σ1 → rd_W N (d' + 1) own cc nL ret (pc + 3) ls rest σ1 Q) : rd_W N (d' + 1) own cc nL ret pc ls st σ Q := by
  intro p l e R s m args below meth c g H locs L C hP hD hS hL
  subst hst
  exact va_callv (A1 := rd_A N g) (a := (Value.ref (g.2.1 o) :: as.map (rd_tr g.2.1)).toArray) (rd_runV C.1 C.2.1 C.2.2.1 C.2.2.2.2.2.1 C.2.2.2.2.2.2.1 C.2.2.2.2.2.2.2.1 C.2.2.2.2.2.2.2.2.2.2 C.2.2.2.2.2.2.2.2.1 C.2.2.2.2.2.2.2.2.2.1 hP hD hL.1 (Nat.zero_le _) (Nat.zero_le _) hT hcv hn ho hkd hw hd) hS (fun q _ h => h) (fun q h => h) (fun u t H1 locs1 ht hvm hq hB hz hk hS1 => kk u hq p l e R s m args below meth c g H1 locs1 L C (by rw [← ht]; exact hB.1) hB.2.2 hS1 hL)
theorem rr_callSi {idx n d' : Nat} {y : MethodName} {cy : ByteArray} {ny : Nat} {ty : FieldType} {as rest : List Value} {Qy : Option Value → rd_S → Prop} (hT : rd_T N d' y cy ny (some ty) as σ Qy) (hcv : rd_CS own idx y cy ny (some ty) n) (hn : as.length = n) (hst : st = as.reverse ++ rest)  (hw : (rest.map Value.category).sum ≤ 8) (hd : decode cc pc = .ok (.invokestatic idx, 3)) (kk : ∀ (r : Int32) (σ1 : rd_S), Qy (some (.int r)) σ1 → rd_W N (d' + 1) own cc nL ret (pc + 3) ls (.int r :: rest) σ1 Q) : rd_W N (d' + 1) own cc nL ret pc ls st σ Q := by
  intro p l e R s m args below meth c g H locs L C hP hD hS hL
  subst hst
  exact va_calli (A1 := rd_A N g) (a := (as.map (rd_tr g.2.1)).toArray) (rd_runS C.1 C.2.1 C.2.2.1 C.2.2.2.2.2.1 C.2.2.2.2.2.2.1 C.2.2.2.2.2.2.2.1 C.2.2.2.2.2.2.2.2.2.2 C.2.2.2.2.2.2.2.2.1 C.2.2.2.2.2.2.2.2.2.1 hP hD hL.1 (Nat.zero_le _) (Nat.zero_le _) hT hcv hn  hw hd) hS (fun q _ h => h) (fun q h => h) (fun r u t H1 locs1 ht hvm hq hB hz hk hS1 => kk r u hq p l e R s m args below meth c g H1 locs1 L C (by rw [← ht]; exact hB.1) hB.2.2 hS1 hL)
theorem rr_callSv {idx n d' : Nat} {y : MethodName} {cy : ByteArray} {ny : Nat} {as rest : List Value} {Qy : Option Value → rd_S → Prop} (hT : rd_T N d' y cy ny (none) as σ Qy) (hcv : rd_CS own idx y cy ny (none) n) (hn : as.length = n) (hst : st = as.reverse ++ rest)  (hw : (rest.map Value.category).sum ≤ 8) (hd : decode cc pc = .ok (.invokestatic idx, 3)) (kk : ∀ (σ1 : rd_S), Qy none σ1 → rd_W N (d' + 1) own cc nL ret (pc + 3) ls rest σ1 Q) : rd_W N (d' + 1) own cc nL ret pc ls st σ Q := by
  intro p l e R s m args below meth c g H locs L C hP hD hS hL
  subst hst
  exact va_callv (A1 := rd_A N g) (a := (as.map (rd_tr g.2.1)).toArray) (rd_runS C.1 C.2.1 C.2.2.1 C.2.2.2.2.2.1 C.2.2.2.2.2.2.1 C.2.2.2.2.2.2.2.1 C.2.2.2.2.2.2.2.2.2.2 C.2.2.2.2.2.2.2.2.1 C.2.2.2.2.2.2.2.2.2.1 hP hD hL.1 (Nat.zero_le _) (Nat.zero_le _) hT hcv hn  hw hd) hS (fun q _ h => h) (fun q h => h) (fun u t H1 locs1 ht hvm hq hB hz hk hS1 => kk u hq p l e R s m args below meth c g H1 locs1 L C (by rw [← ht]; exact hB.1) hB.2.2 hS1 hL)
theorem rd_T.deeper {N d d' : Nat} {y : MethodName} {cc : ByteArray} {nL : Nat} {ret : Option FieldType} {as : List Value} {σ : rd_S} {Q : Option Value → rd_S → Prop} (h : rd_W N d y.cls cc nL ret pc ls st σ Q) (hd : d ≤ d') : rd_W N d' y.cls cc nL ret pc ls st σ Q := by
  intro p l e R s m args below meth c g H locs L C hP hD hS hL
  exact h p l e R s m args below meth c g H locs L ⟨C.1, C.2.1, C.2.2.1, C.2.2.2.1, C.2.2.2.2.1, C.2.2.2.2.2.1, C.2.2.2.2.2.2.1, C.2.2.2.2.2.2.2.1, Nat.le_trans hd C.2.2.2.2.2.2.2.2.1, Nat.le_trans (Nat.mul_le_mul_left 64 hd) C.2.2.2.2.2.2.2.2.2.1, C.2.2.2.2.2.2.2.2.2.2⟩ hP hD hS hL
theorem rd_W.post {Q' : Option Value → rd_S → Prop} (h : rd_W N d own cc nL ret pc ls st σ Q') (hq : ∀ r u, Q' r u → Q r u) : rd_W N d own cc nL ret pc ls st σ Q := by
  intro p l e R s m args below meth c g H locs L C hP hD hS hL T hT X
  obtain ⟨t, h1, o, h2, h3, h4, h5⟩ := h p l e R s m args below meth c g H locs L C hP hD hS hL T hT X
  refine ⟨t, h1, o, h2, h3, ?_, h5⟩
  cases ret with
  | none =>
    obtain ⟨⟨u, q1, q2, q3⟩, q4⟩ := h4
    exact ⟨⟨u, q1, hq _ _ q2, q3⟩, q4⟩
  | some ty =>
    obtain ⟨⟨r, u, q1, q2, q3⟩, q4⟩ := h4
    exact ⟨⟨r, u, q1, hq _ _ q2, q3⟩, q4⟩
theorem rr_mmax {index : Nat} {x y : Int32} (hd : decode cc pc = .ok (.invokestatic index, 3)) (hl : Cond.methodLink own index Lib.Math.max.name ∈ rd_gt) (hw : (st.map Value.category).sum ≤ 8) (hm : Cond.static Lib.Math.max.name ∈ rd_gt ∧ Cond.initialized "java/lang/Math" ∈ rd_gt ∧ Cond.code Lib.Math.max.name Lib.Math.max.code 2 (some .int) ∈ rd_gt) (k : rd_W N (d + 1) own cc nL ret (pc + 3) ls (.int (if x < y then y else x) :: st) σ Q) : rd_W N (d + 1) own cc nL ret pc ls (.int y :: .int x :: st) σ Q := by
  intro p l e R s m args below meth c g H locs L C hP hD hS hL
  have h1 := C.2.2.2.2.2.2.2.2.1
  have h2 := C.2.2.2.2.2.2.2.2.2.1
  refine va_mmax C.1 C.2.1 (C.2.2.1.trans hL.1.symm) C.2.2.2.2.2.1 (C.2.2.2.2.2.2.1 _ hl) (C.2.2.2.2.2.2.1 _ hm.1) (C.2.2.2.2.2.2.1 _ hm.2.1) (C.2.2.2.2.2.2.1 _ hm.2.2) (by omega) ?_ (Nat.zero_le _) (Nat.zero_le _) hd (k p l e R s m args below meth c g H locs L C hP hD hS hL)
  rw [List.map_map, show ((fun v => Value.category v) ∘ rd_tr g.2.1) = Value.category from funext (fun v => rd_tr_cat _ v)]
  omega
theorem rr_mmin {index : Nat} {x y : Int32} (hd : decode cc pc = .ok (.invokestatic index, 3)) (hl : Cond.methodLink own index Lib.Math.min.name ∈ rd_gt) (hw : (st.map Value.category).sum ≤ 8) (hm : Cond.static Lib.Math.min.name ∈ rd_gt ∧ Cond.initialized "java/lang/Math" ∈ rd_gt ∧ Cond.code Lib.Math.min.name Lib.Math.min.code 2 (some .int) ∈ rd_gt) (k : rd_W N (d + 1) own cc nL ret (pc + 3) ls (.int (if y < x then y else x) :: st) σ Q) : rd_W N (d + 1) own cc nL ret pc ls (.int y :: .int x :: st) σ Q := by
  intro p l e R s m args below meth c g H locs L C hP hD hS hL
  have h1 := C.2.2.2.2.2.2.2.2.1
  have h2 := C.2.2.2.2.2.2.2.2.2.1
  refine va_mmin C.1 C.2.1 (C.2.2.1.trans hL.1.symm) C.2.2.2.2.2.1 (C.2.2.2.2.2.2.1 _ hl) (C.2.2.2.2.2.2.1 _ hm.1) (C.2.2.2.2.2.2.1 _ hm.2.1) (C.2.2.2.2.2.2.1 _ hm.2.2) (by omega) ?_ (Nat.zero_le _) (Nat.zero_le _) hd (k p l e R s m args below meth c g H locs L C hP hD hS hL)
  rw [List.map_map, show ((fun v => Value.category v) ∘ rd_tr g.2.1) = Value.category from funext (fun v => rd_tr_cat _ v)]
  omega
theorem rr_mabs {index : Nat} {x : Int32} (hd : decode cc pc = .ok (.invokestatic index, 3)) (hl : Cond.methodLink own index Lib.Math.abs.name ∈ rd_gt) (hw : (st.map Value.category).sum ≤ 8) (hm : Cond.static Lib.Math.abs.name ∈ rd_gt ∧ Cond.initialized "java/lang/Math" ∈ rd_gt ∧ Cond.code Lib.Math.abs.name Lib.Math.abs.code 1 (some .int) ∈ rd_gt) (k : rd_W N (d + 1) own cc nL ret (pc + 3) ls (.int (if 0 ≤ x then x else 0 - x) :: st) σ Q) : rd_W N (d + 1) own cc nL ret pc ls (.int x :: st) σ Q := by
  intro p l e R s m args below meth c g H locs L C hP hD hS hL
  have h1 := C.2.2.2.2.2.2.2.2.1
  have h2 := C.2.2.2.2.2.2.2.2.2.1
  refine va_mabs C.1 C.2.1 (C.2.2.1.trans hL.1.symm) C.2.2.2.2.2.1 (C.2.2.2.2.2.2.1 _ hl) (C.2.2.2.2.2.2.1 _ hm.1) (C.2.2.2.2.2.2.1 _ hm.2.1) (C.2.2.2.2.2.2.1 _ hm.2.2) (by omega) ?_ (Nat.zero_le _) (Nat.zero_le _) hd (k p l e R s m args below meth c g H locs L C hP hD hS hL)
  rw [List.map_map, show ((fun v => Value.category v) ∘ rd_tr g.2.1) = Value.category from funext (fun v => rd_tr_cat _ v)]
  omega
end
