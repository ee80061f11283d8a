/-! ===== the JDK: length and charAt of the class's own text ===== -/
theorem dJ0_length_8abf5_0 : decode cJ0_length_8abf5 0 = .ok (.aload_n 0, 1) := by decide +kernel
theorem dJ0_length_8abf5_1 : decode cJ0_length_8abf5 1 = .ok (.getfield 9, 3) := by decide +kernel
theorem dJ0_length_8abf5_4 : decode cJ0_length_8abf5 4 = .ok (.arraylength, 1) := by decide +kernel
theorem dJ0_length_8abf5_5 : decode cJ0_length_8abf5 5 = .ok (.aload_n 0, 1) := by decide +kernel
theorem dJ0_length_8abf5_6 : decode cJ0_length_8abf5 6 = .ok (.invokevirtual 335, 3) := by decide +kernel
theorem dJ0_length_8abf5_9 : decode cJ0_length_8abf5 9 = .ok (.ishr, 1) := by decide +kernel
theorem dJ0_length_8abf5_10 : decode cJ0_length_8abf5 10 = .ok (.ireturn, 1) := by decide +kernel
theorem dJ0_charAt_5068e_0 : decode cJ0_charAt_5068e 0 = .ok (.aload_n 0, 1) := by decide +kernel
theorem dJ0_charAt_5068e_1 : decode cJ0_charAt_5068e 1 = .ok (.invokevirtual 492, 3) := by decide +kernel
theorem dJ0_charAt_5068e_4 : decode cJ0_charAt_5068e 4 = .ok (.ifCond .eq 12, 3) := by decide +kernel
theorem dJ0_charAt_5068e_7 : decode cJ0_charAt_5068e 7 = .ok (.aload_n 0, 1) := by decide +kernel
theorem dJ0_charAt_5068e_8 : decode cJ0_charAt_5068e 8 = .ok (.getfield 9, 3) := by decide +kernel
theorem dJ0_charAt_5068e_11 : decode cJ0_charAt_5068e 11 = .ok (.iload_n 1, 1) := by decide +kernel
theorem dJ0_charAt_5068e_12 : decode cJ0_charAt_5068e 12 = .ok (.invokestatic 495, 3) := by decide +kernel
theorem dJ0_charAt_5068e_15 : decode cJ0_charAt_5068e 15 = .ok (.ireturn, 1) := by decide +kernel
theorem dJ0_charAt_5068e_16 : decode cJ0_charAt_5068e 16 = .ok (.aload_n 0, 1) := by decide +kernel
theorem dJ0_charAt_5068e_17 : decode cJ0_charAt_5068e 17 = .ok (.getfield 9, 3) := by decide +kernel
theorem dJ0_charAt_5068e_20 : decode cJ0_charAt_5068e 20 = .ok (.iload_n 1, 1) := by decide +kernel
theorem dJ0_charAt_5068e_21 : decode cJ0_charAt_5068e 21 = .ok (.invokestatic 498, 3) := by decide +kernel
theorem dJ0_charAt_5068e_24 : decode cJ0_charAt_5068e 24 = .ok (.ireturn, 1) := by decide +kernel
theorem dJ0_coder_7d493_0 : decode cJ0_coder_7d493 0 = .ok (.getstatic 38, 3) := by decide +kernel
theorem dJ0_coder_7d493_3 : decode cJ0_coder_7d493 3 = .ok (.ifCond .eq 10, 3) := by decide +kernel
theorem dJ0_coder_7d493_6 : decode cJ0_coder_7d493 6 = .ok (.aload_n 0, 1) := by decide +kernel
theorem dJ0_coder_7d493_7 : decode cJ0_coder_7d493 7 = .ok (.getfield 15, 3) := by decide +kernel
theorem dJ0_coder_7d493_10 : decode cJ0_coder_7d493 10 = .ok (.goto 4, 3) := by decide +kernel
theorem dJ0_coder_7d493_13 : decode cJ0_coder_7d493 13 = .ok (.iconst 1, 1) := by decide +kernel
theorem dJ0_coder_7d493_14 : decode cJ0_coder_7d493 14 = .ok (.ireturn, 1) := by decide +kernel
theorem dJ0_isLatin1_aae02_0 : decode cJ0_isLatin1_aae02 0 = .ok (.getstatic 38, 3) := by decide +kernel
theorem dJ0_isLatin1_aae02_3 : decode cJ0_isLatin1_aae02 3 = .ok (.ifCond .eq 14, 3) := by decide +kernel
theorem dJ0_isLatin1_aae02_6 : decode cJ0_isLatin1_aae02 6 = .ok (.aload_n 0, 1) := by decide +kernel
theorem dJ0_isLatin1_aae02_7 : decode cJ0_isLatin1_aae02 7 = .ok (.getfield 15, 3) := by decide +kernel
theorem dJ0_isLatin1_aae02_10 : decode cJ0_isLatin1_aae02 10 = .ok (.ifCond .ne 7, 3) := by decide +kernel
theorem dJ0_isLatin1_aae02_13 : decode cJ0_isLatin1_aae02 13 = .ok (.iconst 1, 1) := by decide +kernel
theorem dJ0_isLatin1_aae02_14 : decode cJ0_isLatin1_aae02 14 = .ok (.goto 4, 3) := by decide +kernel
theorem dJ0_isLatin1_aae02_17 : decode cJ0_isLatin1_aae02 17 = .ok (.iconst 0, 1) := by decide +kernel
theorem dJ0_isLatin1_aae02_18 : decode cJ0_isLatin1_aae02 18 = .ok (.ireturn, 1) := by decide +kernel
theorem dJ0_checkIndex_df160_0 : decode cJ0_checkIndex_df160 0 = .ok (.iload_n 0, 1) := by decide +kernel
theorem dJ0_checkIndex_df160_1 : decode cJ0_checkIndex_df160 1 = .ok (.iload_n 1, 1) := by decide +kernel
theorem dJ0_checkIndex_df160_2 : decode cJ0_checkIndex_df160 2 = .ok (.getstatic 1053, 3) := by decide +kernel
theorem dJ0_checkIndex_df160_5 : decode cJ0_checkIndex_df160 5 = .ok (.invokestatic 1059, 3) := by decide +kernel
theorem dJ0_checkIndex_df160_8 : decode cJ0_checkIndex_df160 8 = .ok (.pop, 1) := by decide +kernel
theorem dJ0_checkIndex_df160_9 : decode cJ0_checkIndex_df160 9 = .ok (.return_, 1) := by decide +kernel
theorem dJ1_charAt_3b067_0 : decode cJ1_charAt_3b067 0 = .ok (.iload_n 1, 1) := by decide +kernel
theorem dJ1_charAt_3b067_1 : decode cJ1_charAt_3b067 1 = .ok (.aload_n 0, 1) := by decide +kernel
theorem dJ1_charAt_3b067_2 : decode cJ1_charAt_3b067 2 = .ok (.arraylength, 1) := by decide +kernel
theorem dJ1_charAt_3b067_3 : decode cJ1_charAt_3b067 3 = .ok (.invokestatic 9, 3) := by decide +kernel
theorem dJ1_charAt_3b067_6 : decode cJ1_charAt_3b067 6 = .ok (.aload_n 0, 1) := by decide +kernel
theorem dJ1_charAt_3b067_7 : decode cJ1_charAt_3b067 7 = .ok (.iload_n 1, 1) := by decide +kernel
theorem dJ1_charAt_3b067_8 : decode cJ1_charAt_3b067 8 = .ok (.baload, 1) := by decide +kernel
theorem dJ1_charAt_3b067_9 : decode cJ1_charAt_3b067 9 = .ok (.sipush 255, 3) := by decide +kernel
theorem dJ1_charAt_3b067_12 : decode cJ1_charAt_3b067 12 = .ok (.iand, 1) := by decide +kernel
theorem dJ1_charAt_3b067_13 : decode cJ1_charAt_3b067 13 = .ok (.i2c, 1) := by decide +kernel
theorem dJ1_charAt_3b067_14 : decode cJ1_charAt_3b067 14 = .ok (.ireturn, 1) := by decide +kernel
theorem dJ3_checkIndex_8e157_0 : decode cJ3_checkIndex_8e157 0 = .ok (.iload_n 0, 1) := by decide +kernel
theorem dJ3_checkIndex_8e157_1 : decode cJ3_checkIndex_8e157 1 = .ok (.ifCond .lt 8, 3) := by decide +kernel
theorem dJ3_checkIndex_8e157_4 : decode cJ3_checkIndex_8e157 4 = .ok (.iload_n 0, 1) := by decide +kernel
theorem dJ3_checkIndex_8e157_5 : decode cJ3_checkIndex_8e157 5 = .ok (.iload_n 1, 1) := by decide +kernel
theorem dJ3_checkIndex_8e157_6 : decode cJ3_checkIndex_8e157 6 = .ok (.if_icmp .lt 10, 3) := by decide +kernel
theorem dJ3_checkIndex_8e157_9 : decode cJ3_checkIndex_8e157 9 = .ok (.aload_n 2, 1) := by decide +kernel
theorem dJ3_checkIndex_8e157_10 : decode cJ3_checkIndex_8e157 10 = .ok (.iload_n 0, 1) := by decide +kernel
theorem dJ3_checkIndex_8e157_11 : decode cJ3_checkIndex_8e157 11 = .ok (.iload_n 1, 1) := by decide +kernel
theorem dJ3_checkIndex_8e157_12 : decode cJ3_checkIndex_8e157 12 = .ok (.invokestatic 95, 3) := by decide +kernel
theorem dJ3_checkIndex_8e157_15 : decode cJ3_checkIndex_8e157 15 = .ok (.athrow, 1) := by decide +kernel
theorem dJ3_checkIndex_8e157_16 : decode cJ3_checkIndex_8e157 16 = .ok (.iload_n 0, 1) := by decide +kernel
theorem dJ3_checkIndex_8e157_17 : decode cJ3_checkIndex_8e157 17 = .ok (.ireturn, 1) := by decide +kernel
def js_B : List Int32 := [100, 49, 44, 49, 59, 100, 50, 44, 51, 59, 100, 51, 44, 50, 59, 114, 48, 59, 114, 48, 59, 114, 50, 59, 114, 49, 59, 114, 50, 59]
def js_S (kS vS : Nat) (fv : Option Nat) (A : Nat → Prop) (U : State) (H : Heap) : Prop := vk_S 1 [30] [js_B] (fun _ => kS) (fun _ => vS) A U H ∧ va_Z "java/lang/String" "COMPACT_STRINGS" "Z" (.int 1) A U H ∧ va_Z "jdk/internal/util/Preconditions" "SIOOBE_FORMATTER" "Ljava/util/function/BiFunction;" (va_rf fv) A U H
theorem js_S.moved {kS vS : Nat} {fv : Option Nat} {A : Nat → Prop} {u U : State} {H : Heap} (hvm : u.vm.Alike U.vm) (h : js_S kS vS fv A u H) : js_S kS vS fv A U H := ⟨vk_S.moved hvm h.1, va_Z.moved hvm h.2.1, va_Z.moved hvm h.2.2⟩
theorem js_S.kept {kS vS : Nat} {fv : Option Nat} {A : Nat → Prop} {U : State} {H H1 : Heap} (h : js_S kS vS fv A U H) (hq : ∀ a : Nat, a < H.size → ¬ A a → H1[a]? = H[a]?) : js_S kS vS fv A U H1 := ⟨h.1.kept hq, h.2.1.kept hq, h.2.2.kept hq⟩
theorem js_S.narrow {kS vS : Nat} {fv : Option Nat} {A B : Nat → Prop} {U : State} {H : Heap} (h : js_S kS vS fv A U H) (hAB : ∀ q, B q → A q) : js_S kS vS fv B U H := ⟨h.1.narrow hAB, h.2.1.narrow hAB, h.2.2.narrow hAB⟩
def js_N : Nat → Prop := fun _ => False
def js_Q (ret : Option FieldType) (v : Int32) : Array Value → State → Outcome → State → Prop := match ret with
  | none => va_Qv (fun _ : Unit => True) (fun _ _ => True) js_N
  | some _ => va_Qi (fun r (_ : Unit) => r = v) (fun _ _ => True) js_N
/-- a method that changes nothing and answers v -/
def js_T (kS vS : Nat) (fv : Option Nat) (d : Nat) (y : MethodName) (cy : ByteArray) (ny : Nat) (ret : Option FieldType) (as : List Value) (v : Int32) : Prop :=
  ∀ l : Launch, Met l y (rd_ws y cy ny ret) (rd_rm d) (va_Pc as (fun U => js_S kS vS fv js_N U U.heap)) (js_Q ret v) 0 0 js_N
theorem js_blind {kS vS : Nat} {fv : Option Nat} {as : List Value} : FrameBlind (va_Pc as (fun U => js_S kS vS fv js_N U U.heap)) := fun a U g' mk q => ⟨q.1, js_S.moved (u := U) (U := U.calling g' mk a) (Vm.Alike.refl U.vm) q.2⟩
theorem js_intro {kS vS : Nat} {fv : Option Nat} {d : Nat} {y : MethodName} {cy : ByteArray} {ny : Nat} {ret : Option FieldType} {as : List Value} {v : Int32} (hy : plainName y.cls = true) (hlen : (lg_sl as).length ≤ ny)
    (h : ∀ (p : Program) (l : Launch) (e : Env) (R : Room) (s : State) (m : MethodId) (args : Array Value) (below : List Frame) (meth : Method) (c : Code) (ls : Array Slot), p.tables.exec = Jvm.exec → c.code = cy → c.maxLocals = ny → meth.sig.returnType = ret → meth.locks = false → s.vm.findClass y.cls = some m.cls → (∀ w ∈ rd_gt, w.before args s = true) → js_S kS vS fv js_N s s.heap → va_S js_N s.heap s.heap [] → d ≤ R.frames → 64 * d ≤ R.locals → lv_has ls ny (lv_args 0 as) → W p l e R s m args below meth c s.heap [] 0 0 (MQ below (js_Q ret v) args s 0 0 js_N) (F0 m 0 ls [])) : js_T kS vS fv d y cy ny ret as v := by
  intro l
  refine Met.ofW (cc := cy) (maxL := ny) (ret := ret) hy rfl ?_
  intro p e s m args below meth c s₁ B hml hv
  obtain ⟨rfl, hJ⟩ := hv
  have hts := atoms_spec (ws := rd_ws y cy ny ret) B.pre
  have hown : s.vm.findClass y.cls = some m.cls := findClass_of_methodNamed B.named
  have hl := lv_entry as (n := ny) hlen
  rw [lg_entry_eq]
  exact h p l e _ s m _ below meth c _ B.exec B.bytes hml B.returns B.notSynchronized hown (fun w hw => hts w (List.mem_cons_of_mem _ hw)) hJ va_S.rf (Nat.le_refl _) (Nat.le_refl _) hl
/-- a call's static side -/
def js_L (own : String) (idx : Nat) (y : MethodName) (cy : ByteArray) (ny : Nat) (ry : Option FieldType) (n : Nat) : Prop :=
  Cond.methodLink own idx y ∈ rd_gt ∧ Cond.initialized y.cls ∈ rd_gt ∧ Cond.code y cy ny ry ∈ rd_gt ∧ (y.cls ≠ "java/lang/invoke/MethodHandle" ∧ y.cls ≠ "java/lang/invoke/VarHandle") ∧ (parseMethodDescriptor y.desc).map (fun d => d.parameters.length) = some n ∧ ny ≤ 45
section JSC
variable {p : Program} {l : Launch} {e : Env} {R : Room} {s : State} {m : MethodId} {args : Array Value} {below : List Frame} {meth : Method} {c : Code} {H : Heap} {locs : List Loc} {cells slots : Nat} {Q : State → Prop} {cc : ByteArray} {pc nL : Nat} {ls : Array Slot} {rest : List Value} {own : String} {A : Nat → Prop} {kS vS : Nat} {fv : Option Nat}
theorem js_pre (hJ : js_S kS vS fv A s s.heap) (hS : va_S A s.heap H locs) : js_S kS vS fv js_N s H := (hJ.kept hS.2.1).narrow (fun q h => absurd h id)
theorem js_callV {d' idx n ny : Nat} {y : MethodName} {cy : ByteArray} {ty : FieldType} {As st : List Value} {v : Int32} (hx : p.tables.exec = Jvm.exec) (hb : c.code = cc) (hml : c.maxLocals = nL) (hown : s.vm.findClass own = some m.cls) (hts : ∀ w ∈ rd_gt, w.before args s = true) (hJ : js_S kS vS fv A s s.heap) (hS : va_S A s.heap H locs) (hfr : d' + 1 ≤ R.frames) (hlo : 64 * (d' + 1) ≤ R.locals) (hcr : cells ≤ R.cells) (hsr : slots ≤ R.slots) (hT : js_T kS vS fv d' y cy ny (some ty) (.ref kS :: As) v) (hL : js_L own idx y cy ny (some ty) n) (hi : Cond.instanceMethod y ∈ rd_gt ∧ Cond.selects "java/lang/String" y y ∈ rd_gt) (hls : ls.size = nL) (hn : As.length = n) (hst : st = As.reverse ++ .ref kS :: rest) (hw : (rest.map Value.category).sum ≤ 8) (hd : decode cc pc = .ok (.invokevirtual idx, 3))
    (kk : ∀ (H1 : Heap) (locs1 : List Loc), (∀ q : Nat, q < H.size → H1[q]? = H[q]?) → va_S A s.heap H1 locs1 → W p l e R s m args below meth c H1 locs1 cells slots Q (F0 m (pc + 3) ls (.int v :: rest))) : W p l e R s m args below meth c H locs cells slots Q (F0 m pc ls st) := by
  obtain ⟨hlk, hin, hco, hyn, hds, hny⟩ := hL
  subst hst
  have hR : (rd_rm d').frames + 1 ≤ R.frames ∧ 8 + (ny + 11) + (rd_rm d').locals ≤ R.locals := by
    refine ⟨hfr, ?_⟩
    show 8 + (ny + 11) + 64 * d' ≤ R.locals
    omega
  have hpre : PreV s H "java/lang/String" kS (va_Pc (.ref kS :: As) (fun U => js_S kS vS fv js_N U U.heap)) As := ⟨js_blind, vk_recv (i := 0) hJ.1 (by decide) hS, fun U hU hW => ⟨rfl, by show js_S kS vS fv js_N U U.heap; rw [hU]; exact (js_pre hJ hS).moved hW.alike⟩⟩
  exact va_calli (a := (Value.ref kS :: As).toArray) (A1 := js_N) (va_runV (As := As) (rest := rest) ⟨hx, hb, hml, hown, hts⟩ (hT l) ⟨callB_of n hts (rd_goodIn hco) rfl rfl rfl (hts _ hin) (hts _ hlk) ⟨hyn.1, hyn.2, hds⟩ hR, hts _ hi.1, hts _ hi.2⟩ hpre rfl hn hls rfl (lv_room hw) hd ⟨hcr, hsr⟩) hS (fun q _ h => absurd h id) (fun q h => absurd h id) (fun r u t H1 locs1 ht hvm hq hB hz hk hS1 => by
    have hq : r = v := hq
    subst hq
    exact kk H1 locs1 (fun q h => hk q h id) hS1)
theorem js_callSi {d' idx n ny : Nat} {y : MethodName} {cy : ByteArray} {ty : FieldType} {As st : List Value} {v : Int32} (hx : p.tables.exec = Jvm.exec) (hb : c.code = cc) (hml : c.maxLocals = nL) (hown : s.vm.findClass own = some m.cls) (hts : ∀ w ∈ rd_gt, w.before args s = true) (hJ : js_S kS vS fv A s s.heap) (hS : va_S A s.heap H locs) (hfr : d' + 1 ≤ R.frames) (hlo : 64 * (d' + 1) ≤ R.locals) (hcr : cells ≤ R.cells) (hsr : slots ≤ R.slots) (hT : js_T kS vS fv d' y cy ny (some ty) As v) (hL : js_L own idx y cy ny (some ty) n) (hi : Cond.static y ∈ rd_gt) (hls : ls.size = nL) (hn : As.length = n) (hst : st = As.reverse ++ rest) (hw : (rest.map Value.category).sum ≤ 8) (hd : decode cc pc = .ok (.invokestatic idx, 3))
    (kk : ∀ (H1 : Heap) (locs1 : List Loc), (∀ q : Nat, q < H.size → H1[q]? = H[q]?) → va_S A s.heap H1 locs1 → W p l e R s m args below meth c H1 locs1 cells slots Q (F0 m (pc + 3) ls (.int v :: rest))) : W p l e R s m args below meth c H locs cells slots Q (F0 m pc ls st) := by
  obtain ⟨hlk, hin, hco, hyn, hds, hny⟩ := hL
  subst hst
  have hR : (rd_rm d').frames + 1 ≤ R.frames ∧ 8 + (ny + 11) + (rd_rm d').locals ≤ R.locals := by
    refine ⟨hfr, ?_⟩
    show 8 + (ny + 11) + 64 * d' ≤ R.locals
    omega
  have hpre : PreS s H (va_Pc As (fun U => js_S kS vS fv js_N U U.heap)) As := ⟨js_blind, fun U hU hW => ⟨rfl, by show js_S kS vS fv js_N U U.heap; rw [hU]; exact (js_pre hJ hS).moved hW.alike⟩⟩
  exact va_calli (a := As.toArray) (A1 := js_N) (va_runS (As := As) (rest := rest) ⟨hx, hb, hml, hown, hts⟩ (hT l) ⟨callB_of n hts (rd_goodIn hco) rfl rfl rfl (hts _ hin) (hts _ hlk) ⟨hyn.1, hyn.2, hds⟩ hR, hts _ hi⟩ hpre rfl hn hls rfl (lv_room hw) hd ⟨hcr, hsr⟩) hS (fun q _ h => absurd h id) (fun q h => absurd h id) (fun r u t H1 locs1 ht hvm hq hB hz hk hS1 => by
    have hq : r = v := hq
    subst hq
    exact kk H1 locs1 (fun q h => hk q h id) hS1)
theorem js_callSv {d' idx n ny : Nat} {y : MethodName} {cy : ByteArray} {As st : List Value} {v : Int32} (hx : p.tables.exec = Jvm.exec) (hb : c.code = cc) (hml : c.maxLocals = nL) (hown : s.vm.findClass own = some m.cls) (hts : ∀ w ∈ rd_gt, w.before args s = true) (hJ : js_S kS vS fv A s s.heap) (hS : va_S A s.heap H locs) (hfr : d' + 1 ≤ R.frames) (hlo : 64 * (d' + 1) ≤ R.locals) (hcr : cells ≤ R.cells) (hsr : slots ≤ R.slots) (hT : js_T kS vS fv d' y cy ny none As v) (hL : js_L own idx y cy ny none n) (hi : Cond.static y ∈ rd_gt) (hls : ls.size = nL) (hn : As.length = n) (hst : st = As.reverse ++ rest) (hw : (rest.map Value.category).sum ≤ 8) (hd : decode cc pc = .ok (.invokestatic idx, 3))
    (kk : ∀ (H1 : Heap) (locs1 : List Loc), (∀ q : Nat, q < H.size → H1[q]? = H[q]?) → va_S A s.heap H1 locs1 → W p l e R s m args below meth c H1 locs1 cells slots Q (F0 m (pc + 3) ls rest)) : W p l e R s m args below meth c H locs cells slots Q (F0 m pc ls st) := by
  obtain ⟨hlk, hin, hco, hyn, hds, hny⟩ := hL
  subst hst
  have hR : (rd_rm d').frames + 1 ≤ R.frames ∧ 8 + (ny + 11) + (rd_rm d').locals ≤ R.locals := by
    refine ⟨hfr, ?_⟩
    show 8 + (ny + 11) + 64 * d' ≤ R.locals
    omega
  have hpre : PreS s H (va_Pc As (fun U => js_S kS vS fv js_N U U.heap)) As := ⟨js_blind, fun U hU hW => ⟨rfl, by show js_S kS vS fv js_N U U.heap; rw [hU]; exact (js_pre hJ hS).moved hW.alike⟩⟩
  exact va_callv (a := As.toArray) (A1 := js_N) (va_runS (As := As) (rest := rest) ⟨hx, hb, hml, hown, hts⟩ (hT l) ⟨callB_of n hts (rd_goodIn hco) rfl rfl rfl (hts _ hin) (hts _ hlk) ⟨hyn.1, hyn.2, hds⟩ hR, hts _ hi⟩ hpre rfl hn hls rfl (lv_room hw) hd ⟨hcr, hsr⟩) hS (fun q _ h => absurd h id) (fun q h => absurd h id) (fun u t H1 locs1 ht hvm hq hB hz hk hS1 => kk H1 locs1 (fun q h => hk q h id) hS1)
end JSC
set_option maxRecDepth 100000 in
theorem jk_coder : js_L RJ0 335 yJ0_coder_7d493 cJ0_coder_7d493 1 (some .byte) 0 := ⟨(rd_gt_of 194 rfl rfl), (rd_gt_of 52 rfl rfl), rd_gt_of 197 rfl rfl, by decide +kernel, by decide +kernel, by decide⟩
set_option maxRecDepth 100000 in
theorem jk_coderi : Cond.instanceMethod yJ0_coder_7d493 ∈ rd_gt ∧ Cond.selects "java/lang/String" yJ0_coder_7d493 yJ0_coder_7d493 ∈ rd_gt := ⟨(rd_gt_of 195 rfl rfl), (rd_gt_of 196 rfl rfl)⟩
set_option maxRecDepth 100000 in
theorem jk_isL : js_L RJ0 492 yJ0_isLatin1_aae02 cJ0_isLatin1_aae02 1 (some .boolean) 0 := ⟨(rd_gt_of 204 rfl rfl), (rd_gt_of 52 rfl rfl), rd_gt_of 207 rfl rfl, by decide +kernel, by decide +kernel, by decide⟩
set_option maxRecDepth 100000 in
theorem jk_isLi : Cond.instanceMethod yJ0_isLatin1_aae02 ∈ rd_gt ∧ Cond.selects "java/lang/String" yJ0_isLatin1_aae02 yJ0_isLatin1_aae02 ∈ rd_gt := ⟨(rd_gt_of 205 rfl rfl), (rd_gt_of 206 rfl rfl)⟩
set_option maxRecDepth 100000 in
theorem jk_chL : js_L RJ0 495 yJ1_charAt_3b067 cJ1_charAt_3b067 2 (some .char) 2 := ⟨(rd_gt_of 208 rfl rfl), (rd_gt_of 53 rfl rfl), rd_gt_of 210 rfl rfl, by decide +kernel, by decide +kernel, by decide⟩
set_option maxRecDepth 100000 in
theorem jk_chLi : Cond.static yJ1_charAt_3b067 ∈ rd_gt := (rd_gt_of 209 rfl rfl)
set_option maxRecDepth 100000 in
theorem jk_ckS : js_L RJ1 9 yJ0_checkIndex_df160 cJ0_checkIndex_df160 2 none 2 := ⟨(rd_gt_of 211 rfl rfl), (rd_gt_of 52 rfl rfl), rd_gt_of 213 rfl rfl, by decide +kernel, by decide +kernel, by decide⟩
set_option maxRecDepth 100000 in
theorem jk_ckSi : Cond.static yJ0_checkIndex_df160 ∈ rd_gt := (rd_gt_of 212 rfl rfl)
set_option maxRecDepth 100000 in
theorem jk_ckP : js_L RJ0 1059 yJ3_checkIndex_8e157 cJ3_checkIndex_8e157 3 (some .int) 3 := ⟨(rd_gt_of 216 rfl rfl), (rd_gt_of 54 rfl rfl), rd_gt_of 218 rfl rfl, by decide +kernel, by decide +kernel, by decide⟩
set_option maxRecDepth 100000 in
theorem jk_ckPi : Cond.static yJ3_checkIndex_8e157 ∈ rd_gt := (rd_gt_of 217 rfl rfl)
set_option maxRecDepth 100000 in
theorem jk_len : js_L RX4 60 yJ0_length_8abf5 cJ0_length_8abf5 1 (some .int) 0 := ⟨(rd_gt_of 190 rfl rfl), (rd_gt_of 52 rfl rfl), rd_gt_of 193 rfl rfl, by decide +kernel, by decide +kernel, by decide⟩
set_option maxRecDepth 100000 in
theorem jk_leni : Cond.instanceMethod yJ0_length_8abf5 ∈ rd_gt ∧ Cond.selects "java/lang/String" yJ0_length_8abf5 yJ0_length_8abf5 ∈ rd_gt := ⟨(rd_gt_of 191 rfl rfl), (rd_gt_of 192 rfl rfl)⟩
set_option maxRecDepth 100000 in
theorem jk_cha : js_L RX4 66 yJ0_charAt_5068e cJ0_charAt_5068e 2 (some .char) 1 := ⟨(rd_gt_of 200 rfl rfl), (rd_gt_of 52 rfl rfl), rd_gt_of 203 rfl rfl, by decide +kernel, by decide +kernel, by decide⟩
set_option maxRecDepth 100000 in
theorem jk_chai : Cond.instanceMethod yJ0_charAt_5068e ∈ rd_gt ∧ Cond.selects "java/lang/String" yJ0_charAt_5068e yJ0_charAt_5068e ∈ rd_gt := ⟨(rd_gt_of 201 rfl rfl), (rd_gt_of 202 rfl rfl)⟩
set_option maxRecDepth 100000 in
theorem jf_cs : Cond.fieldLink RJ0 38 "java/lang/String" "COMPACT_STRINGS" "Z" ∈ rd_gt := (rd_gt_of 198 rfl rfl)
set_option maxRecDepth 100000 in
theorem jf_v : Cond.fieldLink RJ0 9 "java/lang/String" "value" "[B" ∈ rd_gt := (rd_gt_of 1007 rfl rfl)
set_option maxRecDepth 100000 in
theorem jf_c : Cond.fieldLink RJ0 15 "java/lang/String" "coder" "B" ∈ rd_gt := (rd_gt_of 1008 rfl rfl)
set_option maxRecDepth 100000 in
theorem jf_f : Cond.fieldLink RJ0 1053 "jdk/internal/util/Preconditions" "SIOOBE_FORMATTER" "Ljava/util/function/BiFunction;" ∈ rd_gt := (rd_gt_of 214 rfl rfl)
set_option maxHeartbeats 4000000 in
set_option maxRecDepth 100000 in
theorem js_coder (kS vS : Nat) (fv : Option Nat) (d : Nat) : js_T kS vS fv (d + 0) yJ0_coder_7d493 cJ0_coder_7d493 1 (some .byte) [.ref kS] 0 := by
  refine js_intro (by decide +kernel) (Nat.le_of_ble_eq_true rfl) ?_
  intro p l e R s m args below meth c ls hx hb hml hr hlocks hown hts hJ hS hfr hlo hl
  have hJ1 := hJ.1.1 0 (by decide)
  have hl : lv_has ls 1 [(0, .ref kS)] := hl
  refine va_gets hx hb hJ.2.1 hS hown (hts _ jf_cs) (fun _ h => h) dJ0_coder_7d493_0 ?_
  refine lv_if_eq (tgt := 13) hx hb dJ0_coder_7d493_3 (by decide) (fun q => absurd q (by decide)) (fun _ => ?_)
  refine lv_aload_n hx hb dJ0_coder_7d493_6 rfl (lv_at hl 0 rfl) ?_
  refine vk_getf hx hb hJ1.2.1 hS hown (hts _ jf_c) (fun _ h => h) dJ0_coder_7d493_7 ?_
  refine lv_goto (tgt := 14) hx hb dJ0_coder_7d493_10 (by decide) ?_
  exact W.zret (v := 0) hx hb hr (by decide) (fun t ht hW => ⟨⟨0, (), rfl, rfl, trivial⟩, hS.F ht⟩) hS.2.2 dJ0_coder_7d493_14
set_option maxHeartbeats 4000000 in
set_option maxRecDepth 100000 in
theorem js_isL (kS vS : Nat) (fv : Option Nat) (d : Nat) : js_T kS vS fv (d + 0) yJ0_isLatin1_aae02 cJ0_isLatin1_aae02 1 (some .boolean) [.ref kS] 1 := by
  refine js_intro (by decide +kernel) (Nat.le_of_ble_eq_true rfl) ?_
  intro p l e R s m args below meth c ls hx hb hml hr hlocks hown hts hJ hS hfr hlo hl
  have hJ1 := hJ.1.1 0 (by decide)
  have hl : lv_has ls 1 [(0, .ref kS)] := hl
  refine va_gets hx hb hJ.2.1 hS hown (hts _ jf_cs) (fun _ h => h) dJ0_isLatin1_aae02_0 ?_
  refine lv_if_eq (tgt := 17) hx hb dJ0_isLatin1_aae02_3 (by decide) (fun q => absurd q (by decide)) (fun _ => ?_)
  refine lv_aload_n hx hb dJ0_isLatin1_aae02_6 rfl (lv_at hl 0 rfl) ?_
  refine vk_getf hx hb hJ1.2.1 hS hown (hts _ jf_c) (fun _ h => h) dJ0_isLatin1_aae02_7 ?_
  refine lv_if_ne (tgt := 17) hx hb dJ0_isLatin1_aae02_10 (by decide) (fun q => absurd rfl q) (fun _ => ?_)
  refine lv_iconst (v := 1) hx hb dJ0_isLatin1_aae02_13 (by decide) ?_
  refine lv_goto (tgt := 18) hx hb dJ0_isLatin1_aae02_14 (by decide) ?_
  exact W.zret (v := 1) hx hb hr (by decide) (fun t ht hW => ⟨⟨1, (), rfl, rfl, trivial⟩, hS.F ht⟩) hS.2.2 dJ0_isLatin1_aae02_18
set_option maxHeartbeats 4000000 in
set_option maxRecDepth 100000 in
theorem js_len (kS vS : Nat) (fv : Option Nat) (d : Nat) : js_T kS vS fv (d + 1) yJ0_length_8abf5 cJ0_length_8abf5 1 (some .int) [.ref kS] 30 := by
  refine js_intro (by decide +kernel) (Nat.le_of_ble_eq_true rfl) ?_
  intro p l e R s m args below meth c ls hx hb hml hr hlocks hown hts hJ hS hfr hlo hl
  have hJ1 := hJ.1.1 0 (by decide)
  have hl : lv_has ls 1 [(0, .ref kS)] := hl
  refine lv_aload_n hx hb dJ0_length_8abf5_0 rfl (lv_at hl 0 rfl) ?_
  refine vk_getf hx hb hJ1.2.2.1 hS hown (hts _ jf_v) (fun _ h => h) dJ0_length_8abf5_1 ?_
  refine va_tlen hx hb hJ1.2.2.2 hS (v := 30) (by decide) dJ0_length_8abf5_4 ?_
  refine lv_aload_n hx hb dJ0_length_8abf5_5 rfl (lv_at hl 0 rfl) ?_
  refine js_callV (rest := [.int 30]) (d' := 0) hx hb hml hown hts hJ hS (by omega) (by omega) (Nat.zero_le _) (Nat.zero_le _) (js_coder kS vS fv 0) jk_coder jk_coderi hl.1 rfl rfl (by decide) dJ0_length_8abf5_6 (fun H locs hk hS => ?_)
  refine lv_ishr hx hb dJ0_length_8abf5_9 ?_
  exact W.iret (v := 30) hx hb hr (fun t ht hW => ⟨⟨30, (), rfl, rfl, trivial⟩, hS.F ht⟩) hS.2.2 dJ0_length_8abf5_10
set_option maxHeartbeats 4000000 in
set_option maxRecDepth 100000 in
theorem js_ckP (kS vS : Nat) (fv : Option Nat) (d : Nat) (i : Nat) (hi : i < 30) : js_T kS vS fv (d + 0) yJ3_checkIndex_8e157 cJ3_checkIndex_8e157 3 (some .int) [.int (nI i), .int 30, va_rf fv] (nI i) := by
  refine js_intro (by decide +kernel) (by cases fv <;> exact Nat.le_of_ble_eq_true rfl) ?_
  intro p l e R s m args below meth c ls hx hb hml hr hlocks hown hts hJ hS hfr hlo hl
  have hJ1 := hJ.1.1 0 (by decide)
  have hl : lv_has ls 3 [(0, .int (nI i)), (1, .int 30), (2, va_rf fv)] := hl
  refine lv_iload_n hx hb dJ3_checkIndex_8e157_0 rfl (lv_at hl 0 rfl) ?_
  refine lv_if_lt (tgt := 9) hx hb dJ3_checkIndex_8e157_1 (by decide) (fun q => absurd q (nI_pos (by omega))) (fun _ => ?_)
  refine lv_iload_n hx hb dJ3_checkIndex_8e157_4 rfl (lv_at hl 0 rfl) ?_
  refine lv_iload_n hx hb dJ3_checkIndex_8e157_5 rfl (lv_at hl 1 rfl) ?_
  refine lv_icmp_lt (tgt := 16) hx hb dJ3_checkIndex_8e157_6 (by decide) (fun _ => ?_) (fun q => absurd (nI_lt (b := 30) hi (by decide)) q)
  refine lv_iload_n hx hb dJ3_checkIndex_8e157_16 rfl (lv_at hl 0 rfl) ?_
  exact W.iret (v := nI i) hx hb hr (fun t ht hW => ⟨⟨nI i, (), rfl, rfl, trivial⟩, hS.F ht⟩) hS.2.2 dJ3_checkIndex_8e157_17
set_option maxHeartbeats 4000000 in
set_option maxRecDepth 100000 in
theorem js_ckS (kS vS : Nat) (fv : Option Nat) (d : Nat) (i : Nat) (hi : i < 30) : js_T kS vS fv (d + 1) yJ0_checkIndex_df160 cJ0_checkIndex_df160 2 none [.int (nI i), .int 30] 0 := by
  refine js_intro (by decide +kernel) (Nat.le_of_ble_eq_true rfl) ?_
  intro p l e R s m args below meth c ls hx hb hml hr hlocks hown hts hJ hS hfr hlo hl
  have hJ1 := hJ.1.1 0 (by decide)
  have hl : lv_has ls 2 [(0, .int (nI i)), (1, .int 30)] := hl
  refine lv_iload_n hx hb dJ0_checkIndex_df160_0 rfl (lv_at hl 0 rfl) ?_
  refine lv_iload_n hx hb dJ0_checkIndex_df160_1 rfl (lv_at hl 1 rfl) ?_
  refine va_gets hx hb hJ.2.2 hS hown (hts _ jf_f) (fun _ h => h) dJ0_checkIndex_df160_2 ?_
  refine js_callSi (rest := []) (d' := 0) hx hb hml hown hts hJ hS (by omega) (by omega) (Nat.zero_le _) (Nat.zero_le _) (js_ckP kS vS fv 0 i hi) jk_ckP jk_ckPi hl.1 rfl rfl (by decide) dJ0_checkIndex_df160_5 (fun H locs hk hS => ?_)
  refine lv_pop hx hb dJ0_checkIndex_df160_8 rfl ?_
  exact W.vret hx hb hr (fun t ht hW => ⟨⟨(), rfl, trivial, trivial⟩, hS.F ht⟩) hS.2.2 dJ0_checkIndex_df160_9
def js_c (i : Nat) : Int32 := js_B.getD i 0
theorem js_c_ok : ∀ i, i < 30 → (((js_c i &&& 255).toUInt32 % 65536).toInt32 = js_c i ∧ narrow .char (.int (js_c i)) = .int (js_c i)) := by
  intro i hi
  have h : ∀ i, i < 30 → ((js_c i &&& 255).toUInt32 % 65536).toInt32 = js_c i := by decide +kernel
  refine ⟨h i hi, ?_⟩
  rw [← h i hi]; exact pk_nc _
set_option maxHeartbeats 4000000 in
set_option maxRecDepth 100000 in
theorem js_chL (kS vS : Nat) (fv : Option Nat) (d : Nat) (i : Nat) (hi : i < 30) : js_T kS vS fv (d + 2) yJ1_charAt_3b067 cJ1_charAt_3b067 2 (some .char) [.ref vS, .int (nI i)] (js_c i) := by
  refine js_intro (by decide +kernel) (Nat.le_of_ble_eq_true rfl) ?_
  intro p l e R s m args below meth c ls hx hb hml hr hlocks hown hts hJ hS hfr hlo hl
  have hJ1 := hJ.1.1 0 (by decide)
  have hl : lv_has ls 2 [(0, .ref vS), (1, .int (nI i))] := hl
  refine lv_iload_n hx hb dJ1_charAt_3b067_0 rfl (lv_at hl 1 rfl) ?_
  refine lv_aload_n hx hb dJ1_charAt_3b067_1 rfl (lv_at hl 0 rfl) ?_
  refine va_tlen hx hb hJ1.2.2.2 hS (v := 30) (by decide) dJ1_charAt_3b067_2 ?_
  refine js_callSv (rest := []) (d' := 1) hx hb hml hown hts hJ hS (by omega) (by omega) (Nat.zero_le _) (Nat.zero_le _) (js_ckS kS vS fv 0 i hi) jk_ckS jk_ckSi hl.1 rfl rfl (by decide) dJ1_charAt_3b067_3 (fun H locs hk hS => ?_)
  refine lv_aload_n hx hb dJ1_charAt_3b067_6 rfl (lv_at hl 0 rfl) ?_
  refine lv_iload_n hx hb dJ1_charAt_3b067_7 rfl (lv_at hl 1 rfl) ?_
  refine va_tb hx hb hJ1.2.2.2 hS (i := nI i) (vp_in_nI hi (by decide)) (v := .int (js_c i)) (by rw [nI_clamp (by omega)]; rfl) dJ1_charAt_3b067_8 ?_
  refine lv_sipush (v := 255) hx hb dJ1_charAt_3b067_9 (by decide) ?_
  refine lv_iand hx hb dJ1_charAt_3b067_12 ?_
  refine lv_i2c (v := js_c i) hx hb dJ1_charAt_3b067_13 (js_c_ok i hi).1 ?_
  exact W.zret (v := js_c i) hx hb hr (js_c_ok i hi).2 (fun t ht hW => ⟨⟨js_c i, (), rfl, rfl, trivial⟩, hS.F ht⟩) hS.2.2 dJ1_charAt_3b067_14
set_option maxHeartbeats 4000000 in
set_option maxRecDepth 100000 in
theorem js_cha (kS vS : Nat) (fv : Option Nat) (d : Nat) (i : Nat) (hi : i < 30) : js_T kS vS fv (d + 3) yJ0_charAt_5068e cJ0_charAt_5068e 2 (some .char) [.ref kS, .int (nI i)] (js_c i) := by
  refine js_intro (by decide +kernel) (Nat.le_of_ble_eq_true rfl) ?_
  intro p l e R s m args below meth c ls hx hb hml hr hlocks hown hts hJ hS hfr hlo hl
  have hJ1 := hJ.1.1 0 (by decide)
  have hl : lv_has ls 2 [(0, .ref kS), (1, .int (nI i))] := hl
  refine lv_aload_n hx hb dJ0_charAt_5068e_0 rfl (lv_at hl 0 rfl) ?_
  refine js_callV (rest := []) (d' := 2) hx hb hml hown hts hJ hS (by omega) (by omega) (Nat.zero_le _) (Nat.zero_le _) (js_isL kS vS fv 2) jk_isL jk_isLi hl.1 rfl rfl (by decide) dJ0_charAt_5068e_1 (fun H locs hk hS => ?_)
  refine lv_if_eq (tgt := 16) hx hb dJ0_charAt_5068e_4 (by decide) (fun q => absurd q (by decide)) (fun _ => ?_)
  refine lv_aload_n hx hb dJ0_charAt_5068e_7 rfl (lv_at hl 0 rfl) ?_
  refine vk_getf hx hb hJ1.2.2.1 hS hown (hts _ jf_v) (fun _ h => h) dJ0_charAt_5068e_8 ?_
  refine lv_iload_n hx hb dJ0_charAt_5068e_11 rfl (lv_at hl 1 rfl) ?_
  refine js_callSi (rest := []) (d' := 2) hx hb hml hown hts hJ hS (by omega) (by omega) (Nat.zero_le _) (Nat.zero_le _) (js_chL kS vS fv 0 i hi) jk_chL jk_chLi hl.1 rfl rfl (by decide) dJ0_charAt_5068e_12 (fun H locs hk hS => ?_)
  exact W.zret (v := js_c i) hx hb hr (js_c_ok i hi).2 (fun t ht hW => ⟨⟨js_c i, (), rfl, rfl, trivial⟩, hS.F ht⟩) hS.2.2 dJ0_charAt_5068e_15
