/-! ===== constructors: their worlds, a call of one, Stand's ===== -/
theorem cb_tyeq {D : va_G} {cl : List vw_C} {tys : List (ClassId × FieldType)} {s : State} {cA cB : ClassId} {ty : FieldType} {k j : Nat} (hK : va_K D cl tys s) (h1 : tys[k]? = some (cA, ty)) (h2 : tys[j]? = some (cB, ty)) : cA = cB := by
  have a := (hK.2 k _ h1).2
  have b := (hK.2 j _ h2).2
  cases ty with
  | object C =>
    obtain ⟨-, -, -, -, -, a4⟩ := a
    obtain ⟨-, -, -, -, -, b4⟩ := b
    exact Option.some.inj (a4.symm.trans b4)
  | _ => exact Option.some.inj (a.symm.trans b)
theorem cb_D1 {x : Nat × va_E} {sz : Nat} : va_D (va_A [x] sz) [x] := by
  refine ⟨fun i j p q hi hj _ => ?_, fun k q hk => ?_⟩
  · have h1 := (List.getElem?_eq_some_iff.mp hi).1
    have h2 := (List.getElem?_eq_some_iff.mp hj).1
    simp at h1 h2; omega
  · exact va_A.in hk
/-- behind a constructor's call: what was, and the new cells -/
theorem cb_join {A0 : Nat → Prop} {D : va_G} {cl : List vw_C} {ws w1 : va_W} {x : Nat × va_E} {H H1 : Heap} (hP : va_P D cl (ws ++ [x]) H) (hD : va_D A0 (ws ++ [x])) (hk : ∀ q : Nat, q < H.size → ¬ va_A [x] H.size q → H1[q]? = H[q]?) (hF : ∀ q, va_A [x] H.size q → A0 q) (hP1 : va_P D cl w1 H1) (hD1 : va_D (va_A [x] H.size) w1) : va_P D cl (ws ++ w1) H1 ∧ va_D A0 (ws ++ w1) := by
  have hx : (ws ++ [x])[ws.length]? = some x := by simp
  have hw : ∀ (k : Nat) (q : Nat × va_E), ws[k]? = some q → (ws ++ [x])[k]? = some q ∧ k < ws.length := fun k q h => by
    have hl := (List.getElem?_eq_some_iff.mp h).1
    exact ⟨by rw [List.getElem?_append_left hl]; exact h, hl⟩
  have apart : ∀ (k : Nat) (q : Nat × va_E), ws[k]? = some q → q.1 < H.size ∧ ¬ va_A [x] H.size q.1 := by
    intro k q hq
    obtain ⟨h1, h2⟩ := hw k q hq
    have hl := (hP k q h1).lt
    refine ⟨hl, fun h => ?_⟩
    rcases h with ⟨j, e, h⟩ | h
    · have hj := (List.getElem?_eq_some_iff.mp h).1
      obtain rfl : j = 0 := by simp at hj; omega
      have h : x = (q.1, e) := by simpa using h
      have := hD.1 k ws.length q x h1 hx (by rw [h])
      omega
    · omega
  refine ⟨va_P.app (fun k q hq => ?_) hP1, va_D.app ⟨fun i j p q h1 h2 h3 => hD.1 i j p q (hw i p h1).1 (hw j q h2).1 h3, fun k q hq => hD.2 k q (hw k q hq).1⟩ (hD1.weaken (fun k q _ h => hF q.1 h)) (fun i j y z hy hz hyz => ?_)⟩
  · obtain ⟨g1, g2⟩ := apart k q hq
    exact (hP k q (hw k q hq).1).kept (hk q.1 g1 g2)
  · exact (apart i y hy).2 (by rw [hyz]; exact hD1.2 j z hz)
theorem cb_free {A0 : Nat → Prop} {ws : va_W} {x : Nat × va_E} {H0 H : Heap} {locs : List Loc} (hD : va_D A0 (ws ++ [x])) (hS : va_S A0 H0 H locs) (hA : ∀ q, H0.size ≤ q → A0 q) : ∀ q, va_A [x] H.size q → A0 q := by
  intro q h
  rcases h with ⟨j, e, h⟩ | h
  · have hj := (List.getElem?_eq_some_iff.mp h).1
    obtain rfl : j = 0 := by simp at hj; omega
    have h : x = (q, e) := by simpa using h
    have := hD.2 ws.length x (by simp)
    rw [h] at this; exact this
  · exact hA q (Nat.le_trans hS.1 h)
/-- a constructor: of a cell b with the fields fs0 it makes the world w1 -/
def cb_T (g : rd_G) (d : Nat) (y : MethodName) (cy : ByteArray) (ny ci : Nat) (fs0 As : List Value) (mc ms : Nat) {S : Type} (w1 : Nat → S → va_W) : Prop :=
  ∀ (l : Launch) (b sz : Nat), Met l y (rd_ws y cy ny none) { frames := d, cells := mc, slots := ms, locals := 64 * d } (va_Pc (.ref b :: As) (fun U => U.heap.size = sz ∧ va_P g.1 vwCl [(b, .inr (ci, fs0))] U.heap ∧ va_K g.1 vwCl (rd_tys g) U ∧ rd_NW U ∧ va_AO RX3 U)) (va_Qv (fun _ : S => True) (fun u t => va_P g.1 vwCl (w1 b u) t.heap ∧ va_D (va_A [(b, .inr (ci, fs0))] sz) (w1 b u)) (va_A [(b, .inr (ci, fs0))] sz)) mc ms (va_A [(b, .inr (ci, fs0))] sz)
/-- what holds all along in a constructor -/
def cb_X (g : rd_G) (d mc ms : Nat) (own : String) (cc : ByteArray) (nL : Nat) (p : Program) (R : Room) (s : State) (m : MethodId) (args : Array Value) (meth : Method) (c : Code) : Prop :=
  p.tables.exec = Jvm.exec ∧ c.code = cc ∧ c.maxLocals = nL ∧ meth.sig.returnType = none ∧ meth.locks = false ∧ s.vm.findClass own = some m.cls ∧ (∀ w ∈ rd_gt, w.before args s = true) ∧ va_K g.1 vwCl (rd_tys g) s ∧ rd_NW s ∧ va_AO RX3 s ∧ d ≤ R.frames ∧ 64 * d ≤ R.locals ∧ mc ≤ R.cells ∧ ms ≤ R.slots ∧ meth.name = "<init>"
theorem cb_intro {g : rd_G} {d : Nat} {y : MethodName} {cy : ByteArray} {ny ci : Nat} {fs0 As : List Value} {mc ms : Nat} {S : Type} {w1 : Nat → S → va_W} (hy : plainName y.cls = true) (hyi : y.name = "<init>") (hlen : ∀ b : Nat, (lg_sl (Value.ref b :: As)).length ≤ ny)
    (h : ∀ (p : Program) (l : Launch) (e : Env) (R : Room) (s : State) (m : MethodId) (args : Array Value) (below : List Frame) (meth : Method) (c : Code) (b : Nat) (ls : Array Slot), cb_X g d mc ms y.cls cy ny p R s m args meth c → va_P g.1 vwCl [(b, .inr (ci, fs0))] s.heap → va_D (va_A [(b, .inr (ci, fs0))] s.heap.size) [(b, .inr (ci, fs0))] → va_S (va_A [(b, .inr (ci, fs0))] s.heap.size) s.heap s.heap [] → (∀ q : Nat, s.heap.size ≤ q → va_A [(b, .inr (ci, fs0))] s.heap.size q) → lv_has ls ny (lv_args 0 (.ref b :: As)) →
      W p l e R s m args below meth c s.heap [] 0 0 (MQ below (va_Qv (fun _ : S => True) (fun u t => va_P g.1 vwCl (w1 b u) t.heap ∧ va_D (va_A [(b, .inr (ci, fs0))] s.heap.size) (w1 b u)) (va_A [(b, .inr (ci, fs0))] s.heap.size)) args s mc ms (va_A [(b, .inr (ci, fs0))] s.heap.size)) (F0 m 0 ls [])) : cb_T g d y cy ny ci fs0 As mc ms w1 := by
  intro l b sz
  refine Met.ofW (cc := cy) (maxL := ny) (ret := none) hy rfl ?_
  intro p e s m args below meth c s₁ B hml hv
  obtain ⟨rfl, hsz, hP, hK, hN, hO⟩ := hv
  subst hsz
  have hts := atoms_spec (ws := rd_ws y cy ny none) B.pre
  have hown : s.vm.findClass y.cls = some m.cls := findClass_of_methodNamed B.named
  have hin : meth.name = "<init>" := (name_of_methodNamed B.named B.method).1.trans hyi
  have hl := lv_entry (Value.ref b :: As) (n := ny) (hlen b)
  rw [lg_entry_eq]
  exact h p l e _ s m _ below meth c b _ ⟨B.exec, B.bytes, hml, B.returns, B.notSynchronized, hown, fun w hw => hts w (List.mem_cons_of_mem _ hw), hK, hN, hO, Nat.le_refl _, Nat.le_refl _, Nat.le_refl _, Nat.le_refl _, hin⟩ hP cb_D1 va_S.rf (fun q h => Or.inr h) hl
/-- the static side of a constructor's call -/
def cb_L (own : String) (idx : Nat) (y : MethodName) (cy : ByteArray) (ny n : Nat) : Prop :=
  (Cond.methodLink own idx y ∈ rd_gt ∨ ∃ host, (own, idx, y, host) ∈ rd_nw) ∧ Cond.initialized y.cls ∈ rd_gt ∧ Cond.code y cy ny none ∈ rd_gt ∧ (y.cls ≠ "java/lang/invoke/MethodHandle" ∧ y.cls ≠ "java/lang/invoke/VarHandle") ∧ (parseMethodDescriptor y.desc).map (fun d => d.parameters.length) = some n ∧ ny ≤ 45 ∧ Cond.instanceMethod y ∈ rd_gt ∧ y.name = "<init>"
section CBC
variable {p : Program} {l : Launch} {e : Env} {R : Room} {s : State} {m : MethodId} {args : Array Value} {below : List Frame} {meth : Method} {c : Code} {H : Heap} {locs : List Loc} {cells slots : Nat} {Q : State → Prop} {cc : ByteArray} {pc nL : Nat} {ls : Array Slot} {rest : List Value} {g : rd_G} {own : String} {A : Nat → Prop} {H0 : Heap} {ws : va_W}
theorem cb_call {d' idx n ny ci mc ms b : Nat} {y : MethodName} {cy : ByteArray} {fs0 As st : List Value} {S : Type} {w1 : Nat → S → va_W} (hx : p.tables.exec = Jvm.exec) (hb : c.code = cc) (hml : c.maxLocals = nL) (hown : s.vm.findClass own = some m.cls) (hts : ∀ w ∈ rd_gt, w.before args s = true) (hK : va_K g.1 vwCl (rd_tys g) s) (hN : rd_NW s) (hO : va_AO RX3 s) (hfr : d' + 1 ≤ R.frames) (hlo : 64 * (d' + 1) ≤ R.locals)
    (hT : cb_T g d' y cy ny ci fs0 As mc ms w1) (hL : cb_L own idx y cy ny n) (hP : va_P g.1 vwCl (ws ++ [(b, .inr (ci, fs0))]) H) (hD : va_D A (ws ++ [(b, .inr (ci, fs0))])) (hS : va_S A H0 H locs) (hA : ∀ q, H0.size ≤ q → A q) (hls : ls.size = nL) (hn : As.length = n) (hst : st = As.reverse ++ .ref b :: rest) (hw : (rest.map Value.category).sum ≤ 8) (hd : decode cc pc = .ok (.invokespecial idx, 3)) (hcr : cells + mc ≤ R.cells) (hsr : slots + ms ≤ R.slots)
    (kk : ∀ (u : S) (H1 : Heap) (locs1 : List Loc), va_P g.1 vwCl (ws ++ w1 b u) H1 → va_D A (ws ++ w1 b u) → va_S A H0 H1 locs1 → W p l e R s m args below meth c H1 locs1 (cells + mc) (slots + ms) Q (F0 m (pc + 3) ls rest)) : W p l e R s m args below meth c H locs cells slots Q (F0 m pc ls st) := by
  obtain ⟨hlk, hin, hco, hyn, hds, hny, hi, hnm⟩ := hL
  subst hst
  have hF := cb_free hD hS hA
  have hPc : va_P g.1 vwCl [(b, .inr (ci, fs0))] H := fun k q hk => by
    have hj := (List.getElem?_eq_some_iff.mp hk).1
    obtain rfl : k = 0 := by simp at hj; omega
    have hk : (b, Sum.inr (ci, fs0)) = q := by simpa using hk
    exact hk ▸ hP ws.length _ (by simp)
  have hpre : PreS s H (va_Pc (.ref b :: As) (fun U => U.heap.size = H.size ∧ va_P g.1 vwCl [(b, .inr (ci, fs0))] U.heap ∧ va_K g.1 vwCl (rd_tys g) U ∧ rd_NW U ∧ va_AO RX3 U)) (.ref b :: As) :=
    ⟨fun a U g' mk q => ⟨q.1, q.2.1, q.2.2.1, va_K.moved (u := U) (U := U.calling g' mk a) (Vm.Alike.refl U.vm) q.2.2.2.1, q.2.2.2.2.1.same rfl, va_AO.moved (u := U) (U := U.calling g' mk a) (Vm.Alike.refl U.vm) q.2.2.2.2.2⟩, fun U hU hW => ⟨rfl, by rw [hU], by rw [hU]; exact hPc, va_K.moved hW.alike hK, hN.warm hW, hO.moved hW.alike⟩⟩
  have hR : ({ frames := d', cells := mc, slots := ms, locals := 64 * d' } : Room).frames + 1 ≤ R.frames ∧ 8 + (ny + 11) + ({ frames := d', cells := mc, slots := ms, locals := 64 * d' } : Room).locals ≤ R.locals := by
    refine ⟨hfr, ?_⟩
    show 8 + (ny + 11) + 64 * d' ≤ R.locals
    omega
  have fin : ∀ (u : S) (t : State) (H1 : Heap) (locs1 : List Loc), t.heap = H1 → s.vm.Alike t.vm → True → (va_P g.1 vwCl (w1 b u) t.heap ∧ va_D (va_A [(b, .inr (ci, fs0))] H.size) (w1 b u)) → H.size ≤ H1.size → (∀ q : Nat, q < H.size → ¬ va_A [(b, .inr (ci, fs0))] H.size q → H1[q]? = H[q]?) → va_S A H0 H1 locs1 → W p l e R s m args below meth c H1 locs1 (cells + mc) (slots + ms) Q (F0 m (pc + 3) ls rest) := by
    intro u t H1 locs1 ht hvm _ hB hz hk hS1
    obtain ⟨q1, q2⟩ := cb_join hP hD hk hF (by rw [← ht]; exact hB.1) hB.2
    exact kk u H1 locs1 q1 q2 hS1
  rcases hlk with hlk | ⟨host, hlk⟩
  · exact va_callv (a := (Value.ref b :: As).toArray) (va_runI (As := As) (rest := rest) ⟨hx, hb, hml, hown, hts⟩ (hT l b H.size) ⟨callB_of n hts (rd_goodIn hco) rfl rfl rfl (hts _ hin) (hts _ hlk) ⟨hyn.1, hyn.2, hds⟩ hR, hnm, hts _ hi⟩ hpre rfl hn hls rfl (lv_room hw) hd ⟨hcr, hsr⟩) hS (fun q _ h => hF q h) hF fin
  · exact va_callv (a := (Value.ref b :: As).toArray) (va_runIN (As := As) (rest := rest) ⟨hx, hb, hml, hown, hts⟩ (hT l b H.size) ⟨va_cnB n hts (rd_goodIn hco) rfl rfl rfl (hN _ hlk) (hts _ hin) ⟨hyn.1, hyn.2, hds⟩ hR, hnm, hts _ hi⟩ hpre rfl hn hls rfl (lv_room hw) hd ⟨hcr, hsr⟩) hS (fun q _ h => hF q h) hF fin
end CBC
theorem cb_oi : Cond.instanceMethod objectInit ∈ rd_gt := rd_gt_of 64 rfl rfl
theorem cb_oc : Cond.code objectInit ⟨#[0xb1]⟩ 1 none ∈ rd_gt := rd_gt_of 65 rfl rfl
set_option maxRecDepth 100000 in
theorem cb_o0 : Cond.methodLink RX0 1 objectInit ∈ rd_gt := rd_gt_of 133 rfl rfl
set_option maxRecDepth 100000 in
theorem cb_o1 : Cond.methodLink RX1 3 objectInit ∈ rd_gt := rd_gt_of 71 rfl rfl
set_option maxRecDepth 100000 in
theorem cb_o2 : Cond.methodLink RX2 3 objectInit ∈ rd_gt := rd_gt_of 156 rfl rfl
set_option maxRecDepth 100000 in
theorem cb_o3 : Cond.methodLink RX3 3 objectInit ∈ rd_gt := rd_gt_of 101 rfl rfl
set_option maxRecDepth 100000 in
theorem cb_o4 : Cond.methodLink RX4 1 objectInit ∈ rd_gt := rd_gt_of 63 rfl rfl
set_option maxRecDepth 100000 in
theorem cb_o5 : Cond.methodLink RX5 1 objectInit ∈ rd_gt := rd_gt_of 665 rfl rfl
/-- a Stand as it is made -/
abbrev cb_s0 : List Value := [.int 228, .int 0, .int 0, .int 1, .int 0, .int 0]
abbrev cb_z6 : List Value := [.int 0, .int 0, .int 0, .int 0, .int 0, .int 0]
set_option maxHeartbeats 4000000 in
set_option maxRecDepth 100000 in
theorem cb_Stand (g : rd_G) (d : Nat) : cb_T g (d + 1) yX3_init cX3_init 1 3 cb_z6 [] 0 0 (fun b (_ : Unit) => [(b, .inr (3, cb_s0))]) := by
  refine cb_intro (by decide) rfl (fun b => Nat.le_of_ble_eq_true rfl) ?_
  intro p l e R s m args below meth c b ls C hP hD hS hA hl
  obtain ⟨hx, hb, hml, hr, hlocks, hown, hts, hK, hN, hO, hfr, hlo, hmc, hms, hin⟩ := C
  have hl : lv_has ls 1 [(0, .ref b)] := hl
  generalize va_A [(b, .inr (3, cb_z6))] s.heap.size = A at *
  refine lv_aload_n hx hb dX3_init_0 rfl (lv_at hl 0 rfl) ?_
  refine W.objInit hx hb hown (hts _ cb_o3) (hts _ cb_oi) (hts _ cb_oc) rfl (by rw [hml]; exact hl.1) rfl dX3_init_1 (by omega) (by show 2 * 0 + 0 + 12 ≤ R.locals; omega) ?_
  refine W.eq (g2 := F0 m 4 ls []) rfl ?_
  refine lv_aload_n hx hb dX3_init_4 rfl (lv_at hl 0 rfl) ?_
  refine lv_sipush (v := 228) hx hb dX3_init_5 (by decide) ?_
  refine va_put (D := g.1) (ci := 3) (v := .int 228) (ty := .int) (C := RX3) (T := TX3) (N := 6) hx hb hts kw_X3 tyX3 tyX3_ok nmX3 hown hK hP hD hS 0 rfl rfl 0 (by decide) (hts _ (by obtain ⟨_, _, _, _, h1, _, _, _, _, _, _, h8⟩ := kf_X3_11; cases h1; exact h8)) (fun _ h9 => h9) rfl rfl rfl rfl (by decide) dX3_init_8 (fun H locs hP hD hS => ?_)
  refine lv_aload_n hx hb dX3_init_11 rfl (lv_at hl 0 rfl) ?_
  refine lv_iconst (v := 1) hx hb dX3_init_12 (by decide) ?_
  refine va_put (D := g.1) (ci := 3) (v := .int 1) (ty := .int) (C := RX3) (T := TX3) (N := 6) hx hb hts kw_X3 tyX3 tyX3_ok nmX3 hown hK hP hD hS 0 rfl rfl 3 (by decide) (hts _ (by obtain ⟨_, _, _, _, h1, _, _, _, _, _, _, h8⟩ := kf_X3_15; cases h1; exact h8)) (fun _ h9 => h9) rfl rfl rfl rfl (by decide) dX3_init_13 (fun H locs hP hD hS => ?_)
  exact W.vret hx hb hr (fun t ht hW => ⟨⟨(), rfl, trivial, by rw [ht]; exact hP, hD⟩, hS.F ht⟩) hS.2.2 dX3_init_16
