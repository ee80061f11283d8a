/-! ===== the layer: one world of numbered objects, its store, and rows over it ===== -/
def rd_gt : List Cond := lw_tbl.filter goodWord
theorem rd_gt_of {w : Cond} (i : Nat) (h : lw_tbl[i]? = some w) (g : goodWord w = true) : w ∈ rd_gt := List.mem_filter.mpr ⟨List.mem_of_getElem? h, g⟩
theorem rd_gt_good {w : Cond} (h : w ∈ rd_gt) : goodWord w = true := (List.mem_filter.mp h).2
def rd_ws (y : MethodName) (cc : ByteArray) (n : Nat) (ret : Option FieldType) : List Cond := .code y cc n ret :: rd_gt
theorem rd_goodIn {y : MethodName} {cc : ByteArray} {n : Nat} {ret : Option FieldType} (h : Cond.code y cc n ret ∈ rd_gt) : GoodIn rd_gt (rd_ws y cc n ret) := by
  intro w hw
  have hm : w ∈ rd_gt := by
    rcases List.mem_cons.mp hw with rfl | hw
    · exact h
    · exact hw
  exact ⟨hm, good_of_word (rd_gt_good hm)⟩
/-- what kind the object of a number is: 0 to 5 a class of vwCl, 6 bytes, 7 ints, 8 Stands -/
def rd_kd (o : Nat) : Nat := [4, 1, 6, 3, 3, 0, 8, 3, 3, 3, 3, 3, 3, 3, 3, 0, 8, 3, 3, 2, 8, 3, 3, 3, 3, 3, 3, 3, 3, 7, 7, 7, 7, 5].getD o 7
def rd_len (o : Nat) : Nat := [0, 0, 200, 0, 0, 0, 8, 0, 0, 0, 0, 0, 0, 0, 0, 0, 2, 0, 0, 0, 8, 0, 0, 0, 0, 0, 0, 0, 0, 6, 6, 6, 6, 0, 4, 4, 12, 12, 96, 24, 18, 200, 4, 4, 12, 12, 6, 4, 243].getD o 0
/-- whose address a reference's place holds -/
def rd_rf (o k : Nat) : Nat :=
  if o = 0 then [1, 3, 4, 5, 15, 19, 29, 30, 31, 32].getD k 0 else if o = 1 then 2 else if o = 5 then 6 else if o = 15 then 16 else if o = 19 then 20
  else if o = 6 then 7 + k else if o = 16 then 17 + k else if o = 20 then 21 + k
  else [34, 35, 36, 0, 37, 38, 0, 39, 0, 40, 0, 41, 0, 42, 43, 44, 0, 0, 0, 45, 0, 0, 46, 47, 48].getD k 0
def rd_isr (c k : Nat) : Bool := match c with
  | 0 => k == 0
  | 1 => k == 0
  | 2 => k == 0
  | 3 => false
  | 4 => k < 10
  | _ => [true, true, true, false, true, true, false, true, false, true, false, true, false, true, true, true, false, false, false, true, false, false, true, true, true].getD k false
def rd_nf (c : Nat) : Nat := [3, 6, 9, 6, 14, 25].getD c 0
abbrev rd_S : Type := Nat → Nat → Int32
abbrev rd_G : Type := va_G × (Nat → Nat) × ClassId × ClassId × ClassId
def rd_fv (ad : Nat → Nat) (σ : rd_S) (o k : Nat) : Value := if rd_isr (rd_kd o) k = true then .ref (ad (rd_rf o k)) else .int (σ o k)
def rd_cell (g : rd_G) (σ : rd_S) (o : Nat) : va_E :=
  if rd_kd o < 6 then .inr (rd_kd o, (List.range (rd_nf (rd_kd o))).map (rd_fv g.2.1 σ o))
  else if rd_kd o = 6 then .inl (g.2.2.1, rd_len o, .inl (σ o))
  else if rd_kd o = 7 then .inl (g.2.2.2.1, rd_len o, .inl (σ o))
  else .inl (g.2.2.2.2, rd_len o, .inr (.inr (.inr (.inr (fun j => some (g.2.1 (rd_rf o j)))))))
def rd_wd (N : Nat) (g : rd_G) (σ : rd_S) : va_W := (List.range N).map (fun o => (g.2.1 o, rd_cell g σ o))
def rd_tys (g : rd_G) : List (ClassId × FieldType) := [(g.2.2.1, .byte), (g.2.2.2.1, .int), (g.2.2.2.2, .object RX3)]
def rd_A (N : Nat) (g : rd_G) : Nat → Prop := fun q => ∃ o, o < N ∧ q = g.2.1 o
def rd_B (N : Nat) (g : rd_G) (σ : rd_S) (U : State) : Prop := va_P g.1 vwCl (rd_wd N g σ) U.heap ∧ va_K g.1 vwCl (rd_tys g) U ∧ va_D (rd_A N g) (rd_wd N g σ)
def rd_u2 (σ : rd_S) (o k : Nat) (v : Int32) : rd_S := fun a b => if a = o ∧ b = k then v else σ a b
def rd_tr (ad : Nat → Nat) (v : Value) : Value := match v with
  | .ref o => .ref (ad o)
  | w => w
theorem rd_tr_cat (ad : Nat → Nat) (v : Value) : (rd_tr ad v).category = v.category := by cases v <;> rfl
theorem rd_wd_at {N o : Nat} {g : rd_G} {σ : rd_S} (h : o < N) : (rd_wd N g σ)[o]? = some (g.2.1 o, rd_cell g σ o) := by
  simp [rd_wd, h]
theorem rd_wd_set {N o : Nat} {g : rd_G} {σ σ' : rd_S} (h : o < N) {e : va_E} (he : rd_cell g σ' o = e) (hn : ∀ b, b ≠ o → rd_cell g σ' b = rd_cell g σ b) : (rd_wd N g σ).set o (g.2.1 o, e) = rd_wd N g σ' := by
  apply List.ext_getElem?
  intro b
  by_cases hb : b = o
  · subst hb
    rw [List.getElem?_set_self (by simp [rd_wd, h]), rd_wd_at h, he]
  · rw [List.getElem?_set_ne (Ne.symm hb)]
    by_cases hbN : b < N
    · rw [rd_wd_at hbN, rd_wd_at hbN, hn b hb]
    · rw [List.getElem?_eq_none (by simp [rd_wd]; omega), List.getElem?_eq_none (by simp [rd_wd]; omega)]
theorem rd_u2_ne {σ : rd_S} {o k b : Nat} {v : Int32} (h : b ≠ o) : rd_u2 σ o k v b = σ b := by
  funext j
  simp [rd_u2, h]
theorem rd_u2_row {σ : rd_S} {o k : Nat} {v : Int32} : rd_u2 σ o k v o = upd (σ o) k v := by
  funext j
  simp [rd_u2, upd]
theorem rd_cell_ne {g : rd_G} {σ : rd_S} {o k b : Nat} {v : Int32} (h : b ≠ o) : rd_cell g (rd_u2 σ o k v) b = rd_cell g σ b := by
  have e : rd_fv g.2.1 (rd_u2 σ o k v) b = rd_fv g.2.1 σ b := by
    funext j
    simp [rd_fv, rd_u2_ne h]
  simp [rd_cell, e, rd_u2_ne h]
theorem rd_cell_obj {g : rd_G} {σ : rd_S} {o c : Nat} (hk : rd_kd o = c) (hc : c < 6) : rd_cell g σ o = .inr (c, (List.range (rd_nf c)).map (rd_fv g.2.1 σ o)) := by
  subst hk
  simp [rd_cell, hc]
theorem rd_set_fields {g : rd_G} {σ : rd_S} {o c k : Nat} {v : Int32} (hk : rd_kd o = c) (hn : k < rd_nf c) (hr : rd_isr c k = false) : ((List.range (rd_nf c)).map (rd_fv g.2.1 σ o)).set k (.int v) = (List.range (rd_nf c)).map (rd_fv g.2.1 (rd_u2 σ o k v) o) := by
  apply List.ext_getElem?
  intro b
  by_cases hb : b = k
  · subst hb
    rw [List.getElem?_set_self (by simpa using hn)]
    simp [hn, rd_fv, hk, hr, rd_u2]
  · rw [List.getElem?_set_ne (Ne.symm hb)]
    by_cases hbN : b < rd_nf c
    · simp [hbN, rd_fv, rd_u2, hb]
    · simp [hbN]
/-- the locals of a frame: a list by their places; .retAddr 0 where nothing is known -/
def rd_L (ad : Nat → Nat) (nL : Nat) (ls : List Value) (L : Array Slot) : Prop := L.size = nL ∧ lv_wf L ∧ ls.length = nL ∧ ∀ (i : Nat) (v : Value), ls[i]? = some v → v ≠ .retAddr 0 → L[i]? = some (.val (rd_tr ad v))
def rd_lv (ad : Nat → Nat) (ls : List Value) : List (Nat × Value) := (List.range ls.length).filterMap (fun i => if ls.getD i (.retAddr 0) = .retAddr 0 then none else some (i, rd_tr ad (ls.getD i (.retAddr 0))))
theorem rd_lv_mem {ad : Nat → Nat} {ls : List Value} {i : Nat} {v : Value} (h : ls[i]? = some v) (hv : v ≠ .retAddr 0) : (i, rd_tr ad v) ∈ rd_lv ad ls := by
  refine List.mem_filterMap.mpr ⟨i, List.mem_range.mpr (List.getElem?_eq_some_iff.mp h).1, ?_⟩
  have e : ls.getD i (.retAddr 0) = v := by simp [h]
  rw [e, if_neg hv]
theorem rd_L_has {ad : Nat → Nat} {nL : Nat} {ls : List Value} {L : Array Slot} (h : rd_L ad nL ls L) : lv_has L nL (rd_lv ad ls) := by
  refine ⟨h.1, h.2.1, fun q hq => ?_⟩
  obtain ⟨i, hi, he⟩ := List.mem_filterMap.mp hq
  have hi := List.mem_range.mp hi
  have e : ls[i]? = some (ls.getD i (.retAddr 0)) := by simp [hi]
  by_cases hv : ls.getD i (.retAddr 0) = .retAddr 0
  · rw [if_pos hv] at he
    cases he
  · rw [if_neg hv] at he
    cases he
    exact h.2.2.2 i _ e hv
/-- no long lies across the place -/
def rd_ok1 (ls : List Value) (i : Nat) : Bool := match i with
  | 0 => true
  | j + 1 => (ls.getD j (.retAddr 0)).category == 1
theorem rd_L_store {ad : Nat → Nat} {nL i : Nat} {ls : List Value} {v : Value} {L L' : Array Slot} (h : rd_L ad nL ls L) (hi : i < nL) (hok : rd_ok1 ls i = true) (h' : lv_has L' nL ((i, rd_tr ad v) :: (rd_lv ad ls).filter (fun q => !(q.1 == i) && !(q.1 + 1 == i && q.2.category == 2)))) : rd_L ad nL (ls.set i v) L' := by
  refine ⟨h'.1, h'.2.1, by rw [List.length_set]; exact h.2.2.1, fun j w hj hw => ?_⟩
  by_cases hji : j = i
  · subst hji
    rw [List.getElem?_set_self (by rw [h.2.2.1]; exact hi)] at hj
    cases hj
    exact h'.2.2 _ List.mem_cons_self
  · rw [List.getElem?_set_ne (Ne.symm hji)] at hj
    refine h'.2.2 (j, rd_tr ad w) (List.mem_cons_of_mem _ (List.mem_filter.mpr ⟨rd_lv_mem hj hw, ?_⟩))
    have h1 : (j == i) = false := by simp [hji]
    by_cases h2 : j + 1 = i
    · subst h2
      have h3 : w.category = 1 := by
        simp [rd_ok1, hj] at hok
        exact hok
      simp [h1, rd_tr_cat, h3]
    · simp [h1, h2]
theorem rd_L_store2 {ad : Nat → Nat} {nL i : Nat} {ls : List Value} {v : Value} {L L' : Array Slot} (h : rd_L ad nL ls L) (hi : i + 1 < nL) (hok : rd_ok1 ls i = true) (h' : lv_has L' nL ((i, rd_tr ad v) :: (rd_lv ad ls).filter (fun q => !(q.1 == i) && (!(q.1 == i + 1) && !(q.1 + 1 == i && q.2.category == 2))))) : rd_L ad nL ((ls.set i v).set (i + 1) (.retAddr 0)) L' := by
  refine ⟨h'.1, h'.2.1, by rw [List.length_set, List.length_set]; exact h.2.2.1, fun j w hj hw => ?_⟩
  by_cases hj1 : j = i + 1
  · subst hj1
    rw [List.getElem?_set_self (by rw [List.length_set, h.2.2.1]; exact hi)] at hj
    cases hj
    exact absurd rfl hw
  · rw [List.getElem?_set_ne (Ne.symm hj1)] at hj
    by_cases hji : j = i
    · subst hji
      rw [List.getElem?_set_self (by rw [h.2.2.1]; omega)] at hj
      cases hj
      exact h'.2.2 _ List.mem_cons_self
    · rw [List.getElem?_set_ne (Ne.symm hji)] at hj
      refine h'.2.2 (j, rd_tr ad w) (List.mem_cons_of_mem _ (List.mem_filter.mpr ⟨rd_lv_mem hj hw, ?_⟩))
      have h1 : (j == i) = false := by simp [hji]
      have h1' : (j == i + 1) = false := by simp [hj1]
      by_cases h2 : j + 1 = i
      · subst h2
        have h3 : w.category = 1 := by
          simp [rd_ok1, hj] at hok
          exact hok
        simp [h1, hj1, rd_tr_cat, h3]
      · simp [h1, h2, hj1]
def rd_en : List Value → List Value
  | [] => []
  | v :: r => if v.category = 2 then v :: .retAddr 0 :: rd_en r else v :: rd_en r
theorem rd_en_len (ad : Nat → Nat) (as : List Value) : (lg_sl (as.map (rd_tr ad))).length = (rd_en as).length := by
  induction as with
  | nil => rfl
  | cons v r ih =>
    have e : lg_sl ((v :: r).map (rd_tr ad)) = (if v.category = 2 then [.val (rd_tr ad v), .second] else [.val (rd_tr ad v)]) ++ lg_sl (r.map (rd_tr ad)) := by
      simp [lg_sl, rd_tr_cat]
    rw [e, List.length_append, ih]
    by_cases hc : v.category = 2 <;> simp [rd_en, hc] <;> omega
theorem rd_en_at (ad : Nat → Nat) (as : List Value) : ∀ (b i : Nat) (v : Value), (rd_en as)[i]? = some v → v ≠ .retAddr 0 → (b + i, rd_tr ad v) ∈ lv_args b (as.map (rd_tr ad)) := by
  induction as with
  | nil => intro b i v h; simp [rd_en] at h
  | cons a r ih =>
    intro b i v h hv
    by_cases hc : a.category = 2
    · simp only [rd_en, if_pos hc] at h
      simp only [List.map_cons, lv_args, rd_tr_cat, if_pos hc]
      match i, h with
      | 0, h => simp at h; subst h; simp
      | 1, h => simp at h; exact absurd h.symm hv
      | j + 2, h =>
        have h2 : (rd_en r)[j]? = some v := by simpa using h
        have := ih (b + 2) j v h2 hv
        rw [show b + (j + 2) = b + 2 + j by omega]
        exact List.mem_cons_of_mem _ this
    · simp only [rd_en, if_neg hc] at h
      simp only [List.map_cons, lv_args, rd_tr_cat, if_neg hc]
      match i, h with
      | 0, h => simp at h; subst h; simp
      | j + 1, h =>
        have h2 : (rd_en r)[j]? = some v := by simpa using h
        have := ih (b + 1) j v h2 hv
        rw [show b + (j + 1) = b + 1 + j by omega]
        exact List.mem_cons_of_mem _ this
/-- the links to nest mates' private members: these words are carried by the state -/
def rd_isN (w : Cond) : Option (String × Nat × MethodName × String) := match w with
  | .methodLinkNest a i x h => some (a, i, x, h)
  | _ => none
def rd_nw : List (String × Nat × MethodName × String) := lw_tbl.filterMap rd_isN
def rd_NW (U : State) : Prop := ∀ q ∈ rd_nw, va_Nw (.methodLinkNest q.1 q.2.1 q.2.2.1 q.2.2.2) U
theorem rd_nw_of {a : String} {i : Nat} {x : MethodName} {h : String} (k : Nat) (e : lw_tbl[k]? = some (.methodLinkNest a i x h)) : (a, i, x, h) ∈ rd_nw := List.mem_filterMap.mpr ⟨_, List.mem_of_getElem? e, rfl⟩
theorem rd_NW.warm {s U : State} (hW : s.WarmedH U.vm) (h : rd_NW s) : rd_NW U := fun q hq => va_Nw.warmM hW (h q hq)
theorem rd_NW.same {u U : State} (e : u.vm = U.vm) (h : rd_NW u) : rd_NW U := fun q hq => va_Nw.same rfl e (h q hq)
theorem rd_NW.of {args : Array Value} {s : State} (h : ∀ w ∈ lw_tbl, w.before args s = true) : rd_NW s := by
  intro q hq
  obtain ⟨w, hw, he⟩ := List.mem_filterMap.mp hq
  cases w <;> simp only [rd_isN] at he <;> cases he
  exact va_Nw.of rfl (h _ hw)
/-- room for calls d deep -/
def rd_rm (d : Nat) : Room := { frames := d, cells := 0, slots := 0, locals := 64 * d }
def rd_Qc (N : Nat) (g : rd_G) (ret : Option FieldType) (Q : Option Value → rd_S → Prop) : Array Value → State → Outcome → State → Prop := match ret with
  | none => va_Qv (fun u => Q none u) (rd_B N g) (rd_A N g)
  | some _ => va_Qi (fun r u => Q (some (.int r)) u) (rd_B N g) (rd_A N g)
def rd_cx (p : Program) (R : Room) (s : State) (m : MethodId) (args : Array Value) (meth : Method) (c : Code) (d : Nat) (own : String) (cc : ByteArray) (nL : Nat) (ret : Option FieldType) (g : rd_G) : Prop :=
  p.tables.exec = Jvm.exec ∧ c.code = cc ∧ c.maxLocals = nL ∧ meth.sig.returnType = ret ∧ meth.locks = false ∧ s.vm.findClass own = some m.cls ∧ (∀ w ∈ rd_gt, w.before args s = true) ∧ va_K g.1 vwCl (rd_tys g) s ∧ d ≤ R.frames ∧ 64 * d ≤ R.locals ∧ rd_NW s
/-- the machine, at pc of a method's code with these locals, stack and store, comes to its return, and Q holds of what it answers and of the store then -/
def rd_W (N d : Nat) (own : String) (cc : ByteArray) (nL : Nat) (ret : Option FieldType) (pc : Nat) (ls st : List Value) (σ : rd_S) (Q : Option Value → rd_S → Prop) : Prop :=
  ∀ (p : Program) (l : Launch) (e : Env) (R : Room) (s : State) (m : MethodId) (args : Array Value) (below : List Frame) (meth : Method) (c : Code) (g : rd_G) (H : Heap) (locs : List Loc) (L : Array Slot),
    rd_cx p R s m args meth c d own cc nL ret g → va_P g.1 vwCl (rd_wd N g σ) H → va_D (rd_A N g) (rd_wd N g σ) → va_S (rd_A N g) s.heap H locs → rd_L g.2.1 nL ls L →
    W p l e R s m args below meth c H locs 0 0 (MQ below (rd_Qc N g ret Q) args s 0 0 (rd_A N g)) (F0 m pc L (st.map (rd_tr g.2.1)))
/-- a method's contract: from the store σ with these arguments it returns, and Q holds of the answer and the store then -/
def rd_T (N d : Nat) (y : MethodName) (cc : ByteArray) (nL : Nat) (ret : Option FieldType) (as : List Value) (σ : rd_S) (Q : Option Value → rd_S → Prop) : Prop :=
  ∀ (l : Launch) (g : rd_G), Met l y (rd_ws y cc nL ret) (rd_rm d) (va_Pc (as.map (rd_tr g.2.1)) (fun U => rd_B N g σ U ∧ rd_NW U)) (rd_Qc N g ret Q) 0 0 (rd_A N g)
set_option maxHeartbeats 4000000 in
theorem rd_intro {N d : Nat} {y : MethodName} {cc : ByteArray} {nL : Nat} {ret : Option FieldType} {as : List Value} {σ : rd_S} {Q : Option Value → rd_S → Prop} (ls : List Value) (hy : plainName y.cls = true) (hls : rd_en as ++ List.replicate (nL - (rd_en as).length) (.retAddr 0) = ls) (hlen : (rd_en as).length ≤ nL)
    (h : rd_W N d y.cls cc nL ret 0 ls [] σ Q) : rd_T N d y cc nL ret as σ Q := by
  intro l g
  refine Met.ofW (cc := cc) (maxL := nL) (ret := ret) hy rfl ?_
  intro p e s m args below meth c s₁ B hml hv
  obtain ⟨rfl, ⟨hP, hK, hD⟩, hN⟩ := hv
  have hts := atoms_spec (ws := rd_ws y cc nL ret) B.pre
  have hown : s.vm.findClass y.cls = some m.cls := findClass_of_methodNamed B.named
  have hl := lv_entry (as.map (rd_tr g.2.1)) (n := nL) (by rw [rd_en_len]; exact hlen)
  rw [lg_entry_eq]
  refine h p l e _ s m _ below meth c g s.heap [] _ ⟨B.exec, B.bytes, hml, B.returns, B.notSynchronized, hown, fun w hw => hts w (List.mem_cons_of_mem _ hw), hK, Nat.le_refl _, Nat.le_refl _, hN⟩ hP hD va_S.rf ⟨hl.1, hl.2.1, ?_, fun i v hi hv => ?_⟩
  · rw [← hls]; simp; omega
  · rw [← hls] at hi
    by_cases hil : i < (rd_en as).length
    · rw [List.getElem?_append_left hil] at hi
      have := rd_en_at g.2.1 as 0 i v hi hv
      rw [Nat.zero_add] at this
      exact hl.2.2 _ this
    · rw [List.getElem?_append_right (by omega)] at hi
      have := List.eq_of_mem_replicate (List.mem_of_getElem? hi)
      exact absurd this hv
