/-! ===== constructors: Script, Pile, Search ===== -/
theorem cb_fl {own : String} {idx ci k : Nat} {C : String} {T : u_T} {N : Nat} (h : rd_FL own idx ci k) (hc : vwCl[ci]? = some (C, T, N)) : Cond.fieldLink own idx (T k).1 (T k).2.1 (T k).2.2.1 ∈ rd_gt := by
  obtain ⟨C', T', N', ty, h1, -, -, -, -, -, -, h8⟩ := h
  rw [h1] at hc
  cases hc
  exact h8
set_option maxRecDepth 100000 in
theorem cb_i3 : Cond.instantiable RX3 6 ∈ rd_gt ∧ Cond.initialized RX3 ∈ rd_gt := ⟨rd_gt_of 97 rfl rfl, (rd_gt_of 48 rfl rfl)⟩
set_option maxRecDepth 100000 in
theorem cb_ab : Cond.arrayClass .byte ∈ rd_gt ∧ Cond.arrayClass .int ∈ rd_gt := ⟨(rd_gt_of 95 rfl rfl), (rd_gt_of 357 rfl rfl)⟩
set_option maxRecDepth 100000 in
theorem cb_c0 : Cond.classLink RX0 13 RX3 ∈ rd_gt := (rd_gt_of 137 rfl rfl)
set_option maxRecDepth 100000 in
theorem cb_n0 : cb_L RX0 21 yX3_init cX3_init 1 0 := ⟨Or.inr ⟨"RopeDance", rd_nw_of 139 rfl⟩, (rd_gt_of 48 rfl rfl), rd_gt_of 100 rfl rfl, by decide +kernel, by decide +kernel, by decide, (rd_gt_of 99 rfl rfl), rfl⟩
set_option maxRecDepth 100000 in
theorem cb_c2 : Cond.classLink RX2 9 RX3 ∈ rd_gt := (rd_gt_of 157 rfl rfl)
set_option maxRecDepth 100000 in
theorem cb_n2 : cb_L RX2 17 yX3_init cX3_init 1 0 := ⟨Or.inr ⟨"RopeDance", rd_nw_of 158 rfl⟩, (rd_gt_of 48 rfl rfl), rd_gt_of 100 rfl rfl, by decide +kernel, by decide +kernel, by decide, (rd_gt_of 99 rfl rfl), rfl⟩
set_option maxRecDepth 100000 in
theorem cb_c4 : Cond.classLink RX4 16 RX3 ∈ rd_gt := (rd_gt_of 96 rfl rfl)
set_option maxRecDepth 100000 in
theorem cb_n4 : cb_L RX4 18 yX3_init cX3_init 1 0 := ⟨Or.inr ⟨"RopeDance", rd_nw_of 98 rfl⟩, (rd_gt_of 48 rfl rfl), rd_gt_of 100 rfl rfl, by decide +kernel, by decide +kernel, by decide, (rd_gt_of 99 rfl rfl), rfl⟩
section CBS
variable {p : Program} {l : Launch} {e : Env} {R : Room} {s : State} {m : MethodId} {args : Array Value} {below : List Frame} {meth : Method} {c : Code} {H : Heap} {locs : List Loc} {cells slots : Nat} {Q : State → Prop} {cc : ByteArray} {pc nL : Nat} {ls : Array Slot} {rest : List Value} {g : rd_G} {own : String} {A : Nat → Prop} {H0 : Heap} {ws : va_W}
/-- new Stand() -/
theorem cb_mkS {i1 i2 : Nat} (hx : p.tables.exec = Jvm.exec) (hb : c.code = cc) (hml : c.maxLocals = nL) (hown : s.vm.findClass own = some m.cls) (hts : ∀ w ∈ rd_gt, w.before args s = true) (hK : va_K g.1 vwCl (rd_tys g) s) (hN : rd_NW s) (hO : va_AO RX3 s) (hfr : 2 ≤ R.frames) (hlo : 128 ≤ R.locals) (hcl : Cond.classLink own i1 RX3 ∈ rd_gt) (hL : cb_L own i2 yX3_init cX3_init 1 0) (hP : va_P g.1 vwCl ws H) (hD : va_D A ws) (hS : va_S A H0 H locs) (hA : ∀ q, H0.size ≤ q → A q) (hls : ls.size = nL) (hw : (rest.map Value.category).sum ≤ 7) (d0 : decode cc pc = .ok (.new i1, 3)) (d3 : decode cc (pc + 3) = .ok (.dup, 1)) (d4 : decode cc (pc + 4) = .ok (.invokespecial i2, 3)) (hcr : cells + 1 ≤ R.cells) (hsr : slots + 6 ≤ R.slots)
    (kk : ∀ (q : Nat) (H1 : Heap) (locs1 : List Loc), va_P g.1 vwCl (ws ++ [(q, .inr (3, cb_s0))]) H1 → va_D A (ws ++ [(q, .inr (3, cb_s0))]) → va_S A H0 H1 locs1 → W p l e R s m args below meth c H1 locs1 (cells + 1) (slots + 6) Q (F0 m (pc + 7) ls (.ref q :: rest))) : W p l e R s m args below meth c H locs cells slots Q (F0 m pc ls rest) := by
  refine va_new (ci := 3) (fs := cb_z6) (C := RX3) (T := TX3) (N := 6) hx hb hts kw_X3 tyX3 tyX3_ok hown (hts _ hcl) (hts _ cb_i3.1) (hts _ cb_i3.2) hK hP hD hS hA rfl (fun j hj => by rcases (show j = 0 ∨ j = 1 ∨ j = 2 ∨ j = 3 ∨ j = 4 ∨ j = 5 by omega) with rfl | rfl | rfl | rfl | rfl | rfl <;> rfl) hcr hsr d0 (fun q H hP hD hS => ?_)
  refine lv_dup hx hb d3 rfl ?_
  exact cb_call (d' := 1) (g := g) (mc := 0) (ms := 0) (rest := .ref q :: rest) hx hb hml hown hts hK hN hO hfr hlo (cb_Stand g 0) hL hP hD hS hA hls rfl rfl (by show (1 + (rest.map Value.category).sum) ≤ 8; omega) d4 hcr hsr (fun u H1 locs1 hP hD hS => kk q H1 locs1 hP hD hS)
end CBS
abbrev cb_f6 : List Value := [.null, .int 0, .int 0, .int 0, .int 0, .int 0]
set_option maxHeartbeats 4000000 in
set_option maxRecDepth 100000 in
theorem cb_Script (g : rd_G) (d : Nat) : cb_T g (d + 1) yX1_init cX1_init 1 1 cb_f6 [] 1 200 (fun b (q : Nat) => [(b, .inr (1, [.ref q, .int 0, .int 0, .int 0, .int 0, .int 0])), (q, .inl (g.2.2.1, 200, .inl (fun _ => 0)))]) := by
  refine cb_intro (by decide) rfl (fun b => Nat.le_of_ble_eq_true rfl) ?_
  intro p l e R s m args below meth c b ls C hP hD hS hA hl
  obtain ⟨hx, hb, hml, hr, hlocks, hown, hts, hK, hN, hO, hfr, hlo, hmc, hms, hin⟩ := C
  have hl : lv_has ls 1 [(0, .ref b)] := hl
  generalize va_A [(b, .inr (1, cb_f6))] s.heap.size = A at *
  refine lv_aload_n hx hb dX1_init_0 rfl (lv_at hl 0 rfl) ?_
  refine W.objInit hx hb hown (hts _ cb_o1) (hts _ cb_oi) (hts _ cb_oc) rfl (by rw [hml]; exact hl.1) rfl dX1_init_1 (by omega) (by show 2 * 0 + 0 + 12 ≤ R.locals; omega) ?_
  refine W.eq (g2 := F0 m 4 ls []) rfl ?_
  refine lv_aload_n hx hb dX1_init_4 rfl (lv_at hl 0 rfl) ?_
  refine lv_sipush (v := 200) hx hb dX1_init_5 (by decide) ?_
  refine va_newa (D := g.1) (atype := .byte) (N' := 200) (a0 := (200, .inl (fun _ => 0))) hx hb (hts _ cb_ab.1) (ty := .byte) rfl hK hP hD hS hA (fun _ => rfl) (by decide) (by decide) (Nat.le_of_ble_eq_true rfl) (by omega) (by omega) dX1_init_8 (fun q cA H hK2 hP hD hS => ?_)
  have hcA : cA = g.2.2.1 := cb_tyeq hK2 (k := 3) (j := 0) rfl rfl
  subst hcA
  refine va_putF (D := g.1) (ci := 1) (v := .ref q) (ty := tyX1 0) (C := RX1) (T := TX1) (N := 6) hx hb hts kw_X1 tyX1 tyX1_ok nmX1 hown hK hP hD hS 0 rfl rfl 0 (by decide) (hts _ (cb_fl kf_X1_9 rfl)) (fun _ h9 => h9) rfl hin rfl (tyX1_ok 0 (by decide)) rfl rfl (by decide) dX1_init_10 (fun H locs hP hD hS => ?_)
  exact W.vret hx hb hr (fun t ht hW => ⟨⟨q, rfl, trivial, by rw [ht]; exact hP, hD⟩, hS.F ht⟩) hS.2.2 dX1_init_13
/-- a row of Stands, k of them made -/
def cb_rw (u : Nat → Nat) (k j : Nat) : Option Nat := if j < k then some (u j) else none
def cb_ss (u : Nat → Nat) (k : Nat) : va_W := (List.range k).map (fun i => (u i, .inr (3, cb_s0)))
def cb_w (g : rd_G) (x : Nat × va_E) (a n : Nat) (u : Nat → Nat) (k : Nat) : va_W := x :: (a, .inl (g.2.2.2.2, n, .inr (.inr (.inr (.inr (cb_rw u k)))))) :: cb_ss u k
theorem cb_ss_len (u : Nat → Nat) (k : Nat) : (cb_ss u k).length = k := by simp [cb_ss]
theorem cb_w_s (g : rd_G) (x : Nat × va_E) (a n : Nat) (u : Nat → Nat) (k q : Nat) : (cb_w g x a n u k ++ [((q, .inr (3, cb_s0)) : Nat × va_E)]).set 1 (a, .inl (g.2.2.2.2, n, .inr (.inr (.inr (.inr (va_up (cb_rw u k) k (some q))))))) = cb_w g x a n (fun i => if i = k then q else u i) (k + 1) := by
  have e1 : va_up (cb_rw u k) k (some q) = cb_rw (fun i => if i = k then q else u i) (k + 1) := by
    funext j
    unfold va_up cb_rw
    by_cases h : j = k
    · subst h; rw [if_pos rfl, if_pos (by omega)]; show some q = some (if j = j then q else u j); rw [if_pos rfl]
    · rw [if_neg h]
      by_cases h2 : j < k
      · rw [if_pos h2, if_pos (by omega)]; show some (u j) = some (if j = k then q else u j); rw [if_neg h]
      · rw [if_neg h2, if_neg (by omega)]
  have e2 : cb_ss u k ++ [((q, .inr (3, cb_s0)) : Nat × va_E)] = cb_ss (fun i => if i = k then q else u i) (k + 1) := by
    unfold cb_ss
    rw [List.range_succ, List.map_append]
    congr 1
    · refine List.map_congr_left (fun i hi => ?_)
      have := List.mem_range.mp hi
      show (u i, _) = ((if i = k then q else u i), _)
      rw [if_neg (show ¬ i = k by omega)]
    · simp
  show x :: (a, _) :: (cb_ss u k ++ [((q, .inr (3, cb_s0)) : Nat × va_E)]) = x :: (a, _) :: cb_ss (fun i => if i = k then q else u i) (k + 1)
  rw [e1, e2]
theorem cb_w_at (g : rd_G) (x : Nat × va_E) (a n : Nat) (u : Nat → Nat) (k q : Nat) : (cb_w g x a n u k ++ [((q, .inr (3, cb_s0)) : Nat × va_E)])[2 + k]? = some (q, .inr (3, cb_s0)) := by
  rw [List.getElem?_append_right (by simp [cb_w, cb_ss_len]; omega)]
  simp [cb_w, cb_ss_len, show 2 + k - (k + 2) = 0 by omega]
theorem cb_w_e (g : rd_G) (x : Nat × va_E) (a n : Nat) (u : Nat → Nat) {H : Heap} (hP : va_P g.1 vwCl (cb_w g x a n u n) H) : va_P g.1 vwCl (x :: (a, .inl (g.2.2.2.2, n, .inr (.inr (.inr (.inr (fun j => some (u j))))))) :: cb_ss u n) H := by
  intro k q hk
  match k, hk with
  | 0, hk => exact hP 0 q hk
  | 1, hk =>
    have hk : (a, .inl (g.2.2.2.2, n, .inr (.inr (.inr (.inr (fun j => some (u j))))))) = q := Option.some.inj hk
    subst hk
    have h1 : H[a]? = some (vp_cell g.2.2.2.2 (n, .inr (.inr (.inr (.inr (cb_rw u n)))))) := hP 1 _ rfl
    show H[a]? = some (vp_cell g.2.2.2.2 (n, .inr (.inr (.inr (.inr (fun j => some (u j)))))))
    rw [h1, vp_cell_q, vp_cell_q]
    unfold arrV
    congr 3
    funext j
    show va_rf (cb_rw u n j.1) = va_rf (some (u j.1))
    unfold cb_rw
    rw [if_pos j.2]
  | k + 2, hk => exact hP (k + 2) q hk
theorem cb_w_d {g : rd_G} {x : Nat × va_E} {a n : Nat} {u : Nat → Nat} {A : Nat → Prop} (hD : va_D A (cb_w g x a n u n)) : va_D A (x :: (a, .inl (g.2.2.2.2, n, .inr (.inr (.inr (.inr (fun j => some (u j))))))) :: cb_ss u n) := by
  have := hD.set (p := 1) (a := a) (e0 := .inl (g.2.2.2.2, n, .inr (.inr (.inr (.inr (cb_rw u n)))))) (e := .inl (g.2.2.2.2, n, .inr (.inr (.inr (.inr (fun j => some (u j))))))) rfl
  exact this
theorem cb_mx : ∀ n, 1 ≤ n → n ≤ 8 → (if (1 : Int32) < nI n then nI n else 1) = nI n := by
  intro n h1 h2
  rcases (show n = 1 ∨ n = 2 ∨ n = 3 ∨ n = 4 ∨ n = 5 ∨ n = 6 ∨ n = 7 ∨ n = 8 by omega) with rfl | rfl | rfl | rfl | rfl | rfl | rfl | rfl <;> rfl
abbrev cb_g0 : List Value := [.null, .int 0, .int 0]
set_option maxHeartbeats 4000000 in
set_option maxRecDepth 100000 in
theorem cb_lpPile {g : rd_G} {p : Program} {l : Launch} {e : Env} {R : Room} {s : State} {m : MethodId} {args : Array Value} {below : List Frame} {meth : Method} {c : Code} {A : Nat → Prop} {Q : State → Prop} {d0 mc ms : Nat} (C : cb_X g (d0 + 2) mc ms RX0 cX0_init 3 p R s m args meth c) (hA : ∀ q, s.heap.size ≤ q → A q) (n : Nat) (h8 : n ≤ 8) (hmc : 1 + n ≤ R.cells) (hms : n + 6 * n ≤ R.slots) (b a : Nat)
    (K : ∀ (u : Nat → Nat) (H : Heap) (locs : List Loc) (ls : Array Slot), va_P g.1 vwCl (cb_w g (b, .inr (0, [.ref a, .int 0, .int 0])) a n u n) H → va_D A (cb_w g (b, .inr (0, [.ref a, .int 0, .int 0])) a n u n) → va_S A s.heap H locs → W p l e R s m args below meth c H locs (1 + n) (n + 6 * n) Q (F0 m 46 ls [])) :
    ∀ (r k : Nat) (u : Nat → Nat) (H : Heap) (locs : List Loc) (ls : Array Slot), k + r = n → va_P g.1 vwCl (cb_w g (b, .inr (0, [.ref a, .int 0, .int 0])) a n u k) H → va_D A (cb_w g (b, .inr (0, [.ref a, .int 0, .int 0])) a n u k) → va_S A s.heap H locs → lv_has ls 3 [(0, .ref b), (1, .int (nI n)), (2, .int (nI k))] → W p l e R s m args below meth c H locs (1 + k) (n + 6 * k) Q (F0 m 18 ls []) := by
  obtain ⟨hx, hb, hml, hr, hlocks, hown, hts, hK, hN, hO, hfr, hlo, -, -, hin⟩ := C
  intro r
  induction r with
  | zero =>
    intro k u H locs ls hk hP hD hS hl
    obtain rfl : k = n := hk
    refine lv_iload_n hx hb dX0_init_18 rfl (lv_at hl 2 rfl) ?_
    refine lv_aload_n hx hb dX0_init_19 rfl (lv_at hl 0 rfl) ?_
    refine va_get (D := g.1) (ci := 0) (C := RX0) (T := TX0) (N := 3) hx hb hts kw_X0 hown hK hP 0 rfl rfl 0 (by decide) (hts _ (cb_fl kf_X0_15 rfl)) (fun _ h9 => h9) (v := .ref a) rfl dX0_init_20 ?_
    refine va_alen (D := g.1) hx hb hK hP 1 2 (x := (k, .inr (.inr (.inr (.inr (cb_rw u k)))))) rfl (ty := .object RX3) rfl (v := nI k) rfl dX0_init_23 ?_
    exact lv_icmp_ge (tgt := 46) hx hb dX0_init_24 (by decide) (fun _ => K u H locs ls hP hD hS) (fun q => absurd (nI_le (Nat.le_refl k) (by omega)) q)
  | succ r ih =>
    intro k u H locs ls hk hP hD hS hl
    refine lv_iload_n hx hb dX0_init_18 rfl (lv_at hl 2 rfl) ?_
    refine lv_aload_n hx hb dX0_init_19 rfl (lv_at hl 0 rfl) ?_
    refine va_get (D := g.1) (ci := 0) (C := RX0) (T := TX0) (N := 3) hx hb hts kw_X0 hown hK hP 0 rfl rfl 0 (by decide) (hts _ (cb_fl kf_X0_15 rfl)) (fun _ h9 => h9) (v := .ref a) rfl dX0_init_20 ?_
    refine va_alen (D := g.1) hx hb hK hP 1 2 (x := (n, .inr (.inr (.inr (.inr (cb_rw u k)))))) rfl (ty := .object RX3) rfl (v := nI n) rfl dX0_init_23 ?_
    refine lv_icmp_ge (tgt := 46) hx hb dX0_init_24 (by decide) (fun q => absurd q (nI_ge (by omega) (by omega))) (fun _ => ?_)
    refine lv_aload_n hx hb dX0_init_27 rfl (lv_at hl 0 rfl) ?_
    refine va_get (D := g.1) (ci := 0) (C := RX0) (T := TX0) (N := 3) hx hb hts kw_X0 hown hK hP 0 rfl rfl 0 (by decide) (hts _ (cb_fl kf_X0_15 rfl)) (fun _ h9 => h9) (v := .ref a) rfl dX0_init_28 ?_
    refine lv_iload_n hx hb dX0_init_31 rfl (lv_at hl 2 rfl) ?_
    refine cb_mkS (g := g) hx hb hml hown hts hK hN hO (by omega) (by omega) cb_c0 cb_n0 hP hD hS hA hl.1 (Nat.le_of_ble_eq_true rfl) dX0_init_32 dX0_init_35 dX0_init_36 (by omega) (by omega) (fun q H locs hP hD hS => ?_)
    refine va_astq (D := g.1) (r := (RX3, TX3, 6)) hx hb hK hP hD hS 1 2 (2 + k) 3 rfl rfl (cb_w_at g _ a n u k q) rfl (vp_in_nI (show k < n by omega) (by omega)) dX0_init_39 (fun H locs hP hD hS => ?_)
    rw [nI_clamp (by omega), cb_w_s] at hP hD
    refine lv_iinc (v := nI (k + 1)) (lv' := [(2, .int (nI (k + 1))), (0, .ref b), (1, .int (nI n))]) hx hb dX0_init_40 hl (k := 2) rfl (nI_1 k) (by decide) rfl (fun ls2 hl2 => ?_)
    refine lv_goto (tgt := 18) hx hb dX0_init_43 (by decide) ?_
    exact ih (k + 1) _ H locs ls2 (by omega) hP hD hS (lv_sub hl2 [1, 2, 0] rfl)
set_option maxHeartbeats 4000000 in
set_option maxRecDepth 100000 in
theorem cb_Pile (g : rd_G) (d : Nat) (n : Nat) (h1 : 1 ≤ n) (h8 : n ≤ 8) : cb_T g (d + 2) yX0_init cX0_init 3 0 cb_g0 [.int (nI n)] (1 + n) (n + 6 * n) (fun b (z : Nat × (Nat → Nat)) => (b, .inr (0, [.ref z.1, .int 0, .int 0])) :: (z.1, .inl (g.2.2.2.2, n, .inr (.inr (.inr (.inr (fun j => some (z.2 j))))))) :: cb_ss z.2 n) := by
  refine cb_intro (by decide) rfl (fun b => Nat.le_of_ble_eq_true rfl) ?_
  intro p l e R s m args below meth c b ls C hP hD hS hA hl
  obtain ⟨hx, hb, hml, hr, hlocks, hown, hts, hK, hN, hO, hfr, hlo, hmc, hms, hin⟩ := id C
  have hl : lv_has ls 3 [(0, .ref b), (1, .int (nI n))] := hl
  generalize va_A [(b, .inr (0, cb_g0))] s.heap.size = A at *
  refine lv_aload_n hx hb dX0_init_0 rfl (lv_at hl 0 rfl) ?_
  refine W.objInit hx hb hown (hts _ cb_o0) (hts _ cb_oi) (hts _ cb_oc) rfl (by rw [hml]; exact hl.1) rfl dX0_init_1 (by omega) (by show 2 * 0 + 0 + 12 ≤ R.locals; omega) ?_
  refine W.eq (g2 := F0 m 4 ls []) rfl ?_
  refine lv_aload_n hx hb dX0_init_4 rfl (lv_at hl 0 rfl) ?_
  refine lv_iconst (v := 1) hx hb dX0_init_5 (by decide) ?_
  refine lv_iload_n hx hb dX0_init_6 rfl (lv_at hl 1 rfl) ?_
  refine va_mmax hx hb (by rw [hml]; exact hl.1.symm) hown (hts _ kl_X0_7) (hts _ kh_max.1) (hts _ kh_max.2.1) (hts _ kh_max.2.2) (by omega) (by show 1 + 13 ≤ R.locals; omega) (by omega) (by omega) dX0_init_7 ?_
  rw [cb_mx n h1 h8]
  refine va_newq (D := g.1) (C := RX3) (n := nI n) (N' := n) hx hb hown (hts _ cb_c0) hO hK hP hD hS hA (nI_pos (by omega)) (nI_clamp (by omega)) (by omega) (by omega) (by omega) dX0_init_10 (fun a cA H hK2 hP hD hS => ?_)
  have hcA : cA = g.2.2.2.2 := cb_tyeq hK2 (k := 3) (j := 2) rfl rfl
  subst hcA
  refine va_putF (D := g.1) (ci := 0) (v := .ref a) (ty := tyX0 0) (C := RX0) (T := TX0) (N := 3) hx hb hts kw_X0 tyX0 tyX0_ok nmX0 hown hK hP hD hS 0 rfl rfl 0 (by decide) (hts _ (cb_fl kf_X0_15 rfl)) (fun _ h9 => h9) rfl hin rfl (tyX0_ok 0 (by decide)) rfl rfl (by decide) dX0_init_13 (fun H locs hP hD hS => ?_)
  refine lv_iconst (v := 0) hx hb dX0_init_16 (by decide) ?_
  refine lv_istore_n (lv' := [(2, .int 0), (0, .ref b), (1, .int (nI n))]) hx hb dX0_init_17 rfl hl (by decide) rfl (fun ls hl => ?_)
  refine W.widen (k := 1 + 0) (n := n + 6 * 0) (by omega) (by omega) ?_
  have e0 : cb_rw (fun _ => 0) 0 = fun _ => none := by funext j; unfold cb_rw; rw [if_neg (by omega)]
  refine cb_lpPile C hA n (by omega) (by omega) (by omega) b a (fun u H locs ls hP hD hS => ?_) n 0 (fun _ => 0) H locs ls (by omega) (by unfold cb_w; rw [e0]; exact hP) (by unfold cb_w; rw [e0]; exact hD) hS (lv_sub hl [1, 2, 0] rfl)
  exact W.vret hx hb hr (fun t ht hW => ⟨⟨(a, u), rfl, trivial, by rw [ht]; exact cb_w_e g _ a n u hP, cb_w_d hD⟩, hS.F ht⟩) hS.2.2 dX0_init_46
abbrev cb_g2 : List Value := [.null, .int 0, .int 0, .int 0, .int 0, .int 0, .int 0, .int 0, .int 0]
set_option maxHeartbeats 4000000 in
set_option maxRecDepth 100000 in
theorem cb_lpSearch {g : rd_G} {p : Program} {l : Launch} {e : Env} {R : Room} {s : State} {m : MethodId} {args : Array Value} {below : List Frame} {meth : Method} {c : Code} {A : Nat → Prop} {Q : State → Prop} {d0 mc ms : Nat} (C : cb_X g (d0 + 2) mc ms RX2 cX2_init 2 p R s m args meth c) (hA : ∀ q, s.heap.size ≤ q → A q) (n : Nat) (h8 : n ≤ 8) (hmc : 1 + n ≤ R.cells) (hms : n + 6 * n ≤ R.slots) (b a : Nat)
    (K : ∀ (u : Nat → Nat) (H : Heap) (locs : List Loc) (ls : Array Slot), va_P g.1 vwCl (cb_w g (b, .inr (2, [.ref a, .int 0, .int 0, .int 0, .int 0, .int 0, .int 0, .int 0, .int 0])) a n u n) H → va_D A (cb_w g (b, .inr (2, [.ref a, .int 0, .int 0, .int 0, .int 0, .int 0, .int 0, .int 0, .int 0])) a n u n) → va_S A s.heap H locs → W p l e R s m args below meth c H locs (1 + n) (n + 6 * n) Q (F0 m 43 ls [])) :
    ∀ (r k : Nat) (u : Nat → Nat) (H : Heap) (locs : List Loc) (ls : Array Slot), k + r = n → va_P g.1 vwCl (cb_w g (b, .inr (2, [.ref a, .int 0, .int 0, .int 0, .int 0, .int 0, .int 0, .int 0, .int 0])) a n u k) H → va_D A (cb_w g (b, .inr (2, [.ref a, .int 0, .int 0, .int 0, .int 0, .int 0, .int 0, .int 0, .int 0])) a n u k) → va_S A s.heap H locs → lv_has ls 2 [(0, .ref b), (1, .int (nI k))] → W p l e R s m args below meth c H locs (1 + k) (n + 6 * k) Q (F0 m 15 ls []) := by
  obtain ⟨hx, hb, hml, hr, hlocks, hown, hts, hK, hN, hO, hfr, hlo, -, -, hin⟩ := C
  intro r
  induction r with
  | zero =>
    intro k u H locs ls hk hP hD hS hl
    obtain rfl : k = n := hk
    refine lv_iload_n hx hb dX2_init_15 rfl (lv_at hl 1 rfl) ?_
    refine lv_aload_n hx hb dX2_init_16 rfl (lv_at hl 0 rfl) ?_
    refine va_get (D := g.1) (ci := 2) (C := RX2) (T := TX2) (N := 9) hx hb hts kw_X2 hown hK hP 0 rfl rfl 0 (by decide) (hts _ (cb_fl kf_X2_11 rfl)) (fun _ h9 => h9) (v := .ref a) rfl dX2_init_17 ?_
    refine va_alen (D := g.1) hx hb hK hP 1 2 (x := (k, .inr (.inr (.inr (.inr (cb_rw u k)))))) rfl (ty := .object RX3) rfl (v := nI k) rfl dX2_init_20 ?_
    exact lv_icmp_ge (tgt := 43) hx hb dX2_init_21 (by decide) (fun _ => K u H locs ls hP hD hS) (fun q => absurd (nI_le (Nat.le_refl k) (by omega)) q)
  | succ r ih =>
    intro k u H locs ls hk hP hD hS hl
    refine lv_iload_n hx hb dX2_init_15 rfl (lv_at hl 1 rfl) ?_
    refine lv_aload_n hx hb dX2_init_16 rfl (lv_at hl 0 rfl) ?_
    refine va_get (D := g.1) (ci := 2) (C := RX2) (T := TX2) (N := 9) hx hb hts kw_X2 hown hK hP 0 rfl rfl 0 (by decide) (hts _ (cb_fl kf_X2_11 rfl)) (fun _ h9 => h9) (v := .ref a) rfl dX2_init_17 ?_
    refine va_alen (D := g.1) hx hb hK hP 1 2 (x := (n, .inr (.inr (.inr (.inr (cb_rw u k)))))) rfl (ty := .object RX3) rfl (v := nI n) rfl dX2_init_20 ?_
    refine lv_icmp_ge (tgt := 43) hx hb dX2_init_21 (by decide) (fun q => absurd q (nI_ge (by omega) (by omega))) (fun _ => ?_)
    refine lv_aload_n hx hb dX2_init_24 rfl (lv_at hl 0 rfl) ?_
    refine va_get (D := g.1) (ci := 2) (C := RX2) (T := TX2) (N := 9) hx hb hts kw_X2 hown hK hP 0 rfl rfl 0 (by decide) (hts _ (cb_fl kf_X2_11 rfl)) (fun _ h9 => h9) (v := .ref a) rfl dX2_init_25 ?_
    refine lv_iload_n hx hb dX2_init_28 rfl (lv_at hl 1 rfl) ?_
    refine cb_mkS (g := g) hx hb hml hown hts hK hN hO (by omega) (by omega) cb_c2 cb_n2 hP hD hS hA hl.1 (Nat.le_of_ble_eq_true rfl) dX2_init_29 dX2_init_32 dX2_init_33 (by omega) (by omega) (fun q H locs hP hD hS => ?_)
    refine va_astq (D := g.1) (r := (RX3, TX3, 6)) hx hb hK hP hD hS 1 2 (2 + k) 3 rfl rfl (cb_w_at g _ a n u k q) rfl (vp_in_nI (show k < n by omega) (by omega)) dX2_init_36 (fun H locs hP hD hS => ?_)
    rw [nI_clamp (by omega), cb_w_s] at hP hD
    refine lv_iinc (v := nI (k + 1)) (lv' := [(1, .int (nI (k + 1))), (0, .ref b)]) hx hb dX2_init_37 hl (k := 1) rfl (nI_1 k) (by decide) rfl (fun ls2 hl2 => ?_)
    refine lv_goto (tgt := 15) hx hb dX2_init_40 (by decide) ?_
    exact ih (k + 1) _ H locs ls2 (by omega) hP hD hS (lv_sub hl2 [1, 0] rfl)
set_option maxHeartbeats 4000000 in
set_option maxRecDepth 100000 in
theorem cb_Search (g : rd_G) (d : Nat) : cb_T g (d + 2) yX2_init cX2_init 2 2 cb_g2 [] (1 + 8) (8 + 6 * 8) (fun b (z : Nat × (Nat → Nat)) => (b, .inr (2, [.ref z.1, .int 0, .int 0, .int 0, .int 0, .int 0, .int 0, .int 0, .int 0])) :: (z.1, .inl (g.2.2.2.2, 8, .inr (.inr (.inr (.inr (fun j => some (z.2 j))))))) :: cb_ss z.2 8) := by
  refine cb_intro (by decide) rfl (fun b => Nat.le_of_ble_eq_true rfl) ?_
  intro p l e R s m args below meth c b ls C hP hD hS hA hl
  obtain ⟨hx, hb, hml, hr, hlocks, hown, hts, hK, hN, hO, hfr, hlo, hmc, hms, hin⟩ := id C
  have hl : lv_has ls 2 [(0, .ref b)] := hl
  generalize va_A [(b, .inr (2, cb_g2))] s.heap.size = A at *
  refine lv_aload_n hx hb dX2_init_0 rfl (lv_at hl 0 rfl) ?_
  refine W.objInit hx hb hown (hts _ cb_o2) (hts _ cb_oi) (hts _ cb_oc) rfl (by rw [hml]; exact hl.1) rfl dX2_init_1 (by omega) (by show 2 * 0 + 0 + 12 ≤ R.locals; omega) ?_
  refine W.eq (g2 := F0 m 4 ls []) rfl ?_
  refine lv_aload_n hx hb dX2_init_4 rfl (lv_at hl 0 rfl) ?_
  refine lv_bipush (v := 8) hx hb dX2_init_5 (by decide) ?_
  refine va_newq (D := g.1) (C := RX3) (n := 8) (N' := 8) hx hb hown (hts _ cb_c2) hO hK hP hD hS hA (by decide) (by decide) (by omega) (by omega) (by omega) dX2_init_7 (fun a cA H hK2 hP hD hS => ?_)
  have hcA : cA = g.2.2.2.2 := cb_tyeq hK2 (k := 3) (j := 2) rfl rfl
  subst hcA
  refine va_putF (D := g.1) (ci := 2) (v := .ref a) (ty := tyX2 0) (C := RX2) (T := TX2) (N := 9) hx hb hts kw_X2 tyX2 tyX2_ok nmX2 hown hK hP hD hS 0 rfl rfl 0 (by decide) (hts _ (cb_fl kf_X2_11 rfl)) (fun _ h9 => h9) rfl hin rfl (tyX2_ok 0 (by decide)) rfl rfl (by decide) dX2_init_10 (fun H locs hP hD hS => ?_)
  refine lv_iconst (v := 0) hx hb dX2_init_13 (by decide) ?_
  refine lv_istore_n (lv' := [(1, .int 0), (0, .ref b)]) hx hb dX2_init_14 rfl hl (by decide) rfl (fun ls hl => ?_)
  refine W.widen (k := 1 + 0) (n := 8 + 6 * 0) (by omega) (by omega) ?_
  have e0 : cb_rw (fun _ => 0) 0 = fun _ => none := by funext j; unfold cb_rw; rw [if_neg (by omega)]
  refine cb_lpSearch C hA 8 (by omega) (by omega) (by omega) b a (fun u H locs ls hP hD hS => ?_) 8 0 (fun _ => 0) H locs ls (by omega) (by unfold cb_w; rw [e0]; exact hP) (by unfold cb_w; rw [e0]; exact hD) hS (lv_sub hl [1, 0] rfl)
  exact W.vret hx hb hr (fun t ht hW => ⟨⟨(a, u), rfl, trivial, by rw [ht]; exact cb_w_e g _ a 8 u hP, cb_w_d hD⟩, hS.F ht⟩) hS.2.2 dX2_init_43
