/-! ===== the law, from its entry ===== -/
set_option maxRecDepth 100000 in
theorem st_d4 : Cond.classLink RL 7 RX4 ∈ rd_gt ∧ Cond.instantiable RX4 14 ∈ rd_gt ∧ Cond.initialized RX4 ∈ rd_gt := ⟨(rd_gt_of 58 rfl rfl), rd_gt_of 59 rfl rfl, (rd_gt_of 46 rfl rfl)⟩
set_option maxRecDepth 100000 in
theorem st_l4 : Cond.methodLink RL 9 yX4_init ∈ rd_gt := (rd_gt_of 60 rfl rfl)
set_option maxRecDepth 100000 in
theorem st_m4 : cb_L RL 9 yX4_init cX4_init 2 0 := ⟨Or.inl (rd_gt_of 60 rfl rfl), (rd_gt_of 46 rfl rfl), rd_gt_of 62 rfl rfl, by decide +kernel, by decide +kernel, by decide, (rd_gt_of 61 rfl rfl), rfl⟩
set_option maxRecDepth 100000 in
theorem st_d5 : Cond.classLink RL 10 RX5 ∈ rd_gt ∧ Cond.instantiable RX5 25 ∈ rd_gt ∧ Cond.initialized RX5 ∈ rd_gt := ⟨(rd_gt_of 660 rfl rfl), rd_gt_of 661 rfl rfl, (rd_gt_of 57 rfl rfl)⟩
set_option maxRecDepth 100000 in
theorem st_l5 : Cond.methodLink RL 12 yX5_init ∈ rd_gt := (rd_gt_of 662 rfl rfl)
set_option maxRecDepth 100000 in
theorem st_m5 : cb_L RL 12 yX5_init cX5_init 2 0 := ⟨Or.inl (rd_gt_of 662 rfl rfl), (rd_gt_of 57 rfl rfl), rd_gt_of 664 rfl rfl, by decide +kernel, by decide +kernel, by decide, (rd_gt_of 663 rfl rfl), rfl⟩
set_option maxRecDepth 100000 in
theorem st_w1 : Cond.laysStatic "java/lang/String" "COMPACT_STRINGS" "Z" ∈ lw_tbl := (List.mem_of_getElem? (i := 199) rfl)
set_option maxRecDepth 100000 in
theorem st_w2 : Cond.laysStatic "jdk/internal/util/Preconditions" "SIOOBE_FORMATTER" "Ljava/util/function/BiFunction;" ∈ lw_tbl := (List.mem_of_getElem? (i := 215) rfl)
set_option maxRecDepth 100000 in
theorem st_w3 : Cond.stringRef RX4 58 js_X ∈ lw_tbl := (List.mem_of_getElem? (i := 189) rfl)
set_option maxRecDepth 100000 in
theorem st_w4 : Cond.arrayOver (.object RX3) ∈ lw_tbl := (List.mem_of_getElem? (i := 138) rfl)
set_option maxRecDepth 100000 in
theorem st_w5 : Cond.initialized "java/lang/String" ∈ rd_gt ∧ Cond.initialized "jdk/internal/util/Preconditions" ∈ rd_gt := ⟨(rd_gt_of 52 rfl rfl), (rd_gt_of 54 rfl rfl)⟩
def st_t : Term := .string RX4 58
def st_v : Term := .field st_t "java/lang/String" "value" "[B"
theorem st_g1 : Cond.eq (.static "java/lang/String" "COMPACT_STRINGS" "Z") (.int 1) ∈ flatC (Jvm.Cond.and given_1 narrow_1) ∧ Cond.isRef (.static "jdk/internal/util/Preconditions" "SIOOBE_FORMATTER" "Ljava/util/function/BiFunction;") ∈ flatC (Jvm.Cond.and given_1 narrow_1) ∧ Cond.exactly st_t "java/lang/String" ∈ flatC (Jvm.Cond.and given_1 narrow_1) ∧ Cond.eq (.field st_t "java/lang/String" "coder" "B") (.int 0) ∈ flatC (Jvm.Cond.and given_1 narrow_1) ∧ Cond.arrayOf st_v .byte ∈ flatC (Jvm.Cond.and given_1 narrow_1) ∧ Cond.eq (.length st_v) (.int 30) ∈ flatC (Jvm.Cond.and given_1 narrow_1) := by decide +kernel
theorem st_g2 : ∀ j, j < 30 → Cond.eq (.elem st_v (.int (Int32.ofNat j))) (.int (js_B.getD j 0)) ∈ flatC (Jvm.Cond.and given_1 narrow_1) := by decide +kernel
/-- the array classes, the strings, at the law's entry -/
theorem st_K {args : Array Value} {s : State} (hts : ∀ w ∈ lw_tbl, w.before args s = true) : ∃ g : rd_G, va_K g.1 vwCl (rd_tys g) s := by
  have htr : ∀ w ∈ rd_gt, w.before args s = true := fun w hw => hts w (List.mem_filter.mp hw).1
  obtain ⟨c0, i0, k0⟩ := u_known (C := RX0) (T := TX0) (N := 3) (n := 3) htr kw_X0 (htr _ cb_i0.1)
  obtain ⟨c1, i1, k1⟩ := u_known (C := RX1) (T := TX1) (N := 6) (n := 6) htr kw_X1 (htr _ cb_i1.1)
  obtain ⟨c2, i2, k2⟩ := u_known (C := RX2) (T := TX2) (N := 9) (n := 9) htr kw_X2 (htr _ cb_i2.1)
  obtain ⟨c3, i3, k3⟩ := u_known (C := RX3) (T := TX3) (N := 6) (n := 6) htr kw_X3 (htr _ cb_i3.1)
  obtain ⟨c4, i4, k4⟩ := u_known (C := RX4) (T := TX4) (N := 14) (n := 14) htr kw_X4 (htr _ st_d4.2.1)
  obtain ⟨c5, i5, k5⟩ := u_known (C := RX5) (T := TX5) (N := 25) (n := 25) htr kw_X5 (htr _ st_d5.2.1)
  obtain ⟨cB, kB, pB, hB1, hB2, hB3⟩ := Cond.arrayClass_spec (htr _ cb_ab.1)
  obtain ⟨cI, kI, pI, hI1, hI2, hI3⟩ := Cond.arrayClass_spec (htr _ cb_ab.2)
  obtain ⟨pS, cS, kS, hS1, hS2, hS3, hS4, hS5⟩ := Cond.arrayOver_spec (hts _ st_w4)
  refine ⟨((fun k => [c0, c1, c2, c3, c4, c5].getD k c0, fun k => [i0, i1, i2, i3, i4, i5].getD k i0), fun _ => 0, cB, cI, cS), fun k q hq => ?_, fun k q hq => ?_⟩
  · match k, hq with
    | 0, hq => cases hq; exact k0
    | 1, hq => cases hq; exact k1
    | 2, hq => cases hq; exact k2
    | 3, hq => cases hq; exact k3
    | 4, hq => cases hq; exact k4
    | 5, hq => cases hq; exact k5
    | k + 6, hq => simp [vwCl] at hq
  · match k, hq with
    | 0, hq => cases hq; exact ⟨fun n z => ⟨fun k h => (by cases h), kB, hB2, pB, hB3⟩, hB1⟩
    | 1, hq => cases hq; exact ⟨fun n z => ⟨fun k h => (by cases h), kI, hI2, pI, hI3⟩, hI1⟩
    | 2, hq => cases hq; exact ⟨fun n z => ⟨fun k h => (by cases h), kS, hS3, pS, hS4⟩, kS, pS, hS3, hS4, hS1, hS5⟩
    | k + 3, hq => simp [rd_tys] at hq
theorem st_J {b : Nat} {s : State} (hts : ∀ w ∈ lw_tbl, w.before #[Value.ref b] s = true) (hgv : (Jvm.Cond.and given_1 narrow_1).before #[Value.ref b] s = true) : ∃ (kS vS : Nat) (fv : Option Nat), vk_R RX4 58 js_X kS s ∧ js_S kS vS fv (fun q : Nat => s.heap.size ≤ q) s s.heap := by
  have hs := flat_of_before _ hgv
  have htr : ∀ w ∈ rd_gt, w.before #[Value.ref b] s = true := fun w hw => hts w (List.mem_filter.mp hw).1
  have hA : ∀ a : Nat, a < s.heap.size → ¬ (fun q : Nat => s.heap.size ≤ q) a := fun a h => Nat.not_le.mpr h
  obtain ⟨g1, g2, g3, g4, g5, g6⟩ := st_g1
  have hlen : ∀ i : Nat, i < 1 → ([30] : List Nat).getD i 0 < 2 ^ 31 := by
    intro i hi
    obtain rfl : i = 0 := Nat.lt_one_iff.mp hi
    decide
  have hle : ∀ i : Nat, i < 1 → (Cond.eq (.length (.field st_t "java/lang/String" "value" "[B")) (.int (Int32.ofNat (([30] : List Nat).getD i 0)))).before #[Value.ref b] s = true := by
    intro i hi
    obtain rfl : i = 0 := Nat.lt_one_iff.mp hi
    exact hs _ g6
  have hel : ∀ i : Nat, i < 1 → ∀ j : Nat, j < ([30] : List Nat).getD i 0 → (Cond.eq (.elem (.field st_t "java/lang/String" "value" "[B") (.int (Int32.ofNat j))) (.int ((([js_B] : List (List Int32)).getD i []).getD j 0))).before #[Value.ref b] s = true := by
    intro i hi j hj
    obtain rfl : i = 0 := Nat.lt_one_iff.mp hi
    exact hs _ (st_g2 j hj)
  obtain ⟨adK, adV, hV, hE⟩ := vk_Sof (args := #[Value.ref b]) (s := s) (N := 1) (tm := fun _ => st_t) (len := [30]) (byt := [js_B]) (A := fun q : Nat => s.heap.size ≤ q) hlen (fun i hi => hs _ g3) (fun i hi => hs _ g4) (fun i hi => hs _ g5) hle hel (fun i j hi hj hij => absurd (show i = j by omega) hij) hA
  have hV1 : vk_S 1 [30] [js_B] (fun _ => adK 0) (fun _ => adV 0) (fun q : Nat => s.heap.size ≤ q) s s.heap := by
    refine ⟨fun i hi => ?_, fun i j hi hj _ => by omega⟩
    obtain rfl : i = 0 := Nat.lt_one_iff.mp hi
    exact hV.1 0 hi
  have hZ1 := va_Zof (A := fun q : Nat => s.heap.size ≤ q) (hts _ st_w1) (htr _ st_w5.1) (va_eqi (hs _ g1)) hA
  have hR := vk_R.of (hts _ st_w3) (hE 0 (by decide))
  rcases va_Zqof (A := fun q : Nat => s.heap.size ≤ q) (hts _ st_w2) (htr _ st_w5.2) (hs _ g2) hA with h | ⟨t, h⟩
  · exact ⟨adK 0, adV 0, none, hR, hV1, hZ1, h⟩
  · exact ⟨adK 0, adV 0, some t, hR, hV1, hZ1, h⟩
/-- both are made alike -/
theorem st_R {σ τ : rd_S} (h4 : i4_R σ) (h5 : i5_R τ) (hl : ∀ a b, a < 33 → τ a b = σ a b) : RR 0 τ := by
  obtain ⟨a1, a2, a3, a4, a5, a6, a7, a8, a9, a10⟩ := h4
  obtain ⟨b1, b2, b3, b4, b5, b6, b7⟩ := h5
  have e11 : τ 0 11 = 1224 := by rw [hl _ _ (by decide)]; exact a3
  have e12 : τ 0 12 = 608 := by rw [hl _ _ (by decide)]; exact a4
  have e3 : sd_rd τ 3 = sd_begin (ps_ord 228) := by rw [rd_cong (fun b => hl 3 b (by decide))]; exact a6
  obtain ⟨o1, o2, o3⟩ := or_ok 228 (by decide) (by decide)
  refine ⟨⟨0, by rw [hl _ _ (by decide)]; exact a1, ⟨b7, by decide, fun k hk => by omega⟩, fun k hk => by omega⟩, ⟨by rw [e11]; exact ⟨1224, by decide, rfl⟩, by rw [e11]; exact b1⟩, ⟨5, by rw [hl _ _ (by decide)]; exact a5, by rw [e12]; exact b2⟩, ⟨?_, by rw [e3]; exact b3⟩, ⟨0, 0, by rw [hl _ _ (by decide)]; exact a7, by decide, by rw [hl _ _ (by decide)]; exact a8, by decide, b4, fun k hk => by omega⟩, ⟨0, 0, by rw [hl _ _ (by decide)]; exact a9, by decide, by rw [hl _ _ (by decide)]; exact a10, by decide, b5, fun k hk => by omega⟩, ⟨0, by rw [hl _ _ (by decide)]; exact a2, by decide, b6, fun t ht => by omega⟩⟩
  rw [e3]
  have o1 : ps_ord 228 = nI (or_n 228) := o1
  rw [o1]
  exact wf_beg o2 o3
set_option maxHeartbeats 4000000 in
set_option maxRecDepth 100000 in
/-- THE LAW, from its entry -/
theorem whole_start {p : Program} {e : Env} {s : State} {m : MethodId} {below : List Frame} {meth : Method} {c : Code} (l : Launch) (hflags : l.flags = flags0) {b L : Nat} {xs : Nat → Int32} (hL : L ≤ 2048) (C0 : lw_At p s m meth c b L xs) : W p l e room_1 s m #[Value.ref b] below meth c s.heap [] 0 0 (lw_Z below #[Value.ref b] s) (entryFrame m ([Value.ref b] : List Value).toArray 4) := by
  obtain ⟨hx, hb, hr, hml, hown, hts, hX, hbl, hlocks, hgv⟩ := id C0
  have hb : c.code = cL_law := hb
  have hown : s.vm.findClass RL = some m.cls := hown
  have htr : ∀ w ∈ rd_gt, w.before #[Value.ref b] s = true := fun w hw => hts w (List.mem_filter.mp hw).1
  have hA : ∀ q : Nat, s.heap.size ≤ q → (fun q : Nat => s.heap.size ≤ q) q := fun _ h => h
  obtain ⟨g, hK⟩ := st_K hts
  obtain ⟨kS, vS, fv, hZ, hJ⟩ := st_J hts hgv
  have hN : rd_NW s := rd_NW.of hts
  have hO : va_AO RX3 s := va_AO.of (hts _ st_w4)
  have hS : va_S (fun q : Nat => s.heap.size ≤ q) s.heap s.heap [] := va_S.rf
  have hP : va_P g.1 vwCl [] s.heap := fun k q h => by simp at h
  have hD : va_D (fun q : Nat => s.heap.size ≤ q) [] := ⟨fun i j p q h => by simp at h, fun k q h => by simp at h⟩
  have hl := lv_entry ([.ref b]) (n := 4) (Nat.le_of_ble_eq_true rfl)
  rw [lg_entry_eq]
  generalize (lg_sl ([.ref b]) ++ List.replicate (4 - (lg_sl ([.ref b])).length) Slot.unset).toArray = ls at hl ⊢
  have hl : lv_has ls 4 [(0, .ref b)] := hl
  obtain ⟨l1, l2, l3, l4, l5, l6, l7, l8⟩ := st_m4
  refine va_new (D := g.1) (ci := 4) (fs := i4_f) (C := RX4) (T := TX4) (N := 14) hx hb htr kw_X4 tyX4 tyX4_ok hown (htr _ st_d4.1) (htr _ st_d4.2.1) (htr _ st_d4.2.2) hK hP hD hS hA rfl (fun j hj => by rcases (show j = 0 ∨ j = 1 ∨ j = 2 ∨ j = 3 ∨ j = 4 ∨ j = 5 ∨ j = 6 ∨ j = 7 ∨ j = 8 ∨ j = 9 ∨ j = 10 ∨ j = 11 ∨ j = 12 ∨ j = 13 by omega) with rfl | rfl | rfl | rfl | rfl | rfl | rfl | rfl | rfl | rfl | rfl | rfl | rfl | rfl <;> rfl) (Nat.le_of_ble_eq_true rfl) (Nat.le_of_ble_eq_true rfl) dL_law_0 (fun q0 H hP hD hS => ?_)
  refine lv_dup hx hb dL_law_3 rfl ?_
  have hF : ∀ q, va_A [(q0, .inr (4, i4_f))] H.size q → s.heap.size ≤ q := cb_free (A0 := fun q : Nat => s.heap.size ≤ q) (ws := []) hD hS hA
  have hP0 : va_P g.1 vwCl [(q0, .inr (4, i4_f))] H := hP
  have hpre : PreS s H (va_Pc [.ref q0] (fun U => U.heap.size = H.size ∧ va_P g.1 vwCl [(q0, .inr (4, i4_f))] U.heap ∧ va_K g.1 vwCl (rd_tys g) U ∧ rd_NW U ∧ va_AO RX3 U ∧ vk_R RX4 58 js_X kS U ∧ js_S kS vS fv (va_A [(q0, .inr (4, i4_f))] H.size) U U.heap)) [.ref q0] :=
    ⟨fun a U g' mk q => ⟨q.1, q.2.1, q.2.2.1, va_K.moved (u := U) (U := U.calling g' mk a) (Vm.Alike.refl U.vm) q.2.2.2.1, q.2.2.2.2.1.same rfl, va_AO.moved (u := U) (U := U.calling g' mk a) (Vm.Alike.refl U.vm) q.2.2.2.2.2.1, vk_R.same rfl q.2.2.2.2.2.2.1, js_S.moved (u := U) (U := U.calling g' mk a) (Vm.Alike.refl U.vm) q.2.2.2.2.2.2.2⟩, fun U hU hW => ⟨rfl, by rw [hU], by rw [hU]; exact hP0, va_K.moved hW.alike hK, hN.warm hW, hO.moved hW.alike, vk_R.warm hW hZ, by rw [hU]; exact js_S.moved hW.alike ((hJ.kept hS.2.1).narrow hF)⟩⟩
  refine va_callv (a := #[Value.ref q0]) (A0 := fun q : Nat => s.heap.size ≤ q) (va_runI (As := []) (rest := [.ref q0]) ⟨hx, hb, hml, hown, htr⟩ (i4_init g kS vS fv l q0 H.size) ⟨callB_of 0 htr (rd_goodIn l3) rfl rfl rfl (htr _ l2) (htr _ st_l4) ⟨l4.1, l4.2, l5⟩ ⟨Nat.le_of_ble_eq_true rfl, Nat.le_of_ble_eq_true rfl⟩, l8, htr _ l7⟩ hpre rfl rfl hl.1 rfl (lv_room (Nat.le_of_ble_eq_true rfl)) dL_law_4 ⟨Nat.le_of_ble_eq_true rfl, Nat.le_of_ble_eq_true rfl⟩) hS (fun q _ h => hF q h) hF (fun z t H1 locs ht hvm hq hB hz hk hS => ?_)
  obtain ⟨hz0, h4R⟩ := hq
  obtain ⟨hP, hD⟩ := hB
  rw [ht] at hP
  have hD : va_D (fun q : Nat => s.heap.size ≤ q) (rd_wd 33 (rd_g' g z.1) z.2) := hD.weaken (fun k q _ h => hF q.1 h)
  clear hP0 hpre
  refine lv_astore_n (lv' := [(1, .ref q0), (0, .ref b)]) hx hb dL_law_7 rfl hl (by decide) rfl (fun ls hl => ?_)
  obtain ⟨G, hG⟩ : ∃ G, G = rd_g' g z.1 := ⟨_, rfl⟩
  rw [← hG] at hP hD
  have hK : va_K G.1 vwCl (rd_tys G) s := by rw [hG]; exact hK
  have hP : va_P G.1 vwCl (rd_wd 33 G z.2) H1 := by rw [hG]; rw [hG] at hP; exact hP
  have hG0 : G.2.1 0 = q0 := by rw [hG]; exact hz0
  obtain ⟨m1, m2, m3, m4, m5, m6, m7, m8⟩ := st_m5
  refine va_new (D := G.1) (ci := 5) (fs := i5_f) (C := RX5) (T := TX5) (N := 25) hx hb htr kw_X5 tyX5 tyX5_ok hown (htr _ st_d5.1) (htr _ st_d5.2.1) (htr _ st_d5.2.2) hK hP hD hS hA rfl (fun j hj => by rcases (show j = 0 ∨ j = 1 ∨ j = 2 ∨ j = 3 ∨ j = 4 ∨ j = 5 ∨ j = 6 ∨ j = 7 ∨ j = 8 ∨ j = 9 ∨ j = 10 ∨ j = 11 ∨ j = 12 ∨ j = 13 ∨ j = 14 ∨ j = 15 ∨ j = 16 ∨ j = 17 ∨ j = 18 ∨ j = 19 ∨ j = 20 ∨ j = 21 ∨ j = 22 ∨ j = 23 ∨ j = 24 by omega) with rfl | rfl | rfl | rfl | rfl | rfl | rfl | rfl | rfl | rfl | rfl | rfl | rfl | rfl | rfl | rfl | rfl | rfl | rfl | rfl | rfl | rfl | rfl | rfl | rfl <;> rfl) (Nat.le_of_ble_eq_true rfl) (Nat.le_of_ble_eq_true rfl) dL_law_8 (fun q1 H2 hP hD hS => ?_)
  refine lv_dup hx hb dL_law_11 rfl ?_
  have hF2 : ∀ q, va_A (rd_wd 33 G z.2 ++ [(q1, .inr (5, i5_f))]) H2.size q → s.heap.size ≤ q := by
    intro q h
    rcases h with ⟨j, e9, h⟩ | h
    · exact hD.2 j _ h
    · exact Nat.le_trans hS.1 h
  have hpre : PreS s H2 (va_Pc [.ref q1] (fun U => U.heap.size = H2.size ∧ va_P G.1 vwCl (rd_wd 33 G z.2 ++ [(q1, .inr (5, i5_f))]) U.heap ∧ va_D (fun _ => True) (rd_wd 33 G z.2 ++ [(q1, .inr (5, i5_f))]) ∧ va_K G.1 vwCl (rd_tys G) U ∧ rd_NW U ∧ va_AO RX3 U)) [.ref q1] :=
    ⟨fun a U g' mk q => ⟨q.1, q.2.1, q.2.2.1, q.2.2.2.1, va_K.moved (u := U) (U := U.calling g' mk a) (Vm.Alike.refl U.vm) q.2.2.2.2.1, q.2.2.2.2.2.1.same rfl, va_AO.moved (u := U) (U := U.calling g' mk a) (Vm.Alike.refl U.vm) q.2.2.2.2.2.2⟩, fun U hU hW => ⟨rfl, by rw [hU], by rw [hU]; exact hP, hD.weaken (fun _ _ _ _ => trivial), va_K.moved hW.alike hK, hN.warm hW, hO.moved hW.alike⟩⟩
  refine va_callv (a := #[Value.ref q1]) (A0 := fun q : Nat => s.heap.size ≤ q) (va_runI (As := []) (rest := [.ref q1]) ⟨hx, hb, hml, hown, htr⟩ (i5_init G z.2 l q1 H2.size) ⟨callB_of 0 htr (rd_goodIn m3) rfl rfl rfl (htr _ m2) (htr _ st_l5) ⟨m4.1, m4.2, m5⟩ ⟨Nat.le_of_ble_eq_true rfl, Nat.le_of_ble_eq_true rfl⟩, m8, htr _ m7⟩ hpre rfl rfl hl.1 rfl (lv_room (Nat.le_of_ble_eq_true rfl)) dL_law_12 ⟨Nat.le_of_ble_eq_true rfl, Nat.le_of_ble_eq_true rfl⟩) hS (fun q _ h => hF2 q h) hF2 (fun y t H3 locs ht hvm hq hB hz hk hS => ?_)
  obtain ⟨y0, y33, ylow, h5R⟩ := hq
  obtain ⟨hP, hD⟩ := hB
  rw [ht] at hP
  have hD : va_D (fun q : Nat => s.heap.size ≤ q) (rd_wd 49 (rd_g' G y.1) y.2) := hD.weaken (fun k q _ h => hF2 q.1 h)
  obtain ⟨hD, hAd⟩ := rd_A_D hD
  refine lv_astore_n (lv' := [(2, .ref q1), (1, .ref q0), (0, .ref b)]) hx hb dL_law_15 rfl hl (by decide) rfl (fun ls hl => ?_)
  refine lv_iconst (v := nI 0) hx hb dL_law_16 rfl ?_
  refine lv_istore_n (lv' := [(3, .int (nI 0)), (2, .ref q1), (1, .ref q0), (0, .ref b)]) hx hb dL_law_17 rfl hl (by decide) rfl (fun ls hl => ?_)
  have e0 : (rd_g' G y.1).2.1 0 = q0 := (y0 0 (by decide)).trans hG0
  have e33 : (rd_g' G y.1).2.1 33 = q1 := y33
  refine law_loop (g := rd_g' G y.1) hL ⟨C0, hK, hN, hAd⟩ (Nat.le_of_ble_eq_true rfl) (Nat.le_of_ble_eq_true rfl) (L + 4) 0 0 y.2 H3 locs ls (by omega) (by omega) (by omega) (st_R h4R h5R ylow) ⟨hP, hD, hS⟩ ?_
  unfold lw_ls
  rw [e0, e33]
  exact lv_sub hl [3, 2, 1, 0] rfl
