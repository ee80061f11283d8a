/-! ===== the class's constructor: its text ===== -/
section IC
variable {p : Program} {l : Launch} {e : Env} {R : Room} {s : State} {m : MethodId} {args : Array Value} {below : List Frame} {meth : Method} {c : Code} {H : Heap} {locs : List Loc} {cells slots : Nat} {Q : State → Prop} {cc : ByteArray} {pc nL N : Nat} {ls : Array Slot} {g : rd_G} {own : String} {A : Nat → Prop} {H0 : Heap} {σ : rd_S}
theorem ic_i {d' idx n o ci : Nat} {y : MethodName} {cy : ByteArray} {ny : Nat} {ty : FieldType} {as rest st st' : List Value} {Qy : Option Value → rd_S → Prop} (hx : p.tables.exec = Jvm.exec) (hb : c.code = cc) (hml : c.maxLocals = nL) (hown : s.vm.findClass own = some m.cls) (hts : ∀ w ∈ rd_gt, w.before args s = true) (hK : va_K g.1 vwCl (rd_tys g) s) (hN : rd_NW s) (hfr : d' + 1 ≤ R.frames) (hlo : 64 * (d' + 1) ≤ R.locals) (hcr : cells ≤ R.cells) (hsr : slots ≤ R.slots) (hP : va_P g.1 vwCl (rd_wd N g σ) H) (hD : va_D (rd_A N g) (rd_wd N g σ)) (hS : va_S A H0 H locs) (hA : ∀ q, rd_A N g q → A q) (hls : ls.size = nL) (hT : rd_T N d' y cy ny (some ty) (.ref o :: as) σ Qy) (hcv : rd_CV own idx ci y cy ny (some ty) n) (hn : as.length = n) (ho : o < N) (hkd : rd_kd o = ci) (hw : (rest.map Value.category).sum ≤ 8) (hst : st = (as.reverse ++ .ref o :: rest).map (rd_tr g.2.1)) (hst' : st' = rest.map (rd_tr g.2.1)) (hd : decode cc pc = .ok (.invokevirtual idx, 3))
    (kk : ∀ (r : Int32) (σ1 : rd_S) (H1 : Heap) (locs1 : List Loc), Qy (some (.int r)) σ1 → va_P g.1 vwCl (rd_wd N g σ1) H1 → va_D (rd_A N g) (rd_wd N g σ1) → va_S A H0 H1 locs1 → W p l e R s m args below meth c H1 locs1 cells slots Q (F0 m (pc + 3) ls (.int r :: st'))) : W p l e R s m args below meth c H locs cells slots Q (F0 m pc ls st) := by
  subst hst
  subst hst'
  exact va_calli (A0 := A) (A1 := rd_A N g) (a := (Value.ref (g.2.1 o) :: as.map (rd_tr g.2.1)).toArray) (rd_runV (nL := nL) hx hb hml hown hts hK hN hfr hlo hP hD hls hcr hsr hT hcv hn ho hkd hw hd) hS (fun q _ h => hA q h) (fun q h => hA q h) (fun r u t H1 locs1 ht hvm hq hB hz hk hS1 => kk r u H1 locs1 hq (by rw [← ht]; exact hB.1) hB.2.2 hS1)
theorem ic_v {d' idx n o ci : Nat} {y : MethodName} {cy : ByteArray} {ny : Nat} {as rest st st' : List Value} {Qy : Option Value → rd_S → Prop} (hx : p.tables.exec = Jvm.exec) (hb : c.code = cc) (hml : c.maxLocals = nL) (hown : s.vm.findClass own = some m.cls) (hts : ∀ w ∈ rd_gt, w.before args s = true) (hK : va_K g.1 vwCl (rd_tys g) s) (hN : rd_NW s) (hfr : d' + 1 ≤ R.frames) (hlo : 64 * (d' + 1) ≤ R.locals) (hcr : cells ≤ R.cells) (hsr : slots ≤ R.slots) (hP : va_P g.1 vwCl (rd_wd N g σ) H) (hD : va_D (rd_A N g) (rd_wd N g σ)) (hS : va_S A H0 H locs) (hA : ∀ q, rd_A N g q → A q) (hls : ls.size = nL) (hT : rd_T N d' y cy ny none (.ref o :: as) σ Qy) (hcv : rd_CV own idx ci y cy ny none n) (hn : as.length = n) (ho : o < N) (hkd : rd_kd o = ci) (hw : (rest.map Value.category).sum ≤ 8) (hst : st = (as.reverse ++ .ref o :: rest).map (rd_tr g.2.1)) (hst' : st' = rest.map (rd_tr g.2.1)) (hd : decode cc pc = .ok (.invokevirtual idx, 3))
    (kk : ∀ (σ1 : rd_S) (H1 : Heap) (locs1 : List Loc), Qy none σ1 → va_P g.1 vwCl (rd_wd N g σ1) H1 → va_D (rd_A N g) (rd_wd N g σ1) → va_S A H0 H1 locs1 → W p l e R s m args below meth c H1 locs1 cells slots Q (F0 m (pc + 3) ls st')) : W p l e R s m args below meth c H locs cells slots Q (F0 m pc ls st) := by
  subst hst
  subst hst'
  exact va_callv (A0 := A) (A1 := rd_A N g) (a := (Value.ref (g.2.1 o) :: as.map (rd_tr g.2.1)).toArray) (rd_runV (nL := nL) hx hb hml hown hts hK hN hfr hlo hP hD hls hcr hsr hT hcv hn ho hkd hw hd) hS (fun q _ h => hA q h) (fun q h => hA q h) (fun u t H1 locs1 ht hvm hq hB hz hk hS1 => kk u H1 locs1 hq (by rw [← ht]; exact hB.1) hB.2.2 hS1)
/-- getfield script -/
theorem ic_script {st : List Value} (hx : p.tables.exec = Jvm.exec) (hb : c.code = cc) (hown : s.vm.findClass RX4 = some m.cls) (hts : ∀ w ∈ rd_gt, w.before args s = true) (hK : va_K g.1 vwCl (rd_tys g) s) (hP : va_P g.1 vwCl (rd_wd N g σ) H) (hN0 : 0 < N) (hd : decode cc pc = .ok (.getfield 10, 3)) (kk : W p l e R s m args below meth c H locs cells slots Q (F0 m (pc + 3) ls (.ref (g.2.1 1) :: st))) : W p l e R s m args below meth c H locs cells slots Q (F0 m pc ls (.ref (g.2.1 0) :: st)) :=
  va_get (D := g.1) (ci := 4) (C := RX4) (T := TX4) (N := 14) hx hb hts kw_X4 hown hK hP 0 (by rw [rd_wd_at hN0, rd_cell_obj (c := 4) rfl (by decide)]) rfl 0 (by decide) (hts _ (cb_fl kf_X4_10 rfl)) (fun _ h9 => h9) (v := .ref (g.2.1 1)) rfl hd kk
end IC
theorem rd_A_D {N : Nat} {g : rd_G} {σ : rd_S} {A : Nat → Prop} (h : va_D A (rd_wd N g σ)) : va_D (rd_A N g) (rd_wd N g σ) ∧ ∀ q, rd_A N g q → A q := by
  refine ⟨⟨h.1, fun k q hk => ?_⟩, fun q hq => ?_⟩
  · by_cases hkN : k < N
    · rw [rd_wd_at hkN] at hk
      have hk := Option.some.inj hk
      subst hk
      exact ⟨k, hkN, rfl⟩
    · rw [List.getElem?_eq_none (by simp [rd_wd]; omega)] at hk; cases hk
  · obtain ⟨o, ho, rfl⟩ := hq
    exact h.2 o _ (rd_wd_at ho)
theorem rd_D_A {N : Nat} {g : rd_G} {σ : rd_S} {A : Nat → Prop} (h : va_D (rd_A N g) (rd_wd N g σ)) (hA : ∀ q, rd_A N g q → A q) : va_D A (rd_wd N g σ) := h.weaken (fun k q _ hq => hA q.1 hq)
/-- the store, k letters being written -/
def i4_t : Nat → rd_S
  | 0 => i4_s
  | k + 1 => rd_u2 (rd_u2 (i4_t k) 2 k (js_c k)) 1 1 (nI (k + 1))
theorem i4_t_off : ∀ k a b, a ≠ 2 → ¬ (a = 1 ∧ b = 1) → i4_t k a b = i4_s a b
  | 0, _, _, _, _ => rfl
  | k + 1, a, b, h1, h2 => by
    unfold i4_t
    rw [u2_off h2, u2_off (by omega)]
    exact i4_t_off k a b h1 h2
theorem i4_t_n : ∀ k, i4_t k 1 1 = nI k
  | 0 => rfl
  | k + 1 => by unfold i4_t; rw [u2_at]
theorem i4_t_l : ∀ k j, j < k → i4_t k 2 j = js_c j
  | 0, _, h => by omega
  | k + 1, j, h => by
    unfold i4_t
    rw [u2_off (by omega)]
    by_cases e : j = k
    · subst e; rw [u2_at]
    · rw [u2_off (by omega)]; exact i4_t_l k j (by omega)
theorem js_nar : ∀ i, i < 30 → vp_nar .byte (js_c i).toInt8.toInt32 = js_c i := by decide +kernel
theorem js_run : ps_run js_c 30 201 0 ps_0 = .inr (5, 1224, 608, 228) := by decide +kernel
theorem js_tak : bc_c (ps_tak 228) = 4 := by decide +kernel
/-- how the class stands when it is made -/
def i4_R (σ : rd_S) : Prop := σ 1 1 = 0 ∧ σ 0 10 = 0 ∧ σ 0 11 = 1224 ∧ σ 0 12 = 608 ∧ σ 0 13 = nI 5 ∧ sd_rd σ 3 = sd_begin (ps_ord 228) ∧ σ 5 1 = 0 ∧ σ 5 2 = 0 ∧ σ 15 1 = 0 ∧ σ 15 2 = 0
theorem i4_fin : i4_R (rd_u2 (ly_st (i4_t 30) (5, 1224, 608, 228)) 1 1 0) := by
  have es : ly_st (i4_t 30) (5, 1224, 608, 228) = rd_u2 (rd_u2 (rd_u2 (sd_wr (rd_u2 (rd_u2 (rd_u2 (ps_wr (i4_t 30) (5, 1224, 608, 228)) 0 11 1224) 0 12 608) 0 13 (nI 5)) 3 (sd_begin (ps_ord 228))) 0 10 0) 5 2 0) 15 2 0 := rfl
  rw [es]
  refine ⟨u2_at _ _ _ _, ?_, ?_, ?_, ?_, ?_, ?_, ?_, ?_, ?_⟩
  · rw [u2_off (by omega), u2_off (by omega), u2_off (by omega), u2_at]
  · rw [u2_off (by omega), u2_off (by omega), u2_off (by omega), u2_off (by omega), sd_wr_ne _ (by decide), u2_off (by omega), u2_off (by omega), u2_at]
  · rw [u2_off (by omega), u2_off (by omega), u2_off (by omega), u2_off (by omega), sd_wr_ne _ (by decide), u2_off (by omega), u2_at]
  · rw [u2_off (by omega), u2_off (by omega), u2_off (by omega), u2_off (by omega), sd_wr_ne _ (by decide), u2_at]
  · rw [sd_rd_u2 (by decide), sd_rd_u2 (by decide), sd_rd_u2 (by decide), sd_rd_u2 (by decide), sd_rd_wr]
  · rw [u2_off (by omega), u2_off (by omega), u2_off (by omega), u2_off (by omega), sd_wr_ne _ (by decide), u2_off (by omega), u2_off (by omega), u2_off (by omega)]
    show i4_t 30 5 1 = 0
    rw [i4_t_off _ _ _ (by decide) (by omega)]; rfl
  · rw [u2_off (by omega), u2_off (by omega), u2_at]
  · rw [u2_off (by omega), u2_off (by omega), u2_off (by omega), u2_off (by omega), sd_wr_ne _ (by decide), u2_off (by omega), u2_off (by omega), u2_off (by omega)]
    show i4_t 30 15 1 = 0
    rw [i4_t_off _ _ _ (by decide) (by omega)]; rfl
  · rw [u2_off (by omega), u2_at]
def js_X : String := "d1,1;d2,3;d3,2;r0;r0;r2;r1;r2;"
set_option maxHeartbeats 4000000 in
set_option maxRecDepth 100000 in
theorem i4_loop {g : rd_G} {p : Program} {l : Launch} {e : Env} {R : Room} {s : State} {m : MethodId} {args : Array Value} {below : List Frame} {meth : Method} {c : Code} {A : Nat → Prop} {Q : State → Prop} {kS vS : Nat} {fv : Option Nat} (C : cb_X g 8 32 383 RX4 cX4_init 2 p R s m args meth c) (hZ : vk_R RX4 58 js_X kS s) (hJ : js_S kS vS fv A s s.heap)
    (K : ∀ (H : Heap) (locs : List Loc) (ls : Array Slot), va_P g.1 vwCl (rd_wd 33 g (i4_t 30)) H → va_D (rd_A 33 g) (rd_wd 33 g (i4_t 30)) → va_S A s.heap H locs → lv_has ls 2 [(0, .ref (g.2.1 0)), (1, .int (nI 30))] → W p l e R s m args below meth c H locs 32 383 Q (F0 m 136 ls [])) (hA : ∀ q, rd_A 33 g q → A q) :
    ∀ (r k : Nat) (H : Heap) (locs : List Loc) (ls : Array Slot), k + r = 30 → va_P g.1 vwCl (rd_wd 33 g (i4_t k)) H → va_D (rd_A 33 g) (rd_wd 33 g (i4_t k)) → va_S A s.heap H locs → lv_has ls 2 [(0, .ref (g.2.1 0)), (1, .int (nI k))] → W p l e R s m args below meth c H locs 32 383 Q (F0 m 107 ls []) := by
  obtain ⟨hx, hb, hml, hr, hlocks, hown, hts, hK, hN, hO, hfr, hlo, hmc, hms, hin⟩ := C
  intro r
  induction r with
  | zero =>
    intro k H locs ls hk hP hD hS hl
    obtain rfl : k = 30 := hk
    refine lv_iload_n hx hb dX4_init_107 rfl (lv_at hl 1 rfl) ?_
    refine va_ldcS hx hb hown hZ dX4_init_108 ?_
    refine js_callV (rest := [.int (nI 30)]) (d' := 1) hx hb hml hown hts hJ hS (by omega) (by omega) hmc hms (js_len kS vS fv 0) jk_len jk_leni hl.1 rfl rfl (Nat.le_of_ble_eq_true rfl) dX4_init_110 (fun H1 locs hk hS => ?_)
    have hP : va_P g.1 vwCl (rd_wd 33 g (i4_t 30)) H1 := hP.kept (fun j q h => hk q.1 (hP j q h).lt)
    exact lv_icmp_ge (tgt := 136) hx hb dX4_init_113 (by decide) (fun _ => K H1 locs ls hP hD hS hl) (fun q => absurd (by decide) q)
  | succ r ih =>
    intro k H locs ls hk hP hD hS hl
    refine lv_iload_n hx hb dX4_init_107 rfl (lv_at hl 1 rfl) ?_
    refine va_ldcS hx hb hown hZ dX4_init_108 ?_
    refine js_callV (rest := [.int (nI k)]) (d' := 1) hx hb hml hown hts hJ hS (by omega) (by omega) hmc hms (js_len kS vS fv 0) jk_len jk_leni hl.1 rfl rfl (Nat.le_of_ble_eq_true rfl) dX4_init_110 (fun H1 locs hk1 hS => ?_)
    have hP : va_P g.1 vwCl (rd_wd 33 g (i4_t k)) H1 := hP.kept (fun j q h => hk1 q.1 (hP j q h).lt)
    refine lv_icmp_ge (tgt := 136) hx hb dX4_init_113 (by decide) (fun q => absurd q (nI_ge (b := 30) (by omega) (by decide))) (fun _ => ?_)
    refine lv_aload_n hx hb dX4_init_116 rfl (lv_at hl 0 rfl) ?_
    refine ic_script hx hb hown hts hK hP (by decide) dX4_init_117 ?_
    refine va_ldcS hx hb hown hZ dX4_init_120 ?_
    refine lv_iload_n hx hb dX4_init_122 rfl (lv_at hl 1 rfl) ?_
    refine js_callV (rest := [.ref (g.2.1 1)]) (d' := 3) hx hb hml hown hts hJ hS (by omega) (by omega) hmc hms (js_cha kS vS fv 0 k (by omega)) jk_cha jk_chai hl.1 rfl rfl (Nat.le_of_ble_eq_true rfl) dX4_init_123 (fun H2 locs hk2 hS => ?_)
    have hP : va_P g.1 vwCl (rd_wd 33 g (i4_t k)) H2 := hP.kept (fun j q h => hk2 q.1 (hP j q h).lt)
    have hT := c_add_s 33 0 (i4_t k) (by decide) k ⟨i4_t_n k, by omega⟩ (by omega) (js_c k)
    rw [js_nar k (by omega)] at hT
    refine ic_i (rest := []) hx hb hml hown hts hK hN (by omega) (by omega) hmc hms hP hD hS hA hl.1 hT km_X4_70 rfl (by decide) rfl (Nat.le_of_ble_eq_true rfl) rfl rfl dX4_init_126 (fun r1 σ1 H3 locs q hP hD hS => ?_)
    obtain ⟨-, rfl⟩ := q
    refine lv_pop hx hb dX4_init_129 rfl ?_
    refine lv_iinc (v := nI (k + 1)) (lv' := [(1, .int (nI (k + 1))), (0, .ref (g.2.1 0))]) hx hb dX4_init_130 hl (k := 1) rfl (nI_1 k) (by decide) rfl (fun ls2 hl2 => ?_)
    refine lv_goto (tgt := 107) hx hb dX4_init_133 (by decide) ?_
    exact ih (k + 1) H3 locs ls2 (by omega) hP hD hS (lv_sub hl2 [1, 0] rfl)
set_option maxHeartbeats 4000000 in
set_option maxRecDepth 100000 in
theorem i4_init (g : rd_G) (kS vS : Nat) (fv : Option Nat) (l : Launch) (b sz : Nat) : Met l yX4_init (rd_ws yX4_init cX4_init 2 none) { frames := 8, cells := 32, slots := 383, locals := 64 * 8 } (va_Pc [.ref b] (fun U => U.heap.size = sz ∧ va_P g.1 vwCl [(b, .inr (4, i4_f))] U.heap ∧ va_K g.1 vwCl (rd_tys g) U ∧ rd_NW U ∧ va_AO RX3 U ∧ vk_R RX4 58 js_X kS U ∧ js_S kS vS fv (va_A [(b, .inr (4, i4_f))] sz) U U.heap)) (va_Qv (fun z : (Nat → Nat) × rd_S => z.1 0 = b ∧ i4_R z.2) (fun z t => va_P g.1 vwCl (rd_wd 33 (rd_g' g z.1) z.2) t.heap ∧ va_D (va_A [(b, .inr (4, i4_f))] sz) (rd_wd 33 (rd_g' g z.1) z.2)) (va_A [(b, .inr (4, i4_f))] sz)) 32 383 (va_A [(b, .inr (4, i4_f))] sz) := by
  refine Met.ofW (cc := cX4_init) (maxL := 2) (ret := none) (by decide) rfl ?_
  intro p e s m args below meth c s₁ B hml hv
  obtain ⟨rfl, hsz, hP, hK, hN, hO, hZ, hJ⟩ := hv
  subst hsz
  have hts0 := atoms_spec (ws := rd_ws yX4_init cX4_init 2 none) B.pre
  have hown : s.vm.findClass RX4 = some m.cls := findClass_of_methodNamed B.named
  have hin : meth.name = "<init>" := (name_of_methodNamed B.named B.method).1
  have hl := lv_entry [Value.ref b] (n := 2) (Nat.le_of_ble_eq_true rfl)
  rw [lg_entry_eq]
  generalize (lg_sl ([.ref b]) ++ List.replicate (2 - (lg_sl ([.ref b])).length) Slot.unset).toArray = ls at hl ⊢
  have hl : lv_has ls 2 [(0, .ref b)] := hl
  have hD : va_D (va_A [(b, .inr (4, i4_f))] s.heap.size) [(b, .inr (4, i4_f))] := cb_D1
  have hA : ∀ q : Nat, s.heap.size ≤ q → va_A [(b, .inr (4, i4_f))] s.heap.size q := fun q h => Or.inr h
  have hS : va_S (va_A [(b, .inr (4, i4_f))] s.heap.size) s.heap s.heap [] := va_S.rf
  generalize va_A [(b, .inr (4, i4_f))] s.heap.size = A at *
  have hx := B.exec
  have hb := B.bytes
  have hr := B.returns
  have hlocks := B.notSynchronized
  have hts : ∀ w ∈ rd_gt, w.before #[Value.ref b] s = true := fun w hw => hts0 w (List.mem_cons_of_mem _ hw)
  have C : cb_X g 8 32 383 RX4 cX4_init 2 p { frames := 8, cells := 32, slots := 383, locals := 64 * 8 } s m #[Value.ref b] meth c := ⟨hx, hb, hml, hr, hlocks, hown, hts, hK, hN, hO, Nat.le_refl _, Nat.le_refl _, Nat.le_refl _, Nat.le_refl _, hin⟩
  refine i4_new C hP hD hS hA hl (fun ad H locs had hP2 hD2 hS2 => ?_)
  clear hP hD hS
  subst had
  have hP := hP2
  have hS := hS2
  obtain ⟨hD, hAd⟩ := rd_A_D hD2
  clear hP2 hS2 hD2
  refine lv_iconst (v := 0) hx hb dX4_init_105 (by decide) ?_
  refine lv_istore_n (lv' := [(1, .int 0), (0, .ref (ad 0))]) hx hb dX4_init_106 rfl hl (by decide) rfl (fun ls hl => ?_)
  refine i4_loop (g := rd_g' g ad) (kS := kS) (vS := vS) (fv := fv) C hZ hJ (fun H locs ls hP hD hS hl => ?_) hAd 30 0 H locs ls rfl hP hD hS (lv_sub hl [1, 0] rfl)
  refine lv_aload_n hx hb dX4_init_136 rfl (lv_at hl 0 rfl) ?_
  refine ic_script (g := rd_g' g ad) hx hb hown hts hK hP (by decide) dX4_init_137 ?_
  have hrun : ps_run (i4_t 30 2) 30 201 0 ps_0 = .inr (5, 1224, 608, 228) := by rw [ps_run_cong (ps_cong (fun k hk => i4_t_l 30 k hk))]; exact js_run
  refine ic_i (g := rd_g' g ad) (rest := []) (d' := 5) hx hb hml hown hts hK hN (Nat.le_of_ble_eq_true rfl) (Nat.le_of_ble_eq_true rfl) (Nat.le_refl _) (Nat.le_refl _) hP hD hS hAd hl.1 (c_tells_s 33 0 (i4_t 30) (by decide) 30 ⟨i4_t_n 30, by decide⟩ (by decide) _ hrun) km_X4_74 rfl (by decide) rfl (Nat.le_of_ble_eq_true rfl) rfl rfl dX4_init_140 (fun r1 σ1 H3 locs q hP hD hS => ?_)
  obtain ⟨q1, rfl⟩ := q
  have hr1 : r1 = 1 := by
    have : some (Value.int r1) = some (.int (if bc_c (ps_tak 228) = 4 then 1 else 0)) := q1
    rw [if_pos js_tak] at this
    cases this; rfl
  subst hr1
  refine lv_if_eq (tgt := 150) hx hb dX4_init_143 (by decide) (fun q => absurd q (by decide)) (fun _ => ?_)
  refine lv_aload_n hx hb dX4_init_146 rfl (lv_at hl 0 rfl) ?_
  refine ic_v (g := rd_g' g ad) (rest := []) (d' := 2) hx hb hml hown hts hK hN (Nat.le_of_ble_eq_true rfl) (Nat.le_of_ble_eq_true rfl) (Nat.le_refl _) (Nat.le_refl _) hP hD hS hAd hl.1 (c_X4_takeScript 33 0 _ (by decide)) km_X4_78 rfl (by decide) rfl (Nat.le_of_ble_eq_true rfl) rfl rfl dX4_init_147 (fun σ2 H4 locs q hP hD hS => ?_)
  obtain ⟨-, hσ2⟩ := q
  refine lv_aload_n hx hb dX4_init_150 rfl (lv_at hl 0 rfl) ?_
  refine ic_script (g := rd_g' g ad) hx hb hown hts hK hP (by decide) dX4_init_151 ?_
  refine ic_v (g := rd_g' g ad) (rest := []) (d' := 0) hx hb hml hown hts hK hN (Nat.le_of_ble_eq_true rfl) (Nat.le_of_ble_eq_true rfl) (Nat.le_refl _) (Nat.le_refl _) hP hD hS hAd hl.1 (c_X1_clear 33 0 σ2 (by decide)) km_X4_81 rfl (by decide) rfl (Nat.le_of_ble_eq_true rfl) rfl rfl dX4_init_154 (fun σ3 H5 locs q hP hD hS => ?_)
  obtain ⟨-, hσ3⟩ := q
  have hfin : i4_R σ3 := by rw [hσ3, hσ2]; exact i4_fin
  exact W.vret hx hb hr (fun t ht hW => ⟨⟨(ad, σ3), rfl, ⟨rfl, hfin⟩, by rw [ht]; exact hP, rd_D_A hD hAd⟩, hS.F ht⟩) hS.2.2 dX4_init_157
