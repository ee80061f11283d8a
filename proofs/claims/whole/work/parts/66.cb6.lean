/-! ===== the reference's constructor: what it holds ===== -/
def i5_ad (g : rd_G) (u : Nat → Nat) (o : Nat) : Nat := if o < 33 then g.2.1 o else u (o - 33)
def i5_s (σ : rd_S) : rd_S := fun a b => if a < 33 then σ a b else 0
theorem i5_rng : List.range 49 = List.range 33 ++ [33, 34, 35, 36, 37, 38, 39, 40, 41, 42, 43, 44, 45, 46, 47, 48] := by decide
set_option maxRecDepth 100000 in
theorem i5_tail (g : rd_G) (σ : rd_S) (u : Nat → Nat) : ([33, 34, 35, 36, 37, 38, 39, 40, 41, 42, 43, 44, 45, 46, 47, 48].map (fun o => ((rd_g' g (i5_ad g u)).2.1 o, rd_cell (rd_g' g (i5_ad g u)) (i5_s σ) o)) : va_W) = i5_w g u := rfl
theorem i5_all (g : rd_G) (σ : rd_S) (u : Nat → Nat) : rd_wd 49 (rd_g' g (i5_ad g u)) (i5_s σ) = rd_wd 33 (rd_g' g (i5_ad g u)) (i5_s σ) ++ i5_w g u := by
  rw [← i5_tail g σ u]
  unfold rd_wd
  rw [i5_rng, List.map_append]
theorem i5_conv {g : rd_G} {σ : rd_S} {u : Nat → Nat} {H : Heap} {A : Nat → Prop} (hP : va_P g.1 vwCl (rd_wd 33 g σ ++ i5_w g u) H) (hD : va_D A (rd_wd 33 g σ ++ i5_w g u)) : va_P g.1 vwCl (rd_wd 49 (rd_g' g (i5_ad g u)) (i5_s σ)) H ∧ va_D A (rd_wd 49 (rd_g' g (i5_ad g u)) (i5_s σ)) := by
  have ha : ∀ o, o < 33 → i5_ad g u o = g.2.1 o := fun o ho => if_pos ho
  have hs : ∀ a b, a < 33 → i5_s σ a b = σ a b := fun a b h => if_pos h
  obtain ⟨p1, p2⟩ := cb_Pl hP
  rw [i5_all]
  refine ⟨va_P.app (rd_P_ad ha hs p1) p2, cb_Dmap hD (fun k => ?_)⟩
  by_cases hk : k < 33
  · rw [List.getElem?_append_left (by simpa [rd_wd] using hk), List.getElem?_append_left (by simpa [rd_wd] using hk), rd_wd_at hk, rd_wd_at hk]
    show some (i5_ad g u k) = some (g.2.1 k)
    rw [ha k hk]
  · rw [List.getElem?_append_right (by simp [rd_wd]; omega), List.getElem?_append_right (by simp [rd_wd]; omega)]
    simp [rd_wd]
/-- how the reference stands when it is made -/
def i5_R (σ : rd_S) : Prop := kd_at σ 1224 ∧ rw_at σ 608 5 ∧ md_at σ (sd_begin (ps_ord 228)) ∧ σ 33 6 = 0 ∧ σ 33 8 = 0 ∧ σ 33 10 = 0 ∧ σ 33 12 = 0
def i5_c (σ : rd_S) : rd_S := (rd_u2 (rd_u2 (rd_u2 (rd_u2 (rd_u2 (rd_u2 (rd_u2 (rd_u2 (rd_u2 (rd_u2 (rd_u2 (i5_s σ) 34 1 (nI 1)) 34 2 (nI 3)) 34 3 (nI 2)) 35 0 (nI 0)) 35 1 (nI 1)) 35 2 (nI 2)) 35 3 (nI 3)) 36 2 (nI 2)) 36 3 (nI 1)) 36 4 (nI 2)) 33 3 (nI 5))
theorem i5_c_low {σ : rd_S} {a b : Nat} (h : a < 33) : i5_c σ a b = σ a b := by
  unfold i5_c
  rw [u2_off (by omega)]
  rw [u2_off (by omega)]
  rw [u2_off (by omega)]
  rw [u2_off (by omega)]
  rw [u2_off (by omega)]
  rw [u2_off (by omega)]
  rw [u2_off (by omega)]
  rw [u2_off (by omega)]
  rw [u2_off (by omega)]
  rw [u2_off (by omega)]
  rw [u2_off (by omega)]
  exact if_pos h
def i5_e (σ : rd_S) : rd_S := rd_u2 (rd_u2 (rd_u2 (mr (i5_c σ) (sd_begin (ps_ord (nI (bq_P 0 1 2 3))))) 33 6 0) 33 8 0) 33 10 0
theorem i5_e_low {σ : rd_S} {a b : Nat} (h : a < 33) : i5_e σ a b = σ a b := by
  unfold i5_e
  rw [u2_off (by omega), u2_off (by omega), u2_off (by omega), mr_off (by omega)]
  exact i5_c_low h
theorem i5_e_off {σ : rd_S} {a b : Nat} (h : 33 ≤ a) (h1 : a ≠ 37) (h2 : ¬ (a = 33 ∧ (b = 6 ∨ b = 8 ∨ b = 10))) : i5_e σ a b = i5_c σ a b := by
  unfold i5_e
  rw [u2_off (by omega), u2_off (by omega), u2_off (by omega), mr_off (by omega)]
theorem i5_e_R (σ : rd_S) : i5_R (i5_e σ) := by
  refine ⟨fun i hi => ?_, ⟨?_, by decide, fun k hk => ?_⟩, fun k hk => ?_, ?_, ?_, ?_, ?_⟩
  · rw [i5_e_off (by decide) (by decide) (by omega)]
    rcases (show i = 0 ∨ i = 1 ∨ i = 2 ∨ i = 3 by omega) with rfl | rfl | rfl | rfl <;> rfl
  · rw [i5_e_off (by decide) (by decide) (by omega)]; rfl
  · rw [i5_e_off (by decide) (by decide) (by omega)]
    rcases (show k = 0 ∨ k = 1 ∨ k = 2 ∨ k = 3 ∨ k = 4 by omega) with rfl | rfl | rfl | rfl | rfl <;> rfl
  · unfold i5_e
    rw [u2_off (by omega), u2_off (by omega), u2_off (by omega), mr_st hk]
    rfl
  · unfold i5_e; rw [u2_off (by omega), u2_off (by omega), u2_at]
  · unfold i5_e; rw [u2_off (by omega), u2_at]
  · unfold i5_e; rw [u2_at]
  · rw [i5_e_off (by decide) (by decide) (by omega)]; rfl
set_option maxHeartbeats 4000000 in
set_option maxRecDepth 100000 in
theorem i5_init (g : rd_G) (σ : rd_S) (l : Launch) (b sz : Nat) : Met l yX5_init (rd_ws yX5_init cX5_init 2 none) { frames := 3, cells := 15, slots := 655, locals := 64 * 3 } (va_Pc [.ref b] (fun U => U.heap.size = sz ∧ va_P g.1 vwCl (rd_wd 33 g σ ++ [(b, .inr (5, i5_f))]) U.heap ∧ va_D (fun _ => True) (rd_wd 33 g σ ++ [(b, .inr (5, i5_f))]) ∧ va_K g.1 vwCl (rd_tys g) U ∧ rd_NW U ∧ va_AO RX3 U)) (va_Qv (fun z : (Nat → Nat) × rd_S => (∀ o, o < 33 → z.1 o = g.2.1 o) ∧ z.1 33 = b ∧ (∀ a b, a < 33 → z.2 a b = σ a b) ∧ i5_R z.2) (fun z t => va_P g.1 vwCl (rd_wd 49 (rd_g' g z.1) z.2) t.heap ∧ va_D (va_A (rd_wd 33 g σ ++ [(b, .inr (5, i5_f))]) sz) (rd_wd 49 (rd_g' g z.1) z.2)) (va_A (rd_wd 33 g σ ++ [(b, .inr (5, i5_f))]) sz)) 15 655 (va_A (rd_wd 33 g σ ++ [(b, .inr (5, i5_f))]) sz) := by
  refine Met.ofW (cc := cX5_init) (maxL := 2) (ret := none) (by decide) rfl ?_
  intro p e s m args below meth c s₁ B hml hv
  obtain ⟨rfl, hsz, hP0, hD0, hK, hN, hO⟩ := hv
  subst hsz
  have hts0 := atoms_spec (ws := rd_ws yX5_init cX5_init 2 none) B.pre
  have hown : s.vm.findClass RX5 = some m.cls := findClass_of_methodNamed B.named
  have hin : meth.name = "<init>" := (name_of_methodNamed B.named B.method).1
  have hl := lv_entry [Value.ref b] (n := 2) (Nat.le_of_ble_eq_true rfl)
  rw [lg_entry_eq]
  generalize (lg_sl ([.ref b]) ++ List.replicate (2 - (lg_sl ([.ref b])).length) Slot.unset).toArray = ls at hl ⊢
  have hl : lv_has ls 2 [(0, .ref b)] := hl
  have hD0 : va_D (va_A (rd_wd 33 g σ ++ [(b, .inr (5, i5_f))]) s.heap.size) (rd_wd 33 g σ ++ [(b, .inr (5, i5_f))]) := hD0.self
  have hA : ∀ q : Nat, s.heap.size ≤ q → va_A (rd_wd 33 g σ ++ [(b, .inr (5, i5_f))]) s.heap.size q := fun q h => Or.inr h
  have hS0 : va_S (va_A (rd_wd 33 g σ ++ [(b, .inr (5, i5_f))]) s.heap.size) s.heap s.heap [] := va_S.rf
  generalize va_A (rd_wd 33 g σ ++ [(b, .inr (5, i5_f))]) s.heap.size = A at *
  have hx := B.exec
  have hb := B.bytes
  have hr := B.returns
  have hlocks := B.notSynchronized
  have hts : ∀ w ∈ rd_gt, w.before #[Value.ref b] s = true := fun w hw => hts0 w (List.mem_cons_of_mem _ hw)
  have C : cb_X g 3 15 655 RX5 cX5_init 2 p { frames := 3, cells := 15, slots := 655, locals := 64 * 3 } s m #[Value.ref b] meth c := ⟨hx, hb, hml, hr, hlocks, hown, hts, hK, hN, hO, Nat.le_refl _, Nat.le_refl _, Nat.le_refl _, Nat.le_refl _, hin⟩
  obtain ⟨hP1, hD1⟩ := cb_sw hP0 hD0
  refine i5_new (w0 := rd_wd 33 g σ) C (by rw [List.append_nil]; exact hP1) (by rw [List.append_nil]; exact hD1) hS0 hA hl (fun u H locs hu hP2 hD2 hS => ?_)
  obtain ⟨hP, hD⟩ := i5_conv hP2 hD2
  clear hP0 hD0 hP1 hD1 hP2 hD2 hS0
  subst hu
  obtain ⟨G, hG⟩ : ∃ G, G = rd_g' g (i5_ad g u) := ⟨_, rfl⟩
  rw [← hG] at hP hD
  have hK : va_K G.1 vwCl (rd_tys G) s := by rw [hG]; exact hK
  have hl : lv_has ls 2 [(0, .ref (G.2.1 33))] := by rw [hG]; exact hl
  have hP : va_P G.1 vwCl (rd_wd 49 G (i5_s σ)) H := by rw [hG]; rw [hG] at hP; exact hP
  refine lv_aload_n hx hb dX5_init_121 rfl (lv_at hl 0 rfl) ?_
  refine ic_getr (g := G) (r := 34) hx hb hown hts hK hP kf_X5_7 (by decide) rfl rfl rfl dX5_init_122 ?_
  refine lv_iconst (v := nI 1) hx hb dX5_init_125 rfl ?_
  refine lv_iconst (v := nI 1) hx hb dX5_init_126 rfl ?_
  refine ic_iast (g := G) hx hb hK hP hD hS (by decide) rfl (by decide) dX5_init_127 (fun H locs hP hD hS => ?_)
  refine lv_aload_n hx hb dX5_init_128 rfl (lv_at hl 0 rfl) ?_
  refine ic_getr (g := G) (r := 34) hx hb hown hts hK hP kf_X5_7 (by decide) rfl rfl rfl dX5_init_129 ?_
  refine lv_iconst (v := nI 2) hx hb dX5_init_132 rfl ?_
  refine lv_iconst (v := nI 3) hx hb dX5_init_133 rfl ?_
  refine ic_iast (g := G) hx hb hK hP hD hS (by decide) rfl (by decide) dX5_init_134 (fun H locs hP hD hS => ?_)
  refine lv_aload_n hx hb dX5_init_135 rfl (lv_at hl 0 rfl) ?_
  refine ic_getr (g := G) (r := 34) hx hb hown hts hK hP kf_X5_7 (by decide) rfl rfl rfl dX5_init_136 ?_
  refine lv_iconst (v := nI 3) hx hb dX5_init_139 rfl ?_
  refine lv_iconst (v := nI 2) hx hb dX5_init_140 rfl ?_
  refine ic_iast (g := G) hx hb hK hP hD hS (by decide) rfl (by decide) dX5_init_141 (fun H locs hP hD hS => ?_)
  refine lv_iconst (v := nI 0) hx hb dX5_init_142 rfl ?_
  refine lv_istore_n (lv' := [(1, .int (nI 0)), (0, .ref (G.2.1 33))]) hx hb dX5_init_143 rfl hl (by decide) rfl (fun ls hl => ?_)
  have hl : lv_has ls 2 [(0, .ref (G.2.1 33)), (1, .int (nI 0))] := lv_sub hl [1, 0] rfl
  refine lv_iload_n hx hb dX5_init_144 rfl (lv_at hl 1 rfl) ?_
  refine lv_iconst (v := 4) hx hb dX5_init_145 (by decide) ?_
  refine lv_icmp_ge (tgt := 162) hx hb dX5_init_146 (by decide) (fun q => absurd q (by decide)) (fun _ => ?_)
  refine lv_aload_n hx hb dX5_init_149 rfl (lv_at hl 0 rfl) ?_
  refine ic_getr (g := G) (r := 35) hx hb hown hts hK hP kf_X5_13 (by decide) rfl rfl rfl dX5_init_150 ?_
  refine lv_iload_n hx hb dX5_init_153 rfl (lv_at hl 1 rfl) ?_
  refine lv_iload_n hx hb dX5_init_154 rfl (lv_at hl 1 rfl) ?_
  refine ic_iast (g := G) hx hb hK hP hD hS (by decide) rfl (by decide) dX5_init_155 (fun H locs hP hD hS => ?_)
  refine lv_iinc (v := nI 1) (lv' := [(1, .int (nI 1)), (0, .ref (G.2.1 33))]) hx hb dX5_init_156 hl (k := 1) rfl (nI_1 0) (by decide) rfl (fun ls hl => ?_)
  have hl : lv_has ls 2 [(0, .ref (G.2.1 33)), (1, .int (nI 1))] := lv_sub hl [1, 0] rfl
  refine lv_goto (tgt := 144) hx hb dX5_init_159 (by decide) ?_
  refine lv_iload_n hx hb dX5_init_144 rfl (lv_at hl 1 rfl) ?_
  refine lv_iconst (v := 4) hx hb dX5_init_145 (by decide) ?_
  refine lv_icmp_ge (tgt := 162) hx hb dX5_init_146 (by decide) (fun q => absurd q (by decide)) (fun _ => ?_)
  refine lv_aload_n hx hb dX5_init_149 rfl (lv_at hl 0 rfl) ?_
  refine ic_getr (g := G) (r := 35) hx hb hown hts hK hP kf_X5_13 (by decide) rfl rfl rfl dX5_init_150 ?_
  refine lv_iload_n hx hb dX5_init_153 rfl (lv_at hl 1 rfl) ?_
  refine lv_iload_n hx hb dX5_init_154 rfl (lv_at hl 1 rfl) ?_
  refine ic_iast (g := G) hx hb hK hP hD hS (by decide) rfl (by decide) dX5_init_155 (fun H locs hP hD hS => ?_)
  refine lv_iinc (v := nI 2) (lv' := [(1, .int (nI 2)), (0, .ref (G.2.1 33))]) hx hb dX5_init_156 hl (k := 1) rfl (nI_1 1) (by decide) rfl (fun ls hl => ?_)
  have hl : lv_has ls 2 [(0, .ref (G.2.1 33)), (1, .int (nI 2))] := lv_sub hl [1, 0] rfl
  refine lv_goto (tgt := 144) hx hb dX5_init_159 (by decide) ?_
  refine lv_iload_n hx hb dX5_init_144 rfl (lv_at hl 1 rfl) ?_
  refine lv_iconst (v := 4) hx hb dX5_init_145 (by decide) ?_
  refine lv_icmp_ge (tgt := 162) hx hb dX5_init_146 (by decide) (fun q => absurd q (by decide)) (fun _ => ?_)
  refine lv_aload_n hx hb dX5_init_149 rfl (lv_at hl 0 rfl) ?_
  refine ic_getr (g := G) (r := 35) hx hb hown hts hK hP kf_X5_13 (by decide) rfl rfl rfl dX5_init_150 ?_
  refine lv_iload_n hx hb dX5_init_153 rfl (lv_at hl 1 rfl) ?_
  refine lv_iload_n hx hb dX5_init_154 rfl (lv_at hl 1 rfl) ?_
  refine ic_iast (g := G) hx hb hK hP hD hS (by decide) rfl (by decide) dX5_init_155 (fun H locs hP hD hS => ?_)
  refine lv_iinc (v := nI 3) (lv' := [(1, .int (nI 3)), (0, .ref (G.2.1 33))]) hx hb dX5_init_156 hl (k := 1) rfl (nI_1 2) (by decide) rfl (fun ls hl => ?_)
  have hl : lv_has ls 2 [(0, .ref (G.2.1 33)), (1, .int (nI 3))] := lv_sub hl [1, 0] rfl
  refine lv_goto (tgt := 144) hx hb dX5_init_159 (by decide) ?_
  refine lv_iload_n hx hb dX5_init_144 rfl (lv_at hl 1 rfl) ?_
  refine lv_iconst (v := 4) hx hb dX5_init_145 (by decide) ?_
  refine lv_icmp_ge (tgt := 162) hx hb dX5_init_146 (by decide) (fun q => absurd q (by decide)) (fun _ => ?_)
  refine lv_aload_n hx hb dX5_init_149 rfl (lv_at hl 0 rfl) ?_
  refine ic_getr (g := G) (r := 35) hx hb hown hts hK hP kf_X5_13 (by decide) rfl rfl rfl dX5_init_150 ?_
  refine lv_iload_n hx hb dX5_init_153 rfl (lv_at hl 1 rfl) ?_
  refine lv_iload_n hx hb dX5_init_154 rfl (lv_at hl 1 rfl) ?_
  refine ic_iast (g := G) hx hb hK hP hD hS (by decide) rfl (by decide) dX5_init_155 (fun H locs hP hD hS => ?_)
  refine lv_iinc (v := nI 4) (lv' := [(1, .int (nI 4)), (0, .ref (G.2.1 33))]) hx hb dX5_init_156 hl (k := 1) rfl (nI_1 3) (by decide) rfl (fun ls hl => ?_)
  have hl : lv_has ls 2 [(0, .ref (G.2.1 33)), (1, .int (nI 4))] := lv_sub hl [1, 0] rfl
  refine lv_goto (tgt := 144) hx hb dX5_init_159 (by decide) ?_
  refine lv_iload_n hx hb dX5_init_144 rfl (lv_at hl 1 rfl) ?_
  refine lv_iconst (v := 4) hx hb dX5_init_145 (by decide) ?_
  refine lv_icmp_ge (tgt := 162) hx hb dX5_init_146 (by decide) (fun _ => ?_) (fun q => absurd (by decide) q)
  refine lv_aload_n hx hb dX5_init_162 rfl (lv_at hl 0 rfl) ?_
  refine ic_getr (g := G) (r := 36) hx hb hown hts hK hP kf_X5_16 (by decide) rfl rfl rfl dX5_init_163 ?_
  refine lv_iconst (v := nI 2) hx hb dX5_init_166 rfl ?_
  refine lv_iconst (v := nI 2) hx hb dX5_init_167 rfl ?_
  refine ic_iast (g := G) hx hb hK hP hD hS (by decide) rfl (by decide) dX5_init_168 (fun H locs hP hD hS => ?_)
  refine lv_aload_n hx hb dX5_init_169 rfl (lv_at hl 0 rfl) ?_
  refine ic_getr (g := G) (r := 36) hx hb hown hts hK hP kf_X5_16 (by decide) rfl rfl rfl dX5_init_170 ?_
  refine lv_iconst (v := nI 3) hx hb dX5_init_173 rfl ?_
  refine lv_iconst (v := nI 1) hx hb dX5_init_174 rfl ?_
  refine ic_iast (g := G) hx hb hK hP hD hS (by decide) rfl (by decide) dX5_init_175 (fun H locs hP hD hS => ?_)
  refine lv_aload_n hx hb dX5_init_176 rfl (lv_at hl 0 rfl) ?_
  refine ic_getr (g := G) (r := 36) hx hb hown hts hK hP kf_X5_16 (by decide) rfl rfl rfl dX5_init_177 ?_
  refine lv_iconst (v := nI 4) hx hb dX5_init_180 rfl ?_
  refine lv_iconst (v := nI 2) hx hb dX5_init_181 rfl ?_
  refine ic_iast (g := G) hx hb hK hP hD hS (by decide) rfl (by decide) dX5_init_182 (fun H locs hP hD hS => ?_)
  refine lv_aload_n hx hb dX5_init_183 rfl (lv_at hl 0 rfl) ?_
  refine lv_iconst (v := nI 5) hx hb dX5_init_184 rfl ?_
  refine ic_many (g := G) hx hb hown hts hK hP hD hS dX5_init_185 (fun H locs hP hD hS => ?_)
  refine lv_aload_n hx hb dX5_init_188 rfl (lv_at hl 0 rfl) ?_
  obtain ⟨hDr, hAd⟩ := rd_A_D hD
  refine ic_v (g := G) (N := 49) (σ := i5_c σ) (rest := []) (d' := 0) hx hb hml hown hts hK hN (Nat.le_of_ble_eq_true rfl) (Nat.le_of_ble_eq_true rfl) (Nat.le_refl _) (Nat.le_refl _) hP hDr hS hAd hl.1 (c_begin 49 0 (i5_c σ) (by decide) 0 1 2 3 (by decide) (by decide) (by decide) (by decide) (by decide) rfl rfl rfl rfl) km_X5_59 rfl (by decide) rfl (Nat.le_of_ble_eq_true rfl) rfl rfl dX5_init_189 (fun σ3 H5 locs q hP hD hS => ?_)
  obtain ⟨-, hσ3⟩ := q
  subst hσ3
  subst hG
  exact W.vret hx hb hr (fun t ht hW => ⟨⟨(i5_ad g u, i5_e σ), rfl, ⟨fun o ho => if_pos ho, rfl, fun a b h => i5_e_low h, i5_e_R σ⟩, by rw [ht]; exact hP, rd_D_A hD hAd⟩, hS.F ht⟩) hS.2.2 dX5_init_192
