/-! ===== the reference: danced ===== -/
def dd_0 (E : sd_D) : sd_D := (E.1, E.2.1, 0, 1, E.2.2.2.2)
theorem dd_wf {c : Nat} {E : sd_D} (h : wf c E) : wf c (dd_0 E) := by
  obtain ⟨x, r, b, h1, h2, h3, h4, h5, h6, h7, h8, h9⟩ := h
  exact ⟨x, r, b, h1, h2, h3, h4, h5, h6, h7, h8, by show wf_ul 0 1; unfold wf_ul; decide⟩
theorem dd_ms (σ : rd_S) (E A : sd_D) (n : Int32) : rd_u2 (rd_u2 (ms σ E A n) 37 8 0) 37 9 1 = ms σ (dd_0 E) A n := by
  funext a b
  by_cases h9 : a = 37 ∧ b = 9
  · obtain ⟨rfl, rfl⟩ := h9; rw [u2_at, ms_st (by decide)]; rfl
  · rw [u2_off h9]
    by_cases h8 : a = 37 ∧ b = 8
    · obtain ⟨rfl, rfl⟩ := h8; rw [u2_at, ms_st (by decide)]; rfl
    · rw [u2_off h8]
      simp only [ms]
      by_cases h : a = 37 ∧ b < 12
      · rw [if_pos h, if_pos h]
        unfold md_of dd_0
        have e8 : b ≠ 8 := fun q => h8 ⟨h.1, q⟩
        have e9 : b ≠ 9 := fun q => h9 ⟨h.1, q⟩
        rw [if_neg e8, if_neg e8, if_neg e9, if_neg e9]
      · rw [if_neg h, if_neg h]
def dd (n : Nat) (u l : Int32) : Nat → Nat → sd_D → Nat → Nat
  | 0, _, _, a => a
  | m + 1, code, E, a => dd n u l m (code + 1) (dr 0 code n (dd_0 E)).2 (a + if ((dr 0 code n (dd_0 E)).1 && gw u l (dr 0 code n (dd_0 E)).2) = true then 1 else 0)
set_option maxHeartbeats 4000000 in
set_option maxRecDepth 100000 in
theorem lp_danced (N d : Nat) (hN : 49 ≤ N) (σ τ : rd_S) (D : sd_D) (hD : md_at σ D) (hk : kd_at τ 0) (hp : ∀ k, k < 4 → τ 47 k = σ 34 k) (he : ∀ a b, a ≠ 47 → ¬ (a = 34 ∧ b < 4) → τ a b = σ a b) (u l : Int32) (n : Nat) (hn : n ≤ 7) : ∀ (m code a c : Nat) (E : sd_D) (n0 : Int32), code + m = 3 ^ n → wf c E → c + m * 7 < 900000 → rd_W N (d + 4) RX5 cX5_danced 6 (some .int) 77 [.ref 33, .int (nI n), .int u, .int l, .int (nI a), .int (nI code)] [] (ms τ E D n0) (fun r s => r = some (.int (nI (dd n u l m code E a))) ∧ mq_eq s σ) := by
  have h3 := p3_le hn
  intro m
  induction m with
  | zero =>
    intro code a c E n0 hm hw hc
    refine rr_iload_5 dX5_danced_77 ?_
    refine rr_iconst (v := 3) dX5_danced_79 (by decide) ?_
    refine rr_iloadn_1 dX5_danced_80 ?_
    refine rr_callSiD (c_X5_rowsOf N _ _ 3 n (by omega)) km_X5_156 rfl rfl (Nat.le_of_ble_eq_true rfl) dX5_danced_81 ?_
    refine rr_icmp_ge 138 dX5_danced_84 (by decide) (fun h84 => ?_) (fun h84 => absurd ((nI_lek (by omega) (by omega)).mpr (by omega)) h84)
    refine rr_iconst (v := 0) dX5_danced_138 (by decide) ?_
    refine rr_istore_5 dX5_danced_139 rfl ?_
    refine rr_iload_5 dX5_danced_141 ?_
    refine rr_iconst (v := 4) dX5_danced_143 (by decide) ?_
    refine rr_icmp_ge 167 dX5_danced_144 (by decide) (fun h144 => absurd h144 (by decide)) (fun _ => ?_)
    refine rr_aloadn_0 dX5_danced_147 ?_
    refine rr_getr 34 dX5_danced_148 kf_X5_7 (by omega) rfl rfl rfl ?_
    refine rr_iload_5 dX5_danced_151 ?_
    refine rr_aloadn_0 dX5_danced_153 ?_
    refine rr_getr 47 dX5_danced_154 kf_X5_49 (by omega) rfl rfl rfl ?_
    refine rr_iload_5 dX5_danced_157 ?_
    refine rr_iald (0) dX5_danced_159 (by omega) rfl rfl (by decide) ?_
    rw [ms_ne (by decide) (by decide) (by decide)]
    repeat rw [u2_off (by decide)]
    rw [hp _ (by decide)]
    refine rr_iast (0) dX5_danced_160 (by omega) rfl rfl (by decide) ?_
    rw [ms_u2 (by decide) (by decide) (by decide)]
    refine rr_iincC_5 1 1 dX5_danced_161 (by decide) (by decide) rfl ?_
    refine rr_goto 141 dX5_danced_164 (by decide) ?_
    refine rr_iload_5 dX5_danced_141 ?_
    refine rr_iconst (v := 4) dX5_danced_143 (by decide) ?_
    refine rr_icmp_ge 167 dX5_danced_144 (by decide) (fun h144_1 => absurd h144_1 (by decide)) (fun _ => ?_)
    refine rr_aloadn_0 dX5_danced_147 ?_
    refine rr_getr 34 dX5_danced_148 kf_X5_7 (by omega) rfl rfl rfl ?_
    refine rr_iload_5 dX5_danced_151 ?_
    refine rr_aloadn_0 dX5_danced_153 ?_
    refine rr_getr 47 dX5_danced_154 kf_X5_49 (by omega) rfl rfl rfl ?_
    refine rr_iload_5 dX5_danced_157 ?_
    refine rr_iald (1) dX5_danced_159 (by omega) rfl rfl (by decide) ?_
    rw [ms_ne (by decide) (by decide) (by decide)]
    repeat rw [u2_off (by decide)]
    rw [hp _ (by decide)]
    refine rr_iast (1) dX5_danced_160 (by omega) rfl rfl (by decide) ?_
    rw [ms_u2 (by decide) (by decide) (by decide)]
    refine rr_iincC_5 1 2 dX5_danced_161 (by decide) (by decide) rfl ?_
    refine rr_goto 141 dX5_danced_164 (by decide) ?_
    refine rr_iload_5 dX5_danced_141 ?_
    refine rr_iconst (v := 4) dX5_danced_143 (by decide) ?_
    refine rr_icmp_ge 167 dX5_danced_144 (by decide) (fun h144_2 => absurd h144_2 (by decide)) (fun _ => ?_)
    refine rr_aloadn_0 dX5_danced_147 ?_
    refine rr_getr 34 dX5_danced_148 kf_X5_7 (by omega) rfl rfl rfl ?_
    refine rr_iload_5 dX5_danced_151 ?_
    refine rr_aloadn_0 dX5_danced_153 ?_
    refine rr_getr 47 dX5_danced_154 kf_X5_49 (by omega) rfl rfl rfl ?_
    refine rr_iload_5 dX5_danced_157 ?_
    refine rr_iald (2) dX5_danced_159 (by omega) rfl rfl (by decide) ?_
    rw [ms_ne (by decide) (by decide) (by decide)]
    repeat rw [u2_off (by decide)]
    rw [hp _ (by decide)]
    refine rr_iast (2) dX5_danced_160 (by omega) rfl rfl (by decide) ?_
    rw [ms_u2 (by decide) (by decide) (by decide)]
    refine rr_iincC_5 1 3 dX5_danced_161 (by decide) (by decide) rfl ?_
    refine rr_goto 141 dX5_danced_164 (by decide) ?_
    refine rr_iload_5 dX5_danced_141 ?_
    refine rr_iconst (v := 4) dX5_danced_143 (by decide) ?_
    refine rr_icmp_ge 167 dX5_danced_144 (by decide) (fun h144_3 => absurd h144_3 (by decide)) (fun _ => ?_)
    refine rr_aloadn_0 dX5_danced_147 ?_
    refine rr_getr 34 dX5_danced_148 kf_X5_7 (by omega) rfl rfl rfl ?_
    refine rr_iload_5 dX5_danced_151 ?_
    refine rr_aloadn_0 dX5_danced_153 ?_
    refine rr_getr 47 dX5_danced_154 kf_X5_49 (by omega) rfl rfl rfl ?_
    refine rr_iload_5 dX5_danced_157 ?_
    refine rr_iald (3) dX5_danced_159 (by omega) rfl rfl (by decide) ?_
    rw [ms_ne (by decide) (by decide) (by decide)]
    repeat rw [u2_off (by decide)]
    rw [hp _ (by decide)]
    refine rr_iast (3) dX5_danced_160 (by omega) rfl rfl (by decide) ?_
    rw [ms_u2 (by decide) (by decide) (by decide)]
    refine rr_iincC_5 1 4 dX5_danced_161 (by decide) (by decide) rfl ?_
    refine rr_goto 141 dX5_danced_164 (by decide) ?_
    refine rr_iload_5 dX5_danced_141 ?_
    refine rr_iconst (v := 4) dX5_danced_143 (by decide) ?_
    refine rr_icmp_ge 167 dX5_danced_144 (by decide) (fun _ => ?_) (fun h144_4 => absurd h144_4 (by decide))
    refine rr_aloadn_0 dX5_danced_167 ?_
    refine rr_callVvD (c_tb N _ _ hN E D n0) km_X5_147 rfl rfl (by omega) rfl (Nat.le_of_ble_eq_true rfl) dX5_danced_168 ?_
    refine rr_iload_4 dX5_danced_171 ?_
    exact rr_iret dX5_danced_173 ⟨rfl, mq_ms (fun a b q => by
      by_cases h34 : a = 34 ∧ b < 4
      · obtain ⟨rfl, hb⟩ := h34
        rcases (show b = 0 ∨ b = 1 ∨ b = 2 ∨ b = 3 by omega) with rfl | rfl | rfl | rfl
        · rw [u2_off (by decide), u2_off (by decide), u2_off (by decide), u2_at]
        · rw [u2_off (by decide), u2_off (by decide), u2_at]
        · rw [u2_off (by decide), u2_at]
        · rw [u2_at]
      · rw [u2_off (by omega), u2_off (by omega), u2_off (by omega), u2_off (by omega)]
        exact he a b (by omega) h34) hD⟩
  | succ m ih =>
    intro code a c E n0 hm hw hc
    have hw0 := dd_wf hw
    have hT := c_X5_dancesRow N d τ hN c (dd_0 E) D n0 0 hw0 hk code n (by omega) hn (by omega)
    have hW := dr_wf (kb := 0) (code := code) (m := n) hw0 (by omega)
    have hP : dd n u l (m + 1) code E a = dd n u l m (code + 1) (dr 0 code n (dd_0 E)).2 (a + if ((dr 0 code n (dd_0 E)).1 && gw u l (dr 0 code n (dd_0 E)).2) = true then 1 else 0) := rfl
    generalize dr 0 code n (dd_0 E) = q at hT hP hW
    obtain ⟨b, F⟩ := q
    dsimp only at hT hP hW
    have next : ∀ (n1 v : Int32), v = (if (b && gw u l F) = true then 1 else 0) → rd_W N (d + 4) RX5 cX5_danced 6 (some .int) 129 [.ref 33, .int (nI n), .int u, .int l, .int (nI a), .int (nI code)] [.int v, .int (nI a)] (ms τ F D n1) (fun r s => r = some (.int (nI (dd n u l (m + 1) code E a))) ∧ mq_eq s σ) := by
      intro n1 v hv
      have ev : nI a + v = nI (a + if (b && gw u l F) = true then 1 else 0) := by rw [hv]; split; exact nI_1 a; exact nI_add a 0
      refine rr_iadd dX5_danced_129 ?_
      rw [ev]
      refine rr_istore_4 dX5_danced_130 rfl ?_
      refine rr_iinc_5 1 dX5_danced_132 (by decide) rfl ?_
      refine rr_goto 77 dX5_danced_135 (by decide) ?_
      rw [nI_s code, hP]
      exact ih (code + 1) _ (c + n) F n1 (by omega) hW (by omega)
    refine rr_iload_5 dX5_danced_77 ?_
    refine rr_iconst (v := 3) dX5_danced_79 (by decide) ?_
    refine rr_iloadn_1 dX5_danced_80 ?_
    refine rr_callSiD (c_X5_rowsOf N _ _ 3 n (by omega)) km_X5_156 rfl rfl (Nat.le_of_ble_eq_true rfl) dX5_danced_81 ?_
    refine rr_icmp_ge 138 dX5_danced_84 (by decide) (fun h84 => absurd ((nI_lek (by omega) (by omega)).mp h84) (by omega)) (fun h84 => ?_)
    refine rr_aloadn_0 dX5_danced_87 ?_
    refine rr_getr 37 dX5_danced_88 kf_X5_19 (by omega) rfl rfl rfl ?_
    refine rr_bipush (v := 8) dX5_danced_91 (by decide) ?_
    refine rr_iconst (v := 0) dX5_danced_93 (by decide) ?_
    refine rr_iast (8) dX5_danced_94 (by omega) rfl rfl (by decide) ?_
    refine rr_aloadn_0 dX5_danced_95 ?_
    refine rr_getr 37 dX5_danced_96 kf_X5_19 (by omega) rfl rfl rfl ?_
    refine rr_bipush (v := 9) dX5_danced_99 (by decide) ?_
    refine rr_iconst (v := 1) dX5_danced_101 (by decide) ?_
    refine rr_iast (9) dX5_danced_102 (by omega) rfl rfl (by decide) ?_
    rw [dd_ms]
    refine rr_iload_4 dX5_danced_103 ?_
    refine rr_aloadn_0 dX5_danced_105 ?_
    refine rr_iload_5 dX5_danced_106 ?_
    refine rr_iloadn_1 dX5_danced_108 ?_
    refine rr_callVi hT km_X5_162 rfl rfl (by omega) rfl (Nat.le_of_ble_eq_true rfl) dX5_danced_109 (fun r109 s109 q109 => ?_)
    obtain ⟨hr, n1, rfl⟩ := q109
    cases hr
    cases b
    · refine rr_if_eq 128 dX5_danced_112 (by decide) (fun h112 => ?_) (fun h112 => absurd (by simp) h112)
      refine rr_iconst (v := 0) dX5_danced_128 (by decide) ?_
      exact next n1 0 (by simp)
    · refine rr_if_eq 128 dX5_danced_112 (by decide) (fun h112 => absurd h112 (by simp)) (fun h112 => ?_)
      refine rr_aloadn_0 dX5_danced_115 ?_
      refine rr_iloadn_2 dX5_danced_116 ?_
      refine rr_iloadn_3 dX5_danced_117 ?_
      refine rr_callViD (c_X5_isWound N _ _ hN F D n1 _ _) km_X5_165 rfl rfl (by omega) rfl (Nat.le_of_ble_eq_true rfl) dX5_danced_118 ?_
      by_cases hg : gw u l F = true
      · rw [if_pos hg]
        refine rr_if_eq 128 dX5_danced_121 (by decide) (fun h121 => absurd h121 (by decide)) (fun h121 => ?_)
        refine rr_iconst (v := 1) dX5_danced_124 (by decide) ?_
        refine rr_goto 129 dX5_danced_125 (by decide) ?_
        exact next n1 1 (by simp [hg])
      · rw [if_neg hg]
        refine rr_if_eq 128 dX5_danced_121 (by decide) (fun h121 => ?_) (fun h121 => absurd rfl h121)
        refine rr_iconst (v := 0) dX5_danced_128 (by decide) ?_
        exact next n1 0 (by simp [hg])
set_option maxHeartbeats 4000000 in
set_option maxRecDepth 100000 in
theorem m_danced_b (N d : Nat) (σ : rd_S) (hN : 49 ≤ N) (x : Int32) (h : hp_rg 0 7 x = false) : rd_T N (d + 5) yX5_danced cX5_danced 6 (some .int) [.ref 33, .int x] σ (rd_is (some (.int (-1))) σ) := by
  refine rd_start RX5 [.ref 33, .int x, .retAddr 0, .retAddr 0, .retAddr 0, .retAddr 0] rfl (by decide +kernel) rfl (Nat.le_of_ble_eq_true rfl) ?_
  refine rr_iloadn_1 dX5_danced_0 ?_
  refine rr_i2l dX5_danced_1 ?_
  refine rr_lconst (v := 0) dX5_danced_2 (by decide) ?_
  refine rr_ldc2 dX5_danced_3 kc_X5_198 ?_
  refine rr_callSiD (c_in N _ _ _ _ _ (0) (7) rfl rfl) km_X5_62 rfl rfl (Nat.le_of_ble_eq_true rfl) dX5_danced_6 ?_
  refine rr_if_ne 14 dX5_danced_9 (by decide) (fun h9 => absurd (by simp [h]) h9) (fun h9 => ?_)
  refine rr_iconst (v := (-1)) dX5_danced_12 (by decide) ?_
  exact rr_iret dX5_danced_13 ⟨rfl, rfl⟩
set_option maxHeartbeats 4000000 in
set_option maxRecDepth 100000 in
theorem m_danced_s (N d : Nat) (σ : rd_S) (hN : 49 ≤ N) (c : Nat) (hc : c + 16000 < 900000) (D : sd_D) (hw : wf c D) (hD : md_at σ D) (n : Nat) (hn : n ≤ 7) : rd_T N (d + 5) yX5_danced cX5_danced 6 (some .int) [.ref 33, .int (nI n)] σ (fun r s => r = some (.int (nI (dd n D.2.2.1 D.2.2.2.1 (3 ^ n) 0 D 0))) ∧ mq_eq s σ) := by
  refine rd_start RX5 [.ref 33, .int (nI n), .retAddr 0, .retAddr 0, .retAddr 0, .retAddr 0] rfl (by decide +kernel) rfl (Nat.le_of_ble_eq_true rfl) ?_
  have h7 := hp_7 (k := 7) (by decide) hn
  have h3 := p3_le hn
  refine rr_iloadn_1 dX5_danced_0 ?_
  refine rr_i2l dX5_danced_1 ?_
  refine rr_lconst (v := 0) dX5_danced_2 (by decide) ?_
  refine rr_ldc2 dX5_danced_3 kc_X5_198 ?_
  refine rr_callSiD (c_in N _ _ _ _ _ (0) (7) rfl rfl) km_X5_62 rfl rfl (Nat.le_of_ble_eq_true rfl) dX5_danced_6 ?_
  refine rr_if_ne 14 dX5_danced_9 (by decide) (fun h9 => ?_) (fun h9 => absurd h9 (by simp [show hp_rg 0 7 (nI n) = true from h7]))
  refine rr_aloadn_0 dX5_danced_14 ?_
  refine rr_getr 37 dX5_danced_15 kf_X5_19 (by omega) rfl rfl rfl ?_
  refine rr_bipush (v := 8) dX5_danced_18 (by decide) ?_
  refine rr_iald (8) dX5_danced_20 (by omega) rfl rfl (by decide) ?_
  rw [hD 8 (by decide)]
  refine rr_istoren_2 dX5_danced_21 rfl ?_
  refine rr_aloadn_0 dX5_danced_22 ?_
  refine rr_getr 37 dX5_danced_23 kf_X5_19 (by omega) rfl rfl rfl ?_
  refine rr_bipush (v := 9) dX5_danced_26 (by decide) ?_
  refine rr_iald (9) dX5_danced_28 (by omega) rfl rfl (by decide) ?_
  rw [hD 9 (by decide)]
  refine rr_istoren_3 dX5_danced_29 rfl ?_
  refine rr_aloadn_0 dX5_danced_30 ?_
  refine rr_callVvD (c_pa N _ _ hN D hD) km_X5_141 rfl rfl (by omega) rfl (Nat.le_of_ble_eq_true rfl) dX5_danced_31 ?_
  refine rr_iconst (v := 0) dX5_danced_34 (by decide) ?_
  refine rr_istore_4 dX5_danced_35 rfl ?_
  refine rr_iload_4 dX5_danced_37 ?_
  refine rr_iconst (v := 4) dX5_danced_39 (by decide) ?_
  refine rr_icmp_ge 71 dX5_danced_40 (by decide) (fun h40 => absurd h40 (by decide)) (fun _ => ?_)
  refine rr_aloadn_0 dX5_danced_43 ?_
  refine rr_getr 47 dX5_danced_44 kf_X5_49 (by omega) rfl rfl rfl ?_
  refine rr_iload_4 dX5_danced_47 ?_
  refine rr_aloadn_0 dX5_danced_49 ?_
  refine rr_getr 34 dX5_danced_50 kf_X5_7 (by omega) rfl rfl rfl ?_
  refine rr_iload_4 dX5_danced_53 ?_
  refine rr_iald (0) dX5_danced_55 (by omega) rfl rfl (by decide) ?_
  rw [ms_ne (by decide) (by decide) (by decide)]
  repeat rw [u2_off (by decide)]
  refine rr_iast (0) dX5_danced_56 (by omega) rfl rfl (by decide) ?_
  rw [ms_u2 (by decide) (by decide) (by decide)]
  refine rr_aloadn_0 dX5_danced_57 ?_
  refine rr_getr 34 dX5_danced_58 kf_X5_7 (by omega) rfl rfl rfl ?_
  refine rr_iload_4 dX5_danced_61 ?_
  refine rr_iconst (v := 0) dX5_danced_63 (by decide) ?_
  refine rr_iast (0) dX5_danced_64 (by omega) rfl rfl (by decide) ?_
  rw [ms_u2 (by decide) (by decide) (by decide)]
  refine rr_iincC_4 1 1 dX5_danced_65 (by decide) (by decide) rfl ?_
  refine rr_goto 37 dX5_danced_68 (by decide) ?_
  refine rr_iload_4 dX5_danced_37 ?_
  refine rr_iconst (v := 4) dX5_danced_39 (by decide) ?_
  refine rr_icmp_ge 71 dX5_danced_40 (by decide) (fun h40_1 => absurd h40_1 (by decide)) (fun _ => ?_)
  refine rr_aloadn_0 dX5_danced_43 ?_
  refine rr_getr 47 dX5_danced_44 kf_X5_49 (by omega) rfl rfl rfl ?_
  refine rr_iload_4 dX5_danced_47 ?_
  refine rr_aloadn_0 dX5_danced_49 ?_
  refine rr_getr 34 dX5_danced_50 kf_X5_7 (by omega) rfl rfl rfl ?_
  refine rr_iload_4 dX5_danced_53 ?_
  refine rr_iald (1) dX5_danced_55 (by omega) rfl rfl (by decide) ?_
  rw [ms_ne (by decide) (by decide) (by decide)]
  repeat rw [u2_off (by decide)]
  refine rr_iast (1) dX5_danced_56 (by omega) rfl rfl (by decide) ?_
  rw [ms_u2 (by decide) (by decide) (by decide)]
  refine rr_aloadn_0 dX5_danced_57 ?_
  refine rr_getr 34 dX5_danced_58 kf_X5_7 (by omega) rfl rfl rfl ?_
  refine rr_iload_4 dX5_danced_61 ?_
  refine rr_iconst (v := 0) dX5_danced_63 (by decide) ?_
  refine rr_iast (1) dX5_danced_64 (by omega) rfl rfl (by decide) ?_
  rw [ms_u2 (by decide) (by decide) (by decide)]
  refine rr_iincC_4 1 2 dX5_danced_65 (by decide) (by decide) rfl ?_
  refine rr_goto 37 dX5_danced_68 (by decide) ?_
  refine rr_iload_4 dX5_danced_37 ?_
  refine rr_iconst (v := 4) dX5_danced_39 (by decide) ?_
  refine rr_icmp_ge 71 dX5_danced_40 (by decide) (fun h40_2 => absurd h40_2 (by decide)) (fun _ => ?_)
  refine rr_aloadn_0 dX5_danced_43 ?_
  refine rr_getr 47 dX5_danced_44 kf_X5_49 (by omega) rfl rfl rfl ?_
  refine rr_iload_4 dX5_danced_47 ?_
  refine rr_aloadn_0 dX5_danced_49 ?_
  refine rr_getr 34 dX5_danced_50 kf_X5_7 (by omega) rfl rfl rfl ?_
  refine rr_iload_4 dX5_danced_53 ?_
  refine rr_iald (2) dX5_danced_55 (by omega) rfl rfl (by decide) ?_
  rw [ms_ne (by decide) (by decide) (by decide)]
  repeat rw [u2_off (by decide)]
  refine rr_iast (2) dX5_danced_56 (by omega) rfl rfl (by decide) ?_
  rw [ms_u2 (by decide) (by decide) (by decide)]
  refine rr_aloadn_0 dX5_danced_57 ?_
  refine rr_getr 34 dX5_danced_58 kf_X5_7 (by omega) rfl rfl rfl ?_
  refine rr_iload_4 dX5_danced_61 ?_
  refine rr_iconst (v := 0) dX5_danced_63 (by decide) ?_
  refine rr_iast (2) dX5_danced_64 (by omega) rfl rfl (by decide) ?_
  rw [ms_u2 (by decide) (by decide) (by decide)]
  refine rr_iincC_4 1 3 dX5_danced_65 (by decide) (by decide) rfl ?_
  refine rr_goto 37 dX5_danced_68 (by decide) ?_
  refine rr_iload_4 dX5_danced_37 ?_
  refine rr_iconst (v := 4) dX5_danced_39 (by decide) ?_
  refine rr_icmp_ge 71 dX5_danced_40 (by decide) (fun h40_3 => absurd h40_3 (by decide)) (fun _ => ?_)
  refine rr_aloadn_0 dX5_danced_43 ?_
  refine rr_getr 47 dX5_danced_44 kf_X5_49 (by omega) rfl rfl rfl ?_
  refine rr_iload_4 dX5_danced_47 ?_
  refine rr_aloadn_0 dX5_danced_49 ?_
  refine rr_getr 34 dX5_danced_50 kf_X5_7 (by omega) rfl rfl rfl ?_
  refine rr_iload_4 dX5_danced_53 ?_
  refine rr_iald (3) dX5_danced_55 (by omega) rfl rfl (by decide) ?_
  rw [ms_ne (by decide) (by decide) (by decide)]
  repeat rw [u2_off (by decide)]
  refine rr_iast (3) dX5_danced_56 (by omega) rfl rfl (by decide) ?_
  rw [ms_u2 (by decide) (by decide) (by decide)]
  refine rr_aloadn_0 dX5_danced_57 ?_
  refine rr_getr 34 dX5_danced_58 kf_X5_7 (by omega) rfl rfl rfl ?_
  refine rr_iload_4 dX5_danced_61 ?_
  refine rr_iconst (v := 0) dX5_danced_63 (by decide) ?_
  refine rr_iast (3) dX5_danced_64 (by omega) rfl rfl (by decide) ?_
  rw [ms_u2 (by decide) (by decide) (by decide)]
  refine rr_iincC_4 1 4 dX5_danced_65 (by decide) (by decide) rfl ?_
  refine rr_goto 37 dX5_danced_68 (by decide) ?_
  refine rr_iload_4 dX5_danced_37 ?_
  refine rr_iconst (v := 4) dX5_danced_39 (by decide) ?_
  refine rr_icmp_ge 71 dX5_danced_40 (by decide) (fun _ => ?_) (fun h40_4 => absurd h40_4 (by decide))
  refine rr_iconst (v := 0) dX5_danced_71 (by decide) ?_
  refine rr_istore_4 dX5_danced_72 rfl ?_
  refine rr_iconst (v := 0) dX5_danced_74 (by decide) ?_
  refine rr_istore_5 dX5_danced_75 rfl ?_
  refine lp_danced N (d + 1) hN σ _ D hD ?_ ?_ ?_ _ _ n hn (3 ^ n) 0 0 c D _ (by omega) hw (by omega)
  · intro i hi
    rcases (show i = 0 ∨ i = 1 ∨ i = 2 ∨ i = 3 by omega) with rfl | rfl | rfl | rfl <;> (refine Eq.trans (b := 0) ?_ (by decide); simp [rd_u2])
  · intro i hi
    rcases (show i = 0 ∨ i = 1 ∨ i = 2 ∨ i = 3 by omega) with rfl | rfl | rfl | rfl <;> simp [rd_u2]
  · intro a b h1 h2
    rw [u2_off (by omega), u2_off (by omega), u2_off (by omega), u2_off (by omega), u2_off (by omega), u2_off (by omega), u2_off (by omega), u2_off (by omega)]
