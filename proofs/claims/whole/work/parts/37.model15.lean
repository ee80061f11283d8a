/-! ===== the reference: evening ===== -/
theorem ev_d_nat {z k : Nat} (hz : z ≤ 9999) (hk : k ≤ 100) : ∃ w, w < 65521 ∧ ev_d (nI z) k = nI w := by
  refine ⟨(7919 * z + 6151 * k + 1) * (7919 * z + 6151 * k + 1) % 65521, Nat.mod_lt _ (by decide), ?_⟩
  unfold ev_d
  have e : ∀ a : Nat, a ≤ 10000 → (nI a).toInt64 = Int64.ofNat a := fun a ha => Int64.toInt_inj.mp (by rw [Int32.toInt_toInt64, nI_toInt (by omega), Int64.toInt_ofNat_of_lt (by omega)])
  rw [e z (by omega), e k (by omega)]
  have ex : 7919 * Int64.ofNat z + 6151 * Int64.ofNat k + 1 = Int64.ofNat (7919 * z + 6151 * k + 1) := by rw [Int64.ofNat_add, Int64.ofNat_add, Int64.ofNat_mul, Int64.ofNat_mul]; rfl
  dsimp only
  rw [ex]
  have hX : 7919 * z + 6151 * k + 1 < 100000000 := by omega
  generalize 7919 * z + 6151 * k + 1 = X at hX ⊢
  rw [← Int64.ofNat_mul]
  have hY : X * X < 100000000 * 100000000 := Nat.mul_lt_mul'' hX hX
  generalize X * X = Y at hY ⊢
  have ed : Int64.ofNat Y / Int64.ofNat 65521 = Int64.ofNat (Y / 65521) := (Int64.ofNat_div (b := 65521) (by omega) (by decide)).symm
  rw [show (65521 : Int64) = Int64.ofNat 65521 from rfl, ed, ← Int64.ofNat_mul, ← Int64.ofNat_sub _ _ (Nat.div_mul_le_self Y 65521), Int64.toInt32_ofNat']
  exact congrArg Int32.ofNat (by have := Nat.div_add_mod' Y 65521; omega)
theorem wh_02 : ∀ x, x < 256 → wf_p x = true → wh x 0 < 4 ∧ wh x 2 < 4 ∧ wh x 0 ≠ wh x 2 := by decide +kernel
theorem g0_ms (σ : rd_S) (D A : sd_D) (n : Int32) : ms σ D A n 37 0 = sd_who D.1 0 := by rw [ms_st (by decide)]; rfl
theorem g2_ms (σ : rd_S) (D A : sd_D) (n : Int32) : ms σ D A n 37 2 = sd_who D.1 2 := by rw [ms_st (by decide)]; rfl
theorem c_put02 (N d : Nat) (σ : rd_S) (hN : 49 ≤ N) (c : Nat) (D A : sd_D) (n : Int32) (hw : wf c D) : rd_T N (d + 1) yX5_putThem cX5_putThem 4 none [.ref 33, .int (sd_who D.1 0), .int (sd_who D.1 2)] (ms σ D A n) (rd_is none (ms σ (sd_xch D (sd_who D.1 0) (sd_who D.1 2)) A n)) := by
  have hw2 := hw
  obtain ⟨x, r, b, h1, h2, h3, h4, h5, h6, h7, h8, h9⟩ := hw
  obtain ⟨w1, w2, w3⟩ := wh_02 x h1 h2
  have e0 : sd_who D.1 0 = nI (wh x 0) := by rw [h5]; exact wh_ok x h1 0 (by decide)
  have e2 : sd_who D.1 2 = nI (wh x 2) := by rw [h5]; exact wh_ok x h1 2 (by decide)
  rw [e0, e2]
  exact c_X5_putThem N d σ hN c D A n hw2 _ _ w1 w2 w3
theorem wf_xch02 {c : Nat} {D : sd_D} (h : wf c D) : wf c (sd_xch D (sd_who D.1 0) (sd_who D.1 2)) := by
  have hw2 := h
  obtain ⟨x, r, b, h1, h2, h3, h4, h5, h6, h7, h8, h9⟩ := h
  obtain ⟨w1, w2, w3⟩ := wh_02 x h1 h2
  have e0 : sd_who D.1 0 = nI (wh x 0) := by rw [h5]; exact wh_ok x h1 0 (by decide)
  have e2 : sd_who D.1 2 = nI (wh x 2) := by rw [h5]; exact wh_ok x h1 2 (by decide)
  rw [e0, e2]
  exact wf_xch hw2 w1 w2
theorem fg_mod4 {w : Nat} (h : w < 65521) : fg4 (nI w - nI w / 4 * 4) := by
  rw [show nI w - nI w / 4 * 4 = nI (w % 4) from pk_rem (d := 4) (by omega) (by decide) (by decide)]
  rcases (show w % 4 = 0 ∨ w % 4 = 1 ∨ w % 4 = 2 ∨ w % 4 = 3 by omega) with e | e | e | e <;> rw [e]
  · exact Or.inl rfl
  · exact Or.inr (Or.inl rfl)
  · exact Or.inr (Or.inr (Or.inl rfl))
  · exact Or.inr (Or.inr (Or.inr rfl))
set_option maxHeartbeats 4000000 in
set_option maxRecDepth 100000 in
theorem lp_mevening (N d : Nat) (hN : 49 ≤ N) (σ : rd_S) (A : sd_D) (hA : md_at σ A) (kb : Int32) (hk : kd_at σ kb) (w : Int32) (z n : Nat) (hz : z ≤ 9999) (hn : n ≤ 60) : ∀ (m k c : Nat) (X : sd_D × Nat × Nat) (n0 : Int32) (z7 z8 z9 : Value), k + m = n → wf c X.1 → c + m < 1000000 → rd_W N (d + 3) RX5 cX5_evening 10 (some .int) 51 [.ref 33, .int (nI z), .int (nI n), .int w, .int (nI X.2.1), .int (nI X.2.2), .int (nI k), z7, z8, z9] [] (ms σ X.1 A n0) (fun r s => r = some (.int ((fun Y : sd_D × Nat × Nat => if w = 0 then nI Y.2.1 else if w = 1 then nI Y.2.2 else sd_who Y.1.1 0) (ev_go kb (nI z) m k X))) ∧ mq_eq s σ) := by
  intro m
  induction m with
  | zero =>
    intro k c X n0 z7 z8 z9 hkm hw hc
    obtain rfl : k = n := hkm
    refine rr_iload_6 dX5_evening_51 ?_
    refine rr_iloadn_2 dX5_evening_53 ?_
    refine rr_icmp_ge 159 dX5_evening_54 (by decide) (fun h54 => ?_) (fun h54 => absurd (nI_le (Nat.le_refl _) (by omega)) h54)
    refine rr_aloadn_0 dX5_evening_159 ?_
    refine rr_getr 37 dX5_evening_160 kf_X5_19 (by omega) rfl rfl rfl ?_
    refine rr_iconst (v := 0) dX5_evening_163 (by decide) ?_
    refine rr_iald (0) dX5_evening_164 (by omega) rfl rfl (by decide) ?_
    rw [g0_ms]
    refine rr_istore_6 dX5_evening_165 rfl ?_
    refine rr_aloadn_0 dX5_evening_167 ?_
    refine rr_callVvD (c_tb N _ _ hN X.1 A n0) km_X5_147 rfl rfl (by omega) rfl (Nat.le_of_ble_eq_true rfl) dX5_evening_168 ?_
    refine rr_iloadn_3 dX5_evening_171 ?_
    refine rr_if_ne 180 dX5_evening_172 (by decide) (fun h172 => ?_) (fun h172 => ?_)
    · refine rr_iloadn_3 dX5_evening_180 ?_
      refine rr_iconst (v := 1) dX5_evening_181 (by decide) ?_
      refine rr_icmp_ne 190 dX5_evening_182 (by decide) (fun h182 => ?_) (fun h182 => ?_)
      · refine rr_iload_6 dX5_evening_190 ?_
        exact rr_iret dX5_evening_192 ⟨by first | (simp only [ev_go, if_pos h172]; done) | (simp only [ev_go, if_neg h172, if_pos h182]; done) | (simp only [ev_go, if_neg h172, if_neg h182]; done), mq_ms (mq_eq.refl _) hA⟩
      · refine rr_iload_5 dX5_evening_185 ?_
        refine rr_goto 192 dX5_evening_187 (by decide) ?_
        exact rr_iret dX5_evening_192 ⟨by first | (simp only [ev_go, if_pos h172]; done) | (simp only [ev_go, if_neg h172, if_pos h182]; done) | (simp only [ev_go, if_neg h172, if_neg h182]; done), mq_ms (mq_eq.refl _) hA⟩
    · refine rr_iload_4 dX5_evening_175 ?_
      refine rr_goto 192 dX5_evening_177 (by decide) ?_
      exact rr_iret dX5_evening_192 ⟨by first | (simp only [ev_go, if_pos h172]; done) | (simp only [ev_go, if_neg h172, if_pos h182]; done) | (simp only [ev_go, if_neg h172, if_neg h182]; done), mq_ms (mq_eq.refl _) hA⟩
  | succ m ih =>
    intro k c X n0 z7 z8 z9 hkm hw hc
    obtain ⟨D, zs, ts⟩ := X
    dsimp only at hw ⊢
    obtain ⟨dw, hdw, hd⟩ := ev_d_nat (z := z) (k := k) hz (by omega)
    have hR := wf_rst hw kb
    have tail : ∀ (E : sd_D) (t : Nat) (n1 : Int32) (y7 y8 : Value), ev_1 kb (nI dw) D = E → ev_t kb (nI dw) D = t → wf (c + 1) E → rd_W N (d + 3) RX5 cX5_evening 10 (some .int) 107 [.ref 33, .int (nI z), .int (nI n), .int w, .int (nI zs), .int (nI (ts + t)), .int (nI k), y7, y8, .int (nI dw)] [] (ms σ E A n1) (fun r s => r = some (.int ((fun Y : sd_D × Nat × Nat => if w = 0 then nI Y.2.1 else if w = 1 then nI Y.2.2 else sd_who Y.1.1 0) (ev_go kb (nI z) (m + 1) k (D, zs, ts)))) ∧ mq_eq s σ) := by
      intro E t n1 y7 y8 h1 h3 hwE
      have t2 : ∀ F, ev_2 (nI dw) E = F → wf (c + 1) F → rd_W N (d + 3) RX5 cX5_evening 10 (some .int) 133 [.ref 33, .int (nI z), .int (nI n), .int w, .int (nI zs), .int (nI (ts + t)), .int (nI k), y7, y8, .int (nI dw)] [] (ms σ F A n1) (fun r s => r = some (.int ((fun Y : sd_D × Nat × Nat => if w = 0 then nI Y.2.1 else if w = 1 then nI Y.2.2 else sd_who Y.1.1 0) (ev_go kb (nI z) (m + 1) k (D, zs, ts)))) ∧ mq_eq s σ) := by
        intro F h2 hwF
        rw [← hd] at h1 h2 h3
        refine rr_iload_4 dX5_evening_133 ?_
        refine rr_aloadn_0 dX5_evening_135 ?_
        refine rr_getr 37 dX5_evening_136 kf_X5_19 (by omega) rfl rfl rfl ?_
        refine rr_bipush (v := 8) dX5_evening_139 (by decide) ?_
        refine rr_iald (8) dX5_evening_141 (by omega) rfl rfl (by decide) ?_
        rw [g8_ms]
        refine rr_if_ne 149 dX5_evening_142 (by decide) (fun h142 => ?_) (fun h142 => ?_)
        · refine rr_iconst (v := 0) dX5_evening_149 (by decide) ?_
          refine rr_iadd dX5_evening_150 ?_
          refine rr_istore_4 dX5_evening_151 rfl ?_
          refine rr_iinc_6 1 dX5_evening_153 (by decide) rfl ?_
          refine rr_goto 51 dX5_evening_156 (by decide) ?_
          rw [nI_s k]
          first | (rw [ev_go_s _ _ m k D zs ts h1 h2 h3 (if_neg h142), show nI zs + 0 = nI (zs + 0) from nI_add zs 0]; exact ih (k + 1) (c + 1) (F, zs + 0, ts + t) _ _ _ _ (by omega) hwF (by omega)) | (rw [ev_go_s _ _ m k D zs ts h1 h2 h3 (if_pos h142), nI_s zs]; exact ih (k + 1) (c + 1) (F, zs + 1, ts + t) _ _ _ _ (by omega) hwF (by omega))
        · refine rr_iconst (v := 1) dX5_evening_145 (by decide) ?_
          refine rr_goto 150 dX5_evening_146 (by decide) ?_
          refine rr_iadd dX5_evening_150 ?_
          refine rr_istore_4 dX5_evening_151 rfl ?_
          refine rr_iinc_6 1 dX5_evening_153 (by decide) rfl ?_
          refine rr_goto 51 dX5_evening_156 (by decide) ?_
          rw [nI_s k]
          first | (rw [ev_go_s _ _ m k D zs ts h1 h2 h3 (if_neg h142), show nI zs + 0 = nI (zs + 0) from nI_add zs 0]; exact ih (k + 1) (c + 1) (F, zs + 0, ts + t) _ _ _ _ (by omega) hwF (by omega)) | (rw [ev_go_s _ _ m k D zs ts h1 h2 h3 (if_pos h142), nI_s zs]; exact ih (k + 1) (c + 1) (F, zs + 1, ts + t) _ _ _ _ (by omega) hwF (by omega))
      refine rr_iload_9 dX5_evening_107 ?_
      refine rr_iconst (v := 4) dX5_evening_109 (by decide) ?_
      refine rr_idiv dX5_evening_110 (by decide) ?_
      refine rr_bipush (v := 8) dX5_evening_111 (by decide) ?_
      refine rr_irem dX5_evening_113 (by decide) ?_
      refine rr_if_ne 133 dX5_evening_114 (by decide) (fun h114 => ?_) (fun h114 => ?_)
      · first | (exact t2 _ (by unfold ev_2; rw [if_neg h114]) hwE) | (exact t2 _ (by unfold ev_2; rw [if_pos h114]) (wf_xch02 hwE))
      · refine rr_aloadn_0 dX5_evening_117 ?_
        refine rr_aloadn_0 dX5_evening_118 ?_
        refine rr_getr 37 dX5_evening_119 kf_X5_19 (by omega) rfl rfl rfl ?_
        refine rr_iconst (v := 0) dX5_evening_122 (by decide) ?_
        refine rr_iald (0) dX5_evening_123 (by omega) rfl rfl (by decide) ?_
        rw [g0_ms]
        refine rr_aloadn_0 dX5_evening_124 ?_
        refine rr_getr 37 dX5_evening_125 kf_X5_19 (by omega) rfl rfl rfl ?_
        refine rr_iconst (v := 2) dX5_evening_128 (by decide) ?_
        refine rr_iald (2) dX5_evening_129 (by omega) rfl rfl (by decide) ?_
        rw [g2_ms]
        refine rr_callVvD (c_put02 N _ _ hN (c + 1) E A n1 hwE) km_X5_153 rfl rfl (by omega) rfl (Nat.le_of_ble_eq_true rfl) dX5_evening_130 ?_
        first | (exact t2 _ (by unfold ev_2; rw [if_neg h114]) hwE) | (exact t2 _ (by unfold ev_2; rw [if_pos h114]) (wf_xch02 hwE))
    refine rr_iload_6 dX5_evening_51 ?_
    refine rr_iloadn_2 dX5_evening_53 ?_
    refine rr_icmp_ge 159 dX5_evening_54 (by decide) (fun h54 => absurd ((nI_le8 (by omega) (by omega)).mp h54) (by omega)) (fun h54 => ?_)
    refine rr_ldc2 dX5_evening_57 kc_X5_234 ?_
    refine rr_iloadn_1 dX5_evening_60 ?_
    refine rr_i2l dX5_evening_61 ?_
    refine rr_lmul dX5_evening_62 ?_
    refine rr_ldc2 dX5_evening_63 kc_X5_236 ?_
    refine rr_iload_6 dX5_evening_66 ?_
    refine rr_i2l dX5_evening_68 ?_
    refine rr_lmul dX5_evening_69 ?_
    refine rr_ladd dX5_evening_70 ?_
    refine rr_lconst (v := 1) dX5_evening_71 (by decide) ?_
    refine rr_ladd dX5_evening_72 ?_
    refine rr_lstore_7 dX5_evening_73 rfl ?_
    refine rr_lload_7 dX5_evening_75 ?_
    refine rr_lload_7 dX5_evening_77 ?_
    refine rr_lmul dX5_evening_79 ?_
    refine rr_ldc2 dX5_evening_80 kc_X5_238 ?_
    refine rr_lrem dX5_evening_83 (by decide) ?_
    refine rr_l2i dX5_evening_84 ?_
    rw [show ((7919 * (nI z).toInt64 + 6151 * (nI k).toInt64 + 1) * (7919 * (nI z).toInt64 + 6151 * (nI k).toInt64 + 1) - (7919 * (nI z).toInt64 + 6151 * (nI k).toInt64 + 1) * (7919 * (nI z).toInt64 + 6151 * (nI k).toInt64 + 1) / 65521 * 65521).toInt32 = ev_d (nI z) k from rfl, hd]
    refine rr_istore_9 dX5_evening_85 rfl ?_
    refine rr_aloadn_0 dX5_evening_87 ?_
    refine rr_iload_9 dX5_evening_88 ?_
    refine rr_iconst (v := 4) dX5_evening_90 (by decide) ?_
    refine rr_irem dX5_evening_91 (by decide) ?_
    rcases hst : sd_st D (nI dw - nI dw / 4 * 4) kb with _ | E
    · refine rr_callViD (c_dances_n N _ σ hN c (by omega) D A n0 kb hw hk _ (fg_mod4 hdw) hst) km_X5_144 rfl rfl (by omega) rfl (Nat.le_of_ble_eq_true rfl) dX5_evening_92 ?_
      refine rr_if_ne 107 dX5_evening_95 (by decide) (fun h95 => absurd h95 (by decide)) (fun _ => ?_)
      refine rr_aloadn_0 dX5_evening_98 ?_
      refine rr_iconst (v := 3) dX5_evening_99 (by decide) ?_
      refine rr_callViD (c_dances_s N _ σ hN c (by omega) D A 0 kb hw hk 3 (Or.inr (Or.inr (Or.inr rfl))) hR) km_X5_144 rfl rfl (by omega) rfl (Nat.le_of_ble_eq_true rfl) dX5_evening_100 ?_
      refine rr_pop dX5_evening_103 rfl ?_
      refine rr_iinc_5 1 dX5_evening_104 (by decide) rfl ?_
      rw [nI_s ts]
      exact tail _ 1 _ _ _ (by simp [ev_1, hst]) (by simp [ev_t, hst]) (wf_go hw (by omega) hR)
    · refine rr_callViD (c_dances_s N _ σ hN c (by omega) D A n0 kb hw hk _ (fg_mod4 hdw) hst) km_X5_144 rfl rfl (by omega) rfl (Nat.le_of_ble_eq_true rfl) dX5_evening_92 ?_
      refine rr_if_ne 107 dX5_evening_95 (by decide) (fun _ => ?_) (fun h95 => absurd h95 (by decide))
      exact tail E 0 _ _ _ (by simp [ev_1, hst]) (by simp [ev_t, hst]) (wf_go hw (by omega) hst)
set_option maxHeartbeats 4000000 in
set_option maxRecDepth 100000 in
theorem m_evening_b (N d : Nat) (σ : rd_S) (hN : 49 ≤ N) (z n w : Int32) (h : hp_rg 0 9999 z = false ∨ hp_rg 1 60 n = false ∨ hp_rg 0 2 w = false) : rd_T N (d + 4) yX5_evening cX5_evening 10 (some .int) [.ref 33, .int z, .int n, .int w] σ (rd_is (some (.int (-1))) σ) := by
  refine rd_start RX5 [.ref 33, .int z, .int n, .int w, .retAddr 0, .retAddr 0, .retAddr 0, .retAddr 0, .retAddr 0, .retAddr 0] rfl (by decide +kernel) rfl (Nat.le_of_ble_eq_true rfl) ?_
  refine rr_iloadn_1 dX5_evening_0 ?_
  refine rr_i2l dX5_evening_1 ?_
  refine rr_lconst (v := 0) dX5_evening_2 (by decide) ?_
  refine rr_ldc2 dX5_evening_3 kc_X5_230 ?_
  refine rr_callSiD (c_in N _ _ _ _ _ (0) (9999) rfl rfl) km_X5_62 rfl rfl (Nat.le_of_ble_eq_true rfl) dX5_evening_6 ?_
  refine rr_if_eq 36 dX5_evening_9 (by decide) (fun h9 => ?_) (fun h9 => ?_)
  · refine rr_iconst (v := (-1)) dX5_evening_36 (by decide) ?_
    exact rr_iret dX5_evening_37 ⟨rfl, rfl⟩
  · refine rr_iloadn_2 dX5_evening_12 ?_
    refine rr_i2l dX5_evening_13 ?_
    refine rr_lconst (v := 1) dX5_evening_14 (by decide) ?_
    refine rr_ldc2 dX5_evening_15 kc_X5_232 ?_
    refine rr_callSiD (c_in N _ _ _ _ _ (1) (60) rfl rfl) km_X5_62 rfl rfl (Nat.le_of_ble_eq_true rfl) dX5_evening_18 ?_
    refine rr_if_eq 36 dX5_evening_21 (by decide) (fun h21 => ?_) (fun h21 => ?_)
    · refine rr_iconst (v := (-1)) dX5_evening_36 (by decide) ?_
      exact rr_iret dX5_evening_37 ⟨rfl, rfl⟩
    · refine rr_iloadn_3 dX5_evening_24 ?_
      refine rr_i2l dX5_evening_25 ?_
      refine rr_lconst (v := 0) dX5_evening_26 (by decide) ?_
      refine rr_ldc2 dX5_evening_27 kc_X5_109 ?_
      refine rr_callSiD (c_in N _ _ _ _ _ (0) (2) rfl rfl) km_X5_62 rfl rfl (Nat.le_of_ble_eq_true rfl) dX5_evening_30 ?_
      refine rr_if_ne 38 dX5_evening_33 (by decide) (fun h33 => absurd (by rcases h with h | h | h; { simp [h] at h9 }; { simp [h] at h21 }; { simp [h] }) h33) (fun h33 => ?_)
      refine rr_iconst (v := (-1)) dX5_evening_36 (by decide) ?_
      exact rr_iret dX5_evening_37 ⟨rfl, rfl⟩
set_option maxHeartbeats 4000000 in
set_option maxRecDepth 100000 in
theorem m_evening_s (N d : Nat) (σ : rd_S) (hN : 49 ≤ N) (c : Nat) (hc : c + 100 < 1000000) (D : sd_D) (kb : Int32) (hw : wf c D) (hk : kd_at σ kb) (hD : md_at σ D) (z n : Nat) (hz : z ≤ 9999) (hn : n ≤ 60) (hn1 : 1 ≤ n) (w : Int32) (hq : hp_rg 0 2 w = true) : rd_T N (d + 4) yX5_evening cX5_evening 10 (some .int) [.ref 33, .int (nI z), .int (nI n), .int w] σ (fun r s => r = some (.int ((fun Y : sd_D × Nat × Nat => if w = 0 then nI Y.2.1 else if w = 1 then nI Y.2.2 else sd_who Y.1.1 0) (ev_go kb (nI z) n 0 (D, 0, 0)))) ∧ mq_eq s σ) := by
  refine rd_start RX5 [.ref 33, .int (nI z), .int (nI n), .int w, .retAddr 0, .retAddr 0, .retAddr 0, .retAddr 0, .retAddr 0, .retAddr 0] rfl (by decide +kernel) rfl (Nat.le_of_ble_eq_true rfl) ?_
  have r1 : hp_rg 0 9999 (nI z) = true := by simp only [hp_rg, decide_eq_true_eq, nI_toInt (show z < 2 ^ 31 by omega)]; omega
  have r2 : hp_rg 1 60 (nI n) = true := by simp only [hp_rg, decide_eq_true_eq, nI_toInt (show n < 2 ^ 31 by omega)]; omega
  refine rr_iloadn_1 dX5_evening_0 ?_
  refine rr_i2l dX5_evening_1 ?_
  refine rr_lconst (v := 0) dX5_evening_2 (by decide) ?_
  refine rr_ldc2 dX5_evening_3 kc_X5_230 ?_
  refine rr_callSiD (c_in N _ _ _ _ _ (0) (9999) rfl rfl) km_X5_62 rfl rfl (Nat.le_of_ble_eq_true rfl) dX5_evening_6 ?_
  refine rr_if_eq 36 dX5_evening_9 (by decide) (fun h9 => absurd h9 (by simp [r1])) (fun h9 => ?_)
  refine rr_iloadn_2 dX5_evening_12 ?_
  refine rr_i2l dX5_evening_13 ?_
  refine rr_lconst (v := 1) dX5_evening_14 (by decide) ?_
  refine rr_ldc2 dX5_evening_15 kc_X5_232 ?_
  refine rr_callSiD (c_in N _ _ _ _ _ (1) (60) rfl rfl) km_X5_62 rfl rfl (Nat.le_of_ble_eq_true rfl) dX5_evening_18 ?_
  refine rr_if_eq 36 dX5_evening_21 (by decide) (fun h21 => absurd h21 (by simp [r2])) (fun h21 => ?_)
  refine rr_iloadn_3 dX5_evening_24 ?_
  refine rr_i2l dX5_evening_25 ?_
  refine rr_lconst (v := 0) dX5_evening_26 (by decide) ?_
  refine rr_ldc2 dX5_evening_27 kc_X5_109 ?_
  refine rr_callSiD (c_in N _ _ _ _ _ (0) (2) rfl rfl) km_X5_62 rfl rfl (Nat.le_of_ble_eq_true rfl) dX5_evening_30 ?_
  refine rr_if_ne 38 dX5_evening_33 (by decide) (fun h33 => ?_) (fun h33 => absurd h33 (by simp [hq]))
  refine rr_aloadn_0 dX5_evening_38 ?_
  refine rr_callVvD (c_pa N _ _ hN D hD) km_X5_141 rfl rfl (by omega) rfl (Nat.le_of_ble_eq_true rfl) dX5_evening_39 ?_
  refine rr_iconst (v := 0) dX5_evening_42 (by decide) ?_
  refine rr_istore_4 dX5_evening_43 rfl ?_
  refine rr_iconst (v := 0) dX5_evening_45 (by decide) ?_
  refine rr_istore_5 dX5_evening_46 rfl ?_
  refine rr_iconst (v := 0) dX5_evening_48 (by decide) ?_
  refine rr_istore_6 dX5_evening_49 rfl ?_
  exact lp_mevening N (d + 1) hN σ D hD kb hk w z n hz hn n 0 c (D, 0, 0) _ _ _ _ (by omega) hw (by omega)
