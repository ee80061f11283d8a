/-! ===== the reference: lay ===== -/
set_option maxHeartbeats 4000000 in
set_option maxRecDepth 100000 in
theorem lp_lay (N d : Nat) (hN : 49 ≤ N) (s : rd_S) (mm : Nat) (h16 : s 33 16 = nI mm) (hmm : mm ≤ 12) (z1 : Int32) (Q : Option Value → rd_S → Prop) (K : ∀ z2, rd_W N d RX5 cX5_lay 3 (some .int) 117 [.ref 33, .int z1, z2] [] (cpy s 36 (s 44) 0 mm) Q) : ∀ (m k : Nat), k + m = mm → rd_W N d RX5 cX5_lay 3 (some .int) 91 [.ref 33, .int z1, .int (nI k)] [] (cpy s 36 (s 44) 0 k) Q := by
  intro m
  induction m with
  | zero =>
    intro k hk
    obtain rfl : k = mm := hk
    have g16 : cpy s 36 (s 44) 0 k 33 16 = nI k := by rw [cpy_ne (by decide)]; exact h16
    refine rr_iloadn_2 dX5_lay_91 ?_
    refine rr_aloadn_0 dX5_lay_92 ?_
    refine rr_geti dX5_lay_93 kf_X5_92 (by omega) rfl rfl ?_
    rw [g16]
    refine rr_icmp_ge 117 dX5_lay_96 (by decide) (fun h96 => ?_) (fun h96 => absurd ((nI_lek (by omega) (by omega)).mpr (Nat.le_refl _)) h96)
    exact K _
  | succ m ih =>
    intro k hk
    have g16 : cpy s 36 (s 44) 0 k 33 16 = nI mm := by rw [cpy_ne (by decide)]; exact h16
    refine rr_iloadn_2 dX5_lay_91 ?_
    refine rr_aloadn_0 dX5_lay_92 ?_
    refine rr_geti dX5_lay_93 kf_X5_92 (by omega) rfl rfl ?_
    rw [g16]
    refine rr_icmp_ge 117 dX5_lay_96 (by decide) (fun h96 => absurd ((nI_lek (by omega) (by omega)).mp h96) (by omega)) (fun h96 => ?_)
    refine rr_aloadn_0 dX5_lay_99 ?_
    refine rr_getr 36 dX5_lay_100 kf_X5_16 (by omega) rfl rfl rfl ?_
    refine rr_iloadn_2 dX5_lay_103 ?_
    refine rr_aloadn_0 dX5_lay_104 ?_
    refine rr_getr 44 dX5_lay_105 kf_X5_40 (by omega) rfl rfl rfl ?_
    refine rr_iloadn_2 dX5_lay_108 ?_
    refine rr_iald (k) dX5_lay_109 (by omega) rfl rfl (show k < 12 by omega) ?_
    rw [cpy_ne (by decide)]
    refine rr_iast (k) dX5_lay_110 (by omega) rfl rfl (show k < 12 by omega) ?_
    refine rr_iinc_2 1 dX5_lay_111 (by decide) rfl ?_
    refine rr_goto 91 dX5_lay_114 (by decide) ?_
    rw [nI_s k]
    have e9 := cpy_s s 36 (s 44) 0 k
    rw [Nat.zero_add] at e9
    rw [e9]
    exact ih (k + 1) (by omega)
set_option maxHeartbeats 4000000 in
set_option maxRecDepth 100000 in
theorem m_lay_0 (N d : Nat) (σ : rd_S) (hN : 49 ≤ N) (hn : σ 33 12 = 0) : rd_T N (d + 4) yX5_lay cX5_lay 3 (some .int) [.ref 33] σ (rd_is (some (.int (-2))) σ) := by
  refine rd_start RX5 [.ref 33, .retAddr 0, .retAddr 0] rfl (by decide +kernel) rfl (Nat.le_of_ble_eq_true rfl) ?_
  refine rr_aloadn_0 dX5_lay_0 ?_
  refine rr_geti dX5_lay_1 kf_X5_81 (by omega) rfl rfl ?_
  refine rr_if_eq 14 dX5_lay_4 (by decide) (fun h4 => ?_) (fun h4 => absurd hn h4)
  refine rr_bipush (v := (-2)) dX5_lay_14 (by decide) ?_
  exact rr_iret dX5_lay_16 ⟨rfl, rfl⟩
set_option maxHeartbeats 4000000 in
set_option maxRecDepth 100000 in
theorem m_lay_f (N d : Nat) (σ : rd_S) (hN : 49 ≤ N) (n a : Nat) (hn : tx_at σ n) (h0 : 0 < n) (hr : ps_run (σ 41) n 201 0 ps_0 = .inl a) : rd_T N (d + 4) yX5_lay cX5_lay 3 (some .int) [.ref 33] σ (fun r s => r = some (.int (-2)) ∧ mq_eq s σ) := by
  refine rd_start RX5 [.ref 33, .retAddr 0, .retAddr 0] rfl (by decide +kernel) rfl (Nat.le_of_ble_eq_true rfl) ?_
  have h1 := hn.1
  have h2 := hn.2.1
  have h3 := ps_run_lt hr
  have hF := m_fault N d σ hN n hn
  rw [hr] at hF
  refine rr_aloadn_0 dX5_lay_0 ?_
  refine rr_geti dX5_lay_1 kf_X5_81 (by omega) rfl rfl ?_
  refine rr_if_eq 14 dX5_lay_4 (by decide) (fun h4 => absurd (h1.symm.trans h4) (fun q => absurd ((nI_eq8 (b := 0) (by omega) (by omega)).mp q) (by omega))) (fun h4 => ?_)
  refine rr_aloadn_0 dX5_lay_7 ?_
  refine rr_callVi hF km_X5_101 rfl rfl (by omega) rfl (Nat.le_of_ble_eq_true rfl) dX5_lay_8 (fun r8 s8 q8 => ?_)
  obtain ⟨q1, q2, q3⟩ := q8
  cases q1
  refine rr_if_lt 17 dX5_lay_11 (by decide) (fun h11 => absurd h11 (by show ¬ nI a < 0; rw [Int32.lt_iff_toInt_lt, nI_toInt (by omega)]; show ¬ (a : Int) < 0; omega)) (fun h11 => ?_)
  refine rr_bipush (v := (-2)) dX5_lay_14 (by decide) ?_
  exact rr_iret dX5_lay_16 ⟨rfl, q2⟩
def ly_c (s : rd_S) : rd_S := rd_u2 (rd_u2 (rd_u2 (rd_u2 (rd_u2 (rd_u2 (rd_u2 (rd_u2 s 34 0 (s 42 0)) 35 0 (s 43 0)) 34 1 (s 42 1)) 35 1 (s 43 1)) 34 2 (s 42 2)) 35 2 (s 43 2)) 34 3 (s 42 3)) 35 3 (s 43 3)
theorem ly_off {s : rd_S} {a b : Nat} (h : ¬ ((a = 34 ∨ a = 35) ∧ b < 4)) : ly_c s a b = s a b := by
  unfold ly_c
  rw [u2_off (by omega), u2_off (by omega), u2_off (by omega), u2_off (by omega), u2_off (by omega), u2_off (by omega), u2_off (by omega), u2_off (by omega)]
theorem ly_34 {s : rd_S} {i : Nat} (h : i < 4) : ly_c s 34 i = s 42 i := by
  rcases (show i = 0 ∨ i = 1 ∨ i = 2 ∨ i = 3 by omega) with rfl | rfl | rfl | rfl <;> simp [ly_c, rd_u2]
theorem ly_35 {s : rd_S} {i : Nat} (h : i < 4) : ly_c s 35 i = s 43 i := by
  rcases (show i = 0 ∨ i = 1 ∨ i = 2 ∨ i = 3 by omega) with rfl | rfl | rfl | rfl <;> simp [ly_c, rd_u2]
def ly_post (u σ : rd_S) (Y : ps_X) : Prop := kd_at u Y.2.1 ∧ rw_at u Y.2.2.1 Y.1 ∧ md_at u (sd_begin (ps_ord Y.2.2.2)) ∧ u 33 6 = 0 ∧ u 33 8 = 0 ∧ u 33 10 = 0 ∧ u 33 12 = σ 33 12 ∧ u 41 = σ 41 ∧ ∀ a b, a < 33 → u a b = σ a b
theorem ly_fin {s σ : rd_S} {Y : ps_X} (hm : mq_eq s σ) (hp : pm_at s Y) : ly_post (rd_u2 (rd_u2 (rd_u2 (mr (rd_u2 (cpy (ly_c s) 36 (ly_c s 44) 0 Y.1) 33 3 (nI Y.1)) (sd_begin (ps_ord Y.2.2.2))) 33 6 0) 33 8 0) 33 10 0) σ Y := by
  obtain ⟨a1, a2, a3, a4, a5, a6⟩ := hp
  refine ⟨fun i hi => ?_, ⟨?_, a2, fun k hk => ?_⟩, fun k hk => ?_, ?_, ?_, ?_, ?_, ?_, fun a b hab => ?_⟩
  · rw [u2_off (by omega), u2_off (by omega), u2_off (by omega), mr_off (by omega), u2_off (by omega), cpy_ne (by decide), ly_34 hi, a3 i hi]
  · rw [u2_off (by omega), u2_off (by omega), u2_off (by omega), mr_off (by omega), u2_at]
  · have e := cpy_in (τ := ly_c s) (d := 36) (f := ly_c s 44) (o := 0) (k := Y.1) (b := k) hk
    rw [Nat.zero_add] at e
    rw [u2_off (by omega), u2_off (by omega), u2_off (by omega), mr_off (by omega), u2_off (by omega), e, ly_off (by omega), a5 k hk]
  · rw [u2_off (by omega), u2_off (by omega), u2_off (by omega), mr_st hk]
  · rw [u2_off (by omega), u2_off (by omega), u2_at]
  · rw [u2_off (by omega), u2_at]
  · rw [u2_at]
  · rw [u2_off (by omega), u2_off (by omega), u2_off (by omega), mr_off (by omega), u2_off (by omega), cpy_ne (by decide), ly_off (by omega)]; exact hm 33 12 (by omega)
  · funext b
    rw [u2_off (by omega), u2_off (by omega), u2_off (by omega), mr_off (by omega), u2_off (by omega), cpy_ne (by decide), ly_off (by omega)]; exact hm 41 b (by omega)
  · rw [u2_off (by omega), u2_off (by omega), u2_off (by omega), mr_off (by omega), u2_off (by omega), cpy_ne (by omega), ly_off (by omega)]; exact hm a b (by omega)
theorem ly_tab : ∀ P, P < 256 → ps_tak (nI P) = 15 → bq_d (wh P 0) (wh P 1) (wh P 2) (wh P 3) = true := by decide +kernel
theorem ly_P {P : Nat} (h : P < 256) : bq_P (wh P 0) (wh P 1) (wh P 2) (wh P 3) = P := by
  unfold bq_P wh
  simp only [Nat.reducePow]
  omega
set_option maxHeartbeats 4000000 in
set_option maxRecDepth 100000 in
theorem m_lay_t (N d : Nat) (σ : rd_S) (hN : 49 ≤ N) (n : Nat) (Y : ps_X) (hn : tx_at σ n) (h0 : 0 < n) (hr : ps_run (σ 41) n 201 0 ps_0 = .inr Y) (ht : ¬ ps_tak Y.2.2.2 = 15) : rd_T N (d + 4) yX5_lay cX5_lay 3 (some .int) [.ref 33] σ (fun r s => r = some (.int (-2)) ∧ mq_eq s σ) := by
  refine rd_start RX5 [.ref 33, .retAddr 0, .retAddr 0] rfl (by decide +kernel) rfl (Nat.le_of_ble_eq_true rfl) ?_
  have h1 := hn.1
  have h2 := hn.2.1
  have hF := m_fault N d σ hN n hn
  rw [hr] at hF
  refine rr_aloadn_0 dX5_lay_0 ?_
  refine rr_geti dX5_lay_1 kf_X5_81 (by omega) rfl rfl ?_
  refine rr_if_eq 14 dX5_lay_4 (by decide) (fun h4 => absurd (h1.symm.trans h4) (fun q => absurd ((nI_eq8 (b := 0) (by omega) (by omega)).mp q) (by omega))) (fun h4 => ?_)
  refine rr_aloadn_0 dX5_lay_7 ?_
  refine rr_callVi hF km_X5_101 rfl rfl (by omega) rfl (Nat.le_of_ble_eq_true rfl) dX5_lay_8 (fun r8 s8 q8 => ?_)
  obtain ⟨q1, q2, q3⟩ := q8
  cases q1
  have hp := q3 Y rfl
  have e0 : s8 43 0 = sd_who Y.2.2.2 0 := hp.2.2.2.1 0 (by decide)
  have e1 : s8 43 1 = sd_who Y.2.2.2 1 := hp.2.2.2.1 1 (by decide)
  have e2 : s8 43 2 = sd_who Y.2.2.2 2 := hp.2.2.2.1 2 (by decide)
  have e3 : s8 43 3 = sd_who Y.2.2.2 3 := hp.2.2.2.1 3 (by decide)
  refine rr_if_lt 17 dX5_lay_11 (by decide) (fun h11 => ?_) (fun h11 => absurd fg_neg h11)
  refine rr_iconst (v := 0) dX5_lay_17 (by decide) ?_
  refine rr_istoren_1 dX5_lay_18 rfl ?_
  refine rr_iconst (v := 0) dX5_lay_19 (by decide) ?_
  refine rr_istoren_2 dX5_lay_20 rfl ?_
  refine rr_iloadn_2 dX5_lay_21 ?_
  refine rr_iconst (v := 4) dX5_lay_22 (by decide) ?_
  refine rr_icmp_ge 43 dX5_lay_23 (by decide) (fun h23 => absurd h23 (by decide)) (fun _ => ?_)
  refine rr_iloadn_1 dX5_lay_26 ?_
  refine rr_iconst (v := 1) dX5_lay_27 (by decide) ?_
  refine rr_aloadn_0 dX5_lay_28 ?_
  refine rr_getr 43 dX5_lay_29 kf_X5_37 (by omega) rfl rfl rfl ?_
  refine rr_iloadn_2 dX5_lay_32 ?_
  refine rr_iald (0) dX5_lay_33 (by omega) rfl rfl (by decide) ?_
  first | rw [e0] | rw [e1] | rw [e2] | rw [e3]
  refine rr_ishl dX5_lay_34 ?_
  refine rr_ior dX5_lay_35 ?_
  refine rr_istoren_1 dX5_lay_36 rfl ?_
  refine rr_iincC_2 1 1 dX5_lay_37 (by decide) (by decide) rfl ?_
  refine rr_goto 21 dX5_lay_40 (by decide) ?_
  refine rr_iloadn_2 dX5_lay_21 ?_
  refine rr_iconst (v := 4) dX5_lay_22 (by decide) ?_
  refine rr_icmp_ge 43 dX5_lay_23 (by decide) (fun h23_1 => absurd h23_1 (by decide)) (fun _ => ?_)
  refine rr_iloadn_1 dX5_lay_26 ?_
  refine rr_iconst (v := 1) dX5_lay_27 (by decide) ?_
  refine rr_aloadn_0 dX5_lay_28 ?_
  refine rr_getr 43 dX5_lay_29 kf_X5_37 (by omega) rfl rfl rfl ?_
  refine rr_iloadn_2 dX5_lay_32 ?_
  refine rr_iald (1) dX5_lay_33 (by omega) rfl rfl (by decide) ?_
  first | rw [e0] | rw [e1] | rw [e2] | rw [e3]
  refine rr_ishl dX5_lay_34 ?_
  refine rr_ior dX5_lay_35 ?_
  refine rr_istoren_1 dX5_lay_36 rfl ?_
  refine rr_iincC_2 1 2 dX5_lay_37 (by decide) (by decide) rfl ?_
  refine rr_goto 21 dX5_lay_40 (by decide) ?_
  refine rr_iloadn_2 dX5_lay_21 ?_
  refine rr_iconst (v := 4) dX5_lay_22 (by decide) ?_
  refine rr_icmp_ge 43 dX5_lay_23 (by decide) (fun h23_2 => absurd h23_2 (by decide)) (fun _ => ?_)
  refine rr_iloadn_1 dX5_lay_26 ?_
  refine rr_iconst (v := 1) dX5_lay_27 (by decide) ?_
  refine rr_aloadn_0 dX5_lay_28 ?_
  refine rr_getr 43 dX5_lay_29 kf_X5_37 (by omega) rfl rfl rfl ?_
  refine rr_iloadn_2 dX5_lay_32 ?_
  refine rr_iald (2) dX5_lay_33 (by omega) rfl rfl (by decide) ?_
  first | rw [e0] | rw [e1] | rw [e2] | rw [e3]
  refine rr_ishl dX5_lay_34 ?_
  refine rr_ior dX5_lay_35 ?_
  refine rr_istoren_1 dX5_lay_36 rfl ?_
  refine rr_iincC_2 1 3 dX5_lay_37 (by decide) (by decide) rfl ?_
  refine rr_goto 21 dX5_lay_40 (by decide) ?_
  refine rr_iloadn_2 dX5_lay_21 ?_
  refine rr_iconst (v := 4) dX5_lay_22 (by decide) ?_
  refine rr_icmp_ge 43 dX5_lay_23 (by decide) (fun h23_3 => absurd h23_3 (by decide)) (fun _ => ?_)
  refine rr_iloadn_1 dX5_lay_26 ?_
  refine rr_iconst (v := 1) dX5_lay_27 (by decide) ?_
  refine rr_aloadn_0 dX5_lay_28 ?_
  refine rr_getr 43 dX5_lay_29 kf_X5_37 (by omega) rfl rfl rfl ?_
  refine rr_iloadn_2 dX5_lay_32 ?_
  refine rr_iald (3) dX5_lay_33 (by omega) rfl rfl (by decide) ?_
  first | rw [e0] | rw [e1] | rw [e2] | rw [e3]
  refine rr_ishl dX5_lay_34 ?_
  refine rr_ior dX5_lay_35 ?_
  refine rr_istoren_1 dX5_lay_36 rfl ?_
  refine rr_iincC_2 1 4 dX5_lay_37 (by decide) (by decide) rfl ?_
  refine rr_goto 21 dX5_lay_40 (by decide) ?_
  refine rr_iloadn_2 dX5_lay_21 ?_
  refine rr_iconst (v := 4) dX5_lay_22 (by decide) ?_
  refine rr_icmp_ge 43 dX5_lay_23 (by decide) (fun _ => ?_) (fun h23_4 => absurd h23_4 (by decide))
  refine rr_iloadn_1 dX5_lay_43 ?_
  refine rr_bipush (v := 15) dX5_lay_44 (by decide) ?_
  refine rr_icmp_eq 52 dX5_lay_46 (by decide) (fun h46 => absurd h46 ht) (fun h46 => ?_)
  refine rr_bipush (v := (-2)) dX5_lay_49 (by decide) ?_
  exact rr_iret dX5_lay_51 ⟨rfl, q2⟩
set_option maxHeartbeats 4000000 in
set_option maxRecDepth 100000 in
theorem m_lay_s (N d : Nat) (σ : rd_S) (hN : 49 ≤ N) (n : Nat) (Y : ps_X) (hn : tx_at σ n) (h0 : 0 < n) (hr : ps_run (σ 41) n 201 0 ps_0 = .inr Y) (ht : ps_tak Y.2.2.2 = 15) : rd_T N (d + 4) yX5_lay cX5_lay 3 (some .int) [.ref 33] σ (fun r s => r = some (.int (nI Y.1)) ∧ ly_post s σ Y) := by
  refine rd_start RX5 [.ref 33, .retAddr 0, .retAddr 0] rfl (by decide +kernel) rfl (Nat.le_of_ble_eq_true rfl) ?_
  have h1 := hn.1
  have h2 := hn.2.1
  have hF := m_fault N d σ hN n hn
  rw [hr] at hF
  refine rr_aloadn_0 dX5_lay_0 ?_
  refine rr_geti dX5_lay_1 kf_X5_81 (by omega) rfl rfl ?_
  refine rr_if_eq 14 dX5_lay_4 (by decide) (fun h4 => absurd (h1.symm.trans h4) (fun q => absurd ((nI_eq8 (b := 0) (by omega) (by omega)).mp q) (by omega))) (fun h4 => ?_)
  refine rr_aloadn_0 dX5_lay_7 ?_
  refine rr_callVi hF km_X5_101 rfl rfl (by omega) rfl (Nat.le_of_ble_eq_true rfl) dX5_lay_8 (fun r8 s8 q8 => ?_)
  obtain ⟨q1, q2, q3⟩ := q8
  cases q1
  have hp := q3 Y rfl
  have e0 : s8 43 0 = sd_who Y.2.2.2 0 := hp.2.2.2.1 0 (by decide)
  have e1 : s8 43 1 = sd_who Y.2.2.2 1 := hp.2.2.2.1 1 (by decide)
  have e2 : s8 43 2 = sd_who Y.2.2.2 2 := hp.2.2.2.1 2 (by decide)
  have e3 : s8 43 3 = sd_who Y.2.2.2 3 := hp.2.2.2.1 3 (by decide)
  refine rr_if_lt 17 dX5_lay_11 (by decide) (fun h11 => ?_) (fun h11 => absurd fg_neg h11)
  refine rr_iconst (v := 0) dX5_lay_17 (by decide) ?_
  refine rr_istoren_1 dX5_lay_18 rfl ?_
  refine rr_iconst (v := 0) dX5_lay_19 (by decide) ?_
  refine rr_istoren_2 dX5_lay_20 rfl ?_
  refine rr_iloadn_2 dX5_lay_21 ?_
  refine rr_iconst (v := 4) dX5_lay_22 (by decide) ?_
  refine rr_icmp_ge 43 dX5_lay_23 (by decide) (fun h23 => absurd h23 (by decide)) (fun _ => ?_)
  refine rr_iloadn_1 dX5_lay_26 ?_
  refine rr_iconst (v := 1) dX5_lay_27 (by decide) ?_
  refine rr_aloadn_0 dX5_lay_28 ?_
  refine rr_getr 43 dX5_lay_29 kf_X5_37 (by omega) rfl rfl rfl ?_
  refine rr_iloadn_2 dX5_lay_32 ?_
  refine rr_iald (0) dX5_lay_33 (by omega) rfl rfl (by decide) ?_
  first | rw [e0] | rw [e1] | rw [e2] | rw [e3]
  refine rr_ishl dX5_lay_34 ?_
  refine rr_ior dX5_lay_35 ?_
  refine rr_istoren_1 dX5_lay_36 rfl ?_
  refine rr_iincC_2 1 1 dX5_lay_37 (by decide) (by decide) rfl ?_
  refine rr_goto 21 dX5_lay_40 (by decide) ?_
  refine rr_iloadn_2 dX5_lay_21 ?_
  refine rr_iconst (v := 4) dX5_lay_22 (by decide) ?_
  refine rr_icmp_ge 43 dX5_lay_23 (by decide) (fun h23_1 => absurd h23_1 (by decide)) (fun _ => ?_)
  refine rr_iloadn_1 dX5_lay_26 ?_
  refine rr_iconst (v := 1) dX5_lay_27 (by decide) ?_
  refine rr_aloadn_0 dX5_lay_28 ?_
  refine rr_getr 43 dX5_lay_29 kf_X5_37 (by omega) rfl rfl rfl ?_
  refine rr_iloadn_2 dX5_lay_32 ?_
  refine rr_iald (1) dX5_lay_33 (by omega) rfl rfl (by decide) ?_
  first | rw [e0] | rw [e1] | rw [e2] | rw [e3]
  refine rr_ishl dX5_lay_34 ?_
  refine rr_ior dX5_lay_35 ?_
  refine rr_istoren_1 dX5_lay_36 rfl ?_
  refine rr_iincC_2 1 2 dX5_lay_37 (by decide) (by decide) rfl ?_
  refine rr_goto 21 dX5_lay_40 (by decide) ?_
  refine rr_iloadn_2 dX5_lay_21 ?_
  refine rr_iconst (v := 4) dX5_lay_22 (by decide) ?_
  refine rr_icmp_ge 43 dX5_lay_23 (by decide) (fun h23_2 => absurd h23_2 (by decide)) (fun _ => ?_)
  refine rr_iloadn_1 dX5_lay_26 ?_
  refine rr_iconst (v := 1) dX5_lay_27 (by decide) ?_
  refine rr_aloadn_0 dX5_lay_28 ?_
  refine rr_getr 43 dX5_lay_29 kf_X5_37 (by omega) rfl rfl rfl ?_
  refine rr_iloadn_2 dX5_lay_32 ?_
  refine rr_iald (2) dX5_lay_33 (by omega) rfl rfl (by decide) ?_
  first | rw [e0] | rw [e1] | rw [e2] | rw [e3]
  refine rr_ishl dX5_lay_34 ?_
  refine rr_ior dX5_lay_35 ?_
  refine rr_istoren_1 dX5_lay_36 rfl ?_
  refine rr_iincC_2 1 3 dX5_lay_37 (by decide) (by decide) rfl ?_
  refine rr_goto 21 dX5_lay_40 (by decide) ?_
  refine rr_iloadn_2 dX5_lay_21 ?_
  refine rr_iconst (v := 4) dX5_lay_22 (by decide) ?_
  refine rr_icmp_ge 43 dX5_lay_23 (by decide) (fun h23_3 => absurd h23_3 (by decide)) (fun _ => ?_)
  refine rr_iloadn_1 dX5_lay_26 ?_
  refine rr_iconst (v := 1) dX5_lay_27 (by decide) ?_
  refine rr_aloadn_0 dX5_lay_28 ?_
  refine rr_getr 43 dX5_lay_29 kf_X5_37 (by omega) rfl rfl rfl ?_
  refine rr_iloadn_2 dX5_lay_32 ?_
  refine rr_iald (3) dX5_lay_33 (by omega) rfl rfl (by decide) ?_
  first | rw [e0] | rw [e1] | rw [e2] | rw [e3]
  refine rr_ishl dX5_lay_34 ?_
  refine rr_ior dX5_lay_35 ?_
  refine rr_istoren_1 dX5_lay_36 rfl ?_
  refine rr_iincC_2 1 4 dX5_lay_37 (by decide) (by decide) rfl ?_
  refine rr_goto 21 dX5_lay_40 (by decide) ?_
  refine rr_iloadn_2 dX5_lay_21 ?_
  refine rr_iconst (v := 4) dX5_lay_22 (by decide) ?_
  refine rr_icmp_ge 43 dX5_lay_23 (by decide) (fun _ => ?_) (fun h23_4 => absurd h23_4 (by decide))
  refine rr_iloadn_1 dX5_lay_43 ?_
  refine rr_bipush (v := 15) dX5_lay_44 (by decide) ?_
  refine rr_icmp_eq 52 dX5_lay_46 (by decide) (fun h46 => ?_) (fun h46 => absurd ht h46)
  refine rr_iconst (v := 0) dX5_lay_52 (by decide) ?_
  refine rr_istoren_2 dX5_lay_53 rfl ?_
  refine rr_iloadn_2 dX5_lay_54 ?_
  refine rr_iconst (v := 4) dX5_lay_55 (by decide) ?_
  refine rr_icmp_ge 89 dX5_lay_56 (by decide) (fun h56 => absurd h56 (by decide)) (fun _ => ?_)
  refine rr_aloadn_0 dX5_lay_59 ?_
  refine rr_getr 34 dX5_lay_60 kf_X5_7 (by omega) rfl rfl rfl ?_
  refine rr_iloadn_2 dX5_lay_63 ?_
  refine rr_aloadn_0 dX5_lay_64 ?_
  refine rr_getr 42 dX5_lay_65 kf_X5_34 (by omega) rfl rfl rfl ?_
  refine rr_iloadn_2 dX5_lay_68 ?_
  refine rr_iald (0) dX5_lay_69 (by omega) rfl rfl (by decide) ?_
  repeat rw [u2_off (by decide)]
  refine rr_iast (0) dX5_lay_70 (by omega) rfl rfl (by decide) ?_
  refine rr_aloadn_0 dX5_lay_71 ?_
  refine rr_getr 35 dX5_lay_72 kf_X5_13 (by omega) rfl rfl rfl ?_
  refine rr_iloadn_2 dX5_lay_75 ?_
  refine rr_aloadn_0 dX5_lay_76 ?_
  refine rr_getr 43 dX5_lay_77 kf_X5_37 (by omega) rfl rfl rfl ?_
  refine rr_iloadn_2 dX5_lay_80 ?_
  refine rr_iald (0) dX5_lay_81 (by omega) rfl rfl (by decide) ?_
  repeat rw [u2_off (by decide)]
  refine rr_iast (0) dX5_lay_82 (by omega) rfl rfl (by decide) ?_
  refine rr_iincC_2 1 1 dX5_lay_83 (by decide) (by decide) rfl ?_
  refine rr_goto 54 dX5_lay_86 (by decide) ?_
  refine rr_iloadn_2 dX5_lay_54 ?_
  refine rr_iconst (v := 4) dX5_lay_55 (by decide) ?_
  refine rr_icmp_ge 89 dX5_lay_56 (by decide) (fun h56_1 => absurd h56_1 (by decide)) (fun _ => ?_)
  refine rr_aloadn_0 dX5_lay_59 ?_
  refine rr_getr 34 dX5_lay_60 kf_X5_7 (by omega) rfl rfl rfl ?_
  refine rr_iloadn_2 dX5_lay_63 ?_
  refine rr_aloadn_0 dX5_lay_64 ?_
  refine rr_getr 42 dX5_lay_65 kf_X5_34 (by omega) rfl rfl rfl ?_
  refine rr_iloadn_2 dX5_lay_68 ?_
  refine rr_iald (1) dX5_lay_69 (by omega) rfl rfl (by decide) ?_
  repeat rw [u2_off (by decide)]
  refine rr_iast (1) dX5_lay_70 (by omega) rfl rfl (by decide) ?_
  refine rr_aloadn_0 dX5_lay_71 ?_
  refine rr_getr 35 dX5_lay_72 kf_X5_13 (by omega) rfl rfl rfl ?_
  refine rr_iloadn_2 dX5_lay_75 ?_
  refine rr_aloadn_0 dX5_lay_76 ?_
  refine rr_getr 43 dX5_lay_77 kf_X5_37 (by omega) rfl rfl rfl ?_
  refine rr_iloadn_2 dX5_lay_80 ?_
  refine rr_iald (1) dX5_lay_81 (by omega) rfl rfl (by decide) ?_
  repeat rw [u2_off (by decide)]
  refine rr_iast (1) dX5_lay_82 (by omega) rfl rfl (by decide) ?_
  refine rr_iincC_2 1 2 dX5_lay_83 (by decide) (by decide) rfl ?_
  refine rr_goto 54 dX5_lay_86 (by decide) ?_
  refine rr_iloadn_2 dX5_lay_54 ?_
  refine rr_iconst (v := 4) dX5_lay_55 (by decide) ?_
  refine rr_icmp_ge 89 dX5_lay_56 (by decide) (fun h56_2 => absurd h56_2 (by decide)) (fun _ => ?_)
  refine rr_aloadn_0 dX5_lay_59 ?_
  refine rr_getr 34 dX5_lay_60 kf_X5_7 (by omega) rfl rfl rfl ?_
  refine rr_iloadn_2 dX5_lay_63 ?_
  refine rr_aloadn_0 dX5_lay_64 ?_
  refine rr_getr 42 dX5_lay_65 kf_X5_34 (by omega) rfl rfl rfl ?_
  refine rr_iloadn_2 dX5_lay_68 ?_
  refine rr_iald (2) dX5_lay_69 (by omega) rfl rfl (by decide) ?_
  repeat rw [u2_off (by decide)]
  refine rr_iast (2) dX5_lay_70 (by omega) rfl rfl (by decide) ?_
  refine rr_aloadn_0 dX5_lay_71 ?_
  refine rr_getr 35 dX5_lay_72 kf_X5_13 (by omega) rfl rfl rfl ?_
  refine rr_iloadn_2 dX5_lay_75 ?_
  refine rr_aloadn_0 dX5_lay_76 ?_
  refine rr_getr 43 dX5_lay_77 kf_X5_37 (by omega) rfl rfl rfl ?_
  refine rr_iloadn_2 dX5_lay_80 ?_
  refine rr_iald (2) dX5_lay_81 (by omega) rfl rfl (by decide) ?_
  repeat rw [u2_off (by decide)]
  refine rr_iast (2) dX5_lay_82 (by omega) rfl rfl (by decide) ?_
  refine rr_iincC_2 1 3 dX5_lay_83 (by decide) (by decide) rfl ?_
  refine rr_goto 54 dX5_lay_86 (by decide) ?_
  refine rr_iloadn_2 dX5_lay_54 ?_
  refine rr_iconst (v := 4) dX5_lay_55 (by decide) ?_
  refine rr_icmp_ge 89 dX5_lay_56 (by decide) (fun h56_3 => absurd h56_3 (by decide)) (fun _ => ?_)
  refine rr_aloadn_0 dX5_lay_59 ?_
  refine rr_getr 34 dX5_lay_60 kf_X5_7 (by omega) rfl rfl rfl ?_
  refine rr_iloadn_2 dX5_lay_63 ?_
  refine rr_aloadn_0 dX5_lay_64 ?_
  refine rr_getr 42 dX5_lay_65 kf_X5_34 (by omega) rfl rfl rfl ?_
  refine rr_iloadn_2 dX5_lay_68 ?_
  refine rr_iald (3) dX5_lay_69 (by omega) rfl rfl (by decide) ?_
  repeat rw [u2_off (by decide)]
  refine rr_iast (3) dX5_lay_70 (by omega) rfl rfl (by decide) ?_
  refine rr_aloadn_0 dX5_lay_71 ?_
  refine rr_getr 35 dX5_lay_72 kf_X5_13 (by omega) rfl rfl rfl ?_
  refine rr_iloadn_2 dX5_lay_75 ?_
  refine rr_aloadn_0 dX5_lay_76 ?_
  refine rr_getr 43 dX5_lay_77 kf_X5_37 (by omega) rfl rfl rfl ?_
  refine rr_iloadn_2 dX5_lay_80 ?_
  refine rr_iald (3) dX5_lay_81 (by omega) rfl rfl (by decide) ?_
  repeat rw [u2_off (by decide)]
  refine rr_iast (3) dX5_lay_82 (by omega) rfl rfl (by decide) ?_
  refine rr_iincC_2 1 4 dX5_lay_83 (by decide) (by decide) rfl ?_
  refine rr_goto 54 dX5_lay_86 (by decide) ?_
  refine rr_iloadn_2 dX5_lay_54 ?_
  refine rr_iconst (v := 4) dX5_lay_55 (by decide) ?_
  refine rr_icmp_ge 89 dX5_lay_56 (by decide) (fun _ => ?_) (fun h56_4 => absurd h56_4 (by decide))
  refine rr_iconst (v := 0) dX5_lay_89 (by decide) ?_
  refine rr_istoren_2 dX5_lay_90 rfl ?_
  have g16 : ly_c s8 33 16 = nI Y.1 := by rw [ly_off (by omega)]; exact hp.1
  refine rd_sub (cpy_0 (ly_c s8) 36 (ly_c s8 44) 0).symm (lp_lay N _ hN (ly_c s8) Y.1 g16 hp.2.1 _ _ (fun z2 => ?_) Y.1 0 (by omega))
  have k16 : cpy (ly_c s8) 36 (ly_c s8 44) 0 Y.1 33 16 = nI Y.1 := by rw [cpy_ne (by decide)]; exact g16
  obtain ⟨P, hP, hYP⟩ := hp.2.2.2.2.2.2.1
  have hdd := ly_tab P hP (by rw [← hYP]; exact ht)
  have hw4 : ∀ k, wh P k < 4 := fun k => Nat.mod_lt _ (by decide)
  have e35 : ∀ i, i < 4 → rd_u2 (cpy (ly_c s8) 36 (ly_c s8 44) 0 Y.1) 33 3 (nI Y.1) 35 i = nI (wh P i) := fun i hi => by rw [u2_off (by omega), cpy_ne (by decide), ly_35 hi, hp.2.2.2.1 i hi, hYP, wh_ok P hP i hi]
  have hB := c_begin N (d + 3) (rd_u2 (cpy (ly_c s8) 36 (ly_c s8 44) 0 Y.1) 33 3 (nI Y.1)) hN _ _ _ _ (hw4 0) (hw4 1) (hw4 2) (hw4 3) hdd (e35 0 (by decide)) (e35 1 (by decide)) (e35 2 (by decide)) (e35 3 (by decide))
  rw [ly_P hP, ← hYP] at hB
  refine rr_aloadn_0 dX5_lay_117 ?_
  refine rr_aloadn_0 dX5_lay_118 ?_
  refine rr_geti dX5_lay_119 kf_X5_92 (by omega) rfl rfl ?_
  rw [k16]
  refine rr_puti dX5_lay_122 kf_X5_55 if_5_3 (by omega) rfl rfl ?_
  refine rr_aloadn_0 dX5_lay_125 ?_
  refine rr_callVvD hB km_X5_59 rfl rfl (by omega) rfl (Nat.le_of_ble_eq_true rfl) dX5_lay_126 ?_
  refine rr_aloadn_0 dX5_lay_129 ?_
  refine rr_geti dX5_lay_130 kf_X5_55 (by omega) rfl rfl ?_
  exact rr_iret dX5_lay_133 ⟨by rw [u2_off (by omega), u2_off (by omega), u2_off (by omega), mr_off (by omega), u2_at], ly_fin q2 hp⟩
