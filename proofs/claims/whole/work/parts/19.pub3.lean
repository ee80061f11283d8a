/-! ===== RopeDance: the public calls, third part ===== -/
def pw_go (kb : Int32) : Nat → Nat → sd_D → Int32
  | 0, _, _ => -4
  | m + 1, k, D => if D.2.2.1 = 0 then nI k else match sd_st D (if 0 ≤ D.2.2.1 then 2 else 0) kb with
    | none => -4
    | some E => pw_go kb m (k + 1) E
set_option maxHeartbeats 4000000 in
set_option maxRecDepth 100000 in
theorem lp_plain (N d : Nat) (hN : 33 ≤ N) (σ : rd_S) : ∀ (m k : Nat) (D : sd_D), k + m = 61 → rd_W N (d + 3) RX4 cX4_plain 2 (some .int) 13 [.ref 0, .int (nI k)] [] (sd_wr σ 4 D) (fun r s => r = some (.int (pw_go (σ 0 11) m k D)) ∧ cs_eq s σ) := by
  intro m
  induction m with
  | zero =>
    intro k D hk
    obtain rfl : k = 61 := hk
    refine rr_iloadn_1 dX4_plain_13 ?_
    refine rr_bipush (v := 60) dX4_plain_14 (by decide) ?_
    refine rr_icmp_gt 69 dX4_plain_16 (by decide) (fun h16 => ?_) (fun h16 => absurd (by decide) h16)
    refine rr_bipush (v := (-4)) dX4_plain_69 (by decide) ?_
    exact rr_iret dX4_plain_71 ⟨rfl, cs_eq.wr _ _⟩
  | succ m ih =>
    intro k D hk
    have e2 : sd_wr σ 4 D 4 2 = D.2.2.1 := by simp [sd_wr]
    have e11 : sd_wr σ 4 D 0 11 = σ 0 11 := sd_wr_ne D (by decide)
    refine rr_iloadn_1 dX4_plain_13 ?_
    refine rr_bipush (v := 60) dX4_plain_14 (by decide) ?_
    refine rr_icmp_gt 69 dX4_plain_16 (by decide) (fun h16 => absurd ((nI_lt8 (a := 60) (by omega) (by omega)).mp h16) (by omega)) (fun h16 => ?_)
    refine rr_aloadn_0 dX4_plain_19 ?_
    refine rr_getr 4 dX4_plain_20 kf_X4_23 (by omega) rfl rfl rfl ?_
    refine rr_geti dX4_plain_23 kf_X4_114 (by omega) rfl rfl ?_
    rw [e2]
    refine rr_if_ne 31 dX4_plain_26 (by decide) (fun h26 => ?_) (fun h26 => ?_)
    · refine rr_aloadn_0 dX4_plain_31 ?_
      refine rr_getr 4 dX4_plain_32 kf_X4_23 (by omega) rfl rfl rfl ?_
      refine rr_aloadn_0 dX4_plain_35 ?_
      refine rr_getr 4 dX4_plain_36 kf_X4_23 (by omega) rfl rfl rfl ?_
      refine rr_geti dX4_plain_39 kf_X4_114 (by omega) rfl rfl ?_
      rw [e2]
      refine rr_if_geJ 49 50 (2) (0) dX4_plain_42 (by decide) (fun h42 k42 => ?_) (fun h42 k42 => ?_) ?_
      · refine rr_iconst (v := 2) dX4_plain_49 (by decide) ?_
        exact k42
      · refine rr_iconst (v := 0) dX4_plain_45 (by decide) ?_
        refine rr_goto 50 dX4_plain_46 (by decide) ?_
        exact k42
      refine rr_aloadn_0 dX4_plain_50 ?_
      refine rr_geti dX4_plain_51 kf_X4_96 (by omega) rfl rfl ?_
      rw [e11]
      rcases hst : sd_st D (if 0 ≤ D.2.2.1 then 2 else 0) (σ 0 11) with _ | E
      · refine rr_callViD (c_step_n N _ _ _ _ _ (by omega) rfl (by rw [sd_rd_wr]; exact hst)) km_X4_136 rfl rfl (by omega) rfl (Nat.le_of_ble_eq_true rfl) dX4_plain_54 ?_
        refine rr_if_ne 63 dX4_plain_57 (by decide) (fun h57 => absurd h57 (by decide)) (fun _ => ?_)
        refine rr_bipush (v := (-4)) dX4_plain_60 (by decide) ?_
        exact rr_iret dX4_plain_62 ⟨by rw [pw_go, if_neg h26, hst], cs_eq.wr _ _⟩
      · refine rr_callViD (c_step_s N _ _ _ _ _ (by omega) rfl (D' := E) (by rw [sd_rd_wr]; exact hst)) km_X4_136 rfl rfl (by omega) rfl (Nat.le_of_ble_eq_true rfl) dX4_plain_54 ?_
        refine rr_if_ne 63 dX4_plain_57 (by decide) (fun _ => ?_) (fun h57 => absurd h57 (by decide))
        refine rr_iinc_1 1 dX4_plain_63 (by decide) rfl ?_
        refine rr_goto 13 dX4_plain_66 (by decide) ?_
        rw [nI_s k, sd_wr_wr]
        refine (ih (k + 1) E (by omega)).post (fun r u q => ⟨?_, q.2⟩)
        rw [q.1, pw_go, if_neg h26, hst]
    · refine rr_iloadn_1 dX4_plain_29 ?_
      exact rr_iret dX4_plain_30 ⟨by rw [pw_go, if_pos h26], cs_eq.wr _ _⟩
set_option maxHeartbeats 4000000 in
set_option maxRecDepth 100000 in
theorem c_plain_s (N d : Nat) (σ : rd_S) (hN : 33 ≤ N) : rd_T N (d + 3) yX4_plain cX4_plain 2 (some .int) [.ref 0] σ (fun r s => r = some (.int (pw_go (σ 0 11) 61 0 (sd_rd σ 3))) ∧ cs_eq s σ) := by
  refine rd_start RX4 [.ref 0, .retAddr 0] rfl (by decide +kernel) rfl (Nat.le_of_ble_eq_true rfl) ?_
  refine rr_aloadn_0 dX4_plain_0 ?_
  refine rr_getr 4 dX4_plain_1 kf_X4_23 (by omega) rfl rfl rfl ?_
  refine rr_aloadn_0 dX4_plain_4 ?_
  refine rr_getr 3 dX4_plain_5 kf_X4_19 (by omega) rfl rfl rfl ?_
  refine rr_callVvD (c_X3_take N _ _ _ _ (by omega) rfl (by omega) rfl) km_X4_177 rfl rfl (by omega) rfl (Nat.le_of_ble_eq_true rfl) dX4_plain_8 ?_
  refine rr_iconst (v := 0) dX4_plain_11 (by decide) ?_
  refine rr_istoren_1 dX4_plain_12 rfl ?_
  exact lp_plain N d hN σ 61 0 (sd_rd σ 3) rfl
set_option maxHeartbeats 4000000 in
set_option maxRecDepth 100000 in
theorem c_comes_b (N d : Nat) (σ : rd_S) (hN : 33 ≤ N) (w : Int32) (h : hp_rg 0 1 w = false) : rd_T N (d + 4) yX4_comes cX4_comes 2 (some .int) [.ref 0, .int w] σ (rd_is (some (.int (-1))) σ) := by
  refine rd_start RX4 [.ref 0, .int w] rfl (by decide +kernel) rfl (Nat.le_of_ble_eq_true rfl) ?_
  refine rr_iloadn_1 dX4_comes_0 ?_
  refine rr_if_lt 9 dX4_comes_1 (by decide) (fun h1 => ?_) (fun h1 => ?_)
  · refine rr_iconst (v := (-1)) dX4_comes_9 (by decide) ?_
    exact rr_iret dX4_comes_10 ⟨rfl, rfl⟩
  · refine rr_iloadn_1 dX4_comes_4 ?_
    refine rr_iconst (v := 1) dX4_comes_5 (by decide) ?_
    refine rr_icmp_le 11 dX4_comes_6 (by decide) (fun h6 => (by exfalso; simp only [hp_rg, decide_eq_true_eq, decide_eq_false_iff_not, Int32.lt_iff_toInt_lt, Int32.le_iff_toInt_le, hp_m1, hp_m99, hp_l0, hp_l1, hp_l2, hp_l3, hp_l4, hp_l5, hp_l6, hp_l7, hp_l8, hp_l9, hp_l10, hp_l11, hp_l12, hp_l60, hp_l99, hp_l126, hp_l32, hp_l9999] at *; omega)) (fun h6 => ?_)
    refine rr_iconst (v := (-1)) dX4_comes_9 (by decide) ?_
    exact rr_iret dX4_comes_10 ⟨rfl, rfl⟩
set_option maxHeartbeats 4000000 in
set_option maxRecDepth 100000 in
theorem c_comes_s (N d : Nat) (σ : rd_S) (hN : 33 ≤ N) (w : Int32) (h : hp_rg 0 1 w = true) (fc : Nat) (hf : σ 0 13 = nI fc) (hfc : fc ≤ 12) : rd_T N (d + 4) yX4_comes cX4_comes 2 (some .int) [.ref 0, .int w] σ (fun r s => r = some (.int (if w = 0 then (tr_go (σ 0 12) (σ 0 11) (min 12 fc) 0 (sd_rd σ 3)).2.2.2.2.2.2 - σ 3 5 else sd_who (tr_go (σ 0 12) (σ 0 11) (min 12 fc) 0 (sd_rd σ 3)).2.1 0)) ∧ cs_eq s σ) := by
  refine rd_start RX4 [.ref 0, .int w] rfl (by decide +kernel) rfl (Nat.le_of_ble_eq_true rfl) ?_
  refine rr_iloadn_1 dX4_comes_0 ?_
  refine rr_if_lt 9 dX4_comes_1 (by decide) (fun h1 => (by exfalso; simp only [hp_rg, decide_eq_true_eq, decide_eq_false_iff_not, Int32.lt_iff_toInt_lt, Int32.le_iff_toInt_le, hp_m1, hp_m99, hp_l0, hp_l1, hp_l2, hp_l3, hp_l4, hp_l5, hp_l6, hp_l7, hp_l8, hp_l9, hp_l10, hp_l11, hp_l12, hp_l60, hp_l99, hp_l126, hp_l32, hp_l9999] at *; omega)) (fun h1 => ?_)
  refine rr_iloadn_1 dX4_comes_4 ?_
  refine rr_iconst (v := 1) dX4_comes_5 (by decide) ?_
  refine rr_icmp_le 11 dX4_comes_6 (by decide) (fun h6 => ?_) (fun h6 => (by exfalso; simp only [hp_rg, decide_eq_true_eq, decide_eq_false_iff_not, Int32.lt_iff_toInt_lt, Int32.le_iff_toInt_le, hp_m1, hp_m99, hp_l0, hp_l1, hp_l2, hp_l3, hp_l4, hp_l5, hp_l6, hp_l7, hp_l8, hp_l9, hp_l10, hp_l11, hp_l12, hp_l60, hp_l99, hp_l126, hp_l32, hp_l9999] at *; omega))
  refine rr_aloadn_0 dX4_comes_11 ?_
  refine rr_bipush (v := 12) dX4_comes_12 (by decide) ?_
  refine rr_aloadn_0 dX4_comes_14 ?_
  refine rr_geti dX4_comes_15 kf_X4_96 (by omega) rfl rfl ?_
  refine rr_callViD (c_X4_tryRow N _ _ hN 12 fc _ hf (by omega) (by omega)) km_X4_180 rfl rfl (by omega) rfl (Nat.le_of_ble_eq_true rfl) dX4_comes_18 ?_
  refine rr_pop dX4_comes_21 rfl ?_
  refine rr_iloadn_1 dX4_comes_22 ?_
  refine rr_if_ne 44 dX4_comes_23 (by decide) (fun h23 => ?_) (fun h23 => ?_)
  · refine rr_aloadn_0 dX4_comes_44 ?_
    refine rr_getr 4 dX4_comes_45 kf_X4_23 (by omega) rfl rfl rfl ?_
    refine rr_iconst (v := 0) dX4_comes_48 (by decide) ?_
    refine rr_callViD (c_X3_whoAt N _ _ _ _ (by omega) rfl) km_X4_110 rfl rfl (by omega) rfl (Nat.le_of_ble_eq_true rfl) dX4_comes_49 ?_
    exact rr_iret dX4_comes_52 ⟨by first | (rw [if_pos h23]; simp [sd_wr]; done) | (rw [if_neg h23]; simp [sd_wr]; done), cs_eq.wr _ _⟩
  · refine rr_aloadn_0 dX4_comes_26 ?_
    refine rr_getr 4 dX4_comes_27 kf_X4_23 (by omega) rfl rfl rfl ?_
    refine rr_geti dX4_comes_30 kf_X4_183 (by omega) rfl rfl ?_
    refine rr_aloadn_0 dX4_comes_33 ?_
    refine rr_getr 3 dX4_comes_34 kf_X4_19 (by omega) rfl rfl rfl ?_
    refine rr_geti dX4_comes_37 kf_X4_183 (by omega) rfl rfl ?_
    refine rr_isub dX4_comes_40 ?_
    refine rr_goto 52 dX4_comes_41 (by decide) ?_
    exact rr_iret dX4_comes_52 ⟨by first | (rw [if_pos h23]; simp [sd_wr]; done) | (rw [if_neg h23]; simp [sd_wr]; done), cs_eq.wr _ _⟩
set_option maxHeartbeats 4000000 in
set_option maxRecDepth 100000 in
theorem c_behind_b (N d : Nat) (σ : rd_S) (hN : 33 ≤ N) (n w : Int32) (h : hp_rg 0 12 n = false ∨ hp_rg 0 1 w = false) : rd_T N (d + 4) yX4_behind cX4_behind 3 (some .int) [.ref 0, .int n, .int w] σ (rd_is (some (.int (-100000))) σ) := by
  refine rd_start RX4 [.ref 0, .int n, .int w] rfl (by decide +kernel) rfl (Nat.le_of_ble_eq_true rfl) ?_
  refine rr_iloadn_1 dX4_behind_0 ?_
  refine rr_callSiD (c_X4_isRowLength N _ _ _) km_X4_186 rfl rfl (Nat.le_of_ble_eq_true rfl) dX4_behind_1 ?_
  cases hi : hp_rg 0 12 n
  · refine rr_if_eq 16 dX4_behind_4 (by decide) (fun h4 => ?_) (fun h4 => absurd (by simp) h4)
    refine rr_ldc dX4_behind_16 kc_X4_113 ?_
    exact rr_iret dX4_behind_18 ⟨rfl, rfl⟩
  · rw [hi] at h
    have h : hp_rg 0 1 w = false := by simpa using h
    refine rr_if_eq 16 dX4_behind_4 (by decide) (fun h4 => absurd h4 (by simp)) (fun h4 => ?_)
    refine rr_iloadn_2 dX4_behind_7 ?_
    refine rr_if_lt 16 dX4_behind_8 (by decide) (fun h8 => ?_) (fun h8 => ?_)
    · refine rr_ldc dX4_behind_16 kc_X4_113 ?_
      exact rr_iret dX4_behind_18 ⟨rfl, rfl⟩
    · refine rr_iloadn_2 dX4_behind_11 ?_
      refine rr_iconst (v := 1) dX4_behind_12 (by decide) ?_
      refine rr_icmp_le 19 dX4_behind_13 (by decide) (fun h13 => (by exfalso; simp only [hp_rg, decide_eq_true_eq, decide_eq_false_iff_not, Int32.lt_iff_toInt_lt, Int32.le_iff_toInt_le, hp_m1, hp_m99, hp_l0, hp_l1, hp_l2, hp_l3, hp_l4, hp_l5, hp_l6, hp_l7, hp_l8, hp_l9, hp_l10, hp_l11, hp_l12, hp_l60, hp_l99, hp_l126, hp_l32, hp_l9999] at *; omega)) (fun h13 => ?_)
      refine rr_ldc dX4_behind_16 kc_X4_113 ?_
      exact rr_iret dX4_behind_18 ⟨rfl, rfl⟩
theorem hp_12 {n : Nat} (h : n ≤ 12) : hp_rg 0 12 (nI n) = true := by
  simp only [hp_rg, decide_eq_true_eq, nI_toInt (show n < 2 ^ 31 by omega)]
  omega
set_option maxHeartbeats 4000000 in
set_option maxRecDepth 100000 in
theorem c_behind_s (N d : Nat) (σ : rd_S) (hN : 33 ≤ N) (n : Nat) (w : Int32) (hn : n ≤ 12) (h : hp_rg 0 1 w = true) (fc : Nat) (hf : σ 0 13 = nI fc) (hfc : fc ≤ 12) : rd_T N (d + 4) yX4_behind cX4_behind 3 (some .int) [.ref 0, .int (nI n), .int w] σ (fun r s => r = some (.int ((fun q : Bool × sd_D => if q.1 = true then (if w = 0 then q.2.2.2.1 else q.2.2.2.2.1) else -100001) (tr_go (σ 0 12) (σ 0 11) (min n fc) 0 (sd_rd σ 3)))) ∧ cs_eq s σ) := by
  refine rd_start RX4 [.ref 0, .int (nI n), .int w] rfl (by decide +kernel) rfl (Nat.le_of_ble_eq_true rfl) ?_
  have h12 := hp_12 hn
  have hT := c_X4_tryRow N d σ hN n fc (σ 0 11) hf (by omega) (by omega)
  generalize tr_go (σ 0 12) (σ 0 11) (min n fc) 0 (sd_rd σ 3) = q at hT ⊢
  obtain ⟨b, E⟩ := q
  dsimp only at hT ⊢
  refine rr_iloadn_1 dX4_behind_0 ?_
  refine rr_callSiD (c_X4_isRowLength N _ _ _) km_X4_186 rfl rfl (Nat.le_of_ble_eq_true rfl) dX4_behind_1 ?_
  refine rr_if_eq 16 dX4_behind_4 (by decide) (fun h4 => absurd h4 (by simp [h12])) (fun h4 => ?_)
  refine rr_iloadn_2 dX4_behind_7 ?_
  refine rr_if_lt 16 dX4_behind_8 (by decide) (fun h8 => (by exfalso; simp only [hp_rg, decide_eq_true_eq, decide_eq_false_iff_not, Int32.lt_iff_toInt_lt, Int32.le_iff_toInt_le, hp_m1, hp_m99, hp_l0, hp_l1, hp_l2, hp_l3, hp_l4, hp_l5, hp_l6, hp_l7, hp_l8, hp_l9, hp_l10, hp_l11, hp_l12, hp_l60, hp_l99, hp_l126, hp_l32, hp_l9999] at h h8; omega)) (fun h8 => ?_)
  refine rr_iloadn_2 dX4_behind_11 ?_
  refine rr_iconst (v := 1) dX4_behind_12 (by decide) ?_
  refine rr_icmp_le 19 dX4_behind_13 (by decide) (fun h13 => ?_) (fun h13 => (by exfalso; simp only [hp_rg, decide_eq_true_eq, decide_eq_false_iff_not, Int32.lt_iff_toInt_lt, Int32.le_iff_toInt_le, hp_m1, hp_m99, hp_l0, hp_l1, hp_l2, hp_l3, hp_l4, hp_l5, hp_l6, hp_l7, hp_l8, hp_l9, hp_l10, hp_l11, hp_l12, hp_l60, hp_l99, hp_l126, hp_l32, hp_l9999] at h h13; omega))
  refine rr_aloadn_0 dX4_behind_19 ?_
  refine rr_iloadn_1 dX4_behind_20 ?_
  refine rr_aloadn_0 dX4_behind_21 ?_
  refine rr_geti dX4_behind_22 kf_X4_96 (by omega) rfl rfl ?_
  cases b
  · refine rr_callViD hT km_X4_180 rfl rfl (by omega) rfl (Nat.le_of_ble_eq_true rfl) dX4_behind_25 ?_
    refine rr_if_ne 34 dX4_behind_28 (by decide) (fun h28 => absurd (by simp) h28) (fun h28 => ?_)
    refine rr_ldc dX4_behind_31 kc_X4_189 ?_
    exact rr_iret dX4_behind_33 ⟨by simp, cs_eq.wr _ _⟩
  · refine rr_callViD hT km_X4_180 rfl rfl (by omega) rfl (Nat.le_of_ble_eq_true rfl) dX4_behind_25 ?_
    refine rr_if_ne 34 dX4_behind_28 (by decide) (fun h28 => ?_) (fun h28 => absurd h28 (by simp))
    refine rr_iloadn_2 dX4_behind_34 ?_
    refine rr_if_ne 48 dX4_behind_35 (by decide) (fun h35 => ?_) (fun h35 => ?_)
    · refine rr_aloadn_0 dX4_behind_48 ?_
      refine rr_getr 4 dX4_behind_49 kf_X4_23 (by omega) rfl rfl rfl ?_
      refine rr_geti dX4_behind_52 kf_X4_117 (by omega) rfl rfl ?_
      exact rr_iret dX4_behind_55 ⟨by first | (simp [h35, sd_wr]; done), cs_eq.wr _ _⟩
    · refine rr_aloadn_0 dX4_behind_38 ?_
      refine rr_getr 4 dX4_behind_39 kf_X4_23 (by omega) rfl rfl rfl ?_
      refine rr_geti dX4_behind_42 kf_X4_114 (by omega) rfl rfl ?_
      refine rr_goto 55 dX4_behind_45 (by decide) ?_
      exact rr_iret dX4_behind_55 ⟨by first | (simp [h35, sd_wr]; done), cs_eq.wr _ _⟩
set_option maxHeartbeats 4000000 in
set_option maxRecDepth 100000 in
theorem c_see_b (N d : Nat) (σ : rd_S) (hN : 33 ≤ N) (n u l : Int32) (h : hp_rg 0 12 n = false ∨ hp_fr u l = false) : rd_T N (d + 2) yX4_see cX4_see 4 (some .int) [.ref 0, .int n, .int u, .int l] σ (rd_is (some (.int (-1))) σ) := by
  refine rd_start RX4 [.ref 0, .int n, .int u, .int l] rfl (by decide +kernel) rfl (Nat.le_of_ble_eq_true rfl) ?_
  refine rr_iloadn_1 dX4_see_0 ?_
  refine rr_callSiD (c_X4_isRowLength N _ _ _) km_X4_186 rfl rfl (Nat.le_of_ble_eq_true rfl) dX4_see_1 ?_
  refine rr_if_eq 15 dX4_see_4 (by decide) (fun h4 => ?_) (fun h4 => ?_)
  · refine rr_iconst (v := (-1)) dX4_see_15 (by decide) ?_
    exact rr_iret dX4_see_16 ⟨rfl, rfl⟩
  · refine rr_iloadn_2 dX4_see_7 ?_
    refine rr_iloadn_3 dX4_see_8 ?_
    refine rr_callSiD (c_X4_isFraction N _ _ _ _) km_X4_163 rfl rfl (Nat.le_of_ble_eq_true rfl) dX4_see_9 ?_
    refine rr_if_ne 17 dX4_see_12 (by decide) (fun h12 => absurd (by rcases h with h | h; { simp [h] at h4 }; { simp [h] }) h12) (fun h12 => ?_)
    refine rr_iconst (v := (-1)) dX4_see_15 (by decide) ?_
    exact rr_iret dX4_see_16 ⟨rfl, rfl⟩
set_option maxHeartbeats 4000000 in
set_option maxRecDepth 100000 in
theorem c_see_f (N d : Nat) (σ : rd_S) (hN : 33 ≤ N) (n u l : Int32) (h1 : hp_rg 0 12 n = true) (h2 : hp_fr u l = true) (hs : σ 0 10 = nI 6) : rd_T N (d + 2) yX4_see cX4_see 4 (some .int) [.ref 0, .int n, .int u, .int l] σ (rd_is (some (.int (-3))) σ) := by
  refine rd_start RX4 [.ref 0, .int n, .int u, .int l] rfl (by decide +kernel) rfl (Nat.le_of_ble_eq_true rfl) ?_
  refine rr_iloadn_1 dX4_see_0 ?_
  refine rr_callSiD (c_X4_isRowLength N _ _ _) km_X4_186 rfl rfl (Nat.le_of_ble_eq_true rfl) dX4_see_1 ?_
  refine rr_if_eq 15 dX4_see_4 (by decide) (fun h4 => absurd h4 (by simp [h1])) (fun h4 => ?_)
  refine rr_iloadn_2 dX4_see_7 ?_
  refine rr_iloadn_3 dX4_see_8 ?_
  refine rr_callSiD (c_X4_isFraction N _ _ _ _) km_X4_163 rfl rfl (Nat.le_of_ble_eq_true rfl) dX4_see_9 ?_
  refine rr_if_ne 17 dX4_see_12 (by decide) (fun h12 => ?_) (fun h12 => absurd h12 (by simp [h2]))
  refine rr_aloadn_0 dX4_see_17 ?_
  refine rr_geti dX4_see_18 kf_X4_190 (by omega) rfl rfl ?_
  refine rr_bipush (v := 6) dX4_see_21 (by decide) ?_
  refine rr_icmp_lt 29 dX4_see_23 (by decide) (fun h23 => absurd h23 (by rw [hs]; decide)) (fun h23 => ?_)
  refine rr_bipush (v := (-3)) dX4_see_26 (by decide) ?_
  exact rr_iret dX4_see_28 ⟨rfl, rfl⟩
set_option maxHeartbeats 4000000 in
set_option maxRecDepth 100000 in
theorem c_see_s (N d : Nat) (σ : rd_S) (hN : 33 ≤ N) (n u l : Int32) (h1 : hp_rg 0 12 n = true) (h2 : hp_fr u l = true) (sc : Nat) (hs : σ 0 10 = nI sc) (hsc : sc < 6) : rd_T N (d + 2) yX4_see cX4_see 4 (some .int) [.ref 0, .int n, .int u, .int l] σ (rd_is (some (.int (nI (sc + 1)))) (rd_u2 (rd_u2 (rd_u2 (rd_u2 σ 29 sc n) 30 sc u) 31 sc l) 0 10 (nI (sc + 1)))) := by
  refine rd_start RX4 [.ref 0, .int n, .int u, .int l] rfl (by decide +kernel) rfl (Nat.le_of_ble_eq_true rfl) ?_
  refine rr_iloadn_1 dX4_see_0 ?_
  refine rr_callSiD (c_X4_isRowLength N _ _ _) km_X4_186 rfl rfl (Nat.le_of_ble_eq_true rfl) dX4_see_1 ?_
  refine rr_if_eq 15 dX4_see_4 (by decide) (fun h4 => absurd h4 (by simp [h1])) (fun h4 => ?_)
  refine rr_iloadn_2 dX4_see_7 ?_
  refine rr_iloadn_3 dX4_see_8 ?_
  refine rr_callSiD (c_X4_isFraction N _ _ _ _) km_X4_163 rfl rfl (Nat.le_of_ble_eq_true rfl) dX4_see_9 ?_
  refine rr_if_ne 17 dX4_see_12 (by decide) (fun h12 => ?_) (fun h12 => absurd h12 (by simp [h2]))
  refine rr_aloadn_0 dX4_see_17 ?_
  refine rr_geti dX4_see_18 kf_X4_190 (by omega) rfl rfl ?_
  refine rr_bipush (v := 6) dX4_see_21 (by decide) ?_
  refine rr_icmp_lt 29 dX4_see_23 (by decide) (fun h23 => ?_) (fun h23 => absurd (by rw [hs]; exact (nI_lt8 (b := 6) (by omega) (by omega)).mpr hsc) h23)
  refine rr_aloadn_0 dX4_see_29 ?_
  refine rr_getr 29 dX4_see_30 kf_X4_45 (by omega) rfl rfl rfl ?_
  refine rr_aloadn_0 dX4_see_33 ?_
  refine rr_geti dX4_see_34 kf_X4_190 (by omega) rfl rfl ?_
  refine rr_iloadn_1 dX4_see_37 ?_
  refine rr_iast (sc) dX4_see_38 (by omega) rfl hs hsc ?_
  refine rr_aloadn_0 dX4_see_39 ?_
  refine rr_getr 30 dX4_see_40 kf_X4_49 (by omega) rfl rfl rfl ?_
  refine rr_aloadn_0 dX4_see_43 ?_
  refine rr_geti dX4_see_44 kf_X4_190 (by omega) rfl rfl ?_
  refine rr_iloadn_2 dX4_see_47 ?_
  refine rr_iast (sc) dX4_see_48 (by omega) rfl (by simp [rd_u2, hs]) hsc ?_
  refine rr_aloadn_0 dX4_see_49 ?_
  refine rr_getr 31 dX4_see_50 kf_X4_52 (by omega) rfl rfl rfl ?_
  refine rr_aloadn_0 dX4_see_53 ?_
  refine rr_geti dX4_see_54 kf_X4_190 (by omega) rfl rfl ?_
  refine rr_iloadn_3 dX4_see_57 ?_
  refine rr_iast (sc) dX4_see_58 (by omega) rfl (by simp [rd_u2, hs]) hsc ?_
  refine rr_aloadn_0 dX4_see_59 ?_
  refine rr_dup dX4_see_60 rfl ?_
  refine rr_geti dX4_see_61 kf_X4_190 (by omega) rfl rfl ?_
  refine rr_iconst (v := 1) dX4_see_64 (by decide) ?_
  refine rr_iadd dX4_see_65 ?_
  rw [show ∀ a b c : Int32, rd_u2 (rd_u2 (rd_u2 σ 29 sc a) 30 sc b) 31 sc c 0 10 = nI sc from fun a b c => by simp [rd_u2, hs], nI_s]
  refine rr_puti dX4_see_66 kf_X4_190 if_4_10 (by omega) rfl rfl ?_
  refine rr_aloadn_0 dX4_see_69 ?_
  refine rr_geti dX4_see_70 kf_X4_190 (by omega) rfl rfl ?_
  exact rr_iret dX4_see_73 ⟨by simp [rd_u2], rfl⟩
set_option maxHeartbeats 4000000 in
set_option maxRecDepth 100000 in
theorem c_kinds_b (N d : Nat) (σ : rd_S) (hN : 33 ≤ N) (i : Int32) (h : hp_rg 0 3 i = false) : rd_T N (d + 6) yX4_kinds cX4_kinds 2 (some .int) [.ref 0, .int i] σ (rd_is (some (.int (-1))) σ) := by
  refine rd_start RX4 [.ref 0, .int i] rfl (by decide +kernel) rfl (Nat.le_of_ble_eq_true rfl) ?_
  refine rr_iloadn_1 dX4_kinds_0 ?_
  refine rr_callSiD (c_X4_isDancer N _ _ _) km_X4_93 rfl rfl (Nat.le_of_ble_eq_true rfl) dX4_kinds_1 ?_
  refine rr_if_eq 15 dX4_kinds_4 (by decide) (fun h4 => ?_) (fun h4 => absurd (by simp [h]) h4)
  refine rr_iconst (v := (-1)) dX4_kinds_15 (by decide) ?_
  exact rr_iret dX4_kinds_16 ⟨rfl, rfl⟩
set_option maxHeartbeats 4000000 in
set_option maxRecDepth 100000 in
theorem c_kinds_s (N d : Nat) (σ : rd_S) (hN : 33 ≤ N) (i : Int32) (h : hp_rg 0 3 i = true) (fc sc : Nat) (hp : pk_ok σ fc sc) : rd_T N (d + 6) yX4_kinds cX4_kinds 2 (some .int) [.ref 0, .int i] σ (fun r s => r = some (.int (pk_bits (pk_f σ fc sc i) 6 0 0)) ∧ cs_eq s σ) := by
  refine rd_start RX4 [.ref 0, .int i] rfl (by decide +kernel) rfl (Nat.le_of_ble_eq_true rfl) ?_
  refine rr_iloadn_1 dX4_kinds_0 ?_
  refine rr_callSiD (c_X4_isDancer N _ _ _) km_X4_93 rfl rfl (Nat.le_of_ble_eq_true rfl) dX4_kinds_1 ?_
  refine rr_if_eq 15 dX4_kinds_4 (by decide) (fun h4 => absurd h4 (by simp [h])) (fun h4 => ?_)
  refine rr_aloadn_0 dX4_kinds_7 ?_
  refine rr_iloadn_1 dX4_kinds_8 ?_
  refine rr_callVi (c_X4_possibleKinds N _ _ hN _ fc sc hp) km_X4_193 rfl rfl (by omega) rfl (Nat.le_of_ble_eq_true rfl) dX4_kinds_9 (fun r9 s9 q9 => ?_)
  obtain ⟨hr, E, rfl⟩ := q9
  cases hr
  refine rr_goto 16 dX4_kinds_12 (by decide) ?_
  exact rr_iret dX4_kinds_16 ⟨rfl, cs_eq.wr _ _⟩
def gp_v (σ : rd_S) (fc : Nat) (i po : Int32) (n : Nat) : Nat := gp_mx (fun k => pt_of (gp_c σ fc n i po) (gp_c σ fc n i po k)) 6 0 0
theorem pt_n_cong {c e : Nat → Int32} {x : Int32} : ∀ m k acc, (∀ j, j < k + m → c j = e j) → pt_n c x m k acc = pt_n e x m k acc
  | 0, _, _, _ => rfl
  | m + 1, k, acc, h => by
    unfold pt_n
    rw [h k (by omega)]
    exact pt_n_cong m (k + 1) _ (fun j hj => h j (by omega))
theorem pt_of_cong {c e : Nat → Int32} {x : Int32} (h : ∀ j, j < 6 → c j = e j) : pt_of c x = pt_of e x := by
  unfold pt_of
  split
  · rfl
  · exact pt_n_cong 6 0 0 (fun j hj => h j (by omega))
theorem gp_mx_le {f : Nat → Nat} {b : Nat} (hf : ∀ k, f k ≤ b) : ∀ m k acc, acc ≤ b → gp_mx f m k acc ≤ b
  | 0, _, _, h => h
  | m + 1, k, acc, h => gp_mx_le hf m (k + 1) _ (by have := hf k; omega)
theorem gp_v_le (σ : rd_S) (fc : Nat) (i po : Int32) (n : Nat) : gp_v σ fc i po n ≤ 6 := gp_mx_le (fun k => pt_of_le _ _) _ _ _ (by decide)
/-- alike but for trial and codes -/
def lk_eq (s σ : rd_S) : Prop := ∀ a b, a ≠ 4 → a ≠ 32 → s a b = σ a b
theorem lk_eq.c {s σ : rd_S} (h : lk_eq s σ) (fc n : Nat) (i po : Int32) : gp_c s fc n i po = gp_c σ fc n i po := by
  funext k
  simp only [gp_c, h 0 _ (by decide) (by decide), show sd_rd s 3 = sd_rd σ 3 by simp [sd_rd, h 3 _ (by decide) (by decide)]]
theorem gp_v_of {τ σ : rd_S} (he : lk_eq τ σ) (fc n : Nat) (i po : Int32) : gp_mx (fun k => pt_of (fun j => if j < 6 then gp_c τ fc n i po j else τ 32 j) (gp_c τ fc n i po k)) 6 0 0 = gp_v σ fc i po n := by
  have h1 := he.c fc n i po
  have h2 : (fun k => pt_of (fun j => if j < 6 then gp_c τ fc n i po j else τ 32 j) (gp_c τ fc n i po k)) = (fun k => pt_of (gp_c σ fc n i po) (gp_c σ fc n i po k)) := by
    funext k
    have h3 : pt_of (fun j => if j < 6 then gp_c τ fc n i po j else τ 32 j) (gp_c τ fc n i po k) = pt_of (gp_c τ fc n i po) (gp_c τ fc n i po k) := pt_of_cong (fun j hj => if_pos hj)
    exact h3.trans (by rw [h1])
  unfold gp_v
  exact congrArg (fun f => gp_mx f 6 0 0) h2
def lk_go (f : Nat → Nat) : Nat → Nat → Nat × Nat → Nat × Nat
  | 0, _, bl => bl
  | m + 1, n, bl => lk_go f m (n + 1) (if f n < bl.2 then (n, f n) else bl)
theorem lk_go_t {f : Nat → Nat} {m n : Nat} {bl : Nat × Nat} (h : f n < bl.2) : lk_go f (m + 1) n bl = lk_go f m (n + 1) (n, f n) := by simp only [lk_go, if_pos h]
theorem lk_go_f {f : Nat → Nat} {m n : Nat} {bl : Nat × Nat} (h : bl.2 ≤ f n) : lk_go f (m + 1) n bl = lk_go f m (n + 1) bl := by simp only [lk_go, if_neg (Nat.not_lt.mpr h)]
set_option maxHeartbeats 4000000 in
set_option maxRecDepth 100000 in
theorem lp_look (N d : Nat) (hN : 33 ≤ N) (σ : rd_S) (i w po : Int32) (fc : Nat) (hf : σ 0 13 = nI fc) (hfc : fc ≤ 12) : ∀ (m n : Nat) (bl : Nat × Nat) (τ : rd_S) (v : Value), n + m = 13 → bl.1 ≤ 12 → bl.2 ≤ 10 → lk_eq τ σ → rd_W N (d + 5) RX4 cX4_look 8 (some .int) 45 [.ref 0, .int i, .int w, .int po, .int (nI bl.1), .int (nI bl.2), .int (nI n), v] [] τ (fun r s => r = some (.int (if w = 0 then nI (lk_go (gp_v σ fc i po) m n bl).1 else nI (lk_go (gp_v σ fc i po) m n bl).2)) ∧ lk_eq s σ) := by
  intro m
  induction m with
  | zero =>
    intro n bl τ v hn h1 h2 he
    obtain rfl : n = 13 := hn
    refine rr_iload_6 dX4_look_45 ?_
    refine rr_bipush (v := 12) dX4_look_47 (by decide) ?_
    refine rr_icmp_gt 83 dX4_look_49 (by decide) (fun h49 => ?_) (fun h49 => absurd (by decide) h49)
    refine rr_iloadn_2 dX4_look_83 ?_
    refine rr_if_ne 92 dX4_look_84 (by decide) (fun h84 => ?_) (fun h84 => ?_)
    · refine rr_iload_5 dX4_look_92 ?_
      exact rr_iret dX4_look_94 ⟨by first | (rw [if_pos h84]; rfl) | (rw [if_neg h84]; rfl), he⟩
    · refine rr_iload_4 dX4_look_87 ?_
      refine rr_goto 94 dX4_look_89 (by decide) ?_
      exact rr_iret dX4_look_94 ⟨by first | (rw [if_pos h84]; rfl) | (rw [if_neg h84]; rfl), he⟩
  | succ m ih =>
    intro n bl τ v hn h1 h2 he
    have e13 : τ 0 13 = nI fc := by rw [he 0 13 (by decide) (by decide)]; exact hf
    have hv := gp_v_le σ fc i po n
    refine rr_iload_6 dX4_look_45 ?_
    refine rr_bipush (v := 12) dX4_look_47 (by decide) ?_
    refine rr_icmp_gt 83 dX4_look_49 (by decide) (fun h49 => absurd ((nI_lt8 (a := 12) (by omega) (by omega)).mp h49) (by omega)) (fun h49 => ?_)
    refine rr_aloadn_0 dX4_look_52 ?_
    refine rr_iloadn_1 dX4_look_53 ?_
    refine rr_iloadn_3 dX4_look_54 ?_
    refine rr_iload_6 dX4_look_55 ?_
    refine rr_callVi (c_X4_greatestPart N _ _ hN _ _ n fc e13 hfc (by omega)) km_X4_201 rfl rfl (by omega) rfl (Nat.le_of_ble_eq_true rfl) dX4_look_57 (fun r57 s57 q57 => ?_)
    obtain ⟨hr, E, rfl⟩ := q57
    cases hr
    have he2 : lk_eq (gp_st τ E (gp_c τ fc n i po) 6) σ := fun a b ha hb => by rw [gp_st_ne hb ha]; exact he a b ha hb
    rw [gp_v_of he fc n i po]
    refine rr_istore_7 dX4_look_60 rfl ?_
    refine rr_iload_7 dX4_look_62 ?_
    refine rr_iload_5 dX4_look_64 ?_
    refine rr_icmp_ge 77 dX4_look_66 (by decide) (fun h66 => ?_) (fun h66 => ?_)
    · refine rr_iinc_6 1 dX4_look_77 (by decide) rfl ?_
      refine rr_goto 45 dX4_look_80 (by decide) ?_
      rw [nI_s n]
      first | (have hlt := (nI_le8 (a := bl.2) (b := gp_v σ fc i po n) (by omega) (by omega)).mp h66; refine (ih (n + 1) bl _ _ (by omega) h1 h2 he2).post (fun r u q => ⟨?_, q.2⟩); rw [q.1, lk_go_f hlt]) | (have hlt : ¬ bl.2 ≤ gp_v σ fc i po n := (fun q => h66 ((nI_le8 (by omega) (by omega)).mpr q)); refine (ih (n + 1) (n, gp_v σ fc i po n) _ _ (by omega) (by show n ≤ 12; omega) (by show gp_v σ fc i po n ≤ 10; omega) he2).post (fun r u q => ⟨?_, q.2⟩); rw [q.1, lk_go_t (Nat.lt_of_not_le hlt)])
    · refine rr_iload_7 dX4_look_69 ?_
      refine rr_istore_5 dX4_look_71 rfl ?_
      refine rr_iload_6 dX4_look_73 ?_
      refine rr_istore_4 dX4_look_75 rfl ?_
      refine rr_iinc_6 1 dX4_look_77 (by decide) rfl ?_
      refine rr_goto 45 dX4_look_80 (by decide) ?_
      rw [nI_s n]
      first | (have hlt := (nI_le8 (a := bl.2) (b := gp_v σ fc i po n) (by omega) (by omega)).mp h66; refine (ih (n + 1) bl _ _ (by omega) h1 h2 he2).post (fun r u q => ⟨?_, q.2⟩); rw [q.1, lk_go_f hlt]) | (have hlt : ¬ bl.2 ≤ gp_v σ fc i po n := (fun q => h66 ((nI_le8 (by omega) (by omega)).mpr q)); refine (ih (n + 1) (n, gp_v σ fc i po n) _ _ (by omega) (by show n ≤ 12; omega) (by show gp_v σ fc i po n ≤ 10; omega) he2).post (fun r u q => ⟨?_, q.2⟩); rw [q.1, lk_go_t (Nat.lt_of_not_le hlt)])
set_option maxHeartbeats 4000000 in
set_option maxRecDepth 100000 in
theorem c_look_b (N d : Nat) (σ : rd_S) (hN : 33 ≤ N) (i w : Int32) (h : hp_rg 0 3 i = false ∨ hp_rg 0 1 w = false) : rd_T N (d + 6) yX4_look cX4_look 8 (some .int) [.ref 0, .int i, .int w] σ (rd_is (some (.int (-1))) σ) := by
  refine rd_start RX4 [.ref 0, .int i, .int w, .retAddr 0, .retAddr 0, .retAddr 0, .retAddr 0, .retAddr 0] rfl (by decide +kernel) rfl (Nat.le_of_ble_eq_true rfl) ?_
  refine rr_iloadn_1 dX4_look_0 ?_
  refine rr_callSiD (c_X4_isDancer N _ _ _) km_X4_93 rfl rfl (Nat.le_of_ble_eq_true rfl) dX4_look_1 ?_
  cases hi : hp_rg 0 3 i
  · refine rr_if_eq 16 dX4_look_4 (by decide) (fun h4 => ?_) (fun h4 => absurd (by simp) h4)
    refine rr_iconst (v := (-1)) dX4_look_16 (by decide) ?_
    exact rr_iret dX4_look_17 ⟨rfl, rfl⟩
  · rw [hi] at h
    have h : hp_rg 0 1 w = false := by simpa using h
    refine rr_if_eq 16 dX4_look_4 (by decide) (fun h4 => absurd h4 (by simp)) (fun h4 => ?_)
    refine rr_iloadn_2 dX4_look_7 ?_
    refine rr_if_lt 16 dX4_look_8 (by decide) (fun h8 => ?_) (fun h8 => ?_)
    · refine rr_iconst (v := (-1)) dX4_look_16 (by decide) ?_
      exact rr_iret dX4_look_17 ⟨rfl, rfl⟩
    · refine rr_iloadn_2 dX4_look_11 ?_
      refine rr_iconst (v := 1) dX4_look_12 (by decide) ?_
      refine rr_icmp_le 18 dX4_look_13 (by decide) (fun h13 => (by exfalso; simp only [hp_rg, decide_eq_true_eq, decide_eq_false_iff_not, Int32.lt_iff_toInt_lt, Int32.le_iff_toInt_le, hp_m1, hp_m99, hp_l0, hp_l1, hp_l2, hp_l3, hp_l4, hp_l5, hp_l6, hp_l7, hp_l8, hp_l9, hp_l10, hp_l11, hp_l12, hp_l60, hp_l99, hp_l126, hp_l32, hp_l9999] at *; omega)) (fun h13 => ?_)
      refine rr_iconst (v := (-1)) dX4_look_16 (by decide) ?_
      exact rr_iret dX4_look_17 ⟨rfl, rfl⟩
def lk_out (σ : rd_S) (fc sc : Nat) (i w : Int32) : Int32 := if 1 < bc_c (pk_bits (pk_f σ fc sc i) 6 0 0) then (fun bl : Nat × Nat => if w = 0 then nI bl.1 else nI bl.2) (lk_go (gp_v σ fc i (pk_bits (pk_f σ fc sc i) 6 0 0)) 12 1 (0, 7)) else -4
set_option maxHeartbeats 4000000 in
set_option maxRecDepth 100000 in
theorem c_look_s (N d : Nat) (σ : rd_S) (hN : 33 ≤ N) (i w : Int32) (hi : hp_rg 0 3 i = true) (h : hp_rg 0 1 w = true) (fc sc : Nat) (hp : pk_ok σ fc sc) : rd_T N (d + 6) yX4_look cX4_look 8 (some .int) [.ref 0, .int i, .int w] σ (fun r s => r = some (.int (lk_out σ fc sc i w)) ∧ cs_eq s σ) := by
  refine rd_start RX4 [.ref 0, .int i, .int w, .retAddr 0, .retAddr 0, .retAddr 0, .retAddr 0, .retAddr 0] rfl (by decide +kernel) rfl (Nat.le_of_ble_eq_true rfl) ?_
  refine rr_iloadn_1 dX4_look_0 ?_
  refine rr_callSiD (c_X4_isDancer N _ _ _) km_X4_93 rfl rfl (Nat.le_of_ble_eq_true rfl) dX4_look_1 ?_
  refine rr_if_eq 16 dX4_look_4 (by decide) (fun h4 => absurd h4 (by simp [hi])) (fun h4 => ?_)
  refine rr_iloadn_2 dX4_look_7 ?_
  refine rr_if_lt 16 dX4_look_8 (by decide) (fun h8 => (by exfalso; simp only [hp_rg, decide_eq_true_eq, decide_eq_false_iff_not, Int32.lt_iff_toInt_lt, Int32.le_iff_toInt_le, hp_m1, hp_m99, hp_l0, hp_l1, hp_l2, hp_l3, hp_l4, hp_l5, hp_l6, hp_l7, hp_l8, hp_l9, hp_l10, hp_l11, hp_l12, hp_l60, hp_l99, hp_l126, hp_l32, hp_l9999] at *; omega)) (fun h8 => ?_)
  refine rr_iloadn_2 dX4_look_11 ?_
  refine rr_iconst (v := 1) dX4_look_12 (by decide) ?_
  refine rr_icmp_le 18 dX4_look_13 (by decide) (fun h13 => ?_) (fun h13 => (by exfalso; simp only [hp_rg, decide_eq_true_eq, decide_eq_false_iff_not, Int32.lt_iff_toInt_lt, Int32.le_iff_toInt_le, hp_m1, hp_m99, hp_l0, hp_l1, hp_l2, hp_l3, hp_l4, hp_l5, hp_l6, hp_l7, hp_l8, hp_l9, hp_l10, hp_l11, hp_l12, hp_l60, hp_l99, hp_l126, hp_l32, hp_l9999] at *; omega))
  refine rr_aloadn_0 dX4_look_18 ?_
  refine rr_iloadn_1 dX4_look_19 ?_
  refine rr_callVi (c_X4_possibleKinds N _ _ hN _ fc sc hp) km_X4_193 rfl rfl (by omega) rfl (Nat.le_of_ble_eq_true rfl) dX4_look_20 (fun r20 s20 q20 => ?_)
  obtain ⟨hr, E, rfl⟩ := q20
  cases hr
  refine rr_istoren_3 dX4_look_23 rfl ?_
  refine rr_iloadn_3 dX4_look_24 ?_
  refine rr_callSiD (c_J6_bitCount_0f7a4 N _ _ _) km_X4_196 rfl rfl (Nat.le_of_ble_eq_true rfl) dX4_look_25 ?_
  refine rr_iconst (v := 1) dX4_look_28 (by decide) ?_
  refine rr_icmp_gt 35 dX4_look_29 (by decide) (fun h29 => ?_) (fun h29 => ?_)
  · refine rr_iconst (v := 0) dX4_look_35 (by decide) ?_
    refine rr_istore_4 dX4_look_36 rfl ?_
    refine rr_bipush (v := 7) dX4_look_38 (by decide) ?_
    refine rr_istore_5 dX4_look_40 rfl ?_
    refine rr_iconst (v := 1) dX4_look_42 (by decide) ?_
    refine rr_istore_6 dX4_look_43 rfl ?_
    obtain ⟨p1, p2, p3, p4, p5⟩ := hp
    have hl : lk_eq (sd_wr σ 4 E) σ := fun a b ha _ => sd_wr_ne E ha
    refine (lp_look N (d + 1) hN σ i w _ fc p1 p2 12 1 (0, 7) _ _ rfl (by decide) (by decide) hl).post (fun r u q => ⟨?_, fun a b hq => q.2 a b (by omega) (by omega)⟩)
    rw [q.1]
    unfold lk_out
    rw [if_pos h29]
  · refine rr_bipush (v := (-4)) dX4_look_32 (by decide) ?_
    exact rr_iret dX4_look_34 ⟨by unfold lk_out; rw [if_neg h29], cs_eq.wr _ _⟩
