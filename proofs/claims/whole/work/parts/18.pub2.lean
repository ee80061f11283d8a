/-! ===== RopeDance: the public calls, second part ===== -/
def gw (u l : Int32) : sd_D → Bool := fun D => decide (D.2.2.1 = u ∧ D.2.2.2.1 = l)
def gm (i j : Int32) : sd_D → Bool := fun D => decide (¬ (sd_place D.1 i + sd_place D.1 j) - (sd_place D.1 i + sd_place D.1 j) / 2 * 2 = 0)
def fe_b (G : sd_D → Bool) (kb : Int32) (D : sd_D) : Nat × Int32 := sr_sk G kb 7 0 0 D (8, 0)
def fe_out (br : Nat × Int32) (k : Int32) : Int32 := if br.1 ≤ 7 ∧ k < nI br.1 then (if 0 ≤ k then sd_who br.2 k else nI br.1) else -4
theorem aim_w (σ : rd_S) (u l : Int32) : sr_G (rd_u2 (rd_u2 (rd_u2 σ 19 2 0) 19 3 u) 19 4 l) = gw u l := by
  funext D; simp [sr_G, sr_at, rd_u2, gw]
theorem aim_m (σ : rd_S) (i j : Int32) : sr_G (rd_u2 (rd_u2 (rd_u2 σ 19 2 1) 19 5 i) 19 6 j) = gm i j := by
  funext D; simp [sr_G, sr_at, rd_u2, gm]
theorem fe_bw (σ : rd_S) (u l : Int32) : fe_br (rd_u2 (rd_u2 (rd_u2 σ 19 2 0) 19 3 u) 19 4 l) = fe_b (gw u l) (σ 0 11) (sd_rd σ 3) := by
  unfold fe_br; rw [aim_w]; simp [rd_u2, sd_rd, fe_b]
theorem fe_bm (σ : rd_S) (i j : Int32) : fe_br (rd_u2 (rd_u2 (rd_u2 σ 19 2 1) 19 5 i) 19 6 j) = fe_b (gm i j) (σ 0 11) (sd_rd σ 3) := by
  unfold fe_br; rw [aim_m]; simp [rd_u2, sd_rd, fe_b]
theorem cs_a (σ : rd_S) (a b c : Nat) (x y z : Int32) : cs_eq (rd_u2 (rd_u2 (rd_u2 σ 19 a x) 19 b y) 19 c z) σ := by
  intro q r h
  have hq : q ≠ 19 := by omega
  simp [rd_u2, hq]
set_option maxHeartbeats 4000000 in
set_option maxRecDepth 100000 in
theorem c_free_b (N d : Nat) (σ : rd_S) (hN : 33 ≤ N) (k : Int32) (h : hp_rg (-1) 6 k = false) : rd_T N (d + 13) yX4_free cX4_free 2 (some .int) [.ref 0, .int k] σ (rd_is (some (.int (-1))) σ) := by
  refine rd_start RX4 [.ref 0, .int k] rfl (by decide +kernel) rfl (Nat.le_of_ble_eq_true rfl) ?_
  refine rr_iloadn_1 dX4_free_0 ?_
  refine rr_callSiD (c_X4_isRowIndex N _ _ _) km_X4_154 rfl rfl (Nat.le_of_ble_eq_true rfl) dX4_free_1 ?_
  refine rr_if_ne 9 dX4_free_4 (by decide) (fun h4 => absurd (by simp [h]) h4) (fun h4 => ?_)
  refine rr_iconst (v := (-1)) dX4_free_7 (by decide) ?_
  exact rr_iret dX4_free_8 ⟨rfl, rfl⟩
set_option maxHeartbeats 4000000 in
set_option maxRecDepth 100000 in
theorem c_free_s (N d : Nat) (σ : rd_S) (hN : 33 ≤ N) (k : Int32) (h : hp_rg (-1) 6 k = true) : rd_T N (d + 13) yX4_free cX4_free 2 (some .int) [.ref 0, .int k] σ (fun r s => r = some (.int (fe_out (fe_b (gw 0 1) (σ 0 11) (sd_rd σ 3)) k)) ∧ cs_eq s σ) := by
  refine rd_start RX4 [.ref 0, .int k] rfl (by decide +kernel) rfl (Nat.le_of_ble_eq_true rfl) ?_
  refine rr_iloadn_1 dX4_free_0 ?_
  refine rr_callSiD (c_X4_isRowIndex N _ _ _) km_X4_154 rfl rfl (Nat.le_of_ble_eq_true rfl) dX4_free_1 ?_
  refine rr_if_ne 9 dX4_free_4 (by decide) (fun h4 => ?_) (fun h4 => absurd h4 (by simp [h]))
  refine rr_aloadn_0 dX4_free_9 ?_
  refine rr_getr 19 dX4_free_10 kf_X4_41 (by omega) rfl rfl rfl ?_
  refine rr_iconst (v := 0) dX4_free_13 (by decide) ?_
  refine rr_iconst (v := 1) dX4_free_14 (by decide) ?_
  refine rr_callVvD (c_X2_aimAtWound N _ _ hN _ _) km_X4_157 rfl rfl (by omega) rfl (Nat.le_of_ble_eq_true rfl) dX4_free_15 ?_
  refine rr_aloadn_0 dX4_free_18 ?_
  refine rr_iloadn_1 dX4_free_19 ?_
  refine rr_callVi (c_X4_figureOfFewest N _ _ hN _) km_X4_160 rfl rfl (by omega) rfl (Nat.le_of_ble_eq_true rfl) dX4_free_20 (fun r20 s20 q20 => ?_)
  obtain ⟨hr, he⟩ := q20
  cases hr
  rw [fe_bw]
  exact rr_iret dX4_free_23 ⟨rfl, (cs_eq.fe he).trans (cs_a _ _ _ _ _ _ _)⟩
set_option maxHeartbeats 4000000 in
set_option maxRecDepth 100000 in
theorem c_reach_b (N d : Nat) (σ : rd_S) (hN : 33 ≤ N) (u l k : Int32) (h : hp_fr u l = false ∨ hp_rg (-1) 6 k = false) : rd_T N (d + 13) yX4_reach cX4_reach 4 (some .int) [.ref 0, .int u, .int l, .int k] σ (rd_is (some (.int (-1))) σ) := by
  refine rd_start RX4 [.ref 0, .int u, .int l, .int k] rfl (by decide +kernel) rfl (Nat.le_of_ble_eq_true rfl) ?_
  refine rr_iloadn_1 dX4_reach_0 ?_
  refine rr_iloadn_2 dX4_reach_1 ?_
  refine rr_callSiD (c_X4_isFraction N _ _ _ _) km_X4_163 rfl rfl (Nat.le_of_ble_eq_true rfl) dX4_reach_2 ?_
  refine rr_if_eq 15 dX4_reach_5 (by decide) (fun h5 => ?_) (fun h5 => ?_)
  · refine rr_iconst (v := (-1)) dX4_reach_15 (by decide) ?_
    exact rr_iret dX4_reach_16 ⟨rfl, rfl⟩
  · refine rr_iloadn_3 dX4_reach_8 ?_
    refine rr_callSiD (c_X4_isRowIndex N _ _ _) km_X4_154 rfl rfl (Nat.le_of_ble_eq_true rfl) dX4_reach_9 ?_
    refine rr_if_ne 17 dX4_reach_12 (by decide) (fun h12 => absurd (by rcases h with h | h; { simp [h] at h5 }; { simp [h] }) h12) (fun h12 => ?_)
    refine rr_iconst (v := (-1)) dX4_reach_15 (by decide) ?_
    exact rr_iret dX4_reach_16 ⟨rfl, rfl⟩
set_option maxHeartbeats 4000000 in
set_option maxRecDepth 100000 in
theorem c_reach_s (N d : Nat) (σ : rd_S) (hN : 33 ≤ N) (u l k : Int32) (h1 : hp_fr u l = true) (h2 : hp_rg (-1) 6 k = true) : rd_T N (d + 13) yX4_reach cX4_reach 4 (some .int) [.ref 0, .int u, .int l, .int k] σ (fun r s => r = some (.int (fe_out (fe_b (gw u l) (σ 0 11) (sd_rd σ 3)) k)) ∧ cs_eq s σ) := by
  refine rd_start RX4 [.ref 0, .int u, .int l, .int k] rfl (by decide +kernel) rfl (Nat.le_of_ble_eq_true rfl) ?_
  refine rr_iloadn_1 dX4_reach_0 ?_
  refine rr_iloadn_2 dX4_reach_1 ?_
  refine rr_callSiD (c_X4_isFraction N _ _ _ _) km_X4_163 rfl rfl (Nat.le_of_ble_eq_true rfl) dX4_reach_2 ?_
  refine rr_if_eq 15 dX4_reach_5 (by decide) (fun h5 => absurd h5 (by simp [h1])) (fun h5 => ?_)
  refine rr_iloadn_3 dX4_reach_8 ?_
  refine rr_callSiD (c_X4_isRowIndex N _ _ _) km_X4_154 rfl rfl (Nat.le_of_ble_eq_true rfl) dX4_reach_9 ?_
  refine rr_if_ne 17 dX4_reach_12 (by decide) (fun h12 => ?_) (fun h12 => absurd h12 (by simp [h2]))
  refine rr_aloadn_0 dX4_reach_17 ?_
  refine rr_getr 19 dX4_reach_18 kf_X4_41 (by omega) rfl rfl rfl ?_
  refine rr_iloadn_1 dX4_reach_21 ?_
  refine rr_iloadn_2 dX4_reach_22 ?_
  refine rr_callVvD (c_X2_aimAtWound N _ _ hN _ _) km_X4_157 rfl rfl (by omega) rfl (Nat.le_of_ble_eq_true rfl) dX4_reach_23 ?_
  refine rr_aloadn_0 dX4_reach_26 ?_
  refine rr_iloadn_3 dX4_reach_27 ?_
  refine rr_callVi (c_X4_figureOfFewest N _ _ hN _) km_X4_160 rfl rfl (by omega) rfl (Nat.le_of_ble_eq_true rfl) dX4_reach_28 (fun r28 s28 q28 => ?_)
  obtain ⟨hr, he⟩ := q28
  cases hr
  rw [fe_bw]
  exact rr_iret dX4_reach_31 ⟨rfl, (cs_eq.fe he).trans (cs_a _ _ _ _ _ _ _)⟩
set_option maxHeartbeats 4000000 in
set_option maxRecDepth 100000 in
theorem c_meet_b (N d : Nat) (σ : rd_S) (hN : 33 ≤ N) (u l k : Int32) (h : ¬ (hp_rg 0 3 u = true ∧ hp_rg 0 3 l = true ∧ ¬ u = l) ∨ hp_rg (-1) 6 k = false) : rd_T N (d + 13) yX4_meet cX4_meet 4 (some .int) [.ref 0, .int u, .int l, .int k] σ (rd_is (some (.int (-1))) σ) := by
  refine rd_start RX4 [.ref 0, .int u, .int l, .int k] rfl (by decide +kernel) rfl (Nat.le_of_ble_eq_true rfl) ?_
  refine rr_iloadn_1 dX4_meet_0 ?_
  refine rr_iloadn_2 dX4_meet_1 ?_
  refine rr_callSiD (c_X4_areTwo N _ _ _ _) km_X4_140 rfl rfl (Nat.le_of_ble_eq_true rfl) dX4_meet_2 ?_
  refine rr_if_eq 15 dX4_meet_5 (by decide) (fun h5 => ?_) (fun h5 => ?_)
  · refine rr_iconst (v := (-1)) dX4_meet_15 (by decide) ?_
    exact rr_iret dX4_meet_16 ⟨rfl, rfl⟩
  · refine rr_iloadn_3 dX4_meet_8 ?_
    refine rr_callSiD (c_X4_isRowIndex N _ _ _) km_X4_154 rfl rfl (Nat.le_of_ble_eq_true rfl) dX4_meet_9 ?_
    refine rr_if_ne 17 dX4_meet_12 (by decide) (fun h12 => absurd (by rcases h with h | h; { simp [h] at h5 }; { simp [h] }) h12) (fun h12 => ?_)
    refine rr_iconst (v := (-1)) dX4_meet_15 (by decide) ?_
    exact rr_iret dX4_meet_16 ⟨rfl, rfl⟩
set_option maxHeartbeats 4000000 in
set_option maxRecDepth 100000 in
theorem c_meet_s (N d : Nat) (σ : rd_S) (hN : 33 ≤ N) (u l k : Int32) (h1 : hp_rg 0 3 u = true ∧ hp_rg 0 3 l = true ∧ ¬ u = l) (h2 : hp_rg (-1) 6 k = true) : rd_T N (d + 13) yX4_meet cX4_meet 4 (some .int) [.ref 0, .int u, .int l, .int k] σ (fun r s => r = some (.int (fe_out (fe_b (gm u l) (σ 0 11) (sd_rd σ 3)) k)) ∧ cs_eq s σ) := by
  refine rd_start RX4 [.ref 0, .int u, .int l, .int k] rfl (by decide +kernel) rfl (Nat.le_of_ble_eq_true rfl) ?_
  refine rr_iloadn_1 dX4_meet_0 ?_
  refine rr_iloadn_2 dX4_meet_1 ?_
  refine rr_callSiD (c_X4_areTwo N _ _ _ _) km_X4_140 rfl rfl (Nat.le_of_ble_eq_true rfl) dX4_meet_2 ?_
  refine rr_if_eq 15 dX4_meet_5 (by decide) (fun h5 => absurd h5 (by simp [h1])) (fun h5 => ?_)
  refine rr_iloadn_3 dX4_meet_8 ?_
  refine rr_callSiD (c_X4_isRowIndex N _ _ _) km_X4_154 rfl rfl (Nat.le_of_ble_eq_true rfl) dX4_meet_9 ?_
  refine rr_if_ne 17 dX4_meet_12 (by decide) (fun h12 => ?_) (fun h12 => absurd h12 (by simp [h2]))
  refine rr_aloadn_0 dX4_meet_17 ?_
  refine rr_getr 19 dX4_meet_18 kf_X4_41 (by omega) rfl rfl rfl ?_
  refine rr_iloadn_1 dX4_meet_21 ?_
  refine rr_iloadn_2 dX4_meet_22 ?_
  refine rr_callVvD (c_X2_aimAtMeeting N _ _ hN _ _) km_X4_166 rfl rfl (by omega) rfl (Nat.le_of_ble_eq_true rfl) dX4_meet_23 ?_
  refine rr_aloadn_0 dX4_meet_26 ?_
  refine rr_iloadn_3 dX4_meet_27 ?_
  refine rr_callVi (c_X4_figureOfFewest N _ _ hN _) km_X4_160 rfl rfl (by omega) rfl (Nat.le_of_ble_eq_true rfl) dX4_meet_28 (fun r28 s28 q28 => ?_)
  obtain ⟨hr, he⟩ := q28
  cases hr
  rw [fe_bm]
  exact rr_iret dX4_meet_31 ⟨rfl, (cs_eq.fe he).trans (cs_a _ _ _ _ _ _ _)⟩
theorem cs_sr {k : Nat} {s σ : rd_S} (h : sr_eq k s σ) : cs_eq s σ := fun a b q => h a b (by omega)
theorem cs_st (σ : rd_S) (q : Nat) (kb : Int32) : cs_eq (rd_u2 (rd_u2 (rd_u2 (sd_wr σ 21 (sd_rd σ q)) 19 1 kb) 19 7 8) 19 8 0) σ := by
  intro a b h
  have h1 : a ≠ 19 := by omega
  have h2 : a ≠ 21 := by omega
  simp [rd_u2, h1, sd_wr_ne _ h2]
theorem st_G (σ : rd_S) (q : Nat) (kb : Int32) : sr_G (rd_u2 (rd_u2 (rd_u2 (sd_wr σ 21 (sd_rd σ q)) 19 1 kb) 19 7 8) 19 8 0) = sr_G σ := by
  simp [sr_G, rd_u2, sd_wr]
theorem st_kb (σ : rd_S) (q : Nat) (kb : Int32) : (rd_u2 (rd_u2 (rd_u2 (sd_wr σ 21 (sd_rd σ q)) 19 1 kb) 19 7 8) 19 8 0) 19 1 = kb := by simp [rd_u2]
theorem st_rd (σ : rd_S) (q : Nat) (kb : Int32) : sd_rd (rd_u2 (rd_u2 (rd_u2 (sd_wr σ 21 (sd_rd σ q)) 19 1 kb) 19 7 8) 19 8 0) (21 + 0) = sd_rd σ q := by
  rw [sd_rd_u2 (by decide), sd_rd_u2 (by decide), sd_rd_u2 (by decide)]; exact sd_rd_wr _ _ _
theorem c_rows7 (N d n : Nat) (hN : 33 ≤ N) (hn : n ≤ 7) (σ : rd_S) : rd_T N (d + 11) yX2_rowsFrom cX2_rowsFrom 5 (some .int) [.ref 19, .int 0, .int (nI n)] σ (fun r s => r = some (.int (nI (sr_cnt (sr_G σ) (σ 19 1) n (sd_rd σ (21 + 0))))) ∧ sr_eq 0 s σ) := by
  have := c_X2_rowsFrom N (d + 7 - n) n hN hn n 0 σ (by omega)
  rwa [show d + 7 - n + n + 4 = d + 11 by omega] at this
theorem c_best7 (N d n : Nat) (hN : 33 ≤ N) (hn : n ≤ 7) (σ : rd_S) : rd_T N (d + 11) yX2_bestFrom cX2_bestFrom 5 (some .int) [.ref 19, .int 0, .int (nI n)] σ (fun r s => r = some (.int (sr_bf (σ 19 1) n 0 (sd_rd σ (21 + 0)))) ∧ sr_eq 0 s σ) := by
  have := c_X2_bestFrom N (d + 7 - n) n hN hn n 0 σ (by omega)
  rwa [show d + 7 - n + n + 4 = d + 11 by omega] at this
theorem c_chance7 (N d n : Nat) (hN : 33 ≤ N) (hn : n ≤ 7) (fg x : Int32) (σ : rd_S) : rd_T N (d + 11) yX2_chanceFrom cX2_chanceFrom 7 (some .int) [.ref 19, .int 0, .int (nI n), .int fg, .int x] σ (fun r s => r = some (.int (sr_ch (sr_G σ) (σ 19 1) fg x n 0 (sd_rd σ (21 + 0)))) ∧ sr_eq 0 s σ) := by
  have := c_X2_chanceFrom N (d + 7 - n) n hN hn fg x n 0 σ (by omega)
  rwa [show d + 7 - n + n + 4 = d + 11 by omega] at this
set_option maxHeartbeats 4000000 in
set_option maxRecDepth 100000 in
theorem c_ways_b (N d : Nat) (σ : rd_S) (hN : 33 ≤ N) (x : Int32) (h : hp_rg 0 7 x = false) : rd_T N (d + 12) yX4_ways cX4_ways 2 (some .int) [.ref 0, .int x] σ (rd_is (some (.int (-1))) σ) := by
  refine rd_start RX4 [.ref 0, .int x] rfl (by decide +kernel) rfl (Nat.le_of_ble_eq_true rfl) ?_
  refine rr_iloadn_1 dX4_ways_0 ?_
  refine rr_if_lt 10 dX4_ways_1 (by decide) (fun h1 => ?_) (fun h1 => ?_)
  · refine rr_iconst (v := (-1)) dX4_ways_10 (by decide) ?_
    exact rr_iret dX4_ways_11 ⟨rfl, rfl⟩
  · refine rr_iloadn_1 dX4_ways_4 ?_
    refine rr_bipush (v := 7) dX4_ways_5 (by decide) ?_
    refine rr_icmp_le 12 dX4_ways_7 (by decide) (fun h7 => (by exfalso; simp only [hp_rg, decide_eq_true_eq, decide_eq_false_iff_not, Int32.lt_iff_toInt_lt, Int32.le_iff_toInt_le, hp_m1, hp_m99, hp_l0, hp_l1, hp_l2, hp_l3, hp_l4, hp_l5, hp_l6, hp_l7, hp_l8, hp_l9, hp_l10, hp_l11, hp_l12, hp_l60, hp_l99, hp_l126, hp_l32, hp_l9999] at *; omega)) (fun h7 => ?_)
    refine rr_iconst (v := (-1)) dX4_ways_10 (by decide) ?_
    exact rr_iret dX4_ways_11 ⟨rfl, rfl⟩
set_option maxHeartbeats 4000000 in
set_option maxRecDepth 100000 in
theorem c_ways_s (N d : Nat) (σ : rd_S) (hN : 33 ≤ N) (n : Nat) (hn : n ≤ 7) : rd_T N (d + 12) yX4_ways cX4_ways 2 (some .int) [.ref 0, .int (nI n)] σ (fun r s => r = some (.int (nI (sr_cnt (gw 0 1) (σ 0 11) n (sd_rd σ 3)))) ∧ cs_eq s σ) := by
  refine rd_start RX4 [.ref 0, .int (nI n)] rfl (by decide +kernel) rfl (Nat.le_of_ble_eq_true rfl) ?_
  refine rr_iloadn_1 dX4_ways_0 ?_
  refine rr_if_lt 10 dX4_ways_1 (by decide) (fun h1 => absurd h1 (nI_pos (by omega))) (fun h1 => ?_)
  refine rr_iloadn_1 dX4_ways_4 ?_
  refine rr_bipush (v := 7) dX4_ways_5 (by decide) ?_
  refine rr_icmp_le 12 dX4_ways_7 (by decide) (fun h7 => ?_) (fun h7 => absurd ((nI_le8 (b := 7) (by omega) (by omega)).mpr hn) h7)
  refine rr_aloadn_0 dX4_ways_12 ?_
  refine rr_getr 19 dX4_ways_13 kf_X4_41 (by omega) rfl rfl rfl ?_
  refine rr_iconst (v := 0) dX4_ways_16 (by decide) ?_
  refine rr_iconst (v := 1) dX4_ways_17 (by decide) ?_
  refine rr_callVvD (c_X2_aimAtWound N _ _ hN _ _) km_X4_157 rfl rfl (by omega) rfl (Nat.le_of_ble_eq_true rfl) dX4_ways_18 ?_
  refine rr_aloadn_0 dX4_ways_21 ?_
  refine rr_getr 19 dX4_ways_22 kf_X4_41 (by omega) rfl rfl rfl ?_
  refine rr_aloadn_0 dX4_ways_25 ?_
  refine rr_getr 3 dX4_ways_26 kf_X4_19 (by omega) rfl rfl rfl ?_
  refine rr_aloadn_0 dX4_ways_29 ?_
  refine rr_geti dX4_ways_30 kf_X4_96 (by omega) rfl rfl ?_
  refine rr_callVvD (c_X2_startFrom N _ _ hN 3 _ (by omega) rfl) km_X4_169 rfl rfl (by omega) rfl (Nat.le_of_ble_eq_true rfl) dX4_ways_33 ?_
  refine rr_aloadn_0 dX4_ways_36 ?_
  refine rr_getr 19 dX4_ways_37 kf_X4_41 (by omega) rfl rfl rfl ?_
  refine rr_iconst (v := 0) dX4_ways_40 (by decide) ?_
  refine rr_iloadn_1 dX4_ways_41 ?_
  refine rr_callSi (c_rows7 N d n hN hn _) km_X4_173 rfl rfl (Nat.le_of_ble_eq_true rfl) dX4_ways_42 (fun r42 s42 q42 => ?_)
  obtain ⟨hr, he⟩ := q42
  cases hr
  rw [st_G, st_kb, st_rd, aim_w]
  exact rr_iret dX4_ways_45 ⟨by simp [rd_u2, sd_rd], ((cs_sr he).trans (cs_st _ _ _)).trans (cs_a _ _ _ _ _ _ _)⟩
set_option maxHeartbeats 4000000 in
set_option maxRecDepth 100000 in
theorem c_danced_b (N d : Nat) (σ : rd_S) (hN : 33 ≤ N) (x : Int32) (h : hp_rg 0 7 x = false) : rd_T N (d + 12) yX4_danced cX4_danced 2 (some .int) [.ref 0, .int x] σ (rd_is (some (.int (-1))) σ) := by
  refine rd_start RX4 [.ref 0, .int x] rfl (by decide +kernel) rfl (Nat.le_of_ble_eq_true rfl) ?_
  refine rr_iloadn_1 dX4_danced_0 ?_
  refine rr_if_lt 10 dX4_danced_1 (by decide) (fun h1 => ?_) (fun h1 => ?_)
  · refine rr_iconst (v := (-1)) dX4_danced_10 (by decide) ?_
    exact rr_iret dX4_danced_11 ⟨rfl, rfl⟩
  · refine rr_iloadn_1 dX4_danced_4 ?_
    refine rr_bipush (v := 7) dX4_danced_5 (by decide) ?_
    refine rr_icmp_le 12 dX4_danced_7 (by decide) (fun h7 => (by exfalso; simp only [hp_rg, decide_eq_true_eq, decide_eq_false_iff_not, Int32.lt_iff_toInt_lt, Int32.le_iff_toInt_le, hp_m1, hp_m99, hp_l0, hp_l1, hp_l2, hp_l3, hp_l4, hp_l5, hp_l6, hp_l7, hp_l8, hp_l9, hp_l10, hp_l11, hp_l12, hp_l60, hp_l99, hp_l126, hp_l32, hp_l9999] at *; omega)) (fun h7 => ?_)
    refine rr_iconst (v := (-1)) dX4_danced_10 (by decide) ?_
    exact rr_iret dX4_danced_11 ⟨rfl, rfl⟩
set_option maxHeartbeats 4000000 in
set_option maxRecDepth 100000 in
theorem c_danced_s (N d : Nat) (σ : rd_S) (hN : 33 ≤ N) (n : Nat) (hn : n ≤ 7) : rd_T N (d + 12) yX4_danced cX4_danced 2 (some .int) [.ref 0, .int (nI n)] σ (fun r s => r = some (.int (nI (sr_cnt (gw (σ 3 2) (σ 3 3)) 0 n (sd_begin (σ 3 0))))) ∧ cs_eq s σ) := by
  refine rd_start RX4 [.ref 0, .int (nI n)] rfl (by decide +kernel) rfl (Nat.le_of_ble_eq_true rfl) ?_
  refine rr_iloadn_1 dX4_danced_0 ?_
  refine rr_if_lt 10 dX4_danced_1 (by decide) (fun h1 => absurd h1 (nI_pos (by omega))) (fun h1 => ?_)
  refine rr_iloadn_1 dX4_danced_4 ?_
  refine rr_bipush (v := 7) dX4_danced_5 (by decide) ?_
  refine rr_icmp_le 12 dX4_danced_7 (by decide) (fun h7 => ?_) (fun h7 => absurd ((nI_le8 (b := 7) (by omega) (by omega)).mpr hn) h7)
  refine rr_aloadn_0 dX4_danced_12 ?_
  refine rr_getr 4 dX4_danced_13 kf_X4_23 (by omega) rfl rfl rfl ?_
  refine rr_aloadn_0 dX4_danced_16 ?_
  refine rr_getr 3 dX4_danced_17 kf_X4_19 (by omega) rfl rfl rfl ?_
  refine rr_geti dX4_danced_20 kf_X4_205 (by omega) rfl rfl ?_
  refine rr_callVvD (c_X3_begin N _ _ _ _ (by omega) rfl) km_X4_208 rfl rfl (by omega) rfl (Nat.le_of_ble_eq_true rfl) dX4_danced_23 ?_
  refine rr_aloadn_0 dX4_danced_26 ?_
  refine rr_getr 19 dX4_danced_27 kf_X4_41 (by omega) rfl rfl rfl ?_
  refine rr_aloadn_0 dX4_danced_30 ?_
  refine rr_getr 3 dX4_danced_31 kf_X4_19 (by omega) rfl rfl rfl ?_
  refine rr_geti dX4_danced_34 kf_X4_114 (by omega) rfl rfl ?_
  refine rr_aloadn_0 dX4_danced_37 ?_
  refine rr_getr 3 dX4_danced_38 kf_X4_19 (by omega) rfl rfl rfl ?_
  refine rr_geti dX4_danced_41 kf_X4_117 (by omega) rfl rfl ?_
  refine rr_callVvD (c_X2_aimAtWound N _ _ hN _ _) km_X4_157 rfl rfl (by omega) rfl (Nat.le_of_ble_eq_true rfl) dX4_danced_44 ?_
  refine rr_aloadn_0 dX4_danced_47 ?_
  refine rr_getr 19 dX4_danced_48 kf_X4_41 (by omega) rfl rfl rfl ?_
  refine rr_aloadn_0 dX4_danced_51 ?_
  refine rr_getr 4 dX4_danced_52 kf_X4_23 (by omega) rfl rfl rfl ?_
  refine rr_iconst (v := 0) dX4_danced_55 (by decide) ?_
  refine rr_callVvD (c_X2_startFrom N _ _ hN 4 _ (by omega) rfl) km_X4_169 rfl rfl (by omega) rfl (Nat.le_of_ble_eq_true rfl) dX4_danced_56 ?_
  refine rr_aloadn_0 dX4_danced_59 ?_
  refine rr_getr 19 dX4_danced_60 kf_X4_41 (by omega) rfl rfl rfl ?_
  refine rr_iconst (v := 0) dX4_danced_63 (by decide) ?_
  refine rr_iloadn_1 dX4_danced_64 ?_
  refine rr_callSi (c_rows7 N d n hN hn _) km_X4_173 rfl rfl (Nat.le_of_ble_eq_true rfl) dX4_danced_65 (fun r65 s65 q65 => ?_)
  obtain ⟨hr, he⟩ := q65
  cases hr
  rw [st_G, st_kb, st_rd, aim_w]
  exact rr_iret dX4_danced_68 ⟨by rw [sd_rd_u2 (by decide), sd_rd_u2 (by decide), sd_rd_u2 (by decide), sd_rd_wr, sd_wr_ne _ (by decide), sd_wr_ne _ (by decide)], (((cs_sr he).trans (cs_st _ _ _)).trans (cs_a _ _ _ _ _ _ _)).trans (cs_eq.wr _ _)⟩
set_option maxHeartbeats 4000000 in
set_option maxRecDepth 100000 in
theorem c_duel_b (N d : Nat) (σ : rd_S) (hN : 33 ≤ N) (x : Int32) (h : hp_rg 0 5 x = false) : rd_T N (d + 12) yX4_duel cX4_duel 2 (some .int) [.ref 0, .int x] σ (rd_is (some (.int (-1))) σ) := by
  refine rd_start RX4 [.ref 0, .int x] rfl (by decide +kernel) rfl (Nat.le_of_ble_eq_true rfl) ?_
  refine rr_iloadn_1 dX4_duel_0 ?_
  refine rr_if_lt 9 dX4_duel_1 (by decide) (fun h1 => ?_) (fun h1 => ?_)
  · refine rr_iconst (v := (-1)) dX4_duel_9 (by decide) ?_
    exact rr_iret dX4_duel_10 ⟨rfl, rfl⟩
  · refine rr_iloadn_1 dX4_duel_4 ?_
    refine rr_iconst (v := 5) dX4_duel_5 (by decide) ?_
    refine rr_icmp_le 11 dX4_duel_6 (by decide) (fun h6 => (by exfalso; simp only [hp_rg, decide_eq_true_eq, decide_eq_false_iff_not, Int32.lt_iff_toInt_lt, Int32.le_iff_toInt_le, hp_m1, hp_m99, hp_l0, hp_l1, hp_l2, hp_l3, hp_l4, hp_l5, hp_l6, hp_l7, hp_l8, hp_l9, hp_l10, hp_l11, hp_l12, hp_l60, hp_l99, hp_l126, hp_l32, hp_l9999] at *; omega)) (fun h6 => ?_)
    refine rr_iconst (v := (-1)) dX4_duel_9 (by decide) ?_
    exact rr_iret dX4_duel_10 ⟨rfl, rfl⟩
set_option maxHeartbeats 4000000 in
set_option maxRecDepth 100000 in
theorem c_duel_s (N d : Nat) (σ : rd_S) (hN : 33 ≤ N) (n : Nat) (hn : n ≤ 5) : rd_T N (d + 12) yX4_duel cX4_duel 2 (some .int) [.ref 0, .int (nI n)] σ (fun r s => r = some (.int (sr_bf (σ 0 11) n 0 (sd_rd σ 3))) ∧ cs_eq s σ) := by
  refine rd_start RX4 [.ref 0, .int (nI n)] rfl (by decide +kernel) rfl (Nat.le_of_ble_eq_true rfl) ?_
  refine rr_iloadn_1 dX4_duel_0 ?_
  refine rr_if_lt 9 dX4_duel_1 (by decide) (fun h1 => absurd h1 (nI_pos (by omega))) (fun h1 => ?_)
  refine rr_iloadn_1 dX4_duel_4 ?_
  refine rr_iconst (v := 5) dX4_duel_5 (by decide) ?_
  refine rr_icmp_le 11 dX4_duel_6 (by decide) (fun h6 => ?_) (fun h6 => absurd ((nI_le8 (b := 5) (by omega) (by omega)).mpr hn) h6)
  refine rr_aloadn_0 dX4_duel_11 ?_
  refine rr_getr 19 dX4_duel_12 kf_X4_41 (by omega) rfl rfl rfl ?_
  refine rr_aloadn_0 dX4_duel_15 ?_
  refine rr_getr 3 dX4_duel_16 kf_X4_19 (by omega) rfl rfl rfl ?_
  refine rr_aloadn_0 dX4_duel_19 ?_
  refine rr_geti dX4_duel_20 kf_X4_96 (by omega) rfl rfl ?_
  refine rr_callVvD (c_X2_startFrom N _ _ hN 3 _ (by omega) rfl) km_X4_169 rfl rfl (by omega) rfl (Nat.le_of_ble_eq_true rfl) dX4_duel_23 ?_
  refine rr_aloadn_0 dX4_duel_26 ?_
  refine rr_getr 19 dX4_duel_27 kf_X4_41 (by omega) rfl rfl rfl ?_
  refine rr_iconst (v := 0) dX4_duel_30 (by decide) ?_
  refine rr_iloadn_1 dX4_duel_31 ?_
  refine rr_callSi (c_best7 N d n hN (by omega) _) km_X4_211 rfl rfl (Nat.le_of_ble_eq_true rfl) dX4_duel_32 (fun r32 s32 q32 => ?_)
  obtain ⟨hr, he⟩ := q32
  cases hr
  rw [st_kb, st_rd]
  exact rr_iret dX4_duel_35 ⟨rfl, (cs_sr he).trans (cs_st _ _ _)⟩
def sr_chN (G : sd_D → Bool) (kb fg : Int32) (x : Nat) : Nat → Nat → sd_D → Nat
  | 0, _, D => if G D = true then 1 else 0
  | m + 1, k, D => x * sr_chN G kb fg x m (k + 1) (sr_rest D kb) + (10 - x) * sr_chN G kb fg x m (k + 1) ((sd_st D (sd_who fg (nI k)) kb).getD (sr_rest D kb))
theorem sr_ch_nI (G : sd_D → Bool) (kb fg : Int32) {x : Nat} (hx : x ≤ 10) : ∀ m k D, sr_ch G kb fg (nI x) m k D = nI (sr_chN G kb fg x m k D)
  | 0, k, D => by unfold sr_ch sr_chN; split <;> rfl
  | m + 1, k, D => by
    unfold sr_ch sr_chN
    rw [sr_ch_nI G kb fg hx m, sr_ch_nI G kb fg hx m, show (10 : Int32) - nI x = nI (10 - x) from pk_sub (a := 10) hx, pk_mul, pk_mul, nI_add]
theorem sr_chN_le (G : sd_D → Bool) (kb fg : Int32) {x : Nat} (hx : x ≤ 10) : ∀ m k D, sr_chN G kb fg x m k D ≤ 10 ^ m
  | 0, k, D => by unfold sr_chN; split <;> simp
  | m + 1, k, D => by
    unfold sr_chN
    have h1 := sr_chN_le G kb fg hx m (k + 1) (sr_rest D kb)
    have h2 := sr_chN_le G kb fg hx m (k + 1) ((sd_st D (sd_who fg (nI k)) kb).getD (sr_rest D kb))
    have h3 := Nat.mul_le_mul_left x h1
    have h4 := Nat.mul_le_mul_left (10 - x) h2
    have h5 : x * 10 ^ m + (10 - x) * 10 ^ m = 10 * 10 ^ m := by rw [← Nat.add_mul]; congr 1; omega
    have h6 : 10 ^ (m + 1) = 10 * 10 ^ m := by rw [Nat.pow_succ, Nat.mul_comm]
    omega
theorem p10_le {m : Nat} (h : m ≤ 7) : 10 ^ m ≤ 10000000 := by
  have := Nat.pow_le_pow_right (n := 10) (by decide) h
  exact this
set_option maxHeartbeats 4000000 in
set_option maxRecDepth 100000 in
theorem lp_odds (N d : Nat) (σ : rd_S) (v1 v2 pt ab : Int32) (A : Nat) (hA : ab = nI A) : ∀ (m j k : Nat), k = j + m → k ≤ 7 → A ≤ 10 ^ k → rd_W N (d + 1) RX4 cX4_odds 8 (some .int) 88 [.ref 0, .int v1, .int v2, .int pt, .int (nI k), .int ab, .int (nI (10 ^ j)), .int (nI j)] [] σ (rd_is (some (.int (nI ((if pt = 0 then A else 10 ^ k) / Nat.gcd A (10 ^ k))))) σ) := by
  intro m
  induction m with
  | zero =>
    intro j k hk hk7 hAk
    obtain rfl : k = j := hk
    have h10 := p10_le hk7
    have hp : 0 < 10 ^ k := Nat.pow_pos (by decide)
    have hg : 0 < Nat.gcd A (10 ^ k) := Nat.gcd_pos_of_pos_right _ hp
    have hgl := Nat.gcd_le_right A hp
    subst hA
    refine rr_iload_7 dX4_odds_88 ?_
    refine rr_iload_4 dX4_odds_90 ?_
    refine rr_icmp_ge 108 dX4_odds_92 (by decide) (fun h92 => ?_) (fun h92 => absurd (nI_le (Nat.le_refl _) (by omega)) h92)
    refine rr_iload_5 dX4_odds_108 ?_
    refine rr_iload_6 dX4_odds_110 ?_
    refine rr_callSiD (c_X4_commonDivisor N _ _ A (10 ^ k) (by omega) (by omega)) km_X4_223 rfl rfl (Nat.le_of_ble_eq_true rfl) dX4_odds_112 ?_
    refine rr_istore_7 dX4_odds_115 rfl ?_
    refine rr_iload_7 dX4_odds_117 ?_
    refine rr_if_ne 124 dX4_odds_119 (by decide) (fun h119 => ?_) (fun h119 => absurd h119 (nI_ne0 hg (by omega)))
    refine rr_iloadn_3 dX4_odds_124 ?_
    refine rr_if_ne 133 dX4_odds_125 (by decide) (fun h125 => ?_) (fun h125 => ?_)
    · refine rr_iload_6 dX4_odds_133 ?_
      refine rr_iload_7 dX4_odds_135 ?_
      refine rr_idiv dX4_odds_137 (nI_ne0 hg (by omega)) ?_
      exact rr_iret dX4_odds_138 ⟨by first | (rw [if_pos h125, pk_div (by omega) hg (by omega)]; done) | (rw [if_neg h125, pk_div (by omega) hg (by omega)]; done), rfl⟩
    · refine rr_iload_5 dX4_odds_128 ?_
      refine rr_goto 135 dX4_odds_130 (by decide) ?_
      refine rr_iload_7 dX4_odds_135 ?_
      refine rr_idiv dX4_odds_137 (nI_ne0 hg (by omega)) ?_
      exact rr_iret dX4_odds_138 ⟨by first | (rw [if_pos h125, pk_div (by omega) hg (by omega)]; done) | (rw [if_neg h125, pk_div (by omega) hg (by omega)]; done), rfl⟩
  | succ m ih =>
    intro j k hk hk7 hAk
    refine rr_iload_7 dX4_odds_88 ?_
    refine rr_iload_4 dX4_odds_90 ?_
    refine rr_icmp_ge 108 dX4_odds_92 (by decide) (fun h92 => absurd ((nI_le8 (by omega) (by omega)).mp h92) (by omega)) (fun h92 => ?_)
    refine rr_iload_6 dX4_odds_95 ?_
    refine rr_bipush (v := 10) dX4_odds_97 (by decide) ?_
    refine rr_imul dX4_odds_99 ?_
    refine rr_istore_6 dX4_odds_100 rfl ?_
    refine rr_iinc_7 1 dX4_odds_102 (by decide) rfl ?_
    refine rr_goto 88 dX4_odds_105 (by decide) ?_
    rw [nI_s j, show nI (10 ^ j) * 10 = nI (10 ^ (j + 1)) from by { rw [Nat.pow_succ]; exact pk_mul _ 10 }]
    exact ih (j + 1) k (by omega) hk7 hAk
set_option maxHeartbeats 4000000 in
set_option maxRecDepth 100000 in
theorem c_odds_b (N d : Nat) (σ : rd_S) (hN : 33 ≤ N) (n x q : Int32) (h : hp_rg 0 7 n = false ∨ hp_rg 0 10 x = false ∨ hp_rg 0 1 q = false) : rd_T N (d + 12) yX4_odds cX4_odds 8 (some .int) [.ref 0, .int n, .int x, .int q] σ (rd_is (some (.int (-1))) σ) := by
  refine rd_start RX4 [.ref 0, .int n, .int x, .int q, .retAddr 0, .retAddr 0, .retAddr 0, .retAddr 0] rfl (by decide +kernel) rfl (Nat.le_of_ble_eq_true rfl) ?_
  refine rr_iloadn_1 dX4_odds_0 ?_
  refine rr_if_lt 29 dX4_odds_1 (by decide) (fun h1 => ?_) (fun h1 => ?_)
  · refine rr_iconst (v := (-1)) dX4_odds_29 (by decide) ?_
    exact rr_iret dX4_odds_30 ⟨rfl, rfl⟩
  · refine rr_iloadn_1 dX4_odds_4 ?_
    refine rr_bipush (v := 7) dX4_odds_5 (by decide) ?_
    refine rr_icmp_gt 29 dX4_odds_7 (by decide) (fun h7 => ?_) (fun h7 => ?_)
    · refine rr_iconst (v := (-1)) dX4_odds_29 (by decide) ?_
      exact rr_iret dX4_odds_30 ⟨rfl, rfl⟩
    · refine rr_iloadn_2 dX4_odds_10 ?_
      refine rr_if_lt 29 dX4_odds_11 (by decide) (fun h11 => ?_) (fun h11 => ?_)
      · refine rr_iconst (v := (-1)) dX4_odds_29 (by decide) ?_
        exact rr_iret dX4_odds_30 ⟨rfl, rfl⟩
      · refine rr_iloadn_2 dX4_odds_14 ?_
        refine rr_bipush (v := 10) dX4_odds_15 (by decide) ?_
        refine rr_icmp_gt 29 dX4_odds_17 (by decide) (fun h17 => ?_) (fun h17 => ?_)
        · refine rr_iconst (v := (-1)) dX4_odds_29 (by decide) ?_
          exact rr_iret dX4_odds_30 ⟨rfl, rfl⟩
        · refine rr_iloadn_3 dX4_odds_20 ?_
          refine rr_if_lt 29 dX4_odds_21 (by decide) (fun h21 => ?_) (fun h21 => ?_)
          · refine rr_iconst (v := (-1)) dX4_odds_29 (by decide) ?_
            exact rr_iret dX4_odds_30 ⟨rfl, rfl⟩
          · refine rr_iloadn_3 dX4_odds_24 ?_
            refine rr_iconst (v := 1) dX4_odds_25 (by decide) ?_
            refine rr_icmp_le 31 dX4_odds_26 (by decide) (fun h26 => (by exfalso; rcases h with h | h | h <;> simp only [hp_rg, decide_eq_false_iff_not, Int32.lt_iff_toInt_lt, Int32.le_iff_toInt_le, hp_m1, hp_m99, hp_l0, hp_l1, hp_l2, hp_l3, hp_l4, hp_l5, hp_l6, hp_l7, hp_l8, hp_l9, hp_l10, hp_l11, hp_l12, hp_l60, hp_l99, hp_l126, hp_l32, hp_l9999] at * <;> omega)) (fun h26 => ?_)
            refine rr_iconst (v := (-1)) dX4_odds_29 (by decide) ?_
            exact rr_iret dX4_odds_30 ⟨rfl, rfl⟩
set_option maxHeartbeats 4000000 in
set_option maxRecDepth 100000 in
theorem c_odds_s (N d : Nat) (σ : rd_S) (hN : 33 ≤ N) (n x fc : Nat) (q : Int32) (hn : n ≤ 7) (hx : x ≤ 10) (hq : hp_rg 0 1 q = true) (hf : σ 0 13 = nI fc) (hfc : fc ≤ 12) : rd_T N (d + 12) yX4_odds cX4_odds 8 (some .int) [.ref 0, .int (nI n), .int (nI x), .int q] σ (fun r s => r = some (.int (nI ((if q = 0 then sr_chN (gw 0 1) (σ 0 11) (σ 0 12) x (min n fc) 0 (sd_rd σ 3) else 10 ^ min n fc) / Nat.gcd (sr_chN (gw 0 1) (σ 0 11) (σ 0 12) x (min n fc) 0 (sd_rd σ 3)) (10 ^ min n fc)))) ∧ cs_eq s σ) := by
  refine rd_start RX4 [.ref 0, .int (nI n), .int (nI x), .int q, .retAddr 0, .retAddr 0, .retAddr 0, .retAddr 0] rfl (by decide +kernel) rfl (Nat.le_of_ble_eq_true rfl) ?_
  refine rr_iloadn_1 dX4_odds_0 ?_
  refine rr_if_lt 29 dX4_odds_1 (by decide) (fun h1 => absurd h1 (nI_pos (by omega))) (fun h1 => ?_)
  refine rr_iloadn_1 dX4_odds_4 ?_
  refine rr_bipush (v := 7) dX4_odds_5 (by decide) ?_
  refine rr_icmp_gt 29 dX4_odds_7 (by decide) (fun h7 => absurd ((nI_lt8 (a := 7) (by omega) (by omega)).mp h7) (by omega)) (fun h7 => ?_)
  refine rr_iloadn_2 dX4_odds_10 ?_
  refine rr_if_lt 29 dX4_odds_11 (by decide) (fun h11 => absurd h11 (nI_pos (by omega))) (fun h11 => ?_)
  refine rr_iloadn_2 dX4_odds_14 ?_
  refine rr_bipush (v := 10) dX4_odds_15 (by decide) ?_
  refine rr_icmp_gt 29 dX4_odds_17 (by decide) (fun h17 => absurd ((nI_lt8 (a := 10) (by omega) (by omega)).mp h17) (by omega)) (fun h17 => ?_)
  refine rr_iloadn_3 dX4_odds_20 ?_
  refine rr_if_lt 29 dX4_odds_21 (by decide) (fun h21 => (by exfalso; simp only [hp_rg, decide_eq_true_eq, decide_eq_false_iff_not, Int32.lt_iff_toInt_lt, Int32.le_iff_toInt_le, hp_m1, hp_m99, hp_l0, hp_l1, hp_l2, hp_l3, hp_l4, hp_l5, hp_l6, hp_l7, hp_l8, hp_l9, hp_l10, hp_l11, hp_l12, hp_l60, hp_l99, hp_l126, hp_l32, hp_l9999] at *; omega)) (fun h21 => ?_)
  refine rr_iloadn_3 dX4_odds_24 ?_
  refine rr_iconst (v := 1) dX4_odds_25 (by decide) ?_
  refine rr_icmp_le 31 dX4_odds_26 (by decide) (fun h26 => ?_) (fun h26 => (by exfalso; simp only [hp_rg, decide_eq_true_eq, decide_eq_false_iff_not, Int32.lt_iff_toInt_lt, Int32.le_iff_toInt_le, hp_m1, hp_m99, hp_l0, hp_l1, hp_l2, hp_l3, hp_l4, hp_l5, hp_l6, hp_l7, hp_l8, hp_l9, hp_l10, hp_l11, hp_l12, hp_l60, hp_l99, hp_l126, hp_l32, hp_l9999] at *; omega))
  refine rr_iloadn_1 dX4_odds_31 ?_
  refine rr_aloadn_0 dX4_odds_32 ?_
  refine rr_geti dX4_odds_33 kf_X4_90 (by omega) rfl rfl ?_
  rw [hf]
  refine rr_mmin dX4_odds_36 kl_X4_214 (Nat.le_of_ble_eq_true rfl) kh_min ?_
  rw [nI_min n fc (by omega) (by omega)]
  refine rr_istore_4 dX4_odds_39 rfl ?_
  refine rr_aloadn_0 dX4_odds_41 ?_
  refine rr_getr 19 dX4_odds_42 kf_X4_41 (by omega) rfl rfl rfl ?_
  refine rr_iconst (v := 0) dX4_odds_45 (by decide) ?_
  refine rr_iconst (v := 1) dX4_odds_46 (by decide) ?_
  refine rr_callVvD (c_X2_aimAtWound N _ _ hN _ _) km_X4_157 rfl rfl (by omega) rfl (Nat.le_of_ble_eq_true rfl) dX4_odds_47 ?_
  refine rr_aloadn_0 dX4_odds_50 ?_
  refine rr_getr 19 dX4_odds_51 kf_X4_41 (by omega) rfl rfl rfl ?_
  refine rr_aloadn_0 dX4_odds_54 ?_
  refine rr_getr 3 dX4_odds_55 kf_X4_19 (by omega) rfl rfl rfl ?_
  refine rr_aloadn_0 dX4_odds_58 ?_
  refine rr_geti dX4_odds_59 kf_X4_96 (by omega) rfl rfl ?_
  refine rr_callVvD (c_X2_startFrom N _ _ hN 3 _ (by omega) rfl) km_X4_169 rfl rfl (by omega) rfl (Nat.le_of_ble_eq_true rfl) dX4_odds_62 ?_
  refine rr_aloadn_0 dX4_odds_65 ?_
  refine rr_getr 19 dX4_odds_66 kf_X4_41 (by omega) rfl rfl rfl ?_
  refine rr_iconst (v := 0) dX4_odds_69 (by decide) ?_
  refine rr_iload_4 dX4_odds_70 ?_
  refine rr_aloadn_0 dX4_odds_72 ?_
  refine rr_geti dX4_odds_73 kf_X4_120 (by omega) rfl rfl ?_
  refine rr_iloadn_2 dX4_odds_76 ?_
  refine rr_callSi (c_chance7 N d (min n fc) hN (by omega) _ _ _) km_X4_219 rfl rfl (Nat.le_of_ble_eq_true rfl) dX4_odds_77 (fun r77 s77 q77 => ?_)
  obtain ⟨hr, he⟩ := q77
  cases hr
  rw [st_G, st_kb, st_rd, aim_w, sr_ch_nI _ _ _ hx]
  refine rr_istore_5 dX4_odds_80 rfl ?_
  refine rr_iconst (v := 1) dX4_odds_82 (by decide) ?_
  refine rr_istore_6 dX4_odds_83 rfl ?_
  refine rr_iconst (v := 0) dX4_odds_85 (by decide) ?_
  refine rr_istore_7 dX4_odds_86 rfl ?_
  refine (lp_odds N _ _ _ _ _ _ _ rfl (min n fc) 0 (min n fc) (by omega) (by omega) (sr_chN_le _ _ _ hx _ _ _)).post (fun r s q => ?_)
  obtain ⟨q1, rfl⟩ := q
  exact ⟨by rw [q1]; simp [rd_u2, sd_rd, sd_wr], ((cs_sr he).trans (cs_st _ _ _)).trans (cs_a _ _ _ _ _ _ _)⟩
