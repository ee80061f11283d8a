/-! ===== RopeDance: the public calls, first part ===== -/
/-- alike but for what is tried out -/
def cs_eq (s σ : rd_S) : Prop := ∀ a b, ¬ (a = 4 ∨ a = 19 ∨ (21 ≤ a ∧ a ≤ 28) ∨ a = 32 ∨ (a = 1 ∧ 2 ≤ b ∧ b ≤ 5)) → s a b = σ a b
theorem cs_eq.refl (σ : rd_S) : cs_eq σ σ := fun _ _ _ => rfl
theorem cs_eq.fe {s σ : rd_S} (h : fe_eq s σ) : cs_eq s σ := fun a b q => h a b (by omega) (by omega)
theorem cs_eq.trans {a b c : rd_S} (h1 : cs_eq a b) (h2 : cs_eq b c) : cs_eq a c := fun x y h => (h1 x y h).trans (h2 x y h)
theorem cs_eq.wr (σ : rd_S) (D : sd_D) : cs_eq (sd_wr σ 4 D) σ := fun a b h => sd_wr_ne D (by omega)
theorem hp_nat {k : Nat} {x : Int32} (h : hp_rg 0 k x = true) : ∃ n, n ≤ k ∧ x = nI n := by
  simp only [hp_rg, decide_eq_true_eq] at h
  exact ⟨x.toInt.natAbs, by omega, hp_nI h.1⟩
def pl_psh (σ : rd_S) (o b c nx sz q : Nat) : rd_S := rd_u2 (rd_u2 (sd_wr σ (b + pl_slot c nx) (sd_rd σ q)) o 1 (nI (pl_slot c nx + 1))) o 2 (nI (min (sz + 1) c))
def pl_pop (σ : rd_S) (o b c nx sz q : Nat) : rd_S := rd_u2 (sd_wr (rd_u2 σ o 1 (nI (pl_prev c nx))) q (sd_rd σ (b + pl_prev c nx))) o 2 (nI sz)
theorem c_psh (N d o a b c : Nat) (σ : rd_S) (hp : pl_ok N o a b c) (q nx sz : Nat) (hq : q < N) (hkq : rd_kd q = 3) (hn : σ o 1 = nI nx) (hn1 : nx ≤ c) (hs : σ o 2 = nI sz) (hs1 : sz ≤ c) : rd_T N (d + 1) yX0_push cX0_push 2 none [.ref o, .ref q] σ (rd_is none (pl_psh σ o b c nx sz q)) := c_X0_push N d o a b c σ hp q nx sz hq hkq hn hn1 hs hs1
theorem pl_slot_lt {c nx : Nat} (h : 0 < c) : pl_slot c nx < c := by unfold pl_slot; split <;> omega
theorem pl_psh_rd {σ : rd_S} {o b c nx sz q r : Nat} (hr : r ≠ o) (hc : 0 < c) (hb : r < b ∨ b + c ≤ r) : sd_rd (pl_psh σ o b c nx sz q) r = sd_rd σ r := by
  have := pl_slot_lt (nx := nx) hc
  simp only [pl_psh, sd_rd_u2 hr, sd_rd_ne _ (show r ≠ b + pl_slot c nx by omega)]
theorem pl_psh_0 {σ : rd_S} {o b c nx sz q a k : Nat} (ha : a ≠ o) (hc : 0 < c) (hb : a < b ∨ b + c ≤ a) : pl_psh σ o b c nx sz q a k = σ a k := by
  have := pl_slot_lt (nx := nx) hc
  simp [pl_psh, rd_u2, ha, sd_wr_ne _ (show a ≠ b + pl_slot c nx by omega)]
set_option maxHeartbeats 4000000 in
set_option maxRecDepth 100000 in
theorem c_write_b (N d : Nat) (σ : rd_S) (hN : 33 ≤ N) (x : Int32) (h : hp_rg 32 126 x = false) : rd_T N (d + 1) yX4_write cX4_write 2 (some .int) [.ref 0, .int x] σ (rd_is (some (.int (-1))) σ) := by
  refine rd_start RX4 [.ref 0, .int x] rfl (by decide +kernel) rfl (Nat.le_of_ble_eq_true rfl) ?_
  refine rr_iloadn_1 dX4_write_0 ?_
  refine rr_bipush (v := 32) dX4_write_1 (by decide) ?_
  refine rr_icmp_lt 12 dX4_write_3 (by decide) (fun h3 => ?_) (fun h3 => ?_)
  · refine rr_iconst (v := (-1)) dX4_write_12 (by decide) ?_
    exact rr_iret dX4_write_13 ⟨rfl, rfl⟩
  · refine rr_iloadn_1 dX4_write_6 ?_
    refine rr_bipush (v := 126) dX4_write_7 (by decide) ?_
    refine rr_icmp_le 14 dX4_write_9 (by decide) (fun h9 => (by exfalso; simp only [hp_rg, decide_eq_true_eq, decide_eq_false_iff_not, Int32.lt_iff_toInt_lt, Int32.le_iff_toInt_le, hp_m1, hp_m99, hp_l0, hp_l1, hp_l2, hp_l3, hp_l4, hp_l5, hp_l6, hp_l7, hp_l8, hp_l9, hp_l10, hp_l11, hp_l12, hp_l60, hp_l99, hp_l126, hp_l32, hp_l9999] at *; omega)) (fun h9 => ?_)
    refine rr_iconst (v := (-1)) dX4_write_12 (by decide) ?_
    exact rr_iret dX4_write_13 ⟨rfl, rfl⟩
set_option maxHeartbeats 4000000 in
set_option maxRecDepth 100000 in
theorem c_write_s (N d : Nat) (σ : rd_S) (hN : 33 ≤ N) (x : Int32) (h : hp_rg 32 126 x = true) (n : Nat) (hn : ps_at σ n) (h2 : n < 200) : rd_T N (d + 1) yX4_write cX4_write 2 (some .int) [.ref 0, .int x] σ (rd_is (some (.int (nI (n + 1)))) (rd_u2 (rd_u2 σ 2 n (vp_nar .byte x.toInt8.toInt32)) 1 1 (nI (n + 1)))) := by
  refine rd_start RX4 [.ref 0, .int x] rfl (by decide +kernel) rfl (Nat.le_of_ble_eq_true rfl) ?_
  refine rr_iloadn_1 dX4_write_0 ?_
  refine rr_bipush (v := 32) dX4_write_1 (by decide) ?_
  refine rr_icmp_lt 12 dX4_write_3 (by decide) (fun h3 => (by exfalso; simp only [hp_rg, decide_eq_true_eq, decide_eq_false_iff_not, Int32.lt_iff_toInt_lt, Int32.le_iff_toInt_le, hp_m1, hp_m99, hp_l0, hp_l1, hp_l2, hp_l3, hp_l4, hp_l5, hp_l6, hp_l7, hp_l8, hp_l9, hp_l10, hp_l11, hp_l12, hp_l60, hp_l99, hp_l126, hp_l32, hp_l9999] at *; omega)) (fun h3 => ?_)
  refine rr_iloadn_1 dX4_write_6 ?_
  refine rr_bipush (v := 126) dX4_write_7 (by decide) ?_
  refine rr_icmp_le 14 dX4_write_9 (by decide) (fun h9 => ?_) (fun h9 => (by exfalso; simp only [hp_rg, decide_eq_true_eq, decide_eq_false_iff_not, Int32.lt_iff_toInt_lt, Int32.le_iff_toInt_le, hp_m1, hp_m99, hp_l0, hp_l1, hp_l2, hp_l3, hp_l4, hp_l5, hp_l6, hp_l7, hp_l8, hp_l9, hp_l10, hp_l11, hp_l12, hp_l60, hp_l99, hp_l126, hp_l32, hp_l9999] at *; omega))
  refine rr_aloadn_0 dX4_write_14 ?_
  refine rr_getr 1 dX4_write_15 kf_X4_10 (by omega) rfl rfl rfl ?_
  refine rr_iloadn_1 dX4_write_18 ?_
  refine rr_callViD (c_add_s N _ _ hN n hn h2 x) km_X4_70 rfl rfl (by omega) rfl (Nat.le_of_ble_eq_true rfl) dX4_write_19 ?_
  refine rr_if_eq 35 dX4_write_22 (by decide) (fun h22 => absurd h22 (by decide)) (fun _ => ?_)
  refine rr_aloadn_0 dX4_write_25 ?_
  refine rr_getr 1 dX4_write_26 kf_X4_10 (by omega) rfl rfl rfl ?_
  refine rr_geti dX4_write_29 kf_X4_84 (by omega) rfl rfl ?_
  refine rr_goto 37 dX4_write_32 (by decide) ?_
  exact rr_iret dX4_write_37 ⟨by simp [rd_u2], rfl⟩
set_option maxHeartbeats 4000000 in
set_option maxRecDepth 100000 in
theorem c_write_f (N d : Nat) (σ : rd_S) (hN : 33 ≤ N) (x : Int32) (h : hp_rg 32 126 x = true) (hn : σ 1 1 = nI 200) : rd_T N (d + 1) yX4_write cX4_write 2 (some .int) [.ref 0, .int x] σ (rd_is (some (.int (-3))) σ) := by
  refine rd_start RX4 [.ref 0, .int x] rfl (by decide +kernel) rfl (Nat.le_of_ble_eq_true rfl) ?_
  refine rr_iloadn_1 dX4_write_0 ?_
  refine rr_bipush (v := 32) dX4_write_1 (by decide) ?_
  refine rr_icmp_lt 12 dX4_write_3 (by decide) (fun h3 => (by exfalso; simp only [hp_rg, decide_eq_true_eq, decide_eq_false_iff_not, Int32.lt_iff_toInt_lt, Int32.le_iff_toInt_le, hp_m1, hp_m99, hp_l0, hp_l1, hp_l2, hp_l3, hp_l4, hp_l5, hp_l6, hp_l7, hp_l8, hp_l9, hp_l10, hp_l11, hp_l12, hp_l60, hp_l99, hp_l126, hp_l32, hp_l9999] at *; omega)) (fun h3 => ?_)
  refine rr_iloadn_1 dX4_write_6 ?_
  refine rr_bipush (v := 126) dX4_write_7 (by decide) ?_
  refine rr_icmp_le 14 dX4_write_9 (by decide) (fun h9 => ?_) (fun h9 => (by exfalso; simp only [hp_rg, decide_eq_true_eq, decide_eq_false_iff_not, Int32.lt_iff_toInt_lt, Int32.le_iff_toInt_le, hp_m1, hp_m99, hp_l0, hp_l1, hp_l2, hp_l3, hp_l4, hp_l5, hp_l6, hp_l7, hp_l8, hp_l9, hp_l10, hp_l11, hp_l12, hp_l60, hp_l99, hp_l126, hp_l32, hp_l9999] at *; omega))
  refine rr_aloadn_0 dX4_write_14 ?_
  refine rr_getr 1 dX4_write_15 kf_X4_10 (by omega) rfl rfl rfl ?_
  refine rr_iloadn_1 dX4_write_18 ?_
  refine rr_callViD (c_add_n N _ _ hN hn x) km_X4_70 rfl rfl (by omega) rfl (Nat.le_of_ble_eq_true rfl) dX4_write_19 ?_
  refine rr_if_eq 35 dX4_write_22 (by decide) (fun _ => ?_) (fun h22 => absurd h22 (by decide))
  refine rr_bipush (v := (-3)) dX4_write_35 (by decide) ?_
  exact rr_iret dX4_write_37 ⟨rfl, rfl⟩
set_option maxHeartbeats 4000000 in
set_option maxRecDepth 100000 in
theorem c_X4_wipe (N d : Nat) (σ : rd_S) (hN : 33 ≤ N) : rd_T N (d + 1) yX4_wipe cX4_wipe 2 (some .int) [.ref 0] σ (rd_is (some (.int (σ 1 1))) (rd_u2 σ 1 1 0)) := by
  refine rd_start RX4 [.ref 0, .retAddr 0] rfl (by decide +kernel) rfl (Nat.le_of_ble_eq_true rfl) ?_
  refine rr_aloadn_0 dX4_wipe_0 ?_
  refine rr_getr 1 dX4_wipe_1 kf_X4_10 (by omega) rfl rfl rfl ?_
  refine rr_geti dX4_wipe_4 kf_X4_84 (by omega) rfl rfl ?_
  refine rr_istoren_1 dX4_wipe_7 rfl ?_
  refine rr_aloadn_0 dX4_wipe_8 ?_
  refine rr_getr 1 dX4_wipe_9 kf_X4_10 (by omega) rfl rfl rfl ?_
  refine rr_callVvD (c_X1_clear N _ _ hN) km_X4_81 rfl rfl (by omega) rfl (Nat.le_of_ble_eq_true rfl) dX4_wipe_12 ?_
  refine rr_iloadn_1 dX4_wipe_15 ?_
  exact rr_iret dX4_wipe_16 ⟨rfl, rfl⟩
set_option maxHeartbeats 4000000 in
set_option maxRecDepth 100000 in
theorem c_X4_fault (N d : Nat) (σ : rd_S) (hN : 33 ≤ N) (n : Nat) (hn : ps_at σ n) : rd_T N (d + 5) yX4_fault cX4_fault 1 (some .int) [.ref 0] σ (rd_is (some (.int (ps_res (ps_run (σ 2) n 201 0 ps_0)))) σ) := by
  refine rd_start RX4 [.ref 0] rfl (by decide +kernel) rfl (Nat.le_of_ble_eq_true rfl) ?_
  refine rr_aloadn_0 dX4_fault_0 ?_
  refine rr_getr 1 dX4_fault_1 kf_X4_10 (by omega) rfl rfl rfl ?_
  refine rr_callViD (c_X1_firstFault N _ _ hN n hn) km_X4_87 rfl rfl (by omega) rfl (Nat.le_of_ble_eq_true rfl) dX4_fault_4 ?_
  exact rr_iret dX4_fault_7 ⟨rfl, rfl⟩
def ly_st (σ : rd_S) (Y : ps_X) : rd_S := (fun τ : rd_S => rd_u2 (rd_u2 (rd_u2 (sd_wr (rd_u2 (rd_u2 (rd_u2 τ 0 11 (τ 1 2)) 0 12 (τ 1 3)) 0 13 (τ 1 4)) 3 (sd_begin (ps_ord (τ 1 5)))) 0 10 0) 5 2 0) 15 2 0) (ps_wr σ Y)
set_option maxHeartbeats 4000000 in
set_option maxRecDepth 100000 in
theorem c_lay_n (N d : Nat) (σ : rd_S) (hN : 33 ≤ N) (n : Nat) (hn : ps_at σ n) (h : n = 0 ∨ ∃ a, ps_run (σ 2) n 201 0 ps_0 = .inl a) : rd_T N (d + 6) yX4_lay cX4_lay 1 (some .int) [.ref 0] σ (rd_is (some (.int (-2))) σ) := by
  refine rd_start RX4 [.ref 0] rfl (by decide +kernel) rfl (Nat.le_of_ble_eq_true rfl) ?_
  refine rr_aloadn_0 dX4_lay_0 ?_
  refine rr_getr 1 dX4_lay_1 kf_X4_10 (by omega) rfl rfl rfl ?_
  refine rr_callViD (c_tells_n N _ _ hN n hn h) km_X4_74 rfl rfl (by omega) rfl (Nat.le_of_ble_eq_true rfl) dX4_lay_4 ?_
  refine rr_if_ne 13 dX4_lay_7 (by decide) (fun h7 => absurd h7 (by decide)) (fun _ => ?_)
  refine rr_bipush (v := (-2)) dX4_lay_10 (by decide) ?_
  exact rr_iret dX4_lay_12 ⟨rfl, rfl⟩
set_option maxHeartbeats 4000000 in
set_option maxRecDepth 100000 in
theorem c_lay_a (N d : Nat) (σ : rd_S) (hN : 33 ≤ N) (n : Nat) (hn : ps_at σ n) (h0 : n ≠ 0) (Y : ps_X) (h : ps_run (σ 2) n 201 0 ps_0 = .inr Y) (hY : ¬ bc_c (ps_tak Y.2.2.2) = 4) : rd_T N (d + 6) yX4_lay cX4_lay 1 (some .int) [.ref 0] σ (rd_is (some (.int (-2))) (ps_wr σ Y)) := by
  refine rd_start RX4 [.ref 0] rfl (by decide +kernel) rfl (Nat.le_of_ble_eq_true rfl) ?_
  have hT := c_tells_s N d σ hN n hn h0 Y h
  rw [if_neg hY] at hT
  refine rr_aloadn_0 dX4_lay_0 ?_
  refine rr_getr 1 dX4_lay_1 kf_X4_10 (by omega) rfl rfl rfl ?_
  refine rr_callViD hT km_X4_74 rfl rfl (by omega) rfl (Nat.le_of_ble_eq_true rfl) dX4_lay_4 ?_
  refine rr_if_ne 13 dX4_lay_7 (by decide) (fun h7 => absurd h7 (by decide)) (fun _ => ?_)
  refine rr_bipush (v := (-2)) dX4_lay_10 (by decide) ?_
  exact rr_iret dX4_lay_12 ⟨rfl, rfl⟩
set_option maxHeartbeats 4000000 in
set_option maxRecDepth 100000 in
theorem c_lay_s (N d : Nat) (σ : rd_S) (hN : 33 ≤ N) (n : Nat) (hn : ps_at σ n) (h0 : n ≠ 0) (Y : ps_X) (h : ps_run (σ 2) n 201 0 ps_0 = .inr Y) (hY : bc_c (ps_tak Y.2.2.2) = 4) : rd_T N (d + 6) yX4_lay cX4_lay 1 (some .int) [.ref 0] σ (rd_is (some (.int (nI Y.1))) (ly_st σ Y)) := by
  refine rd_start RX4 [.ref 0] rfl (by decide +kernel) rfl (Nat.le_of_ble_eq_true rfl) ?_
  have hT := c_tells_s N d σ hN n hn h0 Y h
  rw [if_pos hY] at hT
  refine rr_aloadn_0 dX4_lay_0 ?_
  refine rr_getr 1 dX4_lay_1 kf_X4_10 (by omega) rfl rfl rfl ?_
  refine rr_callViD hT km_X4_74 rfl rfl (by omega) rfl (Nat.le_of_ble_eq_true rfl) dX4_lay_4 ?_
  refine rr_if_ne 13 dX4_lay_7 (by decide) (fun _ => ?_) (fun h7 => absurd h7 (by decide))
  refine rr_aloadn_0 dX4_lay_13 ?_
  refine rr_callVvD (c_X4_takeScript N _ _ hN) km_X4_78 rfl rfl (by omega) rfl (Nat.le_of_ble_eq_true rfl) dX4_lay_14 ?_
  refine rr_aloadn_0 dX4_lay_17 ?_
  refine rr_geti dX4_lay_18 kf_X4_90 (by omega) rfl rfl ?_
  exact rr_iret dX4_lay_21 ⟨by simp [rd_u2, sd_wr, ps_wr], rfl⟩
set_option maxHeartbeats 4000000 in
set_option maxRecDepth 100000 in
theorem c_dancer_b (N d : Nat) (σ : rd_S) (hN : 33 ≤ N) (i w : Int32) (h : hp_rg 0 3 i = false ∨ hp_rg 0 2 w = false) : rd_T N (d + 2) yX4_dancer cX4_dancer 3 (some .int) [.ref 0, .int i, .int w] σ (rd_is (some (.int (-1))) σ) := by
  refine rd_start RX4 [.ref 0, .int i, .int w] rfl (by decide +kernel) rfl (Nat.le_of_ble_eq_true rfl) ?_
  refine rr_iloadn_1 dX4_dancer_0 ?_
  refine rr_callSiD (c_X4_isDancer N _ _ _) km_X4_93 rfl rfl (Nat.le_of_ble_eq_true rfl) dX4_dancer_1 ?_
  cases hi : hp_rg 0 3 i
  · refine rr_if_eq 16 dX4_dancer_4 (by decide) (fun h4 => ?_) (fun h4 => absurd (by simp) h4)
    refine rr_iconst (v := (-1)) dX4_dancer_16 (by decide) ?_
    exact rr_iret dX4_dancer_17 ⟨rfl, rfl⟩
  · rw [hi] at h
    have h : hp_rg 0 2 w = false := by simpa using h
    refine rr_if_eq 16 dX4_dancer_4 (by decide) (fun h4 => absurd h4 (by simp)) (fun h4 => ?_)
    refine rr_iloadn_2 dX4_dancer_7 ?_
    refine rr_if_lt 16 dX4_dancer_8 (by decide) (fun h8 => ?_) (fun h8 => ?_)
    · refine rr_iconst (v := (-1)) dX4_dancer_16 (by decide) ?_
      exact rr_iret dX4_dancer_17 ⟨rfl, rfl⟩
    · refine rr_iloadn_2 dX4_dancer_11 ?_
      refine rr_iconst (v := 2) dX4_dancer_12 (by decide) ?_
      refine rr_icmp_le 18 dX4_dancer_13 (by decide) (fun h13 => (by exfalso; simp only [hp_rg, decide_eq_true_eq, decide_eq_false_iff_not, Int32.lt_iff_toInt_lt, Int32.le_iff_toInt_le, hp_m1, hp_m99, hp_l0, hp_l1, hp_l2, hp_l3, hp_l4, hp_l5, hp_l6, hp_l7, hp_l8, hp_l9, hp_l10, hp_l11, hp_l12, hp_l60, hp_l99, hp_l126, hp_l32, hp_l9999] at *; omega)) (fun h13 => ?_)
      refine rr_iconst (v := (-1)) dX4_dancer_16 (by decide) ?_
      exact rr_iret dX4_dancer_17 ⟨rfl, rfl⟩
set_option maxHeartbeats 4000000 in
set_option maxRecDepth 100000 in
theorem c_dancer_s (N d : Nat) (σ : rd_S) (hN : 33 ≤ N) (i w : Int32) (hi : hp_rg 0 3 i = true) (hw : hp_rg 0 2 w = true) : rd_T N (d + 2) yX4_dancer cX4_dancer 3 (some .int) [.ref 0, .int i, .int w] σ (rd_is (some (.int (if w = 0 then sd_kind (σ 0 11) i else if w = 1 then sd_place (σ 3 0) i else sd_rope (σ 3 1) i))) σ) := by
  refine rd_start RX4 [.ref 0, .int i, .int w] rfl (by decide +kernel) rfl (Nat.le_of_ble_eq_true rfl) ?_
  refine rr_iloadn_1 dX4_dancer_0 ?_
  refine rr_callSiD (c_X4_isDancer N _ _ _) km_X4_93 rfl rfl (Nat.le_of_ble_eq_true rfl) dX4_dancer_1 ?_
  refine rr_if_eq 16 dX4_dancer_4 (by decide) (fun h4 => absurd h4 (by simp [hi])) (fun h4 => ?_)
  refine rr_iloadn_2 dX4_dancer_7 ?_
  refine rr_if_lt 16 dX4_dancer_8 (by decide) (fun h8 => (by exfalso; simp only [hp_rg, decide_eq_true_eq, decide_eq_false_iff_not, Int32.lt_iff_toInt_lt, Int32.le_iff_toInt_le, hp_m1, hp_m99, hp_l0, hp_l1, hp_l2, hp_l3, hp_l4, hp_l5, hp_l6, hp_l7, hp_l8, hp_l9, hp_l10, hp_l11, hp_l12, hp_l60, hp_l99, hp_l126, hp_l32, hp_l9999] at *; omega)) (fun h8 => ?_)
  refine rr_iloadn_2 dX4_dancer_11 ?_
  refine rr_iconst (v := 2) dX4_dancer_12 (by decide) ?_
  refine rr_icmp_le 18 dX4_dancer_13 (by decide) (fun h13 => ?_) (fun h13 => (by exfalso; simp only [hp_rg, decide_eq_true_eq, decide_eq_false_iff_not, Int32.lt_iff_toInt_lt, Int32.le_iff_toInt_le, hp_m1, hp_m99, hp_l0, hp_l1, hp_l2, hp_l3, hp_l4, hp_l5, hp_l6, hp_l7, hp_l8, hp_l9, hp_l10, hp_l11, hp_l12, hp_l60, hp_l99, hp_l126, hp_l32, hp_l9999] at *; omega))
  refine rr_iloadn_2 dX4_dancer_18 ?_
  refine rr_if_ne 31 dX4_dancer_19 (by decide) (fun h19 => ?_) (fun h19 => ?_)
  · refine rr_iloadn_2 dX4_dancer_31 ?_
    refine rr_iconst (v := 1) dX4_dancer_32 (by decide) ?_
    refine rr_icmp_ne 47 dX4_dancer_33 (by decide) (fun h33 => ?_) (fun h33 => ?_)
    · refine rr_aloadn_0 dX4_dancer_47 ?_
      refine rr_getr 3 dX4_dancer_48 kf_X4_19 (by omega) rfl rfl rfl ?_
      refine rr_iloadn_1 dX4_dancer_51 ?_
      refine rr_callViD (c_X3_ropeOf N _ _ _ _ (by omega) rfl) km_X4_107 rfl rfl (by omega) rfl (Nat.le_of_ble_eq_true rfl) dX4_dancer_52 ?_
      exact rr_iret dX4_dancer_55 ⟨by simp [*], rfl⟩
    · refine rr_aloadn_0 dX4_dancer_36 ?_
      refine rr_getr 3 dX4_dancer_37 kf_X4_19 (by omega) rfl rfl rfl ?_
      refine rr_iloadn_1 dX4_dancer_40 ?_
      refine rr_callViD (c_X3_placeOf N _ _ _ _ (by omega) rfl) km_X4_103 rfl rfl (by omega) rfl (Nat.le_of_ble_eq_true rfl) dX4_dancer_41 ?_
      refine rr_goto 55 dX4_dancer_44 (by decide) ?_
      exact rr_iret dX4_dancer_55 ⟨by simp [*], rfl⟩
  · refine rr_aloadn_0 dX4_dancer_22 ?_
    refine rr_geti dX4_dancer_23 kf_X4_96 (by omega) rfl rfl ?_
    refine rr_iloadn_1 dX4_dancer_26 ?_
    refine rr_callSiD (c_X4_kindOf N _ _ _ _) km_X4_99 rfl rfl (Nat.le_of_ble_eq_true rfl) dX4_dancer_27 ?_
    exact rr_iret dX4_dancer_30 ⟨by simp [*], rfl⟩
set_option maxHeartbeats 4000000 in
set_option maxRecDepth 100000 in
theorem c_place_b (N d : Nat) (σ : rd_S) (hN : 33 ≤ N) (i w : Int32) (h : hp_rg 0 3 i = false ∨ hp_rg 0 1 w = false) : rd_T N (d + 2) yX4_place cX4_place 4 (some .int) [.ref 0, .int i, .int w] σ (rd_is (some (.int (-1))) σ) := by
  refine rd_start RX4 [.ref 0, .int i, .int w, .retAddr 0] rfl (by decide +kernel) rfl (Nat.le_of_ble_eq_true rfl) ?_
  refine rr_iloadn_1 dX4_place_0 ?_
  refine rr_if_lt 18 dX4_place_1 (by decide) (fun h1 => ?_) (fun h1 => ?_)
  · refine rr_iconst (v := (-1)) dX4_place_18 (by decide) ?_
    exact rr_iret dX4_place_19 ⟨rfl, rfl⟩
  · refine rr_iloadn_1 dX4_place_4 ?_
    refine rr_iconst (v := 4) dX4_place_5 (by decide) ?_
    refine rr_icmp_ge 18 dX4_place_6 (by decide) (fun h6 => ?_) (fun h6 => ?_)
    · refine rr_iconst (v := (-1)) dX4_place_18 (by decide) ?_
      exact rr_iret dX4_place_19 ⟨rfl, rfl⟩
    · refine rr_iloadn_2 dX4_place_9 ?_
      refine rr_if_lt 18 dX4_place_10 (by decide) (fun h10 => ?_) (fun h10 => ?_)
      · refine rr_iconst (v := (-1)) dX4_place_18 (by decide) ?_
        exact rr_iret dX4_place_19 ⟨rfl, rfl⟩
      · refine rr_iloadn_2 dX4_place_13 ?_
        refine rr_iconst (v := 1) dX4_place_14 (by decide) ?_
        refine rr_icmp_le 20 dX4_place_15 (by decide) (fun h15 => (by rcases h with h | h <;> simp only [hp_rg, decide_eq_false_iff_not, Int32.lt_iff_toInt_lt, Int32.le_iff_toInt_le, hp_m1, hp_m99, hp_l0, hp_l1, hp_l2, hp_l3, hp_l4, hp_l5, hp_l6, hp_l7, hp_l8, hp_l9, hp_l10, hp_l11, hp_l12, hp_l60, hp_l99, hp_l126, hp_l32, hp_l9999] at * <;> omega)) (fun h15 => ?_)
        refine rr_iconst (v := (-1)) dX4_place_18 (by decide) ?_
        exact rr_iret dX4_place_19 ⟨rfl, rfl⟩
set_option maxHeartbeats 4000000 in
set_option maxRecDepth 100000 in
theorem c_place_s (N d : Nat) (σ : rd_S) (hN : 33 ≤ N) (i w : Int32) (hi : hp_rg 0 3 i = true) (hw : hp_rg 0 1 w = true) : rd_T N (d + 2) yX4_place cX4_place 4 (some .int) [.ref 0, .int i, .int w] σ (rd_is (some (.int (if w = 0 then sd_who (σ 3 0) i else sd_rope (σ 3 1) (sd_who (σ 3 0) i)))) σ) := by
  refine rd_start RX4 [.ref 0, .int i, .int w, .retAddr 0] rfl (by decide +kernel) rfl (Nat.le_of_ble_eq_true rfl) ?_
  refine rr_iloadn_1 dX4_place_0 ?_
  refine rr_if_lt 18 dX4_place_1 (by decide) (fun h1 => (by exfalso; simp only [hp_rg, decide_eq_true_eq, decide_eq_false_iff_not, Int32.lt_iff_toInt_lt, Int32.le_iff_toInt_le, hp_m1, hp_m99, hp_l0, hp_l1, hp_l2, hp_l3, hp_l4, hp_l5, hp_l6, hp_l7, hp_l8, hp_l9, hp_l10, hp_l11, hp_l12, hp_l60, hp_l99, hp_l126, hp_l32, hp_l9999] at *; omega)) (fun h1 => ?_)
  refine rr_iloadn_1 dX4_place_4 ?_
  refine rr_iconst (v := 4) dX4_place_5 (by decide) ?_
  refine rr_icmp_ge 18 dX4_place_6 (by decide) (fun h6 => (by exfalso; simp only [hp_rg, decide_eq_true_eq, decide_eq_false_iff_not, Int32.lt_iff_toInt_lt, Int32.le_iff_toInt_le, hp_m1, hp_m99, hp_l0, hp_l1, hp_l2, hp_l3, hp_l4, hp_l5, hp_l6, hp_l7, hp_l8, hp_l9, hp_l10, hp_l11, hp_l12, hp_l60, hp_l99, hp_l126, hp_l32, hp_l9999] at *; omega)) (fun h6 => ?_)
  refine rr_iloadn_2 dX4_place_9 ?_
  refine rr_if_lt 18 dX4_place_10 (by decide) (fun h10 => (by exfalso; simp only [hp_rg, decide_eq_true_eq, decide_eq_false_iff_not, Int32.lt_iff_toInt_lt, Int32.le_iff_toInt_le, hp_m1, hp_m99, hp_l0, hp_l1, hp_l2, hp_l3, hp_l4, hp_l5, hp_l6, hp_l7, hp_l8, hp_l9, hp_l10, hp_l11, hp_l12, hp_l60, hp_l99, hp_l126, hp_l32, hp_l9999] at *; omega)) (fun h10 => ?_)
  refine rr_iloadn_2 dX4_place_13 ?_
  refine rr_iconst (v := 1) dX4_place_14 (by decide) ?_
  refine rr_icmp_le 20 dX4_place_15 (by decide) (fun h15 => ?_) (fun h15 => (by exfalso; simp only [hp_rg, decide_eq_true_eq, decide_eq_false_iff_not, Int32.lt_iff_toInt_lt, Int32.le_iff_toInt_le, hp_m1, hp_m99, hp_l0, hp_l1, hp_l2, hp_l3, hp_l4, hp_l5, hp_l6, hp_l7, hp_l8, hp_l9, hp_l10, hp_l11, hp_l12, hp_l60, hp_l99, hp_l126, hp_l32, hp_l9999] at *; omega))
  refine rr_aloadn_0 dX4_place_20 ?_
  refine rr_getr 3 dX4_place_21 kf_X4_19 (by omega) rfl rfl rfl ?_
  refine rr_iloadn_1 dX4_place_24 ?_
  refine rr_callViD (c_X3_whoAt N _ _ _ _ (by omega) rfl) km_X4_110 rfl rfl (by omega) rfl (Nat.le_of_ble_eq_true rfl) dX4_place_25 ?_
  refine rr_istoren_3 dX4_place_28 rfl ?_
  refine rr_iloadn_2 dX4_place_29 ?_
  refine rr_if_ne 37 dX4_place_30 (by decide) (fun h30 => ?_) (fun h30 => ?_)
  · refine rr_aloadn_0 dX4_place_37 ?_
    refine rr_getr 3 dX4_place_38 kf_X4_19 (by omega) rfl rfl rfl ?_
    refine rr_iloadn_3 dX4_place_41 ?_
    refine rr_callViD (c_X3_ropeOf N _ _ _ _ (by omega) rfl) km_X4_107 rfl rfl (by omega) rfl (Nat.le_of_ble_eq_true rfl) dX4_place_42 ?_
    exact rr_iret dX4_place_45 ⟨by simp [*], rfl⟩
  · refine rr_iloadn_3 dX4_place_33 ?_
    refine rr_goto 45 dX4_place_34 (by decide) ?_
    exact rr_iret dX4_place_45 ⟨by simp [*], rfl⟩
set_option maxHeartbeats 4000000 in
set_option maxRecDepth 100000 in
theorem c_wound_b (N d : Nat) (σ : rd_S) (hN : 33 ≤ N) (w : Int32) (h : hp_rg 0 1 w = false) : rd_T N (d + 0) yX4_wound cX4_wound 2 (some .int) [.ref 0, .int w] σ (rd_is (some (.int (-100000))) σ) := by
  refine rd_start RX4 [.ref 0, .int w] rfl (by decide +kernel) rfl (Nat.le_of_ble_eq_true rfl) ?_
  refine rr_iloadn_1 dX4_wound_0 ?_
  refine rr_if_lt 9 dX4_wound_1 (by decide) (fun h1 => ?_) (fun h1 => ?_)
  · refine rr_ldc dX4_wound_9 kc_X4_113 ?_
    exact rr_iret dX4_wound_11 ⟨rfl, rfl⟩
  · refine rr_iloadn_1 dX4_wound_4 ?_
    refine rr_iconst (v := 1) dX4_wound_5 (by decide) ?_
    refine rr_icmp_le 12 dX4_wound_6 (by decide) (fun h6 => (by exfalso; simp only [hp_rg, decide_eq_true_eq, decide_eq_false_iff_not, Int32.lt_iff_toInt_lt, Int32.le_iff_toInt_le, hp_m1, hp_m99, hp_l0, hp_l1, hp_l2, hp_l3, hp_l4, hp_l5, hp_l6, hp_l7, hp_l8, hp_l9, hp_l10, hp_l11, hp_l12, hp_l60, hp_l99, hp_l126, hp_l32, hp_l9999] at *; omega)) (fun h6 => ?_)
    refine rr_ldc dX4_wound_9 kc_X4_113 ?_
    exact rr_iret dX4_wound_11 ⟨rfl, rfl⟩
set_option maxHeartbeats 4000000 in
set_option maxRecDepth 100000 in
theorem c_wound_s (N d : Nat) (σ : rd_S) (hN : 33 ≤ N) (w : Int32) (hw : hp_rg 0 1 w = true) : rd_T N (d + 0) yX4_wound cX4_wound 2 (some .int) [.ref 0, .int w] σ (rd_is (some (.int (if w = 0 then σ 3 2 else σ 3 3))) σ) := by
  refine rd_start RX4 [.ref 0, .int w] rfl (by decide +kernel) rfl (Nat.le_of_ble_eq_true rfl) ?_
  refine rr_iloadn_1 dX4_wound_0 ?_
  refine rr_if_lt 9 dX4_wound_1 (by decide) (fun h1 => (by exfalso; simp only [hp_rg, decide_eq_true_eq, decide_eq_false_iff_not, Int32.lt_iff_toInt_lt, Int32.le_iff_toInt_le, hp_m1, hp_m99, hp_l0, hp_l1, hp_l2, hp_l3, hp_l4, hp_l5, hp_l6, hp_l7, hp_l8, hp_l9, hp_l10, hp_l11, hp_l12, hp_l60, hp_l99, hp_l126, hp_l32, hp_l9999] at *; omega)) (fun h1 => ?_)
  refine rr_iloadn_1 dX4_wound_4 ?_
  refine rr_iconst (v := 1) dX4_wound_5 (by decide) ?_
  refine rr_icmp_le 12 dX4_wound_6 (by decide) (fun h6 => ?_) (fun h6 => (by exfalso; simp only [hp_rg, decide_eq_true_eq, decide_eq_false_iff_not, Int32.lt_iff_toInt_lt, Int32.le_iff_toInt_le, hp_m1, hp_m99, hp_l0, hp_l1, hp_l2, hp_l3, hp_l4, hp_l5, hp_l6, hp_l7, hp_l8, hp_l9, hp_l10, hp_l11, hp_l12, hp_l60, hp_l99, hp_l126, hp_l32, hp_l9999] at *; omega))
  refine rr_iloadn_1 dX4_wound_12 ?_
  refine rr_if_ne 26 dX4_wound_13 (by decide) (fun h13 => ?_) (fun h13 => ?_)
  · refine rr_aloadn_0 dX4_wound_26 ?_
    refine rr_getr 3 dX4_wound_27 kf_X4_19 (by omega) rfl rfl rfl ?_
    refine rr_geti dX4_wound_30 kf_X4_117 (by omega) rfl rfl ?_
    exact rr_iret dX4_wound_33 ⟨by simp [*], rfl⟩
  · refine rr_aloadn_0 dX4_wound_16 ?_
    refine rr_getr 3 dX4_wound_17 kf_X4_19 (by omega) rfl rfl rfl ?_
    refine rr_geti dX4_wound_20 kf_X4_114 (by omega) rfl rfl ?_
    refine rr_goto 33 dX4_wound_23 (by decide) ?_
    exact rr_iret dX4_wound_33 ⟨by simp [*], rfl⟩
set_option maxHeartbeats 4000000 in
set_option maxRecDepth 100000 in
theorem c_row_b (N d : Nat) (σ : rd_S) (hN : 33 ≤ N) (k : Int32) (h : hp_rg 0 11 k = false) : rd_T N (d + 1) yX4_row cX4_row 2 (some .int) [.ref 0, .int k] σ (rd_is (some (.int (-1))) σ) := by
  refine rd_start RX4 [.ref 0, .int k] rfl (by decide +kernel) rfl (Nat.le_of_ble_eq_true rfl) ?_
  refine rr_iloadn_1 dX4_row_0 ?_
  refine rr_if_lt 10 dX4_row_1 (by decide) (fun h1 => ?_) (fun h1 => ?_)
  · refine rr_iconst (v := (-1)) dX4_row_10 (by decide) ?_
    exact rr_iret dX4_row_11 ⟨rfl, rfl⟩
  · refine rr_iloadn_1 dX4_row_4 ?_
    refine rr_bipush (v := 12) dX4_row_5 (by decide) ?_
    refine rr_icmp_lt 12 dX4_row_7 (by decide) (fun h7 => (by exfalso; simp only [hp_rg, decide_eq_true_eq, decide_eq_false_iff_not, Int32.lt_iff_toInt_lt, Int32.le_iff_toInt_le, hp_m1, hp_m99, hp_l0, hp_l1, hp_l2, hp_l3, hp_l4, hp_l5, hp_l6, hp_l7, hp_l8, hp_l9, hp_l10, hp_l11, hp_l12, hp_l60, hp_l99, hp_l126, hp_l32, hp_l9999] at *; omega)) (fun h7 => ?_)
    refine rr_iconst (v := (-1)) dX4_row_10 (by decide) ?_
    exact rr_iret dX4_row_11 ⟨rfl, rfl⟩
set_option maxHeartbeats 4000000 in
set_option maxRecDepth 100000 in
theorem c_row_s (N d : Nat) (σ : rd_S) (hN : 33 ≤ N) (k : Int32) (hk : hp_rg 0 11 k = true) : rd_T N (d + 1) yX4_row cX4_row 2 (some .int) [.ref 0, .int k] σ (rd_is (some (.int (if σ 0 13 ≤ k then -4 else sd_who (σ 0 12) k))) σ) := by
  refine rd_start RX4 [.ref 0, .int k] rfl (by decide +kernel) rfl (Nat.le_of_ble_eq_true rfl) ?_
  refine rr_iloadn_1 dX4_row_0 ?_
  refine rr_if_lt 10 dX4_row_1 (by decide) (fun h1 => (by exfalso; simp only [hp_rg, decide_eq_true_eq, decide_eq_false_iff_not, Int32.lt_iff_toInt_lt, Int32.le_iff_toInt_le, hp_m1, hp_m99, hp_l0, hp_l1, hp_l2, hp_l3, hp_l4, hp_l5, hp_l6, hp_l7, hp_l8, hp_l9, hp_l10, hp_l11, hp_l12, hp_l60, hp_l99, hp_l126, hp_l32, hp_l9999] at *; omega)) (fun h1 => ?_)
  refine rr_iloadn_1 dX4_row_4 ?_
  refine rr_bipush (v := 12) dX4_row_5 (by decide) ?_
  refine rr_icmp_lt 12 dX4_row_7 (by decide) (fun h7 => ?_) (fun h7 => (by exfalso; simp only [hp_rg, decide_eq_true_eq, decide_eq_false_iff_not, Int32.lt_iff_toInt_lt, Int32.le_iff_toInt_le, hp_m1, hp_m99, hp_l0, hp_l1, hp_l2, hp_l3, hp_l4, hp_l5, hp_l6, hp_l7, hp_l8, hp_l9, hp_l10, hp_l11, hp_l12, hp_l60, hp_l99, hp_l126, hp_l32, hp_l9999] at *; omega))
  refine rr_iloadn_1 dX4_row_12 ?_
  refine rr_aloadn_0 dX4_row_13 ?_
  refine rr_geti dX4_row_14 kf_X4_90 (by omega) rfl rfl ?_
  refine rr_icmp_ge 31 dX4_row_17 (by decide) (fun h17 => ?_) (fun h17 => ?_)
  · refine rr_bipush (v := (-4)) dX4_row_31 (by decide) ?_
    exact rr_iret dX4_row_33 ⟨by simp [*], rfl⟩
  · refine rr_aloadn_0 dX4_row_20 ?_
    refine rr_geti dX4_row_21 kf_X4_120 (by omega) rfl rfl ?_
    refine rr_iloadn_1 dX4_row_24 ?_
    refine rr_callSiD (c_X4_pairAt N _ _ _ _) km_X4_123 rfl rfl (Nat.le_of_ble_eq_true rfl) dX4_row_25 ?_
    refine rr_goto 33 dX4_row_28 (by decide) ?_
    exact rr_iret dX4_row_33 ⟨by simp [*], rfl⟩
set_option maxHeartbeats 4000000 in
set_option maxRecDepth 100000 in
theorem c_dance_b (N d : Nat) (σ : rd_S) (hN : 33 ≤ N) (f : Int32) (h : hp_rg 0 3 f = false) : rd_T N (d + 3) yX4_dance cX4_dance 3 (some .int) [.ref 0, .int f] σ (rd_is (some (.int (-1))) σ) := by
  refine rd_start RX4 [.ref 0, .int f, .retAddr 0] rfl (by decide +kernel) rfl (Nat.le_of_ble_eq_true rfl) ?_
  refine rr_iloadn_1 dX4_dance_0 ?_
  refine rr_if_lt 9 dX4_dance_1 (by decide) (fun h1 => ?_) (fun h1 => ?_)
  · refine rr_iconst (v := (-1)) dX4_dance_9 (by decide) ?_
    exact rr_iret dX4_dance_10 ⟨rfl, rfl⟩
  · refine rr_iloadn_1 dX4_dance_4 ?_
    refine rr_iconst (v := 3) dX4_dance_5 (by decide) ?_
    refine rr_icmp_le 11 dX4_dance_6 (by decide) (fun h6 => (by exfalso; simp only [hp_rg, decide_eq_true_eq, decide_eq_false_iff_not, Int32.lt_iff_toInt_lt, Int32.le_iff_toInt_le, hp_m1, hp_m99, hp_l0, hp_l1, hp_l2, hp_l3, hp_l4, hp_l5, hp_l6, hp_l7, hp_l8, hp_l9, hp_l10, hp_l11, hp_l12, hp_l60, hp_l99, hp_l126, hp_l32, hp_l9999] at *; omega)) (fun h6 => ?_)
    refine rr_iconst (v := (-1)) dX4_dance_9 (by decide) ?_
    exact rr_iret dX4_dance_10 ⟨rfl, rfl⟩
set_option maxHeartbeats 4000000 in
set_option maxRecDepth 100000 in
theorem c_dance_n (N d : Nat) (σ : rd_S) (hN : 33 ≤ N) (f : Int32) (hf : hp_rg 0 3 f = true) (hst : sd_st (sd_rd σ 3) f (σ 0 11) = none) : rd_T N (d + 3) yX4_dance cX4_dance 3 (some .int) [.ref 0, .int f] σ (rd_is (some (.int (-2))) σ) := by
  refine rd_start RX4 [.ref 0, .int f, .retAddr 0] rfl (by decide +kernel) rfl (Nat.le_of_ble_eq_true rfl) ?_
  refine rr_iloadn_1 dX4_dance_0 ?_
  refine rr_if_lt 9 dX4_dance_1 (by decide) (fun h1 => (by exfalso; simp only [hp_rg, decide_eq_true_eq, decide_eq_false_iff_not, Int32.lt_iff_toInt_lt, Int32.le_iff_toInt_le, hp_m1, hp_m99, hp_l0, hp_l1, hp_l2, hp_l3, hp_l4, hp_l5, hp_l6, hp_l7, hp_l8, hp_l9, hp_l10, hp_l11, hp_l12, hp_l60, hp_l99, hp_l126, hp_l32, hp_l9999] at *; omega)) (fun h1 => ?_)
  refine rr_iloadn_1 dX4_dance_4 ?_
  refine rr_iconst (v := 3) dX4_dance_5 (by decide) ?_
  refine rr_icmp_le 11 dX4_dance_6 (by decide) (fun h6 => ?_) (fun h6 => (by exfalso; simp only [hp_rg, decide_eq_true_eq, decide_eq_false_iff_not, Int32.lt_iff_toInt_lt, Int32.le_iff_toInt_le, hp_m1, hp_m99, hp_l0, hp_l1, hp_l2, hp_l3, hp_l4, hp_l5, hp_l6, hp_l7, hp_l8, hp_l9, hp_l10, hp_l11, hp_l12, hp_l60, hp_l99, hp_l126, hp_l32, hp_l9999] at *; omega))
  refine rr_aloadn_0 dX4_dance_11 ?_
  refine rr_getr 3 dX4_dance_12 kf_X4_19 (by omega) rfl rfl rfl ?_
  refine rr_iloadn_1 dX4_dance_15 ?_
  refine rr_aloadn_0 dX4_dance_16 ?_
  refine rr_geti dX4_dance_17 kf_X4_96 (by omega) rfl rfl ?_
  refine rr_callViD (c_X3_twistsOf N _ _ _ _ _ (by omega) rfl) km_X4_126 rfl rfl (by omega) rfl (Nat.le_of_ble_eq_true rfl) dX4_dance_20 ?_
  refine rr_istoren_2 dX4_dance_23 rfl ?_
  refine rr_aloadn_0 dX4_dance_24 ?_
  refine rr_getr 3 dX4_dance_25 kf_X4_19 (by omega) rfl rfl rfl ?_
  refine rr_iloadn_2 dX4_dance_28 ?_
  refine rr_callViD (c_X3_isTooTight N _ _ _ _ (by omega) rfl) km_X4_129 rfl rfl (by omega) rfl (Nat.le_of_ble_eq_true rfl) dX4_dance_29 ?_
  refine rr_if_eq 38 dX4_dance_32 (by decide) (fun h32 => absurd h32 (by unfold sd_st at hst; split at hst; { rename_i hq; rw [if_pos (by simpa [sd_rd] using hq)]; decide }; { cases hst })) (fun h32 => ?_)
  refine rr_bipush (v := (-2)) dX4_dance_35 (by decide) ?_
  exact rr_iret dX4_dance_37 ⟨rfl, rfl⟩
set_option maxHeartbeats 4000000 in
set_option maxRecDepth 100000 in
theorem c_dance_s (N d : Nat) (σ : rd_S) (hN : 33 ≤ N) (f : Int32) (hf : hp_rg 0 3 f = true) {E : sd_D} (hst : sd_st (sd_rd σ 3) f (σ 0 11) = some E) (nx sz : Nat) (hn : σ 5 1 = nI nx) (hn1 : nx ≤ 8) (hs : σ 5 2 = nI sz) (hs1 : sz ≤ 8) : rd_T N (d + 3) yX4_dance cX4_dance 3 (some .int) [.ref 0, .int f] σ (rd_is (some (.int (10 + sd_tw (sd_rd σ 3) f (σ 0 11)))) (sd_wr (pl_psh σ 5 7 8 nx sz 3) 3 E)) := by
  refine rd_start RX4 [.ref 0, .int f, .retAddr 0] rfl (by decide +kernel) rfl (Nat.le_of_ble_eq_true rfl) ?_
  refine rr_iloadn_1 dX4_dance_0 ?_
  refine rr_if_lt 9 dX4_dance_1 (by decide) (fun h1 => (by exfalso; simp only [hp_rg, decide_eq_true_eq, decide_eq_false_iff_not, Int32.lt_iff_toInt_lt, Int32.le_iff_toInt_le, hp_m1, hp_m99, hp_l0, hp_l1, hp_l2, hp_l3, hp_l4, hp_l5, hp_l6, hp_l7, hp_l8, hp_l9, hp_l10, hp_l11, hp_l12, hp_l60, hp_l99, hp_l126, hp_l32, hp_l9999] at *; omega)) (fun h1 => ?_)
  refine rr_iloadn_1 dX4_dance_4 ?_
  refine rr_iconst (v := 3) dX4_dance_5 (by decide) ?_
  refine rr_icmp_le 11 dX4_dance_6 (by decide) (fun h6 => ?_) (fun h6 => (by exfalso; simp only [hp_rg, decide_eq_true_eq, decide_eq_false_iff_not, Int32.lt_iff_toInt_lt, Int32.le_iff_toInt_le, hp_m1, hp_m99, hp_l0, hp_l1, hp_l2, hp_l3, hp_l4, hp_l5, hp_l6, hp_l7, hp_l8, hp_l9, hp_l10, hp_l11, hp_l12, hp_l60, hp_l99, hp_l126, hp_l32, hp_l9999] at *; omega))
  refine rr_aloadn_0 dX4_dance_11 ?_
  refine rr_getr 3 dX4_dance_12 kf_X4_19 (by omega) rfl rfl rfl ?_
  refine rr_iloadn_1 dX4_dance_15 ?_
  refine rr_aloadn_0 dX4_dance_16 ?_
  refine rr_geti dX4_dance_17 kf_X4_96 (by omega) rfl rfl ?_
  refine rr_callViD (c_X3_twistsOf N _ _ _ _ _ (by omega) rfl) km_X4_126 rfl rfl (by omega) rfl (Nat.le_of_ble_eq_true rfl) dX4_dance_20 ?_
  refine rr_istoren_2 dX4_dance_23 rfl ?_
  refine rr_aloadn_0 dX4_dance_24 ?_
  refine rr_getr 3 dX4_dance_25 kf_X4_19 (by omega) rfl rfl rfl ?_
  refine rr_iloadn_2 dX4_dance_28 ?_
  refine rr_callViD (c_X3_isTooTight N _ _ _ _ (by omega) rfl) km_X4_129 rfl rfl (by omega) rfl (Nat.le_of_ble_eq_true rfl) dX4_dance_29 ?_
  refine rr_if_eq 38 dX4_dance_32 (by decide) (fun h32 => ?_) (fun h32 => absurd (by unfold sd_st at hst; split at hst; { cases hst }; { rename_i hq; rw [if_neg (by simpa [sd_rd] using hq)] }) h32)
  refine rr_aloadn_0 dX4_dance_38 ?_
  refine rr_getr 5 dX4_dance_39 kf_X4_31 (by omega) rfl rfl rfl ?_
  refine rr_aloadn_0 dX4_dance_42 ?_
  refine rr_getr 3 dX4_dance_43 kf_X4_19 (by omega) rfl rfl rfl ?_
  refine rr_callVvD (c_psh N _ 5 6 7 8 σ (pl_past hN) 3 nx sz (by omega) rfl hn hn1 hs hs1) km_X4_132 rfl rfl (by omega) rfl (Nat.le_of_ble_eq_true rfl) dX4_dance_46 ?_
  refine rr_aloadn_0 dX4_dance_49 ?_
  refine rr_getr 3 dX4_dance_50 kf_X4_19 (by omega) rfl rfl rfl ?_
  refine rr_iloadn_1 dX4_dance_53 ?_
  refine rr_aloadn_0 dX4_dance_54 ?_
  refine rr_geti dX4_dance_55 kf_X4_96 (by omega) rfl rfl ?_
  refine rr_callViD (c_step_s N _ _ _ _ _ (by omega) rfl (D' := E) (by rw [show sd_rd _ 3 = sd_rd σ 3 from pl_psh_rd (by decide) (by decide) (by decide), show (_ : rd_S) 0 11 = σ 0 11 from pl_psh_0 (by decide) (by decide) (by decide)]; exact hst)) km_X4_136 rfl rfl (by omega) rfl (Nat.le_of_ble_eq_true rfl) dX4_dance_58 ?_
  refine rr_pop dX4_dance_61 rfl ?_
  refine rr_bipush (v := 10) dX4_dance_62 (by decide) ?_
  refine rr_iloadn_2 dX4_dance_64 ?_
  refine rr_iadd dX4_dance_65 ?_
  exact rr_iret dX4_dance_66 ⟨rfl, rfl⟩
set_option maxHeartbeats 4000000 in
set_option maxRecDepth 100000 in
theorem c_put_b (N d : Nat) (σ : rd_S) (hN : 33 ≤ N) (i j : Int32) (h : ¬ (hp_rg 0 3 i = true ∧ hp_rg 0 3 j = true ∧ ¬ i = j)) : rd_T N (d + 3) yX4_put cX4_put 3 (some .int) [.ref 0, .int i, .int j] σ (rd_is (some (.int (-1))) σ) := by
  refine rd_start RX4 [.ref 0, .int i, .int j] rfl (by decide +kernel) rfl (Nat.le_of_ble_eq_true rfl) ?_
  refine rr_iloadn_1 dX4_put_0 ?_
  refine rr_iloadn_2 dX4_put_1 ?_
  refine rr_callSiD (c_X4_areTwo N _ _ _ _) km_X4_140 rfl rfl (Nat.le_of_ble_eq_true rfl) dX4_put_2 ?_
  refine rr_if_ne 10 dX4_put_5 (by decide) (fun h5 => absurd (if_neg h) h5) (fun h5 => ?_)
  refine rr_iconst (v := (-1)) dX4_put_8 (by decide) ?_
  exact rr_iret dX4_put_9 ⟨rfl, rfl⟩
set_option maxHeartbeats 4000000 in
set_option maxRecDepth 100000 in
theorem c_put_s (N d : Nat) (σ : rd_S) (hN : 33 ≤ N) (i j : Int32) (h : hp_rg 0 3 i = true ∧ hp_rg 0 3 j = true ∧ ¬ i = j) (nx sz : Nat) (hn : σ 5 1 = nI nx) (hn1 : nx ≤ 8) (hs : σ 5 2 = nI sz) (hs1 : sz ≤ 8) : rd_T N (d + 3) yX4_put cX4_put 3 (some .int) [.ref 0, .int i, .int j] σ (rd_is (some (.int (sd_place (sd_xch (sd_rd σ 3) i j).1 i))) (sd_wr (pl_psh σ 5 7 8 nx sz 3) 3 (sd_xch (sd_rd σ 3) i j))) := by
  refine rd_start RX4 [.ref 0, .int i, .int j] rfl (by decide +kernel) rfl (Nat.le_of_ble_eq_true rfl) ?_
  refine rr_iloadn_1 dX4_put_0 ?_
  refine rr_iloadn_2 dX4_put_1 ?_
  refine rr_callSiD (c_X4_areTwo N _ _ _ _) km_X4_140 rfl rfl (Nat.le_of_ble_eq_true rfl) dX4_put_2 ?_
  refine rr_if_ne 10 dX4_put_5 (by decide) (fun h5 => ?_) (fun h5 => absurd h5 (by rw [if_pos h]; decide))
  refine rr_aloadn_0 dX4_put_10 ?_
  refine rr_getr 5 dX4_put_11 kf_X4_31 (by omega) rfl rfl rfl ?_
  refine rr_aloadn_0 dX4_put_14 ?_
  refine rr_getr 3 dX4_put_15 kf_X4_19 (by omega) rfl rfl rfl ?_
  refine rr_callVvD (c_psh N _ 5 6 7 8 σ (pl_past hN) 3 nx sz (by omega) rfl hn hn1 hs hs1) km_X4_132 rfl rfl (by omega) rfl (Nat.le_of_ble_eq_true rfl) dX4_put_18 ?_
  refine rr_aloadn_0 dX4_put_21 ?_
  refine rr_getr 3 dX4_put_22 kf_X4_19 (by omega) rfl rfl rfl ?_
  refine rr_iloadn_1 dX4_put_25 ?_
  refine rr_iloadn_2 dX4_put_26 ?_
  refine rr_callVvD (c_X3_exchange N _ _ _ _ _ (by omega) rfl) km_X4_143 rfl rfl (by omega) rfl (Nat.le_of_ble_eq_true rfl) dX4_put_27 ?_
  rw [show sd_rd _ 3 = sd_rd σ 3 from pl_psh_rd (σ := σ) (q := 3) (o := 5) (b := 7) (c := 8) (nx := nx) (sz := sz) (by decide) (by decide) (by decide)]
  refine rr_aloadn_0 dX4_put_30 ?_
  refine rr_getr 3 dX4_put_31 kf_X4_19 (by omega) rfl rfl rfl ?_
  refine rr_iloadn_1 dX4_put_34 ?_
  refine rr_callViD (c_X3_placeOf N _ _ _ _ (by omega) rfl) km_X4_103 rfl rfl (by omega) rfl (Nat.le_of_ble_eq_true rfl) dX4_put_35 ?_
  exact rr_iret dX4_put_38 ⟨by simp [sd_wr], rfl⟩
set_option maxHeartbeats 4000000 in
set_option maxRecDepth 100000 in
theorem c_undo_n (N d : Nat) (σ : rd_S) (hN : 33 ≤ N) (hs : σ 5 2 = 0) : rd_T N (d + 2) yX4_undo cX4_undo 1 (some .int) [.ref 0] σ (rd_is (some (.int (-2))) σ) := by
  refine rd_start RX4 [.ref 0] rfl (by decide +kernel) rfl (Nat.le_of_ble_eq_true rfl) ?_
  refine rr_aloadn_0 dX4_undo_0 ?_
  refine rr_getr 5 dX4_undo_1 kf_X4_31 (by omega) rfl rfl rfl ?_
  refine rr_aloadn_0 dX4_undo_4 ?_
  refine rr_getr 3 dX4_undo_5 kf_X4_19 (by omega) rfl rfl rfl ?_
  refine rr_callViD (c_pop_n N _ 5 6 7 8 σ (pl_past hN) 3 hs) km_X4_147 rfl rfl (by omega) rfl (Nat.le_of_ble_eq_true rfl) dX4_undo_8 ?_
  refine rr_if_eq 24 dX4_undo_11 (by decide) (fun _ => ?_) (fun h11 => absurd h11 (by decide))
  refine rr_bipush (v := (-2)) dX4_undo_24 (by decide) ?_
  exact rr_iret dX4_undo_26 ⟨rfl, rfl⟩
set_option maxHeartbeats 4000000 in
set_option maxRecDepth 100000 in
theorem c_undo_s (N d : Nat) (σ : rd_S) (hN : 33 ≤ N) (nx sz : Nat) (hn : σ 5 1 = nI nx) (hn1 : nx ≤ 8) (hs : σ 5 2 = nI (sz + 1)) (hs1 : sz + 1 ≤ 8) : rd_T N (d + 2) yX4_undo cX4_undo 1 (some .int) [.ref 0] σ (rd_is (some (.int (nI sz))) (pl_pop σ 5 7 8 nx sz 3)) := by
  refine rd_start RX4 [.ref 0] rfl (by decide +kernel) rfl (Nat.le_of_ble_eq_true rfl) ?_
  refine rr_aloadn_0 dX4_undo_0 ?_
  refine rr_getr 5 dX4_undo_1 kf_X4_31 (by omega) rfl rfl rfl ?_
  refine rr_aloadn_0 dX4_undo_4 ?_
  refine rr_getr 3 dX4_undo_5 kf_X4_19 (by omega) rfl rfl rfl ?_
  refine rr_callViD (c_pop_s N _ 5 6 7 8 σ (pl_past hN) 3 nx sz (by omega) rfl hn hn1 hs hs1 (by decide)) km_X4_147 rfl rfl (by omega) rfl (Nat.le_of_ble_eq_true rfl) dX4_undo_8 ?_
  refine rr_if_eq 24 dX4_undo_11 (by decide) (fun h11 => absurd h11 (by decide)) (fun _ => ?_)
  refine rr_aloadn_0 dX4_undo_14 ?_
  refine rr_getr 5 dX4_undo_15 kf_X4_31 (by omega) rfl rfl rfl ?_
  refine rr_geti dX4_undo_18 kf_X4_151 (by omega) rfl rfl ?_
  refine rr_goto 26 dX4_undo_21 (by decide) ?_
  exact rr_iret dX4_undo_26 ⟨by simp [rd_u2], rfl⟩
set_option maxHeartbeats 4000000 in
set_option maxRecDepth 100000 in
theorem c_keep_f (N d : Nat) (σ : rd_S) (hN : 33 ≤ N) (hs : σ 15 2 = nI 2) : rd_T N (d + 2) yX4_keep cX4_keep 1 (some .int) [.ref 0] σ (rd_is (some (.int (-3))) σ) := by
  refine rd_start RX4 [.ref 0] rfl (by decide +kernel) rfl (Nat.le_of_ble_eq_true rfl) ?_
  refine rr_aloadn_0 dX4_keep_0 ?_
  refine rr_getr 15 dX4_keep_1 kf_X4_35 (by omega) rfl rfl rfl ?_
  refine rr_callViD (c_X0_isFull N _ 15 16 17 2 σ (pl_shelf hN) 2 hs (by decide)) km_X4_229 rfl rfl (by omega) rfl (Nat.le_of_ble_eq_true rfl) dX4_keep_4 ?_
  refine rr_if_eq 13 dX4_keep_7 (by decide) (fun h7 => absurd h7 (by decide)) (fun h7 => ?_)
  refine rr_bipush (v := (-3)) dX4_keep_10 (by decide) ?_
  exact rr_iret dX4_keep_12 ⟨rfl, rfl⟩
set_option maxHeartbeats 4000000 in
set_option maxRecDepth 100000 in
theorem c_keep_s (N d : Nat) (σ : rd_S) (hN : 33 ≤ N) (nx sz : Nat) (hn : σ 15 1 = nI nx) (hn1 : nx ≤ 2) (hs : σ 15 2 = nI sz) (hs1 : sz < 2) : rd_T N (d + 2) yX4_keep cX4_keep 1 (some .int) [.ref 0] σ (rd_is (some (.int (nI (min (sz + 1) 2)))) (pl_psh σ 15 17 2 nx sz 3)) := by
  refine rd_start RX4 [.ref 0] rfl (by decide +kernel) rfl (Nat.le_of_ble_eq_true rfl) ?_
  refine rr_aloadn_0 dX4_keep_0 ?_
  refine rr_getr 15 dX4_keep_1 kf_X4_35 (by omega) rfl rfl rfl ?_
  refine rr_callViD (c_X0_isFull N _ 15 16 17 2 σ (pl_shelf hN) sz hs (by omega)) km_X4_229 rfl rfl (by omega) rfl (Nat.le_of_ble_eq_true rfl) dX4_keep_4 ?_
  refine rr_if_eq 13 dX4_keep_7 (by decide) (fun h7 => ?_) (fun h7 => absurd (if_pos hs1) h7)
  refine rr_aloadn_0 dX4_keep_13 ?_
  refine rr_getr 15 dX4_keep_14 kf_X4_35 (by omega) rfl rfl rfl ?_
  refine rr_aloadn_0 dX4_keep_17 ?_
  refine rr_getr 3 dX4_keep_18 kf_X4_19 (by omega) rfl rfl rfl ?_
  refine rr_callVvD (c_psh N _ 15 16 17 2 σ (pl_shelf hN) 3 nx sz (by omega) rfl hn hn1 hs (by omega)) km_X4_132 rfl rfl (by omega) rfl (Nat.le_of_ble_eq_true rfl) dX4_keep_21 ?_
  refine rr_aloadn_0 dX4_keep_24 ?_
  refine rr_getr 15 dX4_keep_25 kf_X4_35 (by omega) rfl rfl rfl ?_
  refine rr_geti dX4_keep_28 kf_X4_151 (by omega) rfl rfl ?_
  exact rr_iret dX4_keep_31 ⟨by simp [pl_psh, rd_u2], rfl⟩
set_option maxHeartbeats 4000000 in
set_option maxRecDepth 100000 in
theorem c_back_n (N d : Nat) (σ : rd_S) (hN : 33 ≤ N) (hs : σ 15 2 = 0) : rd_T N (d + 2) yX4_back cX4_back 1 (some .int) [.ref 0] σ (rd_is (some (.int (-2))) σ) := by
  refine rd_start RX4 [.ref 0] rfl (by decide +kernel) rfl (Nat.le_of_ble_eq_true rfl) ?_
  refine rr_aloadn_0 dX4_back_0 ?_
  refine rr_getr 15 dX4_back_1 kf_X4_35 (by omega) rfl rfl rfl ?_
  refine rr_aloadn_0 dX4_back_4 ?_
  refine rr_getr 3 dX4_back_5 kf_X4_19 (by omega) rfl rfl rfl ?_
  refine rr_callViD (c_pop_n N _ 15 16 17 2 σ (pl_shelf hN) 3 hs) km_X4_147 rfl rfl (by omega) rfl (Nat.le_of_ble_eq_true rfl) dX4_back_8 ?_
  refine rr_if_ne 17 dX4_back_11 (by decide) (fun h11 => absurd h11 (by decide)) (fun _ => ?_)
  refine rr_bipush (v := (-2)) dX4_back_14 (by decide) ?_
  exact rr_iret dX4_back_16 ⟨rfl, rfl⟩
set_option maxHeartbeats 4000000 in
set_option maxRecDepth 100000 in
theorem c_back_s (N d : Nat) (σ : rd_S) (hN : 33 ≤ N) (nx sz : Nat) (hn : σ 15 1 = nI nx) (hn1 : nx ≤ 2) (hs : σ 15 2 = nI (sz + 1)) (hs1 : sz + 1 ≤ 2) : rd_T N (d + 2) yX4_back cX4_back 1 (some .int) [.ref 0] σ (rd_is (some (.int (nI sz))) (rd_u2 (pl_pop σ 15 17 2 nx sz 3) 5 2 0)) := by
  refine rd_start RX4 [.ref 0] rfl (by decide +kernel) rfl (Nat.le_of_ble_eq_true rfl) ?_
  refine rr_aloadn_0 dX4_back_0 ?_
  refine rr_getr 15 dX4_back_1 kf_X4_35 (by omega) rfl rfl rfl ?_
  refine rr_aloadn_0 dX4_back_4 ?_
  refine rr_getr 3 dX4_back_5 kf_X4_19 (by omega) rfl rfl rfl ?_
  refine rr_callViD (c_pop_s N _ 15 16 17 2 σ (pl_shelf hN) 3 nx sz (by omega) rfl hn hn1 hs hs1 (by decide)) km_X4_147 rfl rfl (by omega) rfl (Nat.le_of_ble_eq_true rfl) dX4_back_8 ?_
  refine rr_if_ne 17 dX4_back_11 (by decide) (fun _ => ?_) (fun h11 => absurd h11 (by decide))
  refine rr_aloadn_0 dX4_back_17 ?_
  refine rr_getr 5 dX4_back_18 kf_X4_31 (by omega) rfl rfl rfl ?_
  refine rr_callVvD (c_X0_clear N _ _ _ (by omega) rfl) km_X4_232 rfl rfl (by omega) rfl (Nat.le_of_ble_eq_true rfl) dX4_back_21 ?_
  refine rr_aloadn_0 dX4_back_24 ?_
  refine rr_getr 15 dX4_back_25 kf_X4_35 (by omega) rfl rfl rfl ?_
  refine rr_geti dX4_back_28 kf_X4_151 (by omega) rfl rfl ?_
  exact rr_iret dX4_back_31 ⟨by simp [rd_u2], rfl⟩
set_option maxHeartbeats 4000000 in
set_option maxRecDepth 100000 in
theorem c_X4_forget (N d : Nat) (σ : rd_S) (hN : 33 ≤ N) : rd_T N (d + 0) yX4_forget cX4_forget 2 (some .int) [.ref 0] σ (rd_is (some (.int (σ 0 10))) (rd_u2 σ 0 10 0)) := by
  refine rd_start RX4 [.ref 0, .retAddr 0] rfl (by decide +kernel) rfl (Nat.le_of_ble_eq_true rfl) ?_
  refine rr_aloadn_0 dX4_forget_0 ?_
  refine rr_geti dX4_forget_1 kf_X4_190 (by omega) rfl rfl ?_
  refine rr_istoren_1 dX4_forget_4 rfl ?_
  refine rr_aloadn_0 dX4_forget_5 ?_
  refine rr_iconst (v := 0) dX4_forget_6 (by decide) ?_
  refine rr_puti dX4_forget_7 kf_X4_190 if_4_10 (by omega) rfl rfl ?_
  refine rr_iloadn_1 dX4_forget_10 ?_
  exact rr_iret dX4_forget_11 ⟨rfl, rfl⟩
