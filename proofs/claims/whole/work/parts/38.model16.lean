/-! ===== the reference: what is written ===== -/
/-- the reference's letter at k -/
def lt_l (t : Nat → Int32) (n k : Nat) : Int32 := if k < n then t k else -1
def tx_at (σ : rd_S) (n : Nat) : Prop := σ 33 12 = nI n ∧ n ≤ 200 ∧ ∀ k, k < n → 32 ≤ (σ 41 k).toInt ∧ (σ 41 k).toInt ≤ 126
def fg_l (t : Nat → Int32) (n k : Nat) (m : Int) : Int32 := if hp_rg 0 m (lt_l t n k - 48) = true then lt_l t n k - 48 else -4
set_option maxHeartbeats 4000000 in
set_option maxRecDepth 100000 in
theorem c_letter (N d : Nat) (σ : rd_S) (hN : 49 ≤ N) (n k : Nat) (hn : σ 33 12 = nI n) (hn2 : n ≤ 200) (hk : k < 1000) : rd_T N (d + 0) yX5_letter cX5_letter 2 (some .int) [.ref 33, .int (nI k)] σ (rd_is (some (.int (lt_l (σ 41) n k))) σ) := by
  refine rd_start RX5 [.ref 33, .int (nI k)] rfl (by decide +kernel) rfl (Nat.le_of_ble_eq_true rfl) ?_
  refine rr_iloadn_1 dX5_letter_0 ?_
  refine rr_aloadn_0 dX5_letter_1 ?_
  refine rr_geti dX5_letter_2 kf_X5_81 (by omega) rfl rfl ?_
  rw [hn]
  by_cases hkn : k < n
  · refine rr_icmp_ge 17 dX5_letter_5 (by decide) (fun h5 => absurd ((nI_lek (by omega) (by omega)).mp h5) (by omega)) (fun h5 => ?_)
    refine rr_aloadn_0 dX5_letter_8 ?_
    refine rr_getr 41 dX5_letter_9 kf_X5_31 (by omega) rfl rfl rfl ?_
    refine rr_iloadn_1 dX5_letter_12 ?_
    refine rr_iald (k) dX5_letter_13 (by omega) rfl rfl (show k < 200 by omega) ?_
    refine rr_goto 18 dX5_letter_14 (by decide) ?_
    exact rr_iret dX5_letter_18 ⟨by rw [lt_l, if_pos hkn], rfl⟩
  · refine rr_icmp_ge 17 dX5_letter_5 (by decide) (fun h5 => ?_) (fun h5 => absurd ((nI_lek (by omega) (by omega)).mpr (by omega)) h5)
    refine rr_iconst (v := (-1)) dX5_letter_17 (by decide) ?_
    exact rr_iret dX5_letter_18 ⟨by rw [lt_l, if_neg hkn], rfl⟩
set_option maxHeartbeats 4000000 in
set_option maxRecDepth 100000 in
theorem c_figureAt3 (N d : Nat) (σ : rd_S) (hN : 49 ≤ N) (n k : Nat) (hn : σ 33 12 = nI n) (hn2 : n ≤ 200) (hk : k < 1000) : rd_T N (d + 1) yX5_figureAt cX5_figureAt 4 (some .int) [.ref 33, .int (nI k), .int 3] σ (rd_is (some (.int (fg_l (σ 41) n k 3))) σ) := by
  refine rd_start RX5 [.ref 33, .int (nI k), .int 3, .retAddr 0] rfl (by decide +kernel) rfl (Nat.le_of_ble_eq_true rfl) ?_
  refine rr_aloadn_0 dX5_figureAt_0 ?_
  refine rr_iloadn_1 dX5_figureAt_1 ?_
  refine rr_callViD (c_letter N _ _ hN n k hn hn2 hk) km_X5_84 rfl rfl (by omega) rfl (Nat.le_of_ble_eq_true rfl) dX5_figureAt_2 ?_
  refine rr_bipush (v := 48) dX5_figureAt_5 (by decide) ?_
  refine rr_isub dX5_figureAt_7 ?_
  refine rr_istoren_3 dX5_figureAt_8 rfl ?_
  refine rr_iloadn_3 dX5_figureAt_9 ?_
  refine rr_i2l dX5_figureAt_10 ?_
  refine rr_lconst (v := 0) dX5_figureAt_11 (by decide) ?_
  refine rr_iloadn_2 dX5_figureAt_12 ?_
  refine rr_i2l dX5_figureAt_13 ?_
  refine rr_callSiD (c_in N _ _ _ _ _ (0) (3) rfl rfl) km_X5_62 rfl rfl (Nat.le_of_ble_eq_true rfl) dX5_figureAt_14 ?_
  refine rr_if_eq 24 dX5_figureAt_17 (by decide) (fun h17 => ?_) (fun h17 => ?_)
  · refine rr_bipush (v := (-4)) dX5_figureAt_24 (by decide) ?_
    exact rr_iret dX5_figureAt_26 ⟨by unfold fg_l; first | (rw [if_pos (by simpa using h17)]; done) | (rw [if_neg (by simpa using h17)]; done), rfl⟩
  · refine rr_iloadn_3 dX5_figureAt_20 ?_
    refine rr_goto 26 dX5_figureAt_21 (by decide) ?_
    exact rr_iret dX5_figureAt_26 ⟨by unfold fg_l; first | (rw [if_pos (by simpa using h17)]; done) | (rw [if_neg (by simpa using h17)]; done), rfl⟩
set_option maxHeartbeats 4000000 in
set_option maxRecDepth 100000 in
theorem c_figureAt5 (N d : Nat) (σ : rd_S) (hN : 49 ≤ N) (n k : Nat) (hn : σ 33 12 = nI n) (hn2 : n ≤ 200) (hk : k < 1000) : rd_T N (d + 1) yX5_figureAt cX5_figureAt 4 (some .int) [.ref 33, .int (nI k), .int 5] σ (rd_is (some (.int (fg_l (σ 41) n k 5))) σ) := by
  refine rd_start RX5 [.ref 33, .int (nI k), .int 5, .retAddr 0] rfl (by decide +kernel) rfl (Nat.le_of_ble_eq_true rfl) ?_
  refine rr_aloadn_0 dX5_figureAt_0 ?_
  refine rr_iloadn_1 dX5_figureAt_1 ?_
  refine rr_callViD (c_letter N _ _ hN n k hn hn2 hk) km_X5_84 rfl rfl (by omega) rfl (Nat.le_of_ble_eq_true rfl) dX5_figureAt_2 ?_
  refine rr_bipush (v := 48) dX5_figureAt_5 (by decide) ?_
  refine rr_isub dX5_figureAt_7 ?_
  refine rr_istoren_3 dX5_figureAt_8 rfl ?_
  refine rr_iloadn_3 dX5_figureAt_9 ?_
  refine rr_i2l dX5_figureAt_10 ?_
  refine rr_lconst (v := 0) dX5_figureAt_11 (by decide) ?_
  refine rr_iloadn_2 dX5_figureAt_12 ?_
  refine rr_i2l dX5_figureAt_13 ?_
  refine rr_callSiD (c_in N _ _ _ _ _ (0) (5) rfl rfl) km_X5_62 rfl rfl (Nat.le_of_ble_eq_true rfl) dX5_figureAt_14 ?_
  refine rr_if_eq 24 dX5_figureAt_17 (by decide) (fun h17 => ?_) (fun h17 => ?_)
  · refine rr_bipush (v := (-4)) dX5_figureAt_24 (by decide) ?_
    exact rr_iret dX5_figureAt_26 ⟨by unfold fg_l; first | (rw [if_pos (by simpa using h17)]; done) | (rw [if_neg (by simpa using h17)]; done), rfl⟩
  · refine rr_iloadn_3 dX5_figureAt_20 ?_
    refine rr_goto 26 dX5_figureAt_21 (by decide) ?_
    exact rr_iret dX5_figureAt_26 ⟨by unfold fg_l; first | (rw [if_pos (by simpa using h17)]; done) | (rw [if_neg (by simpa using h17)]; done), rfl⟩
