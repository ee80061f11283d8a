/-! ===== RopeDance: what the calls share ===== -/
def hp_rg (lo hi : Int) (i : Int32) : Bool := decide (lo ≤ i.toInt ∧ i.toInt ≤ hi)
theorem hp_m1 : (-1 : Int32).toInt = -1 := rfl
theorem hp_m99 : (-99 : Int32).toInt = -99 := rfl
theorem hp_l0 : (0 : Int32).toInt = 0 := rfl
theorem hp_l1 : (1 : Int32).toInt = 1 := rfl
theorem hp_l2 : (2 : Int32).toInt = 2 := rfl
theorem hp_l3 : (3 : Int32).toInt = 3 := rfl
theorem hp_l4 : (4 : Int32).toInt = 4 := rfl
theorem hp_l5 : (5 : Int32).toInt = 5 := rfl
theorem hp_l6 : (6 : Int32).toInt = 6 := rfl
theorem hp_l7 : (7 : Int32).toInt = 7 := rfl
theorem hp_l8 : (8 : Int32).toInt = 8 := rfl
theorem hp_l9 : (9 : Int32).toInt = 9 := rfl
theorem hp_l10 : (10 : Int32).toInt = 10 := rfl
theorem hp_l11 : (11 : Int32).toInt = 11 := rfl
theorem hp_l12 : (12 : Int32).toInt = 12 := rfl
theorem hp_l60 : (60 : Int32).toInt = 60 := rfl
theorem hp_l99 : (99 : Int32).toInt = 99 := rfl
theorem hp_l126 : (126 : Int32).toInt = 126 := rfl
theorem hp_l32 : (32 : Int32).toInt = 32 := rfl
theorem hp_l9999 : (9999 : Int32).toInt = 9999 := rfl
set_option maxHeartbeats 4000000 in
set_option maxRecDepth 100000 in
theorem c_X4_isDancer (N d : Nat) (σ : rd_S) (i : Int32) : rd_T N (d + 0) yX4_isDancer cX4_isDancer 1 (some .boolean) [.int i] σ (rd_is (some (.int (if hp_rg 0 3 i = true then 1 else 0))) σ) := by
  refine rd_start RX4 [.int i] rfl (by decide +kernel) rfl (Nat.le_of_ble_eq_true rfl) ?_
  refine rr_iloadn_0 dX4_isDancer_0 ?_
  refine rr_if_lt 13 dX4_isDancer_1 (by decide) (fun h1 => ?_) (fun h1 => ?_)
  · refine rr_iconst (v := 0) dX4_isDancer_13 (by decide) ?_
    exact rr_zret dX4_isDancer_14 (by decide) ⟨by first | (rw [if_pos (by simp only [hp_rg, decide_eq_true_eq, Int32.lt_iff_toInt_lt, Int32.le_iff_toInt_le, hp_m1, hp_m99, hp_l0, hp_l1, hp_l2, hp_l3, hp_l4, hp_l5, hp_l6, hp_l7, hp_l8, hp_l9, hp_l10, hp_l11, hp_l12, hp_l60, hp_l99, hp_l126, hp_l32, hp_l9999] at *; omega)]; done) | (rw [if_neg (by simp only [hp_rg, decide_eq_true_eq, Int32.lt_iff_toInt_lt, Int32.le_iff_toInt_le, hp_m1, hp_m99, hp_l0, hp_l1, hp_l2, hp_l3, hp_l4, hp_l5, hp_l6, hp_l7, hp_l8, hp_l9, hp_l10, hp_l11, hp_l12, hp_l60, hp_l99, hp_l126, hp_l32, hp_l9999] at *; omega)]; done), rfl⟩
  · refine rr_iloadn_0 dX4_isDancer_4 ?_
    refine rr_iconst (v := 4) dX4_isDancer_5 (by decide) ?_
    refine rr_icmp_ge 13 dX4_isDancer_6 (by decide) (fun h6 => ?_) (fun h6 => ?_)
    · refine rr_iconst (v := 0) dX4_isDancer_13 (by decide) ?_
      exact rr_zret dX4_isDancer_14 (by decide) ⟨by first | (rw [if_pos (by simp only [hp_rg, decide_eq_true_eq, Int32.lt_iff_toInt_lt, Int32.le_iff_toInt_le, hp_m1, hp_m99, hp_l0, hp_l1, hp_l2, hp_l3, hp_l4, hp_l5, hp_l6, hp_l7, hp_l8, hp_l9, hp_l10, hp_l11, hp_l12, hp_l60, hp_l99, hp_l126, hp_l32, hp_l9999] at *; omega)]; done) | (rw [if_neg (by simp only [hp_rg, decide_eq_true_eq, Int32.lt_iff_toInt_lt, Int32.le_iff_toInt_le, hp_m1, hp_m99, hp_l0, hp_l1, hp_l2, hp_l3, hp_l4, hp_l5, hp_l6, hp_l7, hp_l8, hp_l9, hp_l10, hp_l11, hp_l12, hp_l60, hp_l99, hp_l126, hp_l32, hp_l9999] at *; omega)]; done), rfl⟩
    · refine rr_iconst (v := 1) dX4_isDancer_9 (by decide) ?_
      refine rr_goto 14 dX4_isDancer_10 (by decide) ?_
      exact rr_zret dX4_isDancer_14 (by decide) ⟨by first | (rw [if_pos (by simp only [hp_rg, decide_eq_true_eq, Int32.lt_iff_toInt_lt, Int32.le_iff_toInt_le, hp_m1, hp_m99, hp_l0, hp_l1, hp_l2, hp_l3, hp_l4, hp_l5, hp_l6, hp_l7, hp_l8, hp_l9, hp_l10, hp_l11, hp_l12, hp_l60, hp_l99, hp_l126, hp_l32, hp_l9999] at *; omega)]; done) | (rw [if_neg (by simp only [hp_rg, decide_eq_true_eq, Int32.lt_iff_toInt_lt, Int32.le_iff_toInt_le, hp_m1, hp_m99, hp_l0, hp_l1, hp_l2, hp_l3, hp_l4, hp_l5, hp_l6, hp_l7, hp_l8, hp_l9, hp_l10, hp_l11, hp_l12, hp_l60, hp_l99, hp_l126, hp_l32, hp_l9999] at *; omega)]; done), rfl⟩
set_option maxHeartbeats 4000000 in
set_option maxRecDepth 100000 in
theorem c_X4_isRowIndex (N d : Nat) (σ : rd_S) (i : Int32) : rd_T N (d + 0) yX4_isRowIndex cX4_isRowIndex 1 (some .boolean) [.int i] σ (rd_is (some (.int (if hp_rg (-1) 6 i = true then 1 else 0))) σ) := by
  refine rd_start RX4 [.int i] rfl (by decide +kernel) rfl (Nat.le_of_ble_eq_true rfl) ?_
  refine rr_iloadn_0 dX4_isRowIndex_0 ?_
  refine rr_iconst (v := (-1)) dX4_isRowIndex_1 (by decide) ?_
  refine rr_icmp_lt 15 dX4_isRowIndex_2 (by decide) (fun h2 => ?_) (fun h2 => ?_)
  · refine rr_iconst (v := 0) dX4_isRowIndex_15 (by decide) ?_
    exact rr_zret dX4_isRowIndex_16 (by decide) ⟨by first | (rw [if_pos (by simp only [hp_rg, decide_eq_true_eq, Int32.lt_iff_toInt_lt, Int32.le_iff_toInt_le, hp_m1, hp_m99, hp_l0, hp_l1, hp_l2, hp_l3, hp_l4, hp_l5, hp_l6, hp_l7, hp_l8, hp_l9, hp_l10, hp_l11, hp_l12, hp_l60, hp_l99, hp_l126, hp_l32, hp_l9999] at *; omega)]; done) | (rw [if_neg (by simp only [hp_rg, decide_eq_true_eq, Int32.lt_iff_toInt_lt, Int32.le_iff_toInt_le, hp_m1, hp_m99, hp_l0, hp_l1, hp_l2, hp_l3, hp_l4, hp_l5, hp_l6, hp_l7, hp_l8, hp_l9, hp_l10, hp_l11, hp_l12, hp_l60, hp_l99, hp_l126, hp_l32, hp_l9999] at *; omega)]; done), rfl⟩
  · refine rr_iloadn_0 dX4_isRowIndex_5 ?_
    refine rr_bipush (v := 7) dX4_isRowIndex_6 (by decide) ?_
    refine rr_icmp_ge 15 dX4_isRowIndex_8 (by decide) (fun h8 => ?_) (fun h8 => ?_)
    · refine rr_iconst (v := 0) dX4_isRowIndex_15 (by decide) ?_
      exact rr_zret dX4_isRowIndex_16 (by decide) ⟨by first | (rw [if_pos (by simp only [hp_rg, decide_eq_true_eq, Int32.lt_iff_toInt_lt, Int32.le_iff_toInt_le, hp_m1, hp_m99, hp_l0, hp_l1, hp_l2, hp_l3, hp_l4, hp_l5, hp_l6, hp_l7, hp_l8, hp_l9, hp_l10, hp_l11, hp_l12, hp_l60, hp_l99, hp_l126, hp_l32, hp_l9999] at *; omega)]; done) | (rw [if_neg (by simp only [hp_rg, decide_eq_true_eq, Int32.lt_iff_toInt_lt, Int32.le_iff_toInt_le, hp_m1, hp_m99, hp_l0, hp_l1, hp_l2, hp_l3, hp_l4, hp_l5, hp_l6, hp_l7, hp_l8, hp_l9, hp_l10, hp_l11, hp_l12, hp_l60, hp_l99, hp_l126, hp_l32, hp_l9999] at *; omega)]; done), rfl⟩
    · refine rr_iconst (v := 1) dX4_isRowIndex_11 (by decide) ?_
      refine rr_goto 16 dX4_isRowIndex_12 (by decide) ?_
      exact rr_zret dX4_isRowIndex_16 (by decide) ⟨by first | (rw [if_pos (by simp only [hp_rg, decide_eq_true_eq, Int32.lt_iff_toInt_lt, Int32.le_iff_toInt_le, hp_m1, hp_m99, hp_l0, hp_l1, hp_l2, hp_l3, hp_l4, hp_l5, hp_l6, hp_l7, hp_l8, hp_l9, hp_l10, hp_l11, hp_l12, hp_l60, hp_l99, hp_l126, hp_l32, hp_l9999] at *; omega)]; done) | (rw [if_neg (by simp only [hp_rg, decide_eq_true_eq, Int32.lt_iff_toInt_lt, Int32.le_iff_toInt_le, hp_m1, hp_m99, hp_l0, hp_l1, hp_l2, hp_l3, hp_l4, hp_l5, hp_l6, hp_l7, hp_l8, hp_l9, hp_l10, hp_l11, hp_l12, hp_l60, hp_l99, hp_l126, hp_l32, hp_l9999] at *; omega)]; done), rfl⟩
set_option maxHeartbeats 4000000 in
set_option maxRecDepth 100000 in
theorem c_X4_isRowLength (N d : Nat) (σ : rd_S) (i : Int32) : rd_T N (d + 0) yX4_isRowLength cX4_isRowLength 1 (some .boolean) [.int i] σ (rd_is (some (.int (if hp_rg 0 12 i = true then 1 else 0))) σ) := by
  refine rd_start RX4 [.int i] rfl (by decide +kernel) rfl (Nat.le_of_ble_eq_true rfl) ?_
  refine rr_iloadn_0 dX4_isRowLength_0 ?_
  refine rr_if_lt 14 dX4_isRowLength_1 (by decide) (fun h1 => ?_) (fun h1 => ?_)
  · refine rr_iconst (v := 0) dX4_isRowLength_14 (by decide) ?_
    exact rr_zret dX4_isRowLength_15 (by decide) ⟨by first | (rw [if_pos (by simp only [hp_rg, decide_eq_true_eq, Int32.lt_iff_toInt_lt, Int32.le_iff_toInt_le, hp_m1, hp_m99, hp_l0, hp_l1, hp_l2, hp_l3, hp_l4, hp_l5, hp_l6, hp_l7, hp_l8, hp_l9, hp_l10, hp_l11, hp_l12, hp_l60, hp_l99, hp_l126, hp_l32, hp_l9999] at *; omega)]; done) | (rw [if_neg (by simp only [hp_rg, decide_eq_true_eq, Int32.lt_iff_toInt_lt, Int32.le_iff_toInt_le, hp_m1, hp_m99, hp_l0, hp_l1, hp_l2, hp_l3, hp_l4, hp_l5, hp_l6, hp_l7, hp_l8, hp_l9, hp_l10, hp_l11, hp_l12, hp_l60, hp_l99, hp_l126, hp_l32, hp_l9999] at *; omega)]; done), rfl⟩
  · refine rr_iloadn_0 dX4_isRowLength_4 ?_
    refine rr_bipush (v := 12) dX4_isRowLength_5 (by decide) ?_
    refine rr_icmp_gt 14 dX4_isRowLength_7 (by decide) (fun h7 => ?_) (fun h7 => ?_)
    · refine rr_iconst (v := 0) dX4_isRowLength_14 (by decide) ?_
      exact rr_zret dX4_isRowLength_15 (by decide) ⟨by first | (rw [if_pos (by simp only [hp_rg, decide_eq_true_eq, Int32.lt_iff_toInt_lt, Int32.le_iff_toInt_le, hp_m1, hp_m99, hp_l0, hp_l1, hp_l2, hp_l3, hp_l4, hp_l5, hp_l6, hp_l7, hp_l8, hp_l9, hp_l10, hp_l11, hp_l12, hp_l60, hp_l99, hp_l126, hp_l32, hp_l9999] at *; omega)]; done) | (rw [if_neg (by simp only [hp_rg, decide_eq_true_eq, Int32.lt_iff_toInt_lt, Int32.le_iff_toInt_le, hp_m1, hp_m99, hp_l0, hp_l1, hp_l2, hp_l3, hp_l4, hp_l5, hp_l6, hp_l7, hp_l8, hp_l9, hp_l10, hp_l11, hp_l12, hp_l60, hp_l99, hp_l126, hp_l32, hp_l9999] at *; omega)]; done), rfl⟩
    · refine rr_iconst (v := 1) dX4_isRowLength_10 (by decide) ?_
      refine rr_goto 15 dX4_isRowLength_11 (by decide) ?_
      exact rr_zret dX4_isRowLength_15 (by decide) ⟨by first | (rw [if_pos (by simp only [hp_rg, decide_eq_true_eq, Int32.lt_iff_toInt_lt, Int32.le_iff_toInt_le, hp_m1, hp_m99, hp_l0, hp_l1, hp_l2, hp_l3, hp_l4, hp_l5, hp_l6, hp_l7, hp_l8, hp_l9, hp_l10, hp_l11, hp_l12, hp_l60, hp_l99, hp_l126, hp_l32, hp_l9999] at *; omega)]; done) | (rw [if_neg (by simp only [hp_rg, decide_eq_true_eq, Int32.lt_iff_toInt_lt, Int32.le_iff_toInt_le, hp_m1, hp_m99, hp_l0, hp_l1, hp_l2, hp_l3, hp_l4, hp_l5, hp_l6, hp_l7, hp_l8, hp_l9, hp_l10, hp_l11, hp_l12, hp_l60, hp_l99, hp_l126, hp_l32, hp_l9999] at *; omega)]; done), rfl⟩
set_option maxHeartbeats 4000000 in
set_option maxRecDepth 100000 in
theorem c_X4_areTwo (N d : Nat) (σ : rd_S) (i j : Int32) : rd_T N (d + 1) yX4_areTwo cX4_areTwo 2 (some .boolean) [.int i, .int j] σ (rd_is (some (.int (if hp_rg 0 3 i = true ∧ hp_rg 0 3 j = true ∧ ¬ i = j then 1 else 0))) σ) := by
  refine rd_start RX4 [.int i, .int j] rfl (by decide +kernel) rfl (Nat.le_of_ble_eq_true rfl) ?_
  refine rr_iloadn_0 dX4_areTwo_0 ?_
  refine rr_callSiD (c_X4_isDancer N _ _ _) km_X4_93 rfl rfl (Nat.le_of_ble_eq_true rfl) dX4_areTwo_1 ?_
  refine rr_if_eq 23 dX4_areTwo_4 (by decide) (fun h4 => ?_) (fun h4 => ?_)
  · refine rr_iconst (v := 0) dX4_areTwo_23 (by decide) ?_
    exact rr_zret dX4_areTwo_24 (by decide) ⟨by simp_all, rfl⟩
  · refine rr_iloadn_1 dX4_areTwo_7 ?_
    refine rr_callSiD (c_X4_isDancer N _ _ _) km_X4_93 rfl rfl (Nat.le_of_ble_eq_true rfl) dX4_areTwo_8 ?_
    refine rr_if_eq 23 dX4_areTwo_11 (by decide) (fun h11 => ?_) (fun h11 => ?_)
    · refine rr_iconst (v := 0) dX4_areTwo_23 (by decide) ?_
      exact rr_zret dX4_areTwo_24 (by decide) ⟨by simp_all, rfl⟩
    · refine rr_iloadn_0 dX4_areTwo_14 ?_
      refine rr_iloadn_1 dX4_areTwo_15 ?_
      refine rr_icmp_eq 23 dX4_areTwo_16 (by decide) (fun h16 => ?_) (fun h16 => ?_)
      · refine rr_iconst (v := 0) dX4_areTwo_23 (by decide) ?_
        exact rr_zret dX4_areTwo_24 (by decide) ⟨by simp_all, rfl⟩
      · refine rr_iconst (v := 1) dX4_areTwo_19 (by decide) ?_
        refine rr_goto 24 dX4_areTwo_20 (by decide) ?_
        exact rr_zret dX4_areTwo_24 (by decide) ⟨by simp_all, rfl⟩
set_option maxHeartbeats 4000000 in
set_option maxRecDepth 100000 in
theorem c_X4_drawOf (N d : Nat) (σ : rd_S) (z k : Int32) : rd_T N (d + 0) yX4_drawOf cX4_drawOf 4 (some .int) [.int z, .int k] σ (rd_is (some (.int ((fun x : Int64 => x * x - x * x / 65521 * 65521) (7919 * z.toInt64 + 6151 * k.toInt64 + 1)).toInt32)) σ) := by
  refine rd_start RX4 [.int z, .int k, .retAddr 0, .retAddr 0] rfl (by decide +kernel) rfl (Nat.le_of_ble_eq_true rfl) ?_
  refine rr_ldc2 dX4_drawOf_0 kc_X4_279 ?_
  refine rr_iloadn_0 dX4_drawOf_3 ?_
  refine rr_i2l dX4_drawOf_4 ?_
  refine rr_lmul dX4_drawOf_5 ?_
  refine rr_ldc2 dX4_drawOf_6 kc_X4_281 ?_
  refine rr_iloadn_1 dX4_drawOf_9 ?_
  refine rr_i2l dX4_drawOf_10 ?_
  refine rr_lmul dX4_drawOf_11 ?_
  refine rr_ladd dX4_drawOf_12 ?_
  refine rr_lconst (v := 1) dX4_drawOf_13 (by decide) ?_
  refine rr_ladd dX4_drawOf_14 ?_
  refine rr_lstoren_2 dX4_drawOf_15 rfl ?_
  refine rr_lloadn_2 dX4_drawOf_16 ?_
  refine rr_lloadn_2 dX4_drawOf_17 ?_
  refine rr_lmul dX4_drawOf_18 ?_
  refine rr_ldc2 dX4_drawOf_19 kc_X4_283 ?_
  refine rr_lrem dX4_drawOf_22 (by decide) ?_
  refine rr_l2i dX4_drawOf_23 ?_
  exact rr_iret dX4_drawOf_24 ⟨rfl, rfl⟩
theorem cd_half {x y k : Nat} (hy : y < 2 ^ (k + 1)) (hy0 : 0 < y) (h0 : 0 < x % y) : y % (x % y) < 2 ^ k := by
  have h1 : x % y < y := Nat.mod_lt _ hy0
  have h2 : y % (x % y) < x % y := Nat.mod_lt _ h0
  have h3 : y % (x % y) ≤ y - x % y := by
    rw [Nat.mod_eq_sub_mod (Nat.le_of_lt h1)]
    exact Nat.mod_le _ _
  rw [Nat.pow_succ] at hy
  omega
theorem nI_rem {a b : Nat} (ha : a < 2 ^ 31) (h0 : 0 < b) (hb : b < 2 ^ 31) : nI a - nI a / nI b * nI b = nI (a % b) := pk_rem ha h0 hb
set_option maxHeartbeats 4000000 in
set_option maxRecDepth 100000 in
theorem lp_common (N d : Nat) (σ : rd_S) (w0 w1 : Int32) : ∀ (k j x y : Nat) (w : Value), y < 2 ^ k → k ≤ 31 → x < 2 ^ 31 → j + 2 * k ≤ 100 → rd_W N d RX4 cX4_commonDivisor 6 (some .int) 7 [.int w0, .int w1, .int (nI x), .int (nI y), .int (nI j), w] [] σ (rd_is (some (.int (nI (Nat.gcd x y)))) σ) := by
  intro k
  induction k with
  | zero =>
    intro j x y w hy hk hx hj
    obtain rfl : y = 0 := by simpa using hy
    refine rr_iload_4 dX4_commonDivisor_7 ?_
    refine rr_bipush (v := 100) dX4_commonDivisor_9 (by decide) ?_
    refine rr_icmp_ge 34 dX4_commonDivisor_11 (by decide) (fun h11 => ?_) (fun h11 => ?_)
    · refine rr_iloadn_2 dX4_commonDivisor_34 ?_
      exact rr_iret dX4_commonDivisor_35 ⟨by simp, rfl⟩
    · refine rr_iloadn_3 dX4_commonDivisor_14 ?_
      refine rr_if_eq 34 dX4_commonDivisor_15 (by decide) (fun h15 => ?_) (fun h15 => absurd rfl h15)
      refine rr_iloadn_2 dX4_commonDivisor_34 ?_
      exact rr_iret dX4_commonDivisor_35 ⟨by simp, rfl⟩
  | succ k ih =>
    intro j x y w hy hk hx hj
    have hk31 : 2 ^ (k + 1) ≤ 2 ^ 31 := Nat.pow_le_pow_right (by decide) hk
    rcases Nat.eq_zero_or_pos y with rfl | hy0
    · skip
      refine rr_iload_4 dX4_commonDivisor_7 ?_
      refine rr_bipush (v := 100) dX4_commonDivisor_9 (by decide) ?_
      refine rr_icmp_ge 34 dX4_commonDivisor_11 (by decide) (fun h11 => ?_) (fun h11 => ?_)
      · refine rr_iloadn_2 dX4_commonDivisor_34 ?_
        exact rr_iret dX4_commonDivisor_35 ⟨by simp, rfl⟩
      · refine rr_iloadn_3 dX4_commonDivisor_14 ?_
        refine rr_if_eq 34 dX4_commonDivisor_15 (by decide) (fun h15 => ?_) (fun h15 => absurd rfl h15)
        refine rr_iloadn_2 dX4_commonDivisor_34 ?_
        exact rr_iret dX4_commonDivisor_35 ⟨by simp, rfl⟩
    · have hr : x % y < y := Nat.mod_lt _ hy0
      have hg : Nat.gcd x y = Nat.gcd y (x % y) := by rw [Nat.gcd_comm x y, Nat.gcd_rec y x, Nat.gcd_comm]
      have fin : ∀ (j x : Nat) (w : Value), rd_W N d RX4 cX4_commonDivisor 6 (some .int) 7 [.int w0, .int w1, .int (nI x), .int (nI 0), .int (nI j), w] [] σ (rd_is (some (.int (nI (Nat.gcd x 0)))) σ) := by
        intro j x w
        refine rr_iload_4 dX4_commonDivisor_7 ?_
        refine rr_bipush (v := 100) dX4_commonDivisor_9 (by decide) ?_
        refine rr_icmp_ge 34 dX4_commonDivisor_11 (by decide) (fun h11 => ?_) (fun h11 => ?_)
        · refine rr_iloadn_2 dX4_commonDivisor_34 ?_
          exact rr_iret dX4_commonDivisor_35 ⟨by simp, rfl⟩
        · refine rr_iloadn_3 dX4_commonDivisor_14 ?_
          refine rr_if_eq 34 dX4_commonDivisor_15 (by decide) (fun h15 => ?_) (fun h15 => absurd rfl h15)
          refine rr_iloadn_2 dX4_commonDivisor_34 ?_
          exact rr_iret dX4_commonDivisor_35 ⟨by simp, rfl⟩
      have two : ∀ (j x y : Nat) (w : Value), x < 2 ^ 31 → y < 2 ^ 31 → 0 < y → x % y < 2 ^ k → j + 1 + 2 * k ≤ 100 → rd_W N d RX4 cX4_commonDivisor 6 (some .int) 7 [.int w0, .int w1, .int (nI x), .int (nI y), .int (nI j), w] [] σ (rd_is (some (.int (nI (Nat.gcd x y)))) σ) := by
        intro j x y w hx hyb hy0 hh hj
        have hg : Nat.gcd x y = Nat.gcd y (x % y) := by rw [Nat.gcd_comm x y, Nat.gcd_rec y x, Nat.gcd_comm]
        refine rr_iload_4 dX4_commonDivisor_7 ?_
        refine rr_bipush (v := 100) dX4_commonDivisor_9 (by decide) ?_
        refine rr_icmp_ge 34 dX4_commonDivisor_11 (by decide) (fun h11 => absurd ((nI_le8 (a := 100) (b := j) (by omega) (by omega)).mp h11) (by omega)) (fun h11 => ?_)
        refine rr_iloadn_3 dX4_commonDivisor_14 ?_
        refine rr_if_eq 34 dX4_commonDivisor_15 (by decide) (fun h15 => absurd h15 (nI_ne0 hy0 (by omega))) (fun h15 => ?_)
        refine rr_iloadn_2 dX4_commonDivisor_18 ?_
        refine rr_iloadn_3 dX4_commonDivisor_19 ?_
        refine rr_irem dX4_commonDivisor_20 (nI_ne0 hy0 (by omega)) ?_
        rw [nI_rem hx hy0 (by omega)]
        refine rr_istore_5 dX4_commonDivisor_21 rfl ?_
        refine rr_iloadn_3 dX4_commonDivisor_23 ?_
        refine rr_istoren_2 dX4_commonDivisor_24 rfl ?_
        refine rr_iload_5 dX4_commonDivisor_25 ?_
        refine rr_istoren_3 dX4_commonDivisor_27 rfl ?_
        refine rr_iinc_4 1 dX4_commonDivisor_28 (by decide) rfl ?_
        refine rr_goto 7 dX4_commonDivisor_31 (by decide) ?_
        rw [nI_s j, hg]
        exact ih (j + 1) y (x % y) _ hh (by omega) hyb (by omega)
      refine rr_iload_4 dX4_commonDivisor_7 ?_
      refine rr_bipush (v := 100) dX4_commonDivisor_9 (by decide) ?_
      refine rr_icmp_ge 34 dX4_commonDivisor_11 (by decide) (fun h11 => absurd ((nI_le8 (a := 100) (b := j) (by omega) (by omega)).mp h11) (by omega)) (fun h11 => ?_)
      refine rr_iloadn_3 dX4_commonDivisor_14 ?_
      refine rr_if_eq 34 dX4_commonDivisor_15 (by decide) (fun h15 => absurd h15 (nI_ne0 hy0 (by omega))) (fun h15 => ?_)
      refine rr_iloadn_2 dX4_commonDivisor_18 ?_
      refine rr_iloadn_3 dX4_commonDivisor_19 ?_
      refine rr_irem dX4_commonDivisor_20 (nI_ne0 hy0 (by omega)) ?_
      rw [nI_rem hx hy0 (by omega)]
      refine rr_istore_5 dX4_commonDivisor_21 rfl ?_
      refine rr_iloadn_3 dX4_commonDivisor_23 ?_
      refine rr_istoren_2 dX4_commonDivisor_24 rfl ?_
      refine rr_iload_5 dX4_commonDivisor_25 ?_
      refine rr_istoren_3 dX4_commonDivisor_27 rfl ?_
      refine rr_iinc_4 1 dX4_commonDivisor_28 (by decide) rfl ?_
      refine rr_goto 7 dX4_commonDivisor_31 (by decide) ?_
      rw [nI_s j, hg]
      rcases Nat.eq_zero_or_pos (x % y) with hr0 | hr0
      · rw [hr0]
        exact fin (j + 1) y _
      · exact two (j + 1) y (x % y) _ (by omega) (by omega) hr0 (cd_half hy hy0 hr0) (by omega)
set_option maxHeartbeats 4000000 in
set_option maxRecDepth 100000 in
theorem c_X4_commonDivisor (N d : Nat) (σ : rd_S) (x y : Nat) (hx : x < 2 ^ 31) (hy : y < 2 ^ 31) : rd_T N (d + 0) yX4_commonDivisor cX4_commonDivisor 6 (some .int) [.int (nI x), .int (nI y)] σ (rd_is (some (.int (nI (Nat.gcd x y)))) σ) := by
  refine rd_start RX4 [.int (nI x), .int (nI y), .retAddr 0, .retAddr 0, .retAddr 0, .retAddr 0] rfl (by decide +kernel) rfl (Nat.le_of_ble_eq_true rfl) ?_
  refine rr_iloadn_0 dX4_commonDivisor_0 ?_
  refine rr_istoren_2 dX4_commonDivisor_1 rfl ?_
  refine rr_iloadn_1 dX4_commonDivisor_2 ?_
  refine rr_istoren_3 dX4_commonDivisor_3 rfl ?_
  refine rr_iconst (v := 0) dX4_commonDivisor_4 (by decide) ?_
  refine rr_istore_4 dX4_commonDivisor_5 rfl ?_
  exact lp_common N d σ _ _ 31 0 x y _ hy (by decide) hx (by decide)
def hp_fr (u l : Int32) : Bool := decide ((l.toInt = 0 ∧ u.toInt = 1) ∨ (-99 ≤ u.toInt ∧ u.toInt ≤ 99 ∧ 1 ≤ l.toInt ∧ l.toInt ≤ 99 ∧ Nat.gcd u.toInt.natAbs l.toInt.natAbs = 1))
theorem hp_abs {x : Int32} (h : -2147483648 < x.toInt) : sd_abs x = nI x.toInt.natAbs := by
  apply Int32.toInt_inj.mp
  have hr := Int32.toInt_lt x
  rw [nI_toInt (by omega)]
  unfold sd_abs
  split
  · rename_i h0
    have h0 : (0 : Int32).toInt ≤ x.toInt := Int32.le_iff_toInt_le.mp h0
    have : (0 : Int32).toInt = 0 := rfl
    omega
  · rename_i h0
    have h0 : ¬ (0 : Int32).toInt ≤ x.toInt := fun q => h0 (Int32.le_iff_toInt_le.mpr q)
    have e0 : (0 : Int32).toInt = 0 := rfl
    rw [Int32.toInt_sub, e0]
    have : (0 - x.toInt).bmod (2 ^ 32) = 0 - x.toInt := by
      apply Int.bmod_eq_of_le <;> omega
    omega
theorem hp_nI {x : Int32} (h : 0 ≤ x.toInt) : x = nI x.toInt.natAbs := by
  apply Int32.toInt_inj.mp
  have hr := Int32.toInt_lt x
  rw [nI_toInt (by omega)]
  omega
def hp_frI (u l : Int) : Prop := (l = 0 ∧ u = 1) ∨ (-99 ≤ u ∧ u ≤ 99 ∧ 1 ≤ l ∧ l ≤ 99 ∧ Nat.gcd u.natAbs l.natAbs = 1)
set_option maxHeartbeats 4000000 in
set_option maxRecDepth 100000 in
theorem c_X4_isFraction (N d : Nat) (σ : rd_S) (u l : Int32) : rd_T N (d + 1) yX4_isFraction cX4_isFraction 2 (some .boolean) [.int u, .int l] σ (rd_is (some (.int (if hp_fr u l = true then 1 else 0))) σ) := by
  refine rd_start RX4 [.int u, .int l] rfl (by decide +kernel) rfl (Nat.le_of_ble_eq_true rfl) ?_
  refine rr_iloadn_1 dX4_isFraction_0 ?_
  refine rr_if_ne 15 dX4_isFraction_1 (by decide) (fun h1 => ?_) (fun h1 => ?_)
  · refine rr_iloadn_0 dX4_isFraction_15 ?_
    refine rr_bipush (v := (-99)) dX4_isFraction_16 (by decide) ?_
    refine rr_icmp_lt 54 dX4_isFraction_18 (by decide) (fun h18 => ?_) (fun h18 => ?_)
    · refine rr_iconst (v := 0) dX4_isFraction_54 (by decide) ?_
      exact rr_zret dX4_isFraction_55 (by decide) ⟨by simp only [Int32.lt_iff_toInt_lt, Int32.le_iff_toInt_le, hp_m1, hp_m99, hp_l0, hp_l1, hp_l2, hp_l3, hp_l4, hp_l5, hp_l6, hp_l7, hp_l8, hp_l9, hp_l10, hp_l11, hp_l12, hp_l60, hp_l99, hp_l126, hp_l32, hp_l9999, ← Int32.toInt_inj] at *; first | (rw [if_pos (by simp only [hp_fr, decide_eq_true_eq]; omega)]; done) | (rw [if_neg (by simp only [hp_fr, decide_eq_true_eq]; omega)]; done), rfl⟩
    · refine rr_iloadn_0 dX4_isFraction_21 ?_
      refine rr_bipush (v := 99) dX4_isFraction_22 (by decide) ?_
      refine rr_icmp_gt 54 dX4_isFraction_24 (by decide) (fun h24 => ?_) (fun h24 => ?_)
      · refine rr_iconst (v := 0) dX4_isFraction_54 (by decide) ?_
        exact rr_zret dX4_isFraction_55 (by decide) ⟨by simp only [Int32.lt_iff_toInt_lt, Int32.le_iff_toInt_le, hp_m1, hp_m99, hp_l0, hp_l1, hp_l2, hp_l3, hp_l4, hp_l5, hp_l6, hp_l7, hp_l8, hp_l9, hp_l10, hp_l11, hp_l12, hp_l60, hp_l99, hp_l126, hp_l32, hp_l9999, ← Int32.toInt_inj] at *; first | (rw [if_pos (by simp only [hp_fr, decide_eq_true_eq]; omega)]; done) | (rw [if_neg (by simp only [hp_fr, decide_eq_true_eq]; omega)]; done), rfl⟩
      · refine rr_iloadn_1 dX4_isFraction_27 ?_
        refine rr_iconst (v := 1) dX4_isFraction_28 (by decide) ?_
        refine rr_icmp_lt 54 dX4_isFraction_29 (by decide) (fun h29 => ?_) (fun h29 => ?_)
        · refine rr_iconst (v := 0) dX4_isFraction_54 (by decide) ?_
          exact rr_zret dX4_isFraction_55 (by decide) ⟨by simp only [Int32.lt_iff_toInt_lt, Int32.le_iff_toInt_le, hp_m1, hp_m99, hp_l0, hp_l1, hp_l2, hp_l3, hp_l4, hp_l5, hp_l6, hp_l7, hp_l8, hp_l9, hp_l10, hp_l11, hp_l12, hp_l60, hp_l99, hp_l126, hp_l32, hp_l9999, ← Int32.toInt_inj] at *; first | (rw [if_pos (by simp only [hp_fr, decide_eq_true_eq]; omega)]; done) | (rw [if_neg (by simp only [hp_fr, decide_eq_true_eq]; omega)]; done), rfl⟩
        · refine rr_iloadn_1 dX4_isFraction_32 ?_
          refine rr_bipush (v := 99) dX4_isFraction_33 (by decide) ?_
          refine rr_icmp_gt 54 dX4_isFraction_35 (by decide) (fun h35 => ?_) (fun h35 => ?_)
          · refine rr_iconst (v := 0) dX4_isFraction_54 (by decide) ?_
            exact rr_zret dX4_isFraction_55 (by decide) ⟨by simp only [Int32.lt_iff_toInt_lt, Int32.le_iff_toInt_le, hp_m1, hp_m99, hp_l0, hp_l1, hp_l2, hp_l3, hp_l4, hp_l5, hp_l6, hp_l7, hp_l8, hp_l9, hp_l10, hp_l11, hp_l12, hp_l60, hp_l99, hp_l126, hp_l32, hp_l9999, ← Int32.toInt_inj] at *; first | (rw [if_pos (by simp only [hp_fr, decide_eq_true_eq]; omega)]; done) | (rw [if_neg (by simp only [hp_fr, decide_eq_true_eq]; omega)]; done), rfl⟩
          · simp only [Int32.lt_iff_toInt_lt, Int32.le_iff_toInt_le, hp_m1, hp_m99, hp_l0, hp_l1, hp_l2, hp_l3, hp_l4, hp_l5, hp_l6, hp_l7, hp_l8, hp_l9, hp_l10, hp_l11, hp_l12, hp_l60, hp_l99, hp_l126, hp_l32, hp_l9999, ← Int32.toInt_inj] at h1 h18 h24 h29 h35
            refine rr_iloadn_0 dX4_isFraction_38 ?_
            refine rr_mabs dX4_isFraction_39 kl_X4_285 (Nat.le_of_ble_eq_true rfl) kh_abs ?_
            refine rr_iloadn_1 dX4_isFraction_42 ?_
            rw [show (if 0 ≤ u then u else 0 - u) = nI u.toInt.natAbs from hp_abs (by omega), show (Value.int l) = Value.int (nI l.toInt.natAbs) from congrArg Value.int (hp_nI (by omega))]
            refine rr_callSiD (c_X4_commonDivisor N _ _ _ _ (by omega) (by omega)) km_X4_223 rfl rfl (Nat.le_of_ble_eq_true rfl) dX4_isFraction_43 ?_
            refine rr_iconst (v := 1) dX4_isFraction_46 (by decide) ?_
            have hgb := Nat.gcd_le_right u.toInt.natAbs (show 0 < l.toInt.natAbs by omega)
            have hge : nI (Nat.gcd u.toInt.natAbs l.toInt.natAbs) = 1 ↔ Nat.gcd u.toInt.natAbs l.toInt.natAbs = 1 := nI_eq8 (b := 1) (by omega) (by omega)
            refine rr_icmp_ne 54 dX4_isFraction_47 (by decide) (fun h47 => ?_) (fun h47 => ?_)
            · refine rr_iconst (v := 0) dX4_isFraction_54 (by decide) ?_
              exact rr_zret dX4_isFraction_55 (by decide) ⟨by simp only [Int32.lt_iff_toInt_lt, Int32.le_iff_toInt_le, hp_m1, hp_m99, hp_l0, hp_l1, hp_l2, hp_l3, hp_l4, hp_l5, hp_l6, hp_l7, hp_l8, hp_l9, hp_l10, hp_l11, hp_l12, hp_l60, hp_l99, hp_l126, hp_l32, hp_l9999, ← Int32.toInt_inj] at *; first | (rw [if_pos (by simp only [hp_fr, decide_eq_true_eq]; omega)]; done) | (rw [if_neg (by simp only [hp_fr, decide_eq_true_eq]; omega)]; done), rfl⟩
            · refine rr_iconst (v := 1) dX4_isFraction_50 (by decide) ?_
              refine rr_goto 55 dX4_isFraction_51 (by decide) ?_
              exact rr_zret dX4_isFraction_55 (by decide) ⟨by simp only [Int32.lt_iff_toInt_lt, Int32.le_iff_toInt_le, hp_m1, hp_m99, hp_l0, hp_l1, hp_l2, hp_l3, hp_l4, hp_l5, hp_l6, hp_l7, hp_l8, hp_l9, hp_l10, hp_l11, hp_l12, hp_l60, hp_l99, hp_l126, hp_l32, hp_l9999, ← Int32.toInt_inj] at *; first | (rw [if_pos (by simp only [hp_fr, decide_eq_true_eq]; omega)]; done) | (rw [if_neg (by simp only [hp_fr, decide_eq_true_eq]; omega)]; done), rfl⟩
  · refine rr_iloadn_0 dX4_isFraction_4 ?_
    refine rr_iconst (v := 1) dX4_isFraction_5 (by decide) ?_
    refine rr_icmp_ne 13 dX4_isFraction_6 (by decide) (fun h6 => ?_) (fun h6 => ?_)
    · refine rr_iconst (v := 0) dX4_isFraction_13 (by decide) ?_
      exact rr_zret dX4_isFraction_14 (by decide) ⟨by simp only [← Int32.toInt_inj, hp_m1, hp_m99, hp_l0, hp_l1, hp_l2, hp_l3, hp_l4, hp_l5, hp_l6, hp_l7, hp_l8, hp_l9, hp_l10, hp_l11, hp_l12, hp_l60, hp_l99, hp_l126, hp_l32, hp_l9999] at *; first | (rw [if_pos (by simp only [hp_fr, decide_eq_true_eq]; omega)]; done) | (rw [if_neg (by simp only [hp_fr, decide_eq_true_eq]; omega)]; done), rfl⟩
    · refine rr_iconst (v := 1) dX4_isFraction_9 (by decide) ?_
      refine rr_goto 14 dX4_isFraction_10 (by decide) ?_
      exact rr_zret dX4_isFraction_14 (by decide) ⟨by simp only [← Int32.toInt_inj, hp_m1, hp_m99, hp_l0, hp_l1, hp_l2, hp_l3, hp_l4, hp_l5, hp_l6, hp_l7, hp_l8, hp_l9, hp_l10, hp_l11, hp_l12, hp_l60, hp_l99, hp_l126, hp_l32, hp_l9999] at *; first | (rw [if_pos (by simp only [hp_fr, decide_eq_true_eq]; omega)]; done) | (rw [if_neg (by simp only [hp_fr, decide_eq_true_eq]; omega)]; done), rfl⟩
