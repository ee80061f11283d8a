/-! ===== the reference: its leaves ===== -/
theorem mi_rg (i : Int32) (lo hi : Int64) (a b : Int) (ha : lo.toInt = a) (hb : hi.toInt = b) : (lo ≤ i.toInt64 ∧ i.toInt64 ≤ hi) ↔ hp_rg a b i = true := by
  rw [Int64.le_iff_toInt_le, Int64.le_iff_toInt_le, Int32.toInt_toInt64, ha, hb]
  simp [hp_rg]
set_option maxHeartbeats 4000000 in
set_option maxRecDepth 100000 in
theorem c_in0 (N d : Nat) (σ : rd_S) (x lo hi : Int64) : rd_T N (d + 0) yX5_in cX5_in 6 (some .boolean) [.long x, .long lo, .long hi] σ (rd_is (some (.int (if lo ≤ x ∧ x ≤ hi then 1 else 0))) σ) := by
  refine rd_start RX5 [.long x, .retAddr 0, .long lo, .retAddr 0, .long hi, .retAddr 0] rfl (by decide +kernel) rfl (Nat.le_of_ble_eq_true rfl) ?_
  refine rr_lloadn_0 dX5_in_0 ?_
  refine rr_lloadn_2 dX5_in_1 ?_
  refine rr_lcmp dX5_in_2 ?_
  refine rr_if_lt 17 dX5_in_3 (by decide) (fun h3 => ?_) (fun h3 => ?_)
  · refine rr_iconst (v := 0) dX5_in_17 (by decide) ?_
    exact rr_zret dX5_in_18 (by decide) ⟨by first | (rw [if_neg (fun q => Int64.not_le.mpr ((lg_cmp_lt _ _).mp h3) q.1)]; done) | (rw [if_neg (fun q => Int64.not_le.mpr ((lg_cmp_gt _ _).mp h10) q.2)]; done) | (rw [if_pos ⟨Int64.not_lt.mp (fun q => h3 ((lg_cmp_lt _ _).mpr q)), Int64.not_lt.mp (fun q => h10 ((lg_cmp_gt _ _).mpr q))⟩]; done), rfl⟩
  · refine rr_lloadn_0 dX5_in_6 ?_
    refine rr_lload_4 dX5_in_7 ?_
    refine rr_lcmp dX5_in_9 ?_
    refine rr_if_gt 17 dX5_in_10 (by decide) (fun h10 => ?_) (fun h10 => ?_)
    · refine rr_iconst (v := 0) dX5_in_17 (by decide) ?_
      exact rr_zret dX5_in_18 (by decide) ⟨by first | (rw [if_neg (fun q => Int64.not_le.mpr ((lg_cmp_lt _ _).mp h3) q.1)]; done) | (rw [if_neg (fun q => Int64.not_le.mpr ((lg_cmp_gt _ _).mp h10) q.2)]; done) | (rw [if_pos ⟨Int64.not_lt.mp (fun q => h3 ((lg_cmp_lt _ _).mpr q)), Int64.not_lt.mp (fun q => h10 ((lg_cmp_gt _ _).mpr q))⟩]; done), rfl⟩
    · refine rr_iconst (v := 1) dX5_in_13 (by decide) ?_
      refine rr_goto 18 dX5_in_14 (by decide) ?_
      exact rr_zret dX5_in_18 (by decide) ⟨by first | (rw [if_neg (fun q => Int64.not_le.mpr ((lg_cmp_lt _ _).mp h3) q.1)]; done) | (rw [if_neg (fun q => Int64.not_le.mpr ((lg_cmp_gt _ _).mp h10) q.2)]; done) | (rw [if_pos ⟨Int64.not_lt.mp (fun q => h3 ((lg_cmp_lt _ _).mpr q)), Int64.not_lt.mp (fun q => h10 ((lg_cmp_gt _ _).mpr q))⟩]; done), rfl⟩
theorem c_in (N d : Nat) (σ : rd_S) (i : Int32) (lo hi : Int64) (a b : Int) (ha : lo.toInt = a) (hb : hi.toInt = b) : rd_T N d yX5_in cX5_in 6 (some .boolean) [.long i.toInt64, .long lo, .long hi] σ (rd_is (some (.int (if hp_rg a b i = true then 1 else 0))) σ) := by
  have := c_in0 N d σ i.toInt64 lo hi
  rw [show (if lo ≤ i.toInt64 ∧ i.toInt64 ≤ hi then (1 : Int32) else 0) = if hp_rg a b i = true then 1 else 0 by by_cases q : hp_rg a b i = true <;> simp [q, mi_rg i lo hi a b ha hb]] at this
  exact this
set_option maxHeartbeats 4000000 in
set_option maxRecDepth 100000 in
theorem c_X5_isPart (N d : Nat) (σ : rd_S) (i : Int32) : rd_T N (d + 1) yX5_isPart cX5_isPart 1 (some .boolean) [.int i] σ (rd_is (some (.int (if hp_rg 0 1 i = true then 1 else 0))) σ) := by
  refine rd_start RX5 [.int i] rfl (by decide +kernel) rfl (Nat.le_of_ble_eq_true rfl) ?_
  refine rr_iloadn_0 dX5_isPart_0 ?_
  refine rr_i2l dX5_isPart_1 ?_
  refine rr_lconst (v := 0) dX5_isPart_2 (by decide) ?_
  refine rr_lconst (v := 1) dX5_isPart_3 (by decide) ?_
  refine rr_callSiD (c_in N _ _ _ _ _ (0) (1) rfl rfl) km_X5_62 rfl rfl (Nat.le_of_ble_eq_true rfl) dX5_isPart_4 ?_
  exact rr_zret dX5_isPart_7 (by split <;> decide) ⟨rfl, rfl⟩
set_option maxHeartbeats 4000000 in
set_option maxRecDepth 100000 in
theorem c_X5_isOne (N d : Nat) (σ : rd_S) (i : Int32) : rd_T N (d + 1) yX5_isOne cX5_isOne 1 (some .boolean) [.int i] σ (rd_is (some (.int (if hp_rg 0 3 i = true then 1 else 0))) σ) := by
  refine rd_start RX5 [.int i] rfl (by decide +kernel) rfl (Nat.le_of_ble_eq_true rfl) ?_
  refine rr_iloadn_0 dX5_isOne_0 ?_
  refine rr_i2l dX5_isOne_1 ?_
  refine rr_lconst (v := 0) dX5_isOne_2 (by decide) ?_
  refine rr_ldc2 dX5_isOne_3 kc_X5_66 ?_
  refine rr_callSiD (c_in N _ _ _ _ _ (0) (3) rfl rfl) km_X5_62 rfl rfl (Nat.le_of_ble_eq_true rfl) dX5_isOne_6 ?_
  exact rr_zret dX5_isOne_9 (by split <;> decide) ⟨rfl, rfl⟩
def cpy (τ : rd_S) (d : Nat) (f : Nat → Int32) (o k : Nat) : rd_S := fun a b => if a = d ∧ o ≤ b ∧ b < o + k then f (b - o) else τ a b
theorem cpy_0 (τ : rd_S) (d : Nat) (f : Nat → Int32) (o : Nat) : cpy τ d f o 0 = τ := by
  funext a b; simp only [cpy]; rw [if_neg (by omega)]
theorem cpy_s (τ : rd_S) (d : Nat) (f : Nat → Int32) (o k : Nat) : rd_u2 (cpy τ d f o k) d (o + k) (f k) = cpy τ d f o (k + 1) := by
  funext a b
  simp only [rd_u2, cpy]
  by_cases h : a = d ∧ b = o + k
  · obtain ⟨rfl, rfl⟩ := h
    rw [if_pos ⟨rfl, rfl⟩, if_pos (by omega)]
    congr 1; omega
  · rw [if_neg h]
    by_cases h2 : a = d ∧ o ≤ b ∧ b < o + k
    · rw [if_pos h2, if_pos (by omega)]
    · rw [if_neg h2, if_neg (by omega)]
theorem cpy_ne {τ : rd_S} {d : Nat} {f : Nat → Int32} {o k a b : Nat} (h : a ≠ d) : cpy τ d f o k a b = τ a b := by
  simp only [cpy]; rw [if_neg (fun q => h q.1)]
theorem cpy_in {τ : rd_S} {d : Nat} {f : Nat → Int32} {o k b : Nat} (h : b < k) : cpy τ d f o k d (o + b) = f b := by
  show (if d = d ∧ o ≤ o + b ∧ o + b < o + k then f (o + b - o) else τ d (o + b)) = f b
  rw [if_pos ⟨rfl, by omega, by omega⟩, Nat.add_sub_cancel_left]
theorem cpy_out {τ : rd_S} {d : Nat} {f : Nat → Int32} {o k b : Nat} (h : b < o ∨ o + k ≤ b) : cpy τ d f o k d b = τ d b := by
  simp only [cpy]; rw [if_neg (by omega)]
set_option maxHeartbeats 4000000 in
set_option maxRecDepth 100000 in
theorem lp_putAside (N d : Nat) (hN : 49 ≤ N) (σ : rd_S) : ∀ (m k : Nat), k + m = 12 → rd_W N d RX5 cX5_putAside 2 none 2 [.ref 33, .int (nI k)] [] (cpy σ 45 (σ 37) 0 k) (rd_is none (cpy σ 45 (σ 37) 0 12)) := by
  intro m
  induction m with
  | zero =>
    intro k hk
    obtain rfl : k = 12 := hk
    refine rr_iloadn_1 dX5_putAside_2 ?_
    refine rr_bipush (v := 12) dX5_putAside_3 (by decide) ?_
    refine rr_icmp_ge 26 dX5_putAside_5 (by decide) (fun h5 => ?_) (fun h5 => absurd (by decide) h5)
    exact rr_vret dX5_putAside_26 ⟨rfl, rfl⟩
  | succ m ih =>
    intro k hk
    refine rr_iloadn_1 dX5_putAside_2 ?_
    refine rr_bipush (v := 12) dX5_putAside_3 (by decide) ?_
    refine rr_icmp_ge 26 dX5_putAside_5 (by decide) (fun h5 => absurd ((nI_le8 (a := 12) (b := k) (by omega) (by omega)).mp h5) (by omega)) (fun h5 => ?_)
    refine rr_aloadn_0 dX5_putAside_8 ?_
    refine rr_getr 45 dX5_putAside_9 kf_X5_43 (by omega) rfl rfl rfl ?_
    refine rr_iloadn_1 dX5_putAside_12 ?_
    refine rr_aloadn_0 dX5_putAside_13 ?_
    refine rr_getr 37 dX5_putAside_14 kf_X5_19 (by omega) rfl rfl rfl ?_
    refine rr_iloadn_1 dX5_putAside_17 ?_
    refine rr_iald (k) dX5_putAside_18 (by omega) rfl rfl (show k < 12 by omega) ?_
    rw [cpy_ne (by decide)]
    refine rr_iast (k) dX5_putAside_19 (by omega) rfl rfl (show k < 12 by omega) ?_
    refine rr_iinc_1 1 dX5_putAside_20 (by decide) rfl ?_
    refine rr_goto 2 dX5_putAside_23 (by decide) ?_
    rw [nI_s k]
    have e9 := cpy_s σ 45 (σ 37) 0 k
    rw [Nat.zero_add] at e9
    rw [e9]
    exact ih (k + 1) (by omega)
set_option maxHeartbeats 4000000 in
set_option maxRecDepth 100000 in
theorem c_X5_putAside (N d : Nat) (σ : rd_S) (hN : 49 ≤ N) : rd_T N (d + 0) yX5_putAside cX5_putAside 2 none [.ref 33] σ (rd_is none (cpy σ 45 (σ 37) 0 12)) := by
  refine rd_start RX5 [.ref 33, .retAddr 0] rfl (by decide +kernel) rfl (Nat.le_of_ble_eq_true rfl) ?_
  refine rr_iconst (v := 0) dX5_putAside_0 (by decide) ?_
  refine rr_istoren_1 dX5_putAside_1 rfl ?_
  have := lp_putAside N d hN σ 12 0 rfl
  rw [cpy_0] at this
  exact this
set_option maxHeartbeats 4000000 in
set_option maxRecDepth 100000 in
theorem lp_takeBack (N d : Nat) (hN : 49 ≤ N) (σ : rd_S) : ∀ (m k : Nat), k + m = 12 → rd_W N d RX5 cX5_takeBack 2 none 2 [.ref 33, .int (nI k)] [] (cpy σ 37 (σ 45) 0 k) (rd_is none (cpy σ 37 (σ 45) 0 12)) := by
  intro m
  induction m with
  | zero =>
    intro k hk
    obtain rfl : k = 12 := hk
    refine rr_iloadn_1 dX5_takeBack_2 ?_
    refine rr_bipush (v := 12) dX5_takeBack_3 (by decide) ?_
    refine rr_icmp_ge 26 dX5_takeBack_5 (by decide) (fun h5 => ?_) (fun h5 => absurd (by decide) h5)
    exact rr_vret dX5_takeBack_26 ⟨rfl, rfl⟩
  | succ m ih =>
    intro k hk
    refine rr_iloadn_1 dX5_takeBack_2 ?_
    refine rr_bipush (v := 12) dX5_takeBack_3 (by decide) ?_
    refine rr_icmp_ge 26 dX5_takeBack_5 (by decide) (fun h5 => absurd ((nI_le8 (a := 12) (b := k) (by omega) (by omega)).mp h5) (by omega)) (fun h5 => ?_)
    refine rr_aloadn_0 dX5_takeBack_8 ?_
    refine rr_getr 37 dX5_takeBack_9 kf_X5_19 (by omega) rfl rfl rfl ?_
    refine rr_iloadn_1 dX5_takeBack_12 ?_
    refine rr_aloadn_0 dX5_takeBack_13 ?_
    refine rr_getr 45 dX5_takeBack_14 kf_X5_43 (by omega) rfl rfl rfl ?_
    refine rr_iloadn_1 dX5_takeBack_17 ?_
    refine rr_iald (k) dX5_takeBack_18 (by omega) rfl rfl (show k < 12 by omega) ?_
    rw [cpy_ne (by decide)]
    refine rr_iast (k) dX5_takeBack_19 (by omega) rfl rfl (show k < 12 by omega) ?_
    refine rr_iinc_1 1 dX5_takeBack_20 (by decide) rfl ?_
    refine rr_goto 2 dX5_takeBack_23 (by decide) ?_
    rw [nI_s k]
    have e9 := cpy_s σ 37 (σ 45) 0 k
    rw [Nat.zero_add] at e9
    rw [e9]
    exact ih (k + 1) (by omega)
set_option maxHeartbeats 4000000 in
set_option maxRecDepth 100000 in
theorem c_X5_takeBack (N d : Nat) (σ : rd_S) (hN : 49 ≤ N) : rd_T N (d + 0) yX5_takeBack cX5_takeBack 2 none [.ref 33] σ (rd_is none (cpy σ 37 (σ 45) 0 12)) := by
  refine rd_start RX5 [.ref 33, .retAddr 0] rfl (by decide +kernel) rfl (Nat.le_of_ble_eq_true rfl) ?_
  refine rr_iconst (v := 0) dX5_takeBack_0 (by decide) ?_
  refine rr_istoren_1 dX5_takeBack_1 rfl ?_
  have := lp_takeBack N d hN σ 12 0 rfl
  rw [cpy_0] at this
  exact this
theorem ms_off {σ : rd_S} {D A : sd_D} {n : Int32} {a b : Nat} (h1 : ¬ (a = 37 ∧ b < 12)) (h2 : ¬ (a = 45 ∧ b < 12)) (h3 : ¬ (a = 33 ∧ b = 18)) : ms σ D A n a b = σ a b := by unfold ms; rw [if_neg h1, if_neg h2, if_neg h3]
def md_at (σ : rd_S) (D : sd_D) : Prop := ∀ k, k < 12 → σ 37 k = md_of D k
theorem cpy12_in {τ : rd_S} {d : Nat} {f : Nat → Int32} {b : Nat} (h : b < 12) : cpy τ d f 0 12 d b = f b := by
  have := cpy_in (τ := τ) (d := d) (f := f) (o := 0) h
  rwa [Nat.zero_add] at this
theorem c_pa (N d : Nat) (σ : rd_S) (hN : 49 ≤ N) (D : sd_D) (h : md_at σ D) : rd_T N d yX5_putAside cX5_putAside 2 none [.ref 33] σ (rd_is none (ms σ D D (σ 33 18))) := by
  have := c_X5_putAside N d σ hN
  rw [show cpy σ 45 (σ 37) 0 12 = ms σ D D (σ 33 18) from ms_ext (fun a b h1 h2 h3 => by
      by_cases ha : a = 45
      · subst ha; exact cpy_out (by omega)
      · exact cpy_ne ha) (fun k hk => by rw [cpy_ne (by decide)]; exact h k hk) (fun k hk => by rw [cpy12_in hk]; exact h k hk) (cpy_ne (by decide))] at this
  exact this
theorem md_ms (σ : rd_S) (D A : sd_D) (n : Int32) : md_at (ms σ D A n) D := fun k hk => ms_st hk
theorem ms_ms (σ : rd_S) (D A E B : sd_D) (n m : Int32) : ms (ms σ D A n) E B m = ms σ E B m := by
  symm
  refine ms_ext (fun a b h1 h2 h3 => ?_) (fun k hk => ms_st hk) (fun k hk => ms_as hk) (ms_net _ _ _ _)
  simp only [ms]
  rw [if_neg h1, if_neg h2, if_neg h3, if_neg h1, if_neg h2, if_neg h3]
theorem c_pas (N d : Nat) (σ : rd_S) (hN : 49 ≤ N) (D A : sd_D) (n : Int32) : rd_T N d yX5_putAside cX5_putAside 2 none [.ref 33] (ms σ D A n) (rd_is none (ms σ D D n)) := by
  have := c_pa N d (ms σ D A n) hN D (md_ms _ _ _ _)
  rw [ms_ms, ms_net] at this
  exact this
theorem c_tb (N d : Nat) (σ : rd_S) (hN : 49 ≤ N) (D A : sd_D) (n : Int32) : rd_T N d yX5_takeBack cX5_takeBack 2 none [.ref 33] (ms σ D A n) (rd_is none (ms σ A A n)) := by
  have := c_X5_takeBack N d (ms σ D A n) hN
  rw [show cpy (ms σ D A n) 37 (ms σ D A n 45) 0 12 = ms σ A A n from ms_ext (fun a b h1 h2 h3 => by
      by_cases ha : a = 37
      · subst ha; rw [cpy_out (by omega)]; exact ms_off h1 h2 h3
      · rw [cpy_ne ha]; exact ms_off h1 h2 h3) (fun k hk => by rw [cpy12_in hk]; exact ms_as hk) (fun k hk => by rw [cpy_ne (by decide)]; exact ms_as hk) (by rw [cpy_ne (by decide)]; exact ms_net _ _ _ _)] at this
  exact this
set_option maxHeartbeats 4000000 in
set_option maxRecDepth 100000 in
theorem c_X5_placeOf (N d : Nat) (σ : rd_S) (hN : 49 ≤ N) (i : Int32) (h : σ 37 0 = i ∨ σ 37 1 = i ∨ σ 37 2 = i ∨ σ 37 3 = i) : rd_T N (d + 0) yX5_placeOf cX5_placeOf 3 (some .int) [.ref 33, .int i] σ (rd_is (some (.int (if σ 37 0 = i then 0 else if σ 37 1 = i then 1 else if σ 37 2 = i then 2 else 3))) σ) := by
  refine rd_start RX5 [.ref 33, .int i, .retAddr 0] rfl (by decide +kernel) rfl (Nat.le_of_ble_eq_true rfl) ?_
  refine rr_iconst (v := 0) dX5_placeOf_0 (by decide) ?_
  refine rr_istoren_2 dX5_placeOf_1 rfl ?_
  refine rr_aloadn_0 dX5_placeOf_2 ?_
  refine rr_getr 37 dX5_placeOf_3 kf_X5_19 (by omega) rfl rfl rfl ?_
  refine rr_iconst (v := 0) dX5_placeOf_6 (by decide) ?_
  refine rr_iloadn_2 dX5_placeOf_7 ?_
  refine rr_iadd dX5_placeOf_8 ?_
  refine rr_iald (0) dX5_placeOf_9 (by omega) rfl (by decide) (by decide) ?_
  refine rr_iloadn_1 dX5_placeOf_10 ?_
  refine rr_icmp_eq 20 dX5_placeOf_11 (by decide) (fun h11 => ?_) (fun h11 => ?_)
  · refine rr_iloadn_2 dX5_placeOf_20 ?_
    exact rr_iret dX5_placeOf_21 ⟨by simp [*], rfl⟩
  · refine rr_iincC_2 1 1 dX5_placeOf_14 (by decide) (by decide) rfl ?_
    refine rr_goto 2 dX5_placeOf_17 (by decide) ?_
    refine rr_aloadn_0 dX5_placeOf_2 ?_
    refine rr_getr 37 dX5_placeOf_3 kf_X5_19 (by omega) rfl rfl rfl ?_
    refine rr_iconst (v := 0) dX5_placeOf_6 (by decide) ?_
    refine rr_iloadn_2 dX5_placeOf_7 ?_
    refine rr_iadd dX5_placeOf_8 ?_
    refine rr_iald (1) dX5_placeOf_9 (by omega) rfl (by decide) (by decide) ?_
    refine rr_iloadn_1 dX5_placeOf_10 ?_
    refine rr_icmp_eq 20 dX5_placeOf_11 (by decide) (fun h11_1 => ?_) (fun h11_1 => ?_)
    · refine rr_iloadn_2 dX5_placeOf_20 ?_
      exact rr_iret dX5_placeOf_21 ⟨by simp [*], rfl⟩
    · refine rr_iincC_2 1 2 dX5_placeOf_14 (by decide) (by decide) rfl ?_
      refine rr_goto 2 dX5_placeOf_17 (by decide) ?_
      refine rr_aloadn_0 dX5_placeOf_2 ?_
      refine rr_getr 37 dX5_placeOf_3 kf_X5_19 (by omega) rfl rfl rfl ?_
      refine rr_iconst (v := 0) dX5_placeOf_6 (by decide) ?_
      refine rr_iloadn_2 dX5_placeOf_7 ?_
      refine rr_iadd dX5_placeOf_8 ?_
      refine rr_iald (2) dX5_placeOf_9 (by omega) rfl (by decide) (by decide) ?_
      refine rr_iloadn_1 dX5_placeOf_10 ?_
      refine rr_icmp_eq 20 dX5_placeOf_11 (by decide) (fun h11_2 => ?_) (fun h11_2 => ?_)
      · refine rr_iloadn_2 dX5_placeOf_20 ?_
        exact rr_iret dX5_placeOf_21 ⟨by simp [*], rfl⟩
      · refine rr_iincC_2 1 3 dX5_placeOf_14 (by decide) (by decide) rfl ?_
        refine rr_goto 2 dX5_placeOf_17 (by decide) ?_
        refine rr_aloadn_0 dX5_placeOf_2 ?_
        refine rr_getr 37 dX5_placeOf_3 kf_X5_19 (by omega) rfl rfl rfl ?_
        refine rr_iconst (v := 0) dX5_placeOf_6 (by decide) ?_
        refine rr_iloadn_2 dX5_placeOf_7 ?_
        refine rr_iadd dX5_placeOf_8 ?_
        refine rr_iald (3) dX5_placeOf_9 (by omega) rfl (by decide) (by decide) ?_
        refine rr_iloadn_1 dX5_placeOf_10 ?_
        refine rr_icmp_eq 20 dX5_placeOf_11 (by decide) (fun h11_3 => ?_) (fun h11_3 => absurd (by rcases h with h | h | h | h; exact absurd h h11; exact absurd h h11_1; exact absurd h h11_2; exact h) h11_3)
        refine rr_iloadn_2 dX5_placeOf_20 ?_
        exact rr_iret dX5_placeOf_21 ⟨by simp [*], rfl⟩
set_option maxHeartbeats 4000000 in
set_option maxRecDepth 100000 in
theorem c_X5_changePlaces (N d : Nat) (σ : rd_S) (hN : 49 ≤ N) (i j : Nat) (hi : i < 12) (hj : j < 12) : rd_T N (d + 0) yX5_changePlaces cX5_changePlaces 4 none [.ref 33, .int (nI i), .int (nI j)] σ (rd_is none (rd_u2 (rd_u2 σ 37 i (σ 37 j)) 37 j (σ 37 i))) := by
  refine rd_start RX5 [.ref 33, .int (nI i), .int (nI j), .retAddr 0] rfl (by decide +kernel) rfl (Nat.le_of_ble_eq_true rfl) ?_
  refine rr_aloadn_0 dX5_changePlaces_0 ?_
  refine rr_getr 37 dX5_changePlaces_1 kf_X5_19 (by omega) rfl rfl rfl ?_
  refine rr_iconst (v := 0) dX5_changePlaces_4 (by decide) ?_
  refine rr_iloadn_1 dX5_changePlaces_5 ?_
  refine rr_iadd dX5_changePlaces_6 ?_
  rw [show (0 : Int32) + nI i = nI i from by rw [← nI_0, nI_add, Nat.zero_add]]
  refine rr_iald (i) dX5_changePlaces_7 (by omega) rfl rfl hi ?_
  refine rr_istoren_3 dX5_changePlaces_8 rfl ?_
  refine rr_aloadn_0 dX5_changePlaces_9 ?_
  refine rr_getr 37 dX5_changePlaces_10 kf_X5_19 (by omega) rfl rfl rfl ?_
  refine rr_iconst (v := 0) dX5_changePlaces_13 (by decide) ?_
  refine rr_iloadn_1 dX5_changePlaces_14 ?_
  refine rr_iadd dX5_changePlaces_15 ?_
  rw [show (0 : Int32) + nI i = nI i from by rw [← nI_0, nI_add, Nat.zero_add]]
  refine rr_aloadn_0 dX5_changePlaces_16 ?_
  refine rr_getr 37 dX5_changePlaces_17 kf_X5_19 (by omega) rfl rfl rfl ?_
  refine rr_iconst (v := 0) dX5_changePlaces_20 (by decide) ?_
  refine rr_iloadn_2 dX5_changePlaces_21 ?_
  refine rr_iadd dX5_changePlaces_22 ?_
  rw [show (0 : Int32) + nI j = nI j from by rw [← nI_0, nI_add, Nat.zero_add]]
  refine rr_iald (j) dX5_changePlaces_23 (by omega) rfl rfl hj ?_
  refine rr_iast (i) dX5_changePlaces_24 (by omega) rfl rfl hi ?_
  refine rr_aloadn_0 dX5_changePlaces_25 ?_
  refine rr_getr 37 dX5_changePlaces_26 kf_X5_19 (by omega) rfl rfl rfl ?_
  refine rr_iconst (v := 0) dX5_changePlaces_29 (by decide) ?_
  refine rr_iloadn_2 dX5_changePlaces_30 ?_
  refine rr_iadd dX5_changePlaces_31 ?_
  rw [show (0 : Int32) + nI j = nI j from by rw [← nI_0, nI_add, Nat.zero_add]]
  refine rr_iloadn_3 dX5_changePlaces_32 ?_
  refine rr_iast (j) dX5_changePlaces_33 (by omega) rfl rfl hj ?_
  exact rr_vret dX5_changePlaces_34 ⟨rfl, rfl⟩
set_option maxHeartbeats 4000000 in
set_option maxRecDepth 100000 in
theorem c_X5_isTight (N d : Nat) (σ : rd_S) (u l : Int32) : rd_T N (d + 0) yX5_isTight cX5_isTight 2 (some .boolean) [.int u, .int l] σ (rd_is (some (.int (if 9999 < u ∨ u < -9999 ∨ 9999 < l then 1 else 0))) σ) := by
  refine rd_start RX5 [.int u, .int l] rfl (by decide +kernel) rfl (Nat.le_of_ble_eq_true rfl) ?_
  refine rr_iloadn_0 dX5_isTight_0 ?_
  refine rr_sipush (v := 9999) dX5_isTight_1 (by decide) ?_
  refine rr_icmp_gt 21 dX5_isTight_4 (by decide) (fun h4 => ?_) (fun h4 => ?_)
  · refine rr_iconst (v := 1) dX5_isTight_21 (by decide) ?_
    refine rr_goto 26 dX5_isTight_22 (by decide) ?_
    exact rr_zret dX5_isTight_26 (by decide) ⟨by first | (rw [if_pos (Or.inl h4)]; done) | (rw [if_pos (Or.inr (Or.inl h11))]; done) | (rw [if_pos (Or.inr (Or.inr (Int32.not_le.mp h18)))]; done) | (rw [if_neg (by rintro (q | q | q); exact h4 q; exact h11 q; exact absurd h18 (Int32.not_le.mpr q))]; done), rfl⟩
  · refine rr_iloadn_0 dX5_isTight_7 ?_
    refine rr_sipush (v := (-9999)) dX5_isTight_8 (by decide) ?_
    refine rr_icmp_lt 21 dX5_isTight_11 (by decide) (fun h11 => ?_) (fun h11 => ?_)
    · refine rr_iconst (v := 1) dX5_isTight_21 (by decide) ?_
      refine rr_goto 26 dX5_isTight_22 (by decide) ?_
      exact rr_zret dX5_isTight_26 (by decide) ⟨by first | (rw [if_pos (Or.inl h4)]; done) | (rw [if_pos (Or.inr (Or.inl h11))]; done) | (rw [if_pos (Or.inr (Or.inr (Int32.not_le.mp h18)))]; done) | (rw [if_neg (by rintro (q | q | q); exact h4 q; exact h11 q; exact absurd h18 (Int32.not_le.mpr q))]; done), rfl⟩
    · refine rr_iloadn_1 dX5_isTight_14 ?_
      refine rr_sipush (v := 9999) dX5_isTight_15 (by decide) ?_
      refine rr_icmp_le 25 dX5_isTight_18 (by decide) (fun h18 => ?_) (fun h18 => ?_)
      · refine rr_iconst (v := 0) dX5_isTight_25 (by decide) ?_
        exact rr_zret dX5_isTight_26 (by decide) ⟨by first | (rw [if_pos (Or.inl h4)]; done) | (rw [if_pos (Or.inr (Or.inl h11))]; done) | (rw [if_pos (Or.inr (Or.inr (Int32.not_le.mp h18)))]; done) | (rw [if_neg (by rintro (q | q | q); exact h4 q; exact h11 q; exact absurd h18 (Int32.not_le.mpr q))]; done), rfl⟩
      · refine rr_iconst (v := 1) dX5_isTight_21 (by decide) ?_
        refine rr_goto 26 dX5_isTight_22 (by decide) ?_
        exact rr_zret dX5_isTight_26 (by decide) ⟨by first | (rw [if_pos (Or.inl h4)]; done) | (rw [if_pos (Or.inr (Or.inl h11))]; done) | (rw [if_pos (Or.inr (Or.inr (Int32.not_le.mp h18)))]; done) | (rw [if_neg (by rintro (q | q | q); exact h4 q; exact h11 q; exact absurd h18 (Int32.not_le.mpr q))]; done), rfl⟩
