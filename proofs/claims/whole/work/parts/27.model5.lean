/-! ===== the reference: free, reach, meet, ways, plain, the row ===== -/
/-- alike but for what is tried out -/
def mq_eq (s σ : rd_S) : Prop := ∀ a b, ¬ (a = 42 ∨ a = 43 ∨ a = 44 ∨ a = 45 ∨ a = 46 ∨ a = 47 ∨ a = 48 ∨ (a = 33 ∧ (b = 16 ∨ b = 17 ∨ b = 18 ∨ b = 20 ∨ b = 21))) → s a b = σ a b
theorem mq_eq.refl (σ : rd_S) : mq_eq σ σ := fun _ _ _ => rfl
theorem mq_eq.trans {a b c : rd_S} (h1 : mq_eq a b) (h2 : mq_eq b c) : mq_eq a c := fun x y h => (h1 x y h).trans (h2 x y h)
theorem mq_ms {τ σ : rd_S} {D A : sd_D} {n : Int32} (h : mq_eq τ σ) (hD : md_at σ D) : mq_eq (ms τ D A n) σ := by
  intro a b q
  by_cases ha : a = 37 ∧ b < 12
  · obtain ⟨rfl, hb⟩ := ha
    rw [ms_st hb]; exact (hD b hb).symm
  · rw [ms_off ha (by omega) (by omega)]; exact h a b q
theorem mq_se {τ σ : rd_S} (h : se_eq τ σ) : mq_eq τ σ := fun a b q => h a b (by omega)
def te_out (res : Option (Nat × Nat)) (k : Int32) : Int32 := match res with
  | none => -4
  | some q => if k < nI q.1 then (if 0 ≤ k then nI (q.2 / 3 ^ (q.1 - 1 - k.toInt.natAbs) % 3) else nI q.1) else -4
theorem se_in_lt {P : Nat → Bool} : ∀ {m c k : Nat}, se_in P m c = some k → c ≤ k ∧ k < c + m
  | 0, _, _, h => by cases h
  | m + 1, c, k, h => by
    unfold se_in at h
    split at h
    · cases h; omega
    · have := se_in_lt h; omega
theorem se_out_lt {G : sd_D → Bool} {kb : Int32} {D : sd_D} : ∀ {m n : Nat} {q : Nat × Nat}, se_out G kb D m n = some q → n ≤ q.1 ∧ q.1 < n + m ∧ q.2 < 3 ^ q.1
  | 0, _, _, h => by cases h
  | m + 1, n, q, h => by
    unfold se_out at h
    split at h
    · rename_i c hc
      cases h
      have := se_in_lt hc
      simp; omega
    · have := se_out_lt h; omega
set_option maxHeartbeats 4000000 in
set_option maxRecDepth 100000 in
theorem c_tells0 (N d : Nat) (σ : rd_S) (hN : 49 ≤ N) (k : Int32) (h : σ 33 20 = -4) : rd_T N (d + 1) yX5_tells cX5_tells 2 (some .int) [.ref 33, .int k] σ (rd_is (some (.int (-4))) σ) := by
  refine rd_start RX5 [.ref 33, .int k] rfl (by decide +kernel) rfl (Nat.le_of_ble_eq_true rfl) ?_
  refine rr_aloadn_0 dX5_tells_0 ?_
  refine rr_geti dX5_tells_1 kf_X5_159 (by omega) rfl rfl ?_
  rw [h]
  refine rr_if_lt 15 dX5_tells_4 (by decide) (fun h4 => ?_) (fun h4 => absurd (by decide) h4)
  refine rr_bipush (v := (-4)) dX5_tells_15 (by decide) ?_
  exact rr_iret dX5_tells_17 ⟨rfl, rfl⟩
set_option maxHeartbeats 4000000 in
set_option maxRecDepth 100000 in
theorem c_tells1 (N d : Nat) (σ : rd_S) (hN : 49 ≤ N) (k : Int32) (n q : Nat) (h20 : σ 33 20 = nI n) (h21 : σ 33 21 = nI q) (hn : n ≤ 7) (hq : q < 3 ^ n) (hk : -1 ≤ k.toInt) : rd_T N (d + 1) yX5_tells cX5_tells 2 (some .int) [.ref 33, .int k] σ (rd_is (some (.int (te_out (some (n, q)) k))) σ) := by
  refine rd_start RX5 [.ref 33, .int k] rfl (by decide +kernel) rfl (Nat.le_of_ble_eq_true rfl) ?_
  have h3 := p3_le hn
  refine rr_aloadn_0 dX5_tells_0 ?_
  refine rr_geti dX5_tells_1 kf_X5_159 (by omega) rfl rfl ?_
  rw [h20]
  refine rr_if_lt 15 dX5_tells_4 (by decide) (fun h4 => absurd h4 (nI_pos (by omega))) (fun h4 => ?_)
  refine rr_iloadn_1 dX5_tells_7 ?_
  refine rr_aloadn_0 dX5_tells_8 ?_
  refine rr_geti dX5_tells_9 kf_X5_159 (by omega) rfl rfl ?_
  rw [h20]
  refine rr_icmp_lt 18 dX5_tells_12 (by decide) (fun h12 => ?_) (fun h12 => ?_)
  · refine rr_iloadn_1 dX5_tells_18 ?_
    refine rr_if_ge 29 dX5_tells_19 (by decide) (fun h19 => ?_) (fun h19 => ?_)
    · refine rr_aloadn_0 dX5_tells_29 ?_
      refine rr_geti dX5_tells_30 kf_X5_171 (by omega) rfl rfl ?_
      rw [h21]
      refine rr_iconst (v := 3) dX5_tells_33 (by decide) ?_
      refine rr_aloadn_0 dX5_tells_34 ?_
      refine rr_geti dX5_tells_35 kf_X5_159 (by omega) rfl rfl ?_
      rw [h20]
      have hk0 : 0 ≤ k.toInt := by have := Int32.le_iff_toInt_le.mp h19; rwa [show (0 : Int32).toInt = 0 from rfl] at this
      have hkn : k.toInt.natAbs < n := by { have := Int32.lt_iff_toInt_lt.mp h12; rw [nI_toInt (by omega)] at this; omega }
      refine rr_iconst (v := 1) dX5_tells_38 (by decide) ?_
      refine rr_isub dX5_tells_39 ?_
      refine rr_iloadn_1 dX5_tells_40 ?_
      refine rr_isub dX5_tells_41 ?_
      rw [show nI n - 1 - k = nI (n - 1 - k.toInt.natAbs) by { conv => { lhs; rw [hp_nI hk0] }; rw [show nI n - 1 = nI (n - 1) from pk_sub (b := 1) (by omega), pk_sub (by omega)] }]
      refine rr_callSiD (c_X5_rowsOf N _ _ 3 _ (by omega)) km_X5_156 rfl rfl (Nat.le_of_ble_eq_true rfl) dX5_tells_42 ?_
      have hp3 := p3_le (show n - 1 - k.toInt.natAbs ≤ 7 by omega)
      have hp0 := p3_pos (n - 1 - k.toInt.natAbs)
      refine rr_idiv dX5_tells_45 (nI_ne0 hp0 (by omega)) ?_
      refine rr_iconst (v := 3) dX5_tells_46 (by decide) ?_
      refine rr_irem dX5_tells_47 (by decide) ?_
      exact rr_iret dX5_tells_48 ⟨by simp only [te_out]; rw [if_pos h12]; first | (rw [if_neg h19]; done) | (rw [if_pos h19, pk_div (by omega) hp0 (by omega)]; exact congrArg (fun z => some (Value.int z)) (pk_rem (d := 3) (by have := Nat.div_le_self q (3 ^ (n - 1 - k.toInt.natAbs)); omega) (by decide) (by decide))), rfl⟩
    · refine rr_aloadn_0 dX5_tells_22 ?_
      refine rr_geti dX5_tells_23 kf_X5_159 (by omega) rfl rfl ?_
      rw [h20]
      refine rr_goto 48 dX5_tells_26 (by decide) ?_
      exact rr_iret dX5_tells_48 ⟨by simp only [te_out]; rw [if_pos h12]; first | (rw [if_neg h19]; done) | (rw [if_pos h19, pk_div (by omega) hp0 (by omega)]; exact congrArg (fun z => some (Value.int z)) (pk_rem (d := 3) (by have := Nat.div_le_self q (3 ^ (n - 1 - k.toInt.natAbs)); omega) (by decide) (by decide))), rfl⟩
  · refine rr_bipush (v := (-4)) dX5_tells_15 (by decide) ?_
    exact rr_iret dX5_tells_17 ⟨by simp only [te_out]; rw [if_neg h12], rfl⟩
set_option maxHeartbeats 4000000 in
set_option maxRecDepth 100000 in
theorem c_X5_isPlaceOfRow (N d : Nat) (σ : rd_S) (i : Int32) : rd_T N (d + 1) yX5_isPlaceOfRow cX5_isPlaceOfRow 1 (some .boolean) [.int i] σ (rd_is (some (.int (if hp_rg (-1) 6 i = true then 1 else 0))) σ) := by
  refine rd_start RX5 [.int i] rfl (by decide +kernel) rfl (Nat.le_of_ble_eq_true rfl) ?_
  refine rr_iloadn_0 dX5_isPlaceOfRow_0 ?_
  refine rr_i2l dX5_isPlaceOfRow_1 ?_
  refine rr_ldc2 dX5_isPlaceOfRow_2 kc_X5_174 ?_
  refine rr_ldc2 dX5_isPlaceOfRow_5 kc_X5_176 ?_
  refine rr_callSiD (c_in N _ _ _ _ _ (-1) (6) rfl rfl) km_X5_62 rfl rfl (Nat.le_of_ble_eq_true rfl) dX5_isPlaceOfRow_8 ?_
  exact rr_zret dX5_isPlaceOfRow_11 (by split <;> decide) ⟨rfl, rfl⟩
set_option maxHeartbeats 4000000 in
set_option maxRecDepth 100000 in
theorem lp_common2 (N d : Nat) (σ : rd_S) (w0 w1 : Int32) : ∀ (f x y : Nat) (w : Value), y < f → x < 2 ^ 31 → y < 2 ^ 31 → rd_W N d RX5 cX5_common 5 (some .int) 13 [.int w0, .int w1, .int (nI x), .int (nI y), w] [] σ (rd_is (some (.int (nI (Nat.gcd x y)))) σ) := by
  intro f
  induction f with
  | zero => intro x y w h; omega
  | succ f ih =>
    intro x y w hf hx hy
    rcases Nat.eq_zero_or_pos y with rfl | hy0
    · skip
      refine rr_iloadn_3 dX5_common_13 ?_
      refine rr_if_eq 30 dX5_common_14 (by decide) (fun h14 => ?_) (fun h14 => absurd rfl h14)
      refine rr_iloadn_2 dX5_common_30 ?_
      exact rr_iret dX5_common_31 ⟨by simp, rfl⟩
    · have hr : x % y < y := Nat.mod_lt _ hy0
      have hg : Nat.gcd x y = Nat.gcd y (x % y) := by rw [Nat.gcd_comm x y, Nat.gcd_rec y x, Nat.gcd_comm]
      refine rr_iloadn_3 dX5_common_13 ?_
      refine rr_if_eq 30 dX5_common_14 (by decide) (fun h14 => absurd h14 (nI_ne0 hy0 (by omega))) (fun h14 => ?_)
      refine rr_iloadn_2 dX5_common_17 ?_
      refine rr_iloadn_3 dX5_common_18 ?_
      refine rr_irem dX5_common_19 (nI_ne0 hy0 (by omega)) ?_
      rw [nI_rem hx hy0 (by omega)]
      refine rr_istore_4 dX5_common_20 rfl ?_
      refine rr_iloadn_3 dX5_common_22 ?_
      refine rr_istoren_2 dX5_common_23 rfl ?_
      refine rr_iload_4 dX5_common_24 ?_
      refine rr_istoren_3 dX5_common_26 rfl ?_
      refine rr_goto 13 dX5_common_27 (by decide) ?_
      rw [hg]
      exact ih y (x % y) _ (by omega) hy (by omega)
set_option maxHeartbeats 4000000 in
set_option maxRecDepth 100000 in
theorem c_X5_common (N d : Nat) (σ : rd_S) (a : Int32) (y : Nat) (ha : -2147483648 < a.toInt) (hy : y < 2 ^ 31) : rd_T N (d + 0) yX5_common cX5_common 5 (some .int) [.int a, .int (nI y)] σ (rd_is (some (.int (nI (Nat.gcd a.toInt.natAbs y)))) σ) := by
  refine rd_start RX5 [.int a, .int (nI y), .retAddr 0, .retAddr 0, .retAddr 0] rfl (by decide +kernel) rfl (Nat.le_of_ble_eq_true rfl) ?_
  have hal := Int32.toInt_lt a
  refine rr_iloadn_0 dX5_common_0 ?_
  refine rr_if_geJ 9 10 (a) (-a) dX5_common_1 (by decide) (fun h1 k1 => ?_) (fun h1 k1 => ?_) ?_
  · refine rr_iloadn_0 dX5_common_9 ?_
    exact k1
  · refine rr_iloadn_0 dX5_common_4 ?_
    refine rr_ineg dX5_common_5 ?_
    refine rr_goto 10 dX5_common_6 (by decide) ?_
    exact k1
  rw [show (if 0 ≤ a then a else -a) = nI a.toInt.natAbs by { rw [← hp_abs ha]; unfold sd_abs; split; rfl; simp }]
  refine rr_istoren_2 dX5_common_10 rfl ?_
  refine rr_iloadn_1 dX5_common_11 ?_
  refine rr_istoren_3 dX5_common_12 rfl ?_
  exact lp_common2 N d σ _ _ (y + 1) _ y _ (by omega) (by omega) hy
set_option maxHeartbeats 4000000 in
set_option maxRecDepth 100000 in
theorem c_X5_isFraction (N d : Nat) (σ : rd_S) (u l : Int32) : rd_T N (d + 1) yX5_isFraction cX5_isFraction 2 (some .boolean) [.int u, .int l] σ (rd_is (some (.int (if hp_fr u l = true then 1 else 0))) σ) := by
  refine rd_start RX5 [.int u, .int l] rfl (by decide +kernel) rfl (Nat.le_of_ble_eq_true rfl) ?_
  refine rr_iloadn_0 dX5_isFraction_0 ?_
  refine rr_i2l dX5_isFraction_1 ?_
  refine rr_ldc2 dX5_isFraction_2 kc_X5_188 ?_
  refine rr_ldc2 dX5_isFraction_5 kc_X5_190 ?_
  refine rr_callSiD (c_in N _ _ _ _ _ (-99) (99) rfl rfl) km_X5_62 rfl rfl (Nat.le_of_ble_eq_true rfl) dX5_isFraction_8 ?_
  cases hq1 : hp_rg (-99) 99 u
  · refine rr_if_eq 51 dX5_isFraction_11 (by decide) (fun h11 => ?_) (fun h11 => absurd (by simp) h11)
    refine rr_iconst (v := 0) dX5_isFraction_51 (by decide) ?_
    exact rr_zret dX5_isFraction_52 (by decide) ⟨by (try simp only [hp_rg, decide_eq_true_eq, decide_eq_false_iff_not] at hq1); (try simp only [hp_rg, decide_eq_true_eq, decide_eq_false_iff_not] at hq2); (try rw [Int32.le_iff_toInt_le, hp_l0] at h27); (try rw [← Int32.toInt_inj, hp_l1] at h44); (try rw [hge] at h36); first | (rw [if_pos (by simp only [hp_fr, decide_eq_true_eq]; omega)]; done) | (rw [if_neg (by simp only [hp_fr, decide_eq_true_eq]; omega)]; done), rfl⟩
  · refine rr_if_eq 51 dX5_isFraction_11 (by decide) (fun h11 => absurd h11 (by simp)) (fun h11 => ?_)
    refine rr_iloadn_1 dX5_isFraction_14 ?_
    refine rr_i2l dX5_isFraction_15 ?_
    refine rr_lconst (v := 0) dX5_isFraction_16 (by decide) ?_
    refine rr_ldc2 dX5_isFraction_17 kc_X5_190 ?_
    refine rr_callSiD (c_in N _ _ _ _ _ (0) (99) rfl rfl) km_X5_62 rfl rfl (Nat.le_of_ble_eq_true rfl) dX5_isFraction_20 ?_
    cases hq2 : hp_rg 0 99 l
    · refine rr_if_eq 51 dX5_isFraction_23 (by decide) (fun h23 => ?_) (fun h23 => absurd (by simp) h23)
      refine rr_iconst (v := 0) dX5_isFraction_51 (by decide) ?_
      exact rr_zret dX5_isFraction_52 (by decide) ⟨by (try simp only [hp_rg, decide_eq_true_eq, decide_eq_false_iff_not] at hq1); (try simp only [hp_rg, decide_eq_true_eq, decide_eq_false_iff_not] at hq2); (try rw [Int32.le_iff_toInt_le, hp_l0] at h27); (try rw [← Int32.toInt_inj, hp_l1] at h44); (try rw [hge] at h36); first | (rw [if_pos (by simp only [hp_fr, decide_eq_true_eq]; omega)]; done) | (rw [if_neg (by simp only [hp_fr, decide_eq_true_eq]; omega)]; done), rfl⟩
    · refine rr_if_eq 51 dX5_isFraction_23 (by decide) (fun h23 => absurd h23 (by simp)) (fun h23 => ?_)
      refine rr_iloadn_1 dX5_isFraction_26 ?_
      refine rr_if_le 42 dX5_isFraction_27 (by decide) (fun h27 => ?_) (fun h27 => ?_)
      · refine rr_iloadn_0 dX5_isFraction_42 ?_
        refine rr_iconst (v := 1) dX5_isFraction_43 (by decide) ?_
        refine rr_icmp_ne 51 dX5_isFraction_44 (by decide) (fun h44 => ?_) (fun h44 => ?_)
        · refine rr_iconst (v := 0) dX5_isFraction_51 (by decide) ?_
          exact rr_zret dX5_isFraction_52 (by decide) ⟨by (try simp only [hp_rg, decide_eq_true_eq, decide_eq_false_iff_not] at hq1); (try simp only [hp_rg, decide_eq_true_eq, decide_eq_false_iff_not] at hq2); (try rw [Int32.le_iff_toInt_le, hp_l0] at h27); (try rw [← Int32.toInt_inj, hp_l1] at h44); (try rw [hge] at h36); first | (rw [if_pos (by simp only [hp_fr, decide_eq_true_eq]; omega)]; done) | (rw [if_neg (by simp only [hp_fr, decide_eq_true_eq]; omega)]; done), rfl⟩
        · refine rr_iconst (v := 1) dX5_isFraction_47 (by decide) ?_
          refine rr_goto 52 dX5_isFraction_48 (by decide) ?_
          exact rr_zret dX5_isFraction_52 (by decide) ⟨by (try simp only [hp_rg, decide_eq_true_eq, decide_eq_false_iff_not] at hq1); (try simp only [hp_rg, decide_eq_true_eq, decide_eq_false_iff_not] at hq2); (try rw [Int32.le_iff_toInt_le, hp_l0] at h27); (try rw [← Int32.toInt_inj, hp_l1] at h44); (try rw [hge] at h36); first | (rw [if_pos (by simp only [hp_fr, decide_eq_true_eq]; omega)]; done) | (rw [if_neg (by simp only [hp_fr, decide_eq_true_eq]; omega)]; done), rfl⟩
      · refine rr_iloadn_0 dX5_isFraction_30 ?_
        refine rr_iloadn_1 dX5_isFraction_31 ?_
        simp only [hp_rg, decide_eq_true_eq] at hq1 hq2
        have h27b : ¬ l.toInt ≤ 0 := by { have hz : ¬ l.toInt ≤ (0 : Int32).toInt := fun q => h27 (Int32.le_iff_toInt_le.mpr q); exact hz }
        rw [show (Value.int l) = Value.int (nI l.toInt.natAbs) from congrArg Value.int (hp_nI (by omega))]
        refine rr_callSiD (c_X5_common N _ _ u _ (by omega) (by omega)) km_X5_192 rfl rfl (Nat.le_of_ble_eq_true rfl) dX5_isFraction_32 ?_
        refine rr_iconst (v := 1) dX5_isFraction_35 (by decide) ?_
        have hgb := Nat.gcd_le_right u.toInt.natAbs (show 0 < l.toInt.natAbs by omega)
        have hge : nI (Nat.gcd u.toInt.natAbs l.toInt.natAbs) = 1 ↔ Nat.gcd u.toInt.natAbs l.toInt.natAbs = 1 := nI_eq8 (b := 1) (by omega) (by omega)
        refine rr_icmp_ne 51 dX5_isFraction_36 (by decide) (fun h36 => ?_) (fun h36 => ?_)
        · refine rr_iconst (v := 0) dX5_isFraction_51 (by decide) ?_
          exact rr_zret dX5_isFraction_52 (by decide) ⟨by (try simp only [hp_rg, decide_eq_true_eq, decide_eq_false_iff_not] at hq1); (try simp only [hp_rg, decide_eq_true_eq, decide_eq_false_iff_not] at hq2); (try rw [Int32.le_iff_toInt_le, hp_l0] at h27); (try rw [← Int32.toInt_inj, hp_l1] at h44); (try rw [hge] at h36); first | (rw [if_pos (by simp only [hp_fr, decide_eq_true_eq]; omega)]; done) | (rw [if_neg (by simp only [hp_fr, decide_eq_true_eq]; omega)]; done), rfl⟩
        · refine rr_goto 47 dX5_isFraction_39 (by decide) ?_
          refine rr_iconst (v := 1) dX5_isFraction_47 (by decide) ?_
          refine rr_goto 52 dX5_isFraction_48 (by decide) ?_
          exact rr_zret dX5_isFraction_52 (by decide) ⟨by (try simp only [hp_rg, decide_eq_true_eq, decide_eq_false_iff_not] at hq1); (try simp only [hp_rg, decide_eq_true_eq, decide_eq_false_iff_not] at hq2); (try rw [Int32.le_iff_toInt_le, hp_l0] at h27); (try rw [← Int32.toInt_inj, hp_l1] at h44); (try rw [hge] at h36); first | (rw [if_pos (by simp only [hp_fr, decide_eq_true_eq]; omega)]; done) | (rw [if_neg (by simp only [hp_fr, decide_eq_true_eq]; omega)]; done), rfl⟩
theorem c_tells (N d : Nat) (σ s : rd_S) (hN : 49 ≤ N) (k : Int32) (D : sd_D) (hD : md_at σ D) (res : Option (Nat × Nat)) (hres : ∀ q, res = some q → q.1 ≤ 7 ∧ q.2 < 3 ^ q.1) (hs : se_post σ s D res) (hk : -1 ≤ k.toInt) : rd_T N (d + 1) yX5_tells cX5_tells 2 (some .int) [.ref 33, .int k] s (fun r u => r = some (.int (te_out res k)) ∧ mq_eq u σ) := by
  obtain ⟨τ, n0, rfl, he, hm⟩ := hs
  have hmq : mq_eq (ms τ D D n0) σ := mq_ms (mq_se he) hD
  have e20 : ms τ D D n0 33 20 = τ 33 20 := ms_ne (by decide) (by decide) (by omega)
  have e21 : ms τ D D n0 33 21 = τ 33 21 := ms_ne (by decide) (by decide) (by omega)
  cases res with
  | none => exact (c_tells0 N d _ hN k (by rw [e20]; exact hm)).post (fun r u q => ⟨q.1, q.2 ▸ hmq⟩)
  | some q =>
    obtain ⟨h1, h2⟩ := hres q rfl
    exact (c_tells1 N d _ hN k q.1 q.2 (by rw [e20]; exact hm.1) (by rw [e21]; exact hm.2) h1 h2 hk).post (fun r u q => ⟨q.1, q.2 ▸ hmq⟩)
theorem se_res {G : sd_D → Bool} {kb : Int32} {D : sd_D} : ∀ q, se_out G kb D 8 0 = some q → q.1 ≤ 7 ∧ q.2 < 3 ^ q.1 := fun q h => by have := se_out_lt h; omega
theorem hp_k {k : Int32} (h : hp_rg (-1) 6 k = true) : -1 ≤ k.toInt := by simp only [hp_rg, decide_eq_true_eq] at h; exact h.1
set_option maxHeartbeats 4000000 in
set_option maxRecDepth 100000 in
theorem m_free_b (N d : Nat) (σ : rd_S) (hN : 49 ≤ N) (k : Int32) (h : hp_rg (-1) 6 k = false) : rd_T N (d + 5) yX5_free cX5_free 2 (some .int) [.ref 33, .int k] σ (rd_is (some (.int (-1))) σ) := by
  refine rd_start RX5 [.ref 33, .int k] rfl (by decide +kernel) rfl (Nat.le_of_ble_eq_true rfl) ?_
  refine rr_iloadn_1 dX5_free_0 ?_
  refine rr_callSiD (c_X5_isPlaceOfRow N _ _ _) km_X5_178 rfl rfl (Nat.le_of_ble_eq_true rfl) dX5_free_1 ?_
  refine rr_if_ne 9 dX5_free_4 (by decide) (fun h4 => absurd (by simp [h]) h4) (fun h4 => ?_)
  refine rr_iconst (v := (-1)) dX5_free_7 (by decide) ?_
  exact rr_iret dX5_free_8 ⟨rfl, rfl⟩
set_option maxHeartbeats 4000000 in
set_option maxRecDepth 100000 in
theorem m_free_s (N d : Nat) (σ : rd_S) (hN : 49 ≤ N) (c : Nat) (hc : c + 8 < 1000000) (D : sd_D) (kb : Int32) (hw : wf c D) (hk : kd_at σ kb) (hD : md_at σ D) (k : Int32) (h : hp_rg (-1) 6 k = true) : rd_T N (d + 5) yX5_free cX5_free 2 (some .int) [.ref 33, .int k] σ (fun r s => r = some (.int (te_out (se_out (gw 0 1) kb D 8 0) k)) ∧ mq_eq s σ) := by
  refine rd_start RX5 [.ref 33, .int k] rfl (by decide +kernel) rfl (Nat.le_of_ble_eq_true rfl) ?_
  refine rr_iloadn_1 dX5_free_0 ?_
  refine rr_callSiD (c_X5_isPlaceOfRow N _ _ _) km_X5_178 rfl rfl (Nat.le_of_ble_eq_true rfl) dX5_free_1 ?_
  refine rr_if_ne 9 dX5_free_4 (by decide) (fun h4 => ?_) (fun h4 => absurd h4 (by simp [h]))
  refine rr_aloadn_0 dX5_free_9 ?_
  refine rr_iconst (v := 0) dX5_free_10 (by decide) ?_
  refine rr_iconst (v := 1) dX5_free_11 (by decide) ?_
  refine rr_iconst (v := (-1)) dX5_free_12 (by decide) ?_
  refine rr_iconst (v := (-1)) dX5_free_13 (by decide) ?_
  refine rr_callVv (c_X5_search N _ σ hN c hc D kb 0 1 (-1) (-1) _ hw hk (Or.inl ⟨rfl, rfl⟩) hD) km_X5_181 rfl rfl (by omega) rfl (Nat.le_of_ble_eq_true rfl) dX5_free_14 (fun s14 q14 => ?_)
  obtain ⟨-, q14⟩ := q14
  refine rr_aloadn_0 dX5_free_17 ?_
  refine rr_iloadn_1 dX5_free_18 ?_
  refine rr_callVi (c_tells N _ σ _ hN k D hD _ se_res q14 (hp_k h)) km_X5_185 rfl rfl (by omega) rfl (Nat.le_of_ble_eq_true rfl) dX5_free_19 (fun r19 s19 q19 => ?_)
  obtain ⟨hr, he⟩ := q19
  cases hr
  exact rr_iret dX5_free_22 ⟨rfl, he⟩
set_option maxHeartbeats 4000000 in
set_option maxRecDepth 100000 in
theorem m_reach_b (N d : Nat) (σ : rd_S) (hN : 49 ≤ N) (u l k : Int32) (h : hp_fr u l = false ∨ hp_rg (-1) 6 k = false) : rd_T N (d + 5) yX5_reach cX5_reach 4 (some .int) [.ref 33, .int u, .int l, .int k] σ (rd_is (some (.int (-1))) σ) := by
  refine rd_start RX5 [.ref 33, .int u, .int l, .int k] rfl (by decide +kernel) rfl (Nat.le_of_ble_eq_true rfl) ?_
  refine rr_iloadn_1 dX5_reach_0 ?_
  refine rr_iloadn_2 dX5_reach_1 ?_
  refine rr_callSiD (c_X5_isFraction N _ _ _ _) km_X5_195 rfl rfl (Nat.le_of_ble_eq_true rfl) dX5_reach_2 ?_
  refine rr_if_eq 15 dX5_reach_5 (by decide) (fun h5 => ?_) (fun h5 => ?_)
  · refine rr_iconst (v := (-1)) dX5_reach_15 (by decide) ?_
    exact rr_iret dX5_reach_16 ⟨rfl, rfl⟩
  · refine rr_iloadn_3 dX5_reach_8 ?_
    refine rr_callSiD (c_X5_isPlaceOfRow N _ _ _) km_X5_178 rfl rfl (Nat.le_of_ble_eq_true rfl) dX5_reach_9 ?_
    refine rr_if_ne 17 dX5_reach_12 (by decide) (fun h12 => absurd (by rcases h with h | h; { simp [h] at h5 }; { simp [h] }) h12) (fun h12 => ?_)
    refine rr_iconst (v := (-1)) dX5_reach_15 (by decide) ?_
    exact rr_iret dX5_reach_16 ⟨rfl, rfl⟩
set_option maxHeartbeats 4000000 in
set_option maxRecDepth 100000 in
theorem m_reach_s (N d : Nat) (σ : rd_S) (hN : 49 ≤ N) (c : Nat) (hc : c + 8 < 1000000) (D : sd_D) (kb : Int32) (hw : wf c D) (hk : kd_at σ kb) (hD : md_at σ D) (u l k : Int32) (h1 : hp_fr u l = true) (h2 : hp_rg (-1) 6 k = true) : rd_T N (d + 5) yX5_reach cX5_reach 4 (some .int) [.ref 33, .int u, .int l, .int k] σ (fun r s => r = some (.int (te_out (se_out (gw u l) kb D 8 0) k)) ∧ mq_eq s σ) := by
  refine rd_start RX5 [.ref 33, .int u, .int l, .int k] rfl (by decide +kernel) rfl (Nat.le_of_ble_eq_true rfl) ?_
  refine rr_iloadn_1 dX5_reach_0 ?_
  refine rr_iloadn_2 dX5_reach_1 ?_
  refine rr_callSiD (c_X5_isFraction N _ _ _ _) km_X5_195 rfl rfl (Nat.le_of_ble_eq_true rfl) dX5_reach_2 ?_
  refine rr_if_eq 15 dX5_reach_5 (by decide) (fun h5 => absurd h5 (by simp [h1])) (fun h5 => ?_)
  refine rr_iloadn_3 dX5_reach_8 ?_
  refine rr_callSiD (c_X5_isPlaceOfRow N _ _ _) km_X5_178 rfl rfl (Nat.le_of_ble_eq_true rfl) dX5_reach_9 ?_
  refine rr_if_ne 17 dX5_reach_12 (by decide) (fun h12 => ?_) (fun h12 => absurd h12 (by simp [h2]))
  refine rr_aloadn_0 dX5_reach_17 ?_
  refine rr_iloadn_1 dX5_reach_18 ?_
  refine rr_iloadn_2 dX5_reach_19 ?_
  refine rr_iconst (v := (-1)) dX5_reach_20 (by decide) ?_
  refine rr_iconst (v := (-1)) dX5_reach_21 (by decide) ?_
  refine rr_callVv (c_X5_search N _ σ hN c hc D kb u l (-1) (-1) _ hw hk (Or.inl ⟨rfl, rfl⟩) hD) km_X5_181 rfl rfl (by omega) rfl (Nat.le_of_ble_eq_true rfl) dX5_reach_22 (fun s22 q22 => ?_)
  obtain ⟨-, q22⟩ := q22
  refine rr_aloadn_0 dX5_reach_25 ?_
  refine rr_iloadn_3 dX5_reach_26 ?_
  refine rr_callVi (c_tells N _ σ _ hN k D hD _ se_res q22 (hp_k h2)) km_X5_185 rfl rfl (by omega) rfl (Nat.le_of_ble_eq_true rfl) dX5_reach_27 (fun r27 s27 q27 => ?_)
  obtain ⟨hr, he⟩ := q27
  cases hr
  exact rr_iret dX5_reach_30 ⟨rfl, he⟩
set_option maxHeartbeats 4000000 in
set_option maxRecDepth 100000 in
theorem m_meet_b (N d : Nat) (σ : rd_S) (hN : 49 ≤ N) (u l k : Int32) (h : ¬ (hp_rg 0 3 u = true ∧ hp_rg 0 3 l = true ∧ ¬ u = l) ∨ hp_rg (-1) 6 k = false) : rd_T N (d + 5) yX5_meet cX5_meet 4 (some .int) [.ref 33, .int u, .int l, .int k] σ (rd_is (some (.int (-1))) σ) := by
  refine rd_start RX5 [.ref 33, .int u, .int l, .int k] rfl (by decide +kernel) rfl (Nat.le_of_ble_eq_true rfl) ?_
  refine rr_iloadn_1 dX5_meet_0 ?_
  refine rr_callSiD (c_X5_isOne N _ _ _) km_X5_105 rfl rfl (Nat.le_of_ble_eq_true rfl) dX5_meet_1 ?_
  cases hq1 : hp_rg 0 3 u
  · refine rr_if_eq 26 dX5_meet_4 (by decide) (fun h4 => ?_) (fun h4 => absurd (by simp) h4)
    refine rr_iconst (v := (-1)) dX5_meet_26 (by decide) ?_
    exact rr_iret dX5_meet_27 ⟨rfl, rfl⟩
  · refine rr_if_eq 26 dX5_meet_4 (by decide) (fun h4 => absurd h4 (by simp)) (fun h4 => ?_)
    refine rr_iloadn_2 dX5_meet_7 ?_
    refine rr_callSiD (c_X5_isOne N _ _ _) km_X5_105 rfl rfl (Nat.le_of_ble_eq_true rfl) dX5_meet_8 ?_
    cases hq2 : hp_rg 0 3 l
    · refine rr_if_eq 26 dX5_meet_11 (by decide) (fun h11 => ?_) (fun h11 => absurd (by simp) h11)
      refine rr_iconst (v := (-1)) dX5_meet_26 (by decide) ?_
      exact rr_iret dX5_meet_27 ⟨rfl, rfl⟩
    · refine rr_if_eq 26 dX5_meet_11 (by decide) (fun h11 => absurd h11 (by simp)) (fun h11 => ?_)
      refine rr_iloadn_1 dX5_meet_14 ?_
      refine rr_iloadn_2 dX5_meet_15 ?_
      refine rr_icmp_eq 26 dX5_meet_16 (by decide) (fun h16 => ?_) (fun h16 => ?_)
      · refine rr_iconst (v := (-1)) dX5_meet_26 (by decide) ?_
        exact rr_iret dX5_meet_27 ⟨rfl, rfl⟩
      · refine rr_iloadn_3 dX5_meet_19 ?_
        refine rr_callSiD (c_X5_isPlaceOfRow N _ _ _) km_X5_178 rfl rfl (Nat.le_of_ble_eq_true rfl) dX5_meet_20 ?_
        refine rr_if_ne 28 dX5_meet_23 (by decide) (fun h23 => absurd (by rcases h with h | h; { exact absurd ⟨hq1, hq2, h16⟩ h }; { simp [h] }) h23) (fun h23 => ?_)
        refine rr_iconst (v := (-1)) dX5_meet_26 (by decide) ?_
        exact rr_iret dX5_meet_27 ⟨rfl, rfl⟩
set_option maxHeartbeats 4000000 in
set_option maxRecDepth 100000 in
theorem m_meet_s (N d : Nat) (σ : rd_S) (hN : 49 ≤ N) (c : Nat) (hc : c + 8 < 1000000) (D : sd_D) (kb : Int32) (hw : wf c D) (hk : kd_at σ kb) (hD : md_at σ D) (i j : Nat) (hi : i < 4) (hj : j < 4) (hij : i ≠ j) (k : Int32) (h2 : hp_rg (-1) 6 k = true) : rd_T N (d + 5) yX5_meet cX5_meet 4 (some .int) [.ref 33, .int (nI i), .int (nI j), .int k] σ (fun r s => r = some (.int (te_out (se_out (gm (nI i) (nI j)) kb D 8 0) k)) ∧ mq_eq s σ) := by
  refine rd_start RX5 [.ref 33, .int (nI i), .int (nI j), .int k] rfl (by decide +kernel) rfl (Nat.le_of_ble_eq_true rfl) ?_
  have hq1 : hp_rg 0 3 (nI i) = true := by simp only [hp_rg, decide_eq_true_eq, nI_toInt (show i < 2 ^ 31 by omega)]; omega
  have hq2 : hp_rg 0 3 (nI j) = true := by simp only [hp_rg, decide_eq_true_eq, nI_toInt (show j < 2 ^ 31 by omega)]; omega
  refine rr_iloadn_1 dX5_meet_0 ?_
  refine rr_callSiD (c_X5_isOne N _ _ _) km_X5_105 rfl rfl (Nat.le_of_ble_eq_true rfl) dX5_meet_1 ?_
  refine rr_if_eq 26 dX5_meet_4 (by decide) (fun h4 => absurd h4 (by simp [hq1])) (fun h4 => ?_)
  refine rr_iloadn_2 dX5_meet_7 ?_
  refine rr_callSiD (c_X5_isOne N _ _ _) km_X5_105 rfl rfl (Nat.le_of_ble_eq_true rfl) dX5_meet_8 ?_
  refine rr_if_eq 26 dX5_meet_11 (by decide) (fun h11 => absurd h11 (by simp [hq2])) (fun h11 => ?_)
  refine rr_iloadn_1 dX5_meet_14 ?_
  refine rr_iloadn_2 dX5_meet_15 ?_
  refine rr_icmp_eq 26 dX5_meet_16 (by decide) (fun h16 => absurd ((nI_eq8 (by omega) (by omega)).mp h16) hij) (fun h16 => ?_)
  refine rr_iloadn_3 dX5_meet_19 ?_
  refine rr_callSiD (c_X5_isPlaceOfRow N _ _ _) km_X5_178 rfl rfl (Nat.le_of_ble_eq_true rfl) dX5_meet_20 ?_
  refine rr_if_ne 28 dX5_meet_23 (by decide) (fun h23 => ?_) (fun h23 => absurd h23 (by simp [h2]))
  refine rr_aloadn_0 dX5_meet_28 ?_
  refine rr_iconst (v := 0) dX5_meet_29 (by decide) ?_
  refine rr_iconst (v := 1) dX5_meet_30 (by decide) ?_
  refine rr_iloadn_1 dX5_meet_31 ?_
  refine rr_iloadn_2 dX5_meet_32 ?_
  refine rr_callVv (c_X5_search N _ σ hN c hc D kb 0 1 (nI i) (nI j) _ hw hk (Or.inr ⟨i, j, hi, hj, rfl, rfl, rfl⟩) hD) km_X5_181 rfl rfl (by omega) rfl (Nat.le_of_ble_eq_true rfl) dX5_meet_33 (fun s33 q33 => ?_)
  obtain ⟨-, q33⟩ := q33
  refine rr_aloadn_0 dX5_meet_36 ?_
  refine rr_iloadn_3 dX5_meet_37 ?_
  refine rr_callVi (c_tells N _ σ _ hN k D hD _ se_res q33 (hp_k h2)) km_X5_185 rfl rfl (by omega) rfl (Nat.le_of_ble_eq_true rfl) dX5_meet_38 (fun r38 s38 q38 => ?_)
  obtain ⟨hr, he⟩ := q38
  cases hr
  exact rr_iret dX5_meet_41 ⟨rfl, he⟩
def wc (P : Nat → Bool) : Nat → Nat → Nat → Nat
  | 0, _, acc => acc
  | m + 1, c, acc => wc P m (c + 1) (acc + if P c = true then 1 else 0)
set_option maxHeartbeats 4000000 in
set_option maxRecDepth 100000 in
theorem lp_ways (N d : Nat) (hN : 49 ≤ N) (σ : rd_S) (c : Nat) (hc : c + 8 < 1000000) (D : sd_D) (kb : Int32) (hw : wf c D) (hk : kd_at σ kb) (n : Nat) (hn : n ≤ 7) :
    ∀ (m k acc : Nat) (n0 : Int32), k + m = 3 ^ n → rd_W N (d + 4) RX5 cX5_ways 4 (some .int) 22 [.ref 33, .int (nI n), .int (nI acc), .int (nI k)] [] (ms σ D D n0) (fun r s => r = some (.int (nI (wc (se_P (fun E => decide (E.2.2.1 = 0)) kb D n) m k acc))) ∧ ∃ n1, s = ms σ D D n1) := by
  have h3 := p3_le hn
  intro m
  induction m with
  | zero =>
    intro k acc n0 hkm
    refine rr_iloadn_3 dX5_ways_22 ?_
    refine rr_iconst (v := 3) dX5_ways_23 (by decide) ?_
    refine rr_iloadn_1 dX5_ways_24 ?_
    refine rr_callSiD (c_X5_rowsOf N _ _ 3 n (by omega)) km_X5_156 rfl rfl (Nat.le_of_ble_eq_true rfl) dX5_ways_25 ?_
    refine rr_icmp_ge 68 dX5_ways_28 (by decide) (fun h28 => ?_) (fun h28 => absurd ((nI_lek (by omega) (by omega)).mpr (by omega)) h28)
    refine rr_iloadn_2 dX5_ways_68 ?_
    exact rr_iret dX5_ways_69 ⟨rfl, n0, rfl⟩
  | succ m ih =>
    intro k acc n0 hkm
    have hT := c_X5_dancesRow N d σ hN c D D n0 kb hw hk k n (by omega) hn (by omega)
    have hP : se_P (fun E => decide (E.2.2.1 = 0)) kb D n k = ((dr kb k n D).1 && decide ((dr kb k n D).2.2.2.1 = 0)) := rfl
    generalize dr kb k n D = q at hT hP
    obtain ⟨b, E⟩ := q
    dsimp only at hT hP
    have next : ∀ (n1 v : Int32), v = (if se_P (fun E => decide (E.2.2.1 = 0)) kb D n k = true then 1 else 0) → rd_W N (d + 4) RX5 cX5_ways 4 (some .int) 56 [.ref 33, .int (nI n), .int (nI acc), .int (nI k)] [.int v, .int (nI acc)] (ms σ E D n1) (fun r s => r = some (.int (nI (wc (se_P (fun E => decide (E.2.2.1 = 0)) kb D n) (m + 1) k acc))) ∧ ∃ n1, s = ms σ D D n1) := by
      intro n1 v hv
      have ev : nI acc + v = nI (acc + if se_P (fun E => decide (E.2.2.1 = 0)) kb D n k = true then 1 else 0) := by rw [hv]; split; exact nI_1 acc; exact nI_add acc 0
      refine rr_iadd dX5_ways_56 ?_
      rw [ev]
      refine rr_istoren_2 dX5_ways_57 rfl ?_
      refine rr_aloadn_0 dX5_ways_58 ?_
      refine rr_callVvD (c_tb N _ _ hN E D n1) km_X5_147 rfl rfl (by omega) rfl (Nat.le_of_ble_eq_true rfl) dX5_ways_59 ?_
      refine rr_iinc_3 1 dX5_ways_62 (by decide) rfl ?_
      refine rr_goto 22 dX5_ways_65 (by decide) ?_
      rw [nI_s k]
      exact ih (k + 1) _ n1 (by omega)
    refine rr_iloadn_3 dX5_ways_22 ?_
    refine rr_iconst (v := 3) dX5_ways_23 (by decide) ?_
    refine rr_iloadn_1 dX5_ways_24 ?_
    refine rr_callSiD (c_X5_rowsOf N _ _ 3 n (by omega)) km_X5_156 rfl rfl (Nat.le_of_ble_eq_true rfl) dX5_ways_25 ?_
    refine rr_icmp_ge 68 dX5_ways_28 (by decide) (fun h28 => absurd ((nI_lek (by omega) (by omega)).mp h28) (by omega)) (fun h28 => ?_)
    refine rr_iloadn_2 dX5_ways_31 ?_
    refine rr_aloadn_0 dX5_ways_32 ?_
    refine rr_iloadn_3 dX5_ways_33 ?_
    refine rr_iloadn_1 dX5_ways_34 ?_
    refine rr_callVi hT km_X5_162 rfl rfl (by omega) rfl (Nat.le_of_ble_eq_true rfl) dX5_ways_35 (fun r35 s35 q35 => ?_)
    obtain ⟨hr, n1, rfl⟩ := q35
    cases hr
    cases b
    · refine rr_if_eq 55 dX5_ways_38 (by decide) (fun h38 => ?_) (fun h38 => absurd (by simp) h38)
      refine rr_iconst (v := 0) dX5_ways_55 (by decide) ?_
      exact next n1 0 (by rw [hP]; rfl)
    · refine rr_if_eq 55 dX5_ways_38 (by decide) (fun h38 => absurd h38 (by simp)) (fun h38 => ?_)
      refine rr_aloadn_0 dX5_ways_41 ?_
      refine rr_getr 37 dX5_ways_42 kf_X5_19 (by omega) rfl rfl rfl ?_
      refine rr_bipush (v := 8) dX5_ways_45 (by decide) ?_
      refine rr_iald (8) dX5_ways_47 (by omega) rfl rfl (by decide) ?_
      rw [show ms σ E D n1 37 8 = E.2.2.1 from by rw [ms_st (by decide)]; rfl]
      refine rr_if_ne 55 dX5_ways_48 (by decide) (fun h48 => ?_) (fun h48 => ?_)
      · refine rr_iconst (v := 0) dX5_ways_55 (by decide) ?_
        first | exact next n1 1 (by rw [hP]; simp [h48]) | exact next n1 0 (by rw [hP]; simp [h48])
      · refine rr_iconst (v := 1) dX5_ways_51 (by decide) ?_
        refine rr_goto 56 dX5_ways_52 (by decide) ?_
        first | exact next n1 1 (by rw [hP]; simp [h48]) | exact next n1 0 (by rw [hP]; simp [h48])
set_option maxHeartbeats 4000000 in
set_option maxRecDepth 100000 in
theorem m_ways_b (N d : Nat) (σ : rd_S) (hN : 49 ≤ N) (x : Int32) (h : hp_rg 0 7 x = false) : rd_T N (d + 5) yX5_ways cX5_ways 4 (some .int) [.ref 33, .int x] σ (rd_is (some (.int (-1))) σ) := by
  refine rd_start RX5 [.ref 33, .int x, .retAddr 0, .retAddr 0] rfl (by decide +kernel) rfl (Nat.le_of_ble_eq_true rfl) ?_
  refine rr_iloadn_1 dX5_ways_0 ?_
  refine rr_i2l dX5_ways_1 ?_
  refine rr_lconst (v := 0) dX5_ways_2 (by decide) ?_
  refine rr_ldc2 dX5_ways_3 kc_X5_198 ?_
  refine rr_callSiD (c_in N _ _ _ _ _ (0) (7) rfl rfl) km_X5_62 rfl rfl (Nat.le_of_ble_eq_true rfl) dX5_ways_6 ?_
  refine rr_if_ne 14 dX5_ways_9 (by decide) (fun h9 => absurd (by simp [h]) h9) (fun h9 => ?_)
  refine rr_iconst (v := (-1)) dX5_ways_12 (by decide) ?_
  exact rr_iret dX5_ways_13 ⟨rfl, rfl⟩
theorem hp_7 {k n : Nat} (hk : k < 1000) (h : n ≤ k) : hp_rg 0 k (nI n) = true := by
  simp only [hp_rg, decide_eq_true_eq, nI_toInt (show n < 2 ^ 31 by omega)]; omega
set_option maxHeartbeats 4000000 in
set_option maxRecDepth 100000 in
theorem m_ways_s (N d : Nat) (σ : rd_S) (hN : 49 ≤ N) (c : Nat) (hc : c + 8 < 1000000) (D : sd_D) (kb : Int32) (hw : wf c D) (hk : kd_at σ kb) (hD : md_at σ D) (n : Nat) (hn : n ≤ 7) : rd_T N (d + 5) yX5_ways cX5_ways 4 (some .int) [.ref 33, .int (nI n)] σ (fun r s => r = some (.int (nI (wc (se_P (fun E => decide (E.2.2.1 = 0)) kb D n) (3 ^ n) 0 0))) ∧ mq_eq s σ) := by
  refine rd_start RX5 [.ref 33, .int (nI n), .retAddr 0, .retAddr 0] rfl (by decide +kernel) rfl (Nat.le_of_ble_eq_true rfl) ?_
  have h7 := hp_7 (k := 7) (by decide) hn
  refine rr_iloadn_1 dX5_ways_0 ?_
  refine rr_i2l dX5_ways_1 ?_
  refine rr_lconst (v := 0) dX5_ways_2 (by decide) ?_
  refine rr_ldc2 dX5_ways_3 kc_X5_198 ?_
  refine rr_callSiD (c_in N _ _ _ _ _ (0) (7) rfl rfl) km_X5_62 rfl rfl (Nat.le_of_ble_eq_true rfl) dX5_ways_6 ?_
  refine rr_if_ne 14 dX5_ways_9 (by decide) (fun h9 => ?_) (fun h9 => absurd h9 (by simp [show hp_rg 0 7 (nI n) = true from h7]))
  refine rr_aloadn_0 dX5_ways_14 ?_
  refine rr_callVvD (c_pa N _ _ hN D hD) km_X5_141 rfl rfl (by omega) rfl (Nat.le_of_ble_eq_true rfl) dX5_ways_15 ?_
  refine rr_iconst (v := 0) dX5_ways_18 (by decide) ?_
  refine rr_istoren_2 dX5_ways_19 rfl ?_
  refine rr_iconst (v := 0) dX5_ways_20 (by decide) ?_
  refine rr_istoren_3 dX5_ways_21 rfl ?_
  refine (lp_ways N (d + 1) hN σ c hc D kb hw hk n hn (3 ^ n) 0 0 _ (by omega)).post (fun r s q => ?_)
  obtain ⟨q1, n1, rfl⟩ := q
  exact ⟨q1, mq_ms (mq_eq.refl _) hD⟩
