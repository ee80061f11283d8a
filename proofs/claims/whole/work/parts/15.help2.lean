set_option maxHeartbeats 4000000 in
set_option maxRecDepth 100000 in
theorem c_X4_takeScript (N d : Nat) (σ : rd_S) (hN : 33 ≤ N) : rd_T N (d + 2) yX4_takeScript cX4_takeScript 1 none [.ref 0] σ (rd_is none (rd_u2 (rd_u2 (rd_u2 (sd_wr (rd_u2 (rd_u2 (rd_u2 σ 0 11 (σ 1 2)) 0 12 (σ 1 3)) 0 13 (σ 1 4)) 3 (sd_begin (ps_ord (σ 1 5)))) 0 10 0) 5 2 0) 15 2 0)) := by
  refine rd_start RX4 [.ref 0] rfl (by decide +kernel) rfl (Nat.le_of_ble_eq_true rfl) ?_
  refine rr_aloadn_0 dX4_takeScript_0 ?_
  refine rr_aloadn_0 dX4_takeScript_1 ?_
  refine rr_getr 1 dX4_takeScript_2 kf_X4_10 (by omega) rfl rfl rfl ?_
  refine rr_geti dX4_takeScript_5 kf_X4_236 (by omega) rfl rfl ?_
  refine rr_puti dX4_takeScript_8 kf_X4_96 if_4_11 (by omega) rfl rfl ?_
  refine rr_aloadn_0 dX4_takeScript_11 ?_
  refine rr_aloadn_0 dX4_takeScript_12 ?_
  refine rr_getr 1 dX4_takeScript_13 kf_X4_10 (by omega) rfl rfl rfl ?_
  refine rr_geti dX4_takeScript_16 kf_X4_239 (by omega) rfl rfl ?_
  refine rr_puti dX4_takeScript_19 kf_X4_120 if_4_12 (by omega) rfl rfl ?_
  refine rr_aloadn_0 dX4_takeScript_22 ?_
  refine rr_aloadn_0 dX4_takeScript_23 ?_
  refine rr_getr 1 dX4_takeScript_24 kf_X4_10 (by omega) rfl rfl rfl ?_
  refine rr_geti dX4_takeScript_27 kf_X4_242 (by omega) rfl rfl ?_
  refine rr_puti dX4_takeScript_30 kf_X4_90 if_4_13 (by omega) rfl rfl ?_
  refine rr_aloadn_0 dX4_takeScript_33 ?_
  refine rr_getr 3 dX4_takeScript_34 kf_X4_19 (by omega) rfl rfl rfl ?_
  refine rr_aloadn_0 dX4_takeScript_37 ?_
  refine rr_getr 1 dX4_takeScript_38 kf_X4_10 (by omega) rfl rfl rfl ?_
  refine rr_callViD (c_X1_orderBits N _ _ hN) km_X4_243 rfl rfl (by omega) rfl (Nat.le_of_ble_eq_true rfl) dX4_takeScript_41 ?_
  refine rr_callVvD (c_X3_begin N _ _ _ _ (by omega) rfl) km_X4_208 rfl rfl (by omega) rfl (Nat.le_of_ble_eq_true rfl) dX4_takeScript_44 ?_
  refine rr_aloadn_0 dX4_takeScript_47 ?_
  refine rr_iconst (v := 0) dX4_takeScript_48 (by decide) ?_
  refine rr_puti dX4_takeScript_49 kf_X4_190 if_4_10 (by omega) rfl rfl ?_
  refine rr_aloadn_0 dX4_takeScript_52 ?_
  refine rr_getr 5 dX4_takeScript_53 kf_X4_31 (by omega) rfl rfl rfl ?_
  refine rr_callVvD (c_X0_clear N _ _ _ (by omega) rfl) km_X4_232 rfl rfl (by omega) rfl (Nat.le_of_ble_eq_true rfl) dX4_takeScript_56 ?_
  refine rr_aloadn_0 dX4_takeScript_59 ?_
  refine rr_getr 15 dX4_takeScript_60 kf_X4_35 (by omega) rfl rfl rfl ?_
  refine rr_callVvD (c_X0_clear N _ _ _ (by omega) rfl) km_X4_232 rfl rfl (by omega) rfl (Nat.le_of_ble_eq_true rfl) dX4_takeScript_63 ?_
  exact rr_vret dX4_takeScript_66 ⟨rfl, by simp [rd_u2]⟩
def fe_br (σ : rd_S) : Nat × Int32 := sr_sk (sr_G σ) (σ 0 11) 7 0 0 (sd_rd σ 3) (8, 0)
def fe_eq (s σ : rd_S) : Prop := ∀ a b, ¬ (21 ≤ a ∧ a ≤ 28) → a ≠ 19 → s a b = σ a b
theorem nI_min (a b : Nat) (ha : a < 1000) (hb : b < 1000) : (if nI b < nI a then nI b else nI a) = nI (min a b) := by
  by_cases h : b < a
  · rw [if_pos ((nI_lt8 hb ha).mpr h), Nat.min_eq_right (by omega)]
  · rw [if_neg (fun q => h ((nI_lt8 hb ha).mp q)), Nat.min_eq_left (by omega)]
set_option maxHeartbeats 4000000 in
set_option maxRecDepth 100000 in
theorem c_X4_figureOfFewest (N d : Nat) (σ : rd_S) (hN : 33 ≤ N) (k : Int32) : rd_T N (d + 12) yX4_figureOfFewest cX4_figureOfFewest 2 (some .int) [.ref 0, .int k] σ (fun r s => r = some (.int (if (fe_br σ).1 ≤ 7 ∧ k < nI (fe_br σ).1 then (if 0 ≤ k then sd_who (fe_br σ).2 k else nI (fe_br σ).1) else -4)) ∧ fe_eq s σ) := by
  refine rd_start RX4 [.ref 0, .int k] rfl (by decide +kernel) rfl (Nat.le_of_ble_eq_true rfl) ?_
  have hle : (fe_br σ).1 ≤ 8 := sr_sk_le _ _ _ _ _ _ _
  refine rr_aloadn_0 dX4_figureOfFewest_0 ?_
  refine rr_getr 19 dX4_figureOfFewest_1 kf_X4_41 (by omega) rfl rfl rfl ?_
  refine rr_aloadn_0 dX4_figureOfFewest_4 ?_
  refine rr_getr 3 dX4_figureOfFewest_5 kf_X4_19 (by omega) rfl rfl rfl ?_
  refine rr_aloadn_0 dX4_figureOfFewest_8 ?_
  refine rr_geti dX4_figureOfFewest_9 kf_X4_96 (by omega) rfl rfl ?_
  refine rr_callVvD (c_X2_startFrom N _ _ hN 3 _ (by omega) rfl) km_X4_169 rfl rfl (by omega) rfl (Nat.le_of_ble_eq_true rfl) dX4_figureOfFewest_12 ?_
  refine rr_aloadn_0 dX4_figureOfFewest_15 ?_
  refine rr_getr 19 dX4_figureOfFewest_16 kf_X4_41 (by omega) rfl rfl rfl ?_
  refine rr_iconst (v := 0) dX4_figureOfFewest_19 (by decide) ?_
  refine rr_iconst (v := 0) dX4_figureOfFewest_20 (by decide) ?_
  refine rr_callSv (c_X2_seek N d hN 7 0 0 _ (8, 0) rfl (by decide) (by simp [rd_u2]; rfl) (by simp [rd_u2])) km_X4_246 rfl rfl (Nat.le_of_ble_eq_true rfl) dX4_figureOfFewest_21 (fun s21 q21 => ?_)
  obtain ⟨-, q7, q8, he⟩ := q21
  have e0 : ∀ τ : rd_S, τ = rd_u2 (rd_u2 (rd_u2 (sd_wr σ 21 (sd_rd σ 3)) 19 1 (σ 0 11)) 19 7 8) 19 8 0 → sr_sk (sr_G τ) (τ 19 1) 7 0 0 (sd_rd τ (21 + 0)) (8, 0) = fe_br σ := by
    intro τ hτ
    have g1 : sr_G τ = sr_G σ := by subst hτ; simp [sr_G, rd_u2, sd_wr]
    have g2 : τ 19 1 = σ 0 11 := by subst hτ; simp [rd_u2]
    have g3 : sd_rd τ (21 + 0) = sd_rd σ 3 := by subst hτ; simp [sd_rd, rd_u2, sd_wr]
    rw [g1, g2, g3]; rfl
  rw [e0 _ rfl] at q7 q8
  have hf : fe_eq s21 σ := by
    intro a b h1 h2
    rw [he a b (by omega) (by omega)]
    simp [rd_u2, sd_wr, h2, show a ≠ 21 by omega]
  refine rr_aloadn_0 dX4_figureOfFewest_24 ?_
  refine rr_getr 19 dX4_figureOfFewest_25 kf_X4_41 (by omega) rfl rfl rfl ?_
  refine rr_callViD (c_X2_isFound N _ _ hN) km_X4_250 rfl rfl (by omega) rfl (Nat.le_of_ble_eq_true rfl) dX4_figureOfFewest_28 ?_
  rw [q7]
  by_cases hq7 : (fe_br σ).1 ≤ 7
  · rw [if_pos (show nI (fe_br σ).1 ≤ 7 from (nI_le8 (b := 7) (by omega) (by omega)).mpr hq7)]
    refine rr_if_eq 45 dX4_figureOfFewest_31 (by decide) (fun h31 => absurd h31 (by decide)) (fun h31 => ?_)
    refine rr_iloadn_1 dX4_figureOfFewest_34 ?_
    refine rr_aloadn_0 dX4_figureOfFewest_35 ?_
    refine rr_getr 19 dX4_figureOfFewest_36 kf_X4_41 (by omega) rfl rfl rfl ?_
    refine rr_geti dX4_figureOfFewest_39 kf_X4_253 (by omega) rfl rfl ?_
    rw [q7]
    refine rr_icmp_lt 48 dX4_figureOfFewest_42 (by decide) (fun h42 => ?_) (fun h42 => ?_)
    · refine rr_iloadn_1 dX4_figureOfFewest_48 ?_
      refine rr_if_ge 62 dX4_figureOfFewest_49 (by decide) (fun h49 => ?_) (fun h49 => ?_)
      · refine rr_aloadn_0 dX4_figureOfFewest_62 ?_
        refine rr_getr 19 dX4_figureOfFewest_63 kf_X4_41 (by omega) rfl rfl rfl ?_
        refine rr_geti dX4_figureOfFewest_66 kf_X4_256 (by omega) rfl rfl ?_
        rw [q8]
        refine rr_iloadn_1 dX4_figureOfFewest_69 ?_
        refine rr_callSiD (c_X4_pairAt N _ _ _ _) km_X4_123 rfl rfl (Nat.le_of_ble_eq_true rfl) dX4_figureOfFewest_70 ?_
        exact rr_iret dX4_figureOfFewest_73 ⟨by rw [if_pos ⟨hq7, h42⟩]; first | (rw [if_pos h49]; done) | (rw [if_neg h49]), hf⟩
      · refine rr_aloadn_0 dX4_figureOfFewest_52 ?_
        refine rr_getr 19 dX4_figureOfFewest_53 kf_X4_41 (by omega) rfl rfl rfl ?_
        refine rr_geti dX4_figureOfFewest_56 kf_X4_253 (by omega) rfl rfl ?_
        rw [q7]
        refine rr_goto 73 dX4_figureOfFewest_59 (by decide) ?_
        exact rr_iret dX4_figureOfFewest_73 ⟨by rw [if_pos ⟨hq7, h42⟩]; first | (rw [if_pos h49]; done) | (rw [if_neg h49]), hf⟩
    · refine rr_bipush (v := (-4)) dX4_figureOfFewest_45 (by decide) ?_
      exact rr_iret dX4_figureOfFewest_47 ⟨by first | (rw [if_neg (fun q => h31 (by first | exact (nI_le8 (b := 7) (by omega) (by omega)).mpr q.1))]; done) | (rw [if_neg (fun q => h42 q.2)]; done), hf⟩
  · rw [if_neg (show ¬ nI (fe_br σ).1 ≤ 7 from fun q => hq7 ((nI_le8 (b := 7) (by omega) (by omega)).mp q))]
    refine rr_if_eq 45 dX4_figureOfFewest_31 (by decide) (fun h31 => ?_) (fun h31 => absurd rfl h31)
    refine rr_bipush (v := (-4)) dX4_figureOfFewest_45 (by decide) ?_
    exact rr_iret dX4_figureOfFewest_47 ⟨by rw [if_neg (fun q => hq7 q.1)], hf⟩
/-- the row's figures from the k-th on, m of them, danced: could all be, and what stands then -/
def tr_go (fg kb : Int32) : Nat → Nat → sd_D → Bool × sd_D
  | 0, _, D => (true, D)
  | m + 1, k, D => match sd_st D (sd_who fg (nI k)) kb with
    | none => (false, D)
    | some E => tr_go fg kb m (k + 1) E
set_option maxHeartbeats 4000000 in
set_option maxRecDepth 100000 in
theorem lp_tryRow (N d : Nat) (hN : 33 ≤ N) (σ : rd_S) (n kb : Int32) : ∀ (m k : Nat) (D : sd_D), k + m < 1000 → rd_W N (d + 3) RX4 cX4_tryRow 5 (some .boolean) 23 [.ref 0, .int n, .int kb, .int (nI (k + m)), .int (nI k)] [] (sd_wr σ 4 D) (rd_is (some (.int (if (tr_go (σ 0 12) kb m k D).1 = true then 1 else 0))) (sd_wr σ 4 (tr_go (σ 0 12) kb m k D).2)) := by
  intro m
  induction m with
  | zero =>
    intro k D hk
    refine rr_iload_4 dX4_tryRow_23 ?_
    refine rr_iloadn_3 dX4_tryRow_25 ?_
    refine rr_icmp_ge 57 dX4_tryRow_26 (by decide) (fun h26 => ?_) (fun h26 => absurd (nI_le (Nat.le_refl _) (by omega)) h26)
    refine rr_iconst (v := 1) dX4_tryRow_57 (by decide) ?_
    exact rr_zret dX4_tryRow_58 (by decide) ⟨by simp [tr_go], by simp [tr_go]⟩
  | succ m ih =>
    intro k D hk
    refine rr_iload_4 dX4_tryRow_23 ?_
    refine rr_iloadn_3 dX4_tryRow_25 ?_
    refine rr_icmp_ge 57 dX4_tryRow_26 (by decide) (fun h26 => absurd ((nI_le8 (by omega) (by omega)).mp h26) (by omega)) (fun h26 => ?_)
    refine rr_aloadn_0 dX4_tryRow_29 ?_
    refine rr_getr 4 dX4_tryRow_30 kf_X4_23 (by omega) rfl rfl rfl ?_
    refine rr_aloadn_0 dX4_tryRow_33 ?_
    refine rr_geti dX4_tryRow_34 kf_X4_120 (by omega) rfl rfl ?_
    rw [show ∀ b, sd_wr σ 4 D 0 b = σ 0 b from fun b => sd_wr_ne D (by decide)]
    refine rr_iload_4 dX4_tryRow_37 ?_
    refine rr_callSiD (c_X4_pairAt N _ _ _ _) km_X4_123 rfl rfl (Nat.le_of_ble_eq_true rfl) dX4_tryRow_39 ?_
    refine rr_iloadn_2 dX4_tryRow_42 ?_
    rcases hst : sd_st D (sd_who (σ 0 12) (nI k)) kb with _ | E
    · refine rr_callViD (c_step_n N _ _ _ _ _ (by omega) rfl (by rw [sd_rd_wr]; exact hst)) km_X4_136 rfl rfl (by omega) rfl (Nat.le_of_ble_eq_true rfl) dX4_tryRow_43 ?_
      refine rr_if_ne 51 dX4_tryRow_46 (by decide) (fun h46 => absurd h46 (by decide)) (fun _ => ?_)
      refine rr_iconst (v := 0) dX4_tryRow_49 (by decide) ?_
      exact rr_zret dX4_tryRow_50 (by decide) ⟨by simp [tr_go, hst], by simp [tr_go, hst]⟩
    · refine rr_callViD (c_step_s N _ _ _ _ _ (by omega) rfl (D' := E) (by rw [sd_rd_wr]; exact hst)) km_X4_136 rfl rfl (by omega) rfl (Nat.le_of_ble_eq_true rfl) dX4_tryRow_43 ?_
      refine rr_if_ne 51 dX4_tryRow_46 (by decide) (fun _ => ?_) (fun h46 => absurd h46 (by decide))
      refine rr_iinc_4 1 dX4_tryRow_51 (by decide) rfl ?_
      refine rr_goto 23 dX4_tryRow_54 (by decide) ?_
      rw [nI_s k, sd_wr_wr, show k + (m + 1) = (k + 1) + m by omega]
      rw [show tr_go (σ 0 12) kb (m + 1) k D = tr_go (σ 0 12) kb m (k + 1) E by simp [tr_go, hst]]
      exact ih (k + 1) E (by omega)
set_option maxHeartbeats 4000000 in
set_option maxRecDepth 100000 in
theorem c_X4_tryRow (N d : Nat) (σ : rd_S) (hN : 33 ≤ N) (n fc : Nat) (kb : Int32) (hf : σ 0 13 = nI fc) (hn : n < 900) (hfc : fc < 900) : rd_T N (d + 3) yX4_tryRow cX4_tryRow 5 (some .boolean) [.ref 0, .int (nI n), .int kb] σ (rd_is (some (.int (if (tr_go (σ 0 12) kb (min n fc) 0 (sd_rd σ 3)).1 = true then 1 else 0))) (sd_wr σ 4 (tr_go (σ 0 12) kb (min n fc) 0 (sd_rd σ 3)).2)) := by
  refine rd_start RX4 [.ref 0, .int (nI n), .int kb, .retAddr 0, .retAddr 0] rfl (by decide +kernel) rfl (Nat.le_of_ble_eq_true rfl) ?_
  refine rr_aloadn_0 dX4_tryRow_0 ?_
  refine rr_getr 4 dX4_tryRow_1 kf_X4_23 (by omega) rfl rfl rfl ?_
  refine rr_aloadn_0 dX4_tryRow_4 ?_
  refine rr_getr 3 dX4_tryRow_5 kf_X4_19 (by omega) rfl rfl rfl ?_
  refine rr_callVvD (c_X3_take N _ _ _ _ (by omega) rfl (by omega) rfl) km_X4_177 rfl rfl (by omega) rfl (Nat.le_of_ble_eq_true rfl) dX4_tryRow_8 ?_
  refine rr_iloadn_1 dX4_tryRow_11 ?_
  refine rr_aloadn_0 dX4_tryRow_12 ?_
  refine rr_geti dX4_tryRow_13 kf_X4_90 (by omega) rfl rfl ?_
  rw [show ∀ D b, sd_wr σ 4 D 0 b = σ 0 b from fun D b => sd_wr_ne D (by decide), hf]
  refine rr_mmin dX4_tryRow_16 kl_X4_214 (Nat.le_of_ble_eq_true rfl) kh_min ?_
  rw [nI_min n fc (by omega) (by omega)]
  refine rr_istoren_3 dX4_tryRow_19 rfl ?_
  refine rr_iconst (v := 0) dX4_tryRow_20 (by decide) ?_
  refine rr_istore_4 dX4_tryRow_21 rfl ?_
  have := lp_tryRow N d hN σ (nI n) kb (min n fc) 0 (sd_rd σ 3) (by omega)
  rw [Nat.zero_add] at this
  exact this
/-- all that is seen is so, dancers being of these kinds -/
def ex_ok (σ : rd_S) (fc : Nat) (kb : Int32) (s : Nat) : Bool := (fun q : Bool × sd_D => q.1 && decide (q.2.2.2.1 = σ 30 s ∧ q.2.2.2.2.1 = σ 31 s)) (tr_go (σ 0 12) kb (min (σ 29 s).toNatClampNeg fc) 0 (sd_rd σ 3))
def ex_all (f : Nat → Bool) (k : Nat) : Nat → Bool
  | 0 => true
  | m + 1 => f k && ex_all f (k + 1) m
set_option maxHeartbeats 4000000 in
set_option maxRecDepth 100000 in
theorem lp_explains (N d : Nat) (hN : 33 ≤ N) (σ : rd_S) (kb : Int32) (fc sc : Nat) (hf : σ 0 13 = nI fc) (hfc : fc < 900) (hs : σ 0 10 = nI sc) (hsc : sc ≤ 6) (hsn : ∀ s, s < sc → ∃ n, σ 29 s = nI n ∧ n < 900) : ∀ (m k : Nat) (D : sd_D), k + m = sc → rd_W N (d + 4) RX4 cX4_explainsSeen 3 (some .boolean) 2 [.ref 0, .int kb, .int (nI k)] [] (sd_wr σ 4 D) (fun r u => r = some (.int (if ex_all (ex_ok σ fc kb) k m = true then 1 else 0)) ∧ ∃ E, u = sd_wr σ 4 E) := by
  intro m
  induction m with
  | zero =>
    intro k D hk
    have h10 : sd_wr σ 4 D 0 10 = nI sc := by rw [sd_wr_ne D (by decide)]; exact hs
    refine rr_iloadn_2 dX4_explainsSeen_2 ?_
    refine rr_aloadn_0 dX4_explainsSeen_3 ?_
    refine rr_geti dX4_explainsSeen_4 kf_X4_190 (by omega) rfl rfl ?_
    rw [h10]
    refine rr_icmp_ge 60 dX4_explainsSeen_7 (by decide) (fun h7 => ?_) (fun h7 => absurd (nI_le (by omega) (by omega)) h7)
    refine rr_iconst (v := 1) dX4_explainsSeen_60 (by decide) ?_
    exact rr_zret dX4_explainsSeen_61 (by decide) ⟨by simp [ex_all], D, rfl⟩
  | succ m ih =>
    intro k D hk
    have h10 : sd_wr σ 4 D 0 10 = nI sc := by rw [sd_wr_ne D (by decide)]; exact hs
    obtain ⟨n, hn1, hn2⟩ := hsn k (by omega)
    have e29 : sd_wr σ 4 D 29 k = nI n := by rw [sd_wr_ne D (by decide)]; exact hn1
    have e13 : sd_wr σ 4 D 0 13 = nI fc := by rw [sd_wr_ne D (by decide)]; exact hf
    have e12 : sd_wr σ 4 D 0 12 = σ 0 12 := sd_wr_ne D (by decide)
    have e3 : sd_rd (sd_wr σ 4 D) 3 = sd_rd σ 3 := sd_rd_ne D (by decide)
    have hT := c_X4_tryRow N d (sd_wr σ 4 D) hN n fc kb e13 hn2 hfc
    rw [e12, e3, sd_wr_wr] at hT
    have hok : ex_ok σ fc kb k = ((tr_go (σ 0 12) kb (min n fc) 0 (sd_rd σ 3)).1 && decide ((tr_go (σ 0 12) kb (min n fc) 0 (sd_rd σ 3)).2.2.2.1 = σ 30 k ∧ (tr_go (σ 0 12) kb (min n fc) 0 (sd_rd σ 3)).2.2.2.2.1 = σ 31 k)) := by
      simp [ex_ok, hn1, nI_clamp (show n < 2 ^ 31 by omega)]
    generalize tr_go (σ 0 12) kb (min n fc) 0 (sd_rd σ 3) = q at hT hok
    obtain ⟨b, E⟩ := q
    have e30 : sd_wr σ 4 E 30 k = σ 30 k := sd_wr_ne E (by decide)
    have e31 : sd_wr σ 4 E 31 k = σ 31 k := sd_wr_ne E (by decide)
    dsimp only at hT hok
    refine rr_iloadn_2 dX4_explainsSeen_2 ?_
    refine rr_aloadn_0 dX4_explainsSeen_3 ?_
    refine rr_geti dX4_explainsSeen_4 kf_X4_190 (by omega) rfl rfl ?_
    rw [h10]
    refine rr_icmp_ge 60 dX4_explainsSeen_7 (by decide) (fun h7 => absurd ((nI_le8 (by omega) (by omega)).mp h7) (by omega)) (fun h7 => ?_)
    refine rr_iloadn_2 dX4_explainsSeen_10 ?_
    refine rr_bipush (v := 6) dX4_explainsSeen_11 (by decide) ?_
    refine rr_icmp_ge 60 dX4_explainsSeen_13 (by decide) (fun h13 => absurd ((nI_le8 (a := 6) (b := k) (by omega) (by omega)).mp h13) (by omega)) (fun h13 => ?_)
    refine rr_aloadn_0 dX4_explainsSeen_16 ?_
    refine rr_aloadn_0 dX4_explainsSeen_17 ?_
    refine rr_getr 29 dX4_explainsSeen_18 kf_X4_45 (by omega) rfl rfl rfl ?_
    refine rr_iloadn_2 dX4_explainsSeen_21 ?_
    refine rr_iald (k) dX4_explainsSeen_22 (by omega) rfl rfl (show k < 6 by omega) ?_
    rw [e29]
    refine rr_iloadn_1 dX4_explainsSeen_23 ?_
    cases b
    · refine rr_callViD hT km_X4_180 rfl rfl (by omega) rfl (Nat.le_of_ble_eq_true rfl) dX4_explainsSeen_24 ?_
      refine rr_if_eq 52 dX4_explainsSeen_27 (by decide) (fun h27 => ?_) (fun h27 => absurd (by simp) h27)
      refine rr_iconst (v := 0) dX4_explainsSeen_52 (by decide) ?_
      exact rr_zret dX4_explainsSeen_53 (by decide) ⟨by simp [ex_all, hok], E, rfl⟩
    · refine rr_callViD hT km_X4_180 rfl rfl (by omega) rfl (Nat.le_of_ble_eq_true rfl) dX4_explainsSeen_24 ?_
      refine rr_if_eq 52 dX4_explainsSeen_27 (by decide) (fun h27 => absurd h27 (by simp)) (fun h27 => ?_)
      refine rr_aloadn_0 dX4_explainsSeen_30 ?_
      refine rr_getr 4 dX4_explainsSeen_31 kf_X4_23 (by omega) rfl rfl rfl ?_
      refine rr_aloadn_0 dX4_explainsSeen_34 ?_
      refine rr_getr 30 dX4_explainsSeen_35 kf_X4_49 (by omega) rfl rfl rfl ?_
      refine rr_iloadn_2 dX4_explainsSeen_38 ?_
      refine rr_iald (k) dX4_explainsSeen_39 (by omega) rfl rfl (show k < 6 by omega) ?_
      rw [e30]
      refine rr_aloadn_0 dX4_explainsSeen_40 ?_
      refine rr_getr 31 dX4_explainsSeen_41 kf_X4_52 (by omega) rfl rfl rfl ?_
      refine rr_iloadn_2 dX4_explainsSeen_44 ?_
      refine rr_iald (k) dX4_explainsSeen_45 (by omega) rfl rfl (show k < 6 by omega) ?_
      rw [e31]
      refine rr_callViD (c_X3_isWoundAs N _ _ _ _ _ (by omega) rfl) km_X4_265 rfl rfl (by omega) rfl (Nat.le_of_ble_eq_true rfl) dX4_explainsSeen_46 ?_
      refine rr_if_ne 54 dX4_explainsSeen_49 (by decide) (fun h49 => ?_) (fun h49 => ?_)
      · refine rr_iinc_2 1 dX4_explainsSeen_54 (by decide) rfl ?_
        refine rr_goto 2 dX4_explainsSeen_57 (by decide) ?_
        rw [nI_s k]
        have hz : E.2.2.1 = σ 30 k ∧ E.2.2.2.1 = σ 31 k := Decidable.byContradiction (fun q => h49 (if_neg (by simpa [sd_wr] using q)))
        refine (ih (k + 1) E (by omega)).post (fun r u q => ⟨?_, q.2⟩)
        rw [q.1]
        simp [ex_all, hok, hz]
      · refine rr_iconst (v := 0) dX4_explainsSeen_52 (by decide) ?_
        exact rr_zret dX4_explainsSeen_53 (by decide) ⟨by (have hz : ¬ (E.2.2.1 = σ 30 k ∧ E.2.2.2.1 = σ 31 k) := fun q => by (rw [if_pos (by simpa [sd_wr] using q)] at h49; exact absurd h49 (by decide))); simp [ex_all, hok, hz], E, rfl⟩
set_option maxHeartbeats 4000000 in
set_option maxRecDepth 100000 in
theorem c_X4_explainsSeen (N d : Nat) (σ : rd_S) (hN : 33 ≤ N) (kb : Int32) (fc sc : Nat) (hf : σ 0 13 = nI fc) (hfc : fc < 900) (hs : σ 0 10 = nI sc) (hsc : sc ≤ 6) (hsn : ∀ s, s < sc → ∃ n, σ 29 s = nI n ∧ n < 900) : rd_T N (d + 4) yX4_explainsSeen cX4_explainsSeen 3 (some .boolean) [.ref 0, .int kb] σ (fun r u => r = some (.int (if ex_all (ex_ok σ fc kb) 0 sc = true then 1 else 0)) ∧ ∃ E, u = sd_wr σ 4 E) := by
  refine rd_start RX4 [.ref 0, .int kb, .retAddr 0] rfl (by decide +kernel) rfl (Nat.le_of_ble_eq_true rfl) ?_
  refine rr_iconst (v := 0) dX4_explainsSeen_0 (by decide) ?_
  refine rr_istoren_2 dX4_explainsSeen_1 rfl ?_
  have := lp_explains N d hN σ kb fc sc hf hfc hs hsc hsn sc 0 (sd_rd σ 4) (by omega)
  rw [show sd_wr σ 4 (sd_rd σ 4) = σ by apply sd_ext 4 <;> intros <;> simp_all [sd_wr, sd_rd]] at this
  exact this
