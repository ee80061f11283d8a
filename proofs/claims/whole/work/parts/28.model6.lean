/-! ===== the reference: plain, the row, what stands ===== -/
theorem fg_who (x p : Int32) : fg4 (sd_who x p) := by
  obtain ⟨j, hj, e⟩ := pk_andE (x >>> ((2 * p) &&& 31)) (m := 3) 2 rfl
  unfold sd_who
  rw [e]
  rcases (show j = 0 ∨ j = 1 ∨ j = 2 ∨ j = 3 by omega) with h | h | h | h <;> rw [h]
  · exact Or.inl rfl
  · exact Or.inr (Or.inl rfl)
  · exact Or.inr (Or.inr (Or.inl rfl))
  · exact Or.inr (Or.inr (Or.inr rfl))
theorem g8_ms (σ : rd_S) (D A : sd_D) (n : Int32) : ms σ D A n 37 8 = D.2.2.1 := by rw [ms_st (by decide)]; rfl
theorem g9_ms (σ : rd_S) (D A : sd_D) (n : Int32) : ms σ D A n 37 9 = D.2.2.2.1 := by rw [ms_st (by decide)]; rfl
set_option maxHeartbeats 4000000 in
set_option maxRecDepth 100000 in
theorem lp_mplain (N d : Nat) (hN : 49 ≤ N) (σ : rd_S) (A : sd_D) (kb : Int32) (hk : kd_at σ kb) : ∀ (m k c : Nat) (D : sd_D) (n0 : Int32), k + m = 60 → wf c D → c + m < 1000000 → rd_W N (d + 3) RX5 cX5_plain 4 (some .int) 8 [.ref 33, .int (nI k), .int 1, .retAddr 0] [] (ms σ D A n0) (fun r s => r = some (.int (pw_go kb (m + 1) k D)) ∧ ∃ n1, s = ms σ A A n1) := by
  intro m
  induction m with
  | zero =>
    intro k c D n0 hkm hw hc
    obtain rfl : k = 60 := hkm
    refine rr_iloadn_2 dX5_plain_8 ?_
    refine rr_if_eq 54 dX5_plain_9 (by decide) (fun h9 => absurd h9 (by decide)) (fun _ => ?_)
    refine rr_aloadn_0 dX5_plain_12 ?_
    refine rr_getr 37 dX5_plain_13 kf_X5_19 (by omega) rfl rfl rfl ?_
    refine rr_bipush (v := 8) dX5_plain_16 (by decide) ?_
    refine rr_iald (8) dX5_plain_18 (by omega) rfl rfl (by decide) ?_
    rw [g8_ms]
    by_cases hz : D.2.2.1 = 0
    · refine rr_if_eq 54 dX5_plain_19 (by decide) (fun h19 => ?_) (fun h19 => absurd hz h19)
      refine rr_iloadn_2 dX5_plain_54 ?_
      refine rr_if_eq 72 dX5_plain_55 (by decide) (fun h55 => absurd h55 (by decide)) (fun _ => ?_)
      refine rr_aloadn_0 dX5_plain_58 ?_
      refine rr_getr 37 dX5_plain_59 kf_X5_19 (by omega) rfl rfl rfl ?_
      refine rr_bipush (v := 8) dX5_plain_62 (by decide) ?_
      refine rr_iald (8) dX5_plain_64 (by omega) rfl rfl (by decide) ?_
      rw [g8_ms]
      refine rr_if_ne 72 dX5_plain_65 (by decide) (fun h65 => absurd hz h65) (fun h65 => ?_)
      refine rr_iconst (v := 1) dX5_plain_68 (by decide) ?_
      refine rr_goto 73 dX5_plain_69 (by decide) ?_
      refine rr_istoren_3 dX5_plain_73 rfl ?_
      refine rr_aloadn_0 dX5_plain_74 ?_
      refine rr_callVvD (c_tb N _ _ hN D A n0) km_X5_147 rfl rfl (by omega) rfl (Nat.le_of_ble_eq_true rfl) dX5_plain_75 ?_
      refine rr_iloadn_3 dX5_plain_78 ?_
      refine rr_if_eq 86 dX5_plain_79 (by decide) (fun h79 => absurd h79 (by decide)) (fun _ => ?_)
      refine rr_iloadn_1 dX5_plain_82 ?_
      refine rr_goto 88 dX5_plain_83 (by decide) ?_
      exact rr_iret dX5_plain_88 ⟨by first | (simp [pw_go, hz]; done) | (simp only [pw_go]; rw [if_neg hz]; split <;> rfl), n0, rfl⟩
    · refine rr_if_eq 54 dX5_plain_19 (by decide) (fun h19 => absurd h19 hz) (fun h19 => ?_)
      refine rr_iloadn_1 dX5_plain_22 ?_
      refine rr_bipush (v := 60) dX5_plain_23 (by decide) ?_
      refine rr_icmp_ge 54 dX5_plain_25 (by decide) (fun h25 => ?_) (fun h25 => absurd (by decide) h25)
      refine rr_iloadn_2 dX5_plain_54 ?_
      refine rr_if_eq 72 dX5_plain_55 (by decide) (fun h55 => absurd h55 (by decide)) (fun _ => ?_)
      refine rr_aloadn_0 dX5_plain_58 ?_
      refine rr_getr 37 dX5_plain_59 kf_X5_19 (by omega) rfl rfl rfl ?_
      refine rr_bipush (v := 8) dX5_plain_62 (by decide) ?_
      refine rr_iald (8) dX5_plain_64 (by omega) rfl rfl (by decide) ?_
      rw [g8_ms]
      refine rr_if_ne 72 dX5_plain_65 (by decide) (fun h65 => ?_) (fun h65 => absurd h65 hz)
      refine rr_iconst (v := 0) dX5_plain_72 (by decide) ?_
      refine rr_istoren_3 dX5_plain_73 rfl ?_
      refine rr_aloadn_0 dX5_plain_74 ?_
      refine rr_callVvD (c_tb N _ _ hN D A n0) km_X5_147 rfl rfl (by omega) rfl (Nat.le_of_ble_eq_true rfl) dX5_plain_75 ?_
      refine rr_iloadn_3 dX5_plain_78 ?_
      refine rr_if_eq 86 dX5_plain_79 (by decide) (fun _ => ?_) (fun h79 => absurd h79 (by decide))
      refine rr_bipush (v := (-4)) dX5_plain_86 (by decide) ?_
      exact rr_iret dX5_plain_88 ⟨by first | (simp [pw_go, hz]; done) | (simp only [pw_go]; rw [if_neg hz]; split <;> rfl), n0, rfl⟩
  | succ m ih =>
    intro k c D n0 hkm hw hc
    have fail : rd_W N (d + 3) RX5 cX5_plain 4 (some .int) 8 [.ref 33, .int (nI (k + 1)), .int 0, .retAddr 0] [] (ms σ D A 0) (rd_is (some (.int (-4))) (ms σ A A 0)) := by
      refine rr_iloadn_2 dX5_plain_8 ?_
      refine rr_if_eq 54 dX5_plain_9 (by decide) (fun _ => ?_) (fun h9 => absurd h9 (by decide))
      refine rr_iloadn_2 dX5_plain_54 ?_
      refine rr_if_eq 72 dX5_plain_55 (by decide) (fun _ => ?_) (fun h55 => absurd h55 (by decide))
      refine rr_iconst (v := 0) dX5_plain_72 (by decide) ?_
      refine rr_istoren_3 dX5_plain_73 rfl ?_
      refine rr_aloadn_0 dX5_plain_74 ?_
      refine rr_callVvD (c_tb N _ _ hN D A 0) km_X5_147 rfl rfl (by omega) rfl (Nat.le_of_ble_eq_true rfl) dX5_plain_75 ?_
      refine rr_iloadn_3 dX5_plain_78 ?_
      refine rr_if_eq 86 dX5_plain_79 (by decide) (fun _ => ?_) (fun h79 => absurd h79 (by decide))
      refine rr_bipush (v := (-4)) dX5_plain_86 (by decide) ?_
      exact rr_iret dX5_plain_88 ⟨rfl, rfl⟩
    have hff : fg4 (if 0 ≤ D.2.2.1 then 2 else 0) := by split; exact Or.inr (Or.inr (Or.inl rfl)); exact Or.inl rfl
    refine rr_iloadn_2 dX5_plain_8 ?_
    refine rr_if_eq 54 dX5_plain_9 (by decide) (fun h9 => absurd h9 (by decide)) (fun _ => ?_)
    refine rr_aloadn_0 dX5_plain_12 ?_
    refine rr_getr 37 dX5_plain_13 kf_X5_19 (by omega) rfl rfl rfl ?_
    refine rr_bipush (v := 8) dX5_plain_16 (by decide) ?_
    refine rr_iald (8) dX5_plain_18 (by omega) rfl rfl (by decide) ?_
    rw [g8_ms]
    by_cases hz : D.2.2.1 = 0
    · refine rr_if_eq 54 dX5_plain_19 (by decide) (fun h19 => ?_) (fun h19 => absurd hz h19)
      refine rr_iloadn_2 dX5_plain_54 ?_
      refine rr_if_eq 72 dX5_plain_55 (by decide) (fun h55 => absurd h55 (by decide)) (fun _ => ?_)
      refine rr_aloadn_0 dX5_plain_58 ?_
      refine rr_getr 37 dX5_plain_59 kf_X5_19 (by omega) rfl rfl rfl ?_
      refine rr_bipush (v := 8) dX5_plain_62 (by decide) ?_
      refine rr_iald (8) dX5_plain_64 (by omega) rfl rfl (by decide) ?_
      rw [g8_ms]
      refine rr_if_ne 72 dX5_plain_65 (by decide) (fun h65 => absurd hz h65) (fun h65 => ?_)
      refine rr_iconst (v := 1) dX5_plain_68 (by decide) ?_
      refine rr_goto 73 dX5_plain_69 (by decide) ?_
      refine rr_istoren_3 dX5_plain_73 rfl ?_
      refine rr_aloadn_0 dX5_plain_74 ?_
      refine rr_callVvD (c_tb N _ _ hN D A n0) km_X5_147 rfl rfl (by omega) rfl (Nat.le_of_ble_eq_true rfl) dX5_plain_75 ?_
      refine rr_iloadn_3 dX5_plain_78 ?_
      refine rr_if_eq 86 dX5_plain_79 (by decide) (fun h79 => absurd h79 (by decide)) (fun _ => ?_)
      refine rr_iloadn_1 dX5_plain_82 ?_
      refine rr_goto 88 dX5_plain_83 (by decide) ?_
      exact rr_iret dX5_plain_88 ⟨by simp [pw_go, hz], n0, rfl⟩
    · refine rr_if_eq 54 dX5_plain_19 (by decide) (fun h19 => absurd h19 hz) (fun h19 => ?_)
      refine rr_iloadn_1 dX5_plain_22 ?_
      refine rr_bipush (v := 60) dX5_plain_23 (by decide) ?_
      refine rr_icmp_ge 54 dX5_plain_25 (by decide) (fun h25 => absurd ((nI_le8 (a := 60) (by omega) (by omega)).mp h25) (by omega)) (fun h25 => ?_)
      refine rr_aloadn_0 dX5_plain_28 ?_
      refine rr_aloadn_0 dX5_plain_29 ?_
      refine rr_getr 37 dX5_plain_30 kf_X5_19 (by omega) rfl rfl rfl ?_
      refine rr_bipush (v := 8) dX5_plain_33 (by decide) ?_
      refine rr_iald (8) dX5_plain_35 (by omega) rfl rfl (by decide) ?_
      rw [g8_ms]
      refine rr_if_geJ 43 44 (2) (0) dX5_plain_36 (by decide) (fun h36 k36 => ?_) (fun h36 k36 => ?_) ?_
      · refine rr_iconst (v := 2) dX5_plain_43 (by decide) ?_
        exact k36
      · refine rr_iconst (v := 0) dX5_plain_39 (by decide) ?_
        refine rr_goto 44 dX5_plain_40 (by decide) ?_
        exact k36
      rcases hst : sd_st D (if 0 ≤ D.2.2.1 then 2 else 0) kb with _ | E
      · refine rr_callViD (c_dances_n N _ σ hN c (by omega) D A n0 kb hw hk _ hff hst) km_X5_144 rfl rfl (by omega) rfl (Nat.le_of_ble_eq_true rfl) dX5_plain_44 ?_
        refine rr_istoren_2 dX5_plain_47 rfl ?_
        refine rr_iinc_1 1 dX5_plain_48 (by decide) rfl ?_
        refine rr_goto 8 dX5_plain_51 (by decide) ?_
        rw [nI_s k]
        refine fail.post (fun r s q => ⟨?_, 0, q.2⟩)
        rw [q.1, pw_go, if_neg hz, hst]
      · refine rr_callViD (c_dances_s N _ σ hN c (by omega) D A n0 kb hw hk _ hff hst) km_X5_144 rfl rfl (by omega) rfl (Nat.le_of_ble_eq_true rfl) dX5_plain_44 ?_
        refine rr_istoren_2 dX5_plain_47 rfl ?_
        refine rr_iinc_1 1 dX5_plain_48 (by decide) rfl ?_
        refine rr_goto 8 dX5_plain_51 (by decide) ?_
        rw [nI_s k]
        refine (ih (k + 1) (c + 1) E _ (by omega) (wf_go hw (by omega) hst) (by omega)).post (fun r s q => ⟨?_, q.2⟩)
        rw [q.1]
        conv => { rhs; rw [pw_go, if_neg hz, hst] }
set_option maxHeartbeats 4000000 in
set_option maxRecDepth 100000 in
theorem m_plain (N d : Nat) (σ : rd_S) (hN : 49 ≤ N) (c : Nat) (hc : c + 100 < 1000000) (D : sd_D) (kb : Int32) (hw : wf c D) (hk : kd_at σ kb) (hD : md_at σ D) : rd_T N (d + 3) yX5_plain cX5_plain 4 (some .int) [.ref 33] σ (fun r s => r = some (.int (pw_go kb 61 0 D)) ∧ mq_eq s σ) := by
  refine rd_start RX5 [.ref 33, .retAddr 0, .retAddr 0, .retAddr 0] rfl (by decide +kernel) rfl (Nat.le_of_ble_eq_true rfl) ?_
  refine rr_aloadn_0 dX5_plain_0 ?_
  refine rr_callVvD (c_pa N _ _ hN D hD) km_X5_141 rfl rfl (by omega) rfl (Nat.le_of_ble_eq_true rfl) dX5_plain_1 ?_
  refine rr_iconst (v := 0) dX5_plain_4 (by decide) ?_
  refine rr_istoren_1 dX5_plain_5 rfl ?_
  refine rr_iconst (v := 1) dX5_plain_6 (by decide) ?_
  refine rr_istoren_2 dX5_plain_7 rfl ?_
  refine (lp_mplain N d hN σ D kb hk 60 0 c D _ rfl hw (by omega)).post (fun r s q => ?_)
  obtain ⟨q1, n1, rfl⟩ := q
  exact ⟨q1, mq_ms (mq_eq.refl _) hD⟩
/-- the row stands: m of its figures -/
def rw_at (σ : rd_S) (fg : Int32) (fc : Nat) : Prop := σ 33 3 = nI fc ∧ fc ≤ 12 ∧ ∀ k, k < fc → σ 36 k = sd_who fg (nI k)
theorem rw_ms {σ : rd_S} {fg : Int32} {fc : Nat} (h : rw_at σ fg fc) (D A : sd_D) (n : Int32) : rw_at (ms σ D A n) fg fc := ⟨by rw [ms_ne (by decide) (by decide) (by omega)]; exact h.1, h.2.1, fun k hk => by rw [ms_ne (by decide) (by decide) (by omega)]; exact h.2.2 k hk⟩
def tr_n (fg kb : Int32) : Nat → Nat → sd_D → Nat
  | 0, k, _ => k
  | m + 1, k, D => match sd_st D (sd_who fg (nI k)) kb with
    | none => k
    | some E => tr_n fg kb m (k + 1) E
theorem tr_n_le (fg kb : Int32) : ∀ (m k : Nat) (D : sd_D), k ≤ tr_n fg kb m k D ∧ tr_n fg kb m k D ≤ k + m
  | 0, k, D => by simp [tr_n]
  | m + 1, k, D => by
    unfold tr_n
    split
    · omega
    · rename_i E _; have := tr_n_le fg kb m (k + 1) E; omega
theorem tr_n_go (fg kb : Int32) : ∀ (m k : Nat) (D : sd_D), (tr_go fg kb m k D).1 = true ↔ tr_n fg kb m k D = k + m
  | 0, k, D => by simp [tr_n, tr_go]
  | m + 1, k, D => by
    rcases h : sd_st D (sd_who fg (nI k)) kb with _ | E
    · simp [tr_n, tr_go, h]
    · simp only [tr_n, tr_go, h]
      rw [tr_n_go fg kb m (k + 1) E]; omega
theorem tr_wf {fg kb : Int32} : ∀ {m k c : Nat} {D : sd_D}, wf c D → c + m < 1000000 → wf (c + m) (tr_go fg kb m k D).2
  | 0, _, _, _, h, _ => h
  | m + 1, k, c, D, h, hc => by
    unfold tr_go
    split
    · exact h.up (by omega)
    · rename_i E hE
      have := tr_wf (fg := fg) (kb := kb) (m := m) (k := k + 1) (wf_go h (by omega) hE) (by omega)
      rwa [show c + (m + 1) = c + 1 + m by omega]
set_option maxHeartbeats 4000000 in
set_option maxRecDepth 100000 in
theorem lp_dancesOn (N d : Nat) (hN : 49 ≤ N) (σ : rd_S) (A : sd_D) (fg kb : Int32) (fc : Nat) (hk : kd_at σ kb) (hr : rw_at σ fg fc) (v : Int32) : ∀ (m k c : Nat) (D : sd_D) (n0 : Int32), k + m ≤ fc → wf c D → c + m < 1000000 → rd_W N (d + 3) RX5 cX5_dancesOn 4 (some .int) 19 [.ref 33, .int v, .int (nI (k + m)), .int (nI k)] [] (ms σ D A n0) (fun r s => r = some (.int (nI (tr_n fg kb m k D))) ∧ ∃ n1, s = ms σ (tr_go fg kb m k D).2 A n1) := by
  have h12 := hr.2.1
  intro m
  induction m with
  | zero =>
    intro k c D n0 hkm hw hc
    refine rr_iloadn_3 dX5_dancesOn_19 ?_
    refine rr_iloadn_2 dX5_dancesOn_20 ?_
    refine rr_icmp_ge 43 dX5_dancesOn_21 (by decide) (fun h21 => ?_) (fun h21 => absurd (nI_le (Nat.le_refl _) (by omega)) h21)
    refine rr_iloadn_3 dX5_dancesOn_43 ?_
    exact rr_iret dX5_dancesOn_44 ⟨rfl, n0, rfl⟩
  | succ m ih =>
    intro k c D n0 hkm hw hc
    have hrk : ms σ D A n0 36 k = sd_who fg (nI k) := by rw [ms_ne (by decide) (by decide) (by omega)]; exact hr.2.2 k (by omega)
    refine rr_iloadn_3 dX5_dancesOn_19 ?_
    refine rr_iloadn_2 dX5_dancesOn_20 ?_
    refine rr_icmp_ge 43 dX5_dancesOn_21 (by decide) (fun h21 => absurd ((nI_le8 (by omega) (by omega)).mp h21) (by omega)) (fun h21 => ?_)
    refine rr_aloadn_0 dX5_dancesOn_24 ?_
    refine rr_aloadn_0 dX5_dancesOn_25 ?_
    refine rr_getr 36 dX5_dancesOn_26 kf_X5_16 (by omega) rfl rfl rfl ?_
    refine rr_iloadn_3 dX5_dancesOn_29 ?_
    refine rr_iald (k) dX5_dancesOn_30 (by omega) rfl rfl (show k < 12 by omega) ?_
    rw [hrk]
    rcases hst : sd_st D (sd_who fg (nI k)) kb with _ | E
    · refine rr_callViD (c_dances_n N _ σ hN c (by omega) D A n0 kb hw hk _ (fg_who _ _) hst) km_X5_144 rfl rfl (by omega) rfl (Nat.le_of_ble_eq_true rfl) dX5_dancesOn_31 ?_
      refine rr_if_eq 43 dX5_dancesOn_34 (by decide) (fun _ => ?_) (fun h34 => absurd h34 (by decide))
      refine rr_iloadn_3 dX5_dancesOn_43 ?_
      exact rr_iret dX5_dancesOn_44 ⟨by simp [tr_n, hst], 0, by simp [tr_go, hst]⟩
    · refine rr_callViD (c_dances_s N _ σ hN c (by omega) D A n0 kb hw hk _ (fg_who _ _) hst) km_X5_144 rfl rfl (by omega) rfl (Nat.le_of_ble_eq_true rfl) dX5_dancesOn_31 ?_
      refine rr_if_eq 43 dX5_dancesOn_34 (by decide) (fun h34 => absurd h34 (by decide)) (fun _ => ?_)
      refine rr_iinc_3 1 dX5_dancesOn_37 (by decide) rfl ?_
      refine rr_goto 19 dX5_dancesOn_40 (by decide) ?_
      rw [nI_s k, show k + (m + 1) = (k + 1) + m by omega]
      rw [show tr_n fg kb (m + 1) k D = tr_n fg kb m (k + 1) E by simp [tr_n, hst], show tr_go fg kb (m + 1) k D = tr_go fg kb m (k + 1) E by simp [tr_go, hst]]
      exact ih (k + 1) (c + 1) E _ (by omega) (wf_go hw (by omega) hst) (by omega)
theorem mn_min {n fc : Nat} (hn : n < 1000) (hf : fc < 1000) : (if nI fc ≤ nI n then nI fc else nI n) = nI (min n fc) := by
  by_cases h : fc ≤ n
  · rw [if_pos ((nI_le8 hf hn).mpr h), Nat.min_eq_right h]
  · rw [if_neg (fun q => h ((nI_le8 hf hn).mp q)), Nat.min_eq_left (by omega)]
set_option maxHeartbeats 4000000 in
set_option maxRecDepth 100000 in
theorem c_X5_dancesOn (N d : Nat) (σ : rd_S) (hN : 49 ≤ N) (c : Nat) (hc : c + 100 < 1000000) (D A : sd_D) (n0 fg kb : Int32) (fc : Nat) (hw : wf c D) (hk : kd_at σ kb) (hr : rw_at σ fg fc) (n : Nat) (hn : n < 1000) : rd_T N (d + 3) yX5_dancesOn cX5_dancesOn 4 (some .int) [.ref 33, .int (nI n)] (ms σ D A n0) (fun r s => r = some (.int (nI (tr_n fg kb (min n fc) 0 D))) ∧ ∃ n1, s = ms σ (tr_go fg kb (min n fc) 0 D).2 A n1) := by
  refine rd_start RX5 [.ref 33, .int (nI n), .retAddr 0, .retAddr 0] rfl (by decide +kernel) rfl (Nat.le_of_ble_eq_true rfl) ?_
  have hf3 := (rw_ms hr D A n0).1
  have h12 := hr.2.1
  refine rr_iloadn_1 dX5_dancesOn_0 ?_
  refine rr_aloadn_0 dX5_dancesOn_1 ?_
  refine rr_geti dX5_dancesOn_2 kf_X5_55 (by omega) rfl rfl ?_
  rw [hf3]
  refine rr_icmp_geJ 12 16 (ms σ D A n0 33 3) (nI n) dX5_dancesOn_5 (by decide) (fun h5 k5 => ?_) (fun h5 k5 => ?_) ?_
  · refine rr_aloadn_0 dX5_dancesOn_12 ?_
    refine rr_geti dX5_dancesOn_13 kf_X5_55 (by omega) rfl rfl ?_
    exact k5
  · refine rr_iloadn_1 dX5_dancesOn_8 ?_
    refine rr_goto 16 dX5_dancesOn_9 (by decide) ?_
    exact k5
  rw [hf3, mn_min (by omega) (by omega)]
  refine rr_istoren_2 dX5_dancesOn_16 rfl ?_
  refine rr_iconst (v := 0) dX5_dancesOn_17 (by decide) ?_
  refine rr_istoren_3 dX5_dancesOn_18 rfl ?_
  have := lp_dancesOn N d hN σ A fg kb fc hk hr (nI n) (min n fc) 0 c D n0 (by omega) hw (by omega)
  rw [Nat.zero_add] at this
  exact this
set_option maxHeartbeats 4000000 in
set_option maxRecDepth 100000 in
theorem c_X5_dancesFirst (N d : Nat) (σ : rd_S) (hN : 49 ≤ N) (c : Nat) (hc : c + 100 < 1000000) (D A : sd_D) (n0 fg kb : Int32) (fc : Nat) (hw : wf c D) (hk : kd_at σ kb) (hr : rw_at σ fg fc) (n : Nat) (hn : n < 1000) : rd_T N (d + 4) yX5_dancesFirst cX5_dancesFirst 2 (some .boolean) [.ref 33, .int (nI n)] (ms σ D A n0) (fun r s => r = some (.int (if (tr_go fg kb (min n fc) 0 D).1 = true then 1 else 0)) ∧ ∃ n1, s = ms σ (tr_go fg kb (min n fc) 0 D).2 A n1) := by
  refine rd_start RX5 [.ref 33, .int (nI n)] rfl (by decide +kernel) rfl (Nat.le_of_ble_eq_true rfl) ?_
  have h12 := hr.2.1
  have hgo := tr_n_go fg kb (min n fc) 0 D
  have hle := tr_n_le fg kb (min n fc) 0 D
  rw [Nat.zero_add] at hgo hle
  refine rr_aloadn_0 dX5_dancesFirst_0 ?_
  refine rr_iloadn_1 dX5_dancesFirst_1 ?_
  refine rr_callVi (c_X5_dancesOn N _ σ hN c hc D A n0 fg kb fc hw hk hr n hn) km_X5_200 rfl rfl (by omega) rfl (Nat.le_of_ble_eq_true rfl) dX5_dancesFirst_2 (fun r2 s2 q2 => ?_)
  obtain ⟨hr2, n1, rfl⟩ := q2
  cases hr2
  have hf3 := (rw_ms hr (tr_go fg kb (min n fc) 0 D).2 A n1).1
  refine rr_iloadn_1 dX5_dancesFirst_5 ?_
  refine rr_aloadn_0 dX5_dancesFirst_6 ?_
  refine rr_geti dX5_dancesFirst_7 kf_X5_55 (by omega) rfl rfl ?_
  rw [hf3]
  refine rr_icmp_geJ 17 21 (ms σ (tr_go fg kb (min n fc) 0 D).2 A n1 33 3) (nI n) dX5_dancesFirst_10 (by decide) (fun h10 k10 => ?_) (fun h10 k10 => ?_) ?_
  · refine rr_aloadn_0 dX5_dancesFirst_17 ?_
    refine rr_geti dX5_dancesFirst_18 kf_X5_55 (by omega) rfl rfl ?_
    exact k10
  · refine rr_iloadn_1 dX5_dancesFirst_13 ?_
    refine rr_goto 21 dX5_dancesFirst_14 (by decide) ?_
    exact k10
  rw [hf3, mn_min (by omega) (by omega)]
  refine rr_icmp_ne 28 dX5_dancesFirst_21 (by decide) (fun h21 => ?_) (fun h21 => ?_)
  · refine rr_iconst (v := 0) dX5_dancesFirst_28 (by decide) ?_
    exact rr_zret dX5_dancesFirst_29 (by decide) ⟨by rw [nI_eq8 (by omega) (by omega), ← hgo] at h21; simp [h21], n1, rfl⟩
  · refine rr_iconst (v := 1) dX5_dancesFirst_24 (by decide) ?_
    refine rr_goto 29 dX5_dancesFirst_25 (by decide) ?_
    exact rr_zret dX5_dancesFirst_29 (by decide) ⟨by rw [nI_eq8 (by omega) (by omega), ← hgo] at h21; simp [h21], n1, rfl⟩
set_option maxHeartbeats 4000000 in
set_option maxRecDepth 100000 in
theorem m_comes_b (N d : Nat) (σ : rd_S) (hN : 49 ≤ N) (w : Int32) (h : hp_rg 0 1 w = false) : rd_T N (d + 4) yX5_comes cX5_comes 4 (some .int) [.ref 33, .int w] σ (rd_is (some (.int (-1))) σ) := by
  refine rd_start RX5 [.ref 33, .int w, .retAddr 0, .retAddr 0] rfl (by decide +kernel) rfl (Nat.le_of_ble_eq_true rfl) ?_
  refine rr_iloadn_1 dX5_comes_0 ?_
  refine rr_callSiD (c_X5_isPart N _ _ _) km_X5_114 rfl rfl (Nat.le_of_ble_eq_true rfl) dX5_comes_1 ?_
  refine rr_if_ne 9 dX5_comes_4 (by decide) (fun h4 => absurd (by simp [h]) h4) (fun h4 => ?_)
  refine rr_iconst (v := (-1)) dX5_comes_7 (by decide) ?_
  exact rr_iret dX5_comes_8 ⟨rfl, rfl⟩
set_option maxHeartbeats 4000000 in
set_option maxRecDepth 100000 in
theorem m_comes_s (N d : Nat) (σ : rd_S) (hN : 49 ≤ N) (c : Nat) (hc : c + 100 < 1000000) (D : sd_D) (fg kb : Int32) (fc : Nat) (hw : wf c D) (hk : kd_at σ kb) (hr : rw_at σ fg fc) (hD : md_at σ D) (w : Int32) (h : hp_rg 0 1 w = true) : rd_T N (d + 4) yX5_comes cX5_comes 4 (some .int) [.ref 33, .int w] σ (fun r s => r = some (.int (if w = 0 then nI (tr_n fg kb (min 12 fc) 0 D) else sd_who (tr_go fg kb (min 12 fc) 0 D).2.1 0)) ∧ mq_eq s σ) := by
  refine rd_start RX5 [.ref 33, .int w, .retAddr 0, .retAddr 0] rfl (by decide +kernel) rfl (Nat.le_of_ble_eq_true rfl) ?_
  refine rr_iloadn_1 dX5_comes_0 ?_
  refine rr_callSiD (c_X5_isPart N _ _ _) km_X5_114 rfl rfl (Nat.le_of_ble_eq_true rfl) dX5_comes_1 ?_
  refine rr_if_ne 9 dX5_comes_4 (by decide) (fun h4 => ?_) (fun h4 => absurd h4 (by simp [h]))
  refine rr_aloadn_0 dX5_comes_9 ?_
  refine rr_callVvD (c_pa N _ _ hN D hD) km_X5_141 rfl rfl (by omega) rfl (Nat.le_of_ble_eq_true rfl) dX5_comes_10 ?_
  refine rr_aloadn_0 dX5_comes_13 ?_
  refine rr_bipush (v := 12) dX5_comes_14 (by decide) ?_
  refine rr_callVi (c_X5_dancesOn N _ σ hN c hc D D _ fg kb fc hw hk hr 12 (by decide)) km_X5_200 rfl rfl (by omega) rfl (Nat.le_of_ble_eq_true rfl) dX5_comes_16 (fun r16 s16 q16 => ?_)
  obtain ⟨hr2, n1, rfl⟩ := q16
  cases hr2
  refine rr_istoren_2 dX5_comes_19 rfl ?_
  refine rr_aloadn_0 dX5_comes_20 ?_
  refine rr_getr 37 dX5_comes_21 kf_X5_19 (by omega) rfl rfl rfl ?_
  refine rr_iconst (v := 0) dX5_comes_24 (by decide) ?_
  refine rr_iald (0) dX5_comes_25 (by omega) rfl rfl (by decide) ?_
  rw [show ms σ (tr_go fg kb (min 12 fc) 0 D).2 D n1 37 0 = sd_who (tr_go fg kb (min 12 fc) 0 D).2.1 0 from by rw [ms_st (by decide)]; rfl]
  refine rr_istoren_3 dX5_comes_26 rfl ?_
  refine rr_aloadn_0 dX5_comes_27 ?_
  refine rr_callVvD (c_tb N _ _ hN _ D n1) km_X5_147 rfl rfl (by omega) rfl (Nat.le_of_ble_eq_true rfl) dX5_comes_28 ?_
  refine rr_iloadn_1 dX5_comes_31 ?_
  refine rr_if_ne 39 dX5_comes_32 (by decide) (fun h32 => ?_) (fun h32 => ?_)
  · refine rr_iloadn_3 dX5_comes_39 ?_
    exact rr_iret dX5_comes_40 ⟨by first | (rw [if_pos h32]; done) | (rw [if_neg h32]; done), mq_ms (mq_eq.refl _) hD⟩
  · refine rr_iloadn_2 dX5_comes_35 ?_
    refine rr_goto 40 dX5_comes_36 (by decide) ?_
    exact rr_iret dX5_comes_40 ⟨by first | (rw [if_pos h32]; done) | (rw [if_neg h32]; done), mq_ms (mq_eq.refl _) hD⟩
set_option maxHeartbeats 4000000 in
set_option maxRecDepth 100000 in
theorem m_behind_b (N d : Nat) (σ : rd_S) (hN : 49 ≤ N) (n w : Int32) (h : hp_rg 0 12 n = false ∨ hp_rg 0 1 w = false) : rd_T N (d + 5) yX5_behind cX5_behind 4 (some .int) [.ref 33, .int n, .int w] σ (rd_is (some (.int (-100000))) σ) := by
  refine rd_start RX5 [.ref 33, .int n, .int w, .retAddr 0] rfl (by decide +kernel) rfl (Nat.le_of_ble_eq_true rfl) ?_
  refine rr_iloadn_1 dX5_behind_0 ?_
  refine rr_i2l dX5_behind_1 ?_
  refine rr_lconst (v := 0) dX5_behind_2 (by decide) ?_
  refine rr_ldc2 dX5_behind_3 kc_X5_203 ?_
  refine rr_callSiD (c_in N _ _ _ _ _ (0) (12) rfl rfl) km_X5_62 rfl rfl (Nat.le_of_ble_eq_true rfl) dX5_behind_6 ?_
  refine rr_if_eq 19 dX5_behind_9 (by decide) (fun h9 => ?_) (fun h9 => ?_)
  · refine rr_ldc dX5_behind_19 kc_X5_117 ?_
    exact rr_iret dX5_behind_21 ⟨rfl, rfl⟩
  · refine rr_iloadn_2 dX5_behind_12 ?_
    refine rr_callSiD (c_X5_isPart N _ _ _) km_X5_114 rfl rfl (Nat.le_of_ble_eq_true rfl) dX5_behind_13 ?_
    refine rr_if_ne 22 dX5_behind_16 (by decide) (fun h16 => absurd (by rcases h with h | h; { simp [h] at h9 }; { simp [h] }) h16) (fun h16 => ?_)
    refine rr_ldc dX5_behind_19 kc_X5_117 ?_
    exact rr_iret dX5_behind_21 ⟨rfl, rfl⟩
theorem hp_01 {w : Int32} (h : hp_rg 0 1 w = true) : ∃ j, j < 2 ∧ w = nI j := by
  obtain ⟨j, hj, e⟩ := hp_nat (k := 1) h
  exact ⟨j, by omega, e⟩
theorem w01 {j : Nat} (h : j < 2) : (nI j = 0 ↔ j = 0) := nI_eq8 (b := 0) (by omega) (by omega)
set_option maxHeartbeats 4000000 in
set_option maxRecDepth 100000 in
theorem m_behind_s (N d : Nat) (σ : rd_S) (hN : 49 ≤ N) (c : Nat) (hc : c + 100 < 1000000) (D : sd_D) (fg kb : Int32) (fc : Nat) (hw : wf c D) (hk : kd_at σ kb) (hr : rw_at σ fg fc) (hD : md_at σ D) (n : Nat) (hn : n ≤ 12) (w : Int32) (h : hp_rg 0 1 w = true) : rd_T N (d + 5) yX5_behind cX5_behind 4 (some .int) [.ref 33, .int (nI n), .int w] σ (fun r s => r = some (.int ((fun q : Bool × sd_D => if q.1 = true then (if w = 0 then q.2.2.2.1 else q.2.2.2.2.1) else -100001) (tr_go fg kb (min n fc) 0 D))) ∧ mq_eq s σ) := by
  refine rd_start RX5 [.ref 33, .int (nI n), .int w, .retAddr 0] rfl (by decide +kernel) rfl (Nat.le_of_ble_eq_true rfl) ?_
  have h12 := hp_12 hn
  have hT := fun n0 => c_X5_dancesFirst N d σ hN c hc D D n0 fg kb fc hw hk hr n (by omega)
  generalize tr_go fg kb (min n fc) 0 D = q at hT ⊢
  obtain ⟨b, E⟩ := q
  dsimp only at hT ⊢
  obtain ⟨j, hj, rfl⟩ := hp_01 h
  refine rr_iloadn_1 dX5_behind_0 ?_
  refine rr_i2l dX5_behind_1 ?_
  refine rr_lconst (v := 0) dX5_behind_2 (by decide) ?_
  refine rr_ldc2 dX5_behind_3 kc_X5_203 ?_
  refine rr_callSiD (c_in N _ _ _ _ _ (0) (12) rfl rfl) km_X5_62 rfl rfl (Nat.le_of_ble_eq_true rfl) dX5_behind_6 ?_
  refine rr_if_eq 19 dX5_behind_9 (by decide) (fun h9 => absurd h9 (by simp [h12])) (fun h9 => ?_)
  refine rr_iloadn_2 dX5_behind_12 ?_
  refine rr_callSiD (c_X5_isPart N _ _ _) km_X5_114 rfl rfl (Nat.le_of_ble_eq_true rfl) dX5_behind_13 ?_
  refine rr_if_ne 22 dX5_behind_16 (by decide) (fun h16 => ?_) (fun h16 => absurd h16 (by simp [h]))
  refine rr_aloadn_0 dX5_behind_22 ?_
  refine rr_callVvD (c_pa N _ _ hN D hD) km_X5_141 rfl rfl (by omega) rfl (Nat.le_of_ble_eq_true rfl) dX5_behind_23 ?_
  refine rr_aloadn_0 dX5_behind_26 ?_
  refine rr_iloadn_1 dX5_behind_27 ?_
  refine rr_callVi (hT _) km_X5_205 rfl rfl (by omega) rfl (Nat.le_of_ble_eq_true rfl) dX5_behind_28 (fun r28 s28 q28 => ?_)
  obtain ⟨hr2, n1, rfl⟩ := q28
  cases hr2
  cases b
  · refine rr_if_eq 46 dX5_behind_31 (by decide) (fun h31 => ?_) (fun h31 => absurd (by simp) h31)
    refine rr_ldc dX5_behind_46 kc_X5_208 ?_
    refine rr_istoren_3 dX5_behind_48 rfl ?_
    refine rr_aloadn_0 dX5_behind_49 ?_
    refine rr_callVvD (c_tb N _ _ hN E D n1) km_X5_147 rfl rfl (by omega) rfl (Nat.le_of_ble_eq_true rfl) dX5_behind_50 ?_
    refine rr_iloadn_3 dX5_behind_53 ?_
    exact rr_iret dX5_behind_54 ⟨by simp, mq_ms (mq_eq.refl _) hD⟩
  · refine rr_if_eq 46 dX5_behind_31 (by decide) (fun h31 => absurd h31 (by simp)) (fun h31 => ?_)
    refine rr_aloadn_0 dX5_behind_34 ?_
    refine rr_getr 37 dX5_behind_35 kf_X5_19 (by omega) rfl rfl rfl ?_
    refine rr_bipush (v := 8) dX5_behind_38 (by decide) ?_
    refine rr_iloadn_2 dX5_behind_40 ?_
    refine rr_iadd dX5_behind_41 ?_
    rw [show (8 : Int32) + nI j = nI (8 + j) from nI_add 8 j]
    refine rr_iald ((8 + j)) dX5_behind_42 (by omega) rfl rfl (show 8 + j < 12 by omega) ?_
    refine rr_goto 48 dX5_behind_43 (by decide) ?_
    refine rr_istoren_3 dX5_behind_48 rfl ?_
    refine rr_aloadn_0 dX5_behind_49 ?_
    refine rr_callVvD (c_tb N _ _ hN E D n1) km_X5_147 rfl rfl (by omega) rfl (Nat.le_of_ble_eq_true rfl) dX5_behind_50 ?_
    refine rr_iloadn_3 dX5_behind_53 ?_
    exact rr_iret dX5_behind_54 ⟨by rw [ms_st (by omega)]; rcases (show j = 0 ∨ j = 1 by omega) with rfl | rfl <;> rfl, mq_ms (mq_eq.refl _) hD⟩
set_option maxHeartbeats 4000000 in
set_option maxRecDepth 100000 in
theorem m_wound_b (N d : Nat) (σ : rd_S) (hN : 49 ≤ N) (w : Int32) (h : hp_rg 0 1 w = false) : rd_T N (d + 2) yX5_wound cX5_wound 2 (some .int) [.ref 33, .int w] σ (rd_is (some (.int (-100000))) σ) := by
  refine rd_start RX5 [.ref 33, .int w] rfl (by decide +kernel) rfl (Nat.le_of_ble_eq_true rfl) ?_
  refine rr_iloadn_1 dX5_wound_0 ?_
  refine rr_callSiD (c_X5_isPart N _ _ _) km_X5_114 rfl rfl (Nat.le_of_ble_eq_true rfl) dX5_wound_1 ?_
  refine rr_if_eq 19 dX5_wound_4 (by decide) (fun h4 => ?_) (fun h4 => absurd (by simp [h]) h4)
  refine rr_ldc dX5_wound_19 kc_X5_117 ?_
  exact rr_iret dX5_wound_21 ⟨rfl, rfl⟩
set_option maxHeartbeats 4000000 in
set_option maxRecDepth 100000 in
theorem m_wound_s (N d : Nat) (σ : rd_S) (hN : 49 ≤ N) (D : sd_D) (hD : md_at σ D) (w : Int32) (h : hp_rg 0 1 w = true) : rd_T N (d + 2) yX5_wound cX5_wound 2 (some .int) [.ref 33, .int w] σ (rd_is (some (.int (if w = 0 then D.2.2.1 else D.2.2.2.1))) σ) := by
  refine rd_start RX5 [.ref 33, .int w] rfl (by decide +kernel) rfl (Nat.le_of_ble_eq_true rfl) ?_
  obtain ⟨j, hj, rfl⟩ := hp_01 h
  refine rr_iloadn_1 dX5_wound_0 ?_
  refine rr_callSiD (c_X5_isPart N _ _ _) km_X5_114 rfl rfl (Nat.le_of_ble_eq_true rfl) dX5_wound_1 ?_
  refine rr_if_eq 19 dX5_wound_4 (by decide) (fun h4 => absurd h4 (by simp [h])) (fun h4 => ?_)
  refine rr_aloadn_0 dX5_wound_7 ?_
  refine rr_getr 37 dX5_wound_8 kf_X5_19 (by omega) rfl rfl rfl ?_
  refine rr_bipush (v := 8) dX5_wound_11 (by decide) ?_
  refine rr_iloadn_1 dX5_wound_13 ?_
  refine rr_iadd dX5_wound_14 ?_
  rw [show (8 : Int32) + nI j = nI (8 + j) from nI_add 8 j]
  refine rr_iald ((8 + j)) dX5_wound_15 (by omega) rfl rfl (show 8 + j < 12 by omega) ?_
  refine rr_goto 21 dX5_wound_16 (by decide) ?_
  exact rr_iret dX5_wound_21 ⟨by rw [hD _ (by omega)]; rcases (show j = 0 ∨ j = 1 by omega) with rfl | rfl <;> rfl, rfl⟩
set_option maxHeartbeats 4000000 in
set_option maxRecDepth 100000 in
theorem m_row_b (N d : Nat) (σ : rd_S) (hN : 49 ≤ N) (k : Int32) (h : hp_rg 0 11 k = false) : rd_T N (d + 1) yX5_row cX5_row 2 (some .int) [.ref 33, .int k] σ (rd_is (some (.int (-1))) σ) := by
  refine rd_start RX5 [.ref 33, .int k] rfl (by decide +kernel) rfl (Nat.le_of_ble_eq_true rfl) ?_
  refine rr_iloadn_1 dX5_row_0 ?_
  refine rr_i2l dX5_row_1 ?_
  refine rr_lconst (v := 0) dX5_row_2 (by decide) ?_
  refine rr_ldc2 dX5_row_3 kc_X5_118 ?_
  refine rr_callSiD (c_in N _ _ _ _ _ (0) (11) rfl rfl) km_X5_62 rfl rfl (Nat.le_of_ble_eq_true rfl) dX5_row_6 ?_
  refine rr_if_ne 14 dX5_row_9 (by decide) (fun h9 => absurd (by simp [h]) h9) (fun h9 => ?_)
  refine rr_iconst (v := (-1)) dX5_row_12 (by decide) ?_
  exact rr_iret dX5_row_13 ⟨rfl, rfl⟩
set_option maxHeartbeats 4000000 in
set_option maxRecDepth 100000 in
theorem m_row_s (N d : Nat) (σ : rd_S) (hN : 49 ≤ N) (fg : Int32) (fc : Nat) (hr : rw_at σ fg fc) (k : Int32) (h : hp_rg 0 11 k = true) : rd_T N (d + 1) yX5_row cX5_row 2 (some .int) [.ref 33, .int k] σ (rd_is (some (.int (if nI fc ≤ k then -4 else sd_who fg k))) σ) := by
  refine rd_start RX5 [.ref 33, .int k] rfl (by decide +kernel) rfl (Nat.le_of_ble_eq_true rfl) ?_
  obtain ⟨j, hj, rfl⟩ := hp_nat (k := 11) h
  have h12 := hr.2.1
  refine rr_iloadn_1 dX5_row_0 ?_
  refine rr_i2l dX5_row_1 ?_
  refine rr_lconst (v := 0) dX5_row_2 (by decide) ?_
  refine rr_ldc2 dX5_row_3 kc_X5_118 ?_
  refine rr_callSiD (c_in N _ _ _ _ _ (0) (11) rfl rfl) km_X5_62 rfl rfl (Nat.le_of_ble_eq_true rfl) dX5_row_6 ?_
  refine rr_if_ne 14 dX5_row_9 (by decide) (fun h9 => ?_) (fun h9 => absurd h9 (by simp [h]))
  refine rr_iloadn_1 dX5_row_14 ?_
  refine rr_aloadn_0 dX5_row_15 ?_
  refine rr_geti dX5_row_16 kf_X5_55 (by omega) rfl rfl ?_
  rw [hr.1]
  refine rr_icmp_ge 31 dX5_row_19 (by decide) (fun h19 => ?_) (fun h19 => ?_)
  · refine rr_bipush (v := (-4)) dX5_row_31 (by decide) ?_
    exact rr_iret dX5_row_33 ⟨by first | (rw [if_pos h19]; done) | (rw [if_neg h19, hr.2.2 j (Nat.lt_of_not_le (fun q => h19 ((nI_le8 (by omega) (by omega)).mpr q)))]; done), rfl⟩
  · refine rr_aloadn_0 dX5_row_22 ?_
    refine rr_getr 36 dX5_row_23 kf_X5_16 (by omega) rfl rfl rfl ?_
    refine rr_iloadn_1 dX5_row_26 ?_
    refine rr_iald (j) dX5_row_27 (by omega) rfl rfl (show j < 12 by omega) ?_
    refine rr_goto 33 dX5_row_28 (by decide) ?_
    exact rr_iret dX5_row_33 ⟨by first | (rw [if_pos h19]; done) | (rw [if_neg h19, hr.2.2 j (Nat.lt_of_not_le (fun q => h19 ((nI_le8 (by omega) (by omega)).mpr q)))]; done), rfl⟩
theorem c_plr (N d : Nat) (τ : rd_S) (hN : 49 ≤ N) (D : sd_D) (hD : md_at τ D) {x i : Nat} (hx : x < 256) (hp : wf_p x = true) (hD1 : D.1 = nI x) (hi : i < 4) : rd_T N d yX5_placeOf cX5_placeOf 3 (some .int) [.ref 33, .int (nI i)] τ (rd_is (some (.int (nI (pl x i)))) τ) := by
  have e : ∀ k, k < 4 → τ 37 k = nI (wh x k) := fun k hk => by rw [hD k (by omega), md_4 hk, hD1, wh_ok x hx k hk]
  have hq := (pl_okk x hx hp i hi).2
  have hlt := pl_lt x i
  have hh : τ 37 0 = nI i ∨ τ 37 1 = nI i ∨ τ 37 2 = nI i ∨ τ 37 3 = nI i := by
    rcases (show pl x i = 0 ∨ pl x i = 1 ∨ pl x i = 2 ∨ pl x i = 3 by omega) with h | h | h | h <;> rw [h] at hq
    · exact Or.inl (by rw [e 0 (by decide), hq])
    · exact Or.inr (Or.inl (by rw [e 1 (by decide), hq]))
    · exact Or.inr (Or.inr (Or.inl (by rw [e 2 (by decide), hq])))
    · exact Or.inr (Or.inr (Or.inr (by rw [e 3 (by decide), hq])))
  have := c_X5_placeOf N d τ hN (nI i) hh
  rw [show (if τ 37 0 = nI i then (0 : Int32) else if τ 37 1 = nI i then 1 else if τ 37 2 = nI i then 2 else 3) = nI (pl x i) by
    have w : ∀ k, wh x k < 1000 := fun k => Nat.lt_of_lt_of_le (wh_lt x k) (by decide)
    simp only [e 0 (by decide), e 1 (by decide), e 2 (by decide), nI_eq8 (w _) (show i < 1000 by omega)]
    unfold pl
    split
    · rfl
    · split
      · rfl
      · split <;> rfl] at this
  exact this
set_option maxHeartbeats 4000000 in
set_option maxRecDepth 100000 in
theorem m_dancer_b (N d : Nat) (σ : rd_S) (hN : 49 ≤ N) (i w : Int32) (h : hp_rg 0 3 i = false ∨ hp_rg 0 2 w = false) : rd_T N (d + 2) yX5_dancer cX5_dancer 3 (some .int) [.ref 33, .int i, .int w] σ (rd_is (some (.int (-1))) σ) := by
  refine rd_start RX5 [.ref 33, .int i, .int w] rfl (by decide +kernel) rfl (Nat.le_of_ble_eq_true rfl) ?_
  refine rr_iloadn_1 dX5_dancer_0 ?_
  refine rr_callSiD (c_X5_isOne N _ _ _) km_X5_105 rfl rfl (Nat.le_of_ble_eq_true rfl) dX5_dancer_1 ?_
  refine rr_if_eq 19 dX5_dancer_4 (by decide) (fun h4 => ?_) (fun h4 => ?_)
  · refine rr_iconst (v := (-1)) dX5_dancer_19 (by decide) ?_
    exact rr_iret dX5_dancer_20 ⟨rfl, rfl⟩
  · refine rr_iloadn_2 dX5_dancer_7 ?_
    refine rr_i2l dX5_dancer_8 ?_
    refine rr_lconst (v := 0) dX5_dancer_9 (by decide) ?_
    refine rr_ldc2 dX5_dancer_10 kc_X5_109 ?_
    refine rr_callSiD (c_in N _ _ _ _ _ (0) (2) rfl rfl) km_X5_62 rfl rfl (Nat.le_of_ble_eq_true rfl) dX5_dancer_13 ?_
    refine rr_if_ne 21 dX5_dancer_16 (by decide) (fun h16 => absurd (by rcases h with h | h; { simp [h] at h4 }; { simp [h] }) h16) (fun h16 => ?_)
    refine rr_iconst (v := (-1)) dX5_dancer_19 (by decide) ?_
    exact rr_iret dX5_dancer_20 ⟨rfl, rfl⟩
set_option maxHeartbeats 4000000 in
set_option maxRecDepth 100000 in
theorem m_dancer_s (N d : Nat) (σ : rd_S) (hN : 49 ≤ N) (c : Nat) (D : sd_D) (kb : Int32) (hw : wf c D) (hk : kd_at σ kb) (hD : md_at σ D) (i w : Int32) (hi : hp_rg 0 3 i = true) (h : hp_rg 0 2 w = true) : rd_T N (d + 2) yX5_dancer cX5_dancer 3 (some .int) [.ref 33, .int i, .int w] σ (rd_is (some (.int (if w = 0 then sd_kind kb i else if w = 1 then sd_place D.1 i else sd_rope D.2.1 i))) σ) := by
  refine rd_start RX5 [.ref 33, .int i, .int w] rfl (by decide +kernel) rfl (Nat.le_of_ble_eq_true rfl) ?_
  obtain ⟨j, hj, rfl⟩ := hp_nat (k := 3) hi
  obtain ⟨x, r, b, a1, a2, a3, a4, a5, a6, a7, a8, a9⟩ := hw
  have hp := (pl_okk x a1 a2 j (by omega)).1
  refine rr_iloadn_1 dX5_dancer_0 ?_
  refine rr_callSiD (c_X5_isOne N _ _ _) km_X5_105 rfl rfl (Nat.le_of_ble_eq_true rfl) dX5_dancer_1 ?_
  refine rr_if_eq 19 dX5_dancer_4 (by decide) (fun h4 => absurd h4 (by simp [hi])) (fun h4 => ?_)
  refine rr_iloadn_2 dX5_dancer_7 ?_
  refine rr_i2l dX5_dancer_8 ?_
  refine rr_lconst (v := 0) dX5_dancer_9 (by decide) ?_
  refine rr_ldc2 dX5_dancer_10 kc_X5_109 ?_
  refine rr_callSiD (c_in N _ _ _ _ _ (0) (2) rfl rfl) km_X5_62 rfl rfl (Nat.le_of_ble_eq_true rfl) dX5_dancer_13 ?_
  refine rr_if_ne 21 dX5_dancer_16 (by decide) (fun h16 => ?_) (fun h16 => absurd h16 (by simp [h]))
  refine rr_iloadn_2 dX5_dancer_21 ?_
  refine rr_if_ne 34 dX5_dancer_22 (by decide) (fun h22 => ?_) (fun h22 => ?_)
  · refine rr_iloadn_2 dX5_dancer_34 ?_
    refine rr_iconst (v := 1) dX5_dancer_35 (by decide) ?_
    refine rr_icmp_ne 47 dX5_dancer_36 (by decide) (fun h36 => ?_) (fun h36 => ?_)
    · refine rr_aloadn_0 dX5_dancer_47 ?_
      refine rr_getr 37 dX5_dancer_48 kf_X5_19 (by omega) rfl rfl rfl ?_
      refine rr_iconst (v := 4) dX5_dancer_51 (by decide) ?_
      refine rr_iloadn_1 dX5_dancer_52 ?_
      refine rr_iadd dX5_dancer_53 ?_
      rw [show (4 : Int32) + nI j = nI (4 + j) from nI_add 4 j]
      refine rr_iald ((4 + j)) dX5_dancer_54 (by omega) rfl rfl (show 4 + j < 12 by omega) ?_
      exact rr_iret dX5_dancer_55 ⟨by first | (rw [if_pos h22, hk j (by omega)]; done) | (rw [if_neg h22, if_pos h36, a5, hp]; done) | (rw [if_neg h22, if_neg h36, hD _ (by omega), md_8 (by omega)]; done), rfl⟩
    · refine rr_aloadn_0 dX5_dancer_39 ?_
      refine rr_iloadn_1 dX5_dancer_40 ?_
      refine rr_callViD (c_plr N _ _ hN D hD a1 a2 a5 (show j < 4 by omega)) km_X5_111 rfl rfl (by omega) rfl (Nat.le_of_ble_eq_true rfl) dX5_dancer_41 ?_
      refine rr_goto 55 dX5_dancer_44 (by decide) ?_
      exact rr_iret dX5_dancer_55 ⟨by first | (rw [if_pos h22, hk j (by omega)]; done) | (rw [if_neg h22, if_pos h36, a5, hp]; done) | (rw [if_neg h22, if_neg h36, hD _ (by omega), md_8 (by omega)]; done), rfl⟩
  · refine rr_aloadn_0 dX5_dancer_25 ?_
    refine rr_getr 34 dX5_dancer_26 kf_X5_7 (by omega) rfl rfl rfl ?_
    refine rr_iloadn_1 dX5_dancer_29 ?_
    refine rr_iald (j) dX5_dancer_30 (by omega) rfl rfl (show j < 4 by omega) ?_
    refine rr_goto 55 dX5_dancer_31 (by decide) ?_
    exact rr_iret dX5_dancer_55 ⟨by first | (rw [if_pos h22, hk j (by omega)]; done) | (rw [if_neg h22, if_pos h36, a5, hp]; done) | (rw [if_neg h22, if_neg h36, hD _ (by omega), md_8 (by omega)]; done), rfl⟩
set_option maxHeartbeats 4000000 in
set_option maxRecDepth 100000 in
theorem m_place_b (N d : Nat) (σ : rd_S) (hN : 49 ≤ N) (i w : Int32) (h : hp_rg 0 3 i = false ∨ hp_rg 0 1 w = false) : rd_T N (d + 2) yX5_place cX5_place 3 (some .int) [.ref 33, .int i, .int w] σ (rd_is (some (.int (-1))) σ) := by
  refine rd_start RX5 [.ref 33, .int i, .int w] rfl (by decide +kernel) rfl (Nat.le_of_ble_eq_true rfl) ?_
  refine rr_iloadn_1 dX5_place_0 ?_
  refine rr_callSiD (c_X5_isOne N _ _ _) km_X5_105 rfl rfl (Nat.le_of_ble_eq_true rfl) dX5_place_1 ?_
  refine rr_if_eq 14 dX5_place_4 (by decide) (fun h4 => ?_) (fun h4 => ?_)
  · refine rr_iconst (v := (-1)) dX5_place_14 (by decide) ?_
    exact rr_iret dX5_place_15 ⟨rfl, rfl⟩
  · refine rr_iloadn_2 dX5_place_7 ?_
    refine rr_callSiD (c_X5_isPart N _ _ _) km_X5_114 rfl rfl (Nat.le_of_ble_eq_true rfl) dX5_place_8 ?_
    refine rr_if_ne 16 dX5_place_11 (by decide) (fun h11 => absurd (by rcases h with h | h; { simp [h] at h4 }; { simp [h] }) h11) (fun h11 => ?_)
    refine rr_iconst (v := (-1)) dX5_place_14 (by decide) ?_
    exact rr_iret dX5_place_15 ⟨rfl, rfl⟩
set_option maxHeartbeats 4000000 in
set_option maxRecDepth 100000 in
theorem m_place_s (N d : Nat) (σ : rd_S) (hN : 49 ≤ N) (c : Nat) (D : sd_D) (hw : wf c D) (hD : md_at σ D) (i w : Int32) (hi : hp_rg 0 3 i = true) (h : hp_rg 0 1 w = true) : rd_T N (d + 2) yX5_place cX5_place 3 (some .int) [.ref 33, .int i, .int w] σ (rd_is (some (.int (if w = 0 then sd_who D.1 i else sd_rope D.2.1 (sd_who D.1 i)))) σ) := by
  refine rd_start RX5 [.ref 33, .int i, .int w] rfl (by decide +kernel) rfl (Nat.le_of_ble_eq_true rfl) ?_
  obtain ⟨j, hj, rfl⟩ := hp_nat (k := 3) hi
  obtain ⟨q, hq, e⟩ := wf_who hw (show j < 4 by omega)
  have e0 : (0 : Int32) + nI j = nI j := by rw [← nI_0, nI_add, Nat.zero_add]
  refine rr_iloadn_1 dX5_place_0 ?_
  refine rr_callSiD (c_X5_isOne N _ _ _) km_X5_105 rfl rfl (Nat.le_of_ble_eq_true rfl) dX5_place_1 ?_
  refine rr_if_eq 14 dX5_place_4 (by decide) (fun h4 => absurd h4 (by simp [hi])) (fun h4 => ?_)
  refine rr_iloadn_2 dX5_place_7 ?_
  refine rr_callSiD (c_X5_isPart N _ _ _) km_X5_114 rfl rfl (Nat.le_of_ble_eq_true rfl) dX5_place_8 ?_
  refine rr_if_ne 16 dX5_place_11 (by decide) (fun h11 => ?_) (fun h11 => absurd h11 (by simp [h]))
  refine rr_iloadn_2 dX5_place_16 ?_
  refine rr_if_ne 31 dX5_place_17 (by decide) (fun h17 => ?_) (fun h17 => ?_)
  · refine rr_aloadn_0 dX5_place_31 ?_
    refine rr_getr 37 dX5_place_32 kf_X5_19 (by omega) rfl rfl rfl ?_
    refine rr_iconst (v := 4) dX5_place_35 (by decide) ?_
    refine rr_aloadn_0 dX5_place_36 ?_
    refine rr_getr 37 dX5_place_37 kf_X5_19 (by omega) rfl rfl rfl ?_
    refine rr_iconst (v := 0) dX5_place_40 (by decide) ?_
    refine rr_iloadn_1 dX5_place_41 ?_
    refine rr_iadd dX5_place_42 ?_
    rw [e0]
    refine rr_iald (j) dX5_place_43 (by omega) rfl rfl (show j < 12 by omega) ?_
    rw [hD j (by omega), md_4 (show j < 4 by omega), e]
    refine rr_iadd dX5_place_44 ?_
    rw [show (4 : Int32) + nI q = nI (4 + q) from nI_add 4 q]
    refine rr_iald ((4 + q)) dX5_place_45 (by omega) rfl rfl (show 4 + q < 12 by omega) ?_
    exact rr_iret dX5_place_46 ⟨by first | (rw [if_pos h17, hD j (by omega), md_4 (show j < 4 by omega)]; done) | (rw [if_neg h17, hD _ (by omega), md_8 hq]; done), rfl⟩
  · refine rr_aloadn_0 dX5_place_20 ?_
    refine rr_getr 37 dX5_place_21 kf_X5_19 (by omega) rfl rfl rfl ?_
    refine rr_iconst (v := 0) dX5_place_24 (by decide) ?_
    refine rr_iloadn_1 dX5_place_25 ?_
    refine rr_iadd dX5_place_26 ?_
    rw [e0]
    refine rr_iald (j) dX5_place_27 (by omega) rfl rfl (show j < 12 by omega) ?_
    refine rr_goto 46 dX5_place_28 (by decide) ?_
    exact rr_iret dX5_place_46 ⟨by first | (rw [if_pos h17, hD j (by omega), md_4 (show j < 4 by omega)]; done) | (rw [if_neg h17, hD _ (by omega), md_8 hq]; done), rfl⟩
set_option maxHeartbeats 4000000 in
set_option maxRecDepth 100000 in
theorem m_count (N d : Nat) (σ : rd_S) (hN : 49 ≤ N) (w : Int32) : rd_T N (d + 0) yX5_count cX5_count 2 (some .int) [.ref 33, .int w] σ (rd_is (some (.int (if w = 0 then σ 33 3 else if w = 1 then σ 37 10 else if w = 2 then σ 37 11 else if w = 3 then σ 33 6 else if w = 4 then σ 33 8 else if w = 5 then σ 33 10 else if w = 6 then σ 33 12 else -1))) σ) := by
  refine rd_start RX5 [.ref 33, .int w] rfl (by decide +kernel) rfl (Nat.le_of_ble_eq_true rfl) ?_
  refine rr_iloadn_1 dX5_count_0 ?_
  rcases rd_sw_0_6 (w) with hs1 | hs1 | hs1 | hs1 | hs1 | hs1 | hs1 | hs1
  · rw [hs1]
    refine rr_tableIn 44 dX5_count_1 (by decide) (by decide) rfl (by decide) ?_
    refine rr_aloadn_0 dX5_count_44 ?_
    refine rr_geti dX5_count_45 kf_X5_55 (by omega) rfl rfl ?_
    exact rr_iret dX5_count_48 ⟨by first | (subst hs1; rfl) | (subst hs1; simp; done) | (obtain ⟨-, a0, a1, a2, a3, a4, a5, a6⟩ := hs1; simp [a0, a1, a2, a3, a4, a5, a6]), rfl⟩
  · rw [hs1]
    refine rr_tableIn 49 dX5_count_1 (by decide) (by decide) rfl (by decide) ?_
    refine rr_aloadn_0 dX5_count_49 ?_
    refine rr_getr 37 dX5_count_50 kf_X5_19 (by omega) rfl rfl rfl ?_
    refine rr_bipush (v := 10) dX5_count_53 (by decide) ?_
    refine rr_iald (10) dX5_count_55 (by omega) rfl rfl (by decide) ?_
    exact rr_iret dX5_count_56 ⟨by first | (subst hs1; rfl) | (subst hs1; simp; done) | (obtain ⟨-, a0, a1, a2, a3, a4, a5, a6⟩ := hs1; simp [a0, a1, a2, a3, a4, a5, a6]), rfl⟩
  · rw [hs1]
    refine rr_tableIn 57 dX5_count_1 (by decide) (by decide) rfl (by decide) ?_
    refine rr_aloadn_0 dX5_count_57 ?_
    refine rr_getr 37 dX5_count_58 kf_X5_19 (by omega) rfl rfl rfl ?_
    refine rr_bipush (v := 11) dX5_count_61 (by decide) ?_
    refine rr_iald (11) dX5_count_63 (by omega) rfl rfl (by decide) ?_
    exact rr_iret dX5_count_64 ⟨by first | (subst hs1; rfl) | (subst hs1; simp; done) | (obtain ⟨-, a0, a1, a2, a3, a4, a5, a6⟩ := hs1; simp [a0, a1, a2, a3, a4, a5, a6]), rfl⟩
  · rw [hs1]
    refine rr_tableIn 65 dX5_count_1 (by decide) (by decide) rfl (by decide) ?_
    refine rr_aloadn_0 dX5_count_65 ?_
    refine rr_geti dX5_count_66 kf_X5_68 (by omega) rfl rfl ?_
    exact rr_iret dX5_count_69 ⟨by first | (subst hs1; rfl) | (subst hs1; simp; done) | (obtain ⟨-, a0, a1, a2, a3, a4, a5, a6⟩ := hs1; simp [a0, a1, a2, a3, a4, a5, a6]), rfl⟩
  · rw [hs1]
    refine rr_tableIn 70 dX5_count_1 (by decide) (by decide) rfl (by decide) ?_
    refine rr_aloadn_0 dX5_count_70 ?_
    refine rr_geti dX5_count_71 kf_X5_71 (by omega) rfl rfl ?_
    exact rr_iret dX5_count_74 ⟨by first | (subst hs1; rfl) | (subst hs1; simp; done) | (obtain ⟨-, a0, a1, a2, a3, a4, a5, a6⟩ := hs1; simp [a0, a1, a2, a3, a4, a5, a6]), rfl⟩
  · rw [hs1]
    refine rr_tableIn 75 dX5_count_1 (by decide) (by decide) rfl (by decide) ?_
    refine rr_aloadn_0 dX5_count_75 ?_
    refine rr_geti dX5_count_76 kf_X5_74 (by omega) rfl rfl ?_
    exact rr_iret dX5_count_79 ⟨by first | (subst hs1; rfl) | (subst hs1; simp; done) | (obtain ⟨-, a0, a1, a2, a3, a4, a5, a6⟩ := hs1; simp [a0, a1, a2, a3, a4, a5, a6]), rfl⟩
  · rw [hs1]
    refine rr_tableIn 80 dX5_count_1 (by decide) (by decide) rfl (by decide) ?_
    refine rr_aloadn_0 dX5_count_80 ?_
    refine rr_geti dX5_count_81 kf_X5_81 (by omega) rfl rfl ?_
    exact rr_iret dX5_count_84 ⟨by first | (subst hs1; rfl) | (subst hs1; simp; done) | (obtain ⟨-, a0, a1, a2, a3, a4, a5, a6⟩ := hs1; simp [a0, a1, a2, a3, a4, a5, a6]), rfl⟩
  · refine rr_tableOut 85 dX5_count_1 hs1.1 (by decide) ?_
    refine rr_iconst (v := (-1)) dX5_count_85 (by decide) ?_
    exact rr_iret dX5_count_86 ⟨by first | (subst hs1; rfl) | (subst hs1; simp; done) | (obtain ⟨-, a0, a1, a2, a3, a4, a5, a6⟩ := hs1; simp [a0, a1, a2, a3, a4, a5, a6]), rfl⟩
set_option maxHeartbeats 4000000 in
set_option maxRecDepth 100000 in
theorem m_write_b (N d : Nat) (σ : rd_S) (hN : 49 ≤ N) (x : Int32) (h : hp_rg 32 126 x = false) : rd_T N (d + 1) yX5_write cX5_write 2 (some .int) [.ref 33, .int x] σ (rd_is (some (.int (-1))) σ) := by
  refine rd_start RX5 [.ref 33, .int x] rfl (by decide +kernel) rfl (Nat.le_of_ble_eq_true rfl) ?_
  refine rr_iloadn_1 dX5_write_0 ?_
  refine rr_i2l dX5_write_1 ?_
  refine rr_ldc2 dX5_write_2 kc_X5_77 ?_
  refine rr_ldc2 dX5_write_5 kc_X5_79 ?_
  refine rr_callSiD (c_in N _ _ _ _ _ (32) (126) rfl rfl) km_X5_62 rfl rfl (Nat.le_of_ble_eq_true rfl) dX5_write_8 ?_
  refine rr_if_ne 16 dX5_write_11 (by decide) (fun h11 => absurd (by simp [h]) h11) (fun h11 => ?_)
  refine rr_iconst (v := (-1)) dX5_write_14 (by decide) ?_
  exact rr_iret dX5_write_15 ⟨rfl, rfl⟩
set_option maxHeartbeats 4000000 in
set_option maxRecDepth 100000 in
theorem m_write_f (N d : Nat) (σ : rd_S) (hN : 49 ≤ N) (x : Int32) (h : hp_rg 32 126 x = true) (hn : σ 33 12 = nI 200) : rd_T N (d + 1) yX5_write cX5_write 2 (some .int) [.ref 33, .int x] σ (rd_is (some (.int (-3))) σ) := by
  refine rd_start RX5 [.ref 33, .int x] rfl (by decide +kernel) rfl (Nat.le_of_ble_eq_true rfl) ?_
  refine rr_iloadn_1 dX5_write_0 ?_
  refine rr_i2l dX5_write_1 ?_
  refine rr_ldc2 dX5_write_2 kc_X5_77 ?_
  refine rr_ldc2 dX5_write_5 kc_X5_79 ?_
  refine rr_callSiD (c_in N _ _ _ _ _ (32) (126) rfl rfl) km_X5_62 rfl rfl (Nat.le_of_ble_eq_true rfl) dX5_write_8 ?_
  refine rr_if_ne 16 dX5_write_11 (by decide) (fun h11 => ?_) (fun h11 => absurd h11 (by simp [h]))
  refine rr_aloadn_0 dX5_write_16 ?_
  refine rr_geti dX5_write_17 kf_X5_81 (by omega) rfl rfl ?_
  refine rr_sipush (v := 200) dX5_write_20 (by decide) ?_
  refine rr_icmp_ne 29 dX5_write_23 (by decide) (fun h23 => absurd (by rw [hn]; rfl) h23) (fun h23 => ?_)
  refine rr_bipush (v := (-3)) dX5_write_26 (by decide) ?_
  exact rr_iret dX5_write_28 ⟨rfl, rfl⟩
set_option maxHeartbeats 4000000 in
set_option maxRecDepth 100000 in
theorem m_write_s (N d : Nat) (σ : rd_S) (hN : 49 ≤ N) (x : Int32) (h : hp_rg 32 126 x = true) (n : Nat) (hn : σ 33 12 = nI n) (h2 : n < 200) : rd_T N (d + 1) yX5_write cX5_write 2 (some .int) [.ref 33, .int x] σ (rd_is (some (.int (nI (n + 1)))) (rd_u2 (rd_u2 σ 41 n x) 33 12 (nI (n + 1)))) := by
  refine rd_start RX5 [.ref 33, .int x] rfl (by decide +kernel) rfl (Nat.le_of_ble_eq_true rfl) ?_
  refine rr_iloadn_1 dX5_write_0 ?_
  refine rr_i2l dX5_write_1 ?_
  refine rr_ldc2 dX5_write_2 kc_X5_77 ?_
  refine rr_ldc2 dX5_write_5 kc_X5_79 ?_
  refine rr_callSiD (c_in N _ _ _ _ _ (32) (126) rfl rfl) km_X5_62 rfl rfl (Nat.le_of_ble_eq_true rfl) dX5_write_8 ?_
  refine rr_if_ne 16 dX5_write_11 (by decide) (fun h11 => ?_) (fun h11 => absurd h11 (by simp [h]))
  refine rr_aloadn_0 dX5_write_16 ?_
  refine rr_geti dX5_write_17 kf_X5_81 (by omega) rfl rfl ?_
  refine rr_sipush (v := 200) dX5_write_20 (by decide) ?_
  refine rr_icmp_ne 29 dX5_write_23 (by decide) (fun h23 => ?_) (fun h23 => absurd ((nI_eq8 (a := n) (b := 200) (by omega) (by omega)).mp (by rw [← hn]; exact h23)) (by omega))
  refine rr_aloadn_0 dX5_write_29 ?_
  refine rr_getr 41 dX5_write_30 kf_X5_31 (by omega) rfl rfl rfl ?_
  refine rr_aloadn_0 dX5_write_33 ?_
  refine rr_geti dX5_write_34 kf_X5_81 (by omega) rfl rfl ?_
  refine rr_iloadn_1 dX5_write_37 ?_
  refine rr_iast (n) dX5_write_38 (by omega) rfl hn h2 ?_
  refine rr_aloadn_0 dX5_write_39 ?_
  refine rr_dup dX5_write_40 rfl ?_
  refine rr_geti dX5_write_41 kf_X5_81 (by omega) rfl rfl ?_
  refine rr_iconst (v := 1) dX5_write_44 (by decide) ?_
  refine rr_iadd dX5_write_45 ?_
  rw [show rd_u2 σ 41 n x 33 12 = nI n from by rw [u2_off (by omega)]; exact hn, nI_s]
  refine rr_puti dX5_write_46 kf_X5_81 if_5_12 (by omega) rfl rfl ?_
  refine rr_aloadn_0 dX5_write_49 ?_
  refine rr_geti dX5_write_50 kf_X5_81 (by omega) rfl rfl ?_
  exact rr_iret dX5_write_53 ⟨by rw [u2_at], rfl⟩
set_option maxHeartbeats 4000000 in
set_option maxRecDepth 100000 in
theorem m_wipe (N d : Nat) (σ : rd_S) (hN : 49 ≤ N) : rd_T N (d + 0) yX5_wipe cX5_wipe 2 (some .int) [.ref 33] σ (rd_is (some (.int (σ 33 12))) (rd_u2 σ 33 12 0)) := by
  refine rd_start RX5 [.ref 33, .retAddr 0] rfl (by decide +kernel) rfl (Nat.le_of_ble_eq_true rfl) ?_
  refine rr_aloadn_0 dX5_wipe_0 ?_
  refine rr_geti dX5_wipe_1 kf_X5_81 (by omega) rfl rfl ?_
  refine rr_istoren_1 dX5_wipe_4 rfl ?_
  refine rr_aloadn_0 dX5_wipe_5 ?_
  refine rr_iconst (v := 0) dX5_wipe_6 (by decide) ?_
  refine rr_puti dX5_wipe_7 kf_X5_81 if_5_12 (by omega) rfl rfl ?_
  refine rr_iloadn_1 dX5_wipe_10 ?_
  exact rr_iret dX5_wipe_11 ⟨rfl, rfl⟩
set_option maxHeartbeats 4000000 in
set_option maxRecDepth 100000 in
theorem m_forget (N d : Nat) (σ : rd_S) (hN : 49 ≤ N) : rd_T N (d + 0) yX5_forget cX5_forget 2 (some .int) [.ref 33] σ (rd_is (some (.int (σ 33 10))) (rd_u2 σ 33 10 0)) := by
  refine rd_start RX5 [.ref 33, .retAddr 0] rfl (by decide +kernel) rfl (Nat.le_of_ble_eq_true rfl) ?_
  refine rr_aloadn_0 dX5_forget_0 ?_
  refine rr_geti dX5_forget_1 kf_X5_74 (by omega) rfl rfl ?_
  refine rr_istoren_1 dX5_forget_4 rfl ?_
  refine rr_aloadn_0 dX5_forget_5 ?_
  refine rr_iconst (v := 0) dX5_forget_6 (by decide) ?_
  refine rr_puti dX5_forget_7 kf_X5_74 if_5_10 (by omega) rfl rfl ?_
  refine rr_iloadn_1 dX5_forget_10 ?_
  exact rr_iret dX5_forget_11 ⟨rfl, rfl⟩
set_option maxHeartbeats 4000000 in
set_option maxRecDepth 100000 in
theorem m_see_b (N d : Nat) (σ : rd_S) (hN : 49 ≤ N) (n u l : Int32) (h : hp_rg 0 12 n = false ∨ hp_fr u l = false) : rd_T N (d + 2) yX5_see cX5_see 4 (some .int) [.ref 33, .int n, .int u, .int l] σ (rd_is (some (.int (-1))) σ) := by
  refine rd_start RX5 [.ref 33, .int n, .int u, .int l] rfl (by decide +kernel) rfl (Nat.le_of_ble_eq_true rfl) ?_
  refine rr_iloadn_1 dX5_see_0 ?_
  refine rr_i2l dX5_see_1 ?_
  refine rr_lconst (v := 0) dX5_see_2 (by decide) ?_
  refine rr_ldc2 dX5_see_3 kc_X5_203 ?_
  refine rr_callSiD (c_in N _ _ _ _ _ (0) (12) rfl rfl) km_X5_62 rfl rfl (Nat.le_of_ble_eq_true rfl) dX5_see_6 ?_
  refine rr_if_eq 20 dX5_see_9 (by decide) (fun h9 => ?_) (fun h9 => ?_)
  · refine rr_iconst (v := (-1)) dX5_see_20 (by decide) ?_
    exact rr_iret dX5_see_21 ⟨rfl, rfl⟩
  · refine rr_iloadn_2 dX5_see_12 ?_
    refine rr_iloadn_3 dX5_see_13 ?_
    refine rr_callSiD (c_X5_isFraction N _ _ _ _) km_X5_195 rfl rfl (Nat.le_of_ble_eq_true rfl) dX5_see_14 ?_
    refine rr_if_ne 22 dX5_see_17 (by decide) (fun h17 => absurd (by rcases h with h | h; { simp [h] at h9 }; { simp [h] }) h17) (fun h17 => ?_)
    refine rr_iconst (v := (-1)) dX5_see_20 (by decide) ?_
    exact rr_iret dX5_see_21 ⟨rfl, rfl⟩
set_option maxHeartbeats 4000000 in
set_option maxRecDepth 100000 in
theorem m_see_f (N d : Nat) (σ : rd_S) (hN : 49 ≤ N) (n u l : Int32) (h1 : hp_rg 0 12 n = true) (h2 : hp_fr u l = true) (hs : σ 33 10 = nI 6) : rd_T N (d + 2) yX5_see cX5_see 4 (some .int) [.ref 33, .int n, .int u, .int l] σ (rd_is (some (.int (-3))) σ) := by
  refine rd_start RX5 [.ref 33, .int n, .int u, .int l] rfl (by decide +kernel) rfl (Nat.le_of_ble_eq_true rfl) ?_
  refine rr_iloadn_1 dX5_see_0 ?_
  refine rr_i2l dX5_see_1 ?_
  refine rr_lconst (v := 0) dX5_see_2 (by decide) ?_
  refine rr_ldc2 dX5_see_3 kc_X5_203 ?_
  refine rr_callSiD (c_in N _ _ _ _ _ (0) (12) rfl rfl) km_X5_62 rfl rfl (Nat.le_of_ble_eq_true rfl) dX5_see_6 ?_
  refine rr_if_eq 20 dX5_see_9 (by decide) (fun h9 => absurd h9 (by simp [h1])) (fun h9 => ?_)
  refine rr_iloadn_2 dX5_see_12 ?_
  refine rr_iloadn_3 dX5_see_13 ?_
  refine rr_callSiD (c_X5_isFraction N _ _ _ _) km_X5_195 rfl rfl (Nat.le_of_ble_eq_true rfl) dX5_see_14 ?_
  refine rr_if_ne 22 dX5_see_17 (by decide) (fun h17 => ?_) (fun h17 => absurd h17 (by simp [h2]))
  refine rr_aloadn_0 dX5_see_22 ?_
  refine rr_geti dX5_see_23 kf_X5_74 (by omega) rfl rfl ?_
  refine rr_bipush (v := 6) dX5_see_26 (by decide) ?_
  refine rr_icmp_ne 34 dX5_see_28 (by decide) (fun h28 => absurd (by rw [hs]; rfl) h28) (fun h28 => ?_)
  refine rr_bipush (v := (-3)) dX5_see_31 (by decide) ?_
  exact rr_iret dX5_see_33 ⟨rfl, rfl⟩
set_option maxHeartbeats 4000000 in
set_option maxRecDepth 100000 in
theorem m_see_s (N d : Nat) (σ : rd_S) (hN : 49 ≤ N) (n u l : Int32) (h1 : hp_rg 0 12 n = true) (h2 : hp_fr u l = true) (sc : Nat) (hs : σ 33 10 = nI sc) (hsc : sc < 6) : rd_T N (d + 2) yX5_see cX5_see 4 (some .int) [.ref 33, .int n, .int u, .int l] σ (rd_is (some (.int (nI (sc + 1)))) (rd_u2 (rd_u2 (rd_u2 (rd_u2 σ 40 (3 * sc) n) 40 (3 * sc + 1) u) 40 (3 * sc + 2) l) 33 10 (nI (sc + 1)))) := by
  refine rd_start RX5 [.ref 33, .int n, .int u, .int l] rfl (by decide +kernel) rfl (Nat.le_of_ble_eq_true rfl) ?_
  have e3 : (3 : Int32) * nI sc = nI (3 * sc) := pk_mul 3 sc
  have g1 : ∀ a : Int32, rd_u2 σ 40 (3 * sc) a 33 10 = nI sc := fun a => by rw [u2_off (by omega)]; exact hs
  have g2 : ∀ a b : Int32, rd_u2 (rd_u2 σ 40 (3 * sc) a) 40 (3 * sc + 1) b 33 10 = nI sc := fun a b => by rw [u2_off (by omega)]; exact g1 a
  have g3 : ∀ a b e : Int32, rd_u2 (rd_u2 (rd_u2 σ 40 (3 * sc) a) 40 (3 * sc + 1) b) 40 (3 * sc + 2) e 33 10 = nI sc := fun a b e => by rw [u2_off (by omega)]; exact g2 a b
  refine rr_iloadn_1 dX5_see_0 ?_
  refine rr_i2l dX5_see_1 ?_
  refine rr_lconst (v := 0) dX5_see_2 (by decide) ?_
  refine rr_ldc2 dX5_see_3 kc_X5_203 ?_
  refine rr_callSiD (c_in N _ _ _ _ _ (0) (12) rfl rfl) km_X5_62 rfl rfl (Nat.le_of_ble_eq_true rfl) dX5_see_6 ?_
  refine rr_if_eq 20 dX5_see_9 (by decide) (fun h9 => absurd h9 (by simp [h1])) (fun h9 => ?_)
  refine rr_iloadn_2 dX5_see_12 ?_
  refine rr_iloadn_3 dX5_see_13 ?_
  refine rr_callSiD (c_X5_isFraction N _ _ _ _) km_X5_195 rfl rfl (Nat.le_of_ble_eq_true rfl) dX5_see_14 ?_
  refine rr_if_ne 22 dX5_see_17 (by decide) (fun h17 => ?_) (fun h17 => absurd h17 (by simp [h2]))
  refine rr_aloadn_0 dX5_see_22 ?_
  refine rr_geti dX5_see_23 kf_X5_74 (by omega) rfl rfl ?_
  refine rr_bipush (v := 6) dX5_see_26 (by decide) ?_
  refine rr_icmp_ne 34 dX5_see_28 (by decide) (fun h28 => ?_) (fun h28 => absurd ((nI_eq8 (a := sc) (b := 6) (by omega) (by omega)).mp (by rw [← hs]; exact h28)) (by omega))
  refine rr_aloadn_0 dX5_see_34 ?_
  refine rr_getr 40 dX5_see_35 kf_X5_28 (by omega) rfl rfl rfl ?_
  refine rr_iconst (v := 3) dX5_see_38 (by decide) ?_
  refine rr_aloadn_0 dX5_see_39 ?_
  refine rr_geti dX5_see_40 kf_X5_74 (by omega) rfl rfl ?_
  refine rr_imul dX5_see_43 ?_
  rw [hs, e3]
  refine rr_iloadn_1 dX5_see_44 ?_
  refine rr_iast ((3 * sc)) dX5_see_45 (by omega) rfl rfl (show 3 * sc < 18 by omega) ?_
  refine rr_aloadn_0 dX5_see_46 ?_
  refine rr_getr 40 dX5_see_47 kf_X5_28 (by omega) rfl rfl rfl ?_
  refine rr_iconst (v := 3) dX5_see_50 (by decide) ?_
  refine rr_aloadn_0 dX5_see_51 ?_
  refine rr_geti dX5_see_52 kf_X5_74 (by omega) rfl rfl ?_
  refine rr_imul dX5_see_55 ?_
  refine rr_iconst (v := 1) dX5_see_56 (by decide) ?_
  refine rr_iadd dX5_see_57 ?_
  rw [g1, e3, show nI (3 * sc) + 1 = nI (3 * sc + 1) from nI_add _ 1]
  refine rr_iloadn_2 dX5_see_58 ?_
  refine rr_iast ((3 * sc + 1)) dX5_see_59 (by omega) rfl rfl (show 3 * sc + 1 < 18 by omega) ?_
  refine rr_aloadn_0 dX5_see_60 ?_
  refine rr_getr 40 dX5_see_61 kf_X5_28 (by omega) rfl rfl rfl ?_
  refine rr_iconst (v := 3) dX5_see_64 (by decide) ?_
  refine rr_aloadn_0 dX5_see_65 ?_
  refine rr_geti dX5_see_66 kf_X5_74 (by omega) rfl rfl ?_
  refine rr_imul dX5_see_69 ?_
  refine rr_iconst (v := 2) dX5_see_70 (by decide) ?_
  refine rr_iadd dX5_see_71 ?_
  rw [g2, e3, show nI (3 * sc) + 2 = nI (3 * sc + 2) from nI_add _ 2]
  refine rr_iloadn_3 dX5_see_72 ?_
  refine rr_iast ((3 * sc + 2)) dX5_see_73 (by omega) rfl rfl (show 3 * sc + 2 < 18 by omega) ?_
  refine rr_aloadn_0 dX5_see_74 ?_
  refine rr_dup dX5_see_75 rfl ?_
  refine rr_geti dX5_see_76 kf_X5_74 (by omega) rfl rfl ?_
  refine rr_iconst (v := 1) dX5_see_79 (by decide) ?_
  refine rr_iadd dX5_see_80 ?_
  rw [g3, nI_s]
  refine rr_puti dX5_see_81 kf_X5_74 if_5_10 (by omega) rfl rfl ?_
  refine rr_aloadn_0 dX5_see_84 ?_
  refine rr_geti dX5_see_85 kf_X5_74 (by omega) rfl rfl ?_
  exact rr_iret dX5_see_88 ⟨by rw [u2_at], rfl⟩
