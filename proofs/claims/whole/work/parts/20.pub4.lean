theorem rd_sw_0_6 (x : Int32) : x = 0 ∨ x = 1 ∨ x = 2 ∨ x = 3 ∨ x = 4 ∨ x = 5 ∨ x = 6 ∨ ((x.toInt < 0 ∨ 6 < x.toInt) ∧ ¬ x = 0 ∧ ¬ x = 1 ∧ ¬ x = 2 ∧ ¬ x = 3 ∧ ¬ x = 4 ∧ ¬ x = 5 ∧ ¬ x = 6) := by
  by_cases h : x.toInt < 0 ∨ 6 < x.toInt
  · refine Or.inr (Or.inr (Or.inr (Or.inr (Or.inr (Or.inr (Or.inr (⟨h, ?_, ?_, ?_, ?_, ?_, ?_, ?_⟩))))))) <;> (intro e; subst e; revert h; decide)
  · have h1 : x.toInt = 0 ∨ x.toInt = 1 ∨ x.toInt = 2 ∨ x.toInt = 3 ∨ x.toInt = 4 ∨ x.toInt = 5 ∨ x.toInt = 6 := by omega
    rcases h1 with h1 | h1 | h1 | h1 | h1 | h1 | h1
    · exact Or.inl (Int32.toInt_inj.mp h1)
    · exact Or.inr (Or.inl (Int32.toInt_inj.mp h1))
    · exact Or.inr (Or.inr (Or.inl (Int32.toInt_inj.mp h1)))
    · exact Or.inr (Or.inr (Or.inr (Or.inl (Int32.toInt_inj.mp h1))))
    · exact Or.inr (Or.inr (Or.inr (Or.inr (Or.inl (Int32.toInt_inj.mp h1)))))
    · exact Or.inr (Or.inr (Or.inr (Or.inr (Or.inr (Or.inl (Int32.toInt_inj.mp h1))))))
    · exact Or.inr (Or.inr (Or.inr (Or.inr (Or.inr (Or.inr (Or.inl (Int32.toInt_inj.mp h1)))))))
set_option maxHeartbeats 4000000 in
set_option maxRecDepth 100000 in
theorem c_count (N d : Nat) (σ : rd_S) (hN : 33 ≤ N) (w : Int32) : rd_T N (d + 0) yX4_count cX4_count 2 (some .int) [.ref 0, .int w] σ (rd_is (some (.int (if w = 0 then σ 0 13 else if w = 1 then σ 3 5 else if w = 2 then (if 0 ≤ σ 3 4 then σ 3 4 else 2) else if w = 3 then σ 5 2 else if w = 4 then σ 15 2 else if w = 5 then σ 0 10 else if w = 6 then σ 1 1 else -1))) σ) := by
  refine rd_start RX4 [.ref 0, .int w] rfl (by decide +kernel) rfl (Nat.le_of_ble_eq_true rfl) ?_
  refine rr_iloadn_1 dX4_count_0 ?_
  rcases rd_sw_0_6 (w) with hs1 | hs1 | hs1 | hs1 | hs1 | hs1 | hs1 | hs1
  · rw [hs1]
    refine rr_tableIn 44 dX4_count_1 (by decide) (by decide) rfl (by decide) ?_
    refine rr_aloadn_0 dX4_count_44 ?_
    refine rr_geti dX4_count_45 kf_X4_90 (by omega) rfl rfl ?_
    exact rr_iret dX4_count_48 ⟨by first | (subst hs1; rfl) | (subst hs1; simp; done) | (obtain ⟨-, a0, a1, a2, a3, a4, a5, a6⟩ := hs1; simp [a0, a1, a2, a3, a4, a5, a6]), rfl⟩
  · rw [hs1]
    refine rr_tableIn 49 dX4_count_1 (by decide) (by decide) rfl (by decide) ?_
    refine rr_aloadn_0 dX4_count_49 ?_
    refine rr_getr 3 dX4_count_50 kf_X4_19 (by omega) rfl rfl rfl ?_
    refine rr_geti dX4_count_53 kf_X4_183 (by omega) rfl rfl ?_
    exact rr_iret dX4_count_56 ⟨by first | (subst hs1; rfl) | (subst hs1; simp; done) | (obtain ⟨-, a0, a1, a2, a3, a4, a5, a6⟩ := hs1; simp [a0, a1, a2, a3, a4, a5, a6]), rfl⟩
  · rw [hs1]
    refine rr_tableIn 57 dX4_count_1 (by decide) (by decide) rfl (by decide) ?_
    refine rr_aloadn_0 dX4_count_57 ?_
    refine rr_getr 3 dX4_count_58 kf_X4_19 (by omega) rfl rfl rfl ?_
    refine rr_geti dX4_count_61 kf_X4_233 (by omega) rfl rfl ?_
    refine rr_if_ge 71 dX4_count_64 (by decide) (fun h64 => ?_) (fun h64 => ?_)
    · refine rr_aloadn_0 dX4_count_71 ?_
      refine rr_getr 3 dX4_count_72 kf_X4_19 (by omega) rfl rfl rfl ?_
      refine rr_geti dX4_count_75 kf_X4_233 (by omega) rfl rfl ?_
      exact rr_iret dX4_count_78 ⟨by first | (subst hs1; simp [h64]; done), rfl⟩
    · refine rr_iconst (v := 2) dX4_count_67 (by decide) ?_
      refine rr_goto 78 dX4_count_68 (by decide) ?_
      exact rr_iret dX4_count_78 ⟨by first | (subst hs1; simp [h64]; done), rfl⟩
  · rw [hs1]
    refine rr_tableIn 79 dX4_count_1 (by decide) (by decide) rfl (by decide) ?_
    refine rr_aloadn_0 dX4_count_79 ?_
    refine rr_getr 5 dX4_count_80 kf_X4_31 (by omega) rfl rfl rfl ?_
    refine rr_geti dX4_count_83 kf_X4_151 (by omega) rfl rfl ?_
    exact rr_iret dX4_count_86 ⟨by first | (subst hs1; rfl) | (subst hs1; simp; done) | (obtain ⟨-, a0, a1, a2, a3, a4, a5, a6⟩ := hs1; simp [a0, a1, a2, a3, a4, a5, a6]), rfl⟩
  · rw [hs1]
    refine rr_tableIn 87 dX4_count_1 (by decide) (by decide) rfl (by decide) ?_
    refine rr_aloadn_0 dX4_count_87 ?_
    refine rr_getr 15 dX4_count_88 kf_X4_35 (by omega) rfl rfl rfl ?_
    refine rr_geti dX4_count_91 kf_X4_151 (by omega) rfl rfl ?_
    exact rr_iret dX4_count_94 ⟨by first | (subst hs1; rfl) | (subst hs1; simp; done) | (obtain ⟨-, a0, a1, a2, a3, a4, a5, a6⟩ := hs1; simp [a0, a1, a2, a3, a4, a5, a6]), rfl⟩
  · rw [hs1]
    refine rr_tableIn 95 dX4_count_1 (by decide) (by decide) rfl (by decide) ?_
    refine rr_aloadn_0 dX4_count_95 ?_
    refine rr_geti dX4_count_96 kf_X4_190 (by omega) rfl rfl ?_
    exact rr_iret dX4_count_99 ⟨by first | (subst hs1; rfl) | (subst hs1; simp; done) | (obtain ⟨-, a0, a1, a2, a3, a4, a5, a6⟩ := hs1; simp [a0, a1, a2, a3, a4, a5, a6]), rfl⟩
  · rw [hs1]
    refine rr_tableIn 100 dX4_count_1 (by decide) (by decide) rfl (by decide) ?_
    refine rr_aloadn_0 dX4_count_100 ?_
    refine rr_getr 1 dX4_count_101 kf_X4_10 (by omega) rfl rfl rfl ?_
    refine rr_geti dX4_count_104 kf_X4_84 (by omega) rfl rfl ?_
    exact rr_iret dX4_count_107 ⟨by first | (subst hs1; rfl) | (subst hs1; simp; done) | (obtain ⟨-, a0, a1, a2, a3, a4, a5, a6⟩ := hs1; simp [a0, a1, a2, a3, a4, a5, a6]), rfl⟩
  · refine rr_tableOut 108 dX4_count_1 hs1.1 (by decide) ?_
    refine rr_iconst (v := (-1)) dX4_count_108 (by decide) ?_
    exact rr_iret dX4_count_109 ⟨by first | (subst hs1; rfl) | (subst hs1; simp; done) | (obtain ⟨-, a0, a1, a2, a3, a4, a5, a6⟩ := hs1; simp [a0, a1, a2, a3, a4, a5, a6]), rfl⟩
def ev_d (z : Int32) (k : Nat) : Int32 := ((fun x : Int64 => x * x - x * x / 65521 * 65521) (7919 * z.toInt64 + 6151 * (nI k).toInt64 + 1)).toInt32
def ev_1 (kb w : Int32) (D : sd_D) : sd_D := (sd_st D (w - w / 4 * 4) kb).getD (sr_rest D kb)
def ev_2 (w : Int32) (D : sd_D) : sd_D := if w / 4 - w / 4 / 8 * 8 = 0 then sd_xch D (sd_who D.1 0) (sd_who D.1 2) else D
def ev_t (kb w : Int32) (D : sd_D) : Nat := match sd_st D (w - w / 4 * 4) kb with | none => 1 | some _ => 0
def ev_go (kb z : Int32) : Nat → Nat → sd_D × Nat × Nat → sd_D × Nat × Nat
  | 0, _, X => X
  | m + 1, k, X => ev_go kb z m (k + 1) (ev_2 (ev_d z k) (ev_1 kb (ev_d z k) X.1), X.2.1 + (if (ev_2 (ev_d z k) (ev_1 kb (ev_d z k) X.1)).2.2.1 = 0 then 1 else 0), X.2.2 + ev_t kb (ev_d z k) X.1)
theorem c_step_r (N d o : Nat) (σ : rd_S) (kb : Int32) (ho : o < N) (hk : rd_kd o = 3) : ∃ r, rd_T N (d + 2) yX3_step cX3_step 4 (some .boolean) [.ref o, .int 3, .int kb] σ (rd_is (some (.int r)) (sd_wr σ o (sr_rest (sd_rd σ o) kb))) := by
  rcases h : sd_st (sd_rd σ o) 3 kb with _ | E
  · refine ⟨0, ?_⟩
    rw [sr_rest, h]
    show rd_T N (d + 2) yX3_step cX3_step 4 (some .boolean) [.ref o, .int 3, .int kb] σ (rd_is (some (.int 0)) (sd_wr σ o (sd_rd σ o)))
    rw [sd_wr_id]
    exact c_step_n N d o σ 3 kb ho hk h
  · refine ⟨1, ?_⟩
    rw [sr_rest, h]
    exact c_step_s N d o σ 3 kb ho hk h
theorem ev_go_s (kb z : Int32) (m k : Nat) (D : sd_D) (zs ts : Nat) {E F : sd_D} {t y : Nat} (h1 : ev_1 kb (ev_d z k) D = E) (h2 : ev_2 (ev_d z k) E = F) (h3 : ev_t kb (ev_d z k) D = t) (h4 : (if F.2.2.1 = 0 then 1 else 0) = y) : ev_go kb z (m + 1) k (D, zs, ts) = ev_go kb z m (k + 1) (F, zs + y, ts + t) := by
  subst h1; subst h2; subst h3; subst h4
  rfl
set_option maxHeartbeats 4000000 in
set_option maxRecDepth 100000 in
theorem lp_evening (N d : Nat) (hN : 33 ≤ N) (σ : rd_S) (z w : Int32) (n : Nat) (hn : n ≤ 60) : ∀ (m k : Nat) (X : sd_D × Nat × Nat) (v : Value), k + m = n → rd_W N (d + 4) RX4 cX4_evening 8 (some .int) 53 [.ref 0, .int z, .int (nI n), .int w, .int (nI X.2.1), .int (nI X.2.2), .int (nI k), v] [] (sd_wr σ 4 X.1) (fun r s => r = some (.int ((fun Y : sd_D × Nat × Nat => if w = 0 then nI Y.2.1 else if w = 1 then nI Y.2.2 else sd_who Y.1.1 0) (ev_go (σ 0 11) z m k X))) ∧ cs_eq s σ) := by
  intro m
  induction m with
  | zero =>
    intro k X v hk
    obtain rfl : k = n := hk
    refine rr_iload_6 dX4_evening_53 ?_
    refine rr_iloadn_2 dX4_evening_55 ?_
    refine rr_icmp_ge 153 dX4_evening_56 (by decide) (fun h56 => ?_) (fun h56 => absurd (nI_le (Nat.le_refl _) (by omega)) h56)
    refine rr_iloadn_3 dX4_evening_153 ?_
    refine rr_if_ne 160 dX4_evening_154 (by decide) (fun h154 => ?_) (fun h154 => ?_)
    · refine rr_iloadn_3 dX4_evening_160 ?_
      refine rr_iconst (v := 1) dX4_evening_161 (by decide) ?_
      refine rr_icmp_ne 170 dX4_evening_162 (by decide) (fun h162 => ?_) (fun h162 => ?_)
      · refine rr_aloadn_0 dX4_evening_170 ?_
        refine rr_getr 4 dX4_evening_171 kf_X4_23 (by omega) rfl rfl rfl ?_
        refine rr_iconst (v := 0) dX4_evening_174 (by decide) ?_
        refine rr_callViD (c_X3_whoAt N _ _ _ _ (by omega) rfl) km_X4_110 rfl rfl (by omega) rfl (Nat.le_of_ble_eq_true rfl) dX4_evening_175 ?_
        exact rr_iret dX4_evening_178 ⟨by first | (simp only [ev_go, if_neg h154, if_pos h162]; done) | (simp only [ev_go, if_neg h154, if_neg h162]; simp [sd_wr]; done), cs_eq.wr _ _⟩
      · refine rr_iload_5 dX4_evening_165 ?_
        refine rr_goto 178 dX4_evening_167 (by decide) ?_
        exact rr_iret dX4_evening_178 ⟨by first | (simp only [ev_go, if_neg h154, if_pos h162]; done) | (simp only [ev_go, if_neg h154, if_neg h162]; simp [sd_wr]; done), cs_eq.wr _ _⟩
    · refine rr_iload_4 dX4_evening_157 ?_
      exact rr_iret dX4_evening_159 ⟨by simp only [ev_go, if_pos h154], cs_eq.wr _ _⟩
  | succ m ih =>
    intro k X v hk
    obtain ⟨D, zs, ts⟩ := X
    have tail : ∀ (E : sd_D) (t : Nat), ev_1 (σ 0 11) (ev_d z k) D = E → ev_t (σ 0 11) (ev_d z k) D = t → rd_W N (d + 4) RX4 cX4_evening 8 (some .int) 101 [.ref 0, .int z, .int (nI n), .int w, .int (nI zs), .int (nI (ts + t)), .int (nI k), .int (ev_d z k)] [] (sd_wr σ 4 E) (fun r s => r = some (.int ((fun Y : sd_D × Nat × Nat => if w = 0 then nI Y.2.1 else if w = 1 then nI Y.2.2 else sd_who Y.1.1 0) (ev_go (σ 0 11) z (m + 1) k (D, zs, ts)))) ∧ cs_eq s σ) := by
      intro E t h1 h3
      have t2 : ∀ F, ev_2 (ev_d z k) E = F → rd_W N (d + 4) RX4 cX4_evening 8 (some .int) 134 [.ref 0, .int z, .int (nI n), .int w, .int (nI zs), .int (nI (ts + t)), .int (nI k), .int (ev_d z k)] [] (sd_wr σ 4 F) (fun r s => r = some (.int ((fun Y : sd_D × Nat × Nat => if w = 0 then nI Y.2.1 else if w = 1 then nI Y.2.2 else sd_who Y.1.1 0) (ev_go (σ 0 11) z (m + 1) k (D, zs, ts)))) ∧ cs_eq s σ) := by
        intro F h2
        have e2 : sd_wr σ 4 F 4 2 = F.2.2.1 := by simp [sd_wr]
        refine rr_aloadn_0 dX4_evening_134 ?_
        refine rr_getr 4 dX4_evening_135 kf_X4_23 (by omega) rfl rfl rfl ?_
        refine rr_geti dX4_evening_138 kf_X4_114 (by omega) rfl rfl ?_
        rw [e2]
        refine rr_if_ne 147 dX4_evening_141 (by decide) (fun h141 => ?_) (fun h141 => ?_)
        · refine rr_iinc_6 1 dX4_evening_147 (by decide) rfl ?_
          refine rr_goto 53 dX4_evening_150 (by decide) ?_
          rw [nI_s k]
          first | (rw [ev_go_s _ _ m k D zs ts h1 h2 h3 (if_neg h141)]; exact ih (k + 1) (F, zs, ts + t) _ (by omega)) | (rw [ev_go_s _ _ m k D zs ts h1 h2 h3 (if_pos h141), nI_s zs]; exact ih (k + 1) (F, zs + 1, ts + t) _ (by omega))
        · refine rr_iinc_4 1 dX4_evening_144 (by decide) rfl ?_
          refine rr_iinc_6 1 dX4_evening_147 (by decide) rfl ?_
          refine rr_goto 53 dX4_evening_150 (by decide) ?_
          rw [nI_s k]
          first | (rw [ev_go_s _ _ m k D zs ts h1 h2 h3 (if_neg h141)]; exact ih (k + 1) (F, zs, ts + t) _ (by omega)) | (rw [ev_go_s _ _ m k D zs ts h1 h2 h3 (if_pos h141), nI_s zs]; exact ih (k + 1) (F, zs + 1, ts + t) _ (by omega))
      refine rr_iload_7 dX4_evening_101 ?_
      refine rr_iconst (v := 4) dX4_evening_103 (by decide) ?_
      refine rr_idiv dX4_evening_104 (by decide) ?_
      refine rr_bipush (v := 8) dX4_evening_105 (by decide) ?_
      refine rr_irem dX4_evening_107 (by decide) ?_
      refine rr_if_ne 134 dX4_evening_108 (by decide) (fun h108 => ?_) (fun h108 => ?_)
      · first | (exact t2 _ (by unfold ev_2; rw [if_neg h108])) | (rw [sd_rd_wr, sd_wr_wr, show sd_wr σ 4 E 4 0 = E.1 by simp [sd_wr]]; exact t2 _ (by unfold ev_2; rw [if_pos h108]))
      · refine rr_aloadn_0 dX4_evening_111 ?_
        refine rr_getr 4 dX4_evening_112 kf_X4_23 (by omega) rfl rfl rfl ?_
        refine rr_aloadn_0 dX4_evening_115 ?_
        refine rr_getr 4 dX4_evening_116 kf_X4_23 (by omega) rfl rfl rfl ?_
        refine rr_iconst (v := 0) dX4_evening_119 (by decide) ?_
        refine rr_callViD (c_X3_whoAt N _ _ _ _ (by omega) rfl) km_X4_110 rfl rfl (by omega) rfl (Nat.le_of_ble_eq_true rfl) dX4_evening_120 ?_
        refine rr_aloadn_0 dX4_evening_123 ?_
        refine rr_getr 4 dX4_evening_124 kf_X4_23 (by omega) rfl rfl rfl ?_
        refine rr_iconst (v := 2) dX4_evening_127 (by decide) ?_
        refine rr_callViD (c_X3_whoAt N _ _ _ _ (by omega) rfl) km_X4_110 rfl rfl (by omega) rfl (Nat.le_of_ble_eq_true rfl) dX4_evening_128 ?_
        refine rr_callVvD (c_X3_exchange N _ _ _ _ _ (by omega) rfl) km_X4_143 rfl rfl (by omega) rfl (Nat.le_of_ble_eq_true rfl) dX4_evening_131 ?_
        first | (exact t2 _ (by unfold ev_2; rw [if_neg h108])) | (rw [sd_rd_wr, sd_wr_wr, show sd_wr σ 4 E 4 0 = E.1 by simp [sd_wr]]; exact t2 _ (by unfold ev_2; rw [if_pos h108]))
    have e11 : sd_wr σ 4 D 0 11 = σ 0 11 := sd_wr_ne D (by decide)
    refine rr_iload_6 dX4_evening_53 ?_
    refine rr_iloadn_2 dX4_evening_55 ?_
    refine rr_icmp_ge 153 dX4_evening_56 (by decide) (fun h56 => absurd ((nI_le8 (by omega) (by omega)).mp h56) (by omega)) (fun h56 => ?_)
    refine rr_iloadn_1 dX4_evening_59 ?_
    refine rr_iload_6 dX4_evening_60 ?_
    refine rr_callSiD (c_X4_drawOf N _ _ _ _) km_X4_226 rfl rfl (Nat.le_of_ble_eq_true rfl) dX4_evening_62 ?_
    rw [show ((fun x : Int64 => x * x - x * x / 65521 * 65521) (7919 * z.toInt64 + 6151 * (nI k).toInt64 + 1)).toInt32 = ev_d z k from rfl]
    refine rr_istore_7 dX4_evening_65 rfl ?_
    refine rr_aloadn_0 dX4_evening_67 ?_
    refine rr_getr 4 dX4_evening_68 kf_X4_23 (by omega) rfl rfl rfl ?_
    refine rr_iload_7 dX4_evening_71 ?_
    refine rr_iconst (v := 4) dX4_evening_73 (by decide) ?_
    refine rr_irem dX4_evening_74 (by decide) ?_
    refine rr_aloadn_0 dX4_evening_75 ?_
    refine rr_geti dX4_evening_76 kf_X4_96 (by omega) rfl rfl ?_
    rw [e11]
    rcases hst : sd_st D (ev_d z k - ev_d z k / 4 * 4) (σ 0 11) with _ | E
    · obtain ⟨r1, hr1⟩ := c_step_r N (d + 1) 4 (sd_wr σ 4 D) (σ 0 11) (by omega) rfl
      refine rr_callViD (c_step_n N _ _ _ _ _ (by omega) rfl (by rw [sd_rd_wr]; exact hst)) km_X4_136 rfl rfl (by omega) rfl (Nat.le_of_ble_eq_true rfl) dX4_evening_79 ?_
      refine rr_if_ne 101 dX4_evening_82 (by decide) (fun h82 => absurd h82 (by decide)) (fun _ => ?_)
      refine rr_iinc_5 1 dX4_evening_85 (by decide) rfl ?_
      refine rr_aloadn_0 dX4_evening_88 ?_
      refine rr_getr 4 dX4_evening_89 kf_X4_23 (by omega) rfl rfl rfl ?_
      refine rr_iconst (v := 3) dX4_evening_92 (by decide) ?_
      refine rr_aloadn_0 dX4_evening_93 ?_
      refine rr_geti dX4_evening_94 kf_X4_96 (by omega) rfl rfl ?_
      rw [e11]
      refine rr_callViD hr1 km_X4_136 rfl rfl (by omega) rfl (Nat.le_of_ble_eq_true rfl) dX4_evening_97 ?_
      refine rr_pop dX4_evening_100 rfl ?_
      rw [sd_wr_wr, sd_rd_wr]
      rw [nI_s ts]
      exact tail _ 1 (by simp [ev_1, hst]) (by simp [ev_t, hst])
    · refine rr_callViD (c_step_s N _ _ _ _ _ (by omega) rfl (D' := E) (by rw [sd_rd_wr]; exact hst)) km_X4_136 rfl rfl (by omega) rfl (Nat.le_of_ble_eq_true rfl) dX4_evening_79 ?_
      refine rr_if_ne 101 dX4_evening_82 (by decide) (fun _ => ?_) (fun h82 => absurd h82 (by decide))
      rw [sd_wr_wr]
      exact tail E 0 (by simp [ev_1, hst]) (by simp [ev_t, hst])
set_option maxHeartbeats 4000000 in
set_option maxRecDepth 100000 in
theorem c_evening_b (N d : Nat) (σ : rd_S) (hN : 33 ≤ N) (z n w : Int32) (h : hp_rg 0 9999 z = false ∨ hp_rg 1 60 n = false ∨ hp_rg 0 2 w = false) : rd_T N (d + 4) yX4_evening cX4_evening 8 (some .int) [.ref 0, .int z, .int n, .int w] σ (rd_is (some (.int (-1))) σ) := by
  refine rd_start RX4 [.ref 0, .int z, .int n, .int w, .retAddr 0, .retAddr 0, .retAddr 0, .retAddr 0] rfl (by decide +kernel) rfl (Nat.le_of_ble_eq_true rfl) ?_
  refine rr_iloadn_1 dX4_evening_0 ?_
  refine rr_if_lt 31 dX4_evening_1 (by decide) (fun h1 => ?_) (fun h1 => ?_)
  · refine rr_iconst (v := (-1)) dX4_evening_31 (by decide) ?_
    exact rr_iret dX4_evening_32 ⟨rfl, rfl⟩
  · refine rr_iloadn_1 dX4_evening_4 ?_
    refine rr_sipush (v := 9999) dX4_evening_5 (by decide) ?_
    refine rr_icmp_gt 31 dX4_evening_8 (by decide) (fun h8 => ?_) (fun h8 => ?_)
    · refine rr_iconst (v := (-1)) dX4_evening_31 (by decide) ?_
      exact rr_iret dX4_evening_32 ⟨rfl, rfl⟩
    · refine rr_iloadn_2 dX4_evening_11 ?_
      refine rr_iconst (v := 1) dX4_evening_12 (by decide) ?_
      refine rr_icmp_lt 31 dX4_evening_13 (by decide) (fun h13 => ?_) (fun h13 => ?_)
      · refine rr_iconst (v := (-1)) dX4_evening_31 (by decide) ?_
        exact rr_iret dX4_evening_32 ⟨rfl, rfl⟩
      · refine rr_iloadn_2 dX4_evening_16 ?_
        refine rr_bipush (v := 60) dX4_evening_17 (by decide) ?_
        refine rr_icmp_gt 31 dX4_evening_19 (by decide) (fun h19 => ?_) (fun h19 => ?_)
        · refine rr_iconst (v := (-1)) dX4_evening_31 (by decide) ?_
          exact rr_iret dX4_evening_32 ⟨rfl, rfl⟩
        · refine rr_iloadn_3 dX4_evening_22 ?_
          refine rr_if_lt 31 dX4_evening_23 (by decide) (fun h23 => ?_) (fun h23 => ?_)
          · refine rr_iconst (v := (-1)) dX4_evening_31 (by decide) ?_
            exact rr_iret dX4_evening_32 ⟨rfl, rfl⟩
          · refine rr_iloadn_3 dX4_evening_26 ?_
            refine rr_iconst (v := 2) dX4_evening_27 (by decide) ?_
            refine rr_icmp_le 33 dX4_evening_28 (by decide) (fun h28 => (by exfalso; rcases h with h | h | h <;> simp only [hp_rg, decide_eq_false_iff_not, Int32.lt_iff_toInt_lt, Int32.le_iff_toInt_le, hp_m1, hp_m99, hp_l0, hp_l1, hp_l2, hp_l3, hp_l4, hp_l5, hp_l6, hp_l7, hp_l8, hp_l9, hp_l10, hp_l11, hp_l12, hp_l60, hp_l99, hp_l126, hp_l32, hp_l9999] at * <;> omega)) (fun h28 => ?_)
            refine rr_iconst (v := (-1)) dX4_evening_31 (by decide) ?_
            exact rr_iret dX4_evening_32 ⟨rfl, rfl⟩
set_option maxHeartbeats 4000000 in
set_option maxRecDepth 100000 in
theorem c_evening_s (N d : Nat) (σ : rd_S) (hN : 33 ≤ N) (z w : Int32) (n : Nat) (hz : hp_rg 0 9999 z = true) (hn : n ≤ 60) (hn1 : 1 ≤ n) (hw : hp_rg 0 2 w = true) : rd_T N (d + 4) yX4_evening cX4_evening 8 (some .int) [.ref 0, .int z, .int (nI n), .int w] σ (fun r s => r = some (.int ((fun Y : sd_D × Nat × Nat => if w = 0 then nI Y.2.1 else if w = 1 then nI Y.2.2 else sd_who Y.1.1 0) (ev_go (σ 0 11) z n 0 (sd_rd σ 3, 0, 0)))) ∧ cs_eq s σ) := by
  refine rd_start RX4 [.ref 0, .int z, .int (nI n), .int w, .retAddr 0, .retAddr 0, .retAddr 0, .retAddr 0] rfl (by decide +kernel) rfl (Nat.le_of_ble_eq_true rfl) ?_
  refine rr_iloadn_1 dX4_evening_0 ?_
  refine rr_if_lt 31 dX4_evening_1 (by decide) (fun h1 => (by exfalso; simp only [hp_rg, decide_eq_true_eq, decide_eq_false_iff_not, Int32.lt_iff_toInt_lt, Int32.le_iff_toInt_le, hp_m1, hp_m99, hp_l0, hp_l1, hp_l2, hp_l3, hp_l4, hp_l5, hp_l6, hp_l7, hp_l8, hp_l9, hp_l10, hp_l11, hp_l12, hp_l60, hp_l99, hp_l126, hp_l32, hp_l9999] at *; omega)) (fun h1 => ?_)
  refine rr_iloadn_1 dX4_evening_4 ?_
  refine rr_sipush (v := 9999) dX4_evening_5 (by decide) ?_
  refine rr_icmp_gt 31 dX4_evening_8 (by decide) (fun h8 => (by exfalso; simp only [hp_rg, decide_eq_true_eq, decide_eq_false_iff_not, Int32.lt_iff_toInt_lt, Int32.le_iff_toInt_le, hp_m1, hp_m99, hp_l0, hp_l1, hp_l2, hp_l3, hp_l4, hp_l5, hp_l6, hp_l7, hp_l8, hp_l9, hp_l10, hp_l11, hp_l12, hp_l60, hp_l99, hp_l126, hp_l32, hp_l9999] at *; omega)) (fun h8 => ?_)
  refine rr_iloadn_2 dX4_evening_11 ?_
  refine rr_iconst (v := 1) dX4_evening_12 (by decide) ?_
  refine rr_icmp_lt 31 dX4_evening_13 (by decide) (fun h13 => absurd ((nI_lt8 (b := 1) (by omega) (by omega)).mp h13) (by omega)) (fun h13 => ?_)
  refine rr_iloadn_2 dX4_evening_16 ?_
  refine rr_bipush (v := 60) dX4_evening_17 (by decide) ?_
  refine rr_icmp_gt 31 dX4_evening_19 (by decide) (fun h19 => absurd ((nI_lt8 (a := 60) (by omega) (by omega)).mp h19) (by omega)) (fun h19 => ?_)
  refine rr_iloadn_3 dX4_evening_22 ?_
  refine rr_if_lt 31 dX4_evening_23 (by decide) (fun h23 => (by exfalso; simp only [hp_rg, decide_eq_true_eq, decide_eq_false_iff_not, Int32.lt_iff_toInt_lt, Int32.le_iff_toInt_le, hp_m1, hp_m99, hp_l0, hp_l1, hp_l2, hp_l3, hp_l4, hp_l5, hp_l6, hp_l7, hp_l8, hp_l9, hp_l10, hp_l11, hp_l12, hp_l60, hp_l99, hp_l126, hp_l32, hp_l9999] at *; omega)) (fun h23 => ?_)
  refine rr_iloadn_3 dX4_evening_26 ?_
  refine rr_iconst (v := 2) dX4_evening_27 (by decide) ?_
  refine rr_icmp_le 33 dX4_evening_28 (by decide) (fun h28 => ?_) (fun h28 => (by exfalso; simp only [hp_rg, decide_eq_true_eq, decide_eq_false_iff_not, Int32.lt_iff_toInt_lt, Int32.le_iff_toInt_le, hp_m1, hp_m99, hp_l0, hp_l1, hp_l2, hp_l3, hp_l4, hp_l5, hp_l6, hp_l7, hp_l8, hp_l9, hp_l10, hp_l11, hp_l12, hp_l60, hp_l99, hp_l126, hp_l32, hp_l9999] at *; omega))
  refine rr_aloadn_0 dX4_evening_33 ?_
  refine rr_getr 4 dX4_evening_34 kf_X4_23 (by omega) rfl rfl rfl ?_
  refine rr_aloadn_0 dX4_evening_37 ?_
  refine rr_getr 3 dX4_evening_38 kf_X4_19 (by omega) rfl rfl rfl ?_
  refine rr_callVvD (c_X3_take N _ _ _ _ (by omega) rfl (by omega) rfl) km_X4_177 rfl rfl (by omega) rfl (Nat.le_of_ble_eq_true rfl) dX4_evening_41 ?_
  refine rr_iconst (v := 0) dX4_evening_44 (by decide) ?_
  refine rr_istore_4 dX4_evening_45 rfl ?_
  refine rr_iconst (v := 0) dX4_evening_47 (by decide) ?_
  refine rr_istore_5 dX4_evening_48 rfl ?_
  refine rr_iconst (v := 0) dX4_evening_50 (by decide) ?_
  refine rr_istore_6 dX4_evening_51 rfl ?_
  exact lp_evening N d hN σ z w n hn n 0 (sd_rd σ 3, 0, 0) _ (by omega)
