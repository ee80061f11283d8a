/-! ===== the reference: a figure ===== -/
def kd_at (σ : rd_S) (kb : Int32) : Prop := ∀ i, i < 4 → σ 34 i = sd_kind kb (nI i)
def sd_twt (D : sd_D) (t kb : Int32) : Int32 :=
  if sd_kind kb (sd_who D.1 1) = 1 then - t
  else if sd_kind kb (sd_who D.1 1) = 2 then (if D.2.2.2.2.2 - D.2.2.2.2.2 / 2 * 2 = 0 then t else 0)
  else if sd_kind kb (sd_who D.1 1) = 3 then 2 * t
  else if sd_kind kb (sd_who D.1 1) = 4 then (if sd_rope D.2.1 (sd_who D.1 1) = sd_rope D.2.1 (sd_who D.1 2) then 0 else t)
  else if sd_kind kb (sd_who D.1 1) = 5 then (if D.2.2.2.2.1 = 0 then t else D.2.2.2.2.1)
  else t
theorem sd_tw_t {D : sd_D} {f kb : Int32} (h : f = 0 ∨ f = 1) : sd_tw D f kb = sd_twt D (sd_told f) kb := by
  unfold sd_tw sd_twt; rw [if_pos h]
theorem wf_who {c : Nat} {D : sd_D} (h : wf c D) {p : Nat} (hp : p < 4) : ∃ j, j < 4 ∧ sd_who D.1 (nI p) = nI j := by
  obtain ⟨x, r, b, h1, h2, h3, h4, h5, h6⟩ := h
  exact ⟨wh x p, wh_lt _ _, by rw [h5, wh_ok x h1 p hp]⟩
theorem nI_mod2b {b : Nat} (h : b < 2 ^ 31) : nI b - nI b / 2 * 2 = nI (b % 2) := pk_rem (d := 2) h (by omega) (by omega)
set_option maxHeartbeats 4000000 in
set_option maxRecDepth 100000 in
theorem c_X5_windsBy (N d : Nat) (σ : rd_S) (hN : 49 ≤ N) (c : Nat) (hc : c < 1000000) (D A : sd_D) (n kb : Int32) (hw : wf c D) (hk : kd_at σ kb) (t : Int32) : rd_T N (d + 0) yX5_windsBy cX5_windsBy 3 (some .int) [.ref 33, .int t] (ms σ D A n) (rd_is (some (.int (sd_twt D t kb))) (ms σ D A n)) := by
  refine rd_start RX5 [.ref 33, .int t, .retAddr 0] rfl (by decide +kernel) rfl (Nat.le_of_ble_eq_true rfl) ?_
  obtain ⟨j1, hj1, e1⟩ := wf_who hw (show 1 < 4 by decide)
  obtain ⟨j2, hj2, e2⟩ := wf_who hw (show 2 < 4 by decide)
  have g1 : ms σ D A n 37 1 = nI j1 := by rw [ms_st (by decide), md_4 (by decide)]; exact e1
  have g2 : ms σ D A n 37 2 = nI j2 := by rw [ms_st (by decide), md_4 (by decide)]; exact e2
  have gk : ms σ D A n 34 j1 = sd_kind kb (sd_who D.1 1) := by rw [ms_ne (by decide) (by decide) (by omega), hk j1 hj1, ← e1]; rfl
  have g41 : ms σ D A n 37 (4 + j1) = sd_rope D.2.1 (sd_who D.1 1) := by rw [ms_st (by omega), md_8 hj1, ← e1]; rfl
  have g42 : ms σ D A n 37 (4 + j2) = sd_rope D.2.1 (sd_who D.1 2) := by rw [ms_st (by omega), md_8 hj2, ← e2]; rfl
  have g10 : ms σ D A n 37 10 = D.2.2.2.2.2 := by rw [ms_st (by decide)]; rfl
  have g11 : ms σ D A n 37 11 = if D.2.2.2.2.1 < 0 then 2 else D.2.2.2.2.1 := by rw [ms_st (by decide)]; rfl
  refine rr_aloadn_0 dX5_windsBy_0 ?_
  refine rr_getr 37 dX5_windsBy_1 kf_X5_19 (by omega) rfl rfl rfl ?_
  refine rr_iconst (v := 1) dX5_windsBy_4 (by decide) ?_
  refine rr_iald (1) dX5_windsBy_5 (by omega) rfl rfl (by decide) ?_
  rw [g1]
  refine rr_istoren_2 dX5_windsBy_6 rfl ?_
  refine rr_aloadn_0 dX5_windsBy_7 ?_
  refine rr_getr 34 dX5_windsBy_8 kf_X5_7 (by omega) rfl rfl rfl ?_
  refine rr_iloadn_2 dX5_windsBy_11 ?_
  refine rr_iald (j1) dX5_windsBy_12 (by omega) rfl rfl hj1 ?_
  rw [gk]
  rcases rd_sw_1_5 (sd_kind kb (sd_who D.1 1)) with hs13 | hs13 | hs13 | hs13 | hs13 | hs13
  · rw [hs13]
    refine rr_tableIn 48 dX5_windsBy_13 (by decide) (by decide) rfl (by decide) ?_
    refine rr_iloadn_1 dX5_windsBy_48 ?_
    refine rr_ineg dX5_windsBy_49 ?_
    exact rr_iret dX5_windsBy_50 ⟨by simp [sd_twt, hs13], rfl⟩
  · rw [hs13]
    refine rr_tableIn 51 dX5_windsBy_13 (by decide) (by decide) rfl (by decide) ?_
    refine rr_aloadn_0 dX5_windsBy_51 ?_
    refine rr_getr 37 dX5_windsBy_52 kf_X5_19 (by omega) rfl rfl rfl ?_
    refine rr_bipush (v := 10) dX5_windsBy_55 (by decide) ?_
    refine rr_iald (10) dX5_windsBy_57 (by omega) rfl rfl (by decide) ?_
    rw [g10]
    refine rr_iconst (v := 2) dX5_windsBy_58 (by decide) ?_
    refine rr_irem dX5_windsBy_59 (by decide) ?_
    refine rr_iconst (v := 1) dX5_windsBy_60 (by decide) ?_
    obtain ⟨x, r, b, -, -, -, hb, -, -, hb2, -⟩ := hw
    have hmod : D.2.2.2.2.2 - D.2.2.2.2.2 / 2 * 2 = nI (b % 2) := by rw [hb2]; exact nI_mod2b (by omega)
    refine rr_icmp_ne 68 dX5_windsBy_61 (by decide) (fun h61 => ?_) (fun h61 => ?_)
    · refine rr_iloadn_1 dX5_windsBy_68 ?_
      exact rr_iret dX5_windsBy_69 ⟨by rw [hmod] at h61; (have hm2 : b % 2 = 0 ∨ b % 2 = 1 := by omega); simp only [sd_twt, hs13, hmod]; rcases hm2 with hm2 | hm2 <;> rw [hm2] at h61 ⊢ <;> first | rfl | exact absurd h61 (by decide) | exact absurd rfl h61, rfl⟩
    · refine rr_iconst (v := 0) dX5_windsBy_64 (by decide) ?_
      refine rr_goto 69 dX5_windsBy_65 (by decide) ?_
      exact rr_iret dX5_windsBy_69 ⟨by rw [hmod] at h61; (have hm2 : b % 2 = 0 ∨ b % 2 = 1 := by omega); simp only [sd_twt, hs13, hmod]; rcases hm2 with hm2 | hm2 <;> rw [hm2] at h61 ⊢ <;> first | rfl | exact absurd h61 (by decide) | exact absurd rfl h61, rfl⟩
  · rw [hs13]
    refine rr_tableIn 70 dX5_windsBy_13 (by decide) (by decide) rfl (by decide) ?_
    refine rr_iconst (v := 2) dX5_windsBy_70 (by decide) ?_
    refine rr_iloadn_1 dX5_windsBy_71 ?_
    refine rr_imul dX5_windsBy_72 ?_
    exact rr_iret dX5_windsBy_73 ⟨by simp [sd_twt, hs13], rfl⟩
  · rw [hs13]
    refine rr_tableIn 74 dX5_windsBy_13 (by decide) (by decide) rfl (by decide) ?_
    refine rr_aloadn_0 dX5_windsBy_74 ?_
    refine rr_getr 37 dX5_windsBy_75 kf_X5_19 (by omega) rfl rfl rfl ?_
    refine rr_iconst (v := 4) dX5_windsBy_78 (by decide) ?_
    refine rr_iloadn_2 dX5_windsBy_79 ?_
    refine rr_iadd dX5_windsBy_80 ?_
    rw [show (4 : Int32) + nI j1 = nI (4 + j1) from nI_add 4 j1]
    refine rr_iald ((4 + j1)) dX5_windsBy_81 (by omega) rfl rfl (show 4 + j1 < 12 by omega) ?_
    rw [g41]
    refine rr_aloadn_0 dX5_windsBy_82 ?_
    refine rr_getr 37 dX5_windsBy_83 kf_X5_19 (by omega) rfl rfl rfl ?_
    refine rr_iconst (v := 4) dX5_windsBy_86 (by decide) ?_
    refine rr_aloadn_0 dX5_windsBy_87 ?_
    refine rr_getr 37 dX5_windsBy_88 kf_X5_19 (by omega) rfl rfl rfl ?_
    refine rr_iconst (v := 2) dX5_windsBy_91 (by decide) ?_
    refine rr_iald (2) dX5_windsBy_92 (by omega) rfl rfl (by decide) ?_
    rw [g2]
    refine rr_iadd dX5_windsBy_93 ?_
    rw [show (4 : Int32) + nI j2 = nI (4 + j2) from nI_add 4 j2]
    refine rr_iald ((4 + j2)) dX5_windsBy_94 (by omega) rfl rfl (show 4 + j2 < 12 by omega) ?_
    rw [g42]
    refine rr_icmp_ne 102 dX5_windsBy_95 (by decide) (fun h95 => ?_) (fun h95 => ?_)
    · refine rr_iloadn_1 dX5_windsBy_102 ?_
      exact rr_iret dX5_windsBy_103 ⟨by simp [sd_twt, hs13, h95], rfl⟩
    · refine rr_iconst (v := 0) dX5_windsBy_98 (by decide) ?_
      refine rr_goto 103 dX5_windsBy_99 (by decide) ?_
      exact rr_iret dX5_windsBy_103 ⟨by simp [sd_twt, hs13, h95], rfl⟩
  · rw [hs13]
    refine rr_tableIn 104 dX5_windsBy_13 (by decide) (by decide) rfl (by decide) ?_
    refine rr_aloadn_0 dX5_windsBy_104 ?_
    refine rr_getr 37 dX5_windsBy_105 kf_X5_19 (by omega) rfl rfl rfl ?_
    refine rr_bipush (v := 11) dX5_windsBy_108 (by decide) ?_
    refine rr_iald (11) dX5_windsBy_110 (by omega) rfl rfl (by decide) ?_
    rw [g11]
    refine rr_if_ne 118 dX5_windsBy_111 (by decide) (fun h111 => ?_) (fun h111 => ?_)
    · refine rr_aloadn_0 dX5_windsBy_118 ?_
      refine rr_getr 37 dX5_windsBy_119 kf_X5_19 (by omega) rfl rfl rfl ?_
      refine rr_bipush (v := 11) dX5_windsBy_122 (by decide) ?_
      refine rr_iald (11) dX5_windsBy_124 (by omega) rfl rfl (by decide) ?_
      rw [g11]
      refine rr_iconst (v := 1) dX5_windsBy_125 (by decide) ?_
      refine rr_icmp_ne 133 dX5_windsBy_126 (by decide) (fun h126 => ?_) (fun h126 => ?_)
      · refine rr_iconst (v := (-1)) dX5_windsBy_133 (by decide) ?_
        exact rr_iret dX5_windsBy_134 ⟨by obtain ⟨x, r, b, -, -, -, -, -, -, -, hl, -⟩ := hw; simp only [sd_twt, hs13]; rcases hl with hl | hl | hl <;> simp only [hl] at * <;> first | rfl | exact absurd h111 (by decide) | exact absurd (by decide) h111 | exact absurd h126 (by decide) | exact absurd (by decide) h126, rfl⟩
      · refine rr_iconst (v := 1) dX5_windsBy_129 (by decide) ?_
        refine rr_goto 134 dX5_windsBy_130 (by decide) ?_
        exact rr_iret dX5_windsBy_134 ⟨by obtain ⟨x, r, b, -, -, -, -, -, -, -, hl, -⟩ := hw; simp only [sd_twt, hs13]; rcases hl with hl | hl | hl <;> simp only [hl] at * <;> first | rfl | exact absurd h111 (by decide) | exact absurd (by decide) h111 | exact absurd h126 (by decide) | exact absurd (by decide) h126, rfl⟩
    · refine rr_iloadn_1 dX5_windsBy_114 ?_
      refine rr_goto 134 dX5_windsBy_115 (by decide) ?_
      exact rr_iret dX5_windsBy_134 ⟨by obtain ⟨x, r, b, -, -, -, -, -, -, -, hl, -⟩ := hw; simp only [sd_twt, hs13]; rcases hl with hl | hl | hl <;> simp only [hl] at * <;> first | rfl | exact absurd h111 (by decide) | exact absurd (by decide) h111 | exact absurd h126 (by decide) | exact absurd (by decide) h126, rfl⟩
  · refine rr_tableOut 135 dX5_windsBy_13 hs13.1 (by decide) ?_
    refine rr_iloadn_1 dX5_windsBy_135 ?_
    exact rr_iret dX5_windsBy_136 ⟨by obtain ⟨-, q1, q2, q3, q4, q5⟩ := hs13; simp [sd_twt, q1, q2, q3, q4, q5], rfl⟩
