/-! ===== the reference: a figure ===== -/
def kd_at (σ : rd_S) (kb : Int32) : Prop := ∀ i, i < 4 → σ 34 i = sd_kind kb (nI i)
def sd_twt (D : sd_D) (t kb : Int32) : Int32 :=
  if sd_kind kb (sd_who D.1 1) = 1 then - t
  else if sd_kind kb (sd_who D.1 1) = 2 then (if D.2.2.2.2.2 - D.2.2.2.2.2 / 2 * 2 = 0 then t else 0)
  else if sd_kind kb (sd_who D.1 1) = 3 then 2 * t
  else if sd_kind kb (sd_who D.1 1) = 4 then (if sd_rope D.2.1 (sd_who D.1 1) = sd_rope D.2.1 (sd_who D.1 2) then 0 else t)
  else if sd_kind kb (sd_who D.1 1) = 5 then (if D.2.2.2.2.1 = 0 then t else D.2.2.2.2.1)
  else t
theorem sd_tw_t {D : sd_D} {f kb : Int32} (h : f = 0 ∨ f = 1) : sd_tw D f kb = sd_twt D (sd_told f) kb := by
  unfold sd_tw sd_twt; rw [if_pos h]
theorem wf_who {c : Nat} {D : sd_D} (h : wf c D) {p : Nat} (hp : p < 4) : ∃ j, j < 4 ∧ sd_who D.1 (nI p) = nI j := by
  obtain ⟨x, r, b, h1, h2, h3, h4, h5, h6⟩ := h
  exact ⟨wh x p, wh_lt _ _, by rw [h5, wh_ok x h1 p hp]⟩
theorem nI_mod2b {b : Nat} (h : b < 2 ^ 31) : nI b - nI b / 2 * 2 = nI (b % 2) := pk_rem (d := 2) h (by omega) (by omega)
set_option maxHeartbeats 4000000 in
set_option maxRecDepth 100000 in
theorem c_X5_windsBy (N d : Nat) (σ : rd_S) (hN : 49 ≤ N) (c : Nat) (hc : c < 1000000) (D A : sd_D) (n kb : Int32) (hw : wf c D) (hk : kd_at σ kb) (t : Int32) : rd_T N (d + 0) yX5_windsBy cX5_windsBy 3 (some .int) [.ref 33, .int t] (ms σ D A n) (rd_is (some (.int (sd_twt D t kb))) (ms σ D A n)) := by
  refine rd_start RX5 [.ref 33, .int t, .retAddr 0] rfl (by decide +kernel) rfl (Nat.le_of_ble_eq_true rfl) ?_
  obtain ⟨j1, hj1, e1⟩ := wf_who hw (show 1 < 4 by decide)
  obtain ⟨j2, hj2, e2⟩ := wf_who hw (show 2 < 4 by decide)
  have g1 : ms σ D A n 37 1 = nI j1 := by rw [ms_st (by decide), md_4 (by decide)]; exact e1
  have g2 : ms σ D A n 37 2 = nI j2 := by rw [ms_st (by decide), md_4 (by decide)]; exact e2
  have gk : ms σ D A n 34 j1 = sd_kind kb (sd_who D.1 1) := by rw [ms_ne (by decide) (by decide) (by omega), hk j1 hj1, ← e1]; rfl
  have g41 : ms σ D A n 37 (4 + j1) = sd_rope D.2.1 (sd_who D.1 1) := by rw [ms_st (by omega), md_8 hj1, ← e1]; rfl
  have g42 : ms σ D A n 37 (4 + j2) = sd_rope D.2.1 (sd_who D.1 2) := by rw [ms_st (by omega), md_8 hj2, ← e2]; rfl
  have g10 : ms σ D A n 37 10 = D.2.2.2.2.2 := by rw [ms_st (by decide)]; rfl
  have g11 : ms σ D A n 37 11 = if D.2.2.2.2.1 < 0 then 2 else D.2.2.2.2.1 := by rw [ms_st (by decide)]; rfl
  refine rr_aloadn_0 dX5_windsBy_0 ?_
  refine rr_getr 37 dX5_windsBy_1 kf_X5_19 (by omega) rfl rfl rfl ?_
  refine rr_iconst (v := 1) dX5_windsBy_4 (by decide) ?_
  refine rr_iald (1) dX5_windsBy_5 (by omega) rfl rfl (by decide) ?_
  rw [g1]
  refine rr_istoren_2 dX5_windsBy_6 rfl ?_
  refine rr_aloadn_0 dX5_windsBy_7 ?_
  refine rr_getr 34 dX5_windsBy_8 kf_X5_7 (by omega) rfl rfl rfl ?_
  refine rr_iloadn_2 dX5_windsBy_11 ?_
  refine rr_iald (j1) dX5_windsBy_12 (by omega) rfl rfl hj1 ?_
  rw [gk]
  rcases rd_sw_1_5 (sd_kind kb (sd_who D.1 1)) with hs13 | hs13 | hs13 | hs13 | hs13 | hs13
  · rw [hs13]
    refine rr_tableIn 48 dX5_windsBy_13 (by decide) (by decide) rfl (by decide) ?_
    refine rr_iloadn_1 dX5_windsBy_48 ?_
    refine rr_ineg dX5_windsBy_49 ?_
    exact rr_iret dX5_windsBy_50 ⟨by simp [sd_twt, hs13], rfl⟩
  · rw [hs13]
    refine rr_tableIn 51 dX5_windsBy_13 (by decide) (by decide) rfl (by decide) ?_
    refine rr_aloadn_0 dX5_windsBy_51 ?_
    refine rr_getr 37 dX5_windsBy_52 kf_X5_19 (by omega) rfl rfl rfl ?_
    refine rr_bipush (v := 10) dX5_windsBy_55 (by decide) ?_
    refine rr_iald (10) dX5_windsBy_57 (by omega) rfl rfl (by decide) ?_
    rw [g10]
    refine rr_iconst (v := 2) dX5_windsBy_58 (by decide) ?_
    refine rr_irem dX5_windsBy_59 (by decide) ?_
    refine rr_iconst (v := 1) dX5_windsBy_60 (by decide) ?_
    obtain ⟨x, r, b, -, -, -, hb, -, -, hb2, -⟩ := hw
    have hmod : D.2.2.2.2.2 - D.2.2.2.2.2 / 2 * 2 = nI (b % 2) := by rw [hb2]; exact nI_mod2b (by omega)
    refine rr_icmp_ne 68 dX5_windsBy_61 (by decide) (fun h61 => ?_) (fun h61 => ?_)
    · refine rr_iloadn_1 dX5_windsBy_68 ?_
      exact rr_iret dX5_windsBy_69 ⟨by rw [hmod] at h61; (have hm2 : b % 2 = 0 ∨ b % 2 = 1 := by omega); simp only [sd_twt, hs13, hmod]; rcases hm2 with hm2 | hm2 <;> rw [hm2] at h61 ⊢ <;> first | rfl | exact absurd h61 (by decide) | exact absurd rfl h61, rfl⟩
    · refine rr_iconst (v := 0) dX5_windsBy_64 (by decide) ?_
      refine rr_goto 69 dX5_windsBy_65 (by decide) ?_
      exact rr_iret dX5_windsBy_69 ⟨by rw [hmod] at h61; (have hm2 : b % 2 = 0 ∨ b % 2 = 1 := by omega); simp only [sd_twt, hs13, hmod]; rcases hm2 with hm2 | hm2 <;> rw [hm2] at h61 ⊢ <;> first | rfl | exact absurd h61 (by decide) | exact absurd rfl h61, rfl⟩
  · rw [hs13]
    refine rr_tableIn 70 dX5_windsBy_13 (by decide) (by decide) rfl (by decide) ?_
    refine rr_iconst (v := 2) dX5_windsBy_70 (by decide) ?_
    refine rr_iloadn_1 dX5_windsBy_71 ?_
    refine rr_imul dX5_windsBy_72 ?_
    exact rr_iret dX5_windsBy_73 ⟨by simp [sd_twt, hs13], rfl⟩
  · rw [hs13]
    refine rr_tableIn 74 dX5_windsBy_13 (by decide) (by decide) rfl (by decide) ?_
    refine rr_aloadn_0 dX5_windsBy_74 ?_
    refine rr_getr 37 dX5_windsBy_75 kf_X5_19 (by omega) rfl rfl rfl ?_
    refine rr_iconst (v := 4) dX5_windsBy_78 (by decide) ?_
    refine rr_iloadn_2 dX5_windsBy_79 ?_
    refine rr_iadd dX5_windsBy_80 ?_
    rw [show (4 : Int32) + nI j1 = nI (4 + j1) from nI_add 4 j1]
    refine rr_iald ((4 + j1)) dX5_windsBy_81 (by omega) rfl rfl (show 4 + j1 < 12 by omega) ?_
    rw [g41]
    refine rr_aloadn_0 dX5_windsBy_82 ?_
    refine rr_getr 37 dX5_windsBy_83 kf_X5_19 (by omega) rfl rfl rfl ?_
    refine rr_iconst (v := 4) dX5_windsBy_86 (by decide) ?_
    refine rr_aloadn_0 dX5_windsBy_87 ?_
    refine rr_getr 37 dX5_windsBy_88 kf_X5_19 (by omega) rfl rfl rfl ?_
    refine rr_iconst (v := 2) dX5_windsBy_91 (by decide) ?_
    refine rr_iald (2) dX5_windsBy_92 (by omega) rfl rfl (by decide) ?_
    rw [g2]
    refine rr_iadd dX5_windsBy_93 ?_
    rw [show (4 : Int32) + nI j2 = nI (4 + j2) from nI_add 4 j2]
    refine rr_iald ((4 + j2)) dX5_windsBy_94 (by omega) rfl rfl (show 4 + j2 < 12 by omega) ?_
    rw [g42]
    refine rr_icmp_ne 102 dX5_windsBy_95 (by decide) (fun h95 => ?_) (fun h95 => ?_)
    · refine rr_iloadn_1 dX5_windsBy_102 ?_
      exact rr_iret dX5_windsBy_103 ⟨by simp [sd_twt, hs13, h95], rfl⟩
    · refine rr_iconst (v := 0) dX5_windsBy_98 (by decide) ?_
      refine rr_goto 103 dX5_windsBy_99 (by decide) ?_
      exact rr_iret dX5_windsBy_103 ⟨by simp [sd_twt, hs13, h95], rfl⟩
  · rw [hs13]
    refine rr_tableIn 104 dX5_windsBy_13 (by decide) (by decide) rfl (by decide) ?_
    refine rr_aloadn_0 dX5_windsBy_104 ?_
    refine rr_getr 37 dX5_windsBy_105 kf_X5_19 (by omega) rfl rfl rfl ?_
    refine rr_bipush (v := 11) dX5_windsBy_108 (by decide) ?_
    refine rr_iald (11) dX5_windsBy_110 (by omega) rfl rfl (by decide) ?_
    rw [g11]
    refine rr_if_ne 118 dX5_windsBy_111 (by decide) (fun h111 => ?_) (fun h111 => ?_)
    · refine rr_aloadn_0 dX5_windsBy_118 ?_
      refine rr_getr 37 dX5_windsBy_119 kf_X5_19 (by omega) rfl rfl rfl ?_
      refine rr_bipush (v := 11) dX5_windsBy_122 (by decide) ?_
      refine rr_iald (11) dX5_windsBy_124 (by omega) rfl rfl (by decide) ?_
      rw [g11]
      refine rr_iconst (v := 1) dX5_windsBy_125 (by decide) ?_
      refine rr_icmp_ne 133 dX5_windsBy_126 (by decide) (fun h126 => ?_) (fun h126 => ?_)
      · refine rr_iconst (v := (-1)) dX5_windsBy_133 (by decide) ?_
        exact rr_iret dX5_windsBy_134 ⟨by obtain ⟨x, r, b, -, -, -, -, -, -, -, hl, -⟩ := hw; simp only [sd_twt, hs13]; rcases hl with hl | hl | hl <;> simp only [hl] at * <;> first | rfl | exact absurd h111 (by decide) | exact absurd (by decide) h111 | exact absurd h126 (by decide) | exact absurd (by decide) h126, rfl⟩
      · refine rr_iconst (v := 1) dX5_windsBy_129 (by decide) ?_
        refine rr_goto 134 dX5_windsBy_130 (by decide) ?_
        exact rr_iret dX5_windsBy_134 ⟨by obtain ⟨x, r, b, -, -, -, -, -, -, -, hl, -⟩ := hw; simp only [sd_twt, hs13]; rcases hl with hl | hl | hl <;> simp only [hl] at * <;> first | rfl | exact absurd h111 (by decide) | exact absurd (by decide) h111 | exact absurd h126 (by decide) | exact absurd (by decide) h126, rfl⟩
    · refine rr_iloadn_1 dX5_windsBy_114 ?_
      refine rr_goto 134 dX5_windsBy_115 (by decide) ?_
      exact rr_iret dX5_windsBy_134 ⟨by obtain ⟨x, r, b, -, -, -, -, -, -, -, hl, -⟩ := hw; simp only [sd_twt, hs13]; rcases hl with hl | hl | hl <;> simp only [hl] at * <;> first | rfl | exact absurd h111 (by decide) | exact absurd (by decide) h111 | exact absurd h126 (by decide) | exact absurd (by decide) h126, rfl⟩
  · refine rr_tableOut 135 dX5_windsBy_13 hs13.1 (by decide) ?_
    refine rr_iloadn_1 dX5_windsBy_135 ?_
    exact rr_iret dX5_windsBy_136 ⟨by obtain ⟨-, q1, q2, q3, q4, q5⟩ := hs13; simp [sd_twt, q1, q2, q3, q4, q5], rfl⟩
theorem u2_at (σ : rd_S) (o k : Nat) (v : Int32) : rd_u2 σ o k v o k = v := by simp [rd_u2]
theorem u2_off {σ : rd_S} {o k a b : Nat} {v : Int32} (h : ¬ (a = o ∧ b = k)) : rd_u2 σ o k v a b = σ a b := if_neg h
theorem ms_set {σ : rd_S} {D A E : sd_D} {n v : Int32} {k : Nat} (hk : k < 12) (h : md_of E k = v) (ho : ∀ j, j < 12 → j ≠ k → md_of E j = md_of D j) : rd_u2 (ms σ D A n) 37 k v = ms σ E A n := by
  refine ms_ext (fun a b h1 h2 h3 => ?_) (fun j hj => ?_) (fun j hj => ?_) ?_
  · rw [u2_off (by omega)]; exact ms_off h1 h2 h3
  · by_cases hjk : j = k
    · subst hjk; rw [u2_at, h]
    · rw [u2_off (fun q => hjk q.2), ms_st hj, ho j hj hjk]
  · rw [u2_off (by omega)]; exact ms_as hj
  · rw [u2_off (by omega)]; exact ms_net _ _ _ _
theorem ms_chg {σ : rd_S} {D A : sd_D} {n : Int32} {x p q : Nat} (hx : x < 256) (hD : D.1 = nI x) (hp : p < 4) (hq : q < 4) : rd_u2 (rd_u2 (ms σ D A n) 37 p (ms σ D A n 37 q)) 37 q (ms σ D A n 37 p) = ms σ (sd_swap D.1 (nI p) (nI q), D.2) A n := by
  have hs := sw_ok x hx p hp q hq
  have hw := sw_wh x hx p hp q hq
  rw [ms_st (show q < 12 by omega), ms_st (show p < 12 by omega), md_4 hp, md_4 hq]
  refine ms_ext (fun a b h1 h2 h3 => ?_) (fun j hj => ?_) (fun j hj => ?_) ?_
  · rw [u2_off (by omega), u2_off (by omega)]; exact ms_off h1 h2 h3
  · by_cases hj4 : j < 4
    · rw [md_4 hj4]
      show _ = sd_who (sd_swap D.1 (nI p) (nI q)) (nI j)
      rw [hD, hs.1, wh_ok _ hs.2.1 j hj4, hw j hj4, wh_ok x hx p hp, wh_ok x hx q hq]
      by_cases h1 : j = q
      · subst h1; rw [u2_at, if_pos rfl]
      · rw [u2_off (fun z => h1 z.2), if_neg h1]
        by_cases h2 : j = p
        · subst h2; rw [u2_at, if_pos rfl]
        · rw [u2_off (fun z => h2 z.2), if_neg h2, ms_st hj, md_4 hj4, hD, wh_ok x hx j hj4]
    · rw [u2_off (by omega), u2_off (by omega), ms_st hj]
      unfold md_of
      rw [if_neg hj4, if_neg hj4]
  · rw [u2_off (by omega), u2_off (by omega)]; exact ms_as hj
  · rw [u2_off (by omega), u2_off (by omega)]; exact ms_net _ _ _ _
theorem tight_iff {u l t : Int32} (h : wf_ul u l) (ht : tw_c t) : (9999 < u + t * l ∨ u + t * l < -9999 ∨ 9999 < l) ↔ 9999 < sd_abs (u + t * l) := by
  have h1 := wf_v h ht
  rw [wf_ti h ht, Int32.lt_iff_toInt_lt, Int32.lt_iff_toInt_lt, Int32.lt_iff_toInt_lt, h1, show (9999 : Int32).toInt = 9999 from rfl, show (-9999 : Int32).toInt = -9999 from rfl]
  obtain ⟨a1, a2, a3, a4, a5, a6⟩ := h
  omega
theorem wf_u1 {u l t : Int32} (h : wf_ul u l) (ht : tw_c t) : (if l = 0 then 1 else u + t * l) = u + t * l := by
  split
  · rename_i h0
    have h1 := wf_v h ht
    obtain ⟨a1, a2, a3, a4, a5, a6⟩ := h
    have hl : l.toInt = 0 := by rw [h0]; rfl
    apply Int32.toInt_inj.mp
    rw [h1, hl, Int.mul_zero, Int.add_zero, a6 hl]; rfl
  · rfl
/-- what a figure winds, but for the beat -/
def sd_wnd (D : sd_D) (t : Int32) : sd_D := (if t - t / 2 * 2 = 0 then D.1 else sd_swap D.1 1 2, D.2.1, D.2.2.1 + t * D.2.2.2.1, D.2.2.2.1, if t = 0 then D.2.2.2.2.1 else if t ≤ 0 then -1 else 1, D.2.2.2.2.2)
set_option maxHeartbeats 4000000 in
set_option maxRecDepth 100000 in
theorem c_winds_n (N d : Nat) (σ : rd_S) (hN : 49 ≤ N) (c : Nat) (hc : c < 1000000) (D A : sd_D) (n kb : Int32) (hw : wf c D) (hk : kd_at σ kb) (t : Int32) (ht : tw_c (sd_twt D t kb)) (hti : 9999 < sd_abs (D.2.2.1 + sd_twt D t kb * D.2.2.2.1)) : rd_T N (d + 1) yX5_winds cX5_winds 4 (some .boolean) [.ref 33, .int t] (ms σ D A n) (rd_is (some (.int 0)) (ms σ D A n)) := by
  refine rd_start RX5 [.ref 33, .int t, .retAddr 0, .retAddr 0] rfl (by decide +kernel) rfl (Nat.le_of_ble_eq_true rfl) ?_
  have hul : wf_ul D.2.2.1 D.2.2.2.1 := by obtain ⟨x, r, b, h1, h2, h3, h4, h5, h6, h7, h8, h9⟩ := hw; exact h9
  have g8 : ms σ D A n 37 8 = D.2.2.1 := by rw [ms_st (by decide)]; rfl
  have g9 : ∀ m, ms σ D A m 37 9 = D.2.2.2.1 := fun m => by rw [ms_st (by decide)]; rfl
  refine rr_aloadn_0 dX5_winds_0 ?_
  refine rr_iloadn_1 dX5_winds_1 ?_
  refine rr_callViD (c_X5_windsBy N _ _ hN c hc D A n kb hw hk t) km_X5_120 rfl rfl (by omega) rfl (Nat.le_of_ble_eq_true rfl) dX5_winds_2 ?_
  refine rr_istoren_2 dX5_winds_5 rfl ?_
  refine rr_aloadn_0 dX5_winds_6 ?_
  refine rr_getr 37 dX5_winds_7 kf_X5_19 (by omega) rfl rfl rfl ?_
  refine rr_bipush (v := 8) dX5_winds_10 (by decide) ?_
  refine rr_iald (8) dX5_winds_12 (by omega) rfl rfl (by decide) ?_
  rw [g8]
  refine rr_iloadn_2 dX5_winds_13 ?_
  refine rr_aloadn_0 dX5_winds_14 ?_
  refine rr_getr 37 dX5_winds_15 kf_X5_19 (by omega) rfl rfl rfl ?_
  refine rr_bipush (v := 9) dX5_winds_18 (by decide) ?_
  refine rr_iald (9) dX5_winds_20 (by omega) rfl rfl (by decide) ?_
  rw [g9]
  refine rr_imul dX5_winds_21 ?_
  refine rr_iadd dX5_winds_22 ?_
  refine rr_istoren_3 dX5_winds_23 rfl ?_
  refine rr_iloadn_3 dX5_winds_24 ?_
  refine rr_aloadn_0 dX5_winds_25 ?_
  refine rr_getr 37 dX5_winds_26 kf_X5_19 (by omega) rfl rfl rfl ?_
  refine rr_bipush (v := 9) dX5_winds_29 (by decide) ?_
  refine rr_iald (9) dX5_winds_31 (by omega) rfl rfl (by decide) ?_
  rw [g9]
  refine rr_callSiD (c_X5_isTight N _ _ _ _) km_X5_123 rfl rfl (Nat.le_of_ble_eq_true rfl) dX5_winds_32 ?_
  refine rr_if_eq 40 dX5_winds_35 (by decide) (fun h35 => absurd h35 (by rw [if_pos ((tight_iff hul ht).mpr hti)]; decide)) (fun h35 => ?_)
  refine rr_iconst (v := 0) dX5_winds_38 (by decide) ?_
  exact rr_zret dX5_winds_39 (by decide) ⟨rfl, rfl⟩
set_option maxHeartbeats 4000000 in
set_option maxRecDepth 100000 in
theorem c_winds_s (N d : Nat) (σ : rd_S) (hN : 49 ≤ N) (c : Nat) (hc : c < 1000000) (D A : sd_D) (n kb : Int32) (hw : wf c D) (hk : kd_at σ kb) (t : Int32) (ht : tw_c (sd_twt D t kb)) (hti : ¬ 9999 < sd_abs (D.2.2.1 + sd_twt D t kb * D.2.2.2.1)) : rd_T N (d + 1) yX5_winds cX5_winds 4 (some .boolean) [.ref 33, .int t] (ms σ D A n) (rd_is (some (.int 1)) (ms σ (sd_wnd D (sd_twt D t kb)) A (sd_twt D t kb))) := by
  refine rd_start RX5 [.ref 33, .int t, .retAddr 0, .retAddr 0] rfl (by decide +kernel) rfl (Nat.le_of_ble_eq_true rfl) ?_
  have hul : wf_ul D.2.2.1 D.2.2.2.1 := by obtain ⟨x, r, b, h1, h2, h3, h4, h5, h6, h7, h8, h9⟩ := hw; exact h9
  have g8 : ms σ D A n 37 8 = D.2.2.1 := by rw [ms_st (by decide)]; rfl
  have g9 : ∀ m, ms σ D A m 37 9 = D.2.2.2.1 := fun m => by rw [ms_st (by decide)]; rfl
  have tail : ∀ (w x u' : Int32), tw_c w → x = (if w - w / 2 * 2 = 0 then D.1 else sd_swap D.1 1 2) → u' = D.2.2.1 + w * D.2.2.2.1 → rd_W N (d + 1) RX5 cX5_winds 4 (some .boolean) 83 [.ref 33, .int t, .int w, .int u'] [] (ms σ (x, D.2.1, u', D.2.2.2.1, D.2.2.2.2.1, D.2.2.2.2.2) A w) (rd_is (some (.int 1)) (ms σ (sd_wnd D w) A w)) := by
    intro w x u' hwc hx hu
    have g11 : ms σ (x, D.2.1, u', D.2.2.2.1, D.2.2.2.2.1, D.2.2.2.2.2) A w 37 11 = if D.2.2.2.2.1 < 0 then 2 else D.2.2.2.2.1 := by rw [ms_st (by decide)]; rfl
    refine rr_aloadn_0 dX5_winds_83 ?_
    refine rr_getr 37 dX5_winds_84 kf_X5_19 (by omega) rfl rfl rfl ?_
    refine rr_bipush (v := 11) dX5_winds_87 (by decide) ?_
    refine rr_iloadn_2 dX5_winds_89 ?_
    refine rr_if_ne 103 dX5_winds_90 (by decide) (fun h90 => ?_) (fun h90 => ?_)
    · refine rr_iloadn_2 dX5_winds_103 ?_
      refine rr_if_le 111 dX5_winds_104 (by decide) (fun h104 => ?_) (fun h104 => ?_)
      · refine rr_iconst (v := 2) dX5_winds_111 (by decide) ?_
        refine rr_iast (11) dX5_winds_112 (by omega) rfl rfl (by decide) ?_
        refine rr_iconst (v := 1) dX5_winds_113 (by decide) ?_
        exact rr_zret dX5_winds_114 (by decide) ⟨rfl, ms_set (by decide) (by subst hx; subst hu; simp [md_of, sd_wnd, *]) (fun j hj hne => by subst hx; subst hu; unfold md_of; simp only [sd_wnd]; split; rfl; split; rfl; split; rfl; split; rfl; split; rfl; omega)⟩
      · refine rr_iconst (v := 1) dX5_winds_107 (by decide) ?_
        refine rr_goto 112 dX5_winds_108 (by decide) ?_
        refine rr_iast (11) dX5_winds_112 (by omega) rfl rfl (by decide) ?_
        refine rr_iconst (v := 1) dX5_winds_113 (by decide) ?_
        exact rr_zret dX5_winds_114 (by decide) ⟨rfl, ms_set (by decide) (by subst hx; subst hu; simp [md_of, sd_wnd, *]) (fun j hj hne => by subst hx; subst hu; unfold md_of; simp only [sd_wnd]; split; rfl; split; rfl; split; rfl; split; rfl; split; rfl; omega)⟩
    · refine rr_aloadn_0 dX5_winds_93 ?_
      refine rr_getr 37 dX5_winds_94 kf_X5_19 (by omega) rfl rfl rfl ?_
      refine rr_bipush (v := 11) dX5_winds_97 (by decide) ?_
      refine rr_iald (11) dX5_winds_99 (by omega) rfl rfl (by decide) ?_
      rw [g11]
      refine rr_goto 112 dX5_winds_100 (by decide) ?_
      refine rr_iast (11) dX5_winds_112 (by omega) rfl rfl (by decide) ?_
      refine rr_iconst (v := 1) dX5_winds_113 (by decide) ?_
      exact rr_zret dX5_winds_114 (by decide) ⟨rfl, ms_set (by decide) (by subst hx; subst hu; simp [md_of, sd_wnd, *]) (fun j hj hne => by subst hx; subst hu; unfold md_of; simp only [sd_wnd]; split; rfl; split; rfl; split; rfl; split; rfl; split; rfl; omega)⟩
  refine rr_aloadn_0 dX5_winds_0 ?_
  refine rr_iloadn_1 dX5_winds_1 ?_
  refine rr_callViD (c_X5_windsBy N _ _ hN c hc D A n kb hw hk t) km_X5_120 rfl rfl (by omega) rfl (Nat.le_of_ble_eq_true rfl) dX5_winds_2 ?_
  refine rr_istoren_2 dX5_winds_5 rfl ?_
  refine rr_aloadn_0 dX5_winds_6 ?_
  refine rr_getr 37 dX5_winds_7 kf_X5_19 (by omega) rfl rfl rfl ?_
  refine rr_bipush (v := 8) dX5_winds_10 (by decide) ?_
  refine rr_iald (8) dX5_winds_12 (by omega) rfl rfl (by decide) ?_
  rw [g8]
  refine rr_iloadn_2 dX5_winds_13 ?_
  refine rr_aloadn_0 dX5_winds_14 ?_
  refine rr_getr 37 dX5_winds_15 kf_X5_19 (by omega) rfl rfl rfl ?_
  refine rr_bipush (v := 9) dX5_winds_18 (by decide) ?_
  refine rr_iald (9) dX5_winds_20 (by omega) rfl rfl (by decide) ?_
  rw [g9]
  refine rr_imul dX5_winds_21 ?_
  refine rr_iadd dX5_winds_22 ?_
  refine rr_istoren_3 dX5_winds_23 rfl ?_
  refine rr_iloadn_3 dX5_winds_24 ?_
  refine rr_aloadn_0 dX5_winds_25 ?_
  refine rr_getr 37 dX5_winds_26 kf_X5_19 (by omega) rfl rfl rfl ?_
  refine rr_bipush (v := 9) dX5_winds_29 (by decide) ?_
  refine rr_iald (9) dX5_winds_31 (by omega) rfl rfl (by decide) ?_
  rw [g9]
  refine rr_callSiD (c_X5_isTight N _ _ _ _) km_X5_123 rfl rfl (Nat.le_of_ble_eq_true rfl) dX5_winds_32 ?_
  refine rr_if_eq 40 dX5_winds_35 (by decide) (fun h35 => ?_) (fun h35 => absurd (by rw [if_neg (fun q => hti ((tight_iff hul ht).mp q))]) h35)
  refine rr_aloadn_0 dX5_winds_40 ?_
  refine rr_iloadn_2 dX5_winds_41 ?_
  refine rr_puti dX5_winds_42 kf_X5_127 if_5_18 (by omega) rfl rfl ?_
  rw [ms_net2]
  refine rr_aloadn_0 dX5_winds_45 ?_
  refine rr_getr 37 dX5_winds_46 kf_X5_19 (by omega) rfl rfl rfl ?_
  refine rr_bipush (v := 8) dX5_winds_49 (by decide) ?_
  refine rr_aloadn_0 dX5_winds_51 ?_
  refine rr_getr 37 dX5_winds_52 kf_X5_19 (by omega) rfl rfl rfl ?_
  refine rr_bipush (v := 9) dX5_winds_55 (by decide) ?_
  refine rr_iald (9) dX5_winds_57 (by omega) rfl rfl (by decide) ?_
  rw [g9]
  refine rr_if_neJ 65 66 (D.2.2.1 + sd_twt D t kb * D.2.2.2.1) (1) dX5_winds_58 (by decide) (fun h58 k58 => ?_) (fun h58 k58 => ?_) ?_
  · refine rr_iloadn_3 dX5_winds_65 ?_
    exact k58
  · refine rr_iconst (v := 1) dX5_winds_61 (by decide) ?_
    refine rr_goto 66 dX5_winds_62 (by decide) ?_
    exact k58
  rw [wf_u1 hul ht]
  refine rr_iast (8) dX5_winds_66 (by omega) rfl rfl (by decide) ?_
  rw [show rd_u2 (ms σ D A (sd_twt D t kb)) 37 8 (D.2.2.1 + sd_twt D t kb * D.2.2.2.1) = ms σ (D.1, D.2.1, D.2.2.1 + sd_twt D t kb * D.2.2.2.1, D.2.2.2.1, D.2.2.2.2.1, D.2.2.2.2.2) A (sd_twt D t kb) from ms_set (by decide) rfl (fun j hj hne => by simp [md_of, hne])]
  generalize hgw : sd_twt D t kb = w at ht hti ⊢
  obtain ⟨x, r, b, h1, h2, h3, h4, h5, h6, h7, h8, h9⟩ := hw
  refine rr_iloadn_2 dX5_winds_67 ?_
  refine rr_iconst (v := 1) dX5_winds_68 (by decide) ?_
  refine rr_icmp_eq 77 dX5_winds_69 (by decide) (fun h69 => ?_) (fun h69 => ?_)
  · refine rr_aloadn_0 dX5_winds_77 ?_
    refine rr_iconst (v := 1) dX5_winds_78 (by decide) ?_
    refine rr_iconst (v := 2) dX5_winds_79 (by decide) ?_
    refine rr_callVvD (c_X5_changePlaces N _ _ hN 1 2 (by decide) (by decide)) km_X5_130 rfl rfl (by omega) rfl (Nat.le_of_ble_eq_true rfl) dX5_winds_80 ?_
    first | (rw [ms_chg (D := (D.1, D.2.1, D.2.2.1 + w * D.2.2.2.1, D.2.2.2.1, D.2.2.2.2.1, D.2.2.2.2.2)) (x := x) h1 h5 (by decide) (by decide)]; exact tail w _ _ ht (by first | (rw [h69]; exact (if_neg (by decide)).symm) | (rw [h74]; exact (if_neg (by decide)).symm)) rfl) | exact tail w _ _ ht (by rcases ht with rfl | rfl | rfl | rfl | rfl; rfl; exact absurd rfl h69; exact absurd rfl h74; rfl; rfl) rfl
  · refine rr_iloadn_2 dX5_winds_72 ?_
    refine rr_iconst (v := (-1)) dX5_winds_73 (by decide) ?_
    refine rr_icmp_ne 83 dX5_winds_74 (by decide) (fun h74 => ?_) (fun h74 => ?_)
    · first | (rw [ms_chg (D := (D.1, D.2.1, D.2.2.1 + w * D.2.2.2.1, D.2.2.2.1, D.2.2.2.2.1, D.2.2.2.2.2)) (x := x) h1 h5 (by decide) (by decide)]; exact tail w _ _ ht (by first | (rw [h69]; exact (if_neg (by decide)).symm) | (rw [h74]; exact (if_neg (by decide)).symm)) rfl) | exact tail w _ _ ht (by rcases ht with rfl | rfl | rfl | rfl | rfl; rfl; exact absurd rfl h69; exact absurd rfl h74; rfl; rfl) rfl
    · refine rr_aloadn_0 dX5_winds_77 ?_
      refine rr_iconst (v := 1) dX5_winds_78 (by decide) ?_
      refine rr_iconst (v := 2) dX5_winds_79 (by decide) ?_
      refine rr_callVvD (c_X5_changePlaces N _ _ hN 1 2 (by decide) (by decide)) km_X5_130 rfl rfl (by omega) rfl (Nat.le_of_ble_eq_true rfl) dX5_winds_80 ?_
      first | (rw [ms_chg (D := (D.1, D.2.1, D.2.2.1 + w * D.2.2.2.1, D.2.2.2.1, D.2.2.2.2.1, D.2.2.2.2.2)) (x := x) h1 h5 (by decide) (by decide)]; exact tail w _ _ ht (by first | (rw [h69]; exact (if_neg (by decide)).symm) | (rw [h74]; exact (if_neg (by decide)).symm)) rfl) | exact tail w _ _ ht (by rcases ht with rfl | rfl | rfl | rfl | rfl; rfl; exact absurd rfl h69; exact absurd rfl h74; rfl; rfl) rfl
/-- a TURN, but for the beat -/
theorem tn_md {x : Nat} (hx : x < 256) {D : sd_D} (hD : D.1 = nI x) : (sd_turn D).1 = nI (tn x) := by
  simp only [sd_turn, hD]; exact (tn_ok x hx).1
theorem ms_turn {σ : rd_S} {D A : sd_D} {n v8 v9 : Int32} {x : Nat} (hx : x < 256) (hD : D.1 = nI x) (h8 : v8 = (sd_turn D).2.2.1) (h9 : v9 = (sd_turn D).2.2.2.1) {f : rd_S} (hf : ∀ a b, ¬ (a = 37 ∧ b < 12) → f a b = ms σ D A n a b) (f0 : f 37 0 = md_of D 3) (f1 : f 37 1 = md_of D 0) (f2 : f 37 2 = md_of D 1) (f3 : f 37 3 = md_of D 2) (f8 : f 37 8 = v8) (f9 : f 37 9 = v9) (fo : ∀ j, j < 12 → 4 ≤ j → j ≠ 8 → j ≠ 9 → f 37 j = md_of D j) : f = ms σ (sd_turn D) A n := by
  obtain ⟨t1, t2, t3, t4, t5, t6, t7⟩ := tn_ok x hx
  have hT := tn_md hx hD
  refine ms_ext (fun a b h1 h2 h3 => ?_) (fun j hj => ?_) (fun j hj => ?_) ?_
  · rw [hf a b h1]; exact ms_off h1 h2 h3
  · by_cases hj4 : j < 4
    · rw [md_4 hj4, hT, wh_ok _ t2 j hj4]
      have e : ∀ k, k < 4 → md_of D k = nI (wh x k) := fun k hk => by rw [md_4 hk, hD, wh_ok x hx k hk]
      rcases (show j = 0 ∨ j = 1 ∨ j = 2 ∨ j = 3 by omega) with rfl | rfl | rfl | rfl
      · rw [f0, e 3 (by decide), t4]
      · rw [f1, e 0 (by decide), t5]
      · rw [f2, e 1 (by decide), t6]
      · rw [f3, e 2 (by decide), t7]
    · by_cases h8' : j = 8
      · subst h8'; rw [f8, h8]; rfl
      · by_cases h9' : j = 9
        · subst h9'; rw [f9, h9]; rfl
        · rw [fo j hj (by omega) h8' h9']
          unfold md_of
          rw [if_neg hj4, if_neg hj4, if_neg h8', if_neg h9', if_neg h8', if_neg h9']
          rfl
  · rw [hf _ _ (by omega)]; exact ms_as hj
  · rw [hf _ _ (by omega)]; exact ms_net _ _ _ _
set_option maxHeartbeats 4000000 in
set_option maxRecDepth 100000 in
theorem c_X5_turns (N d : Nat) (σ : rd_S) (hN : 49 ≤ N) (c : Nat) (D A : sd_D) (n : Int32) (hw : wf c D) : rd_T N (d + 1) yX5_turns cX5_turns 5 (some .boolean) [.ref 33] (ms σ D A n) (rd_is (some (.int 1)) (ms σ (sd_turn D) A n)) := by
  refine rd_start RX5 [.ref 33, .retAddr 0, .retAddr 0, .retAddr 0, .retAddr 0] rfl (by decide +kernel) rfl (Nat.le_of_ble_eq_true rfl) ?_
  obtain ⟨x, r, b, q1, q2, q3, q4, q5, q6, q7, q8, q9⟩ := hw
  have gm : ∀ k, k < 12 → ms σ D A n 37 k = md_of D k := fun k hk => ms_st hk
  have g8 : ms σ D A n 37 8 = D.2.2.1 := gm 8 (by decide)
  have g9 : ms σ D A n 37 9 = D.2.2.2.1 := gm 9 (by decide)
  obtain ⟨a1, a2, a3, a4, a5, a6⟩ := q9
  have hnt : ∀ v : Int32, v.toInt = D.2.2.1.toInt.natAbs → ¬ (9999 < D.2.2.2.1 ∨ D.2.2.2.1 < -9999 ∨ 9999 < v) := by
    intro v hv
    rw [Int32.lt_iff_toInt_lt, Int32.lt_iff_toInt_lt, Int32.lt_iff_toInt_lt, hv, show (9999 : Int32).toInt = 9999 from rfl, show (-9999 : Int32).toInt = -9999 from rfl]
    omega
  have hab : ∀ v : Int32, v = (if 0 ≤ D.2.2.1 then D.2.2.1 else -D.2.2.1) → v.toInt = D.2.2.1.toInt.natAbs := by
    intro v hv
    subst hv
    by_cases hz : 0 ≤ D.2.2.1
    · rw [if_pos hz]; have := Int32.le_iff_toInt_le.mp hz; rw [show (0 : Int32).toInt = 0 from rfl] at this; omega
    · rw [if_neg hz, ti_neg (by omega)]; have this : ¬ (0 : Int32).toInt ≤ D.2.2.1.toInt := fun q => hz (Int32.le_iff_toInt_le.mpr q); rw [show (0 : Int32).toInt = 0 from rfl] at this; omega
  refine rr_aloadn_0 dX5_turns_0 ?_
  refine rr_getr 37 dX5_turns_1 kf_X5_19 (by omega) rfl rfl rfl ?_
  refine rr_bipush (v := 8) dX5_turns_4 (by decide) ?_
  refine rr_iald (8) dX5_turns_6 (by omega) rfl (by decide) (by decide) ?_
  rw [g8]
  refine rr_istoren_1 dX5_turns_7 rfl ?_
  refine rr_aloadn_0 dX5_turns_8 ?_
  refine rr_getr 37 dX5_turns_9 kf_X5_19 (by omega) rfl rfl rfl ?_
  refine rr_bipush (v := 9) dX5_turns_12 (by decide) ?_
  refine rr_iald (9) dX5_turns_14 (by omega) rfl (by decide) (by decide) ?_
  rw [g9]
  refine rr_istoren_2 dX5_turns_15 rfl ?_
  refine rr_iloadn_2 dX5_turns_16 ?_
  refine rr_iloadn_1 dX5_turns_17 ?_
  refine rr_if_geJ 26 27 (D.2.2.1) (-D.2.2.1) dX5_turns_18 (by decide) (fun h18 k18 => ?_) (fun h18 k18 => ?_) ?_
  · refine rr_iloadn_1 dX5_turns_26 ?_
    exact k18
  · refine rr_iloadn_1 dX5_turns_21 ?_
    refine rr_ineg dX5_turns_22 ?_
    refine rr_goto 27 dX5_turns_23 (by decide) ?_
    exact k18
  refine rr_callSiD (c_X5_isTight N _ _ _ _) km_X5_123 rfl rfl (Nat.le_of_ble_eq_true rfl) dX5_turns_27 ?_
  refine rr_if_eq 35 dX5_turns_30 (by decide) (fun h30 => ?_) (fun h30 => absurd (by rw [if_neg (hnt _ (hab _ rfl))]) h30)
  refine rr_aloadn_0 dX5_turns_35 ?_
  refine rr_getr 37 dX5_turns_36 kf_X5_19 (by omega) rfl rfl rfl ?_
  refine rr_iconst (v := 3) dX5_turns_39 (by decide) ?_
  refine rr_iald (3) dX5_turns_40 (by omega) rfl (by decide) (by decide) ?_
  refine rr_istoren_3 dX5_turns_41 rfl ?_
  refine rr_iconst (v := 3) dX5_turns_42 (by decide) ?_
  refine rr_istore_4 dX5_turns_43 rfl ?_
  refine rr_iload_4 dX5_turns_45 ?_
  refine rr_if_le 76 dX5_turns_47 (by decide) (fun h47 => absurd h47 (by decide)) (fun _ => ?_)
  refine rr_aloadn_0 dX5_turns_50 ?_
  refine rr_getr 37 dX5_turns_51 kf_X5_19 (by omega) rfl rfl rfl ?_
  refine rr_iconst (v := 0) dX5_turns_54 (by decide) ?_
  refine rr_iload_4 dX5_turns_55 ?_
  refine rr_iadd dX5_turns_57 ?_
  refine rr_aloadn_0 dX5_turns_58 ?_
  refine rr_getr 37 dX5_turns_59 kf_X5_19 (by omega) rfl rfl rfl ?_
  refine rr_iconst (v := 0) dX5_turns_62 (by decide) ?_
  refine rr_iload_4 dX5_turns_63 ?_
  refine rr_iadd dX5_turns_65 ?_
  refine rr_iconst (v := 1) dX5_turns_66 (by decide) ?_
  refine rr_isub dX5_turns_67 ?_
  refine rr_iald (2) dX5_turns_68 (by omega) rfl (by decide) (by decide) ?_
  refine rr_iast (3) dX5_turns_69 (by omega) rfl (by decide) (by decide) ?_
  refine rr_iincC_4 (-1) 2 dX5_turns_70 (by decide) (by decide) rfl ?_
  refine rr_goto 45 dX5_turns_73 (by decide) ?_
  refine rr_iload_4 dX5_turns_45 ?_
  refine rr_if_le 76 dX5_turns_47 (by decide) (fun h47_1 => absurd h47_1 (by decide)) (fun _ => ?_)
  refine rr_aloadn_0 dX5_turns_50 ?_
  refine rr_getr 37 dX5_turns_51 kf_X5_19 (by omega) rfl rfl rfl ?_
  refine rr_iconst (v := 0) dX5_turns_54 (by decide) ?_
  refine rr_iload_4 dX5_turns_55 ?_
  refine rr_iadd dX5_turns_57 ?_
  refine rr_aloadn_0 dX5_turns_58 ?_
  refine rr_getr 37 dX5_turns_59 kf_X5_19 (by omega) rfl rfl rfl ?_
  refine rr_iconst (v := 0) dX5_turns_62 (by decide) ?_
  refine rr_iload_4 dX5_turns_63 ?_
  refine rr_iadd dX5_turns_65 ?_
  refine rr_iconst (v := 1) dX5_turns_66 (by decide) ?_
  refine rr_isub dX5_turns_67 ?_
  refine rr_iald (1) dX5_turns_68 (by omega) rfl (by decide) (by decide) ?_
  refine rr_iast (2) dX5_turns_69 (by omega) rfl (by decide) (by decide) ?_
  refine rr_iincC_4 (-1) 1 dX5_turns_70 (by decide) (by decide) rfl ?_
  refine rr_goto 45 dX5_turns_73 (by decide) ?_
  refine rr_iload_4 dX5_turns_45 ?_
  refine rr_if_le 76 dX5_turns_47 (by decide) (fun h47_2 => absurd h47_2 (by decide)) (fun _ => ?_)
  refine rr_aloadn_0 dX5_turns_50 ?_
  refine rr_getr 37 dX5_turns_51 kf_X5_19 (by omega) rfl rfl rfl ?_
  refine rr_iconst (v := 0) dX5_turns_54 (by decide) ?_
  refine rr_iload_4 dX5_turns_55 ?_
  refine rr_iadd dX5_turns_57 ?_
  refine rr_aloadn_0 dX5_turns_58 ?_
  refine rr_getr 37 dX5_turns_59 kf_X5_19 (by omega) rfl rfl rfl ?_
  refine rr_iconst (v := 0) dX5_turns_62 (by decide) ?_
  refine rr_iload_4 dX5_turns_63 ?_
  refine rr_iadd dX5_turns_65 ?_
  refine rr_iconst (v := 1) dX5_turns_66 (by decide) ?_
  refine rr_isub dX5_turns_67 ?_
  refine rr_iald (0) dX5_turns_68 (by omega) rfl (by decide) (by decide) ?_
  refine rr_iast (1) dX5_turns_69 (by omega) rfl (by decide) (by decide) ?_
  refine rr_iincC_4 (-1) 0 dX5_turns_70 (by decide) (by decide) rfl ?_
  refine rr_goto 45 dX5_turns_73 (by decide) ?_
  refine rr_iload_4 dX5_turns_45 ?_
  refine rr_if_le 76 dX5_turns_47 (by decide) (fun _ => ?_) (fun h47_3 => absurd h47_3 (by decide))
  refine rr_aloadn_0 dX5_turns_76 ?_
  refine rr_getr 37 dX5_turns_77 kf_X5_19 (by omega) rfl rfl rfl ?_
  refine rr_iconst (v := 0) dX5_turns_80 (by decide) ?_
  refine rr_iloadn_3 dX5_turns_81 ?_
  refine rr_iast (0) dX5_turns_82 (by omega) rfl (by decide) (by decide) ?_
  refine rr_aloadn_0 dX5_turns_83 ?_
  refine rr_getr 37 dX5_turns_84 kf_X5_19 (by omega) rfl rfl rfl ?_
  refine rr_bipush (v := 8) dX5_turns_87 (by decide) ?_
  refine rr_iloadn_1 dX5_turns_89 ?_
  refine rr_if_ne 97 dX5_turns_90 (by decide) (fun h90 => ?_) (fun h90 => ?_)
  · refine rr_iloadn_1 dX5_turns_97 ?_
    refine rr_if_leJ 106 107 (D.2.2.2.1) (-D.2.2.2.1) dX5_turns_98 (by decide) (fun h98 k98 => ?_) (fun h98 k98 => ?_) ?_
    · refine rr_iloadn_2 dX5_turns_106 ?_
      exact k98
    · refine rr_iloadn_2 dX5_turns_101 ?_
      refine rr_ineg dX5_turns_102 ?_
      refine rr_goto 107 dX5_turns_103 (by decide) ?_
      exact k98
    refine rr_iast (8) dX5_turns_107 (by omega) rfl (by decide) (by decide) ?_
    refine rr_aloadn_0 dX5_turns_108 ?_
    refine rr_getr 37 dX5_turns_109 kf_X5_19 (by omega) rfl rfl rfl ?_
    refine rr_bipush (v := 9) dX5_turns_112 (by decide) ?_
    refine rr_iloadn_1 dX5_turns_114 ?_
    refine rr_if_geJ 123 124 (D.2.2.1) (-D.2.2.1) dX5_turns_115 (by decide) (fun h115 k115 => ?_) (fun h115 k115 => ?_) ?_
    · refine rr_iloadn_1 dX5_turns_123 ?_
      exact k115
    · refine rr_iloadn_1 dX5_turns_118 ?_
      refine rr_ineg dX5_turns_119 ?_
      refine rr_goto 124 dX5_turns_120 (by decide) ?_
      exact k115
    refine rr_iast (9) dX5_turns_124 (by omega) rfl (by decide) (by decide) ?_
    refine rr_iconst (v := 1) dX5_turns_125 (by decide) ?_
    exact rr_zret dX5_turns_126 (by decide) ⟨rfl, ms_turn q1 q5 rfl rfl (fun a b hab2 => by repeat rw [u2_off (by omega)]) (by simp [rd_u2, gm]) (by simp [rd_u2, gm]) (by simp [rd_u2, gm]) (by simp [rd_u2, gm]) (by simp only [rd_u2, sd_turn]; simp [*]) (by simp only [rd_u2, sd_turn]; simp [*, sd_abs]) (fun j hj h4 h8 h9 => by (repeat rw [u2_off (by omega)]); exact gm j hj)⟩
  · refine rr_iconst (v := 1) dX5_turns_93 (by decide) ?_
    refine rr_goto 107 dX5_turns_94 (by decide) ?_
    refine rr_iast (8) dX5_turns_107 (by omega) rfl (by decide) (by decide) ?_
    refine rr_aloadn_0 dX5_turns_108 ?_
    refine rr_getr 37 dX5_turns_109 kf_X5_19 (by omega) rfl rfl rfl ?_
    refine rr_bipush (v := 9) dX5_turns_112 (by decide) ?_
    refine rr_iloadn_1 dX5_turns_114 ?_
    refine rr_if_geJ 123 124 (D.2.2.1) (-D.2.2.1) dX5_turns_115 (by decide) (fun h115 k115 => ?_) (fun h115 k115 => ?_) ?_
    · refine rr_iloadn_1 dX5_turns_123 ?_
      exact k115
    · refine rr_iloadn_1 dX5_turns_118 ?_
      refine rr_ineg dX5_turns_119 ?_
      refine rr_goto 124 dX5_turns_120 (by decide) ?_
      exact k115
    refine rr_iast (9) dX5_turns_124 (by omega) rfl (by decide) (by decide) ?_
    refine rr_iconst (v := 1) dX5_turns_125 (by decide) ?_
    exact rr_zret dX5_turns_126 (by decide) ⟨rfl, ms_turn q1 q5 rfl rfl (fun a b hab2 => by repeat rw [u2_off (by omega)]) (by simp [rd_u2, gm]) (by simp [rd_u2, gm]) (by simp [rd_u2, gm]) (by simp [rd_u2, gm]) (by simp only [rd_u2, sd_turn]; simp [*]) (by simp only [rd_u2, sd_turn]; simp [*, sd_abs]) (fun j hj h4 h8 h9 => by (repeat rw [u2_off (by omega)]); exact gm j hj)⟩
