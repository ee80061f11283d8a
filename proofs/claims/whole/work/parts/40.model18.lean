/-! ===== the reference: an item is read ===== -/
theorem sh2 : ∀ k, k < 12 → ((((2 : Int32) * nI k) &&& 31).toBitVec.smod 32).toNat = 2 * k := by decide +kernel
theorem p4_2 (k : Nat) : 2 ^ (2 * k) = 4 ^ k := by rw [Nat.pow_mul]
theorem p4_le {k : Nat} (h : k ≤ 12) : 4 ^ k ≤ 16777216 := by
  have : 4 ^ k ≤ 4 ^ 12 := Nat.pow_le_pow_right (by decide) h
  exact this
theorem gd_who {G k : Nat} (hG : G < 2 ^ 31) (hk : k < 12) : sd_who (nI G) (nI k) = nI (G / 4 ^ k % 4) := by
  unfold sd_who
  have h2 : G / 4 ^ k ≤ G := Nat.div_le_self _ _
  rw [pk_shrN hG _ (2 * k) (sh2 k hk), p4_2, pk_andN (by omega) 2 rfl]
theorem gd_or {G f m : Nat} (hG : G < 4 ^ m) (hf : f < 4) (hm : m < 12) : nI G ||| (nI f <<< ((2 * nI m) &&& 31)) = nI (G + f * 4 ^ m) := by
  have h4 := p4_le (k := m) (by omega)
  have hfm : f * 4 ^ m ≤ 3 * 4 ^ m := Nat.mul_le_mul_right _ (by omega)
  rw [pk_shlN _ (2 * m) (sh2 m hm) (by rw [p4_2]; omega), p4_2]
  apply Int32.toBitVec_inj.mp
  apply BitVec.eq_of_toNat_eq
  rw [Int32.toBitVec_or, BitVec.toNat_or, pk_tn (by omega), pk_tn (by omega), pk_tn (by omega), Nat.or_comm]
  have := Nat.two_pow_add_eq_or_of_lt (i := 2 * m) (b := G) (by rw [p4_2]; exact hG) f
  rw [p4_2, Nat.mul_comm] at this
  rw [← this]; omega
theorem gd_all {X : ps_X} (h12 : X.1 < 12) {f : Nat} (hf : f < 4) : ∀ G, G < 4 ^ X.1 → X.2.2.1 = nI G → nI G ||| (nI f <<< ((2 * nI X.1) &&& 31)) = nI (G + f * 4 ^ X.1) ∧ (∀ k, k < X.1 → sd_who (nI (G + f * 4 ^ X.1)) (nI k) = sd_who (nI G) (nI k)) ∧ sd_who (nI (G + f * 4 ^ X.1)) (nI X.1) = nI f := by
  intro G hG _
  generalize X.1 = m at h12 hG ⊢
  have h4 := p4_le (k := m) (by omega)
  have h4p : 0 < 4 ^ m := Nat.pow_pos (by decide)
  have hfm : f * 4 ^ m ≤ 3 * 4 ^ m := Nat.mul_le_mul_right _ (by omega)
  refine ⟨gd_or hG hf h12, fun k hk => ?_, ?_⟩
  · rw [gd_who (by omega) (by omega), gd_who (by omega) (by omega)]
    obtain ⟨e, rfl⟩ : ∃ e, m = k + 1 + e := ⟨m - k - 1, by omega⟩
    have hk4 : 0 < 4 ^ k := Nat.pow_pos (by decide)
    have e1 : f * 4 ^ (k + 1 + e) = 4 ^ k * (4 * (f * 4 ^ e)) := by
      rw [Nat.pow_add, Nat.pow_succ]
      simp only [Nat.mul_assoc, Nat.mul_comm, Nat.mul_left_comm]
    rw [e1, Nat.add_mul_div_left _ _ hk4]
    exact congrArg nI (by omega)
  · rw [gd_who (by omega) h12, Nat.mul_comm f, Nat.add_mul_div_left _ _ h4p, Nat.div_eq_of_lt hG]
    exact congrArg nI (by omega)
theorem fg_neg : ((-4 : Int32) < 0) := by decide
theorem nI_nlt0 {j : Nat} (h : j ≤ 9) : ¬ (nI j < 0) := by
  rw [Int32.lt_iff_toInt_lt, nI_toInt (by omega)]; show ¬ (j : Int) < 0; omega
theorem it_d {t : Nat → Int32} {n a : Nat} {X : ps_X} (hc : ps_l t n a = 100) (h1 : ps_num (ps_l t n (a + 1)) (nI 3) = true) (h2 : ps_l t n (a + 2) = 44) (h3 : ps_num (ps_l t n (a + 3)) (nI 5) = true) (h4 : ps_l t n (a + 4) = 59) : it_ok t n a X 5 := by
  refine ⟨?_, fun q => absurd (hc.symm.trans q.1) (by decide)⟩
  unfold ps_len
  rw [if_pos hc, if_pos ⟨h1, h2, h3, h4⟩]
theorem it_p {t : Nat → Int32} {n a : Nat} {X : ps_X} (hc : ps_l t n a = 112) (h1 : ps_num (ps_l t n (a + 1)) (nI 3) = true) (h2 : ps_l t n (a + 2) = 44) (h3 : ps_num (ps_l t n (a + 3)) (nI 3) = true) (h4 : ps_l t n (a + 4) = 59) : it_ok t n a X 5 := by
  refine ⟨?_, fun q => absurd (hc.symm.trans q.1) (by decide)⟩
  unfold ps_len
  rw [if_neg (by rw [hc]; decide), if_pos hc, if_pos ⟨h1, h2, h3, h4⟩]
theorem it_r {t : Nat → Int32} {n a : Nat} {X : ps_X} (hc : ps_l t n a = 114) (h1 : ps_num (ps_l t n (a + 1)) (nI 3) = true) (h2 : ps_l t n (a + 2) = 59) (h3 : ¬ X.1 = 12) : it_ok t n a X 3 := by
  refine ⟨?_, fun q => h3 q.2⟩
  unfold ps_len
  rw [if_neg (by rw [hc]; decide), if_neg (by rw [hc]; decide), if_pos hc, if_pos ⟨h1, h2⟩]
theorem no_d {t : Nat → Int32} {n a : Nat} {X : ps_X} (hc : ps_l t n a = 100) (h : ¬ (ps_num (ps_l t n (a + 1)) (nI 3) = true ∧ ps_l t n (a + 2) = 44 ∧ ps_num (ps_l t n (a + 3)) (nI 5) = true ∧ ps_l t n (a + 4) = 59)) : it_no t n a X := by
  refine Or.inl ?_
  unfold ps_len
  rw [if_pos hc]; exact if_neg h
theorem no_p {t : Nat → Int32} {n a : Nat} {X : ps_X} (hc : ps_l t n a = 112) (h : ¬ (ps_num (ps_l t n (a + 1)) (nI 3) = true ∧ ps_l t n (a + 2) = 44 ∧ ps_num (ps_l t n (a + 3)) (nI 3) = true ∧ ps_l t n (a + 4) = 59)) : it_no t n a X := by
  refine Or.inl ?_
  unfold ps_len
  rw [if_neg (by rw [hc]; decide), if_pos hc]; exact if_neg h
theorem no_r {t : Nat → Int32} {n a : Nat} {X : ps_X} (hc : ps_l t n a = 114) (h : ¬ (ps_num (ps_l t n (a + 1)) (nI 3) = true ∧ ps_l t n (a + 2) = 59)) : it_no t n a X := by
  refine Or.inl ?_
  unfold ps_len
  rw [if_neg (by rw [hc]; decide), if_neg (by rw [hc]; decide), if_pos hc]; exact if_neg h
theorem no_o {t : Nat → Int32} {n a : Nat} {X : ps_X} (h1 : ¬ ps_l t n a = 100) (h2 : ¬ ps_l t n a = 112) (h3 : ¬ ps_l t n a = 114) : it_no t n a X := by
  refine Or.inl ?_
  unfold ps_len
  rw [if_neg h1, if_neg h2, if_neg h3]
set_option maxHeartbeats 4000000 in
set_option maxRecDepth 100000 in
theorem c_item_r (N d : Nat) (σ : rd_S) (hN : 49 ≤ N) (n a : Nat) (X : ps_X) (hn : tx_at σ n) (ha : a < 300) (hX : pm_at σ X) (hc : ps_l (σ 41) n a = 114) : rd_T N (d + 2) yX5_readItem cX5_readItem 5 (some .int) [.ref 33, .int (nI a)] σ (fun r s => (∃ l, it_ok (σ 41) n a X l ∧ r = some (.int (nI l)) ∧ pm_at s (ps_up (σ 41) n a X) ∧ px_eq s σ) ∨ (it_no (σ 41) n a X ∧ r = some (.int 0) ∧ s = σ)) := by
  refine rd_start RX5 [.ref 33, .int (nI a), .retAddr 0, .retAddr 0, .retAddr 0] rfl (by decide +kernel) rfl (Nat.le_of_ble_eq_true rfl) ?_
  have hl := (lt_ps (t := σ 41) (n := n) (v := 114) (by decide) (by decide)).mpr hc
  have x1 := hX.1
  have x2 := hX.2.1
  refine rr_aloadn_0 dX5_readItem_0 ?_
  refine rr_iloadn_1 dX5_readItem_1 ?_
  refine rr_callViD (c_letter N _ _ hN n a hn.1 hn.2.1 (by omega)) km_X5_84 rfl rfl (by omega) rfl (Nat.le_of_ble_eq_true rfl) dX5_readItem_2 ?_
  refine rr_istoren_2 dX5_readItem_5 rfl ?_
  refine rr_iloadn_2 dX5_readItem_6 ?_
  refine rr_bipush (v := 114) dX5_readItem_7 (by decide) ?_
  refine rr_icmp_ne 70 dX5_readItem_9 (by decide) (fun h9 => absurd hl h9) (fun h9 => ?_)
  refine rr_aloadn_0 dX5_readItem_12 ?_
  refine rr_iloadn_1 dX5_readItem_13 ?_
  refine rr_iconst (v := 1) dX5_readItem_14 (by decide) ?_
  refine rr_iadd dX5_readItem_15 ?_
  refine rr_iconst (v := 3) dX5_readItem_16 (by decide) ?_
  rw [show nI a + 1 = nI (a + 1) from nI_add a 1]
  refine rr_callViD (c_figureAt3 N _ _ hN n (a + 1) hn.1 hn.2.1 (by omega)) km_X5_88 rfl rfl (by omega) rfl (Nat.le_of_ble_eq_true rfl) dX5_readItem_17 ?_
  refine rr_istoren_3 dX5_readItem_20 rfl ?_
  refine rr_iloadn_3 dX5_readItem_21 ?_
  rcases fg_ps (k := a + 1) hn.2.2 (m := 3) (by decide) with ⟨p1, i, hi, ei, ei2⟩ | ⟨p1, ei⟩
  · rw [show fg_l (σ 41) n (a + 1) 3 = nI i from ei]
    refine rr_if_lt 46 dX5_readItem_22 (by decide) (fun h22 => absurd h22 (nI_nlt0 (by omega))) (fun h22 => ?_)
    refine rr_aloadn_0 dX5_readItem_25 ?_
    refine rr_iloadn_1 dX5_readItem_26 ?_
    refine rr_iconst (v := 2) dX5_readItem_27 (by decide) ?_
    refine rr_iadd dX5_readItem_28 ?_
    rw [show nI a + 2 = nI (a + 2) from nI_add a 2]
    refine rr_callViD (c_letter N _ _ hN n (a + 2) hn.1 hn.2.1 (by omega)) km_X5_84 rfl rfl (by omega) rfl (Nat.le_of_ble_eq_true rfl) dX5_readItem_29 ?_
    refine rr_bipush (v := 59) dX5_readItem_32 (by decide) ?_
    refine rr_icmp_ne 46 dX5_readItem_34 (by decide) (fun h34 => ?_) (fun h34 => ?_)
    · refine rr_iconst (v := 0) dX5_readItem_46 (by decide) ?_
      exact rr_iret dX5_readItem_47 (Or.inr ⟨by first | exact no_r hc (fun q => h34 ((lt_ps (t := σ 41) (n := n) (v := 59) (by decide) (by decide)).mpr q.2)) | exact Or.inr ⟨hc, (nI_eq8 (b := 12) (by omega) (by omega)).mp h43⟩, rfl, rfl⟩)
    · refine rr_aloadn_0 dX5_readItem_37 ?_
      refine rr_geti dX5_readItem_38 kf_X5_92 (by omega) rfl rfl ?_
      refine rr_bipush (v := 12) dX5_readItem_41 (by decide) ?_
      rw [x1]
      refine rr_icmp_ne 48 dX5_readItem_43 (by decide) (fun h43 => ?_) (fun h43 => ?_)
      · refine rr_aloadn_0 dX5_readItem_48 ?_
        refine rr_getr 44 dX5_readItem_49 kf_X5_40 (by omega) rfl rfl rfl ?_
        refine rr_aloadn_0 dX5_readItem_52 ?_
        refine rr_geti dX5_readItem_53 kf_X5_92 (by omega) rfl rfl ?_
        rw [x1]
        refine rr_iloadn_3 dX5_readItem_56 ?_
        refine rr_iast (X.1) dX5_readItem_57 (by omega) rfl rfl (Nat.lt_of_le_of_ne x2 (fun q => h43 (by rw [q]; rfl))) ?_
        refine rr_aloadn_0 dX5_readItem_58 ?_
        refine rr_dup dX5_readItem_59 rfl ?_
        refine rr_geti dX5_readItem_60 kf_X5_92 (by omega) rfl rfl ?_
        rw [u2_off (by omega), x1]
        refine rr_iconst (v := 1) dX5_readItem_63 (by decide) ?_
        refine rr_iadd dX5_readItem_64 ?_
        rw [nI_s]
        refine rr_puti dX5_readItem_65 kf_X5_92 if_5_16 (by omega) rfl rfl ?_
        refine rr_iconst (v := 3) dX5_readItem_68 (by decide) ?_
        exact rr_iret dX5_readItem_69 (Or.inl ⟨3, it_r hc p1 ((lt_ps (t := σ 41) (n := n) (v := 59) (by decide) (by decide)).mp h34) (fun q => h43 (by rw [q]; rfl)), rfl, pm_r hX (Nat.lt_of_le_of_ne x2 (fun q => h43 (by rw [q]; rfl))) hc (by omega) ei2 (gd_all (Nat.lt_of_le_of_ne x2 (fun q => h43 (by rw [q]; rfl))) (by omega)), fun a b q => by rw [u2_off (by omega), u2_off (by omega)]⟩)
      · refine rr_iconst (v := 0) dX5_readItem_46 (by decide) ?_
        exact rr_iret dX5_readItem_47 (Or.inr ⟨by first | exact no_r hc (fun q => h34 ((lt_ps (t := σ 41) (n := n) (v := 59) (by decide) (by decide)).mpr q.2)) | exact Or.inr ⟨hc, (nI_eq8 (b := 12) (by omega) (by omega)).mp h43⟩, rfl, rfl⟩)
  · rw [show fg_l (σ 41) n (a + 1) 3 = -4 from ei]
    refine rr_if_lt 46 dX5_readItem_22 (by decide) (fun h22 => ?_) (fun h22 => absurd fg_neg h22)
    refine rr_iconst (v := 0) dX5_readItem_46 (by decide) ?_
    exact rr_iret dX5_readItem_47 (Or.inr ⟨no_r hc (fun q => by rw [p1] at q; exact absurd q.1 (by decide)), rfl, rfl⟩)
set_option maxHeartbeats 4000000 in
set_option maxRecDepth 100000 in
theorem c_item_d (N d : Nat) (σ : rd_S) (hN : 49 ≤ N) (n a : Nat) (X : ps_X) (hn : tx_at σ n) (ha : a < 300) (hX : pm_at σ X) (hc : ps_l (σ 41) n a = 100) : rd_T N (d + 2) yX5_readItem cX5_readItem 5 (some .int) [.ref 33, .int (nI a)] σ (fun r s => (∃ l, it_ok (σ 41) n a X l ∧ r = some (.int (nI l)) ∧ pm_at s (ps_up (σ 41) n a X) ∧ px_eq s σ) ∨ (it_no (σ 41) n a X ∧ r = some (.int 0) ∧ s = σ)) := by
  refine rd_start RX5 [.ref 33, .int (nI a), .retAddr 0, .retAddr 0, .retAddr 0] rfl (by decide +kernel) rfl (Nat.le_of_ble_eq_true rfl) ?_
  have hl := (lt_ps (t := σ 41) (n := n) (v := 100) (by decide) (by decide)).mpr hc
  refine rr_aloadn_0 dX5_readItem_0 ?_
  refine rr_iloadn_1 dX5_readItem_1 ?_
  refine rr_callViD (c_letter N _ _ hN n a hn.1 hn.2.1 (by omega)) km_X5_84 rfl rfl (by omega) rfl (Nat.le_of_ble_eq_true rfl) dX5_readItem_2 ?_
  refine rr_istoren_2 dX5_readItem_5 rfl ?_
  refine rr_iloadn_2 dX5_readItem_6 ?_
  refine rr_bipush (v := 114) dX5_readItem_7 (by decide) ?_
  refine rr_icmp_ne 70 dX5_readItem_9 (by decide) (fun h9 => ?_) (fun h9 => absurd (hl.symm.trans h9) (by decide))
  refine rr_aloadn_0 dX5_readItem_70 ?_
  refine rr_iloadn_1 dX5_readItem_71 ?_
  refine rr_iconst (v := 1) dX5_readItem_72 (by decide) ?_
  refine rr_iadd dX5_readItem_73 ?_
  refine rr_iconst (v := 3) dX5_readItem_74 (by decide) ?_
  rw [show nI a + 1 = nI (a + 1) from nI_add a 1]
  refine rr_callViD (c_figureAt3 N _ _ hN n (a + 1) hn.1 hn.2.1 (by omega)) km_X5_88 rfl rfl (by omega) rfl (Nat.le_of_ble_eq_true rfl) dX5_readItem_75 ?_
  refine rr_istoren_3 dX5_readItem_78 rfl ?_
  refine rr_aloadn_0 dX5_readItem_79 ?_
  refine rr_iloadn_1 dX5_readItem_80 ?_
  refine rr_iconst (v := 3) dX5_readItem_81 (by decide) ?_
  refine rr_iadd dX5_readItem_82 ?_
  refine rr_iloadn_2 dX5_readItem_83 ?_
  refine rr_bipush (v := 100) dX5_readItem_84 (by decide) ?_
  refine rr_icmp_ne 93 dX5_readItem_86 (by decide) (fun h86 => absurd hl h86) (fun h86 => ?_)
  refine rr_iconst (v := 5) dX5_readItem_89 (by decide) ?_
  refine rr_goto 94 dX5_readItem_90 (by decide) ?_
  rw [show nI a + 3 = nI (a + 3) from nI_add a 3]
  refine rr_callViD (c_figureAt5 N _ _ hN n (a + 3) hn.1 hn.2.1 (by omega)) km_X5_88 rfl rfl (by omega) rfl (Nat.le_of_ble_eq_true rfl) dX5_readItem_94 ?_
  refine rr_istore_4 dX5_readItem_97 rfl ?_
  refine rr_iloadn_2 dX5_readItem_99 ?_
  refine rr_bipush (v := 100) dX5_readItem_100 (by decide) ?_
  refine rr_icmp_eq 111 dX5_readItem_102 (by decide) (fun h102 => ?_) (fun h102 => absurd hl h102)
  refine rr_iloadn_3 dX5_readItem_111 ?_
  rcases fg_ps (k := a + 1) hn.2.2 (m := 3) (by decide) with ⟨p1, i, hi, ei, ei2⟩ | ⟨p1, ei⟩
  · rw [show fg_l (σ 41) n (a + 1) 3 = nI i from ei]
    refine rr_if_lt 144 dX5_readItem_112 (by decide) (fun h112 => absurd h112 (nI_nlt0 (by omega))) (fun h112 => ?_)
    refine rr_aloadn_0 dX5_readItem_115 ?_
    refine rr_iloadn_1 dX5_readItem_116 ?_
    refine rr_iconst (v := 2) dX5_readItem_117 (by decide) ?_
    refine rr_iadd dX5_readItem_118 ?_
    rw [show nI a + 2 = nI (a + 2) from nI_add a 2]
    refine rr_callViD (c_letter N _ _ hN n (a + 2) hn.1 hn.2.1 (by omega)) km_X5_84 rfl rfl (by omega) rfl (Nat.le_of_ble_eq_true rfl) dX5_readItem_119 ?_
    refine rr_bipush (v := 44) dX5_readItem_122 (by decide) ?_
    refine rr_icmp_ne 144 dX5_readItem_124 (by decide) (fun h124 => ?_) (fun h124 => ?_)
    · refine rr_iconst (v := 0) dX5_readItem_144 (by decide) ?_
      exact rr_iret dX5_readItem_145 (Or.inr ⟨no_d hc (fun q => h124 ((lt_ps (t := σ 41) (n := n) (v := 44) (by decide) (by decide)).mpr q.2.1)), rfl, rfl⟩)
    · refine rr_iload_4 dX5_readItem_127 ?_
      rcases fg_ps (k := a + 3) hn.2.2 (m := 5) (by decide) with ⟨p3, v, hv, ev, ev2⟩ | ⟨p3, ev⟩
      · rw [show fg_l (σ 41) n (a + 3) 5 = nI v from ev]
        refine rr_if_lt 144 dX5_readItem_129 (by decide) (fun h129 => absurd h129 (nI_nlt0 (by omega))) (fun h129 => ?_)
        refine rr_aloadn_0 dX5_readItem_132 ?_
        refine rr_iloadn_1 dX5_readItem_133 ?_
        refine rr_iconst (v := 4) dX5_readItem_134 (by decide) ?_
        refine rr_iadd dX5_readItem_135 ?_
        rw [show nI a + 4 = nI (a + 4) from nI_add a 4]
        refine rr_callViD (c_letter N _ _ hN n (a + 4) hn.1 hn.2.1 (by omega)) km_X5_84 rfl rfl (by omega) rfl (Nat.le_of_ble_eq_true rfl) dX5_readItem_136 ?_
        refine rr_bipush (v := 59) dX5_readItem_139 (by decide) ?_
        refine rr_icmp_eq 146 dX5_readItem_141 (by decide) (fun h141 => ?_) (fun h141 => ?_)
        · refine rr_iloadn_2 dX5_readItem_146 ?_
          refine rr_bipush (v := 100) dX5_readItem_147 (by decide) ?_
          refine rr_icmp_ne 163 dX5_readItem_149 (by decide) (fun h149 => absurd hl h149) (fun h149 => ?_)
          refine rr_aloadn_0 dX5_readItem_152 ?_
          refine rr_getr 42 dX5_readItem_153 kf_X5_34 (by omega) rfl rfl rfl ?_
          refine rr_iloadn_3 dX5_readItem_156 ?_
          refine rr_iload_4 dX5_readItem_157 ?_
          refine rr_iast (i) dX5_readItem_159 (by omega) rfl rfl (show i < 4 by omega) ?_
          refine rr_goto 171 dX5_readItem_160 (by decide) ?_
          refine rr_iconst (v := 5) dX5_readItem_171 (by decide) ?_
          exact rr_iret dX5_readItem_172 (Or.inl ⟨5, it_d hc p1 ((lt_ps (t := σ 41) (n := n) (v := 44) (by decide) (by decide)).mp h124) p3 ((lt_ps (t := σ 41) (n := n) (v := 59) (by decide) (by decide)).mp h141), rfl, pm_d hX hc (by omega) (by omega) ei2 ev2, fun a b q => by rw [u2_off (by omega)]⟩)
        · refine rr_iconst (v := 0) dX5_readItem_144 (by decide) ?_
          exact rr_iret dX5_readItem_145 (Or.inr ⟨no_d hc (fun q => h141 ((lt_ps (t := σ 41) (n := n) (v := 59) (by decide) (by decide)).mpr q.2.2.2)), rfl, rfl⟩)
      · rw [show fg_l (σ 41) n (a + 3) 5 = -4 from ev]
        refine rr_if_lt 144 dX5_readItem_129 (by decide) (fun h129 => ?_) (fun h129 => absurd fg_neg h129)
        refine rr_iconst (v := 0) dX5_readItem_144 (by decide) ?_
        exact rr_iret dX5_readItem_145 (Or.inr ⟨no_d hc (fun q => by rw [p3] at q; exact absurd q.2.2.1 (by decide)), rfl, rfl⟩)
  · rw [show fg_l (σ 41) n (a + 1) 3 = -4 from ei]
    refine rr_if_lt 144 dX5_readItem_112 (by decide) (fun h112 => ?_) (fun h112 => absurd fg_neg h112)
    refine rr_iconst (v := 0) dX5_readItem_144 (by decide) ?_
    exact rr_iret dX5_readItem_145 (Or.inr ⟨no_d hc (fun q => by rw [p1] at q; exact absurd q.1 (by decide)), rfl, rfl⟩)
set_option maxHeartbeats 4000000 in
set_option maxRecDepth 100000 in
theorem c_item_p (N d : Nat) (σ : rd_S) (hN : 49 ≤ N) (n a : Nat) (X : ps_X) (hn : tx_at σ n) (ha : a < 300) (hX : pm_at σ X) (hc : ps_l (σ 41) n a = 112) : rd_T N (d + 2) yX5_readItem cX5_readItem 5 (some .int) [.ref 33, .int (nI a)] σ (fun r s => (∃ l, it_ok (σ 41) n a X l ∧ r = some (.int (nI l)) ∧ pm_at s (ps_up (σ 41) n a X) ∧ px_eq s σ) ∨ (it_no (σ 41) n a X ∧ r = some (.int 0) ∧ s = σ)) := by
  refine rd_start RX5 [.ref 33, .int (nI a), .retAddr 0, .retAddr 0, .retAddr 0] rfl (by decide +kernel) rfl (Nat.le_of_ble_eq_true rfl) ?_
  have hl := (lt_ps (t := σ 41) (n := n) (v := 112) (by decide) (by decide)).mpr hc
  refine rr_aloadn_0 dX5_readItem_0 ?_
  refine rr_iloadn_1 dX5_readItem_1 ?_
  refine rr_callViD (c_letter N _ _ hN n a hn.1 hn.2.1 (by omega)) km_X5_84 rfl rfl (by omega) rfl (Nat.le_of_ble_eq_true rfl) dX5_readItem_2 ?_
  refine rr_istoren_2 dX5_readItem_5 rfl ?_
  refine rr_iloadn_2 dX5_readItem_6 ?_
  refine rr_bipush (v := 114) dX5_readItem_7 (by decide) ?_
  refine rr_icmp_ne 70 dX5_readItem_9 (by decide) (fun h9 => ?_) (fun h9 => absurd (hl.symm.trans h9) (by decide))
  refine rr_aloadn_0 dX5_readItem_70 ?_
  refine rr_iloadn_1 dX5_readItem_71 ?_
  refine rr_iconst (v := 1) dX5_readItem_72 (by decide) ?_
  refine rr_iadd dX5_readItem_73 ?_
  refine rr_iconst (v := 3) dX5_readItem_74 (by decide) ?_
  rw [show nI a + 1 = nI (a + 1) from nI_add a 1]
  refine rr_callViD (c_figureAt3 N _ _ hN n (a + 1) hn.1 hn.2.1 (by omega)) km_X5_88 rfl rfl (by omega) rfl (Nat.le_of_ble_eq_true rfl) dX5_readItem_75 ?_
  refine rr_istoren_3 dX5_readItem_78 rfl ?_
  refine rr_aloadn_0 dX5_readItem_79 ?_
  refine rr_iloadn_1 dX5_readItem_80 ?_
  refine rr_iconst (v := 3) dX5_readItem_81 (by decide) ?_
  refine rr_iadd dX5_readItem_82 ?_
  refine rr_iloadn_2 dX5_readItem_83 ?_
  refine rr_bipush (v := 100) dX5_readItem_84 (by decide) ?_
  refine rr_icmp_ne 93 dX5_readItem_86 (by decide) (fun h86 => ?_) (fun h86 => absurd (hl.symm.trans h86) (by decide))
  refine rr_iconst (v := 3) dX5_readItem_93 (by decide) ?_
  rw [show nI a + 3 = nI (a + 3) from nI_add a 3]
  refine rr_callViD (c_figureAt3 N _ _ hN n (a + 3) hn.1 hn.2.1 (by omega)) km_X5_88 rfl rfl (by omega) rfl (Nat.le_of_ble_eq_true rfl) dX5_readItem_94 ?_
  refine rr_istore_4 dX5_readItem_97 rfl ?_
  refine rr_iloadn_2 dX5_readItem_99 ?_
  refine rr_bipush (v := 100) dX5_readItem_100 (by decide) ?_
  refine rr_icmp_eq 111 dX5_readItem_102 (by decide) (fun h102 => absurd (hl.symm.trans h102) (by decide)) (fun h102 => ?_)
  refine rr_iloadn_2 dX5_readItem_105 ?_
  refine rr_bipush (v := 112) dX5_readItem_106 (by decide) ?_
  refine rr_icmp_ne 144 dX5_readItem_108 (by decide) (fun h108 => absurd hl h108) (fun h108 => ?_)
  refine rr_iloadn_3 dX5_readItem_111 ?_
  rcases fg_ps (k := a + 1) hn.2.2 (m := 3) (by decide) with ⟨p1, i, hi, ei, ei2⟩ | ⟨p1, ei⟩
  · rw [show fg_l (σ 41) n (a + 1) 3 = nI i from ei]
    refine rr_if_lt 144 dX5_readItem_112 (by decide) (fun h112 => absurd h112 (nI_nlt0 (by omega))) (fun h112 => ?_)
    refine rr_aloadn_0 dX5_readItem_115 ?_
    refine rr_iloadn_1 dX5_readItem_116 ?_
    refine rr_iconst (v := 2) dX5_readItem_117 (by decide) ?_
    refine rr_iadd dX5_readItem_118 ?_
    rw [show nI a + 2 = nI (a + 2) from nI_add a 2]
    refine rr_callViD (c_letter N _ _ hN n (a + 2) hn.1 hn.2.1 (by omega)) km_X5_84 rfl rfl (by omega) rfl (Nat.le_of_ble_eq_true rfl) dX5_readItem_119 ?_
    refine rr_bipush (v := 44) dX5_readItem_122 (by decide) ?_
    refine rr_icmp_ne 144 dX5_readItem_124 (by decide) (fun h124 => ?_) (fun h124 => ?_)
    · refine rr_iconst (v := 0) dX5_readItem_144 (by decide) ?_
      exact rr_iret dX5_readItem_145 (Or.inr ⟨no_p hc (fun q => h124 ((lt_ps (t := σ 41) (n := n) (v := 44) (by decide) (by decide)).mpr q.2.1)), rfl, rfl⟩)
    · refine rr_iload_4 dX5_readItem_127 ?_
      rcases fg_ps (k := a + 3) hn.2.2 (m := 3) (by decide) with ⟨p3, v, hv, ev, ev2⟩ | ⟨p3, ev⟩
      · rw [show fg_l (σ 41) n (a + 3) 3 = nI v from ev]
        refine rr_if_lt 144 dX5_readItem_129 (by decide) (fun h129 => absurd h129 (nI_nlt0 (by omega))) (fun h129 => ?_)
        refine rr_aloadn_0 dX5_readItem_132 ?_
        refine rr_iloadn_1 dX5_readItem_133 ?_
        refine rr_iconst (v := 4) dX5_readItem_134 (by decide) ?_
        refine rr_iadd dX5_readItem_135 ?_
        rw [show nI a + 4 = nI (a + 4) from nI_add a 4]
        refine rr_callViD (c_letter N _ _ hN n (a + 4) hn.1 hn.2.1 (by omega)) km_X5_84 rfl rfl (by omega) rfl (Nat.le_of_ble_eq_true rfl) dX5_readItem_136 ?_
        refine rr_bipush (v := 59) dX5_readItem_139 (by decide) ?_
        refine rr_icmp_eq 146 dX5_readItem_141 (by decide) (fun h141 => ?_) (fun h141 => ?_)
        · refine rr_iloadn_2 dX5_readItem_146 ?_
          refine rr_bipush (v := 100) dX5_readItem_147 (by decide) ?_
          refine rr_icmp_ne 163 dX5_readItem_149 (by decide) (fun h149 => ?_) (fun h149 => absurd (hl.symm.trans h149) (by decide))
          refine rr_aloadn_0 dX5_readItem_163 ?_
          refine rr_getr 43 dX5_readItem_164 kf_X5_37 (by omega) rfl rfl rfl ?_
          refine rr_iloadn_3 dX5_readItem_167 ?_
          refine rr_iload_4 dX5_readItem_168 ?_
          refine rr_iast (i) dX5_readItem_170 (by omega) rfl rfl (show i < 4 by omega) ?_
          refine rr_iconst (v := 5) dX5_readItem_171 (by decide) ?_
          exact rr_iret dX5_readItem_172 (Or.inl ⟨5, it_p hc p1 ((lt_ps (t := σ 41) (n := n) (v := 44) (by decide) (by decide)).mp h124) p3 ((lt_ps (t := σ 41) (n := n) (v := 59) (by decide) (by decide)).mp h141), rfl, pm_p hX hc (by omega) (by omega) ei2 ev2, fun a b q => by rw [u2_off (by omega)]⟩)
        · refine rr_iconst (v := 0) dX5_readItem_144 (by decide) ?_
          exact rr_iret dX5_readItem_145 (Or.inr ⟨no_p hc (fun q => h141 ((lt_ps (t := σ 41) (n := n) (v := 59) (by decide) (by decide)).mpr q.2.2.2)), rfl, rfl⟩)
      · rw [show fg_l (σ 41) n (a + 3) 3 = -4 from ev]
        refine rr_if_lt 144 dX5_readItem_129 (by decide) (fun h129 => ?_) (fun h129 => absurd fg_neg h129)
        refine rr_iconst (v := 0) dX5_readItem_144 (by decide) ?_
        exact rr_iret dX5_readItem_145 (Or.inr ⟨no_p hc (fun q => by rw [p3] at q; exact absurd q.2.2.1 (by decide)), rfl, rfl⟩)
  · rw [show fg_l (σ 41) n (a + 1) 3 = -4 from ei]
    refine rr_if_lt 144 dX5_readItem_112 (by decide) (fun h112 => ?_) (fun h112 => absurd fg_neg h112)
    refine rr_iconst (v := 0) dX5_readItem_144 (by decide) ?_
    exact rr_iret dX5_readItem_145 (Or.inr ⟨no_p hc (fun q => by rw [p1] at q; exact absurd q.1 (by decide)), rfl, rfl⟩)
set_option maxHeartbeats 4000000 in
set_option maxRecDepth 100000 in
theorem c_item_o (N d : Nat) (σ : rd_S) (hN : 49 ≤ N) (n a : Nat) (X : ps_X) (hn : tx_at σ n) (ha : a < 300) (hX : pm_at σ X) (h1 : ¬ ps_l (σ 41) n a = 100) (h2 : ¬ ps_l (σ 41) n a = 112) (h3 : ¬ ps_l (σ 41) n a = 114) : rd_T N (d + 2) yX5_readItem cX5_readItem 5 (some .int) [.ref 33, .int (nI a)] σ (fun r s => (∃ l, it_ok (σ 41) n a X l ∧ r = some (.int (nI l)) ∧ pm_at s (ps_up (σ 41) n a X) ∧ px_eq s σ) ∨ (it_no (σ 41) n a X ∧ r = some (.int 0) ∧ s = σ)) := by
  refine rd_start RX5 [.ref 33, .int (nI a), .retAddr 0, .retAddr 0, .retAddr 0] rfl (by decide +kernel) rfl (Nat.le_of_ble_eq_true rfl) ?_
  have k1 : ¬ lt_l (σ 41) n a = 100 := fun q => h1 ((lt_ps (t := σ 41) (n := n) (v := 100) (by decide) (by decide)).mp q)
  have k2 : ¬ lt_l (σ 41) n a = 112 := fun q => h2 ((lt_ps (t := σ 41) (n := n) (v := 112) (by decide) (by decide)).mp q)
  have k3 : ¬ lt_l (σ 41) n a = 114 := fun q => h3 ((lt_ps (t := σ 41) (n := n) (v := 114) (by decide) (by decide)).mp q)
  refine rr_aloadn_0 dX5_readItem_0 ?_
  refine rr_iloadn_1 dX5_readItem_1 ?_
  refine rr_callViD (c_letter N _ _ hN n a hn.1 hn.2.1 (by omega)) km_X5_84 rfl rfl (by omega) rfl (Nat.le_of_ble_eq_true rfl) dX5_readItem_2 ?_
  refine rr_istoren_2 dX5_readItem_5 rfl ?_
  refine rr_iloadn_2 dX5_readItem_6 ?_
  refine rr_bipush (v := 114) dX5_readItem_7 (by decide) ?_
  refine rr_icmp_ne 70 dX5_readItem_9 (by decide) (fun h9 => ?_) (fun h9 => absurd h9 k3)
  refine rr_aloadn_0 dX5_readItem_70 ?_
  refine rr_iloadn_1 dX5_readItem_71 ?_
  refine rr_iconst (v := 1) dX5_readItem_72 (by decide) ?_
  refine rr_iadd dX5_readItem_73 ?_
  refine rr_iconst (v := 3) dX5_readItem_74 (by decide) ?_
  rw [show nI a + 1 = nI (a + 1) from nI_add a 1]
  refine rr_callViD (c_figureAt3 N _ _ hN n (a + 1) hn.1 hn.2.1 (by omega)) km_X5_88 rfl rfl (by omega) rfl (Nat.le_of_ble_eq_true rfl) dX5_readItem_75 ?_
  refine rr_istoren_3 dX5_readItem_78 rfl ?_
  refine rr_aloadn_0 dX5_readItem_79 ?_
  refine rr_iloadn_1 dX5_readItem_80 ?_
  refine rr_iconst (v := 3) dX5_readItem_81 (by decide) ?_
  refine rr_iadd dX5_readItem_82 ?_
  refine rr_iloadn_2 dX5_readItem_83 ?_
  refine rr_bipush (v := 100) dX5_readItem_84 (by decide) ?_
  refine rr_icmp_ne 93 dX5_readItem_86 (by decide) (fun h86 => ?_) (fun h86 => absurd h86 k1)
  refine rr_iconst (v := 3) dX5_readItem_93 (by decide) ?_
  rw [show nI a + 3 = nI (a + 3) from nI_add a 3]
  refine rr_callViD (c_figureAt3 N _ _ hN n (a + 3) hn.1 hn.2.1 (by omega)) km_X5_88 rfl rfl (by omega) rfl (Nat.le_of_ble_eq_true rfl) dX5_readItem_94 ?_
  refine rr_istore_4 dX5_readItem_97 rfl ?_
  refine rr_iloadn_2 dX5_readItem_99 ?_
  refine rr_bipush (v := 100) dX5_readItem_100 (by decide) ?_
  refine rr_icmp_eq 111 dX5_readItem_102 (by decide) (fun h102 => absurd h102 k1) (fun h102 => ?_)
  refine rr_iloadn_2 dX5_readItem_105 ?_
  refine rr_bipush (v := 112) dX5_readItem_106 (by decide) ?_
  refine rr_icmp_ne 144 dX5_readItem_108 (by decide) (fun h108 => ?_) (fun h108 => absurd h108 k2)
  refine rr_iconst (v := 0) dX5_readItem_144 (by decide) ?_
  exact rr_iret dX5_readItem_145 (Or.inr ⟨no_o h1 h2 h3, rfl, rfl⟩)
theorem c_item (N d : Nat) (σ : rd_S) (hN : 49 ≤ N) (n a : Nat) (X : ps_X) (hn : tx_at σ n) (ha : a < 300) (hX : pm_at σ X) : rd_T N (d + 2) yX5_readItem cX5_readItem 5 (some .int) [.ref 33, .int (nI a)] σ (fun r s => (∃ l, it_ok (σ 41) n a X l ∧ r = some (.int (nI l)) ∧ pm_at s (ps_up (σ 41) n a X) ∧ px_eq s σ) ∨ (it_no (σ 41) n a X ∧ r = some (.int 0) ∧ s = σ)) := by
  by_cases h1 : ps_l (σ 41) n a = 100
  · exact c_item_d N d σ hN n a X hn ha hX h1
  by_cases h2 : ps_l (σ 41) n a = 112
  · exact c_item_p N d σ hN n a X hn ha hX h2
  by_cases h3 : ps_l (σ 41) n a = 114
  · exact c_item_r N d σ hN n a X hn ha hX h3
  exact c_item_o N d σ hN n a X hn ha hX h1 h2 h3
