/-! ===== Search: seek, bestFrom, chanceFrom ===== -/
/-- the figure is tried, k figures being done: what is found then, the best being b with the row r -/
def sr_sk (G : sd_D → Bool) (kb : Int32) : Nat → Nat → Int32 → sd_D → Nat × Int32 → Nat × Int32
  | 0, k, row, D, br => if br.1 ≤ k then br else if G D = true then (k, row) else br
  | m + 1, k, row, D, br => if br.1 ≤ k then br else if G D = true then (k, row) else
      (fun (F : Nat → Nat × Int32 → Nat × Int32) => F 2 (F 1 (F 0 br))) (fun f br => if br.1 ≤ k + 1 then br else match sd_st D (nI f) kb with | none => br | some E => sr_sk G kb m (k + 1) (row ||| (nI f <<< ((2 * nI k) &&& 31))) E br)
def sr_s1 (G : sd_D → Bool) (kb : Int32) (m k : Nat) (row : Int32) (D : sd_D) (f : Nat) (br : Nat × Int32) : Nat × Int32 := if br.1 ≤ k + 1 then br else match sd_st D (nI f) kb with | none => br | some E => sr_sk G kb m (k + 1) (row ||| (nI f <<< ((2 * nI k) &&& 31))) E br
def sr_it (F : Nat → Nat × Int32 → Nat × Int32) (f : Nat) : Nat → Nat × Int32 → Nat × Int32
  | 0, br => br
  | j + 1, br => sr_it F (f + 1) j (F f br)
theorem sr_sk_s (G : sd_D → Bool) (kb : Int32) (m k : Nat) (row : Int32) (D : sd_D) (br : Nat × Int32) : sr_sk G kb (m + 1) k row D br = if br.1 ≤ k then br else if G D = true then (k, row) else sr_it (sr_s1 G kb m k row D) 0 3 br := by
  simp [sr_sk, sr_it, sr_s1]
/-- what comes is no worse -/
theorem sr_sk_le (G : sd_D → Bool) (kb : Int32) : ∀ (m k : Nat) (row : Int32) (D : sd_D) (br : Nat × Int32), (sr_sk G kb m k row D br).1 ≤ br.1
  | 0, k, row, D, br => by
    unfold sr_sk
    split
    · exact Nat.le_refl _
    · split
      · simp; omega
      · exact Nat.le_refl _
  | m + 1, k, row, D, br => by
    have h1 : ∀ f br, (sr_s1 G kb m k row D f br).1 ≤ br.1 := by
      intro f br
      unfold sr_s1
      split
      · exact Nat.le_refl _
      · split
        · exact Nat.le_refl _
        · exact sr_sk_le G kb m _ _ _ _
    rw [sr_sk_s]
    split
    · exact Nat.le_refl _
    · split
      · simp; omega
      · simp only [sr_it]
        exact Nat.le_trans (h1 _ _) (Nat.le_trans (h1 _ _) (h1 _ _))
theorem sr_s1_le (G : sd_D → Bool) (kb : Int32) (m k : Nat) (row : Int32) (D : sd_D) (f : Nat) (br : Nat × Int32) : (sr_s1 G kb m k row D f br).1 ≤ br.1 := by
  unfold sr_s1
  split
  · exact Nat.le_refl _
  · split
    · exact Nat.le_refl _
    · exact sr_sk_le G kb m _ _ _ _
set_option maxHeartbeats 4000000 in
set_option maxRecDepth 100000 in
theorem c_X2_seek (N d : Nat) (hN : 33 ≤ N) : ∀ (m k : Nat) (row : Int32) (σ : rd_S) (br : Nat × Int32), k + m = 7 → br.1 ≤ 8 → σ 19 7 = nI br.1 → σ 19 8 = br.2 → rd_T N (d + m + 4) yX2_seek cX2_seek 4 none [.ref 19, .int (nI k), .int row] σ (fun r s => r = none ∧ s 19 7 = nI (sr_sk (sr_G σ) (σ 19 1) m k row (sd_rd σ (21 + k)) br).1 ∧ s 19 8 = (sr_sk (sr_G σ) (σ 19 1) m k row (sd_rd σ (21 + k)) br).2 ∧ sr_eqf k s σ) := by
  intro m
  induction m with
  | zero =>
    intro k row σ br hk hb h7 h8
    obtain rfl : k = 7 := hk
    refine rd_start RX2 [.ref 19, .int (nI 7), .int row, .retAddr 0] rfl (by decide +kernel) rfl (Nat.le_of_ble_eq_true rfl) ?_
    refine rr_iloadn_1 dX2_seek_0 ?_
    refine rr_aloadn_0 dX2_seek_1 ?_
    refine rr_geti dX2_seek_2 kf_X2_42 (by omega) rfl rfl ?_
    rw [h7]
    refine rr_icmp_ge 14 dX2_seek_5 (by decide) (fun h5 => ?_) (fun h5 => ?_)
    · exact rr_vret dX2_seek_14 ⟨rfl, by rw [h7]; simp [sr_sk, (nI_le8 (by omega) (by omega)).mp h5], by rw [h8]; simp [sr_sk, (nI_le8 (by omega) (by omega)).mp h5], sr_eqf.refl _ _⟩
    · refine rr_iloadn_1 dX2_seek_8 ?_
      refine rr_bipush (v := 7) dX2_seek_9 (by decide) ?_
      refine rr_icmp_le 15 dX2_seek_11 (by decide) (fun h11 => ?_) (fun h11 => absurd (by decide) h11)
      refine rr_aloadn_0 dX2_seek_15 ?_
      refine rr_iloadn_1 dX2_seek_16 ?_
      by_cases hg : sr_G σ (sd_rd σ (21 + 7)) = true
      · refine rr_callViD (c_X2_isAtGoal N _ _ hN 7 (by omega)) km_X2_74 rfl rfl (by omega) rfl (Nat.le_of_ble_eq_true rfl) dX2_seek_17 ?_
        rw [if_pos hg]
        refine rr_if_eq 34 dX2_seek_20 (by decide) (fun h20 => absurd h20 (by decide)) (fun h20 => ?_)
        refine rr_aloadn_0 dX2_seek_23 ?_
        refine rr_iloadn_1 dX2_seek_24 ?_
        refine rr_puti dX2_seek_25 kf_X2_42 if_2_7 (by omega) rfl rfl ?_
        refine rr_aloadn_0 dX2_seek_28 ?_
        refine rr_iloadn_2 dX2_seek_29 ?_
        refine rr_puti dX2_seek_30 kf_X2_45 if_2_8 (by omega) rfl rfl ?_
        exact rr_vret dX2_seek_33 ⟨rfl, by simp [rd_u2, sr_sk, hg, show ¬ br.1 ≤ 7 from fun q => h5 ((nI_le8 (by omega) (by omega)).mpr q)], by simp [rd_u2, sr_sk, hg, show ¬ br.1 ≤ 7 from fun q => h5 ((nI_le8 (by omega) (by omega)).mpr q)], fun a b _ h2 => by simp only [rd_u2]; rw [if_neg (by omega), if_neg (by omega)]⟩
      · refine rr_callViD (c_X2_isAtGoal N _ _ hN 7 (by omega)) km_X2_74 rfl rfl (by omega) rfl (Nat.le_of_ble_eq_true rfl) dX2_seek_17 ?_
        rw [if_neg hg]
        refine rr_if_eq 34 dX2_seek_20 (by decide) (fun h20 => ?_) (fun h20 => absurd rfl h20)
        refine rr_iconst (v := 0) dX2_seek_34 (by decide) ?_
        refine rr_istoren_3 dX2_seek_35 rfl ?_
        refine rr_iloadn_3 dX2_seek_36 ?_
        refine rr_iconst (v := 2) dX2_seek_37 (by decide) ?_
        refine rr_icmp_gt 80 dX2_seek_38 (by decide) (fun h38 => absurd h38 (by decide)) (fun _ => ?_)
        refine rr_iloadn_1 dX2_seek_41 ?_
        refine rr_iconst (v := 1) dX2_seek_42 (by decide) ?_
        refine rr_iadd dX2_seek_43 ?_
        refine rr_aloadn_0 dX2_seek_44 ?_
        refine rr_geti dX2_seek_45 kf_X2_42 (by omega) rfl rfl ?_
        rw [h7]
        refine rr_icmp_ge 80 dX2_seek_48 (by decide) (fun h48 => ?_) (fun h48 => absurd ((nI_le8 (a := br.1) (b := 8) (by omega) (by omega)).mpr hb) h48)
        exact rr_vret dX2_seek_80 ⟨rfl, by rw [h7]; simp [sr_sk, hg], by rw [h8]; simp [sr_sk, hg], sr_eqf.refl _ _⟩
  | succ m ih =>
    intro k row σ br hk hb h7 h8
    refine rd_start RX2 [.ref 19, .int (nI k), .int row, .retAddr 0] rfl (by decide +kernel) rfl (Nat.le_of_ble_eq_true rfl) ?_
    have loop : ∀ (j f : Nat) (s : rd_S) (b0 : Nat × Int32), f + j = 3 → b0.1 ≤ 8 → s 19 7 = nI b0.1 → s 19 8 = b0.2 → sr_eqf k s σ → rd_W N (d + (m + 1) + 4) RX2 cX2_seek 4 none 36 [.ref 19, .int (nI k), .int row, .int (nI f)] [] s (fun r u => r = none ∧ u 19 7 = nI (sr_it (sr_s1 (sr_G σ) (σ 19 1) m k row (sd_rd σ (21 + k))) f j b0).1 ∧ u 19 8 = (sr_it (sr_s1 (sr_G σ) (σ 19 1) m k row (sd_rd σ (21 + k))) f j b0).2 ∧ sr_eqf k u σ) := by
      intro j
      induction j with
      | zero =>
        intro f s b0 hf hb0 g7 g8 he
        refine rr_iloadn_3 dX2_seek_36 ?_
        refine rr_iconst (v := 2) dX2_seek_37 (by decide) ?_
        refine rr_icmp_gt 80 dX2_seek_38 (by decide) (fun h38 => ?_) (fun h38 => absurd ((nI_lt8 (a := 2) (b := f) (by omega) (by omega)).mpr (by omega)) h38)
        exact rr_vret dX2_seek_80 ⟨rfl, g7, g8, he⟩
      | succ j ihj =>
        intro f s b0 hf hb0 g7 g8 he
        have e1 : sd_rd s (21 + k) = sd_rd σ (21 + k) := he.rd (by omega) (by omega)
        have e2 : s 19 1 = σ 19 1 := he.kb
        by_cases hbk : b0.1 ≤ k + 1
        · have hz : ∀ j f, sr_it (sr_s1 (sr_G σ) (σ 19 1) m k row (sd_rd σ (21 + k))) f j b0 = b0 := by
            intro j
            induction j with
            | zero => intro f; rfl
            | succ j ih2 => intro f; simp only [sr_it]; rw [show sr_s1 (sr_G σ) (σ 19 1) m k row (sd_rd σ (21 + k)) f b0 = b0 by simp [sr_s1, hbk]]; exact ih2 _
          refine rr_iloadn_3 dX2_seek_36 ?_
          refine rr_iconst (v := 2) dX2_seek_37 (by decide) ?_
          refine rr_icmp_gt 80 dX2_seek_38 (by decide) (fun h38 => absurd ((nI_lt8 (a := 2) (b := f) (by omega) (by omega)).mp h38) (by omega)) (fun h38 => ?_)
          refine rr_iloadn_1 dX2_seek_41 ?_
          refine rr_iconst (v := 1) dX2_seek_42 (by decide) ?_
          refine rr_iadd dX2_seek_43 ?_
          rw [nI_s k]
          refine rr_aloadn_0 dX2_seek_44 ?_
          refine rr_geti dX2_seek_45 kf_X2_42 (by omega) rfl rfl ?_
          rw [g7]
          refine rr_icmp_ge 80 dX2_seek_48 (by decide) (fun h48 => ?_) (fun h48 => absurd ((nI_le8 (by omega) (by omega)).mpr hbk) h48)
          exact rr_vret dX2_seek_80 ⟨rfl, by rw [hz]; exact g7, by rw [hz]; exact g8, he⟩
        have hs1 : ∀ E, sd_st (sd_rd σ (21 + k)) (nI f) (σ 19 1) = E → sr_s1 (sr_G σ) (σ 19 1) m k row (sd_rd σ (21 + k)) f b0 = match E with | none => b0 | some E => sr_sk (sr_G σ) (σ 19 1) m (k + 1) (row ||| (nI f <<< ((2 * nI k) &&& 31))) E b0 := by
          intro E hE
          subst hE
          simp [sr_s1, hbk]
        refine rr_iloadn_3 dX2_seek_36 ?_
        refine rr_iconst (v := 2) dX2_seek_37 (by decide) ?_
        refine rr_icmp_gt 80 dX2_seek_38 (by decide) (fun h38 => absurd ((nI_lt8 (a := 2) (b := f) (by omega) (by omega)).mp h38) (by omega)) (fun h38 => ?_)
        refine rr_iloadn_1 dX2_seek_41 ?_
        refine rr_iconst (v := 1) dX2_seek_42 (by decide) ?_
        refine rr_iadd dX2_seek_43 ?_
        rw [nI_s k]
        refine rr_aloadn_0 dX2_seek_44 ?_
        refine rr_geti dX2_seek_45 kf_X2_42 (by omega) rfl rfl ?_
        rw [g7]
        refine rr_icmp_ge 80 dX2_seek_48 (by decide) (fun h48 => absurd ((nI_le8 (by omega) (by omega)).mp h48) hbk) (fun h48 => ?_)
        rcases hst : sd_st (sd_rd σ (21 + k)) (nI f) (σ 19 1) with _ | E
        · refine rr_aloadn_0 dX2_seek_51 ?_
          refine rr_iloadn_1 dX2_seek_52 ?_
          refine rr_iloadn_3 dX2_seek_53 ?_
          refine rr_callViD (c_goOn_n N _ _ hN k (by omega) _ (by rw [e1, e2]; exact hst)) km_X2_78 rfl rfl (by omega) rfl (Nat.le_of_ble_eq_true rfl) dX2_seek_54 ?_
          refine rr_if_eq 74 dX2_seek_57 (by decide) (fun _ => ?_) (fun h57 => absurd h57 (by decide))
          refine rr_iinc_3 1 dX2_seek_74 (by decide) rfl ?_
          refine rr_goto 36 dX2_seek_77 (by decide) ?_
          rw [nI_s f]
          refine (ihj (f + 1) _ b0 (by omega) hb0 (by rw [sd_wr_ne _ (by omega)]; exact g7) (by rw [sd_wr_ne _ (by omega)]; exact g8) ((sr_eqf.of (sr_eq.wr _ _ (by omega))).trans he)).post (fun r u q => ?_)
          simp only [sr_it, hs1 _ hst]
          exact q
        · refine rr_aloadn_0 dX2_seek_51 ?_
          refine rr_iloadn_1 dX2_seek_52 ?_
          refine rr_iloadn_3 dX2_seek_53 ?_
          refine rr_callViD (c_goOn_s N _ _ hN k (by omega) _ (D := E) (by rw [e1, e2]; exact hst)) km_X2_78 rfl rfl (by omega) rfl (Nat.le_of_ble_eq_true rfl) dX2_seek_54 ?_
          refine rr_if_eq 74 dX2_seek_57 (by decide) (fun h57 => absurd h57 (by decide)) (fun _ => ?_)
          refine rr_aloadn_0 dX2_seek_60 ?_
          refine rr_iloadn_1 dX2_seek_61 ?_
          refine rr_iconst (v := 1) dX2_seek_62 (by decide) ?_
          refine rr_iadd dX2_seek_63 ?_
          rw [nI_s k]
          refine rr_iloadn_2 dX2_seek_64 ?_
          refine rr_iloadn_3 dX2_seek_65 ?_
          refine rr_iconst (v := 2) dX2_seek_66 (by decide) ?_
          refine rr_iloadn_1 dX2_seek_67 ?_
          refine rr_imul dX2_seek_68 ?_
          refine rr_ishl dX2_seek_69 ?_
          refine rr_ior dX2_seek_70 ?_
          refine rr_callSv (ih (k + 1) _ _ b0 (by omega) hb0 (by rw [sd_wr_ne _ (by omega)]; exact g7) (by rw [sd_wr_ne _ (by omega)]; exact g8)) km_X2_81 rfl rfl (Nat.le_of_ble_eq_true rfl) dX2_seek_71 (fun s71 q71 => ?_)
          obtain ⟨-, q7, q8, he2⟩ := q71
          rw [sr_eqf.G ((sr_eqf.of (sr_eq.wr _ _ (by omega))).trans he), sd_rd_wr, ((sr_eqf.of (sr_eq.wr _ _ (by omega))).trans he).kb] at q7 q8
          have e3 : sr_eqf k s71 σ := ((he2.up (by omega)).trans (sr_eqf.of (sr_eq.wr _ _ (by omega)))).trans he
          refine rr_iinc_3 1 dX2_seek_74 (by decide) rfl ?_
          refine rr_goto 36 dX2_seek_77 (by decide) ?_
          rw [nI_s f]
          refine (ihj (f + 1) _ _ (by omega) (Nat.le_trans (sr_sk_le _ _ _ _ _ _ _) hb0) q7 q8 e3).post (fun r u q => ?_)
          simp only [sr_it, hs1 _ hst]
          exact q
    refine rr_iloadn_1 dX2_seek_0 ?_
    refine rr_aloadn_0 dX2_seek_1 ?_
    refine rr_geti dX2_seek_2 kf_X2_42 (by omega) rfl rfl ?_
    rw [h7]
    refine rr_icmp_ge 14 dX2_seek_5 (by decide) (fun h5 => ?_) (fun h5 => ?_)
    · exact rr_vret dX2_seek_14 ⟨rfl, by rw [h7, sr_sk_s, if_pos ((nI_le8 (by omega) (by omega)).mp h5)], by rw [h8, sr_sk_s, if_pos ((nI_le8 (by omega) (by omega)).mp h5)], sr_eqf.refl _ _⟩
    · refine rr_iloadn_1 dX2_seek_8 ?_
      refine rr_bipush (v := 7) dX2_seek_9 (by decide) ?_
      refine rr_icmp_le 15 dX2_seek_11 (by decide) (fun h11 => ?_) (fun h11 => absurd ((nI_le8 (b := 7) (by omega) (by omega)).mpr (by omega)) h11)
      refine rr_aloadn_0 dX2_seek_15 ?_
      refine rr_iloadn_1 dX2_seek_16 ?_
      by_cases hg : sr_G σ (sd_rd σ (21 + k)) = true
      · refine rr_callViD (c_X2_isAtGoal N _ _ hN k (by omega)) km_X2_74 rfl rfl (by omega) rfl (Nat.le_of_ble_eq_true rfl) dX2_seek_17 ?_
        rw [if_pos hg]
        refine rr_if_eq 34 dX2_seek_20 (by decide) (fun h20 => absurd h20 (by decide)) (fun h20 => ?_)
        refine rr_aloadn_0 dX2_seek_23 ?_
        refine rr_iloadn_1 dX2_seek_24 ?_
        refine rr_puti dX2_seek_25 kf_X2_42 if_2_7 (by omega) rfl rfl ?_
        refine rr_aloadn_0 dX2_seek_28 ?_
        refine rr_iloadn_2 dX2_seek_29 ?_
        refine rr_puti dX2_seek_30 kf_X2_45 if_2_8 (by omega) rfl rfl ?_
        exact rr_vret dX2_seek_33 ⟨rfl, by simp [rd_u2, sr_sk_s, hg, show ¬ br.1 ≤ k from fun q => h5 ((nI_le8 (by omega) (by omega)).mpr q)], by simp [rd_u2, sr_sk_s, hg, show ¬ br.1 ≤ k from fun q => h5 ((nI_le8 (by omega) (by omega)).mpr q)], fun a b _ h2 => by simp only [rd_u2]; rw [if_neg (by omega), if_neg (by omega)]⟩
      · refine rr_callViD (c_X2_isAtGoal N _ _ hN k (by omega)) km_X2_74 rfl rfl (by omega) rfl (Nat.le_of_ble_eq_true rfl) dX2_seek_17 ?_
        rw [if_neg hg]
        refine rr_if_eq 34 dX2_seek_20 (by decide) (fun h20 => ?_) (fun h20 => absurd rfl h20)
        refine rr_iconst (v := 0) dX2_seek_34 (by decide) ?_
        refine rr_istoren_3 dX2_seek_35 rfl ?_
        refine (loop 3 0 σ br rfl hb h7 h8 (sr_eqf.refl _ _)).post (fun r u q => ?_)
        rw [sr_sk_s, if_neg (show ¬ br.1 ≤ k from fun q => h5 ((nI_le8 (by omega) (by omega)).mpr q)), if_neg hg]
        exact q
