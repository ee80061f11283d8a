/-! ===== the reference: duel ===== -/
theorem gr_n {u : Int32} (h : ¬ 0 ≤ u) : sd_abs u = - u := by
  unfold sd_abs
  rw [if_neg h]; simp
theorem gr {D : sd_D} {v : Int32} (hv : sd_abs D.2.2.1 = v) : (v ≤ D.2.2.2.1 → D.2.2.2.1 = sr_gp D) ∧ (¬ v ≤ D.2.2.2.1 → v = sr_gp D) := by
  unfold sr_gp
  rw [hv]
  unfold sr_mx
  refine ⟨fun h => ?_, fun h => ?_⟩
  · by_cases q : v < D.2.2.2.1
    · rw [if_pos q]
    · rw [if_neg q]; exact Int32.le_antisymm (Int32.not_lt.mp q) h
  · rw [if_neg (fun q => h (Int32.le_of_lt q))]
set_option maxHeartbeats 4000000 in
set_option maxRecDepth 100000 in
theorem c_X5_greater (N d : Nat) (σ : rd_S) (hN : 49 ≤ N) (D A : sd_D) (n : Int32) : rd_T N (d + 0) yX5_greater cX5_greater 2 (some .int) [.ref 33] (ms σ D A n) (rd_is (some (.int (sr_gp D))) (ms σ D A n)) := by
  refine rd_start RX5 [.ref 33, .retAddr 0] rfl (by decide +kernel) rfl (Nat.le_of_ble_eq_true rfl) ?_
  refine rr_aloadn_0 dX5_greater_0 ?_
  refine rr_getr 37 dX5_greater_1 kf_X5_19 (by omega) rfl rfl rfl ?_
  refine rr_bipush (v := 8) dX5_greater_4 (by decide) ?_
  refine rr_iald (8) dX5_greater_6 (by omega) rfl rfl (by decide) ?_
  rw [g8_ms]
  refine rr_if_ge 21 dX5_greater_7 (by decide) (fun h7 => ?_) (fun h7 => ?_)
  · refine rr_aloadn_0 dX5_greater_21 ?_
    refine rr_getr 37 dX5_greater_22 kf_X5_19 (by omega) rfl rfl rfl ?_
    refine rr_bipush (v := 8) dX5_greater_25 (by decide) ?_
    refine rr_iald (8) dX5_greater_27 (by omega) rfl rfl (by decide) ?_
    first | rw [g8_ms] | skip
    refine rr_istoren_1 dX5_greater_28 rfl ?_
    refine rr_iloadn_1 dX5_greater_29 ?_
    refine rr_aloadn_0 dX5_greater_30 ?_
    refine rr_getr 37 dX5_greater_31 kf_X5_19 (by omega) rfl rfl rfl ?_
    refine rr_bipush (v := 9) dX5_greater_34 (by decide) ?_
    refine rr_iald (9) dX5_greater_36 (by omega) rfl rfl (by decide) ?_
    rw [g9_ms]
    refine rr_icmp_le 44 dX5_greater_37 (by decide) (fun h37 => ?_) (fun h37 => ?_)
    · refine rr_aloadn_0 dX5_greater_44 ?_
      refine rr_getr 37 dX5_greater_45 kf_X5_19 (by omega) rfl rfl rfl ?_
      refine rr_bipush (v := 9) dX5_greater_48 (by decide) ?_
      refine rr_iald (9) dX5_greater_50 (by omega) rfl rfl (by decide) ?_
      first | rw [g9_ms] | skip
      exact rr_iret dX5_greater_51 ⟨congrArg (fun z => some (Value.int z)) (by first | exact (gr (if_pos h7)).1 h37 | exact (gr (if_pos h7)).2 h37 | exact (gr (gr_n h7)).1 h37 | exact (gr (gr_n h7)).2 h37), rfl⟩
    · refine rr_iloadn_1 dX5_greater_40 ?_
      refine rr_goto 51 dX5_greater_41 (by decide) ?_
      first | rw [g9_ms] | skip
      exact rr_iret dX5_greater_51 ⟨congrArg (fun z => some (Value.int z)) (by first | exact (gr (if_pos h7)).1 h37 | exact (gr (if_pos h7)).2 h37 | exact (gr (gr_n h7)).1 h37 | exact (gr (gr_n h7)).2 h37), rfl⟩
  · refine rr_aloadn_0 dX5_greater_10 ?_
    refine rr_getr 37 dX5_greater_11 kf_X5_19 (by omega) rfl rfl rfl ?_
    refine rr_bipush (v := 8) dX5_greater_14 (by decide) ?_
    refine rr_iald (8) dX5_greater_16 (by omega) rfl rfl (by decide) ?_
    rw [g8_ms]
    refine rr_ineg dX5_greater_17 ?_
    refine rr_goto 28 dX5_greater_18 (by decide) ?_
    first | rw [g8_ms] | skip
    refine rr_istoren_1 dX5_greater_28 rfl ?_
    refine rr_iloadn_1 dX5_greater_29 ?_
    refine rr_aloadn_0 dX5_greater_30 ?_
    refine rr_getr 37 dX5_greater_31 kf_X5_19 (by omega) rfl rfl rfl ?_
    refine rr_bipush (v := 9) dX5_greater_34 (by decide) ?_
    refine rr_iald (9) dX5_greater_36 (by omega) rfl rfl (by decide) ?_
    rw [g9_ms]
    refine rr_icmp_le 44 dX5_greater_37 (by decide) (fun h37 => ?_) (fun h37 => ?_)
    · refine rr_aloadn_0 dX5_greater_44 ?_
      refine rr_getr 37 dX5_greater_45 kf_X5_19 (by omega) rfl rfl rfl ?_
      refine rr_bipush (v := 9) dX5_greater_48 (by decide) ?_
      refine rr_iald (9) dX5_greater_50 (by omega) rfl rfl (by decide) ?_
      first | rw [g9_ms] | skip
      exact rr_iret dX5_greater_51 ⟨congrArg (fun z => some (Value.int z)) (by first | exact (gr (if_pos h7)).1 h37 | exact (gr (if_pos h7)).2 h37 | exact (gr (gr_n h7)).1 h37 | exact (gr (gr_n h7)).2 h37), rfl⟩
    · refine rr_iloadn_1 dX5_greater_40 ?_
      refine rr_goto 51 dX5_greater_41 (by decide) ?_
      first | rw [g9_ms] | skip
      exact rr_iret dX5_greater_51 ⟨congrArg (fun z => some (Value.int z)) (by first | exact (gr (if_pos h7)).1 h37 | exact (gr (if_pos h7)).2 h37 | exact (gr (gr_n h7)).1 h37 | exact (gr (gr_n h7)).2 h37), rfl⟩
def be_r (most : Bool) (v w : Int32) : Int32 := if 0 ≤ v then (if 0 ≤ w then (if w ≤ v then (if most = true then v else w) else (if most = true then w else v)) else v) else w
set_option maxHeartbeats 4000000 in
set_option maxRecDepth 100000 in
theorem c_X5_better (N d : Nat) (σ : rd_S) (hN : 49 ≤ N) (v w : Int32) (b : Bool) : rd_T N (d + 0) yX5_better cX5_better 4 (some .int) [.ref 33, .int v, .int w, .int (if b = true then 1 else 0)] σ (rd_is (some (.int (be_r b v w))) σ) := by
  refine rd_start RX5 [.ref 33, .int v, .int w, .int (if b = true then 1 else 0)] rfl (by decide +kernel) rfl (Nat.le_of_ble_eq_true rfl) ?_
  refine rr_iloadn_1 dX5_better_0 ?_
  refine rr_if_ge 8 dX5_better_1 (by decide) (fun h1 => ?_) (fun h1 => ?_)
  · refine rr_iloadn_2 dX5_better_8 ?_
    refine rr_if_ge 16 dX5_better_9 (by decide) (fun h9 => ?_) (fun h9 => ?_)
    · refine rr_iloadn_2 dX5_better_16 ?_
      refine rr_iloadn_1 dX5_better_17 ?_
      refine rr_icmp_le 25 dX5_better_18 (by decide) (fun h18 => ?_) (fun h18 => ?_)
      · refine rr_iconst (v := 0) dX5_better_25 (by decide) ?_
        refine rr_iloadn_3 dX5_better_26 ?_
        cases b
        · refine rr_icmp_ne 34 dX5_better_27 (by decide) (fun h27 => ?_) (fun h27 => ?_)
          · refine rr_iloadn_1 dX5_better_34 ?_
            exact rr_iret dX5_better_35 ⟨by unfold be_r; first | (rw [if_neg h1]; done) | (rw [if_pos h1, if_neg h9]; done) | (rw [if_pos h1, if_pos h9, if_pos h18]; first | rfl | exact absurd (by decide) h27 | exact absurd h27 (by decide)) | (rw [if_pos h1, if_pos h9, if_neg h18]; first | rfl | exact absurd (by decide) h27 | exact absurd h27 (by decide)), rfl⟩
          · refine rr_iloadn_2 dX5_better_30 ?_
            refine rr_goto 35 dX5_better_31 (by decide) ?_
            exact rr_iret dX5_better_35 ⟨by unfold be_r; first | (rw [if_neg h1]; done) | (rw [if_pos h1, if_neg h9]; done) | (rw [if_pos h1, if_pos h9, if_pos h18]; first | rfl | exact absurd (by decide) h27 | exact absurd h27 (by decide)) | (rw [if_pos h1, if_pos h9, if_neg h18]; first | rfl | exact absurd (by decide) h27 | exact absurd h27 (by decide)), rfl⟩
        · refine rr_icmp_ne 34 dX5_better_27 (by decide) (fun h27 => ?_) (fun h27 => ?_)
          · refine rr_iloadn_1 dX5_better_34 ?_
            exact rr_iret dX5_better_35 ⟨by unfold be_r; first | (rw [if_neg h1]; done) | (rw [if_pos h1, if_neg h9]; done) | (rw [if_pos h1, if_pos h9, if_pos h18]; first | rfl | exact absurd (by decide) h27 | exact absurd h27 (by decide)) | (rw [if_pos h1, if_pos h9, if_neg h18]; first | rfl | exact absurd (by decide) h27 | exact absurd h27 (by decide)), rfl⟩
          · refine rr_iloadn_2 dX5_better_30 ?_
            refine rr_goto 35 dX5_better_31 (by decide) ?_
            exact rr_iret dX5_better_35 ⟨by unfold be_r; first | (rw [if_neg h1]; done) | (rw [if_pos h1, if_neg h9]; done) | (rw [if_pos h1, if_pos h9, if_pos h18]; first | rfl | exact absurd (by decide) h27 | exact absurd h27 (by decide)) | (rw [if_pos h1, if_pos h9, if_neg h18]; first | rfl | exact absurd (by decide) h27 | exact absurd h27 (by decide)), rfl⟩
      · refine rr_iconst (v := 1) dX5_better_21 (by decide) ?_
        refine rr_goto 26 dX5_better_22 (by decide) ?_
        refine rr_iloadn_3 dX5_better_26 ?_
        cases b
        · refine rr_icmp_ne 34 dX5_better_27 (by decide) (fun h27 => ?_) (fun h27 => ?_)
          · refine rr_iloadn_1 dX5_better_34 ?_
            exact rr_iret dX5_better_35 ⟨by unfold be_r; first | (rw [if_neg h1]; done) | (rw [if_pos h1, if_neg h9]; done) | (rw [if_pos h1, if_pos h9, if_pos h18]; first | rfl | exact absurd (by decide) h27 | exact absurd h27 (by decide)) | (rw [if_pos h1, if_pos h9, if_neg h18]; first | rfl | exact absurd (by decide) h27 | exact absurd h27 (by decide)), rfl⟩
          · refine rr_iloadn_2 dX5_better_30 ?_
            refine rr_goto 35 dX5_better_31 (by decide) ?_
            exact rr_iret dX5_better_35 ⟨by unfold be_r; first | (rw [if_neg h1]; done) | (rw [if_pos h1, if_neg h9]; done) | (rw [if_pos h1, if_pos h9, if_pos h18]; first | rfl | exact absurd (by decide) h27 | exact absurd h27 (by decide)) | (rw [if_pos h1, if_pos h9, if_neg h18]; first | rfl | exact absurd (by decide) h27 | exact absurd h27 (by decide)), rfl⟩
        · refine rr_icmp_ne 34 dX5_better_27 (by decide) (fun h27 => ?_) (fun h27 => ?_)
          · refine rr_iloadn_1 dX5_better_34 ?_
            exact rr_iret dX5_better_35 ⟨by unfold be_r; first | (rw [if_neg h1]; done) | (rw [if_pos h1, if_neg h9]; done) | (rw [if_pos h1, if_pos h9, if_pos h18]; first | rfl | exact absurd (by decide) h27 | exact absurd h27 (by decide)) | (rw [if_pos h1, if_pos h9, if_neg h18]; first | rfl | exact absurd (by decide) h27 | exact absurd h27 (by decide)), rfl⟩
          · refine rr_iloadn_2 dX5_better_30 ?_
            refine rr_goto 35 dX5_better_31 (by decide) ?_
            exact rr_iret dX5_better_35 ⟨by unfold be_r; first | (rw [if_neg h1]; done) | (rw [if_pos h1, if_neg h9]; done) | (rw [if_pos h1, if_pos h9, if_pos h18]; first | rfl | exact absurd (by decide) h27 | exact absurd h27 (by decide)) | (rw [if_pos h1, if_pos h9, if_neg h18]; first | rfl | exact absurd (by decide) h27 | exact absurd h27 (by decide)), rfl⟩
    · refine rr_iloadn_1 dX5_better_12 ?_
      refine rr_goto 35 dX5_better_13 (by decide) ?_
      exact rr_iret dX5_better_35 ⟨by unfold be_r; first | (rw [if_neg h1]; done) | (rw [if_pos h1, if_neg h9]; done) | (rw [if_pos h1, if_pos h9, if_pos h18]; first | rfl | exact absurd (by decide) h27 | exact absurd h27 (by decide)) | (rw [if_pos h1, if_pos h9, if_neg h18]; first | rfl | exact absurd (by decide) h27 | exact absurd h27 (by decide)), rfl⟩
  · refine rr_iloadn_2 dX5_better_4 ?_
    refine rr_goto 35 dX5_better_5 (by decide) ?_
    exact rr_iret dX5_better_35 ⟨by unfold be_r; first | (rw [if_neg h1]; done) | (rw [if_pos h1, if_neg h9]; done) | (rw [if_pos h1, if_pos h9, if_pos h18]; first | rfl | exact absurd (by decide) h27 | exact absurd h27 (by decide)) | (rw [if_pos h1, if_pos h9, if_neg h18]; first | rfl | exact absurd (by decide) h27 | exact absurd h27 (by decide)), rfl⟩
def du_f (c t : Nat) : Nat := if c = 0 then t % 2 else c + 1
theorem du_f4 (c t : Nat) (h : c < 3) : fg4 (nI (du_f c t)) := by
  unfold du_f
  rcases (show c = 0 ∨ c = 1 ∨ c = 2 by omega) with rfl | rfl | rfl
  · rw [if_pos rfl]; rcases (show t % 2 = 0 ∨ t % 2 = 1 by omega) with e | e <;> rw [e]; exact Or.inl rfl; exact Or.inr (Or.inl rfl)
  · exact Or.inr (Or.inr (Or.inl rfl))
  · exact Or.inr (Or.inr (Or.inr rfl))
def du (kb : Int32) (code : Nat) : Nat → Nat → sd_D → Bool × sd_D
  | 0, _, D => (true, D)
  | m + 1, t, D => match sd_st D (nI (du_f (code / 3 ^ m % 3) t)) kb with
    | none => (false, D)
    | some E => du kb code m (t + 1) E
set_option maxHeartbeats 4000000 in
set_option maxRecDepth 100000 in
theorem lp_duel1 (N d : Nat) (hN : 49 ≤ N) (σ : rd_S) (A : sd_D) (kb : Int32) (hk : kd_at σ kb) (code : Nat) (hcode : code < 100000) (x1 x2 : Value) (Q : Option Value → rd_S → Prop) : ∀ (m t c : Nat) (D : sd_D) (n : Int32) (z7 : Value), m ≤ 5 → t + m ≤ 10 → wf c D → c + m < 1000000 → (∀ (x5 x6 : Int32) (z7 : Value) (n1 : Int32), rd_W N (d + 3) RX5 cX5_duel 8 (some .int) 94 [.ref 33, x1, x2, .int (nI code), .int (if (du kb code m t D).1 = true then 1 else 0), .int x5, .int x6, z7] [] (ms σ (du kb code m t D).2 A n1) Q) → rd_W N (d + 3) RX5 cX5_duel 8 (some .int) 42 [.ref 33, x1, x2, .int (nI code), .int 1, .int (nI t), .int (nI (3 ^ m / 3)), z7] [] (ms σ D A n) Q := by
  intro m
  induction m with
  | zero =>
    intro t c D n z7 hm ht hw hc K
    refine rr_iload_6 dX5_duel_42 ?_
    refine rr_if_le 94 dX5_duel_44 (by decide) (fun h44 => ?_) (fun h44 => absurd (by decide) h44)
    exact K _ _ _ _
  | succ m ih =>
    intro t c D n z7 hm ht hw hc K
    have h3 := p3_le (show m ≤ 7 by omega)
    have h3p := p3_pos m
    have e0 : 3 ^ (m + 1) / 3 = 3 ^ m := by rw [Nat.pow_succ, Nat.mul_div_cancel _ (by decide)]
    rw [e0]
    have e1 : nI code / nI (3 ^ m) - nI code / nI (3 ^ m) / 3 * 3 = nI (code / 3 ^ m % 3) := by
      rw [pk_div (by omega) h3p (by omega)]
      have := Nat.div_le_self code (3 ^ m)
      exact pk_rem (d := 3) (by omega) (by decide) (by decide)
    have e2 : nI (3 ^ m) / 3 = nI (3 ^ m / 3) := pk_div (d := 3) (by omega) (by decide) (by decide)
    have hcc : code / 3 ^ m % 3 < 3 := Nat.mod_lt _ (by decide)
    have go : rd_W N (d + 3) RX5 cX5_duel 8 (some .int) 77 [.ref 33, x1, x2, .int (nI code), .int 1, .int (nI t), .int (nI (3 ^ m)), .int (nI (code / 3 ^ m % 3))] [.int (nI (du_f (code / 3 ^ m % 3) t)), .ref 33] (ms σ D A n) Q := by
      rcases hst : sd_st D (nI (du_f (code / 3 ^ m % 3) t)) kb with _ | E
      · have e9 : du kb code (m + 1) t D = (false, D) := by simp [du, hst]
        rw [e9] at K
        refine rr_callViD (c_dances_n N _ σ hN c (by omega) D A n kb hw hk _ (du_f4 _ _ hcc) hst) km_X5_144 rfl rfl (by omega) rfl (Nat.le_of_ble_eq_true rfl) dX5_duel_77 ?_
        refine rr_istore_4 dX5_duel_80 rfl ?_
        refine rr_iinc_5 1 dX5_duel_82 (by decide) rfl ?_
        refine rr_iload_6 dX5_duel_85 ?_
        refine rr_iconst (v := 3) dX5_duel_87 (by decide) ?_
        refine rr_idiv dX5_duel_88 (by decide) ?_
        refine rr_istore_6 dX5_duel_89 rfl ?_
        refine rr_goto 42 dX5_duel_91 (by decide) ?_
        refine rr_iload_6 dX5_duel_42 ?_
        refine rr_if_le 94 dX5_duel_44 (by decide) (fun h44 => ?_) (fun h44 => ?_)
        · exact K _ _ _ _
        · refine rr_iload_4 dX5_duel_47 ?_
          refine rr_if_eq 94 dX5_duel_49 (by decide) (fun _ => ?_) (fun h49 => absurd h49 (by decide))
          exact K _ _ _ _
      · have e9 : du kb code (m + 1) t D = du kb code m (t + 1) E := by simp [du, hst]
        rw [e9] at K
        refine rr_callViD (c_dances_s N _ σ hN c (by omega) D A n kb hw hk _ (du_f4 _ _ hcc) hst) km_X5_144 rfl rfl (by omega) rfl (Nat.le_of_ble_eq_true rfl) dX5_duel_77 ?_
        refine rr_istore_4 dX5_duel_80 rfl ?_
        refine rr_iinc_5 1 dX5_duel_82 (by decide) rfl ?_
        refine rr_iload_6 dX5_duel_85 ?_
        refine rr_iconst (v := 3) dX5_duel_87 (by decide) ?_
        refine rr_idiv dX5_duel_88 (by decide) ?_
        rw [e2]
        refine rr_istore_6 dX5_duel_89 rfl ?_
        refine rr_goto 42 dX5_duel_91 (by decide) ?_
        rw [nI_s t]
        exact ih (t + 1) (c + 1) E _ _ (by omega) (by omega) (wf_go hw (by omega) hst) (by omega) K
    refine rr_iload_6 dX5_duel_42 ?_
    refine rr_if_le 94 dX5_duel_44 (by decide) (fun h44 => absurd h44 (nI_nle h3p (by omega))) (fun h44 => ?_)
    refine rr_iload_4 dX5_duel_47 ?_
    refine rr_if_eq 94 dX5_duel_49 (by decide) (fun h49 => absurd h49 (by decide)) (fun _ => ?_)
    refine rr_iloadn_3 dX5_duel_52 ?_
    refine rr_iload_6 dX5_duel_53 ?_
    refine rr_idiv dX5_duel_55 (nI_ne0 h3p (by omega)) ?_
    refine rr_iconst (v := 3) dX5_duel_56 (by decide) ?_
    refine rr_irem dX5_duel_57 (by decide) ?_
    rw [e1]
    refine rr_istore_7 dX5_duel_58 rfl ?_
    refine rr_aloadn_0 dX5_duel_60 ?_
    refine rr_iload_7 dX5_duel_61 ?_
    by_cases hz : code / 3 ^ m % 3 = 0
    · refine rr_if_ne 73 dX5_duel_63 (by decide) (fun h63 => absurd (by rw [hz]; rfl) h63) (fun h63 => ?_)
      refine rr_iload_5 dX5_duel_66 ?_
      refine rr_iconst (v := 2) dX5_duel_68 (by decide) ?_
      refine rr_irem dX5_duel_69 (by decide) ?_
      rw [show nI t - nI t / 2 * 2 = nI (t % 2) from nI_mod2 (by omega)]
      refine rr_goto 77 dX5_duel_70 (by decide) ?_
      rw [show nI (t % 2) = nI (du_f (code / 3 ^ m % 3) t) by rw [du_f, if_pos hz]]
      exact go
    · refine rr_if_ne 73 dX5_duel_63 (by decide) (fun h63 => ?_) (fun h63 => absurd ((nI_eq8 (b := 0) (by omega) (by omega)).mp h63) hz)
      refine rr_iload_7 dX5_duel_73 ?_
      refine rr_iconst (v := 1) dX5_duel_75 (by decide) ?_
      refine rr_iadd dX5_duel_76 ?_
      rw [show nI (code / 3 ^ m % 3) + 1 = nI (du_f (code / 3 ^ m % 3) t) by rw [du_f, if_neg hz]; exact nI_add _ 1]
      exact go
