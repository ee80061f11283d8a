/-! ===== the reference: begin ===== -/
def bq_t (f0 f1 f2 f3 k : Nat) : Int32 := if k = 11 then 0 else if k = 10 then 0 else if k = 9 then 1 else if k = 8 then 0 else if k = 7 then nI f3 / 2 else if k = f3 then 3 else if k = 6 then nI f2 / 2 else if k = f2 then 2 else if k = 5 then nI f1 / 2 else if k = f1 then 1 else if k = 4 then nI f0 / 2 else 0
def bq_P (f0 f1 f2 f3 : Nat) : Nat := f0 + 4 * f1 + 16 * f2 + 64 * f3
def bq_d (f0 f1 f2 f3 : Nat) : Bool := f0 != f1 && f0 != f2 && f0 != f3 && f1 != f2 && f1 != f3 && f2 != f3
def bq_c (f0 f1 f2 f3 : Nat) : Bool := !bq_d f0 f1 f2 f3 || ((List.range 12).all (fun k => decide (md_of (sd_begin (ps_ord (nI (bq_P f0 f1 f2 f3)))) k = bq_t f0 f1 f2 f3 k)) && (List.range 4).all (fun k => decide (k = f0 ∨ k = f1 ∨ k = f2 ∨ k = f3)))
theorem bq_all : ∀ f0, f0 < 4 → ∀ f1, f1 < 4 → ∀ f2, f2 < 4 → ∀ f3, f3 < 4 → bq_c f0 f1 f2 f3 = true := by decide +kernel
theorem bq_both {f0 f1 f2 f3 : Nat} (h0 : f0 < 4) (h1 : f1 < 4) (h2 : f2 < 4) (h3 : f3 < 4) (hd : bq_d f0 f1 f2 f3 = true) : (∀ k, k < 12 → md_of (sd_begin (ps_ord (nI (bq_P f0 f1 f2 f3)))) k = bq_t f0 f1 f2 f3 k) ∧ ∀ k, k < 4 → k = f0 ∨ k = f1 ∨ k = f2 ∨ k = f3 := by
  have h := bq_all f0 h0 f1 h1 f2 h2 f3 h3
  unfold bq_c at h
  rw [hd, Bool.not_true, Bool.false_or, Bool.and_eq_true] at h
  exact ⟨fun k hk => of_decide_eq_true (List.all_eq_true.mp h.1 k (List.mem_range.mpr hk)), fun k hk => of_decide_eq_true (List.all_eq_true.mp h.2 k (List.mem_range.mpr hk))⟩
theorem bq_ok (f0 : Nat) (h0 : f0 < 4) (f1 : Nat) (h1 : f1 < 4) (f2 : Nat) (h2 : f2 < 4) (f3 : Nat) (h3 : f3 < 4) (hd : bq_d f0 f1 f2 f3 = true) (k : Nat) (hk : k < 12) : md_of (sd_begin (ps_ord (nI (bq_P f0 f1 f2 f3)))) k = bq_t f0 f1 f2 f3 k := (bq_both h0 h1 h2 h3 hd).1 k hk
theorem bq_0 (f0 : Nat) (h0 : f0 < 4) (f1 : Nat) (h1 : f1 < 4) (f2 : Nat) (h2 : f2 < 4) (f3 : Nat) (h3 : f3 < 4) (hd : bq_d f0 f1 f2 f3 = true) (k : Nat) (hk : k < 4) : k = f0 ∨ k = f1 ∨ k = f2 ∨ k = f3 := (bq_both h0 h1 h2 h3 hd).2 k hk
theorem bq_st (σ : rd_S) {f0 f1 f2 f3 : Nat} (h0 : f0 < 4) (h1 : f1 < 4) (h2 : f2 < 4) (h3 : f3 < 4) (hd : bq_d f0 f1 f2 f3 = true) : rd_u2 (rd_u2 (rd_u2 (rd_u2 (rd_u2 (rd_u2 (rd_u2 (rd_u2 (rd_u2 (rd_u2 (rd_u2 (rd_u2 σ 37 f0 0) 37 4 (nI f0 / 2)) 37 f1 1) 37 5 (nI f1 / 2)) 37 f2 2) 37 6 (nI f2 / 2)) 37 f3 3) 37 7 (nI f3 / 2)) 37 8 0) 37 9 1) 37 10 0) 37 11 0 = mr σ (sd_begin (ps_ord (nI (bq_P f0 f1 f2 f3)))) := by
  refine mr_ext (fun a b h => ?_) (fun k hk => ?_)
  · rw [u2_off (by omega), u2_off (by omega), u2_off (by omega), u2_off (by omega), u2_off (by omega), u2_off (by omega), u2_off (by omega), u2_off (by omega), u2_off (by omega), u2_off (by omega), u2_off (by omega), u2_off (by omega)]
  · rw [bq_ok f0 h0 f1 h1 f2 h2 f3 h3 hd k hk]
    have hz := bq_0 f0 h0 f1 h1 f2 h2 f3 h3 hd k
    unfold bq_t
    by_cases q11 : k = 11
    · rw [if_pos q11, q11, u2_at]
    rw [if_neg q11, u2_off (fun z => q11 z.2)]
    by_cases q10 : k = 10
    · rw [if_pos q10, q10, u2_at]
    rw [if_neg q10, u2_off (fun z => q10 z.2)]
    by_cases q9 : k = 9
    · rw [if_pos q9, q9, u2_at]
    rw [if_neg q9, u2_off (fun z => q9 z.2)]
    by_cases q8 : k = 8
    · rw [if_pos q8, q8, u2_at]
    rw [if_neg q8, u2_off (fun z => q8 z.2)]
    by_cases q7 : k = 7
    · rw [if_pos q7, q7, u2_at]
    rw [if_neg q7, u2_off (fun z => q7 z.2)]
    by_cases qf3 : k = f3
    · rw [if_pos qf3, qf3, u2_at]
    rw [if_neg qf3, u2_off (fun z => qf3 z.2)]
    by_cases q6 : k = 6
    · rw [if_pos q6, q6, u2_at]
    rw [if_neg q6, u2_off (fun z => q6 z.2)]
    by_cases qf2 : k = f2
    · rw [if_pos qf2, qf2, u2_at]
    rw [if_neg qf2, u2_off (fun z => qf2 z.2)]
    by_cases q5 : k = 5
    · rw [if_pos q5, q5, u2_at]
    rw [if_neg q5, u2_off (fun z => q5 z.2)]
    by_cases qf1 : k = f1
    · rw [if_pos qf1, qf1, u2_at]
    rw [if_neg qf1, u2_off (fun z => qf1 z.2)]
    by_cases q4 : k = 4
    · rw [if_pos q4, q4, u2_at]
    rw [if_neg q4, u2_off (fun z => q4 z.2)]
    have e : k = f0 := by rcases hz (by omega) with e | e | e | e; exact e; exact absurd e qf1; exact absurd e qf2; exact absurd e qf3
    rw [e, u2_at]
set_option maxHeartbeats 4000000 in
set_option maxRecDepth 100000 in
theorem c_begin (N d : Nat) (σ : rd_S) (hN : 49 ≤ N) (f0 f1 f2 f3 : Nat) (h0 : f0 < 4) (h1 : f1 < 4) (h2 : f2 < 4) (h3 : f3 < 4) (hd : bq_d f0 f1 f2 f3 = true) (e0 : σ 35 0 = nI f0) (e1 : σ 35 1 = nI f1) (e2 : σ 35 2 = nI f2) (e3 : σ 35 3 = nI f3) : rd_T N (d + 0) yX5_begin cX5_begin 2 none [.ref 33] σ (rd_is none (rd_u2 (rd_u2 (rd_u2 (mr σ (sd_begin (ps_ord (nI (bq_P f0 f1 f2 f3))))) 33 6 0) 33 8 0) 33 10 0)) := by
  refine rd_start RX5 [.ref 33, .retAddr 0] rfl (by decide +kernel) rfl (Nat.le_of_ble_eq_true rfl) ?_
  refine rr_iconst (v := 0) dX5_begin_0 (by decide) ?_
  refine rr_istoren_1 dX5_begin_1 rfl ?_
  refine rr_iloadn_1 dX5_begin_2 ?_
  refine rr_iconst (v := 4) dX5_begin_3 (by decide) ?_
  refine rr_icmp_ge 43 dX5_begin_4 (by decide) (fun h4 => absurd h4 (by decide)) (fun _ => ?_)
  refine rr_aloadn_0 dX5_begin_7 ?_
  refine rr_getr 37 dX5_begin_8 kf_X5_19 (by omega) rfl rfl rfl ?_
  refine rr_iconst (v := 0) dX5_begin_11 (by decide) ?_
  refine rr_aloadn_0 dX5_begin_12 ?_
  refine rr_getr 35 dX5_begin_13 kf_X5_13 (by omega) rfl rfl rfl ?_
  refine rr_iloadn_1 dX5_begin_16 ?_
  refine rr_iald (0) dX5_begin_17 (by omega) rfl (by decide) (by decide) ?_
  repeat rw [u2_off (by omega)]
  first | rw [e0] | rw [e1] | rw [e2] | rw [e3]
  refine rr_iadd dX5_begin_18 ?_
  rw [Int32.zero_add]
  refine rr_iloadn_1 dX5_begin_19 ?_
  refine rr_iast (f0) dX5_begin_20 (by omega) rfl rfl (show f0 < 12 by omega) ?_
  refine rr_aloadn_0 dX5_begin_21 ?_
  refine rr_getr 37 dX5_begin_22 kf_X5_19 (by omega) rfl rfl rfl ?_
  refine rr_iconst (v := 4) dX5_begin_25 (by decide) ?_
  refine rr_iloadn_1 dX5_begin_26 ?_
  refine rr_iadd dX5_begin_27 ?_
  refine rr_aloadn_0 dX5_begin_28 ?_
  refine rr_getr 35 dX5_begin_29 kf_X5_13 (by omega) rfl rfl rfl ?_
  refine rr_iloadn_1 dX5_begin_32 ?_
  refine rr_iald (0) dX5_begin_33 (by omega) rfl (by decide) (by decide) ?_
  repeat rw [u2_off (by omega)]
  first | rw [e0] | rw [e1] | rw [e2] | rw [e3]
  refine rr_iconst (v := 2) dX5_begin_34 (by decide) ?_
  refine rr_idiv dX5_begin_35 (by decide) ?_
  refine rr_iast (4) dX5_begin_36 (by omega) rfl (by decide) (by decide) ?_
  refine rr_iincC_1 1 1 dX5_begin_37 (by decide) (by decide) rfl ?_
  refine rr_goto 2 dX5_begin_40 (by decide) ?_
  refine rr_iloadn_1 dX5_begin_2 ?_
  refine rr_iconst (v := 4) dX5_begin_3 (by decide) ?_
  refine rr_icmp_ge 43 dX5_begin_4 (by decide) (fun h4_1 => absurd h4_1 (by decide)) (fun _ => ?_)
  refine rr_aloadn_0 dX5_begin_7 ?_
  refine rr_getr 37 dX5_begin_8 kf_X5_19 (by omega) rfl rfl rfl ?_
  refine rr_iconst (v := 0) dX5_begin_11 (by decide) ?_
  refine rr_aloadn_0 dX5_begin_12 ?_
  refine rr_getr 35 dX5_begin_13 kf_X5_13 (by omega) rfl rfl rfl ?_
  refine rr_iloadn_1 dX5_begin_16 ?_
  refine rr_iald (1) dX5_begin_17 (by omega) rfl (by decide) (by decide) ?_
  repeat rw [u2_off (by omega)]
  first | rw [e0] | rw [e1] | rw [e2] | rw [e3]
  refine rr_iadd dX5_begin_18 ?_
  rw [Int32.zero_add]
  refine rr_iloadn_1 dX5_begin_19 ?_
  refine rr_iast (f1) dX5_begin_20 (by omega) rfl rfl (show f1 < 12 by omega) ?_
  refine rr_aloadn_0 dX5_begin_21 ?_
  refine rr_getr 37 dX5_begin_22 kf_X5_19 (by omega) rfl rfl rfl ?_
  refine rr_iconst (v := 4) dX5_begin_25 (by decide) ?_
  refine rr_iloadn_1 dX5_begin_26 ?_
  refine rr_iadd dX5_begin_27 ?_
  refine rr_aloadn_0 dX5_begin_28 ?_
  refine rr_getr 35 dX5_begin_29 kf_X5_13 (by omega) rfl rfl rfl ?_
  refine rr_iloadn_1 dX5_begin_32 ?_
  refine rr_iald (1) dX5_begin_33 (by omega) rfl (by decide) (by decide) ?_
  repeat rw [u2_off (by omega)]
  first | rw [e0] | rw [e1] | rw [e2] | rw [e3]
  refine rr_iconst (v := 2) dX5_begin_34 (by decide) ?_
  refine rr_idiv dX5_begin_35 (by decide) ?_
  refine rr_iast (5) dX5_begin_36 (by omega) rfl (by decide) (by decide) ?_
  refine rr_iincC_1 1 2 dX5_begin_37 (by decide) (by decide) rfl ?_
  refine rr_goto 2 dX5_begin_40 (by decide) ?_
  refine rr_iloadn_1 dX5_begin_2 ?_
  refine rr_iconst (v := 4) dX5_begin_3 (by decide) ?_
  refine rr_icmp_ge 43 dX5_begin_4 (by decide) (fun h4_2 => absurd h4_2 (by decide)) (fun _ => ?_)
  refine rr_aloadn_0 dX5_begin_7 ?_
  refine rr_getr 37 dX5_begin_8 kf_X5_19 (by omega) rfl rfl rfl ?_
  refine rr_iconst (v := 0) dX5_begin_11 (by decide) ?_
  refine rr_aloadn_0 dX5_begin_12 ?_
  refine rr_getr 35 dX5_begin_13 kf_X5_13 (by omega) rfl rfl rfl ?_
  refine rr_iloadn_1 dX5_begin_16 ?_
  refine rr_iald (2) dX5_begin_17 (by omega) rfl (by decide) (by decide) ?_
  repeat rw [u2_off (by omega)]
  first | rw [e0] | rw [e1] | rw [e2] | rw [e3]
  refine rr_iadd dX5_begin_18 ?_
  rw [Int32.zero_add]
  refine rr_iloadn_1 dX5_begin_19 ?_
  refine rr_iast (f2) dX5_begin_20 (by omega) rfl rfl (show f2 < 12 by omega) ?_
  refine rr_aloadn_0 dX5_begin_21 ?_
  refine rr_getr 37 dX5_begin_22 kf_X5_19 (by omega) rfl rfl rfl ?_
  refine rr_iconst (v := 4) dX5_begin_25 (by decide) ?_
  refine rr_iloadn_1 dX5_begin_26 ?_
  refine rr_iadd dX5_begin_27 ?_
  refine rr_aloadn_0 dX5_begin_28 ?_
  refine rr_getr 35 dX5_begin_29 kf_X5_13 (by omega) rfl rfl rfl ?_
  refine rr_iloadn_1 dX5_begin_32 ?_
  refine rr_iald (2) dX5_begin_33 (by omega) rfl (by decide) (by decide) ?_
  repeat rw [u2_off (by omega)]
  first | rw [e0] | rw [e1] | rw [e2] | rw [e3]
  refine rr_iconst (v := 2) dX5_begin_34 (by decide) ?_
  refine rr_idiv dX5_begin_35 (by decide) ?_
  refine rr_iast (6) dX5_begin_36 (by omega) rfl (by decide) (by decide) ?_
  refine rr_iincC_1 1 3 dX5_begin_37 (by decide) (by decide) rfl ?_
  refine rr_goto 2 dX5_begin_40 (by decide) ?_
  refine rr_iloadn_1 dX5_begin_2 ?_
  refine rr_iconst (v := 4) dX5_begin_3 (by decide) ?_
  refine rr_icmp_ge 43 dX5_begin_4 (by decide) (fun h4_3 => absurd h4_3 (by decide)) (fun _ => ?_)
  refine rr_aloadn_0 dX5_begin_7 ?_
  refine rr_getr 37 dX5_begin_8 kf_X5_19 (by omega) rfl rfl rfl ?_
  refine rr_iconst (v := 0) dX5_begin_11 (by decide) ?_
  refine rr_aloadn_0 dX5_begin_12 ?_
  refine rr_getr 35 dX5_begin_13 kf_X5_13 (by omega) rfl rfl rfl ?_
  refine rr_iloadn_1 dX5_begin_16 ?_
  refine rr_iald (3) dX5_begin_17 (by omega) rfl (by decide) (by decide) ?_
  repeat rw [u2_off (by omega)]
  first | rw [e0] | rw [e1] | rw [e2] | rw [e3]
  refine rr_iadd dX5_begin_18 ?_
  rw [Int32.zero_add]
  refine rr_iloadn_1 dX5_begin_19 ?_
  refine rr_iast (f3) dX5_begin_20 (by omega) rfl rfl (show f3 < 12 by omega) ?_
  refine rr_aloadn_0 dX5_begin_21 ?_
  refine rr_getr 37 dX5_begin_22 kf_X5_19 (by omega) rfl rfl rfl ?_
  refine rr_iconst (v := 4) dX5_begin_25 (by decide) ?_
  refine rr_iloadn_1 dX5_begin_26 ?_
  refine rr_iadd dX5_begin_27 ?_
  refine rr_aloadn_0 dX5_begin_28 ?_
  refine rr_getr 35 dX5_begin_29 kf_X5_13 (by omega) rfl rfl rfl ?_
  refine rr_iloadn_1 dX5_begin_32 ?_
  refine rr_iald (3) dX5_begin_33 (by omega) rfl (by decide) (by decide) ?_
  repeat rw [u2_off (by omega)]
  first | rw [e0] | rw [e1] | rw [e2] | rw [e3]
  refine rr_iconst (v := 2) dX5_begin_34 (by decide) ?_
  refine rr_idiv dX5_begin_35 (by decide) ?_
  refine rr_iast (7) dX5_begin_36 (by omega) rfl (by decide) (by decide) ?_
  refine rr_iincC_1 1 4 dX5_begin_37 (by decide) (by decide) rfl ?_
  refine rr_goto 2 dX5_begin_40 (by decide) ?_
  refine rr_iloadn_1 dX5_begin_2 ?_
  refine rr_iconst (v := 4) dX5_begin_3 (by decide) ?_
  refine rr_icmp_ge 43 dX5_begin_4 (by decide) (fun _ => ?_) (fun h4_4 => absurd h4_4 (by decide))
  refine rr_aloadn_0 dX5_begin_43 ?_
  refine rr_getr 37 dX5_begin_44 kf_X5_19 (by omega) rfl rfl rfl ?_
  refine rr_bipush (v := 8) dX5_begin_47 (by decide) ?_
  refine rr_iconst (v := 0) dX5_begin_49 (by decide) ?_
  refine rr_iast (8) dX5_begin_50 (by omega) rfl (by decide) (by decide) ?_
  refine rr_aloadn_0 dX5_begin_51 ?_
  refine rr_getr 37 dX5_begin_52 kf_X5_19 (by omega) rfl rfl rfl ?_
  refine rr_bipush (v := 9) dX5_begin_55 (by decide) ?_
  refine rr_iconst (v := 1) dX5_begin_57 (by decide) ?_
  refine rr_iast (9) dX5_begin_58 (by omega) rfl (by decide) (by decide) ?_
  refine rr_aloadn_0 dX5_begin_59 ?_
  refine rr_getr 37 dX5_begin_60 kf_X5_19 (by omega) rfl rfl rfl ?_
  refine rr_bipush (v := 10) dX5_begin_63 (by decide) ?_
  refine rr_iconst (v := 0) dX5_begin_65 (by decide) ?_
  refine rr_iast (10) dX5_begin_66 (by omega) rfl (by decide) (by decide) ?_
  refine rr_aloadn_0 dX5_begin_67 ?_
  refine rr_getr 37 dX5_begin_68 kf_X5_19 (by omega) rfl rfl rfl ?_
  refine rr_bipush (v := 11) dX5_begin_71 (by decide) ?_
  refine rr_iconst (v := 0) dX5_begin_73 (by decide) ?_
  refine rr_iast (11) dX5_begin_74 (by omega) rfl (by decide) (by decide) ?_
  refine rr_aloadn_0 dX5_begin_75 ?_
  refine rr_iconst (v := 0) dX5_begin_76 (by decide) ?_
  refine rr_puti dX5_begin_77 kf_X5_68 if_5_6 (by omega) rfl rfl ?_
  refine rr_aloadn_0 dX5_begin_80 ?_
  refine rr_iconst (v := 0) dX5_begin_81 (by decide) ?_
  refine rr_puti dX5_begin_82 kf_X5_71 if_5_8 (by omega) rfl rfl ?_
  refine rr_aloadn_0 dX5_begin_85 ?_
  refine rr_iconst (v := 0) dX5_begin_86 (by decide) ?_
  refine rr_puti dX5_begin_87 kf_X5_74 if_5_10 (by omega) rfl rfl ?_
  exact rr_vret dX5_begin_90 ⟨rfl, by rw [← bq_st σ h0 h1 h2 h3 hd]⟩
