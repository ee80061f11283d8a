/-! ===== the reference: dances, putThem ===== -/
theorem g10_ms (σ : rd_S) (D A : sd_D) (n : Int32) : ms σ D A n 37 10 = D.2.2.2.2.2 := by rw [ms_st (by decide)]; rfl
theorem ms_10 {σ : rd_S} {D A E : sd_D} {n v : Int32} (h1 : E.1 = D.1) (h2 : E.2.1 = D.2.1) (h3 : E.2.2.1 = D.2.2.1) (h4 : E.2.2.2.1 = D.2.2.2.1) (h5 : E.2.2.2.2.1 = D.2.2.2.2.1) (h6 : E.2.2.2.2.2 = v) : rd_u2 (ms σ D A n) 37 10 v = ms σ E A n :=
  ms_set (by decide) (by subst h6; rfl) (fun j hj hne => by simp [md_of, hne, h1, h2, h3, h4, h5])
theorem kd_ms {σ : rd_S} {kb : Int32} (h : kd_at σ kb) (D A : sd_D) (n : Int32) : kd_at (ms σ D A n) kb := fun i hi => by rw [ms_ne (by decide) (by decide) (by omega)]; exact h i hi
set_option maxHeartbeats 4000000 in
set_option maxRecDepth 100000 in
theorem c_dn_r (N d : Nat) (σ : rd_S) (hN : 49 ≤ N) (c : Nat) (hc : c < 1000000) (D A : sd_D) (n kb : Int32) (hw : wf c D) (hk : kd_at σ kb) : rd_T N (d + 2) yX5_dances cX5_dances 3 (some .boolean) [.ref 33, .int 3] (ms σ D A n) (rd_is (some (.int 1)) (ms σ (D.1, D.2.1, D.2.2.1, D.2.2.2.1, D.2.2.2.2.1, D.2.2.2.2.2 + 1) A 0)) := by
  refine rd_start RX5 [.ref 33, .int 3, .retAddr 0] rfl (by decide +kernel) rfl (Nat.le_of_ble_eq_true rfl) ?_
  refine rr_aloadn_0 dX5_dances_0 ?_
  refine rr_iconst (v := 0) dX5_dances_1 (by decide) ?_
  refine rr_puti dX5_dances_2 kf_X5_127 if_5_18 (by omega) rfl rfl ?_
  rw [ms_net2]
  refine rr_iloadn_1 dX5_dances_5 ?_
  refine rr_iconst (v := 3) dX5_dances_6 (by decide) ?_
  refine rr_icmp_eq 41 dX5_dances_7 (by decide) (fun _ => ?_) (fun h7 => absurd h7 (by decide))
  refine rr_iconst (v := 1) dX5_dances_41 (by decide) ?_
  refine rr_goto 46 dX5_dances_42 (by decide) ?_
  refine rr_istoren_2 dX5_dances_46 rfl ?_
  refine rr_aloadn_0 dX5_dances_47 ?_
  refine rr_getr 37 dX5_dances_48 kf_X5_19 (by omega) rfl rfl rfl ?_
  refine rr_bipush (v := 10) dX5_dances_51 (by decide) ?_
  refine rr_dup2 dX5_dances_53 rfl rfl ?_
  refine rr_iald (10) dX5_dances_54 (by omega) rfl rfl (by decide) ?_
  rw [g10_ms]
  refine rr_iloadn_2 dX5_dances_55 ?_
  refine rr_if_eq 63 dX5_dances_56 (by decide) (fun h56 => absurd h56 (by decide)) (fun _ => ?_)
  refine rr_iconst (v := 1) dX5_dances_59 (by decide) ?_
  refine rr_goto 64 dX5_dances_60 (by decide) ?_
  refine rr_iadd dX5_dances_64 ?_
  refine rr_iast (10) dX5_dances_65 (by omega) rfl rfl (by decide) ?_
  refine rr_iloadn_2 dX5_dances_66 ?_
  exact rr_zret dX5_dances_67 (by decide) ⟨rfl, ms_10 rfl rfl rfl rfl rfl rfl⟩
set_option maxHeartbeats 4000000 in
set_option maxRecDepth 100000 in
theorem c_dn_t (N d : Nat) (σ : rd_S) (hN : 49 ≤ N) (c : Nat) (hc : c < 1000000) (D A : sd_D) (n kb : Int32) (hw : wf c D) (hk : kd_at σ kb) : rd_T N (d + 2) yX5_dances cX5_dances 3 (some .boolean) [.ref 33, .int 2] (ms σ D A n) (rd_is (some (.int 1)) (ms σ (sd_go D 2 0) A 0)) := by
  refine rd_start RX5 [.ref 33, .int 2, .retAddr 0] rfl (by decide +kernel) rfl (Nat.le_of_ble_eq_true rfl) ?_
  refine rr_aloadn_0 dX5_dances_0 ?_
  refine rr_iconst (v := 0) dX5_dances_1 (by decide) ?_
  refine rr_puti dX5_dances_2 kf_X5_127 if_5_18 (by omega) rfl rfl ?_
  rw [ms_net2]
  refine rr_iloadn_1 dX5_dances_5 ?_
  refine rr_iconst (v := 3) dX5_dances_6 (by decide) ?_
  refine rr_icmp_eq 41 dX5_dances_7 (by decide) (fun h7 => absurd h7 (by decide)) (fun _ => ?_)
  refine rr_iloadn_1 dX5_dances_10 ?_
  refine rr_iconst (v := 2) dX5_dances_11 (by decide) ?_
  refine rr_icmp_ne 25 dX5_dances_12 (by decide) (fun h12 => absurd h12 (by decide)) (fun _ => ?_)
  refine rr_aloadn_0 dX5_dances_15 ?_
  refine rr_callViD (c_X5_turns N _ _ hN c D A 0 hw) km_X5_134 rfl rfl (by omega) rfl (Nat.le_of_ble_eq_true rfl) dX5_dances_16 ?_
  refine rr_if_eq 45 dX5_dances_19 (by decide) (fun h19 => absurd h19 (by decide)) (fun _ => ?_)
  refine rr_goto 41 dX5_dances_22 (by decide) ?_
  refine rr_iconst (v := 1) dX5_dances_41 (by decide) ?_
  refine rr_goto 46 dX5_dances_42 (by decide) ?_
  refine rr_istoren_2 dX5_dances_46 rfl ?_
  refine rr_aloadn_0 dX5_dances_47 ?_
  refine rr_getr 37 dX5_dances_48 kf_X5_19 (by omega) rfl rfl rfl ?_
  refine rr_bipush (v := 10) dX5_dances_51 (by decide) ?_
  refine rr_dup2 dX5_dances_53 rfl rfl ?_
  refine rr_iald (10) dX5_dances_54 (by omega) rfl rfl (by decide) ?_
  rw [g10_ms]
  refine rr_iloadn_2 dX5_dances_55 ?_
  refine rr_if_eq 63 dX5_dances_56 (by decide) (fun h56 => absurd h56 (by decide)) (fun _ => ?_)
  refine rr_iconst (v := 1) dX5_dances_59 (by decide) ?_
  refine rr_goto 64 dX5_dances_60 (by decide) ?_
  refine rr_iadd dX5_dances_64 ?_
  refine rr_iast (10) dX5_dances_65 (by omega) rfl rfl (by decide) ?_
  refine rr_iloadn_2 dX5_dances_66 ?_
  exact rr_zret dX5_dances_67 (by decide) ⟨rfl, ms_10 rfl rfl (by simp [sd_go, sd_turn]) rfl rfl rfl⟩
set_option maxHeartbeats 4000000 in
set_option maxRecDepth 100000 in
theorem c_dn_s0 (N d : Nat) (σ : rd_S) (hN : 49 ≤ N) (c : Nat) (hc : c < 1000000) (D A : sd_D) (n kb : Int32) (hw : wf c D) (hk : kd_at σ kb) (ht : tw_c (sd_twt D 1 kb)) (hti : ¬ 9999 < sd_abs (D.2.2.1 + sd_twt D 1 kb * D.2.2.2.1)) : rd_T N (d + 2) yX5_dances cX5_dances 3 (some .boolean) [.ref 33, .int 0] (ms σ D A n) (rd_is (some (.int 1)) (ms σ (sd_go D 0 (sd_twt D 1 kb)) A (sd_twt D 1 kb))) := by
  refine rd_start RX5 [.ref 33, .int 0, .retAddr 0] rfl (by decide +kernel) rfl (Nat.le_of_ble_eq_true rfl) ?_
  refine rr_aloadn_0 dX5_dances_0 ?_
  refine rr_iconst (v := 0) dX5_dances_1 (by decide) ?_
  refine rr_puti dX5_dances_2 kf_X5_127 if_5_18 (by omega) rfl rfl ?_
  rw [ms_net2]
  refine rr_iloadn_1 dX5_dances_5 ?_
  refine rr_iconst (v := 3) dX5_dances_6 (by decide) ?_
  refine rr_icmp_eq 41 dX5_dances_7 (by decide) (fun h7 => absurd h7 (by decide)) (fun _ => ?_)
  refine rr_iloadn_1 dX5_dances_10 ?_
  refine rr_iconst (v := 2) dX5_dances_11 (by decide) ?_
  refine rr_icmp_ne 25 dX5_dances_12 (by decide) (fun _ => ?_) (fun h12 => absurd h12 (by decide))
  refine rr_aloadn_0 dX5_dances_25 ?_
  refine rr_iloadn_1 dX5_dances_26 ?_
  refine rr_if_ne 34 dX5_dances_27 (by decide) (fun h27 => absurd h27 (by decide)) (fun _ => ?_)
  refine rr_iconst (v := 1) dX5_dances_30 (by decide) ?_
  refine rr_goto 35 dX5_dances_31 (by decide) ?_
  refine rr_callViD (c_winds_s N _ _ hN c hc D A 0 kb hw hk 1 ht hti) km_X5_138 rfl rfl (by omega) rfl (Nat.le_of_ble_eq_true rfl) dX5_dances_35 ?_
  refine rr_if_eq 45 dX5_dances_38 (by decide) (fun h38 => absurd h38 (by decide)) (fun _ => ?_)
  refine rr_iconst (v := 1) dX5_dances_41 (by decide) ?_
  refine rr_goto 46 dX5_dances_42 (by decide) ?_
  refine rr_istoren_2 dX5_dances_46 rfl ?_
  refine rr_aloadn_0 dX5_dances_47 ?_
  refine rr_getr 37 dX5_dances_48 kf_X5_19 (by omega) rfl rfl rfl ?_
  refine rr_bipush (v := 10) dX5_dances_51 (by decide) ?_
  refine rr_dup2 dX5_dances_53 rfl rfl ?_
  refine rr_iald (10) dX5_dances_54 (by omega) rfl rfl (by decide) ?_
  rw [g10_ms]
  refine rr_iloadn_2 dX5_dances_55 ?_
  refine rr_if_eq 63 dX5_dances_56 (by decide) (fun h56 => absurd h56 (by decide)) (fun _ => ?_)
  refine rr_iconst (v := 1) dX5_dances_59 (by decide) ?_
  refine rr_goto 64 dX5_dances_60 (by decide) ?_
  refine rr_iadd dX5_dances_64 ?_
  refine rr_iast (10) dX5_dances_65 (by omega) rfl rfl (by decide) ?_
  refine rr_iloadn_2 dX5_dances_66 ?_
  exact rr_zret dX5_dances_67 (by decide) ⟨rfl, ms_10 (by simp [sd_go, sd_wnd]) (by simp [sd_go, sd_wnd]) (by simp [sd_go, sd_wnd]) (by simp [sd_go, sd_wnd]) (by simp [sd_go, sd_wnd]) (by simp [sd_go, sd_wnd])⟩
set_option maxHeartbeats 4000000 in
set_option maxRecDepth 100000 in
theorem c_dn_n0 (N d : Nat) (σ : rd_S) (hN : 49 ≤ N) (c : Nat) (hc : c < 1000000) (D A : sd_D) (n kb : Int32) (hw : wf c D) (hk : kd_at σ kb) (ht : tw_c (sd_twt D 1 kb)) (hti : 9999 < sd_abs (D.2.2.1 + sd_twt D 1 kb * D.2.2.2.1)) : rd_T N (d + 2) yX5_dances cX5_dances 3 (some .boolean) [.ref 33, .int 0] (ms σ D A n) (rd_is (some (.int 0)) (ms σ D A 0)) := by
  refine rd_start RX5 [.ref 33, .int 0, .retAddr 0] rfl (by decide +kernel) rfl (Nat.le_of_ble_eq_true rfl) ?_
  refine rr_aloadn_0 dX5_dances_0 ?_
  refine rr_iconst (v := 0) dX5_dances_1 (by decide) ?_
  refine rr_puti dX5_dances_2 kf_X5_127 if_5_18 (by omega) rfl rfl ?_
  rw [ms_net2]
  refine rr_iloadn_1 dX5_dances_5 ?_
  refine rr_iconst (v := 3) dX5_dances_6 (by decide) ?_
  refine rr_icmp_eq 41 dX5_dances_7 (by decide) (fun h7 => absurd h7 (by decide)) (fun _ => ?_)
  refine rr_iloadn_1 dX5_dances_10 ?_
  refine rr_iconst (v := 2) dX5_dances_11 (by decide) ?_
  refine rr_icmp_ne 25 dX5_dances_12 (by decide) (fun _ => ?_) (fun h12 => absurd h12 (by decide))
  refine rr_aloadn_0 dX5_dances_25 ?_
  refine rr_iloadn_1 dX5_dances_26 ?_
  refine rr_if_ne 34 dX5_dances_27 (by decide) (fun h27 => absurd h27 (by decide)) (fun _ => ?_)
  refine rr_iconst (v := 1) dX5_dances_30 (by decide) ?_
  refine rr_goto 35 dX5_dances_31 (by decide) ?_
  refine rr_callViD (c_winds_n N _ _ hN c hc D A 0 kb hw hk 1 ht hti) km_X5_138 rfl rfl (by omega) rfl (Nat.le_of_ble_eq_true rfl) dX5_dances_35 ?_
  refine rr_if_eq 45 dX5_dances_38 (by decide) (fun _ => ?_) (fun h38 => absurd h38 (by decide))
  refine rr_iconst (v := 0) dX5_dances_45 (by decide) ?_
  refine rr_istoren_2 dX5_dances_46 rfl ?_
  refine rr_aloadn_0 dX5_dances_47 ?_
  refine rr_getr 37 dX5_dances_48 kf_X5_19 (by omega) rfl rfl rfl ?_
  refine rr_bipush (v := 10) dX5_dances_51 (by decide) ?_
  refine rr_dup2 dX5_dances_53 rfl rfl ?_
  refine rr_iald (10) dX5_dances_54 (by omega) rfl rfl (by decide) ?_
  rw [g10_ms]
  refine rr_iloadn_2 dX5_dances_55 ?_
  refine rr_if_eq 63 dX5_dances_56 (by decide) (fun _ => ?_) (fun h56 => absurd h56 (by decide))
  refine rr_iconst (v := 0) dX5_dances_63 (by decide) ?_
  refine rr_iadd dX5_dances_64 ?_
  refine rr_iast (10) dX5_dances_65 (by omega) rfl rfl (by decide) ?_
  refine rr_iloadn_2 dX5_dances_66 ?_
  exact rr_zret dX5_dances_67 (by decide) ⟨rfl, ms_10 rfl rfl rfl rfl rfl (by simp)⟩
set_option maxHeartbeats 4000000 in
set_option maxRecDepth 100000 in
theorem c_dn_s1 (N d : Nat) (σ : rd_S) (hN : 49 ≤ N) (c : Nat) (hc : c < 1000000) (D A : sd_D) (n kb : Int32) (hw : wf c D) (hk : kd_at σ kb) (ht : tw_c (sd_twt D (-1) kb)) (hti : ¬ 9999 < sd_abs (D.2.2.1 + sd_twt D (-1) kb * D.2.2.2.1)) : rd_T N (d + 2) yX5_dances cX5_dances 3 (some .boolean) [.ref 33, .int 1] (ms σ D A n) (rd_is (some (.int 1)) (ms σ (sd_go D 1 (sd_twt D (-1) kb)) A (sd_twt D (-1) kb))) := by
  refine rd_start RX5 [.ref 33, .int 1, .retAddr 0] rfl (by decide +kernel) rfl (Nat.le_of_ble_eq_true rfl) ?_
  refine rr_aloadn_0 dX5_dances_0 ?_
  refine rr_iconst (v := 0) dX5_dances_1 (by decide) ?_
  refine rr_puti dX5_dances_2 kf_X5_127 if_5_18 (by omega) rfl rfl ?_
  rw [ms_net2]
  refine rr_iloadn_1 dX5_dances_5 ?_
  refine rr_iconst (v := 3) dX5_dances_6 (by decide) ?_
  refine rr_icmp_eq 41 dX5_dances_7 (by decide) (fun h7 => absurd h7 (by decide)) (fun _ => ?_)
  refine rr_iloadn_1 dX5_dances_10 ?_
  refine rr_iconst (v := 2) dX5_dances_11 (by decide) ?_
  refine rr_icmp_ne 25 dX5_dances_12 (by decide) (fun _ => ?_) (fun h12 => absurd h12 (by decide))
  refine rr_aloadn_0 dX5_dances_25 ?_
  refine rr_iloadn_1 dX5_dances_26 ?_
  refine rr_if_ne 34 dX5_dances_27 (by decide) (fun _ => ?_) (fun h27 => absurd h27 (by decide))
  refine rr_iconst (v := (-1)) dX5_dances_34 (by decide) ?_
  refine rr_callViD (c_winds_s N _ _ hN c hc D A 0 kb hw hk (-1) ht hti) km_X5_138 rfl rfl (by omega) rfl (Nat.le_of_ble_eq_true rfl) dX5_dances_35 ?_
  refine rr_if_eq 45 dX5_dances_38 (by decide) (fun h38 => absurd h38 (by decide)) (fun _ => ?_)
  refine rr_iconst (v := 1) dX5_dances_41 (by decide) ?_
  refine rr_goto 46 dX5_dances_42 (by decide) ?_
  refine rr_istoren_2 dX5_dances_46 rfl ?_
  refine rr_aloadn_0 dX5_dances_47 ?_
  refine rr_getr 37 dX5_dances_48 kf_X5_19 (by omega) rfl rfl rfl ?_
  refine rr_bipush (v := 10) dX5_dances_51 (by decide) ?_
  refine rr_dup2 dX5_dances_53 rfl rfl ?_
  refine rr_iald (10) dX5_dances_54 (by omega) rfl rfl (by decide) ?_
  rw [g10_ms]
  refine rr_iloadn_2 dX5_dances_55 ?_
  refine rr_if_eq 63 dX5_dances_56 (by decide) (fun h56 => absurd h56 (by decide)) (fun _ => ?_)
  refine rr_iconst (v := 1) dX5_dances_59 (by decide) ?_
  refine rr_goto 64 dX5_dances_60 (by decide) ?_
  refine rr_iadd dX5_dances_64 ?_
  refine rr_iast (10) dX5_dances_65 (by omega) rfl rfl (by decide) ?_
  refine rr_iloadn_2 dX5_dances_66 ?_
  exact rr_zret dX5_dances_67 (by decide) ⟨rfl, ms_10 (by simp [sd_go, sd_wnd]) (by simp [sd_go, sd_wnd]) (by simp [sd_go, sd_wnd]) (by simp [sd_go, sd_wnd]) (by simp [sd_go, sd_wnd]) (by simp [sd_go, sd_wnd])⟩
set_option maxHeartbeats 4000000 in
set_option maxRecDepth 100000 in
theorem c_dn_n1 (N d : Nat) (σ : rd_S) (hN : 49 ≤ N) (c : Nat) (hc : c < 1000000) (D A : sd_D) (n kb : Int32) (hw : wf c D) (hk : kd_at σ kb) (ht : tw_c (sd_twt D (-1) kb)) (hti : 9999 < sd_abs (D.2.2.1 + sd_twt D (-1) kb * D.2.2.2.1)) : rd_T N (d + 2) yX5_dances cX5_dances 3 (some .boolean) [.ref 33, .int 1] (ms σ D A n) (rd_is (some (.int 0)) (ms σ D A 0)) := by
  refine rd_start RX5 [.ref 33, .int 1, .retAddr 0] rfl (by decide +kernel) rfl (Nat.le_of_ble_eq_true rfl) ?_
  refine rr_aloadn_0 dX5_dances_0 ?_
  refine rr_iconst (v := 0) dX5_dances_1 (by decide) ?_
  refine rr_puti dX5_dances_2 kf_X5_127 if_5_18 (by omega) rfl rfl ?_
  rw [ms_net2]
  refine rr_iloadn_1 dX5_dances_5 ?_
  refine rr_iconst (v := 3) dX5_dances_6 (by decide) ?_
  refine rr_icmp_eq 41 dX5_dances_7 (by decide) (fun h7 => absurd h7 (by decide)) (fun _ => ?_)
  refine rr_iloadn_1 dX5_dances_10 ?_
  refine rr_iconst (v := 2) dX5_dances_11 (by decide) ?_
  refine rr_icmp_ne 25 dX5_dances_12 (by decide) (fun _ => ?_) (fun h12 => absurd h12 (by decide))
  refine rr_aloadn_0 dX5_dances_25 ?_
  refine rr_iloadn_1 dX5_dances_26 ?_
  refine rr_if_ne 34 dX5_dances_27 (by decide) (fun _ => ?_) (fun h27 => absurd h27 (by decide))
  refine rr_iconst (v := (-1)) dX5_dances_34 (by decide) ?_
  refine rr_callViD (c_winds_n N _ _ hN c hc D A 0 kb hw hk (-1) ht hti) km_X5_138 rfl rfl (by omega) rfl (Nat.le_of_ble_eq_true rfl) dX5_dances_35 ?_
  refine rr_if_eq 45 dX5_dances_38 (by decide) (fun _ => ?_) (fun h38 => absurd h38 (by decide))
  refine rr_iconst (v := 0) dX5_dances_45 (by decide) ?_
  refine rr_istoren_2 dX5_dances_46 rfl ?_
  refine rr_aloadn_0 dX5_dances_47 ?_
  refine rr_getr 37 dX5_dances_48 kf_X5_19 (by omega) rfl rfl rfl ?_
  refine rr_bipush (v := 10) dX5_dances_51 (by decide) ?_
  refine rr_dup2 dX5_dances_53 rfl rfl ?_
  refine rr_iald (10) dX5_dances_54 (by omega) rfl rfl (by decide) ?_
  rw [g10_ms]
  refine rr_iloadn_2 dX5_dances_55 ?_
  refine rr_if_eq 63 dX5_dances_56 (by decide) (fun _ => ?_) (fun h56 => absurd h56 (by decide))
  refine rr_iconst (v := 0) dX5_dances_63 (by decide) ?_
  refine rr_iadd dX5_dances_64 ?_
  refine rr_iast (10) dX5_dances_65 (by omega) rfl rfl (by decide) ?_
  refine rr_iloadn_2 dX5_dances_66 ?_
  exact rr_zret dX5_dances_67 (by decide) ⟨rfl, ms_10 rfl rfl rfl rfl rfl (by simp)⟩
def fg4 (f : Int32) : Prop := f = 0 ∨ f = 1 ∨ f = 2 ∨ f = 3
theorem c_dances_s (N d : Nat) (σ : rd_S) (hN : 49 ≤ N) (c : Nat) (hc : c < 1000000) (D A : sd_D) (n kb : Int32) (hw : wf c D) (hk : kd_at σ kb) (f : Int32) (hf : fg4 f) {E : sd_D} (h : sd_st D f kb = some E) : rd_T N (d + 2) yX5_dances cX5_dances 3 (some .boolean) [.ref 33, .int f] (ms σ D A n) (rd_is (some (.int 1)) (ms σ E A (sd_tw D f kb))) := by
  have ht := sd_tw_c hw f kb
  rcases hf with rfl | rfl | rfl | rfl
  · have e := sd_tw_t (D := D) (kb := kb) (f := 0) (Or.inl rfl)
    rw [show sd_told 0 = 1 from rfl] at e
    unfold sd_st at h
    rw [e] at h ht ⊢
    split at h
    · cases h
    · rename_i hti; cases h
      exact c_dn_s0 N d σ hN c hc D A n kb hw hk ht hti
  · have e := sd_tw_t (D := D) (kb := kb) (f := 1) (Or.inr rfl)
    rw [show sd_told 1 = -1 from rfl] at e
    unfold sd_st at h
    rw [e] at h ht ⊢
    split at h
    · cases h
    · rename_i hti; cases h
      exact c_dn_s1 N d σ hN c hc D A n kb hw hk ht hti
  · rw [wf_turn hw kb] at h
    cases h
    rw [sd_tw_0 (by decide) (by decide)]
    exact c_dn_t N d σ hN c hc D A n kb hw hk
  · rw [wf_rest hw kb] at h
    cases h
    rw [sd_tw_0 (by decide) (by decide)]
    exact c_dn_r N d σ hN c hc D A n kb hw hk
theorem c_dances_n (N d : Nat) (σ : rd_S) (hN : 49 ≤ N) (c : Nat) (hc : c < 1000000) (D A : sd_D) (n kb : Int32) (hw : wf c D) (hk : kd_at σ kb) (f : Int32) (hf : fg4 f) (h : sd_st D f kb = none) : rd_T N (d + 2) yX5_dances cX5_dances 3 (some .boolean) [.ref 33, .int f] (ms σ D A n) (rd_is (some (.int 0)) (ms σ D A 0)) := by
  have ht := sd_tw_c hw f kb
  rcases hf with rfl | rfl | rfl | rfl
  · have e := sd_tw_t (D := D) (kb := kb) (f := 0) (Or.inl rfl)
    rw [show sd_told 0 = 1 from rfl] at e
    unfold sd_st at h
    rw [e] at h ht
    split at h
    · rename_i hti
      exact c_dn_n0 N d σ hN c hc D A n kb hw hk ht hti
    · cases h
  · have e := sd_tw_t (D := D) (kb := kb) (f := 1) (Or.inr rfl)
    rw [show sd_told 1 = -1 from rfl] at e
    unfold sd_st at h
    rw [e] at h ht
    split at h
    · rename_i hti
      exact c_dn_n1 N d σ hN c hc D A n kb hw hk ht hti
    · cases h
  · rw [wf_turn hw kb] at h; cases h
  · rw [wf_rest hw kb] at h; cases h
theorem c_plc (N d : Nat) (σ : rd_S) (hN : 49 ≤ N) (D A : sd_D) (n : Int32) {x i : Nat} (hx : x < 256) (hp : wf_p x = true) (hD : D.1 = nI x) (hi : i < 4) : rd_T N d yX5_placeOf cX5_placeOf 3 (some .int) [.ref 33, .int (nI i)] (ms σ D A n) (rd_is (some (.int (nI (pl x i)))) (ms σ D A n)) := by
  have e : ∀ k, k < 4 → ms σ D A n 37 k = nI (wh x k) := fun k hk => by rw [ms_st (by omega), md_4 hk, hD, wh_ok x hx k hk]
  have hq := (pl_okk x hx hp i hi).2
  have hlt := pl_lt x i
  have hh : ms σ D A n 37 0 = nI i ∨ ms σ D A n 37 1 = nI i ∨ ms σ D A n 37 2 = nI i ∨ ms σ D A n 37 3 = nI i := by
    rcases (show pl x i = 0 ∨ pl x i = 1 ∨ pl x i = 2 ∨ pl x i = 3 by omega) with h | h | h | h <;> rw [h] at hq
    · exact Or.inl (by rw [e 0 (by decide), hq])
    · exact Or.inr (Or.inl (by rw [e 1 (by decide), hq]))
    · exact Or.inr (Or.inr (Or.inl (by rw [e 2 (by decide), hq])))
    · exact Or.inr (Or.inr (Or.inr (by rw [e 3 (by decide), hq])))
  have := c_X5_placeOf N d (ms σ D A n) hN (nI i) hh
  rw [show (if ms σ D A n 37 0 = nI i then (0 : Int32) else if ms σ D A n 37 1 = nI i then 1 else if ms σ D A n 37 2 = nI i then 2 else 3) = nI (pl x i) by
    have w : ∀ k, wh x k < 1000 := fun k => Nat.lt_of_lt_of_le (wh_lt x k) (by decide)
    simp only [e 0 (by decide), e 1 (by decide), e 2 (by decide), nI_eq8 (w _) (show i < 1000 by omega)]
    unfold pl
    split
    · rfl
    · split
      · rfl
      · split <;> rfl] at this
  exact this
theorem ms_rop {σ : rd_S} {D A : sd_D} {n : Int32} {r i j : Nat} (hr : r < 16) (hD : D.2.1 = nI r) (hi : i < 4) (hj : j < 4) (hij : i ≠ j) : rd_u2 (rd_u2 (ms σ D A n) 37 (4 + i) (ms σ D A n 37 (4 + j))) 37 (4 + j) (ms σ D A n 37 (4 + i)) = ms σ (D.1, nI (rx r i j), D.2.2) A n := by
  have hw : ∀ k, k < 4 → rp (rx r i j) k = if k = i then rp r j else if k = j then rp r i else rp r k := fun k hk => (rx_rp r hr i hi j hj k hk).resolve_left hij
  have hs := rx_ok r hr i hi j hj
  rw [ms_st (show 4 + j < 12 by omega), ms_st (show 4 + i < 12 by omega), md_8 hi, md_8 hj]
  refine ms_ext (fun a b h1 h2 h3 => ?_) (fun k hk => ?_) (fun k hk => ?_) ?_
  · rw [u2_off (by omega), u2_off (by omega)]; exact ms_off h1 h2 h3
  · by_cases hk4 : 4 ≤ k ∧ k < 8
    · obtain ⟨q, rfl⟩ : ∃ q, k = 4 + q := ⟨k - 4, by omega⟩
      have hq : q < 4 := by omega
      rw [md_8 hq]
      show _ = sd_rope (nI (rx r i j)) (nI q)
      rw [rp_ok _ hs.2 q hq, hw q hq, hD, rp_ok r hr i hi, rp_ok r hr j hj]
      by_cases h1 : q = j
      · subst h1; rw [u2_at, if_neg (Ne.symm hij), if_pos rfl]
      · rw [u2_off (by omega)]
        by_cases h2 : q = i
        · subst h2; rw [u2_at, if_pos rfl]
        · rw [u2_off (by omega), if_neg h2, if_neg h1, ms_st hk, md_8 hq, hD, rp_ok r hr q hq]
    · rw [u2_off (by omega), u2_off (by omega), ms_st hk]
      unfold md_of
      by_cases h4 : k < 4
      · rw [if_pos h4, if_pos h4]
      · have h8 : ¬ k < 8 := by omega
        rw [if_neg h4, if_neg h4, if_neg h8, if_neg h8]
  · rw [u2_off (by omega), u2_off (by omega)]; exact ms_as hk
  · rw [u2_off (by omega), u2_off (by omega)]; exact ms_net _ _ _ _
theorem wf_xch {c : Nat} {D : sd_D} (h : wf c D) {i j : Nat} (hi : i < 4) (hj : j < 4) : wf c (sd_xch D (nI i) (nI j)) := by
  obtain ⟨x, r, b, h1, h2, h3, h4, h5, h6, h7, h8, h9⟩ := h
  have hp := (pl_okk x h1 h2 i hi).1
  have hq := (pl_okk x h1 h2 j hj).1
  obtain ⟨s1, s2, s3⟩ := sw_ok x h1 _ (pl_lt x i) _ (pl_lt x j)
  obtain ⟨r1, r2⟩ := rx_ok r h3 i hi j hj
  refine ⟨sw x (pl x i) (pl x j), rx r i j, b, s2, s3 h2, r2, h4, ?_, ?_, h7, h8, h9⟩
  · show sd_swap D.1 (sd_place D.1 (nI i)) (sd_place D.1 (nI j)) = _
    rw [h5, hp, hq, s1]
  · show D.2.1 ^^^ _ = _
    rw [h6]; exact r1
set_option maxHeartbeats 4000000 in
set_option maxRecDepth 100000 in
theorem c_X5_putThem (N d : Nat) (σ : rd_S) (hN : 49 ≤ N) (c : Nat) (D A : sd_D) (n : Int32) (hw : wf c D) (i j : Nat) (hi : i < 4) (hj : j < 4) (hij : i ≠ j) : rd_T N (d + 1) yX5_putThem cX5_putThem 4 none [.ref 33, .int (nI i), .int (nI j)] (ms σ D A n) (rd_is none (ms σ (sd_xch D (nI i) (nI j)) A n)) := by
  refine rd_start RX5 [.ref 33, .int (nI i), .int (nI j), .retAddr 0] rfl (by decide +kernel) rfl (Nat.le_of_ble_eq_true rfl) ?_
  obtain ⟨x, r, b, h1, h2, h3, h4, h5, h6, h7, h8, h9⟩ := hw
  have hp := (pl_okk x h1 h2 i hi).1
  have hq := (pl_okk x h1 h2 j hj).1
  obtain ⟨r1, r2⟩ := rx_ok r h3 i hi j hj
  refine rr_aloadn_0 dX5_putThem_0 ?_
  refine rr_getr 37 dX5_putThem_1 kf_X5_19 (by omega) rfl rfl rfl ?_
  refine rr_iconst (v := 4) dX5_putThem_4 (by decide) ?_
  refine rr_iloadn_1 dX5_putThem_5 ?_
  refine rr_iadd dX5_putThem_6 ?_
  rw [show (4 : Int32) + nI i = nI (4 + i) from nI_add 4 i]
  refine rr_iald ((4 + i)) dX5_putThem_7 (by omega) rfl rfl (show 4 + i < 12 by omega) ?_
  refine rr_istoren_3 dX5_putThem_8 rfl ?_
  refine rr_aloadn_0 dX5_putThem_9 ?_
  refine rr_getr 37 dX5_putThem_10 kf_X5_19 (by omega) rfl rfl rfl ?_
  refine rr_iconst (v := 4) dX5_putThem_13 (by decide) ?_
  refine rr_iloadn_1 dX5_putThem_14 ?_
  refine rr_iadd dX5_putThem_15 ?_
  rw [show (4 : Int32) + nI i = nI (4 + i) from nI_add 4 i]
  refine rr_aloadn_0 dX5_putThem_16 ?_
  refine rr_getr 37 dX5_putThem_17 kf_X5_19 (by omega) rfl rfl rfl ?_
  refine rr_iconst (v := 4) dX5_putThem_20 (by decide) ?_
  refine rr_iloadn_2 dX5_putThem_21 ?_
  refine rr_iadd dX5_putThem_22 ?_
  rw [show (4 : Int32) + nI j = nI (4 + j) from nI_add 4 j]
  refine rr_iald ((4 + j)) dX5_putThem_23 (by omega) rfl rfl (show 4 + j < 12 by omega) ?_
  refine rr_iast ((4 + i)) dX5_putThem_24 (by omega) rfl rfl (show 4 + i < 12 by omega) ?_
  refine rr_aloadn_0 dX5_putThem_25 ?_
  refine rr_getr 37 dX5_putThem_26 kf_X5_19 (by omega) rfl rfl rfl ?_
  refine rr_iconst (v := 4) dX5_putThem_29 (by decide) ?_
  refine rr_iloadn_2 dX5_putThem_30 ?_
  refine rr_iadd dX5_putThem_31 ?_
  rw [show (4 : Int32) + nI j = nI (4 + j) from nI_add 4 j]
  refine rr_iloadn_3 dX5_putThem_32 ?_
  refine rr_iast ((4 + j)) dX5_putThem_33 (by omega) rfl rfl (show 4 + j < 12 by omega) ?_
  rw [ms_rop h3 h6 hi hj hij]
  refine rr_aloadn_0 dX5_putThem_34 ?_
  refine rr_aloadn_0 dX5_putThem_35 ?_
  refine rr_iloadn_1 dX5_putThem_36 ?_
  refine rr_callViD (c_plc N _ _ hN (D.1, nI (rx r i j), D.2.2) A n (x := x) h1 h2 h5 hi) km_X5_111 rfl rfl (by omega) rfl (Nat.le_of_ble_eq_true rfl) dX5_putThem_37 ?_
  refine rr_aloadn_0 dX5_putThem_40 ?_
  refine rr_iloadn_2 dX5_putThem_41 ?_
  refine rr_callViD (c_plc N _ _ hN (D.1, nI (rx r i j), D.2.2) A n (x := x) h1 h2 h5 hj) km_X5_111 rfl rfl (by omega) rfl (Nat.le_of_ble_eq_true rfl) dX5_putThem_42 ?_
  refine rr_callVvD (c_X5_changePlaces N _ _ hN (pl x i) (pl x j) (Nat.lt_of_lt_of_le (pl_lt x i) (by decide)) (Nat.lt_of_lt_of_le (pl_lt x j) (by decide))) km_X5_130 rfl rfl (by omega) rfl (Nat.le_of_ble_eq_true rfl) dX5_putThem_45 ?_
  exact rr_vret dX5_putThem_48 ⟨rfl, by rw [ms_chg (D := (D.1, nI (rx r i j), D.2.2)) (x := x) h1 h5 (pl_lt x i) (pl_lt x j)]; simp only [sd_xch]; rw [← hp, ← hq, ← r1, h5, h6]⟩
