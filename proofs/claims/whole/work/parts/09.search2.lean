/-! ===== Search: rows of figures tried out ===== -/
def sr_at (z gu gl i j : Int32) (D : sd_D) : Bool := if z = 0 then decide (D.2.2.1 = gu ∧ D.2.2.2.1 = gl) else decide (¬ (sd_place D.1 i + sd_place D.1 j) - (sd_place D.1 i + sd_place D.1 j) / 2 * 2 = 0)
def sr_G (σ : rd_S) : sd_D → Bool := sr_at (σ 19 2) (σ 19 3) (σ 19 4) (σ 19 5) (σ 19 6)
/-- nothing but levels above k, and what was found -/
def sr_eq (k : Nat) (s σ : rd_S) : Prop := ∀ a b, ¬ (21 + k < a ∧ a ≤ 28) → s a b = σ a b
def sr_eqf (k : Nat) (s σ : rd_S) : Prop := ∀ a b, ¬ (21 + k < a ∧ a ≤ 28) → ¬ (a = 19 ∧ (b = 7 ∨ b = 8)) → s a b = σ a b
theorem sr_kd {k : Nat} (h : k < 8) : rd_kd (21 + k) = 3 := by revert k; decide
theorem sr_kd1 {k : Nat} (h : k < 7) : rd_kd (21 + (k + 1)) = 3 := sr_kd (by omega)
theorem nI_lt_8 {k : Nat} (h : k < 8) : nI k < 8 := (nI_lt8 (b := 8) (by omega) (by omega)).mpr h
theorem sr_eq.refl (k : Nat) (σ : rd_S) : sr_eq k σ σ := fun _ _ _ => rfl
theorem sr_eq.trans {k : Nat} {a b c : rd_S} (h1 : sr_eq k a b) (h2 : sr_eq k b c) : sr_eq k a c := fun x y h => (h1 x y h).trans (h2 x y h)
theorem sr_eq.up {k j : Nat} {a b : rd_S} (h : sr_eq j a b) (hk : k ≤ j) : sr_eq k a b := fun x y h1 => h x y (by omega)
theorem sr_eq.wr {k : Nat} (σ : rd_S) (D : sd_D) (hk : k < 7) : sr_eq k (sd_wr σ (21 + (k + 1)) D) σ := fun a b h => sd_wr_ne D (by omega)
theorem sr_eq.rd {k o : Nat} {a b : rd_S} (h : sr_eq k a b) (ho : ¬ (21 + k < o ∧ o ≤ 28)) : sd_rd a o = sd_rd b o := by simp [sd_rd, h o _ ho]
theorem sr_eq.G {k : Nat} {a b : rd_S} (h : sr_eq k a b) : sr_G a = sr_G b := by simp [sr_G, h 19 _ (by omega)]
theorem sr_eq.kb {k : Nat} {a b : rd_S} (h : sr_eq k a b) (j : Nat) : a 19 j = b 19 j := h 19 j (by omega)
theorem sr_eqf.refl (k : Nat) (σ : rd_S) : sr_eqf k σ σ := fun _ _ _ _ => rfl
theorem sr_eqf.trans {k : Nat} {a b c : rd_S} (h1 : sr_eqf k a b) (h2 : sr_eqf k b c) : sr_eqf k a c := fun x y h h' => (h1 x y h h').trans (h2 x y h h')
theorem sr_eqf.up {k j : Nat} {a b : rd_S} (h : sr_eqf j a b) (hk : k ≤ j) : sr_eqf k a b := fun x y h1 h2 => h x y (by omega) h2
theorem sr_eqf.of {k : Nat} {a b : rd_S} (h : sr_eq k a b) : sr_eqf k a b := fun x y h1 _ => h x y h1
theorem sr_eqf.rd {k o : Nat} {a b : rd_S} (h : sr_eqf k a b) (ho : ¬ (21 + k < o ∧ o ≤ 28)) (h19 : o ≠ 19) : sd_rd a o = sd_rd b o := by simp [sd_rd, h o _ ho (fun q => h19 q.1)]
theorem sr_eqf.G {k : Nat} {a b : rd_S} (h : sr_eqf k a b) : sr_G a = sr_G b := by
  simp [sr_G, h 19 2 (by omega) (by omega), h 19 3 (by omega) (by omega), h 19 4 (by omega) (by omega), h 19 5 (by omega) (by omega), h 19 6 (by omega) (by omega)]
theorem sr_eqf.kb {k : Nat} {a b : rd_S} (h : sr_eqf k a b) : a 19 1 = b 19 1 := h 19 1 (by omega) (by omega)
set_option maxHeartbeats 4000000 in
set_option maxRecDepth 100000 in
theorem c_X2_aimAtWound (N d : Nat) (σ : rd_S) (hN : 33 ≤ N) (u l : Int32) : rd_T N (d + 0) yX2_aimAtWound cX2_aimAtWound 3 none [.ref 19, .int u, .int l] σ (rd_is none (rd_u2 (rd_u2 (rd_u2 σ 19 2 0) 19 3 u) 19 4 l)) := by
  refine rd_start RX2 [.ref 19, .int u, .int l] rfl (by decide +kernel) rfl (Nat.le_of_ble_eq_true rfl) ?_
  refine rr_aloadn_0 dX2_aimAtWound_0 ?_
  refine rr_iconst (v := 0) dX2_aimAtWound_1 (by decide) ?_
  refine rr_putz dX2_aimAtWound_2 kf_X2_18 (fun C T Nf h => by cases h; exact ⟨rfl, .boolean, rfl, by decide, by decide⟩) (by omega) rfl rfl ?_
  refine rr_aloadn_0 dX2_aimAtWound_5 ?_
  refine rr_iloadn_1 dX2_aimAtWound_6 ?_
  refine rr_puti dX2_aimAtWound_7 kf_X2_22 if_2_3 (by omega) rfl rfl ?_
  refine rr_aloadn_0 dX2_aimAtWound_10 ?_
  refine rr_iloadn_2 dX2_aimAtWound_11 ?_
  refine rr_puti dX2_aimAtWound_12 kf_X2_26 if_2_4 (by omega) rfl rfl ?_
  exact rr_vret dX2_aimAtWound_15 ⟨rfl, rfl⟩
set_option maxHeartbeats 4000000 in
set_option maxRecDepth 100000 in
theorem c_X2_aimAtMeeting (N d : Nat) (σ : rd_S) (hN : 33 ≤ N) (i j : Int32) : rd_T N (d + 0) yX2_aimAtMeeting cX2_aimAtMeeting 3 none [.ref 19, .int i, .int j] σ (rd_is none (rd_u2 (rd_u2 (rd_u2 σ 19 2 1) 19 5 i) 19 6 j)) := by
  refine rd_start RX2 [.ref 19, .int i, .int j] rfl (by decide +kernel) rfl (Nat.le_of_ble_eq_true rfl) ?_
  refine rr_aloadn_0 dX2_aimAtMeeting_0 ?_
  refine rr_iconst (v := 1) dX2_aimAtMeeting_1 (by decide) ?_
  refine rr_putz dX2_aimAtMeeting_2 kf_X2_18 (fun C T Nf h => by cases h; exact ⟨rfl, .boolean, rfl, by decide, by decide⟩) (by omega) rfl rfl ?_
  refine rr_aloadn_0 dX2_aimAtMeeting_5 ?_
  refine rr_iloadn_1 dX2_aimAtMeeting_6 ?_
  refine rr_puti dX2_aimAtMeeting_7 kf_X2_29 if_2_5 (by omega) rfl rfl ?_
  refine rr_aloadn_0 dX2_aimAtMeeting_10 ?_
  refine rr_iloadn_2 dX2_aimAtMeeting_11 ?_
  refine rr_puti dX2_aimAtMeeting_12 kf_X2_32 if_2_6 (by omega) rfl rfl ?_
  exact rr_vret dX2_aimAtMeeting_15 ⟨rfl, rfl⟩
set_option maxHeartbeats 4000000 in
set_option maxRecDepth 100000 in
theorem c_X2_startFrom (N d : Nat) (σ : rd_S) (hN : 33 ≤ N) (q : Nat) (kb : Int32) (hq : q < N) (hkq : rd_kd q = 3) : rd_T N (d + 1) yX2_startFrom cX2_startFrom 3 none [.ref 19, .ref q, .int kb] σ (rd_is none (rd_u2 (rd_u2 (rd_u2 (sd_wr σ 21 (sd_rd σ q)) 19 1 kb) 19 7 8) 19 8 0)) := by
  refine rd_start RX2 [.ref 19, .ref q, .int kb] rfl (by decide +kernel) rfl (Nat.le_of_ble_eq_true rfl) ?_
  refine rr_aloadn_0 dX2_startFrom_0 ?_
  refine rr_getr 20 dX2_startFrom_1 kf_X2_11 (by omega) rfl rfl rfl ?_
  refine rr_iconst (v := 0) dX2_startFrom_4 (by decide) ?_
  refine rr_aald (0) 21 dX2_startFrom_5 (by omega) rfl rfl (by decide) rfl ?_
  refine rr_aloadn_1 dX2_startFrom_6 ?_
  refine rr_callVvD (c_X3_take N _ _ _ _ (by omega) rfl hq hkq) km_X2_35 rfl rfl (by omega) rfl (Nat.le_of_ble_eq_true rfl) dX2_startFrom_7 ?_
  refine rr_aloadn_0 dX2_startFrom_10 ?_
  refine rr_iloadn_2 dX2_startFrom_11 ?_
  refine rr_puti dX2_startFrom_12 kf_X2_39 if_2_1 (by omega) rfl rfl ?_
  refine rr_aloadn_0 dX2_startFrom_15 ?_
  refine rr_bipush (v := 8) dX2_startFrom_16 (by decide) ?_
  refine rr_puti dX2_startFrom_18 kf_X2_42 if_2_7 (by omega) rfl rfl ?_
  refine rr_aloadn_0 dX2_startFrom_21 ?_
  refine rr_iconst (v := 0) dX2_startFrom_22 (by decide) ?_
  refine rr_puti dX2_startFrom_23 kf_X2_45 if_2_8 (by omega) rfl rfl ?_
  exact rr_vret dX2_startFrom_26 ⟨rfl, rfl⟩
set_option maxHeartbeats 4000000 in
set_option maxRecDepth 100000 in
theorem c_X2_isFound (N d : Nat) (σ : rd_S) (hN : 33 ≤ N) : rd_T N (d + 0) yX2_isFound cX2_isFound 1 (some .boolean) [.ref 19] σ (rd_is (some (.int (if σ 19 7 ≤ 7 then 1 else 0))) σ) := by
  refine rd_start RX2 [.ref 19] rfl (by decide +kernel) rfl (Nat.le_of_ble_eq_true rfl) ?_
  refine rr_aloadn_0 dX2_isFound_0 ?_
  refine rr_geti dX2_isFound_1 kf_X2_42 (by omega) rfl rfl ?_
  refine rr_bipush (v := 7) dX2_isFound_4 (by decide) ?_
  refine rr_icmp_gt 13 dX2_isFound_6 (by decide) (fun h6 => ?_) (fun h6 => ?_)
  · refine rr_iconst (v := 0) dX2_isFound_13 (by decide) ?_
    exact rr_zret dX2_isFound_14 (by decide) ⟨by simp [*], rfl⟩
  · refine rr_iconst (v := 1) dX2_isFound_9 (by decide) ?_
    refine rr_goto 14 dX2_isFound_10 (by decide) ?_
    exact rr_zret dX2_isFound_14 (by decide) ⟨by simp [*], rfl⟩
theorem nI_s (k : Nat) : nI k + 1 = nI (k + 1) := nI_1 k
set_option maxHeartbeats 4000000 in
set_option maxRecDepth 100000 in
theorem c_X2_isAtGoal (N d : Nat) (σ : rd_S) (hN : 33 ≤ N) (k : Nat) (hk : k < 8) : rd_T N (d + 2) yX2_isAtGoal cX2_isAtGoal 3 (some .boolean) [.ref 19, .int (nI k)] σ (rd_is (some (.int (if sr_G σ (sd_rd σ (21 + k)) = true then 1 else 0))) σ) := by
  refine rd_start RX2 [.ref 19, .int (nI k), .retAddr 0] rfl (by decide +kernel) rfl (Nat.le_of_ble_eq_true rfl) ?_
  refine rr_iloadn_1 dX2_isAtGoal_0 ?_
  refine rr_if_lt 13 dX2_isAtGoal_1 (by decide) (fun h1 => absurd h1 (nI_pos (by omega))) (fun h1 => ?_)
  refine rr_iloadn_1 dX2_isAtGoal_4 ?_
  refine rr_aloadn_0 dX2_isAtGoal_5 ?_
  refine rr_getr 20 dX2_isAtGoal_6 kf_X2_11 (by omega) rfl rfl rfl ?_
  refine rr_alen (v := 8) dX2_isAtGoal_9 (by omega) (by decide) rfl ?_
  refine rr_icmp_lt 15 dX2_isAtGoal_10 (by decide) (fun h10 => ?_) (fun h10 => absurd (nI_lt_8 hk) h10)
  refine rr_aloadn_0 dX2_isAtGoal_15 ?_
  refine rr_getr 20 dX2_isAtGoal_16 kf_X2_11 (by omega) rfl rfl rfl ?_
  refine rr_iloadn_1 dX2_isAtGoal_19 ?_
  refine rr_aald (k) (21 + k) dX2_isAtGoal_20 (by omega) rfl rfl hk rfl ?_
  refine rr_astoren_2 dX2_isAtGoal_21 rfl ?_
  refine rr_aloadn_0 dX2_isAtGoal_22 ?_
  refine rr_geti dX2_isAtGoal_23 kf_X2_18 (by omega) rfl rfl ?_
  refine rr_if_eq 57 dX2_isAtGoal_26 (by decide) (fun h26 => ?_) (fun h26 => ?_)
  · refine rr_aloadn_2 dX2_isAtGoal_57 ?_
    refine rr_aloadn_0 dX2_isAtGoal_58 ?_
    refine rr_geti dX2_isAtGoal_59 kf_X2_22 (by omega) rfl rfl ?_
    refine rr_aloadn_0 dX2_isAtGoal_62 ?_
    refine rr_geti dX2_isAtGoal_63 kf_X2_26 (by omega) rfl rfl ?_
    refine rr_callViD (c_X3_isWoundAs N _ _ _ _ _ (by omega) (sr_kd hk)) km_X2_52 rfl rfl (by omega) (sr_kd hk) (Nat.le_of_ble_eq_true rfl) dX2_isAtGoal_66 ?_
    exact rr_zret dX2_isAtGoal_69 (by split <;> decide) ⟨by by_cases hq : σ (21 + k) 2 = σ 19 3 ∧ σ (21 + k) 3 = σ 19 4 <;> simp [sr_G, sr_at, sd_rd, h26, hq], rfl⟩
  · refine rr_aloadn_2 dX2_isAtGoal_29 ?_
    refine rr_aloadn_0 dX2_isAtGoal_30 ?_
    refine rr_geti dX2_isAtGoal_31 kf_X2_29 (by omega) rfl rfl ?_
    refine rr_callViD (c_X3_placeOf N _ _ _ _ (by omega) (sr_kd hk)) km_X2_48 rfl rfl (by omega) (sr_kd hk) (Nat.le_of_ble_eq_true rfl) dX2_isAtGoal_34 ?_
    refine rr_aloadn_2 dX2_isAtGoal_37 ?_
    refine rr_aloadn_0 dX2_isAtGoal_38 ?_
    refine rr_geti dX2_isAtGoal_39 kf_X2_32 (by omega) rfl rfl ?_
    refine rr_callViD (c_X3_placeOf N _ _ _ _ (by omega) (sr_kd hk)) km_X2_48 rfl rfl (by omega) (sr_kd hk) (Nat.le_of_ble_eq_true rfl) dX2_isAtGoal_42 ?_
    refine rr_iadd dX2_isAtGoal_45 ?_
    refine rr_iconst (v := 2) dX2_isAtGoal_46 (by decide) ?_
    refine rr_irem dX2_isAtGoal_47 (by decide) ?_
    refine rr_if_eq 55 dX2_isAtGoal_48 (by decide) (fun h48 => ?_) (fun h48 => ?_)
    · refine rr_iconst (v := 0) dX2_isAtGoal_55 (by decide) ?_
      exact rr_zret dX2_isAtGoal_56 (by decide) ⟨by simp_all [sr_G, sr_at, sd_rd], rfl⟩
    · refine rr_iconst (v := 1) dX2_isAtGoal_51 (by decide) ?_
      refine rr_goto 56 dX2_isAtGoal_52 (by decide) ?_
      exact rr_zret dX2_isAtGoal_56 (by decide) ⟨by simp_all [sr_G, sr_at, sd_rd], rfl⟩
set_option maxHeartbeats 4000000 in
set_option maxRecDepth 100000 in
theorem c_X2_greaterPart (N d : Nat) (σ : rd_S) (hN : 33 ≤ N) (k : Nat) (hk : k < 8) : rd_T N (d + 1) yX2_greaterPart cX2_greaterPart 2 (some .int) [.ref 19, .int (nI k)] σ (rd_is (some (.int (if sd_abs (σ (21 + k) 2) < σ (21 + k) 3 then σ (21 + k) 3 else sd_abs (σ (21 + k) 2)))) σ) := by
  refine rd_start RX2 [.ref 19, .int (nI k)] rfl (by decide +kernel) rfl (Nat.le_of_ble_eq_true rfl) ?_
  refine rr_iloadn_1 dX2_greaterPart_0 ?_
  refine rr_if_lt 13 dX2_greaterPart_1 (by decide) (fun h1 => absurd h1 (nI_pos (by omega))) (fun h1 => ?_)
  refine rr_iloadn_1 dX2_greaterPart_4 ?_
  refine rr_aloadn_0 dX2_greaterPart_5 ?_
  refine rr_getr 20 dX2_greaterPart_6 kf_X2_11 (by omega) rfl rfl rfl ?_
  refine rr_alen (v := 8) dX2_greaterPart_9 (by omega) (by decide) rfl ?_
  refine rr_icmp_lt 15 dX2_greaterPart_10 (by decide) (fun h10 => ?_) (fun h10 => absurd (nI_lt_8 hk) h10)
  refine rr_aloadn_0 dX2_greaterPart_15 ?_
  refine rr_getr 20 dX2_greaterPart_16 kf_X2_11 (by omega) rfl rfl rfl ?_
  refine rr_iloadn_1 dX2_greaterPart_19 ?_
  refine rr_aald (k) (21 + k) dX2_greaterPart_20 (by omega) rfl rfl hk rfl ?_
  refine rr_geti dX2_greaterPart_21 kf_X2_59 (by omega) (sr_kd hk) rfl ?_
  refine rr_mabs dX2_greaterPart_24 kl_X2_62 (Nat.le_of_ble_eq_true rfl) kh_abs ?_
  refine rr_aloadn_0 dX2_greaterPart_27 ?_
  refine rr_getr 20 dX2_greaterPart_28 kf_X2_11 (by omega) rfl rfl rfl ?_
  refine rr_iloadn_1 dX2_greaterPart_31 ?_
  refine rr_aald (k) (21 + k) dX2_greaterPart_32 (by omega) rfl rfl hk rfl ?_
  refine rr_geti dX2_greaterPart_33 kf_X2_67 (by omega) (sr_kd hk) rfl ?_
  refine rr_mmax dX2_greaterPart_36 kl_X2_70 (Nat.le_of_ble_eq_true rfl) kh_max ?_
  exact rr_iret dX2_greaterPart_39 ⟨rfl, rfl⟩
set_option maxHeartbeats 4000000 in
set_option maxRecDepth 100000 in
theorem c_goOn_s (N d : Nat) (σ : rd_S) (hN : 33 ≤ N) (k : Nat) (hk : k < 7) (f : Int32) {D : sd_D} (h : sd_st (sd_rd σ (21 + k)) f (σ 19 1) = some D) : rd_T N (d + 3) yX2_goOn cX2_goOn 3 (some .boolean) [.ref 19, .int (nI k), .int f] σ (rd_is (some (.int 1)) (sd_wr σ (21 + (k + 1)) D)) := by
  refine rd_start RX2 [.ref 19, .int (nI k), .int f] rfl (by decide +kernel) rfl (Nat.le_of_ble_eq_true rfl) ?_
  refine rr_iloadn_1 dX2_goOn_0 ?_
  refine rr_if_lt 15 dX2_goOn_1 (by decide) (fun h1 => absurd h1 (nI_pos (by omega))) (fun h1 => ?_)
  refine rr_iloadn_1 dX2_goOn_4 ?_
  refine rr_iconst (v := 1) dX2_goOn_5 (by decide) ?_
  refine rr_iadd dX2_goOn_6 ?_
  rw [nI_s]
  refine rr_aloadn_0 dX2_goOn_7 ?_
  refine rr_getr 20 dX2_goOn_8 kf_X2_11 (by omega) rfl rfl rfl ?_
  refine rr_alen (v := 8) dX2_goOn_11 (by omega) (by decide) rfl ?_
  refine rr_icmp_lt 17 dX2_goOn_12 (by decide) (fun h12 => ?_) (fun h12 => absurd (nI_lt_8 (by omega)) h12)
  refine rr_aloadn_0 dX2_goOn_17 ?_
  refine rr_getr 20 dX2_goOn_18 kf_X2_11 (by omega) rfl rfl rfl ?_
  refine rr_iloadn_1 dX2_goOn_21 ?_
  refine rr_iconst (v := 1) dX2_goOn_22 (by decide) ?_
  refine rr_iadd dX2_goOn_23 ?_
  rw [nI_s]
  refine rr_aald ((k + 1)) (21 + (k + 1)) dX2_goOn_24 (by omega) rfl rfl (Nat.succ_lt_succ hk) rfl ?_
  refine rr_aloadn_0 dX2_goOn_25 ?_
  refine rr_getr 20 dX2_goOn_26 kf_X2_11 (by omega) rfl rfl rfl ?_
  refine rr_iloadn_1 dX2_goOn_29 ?_
  refine rr_aald (k) (21 + k) dX2_goOn_30 (by omega) rfl rfl (Nat.lt_succ_of_lt hk) rfl ?_
  refine rr_callVvD (c_X3_take N _ _ _ _ (by omega) (sr_kd1 hk) (by omega) (sr_kd (by omega))) km_X2_35 rfl rfl (by omega) (sr_kd1 hk) (Nat.le_of_ble_eq_true rfl) dX2_goOn_31 ?_
  refine rr_aloadn_0 dX2_goOn_34 ?_
  refine rr_getr 20 dX2_goOn_35 kf_X2_11 (by omega) rfl rfl rfl ?_
  refine rr_iloadn_1 dX2_goOn_38 ?_
  refine rr_iconst (v := 1) dX2_goOn_39 (by decide) ?_
  refine rr_iadd dX2_goOn_40 ?_
  rw [nI_s]
  refine rr_aald ((k + 1)) (21 + (k + 1)) dX2_goOn_41 (by omega) rfl rfl (Nat.succ_lt_succ hk) rfl ?_
  refine rr_iloadn_2 dX2_goOn_42 ?_
  refine rr_aloadn_0 dX2_goOn_43 ?_
  refine rr_geti dX2_goOn_44 kf_X2_39 (by omega) rfl rfl ?_
  refine rr_callViD (c_step_s N _ _ _ _ _ (by omega) (sr_kd1 hk) (D' := D) (by rw [sd_rd_wr, sd_wr_ne _ (by omega)]; exact h)) km_X2_56 rfl rfl (by omega) (sr_kd1 hk) (Nat.le_of_ble_eq_true rfl) dX2_goOn_47 ?_
  exact rr_zret dX2_goOn_50 (by decide) ⟨rfl, by rw [sd_wr_wr]⟩
set_option maxHeartbeats 4000000 in
set_option maxRecDepth 100000 in
theorem c_goOn_n (N d : Nat) (σ : rd_S) (hN : 33 ≤ N) (k : Nat) (hk : k < 7) (f : Int32) (h : sd_st (sd_rd σ (21 + k)) f (σ 19 1) = none) : rd_T N (d + 3) yX2_goOn cX2_goOn 3 (some .boolean) [.ref 19, .int (nI k), .int f] σ (rd_is (some (.int 0)) (sd_wr σ (21 + (k + 1)) (sd_rd σ (21 + k)))) := by
  refine rd_start RX2 [.ref 19, .int (nI k), .int f] rfl (by decide +kernel) rfl (Nat.le_of_ble_eq_true rfl) ?_
  refine rr_iloadn_1 dX2_goOn_0 ?_
  refine rr_if_lt 15 dX2_goOn_1 (by decide) (fun h1 => absurd h1 (nI_pos (by omega))) (fun h1 => ?_)
  refine rr_iloadn_1 dX2_goOn_4 ?_
  refine rr_iconst (v := 1) dX2_goOn_5 (by decide) ?_
  refine rr_iadd dX2_goOn_6 ?_
  rw [nI_s]
  refine rr_aloadn_0 dX2_goOn_7 ?_
  refine rr_getr 20 dX2_goOn_8 kf_X2_11 (by omega) rfl rfl rfl ?_
  refine rr_alen (v := 8) dX2_goOn_11 (by omega) (by decide) rfl ?_
  refine rr_icmp_lt 17 dX2_goOn_12 (by decide) (fun h12 => ?_) (fun h12 => absurd (nI_lt_8 (by omega)) h12)
  refine rr_aloadn_0 dX2_goOn_17 ?_
  refine rr_getr 20 dX2_goOn_18 kf_X2_11 (by omega) rfl rfl rfl ?_
  refine rr_iloadn_1 dX2_goOn_21 ?_
  refine rr_iconst (v := 1) dX2_goOn_22 (by decide) ?_
  refine rr_iadd dX2_goOn_23 ?_
  rw [nI_s]
  refine rr_aald ((k + 1)) (21 + (k + 1)) dX2_goOn_24 (by omega) rfl rfl (Nat.succ_lt_succ hk) rfl ?_
  refine rr_aloadn_0 dX2_goOn_25 ?_
  refine rr_getr 20 dX2_goOn_26 kf_X2_11 (by omega) rfl rfl rfl ?_
  refine rr_iloadn_1 dX2_goOn_29 ?_
  refine rr_aald (k) (21 + k) dX2_goOn_30 (by omega) rfl rfl (Nat.lt_succ_of_lt hk) rfl ?_
  refine rr_callVvD (c_X3_take N _ _ _ _ (by omega) (sr_kd1 hk) (by omega) (sr_kd (by omega))) km_X2_35 rfl rfl (by omega) (sr_kd1 hk) (Nat.le_of_ble_eq_true rfl) dX2_goOn_31 ?_
  refine rr_aloadn_0 dX2_goOn_34 ?_
  refine rr_getr 20 dX2_goOn_35 kf_X2_11 (by omega) rfl rfl rfl ?_
  refine rr_iloadn_1 dX2_goOn_38 ?_
  refine rr_iconst (v := 1) dX2_goOn_39 (by decide) ?_
  refine rr_iadd dX2_goOn_40 ?_
  rw [nI_s]
  refine rr_aald ((k + 1)) (21 + (k + 1)) dX2_goOn_41 (by omega) rfl rfl (Nat.succ_lt_succ hk) rfl ?_
  refine rr_iloadn_2 dX2_goOn_42 ?_
  refine rr_aloadn_0 dX2_goOn_43 ?_
  refine rr_geti dX2_goOn_44 kf_X2_39 (by omega) rfl rfl ?_
  refine rr_callViD (c_step_n N _ _ _ _ _ (by omega) (sr_kd1 hk) (by rw [sd_rd_wr, sd_wr_ne _ (by omega)]; exact h)) km_X2_56 rfl rfl (by omega) (sr_kd1 hk) (Nat.le_of_ble_eq_true rfl) dX2_goOn_47 ?_
  exact rr_zret dX2_goOn_50 (by decide) ⟨rfl, rfl⟩
set_option maxHeartbeats 4000000 in
set_option maxRecDepth 100000 in
theorem c_X2_better (N d : Nat) (σ : rd_S) (w a b : Int32) : rd_T N (d + 1) yX2_better cX2_better 3 (some .int) [.int w, .int a, .int b] σ (rd_is (some (.int (if w = 0 then (if b < a then b else a) else (if a < b then b else a)))) σ) := by
  refine rd_start RX2 [.int w, .int a, .int b] rfl (by decide +kernel) rfl (Nat.le_of_ble_eq_true rfl) ?_
  refine rr_iloadn_0 dX2_better_0 ?_
  refine rr_if_eq 12 dX2_better_1 (by decide) (fun h1 => ?_) (fun h1 => ?_)
  · refine rr_iloadn_1 dX2_better_12 ?_
    refine rr_iloadn_2 dX2_better_13 ?_
    refine rr_mmin dX2_better_14 kl_X2_99 (Nat.le_of_ble_eq_true rfl) kh_min ?_
    exact rr_iret dX2_better_17 ⟨by simp [*], rfl⟩
  · refine rr_iloadn_1 dX2_better_4 ?_
    refine rr_iloadn_2 dX2_better_5 ?_
    refine rr_mmax dX2_better_6 kl_X2_70 (Nat.le_of_ble_eq_true rfl) kh_max ?_
    refine rr_goto 17 dX2_better_9 (by decide) ?_
    exact rr_iret dX2_better_17 ⟨by simp [*], rfl⟩
/-- how many rows of m more figures lead to the goal -/
def sr_cnt (G : sd_D → Bool) (kb : Int32) : Nat → sd_D → Nat
  | 0, D => if G D = true then 1 else 0
  | m + 1, D => (match sd_st D (nI 0) kb with | none => 0 | some E => sr_cnt G kb m E) + ((match sd_st D (nI 1) kb with | none => 0 | some E => sr_cnt G kb m E) + (match sd_st D (nI 2) kb with | none => 0 | some E => sr_cnt G kb m E))
def sr_c1 (G : sd_D → Bool) (kb : Int32) (m : Nat) (D : sd_D) (f : Nat) : Nat := match sd_st D (nI f) kb with | none => 0 | some E => sr_cnt G kb m E
def sr_sum (F : Nat → Nat) (f : Nat) : Nat → Nat
  | 0 => 0
  | j + 1 => F f + sr_sum F (f + 1) j
theorem sr_cnt_s (G : sd_D → Bool) (kb : Int32) (m : Nat) (D : sd_D) : sr_cnt G kb (m + 1) D = sr_sum (sr_c1 G kb m D) 0 3 := by
  simp [sr_cnt, sr_sum, sr_c1]
set_option maxHeartbeats 4000000 in
set_option maxRecDepth 100000 in
theorem c_X2_rowsFrom (N d n : Nat) (hN : 33 ≤ N) (hn : n ≤ 7) : ∀ (m k : Nat) (σ : rd_S), k + m = n → rd_T N (d + m + 4) yX2_rowsFrom cX2_rowsFrom 5 (some .int) [.ref 19, .int (nI k), .int (nI n)] σ (fun r s => r = some (.int (nI (sr_cnt (sr_G σ) (σ 19 1) m (sd_rd σ (21 + k))))) ∧ sr_eq k s σ) := by
  intro m
  induction m with
  | zero =>
    intro k σ hk
    obtain rfl : k = n := hk
    refine rd_start RX2 [.ref 19, .int (nI k), .int (nI k), .retAddr 0, .retAddr 0] rfl (by decide +kernel) rfl (Nat.le_of_ble_eq_true rfl) ?_
    refine rr_iloadn_1 dX2_rowsFrom_0 ?_
    refine rr_iloadn_2 dX2_rowsFrom_1 ?_
    refine rr_icmp_ge 11 dX2_rowsFrom_2 (by decide) (fun h2 => ?_) (fun h2 => absurd (nI_le (Nat.le_refl k) (by omega)) h2)
    refine rr_aloadn_0 dX2_rowsFrom_11 ?_
    refine rr_iloadn_1 dX2_rowsFrom_12 ?_
    refine rr_callViD (c_X2_isAtGoal N _ _ hN k (by omega)) km_X2_74 rfl rfl (by omega) rfl (Nat.le_of_ble_eq_true rfl) dX2_rowsFrom_13 ?_
    refine rr_if_eq 23 dX2_rowsFrom_16 (by decide) (fun h16 => ?_) (fun h16 => ?_)
    · refine rr_iconst (v := 0) dX2_rowsFrom_23 (by decide) ?_
      exact rr_iret dX2_rowsFrom_24 ⟨by simp_all [sr_cnt] <;> rfl, sr_eq.refl _ _⟩
    · refine rr_iconst (v := 1) dX2_rowsFrom_19 (by decide) ?_
      refine rr_goto 24 dX2_rowsFrom_20 (by decide) ?_
      exact rr_iret dX2_rowsFrom_24 ⟨by simp_all [sr_cnt] <;> rfl, sr_eq.refl _ _⟩
  | succ m ih =>
    intro k σ hk
    refine rd_start RX2 [.ref 19, .int (nI k), .int (nI n), .retAddr 0, .retAddr 0] rfl (by decide +kernel) rfl (Nat.le_of_ble_eq_true rfl) ?_
    have loop : ∀ (j f acc : Nat) (s : rd_S), f + j = 3 → sr_eq k s σ → rd_W N (d + (m + 1) + 4) RX2 cX2_rowsFrom 5 (some .int) 30 [.ref 19, .int (nI k), .int (nI n), .int (nI acc), .int (nI f)] [] s (fun r u => r = some (.int (nI (acc + sr_sum (sr_c1 (sr_G σ) (σ 19 1) m (sd_rd σ (21 + k))) f j))) ∧ sr_eq k u σ) := by
      intro j
      induction j with
      | zero =>
        intro f acc s hf he
        refine rr_iload_4 dX2_rowsFrom_30 ?_
        refine rr_iconst (v := 2) dX2_rowsFrom_32 (by decide) ?_
        refine rr_icmp_gt 63 dX2_rowsFrom_33 (by decide) (fun h33 => ?_) (fun h33 => absurd ((nI_lt8 (a := 2) (b := f) (by omega) (by omega)).mpr (by omega)) h33)
        refine rr_iloadn_3 dX2_rowsFrom_63 ?_
        exact rr_iret dX2_rowsFrom_64 ⟨rfl, he⟩
      | succ j ihj =>
        intro f acc s hf he
        have e1 : sd_rd s (21 + k) = sd_rd σ (21 + k) := he.rd (by omega)
        have e2 : s 19 1 = σ 19 1 := he.kb 1
        refine rr_iload_4 dX2_rowsFrom_30 ?_
        refine rr_iconst (v := 2) dX2_rowsFrom_32 (by decide) ?_
        refine rr_icmp_gt 63 dX2_rowsFrom_33 (by decide) (fun h33 => absurd ((nI_lt8 (a := 2) (b := f) (by omega) (by omega)).mp h33) (by omega)) (fun h33 => ?_)
        rcases hst : sd_st (sd_rd σ (21 + k)) (nI f) (σ 19 1) with _ | E
        · refine rr_aloadn_0 dX2_rowsFrom_36 ?_
          refine rr_iloadn_1 dX2_rowsFrom_37 ?_
          refine rr_iload_4 dX2_rowsFrom_38 ?_
          refine rr_callViD (c_goOn_n N _ _ hN k (by omega) _ (by rw [e1, e2]; exact hst)) km_X2_78 rfl rfl (by omega) rfl (Nat.le_of_ble_eq_true rfl) dX2_rowsFrom_40 ?_
          refine rr_if_eq 57 dX2_rowsFrom_43 (by decide) (fun _ => ?_) (fun h43 => absurd h43 (by decide))
          refine rr_iinc_4 1 dX2_rowsFrom_57 (by decide) rfl ?_
          refine rr_goto 30 dX2_rowsFrom_60 (by decide) ?_
          rw [nI_s f]
          exact (ihj (f + 1) acc _ (by omega) ((sr_eq.wr _ _ (by omega)).trans he)).post (fun r u q => ⟨by rw [q.1]; simp [sr_sum, sr_c1, hst], q.2⟩)
        · refine rr_aloadn_0 dX2_rowsFrom_36 ?_
          refine rr_iloadn_1 dX2_rowsFrom_37 ?_
          refine rr_iload_4 dX2_rowsFrom_38 ?_
          refine rr_callViD (c_goOn_s N _ _ hN k (by omega) _ (D := E) (by rw [e1, e2]; exact hst)) km_X2_78 rfl rfl (by omega) rfl (Nat.le_of_ble_eq_true rfl) dX2_rowsFrom_40 ?_
          refine rr_if_eq 57 dX2_rowsFrom_43 (by decide) (fun h43 => absurd h43 (by decide)) (fun _ => ?_)
          refine rr_iloadn_3 dX2_rowsFrom_46 ?_
          refine rr_aloadn_0 dX2_rowsFrom_47 ?_
          refine rr_iloadn_1 dX2_rowsFrom_48 ?_
          refine rr_iconst (v := 1) dX2_rowsFrom_49 (by decide) ?_
          refine rr_iadd dX2_rowsFrom_50 ?_
          rw [nI_s k]
          refine rr_iloadn_2 dX2_rowsFrom_51 ?_
          refine rr_callSi (ih (k + 1) _ (by omega)) km_X2_85 rfl rfl (Nat.le_of_ble_eq_true rfl) dX2_rowsFrom_52 (fun r52 s52 q52 => ?_)
          obtain ⟨hr, he2⟩ := q52
          cases hr
          have e3 : sr_eq k s52 σ := ((he2.up (by omega)).trans (sr_eq.wr _ _ (by omega))).trans he
          refine rr_iadd dX2_rowsFrom_55 ?_
          rw [sr_eq.G ((sr_eq.wr _ _ (by omega)).trans he), sd_rd_wr, ((sr_eq.wr _ _ (by omega)).trans he).kb 1, nI_add]
          refine rr_istoren_3 dX2_rowsFrom_56 rfl ?_
          refine rr_iinc_4 1 dX2_rowsFrom_57 (by decide) rfl ?_
          refine rr_goto 30 dX2_rowsFrom_60 (by decide) ?_
          rw [nI_s f]
          exact (ihj (f + 1) _ _ (by omega) e3).post (fun r u q => ⟨by rw [q.1]; simp [sr_sum, sr_c1, hst, Nat.add_assoc], q.2⟩)
    refine rr_iloadn_1 dX2_rowsFrom_0 ?_
    refine rr_iloadn_2 dX2_rowsFrom_1 ?_
    refine rr_icmp_ge 11 dX2_rowsFrom_2 (by decide) (fun h2 => absurd ((nI_le8 (by omega) (by omega)).mp h2) (by omega)) (fun h2 => ?_)
    refine rr_iloadn_1 dX2_rowsFrom_5 ?_
    refine rr_bipush (v := 7) dX2_rowsFrom_6 (by decide) ?_
    refine rr_icmp_lt 25 dX2_rowsFrom_8 (by decide) (fun h8 => ?_) (fun h8 => absurd ((nI_lt8 (b := 7) (by omega) (by omega)).mpr (by omega)) h8)
    refine rr_iconst (v := 0) dX2_rowsFrom_25 (by decide) ?_
    refine rr_istoren_3 dX2_rowsFrom_26 rfl ?_
    refine rr_iconst (v := 0) dX2_rowsFrom_27 (by decide) ?_
    refine rr_istore_4 dX2_rowsFrom_28 rfl ?_
    exact (loop 3 0 0 σ rfl (sr_eq.refl _ _)).post (fun r u q => ⟨by rw [q.1, sr_cnt_s, Nat.zero_add], q.2⟩)
