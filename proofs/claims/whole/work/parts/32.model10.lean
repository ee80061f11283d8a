/-! ===== the reference: look, danced, duel ===== -/
set_option maxHeartbeats 4000000 in
set_option maxRecDepth 100000 in
theorem lp_mlook (N d : Nat) (hN : 49 ≤ N) (σ : rd_S) (c : Nat) (hc : c + 100 < 1000000) (D : sd_D) (fg kb : Int32) (fc : Nat) (hw : wf c D) (hk : kd_at σ kb) (hb : kb_ok kb) (hr : rw_at σ fg fc) (hD : md_at σ D) (i : Nat) (hi : i < 4) (w so : Int32) : ∀ (m n : Nat) (bl : Nat × Nat) (n0 : Int32) (τ : rd_S) (z : Value), n + m = 13 → bl.1 ≤ 12 → bl.2 ≤ 10 → pb_eq τ σ → rd_W N (d + 6) RX5 cX5_look 8 (some .int) 43 [.ref 33, .int (nI i), .int w, .int so, .int (nI bl.1), .int (nI bl.2), .int (nI n), z] [] (ms τ D D n0) (fun r s => r = some (.int (if w = 0 then nI (lk_go (pb_v fg kb fc D so i) m n bl).1 else nI (lk_go (pb_v fg kb fc D so i) m n bl).2)) ∧ mq_eq s σ) := by
  intro m
  induction m with
  | zero =>
    intro n bl n0 τ z hn h1 h2 he
    obtain rfl : n = 13 := hn
    refine rr_iload_6 dX5_look_43 ?_
    refine rr_bipush (v := 12) dX5_look_45 (by decide) ?_
    refine rr_icmp_gt 98 dX5_look_47 (by decide) (fun h47 => ?_) (fun h47 => absurd (by decide) h47)
    refine rr_iloadn_2 dX5_look_98 ?_
    refine rr_if_ne 107 dX5_look_99 (by decide) (fun h99 => ?_) (fun h99 => ?_)
    · refine rr_iload_5 dX5_look_107 ?_
      exact rr_iret dX5_look_109 ⟨by first | (rw [if_pos h99]; rfl) | (rw [if_neg h99]; rfl), mq_ms (pb_mq he) hD⟩
    · refine rr_iload_4 dX5_look_102 ?_
      refine rr_goto 109 dX5_look_104 (by decide) ?_
      exact rr_iret dX5_look_109 ⟨by first | (rw [if_pos h99]; rfl) | (rw [if_neg h99]; rfl), mq_ms (pb_mq he) hD⟩
  | succ m ih =>
    intro n bl n0 τ z hn h1 h2 he
    have hv := pb_v_le fg kb fc D so i n
    refine rr_iload_6 dX5_look_43 ?_
    refine rr_bipush (v := 12) dX5_look_45 (by decide) ?_
    refine rr_icmp_gt 98 dX5_look_47 (by decide) (fun h47 => absurd ((nI_lt8 (a := 12) (by omega) (by omega)).mp h47) (by omega)) (fun h47 => ?_)
    refine rr_aloadn_0 dX5_look_50 ?_
    refine rr_iloadn_1 dX5_look_51 ?_
    refine rr_iload_6 dX5_look_52 ?_
    refine rr_iloadn_3 dX5_look_54 ?_
    refine rr_callVi (c_X5_partBy N _ τ hN c hc D fg kb fc hw (pb_kd he hk) hb (pb_rw he hr) i n hi (by omega) so n0) km_X5_215 rfl rfl (by omega) rfl (Nat.le_of_ble_eq_true rfl) dX5_look_55 (fun r55 s55 q55 => ?_)
    obtain ⟨hr2, n1, τ2, rfl, he3⟩ := q55
    cases hr2
    have he2 : pb_eq τ2 σ := fun a b h => (he3 a b h).trans (he a b h)
    refine rr_istore_7 dX5_look_58 rfl ?_
    refine rr_iload_7 dX5_look_60 ?_
    refine rr_iload_5 dX5_look_62 ?_
    by_cases hlt : pb_v fg kb fc D so i n < bl.2
    · refine rr_icmp_ge 72 dX5_look_64 (by decide) (fun h64 => absurd ((nI_le8 (by omega) (by omega)).mp h64) (by omega)) (fun h64 => ?_)
      refine rr_iload_6 dX5_look_67 ?_
      refine rr_goto 74 dX5_look_69 (by decide) ?_
      refine rr_istore_4 dX5_look_74 rfl ?_
      refine rr_iload_7 dX5_look_76 ?_
      refine rr_iload_5 dX5_look_78 ?_
      refine rr_icmp_ge 88 dX5_look_80 (by decide) (fun h80 => absurd ((nI_le8 (by omega) (by omega)).mp h80) (by omega)) (fun h80 => ?_)
      refine rr_iload_7 dX5_look_83 ?_
      refine rr_goto 90 dX5_look_85 (by decide) ?_
      refine rr_istore_5 dX5_look_90 rfl ?_
      refine rr_iinc_6 1 dX5_look_92 (by decide) rfl ?_
      refine rr_goto 43 dX5_look_95 (by decide) ?_
      rw [nI_s n, lk_go_t hlt]
      exact ih (n + 1) (n, pb_v fg kb fc D so i n) _ _ _ (by omega) (by show n ≤ 12; omega) (by show pb_v fg kb fc D so i n ≤ 10; omega) he2
    · refine rr_icmp_ge 72 dX5_look_64 (by decide) (fun h64 => ?_) (fun h64 => absurd ((nI_le8 (by omega) (by omega)).mpr (by omega)) h64)
      refine rr_iload_4 dX5_look_72 ?_
      refine rr_istore_4 dX5_look_74 rfl ?_
      refine rr_iload_7 dX5_look_76 ?_
      refine rr_iload_5 dX5_look_78 ?_
      refine rr_icmp_ge 88 dX5_look_80 (by decide) (fun h80 => ?_) (fun h80 => absurd ((nI_le8 (by omega) (by omega)).mpr (by omega)) h80)
      refine rr_iload_5 dX5_look_88 ?_
      refine rr_istore_5 dX5_look_90 rfl ?_
      refine rr_iinc_6 1 dX5_look_92 (by decide) rfl ?_
      refine rr_goto 43 dX5_look_95 (by decide) ?_
      rw [nI_s n, lk_go_f (Nat.le_of_not_lt hlt)]
      exact ih (n + 1) bl _ _ _ (by omega) h1 h2 he2
def ml_out (fg kb : Int32) (fc : Nat) (D : sd_D) (so : Int32) (i : Nat) (w : Int32) : Int32 := if so &&& (so - 1) = 0 then -4 else (fun bl : Nat × Nat => if w = 0 then nI bl.1 else nI bl.2) (lk_go (pb_v fg kb fc D so i) 12 1 (0, 10))
set_option maxHeartbeats 4000000 in
set_option maxRecDepth 100000 in
theorem m_look_b (N d : Nat) (σ : rd_S) (hN : 49 ≤ N) (i w : Int32) (h : hp_rg 0 3 i = false ∨ hp_rg 0 1 w = false) : rd_T N (d + 7) yX5_look cX5_look 8 (some .int) [.ref 33, .int i, .int w] σ (rd_is (some (.int (-1))) σ) := by
  refine rd_start RX5 [.ref 33, .int i, .int w, .retAddr 0, .retAddr 0, .retAddr 0, .retAddr 0, .retAddr 0] rfl (by decide +kernel) rfl (Nat.le_of_ble_eq_true rfl) ?_
  refine rr_iloadn_1 dX5_look_0 ?_
  refine rr_callSiD (c_X5_isOne N _ _ _) km_X5_105 rfl rfl (Nat.le_of_ble_eq_true rfl) dX5_look_1 ?_
  refine rr_if_eq 14 dX5_look_4 (by decide) (fun h4 => ?_) (fun h4 => ?_)
  · refine rr_iconst (v := (-1)) dX5_look_14 (by decide) ?_
    exact rr_iret dX5_look_15 ⟨rfl, rfl⟩
  · refine rr_iloadn_2 dX5_look_7 ?_
    refine rr_callSiD (c_X5_isPart N _ _ _) km_X5_114 rfl rfl (Nat.le_of_ble_eq_true rfl) dX5_look_8 ?_
    refine rr_if_ne 16 dX5_look_11 (by decide) (fun h11 => absurd (by rcases h with h | h; { simp [h] at h4 }; { simp [h] }) h11) (fun h11 => ?_)
    refine rr_iconst (v := (-1)) dX5_look_14 (by decide) ?_
    exact rr_iret dX5_look_15 ⟨rfl, rfl⟩
set_option maxHeartbeats 4000000 in
set_option maxRecDepth 100000 in
theorem m_look_s (N d : Nat) (σ : rd_S) (hN : 49 ≤ N) (c : Nat) (hc : c + 100 < 1000000) (D : sd_D) (fg kb : Int32) (fc sc : Nat) (sn : Nat → Nat) (su sl : Nat → Int32) (hw : wf c D) (hk : kd_at σ kb) (hr : rw_at σ fg fc) (hs : sn_at σ sc sn su sl) (hb : kb_ok kb) (hD : md_at σ D) (i : Nat) (hi : i < 4) (w : Int32) (h : hp_rg 0 1 w = true) : rd_T N (d + 7) yX5_look cX5_look 8 (some .int) [.ref 33, .int (nI i), .int w] σ (fun r s => r = some (.int (ml_out fg kb fc D (pk_bits (ks_f fg kb fc sc D sn su sl i) 6 0 0) i w)) ∧ mq_eq s σ) := by
  refine rd_start RX5 [.ref 33, .int (nI i), .int w, .retAddr 0, .retAddr 0, .retAddr 0, .retAddr 0, .retAddr 0] rfl (by decide +kernel) rfl (Nat.le_of_ble_eq_true rfl) ?_
  have hq1 : hp_rg 0 3 (nI i) = true := by simp only [hp_rg, decide_eq_true_eq, nI_toInt (show i < 2 ^ 31 by omega)]; omega
  refine rr_iloadn_1 dX5_look_0 ?_
  refine rr_callSiD (c_X5_isOne N _ _ _) km_X5_105 rfl rfl (Nat.le_of_ble_eq_true rfl) dX5_look_1 ?_
  refine rr_if_eq 14 dX5_look_4 (by decide) (fun h4 => absurd h4 (by simp [hq1])) (fun h4 => ?_)
  refine rr_iloadn_2 dX5_look_7 ?_
  refine rr_callSiD (c_X5_isPart N _ _ _) km_X5_114 rfl rfl (Nat.le_of_ble_eq_true rfl) dX5_look_8 ?_
  refine rr_if_ne 16 dX5_look_11 (by decide) (fun h11 => ?_) (fun h11 => absurd h11 (by simp [h]))
  refine rr_aloadn_0 dX5_look_16 ?_
  refine rr_iloadn_1 dX5_look_17 ?_
  refine rr_callVi (c_X5_kindSet N _ σ hN c hc D fg kb fc sc sn su sl hw hk hr hs hb hD i hi) km_X5_212 rfl rfl (by omega) rfl (Nat.le_of_ble_eq_true rfl) dX5_look_18 (fun r18 s18 q18 => ?_)
  obtain ⟨hr2, n1, rfl⟩ := q18
  cases hr2
  generalize pk_bits (ks_f fg kb fc sc D sn su sl i) 6 0 0 = so
  refine rr_istoren_3 dX5_look_21 rfl ?_
  refine rr_iloadn_3 dX5_look_22 ?_
  refine rr_iloadn_3 dX5_look_23 ?_
  refine rr_iconst (v := 1) dX5_look_24 (by decide) ?_
  refine rr_isub dX5_look_25 ?_
  refine rr_iand dX5_look_26 ?_
  refine rr_if_ne 33 dX5_look_27 (by decide) (fun h27 => ?_) (fun h27 => ?_)
  · refine rr_iconst (v := 0) dX5_look_33 (by decide) ?_
    refine rr_istore_4 dX5_look_34 rfl ?_
    refine rr_bipush (v := 10) dX5_look_36 (by decide) ?_
    refine rr_istore_5 dX5_look_38 rfl ?_
    refine rr_iconst (v := 1) dX5_look_40 (by decide) ?_
    refine rr_istore_6 dX5_look_41 rfl ?_
    unfold ml_out
    rw [if_neg h27]
    exact lp_mlook N (d + 1) hN σ c hc D fg kb fc hw hk hb hr hD i hi w so 12 1 (0, 10) n1 σ _ rfl (by decide) (by decide) (pb_eq.refl _)
  · refine rr_bipush (v := (-4)) dX5_look_30 (by decide) ?_
    exact rr_iret dX5_look_32 ⟨by unfold ml_out; rw [if_pos h27], mq_ms (mq_eq.refl _) hD⟩
