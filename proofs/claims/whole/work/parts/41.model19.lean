/-! ===== the reference: fault ===== -/
theorem pm_17 {σ : rd_S} {X : ps_X} (h : pm_at σ X) (v : Int32) : pm_at (rd_u2 σ 33 17 v) X := by
  obtain ⟨a1, a2, a3, a4, a5, a6⟩ := h
  exact ⟨by rw [u2_off (by omega)]; exact a1, a2, fun i hi => by rw [u2_off (by omega)]; exact a3 i hi, fun i hi => by rw [u2_off (by omega)]; exact a4 i hi, fun i hi => by rw [u2_off (by omega)]; exact a5 i hi, a6⟩
theorem mq_41 {s σ : rd_S} (h : mq_eq s σ) : s 41 = σ 41 := funext (fun b => h 41 b (by omega))
theorem mq_tx {s σ : rd_S} (h : mq_eq s σ) {n : Nat} (hn : tx_at σ n) : tx_at s n := ⟨by rw [h 33 12 (by omega)]; exact hn.1, hn.2.1, by rw [mq_41 h]; exact hn.2.2⟩
theorem px_mq {s u σ : rd_S} (h : px_eq s u) (h2 : mq_eq u σ) : mq_eq s σ := fun a b q => (h a b (by omega)).trans (h2 a b q)
theorem mq_17 {s σ : rd_S} (h : mq_eq s σ) (v : Int32) : mq_eq (rd_u2 s 33 17 v) σ := fun a b q => by rw [u2_off (by omega)]; exact h a b q
set_option maxHeartbeats 4000000 in
set_option maxRecDepth 100000 in
theorem lp_fault (N d : Nat) (hN : 49 ≤ N) (σ : rd_S) (n : Nat) (hn : tx_at σ n) : ∀ (f a : Nat) (X : ps_X) (s : rd_S) (z1 : Value), n < a + f → a ≤ n → mq_eq s σ → pm_at s X → s 33 17 = nI a → rd_W N (d + 3) RX5 cX5_fault 2 (some .int) 37 [.ref 33, z1] [] s (fun r u => r = some (.int (ps_res (ps_run (σ 41) n f a X))) ∧ mq_eq u σ ∧ ∀ Y, ps_run (σ 41) n f a X = .inr Y → pm_at u Y) := by
  have h200 := hn.2.1
  intro f
  induction f with
  | zero => intro a X s z1 h1 h2; exact absurd h1 (by omega)
  | succ f ih =>
    intro a X s z1 h1 h2 he hX h17
    have hs := mq_tx he hn
    have g12 := hs.1
    by_cases hna : n ≤ a
    · have e9 : ps_run (σ 41) n (f + 1) a X = .inr X := by unfold ps_run; rw [if_pos hna]
      rw [e9]
      refine rr_aloadn_0 dX5_fault_37 ?_
      refine rr_geti dX5_fault_38 kf_X5_95 (by omega) rfl rfl ?_
      refine rr_aloadn_0 dX5_fault_41 ?_
      refine rr_geti dX5_fault_42 kf_X5_81 (by omega) rfl rfl ?_
      rw [h17, g12]
      refine rr_icmp_ge 79 dX5_fault_45 (by decide) (fun h45 => ?_) (fun h45 => absurd ((nI_lek (by omega) (by omega)).mpr hna) h45)
      refine rr_bipush (v := (-4)) dX5_fault_79 (by decide) ?_
      exact rr_iret dX5_fault_81 ⟨rfl, he, fun Y q => by cases q; exact hX⟩
    · have hI := c_item N d s hN n a X hs (by omega) hX
      rw [mq_41 he] at hI
      refine rr_aloadn_0 dX5_fault_37 ?_
      refine rr_geti dX5_fault_38 kf_X5_95 (by omega) rfl rfl ?_
      refine rr_aloadn_0 dX5_fault_41 ?_
      refine rr_geti dX5_fault_42 kf_X5_81 (by omega) rfl rfl ?_
      rw [h17, g12]
      refine rr_icmp_ge 79 dX5_fault_45 (by decide) (fun h45 => absurd ((nI_lek (by omega) (by omega)).mp h45) hna) (fun h45 => ?_)
      refine rr_aloadn_0 dX5_fault_48 ?_
      refine rr_aloadn_0 dX5_fault_49 ?_
      refine rr_geti dX5_fault_50 kf_X5_95 (by omega) rfl rfl ?_
      rw [h17]
      refine rr_callVi hI km_X5_98 rfl rfl (by omega) rfl (Nat.le_of_ble_eq_true rfl) dX5_fault_53 (fun r53 s53 q53 => ?_)
      rcases q53 with ⟨l, ⟨k1, k2⟩, hr, hpm, hpx⟩ | ⟨hno, hr, hss⟩
      · cases hr
        have hlc := ps_len_c k1
        have g17 : s53 33 17 = nI a := (hpx 33 17 (by omega)).trans h17
        have e9 : ps_run (σ 41) n (f + 1) a X = ps_run (σ 41) n f (a + l) (ps_up (σ 41) n a X) := by conv => { lhs; unfold ps_run }; rw [if_neg hna, k1]; exact if_neg k2
        rw [e9]
        refine rr_istoren_1 dX5_fault_56 rfl ?_
        refine rr_iloadn_1 dX5_fault_57 ?_
        refine rr_if_ne 66 dX5_fault_58 (by decide) (fun h58 => ?_) (fun h58 => absurd ((nI_eq8 (b := 0) (by omega) (by omega)).mp h58) (by omega))
        refine rr_aloadn_0 dX5_fault_66 ?_
        refine rr_dup dX5_fault_67 rfl ?_
        refine rr_geti dX5_fault_68 kf_X5_95 (by omega) rfl rfl ?_
        rw [g17]
        refine rr_iloadn_1 dX5_fault_71 ?_
        refine rr_iadd dX5_fault_72 ?_
        rw [nI_add]
        refine rr_puti dX5_fault_73 kf_X5_95 if_5_17 (by omega) rfl rfl ?_
        refine rr_goto 37 dX5_fault_76 (by decide) ?_
        exact ih (a + l) _ _ _ (by omega) (by omega) (mq_17 (px_mq hpx he) _) (pm_17 hpm _) (u2_at _ _ _ _)
      · cases hr
        subst hss
        have e9 : ps_run (σ 41) n (f + 1) a X = .inl a := by { unfold ps_run; rw [if_neg hna]; rcases hno with k | k; { rw [k] }; { rcases hq : ps_len (σ 41) n a with _ | l; { rfl }; { exact if_pos k } } }
        rw [e9]
        refine rr_istoren_1 dX5_fault_56 rfl ?_
        refine rr_iloadn_1 dX5_fault_57 ?_
        refine rr_if_ne 66 dX5_fault_58 (by decide) (fun h58 => absurd rfl h58) (fun h58 => ?_)
        refine rr_aloadn_0 dX5_fault_61 ?_
        refine rr_geti dX5_fault_62 kf_X5_95 (by omega) rfl rfl ?_
        exact rr_iret dX5_fault_65 ⟨by rw [h17]; rfl, he, fun Y q => by cases q⟩
set_option maxHeartbeats 4000000 in
set_option maxRecDepth 100000 in
theorem m_fault (N d : Nat) (σ : rd_S) (hN : 49 ≤ N) (n : Nat) (hn : tx_at σ n) : rd_T N (d + 3) yX5_fault cX5_fault 2 (some .int) [.ref 33] σ (fun r u => r = some (.int (ps_res (ps_run (σ 41) n 201 0 ps_0))) ∧ mq_eq u σ ∧ ∀ Y, ps_run (σ 41) n 201 0 ps_0 = .inr Y → pm_at u Y) := by
  refine rd_start RX5 [.ref 33, .retAddr 0] rfl (by decide +kernel) rfl (Nat.le_of_ble_eq_true rfl) ?_
  have h200 := hn.2.1
  refine rr_aloadn_0 dX5_fault_0 ?_
  refine rr_iconst (v := 0) dX5_fault_1 (by decide) ?_
  refine rr_puti dX5_fault_2 kf_X5_92 if_5_16 (by omega) rfl rfl ?_
  refine rr_iconst (v := 0) dX5_fault_5 (by decide) ?_
  refine rr_istoren_1 dX5_fault_6 rfl ?_
  refine rr_iloadn_1 dX5_fault_7 ?_
  refine rr_iconst (v := 4) dX5_fault_8 (by decide) ?_
  refine rr_icmp_ge 32 dX5_fault_9 (by decide) (fun h9 => absurd h9 (by decide)) (fun _ => ?_)
  refine rr_aloadn_0 dX5_fault_12 ?_
  refine rr_getr 42 dX5_fault_13 kf_X5_34 (by omega) rfl rfl rfl ?_
  refine rr_iloadn_1 dX5_fault_16 ?_
  refine rr_iconst (v := 0) dX5_fault_17 (by decide) ?_
  refine rr_iast (0) dX5_fault_18 (by omega) rfl rfl (by decide) ?_
  refine rr_aloadn_0 dX5_fault_19 ?_
  refine rr_getr 43 dX5_fault_20 kf_X5_37 (by omega) rfl rfl rfl ?_
  refine rr_iloadn_1 dX5_fault_23 ?_
  refine rr_iloadn_1 dX5_fault_24 ?_
  refine rr_iast (0) dX5_fault_25 (by omega) rfl rfl (by decide) ?_
  refine rr_iincC_1 1 1 dX5_fault_26 (by decide) (by decide) rfl ?_
  refine rr_goto 7 dX5_fault_29 (by decide) ?_
  refine rr_iloadn_1 dX5_fault_7 ?_
  refine rr_iconst (v := 4) dX5_fault_8 (by decide) ?_
  refine rr_icmp_ge 32 dX5_fault_9 (by decide) (fun h9_1 => absurd h9_1 (by decide)) (fun _ => ?_)
  refine rr_aloadn_0 dX5_fault_12 ?_
  refine rr_getr 42 dX5_fault_13 kf_X5_34 (by omega) rfl rfl rfl ?_
  refine rr_iloadn_1 dX5_fault_16 ?_
  refine rr_iconst (v := 0) dX5_fault_17 (by decide) ?_
  refine rr_iast (1) dX5_fault_18 (by omega) rfl rfl (by decide) ?_
  refine rr_aloadn_0 dX5_fault_19 ?_
  refine rr_getr 43 dX5_fault_20 kf_X5_37 (by omega) rfl rfl rfl ?_
  refine rr_iloadn_1 dX5_fault_23 ?_
  refine rr_iloadn_1 dX5_fault_24 ?_
  refine rr_iast (1) dX5_fault_25 (by omega) rfl rfl (by decide) ?_
  refine rr_iincC_1 1 2 dX5_fault_26 (by decide) (by decide) rfl ?_
  refine rr_goto 7 dX5_fault_29 (by decide) ?_
  refine rr_iloadn_1 dX5_fault_7 ?_
  refine rr_iconst (v := 4) dX5_fault_8 (by decide) ?_
  refine rr_icmp_ge 32 dX5_fault_9 (by decide) (fun h9_2 => absurd h9_2 (by decide)) (fun _ => ?_)
  refine rr_aloadn_0 dX5_fault_12 ?_
  refine rr_getr 42 dX5_fault_13 kf_X5_34 (by omega) rfl rfl rfl ?_
  refine rr_iloadn_1 dX5_fault_16 ?_
  refine rr_iconst (v := 0) dX5_fault_17 (by decide) ?_
  refine rr_iast (2) dX5_fault_18 (by omega) rfl rfl (by decide) ?_
  refine rr_aloadn_0 dX5_fault_19 ?_
  refine rr_getr 43 dX5_fault_20 kf_X5_37 (by omega) rfl rfl rfl ?_
  refine rr_iloadn_1 dX5_fault_23 ?_
  refine rr_iloadn_1 dX5_fault_24 ?_
  refine rr_iast (2) dX5_fault_25 (by omega) rfl rfl (by decide) ?_
  refine rr_iincC_1 1 3 dX5_fault_26 (by decide) (by decide) rfl ?_
  refine rr_goto 7 dX5_fault_29 (by decide) ?_
  refine rr_iloadn_1 dX5_fault_7 ?_
  refine rr_iconst (v := 4) dX5_fault_8 (by decide) ?_
  refine rr_icmp_ge 32 dX5_fault_9 (by decide) (fun h9_3 => absurd h9_3 (by decide)) (fun _ => ?_)
  refine rr_aloadn_0 dX5_fault_12 ?_
  refine rr_getr 42 dX5_fault_13 kf_X5_34 (by omega) rfl rfl rfl ?_
  refine rr_iloadn_1 dX5_fault_16 ?_
  refine rr_iconst (v := 0) dX5_fault_17 (by decide) ?_
  refine rr_iast (3) dX5_fault_18 (by omega) rfl rfl (by decide) ?_
  refine rr_aloadn_0 dX5_fault_19 ?_
  refine rr_getr 43 dX5_fault_20 kf_X5_37 (by omega) rfl rfl rfl ?_
  refine rr_iloadn_1 dX5_fault_23 ?_
  refine rr_iloadn_1 dX5_fault_24 ?_
  refine rr_iast (3) dX5_fault_25 (by omega) rfl rfl (by decide) ?_
  refine rr_iincC_1 1 4 dX5_fault_26 (by decide) (by decide) rfl ?_
  refine rr_goto 7 dX5_fault_29 (by decide) ?_
  refine rr_iloadn_1 dX5_fault_7 ?_
  refine rr_iconst (v := 4) dX5_fault_8 (by decide) ?_
  refine rr_icmp_ge 32 dX5_fault_9 (by decide) (fun _ => ?_) (fun h9_4 => absurd h9_4 (by decide))
  refine rr_aloadn_0 dX5_fault_32 ?_
  refine rr_iconst (v := 0) dX5_fault_33 (by decide) ?_
  refine rr_puti dX5_fault_34 kf_X5_95 if_5_17 (by omega) rfl rfl ?_
  refine lp_fault N d hN σ n hn 201 0 ps_0 _ _ (by omega) (by omega) ?_ ?_ (u2_at _ _ _ _)
  · intro a b q
    rw [u2_off (by omega), u2_off (by omega), u2_off (by omega), u2_off (by omega), u2_off (by omega), u2_off (by omega), u2_off (by omega), u2_off (by omega), u2_off (by omega), u2_off (by omega)]
  · refine pm_17 ⟨?_, by decide, ?_, ?_, fun k hk => absurd hk (by show ¬ k < 0; omega), ⟨0, by decide, rfl⟩, ⟨228, by decide, rfl⟩, 0, by decide, rfl⟩ _
    · rw [u2_off (by decide), u2_off (by decide), u2_off (by decide), u2_off (by decide), u2_off (by decide), u2_off (by decide), u2_off (by decide), u2_off (by decide), u2_at]; rfl
    · intro i hi
      rcases (show i = 0 ∨ i = 1 ∨ i = 2 ∨ i = 3 by omega) with rfl | rfl | rfl | rfl <;> (refine Eq.trans (b := 0) ?_ (by decide); simp [rd_u2])
    · intro i hi
      rcases (show i = 0 ∨ i = 1 ∨ i = 2 ∨ i = 3 by omega) with rfl | rfl | rfl | rfl
      · refine Eq.trans (b := 0) ?_ (by decide); simp [rd_u2]
      · refine Eq.trans (b := 1) ?_ (by decide); simp [rd_u2]
      · refine Eq.trans (b := 2) ?_ (by decide); simp [rd_u2]
      · refine Eq.trans (b := 3) ?_ (by decide); simp [rd_u2]
