theorem c_eoi_n (N d : Nat) (σ : rd_S) (hN : 33 ≤ N) (n : Nat) (hn : ps_at σ n) (a : Nat) (ha : a < 900) (h : ps_len (σ 2) n a = none) : rd_T N (d + 3) yX1_endOfItem cX1_endOfItem 2 (some .int) [.ref 1, .int (nI a)] σ (rd_is (some (.int (-1))) σ) := by
  have := c_X1_endOfItem N d σ hN n hn a ha
  rw [h] at this
  exact this
theorem c_eoi_s (N d : Nat) (σ : rd_S) (hN : 33 ≤ N) (n : Nat) (hn : ps_at σ n) (a : Nat) (ha : a < 900) {l : Nat} (h : ps_len (σ 2) n a = some l) : rd_T N (d + 3) yX1_endOfItem cX1_endOfItem 2 (some .int) [.ref 1, .int (nI a)] σ (rd_is (some (.int (nI (a + l)))) σ) := by
  have := c_X1_endOfItem N d σ hN n hn a ha
  rw [h] at this
  exact this
theorem ps_run_lt {t : Nat → Int32} {n : Nat} : ∀ {f a : Nat} {X : ps_X} {b : Nat}, ps_run t n f a X = .inl b → b < n
  | 0, _, _, _, h => by cases h
  | f + 1, a, X, b, h => by
    unfold ps_run at h
    split at h
    · cases h
    · split at h
      · cases h; omega
      · split at h
        · cases h; omega
        · exact ps_run_lt h
def ps_res : Nat ⊕ ps_X → Int32
  | .inl a => nI a
  | .inr _ => -4
theorem ps_up_1 {t : Nat → Int32} {n a : Nat} {X : ps_X} (h : ps_l t n a = 114) : (ps_up t n a X).1 = X.1 + 1 := by
  simp [ps_up, h]
theorem ps_up_0 {t : Nat → Int32} {n a l : Nat} {X : ps_X} (hl : ps_len t n a = some l) (h : ¬ ps_l t n a = 114) : (ps_up t n a X).1 = X.1 := by
  unfold ps_len at hl
  unfold ps_up
  split
  · rfl
  · rename_i h1
    split
    · rfl
    · rename_i h2
      rw [if_neg h1, if_neg h2, if_neg h] at hl
      cases hl
theorem nI_nm1 {k : Nat} (h : k < 1000) : ¬ nI k = -1 := fun e => nI_pos (n := k) (by omega) (by rw [e]; decide)
set_option maxHeartbeats 4000000 in
set_option maxRecDepth 100000 in
theorem lp_firstFault (N d : Nat) (σ : rd_S) (hN : 33 ≤ N) (n : Nat) (hn : ps_at σ n) : ∀ (fu a it : Nat) (X : ps_X) (w : Value), n < a + fu → a ≤ n → 3 * it ≤ a → X.1 ≤ 12 → rd_W N (d + 4) RX1 cX1_firstFault 5 (some .int) 6 [.ref 1, .int (nI a), .int (nI X.1), .int (nI it), w] [] σ (rd_is (some (.int (ps_res (ps_run (σ 2) n fu a X)))) σ) := by
  intro fu
  induction fu with
  | zero => intro a it X w h1 h2; omega
  | succ fu ih =>
    intro a it X w hfu han hit hX
    have hn2 : n ≤ 200 := hn.2
    have h11 : σ 1 1 = nI n := hn.1
    refine rr_iloadn_3 dX1_firstFault_6 ?_
    refine rr_sipush (v := 200) dX1_firstFault_7 (by decide) ?_
    refine rr_icmp_ge 64 dX1_firstFault_10 (by decide) (fun h10 => absurd ((nI_le8 (a := 200) (b := it) (by omega) (by omega)).mp h10) (by omega)) (fun h10 => ?_)
    refine rr_iloadn_1 dX1_firstFault_13 ?_
    refine rr_aloadn_0 dX1_firstFault_14 ?_
    refine rr_geti dX1_firstFault_15 kf_X1_15 (by omega) rfl rfl ?_
    rw [h11]
    refine rr_icmp_ge 64 dX1_firstFault_18 (by decide) (fun h18 => ?_) (fun h18 => ?_)
    · refine rr_bipush (v := (-4)) dX1_firstFault_64 (by decide) ?_
      exact rr_iret dX1_firstFault_66 ⟨by simp [ps_run, (nI_le8 (a := n) (b := a) (by omega) (by omega)).mp h18, ps_res], rfl⟩
    · have hna : ¬ n ≤ a := fun q => h18 ((nI_le8 (by omega) (by omega)).mpr q)
      rcases hl : ps_len (σ 2) n a with _ | l
      · refine rr_aloadn_0 dX1_firstFault_21 ?_
        refine rr_iloadn_1 dX1_firstFault_22 ?_
        refine rr_callViD (c_eoi_n N _ _ hN n hn a (by omega) hl) km_X1_19 rfl rfl (by omega) rfl (Nat.le_of_ble_eq_true rfl) dX1_firstFault_23 ?_
        refine rr_istore_4 dX1_firstFault_26 rfl ?_
        refine rr_aloadn_0 dX1_firstFault_28 ?_
        refine rr_iloadn_1 dX1_firstFault_29 ?_
        refine rr_callViD (c_X1_letterAt N _ _ hN n hn (a) (by omega)) km_X1_23 rfl rfl (by omega) rfl (Nat.le_of_ble_eq_true rfl) dX1_firstFault_30 ?_
        refine rr_bipush (v := 114) dX1_firstFault_33 (by decide) ?_
        refine rr_icmp_ne 41 dX1_firstFault_35 (by decide) (fun h35 => ?_) (fun h35 => ?_)
        · refine rr_iload_4 dX1_firstFault_41 ?_
          refine rr_iconst (v := (-1)) dX1_firstFault_43 (by decide) ?_
          refine rr_icmp_eq 53 dX1_firstFault_44 (by decide) (fun _ => ?_) (fun h44 => absurd h44 (by decide))
          refine rr_iloadn_1 dX1_firstFault_53 ?_
          exact rr_iret dX1_firstFault_54 ⟨by simp [ps_run, hna, hl, ps_res], rfl⟩
        · refine rr_iinc_2 1 dX1_firstFault_38 (by decide) rfl ?_
          refine rr_iload_4 dX1_firstFault_41 ?_
          refine rr_iconst (v := (-1)) dX1_firstFault_43 (by decide) ?_
          refine rr_icmp_eq 53 dX1_firstFault_44 (by decide) (fun _ => ?_) (fun h44 => absurd h44 (by decide))
          refine rr_iloadn_1 dX1_firstFault_53 ?_
          exact rr_iret dX1_firstFault_54 ⟨by simp [ps_run, hna, hl, ps_res], rfl⟩
      · have hlc := ps_len_c hl
        refine rr_aloadn_0 dX1_firstFault_21 ?_
        refine rr_iloadn_1 dX1_firstFault_22 ?_
        refine rr_callViD (c_eoi_s N _ _ hN n hn a (by omega) hl) km_X1_19 rfl rfl (by omega) rfl (Nat.le_of_ble_eq_true rfl) dX1_firstFault_23 ?_
        refine rr_istore_4 dX1_firstFault_26 rfl ?_
        refine rr_aloadn_0 dX1_firstFault_28 ?_
        refine rr_iloadn_1 dX1_firstFault_29 ?_
        refine rr_callViD (c_X1_letterAt N _ _ hN n hn (a) (by omega)) km_X1_23 rfl rfl (by omega) rfl (Nat.le_of_ble_eq_true rfl) dX1_firstFault_30 ?_
        refine rr_bipush (v := 114) dX1_firstFault_33 (by decide) ?_
        refine rr_icmp_ne 41 dX1_firstFault_35 (by decide) (fun h35 => ?_) (fun h35 => ?_)
        · try rw [nI_s X.1]
          refine rr_iload_4 dX1_firstFault_41 ?_
          refine rr_iconst (v := (-1)) dX1_firstFault_43 (by decide) ?_
          refine rr_icmp_eq 53 dX1_firstFault_44 (by decide) (fun h44 => absurd h44 (nI_nm1 (by omega))) (fun h44 => ?_)
          refine rr_iloadn_2 dX1_firstFault_47 ?_
          refine rr_bipush (v := 12) dX1_firstFault_48 (by decide) ?_
          refine rr_icmp_le 55 dX1_firstFault_50 (by decide) (fun h50 => ?_) (fun h50 => ?_)
          · refine rr_iload_4 dX1_firstFault_55 ?_
            refine rr_istoren_1 dX1_firstFault_57 rfl ?_
            refine rr_iinc_3 1 dX1_firstFault_58 (by decide) rfl ?_
            refine rr_goto 6 dX1_firstFault_61 (by decide) ?_
            rw [nI_s it]
            have e9 : ¬ (ps_l (σ 2) n a = 114 ∧ X.1 = 12) := by first | exact fun q => h35 q.1 | exact fun q => absurd ((nI_le8 (b := 12) (by omega) (by omega)).mp h50) (by omega)
            have e8 : ps_run (σ 2) n (fu + 1) a X = ps_run (σ 2) n fu (a + l) (ps_up (σ 2) n a X) := by simp only [ps_run, if_neg hna, hl, if_neg e9]
            rw [e8]
            first | (have e7 := ps_up_1 (X := X) h35; rw [← e7]; exact ih (a + l) (it + 1) _ _ (by omega) (by omega) (by omega) (by rw [e7]; exact (nI_le8 (b := 12) (by omega) (by omega)).mp h50)) | (have e7 := ps_up_0 (X := X) hl h35; rw [← e7]; exact ih (a + l) (it + 1) _ _ (by omega) (by omega) (by omega) (by rw [e7]; exact hX))
          · refine rr_iloadn_1 dX1_firstFault_53 ?_
            exact rr_iret dX1_firstFault_54 ⟨by first | (exact absurd ((nI_le8 (a := X.1) (b := 12) (by omega) (by omega)).mpr hX) h50) | (have h12 : ¬ X.1 + 1 ≤ 12 := fun q => h50 ((nI_le8 (b := 12) (by omega) (by omega)).mpr q); simp [ps_run, hna, hl, ps_res, h35, show X.1 = 12 by omega]), rfl⟩
        · refine rr_iinc_2 1 dX1_firstFault_38 (by decide) rfl ?_
          try rw [nI_s X.1]
          refine rr_iload_4 dX1_firstFault_41 ?_
          refine rr_iconst (v := (-1)) dX1_firstFault_43 (by decide) ?_
          refine rr_icmp_eq 53 dX1_firstFault_44 (by decide) (fun h44 => absurd h44 (nI_nm1 (by omega))) (fun h44 => ?_)
          refine rr_iloadn_2 dX1_firstFault_47 ?_
          refine rr_bipush (v := 12) dX1_firstFault_48 (by decide) ?_
          refine rr_icmp_le 55 dX1_firstFault_50 (by decide) (fun h50 => ?_) (fun h50 => ?_)
          · refine rr_iload_4 dX1_firstFault_55 ?_
            refine rr_istoren_1 dX1_firstFault_57 rfl ?_
            refine rr_iinc_3 1 dX1_firstFault_58 (by decide) rfl ?_
            refine rr_goto 6 dX1_firstFault_61 (by decide) ?_
            rw [nI_s it]
            have e9 : ¬ (ps_l (σ 2) n a = 114 ∧ X.1 = 12) := by first | exact fun q => h35 q.1 | exact fun q => absurd ((nI_le8 (b := 12) (by omega) (by omega)).mp h50) (by omega)
            have e8 : ps_run (σ 2) n (fu + 1) a X = ps_run (σ 2) n fu (a + l) (ps_up (σ 2) n a X) := by simp only [ps_run, if_neg hna, hl, if_neg e9]
            rw [e8]
            first | (have e7 := ps_up_1 (X := X) h35; rw [← e7]; exact ih (a + l) (it + 1) _ _ (by omega) (by omega) (by omega) (by rw [e7]; exact (nI_le8 (b := 12) (by omega) (by omega)).mp h50)) | (have e7 := ps_up_0 (X := X) hl h35; rw [← e7]; exact ih (a + l) (it + 1) _ _ (by omega) (by omega) (by omega) (by rw [e7]; exact hX))
          · refine rr_iloadn_1 dX1_firstFault_53 ?_
            exact rr_iret dX1_firstFault_54 ⟨by first | (exact absurd ((nI_le8 (a := X.1) (b := 12) (by omega) (by omega)).mpr hX) h50) | (have h12 : ¬ X.1 + 1 ≤ 12 := fun q => h50 ((nI_le8 (b := 12) (by omega) (by omega)).mpr q); simp [ps_run, hna, hl, ps_res, h35, show X.1 = 12 by omega]), rfl⟩
set_option maxHeartbeats 4000000 in
set_option maxRecDepth 100000 in
theorem c_X1_firstFault (N d : Nat) (σ : rd_S) (hN : 33 ≤ N) (n : Nat) (hn : ps_at σ n) : rd_T N (d + 4) yX1_firstFault cX1_firstFault 5 (some .int) [.ref 1] σ (rd_is (some (.int (ps_res (ps_run (σ 2) n 201 0 ps_0)))) σ) := by
  refine rd_start RX1 [.ref 1, .retAddr 0, .retAddr 0, .retAddr 0, .retAddr 0] rfl (by decide +kernel) rfl (Nat.le_of_ble_eq_true rfl) ?_
  refine rr_iconst (v := 0) dX1_firstFault_0 (by decide) ?_
  refine rr_istoren_1 dX1_firstFault_1 rfl ?_
  refine rr_iconst (v := 0) dX1_firstFault_2 (by decide) ?_
  refine rr_istoren_2 dX1_firstFault_3 rfl ?_
  refine rr_iconst (v := 0) dX1_firstFault_4 (by decide) ?_
  refine rr_istoren_3 dX1_firstFault_5 rfl ?_
  exact lp_firstFault N d σ hN n hn 201 0 0 ps_0 _ (by have := hn.2; omega) (by omega) (by omega) (by decide)
def ps_wr (σ : rd_S) (X : ps_X) : rd_S := fun a b => if a = 1 then (if b = 2 then X.2.1 else if b = 3 then X.2.2.1 else if b = 4 then nI X.1 else if b = 5 then X.2.2.2 else σ a b) else σ a b
theorem ps_wr_l (σ : rd_S) (X : ps_X) : ps_wr σ X 2 = σ 2 := by funext b; simp [ps_wr]
theorem ps_wr_at {σ : rd_S} {n : Nat} (X : ps_X) (h : ps_at σ n) : ps_at (ps_wr σ X) n := ⟨by simp [ps_wr, h.1], h.2⟩
theorem ps_wr_wr (σ : rd_S) (X Y : ps_X) : ps_wr (ps_wr σ X) Y = ps_wr σ Y := by
  funext a b
  simp only [ps_wr]
  split
  · split
    · rfl
    · split
      · rfl
      · split
        · rfl
        · split
          · rfl
          · rfl
  · rfl
theorem ps_ext {σ f : rd_S} {X : ps_X} (h : ∀ a b, a ≠ 1 → f a b = σ a b) (h2 : f 1 2 = X.2.1) (h3 : f 1 3 = X.2.2.1) (h4 : f 1 4 = nI X.1) (h5 : f 1 5 = X.2.2.2) (h0 : ∀ b, b ≠ 2 → b ≠ 3 → b ≠ 4 → b ≠ 5 → f 1 b = σ 1 b) : f = ps_wr σ X := by
  funext a b
  simp only [ps_wr]
  by_cases ha : a = 1
  · subst ha
    rw [if_pos rfl]
    by_cases b2 : b = 2
    · subst b2; simpa using h2
    · rw [if_neg b2]
      by_cases b3 : b = 3
      · subst b3; simpa using h3
      · rw [if_neg b3]
        by_cases b4 : b = 4
        · subst b4; simpa using h4
        · rw [if_neg b4]
          by_cases b5 : b = 5
          · subst b5; simpa using h5
          · rw [if_neg b5]; exact h0 b b2 b3 b4 b5
  · rw [if_neg ha]; exact h a b ha
set_option maxHeartbeats 4000000 in
set_option maxRecDepth 100000 in
theorem c_X1_readItem (N d : Nat) (σ : rd_S) (hN : 33 ≤ N) (n : Nat) (hn : ps_at σ n) (a : Nat) (ha : a < 900) (X : ps_X) : rd_T N (d + 1) yX1_readItem cX1_readItem 4 none [.ref 1, .int (nI a)] (ps_wr σ X) (rd_is none (ps_wr σ (ps_up (σ 2) n a X))) := by
  refine rd_start RX1 [.ref 1, .int (nI a), .retAddr 0, .retAddr 0] rfl (by decide +kernel) rfl (Nat.le_of_ble_eq_true rfl) ?_
  have hn1 := ps_wr_at X hn
  refine rr_aloadn_0 dX1_readItem_0 ?_
  refine rr_iloadn_1 dX1_readItem_1 ?_
  refine rr_iconst (v := 1) dX1_readItem_2 (by decide) ?_
  refine rr_iadd dX1_readItem_3 ?_
  rw [show nI a + 1 = nI (a + 1) from nI_add a 1]
  refine rr_callViD (c_X1_letterAt N _ _ hN n hn1 (a + 1) (by omega)) km_X1_23 rfl rfl (by omega) rfl (Nat.le_of_ble_eq_true rfl) dX1_readItem_4 ?_
  refine rr_bipush (v := 48) dX1_readItem_7 (by decide) ?_
  refine rr_isub dX1_readItem_9 ?_
  refine rr_istoren_2 dX1_readItem_10 rfl ?_
  refine rr_aloadn_0 dX1_readItem_11 ?_
  refine rr_iloadn_1 dX1_readItem_12 ?_
  refine rr_iconst (v := 3) dX1_readItem_13 (by decide) ?_
  refine rr_iadd dX1_readItem_14 ?_
  rw [show nI a + 3 = nI (a + 3) from nI_add a 3]
  refine rr_callViD (c_X1_letterAt N _ _ hN n hn1 (a + 3) (by omega)) km_X1_23 rfl rfl (by omega) rfl (Nat.le_of_ble_eq_true rfl) dX1_readItem_15 ?_
  refine rr_bipush (v := 48) dX1_readItem_18 (by decide) ?_
  refine rr_isub dX1_readItem_20 ?_
  refine rr_istoren_3 dX1_readItem_21 rfl ?_
  refine rr_aloadn_0 dX1_readItem_22 ?_
  refine rr_iloadn_1 dX1_readItem_23 ?_
  refine rr_callViD (c_X1_letterAt N _ _ hN n hn1 a (by omega)) km_X1_23 rfl rfl (by omega) rfl (Nat.le_of_ble_eq_true rfl) dX1_readItem_24 ?_
  by_cases hs27_0 : ps_l (ps_wr σ X 2) n a = 100
  · rw [hs27_0]
    refine rr_lookup 52 dX1_readItem_27 (by decide) rfl (by decide) ?_
    refine rr_aloadn_0 dX1_readItem_52 ?_
    refine rr_aloadn_0 dX1_readItem_53 ?_
    refine rr_geti dX1_readItem_54 kf_X1_49 (by omega) rfl rfl ?_
    refine rr_iloadn_2 dX1_readItem_57 ?_
    refine rr_iloadn_3 dX1_readItem_58 ?_
    refine rr_callSiD (c_X4_withKind N _ _ _ _ _) km_X1_64 rfl rfl (Nat.le_of_ble_eq_true rfl) dX1_readItem_59 ?_
    refine rr_puti dX1_readItem_62 kf_X1_49 if_1_2 (by omega) rfl rfl ?_
    refine rr_goto 120 dX1_readItem_65 (by decide) ?_
    exact rr_vret dX1_readItem_120 ⟨rfl, by rw [ps_wr_l] at *; apply ps_ext <;> intros <;> simp [rd_u2, ps_wr, ps_up, ps_setp, nI_s, *]⟩
  by_cases hs27_1 : ps_l (ps_wr σ X 2) n a = 112
  · rw [hs27_1]
    refine rr_lookup 68 dX1_readItem_27 (by decide) rfl (by decide) ?_
    refine rr_aloadn_0 dX1_readItem_68 ?_
    refine rr_aloadn_0 dX1_readItem_69 ?_
    refine rr_geti dX1_readItem_70 kf_X1_37 (by omega) rfl rfl ?_
    refine rr_iconst (v := 3) dX1_readItem_73 (by decide) ?_
    refine rr_iconst (v := 2) dX1_readItem_74 (by decide) ?_
    refine rr_iloadn_2 dX1_readItem_75 ?_
    refine rr_imul dX1_readItem_76 ?_
    refine rr_ishl dX1_readItem_77 ?_
    refine rr_iconst (v := (-1)) dX1_readItem_78 (by decide) ?_
    refine rr_ixor dX1_readItem_79 ?_
    refine rr_iand dX1_readItem_80 ?_
    refine rr_iloadn_3 dX1_readItem_81 ?_
    refine rr_iconst (v := 2) dX1_readItem_82 (by decide) ?_
    refine rr_iloadn_2 dX1_readItem_83 ?_
    refine rr_imul dX1_readItem_84 ?_
    refine rr_ishl dX1_readItem_85 ?_
    refine rr_ior dX1_readItem_86 ?_
    refine rr_puti dX1_readItem_87 kf_X1_37 if_1_5 (by omega) rfl rfl ?_
    refine rr_goto 120 dX1_readItem_90 (by decide) ?_
    exact rr_vret dX1_readItem_120 ⟨rfl, by rw [ps_wr_l] at *; apply ps_ext <;> intros <;> simp [rd_u2, ps_wr, ps_up, ps_setp, nI_s, *]⟩
  refine rr_lookup 93 dX1_readItem_27 (off := 66) (by decide) (by simp only [Op.lookupswitch.offset]; rw [if_neg (rd_neI (k := 100) (z := 100) hs27_0 rfl), if_neg (rd_neI (k := 112) (z := 112) hs27_1 rfl)]) (by decide) ?_
  refine rr_aloadn_0 dX1_readItem_93 ?_
  refine rr_dup dX1_readItem_94 rfl ?_
  refine rr_geti dX1_readItem_95 kf_X1_52 (by omega) rfl rfl ?_
  refine rr_iloadn_2 dX1_readItem_98 ?_
  refine rr_iconst (v := 2) dX1_readItem_99 (by decide) ?_
  refine rr_aloadn_0 dX1_readItem_100 ?_
  refine rr_geti dX1_readItem_101 kf_X1_55 (by omega) rfl rfl ?_
  refine rr_imul dX1_readItem_104 ?_
  refine rr_ishl dX1_readItem_105 ?_
  refine rr_ior dX1_readItem_106 ?_
  refine rr_puti dX1_readItem_107 kf_X1_52 if_1_3 (by omega) rfl rfl ?_
  refine rr_aloadn_0 dX1_readItem_110 ?_
  refine rr_dup dX1_readItem_111 rfl ?_
  refine rr_geti dX1_readItem_112 kf_X1_55 (by omega) rfl rfl ?_
  refine rr_iconst (v := 1) dX1_readItem_115 (by decide) ?_
  refine rr_iadd dX1_readItem_116 ?_
  refine rr_puti dX1_readItem_117 kf_X1_55 if_1_4 (by omega) rfl rfl ?_
  exact rr_vret dX1_readItem_120 ⟨rfl, by rw [ps_wr_l] at *; apply ps_ext <;> intros <;> simp [rd_u2, ps_wr, ps_up, ps_setp, nI_s, *]⟩
set_option maxHeartbeats 4000000 in
set_option maxRecDepth 100000 in
theorem lp_readItems (N d : Nat) (σ : rd_S) (hN : 33 ≤ N) (n : Nat) (hn : ps_at σ n) : ∀ (fu a it : Nat) (X Y : ps_X), n < a + fu → a ≤ n → 3 * it ≤ a → ps_run (σ 2) n fu a X = .inr Y → rd_W N (d + 2) RX1 cX1_readItems 3 none 26 [.ref 1, .int (nI a), .int (nI it)] [] (ps_wr σ X) (rd_is none (ps_wr σ Y)) := by
  intro fu
  induction fu with
  | zero => intro a it X Y h1 h2; omega
  | succ fu ih =>
    intro a it X Y hfu han hit hrun
    have hn2 : n ≤ 200 := hn.2
    have h11 : ps_wr σ X 1 1 = nI n := (ps_wr_at X hn).1
    have hn3 := ps_wr_at (ps_up (σ 2) n a X) hn
    refine rr_iloadn_2 dX1_readItems_26 ?_
    refine rr_sipush (v := 200) dX1_readItems_27 (by decide) ?_
    refine rr_icmp_ge 70 dX1_readItems_30 (by decide) (fun h30 => absurd ((nI_le8 (a := 200) (b := it) (by omega) (by omega)).mp h30) (by omega)) (fun h30 => ?_)
    refine rr_iloadn_1 dX1_readItems_33 ?_
    refine rr_aloadn_0 dX1_readItems_34 ?_
    refine rr_geti dX1_readItems_35 kf_X1_15 (by omega) rfl rfl ?_
    rw [h11]
    refine rr_icmp_ge 70 dX1_readItems_38 (by decide) (fun h38 => ?_) (fun h38 => ?_)
    · exact rr_vret dX1_readItems_70 ⟨rfl, by rw [ps_run, if_pos ((nI_le8 (a := n) (b := a) (by omega) (by omega)).mp h38)] at hrun; cases hrun; rfl⟩
    · have hna : ¬ n ≤ a := fun q => h38 ((nI_le8 (by omega) (by omega)).mpr q)
      rw [ps_run, if_neg hna] at hrun
      refine rr_aloadn_0 dX1_readItems_41 ?_
      refine rr_iloadn_1 dX1_readItems_42 ?_
      rcases hl : ps_len (σ 2) n a with _ | l
      · rw [hl] at hrun
        cases hrun
      · have hlc := ps_len_c hl
        rw [hl] at hrun
        refine rr_callVvD (c_X1_readItem N _ _ hN n hn a (by omega) X) km_X1_60 rfl rfl (by omega) rfl (Nat.le_of_ble_eq_true rfl) dX1_readItems_43 ?_
        refine rr_iloadn_1 dX1_readItems_46 ?_
        refine rr_aloadn_0 dX1_readItems_47 ?_
        refine rr_iloadn_1 dX1_readItems_48 ?_
        refine rr_callViD (c_X1_letterAt N _ _ hN n hn3 a (by omega)) km_X1_23 rfl rfl (by omega) rfl (Nat.le_of_ble_eq_true rfl) dX1_readItems_49 ?_
        rw [ps_wr_l]
        refine rr_bipush (v := 114) dX1_readItems_52 (by decide) ?_
        refine rr_icmp_ne 61 dX1_readItems_54 (by decide) (fun h54 => ?_) (fun h54 => ?_)
        · refine rr_iconst (v := 5) dX1_readItems_61 (by decide) ?_
          refine rr_iadd dX1_readItems_62 ?_
          refine rr_istoren_1 dX1_readItems_63 rfl ?_
          refine rr_iinc_2 1 dX1_readItems_64 (by decide) rfl ?_
          refine rr_goto 26 dX1_readItems_67 (by decide) ?_
          rw [nI_s it]
          have e9 : ¬ (ps_l (σ 2) n a = 114 ∧ X.1 = 12) := by intro q; simp only [if_pos q] at hrun; cases hrun
          simp only [if_neg e9] at hrun
          have hl2 := hl
          unfold ps_len at hl2
          first | (rw [show nI a + 3 = nI (a + 3) from nI_add a 3, show a + 3 = a + l by (rw [h54] at hl2; simp at hl2; omega)]; exact ih _ _ _ _ (by omega) (by omega) (by omega) hrun) | (rw [show nI a + 5 = nI (a + 5) from nI_add a 5, show a + 5 = a + l by (simp only [if_neg h54] at hl2; split at hl2 <;> split at hl2 <;> simp at hl2 <;> omega)]; exact ih _ _ _ _ (by omega) (by omega) (by omega) hrun)
        · refine rr_iconst (v := 3) dX1_readItems_57 (by decide) ?_
          refine rr_goto 62 dX1_readItems_58 (by decide) ?_
          refine rr_iadd dX1_readItems_62 ?_
          refine rr_istoren_1 dX1_readItems_63 rfl ?_
          refine rr_iinc_2 1 dX1_readItems_64 (by decide) rfl ?_
          refine rr_goto 26 dX1_readItems_67 (by decide) ?_
          rw [nI_s it]
          have e9 : ¬ (ps_l (σ 2) n a = 114 ∧ X.1 = 12) := by intro q; simp only [if_pos q] at hrun; cases hrun
          simp only [if_neg e9] at hrun
          have hl2 := hl
          unfold ps_len at hl2
          first | (rw [show nI a + 3 = nI (a + 3) from nI_add a 3, show a + 3 = a + l by (rw [h54] at hl2; simp at hl2; omega)]; exact ih _ _ _ _ (by omega) (by omega) (by omega) hrun) | (rw [show nI a + 5 = nI (a + 5) from nI_add a 5, show a + 5 = a + l by (simp only [if_neg h54] at hl2; split at hl2 <;> split at hl2 <;> simp at hl2 <;> omega)]; exact ih _ _ _ _ (by omega) (by omega) (by omega) hrun)
set_option maxHeartbeats 4000000 in
set_option maxRecDepth 100000 in
theorem c_X1_readItems (N d : Nat) (σ : rd_S) (hN : 33 ≤ N) (n : Nat) (hn : ps_at σ n) (Y : ps_X) (hY : ps_run (σ 2) n 201 0 ps_0 = .inr Y) : rd_T N (d + 2) yX1_readItems cX1_readItems 3 none [.ref 1] σ (rd_is none (ps_wr σ Y)) := by
  refine rd_start RX1 [.ref 1, .retAddr 0, .retAddr 0] rfl (by decide +kernel) rfl (Nat.le_of_ble_eq_true rfl) ?_
  refine rr_aloadn_0 dX1_readItems_0 ?_
  refine rr_iconst (v := 0) dX1_readItems_1 (by decide) ?_
  refine rr_puti dX1_readItems_2 kf_X1_49 if_1_2 (by omega) rfl rfl ?_
  refine rr_aloadn_0 dX1_readItems_5 ?_
  refine rr_iconst (v := 0) dX1_readItems_6 (by decide) ?_
  refine rr_puti dX1_readItems_7 kf_X1_52 if_1_3 (by omega) rfl rfl ?_
  refine rr_aloadn_0 dX1_readItems_10 ?_
  refine rr_iconst (v := 0) dX1_readItems_11 (by decide) ?_
  refine rr_puti dX1_readItems_12 kf_X1_55 if_1_4 (by omega) rfl rfl ?_
  refine rr_aloadn_0 dX1_readItems_15 ?_
  refine rr_sipush (v := 228) dX1_readItems_16 (by decide) ?_
  refine rr_puti dX1_readItems_19 kf_X1_37 if_1_5 (by omega) rfl rfl ?_
  refine rr_iconst (v := 0) dX1_readItems_22 (by decide) ?_
  refine rr_istoren_1 dX1_readItems_23 rfl ?_
  refine rr_iconst (v := 0) dX1_readItems_24 (by decide) ?_
  refine rr_istoren_2 dX1_readItems_25 rfl ?_
  rw [show rd_u2 (rd_u2 (rd_u2 (rd_u2 σ 1 2 0) 1 3 0) 1 4 0) 1 5 228 = ps_wr σ ps_0 by apply ps_ext <;> intros <;> first | (simp [rd_u2, ps_0, *]; done) | rfl]
  exact lp_readItems N d σ hN n hn 201 0 0 ps_0 Y (by have := hn.2; omega) (by omega) (by omega) hY
def bc_1 (x : Int32) : Int32 := x - ((x.toUInt32 >>> ((1 : Int32).toUInt32 &&& Int32.toUInt32 31)).toInt32 &&& 1431655765)
def bc_2 (x : Int32) : Int32 := (x &&& 858993459) + ((x.toUInt32 >>> ((2 : Int32).toUInt32 &&& Int32.toUInt32 31)).toInt32 &&& 858993459)
def bc_3 (x : Int32) : Int32 := (x + (x.toUInt32 >>> ((4 : Int32).toUInt32 &&& Int32.toUInt32 31)).toInt32) &&& 252645135
def bc_4 (x : Int32) : Int32 := x + (x.toUInt32 >>> ((8 : Int32).toUInt32 &&& Int32.toUInt32 31)).toInt32
def bc_5 (x : Int32) : Int32 := x + (x.toUInt32 >>> ((16 : Int32).toUInt32 &&& Int32.toUInt32 31)).toInt32
def bc_c (x : Int32) : Int32 := bc_5 (bc_4 (bc_3 (bc_2 (bc_1 x)))) &&& 63
set_option maxHeartbeats 4000000 in
set_option maxRecDepth 100000 in
theorem c_J6_bitCount_0f7a4 (N d : Nat) (σ : rd_S) (x : Int32) : rd_T N (d + 0) yJ6_bitCount_0f7a4 cJ6_bitCount_0f7a4 1 (some .int) [.int x] σ (rd_is (some (.int (bc_c x))) σ) := by
  refine rd_start RJ6 [.int x] rfl (by decide +kernel) rfl (Nat.le_of_ble_eq_true rfl) ?_
  refine rr_iloadn_0 dJ6_bitCount_0f7a4_0 ?_
  refine rr_iloadn_0 dJ6_bitCount_0f7a4_1 ?_
  refine rr_iconst (v := 1) dJ6_bitCount_0f7a4_2 (by decide) ?_
  refine rr_iushr dJ6_bitCount_0f7a4_3 ?_
  refine rr_ldcw dJ6_bitCount_0f7a4_4 kc_J6_265 ?_
  refine rr_iand dJ6_bitCount_0f7a4_7 ?_
  refine rr_isub dJ6_bitCount_0f7a4_8 ?_
  refine rr_istoren_0 dJ6_bitCount_0f7a4_9 rfl ?_
  refine rr_iloadn_0 dJ6_bitCount_0f7a4_10 ?_
  refine rr_ldcw dJ6_bitCount_0f7a4_11 kc_J6_266 ?_
  refine rr_iand dJ6_bitCount_0f7a4_14 ?_
  refine rr_iloadn_0 dJ6_bitCount_0f7a4_15 ?_
  refine rr_iconst (v := 2) dJ6_bitCount_0f7a4_16 (by decide) ?_
  refine rr_iushr dJ6_bitCount_0f7a4_17 ?_
  refine rr_ldcw dJ6_bitCount_0f7a4_18 kc_J6_266 ?_
  refine rr_iand dJ6_bitCount_0f7a4_21 ?_
  refine rr_iadd dJ6_bitCount_0f7a4_22 ?_
  refine rr_istoren_0 dJ6_bitCount_0f7a4_23 rfl ?_
  refine rr_iloadn_0 dJ6_bitCount_0f7a4_24 ?_
  refine rr_iloadn_0 dJ6_bitCount_0f7a4_25 ?_
  refine rr_iconst (v := 4) dJ6_bitCount_0f7a4_26 (by decide) ?_
  refine rr_iushr dJ6_bitCount_0f7a4_27 ?_
  refine rr_iadd dJ6_bitCount_0f7a4_28 ?_
  refine rr_ldcw dJ6_bitCount_0f7a4_29 kc_J6_267 ?_
  refine rr_iand dJ6_bitCount_0f7a4_32 ?_
  refine rr_istoren_0 dJ6_bitCount_0f7a4_33 rfl ?_
  refine rr_iloadn_0 dJ6_bitCount_0f7a4_34 ?_
  refine rr_iloadn_0 dJ6_bitCount_0f7a4_35 ?_
  refine rr_bipush (v := 8) dJ6_bitCount_0f7a4_36 (by decide) ?_
  refine rr_iushr dJ6_bitCount_0f7a4_38 ?_
  refine rr_iadd dJ6_bitCount_0f7a4_39 ?_
  refine rr_istoren_0 dJ6_bitCount_0f7a4_40 rfl ?_
  refine rr_iloadn_0 dJ6_bitCount_0f7a4_41 ?_
  refine rr_iloadn_0 dJ6_bitCount_0f7a4_42 ?_
  refine rr_bipush (v := 16) dJ6_bitCount_0f7a4_43 (by decide) ?_
  refine rr_iushr dJ6_bitCount_0f7a4_45 ?_
  refine rr_iadd dJ6_bitCount_0f7a4_46 ?_
  refine rr_istoren_0 dJ6_bitCount_0f7a4_47 rfl ?_
  refine rr_iloadn_0 dJ6_bitCount_0f7a4_48 ?_
  refine rr_bipush (v := 63) dJ6_bitCount_0f7a4_49 (by decide) ?_
  refine rr_iand dJ6_bitCount_0f7a4_51 ?_
  exact rr_iret dJ6_bitCount_0f7a4_52 ⟨rfl, rfl⟩
def ps_ord (pb : Int32) : Int32 := ((((0 : Int32) ||| ((0 : Int32) <<< ((2 * sd_who pb 0) &&& 31))) ||| ((1 : Int32) <<< ((2 * sd_who pb 1) &&& 31))) ||| ((2 : Int32) <<< ((2 * sd_who pb 2) &&& 31))) ||| ((3 : Int32) <<< ((2 * sd_who pb 3) &&& 31))
def ps_tak (pb : Int32) : Int32 := ((((0 : Int32) ||| ((1 : Int32) <<< (sd_who pb 0 &&& 31))) ||| ((1 : Int32) <<< (sd_who pb 1 &&& 31))) ||| ((1 : Int32) <<< (sd_who pb 2 &&& 31))) ||| ((1 : Int32) <<< (sd_who pb 3 &&& 31))
set_option maxHeartbeats 4000000 in
set_option maxRecDepth 100000 in
theorem c_X1_orderBits (N d : Nat) (σ : rd_S) (hN : 33 ≤ N) : rd_T N (d + 1) yX1_orderBits cX1_orderBits 3 (some .int) [.ref 1] σ (rd_is (some (.int (ps_ord (σ 1 5)))) σ) := by
  refine rd_start RX1 [.ref 1, .retAddr 0, .retAddr 0] rfl (by decide +kernel) rfl (Nat.le_of_ble_eq_true rfl) ?_
  refine rr_iconst (v := 0) dX1_orderBits_0 (by decide) ?_
  refine rr_istoren_1 dX1_orderBits_1 rfl ?_
  refine rr_iconst (v := 0) dX1_orderBits_2 (by decide) ?_
  refine rr_istoren_2 dX1_orderBits_3 rfl ?_
  refine rr_iloadn_2 dX1_orderBits_4 ?_
  refine rr_iconst (v := 4) dX1_orderBits_5 (by decide) ?_
  refine rr_icmp_ge 30 dX1_orderBits_6 (by decide) (fun h6 => absurd h6 (by decide)) (fun _ => ?_)
  refine rr_iloadn_1 dX1_orderBits_9 ?_
  refine rr_iloadn_2 dX1_orderBits_10 ?_
  refine rr_iconst (v := 2) dX1_orderBits_11 (by decide) ?_
  refine rr_aloadn_0 dX1_orderBits_12 ?_
  refine rr_geti dX1_orderBits_13 kf_X1_37 (by omega) rfl rfl ?_
  refine rr_iloadn_2 dX1_orderBits_16 ?_
  refine rr_callSiD (c_X4_pairAt N _ _ _ _) km_X1_40 rfl rfl (Nat.le_of_ble_eq_true rfl) dX1_orderBits_17 ?_
  refine rr_imul dX1_orderBits_20 ?_
  refine rr_ishl dX1_orderBits_21 ?_
  refine rr_ior dX1_orderBits_22 ?_
  refine rr_istoren_1 dX1_orderBits_23 rfl ?_
  refine rr_iincC_2 1 1 dX1_orderBits_24 (by decide) (by decide) rfl ?_
  refine rr_goto 4 dX1_orderBits_27 (by decide) ?_
  refine rr_iloadn_2 dX1_orderBits_4 ?_
  refine rr_iconst (v := 4) dX1_orderBits_5 (by decide) ?_
  refine rr_icmp_ge 30 dX1_orderBits_6 (by decide) (fun h6_1 => absurd h6_1 (by decide)) (fun _ => ?_)
  refine rr_iloadn_1 dX1_orderBits_9 ?_
  refine rr_iloadn_2 dX1_orderBits_10 ?_
  refine rr_iconst (v := 2) dX1_orderBits_11 (by decide) ?_
  refine rr_aloadn_0 dX1_orderBits_12 ?_
  refine rr_geti dX1_orderBits_13 kf_X1_37 (by omega) rfl rfl ?_
  refine rr_iloadn_2 dX1_orderBits_16 ?_
  refine rr_callSiD (c_X4_pairAt N _ _ _ _) km_X1_40 rfl rfl (Nat.le_of_ble_eq_true rfl) dX1_orderBits_17 ?_
  refine rr_imul dX1_orderBits_20 ?_
  refine rr_ishl dX1_orderBits_21 ?_
  refine rr_ior dX1_orderBits_22 ?_
  refine rr_istoren_1 dX1_orderBits_23 rfl ?_
  refine rr_iincC_2 1 2 dX1_orderBits_24 (by decide) (by decide) rfl ?_
  refine rr_goto 4 dX1_orderBits_27 (by decide) ?_
  refine rr_iloadn_2 dX1_orderBits_4 ?_
  refine rr_iconst (v := 4) dX1_orderBits_5 (by decide) ?_
  refine rr_icmp_ge 30 dX1_orderBits_6 (by decide) (fun h6_2 => absurd h6_2 (by decide)) (fun _ => ?_)
  refine rr_iloadn_1 dX1_orderBits_9 ?_
  refine rr_iloadn_2 dX1_orderBits_10 ?_
  refine rr_iconst (v := 2) dX1_orderBits_11 (by decide) ?_
  refine rr_aloadn_0 dX1_orderBits_12 ?_
  refine rr_geti dX1_orderBits_13 kf_X1_37 (by omega) rfl rfl ?_
  refine rr_iloadn_2 dX1_orderBits_16 ?_
  refine rr_callSiD (c_X4_pairAt N _ _ _ _) km_X1_40 rfl rfl (Nat.le_of_ble_eq_true rfl) dX1_orderBits_17 ?_
  refine rr_imul dX1_orderBits_20 ?_
  refine rr_ishl dX1_orderBits_21 ?_
  refine rr_ior dX1_orderBits_22 ?_
  refine rr_istoren_1 dX1_orderBits_23 rfl ?_
  refine rr_iincC_2 1 3 dX1_orderBits_24 (by decide) (by decide) rfl ?_
  refine rr_goto 4 dX1_orderBits_27 (by decide) ?_
  refine rr_iloadn_2 dX1_orderBits_4 ?_
  refine rr_iconst (v := 4) dX1_orderBits_5 (by decide) ?_
  refine rr_icmp_ge 30 dX1_orderBits_6 (by decide) (fun h6_3 => absurd h6_3 (by decide)) (fun _ => ?_)
  refine rr_iloadn_1 dX1_orderBits_9 ?_
  refine rr_iloadn_2 dX1_orderBits_10 ?_
  refine rr_iconst (v := 2) dX1_orderBits_11 (by decide) ?_
  refine rr_aloadn_0 dX1_orderBits_12 ?_
  refine rr_geti dX1_orderBits_13 kf_X1_37 (by omega) rfl rfl ?_
  refine rr_iloadn_2 dX1_orderBits_16 ?_
  refine rr_callSiD (c_X4_pairAt N _ _ _ _) km_X1_40 rfl rfl (Nat.le_of_ble_eq_true rfl) dX1_orderBits_17 ?_
  refine rr_imul dX1_orderBits_20 ?_
  refine rr_ishl dX1_orderBits_21 ?_
  refine rr_ior dX1_orderBits_22 ?_
  refine rr_istoren_1 dX1_orderBits_23 rfl ?_
  refine rr_iincC_2 1 4 dX1_orderBits_24 (by decide) (by decide) rfl ?_
  refine rr_goto 4 dX1_orderBits_27 (by decide) ?_
  refine rr_iloadn_2 dX1_orderBits_4 ?_
  refine rr_iconst (v := 4) dX1_orderBits_5 (by decide) ?_
  refine rr_icmp_ge 30 dX1_orderBits_6 (by decide) (fun _ => ?_) (fun h6_4 => absurd h6_4 (by decide))
  refine rr_iloadn_1 dX1_orderBits_30 ?_
  exact rr_iret dX1_orderBits_31 ⟨rfl, rfl⟩
set_option maxHeartbeats 4000000 in
set_option maxRecDepth 100000 in
theorem c_X1_areApart (N d : Nat) (σ : rd_S) (hN : 33 ≤ N) : rd_T N (d + 1) yX1_areApart cX1_areApart 3 (some .boolean) [.ref 1] σ (rd_is (some (.int (if bc_c (ps_tak (σ 1 5)) = 4 then 1 else 0))) σ) := by
  refine rd_start RX1 [.ref 1, .retAddr 0, .retAddr 0] rfl (by decide +kernel) rfl (Nat.le_of_ble_eq_true rfl) ?_
  refine rr_iconst (v := 0) dX1_areApart_0 (by decide) ?_
  refine rr_istoren_1 dX1_areApart_1 rfl ?_
  refine rr_iconst (v := 0) dX1_areApart_2 (by decide) ?_
  refine rr_istoren_2 dX1_areApart_3 rfl ?_
  refine rr_iloadn_2 dX1_areApart_4 ?_
  refine rr_iconst (v := 4) dX1_areApart_5 (by decide) ?_
  refine rr_icmp_ge 28 dX1_areApart_6 (by decide) (fun h6 => absurd h6 (by decide)) (fun _ => ?_)
  refine rr_iloadn_1 dX1_areApart_9 ?_
  refine rr_iconst (v := 1) dX1_areApart_10 (by decide) ?_
  refine rr_aloadn_0 dX1_areApart_11 ?_
  refine rr_geti dX1_areApart_12 kf_X1_37 (by omega) rfl rfl ?_
  refine rr_iloadn_2 dX1_areApart_15 ?_
  refine rr_callSiD (c_X4_pairAt N _ _ _ _) km_X1_40 rfl rfl (Nat.le_of_ble_eq_true rfl) dX1_areApart_16 ?_
  refine rr_ishl dX1_areApart_19 ?_
  refine rr_ior dX1_areApart_20 ?_
  refine rr_istoren_1 dX1_areApart_21 rfl ?_
  refine rr_iincC_2 1 1 dX1_areApart_22 (by decide) (by decide) rfl ?_
  refine rr_goto 4 dX1_areApart_25 (by decide) ?_
  refine rr_iloadn_2 dX1_areApart_4 ?_
  refine rr_iconst (v := 4) dX1_areApart_5 (by decide) ?_
  refine rr_icmp_ge 28 dX1_areApart_6 (by decide) (fun h6_1 => absurd h6_1 (by decide)) (fun _ => ?_)
  refine rr_iloadn_1 dX1_areApart_9 ?_
  refine rr_iconst (v := 1) dX1_areApart_10 (by decide) ?_
  refine rr_aloadn_0 dX1_areApart_11 ?_
  refine rr_geti dX1_areApart_12 kf_X1_37 (by omega) rfl rfl ?_
  refine rr_iloadn_2 dX1_areApart_15 ?_
  refine rr_callSiD (c_X4_pairAt N _ _ _ _) km_X1_40 rfl rfl (Nat.le_of_ble_eq_true rfl) dX1_areApart_16 ?_
  refine rr_ishl dX1_areApart_19 ?_
  refine rr_ior dX1_areApart_20 ?_
  refine rr_istoren_1 dX1_areApart_21 rfl ?_
  refine rr_iincC_2 1 2 dX1_areApart_22 (by decide) (by decide) rfl ?_
  refine rr_goto 4 dX1_areApart_25 (by decide) ?_
  refine rr_iloadn_2 dX1_areApart_4 ?_
  refine rr_iconst (v := 4) dX1_areApart_5 (by decide) ?_
  refine rr_icmp_ge 28 dX1_areApart_6 (by decide) (fun h6_2 => absurd h6_2 (by decide)) (fun _ => ?_)
  refine rr_iloadn_1 dX1_areApart_9 ?_
  refine rr_iconst (v := 1) dX1_areApart_10 (by decide) ?_
  refine rr_aloadn_0 dX1_areApart_11 ?_
  refine rr_geti dX1_areApart_12 kf_X1_37 (by omega) rfl rfl ?_
  refine rr_iloadn_2 dX1_areApart_15 ?_
  refine rr_callSiD (c_X4_pairAt N _ _ _ _) km_X1_40 rfl rfl (Nat.le_of_ble_eq_true rfl) dX1_areApart_16 ?_
  refine rr_ishl dX1_areApart_19 ?_
  refine rr_ior dX1_areApart_20 ?_
  refine rr_istoren_1 dX1_areApart_21 rfl ?_
  refine rr_iincC_2 1 3 dX1_areApart_22 (by decide) (by decide) rfl ?_
  refine rr_goto 4 dX1_areApart_25 (by decide) ?_
  refine rr_iloadn_2 dX1_areApart_4 ?_
  refine rr_iconst (v := 4) dX1_areApart_5 (by decide) ?_
  refine rr_icmp_ge 28 dX1_areApart_6 (by decide) (fun h6_3 => absurd h6_3 (by decide)) (fun _ => ?_)
  refine rr_iloadn_1 dX1_areApart_9 ?_
  refine rr_iconst (v := 1) dX1_areApart_10 (by decide) ?_
  refine rr_aloadn_0 dX1_areApart_11 ?_
  refine rr_geti dX1_areApart_12 kf_X1_37 (by omega) rfl rfl ?_
  refine rr_iloadn_2 dX1_areApart_15 ?_
  refine rr_callSiD (c_X4_pairAt N _ _ _ _) km_X1_40 rfl rfl (Nat.le_of_ble_eq_true rfl) dX1_areApart_16 ?_
  refine rr_ishl dX1_areApart_19 ?_
  refine rr_ior dX1_areApart_20 ?_
  refine rr_istoren_1 dX1_areApart_21 rfl ?_
  refine rr_iincC_2 1 4 dX1_areApart_22 (by decide) (by decide) rfl ?_
  refine rr_goto 4 dX1_areApart_25 (by decide) ?_
  refine rr_iloadn_2 dX1_areApart_4 ?_
  refine rr_iconst (v := 4) dX1_areApart_5 (by decide) ?_
  refine rr_icmp_ge 28 dX1_areApart_6 (by decide) (fun _ => ?_) (fun h6_4 => absurd h6_4 (by decide))
  refine rr_iloadn_1 dX1_areApart_28 ?_
  refine rr_callSiD (c_J6_bitCount_0f7a4 N _ _ _) km_X1_44 rfl rfl (Nat.le_of_ble_eq_true rfl) dX1_areApart_29 ?_
  refine rr_iconst (v := 4) dX1_areApart_32 (by decide) ?_
  refine rr_icmp_ne 40 dX1_areApart_33 (by decide) (fun h33 => ?_) (fun h33 => ?_)
  · refine rr_iconst (v := 0) dX1_areApart_40 (by decide) ?_
    exact rr_zret dX1_areApart_41 (by decide) ⟨by simp_all [ps_tak], rfl⟩
  · refine rr_iconst (v := 1) dX1_areApart_36 (by decide) ?_
    refine rr_goto 41 dX1_areApart_37 (by decide) ?_
    exact rr_zret dX1_areApart_41 (by decide) ⟨by simp_all [ps_tak], rfl⟩
set_option maxHeartbeats 4000000 in
set_option maxRecDepth 100000 in
theorem c_tells_n (N d : Nat) (σ : rd_S) (hN : 33 ≤ N) (n : Nat) (hn : ps_at σ n) (h : n = 0 ∨ ∃ a, ps_run (σ 2) n 201 0 ps_0 = .inl a) : rd_T N (d + 5) yX1_tellsDance cX1_tellsDance 1 (some .boolean) [.ref 1] σ (rd_is (some (.int 0)) σ) := by
  refine rd_start RX1 [.ref 1] rfl (by decide +kernel) rfl (Nat.le_of_ble_eq_true rfl) ?_
  have h11 := hn.1
  have hn2 := hn.2
  refine rr_aloadn_0 dX1_tellsDance_0 ?_
  refine rr_geti dX1_tellsDance_1 kf_X1_15 (by omega) rfl rfl ?_
  rw [h11]
  refine rr_if_eq 16 dX1_tellsDance_4 (by decide) (fun h4 => ?_) (fun h4 => ?_)
  · refine rr_iconst (v := 0) dX1_tellsDance_16 (by decide) ?_
    exact rr_zret dX1_tellsDance_17 (by decide) ⟨rfl, rfl⟩
  · refine rr_aloadn_0 dX1_tellsDance_7 ?_
    refine rr_callViD (c_X1_firstFault N _ _ hN n hn) km_X1_26 rfl rfl (by omega) rfl (Nat.le_of_ble_eq_true rfl) dX1_tellsDance_8 ?_
    refine rr_bipush (v := (-4)) dX1_tellsDance_11 (by decide) ?_
    refine rr_icmp_eq 18 dX1_tellsDance_13 (by decide) (fun h13 => by (rcases h with h | ⟨a, h⟩; { exact absurd (by rw [h]; rfl) h4 }; { rw [h] at h13; exact absurd h13 (fun e => nI_pos (n := a) (by have := ps_run_lt h; omega) (by rw [show nI a = -4 from e]; decide)) })) (fun h13 => ?_)
    refine rr_iconst (v := 0) dX1_tellsDance_16 (by decide) ?_
    exact rr_zret dX1_tellsDance_17 (by decide) ⟨rfl, rfl⟩
set_option maxHeartbeats 4000000 in
set_option maxRecDepth 100000 in
theorem c_tells_s (N d : Nat) (σ : rd_S) (hN : 33 ≤ N) (n : Nat) (hn : ps_at σ n) (h0 : n ≠ 0) (Y : ps_X) (h : ps_run (σ 2) n 201 0 ps_0 = .inr Y) : rd_T N (d + 5) yX1_tellsDance cX1_tellsDance 1 (some .boolean) [.ref 1] σ (rd_is (some (.int (if bc_c (ps_tak Y.2.2.2) = 4 then 1 else 0))) (ps_wr σ Y)) := by
  refine rd_start RX1 [.ref 1] rfl (by decide +kernel) rfl (Nat.le_of_ble_eq_true rfl) ?_
  have h11 := hn.1
  have hn2 := hn.2
  refine rr_aloadn_0 dX1_tellsDance_0 ?_
  refine rr_geti dX1_tellsDance_1 kf_X1_15 (by omega) rfl rfl ?_
  rw [h11]
  refine rr_if_eq 16 dX1_tellsDance_4 (by decide) (fun h4 => absurd h4 (nI_ne0 (by omega) (by omega))) (fun h4 => ?_)
  refine rr_aloadn_0 dX1_tellsDance_7 ?_
  refine rr_callViD (c_X1_firstFault N _ _ hN n hn) km_X1_26 rfl rfl (by omega) rfl (Nat.le_of_ble_eq_true rfl) dX1_tellsDance_8 ?_
  rw [h]
  refine rr_bipush (v := (-4)) dX1_tellsDance_11 (by decide) ?_
  refine rr_icmp_eq 18 dX1_tellsDance_13 (by decide) (fun h13 => ?_) (fun h13 => absurd rfl h13)
  refine rr_aloadn_0 dX1_tellsDance_18 ?_
  refine rr_callVvD (c_X1_readItems N _ _ hN n hn Y h) km_X1_30 rfl rfl (by omega) rfl (Nat.le_of_ble_eq_true rfl) dX1_tellsDance_19 ?_
  refine rr_aloadn_0 dX1_tellsDance_22 ?_
  refine rr_callViD (c_X1_areApart N _ _ hN) km_X1_33 rfl rfl (by omega) rfl (Nat.le_of_ble_eq_true rfl) dX1_tellsDance_23 ?_
  exact rr_zret dX1_tellsDance_26 (by split <;> decide) ⟨by simp [ps_wr], rfl⟩
