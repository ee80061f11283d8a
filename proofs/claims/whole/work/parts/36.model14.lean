/-! ===== the reference: odds ===== -/
theorem od_bit : ∀ s, s < 128 → ∀ k, k < 7 → (nI s >>> (nI k &&& 31)) &&& 1 = nI (s / 2 ^ k % 2) := by decide +kernel
theorem od_shl : ∀ k, k < 8 → (1 : Int32) <<< (nI k &&& 31) = nI (2 ^ k) := by decide +kernel
def od (kb fg : Int32) (x s : Nat) : Nat → Nat → Nat → sd_D → Nat × sd_D
  | 0, _, a, D => (a, D)
  | m + 1, k, a, D => if s / 2 ^ k % 2 = 1 then od kb fg x s m (k + 1) (a * x) (sr_rest D kb) else od kb fg x s m (k + 1) (a * (10 - x)) ((sd_st D (sd_who fg (nI k)) kb).getD (sr_rest D kb))
theorem od_le (kb fg : Int32) {x : Nat} (s : Nat) (hx : x ≤ 10) : ∀ m k a D, (od kb fg x s m k a D).1 ≤ a * 10 ^ m
  | 0, _, a, _ => by simp [od]
  | m + 1, k, a, D => by
    unfold od
    have e : a * 10 ^ (m + 1) = a * 10 * 10 ^ m := by rw [Nat.pow_succ, Nat.mul_assoc, Nat.mul_comm 10]
    rw [e]
    split
    · exact Nat.le_trans (od_le kb fg s hx m (k + 1) _ _) (Nat.mul_le_mul_right _ (Nat.mul_le_mul_left _ hx))
    · exact Nat.le_trans (od_le kb fg s hx m (k + 1) _ _) (Nat.mul_le_mul_right _ (Nat.mul_le_mul_left _ (by omega)))
theorem nI_ten {x : Nat} (h : x ≤ 10) : (10 : Int32) - nI x = nI (10 - x) := by
  rcases (show x = 0 ∨ x = 1 ∨ x = 2 ∨ x = 3 ∨ x = 4 ∨ x = 5 ∨ x = 6 ∨ x = 7 ∨ x = 8 ∨ x = 9 ∨ x = 10 by omega) with rfl | rfl | rfl | rfl | rfl | rfl | rfl | rfl | rfl | rfl | rfl <;> decide
theorem wf_rst {c : Nat} {D : sd_D} (h : wf c D) (kb : Int32) : sd_st D 3 kb = some (sr_rest D kb) := by rw [sr_rest, wf_rest h kb]; rfl
set_option maxHeartbeats 4000000 in
set_option maxRecDepth 100000 in
theorem lp_odds1 (N d : Nat) (hN : 49 ≤ N) (σ : rd_S) (A : sd_D) (kb fg : Int32) (fc : Nat) (hk : kd_at σ kb) (hr : rw_at σ fg fc) (x s mn : Nat) (hx : x ≤ 10) (hs : s < 128) (hm7 : mn ≤ 7) (hmf : mn ≤ fc) (x1 x3 : Value) (x5 : Int32) (Q : Option Value → rd_S → Prop) : ∀ (m k a c : Nat) (D : sd_D) (n : Int32) (z9 : Value), k + m = mn → wf c D → c + m < 1000000 → (∀ (x8 : Int32) (z9 : Value) (n1 : Int32), rd_W N (d + 3) RX5 cX5_odds 10 (some .int) 150 [.ref 33, x1, .int (nI x), x3, .int (nI mn), .int x5, .int (nI s), .int (nI (od kb fg x s m k a D).1), .int x8, z9] [] (ms σ (od kb fg x s m k a D).2 A n1) Q) → rd_W N (d + 3) RX5 cX5_odds 10 (some .int) 76 [.ref 33, x1, .int (nI x), x3, .int (nI mn), .int x5, .int (nI s), .int (nI a), .int (nI k), z9] [] (ms σ D A n) Q := by
  intro m
  induction m with
  | zero =>
    intro k a c D n z9 hkm hw hc K
    obtain rfl : k = mn := hkm
    refine rr_iload_8 dX5_odds_76 ?_
    refine rr_iload_4 dX5_odds_78 ?_
    refine rr_icmp_ge 150 dX5_odds_80 (by decide) (fun h80 => ?_) (fun h80 => absurd ((nI_lek (by omega) (by omega)).mpr (Nat.le_refl _)) h80)
    exact K _ _ _
  | succ m ih =>
    intro k a c D n z9 hkm hw hc K
    have h12 := hr.2.1
    have eb := od_bit s hs k (by omega)
    have hR := wf_rst hw kb
    have hWR := wf_go hw (by omega) hR
    have hrk : ms σ D A n 36 k = sd_who fg (nI k) := by rw [ms_ne (by decide) (by decide) (by omega)]; exact hr.2.2 k (by omega)
    by_cases hb : s / 2 ^ k % 2 = 1
    · have e9 : od kb fg x s (m + 1) k a D = od kb fg x s m (k + 1) (a * x) (sr_rest D kb) := by simp [od, hb]
      rw [e9] at K
      refine rr_iload_8 dX5_odds_76 ?_
      refine rr_iload_4 dX5_odds_78 ?_
      refine rr_icmp_ge 150 dX5_odds_80 (by decide) (fun h80 => absurd ((nI_lek (by omega) (by omega)).mp h80) (by omega)) (fun h80 => ?_)
      refine rr_iload_6 dX5_odds_83 ?_
      refine rr_iload_8 dX5_odds_85 ?_
      refine rr_ishr dX5_odds_87 ?_
      refine rr_iconst (v := 1) dX5_odds_88 (by decide) ?_
      refine rr_iand dX5_odds_89 ?_
      refine rr_iconst (v := 1) dX5_odds_90 (by decide) ?_
      rw [eb]
      refine rr_icmp_ne 98 dX5_odds_91 (by decide) (fun h91 => absurd (by rw [hb]; rfl) h91) (fun h91 => ?_)
      refine rr_iconst (v := 1) dX5_odds_94 (by decide) ?_
      refine rr_goto 99 dX5_odds_95 (by decide) ?_
      refine rr_istore_9 dX5_odds_99 rfl ?_
      refine rr_iload_7 dX5_odds_101 ?_
      refine rr_iload_9 dX5_odds_103 ?_
      refine rr_if_eq 112 dX5_odds_105 (by decide) (fun h105 => absurd h105 (by decide)) (fun _ => ?_)
      refine rr_iloadn_2 dX5_odds_108 ?_
      refine rr_goto 116 dX5_odds_109 (by decide) ?_
      refine rr_imul dX5_odds_116 ?_
      rw [show nI a * nI x = nI (a * x) from pk_mul a x]
      refine rr_istore_7 dX5_odds_117 rfl ?_
      refine rr_iload_9 dX5_odds_119 ?_
      refine rr_if_ne 138 dX5_odds_121 (by decide) (fun _ => ?_) (fun h121 => absurd h121 (by decide))
      refine rr_aloadn_0 dX5_odds_138 ?_
      refine rr_iconst (v := 3) dX5_odds_139 (by decide) ?_
      refine rr_callViD (c_dances_s N _ σ hN c (by omega) D A n kb hw hk 3 (Or.inr (Or.inr (Or.inr rfl))) hR) km_X5_144 rfl rfl (by omega) rfl (Nat.le_of_ble_eq_true rfl) dX5_odds_140 ?_
      refine rr_pop dX5_odds_143 rfl ?_
      refine rr_iinc_8 1 dX5_odds_144 (by decide) rfl ?_
      refine rr_goto 76 dX5_odds_147 (by decide) ?_
      rw [nI_s k]
      exact ih (k + 1) _ (c + 1) _ _ _ (by omega) hWR (by omega) K
    · rcases hst : sd_st D (sd_who fg (nI k)) kb with _ | E
      · have e9 : od kb fg x s (m + 1) k a D = od kb fg x s m (k + 1) (a * (10 - x)) (sr_rest D kb) := by simp [od, hb, hst]
        rw [e9] at K
        refine rr_iload_8 dX5_odds_76 ?_
        refine rr_iload_4 dX5_odds_78 ?_
        refine rr_icmp_ge 150 dX5_odds_80 (by decide) (fun h80 => absurd ((nI_lek (by omega) (by omega)).mp h80) (by omega)) (fun h80 => ?_)
        refine rr_iload_6 dX5_odds_83 ?_
        refine rr_iload_8 dX5_odds_85 ?_
        refine rr_ishr dX5_odds_87 ?_
        refine rr_iconst (v := 1) dX5_odds_88 (by decide) ?_
        refine rr_iand dX5_odds_89 ?_
        refine rr_iconst (v := 1) dX5_odds_90 (by decide) ?_
        rw [eb]
        refine rr_icmp_ne 98 dX5_odds_91 (by decide) (fun h91 => ?_) (fun h91 => absurd ((nI_eq8 (b := 1) (by omega) (by omega)).mp h91) hb)
        refine rr_iconst (v := 0) dX5_odds_98 (by decide) ?_
        refine rr_istore_9 dX5_odds_99 rfl ?_
        refine rr_iload_7 dX5_odds_101 ?_
        refine rr_iload_9 dX5_odds_103 ?_
        refine rr_if_eq 112 dX5_odds_105 (by decide) (fun _ => ?_) (fun h105 => absurd h105 (by decide))
        refine rr_bipush (v := 10) dX5_odds_112 (by decide) ?_
        refine rr_iloadn_2 dX5_odds_114 ?_
        refine rr_isub dX5_odds_115 ?_
        refine rr_imul dX5_odds_116 ?_
        rw [nI_ten hx, show nI a * nI (10 - x) = nI (a * (10 - x)) from pk_mul a (10 - x)]
        refine rr_istore_7 dX5_odds_117 rfl ?_
        refine rr_iload_9 dX5_odds_119 ?_
        refine rr_if_ne 138 dX5_odds_121 (by decide) (fun h121 => absurd h121 (by decide)) (fun _ => ?_)
        refine rr_aloadn_0 dX5_odds_124 ?_
        refine rr_aloadn_0 dX5_odds_125 ?_
        refine rr_getr 36 dX5_odds_126 kf_X5_16 (by omega) rfl rfl rfl ?_
        refine rr_iload_8 dX5_odds_129 ?_
        refine rr_iald (k) dX5_odds_131 (by omega) rfl rfl (show k < 12 by omega) ?_
        rw [hrk]
        refine rr_callViD (c_dances_n N _ σ hN c (by omega) D A n kb hw hk _ (fg_who _ _) hst) km_X5_144 rfl rfl (by omega) rfl (Nat.le_of_ble_eq_true rfl) dX5_odds_132 ?_
        refine rr_if_ne 144 dX5_odds_135 (by decide) (fun h135 => absurd h135 (by decide)) (fun _ => ?_)
        refine rr_aloadn_0 dX5_odds_138 ?_
        refine rr_iconst (v := 3) dX5_odds_139 (by decide) ?_
        refine rr_callViD (c_dances_s N _ σ hN c (by omega) D A 0 kb hw hk 3 (Or.inr (Or.inr (Or.inr rfl))) hR) km_X5_144 rfl rfl (by omega) rfl (Nat.le_of_ble_eq_true rfl) dX5_odds_140 ?_
        refine rr_pop dX5_odds_143 rfl ?_
        refine rr_iinc_8 1 dX5_odds_144 (by decide) rfl ?_
        refine rr_goto 76 dX5_odds_147 (by decide) ?_
        rw [nI_s k]
        exact ih (k + 1) _ (c + 1) _ _ _ (by omega) hWR (by omega) K
      · have e9 : od kb fg x s (m + 1) k a D = od kb fg x s m (k + 1) (a * (10 - x)) E := by simp [od, hb, hst]
        rw [e9] at K
        refine rr_iload_8 dX5_odds_76 ?_
        refine rr_iload_4 dX5_odds_78 ?_
        refine rr_icmp_ge 150 dX5_odds_80 (by decide) (fun h80 => absurd ((nI_lek (by omega) (by omega)).mp h80) (by omega)) (fun h80 => ?_)
        refine rr_iload_6 dX5_odds_83 ?_
        refine rr_iload_8 dX5_odds_85 ?_
        refine rr_ishr dX5_odds_87 ?_
        refine rr_iconst (v := 1) dX5_odds_88 (by decide) ?_
        refine rr_iand dX5_odds_89 ?_
        refine rr_iconst (v := 1) dX5_odds_90 (by decide) ?_
        rw [eb]
        refine rr_icmp_ne 98 dX5_odds_91 (by decide) (fun h91 => ?_) (fun h91 => absurd ((nI_eq8 (b := 1) (by omega) (by omega)).mp h91) hb)
        refine rr_iconst (v := 0) dX5_odds_98 (by decide) ?_
        refine rr_istore_9 dX5_odds_99 rfl ?_
        refine rr_iload_7 dX5_odds_101 ?_
        refine rr_iload_9 dX5_odds_103 ?_
        refine rr_if_eq 112 dX5_odds_105 (by decide) (fun _ => ?_) (fun h105 => absurd h105 (by decide))
        refine rr_bipush (v := 10) dX5_odds_112 (by decide) ?_
        refine rr_iloadn_2 dX5_odds_114 ?_
        refine rr_isub dX5_odds_115 ?_
        refine rr_imul dX5_odds_116 ?_
        rw [nI_ten hx, show nI a * nI (10 - x) = nI (a * (10 - x)) from pk_mul a (10 - x)]
        refine rr_istore_7 dX5_odds_117 rfl ?_
        refine rr_iload_9 dX5_odds_119 ?_
        refine rr_if_ne 138 dX5_odds_121 (by decide) (fun h121 => absurd h121 (by decide)) (fun _ => ?_)
        refine rr_aloadn_0 dX5_odds_124 ?_
        refine rr_aloadn_0 dX5_odds_125 ?_
        refine rr_getr 36 dX5_odds_126 kf_X5_16 (by omega) rfl rfl rfl ?_
        refine rr_iload_8 dX5_odds_129 ?_
        refine rr_iald (k) dX5_odds_131 (by omega) rfl rfl (show k < 12 by omega) ?_
        rw [hrk]
        refine rr_callViD (c_dances_s N _ σ hN c (by omega) D A n kb hw hk _ (fg_who _ _) hst) km_X5_144 rfl rfl (by omega) rfl (Nat.le_of_ble_eq_true rfl) dX5_odds_132 ?_
        refine rr_if_ne 144 dX5_odds_135 (by decide) (fun _ => ?_) (fun h135 => absurd h135 (by decide))
        refine rr_iinc_8 1 dX5_odds_144 (by decide) rfl ?_
        refine rr_goto 76 dX5_odds_147 (by decide) ?_
        rw [nI_s k]
        exact ih (k + 1) _ (c + 1) _ _ _ (by omega) (wf_go hw (by omega) hst) (by omega) K
def od_s (kb fg : Int32) (x : Nat) (D : sd_D) (mn : Nat) : Nat → Nat → Nat → Nat
  | 0, _, a => a
  | m + 1, s, a => od_s kb fg x D mn m (s + 1) (a + if (od kb fg x s mn 0 1 D).2.2.2.1 = 0 then (od kb fg x s mn 0 1 D).1 else 0)
theorem od_s_le (kb fg : Int32) {x : Nat} (D : sd_D) {mn : Nat} (hx : x ≤ 10) (hmn : mn ≤ 7) : ∀ m s a, od_s kb fg x D mn m s a ≤ a + m * 10000000
  | 0, _, a => by simp [od_s]
  | m + 1, s, a => by
    unfold od_s
    have h1 := od_s_le kb fg D hx hmn m (s + 1) (a + if (od kb fg x s mn 0 1 D).2.2.2.1 = 0 then (od kb fg x s mn 0 1 D).1 else 0)
    have h2 := od_le kb fg s hx mn 0 1 D
    have h3 : 10 ^ mn ≤ 10 ^ 7 := Nat.pow_le_pow_right (by decide) hmn
    have h3 : 10 ^ mn ≤ 10000000 := h3
    have h4 : (if (od kb fg x s mn 0 1 D).2.2.2.1 = 0 then (od kb fg x s mn 0 1 D).1 else 0) ≤ 10000000 := by split <;> omega
    generalize (if (od kb fg x s mn 0 1 D).2.2.2.1 = 0 then (od kb fg x s mn 0 1 D).1 else 0) = y at h1 h4 ⊢
    omega
def od_r (a b : Nat) (q : Int32) : Nat := (if q = 0 then a else b) / Nat.gcd a b
set_option maxHeartbeats 4000000 in
set_option maxRecDepth 100000 in
theorem lp_modds (N d : Nat) (hN : 49 ≤ N) (σ : rd_S) (c : Nat) (hc : c + 100 < 1000000) (D : sd_D) (kb fg : Int32) (fc : Nat) (hw : wf c D) (hk : kd_at σ kb) (hr : rw_at σ fg fc) (hD : md_at σ D) (x mn : Nat) (hx : x ≤ 10) (hm7 : mn ≤ 7) (hmf : mn ≤ fc) (x1 : Value) (q : Int32) : ∀ (m s a : Nat) (n0 : Int32) (z7 z8 z9 : Value), s + m = 2 ^ mn → a ≤ s * 10000000 → rd_W N (d + 3) RX5 cX5_odds 10 (some .int) 61 [.ref 33, x1, .int (nI x), .int q, .int (nI mn), .int (nI a), .int (nI s), z7, z8, z9] [] (ms σ D D n0) (fun r s2 => r = some (.int (nI (od_r (od_s kb fg x D mn m s a) (10 ^ mn) q))) ∧ mq_eq s2 σ) := by
  have h2 : 2 ^ mn ≤ 2 ^ 7 := Nat.pow_le_pow_right (by decide) hm7
  have h2 : 2 ^ mn ≤ 128 := h2
  have hT : 10 ^ mn ≤ 10 ^ 7 := Nat.pow_le_pow_right (by decide) hm7
  have hT : 10 ^ mn ≤ 10000000 := hT
  have hTp : 0 < 10 ^ mn := Nat.pow_pos (by decide)
  have hsh := od_shl mn (by omega)
  intro m
  induction m with
  | zero =>
    intro s a n0 z7 z8 z9 hm ha
    have eA : (nI a).toInt.natAbs = a := by rw [nI_toInt (by omega)]; rfl
    have hg : 0 < Nat.gcd a (10 ^ mn) := Nat.gcd_pos_of_pos_right _ hTp
    have hgl : Nat.gcd a (10 ^ mn) ≤ 10 ^ mn := Nat.gcd_le_right _ hTp
    refine rr_iload_6 dX5_odds_61 ?_
    refine rr_iconst (v := 1) dX5_odds_63 (by decide) ?_
    refine rr_iload_4 dX5_odds_64 ?_
    refine rr_ishl dX5_odds_66 ?_
    rw [hsh]
    refine rr_icmp_ge 181 dX5_odds_67 (by decide) (fun h67 => ?_) (fun h67 => absurd ((nI_leI (by omega) (by omega)).mpr (by omega)) h67)
    refine rr_bipush (v := 10) dX5_odds_181 (by decide) ?_
    refine rr_iload_4 dX5_odds_183 ?_
    refine rr_callSiD (c_X5_rowsOf N _ _ 10 mn (by omega)) km_X5_156 rfl rfl (Nat.le_of_ble_eq_true rfl) dX5_odds_185 ?_
    refine rr_istore_6 dX5_odds_188 rfl ?_
    refine rr_iload_5 dX5_odds_190 ?_
    refine rr_iload_6 dX5_odds_192 ?_
    refine rr_callSiD (c_X5_common N _ _ (nI a) (10 ^ mn) (by rw [nI_toInt (by omega)]; omega) (by omega)) km_X5_192 rfl rfl (Nat.le_of_ble_eq_true rfl) dX5_odds_194 ?_
    rw [eA]
    refine rr_istore_7 dX5_odds_197 rfl ?_
    refine rr_iloadn_3 dX5_odds_199 ?_
    refine rr_if_ne 211 dX5_odds_200 (by decide) (fun h200 => ?_) (fun h200 => ?_)
    · refine rr_iload_6 dX5_odds_211 ?_
      refine rr_iload_7 dX5_odds_213 ?_
      refine rr_idiv dX5_odds_215 (nI_ne0 hg (by omega)) ?_
      exact rr_iret dX5_odds_216 ⟨by first | (rw [pk_div (by omega) hg (by omega)]; simp only [od_s, od_r]; rw [if_pos h200]; done) | (rw [pk_div (by omega) hg (by omega)]; simp only [od_s, od_r]; rw [if_neg h200]; done), mq_ms (mq_eq.refl _) hD⟩
    · refine rr_iload_5 dX5_odds_203 ?_
      refine rr_iload_7 dX5_odds_205 ?_
      refine rr_idiv dX5_odds_207 (nI_ne0 hg (by omega)) ?_
      refine rr_goto 216 dX5_odds_208 (by decide) ?_
      exact rr_iret dX5_odds_216 ⟨by first | (rw [pk_div (by omega) hg (by omega)]; simp only [od_s, od_r]; rw [if_pos h200]; done) | (rw [pk_div (by omega) hg (by omega)]; simp only [od_s, od_r]; rw [if_neg h200]; done), mq_ms (mq_eq.refl _) hD⟩
  | succ m ih =>
    intro s a n0 z7 z8 z9 hm ha
    have hle := od_le kb fg s hx mn 0 1 D
    have hP : od_s kb fg x D mn (m + 1) s a = od_s kb fg x D mn m (s + 1) (a + if (od kb fg x s mn 0 1 D).2.2.2.1 = 0 then (od kb fg x s mn 0 1 D).1 else 0) := rfl
    refine rr_iload_6 dX5_odds_61 ?_
    refine rr_iconst (v := 1) dX5_odds_63 (by decide) ?_
    refine rr_iload_4 dX5_odds_64 ?_
    refine rr_ishl dX5_odds_66 ?_
    rw [hsh]
    refine rr_icmp_ge 181 dX5_odds_67 (by decide) (fun h67 => absurd ((nI_leI (by omega) (by omega)).mp h67) (by omega)) (fun h67 => ?_)
    refine rr_iconst (v := 1) dX5_odds_70 (by decide) ?_
    refine rr_istore_7 dX5_odds_71 rfl ?_
    refine rr_iconst (v := 0) dX5_odds_73 (by decide) ?_
    refine rr_istore_8 dX5_odds_74 rfl ?_
    refine lp_odds1 N d hN σ D kb fg fc hk hr x s mn hx (by omega) hm7 hmf _ _ _ _ mn 0 1 c D n0 _ (by omega) hw (by omega) (fun x8 y9 n1 => ?_)
    generalize od kb fg x s mn 0 1 D = o at hP hle ⊢
    obtain ⟨w, E⟩ := o
    dsimp only at hP hle ⊢
    rw [hP]
    refine rr_iload_5 dX5_odds_150 ?_
    refine rr_aloadn_0 dX5_odds_152 ?_
    refine rr_getr 37 dX5_odds_153 kf_X5_19 (by omega) rfl rfl rfl ?_
    refine rr_bipush (v := 8) dX5_odds_156 (by decide) ?_
    refine rr_iald (8) dX5_odds_158 (by omega) rfl rfl (by decide) ?_
    rw [g8_ms]
    by_cases hz : E.2.2.1 = 0
    · refine rr_if_ne 167 dX5_odds_159 (by decide) (fun h159 => absurd hz h159) (fun h159 => ?_)
      refine rr_iload_7 dX5_odds_162 ?_
      refine rr_goto 168 dX5_odds_164 (by decide) ?_
      refine rr_iadd dX5_odds_168 ?_
      refine rr_istore_5 dX5_odds_169 rfl ?_
      refine rr_aloadn_0 dX5_odds_171 ?_
      refine rr_callVvD (c_tb N _ _ hN E D n1) km_X5_147 rfl rfl (by omega) rfl (Nat.le_of_ble_eq_true rfl) dX5_odds_172 ?_
      refine rr_iinc_6 1 dX5_odds_175 (by decide) rfl ?_
      refine rr_goto 61 dX5_odds_178 (by decide) ?_
      rw [nI_s s, nI_add, if_pos hz]
      have hb2 : a + w ≤ (s + 1) * 10000000 := by omega
      exact ih (s + 1) (a + w) _ _ _ _ (by omega) hb2
    · refine rr_if_ne 167 dX5_odds_159 (by decide) (fun h159 => ?_) (fun h159 => absurd h159 hz)
      refine rr_iconst (v := 0) dX5_odds_167 (by decide) ?_
      refine rr_iadd dX5_odds_168 ?_
      refine rr_istore_5 dX5_odds_169 rfl ?_
      refine rr_aloadn_0 dX5_odds_171 ?_
      refine rr_callVvD (c_tb N _ _ hN E D n1) km_X5_147 rfl rfl (by omega) rfl (Nat.le_of_ble_eq_true rfl) dX5_odds_172 ?_
      refine rr_iinc_6 1 dX5_odds_175 (by decide) rfl ?_
      refine rr_goto 61 dX5_odds_178 (by decide) ?_
      rw [nI_s s, if_neg hz, show nI a + 0 = nI (a + 0) from nI_add a 0]
      have hb2 : a + 0 ≤ (s + 1) * 10000000 := Nat.le_trans ha (Nat.mul_le_mul_right _ (Nat.le_succ s))
      exact ih (s + 1) (a + 0) _ _ _ _ (by omega) hb2
set_option maxHeartbeats 4000000 in
set_option maxRecDepth 100000 in
theorem m_odds_b (N d : Nat) (σ : rd_S) (hN : 49 ≤ N) (n x w : Int32) (h : hp_rg 0 7 n = false ∨ hp_rg 0 10 x = false ∨ hp_rg 0 1 w = false) : rd_T N (d + 4) yX5_odds cX5_odds 10 (some .int) [.ref 33, .int n, .int x, .int w] σ (rd_is (some (.int (-1))) σ) := by
  refine rd_start RX5 [.ref 33, .int n, .int x, .int w, .retAddr 0, .retAddr 0, .retAddr 0, .retAddr 0, .retAddr 0, .retAddr 0] rfl (by decide +kernel) rfl (Nat.le_of_ble_eq_true rfl) ?_
  refine rr_iloadn_1 dX5_odds_0 ?_
  refine rr_i2l dX5_odds_1 ?_
  refine rr_lconst (v := 0) dX5_odds_2 (by decide) ?_
  refine rr_ldc2 dX5_odds_3 kc_X5_198 ?_
  refine rr_callSiD (c_in N _ _ _ _ _ (0) (7) rfl rfl) km_X5_62 rfl rfl (Nat.le_of_ble_eq_true rfl) dX5_odds_6 ?_
  refine rr_if_eq 31 dX5_odds_9 (by decide) (fun h9 => ?_) (fun h9 => ?_)
  · refine rr_iconst (v := (-1)) dX5_odds_31 (by decide) ?_
    exact rr_iret dX5_odds_32 ⟨rfl, rfl⟩
  · refine rr_iloadn_2 dX5_odds_12 ?_
    refine rr_i2l dX5_odds_13 ?_
    refine rr_lconst (v := 0) dX5_odds_14 (by decide) ?_
    refine rr_ldc2 dX5_odds_15 kc_X5_228 ?_
    refine rr_callSiD (c_in N _ _ _ _ _ (0) (10) rfl rfl) km_X5_62 rfl rfl (Nat.le_of_ble_eq_true rfl) dX5_odds_18 ?_
    refine rr_if_eq 31 dX5_odds_21 (by decide) (fun h21 => ?_) (fun h21 => ?_)
    · refine rr_iconst (v := (-1)) dX5_odds_31 (by decide) ?_
      exact rr_iret dX5_odds_32 ⟨rfl, rfl⟩
    · refine rr_iloadn_3 dX5_odds_24 ?_
      refine rr_callSiD (c_X5_isPart N _ _ _) km_X5_114 rfl rfl (Nat.le_of_ble_eq_true rfl) dX5_odds_25 ?_
      refine rr_if_ne 33 dX5_odds_28 (by decide) (fun h28 => absurd (by rcases h with h | h | h; { simp [h] at h9 }; { simp [h] at h21 }; { simp [h] }) h28) (fun h28 => ?_)
      refine rr_iconst (v := (-1)) dX5_odds_31 (by decide) ?_
      exact rr_iret dX5_odds_32 ⟨rfl, rfl⟩
set_option maxHeartbeats 4000000 in
set_option maxRecDepth 100000 in
theorem m_odds_s (N d : Nat) (σ : rd_S) (hN : 49 ≤ N) (c : Nat) (hc : c + 100 < 1000000) (D : sd_D) (kb fg : Int32) (fc : Nat) (hw : wf c D) (hk : kd_at σ kb) (hr : rw_at σ fg fc) (hD : md_at σ D) (n x : Nat) (hn : n ≤ 7) (hx : x ≤ 10) (q : Int32) (hq : hp_rg 0 1 q = true) : rd_T N (d + 4) yX5_odds cX5_odds 10 (some .int) [.ref 33, .int (nI n), .int (nI x), .int q] σ (fun r s => r = some (.int (nI (od_r (od_s kb fg x D (min n fc) (2 ^ min n fc) 0 0) (10 ^ min n fc) q))) ∧ mq_eq s σ) := by
  refine rd_start RX5 [.ref 33, .int (nI n), .int (nI x), .int q, .retAddr 0, .retAddr 0, .retAddr 0, .retAddr 0, .retAddr 0, .retAddr 0] rfl (by decide +kernel) rfl (Nat.le_of_ble_eq_true rfl) ?_
  have h7 := hp_7 (k := 7) (by decide) hn
  have h10 := hp_7 (k := 10) (by decide) hx
  have hf3 := hr.1
  have h12 := hr.2.1
  refine rr_iloadn_1 dX5_odds_0 ?_
  refine rr_i2l dX5_odds_1 ?_
  refine rr_lconst (v := 0) dX5_odds_2 (by decide) ?_
  refine rr_ldc2 dX5_odds_3 kc_X5_198 ?_
  refine rr_callSiD (c_in N _ _ _ _ _ (0) (7) rfl rfl) km_X5_62 rfl rfl (Nat.le_of_ble_eq_true rfl) dX5_odds_6 ?_
  refine rr_if_eq 31 dX5_odds_9 (by decide) (fun h9 => absurd h9 (by simp [show hp_rg 0 7 (nI n) = true from h7])) (fun h9 => ?_)
  refine rr_iloadn_2 dX5_odds_12 ?_
  refine rr_i2l dX5_odds_13 ?_
  refine rr_lconst (v := 0) dX5_odds_14 (by decide) ?_
  refine rr_ldc2 dX5_odds_15 kc_X5_228 ?_
  refine rr_callSiD (c_in N _ _ _ _ _ (0) (10) rfl rfl) km_X5_62 rfl rfl (Nat.le_of_ble_eq_true rfl) dX5_odds_18 ?_
  refine rr_if_eq 31 dX5_odds_21 (by decide) (fun h21 => absurd h21 (by simp [show hp_rg 0 10 (nI x) = true from h10])) (fun h21 => ?_)
  refine rr_iloadn_3 dX5_odds_24 ?_
  refine rr_callSiD (c_X5_isPart N _ _ _) km_X5_114 rfl rfl (Nat.le_of_ble_eq_true rfl) dX5_odds_25 ?_
  refine rr_if_ne 33 dX5_odds_28 (by decide) (fun h28 => ?_) (fun h28 => absurd h28 (by simp [hq]))
  refine rr_iloadn_1 dX5_odds_33 ?_
  refine rr_aloadn_0 dX5_odds_34 ?_
  refine rr_geti dX5_odds_35 kf_X5_55 (by omega) rfl rfl ?_
  rw [hf3]
  refine rr_icmp_geJ 45 49 (σ 33 3) (nI n) dX5_odds_38 (by decide) (fun h38 k38 => ?_) (fun h38 k38 => ?_) ?_
  · refine rr_aloadn_0 dX5_odds_45 ?_
    refine rr_geti dX5_odds_46 kf_X5_55 (by omega) rfl rfl ?_
    exact k38
  · refine rr_iloadn_1 dX5_odds_41 ?_
    refine rr_goto 49 dX5_odds_42 (by decide) ?_
    exact k38
  rw [hf3, mn_min (by omega) (by omega)]
  refine rr_istore_4 dX5_odds_49 rfl ?_
  refine rr_aloadn_0 dX5_odds_51 ?_
  refine rr_callVvD (c_pa N _ _ hN D hD) km_X5_141 rfl rfl (by omega) rfl (Nat.le_of_ble_eq_true rfl) dX5_odds_52 ?_
  refine rr_iconst (v := 0) dX5_odds_55 (by decide) ?_
  refine rr_istore_5 dX5_odds_56 rfl ?_
  refine rr_iconst (v := 0) dX5_odds_58 (by decide) ?_
  refine rr_istore_6 dX5_odds_59 rfl ?_
  exact lp_modds N (d + 1) hN σ c hc D kb fg fc hw hk hr hD x (min n fc) hx (by omega) (by omega) _ q (2 ^ min n fc) 0 0 _ _ _ _ (by omega) (by omega)
