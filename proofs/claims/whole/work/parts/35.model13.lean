/-! ===== the reference: duel, folded ===== -/
def fs (w : Bool) (F : Nat → Int32) (r : Nat) : Int32 := be_r w (be_r w (F (3 * r)) (F (3 * r + 1))) (F (3 * r + 2))
def fl (F : Nat → Int32) : Nat → Int32
  | 0 => F 0
  | k + 1 => fl (fs (k % 2 == 0) F) k
theorem fl_cong : ∀ (m : Nat) (F G : Nat → Int32), (∀ j, j < 3 ^ m → F j = G j) → fl F m = fl G m
  | 0, F, G, h => h 0 (by decide)
  | m + 1, F, G, h => by
    unfold fl
    refine fl_cong m _ _ (fun j hj => ?_)
    have e : 3 ^ (m + 1) = 3 * 3 ^ m := by rw [Nat.pow_succ, Nat.mul_comm]
    unfold fs
    rw [h (3 * j) (by omega), h (3 * j + 1) (by omega), h (3 * j + 2) (by omega)]
/-- alike but for the folds -/
def fo_eq (s σ : rd_S) : Prop := ∀ a b, a ≠ 48 → s a b = σ a b
theorem fo_eq.refl (σ : rd_S) : fo_eq σ σ := fun _ _ _ => rfl
theorem fo_mq {s σ : rd_S} (h : fo_eq s σ) : mq_eq s σ := fun a b q => h a b (by omega)
theorem fo_kd {s σ : rd_S} (h : fo_eq s σ) {kb : Int32} (hk : kd_at σ kb) : kd_at s kb := fun i hi => by rw [h _ _ (by decide)]; exact hk i hi
theorem fo_u2 {s σ : rd_S} (h : fo_eq s σ) (k : Nat) (v : Int32) : fo_eq (rd_u2 s 48 k v) σ := fun a b q => by rw [u2_off (fun z => q z.1)]; exact h a b q
theorem c_bt (N d : Nat) (σ : rd_S) (hN : 49 ≤ N) (v w : Int32) : rd_T N (d + 0) yX5_better cX5_better 4 (some .int) [.ref 33, .int v, .int w, .int 1] σ (rd_is (some (.int (be_r true v w))) σ) := c_X5_better N d σ hN v w true
theorem c_bf (N d : Nat) (σ : rd_S) (hN : 49 ≤ N) (v w : Int32) : rd_T N (d + 0) yX5_better cX5_better 4 (some .int) [.ref 33, .int v, .int w, .int 0] σ (rd_is (some (.int (be_r false v w))) σ) := c_X5_better N d σ hN v w false
set_option maxHeartbeats 4000000 in
set_option maxRecDepth 100000 in
theorem lp_duel3 (N d : Nat) (hN : 49 ≤ N) (σ : rd_S) (D : sd_D) (n0 : Int32) (F : Nat → Int32) (R k : Nat) (hR : 3 * R ≤ 243) (hk : k < 5) (x1 : Value) (Q : Option Value → rd_S → Prop) (K : ∀ (τ : rd_S) (z4 z5 z6 z7 : Value), fo_eq τ σ → (∀ j, j < 243 → τ 48 j = if j < R then fs (k % 2 == 0) F j else F j) → rd_W N (d + 1) RX5 cX5_duel 8 (some .int) 214 [.ref 33, x1, .int (nI R), .int (nI k), z4, z5, z6, z7] [] (ms τ D D n0) Q) : ∀ (m r : Nat) (τ : rd_S) (z5 z6 z7 : Value), r + m = R → fo_eq τ σ → (∀ j, j < 243 → τ 48 j = if j < r then fs (k % 2 == 0) F j else F j) → rd_W N (d + 1) RX5 cX5_duel 8 (some .int) 139 [.ref 33, x1, .int (nI R), .int (nI k), .int (nI r), z5, z6, z7] [] (ms τ D D n0) Q := by
  intro m
  induction m with
  | zero =>
    intro r τ z5 z6 z7 hr he hC
    obtain rfl : r = R := hr
    refine rr_iload_4 dX5_duel_139 ?_
    refine rr_iloadn_2 dX5_duel_141 ?_
    refine rr_icmp_ge 214 dX5_duel_142 (by decide) (fun h142 => ?_) (fun h142 => absurd ((nI_lek (by omega) (by omega)).mpr (Nat.le_refl _)) h142)
    exact K τ _ _ _ _ he hC
  | succ m ih =>
    intro r τ z5 z6 z7 hr he hC
    have e0 : (3 : Int32) * nI r = nI (3 * r) := pk_mul 3 r
    have e1 : nI (3 * r) + 1 = nI (3 * r + 1) := nI_add _ 1
    have e2 : nI (3 * r) + 2 = nI (3 * r + 2) := nI_add _ 2
    have g : ∀ j, r ≤ j → j < 243 → ms τ D D n0 48 j = F j := fun j h1 h2 => by rw [ms_ne (by decide) (by decide) (by omega), hC j h2, if_neg (by omega)]
    have nx : ∀ w, (k % 2 == 0) = w → ∀ j, j < 243 → rd_u2 τ 48 r (be_r w (be_r w (F (3 * r)) (F (3 * r + 1))) (F (3 * r + 2))) 48 j = if j < r + 1 then fs (k % 2 == 0) F j else F j := by
      intro w hw j hj
      by_cases e : j = r
      · subst e; rw [u2_at, if_pos (by omega), hw]; rfl
      · rw [u2_off (by omega), hC j hj]
        by_cases q : j < r
        · rw [if_pos q, if_pos (by omega)]
        · rw [if_neg q, if_neg (by omega)]
    refine rr_iload_4 dX5_duel_139 ?_
    refine rr_iloadn_2 dX5_duel_141 ?_
    refine rr_icmp_ge 214 dX5_duel_142 (by decide) (fun h142 => absurd ((nI_lek (by omega) (by omega)).mp h142) (by omega)) (fun h142 => ?_)
    refine rr_iloadn_3 dX5_duel_145 ?_
    refine rr_iconst (v := 2) dX5_duel_146 (by decide) ?_
    refine rr_irem dX5_duel_147 (by decide) ?_
    rw [show nI k - nI k / 2 * 2 = nI (k % 2) from nI_mod2 (by omega)]
    by_cases hp : k % 2 = 0
    · refine rr_if_ne 155 dX5_duel_148 (by decide) (fun h148 => absurd (by rw [hp]; rfl) h148) (fun h148 => ?_)
      refine rr_iconst (v := 1) dX5_duel_151 (by decide) ?_
      refine rr_goto 156 dX5_duel_152 (by decide) ?_
      refine rr_istore_5 dX5_duel_156 rfl ?_
      refine rr_aloadn_0 dX5_duel_158 ?_
      refine rr_getr 48 dX5_duel_159 kf_X5_52 (by omega) rfl rfl rfl ?_
      refine rr_iload_4 dX5_duel_162 ?_
      refine rr_aloadn_0 dX5_duel_164 ?_
      refine rr_aloadn_0 dX5_duel_165 ?_
      refine rr_aloadn_0 dX5_duel_166 ?_
      refine rr_getr 48 dX5_duel_167 kf_X5_52 (by omega) rfl rfl rfl ?_
      refine rr_iconst (v := 3) dX5_duel_170 (by decide) ?_
      refine rr_iload_4 dX5_duel_171 ?_
      refine rr_imul dX5_duel_173 ?_
      rw [e0]
      refine rr_iald ((3 * r)) dX5_duel_174 (by omega) rfl rfl (show 3 * r < 243 by omega) ?_
      rw [g _ (by omega) (by omega)]
      refine rr_aloadn_0 dX5_duel_175 ?_
      refine rr_getr 48 dX5_duel_176 kf_X5_52 (by omega) rfl rfl rfl ?_
      refine rr_iconst (v := 3) dX5_duel_179 (by decide) ?_
      refine rr_iload_4 dX5_duel_180 ?_
      refine rr_imul dX5_duel_182 ?_
      refine rr_iconst (v := 1) dX5_duel_183 (by decide) ?_
      refine rr_iadd dX5_duel_184 ?_
      rw [e0, e1]
      refine rr_iald ((3 * r + 1)) dX5_duel_185 (by omega) rfl rfl (show 3 * r + 1 < 243 by omega) ?_
      rw [g _ (by omega) (by omega)]
      refine rr_iload_5 dX5_duel_186 ?_
      refine rr_callViD (c_bt N _ _ hN _ _) km_X5_224 rfl rfl (by omega) rfl (Nat.le_of_ble_eq_true rfl) dX5_duel_188 ?_
      refine rr_aloadn_0 dX5_duel_191 ?_
      refine rr_getr 48 dX5_duel_192 kf_X5_52 (by omega) rfl rfl rfl ?_
      refine rr_iconst (v := 3) dX5_duel_195 (by decide) ?_
      refine rr_iload_4 dX5_duel_196 ?_
      refine rr_imul dX5_duel_198 ?_
      refine rr_iconst (v := 2) dX5_duel_199 (by decide) ?_
      refine rr_iadd dX5_duel_200 ?_
      rw [e0, e2]
      refine rr_iald ((3 * r + 2)) dX5_duel_201 (by omega) rfl rfl (show 3 * r + 2 < 243 by omega) ?_
      rw [g _ (by omega) (by omega)]
      refine rr_iload_5 dX5_duel_202 ?_
      refine rr_callViD (c_bt N _ _ hN _ _) km_X5_224 rfl rfl (by omega) rfl (Nat.le_of_ble_eq_true rfl) dX5_duel_204 ?_
      refine rr_iast (r) dX5_duel_207 (by omega) rfl rfl (show r < 243 by omega) ?_
      rw [ms_u2 (by decide) (by decide) (by omega)]
      refine rr_iinc_4 1 dX5_duel_208 (by decide) rfl ?_
      refine rr_goto 139 dX5_duel_211 (by decide) ?_
      rw [nI_s r]
      exact ih (r + 1) _ _ _ _ (by omega) (fo_u2 he _ _) (nx true (by simp [hp]))
    · refine rr_if_ne 155 dX5_duel_148 (by decide) (fun h148 => ?_) (fun h148 => absurd ((nI_eq8 (b := 0) (by omega) (by omega)).mp h148) hp)
      refine rr_iconst (v := 0) dX5_duel_155 (by decide) ?_
      refine rr_istore_5 dX5_duel_156 rfl ?_
      refine rr_aloadn_0 dX5_duel_158 ?_
      refine rr_getr 48 dX5_duel_159 kf_X5_52 (by omega) rfl rfl rfl ?_
      refine rr_iload_4 dX5_duel_162 ?_
      refine rr_aloadn_0 dX5_duel_164 ?_
      refine rr_aloadn_0 dX5_duel_165 ?_
      refine rr_aloadn_0 dX5_duel_166 ?_
      refine rr_getr 48 dX5_duel_167 kf_X5_52 (by omega) rfl rfl rfl ?_
      refine rr_iconst (v := 3) dX5_duel_170 (by decide) ?_
      refine rr_iload_4 dX5_duel_171 ?_
      refine rr_imul dX5_duel_173 ?_
      rw [e0]
      refine rr_iald ((3 * r)) dX5_duel_174 (by omega) rfl rfl (show 3 * r < 243 by omega) ?_
      rw [g _ (by omega) (by omega)]
      refine rr_aloadn_0 dX5_duel_175 ?_
      refine rr_getr 48 dX5_duel_176 kf_X5_52 (by omega) rfl rfl rfl ?_
      refine rr_iconst (v := 3) dX5_duel_179 (by decide) ?_
      refine rr_iload_4 dX5_duel_180 ?_
      refine rr_imul dX5_duel_182 ?_
      refine rr_iconst (v := 1) dX5_duel_183 (by decide) ?_
      refine rr_iadd dX5_duel_184 ?_
      rw [e0, e1]
      refine rr_iald ((3 * r + 1)) dX5_duel_185 (by omega) rfl rfl (show 3 * r + 1 < 243 by omega) ?_
      rw [g _ (by omega) (by omega)]
      refine rr_iload_5 dX5_duel_186 ?_
      refine rr_callViD (c_bf N _ _ hN _ _) km_X5_224 rfl rfl (by omega) rfl (Nat.le_of_ble_eq_true rfl) dX5_duel_188 ?_
      refine rr_aloadn_0 dX5_duel_191 ?_
      refine rr_getr 48 dX5_duel_192 kf_X5_52 (by omega) rfl rfl rfl ?_
      refine rr_iconst (v := 3) dX5_duel_195 (by decide) ?_
      refine rr_iload_4 dX5_duel_196 ?_
      refine rr_imul dX5_duel_198 ?_
      refine rr_iconst (v := 2) dX5_duel_199 (by decide) ?_
      refine rr_iadd dX5_duel_200 ?_
      rw [e0, e2]
      refine rr_iald ((3 * r + 2)) dX5_duel_201 (by omega) rfl rfl (show 3 * r + 2 < 243 by omega) ?_
      rw [g _ (by omega) (by omega)]
      refine rr_iload_5 dX5_duel_202 ?_
      refine rr_callViD (c_bf N _ _ hN _ _) km_X5_224 rfl rfl (by omega) rfl (Nat.le_of_ble_eq_true rfl) dX5_duel_204 ?_
      refine rr_iast (r) dX5_duel_207 (by omega) rfl rfl (show r < 243 by omega) ?_
      rw [ms_u2 (by decide) (by decide) (by omega)]
      refine rr_iinc_4 1 dX5_duel_208 (by decide) rfl ?_
      refine rr_goto 139 dX5_duel_211 (by decide) ?_
      rw [nI_s r]
      exact ih (r + 1) _ _ _ _ (by omega) (fo_u2 he _ _) (nx false (by simp [hp]))
set_option maxHeartbeats 4000000 in
set_option maxRecDepth 100000 in
theorem lp_duel2 (N d : Nat) (hN : 49 ≤ N) (σ : rd_S) (D : sd_D) (n0 x1 : Int32) : ∀ (m : Nat) (F : Nat → Int32) (τ : rd_S) (z4 z5 z6 z7 : Value), m ≤ 5 → fo_eq τ σ → (∀ j, j < 243 → τ 48 j = F j) → rd_W N (d + 1) RX5 cX5_duel 8 (some .int) 128 [.ref 33, .int x1, .int (nI (3 ^ m)), .int (nI m - 1), z4, z5, z6, z7] [] (ms τ D D n0) (fun r s => r = some (.int (fl F m)) ∧ ∃ τ', s = ms τ' D D n0 ∧ fo_eq τ' σ) := by
  intro m
  induction m with
  | zero =>
    intro F τ z4 z5 z6 z7 hm he hC
    refine rr_iloadn_3 dX5_duel_128 ?_
    refine rr_if_lt 220 dX5_duel_129 (by decide) (fun h129 => ?_) (fun h129 => absurd (by decide) h129)
    refine rr_aloadn_0 dX5_duel_220 ?_
    refine rr_getr 48 dX5_duel_221 kf_X5_52 (by omega) rfl rfl rfl ?_
    refine rr_iconst (v := 0) dX5_duel_224 (by decide) ?_
    refine rr_iald (0) dX5_duel_225 (by omega) rfl rfl (by decide) ?_
    exact rr_iret dX5_duel_226 ⟨by rw [ms_ne (by decide) (by decide) (by decide), hC 0 (by decide)]; rfl, τ, rfl, he⟩
  | succ m ih =>
    intro F τ z4 z5 z6 z7 hm he hC
    have e0 : 3 ^ (m + 1) = 3 * 3 ^ m := by rw [Nat.pow_succ, Nat.mul_comm]
    have h4 : 3 ^ m ≤ 3 ^ 4 := Nat.pow_le_pow_right (by decide) (by omega)
    have h4 : 3 ^ m ≤ 81 := h4
    have h3p := p3_pos m
    have e2 : nI (3 ^ (m + 1)) / 3 = nI (3 ^ m) := by
      have := pk_div (a := 3 ^ (m + 1)) (d := 3) (by omega) (by decide) (by decide)
      rw [show nI (3 ^ (m + 1)) / 3 = nI (3 ^ (m + 1) / 3) from this, e0, Nat.mul_div_cancel_left _ (by decide)]
    rw [nI_pred m]
    refine rr_iloadn_3 dX5_duel_128 ?_
    refine rr_if_lt 220 dX5_duel_129 (by decide) (fun h129 => absurd h129 (by simp only [Int32.lt_iff_toInt_lt]; rw [nI_toInt (by omega)]; show ¬ (m : Int) < 0; omega)) (fun h129 => ?_)
    refine rr_iloadn_2 dX5_duel_132 ?_
    refine rr_iconst (v := 3) dX5_duel_133 (by decide) ?_
    refine rr_idiv dX5_duel_134 (by decide) ?_
    rw [e2]
    refine rr_istoren_2 dX5_duel_135 rfl ?_
    refine rr_iconst (v := 0) dX5_duel_136 (by decide) ?_
    refine rr_istore_4 dX5_duel_137 rfl ?_
    refine lp_duel3 N d hN σ D n0 F (3 ^ m) m (by omega) (by omega) _ _ (fun τ2 y4 y5 y6 y7 he2 hC2 => ?_) (3 ^ m) 0 τ _ _ _ (by omega) he (fun j hj => by rw [if_neg (by omega)]; exact hC j hj)
    refine rr_iinc_3 (-1) dX5_duel_214 (by decide) rfl ?_
    refine rr_goto 128 dX5_duel_217 (by decide) ?_
    rw [show nI m + (-1) = nI m - 1 from (Int32.sub_eq_add_neg _ _).symm]
    refine (ih _ τ2 _ _ _ _ (by omega) he2 hC2).post (fun r s q => ⟨?_, q.2⟩)
    rw [q.1]
    show some (Value.int (fl _ m)) = some (Value.int (fl (fs (m % 2 == 0) F) m))
    rw [fl_cong m _ (fs (m % 2 == 0) F) (fun j hj => if_pos hj)]
def du_F (kb : Int32) (D : sd_D) (n code : Nat) : Int32 := (fun q : Bool × sd_D => if q.1 = true then sr_gp q.2 else -4) (du kb code n 0 D)
set_option maxHeartbeats 4000000 in
set_option maxRecDepth 100000 in
theorem lp_duel0 (N d : Nat) (hN : 49 ≤ N) (σ : rd_S) (c : Nat) (hc : c + 100 < 1000000) (D : sd_D) (kb : Int32) (hw : wf c D) (hk : kd_at σ kb) (hD : md_at σ D) (n : Nat) (hn : n ≤ 5) : ∀ (m code : Nat) (n0 : Int32) (τ : rd_S) (z4 z5 z6 z7 : Value), code + m = 3 ^ n → fo_eq τ σ → (∀ j, j < code → τ 48 j = du_F kb D n j) → rd_W N (d + 3) RX5 cX5_duel 8 (some .int) 26 [.ref 33, .int (nI n), .int (nI (3 ^ n)), .int (nI code), z4, z5, z6, z7] [] (ms τ D D n0) (fun r s => r = some (.int (fl (du_F kb D n) n)) ∧ mq_eq s σ) := by
  have h3 : 3 ^ n ≤ 3 ^ 5 := Nat.pow_le_pow_right (by decide) hn
  have h3 : 3 ^ n ≤ 243 := h3
  intro m
  induction m with
  | zero =>
    intro code n0 τ z4 z5 z6 z7 hm he hC
    refine rr_iloadn_3 dX5_duel_26 ?_
    refine rr_iloadn_2 dX5_duel_27 ?_
    refine rr_icmp_ge 124 dX5_duel_28 (by decide) (fun h28 => ?_) (fun h28 => absurd ((nI_lek (by omega) (by omega)).mpr (by omega)) h28)
    refine rr_iloadn_1 dX5_duel_124 ?_
    refine rr_iconst (v := 1) dX5_duel_125 (by decide) ?_
    refine rr_isub dX5_duel_126 ?_
    refine rr_istoren_3 dX5_duel_127 rfl ?_
    refine (lp_duel2 N (d + 2) hN σ D n0 _ n (fun j => τ 48 j) τ _ _ _ _ hn he (fun j _ => rfl)).post (fun r s q => ?_)
    obtain ⟨q1, τ2, rfl, he2⟩ := q
    refine ⟨?_, mq_ms (fo_mq he2) hD⟩
    rw [q1, fl_cong n _ (du_F kb D n) (fun j hj => hC j (by omega))]
  | succ m ih =>
    intro code n0 τ z4 z5 z6 z7 hm he hC
    have e2 : nI (3 ^ n) / 3 = nI (3 ^ n / 3) := pk_div (d := 3) (by omega) (by decide) (by decide)
    have hF : du_F kb D n code = (fun q : Bool × sd_D => if q.1 = true then sr_gp q.2 else -4) (du kb code n 0 D) := rfl
    have nx : ∀ (E : sd_D) (x n1 x4 : Int32) (y5 y6 y7 : Value), x = du_F kb D n code → rd_W N (d + 3) RX5 cX5_duel 8 (some .int) 113 [.ref 33, .int (nI n), .int (nI (3 ^ n)), .int (nI code), .int x4, y5, y6, y7] [.int x, .int (nI code), .ref 48] (ms τ E D n1) (fun r s => r = some (.int (fl (du_F kb D n) n)) ∧ mq_eq s σ) := by
      intro E x n1 x4 y5 y6 y7 hx
      refine rr_iast (code) dX5_duel_113 (by omega) rfl rfl (show code < 243 by omega) ?_
      rw [ms_u2 (by decide) (by decide) (by omega)]
      refine rr_aloadn_0 dX5_duel_114 ?_
      refine rr_callVvD (c_tb N _ _ hN E D n1) km_X5_147 rfl rfl (by omega) rfl (Nat.le_of_ble_eq_true rfl) dX5_duel_115 ?_
      refine rr_iinc_3 1 dX5_duel_118 (by decide) rfl ?_
      refine rr_goto 26 dX5_duel_121 (by decide) ?_
      rw [nI_s code]
      refine ih (code + 1) n1 _ _ _ _ _ (by omega) (fo_u2 he _ _) (fun j hj => ?_)
      by_cases e : j = code
      · subst e; rw [u2_at]; exact hx
      · rw [u2_off (by omega)]; exact hC j (by omega)
    refine rr_iloadn_3 dX5_duel_26 ?_
    refine rr_iloadn_2 dX5_duel_27 ?_
    refine rr_icmp_ge 124 dX5_duel_28 (by decide) (fun h28 => absurd ((nI_lek (by omega) (by omega)).mp h28) (by omega)) (fun h28 => ?_)
    refine rr_iconst (v := 1) dX5_duel_31 (by decide) ?_
    refine rr_istore_4 dX5_duel_32 rfl ?_
    refine rr_iconst (v := 0) dX5_duel_34 (by decide) ?_
    refine rr_istore_5 dX5_duel_35 rfl ?_
    refine rr_iloadn_2 dX5_duel_37 ?_
    refine rr_iconst (v := 3) dX5_duel_38 (by decide) ?_
    refine rr_idiv dX5_duel_39 (by decide) ?_
    rw [e2]
    refine rr_istore_6 dX5_duel_40 rfl ?_
    refine lp_duel1 N d hN τ D kb (fo_kd he hk) code (by omega) _ _ _ n 0 c D n0 _ hn (by omega) hw (by omega) (fun x5 x6 y7 n1 => ?_)
    generalize du kb code n 0 D = q at hF ⊢
    obtain ⟨b, E⟩ := q
    dsimp only at hF ⊢
    refine rr_aloadn_0 dX5_duel_94 ?_
    refine rr_getr 48 dX5_duel_95 kf_X5_52 (by omega) rfl rfl rfl ?_
    refine rr_iloadn_3 dX5_duel_98 ?_
    refine rr_iload_4 dX5_duel_99 ?_
    cases b
    · refine rr_if_eq 111 dX5_duel_101 (by decide) (fun h101 => ?_) (fun h101 => absurd (by simp) h101)
      refine rr_bipush (v := (-4)) dX5_duel_111 (by decide) ?_
      exact nx E _ n1 _ _ _ _ (by rw [hF]; rfl)
    · refine rr_if_eq 111 dX5_duel_101 (by decide) (fun h101 => absurd h101 (by simp)) (fun h101 => ?_)
      refine rr_aloadn_0 dX5_duel_104 ?_
      refine rr_callViD (c_X5_greater N _ _ hN E D n1) km_X5_221 rfl rfl (by omega) rfl (Nat.le_of_ble_eq_true rfl) dX5_duel_105 ?_
      refine rr_goto 113 dX5_duel_108 (by decide) ?_
      exact nx E _ n1 _ _ _ _ (by rw [hF]; rfl)
set_option maxHeartbeats 4000000 in
set_option maxRecDepth 100000 in
theorem m_duel_b (N d : Nat) (σ : rd_S) (hN : 49 ≤ N) (x : Int32) (h : hp_rg 0 5 x = false) : rd_T N (d + 4) yX5_duel cX5_duel 8 (some .int) [.ref 33, .int x] σ (rd_is (some (.int (-1))) σ) := by
  refine rd_start RX5 [.ref 33, .int x, .retAddr 0, .retAddr 0, .retAddr 0, .retAddr 0, .retAddr 0, .retAddr 0] rfl (by decide +kernel) rfl (Nat.le_of_ble_eq_true rfl) ?_
  refine rr_iloadn_1 dX5_duel_0 ?_
  refine rr_i2l dX5_duel_1 ?_
  refine rr_lconst (v := 0) dX5_duel_2 (by decide) ?_
  refine rr_ldc2 dX5_duel_3 kc_X5_219 ?_
  refine rr_callSiD (c_in N _ _ _ _ _ (0) (5) rfl rfl) km_X5_62 rfl rfl (Nat.le_of_ble_eq_true rfl) dX5_duel_6 ?_
  refine rr_if_ne 14 dX5_duel_9 (by decide) (fun h9 => absurd (by simp [h]) h9) (fun h9 => ?_)
  refine rr_iconst (v := (-1)) dX5_duel_12 (by decide) ?_
  exact rr_iret dX5_duel_13 ⟨rfl, rfl⟩
set_option maxHeartbeats 4000000 in
set_option maxRecDepth 100000 in
theorem m_duel_s (N d : Nat) (σ : rd_S) (hN : 49 ≤ N) (c : Nat) (hc : c + 100 < 1000000) (D : sd_D) (kb : Int32) (hw : wf c D) (hk : kd_at σ kb) (hD : md_at σ D) (n : Nat) (hn : n ≤ 5) : rd_T N (d + 4) yX5_duel cX5_duel 8 (some .int) [.ref 33, .int (nI n)] σ (fun r s => r = some (.int (fl (du_F kb D n) n)) ∧ mq_eq s σ) := by
  refine rd_start RX5 [.ref 33, .int (nI n), .retAddr 0, .retAddr 0, .retAddr 0, .retAddr 0, .retAddr 0, .retAddr 0] rfl (by decide +kernel) rfl (Nat.le_of_ble_eq_true rfl) ?_
  have h7 := hp_7 (k := 5) (by decide) hn
  refine rr_iloadn_1 dX5_duel_0 ?_
  refine rr_i2l dX5_duel_1 ?_
  refine rr_lconst (v := 0) dX5_duel_2 (by decide) ?_
  refine rr_ldc2 dX5_duel_3 kc_X5_219 ?_
  refine rr_callSiD (c_in N _ _ _ _ _ (0) (5) rfl rfl) km_X5_62 rfl rfl (Nat.le_of_ble_eq_true rfl) dX5_duel_6 ?_
  refine rr_if_ne 14 dX5_duel_9 (by decide) (fun h9 => ?_) (fun h9 => absurd h9 (by simp [show hp_rg 0 5 (nI n) = true from h7]))
  refine rr_aloadn_0 dX5_duel_14 ?_
  refine rr_callVvD (c_pa N _ _ hN D hD) km_X5_141 rfl rfl (by omega) rfl (Nat.le_of_ble_eq_true rfl) dX5_duel_15 ?_
  refine rr_iconst (v := 3) dX5_duel_18 (by decide) ?_
  refine rr_iloadn_1 dX5_duel_19 ?_
  refine rr_callSiD (c_X5_rowsOf N _ _ 3 n (by omega)) km_X5_156 rfl rfl (Nat.le_of_ble_eq_true rfl) dX5_duel_20 ?_
  refine rr_istoren_2 dX5_duel_23 rfl ?_
  refine rr_iconst (v := 0) dX5_duel_24 (by decide) ?_
  refine rr_istoren_3 dX5_duel_25 rfl ?_
  exact lp_duel0 N (d + 1) hN σ c hc D kb hw hk hD n hn (3 ^ n) 0 _ σ _ _ _ _ (by omega) (fo_eq.refl _) (fun j hj => absurd hj (by omega))
