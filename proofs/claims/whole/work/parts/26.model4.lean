/-! ===== the reference: rows by their numbers, search ===== -/
theorem nI_lek {a b : Nat} (ha : a < 100000000) (hb : b < 100000000) : nI a ≤ nI b ↔ a ≤ b := nI_leI (by omega) (by omega)
theorem nI_ltk {a b : Nat} (ha : a < 100000000) (hb : b < 100000000) : nI a < nI b ↔ a < b := nI_ltI (by omega) (by omega)
set_option maxHeartbeats 4000000 in
set_option maxRecDepth 100000 in
theorem lp_rowsOf (N d : Nat) (σ : rd_S) (b : Nat) : ∀ (m k : Nat), k + m < 1000 → rd_W N d RX5 cX5_rowsOf 4 (some .int) 4 [.int (nI b), .int (nI (k + m)), .int (nI (b ^ k)), .int (nI k)] [] σ (rd_is (some (.int (nI (b ^ (k + m))))) σ) := by
  intro m
  induction m with
  | zero =>
    intro k hk
    refine rr_iloadn_3 dX5_rowsOf_4 ?_
    refine rr_iloadn_1 dX5_rowsOf_5 ?_
    refine rr_icmp_ge 19 dX5_rowsOf_6 (by decide) (fun h6 => ?_) (fun h6 => absurd (nI_le (Nat.le_refl _) (by omega)) h6)
    refine rr_iloadn_2 dX5_rowsOf_19 ?_
    exact rr_iret dX5_rowsOf_20 ⟨rfl, rfl⟩
  | succ m ih =>
    intro k hk
    refine rr_iloadn_3 dX5_rowsOf_4 ?_
    refine rr_iloadn_1 dX5_rowsOf_5 ?_
    refine rr_icmp_ge 19 dX5_rowsOf_6 (by decide) (fun h6 => absurd ((nI_le8 (by omega) (by omega)).mp h6) (by omega)) (fun h6 => ?_)
    refine rr_iloadn_2 dX5_rowsOf_9 ?_
    refine rr_iloadn_0 dX5_rowsOf_10 ?_
    refine rr_imul dX5_rowsOf_11 ?_
    refine rr_istoren_2 dX5_rowsOf_12 rfl ?_
    refine rr_iinc_3 1 dX5_rowsOf_13 (by decide) rfl ?_
    refine rr_goto 4 dX5_rowsOf_16 (by decide) ?_
    rw [nI_s k, pk_mul, show b ^ k * b = b ^ (k + 1) from (Nat.pow_succ b k).symm, show k + (m + 1) = (k + 1) + m by omega]
    exact ih (k + 1) (by omega)
set_option maxHeartbeats 4000000 in
set_option maxRecDepth 100000 in
theorem c_X5_rowsOf (N d : Nat) (σ : rd_S) (b n : Nat) (hn : n < 1000) : rd_T N (d + 0) yX5_rowsOf cX5_rowsOf 4 (some .int) [.int (nI b), .int (nI n)] σ (rd_is (some (.int (nI (b ^ n)))) σ) := by
  refine rd_start RX5 [.int (nI b), .int (nI n), .retAddr 0, .retAddr 0] rfl (by decide +kernel) rfl (Nat.le_of_ble_eq_true rfl) ?_
  refine rr_iconst (v := 1) dX5_rowsOf_0 (by decide) ?_
  refine rr_istoren_2 dX5_rowsOf_1 rfl ?_
  refine rr_iconst (v := 0) dX5_rowsOf_2 (by decide) ?_
  refine rr_istoren_3 dX5_rowsOf_3 rfl ?_
  have := lp_rowsOf N d σ b n 0 (by omega)
  rw [Nat.zero_add, Nat.pow_zero] at this
  exact this
def dr (kb : Int32) (code : Nat) : Nat → sd_D → Bool × sd_D
  | 0, D => (true, D)
  | m + 1, D => match sd_st D (nI (code / 3 ^ m % 3)) kb with
    | none => (false, D)
    | some E => dr kb code m E
theorem p3_le {m : Nat} (h : m ≤ 7) : 3 ^ m ≤ 2187 := Nat.pow_le_pow_right (by decide) h
theorem p3_pos (m : Nat) : 0 < 3 ^ m := Nat.pow_pos (by decide)
theorem fg3 (k : Nat) : fg4 (nI (k % 3)) := by
  rcases (show k % 3 = 0 ∨ k % 3 = 1 ∨ k % 3 = 2 by omega) with h | h | h <;> rw [h]
  · exact Or.inl rfl
  · exact Or.inr (Or.inl rfl)
  · exact Or.inr (Or.inr (Or.inl rfl))
theorem dr_wf {kb : Int32} {code : Nat} : ∀ {m c : Nat} {D : sd_D}, wf c D → c + m < 1000000 → wf (c + m) (dr kb code m D).2
  | 0, c, D, h, _ => h
  | m + 1, c, D, h, hc => by
    unfold dr
    split
    · exact h.up (by omega)
    · rename_i E hE
      have := dr_wf (kb := kb) (code := code) (m := m) (wf_go h (by omega) hE) (by omega)
      rwa [show c + (m + 1) = c + 1 + m by omega]
set_option maxHeartbeats 4000000 in
set_option maxRecDepth 100000 in
theorem lp_dancesRow (N d : Nat) (hN : 49 ≤ N) (σ : rd_S) (A : sd_D) (kb : Int32) (hk : kd_at σ kb) (code : Nat) (hcode : code < 100000) (nn : Int32) : ∀ (m c : Nat) (D : sd_D) (n : Int32), m ≤ 7 → wf c D → c + m < 1000000 → rd_W N (d + 3) RX5 cX5_dancesRow 5 (some .boolean) 11 [.ref 33, .int (nI code), .int nn, .int 1, .int (nI (3 ^ m / 3))] [] (ms σ D A n) (fun r s => r = some (.int (if (dr kb code m D).1 = true then 1 else 0)) ∧ ∃ n', s = ms σ (dr kb code m D).2 A n') := by
  intro m
  induction m with
  | zero =>
    intro c D n hm hw hc
    refine rr_iload_4 dX5_dancesRow_11 ?_
    refine rr_if_le 40 dX5_dancesRow_13 (by decide) (fun h13 => ?_) (fun h13 => absurd (by decide) h13)
    refine rr_iloadn_3 dX5_dancesRow_40 ?_
    exact rr_zret dX5_dancesRow_41 (by decide) ⟨by simp [dr], n, by simp [dr]⟩
  | succ m ih =>
    intro c D n hm hw hc
    have h3 := p3_le (show m ≤ 7 by omega)
    have h3p := p3_pos m
    have e0 : 3 ^ (m + 1) / 3 = 3 ^ m := by rw [Nat.pow_succ, Nat.mul_div_cancel _ (by decide)]
    rw [e0]
    have e1 : nI code / nI (3 ^ m) - nI code / nI (3 ^ m) / 3 * 3 = nI (code / 3 ^ m % 3) := by
      rw [pk_div (by omega) h3p (by omega)]
      have := Nat.div_le_self code (3 ^ m)
      exact pk_rem (d := 3) (by omega) (by decide) (by decide)
    have e2 : nI (3 ^ m) / 3 = nI (3 ^ m / 3) := pk_div (d := 3) (by omega) (by decide) (by decide)
    have fail : ∀ (k : Nat), rd_W N (d + 3) RX5 cX5_dancesRow 5 (some .boolean) 11 [.ref 33, .int (nI code), .int nn, .int 0, .int (nI k)] [] (ms σ D A 0) (rd_is (some (.int 0)) (ms σ D A 0)) := by
      intro k
      refine rr_iload_4 dX5_dancesRow_11 ?_
      refine rr_if_le 40 dX5_dancesRow_13 (by decide) (fun h13 => ?_) (fun h13 => ?_)
      · refine rr_iloadn_3 dX5_dancesRow_40 ?_
        exact rr_zret dX5_dancesRow_41 (by decide) ⟨rfl, rfl⟩
      · refine rr_iloadn_3 dX5_dancesRow_16 ?_
        refine rr_if_eq 40 dX5_dancesRow_17 (by decide) (fun _ => ?_) (fun h17 => absurd h17 (by decide))
        refine rr_iloadn_3 dX5_dancesRow_40 ?_
        exact rr_zret dX5_dancesRow_41 (by decide) ⟨rfl, rfl⟩
    refine rr_iload_4 dX5_dancesRow_11 ?_
    refine rr_if_le 40 dX5_dancesRow_13 (by decide) (fun h13 => absurd h13 (nI_nle h3p (by omega))) (fun h13 => ?_)
    refine rr_iloadn_3 dX5_dancesRow_16 ?_
    refine rr_if_eq 40 dX5_dancesRow_17 (by decide) (fun h17 => absurd h17 (by decide)) (fun _ => ?_)
    refine rr_aloadn_0 dX5_dancesRow_20 ?_
    refine rr_iloadn_1 dX5_dancesRow_21 ?_
    refine rr_iload_4 dX5_dancesRow_22 ?_
    refine rr_idiv dX5_dancesRow_24 (nI_ne0 h3p (by omega)) ?_
    refine rr_iconst (v := 3) dX5_dancesRow_25 (by decide) ?_
    refine rr_irem dX5_dancesRow_26 (by decide) ?_
    rw [e1]
    rcases hst : sd_st D (nI (code / 3 ^ m % 3)) kb with _ | E
    · refine rr_callViD (c_dances_n N _ σ hN c (by omega) D A n kb hw hk _ (fg3 _) hst) km_X5_144 rfl rfl (by omega) rfl (Nat.le_of_ble_eq_true rfl) dX5_dancesRow_27 ?_
      refine rr_istoren_3 dX5_dancesRow_30 rfl ?_
      refine rr_iload_4 dX5_dancesRow_31 ?_
      refine rr_iconst (v := 3) dX5_dancesRow_33 (by decide) ?_
      refine rr_idiv dX5_dancesRow_34 (by decide) ?_
      rw [e2]
      refine rr_istore_4 dX5_dancesRow_35 rfl ?_
      refine rr_goto 11 dX5_dancesRow_37 (by decide) ?_
      refine (fail _).post (fun r s q => ?_)
      exact ⟨by rw [q.1]; simp [dr, hst], 0, by rw [q.2]; simp [dr, hst]⟩
    · refine rr_callViD (c_dances_s N _ σ hN c (by omega) D A n kb hw hk _ (fg3 _) hst) km_X5_144 rfl rfl (by omega) rfl (Nat.le_of_ble_eq_true rfl) dX5_dancesRow_27 ?_
      refine rr_istoren_3 dX5_dancesRow_30 rfl ?_
      refine rr_iload_4 dX5_dancesRow_31 ?_
      refine rr_iconst (v := 3) dX5_dancesRow_33 (by decide) ?_
      refine rr_idiv dX5_dancesRow_34 (by decide) ?_
      rw [e2]
      refine rr_istore_4 dX5_dancesRow_35 rfl ?_
      refine rr_goto 11 dX5_dancesRow_37 (by decide) ?_
      refine (ih (c + 1) E _ (by omega) (wf_go hw (by omega) hst) (by omega)).post (fun r s q => ?_)
      rw [show dr kb code (m + 1) D = dr kb code m E by simp [dr, hst]]
      exact q
set_option maxHeartbeats 4000000 in
set_option maxRecDepth 100000 in
theorem c_X5_dancesRow (N d : Nat) (σ : rd_S) (hN : 49 ≤ N) (c : Nat) (D A : sd_D) (n0 kb : Int32) (hw : wf c D) (hk : kd_at σ kb) (code n : Nat) (hcode : code < 100000) (hn : n ≤ 7) (hc : c + n < 1000000) : rd_T N (d + 3) yX5_dancesRow cX5_dancesRow 5 (some .boolean) [.ref 33, .int (nI code), .int (nI n)] (ms σ D A n0) (fun r s => r = some (.int (if (dr kb code n D).1 = true then 1 else 0)) ∧ ∃ n', s = ms σ (dr kb code n D).2 A n') := by
  refine rd_start RX5 [.ref 33, .int (nI code), .int (nI n), .retAddr 0, .retAddr 0] rfl (by decide +kernel) rfl (Nat.le_of_ble_eq_true rfl) ?_
  refine rr_iconst (v := 1) dX5_dancesRow_0 (by decide) ?_
  refine rr_istoren_3 dX5_dancesRow_1 rfl ?_
  refine rr_iconst (v := 3) dX5_dancesRow_2 (by decide) ?_
  refine rr_iloadn_2 dX5_dancesRow_3 ?_
  refine rr_callSiD (c_X5_rowsOf N _ _ 3 n (by omega)) km_X5_156 rfl rfl (Nat.le_of_ble_eq_true rfl) dX5_dancesRow_4 ?_
  refine rr_iconst (v := 3) dX5_dancesRow_7 (by decide) ?_
  refine rr_idiv dX5_dancesRow_8 (by decide) ?_
  rw [show nI (3 ^ n) / 3 = nI (3 ^ n / 3) from pk_div (d := 3) (by have := p3_le hn; omega) (by decide) (by decide)]
  refine rr_istore_4 dX5_dancesRow_9 rfl ?_
  exact lp_dancesRow N d hN σ A kb hk code hcode _ n c D n0 hn hw hc
set_option maxHeartbeats 4000000 in
set_option maxRecDepth 100000 in
theorem c_X5_isWound (N d : Nat) (σ : rd_S) (hN : 49 ≤ N) (D A : sd_D) (n u l : Int32) : rd_T N (d + 0) yX5_isWound cX5_isWound 3 (some .boolean) [.ref 33, .int u, .int l] (ms σ D A n) (rd_is (some (.int (if gw u l D = true then 1 else 0))) (ms σ D A n)) := by
  refine rd_start RX5 [.ref 33, .int u, .int l] rfl (by decide +kernel) rfl (Nat.le_of_ble_eq_true rfl) ?_
  refine rr_aloadn_0 dX5_isWound_0 ?_
  refine rr_getr 37 dX5_isWound_1 kf_X5_19 (by omega) rfl rfl rfl ?_
  refine rr_bipush (v := 8) dX5_isWound_4 (by decide) ?_
  refine rr_iald (8) dX5_isWound_6 (by omega) rfl rfl (by decide) ?_
  rw [show ms σ D A n 37 8 = D.2.2.1 from by rw [ms_st (by decide)]; rfl]
  refine rr_iloadn_1 dX5_isWound_7 ?_
  refine rr_icmp_ne 26 dX5_isWound_8 (by decide) (fun h8 => ?_) (fun h8 => ?_)
  · refine rr_iconst (v := 0) dX5_isWound_26 (by decide) ?_
    exact rr_zret dX5_isWound_27 (by decide) ⟨by simp [gw, *], rfl⟩
  · refine rr_aloadn_0 dX5_isWound_11 ?_
    refine rr_getr 37 dX5_isWound_12 kf_X5_19 (by omega) rfl rfl rfl ?_
    refine rr_bipush (v := 9) dX5_isWound_15 (by decide) ?_
    refine rr_iald (9) dX5_isWound_17 (by omega) rfl rfl (by decide) ?_
    rw [show ms σ D A n 37 9 = D.2.2.2.1 from by rw [ms_st (by decide)]; rfl]
    refine rr_iloadn_2 dX5_isWound_18 ?_
    refine rr_icmp_ne 26 dX5_isWound_19 (by decide) (fun h19 => ?_) (fun h19 => ?_)
    · refine rr_iconst (v := 0) dX5_isWound_26 (by decide) ?_
      exact rr_zret dX5_isWound_27 (by decide) ⟨by simp [gw, *], rfl⟩
    · refine rr_iconst (v := 1) dX5_isWound_22 (by decide) ?_
      refine rr_goto 27 dX5_isWound_23 (by decide) ?_
      exact rr_zret dX5_isWound_27 (by decide) ⟨by simp [gw, *], rfl⟩
theorem gm_odd : ∀ a, a < 4 → ∀ b, b < 4 → ((nI a - nI b) - (nI a - nI b) / 2 * 2 = 0 ↔ (nI a + nI b) - (nI a + nI b) / 2 * 2 = 0) := by decide +kernel
set_option maxHeartbeats 4000000 in
set_option maxRecDepth 100000 in
theorem c_X5_areBeside (N d : Nat) (σ : rd_S) (hN : 49 ≤ N) (c : Nat) (D A : sd_D) (n : Int32) (hw : wf c D) (i j : Nat) (hi : i < 4) (hj : j < 4) : rd_T N (d + 1) yX5_areBeside cX5_areBeside 4 (some .boolean) [.ref 33, .int (nI i), .int (nI j)] (ms σ D A n) (rd_is (some (.int (if gm (nI i) (nI j) D = true then 1 else 0))) (ms σ D A n)) := by
  refine rd_start RX5 [.ref 33, .int (nI i), .int (nI j), .retAddr 0] rfl (by decide +kernel) rfl (Nat.le_of_ble_eq_true rfl) ?_
  obtain ⟨x, r, b, h1, h2, h3, h4, h5, h6, h7, h8, h9⟩ := hw
  have hp := (pl_okk x h1 h2 i hi).1
  have hq := (pl_okk x h1 h2 j hj).1
  have ho := gm_odd _ (pl_lt x i) _ (pl_lt x j)
  refine rr_aloadn_0 dX5_areBeside_0 ?_
  refine rr_iloadn_1 dX5_areBeside_1 ?_
  refine rr_callViD (c_plc N _ _ hN D A n h1 h2 h5 hi) km_X5_111 rfl rfl (by omega) rfl (Nat.le_of_ble_eq_true rfl) dX5_areBeside_2 ?_
  refine rr_aloadn_0 dX5_areBeside_5 ?_
  refine rr_iloadn_2 dX5_areBeside_6 ?_
  refine rr_callViD (c_plc N _ _ hN D A n h1 h2 h5 hj) km_X5_111 rfl rfl (by omega) rfl (Nat.le_of_ble_eq_true rfl) dX5_areBeside_7 ?_
  refine rr_isub dX5_areBeside_10 ?_
  refine rr_istoren_3 dX5_areBeside_11 rfl ?_
  refine rr_iloadn_3 dX5_areBeside_12 ?_
  refine rr_iconst (v := 2) dX5_areBeside_13 (by decide) ?_
  refine rr_irem dX5_areBeside_14 (by decide) ?_
  refine rr_if_eq 22 dX5_areBeside_15 (by decide) (fun h15 => ?_) (fun h15 => ?_)
  · refine rr_iconst (v := 0) dX5_areBeside_22 (by decide) ?_
    exact rr_zret dX5_areBeside_23 (by decide) ⟨by rw [ho] at h15; simp only [gm, h5, hp, hq, decide_eq_true_eq]; first | (rw [if_neg (fun q => q h15)]; done) | (rw [if_pos h15]; done), rfl⟩
  · refine rr_iconst (v := 1) dX5_areBeside_18 (by decide) ?_
    refine rr_goto 23 dX5_areBeside_19 (by decide) ?_
    exact rr_zret dX5_areBeside_23 (by decide) ⟨by rw [ho] at h15; simp only [gm, h5, hp, hq, decide_eq_true_eq]; first | (rw [if_neg (fun q => q h15)]; done) | (rw [if_pos h15]; done), rfl⟩
/-- the first of m numbers from c on of which it holds -/
def se_in (P : Nat → Bool) : Nat → Nat → Option Nat
  | 0, _ => none
  | m + 1, c => if P c = true then some c else se_in P m (c + 1)
def se_P (G : sd_D → Bool) (kb : Int32) (D : sd_D) (n code : Nat) : Bool := (dr kb code n D).1 && G (dr kb code n D).2
def se_out (G : sd_D → Bool) (kb : Int32) (D : sd_D) : Nat → Nat → Option (Nat × Nat)
  | 0, _ => none
  | m + 1, n => match se_in (se_P G kb D n) (3 ^ n) 0 with
    | some c => some (n, c)
    | none => se_out G kb D m (n + 1)
/-- what is looked for: u by l (i below 0), or that two are beside one another -/
def se_G (u l i j : Int32) (G : sd_D → Bool) : Prop := (i = -1 ∧ G = gw u l) ∨ ∃ a b : Nat, a < 4 ∧ b < 4 ∧ i = nI a ∧ j = nI b ∧ G = gm (nI a) (nI b)
def se_eq (τ σ : rd_S) : Prop := ∀ a b, ¬ (a = 33 ∧ (b = 20 ∨ b = 21)) → τ a b = σ a b
theorem se_eq.kd {τ σ : rd_S} (h : se_eq τ σ) {kb : Int32} (hk : kd_at σ kb) : kd_at τ kb := fun i hi => by rw [h _ _ (by omega)]; exact hk i hi
theorem se_eq.u2 {τ σ : rd_S} (h : se_eq τ σ) {k : Nat} (hk : k = 20 ∨ k = 21) (v : Int32) : se_eq (rd_u2 τ 33 k v) σ := fun a b q => by rw [u2_off (by omega)]; exact h a b q
theorem m4_lt0 : ((-4 : Int32) < 0) := by decide
set_option maxHeartbeats 4000000 in
set_option maxRecDepth 100000 in
theorem lp_search1 (N d : Nat) (hN : 49 ≤ N) (σ : rd_S) (c : Nat) (hc : c + 8 < 1000000) (D : sd_D) (kb u l i j : Int32) (G : sd_D → Bool) (hw : wf c D) (hk : kd_at σ kb) (hG : se_G u l i j G) (n : Nat) (hn : n ≤ 7) (Q : Option Value → rd_S → Prop)
    (K : ∀ (τ : rd_S) (v : Value) (n0 : Int32), se_eq τ σ → (match se_in (se_P G kb D n) (3 ^ n) 0 with | some k => τ 33 20 = nI n ∧ τ 33 21 = nI k | none => τ 33 20 = -4) → rd_W N (d + 4) RX5 cX5_search 7 none 107 [.ref 33, .int u, .int l, .int i, .int j, .int (nI n), v] [] (ms τ D D n0) Q) :
    ∀ (m k : Nat) (τ : rd_S) (n0 : Int32), k + m = 3 ^ n → se_eq τ σ → τ 33 20 = -4 → se_in (se_P G kb D n) (3 ^ n) 0 = se_in (se_P G kb D n) m k → rd_W N (d + 4) RX5 cX5_search 7 none 30 [.ref 33, .int u, .int l, .int i, .int j, .int (nI n), .int (nI k)] [] (ms τ D D n0) Q := by
  have h3 := p3_le hn
  intro m
  induction m with
  | zero =>
    intro k τ n0 hkm he hf hs
    refine rr_iload_6 dX5_search_30 ?_
    refine rr_iconst (v := 3) dX5_search_32 (by decide) ?_
    refine rr_iload_5 dX5_search_33 ?_
    refine rr_callSiD (c_X5_rowsOf N _ _ 3 n (by omega)) km_X5_156 rfl rfl (Nat.le_of_ble_eq_true rfl) dX5_search_35 ?_
    refine rr_icmp_ge 107 dX5_search_38 (by decide) (fun h38 => ?_) (fun h38 => absurd ((nI_lek (by omega) (by omega)).mpr (by omega)) h38)
    exact K τ _ n0 he (by rw [hs]; exact hf)
  | succ m ih =>
    intro k τ n0 hkm he hf hs
    have hkt := he.kd hk
    have hfm : ms τ D D n0 33 20 = -4 := by rw [ms_ne (by decide) (by decide) (by omega)]; exact hf
    have hwd := dr_wf (kb := kb) (code := k) (m := n) hw (by omega)
    have hT := c_X5_dancesRow N d τ hN c D D n0 kb hw hkt k n (by omega) hn (by omega)
    have hP : se_P G kb D n k = ((dr kb k n D).1 && G (dr kb k n D).2) := rfl
    generalize dr kb k n D = q at hT hwd hP
    obtain ⟨b, E⟩ := q
    dsimp only at hT hwd hP
    have next : ∀ (n1 : Int32), se_P G kb D n k = false → rd_W N (d + 4) RX5 cX5_search 7 none 97 [.ref 33, .int u, .int l, .int i, .int j, .int (nI n), .int (nI k)] [] (ms τ E D n1) Q := by
      intro n1 hPf
      refine rr_aloadn_0 dX5_search_97 ?_
      refine rr_callVvD (c_tb N _ _ hN E D n1) km_X5_147 rfl rfl (by omega) rfl (Nat.le_of_ble_eq_true rfl) dX5_search_98 ?_
      refine rr_iinc_6 1 dX5_search_101 (by decide) rfl ?_
      refine rr_goto 30 dX5_search_104 (by decide) ?_
      rw [nI_s k]
      exact ih (k + 1) τ n1 (by omega) he hf (by rw [hs, se_in, hPf]; rfl)
    have yes : ∀ (n1 : Int32), se_P G kb D n k = true → rd_W N (d + 4) RX5 cX5_search 7 none 85 [.ref 33, .int u, .int l, .int i, .int j, .int (nI n), .int (nI k)] [] (ms τ E D n1) Q := by
      intro n1 hPt
      have hf2 : (rd_u2 (rd_u2 τ 33 20 (nI n)) 33 21 (nI k)) 33 20 = nI n := by simp [rd_u2]
      have hf1 : (rd_u2 (rd_u2 τ 33 20 (nI n)) 33 21 (nI k)) 33 21 = nI k := u2_at _ _ _ _
      have hgf : ∀ v : Int32, ms (rd_u2 (rd_u2 τ 33 20 (nI n)) 33 21 (nI k)) D D n1 33 20 = nI n := fun _ => by rw [ms_ne (by decide) (by decide) (by omega)]; exact hf2
      refine rr_aloadn_0 dX5_search_85 ?_
      refine rr_iload_5 dX5_search_86 ?_
      refine rr_puti dX5_search_88 kf_X5_159 if_5_20 (by omega) rfl rfl ?_
      rw [ms_u2 (by decide) (by decide) (by decide)]
      refine rr_aloadn_0 dX5_search_91 ?_
      refine rr_iload_6 dX5_search_92 ?_
      refine rr_puti dX5_search_94 kf_X5_171 if_5_21 (by omega) rfl rfl ?_
      rw [ms_u2 (by decide) (by decide) (by decide)]
      refine rr_aloadn_0 dX5_search_97 ?_
      refine rr_callVvD (c_tb N _ _ hN E D n1) km_X5_147 rfl rfl (by omega) rfl (Nat.le_of_ble_eq_true rfl) dX5_search_98 ?_
      refine rr_iinc_6 1 dX5_search_101 (by decide) rfl ?_
      refine rr_goto 30 dX5_search_104 (by decide) ?_
      refine rr_iload_6 dX5_search_30 ?_
      refine rr_iconst (v := 3) dX5_search_32 (by decide) ?_
      refine rr_iload_5 dX5_search_33 ?_
      refine rr_callSiD (c_X5_rowsOf N _ _ 3 n (by omega)) km_X5_156 rfl rfl (Nat.le_of_ble_eq_true rfl) dX5_search_35 ?_
      refine rr_icmp_ge 107 dX5_search_38 (by decide) (fun h38 => ?_) (fun h38 => ?_)
      · exact K _ _ n1 ((he.u2 (Or.inl rfl) _).u2 (Or.inr rfl) _) (by rw [hs, se_in, hPt]; exact ⟨hf2, hf1⟩)
      · refine rr_aloadn_0 dX5_search_41 ?_
        refine rr_geti dX5_search_42 kf_X5_159 (by omega) rfl rfl ?_
        rw [hgf 0]
        refine rr_if_ge 107 dX5_search_45 (by decide) (fun h45 => ?_) (fun h45 => absurd (nI_pos' (by omega)) h45)
        exact K _ _ n1 ((he.u2 (Or.inl rfl) _).u2 (Or.inr rfl) _) (by rw [hs, se_in, hPt]; exact ⟨hf2, hf1⟩)
    refine rr_iload_6 dX5_search_30 ?_
    refine rr_iconst (v := 3) dX5_search_32 (by decide) ?_
    refine rr_iload_5 dX5_search_33 ?_
    refine rr_callSiD (c_X5_rowsOf N _ _ 3 n (by omega)) km_X5_156 rfl rfl (Nat.le_of_ble_eq_true rfl) dX5_search_35 ?_
    refine rr_icmp_ge 107 dX5_search_38 (by decide) (fun h38 => absurd ((nI_lek (by omega) (by omega)).mp h38) (by omega)) (fun h38 => ?_)
    refine rr_aloadn_0 dX5_search_41 ?_
    refine rr_geti dX5_search_42 kf_X5_159 (by omega) rfl rfl ?_
    rw [hfm]
    refine rr_if_ge 107 dX5_search_45 (by decide) (fun h45 => absurd h45 (by decide)) (fun h45 => ?_)
    refine rr_aloadn_0 dX5_search_48 ?_
    refine rr_iload_6 dX5_search_49 ?_
    refine rr_iload_5 dX5_search_51 ?_
    refine rr_callVi hT km_X5_162 rfl rfl (by omega) rfl (Nat.le_of_ble_eq_true rfl) dX5_search_53 (fun r53 s53 q53 => ?_)
    obtain ⟨hr, n1, rfl⟩ := q53
    cases hr
    cases b
    · refine rr_if_eq 97 dX5_search_56 (by decide) (fun h56 => ?_) (fun h56 => absurd (by simp) h56)
      exact next n1 (by rw [hP]; rfl)
    · rcases hG with ⟨rfl, rfl⟩ | ⟨a, b2, ha, hb, rfl, rfl, rfl⟩
      · refine rr_if_eq 97 dX5_search_56 (by decide) (fun h56 => absurd h56 (by simp)) (fun h56 => ?_)
        refine rr_iloadn_3 dX5_search_59 ?_
        refine rr_if_ge 75 dX5_search_60 (by decide) (fun h60 => absurd h60 (by decide)) (fun h60 => ?_)
        refine rr_aloadn_0 dX5_search_63 ?_
        refine rr_iloadn_1 dX5_search_64 ?_
        refine rr_iloadn_2 dX5_search_65 ?_
        refine rr_callViD (c_X5_isWound N _ _ hN E D n1 u l) km_X5_165 rfl rfl (by omega) rfl (Nat.le_of_ble_eq_true rfl) dX5_search_66 ?_
        by_cases hg : gw u l E = true
        · rw [if_pos hg]
          refine rr_if_eq 97 dX5_search_69 (by decide) (fun h69 => absurd h69 (by decide)) (fun h69 => ?_)
          refine rr_goto 85 dX5_search_72 (by decide) ?_
          exact yes n1 (by rw [hP]; simp [hg])
        · rw [if_neg hg]
          refine rr_if_eq 97 dX5_search_69 (by decide) (fun h69 => ?_) (fun h69 => absurd rfl h69)
          exact next n1 (by rw [hP]; simp [hg])
      · refine rr_if_eq 97 dX5_search_56 (by decide) (fun h56 => absurd h56 (by simp)) (fun h56 => ?_)
        refine rr_iloadn_3 dX5_search_59 ?_
        refine rr_if_ge 75 dX5_search_60 (by decide) (fun h60 => ?_) (fun h60 => absurd (nI_pos' (by omega)) h60)
        refine rr_aloadn_0 dX5_search_75 ?_
        refine rr_iloadn_3 dX5_search_76 ?_
        refine rr_iload_4 dX5_search_77 ?_
        refine rr_callViD (c_X5_areBeside N _ _ hN _ E D n1 hwd a b2 ha hb) km_X5_168 rfl rfl (by omega) rfl (Nat.le_of_ble_eq_true rfl) dX5_search_79 ?_
        by_cases hg : gm (nI a) (nI b2) E = true
        · rw [if_pos hg]
          refine rr_if_eq 97 dX5_search_82 (by decide) (fun h82 => absurd h82 (by decide)) (fun h82 => ?_)
          exact yes n1 (by rw [hP]; simp [hg])
        · rw [if_neg hg]
          refine rr_if_eq 97 dX5_search_82 (by decide) (fun h82 => ?_) (fun h82 => absurd rfl h82)
          exact next n1 (by rw [hP]; simp [hg])
def se_post (σ s : rd_S) (D : sd_D) (res : Option (Nat × Nat)) : Prop := ∃ (τ : rd_S) (n0 : Int32), s = ms τ D D n0 ∧ se_eq τ σ ∧ (match res with | some q => τ 33 20 = nI q.1 ∧ τ 33 21 = nI q.2 | none => τ 33 20 = -4)
set_option maxHeartbeats 4000000 in
set_option maxRecDepth 100000 in
theorem lp_search2 (N d : Nat) (hN : 49 ≤ N) (σ : rd_S) (c : Nat) (hc : c + 8 < 1000000) (D : sd_D) (kb u l i j : Int32) (G : sd_D → Bool) (hw : wf c D) (hk : kd_at σ kb) (hG : se_G u l i j G) :
    ∀ (m n : Nat) (τ : rd_S) (n0 : Int32) (v : Value), n + m = 8 → se_eq τ σ → τ 33 20 = -4 → rd_W N (d + 4) RX5 cX5_search 7 none 13 [.ref 33, .int u, .int l, .int i, .int j, .int (nI n), v] [] (ms τ D D n0) (fun r s => r = none ∧ se_post σ s D (se_out G kb D m n)) := by
  intro m
  induction m with
  | zero =>
    intro n τ n0 v hnm he hf
    obtain rfl : n = 8 := hnm
    refine rr_iload_5 dX5_search_13 ?_
    refine rr_bipush (v := 7) dX5_search_15 (by decide) ?_
    refine rr_icmp_gt 113 dX5_search_17 (by decide) (fun h17 => ?_) (fun h17 => absurd (by decide) h17)
    exact rr_vret dX5_search_113 ⟨rfl, τ, n0, rfl, he, hf⟩
  | succ m ih =>
    intro n τ n0 v hnm he hf
    have hfm : ms τ D D n0 33 20 = -4 := by rw [ms_ne (by decide) (by decide) (by omega)]; exact hf
    have fin : ∀ (q : Nat) (τ : rd_S) (v : Value) (n1 : Int32) (k : Nat), se_eq τ σ → q ≤ 8 → τ 33 20 = nI q → τ 33 21 = nI k → se_out G kb D (m + 1) n = some (q, k) → ∀ n2 : Nat, rd_W N (d + 4) RX5 cX5_search 7 none 13 [.ref 33, .int u, .int l, .int i, .int j, .int (nI n2), v] [] (ms τ D D n1) (fun r s => r = none ∧ se_post σ s D (se_out G kb D (m + 1) n)) := by
      intro q τ v n1 k he2 hq8 g20 g21 hs n2
      have g20m : ms τ D D n1 33 20 = nI q := by rw [ms_ne (by decide) (by decide) (by omega)]; exact g20
      refine rr_iload_5 dX5_search_13 ?_
      refine rr_bipush (v := 7) dX5_search_15 (by decide) ?_
      refine rr_icmp_gt 113 dX5_search_17 (by decide) (fun h17 => ?_) (fun h17 => ?_)
      · exact rr_vret dX5_search_113 ⟨rfl, τ, n1, rfl, he2, by rw [hs]; exact ⟨g20, g21⟩⟩
      · refine rr_aloadn_0 dX5_search_20 ?_
        refine rr_geti dX5_search_21 kf_X5_159 (by omega) rfl rfl ?_
        rw [g20m]
        refine rr_if_ge 113 dX5_search_24 (by decide) (fun h24 => ?_) (fun h24 => absurd (nI_pos' (by omega)) h24)
        exact rr_vret dX5_search_113 ⟨rfl, τ, n1, rfl, he2, by rw [hs]; exact ⟨g20, g21⟩⟩
    refine rr_iload_5 dX5_search_13 ?_
    refine rr_bipush (v := 7) dX5_search_15 (by decide) ?_
    refine rr_icmp_gt 113 dX5_search_17 (by decide) (fun h17 => absurd ((nI_lt8 (a := 7) (by omega) (by omega)).mp h17) (by omega)) (fun h17 => ?_)
    refine rr_aloadn_0 dX5_search_20 ?_
    refine rr_geti dX5_search_21 kf_X5_159 (by omega) rfl rfl ?_
    rw [hfm]
    refine rr_if_ge 113 dX5_search_24 (by decide) (fun h24 => absurd h24 (by decide)) (fun h24 => ?_)
    refine rr_iconst (v := 0) dX5_search_27 (by decide) ?_
    refine rr_istore_6 dX5_search_28 rfl ?_
    refine lp_search1 N d hN σ c hc D kb u l i j G hw hk hG n (by omega) _ (fun τ2 v2 n2 he2 hm => ?_) (3 ^ n) 0 τ n0 (by omega) he hf rfl
    refine rr_iinc_5 1 dX5_search_107 (by decide) rfl ?_
    refine rr_goto 13 dX5_search_110 (by decide) ?_
    rw [nI_s n]
    rcases hse : se_in (se_P G kb D n) (3 ^ n) 0 with _ | k
    · rw [hse] at hm
      refine (ih (n + 1) τ2 n2 v2 (by omega) he2 hm).post (fun r s q => ?_)
      rw [show se_out G kb D (m + 1) n = se_out G kb D m (n + 1) by simp [se_out, hse]]
      exact q
    · rw [hse] at hm
      exact fin n τ2 v2 n2 k he2 (by omega) hm.1 hm.2 (by simp [se_out, hse]) (n + 1)
set_option maxHeartbeats 4000000 in
set_option maxRecDepth 100000 in
theorem c_X5_search (N d : Nat) (σ : rd_S) (hN : 49 ≤ N) (c : Nat) (hc : c + 8 < 1000000) (D : sd_D) (kb u l i j : Int32) (G : sd_D → Bool) (hw : wf c D) (hk : kd_at σ kb) (hG : se_G u l i j G) (hD : md_at σ D) : rd_T N (d + 4) yX5_search cX5_search 7 none [.ref 33, .int u, .int l, .int i, .int j] σ (fun r s => r = none ∧ se_post σ s D (se_out G kb D 8 0)) := by
  refine rd_start RX5 [.ref 33, .int u, .int l, .int i, .int j, .retAddr 0, .retAddr 0] rfl (by decide +kernel) rfl (Nat.le_of_ble_eq_true rfl) ?_
  have he : se_eq (rd_u2 σ 33 20 (-4)) σ := fun a b q => u2_off (by omega)
  refine rr_aloadn_0 dX5_search_0 ?_
  refine rr_bipush (v := (-4)) dX5_search_1 (by decide) ?_
  refine rr_puti dX5_search_3 kf_X5_159 if_5_20 (by omega) rfl rfl ?_
  refine rr_aloadn_0 dX5_search_6 ?_
  refine rr_callVvD (c_pa N _ _ hN D (fun k hk => by rw [u2_off (by omega)]; exact hD k hk)) km_X5_141 rfl rfl (by omega) rfl (Nat.le_of_ble_eq_true rfl) dX5_search_7 ?_
  refine rr_iconst (v := 0) dX5_search_10 (by decide) ?_
  refine rr_istore_5 dX5_search_11 rfl ?_
  exact lp_search2 N d hN σ c hc D kb u l i j G hw hk hG 8 0 _ _ _ rfl he (u2_at _ _ _ _)
