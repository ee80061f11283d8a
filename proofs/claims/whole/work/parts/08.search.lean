/-! ===== Pile and Search ===== -/
def sd_st (D : sd_D) (f kb : Int32) : Option sd_D := if 9999 < sd_abs (D.2.2.1 + sd_tw D f kb * D.2.2.2.1) then none else some (sd_go D f (sd_tw D f kb))
theorem sd_rd_wr (σ : rd_S) (o : Nat) (D : sd_D) : sd_rd (sd_wr σ o D) o = D := by
  obtain ⟨a, b, c, e, f, g⟩ := D
  simp [sd_rd, sd_wr]
theorem sd_rd_ne {σ : rd_S} {o q : Nat} (D : sd_D) (h : q ≠ o) : sd_rd (sd_wr σ o D) q = sd_rd σ q := by
  simp [sd_rd, sd_wr, h]
theorem sd_wr_wr (σ : rd_S) (o : Nat) (D E : sd_D) : sd_wr (sd_wr σ o D) o E = sd_wr σ o E := by
  apply sd_ext o <;> intros <;> simp_all [sd_wr]
theorem sd_wr_ne {σ : rd_S} {o a b : Nat} (D : sd_D) (h : a ≠ o) : sd_wr σ o D a b = σ a b := by simp [sd_wr, h]
theorem sd_rd_u2 {σ : rd_S} {o k q : Nat} {v : Int32} (h : q ≠ o) : sd_rd (rd_u2 σ o k v) q = sd_rd σ q := by
  simp [sd_rd, rd_u2, h]
theorem c_step_s (N d o : Nat) (σ : rd_S) (f kb : Int32) (ho : o < N) (hk : rd_kd o = 3) {D' : sd_D} (h : sd_st (sd_rd σ o) f kb = some D') : rd_T N (d + 2) yX3_step cX3_step 4 (some .boolean) [.ref o, .int f, .int kb] σ (rd_is (some (.int 1)) (sd_wr σ o D')) := by
  refine (c_X3_step N d o σ f kb ho hk).post (fun r u q => ?_)
  unfold sd_st at h
  split at h
  · cases h
  · rename_i hn
    cases h
    exact q.2 hn
theorem c_step_n (N d o : Nat) (σ : rd_S) (f kb : Int32) (ho : o < N) (hk : rd_kd o = 3) (h : sd_st (sd_rd σ o) f kb = none) : rd_T N (d + 2) yX3_step cX3_step 4 (some .boolean) [.ref o, .int f, .int kb] σ (rd_is (some (.int 0)) σ) := by
  refine (c_X3_step N d o σ f kb ho hk).post (fun r u q => ?_)
  unfold sd_st at h
  split at h
  · rename_i hn
    exact q.1 hn
  · cases h
/-- a pile: its object, its row, its first stand, how many -/
def pl_ok (N o a b c : Nat) : Prop := o < N ∧ rd_kd o = 0 ∧ a < N ∧ rd_kd a = 8 ∧ rd_rf o 0 = a ∧ rd_len a = c ∧ (∀ j, j < c → b + j < N ∧ rd_kd (b + j) = 3 ∧ rd_rf a j = b + j) ∧ 0 < c ∧ c ≤ 8 ∧ (o < b ∨ b + c ≤ o)
theorem pl_past {N : Nat} (h : 33 ≤ N) : pl_ok N 5 6 7 8 := ⟨by omega, rfl, by omega, rfl, rfl, rfl, fun j hj => ⟨by omega, by revert j; decide, rfl⟩, by decide, by decide, by decide⟩
theorem pl_shelf {N : Nat} (h : 33 ≤ N) : pl_ok N 15 16 17 2 := ⟨by omega, rfl, by omega, rfl, rfl, rfl, fun j hj => ⟨by omega, by revert j; decide, rfl⟩, by decide, by decide, by decide⟩
def pl_slot (c nx : Nat) : Nat := if nx < c then nx else 0
theorem nI_lt8 {a b : Nat} (ha : a < 1000) (hb : b < 1000) : nI a < nI b ↔ a < b := nI_ltI (by omega) (by omega)
theorem nI_le8 {a b : Nat} (ha : a < 1000) (hb : b < 1000) : nI a ≤ nI b ↔ a ≤ b := nI_leI (by omega) (by omega)
theorem nI_gt0 {n : Nat} (h0 : 0 < n) (h : n < 1000) : 0 < nI n := (nI_lt8 (a := 0) (by omega) h).mpr h0
theorem nI_eq8 {a b : Nat} (ha : a < 1000) (hb : b < 1000) : nI a = nI b ↔ a = b := nI_eq (by omega) (by omega)
set_option maxHeartbeats 4000000 in
set_option maxRecDepth 100000 in
theorem c_X0_clear (N d o : Nat) (σ : rd_S) (ho : o < N) (hk : rd_kd o = 0) : rd_T N (d + 0) yX0_clear cX0_clear 1 none [.ref o] σ (rd_is none (rd_u2 σ o 2 0)) := by
  refine rd_start RX0 [.ref o] rfl (by decide +kernel) rfl (Nat.le_of_ble_eq_true rfl) ?_
  refine rr_aloadn_0 dX0_clear_0 ?_
  refine rr_iconst (v := 0) dX0_clear_1 (by decide) ?_
  refine rr_puti dX0_clear_2 kf_X0_22 if_0_2 ho hk rfl ?_
  exact rr_vret dX0_clear_5 ⟨rfl, rfl⟩
set_option maxHeartbeats 4000000 in
set_option maxRecDepth 100000 in
theorem c_X0_isFull (N d o a b c : Nat) (σ : rd_S) (hp : pl_ok N o a b c) (sz : Nat) (hs : σ o 2 = nI sz) (hs1 : sz < 1000) : rd_T N (d + 0) yX0_isFull cX0_isFull 1 (some .boolean) [.ref o] σ (rd_is (some (.int (if sz < c then 0 else 1))) σ) := by
  refine rd_start RX0 [.ref o] rfl (by decide +kernel) rfl (Nat.le_of_ble_eq_true rfl) ?_
  obtain ⟨ho, hk, ha, hka, hra, hla, hb, hc0, hc8, hob⟩ := hp
  refine rr_aloadn_0 dX0_isFull_0 ?_
  refine rr_geti dX0_isFull_1 kf_X0_22 ho hk rfl ?_
  rw [hs]
  refine rr_aloadn_0 dX0_isFull_4 ?_
  refine rr_getr a dX0_isFull_5 kf_X0_15 ho hk rfl hra ?_
  refine rr_alen (v := nI c) dX0_isFull_8 ha (by rw [hka]; decide) (by rw [hla]) ?_
  refine rr_icmp_lt 16 dX0_isFull_9 (by decide) (fun h9 => ?_) (fun h9 => ?_)
  · refine rr_iconst (v := 0) dX0_isFull_16 (by decide) ?_
    exact rr_zret dX0_isFull_17 (by decide) ⟨by rw [nI_lt8 hs1 (by omega)] at h9; simp [h9], rfl⟩
  · refine rr_iconst (v := 1) dX0_isFull_12 (by decide) ?_
    refine rr_goto 17 dX0_isFull_13 (by decide) ?_
    exact rr_zret dX0_isFull_17 (by decide) ⟨by rw [nI_lt8 hs1 (by omega)] at h9; simp [h9], rfl⟩
set_option maxHeartbeats 4000000 in
set_option maxRecDepth 100000 in
theorem c_X0_push (N d o a b c : Nat) (σ : rd_S) (hp : pl_ok N o a b c) (q nx sz : Nat) (hq : q < N) (hkq : rd_kd q = 3) (hn : σ o 1 = nI nx) (hn1 : nx ≤ c) (hs : σ o 2 = nI sz) (hs1 : sz ≤ c) : rd_T N (d + 1) yX0_push cX0_push 2 none [.ref o, .ref q] σ (rd_is none (rd_u2 (rd_u2 (sd_wr σ (b + pl_slot c nx) (sd_rd σ q)) o 1 (nI (pl_slot c nx + 1))) o 2 (nI (min (sz + 1) c)))) := by
  refine rd_start RX0 [.ref o, .ref q] rfl (by decide +kernel) rfl (Nat.le_of_ble_eq_true rfl) ?_
  obtain ⟨ho, hk, ha, hka, hra, hla, hb, hc0, hc8, hob⟩ := hp
  have hsl : pl_slot c nx < c := by unfold pl_slot; split <;> omega
  obtain ⟨hb1, hb2, hb3⟩ := hb _ hsl
  have hbo : b + pl_slot c nx ≠ o := by omega
  have hko : q ≠ o := fun h => by rw [h, hk] at hkq; cases hkq
  have K : ∀ τ : rd_S, τ o 1 = nI (pl_slot c nx) → (∀ x y, x ≠ o → τ x y = σ x y) → (∀ y, y ≠ 1 → τ o y = σ o y) → rd_W N (d + 1) RX0 cX0_push 2 none 24 [.ref o, .ref q] [] τ (rd_is none (rd_u2 (rd_u2 (sd_wr σ (b + pl_slot c nx) (sd_rd σ q)) o 1 (nI (pl_slot c nx + 1))) o 2 (nI (min (sz + 1) c)))) := by
    intro τ h1 h2 h3
    have e2 : τ o 2 = nI sz := by rw [h3 2 (by decide)]; exact hs
    have erd : sd_rd τ q = sd_rd σ q := by simp [sd_rd, h2 _ _ hko]
    refine rr_aloadn_0 dX0_push_24 ?_
    refine rr_getr a dX0_push_25 kf_X0_15 ho hk rfl hra ?_
    refine rr_aloadn_0 dX0_push_28 ?_
    refine rr_geti dX0_push_29 kf_X0_26 ho hk rfl ?_
    refine rr_aald (pl_slot c nx) (b + pl_slot c nx) dX0_push_32 ha hka h1 (by rw [hla]; exact hsl) hb3 ?_
    refine rr_aloadn_1 dX0_push_33 ?_
    refine rr_callVvD (c_X3_take N _ _ _ _ hb1 hb2 hq hkq) km_X0_29 rfl rfl hb1 hb2 (Nat.le_of_ble_eq_true rfl) dX0_push_34 ?_
    refine rr_aloadn_0 dX0_push_37 ?_
    refine rr_dup dX0_push_38 rfl ?_
    refine rr_geti dX0_push_39 kf_X0_26 ho hk rfl ?_
    refine rr_iconst (v := 1) dX0_push_42 (by decide) ?_
    rw [show sd_wr τ (b + pl_slot c nx) (sd_rd τ q) o 1 = nI (pl_slot c nx) by rw [sd_wr_ne _ (Ne.symm hbo)]; exact h1]
    refine rr_iadd dX0_push_43 ?_
    refine rr_puti dX0_push_44 kf_X0_26 if_0_1 ho hk rfl ?_
    refine rr_aloadn_0 dX0_push_47 ?_
    refine rr_aloadn_0 dX0_push_48 ?_
    refine rr_geti dX0_push_49 kf_X0_22 ho hk rfl ?_
    refine rr_iconst (v := 1) dX0_push_52 (by decide) ?_
    rw [show ∀ v, rd_u2 (sd_wr τ (b + pl_slot c nx) (sd_rd τ q)) o 1 v o 2 = nI sz from fun v => by simp [rd_u2, sd_wr_ne _ (Ne.symm hbo), e2]]
    refine rr_iadd dX0_push_53 ?_
    refine rr_aloadn_0 dX0_push_54 ?_
    refine rr_getr a dX0_push_55 kf_X0_15 ho hk rfl hra ?_
    refine rr_alen (v := nI c) dX0_push_58 ha (by rw [hka]; decide) (by rw [hla]) ?_
    refine rr_mmin dX0_push_59 kl_X0_33 (Nat.le_of_ble_eq_true rfl) kh_min ?_
    refine rr_puti dX0_push_62 kf_X0_22 if_0_2 ho hk rfl ?_
    refine rr_vret dX0_push_65 ⟨rfl, ?_⟩
    have e3 : (if nI c < nI sz + 1 then nI c else nI sz + 1) = nI (min (sz + 1) c) := by
      rw [nI_1]
      by_cases hlt : c < sz + 1
      · rw [if_pos ((nI_lt8 (by omega) (by omega)).mpr hlt), Nat.min_eq_right (by omega)]
      · rw [if_neg (fun h => hlt ((nI_lt8 (by omega) (by omega)).mp h)), Nat.min_eq_left (by omega)]
    rw [e3, nI_1, erd]
    funext x y
    by_cases hx : x = o
    · subst hx
      by_cases hy : y = 2
      · simp [rd_u2, hy]
      · by_cases hy1 : y = 1
        · simp [rd_u2, hy1]
        · simp [rd_u2, hy, hy1, sd_wr_ne _ (Ne.symm hbo), h3 _ hy1]
    · by_cases hx2 : x = b + pl_slot c nx
      · simp [rd_u2, hx, sd_wr, hx2, h2 _ _ hbo]
      · simp [rd_u2, hx, sd_wr, hx2, h2 _ _ hx]
  refine rr_aloadn_0 dX0_push_0 ?_
  refine rr_geti dX0_push_1 kf_X0_26 ho hk rfl ?_
  rw [hn]
  refine rr_if_lt 19 dX0_push_4 (by decide) (fun h4 => absurd h4 (nI_pos (by omega))) (fun h4 => ?_)
  refine rr_aloadn_0 dX0_push_7 ?_
  refine rr_geti dX0_push_8 kf_X0_26 ho hk rfl ?_
  rw [hn]
  refine rr_aloadn_0 dX0_push_11 ?_
  refine rr_getr a dX0_push_12 kf_X0_15 ho hk rfl hra ?_
  refine rr_alen (v := nI c) dX0_push_15 ha (by rw [hka]; decide) (by rw [hla]) ?_
  refine rr_icmp_lt 24 dX0_push_16 (by decide) (fun h16 => ?_) (fun h16 => ?_)
  · first | exact K _ (by rw [hn]; simp [pl_slot, (nI_lt8 (by omega) (by omega)).mp h16]) (fun _ _ _ => rfl) (fun _ _ => rfl) | exact K _ (by simp [rd_u2, pl_slot, show ¬ nx < c from fun q => h16 ((nI_lt8 (by omega) (by omega)).mpr q)]; rfl) (fun x y hx => by simp [rd_u2, hx]) (fun y hy => by simp [rd_u2, hy])
  · refine rr_aloadn_0 dX0_push_19 ?_
    refine rr_iconst (v := 0) dX0_push_20 (by decide) ?_
    refine rr_puti dX0_push_21 kf_X0_26 if_0_1 ho hk rfl ?_
    first | exact K _ (by rw [hn]; simp [pl_slot, (nI_lt8 (by omega) (by omega)).mp h16]) (fun _ _ _ => rfl) (fun _ _ => rfl) | exact K _ (by simp [rd_u2, pl_slot, show ¬ nx < c from fun q => h16 ((nI_lt8 (by omega) (by omega)).mpr q)]; rfl) (fun x y hx => by simp [rd_u2, hx]) (fun y hy => by simp [rd_u2, hy])
set_option maxHeartbeats 4000000 in
set_option maxRecDepth 100000 in
theorem c_pop_n (N d o a b c : Nat) (σ : rd_S) (hp : pl_ok N o a b c) (q : Nat) (hs : σ o 2 = 0) : rd_T N (d + 0) yX0_pop cX0_pop 2 (some .boolean) [.ref o, .ref q] σ (rd_is (some (.int 0)) σ) := by
  refine rd_start RX0 [.ref o, .ref q] rfl (by decide +kernel) rfl (Nat.le_of_ble_eq_true rfl) ?_
  obtain ⟨ho, hk, ha, hka, hra, hla, hb, hc0, hc8, hob⟩ := hp
  refine rr_aloadn_0 dX0_pop_0 ?_
  refine rr_geti dX0_pop_1 kf_X0_22 ho hk rfl ?_
  rw [hs]
  refine rr_if_gt 9 dX0_pop_4 (by decide) (fun h4 => absurd h4 (by decide)) (fun h4 => ?_)
  refine rr_iconst (v := 0) dX0_pop_7 (by decide) ?_
  exact rr_zret dX0_pop_8 (by decide) ⟨rfl, rfl⟩
def pl_prev (c nx : Nat) : Nat := if 0 < nx then nx - 1 else c - 1
set_option maxHeartbeats 4000000 in
set_option maxRecDepth 100000 in
theorem c_pop_s (N d o a b c : Nat) (σ : rd_S) (hp : pl_ok N o a b c) (q nx sz : Nat) (hq : q < N) (hkq : rd_kd q = 3) (hn : σ o 1 = nI nx) (hn1 : nx ≤ c) (hs : σ o 2 = nI (sz + 1)) (hs1 : sz + 1 ≤ c) (hqb : q < b ∨ b + c ≤ q) : rd_T N (d + 1) yX0_pop cX0_pop 2 (some .boolean) [.ref o, .ref q] σ (rd_is (some (.int 1)) (rd_u2 (sd_wr (rd_u2 σ o 1 (nI (pl_prev c nx))) q (sd_rd σ (b + pl_prev c nx))) o 2 (nI sz))) := by
  refine rd_start RX0 [.ref o, .ref q] rfl (by decide +kernel) rfl (Nat.le_of_ble_eq_true rfl) ?_
  obtain ⟨ho, hk, ha, hka, hra, hla, hb, hc0, hc8, hob⟩ := hp
  have hsl : pl_prev c nx < c := by unfold pl_prev; split <;> omega
  obtain ⟨hb1, hb2, hb3⟩ := hb _ hsl
  have hbo : b + pl_prev c nx ≠ o := by omega
  have hko : q ≠ o := fun h => by rw [h, hk] at hkq; cases hkq
  have K : rd_W N (d + 1) RX0 cX0_pop 2 (some .boolean) 45 [.ref o, .ref q] [.int (nI (pl_prev c nx)), .ref o] σ (rd_is (some (.int 1)) (rd_u2 (sd_wr (rd_u2 σ o 1 (nI (pl_prev c nx))) q (sd_rd σ (b + pl_prev c nx))) o 2 (nI sz))) := by
    refine rr_puti dX0_pop_45 kf_X0_26 if_0_1 ho hk rfl ?_
    refine rr_aloadn_1 dX0_pop_48 ?_
    refine rr_aloadn_0 dX0_pop_49 ?_
    refine rr_getr a dX0_pop_50 kf_X0_15 ho hk rfl hra ?_
    refine rr_aloadn_0 dX0_pop_53 ?_
    refine rr_geti dX0_pop_54 kf_X0_26 ho hk rfl ?_
    refine rr_aald (pl_prev c nx) (b + pl_prev c nx) dX0_pop_57 ha hka (by simp [rd_u2]) (by rw [hla]; exact hsl) hb3 ?_
    refine rr_callVvD (c_X3_take N _ _ _ _ hq hkq hb1 hb2) km_X0_29 rfl rfl hq hkq (Nat.le_of_ble_eq_true rfl) dX0_pop_58 ?_
    refine rr_aloadn_0 dX0_pop_61 ?_
    refine rr_dup dX0_pop_62 rfl ?_
    refine rr_geti dX0_pop_63 kf_X0_22 ho hk rfl ?_
    refine rr_iconst (v := 1) dX0_pop_66 (by decide) ?_
    rw [sd_wr_ne _ (Ne.symm hko), show ∀ v, rd_u2 σ o 1 v o 2 = nI (sz + 1) from fun v => by simp [rd_u2, hs]]
    refine rr_isub dX0_pop_67 ?_
    rw [nI_pred]
    refine rr_puti dX0_pop_68 kf_X0_22 if_0_2 ho hk rfl ?_
    refine rr_iconst (v := 1) dX0_pop_71 (by decide) ?_
    exact rr_zret dX0_pop_72 (by decide) ⟨rfl, by rw [sd_rd_u2 hbo]⟩
  refine rr_aloadn_0 dX0_pop_0 ?_
  refine rr_geti dX0_pop_1 kf_X0_22 ho hk rfl ?_
  refine rr_if_gt 9 dX0_pop_4 (by decide) (fun h4 => ?_) (fun h4 => absurd (by rw [hs]; exact nI_gt0 (by omega) (by omega)) h4)
  refine rr_aloadn_0 dX0_pop_9 ?_
  refine rr_aloadn_0 dX0_pop_10 ?_
  refine rr_geti dX0_pop_11 kf_X0_26 ho hk rfl ?_
  refine rr_if_le 38 dX0_pop_14 (by decide) (fun h14 => ?_) (fun h14 => ?_)
  · refine rr_aloadn_0 dX0_pop_38 ?_
    refine rr_getr a dX0_pop_39 kf_X0_15 ho hk rfl hra ?_
    refine rr_alen (v := nI c) dX0_pop_42 ha (by rw [hka]; decide) (by rw [hla]) ?_
    refine rr_iconst (v := 1) dX0_pop_43 (by decide) ?_
    refine rr_isub dX0_pop_44 ?_
    first | (rw [show nI nx - 1 = nI (pl_prev c nx) by unfold pl_prev; have h0 : 0 < nx := by { rcases Nat.eq_zero_or_pos nx with z | z; { subst z; exact absurd (by rw [hn]; decide) h14 }; { exact z } }; rw [if_pos h0]; obtain ⟨k, rfl⟩ : ∃ k, nx = k + 1 := ⟨nx - 1, by omega⟩; exact nI_pred k]; exact K) | (rw [show nI c - 1 = nI (pl_prev c nx) by unfold pl_prev; have h0 : ¬ 0 < nx := by { intro z; revert h14; rw [hn]; exact nI_nle z (by omega) }; rw [if_neg h0]; obtain ⟨k, rfl⟩ : ∃ k, c = k + 1 := ⟨c - 1, by omega⟩; exact nI_pred k]; exact K)
  · refine rr_aloadn_0 dX0_pop_17 ?_
    refine rr_geti dX0_pop_18 kf_X0_26 ho hk rfl ?_
    refine rr_aloadn_0 dX0_pop_21 ?_
    refine rr_getr a dX0_pop_22 kf_X0_15 ho hk rfl hra ?_
    refine rr_alen (v := nI c) dX0_pop_25 ha (by rw [hka]; decide) (by rw [hla]) ?_
    rw [hn]
    refine rr_icmp_gt 38 dX0_pop_26 (by decide) (fun h26 => absurd ((nI_lt8 (by omega) (by omega)).mp h26) (by omega)) (fun h26 => ?_)
    refine rr_aloadn_0 dX0_pop_29 ?_
    refine rr_geti dX0_pop_30 kf_X0_26 ho hk rfl ?_
    refine rr_iconst (v := 1) dX0_pop_33 (by decide) ?_
    rw [hn]
    refine rr_isub dX0_pop_34 ?_
    refine rr_goto 45 dX0_pop_35 (by decide) ?_
    first | (rw [show nI nx - 1 = nI (pl_prev c nx) by unfold pl_prev; have h0 : 0 < nx := by { rcases Nat.eq_zero_or_pos nx with z | z; { subst z; exact absurd (by rw [hn]; decide) h14 }; { exact z } }; rw [if_pos h0]; obtain ⟨k, rfl⟩ : ∃ k, nx = k + 1 := ⟨nx - 1, by omega⟩; exact nI_pred k]; exact K) | (rw [show nI c - 1 = nI (pl_prev c nx) by unfold pl_prev; have h0 : ¬ 0 < nx := by { intro z; revert h14; rw [hn]; exact nI_nle z (by omega) }; rw [if_neg h0]; obtain ⟨k, rfl⟩ : ∃ k, c = k + 1 := ⟨c - 1, by omega⟩; exact nI_pred k]; exact K)
