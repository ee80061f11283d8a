/-! ===== the reference: kinds ===== -/
def wk (K i v : Nat) : Nat := K - K / 8 ^ i % 8 * 8 ^ i + v * 8 ^ i
theorem wk_ok0 : ∀ a, a < 64 → ∀ b, b < 64 → ∀ i, i < 4 → ∀ v, v < 6 → sd_withKind (nI (64 * a + b)) (nI i) (nI v) = nI (wk (64 * a + b) i v) := by decide +kernel
theorem kd_ok0 : ∀ a, a < 64 → ∀ b, b < 64 → ∀ i, i < 4 → sd_kind (nI (64 * a + b)) (nI i) = nI ((64 * a + b) / 8 ^ i % 8) := by decide +kernel
theorem wk_ok (K : Nat) (hK : K < 4096) (i : Nat) (hi : i < 4) (v : Nat) (hv : v < 6) : sd_withKind (nI K) (nI i) (nI v) = nI (wk K i v) := by
  have := wk_ok0 (K / 64) (by omega) (K % 64) (by omega) i hi v hv
  rwa [Nat.div_add_mod] at this
theorem kd_ok (K : Nat) (hK : K < 4096) (i : Nat) (hi : i < 4) : sd_kind (nI K) (nI i) = nI (K / 8 ^ i % 8) := by
  have := kd_ok0 (K / 64) (by omega) (K % 64) (by omega) i hi
  rwa [Nat.div_add_mod] at this
theorem wk_lt {K i v : Nat} (hK : K < 4096) (hi : i < 4) (hv : v < 6) : wk K i v < 4096 := by
  unfold wk
  rcases (show i = 0 ∨ i = 1 ∨ i = 2 ∨ i = 3 by omega) with rfl | rfl | rfl | rfl <;> simp only [Nat.reducePow] <;> omega
theorem wk_d {K i v j : Nat} (hK : K < 4096) (hi : i < 4) (hv : v < 6) (hj : j < 4) : wk K i v / 8 ^ j % 8 = if j = i then v else K / 8 ^ j % 8 := by
  unfold wk
  rcases (show i = 0 ∨ i = 1 ∨ i = 2 ∨ i = 3 by omega) with rfl | rfl | rfl | rfl <;> rcases (show j = 0 ∨ j = 1 ∨ j = 2 ∨ j = 3 by omega) with rfl | rfl | rfl | rfl <;> simp only [Nat.reducePow, Nat.reduceEqDiff, if_true, if_false] <;> omega
/-- kinds in bits -/
def kb_ok (kb : Int32) : Prop := ∃ K, K < 4096 ∧ kb = nI K
theorem kd_with {σ : rd_S} {kb : Int32} (h : kd_at σ kb) (hb : kb_ok kb) {i v : Nat} (hi : i < 4) (hv : v < 6) : kd_at (rd_u2 σ 34 i (nI v)) (sd_withKind kb (nI i) (nI v)) := by
  obtain ⟨K, hK, rfl⟩ := hb
  intro j hj
  rw [wk_ok K hK i hi v hv, kd_ok _ (wk_lt hK hi hv) j hj, wk_d hK hi hv hj]
  by_cases e : j = i
  · subst e; rw [u2_at, if_pos rfl]
  · rw [u2_off (by omega), if_neg e, h j hj, kd_ok K hK j hj]
/-- what was seen, as the reference has it -/
def sn_at (σ : rd_S) (sc : Nat) (sn : Nat → Nat) (su sl : Nat → Int32) : Prop := σ 33 10 = nI sc ∧ sc ≤ 6 ∧ ∀ s, s < sc → σ 40 (3 * s) = nI (sn s) ∧ sn s ≤ 12 ∧ σ 40 (3 * s + 1) = su s ∧ σ 40 (3 * s + 2) = sl s
def ex_f (fg kb : Int32) (fc : Nat) (D : sd_D) (sn : Nat → Nat) (su sl : Nat → Int32) (s : Nat) : Bool := (tr_go fg kb (min (sn s) fc) 0 D).1 && gw (su s) (sl s) (tr_go fg kb (min (sn s) fc) 0 D).2
set_option maxHeartbeats 4000000 in
set_option maxRecDepth 100000 in
theorem lp_isAsSeen (N d : Nat) (hN : 49 ≤ N) (σ : rd_S) (c : Nat) (hc : c + 100 < 1000000) (D : sd_D) (fg kb : Int32) (fc sc : Nat) (sn : Nat → Nat) (su sl : Nat → Int32) (hw : wf c D) (hk : kd_at σ kb) (hr : rw_at σ fg fc) (hs : sn_at σ sc sn su sl) : ∀ (m k : Nat) (n0 : Int32), k + m = sc → rd_W N (d + 5) RX5 cX5_isAsSeen 3 (some .boolean) 4 [.ref 33, .int 1, .int (nI k)] [] (ms σ D D n0) (fun r s => r = some (.int (if ex_all (ex_f fg kb fc D sn su sl) k m = true then 1 else 0)) ∧ ∃ n1, s = ms σ D D n1) := by
  obtain ⟨s1, s2, s3⟩ := hs
  have g10 : ∀ n0, ms σ D D n0 33 10 = nI sc := fun n0 => by rw [ms_ne (by decide) (by decide) (by omega)]; exact s1
  intro m
  induction m with
  | zero =>
    intro k n0 hkm
    refine rr_iloadn_2 dX5_isAsSeen_4 ?_
    refine rr_aloadn_0 dX5_isAsSeen_5 ?_
    refine rr_geti dX5_isAsSeen_6 kf_X5_74 (by omega) rfl rfl ?_
    rw [g10]
    refine rr_icmp_ge 74 dX5_isAsSeen_9 (by decide) (fun h9 => ?_) (fun h9 => absurd (nI_le (by omega) (by omega)) h9)
    refine rr_iloadn_1 dX5_isAsSeen_74 ?_
    exact rr_zret dX5_isAsSeen_75 (by decide) ⟨by simp [ex_all], n0, rfl⟩
  | succ m ih =>
    intro k n0 hkm
    obtain ⟨t1, t2, t3, t4⟩ := s3 k (by omega)
    have e0 : (3 : Int32) * nI k = nI (3 * k) := pk_mul 3 k
    have e1 : nI (3 * k) + 1 = nI (3 * k + 1) := nI_add _ 1
    have e2 : nI (3 * k) + 2 = nI (3 * k + 2) := nI_add _ 2
    have g0 : ∀ E n, ms σ E D n 40 (3 * k) = nI (sn k) := fun E n => by rw [ms_ne (by decide) (by decide) (by omega)]; exact t1
    have g1 : ∀ E n, ms σ E D n 40 (3 * k + 1) = su k := fun E n => by rw [ms_ne (by decide) (by decide) (by omega)]; exact t3
    have g2 : ∀ E n, ms σ E D n 40 (3 * k + 2) = sl k := fun E n => by rw [ms_ne (by decide) (by decide) (by omega)]; exact t4
    have hT := c_X5_dancesFirst N d σ hN c hc D D n0 fg kb fc hw hk hr (sn k) (by omega)
    have hf : ex_f fg kb fc D sn su sl k = ((tr_go fg kb (min (sn k) fc) 0 D).1 && gw (su k) (sl k) (tr_go fg kb (min (sn k) fc) 0 D).2) := rfl
    generalize tr_go fg kb (min (sn k) fc) 0 D = q at hT hf
    obtain ⟨b, E⟩ := q
    dsimp only at hT hf
    have no : ∀ n1 : Int32, ex_f fg kb fc D sn su sl k = false → rd_W N (d + 5) RX5 cX5_isAsSeen 3 (some .boolean) 63 [.ref 33, .int 1, .int (nI k)] [.int 0] (ms σ E D n1) (fun r s => r = some (.int (if ex_all (ex_f fg kb fc D sn su sl) k (m + 1) = true then 1 else 0)) ∧ ∃ n1, s = ms σ D D n1) := by
      intro n1 hff
      refine rr_istoren_1 dX5_isAsSeen_63 rfl ?_
      refine rr_aloadn_0 dX5_isAsSeen_64 ?_
      refine rr_callVvD (c_tb N _ _ hN E D n1) km_X5_147 rfl rfl (by omega) rfl (Nat.le_of_ble_eq_true rfl) dX5_isAsSeen_65 ?_
      refine rr_iinc_2 1 dX5_isAsSeen_68 (by decide) rfl ?_
      refine rr_goto 4 dX5_isAsSeen_71 (by decide) ?_
      refine rr_iloadn_2 dX5_isAsSeen_4 ?_
      refine rr_aloadn_0 dX5_isAsSeen_5 ?_
      refine rr_geti dX5_isAsSeen_6 kf_X5_74 (by omega) rfl rfl ?_
      refine rr_icmp_ge 74 dX5_isAsSeen_9 (by decide) (fun h9 => ?_) (fun h9 => ?_)
      · refine rr_iloadn_1 dX5_isAsSeen_74 ?_
        exact rr_zret dX5_isAsSeen_75 (by decide) ⟨by simp [ex_all, hff], n1, rfl⟩
      · refine rr_iloadn_1 dX5_isAsSeen_12 ?_
        refine rr_if_eq 74 dX5_isAsSeen_13 (by decide) (fun _ => ?_) (fun h13 => absurd h13 (by decide))
        refine rr_iloadn_1 dX5_isAsSeen_74 ?_
        exact rr_zret dX5_isAsSeen_75 (by decide) ⟨by simp [ex_all, hff], n1, rfl⟩
    refine rr_iloadn_2 dX5_isAsSeen_4 ?_
    refine rr_aloadn_0 dX5_isAsSeen_5 ?_
    refine rr_geti dX5_isAsSeen_6 kf_X5_74 (by omega) rfl rfl ?_
    rw [g10]
    refine rr_icmp_ge 74 dX5_isAsSeen_9 (by decide) (fun h9 => absurd ((nI_le8 (by omega) (by omega)).mp h9) (by omega)) (fun h9 => ?_)
    refine rr_iloadn_1 dX5_isAsSeen_12 ?_
    refine rr_if_eq 74 dX5_isAsSeen_13 (by decide) (fun h13 => absurd h13 (by decide)) (fun _ => ?_)
    refine rr_aloadn_0 dX5_isAsSeen_16 ?_
    refine rr_aloadn_0 dX5_isAsSeen_17 ?_
    refine rr_getr 40 dX5_isAsSeen_18 kf_X5_28 (by omega) rfl rfl rfl ?_
    refine rr_iconst (v := 3) dX5_isAsSeen_21 (by decide) ?_
    refine rr_iloadn_2 dX5_isAsSeen_22 ?_
    refine rr_imul dX5_isAsSeen_23 ?_
    rw [e0]
    refine rr_iald ((3 * k)) dX5_isAsSeen_24 (by omega) rfl rfl (show 3 * k < 18 by omega) ?_
    rw [g0]
    refine rr_callVi hT km_X5_205 rfl rfl (by omega) rfl (Nat.le_of_ble_eq_true rfl) dX5_isAsSeen_25 (fun r25 s25 q25 => ?_)
    obtain ⟨hr2, n1, rfl⟩ := q25
    cases hr2
    cases b
    · refine rr_if_eq 62 dX5_isAsSeen_28 (by decide) (fun h28 => ?_) (fun h28 => absurd (by simp) h28)
      refine rr_iconst (v := 0) dX5_isAsSeen_62 (by decide) ?_
      exact no n1 (by rw [hf]; rfl)
    · refine rr_if_eq 62 dX5_isAsSeen_28 (by decide) (fun h28 => absurd h28 (by simp)) (fun h28 => ?_)
      refine rr_aloadn_0 dX5_isAsSeen_31 ?_
      refine rr_aloadn_0 dX5_isAsSeen_32 ?_
      refine rr_getr 40 dX5_isAsSeen_33 kf_X5_28 (by omega) rfl rfl rfl ?_
      refine rr_iconst (v := 3) dX5_isAsSeen_36 (by decide) ?_
      refine rr_iloadn_2 dX5_isAsSeen_37 ?_
      refine rr_imul dX5_isAsSeen_38 ?_
      refine rr_iconst (v := 1) dX5_isAsSeen_39 (by decide) ?_
      refine rr_iadd dX5_isAsSeen_40 ?_
      rw [e0, e1]
      refine rr_iald ((3 * k + 1)) dX5_isAsSeen_41 (by omega) rfl rfl (show 3 * k + 1 < 18 by omega) ?_
      rw [g1]
      refine rr_aloadn_0 dX5_isAsSeen_42 ?_
      refine rr_getr 40 dX5_isAsSeen_43 kf_X5_28 (by omega) rfl rfl rfl ?_
      refine rr_iconst (v := 3) dX5_isAsSeen_46 (by decide) ?_
      refine rr_iloadn_2 dX5_isAsSeen_47 ?_
      refine rr_imul dX5_isAsSeen_48 ?_
      refine rr_iconst (v := 2) dX5_isAsSeen_49 (by decide) ?_
      refine rr_iadd dX5_isAsSeen_50 ?_
      rw [e0, e2]
      refine rr_iald ((3 * k + 2)) dX5_isAsSeen_51 (by omega) rfl rfl (show 3 * k + 2 < 18 by omega) ?_
      rw [g2]
      refine rr_callViD (c_X5_isWound N _ _ hN E D n1 _ _) km_X5_165 rfl rfl (by omega) rfl (Nat.le_of_ble_eq_true rfl) dX5_isAsSeen_52 ?_
      by_cases hg : gw (su k) (sl k) E = true
      · rw [if_pos hg]
        refine rr_if_eq 62 dX5_isAsSeen_55 (by decide) (fun h55 => absurd h55 (by decide)) (fun h55 => ?_)
        refine rr_iconst (v := 1) dX5_isAsSeen_58 (by decide) ?_
        refine rr_goto 63 dX5_isAsSeen_59 (by decide) ?_
        refine rr_istoren_1 dX5_isAsSeen_63 rfl ?_
        refine rr_aloadn_0 dX5_isAsSeen_64 ?_
        refine rr_callVvD (c_tb N _ _ hN E D n1) km_X5_147 rfl rfl (by omega) rfl (Nat.le_of_ble_eq_true rfl) dX5_isAsSeen_65 ?_
        refine rr_iinc_2 1 dX5_isAsSeen_68 (by decide) rfl ?_
        refine rr_goto 4 dX5_isAsSeen_71 (by decide) ?_
        rw [nI_s k]
        refine (ih (k + 1) n1 (by omega)).post (fun r s q => ⟨?_, q.2⟩)
        rw [q.1]
        simp [ex_all, hf, hg]
      · rw [if_neg hg]
        refine rr_if_eq 62 dX5_isAsSeen_55 (by decide) (fun h55 => ?_) (fun h55 => absurd rfl h55)
        refine rr_iconst (v := 0) dX5_isAsSeen_62 (by decide) ?_
        exact no n1 (by rw [hf]; simp [hg])
set_option maxHeartbeats 4000000 in
set_option maxRecDepth 100000 in
theorem c_X5_isAsSeen (N d : Nat) (σ : rd_S) (hN : 49 ≤ N) (c : Nat) (hc : c + 100 < 1000000) (D : sd_D) (fg kb : Int32) (fc sc : Nat) (sn : Nat → Nat) (su sl : Nat → Int32) (hw : wf c D) (hk : kd_at σ kb) (hr : rw_at σ fg fc) (hs : sn_at σ sc sn su sl) (n0 : Int32) : rd_T N (d + 5) yX5_isAsSeen cX5_isAsSeen 3 (some .boolean) [.ref 33] (ms σ D D n0) (fun r s => r = some (.int (if ex_all (ex_f fg kb fc D sn su sl) 0 sc = true then 1 else 0)) ∧ ∃ n1, s = ms σ D D n1) := by
  refine rd_start RX5 [.ref 33, .retAddr 0, .retAddr 0] rfl (by decide +kernel) rfl (Nat.le_of_ble_eq_true rfl) ?_
  refine rr_iconst (v := 1) dX5_isAsSeen_0 (by decide) ?_
  refine rr_istoren_1 dX5_isAsSeen_1 rfl ?_
  refine rr_iconst (v := 0) dX5_isAsSeen_2 (by decide) ?_
  refine rr_istoren_2 dX5_isAsSeen_3 rfl ?_
  exact lp_isAsSeen N d hN σ c hc D fg kb fc sc sn su sl hw hk hr hs sc 0 n0 (by omega)
theorem u2_u2 (σ : rd_S) (o k : Nat) (v w : Int32) : rd_u2 (rd_u2 σ o k v) o k w = rd_u2 σ o k w := by
  funext a b
  by_cases h : a = o ∧ b = k
  · obtain ⟨rfl, rfl⟩ := h; rw [u2_at, u2_at]
  · rw [u2_off h, u2_off h, u2_off h]
theorem u2_id (σ : rd_S) (o k : Nat) : rd_u2 σ o k (σ o k) = σ := by
  funext a b
  by_cases h : a = o ∧ b = k
  · obtain ⟨rfl, rfl⟩ := h; rw [u2_at]
  · rw [u2_off h]
theorem rw_34 {σ : rd_S} {fg : Int32} {fc : Nat} (h : rw_at σ fg fc) (i : Nat) (v : Int32) : rw_at (rd_u2 σ 34 i v) fg fc := ⟨by rw [u2_off (by omega)]; exact h.1, h.2.1, fun k hk => by rw [u2_off (by omega)]; exact h.2.2 k hk⟩
theorem sn_34 {σ : rd_S} {sc : Nat} {sn : Nat → Nat} {su sl : Nat → Int32} (h : sn_at σ sc sn su sl) (i : Nat) (v : Int32) : sn_at (rd_u2 σ 34 i v) sc sn su sl := ⟨by rw [u2_off (by omega)]; exact h.1, h.2.1, fun s hs => by rw [u2_off (by omega), u2_off (by omega), u2_off (by omega)]; exact h.2.2 s hs⟩
def ks_f (fg kb : Int32) (fc sc : Nat) (D : sd_D) (sn : Nat → Nat) (su sl : Nat → Int32) (i v : Nat) : Bool := ex_all (ex_f fg (sd_withKind kb (nI i) (nI v)) fc D sn su sl) 0 sc
set_option maxHeartbeats 4000000 in
set_option maxRecDepth 100000 in
theorem lp_kindSet (N d : Nat) (hN : 49 ≤ N) (σ : rd_S) (c : Nat) (hc : c + 100 < 1000000) (D : sd_D) (fg kb : Int32) (fc sc : Nat) (sn : Nat → Nat) (su sl : Nat → Int32) (hw : wf c D) (hk : kd_at σ kb) (hb : kb_ok kb) (hr : rw_at σ fg fc) (hs : sn_at σ sc sn su sl) (i : Nat) (hi : i < 4) : ∀ (m v : Nat) (acc n0 w : Int32), v + m = 6 → rd_W N (d + 6) RX5 cX5_kindSet 5 (some .int) 16 [.ref 33, .int (nI i), .int (σ 34 i), .int acc, .int (nI v)] [] (ms (rd_u2 σ 34 i w) D D n0) (fun r s => r = some (.int (pk_bits (ks_f fg kb fc sc D sn su sl i) m v acc)) ∧ ∃ n1, s = ms σ D D n1) := by
  intro m
  induction m with
  | zero =>
    intro v acc n0 w hv
    obtain rfl : v = 6 := hv
    refine rr_iload_4 dX5_kindSet_16 ?_
    refine rr_iconst (v := 5) dX5_kindSet_18 (by decide) ?_
    refine rr_icmp_gt 54 dX5_kindSet_19 (by decide) (fun h19 => ?_) (fun h19 => absurd (by decide) h19)
    refine rr_aloadn_0 dX5_kindSet_54 ?_
    refine rr_getr 34 dX5_kindSet_55 kf_X5_7 (by omega) rfl rfl rfl ?_
    refine rr_iloadn_1 dX5_kindSet_58 ?_
    refine rr_iloadn_2 dX5_kindSet_59 ?_
    refine rr_iast (i) dX5_kindSet_60 (by omega) rfl rfl hi ?_
    refine rr_iloadn_3 dX5_kindSet_61 ?_
    exact rr_iret dX5_kindSet_62 ⟨rfl, n0, by rw [ms_u2 (by decide) (by decide) (by omega), u2_u2, u2_id]⟩
  | succ m ih =>
    intro v acc n0 w hv
    refine rr_iload_4 dX5_kindSet_16 ?_
    refine rr_iconst (v := 5) dX5_kindSet_18 (by decide) ?_
    refine rr_icmp_gt 54 dX5_kindSet_19 (by decide) (fun h19 => absurd ((nI_lt8 (a := 5) (by omega) (by omega)).mp h19) (by omega)) (fun h19 => ?_)
    refine rr_aloadn_0 dX5_kindSet_22 ?_
    refine rr_getr 34 dX5_kindSet_23 kf_X5_7 (by omega) rfl rfl rfl ?_
    refine rr_iloadn_1 dX5_kindSet_26 ?_
    refine rr_iload_4 dX5_kindSet_27 ?_
    refine rr_iast (i) dX5_kindSet_29 (by omega) rfl rfl hi ?_
    rw [ms_u2 (by decide) (by decide) (by omega), u2_u2]
    refine rr_iloadn_3 dX5_kindSet_30 ?_
    refine rr_aloadn_0 dX5_kindSet_31 ?_
    refine rr_callVi (c_X5_isAsSeen N _ _ hN c hc D fg _ fc sc sn su sl hw (kd_with hk hb hi (show v < 6 by omega)) (rw_34 hr i _) (sn_34 hs i _) n0) km_X5_209 rfl rfl (by omega) rfl (Nat.le_of_ble_eq_true rfl) dX5_kindSet_32 (fun r32 s32 q32 => ?_)
    obtain ⟨hr2, n1, rfl⟩ := q32
    cases hr2
    cases hf : ex_all (ex_f fg (sd_withKind kb (nI i) (nI v)) fc D sn su sl) 0 sc
    · refine rr_if_eq 45 dX5_kindSet_35 (by decide) (fun h35 => ?_) (fun h35 => absurd (by simp) h35)
      refine rr_iconst (v := 0) dX5_kindSet_45 (by decide) ?_
      refine rr_ior dX5_kindSet_46 ?_
      refine rr_istoren_3 dX5_kindSet_47 rfl ?_
      refine rr_iinc_4 1 dX5_kindSet_48 (by decide) rfl ?_
      refine rr_goto 16 dX5_kindSet_51 (by decide) ?_
      rw [nI_s v]
      refine (ih (v + 1) _ n1 _ (by omega)).post (fun r s q => ⟨?_, q.2⟩)
      rw [q.1, pk_bits, show ks_f fg kb fc sc D sn su sl i v = false from hf]
      simp
    · refine rr_if_eq 45 dX5_kindSet_35 (by decide) (fun h35 => absurd h35 (by simp)) (fun h35 => ?_)
      refine rr_iconst (v := 1) dX5_kindSet_38 (by decide) ?_
      refine rr_iload_4 dX5_kindSet_39 ?_
      refine rr_ishl dX5_kindSet_41 ?_
      refine rr_goto 46 dX5_kindSet_42 (by decide) ?_
      refine rr_ior dX5_kindSet_46 ?_
      refine rr_istoren_3 dX5_kindSet_47 rfl ?_
      refine rr_iinc_4 1 dX5_kindSet_48 (by decide) rfl ?_
      refine rr_goto 16 dX5_kindSet_51 (by decide) ?_
      rw [nI_s v]
      refine (ih (v + 1) _ n1 _ (by omega)).post (fun r s q => ⟨?_, q.2⟩)
      rw [q.1]
      conv => { rhs; rw [pk_bits, show ks_f fg kb fc sc D sn su sl i v = true from hf] }
      rfl
set_option maxHeartbeats 4000000 in
set_option maxRecDepth 100000 in
theorem c_X5_kindSet (N d : Nat) (σ : rd_S) (hN : 49 ≤ N) (c : Nat) (hc : c + 100 < 1000000) (D : sd_D) (fg kb : Int32) (fc sc : Nat) (sn : Nat → Nat) (su sl : Nat → Int32) (hw : wf c D) (hk : kd_at σ kb) (hr : rw_at σ fg fc) (hs : sn_at σ sc sn su sl) (hb : kb_ok kb) (hD : md_at σ D) (i : Nat) (hi : i < 4) : rd_T N (d + 6) yX5_kindSet cX5_kindSet 5 (some .int) [.ref 33, .int (nI i)] σ (fun r s => r = some (.int (pk_bits (ks_f fg kb fc sc D sn su sl i) 6 0 0)) ∧ ∃ n1, s = ms σ D D n1) := by
  refine rd_start RX5 [.ref 33, .int (nI i), .retAddr 0, .retAddr 0, .retAddr 0] rfl (by decide +kernel) rfl (Nat.le_of_ble_eq_true rfl) ?_
  refine rr_aloadn_0 dX5_kindSet_0 ?_
  refine rr_callVvD (c_pa N _ _ hN D hD) km_X5_141 rfl rfl (by omega) rfl (Nat.le_of_ble_eq_true rfl) dX5_kindSet_1 ?_
  refine rr_aloadn_0 dX5_kindSet_4 ?_
  refine rr_getr 34 dX5_kindSet_5 kf_X5_7 (by omega) rfl rfl rfl ?_
  refine rr_iloadn_1 dX5_kindSet_8 ?_
  refine rr_iald (i) dX5_kindSet_9 (by omega) rfl rfl hi ?_
  rw [ms_ne (show 34 ≠ 37 by decide) (by decide) (by omega)]
  refine rr_istoren_2 dX5_kindSet_10 rfl ?_
  refine rr_iconst (v := 0) dX5_kindSet_11 (by decide) ?_
  refine rr_istoren_3 dX5_kindSet_12 rfl ?_
  refine rr_iconst (v := 0) dX5_kindSet_13 (by decide) ?_
  refine rr_istore_4 dX5_kindSet_14 rfl ?_
  have := lp_kindSet N d hN σ c hc D fg kb fc sc sn su sl hw hk hb hr hs i hi 6 0 0 (σ 33 18) (σ 34 i) rfl
  rw [u2_id] at this
  exact this
set_option maxHeartbeats 4000000 in
set_option maxRecDepth 100000 in
theorem m_kinds_b (N d : Nat) (σ : rd_S) (hN : 49 ≤ N) (i : Int32) (h : hp_rg 0 3 i = false) : rd_T N (d + 7) yX5_kinds cX5_kinds 2 (some .int) [.ref 33, .int i] σ (rd_is (some (.int (-1))) σ) := by
  refine rd_start RX5 [.ref 33, .int i] rfl (by decide +kernel) rfl (Nat.le_of_ble_eq_true rfl) ?_
  refine rr_iloadn_1 dX5_kinds_0 ?_
  refine rr_callSiD (c_X5_isOne N _ _ _) km_X5_105 rfl rfl (Nat.le_of_ble_eq_true rfl) dX5_kinds_1 ?_
  refine rr_if_eq 15 dX5_kinds_4 (by decide) (fun h4 => ?_) (fun h4 => absurd (by simp [h]) h4)
  refine rr_iconst (v := (-1)) dX5_kinds_15 (by decide) ?_
  exact rr_iret dX5_kinds_16 ⟨rfl, rfl⟩
set_option maxHeartbeats 4000000 in
set_option maxRecDepth 100000 in
theorem m_kinds_s (N d : Nat) (σ : rd_S) (hN : 49 ≤ N) (c : Nat) (hc : c + 100 < 1000000) (D : sd_D) (fg kb : Int32) (fc sc : Nat) (sn : Nat → Nat) (su sl : Nat → Int32) (hw : wf c D) (hk : kd_at σ kb) (hr : rw_at σ fg fc) (hs : sn_at σ sc sn su sl) (hb : kb_ok kb) (hD : md_at σ D) (i : Nat) (hi : i < 4) : rd_T N (d + 7) yX5_kinds cX5_kinds 2 (some .int) [.ref 33, .int (nI i)] σ (fun r s => r = some (.int (pk_bits (ks_f fg kb fc sc D sn su sl i) 6 0 0)) ∧ mq_eq s σ) := by
  refine rd_start RX5 [.ref 33, .int (nI i)] rfl (by decide +kernel) rfl (Nat.le_of_ble_eq_true rfl) ?_
  have hq1 : hp_rg 0 3 (nI i) = true := by simp only [hp_rg, decide_eq_true_eq, nI_toInt (show i < 2 ^ 31 by omega)]; omega
  refine rr_iloadn_1 dX5_kinds_0 ?_
  refine rr_callSiD (c_X5_isOne N _ _ _) km_X5_105 rfl rfl (Nat.le_of_ble_eq_true rfl) dX5_kinds_1 ?_
  refine rr_if_eq 15 dX5_kinds_4 (by decide) (fun h4 => absurd h4 (by simp [hq1])) (fun h4 => ?_)
  refine rr_aloadn_0 dX5_kinds_7 ?_
  refine rr_iloadn_1 dX5_kinds_8 ?_
  refine rr_callVi (c_X5_kindSet N _ σ hN c hc D fg kb fc sc sn su sl hw hk hr hs hb hD i hi) km_X5_212 rfl rfl (by omega) rfl (Nat.le_of_ble_eq_true rfl) dX5_kinds_9 (fun r9 s9 q9 => ?_)
  obtain ⟨hr2, n1, rfl⟩ := q9
  cases hr2
  refine rr_goto 16 dX5_kinds_12 (by decide) ?_
  exact rr_iret dX5_kinds_16 ⟨rfl, mq_ms (mq_eq.refl _) hD⟩
