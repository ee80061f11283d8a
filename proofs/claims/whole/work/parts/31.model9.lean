/-! ===== the reference: where to look ===== -/
def pb_c (fg kb : Int32) (fc : Nat) (D : sd_D) (n i v : Nat) : Int32 := (fun q : Bool × sd_D => if q.1 = true then 10000 * (q.2.2.2.1 + 9999) + q.2.2.2.2.1 else -4) (tr_go fg (sd_withKind kb (nI i) (nI v)) (min n fc) 0 D)
def pb_b (so : Int32) (v w : Nat) : Bool := decide (((so >>> (nI v &&& 31)) &&& (so >>> (nI w &&& 31))) &&& 1 = 1)
def pb_n (C : Nat → Int32) (so : Int32) (v : Nat) : Nat → Nat → Nat → Nat
  | 0, _, acc => acc
  | m + 1, w, acc => pb_n C so v m (w + 1) (if pb_b so v w = true ∧ C v = C w then acc + 1 else acc)
theorem pb_n_le (C : Nat → Int32) (so : Int32) (v : Nat) : ∀ m w acc, pb_n C so v m w acc ≤ acc + m
  | 0, _, _ => Nat.le_refl _
  | m + 1, w, acc => by
    unfold pb_n
    refine Nat.le_trans (pb_n_le C so v m (w + 1) _) ?_
    split <;> omega
theorem u2_swap (σ : rd_S) {o k o2 k2 : Nat} (h : ¬ (o = o2 ∧ k = k2)) (v w : Int32) : rd_u2 (rd_u2 σ o k v) o2 k2 w = rd_u2 (rd_u2 σ o2 k2 w) o k v := by
  funext a b
  by_cases h1 : a = o ∧ b = k
  · obtain ⟨rfl, rfl⟩ := h1; rw [u2_off h, u2_at, u2_at]
  · rw [u2_off h1]
    by_cases h2 : a = o2 ∧ b = k2
    · obtain ⟨rfl, rfl⟩ := h2; rw [u2_at, u2_at]
    · rw [u2_off h2, u2_off h2, u2_off h1]
/-- alike but for what it comes to -/
def pb_eq (s σ : rd_S) : Prop := ∀ a b, a ≠ 46 → s a b = σ a b
theorem pb_eq.refl (σ : rd_S) : pb_eq σ σ := fun _ _ _ => rfl
theorem pb_mq {s σ : rd_S} (h : pb_eq s σ) : mq_eq s σ := fun a b q => h a b (by omega)
theorem pb_kd {s σ : rd_S} (h : pb_eq s σ) {kb : Int32} (hk : kd_at σ kb) : kd_at s kb := fun i hi => by rw [h _ _ (by decide)]; exact hk i hi
theorem pb_rw {s σ : rd_S} (h : pb_eq s σ) {fg : Int32} {fc : Nat} (hk : rw_at σ fg fc) : rw_at s fg fc := ⟨by rw [h _ _ (by decide)]; exact hk.1, hk.2.1, fun k q => by rw [h _ _ (by decide)]; exact hk.2.2 k q⟩
theorem gp_mx_cong {f g : Nat → Nat} : ∀ m k acc, (∀ j, j < k + m → f j = g j) → gp_mx f m k acc = gp_mx g m k acc
  | 0, _, _, _ => rfl
  | m + 1, k, acc, h => by
    unfold gp_mx
    rw [h k (by omega)]
    exact gp_mx_cong m (k + 1) _ (fun j hj => h j (by omega))
def pb_v (fg kb : Int32) (fc : Nat) (D : sd_D) (so : Int32) (i n : Nat) : Nat := gp_mx (fun v => pb_n (pb_c fg kb fc D n i) so v 6 0 0) 6 0 0
theorem pb_v_le (fg kb : Int32) (fc : Nat) (D : sd_D) (so : Int32) (i n : Nat) : pb_v fg kb fc D so i n ≤ 6 := gp_mx_le (fun k => by have := pb_n_le (pb_c fg kb fc D n i) so k 6 0 0; omega) _ _ _ (by decide)
set_option maxHeartbeats 4000000 in
set_option maxRecDepth 100000 in
theorem lp_partBy3 (N d : Nat) (hN : 49 ≤ N) (s : rd_S) (C : Nat → Int32) (hC : ∀ j, j < 6 → s 46 j = C j) (x1 x2 x4 x5 : Value) (so : Int32) (v : Nat) (hv : v < 6) (Q : Option Value → rd_S → Prop) : ∀ (m w a : Nat), w + m = 6 → a ≤ w → (∀ z, rd_W N d RX5 cX5_partBy 9 (some .int) 158 [.ref 33, x1, x2, .int so, x4, x5, .int (nI v), .int (nI (pb_n C so v m w a)), z] [] s Q) → rd_W N d RX5 cX5_partBy 9 (some .int) 104 [.ref 33, x1, x2, .int so, x4, x5, .int (nI v), .int (nI a), .int (nI w)] [] s Q := by
  intro m
  induction m with
  | zero =>
    intro w a hw ha K
    obtain rfl : w = 6 := hw
    refine rr_iload_8 dX5_partBy_104 ?_
    refine rr_iconst (v := 5) dX5_partBy_106 (by decide) ?_
    refine rr_icmp_gt 158 dX5_partBy_107 (by decide) (fun h107 => ?_) (fun h107 => absurd (by decide) h107)
    exact K _
  | succ m ih =>
    intro w a hw ha K
    refine rr_iload_8 dX5_partBy_104 ?_
    refine rr_iconst (v := 5) dX5_partBy_106 (by decide) ?_
    refine rr_icmp_gt 158 dX5_partBy_107 (by decide) (fun h107 => absurd ((nI_lt8 (a := 5) (by omega) (by omega)).mp h107) (by omega)) (fun h107 => ?_)
    refine rr_iload_7 dX5_partBy_110 ?_
    refine rr_iloadn_3 dX5_partBy_112 ?_
    refine rr_iload_6 dX5_partBy_113 ?_
    refine rr_ishr dX5_partBy_115 ?_
    refine rr_iloadn_3 dX5_partBy_116 ?_
    refine rr_iload_8 dX5_partBy_117 ?_
    refine rr_ishr dX5_partBy_119 ?_
    refine rr_iand dX5_partBy_120 ?_
    refine rr_iconst (v := 1) dX5_partBy_121 (by decide) ?_
    refine rr_iand dX5_partBy_122 ?_
    refine rr_iconst (v := 1) dX5_partBy_123 (by decide) ?_
    refine rr_icmp_ne 148 dX5_partBy_124 (by decide) (fun h124 => ?_) (fun h124 => ?_)
    · refine rr_iconst (v := 0) dX5_partBy_148 (by decide) ?_
      refine rr_iadd dX5_partBy_149 ?_
      refine rr_istore_7 dX5_partBy_150 rfl ?_
      refine rr_iinc_8 1 dX5_partBy_152 (by decide) rfl ?_
      refine rr_goto 104 dX5_partBy_155 (by decide) ?_
      rw [nI_s w]
      first | rw [nI_s a] | rw [show nI a + 0 = nI a from nI_add a 0]
      refine ih (w + 1) _ (by omega) (by omega) (fun z => ?_)
      have K := K z
      rw [pb_n] at K
      first | (rw [if_pos ⟨decide_eq_true h124, h141⟩] at K; exact K) | (rw [if_neg (fun q => h141 q.2)] at K; exact K) | (rw [if_neg (fun q => h124 (of_decide_eq_true q.1))] at K; exact K)
    · refine rr_aloadn_0 dX5_partBy_127 ?_
      refine rr_getr 46 dX5_partBy_128 kf_X5_46 (by omega) rfl rfl rfl ?_
      refine rr_iload_6 dX5_partBy_131 ?_
      refine rr_iald (v) dX5_partBy_133 (by omega) rfl rfl hv ?_
      refine rr_aloadn_0 dX5_partBy_134 ?_
      refine rr_getr 46 dX5_partBy_135 kf_X5_46 (by omega) rfl rfl rfl ?_
      refine rr_iload_8 dX5_partBy_138 ?_
      refine rr_iald (w) dX5_partBy_140 (by omega) rfl rfl (show w < 6 by omega) ?_
      rw [hC v hv, hC w (by omega)]
      refine rr_icmp_ne 148 dX5_partBy_141 (by decide) (fun h141 => ?_) (fun h141 => ?_)
      · refine rr_iconst (v := 0) dX5_partBy_148 (by decide) ?_
        refine rr_iadd dX5_partBy_149 ?_
        refine rr_istore_7 dX5_partBy_150 rfl ?_
        refine rr_iinc_8 1 dX5_partBy_152 (by decide) rfl ?_
        refine rr_goto 104 dX5_partBy_155 (by decide) ?_
        rw [nI_s w]
        first | rw [nI_s a] | rw [show nI a + 0 = nI a from nI_add a 0]
        refine ih (w + 1) _ (by omega) (by omega) (fun z => ?_)
        have K := K z
        rw [pb_n] at K
        first | (rw [if_pos ⟨decide_eq_true h124, h141⟩] at K; exact K) | (rw [if_neg (fun q => h141 q.2)] at K; exact K) | (rw [if_neg (fun q => h124 (of_decide_eq_true q.1))] at K; exact K)
      · refine rr_iconst (v := 1) dX5_partBy_144 (by decide) ?_
        refine rr_goto 149 dX5_partBy_145 (by decide) ?_
        refine rr_iadd dX5_partBy_149 ?_
        refine rr_istore_7 dX5_partBy_150 rfl ?_
        refine rr_iinc_8 1 dX5_partBy_152 (by decide) rfl ?_
        refine rr_goto 104 dX5_partBy_155 (by decide) ?_
        rw [nI_s w]
        first | rw [nI_s a] | rw [show nI a + 0 = nI a from nI_add a 0]
        refine ih (w + 1) _ (by omega) (by omega) (fun z => ?_)
        have K := K z
        rw [pb_n] at K
        first | (rw [if_pos ⟨decide_eq_true h124, h141⟩] at K; exact K) | (rw [if_neg (fun q => h141 q.2)] at K; exact K) | (rw [if_neg (fun q => h124 (of_decide_eq_true q.1))] at K; exact K)
set_option maxHeartbeats 4000000 in
set_option maxRecDepth 100000 in
theorem lp_partBy2 (N d : Nat) (hN : 49 ≤ N) (s : rd_S) (C : Nat → Int32) (hC : ∀ j, j < 6 → s 46 j = C j) (x1 x2 : Value) (x4 so : Int32) : ∀ (m v a : Nat) (z7 z8 : Value), v + m = 6 → a ≤ 6 → rd_W N d RX5 cX5_partBy 9 (some .int) 92 [.ref 33, x1, x2, .int so, .int x4, .int (nI a), .int (nI v), z7, z8] [] s (rd_is (some (.int (nI (gp_mx (fun v => pb_n C so v 6 0 0) m v a)))) s) := by
  intro m
  induction m with
  | zero =>
    intro v a z7 z8 hv ha
    obtain rfl : v = 6 := hv
    refine rr_iload_6 dX5_partBy_92 ?_
    refine rr_iconst (v := 5) dX5_partBy_94 (by decide) ?_
    refine rr_icmp_gt 180 dX5_partBy_95 (by decide) (fun h95 => ?_) (fun h95 => absurd (by decide) h95)
    refine rr_iload_5 dX5_partBy_180 ?_
    exact rr_iret dX5_partBy_182 ⟨rfl, rfl⟩
  | succ m ih =>
    intro v a z7 z8 hv ha
    have hle := pb_n_le C so v 6 0 0
    refine rr_iload_6 dX5_partBy_92 ?_
    refine rr_iconst (v := 5) dX5_partBy_94 (by decide) ?_
    refine rr_icmp_gt 180 dX5_partBy_95 (by decide) (fun h95 => absurd ((nI_lt8 (a := 5) (by omega) (by omega)).mp h95) (by omega)) (fun h95 => ?_)
    refine rr_iconst (v := 0) dX5_partBy_98 (by decide) ?_
    refine rr_istore_7 dX5_partBy_99 rfl ?_
    refine rr_iconst (v := 0) dX5_partBy_101 (by decide) ?_
    refine rr_istore_8 dX5_partBy_102 rfl ?_
    refine lp_partBy3 N d hN s C hC _ _ _ _ so v (by omega) _ 6 0 0 rfl (by decide) (fun z => ?_)
    refine rr_iload_7 dX5_partBy_158 ?_
    refine rr_iload_5 dX5_partBy_160 ?_
    refine rr_icmp_le 170 dX5_partBy_162 (by decide) (fun h162 => ?_) (fun h162 => ?_)
    · refine rr_iload_5 dX5_partBy_170 ?_
      refine rr_istore_5 dX5_partBy_172 rfl ?_
      refine rr_iinc_6 1 dX5_partBy_174 (by decide) rfl ?_
      refine rr_goto 92 dX5_partBy_177 (by decide) ?_
      rw [nI_s v]
      rw [gp_mx]
      first | (have q := (nI_le8 (b := a) (by omega) (by omega)).mp h162; rw [Nat.max_eq_left q]; exact ih (v + 1) _ _ _ (by omega) (by omega)) | (have q : ¬ _ ≤ a := fun q => h162 ((nI_le8 (by omega) (by omega)).mpr q); rw [Nat.max_eq_right (by omega)]; exact ih (v + 1) _ _ _ (by omega) (by omega))
    · refine rr_iload_7 dX5_partBy_165 ?_
      refine rr_goto 172 dX5_partBy_167 (by decide) ?_
      refine rr_istore_5 dX5_partBy_172 rfl ?_
      refine rr_iinc_6 1 dX5_partBy_174 (by decide) rfl ?_
      refine rr_goto 92 dX5_partBy_177 (by decide) ?_
      rw [nI_s v]
      rw [gp_mx]
      first | (have q := (nI_le8 (b := a) (by omega) (by omega)).mp h162; rw [Nat.max_eq_left q]; exact ih (v + 1) _ _ _ (by omega) (by omega)) | (have q : ¬ _ ≤ a := fun q => h162 ((nI_le8 (by omega) (by omega)).mpr q); rw [Nat.max_eq_right (by omega)]; exact ih (v + 1) _ _ _ (by omega) (by omega))
set_option maxHeartbeats 4000000 in
set_option maxRecDepth 100000 in
theorem lp_partBy1 (N d : Nat) (hN : 49 ≤ N) (σ : rd_S) (c : Nat) (hc : c + 100 < 1000000) (D : sd_D) (fg kb : Int32) (fc : Nat) (hw : wf c D) (hk : kd_at σ kb) (hb : kb_ok kb) (hr : rw_at σ fg fc) (i n : Nat) (hi : i < 4) (hn : n < 1000) (so : Int32) : ∀ (m v : Nat) (n0 w : Int32) (τ : rd_S) (z6 z7 z8 : Value), v + m = 6 → pb_eq τ σ → (∀ j, j < v → τ 46 j = pb_c fg kb fc D n i j) → rd_W N (d + 5) RX5 cX5_partBy 9 (some .int) 11 [.ref 33, .int (nI i), .int (nI n), .int so, .int (σ 34 i), .int (nI v), z6, z7, z8] [] (ms (rd_u2 τ 34 i w) D D n0) (fun r s => r = some (.int (nI (pb_v fg kb fc D so i n))) ∧ ∃ n1 τ', s = ms τ' D D n1 ∧ pb_eq τ' σ) := by
  intro m
  induction m with
  | zero =>
    intro v n0 w τ z6 z7 z8 hv he hC
    obtain rfl : v = 6 := hv
    refine rr_iload_5 dX5_partBy_11 ?_
    refine rr_iconst (v := 5) dX5_partBy_13 (by decide) ?_
    refine rr_icmp_gt 78 dX5_partBy_14 (by decide) (fun h14 => ?_) (fun h14 => absurd (by decide) h14)
    refine rr_aloadn_0 dX5_partBy_78 ?_
    refine rr_getr 34 dX5_partBy_79 kf_X5_7 (by omega) rfl rfl rfl ?_
    refine rr_iloadn_1 dX5_partBy_82 ?_
    refine rr_iload_4 dX5_partBy_83 ?_
    refine rr_iast (i) dX5_partBy_85 (by omega) rfl rfl hi ?_
    rw [ms_u2 (by decide) (by decide) (by omega), u2_u2, show σ 34 i = τ 34 i from (he 34 i (by decide)).symm, u2_id]
    refine rr_iconst (v := 0) dX5_partBy_86 (by decide) ?_
    refine rr_istore_5 dX5_partBy_87 rfl ?_
    refine rr_iconst (v := 0) dX5_partBy_89 (by decide) ?_
    refine rr_istore_6 dX5_partBy_90 rfl ?_
    refine (lp_partBy2 N (d + 5) hN (ms τ D D n0) (pb_c fg kb fc D n i) (fun j hj => by rw [ms_ne (by decide) (by decide) (by omega)]; exact hC j hj) _ _ _ so 6 0 0 _ _ rfl (by decide)).post (fun r s q => ⟨?_, n0, τ, q.2, he⟩)
    rw [q.1]; rfl
  | succ m ih =>
    intro v n0 w τ z6 z7 z8 hv he hC
    have hT := c_X5_dancesFirst N d (rd_u2 τ 34 i (nI v)) hN c hc D D n0 fg (sd_withKind kb (nI i) (nI v)) fc hw (kd_with (pb_kd he hk) hb hi (show v < 6 by omega)) (rw_34 (pb_rw he hr) i _) n hn
    have hf : pb_c fg kb fc D n i v = (fun q : Bool × sd_D => if q.1 = true then 10000 * (q.2.2.2.1 + 9999) + q.2.2.2.2.1 else -4) (tr_go fg (sd_withKind kb (nI i) (nI v)) (min n fc) 0 D) := rfl
    generalize tr_go fg (sd_withKind kb (nI i) (nI v)) (min n fc) 0 D = q at hT hf
    obtain ⟨b, E⟩ := q
    dsimp only at hT hf
    have nx : ∀ (n1 x : Int32), x = pb_c fg kb fc D n i v → rd_W N (d + 5) RX5 cX5_partBy 9 (some .int) 67 [.ref 33, .int (nI i), .int (nI n), .int so, .int (σ 34 i), .int (nI v), z6, z7, z8] [.int x, .int (nI v), .ref 46] (ms (rd_u2 τ 34 i (nI v)) E D n1) (fun r s => r = some (.int (nI (pb_v fg kb fc D so i n))) ∧ ∃ n1 τ', s = ms τ' D D n1 ∧ pb_eq τ' σ) := by
      intro n1 x hx
      refine rr_iast (v) dX5_partBy_67 (by omega) rfl rfl (show v < 6 by omega) ?_
      rw [ms_u2 (by decide) (by decide) (by omega)]
      refine rr_aloadn_0 dX5_partBy_68 ?_
      refine rr_callVvD (c_tb N _ _ hN E D n1) km_X5_147 rfl rfl (by omega) rfl (Nat.le_of_ble_eq_true rfl) dX5_partBy_69 ?_
      refine rr_iinc_5 1 dX5_partBy_72 (by decide) rfl ?_
      refine rr_goto 11 dX5_partBy_75 (by decide) ?_
      rw [nI_s v, show rd_u2 (rd_u2 τ 34 i (nI v)) 46 v x = rd_u2 (rd_u2 τ 46 v x) 34 i (nI v) from u2_swap _ (by omega) _ _]
      refine ih (v + 1) n1 _ (rd_u2 τ 46 v x) _ _ _ (by omega) (fun a b h => by rw [u2_off (by omega)]; exact he a b h) (fun j hj => ?_)
      by_cases e : j = v
      · subst e; rw [u2_at]; exact hx
      · rw [u2_off (by omega)]; exact hC j (by omega)
    refine rr_iload_5 dX5_partBy_11 ?_
    refine rr_iconst (v := 5) dX5_partBy_13 (by decide) ?_
    refine rr_icmp_gt 78 dX5_partBy_14 (by decide) (fun h14 => absurd ((nI_lt8 (a := 5) (by omega) (by omega)).mp h14) (by omega)) (fun h14 => ?_)
    refine rr_aloadn_0 dX5_partBy_17 ?_
    refine rr_getr 34 dX5_partBy_18 kf_X5_7 (by omega) rfl rfl rfl ?_
    refine rr_iloadn_1 dX5_partBy_21 ?_
    refine rr_iload_5 dX5_partBy_22 ?_
    refine rr_iast (i) dX5_partBy_24 (by omega) rfl rfl hi ?_
    rw [ms_u2 (by decide) (by decide) (by omega), u2_u2]
    refine rr_aloadn_0 dX5_partBy_25 ?_
    refine rr_getr 46 dX5_partBy_26 kf_X5_46 (by omega) rfl rfl rfl ?_
    refine rr_iload_5 dX5_partBy_29 ?_
    refine rr_aloadn_0 dX5_partBy_31 ?_
    refine rr_iloadn_2 dX5_partBy_32 ?_
    refine rr_callVi hT km_X5_205 rfl rfl (by omega) rfl (Nat.le_of_ble_eq_true rfl) dX5_partBy_33 (fun r33 s33 q33 => ?_)
    obtain ⟨hr2, n1, rfl⟩ := q33
    cases hr2
    cases b
    · refine rr_if_eq 65 dX5_partBy_36 (by decide) (fun h36 => ?_) (fun h36 => absurd (by simp) h36)
      refine rr_bipush (v := (-4)) dX5_partBy_65 (by decide) ?_
      exact nx n1 _ (by rw [hf]; rfl)
    · refine rr_if_eq 65 dX5_partBy_36 (by decide) (fun h36 => absurd h36 (by simp)) (fun h36 => ?_)
      refine rr_sipush (v := 10000) dX5_partBy_39 (by decide) ?_
      refine rr_aloadn_0 dX5_partBy_42 ?_
      refine rr_getr 37 dX5_partBy_43 kf_X5_19 (by omega) rfl rfl rfl ?_
      refine rr_bipush (v := 8) dX5_partBy_46 (by decide) ?_
      refine rr_iald (8) dX5_partBy_48 (by omega) rfl rfl (by decide) ?_
      rw [g8_ms]
      refine rr_sipush (v := 9999) dX5_partBy_49 (by decide) ?_
      refine rr_iadd dX5_partBy_52 ?_
      refine rr_imul dX5_partBy_53 ?_
      refine rr_aloadn_0 dX5_partBy_54 ?_
      refine rr_getr 37 dX5_partBy_55 kf_X5_19 (by omega) rfl rfl rfl ?_
      refine rr_bipush (v := 9) dX5_partBy_58 (by decide) ?_
      refine rr_iald (9) dX5_partBy_60 (by omega) rfl rfl (by decide) ?_
      rw [g9_ms]
      refine rr_iadd dX5_partBy_61 ?_
      refine rr_goto 67 dX5_partBy_62 (by decide) ?_
      exact nx n1 _ (by rw [hf]; rfl)
set_option maxHeartbeats 4000000 in
set_option maxRecDepth 100000 in
theorem c_X5_partBy (N d : Nat) (σ : rd_S) (hN : 49 ≤ N) (c : Nat) (hc : c + 100 < 1000000) (D : sd_D) (fg kb : Int32) (fc : Nat) (hw : wf c D) (hk : kd_at σ kb) (hb : kb_ok kb) (hr : rw_at σ fg fc) (i n : Nat) (hi : i < 4) (hn : n < 1000) (so n0 : Int32) : rd_T N (d + 5) yX5_partBy cX5_partBy 9 (some .int) [.ref 33, .int (nI i), .int (nI n), .int so] (ms σ D D n0) (fun r s => r = some (.int (nI (pb_v fg kb fc D so i n))) ∧ ∃ n1 τ, s = ms τ D D n1 ∧ pb_eq τ σ) := by
  refine rd_start RX5 [.ref 33, .int (nI i), .int (nI n), .int so, .retAddr 0, .retAddr 0, .retAddr 0, .retAddr 0, .retAddr 0] rfl (by decide +kernel) rfl (Nat.le_of_ble_eq_true rfl) ?_
  refine rr_aloadn_0 dX5_partBy_0 ?_
  refine rr_getr 34 dX5_partBy_1 kf_X5_7 (by omega) rfl rfl rfl ?_
  refine rr_iloadn_1 dX5_partBy_4 ?_
  refine rr_iald (i) dX5_partBy_5 (by omega) rfl rfl hi ?_
  rw [ms_ne (show 34 ≠ 37 by decide) (by decide) (by omega)]
  refine rr_istore_4 dX5_partBy_6 rfl ?_
  refine rr_iconst (v := 0) dX5_partBy_8 (by decide) ?_
  refine rr_istore_5 dX5_partBy_9 rfl ?_
  have := lp_partBy1 N d hN σ c hc D fg kb fc hw hk hb hr i n hi hn so 6 0 n0 (σ 34 i) σ (.retAddr 0) (.retAddr 0) (.retAddr 0) rfl (pb_eq.refl _) (fun j hj => absurd hj (by omega))
  rw [u2_id] at this
  exact this
