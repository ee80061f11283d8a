def pk_bits (f : Nat → Bool) : Nat → Nat → Int32 → Int32
  | 0, _, acc => acc
  | m + 1, k, acc => pk_bits f m (k + 1) (if f k = true then acc ||| (1 <<< (nI k &&& 31)) else acc)
/-- what a kinds' call rests on -/
def pk_ok (σ : rd_S) (fc sc : Nat) : Prop := σ 0 13 = nI fc ∧ fc ≤ 12 ∧ σ 0 10 = nI sc ∧ sc ≤ 6 ∧ ∀ s, s < sc → ∃ n, σ 29 s = nI n ∧ n < 900
theorem pk_ok.wr {σ : rd_S} {fc sc : Nat} (h : pk_ok σ fc sc) (D : sd_D) : pk_ok (sd_wr σ 4 D) fc sc := by
  obtain ⟨h1, h2, h3, h4, h5⟩ := h
  refine ⟨by rw [sd_wr_ne D (by decide)]; exact h1, h2, by rw [sd_wr_ne D (by decide)]; exact h3, h4, fun s hs => ?_⟩
  rw [sd_wr_ne D (by decide)]
  exact h5 s hs
def pk_f (σ : rd_S) (fc sc : Nat) (i : Int32) (k : Nat) : Bool := ex_all (ex_ok σ fc (sd_withKind (σ 0 11) i (nI k))) 0 sc
theorem ex_ok_wr (σ : rd_S) (D : sd_D) (fc : Nat) (kb : Int32) : ex_ok (sd_wr σ 4 D) fc kb = ex_ok σ fc kb := by
  funext s
  simp only [ex_ok, sd_rd_ne D (show 3 ≠ 4 by decide), sd_wr_ne D (show 30 ≠ 4 by decide), sd_wr_ne D (show 31 ≠ 4 by decide), sd_wr_ne D (show 29 ≠ 4 by decide), sd_wr_ne D (show 0 ≠ 4 by decide)]
theorem pk_f_wr (σ : rd_S) (D : sd_D) (fc sc : Nat) (i : Int32) : pk_f (sd_wr σ 4 D) fc sc i = pk_f σ fc sc i := by
  funext k
  simp only [pk_f, ex_ok_wr, sd_wr_ne D (show 0 ≠ 4 by decide)]
theorem sd_wr_id (σ : rd_S) (o : Nat) : sd_wr σ o (sd_rd σ o) = σ := by apply sd_ext o <;> intros <;> simp_all [sd_wr, sd_rd]
set_option maxHeartbeats 4000000 in
set_option maxRecDepth 100000 in
theorem lp_possible (N d : Nat) (hN : 33 ≤ N) (σ : rd_S) (i : Int32) (fc sc : Nat) (hp : pk_ok σ fc sc) : ∀ (m k : Nat) (acc : Int32) (D : sd_D), k + m = 6 → rd_W N (d + 5) RX4 cX4_possibleKinds 4 (some .int) 4 [.ref 0, .int i, .int acc, .int (nI k)] [] (sd_wr σ 4 D) (fun r u => r = some (.int (pk_bits (pk_f σ fc sc i) m k acc)) ∧ ∃ E, u = sd_wr σ 4 E) := by
  intro m
  induction m with
  | zero =>
    intro k acc D hk
    obtain rfl : k = 6 := hk
    refine rr_iloadn_3 dX4_possibleKinds_4 ?_
    refine rr_bipush (v := 6) dX4_possibleKinds_5 (by decide) ?_
    refine rr_icmp_ge 38 dX4_possibleKinds_7 (by decide) (fun h7 => ?_) (fun h7 => absurd (by decide) h7)
    refine rr_iloadn_2 dX4_possibleKinds_38 ?_
    exact rr_iret dX4_possibleKinds_39 ⟨rfl, D, rfl⟩
  | succ m ih =>
    intro k acc D hk
    have hp2 := hp.wr D
    obtain ⟨p1, p2, p3, p4, p5⟩ := hp2
    have hq : ex_all (ex_ok (sd_wr σ 4 D) fc (sd_withKind (sd_wr σ 4 D 0 11) i (nI k))) 0 sc = pk_f σ fc sc i k := by rw [ex_ok_wr, sd_wr_ne D (by decide)]; rfl
    refine rr_iloadn_3 dX4_possibleKinds_4 ?_
    refine rr_bipush (v := 6) dX4_possibleKinds_5 (by decide) ?_
    refine rr_icmp_ge 38 dX4_possibleKinds_7 (by decide) (fun h7 => absurd ((nI_le8 (a := 6) (b := k) (by omega) (by omega)).mp h7) (by omega)) (fun h7 => ?_)
    refine rr_aloadn_0 dX4_possibleKinds_10 ?_
    refine rr_aloadn_0 dX4_possibleKinds_11 ?_
    refine rr_geti dX4_possibleKinds_12 kf_X4_96 (by omega) rfl rfl ?_
    refine rr_iloadn_1 dX4_possibleKinds_15 ?_
    refine rr_iloadn_3 dX4_possibleKinds_16 ?_
    refine rr_callSiD (c_X4_withKind N _ _ _ _ _) km_X4_259 rfl rfl (Nat.le_of_ble_eq_true rfl) dX4_possibleKinds_17 ?_
    refine rr_callVi (c_X4_explainsSeen N _ _ hN _ fc sc p1 (by omega) p3 p4 p5) km_X4_262 rfl rfl (by omega) rfl (Nat.le_of_ble_eq_true rfl) dX4_possibleKinds_20 (fun r20 s20 q20 => ?_)
    obtain ⟨hr, E, rfl⟩ := q20
    cases hr
    rw [hq, sd_wr_wr]
    cases hb : pk_f σ fc sc i k
    · rw [if_neg (show ¬ (false = true) by decide)]
      refine rr_if_eq 32 dX4_possibleKinds_23 (by decide) (fun h23 => ?_) (fun h23 => absurd rfl h23)
      refine rr_iinc_3 1 dX4_possibleKinds_32 (by decide) rfl ?_
      refine rr_goto 4 dX4_possibleKinds_35 (by decide) ?_
      rw [nI_s k]
      refine (ih (k + 1) _ E (by omega)).post (fun r u q => ⟨?_, q.2⟩)
      rw [q.1, pk_bits, hb]; rfl
    · rw [if_pos rfl]
      refine rr_if_eq 32 dX4_possibleKinds_23 (by decide) (fun h23 => absurd h23 (by decide)) (fun h23 => ?_)
      refine rr_iloadn_2 dX4_possibleKinds_26 ?_
      refine rr_iconst (v := 1) dX4_possibleKinds_27 (by decide) ?_
      refine rr_iloadn_3 dX4_possibleKinds_28 ?_
      refine rr_ishl dX4_possibleKinds_29 ?_
      refine rr_ior dX4_possibleKinds_30 ?_
      refine rr_istoren_2 dX4_possibleKinds_31 rfl ?_
      refine rr_iinc_3 1 dX4_possibleKinds_32 (by decide) rfl ?_
      refine rr_goto 4 dX4_possibleKinds_35 (by decide) ?_
      rw [nI_s k]
      refine (ih (k + 1) _ E (by omega)).post (fun r u q => ⟨?_, q.2⟩)
      rw [q.1, pk_bits, hb]; rfl
set_option maxHeartbeats 4000000 in
set_option maxRecDepth 100000 in
theorem c_X4_possibleKinds (N d : Nat) (σ : rd_S) (hN : 33 ≤ N) (i : Int32) (fc sc : Nat) (hp : pk_ok σ fc sc) : rd_T N (d + 5) yX4_possibleKinds cX4_possibleKinds 4 (some .int) [.ref 0, .int i] σ (fun r u => r = some (.int (pk_bits (pk_f σ fc sc i) 6 0 0)) ∧ ∃ E, u = sd_wr σ 4 E) := by
  refine rd_start RX4 [.ref 0, .int i, .retAddr 0, .retAddr 0] rfl (by decide +kernel) rfl (Nat.le_of_ble_eq_true rfl) ?_
  refine rr_iconst (v := 0) dX4_possibleKinds_0 (by decide) ?_
  refine rr_istoren_2 dX4_possibleKinds_1 rfl ?_
  refine rr_iconst (v := 0) dX4_possibleKinds_2 (by decide) ?_
  refine rr_istoren_3 dX4_possibleKinds_3 rfl ?_
  have := lp_possible N d hN σ i fc sc hp 6 0 0 (sd_rd σ 4) rfl
  rw [sd_wr_id] at this
  exact this
def pt_n (c : Nat → Int32) (x : Int32) : Nat → Nat → Nat → Nat
  | 0, _, acc => acc
  | m + 1, k, acc => pt_n c x m (k + 1) (if c k = x then acc + 1 else acc)
def pt_of (c : Nat → Int32) (x : Int32) : Nat := if x = 1000000001 then 0 else pt_n c x 6 0 0
theorem pt_n_le (c : Nat → Int32) (x : Int32) : ∀ m k acc, pt_n c x m k acc ≤ acc + m
  | 0, _, _ => Nat.le_refl _
  | m + 1, k, acc => by
    unfold pt_n
    have := pt_n_le c x m (k + 1) (if c k = x then acc + 1 else acc)
    split at this <;> simp_all <;> omega
theorem pt_of_le (c : Nat → Int32) (x : Int32) : pt_of c x ≤ 6 := by
  unfold pt_of
  split
  · omega
  · have := pt_n_le c x 6 0 0; omega
set_option maxHeartbeats 4000000 in
set_option maxRecDepth 100000 in
theorem lp_partOf (N d : Nat) (hN : 33 ≤ N) (σ : rd_S) (x : Int32) : ∀ (m k acc : Nat), k + m = 6 → rd_W N d RX4 cX4_partOf 4 (some .int) 13 [.ref 0, .int x, .int (nI acc), .int (nI k)] [] σ (rd_is (some (.int (nI (pt_n (σ 32) x m k acc)))) σ) := by
  intro m
  induction m with
  | zero =>
    intro k acc hk
    obtain rfl : k = 6 := hk
    refine rr_iloadn_3 dX4_partOf_13 ?_
    refine rr_bipush (v := 6) dX4_partOf_14 (by decide) ?_
    refine rr_icmp_ge 38 dX4_partOf_16 (by decide) (fun h16 => ?_) (fun h16 => absurd (by decide) h16)
    refine rr_iloadn_2 dX4_partOf_38 ?_
    exact rr_iret dX4_partOf_39 ⟨rfl, rfl⟩
  | succ m ih =>
    intro k acc hk
    refine rr_iloadn_3 dX4_partOf_13 ?_
    refine rr_bipush (v := 6) dX4_partOf_14 (by decide) ?_
    refine rr_icmp_ge 38 dX4_partOf_16 (by decide) (fun h16 => absurd ((nI_le8 (a := 6) (b := k) (by omega) (by omega)).mp h16) (by omega)) (fun h16 => ?_)
    refine rr_aloadn_0 dX4_partOf_19 ?_
    refine rr_getr 32 dX4_partOf_20 kf_X4_55 (by omega) rfl rfl rfl ?_
    refine rr_iloadn_3 dX4_partOf_23 ?_
    refine rr_iald (k) dX4_partOf_24 (by omega) rfl rfl (show k < 6 by omega) ?_
    refine rr_iloadn_1 dX4_partOf_25 ?_
    refine rr_icmp_ne 32 dX4_partOf_26 (by decide) (fun h26 => ?_) (fun h26 => ?_)
    · refine rr_iinc_3 1 dX4_partOf_32 (by decide) rfl ?_
      refine rr_goto 13 dX4_partOf_35 (by decide) ?_
      rw [nI_s k, pt_n]
      first | (rw [if_pos h26, nI_s acc]; exact ih _ _ (by omega)) | (rw [if_neg h26]; exact ih _ _ (by omega))
    · refine rr_iinc_2 1 dX4_partOf_29 (by decide) rfl ?_
      refine rr_iinc_3 1 dX4_partOf_32 (by decide) rfl ?_
      refine rr_goto 13 dX4_partOf_35 (by decide) ?_
      rw [nI_s k, pt_n]
      first | (rw [if_pos h26, nI_s acc]; exact ih _ _ (by omega)) | (rw [if_neg h26]; exact ih _ _ (by omega))
set_option maxHeartbeats 4000000 in
set_option maxRecDepth 100000 in
theorem c_X4_partOf (N d : Nat) (σ : rd_S) (hN : 33 ≤ N) (x : Int32) : rd_T N (d + 0) yX4_partOf cX4_partOf 4 (some .int) [.ref 0, .int x] σ (rd_is (some (.int (nI (pt_of (σ 32) x)))) σ) := by
  refine rd_start RX4 [.ref 0, .int x, .retAddr 0, .retAddr 0] rfl (by decide +kernel) rfl (Nat.le_of_ble_eq_true rfl) ?_
  refine rr_iloadn_1 dX4_partOf_0 ?_
  refine rr_ldcw dX4_partOf_1 kc_X4_272 ?_
  refine rr_icmp_ne 9 dX4_partOf_4 (by decide) (fun h4 => ?_) (fun h4 => ?_)
  · refine rr_iconst (v := 0) dX4_partOf_9 (by decide) ?_
    refine rr_istoren_2 dX4_partOf_10 rfl ?_
    refine rr_iconst (v := 0) dX4_partOf_11 (by decide) ?_
    refine rr_istoren_3 dX4_partOf_12 rfl ?_
    rw [pt_of, if_neg h4]
    exact lp_partOf N d hN σ x 6 0 0 rfl
  · refine rr_iconst (v := 0) dX4_partOf_7 (by decide) ?_
    exact rr_iret dX4_partOf_8 ⟨by rw [pt_of, if_pos h4]; rfl, rfl⟩
def gp_c (σ : rd_S) (fc n : Nat) (i po : Int32) (k : Nat) : Int32 := if (po >>> (nI k &&& 31)) &&& 1 = 1 then (fun q : Bool × sd_D => if q.1 = true then q.2.2.2.1 * 10000 + q.2.2.2.2.1 else 1000000000) (tr_go (σ 0 12) (sd_withKind (σ 0 11) i (nI k)) (min n fc) 0 (sd_rd σ 3)) else 1000000001
def gp_st (σ : rd_S) (D : sd_D) (c : Nat → Int32) (k : Nat) : rd_S := fun a b => if a = 32 ∧ b < k then c b else sd_wr σ 4 D a b
def gp_mx (f : Nat → Nat) : Nat → Nat → Nat → Nat
  | 0, _, acc => acc
  | m + 1, k, acc => gp_mx f m (k + 1) (max acc (f k))
theorem gp_st_ne {σ : rd_S} {D : sd_D} {c : Nat → Int32} {k a b : Nat} (h : a ≠ 32) (h4 : a ≠ 4) : gp_st σ D c k a b = σ a b := by simp [gp_st, h, sd_wr, h4]
theorem gp_st_rd {σ : rd_S} {D : sd_D} {c : Nat → Int32} {k o : Nat} (h : o ≠ 32) (h4 : o ≠ 4) : sd_rd (gp_st σ D c k) o = sd_rd σ o := by simp [sd_rd, gp_st_ne h h4]
theorem gp_st_wr (σ : rd_S) (D E : sd_D) (c : Nat → Int32) (k : Nat) : sd_wr (gp_st σ D c k) 4 E = gp_st σ E c k := by
  apply sd_ext 4 <;> intros <;> simp_all [sd_wr, gp_st]
theorem gp_st_s (σ : rd_S) (D : sd_D) (c : Nat → Int32) (k : Nat) : rd_u2 (gp_st σ D c k) 32 k (c k) = gp_st σ D c (k + 1) := by
  funext a b
  simp only [rd_u2, gp_st]
  by_cases ha : a = 32
  · by_cases hb : b = k
    · simp [ha, hb]
    · by_cases hb2 : b < k
      · simp [ha, hb, hb2, show b < k + 1 by omega]
      · simp [ha, hb, hb2, show ¬ b < k + 1 by omega]
  · simp [ha]
set_option maxHeartbeats 4000000 in
set_option maxRecDepth 100000 in
theorem lp_great2 (N d : Nat) (hN : 33 ≤ N) (σ : rd_S) (w1 w2 w3 : Int32) (w6 : Value) : ∀ (m k acc : Nat), k + m = 6 → acc ≤ 6 → rd_W N (d + 1) RX4 cX4_greatestPart 7 (some .int) 80 [.ref 0, .int w1, .int w2, .int w3, .int (nI acc), .int (nI k), w6] [] σ (rd_is (some (.int (nI (gp_mx (fun k => pt_of (σ 32) (σ 32 k)) m k acc)))) σ) := by
  intro m
  induction m with
  | zero =>
    intro k acc hk hacc
    obtain rfl : k = 6 := hk
    refine rr_iload_5 dX4_greatestPart_80 ?_
    refine rr_bipush (v := 6) dX4_greatestPart_82 (by decide) ?_
    refine rr_icmp_ge 111 dX4_greatestPart_84 (by decide) (fun h84 => ?_) (fun h84 => absurd (by decide) h84)
    refine rr_iload_4 dX4_greatestPart_111 ?_
    exact rr_iret dX4_greatestPart_113 ⟨rfl, rfl⟩
  | succ m ih =>
    intro k acc hk hacc
    have hle := pt_of_le (σ 32) (σ 32 k)
    have hmx : (if nI acc < nI (pt_of (σ 32) (σ 32 k)) then nI (pt_of (σ 32) (σ 32 k)) else nI acc) = nI (max acc (pt_of (σ 32) (σ 32 k))) := by
      by_cases h : acc < pt_of (σ 32) (σ 32 k)
      · rw [if_pos ((nI_lt8 (by omega) (by omega)).mpr h), Nat.max_eq_right (by omega)]
      · rw [if_neg (fun q => h ((nI_lt8 (by omega) (by omega)).mp q)), Nat.max_eq_left (by omega)]
    refine rr_iload_5 dX4_greatestPart_80 ?_
    refine rr_bipush (v := 6) dX4_greatestPart_82 (by decide) ?_
    refine rr_icmp_ge 111 dX4_greatestPart_84 (by decide) (fun h84 => absurd ((nI_le8 (a := 6) (b := k) (by omega) (by omega)).mp h84) (by omega)) (fun h84 => ?_)
    refine rr_iload_4 dX4_greatestPart_87 ?_
    refine rr_aloadn_0 dX4_greatestPart_89 ?_
    refine rr_aloadn_0 dX4_greatestPart_90 ?_
    refine rr_getr 32 dX4_greatestPart_91 kf_X4_55 (by omega) rfl rfl rfl ?_
    refine rr_iload_5 dX4_greatestPart_94 ?_
    refine rr_iald (k) dX4_greatestPart_96 (by omega) rfl rfl (show k < 6 by omega) ?_
    refine rr_callViD (c_X4_partOf N _ _ hN _) km_X4_273 rfl rfl (by omega) rfl (Nat.le_of_ble_eq_true rfl) dX4_greatestPart_97 ?_
    refine rr_mmax dX4_greatestPart_100 kl_X4_276 (Nat.le_of_ble_eq_true rfl) kh_max ?_
    rw [hmx]
    refine rr_istore_4 dX4_greatestPart_103 rfl ?_
    refine rr_iinc_5 1 dX4_greatestPart_105 (by decide) rfl ?_
    refine rr_goto 80 dX4_greatestPart_108 (by decide) ?_
    rw [nI_s k, gp_mx]
    exact ih _ _ (by omega) (by omega)
set_option maxHeartbeats 4000000 in
set_option maxRecDepth 100000 in
theorem lp_great1 (N d : Nat) (hN : 33 ≤ N) (σ : rd_S) (i po : Int32) (n fc : Nat) (hf : σ 0 13 = nI fc) (hfc : fc ≤ 12) (hn : n < 900) : ∀ (m k : Nat) (D : sd_D) (w6 : Value), k + m = 6 → rd_W N (d + 4) RX4 cX4_greatestPart 7 (some .int) 6 [.ref 0, .int i, .int po, .int (nI n), .int 0, .int (nI k), w6] [] (gp_st σ D (gp_c σ fc n i po) k) (fun r u => r = some (.int (nI (gp_mx (fun k => pt_of (gp_st σ D (gp_c σ fc n i po) 6 32) (gp_c σ fc n i po k)) 6 0 0))) ∧ ∃ E, u = gp_st σ E (gp_c σ fc n i po) 6) := by
  intro m
  induction m with
  | zero =>
    intro k D w6 hk
    obtain rfl : k = 6 := hk
    refine rr_iload_5 dX4_greatestPart_6 ?_
    refine rr_bipush (v := 6) dX4_greatestPart_8 (by decide) ?_
    refine rr_icmp_ge 77 dX4_greatestPart_10 (by decide) (fun h10 => ?_) (fun h10 => absurd (by decide) h10)
    refine rr_iconst (v := 0) dX4_greatestPart_77 (by decide) ?_
    refine rr_istore_5 dX4_greatestPart_78 rfl ?_
    refine (lp_great2 N (d + 3) hN _ _ _ _ _ 6 0 0 rfl (by decide)).post (fun r u q => ⟨?_, D, q.2⟩)
    rw [q.1]
    rfl
  | succ m ih =>
    intro k D w6 hk
    have e13 : gp_st σ D (gp_c σ fc n i po) k 0 13 = nI fc := by rw [gp_st_ne (by decide) (by decide)]; exact hf
    have hT := c_X4_tryRow N d (gp_st σ D (gp_c σ fc n i po) k) hN n fc (sd_withKind (σ 0 11) i (nI k)) e13 hn (by omega)
    rw [gp_st_ne (by decide) (by decide), gp_st_rd (by decide) (by decide), gp_st_wr] at hT
    have hc : ∀ q, tr_go (σ 0 12) (sd_withKind (σ 0 11) i (nI k)) (min n fc) 0 (sd_rd σ 3) = q → gp_c σ fc n i po k = if (po >>> (nI k &&& 31)) &&& 1 = 1 then (if q.1 = true then q.2.2.2.1 * 10000 + q.2.2.2.2.1 else 1000000000) else 1000000001 := by
      intro q hq
      subst hq
      rfl
    rcases hq : tr_go (σ 0 12) (sd_withKind (σ 0 11) i (nI k)) (min n fc) 0 (sd_rd σ 3) with ⟨b, E⟩
    have hc := hc _ hq
    rw [hq] at hT
    dsimp only at hT hc
    have hne : ∀ E w, gp_mx (fun k => pt_of (gp_st σ E (gp_c σ fc n i po) 6 32) (gp_c σ fc n i po k)) 6 0 0 = w → gp_mx (fun k => pt_of (gp_st σ D (gp_c σ fc n i po) 6 32) (gp_c σ fc n i po k)) 6 0 0 = w := by
      intro E w h
      rw [← h]
      have : gp_st σ D (gp_c σ fc n i po) 6 32 = gp_st σ E (gp_c σ fc n i po) 6 32 := by funext b; simp [gp_st, sd_wr]
      rw [this]
    refine rr_iload_5 dX4_greatestPart_6 ?_
    refine rr_bipush (v := 6) dX4_greatestPart_8 (by decide) ?_
    refine rr_icmp_ge 77 dX4_greatestPart_10 (by decide) (fun h10 => absurd ((nI_le8 (a := 6) (b := k) (by omega) (by omega)).mp h10) (by omega)) (fun h10 => ?_)
    refine rr_aloadn_0 dX4_greatestPart_13 ?_
    refine rr_iloadn_3 dX4_greatestPart_14 ?_
    refine rr_aloadn_0 dX4_greatestPart_15 ?_
    refine rr_geti dX4_greatestPart_16 kf_X4_96 (by omega) rfl rfl ?_
    rw [gp_st_ne (show 0 ≠ 32 by decide) (show 0 ≠ 4 by decide)]
    refine rr_iloadn_1 dX4_greatestPart_19 ?_
    refine rr_iload_5 dX4_greatestPart_20 ?_
    refine rr_callSiD (c_X4_withKind N _ _ _ _ _) km_X4_259 rfl rfl (Nat.le_of_ble_eq_true rfl) dX4_greatestPart_22 ?_
    cases b
    · refine rr_callViD hT km_X4_180 rfl rfl (by omega) rfl (Nat.le_of_ble_eq_true rfl) dX4_greatestPart_25 ?_
      refine rr_if_eq 41 dX4_greatestPart_28 (by decide) (fun h28 => ?_) (fun h28 => absurd (by simp) h28)
      refine rr_ldcw dX4_greatestPart_41 kc_X4_271 ?_
      refine rr_istore_6 dX4_greatestPart_44 rfl ?_
      refine rr_aloadn_0 dX4_greatestPart_46 ?_
      refine rr_getr 32 dX4_greatestPart_47 kf_X4_55 (by omega) rfl rfl rfl ?_
      refine rr_iload_5 dX4_greatestPart_50 ?_
      refine rr_iloadn_2 dX4_greatestPart_52 ?_
      refine rr_iload_5 dX4_greatestPart_53 ?_
      refine rr_ishr dX4_greatestPart_55 ?_
      refine rr_iconst (v := 1) dX4_greatestPart_56 (by decide) ?_
      refine rr_iand dX4_greatestPart_57 ?_
      refine rr_iconst (v := 1) dX4_greatestPart_58 (by decide) ?_
      refine rr_icmp_neJ 67 70 (1000000001) (1000000000) dX4_greatestPart_59 (by decide) (fun h59 k59 => ?_) (fun h59 k59 => ?_) ?_
      · refine rr_ldcw dX4_greatestPart_67 kc_X4_272 ?_
        exact k59
      · refine rr_iload_6 dX4_greatestPart_62 ?_
        refine rr_goto 70 dX4_greatestPart_64 (by decide) ?_
        exact k59
      refine rr_iast (k) dX4_greatestPart_70 (by omega) rfl rfl (show k < 6 by omega) ?_
      refine rr_iinc_5 1 dX4_greatestPart_71 (by decide) rfl ?_
      refine rr_goto 6 dX4_greatestPart_74 (by decide) ?_
      rw [nI_s k]
      refine rd_sub (show _ = gp_st σ E (gp_c σ fc n i po) (k + 1) from ?_) ((ih (k + 1) E _ (by omega)).post (fun r u q => ⟨?_, q.2⟩))
      · rw [← gp_st_s, hc]; rfl
      · rw [q.1, hne E _ rfl]
    · refine rr_callViD hT km_X4_180 rfl rfl (by omega) rfl (Nat.le_of_ble_eq_true rfl) dX4_greatestPart_25 ?_
      refine rr_if_eq 41 dX4_greatestPart_28 (by decide) (fun h28 => absurd h28 (by simp)) (fun h28 => ?_)
      refine rr_aloadn_0 dX4_greatestPart_31 ?_
      refine rr_getr 4 dX4_greatestPart_32 kf_X4_23 (by omega) rfl rfl rfl ?_
      refine rr_callViD (c_X3_woundCode N _ _ _ (by omega) rfl) km_X4_268 rfl rfl (by omega) rfl (Nat.le_of_ble_eq_true rfl) dX4_greatestPart_35 ?_
      refine rr_goto 44 dX4_greatestPart_38 (by decide) ?_
      rw [show gp_st σ E (gp_c σ fc n i po) k 4 2 * 10000 + gp_st σ E (gp_c σ fc n i po) k 4 3 = E.2.2.1 * 10000 + E.2.2.2.1 by simp [gp_st, sd_wr]]
      refine rr_istore_6 dX4_greatestPart_44 rfl ?_
      refine rr_aloadn_0 dX4_greatestPart_46 ?_
      refine rr_getr 32 dX4_greatestPart_47 kf_X4_55 (by omega) rfl rfl rfl ?_
      refine rr_iload_5 dX4_greatestPart_50 ?_
      refine rr_iloadn_2 dX4_greatestPart_52 ?_
      refine rr_iload_5 dX4_greatestPart_53 ?_
      refine rr_ishr dX4_greatestPart_55 ?_
      refine rr_iconst (v := 1) dX4_greatestPart_56 (by decide) ?_
      refine rr_iand dX4_greatestPart_57 ?_
      refine rr_iconst (v := 1) dX4_greatestPart_58 (by decide) ?_
      refine rr_icmp_neJ 67 70 (1000000001) (E.2.2.1 * 10000 + E.2.2.2.1) dX4_greatestPart_59 (by decide) (fun h59 k59 => ?_) (fun h59 k59 => ?_) ?_
      · refine rr_ldcw dX4_greatestPart_67 kc_X4_272 ?_
        exact k59
      · refine rr_iload_6 dX4_greatestPart_62 ?_
        refine rr_goto 70 dX4_greatestPart_64 (by decide) ?_
        exact k59
      refine rr_iast (k) dX4_greatestPart_70 (by omega) rfl rfl (show k < 6 by omega) ?_
      refine rr_iinc_5 1 dX4_greatestPart_71 (by decide) rfl ?_
      refine rr_goto 6 dX4_greatestPart_74 (by decide) ?_
      rw [nI_s k]
      refine rd_sub (show _ = gp_st σ E (gp_c σ fc n i po) (k + 1) from ?_) ((ih (k + 1) E _ (by omega)).post (fun r u q => ⟨?_, q.2⟩))
      · rw [← gp_st_s, hc]; rfl
      · rw [q.1, hne E _ rfl]
set_option maxHeartbeats 4000000 in
set_option maxRecDepth 100000 in
theorem c_X4_greatestPart (N d : Nat) (σ : rd_S) (hN : 33 ≤ N) (i po : Int32) (n fc : Nat) (hf : σ 0 13 = nI fc) (hfc : fc ≤ 12) (hn : n < 900) : rd_T N (d + 4) yX4_greatestPart cX4_greatestPart 7 (some .int) [.ref 0, .int i, .int po, .int (nI n)] σ (fun r u => r = some (.int (nI (gp_mx (fun k => pt_of (fun j => if j < 6 then gp_c σ fc n i po j else σ 32 j) (gp_c σ fc n i po k)) 6 0 0))) ∧ ∃ E, u = gp_st σ E (gp_c σ fc n i po) 6) := by
  refine rd_start RX4 [.ref 0, .int i, .int po, .int (nI n), .retAddr 0, .retAddr 0, .retAddr 0] rfl (by decide +kernel) rfl (Nat.le_of_ble_eq_true rfl) ?_
  refine rr_iconst (v := 0) dX4_greatestPart_0 (by decide) ?_
  refine rr_istore_4 dX4_greatestPart_1 rfl ?_
  refine rr_iconst (v := 0) dX4_greatestPart_3 (by decide) ?_
  refine rr_istore_5 dX4_greatestPart_4 rfl ?_
  have := lp_great1 N d hN σ i po n fc hf hfc hn 6 0 (sd_rd σ 4) (.retAddr 0) rfl
  rw [show gp_st σ (sd_rd σ 4) (gp_c σ fc n i po) 0 = σ by { have := sd_wr_id σ 4; funext a b; simp [gp_st, this] }, show gp_st σ (sd_rd σ 4) (gp_c σ fc n i po) 6 32 = (fun j => if j < 6 then gp_c σ fc n i po j else σ 32 j) by { funext b; simp [gp_st, sd_wr] }] at this
  exact this
