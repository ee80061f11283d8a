/-! ===== the text: letters t, n of them; its items ===== -/
abbrev ps_X : Type := Nat × Int32 × Int32 × Int32
def ps_l (t : Nat → Int32) (n k : Nat) : Int32 := if k < n then t k else 0
def ps_num (c m : Int32) : Bool := decide (48 ≤ c ∧ c ≤ 48 + m)
def ps_len (t : Nat → Int32) (n a : Nat) : Option Nat :=
  if ps_l t n a = 100 then (if ps_num (ps_l t n (a + 1)) 3 = true ∧ ps_l t n (a + 2) = 44 ∧ ps_num (ps_l t n (a + 3)) 5 = true ∧ ps_l t n (a + 4) = 59 then some 5 else none)
  else if ps_l t n a = 112 then (if ps_num (ps_l t n (a + 1)) 3 = true ∧ ps_l t n (a + 2) = 44 ∧ ps_num (ps_l t n (a + 3)) 3 = true ∧ ps_l t n (a + 4) = 59 then some 5 else none)
  else if ps_l t n a = 114 then (if ps_num (ps_l t n (a + 1)) 3 = true ∧ ps_l t n (a + 2) = 59 then some 3 else none)
  else none
def ps_setp (pb i v : Int32) : Int32 := (pb &&& ((3 <<< ((2 * i) &&& 31)) ^^^ (-1))) ||| (v <<< ((2 * i) &&& 31))
def ps_up (t : Nat → Int32) (n a : Nat) (X : ps_X) : ps_X :=
  if ps_l t n a = 100 then (X.1, sd_withKind X.2.1 (ps_l t n (a + 1) - 48) (ps_l t n (a + 3) - 48), X.2.2.1, X.2.2.2)
  else if ps_l t n a = 112 then (X.1, X.2.1, X.2.2.1, ps_setp X.2.2.2 (ps_l t n (a + 1) - 48) (ps_l t n (a + 3) - 48))
  else (X.1 + 1, X.2.1, X.2.2.1 ||| ((ps_l t n (a + 1) - 48) <<< ((2 * nI X.1) &&& 31)), X.2.2.2)
/-- the items from a on: the place of the first fault, or what is told -/
def ps_run (t : Nat → Int32) (n : Nat) : Nat → Nat → ps_X → Nat ⊕ ps_X
  | 0, _, X => .inr X
  | f + 1, a, X => if n ≤ a then .inr X else match ps_len t n a with
    | none => .inl a
    | some l => if ps_l t n a = 114 ∧ X.1 = 12 then .inl a else ps_run t n f (a + l) (ps_up t n a X)
def ps_0 : ps_X := (0, 0, 0, 228)
theorem ps_len_c {t : Nat → Int32} {n a l : Nat} (h : ps_len t n a = some l) : 3 ≤ l ∧ l ≤ 5 ∧ a + l ≤ n := by
  have key : ∀ k, ps_l t n k = 59 → k < n := by
    intro k hk
    unfold ps_l at hk
    split at hk
    · assumption
    · exact absurd hk (by decide)
  unfold ps_len at h
  split at h
  · split at h
    · rename_i h1; cases h; have := key _ h1.2.2.2; omega
    · cases h
  · split at h
    · split at h
      · rename_i h1; cases h; have := key _ h1.2.2.2; omega
      · cases h
    · split at h
      · split at h
        · rename_i h1; cases h; have := key _ h1.2; omega
        · cases h
      · cases h
theorem rd_neI {x k : Int32} {z : Int} (h : ¬ x = k) (hz : k.toInt = z) : ¬ (z = x.toInt) := fun e => h (Int32.toInt_inj.mp (by rw [← e, hz]))
/-- the text stands at 1 and 2, n letters long -/
def ps_at (σ : rd_S) (n : Nat) : Prop := σ 1 1 = nI n ∧ n ≤ 200
theorem nI_le1k {a b : Nat} (ha : a < 100000) (hb : b < 100000) : nI a ≤ nI b ↔ a ≤ b := nI_leI (by omega) (by omega)
theorem nI_lt1k {a b : Nat} (ha : a < 100000) (hb : b < 100000) : nI a < nI b ↔ a < b := nI_ltI (by omega) (by omega)
set_option maxHeartbeats 4000000 in
set_option maxRecDepth 100000 in
theorem c_X1_clear (N d : Nat) (σ : rd_S) (hN : 33 ≤ N) : rd_T N (d + 0) yX1_clear cX1_clear 1 none [.ref 1] σ (rd_is none (rd_u2 σ 1 1 0)) := by
  refine rd_start RX1 [.ref 1] rfl (by decide +kernel) rfl (Nat.le_of_ble_eq_true rfl) ?_
  refine rr_aloadn_0 dX1_clear_0 ?_
  refine rr_iconst (v := 0) dX1_clear_1 (by decide) ?_
  refine rr_puti dX1_clear_2 kf_X1_15 if_1_1 (by omega) rfl rfl ?_
  exact rr_vret dX1_clear_5 ⟨rfl, rfl⟩
set_option maxHeartbeats 4000000 in
set_option maxRecDepth 100000 in
theorem c_add_s (N d : Nat) (σ : rd_S) (hN : 33 ≤ N) (n : Nat) (hn : ps_at σ n) (h2 : n < 200) (x : Int32) : rd_T N (d + 0) yX1_add cX1_add 2 (some .boolean) [.ref 1, .int x] σ (rd_is (some (.int 1)) (rd_u2 (rd_u2 σ 2 n (vp_nar .byte x.toInt8.toInt32)) 1 1 (nI (n + 1)))) := by
  refine rd_start RX1 [.ref 1, .int x] rfl (by decide +kernel) rfl (Nat.le_of_ble_eq_true rfl) ?_
  obtain ⟨h1, hn2⟩ := hn
  refine rr_aloadn_0 dX1_add_0 ?_
  refine rr_geti dX1_add_1 kf_X1_15 (by omega) rfl rfl ?_
  rw [h1]
  refine rr_if_lt 19 dX1_add_4 (by decide) (fun h4 => absurd h4 (nI_pos (by omega))) (fun h4 => ?_)
  refine rr_aloadn_0 dX1_add_7 ?_
  refine rr_geti dX1_add_8 kf_X1_15 (by omega) rfl rfl ?_
  rw [h1]
  refine rr_aloadn_0 dX1_add_11 ?_
  refine rr_getr 2 dX1_add_12 kf_X1_9 (by omega) rfl rfl rfl ?_
  refine rr_alen (v := nI 200) dX1_add_15 (by omega) (by decide) rfl ?_
  refine rr_icmp_lt 21 dX1_add_16 (by decide) (fun h16 => ?_) (fun h16 => absurd ((nI_lt8 (b := 200) (by omega) (by omega)).mpr h2) h16)
  refine rr_aloadn_0 dX1_add_21 ?_
  refine rr_getr 2 dX1_add_22 kf_X1_9 (by omega) rfl rfl rfl ?_
  refine rr_aloadn_0 dX1_add_25 ?_
  refine rr_geti dX1_add_26 kf_X1_15 (by omega) rfl rfl ?_
  rw [h1]
  refine rr_iloadn_1 dX1_add_29 ?_
  refine rr_i2b dX1_add_30 ?_
  refine rr_bast (n) dX1_add_31 (by omega) rfl rfl h2 ?_
  refine rr_aloadn_0 dX1_add_32 ?_
  refine rr_dup dX1_add_33 rfl ?_
  refine rr_geti dX1_add_34 kf_X1_15 (by omega) rfl rfl ?_
  rw [show ∀ v, rd_u2 σ 2 n v 1 1 = nI n from fun v => by simp [rd_u2, h1]]
  refine rr_iconst (v := 1) dX1_add_37 (by decide) ?_
  refine rr_iadd dX1_add_38 ?_
  rw [nI_s n]
  refine rr_puti dX1_add_39 kf_X1_15 if_1_1 (by omega) rfl rfl ?_
  refine rr_iconst (v := 1) dX1_add_42 (by decide) ?_
  exact rr_zret dX1_add_43 (by decide) ⟨rfl, rfl⟩
set_option maxHeartbeats 4000000 in
set_option maxRecDepth 100000 in
theorem c_add_n (N d : Nat) (σ : rd_S) (hN : 33 ≤ N) (h1 : σ 1 1 = nI 200) (x : Int32) : rd_T N (d + 0) yX1_add cX1_add 2 (some .boolean) [.ref 1, .int x] σ (rd_is (some (.int 0)) σ) := by
  refine rd_start RX1 [.ref 1, .int x] rfl (by decide +kernel) rfl (Nat.le_of_ble_eq_true rfl) ?_
  refine rr_aloadn_0 dX1_add_0 ?_
  refine rr_geti dX1_add_1 kf_X1_15 (by omega) rfl rfl ?_
  rw [h1]
  refine rr_if_lt 19 dX1_add_4 (by decide) (fun h4 => absurd h4 (by decide)) (fun h4 => ?_)
  refine rr_aloadn_0 dX1_add_7 ?_
  refine rr_geti dX1_add_8 kf_X1_15 (by omega) rfl rfl ?_
  rw [h1]
  refine rr_aloadn_0 dX1_add_11 ?_
  refine rr_getr 2 dX1_add_12 kf_X1_9 (by omega) rfl rfl rfl ?_
  refine rr_alen (v := nI 200) dX1_add_15 (by omega) (by decide) rfl ?_
  refine rr_icmp_lt 21 dX1_add_16 (by decide) (fun h16 => absurd h16 (by decide)) (fun h16 => ?_)
  refine rr_iconst (v := 0) dX1_add_19 (by decide) ?_
  exact rr_zret dX1_add_20 (by decide) ⟨rfl, rfl⟩
set_option maxHeartbeats 4000000 in
set_option maxRecDepth 100000 in
theorem c_X1_letterAt (N d : Nat) (σ : rd_S) (hN : 33 ≤ N) (n : Nat) (hn : ps_at σ n) (k : Nat) (hk : k < 1000) : rd_T N (d + 0) yX1_letterAt cX1_letterAt 2 (some .int) [.ref 1, .int (nI k)] σ (rd_is (some (.int (ps_l (σ 2) n k))) σ) := by
  refine rd_start RX1 [.ref 1, .int (nI k)] rfl (by decide +kernel) rfl (Nat.le_of_ble_eq_true rfl) ?_
  obtain ⟨h0, hn2⟩ := hn
  refine rr_iloadn_1 dX1_letterAt_0 ?_
  refine rr_if_lt 30 dX1_letterAt_1 (by decide) (fun h1 => absurd h1 (nI_pos (by omega))) (fun h1 => ?_)
  refine rr_iloadn_1 dX1_letterAt_4 ?_
  refine rr_aloadn_0 dX1_letterAt_5 ?_
  refine rr_geti dX1_letterAt_6 kf_X1_15 (by omega) rfl rfl ?_
  rw [h0]
  refine rr_icmp_ge 30 dX1_letterAt_9 (by decide) (fun h9 => ?_) (fun h9 => ?_)
  · refine rr_iconst (v := 0) dX1_letterAt_30 (by decide) ?_
    exact rr_iret dX1_letterAt_31 ⟨by first | (rw [ps_l, if_neg (Nat.not_lt.mpr ((nI_le8 (by omega) (by omega)).mp h9))]; done) | rw [ps_l, if_pos hkn], rfl⟩
  · have hkn : k < n := Nat.lt_of_not_le (fun q => h9 ((nI_le8 (a := n) (b := k) (by omega) (by omega)).mpr q))
    refine rr_iloadn_1 dX1_letterAt_12 ?_
    refine rr_aloadn_0 dX1_letterAt_13 ?_
    refine rr_getr 2 dX1_letterAt_14 kf_X1_9 (by omega) rfl rfl rfl ?_
    refine rr_alen (v := nI 200) dX1_letterAt_17 (by omega) (by decide) rfl ?_
    refine rr_icmp_ge 30 dX1_letterAt_18 (by decide) (fun h18 => absurd ((nI_le8 (a := 200) (b := k) (by omega) (by omega)).mp h18) (by omega)) (fun h18 => ?_)
    refine rr_aloadn_0 dX1_letterAt_21 ?_
    refine rr_getr 2 dX1_letterAt_22 kf_X1_9 (by omega) rfl rfl rfl ?_
    refine rr_iloadn_1 dX1_letterAt_25 ?_
    refine rr_bald (k) dX1_letterAt_26 (by omega) rfl rfl (show k < 200 by omega) ?_
    refine rr_goto 31 dX1_letterAt_27 (by decide) ?_
    exact rr_iret dX1_letterAt_31 ⟨by first | (rw [ps_l, if_neg (Nat.not_lt.mpr ((nI_le8 (by omega) (by omega)).mp h9))]; done) | rw [ps_l, if_pos hkn], rfl⟩
set_option maxHeartbeats 4000000 in
set_option maxRecDepth 100000 in
theorem c_X1_isNumber (N d : Nat) (σ : rd_S) (hN : 33 ≤ N) (n : Nat) (hn : ps_at σ n) (k : Nat) (hk : k < 1000) (m : Int32) : rd_T N (d + 1) yX1_isNumber cX1_isNumber 4 (some .boolean) [.ref 1, .int (nI k), .int m] σ (rd_is (some (.int (if ps_num (ps_l (σ 2) n k) m = true then 1 else 0))) σ) := by
  refine rd_start RX1 [.ref 1, .int (nI k), .int m, .retAddr 0] rfl (by decide +kernel) rfl (Nat.le_of_ble_eq_true rfl) ?_
  refine rr_aloadn_0 dX1_isNumber_0 ?_
  refine rr_iloadn_1 dX1_isNumber_1 ?_
  refine rr_callViD (c_X1_letterAt N _ _ hN n hn (k) (by omega)) km_X1_23 rfl rfl (by omega) rfl (Nat.le_of_ble_eq_true rfl) dX1_isNumber_2 ?_
  refine rr_istoren_3 dX1_isNumber_5 rfl ?_
  refine rr_iloadn_3 dX1_isNumber_6 ?_
  refine rr_bipush (v := 48) dX1_isNumber_7 (by decide) ?_
  refine rr_icmp_lt 24 dX1_isNumber_9 (by decide) (fun h9 => ?_) (fun h9 => ?_)
  · refine rr_iconst (v := 0) dX1_isNumber_24 (by decide) ?_
    exact rr_zret dX1_isNumber_25 (by decide) ⟨by first | (simp [ps_num, Int32.not_le.mpr h9]; done) | (simp [ps_num, Int32.not_le.mpr h17]; done) | (simp [ps_num, Int32.not_lt.mp h9, Int32.not_lt.mp h17]; done), rfl⟩
  · refine rr_iloadn_3 dX1_isNumber_12 ?_
    refine rr_bipush (v := 48) dX1_isNumber_13 (by decide) ?_
    refine rr_iloadn_2 dX1_isNumber_15 ?_
    refine rr_iadd dX1_isNumber_16 ?_
    refine rr_icmp_gt 24 dX1_isNumber_17 (by decide) (fun h17 => ?_) (fun h17 => ?_)
    · refine rr_iconst (v := 0) dX1_isNumber_24 (by decide) ?_
      exact rr_zret dX1_isNumber_25 (by decide) ⟨by first | (simp [ps_num, Int32.not_le.mpr h9]; done) | (simp [ps_num, Int32.not_le.mpr h17]; done) | (simp [ps_num, Int32.not_lt.mp h9, Int32.not_lt.mp h17]; done), rfl⟩
    · refine rr_iconst (v := 1) dX1_isNumber_20 (by decide) ?_
      refine rr_goto 25 dX1_isNumber_21 (by decide) ?_
      exact rr_zret dX1_isNumber_25 (by decide) ⟨by first | (simp [ps_num, Int32.not_le.mpr h9]; done) | (simp [ps_num, Int32.not_le.mpr h17]; done) | (simp [ps_num, Int32.not_lt.mp h9, Int32.not_lt.mp h17]; done), rfl⟩
theorem nI_a (k j : Nat) : nI k + nI j = nI (k + j) := nI_add k j
set_option maxHeartbeats 4000000 in
set_option maxRecDepth 100000 in
theorem c_X1_endOfPair (N d : Nat) (σ : rd_S) (hN : 33 ≤ N) (n : Nat) (hn : ps_at σ n) (a : Nat) (ha : a < 900) (m : Int32) : rd_T N (d + 2) yX1_endOfPair cX1_endOfPair 4 (some .int) [.ref 1, .int (nI a), .int m] σ (rd_is (some (.int (if ps_num (ps_l (σ 2) n (a + 1)) 3 = true ∧ ps_l (σ 2) n (a + 2) = 44 ∧ ps_num (ps_l (σ 2) n (a + 3)) m = true ∧ ps_l (σ 2) n (a + 4) = 59 then nI (a + 5) else -1))) σ) := by
  refine rd_start RX1 [.ref 1, .int (nI a), .int m, .retAddr 0] rfl (by decide +kernel) rfl (Nat.le_of_ble_eq_true rfl) ?_
  refine rr_aloadn_0 dX1_endOfPair_0 ?_
  refine rr_iloadn_1 dX1_endOfPair_1 ?_
  refine rr_iconst (v := 1) dX1_endOfPair_2 (by decide) ?_
  refine rr_iadd dX1_endOfPair_3 ?_
  rw [show nI a + 1 = nI (a + 1) from nI_add a 1]
  refine rr_iconst (v := 3) dX1_endOfPair_4 (by decide) ?_
  refine rr_callViD (c_X1_isNumber N _ _ hN n hn (a + 1) (by omega) 3) km_X1_71 rfl rfl (by omega) rfl (Nat.le_of_ble_eq_true rfl) dX1_endOfPair_5 ?_
  refine rr_if_eq 50 dX1_endOfPair_8 (by decide) (fun h8 => ?_) (fun h8 => ?_)
  · refine rr_iconst (v := 0) dX1_endOfPair_50 (by decide) ?_
    refine rr_istoren_3 dX1_endOfPair_51 rfl ?_
    refine rr_iloadn_3 dX1_endOfPair_52 ?_
    refine rr_if_eq 62 dX1_endOfPair_53 (by decide) (fun _ => ?_) (fun h53 => absurd h53 (by decide))
    refine rr_iconst (v := (-1)) dX1_endOfPair_62 (by decide) ?_
    exact rr_iret dX1_endOfPair_63 ⟨by simp_all, rfl⟩
  · refine rr_aloadn_0 dX1_endOfPair_11 ?_
    refine rr_iloadn_1 dX1_endOfPair_12 ?_
    refine rr_iconst (v := 2) dX1_endOfPair_13 (by decide) ?_
    refine rr_iadd dX1_endOfPair_14 ?_
    rw [show nI a + 2 = nI (a + 2) from nI_add a 2]
    refine rr_callViD (c_X1_letterAt N _ _ hN n hn (a + 2) (by omega)) km_X1_23 rfl rfl (by omega) rfl (Nat.le_of_ble_eq_true rfl) dX1_endOfPair_15 ?_
    refine rr_bipush (v := 44) dX1_endOfPair_18 (by decide) ?_
    refine rr_icmp_ne 50 dX1_endOfPair_20 (by decide) (fun h20 => ?_) (fun h20 => ?_)
    · refine rr_iconst (v := 0) dX1_endOfPair_50 (by decide) ?_
      refine rr_istoren_3 dX1_endOfPair_51 rfl ?_
      refine rr_iloadn_3 dX1_endOfPair_52 ?_
      refine rr_if_eq 62 dX1_endOfPair_53 (by decide) (fun _ => ?_) (fun h53 => absurd h53 (by decide))
      refine rr_iconst (v := (-1)) dX1_endOfPair_62 (by decide) ?_
      exact rr_iret dX1_endOfPair_63 ⟨by simp_all, rfl⟩
    · refine rr_aloadn_0 dX1_endOfPair_23 ?_
      refine rr_iloadn_1 dX1_endOfPair_24 ?_
      refine rr_iconst (v := 3) dX1_endOfPair_25 (by decide) ?_
      refine rr_iadd dX1_endOfPair_26 ?_
      rw [show nI a + 3 = nI (a + 3) from nI_add a 3]
      refine rr_iloadn_2 dX1_endOfPair_27 ?_
      refine rr_callViD (c_X1_isNumber N _ _ hN n hn (a + 3) (by omega) m) km_X1_71 rfl rfl (by omega) rfl (Nat.le_of_ble_eq_true rfl) dX1_endOfPair_28 ?_
      refine rr_if_eq 50 dX1_endOfPair_31 (by decide) (fun h31 => ?_) (fun h31 => ?_)
      · refine rr_iconst (v := 0) dX1_endOfPair_50 (by decide) ?_
        refine rr_istoren_3 dX1_endOfPair_51 rfl ?_
        refine rr_iloadn_3 dX1_endOfPair_52 ?_
        refine rr_if_eq 62 dX1_endOfPair_53 (by decide) (fun _ => ?_) (fun h53 => absurd h53 (by decide))
        refine rr_iconst (v := (-1)) dX1_endOfPair_62 (by decide) ?_
        exact rr_iret dX1_endOfPair_63 ⟨by simp_all, rfl⟩
      · refine rr_aloadn_0 dX1_endOfPair_34 ?_
        refine rr_iloadn_1 dX1_endOfPair_35 ?_
        refine rr_iconst (v := 4) dX1_endOfPair_36 (by decide) ?_
        refine rr_iadd dX1_endOfPair_37 ?_
        rw [show nI a + 4 = nI (a + 4) from nI_add a 4]
        refine rr_callViD (c_X1_letterAt N _ _ hN n hn (a + 4) (by omega)) km_X1_23 rfl rfl (by omega) rfl (Nat.le_of_ble_eq_true rfl) dX1_endOfPair_38 ?_
        refine rr_bipush (v := 59) dX1_endOfPair_41 (by decide) ?_
        refine rr_icmp_ne 50 dX1_endOfPair_43 (by decide) (fun h43 => ?_) (fun h43 => ?_)
        · refine rr_iconst (v := 0) dX1_endOfPair_50 (by decide) ?_
          refine rr_istoren_3 dX1_endOfPair_51 rfl ?_
          refine rr_iloadn_3 dX1_endOfPair_52 ?_
          refine rr_if_eq 62 dX1_endOfPair_53 (by decide) (fun _ => ?_) (fun h53 => absurd h53 (by decide))
          refine rr_iconst (v := (-1)) dX1_endOfPair_62 (by decide) ?_
          exact rr_iret dX1_endOfPair_63 ⟨by simp_all, rfl⟩
        · refine rr_iconst (v := 1) dX1_endOfPair_46 (by decide) ?_
          refine rr_goto 51 dX1_endOfPair_47 (by decide) ?_
          refine rr_istoren_3 dX1_endOfPair_51 rfl ?_
          refine rr_iloadn_3 dX1_endOfPair_52 ?_
          refine rr_if_eq 62 dX1_endOfPair_53 (by decide) (fun h53 => absurd h53 (by decide)) (fun _ => ?_)
          refine rr_iloadn_1 dX1_endOfPair_56 ?_
          refine rr_iconst (v := 5) dX1_endOfPair_57 (by decide) ?_
          refine rr_iadd dX1_endOfPair_58 ?_
          rw [show nI a + 5 = nI (a + 5) from nI_add a 5]
          refine rr_goto 63 dX1_endOfPair_59 (by decide) ?_
          exact rr_iret dX1_endOfPair_63 ⟨by simp_all, rfl⟩
set_option maxHeartbeats 4000000 in
set_option maxRecDepth 100000 in
theorem c_X1_endOfItem (N d : Nat) (σ : rd_S) (hN : 33 ≤ N) (n : Nat) (hn : ps_at σ n) (a : Nat) (ha : a < 900) : rd_T N (d + 3) yX1_endOfItem cX1_endOfItem 2 (some .int) [.ref 1, .int (nI a)] σ (rd_is (some (.int (match ps_len (σ 2) n a with | none => -1 | some l => nI (a + l)))) σ) := by
  refine rd_start RX1 [.ref 1, .int (nI a)] rfl (by decide +kernel) rfl (Nat.le_of_ble_eq_true rfl) ?_
  refine rr_aloadn_0 dX1_endOfItem_0 ?_
  refine rr_iloadn_1 dX1_endOfItem_1 ?_
  refine rr_callViD (c_X1_letterAt N _ _ hN n hn (a) (by omega)) km_X1_23 rfl rfl (by omega) rfl (Nat.le_of_ble_eq_true rfl) dX1_endOfItem_2 ?_
  by_cases hs5_0 : ps_l (σ 2) n a = 100
  · rw [hs5_0]
    refine rr_lookup 40 dX1_endOfItem_5 (by decide) rfl (by decide) ?_
    refine rr_aloadn_0 dX1_endOfItem_40 ?_
    refine rr_iloadn_1 dX1_endOfItem_41 ?_
    refine rr_iconst (v := 5) dX1_endOfItem_42 (by decide) ?_
    refine rr_callViD (c_X1_endOfPair N _ _ hN n hn a (by omega) 5) km_X1_68 rfl rfl (by omega) rfl (Nat.le_of_ble_eq_true rfl) dX1_endOfItem_43 ?_
    exact rr_iret dX1_endOfItem_46 ⟨by unfold ps_len; rw [if_pos hs5_0]; split <;> rfl, rfl⟩
  by_cases hs5_1 : ps_l (σ 2) n a = 112
  · rw [hs5_1]
    refine rr_lookup 47 dX1_endOfItem_5 (by decide) rfl (by decide) ?_
    refine rr_aloadn_0 dX1_endOfItem_47 ?_
    refine rr_iloadn_1 dX1_endOfItem_48 ?_
    refine rr_iconst (v := 3) dX1_endOfItem_49 (by decide) ?_
    refine rr_callViD (c_X1_endOfPair N _ _ hN n hn a (by omega) 3) km_X1_68 rfl rfl (by omega) rfl (Nat.le_of_ble_eq_true rfl) dX1_endOfItem_50 ?_
    exact rr_iret dX1_endOfItem_53 ⟨by unfold ps_len; rw [if_neg hs5_0, if_pos hs5_1]; split <;> rfl, rfl⟩
  by_cases hs5_2 : ps_l (σ 2) n a = 114
  · rw [hs5_2]
    refine rr_lookup 54 dX1_endOfItem_5 (by decide) rfl (by decide) ?_
    refine rr_aloadn_0 dX1_endOfItem_54 ?_
    refine rr_iloadn_1 dX1_endOfItem_55 ?_
    refine rr_iconst (v := 1) dX1_endOfItem_56 (by decide) ?_
    refine rr_iadd dX1_endOfItem_57 ?_
    rw [show nI a + 1 = nI (a + 1) from nI_add a 1]
    refine rr_iconst (v := 3) dX1_endOfItem_58 (by decide) ?_
    refine rr_callViD (c_X1_isNumber N _ _ hN n hn (a + 1) (by omega) 3) km_X1_71 rfl rfl (by omega) rfl (Nat.le_of_ble_eq_true rfl) dX1_endOfItem_59 ?_
    refine rr_if_eq 83 dX1_endOfItem_62 (by decide) (fun h62 => ?_) (fun h62 => ?_)
    · refine rr_iconst (v := (-1)) dX1_endOfItem_83 (by decide) ?_
      exact rr_iret dX1_endOfItem_84 ⟨by unfold ps_len; rw [if_neg hs5_0, if_neg hs5_1, if_pos hs5_2]; simp_all, rfl⟩
    · refine rr_aloadn_0 dX1_endOfItem_65 ?_
      refine rr_iloadn_1 dX1_endOfItem_66 ?_
      refine rr_iconst (v := 2) dX1_endOfItem_67 (by decide) ?_
      refine rr_iadd dX1_endOfItem_68 ?_
      rw [show nI a + 2 = nI (a + 2) from nI_add a 2]
      refine rr_callViD (c_X1_letterAt N _ _ hN n hn (a + 2) (by omega)) km_X1_23 rfl rfl (by omega) rfl (Nat.le_of_ble_eq_true rfl) dX1_endOfItem_69 ?_
      refine rr_bipush (v := 59) dX1_endOfItem_72 (by decide) ?_
      refine rr_icmp_ne 83 dX1_endOfItem_74 (by decide) (fun h74 => ?_) (fun h74 => ?_)
      · refine rr_iconst (v := (-1)) dX1_endOfItem_83 (by decide) ?_
        exact rr_iret dX1_endOfItem_84 ⟨by unfold ps_len; rw [if_neg hs5_0, if_neg hs5_1, if_pos hs5_2]; simp_all, rfl⟩
      · refine rr_iloadn_1 dX1_endOfItem_77 ?_
        refine rr_iconst (v := 3) dX1_endOfItem_78 (by decide) ?_
        refine rr_iadd dX1_endOfItem_79 ?_
        rw [show nI a + 3 = nI (a + 3) from nI_add a 3]
        refine rr_goto 84 dX1_endOfItem_80 (by decide) ?_
        exact rr_iret dX1_endOfItem_84 ⟨by unfold ps_len; rw [if_neg hs5_0, if_neg hs5_1, if_pos hs5_2]; simp_all, rfl⟩
  refine rr_lookup 85 dX1_endOfItem_5 (off := 80) (by decide) (by simp only [Op.lookupswitch.offset]; rw [if_neg (rd_neI (k := 100) (z := 100) hs5_0 rfl), if_neg (rd_neI (k := 112) (z := 112) hs5_1 rfl), if_neg (rd_neI (k := 114) (z := 114) hs5_2 rfl)]) (by decide) ?_
  refine rr_iconst (v := (-1)) dX1_endOfItem_85 (by decide) ?_
  exact rr_iret dX1_endOfItem_86 ⟨by unfold ps_len; rw [if_neg hs5_0, if_neg hs5_1, if_neg hs5_2], rfl⟩
