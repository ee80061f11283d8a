/-! ===== the class's Stand: what its methods do, as functions of its six ints ===== -/
abbrev sd_D : Type := Int32 × Int32 × Int32 × Int32 × Int32 × Int32
def sd_rd (σ : rd_S) (o : Nat) : sd_D := (σ o 0, σ o 1, σ o 2, σ o 3, σ o 4, σ o 5)
def sd_wr (σ : rd_S) (o : Nat) (D : sd_D) : rd_S := fun a b => if a = o then (if b = 0 then D.1 else if b = 1 then D.2.1 else if b = 2 then D.2.2.1 else if b = 3 then D.2.2.2.1 else if b = 4 then D.2.2.2.2.1 else if b = 5 then D.2.2.2.2.2 else σ a b) else σ a b
theorem sd_ext {f g : rd_S} (o : Nat) (h : ∀ a b, a ≠ o → f a b = g a b) (h0 : f o 0 = g o 0) (h1 : f o 1 = g o 1) (h2 : f o 2 = g o 2) (h3 : f o 3 = g o 3) (h4 : f o 4 = g o 4) (h5 : f o 5 = g o 5) (h6 : ∀ b, f o (b + 6) = g o (b + 6)) : f = g := by
  funext a b
  by_cases ha : a = o
  · subst ha
    match b with
    | 0 => exact h0
    | 1 => exact h1
    | 2 => exact h2
    | 3 => exact h3
    | 4 => exact h4
    | 5 => exact h5
    | b + 6 => exact h6 b
  · exact h a b ha
def sd_who (x p : Int32) : Int32 := (x >>> ((2 * p) &&& 31)) &&& 3
def sd_rope (x i : Int32) : Int32 := (x >>> (i &&& 31)) &&& 1
def sd_kind (kb i : Int32) : Int32 := (kb >>> ((3 * i) &&& 31)) &&& 7
def sd_withKind (kb i kind : Int32) : Int32 := (kb &&& ((7 <<< ((3 * i) &&& 31)) ^^^ (-1))) ||| (kind <<< ((3 * i) &&& 31))
def sd_abs (x : Int32) : Int32 := if 0 ≤ x then x else 0 - x
def sd_place (x i : Int32) : Int32 := if sd_who x 0 = i then 0 else if sd_who x 1 = i then 1 else if sd_who x 2 = i then 2 else if sd_who x 3 = i then 3 else -1
def sd_told (f : Int32) : Int32 := if f = 0 then 1 else -1
def sd_tw (D : sd_D) (f kb : Int32) : Int32 :=
  if f = 0 ∨ f = 1 then
    (if sd_kind kb (sd_who D.1 1) = 1 then - sd_told f
    else if sd_kind kb (sd_who D.1 1) = 2 then (if D.2.2.2.2.2 - D.2.2.2.2.2 / 2 * 2 = 0 then sd_told f else 0)
    else if sd_kind kb (sd_who D.1 1) = 3 then 2 * sd_told f
    else if sd_kind kb (sd_who D.1 1) = 4 then (if sd_rope D.2.1 (sd_who D.1 1) = sd_rope D.2.1 (sd_who D.1 2) then 0 else sd_told f)
    else if sd_kind kb (sd_who D.1 1) = 5 then (if D.2.2.2.2.1 = 0 then sd_told f else D.2.2.2.2.1)
    else sd_told f)
  else 0
def sd_tight (D : sd_D) (t : Int32) : Prop := 9999 < sd_abs (D.2.2.1 + t * D.2.2.2.1)
def sd_turn (D : sd_D) : sd_D := (((D.1 <<< (2 &&& 31)) ||| (D.1 >>> (6 &&& 31))) &&& 255, D.2.1, if D.2.2.1 = 0 then 1 else if D.2.2.1 ≤ 0 then D.2.2.2.1 else - D.2.2.2.1, if D.2.2.1 = 0 then 0 else sd_abs D.2.2.1, D.2.2.2.2.1, D.2.2.2.2.2)
def sd_swap (x p q : Int32) : Int32 := x ^^^ (((((x >>> ((2 * p) &&& 31)) ^^^ (x >>> ((2 * q) &&& 31))) &&& 3) <<< ((2 * p) &&& 31)) ||| ((((x >>> ((2 * p) &&& 31)) ^^^ (x >>> ((2 * q) &&& 31))) &&& 3) <<< ((2 * q) &&& 31)))
def sd_begin (x : Int32) : sd_D := (x, (1 <<< (sd_who x 2 &&& 31)) ||| (1 <<< (sd_who x 3 &&& 31)), 0, 1, 0, 0)
def sd_go (D : sd_D) (f t : Int32) : sd_D := match (if f = 2 then sd_turn D else D) with
  | (x, r, u, l, la, b) => (if t - t / 2 * 2 = 0 then x else sd_swap x 1 2, r, u + t * l, l, if t = 0 then la else if t ≤ 0 then -1 else 1, b + 1)
def sd_xch (D : sd_D) (i j : Int32) : sd_D := (sd_swap D.1 (sd_place D.1 i) (sd_place D.1 j), D.2.1 ^^^ (((sd_rope D.2.1 i ^^^ sd_rope D.2.1 j) <<< (i &&& 31)) ||| ((sd_rope D.2.1 i ^^^ sd_rope D.2.1 j) <<< (j &&& 31))), D.2.2.1, D.2.2.2.1, D.2.2.2.2.1, D.2.2.2.2.2)
theorem rd_sw_1_5 (x : Int32) : x = 1 ∨ x = 2 ∨ x = 3 ∨ x = 4 ∨ x = 5 ∨ (x.toInt < 1 ∨ 5 < x.toInt) := by
  by_cases h : x.toInt < 1 ∨ 5 < x.toInt
  · simp [h]
  · have h1 : x.toInt = 1 ∨ x.toInt = 2 ∨ x.toInt = 3 ∨ x.toInt = 4 ∨ x.toInt = 5 := by omega
    rcases h1 with h1 | h1 | h1 | h1 | h1
    · exact Or.inl (Int32.toInt_inj.mp h1)
    · exact Or.inr (Or.inl (Int32.toInt_inj.mp h1))
    · exact Or.inr (Or.inr (Or.inl (Int32.toInt_inj.mp h1)))
    · exact Or.inr (Or.inr (Or.inr (Or.inl (Int32.toInt_inj.mp h1))))
    · exact Or.inr (Or.inr (Or.inr (Or.inr (Or.inl (Int32.toInt_inj.mp h1)))))
set_option maxHeartbeats 4000000 in
set_option maxRecDepth 100000 in
theorem c_X3_whoAt (N d o : Nat) (σ : rd_S) (p : Int32) (ho : o < N) (hk : rd_kd o = 3) : rd_T N (d + 0) yX3_whoAt cX3_whoAt 2 (some .int) [.ref o, .int p] σ (rd_is (some (.int (sd_who (σ o 0) p))) σ) := by
  refine rd_start RX3 [.ref o, .int p] rfl (by decide +kernel) rfl (Nat.le_of_ble_eq_true rfl) ?_
  refine rr_aloadn_0 dX3_whoAt_0 ?_
  refine rr_geti dX3_whoAt_1 kf_X3_11 ho hk rfl ?_
  refine rr_iconst (v := 2) dX3_whoAt_4 (by decide) ?_
  refine rr_iloadn_1 dX3_whoAt_5 ?_
  refine rr_imul dX3_whoAt_6 ?_
  refine rr_ishr dX3_whoAt_7 ?_
  refine rr_iconst (v := 3) dX3_whoAt_8 (by decide) ?_
  refine rr_iand dX3_whoAt_9 ?_
  exact rr_iret dX3_whoAt_10 ⟨rfl, rfl⟩
set_option maxHeartbeats 4000000 in
set_option maxRecDepth 100000 in
theorem c_X3_ropeOf (N d o : Nat) (σ : rd_S) (i : Int32) (ho : o < N) (hk : rd_kd o = 3) : rd_T N (d + 0) yX3_ropeOf cX3_ropeOf 2 (some .int) [.ref o, .int i] σ (rd_is (some (.int (sd_rope (σ o 1) i))) σ) := by
  refine rd_start RX3 [.ref o, .int i] rfl (by decide +kernel) rfl (Nat.le_of_ble_eq_true rfl) ?_
  refine rr_aloadn_0 dX3_ropeOf_0 ?_
  refine rr_geti dX3_ropeOf_1 kf_X3_22 ho hk rfl ?_
  refine rr_iloadn_1 dX3_ropeOf_4 ?_
  refine rr_ishr dX3_ropeOf_5 ?_
  refine rr_iconst (v := 1) dX3_ropeOf_6 (by decide) ?_
  refine rr_iand dX3_ropeOf_7 ?_
  exact rr_iret dX3_ropeOf_8 ⟨rfl, rfl⟩
set_option maxHeartbeats 4000000 in
set_option maxRecDepth 100000 in
theorem c_X4_kindOf (N d : Nat) (σ : rd_S) (k i : Int32) : rd_T N (d + 0) yX4_kindOf cX4_kindOf 2 (some .int) [.int k, .int i] σ (rd_is (some (.int (sd_kind k i))) σ) := by
  refine rd_start RX4 [.int k, .int i] rfl (by decide +kernel) rfl (Nat.le_of_ble_eq_true rfl) ?_
  refine rr_iloadn_0 dX4_kindOf_0 ?_
  refine rr_iconst (v := 3) dX4_kindOf_1 (by decide) ?_
  refine rr_iloadn_1 dX4_kindOf_2 ?_
  refine rr_imul dX4_kindOf_3 ?_
  refine rr_ishr dX4_kindOf_4 ?_
  refine rr_bipush (v := 7) dX4_kindOf_5 (by decide) ?_
  refine rr_iand dX4_kindOf_7 ?_
  exact rr_iret dX4_kindOf_8 ⟨rfl, rfl⟩
set_option maxHeartbeats 4000000 in
set_option maxRecDepth 100000 in
theorem c_X4_pairAt (N d : Nat) (σ : rd_S) (k i : Int32) : rd_T N (d + 0) yX4_pairAt cX4_pairAt 2 (some .int) [.int k, .int i] σ (rd_is (some (.int (sd_who k i))) σ) := by
  refine rd_start RX4 [.int k, .int i] rfl (by decide +kernel) rfl (Nat.le_of_ble_eq_true rfl) ?_
  refine rr_iloadn_0 dX4_pairAt_0 ?_
  refine rr_iconst (v := 2) dX4_pairAt_1 (by decide) ?_
  refine rr_iloadn_1 dX4_pairAt_2 ?_
  refine rr_imul dX4_pairAt_3 ?_
  refine rr_ishr dX4_pairAt_4 ?_
  refine rr_iconst (v := 3) dX4_pairAt_5 (by decide) ?_
  refine rr_iand dX4_pairAt_6 ?_
  exact rr_iret dX4_pairAt_7 ⟨rfl, rfl⟩
set_option maxHeartbeats 4000000 in
set_option maxRecDepth 100000 in
theorem c_X4_withKind (N d : Nat) (σ : rd_S) (k i v : Int32) : rd_T N (d + 0) yX4_withKind cX4_withKind 3 (some .int) [.int k, .int i, .int v] σ (rd_is (some (.int (sd_withKind k i v))) σ) := by
  refine rd_start RX4 [.int k, .int i, .int v] rfl (by decide +kernel) rfl (Nat.le_of_ble_eq_true rfl) ?_
  refine rr_iloadn_0 dX4_withKind_0 ?_
  refine rr_bipush (v := 7) dX4_withKind_1 (by decide) ?_
  refine rr_iconst (v := 3) dX4_withKind_3 (by decide) ?_
  refine rr_iloadn_1 dX4_withKind_4 ?_
  refine rr_imul dX4_withKind_5 ?_
  refine rr_ishl dX4_withKind_6 ?_
  refine rr_iconst (v := (-1)) dX4_withKind_7 (by decide) ?_
  refine rr_ixor dX4_withKind_8 ?_
  refine rr_iand dX4_withKind_9 ?_
  refine rr_iloadn_2 dX4_withKind_10 ?_
  refine rr_iconst (v := 3) dX4_withKind_11 (by decide) ?_
  refine rr_iloadn_1 dX4_withKind_12 ?_
  refine rr_imul dX4_withKind_13 ?_
  refine rr_ishl dX4_withKind_14 ?_
  refine rr_ior dX4_withKind_15 ?_
  exact rr_iret dX4_withKind_16 ⟨rfl, rfl⟩
set_option maxHeartbeats 4000000 in
set_option maxRecDepth 100000 in
theorem c_X3_placeOf (N d o : Nat) (σ : rd_S) (i : Int32) (ho : o < N) (hk : rd_kd o = 3) : rd_T N (d + 1) yX3_placeOf cX3_placeOf 3 (some .int) [.ref o, .int i] σ (rd_is (some (.int (sd_place (σ o 0) i))) σ) := by
  refine rd_start RX3 [.ref o, .int i, .retAddr 0] rfl (by decide +kernel) rfl (Nat.le_of_ble_eq_true rfl) ?_
  refine rr_iconst (v := 0) dX3_placeOf_0 (by decide) ?_
  refine rr_istoren_2 dX3_placeOf_1 rfl ?_
  refine rr_iloadn_2 dX3_placeOf_2 ?_
  refine rr_iconst (v := 4) dX3_placeOf_3 (by decide) ?_
  refine rr_icmp_ge 24 dX3_placeOf_4 (by decide) (fun h4 => absurd h4 (by decide)) (fun _ => ?_)
  refine rr_aloadn_0 dX3_placeOf_7 ?_
  refine rr_iloadn_2 dX3_placeOf_8 ?_
  refine rr_callViD (c_X3_whoAt N _ _ _ _ ho hk) km_X3_18 rfl rfl ho hk (Nat.le_of_ble_eq_true rfl) dX3_placeOf_9 ?_
  refine rr_iloadn_1 dX3_placeOf_12 ?_
  refine rr_icmp_ne 18 dX3_placeOf_13 (by decide) (fun h13 => ?_) (fun h13 => ?_)
  · refine rr_iincC_2 1 1 dX3_placeOf_18 (by decide) (by decide) rfl ?_
    refine rr_goto 2 dX3_placeOf_21 (by decide) ?_
    refine rr_iloadn_2 dX3_placeOf_2 ?_
    refine rr_iconst (v := 4) dX3_placeOf_3 (by decide) ?_
    refine rr_icmp_ge 24 dX3_placeOf_4 (by decide) (fun h4_1 => absurd h4_1 (by decide)) (fun _ => ?_)
    refine rr_aloadn_0 dX3_placeOf_7 ?_
    refine rr_iloadn_2 dX3_placeOf_8 ?_
    refine rr_callViD (c_X3_whoAt N _ _ _ _ ho hk) km_X3_18 rfl rfl ho hk (Nat.le_of_ble_eq_true rfl) dX3_placeOf_9 ?_
    refine rr_iloadn_1 dX3_placeOf_12 ?_
    refine rr_icmp_ne 18 dX3_placeOf_13 (by decide) (fun h13_1 => ?_) (fun h13_1 => ?_)
    · refine rr_iincC_2 1 2 dX3_placeOf_18 (by decide) (by decide) rfl ?_
      refine rr_goto 2 dX3_placeOf_21 (by decide) ?_
      refine rr_iloadn_2 dX3_placeOf_2 ?_
      refine rr_iconst (v := 4) dX3_placeOf_3 (by decide) ?_
      refine rr_icmp_ge 24 dX3_placeOf_4 (by decide) (fun h4_2 => absurd h4_2 (by decide)) (fun _ => ?_)
      refine rr_aloadn_0 dX3_placeOf_7 ?_
      refine rr_iloadn_2 dX3_placeOf_8 ?_
      refine rr_callViD (c_X3_whoAt N _ _ _ _ ho hk) km_X3_18 rfl rfl ho hk (Nat.le_of_ble_eq_true rfl) dX3_placeOf_9 ?_
      refine rr_iloadn_1 dX3_placeOf_12 ?_
      refine rr_icmp_ne 18 dX3_placeOf_13 (by decide) (fun h13_2 => ?_) (fun h13_2 => ?_)
      · refine rr_iincC_2 1 3 dX3_placeOf_18 (by decide) (by decide) rfl ?_
        refine rr_goto 2 dX3_placeOf_21 (by decide) ?_
        refine rr_iloadn_2 dX3_placeOf_2 ?_
        refine rr_iconst (v := 4) dX3_placeOf_3 (by decide) ?_
        refine rr_icmp_ge 24 dX3_placeOf_4 (by decide) (fun h4_3 => absurd h4_3 (by decide)) (fun _ => ?_)
        refine rr_aloadn_0 dX3_placeOf_7 ?_
        refine rr_iloadn_2 dX3_placeOf_8 ?_
        refine rr_callViD (c_X3_whoAt N _ _ _ _ ho hk) km_X3_18 rfl rfl ho hk (Nat.le_of_ble_eq_true rfl) dX3_placeOf_9 ?_
        refine rr_iloadn_1 dX3_placeOf_12 ?_
        refine rr_icmp_ne 18 dX3_placeOf_13 (by decide) (fun h13_3 => ?_) (fun h13_3 => ?_)
        · refine rr_iincC_2 1 4 dX3_placeOf_18 (by decide) (by decide) rfl ?_
          refine rr_goto 2 dX3_placeOf_21 (by decide) ?_
          refine rr_iloadn_2 dX3_placeOf_2 ?_
          refine rr_iconst (v := 4) dX3_placeOf_3 (by decide) ?_
          refine rr_icmp_ge 24 dX3_placeOf_4 (by decide) (fun _ => ?_) (fun h4_4 => absurd h4_4 (by decide))
          refine rr_iconst (v := (-1)) dX3_placeOf_24 (by decide) ?_
          exact rr_iret dX3_placeOf_25 ⟨by simp [sd_place, *], rfl⟩
        · refine rr_iloadn_2 dX3_placeOf_16 ?_
          exact rr_iret dX3_placeOf_17 ⟨by simp [sd_place, *], rfl⟩
      · refine rr_iloadn_2 dX3_placeOf_16 ?_
        exact rr_iret dX3_placeOf_17 ⟨by simp [sd_place, *], rfl⟩
    · refine rr_iloadn_2 dX3_placeOf_16 ?_
      exact rr_iret dX3_placeOf_17 ⟨by simp [sd_place, *], rfl⟩
  · refine rr_iloadn_2 dX3_placeOf_16 ?_
    exact rr_iret dX3_placeOf_17 ⟨by simp [sd_place, *], rfl⟩
set_option maxHeartbeats 4000000 in
set_option maxRecDepth 100000 in
theorem c_X3_isWoundAs (N d o : Nat) (σ : rd_S) (u l : Int32) (ho : o < N) (hk : rd_kd o = 3) : rd_T N (d + 0) yX3_isWoundAs cX3_isWoundAs 3 (some .boolean) [.ref o, .int u, .int l] σ (rd_is (some (.int (if σ o 2 = u ∧ σ o 3 = l then 1 else 0))) σ) := by
  refine rd_start RX3 [.ref o, .int u, .int l] rfl (by decide +kernel) rfl (Nat.le_of_ble_eq_true rfl) ?_
  refine rr_aloadn_0 dX3_isWoundAs_0 ?_
  refine rr_geti dX3_isWoundAs_1 kf_X3_25 ho hk rfl ?_
  refine rr_iloadn_1 dX3_isWoundAs_4 ?_
  refine rr_icmp_ne 20 dX3_isWoundAs_5 (by decide) (fun h5 => ?_) (fun h5 => ?_)
  · refine rr_iconst (v := 0) dX3_isWoundAs_20 (by decide) ?_
    exact rr_zret dX3_isWoundAs_21 (by decide) ⟨by simp [*], rfl⟩
  · refine rr_aloadn_0 dX3_isWoundAs_8 ?_
    refine rr_geti dX3_isWoundAs_9 kf_X3_15 ho hk rfl ?_
    refine rr_iloadn_2 dX3_isWoundAs_12 ?_
    refine rr_icmp_ne 20 dX3_isWoundAs_13 (by decide) (fun h13 => ?_) (fun h13 => ?_)
    · refine rr_iconst (v := 0) dX3_isWoundAs_20 (by decide) ?_
      exact rr_zret dX3_isWoundAs_21 (by decide) ⟨by simp [*], rfl⟩
    · refine rr_iconst (v := 1) dX3_isWoundAs_16 (by decide) ?_
      refine rr_goto 21 dX3_isWoundAs_17 (by decide) ?_
      exact rr_zret dX3_isWoundAs_21 (by decide) ⟨by simp [*], rfl⟩
set_option maxHeartbeats 4000000 in
set_option maxRecDepth 100000 in
theorem c_X3_woundCode (N d o : Nat) (σ : rd_S) (ho : o < N) (hk : rd_kd o = 3) : rd_T N (d + 0) yX3_woundCode cX3_woundCode 1 (some .int) [.ref o] σ (rd_is (some (.int (σ o 2 * 10000 + σ o 3))) σ) := by
  refine rd_start RX3 [.ref o] rfl (by decide +kernel) rfl (Nat.le_of_ble_eq_true rfl) ?_
  refine rr_aloadn_0 dX3_woundCode_0 ?_
  refine rr_geti dX3_woundCode_1 kf_X3_25 ho hk rfl ?_
  refine rr_sipush (v := 10000) dX3_woundCode_4 (by decide) ?_
  refine rr_imul dX3_woundCode_7 ?_
  refine rr_aloadn_0 dX3_woundCode_8 ?_
  refine rr_geti dX3_woundCode_9 kf_X3_15 ho hk rfl ?_
  refine rr_iadd dX3_woundCode_12 ?_
  exact rr_iret dX3_woundCode_13 ⟨rfl, rfl⟩
set_option maxHeartbeats 4000000 in
set_option maxRecDepth 100000 in
theorem c_X3_isTooTight (N d o : Nat) (σ : rd_S) (t : Int32) (ho : o < N) (hk : rd_kd o = 3) : rd_T N (d + 1) yX3_isTooTight cX3_isTooTight 2 (some .boolean) [.ref o, .int t] σ (rd_is (some (.int (if 9999 < sd_abs (σ o 2 + t * σ o 3) then 1 else 0))) σ) := by
  refine rd_start RX3 [.ref o, .int t] rfl (by decide +kernel) rfl (Nat.le_of_ble_eq_true rfl) ?_
  refine rr_aloadn_0 dX3_isTooTight_0 ?_
  refine rr_geti dX3_isTooTight_1 kf_X3_25 ho hk rfl ?_
  refine rr_iloadn_1 dX3_isTooTight_4 ?_
  refine rr_aloadn_0 dX3_isTooTight_5 ?_
  refine rr_geti dX3_isTooTight_6 kf_X3_15 ho hk rfl ?_
  refine rr_imul dX3_isTooTight_9 ?_
  refine rr_iadd dX3_isTooTight_10 ?_
  refine rr_mabs dX3_isTooTight_11 kl_X3_41 (Nat.le_of_ble_eq_true rfl) kh_abs ?_
  refine rr_sipush (v := 9999) dX3_isTooTight_14 (by decide) ?_
  refine rr_icmp_le 24 dX3_isTooTight_17 (by decide) (fun h17 => ?_) (fun h17 => ?_)
  · refine rr_iconst (v := 0) dX3_isTooTight_24 (by decide) ?_
    exact rr_zret dX3_isTooTight_25 (by decide) ⟨by simp_all [sd_abs], rfl⟩
  · refine rr_iconst (v := 1) dX3_isTooTight_20 (by decide) ?_
    refine rr_goto 25 dX3_isTooTight_21 (by decide) ?_
    exact rr_zret dX3_isTooTight_25 (by decide) ⟨by simp_all [sd_abs], rfl⟩
