/-! ===== the class's Stand: what its methods do, as functions of its six ints ===== -/
abbrev sd_D : Type := Int32 × Int32 × Int32 × Int32 × Int32 × Int32
def sd_rd (σ : rd_S) (o : Nat) : sd_D := (σ o 0, σ o 1, σ o 2, σ o 3, σ o 4, σ o 5)
def sd_wr (σ : rd_S) (o : Nat) (D : sd_D) : rd_S := fun a b => if a = o then (if b = 0 then D.1 else if b = 1 then D.2.1 else if b = 2 then D.2.2.1 else if b = 3 then D.2.2.2.1 else if b = 4 then D.2.2.2.2.1 else if b = 5 then D.2.2.2.2.2 else σ a b) else σ a b
theorem sd_ext {f g : rd_S} (o : Nat) (h : ∀ a b, a ≠ o → f a b = g a b) (h0 : f o 0 = g o 0) (h1 : f o 1 = g o 1) (h2 : f o 2 = g o 2) (h3 : f o 3 = g o 3) (h4 : f o 4 = g o 4) (h5 : f o 5 = g o 5) (h6 : ∀ b, f o (b + 6) = g o (b + 6)) : f = g := by
  funext a b
  by_cases ha : a = o
  · subst ha
    match b with
    | 0 => exact h0
    | 1 => exact h1
    | 2 => exact h2
    | 3 => exact h3
    | 4 => exact h4
    | 5 => exact h5
    | b + 6 => exact h6 b
  · exact h a b ha
def sd_who (x p : Int32) : Int32 := (x >>> ((2 * p) &&& 31)) &&& 3
def sd_rope (x i : Int32) : Int32 := (x >>> (i &&& 31)) &&& 1
def sd_kind (kb i : Int32) : Int32 := (kb >>> ((3 * i) &&& 31)) &&& 7
def sd_withKind (kb i kind : Int32) : Int32 := (kb &&& ((7 <<< ((3 * i) &&& 31)) ^^^ (-1))) ||| (kind <<< ((3 * i) &&& 31))
def sd_abs (x : Int32) : Int32 := if 0 ≤ x then x else 0 - x
def sd_place (x i : Int32) : Int32 := if sd_who x 0 = i then 0 else if sd_who x 1 = i then 1 else if sd_who x 2 = i then 2 else if sd_who x 3 = i then 3 else -1
def sd_told (f : Int32) : Int32 := if f = 0 then 1 else -1
def sd_tw (D : sd_D) (f kb : Int32) : Int32 :=
  if f = 0 ∨ f = 1 then
    (if sd_kind kb (sd_who D.1 1) = 1 then - sd_told f
    else if sd_kind kb (sd_who D.1 1) = 2 then (if D.2.2.2.2.2 - D.2.2.2.2.2 / 2 * 2 = 0 then sd_told f else 0)
    else if sd_kind kb (sd_who D.1 1) = 3 then 2 * sd_told f
    else if sd_kind kb (sd_who D.1 1) = 4 then (if sd_rope D.2.1 (sd_who D.1 1) = sd_rope D.2.1 (sd_who D.1 2) then 0 else sd_told f)
    else if sd_kind kb (sd_who D.1 1) = 5 then (if D.2.2.2.2.1 = 0 then sd_told f else D.2.2.2.2.1)
    else sd_told f)
  else 0
def sd_tight (D : sd_D) (t : Int32) : Prop := 9999 < sd_abs (D.2.2.1 + t * D.2.2.2.1)
def sd_turn (D : sd_D) : sd_D := (((D.1 <<< (2 &&& 31)) ||| (D.1 >>> (6 &&& 31))) &&& 255, D.2.1, if D.2.2.1 = 0 then 1 else if D.2.2.1 ≤ 0 then D.2.2.2.1 else - D.2.2.2.1, if D.2.2.1 = 0 then 0 else sd_abs D.2.2.1, D.2.2.2.2.1, D.2.2.2.2.2)
def sd_swap (x p q : Int32) : Int32 := x ^^^ (((((x >>> ((2 * p) &&& 31)) ^^^ (x >>> ((2 * q) &&& 31))) &&& 3) <<< ((2 * p) &&& 31)) ||| ((((x >>> ((2 * p) &&& 31)) ^^^ (x >>> ((2 * q) &&& 31))) &&& 3) <<< ((2 * q) &&& 31)))
def sd_begin (x : Int32) : sd_D := (x, (1 <<< (sd_who x 2 &&& 31)) ||| (1 <<< (sd_who x 3 &&& 31)), 0, 1, 0, 0)
def sd_go (D : sd_D) (f t : Int32) : sd_D := match (if f = 2 then sd_turn D else D) with
  | (x, r, u, l, la, b) => (if t - t / 2 * 2 = 0 then x else sd_swap x 1 2, r, u + t * l, l, if t = 0 then la else if t ≤ 0 then -1 else 1, b + 1)
def sd_xch (D : sd_D) (i j : Int32) : sd_D := (sd_swap D.1 (sd_place D.1 i) (sd_place D.1 j), D.2.1 ^^^ (((sd_rope D.2.1 i ^^^ sd_rope D.2.1 j) <<< (i &&& 31)) ||| ((sd_rope D.2.1 i ^^^ sd_rope D.2.1 j) <<< (j &&& 31))), D.2.2.1, D.2.2.2.1, D.2.2.2.2.1, D.2.2.2.2.2)
theorem rd_sw_1_5 (x : Int32) : x = 1 ∨ x = 2 ∨ x = 3 ∨ x = 4 ∨ x = 5 ∨ ((x.toInt < 1 ∨ 5 < x.toInt) ∧ ¬ x = 1 ∧ ¬ x = 2 ∧ ¬ x = 3 ∧ ¬ x = 4 ∧ ¬ x = 5) := by
  by_cases h : x.toInt < 1 ∨ 5 < x.toInt
  · refine Or.inr (Or.inr (Or.inr (Or.inr (Or.inr ⟨h, ?_, ?_, ?_, ?_, ?_⟩)))) <;> (intro e; subst e; revert h; decide)
  · have h1 : x.toInt = 1 ∨ x.toInt = 2 ∨ x.toInt = 3 ∨ x.toInt = 4 ∨ x.toInt = 5 := by omega
    rcases h1 with h1 | h1 | h1 | h1 | h1
    · exact Or.inl (Int32.toInt_inj.mp h1)
    · exact Or.inr (Or.inl (Int32.toInt_inj.mp h1))
    · exact Or.inr (Or.inr (Or.inl (Int32.toInt_inj.mp h1)))
    · exact Or.inr (Or.inr (Or.inr (Or.inl (Int32.toInt_inj.mp h1))))
    · exact Or.inr (Or.inr (Or.inr (Or.inr (Or.inl (Int32.toInt_inj.mp h1)))))
set_option maxHeartbeats 4000000 in
set_option maxRecDepth 100000 in
theorem c_X3_whoAt (N d o : Nat) (σ : rd_S) (p : Int32) (ho : o < N) (hk : rd_kd o = 3) : rd_T N (d + 0) yX3_whoAt cX3_whoAt 2 (some .int) [.ref o, .int p] σ (rd_is (some (.int (sd_who (σ o 0) p))) σ) := by
  refine rd_start RX3 [.ref o, .int p] rfl (by decide +kernel) rfl (Nat.le_of_ble_eq_true rfl) ?_
  refine rr_aloadn_0 dX3_whoAt_0 ?_
  refine rr_geti dX3_whoAt_1 kf_X3_11 ho hk rfl ?_
  refine rr_iconst (v := 2) dX3_whoAt_4 (by decide) ?_
  refine rr_iloadn_1 dX3_whoAt_5 ?_
  refine rr_imul dX3_whoAt_6 ?_
  refine rr_ishr dX3_whoAt_7 ?_
  refine rr_iconst (v := 3) dX3_whoAt_8 (by decide) ?_
  refine rr_iand dX3_whoAt_9 ?_
  exact rr_iret dX3_whoAt_10 ⟨rfl, rfl⟩
set_option maxHeartbeats 4000000 in
set_option maxRecDepth 100000 in
theorem c_X3_ropeOf (N d o : Nat) (σ : rd_S) (i : Int32) (ho : o < N) (hk : rd_kd o = 3) : rd_T N (d + 0) yX3_ropeOf cX3_ropeOf 2 (some .int) [.ref o, .int i] σ (rd_is (some (.int (sd_rope (σ o 1) i))) σ) := by
  refine rd_start RX3 [.ref o, .int i] rfl (by decide +kernel) rfl (Nat.le_of_ble_eq_true rfl) ?_
  refine rr_aloadn_0 dX3_ropeOf_0 ?_
  refine rr_geti dX3_ropeOf_1 kf_X3_22 ho hk rfl ?_
  refine rr_iloadn_1 dX3_ropeOf_4 ?_
  refine rr_ishr dX3_ropeOf_5 ?_
  refine rr_iconst (v := 1) dX3_ropeOf_6 (by decide) ?_
  refine rr_iand dX3_ropeOf_7 ?_
  exact rr_iret dX3_ropeOf_8 ⟨rfl, rfl⟩
set_option maxHeartbeats 4000000 in
set_option maxRecDepth 100000 in
theorem c_X4_kindOf (N d : Nat) (σ : rd_S) (k i : Int32) : rd_T N (d + 0) yX4_kindOf cX4_kindOf 2 (some .int) [.int k, .int i] σ (rd_is (some (.int (sd_kind k i))) σ) := by
  refine rd_start RX4 [.int k, .int i] rfl (by decide +kernel) rfl (Nat.le_of_ble_eq_true rfl) ?_
  refine rr_iloadn_0 dX4_kindOf_0 ?_
  refine rr_iconst (v := 3) dX4_kindOf_1 (by decide) ?_
  refine rr_iloadn_1 dX4_kindOf_2 ?_
  refine rr_imul dX4_kindOf_3 ?_
  refine rr_ishr dX4_kindOf_4 ?_
  refine rr_bipush (v := 7) dX4_kindOf_5 (by decide) ?_
  refine rr_iand dX4_kindOf_7 ?_
  exact rr_iret dX4_kindOf_8 ⟨rfl, rfl⟩
set_option maxHeartbeats 4000000 in
set_option maxRecDepth 100000 in
theorem c_X4_pairAt (N d : Nat) (σ : rd_S) (k i : Int32) : rd_T N (d + 0) yX4_pairAt cX4_pairAt 2 (some .int) [.int k, .int i] σ (rd_is (some (.int (sd_who k i))) σ) := by
  refine rd_start RX4 [.int k, .int i] rfl (by decide +kernel) rfl (Nat.le_of_ble_eq_true rfl) ?_
  refine rr_iloadn_0 dX4_pairAt_0 ?_
  refine rr_iconst (v := 2) dX4_pairAt_1 (by decide) ?_
  refine rr_iloadn_1 dX4_pairAt_2 ?_
  refine rr_imul dX4_pairAt_3 ?_
  refine rr_ishr dX4_pairAt_4 ?_
  refine rr_iconst (v := 3) dX4_pairAt_5 (by decide) ?_
  refine rr_iand dX4_pairAt_6 ?_
  exact rr_iret dX4_pairAt_7 ⟨rfl, rfl⟩
set_option maxHeartbeats 4000000 in
set_option maxRecDepth 100000 in
theorem c_X4_withKind (N d : Nat) (σ : rd_S) (k i v : Int32) : rd_T N (d + 0) yX4_withKind cX4_withKind 3 (some .int) [.int k, .int i, .int v] σ (rd_is (some (.int (sd_withKind k i v))) σ) := by
  refine rd_start RX4 [.int k, .int i, .int v] rfl (by decide +kernel) rfl (Nat.le_of_ble_eq_true rfl) ?_
  refine rr_iloadn_0 dX4_withKind_0 ?_
  refine rr_bipush (v := 7) dX4_withKind_1 (by decide) ?_
  refine rr_iconst (v := 3) dX4_withKind_3 (by decide) ?_
  refine rr_iloadn_1 dX4_withKind_4 ?_
  refine rr_imul dX4_withKind_5 ?_
  refine rr_ishl dX4_withKind_6 ?_
  refine rr_iconst (v := (-1)) dX4_withKind_7 (by decide) ?_
  refine rr_ixor dX4_withKind_8 ?_
  refine rr_iand dX4_withKind_9 ?_
  refine rr_iloadn_2 dX4_withKind_10 ?_
  refine rr_iconst (v := 3) dX4_withKind_11 (by decide) ?_
  refine rr_iloadn_1 dX4_withKind_12 ?_
  refine rr_imul dX4_withKind_13 ?_
  refine rr_ishl dX4_withKind_14 ?_
  refine rr_ior dX4_withKind_15 ?_
  exact rr_iret dX4_withKind_16 ⟨rfl, rfl⟩
set_option maxHeartbeats 4000000 in
set_option maxRecDepth 100000 in
theorem c_X3_placeOf (N d o : Nat) (σ : rd_S) (i : Int32) (ho : o < N) (hk : rd_kd o = 3) : rd_T N (d + 1) yX3_placeOf cX3_placeOf 3 (some .int) [.ref o, .int i] σ (rd_is (some (.int (sd_place (σ o 0) i))) σ) := by
  refine rd_start RX3 [.ref o, .int i, .retAddr 0] rfl (by decide +kernel) rfl (Nat.le_of_ble_eq_true rfl) ?_
  refine rr_iconst (v := 0) dX3_placeOf_0 (by decide) ?_
  refine rr_istoren_2 dX3_placeOf_1 rfl ?_
  refine rr_iloadn_2 dX3_placeOf_2 ?_
  refine rr_iconst (v := 4) dX3_placeOf_3 (by decide) ?_
  refine rr_icmp_ge 24 dX3_placeOf_4 (by decide) (fun h4 => absurd h4 (by decide)) (fun _ => ?_)
  refine rr_aloadn_0 dX3_placeOf_7 ?_
  refine rr_iloadn_2 dX3_placeOf_8 ?_
  refine rr_callViD (c_X3_whoAt N _ _ _ _ ho hk) km_X3_18 rfl rfl ho hk (Nat.le_of_ble_eq_true rfl) dX3_placeOf_9 ?_
  refine rr_iloadn_1 dX3_placeOf_12 ?_
  refine rr_icmp_ne 18 dX3_placeOf_13 (by decide) (fun h13 => ?_) (fun h13 => ?_)
  · refine rr_iincC_2 1 1 dX3_placeOf_18 (by decide) (by decide) rfl ?_
    refine rr_goto 2 dX3_placeOf_21 (by decide) ?_
    refine rr_iloadn_2 dX3_placeOf_2 ?_
    refine rr_iconst (v := 4) dX3_placeOf_3 (by decide) ?_
    refine rr_icmp_ge 24 dX3_placeOf_4 (by decide) (fun h4_1 => absurd h4_1 (by decide)) (fun _ => ?_)
    refine rr_aloadn_0 dX3_placeOf_7 ?_
    refine rr_iloadn_2 dX3_placeOf_8 ?_
    refine rr_callViD (c_X3_whoAt N _ _ _ _ ho hk) km_X3_18 rfl rfl ho hk (Nat.le_of_ble_eq_true rfl) dX3_placeOf_9 ?_
    refine rr_iloadn_1 dX3_placeOf_12 ?_
    refine rr_icmp_ne 18 dX3_placeOf_13 (by decide) (fun h13_1 => ?_) (fun h13_1 => ?_)
    · refine rr_iincC_2 1 2 dX3_placeOf_18 (by decide) (by decide) rfl ?_
      refine rr_goto 2 dX3_placeOf_21 (by decide) ?_
      refine rr_iloadn_2 dX3_placeOf_2 ?_
      refine rr_iconst (v := 4) dX3_placeOf_3 (by decide) ?_
      refine rr_icmp_ge 24 dX3_placeOf_4 (by decide) (fun h4_2 => absurd h4_2 (by decide)) (fun _ => ?_)
      refine rr_aloadn_0 dX3_placeOf_7 ?_
      refine rr_iloadn_2 dX3_placeOf_8 ?_
      refine rr_callViD (c_X3_whoAt N _ _ _ _ ho hk) km_X3_18 rfl rfl ho hk (Nat.le_of_ble_eq_true rfl) dX3_placeOf_9 ?_
      refine rr_iloadn_1 dX3_placeOf_12 ?_
      refine rr_icmp_ne 18 dX3_placeOf_13 (by decide) (fun h13_2 => ?_) (fun h13_2 => ?_)
      · refine rr_iincC_2 1 3 dX3_placeOf_18 (by decide) (by decide) rfl ?_
        refine rr_goto 2 dX3_placeOf_21 (by decide) ?_
        refine rr_iloadn_2 dX3_placeOf_2 ?_
        refine rr_iconst (v := 4) dX3_placeOf_3 (by decide) ?_
        refine rr_icmp_ge 24 dX3_placeOf_4 (by decide) (fun h4_3 => absurd h4_3 (by decide)) (fun _ => ?_)
        refine rr_aloadn_0 dX3_placeOf_7 ?_
        refine rr_iloadn_2 dX3_placeOf_8 ?_
        refine rr_callViD (c_X3_whoAt N _ _ _ _ ho hk) km_X3_18 rfl rfl ho hk (Nat.le_of_ble_eq_true rfl) dX3_placeOf_9 ?_
        refine rr_iloadn_1 dX3_placeOf_12 ?_
        refine rr_icmp_ne 18 dX3_placeOf_13 (by decide) (fun h13_3 => ?_) (fun h13_3 => ?_)
        · refine rr_iincC_2 1 4 dX3_placeOf_18 (by decide) (by decide) rfl ?_
          refine rr_goto 2 dX3_placeOf_21 (by decide) ?_
          refine rr_iloadn_2 dX3_placeOf_2 ?_
          refine rr_iconst (v := 4) dX3_placeOf_3 (by decide) ?_
          refine rr_icmp_ge 24 dX3_placeOf_4 (by decide) (fun _ => ?_) (fun h4_4 => absurd h4_4 (by decide))
          refine rr_iconst (v := (-1)) dX3_placeOf_24 (by decide) ?_
          exact rr_iret dX3_placeOf_25 ⟨by simp [sd_place, *], rfl⟩
        · refine rr_iloadn_2 dX3_placeOf_16 ?_
          exact rr_iret dX3_placeOf_17 ⟨by simp [sd_place, *], rfl⟩
      · refine rr_iloadn_2 dX3_placeOf_16 ?_
        exact rr_iret dX3_placeOf_17 ⟨by simp [sd_place, *], rfl⟩
    · refine rr_iloadn_2 dX3_placeOf_16 ?_
      exact rr_iret dX3_placeOf_17 ⟨by simp [sd_place, *], rfl⟩
  · refine rr_iloadn_2 dX3_placeOf_16 ?_
    exact rr_iret dX3_placeOf_17 ⟨by simp [sd_place, *], rfl⟩
set_option maxHeartbeats 4000000 in
set_option maxRecDepth 100000 in
theorem c_X3_isWoundAs (N d o : Nat) (σ : rd_S) (u l : Int32) (ho : o < N) (hk : rd_kd o = 3) : rd_T N (d + 0) yX3_isWoundAs cX3_isWoundAs 3 (some .boolean) [.ref o, .int u, .int l] σ (rd_is (some (.int (if σ o 2 = u ∧ σ o 3 = l then 1 else 0))) σ) := by
  refine rd_start RX3 [.ref o, .int u, .int l] rfl (by decide +kernel) rfl (Nat.le_of_ble_eq_true rfl) ?_
  refine rr_aloadn_0 dX3_isWoundAs_0 ?_
  refine rr_geti dX3_isWoundAs_1 kf_X3_25 ho hk rfl ?_
  refine rr_iloadn_1 dX3_isWoundAs_4 ?_
  refine rr_icmp_ne 20 dX3_isWoundAs_5 (by decide) (fun h5 => ?_) (fun h5 => ?_)
  · refine rr_iconst (v := 0) dX3_isWoundAs_20 (by decide) ?_
    exact rr_zret dX3_isWoundAs_21 (by decide) ⟨by simp [*], rfl⟩
  · refine rr_aloadn_0 dX3_isWoundAs_8 ?_
    refine rr_geti dX3_isWoundAs_9 kf_X3_15 ho hk rfl ?_
    refine rr_iloadn_2 dX3_isWoundAs_12 ?_
    refine rr_icmp_ne 20 dX3_isWoundAs_13 (by decide) (fun h13 => ?_) (fun h13 => ?_)
    · refine rr_iconst (v := 0) dX3_isWoundAs_20 (by decide) ?_
      exact rr_zret dX3_isWoundAs_21 (by decide) ⟨by simp [*], rfl⟩
    · refine rr_iconst (v := 1) dX3_isWoundAs_16 (by decide) ?_
      refine rr_goto 21 dX3_isWoundAs_17 (by decide) ?_
      exact rr_zret dX3_isWoundAs_21 (by decide) ⟨by simp [*], rfl⟩
set_option maxHeartbeats 4000000 in
set_option maxRecDepth 100000 in
theorem c_X3_woundCode (N d o : Nat) (σ : rd_S) (ho : o < N) (hk : rd_kd o = 3) : rd_T N (d + 0) yX3_woundCode cX3_woundCode 1 (some .int) [.ref o] σ (rd_is (some (.int (σ o 2 * 10000 + σ o 3))) σ) := by
  refine rd_start RX3 [.ref o] rfl (by decide +kernel) rfl (Nat.le_of_ble_eq_true rfl) ?_
  refine rr_aloadn_0 dX3_woundCode_0 ?_
  refine rr_geti dX3_woundCode_1 kf_X3_25 ho hk rfl ?_
  refine rr_sipush (v := 10000) dX3_woundCode_4 (by decide) ?_
  refine rr_imul dX3_woundCode_7 ?_
  refine rr_aloadn_0 dX3_woundCode_8 ?_
  refine rr_geti dX3_woundCode_9 kf_X3_15 ho hk rfl ?_
  refine rr_iadd dX3_woundCode_12 ?_
  exact rr_iret dX3_woundCode_13 ⟨rfl, rfl⟩
set_option maxHeartbeats 4000000 in
set_option maxRecDepth 100000 in
theorem c_X3_isTooTight (N d o : Nat) (σ : rd_S) (t : Int32) (ho : o < N) (hk : rd_kd o = 3) : rd_T N (d + 1) yX3_isTooTight cX3_isTooTight 2 (some .boolean) [.ref o, .int t] σ (rd_is (some (.int (if 9999 < sd_abs (σ o 2 + t * σ o 3) then 1 else 0))) σ) := by
  refine rd_start RX3 [.ref o, .int t] rfl (by decide +kernel) rfl (Nat.le_of_ble_eq_true rfl) ?_
  refine rr_aloadn_0 dX3_isTooTight_0 ?_
  refine rr_geti dX3_isTooTight_1 kf_X3_25 ho hk rfl ?_
  refine rr_iloadn_1 dX3_isTooTight_4 ?_
  refine rr_aloadn_0 dX3_isTooTight_5 ?_
  refine rr_geti dX3_isTooTight_6 kf_X3_15 ho hk rfl ?_
  refine rr_imul dX3_isTooTight_9 ?_
  refine rr_iadd dX3_isTooTight_10 ?_
  refine rr_mabs dX3_isTooTight_11 kl_X3_41 (Nat.le_of_ble_eq_true rfl) kh_abs ?_
  refine rr_sipush (v := 9999) dX3_isTooTight_14 (by decide) ?_
  refine rr_icmp_le 24 dX3_isTooTight_17 (by decide) (fun h17 => ?_) (fun h17 => ?_)
  · refine rr_iconst (v := 0) dX3_isTooTight_24 (by decide) ?_
    exact rr_zret dX3_isTooTight_25 (by decide) ⟨by simp_all [sd_abs], rfl⟩
  · refine rr_iconst (v := 1) dX3_isTooTight_20 (by decide) ?_
    refine rr_goto 25 dX3_isTooTight_21 (by decide) ?_
    exact rr_zret dX3_isTooTight_25 (by decide) ⟨by simp_all [sd_abs], rfl⟩
set_option maxHeartbeats 4000000 in
set_option maxRecDepth 100000 in
theorem c_X3_take (N d o : Nat) (σ : rd_S) (q : Nat) (ho : o < N) (hk : rd_kd o = 3) (hq : q < N) (hkq : rd_kd q = 3) : rd_T N (d + 0) yX3_take cX3_take 2 none [.ref o, .ref q] σ (rd_is none (sd_wr σ o (sd_rd σ q))) := by
  refine rd_start RX3 [.ref o, .ref q] rfl (by decide +kernel) rfl (Nat.le_of_ble_eq_true rfl) ?_
  refine rr_aloadn_0 dX3_take_0 ?_
  refine rr_aloadn_1 dX3_take_1 ?_
  refine rr_geti dX3_take_2 kf_X3_11 (by assumption) (by assumption) rfl ?_
  refine rr_puti dX3_take_5 kf_X3_11 if_3_0 (by assumption) (by assumption) rfl ?_
  refine rr_aloadn_0 dX3_take_8 ?_
  refine rr_aloadn_1 dX3_take_9 ?_
  refine rr_geti dX3_take_10 kf_X3_22 (by assumption) (by assumption) rfl ?_
  refine rr_puti dX3_take_13 kf_X3_22 if_3_1 (by assumption) (by assumption) rfl ?_
  refine rr_aloadn_0 dX3_take_16 ?_
  refine rr_aloadn_1 dX3_take_17 ?_
  refine rr_geti dX3_take_18 kf_X3_25 (by assumption) (by assumption) rfl ?_
  refine rr_puti dX3_take_21 kf_X3_25 if_3_2 (by assumption) (by assumption) rfl ?_
  refine rr_aloadn_0 dX3_take_24 ?_
  refine rr_aloadn_1 dX3_take_25 ?_
  refine rr_geti dX3_take_26 kf_X3_15 (by assumption) (by assumption) rfl ?_
  refine rr_puti dX3_take_29 kf_X3_15 if_3_3 (by assumption) (by assumption) rfl ?_
  refine rr_aloadn_0 dX3_take_32 ?_
  refine rr_aloadn_1 dX3_take_33 ?_
  refine rr_geti dX3_take_34 kf_X3_28 (by assumption) (by assumption) rfl ?_
  refine rr_puti dX3_take_37 kf_X3_28 if_3_4 (by assumption) (by assumption) rfl ?_
  refine rr_aloadn_0 dX3_take_40 ?_
  refine rr_aloadn_1 dX3_take_41 ?_
  refine rr_geti dX3_take_42 kf_X3_31 (by assumption) (by assumption) rfl ?_
  refine rr_puti dX3_take_45 kf_X3_31 if_3_5 (by assumption) (by assumption) rfl ?_
  exact rr_vret dX3_take_48 ⟨rfl, by apply sd_ext o <;> intros <;> simp_all [rd_u2, sd_wr, sd_rd]⟩
set_option maxHeartbeats 4000000 in
set_option maxRecDepth 100000 in
theorem c_X3_begin (N d o : Nat) (σ : rd_S) (x : Int32) (ho : o < N) (hk : rd_kd o = 3) : rd_T N (d + 1) yX3_begin cX3_begin 2 none [.ref o, .int x] σ (rd_is none (sd_wr σ o (sd_begin x))) := by
  refine rd_start RX3 [.ref o, .int x] rfl (by decide +kernel) rfl (Nat.le_of_ble_eq_true rfl) ?_
  refine rr_aloadn_0 dX3_begin_0 ?_
  refine rr_iloadn_1 dX3_begin_1 ?_
  refine rr_puti dX3_begin_2 kf_X3_11 if_3_0 ho hk rfl ?_
  refine rr_aloadn_0 dX3_begin_5 ?_
  refine rr_iconst (v := 1) dX3_begin_6 (by decide) ?_
  refine rr_aloadn_0 dX3_begin_7 ?_
  refine rr_iconst (v := 2) dX3_begin_8 (by decide) ?_
  refine rr_callViD (c_X3_whoAt N _ _ _ _ ho hk) km_X3_18 rfl rfl ho hk (Nat.le_of_ble_eq_true rfl) dX3_begin_9 ?_
  refine rr_ishl dX3_begin_12 ?_
  refine rr_iconst (v := 1) dX3_begin_13 (by decide) ?_
  refine rr_aloadn_0 dX3_begin_14 ?_
  refine rr_iconst (v := 3) dX3_begin_15 (by decide) ?_
  refine rr_callViD (c_X3_whoAt N _ _ _ _ ho hk) km_X3_18 rfl rfl ho hk (Nat.le_of_ble_eq_true rfl) dX3_begin_16 ?_
  refine rr_ishl dX3_begin_19 ?_
  refine rr_ior dX3_begin_20 ?_
  refine rr_puti dX3_begin_21 kf_X3_22 if_3_1 ho hk rfl ?_
  refine rr_aloadn_0 dX3_begin_24 ?_
  refine rr_iconst (v := 0) dX3_begin_25 (by decide) ?_
  refine rr_puti dX3_begin_26 kf_X3_25 if_3_2 ho hk rfl ?_
  refine rr_aloadn_0 dX3_begin_29 ?_
  refine rr_iconst (v := 1) dX3_begin_30 (by decide) ?_
  refine rr_puti dX3_begin_31 kf_X3_15 if_3_3 ho hk rfl ?_
  refine rr_aloadn_0 dX3_begin_34 ?_
  refine rr_iconst (v := 0) dX3_begin_35 (by decide) ?_
  refine rr_puti dX3_begin_36 kf_X3_28 if_3_4 ho hk rfl ?_
  refine rr_aloadn_0 dX3_begin_39 ?_
  refine rr_iconst (v := 0) dX3_begin_40 (by decide) ?_
  refine rr_puti dX3_begin_41 kf_X3_31 if_3_5 ho hk rfl ?_
  exact rr_vret dX3_begin_44 ⟨rfl, by apply sd_ext o <;> intros <;> simp_all [rd_u2, sd_wr, sd_begin]⟩
set_option maxHeartbeats 4000000 in
set_option maxRecDepth 100000 in
theorem c_X3_turnAll (N d o : Nat) (σ : rd_S) (ho : o < N) (hk : rd_kd o = 3) : rd_T N (d + 1) yX3_turnAll cX3_turnAll 2 none [.ref o] σ (rd_is none (sd_wr σ o (sd_turn (sd_rd σ o)))) := by
  refine rd_start RX3 [.ref o, .retAddr 0] rfl (by decide +kernel) rfl (Nat.le_of_ble_eq_true rfl) ?_
  refine rr_aloadn_0 dX3_turnAll_0 ?_
  refine rr_aloadn_0 dX3_turnAll_1 ?_
  refine rr_geti dX3_turnAll_2 kf_X3_11 ho hk rfl ?_
  refine rr_iconst (v := 2) dX3_turnAll_5 (by decide) ?_
  refine rr_ishl dX3_turnAll_6 ?_
  refine rr_aloadn_0 dX3_turnAll_7 ?_
  refine rr_geti dX3_turnAll_8 kf_X3_11 ho hk rfl ?_
  refine rr_bipush (v := 6) dX3_turnAll_11 (by decide) ?_
  refine rr_ishr dX3_turnAll_13 ?_
  refine rr_ior dX3_turnAll_14 ?_
  refine rr_sipush (v := 255) dX3_turnAll_15 (by decide) ?_
  refine rr_iand dX3_turnAll_18 ?_
  refine rr_puti dX3_turnAll_19 kf_X3_11 if_3_0 ho hk rfl ?_
  refine rr_aloadn_0 dX3_turnAll_22 ?_
  refine rr_geti dX3_turnAll_23 kf_X3_25 ho hk rfl ?_
  refine rr_istoren_1 dX3_turnAll_26 rfl ?_
  rw [show ∀ v, rd_u2 σ o 0 v o 2 = σ o 2 from fun v => by simp [rd_u2]]
  refine rr_iloadn_1 dX3_turnAll_27 ?_
  refine rr_if_ne 44 dX3_turnAll_28 (by decide) (fun h28 => ?_) (fun h28 => ?_)
  · refine rr_aloadn_0 dX3_turnAll_44 ?_
    refine rr_iloadn_1 dX3_turnAll_45 ?_
    refine rr_if_le 57 dX3_turnAll_46 (by decide) (fun h46 => ?_) (fun h46 => ?_)
    · refine rr_aloadn_0 dX3_turnAll_57 ?_
      refine rr_geti dX3_turnAll_58 kf_X3_15 ho hk rfl ?_
      refine rr_puti dX3_turnAll_61 kf_X3_25 if_3_2 ho hk rfl ?_
      refine rr_aloadn_0 dX3_turnAll_64 ?_
      refine rr_iloadn_1 dX3_turnAll_65 ?_
      refine rr_mabs dX3_turnAll_66 kl_X3_41 (Nat.le_of_ble_eq_true rfl) kh_abs ?_
      refine rr_puti dX3_turnAll_69 kf_X3_15 if_3_3 ho hk rfl ?_
      exact rr_vret dX3_turnAll_72 ⟨rfl, by apply sd_ext o <;> intros <;> simp [rd_u2, sd_wr, sd_rd, sd_turn, sd_abs, *]⟩
    · refine rr_aloadn_0 dX3_turnAll_49 ?_
      refine rr_geti dX3_turnAll_50 kf_X3_15 ho hk rfl ?_
      refine rr_ineg dX3_turnAll_53 ?_
      refine rr_goto 61 dX3_turnAll_54 (by decide) ?_
      refine rr_puti dX3_turnAll_61 kf_X3_25 if_3_2 ho hk rfl ?_
      refine rr_aloadn_0 dX3_turnAll_64 ?_
      refine rr_iloadn_1 dX3_turnAll_65 ?_
      refine rr_mabs dX3_turnAll_66 kl_X3_41 (Nat.le_of_ble_eq_true rfl) kh_abs ?_
      refine rr_puti dX3_turnAll_69 kf_X3_15 if_3_3 ho hk rfl ?_
      exact rr_vret dX3_turnAll_72 ⟨rfl, by apply sd_ext o <;> intros <;> simp [rd_u2, sd_wr, sd_rd, sd_turn, sd_abs, *]⟩
  · refine rr_aloadn_0 dX3_turnAll_31 ?_
    refine rr_iconst (v := 1) dX3_turnAll_32 (by decide) ?_
    refine rr_puti dX3_turnAll_33 kf_X3_25 if_3_2 ho hk rfl ?_
    refine rr_aloadn_0 dX3_turnAll_36 ?_
    refine rr_iconst (v := 0) dX3_turnAll_37 (by decide) ?_
    refine rr_puti dX3_turnAll_38 kf_X3_15 if_3_3 ho hk rfl ?_
    refine rr_goto 72 dX3_turnAll_41 (by decide) ?_
    exact rr_vret dX3_turnAll_72 ⟨rfl, by apply sd_ext o <;> intros <;> simp [rd_u2, sd_wr, sd_rd, sd_turn, sd_abs, *]⟩
set_option maxHeartbeats 4000000 in
set_option maxRecDepth 100000 in
theorem c_X3_swapPlaces (N d o : Nat) (σ : rd_S) (p q : Int32) (ho : o < N) (hk : rd_kd o = 3) : rd_T N (d + 0) yX3_swapPlaces cX3_swapPlaces 4 none [.ref o, .int p, .int q] σ (rd_is none (rd_u2 σ o 0 (sd_swap (σ o 0) p q))) := by
  refine rd_start RX3 [.ref o, .int p, .int q, .retAddr 0] rfl (by decide +kernel) rfl (Nat.le_of_ble_eq_true rfl) ?_
  refine rr_aloadn_0 dX3_swapPlaces_0 ?_
  refine rr_geti dX3_swapPlaces_1 kf_X3_11 ho hk rfl ?_
  refine rr_iconst (v := 2) dX3_swapPlaces_4 (by decide) ?_
  refine rr_iloadn_1 dX3_swapPlaces_5 ?_
  refine rr_imul dX3_swapPlaces_6 ?_
  refine rr_ishr dX3_swapPlaces_7 ?_
  refine rr_aloadn_0 dX3_swapPlaces_8 ?_
  refine rr_geti dX3_swapPlaces_9 kf_X3_11 ho hk rfl ?_
  refine rr_iconst (v := 2) dX3_swapPlaces_12 (by decide) ?_
  refine rr_iloadn_2 dX3_swapPlaces_13 ?_
  refine rr_imul dX3_swapPlaces_14 ?_
  refine rr_ishr dX3_swapPlaces_15 ?_
  refine rr_ixor dX3_swapPlaces_16 ?_
  refine rr_iconst (v := 3) dX3_swapPlaces_17 (by decide) ?_
  refine rr_iand dX3_swapPlaces_18 ?_
  refine rr_istoren_3 dX3_swapPlaces_19 rfl ?_
  refine rr_aloadn_0 dX3_swapPlaces_20 ?_
  refine rr_dup dX3_swapPlaces_21 rfl ?_
  refine rr_geti dX3_swapPlaces_22 kf_X3_11 ho hk rfl ?_
  refine rr_iloadn_3 dX3_swapPlaces_25 ?_
  refine rr_iconst (v := 2) dX3_swapPlaces_26 (by decide) ?_
  refine rr_iloadn_1 dX3_swapPlaces_27 ?_
  refine rr_imul dX3_swapPlaces_28 ?_
  refine rr_ishl dX3_swapPlaces_29 ?_
  refine rr_iloadn_3 dX3_swapPlaces_30 ?_
  refine rr_iconst (v := 2) dX3_swapPlaces_31 (by decide) ?_
  refine rr_iloadn_2 dX3_swapPlaces_32 ?_
  refine rr_imul dX3_swapPlaces_33 ?_
  refine rr_ishl dX3_swapPlaces_34 ?_
  refine rr_ior dX3_swapPlaces_35 ?_
  refine rr_ixor dX3_swapPlaces_36 ?_
  refine rr_puti dX3_swapPlaces_37 kf_X3_11 if_3_0 ho hk rfl ?_
  exact rr_vret dX3_swapPlaces_40 ⟨rfl, by simp [sd_swap]⟩
set_option maxHeartbeats 4000000 in
set_option maxRecDepth 100000 in
theorem c_X3_twistsOf (N d o : Nat) (σ : rd_S) (f kb : Int32) (ho : o < N) (hk : rd_kd o = 3) : rd_T N (d + 1) yX3_twistsOf cX3_twistsOf 5 (some .int) [.ref o, .int f, .int kb] σ (rd_is (some (.int (sd_tw (sd_rd σ o) f kb))) σ) := by
  refine rd_start RX3 [.ref o, .int f, .int kb, .retAddr 0, .retAddr 0] rfl (by decide +kernel) rfl (Nat.le_of_ble_eq_true rfl) ?_
  refine rr_iloadn_1 dX3_twistsOf_0 ?_
  refine rr_if_eq 11 dX3_twistsOf_1 (by decide) (fun h1 => ?_) (fun h1 => ?_)
  · refine rr_iloadn_1 dX3_twistsOf_11 ?_
    refine rr_if_neJ 19 20 (-1) (1) dX3_twistsOf_12 (by decide) (fun h12 k12 => ?_) (fun h12 k12 => ?_) ?_
    · refine rr_iconst (v := (-1)) dX3_twistsOf_19 (by decide) ?_
      exact k12
    · refine rr_iconst (v := 1) dX3_twistsOf_15 (by decide) ?_
      refine rr_goto 20 dX3_twistsOf_16 (by decide) ?_
      exact k12
    refine rr_istoren_3 dX3_twistsOf_20 rfl ?_
    refine rr_aloadn_0 dX3_twistsOf_21 ?_
    refine rr_iconst (v := 1) dX3_twistsOf_22 (by decide) ?_
    refine rr_callViD (c_X3_whoAt N _ _ _ _ ho hk) km_X3_18 rfl rfl ho hk (Nat.le_of_ble_eq_true rfl) dX3_twistsOf_23 ?_
    refine rr_istore_4 dX3_twistsOf_26 rfl ?_
    refine rr_iloadn_2 dX3_twistsOf_28 ?_
    refine rr_iload_4 dX3_twistsOf_29 ?_
    refine rr_callSiD (c_X4_kindOf N _ _ _ _) km_X3_34 rfl rfl (Nat.le_of_ble_eq_true rfl) dX3_twistsOf_31 ?_
    rcases rd_sw_1_5 (sd_kind kb (sd_who (σ o 0) 1)) with hs34 | hs34 | hs34 | hs34 | hs34 | hs34
    · rw [hs34]
      refine rr_tableIn 68 dX3_twistsOf_34 (by decide) (by decide) rfl (by decide) ?_
      refine rr_iloadn_3 dX3_twistsOf_68 ?_
      refine rr_ineg dX3_twistsOf_69 ?_
      exact rr_iret dX3_twistsOf_70 ⟨by simp_all [sd_tw, sd_rd, sd_told], rfl⟩
    · rw [hs34]
      refine rr_tableIn 71 dX3_twistsOf_34 (by decide) (by decide) rfl (by decide) ?_
      refine rr_aloadn_0 dX3_twistsOf_71 ?_
      refine rr_geti dX3_twistsOf_72 kf_X3_31 ho hk rfl ?_
      refine rr_iconst (v := 2) dX3_twistsOf_75 (by decide) ?_
      refine rr_irem dX3_twistsOf_76 (by decide) ?_
      refine rr_if_ne 84 dX3_twistsOf_77 (by decide) (fun h77 => ?_) (fun h77 => ?_)
      · refine rr_iconst (v := 0) dX3_twistsOf_84 (by decide) ?_
        exact rr_iret dX3_twistsOf_85 ⟨by simp_all [sd_tw, sd_rd, sd_told], rfl⟩
      · refine rr_iloadn_3 dX3_twistsOf_80 ?_
        refine rr_goto 85 dX3_twistsOf_81 (by decide) ?_
        exact rr_iret dX3_twistsOf_85 ⟨by simp_all [sd_tw, sd_rd, sd_told], rfl⟩
    · rw [hs34]
      refine rr_tableIn 86 dX3_twistsOf_34 (by decide) (by decide) rfl (by decide) ?_
      refine rr_iconst (v := 2) dX3_twistsOf_86 (by decide) ?_
      refine rr_iloadn_3 dX3_twistsOf_87 ?_
      refine rr_imul dX3_twistsOf_88 ?_
      exact rr_iret dX3_twistsOf_89 ⟨by simp_all [sd_tw, sd_rd, sd_told], rfl⟩
    · rw [hs34]
      refine rr_tableIn 90 dX3_twistsOf_34 (by decide) (by decide) rfl (by decide) ?_
      refine rr_aloadn_0 dX3_twistsOf_90 ?_
      refine rr_iload_4 dX3_twistsOf_91 ?_
      refine rr_callViD (c_X3_ropeOf N _ _ _ _ ho hk) km_X3_38 rfl rfl ho hk (Nat.le_of_ble_eq_true rfl) dX3_twistsOf_93 ?_
      refine rr_aloadn_0 dX3_twistsOf_96 ?_
      refine rr_aloadn_0 dX3_twistsOf_97 ?_
      refine rr_iconst (v := 2) dX3_twistsOf_98 (by decide) ?_
      refine rr_callViD (c_X3_whoAt N _ _ _ _ ho hk) km_X3_18 rfl rfl ho hk (Nat.le_of_ble_eq_true rfl) dX3_twistsOf_99 ?_
      refine rr_callViD (c_X3_ropeOf N _ _ _ _ ho hk) km_X3_38 rfl rfl ho hk (Nat.le_of_ble_eq_true rfl) dX3_twistsOf_102 ?_
      refine rr_icmp_ne 112 dX3_twistsOf_105 (by decide) (fun h105 => ?_) (fun h105 => ?_)
      · refine rr_iloadn_3 dX3_twistsOf_112 ?_
        exact rr_iret dX3_twistsOf_113 ⟨by simp_all [sd_tw, sd_rd, sd_told], rfl⟩
      · refine rr_iconst (v := 0) dX3_twistsOf_108 (by decide) ?_
        refine rr_goto 113 dX3_twistsOf_109 (by decide) ?_
        exact rr_iret dX3_twistsOf_113 ⟨by simp_all [sd_tw, sd_rd, sd_told], rfl⟩
    · rw [hs34]
      refine rr_tableIn 114 dX3_twistsOf_34 (by decide) (by decide) rfl (by decide) ?_
      refine rr_aloadn_0 dX3_twistsOf_114 ?_
      refine rr_geti dX3_twistsOf_115 kf_X3_28 ho hk rfl ?_
      refine rr_if_ne 125 dX3_twistsOf_118 (by decide) (fun h118 => ?_) (fun h118 => ?_)
      · refine rr_aloadn_0 dX3_twistsOf_125 ?_
        refine rr_geti dX3_twistsOf_126 kf_X3_28 ho hk rfl ?_
        exact rr_iret dX3_twistsOf_129 ⟨by simp_all [sd_tw, sd_rd, sd_told], rfl⟩
      · refine rr_iloadn_3 dX3_twistsOf_121 ?_
        refine rr_goto 129 dX3_twistsOf_122 (by decide) ?_
        exact rr_iret dX3_twistsOf_129 ⟨by simp_all [sd_tw, sd_rd, sd_told], rfl⟩
    · refine rr_tableOut 130 dX3_twistsOf_34 hs34.1 (by decide) ?_
      refine rr_iloadn_3 dX3_twistsOf_130 ?_
      exact rr_iret dX3_twistsOf_131 ⟨by simp_all [sd_tw, sd_rd, sd_told], rfl⟩
  · refine rr_iloadn_1 dX3_twistsOf_4 ?_
    refine rr_iconst (v := 1) dX3_twistsOf_5 (by decide) ?_
    refine rr_icmp_eq 11 dX3_twistsOf_6 (by decide) (fun h6 => ?_) (fun h6 => ?_)
    · refine rr_iloadn_1 dX3_twistsOf_11 ?_
      refine rr_if_neJ 19 20 (-1) (1) dX3_twistsOf_12 (by decide) (fun h12 k12 => ?_) (fun h12 k12 => ?_) ?_
      · refine rr_iconst (v := (-1)) dX3_twistsOf_19 (by decide) ?_
        exact k12
      · refine rr_iconst (v := 1) dX3_twistsOf_15 (by decide) ?_
        refine rr_goto 20 dX3_twistsOf_16 (by decide) ?_
        exact k12
      refine rr_istoren_3 dX3_twistsOf_20 rfl ?_
      refine rr_aloadn_0 dX3_twistsOf_21 ?_
      refine rr_iconst (v := 1) dX3_twistsOf_22 (by decide) ?_
      refine rr_callViD (c_X3_whoAt N _ _ _ _ ho hk) km_X3_18 rfl rfl ho hk (Nat.le_of_ble_eq_true rfl) dX3_twistsOf_23 ?_
      refine rr_istore_4 dX3_twistsOf_26 rfl ?_
      refine rr_iloadn_2 dX3_twistsOf_28 ?_
      refine rr_iload_4 dX3_twistsOf_29 ?_
      refine rr_callSiD (c_X4_kindOf N _ _ _ _) km_X3_34 rfl rfl (Nat.le_of_ble_eq_true rfl) dX3_twistsOf_31 ?_
      rcases rd_sw_1_5 (sd_kind kb (sd_who (σ o 0) 1)) with hs34 | hs34 | hs34 | hs34 | hs34 | hs34
      · rw [hs34]
        refine rr_tableIn 68 dX3_twistsOf_34 (by decide) (by decide) rfl (by decide) ?_
        refine rr_iloadn_3 dX3_twistsOf_68 ?_
        refine rr_ineg dX3_twistsOf_69 ?_
        exact rr_iret dX3_twistsOf_70 ⟨by simp_all [sd_tw, sd_rd, sd_told], rfl⟩
      · rw [hs34]
        refine rr_tableIn 71 dX3_twistsOf_34 (by decide) (by decide) rfl (by decide) ?_
        refine rr_aloadn_0 dX3_twistsOf_71 ?_
        refine rr_geti dX3_twistsOf_72 kf_X3_31 ho hk rfl ?_
        refine rr_iconst (v := 2) dX3_twistsOf_75 (by decide) ?_
        refine rr_irem dX3_twistsOf_76 (by decide) ?_
        refine rr_if_ne 84 dX3_twistsOf_77 (by decide) (fun h77 => ?_) (fun h77 => ?_)
        · refine rr_iconst (v := 0) dX3_twistsOf_84 (by decide) ?_
          exact rr_iret dX3_twistsOf_85 ⟨by simp_all [sd_tw, sd_rd, sd_told], rfl⟩
        · refine rr_iloadn_3 dX3_twistsOf_80 ?_
          refine rr_goto 85 dX3_twistsOf_81 (by decide) ?_
          exact rr_iret dX3_twistsOf_85 ⟨by simp_all [sd_tw, sd_rd, sd_told], rfl⟩
      · rw [hs34]
        refine rr_tableIn 86 dX3_twistsOf_34 (by decide) (by decide) rfl (by decide) ?_
        refine rr_iconst (v := 2) dX3_twistsOf_86 (by decide) ?_
        refine rr_iloadn_3 dX3_twistsOf_87 ?_
        refine rr_imul dX3_twistsOf_88 ?_
        exact rr_iret dX3_twistsOf_89 ⟨by simp_all [sd_tw, sd_rd, sd_told], rfl⟩
      · rw [hs34]
        refine rr_tableIn 90 dX3_twistsOf_34 (by decide) (by decide) rfl (by decide) ?_
        refine rr_aloadn_0 dX3_twistsOf_90 ?_
        refine rr_iload_4 dX3_twistsOf_91 ?_
        refine rr_callViD (c_X3_ropeOf N _ _ _ _ ho hk) km_X3_38 rfl rfl ho hk (Nat.le_of_ble_eq_true rfl) dX3_twistsOf_93 ?_
        refine rr_aloadn_0 dX3_twistsOf_96 ?_
        refine rr_aloadn_0 dX3_twistsOf_97 ?_
        refine rr_iconst (v := 2) dX3_twistsOf_98 (by decide) ?_
        refine rr_callViD (c_X3_whoAt N _ _ _ _ ho hk) km_X3_18 rfl rfl ho hk (Nat.le_of_ble_eq_true rfl) dX3_twistsOf_99 ?_
        refine rr_callViD (c_X3_ropeOf N _ _ _ _ ho hk) km_X3_38 rfl rfl ho hk (Nat.le_of_ble_eq_true rfl) dX3_twistsOf_102 ?_
        refine rr_icmp_ne 112 dX3_twistsOf_105 (by decide) (fun h105 => ?_) (fun h105 => ?_)
        · refine rr_iloadn_3 dX3_twistsOf_112 ?_
          exact rr_iret dX3_twistsOf_113 ⟨by simp_all [sd_tw, sd_rd, sd_told], rfl⟩
        · refine rr_iconst (v := 0) dX3_twistsOf_108 (by decide) ?_
          refine rr_goto 113 dX3_twistsOf_109 (by decide) ?_
          exact rr_iret dX3_twistsOf_113 ⟨by simp_all [sd_tw, sd_rd, sd_told], rfl⟩
      · rw [hs34]
        refine rr_tableIn 114 dX3_twistsOf_34 (by decide) (by decide) rfl (by decide) ?_
        refine rr_aloadn_0 dX3_twistsOf_114 ?_
        refine rr_geti dX3_twistsOf_115 kf_X3_28 ho hk rfl ?_
        refine rr_if_ne 125 dX3_twistsOf_118 (by decide) (fun h118 => ?_) (fun h118 => ?_)
        · refine rr_aloadn_0 dX3_twistsOf_125 ?_
          refine rr_geti dX3_twistsOf_126 kf_X3_28 ho hk rfl ?_
          exact rr_iret dX3_twistsOf_129 ⟨by simp_all [sd_tw, sd_rd, sd_told], rfl⟩
        · refine rr_iloadn_3 dX3_twistsOf_121 ?_
          refine rr_goto 129 dX3_twistsOf_122 (by decide) ?_
          exact rr_iret dX3_twistsOf_129 ⟨by simp_all [sd_tw, sd_rd, sd_told], rfl⟩
      · refine rr_tableOut 130 dX3_twistsOf_34 hs34.1 (by decide) ?_
        refine rr_iloadn_3 dX3_twistsOf_130 ?_
        exact rr_iret dX3_twistsOf_131 ⟨by simp_all [sd_tw, sd_rd, sd_told], rfl⟩
    · refine rr_iconst (v := 0) dX3_twistsOf_9 (by decide) ?_
      exact rr_iret dX3_twistsOf_10 ⟨by simp_all [sd_tw, sd_rd, sd_told], rfl⟩
set_option maxHeartbeats 4000000 in
set_option maxRecDepth 100000 in
theorem c_X3_step (N d o : Nat) (σ : rd_S) (f kb : Int32) (ho : o < N) (hk : rd_kd o = 3) : rd_T N (d + 2) yX3_step cX3_step 4 (some .boolean) [.ref o, .int f, .int kb] σ (fun r s => (sd_tight (sd_rd σ o) (sd_tw (sd_rd σ o) f kb) → r = some (.int 0) ∧ s = σ) ∧ (¬ sd_tight (sd_rd σ o) (sd_tw (sd_rd σ o) f kb) → r = some (.int 1) ∧ s = sd_wr σ o (sd_go (sd_rd σ o) f (sd_tw (sd_rd σ o) f kb)))) := by
  refine rd_start RX3 [.ref o, .int f, .int kb, .retAddr 0] rfl (by decide +kernel) rfl (Nat.le_of_ble_eq_true rfl) ?_
  refine rr_aloadn_0 dX3_step_0 ?_
  refine rr_iloadn_1 dX3_step_1 ?_
  refine rr_iloadn_2 dX3_step_2 ?_
  refine rr_callViD (c_X3_twistsOf N _ _ _ _ _ ho hk) km_X3_46 rfl rfl ho hk (Nat.le_of_ble_eq_true rfl) dX3_step_3 ?_
  refine rr_istoren_3 dX3_step_6 rfl ?_
  generalize ht : sd_tw (sd_rd σ o) f kb = t
  refine rr_aloadn_0 dX3_step_7 ?_
  refine rr_iloadn_3 dX3_step_8 ?_
  refine rr_callViD (c_X3_isTooTight N _ _ _ _ ho hk) km_X3_49 rfl rfl ho hk (Nat.le_of_ble_eq_true rfl) dX3_step_9 ?_
  by_cases hti : 9999 < sd_abs (σ o 2 + t * σ o 3)
  · rw [if_pos hti]
    refine rr_if_eq 17 dX3_step_12 (by decide) (fun h => absurd h (by decide)) (fun _ => ?_)
    refine rr_iconst (v := 0) dX3_step_15 (by decide) ?_
    exact rr_zret dX3_step_16 (by decide) ⟨fun _ => ⟨rfl, rfl⟩, fun h => absurd hti h⟩
  rw [if_neg hti]
  refine rr_if_eq 17 dX3_step_12 (by decide) (fun h12 => ?_) (fun h12 => absurd rfl h12)
  refine rr_iloadn_1 dX3_step_17 ?_
  refine rr_iconst (v := 2) dX3_step_18 (by decide) ?_
  refine rr_icmp_ne 26 dX3_step_19 (by decide) (fun h19 => ?_) (fun h19 => ?_)
  · refine rr_aloadn_0 dX3_step_26 ?_
    refine rr_dup dX3_step_27 rfl ?_
    refine rr_geti dX3_step_28 kf_X3_25 ho hk rfl ?_
    refine rr_iloadn_3 dX3_step_31 ?_
    refine rr_aloadn_0 dX3_step_32 ?_
    refine rr_geti dX3_step_33 kf_X3_15 ho hk rfl ?_
    refine rr_imul dX3_step_36 ?_
    refine rr_iadd dX3_step_37 ?_
    refine rr_puti dX3_step_38 kf_X3_25 if_3_2 ho hk rfl ?_
    refine rr_iloadn_3 dX3_step_41 ?_
    refine rr_if_eq 58 dX3_step_42 (by decide) (fun h42 => ?_) (fun h42 => ?_)
    · refine rr_iloadn_3 dX3_step_58 ?_
      refine rr_iconst (v := 2) dX3_step_59 (by decide) ?_
      refine rr_irem dX3_step_60 (by decide) ?_
      refine rr_if_eq 70 dX3_step_61 (by decide) (fun h61 => ?_) (fun h61 => ?_)
      · refine rr_aloadn_0 dX3_step_70 ?_
        refine rr_dup dX3_step_71 rfl ?_
        refine rr_geti dX3_step_72 kf_X3_31 ho hk rfl ?_
        refine rr_iconst (v := 1) dX3_step_75 (by decide) ?_
        refine rr_iadd dX3_step_76 ?_
        refine rr_puti dX3_step_77 kf_X3_31 if_3_5 ho hk rfl ?_
        refine rr_iconst (v := 1) dX3_step_80 (by decide) ?_
        exact rr_zret dX3_step_81 (by decide) ⟨fun h => absurd h hti, fun _ => ⟨rfl, by apply sd_ext o <;> intros <;> first | (simp [rd_u2, sd_wr, sd_rd, sd_go, *]; done) | exact absurd (by rw [h42]; decide) h61⟩⟩
      · refine rr_aloadn_0 dX3_step_64 ?_
        refine rr_iconst (v := 1) dX3_step_65 (by decide) ?_
        refine rr_iconst (v := 2) dX3_step_66 (by decide) ?_
        refine rr_callVvD (c_X3_swapPlaces N _ _ _ _ _ ho hk) km_X3_56 rfl rfl ho hk (Nat.le_of_ble_eq_true rfl) dX3_step_67 ?_
        refine rr_aloadn_0 dX3_step_70 ?_
        refine rr_dup dX3_step_71 rfl ?_
        refine rr_geti dX3_step_72 kf_X3_31 ho hk rfl ?_
        refine rr_iconst (v := 1) dX3_step_75 (by decide) ?_
        refine rr_iadd dX3_step_76 ?_
        refine rr_puti dX3_step_77 kf_X3_31 if_3_5 ho hk rfl ?_
        refine rr_iconst (v := 1) dX3_step_80 (by decide) ?_
        exact rr_zret dX3_step_81 (by decide) ⟨fun h => absurd h hti, fun _ => ⟨rfl, by apply sd_ext o <;> intros <;> first | (simp [rd_u2, sd_wr, sd_rd, sd_go, *]; done) | exact absurd (by rw [h42]; decide) h61⟩⟩
    · refine rr_aloadn_0 dX3_step_45 ?_
      refine rr_iloadn_3 dX3_step_46 ?_
      refine rr_if_leJ 54 55 (-1) (1) dX3_step_47 (by decide) (fun h47 k47 => ?_) (fun h47 k47 => ?_) ?_
      · refine rr_iconst (v := (-1)) dX3_step_54 (by decide) ?_
        exact k47
      · refine rr_iconst (v := 1) dX3_step_50 (by decide) ?_
        refine rr_goto 55 dX3_step_51 (by decide) ?_
        exact k47
      refine rr_puti dX3_step_55 kf_X3_28 if_3_4 ho hk rfl ?_
      refine rr_iloadn_3 dX3_step_58 ?_
      refine rr_iconst (v := 2) dX3_step_59 (by decide) ?_
      refine rr_irem dX3_step_60 (by decide) ?_
      refine rr_if_eq 70 dX3_step_61 (by decide) (fun h61 => ?_) (fun h61 => ?_)
      · refine rr_aloadn_0 dX3_step_70 ?_
        refine rr_dup dX3_step_71 rfl ?_
        refine rr_geti dX3_step_72 kf_X3_31 ho hk rfl ?_
        refine rr_iconst (v := 1) dX3_step_75 (by decide) ?_
        refine rr_iadd dX3_step_76 ?_
        refine rr_puti dX3_step_77 kf_X3_31 if_3_5 ho hk rfl ?_
        refine rr_iconst (v := 1) dX3_step_80 (by decide) ?_
        exact rr_zret dX3_step_81 (by decide) ⟨fun h => absurd h hti, fun _ => ⟨rfl, by apply sd_ext o <;> intros <;> first | (simp [rd_u2, sd_wr, sd_rd, sd_go, *]; done) | exact absurd (by rw [h42]; decide) h61⟩⟩
      · refine rr_aloadn_0 dX3_step_64 ?_
        refine rr_iconst (v := 1) dX3_step_65 (by decide) ?_
        refine rr_iconst (v := 2) dX3_step_66 (by decide) ?_
        refine rr_callVvD (c_X3_swapPlaces N _ _ _ _ _ ho hk) km_X3_56 rfl rfl ho hk (Nat.le_of_ble_eq_true rfl) dX3_step_67 ?_
        refine rr_aloadn_0 dX3_step_70 ?_
        refine rr_dup dX3_step_71 rfl ?_
        refine rr_geti dX3_step_72 kf_X3_31 ho hk rfl ?_
        refine rr_iconst (v := 1) dX3_step_75 (by decide) ?_
        refine rr_iadd dX3_step_76 ?_
        refine rr_puti dX3_step_77 kf_X3_31 if_3_5 ho hk rfl ?_
        refine rr_iconst (v := 1) dX3_step_80 (by decide) ?_
        exact rr_zret dX3_step_81 (by decide) ⟨fun h => absurd h hti, fun _ => ⟨rfl, by apply sd_ext o <;> intros <;> first | (simp [rd_u2, sd_wr, sd_rd, sd_go, *]; done) | exact absurd (by rw [h42]; decide) h61⟩⟩
  · refine rr_aloadn_0 dX3_step_22 ?_
    refine rr_callVvD (c_X3_turnAll N _ _ _ ho hk) km_X3_53 rfl rfl ho hk (Nat.le_of_ble_eq_true rfl) dX3_step_23 ?_
    refine rr_aloadn_0 dX3_step_26 ?_
    refine rr_dup dX3_step_27 rfl ?_
    refine rr_geti dX3_step_28 kf_X3_25 ho hk rfl ?_
    refine rr_iloadn_3 dX3_step_31 ?_
    refine rr_aloadn_0 dX3_step_32 ?_
    refine rr_geti dX3_step_33 kf_X3_15 ho hk rfl ?_
    refine rr_imul dX3_step_36 ?_
    refine rr_iadd dX3_step_37 ?_
    refine rr_puti dX3_step_38 kf_X3_25 if_3_2 ho hk rfl ?_
    refine rr_iloadn_3 dX3_step_41 ?_
    refine rr_if_eq 58 dX3_step_42 (by decide) (fun h42 => ?_) (fun h42 => ?_)
    · refine rr_iloadn_3 dX3_step_58 ?_
      refine rr_iconst (v := 2) dX3_step_59 (by decide) ?_
      refine rr_irem dX3_step_60 (by decide) ?_
      refine rr_if_eq 70 dX3_step_61 (by decide) (fun h61 => ?_) (fun h61 => ?_)
      · refine rr_aloadn_0 dX3_step_70 ?_
        refine rr_dup dX3_step_71 rfl ?_
        refine rr_geti dX3_step_72 kf_X3_31 ho hk rfl ?_
        refine rr_iconst (v := 1) dX3_step_75 (by decide) ?_
        refine rr_iadd dX3_step_76 ?_
        refine rr_puti dX3_step_77 kf_X3_31 if_3_5 ho hk rfl ?_
        refine rr_iconst (v := 1) dX3_step_80 (by decide) ?_
        exact rr_zret dX3_step_81 (by decide) ⟨fun h => absurd h hti, fun _ => ⟨rfl, by apply sd_ext o <;> intros <;> first | (simp [rd_u2, sd_wr, sd_rd, sd_go, *]; done) | exact absurd (by rw [h42]; decide) h61⟩⟩
      · refine rr_aloadn_0 dX3_step_64 ?_
        refine rr_iconst (v := 1) dX3_step_65 (by decide) ?_
        refine rr_iconst (v := 2) dX3_step_66 (by decide) ?_
        refine rr_callVvD (c_X3_swapPlaces N _ _ _ _ _ ho hk) km_X3_56 rfl rfl ho hk (Nat.le_of_ble_eq_true rfl) dX3_step_67 ?_
        refine rr_aloadn_0 dX3_step_70 ?_
        refine rr_dup dX3_step_71 rfl ?_
        refine rr_geti dX3_step_72 kf_X3_31 ho hk rfl ?_
        refine rr_iconst (v := 1) dX3_step_75 (by decide) ?_
        refine rr_iadd dX3_step_76 ?_
        refine rr_puti dX3_step_77 kf_X3_31 if_3_5 ho hk rfl ?_
        refine rr_iconst (v := 1) dX3_step_80 (by decide) ?_
        exact rr_zret dX3_step_81 (by decide) ⟨fun h => absurd h hti, fun _ => ⟨rfl, by apply sd_ext o <;> intros <;> first | (simp [rd_u2, sd_wr, sd_rd, sd_go, *]; done) | exact absurd (by rw [h42]; decide) h61⟩⟩
    · refine rr_aloadn_0 dX3_step_45 ?_
      refine rr_iloadn_3 dX3_step_46 ?_
      refine rr_if_leJ 54 55 (-1) (1) dX3_step_47 (by decide) (fun h47 k47 => ?_) (fun h47 k47 => ?_) ?_
      · refine rr_iconst (v := (-1)) dX3_step_54 (by decide) ?_
        exact k47
      · refine rr_iconst (v := 1) dX3_step_50 (by decide) ?_
        refine rr_goto 55 dX3_step_51 (by decide) ?_
        exact k47
      refine rr_puti dX3_step_55 kf_X3_28 if_3_4 ho hk rfl ?_
      refine rr_iloadn_3 dX3_step_58 ?_
      refine rr_iconst (v := 2) dX3_step_59 (by decide) ?_
      refine rr_irem dX3_step_60 (by decide) ?_
      refine rr_if_eq 70 dX3_step_61 (by decide) (fun h61 => ?_) (fun h61 => ?_)
      · refine rr_aloadn_0 dX3_step_70 ?_
        refine rr_dup dX3_step_71 rfl ?_
        refine rr_geti dX3_step_72 kf_X3_31 ho hk rfl ?_
        refine rr_iconst (v := 1) dX3_step_75 (by decide) ?_
        refine rr_iadd dX3_step_76 ?_
        refine rr_puti dX3_step_77 kf_X3_31 if_3_5 ho hk rfl ?_
        refine rr_iconst (v := 1) dX3_step_80 (by decide) ?_
        exact rr_zret dX3_step_81 (by decide) ⟨fun h => absurd h hti, fun _ => ⟨rfl, by apply sd_ext o <;> intros <;> first | (simp [rd_u2, sd_wr, sd_rd, sd_go, *]; done) | exact absurd (by rw [h42]; decide) h61⟩⟩
      · refine rr_aloadn_0 dX3_step_64 ?_
        refine rr_iconst (v := 1) dX3_step_65 (by decide) ?_
        refine rr_iconst (v := 2) dX3_step_66 (by decide) ?_
        refine rr_callVvD (c_X3_swapPlaces N _ _ _ _ _ ho hk) km_X3_56 rfl rfl ho hk (Nat.le_of_ble_eq_true rfl) dX3_step_67 ?_
        refine rr_aloadn_0 dX3_step_70 ?_
        refine rr_dup dX3_step_71 rfl ?_
        refine rr_geti dX3_step_72 kf_X3_31 ho hk rfl ?_
        refine rr_iconst (v := 1) dX3_step_75 (by decide) ?_
        refine rr_iadd dX3_step_76 ?_
        refine rr_puti dX3_step_77 kf_X3_31 if_3_5 ho hk rfl ?_
        refine rr_iconst (v := 1) dX3_step_80 (by decide) ?_
        exact rr_zret dX3_step_81 (by decide) ⟨fun h => absurd h hti, fun _ => ⟨rfl, by apply sd_ext o <;> intros <;> first | (simp [rd_u2, sd_wr, sd_rd, sd_go, *]; done) | exact absurd (by rw [h42]; decide) h61⟩⟩
set_option maxHeartbeats 4000000 in
set_option maxRecDepth 100000 in
theorem c_X3_exchange (N d o : Nat) (σ : rd_S) (i j : Int32) (ho : o < N) (hk : rd_kd o = 3) : rd_T N (d + 2) yX3_exchange cX3_exchange 4 none [.ref o, .int i, .int j] σ (rd_is none (sd_wr σ o (sd_xch (sd_rd σ o) i j))) := by
  refine rd_start RX3 [.ref o, .int i, .int j, .retAddr 0] rfl (by decide +kernel) rfl (Nat.le_of_ble_eq_true rfl) ?_
  refine rr_aloadn_0 dX3_exchange_0 ?_
  refine rr_iloadn_1 dX3_exchange_1 ?_
  refine rr_callViD (c_X3_ropeOf N _ _ _ _ ho hk) km_X3_38 rfl rfl ho hk (Nat.le_of_ble_eq_true rfl) dX3_exchange_2 ?_
  refine rr_aloadn_0 dX3_exchange_5 ?_
  refine rr_iloadn_2 dX3_exchange_6 ?_
  refine rr_callViD (c_X3_ropeOf N _ _ _ _ ho hk) km_X3_38 rfl rfl ho hk (Nat.le_of_ble_eq_true rfl) dX3_exchange_7 ?_
  refine rr_ixor dX3_exchange_10 ?_
  refine rr_istoren_3 dX3_exchange_11 rfl ?_
  refine rr_aloadn_0 dX3_exchange_12 ?_
  refine rr_dup dX3_exchange_13 rfl ?_
  refine rr_geti dX3_exchange_14 kf_X3_22 ho hk rfl ?_
  refine rr_iloadn_3 dX3_exchange_17 ?_
  refine rr_iloadn_1 dX3_exchange_18 ?_
  refine rr_ishl dX3_exchange_19 ?_
  refine rr_iloadn_3 dX3_exchange_20 ?_
  refine rr_iloadn_2 dX3_exchange_21 ?_
  refine rr_ishl dX3_exchange_22 ?_
  refine rr_ior dX3_exchange_23 ?_
  refine rr_ixor dX3_exchange_24 ?_
  refine rr_puti dX3_exchange_25 kf_X3_22 if_3_1 ho hk rfl ?_
  refine rr_aloadn_0 dX3_exchange_28 ?_
  refine rr_aloadn_0 dX3_exchange_29 ?_
  refine rr_iloadn_1 dX3_exchange_30 ?_
  refine rr_callViD (c_X3_placeOf N _ _ _ _ ho hk) km_X3_60 rfl rfl ho hk (Nat.le_of_ble_eq_true rfl) dX3_exchange_31 ?_
  refine rr_aloadn_0 dX3_exchange_34 ?_
  refine rr_iloadn_2 dX3_exchange_35 ?_
  refine rr_callViD (c_X3_placeOf N _ _ _ _ ho hk) km_X3_60 rfl rfl ho hk (Nat.le_of_ble_eq_true rfl) dX3_exchange_36 ?_
  refine rr_callVvD (c_X3_swapPlaces N _ _ _ _ _ ho hk) km_X3_56 rfl rfl ho hk (Nat.le_of_ble_eq_true rfl) dX3_exchange_39 ?_
  exact rr_vret dX3_exchange_42 ⟨rfl, by apply sd_ext o <;> intros <;> simp [rd_u2, sd_wr, sd_rd, sd_xch, *]⟩
