/-! ===== Search: bestFrom, chanceFrom ===== -/
def sr_mx (a b : Int32) : Int32 := if a < b then b else a
def sr_mn (a b : Int32) : Int32 := if b < a then b else a
def sr_be (w : Bool) (a b : Int32) : Int32 := if w = true then sr_mx a b else sr_mn a b
def sr_gp (D : sd_D) : Int32 := sr_mx (sd_abs D.2.2.1) D.2.2.2.1
/-- a REST, or as it was where that can't be -/
def sr_rest (D : sd_D) (kb : Int32) : sd_D := (sd_st D 3 kb).getD D
def sr_bf (kb : Int32) : Nat → Nat → sd_D → Int32
  | 0, _, D => sr_gp D
  | m + 1, k, D =>
    (fun (b1 : Int32) => match sd_st D (if k % 2 = 0 then 0 else 1) kb with | none => b1 | some E => sr_be (k % 2 == 0) b1 (sr_bf kb m (k + 1) E))
      (match sd_st D 2 kb with | none => sr_bf kb m (k + 1) (sr_rest D kb) | some E => sr_be (k % 2 == 0) (sr_bf kb m (k + 1) (sr_rest D kb)) (sr_bf kb m (k + 1) E))
def sr_ch (G : sd_D → Bool) (kb fg x : Int32) : Nat → Nat → sd_D → Int32
  | 0, _, D => if G D = true then 1 else 0
  | m + 1, k, D => x * sr_ch G kb fg x m (k + 1) (sr_rest D kb) + (10 - x) * sr_ch G kb fg x m (k + 1) ((sd_st D (sd_who fg (nI k)) kb).getD (sr_rest D kb))
theorem nI_mod2 {k : Nat} (h : k < 1000) : nI k - nI k / 2 * 2 = nI (k % 2) := pk_rem (d := 2) (by omega) (by omega) (by omega)
theorem c_goOn_r (N d : Nat) (σ : rd_S) (hN : 33 ≤ N) (k : Nat) (hk : k < 7) : ∃ r, rd_T N (d + 3) yX2_goOn cX2_goOn 3 (some .boolean) [.ref 19, .int (nI k), .int 3] σ (rd_is (some (.int r)) (sd_wr σ (21 + (k + 1)) (sr_rest (sd_rd σ (21 + k)) (σ 19 1)))) := by
  rcases h : sd_st (sd_rd σ (21 + k)) 3 (σ 19 1) with _ | E
  · exact ⟨0, by rw [sr_rest, h]; exact c_goOn_n N d σ hN k hk 3 h⟩
  · exact ⟨1, by rw [sr_rest, h]; exact c_goOn_s N d σ hN k hk 3 h⟩
set_option maxHeartbeats 4000000 in
set_option maxRecDepth 100000 in
theorem c_X2_chanceFrom (N d n : Nat) (hN : 33 ≤ N) (hn : n ≤ 7) (fg x : Int32) : ∀ (m k : Nat) (σ : rd_S), k + m = n → rd_T N (d + m + 4) yX2_chanceFrom cX2_chanceFrom 7 (some .int) [.ref 19, .int (nI k), .int (nI n), .int fg, .int x] σ (fun r s => r = some (.int (sr_ch (sr_G σ) (σ 19 1) fg x m k (sd_rd σ (21 + k)))) ∧ sr_eq k s σ) := by
  intro m
  induction m with
  | zero =>
    intro k σ hk
    obtain rfl : k = n := hk
    refine rd_start RX2 [.ref 19, .int (nI k), .int (nI k), .int fg, .int x, .retAddr 0, .retAddr 0] rfl (by decide +kernel) rfl (Nat.le_of_ble_eq_true rfl) ?_
    refine rr_iloadn_1 dX2_chanceFrom_0 ?_
    refine rr_iloadn_2 dX2_chanceFrom_1 ?_
    refine rr_icmp_ge 11 dX2_chanceFrom_2 (by decide) (fun h2 => ?_) (fun h2 => absurd (nI_le (Nat.le_refl k) (by omega)) h2)
    refine rr_aloadn_0 dX2_chanceFrom_11 ?_
    refine rr_iloadn_1 dX2_chanceFrom_12 ?_
    refine rr_callViD (c_X2_isAtGoal N _ _ hN k (by omega)) km_X2_74 rfl rfl (by omega) rfl (Nat.le_of_ble_eq_true rfl) dX2_chanceFrom_13 ?_
    refine rr_if_eq 23 dX2_chanceFrom_16 (by decide) (fun h16 => ?_) (fun h16 => ?_)
    · refine rr_iconst (v := 0) dX2_chanceFrom_23 (by decide) ?_
      exact rr_iret dX2_chanceFrom_24 ⟨by simp_all [sr_ch], sr_eq.refl _ _⟩
    · refine rr_iconst (v := 1) dX2_chanceFrom_19 (by decide) ?_
      refine rr_goto 24 dX2_chanceFrom_20 (by decide) ?_
      exact rr_iret dX2_chanceFrom_24 ⟨by simp_all [sr_ch], sr_eq.refl _ _⟩
  | succ m ih =>
    intro k σ hk
    refine rd_start RX2 [.ref 19, .int (nI k), .int (nI n), .int fg, .int x, .retAddr 0, .retAddr 0] rfl (by decide +kernel) rfl (Nat.le_of_ble_eq_true rfl) ?_
    have fin : ∀ (s : rd_S) (v : Int32) (D : sd_D), sr_eq k s σ → sd_rd s (21 + (k + 1)) = D → rd_W N (d + (m + 1) + 4) RX2 cX2_chanceFrom 7 (some .int) 65 [.ref 19, .int (nI k), .int (nI n), .int fg, .int x, .int v, .retAddr 0] [] s (fun r u => r = some (.int (x * v + (10 - x) * sr_ch (sr_G σ) (σ 19 1) fg x m (k + 1) D)) ∧ sr_eq k u σ) := by
      intro s v D he hD
      refine rr_aloadn_0 dX2_chanceFrom_65 ?_
      refine rr_iloadn_1 dX2_chanceFrom_66 ?_
      refine rr_iconst (v := 1) dX2_chanceFrom_67 (by decide) ?_
      refine rr_iadd dX2_chanceFrom_68 ?_
      rw [nI_s k]
      refine rr_iloadn_2 dX2_chanceFrom_69 ?_
      refine rr_iloadn_3 dX2_chanceFrom_70 ?_
      refine rr_iload_4 dX2_chanceFrom_71 ?_
      refine rr_callSi (ih (k + 1) _ (by omega)) km_X2_102 rfl rfl (Nat.le_of_ble_eq_true rfl) dX2_chanceFrom_73 (fun r73 s73 q73 => ?_)
      obtain ⟨hr, he2⟩ := q73
      cases hr
      rw [he.G, he.kb 1, hD]
      refine rr_istore_6 dX2_chanceFrom_76 rfl ?_
      refine rr_iload_4 dX2_chanceFrom_78 ?_
      refine rr_iload_5 dX2_chanceFrom_80 ?_
      refine rr_imul dX2_chanceFrom_82 ?_
      refine rr_bipush (v := 10) dX2_chanceFrom_83 (by decide) ?_
      refine rr_iload_4 dX2_chanceFrom_85 ?_
      refine rr_isub dX2_chanceFrom_87 ?_
      refine rr_iload_6 dX2_chanceFrom_88 ?_
      refine rr_imul dX2_chanceFrom_90 ?_
      refine rr_iadd dX2_chanceFrom_91 ?_
      exact rr_iret dX2_chanceFrom_92 ⟨rfl, (he2.up (by omega)).trans he⟩
    refine rr_iloadn_1 dX2_chanceFrom_0 ?_
    refine rr_iloadn_2 dX2_chanceFrom_1 ?_
    refine rr_icmp_ge 11 dX2_chanceFrom_2 (by decide) (fun h2 => absurd ((nI_le8 (by omega) (by omega)).mp h2) (by omega)) (fun h2 => ?_)
    refine rr_iloadn_1 dX2_chanceFrom_5 ?_
    refine rr_bipush (v := 7) dX2_chanceFrom_6 (by decide) ?_
    refine rr_icmp_lt 25 dX2_chanceFrom_8 (by decide) (fun h8 => ?_) (fun h8 => absurd ((nI_lt8 (b := 7) (by omega) (by omega)).mpr (by omega)) h8)
    obtain ⟨r0, hr0⟩ := c_goOn_r N (d + (m + 1)) σ hN k (by omega)
    refine rr_aloadn_0 dX2_chanceFrom_25 ?_
    refine rr_iloadn_1 dX2_chanceFrom_26 ?_
    refine rr_iconst (v := 3) dX2_chanceFrom_27 (by decide) ?_
    refine rr_callViD hr0 km_X2_78 rfl rfl (by omega) rfl (Nat.le_of_ble_eq_true rfl) dX2_chanceFrom_28 ?_
    refine rr_pop dX2_chanceFrom_31 rfl ?_
    refine rr_aloadn_0 dX2_chanceFrom_32 ?_
    refine rr_iloadn_1 dX2_chanceFrom_33 ?_
    refine rr_iconst (v := 1) dX2_chanceFrom_34 (by decide) ?_
    refine rr_iadd dX2_chanceFrom_35 ?_
    rw [nI_s k]
    refine rr_iloadn_2 dX2_chanceFrom_36 ?_
    refine rr_iloadn_3 dX2_chanceFrom_37 ?_
    refine rr_iload_4 dX2_chanceFrom_38 ?_
    refine rr_callSi (ih (k + 1) _ (by omega)) km_X2_102 rfl rfl (Nat.le_of_ble_eq_true rfl) dX2_chanceFrom_40 (fun r40 s40 q40 => ?_)
    obtain ⟨hr, he2⟩ := q40
    cases hr
    have he : sr_eq k s40 σ := (he2.up (by omega)).trans (sr_eq.wr _ _ (by omega))
    rw [(sr_eq.wr σ _ (by omega)).G, (sr_eq.wr σ _ (by omega)).kb 1, sd_rd_wr]
    have e1 : sd_rd s40 (21 + k) = sd_rd σ (21 + k) := he.rd (by omega)
    have e2 : s40 19 1 = σ 19 1 := he.kb 1
    refine rr_istore_5 dX2_chanceFrom_43 rfl ?_
    refine rr_aloadn_0 dX2_chanceFrom_45 ?_
    refine rr_iloadn_1 dX2_chanceFrom_46 ?_
    refine rr_iloadn_3 dX2_chanceFrom_47 ?_
    refine rr_iloadn_1 dX2_chanceFrom_48 ?_
    refine rr_callSiD (c_X4_pairAt N _ _ _ _) km_X2_106 rfl rfl (Nat.le_of_ble_eq_true rfl) dX2_chanceFrom_49 ?_
    rcases hst : sd_st (sd_rd σ (21 + k)) (sd_who fg (nI k)) (σ 19 1) with _ | E
    · obtain ⟨r1, hr1⟩ := c_goOn_r N (d + (m + 1)) (sd_wr s40 (21 + (k + 1)) (sd_rd s40 (21 + k))) hN k (by omega)
      refine rr_callViD (c_goOn_n N _ _ hN k (by omega) _ (by rw [e1, e2]; exact hst)) km_X2_78 rfl rfl (by omega) rfl (Nat.le_of_ble_eq_true rfl) dX2_chanceFrom_52 ?_
      refine rr_if_ne 65 dX2_chanceFrom_55 (by decide) (fun h55 => absurd h55 (by decide)) (fun _ => ?_)
      refine rr_aloadn_0 dX2_chanceFrom_58 ?_
      refine rr_iloadn_1 dX2_chanceFrom_59 ?_
      refine rr_iconst (v := 3) dX2_chanceFrom_60 (by decide) ?_
      refine rr_callViD hr1 km_X2_78 rfl rfl (by omega) rfl (Nat.le_of_ble_eq_true rfl) dX2_chanceFrom_61 ?_
      refine rr_pop dX2_chanceFrom_64 rfl ?_
      refine (fin _ _ _ (by rw [sd_wr_wr]; exact (sr_eq.wr _ _ (by omega)).trans he) (sd_rd_wr _ _ _)).post (fun r u q => ⟨?_, q.2⟩)
      rw [q.1, (sr_eq.wr s40 _ (show k < 7 by omega)).kb 1]
      simp [sr_ch, hst, sd_rd_ne, e1, e2]
    · refine rr_callViD (c_goOn_s N _ _ hN k (by omega) _ (D := E) (by rw [e1, e2]; exact hst)) km_X2_78 rfl rfl (by omega) rfl (Nat.le_of_ble_eq_true rfl) dX2_chanceFrom_52 ?_
      refine rr_if_ne 65 dX2_chanceFrom_55 (by decide) (fun _ => ?_) (fun h55 => absurd h55 (by decide))
      refine (fin _ _ _ ((sr_eq.wr _ _ (by omega)).trans he) (sd_rd_wr _ _ _)).post (fun r u q => ⟨?_, q.2⟩)
      rw [q.1]
      simp [sr_ch, hst]
set_option maxHeartbeats 4000000 in
set_option maxRecDepth 100000 in
theorem c_X2_bestFrom (N d n : Nat) (hN : 33 ≤ N) (hn : n ≤ 7) : ∀ (m k : Nat) (σ : rd_S), k + m = n → rd_T N (d + m + 4) yX2_bestFrom cX2_bestFrom 5 (some .int) [.ref 19, .int (nI k), .int (nI n)] σ (fun r s => r = some (.int (sr_bf (σ 19 1) m k (sd_rd σ (21 + k)))) ∧ sr_eq k s σ) := by
  intro m
  induction m with
  | zero =>
    intro k σ hk
    obtain rfl : k = n := hk
    refine rd_start RX2 [.ref 19, .int (nI k), .int (nI k), .retAddr 0, .retAddr 0] rfl (by decide +kernel) rfl (Nat.le_of_ble_eq_true rfl) ?_
    refine rr_iloadn_1 dX2_bestFrom_0 ?_
    refine rr_iloadn_2 dX2_bestFrom_1 ?_
    refine rr_icmp_ge 11 dX2_bestFrom_2 (by decide) (fun h2 => ?_) (fun h2 => absurd (nI_le (Nat.le_refl k) (by omega)) h2)
    refine rr_aloadn_0 dX2_bestFrom_11 ?_
    refine rr_iloadn_1 dX2_bestFrom_12 ?_
    refine rr_callViD (c_X2_greaterPart N _ _ hN k (by omega)) km_X2_89 rfl rfl (by omega) rfl (Nat.le_of_ble_eq_true rfl) dX2_bestFrom_13 ?_
    exact rr_iret dX2_bestFrom_16 ⟨rfl, sr_eq.refl _ _⟩
  | succ m ih =>
    intro k σ hk
    refine rd_start RX2 [.ref 19, .int (nI k), .int (nI n), .retAddr 0, .retAddr 0] rfl (by decide +kernel) rfl (Nat.le_of_ble_eq_true rfl) ?_
    obtain ⟨w, hw⟩ : ∃ w : Int32, w = if nI k - nI k / 2 * 2 = 0 then 1 else 0 := ⟨_, rfl⟩
    have hw0 : w = if k % 2 = 0 then 1 else 0 := by
      rw [hw, nI_mod2 (by omega)]
      rcases Nat.mod_two_eq_zero_or_one k with h | h <;> simp [h] <;> decide
    have hbe : ∀ a b : Int32, (if w = 0 then (if b < a then b else a) else (if a < b then b else a)) = sr_be (k % 2 == 0) a b := by
      intro a b
      rw [hw0]
      rcases Nat.mod_two_eq_zero_or_one k with h | h <;> simp [h, sr_be, sr_mx, sr_mn]
    have hf : (if w = 0 then (1 : Int32) else 0) = if k % 2 = 0 then 0 else 1 := by
      rw [hw0]
      rcases Nat.mod_two_eq_zero_or_one k with h | h <;> simp [h]
    have last : ∀ (s : rd_S) (v : Int32), sr_eq k s σ → rd_W N (d + (m + 1) + 4) RX2 cX2_bestFrom 5 (some .int) 71 [.ref 19, .int (nI k), .int (nI n), .int w, .int v] [] s (fun r u => r = some (.int (match sd_st (sd_rd σ (21 + k)) (if k % 2 = 0 then 0 else 1) (σ 19 1) with | none => v | some E => sr_be (k % 2 == 0) v (sr_bf (σ 19 1) m (k + 1) E))) ∧ sr_eq k u σ) := by
      intro s v he
      have e1 : sd_rd s (21 + k) = sd_rd σ (21 + k) := he.rd (by omega)
      have e2 : s 19 1 = σ 19 1 := he.kb 1
      refine rr_aloadn_0 dX2_bestFrom_71 ?_
      refine rr_iloadn_1 dX2_bestFrom_72 ?_
      refine rr_iloadn_3 dX2_bestFrom_73 ?_
      refine rr_if_eqJ 81 82 (1) (0) dX2_bestFrom_74 (by decide) (fun h74 k74 => ?_) (fun h74 k74 => ?_) ?_
      · refine rr_iconst (v := 1) dX2_bestFrom_81 (by decide) ?_
        exact k74
      · refine rr_iconst (v := 0) dX2_bestFrom_77 (by decide) ?_
        refine rr_goto 82 dX2_bestFrom_78 (by decide) ?_
        exact k74
      rw [hf]
      rcases hst : sd_st (sd_rd σ (21 + k)) (if k % 2 = 0 then 0 else 1) (σ 19 1) with _ | E
      · refine rr_callViD (c_goOn_n N _ _ hN k (by omega) _ (by rw [e1, e2]; exact hst)) km_X2_78 rfl rfl (by omega) rfl (Nat.le_of_ble_eq_true rfl) dX2_bestFrom_82 ?_
        refine rr_if_eq 104 dX2_bestFrom_85 (by decide) (fun _ => ?_) (fun h85 => absurd h85 (by decide))
        refine rr_iload_4 dX2_bestFrom_104 ?_
        exact rr_iret dX2_bestFrom_106 ⟨rfl, (sr_eq.wr _ _ (by omega)).trans he⟩
      · refine rr_callViD (c_goOn_s N _ _ hN k (by omega) _ (D := E) (by rw [e1, e2]; exact hst)) km_X2_78 rfl rfl (by omega) rfl (Nat.le_of_ble_eq_true rfl) dX2_bestFrom_82 ?_
        refine rr_if_eq 104 dX2_bestFrom_85 (by decide) (fun h85 => absurd h85 (by decide)) (fun _ => ?_)
        refine rr_iloadn_3 dX2_bestFrom_88 ?_
        refine rr_iload_4 dX2_bestFrom_89 ?_
        refine rr_aloadn_0 dX2_bestFrom_91 ?_
        refine rr_iloadn_1 dX2_bestFrom_92 ?_
        refine rr_iconst (v := 1) dX2_bestFrom_93 (by decide) ?_
        refine rr_iadd dX2_bestFrom_94 ?_
        rw [nI_s k]
        refine rr_iloadn_2 dX2_bestFrom_95 ?_
        refine rr_callSi (ih (k + 1) _ (by omega)) km_X2_92 rfl rfl (Nat.le_of_ble_eq_true rfl) dX2_bestFrom_96 (fun r96 s96 q96 => ?_)
        obtain ⟨hr, he2⟩ := q96
        cases hr
        refine rr_callSiD (c_X2_better N _ _ _ _ _) km_X2_95 rfl rfl (Nat.le_of_ble_eq_true rfl) dX2_bestFrom_99 ?_
        rw [hbe, (sr_eq.wr s _ (by omega)).kb 1, sd_rd_wr, e2]
        refine rr_istore_4 dX2_bestFrom_102 rfl ?_
        refine rr_iload_4 dX2_bestFrom_104 ?_
        exact rr_iret dX2_bestFrom_106 ⟨rfl, ((he2.up (by omega)).trans (sr_eq.wr _ _ (by omega))).trans he⟩
    refine rr_iloadn_1 dX2_bestFrom_0 ?_
    refine rr_iloadn_2 dX2_bestFrom_1 ?_
    refine rr_icmp_ge 11 dX2_bestFrom_2 (by decide) (fun h2 => absurd ((nI_le8 (by omega) (by omega)).mp h2) (by omega)) (fun h2 => ?_)
    refine rr_iloadn_1 dX2_bestFrom_5 ?_
    refine rr_bipush (v := 7) dX2_bestFrom_6 (by decide) ?_
    refine rr_icmp_lt 17 dX2_bestFrom_8 (by decide) (fun h8 => ?_) (fun h8 => absurd ((nI_lt8 (b := 7) (by omega) (by omega)).mpr (by omega)) h8)
    refine rr_iloadn_1 dX2_bestFrom_17 ?_
    refine rr_iconst (v := 2) dX2_bestFrom_18 (by decide) ?_
    refine rr_irem dX2_bestFrom_19 (by decide) ?_
    refine rr_if_neJ 27 28 (0) (1) dX2_bestFrom_20 (by decide) (fun h20 k20 => ?_) (fun h20 k20 => ?_) ?_
    · refine rr_iconst (v := 0) dX2_bestFrom_27 (by decide) ?_
      exact k20
    · refine rr_iconst (v := 1) dX2_bestFrom_23 (by decide) ?_
      refine rr_goto 28 dX2_bestFrom_24 (by decide) ?_
      exact k20
    rw [← hw]
    refine rr_istoren_3 dX2_bestFrom_28 rfl ?_
    obtain ⟨r0, hr0⟩ := c_goOn_r N (d + (m + 1)) σ hN k (by omega)
    refine rr_aloadn_0 dX2_bestFrom_29 ?_
    refine rr_iloadn_1 dX2_bestFrom_30 ?_
    refine rr_iconst (v := 3) dX2_bestFrom_31 (by decide) ?_
    refine rr_callViD hr0 km_X2_78 rfl rfl (by omega) rfl (Nat.le_of_ble_eq_true rfl) dX2_bestFrom_32 ?_
    refine rr_pop dX2_bestFrom_35 rfl ?_
    refine rr_aloadn_0 dX2_bestFrom_36 ?_
    refine rr_iloadn_1 dX2_bestFrom_37 ?_
    refine rr_iconst (v := 1) dX2_bestFrom_38 (by decide) ?_
    refine rr_iadd dX2_bestFrom_39 ?_
    rw [nI_s k]
    refine rr_iloadn_2 dX2_bestFrom_40 ?_
    refine rr_callSi (ih (k + 1) _ (by omega)) km_X2_92 rfl rfl (Nat.le_of_ble_eq_true rfl) dX2_bestFrom_41 (fun r41 s41 q41 => ?_)
    obtain ⟨hr, he2⟩ := q41
    cases hr
    have he : sr_eq k s41 σ := (he2.up (by omega)).trans (sr_eq.wr _ _ (by omega))
    rw [(sr_eq.wr σ _ (by omega)).kb 1, sd_rd_wr]
    have e1 : sd_rd s41 (21 + k) = sd_rd σ (21 + k) := he.rd (by omega)
    have e2 : s41 19 1 = σ 19 1 := he.kb 1
    refine rr_istore_4 dX2_bestFrom_44 rfl ?_
    refine rr_aloadn_0 dX2_bestFrom_46 ?_
    refine rr_iloadn_1 dX2_bestFrom_47 ?_
    refine rr_iconst (v := 2) dX2_bestFrom_48 (by decide) ?_
    rcases hst : sd_st (sd_rd σ (21 + k)) 2 (σ 19 1) with _ | E
    · refine rr_callViD (c_goOn_n N _ _ hN k (by omega) _ (by rw [e1, e2]; exact hst)) km_X2_78 rfl rfl (by omega) rfl (Nat.le_of_ble_eq_true rfl) dX2_bestFrom_49 ?_
      refine rr_if_eq 71 dX2_bestFrom_52 (by decide) (fun _ => ?_) (fun h52 => absurd h52 (by decide))
      refine (last _ _ ((sr_eq.wr _ _ (by omega)).trans he)).post (fun r u q => ⟨?_, q.2⟩)
      rw [q.1]
      simp [sr_bf, hst]
    · refine rr_callViD (c_goOn_s N _ _ hN k (by omega) _ (D := E) (by rw [e1, e2]; exact hst)) km_X2_78 rfl rfl (by omega) rfl (Nat.le_of_ble_eq_true rfl) dX2_bestFrom_49 ?_
      refine rr_if_eq 71 dX2_bestFrom_52 (by decide) (fun h52 => absurd h52 (by decide)) (fun _ => ?_)
      refine rr_iloadn_3 dX2_bestFrom_55 ?_
      refine rr_iload_4 dX2_bestFrom_56 ?_
      refine rr_aloadn_0 dX2_bestFrom_58 ?_
      refine rr_iloadn_1 dX2_bestFrom_59 ?_
      refine rr_iconst (v := 1) dX2_bestFrom_60 (by decide) ?_
      refine rr_iadd dX2_bestFrom_61 ?_
      rw [nI_s k]
      refine rr_iloadn_2 dX2_bestFrom_62 ?_
      refine rr_callSi (ih (k + 1) _ (by omega)) km_X2_92 rfl rfl (Nat.le_of_ble_eq_true rfl) dX2_bestFrom_63 (fun r63 s63 q63 => ?_)
      obtain ⟨hr, he3⟩ := q63
      cases hr
      refine rr_callSiD (c_X2_better N _ _ _ _ _) km_X2_95 rfl rfl (Nat.le_of_ble_eq_true rfl) dX2_bestFrom_66 ?_
      rw [hbe, (sr_eq.wr s41 _ (by omega)).kb 1, sd_rd_wr, e2]
      refine rr_istore_4 dX2_bestFrom_69 rfl ?_
      refine (last _ _ (((he3.up (by omega)).trans (sr_eq.wr _ _ (by omega))).trans he)).post (fun r u q => ⟨?_, q.2⟩)
      rw [q.1]
      simp [sr_bf, hst]
