/-! ===== the reference: deeds, kept ===== -/
/-- a store with another stand -/
def mr (σ : rd_S) (D : sd_D) : rd_S := fun a b => if a = 37 ∧ b < 12 then md_of D b else σ a b
theorem mr_st {σ : rd_S} {D : sd_D} {k : Nat} (h : k < 12) : mr σ D 37 k = md_of D k := by simp [mr, h]
theorem mr_off {σ : rd_S} {D : sd_D} {a b : Nat} (h : ¬ (a = 37 ∧ b < 12)) : mr σ D a b = σ a b := if_neg h
theorem mr_ext {f σ : rd_S} {D : sd_D} (h : ∀ a b, ¬ (a = 37 ∧ b < 12) → f a b = σ a b) (h1 : ∀ k, k < 12 → f 37 k = md_of D k) : f = mr σ D := by
  funext a b
  by_cases q : a = 37 ∧ b < 12
  · obtain ⟨rfl, q⟩ := q; rw [mr_st q]; exact h1 b q
  · rw [mr_off q]; exact h a b q
theorem mr_id {σ : rd_S} {D : sd_D} (h : md_at σ D) : σ = mr σ D := mr_ext (fun _ _ _ => rfl) h
theorem mr_mr (σ : rd_S) (D E : sd_D) : mr (mr σ D) E = mr σ E := mr_ext (fun a b h => by rw [mr_off h, mr_off h]) (fun k hk => mr_st hk)
theorem ms_mr (σ : rd_S) (D A E : sd_D) (n : Int32) : mr (ms σ D A n) E = ms σ E A n := by
  symm
  refine mr_ext (fun a b h => ?_) (fun k hk => ms_st hk)
  simp only [ms]; rw [if_neg h, if_neg h]
theorem md_mr (σ : rd_S) (D : sd_D) : md_at (mr σ D) D := fun k hk => mr_st hk
theorem mr_chg {σ : rd_S} {D : sd_D} {x p q : Nat} (hx : x < 256) (hD : D.1 = nI x) (hp : p < 4) (hq : q < 4) : rd_u2 (rd_u2 (mr σ D) 37 p (mr σ D 37 q)) 37 q (mr σ D 37 p) = mr σ (sd_swap D.1 (nI p) (nI q), D.2) := by
  have hs := sw_ok x hx p hp q hq
  have hw := sw_wh x hx p hp q hq
  rw [mr_st (show q < 12 by omega), mr_st (show p < 12 by omega), md_4 hp, md_4 hq]
  refine mr_ext (fun a b h1 => ?_) (fun j hj => ?_)
  · rw [u2_off (by omega), u2_off (by omega)]; exact mr_off h1
  · by_cases hj4 : j < 4
    · rw [md_4 hj4]
      show _ = sd_who (sd_swap D.1 (nI p) (nI q)) (nI j)
      rw [hD, hs.1, wh_ok _ hs.2.1 j hj4, hw j hj4, wh_ok x hx p hp, wh_ok x hx q hq]
      by_cases h1 : j = q
      · subst h1; rw [u2_at, if_pos rfl]
      · rw [u2_off (fun z => h1 z.2), if_neg h1]
        by_cases h2 : j = p
        · subst h2; rw [u2_at, if_pos rfl]
        · rw [u2_off (fun z => h2 z.2), if_neg h2, mr_st hj, md_4 hj4, hD, wh_ok x hx j hj4]
    · rw [u2_off (by omega), u2_off (by omega), mr_st hj]
      unfold md_of
      rw [if_neg hj4, if_neg hj4]
theorem mr_rop {σ : rd_S} {D : sd_D} {r i j : Nat} (hr : r < 16) (hD : D.2.1 = nI r) (hi : i < 4) (hj : j < 4) (hij : i ≠ j) : rd_u2 (rd_u2 (mr σ D) 37 (4 + i) (mr σ D 37 (4 + j))) 37 (4 + j) (mr σ D 37 (4 + i)) = mr σ (D.1, nI (rx r i j), D.2.2) := by
  have hw : ∀ k, k < 4 → rp (rx r i j) k = if k = i then rp r j else if k = j then rp r i else rp r k := fun k hk => (rx_rp r hr i hi j hj k hk).resolve_left hij
  have hs := rx_ok r hr i hi j hj
  rw [mr_st (show 4 + j < 12 by omega), mr_st (show 4 + i < 12 by omega), md_8 hi, md_8 hj]
  refine mr_ext (fun a b h1 => ?_) (fun k hk => ?_)
  · rw [u2_off (by omega), u2_off (by omega)]; exact mr_off h1
  · by_cases hk4 : 4 ≤ k ∧ k < 8
    · obtain ⟨q, rfl⟩ : ∃ q, k = 4 + q := ⟨k - 4, by omega⟩
      have hq : q < 4 := by omega
      rw [md_8 hq]
      show _ = sd_rope (nI (rx r i j)) (nI q)
      rw [rp_ok _ hs.2 q hq, hw q hq, hD, rp_ok r hr i hi, rp_ok r hr j hj]
      by_cases h1 : q = j
      · subst h1; rw [u2_at, if_neg (Ne.symm hij), if_pos rfl]
      · rw [u2_off (by omega)]
        by_cases h2 : q = i
        · subst h2; rw [u2_at, if_pos rfl]
        · rw [u2_off (by omega), if_neg h2, if_neg h1, mr_st hk, md_8 hq, hD, rp_ok r hr q hq]
    · rw [u2_off (by omega), u2_off (by omega), mr_st hk]
      unfold md_of
      by_cases h4 : k < 4
      · rw [if_pos h4, if_pos h4]
      · have h8 : ¬ k < 8 := by omega
        rw [if_neg h4, if_neg h4, if_neg h8, if_neg h8]
set_option maxHeartbeats 4000000 in
set_option maxRecDepth 100000 in
theorem c_putThem_r (N d : Nat) (σ : rd_S) (hN : 49 ≤ N) (c : Nat) (D : sd_D) (hw : wf c D) (i j : Nat) (hi : i < 4) (hj : j < 4) (hij : i ≠ j) : rd_T N (d + 1) yX5_putThem cX5_putThem 4 none [.ref 33, .int (nI i), .int (nI j)] (mr σ D) (rd_is none (mr σ (sd_xch D (nI i) (nI j)))) := by
  refine rd_start RX5 [.ref 33, .int (nI i), .int (nI j), .retAddr 0] rfl (by decide +kernel) rfl (Nat.le_of_ble_eq_true rfl) ?_
  obtain ⟨x, r, b, h1, h2, h3, h4, h5, h6, h7, h8, h9⟩ := hw
  have hp := (pl_okk x h1 h2 i hi).1
  have hq := (pl_okk x h1 h2 j hj).1
  obtain ⟨r1, r2⟩ := rx_ok r h3 i hi j hj
  refine rr_aloadn_0 dX5_putThem_0 ?_
  refine rr_getr 37 dX5_putThem_1 kf_X5_19 (by omega) rfl rfl rfl ?_
  refine rr_iconst (v := 4) dX5_putThem_4 (by decide) ?_
  refine rr_iloadn_1 dX5_putThem_5 ?_
  refine rr_iadd dX5_putThem_6 ?_
  rw [show (4 : Int32) + nI i = nI (4 + i) from nI_add 4 i]
  refine rr_iald ((4 + i)) dX5_putThem_7 (by omega) rfl rfl (show 4 + i < 12 by omega) ?_
  refine rr_istoren_3 dX5_putThem_8 rfl ?_
  refine rr_aloadn_0 dX5_putThem_9 ?_
  refine rr_getr 37 dX5_putThem_10 kf_X5_19 (by omega) rfl rfl rfl ?_
  refine rr_iconst (v := 4) dX5_putThem_13 (by decide) ?_
  refine rr_iloadn_1 dX5_putThem_14 ?_
  refine rr_iadd dX5_putThem_15 ?_
  rw [show (4 : Int32) + nI i = nI (4 + i) from nI_add 4 i]
  refine rr_aloadn_0 dX5_putThem_16 ?_
  refine rr_getr 37 dX5_putThem_17 kf_X5_19 (by omega) rfl rfl rfl ?_
  refine rr_iconst (v := 4) dX5_putThem_20 (by decide) ?_
  refine rr_iloadn_2 dX5_putThem_21 ?_
  refine rr_iadd dX5_putThem_22 ?_
  rw [show (4 : Int32) + nI j = nI (4 + j) from nI_add 4 j]
  refine rr_iald ((4 + j)) dX5_putThem_23 (by omega) rfl rfl (show 4 + j < 12 by omega) ?_
  refine rr_iast ((4 + i)) dX5_putThem_24 (by omega) rfl rfl (show 4 + i < 12 by omega) ?_
  refine rr_aloadn_0 dX5_putThem_25 ?_
  refine rr_getr 37 dX5_putThem_26 kf_X5_19 (by omega) rfl rfl rfl ?_
  refine rr_iconst (v := 4) dX5_putThem_29 (by decide) ?_
  refine rr_iloadn_2 dX5_putThem_30 ?_
  refine rr_iadd dX5_putThem_31 ?_
  rw [show (4 : Int32) + nI j = nI (4 + j) from nI_add 4 j]
  refine rr_iloadn_3 dX5_putThem_32 ?_
  refine rr_iast ((4 + j)) dX5_putThem_33 (by omega) rfl rfl (show 4 + j < 12 by omega) ?_
  rw [mr_rop h3 h6 hi hj hij]
  refine rr_aloadn_0 dX5_putThem_34 ?_
  refine rr_aloadn_0 dX5_putThem_35 ?_
  refine rr_iloadn_1 dX5_putThem_36 ?_
  refine rr_callViD (c_plr N _ _ hN (D.1, nI (rx r i j), D.2.2) (md_mr _ _) (x := x) h1 h2 h5 hi) km_X5_111 rfl rfl (by omega) rfl (Nat.le_of_ble_eq_true rfl) dX5_putThem_37 ?_
  refine rr_aloadn_0 dX5_putThem_40 ?_
  refine rr_iloadn_2 dX5_putThem_41 ?_
  refine rr_callViD (c_plr N _ _ hN (D.1, nI (rx r i j), D.2.2) (md_mr _ _) (x := x) h1 h2 h5 hj) km_X5_111 rfl rfl (by omega) rfl (Nat.le_of_ble_eq_true rfl) dX5_putThem_42 ?_
  refine rr_callVvD (c_X5_changePlaces N _ _ hN (pl x i) (pl x j) (Nat.lt_of_lt_of_le (pl_lt x i) (by decide)) (Nat.lt_of_lt_of_le (pl_lt x j) (by decide))) km_X5_130 rfl rfl (by omega) rfl (Nat.le_of_ble_eq_true rfl) dX5_putThem_45 ?_
  exact rr_vret dX5_putThem_48 ⟨rfl, by rw [mr_chg (D := (D.1, nI (rx r i j), D.2.2)) (x := x) h1 h5 (pl_lt x i) (pl_lt x j)]; simp only [sd_xch]; rw [← hp, ← hq, ← r1, h5, h6]⟩
set_option maxHeartbeats 4000000 in
set_option maxRecDepth 100000 in
theorem lp_note2 (N d : Nat) (hN : 49 ≤ N) (σ : rd_S) (um : Nat) (hu : σ 33 6 = nI um) (hum : um ≤ 7) : ∀ (m k : Nat), k + m = 12 → rd_W N d RX5 cX5_note 2 none 50 [.ref 33, .int (nI k)] [] (cpy σ 38 (σ 37) (12 * um) k) (rd_is none (rd_u2 (cpy σ 38 (σ 37) (12 * um) 12) 33 6 (nI (um + 1)))) := by
  intro m
  induction m with
  | zero =>
    intro k hk
    obtain rfl : k = 12 := hk
    have g6 : cpy σ 38 (σ 37) (12 * um) 12 33 6 = nI um := by rw [cpy_ne (by decide)]; exact hu
    refine rr_iloadn_1 dX5_note_50 ?_
    refine rr_bipush (v := 12) dX5_note_51 (by decide) ?_
    refine rr_icmp_ge 82 dX5_note_53 (by decide) (fun h53 => ?_) (fun h53 => absurd (by decide) h53)
    refine rr_aloadn_0 dX5_note_82 ?_
    refine rr_dup dX5_note_83 rfl ?_
    refine rr_geti dX5_note_84 kf_X5_68 (by omega) rfl rfl ?_
    refine rr_iconst (v := 1) dX5_note_87 (by decide) ?_
    refine rr_iadd dX5_note_88 ?_
    rw [g6, nI_s]
    refine rr_puti dX5_note_89 kf_X5_68 if_5_6 (by omega) rfl rfl ?_
    exact rr_vret dX5_note_92 ⟨rfl, rfl⟩
  | succ m ih =>
    intro k hk
    have g6 : cpy σ 38 (σ 37) (12 * um) k 33 6 = nI um := by rw [cpy_ne (by decide)]; exact hu
    refine rr_iloadn_1 dX5_note_50 ?_
    refine rr_bipush (v := 12) dX5_note_51 (by decide) ?_
    refine rr_icmp_ge 82 dX5_note_53 (by decide) (fun h53 => absurd ((nI_le8 (a := 12) (b := k) (by omega) (by omega)).mp h53) (by omega)) (fun h53 => ?_)
    refine rr_aloadn_0 dX5_note_56 ?_
    refine rr_getr 38 dX5_note_57 kf_X5_22 (by omega) rfl rfl rfl ?_
    refine rr_bipush (v := 12) dX5_note_60 (by decide) ?_
    refine rr_aloadn_0 dX5_note_62 ?_
    refine rr_geti dX5_note_63 kf_X5_68 (by omega) rfl rfl ?_
    rw [g6]
    refine rr_imul dX5_note_66 ?_
    refine rr_iloadn_1 dX5_note_67 ?_
    refine rr_iadd dX5_note_68 ?_
    rw [show (12 : Int32) * nI um = nI (12 * um) from pk_mul 12 um, nI_add]
    refine rr_aloadn_0 dX5_note_69 ?_
    refine rr_getr 37 dX5_note_70 kf_X5_19 (by omega) rfl rfl rfl ?_
    refine rr_iloadn_1 dX5_note_73 ?_
    refine rr_iald (k) dX5_note_74 (by omega) rfl rfl (show k < 12 by omega) ?_
    rw [cpy_ne (by decide)]
    refine rr_iast ((12 * um + k)) dX5_note_75 (by omega) rfl rfl (show 12 * um + k < 96 by omega) ?_
    refine rr_iinc_1 1 dX5_note_76 (by decide) rfl ?_
    refine rr_goto 50 dX5_note_79 (by decide) ?_
    rw [nI_s k, cpy_s]
    exact ih (k + 1) (by omega)
set_option maxHeartbeats 4000000 in
set_option maxRecDepth 100000 in
theorem lp_note1 (N d : Nat) (hN : 49 ≤ N) (σ : rd_S) (Q : Option Value → rd_S → Prop) (K : ∀ v, rd_W N d RX5 cX5_note 2 none 38 [.ref 33, v] [] (cpy σ 38 (fun k => σ 38 (k + 12)) 0 84) Q) : ∀ (m k : Nat), k + m = 84 → rd_W N d RX5 cX5_note 2 none 11 [.ref 33, .int (nI k)] [] (cpy σ 38 (fun k => σ 38 (k + 12)) 0 k) Q := by
  intro m
  induction m with
  | zero =>
    intro k hk
    obtain rfl : k = 84 := hk
    refine rr_iloadn_1 dX5_note_11 ?_
    refine rr_bipush (v := 84) dX5_note_12 (by decide) ?_
    refine rr_icmp_ge 38 dX5_note_14 (by decide) (fun h14 => ?_) (fun h14 => absurd (by decide) h14)
    exact K _
  | succ m ih =>
    intro k hk
    have g : cpy σ 38 (fun k => σ 38 (k + 12)) 0 k 38 (k + 12) = σ 38 (k + 12) := cpy_out (by omega)
    refine rr_iloadn_1 dX5_note_11 ?_
    refine rr_bipush (v := 84) dX5_note_12 (by decide) ?_
    refine rr_icmp_ge 38 dX5_note_14 (by decide) (fun h14 => absurd ((nI_le8 (a := 84) (b := k) (by omega) (by omega)).mp h14) (by omega)) (fun h14 => ?_)
    refine rr_aloadn_0 dX5_note_17 ?_
    refine rr_getr 38 dX5_note_18 kf_X5_22 (by omega) rfl rfl rfl ?_
    refine rr_iloadn_1 dX5_note_21 ?_
    refine rr_aloadn_0 dX5_note_22 ?_
    refine rr_getr 38 dX5_note_23 kf_X5_22 (by omega) rfl rfl rfl ?_
    refine rr_iloadn_1 dX5_note_26 ?_
    refine rr_bipush (v := 12) dX5_note_27 (by decide) ?_
    refine rr_iadd dX5_note_29 ?_
    rw [show nI k + 12 = nI (k + 12) from nI_add k 12]
    refine rr_iald ((k + 12)) dX5_note_30 (by omega) rfl rfl (show k + 12 < 96 by omega) ?_
    rw [g]
    refine rr_iast (k) dX5_note_31 (by omega) rfl rfl (show k < 96 by omega) ?_
    refine rr_iinc_1 1 dX5_note_32 (by decide) rfl ?_
    refine rr_goto 11 dX5_note_35 (by decide) ?_
    rw [nI_s k]
    have e9 := cpy_s σ 38 (fun k => σ 38 (k + 12)) 0 k
    rw [Nat.zero_add] at e9
    rw [e9]
    exact ih (k + 1) (by omega)
def nt (σ : rd_S) (um : Nat) (f : Nat → Int32) : rd_S := if um < 8 then rd_u2 (cpy σ 38 f (12 * um) 12) 33 6 (nI (um + 1)) else rd_u2 (cpy (cpy σ 38 (fun k => σ 38 (k + 12)) 0 84) 38 f 84 12) 33 6 (nI 8)
set_option maxHeartbeats 4000000 in
set_option maxRecDepth 100000 in
theorem c_note (N d : Nat) (σ : rd_S) (hN : 49 ≤ N) (um : Nat) (hu : σ 33 6 = nI um) (hum : um ≤ 8) : rd_T N (d + 0) yX5_note cX5_note 2 none [.ref 33] σ (rd_is none (nt σ um (σ 37))) := by
  refine rd_start RX5 [.ref 33, .retAddr 0] rfl (by decide +kernel) rfl (Nat.le_of_ble_eq_true rfl) ?_
  refine rr_aloadn_0 dX5_note_0 ?_
  refine rr_geti dX5_note_1 kf_X5_68 (by omega) rfl rfl ?_
  refine rr_bipush (v := 8) dX5_note_4 (by decide) ?_
  rw [hu]
  by_cases h8 : um = 8
  · subst h8
    refine rr_icmp_ne 48 dX5_note_6 (by decide) (fun h6 => absurd rfl h6) (fun h6 => ?_)
    refine rr_iconst (v := 0) dX5_note_9 (by decide) ?_
    refine rr_istoren_1 dX5_note_10 rfl ?_
    have e0 := cpy_0 σ 38 (fun k => σ 38 (k + 12)) 0
    refine rd_sub e0.symm (lp_note1 N d hN σ _ (fun v => ?_) 84 0 rfl)
    have g6 : cpy σ 38 (fun k => σ 38 (k + 12)) 0 84 33 6 = nI 8 := by rw [cpy_ne (by decide)]; exact hu
    refine rr_aloadn_0 dX5_note_38 ?_
    refine rr_dup dX5_note_39 rfl ?_
    refine rr_geti dX5_note_40 kf_X5_68 (by omega) rfl rfl ?_
    rw [g6]
    refine rr_iconst (v := 1) dX5_note_43 (by decide) ?_
    refine rr_isub dX5_note_44 ?_
    rw [show nI 8 - 1 = nI 7 from nI_pred 7]
    refine rr_puti dX5_note_45 kf_X5_68 if_5_6 (by omega) rfl rfl ?_
    refine rr_iconst (v := 0) dX5_note_48 (by decide) ?_
    refine rr_istoren_1 dX5_note_49 rfl ?_
    have := lp_note2 N d hN (rd_u2 (cpy σ 38 (fun k => σ 38 (k + 12)) 0 84) 33 6 (nI 7)) 7 (u2_at _ _ _ _) (by decide) 12 0 rfl
    rw [cpy_0] at this
    refine this.post (fun r s q => ⟨q.1, q.2.trans ?_⟩)
    rw [nt, if_neg (by decide)]
    funext a b
    by_cases ha : a = 33 ∧ b = 6
    · obtain ⟨rfl, rfl⟩ := ha; rw [u2_at, u2_at]
    · rw [u2_off ha, u2_off ha]
      by_cases hb : a = 38 ∧ 84 ≤ b ∧ b < 84 + 12
      · obtain ⟨rfl, hb⟩ := hb
        obtain ⟨k, rfl⟩ : ∃ k, b = 84 + k := ⟨b - 84, by omega⟩
        rw [show 12 * 7 = 84 from rfl, cpy_in (by omega), cpy_in (by omega), u2_off (by omega), cpy_ne (by decide)]
      · by_cases h38 : a = 38
        · subst h38; rw [show 12 * 7 = 84 from rfl, cpy_out (by omega), cpy_out (by omega), u2_off (by omega)]
        · rw [cpy_ne h38, cpy_ne h38, u2_off ha]
  · refine rr_icmp_ne 48 dX5_note_6 (by decide) (fun h6 => ?_) (fun h6 => absurd ((nI_eq8 (a := um) (b := 8) (by omega) (by omega)).mp h6) h8)
    refine rr_iconst (v := 0) dX5_note_48 (by decide) ?_
    refine rr_istoren_1 dX5_note_49 rfl ?_
    have := lp_note2 N d hN σ um hu (by omega) 12 0 rfl
    rw [cpy_0] at this
    rw [nt, if_pos (by omega)]
    exact this
theorem cpy_cong {τ : rd_S} {d : Nat} {f g : Nat → Int32} {o k : Nat} (h : ∀ j, j < k → f j = g j) : cpy τ d f o k = cpy τ d g o k := by
  funext a b
  simp only [cpy]
  split
  · exact h _ (by omega)
  · rfl
theorem cpy_ms {σ : rd_S} {D A : sd_D} {n : Int32} {f : Nat → Int32} {o k : Nat} : cpy (ms σ D A n) 38 f o k = ms (cpy σ 38 f o k) D A n := by
  funext a b
  simp only [cpy, ms]
  by_cases ha : a = 38
  · subst ha; simp
  · simp [ha]
theorem nt_ms {σ : rd_S} {D A : sd_D} {n : Int32} {um : Nat} : nt (ms σ D A n) um (ms σ D A n 37) = ms (nt σ um (md_of D)) D A n := by
  have h : ∀ (τ : rd_S) (o : Nat), cpy τ 38 (ms σ D A n 37) o 12 = cpy τ 38 (md_of D) o 12 := fun τ o => cpy_cong (fun j hj => ms_st hj)
  have h2 : (fun k => ms σ D A n 38 (k + 12)) = (fun k => σ 38 (k + 12)) := by funext k; exact ms_ne (by decide) (by decide) (by omega)
  unfold nt
  split
  · rw [h, cpy_ms, ms_u2 (by decide) (by decide) (by decide)]
  · rw [h, h2, cpy_ms, cpy_ms, ms_u2 (by decide) (by decide) (by decide)]
theorem nt_ne {σ : rd_S} {um : Nat} {f : Nat → Int32} {a b : Nat} (h : a ≠ 38) (h2 : ¬ (a = 33 ∧ b = 6)) : nt σ um f a b = σ a b := by
  unfold nt
  split
  · rw [u2_off h2, cpy_ne h]
  · rw [u2_off h2, cpy_ne h, cpy_ne h]
theorem nt_kd {σ : rd_S} {um : Nat} {f : Nat → Int32} {kb : Int32} (h : kd_at σ kb) : kd_at (nt σ um f) kb := fun i hi => by rw [nt_ne (by decide) (by omega)]; exact h i hi
set_option maxHeartbeats 4000000 in
set_option maxRecDepth 100000 in
theorem m_dance_b (N d : Nat) (σ : rd_S) (hN : 49 ≤ N) (f : Int32) (h : hp_rg 0 3 f = false) : rd_T N (d + 3) yX5_dance cX5_dance 3 (some .int) [.ref 33, .int f] σ (rd_is (some (.int (-1))) σ) := by
  refine rd_start RX5 [.ref 33, .int f, .retAddr 0] rfl (by decide +kernel) rfl (Nat.le_of_ble_eq_true rfl) ?_
  refine rr_iloadn_1 dX5_dance_0 ?_
  refine rr_callSiD (c_X5_isOne N _ _ _) km_X5_105 rfl rfl (Nat.le_of_ble_eq_true rfl) dX5_dance_1 ?_
  refine rr_if_ne 9 dX5_dance_4 (by decide) (fun h4 => absurd (by simp [h]) h4) (fun h4 => ?_)
  refine rr_iconst (v := (-1)) dX5_dance_7 (by decide) ?_
  exact rr_iret dX5_dance_8 ⟨rfl, rfl⟩
theorem hp_fg {f : Int32} (h : hp_rg 0 3 f = true) : fg4 f := by
  obtain ⟨j, hj, rfl⟩ := hp_nat (k := 3) h
  rcases (show j = 0 ∨ j = 1 ∨ j = 2 ∨ j = 3 by omega) with h | h | h | h <;> rw [h]
  · exact Or.inl rfl
  · exact Or.inr (Or.inl rfl)
  · exact Or.inr (Or.inr (Or.inl rfl))
  · exact Or.inr (Or.inr (Or.inr rfl))
set_option maxHeartbeats 4000000 in
set_option maxRecDepth 100000 in
theorem m_dance_n (N d : Nat) (σ : rd_S) (hN : 49 ≤ N) (c : Nat) (hc : c < 1000000) (D : sd_D) (kb : Int32) (hw : wf c D) (hk : kd_at σ kb) (hD : md_at σ D) (f : Int32) (h : hp_rg 0 3 f = true) (hst : sd_st D f kb = none) : rd_T N (d + 3) yX5_dance cX5_dance 3 (some .int) [.ref 33, .int f] σ (rd_is (some (.int (-2))) (ms σ D D 0)) := by
  refine rd_start RX5 [.ref 33, .int f, .retAddr 0] rfl (by decide +kernel) rfl (Nat.le_of_ble_eq_true rfl) ?_
  refine rr_iloadn_1 dX5_dance_0 ?_
  refine rr_callSiD (c_X5_isOne N _ _ _) km_X5_105 rfl rfl (Nat.le_of_ble_eq_true rfl) dX5_dance_1 ?_
  refine rr_if_ne 9 dX5_dance_4 (by decide) (fun h4 => ?_) (fun h4 => absurd h4 (by simp [h]))
  refine rr_aloadn_0 dX5_dance_9 ?_
  refine rr_callVvD (c_pa N _ _ hN D hD) km_X5_141 rfl rfl (by omega) rfl (Nat.le_of_ble_eq_true rfl) dX5_dance_10 ?_
  refine rr_aloadn_0 dX5_dance_13 ?_
  refine rr_iloadn_1 dX5_dance_14 ?_
  refine rr_callViD (c_dances_n N _ σ hN c hc D D _ kb hw hk f (hp_fg h) hst) km_X5_144 rfl rfl (by omega) rfl (Nat.le_of_ble_eq_true rfl) dX5_dance_15 ?_
  refine rr_if_ne 24 dX5_dance_18 (by decide) (fun h18 => absurd h18 (by decide)) (fun _ => ?_)
  refine rr_bipush (v := (-2)) dX5_dance_21 (by decide) ?_
  exact rr_iret dX5_dance_23 ⟨rfl, rfl⟩
set_option maxHeartbeats 4000000 in
set_option maxRecDepth 100000 in
theorem m_dance_s (N d : Nat) (σ : rd_S) (hN : 49 ≤ N) (c : Nat) (hc : c < 1000000) (D : sd_D) (kb : Int32) (hw : wf c D) (hk : kd_at σ kb) (hD : md_at σ D) (f : Int32) (h : hp_rg 0 3 f = true) {E : sd_D} (hst : sd_st D f kb = some E) (um : Nat) (hu : σ 33 6 = nI um) (hum : um ≤ 8) : rd_T N (d + 3) yX5_dance cX5_dance 3 (some .int) [.ref 33, .int f] σ (rd_is (some (.int (10 + sd_tw D f kb))) (ms (nt σ um (md_of D)) E D (sd_tw D f kb))) := by
  refine rd_start RX5 [.ref 33, .int f, .retAddr 0] rfl (by decide +kernel) rfl (Nat.le_of_ble_eq_true rfl) ?_
  refine rr_iloadn_1 dX5_dance_0 ?_
  refine rr_callSiD (c_X5_isOne N _ _ _) km_X5_105 rfl rfl (Nat.le_of_ble_eq_true rfl) dX5_dance_1 ?_
  refine rr_if_ne 9 dX5_dance_4 (by decide) (fun h4 => ?_) (fun h4 => absurd h4 (by simp [h]))
  refine rr_aloadn_0 dX5_dance_9 ?_
  refine rr_callVvD (c_pa N _ _ hN D hD) km_X5_141 rfl rfl (by omega) rfl (Nat.le_of_ble_eq_true rfl) dX5_dance_10 ?_
  refine rr_aloadn_0 dX5_dance_13 ?_
  refine rr_iloadn_1 dX5_dance_14 ?_
  refine rr_callViD (c_dances_s N _ σ hN c hc D D _ kb hw hk f (hp_fg h) hst) km_X5_144 rfl rfl (by omega) rfl (Nat.le_of_ble_eq_true rfl) dX5_dance_15 ?_
  refine rr_if_ne 24 dX5_dance_18 (by decide) (fun _ => ?_) (fun h18 => absurd h18 (by decide))
  refine rr_aloadn_0 dX5_dance_24 ?_
  refine rr_geti dX5_dance_25 kf_X5_127 (by omega) rfl rfl ?_
  rw [ms_net]
  refine rr_istoren_2 dX5_dance_28 rfl ?_
  refine rr_aloadn_0 dX5_dance_29 ?_
  refine rr_callVvD (c_tb N _ _ hN E D _) km_X5_147 rfl rfl (by omega) rfl (Nat.le_of_ble_eq_true rfl) dX5_dance_30 ?_
  refine rr_aloadn_0 dX5_dance_33 ?_
  refine rr_callVvD (c_note N _ _ hN um (by rw [ms_ne (by decide) (by decide) (by omega)]; exact hu) hum) km_X5_150 rfl rfl (by omega) rfl (Nat.le_of_ble_eq_true rfl) dX5_dance_34 ?_
  rw [nt_ms]
  refine rr_aloadn_0 dX5_dance_37 ?_
  refine rr_iloadn_1 dX5_dance_38 ?_
  refine rr_callViD (c_dances_s N _ (nt σ um (md_of D)) hN c hc D D _ kb hw (nt_kd hk) f (hp_fg h) hst) km_X5_144 rfl rfl (by omega) rfl (Nat.le_of_ble_eq_true rfl) dX5_dance_39 ?_
  refine rr_pop dX5_dance_42 rfl ?_
  refine rr_bipush (v := 10) dX5_dance_43 (by decide) ?_
  refine rr_iloadn_2 dX5_dance_45 ?_
  refine rr_iadd dX5_dance_46 ?_
  exact rr_iret dX5_dance_47 ⟨rfl, rfl⟩
set_option maxHeartbeats 4000000 in
set_option maxRecDepth 100000 in
theorem m_put_b (N d : Nat) (σ : rd_S) (hN : 49 ≤ N) (i j : Int32) (h : ¬ (hp_rg 0 3 i = true ∧ hp_rg 0 3 j = true ∧ ¬ i = j)) : rd_T N (d + 2) yX5_put cX5_put 3 (some .int) [.ref 33, .int i, .int j] σ (rd_is (some (.int (-1))) σ) := by
  refine rd_start RX5 [.ref 33, .int i, .int j] rfl (by decide +kernel) rfl (Nat.le_of_ble_eq_true rfl) ?_
  refine rr_iloadn_1 dX5_put_0 ?_
  refine rr_callSiD (c_X5_isOne N _ _ _) km_X5_105 rfl rfl (Nat.le_of_ble_eq_true rfl) dX5_put_1 ?_
  cases hq1 : hp_rg 0 3 i
  · refine rr_if_eq 19 dX5_put_4 (by decide) (fun h4 => ?_) (fun h4 => absurd (by simp) h4)
    refine rr_iconst (v := (-1)) dX5_put_19 (by decide) ?_
    exact rr_iret dX5_put_20 ⟨rfl, rfl⟩
  · refine rr_if_eq 19 dX5_put_4 (by decide) (fun h4 => absurd h4 (by simp)) (fun h4 => ?_)
    refine rr_iloadn_2 dX5_put_7 ?_
    refine rr_callSiD (c_X5_isOne N _ _ _) km_X5_105 rfl rfl (Nat.le_of_ble_eq_true rfl) dX5_put_8 ?_
    cases hq2 : hp_rg 0 3 j
    · refine rr_if_eq 19 dX5_put_11 (by decide) (fun h11 => ?_) (fun h11 => absurd (by simp) h11)
      refine rr_iconst (v := (-1)) dX5_put_19 (by decide) ?_
      exact rr_iret dX5_put_20 ⟨rfl, rfl⟩
    · refine rr_if_eq 19 dX5_put_11 (by decide) (fun h11 => absurd h11 (by simp)) (fun h11 => ?_)
      refine rr_iloadn_1 dX5_put_14 ?_
      refine rr_iloadn_2 dX5_put_15 ?_
      refine rr_icmp_ne 21 dX5_put_16 (by decide) (fun h16 => absurd ⟨hq1, hq2, h16⟩ h) (fun h16 => ?_)
      refine rr_iconst (v := (-1)) dX5_put_19 (by decide) ?_
      exact rr_iret dX5_put_20 ⟨rfl, rfl⟩
set_option maxHeartbeats 4000000 in
set_option maxRecDepth 100000 in
theorem m_put_s (N d : Nat) (σ : rd_S) (hN : 49 ≤ N) (c : Nat) (hc : c < 1000000) (D : sd_D) (kb : Int32) (hw : wf c D) (hk : kd_at σ kb) (hD : md_at σ D) (i j : Nat) (hi : i < 4) (hj : j < 4) (hij : i ≠ j) (um : Nat) (hu : σ 33 6 = nI um) (hum : um ≤ 8) : rd_T N (d + 2) yX5_put cX5_put 3 (some .int) [.ref 33, .int (nI i), .int (nI j)] σ (rd_is (some (.int (sd_place (sd_xch D (nI i) (nI j)).1 (nI i)))) (mr (nt σ um (md_of D)) (sd_xch D (nI i) (nI j)))) := by
  refine rd_start RX5 [.ref 33, .int (nI i), .int (nI j)] rfl (by decide +kernel) rfl (Nat.le_of_ble_eq_true rfl) ?_
  have hq1 : hp_rg 0 3 (nI i) = true := by simp only [hp_rg, decide_eq_true_eq, nI_toInt (show i < 2 ^ 31 by omega)]; omega
  have hq2 : hp_rg 0 3 (nI j) = true := by simp only [hp_rg, decide_eq_true_eq, nI_toInt (show j < 2 ^ 31 by omega)]; omega
  have hnt : nt σ um (σ 37) = nt σ um (md_of D) := by
    have h : ∀ (τ : rd_S) (o : Nat), cpy τ 38 (σ 37) o 12 = cpy τ 38 (md_of D) o 12 := fun τ o => cpy_cong (fun j hj => hD j hj)
    unfold nt; split; rw [h]; rw [h]
  have hmr : nt σ um (md_of D) = mr (nt σ um (md_of D)) D := mr_id (fun k hk => by rw [nt_ne (by decide) (by omega)]; exact hD k hk)
  obtain ⟨x, r, b, a1, a2, a3, a4, a5, a6, a7, a8, a9⟩ := wf_xch hw hi hj
  have hpl := (pl_okk x a1 a2 i hi).1
  refine rr_iloadn_1 dX5_put_0 ?_
  refine rr_callSiD (c_X5_isOne N _ _ _) km_X5_105 rfl rfl (Nat.le_of_ble_eq_true rfl) dX5_put_1 ?_
  refine rr_if_eq 19 dX5_put_4 (by decide) (fun h4 => absurd h4 (by simp [hq1])) (fun h4 => ?_)
  refine rr_iloadn_2 dX5_put_7 ?_
  refine rr_callSiD (c_X5_isOne N _ _ _) km_X5_105 rfl rfl (Nat.le_of_ble_eq_true rfl) dX5_put_8 ?_
  refine rr_if_eq 19 dX5_put_11 (by decide) (fun h11 => absurd h11 (by simp [hq2])) (fun h11 => ?_)
  refine rr_iloadn_1 dX5_put_14 ?_
  refine rr_iloadn_2 dX5_put_15 ?_
  refine rr_icmp_ne 21 dX5_put_16 (by decide) (fun h16 => ?_) (fun h16 => absurd ((nI_eq8 (by omega) (by omega)).mp h16) hij)
  refine rr_aloadn_0 dX5_put_21 ?_
  refine rr_callVvD (c_note N _ _ hN um hu hum) km_X5_150 rfl rfl (by omega) rfl (Nat.le_of_ble_eq_true rfl) dX5_put_22 ?_
  rw [hnt, hmr]
  refine rr_aloadn_0 dX5_put_25 ?_
  refine rr_iloadn_1 dX5_put_26 ?_
  refine rr_iloadn_2 dX5_put_27 ?_
  refine rr_callVvD (c_putThem_r N _ _ hN c D hw i j hi hj hij) km_X5_153 rfl rfl (by omega) rfl (Nat.le_of_ble_eq_true rfl) dX5_put_28 ?_
  refine rr_aloadn_0 dX5_put_31 ?_
  refine rr_iloadn_1 dX5_put_32 ?_
  refine rr_callViD (c_plr N _ _ hN _ (md_mr _ _) a1 a2 a5 hi) km_X5_111 rfl rfl (by omega) rfl (Nat.le_of_ble_eq_true rfl) dX5_put_33 ?_
  exact rr_iret dX5_put_36 ⟨by rw [a5, hpl], (mr_mr _ _ _).symm⟩
set_option maxHeartbeats 4000000 in
set_option maxRecDepth 100000 in
theorem lp_undo (N d : Nat) (hN : 49 ≤ N) (σ : rd_S) (um : Nat) (hu : σ 33 6 = nI um) (hum : um ≤ 7) (hum2 : 12 * um + 12 ≤ rd_len 38) (Q : Option Value → rd_S → Prop) (K : ∀ v, rd_W N d RX5 cX5_undo 2 (some .int) 54 [.ref 33, v] [] (cpy σ 37 (fun k => σ 38 (12 * um + k)) 0 12) Q) : ∀ (m k : Nat), k + m = 12 → rd_W N d RX5 cX5_undo 2 (some .int) 22 [.ref 33, .int (nI k)] [] (cpy σ 37 (fun k => σ 38 (12 * um + k)) 0 k) Q := by
  intro m
  induction m with
  | zero =>
    intro k hk
    obtain rfl : k = 12 := hk
    refine rr_iloadn_1 dX5_undo_22 ?_
    refine rr_bipush (v := 12) dX5_undo_23 (by decide) ?_
    refine rr_icmp_ge 54 dX5_undo_25 (by decide) (fun h25 => ?_) (fun h25 => absurd (by decide) h25)
    exact K _
  | succ m ih =>
    intro k hk
    have g6 : cpy σ 37 (fun k => σ 38 (12 * um + k)) 0 k 33 6 = nI um := by rw [cpy_ne (by decide)]; exact hu
    refine rr_iloadn_1 dX5_undo_22 ?_
    refine rr_bipush (v := 12) dX5_undo_23 (by decide) ?_
    refine rr_icmp_ge 54 dX5_undo_25 (by decide) (fun h25 => absurd ((nI_le8 (a := 12) (b := k) (by omega) (by omega)).mp h25) (by omega)) (fun h25 => ?_)
    refine rr_aloadn_0 dX5_undo_28 ?_
    refine rr_getr 37 dX5_undo_29 kf_X5_19 (by omega) rfl rfl rfl ?_
    refine rr_iloadn_1 dX5_undo_32 ?_
    refine rr_aloadn_0 dX5_undo_33 ?_
    refine rr_getr 38 dX5_undo_34 kf_X5_22 (by omega) rfl rfl rfl ?_
    refine rr_bipush (v := 12) dX5_undo_37 (by decide) ?_
    refine rr_aloadn_0 dX5_undo_39 ?_
    refine rr_geti dX5_undo_40 kf_X5_68 (by omega) rfl rfl ?_
    rw [g6]
    refine rr_imul dX5_undo_43 ?_
    refine rr_iloadn_1 dX5_undo_44 ?_
    refine rr_iadd dX5_undo_45 ?_
    rw [show (12 : Int32) * nI um = nI (12 * um) from pk_mul 12 um, nI_add]
    refine rr_iald ((12 * um + k)) dX5_undo_46 (by omega) rfl rfl (by omega) ?_
    rw [cpy_ne (by decide)]
    refine rr_iast (k) dX5_undo_47 (by omega) rfl rfl (show k < 12 by omega) ?_
    refine rr_iinc_1 1 dX5_undo_48 (by decide) rfl ?_
    refine rr_goto 22 dX5_undo_51 (by decide) ?_
    rw [nI_s k]
    have e9 := cpy_s σ 37 (fun k => σ 38 (12 * um + k)) 0 k
    rw [Nat.zero_add] at e9
    rw [e9]
    exact ih (k + 1) (by omega)
set_option maxHeartbeats 4000000 in
set_option maxRecDepth 100000 in
theorem lp_back (N d : Nat) (hN : 49 ≤ N) (σ : rd_S) (um : Nat) (hu : σ 33 8 = nI um) (hum : um ≤ 7) (hum2 : 12 * um + 12 ≤ rd_len 39) (Q : Option Value → rd_S → Prop) (K : ∀ v, rd_W N d RX5 cX5_back 2 (some .int) 54 [.ref 33, v] [] (cpy σ 37 (fun k => σ 39 (12 * um + k)) 0 12) Q) : ∀ (m k : Nat), k + m = 12 → rd_W N d RX5 cX5_back 2 (some .int) 22 [.ref 33, .int (nI k)] [] (cpy σ 37 (fun k => σ 39 (12 * um + k)) 0 k) Q := by
  intro m
  induction m with
  | zero =>
    intro k hk
    obtain rfl : k = 12 := hk
    refine rr_iloadn_1 dX5_back_22 ?_
    refine rr_bipush (v := 12) dX5_back_23 (by decide) ?_
    refine rr_icmp_ge 54 dX5_back_25 (by decide) (fun h25 => ?_) (fun h25 => absurd (by decide) h25)
    exact K _
  | succ m ih =>
    intro k hk
    have g6 : cpy σ 37 (fun k => σ 39 (12 * um + k)) 0 k 33 8 = nI um := by rw [cpy_ne (by decide)]; exact hu
    refine rr_iloadn_1 dX5_back_22 ?_
    refine rr_bipush (v := 12) dX5_back_23 (by decide) ?_
    refine rr_icmp_ge 54 dX5_back_25 (by decide) (fun h25 => absurd ((nI_le8 (a := 12) (b := k) (by omega) (by omega)).mp h25) (by omega)) (fun h25 => ?_)
    refine rr_aloadn_0 dX5_back_28 ?_
    refine rr_getr 37 dX5_back_29 kf_X5_19 (by omega) rfl rfl rfl ?_
    refine rr_iloadn_1 dX5_back_32 ?_
    refine rr_aloadn_0 dX5_back_33 ?_
    refine rr_getr 39 dX5_back_34 kf_X5_25 (by omega) rfl rfl rfl ?_
    refine rr_bipush (v := 12) dX5_back_37 (by decide) ?_
    refine rr_aloadn_0 dX5_back_39 ?_
    refine rr_geti dX5_back_40 kf_X5_71 (by omega) rfl rfl ?_
    rw [g6]
    refine rr_imul dX5_back_43 ?_
    refine rr_iloadn_1 dX5_back_44 ?_
    refine rr_iadd dX5_back_45 ?_
    rw [show (12 : Int32) * nI um = nI (12 * um) from pk_mul 12 um, nI_add]
    refine rr_iald ((12 * um + k)) dX5_back_46 (by omega) rfl rfl (by omega) ?_
    rw [cpy_ne (by decide)]
    refine rr_iast (k) dX5_back_47 (by omega) rfl rfl (show k < 12 by omega) ?_
    refine rr_iinc_1 1 dX5_back_48 (by decide) rfl ?_
    refine rr_goto 22 dX5_back_51 (by decide) ?_
    rw [nI_s k]
    have e9 := cpy_s σ 37 (fun k => σ 39 (12 * um + k)) 0 k
    rw [Nat.zero_add] at e9
    rw [e9]
    exact ih (k + 1) (by omega)
set_option maxHeartbeats 4000000 in
set_option maxRecDepth 100000 in
theorem m_undo_n (N d : Nat) (σ : rd_S) (hN : 49 ≤ N) (hu : σ 33 6 = nI 0) : rd_T N (d + 0) yX5_undo cX5_undo 2 (some .int) [.ref 33] σ (rd_is (some (.int (-2))) σ) := by
  refine rd_start RX5 [.ref 33, .retAddr 0] rfl (by decide +kernel) rfl (Nat.le_of_ble_eq_true rfl) ?_
  refine rr_aloadn_0 dX5_undo_0 ?_
  refine rr_geti dX5_undo_1 kf_X5_68 (by omega) rfl rfl ?_
  rw [hu]
  refine rr_if_ne 10 dX5_undo_4 (by decide) (fun h4 => absurd rfl h4) (fun h4 => ?_)
  refine rr_bipush (v := (-2)) dX5_undo_7 (by decide) ?_
  exact rr_iret dX5_undo_9 ⟨rfl, rfl⟩
set_option maxHeartbeats 4000000 in
set_option maxRecDepth 100000 in
theorem m_undo_s (N d : Nat) (σ : rd_S) (hN : 49 ≤ N) (um : Nat) (hu : σ 33 6 = nI (um + 1)) (hum : um ≤ 7) : rd_T N (d + 0) yX5_undo cX5_undo 2 (some .int) [.ref 33] σ (rd_is (some (.int (nI um))) (cpy (rd_u2 σ 33 6 (nI um)) 37 (fun k => σ 38 (12 * um + k)) 0 12)) := by
  refine rd_start RX5 [.ref 33, .retAddr 0] rfl (by decide +kernel) rfl (Nat.le_of_ble_eq_true rfl) ?_
  refine rr_aloadn_0 dX5_undo_0 ?_
  refine rr_geti dX5_undo_1 kf_X5_68 (by omega) rfl rfl ?_
  rw [hu]
  refine rr_if_ne 10 dX5_undo_4 (by decide) (fun h4 => ?_) (fun h4 => absurd h4 (nI_ne0 (by omega) (by omega)))
  refine rr_aloadn_0 dX5_undo_10 ?_
  refine rr_dup dX5_undo_11 rfl ?_
  refine rr_geti dX5_undo_12 kf_X5_68 (by omega) rfl rfl ?_
  rw [hu]
  refine rr_iconst (v := 1) dX5_undo_15 (by decide) ?_
  refine rr_isub dX5_undo_16 ?_
  rw [nI_pred]
  refine rr_puti dX5_undo_17 kf_X5_68 if_5_6 (by omega) rfl rfl ?_
  refine rr_iconst (v := 0) dX5_undo_20 (by decide) ?_
  refine rr_istoren_1 dX5_undo_21 rfl ?_
  have e0 := cpy_0 (rd_u2 σ 33 6 (nI um)) 37 (fun k => rd_u2 σ 33 6 (nI um) 38 (12 * um + k)) 0
  refine rd_sub e0.symm (lp_undo N d hN _ um (u2_at _ _ _ _) hum (by show 12 * um + 12 ≤ 96; omega) _ (fun v => ?_) 12 0 rfl)
  rw [show (fun k => rd_u2 σ 33 6 (nI um) 38 (12 * um + k)) = (fun k => σ 38 (12 * um + k)) from funext (fun k => u2_off (by omega))]
  refine rr_aloadn_0 dX5_undo_54 ?_
  refine rr_geti dX5_undo_55 kf_X5_68 (by omega) rfl rfl ?_
  exact rr_iret dX5_undo_58 ⟨by rw [cpy_ne (by decide), u2_at], rfl⟩
set_option maxHeartbeats 4000000 in
set_option maxRecDepth 100000 in
theorem m_back_n (N d : Nat) (σ : rd_S) (hN : 49 ≤ N) (hu : σ 33 8 = nI 0) : rd_T N (d + 0) yX5_back cX5_back 2 (some .int) [.ref 33] σ (rd_is (some (.int (-2))) σ) := by
  refine rd_start RX5 [.ref 33, .retAddr 0] rfl (by decide +kernel) rfl (Nat.le_of_ble_eq_true rfl) ?_
  refine rr_aloadn_0 dX5_back_0 ?_
  refine rr_geti dX5_back_1 kf_X5_71 (by omega) rfl rfl ?_
  rw [hu]
  refine rr_if_ne 10 dX5_back_4 (by decide) (fun h4 => absurd rfl h4) (fun h4 => ?_)
  refine rr_bipush (v := (-2)) dX5_back_7 (by decide) ?_
  exact rr_iret dX5_back_9 ⟨rfl, rfl⟩
set_option maxHeartbeats 4000000 in
set_option maxRecDepth 100000 in
theorem m_back_s (N d : Nat) (σ : rd_S) (hN : 49 ≤ N) (um : Nat) (hu : σ 33 8 = nI (um + 1)) (hum : um ≤ 1) : rd_T N (d + 0) yX5_back cX5_back 2 (some .int) [.ref 33] σ (rd_is (some (.int (nI um))) (rd_u2 (cpy (rd_u2 σ 33 8 (nI um)) 37 (fun k => σ 39 (12 * um + k)) 0 12) 33 6 0)) := by
  refine rd_start RX5 [.ref 33, .retAddr 0] rfl (by decide +kernel) rfl (Nat.le_of_ble_eq_true rfl) ?_
  refine rr_aloadn_0 dX5_back_0 ?_
  refine rr_geti dX5_back_1 kf_X5_71 (by omega) rfl rfl ?_
  rw [hu]
  refine rr_if_ne 10 dX5_back_4 (by decide) (fun h4 => ?_) (fun h4 => absurd h4 (nI_ne0 (by omega) (by omega)))
  refine rr_aloadn_0 dX5_back_10 ?_
  refine rr_dup dX5_back_11 rfl ?_
  refine rr_geti dX5_back_12 kf_X5_71 (by omega) rfl rfl ?_
  rw [hu]
  refine rr_iconst (v := 1) dX5_back_15 (by decide) ?_
  refine rr_isub dX5_back_16 ?_
  rw [nI_pred]
  refine rr_puti dX5_back_17 kf_X5_71 if_5_8 (by omega) rfl rfl ?_
  refine rr_iconst (v := 0) dX5_back_20 (by decide) ?_
  refine rr_istoren_1 dX5_back_21 rfl ?_
  have e0 := cpy_0 (rd_u2 σ 33 8 (nI um)) 37 (fun k => rd_u2 σ 33 8 (nI um) 39 (12 * um + k)) 0
  refine rd_sub e0.symm (lp_back N d hN _ um (u2_at _ _ _ _) (by omega) (by show 12 * um + 12 ≤ 24; omega) _ (fun v => ?_) 12 0 rfl)
  rw [show (fun k => rd_u2 σ 33 8 (nI um) 39 (12 * um + k)) = (fun k => σ 39 (12 * um + k)) from funext (fun k => u2_off (by omega))]
  refine rr_aloadn_0 dX5_back_54 ?_
  refine rr_iconst (v := 0) dX5_back_55 (by decide) ?_
  refine rr_puti dX5_back_56 kf_X5_68 if_5_6 (by omega) rfl rfl ?_
  refine rr_aloadn_0 dX5_back_59 ?_
  refine rr_geti dX5_back_60 kf_X5_71 (by omega) rfl rfl ?_
  exact rr_iret dX5_back_63 ⟨by rw [u2_off (by omega), cpy_ne (by decide), u2_at], rfl⟩
set_option maxHeartbeats 4000000 in
set_option maxRecDepth 100000 in
theorem lp_keep (N d : Nat) (hN : 49 ≤ N) (σ : rd_S) (um : Nat) (hu : σ 33 8 = nI um) (hum : um ≤ 1) : ∀ (m k : Nat), k + m = 12 → rd_W N d RX5 cX5_keep 2 (some .int) 13 [.ref 33, .int (nI k)] [] (cpy σ 39 (σ 37) (12 * um) k) (rd_is (some (.int (nI (um + 1)))) (rd_u2 (cpy σ 39 (σ 37) (12 * um) 12) 33 8 (nI (um + 1)))) := by
  intro m
  induction m with
  | zero =>
    intro k hk
    obtain rfl : k = 12 := hk
    have g6 : cpy σ 39 (σ 37) (12 * um) 12 33 8 = nI um := by rw [cpy_ne (by decide)]; exact hu
    refine rr_iloadn_1 dX5_keep_13 ?_
    refine rr_bipush (v := 12) dX5_keep_14 (by decide) ?_
    refine rr_icmp_ge 45 dX5_keep_16 (by decide) (fun h16 => ?_) (fun h16 => absurd (by decide) h16)
    refine rr_aloadn_0 dX5_keep_45 ?_
    refine rr_dup dX5_keep_46 rfl ?_
    refine rr_geti dX5_keep_47 kf_X5_71 (by omega) rfl rfl ?_
    refine rr_iconst (v := 1) dX5_keep_50 (by decide) ?_
    refine rr_iadd dX5_keep_51 ?_
    rw [g6, nI_s]
    refine rr_puti dX5_keep_52 kf_X5_71 if_5_8 (by omega) rfl rfl ?_
    refine rr_aloadn_0 dX5_keep_55 ?_
    refine rr_geti dX5_keep_56 kf_X5_71 (by omega) rfl rfl ?_
    exact rr_iret dX5_keep_59 ⟨by rw [u2_at], rfl⟩
  | succ m ih =>
    intro k hk
    have g6 : cpy σ 39 (σ 37) (12 * um) k 33 8 = nI um := by rw [cpy_ne (by decide)]; exact hu
    refine rr_iloadn_1 dX5_keep_13 ?_
    refine rr_bipush (v := 12) dX5_keep_14 (by decide) ?_
    refine rr_icmp_ge 45 dX5_keep_16 (by decide) (fun h16 => absurd ((nI_le8 (a := 12) (b := k) (by omega) (by omega)).mp h16) (by omega)) (fun h16 => ?_)
    refine rr_aloadn_0 dX5_keep_19 ?_
    refine rr_getr 39 dX5_keep_20 kf_X5_25 (by omega) rfl rfl rfl ?_
    refine rr_bipush (v := 12) dX5_keep_23 (by decide) ?_
    refine rr_aloadn_0 dX5_keep_25 ?_
    refine rr_geti dX5_keep_26 kf_X5_71 (by omega) rfl rfl ?_
    rw [g6]
    refine rr_imul dX5_keep_29 ?_
    refine rr_iloadn_1 dX5_keep_30 ?_
    refine rr_iadd dX5_keep_31 ?_
    rw [show (12 : Int32) * nI um = nI (12 * um) from pk_mul 12 um, nI_add]
    refine rr_aloadn_0 dX5_keep_32 ?_
    refine rr_getr 37 dX5_keep_33 kf_X5_19 (by omega) rfl rfl rfl ?_
    refine rr_iloadn_1 dX5_keep_36 ?_
    refine rr_iald (k) dX5_keep_37 (by omega) rfl rfl (show k < 12 by omega) ?_
    rw [cpy_ne (by decide)]
    refine rr_iast ((12 * um + k)) dX5_keep_38 (by omega) rfl rfl (show 12 * um + k < 24 by omega) ?_
    refine rr_iinc_1 1 dX5_keep_39 (by decide) rfl ?_
    refine rr_goto 13 dX5_keep_42 (by decide) ?_
    rw [nI_s k, cpy_s]
    exact ih (k + 1) (by omega)
set_option maxHeartbeats 4000000 in
set_option maxRecDepth 100000 in
theorem m_keep_f (N d : Nat) (σ : rd_S) (hN : 49 ≤ N) (hu : σ 33 8 = nI 2) : rd_T N (d + 0) yX5_keep cX5_keep 2 (some .int) [.ref 33] σ (rd_is (some (.int (-3))) σ) := by
  refine rd_start RX5 [.ref 33, .retAddr 0] rfl (by decide +kernel) rfl (Nat.le_of_ble_eq_true rfl) ?_
  refine rr_aloadn_0 dX5_keep_0 ?_
  refine rr_geti dX5_keep_1 kf_X5_71 (by omega) rfl rfl ?_
  refine rr_iconst (v := 2) dX5_keep_4 (by decide) ?_
  rw [hu]
  refine rr_icmp_ne 11 dX5_keep_5 (by decide) (fun h5 => absurd rfl h5) (fun h5 => ?_)
  refine rr_bipush (v := (-3)) dX5_keep_8 (by decide) ?_
  exact rr_iret dX5_keep_10 ⟨rfl, rfl⟩
set_option maxHeartbeats 4000000 in
set_option maxRecDepth 100000 in
theorem m_keep_s (N d : Nat) (σ : rd_S) (hN : 49 ≤ N) (um : Nat) (hu : σ 33 8 = nI um) (hum : um ≤ 1) : rd_T N (d + 0) yX5_keep cX5_keep 2 (some .int) [.ref 33] σ (rd_is (some (.int (nI (um + 1)))) (rd_u2 (cpy σ 39 (σ 37) (12 * um) 12) 33 8 (nI (um + 1)))) := by
  refine rd_start RX5 [.ref 33, .retAddr 0] rfl (by decide +kernel) rfl (Nat.le_of_ble_eq_true rfl) ?_
  refine rr_aloadn_0 dX5_keep_0 ?_
  refine rr_geti dX5_keep_1 kf_X5_71 (by omega) rfl rfl ?_
  refine rr_iconst (v := 2) dX5_keep_4 (by decide) ?_
  rw [hu]
  refine rr_icmp_ne 11 dX5_keep_5 (by decide) (fun h5 => ?_) (fun h5 => absurd ((nI_eq8 (a := um) (b := 2) (by omega) (by omega)).mp h5) (by omega))
  refine rr_iconst (v := 0) dX5_keep_11 (by decide) ?_
  refine rr_istoren_1 dX5_keep_12 rfl ?_
  have := lp_keep N d hN σ um hu hum 12 0 rfl
  rw [cpy_0] at this
  exact this
