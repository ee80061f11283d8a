/-! ===== the reference: an item ===== -/
theorem lt_ps {t : Nat → Int32} {n k : Nat} {v : Int32} (h0 : (0 : Int32) ≠ v) (h1 : (-1 : Int32) ≠ v) : lt_l t n k = v ↔ ps_l t n k = v := by
  unfold lt_l ps_l
  by_cases h : k < n
  · rw [if_pos h, if_pos h]
  · rw [if_neg h, if_neg h]; exact ⟨fun q => absurd q h1, fun q => absurd q h0⟩
theorem fg_ps {t : Nat → Int32} {n k : Nat} (ht : ∀ k, k < n → 32 ≤ (t k).toInt ∧ (t k).toInt ≤ 126) {m : Nat} (hm : m ≤ 9) : (ps_num (ps_l t n k) (nI m) = true ∧ ∃ j, j ≤ m ∧ fg_l t n k m = nI j ∧ ps_l t n k - 48 = nI j) ∨ (ps_num (ps_l t n k) (nI m) = false ∧ fg_l t n k m = -4) := by
  by_cases h : k < n
  · have e1 : lt_l t n k = t k := if_pos h
    have e2 : ps_l t n k = t k := if_pos h
    obtain ⟨a1, a2⟩ := ht k h
    have e3 : (t k - 48).toInt = (t k).toInt - 48 := by
      rw [Int32.toInt_sub, show (48 : Int32).toInt = 48 from rfl]
      exact Int.bmod_eq_of_le (by omega) (by omega)
    have e4 : ps_num (t k) (nI m) = hp_rg 0 m (t k - 48) := by
      have e5 : (48 + nI m : Int32).toInt = 48 + m := by
        rw [show (48 : Int32) + nI m = nI (48 + m) from nI_add 48 m, nI_toInt (by omega)]; omega
      unfold ps_num hp_rg
      rw [e3]
      refine decide_eq_decide.mpr ?_
      rw [Int32.le_iff_toInt_le, Int32.le_iff_toInt_le, e5, show (48 : Int32).toInt = 48 from rfl]
      omega
    unfold fg_l
    rw [e1, e2, e4]
    cases hq : hp_rg 0 m (t k - 48)
    · exact Or.inr ⟨rfl, by simp⟩
    · refine Or.inl ⟨rfl, (t k).toInt.toNat - 48, ?_⟩
      have hq2 : (0 : Int) ≤ (t k - 48).toInt ∧ (t k - 48).toInt ≤ m := of_decide_eq_true hq
      rw [e3] at hq2
      have e6 : t k - 48 = nI ((t k).toInt.toNat - 48) := by
        apply Int32.toInt_inj.mp
        rw [e3, nI_toInt (by omega)]; omega
      exact ⟨by omega, by simp [e6], e6⟩
  · have e1 : lt_l t n k = -1 := if_neg h
    have e2 : ps_l t n k = 0 := if_neg h
    refine Or.inr ?_
    rw [e2]
    refine ⟨?_, ?_⟩
    · unfold ps_num; exact decide_eq_false (fun q => absurd q.1 (by decide))
    · unfold fg_l; rw [e1]; exact if_neg (by unfold hp_rg; exact fun q => absurd (of_decide_eq_true q).1 (by decide))
/-- what the reference has read so far is X -/
def pm_at (σ : rd_S) (X : ps_X) : Prop := σ 33 16 = nI X.1 ∧ X.1 ≤ 12 ∧ (∀ i, i < 4 → σ 42 i = sd_kind X.2.1 (nI i)) ∧ (∀ i, i < 4 → σ 43 i = sd_who X.2.2.2 (nI i)) ∧ (∀ k, k < X.1 → σ 44 k = sd_who X.2.2.1 (nI k)) ∧ kb_ok X.2.1 ∧ (∃ P, P < 256 ∧ X.2.2.2 = nI P) ∧ ∃ G, G < 4 ^ X.1 ∧ X.2.2.1 = nI G
def px_eq (s σ : rd_S) : Prop := ∀ a b, ¬ (a = 42 ∨ a = 43 ∨ a = 44 ∨ (a = 33 ∧ b = 16)) → s a b = σ a b
def it_ok (t : Nat → Int32) (n a : Nat) (X : ps_X) (l : Nat) : Prop := ps_len t n a = some l ∧ ¬ (ps_l t n a = 114 ∧ X.1 = 12)
def it_no (t : Nat → Int32) (n a : Nat) (X : ps_X) : Prop := ps_len t n a = none ∨ (ps_l t n a = 114 ∧ X.1 = 12)
theorem sp_ok : ∀ P, P < 256 → ∀ i, i < 4 → ∀ v, v < 4 → ps_setp (nI P) (nI i) (nI v) = nI (P - P / 4 ^ i % 4 * 4 ^ i + v * 4 ^ i) ∧ P - P / 4 ^ i % 4 * 4 ^ i + v * 4 ^ i < 256 ∧ ∀ j, j < 4 → sd_who (ps_setp (nI P) (nI i) (nI v)) (nI j) = if j = i then nI v else sd_who (nI P) (nI j) := by decide +kernel
theorem pm_r {σ : rd_S} {X : ps_X} (h : pm_at σ X) (h12 : X.1 < 12) {t : Nat → Int32} {n a f : Nat} (hc : ps_l t n a = 114) (hf : f < 4) (ef : ps_l t n (a + 1) - 48 = nI f) (hG : ∀ G, G < 4 ^ X.1 → X.2.2.1 = nI G → nI G ||| (nI f <<< ((2 * nI X.1) &&& 31)) = nI (G + f * 4 ^ X.1) ∧ (∀ k, k < X.1 → sd_who (nI (G + f * 4 ^ X.1)) (nI k) = sd_who (nI G) (nI k)) ∧ sd_who (nI (G + f * 4 ^ X.1)) (nI X.1) = nI f) : pm_at (rd_u2 (rd_u2 σ 44 X.1 (nI f)) 33 16 (nI (X.1 + 1))) (ps_up t n a X) := by
  obtain ⟨a1, a2, a3, a4, a5, a6, a7, G, a8, a9⟩ := h
  obtain ⟨g1, g2, g3⟩ := hG G a8 a9
  have e : ps_up t n a X = (X.1 + 1, X.2.1, nI (G + f * 4 ^ X.1), X.2.2.2) := by
    unfold ps_up
    rw [if_neg (by rw [hc]; decide), if_neg (by rw [hc]; decide), ef, a9, g1]
  rw [e]
  refine ⟨by rw [u2_at], h12, fun i hi => ?_, fun i hi => ?_, fun k hk => ?_, a6, a7, G + f * 4 ^ X.1, ?_, rfl⟩
  · rw [u2_off (by omega), u2_off (by omega)]; exact a3 i hi
  · rw [u2_off (by omega), u2_off (by omega)]; exact a4 i hi
  · rw [u2_off (by omega)]
    show rd_u2 σ 44 X.1 (nI f) 44 k = sd_who (nI (G + f * 4 ^ X.1)) (nI k)
    have hk2 : k < X.1 + 1 := hk
    by_cases q : k = X.1
    · subst q; rw [u2_at, g3]
    · rw [u2_off (by omega), a5 k (by omega), g2 k (by omega), a9]
  · show G + f * 4 ^ X.1 < 4 ^ (X.1 + 1)
    rw [Nat.pow_succ]
    have : f * 4 ^ X.1 ≤ 3 * 4 ^ X.1 := Nat.mul_le_mul_right _ (by omega)
    omega
theorem pm_d {σ : rd_S} {X : ps_X} (h : pm_at σ X) {t : Nat → Int32} {n a i v : Nat} (hc : ps_l t n a = 100) (hi : i < 4) (hv : v < 6) (ei : ps_l t n (a + 1) - 48 = nI i) (ev : ps_l t n (a + 3) - 48 = nI v) : pm_at (rd_u2 σ 42 i (nI v)) (ps_up t n a X) := by
  obtain ⟨a1, a2, a3, a4, a5, ⟨K, hK, a6⟩, a7, a8⟩ := h
  have e : ps_up t n a X = (X.1, nI (wk K i v), X.2.2.1, X.2.2.2) := by
    unfold ps_up
    rw [if_pos hc, ei, ev, a6, wk_ok K hK i hi v hv]
  rw [e]
  refine ⟨by rw [u2_off (by omega)]; exact a1, a2, fun j hj => ?_, fun j hj => ?_, fun k hk => ?_, ⟨_, wk_lt hK hi hv, rfl⟩, a7, a8⟩
  · show rd_u2 σ 42 i (nI v) 42 j = sd_kind (nI (wk K i v)) (nI j)
    rw [kd_ok _ (wk_lt hK hi hv) j hj, wk_d hK hi hv hj]
    by_cases q : j = i
    · subst q; rw [u2_at, if_pos rfl]
    · rw [u2_off (by omega), if_neg q, a3 j hj, a6, kd_ok K hK j hj]
  · rw [u2_off (by omega)]; exact a4 j hj
  · rw [u2_off (by omega)]; exact a5 k hk
theorem pm_p {σ : rd_S} {X : ps_X} (h : pm_at σ X) {t : Nat → Int32} {n a i v : Nat} (hc : ps_l t n a = 112) (hi : i < 4) (hv : v < 4) (ei : ps_l t n (a + 1) - 48 = nI i) (ev : ps_l t n (a + 3) - 48 = nI v) : pm_at (rd_u2 σ 43 i (nI v)) (ps_up t n a X) := by
  obtain ⟨a1, a2, a3, a4, a5, a6, ⟨P, hP, a7⟩, a8⟩ := h
  obtain ⟨s1, s2, s3⟩ := sp_ok P hP i hi v hv
  have e : ps_up t n a X = (X.1, X.2.1, X.2.2.1, ps_setp (nI P) (nI i) (nI v)) := by
    unfold ps_up
    rw [if_neg (by rw [hc]; decide), if_pos hc, ei, ev, a7]
  rw [e]
  refine ⟨by rw [u2_off (by omega)]; exact a1, a2, fun j hj => ?_, fun j hj => ?_, fun k hk => ?_, a6, ⟨_, s2, s1⟩, a8⟩
  · rw [u2_off (by omega)]; exact a3 j hj
  · show rd_u2 σ 43 i (nI v) 43 j = sd_who (ps_setp (nI P) (nI i) (nI v)) (nI j)
    rw [s3 j hj]
    by_cases q : j = i
    · subst q; rw [u2_at, if_pos rfl]
    · rw [u2_off (by omega), if_neg q, a4 j hj, a7]
  · rw [u2_off (by omega)]; exact a5 k hk
