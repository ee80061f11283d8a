/-! ===== duel: deep = folded ===== -/
def flt (t : Nat) : Nat → (Nat → Int32) → Int32
  | 0, F => F 0
  | k + 1, F => flt t k (fs ((t + k) % 2 == 0) F)
def sb (F : Nat → Int32) (i k c : Nat) : Int32 := F (i * 3 ^ k + c)
theorem flt_top (t : Nat) : ∀ k F, flt t (k + 1) F = be_r (t % 2 == 0) (be_r (t % 2 == 0) (flt (t + 1) k (sb F 0 k)) (flt (t + 1) k (sb F 1 k))) (flt (t + 1) k (sb F 2 k))
  | 0, F => by
    show fs ((t + 0) % 2 == 0) F 0 = _
    simp [fs, sb, flt]
  | k + 1, F => by
    have e : ∀ i, sb (fs ((t + (k + 1)) % 2 == 0) F) i k = fs ((t + 1 + k) % 2 == 0) (sb F i (k + 1)) := by
      intro i
      funext c
      have e3 : i * 3 ^ (k + 1) = 3 * (i * 3 ^ k) := by rw [Nat.pow_succ]; simp only [Nat.mul_comm, Nat.mul_left_comm]
      unfold sb fs
      rw [e3, show t + (k + 1) = t + 1 + k by omega, show 3 * (i * 3 ^ k + c) = 3 * (i * 3 ^ k) + 3 * c by omega]
      rfl
    show flt t (k + 1) (fs ((t + (k + 1)) % 2 == 0) F) = _
    rw [flt_top t k, e, e, e]
    rfl
theorem fl_flt : ∀ k F, fl F k = flt 0 k F
  | 0, F => rfl
  | k + 1, F => by
    show fl (fs (k % 2 == 0) F) k = flt 0 k (fs ((0 + k) % 2 == 0) F)
    rw [fl_flt k, Nat.zero_add]
theorem flt_cong (t : Nat) : ∀ (m : Nat) (F G : Nat → Int32), (∀ j, j < 3 ^ m → F j = G j) → flt t m F = flt t m G
  | 0, F, G, h => h 0 (by decide)
  | m + 1, F, G, h => by
    unfold flt
    refine flt_cong t m _ _ (fun j hj => ?_)
    have e : 3 ^ (m + 1) = 3 * 3 ^ m := by rw [Nat.pow_succ, Nat.mul_comm]
    unfold fs
    rw [h (3 * j) (by omega), h (3 * j + 1) (by omega), h (3 * j + 2) (by omega)]
theorem be_m4 (w : Bool) (b : Int32) : be_r w (-4) b = b := by
  unfold be_r
  rw [if_neg (by decide)]
theorem flt_m4 (t : Nat) : ∀ m, flt t m (fun _ => -4) = -4
  | 0 => rfl
  | m + 1 => by
    have e : ∀ w, fs w (fun _ => -4) = fun _ => -4 := by
      intro w; funext r
      show be_r w (be_r w (-4) (-4)) (-4) = -4
      rw [be_m4, be_m4]
    show flt t m (fs _ (fun _ => -4)) = -4
    rw [e]; exact flt_m4 t m
def dF (kb : Int32) (m t : Nat) (D : sd_D) (code : Nat) : Int32 := (fun q : Bool × sd_D => if q.1 = true then sr_gp q.2 else -4) (du kb code m t D)
theorem du_low (kb : Int32) (z n c : Nat) : ∀ m, m ≤ n → ∀ t E, du kb (z * 3 ^ n + c) m t E = du kb c m t E
  | 0, _, _, _ => rfl
  | m + 1, h, t, E => by
    have e : (z * 3 ^ n + c) / 3 ^ m % 3 = c / 3 ^ m % 3 := by
      obtain ⟨q, rfl⟩ : ∃ q, n = m + 1 + q := ⟨n - m - 1, by omega⟩
      have hp : 0 < 3 ^ m := p3_pos m
      have e1 : z * 3 ^ (m + 1 + q) = 3 ^ m * (3 * (z * 3 ^ q)) := by
        rw [Nat.pow_add, Nat.pow_succ]
        simp only [Nat.mul_assoc, Nat.mul_comm, Nat.mul_left_comm]
      rw [e1, Nat.add_comm, Nat.add_mul_div_left _ _ hp]
      omega
    unfold du
    rw [e]
    split
    · rfl
    · exact du_low kb z n c m (by omega) _ _
theorem dF_s (kb : Int32) (m t : Nat) (D : sd_D) (i c : Nat) (hi : i < 3) (hc : c < 3 ^ m) : dF kb (m + 1) t D (i * 3 ^ m + c) = match sd_st D (nI (du_f i t)) kb with | none => -4 | some E => dF kb m (t + 1) E c := by
  have hp : 0 < 3 ^ m := p3_pos m
  have e : (i * 3 ^ m + c) / 3 ^ m % 3 = i := by
    rw [Nat.add_comm, Nat.add_mul_div_right _ _ hp, Nat.div_eq_of_lt hc]; omega
  have h : du kb (i * 3 ^ m + c) (m + 1) t D = match sd_st D (nI (du_f i t)) kb with | none => (false, D) | some E => du kb c m (t + 1) E := by
    conv => { lhs; unfold du }
    rw [e]
    rcases sd_st D (nI (du_f i t)) kb with _ | E
    · rfl
    · exact du_low kb i m c m (Nat.le_refl m) _ _
  unfold dF
  rw [h]
  rcases sd_st D (nI (du_f i t)) kb with _ | E
  · rfl
  · rfl
theorem gp_0 {c : Nat} {D : sd_D} (h : wf c D) : 0 ≤ (sr_gp D).toInt := by
  obtain ⟨x, r, b, h1, h2, h3, h4, h5, h6, h7, h8, a1, a2, a3, a4, a5, a6⟩ := h
  have := sd_abs_t (x := D.2.2.1) (by omega)
  unfold sr_gp sr_mx
  split <;> omega
theorem be_ok (w : Bool) (a b : Int32) (ha : 0 ≤ a.toInt) (hb : 0 ≤ b.toInt) : be_r w a b = sr_be w a b ∧ 0 ≤ (sr_be w a b).toInt := by
  have ha0 : (0 : Int32) ≤ a := Int32.le_iff_toInt_le.mpr ha
  have hb0 : (0 : Int32) ≤ b := Int32.le_iff_toInt_le.mpr hb
  unfold be_r sr_be sr_mx sr_mn
  rw [if_pos ha0, if_pos hb0]
  rcases w with _ | _
  · simp only [Bool.false_eq_true, if_false]
    by_cases h : b ≤ a
    · rw [if_pos h]
      by_cases q : b < a
      · rw [if_pos q]; exact ⟨rfl, hb⟩
      · rw [if_neg q]; exact ⟨Int32.le_antisymm h (Int32.not_lt.mp q), ha⟩
    · rw [if_neg h, if_neg (fun q => h (Int32.le_of_lt q))]; exact ⟨rfl, ha⟩
  · simp only [if_true]
    by_cases h : b ≤ a
    · rw [if_pos h, if_neg (fun q => Int32.not_lt.mpr h q)]; exact ⟨rfl, ha⟩
    · rw [if_neg h, if_pos (Int32.not_le.mp h)]; exact ⟨rfl, hb⟩
theorem be_3 (w : Bool) (a b c : Int32) : sr_be w (sr_be w a b) c = sr_be w (sr_be w c b) a := by
  apply Int32.toInt_inj.mp
  unfold sr_be sr_mx sr_mn
  rcases w with _ | _
  · simp only [Bool.false_eq_true, if_false, Int32.lt_iff_toInt_lt]
    repeat' split
    all_goals (first | rfl | omega)
  · simp only [if_true, Int32.lt_iff_toInt_lt]
    repeat' split
    all_goals (first | rfl | omega)
theorem be_2 (w : Bool) (a b : Int32) : sr_be w a b = sr_be w b a := by
  apply Int32.toInt_inj.mp
  unfold sr_be sr_mx sr_mn
  rcases w with _ | _
  · simp only [Bool.false_eq_true, if_false, Int32.lt_iff_toInt_lt]
    repeat' split
    all_goals (first | rfl | omega)
  · simp only [if_true, Int32.lt_iff_toInt_lt]
    repeat' split
    all_goals (first | rfl | omega)
theorem eq_bf (kb : Int32) : ∀ m t c D, wf c D → c + m < 1000000 → flt t m (dF kb m t D) = sr_bf kb m t D ∧ 0 ≤ (sr_bf kb m t D).toInt
  | 0, t, c, D, hw, _ => ⟨rfl, gp_0 hw⟩
  | m + 1, t, c, D, hw, hc => by
    have x : ∀ i, i < 3 → flt (t + 1) m (sb (dF kb (m + 1) t D) i m) = match sd_st D (nI (du_f i t)) kb with | none => -4 | some E => sr_bf kb m (t + 1) E := by
      intro i hi
      rw [flt_cong (t + 1) m (sb (dF kb (m + 1) t D) i m) (fun c => match sd_st D (nI (du_f i t)) kb with | none => -4 | some E => dF kb m (t + 1) E c) (fun j hj => dF_s kb m t D i j hi hj)]
      rcases hE : sd_st D (nI (du_f i t)) kb with _ | E
      · exact flt_m4 _ _
      · exact (eq_bf kb m (t + 1) (c + 1) E (wf_go hw (by omega) hE) (by omega)).1
    have pos : ∀ f E, sd_st D f kb = some E → 0 ≤ (sr_bf kb m (t + 1) E).toInt := fun f E hE => (eq_bf kb m (t + 1) (c + 1) E (wf_go hw (by omega) hE) (by omega)).2
    have hR := wf_rest hw kb
    have hT := wf_turn hw kb
    have eR : sr_rest D kb = (D.1, D.2.1, D.2.2.1, D.2.2.2.1, D.2.2.2.2.1, D.2.2.2.2.2 + 1) := by unfold sr_rest; rw [hR]; rfl
    have x1 := x 1 (by decide)
    have x2 := x 2 (by decide)
    have x0 := x 0 (by decide)
    have f1 : nI (du_f 1 t) = 2 := rfl
    have f2 : nI (du_f 2 t) = 3 := rfl
    have f0 : nI (du_f 0 t) = if t % 2 = 0 then 0 else 1 := by
      unfold du_f
      rcases (show t % 2 = 0 ∨ t % 2 = 1 by omega) with e | e <;> rw [e] <;> rfl
    rw [f1, hT] at x1
    rw [f2, hR, ← eR] at x2
    rw [f0] at x0
    have x1 : flt (t + 1) m (sb (dF kb (m + 1) t D) 1 m) = sr_bf kb m (t + 1) (sd_go D 2 0) := x1
    have x2 : flt (t + 1) m (sb (dF kb (m + 1) t D) 2 m) = sr_bf kb m (t + 1) (sr_rest D kb) := x2
    have p1 := pos 2 _ hT
    have p2 := pos 3 _ (by rw [hR, ← eR])
    rw [flt_top, x1, x2]
    have hs : sr_bf kb (m + 1) t D = match sd_st D (if t % 2 = 0 then 0 else 1) kb with | none => sr_be (t % 2 == 0) (sr_bf kb m (t + 1) (sr_rest D kb)) (sr_bf kb m (t + 1) (sd_go D 2 0)) | some E => sr_be (t % 2 == 0) (sr_be (t % 2 == 0) (sr_bf kb m (t + 1) (sr_rest D kb)) (sr_bf kb m (t + 1) (sd_go D 2 0))) (sr_bf kb m (t + 1) E) := by
      simp only [sr_bf, hT]
      rcases sd_st D (if t % 2 = 0 then 0 else 1) kb with _ | E <;> rfl
    rw [hs]
    rcases hE : sd_st D (if t % 2 = 0 then 0 else 1) kb with _ | E
    · rw [hE] at x0
      have x0 : flt (t + 1) m (sb (dF kb (m + 1) t D) 0 m) = -4 := x0
      rw [x0, be_m4]
      obtain ⟨a1, a2⟩ := be_ok (t % 2 == 0) _ _ p2 p1
      refine ⟨?_, a2⟩
      rw [(be_ok (t % 2 == 0) _ _ p1 p2).1, be_2]
    · rw [hE] at x0
      have x0 : flt (t + 1) m (sb (dF kb (m + 1) t D) 0 m) = sr_bf kb m (t + 1) E := x0
      have p0 := pos _ _ hE
      obtain ⟨a1, a2⟩ := be_ok (t % 2 == 0) _ _ p2 p1
      obtain ⟨b1, b2⟩ := be_ok (t % 2 == 0) _ _ a2 p0
      refine ⟨?_, b2⟩
      obtain ⟨d1, d2⟩ := be_ok (t % 2 == 0) _ _ p0 p1
      rw [x0, d1, (be_ok (t % 2 == 0) _ _ d2 p2).1, be_3]
theorem eq_duel {c : Nat} {D : sd_D} (kb : Int32) (n : Nat) (hw : wf c D) (hc : c + n < 1000000) : fl (du_F kb D n) n = sr_bf kb n 0 D := by
  rw [fl_flt]
  exact (eq_bf kb n 0 c D hw hc).1
