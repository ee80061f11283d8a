/-! ===== ways: counting deep = counting rows ===== -/
theorem wc_acc (P : Nat → Bool) : ∀ m c a, wc P m c a = a + wc P m c 0
  | 0, _, _ => rfl
  | m + 1, c, a => by
    unfold wc
    rw [wc_acc P m (c + 1) (a + _), wc_acc P m (c + 1) (0 + _)]
    omega
theorem wc_app (P : Nat → Bool) : ∀ m1 m2 c a, wc P (m1 + m2) c a = wc P m2 (c + m1) (wc P m1 c a)
  | 0, m2, c, a => by rw [Nat.zero_add]; rfl
  | m1 + 1, m2, c, a => by
    rw [show m1 + 1 + m2 = (m1 + m2) + 1 by omega]
    conv => { lhs; unfold wc }
    rw [wc_app P m1 m2 (c + 1) _, show c + 1 + m1 = c + (m1 + 1) by omega]
    rfl
theorem wc_cong {P R : Nat → Bool} : ∀ m c s a, (∀ j, c ≤ j → j < c + m → P (s + j) = R j) → wc P m (s + c) a = wc R m c a
  | 0, _, _, _, _ => rfl
  | m + 1, c, s, a, h => by
    unfold wc
    rw [h c (Nat.le_refl _) (by omega)]
    exact wc_cong m (c + 1) s _ (fun j h1 h2 => h j (by omega) (by omega))
theorem dr_low (kb : Int32) (z n c : Nat) : ∀ m, m ≤ n → ∀ E, dr kb (z * 3 ^ n + c) m E = dr kb c m E
  | 0, _, _ => rfl
  | m + 1, h, E => by
    have e : (z * 3 ^ n + c) / 3 ^ m % 3 = c / 3 ^ m % 3 := by
      obtain ⟨q, rfl⟩ : ∃ q, n = m + 1 + q := ⟨n - m - 1, by omega⟩
      have hp : 0 < 3 ^ m := p3_pos m
      have e1 : z * 3 ^ (m + 1 + q) = 3 ^ m * (3 * (z * 3 ^ q)) := by
        rw [Nat.pow_add, Nat.pow_succ]
        simp only [Nat.mul_assoc, Nat.mul_comm, Nat.mul_left_comm]
      rw [e1, Nat.add_comm, Nat.add_mul_div_left _ _ hp]
      omega
    unfold dr
    rw [e]
    split
    · rfl
    · exact dr_low kb z n c m (by omega) _
theorem se_blk (G : sd_D → Bool) (kb : Int32) (D : sd_D) (n f : Nat) (hf : f < 3) : wc (se_P G kb D (n + 1)) (3 ^ n) (f * 3 ^ n + 0) 0 = match sd_st D (nI f) kb with | none => 0 | some E => wc (se_P G kb E n) (3 ^ n) 0 0 := by
  have hp : 0 < 3 ^ n := p3_pos n
  have dg : ∀ j, j < 3 ^ n → (f * 3 ^ n + j) / 3 ^ n % 3 = f := by
    intro j hj
    rw [Nat.add_comm, Nat.add_mul_div_right _ _ hp, Nat.div_eq_of_lt hj]; omega
  rcases h : sd_st D (nI f) kb with _ | E
  · rw [wc_cong (R := fun _ => false) (3 ^ n) 0 (f * 3 ^ n) 0 (fun j h1 h2 => by
      simp only [se_P, dr]
      rw [dg j (by omega), h]
      rfl)]
    have z : ∀ m c, wc (fun _ => false) m c 0 = 0 := by
      intro m
      induction m with
      | zero => intro c; rfl
      | succ m ih => intro c; exact ih (c + 1)
    exact z _ _
  · refine wc_cong (3 ^ n) 0 (f * 3 ^ n) 0 (fun j h1 h2 => ?_)
    simp only [se_P, dr]
    rw [dg j (by omega), h]
    simp only [dr_low kb f n j n (Nat.le_refl n)]
theorem eq_cnt (G : sd_D → Bool) (kb : Int32) : ∀ n D, wc (se_P G kb D n) (3 ^ n) 0 0 = sr_cnt G kb n D
  | 0, D => by simp [wc, se_P, dr, sr_cnt]
  | n + 1, D => by
    have e : 3 ^ (n + 1) = 3 ^ n + (3 ^ n + 3 ^ n) := by rw [Nat.pow_succ]; omega
    have b0 := se_blk G kb D n 0 (by decide)
    have b1 := se_blk G kb D n 1 (by decide)
    have b2 := se_blk G kb D n 2 (by decide)
    rw [Nat.zero_mul, Nat.zero_add] at b0
    rw [show 1 * 3 ^ n + 0 = 3 ^ n by omega] at b1
    rw [show 2 * 3 ^ n + 0 = 2 * 3 ^ n by omega] at b2
    have c : ∀ f, (match sd_st D (nI f) kb with | none => 0 | some E => wc (se_P G kb E n) (3 ^ n) 0 0) = sr_c1 G kb n D f := by
      intro f
      unfold sr_c1
      rcases sd_st D (nI f) kb with _ | E
      · rfl
      · exact eq_cnt G kb n E
    rw [e, wc_app, wc_app, wc_acc _ _ _ (wc _ _ _ (wc _ _ _ _)), wc_acc _ _ _ (wc _ _ _ _), Nat.zero_add, show 3 ^ n + 3 ^ n = 2 * 3 ^ n by omega, b0.trans (c 0), b1.trans (c 1), b2.trans (c 2), sr_cnt_s]
    show _ = sr_c1 G kb n D 0 + (sr_c1 G kb n D 1 + (sr_c1 G kb n D 2 + 0))
    omega
