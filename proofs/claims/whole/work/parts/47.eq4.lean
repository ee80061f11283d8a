/-! ===== odds: over sets = deep ===== -/
def od2 (kb fg : Int32) (x : Nat) : Nat → Nat → Nat → sd_D → Nat × sd_D
  | 0, _, _, D => (1, D)
  | m + 1, r, k, D => if r % 2 = 1 then (fun q : Nat × sd_D => (x * q.1, q.2)) (od2 kb fg x m (r / 2) (k + 1) (sr_rest D kb)) else (fun q : Nat × sd_D => ((10 - x) * q.1, q.2)) (od2 kb fg x m (r / 2) (k + 1) ((sd_st D (sd_who fg (nI k)) kb).getD (sr_rest D kb)))
theorem od_od2 (kb fg : Int32) (x s : Nat) : ∀ m k a D, od kb fg x s m k a D = (a * (od2 kb fg x m (s / 2 ^ k) k D).1, (od2 kb fg x m (s / 2 ^ k) k D).2)
  | 0, k, a, D => by simp [od, od2]
  | m + 1, k, a, D => by
    have e : s / 2 ^ k / 2 = s / 2 ^ (k + 1) := by rw [Nat.div_div_eq_div_mul, Nat.pow_succ]
    unfold od od2
    by_cases h : s / 2 ^ k % 2 = 1
    · rw [if_pos h, if_pos h, od_od2 kb fg x s m (k + 1), e]
      simp only [Nat.mul_assoc]
    · rw [if_neg h, if_neg h, od_od2 kb fg x s m (k + 1), e]
      simp only [Nat.mul_assoc]
def su (f : Nat → Nat) : Nat → Nat
  | 0 => 0
  | n + 1 => su f n + f n
theorem su_2 (f : Nat → Nat) : ∀ n, su f (2 * n) = su (fun i => f (2 * i)) n + su (fun i => f (2 * i + 1)) n
  | 0 => rfl
  | n + 1 => by
    rw [show 2 * (n + 1) = 2 * n + 1 + 1 by omega]
    simp only [su]
    rw [su_2 f n]; omega
theorem su_mul (c : Nat) (f : Nat → Nat) : ∀ n, su (fun i => c * f i) n = c * su f n
  | 0 => by simp [su]
  | n + 1 => by simp only [su]; rw [su_mul c f n, Nat.mul_add]
def od_w (q : Nat × sd_D) : Nat := if q.2.2.2.1 = 0 then q.1 else 0
theorem od_w_mul (c : Nat) (q : Nat × sd_D) : od_w (c * q.1, q.2) = c * od_w q := by
  unfold od_w
  by_cases h : q.2.2.2.1 = 0
  · rw [if_pos h, if_pos h]
  · rw [if_neg h, if_neg h, Nat.mul_zero]
theorem eq_od2 (kb fg : Int32) (x : Nat) : ∀ m k c D, wf c D → c + m < 1000000 → su (fun r => od_w (od2 kb fg x m r k D)) (2 ^ m) = sr_chN (gw 0 1) kb fg x m k D
  | 0, k, c, D, hw, _ => by
    simp only [Nat.pow_zero, su, od2, od_w, sr_chN, ← gw_u0 hw, decide_eq_true_eq, Nat.zero_add]
    by_cases h : D.2.2.1 = 0 <;> simp [h]
  | m + 1, k, c, D, hw, hc => by
    have hR := wf_rst hw kb
    have hWR := wf_go hw (by omega) hR
    have hWE : wf (c + 1) ((sd_st D (sd_who fg (nI k)) kb).getD (sr_rest D kb)) := by
      rcases h : sd_st D (sd_who fg (nI k)) kb with _ | E
      · exact hWR
      · exact wf_go hw (by omega) h
    have i1 := eq_od2 kb fg x m (k + 1) (c + 1) _ hWR (by omega)
    have i2 := eq_od2 kb fg x m (k + 1) (c + 1) _ hWE (by omega)
    have e1 : (fun i => od_w (od2 kb fg x (m + 1) (2 * i) k D)) = fun i => (10 - x) * od_w (od2 kb fg x m i (k + 1) ((sd_st D (sd_who fg (nI k)) kb).getD (sr_rest D kb))) := by
      funext i
      conv => { lhs; unfold od2 }
      rw [if_neg (by omega), show 2 * i / 2 = i by omega]
      exact od_w_mul _ _
    have e2 : (fun i => od_w (od2 kb fg x (m + 1) (2 * i + 1) k D)) = fun i => x * od_w (od2 kb fg x m i (k + 1) (sr_rest D kb)) := by
      funext i
      conv => { lhs; unfold od2 }
      rw [if_pos (by omega), show (2 * i + 1) / 2 = i by omega]
      exact od_w_mul _ _
    rw [Nat.pow_succ, Nat.mul_comm, su_2, e1, e2, su_mul, su_mul, i1, i2, Nat.add_comm]
    rfl
theorem od_s_su (kb fg : Int32) (x : Nat) (D : sd_D) (mn : Nat) : ∀ m s a, a = su (fun r => od_w (od2 kb fg x mn r 0 D)) s → od_s kb fg x D mn m s a = su (fun r => od_w (od2 kb fg x mn r 0 D)) (s + m)
  | 0, _, _, h => h
  | m + 1, s, a, h => by
    unfold od_s
    rw [od_s_su kb fg x D mn m (s + 1) _ (by rw [od_od2, h]; simp only [Nat.pow_zero, Nat.div_one, Nat.one_mul]; rfl), show s + 1 + m = s + (m + 1) by omega]
theorem eq_odds {c : Nat} {D : sd_D} (kb fg : Int32) (x mn : Nat) (hw : wf c D) (hc : c + mn < 1000000) : od_s kb fg x D mn (2 ^ mn) 0 0 = sr_chN (gw 0 1) kb fg x mn 0 D := by
  rw [od_s_su kb fg x D mn (2 ^ mn) 0 0 rfl, Nat.zero_add]
  exact eq_od2 kb fg x mn 0 c D hw hc
