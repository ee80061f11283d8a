/-! ===== free, reach, meet: deep with a bound = by lengths ===== -/
theorem se_in_app (P : Nat → Bool) : ∀ m1 m2 c, se_in P (m1 + m2) c = match se_in P m1 c with | some r => some r | none => se_in P m2 (c + m1)
  | 0, m2, c => by rw [Nat.zero_add]; rfl
  | m1 + 1, m2, c => by
    rw [show m1 + 1 + m2 = (m1 + m2) + 1 by omega]
    simp only [se_in]
    by_cases h : P c = true
    · rw [if_pos h, if_pos h]
    · rw [if_neg h, if_neg h, se_in_app P m1 m2 (c + 1), show c + 1 + m1 = c + (m1 + 1) by omega]
theorem se_in_cong {P R : Nat → Bool} (s : Nat) : ∀ m c, (∀ j, c ≤ j → j < c + m → P (s + j) = R j) → se_in P m (s + c) = (se_in R m c).map (fun x => s + x)
  | 0, _, _ => rfl
  | m + 1, c, h => by
    simp only [se_in]
    rw [h c (Nat.le_refl _) (by omega)]
    by_cases q : R c = true
    · rw [if_pos q, if_pos q]; rfl
    · rw [if_neg q, if_neg q]
      exact se_in_cong s m (c + 1) (fun j h1 h2 => h j (by omega) (by omega))
theorem se_in_no : ∀ m c, se_in (fun _ => false) m c = none
  | 0, _ => rfl
  | m + 1, c => by simp only [se_in]; exact se_in_no m (c + 1)
/-- the first row of n figures -/
def ff (G : sd_D → Bool) (kb : Int32) (D : sd_D) (n : Nat) : Option Nat := se_in (se_P G kb D n) (3 ^ n) 0
def fE (G : sd_D → Bool) (kb : Int32) (D : sd_D) (f n : Nat) : Option Nat := match sd_st D (nI f) kb with | none => none | some E => ff G kb E n
theorem ff_0 (G : sd_D → Bool) (kb : Int32) (D : sd_D) : ff G kb D 0 = if G D = true then some 0 else none := by
  simp [ff, se_in, se_P, dr]
theorem ff_blk (G : sd_D → Bool) (kb : Int32) (D : sd_D) (n f : Nat) (hf : f < 3) : se_in (se_P G kb D (n + 1)) (3 ^ n) (f * 3 ^ n) = (fE G kb D f n).map (fun x => f * 3 ^ n + x) := by
  have hp : 0 < 3 ^ n := p3_pos n
  have dg : ∀ j, j < 3 ^ n → (f * 3 ^ n + j) / 3 ^ n % 3 = f := by
    intro j hj
    rw [Nat.add_comm, Nat.add_mul_div_right _ _ hp, Nat.div_eq_of_lt hj]; omega
  unfold fE
  rcases h : sd_st D (nI f) kb with _ | E
  · have := se_in_cong (P := se_P G kb D (n + 1)) (R := fun _ => false) (f * 3 ^ n) (3 ^ n) 0 (fun j h1 h2 => by
      simp only [se_P, dr]
      rw [dg j (by omega), h]
      rfl)
    rw [show se_in (se_P G kb D (n + 1)) (3 ^ n) (f * 3 ^ n) = _ from this, se_in_no]
  · have := se_in_cong (P := se_P G kb D (n + 1)) (R := se_P G kb E n) (f * 3 ^ n) (3 ^ n) 0 (fun j h1 h2 => by
      simp only [se_P, dr]
      rw [dg j (by omega), h]
      simp only [dr_low kb f n j n (Nat.le_refl n)])
    exact this
theorem ff_s (G : sd_D → Bool) (kb : Int32) (D : sd_D) (n : Nat) : ff G kb D (n + 1) = match fE G kb D 0 n with | some c => some (0 * 3 ^ n + c) | none => match fE G kb D 1 n with | some c => some (1 * 3 ^ n + c) | none => (fE G kb D 2 n).map (fun x => 2 * 3 ^ n + x) := by
  have e : 3 ^ (n + 1) = 3 ^ n + (3 ^ n + 3 ^ n) := by rw [Nat.pow_succ]; omega
  have b0 := ff_blk G kb D n 0 (by decide)
  have b1 := ff_blk G kb D n 1 (by decide)
  have b2 := ff_blk G kb D n 2 (by decide)
  have b0 : se_in (se_P G kb D (n + 1)) (3 ^ n) 0 = Option.map (fun x => 0 * 3 ^ n + x) (fE G kb D 0 n) := by rw [← b0, Nat.zero_mul]
  unfold ff
  rw [e, se_in_app, se_in_app, b0]
  rw [show 0 + 3 ^ n = 1 * 3 ^ n by omega, b1, show 1 * 3 ^ n + 3 ^ n = 2 * 3 ^ n by omega, b2]
  rcases fE G kb D 0 n with _ | c <;> rcases fE G kb D 1 n with _ | c1 <;> rfl
theorem ff_none (G : sd_D → Bool) (kb : Int32) (D : sd_D) (n : Nat) (h : ∀ f, f < 3 → fE G kb D f n = none) : ff G kb D (n + 1) = none := by
  rw [ff_s, h 0 (by decide), h 1 (by decide), h 2 (by decide)]; rfl
theorem ff_some (G : sd_D → Bool) (kb : Int32) (D : sd_D) (n f c : Nat) (hf : f < 3) (h : ∀ g, g < f → fE G kb D g n = none) (hc : fE G kb D f n = some c) : ff G kb D (n + 1) = some (f * 3 ^ n + c) := by
  rw [ff_s]
  rcases (show f = 0 ∨ f = 1 ∨ f = 2 by omega) with rfl | rfl | rfl
  · rw [hc]
  · rw [h 0 (by decide), hc]
  · rw [h 0 (by decide), h 1 (by decide), hc]; rfl
theorem ff_lt {G : sd_D → Bool} {kb : Int32} {D : sd_D} {n c : Nat} (h : ff G kb D n = some c) : c < 3 ^ n := by
  have := se_in_lt h; omega
theorem fE_lt {G : sd_D → Bool} {kb : Int32} {D : sd_D} {f n c : Nat} (h : fE G kb D f n = some c) : c < 3 ^ n := by
  unfold fE at h
  split at h
  · cases h
  · exact ff_lt h
/-- a row's figures, laid into bits -/
def rb (c : Nat) : Nat → Nat → Int32 → Int32
  | 0, _, row => row
  | n + 1, k, row => rb c n (k + 1) (row ||| (nI (c / 3 ^ n % 3) <<< ((2 * nI k) &&& 31)))
theorem rb_low (z N c : Nat) : ∀ n, n ≤ N → ∀ k row, rb (z * 3 ^ N + c) n k row = rb c n k row
  | 0, _, _, _ => rfl
  | n + 1, h, k, row => by
    have e : (z * 3 ^ N + c) / 3 ^ n % 3 = c / 3 ^ n % 3 := by
      obtain ⟨q, rfl⟩ : ∃ q, N = n + 1 + q := ⟨N - n - 1, by omega⟩
      have hp : 0 < 3 ^ n := p3_pos n
      have e1 : z * 3 ^ (n + 1 + q) = 3 ^ n * (3 * (z * 3 ^ q)) := by
        rw [Nat.pow_add, Nat.pow_succ]
        simp only [Nat.mul_assoc, Nat.mul_comm, Nat.mul_left_comm]
      rw [e1, Nat.add_comm, Nat.add_mul_div_left _ _ hp]
      omega
    unfold rb
    rw [e]
    exact rb_low z N c n (by omega) _ _
theorem rb_s {f n c k : Nat} {row : Int32} (hf : f < 3) (hc : c < 3 ^ n) : rb (f * 3 ^ n + c) (n + 1) k row = rb c n (k + 1) (row ||| (nI f <<< ((2 * nI k) &&& 31))) := by
  have hp : 0 < 3 ^ n := p3_pos n
  have e : (f * 3 ^ n + c) / 3 ^ n % 3 = f := by
    rw [Nat.add_comm, Nat.add_mul_div_right _ _ hp, Nat.div_eq_of_lt hc]; omega
  show rb (f * 3 ^ n + c) n (k + 1) (row ||| (nI ((f * 3 ^ n + c) / 3 ^ n % 3) <<< ((2 * nI k) &&& 31))) = _
  rw [e, rb_low f n c n (Nat.le_refl n)]
/-- what seek finds -/
def sk_sp (G : sd_D → Bool) (kb : Int32) (m k : Nat) (row : Int32) (D : sd_D) (br out : Nat × Int32) : Prop :=
  (∃ n c, n ≤ m ∧ k + n < br.1 ∧ ff G kb D n = some c ∧ (∀ j, j < n → ff G kb D j = none) ∧ out = (k + n, rb c n k row)) ∨ ((∀ j, j ≤ m → k + j < br.1 → ff G kb D j = none) ∧ out = br)
/-- what the first t figures' seeks have found -/
def sk_iv (G : sd_D → Bool) (kb : Int32) (m k : Nat) (row : Int32) (D : sd_D) (br : Nat × Int32) (t : Nat) (out : Nat × Int32) : Prop :=
  (∃ n c f, f < t ∧ n ≤ m ∧ k + 1 + n < br.1 ∧ fE G kb D f n = some c ∧ (∀ g, g < f → fE G kb D g n = none) ∧ (∀ g, g < t → ∀ j, j < n → fE G kb D g j = none) ∧ out = (k + 1 + n, rb c n (k + 1) (row ||| (nI f <<< ((2 * nI k) &&& 31))))) ∨ ((∀ g, g < t → ∀ j, j ≤ m → k + 1 + j < br.1 → fE G kb D g j = none) ∧ out = br)
theorem sk_step (G : sd_D → Bool) (kb : Int32) (m k : Nat) (row : Int32) (D : sd_D) (ih : ∀ k row D br, sk_sp G kb m k row D br (sr_sk G kb m k row D br)) (br : Nat × Int32) (t : Nat) (out : Nat × Int32) (h : sk_iv G kb m k row D br t out) : sk_iv G kb m k row D br (t + 1) (sr_s1 G kb m k row D t out) := by
  have hlt : ∀ g, g < t + 1 → g < t ∨ g = t := fun g q => by omega
  rcases hE : sd_st D (nI t) kb with _ | E
  · have hf : ∀ j, fE G kb D t j = none := fun j => by unfold fE; rw [hE]
    have ho : sr_s1 G kb m k row D t out = out := by
      unfold sr_s1
      split
      · rfl
      · rw [hE]
    rw [ho]
    rcases h with ⟨n, c, f, h1, h2, h3, h4, h5, h6, h7⟩ | ⟨h1, h2⟩
    · refine Or.inl ⟨n, c, f, by omega, h2, h3, h4, h5, fun g hg j hj => ?_, h7⟩
      rcases hlt g hg with q | rfl
      · exact h6 g q j hj
      · exact hf j
    · refine Or.inr ⟨fun g hg j hj hb => ?_, h2⟩
      rcases hlt g hg with q | rfl
      · exact h1 g q j hj hb
      · exact hf j
  · have hf : ∀ j, fE G kb D t j = ff G kb E j := fun j => by unfold fE; rw [hE]
    by_cases hb : out.1 ≤ k + 1
    · have ho : sr_s1 G kb m k row D t out = out := by unfold sr_s1; rw [if_pos hb]
      rw [ho]
      rcases h with ⟨n, c, f, h1, h2, h3, h4, h5, h6, h7⟩ | ⟨h1, h2⟩
      · have hn : n = 0 := by rw [h7] at hb; have hb : k + 1 + n ≤ k + 1 := hb; omega
        exact Or.inl ⟨n, c, f, by omega, h2, h3, h4, h5, fun g hg j hj => by omega, h7⟩
      · refine Or.inr ⟨fun g hg j hj q => ?_, h2⟩
        rw [h2] at hb; omega
    · have ho : sr_s1 G kb m k row D t out = sr_sk G kb m (k + 1) (row ||| (nI t <<< ((2 * nI k) &&& 31))) E out := by unfold sr_s1; rw [if_neg hb, hE]
      rw [ho]
      rcases ih (k + 1) (row ||| (nI t <<< ((2 * nI k) &&& 31))) E out with ⟨n', c', a1, a2, a3, a4, a5⟩ | ⟨a1, a2⟩
      · rw [a5]
        rcases h with ⟨n, c, f, h1, h2, h3, h4, h5, h6, h7⟩ | ⟨h1, h2⟩
        · rw [h7] at a2
          have a2 : k + 1 + n' < k + 1 + n := a2
          refine Or.inl ⟨n', c', t, by omega, a1, by omega, by rw [hf]; exact a3, fun g hg => h6 g hg n' (by omega), fun g hg j hj => ?_, rfl⟩
          rcases hlt g hg with q | rfl
          · exact h6 g q j (by omega)
          · rw [hf]; exact a4 j hj
        · rw [h2] at a2
          refine Or.inl ⟨n', c', t, by omega, a1, a2, by rw [hf]; exact a3, fun g hg => h1 g hg n' a1 a2, fun g hg j hj => ?_, rfl⟩
          rcases hlt g hg with q | rfl
          · exact h1 g q j (by omega) (by omega)
          · rw [hf]; exact a4 j hj
      · rw [a2]
        rcases h with ⟨n, c, f, h1, h2, h3, h4, h5, h6, h7⟩ | ⟨h1, h2⟩
        · refine Or.inl ⟨n, c, f, by omega, h2, h3, h4, h5, fun g hg j hj => ?_, h7⟩
          rcases hlt g hg with q | rfl
          · exact h6 g q j hj
          · rw [hf]; exact a1 j (by omega) (by rw [h7]; show k + 1 + j < k + 1 + n; omega)
        · refine Or.inr ⟨fun g hg j hj q => ?_, h2⟩
          rcases hlt g hg with q' | rfl
          · exact h1 g q' j hj q
          · rw [hf]; exact a1 j hj (by rw [h2]; exact q)
theorem sk_ok (G : sd_D → Bool) (kb : Int32) : ∀ m k row D br, sk_sp G kb m k row D br (sr_sk G kb m k row D br)
  | 0, k, row, D, br => by
    unfold sr_sk
    by_cases h : br.1 ≤ k
    · rw [if_pos h]
      exact Or.inr ⟨fun j _ q => by omega, rfl⟩
    · rw [if_neg h]
      by_cases hG : G D = true
      · rw [if_pos hG]
        exact Or.inl ⟨0, 0, by omega, by omega, by rw [ff_0, if_pos hG], fun j q => by omega, rfl⟩
      · rw [if_neg hG]
        refine Or.inr ⟨fun j hj q => ?_, rfl⟩
        obtain rfl : j = 0 := by omega
        rw [ff_0, if_neg hG]
  | m + 1, k, row, D, br => by
    rw [sr_sk_s]
    by_cases h : br.1 ≤ k
    · rw [if_pos h]
      exact Or.inr ⟨fun j _ q => by omega, rfl⟩
    · rw [if_neg h]
      by_cases hG : G D = true
      · rw [if_pos hG]
        exact Or.inl ⟨0, 0, by omega, by omega, by rw [ff_0, if_pos hG], fun j q => by omega, rfl⟩
      · rw [if_neg hG]
        have ih := sk_ok G kb m
        have i0 : sk_iv G kb m k row D br 0 br := Or.inr ⟨fun g hg => by omega, rfl⟩
        have i3 := sk_step G kb m k row D ih br 2 _ (sk_step G kb m k row D ih br 1 _ (sk_step G kb m k row D ih br 0 br i0))
        have h0 : ff G kb D 0 = none := by rw [ff_0, if_neg hG]
        show sk_sp G kb (m + 1) k row D br (sr_s1 G kb m k row D 2 (sr_s1 G kb m k row D 1 (sr_s1 G kb m k row D 0 br)))
        rcases i3 with ⟨n, c, f, h1, h2, h3, h4, h5, h6, h7⟩ | ⟨h1, h2⟩
        · refine Or.inl ⟨n + 1, f * 3 ^ n + c, by omega, by omega, ff_some G kb D n f c h1 h5 h4, fun j hj => ?_, ?_⟩
          · rcases j with _ | j
            · exact h0
            · exact ff_none G kb D j (fun g hg => h6 g hg j (by omega))
          · rw [h7, rb_s h1 (fE_lt h4), show k + 1 + n = k + (n + 1) by omega]
        · refine Or.inr ⟨fun j hj q => ?_, h2⟩
          rcases j with _ | j
          · exact h0
          · exact ff_none G kb D j (fun g hg => h1 g hg j (by omega) (by omega))
theorem se_out_f (G : sd_D → Bool) (kb : Int32) (D : sd_D) : ∀ m s n c, s ≤ n → n < s + m → ff G kb D n = some c → (∀ j, s ≤ j → j < n → ff G kb D j = none) → se_out G kb D m s = some (n, c)
  | 0, s, n, c, h1, h2, _, _ => by omega
  | m + 1, s, n, c, h1, h2, h3, h4 => by
    unfold se_out
    rcases Nat.eq_or_lt_of_le h1 with rfl | q
    · rw [show se_in (se_P G kb D s) (3 ^ s) 0 = some c from h3]
    · rw [show se_in (se_P G kb D s) (3 ^ s) 0 = none from h4 s (Nat.le_refl _) q]
      exact se_out_f G kb D m (s + 1) n c q (by omega) h3 (fun j a b => h4 j (by omega) b)
theorem se_out_n (G : sd_D → Bool) (kb : Int32) (D : sd_D) : ∀ m s, (∀ j, s ≤ j → j < s + m → ff G kb D j = none) → se_out G kb D m s = none
  | 0, s, _ => rfl
  | m + 1, s, h => by
    unfold se_out
    rw [show se_in (se_P G kb D s) (3 ^ s) 0 = none from h s (Nat.le_refl _) (by omega)]
    exact se_out_n G kb D m (s + 1) (fun j a b => h j (by omega) (by omega))
/-- the bits, read again -/
theorem rb_who (c : Nat) : ∀ n k G, G < 4 ^ k → k + n ≤ 7 → ∃ G', rb c n k (nI G) = nI G' ∧ G' < 4 ^ (k + n) ∧ (∀ j, j < k → sd_who (nI G') (nI j) = sd_who (nI G) (nI j)) ∧ ∀ j, j < n → sd_who (nI G') (nI (k + j)) = nI (c / 3 ^ (n - 1 - j) % 3)
  | 0, k, G, hG, _ => ⟨G, rfl, hG, fun _ _ => rfl, fun j hj => by omega⟩
  | n + 1, k, G, hG, hk => by
    have hd : c / 3 ^ n % 3 < 4 := by omega
    obtain ⟨g1, g2, g3⟩ := gd_all (X := (k, 0, nI G, 0)) (by show k < 12; omega) hd G hG rfl
    have g1 : nI G ||| (nI (c / 3 ^ n % 3) <<< ((2 * nI k) &&& 31)) = nI (G + c / 3 ^ n % 3 * 4 ^ k) := g1
    have g2 : ∀ j, j < k → sd_who (nI (G + c / 3 ^ n % 3 * 4 ^ k)) (nI j) = sd_who (nI G) (nI j) := g2
    have g3 : sd_who (nI (G + c / 3 ^ n % 3 * 4 ^ k)) (nI k) = nI (c / 3 ^ n % 3) := g3
    have hG2 : G + c / 3 ^ n % 3 * 4 ^ k < 4 ^ (k + 1) := by
      have : c / 3 ^ n % 3 * 4 ^ k ≤ 2 * 4 ^ k := Nat.mul_le_mul_right _ (by omega)
      rw [Nat.pow_succ]; omega
    obtain ⟨G', a1, a2, a3, a4⟩ := rb_who c n (k + 1) _ hG2 (by omega)
    refine ⟨G', ?_, by rw [show k + (n + 1) = k + 1 + n by omega]; exact a2, fun j hj => ?_, fun j hj => ?_⟩
    · show rb c n (k + 1) (nI G ||| (nI (c / 3 ^ n % 3) <<< ((2 * nI k) &&& 31))) = nI G'
      rw [g1]; exact a1
    · rw [a3 j (by omega)]; exact g2 j hj
    · rcases j with _ | j
      · rw [Nat.add_zero, a3 k (by omega), g3, show n + 1 - 1 - 0 = n by omega]
      · have := a4 j (by omega)
        rw [show k + 1 + j = k + (j + 1) by omega] at this
        rw [this, show n + 1 - 1 - (j + 1) = n - 1 - j by omega]
theorem eq_few (G : sd_D → Bool) (kb : Int32) (D : sd_D) (k : Int32) (hk : hp_rg (-1) 6 k = true) : fe_out (fe_b G kb D) k = te_out (se_out G kb D 8 0) k := by
  have hk : -1 ≤ k.toInt ∧ k.toInt ≤ 6 := by simpa [hp_rg] using hk
  rcases sk_ok G kb 7 0 0 D (8, 0) with ⟨n, c, h1, h2, h3, h4, h5⟩ | ⟨h1, h2⟩
  · have e1 : fe_b G kb D = (0 + n, rb c n 0 0) := h5
    have e2 : se_out G kb D 8 0 = some (n, c) := se_out_f G kb D 8 0 n c (by omega) (by omega) h3 (fun j _ q => h4 j q)
    rw [e1, e2, Nat.zero_add]
    obtain ⟨G', a1, a2, a3, a4⟩ := rb_who c n 0 0 (by decide) (by omega)
    have a1 : rb c n 0 0 = nI G' := a1
    unfold fe_out te_out
    show (if n ≤ 7 ∧ k < nI n then (if 0 ≤ k then sd_who (rb c n 0 0) k else nI n) else -4) = (if k < nI n then (if 0 ≤ k then nI (c / 3 ^ (n - 1 - k.toInt.natAbs) % 3) else nI n) else -4)
    by_cases hkn : k < nI n
    · rw [if_pos ⟨h1, hkn⟩, if_pos hkn]
      by_cases h0 : 0 ≤ k
      · rw [if_pos h0, if_pos h0, a1]
        have h0' : (0 : Int32).toInt ≤ k.toInt := Int32.le_iff_toInt_le.mp h0
        have h0' : 0 ≤ k.toInt := h0'
        have ek : k = nI k.toInt.natAbs := by
          apply Int32.toInt_inj.mp
          rw [nI_toInt (by omega)]; omega
        have hlt : k.toInt.natAbs < n := by
          have := Int32.lt_iff_toInt_lt.mp hkn
          rw [nI_toInt (by omega)] at this; omega
        have := a4 _ hlt
        rw [Nat.zero_add, ← ek] at this
        exact this
      · rw [if_neg h0, if_neg h0]
    · rw [if_neg (fun q => hkn q.2), if_neg hkn]
  · have e1 : fe_b G kb D = (8, 0) := h2
    have e2 : se_out G kb D 8 0 = none := se_out_n G kb D 8 0 (fun j _ q => h1 j (by omega) (by show 0 + j < 8; omega))
    rw [e1, e2]
    unfold fe_out te_out
    rw [if_neg (fun q => absurd q.1 (by decide))]
