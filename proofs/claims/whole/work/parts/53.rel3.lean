/-! ===== the calls that change something, side by side: text, seen ===== -/
theorem nar_ok : ∀ j, j < 127 → vp_nar .byte (nI j).toInt8.toInt32 = nI j := by decide +kernel
theorem p_write {c : Nat} {σ : rd_S} (hR : RR c σ) (hc : c ≤ 1000) (x : Int32) : pair c σ yX4_write cX4_write 2 yX5_write cX5_write 2 [.int x] := by
  obtain ⟨r1, r2, r3, r4, r5, r6, r7⟩ := id hR
  obtain ⟨n, h1, h2, h3⟩ := r1
  cases hq : hp_rg 32 126 x
  · exact pair_b hR (-1) (c_write_b 49 39 σ (by decide) x hq) (m_write_b 49 39 σ (by decide) x hq)
  · have hx : 32 ≤ x.toInt ∧ x.toInt ≤ 126 := by simpa [hp_rg] using hq
    by_cases hn : n = 200
    · subst hn
      exact pair_b hR (-3) (c_write_f 49 39 σ (by decide) x hq h1) (m_write_f 49 39 σ (by decide) x hq h2.1)
    · have hn2 : n < 200 := by have := h2.2.1; omega
      have ex : vp_nar .byte x.toInt8.toInt32 = x := by
        rw [hp_nI (x := x) (by omega)]
        exact nar_ok _ (by omega)
      have hcw := c_write_s 49 39 σ (by decide) x hq n ⟨h1, h2.2.1⟩ hn2
      rw [ex] at hcw
      refine ⟨nI (n + 1), fun s => s = rd_u2 (rd_u2 σ 2 n x) 1 1 (nI (n + 1)), hcw, fun s hs => ?_⟩
      subst hs
      refine (m_write_s 49 39 _ (by decide) x hq n (by rw [u2_off (by omega), u2_off (by omega)]; exact h2.1) hn2).post (fun r u q => ⟨q.1, ?_⟩)
      rw [q.2]
      have off : ∀ a b, ¬ ((a = 2 ∧ b = n) ∨ (a = 1 ∧ b = 1) ∨ (a = 41 ∧ b = n) ∨ (a = 33 ∧ b = 12)) → rd_u2 (rd_u2 (rd_u2 (rd_u2 σ 2 n x) 1 1 (nI (n + 1))) 41 n x) 33 12 (nI (n + 1)) a b = σ a b := fun a b h => by
        rw [u2_off (by omega), u2_off (by omega), u2_off (by omega), u2_off (by omega)]
      have at2 : ∀ k, rd_u2 (rd_u2 (rd_u2 (rd_u2 σ 2 n x) 1 1 (nI (n + 1))) 41 n x) 33 12 (nI (n + 1)) 2 k = if k = n then x else σ 2 k := fun k => by
        rw [u2_off (by omega), u2_off (by omega), u2_off (by omega)]
        by_cases e : k = n
        · subst e; rw [if_pos rfl, u2_at]
        · rw [if_neg e, u2_off (by omega)]
      have at41 : ∀ k, rd_u2 (rd_u2 (rd_u2 (rd_u2 σ 2 n x) 1 1 (nI (n + 1))) 41 n x) 33 12 (nI (n + 1)) 41 k = if k = n then x else σ 41 k := fun k => by
        rw [u2_off (by omega)]
        by_cases e : k = n
        · subst e; rw [if_pos rfl, u2_at]
        · rw [if_neg e, u2_off (by omega), u2_off (by omega), u2_off (by omega)]
      refine ⟨⟨n + 1, by rw [u2_off (by omega), u2_off (by omega), u2_at], ⟨u2_at _ _ _ _, by omega, fun k hk => ?_⟩, fun k hk => ?_⟩, r2.cong (fun a b q => off a b (by omega)), r3.cong (fun a b q => off a b (by omega)), (r4.cong (fun a b q => off a b (by omega))).up (by omega), (r5.cong (fun a b q => off a b (by omega))).up (by omega), (r6.cong (fun a b q => off a b (by omega))).up (by omega), r7.cong (fun a b q => off a b (by omega))⟩
      · rw [at41]
        by_cases e : k = n
        · rw [if_pos e]; exact hx
        · rw [if_neg e]; exact h2.2.2 k (by omega)
      · rw [at2, at41]
        by_cases e : k = n
        · rw [if_pos e, if_pos e]
        · rw [if_neg e, if_neg e]; exact h3 k (by omega)
theorem p_wipe {c : Nat} {σ : rd_S} (hR : RR c σ) (hc : c ≤ 1000) : pair c σ yX4_wipe cX4_wipe 2 yX5_wipe cX5_wipe 2 [] := by
  obtain ⟨r1, r2, r3, r4, r5, r6, r7⟩ := id hR
  obtain ⟨n, h1, h2, h3⟩ := r1
  refine ⟨σ 1 1, fun s => s = rd_u2 σ 1 1 0, c_X4_wipe 49 39 σ (by decide), fun s hs => ?_⟩
  subst hs
  refine (m_wipe 49 40 _ (by decide)).post (fun r u q => ⟨?_, ?_⟩)
  · rw [q.1, u2_off (by omega), h2.1, h1]
  · rw [q.2]
    have off : ∀ a b, ¬ ((a = 1 ∧ b = 1) ∨ (a = 33 ∧ b = 12)) → rd_u2 (rd_u2 σ 1 1 0) 33 12 0 a b = σ a b := fun a b h => by
      rw [u2_off (by omega), u2_off (by omega)]
    exact ⟨⟨0, by rw [u2_off (by omega), u2_at]; rfl, ⟨u2_at _ _ _ _, by omega, fun k hk => by omega⟩, fun k hk => by omega⟩, r2.cong (fun a b q => off a b (by omega)), r3.cong (fun a b q => off a b (by omega)), (r4.cong (fun a b q => off a b (by omega))).up (by omega), (r5.cong (fun a b q => off a b (by omega))).up (by omega), (r6.cong (fun a b q => off a b (by omega))).up (by omega), r7.cong (fun a b q => off a b (by omega))⟩
theorem p_forget {c : Nat} {σ : rd_S} (hR : RR c σ) (hc : c ≤ 1000) : pair c σ yX4_forget cX4_forget 2 yX5_forget cX5_forget 2 [] := by
  obtain ⟨r1, r2, r3, r4, r5, r6, r7⟩ := id hR
  obtain ⟨sc, s1, s2, s3, s4⟩ := r7
  refine ⟨σ 0 10, fun s => s = rd_u2 σ 0 10 0, c_X4_forget 49 40 σ (by decide), fun s hs => ?_⟩
  subst hs
  refine (m_forget 49 40 _ (by decide)).post (fun r u q => ⟨?_, ?_⟩)
  · rw [q.1, u2_off (by omega), s1, s3]
  · rw [q.2]
    have off : ∀ a b, ¬ ((a = 0 ∧ b = 10) ∨ (a = 33 ∧ b = 10)) → rd_u2 (rd_u2 σ 0 10 0) 33 10 0 a b = σ a b := fun a b h => by
      rw [u2_off (by omega), u2_off (by omega)]
    exact ⟨r1.cong (fun a b q => off a b (by omega)), r2.cong (fun a b q => off a b (by omega)), r3.cong (fun a b q => off a b (by omega)), (r4.cong (fun a b q => off a b (by omega))).up (by omega), (r5.cong (fun a b q => off a b (by omega))).up (by omega), (r6.cong (fun a b q => off a b (by omega))).up (by omega), ⟨0, by rw [u2_off (by omega), u2_at]; rfl, by omega, u2_at _ _ _ _, fun s hs => by omega⟩⟩
theorem p_see {c : Nat} {σ : rd_S} (hR : RR c σ) (hc : c ≤ 1000) (n : Int32) (u : Int32) (l : Int32) : pair c σ yX4_see cX4_see 4 yX5_see cX5_see 4 [.int n, .int u, .int l] := by
  obtain ⟨r1, r2, r3, r4, r5, r6, r7⟩ := id hR
  obtain ⟨sc, s1, s2, s3, s4⟩ := r7
  by_cases hb : hp_rg 0 12 n = false ∨ hp_fr u l = false
  · exact pair_b hR (-1) (c_see_b 49 38 σ (by decide) n u l hb) (m_see_b 49 38 σ (by decide) n u l hb)
  · have hn : hp_rg 0 12 n = true := by cases h : hp_rg 0 12 n; exact absurd (Or.inl h) hb; rfl
    have hq : hp_fr u l = true := by cases h : hp_fr u l; exact absurd (Or.inr h) hb; rfl
    by_cases h6 : sc = 6
    · subst h6
      exact pair_b hR (-3) (c_see_f 49 38 σ (by decide) n u l hn hq s1) (m_see_f 49 38 σ (by decide) n u l hn hq s3)
    · have hlt : sc < 6 := by omega
      obtain ⟨k, hk, rfl⟩ := nI_k (k := 12) hn
      refine ⟨nI (sc + 1), fun s => s = rd_u2 (rd_u2 (rd_u2 (rd_u2 σ 29 sc (nI k)) 30 sc u) 31 sc l) 0 10 (nI (sc + 1)), c_see_s 49 38 σ (by decide) (nI k) u l hn hq sc s1 hlt, fun s hs => ?_⟩
      subst hs
      refine (m_see_s 49 38 _ (by decide) (nI k) u l hn hq sc (by rw [u2_off (by omega), u2_off (by omega), u2_off (by omega), u2_off (by omega)]; exact s3) hlt).post (fun r w q => ⟨q.1, ?_⟩)
      rw [q.2]
      generalize hτ : rd_u2 (rd_u2 (rd_u2 (rd_u2 σ 29 sc (nI k)) 30 sc u) 31 sc l) 0 10 (nI (sc + 1)) = τ
      have t0 : ∀ a b, ¬ ((a = 29 ∧ b = sc) ∨ (a = 30 ∧ b = sc) ∨ (a = 31 ∧ b = sc) ∨ (a = 0 ∧ b = 10)) → τ a b = σ a b := fun a b h => by
        rw [← hτ, u2_off (by omega), u2_off (by omega), u2_off (by omega), u2_off (by omega)]
      have t29 : τ 29 sc = nI k := by rw [← hτ, u2_off (by omega), u2_off (by omega), u2_off (by omega), u2_at]
      have t30 : τ 30 sc = u := by rw [← hτ, u2_off (by omega), u2_off (by omega), u2_at]
      have t31 : τ 31 sc = l := by rw [← hτ, u2_off (by omega), u2_at]
      have t10 : τ 0 10 = nI (sc + 1) := by rw [← hτ, u2_at]
      have off : ∀ a b, ¬ ((a = 40 ∧ (b = 3 * sc ∨ b = 3 * sc + 1 ∨ b = 3 * sc + 2)) ∨ (a = 33 ∧ b = 10)) → rd_u2 (rd_u2 (rd_u2 (rd_u2 τ 40 (3 * sc) (nI k)) 40 (3 * sc + 1) u) 40 (3 * sc + 2) l) 33 10 (nI (sc + 1)) a b = τ a b := fun a b h => by
        rw [u2_off (by omega), u2_off (by omega), u2_off (by omega), u2_off (by omega)]
      have off2 : ∀ a b, ¬ (a = 40 ∨ a = 29 ∨ a = 30 ∨ a = 31 ∨ ((a = 0 ∨ a = 33) ∧ b = 10)) → rd_u2 (rd_u2 (rd_u2 (rd_u2 τ 40 (3 * sc) (nI k)) 40 (3 * sc + 1) u) 40 (3 * sc + 2) l) 33 10 (nI (sc + 1)) a b = σ a b := fun a b h => by
        rw [off a b (by omega), t0 a b (by omega)]
      refine ⟨r1.cong (fun a b q => off2 a b (by omega)), r2.cong (fun a b q => off2 a b (by omega)), r3.cong (fun a b q => off2 a b (by omega)), (r4.cong (fun a b q => off2 a b (by omega))).up (by omega), (r5.cong (fun a b q => off2 a b (by omega))).up (by omega), (r6.cong (fun a b q => off2 a b (by omega))).up (by omega), ⟨sc + 1, by rw [off _ _ (by omega)]; exact t10, by omega, u2_at _ _ _ _, fun t ht => ?_⟩⟩
      by_cases e : t = sc
      · subst e
        refine ⟨k, hk, by rw [off _ _ (by omega)]; exact t29, ?_, ?_, ?_⟩
        · rw [u2_off (by omega), u2_off (by omega), u2_off (by omega), u2_at]
        · rw [u2_off (by omega), u2_off (by omega), u2_at, off _ _ (by omega), t30]
        · rw [u2_off (by omega), u2_at, off _ _ (by omega), t31]
      · obtain ⟨m, a1, a2, a3, a4, a5⟩ := s4 t (by omega)
        have f40 : ∀ j, j < 3 * sc → rd_u2 (rd_u2 (rd_u2 (rd_u2 τ 40 (3 * sc) (nI k)) 40 (3 * sc + 1) u) 40 (3 * sc + 2) l) 33 10 (nI (sc + 1)) 40 j = σ 40 j := fun j hj => by rw [off _ _ (by omega), t0 _ _ (by omega)]
        refine ⟨m, a1, by rw [off _ _ (by omega), t0 _ _ (by omega)]; exact a2, by rw [f40 _ (by omega)]; exact a3, by rw [f40 _ (by omega), off _ _ (by omega), t0 30 _ (by omega)]; exact a4, by rw [f40 _ (by omega), off _ _ (by omega), t0 31 _ (by omega)]; exact a5⟩
