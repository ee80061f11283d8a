/-! ===== the calls that change something, side by side: piles ===== -/
theorem kp_push {c d o b C ar ct nx sz : Nat} {s σ : rd_S} {D : sd_D} (hC : C = 8 ∨ C = 2) (hn : nx ≤ C) (hz : sz ≤ C) (h6 : ∀ k, k < sz → wf c (sd_rd σ (b + (nx + C - sz + k) % C)) ∧ ∀ j, j < 12 → σ ar (12 * k + j) = md_of (sd_rd σ (b + (nx + C - sz + k) % C)) j) (hcd : c ≤ d) (hD : wf c D)
    (e1 : s o 1 = nI (pl_slot C nx + 1)) (e2 : s o 2 = nI (min (sz + 1) C)) (e3 : s 33 ct = nI (min (sz + 1) C)) (e4 : sd_rd s (b + pl_slot C nx) = D) (e5 : ∀ j, j < C → j ≠ pl_slot C nx → sd_rd s (b + j) = sd_rd σ (b + j))
    (e6 : sz < C → (∀ j, j < 12 → s ar (12 * sz + j) = md_of D j) ∧ ∀ i, i < 12 * sz → s ar i = σ ar i) (e7 : sz = C → (∀ j, j < 12 → s ar (12 * (C - 1) + j) = md_of D j) ∧ ∀ i, i < 12 * (C - 1) → s ar i = σ ar (i + 12)) : kp d o b C ar ct s := by
  have hs : pl_slot C nx < C := pl_slot_lt (by omega)
  have hs2 : (nx < C ∧ pl_slot C nx = nx) ∨ (nx = C ∧ pl_slot C nx = 0) := by
    unfold pl_slot
    by_cases q : nx < C
    · rw [if_pos q]; exact Or.inl ⟨q, rfl⟩
    · rw [if_neg q]; exact Or.inr ⟨by omega, rfl⟩
  generalize pl_slot C nx = sl at *
  refine ⟨sl + 1, min (sz + 1) C, e1, by omega, e2, by omega, e3, fun k hk => ?_⟩
  by_cases hf : sz < C
  · obtain ⟨f1, f2⟩ := e6 hf
    have hm : min (sz + 1) C = sz + 1 := by omega
    rw [hm] at hk ⊢
    by_cases hks : k = sz
    · subst hks
      have ei : (sl + 1 + C - (k + 1) + k) % C = sl := by rcases hC with rfl | rfl <;> omega
      rw [ei, e4]
      exact ⟨hD.up hcd, f1⟩
    · have ei : (sl + 1 + C - (sz + 1) + k) % C = (nx + C - sz + k) % C := by rcases hC with rfl | rfl <;> omega
      have en : (nx + C - sz + k) % C ≠ sl := by rcases hC with rfl | rfl <;> omega
      have el : (nx + C - sz + k) % C < C := by rcases hC with rfl | rfl <;> omega
      rw [ei, e5 _ el en]
      obtain ⟨g1, g2⟩ := h6 k (by omega)
      exact ⟨g1.up hcd, fun j hj => by rw [f2 _ (by omega)]; exact g2 j hj⟩
  · have hz2 : sz = C := by omega
    subst hz2
    obtain ⟨f1, f2⟩ := e7 rfl
    have hm : min (sz + 1) sz = sz := by omega
    rw [hm] at hk ⊢
    by_cases hks : k = sz - 1
    · subst hks
      have ei : (sl + 1 + sz - sz + (sz - 1)) % sz = sl := by rcases hC with rfl | rfl <;> omega
      rw [ei, e4]
      exact ⟨hD.up hcd, f1⟩
    · have ei : (sl + 1 + sz - sz + k) % sz = (nx + sz - sz + (k + 1)) % sz := by rcases hC with rfl | rfl <;> omega
      have en : (nx + sz - sz + (k + 1)) % sz ≠ sl := by rcases hC with rfl | rfl <;> omega
      have el : (nx + sz - sz + (k + 1)) % sz < sz := by rcases hC with rfl | rfl <;> omega
      rw [ei, e5 _ el en]
      obtain ⟨g1, g2⟩ := h6 (k + 1) (by omega)
      exact ⟨g1.up hcd, fun j hj => by rw [f2 _ (by omega), show 12 * k + j + 12 = 12 * (k + 1) + j by omega]; exact g2 j hj⟩
theorem kp_pop {c d o b C ar ct nx sz : Nat} {s σ : rd_S} (hC : C = 8 ∨ C = 2) (hn : nx ≤ C) (hz : sz + 1 ≤ C) (h6 : ∀ k, k < sz + 1 → wf c (sd_rd σ (b + (nx + C - (sz + 1) + k) % C)) ∧ ∀ j, j < 12 → σ ar (12 * k + j) = md_of (sd_rd σ (b + (nx + C - (sz + 1) + k) % C)) j) (hcd : c ≤ d)
    (e1 : s o 1 = nI (pl_prev C nx)) (e2 : s o 2 = nI sz) (e3 : s 33 ct = nI sz) (e5 : ∀ j, j < C → sd_rd s (b + j) = sd_rd σ (b + j)) (e6 : ∀ i, i < 12 * sz → s ar i = σ ar i) : kp d o b C ar ct s ∧ wf c (sd_rd σ (b + pl_prev C nx)) ∧ ∀ j, j < 12 → σ ar (12 * sz + j) = md_of (sd_rd σ (b + pl_prev C nx)) j := by
  have hs2 : (0 < nx ∧ pl_prev C nx = nx - 1) ∨ (nx = 0 ∧ pl_prev C nx = C - 1) := by
    unfold pl_prev
    by_cases q : 0 < nx
    · rw [if_pos q]; exact Or.inl ⟨q, rfl⟩
    · rw [if_neg q]; exact Or.inr ⟨by omega, rfl⟩
  generalize pl_prev C nx = sl at *
  refine ⟨⟨sl, sz, e1, by omega, e2, by omega, e3, fun k hk => ?_⟩, ?_⟩
  · have ei : (sl + C - sz + k) % C = (nx + C - (sz + 1) + k) % C := by rcases hC with rfl | rfl <;> omega
    have el : (nx + C - (sz + 1) + k) % C < C := by rcases hC with rfl | rfl <;> omega
    rw [ei, e5 _ el]
    obtain ⟨g1, g2⟩ := h6 k (by omega)
    exact ⟨g1.up hcd, fun j hj => by rw [e6 _ (by omega)]; exact g2 j hj⟩
  · have ei : (nx + C - (sz + 1) + sz) % C = sl := by rcases hC with rfl | rfl <;> omega
    have := h6 sz (by omega)
    rw [ei] at this
    exact this
theorem psh_o {σ : rd_S} {o b C nx sz q : Nat} : pl_psh σ o b C nx sz q o 1 = nI (pl_slot C nx + 1) ∧ pl_psh σ o b C nx sz q o 2 = nI (min (sz + 1) C) := ⟨by unfold pl_psh; rw [u2_off (by omega), u2_at], by unfold pl_psh; rw [u2_at]⟩
theorem psh_sl {σ : rd_S} {o b C nx sz q : Nat} (hC : 0 < C) (ho : o < b ∨ b + C ≤ o) : sd_rd (pl_psh σ o b C nx sz q) (b + pl_slot C nx) = sd_rd σ q := by
  have := pl_slot_lt (nx := nx) hC
  unfold pl_psh
  rw [sd_rd_u2 (by omega), sd_rd_u2 (by omega), sd_rd_wr]
theorem psh_st {σ : rd_S} {o b C nx sz q j : Nat} (hC : 0 < C) (ho : o < b ∨ b + C ≤ o) (hj : j < C) (hn : j ≠ pl_slot C nx) : sd_rd (pl_psh σ o b C nx sz q) (b + j) = sd_rd σ (b + j) := by
  unfold pl_psh
  rw [sd_rd_u2 (by omega), sd_rd_u2 (by omega), sd_rd_ne _ (by omega)]
/-- a row of stands with one more -/
theorem nt_ar {σ : rd_S} {um : Nat} {f : Nat → Int32} (h : um ≤ 8) : nt σ um f 33 6 = nI (min (um + 1) 8) ∧ (um < 8 → (∀ j, j < 12 → nt σ um f 38 (12 * um + j) = f j) ∧ ∀ i, i < 12 * um → nt σ um f 38 i = σ 38 i) ∧ (um = 8 → (∀ j, j < 12 → nt σ um f 38 (12 * (8 - 1) + j) = f j) ∧ ∀ i, i < 12 * (8 - 1) → nt σ um f 38 i = σ 38 (i + 12)) := by
  unfold nt
  by_cases q : um < 8
  · rw [if_pos q]
    refine ⟨by rw [u2_at]; exact congrArg nI (by omega), fun _ => ⟨fun j hj => ?_, fun i hi => ?_⟩, fun e => by omega⟩
    · rw [u2_off (by omega), cpy_in hj]
    · rw [u2_off (by omega), cpy_out (Or.inl hi)]
  · rw [if_neg q]
    refine ⟨by rw [u2_at]; exact congrArg nI (by omega), fun e => by omega, fun _ => ⟨fun j hj => ?_, fun i hi => ?_⟩⟩
    · rw [u2_off (by omega)]; exact cpy_in hj
    · rw [u2_off (by omega), cpy_out (Or.inl (by omega))]
      have := cpy_in (τ := σ) (d := 38) (f := fun k => σ 38 (k + 12)) (o := 0) (k := 84) (b := i) (by omega)
      rw [Nat.zero_add] at this
      exact this
/-- behind dance and put: what was is noted, E is now -/
theorem RR_psh {c nx um : Nat} {σ τ u : rd_S} {E : sd_D} (hR : RR c σ) (a1 : σ 5 1 = nI nx) (a2 : nx ≤ 8) (a3 : σ 5 2 = nI um) (a4 : um ≤ 8) (a6 : ∀ k, k < um → wf c (sd_rd σ (7 + (nx + 8 - um + k) % 8)) ∧ ∀ j, j < 12 → σ 38 (12 * k + j) = md_of (sd_rd σ (7 + (nx + 8 - um + k) % 8)) j)
    (hτ : τ = sd_wr (pl_psh σ 5 7 8 nx um 3) 3 E) (hE : wf (c + 1) E) (hu : ∀ a b, ¬ (a = 37 ∨ a = 45 ∨ (a = 33 ∧ b = 18)) → u a b = nt τ um (md_of (sd_rd σ 3)) a b) (hm : md_at u E) : RR (c + 1) u := by
  obtain ⟨r1, r2, r3, r4, r5, r6, r7⟩ := hR
  have t0 : ∀ a b, ¬ (a = 3 ∨ a = 5 ∨ (7 ≤ a ∧ a < 15)) → τ a b = σ a b := fun a b h => by rw [hτ, sd_wr_ne _ (by omega), pl_psh_0 (by omega) (by decide) (by omega)]
  have off : ∀ a b, ¬ (a = 3 ∨ a = 5 ∨ (7 ≤ a ∧ a < 15) ∨ a = 37 ∨ a = 45 ∨ a = 38 ∨ (a = 33 ∧ (b = 18 ∨ b = 6))) → u a b = σ a b := fun a b h => by
    rw [hu a b (by omega), nt_ne (by omega) (by omega), t0 a b (by omega)]
  have low : ∀ a b, a < 33 → u a b = τ a b := fun a b h => by rw [hu a b (by omega), nt_ne (by omega) (by omega)]
  have e3 : sd_rd u 3 = E := by rw [rd_cong (fun b => low 3 b (by omega)), hτ, sd_rd_wr]
  obtain ⟨n1, n2, n3⟩ := nt_ar (σ := τ) (um := um) (f := md_of (sd_rd σ 3)) a4
  refine ⟨r1.cong (fun a b q => off a b (by omega)), r2.cong (fun a b q => off a b (by omega)), r3.cong (fun a b q => off a b (by omega)), ⟨by rw [e3]; exact hE, by rw [e3]; exact hm⟩, ?_, (r6.cong (fun a b q => off a b (by omega))).up (by omega), r7.cong (fun a b q => off a b (by omega))⟩
  have hs8 : pl_slot 8 nx < 8 := pl_slot_lt (by decide)
  refine kp_push (σ := σ) (D := sd_rd σ 3) (Or.inl rfl) a2 a4 a6 (by omega) r4.1 ?_ ?_ ?_ ?_ (fun j hj hn => ?_) (fun hl => ⟨fun j hj => ?_, fun i hi => ?_⟩) (fun hl => ⟨fun j hj => ?_, fun i hi => ?_⟩)
  · rw [low _ _ (by omega), hτ, sd_wr_ne _ (by omega)]; exact psh_o.1
  · rw [low _ _ (by omega), hτ, sd_wr_ne _ (by omega)]; exact psh_o.2
  · rw [hu _ _ (by omega)]; exact n1
  · rw [rd_cong (fun b => low _ b (by omega)), hτ, sd_rd_ne _ (by omega)]; exact psh_sl (by decide) (by decide)
  · rw [rd_cong (fun b => low _ b (by omega)), hτ, sd_rd_ne _ (by omega)]; exact psh_st (by decide) (by decide) hj hn
  · rw [hu _ _ (by omega)]; exact (n2 hl).1 j hj
  · rw [hu _ _ (by omega), (n2 hl).2 i hi]; exact t0 _ _ (by omega)
  · rw [hu _ _ (by omega)]; exact (n3 hl).1 j hj
  · rw [hu _ _ (by omega), (n3 hl).2 i hi]; exact t0 _ _ (by omega)
theorem p_dance {c : Nat} {σ : rd_S} (hR : RR c σ) (hc : c ≤ 1000) (f : Int32) : pair c σ yX4_dance cX4_dance 3 yX5_dance cX5_dance 3 [.int f] := by
  obtain ⟨r1, r2, r3, r4, r5, r6, r7⟩ := id hR
  obtain ⟨hk1, hk2⟩ := r2
  obtain ⟨hw, hD⟩ := r4
  obtain ⟨nx, um, a1, a2, a3, a4, a5, a6⟩ := r5
  cases hq : hp_rg 0 3 f
  · exact pair_b hR (-1) (c_dance_b 49 37 σ (by decide) f hq) (m_dance_b 49 37 σ (by decide) f hq)
  · rcases hst : sd_st (sd_rd σ 3) f (σ 0 11) with _ | E
    · refine pair_q hR (-2) ((c_dance_n 49 37 σ (by decide) f hq hst).post (fun r s q => ⟨q.1, by rw [q.2]; exact cs_eq.refl σ⟩)) (fun s hs => ?_)
      have up := cs_up hs
      exact (m_dance_n 49 37 s (by decide) c (by omega) (sd_rd σ 3) (σ 0 11) hw (up_kd up hk2) (up_md up hD) f hq hst).post (fun r u q => ⟨q.1, by rw [q.2]; exact mq_ms (mq_eq.refl s) (up_md up hD)⟩)
    · refine ⟨10 + sd_tw (sd_rd σ 3) f (σ 0 11), fun s => s = sd_wr (pl_psh σ 5 7 8 nx um 3) 3 E, c_dance_s 49 37 σ (by decide) f hq hst nx um a1 a2 a3 a4, fun s hs => ?_⟩
      have up : ∀ a b, 33 ≤ a → s a b = σ a b := fun a b h => by rw [hs, sd_wr_ne _ (by omega), pl_psh_0 (by omega) (by decide) (by omega)]
      refine (m_dance_s 49 37 s (by decide) c (by omega) (sd_rd σ 3) (σ 0 11) hw (up_kd up hk2) (up_md up hD) f hq hst um (by rw [up _ _ (by decide)]; exact a5) a4).post (fun r u q => ⟨q.1, ?_⟩)
      rw [q.2]
      exact RR_psh hR a1 a2 a3 a4 a6 hs (wf_go hw (by omega) hst) (fun a b h => ms_off (by omega) (by omega) (by omega)) (md_ms _ _ _ _)
theorem p_put {c : Nat} {σ : rd_S} (hR : RR c σ) (hc : c ≤ 1000) (i : Int32) (j : Int32) : pair c σ yX4_put cX4_put 3 yX5_put cX5_put 3 [.int i, .int j] := by
  obtain ⟨r1, r2, r3, r4, r5, r6, r7⟩ := id hR
  obtain ⟨hk1, hk2⟩ := r2
  obtain ⟨hw, hD⟩ := r4
  obtain ⟨nx, um, a1, a2, a3, a4, a5, a6⟩ := r5
  by_cases hb : ¬ (hp_rg 0 3 i = true ∧ hp_rg 0 3 j = true ∧ ¬ i = j)
  · exact pair_b hR (-1) (c_put_b 49 37 σ (by decide) i j hb) (m_put_b 49 38 σ (by decide) i j hb)
  · have hi := Decidable.of_not_not hb
    obtain ⟨x, hx, rfl⟩ := nI_k (k := 3) hi.1
    obtain ⟨y, hy, rfl⟩ := nI_k (k := 3) hi.2.1
    have hxy : x ≠ y := fun q => hi.2.2 (by rw [q])
    refine ⟨_, fun s => s = sd_wr (pl_psh σ 5 7 8 nx um 3) 3 (sd_xch (sd_rd σ 3) (nI x) (nI y)), c_put_s 49 37 σ (by decide) (nI x) (nI y) hi nx um a1 a2 a3 a4, fun s hs => ?_⟩
    have up : ∀ a b, 33 ≤ a → s a b = σ a b := fun a b h => by rw [hs, sd_wr_ne _ (by omega), pl_psh_0 (by omega) (by decide) (by omega)]
    refine (m_put_s 49 38 s (by decide) c (by omega) (sd_rd σ 3) (σ 0 11) hw (up_kd up hk2) (up_md up hD) x y (by omega) (by omega) hxy um (by rw [up _ _ (by decide)]; exact a5) a4).post (fun r u q => ⟨q.1, ?_⟩)
    rw [q.2]
    exact RR_psh hR a1 a2 a3 a4 a6 hs ((wf_xch hw (by omega) (by omega)).up (by omega)) (fun a b h => mr_off (by omega)) (md_mr _ _)
theorem p_undo {c : Nat} {σ : rd_S} (hR : RR c σ) (hc : c ≤ 1000) : pair c σ yX4_undo cX4_undo 1 yX5_undo cX5_undo 2 [] := by
  obtain ⟨r1, r2, r3, r4, r5, r6, r7⟩ := id hR
  obtain ⟨nx, um, a1, a2, a3, a4, a5, a6⟩ := r5
  rcases um with _ | z
  · exact pair_b hR (-2) (c_undo_n 49 38 σ (by decide) a3) (m_undo_n 49 40 σ (by decide) a5)
  · refine ⟨nI z, fun s => s = pl_pop σ 5 7 8 nx z 3, c_undo_s 49 38 σ (by decide) nx z a1 a2 a3 a4, fun s hs => ?_⟩
    have hv : pl_prev 8 nx < 8 := by unfold pl_prev; split <;> omega
    have t0 : ∀ a b, ¬ (a = 3 ∨ (a = 5 ∧ (b = 1 ∨ b = 2))) → s a b = σ a b := fun a b h => by
      rw [hs]; unfold pl_pop; rw [u2_off (by omega), sd_wr_ne _ (by omega), u2_off (by omega)]
    have e3 : sd_rd s 3 = sd_rd σ (7 + pl_prev 8 nx) := by
      rw [hs]; unfold pl_pop; rw [sd_rd_u2 (by decide), sd_rd_wr]
    refine (m_undo_s 49 40 s (by decide) z (by rw [t0 _ _ (by omega)]; exact a5) (by omega)).post (fun r u q => ⟨q.1, ?_⟩)
    have hu : ∀ a b, ¬ (a = 37 ∨ (a = 33 ∧ b = 6)) → u a b = s a b := fun a b h => by rw [q.2, cpy_ne (by omega), u2_off (by omega)]
    have h37 : ∀ j, j < 12 → u 37 j = σ 38 (12 * z + j) := fun j hj => by rw [q.2, cpy12_in hj]; exact t0 _ _ (by omega)
    have h6 : u 33 6 = nI z := by rw [q.2, cpy_ne (by decide), u2_at]
    have off : ∀ a b, ¬ (a = 3 ∨ a = 37 ∨ (a = 5 ∧ (b = 1 ∨ b = 2)) ∨ (a = 33 ∧ b = 6)) → u a b = σ a b := fun a b h => by rw [hu a b (by omega), t0 a b (by omega)]
    obtain ⟨k, w1, w2⟩ := kp_pop (d := c + 1) (s := u) (o := 5) (ct := 6) (Or.inl rfl) a2 a4 a6 (by omega) (by rw [hu _ _ (by omega), hs]; unfold pl_pop; rw [u2_off (by omega), sd_wr_ne _ (by omega), u2_at]) (by rw [hu _ _ (by omega), hs]; unfold pl_pop; rw [u2_at]) h6 (fun j hj => rd_cong (fun b => off _ _ (by omega))) (fun i hi => off _ _ (by omega))
    have e3u : sd_rd u 3 = sd_rd σ (7 + pl_prev 8 nx) := by rw [rd_cong (fun b => hu 3 b (by omega)), e3]
    exact ⟨r1.cong (fun a b q => off a b (by omega)), r2.cong (fun a b q => off a b (by omega)), r3.cong (fun a b q => off a b (by omega)), ⟨by rw [e3u]; exact w1.up (by omega), fun j hj => by rw [e3u, h37 j hj]; exact w2 j hj⟩, k, (r6.cong (fun a b q => off a b (by omega))).up (by omega), r7.cong (fun a b q => off a b (by omega))⟩
theorem p_keep {c : Nat} {σ : rd_S} (hR : RR c σ) (hc : c ≤ 1000) : pair c σ yX4_keep cX4_keep 1 yX5_keep cX5_keep 2 [] := by
  obtain ⟨r1, r2, r3, r4, r5, r6, r7⟩ := id hR
  obtain ⟨hw, hD⟩ := id r4
  obtain ⟨nx, um, a1, a2, a3, a4, a5, a6⟩ := r6
  by_cases h2 : um = 2
  · subst h2
    exact pair_b hR (-3) (c_keep_f 49 38 σ (by decide) a3) (m_keep_f 49 40 σ (by decide) a5)
  · have hum : um ≤ 1 := by omega
    refine ⟨nI (min (um + 1) 2), fun s => s = pl_psh σ 15 17 2 nx um 3, c_keep_s 49 38 σ (by decide) nx um a1 a2 a3 (by omega), fun s hs => ?_⟩
    have t0 : ∀ a b, ¬ (a = 15 ∨ (17 ≤ a ∧ a < 19)) → s a b = σ a b := fun a b h => by rw [hs, pl_psh_0 (by omega) (by decide) (by omega)]
    refine (m_keep_s 49 40 s (by decide) um (by rw [t0 _ _ (by omega)]; exact a5) hum).post (fun r u q => ⟨by rw [q.1]; exact congrArg (fun z => some (Value.int (nI z))) (by omega), ?_⟩)
    have hu : ∀ a b, ¬ (a = 39 ∨ (a = 33 ∧ b = 8)) → u a b = s a b := fun a b h => by rw [q.2, u2_off (by omega), cpy_ne (by omega)]
    have off : ∀ a b, ¬ (a = 15 ∨ (17 ≤ a ∧ a < 19) ∨ a = 39 ∨ (a = 33 ∧ b = 8)) → u a b = σ a b := fun a b h => by rw [hu a b (by omega), t0 a b (by omega)]
    have hs2 : pl_slot 2 nx < 2 := pl_slot_lt (by decide)
    refine ⟨r1.cong (fun a b q => off a b (by omega)), r2.cong (fun a b q => off a b (by omega)), r3.cong (fun a b q => off a b (by omega)), (r4.cong (fun a b q => off a b (by omega))).up (by omega), (r5.cong (fun a b q => off a b (by omega))).up (by omega), ?_, r7.cong (fun a b q => off a b (by omega))⟩
    refine kp_push (σ := σ) (D := sd_rd σ 3) (Or.inr rfl) a2 a4 a6 (by omega) hw ?_ ?_ ?_ ?_ (fun j hj hn => ?_) (fun hl => ⟨fun j hj => ?_, fun i hi => ?_⟩) (fun hl => by omega)
    · rw [hu _ _ (by omega), hs]; exact psh_o.1
    · rw [hu _ _ (by omega), hs]; exact psh_o.2
    · rw [q.2, u2_at]; exact congrArg nI (by omega)
    · rw [rd_cong (fun b => hu _ b (by omega)), hs]; exact psh_sl (by decide) (by decide)
    · rw [rd_cong (fun b => hu _ b (by omega)), hs]; exact psh_st (by decide) (by decide) hj hn
    · rw [q.2, u2_off (by omega), cpy_in hj, t0 _ _ (by omega)]; exact hD j hj
    · rw [q.2, u2_off (by omega), cpy_out (Or.inl hi), t0 _ _ (by omega)]
theorem p_back {c : Nat} {σ : rd_S} (hR : RR c σ) (hc : c ≤ 1000) : pair c σ yX4_back cX4_back 1 yX5_back cX5_back 2 [] := by
  obtain ⟨r1, r2, r3, r4, r5, r6, r7⟩ := id hR
  obtain ⟨nx, um, a1, a2, a3, a4, a5, a6⟩ := r6
  obtain ⟨px, pm, b1, b2, b3, b4, b5, b6⟩ := r5
  rcases um with _ | z
  · exact pair_b hR (-2) (c_back_n 49 38 σ (by decide) a3) (m_back_n 49 40 σ (by decide) a5)
  · refine ⟨nI z, fun s => s = rd_u2 (pl_pop σ 15 17 2 nx z 3) 5 2 0, c_back_s 49 38 σ (by decide) nx z a1 a2 a3 a4, fun s hs => ?_⟩
    have hv : pl_prev 2 nx < 2 := by unfold pl_prev; split <;> omega
    have t0 : ∀ a b, ¬ (a = 3 ∨ (a = 15 ∧ (b = 1 ∨ b = 2)) ∨ (a = 5 ∧ b = 2)) → s a b = σ a b := fun a b h => by
      rw [hs]; unfold pl_pop; rw [u2_off (by omega), u2_off (by omega), sd_wr_ne _ (by omega), u2_off (by omega)]
    have e3 : sd_rd s 3 = sd_rd σ (17 + pl_prev 2 nx) := by
      rw [hs]; unfold pl_pop; rw [sd_rd_u2 (by decide), sd_rd_u2 (by decide), sd_rd_wr]
    refine (m_back_s 49 40 s (by decide) z (by rw [t0 _ _ (by omega)]; exact a5) (by omega)).post (fun r u q => ⟨q.1, ?_⟩)
    have hu : ∀ a b, ¬ (a = 37 ∨ (a = 33 ∧ (b = 6 ∨ b = 8))) → u a b = s a b := fun a b h => by rw [q.2, u2_off (by omega), cpy_ne (by omega), u2_off (by omega)]
    have h37 : ∀ j, j < 12 → u 37 j = σ 39 (12 * z + j) := fun j hj => by rw [q.2, u2_off (by omega), cpy12_in hj]; exact t0 _ _ (by omega)
    have h8 : u 33 8 = nI z := by rw [q.2, u2_off (by omega), cpy_ne (by decide), u2_at]
    have h6 : u 33 6 = nI 0 := by rw [q.2, u2_at]; rfl
    have off : ∀ a b, ¬ (a = 3 ∨ a = 37 ∨ (a = 15 ∧ (b = 1 ∨ b = 2)) ∨ (a = 5 ∧ b = 2) ∨ (a = 33 ∧ (b = 6 ∨ b = 8))) → u a b = σ a b := fun a b h => by rw [hu a b (by omega), t0 a b (by omega)]
    obtain ⟨k, w1, w2⟩ := kp_pop (d := c + 1) (s := u) (o := 15) (ct := 8) (Or.inr rfl) a2 a4 a6 (by omega) (by rw [hu _ _ (by omega), hs]; unfold pl_pop; rw [u2_off (by omega), u2_off (by omega), sd_wr_ne _ (by omega), u2_at]) (by rw [hu _ _ (by omega), hs]; unfold pl_pop; rw [u2_off (by omega), u2_at]) h8 (fun j hj => rd_cong (fun b => off _ _ (by omega))) (fun i hi => off _ _ (by omega))
    have e3u : sd_rd u 3 = sd_rd σ (17 + pl_prev 2 nx) := by rw [rd_cong (fun b => hu 3 b (by omega)), e3]
    exact ⟨r1.cong (fun a b q => off a b (by omega)), r2.cong (fun a b q => off a b (by omega)), r3.cong (fun a b q => off a b (by omega)), ⟨by rw [e3u]; exact w1.up (by omega), fun j hj => by rw [e3u, h37 j hj]; exact w2 j hj⟩, ⟨px, 0, by rw [off _ _ (by omega)]; exact b1, b2, by rw [hu _ _ (by omega), hs, u2_at]; rfl, by omega, h6, fun k hk => by omega⟩, k, r7.cong (fun a b q => off a b (by omega))⟩
