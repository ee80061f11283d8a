/-! ===== the calls that change nothing, side by side ===== -/
theorem nI_k {k : Nat} {x : Int32} (h : hp_rg 0 k x = true) : ∃ n, n ≤ k ∧ x = nI n := hp_nat h
theorem ps_cong {t t' : Nat → Int32} {n : Nat} (h : ∀ k, k < n → t k = t' k) : ps_l t n = ps_l t' n := by
  funext k
  unfold ps_l
  by_cases hk : k < n
  · rw [if_pos hk, if_pos hk, h k hk]
  · rw [if_neg hk, if_neg hk]
theorem ps_run_cong {t t' : Nat → Int32} {n : Nat} (h : ps_l t n = ps_l t' n) : ∀ f a X, ps_run t n f a X = ps_run t' n f a X
  | 0, _, _ => rfl
  | f + 1, a, X => by
    have e1 : ps_len t n a = ps_len t' n a := by unfold ps_len; rw [h]
    have e2 : ps_up t n a X = ps_up t' n a X := by unfold ps_up; rw [h]
    unfold ps_run
    rw [e1, e2, h]
    by_cases q : n ≤ a
    · rw [if_pos q, if_pos q]
    · rw [if_neg q, if_neg q]
      rcases ps_len t' n a with _ | l
      · rfl
      · show (if _ then _ else _) = (if _ then _ else _)
        rw [ps_run_cong h f (a + l)]
theorem p_fault {c : Nat} {σ : rd_S} (hR : RR c σ) (hc : c ≤ 1000) : pair c σ yX4_fault cX4_fault 1 yX5_fault cX5_fault 2 [] := by
  obtain ⟨r1, r2, r3, r4, r5, r6, r7⟩ := id hR
  obtain ⟨n, h1, h2, h3⟩ := r1
  refine pair_q hR (ps_res (ps_run (σ 2) n 201 0 ps_0)) ((c_X4_fault 49 35 σ (by decide) n ⟨h1, h2.2.1⟩).post (fun r s q => ⟨q.1, by rw [q.2]; exact cs_eq.refl σ⟩)) (fun s hs => ?_)
  have up := cs_up hs
  refine (m_fault 49 37 s (by decide) n (up_tx up h2)).post (fun r u q => ⟨?_, q.2.1⟩)
  rw [q.1, show s 41 = σ 41 from funext (fun b => up 41 b (by decide)), ps_run_cong (ps_cong h3)]
theorem p_dancer {c : Nat} {σ : rd_S} (hR : RR c σ) (hc : c ≤ 1000) (i : Int32) (w : Int32) : pair c σ yX4_dancer cX4_dancer 3 yX5_dancer cX5_dancer 3 [.int i, .int w] := by
  obtain ⟨r1, r2, r3, r4, r5, r6, r7⟩ := id hR
  obtain ⟨hk1, hk2⟩ := r2
  obtain ⟨hw, hD⟩ := r4
  by_cases hb : hp_rg 0 3 i = false ∨ hp_rg 0 2 w = false
  · exact pair_b hR (-1) (c_dancer_b 49 38 σ (by decide) i w hb) (m_dancer_b 49 38 σ (by decide) i w hb)
  · have hi : hp_rg 0 3 i = true := by cases h : hp_rg 0 3 i; exact absurd (Or.inl h) hb; rfl
    have hq : hp_rg 0 2 w = true := by cases h : hp_rg 0 2 w; exact absurd (Or.inr h) hb; rfl
    exact pair_b hR _ (c_dancer_s 49 38 σ (by decide) i w hi hq) (m_dancer_s 49 38 σ (by decide) c (sd_rd σ 3) (σ 0 11) hw hk2 hD i w hi hq)
theorem p_place {c : Nat} {σ : rd_S} (hR : RR c σ) (hc : c ≤ 1000) (i : Int32) (w : Int32) : pair c σ yX4_place cX4_place 4 yX5_place cX5_place 3 [.int i, .int w] := by
  obtain ⟨r1, r2, r3, r4, r5, r6, r7⟩ := id hR
  obtain ⟨hw, hD⟩ := r4
  by_cases hb : hp_rg 0 3 i = false ∨ hp_rg 0 1 w = false
  · exact pair_b hR (-1) (c_place_b 49 38 σ (by decide) i w hb) (m_place_b 49 38 σ (by decide) i w hb)
  · have hi : hp_rg 0 3 i = true := by cases h : hp_rg 0 3 i; exact absurd (Or.inl h) hb; rfl
    have hq : hp_rg 0 1 w = true := by cases h : hp_rg 0 1 w; exact absurd (Or.inr h) hb; rfl
    exact pair_b hR _ (c_place_s 49 38 σ (by decide) i w hi hq) (m_place_s 49 38 σ (by decide) c (sd_rd σ 3) hw hD i w hi hq)
theorem p_wound {c : Nat} {σ : rd_S} (hR : RR c σ) (hc : c ≤ 1000) (w : Int32) : pair c σ yX4_wound cX4_wound 2 yX5_wound cX5_wound 2 [.int w] := by
  obtain ⟨r1, r2, r3, r4, r5, r6, r7⟩ := id hR
  obtain ⟨hw, hD⟩ := r4
  cases hq : hp_rg 0 1 w
  · exact pair_b hR (-100000) (c_wound_b 49 40 σ (by decide) w hq) (m_wound_b 49 38 σ (by decide) w hq)
  · exact pair_b hR _ (c_wound_s 49 40 σ (by decide) w hq) (m_wound_s 49 38 σ (by decide) (sd_rd σ 3) hD w hq)
theorem p_row {c : Nat} {σ : rd_S} (hR : RR c σ) (hc : c ≤ 1000) (k : Int32) : pair c σ yX4_row cX4_row 2 yX5_row cX5_row 2 [.int k] := by
  obtain ⟨r1, r2, r3, r4, r5, r6, r7⟩ := id hR
  obtain ⟨fc, hf, hr⟩ := r3
  cases hq : hp_rg 0 11 k
  · exact pair_b hR (-1) (c_row_b 49 39 σ (by decide) k hq) (m_row_b 49 39 σ (by decide) k hq)
  · have h1 := c_row_s 49 39 σ (by decide) k hq
    rw [hf] at h1
    exact pair_b hR _ h1 (m_row_s 49 39 σ (by decide) (σ 0 12) fc hr k hq)
theorem p_count {c : Nat} {σ : rd_S} (hR : RR c σ) (hc : c ≤ 1000) (w : Int32) : pair c σ yX4_count cX4_count 2 yX5_count cX5_count 2 [.int w] := by
  obtain ⟨r1, r2, r3, r4, r5, r6, r7⟩ := id hR
  obtain ⟨n, t1, t2, t3⟩ := r1
  obtain ⟨fc, hf, hr⟩ := r3
  obtain ⟨hw, hD⟩ := r4
  obtain ⟨nx, sz, a1, a2, a3, a4, a5, a6⟩ := r5
  obtain ⟨ny, sy, b1, b2, b3, b4, b5, b6⟩ := r6
  obtain ⟨sc, s1, s2, s3, s4⟩ := r7
  have h1 := c_count 49 40 σ (by decide) w
  have h2 := m_count 49 40 σ (by decide) w
  have e10 : σ 37 10 = σ 3 5 := hD 10 (by decide)
  have e11 : σ 37 11 = if 0 ≤ σ 3 4 then σ 3 4 else 2 := by
    rw [hD 11 (by decide)]
    show (if σ 3 4 < 0 then 2 else σ 3 4) = _
    by_cases q : σ 3 4 < 0
    · rw [if_pos q, if_neg (Int32.not_le.mpr q)]
    · rw [if_neg q, if_pos (Int32.not_lt.mp q)]
  rw [hr.1, e10, e11, a5, b5, s3, t2.1] at h2
  rw [hf, a3, b3, s1, t1] at h1
  exact pair_b hR _ h1 h2
theorem p_free {c : Nat} {σ : rd_S} (hR : RR c σ) (hc : c ≤ 1000) (k : Int32) : pair c σ yX4_free cX4_free 2 yX5_free cX5_free 2 [.int k] := by
  obtain ⟨r1, r2, r3, r4, r5, r6, r7⟩ := id hR
  obtain ⟨hk1, hk2⟩ := r2
  obtain ⟨hw, hD⟩ := r4
  cases hq : hp_rg (-1) 6 k
  · exact pair_b hR (-1) (c_free_b 49 27 σ (by decide) k hq) (m_free_b 49 35 σ (by decide) k hq)
  · refine pair_q hR _ (c_free_s 49 27 σ (by decide) k hq) (fun s hs => ?_)
    have up := cs_up hs
    rw [eq_few _ _ _ k hq]
    exact m_free_s 49 35 s (by decide) c (by omega) (sd_rd σ 3) (σ 0 11) hw (up_kd up hk2) (up_md up hD) k hq
theorem p_reach {c : Nat} {σ : rd_S} (hR : RR c σ) (hc : c ≤ 1000) (u : Int32) (l : Int32) (k : Int32) : pair c σ yX4_reach cX4_reach 4 yX5_reach cX5_reach 4 [.int u, .int l, .int k] := by
  obtain ⟨r1, r2, r3, r4, r5, r6, r7⟩ := id hR
  obtain ⟨hk1, hk2⟩ := r2
  obtain ⟨hw, hD⟩ := r4
  by_cases hb : hp_fr u l = false ∨ hp_rg (-1) 6 k = false
  · exact pair_b hR (-1) (c_reach_b 49 27 σ (by decide) u l k hb) (m_reach_b 49 35 σ (by decide) u l k hb)
  · have hi : hp_fr u l = true := by cases h : hp_fr u l; exact absurd (Or.inl h) hb; rfl
    have hq : hp_rg (-1) 6 k = true := by cases h : hp_rg (-1) 6 k; exact absurd (Or.inr h) hb; rfl
    refine pair_q hR _ (c_reach_s 49 27 σ (by decide) u l k hi hq) (fun s hs => ?_)
    have up := cs_up hs
    rw [eq_few _ _ _ k hq]
    exact m_reach_s 49 35 s (by decide) c (by omega) (sd_rd σ 3) (σ 0 11) hw (up_kd up hk2) (up_md up hD) u l k hi hq
theorem p_meet {c : Nat} {σ : rd_S} (hR : RR c σ) (hc : c ≤ 1000) (i : Int32) (j : Int32) (k : Int32) : pair c σ yX4_meet cX4_meet 4 yX5_meet cX5_meet 4 [.int i, .int j, .int k] := by
  obtain ⟨r1, r2, r3, r4, r5, r6, r7⟩ := id hR
  obtain ⟨hk1, hk2⟩ := r2
  obtain ⟨hw, hD⟩ := r4
  by_cases hb : ¬ (hp_rg 0 3 i = true ∧ hp_rg 0 3 j = true ∧ ¬ i = j) ∨ hp_rg (-1) 6 k = false
  · exact pair_b hR (-1) (c_meet_b 49 27 σ (by decide) i j k hb) (m_meet_b 49 35 σ (by decide) i j k hb)
  · have hi : hp_rg 0 3 i = true ∧ hp_rg 0 3 j = true ∧ ¬ i = j := Decidable.of_not_not (fun q => hb (Or.inl q))
    have hq : hp_rg (-1) 6 k = true := by cases h : hp_rg (-1) 6 k; exact absurd (Or.inr h) hb; rfl
    obtain ⟨a, ha, rfl⟩ := nI_k (k := 3) hi.1
    obtain ⟨b, hb2, rfl⟩ := nI_k (k := 3) hi.2.1
    have hab : a ≠ b := fun q => hi.2.2 (by rw [q])
    refine pair_q hR _ (c_meet_s 49 27 σ (by decide) (nI a) (nI b) k hi hq) (fun s hs => ?_)
    have up := cs_up hs
    rw [eq_few _ _ _ k hq]
    exact m_meet_s 49 35 s (by decide) c (by omega) (sd_rd σ 3) (σ 0 11) hw (up_kd up hk2) (up_md up hD) a b (by omega) (by omega) hab k hq
theorem p_ways {c : Nat} {σ : rd_S} (hR : RR c σ) (hc : c ≤ 1000) (x : Int32) : pair c σ yX4_ways cX4_ways 2 yX5_ways cX5_ways 4 [.int x] := by
  obtain ⟨r1, r2, r3, r4, r5, r6, r7⟩ := id hR
  obtain ⟨hk1, hk2⟩ := r2
  obtain ⟨hw, hD⟩ := r4
  cases hq : hp_rg 0 7 x
  · exact pair_b hR (-1) (c_ways_b 49 28 σ (by decide) x hq) (m_ways_b 49 35 σ (by decide) x hq)
  · obtain ⟨n, hn, rfl⟩ := nI_k (k := 7) hq
    refine pair_q hR _ (c_ways_s 49 28 σ (by decide) n hn) (fun s hs => ?_)
    have up := cs_up hs
    rw [← eq_ways (σ 0 11) n hw (by omega)]
    exact m_ways_s 49 35 s (by decide) c (by omega) (sd_rd σ 3) (σ 0 11) hw (up_kd up hk2) (up_md up hD) n hn
theorem p_plain {c : Nat} {σ : rd_S} (hR : RR c σ) (hc : c ≤ 1000) : pair c σ yX4_plain cX4_plain 2 yX5_plain cX5_plain 4 [] := by
  obtain ⟨r1, r2, r3, r4, r5, r6, r7⟩ := id hR
  obtain ⟨hk1, hk2⟩ := r2
  obtain ⟨hw, hD⟩ := r4
  refine pair_q hR _ (c_plain_s 49 37 σ (by decide)) (fun s hs => ?_)
  have up := cs_up hs
  exact m_plain 49 37 s (by decide) c (by omega) (sd_rd σ 3) (σ 0 11) hw (up_kd up hk2) (up_md up hD)
theorem p_comes {c : Nat} {σ : rd_S} (hR : RR c σ) (hc : c ≤ 1000) (w : Int32) : pair c σ yX4_comes cX4_comes 2 yX5_comes cX5_comes 4 [.int w] := by
  obtain ⟨r1, r2, r3, r4, r5, r6, r7⟩ := id hR
  obtain ⟨hk1, hk2⟩ := r2
  obtain ⟨fc, hf, hr⟩ := r3
  obtain ⟨hw, hD⟩ := r4
  cases hq : hp_rg 0 1 w
  · exact pair_b hR (-1) (c_comes_b 49 36 σ (by decide) w hq) (m_comes_b 49 36 σ (by decide) w hq)
  · refine pair_q hR _ (c_comes_s 49 36 σ (by decide) w hq fc hf hr.2.1) (fun s hs => ?_)
    have up := cs_up hs
    have e := eq_comes (σ 0 12) (σ 0 11) (min 12 fc) (sd_rd σ 3)
    rw [show (tr_go (σ 0 12) (σ 0 11) (min 12 fc) 0 (sd_rd σ 3)).2.2.2.2.2.2 - σ 3 5 = _ from e]
    exact m_comes_s 49 36 s (by decide) c (by omega) (sd_rd σ 3) (σ 0 12) (σ 0 11) fc hw (up_kd up hk2) (up_rw up hr) (up_md up hD) w hq
theorem p_behind {c : Nat} {σ : rd_S} (hR : RR c σ) (hc : c ≤ 1000) (n : Int32) (w : Int32) : pair c σ yX4_behind cX4_behind 3 yX5_behind cX5_behind 4 [.int n, .int w] := by
  obtain ⟨r1, r2, r3, r4, r5, r6, r7⟩ := id hR
  obtain ⟨hk1, hk2⟩ := r2
  obtain ⟨fc, hf, hr⟩ := r3
  obtain ⟨hw, hD⟩ := r4
  by_cases hb : hp_rg 0 12 n = false ∨ hp_rg 0 1 w = false
  · exact pair_b hR (-100000) (c_behind_b 49 36 σ (by decide) n w hb) (m_behind_b 49 35 σ (by decide) n w hb)
  · have hi : hp_rg 0 12 n = true := by cases h : hp_rg 0 12 n; exact absurd (Or.inl h) hb; rfl
    have hq : hp_rg 0 1 w = true := by cases h : hp_rg 0 1 w; exact absurd (Or.inr h) hb; rfl
    obtain ⟨n, hn, rfl⟩ := nI_k (k := 12) hi
    refine pair_q hR _ (c_behind_s 49 36 σ (by decide) n w hn hq fc hf hr.2.1) (fun s hs => ?_)
    have up := cs_up hs
    exact m_behind_s 49 35 s (by decide) c (by omega) (sd_rd σ 3) (σ 0 12) (σ 0 11) fc hw (up_kd up hk2) (up_rw up hr) (up_md up hD) n hn w hq
theorem p_kinds {c : Nat} {σ : rd_S} (hR : RR c σ) (hc : c ≤ 1000) (i : Int32) : pair c σ yX4_kinds cX4_kinds 2 yX5_kinds cX5_kinds 2 [.int i] := by
  obtain ⟨r1, r2, r3, r4, r5, r6, r7⟩ := id hR
  obtain ⟨hk1, hk2⟩ := r2
  obtain ⟨fc, hf, hr⟩ := r3
  obtain ⟨hw, hD⟩ := r4
  obtain ⟨sc, s1, s2, s3⟩ := k7_sn r7
  cases hq : hp_rg 0 3 i
  · exact pair_b hR (-1) (c_kinds_b 49 34 σ (by decide) i hq) (m_kinds_b 49 33 σ (by decide) i hq)
  · obtain ⟨i, hi, rfl⟩ := nI_k (k := 3) hq
    refine pair_q hR _ (c_kinds_s 49 34 σ (by decide) (nI i) hq fc sc ⟨hf, hr.2.1, s1, s2.2.1, s3⟩) (fun s hs => ?_)
    have up := cs_up hs
    exact m_kinds_s 49 33 s (by decide) c (by omega) (sd_rd σ 3) (σ 0 12) (σ 0 11) fc sc _ _ _ hw (up_kd up hk2) (up_rw up hr) (up_sn up s2) hk1 (up_md up hD) i (by omega)
theorem p_look {c : Nat} {σ : rd_S} (hR : RR c σ) (hc : c ≤ 1000) (i : Int32) (w : Int32) : pair c σ yX4_look cX4_look 8 yX5_look cX5_look 8 [.int i, .int w] := by
  obtain ⟨r1, r2, r3, r4, r5, r6, r7⟩ := id hR
  obtain ⟨hk1, hk2⟩ := r2
  obtain ⟨fc, hf, hr⟩ := r3
  obtain ⟨hw, hD⟩ := r4
  obtain ⟨sc, s1, s2, s3⟩ := k7_sn r7
  by_cases hb : hp_rg 0 3 i = false ∨ hp_rg 0 1 w = false
  · exact pair_b hR (-1) (c_look_b 49 34 σ (by decide) i w hb) (m_look_b 49 33 σ (by decide) i w hb)
  · have hi : hp_rg 0 3 i = true := by cases h : hp_rg 0 3 i; exact absurd (Or.inl h) hb; rfl
    have hq : hp_rg 0 1 w = true := by cases h : hp_rg 0 1 w; exact absurd (Or.inr h) hb; rfl
    obtain ⟨i, hi2, rfl⟩ := nI_k (k := 3) hi
    refine pair_q hR _ (c_look_s 49 34 σ (by decide) (nI i) w hi hq fc sc ⟨hf, hr.2.1, s1, s2.2.1, s3⟩) (fun s hs => ?_)
    have up := cs_up hs
    rw [eq_look hw (by omega) fc sc hr.2.1 i w]
    exact m_look_s 49 33 s (by decide) c (by omega) (sd_rd σ 3) (σ 0 12) (σ 0 11) fc sc _ _ _ hw (up_kd up hk2) (up_rw up hr) (up_sn up s2) hk1 (up_md up hD) i (by omega) w hq
theorem p_danced {c : Nat} {σ : rd_S} (hR : RR c σ) (hc : c ≤ 1000) (x : Int32) : pair c σ yX4_danced cX4_danced 2 yX5_danced cX5_danced 6 [.int x] := by
  obtain ⟨r1, r2, r3, r4, r5, r6, r7⟩ := id hR
  obtain ⟨hw, hD⟩ := r4
  cases hq : hp_rg 0 7 x
  · exact pair_b hR (-1) (c_danced_b 49 28 σ (by decide) x hq) (m_danced_b 49 35 σ (by decide) x hq)
  · obtain ⟨n, hn, rfl⟩ := nI_k (k := 7) hq
    refine pair_q hR _ (c_danced_s 49 28 σ (by decide) n hn) (fun s hs => ?_)
    have up := cs_up hs
    rw [← eq_danced n (σ 3 2) (σ 3 3) (σ 3 0) (sd_rd σ 3)]
    exact m_danced_s 49 35 s (by decide) c (by omega) (sd_rd σ 3) hw (up_md up hD) n hn
theorem p_duel {c : Nat} {σ : rd_S} (hR : RR c σ) (hc : c ≤ 1000) (x : Int32) : pair c σ yX4_duel cX4_duel 2 yX5_duel cX5_duel 8 [.int x] := by
  obtain ⟨r1, r2, r3, r4, r5, r6, r7⟩ := id hR
  obtain ⟨hk1, hk2⟩ := r2
  obtain ⟨hw, hD⟩ := r4
  cases hq : hp_rg 0 5 x
  · exact pair_b hR (-1) (c_duel_b 49 28 σ (by decide) x hq) (m_duel_b 49 36 σ (by decide) x hq)
  · obtain ⟨n, hn, rfl⟩ := nI_k (k := 5) hq
    refine pair_q hR _ (c_duel_s 49 28 σ (by decide) n hn) (fun s hs => ?_)
    have up := cs_up hs
    rw [← eq_duel (σ 0 11) n hw (by omega)]
    exact m_duel_s 49 36 s (by decide) c (by omega) (sd_rd σ 3) (σ 0 11) hw (up_kd up hk2) (up_md up hD) n hn
theorem p_odds {c : Nat} {σ : rd_S} (hR : RR c σ) (hc : c ≤ 1000) (n : Int32) (x : Int32) (w : Int32) : pair c σ yX4_odds cX4_odds 8 yX5_odds cX5_odds 10 [.int n, .int x, .int w] := by
  obtain ⟨r1, r2, r3, r4, r5, r6, r7⟩ := id hR
  obtain ⟨hk1, hk2⟩ := r2
  obtain ⟨fc, hf, hr⟩ := r3
  obtain ⟨hw, hD⟩ := r4
  by_cases hb : hp_rg 0 7 n = false ∨ hp_rg 0 10 x = false ∨ hp_rg 0 1 w = false
  · exact pair_b hR (-1) (c_odds_b 49 28 σ (by decide) n x w hb) (m_odds_b 49 36 σ (by decide) n x w hb)
  · have h1 : hp_rg 0 7 n = true := by cases h : hp_rg 0 7 n; exact absurd (Or.inl h) hb; rfl
    have h2 : hp_rg 0 10 x = true := by cases h : hp_rg 0 10 x; exact absurd (Or.inr (Or.inl h)) hb; rfl
    have h3 : hp_rg 0 1 w = true := by cases h : hp_rg 0 1 w; exact absurd (Or.inr (Or.inr h)) hb; rfl
    obtain ⟨n, hn, rfl⟩ := nI_k (k := 7) h1
    obtain ⟨x, hx, rfl⟩ := nI_k (k := 10) h2
    refine pair_q hR _ (c_odds_s 49 28 σ (by decide) n x fc w hn hx h3 hf hr.2.1) (fun s hs => ?_)
    have up := cs_up hs
    rw [← eq_odds (σ 0 11) (σ 0 12) x (min n fc) hw (by omega)]
    exact m_odds_s 49 36 s (by decide) c (by omega) (sd_rd σ 3) (σ 0 11) (σ 0 12) fc hw (up_kd up hk2) (up_rw up hr) (up_md up hD) n x hn hx w h3
theorem p_evening {c : Nat} {σ : rd_S} (hR : RR c σ) (hc : c ≤ 1000) (z : Int32) (n : Int32) (w : Int32) : pair c σ yX4_evening cX4_evening 8 yX5_evening cX5_evening 10 [.int z, .int n, .int w] := by
  obtain ⟨r1, r2, r3, r4, r5, r6, r7⟩ := id hR
  obtain ⟨hk1, hk2⟩ := r2
  obtain ⟨hw, hD⟩ := r4
  by_cases hb : hp_rg 0 9999 z = false ∨ hp_rg 1 60 n = false ∨ hp_rg 0 2 w = false
  · exact pair_b hR (-1) (c_evening_b 49 36 σ (by decide) z n w hb) (m_evening_b 49 36 σ (by decide) z n w hb)
  · have h1 : hp_rg 0 9999 z = true := by cases h : hp_rg 0 9999 z; exact absurd (Or.inl h) hb; rfl
    have h2 : hp_rg 1 60 n = true := by cases h : hp_rg 1 60 n; exact absurd (Or.inr (Or.inl h)) hb; rfl
    have h3 : hp_rg 0 2 w = true := by cases h : hp_rg 0 2 w; exact absurd (Or.inr (Or.inr h)) hb; rfl
    have h22 : 1 ≤ n.toInt ∧ n.toInt ≤ 60 := by simpa [hp_rg] using h2
    obtain ⟨n, hn, rfl⟩ : ∃ k, (k ≤ 60 ∧ 1 ≤ k) ∧ n = nI k := ⟨n.toInt.natAbs, by omega, hp_nI (by omega)⟩
    obtain ⟨z, hz, rfl⟩ := nI_k (k := 9999) h1
    refine pair_q hR _ (c_evening_s 49 36 σ (by decide) (nI z) w n h1 hn.1 hn.2 h3) (fun s hs => ?_)
    have up := cs_up hs
    exact m_evening_s 49 36 s (by decide) c (by omega) (sd_rd σ 3) (σ 0 11) hw (up_kd up hk2) (up_md up hD) z n hz hn.1 hn.2 w h3
