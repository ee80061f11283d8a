/-! ===== lay, side by side ===== -/
theorem run_ok {t : Nat → Int32} {n : Nat} (ht : ∀ k, k < n → 32 ≤ (t k).toInt ∧ (t k).toInt ≤ 126) : ∀ f a X Y, (∃ s, pm_at s X) → ps_run t n f a X = .inr Y → ∃ s, pm_at s Y
  | 0, a, X, Y, h, e => by
    have e : (Sum.inr X : Nat ⊕ ps_X) = .inr Y := e
    cases e; exact h
  | f + 1, a, X, Y, h, e => by
    unfold ps_run at e
    by_cases q : n ≤ a
    · rw [if_pos q] at e; cases e; exact h
    · rw [if_neg q] at e
      rcases hl : ps_len t n a with _ | l
      · rw [hl] at e; cases e
      · rw [hl] at e
        have e : (if ps_l t n a = 114 ∧ X.1 = 12 then (Sum.inl a : Nat ⊕ ps_X) else ps_run t n f (a + l) (ps_up t n a X)) = .inr Y := e
        by_cases q2 : ps_l t n a = 114 ∧ X.1 = 12
        · rw [if_pos q2] at e; cases e
        · rw [if_neg q2] at e
          refine run_ok ht f (a + l) _ Y ?_ e
          obtain ⟨s, hs⟩ := h
          unfold ps_len at hl
          by_cases c1 : ps_l t n a = 100
          · rw [if_pos c1] at hl
            split at hl
            · rename_i g
              rcases fg_ps (k := a + 1) ht (m := 3) (by decide) with ⟨-, i, hi, -, ei⟩ | ⟨g1, -⟩
              · rcases fg_ps (k := a + 3) ht (m := 5) (by decide) with ⟨-, v, hv, -, ev⟩ | ⟨g3, -⟩
                · exact ⟨_, pm_d hs c1 (by omega) (by omega) ei ev⟩
                · exact absurd (g.2.2.1.symm.trans g3) (by decide)
              · exact absurd (g.1.symm.trans g1) (by decide)
            · cases hl
          · rw [if_neg c1] at hl
            by_cases c2 : ps_l t n a = 112
            · rw [if_pos c2] at hl
              split at hl
              · rename_i g
                rcases fg_ps (k := a + 1) ht (m := 3) (by decide) with ⟨-, i, hi, -, ei⟩ | ⟨g1, -⟩
                · rcases fg_ps (k := a + 3) ht (m := 3) (by decide) with ⟨-, v, hv, -, ev⟩ | ⟨g3, -⟩
                  · exact ⟨_, pm_p hs c2 (by omega) (by omega) ei ev⟩
                  · exact absurd (g.2.2.1.symm.trans g3) (by decide)
                · exact absurd (g.1.symm.trans g1) (by decide)
              · cases hl
            · rw [if_neg c2] at hl
              by_cases c3 : ps_l t n a = 114
              · rw [if_pos c3] at hl
                split at hl
                · rename_i g
                  rcases fg_ps (k := a + 1) ht (m := 3) (by decide) with ⟨-, i, hi, -, ei⟩ | ⟨g1, -⟩
                  · have h12 : X.1 < 12 := by
                      have := hs.2.1
                      have : X.1 ≠ 12 := fun z => q2 ⟨c3, z⟩
                      omega
                    exact ⟨_, pm_r hs h12 c3 (by omega) ei (gd_all h12 (by omega))⟩
                  · exact absurd (g.1.symm.trans g1) (by decide)
                · cases hl
              · rw [if_neg c3] at hl; cases hl
theorem pm_0 : ∃ s, pm_at s ps_0 := by
  refine ⟨fun a b => if a = 43 then nI b else 0, ?_⟩
  refine ⟨rfl, by decide, fun i hi => ?_, fun i hi => ?_, fun k hk => absurd hk (Nat.not_lt_zero k), ⟨0, by decide, rfl⟩, ⟨228, by decide, rfl⟩, 0, by decide, rfl⟩
  · have : ∀ i, i < 4 → (0 : Int32) = sd_kind ps_0.2.1 (nI i) := by decide +kernel
    exact this i hi
  · have : ∀ i, i < 4 → nI i = sd_who ps_0.2.2.2 (nI i) := by decide +kernel
    exact this i hi
def or_n (P : Nat) : Nat := (ps_ord (nI P)).toBitVec.toNat
theorem or_ok : ∀ P, P < 256 → ps_tak (nI P) = 15 → (ps_ord (nI P) = nI (or_n P) ∧ or_n P < 256 ∧ wf_p (or_n P) = true) := by decide +kernel
theorem wf_beg {x : Nat} (h : x < 256) (hp : wf_p x = true) : wf 0 (sd_begin (nI x)) := by
  obtain ⟨b1, b2, b3⟩ := bg_ok x h hp
  exact ⟨x, bg x, 0, h, hp, b2, by decide, rfl, b1, rfl, Or.inl rfl, by show wf_ul 0 1; unfold wf_ul; decide⟩
theorem p_lay {c : Nat} {σ : rd_S} (hR : RR c σ) (hc : c ≤ 1000) : pair c σ yX4_lay cX4_lay 1 yX5_lay cX5_lay 3 [] := by
  obtain ⟨r1, r2, r3, r4, r5, r6, r7⟩ := id hR
  obtain ⟨n, h1, h2, h3⟩ := r1
  have hpc := ps_run_cong (ps_cong h3) 201 0 ps_0
  by_cases h0 : n = 0
  · subst h0
    exact pair_b hR (-2) (c_lay_n 49 34 σ (by decide) 0 ⟨h1, by decide⟩ (Or.inl rfl)) (m_lay_0 49 36 σ (by decide) h2.1)
  · rcases hrun : ps_run (σ 2) n 201 0 ps_0 with a | Y
    · refine pair_q hR (-2) ((c_lay_n 49 34 σ (by decide) n ⟨h1, h2.2.1⟩ (Or.inr ⟨a, hrun⟩)).post (fun r s q => ⟨q.1, by rw [q.2]; exact cs_eq.refl σ⟩)) (fun s hs => ?_)
      have up := cs_up hs
      have e41 : s 41 = σ 41 := funext (fun b => up 41 b (by decide))
      exact m_lay_f 49 36 s (by decide) n a (up_tx up h2) (by omega) (by rw [e41, ← hpc]; exact hrun)
    · obtain ⟨w, hw⟩ := run_ok h2.2.2 201 0 ps_0 Y pm_0 (hpc.symm.trans hrun)
      obtain ⟨-, w2, -, -, -, w6, ⟨P, hP, eP⟩, -⟩ := hw
      by_cases ht : ps_tak Y.2.2.2 = 15
      · have hbc : bc_c (ps_tak Y.2.2.2) = 4 := by rw [eP] at ht ⊢; exact (eq_lay P hP).mpr ht
        refine ⟨nI Y.1, fun s => s = ly_st σ Y, c_lay_s 49 34 σ (by decide) n ⟨h1, h2.2.1⟩ h0 Y hrun hbc, fun s hs => ?_⟩
        have t0 : ∀ a b, ¬ ((a = 1 ∧ 2 ≤ b ∧ b ≤ 5) ∨ (a = 0 ∧ 10 ≤ b ∧ b ≤ 13) ∨ a = 3 ∨ ((a = 5 ∨ a = 15) ∧ b = 2)) → s a b = σ a b := fun a b h => by
          rw [hs]
          show rd_u2 (rd_u2 (rd_u2 (sd_wr (rd_u2 (rd_u2 (rd_u2 (ps_wr σ Y) 0 11 _) 0 12 _) 0 13 _) 3 _) 0 10 0) 5 2 0) 15 2 0 a b = σ a b
          rw [u2_off (by omega), u2_off (by omega), u2_off (by omega), sd_wr_ne _ (by omega), u2_off (by omega), u2_off (by omega), u2_off (by omega)]
          unfold ps_wr
          by_cases e1 : a = 1
          · rw [if_pos e1, if_neg (by omega), if_neg (by omega), if_neg (by omega), if_neg (by omega)]
          · rw [if_neg e1]
        have up : ∀ a b, 33 ≤ a → s a b = σ a b := fun a b h => t0 a b (by omega)
        have e41 : s 41 = σ 41 := funext (fun b => up 41 b (by decide))
        refine (m_lay_s 49 36 s (by decide) n Y (up_tx up h2) (by omega) (by rw [e41, ← hpc]; exact hrun) ht).post (fun r u q => ⟨q.1, ?_⟩)
        obtain ⟨q2, q3, q4, q6, q8, q10, q12, q41, qlow⟩ := q.2
        have es : s = rd_u2 (rd_u2 (rd_u2 (sd_wr (rd_u2 (rd_u2 (rd_u2 (ps_wr σ Y) 0 11 Y.2.1) 0 12 Y.2.2.1) 0 13 (nI Y.1)) 3 (sd_begin (ps_ord Y.2.2.2))) 0 10 0) 5 2 0) 15 2 0 := hs
        have s11 : u 0 11 = Y.2.1 := by rw [qlow _ _ (by decide), es, u2_off (by omega), u2_off (by omega), u2_off (by omega), sd_wr_ne _ (by decide), u2_off (by omega), u2_off (by omega), u2_at]
        have s12 : u 0 12 = Y.2.2.1 := by rw [qlow _ _ (by decide), es, u2_off (by omega), u2_off (by omega), u2_off (by omega), sd_wr_ne _ (by decide), u2_off (by omega), u2_at]
        have s13 : u 0 13 = nI Y.1 := by rw [qlow _ _ (by decide), es, u2_off (by omega), u2_off (by omega), u2_off (by omega), sd_wr_ne _ (by decide), u2_at]
        have s10 : u 0 10 = 0 := by rw [qlow _ _ (by decide), es, u2_off (by omega), u2_off (by omega), u2_at]
        have s52 : u 5 2 = 0 := by rw [qlow _ _ (by decide), es, u2_off (by omega), u2_at]
        have s152 : u 15 2 = 0 := by rw [qlow _ _ (by decide), es, u2_at]
        have s3 : sd_rd u 3 = sd_begin (ps_ord Y.2.2.2) := by rw [rd_cong (fun b => qlow 3 b (by decide)), es, sd_rd_u2 (by decide), sd_rd_u2 (by decide), sd_rd_u2 (by decide), sd_rd_wr]
        obtain ⟨o1, o2, o3⟩ := or_ok P hP (by rw [← eP]; exact ht)
        obtain ⟨px, pm, b1, b2, -⟩ := r5
        obtain ⟨py, pn, d1, d2, -⟩ := r6
        refine ⟨⟨n, by rw [qlow _ _ (by decide), t0 _ _ (by omega)]; exact h1, ⟨by rw [q12, up _ _ (by decide)]; exact h2.1, h2.2.1, fun k hk => by rw [q41, e41]; exact h2.2.2 k hk⟩, fun k hk => by rw [qlow _ _ (by decide), t0 _ _ (by omega), q41, e41]; exact h3 k hk⟩, ⟨by rw [s11]; exact w6, by rw [s11]; exact q2⟩, ⟨Y.1, s13, by rw [s12]; exact q3⟩, ⟨?_, by rw [s3]; exact q4⟩, ⟨px, 0, by rw [qlow _ _ (by decide), t0 _ _ (by omega)]; exact b1, b2, s52, by omega, q6, fun k hk => by omega⟩, ⟨py, 0, by rw [qlow _ _ (by decide), t0 _ _ (by omega)]; exact d1, d2, s152, by omega, q8, fun k hk => by omega⟩, ⟨0, s10, by omega, q10, fun t ht => by omega⟩⟩
        rw [s3, eP, o1]
        exact (wf_beg o2 o3).up (by omega)
      · have hbc : ¬ bc_c (ps_tak Y.2.2.2) = 4 := by rw [eP] at ht ⊢; exact fun z => ht ((eq_lay P hP).mp z)
        refine pair_q hR (-2) ((c_lay_a 49 34 σ (by decide) n ⟨h1, h2.2.1⟩ h0 Y hrun hbc).post (fun r s q => ⟨q.1, ?_⟩)) (fun s hs => ?_)
        · rw [q.2]
          intro a b h
          unfold ps_wr
          by_cases e1 : a = 1
          · rw [if_pos e1, if_neg (by omega), if_neg (by omega), if_neg (by omega), if_neg (by omega)]
          · rw [if_neg e1]
        · have up := cs_up hs
          have e41 : s 41 = σ 41 := funext (fun b => up 41 b (by decide))
          exact m_lay_t 49 36 s (by decide) n Y (up_tx up h2) (by omega) (by rw [e41, ← hpc]; exact hrun) ht
