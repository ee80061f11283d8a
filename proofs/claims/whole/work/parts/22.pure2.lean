/-! ===== a step keeps a stand well-formed ===== -/
theorem ti_add {x y : Int32} (h1 : -2147483648 ≤ x.toInt + y.toInt) (h2 : x.toInt + y.toInt < 2147483648) : (x + y).toInt = x.toInt + y.toInt := by
  rw [Int32.toInt_add]; exact Int.bmod_eq_of_le (by omega) (by omega)
theorem ti_sub {x y : Int32} (h1 : -2147483648 ≤ x.toInt - y.toInt) (h2 : x.toInt - y.toInt < 2147483648) : (x - y).toInt = x.toInt - y.toInt := by
  rw [Int32.toInt_sub]; exact Int.bmod_eq_of_le (by omega) (by omega)
theorem ti_neg {x : Int32} (h : -2147483648 < x.toInt) : (-x).toInt = -x.toInt := by
  have := Int32.toInt_lt x
  rw [Int32.toInt_neg]; exact Int.bmod_eq_of_le (by omega) (by omega)
theorem ti_mul {x y : Int32} (h1 : -2147483648 ≤ x.toInt * y.toInt) (h2 : x.toInt * y.toInt < 2147483648) : (x * y).toInt = x.toInt * y.toInt := by
  rw [Int32.toInt_mul]; exact Int.bmod_eq_of_le (by omega) (by omega)
def tw_c (t : Int32) : Prop := t = 0 ∨ t = 1 ∨ t = -1 ∨ t = 2 ∨ t = -2
theorem sd_told_c (f : Int32) : sd_told f = 1 ∨ sd_told f = -1 := by unfold sd_told; split <;> simp
theorem sd_tw_c {c : Nat} {D : sd_D} (h : wf c D) (f kb : Int32) : tw_c (sd_tw D f kb) := by
  obtain ⟨x, r, b, -, -, -, -, -, -, -, hl, -⟩ := h
  have h2 : tw_c 0 ∧ tw_c 1 ∧ tw_c (-1) ∧ tw_c (-1) ∧ tw_c (2 * 1) ∧ tw_c (2 * -1) ∧ tw_c (- -1) := by unfold tw_c; decide
  obtain ⟨a0, a1, a2, a3, a4, a5, a6⟩ := h2
  unfold sd_tw
  split
  · rcases sd_told_c f with ht | ht <;> rw [ht]
    · split
      · exact a2
      · split
        · split
          · exact a1
          · exact a0
        · split
          · exact a4
          · split
            · split
              · exact a0
              · exact a1
            · split
              · split
                · exact a1
                · rcases hl with hl | hl | hl <;> rw [hl] <;> assumption
              · exact a1
    · split
      · exact a6
      · split
        · split
          · exact a2
          · exact a0
        · split
          · exact a5
          · split
            · split
              · exact a0
              · exact a2
            · split
              · split
                · exact a2
                · rcases hl with hl | hl | hl <;> rw [hl] <;> assumption
              · exact a2
  · exact a0
theorem sd_tw_0 {D : sd_D} {f kb : Int32} (h0 : ¬ f = 0) (h1 : ¬ f = 1) : sd_tw D f kb = 0 := by
  unfold sd_tw
  rw [if_neg (by rintro (q | q); exact h0 q; exact h1 q)]
/-- what is wound by t, as a whole number -/
theorem wf_v {u l t : Int32} (h : wf_ul u l) (ht : tw_c t) : (u + t * l).toInt = u.toInt + t.toInt * l.toInt := by
  obtain ⟨h1, h2, h3, h4, h5, h6⟩ := h
  have hm : (t * l).toInt = t.toInt * l.toInt ∧ -19998 ≤ t.toInt * l.toInt ∧ t.toInt * l.toInt ≤ 19998 := by
    have e0 : (0 : Int32).toInt = 0 := rfl
    have e1 : (1 : Int32).toInt = 1 := rfl
    have e2 : (-1 : Int32).toInt = -1 := rfl
    have e3 : (2 : Int32).toInt = 2 := rfl
    have e4 : (-2 : Int32).toInt = -2 := rfl
    have hb : -19998 ≤ t.toInt * l.toInt ∧ t.toInt * l.toInt ≤ 19998 := by
      rcases ht with rfl | rfl | rfl | rfl | rfl
      · rw [e0]; omega
      · rw [e1]; omega
      · rw [e2]; omega
      · rw [e3]; omega
      · rw [e4]; omega
    exact ⟨ti_mul (by omega) (by omega), hb.1, hb.2⟩
  rw [ti_add (by omega) (by omega), hm.1]
theorem sd_abs_t {x : Int32} (h : -2147483648 < x.toInt) : (sd_abs x).toInt = x.toInt.natAbs := by
  rw [hp_abs h, nI_toInt (by have := Int32.toInt_lt x; have := Int32.le_toInt x; omega)]
theorem wf_t {u l t : Int32} (h : wf_ul u l) (ht : tw_c t) : -29997 ≤ u.toInt + t.toInt * l.toInt ∧ u.toInt + t.toInt * l.toInt ≤ 29997 := by
  obtain ⟨h1, h2, h3, h4, h5, h6⟩ := h
  have e0 : (0 : Int32).toInt = 0 := rfl
  have e1 : (1 : Int32).toInt = 1 := rfl
  have e2 : (-1 : Int32).toInt = -1 := rfl
  have e3 : (2 : Int32).toInt = 2 := rfl
  have e4 : (-2 : Int32).toInt = -2 := rfl
  rcases ht with rfl | rfl | rfl | rfl | rfl
  · rw [e0]; omega
  · rw [e1]; omega
  · rw [e2]; omega
  · rw [e3]; omega
  · rw [e4]; omega
theorem wf_ti {u l t : Int32} (h : wf_ul u l) (ht : tw_c t) : 9999 < sd_abs (u + t * l) ↔ ¬ (-9999 ≤ u.toInt + t.toInt * l.toInt ∧ u.toInt + t.toInt * l.toInt ≤ 9999) := by
  have h1 := wf_v h ht
  have h2 := wf_t h ht
  rw [Int32.lt_iff_toInt_lt, sd_abs_t (by omega), h1, show (9999 : Int32).toInt = 9999 from rfl]
  omega
theorem wf_ul_w {u l t : Int32} (h : wf_ul u l) (ht : tw_c t) (hn : ¬ 9999 < sd_abs (u + t * l)) : wf_ul (u + t * l) l := by
  have h1 := wf_v h ht
  have h2 := Decidable.of_not_not (fun q => hn ((wf_ti h ht).mpr q))
  obtain ⟨a1, a2, a3, a4, a5, a6⟩ := h
  refine ⟨by omega, by omega, a3, a4, ?_, fun q => ?_⟩
  · have := Int.gcd_add_mul_right_left l.toInt u.toInt t.toInt
    rw [h1]
    rw [Int.gcd_eq_natAbs_gcd_natAbs, Int.gcd_eq_natAbs_gcd_natAbs] at this
    rw [this]; exact a5
  · rw [h1, q, Int.mul_zero, Int.add_zero]; exact a6 q
theorem wf_ul_t {u l : Int32} (h : wf_ul u l) : wf_ul (if u = 0 then 1 else if u ≤ 0 then l else - l) (if u = 0 then 0 else sd_abs u) := by
  obtain ⟨a1, a2, a3, a4, a5, a6⟩ := h
  by_cases hu : u = 0
  · rw [if_pos hu, if_pos hu]
    exact ⟨by decide, by decide, by decide, by decide, by decide, by decide⟩
  · have hu2 : u.toInt ≠ 0 := fun q => hu (Int32.toInt_inj.mp q)
    rw [if_neg hu, if_neg hu]
    have hab := sd_abs_t (x := u) (by omega)
    have key : ∀ v : Int32, v.toInt.natAbs = l.toInt.natAbs → wf_ul v (sd_abs u) := by
      intro v hv
      refine ⟨by omega, by omega, by omega, by omega, ?_, fun q => by omega⟩
      rw [hab, hv, Int.natAbs_natCast, Nat.gcd_comm]; exact a5
    split
    · exact key l rfl
    · exact key (-l) (by rw [ti_neg (by omega)]; omega)
/-- a figure that can be danced -/
theorem wf_go {c : Nat} {D E : sd_D} (h : wf c D) (hc : c < 1000000) {f kb : Int32} (hs : sd_st D f kb = some E) : wf (c + 1) E := by
  have ht := sd_tw_c h f kb
  obtain ⟨x, r, b, h1, h2, h3, h4, h5, h6, h7, h8, h9⟩ := h
  unfold sd_st at hs
  split at hs
  · cases hs
  · rename_i hn
    cases hs
    by_cases hf : f = 2
    · subst hf
      have ht0 : sd_tw D 2 kb = 0 := sd_tw_0 (by decide) (by decide)
      obtain ⟨t1, t2, t3, -⟩ := tn_ok x h1
      have hul := wf_ul_t h9
      refine ⟨tn x, r, b + 1, t2, t3 h2, h3, by omega, ?_, ?_, ?_, ?_, ?_⟩
      · simp only [sd_go, ht0, sd_turn, h5]
        exact t1
      · simp [sd_go, ht0, sd_turn, h6]
      · simp [sd_go, ht0, sd_turn, h7, nI_s]
      · simp only [sd_go, ht0, sd_turn]; simpa using h8
      · simp only [sd_go, ht0, sd_turn]
        simpa using hul
    · have hul := wf_ul_w h9 ht hn
      have hsw : sd_tw D f kb - sd_tw D f kb / 2 * 2 = 0 ∨ True := Or.inr trivial
      obtain ⟨s1, s2, s3⟩ := sw_ok x h1 1 (by decide) 2 (by decide)
      have e1 : sd_go D f (sd_tw D f kb) = (if sd_tw D f kb - sd_tw D f kb / 2 * 2 = 0 then D.1 else sd_swap D.1 1 2, D.2.1, D.2.2.1 + sd_tw D f kb * D.2.2.2.1, D.2.2.2.1, if sd_tw D f kb = 0 then D.2.2.2.2.1 else if sd_tw D f kb ≤ 0 then -1 else 1, D.2.2.2.2.2 + 1) := by
        simp [sd_go, hf]
      rw [e1]
      refine ⟨if sd_tw D f kb - sd_tw D f kb / 2 * 2 = 0 then x else sw x 1 2, r, b + 1, ?_, ?_, h3, by omega, ?_, h6, ?_, ?_, hul⟩
      · split
        · exact h1
        · exact s2
      · split
        · exact h2
        · exact s3 h2
      · show (if sd_tw D f kb - sd_tw D f kb / 2 * 2 = 0 then D.1 else sd_swap D.1 1 2) = _
        split
        · exact h5
        · rw [h5]; exact s1
      · show D.2.2.2.2.2 + 1 = nI (b + 1)
        rw [h7, nI_s]
      · show (if sd_tw D f kb = 0 then D.2.2.2.2.1 else if sd_tw D f kb ≤ 0 then -1 else 1) = 0 ∨ _
        split
        · exact h8
        · split <;> simp
theorem wf.up {c c' : Nat} {D : sd_D} (h : wf c D) (hc : c ≤ c') : wf c' D := by
  obtain ⟨x, r, b, h1, h2, h3, h4, h5⟩ := h
  exact ⟨x, r, b, h1, h2, h3, by omega, h5⟩
/-- a REST can always be danced -/
theorem wf_rest {c : Nat} {D : sd_D} (h : wf c D) (kb : Int32) : sd_st D 3 kb = some (D.1, D.2.1, D.2.2.1, D.2.2.2.1, D.2.2.2.2.1, D.2.2.2.2.2 + 1) := by
  obtain ⟨x, r, b, h1, h2, h3, h4, h5, h6, h7, h8, h9⟩ := h
  have ht0 : sd_tw D 3 kb = 0 := sd_tw_0 (by decide) (by decide)
  unfold sd_st
  rw [ht0]
  have h0 : ¬ 9999 < sd_abs (D.2.2.1 + 0 * D.2.2.2.1) := by
    rw [wf_ti h9 (Or.inl rfl)]
    have e0 : (0 : Int32).toInt = 0 := rfl
    obtain ⟨a1, a2, a3, a4, a5, a6⟩ := h9
    rw [e0]; omega
  rw [if_neg h0]
  simp [sd_go]
theorem wf_turn {c : Nat} {D : sd_D} (h : wf c D) (kb : Int32) : sd_st D 2 kb = some (sd_go D 2 0) := by
  obtain ⟨x, r, b, h1, h2, h3, h4, h5, h6, h7, h8, h9⟩ := h
  have ht0 : sd_tw D 2 kb = 0 := sd_tw_0 (by decide) (by decide)
  unfold sd_st
  rw [ht0]
  have h0 : ¬ 9999 < sd_abs (D.2.2.1 + 0 * D.2.2.2.1) := by
    rw [wf_ti h9 (Or.inl rfl)]
    have e0 : (0 : Int32).toInt = 0 := rfl
    obtain ⟨a1, a2, a3, a4, a5, a6⟩ := h9
    rw [e0]; omega
  rw [if_neg h0]
