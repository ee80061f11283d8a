/-! ===== danced: plain dancers' ropes go by what is wound alone ===== -/
def ul (D E : sd_D) : Prop := D.2.2.1 = E.2.2.1 ∧ D.2.2.2.1 = E.2.2.2.1
theorem kd_0 : ∀ x : Int32, sd_kind 0 x = 0 := by
  intro x
  unfold sd_kind
  have e : (0 : Int32) >>> ((3 * x) &&& 31) = 0 := by
    apply Int32.toInt_inj.mp
    rw [pk_shr 0 ((3 * x) &&& 31) _ rfl]
    show (0 : Int) >>> _ = 0
    exact Int.zero_shiftRight _
  rw [e]; rfl
theorem tw_v (D : sd_D) (f : Int32) : sd_tw D f 0 = if f = 0 ∨ f = 1 then sd_told f else 0 := by
  unfold sd_tw
  rw [kd_0, if_neg (show ¬ (0 : Int32) = 1 by decide), if_neg (show ¬ (0 : Int32) = 2 by decide), if_neg (show ¬ (0 : Int32) = 3 by decide), if_neg (show ¬ (0 : Int32) = 4 by decide), if_neg (show ¬ (0 : Int32) = 5 by decide)]
theorem tw_0 (D E : sd_D) (f : Int32) : sd_tw D f 0 = sd_tw E f 0 := by rw [tw_v, tw_v]
theorem ul_st {D E : sd_D} (h : ul D E) (f : Int32) : (sd_st D f 0 = none ∧ sd_st E f 0 = none) ∨ ∃ D' E', sd_st D f 0 = some D' ∧ sd_st E f 0 = some E' ∧ ul D' E' := by
  unfold sd_st
  rw [tw_0 D E f, h.1, h.2]
  by_cases q : 9999 < sd_abs (E.2.2.1 + sd_tw E f 0 * E.2.2.2.1)
  · rw [if_pos q, if_pos q]; exact Or.inl ⟨rfl, rfl⟩
  · rw [if_neg q, if_neg q]
    refine Or.inr ⟨_, _, rfl, rfl, ?_⟩
    unfold ul sd_go
    by_cases h2 : f = 2
    · rw [if_pos h2, if_pos h2]
      simp only [sd_turn, h.1, h.2]
      exact ⟨trivial, trivial⟩
    · rw [if_neg h2, if_neg h2]
      simp only [h.1, h.2]
      exact ⟨trivial, trivial⟩
theorem ul_dr (code : Nat) : ∀ n D E, ul D E → (dr 0 code n D).1 = (dr 0 code n E).1 ∧ ul (dr 0 code n D).2 (dr 0 code n E).2
  | 0, D, E, h => ⟨rfl, h⟩
  | n + 1, D, E, h => by
    simp only [dr]
    rcases ul_st h (nI (code / 3 ^ n % 3)) with ⟨a, b⟩ | ⟨D', E', a, b, c⟩
    · rw [a, b]; exact ⟨rfl, h⟩
    · rw [a, b]; exact ul_dr code n D' E' c
theorem ul_gw {D E : sd_D} (h : ul D E) (u l : Int32) : gw u l D = gw u l E := by unfold gw; rw [h.1, h.2]
theorem eq_dd (n : Nat) (u l : Int32) (D0 : sd_D) (h0 : D0.2.2.1 = 0) (h1 : D0.2.2.2.1 = 1) : ∀ m code E a, dd n u l m code E a = wc (se_P (gw u l) 0 D0 n) m code a
  | 0, _, _, _ => rfl
  | m + 1, code, E, a => by
    have hu : ul (dd_0 E) D0 := ⟨h0.symm, h1.symm⟩
    obtain ⟨e1, e2⟩ := ul_dr code n _ _ hu
    unfold dd wc
    rw [eq_dd n u l D0 h0 h1 m (code + 1)]
    unfold se_P
    rw [e1, ul_gw e2]
theorem eq_danced (n : Nat) (u l x : Int32) (E : sd_D) : dd n u l (3 ^ n) 0 E 0 = sr_cnt (gw u l) 0 n (sd_begin x) := by
  rw [eq_dd n u l (sd_begin x) rfl rfl, eq_cnt]
/-! ===== look: codes alike ===== -/
theorem pk_s : ∀ k, k < 6 → ∀ A, A < 2 ^ k → nI A ||| ((1 : Int32) <<< (nI k &&& 31)) = nI (A + 2 ^ k) := by decide +kernel
theorem pk_lt64 (f : Nat → Bool) : ∀ m k A, A < 2 ^ k → k + m ≤ 6 → ∃ S, S < 2 ^ (k + m) ∧ pk_bits f m k (nI A) = nI S
  | 0, k, A, h, _ => ⟨A, h, rfl⟩
  | m + 1, k, A, h, hk => by
    unfold pk_bits
    by_cases q : f k = true
    · rw [if_pos q, pk_s k (by omega) A h]
      obtain ⟨S, a, b⟩ := pk_lt64 f m (k + 1) (A + 2 ^ k) (by rw [Nat.pow_succ]; omega) (by omega)
      exact ⟨S, by rw [show k + (m + 1) = k + 1 + m by omega]; exact a, b⟩
    · rw [if_neg q]
      obtain ⟨S, a, b⟩ := pk_lt64 f m (k + 1) A (by rw [Nat.pow_succ]; omega) (by omega)
      exact ⟨S, by rw [show k + (m + 1) = k + 1 + m by omega]; exact a, b⟩
def bt (so : Int32) (v : Nat) : Bool := decide ((so >>> (nI v &&& 31)) &&& 1 = 1)
theorem pb_bt : ∀ S, S < 64 → ∀ v, v < 6 → ∀ w, w < 6 → pb_b (nI S) v w = (bt (nI S) v && bt (nI S) w) := by decide +kernel
theorem bc_1m : ∀ S, S < 64 → (1 < bc_c (nI S) ↔ ¬ nI S &&& (nI S - 1) = 0) := by decide +kernel
theorem cd_eq {u l u' l' : Int32} : (u * 10000 + l = u' * 10000 + l') ↔ (10000 * (u + 9999) + l = 10000 * (u' + 9999) + l') := by
  have e : ∀ u l : Int32, 10000 * (u + 9999) + l = (u * 10000 + l) + 99990000 := by
    intro u l
    rw [Int32.mul_add, Int32.mul_comm 10000 u, Int32.add_assoc, Int32.add_comm _ l, ← Int32.add_assoc]
    rfl
  rw [e, e]
  exact ⟨fun h => by rw [h], fun h => by have h2 := congrArg (fun z : Int32 => z - 99990000) h; simpa [Int32.add_sub_cancel] using h2⟩
theorem ti_cd {u l : Int32} (h : wf_ul u l) : (u * 10000 + l).toInt = u.toInt * 10000 + l.toInt ∧ (10000 * (u + 9999) + l).toInt = 10000 * (u.toInt + 9999) + l.toInt := by
  obtain ⟨a1, a2, a3, a4, -, -⟩ := h
  have e1 : (10000 : Int32).toInt = 10000 := rfl
  have e2 : (9999 : Int32).toInt = 9999 := rfl
  have m1 : (u * 10000).toInt = u.toInt * 10000 := by rw [ti_mul (by rw [e1]; omega) (by rw [e1]; omega), e1]
  have p1 : (u + 9999).toInt = u.toInt + 9999 := by rw [ti_add (by rw [e2]; omega) (by rw [e2]; omega), e2]
  have m2 : (10000 * (u + 9999)).toInt = 10000 * (u.toInt + 9999) := by rw [ti_mul (by rw [e1, p1]; omega) (by rw [e1, p1]; omega), e1, p1]
  exact ⟨by rw [ti_add (by rw [m1]; omega) (by rw [m1]; omega), m1], by rw [ti_add (by rw [m2]; omega) (by rw [m2]; omega), m2]⟩
def cA (q : Bool × sd_D) : Int32 := if q.1 = true then q.2.2.2.1 * 10000 + q.2.2.2.2.1 else 1000000000
def cB (q : Bool × sd_D) : Int32 := if q.1 = true then 10000 * (q.2.2.2.1 + 9999) + q.2.2.2.2.1 else -4
theorem wf_ul_of {c : Nat} {D : sd_D} (h : wf c D) : wf_ul D.2.2.1 D.2.2.2.1 := by
  obtain ⟨x, r, b, h1, h2, h3, h4, h5, h6, h7, h8, h9⟩ := h
  exact h9
theorem cA_b {c : Nat} {q : Bool × sd_D} (h : wf c q.2) : ¬ cA q = 1000000001 ∧ (q.1 = true → ¬ cA q = 1000000000) ∧ (q.1 = true → ¬ cB q = -4) := by
  have hu := wf_ul_of h
  obtain ⟨e1, e2⟩ := ti_cd hu
  obtain ⟨a1, a2, a3, a4, -, -⟩ := hu
  refine ⟨fun e => ?_, fun hq e => ?_, fun hq e => ?_⟩
  · unfold cA at e
    by_cases hq : q.1 = true
    · rw [if_pos hq] at e
      have := congrArg Int32.toInt e
      rw [e1, show (1000000001 : Int32).toInt = 1000000001 from rfl] at this; omega
    · rw [if_neg hq] at e; exact absurd e (by decide)
  · unfold cA at e
    rw [if_pos hq] at e
    have := congrArg Int32.toInt e
    rw [e1, show (1000000000 : Int32).toInt = 1000000000 from rfl] at this; omega
  · unfold cB at e
    rw [if_pos hq] at e
    have := congrArg Int32.toInt e
    rw [e2, show (-4 : Int32).toInt = -4 from rfl] at this; omega
theorem cAB {c c' : Nat} {q q' : Bool × sd_D} (h : wf c q.2) (h' : wf c' q'.2) : cA q = cA q' ↔ cB q = cB q' := by
  obtain ⟨-, a2, a3⟩ := cA_b h
  obtain ⟨-, b2, b3⟩ := cA_b h'
  by_cases hq : q.1 = true
  · by_cases hq' : q'.1 = true
    · unfold cA cB
      rw [if_pos hq, if_pos hq', if_pos hq, if_pos hq']
      exact cd_eq
    · have e1 : cA q' = 1000000000 := by unfold cA; rw [if_neg hq']
      have e2 : cB q' = -4 := by unfold cB; rw [if_neg hq']
      rw [e1, e2]
      exact ⟨fun e => absurd e (a2 hq), fun e => absurd e (a3 hq)⟩
  · have d1 : cA q = 1000000000 := by unfold cA; rw [if_neg hq]
    have d2 : cB q = -4 := by unfold cB; rw [if_neg hq]
    rw [d1, d2]
    by_cases hq' : q'.1 = true
    · exact ⟨fun e => absurd e.symm (b2 hq'), fun e => absurd e.symm (b3 hq')⟩
    · have e1 : cA q' = 1000000000 := by unfold cA; rw [if_neg hq']
      have e2 : cB q' = -4 := by unfold cB; rw [if_neg hq']
      rw [e1, e2]; exact ⟨fun _ => rfl, fun _ => rfl⟩
theorem eq_ptn (so : Int32) (S : Nat) (hS : S < 64) (hso : so = nI S) (q : Nat → Bool × sd_D) (c : Nat) (hq : ∀ j, wf c (q j).2) (k : Nat) (hk : k < 6) (hb : bt so k = true) : ∀ m w a, w + m ≤ 6 → pt_n (fun j => if bt so j = true then cA (q j) else 1000000001) (cA (q k)) m w a = pb_n (fun j => cB (q j)) so k m w a
  | 0, _, _, _ => rfl
  | m + 1, w, a, hw => by
    unfold pt_n pb_n
    have e : ((if bt so w = true then cA (q w) else 1000000001) = cA (q k)) ↔ (pb_b so k w = true ∧ cB (q k) = cB (q w)) := by
      rw [hso, pb_bt S hS k hk w (by omega), ← hso, hb, Bool.true_and]
      by_cases h : bt so w = true
      · rw [if_pos h]
        exact ⟨fun x => ⟨h, ((cAB (hq w) (hq k)).mp x).symm⟩, fun x => (cAB (hq w) (hq k)).mpr x.2.symm⟩
      · rw [if_neg h]
        exact ⟨fun x => absurd x.symm (cA_b (hq k)).1, fun x => absurd x.1 h⟩
    have ih := fun a => eq_ptn so S hS hso q c hq k hk hb m (w + 1) a (by omega)
    by_cases h : (if bt so w = true then cA (q w) else 1000000001) = cA (q k)
    · rw [if_pos h, if_pos (e.mp h)]; exact ih _
    · rw [if_neg h, if_neg (fun x => h (e.mpr x))]; exact ih _
theorem pb_no (so : Int32) (S : Nat) (hS : S < 64) (hso : so = nI S) (C : Nat → Int32) (k : Nat) (hk : k < 6) (hb : ¬ bt so k = true) : ∀ m w a, w + m ≤ 6 → pb_n C so k m w a = a
  | 0, _, _, _ => rfl
  | m + 1, w, a, hw => by
    unfold pb_n
    rw [if_neg (fun x => by
      have x := x.1
      rw [hso, pb_bt S hS k hk w (by omega), ← hso] at x
      rw [Bool.and_eq_true] at x
      exact hb x.1)]
    exact pb_no so S hS hso C k hk hb m (w + 1) a (by omega)
theorem eq_part {σ : rd_S} {c : Nat} (hw : wf c (sd_rd σ 3)) (hc : c + 20 < 1000000) (fc : Nat) (hf : fc ≤ 12) (i S n : Nat) (hS : S < 64) : gp_v σ fc (nI i) (nI S) n = pb_v (σ 0 12) (σ 0 11) fc (sd_rd σ 3) (nI S) i n := by
  have hq : ∀ j, wf (c + min n fc) (tr_go (σ 0 12) (sd_withKind (σ 0 11) (nI i) (nI j)) (min n fc) 0 (sd_rd σ 3)).2 := fun j => tr_wf hw (by omega)
  have e1 : gp_c σ fc n (nI i) (nI S) = fun j => if bt (nI S) j = true then cA (tr_go (σ 0 12) (sd_withKind (σ 0 11) (nI i) (nI j)) (min n fc) 0 (sd_rd σ 3)) else 1000000001 := by
    funext j
    unfold gp_c bt cA
    by_cases h : (nI S >>> (nI j &&& 31)) &&& 1 = 1
    · rw [if_pos h, if_pos (decide_eq_true h)]
    · rw [if_neg h, if_neg (by rw [decide_eq_true_eq]; exact h)]
  unfold gp_v pb_v
  refine gp_mx_cong 6 0 0 (fun k hk => ?_)
  show pt_of (gp_c σ fc n (nI i) (nI S)) (gp_c σ fc n (nI i) (nI S) k) = pb_n (pb_c (σ 0 12) (σ 0 11) fc (sd_rd σ 3) n i) (nI S) k 6 0 0
  rw [e1]
  by_cases hb : bt (nI S) k = true
  · show pt_of _ (if bt (nI S) k = true then _ else _) = _
    rw [if_pos hb]
    unfold pt_of
    rw [if_neg (cA_b (hq k)).1]
    exact eq_ptn (nI S) S hS rfl (fun j => tr_go (σ 0 12) (sd_withKind (σ 0 11) (nI i) (nI j)) (min n fc) 0 (sd_rd σ 3)) _ hq k (by omega) hb 6 0 0 (by omega)
  · show pt_of _ (if bt (nI S) k = true then _ else _) = _
    rw [if_neg hb]
    unfold pt_of
    rw [if_pos rfl, pb_no (nI S) S hS rfl _ k (by omega) hb 6 0 0 (by omega)]
theorem eq_look {σ : rd_S} {c : Nat} (hw : wf c (sd_rd σ 3)) (hc : c + 20 < 1000000) (fc sc : Nat) (hf : fc ≤ 12) (i : Nat) (w : Int32) : lk_out σ fc sc (nI i) w = ml_out (σ 0 12) (σ 0 11) fc (sd_rd σ 3) (pk_bits (pk_f σ fc sc (nI i)) 6 0 0) i w := by
  obtain ⟨S, hS, eS⟩ := pk_lt64 (pk_f σ fc sc (nI i)) 6 0 0 (by decide) (by decide)
  have eS : pk_bits (pk_f σ fc sc (nI i)) 6 0 0 = nI S := eS
  have hS : S < 64 := hS
  unfold lk_out ml_out
  rw [eS]
  have e : gp_v σ fc (nI i) (nI S) = pb_v (σ 0 12) (σ 0 11) fc (sd_rd σ 3) (nI S) i := funext (fun n => eq_part hw hc fc hf i S n hS)
  rw [e]
  by_cases h : nI S &&& (nI S - 1) = 0
  · rw [if_pos h, if_neg (fun q => (bc_1m S hS).mp q h)]
  · rw [if_neg h, if_pos ((bc_1m S hS).mpr h)]
    have h6 := pb_v_le (σ 0 12) (σ 0 11) fc (sd_rd σ 3) (nI S) i 1
    have a1 : lk_go (pb_v (σ 0 12) (σ 0 11) fc (sd_rd σ 3) (nI S) i) 12 1 (0, 7) = lk_go (pb_v (σ 0 12) (σ 0 11) fc (sd_rd σ 3) (nI S) i) 11 2 (1, pb_v (σ 0 12) (σ 0 11) fc (sd_rd σ 3) (nI S) i 1) := lk_go_t (show _ < 7 by omega)
    have a2 : lk_go (pb_v (σ 0 12) (σ 0 11) fc (sd_rd σ 3) (nI S) i) 12 1 (0, 10) = lk_go (pb_v (σ 0 12) (σ 0 11) fc (sd_rd σ 3) (nI S) i) 11 2 (1, pb_v (σ 0 12) (σ 0 11) fc (sd_rd σ 3) (nI S) i 1) := lk_go_t (show _ < 10 by omega)
    rw [a1, a2]
