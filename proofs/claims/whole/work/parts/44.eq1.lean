/-! ===== both sides answer alike: pure equalities ===== -/
theorem eq_lay : ∀ P, P < 256 → (bc_c (ps_tak (nI P)) = 4 ↔ ps_tak (nI P) = 15) := by decide +kernel
theorem eq_kinds (σ : rd_S) (fc sc i v : Nat) : pk_f σ fc sc (nI i) v = ks_f (σ 0 12) (σ 0 11) fc sc (sd_rd σ 3) (fun s => (σ 29 s).toNatClampNeg) (σ 30) (σ 31) i v := rfl
theorem sd_st_beats {D E : sd_D} {f kb : Int32} (h : sd_st D f kb = some E) : E.2.2.2.2.2 = D.2.2.2.2.2 + 1 := by
  unfold sd_st at h
  split at h
  · cases h
  · cases h
    unfold sd_go sd_turn
    split <;> rename_i q <;> split at q <;> (cases q; rfl)
theorem tr_beats (fg kb : Int32) : ∀ (m k : Nat) (D : sd_D), (tr_go fg kb m k D).2.2.2.2.2.2 = D.2.2.2.2.2 + nI (tr_n fg kb m k D - k)
  | 0, k, D => by simp [tr_go, tr_n]; rfl
  | m + 1, k, D => by
    rcases h : sd_st D (sd_who fg (nI k)) kb with _ | E
    · simp only [tr_go, tr_n, h, Nat.sub_self]
      exact (Int32.add_zero _).symm
    · have h1 := tr_beats fg kb m (k + 1) E
      have h2 := tr_n_le fg kb m (k + 1) E
      simp only [tr_go, tr_n, h]
      rw [h1, sd_st_beats h, Int32.add_assoc, show (1 : Int32) + nI (tr_n fg kb m (k + 1) E - (k + 1)) = nI (1 + (tr_n fg kb m (k + 1) E - (k + 1))) from nI_add 1 _]
      exact congrArg (fun z => D.2.2.2.2.2 + nI z) (by omega)
theorem eq_comes (fg kb : Int32) (m : Nat) (D : sd_D) : (tr_go fg kb m 0 D).2.2.2.2.2.2 - D.2.2.2.2.2 = nI (tr_n fg kb m 0 D) := by
  rw [tr_beats, Nat.sub_zero, Int32.add_comm, Int32.add_sub_cancel]
