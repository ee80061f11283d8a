/-! ===== nothing wound: u = 0, and then l = 1 ===== -/
theorem wf_u0 {c : Nat} {E : sd_D} (h : wf c E) (hu : E.2.2.1 = 0) : E.2.2.2.1 = 1 := by
  obtain ⟨x, r, b, h1, h2, h3, h4, h5, h6, h7, h8, a1, a2, a3, a4, a5, a6⟩ := h
  rw [hu] at a5
  have a5 : Nat.gcd 0 E.2.2.2.1.toInt.natAbs = 1 := a5
  rw [Nat.gcd_zero_left] at a5
  apply Int32.toInt_inj.mp
  show E.2.2.2.1.toInt = 1
  omega
theorem gw_u0 {c : Nat} {E : sd_D} (h : wf c E) : decide (E.2.2.1 = 0) = gw 0 1 E := by
  unfold gw
  refine decide_eq_decide.mpr ⟨fun q => ⟨q, wf_u0 h q⟩, fun q => q.1⟩
theorem sr_cnt_cong {G R : sd_D → Bool} (kb : Int32) (h : ∀ c E, wf c E → G E = R E) : ∀ n c D, wf c D → c + n < 1000000 → sr_cnt G kb n D = sr_cnt R kb n D
  | 0, c, D, hw, _ => by unfold sr_cnt; rw [h c D hw]
  | n + 1, c, D, hw, hc => by
    have e : ∀ f, sr_c1 G kb n D f = sr_c1 R kb n D f := by
      intro f
      unfold sr_c1
      rcases hs : sd_st D (nI f) kb with _ | E
      · rfl
      · exact sr_cnt_cong kb h n (c + 1) E (wf_go hw (by omega) hs) (by omega)
    rw [sr_cnt_s, sr_cnt_s, show sr_c1 G kb n D = sr_c1 R kb n D from funext e]
theorem eq_ways {c : Nat} {D : sd_D} (kb : Int32) (n : Nat) (hw : wf c D) (hc : c + n < 1000000) : wc (se_P (fun E => decide (E.2.2.1 = 0)) kb D n) (3 ^ n) 0 0 = sr_cnt (gw 0 1) kb n D := by
  rw [eq_cnt]
  exact sr_cnt_cong kb (fun c E h => gw_u0 h) n c D hw hc
