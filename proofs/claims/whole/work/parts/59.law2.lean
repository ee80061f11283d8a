/-! ===== the law's loop, round by round ===== -/
theorem lw_sw : ∀ j, j < 32 → (nI j).toInt = j := by decide +kernel
set_option maxHeartbeats 4000000 in
set_option maxRecDepth 100000 in
theorem law_loop {p : Program} {l : Launch} {e : Env} {s : State} {m : MethodId} {below : List Frame} {meth : Method} {c : Code} {b L : Nat} {xs : Nat → Int32} {g : rd_G} {cells slots : Nat} (hL : L ≤ 2048) (C : lw_X p s m meth c b L xs g) (hcr : cells ≤ 600000) (hsr : slots ≤ 7302250) :
    ∀ (n i k : Nat) (σ : rd_S) (H : Heap) (locs : List Loc) (ls : Array Slot), L + 4 ≤ i + n → i ≤ L → 4 * k ≤ i → RR k σ → lw_H s g σ H locs → lw_ls g b i ls → W p l e room_1 s m #[Value.ref b] below meth c H locs cells slots (lw_Z below #[Value.ref b] s) (F0 m 18 ls []) := by
  have hx := C.1.1
  have hb := C.1.2.1
  obtain ⟨-, -, hr, hml, hown, hts, hX, hbl, hlocks, hgv⟩ := C.1
  intro n
  induction n with
  | zero =>
    intro i k σ H locs ls h1 h2 h3 hR hH hl
    exact absurd h1 (by omega)
  | succ n ih =>
    intro i k σ H locs ls h1 h2 h3 hR hH hl
    refine lv_iload_n hx hb dL_law_18 rfl (lv_at hl 3 rfl) ?_
    refine lv_aload_n hx hb dL_law_19 rfl (lv_at hl 0 rfl) ?_
    refine va_slen (A := fun q : Nat => s.heap.size ≤ q) hx hb hX hbl (Nat.not_le.mpr hbl) hH.2.2 dL_law_20 ?_
    refine lv_iconst (v := 4) hx hb dL_law_21 (by decide) ?_
    refine lv_isub hx hb dL_law_22 ?_
    have eL : (Int32.ofNat L - 4).toInt = (L : Int) - 4 := by
      have h4 : (4 : Int32).toInt = 4 := rfl
      have hl : (Int32.ofNat L).toInt = L := nI_toInt (n := L) (by omega)
      rw [ti_sub (by rw [hl, h4]; omega) (by rw [hl, h4]; omega), hl, h4]
    refine lv_icmp_gt (tgt := 907) hx hb dL_law_23 (by decide) (fun c1 => ?_) (fun c1 => ?_)
    · refine lv_iconst (v := 1) hx hb dL_law_907 (by decide) ?_
      refine va_forget (fun q hq => hH.2.2.2.2 q hq) ?_
      refine W.widen (k := 600000) (n := 7302250) hcr hsr ?_
      exact lw_ret hx hb hr hlocks dL_law_908
    · have hi : i + 3 < L := by
        have h9 : ¬ (Int32.ofNat L - 4) < nI i := c1
        rw [Int32.lt_iff_toInt_lt, eL, nI_toInt (by omega)] at h9
        omega
      refine lv_aload_n hx hb dL_law_26 rfl (lv_at hl 0 rfl) ?_
      refine lv_iload_n hx hb dL_law_27 rfl (lv_at hl 3 rfl) ?_
      refine va_sld (A := fun q : Nat => s.heap.size ≤ q) hx hb hX hbl (Nat.not_le.mpr hbl) hH.2.2 (vp_in_nI (show i < L by omega) (by omega)) dL_law_28 ?_
      refine lv_bipush (v := 31) hx hb dL_law_29 (by decide) ?_
      refine lv_iand hx hb dL_law_31 ?_
      obtain ⟨j, hj, ej⟩ := pk_andE (xs (nI i).toNatClampNeg) (m := 31) 5 (by decide)
      rw [ej]
      have hj : j < 32 := hj
      have ejt := lw_sw j hj
      have K : lw_K p l e s m below meth c b g cells slots k ls := by
        intro σ1 H1 locs1 hR1 hH1
        refine lv_iinc (v := nI (i + 4)) (lv' := [(3, .int (nI (i + 4))), (0, .ref b), (1, .ref (g.2.1 0)), (2, .ref (g.2.1 33))]) hx hb dL_law_901 hl (k := 3) rfl (nI_add i 4) (by decide) rfl (fun ls2 hl2 => ?_)
        refine lv_goto (tgt := 18) hx hb dL_law_904 (by decide) ?_
        exact ih (i + 4) (k + 1) σ1 H1 locs1 ls2 (by omega) (by omega) (by omega) hR1 hH1 (lv_sub hl2 [1, 2, 3, 0] rfl)
      by_cases h29 : 29 ≤ j
      · refine lv_tableOut (tgt := 901) hx hb dL_law_32 (Or.inr (by rw [ejt]; omega)) (by decide) ?_
        exact K σ H locs (hR.qt (fun _ _ _ => rfl) (by omega)) hH
      · rcases (show j = 0 ∨ j = 1 ∨ j = 2 ∨ j = 3 ∨ j = 4 ∨ j = 5 ∨ j = 6 ∨ j = 7 ∨ j = 8 ∨ j = 9 ∨ j = 10 ∨ j = 11 ∨ j = 12 ∨ j = 13 ∨ j = 14 ∨ j = 15 ∨ j = 16 ∨ j = 17 ∨ j = 18 ∨ j = 19 ∨ j = 20 ∨ j = 21 ∨ j = 22 ∨ j = 23 ∨ j = 24 ∨ j = 25 ∨ j = 26 ∨ j = 27 ∨ j = 28 by omega) with rfl | rfl | rfl | rfl | rfl | rfl | rfl | rfl | rfl | rfl | rfl | rfl | rfl | rfl | rfl | rfl | rfl | rfl | rfl | rfl | rfl | rfl | rfl | rfl | rfl | rfl | rfl | rfl | rfl
        · exact lv_tableIn (tgt := 164) hx hb dL_law_32 (by decide) (by decide) rfl (by decide) (lw_c0 C hH hl hL hi h3 hR hcr hsr K)
        · exact lv_tableIn (tgt := 187) hx hb dL_law_32 (by decide) (by decide) rfl (by decide) (lw_c1 C hH hl hL hi h3 hR hcr hsr K)
        · exact lv_tableIn (tgt := 200) hx hb dL_law_32 (by decide) (by decide) rfl (by decide) (lw_c2 C hH hl hL hi h3 hR hcr hsr K)
        · exact lv_tableIn (tgt := 213) hx hb dL_law_32 (by decide) (by decide) rfl (by decide) (lw_c3 C hH hl hL hi h3 hR hcr hsr K)
        · exact lv_tableIn (tgt := 226) hx hb dL_law_32 (by decide) (by decide) rfl (by decide) (lw_c4 C hH hl hL hi h3 hR hcr hsr K)
        · exact lv_tableIn (tgt := 259) hx hb dL_law_32 (by decide) (by decide) rfl (by decide) (lw_c5 C hH hl hL hi h3 hR hcr hsr K)
        · exact lv_tableIn (tgt := 292) hx hb dL_law_32 (by decide) (by decide) rfl (by decide) (lw_c6 C hH hl hL hi h3 hR hcr hsr K)
        · exact lv_tableIn (tgt := 315) hx hb dL_law_32 (by decide) (by decide) rfl (by decide) (lw_c7 C hH hl hL hi h3 hR hcr hsr K)
        · exact lv_tableIn (tgt := 338) hx hb dL_law_32 (by decide) (by decide) rfl (by decide) (lw_c8 C hH hl hL hi h3 hR hcr hsr K)
        · exact lv_tableIn (tgt := 361) hx hb dL_law_32 (by decide) (by decide) rfl (by decide) (lw_c9 C hH hl hL hi h3 hR hcr hsr K)
        · exact lv_tableIn (tgt := 394) hx hb dL_law_32 (by decide) (by decide) rfl (by decide) (lw_c10 C hH hl hL hi h3 hR hcr hsr K)
        · exact lv_tableIn (tgt := 407) hx hb dL_law_32 (by decide) (by decide) rfl (by decide) (lw_c11 C hH hl hL hi h3 hR hcr hsr K)
        · exact lv_tableIn (tgt := 430) hx hb dL_law_32 (by decide) (by decide) rfl (by decide) (lw_c12 C hH hl hL hi h3 hR hcr hsr K)
        · exact lv_tableIn (tgt := 473) hx hb dL_law_32 (by decide) (by decide) rfl (by decide) (lw_c13 C hH hl hL hi h3 hR hcr hsr K)
        · exact lv_tableIn (tgt := 516) hx hb dL_law_32 (by decide) (by decide) rfl (by decide) (lw_c14 C hH hl hL hi h3 hR hcr hsr K)
        · exact lv_tableIn (tgt := 539) hx hb dL_law_32 (by decide) (by decide) rfl (by decide) (lw_c15 C hH hl hL hi h3 hR hcr hsr K)
        · exact lv_tableIn (tgt := 552) hx hb dL_law_32 (by decide) (by decide) rfl (by decide) (lw_c16 C hH hl hL hi h3 hR hcr hsr K)
        · exact lv_tableIn (tgt := 575) hx hb dL_law_32 (by decide) (by decide) rfl (by decide) (lw_c17 C hH hl hL hi h3 hR hcr hsr K)
        · exact lv_tableIn (tgt := 608) hx hb dL_law_32 (by decide) (by decide) rfl (by decide) (lw_c18 C hH hl hL hi h3 hR hcr hsr K)
        · exact lv_tableIn (tgt := 651) hx hb dL_law_32 (by decide) (by decide) rfl (by decide) (lw_c19 C hH hl hL hi h3 hR hcr hsr K)
        · exact lv_tableIn (tgt := 664) hx hb dL_law_32 (by decide) (by decide) rfl (by decide) (lw_c20 C hH hl hL hi h3 hR hcr hsr K)
        · exact lv_tableIn (tgt := 687) hx hb dL_law_32 (by decide) (by decide) rfl (by decide) (lw_c21 C hH hl hL hi h3 hR hcr hsr K)
        · exact lv_tableIn (tgt := 720) hx hb dL_law_32 (by decide) (by decide) rfl (by decide) (lw_c22 C hH hl hL hi h3 hR hcr hsr K)
        · exact lv_tableIn (tgt := 743) hx hb dL_law_32 (by decide) (by decide) rfl (by decide) (lw_c23 C hH hl hL hi h3 hR hcr hsr K)
        · exact lv_tableIn (tgt := 766) hx hb dL_law_32 (by decide) (by decide) rfl (by decide) (lw_c24 C hH hl hL hi h3 hR hcr hsr K)
        · exact lv_tableIn (tgt := 809) hx hb dL_law_32 (by decide) (by decide) rfl (by decide) (lw_c25 C hH hl hL hi h3 hR hcr hsr K)
        · exact lv_tableIn (tgt := 852) hx hb dL_law_32 (by decide) (by decide) rfl (by decide) (lw_c26 C hH hl hL hi h3 hR hcr hsr K)
        · exact lv_tableIn (tgt := 865) hx hb dL_law_32 (by decide) (by decide) rfl (by decide) (lw_c27 C hH hl hL hi h3 hR hcr hsr K)
        · exact lv_tableIn (tgt := 878) hx hb dL_law_32 (by decide) (by decide) rfl (by decide) (lw_c28 C hH hl hL hi h3 hR hcr hsr K)
