/-! ===== the law's loop ===== -/
def lw_X (p : Program) (s : State) (m : MethodId) (meth : Method) (c : Code) (b L : Nat) (xs : Nat → Int32) (g : rd_G) : Prop := lw_At p s m meth c b L xs ∧ va_K g.1 vwCl (rd_tys g) s ∧ rd_NW s ∧ ∀ q, rd_A 49 g q → s.heap.size ≤ q
def lw_H (s : State) (g : rd_G) (σ : rd_S) (H : Heap) (locs : List Loc) : Prop := va_P g.1 vwCl (rd_wd 49 g σ) H ∧ va_D (rd_A 49 g) (rd_wd 49 g σ) ∧ va_S (fun q : Nat => s.heap.size ≤ q) s.heap H locs
section LW
variable {p : Program} {l : Launch} {e : Env} {s : State} {m : MethodId} {below : List Frame} {meth : Method} {c : Code} {b L : Nat} {xs : Nat → Int32} {g : rd_G} {σ : rd_S} {H : Heap} {locs : List Loc} {ls : Array Slot} {cells slots : Nat}
/-- a call out of the law -/
theorem lw_call {pc idx n o ci : Nat} {y : MethodName} {cy : ByteArray} {ny : Nat} {as rest st st' : List Value} {Qy : Option Value → rd_S → Prop} {Q : State → Prop} (C : lw_X p s m meth c b L xs g) (hH : lw_H s g σ H locs) (hls : ls.size = 4) (hcr : cells ≤ 600000) (hsr : slots ≤ 7302250) (hT : rd_T 49 40 y cy ny (some .int) (.ref o :: as) σ Qy) (hcv : rd_CV RL idx ci y cy ny (some .int) n) (hn : as.length = n) (ho : o < 49) (hkd : rd_kd o = ci) (hw : (rest.map Value.category).sum ≤ 8) (hst : st = (as.reverse ++ .ref o :: rest).map (rd_tr g.2.1)) (hst' : st' = rest.map (rd_tr g.2.1)) (hd : decode cL_law pc = .ok (.invokevirtual idx, 3))
    (kk : ∀ (r : Int32) (σ1 : rd_S) (H1 : Heap) (locs1 : List Loc), Qy (some (.int r)) σ1 → lw_H s g σ1 H1 locs1 → W p l e room_1 s m #[Value.ref b] below meth c H1 locs1 cells slots Q (F0 m (pc + 3) ls (.int r :: st'))) : W p l e room_1 s m #[Value.ref b] below meth c H locs cells slots Q (F0 m pc ls st) := by
  obtain ⟨⟨hx, hb, hr, hml, hown, hts, hX, hbl, hlocks, hgv⟩, hK, hN, hA⟩ := C
  obtain ⟨hP, hD, hS⟩ := hH
  subst hst
  subst hst'
  exact va_calli (A0 := fun q : Nat => s.heap.size ≤ q) (A1 := rd_A 49 g) (a := (Value.ref (g.2.1 o) :: as.map (rd_tr g.2.1)).toArray) (rd_runV (nL := 4) hx hb hml hown (fun w hw => hts w (List.mem_filter.mp hw).1) hK hN (show 40 + 1 ≤ 2048 by decide) (show 64 * (40 + 1) ≤ 84000 by decide) hP hD hls hcr hsr hT hcv hn ho hkd hw hd) hS (fun q _ h => hA q h) (fun q h => hA q h) (fun r u t H1 locs1 ht hvm hq hB hz hk hS1 => kk r u H1 locs1 hq ⟨by rw [← ht]; exact hB.1, hB.2.2, hS1⟩)
def lw_ls (g : rd_G) (b i : Nat) (ls : Array Slot) : Prop := lv_has ls 4 [(0, .ref b), (1, .ref (g.2.1 0)), (2, .ref (g.2.1 33)), (3, .int (nI i))]
/-- an int of the script -/
theorem lw_ld {pc i j : Nat} {rest : List Value} {v : Int32} {Q : State → Prop} (C : lw_X p s m meth c b L xs g) (hH : lw_H s g σ H locs) (hl : lw_ls g b i ls) (hL : L ≤ 2048) (hj : i + j < L) (d0 : decode cL_law pc = .ok (.aload_n 0, 1)) (d1 : decode cL_law (pc + 1) = .ok (.iload_n 3, 1)) {z : Int} (d2 : decode cL_law (pc + 2) = .ok (.iconst z, 1)) (hz : Int32.ofInt z = nI j) (d3 : decode cL_law (pc + 3) = .ok (.iadd, 1)) (d4 : decode cL_law (pc + 4) = .ok (.iaload, 1)) (hv : xs (i + j) = v)
    (kk : W p l e room_1 s m #[Value.ref b] below meth c H locs cells slots Q (F0 m (pc + 5) ls (.int v :: rest))) : W p l e room_1 s m #[Value.ref b] below meth c H locs cells slots Q (F0 m pc ls rest) := by
  obtain ⟨⟨hx, hb, hr, hml, hown, hts, hX, hbl, hlocks, hgv⟩, hK, hN, hA⟩ := C
  refine lv_aload_n hx hb d0 rfl (lv_at hl 0 rfl) ?_
  refine lv_iload_n hx hb d1 rfl (lv_at hl 3 rfl) ?_
  refine lv_iconst (v := nI j) hx hb d2 hz ?_
  refine lv_iadd hx hb d3 ?_
  rw [nI_add]
  refine va_sld (A := fun q : Nat => s.heap.size ≤ q) hx hb hX hbl (Nat.not_le.mpr hbl) hH.2.2 (vp_in_nI hj (by omega)) d4 ?_
  rw [nI_clamp (by omega), hv]
  exact kk
/-- behind a case: what goes on -/
def lw_K (p : Program) (l : Launch) (e : Env) (s : State) (m : MethodId) (below : List Frame) (meth : Method) (c : Code) (b : Nat) (g : rd_G) (cells slots k : Nat) (ls : Array Slot) : Prop :=
  ∀ (σ1 : rd_S) (H1 : Heap) (locs1 : List Loc), RR (k + 1) σ1 → lw_H s g σ1 H1 locs1 → W p l e room_1 s m #[Value.ref b] below meth c H1 locs1 cells slots (lw_Z below #[Value.ref b] s) (F0 m 901 ls [])
set_option maxRecDepth 100000 in
theorem lw_c0 (C : lw_X p s m meth c b L xs g) (hH : lw_H s g σ H locs) {i k : Nat} (hl : lw_ls g b i ls) (hL : L ≤ 2048) (hi : i + 3 < L) (hk : 4 * k ≤ i) (hR : RR k σ) (hcr : cells ≤ 600000) (hsr : slots ≤ 7302250) (K : lw_K p l e s m below meth c b g cells slots k ls) : W p l e room_1 s m #[Value.ref b] below meth c H locs cells slots (lw_Z below #[Value.ref b] s) (F0 m 164 ls []) := by
  obtain ⟨v, P, hT, hU⟩ := p_write hR (by omega) (xs (i + 1))
  refine lv_aload_n C.1.1 C.1.2.1 dL_law_164 rfl (lv_at hl 1 rfl) ?_
  refine lw_ld (j := 1) C hH hl hL (by omega) dL_law_165 dL_law_166 dL_law_167 rfl dL_law_168 dL_law_169 rfl ?_
  refine lw_call (rest := []) C hH hl.1 hcr hsr hT km_L_13 rfl (by decide) rfl (by decide) rfl rfl dL_law_170 (fun r1 σ1 H1 locs1 q1 hH1 => ?_)
  obtain ⟨e1, hP⟩ := q1
  cases e1
  refine lv_aload_n C.1.1 C.1.2.1 dL_law_173 rfl (lv_at hl 2 rfl) ?_
  refine lw_ld (j := 1) C hH1 hl hL (by omega) dL_law_174 dL_law_175 dL_law_176 rfl dL_law_177 dL_law_178 rfl ?_
  refine lw_call (rest := [.int v]) C hH1 hl.1 hcr hsr (hU _ hP) km_L_17 rfl (by decide) rfl (Nat.le_of_ble_eq_true rfl) rfl rfl dL_law_179 (fun r2 σ2 H2 locs2 q2 hH2 => ?_)
  obtain ⟨e2, hR2⟩ := q2
  cases e2
  refine lv_icmp_eq (tgt := 901) C.1.1 C.1.2.1 dL_law_182 (by decide) (fun _ => K σ2 H2 locs2 hR2 hH2) (fun c9 => absurd rfl c9)
set_option maxRecDepth 100000 in
theorem lw_c1 (C : lw_X p s m meth c b L xs g) (hH : lw_H s g σ H locs) {i k : Nat} (hl : lw_ls g b i ls) (hL : L ≤ 2048) (hi : i + 3 < L) (hk : 4 * k ≤ i) (hR : RR k σ) (hcr : cells ≤ 600000) (hsr : slots ≤ 7302250) (K : lw_K p l e s m below meth c b g cells slots k ls) : W p l e room_1 s m #[Value.ref b] below meth c H locs cells slots (lw_Z below #[Value.ref b] s) (F0 m 187 ls []) := by
  obtain ⟨v, P, hT, hU⟩ := p_wipe hR (by omega)
  refine lv_aload_n C.1.1 C.1.2.1 dL_law_187 rfl (lv_at hl 1 rfl) ?_
  refine lw_call (rest := []) C hH hl.1 hcr hsr hT km_L_18 rfl (by decide) rfl (by decide) rfl rfl dL_law_188 (fun r1 σ1 H1 locs1 q1 hH1 => ?_)
  obtain ⟨e1, hP⟩ := q1
  cases e1
  refine lv_aload_n C.1.1 C.1.2.1 dL_law_191 rfl (lv_at hl 2 rfl) ?_
  refine lw_call (rest := [.int v]) C hH1 hl.1 hcr hsr (hU _ hP) km_L_22 rfl (by decide) rfl (Nat.le_of_ble_eq_true rfl) rfl rfl dL_law_192 (fun r2 σ2 H2 locs2 q2 hH2 => ?_)
  obtain ⟨e2, hR2⟩ := q2
  cases e2
  refine lv_icmp_eq (tgt := 901) C.1.1 C.1.2.1 dL_law_195 (by decide) (fun _ => K σ2 H2 locs2 hR2 hH2) (fun c9 => absurd rfl c9)
set_option maxRecDepth 100000 in
theorem lw_c2 (C : lw_X p s m meth c b L xs g) (hH : lw_H s g σ H locs) {i k : Nat} (hl : lw_ls g b i ls) (hL : L ≤ 2048) (hi : i + 3 < L) (hk : 4 * k ≤ i) (hR : RR k σ) (hcr : cells ≤ 600000) (hsr : slots ≤ 7302250) (K : lw_K p l e s m below meth c b g cells slots k ls) : W p l e room_1 s m #[Value.ref b] below meth c H locs cells slots (lw_Z below #[Value.ref b] s) (F0 m 200 ls []) := by
  obtain ⟨v, P, hT, hU⟩ := p_fault hR (by omega)
  refine lv_aload_n C.1.1 C.1.2.1 dL_law_200 rfl (lv_at hl 1 rfl) ?_
  refine lw_call (rest := []) C hH hl.1 hcr hsr hT km_L_23 rfl (by decide) rfl (by decide) rfl rfl dL_law_201 (fun r1 σ1 H1 locs1 q1 hH1 => ?_)
  obtain ⟨e1, hP⟩ := q1
  cases e1
  refine lv_aload_n C.1.1 C.1.2.1 dL_law_204 rfl (lv_at hl 2 rfl) ?_
  refine lw_call (rest := [.int v]) C hH1 hl.1 hcr hsr (hU _ hP) km_L_26 rfl (by decide) rfl (Nat.le_of_ble_eq_true rfl) rfl rfl dL_law_205 (fun r2 σ2 H2 locs2 q2 hH2 => ?_)
  obtain ⟨e2, hR2⟩ := q2
  cases e2
  refine lv_icmp_eq (tgt := 901) C.1.1 C.1.2.1 dL_law_208 (by decide) (fun _ => K σ2 H2 locs2 hR2 hH2) (fun c9 => absurd rfl c9)
set_option maxRecDepth 100000 in
theorem lw_c3 (C : lw_X p s m meth c b L xs g) (hH : lw_H s g σ H locs) {i k : Nat} (hl : lw_ls g b i ls) (hL : L ≤ 2048) (hi : i + 3 < L) (hk : 4 * k ≤ i) (hR : RR k σ) (hcr : cells ≤ 600000) (hsr : slots ≤ 7302250) (K : lw_K p l e s m below meth c b g cells slots k ls) : W p l e room_1 s m #[Value.ref b] below meth c H locs cells slots (lw_Z below #[Value.ref b] s) (F0 m 213 ls []) := by
  obtain ⟨v, P, hT, hU⟩ := p_lay hR (by omega)
  refine lv_aload_n C.1.1 C.1.2.1 dL_law_213 rfl (lv_at hl 1 rfl) ?_
  refine lw_call (rest := []) C hH hl.1 hcr hsr hT km_L_27 rfl (by decide) rfl (by decide) rfl rfl dL_law_214 (fun r1 σ1 H1 locs1 q1 hH1 => ?_)
  obtain ⟨e1, hP⟩ := q1
  cases e1
  refine lv_aload_n C.1.1 C.1.2.1 dL_law_217 rfl (lv_at hl 2 rfl) ?_
  refine lw_call (rest := [.int v]) C hH1 hl.1 hcr hsr (hU _ hP) km_L_30 rfl (by decide) rfl (Nat.le_of_ble_eq_true rfl) rfl rfl dL_law_218 (fun r2 σ2 H2 locs2 q2 hH2 => ?_)
  obtain ⟨e2, hR2⟩ := q2
  cases e2
  refine lv_icmp_eq (tgt := 901) C.1.1 C.1.2.1 dL_law_221 (by decide) (fun _ => K σ2 H2 locs2 hR2 hH2) (fun c9 => absurd rfl c9)
set_option maxRecDepth 100000 in
theorem lw_c4 (C : lw_X p s m meth c b L xs g) (hH : lw_H s g σ H locs) {i k : Nat} (hl : lw_ls g b i ls) (hL : L ≤ 2048) (hi : i + 3 < L) (hk : 4 * k ≤ i) (hR : RR k σ) (hcr : cells ≤ 600000) (hsr : slots ≤ 7302250) (K : lw_K p l e s m below meth c b g cells slots k ls) : W p l e room_1 s m #[Value.ref b] below meth c H locs cells slots (lw_Z below #[Value.ref b] s) (F0 m 226 ls []) := by
  obtain ⟨v, P, hT, hU⟩ := p_dancer hR (by omega) (xs (i + 1)) (xs (i + 2))
  refine lv_aload_n C.1.1 C.1.2.1 dL_law_226 rfl (lv_at hl 1 rfl) ?_
  refine lw_ld (j := 1) C hH hl hL (by omega) dL_law_227 dL_law_228 dL_law_229 rfl dL_law_230 dL_law_231 rfl ?_
  refine lw_ld (j := 2) C hH hl hL (by omega) dL_law_232 dL_law_233 dL_law_234 rfl dL_law_235 dL_law_236 rfl ?_
  refine lw_call (rest := []) C hH hl.1 hcr hsr hT km_L_31 rfl (by decide) rfl (by decide) rfl rfl dL_law_237 (fun r1 σ1 H1 locs1 q1 hH1 => ?_)
  obtain ⟨e1, hP⟩ := q1
  cases e1
  refine lv_aload_n C.1.1 C.1.2.1 dL_law_240 rfl (lv_at hl 2 rfl) ?_
  refine lw_ld (j := 1) C hH1 hl hL (by omega) dL_law_241 dL_law_242 dL_law_243 rfl dL_law_244 dL_law_245 rfl ?_
  refine lw_ld (j := 2) C hH1 hl hL (by omega) dL_law_246 dL_law_247 dL_law_248 rfl dL_law_249 dL_law_250 rfl ?_
  refine lw_call (rest := [.int v]) C hH1 hl.1 hcr hsr (hU _ hP) km_L_35 rfl (by decide) rfl (Nat.le_of_ble_eq_true rfl) rfl rfl dL_law_251 (fun r2 σ2 H2 locs2 q2 hH2 => ?_)
  obtain ⟨e2, hR2⟩ := q2
  cases e2
  refine lv_icmp_eq (tgt := 901) C.1.1 C.1.2.1 dL_law_254 (by decide) (fun _ => K σ2 H2 locs2 hR2 hH2) (fun c9 => absurd rfl c9)
set_option maxRecDepth 100000 in
theorem lw_c5 (C : lw_X p s m meth c b L xs g) (hH : lw_H s g σ H locs) {i k : Nat} (hl : lw_ls g b i ls) (hL : L ≤ 2048) (hi : i + 3 < L) (hk : 4 * k ≤ i) (hR : RR k σ) (hcr : cells ≤ 600000) (hsr : slots ≤ 7302250) (K : lw_K p l e s m below meth c b g cells slots k ls) : W p l e room_1 s m #[Value.ref b] below meth c H locs cells slots (lw_Z below #[Value.ref b] s) (F0 m 259 ls []) := by
  obtain ⟨v, P, hT, hU⟩ := p_place hR (by omega) (xs (i + 1)) (xs (i + 2))
  refine lv_aload_n C.1.1 C.1.2.1 dL_law_259 rfl (lv_at hl 1 rfl) ?_
  refine lw_ld (j := 1) C hH hl hL (by omega) dL_law_260 dL_law_261 dL_law_262 rfl dL_law_263 dL_law_264 rfl ?_
  refine lw_ld (j := 2) C hH hl hL (by omega) dL_law_265 dL_law_266 dL_law_267 rfl dL_law_268 dL_law_269 rfl ?_
  refine lw_call (rest := []) C hH hl.1 hcr hsr hT km_L_36 rfl (by decide) rfl (by decide) rfl rfl dL_law_270 (fun r1 σ1 H1 locs1 q1 hH1 => ?_)
  obtain ⟨e1, hP⟩ := q1
  cases e1
  refine lv_aload_n C.1.1 C.1.2.1 dL_law_273 rfl (lv_at hl 2 rfl) ?_
  refine lw_ld (j := 1) C hH1 hl hL (by omega) dL_law_274 dL_law_275 dL_law_276 rfl dL_law_277 dL_law_278 rfl ?_
  refine lw_ld (j := 2) C hH1 hl hL (by omega) dL_law_279 dL_law_280 dL_law_281 rfl dL_law_282 dL_law_283 rfl ?_
  refine lw_call (rest := [.int v]) C hH1 hl.1 hcr hsr (hU _ hP) km_L_39 rfl (by decide) rfl (Nat.le_of_ble_eq_true rfl) rfl rfl dL_law_284 (fun r2 σ2 H2 locs2 q2 hH2 => ?_)
  obtain ⟨e2, hR2⟩ := q2
  cases e2
  refine lv_icmp_eq (tgt := 901) C.1.1 C.1.2.1 dL_law_287 (by decide) (fun _ => K σ2 H2 locs2 hR2 hH2) (fun c9 => absurd rfl c9)
set_option maxRecDepth 100000 in
theorem lw_c6 (C : lw_X p s m meth c b L xs g) (hH : lw_H s g σ H locs) {i k : Nat} (hl : lw_ls g b i ls) (hL : L ≤ 2048) (hi : i + 3 < L) (hk : 4 * k ≤ i) (hR : RR k σ) (hcr : cells ≤ 600000) (hsr : slots ≤ 7302250) (K : lw_K p l e s m below meth c b g cells slots k ls) : W p l e room_1 s m #[Value.ref b] below meth c H locs cells slots (lw_Z below #[Value.ref b] s) (F0 m 292 ls []) := by
  obtain ⟨v, P, hT, hU⟩ := p_wound hR (by omega) (xs (i + 1))
  refine lv_aload_n C.1.1 C.1.2.1 dL_law_292 rfl (lv_at hl 1 rfl) ?_
  refine lw_ld (j := 1) C hH hl hL (by omega) dL_law_293 dL_law_294 dL_law_295 rfl dL_law_296 dL_law_297 rfl ?_
  refine lw_call (rest := []) C hH hl.1 hcr hsr hT km_L_40 rfl (by decide) rfl (by decide) rfl rfl dL_law_298 (fun r1 σ1 H1 locs1 q1 hH1 => ?_)
  obtain ⟨e1, hP⟩ := q1
  cases e1
  refine lv_aload_n C.1.1 C.1.2.1 dL_law_301 rfl (lv_at hl 2 rfl) ?_
  refine lw_ld (j := 1) C hH1 hl hL (by omega) dL_law_302 dL_law_303 dL_law_304 rfl dL_law_305 dL_law_306 rfl ?_
  refine lw_call (rest := [.int v]) C hH1 hl.1 hcr hsr (hU _ hP) km_L_43 rfl (by decide) rfl (Nat.le_of_ble_eq_true rfl) rfl rfl dL_law_307 (fun r2 σ2 H2 locs2 q2 hH2 => ?_)
  obtain ⟨e2, hR2⟩ := q2
  cases e2
  refine lv_icmp_eq (tgt := 901) C.1.1 C.1.2.1 dL_law_310 (by decide) (fun _ => K σ2 H2 locs2 hR2 hH2) (fun c9 => absurd rfl c9)
set_option maxRecDepth 100000 in
theorem lw_c7 (C : lw_X p s m meth c b L xs g) (hH : lw_H s g σ H locs) {i k : Nat} (hl : lw_ls g b i ls) (hL : L ≤ 2048) (hi : i + 3 < L) (hk : 4 * k ≤ i) (hR : RR k σ) (hcr : cells ≤ 600000) (hsr : slots ≤ 7302250) (K : lw_K p l e s m below meth c b g cells slots k ls) : W p l e room_1 s m #[Value.ref b] below meth c H locs cells slots (lw_Z below #[Value.ref b] s) (F0 m 315 ls []) := by
  obtain ⟨v, P, hT, hU⟩ := p_row hR (by omega) (xs (i + 1))
  refine lv_aload_n C.1.1 C.1.2.1 dL_law_315 rfl (lv_at hl 1 rfl) ?_
  refine lw_ld (j := 1) C hH hl hL (by omega) dL_law_316 dL_law_317 dL_law_318 rfl dL_law_319 dL_law_320 rfl ?_
  refine lw_call (rest := []) C hH hl.1 hcr hsr hT km_L_44 rfl (by decide) rfl (by decide) rfl rfl dL_law_321 (fun r1 σ1 H1 locs1 q1 hH1 => ?_)
  obtain ⟨e1, hP⟩ := q1
  cases e1
  refine lv_aload_n C.1.1 C.1.2.1 dL_law_324 rfl (lv_at hl 2 rfl) ?_
  refine lw_ld (j := 1) C hH1 hl hL (by omega) dL_law_325 dL_law_326 dL_law_327 rfl dL_law_328 dL_law_329 rfl ?_
  refine lw_call (rest := [.int v]) C hH1 hl.1 hcr hsr (hU _ hP) km_L_47 rfl (by decide) rfl (Nat.le_of_ble_eq_true rfl) rfl rfl dL_law_330 (fun r2 σ2 H2 locs2 q2 hH2 => ?_)
  obtain ⟨e2, hR2⟩ := q2
  cases e2
  refine lv_icmp_eq (tgt := 901) C.1.1 C.1.2.1 dL_law_333 (by decide) (fun _ => K σ2 H2 locs2 hR2 hH2) (fun c9 => absurd rfl c9)
set_option maxRecDepth 100000 in
theorem lw_c8 (C : lw_X p s m meth c b L xs g) (hH : lw_H s g σ H locs) {i k : Nat} (hl : lw_ls g b i ls) (hL : L ≤ 2048) (hi : i + 3 < L) (hk : 4 * k ≤ i) (hR : RR k σ) (hcr : cells ≤ 600000) (hsr : slots ≤ 7302250) (K : lw_K p l e s m below meth c b g cells slots k ls) : W p l e room_1 s m #[Value.ref b] below meth c H locs cells slots (lw_Z below #[Value.ref b] s) (F0 m 338 ls []) := by
  obtain ⟨v, P, hT, hU⟩ := p_dance hR (by omega) (xs (i + 1))
  refine lv_aload_n C.1.1 C.1.2.1 dL_law_338 rfl (lv_at hl 1 rfl) ?_
  refine lw_ld (j := 1) C hH hl hL (by omega) dL_law_339 dL_law_340 dL_law_341 rfl dL_law_342 dL_law_343 rfl ?_
  refine lw_call (rest := []) C hH hl.1 hcr hsr hT km_L_48 rfl (by decide) rfl (by decide) rfl rfl dL_law_344 (fun r1 σ1 H1 locs1 q1 hH1 => ?_)
  obtain ⟨e1, hP⟩ := q1
  cases e1
  refine lv_aload_n C.1.1 C.1.2.1 dL_law_347 rfl (lv_at hl 2 rfl) ?_
  refine lw_ld (j := 1) C hH1 hl hL (by omega) dL_law_348 dL_law_349 dL_law_350 rfl dL_law_351 dL_law_352 rfl ?_
  refine lw_call (rest := [.int v]) C hH1 hl.1 hcr hsr (hU _ hP) km_L_51 rfl (by decide) rfl (Nat.le_of_ble_eq_true rfl) rfl rfl dL_law_353 (fun r2 σ2 H2 locs2 q2 hH2 => ?_)
  obtain ⟨e2, hR2⟩ := q2
  cases e2
  refine lv_icmp_eq (tgt := 901) C.1.1 C.1.2.1 dL_law_356 (by decide) (fun _ => K σ2 H2 locs2 hR2 hH2) (fun c9 => absurd rfl c9)
set_option maxRecDepth 100000 in
theorem lw_c9 (C : lw_X p s m meth c b L xs g) (hH : lw_H s g σ H locs) {i k : Nat} (hl : lw_ls g b i ls) (hL : L ≤ 2048) (hi : i + 3 < L) (hk : 4 * k ≤ i) (hR : RR k σ) (hcr : cells ≤ 600000) (hsr : slots ≤ 7302250) (K : lw_K p l e s m below meth c b g cells slots k ls) : W p l e room_1 s m #[Value.ref b] below meth c H locs cells slots (lw_Z below #[Value.ref b] s) (F0 m 361 ls []) := by
  obtain ⟨v, P, hT, hU⟩ := p_put hR (by omega) (xs (i + 1)) (xs (i + 2))
  refine lv_aload_n C.1.1 C.1.2.1 dL_law_361 rfl (lv_at hl 1 rfl) ?_
  refine lw_ld (j := 1) C hH hl hL (by omega) dL_law_362 dL_law_363 dL_law_364 rfl dL_law_365 dL_law_366 rfl ?_
  refine lw_ld (j := 2) C hH hl hL (by omega) dL_law_367 dL_law_368 dL_law_369 rfl dL_law_370 dL_law_371 rfl ?_
  refine lw_call (rest := []) C hH hl.1 hcr hsr hT km_L_52 rfl (by decide) rfl (by decide) rfl rfl dL_law_372 (fun r1 σ1 H1 locs1 q1 hH1 => ?_)
  obtain ⟨e1, hP⟩ := q1
  cases e1
  refine lv_aload_n C.1.1 C.1.2.1 dL_law_375 rfl (lv_at hl 2 rfl) ?_
  refine lw_ld (j := 1) C hH1 hl hL (by omega) dL_law_376 dL_law_377 dL_law_378 rfl dL_law_379 dL_law_380 rfl ?_
  refine lw_ld (j := 2) C hH1 hl hL (by omega) dL_law_381 dL_law_382 dL_law_383 rfl dL_law_384 dL_law_385 rfl ?_
  refine lw_call (rest := [.int v]) C hH1 hl.1 hcr hsr (hU _ hP) km_L_55 rfl (by decide) rfl (Nat.le_of_ble_eq_true rfl) rfl rfl dL_law_386 (fun r2 σ2 H2 locs2 q2 hH2 => ?_)
  obtain ⟨e2, hR2⟩ := q2
  cases e2
  refine lv_icmp_eq (tgt := 901) C.1.1 C.1.2.1 dL_law_389 (by decide) (fun _ => K σ2 H2 locs2 hR2 hH2) (fun c9 => absurd rfl c9)
set_option maxRecDepth 100000 in
theorem lw_c10 (C : lw_X p s m meth c b L xs g) (hH : lw_H s g σ H locs) {i k : Nat} (hl : lw_ls g b i ls) (hL : L ≤ 2048) (hi : i + 3 < L) (hk : 4 * k ≤ i) (hR : RR k σ) (hcr : cells ≤ 600000) (hsr : slots ≤ 7302250) (K : lw_K p l e s m below meth c b g cells slots k ls) : W p l e room_1 s m #[Value.ref b] below meth c H locs cells slots (lw_Z below #[Value.ref b] s) (F0 m 394 ls []) := by
  obtain ⟨v, P, hT, hU⟩ := p_undo hR (by omega)
  refine lv_aload_n C.1.1 C.1.2.1 dL_law_394 rfl (lv_at hl 1 rfl) ?_
  refine lw_call (rest := []) C hH hl.1 hcr hsr hT km_L_56 rfl (by decide) rfl (by decide) rfl rfl dL_law_395 (fun r1 σ1 H1 locs1 q1 hH1 => ?_)
  obtain ⟨e1, hP⟩ := q1
  cases e1
  refine lv_aload_n C.1.1 C.1.2.1 dL_law_398 rfl (lv_at hl 2 rfl) ?_
  refine lw_call (rest := [.int v]) C hH1 hl.1 hcr hsr (hU _ hP) km_L_59 rfl (by decide) rfl (Nat.le_of_ble_eq_true rfl) rfl rfl dL_law_399 (fun r2 σ2 H2 locs2 q2 hH2 => ?_)
  obtain ⟨e2, hR2⟩ := q2
  cases e2
  refine lv_icmp_eq (tgt := 901) C.1.1 C.1.2.1 dL_law_402 (by decide) (fun _ => K σ2 H2 locs2 hR2 hH2) (fun c9 => absurd rfl c9)
set_option maxRecDepth 100000 in
theorem lw_c11 (C : lw_X p s m meth c b L xs g) (hH : lw_H s g σ H locs) {i k : Nat} (hl : lw_ls g b i ls) (hL : L ≤ 2048) (hi : i + 3 < L) (hk : 4 * k ≤ i) (hR : RR k σ) (hcr : cells ≤ 600000) (hsr : slots ≤ 7302250) (K : lw_K p l e s m below meth c b g cells slots k ls) : W p l e room_1 s m #[Value.ref b] below meth c H locs cells slots (lw_Z below #[Value.ref b] s) (F0 m 407 ls []) := by
  obtain ⟨v, P, hT, hU⟩ := p_free hR (by omega) (xs (i + 1))
  refine lv_aload_n C.1.1 C.1.2.1 dL_law_407 rfl (lv_at hl 1 rfl) ?_
  refine lw_ld (j := 1) C hH hl hL (by omega) dL_law_408 dL_law_409 dL_law_410 rfl dL_law_411 dL_law_412 rfl ?_
  refine lw_call (rest := []) C hH hl.1 hcr hsr hT km_L_60 rfl (by decide) rfl (by decide) rfl rfl dL_law_413 (fun r1 σ1 H1 locs1 q1 hH1 => ?_)
  obtain ⟨e1, hP⟩ := q1
  cases e1
  refine lv_aload_n C.1.1 C.1.2.1 dL_law_416 rfl (lv_at hl 2 rfl) ?_
  refine lw_ld (j := 1) C hH1 hl hL (by omega) dL_law_417 dL_law_418 dL_law_419 rfl dL_law_420 dL_law_421 rfl ?_
  refine lw_call (rest := [.int v]) C hH1 hl.1 hcr hsr (hU _ hP) km_L_63 rfl (by decide) rfl (Nat.le_of_ble_eq_true rfl) rfl rfl dL_law_422 (fun r2 σ2 H2 locs2 q2 hH2 => ?_)
  obtain ⟨e2, hR2⟩ := q2
  cases e2
  refine lv_icmp_eq (tgt := 901) C.1.1 C.1.2.1 dL_law_425 (by decide) (fun _ => K σ2 H2 locs2 hR2 hH2) (fun c9 => absurd rfl c9)
set_option maxRecDepth 100000 in
theorem lw_c12 (C : lw_X p s m meth c b L xs g) (hH : lw_H s g σ H locs) {i k : Nat} (hl : lw_ls g b i ls) (hL : L ≤ 2048) (hi : i + 3 < L) (hk : 4 * k ≤ i) (hR : RR k σ) (hcr : cells ≤ 600000) (hsr : slots ≤ 7302250) (K : lw_K p l e s m below meth c b g cells slots k ls) : W p l e room_1 s m #[Value.ref b] below meth c H locs cells slots (lw_Z below #[Value.ref b] s) (F0 m 430 ls []) := by
  obtain ⟨v, P, hT, hU⟩ := p_reach hR (by omega) (xs (i + 1)) (xs (i + 2)) (xs (i + 3))
  refine lv_aload_n C.1.1 C.1.2.1 dL_law_430 rfl (lv_at hl 1 rfl) ?_
  refine lw_ld (j := 1) C hH hl hL (by omega) dL_law_431 dL_law_432 dL_law_433 rfl dL_law_434 dL_law_435 rfl ?_
  refine lw_ld (j := 2) C hH hl hL (by omega) dL_law_436 dL_law_437 dL_law_438 rfl dL_law_439 dL_law_440 rfl ?_
  refine lw_ld (j := 3) C hH hl hL (by omega) dL_law_441 dL_law_442 dL_law_443 rfl dL_law_444 dL_law_445 rfl ?_
  refine lw_call (rest := []) C hH hl.1 hcr hsr hT km_L_64 rfl (by decide) rfl (by decide) rfl rfl dL_law_446 (fun r1 σ1 H1 locs1 q1 hH1 => ?_)
  obtain ⟨e1, hP⟩ := q1
  cases e1
  refine lv_aload_n C.1.1 C.1.2.1 dL_law_449 rfl (lv_at hl 2 rfl) ?_
  refine lw_ld (j := 1) C hH1 hl hL (by omega) dL_law_450 dL_law_451 dL_law_452 rfl dL_law_453 dL_law_454 rfl ?_
  refine lw_ld (j := 2) C hH1 hl hL (by omega) dL_law_455 dL_law_456 dL_law_457 rfl dL_law_458 dL_law_459 rfl ?_
  refine lw_ld (j := 3) C hH1 hl hL (by omega) dL_law_460 dL_law_461 dL_law_462 rfl dL_law_463 dL_law_464 rfl ?_
  refine lw_call (rest := [.int v]) C hH1 hl.1 hcr hsr (hU _ hP) km_L_68 rfl (by decide) rfl (Nat.le_of_ble_eq_true rfl) rfl rfl dL_law_465 (fun r2 σ2 H2 locs2 q2 hH2 => ?_)
  obtain ⟨e2, hR2⟩ := q2
  cases e2
  refine lv_icmp_eq (tgt := 901) C.1.1 C.1.2.1 dL_law_468 (by decide) (fun _ => K σ2 H2 locs2 hR2 hH2) (fun c9 => absurd rfl c9)
set_option maxRecDepth 100000 in
theorem lw_c13 (C : lw_X p s m meth c b L xs g) (hH : lw_H s g σ H locs) {i k : Nat} (hl : lw_ls g b i ls) (hL : L ≤ 2048) (hi : i + 3 < L) (hk : 4 * k ≤ i) (hR : RR k σ) (hcr : cells ≤ 600000) (hsr : slots ≤ 7302250) (K : lw_K p l e s m below meth c b g cells slots k ls) : W p l e room_1 s m #[Value.ref b] below meth c H locs cells slots (lw_Z below #[Value.ref b] s) (F0 m 473 ls []) := by
  obtain ⟨v, P, hT, hU⟩ := p_meet hR (by omega) (xs (i + 1)) (xs (i + 2)) (xs (i + 3))
  refine lv_aload_n C.1.1 C.1.2.1 dL_law_473 rfl (lv_at hl 1 rfl) ?_
  refine lw_ld (j := 1) C hH hl hL (by omega) dL_law_474 dL_law_475 dL_law_476 rfl dL_law_477 dL_law_478 rfl ?_
  refine lw_ld (j := 2) C hH hl hL (by omega) dL_law_479 dL_law_480 dL_law_481 rfl dL_law_482 dL_law_483 rfl ?_
  refine lw_ld (j := 3) C hH hl hL (by omega) dL_law_484 dL_law_485 dL_law_486 rfl dL_law_487 dL_law_488 rfl ?_
  refine lw_call (rest := []) C hH hl.1 hcr hsr hT km_L_69 rfl (by decide) rfl (by decide) rfl rfl dL_law_489 (fun r1 σ1 H1 locs1 q1 hH1 => ?_)
  obtain ⟨e1, hP⟩ := q1
  cases e1
  refine lv_aload_n C.1.1 C.1.2.1 dL_law_492 rfl (lv_at hl 2 rfl) ?_
  refine lw_ld (j := 1) C hH1 hl hL (by omega) dL_law_493 dL_law_494 dL_law_495 rfl dL_law_496 dL_law_497 rfl ?_
  refine lw_ld (j := 2) C hH1 hl hL (by omega) dL_law_498 dL_law_499 dL_law_500 rfl dL_law_501 dL_law_502 rfl ?_
  refine lw_ld (j := 3) C hH1 hl hL (by omega) dL_law_503 dL_law_504 dL_law_505 rfl dL_law_506 dL_law_507 rfl ?_
  refine lw_call (rest := [.int v]) C hH1 hl.1 hcr hsr (hU _ hP) km_L_72 rfl (by decide) rfl (Nat.le_of_ble_eq_true rfl) rfl rfl dL_law_508 (fun r2 σ2 H2 locs2 q2 hH2 => ?_)
  obtain ⟨e2, hR2⟩ := q2
  cases e2
  refine lv_icmp_eq (tgt := 901) C.1.1 C.1.2.1 dL_law_511 (by decide) (fun _ => K σ2 H2 locs2 hR2 hH2) (fun c9 => absurd rfl c9)
set_option maxRecDepth 100000 in
theorem lw_c14 (C : lw_X p s m meth c b L xs g) (hH : lw_H s g σ H locs) {i k : Nat} (hl : lw_ls g b i ls) (hL : L ≤ 2048) (hi : i + 3 < L) (hk : 4 * k ≤ i) (hR : RR k σ) (hcr : cells ≤ 600000) (hsr : slots ≤ 7302250) (K : lw_K p l e s m below meth c b g cells slots k ls) : W p l e room_1 s m #[Value.ref b] below meth c H locs cells slots (lw_Z below #[Value.ref b] s) (F0 m 516 ls []) := by
  obtain ⟨v, P, hT, hU⟩ := p_ways hR (by omega) (xs (i + 1))
  refine lv_aload_n C.1.1 C.1.2.1 dL_law_516 rfl (lv_at hl 1 rfl) ?_
  refine lw_ld (j := 1) C hH hl hL (by omega) dL_law_517 dL_law_518 dL_law_519 rfl dL_law_520 dL_law_521 rfl ?_
  refine lw_call (rest := []) C hH hl.1 hcr hsr hT km_L_73 rfl (by decide) rfl (by decide) rfl rfl dL_law_522 (fun r1 σ1 H1 locs1 q1 hH1 => ?_)
  obtain ⟨e1, hP⟩ := q1
  cases e1
  refine lv_aload_n C.1.1 C.1.2.1 dL_law_525 rfl (lv_at hl 2 rfl) ?_
  refine lw_ld (j := 1) C hH1 hl hL (by omega) dL_law_526 dL_law_527 dL_law_528 rfl dL_law_529 dL_law_530 rfl ?_
  refine lw_call (rest := [.int v]) C hH1 hl.1 hcr hsr (hU _ hP) km_L_76 rfl (by decide) rfl (Nat.le_of_ble_eq_true rfl) rfl rfl dL_law_531 (fun r2 σ2 H2 locs2 q2 hH2 => ?_)
  obtain ⟨e2, hR2⟩ := q2
  cases e2
  refine lv_icmp_eq (tgt := 901) C.1.1 C.1.2.1 dL_law_534 (by decide) (fun _ => K σ2 H2 locs2 hR2 hH2) (fun c9 => absurd rfl c9)
set_option maxRecDepth 100000 in
theorem lw_c15 (C : lw_X p s m meth c b L xs g) (hH : lw_H s g σ H locs) {i k : Nat} (hl : lw_ls g b i ls) (hL : L ≤ 2048) (hi : i + 3 < L) (hk : 4 * k ≤ i) (hR : RR k σ) (hcr : cells ≤ 600000) (hsr : slots ≤ 7302250) (K : lw_K p l e s m below meth c b g cells slots k ls) : W p l e room_1 s m #[Value.ref b] below meth c H locs cells slots (lw_Z below #[Value.ref b] s) (F0 m 539 ls []) := by
  obtain ⟨v, P, hT, hU⟩ := p_plain hR (by omega)
  refine lv_aload_n C.1.1 C.1.2.1 dL_law_539 rfl (lv_at hl 1 rfl) ?_
  refine lw_call (rest := []) C hH hl.1 hcr hsr hT km_L_77 rfl (by decide) rfl (by decide) rfl rfl dL_law_540 (fun r1 σ1 H1 locs1 q1 hH1 => ?_)
  obtain ⟨e1, hP⟩ := q1
  cases e1
  refine lv_aload_n C.1.1 C.1.2.1 dL_law_543 rfl (lv_at hl 2 rfl) ?_
  refine lw_call (rest := [.int v]) C hH1 hl.1 hcr hsr (hU _ hP) km_L_80 rfl (by decide) rfl (Nat.le_of_ble_eq_true rfl) rfl rfl dL_law_544 (fun r2 σ2 H2 locs2 q2 hH2 => ?_)
  obtain ⟨e2, hR2⟩ := q2
  cases e2
  refine lv_icmp_eq (tgt := 901) C.1.1 C.1.2.1 dL_law_547 (by decide) (fun _ => K σ2 H2 locs2 hR2 hH2) (fun c9 => absurd rfl c9)
set_option maxRecDepth 100000 in
theorem lw_c16 (C : lw_X p s m meth c b L xs g) (hH : lw_H s g σ H locs) {i k : Nat} (hl : lw_ls g b i ls) (hL : L ≤ 2048) (hi : i + 3 < L) (hk : 4 * k ≤ i) (hR : RR k σ) (hcr : cells ≤ 600000) (hsr : slots ≤ 7302250) (K : lw_K p l e s m below meth c b g cells slots k ls) : W p l e room_1 s m #[Value.ref b] below meth c H locs cells slots (lw_Z below #[Value.ref b] s) (F0 m 552 ls []) := by
  obtain ⟨v, P, hT, hU⟩ := p_comes hR (by omega) (xs (i + 1))
  refine lv_aload_n C.1.1 C.1.2.1 dL_law_552 rfl (lv_at hl 1 rfl) ?_
  refine lw_ld (j := 1) C hH hl hL (by omega) dL_law_553 dL_law_554 dL_law_555 rfl dL_law_556 dL_law_557 rfl ?_
  refine lw_call (rest := []) C hH hl.1 hcr hsr hT km_L_81 rfl (by decide) rfl (by decide) rfl rfl dL_law_558 (fun r1 σ1 H1 locs1 q1 hH1 => ?_)
  obtain ⟨e1, hP⟩ := q1
  cases e1
  refine lv_aload_n C.1.1 C.1.2.1 dL_law_561 rfl (lv_at hl 2 rfl) ?_
  refine lw_ld (j := 1) C hH1 hl hL (by omega) dL_law_562 dL_law_563 dL_law_564 rfl dL_law_565 dL_law_566 rfl ?_
  refine lw_call (rest := [.int v]) C hH1 hl.1 hcr hsr (hU _ hP) km_L_84 rfl (by decide) rfl (Nat.le_of_ble_eq_true rfl) rfl rfl dL_law_567 (fun r2 σ2 H2 locs2 q2 hH2 => ?_)
  obtain ⟨e2, hR2⟩ := q2
  cases e2
  refine lv_icmp_eq (tgt := 901) C.1.1 C.1.2.1 dL_law_570 (by decide) (fun _ => K σ2 H2 locs2 hR2 hH2) (fun c9 => absurd rfl c9)
set_option maxRecDepth 100000 in
theorem lw_c17 (C : lw_X p s m meth c b L xs g) (hH : lw_H s g σ H locs) {i k : Nat} (hl : lw_ls g b i ls) (hL : L ≤ 2048) (hi : i + 3 < L) (hk : 4 * k ≤ i) (hR : RR k σ) (hcr : cells ≤ 600000) (hsr : slots ≤ 7302250) (K : lw_K p l e s m below meth c b g cells slots k ls) : W p l e room_1 s m #[Value.ref b] below meth c H locs cells slots (lw_Z below #[Value.ref b] s) (F0 m 575 ls []) := by
  obtain ⟨v, P, hT, hU⟩ := p_behind hR (by omega) (xs (i + 1)) (xs (i + 2))
  refine lv_aload_n C.1.1 C.1.2.1 dL_law_575 rfl (lv_at hl 1 rfl) ?_
  refine lw_ld (j := 1) C hH hl hL (by omega) dL_law_576 dL_law_577 dL_law_578 rfl dL_law_579 dL_law_580 rfl ?_
  refine lw_ld (j := 2) C hH hl hL (by omega) dL_law_581 dL_law_582 dL_law_583 rfl dL_law_584 dL_law_585 rfl ?_
  refine lw_call (rest := []) C hH hl.1 hcr hsr hT km_L_85 rfl (by decide) rfl (by decide) rfl rfl dL_law_586 (fun r1 σ1 H1 locs1 q1 hH1 => ?_)
  obtain ⟨e1, hP⟩ := q1
  cases e1
  refine lv_aload_n C.1.1 C.1.2.1 dL_law_589 rfl (lv_at hl 2 rfl) ?_
  refine lw_ld (j := 1) C hH1 hl hL (by omega) dL_law_590 dL_law_591 dL_law_592 rfl dL_law_593 dL_law_594 rfl ?_
  refine lw_ld (j := 2) C hH1 hl hL (by omega) dL_law_595 dL_law_596 dL_law_597 rfl dL_law_598 dL_law_599 rfl ?_
  refine lw_call (rest := [.int v]) C hH1 hl.1 hcr hsr (hU _ hP) km_L_88 rfl (by decide) rfl (Nat.le_of_ble_eq_true rfl) rfl rfl dL_law_600 (fun r2 σ2 H2 locs2 q2 hH2 => ?_)
  obtain ⟨e2, hR2⟩ := q2
  cases e2
  refine lv_icmp_eq (tgt := 901) C.1.1 C.1.2.1 dL_law_603 (by decide) (fun _ => K σ2 H2 locs2 hR2 hH2) (fun c9 => absurd rfl c9)
set_option maxRecDepth 100000 in
theorem lw_c18 (C : lw_X p s m meth c b L xs g) (hH : lw_H s g σ H locs) {i k : Nat} (hl : lw_ls g b i ls) (hL : L ≤ 2048) (hi : i + 3 < L) (hk : 4 * k ≤ i) (hR : RR k σ) (hcr : cells ≤ 600000) (hsr : slots ≤ 7302250) (K : lw_K p l e s m below meth c b g cells slots k ls) : W p l e room_1 s m #[Value.ref b] below meth c H locs cells slots (lw_Z below #[Value.ref b] s) (F0 m 608 ls []) := by
  obtain ⟨v, P, hT, hU⟩ := p_see hR (by omega) (xs (i + 1)) (xs (i + 2)) (xs (i + 3))
  refine lv_aload_n C.1.1 C.1.2.1 dL_law_608 rfl (lv_at hl 1 rfl) ?_
  refine lw_ld (j := 1) C hH hl hL (by omega) dL_law_609 dL_law_610 dL_law_611 rfl dL_law_612 dL_law_613 rfl ?_
  refine lw_ld (j := 2) C hH hl hL (by omega) dL_law_614 dL_law_615 dL_law_616 rfl dL_law_617 dL_law_618 rfl ?_
  refine lw_ld (j := 3) C hH hl hL (by omega) dL_law_619 dL_law_620 dL_law_621 rfl dL_law_622 dL_law_623 rfl ?_
  refine lw_call (rest := []) C hH hl.1 hcr hsr hT km_L_89 rfl (by decide) rfl (by decide) rfl rfl dL_law_624 (fun r1 σ1 H1 locs1 q1 hH1 => ?_)
  obtain ⟨e1, hP⟩ := q1
  cases e1
  refine lv_aload_n C.1.1 C.1.2.1 dL_law_627 rfl (lv_at hl 2 rfl) ?_
  refine lw_ld (j := 1) C hH1 hl hL (by omega) dL_law_628 dL_law_629 dL_law_630 rfl dL_law_631 dL_law_632 rfl ?_
  refine lw_ld (j := 2) C hH1 hl hL (by omega) dL_law_633 dL_law_634 dL_law_635 rfl dL_law_636 dL_law_637 rfl ?_
  refine lw_ld (j := 3) C hH1 hl hL (by omega) dL_law_638 dL_law_639 dL_law_640 rfl dL_law_641 dL_law_642 rfl ?_
  refine lw_call (rest := [.int v]) C hH1 hl.1 hcr hsr (hU _ hP) km_L_92 rfl (by decide) rfl (Nat.le_of_ble_eq_true rfl) rfl rfl dL_law_643 (fun r2 σ2 H2 locs2 q2 hH2 => ?_)
  obtain ⟨e2, hR2⟩ := q2
  cases e2
  refine lv_icmp_eq (tgt := 901) C.1.1 C.1.2.1 dL_law_646 (by decide) (fun _ => K σ2 H2 locs2 hR2 hH2) (fun c9 => absurd rfl c9)
set_option maxRecDepth 100000 in
theorem lw_c19 (C : lw_X p s m meth c b L xs g) (hH : lw_H s g σ H locs) {i k : Nat} (hl : lw_ls g b i ls) (hL : L ≤ 2048) (hi : i + 3 < L) (hk : 4 * k ≤ i) (hR : RR k σ) (hcr : cells ≤ 600000) (hsr : slots ≤ 7302250) (K : lw_K p l e s m below meth c b g cells slots k ls) : W p l e room_1 s m #[Value.ref b] below meth c H locs cells slots (lw_Z below #[Value.ref b] s) (F0 m 651 ls []) := by
  obtain ⟨v, P, hT, hU⟩ := p_forget hR (by omega)
  refine lv_aload_n C.1.1 C.1.2.1 dL_law_651 rfl (lv_at hl 1 rfl) ?_
  refine lw_call (rest := []) C hH hl.1 hcr hsr hT km_L_93 rfl (by decide) rfl (by decide) rfl rfl dL_law_652 (fun r1 σ1 H1 locs1 q1 hH1 => ?_)
  obtain ⟨e1, hP⟩ := q1
  cases e1
  refine lv_aload_n C.1.1 C.1.2.1 dL_law_655 rfl (lv_at hl 2 rfl) ?_
  refine lw_call (rest := [.int v]) C hH1 hl.1 hcr hsr (hU _ hP) km_L_96 rfl (by decide) rfl (Nat.le_of_ble_eq_true rfl) rfl rfl dL_law_656 (fun r2 σ2 H2 locs2 q2 hH2 => ?_)
  obtain ⟨e2, hR2⟩ := q2
  cases e2
  refine lv_icmp_eq (tgt := 901) C.1.1 C.1.2.1 dL_law_659 (by decide) (fun _ => K σ2 H2 locs2 hR2 hH2) (fun c9 => absurd rfl c9)
set_option maxRecDepth 100000 in
theorem lw_c20 (C : lw_X p s m meth c b L xs g) (hH : lw_H s g σ H locs) {i k : Nat} (hl : lw_ls g b i ls) (hL : L ≤ 2048) (hi : i + 3 < L) (hk : 4 * k ≤ i) (hR : RR k σ) (hcr : cells ≤ 600000) (hsr : slots ≤ 7302250) (K : lw_K p l e s m below meth c b g cells slots k ls) : W p l e room_1 s m #[Value.ref b] below meth c H locs cells slots (lw_Z below #[Value.ref b] s) (F0 m 664 ls []) := by
  obtain ⟨v, P, hT, hU⟩ := p_kinds hR (by omega) (xs (i + 1))
  refine lv_aload_n C.1.1 C.1.2.1 dL_law_664 rfl (lv_at hl 1 rfl) ?_
  refine lw_ld (j := 1) C hH hl hL (by omega) dL_law_665 dL_law_666 dL_law_667 rfl dL_law_668 dL_law_669 rfl ?_
  refine lw_call (rest := []) C hH hl.1 hcr hsr hT km_L_97 rfl (by decide) rfl (by decide) rfl rfl dL_law_670 (fun r1 σ1 H1 locs1 q1 hH1 => ?_)
  obtain ⟨e1, hP⟩ := q1
  cases e1
  refine lv_aload_n C.1.1 C.1.2.1 dL_law_673 rfl (lv_at hl 2 rfl) ?_
  refine lw_ld (j := 1) C hH1 hl hL (by omega) dL_law_674 dL_law_675 dL_law_676 rfl dL_law_677 dL_law_678 rfl ?_
  refine lw_call (rest := [.int v]) C hH1 hl.1 hcr hsr (hU _ hP) km_L_100 rfl (by decide) rfl (Nat.le_of_ble_eq_true rfl) rfl rfl dL_law_679 (fun r2 σ2 H2 locs2 q2 hH2 => ?_)
  obtain ⟨e2, hR2⟩ := q2
  cases e2
  refine lv_icmp_eq (tgt := 901) C.1.1 C.1.2.1 dL_law_682 (by decide) (fun _ => K σ2 H2 locs2 hR2 hH2) (fun c9 => absurd rfl c9)
set_option maxRecDepth 100000 in
theorem lw_c21 (C : lw_X p s m meth c b L xs g) (hH : lw_H s g σ H locs) {i k : Nat} (hl : lw_ls g b i ls) (hL : L ≤ 2048) (hi : i + 3 < L) (hk : 4 * k ≤ i) (hR : RR k σ) (hcr : cells ≤ 600000) (hsr : slots ≤ 7302250) (K : lw_K p l e s m below meth c b g cells slots k ls) : W p l e room_1 s m #[Value.ref b] below meth c H locs cells slots (lw_Z below #[Value.ref b] s) (F0 m 687 ls []) := by
  obtain ⟨v, P, hT, hU⟩ := p_look hR (by omega) (xs (i + 1)) (xs (i + 2))
  refine lv_aload_n C.1.1 C.1.2.1 dL_law_687 rfl (lv_at hl 1 rfl) ?_
  refine lw_ld (j := 1) C hH hl hL (by omega) dL_law_688 dL_law_689 dL_law_690 rfl dL_law_691 dL_law_692 rfl ?_
  refine lw_ld (j := 2) C hH hl hL (by omega) dL_law_693 dL_law_694 dL_law_695 rfl dL_law_696 dL_law_697 rfl ?_
  refine lw_call (rest := []) C hH hl.1 hcr hsr hT km_L_101 rfl (by decide) rfl (by decide) rfl rfl dL_law_698 (fun r1 σ1 H1 locs1 q1 hH1 => ?_)
  obtain ⟨e1, hP⟩ := q1
  cases e1
  refine lv_aload_n C.1.1 C.1.2.1 dL_law_701 rfl (lv_at hl 2 rfl) ?_
  refine lw_ld (j := 1) C hH1 hl hL (by omega) dL_law_702 dL_law_703 dL_law_704 rfl dL_law_705 dL_law_706 rfl ?_
  refine lw_ld (j := 2) C hH1 hl hL (by omega) dL_law_707 dL_law_708 dL_law_709 rfl dL_law_710 dL_law_711 rfl ?_
  refine lw_call (rest := [.int v]) C hH1 hl.1 hcr hsr (hU _ hP) km_L_104 rfl (by decide) rfl (Nat.le_of_ble_eq_true rfl) rfl rfl dL_law_712 (fun r2 σ2 H2 locs2 q2 hH2 => ?_)
  obtain ⟨e2, hR2⟩ := q2
  cases e2
  refine lv_icmp_eq (tgt := 901) C.1.1 C.1.2.1 dL_law_715 (by decide) (fun _ => K σ2 H2 locs2 hR2 hH2) (fun c9 => absurd rfl c9)
set_option maxRecDepth 100000 in
theorem lw_c22 (C : lw_X p s m meth c b L xs g) (hH : lw_H s g σ H locs) {i k : Nat} (hl : lw_ls g b i ls) (hL : L ≤ 2048) (hi : i + 3 < L) (hk : 4 * k ≤ i) (hR : RR k σ) (hcr : cells ≤ 600000) (hsr : slots ≤ 7302250) (K : lw_K p l e s m below meth c b g cells slots k ls) : W p l e room_1 s m #[Value.ref b] below meth c H locs cells slots (lw_Z below #[Value.ref b] s) (F0 m 720 ls []) := by
  obtain ⟨v, P, hT, hU⟩ := p_danced hR (by omega) (xs (i + 1))
  refine lv_aload_n C.1.1 C.1.2.1 dL_law_720 rfl (lv_at hl 1 rfl) ?_
  refine lw_ld (j := 1) C hH hl hL (by omega) dL_law_721 dL_law_722 dL_law_723 rfl dL_law_724 dL_law_725 rfl ?_
  refine lw_call (rest := []) C hH hl.1 hcr hsr hT km_L_105 rfl (by decide) rfl (by decide) rfl rfl dL_law_726 (fun r1 σ1 H1 locs1 q1 hH1 => ?_)
  obtain ⟨e1, hP⟩ := q1
  cases e1
  refine lv_aload_n C.1.1 C.1.2.1 dL_law_729 rfl (lv_at hl 2 rfl) ?_
  refine lw_ld (j := 1) C hH1 hl hL (by omega) dL_law_730 dL_law_731 dL_law_732 rfl dL_law_733 dL_law_734 rfl ?_
  refine lw_call (rest := [.int v]) C hH1 hl.1 hcr hsr (hU _ hP) km_L_108 rfl (by decide) rfl (Nat.le_of_ble_eq_true rfl) rfl rfl dL_law_735 (fun r2 σ2 H2 locs2 q2 hH2 => ?_)
  obtain ⟨e2, hR2⟩ := q2
  cases e2
  refine lv_icmp_eq (tgt := 901) C.1.1 C.1.2.1 dL_law_738 (by decide) (fun _ => K σ2 H2 locs2 hR2 hH2) (fun c9 => absurd rfl c9)
set_option maxRecDepth 100000 in
theorem lw_c23 (C : lw_X p s m meth c b L xs g) (hH : lw_H s g σ H locs) {i k : Nat} (hl : lw_ls g b i ls) (hL : L ≤ 2048) (hi : i + 3 < L) (hk : 4 * k ≤ i) (hR : RR k σ) (hcr : cells ≤ 600000) (hsr : slots ≤ 7302250) (K : lw_K p l e s m below meth c b g cells slots k ls) : W p l e room_1 s m #[Value.ref b] below meth c H locs cells slots (lw_Z below #[Value.ref b] s) (F0 m 743 ls []) := by
  obtain ⟨v, P, hT, hU⟩ := p_duel hR (by omega) (xs (i + 1))
  refine lv_aload_n C.1.1 C.1.2.1 dL_law_743 rfl (lv_at hl 1 rfl) ?_
  refine lw_ld (j := 1) C hH hl hL (by omega) dL_law_744 dL_law_745 dL_law_746 rfl dL_law_747 dL_law_748 rfl ?_
  refine lw_call (rest := []) C hH hl.1 hcr hsr hT km_L_109 rfl (by decide) rfl (by decide) rfl rfl dL_law_749 (fun r1 σ1 H1 locs1 q1 hH1 => ?_)
  obtain ⟨e1, hP⟩ := q1
  cases e1
  refine lv_aload_n C.1.1 C.1.2.1 dL_law_752 rfl (lv_at hl 2 rfl) ?_
  refine lw_ld (j := 1) C hH1 hl hL (by omega) dL_law_753 dL_law_754 dL_law_755 rfl dL_law_756 dL_law_757 rfl ?_
  refine lw_call (rest := [.int v]) C hH1 hl.1 hcr hsr (hU _ hP) km_L_112 rfl (by decide) rfl (Nat.le_of_ble_eq_true rfl) rfl rfl dL_law_758 (fun r2 σ2 H2 locs2 q2 hH2 => ?_)
  obtain ⟨e2, hR2⟩ := q2
  cases e2
  refine lv_icmp_eq (tgt := 901) C.1.1 C.1.2.1 dL_law_761 (by decide) (fun _ => K σ2 H2 locs2 hR2 hH2) (fun c9 => absurd rfl c9)
set_option maxRecDepth 100000 in
theorem lw_c24 (C : lw_X p s m meth c b L xs g) (hH : lw_H s g σ H locs) {i k : Nat} (hl : lw_ls g b i ls) (hL : L ≤ 2048) (hi : i + 3 < L) (hk : 4 * k ≤ i) (hR : RR k σ) (hcr : cells ≤ 600000) (hsr : slots ≤ 7302250) (K : lw_K p l e s m below meth c b g cells slots k ls) : W p l e room_1 s m #[Value.ref b] below meth c H locs cells slots (lw_Z below #[Value.ref b] s) (F0 m 766 ls []) := by
  obtain ⟨v, P, hT, hU⟩ := p_odds hR (by omega) (xs (i + 1)) (xs (i + 2)) (xs (i + 3))
  refine lv_aload_n C.1.1 C.1.2.1 dL_law_766 rfl (lv_at hl 1 rfl) ?_
  refine lw_ld (j := 1) C hH hl hL (by omega) dL_law_767 dL_law_768 dL_law_769 rfl dL_law_770 dL_law_771 rfl ?_
  refine lw_ld (j := 2) C hH hl hL (by omega) dL_law_772 dL_law_773 dL_law_774 rfl dL_law_775 dL_law_776 rfl ?_
  refine lw_ld (j := 3) C hH hl hL (by omega) dL_law_777 dL_law_778 dL_law_779 rfl dL_law_780 dL_law_781 rfl ?_
  refine lw_call (rest := []) C hH hl.1 hcr hsr hT km_L_113 rfl (by decide) rfl (by decide) rfl rfl dL_law_782 (fun r1 σ1 H1 locs1 q1 hH1 => ?_)
  obtain ⟨e1, hP⟩ := q1
  cases e1
  refine lv_aload_n C.1.1 C.1.2.1 dL_law_785 rfl (lv_at hl 2 rfl) ?_
  refine lw_ld (j := 1) C hH1 hl hL (by omega) dL_law_786 dL_law_787 dL_law_788 rfl dL_law_789 dL_law_790 rfl ?_
  refine lw_ld (j := 2) C hH1 hl hL (by omega) dL_law_791 dL_law_792 dL_law_793 rfl dL_law_794 dL_law_795 rfl ?_
  refine lw_ld (j := 3) C hH1 hl hL (by omega) dL_law_796 dL_law_797 dL_law_798 rfl dL_law_799 dL_law_800 rfl ?_
  refine lw_call (rest := [.int v]) C hH1 hl.1 hcr hsr (hU _ hP) km_L_116 rfl (by decide) rfl (Nat.le_of_ble_eq_true rfl) rfl rfl dL_law_801 (fun r2 σ2 H2 locs2 q2 hH2 => ?_)
  obtain ⟨e2, hR2⟩ := q2
  cases e2
  refine lv_icmp_eq (tgt := 901) C.1.1 C.1.2.1 dL_law_804 (by decide) (fun _ => K σ2 H2 locs2 hR2 hH2) (fun c9 => absurd rfl c9)
set_option maxRecDepth 100000 in
theorem lw_c25 (C : lw_X p s m meth c b L xs g) (hH : lw_H s g σ H locs) {i k : Nat} (hl : lw_ls g b i ls) (hL : L ≤ 2048) (hi : i + 3 < L) (hk : 4 * k ≤ i) (hR : RR k σ) (hcr : cells ≤ 600000) (hsr : slots ≤ 7302250) (K : lw_K p l e s m below meth c b g cells slots k ls) : W p l e room_1 s m #[Value.ref b] below meth c H locs cells slots (lw_Z below #[Value.ref b] s) (F0 m 809 ls []) := by
  obtain ⟨v, P, hT, hU⟩ := p_evening hR (by omega) (xs (i + 1)) (xs (i + 2)) (xs (i + 3))
  refine lv_aload_n C.1.1 C.1.2.1 dL_law_809 rfl (lv_at hl 1 rfl) ?_
  refine lw_ld (j := 1) C hH hl hL (by omega) dL_law_810 dL_law_811 dL_law_812 rfl dL_law_813 dL_law_814 rfl ?_
  refine lw_ld (j := 2) C hH hl hL (by omega) dL_law_815 dL_law_816 dL_law_817 rfl dL_law_818 dL_law_819 rfl ?_
  refine lw_ld (j := 3) C hH hl hL (by omega) dL_law_820 dL_law_821 dL_law_822 rfl dL_law_823 dL_law_824 rfl ?_
  refine lw_call (rest := []) C hH hl.1 hcr hsr hT km_L_117 rfl (by decide) rfl (by decide) rfl rfl dL_law_825 (fun r1 σ1 H1 locs1 q1 hH1 => ?_)
  obtain ⟨e1, hP⟩ := q1
  cases e1
  refine lv_aload_n C.1.1 C.1.2.1 dL_law_828 rfl (lv_at hl 2 rfl) ?_
  refine lw_ld (j := 1) C hH1 hl hL (by omega) dL_law_829 dL_law_830 dL_law_831 rfl dL_law_832 dL_law_833 rfl ?_
  refine lw_ld (j := 2) C hH1 hl hL (by omega) dL_law_834 dL_law_835 dL_law_836 rfl dL_law_837 dL_law_838 rfl ?_
  refine lw_ld (j := 3) C hH1 hl hL (by omega) dL_law_839 dL_law_840 dL_law_841 rfl dL_law_842 dL_law_843 rfl ?_
  refine lw_call (rest := [.int v]) C hH1 hl.1 hcr hsr (hU _ hP) km_L_120 rfl (by decide) rfl (Nat.le_of_ble_eq_true rfl) rfl rfl dL_law_844 (fun r2 σ2 H2 locs2 q2 hH2 => ?_)
  obtain ⟨e2, hR2⟩ := q2
  cases e2
  refine lv_icmp_eq (tgt := 901) C.1.1 C.1.2.1 dL_law_847 (by decide) (fun _ => K σ2 H2 locs2 hR2 hH2) (fun c9 => absurd rfl c9)
set_option maxRecDepth 100000 in
theorem lw_c26 (C : lw_X p s m meth c b L xs g) (hH : lw_H s g σ H locs) {i k : Nat} (hl : lw_ls g b i ls) (hL : L ≤ 2048) (hi : i + 3 < L) (hk : 4 * k ≤ i) (hR : RR k σ) (hcr : cells ≤ 600000) (hsr : slots ≤ 7302250) (K : lw_K p l e s m below meth c b g cells slots k ls) : W p l e room_1 s m #[Value.ref b] below meth c H locs cells slots (lw_Z below #[Value.ref b] s) (F0 m 852 ls []) := by
  obtain ⟨v, P, hT, hU⟩ := p_keep hR (by omega)
  refine lv_aload_n C.1.1 C.1.2.1 dL_law_852 rfl (lv_at hl 1 rfl) ?_
  refine lw_call (rest := []) C hH hl.1 hcr hsr hT km_L_121 rfl (by decide) rfl (by decide) rfl rfl dL_law_853 (fun r1 σ1 H1 locs1 q1 hH1 => ?_)
  obtain ⟨e1, hP⟩ := q1
  cases e1
  refine lv_aload_n C.1.1 C.1.2.1 dL_law_856 rfl (lv_at hl 2 rfl) ?_
  refine lw_call (rest := [.int v]) C hH1 hl.1 hcr hsr (hU _ hP) km_L_124 rfl (by decide) rfl (Nat.le_of_ble_eq_true rfl) rfl rfl dL_law_857 (fun r2 σ2 H2 locs2 q2 hH2 => ?_)
  obtain ⟨e2, hR2⟩ := q2
  cases e2
  refine lv_icmp_eq (tgt := 901) C.1.1 C.1.2.1 dL_law_860 (by decide) (fun _ => K σ2 H2 locs2 hR2 hH2) (fun c9 => absurd rfl c9)
set_option maxRecDepth 100000 in
theorem lw_c27 (C : lw_X p s m meth c b L xs g) (hH : lw_H s g σ H locs) {i k : Nat} (hl : lw_ls g b i ls) (hL : L ≤ 2048) (hi : i + 3 < L) (hk : 4 * k ≤ i) (hR : RR k σ) (hcr : cells ≤ 600000) (hsr : slots ≤ 7302250) (K : lw_K p l e s m below meth c b g cells slots k ls) : W p l e room_1 s m #[Value.ref b] below meth c H locs cells slots (lw_Z below #[Value.ref b] s) (F0 m 865 ls []) := by
  obtain ⟨v, P, hT, hU⟩ := p_back hR (by omega)
  refine lv_aload_n C.1.1 C.1.2.1 dL_law_865 rfl (lv_at hl 1 rfl) ?_
  refine lw_call (rest := []) C hH hl.1 hcr hsr hT km_L_125 rfl (by decide) rfl (by decide) rfl rfl dL_law_866 (fun r1 σ1 H1 locs1 q1 hH1 => ?_)
  obtain ⟨e1, hP⟩ := q1
  cases e1
  refine lv_aload_n C.1.1 C.1.2.1 dL_law_869 rfl (lv_at hl 2 rfl) ?_
  refine lw_call (rest := [.int v]) C hH1 hl.1 hcr hsr (hU _ hP) km_L_128 rfl (by decide) rfl (Nat.le_of_ble_eq_true rfl) rfl rfl dL_law_870 (fun r2 σ2 H2 locs2 q2 hH2 => ?_)
  obtain ⟨e2, hR2⟩ := q2
  cases e2
  refine lv_icmp_eq (tgt := 901) C.1.1 C.1.2.1 dL_law_873 (by decide) (fun _ => K σ2 H2 locs2 hR2 hH2) (fun c9 => absurd rfl c9)
set_option maxRecDepth 100000 in
theorem lw_c28 (C : lw_X p s m meth c b L xs g) (hH : lw_H s g σ H locs) {i k : Nat} (hl : lw_ls g b i ls) (hL : L ≤ 2048) (hi : i + 3 < L) (hk : 4 * k ≤ i) (hR : RR k σ) (hcr : cells ≤ 600000) (hsr : slots ≤ 7302250) (K : lw_K p l e s m below meth c b g cells slots k ls) : W p l e room_1 s m #[Value.ref b] below meth c H locs cells slots (lw_Z below #[Value.ref b] s) (F0 m 878 ls []) := by
  obtain ⟨v, P, hT, hU⟩ := p_count hR (by omega) (xs (i + 1))
  refine lv_aload_n C.1.1 C.1.2.1 dL_law_878 rfl (lv_at hl 1 rfl) ?_
  refine lw_ld (j := 1) C hH hl hL (by omega) dL_law_879 dL_law_880 dL_law_881 rfl dL_law_882 dL_law_883 rfl ?_
  refine lw_call (rest := []) C hH hl.1 hcr hsr hT km_L_129 rfl (by decide) rfl (by decide) rfl rfl dL_law_884 (fun r1 σ1 H1 locs1 q1 hH1 => ?_)
  obtain ⟨e1, hP⟩ := q1
  cases e1
  refine lv_aload_n C.1.1 C.1.2.1 dL_law_887 rfl (lv_at hl 2 rfl) ?_
  refine lw_ld (j := 1) C hH1 hl hL (by omega) dL_law_888 dL_law_889 dL_law_890 rfl dL_law_891 dL_law_892 rfl ?_
  refine lw_call (rest := [.int v]) C hH1 hl.1 hcr hsr (hU _ hP) km_L_132 rfl (by decide) rfl (Nat.le_of_ble_eq_true rfl) rfl rfl dL_law_893 (fun r2 σ2 H2 locs2 q2 hH2 => ?_)
  obtain ⟨e2, hR2⟩ := q2
  cases e2
  refine lv_icmp_eq (tgt := 901) C.1.1 C.1.2.1 dL_law_896 (by decide) (fun _ => K σ2 H2 locs2 hR2 hH2) (fun c9 => absurd rfl c9)
end LW
