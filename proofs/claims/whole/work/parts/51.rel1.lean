/-! ===== class and reference side by side: what is alike between two calls ===== -/
def k1 (σ : rd_S) : Prop := ∃ n, σ 1 1 = nI n ∧ tx_at σ n ∧ ∀ k, k < n → σ 2 k = σ 41 k
def k2 (σ : rd_S) : Prop := kb_ok (σ 0 11) ∧ kd_at σ (σ 0 11)
def k3 (σ : rd_S) : Prop := ∃ fc, σ 0 13 = nI fc ∧ rw_at σ (σ 0 12) fc
def k4 (c : Nat) (σ : rd_S) : Prop := wf c (sd_rd σ 3) ∧ md_at σ (sd_rd σ 3)
/-- a pile of the class (at o, its stands from b on) and a row of the reference (at ar, its count at ct) hold the same -/
def kp (c o b C ar ct : Nat) (σ : rd_S) : Prop := ∃ nx sz, σ o 1 = nI nx ∧ nx ≤ C ∧ σ o 2 = nI sz ∧ sz ≤ C ∧ σ 33 ct = nI sz ∧ ∀ k, k < sz → wf c (sd_rd σ (b + (nx + C - sz + k) % C)) ∧ ∀ j, j < 12 → σ ar (12 * k + j) = md_of (sd_rd σ (b + (nx + C - sz + k) % C)) j
def k5 (c : Nat) (σ : rd_S) : Prop := kp c 5 7 8 38 6 σ
def k6 (c : Nat) (σ : rd_S) : Prop := kp c 15 17 2 39 8 σ
def k7 (σ : rd_S) : Prop := ∃ sc, σ 0 10 = nI sc ∧ sc ≤ 6 ∧ σ 33 10 = nI sc ∧ ∀ s, s < sc → ∃ n, n ≤ 12 ∧ σ 29 s = nI n ∧ σ 40 (3 * s) = nI n ∧ σ 40 (3 * s + 1) = σ 30 s ∧ σ 40 (3 * s + 2) = σ 31 s
def RR (c : Nat) (σ : rd_S) : Prop := k1 σ ∧ k2 σ ∧ k3 σ ∧ k4 c σ ∧ k5 c σ ∧ k6 c σ ∧ k7 σ
theorem k1.cong {s σ : rd_S} (k : k1 σ) (h : ∀ a b, ((a = 1 ∧ b = 1) ∨ a = 2 ∨ (a = 33 ∧ b = 12) ∨ a = 41) → s a b = σ a b) : k1 s := by
  obtain ⟨n, h1, ⟨h2, h3, h4⟩, h5⟩ := k
  exact ⟨n, by rw [h _ _ (by omega)]; exact h1, ⟨by rw [h _ _ (by omega)]; exact h2, h3, fun k hk => by rw [h _ _ (by omega)]; exact h4 k hk⟩, fun k hk => by rw [h _ _ (by omega), h _ _ (by omega)]; exact h5 k hk⟩
theorem k2.cong {s σ : rd_S} (k : k2 σ) (h : ∀ a b, ((a = 0 ∧ b = 11) ∨ a = 34) → s a b = σ a b) : k2 s := by
  have e : s 0 11 = σ 0 11 := h _ _ (by omega)
  refine ⟨by rw [e]; exact k.1, fun i hi => ?_⟩
  rw [e, h _ _ (by omega)]; exact k.2 i hi
theorem k3.cong {s σ : rd_S} (k : k3 σ) (h : ∀ a b, ((a = 0 ∧ (b = 12 ∨ b = 13)) ∨ (a = 33 ∧ b = 3) ∨ a = 36) → s a b = σ a b) : k3 s := by
  obtain ⟨fc, h1, h2, h3, h4⟩ := k
  exact ⟨fc, by rw [h _ _ (by omega)]; exact h1, by rw [h _ _ (by omega)]; exact h2, h3, fun k hk => by rw [h _ _ (by omega), h _ _ (by omega)]; exact h4 k hk⟩
theorem rd_cong {s σ : rd_S} {o : Nat} (h : ∀ b, s o b = σ o b) : sd_rd s o = sd_rd σ o := by
  unfold sd_rd
  rw [h, h, h, h, h, h]
theorem k4.cong {c : Nat} {s σ : rd_S} (k : k4 c σ) (h : ∀ a b, (a = 3 ∨ a = 37) → s a b = σ a b) : k4 c s := by
  have e : sd_rd s 3 = sd_rd σ 3 := rd_cong (fun b => h _ _ (by omega))
  refine ⟨by rw [e]; exact k.1, fun i hi => ?_⟩
  rw [e, h _ _ (by omega)]; exact k.2 i hi
theorem kp.cong {c o b C ar ct : Nat} {s σ : rd_S} (hC : 0 < C) (k : kp c o b C ar ct σ) (h : ∀ x y, (x = o ∨ (b ≤ x ∧ x < b + C) ∨ (x = 33 ∧ y = ct) ∨ x = ar) → s x y = σ x y) : kp c o b C ar ct s := by
  obtain ⟨nx, sz, h1, h2, h3, h4, h5, h6⟩ := k
  refine ⟨nx, sz, by rw [h _ _ (by omega)]; exact h1, h2, by rw [h _ _ (by omega)]; exact h3, h4, by rw [h _ _ (by omega)]; exact h5, fun k hk => ?_⟩
  have hlt : (nx + C - sz + k) % C < C := Nat.mod_lt _ hC
  have e : sd_rd s (b + (nx + C - sz + k) % C) = sd_rd σ (b + (nx + C - sz + k) % C) := rd_cong (fun y => h _ _ (by omega))
  rw [e]
  exact ⟨(h6 k hk).1, fun j hj => by rw [h _ _ (by omega)]; exact (h6 k hk).2 j hj⟩
theorem k5.cong {c : Nat} {s σ : rd_S} (k : k5 c σ) (h : ∀ a b, (a = 5 ∨ (7 ≤ a ∧ a < 15) ∨ (a = 33 ∧ b = 6) ∨ a = 38) → s a b = σ a b) : k5 c s := kp.cong (by decide) k (fun x y q => h x y (by omega))
theorem k6.cong {c : Nat} {s σ : rd_S} (k : k6 c σ) (h : ∀ a b, (a = 15 ∨ (17 ≤ a ∧ a < 19) ∨ (a = 33 ∧ b = 8) ∨ a = 39) → s a b = σ a b) : k6 c s := kp.cong (by decide) k (fun x y q => h x y (by omega))
theorem k7.cong {s σ : rd_S} (k : k7 σ) (h : ∀ a b, ((a = 0 ∧ b = 10) ∨ (a = 33 ∧ b = 10) ∨ a = 29 ∨ a = 30 ∨ a = 31 ∨ a = 40) → s a b = σ a b) : k7 s := by
  obtain ⟨sc, h1, h2, h3, h4⟩ := k
  refine ⟨sc, by rw [h _ _ (by omega)]; exact h1, h2, by rw [h _ _ (by omega)]; exact h3, fun t ht => ?_⟩
  obtain ⟨n, a1, a2, a3, a4, a5⟩ := h4 t ht
  exact ⟨n, a1, by rw [h _ _ (by omega)]; exact a2, by rw [h _ _ (by omega)]; exact a3, by rw [h _ _ (by omega), h _ _ (by omega)]; exact a4, by rw [h _ _ (by omega), h _ _ (by omega)]; exact a5⟩
theorem k4.up {c d : Nat} {σ : rd_S} (k : k4 c σ) (h : c ≤ d) : k4 d σ := ⟨k.1.up h, k.2⟩
theorem kp.up {c d o b C ar ct : Nat} {σ : rd_S} (k : kp c o b C ar ct σ) (h : c ≤ d) : kp d o b C ar ct σ := by
  obtain ⟨nx, sz, h1, h2, h3, h4, h5, h6⟩ := k
  exact ⟨nx, sz, h1, h2, h3, h4, h5, fun k hk => ⟨(h6 k hk).1.up h, (h6 k hk).2⟩⟩
theorem k5.up {c d : Nat} {σ : rd_S} (k : k5 c σ) (h : c ≤ d) : k5 d σ := kp.up k h
theorem k6.up {c d : Nat} {σ : rd_S} (k : k6 c σ) (h : c ≤ d) : k6 d σ := kp.up k h
/-- nothing but what is tried out has changed -/
def qt (s σ : rd_S) : Prop := ∀ a b, ¬ (a = 4 ∨ a = 19 ∨ (21 ≤ a ∧ a ≤ 28) ∨ a = 32 ∨ (a = 1 ∧ 2 ≤ b ∧ b ≤ 5) ∨ (42 ≤ a ∧ a ≤ 48) ∨ (a = 33 ∧ (b = 16 ∨ b = 17 ∨ b = 18 ∨ b = 20 ∨ b = 21))) → s a b = σ a b
theorem RR.qt {c d : Nat} {s σ : rd_S} (r : RR c σ) (h : qt s σ) (hd : c ≤ d) : RR d s := by
  obtain ⟨r1, r2, r3, r4, r5, r6, r7⟩ := r
  exact ⟨r1.cong (fun a b q => h a b (by omega)), r2.cong (fun a b q => h a b (by omega)), r3.cong (fun a b q => h a b (by omega)), (r4.cong (fun a b q => h a b (by omega))).up hd, (r5.cong (fun a b q => h a b (by omega))).up hd, (r6.cong (fun a b q => h a b (by omega))).up hd, r7.cong (fun a b q => h a b (by omega))⟩
theorem qt_cm {u s σ : rd_S} (h1 : cs_eq s σ) (h2 : mq_eq u s) : qt u σ := fun a b q => (h2 a b (by omega)).trans (h1 a b (by omega))
theorem cs_up {s σ : rd_S} (h : cs_eq s σ) : ∀ a b, 33 ≤ a → s a b = σ a b := fun a b q => h a b (by omega)
/-- the reference's side, read off another store -/
theorem up_kd {s σ : rd_S} (h : ∀ a b, 33 ≤ a → s a b = σ a b) {kb : Int32} (k : kd_at σ kb) : kd_at s kb := fun i hi => by rw [h _ _ (by omega)]; exact k i hi
theorem up_md {s σ : rd_S} (h : ∀ a b, 33 ≤ a → s a b = σ a b) {D : sd_D} (k : md_at σ D) : md_at s D := fun i hi => by rw [h _ _ (by omega)]; exact k i hi
theorem up_rw {s σ : rd_S} (h : ∀ a b, 33 ≤ a → s a b = σ a b) {fg : Int32} {fc : Nat} (k : rw_at σ fg fc) : rw_at s fg fc := ⟨by rw [h _ _ (by omega)]; exact k.1, k.2.1, fun i hi => by rw [h _ _ (by omega)]; exact k.2.2 i hi⟩
theorem up_tx {s σ : rd_S} (h : ∀ a b, 33 ≤ a → s a b = σ a b) {n : Nat} (k : tx_at σ n) : tx_at s n := ⟨by rw [h _ _ (by omega)]; exact k.1, k.2.1, fun i hi => by rw [h _ _ (by omega)]; exact k.2.2 i hi⟩
theorem up_sn {s σ : rd_S} (h : ∀ a b, 33 ≤ a → s a b = σ a b) {sc : Nat} {sn : Nat → Nat} {su sl : Nat → Int32} (k : sn_at σ sc sn su sl) : sn_at s sc sn su sl := ⟨by rw [h _ _ (by omega)]; exact k.1, k.2.1, fun i hi => by rw [h _ _ (by omega), h _ _ (by omega), h _ _ (by omega)]; exact k.2.2 i hi⟩
theorem k7_sn {σ : rd_S} (k : k7 σ) : ∃ sc, σ 0 10 = nI sc ∧ sn_at σ sc (fun s => (σ 29 s).toNatClampNeg) (σ 30) (σ 31) ∧ ∀ s, s < sc → ∃ n, σ 29 s = nI n ∧ n < 900 := by
  obtain ⟨sc, h1, h2, h3, h4⟩ := k
  refine ⟨sc, h1, ⟨h3, h2, fun s hs => ?_⟩, fun s hs => ?_⟩
  · obtain ⟨n, a1, a2, a3, a4, a5⟩ := h4 s hs
    have e : (σ 29 s).toNatClampNeg = n := by rw [a2]; exact nI_clamp (by omega)
    show σ 40 (3 * s) = nI (σ 29 s).toNatClampNeg ∧ (σ 29 s).toNatClampNeg ≤ 12 ∧ _
    rw [e]
    exact ⟨a3, a1, a4, a5⟩
  · obtain ⟨n, a1, a2, a3, a4, a5⟩ := h4 s hs
    exact ⟨n, a2, by omega⟩
/-- a call of the class and the same call of the reference answer alike, and all is alike behind them -/
def pair (c : Nat) (σ : rd_S) (yc : MethodName) (cc : ByteArray) (nc : Nat) (yr : MethodName) (cr : ByteArray) (nr : Nat) (as : List Value) : Prop :=
  ∃ (v : Int32) (P : rd_S → Prop), rd_T 49 40 yc cc nc (some .int) (.ref 0 :: as) σ (fun r s => r = some (.int v) ∧ P s) ∧ ∀ s, P s → rd_T 49 40 yr cr nr (some .int) (.ref 33 :: as) s (fun r u => r = some (.int v) ∧ RR (c + 1) u)
theorem pair_q {c : Nat} {σ : rd_S} {yc : MethodName} {cc : ByteArray} {nc : Nat} {yr : MethodName} {cr : ByteArray} {nr : Nat} {as : List Value} (hR : RR c σ) (v : Int32) (h1 : rd_T 49 40 yc cc nc (some .int) (.ref 0 :: as) σ (fun r s => r = some (.int v) ∧ cs_eq s σ)) (h2 : ∀ s, cs_eq s σ → rd_T 49 40 yr cr nr (some .int) (.ref 33 :: as) s (fun r u => r = some (.int v) ∧ mq_eq u s)) : pair c σ yc cc nc yr cr nr as :=
  ⟨v, fun s => cs_eq s σ, h1, fun s hs => (h2 s hs).post (fun r u q => ⟨q.1, hR.qt (qt_cm hs q.2) (Nat.le_succ c)⟩)⟩
theorem pair_b {c : Nat} {σ : rd_S} {yc : MethodName} {cc : ByteArray} {nc : Nat} {yr : MethodName} {cr : ByteArray} {nr : Nat} {as : List Value} (hR : RR c σ) (v : Int32) (h1 : rd_T 49 40 yc cc nc (some .int) (.ref 0 :: as) σ (rd_is (some (.int v)) σ)) (h2 : rd_T 49 40 yr cr nr (some .int) (.ref 33 :: as) σ (rd_is (some (.int v)) σ)) : pair c σ yc cc nc yr cr nr as :=
  ⟨v, fun s => s = σ, h1, fun s hs => by subst hs; exact h2.post (fun r u q => ⟨q.1, by rw [q.2]; exact hR.qt (fun _ _ _ => rfl) (Nat.le_succ c)⟩)⟩
