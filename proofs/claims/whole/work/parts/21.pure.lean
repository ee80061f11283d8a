/-! ===== what an order, ropes, a stand are: facts that the kernel counts out ===== -/
def wf_p (x : Nat) : Bool := x % 4 != x / 4 % 4 && x % 4 != x / 16 % 4 && x % 4 != x / 64 % 4 && x / 4 % 4 != x / 16 % 4 && x / 4 % 4 != x / 64 % 4 && x / 16 % 4 != x / 64 % 4
def wh (x p : Nat) : Nat := x / 4 ^ p % 4
theorem wh_ok : ∀ x, x < 256 → ∀ p, p < 4 → sd_who (nI x) (nI p) = nI (wh x p) := by decide +kernel
theorem wh_lt (x p : Nat) : wh x p < 4 := Nat.mod_lt _ (by decide)
def rp (r i : Nat) : Nat := r / 2 ^ i % 2
theorem rp_ok : ∀ r, r < 16 → ∀ i, i < 4 → sd_rope (nI r) (nI i) = nI (rp r i) := by decide +kernel
def tn (x : Nat) : Nat := x % 64 * 4 + x / 64
theorem tn_ok : ∀ x, x < 256 → (((nI x <<< ((2 : Int32) &&& 31)) ||| (nI x >>> ((6 : Int32) &&& 31))) &&& 255 = nI (tn x) ∧ tn x < 256 ∧ (wf_p x = true → wf_p (tn x) = true) ∧ wh (tn x) 0 = wh x 3 ∧ wh (tn x) 1 = wh x 0 ∧ wh (tn x) 2 = wh x 1 ∧ wh (tn x) 3 = wh x 2) := by decide +kernel
def sw (x p q : Nat) : Nat := (sd_swap (nI x) (nI p) (nI q)).toBitVec.toNat
theorem sw_ok : ∀ x, x < 256 → ∀ p, p < 4 → ∀ q, q < 4 → (sd_swap (nI x) (nI p) (nI q) = nI (sw x p q) ∧ sw x p q < 256 ∧ (wf_p x = true → wf_p (sw x p q) = true)) := by decide +kernel
theorem sw_wh : ∀ x, x < 256 → ∀ p, p < 4 → ∀ q, q < 4 → ∀ k, k < 4 → wh (sw x p q) k = if k = q then wh x p else if k = p then wh x q else wh x k := by decide +kernel
def pl (x i : Nat) : Nat := if wh x 0 = i then 0 else if wh x 1 = i then 1 else if wh x 2 = i then 2 else 3
theorem pl_okk : ∀ x, x < 256 → wf_p x = true → ∀ i, i < 4 → (sd_place (nI x) (nI i) = nI (pl x i) ∧ wh x (pl x i) = i) := by decide +kernel
theorem pl_lt (x i : Nat) : pl x i < 4 := by unfold pl; split; decide; split; decide; split <;> decide
def rx (r i j : Nat) : Nat := (nI r ^^^ (((sd_rope (nI r) (nI i) ^^^ sd_rope (nI r) (nI j)) <<< (nI i &&& 31)) ||| ((sd_rope (nI r) (nI i) ^^^ sd_rope (nI r) (nI j)) <<< (nI j &&& 31)))).toBitVec.toNat
theorem rx_ok : ∀ r, r < 16 → ∀ i, i < 4 → ∀ j, j < 4 → ((nI r ^^^ (((sd_rope (nI r) (nI i) ^^^ sd_rope (nI r) (nI j)) <<< (nI i &&& 31)) ||| ((sd_rope (nI r) (nI i) ^^^ sd_rope (nI r) (nI j)) <<< (nI j &&& 31)))) = nI (rx r i j) ∧ rx r i j < 16) := by decide +kernel
theorem rx_rp : ∀ r, r < 16 → ∀ i, i < 4 → ∀ j, j < 4 → ∀ k, k < 4 → (i = j ∨ rp (rx r i j) k = if k = i then rp r j else if k = j then rp r i else rp r k) := by decide +kernel
def bg (x : Nat) : Nat := ((1 <<< (sd_who (nI x) 2 &&& 31)) ||| (1 <<< (sd_who (nI x) 3 &&& 31)) : Int32).toBitVec.toNat
theorem bg_ok : ∀ x, x < 256 → wf_p x = true → ((((1 : Int32) <<< (sd_who (nI x) 2 &&& 31)) ||| ((1 : Int32) <<< (sd_who (nI x) 3 &&& 31))) = nI (bg x) ∧ bg x < 16 ∧ ∀ i, i < 4 → rp (bg x) i = pl x i / 2) := by decide +kernel
/-- U by L is in lowest terms, within what isn't too tight -/
def wf_ul (u l : Int32) : Prop := -9999 ≤ u.toInt ∧ u.toInt ≤ 9999 ∧ 0 ≤ l.toInt ∧ l.toInt ≤ 9999 ∧ Nat.gcd u.toInt.natAbs l.toInt.natAbs = 1 ∧ (l.toInt = 0 → u.toInt = 1)
def wf (c : Nat) (D : sd_D) : Prop := ∃ x r b : Nat, x < 256 ∧ wf_p x = true ∧ r < 16 ∧ b ≤ c ∧ D.1 = nI x ∧ D.2.1 = nI r ∧ D.2.2.2.2.2 = nI b ∧ (D.2.2.2.2.1 = 0 ∨ D.2.2.2.2.1 = 1 ∨ D.2.2.2.2.1 = -1) ∧ wf_ul D.2.2.1 D.2.2.2.1
/-- a stand in twelve cells -/
def md_of (D : sd_D) (k : Nat) : Int32 := if k < 4 then sd_who D.1 (nI k) else if k < 8 then sd_rope D.2.1 (nI (k - 4)) else if k = 8 then D.2.2.1 else if k = 9 then D.2.2.2.1 else if k = 10 then D.2.2.2.2.2 else if D.2.2.2.2.1 < 0 then 2 else D.2.2.2.2.1
/-- the reference's stand, what it has put aside, how much was wound -/
def ms (σ : rd_S) (D A : sd_D) (n : Int32) : rd_S := fun a b => if a = 37 ∧ b < 12 then md_of D b else if a = 45 ∧ b < 12 then md_of A b else if a = 33 ∧ b = 18 then n else σ a b
theorem ms_st {σ : rd_S} {D A : sd_D} {n : Int32} {k : Nat} (h : k < 12) : ms σ D A n 37 k = md_of D k := by simp [ms, h]
theorem ms_as {σ : rd_S} {D A : sd_D} {n : Int32} {k : Nat} (h : k < 12) : ms σ D A n 45 k = md_of A k := by simp [ms, h]
theorem ms_net (σ : rd_S) (D A : sd_D) (n : Int32) : ms σ D A n 33 18 = n := by simp [ms]
theorem ms_ne {σ : rd_S} {D A : sd_D} {n : Int32} {a k : Nat} (h1 : a ≠ 37) (h2 : a ≠ 45) (h3 : ¬ (a = 33 ∧ k = 18)) : ms σ D A n a k = σ a k := by simp only [ms]; rw [if_neg (fun q => h1 q.1), if_neg (fun q => h2 q.1), if_neg h3]
theorem ms_ext {f σ : rd_S} {D A : sd_D} {n : Int32} (h : ∀ a b, ¬ (a = 37 ∧ b < 12) → ¬ (a = 45 ∧ b < 12) → ¬ (a = 33 ∧ b = 18) → f a b = σ a b) (h1 : ∀ k, k < 12 → f 37 k = md_of D k) (h2 : ∀ k, k < 12 → f 45 k = md_of A k) (h3 : f 33 18 = n) : f = ms σ D A n := by
  funext a b
  simp only [ms]
  split
  · rename_i q; obtain ⟨rfl, q⟩ := q; exact h1 b q
  · split
    · rename_i q; obtain ⟨rfl, q⟩ := q; exact h2 b q
    · split
      · rename_i q; obtain ⟨rfl, rfl⟩ := q; exact h3
      · exact h a b (by assumption) (by assumption) (by assumption)
theorem ms_u2 {σ : rd_S} {D A : sd_D} {n : Int32} {a k : Nat} {v : Int32} (h1 : a ≠ 37) (h2 : a ≠ 45) (h3 : ¬ (a = 33 ∧ k = 18)) : rd_u2 (ms σ D A n) a k v = ms (rd_u2 σ a k v) D A n := by
  funext x y
  simp only [rd_u2, ms]
  by_cases hx : x = a ∧ y = k
  · obtain ⟨rfl, rfl⟩ := hx
    rw [if_pos ⟨rfl, rfl⟩, if_neg (fun q => h1 q.1), if_neg (fun q => h2 q.1), if_neg h3, if_pos ⟨rfl, rfl⟩]
  · rw [if_neg hx, if_neg hx]
theorem ms_net2 (σ : rd_S) (D A : sd_D) (n v : Int32) : rd_u2 (ms σ D A n) 33 18 v = ms σ D A v := by
  funext x y
  simp only [rd_u2, ms]
  by_cases hx : x = 33 ∧ y = 18
  · obtain ⟨rfl, rfl⟩ := hx
    simp
  · rw [if_neg hx, if_neg hx, if_neg hx]
theorem md_4 {D : sd_D} {k : Nat} (h : k < 4) : md_of D k = sd_who D.1 (nI k) := by simp [md_of, h]
theorem md_8 {D : sd_D} {k : Nat} (h : k < 4) : md_of D (4 + k) = sd_rope D.2.1 (nI k) := by
  simp [md_of, show ¬ 4 + k < 4 by omega, show 4 + k < 8 by omega]
