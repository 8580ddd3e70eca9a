/-! For the reference: paths and sheets. -/
def sBeginM (stf xf yf : Nat → Int32) (k : Nat) (x1 : Int32) : (Nat → Int32) × (Nat → Int32) × (Nat → Int32) := if -100000 ≤ x1 ∧ x1 ≤ 100000 then (upd stf k 0, upd xf (41 * k) x1, upd yf (41 * k) 0) else (stf, xf, yf)
def sStatM (stf xf yf : Nat → Int32) (k na : Nat) (t1 sd : Int32) : (Nat → Int32) × (Nat → Int32) × (Nat → Int32) := if ((0 ≤ t1 ∧ t1 ≤ 9) ∧ (sd = -1 ∨ sd = 1)) ∧ na < 40 then (upd stf k (nI (na + 1)), upd xf (41 * k + na + 1) (xf (41 * k + na) + sd * asd t1.toNatClampNeg), upd yf (41 * k + na + 1) (yf (41 * k + na) + dwn t1.toNatClampNeg)) else (stf, xf, yf)
theorem asd_dwn : ∀ t, t ≤ 9 → dwn (9 - t) = asd t := by decide
def mN (g : Int64) : Int64 := if g = 9223372036854775807 then -1 else g
theorem mN_lt {g : Int64} (h : 0 ≤ g) (hc : mN g < 0) : g = 9223372036854775807 := Classical.byContradiction fun q => by
  unfold mN at hc
  rw [if_neg q, l_lt] at hc
  rw [l_le] at h
  omega
theorem mN_nlt {g : Int64} (hc : ¬ mN g < 0) : ¬ g = 9223372036854775807 := fun q => hc (by unfold mN; rw [if_pos q]; decide)
theorem mN_ne {g : Int64} (h : ¬ g = 9223372036854775807) : mN g = g := if_neg h
theorem l_ne {g : Int64} (h : g < 9223372036854775807) : ¬ g = 9223372036854775807 := fun q => by rw [q] at h; exact absurd h (by decide)
theorem nst_nn {Df : Nat → Nat → Int64} {i j : Nat} {st : Int64 × Int32 × Int32} (hd : 0 ≤ Df i j) (h : 0 ≤ st.1) : 0 ≤ (nst Df i j st).1 := by
  unfold nst; split
  · exact hd
  · exact h
theorem nrow_nn {Df : Nat → Nat → Int64} {i : Nat} : ∀ (n j : Nat) {st : Int64 × Int32 × Int32}, (∀ k, j ≤ k → k < j + n → 0 ≤ Df i k) → 0 ≤ st.1 → 0 ≤ (nrow Df i j n st).1
  | 0, _, _, _, h => h
  | n + 1, j, _, hd, h => nrow_nn n (j + 1) (fun k a b => hd k (by omega) (by omega)) (nst_nn (hd j (Nat.le_refl j) (by omega)) h)
theorem ncol_nn {Df : Nat → Nat → Int64} {n1 : Nat} : ∀ (n i : Nat) {st : Int64 × Int32 × Int32}, (∀ a b, i ≤ a → a < i + n → b ≤ n1 → 0 ≤ Df a b) → 0 ≤ st.1 → 0 ≤ (ncol Df n1 i n st).1
  | 0, _, _, _, h => h
  | n + 1, i, _, hd, h => ncol_nn n (i + 1) (fun a b x y z => hd a b (by omega) (by omega) z) (nrow_nn _ _ (fun k a b => hd i k (Nat.le_refl i) (by omega) (by unfold nj0 at b; split at b <;> omega)) h)
def sREL (fmf szf imf : Nat → Int32) (k : Nat) (lo fo : Int32) (n : Nat) (it : Nat → Int32) : Prop := (fmf k < 0 ∧ ¬ lo = 0 ∧ n = 0) ∨ (¬ fmf k < 0 ∧ lo = 0 ∧ fmf k = fo ∧ szf k = nI n ∧ ∀ j, j < n → imf (60 * k + j) = it j)
theorem sREL.g {fmf szf imf : Nat → Int32} {k : Nat} {lo fo : Int32} {n : Nat} {it : Nat → Int32} (h : sREL fmf szf imf k lo fo n it) : gREL fmf szf imf k n it := h.elim (fun h => Or.inl ⟨h.1, h.2.2⟩) (fun h => Or.inr ⟨h.1, h.2.2.2.1, h.2.2.2.2⟩)
theorem sREL.neg {fmf szf imf : Nat → Int32} {k : Nat} {lo fo : Int32} {n : Nat} {it : Nat → Int32} (h : sREL fmf szf imf k lo fo n it) (hc : fmf k < 0) : ¬ lo = 0 := h.elim (fun h => h.2.1) (fun h => absurd hc h.1)
theorem sREL.pos {fmf szf imf : Nat → Int32} {k : Nat} {lo fo : Int32} {n : Nat} {it : Nat → Int32} (h : sREL fmf szf imf k lo fo n it) (hc : ¬ fmf k < 0) : lo = 0 ∧ fmf k = fo ∧ szf k = nI n ∧ ∀ j, j < n → imf (60 * k + j) = it j := h.elim (fun h => absurd h.1 hc) (fun h => h.2)
theorem i_nlt {x y : Int32} (h : y ≤ x) : ¬ x < y := by rw [i_le] at h; rw [i_lt]; omega
theorem i_lt' {x y : Int32} (h : ¬ y ≤ x) : x < y := by rw [i_le] at h; rw [i_lt]; omega
def zeroI (f : Nat → Int32) (a n : Nat) : Nat → Int32 := fun j => if a ≤ j ∧ j < a + n then 0 else f j
theorem zeroI_0 (f : Nat → Int32) (a : Nat) : zeroI f a 0 = f := by funext j; unfold zeroI; rw [if_neg (by omega)]
theorem zeroI_s (f : Nat → Int32) (a n : Nat) : upd (zeroI f a n) (a + n) 0 = zeroI f a (n + 1) := by
  funext j; unfold upd zeroI
  by_cases h : j = a + n
  · rw [if_pos h, if_pos (by omega)]
  · rw [if_neg h]
    by_cases q : a ≤ j ∧ j < a + n
    · rw [if_pos q, if_pos (by omega)]
    · rw [if_neg q, if_neg (by omega)]
def sSheetM (fd : Int32) (fmf szf imf : Nat → Int32) (k : Nat) (fm nn : Int32) : Int32 × (Nat → Int32) × (Nat → Int32) × (Nat → Int32) := if (0 ≤ fm ∧ fm ≤ 2) ∧ nn ≤ 60 then (if 0 ≤ nn then (fd, upd fmf k fm, upd szf k nn, zeroI imf (60 * k) nn.toNatClampNeg) else (5, fmf, szf, imf)) else (fd, fmf, szf, imf)
def sLoseM (fd lo : Int32) (fmf : Nat → Int32) (k : Nat) : Int32 × (Nat → Int32) := if ¬ lo = 0 then (1, fmf) else (fd, upd fmf k (-1))
def sPutM (fd lo fo : Int32) (n : Nat) (imf : Nat → Int32) (k : Nat) (fm ix v : Int32) : Int32 × (Nat → Int32) := if 0 ≤ fm ∧ fm ≤ 2 then (if wrongW lo fo n fm ix = 0 then (fd, upd imf (60 * k + ix.toNatClampNeg) (lowB fm v)) else (wrongW lo fo n fm ix, imf)) else (fd, imf)
def lackA (w9 : Int32) : Int32 := if w9 = 0 then 0 else -10 - w9
def lackS (w9 fd : Int32) : Int32 := if w9 = 0 then fd else w9
theorem wrongW_in (lo fo : Int32) (n : Nat) (fm ix : Int32) : wrongW lo fo n fm ix = 0 ∨ wrongW lo fo n fm ix = 1 ∨ wrongW lo fo n fm ix = 3 ∨ wrongW lo fo n fm ix = 2 := by
  unfold wrongW
  split
  · exact Or.inr (Or.inl rfl)
  · split
    · exact Or.inr (Or.inr (Or.inl rfl))
    · split
      · exact Or.inl rfl
      · exact Or.inr (Or.inr (Or.inr rfl))
theorem lackA_0 {lo fo : Int32} {n : Nat} {fm ix : Int32} : lackA (wrongW lo fo n fm ix) = 0 ↔ wrongW lo fo n fm ix = 0 := by
  unfold lackA
  rcases wrongW_in lo fo n fm ix with h | h | h | h <;> (rw [h]; decide)
def sCopyM (w9 fd : Int32) (imf : Nat → Int32) (k k2 : Nat) (i1 j1 k1 : Int32) : Int32 × (Nat → Int32) := if w9 = 0 then (fd, va_cpy imf imf (60 * k + i1.toNatClampNeg) (60 * k2 + j1.toNatClampNeg) k1.toNatClampNeg) else (w9, imf)
/-- the second stretch of a copy -/
def mvI (f g : Nat → Int32) (b n : Nat) : Nat → Int32 := fun j => if b ≤ j ∧ j < b + n then g (j - b) else f j
theorem mvI_0 (f g : Nat → Int32) (b : Nat) : mvI f g b 0 = f := by funext j; unfold mvI; rw [if_neg (by omega)]
theorem mvI_s (f g : Nat → Int32) (b n : Nat) : upd (mvI f g b n) (b + n) (g n) = mvI f g b (n + 1) := by
  funext j; unfold upd mvI
  by_cases h : j = b + n
  · rw [if_pos h, if_pos (by omega), show j - b = n by omega]
  · rw [if_neg h]
    by_cases q : b ≤ j ∧ j < b + n
    · rw [if_pos q, if_pos (by omega)]
    · rw [if_neg q, if_neg (by omega)]
theorem mvI_cpy {f g : Nat → Int32} {a b n : Nat} (h : ∀ j, j < n → g j = f (a + j)) : mvI f g b n = va_cpy f f a b n := by
  funext j; unfold mvI va_cpy
  by_cases q : b ≤ j ∧ j < b + n
  · rw [if_pos q, if_pos q, h (j - b) (by omega)]
  · rw [if_neg q, if_neg q]
/-- what hinders a copy, as the reference asks it -/
theorem hr_in {n : Nat} {i1 k1 : Int32} (hn : n ≤ 60) (h1 : ¬ i1 < 0) (h2 : ¬ k1 < 0) (h3 : ¬ (nI n).toInt64 < i1.toInt64 + k1.toInt64) : (0 ≤ i1 ∧ i1 ≤ nI n) ∧ (0 ≤ k1 ∧ k1 ≤ nI n - i1) := by
  obtain ⟨i, hi, rfl⟩ := nI_of h1
  obtain ⟨k, hk, rfl⟩ := nI_of h2
  rw [nI_64 hi, nI_64 hk, nI_64 (by omega), lI_add, l_lt, lI_toInt (by omega) (by omega), lI_toInt (by omega) (by omega)] at h3
  refine ⟨⟨nI_pos' hi, nI_le (by omega) (by omega)⟩, nI_pos' hk, ?_⟩
  rw [pk_sub (by omega)]
  exact nI_le (by omega) (by omega)
theorem hr_out {n : Nat} {i1 k1 : Int32} (hn : n ≤ 60) (h : (nI n).toInt64 < i1.toInt64 + k1.toInt64) : ¬ ((0 ≤ i1 ∧ i1 ≤ nI n) ∧ (0 ≤ k1 ∧ k1 ≤ nI n - i1)) := fun q => by
  obtain ⟨i, k, h1, rfl, rfl⟩ := hr_nat hn q
  rw [nI_64 (by omega), nI_64 (by omega), nI_64 (by omega), lI_add, l_lt, lI_toInt (by omega) (by omega), lI_toInt (by omega) (by omega)] at h
  omega
theorem hr_neg1 {n : Nat} {i1 k1 : Int32} (h : i1 < 0) : ¬ ((0 ≤ i1 ∧ i1 ≤ nI n) ∧ (0 ≤ k1 ∧ k1 ≤ nI n - i1)) := fun q => absurd h (i_nlt q.1.1)
theorem hr_neg2 {n : Nat} {i1 k1 : Int32} (h : k1 < 0) : ¬ ((0 ≤ i1 ∧ i1 ≤ nI n) ∧ (0 ≤ k1 ∧ k1 ≤ nI n - i1)) := fun q => absurd h (i_nlt q.2.1)
theorem ru_div2 {a kk f fe : Nat} (ha : a * kk ≤ 200000000) (hfe : fe ≤ 9) (hf : 10 ≤ f) (hf2 : f ≤ 10000) : lI (((a : Nat) : Int) * ((kk : Nat) : Int) + (((f : Nat) : Int) - ((fe : Nat) : Int)) - 1) / lI (((f : Nat) : Int) - ((fe : Nat) : Int)) = lI (((a * kk + (f - fe) - 1) / (f - fe) : Nat) : Int) := by
  have e1 : ((f : Nat) : Int) - ((fe : Nat) : Int) = ((f - fe : Nat) : Int) := by omega
  have e2 : ((a : Nat) : Int) * ((kk : Nat) : Int) = ((a * kk : Nat) : Int) := by rw [Int.natCast_mul]
  rw [e1, e2, show ((a * kk : Nat) : Int) + ((f - fe : Nat) : Int) - 1 = ((a * kk + (f - fe) - 1 : Nat) : Int) by omega]
  exact lI_div (by omega) (by omega) (by omega)
