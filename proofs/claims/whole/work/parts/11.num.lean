/-! Numbers. -/
theorem bz {P : Prop} [Decidable P] (h : (if P then (1 : Int32) else 0) = 0) : ¬ P := fun p => by rw [if_pos p] at h; exact absurd h (by decide)
theorem bnz {P : Prop} [Decidable P] (h : ¬ (if P then (1 : Int32) else 0) = 0) : P := Classical.byContradiction fun p => h (by rw [if_neg p])
theorem nar_b {P : Prop} [Decidable P] : narrow .boolean (.int (if P then (1 : Int32) else 0)) = .int (if P then (1 : Int32) else 0) := by
  by_cases h : P
  · rw [if_pos h]; rfl
  · rw [if_neg h]; rfl
theorem b_congr {P P' : Prop} [Decidable P] [Decidable P'] (h : P ↔ P') : (if P then (1 : Int32) else 0) = if P' then 1 else 0 := by
  by_cases p : P
  · rw [if_pos p, if_pos (h.mp p)]
  · rw [if_neg p, if_neg (fun q => p (h.mpr q))]
theorem b_1 {P : Prop} [Decidable P] (h : P) : (1 : Int32) = if P then 1 else 0 := by rw [if_pos h]
theorem b_0 {P : Prop} [Decidable P] (h : ¬ P) : (0 : Int32) = if P then 1 else 0 := by rw [if_neg h]
theorem iinc_m1 {k : Nat} (h : 1 ≤ k) : nI k + Int32.ofInt (-1) = nI (k - 1) := by
  obtain ⟨j, rfl⟩ : ∃ j, k = j + 1 := ⟨k - 1, by omega⟩
  exact pk_m1 j
theorem i_lt (a b : Int32) : a < b ↔ a.toInt < b.toInt := Int32.lt_iff_toInt_lt
theorem i_le (a b : Int32) : a ≤ b ↔ a.toInt ≤ b.toInt := Int32.le_iff_toInt_le
theorem i_eq (a b : Int32) : a = b ↔ a.toInt = b.toInt := Int32.toInt_inj.symm
theorem l_lt (a b : Int64) : a < b ↔ a.toInt < b.toInt := Int64.lt_iff_toInt_lt
theorem l_le (a b : Int64) : a ≤ b ↔ a.toInt ≤ b.toInt := Int64.le_iff_toInt_le
theorem l_eq (a b : Int64) : a = b ↔ a.toInt = b.toInt := Int64.toInt_inj.symm
-- comparisons of natural numbers
theorem n_lt {a b : Nat} (h : nI a < nI b) (ha : a < 2 ^ 31) (hb : b < 2 ^ 31) : a < b := (nI_ltI ha hb).mp h
theorem n_nlt {a b : Nat} (h : ¬ nI a < nI b) (ha : a < 2 ^ 31) (hb : b < 2 ^ 31) : b ≤ a := Nat.not_lt.mp fun q => h ((nI_ltI ha hb).mpr q)
theorem n_ge {a b : Nat} (h : nI b ≤ nI a) (ha : a < 2 ^ 31) (hb : b < 2 ^ 31) : b ≤ a := (nI_leI hb ha).mp h
theorem n_nge {a b : Nat} (h : ¬ nI b ≤ nI a) (ha : a < 2 ^ 31) (hb : b < 2 ^ 31) : a < b := Nat.not_le.mp fun q => h ((nI_leI hb ha).mpr q)
theorem n_gt {a b : Nat} (h : nI b < nI a) (ha : a < 2 ^ 31) (hb : b < 2 ^ 31) : b < a := (nI_ltI hb ha).mp h
theorem n_ngt {a b : Nat} (h : ¬ nI b < nI a) (ha : a < 2 ^ 31) (hb : b < 2 ^ 31) : a ≤ b := Nat.not_lt.mp fun q => h ((nI_ltI hb ha).mpr q)
theorem n_le {a b : Nat} (h : nI a ≤ nI b) (ha : a < 2 ^ 31) (hb : b < 2 ^ 31) : a ≤ b := (nI_leI ha hb).mp h
theorem n_nle {a b : Nat} (h : ¬ nI a ≤ nI b) (ha : a < 2 ^ 31) (hb : b < 2 ^ 31) : b < a := Nat.not_le.mp fun q => h ((nI_leI ha hb).mpr q)
theorem n_eq {a b : Nat} (h : nI a = nI b) (ha : a < 2 ^ 31) (hb : b < 2 ^ 31) : a = b := (nI_eq ha hb).mp h
theorem n_ne {a b : Nat} (h : ¬ nI a = nI b) (ha : a < 2 ^ 31) (hb : b < 2 ^ 31) : a ≠ b := fun q => h ((nI_eq ha hb).mpr q)
-- comparisons of integers
theorem z_lt {x y : Int32} {a b : Int} (h : x < y) (hx : x.toInt = a) (hy : y.toInt = b) : a < b := by rw [i_lt, hx, hy] at h; exact h
theorem z_nlt {x y : Int32} {a b : Int} (h : ¬ x < y) (hx : x.toInt = a) (hy : y.toInt = b) : b ≤ a := by rw [i_lt, hx, hy] at h; omega
theorem z_ge {x y : Int32} {a b : Int} (h : y ≤ x) (hx : x.toInt = a) (hy : y.toInt = b) : b ≤ a := by rw [i_le, hx, hy] at h; exact h
theorem z_nge {x y : Int32} {a b : Int} (h : ¬ y ≤ x) (hx : x.toInt = a) (hy : y.toInt = b) : a < b := by rw [i_le, hx, hy] at h; omega
theorem z_gt {x y : Int32} {a b : Int} (h : y < x) (hx : x.toInt = a) (hy : y.toInt = b) : b < a := by rw [i_lt, hx, hy] at h; exact h
theorem z_ngt {x y : Int32} {a b : Int} (h : ¬ y < x) (hx : x.toInt = a) (hy : y.toInt = b) : a ≤ b := by rw [i_lt, hx, hy] at h; omega
theorem z_le {x y : Int32} {a b : Int} (h : x ≤ y) (hx : x.toInt = a) (hy : y.toInt = b) : a ≤ b := by rw [i_le, hx, hy] at h; exact h
theorem z_nle {x y : Int32} {a b : Int} (h : ¬ x ≤ y) (hx : x.toInt = a) (hy : y.toInt = b) : b < a := by rw [i_le, hx, hy] at h; omega
theorem z_eq {x y : Int32} {a b : Int} (h : x = y) (hx : x.toInt = a) (hy : y.toInt = b) : a = b := by rw [i_eq, hx, hy] at h; exact h
theorem z_ne {x y : Int32} {a b : Int} (h : ¬ x = y) (hx : x.toInt = a) (hy : y.toInt = b) : a ≠ b := by rw [i_eq, hx, hy] at h; exact h
theorem y_lt {x y : Int64} {a b : Int} (h : x < y) (hx : x.toInt = a) (hy : y.toInt = b) : a < b := by rw [l_lt, hx, hy] at h; exact h
theorem y_nlt {x y : Int64} {a b : Int} (h : ¬ x < y) (hx : x.toInt = a) (hy : y.toInt = b) : b ≤ a := by rw [l_lt, hx, hy] at h; omega
theorem y_ge {x y : Int64} {a b : Int} (h : y ≤ x) (hx : x.toInt = a) (hy : y.toInt = b) : b ≤ a := by rw [l_le, hx, hy] at h; exact h
theorem y_nge {x y : Int64} {a b : Int} (h : ¬ y ≤ x) (hx : x.toInt = a) (hy : y.toInt = b) : a < b := by rw [l_le, hx, hy] at h; omega
theorem y_gt {x y : Int64} {a b : Int} (h : y < x) (hx : x.toInt = a) (hy : y.toInt = b) : b < a := by rw [l_lt, hx, hy] at h; exact h
theorem y_ngt {x y : Int64} {a b : Int} (h : ¬ y < x) (hx : x.toInt = a) (hy : y.toInt = b) : a ≤ b := by rw [l_lt, hx, hy] at h; omega
theorem y_le {x y : Int64} {a b : Int} (h : x ≤ y) (hx : x.toInt = a) (hy : y.toInt = b) : a ≤ b := by rw [l_le, hx, hy] at h; exact h
theorem y_nle {x y : Int64} {a b : Int} (h : ¬ x ≤ y) (hx : x.toInt = a) (hy : y.toInt = b) : b < a := by rw [l_le, hx, hy] at h; omega
-- integers as the machine has them
def iI (z : Int) : Int32 := Int32.ofInt z
def lI (z : Int) : Int64 := Int64.ofInt z
theorem iI_toInt {z : Int} (h1 : -2147483648 ≤ z) (h2 : z < 2147483648) : (iI z).toInt = z := Int32.toInt_ofInt_of_le (by simpa using h1) (by simpa using h2)
theorem lI_toInt {z : Int} (h1 : -9223372036854775808 ≤ z) (h2 : z < 9223372036854775808) : (lI z).toInt = z := Int64.toInt_ofInt_of_le (by simpa using h1) (by simpa using h2)
theorem iI_nat (n : Nat) : iI (n : Int) = nI n := Int32.ofInt_eq_ofNat
theorem iI_add (a b : Int) : iI a + iI b = iI (a + b) := (Int32.ofInt_add a b).symm
theorem iI_sub (a b : Int) : iI a - iI b = iI (a - b) := (Int32.ofInt_sub a b).symm
theorem iI_mul (a b : Int) : iI a * iI b = iI (a * b) := (Int32.ofInt_mul a b).symm
theorem lI_add (a b : Int) : lI a + lI b = lI (a + b) := (Int64.ofInt_add a b).symm
theorem lI_sub (a b : Int) : lI a - lI b = lI (a - b) := (Int64.ofInt_sub a b).symm
theorem lI_mul (a b : Int) : lI a * lI b = lI (a * b) := (Int64.ofInt_mul a b).symm
theorem nI_subz (a b : Nat) : nI a - nI b = iI ((a : Int) - b) := by rw [← iI_nat, ← iI_nat, iI_sub]
theorem nI_64 {a : Nat} (h : a < 2 ^ 31) : (nI a).toInt64 = lI a := Int64.toInt_inj.mp (by rw [Int32.toInt_toInt64, nI_toInt h, lI_toInt (by omega) (by omega)])
theorem iI_64 {z : Int} (h1 : -2147483648 ≤ z) (h2 : z < 2147483648) : (iI z).toInt64 = lI z := Int64.toInt_inj.mp (by rw [Int32.toInt_toInt64, iI_toInt h1 h2, lI_toInt (by omega) (by omega)])
theorem lI_32 (z : Int) : (lI z).toInt32 = iI z := Int64.toInt32_ofInt
theorem iI_of (x : Int32) : iI x.toInt = x := Int32.ofInt_toInt x
theorem lI_of (x : Int64) : lI x.toInt = x := Int64.ofInt_toInt x
theorem i_rng (x : Int32) : -2147483648 ≤ x.toInt ∧ x.toInt < 2147483648 := ⟨by have := Int32.le_toInt x; simpa using this, by have := Int32.toInt_lt x; simpa using this⟩
theorem nat_of {x : Int32} {hi : Int32} {n : Nat} (hn : hi.toInt = n) (h : 0 ≤ x ∧ x ≤ hi) : ∃ k : Nat, k ≤ n ∧ x = nI k := by
  have h1 := (i_le _ _).mp h.1
  have h2 := (i_le _ _).mp h.2
  rw [hn] at h2
  have h0 : (0 : Int32).toInt = 0 := by decide
  rw [h0] at h1
  have hr := i_rng x
  refine ⟨x.toInt.toNat, by omega, Int32.toInt_inj.mp ?_⟩
  rw [nI_toInt (by omega)]
  omega
theorem nat_of1 {x : Int32} {lo hi : Int32} {a n : Nat} (hl : lo.toInt = a) (hn : hi.toInt = n) (h : lo ≤ x ∧ x ≤ hi) : ∃ k : Nat, a ≤ k ∧ k ≤ n ∧ x = nI k := by
  have h1 := (i_le _ _).mp h.1
  have h2 := (i_le _ _).mp h.2
  rw [hn] at h2
  rw [hl] at h1
  have hr := i_rng x
  refine ⟨x.toInt.toNat, by omega, by omega, Int32.toInt_inj.mp ?_⟩
  rw [nI_toInt (by omega)]
  omega
theorem m1_lt {q : Nat} (h : q < 2 ^ 31) : nI q - 1 < 0 ↔ q = 0 := by
  have e : nI q - 1 = iI ((q : Int) - 1) := nI_subz q 1
  rw [e, i_lt, iI_toInt (by omega) (by omega)]
  have h0 : (0 : Int32).toInt = 0 := by decide
  rw [h0]; omega
theorem m1_gt {e k : Nat} (he : e < 2 ^ 31) (hk : k < 2 ^ 31) : nI e - 1 < nI k ↔ e ≤ k := by
  have h : nI e - 1 = iI ((e : Int) - 1) := nI_subz e 1
  rw [h, i_lt, iI_toInt (by omega) (by omega), nI_toInt hk]; omega
theorem m1_n {q : Nat} (h : 0 < q) : nI q - 1 = nI (q - 1) := by
  obtain ⟨j, rfl⟩ : ∃ j, q = j + 1 := ⟨q - 1, by omega⟩
  exact nI_pred j
theorem m1_m {q : Nat} : nI q + Int32.ofInt (-1) = nI q - 1 := by
  have : Int32.ofInt (-1) = -1 := by decide
  rw [this, Int32.sub_eq_add_neg]
theorem in_1 {x lo hi : Int32} (h1 : ¬ x < lo) (h2 : ¬ hi < x) : lo ≤ x ∧ x ≤ hi := by
  rw [i_lt] at h1 h2
  rw [i_le, i_le]; omega
theorem in_0a {x lo hi : Int32} (h : x < lo) : ¬ (lo ≤ x ∧ x ≤ hi) := by
  rw [i_lt] at h
  rw [i_le, i_le]; omega
theorem in_0b {x lo hi : Int32} (h : hi < x) : ¬ (lo ≤ x ∧ x ≤ hi) := by
  rw [i_lt] at h
  rw [i_le, i_le]; omega
theorem mx_l {a x : Int} (ha : -9223372036854775808 ≤ a ∧ a < 9223372036854775808) (hx : -9223372036854775808 ≤ x ∧ x < 9223372036854775808) : (if lI x < lI a then lI a else lI x) = lI (max a x) := by
  have e : lI x < lI a ↔ x < a := by rw [l_lt, lI_toInt ha.1 ha.2, lI_toInt hx.1 hx.2]
  by_cases h : x < a
  · rw [if_pos (e.mpr h)]; congr 1; omega
  · rw [if_neg (fun q => h (e.mp q))]; congr 1; omega
theorem mn_l {a x : Int} (ha : -9223372036854775808 ≤ a ∧ a < 9223372036854775808) (hx : -9223372036854775808 ≤ x ∧ x < 9223372036854775808) : (if lI x < lI a then lI x else lI a) = lI (min a x) := by
  have e : lI x < lI a ↔ x < a := by rw [l_lt, lI_toInt ha.1 ha.2, lI_toInt hx.1 hx.2]
  by_cases h : x < a
  · rw [if_pos (e.mpr h)]; congr 1; omega
  · rw [if_neg (fun q => h (e.mp q))]; congr 1; omega
theorem sw5 (x : Int32) : x = 0 ∨ x = 1 ∨ x = 2 ∨ x = 3 ∨ x = 4 ∨ (x.toInt < 0 ∨ 4 < x.toInt) := by
  have e0 : (0 : Int32).toInt = 0 := by decide
  have e1 : (1 : Int32).toInt = 1 := by decide
  have e2 : (2 : Int32).toInt = 2 := by decide
  have e3 : (3 : Int32).toInt = 3 := by decide
  have e4 : (4 : Int32).toInt = 4 := by decide
  simp only [i_eq, e0, e1, e2, e3, e4]; omega
theorem sw8 (x : Int32) : x = 0 ∨ x = 1 ∨ x = 2 ∨ x = 3 ∨ x = 4 ∨ x = 5 ∨ x = 6 ∨ x = 7 ∨ (x.toInt < 0 ∨ 7 < x.toInt) := by
  have e0 : (0 : Int32).toInt = 0 := by decide
  have e1 : (1 : Int32).toInt = 1 := by decide
  have e2 : (2 : Int32).toInt = 2 := by decide
  have e3 : (3 : Int32).toInt = 3 := by decide
  have e4 : (4 : Int32).toInt = 4 := by decide
  have e5 : (5 : Int32).toInt = 5 := by decide
  have e6 : (6 : Int32).toInt = 6 := by decide
  have e7 : (7 : Int32).toInt = 7 := by decide
  simp only [i_eq, e0, e1, e2, e3, e4, e5, e6, e7]; omega
