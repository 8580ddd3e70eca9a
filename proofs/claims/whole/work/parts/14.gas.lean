/-! Gas, as the machine reckons it. -/
def gB (wt : Int32) (d : Nat) : Int64 := wt.toInt64 * (nI d).toInt64
def gG (wt md : Int32) (d pp : Nat) : Int64 := if gB wt d - md.toInt64 * (nI d - nI pp).toInt64 < 1 then 1 else gB wt d - md.toInt64 * (nI d - nI pp).toInt64
def gV (am wt md : Int32) (d pp : Nat) : Int64 := am.toInt64 * gB wt d / gG wt md d pp
def gH (am wt md : Int32) (d cap pp : Nat) : Int64 := if gV am wt md d pp / (nI cap).toInt64 < (nI pp).toInt64 then gV am wt md d pp / (nI cap).toInt64 else (nI pp).toInt64
def gT (am wt md : Int32) (d cap pp : Nat) : Int64 := (nI pp).toInt64 - gH am wt md d cap pp
def gC (am wt md : Int32) (d cap pp : Nat) : Int64 := if gG wt md d pp - md.toInt64 * gT am wt md d cap pp < 0 then 0 else gG wt md d pp - md.toInt64 * gT am wt md d cap pp
def gA (am wt md : Int32) (d cap sh pp : Nat) : Int64 := if gT am wt md d cap pp < (nI sh).toInt64 then (if pp < sh then gB wt d - md.toInt64 * (nI d - nI sh).toInt64 else gG wt md d pp) else gC am wt md d cap pp + md.toInt64 * (nI sh).toInt64
theorem gG_pos (wt md : Int32) (d pp : Nat) : (1 : Int64) ≤ gG wt md d pp := by
  unfold gG; split
  · exact (l_le _ _).mpr (Int.le_refl _)
  · rename_i h; rw [l_lt] at h; rw [l_le]; omega
theorem cap_pos {cap : Nat} (h : 1 ≤ cap) (h2 : cap < 2 ^ 31) : (1 : Int64) ≤ (nI cap).toInt64 := by
  rw [nI_64 h2, l_le, lI_toInt (by omega) (by omega)]
  have : (1 : Int64).toInt = 1 := by decide
  omega
def gM (am wt md : Int32) (d cap sh : Nat) (st0 : Int64) (pp : Nat) (wh : Int32) : Int64 := if wh = 0 then gG wt md d pp else if wh = 1 then gV am wt md d pp else if wh = 2 then gH am wt md d cap pp else if wh = 3 then gC am wt md d cap pp else if wh = 4 then gA am wt md d cap sh pp else if st0 < gA am wt md d cap sh pp then 1 else 0
theorem sw5n {x : Int32} (h : x.toInt < 0 ∨ 4 < x.toInt) : x ≠ 0 ∧ x ≠ 1 ∧ x ≠ 2 ∧ x ≠ 3 ∧ x ≠ 4 := by
  refine ⟨?_, ?_, ?_, ?_, ?_⟩ <;> (rintro rfl; revert h; decide)
/-- where V is the greatest, from q - 1 down; of like ones the first -/
def wg (V : Nat → Int64) : Nat → Int64 → Nat → Nat
  | 0, _, a => a
  | q + 1, g, a => if g < V q then wg V q (V q) q else wg V q g a
theorem wg_yes {V : Nat → Int64} {q a : Nat} {g : Int64} (h : 0 < q) (hc : g < V (q - 1)) : wg V q g a = wg V (q - 1) (V (q - 1)) (q - 1) := by
  obtain ⟨j, rfl⟩ : ∃ j, q = j + 1 := ⟨q - 1, by omega⟩
  rw [wg]; exact if_pos hc
theorem wg_no {V : Nat → Int64} {q a : Nat} {g : Int64} (h : 0 < q) (hc : ¬ g < V (q - 1)) : wg V q g a = wg V (q - 1) g a := by
  obtain ⟨j, rfl⟩ : ∃ j, q = j + 1 := ⟨q - 1, by omega⟩
  rw [wg]; exact if_neg hc
/-- the first that is so, from q - 1 down; -1 -/
def wb (B : Nat → Bool) : Nat → Int32
  | 0 => -1
  | q + 1 => if B q = true then nI q else wb B q
theorem wb_yes {B : Nat → Bool} {q : Nat} (h : 0 < q) (hc : B (q - 1) = true) : wb B q = nI (q - 1) := by
  obtain ⟨j, rfl⟩ : ∃ j, q = j + 1 := ⟨q - 1, by omega⟩
  rw [wb]; exact if_pos hc
theorem wb_no {B : Nat → Bool} {q : Nat} (h : 0 < q) (hc : ¬ B (q - 1) = true) : wb B q = wb B (q - 1) := by
  obtain ⟨j, rfl⟩ : ∃ j, q = j + 1 := ⟨q - 1, by omega⟩
  rw [wb]; exact if_neg hc
theorem wb_in {B : Nat → Bool} : ∀ {q : Nat}, q < 2 ^ 30 → wb B q = -1 ∨ ∃ k, k < q ∧ wb B q = nI k
  | 0, _ => Or.inl rfl
  | q + 1, h => by
    rw [wb]; split
    · exact Or.inr ⟨q, by omega, rfl⟩
    · rcases wb_in (B := B) (q := q) (by omega) with h | ⟨k, h1, h2⟩
      · exact Or.inl h
      · exact Or.inr ⟨k, by omega, h2⟩
theorem wb_ne {B : Nat → Bool} : ∀ {q k : Nat}, q < 2 ^ 30 → k < q → B k = true → wb B q ≠ -1
  | 0, _, _, h, _ => absurd h (Nat.not_lt_zero _)
  | q + 1, k, hq, hk, hb => by
    rw [wb]; split
    · intro e
      have := (i_eq _ _).mp e
      rw [nI_toInt (by omega)] at this
      have h1 : (-1 : Int32).toInt = -1 := by decide
      omega
    · rename_i h
      rcases Nat.lt_or_ge k q with z | z
      · exact wb_ne (by omega) z hb
      · exact absurd (by rw [show q = k by omega]; exact hb) h
/-- the greatest of 1 .. v of which B says -1; 0 -/
def gb (B : Nat → Int32) : Nat → Nat
  | 0 => 0
  | v + 1 => if B (v + 1) = -1 then v + 1 else gb B v
theorem gb_yes {B : Nat → Int32} {v : Nat} (h : 0 < v) (hc : B v = -1) : gb B v = v := by
  obtain ⟨j, rfl⟩ : ∃ j, v = j + 1 := ⟨v - 1, by omega⟩
  rw [gb, if_pos hc]
theorem gb_no {B : Nat → Int32} {v : Nat} (h : 0 < v) (hc : ¬ B v = -1) : gb B v = gb B (v - 1) := by
  obtain ⟨j, rfl⟩ : ∃ j, v = j + 1 := ⟨v - 1, by omega⟩
  rw [gb, if_neg hc]; rfl
theorem gb_le {B : Nat → Int32} : ∀ v, gb B v ≤ v
  | 0 => Nat.le_refl 0
  | v + 1 => by have := gb_le (B := B) v; rw [gb]; split <;> omega
/-- arrays of natural numbers -/
def nF (f : Nat → Nat) : Nat → Int32 := fun j => nI (f j)
def updN (f : Nat → Nat) (k v : Nat) : Nat → Nat := fun j => if j = k then v else f j
theorem nF_upd (f : Nat → Nat) (k v : Nat) : upd (nF f) k (nI v) = nF (updN f k v) := by
  funext j
  unfold upd nF updN
  split <;> rfl
