/-! The ground: what stands for a PIECE, the window of MUDS. -/
def gN (it : Nat → Int32) (n df : Nat) : Nat → Nat
  | 0 => df
  | k + 1 => if k < n ∧ (0 ≤ it k ∧ it k ≤ 3000) then (it k).toNatClampNeg else gN it n df k
theorem gN_le {it : Nat → Int32} {n df : Nat} (hd : df ≤ 3000) : ∀ k, gN it n df k ≤ 3000
  | 0 => hd
  | k + 1 => by
    rw [gN]
    by_cases h : k < n ∧ (0 ≤ it k ∧ it k ≤ 3000)
    · rw [if_pos h]
      obtain ⟨j, hj, e⟩ := nat_of (hi := 3000) (n := 3000) (by decide) h.2
      rw [e, nI_clamp (by omega)]; exact hj
    · rw [if_neg h]; exact gN_le hd k
theorem gN_hit {it : Nat → Int32} {n df q : Nat} (h : 0 < q) (hq : q ≤ n) (hc : 0 ≤ it (q - 1) ∧ it (q - 1) ≤ 3000) : it (q - 1) = nI (gN it n df q) := by
  obtain ⟨j, rfl⟩ : ∃ j, q = j + 1 := ⟨q - 1, by omega⟩
  rw [gN, if_pos ⟨by omega, hc⟩]
  obtain ⟨k, hk, e⟩ := nat_of (hi := 3000) (n := 3000) (by decide) hc
  have e2 : it j = nI k := e
  show it j = nI (it j).toNatClampNeg
  rw [e2, nI_clamp (by omega)]
theorem gN_miss {it : Nat → Int32} {n df q : Nat} (h : 0 < q) (hc : ¬ (0 ≤ it (q - 1) ∧ it (q - 1) ≤ 3000)) : gN it n df q = gN it n df (q - 1) := by
  obtain ⟨j, rfl⟩ : ∃ j, q = j + 1 := ⟨q - 1, by omega⟩
  rw [gN, if_neg (fun x => hc x.2)]; rfl
theorem gN_skip {it : Nat → Int32} {n df k : Nat} (h : n ≤ k) : gN it n df (k + 1) = gN it n df k := by
  rw [gN, if_neg (fun x => by omega)]
theorem gN_over {it : Nat → Int32} {n df : Nat} : ∀ j, gN it n df (n + j) = gN it n df n
  | 0 => rfl
  | j + 1 => by rw [← Nat.add_assoc, gN_skip (by omega), gN_over j]
theorem gN_min {it : Nat → Int32} {n df k : Nat} : gN it n df k = gN it n df (min k n) := by
  rcases Nat.le_total k n with h | h
  · rw [Nat.min_eq_left h]
  · rw [Nat.min_eq_right h, ← gN_over (k - n)]; congr 1; omega
theorem gN_cong {it it' : Nat → Int32} {n df : Nat} (h : ∀ k, k < n → it k = it' k) : ∀ k, gN it n df k = gN it' n df k
  | 0 => rfl
  | k + 1 => by
    rw [gN, gN, gN_cong h k]
    by_cases q : k < n
    · rw [h k q]
    · rw [if_neg (fun x => q x.1), if_neg (fun x => q x.1)]
theorem st_min {n i : Nat} (hn : n < 2 ^ 30) (hi : i < 2 ^ 30) : (if ((nI n) - 1) < (nI i) then ((nI n) - 1) else (nI i)) = nI (min (i + 1) n) - 1 := by
  by_cases h : n ≤ i
  · rw [if_pos ((m1_gt (by omega) (by omega)).mpr h), Nat.min_eq_right (by omega)]
  · rw [if_neg (fun q => h ((m1_gt (by omega) (by omega)).mp q)), Nat.min_eq_left (by omega)]
    exact (nI_pred i).symm
def po (it : Nat → Int32) (n k : Nat) : Nat := gN it n 0 (k + 1)
def fr (it : Nat → Int32) (n k : Nat) : Nat := gN it n 3000 (k + 1)
theorem po_le (it : Nat → Int32) (n k : Nat) : po it n k ≤ 3000 := gN_le (by omega) _
theorem fr_le (it : Nat → Int32) (n k : Nat) : fr it n k ≤ 3000 := gN_le (by omega) _
def wl (f : Nat → Nat) (low i : Nat) (a : Int) : Nat → Int
  | 0 => a
  | n + 1 => max (wl f low i a n) ((f (i + n) : Int) + (low : Int))
def wh (f : Nat → Nat) (high i : Nat) (b : Int) : Nat → Int
  | 0 => b
  | n + 1 => min (wh f high i b n) ((f (i + n) : Int) - (high : Int))
theorem wl_up {f : Nat → Nat} {low i : Nat} {a : Int} (hf : ∀ k, f k ≤ 3000) (hl : low ≤ 500) : ∀ n, a ≤ wl f low i a n ∧ wl f low i a n ≤ max a 3500
  | 0 => ⟨Int.le_refl _, by rw [wl]; omega⟩
  | n + 1 => by
    have h := wl_up (i := i) (a := a) hf hl n
    have h2 := hf (i + n)
    rw [wl]; omega
theorem wh_up {f : Nat → Nat} {high i : Nat} {b : Int} (hf : ∀ k, f k ≤ 3000) (hl : high ≤ 500) : ∀ n, wh f high i b n ≤ b ∧ min b (-500) ≤ wh f high i b n
  | 0 => ⟨Int.le_refl _, by rw [wh]; omega⟩
  | n + 1 => by
    have h := wh_up (i := i) (b := b) hf hl n
    have h2 := hf (i + n)
    rw [wh]; omega
