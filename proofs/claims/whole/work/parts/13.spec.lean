/-! What the calls answer, by plain functions. -/
/-- the first k of i, i + 1, .. (n of them) that is not so; -1 -/
def scanUp (P : Nat → Bool) : Nat → Nat → Int32
  | _, 0 => -1
  | i, n + 1 => if P i = true then scanUp P (i + 1) n else nI i
def hold (it0 it1 : Nat → Int32) (n0 n1 low high m k : Nat) : Bool := decide (po it0 n0 k + low ≤ m ∧ m + high ≤ fr it1 n1 k)
theorem scanUp_step {P : Nat → Bool} {i n : Nat} (h : 0 < n) : scanUp P i n = if P i = true then scanUp P (i + 1) (n - 1) else nI i := by
  obtain ⟨j, rfl⟩ : ∃ j, n = j + 1 := ⟨n - 1, by omega⟩
  rfl
/-- the greatest of f i, f (i + 1), .. (n of them); 0 -/
def hp (f : Nat → Nat) (i : Nat) : Nat → Nat
  | 0 => 0
  | n + 1 => max (hp f i n) (f (i + n))
theorem hp_le {f : Nat → Nat} {i : Nat} (hf : ∀ k, f k ≤ 3000) : ∀ n, hp f i n ≤ 3000
  | 0 => by rw [hp]; omega
  | n + 1 => by have h := hp_le (i := i) hf n; have h2 := hf (i + n); rw [hp]; omega
/-- the greatest of 1 .. v that is so; 0 -/
def grt (q : Nat → Bool) : Nat → Nat
  | 0 => 0
  | v + 1 => if q (v + 1) = true then v + 1 else grt q v
theorem grt_le {q : Nat → Bool} : ∀ v, grt q v ≤ v
  | 0 => Nat.le_refl 0
  | v + 1 => by have := grt_le (q := q) v; rw [grt]; split <;> omega
theorem grt_yes {q : Nat → Bool} {v : Nat} (h : 0 < v) (hq : q v = true) : grt q v = v := by
  obtain ⟨j, rfl⟩ : ∃ j, v = j + 1 := ⟨v - 1, by omega⟩
  rw [grt, if_pos hq]
theorem grt_no {q : Nat → Bool} {v : Nat} (h : 0 < v) (hq : ¬ q v = true) : grt q v = grt q (v - 1) := by
  obtain ⟨j, rfl⟩ : ∃ j, v = j + 1 := ⟨v - 1, by omega⟩
  rw [grt, if_neg hq]; rfl
def safe (sw m b : Nat) (pz : Int) (v : Nat) : Bool := decide (pz ≤ (m : Int) - ((sw * v * b / 1000 : Nat) : Int))
def ss (sw m b : Nat) (pz : Int) : Nat := grt (safe sw m b pz) 9
theorem ss_le (sw m b : Nat) (pz : Int) : ss sw m b pz ≤ 9 := grt_le 9
theorem prod_le {sw v b : Nat} (h1 : sw ≤ 1000) (h2 : v ≤ 9) (h3 : b ≤ 50) : sw * v * b ≤ 450000 := Nat.le_trans (Nat.mul_le_mul (Nat.mul_le_mul h1 h2) h3) (by decide)
/-- the trip from b on, with so much time behind it -/
def tt (s : Nat → Nat) : Nat → Nat → Int
  | 0, acc => acc
  | b + 1, acc => if s (b + 1) = 0 then -1000 - ((b + 1 : Nat) : Int) else tt s b (acc + (359 + s (b + 1)) / s (b + 1))
theorem tt_stop {s : Nat → Nat} {b acc : Nat} (h : 0 < b) (hs : s b = 0) : tt s b acc = -1000 - (b : Int) := by
  obtain ⟨j, rfl⟩ : ∃ j, b = j + 1 := ⟨b - 1, by omega⟩
  rw [tt, if_pos hs]
theorem tt_go {s : Nat → Nat} {b acc : Nat} (h : 0 < b) (hs : s b ≠ 0) : tt s b acc = tt s (b - 1) (acc + (359 + s b) / s b) := by
  obtain ⟨j, rfl⟩ : ∃ j, b = j + 1 := ⟨b - 1, by omega⟩
  rw [tt, if_neg hs]; rfl
theorem ru360 : ∀ v, v ≤ 9 → v ≠ 0 → ((360 : Int64) + lI ((v : Nat) : Int) - 1) / lI ((v : Nat) : Int) = lI (((359 + v) / v : Nat) : Int) := by decide +kernel
theorem cd360 : ∀ v, v ≤ 9 → v ≠ 0 → 1 ≤ lI ((v : Nat) : Int) := by decide +kernel
def trip (sw d m : Nat) (pz : Int) : Int := tt (fun b => ss sw m b pz) d 0
theorem q9 : ∀ v, v ≤ 9 → v ≠ 0 → (359 + v) / v ≤ 360 := by decide +kernel
theorem tt_rng {s : Nat → Nat} (hs : ∀ b, s b ≤ 9) : ∀ (b acc : Nat), b ≤ 50 → acc + 360 * b ≤ 18000 → -1050 ≤ tt s b acc ∧ tt s b acc ≤ 18000
  | 0, acc, _, h => by rw [tt]; omega
  | b + 1, acc, hb, h => by
    rw [tt]
    by_cases h0 : s (b + 1) = 0
    · rw [if_pos h0]; omega
    · rw [if_neg h0]
      have h9 := q9 (s (b + 1)) (hs _) h0
      exact tt_rng hs b _ (by omega) (by omega)
theorem trip_rng {sw d m : Nat} {pz : Int} (hd : d ≤ 50) : -1050 ≤ trip sw d m pz ∧ trip sw d m pz ≤ 18000 := tt_rng (fun b => ss_le sw m b pz) d 0 hd (by omega)
def strg (it1 : Nat → Int32) (n1 sh : Nat) : Int64 := if sh = 0 then 9223372036854775807 else (nI (fr it1 n1 (sh - 1))).toInt64 * (nI sh).toInt64
/-- the heaviest PORE of the PIECES from s to k; the least int without any -/
def hpz (it0 : Nat → Int32) (n0 sh k : Nat) : Int := if sh < k then (hp (po it0 n0) sh (k - sh) : Int) else -2147483648
theorem hpz_0 (it0 : Nat → Int32) (n0 sh : Nat) : iI (hpz it0 n0 sh sh) = -2147483648 := by rw [hpz, if_neg (by omega)]; decide
theorem hpz_rng (it0 : Nat → Int32) (n0 sh k : Nat) : -2147483648 ≤ hpz it0 n0 sh k ∧ hpz it0 n0 sh k ≤ 3000 := by
  have h := hp_le (i := sh) (po_le it0 n0) (k - sh)
  unfold hpz; split <;> omega
theorem hpz_s (it0 : Nat → Int32) (n0 : Nat) {sh k : Nat} (h : sh ≤ k) : (if iI (hpz it0 n0 sh k) < nI (po it0 n0 k) then nI (po it0 n0 k) else iI (hpz it0 n0 sh k)) = iI (hpz it0 n0 sh (k + 1)) := by
  have h1 := hpz_rng it0 n0 sh k
  have h2 := po_le it0 n0 k
  have e : iI (hpz it0 n0 sh k) < nI (po it0 n0 k) ↔ hpz it0 n0 sh k < (po it0 n0 k : Int) := by rw [i_lt, iI_toInt (by omega) (by omega), nI_toInt (by omega)]
  have e2 : hpz it0 n0 sh (k + 1) = max (hpz it0 n0 sh k) (po it0 n0 k : Int) := by
    unfold hpz
    rw [if_pos (show sh < k + 1 by omega), show k + 1 - sh = (k - sh) + 1 by omega, hp, show sh + (k - sh) = k by omega]
    by_cases q : sh < k
    · rw [if_pos q]; omega
    · rw [if_neg q, show k - sh = 0 by omega, hp]; omega
  by_cases q : hpz it0 n0 sh k < (po it0 n0 k : Int)
  · rw [if_pos (e.mpr q), e2, ← iI_nat]; congr 1; omega
  · rw [if_neg (fun x => q (e.mp x)), e2]; congr 1; omega
