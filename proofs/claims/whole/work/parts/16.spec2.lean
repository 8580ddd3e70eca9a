/-! More of what the calls answer. -/
/-- the first of i, i + 1, .. (n of them) that is so; -3 -/
def fst1 (ok : Nat → Bool) : Nat → Nat → Int32
  | _, 0 => -3
  | i, n + 1 => if ok i = true then nI i else fst1 ok (i + 1) n
theorem fst1_step {ok : Nat → Bool} {i n : Nat} (h : 0 < n) : fst1 ok i n = if ok i = true then nI i else fst1 ok (i + 1) (n - 1) := by
  obtain ⟨j, rfl⟩ : ∃ j, n = j + 1 := ⟨n - 1, by omega⟩
  rfl
theorem fst1_at {ok : Nat → Bool} {x : Nat} (hx : ok x = true) : ∀ (n i : Nat), i ≤ x → x < i + n → (∀ m, i ≤ m → m < x → ok m = false) → fst1 ok i n = nI x
  | 0, i, h1, h2, _ => absurd h2 (by omega)
  | n + 1, i, h1, h2, h3 => by
    rw [fst1]
    rcases Nat.lt_or_ge i x with q | q
    · rw [if_neg (by rw [h3 i (Nat.le_refl i) q]; decide)]
      exact fst1_at hx n (i + 1) q (by omega) (fun m a b => h3 m (by omega) b)
    · obtain rfl : i = x := by omega
      rw [if_pos hx]
theorem fst1_none {ok : Nat → Bool} : ∀ (n i : Nat), (∀ m, i ≤ m → m < i + n → ok m = false) → fst1 ok i n = -3
  | 0, _, _ => rfl
  | n + 1, i, h => by
    rw [fst1, if_neg (by rw [h i (Nat.le_refl i) (by omega)]; decide)]
    exact fst1_none n (i + 1) (fun m a b => h m (by omega) (by omega))
def inTime (sw d t0 : Nat) (pz : Int) (m : Nat) : Bool := decide (0 ≤ trip sw d m pz ∧ trip sw d m pz ≤ (t0 : Int))
theorem grt_mono {q q' : Nat → Bool} (h : ∀ v, q v = true → q' v = true) : ∀ n, grt q n ≤ grt q' n
  | 0 => Nat.le_refl 0
  | n + 1 => by
    rw [grt, grt]
    by_cases a : q (n + 1) = true
    · rw [if_pos a, if_pos (h _ a)]; exact Nat.le_refl _
    · rw [if_neg a]
      split
      · exact Nat.le_trans (grt_le n) (by omega)
      · exact grt_mono h n
theorem ss_mono {sw b : Nat} {pz : Int} {m m' : Nat} (h : m ≤ m') : ss sw m b pz ≤ ss sw m' b pz := grt_mono (fun v hv => by
  have := of_decide_eq_true hv
  exact decide_eq_true (by omega)) 9
theorem q9m : ∀ v, v ≤ 9 → ∀ w, w ≤ 9 → v ≠ 0 → v ≤ w → (359 + w) / w ≤ (359 + v) / v := by decide +kernel
theorem tt_mono {s s' : Nat → Nat} (h9 : ∀ b, s' b ≤ 9) (hs : ∀ b, s b ≤ s' b) : ∀ (b acc acc' : Nat), acc' ≤ acc → 0 ≤ tt s b acc → 0 ≤ tt s' b acc' ∧ tt s' b acc' ≤ tt s b acc
  | 0, acc, acc', h, h0 => by rw [tt, tt]; omega
  | b + 1, acc, acc', h, h0 => by
    rw [tt] at h0
    by_cases z : s (b + 1) = 0
    · rw [if_pos z] at h0; omega
    · rw [if_neg z] at h0
      have z' : s' (b + 1) ≠ 0 := by have := hs (b + 1); omega
      rw [tt, tt, if_neg z, if_neg z']
      have := q9m (s (b + 1)) (Nat.le_trans (hs _) (h9 _)) (s' (b + 1)) (h9 _) z (hs _)
      exact tt_mono h9 hs b _ _ (by omega) h0
theorem inTime_mono {sw d t0 : Nat} {pz : Int} {m m' : Nat} (h : m ≤ m') (hm : inTime sw d t0 pz m = true) : inTime sw d t0 pz m' = true := by
  have := of_decide_eq_true hm
  have h2 := tt_mono (s := fun b => ss sw m b pz) (s' := fun b => ss sw m' b pz) (fun b => ss_le sw m' b pz) (fun b => ss_mono h) d 0 0 (Nat.le_refl 0) this.1
  exact decide_eq_true ⟨h2.1, Int.le_trans h2.2 this.2⟩
/-- a row of two more, at most so many -/
def addN (cap : Nat) (st : Nat × (Nat → Nat) × (Nat → Nat)) (x y : Nat) : Nat × (Nat → Nat) × (Nat → Nat) := if st.1 < cap then (st.1 + 1, updN st.2.1 st.1 x, updN st.2.2 st.1 y) else st
/-- a station more -/
def goP (st : Nat × (Nat → Int32) × (Nat → Int32)) (t : Nat) (side : Int32) : Nat × (Nat → Int32) × (Nat → Int32) := if st.1 < 40 then (st.1 + 1, upd st.2.1 (st.1 + 1) (st.2.1 st.1 + side * asd t), upd st.2.2 (st.1 + 1) (st.2.2 st.1 + dwn t)) else st
/-- squares of distances, and the nearest -/
def dsq (xs ys xs' ys' : Nat → Int32) (i j : Nat) : Int64 := (xs i - xs' j).toInt64 * (xs i - xs' j).toInt64 + (ys i - ys' j).toInt64 * (ys i - ys' j).toInt64
def nst (Df : Nat → Nat → Int64) (i j : Nat) (st : Int64 × Int32 × Int32) : Int64 × Int32 × Int32 := if Df i j < st.1 then (Df i j, nI i, nI j) else st
def nrow (Df : Nat → Nat → Int64) (i : Nat) : Nat → Nat → Int64 × Int32 × Int32 → Int64 × Int32 × Int32
  | _, 0, st => st
  | j, n + 1, st => nrow Df i (j + 1) n (nst Df i j st)
def nj0 (i : Nat) : Nat := if i = 0 then 1 else 0
def ncol (Df : Nat → Nat → Int64) (n1 : Nat) : Nat → Nat → Int64 × Int32 × Int32 → Int64 × Int32 × Int32
  | _, 0, st => st
  | i, n + 1, st => ncol Df n1 (i + 1) n (nrow Df i (nj0 i) (n1 + 1 - nj0 i) st)
theorem nrow_step {Df : Nat → Nat → Int64} {i j n : Nat} {st : Int64 × Int32 × Int32} (h : 0 < n) : nrow Df i j n st = nrow Df i (j + 1) (n - 1) (nst Df i j st) := by
  obtain ⟨k, rfl⟩ : ∃ k, n = k + 1 := ⟨n - 1, by omega⟩
  rfl
theorem ncol_step {Df : Nat → Nat → Int64} {n1 i n : Nat} {st : Int64 × Int32 × Int32} (h : 0 < n) : ncol Df n1 i n st = ncol Df n1 (i + 1) (n - 1) (nrow Df i (nj0 i) (n1 + 1 - nj0 i) st) := by
  obtain ⟨k, rfl⟩ : ∃ k, n = k + 1 := ⟨n - 1, by omega⟩
  rfl
def fillI (v : Int32) (it : Nat → Int32) (n : Nat) : Nat → Int32 := fun j => if j < n then v else it j
theorem fillI_0 (v : Int32) (it : Nat → Int32) : fillI v it 0 = it := by
  funext j; unfold fillI; rw [if_neg (by omega)]
theorem fillI_s (v : Int32) (it : Nat → Int32) (k : Nat) : upd (fillI v it k) k v = fillI v it (k + 1) := by
  funext j; unfold upd fillI
  by_cases h : j = k
  · rw [if_pos h, if_pos (by omega)]
  · rw [if_neg h]
    by_cases q : j < k
    · rw [if_pos q, if_pos (by omega)]
    · rw [if_neg q, if_neg (by omega)]
/-- free by pulls -/
def plo (fo sf : Nat → Nat) (fe te kk : Nat) : Nat → Int
  | 0 => 0
  | n + 1 => max (plo fo sf fe te kk n) (((sf n - te) * kk / (fo n + fe) : Nat) : Int)
def phi (fo sf : Nat → Nat) (fe te kk : Nat) : Nat → Int
  | 0 => 9223372036854775807
  | n + 1 => min (phi fo sf fe te kk n) ((((sf n + te) * kk + (fo n - fe) - 1) / (fo n - fe) : Nat) : Int)
theorem plo_rng {fo sf : Nat → Nat} {fe te kk : Nat} (hsf : ∀ j, sf j ≤ 100000) (hk : kk ≤ 1000) : ∀ n, 0 ≤ plo fo sf fe te kk n ∧ plo fo sf fe te kk n ≤ 100000000
  | 0 => by rw [plo]; omega
  | n + 1 => by
    have h := plo_rng (fo := fo) (fe := fe) (te := te) hsf hk n
    have h1 : (sf n - te) * kk ≤ 100000 * 1000 := Nat.mul_le_mul (Nat.le_trans (Nat.sub_le _ _) (hsf n)) hk
    have h2 : (sf n - te) * kk / (fo n + fe) ≤ (sf n - te) * kk := Nat.div_le_self _ _
    rw [plo]; omega
theorem phi_rng {fo sf : Nat → Nat} {fe te kk : Nat} : ∀ n, 0 ≤ phi fo sf fe te kk n ∧ phi fo sf fe te kk n ≤ 9223372036854775807
  | 0 => by rw [phi]; omega
  | n + 1 => by have h := phi_rng (fo := fo) (sf := sf) (fe := fe) (te := te) (kk := kk) n; have h2 := Int.natCast_nonneg (((sf n + te) * kk + (fo n - fe) - 1) / (fo n - fe)); rw [phi]; omega
theorem lI_div {a b : Nat} (ha : a < 2 ^ 62) (hb0 : 0 < b) (hb : b < 2 ^ 62) : lI (a : Int) / lI (b : Int) = lI ((a / b : Nat) : Int) := by
  have e : ∀ n : Nat, lI (n : Int) = lN n := fun n => Int64.ofInt_eq_ofNat
  rw [e, e, e, pk_lDiv (by omega) hb0 (by omega)]
theorem lI_pos {b : Nat} (h0 : 0 < b) (hb : b < 2 ^ 62) : (1 : Int64) ≤ lI (b : Int) := by
  rw [l_le, lI_toInt (by omega) (by omega)]
  have : (1 : Int64).toInt = 1 := by decide
  omega
theorem mx_i0 {a b : Nat} (ha : a < 2 ^ 30) (hb : b < 2 ^ 30) : (if (0 : Int32) < iI ((a : Int) - (b : Int)) then iI ((a : Int) - (b : Int)) else 0) = nI (a - b) := by
  have e : (0 : Int32) < iI ((a : Int) - (b : Int)) ↔ b < a := by
    rw [i_lt, iI_toInt (by omega) (by omega)]
    have : (0 : Int32).toInt = 0 := by decide
    omega
  by_cases h : b < a
  · rw [if_pos (e.mpr h), ← iI_nat]; congr 1; omega
  · rw [if_neg (fun x => h (e.mp x)), show a - b = 0 by omega]; rfl
theorem ru_div {a kk f fe : Nat} (ha : a * kk ≤ 200000000) (hfe : fe ≤ 9) (hf : 10 ≤ f) (hf2 : f ≤ 10000) : (lI (((a : Nat) : Int) * ((kk : Nat) : Int)) + lI (((f : Nat) : Int) - ((fe : Nat) : Int)) - 1) / lI (((f : Nat) : Int) - ((fe : Nat) : Int)) = lI (((a * kk + (f - fe) - 1) / (f - fe) : Nat) : Int) := by
  have e1 : ((f : Nat) : Int) - ((fe : Nat) : Int) = ((f - fe : Nat) : Int) := by omega
  have e2 : ((a : Nat) : Int) * ((kk : Nat) : Int) = ((a * kk : Nat) : Int) := by rw [Int.natCast_mul]
  rw [e1, e2, lI_add, show (1 : Int64) = lI 1 from by decide, lI_sub, show ((a * kk : Nat) : Int) + ((f - fe : Nat) : Int) - 1 = ((a * kk + (f - fe) - 1 : Nat) : Int) by omega]
  exact lI_div (by omega) (by omega) (by omega)
theorem pw0 {st : Nat} (h : 32 ≤ st) : 2 ^ (32 - st) = 1 := by rw [show 32 - st = 0 by omega]
theorem nst_no {Df : Nat → Nat → Int64} {i j : Nat} {st : Int64 × Int32 × Int32} (h : ¬ Df i j < st.1) : nst Df i j st = st := if_neg h
theorem nst_yes {Df : Nat → Nat → Int64} {i j : Nat} {st : Int64 × Int32 × Int32} (h : Df i j < st.1) : nst Df i j st = (Df i j, nI i, nI j) := if_pos h
theorem ll1 {x g : Int64} (h : g ≤ x) : ¬ x < g := by rw [l_le] at h; rw [l_lt]; omega
theorem ll2 {x g : Int64} (h : ¬ g ≤ x) : x < g := by rw [l_le] at h; rw [l_lt]; omega
def wrongW (lo fo : Int32) (n : Nat) (fm ix : Int32) : Int32 := if ¬ lo = 0 then 1 else if ¬ fo = fm then 3 else if 0 ≤ ix ∧ ix ≤ nI n - 1 then 0 else 2
def lowB (fm v : Int32) : Int32 := if fm = 0 then v.toInt8.toInt32 else if fm = 1 then v.toInt16.toInt32 else v
