/-! For the reference: its rows of sheets, and what it reckons otherwise. -/
def gREL (fmf szf imf : Nat → Int32) (w n : Nat) (it : Nat → Int32) : Prop := (fmf w < 0 ∧ n = 0) ∨ (¬ fmf w < 0 ∧ szf w = nI n ∧ ∀ j, j < n → imf (60 * w + j) = it j)
def gdf (w : Nat) : Nat := if w = 0 then 0 else 3000
theorem gN_skipq {it : Nat → Int32} {n df q : Nat} (h : 0 < q) (hn : n ≤ q - 1) : gN it n df q = gN it n df (q - 1) := by
  obtain ⟨j, rfl⟩ : ∃ j, q = j + 1 := ⟨q - 1, by omega⟩
  exact gN_skip hn
theorem n_max (x : Int64) : ¬ (9223372036854775807 : Int64) < x := by
  rw [l_lt]
  have h := Int64.toInt_lt x
  have e : (9223372036854775807 : Int64).toInt = 9223372036854775807 := by decide
  have h2 : x.toInt < 9223372036854775808 := by simpa using h
  omega
theorem gH_a {am wt md : Int32} {d cap pp : Nat} (h : gV am wt md d pp / (nI cap).toInt64 ≤ (nI pp).toInt64) : gV am wt md d pp / (nI cap).toInt64 = gH am wt md d cap pp := by
  unfold gH
  by_cases q : gV am wt md d pp / (nI cap).toInt64 < (nI pp).toInt64
  · rw [if_pos q]
  · rw [if_neg q, l_eq]; rw [l_le] at h; rw [l_lt] at q; omega
theorem gH_b {am wt md : Int32} {d cap pp : Nat} (h : ¬ gV am wt md d pp / (nI cap).toInt64 ≤ (nI pp).toInt64) : (nI pp).toInt64 = gH am wt md d cap pp := by
  unfold gH
  rw [if_neg (fun q => h (by rw [l_lt] at q; rw [l_le]; omega))]
theorem wg_init {V : Nat → Int64} {d a b : Nat} (h : (-1 : Int64) < V d) : wg V (d + 1) (-1) a = wg V (d + 1) (-1) b := by
  rw [wg, wg, if_pos h, if_pos h]
theorem gV_nn {am wt md : Int32} {d pp : Nat} (h1 : 1 ≤ am ∧ am ≤ 1000) (h2 : 1 ≤ wt ∧ wt ≤ 3000) (hd : d ≤ 50) : (-1 : Int64) < gV am wt md d pp := by
  obtain ⟨a, ha1, ha, rfl⟩ := nat_of1 (lo := 1) (hi := 1000) (a := 1) (n := 1000) (by decide) (by decide) h1
  obtain ⟨w, hw1, hw, rfl⟩ := nat_of1 (lo := 1) (hi := 3000) (a := 1) (n := 3000) (by decide) (by decide) h2
  have hg := gG_pos (nI w) md d pp
  have e1 : (1 : Int64).toInt = 1 := by decide
  have e0 : (0 : Int64).toInt = 0 := by decide
  have hg0 : ¬ gG (nI w) md d pp < 0 := by rw [l_lt]; rw [l_le] at hg; omega
  obtain ⟨g, hg2, eg⟩ := pk_lOf hg0
  have e : ∀ n : Nat, lI (n : Int) = lN n := fun n => Int64.ofInt_eq_ofNat
  have m1 : w * d ≤ 3000 * 50 := Nat.mul_le_mul hw hd
  have m2 : a * (w * d) ≤ 1000 * 150000 := Nat.mul_le_mul ha (by omega)
  unfold gV gB
  rw [eg]
  rw [eg, l_le] at hg
  rw [e1, pk_lT hg2] at hg
  rw [nI_64 (by omega), nI_64 (by omega), nI_64 (by omega), e, e, e, lN_mul, lN_mul, pk_lDiv (by omega) (by omega) hg2, l_lt]
  have h9 : a * (w * d) / g ≤ a * (w * d) := Nat.div_le_self _ _
  rw [pk_lT (by omega)]
  have em : (-1 : Int64).toInt = -1 := by decide
  have h0 := Int.natCast_nonneg (a * (w * d) / g)
  omega
def sKickM (d : Nat) (kd am wt md v1 w1 m1 : Int32) : Int32 × Int32 × Int32 × Int32 := if ((1 ≤ v1 ∧ v1 ≤ 1000) ∧ (1 ≤ w1 ∧ w1 ≤ 3000) ∧ (0 ≤ m1 ∧ m1 ≤ 3000)) ∧ d ≠ 0 then (1, v1, w1, m1) else (kd, am, wt, md)
def hpm (it0 : Nat → Int32) (n0 sh k : Nat) : Int := if sh < k then (hp (po it0 n0) sh (k - sh) : Int) else -1000000
theorem hpm_rng (it0 : Nat → Int32) (n0 sh k : Nat) : -1000000 ≤ hpm it0 n0 sh k ∧ hpm it0 n0 sh k ≤ 3000 := by
  have h := hp_le (i := sh) (po_le it0 n0) (k - sh)
  unfold hpm; split <;> omega
theorem grt_cong {q q' : Nat → Bool} : ∀ n, (∀ v, v ≤ n → q v = q' v) → grt q n = grt q' n
  | 0, _ => rfl
  | n + 1, h => by rw [grt, grt, h (n + 1) (Nat.le_refl _), grt_cong n (fun v hv => h v (by omega))]
theorem ss_hp {it0 : Nat → Int32} {n0 sh d sw m b : Nat} (hm : m ≤ 3000) (hsw : sw ≤ 1000) (hb : b ≤ 50) : ss sw m b (hpm it0 n0 sh d) = ss sw m b (hpz it0 n0 sh d) := by
  unfold ss
  refine grt_cong 9 (fun v hv => ?_)
  have hp9 := prod_le hsw hv hb
  unfold safe hpm hpz
  by_cases h : sh < d
  · rw [if_pos h, if_pos h]
  · rw [if_neg h, if_neg h]
    rw [decide_eq_true (show (-1000000 : Int) ≤ (m : Int) - ((sw * v * b / 1000 : Nat) : Int) by omega), decide_eq_true (show (-2147483648 : Int) ≤ (m : Int) - ((sw * v * b / 1000 : Nat) : Int) by omega)]
theorem tt_cong {s s' : Nat → Nat} : ∀ (b acc : Nat), (∀ k, k ≤ b → s k = s' k) → tt s b acc = tt s' b acc
  | 0, _, _ => rfl
  | b + 1, acc, h => by rw [tt, tt, h (b + 1) (Nat.le_refl _), tt_cong b _ (fun k hk => h k (by omega))]
theorem trip_hp {it0 : Nat → Int32} {n0 sh d sw m : Nat} (hm : m ≤ 3000) (hsw : sw ≤ 1000) (hd : d ≤ 50) : trip sw d m (hpm it0 n0 sh d) = trip sw d m (hpz it0 n0 sh d) := tt_cong d 0 (fun k hk => ss_hp hm hsw (by omega))
theorem inT_iff {z : Int} {t : Nat} (h1 : -1050 ≤ z) (h2 : z ≤ 18000) (ht : t ≤ 100000) : ((0 : Int32) ≤ iI z ∧ iI z ≤ nI t) ↔ (0 ≤ z ∧ z ≤ (t : Int)) := by
  rw [i_le, i_le, iI_toInt (by omega) (by omega), nI_toInt (by omega)]
  have e : (0 : Int32).toInt = 0 := by decide
  rw [e]
theorem in_r {x lo hi : Int32} : (lo.toInt64 ≤ x.toInt64 ∧ x.toInt64 ≤ hi.toInt64) ↔ (lo ≤ x ∧ x ≤ hi) := by
  rw [l_le, l_le, i_le, i_le, Int32.toInt_toInt64, Int32.toInt_toInt64, Int32.toInt_toInt64]
theorem in_m1 {x lo hi : Int32} (h1 : ¬ x.toInt64 < lo.toInt64) (h2 : ¬ hi.toInt64 < x.toInt64) : lo ≤ x ∧ x ≤ hi := in_r.mp ⟨by rw [l_lt] at h1; rw [l_le]; omega, by rw [l_lt] at h2; rw [l_le]; omega⟩
theorem in_m0a {x lo hi : Int32} (h : x.toInt64 < lo.toInt64) : ¬ (lo ≤ x ∧ x ≤ hi) := fun q => by have q := in_r.mpr q; rw [l_lt] at h; have q1 := (l_le _ _).mp q.1; omega
theorem in_m0b {x lo hi : Int32} (h : hi.toInt64 < x.toInt64) : ¬ (lo ≤ x ∧ x ≤ hi) := fun q => by have q := in_r.mpr q; rw [l_lt] at h; have q1 := (l_le _ _).mp q.2; omega
