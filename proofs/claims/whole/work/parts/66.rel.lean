/-! How the class and the reference are tied, and that every call keeps it. -/
theorem hole_ok {d sh d' sh' : Nat} {d1 s1 : Int32} (h : (d', sh') = sHole d sh d1 s1) (h1 : d ≤ 50) (h2 : sh ≤ d) : d' ≤ 50 ∧ sh' ≤ d' := by
  unfold sHole at h
  by_cases q : (0 ≤ d1 ∧ d1 ≤ 50) ∧ (0 ≤ s1 ∧ s1 ≤ d1)
  · rw [if_pos q] at h
    obtain ⟨k, hk, rfl⟩ := nat_of (hi := 50) (n := 50) (by decide) q.1
    obtain ⟨j, hj, rfl⟩ := nat_of (hi := nI k) (n := k) (nI_toInt (by omega)) q.2
    rw [nI_clamp (by omega), nI_clamp (by omega)] at h
    obtain ⟨e1, e2⟩ := Prod.mk.inj h
    exact ⟨by omega, by omega⟩
  · rw [if_neg q] at h
    obtain ⟨e1, e2⟩ := Prod.mk.inj h
    exact ⟨by omega, by omega⟩
theorem marg_ok {low high low' high' : Nat} {l1 h1 : Int32} (h : (low', high') = sMarg low high l1 h1) (a1 : low ≤ 500) (a2 : high ≤ 500) : low' ≤ 500 ∧ high' ≤ 500 := by
  unfold sMarg at h
  by_cases q : (0 ≤ l1 ∧ l1 ≤ 500) ∧ (0 ≤ h1 ∧ h1 ≤ 500)
  · rw [if_pos q] at h
    obtain ⟨k, hk, rfl⟩ := nat_of (hi := 500) (n := 500) (by decide) q.1
    obtain ⟨j, hj, rfl⟩ := nat_of (hi := 500) (n := 500) (by decide) q.2
    rw [nI_clamp (by omega), nI_clamp (by omega)] at h
    obtain ⟨e1, e2⟩ := Prod.mk.inj h
    exact ⟨by omega, by omega⟩
  · rw [if_neg q] at h
    obtain ⟨e1, e2⟩ := Prod.mk.inj h
    exact ⟨by omega, by omega⟩
theorem cap_ok {cap u : Nat} {v1 : Int32} (h : u = sCap cap v1) (h1 : 1 ≤ cap) (h2 : cap ≤ 1000) : 1 ≤ u ∧ u ≤ 1000 := by
  unfold sCap at h
  by_cases q : 1 ≤ v1 ∧ v1 ≤ 1000
  · rw [if_pos q] at h
    obtain ⟨k, hk1, hk, rfl⟩ := nat_of1 (lo := 1) (hi := 1000) (a := 1) (n := 1000) (by decide) (by decide) q
    rw [nI_clamp (by omega)] at h
    omega
  · rw [if_neg q] at h; omega
theorem swab_ok {sw u : Nat} {v1 : Int32} (h : u = sSwab sw v1) (h1 : sw ≤ 1000) : u ≤ 1000 := by
  unfold sSwab at h
  by_cases q : 0 ≤ v1 ∧ v1 ≤ 1000
  · rw [if_pos q] at h
    obtain ⟨k, hk, rfl⟩ := nat_of (hi := 1000) (n := 1000) (by decide) q
    rw [nI_clamp (by omega)] at h
    omega
  · rw [if_neg q] at h; omega
theorem ends_ok {fe te kk u1 u2 u3 : Nat} {f1 e1 k1 : Int32} (h : (u1, u2, u3) = sEnds fe te kk f1 e1 k1) (h1 : fe ≤ 9) (h2 : te ≤ 1000) (h3 : kk ≤ 1000) : u1 ≤ 9 ∧ u2 ≤ 1000 ∧ u3 ≤ 1000 := by
  unfold sEnds at h
  by_cases q : (0 ≤ f1 ∧ f1 ≤ 9) ∧ (0 ≤ e1 ∧ e1 ≤ 1000) ∧ (1 ≤ k1 ∧ k1 ≤ 1000)
  · rw [if_pos q] at h
    obtain ⟨k, hk, rfl⟩ := nat_of (hi := 9) (n := 9) (by decide) q.1
    obtain ⟨j, hj, rfl⟩ := nat_of (hi := 1000) (n := 1000) (by decide) q.2.1
    obtain ⟨i, hi1, hi, rfl⟩ := nat_of1 (lo := 1) (hi := 1000) (a := 1) (n := 1000) (by decide) (by decide) q.2.2
    rw [nI_clamp (by omega), nI_clamp (by omega), nI_clamp (by omega)] at h
    obtain ⟨e1, e2⟩ := Prod.mk.inj h
    obtain ⟨e2, e3⟩ := Prod.mk.inj e2
    exact ⟨by omega, by omega, by omega⟩
  · rw [if_neg q] at h
    obtain ⟨e1, e2⟩ := Prod.mk.inj h
    obtain ⟨e2, e3⟩ := Prod.mk.inj e2
    exact ⟨by omega, by omega, by omega⟩
theorem updN_le {f : Nat → Nat} {k v n : Nat} (hv : v ≤ n) (h : ∀ j, f j ≤ n) (j : Nat) : updN f k v j ≤ n := by
  unfold updN; split
  · exact hv
  · exact h j
theorem string_ok {nb u1 : Nat} {pr re u2 u3 : Nat → Nat} {p1 r1 : Int32} (h : (u1, u2, u3) = sString nb pr re p1 r1) (h1 : nb ≤ 6) (h2 : ∀ j, pr j ≤ 1000) (h3 : ∀ j, re j ≤ 50) : u1 ≤ 6 ∧ (∀ j, u2 j ≤ 1000) ∧ ∀ j, u3 j ≤ 50 := by
  unfold sString at h
  by_cases q : (1 ≤ p1 ∧ p1 ≤ 1000) ∧ (1 ≤ r1 ∧ r1 ≤ 50)
  · rw [if_pos q] at h
    obtain ⟨k, hk1, hk, rfl⟩ := nat_of1 (lo := 1) (hi := 1000) (a := 1) (n := 1000) (by decide) (by decide) q.1
    obtain ⟨j, hj1, hj, rfl⟩ := nat_of1 (lo := 1) (hi := 50) (a := 1) (n := 50) (by decide) (by decide) q.2
    rw [nI_clamp (by omega), nI_clamp (by omega)] at h
    unfold addN at h
    by_cases c : nb < 6
    · rw [if_pos c] at h
      obtain ⟨e1, e2⟩ := Prod.mk.inj h
      obtain ⟨e2, e3⟩ := Prod.mk.inj e2
      refine ⟨by rw [e1]; show nb + 1 ≤ 6; omega, fun i => ?_, fun i => ?_⟩
      · rw [e2]; exact updN_le hk h2 i
      · rw [e3]; exact updN_le hj h3 i
    · rw [if_neg c] at h
      obtain ⟨e1, e2⟩ := Prod.mk.inj h
      obtain ⟨e2, e3⟩ := Prod.mk.inj e2
      exact ⟨by rw [e1]; exact h1, by rw [e2]; exact h2, by rw [e3]; exact h3⟩
  · rw [if_neg q] at h
    obtain ⟨e1, e2⟩ := Prod.mk.inj h
    obtain ⟨e2, e3⟩ := Prod.mk.inj e2
    exact ⟨by rw [e1]; exact h1, by rw [e2]; exact h2, by rw [e3]; exact h3⟩
theorem pull_ok {np u1 : Nat} {fo sf u2 u3 : Nat → Nat} {f1 e1 : Int32} (h : (u1, u2, u3) = sPull np fo sf f1 e1) (h1 : np ≤ 20) (h2 : ∀ j, j < np → 10 ≤ fo j ∧ fo j ≤ 10000) (h3 : ∀ j, sf j ≤ 100000) : u1 ≤ 20 ∧ (∀ j, j < u1 → 10 ≤ u2 j ∧ u2 j ≤ 10000) ∧ ∀ j, u3 j ≤ 100000 := by
  unfold sPull at h
  by_cases q : (10 ≤ f1 ∧ f1 ≤ 10000) ∧ (0 ≤ e1 ∧ e1 ≤ 100000)
  · rw [if_pos q] at h
    obtain ⟨k, hk1, hk, rfl⟩ := nat_of1 (lo := 10) (hi := 10000) (a := 10) (n := 10000) (by decide) (by decide) q.1
    obtain ⟨j, hj, rfl⟩ := nat_of (hi := 100000) (n := 100000) (by decide) q.2
    rw [nI_clamp (by omega), nI_clamp (by omega)] at h
    unfold addN at h
    by_cases c : np < 20
    · rw [if_pos c] at h
      obtain ⟨e1, e2⟩ := Prod.mk.inj h
      obtain ⟨e2, e3⟩ := Prod.mk.inj e2
      have e1 : u1 = np + 1 := e1
      refine ⟨by omega, fun i hi => ?_, fun i => ?_⟩
      · rw [e2]
        show 10 ≤ updN fo np k i ∧ updN fo np k i ≤ 10000
        unfold updN
        by_cases z : i = np
        · rw [if_pos z]; omega
        · rw [if_neg z]; exact h2 i (by omega)
      · rw [e3]; exact updN_le hj h3 i
    · rw [if_neg c] at h
      obtain ⟨e1, e2⟩ := Prod.mk.inj h
      obtain ⟨e2, e3⟩ := Prod.mk.inj e2
      exact ⟨by rw [e1]; exact h1, by rw [e1, e2]; exact h2, by rw [e3]; exact h3⟩
  · rw [if_neg q] at h
    obtain ⟨e1, e2⟩ := Prod.mk.inj h
    obtain ⟨e2, e3⟩ := Prod.mk.inj e2
    exact ⟨by rw [e1]; exact h1, by rw [e1, e2]; exact h2, by rw [e3]; exact h3⟩
theorem kick_ok {d : Nat} {kd am wt md u1 u2 u3 v0 v1 v2 v3 a1 w1 m1 : Int32} (h : (u1, u2, u3) = sKick d am wt md a1 w1 m1) (h' : (v0, v1, v2, v3) = sKickM d kd am wt md a1 w1 m1) (hk : ¬ kd = 0 ↔ 0 < am) : v1 = u1 ∧ v2 = u2 ∧ v3 = u3 ∧ (¬ v0 = 0 ↔ 0 < u1) := by
  unfold sKick at h
  unfold sKickM at h'
  by_cases q : ((1 ≤ a1 ∧ a1 ≤ 1000) ∧ (1 ≤ w1 ∧ w1 ≤ 3000) ∧ (0 ≤ m1 ∧ m1 ≤ 3000)) ∧ d ≠ 0
  · rw [if_pos q] at h h'
    obtain ⟨e1, e2⟩ := Prod.mk.inj h
    obtain ⟨e2, e3⟩ := Prod.mk.inj e2
    obtain ⟨g0, g1⟩ := Prod.mk.inj h'
    obtain ⟨g1, g2⟩ := Prod.mk.inj g1
    obtain ⟨g2, g3⟩ := Prod.mk.inj g2
    refine ⟨g1.trans e1.symm, g2.trans e2.symm, g3.trans e3.symm, ?_⟩
    rw [g0, e1]
    refine ⟨fun _ => ?_, fun _ => by decide⟩
    have z := q.1.1.1
    rw [i_le] at z
    rw [i_lt]
    have c1 : (1 : Int32).toInt = 1 := by decide
    have c0 : (0 : Int32).toInt = 0 := by decide
    omega
  · rw [if_neg q] at h h'
    obtain ⟨e1, e2⟩ := Prod.mk.inj h
    obtain ⟨e2, e3⟩ := Prod.mk.inj e2
    obtain ⟨g0, g1⟩ := Prod.mk.inj h'
    obtain ⟨g1, g2⟩ := Prod.mk.inj g1
    obtain ⟨g2, g3⟩ := Prod.mk.inj g2
    exact ⟨g1.trans e1.symm, g2.trans e2.symm, g3.trans e3.symm, by rw [g0, e1]; exact hk⟩
/-- one path, as the class and as the reference have it; how far it can lie -/
def PREL (stf qxf qyf : Nat → Int32) (k na : Nat) (xs ys : Nat → Int32) : Prop := stf k = nI na ∧ na ≤ 40 ∧ (∀ j, j ≤ na → qxf (41 * k + j) = xs j) ∧ (∀ j, j ≤ na → qyf (41 * k + j) = ys j) ∧ ∀ j, j ≤ na → -(100000 + 65 * (j : Int)) ≤ (xs j).toInt ∧ (xs j).toInt ≤ 100000 + 65 * (j : Int) ∧ 0 ≤ (ys j).toInt ∧ (ys j).toInt ≤ 65 * (j : Int)
theorem upd_eq {f : Nat → Int32} {k : Nat} {v : Int32} : upd f k v k = v := by unfold upd; rw [if_pos rfl]
theorem upd_ne {f : Nat → Int32} {k j : Nat} {v : Int32} (h : j ≠ k) : upd f k v j = f j := by unfold upd; rw [if_neg h]
theorem begin_k {stf qxf qyf v1 v2 v3 xs ys u2 : Nat → Int32} {k na u1 : Nat} {x1 : Int32} (hR : PREL stf qxf qyf k na xs ys) (h : (u1, u2) = sBegin na xs x1) (h' : (v1, v2, v3) = sBeginM stf qxf qyf k x1) : PREL v1 v2 v3 k u1 u2 ys := by
  unfold sBegin at h
  unfold sBeginM at h'
  by_cases q : -100000 ≤ x1 ∧ x1 ≤ 100000
  · rw [if_pos q] at h h'
    obtain ⟨rfl, rfl⟩ := Prod.mk.inj h
    obtain ⟨rfl, g⟩ := Prod.mk.inj h'
    obtain ⟨rfl, rfl⟩ := Prod.mk.inj g
    obtain ⟨r1, r2, r3, r4, r5⟩ := hR
    have y0 : ys 0 = 0 := by
      have z := r5 0 (Nat.zero_le _)
      rw [i_eq, show (0 : Int32).toInt = 0 by decide]
      omega
    refine ⟨by rw [upd_eq, nI_0], by omega, fun j hj => ?_, fun j hj => ?_, fun j hj => ?_⟩
    · obtain rfl : j = 0 := by omega
      show upd qxf (41 * k) x1 (41 * k) = upd xs 0 x1 0
      rw [upd_eq, upd_eq]
    · obtain rfl : j = 0 := by omega
      show upd qyf (41 * k) 0 (41 * k) = ys 0
      rw [upd_eq, y0]
    · obtain rfl : j = 0 := by omega
      rw [upd_eq]
      have z := r5 0 (Nat.zero_le _)
      have a := (i_le _ _).mp q.1
      have b := (i_le _ _).mp q.2
      rw [show (-100000 : Int32).toInt = -100000 by decide] at a
      rw [show (100000 : Int32).toInt = 100000 by decide] at b
      exact ⟨by omega, by omega, z.2.2.1, z.2.2.2⟩
  · rw [if_neg q] at h h'
    obtain ⟨rfl, rfl⟩ := Prod.mk.inj h
    obtain ⟨rfl, g⟩ := Prod.mk.inj h'
    obtain ⟨rfl, rfl⟩ := Prod.mk.inj g
    exact hR
theorem begin_o {stf qxf qyf v1 v2 v3 xs ys : Nat → Int32} {k k' na : Nat} {x1 : Int32} (hR : PREL stf qxf qyf k' na xs ys) (hk : k' ≠ k) (h' : (v1, v2, v3) = sBeginM stf qxf qyf k x1) : PREL v1 v2 v3 k' na xs ys := by
  unfold sBeginM at h'
  by_cases q : -100000 ≤ x1 ∧ x1 ≤ 100000
  · rw [if_pos q] at h'
    obtain ⟨rfl, g⟩ := Prod.mk.inj h'
    obtain ⟨rfl, rfl⟩ := Prod.mk.inj g
    obtain ⟨r1, r2, r3, r4, r5⟩ := hR
    exact ⟨by rw [upd_ne hk]; exact r1, r2, fun j hj => by rw [upd_ne (by omega)]; exact r3 j hj, fun j hj => by rw [upd_ne (by omega)]; exact r4 j hj, r5⟩
  · rw [if_neg q] at h'
    obtain ⟨rfl, g⟩ := Prod.mk.inj h'
    obtain ⟨rfl, rfl⟩ := Prod.mk.inj g
    exact hR
theorem asd_in : ∀ t, t ≤ 9 → (-65 ≤ ((-1 : Int32) * asd t).toInt ∧ ((-1 : Int32) * asd t).toInt ≤ 65) ∧ (-65 ≤ ((1 : Int32) * asd t).toInt ∧ ((1 : Int32) * asd t).toInt ≤ 65) ∧ (0 ≤ (dwn t).toInt ∧ (dwn t).toInt ≤ 65) := by decide
theorem add_i {x y : Int32} {a b : Int} (hx : x.toInt = a) (hy : y.toInt = b) (h1 : -2147483648 ≤ a + b) (h2 : a + b < 2147483648) : (x + y).toInt = a + b := by
  rw [← iI_of x, ← iI_of y, iI_add, hx, hy, iI_toInt h1 h2]
theorem sub_i {x y : Int32} {a b : Int} (hx : x.toInt = a) (hy : y.toInt = b) (h1 : -2147483648 ≤ a - b) (h2 : a - b < 2147483648) : (x - y).toInt = a - b := by
  rw [← iI_of x, ← iI_of y, iI_sub, hx, hy, iI_toInt h1 h2]
theorem station_k {stf qxf qyf v1 v2 v3 xs ys u2 u3 : Nat → Int32} {k na u1 : Nat} {t1 sd : Int32} (hR : PREL stf qxf qyf k na xs ys) (h : (u1, u2, u3) = sStat na xs ys t1 sd) (h' : (v1, v2, v3) = sStatM stf qxf qyf k na t1 sd) : PREL v1 v2 v3 k u1 u2 u3 := by
  unfold sStat at h
  unfold sStatM at h'
  by_cases q : (0 ≤ t1 ∧ t1 ≤ 9) ∧ (sd = -1 ∨ sd = 1)
  · rw [if_pos q] at h
    unfold goP at h
    by_cases c : na < 40
    · rw [if_pos c] at h
      rw [if_pos ⟨q, c⟩] at h'
      obtain ⟨t, ht, rfl⟩ := nat_of (hi := 9) (n := 9) (by decide) q.1
      rw [nI_clamp (by omega)] at h h'
      have a := asd_in t ht
      have h : (u1, u2, u3) = (na + 1, upd xs (na + 1) (xs na + sd * asd t), upd ys (na + 1) (ys na + dwn t)) := h
      obtain ⟨rfl, g⟩ := Prod.mk.inj h
      obtain ⟨rfl, rfl⟩ := Prod.mk.inj g
      obtain ⟨rfl, g⟩ := Prod.mk.inj h'
      obtain ⟨rfl, rfl⟩ := Prod.mk.inj g
      obtain ⟨r1, r2, r3, r4, r5⟩ := hR
      have z := r5 na (Nat.le_refl na)
      have b : -65 ≤ (sd * asd t).toInt ∧ (sd * asd t).toInt ≤ 65 := by
        rcases q.2 with e | e
        · rw [e]; exact a.1
        · rw [e]; exact a.2.1
      have w1 := add_i (x := xs na) (y := sd * asd t) rfl rfl (by omega) (by omega)
      have w2 := add_i (x := ys na) (y := dwn t) rfl rfl (by omega) (by omega)
      refine ⟨by rw [upd_eq], by omega, fun j hj => ?_, fun j hj => ?_, fun j hj => ?_⟩
      · by_cases e : j = na + 1
        · subst e
          show upd qxf (41 * k + na + 1) _ (41 * k + na + 1) = _
          rw [upd_eq, upd_eq, r3 na (Nat.le_refl na)]
        · rw [upd_ne (by omega), upd_ne e]; exact r3 j (by omega)
      · by_cases e : j = na + 1
        · subst e
          show upd qyf (41 * k + na + 1) _ (41 * k + na + 1) = _
          rw [upd_eq, upd_eq, r4 na (Nat.le_refl na)]
        · rw [upd_ne (by omega), upd_ne e]; exact r4 j (by omega)
      · by_cases e : j = na + 1
        · subst e
          rw [upd_eq, upd_eq, w1, w2]
          omega
        · rw [upd_ne e, upd_ne e]; exact r5 j (by omega)
    · rw [if_neg c] at h
      rw [if_neg (fun z => c z.2)] at h'
      obtain ⟨rfl, g⟩ := Prod.mk.inj h
      obtain ⟨rfl, rfl⟩ := Prod.mk.inj g
      obtain ⟨rfl, g⟩ := Prod.mk.inj h'
      obtain ⟨rfl, rfl⟩ := Prod.mk.inj g
      exact hR
  · rw [if_neg q] at h
    rw [if_neg (fun z => q z.1)] at h'
    obtain ⟨rfl, g⟩ := Prod.mk.inj h
    obtain ⟨rfl, rfl⟩ := Prod.mk.inj g
    obtain ⟨rfl, g⟩ := Prod.mk.inj h'
    obtain ⟨rfl, rfl⟩ := Prod.mk.inj g
    exact hR
theorem station_o {stf qxf qyf v1 v2 v3 xs ys : Nat → Int32} {k k' na nq : Nat} {t1 sd : Int32} (hR : PREL stf qxf qyf k' nq xs ys) (hk : k' ≠ k) (hna : na ≤ 40) (h' : (v1, v2, v3) = sStatM stf qxf qyf k na t1 sd) : PREL v1 v2 v3 k' nq xs ys := by
  unfold sStatM at h'
  by_cases q : ((0 ≤ t1 ∧ t1 ≤ 9) ∧ (sd = -1 ∨ sd = 1)) ∧ na < 40
  · rw [if_pos q] at h'
    obtain ⟨rfl, g⟩ := Prod.mk.inj h'
    obtain ⟨rfl, rfl⟩ := Prod.mk.inj g
    obtain ⟨r1, r2, r3, r4, r5⟩ := hR
    exact ⟨by rw [upd_ne hk]; exact r1, r2, fun j hj => by rw [upd_ne (by omega)]; exact r3 j hj, fun j hj => by rw [upd_ne (by omega)]; exact r4 j hj, r5⟩
  · rw [if_neg q] at h'
    obtain ⟨rfl, g⟩ := Prod.mk.inj h'
    obtain ⟨rfl, rfl⟩ := Prod.mk.inj g
    exact hR
theorem sq_in {a : Int} {n : Nat} (h1 : -(n : Int) ≤ a) (h2 : a ≤ n) : 0 ≤ a * a ∧ a * a ≤ ((n * n : Nat) : Int) := by
  rw [← Int.natAbs_mul_self]
  exact ⟨Int.natCast_nonneg _, Int.ofNat_le.mpr (Nat.mul_le_mul (by omega) (by omega))⟩
theorem dsq_ok {stf qxf qyf xs ys xt yt : Nat → Int32} {na nq : Nat} (h0 : PREL stf qxf qyf 0 na xs ys) (h1 : PREL stf qxf qyf 1 nq xt yt) (i j : Nat) (hi : i ≤ na) (hj : j ≤ nq) : 0 ≤ dsq xs ys xt yt i j ∧ dsq xs ys xt yt i j < 9223372036854775807 := by
  have a := h0.2.2.2.2 i hi
  have b := h1.2.2.2.2 j hj
  have a2 := h0.2.1
  have b2 := h1.2.1
  have w1 := sub_i (x := xs i) (y := xt j) rfl rfl (by omega) (by omega)
  have w2 := sub_i (x := ys i) (y := yt j) rfl rfl (by omega) (by omega)
  have s1 := sq_in (n := 205200) (a := (xs i).toInt - (xt j).toInt) (by omega) (by omega)
  have s2 := sq_in (n := 205200) (a := (ys i).toInt - (yt j).toInt) (by omega) (by omega)
  have e1 : (xs i - xt j).toInt64 = lI ((xs i).toInt - (xt j).toInt) := by rw [← iI_of (xs i - xt j), w1, iI_64 (by omega) (by omega)]
  have e2 : (ys i - yt j).toInt64 = lI ((ys i).toInt - (yt j).toInt) := by rw [← iI_of (ys i - yt j), w2, iI_64 (by omega) (by omega)]
  unfold dsq
  rw [e1, e2, lI_mul, lI_mul, lI_add, l_le, l_lt, lI_toInt (by omega) (by omega), show (0 : Int64).toInt = 0 by decide, show (9223372036854775807 : Int64).toInt = 9223372036854775807 by decide]
  omega
/-! the sheets -/
theorem i_nlt0 {x : Int32} (h : 0 ≤ x) : ¬ x < 0 := i_nlt h
theorem sheet_f {fd lo fo fm nn u1 u2 u3 v1 : Int32} {n u4 k : Nat} {it u5 fmf szf imf v2 v3 v4 : Nat → Int32} (h : (u1, u2, u3, u4, u5) = sSheet fd lo fo n it fm nn) (h' : (v1, v2, v3, v4) = sSheetM fd fmf szf imf k fm nn) (hn : n ≤ 60) (hR : sREL fmf szf imf k lo fo n it) : v1 = u1 ∧ u4 ≤ 60 ∧ sREL v2 v3 v4 k u2 u3 u4 u5 := by
  unfold sSheet at h
  unfold sSheetM at h'
  by_cases q : (0 ≤ fm ∧ fm ≤ 2) ∧ nn ≤ 60
  · rw [if_pos q] at h h'
    by_cases c : 0 ≤ nn
    · rw [if_pos c] at h h'
      obtain ⟨m9, hm, rfl⟩ := nat_of (hi := 60) (n := 60) (by decide) ⟨c, q.2⟩
      rw [nI_clamp (by omega)] at h h'
      simp only [Prod.mk.injEq] at h
      obtain ⟨rfl, rfl, rfl, rfl, rfl⟩ := h
      simp only [Prod.mk.injEq] at h'
      obtain ⟨rfl, rfl, rfl, rfl⟩ := h'
      refine ⟨rfl, hm, Or.inr ⟨?_, rfl, ?_, ?_, fun j hj => ?_⟩⟩
      · rw [upd_eq]; exact i_nlt q.1.1
      · rw [upd_eq]
      · rw [upd_eq]
      · unfold zeroI fillI
        rw [if_pos (by omega), if_pos (by omega)]
    · rw [if_neg c] at h h'
      simp only [Prod.mk.injEq] at h
      obtain ⟨rfl, rfl, rfl, rfl, rfl⟩ := h
      simp only [Prod.mk.injEq] at h'
      obtain ⟨rfl, rfl, rfl, rfl⟩ := h'
      exact ⟨rfl, hn, hR⟩
  · rw [if_neg q] at h h'
    simp only [Prod.mk.injEq] at h
    obtain ⟨rfl, rfl, rfl, rfl, rfl⟩ := h
    simp only [Prod.mk.injEq] at h'
    obtain ⟨rfl, rfl, rfl, rfl⟩ := h'
    exact ⟨rfl, hn, hR⟩
/-- a sheet of another number is as it was -/
theorem sREL.other {fmf szf imf v2 v3 v4 : Nat → Int32} {k' n : Nat} {lo fo : Int32} {it : Nat → Int32} (hR : sREL fmf szf imf k' lo fo n it) (hn : n ≤ 60) (h2 : v2 k' = fmf k') (h3 : v3 k' = szf k') (h4 : ∀ j, j < 60 → v4 (60 * k' + j) = imf (60 * k' + j)) : sREL v2 v3 v4 k' lo fo n it := by
  rcases hR with r | r
  · exact Or.inl ⟨by rw [h2]; exact r.1, r.2⟩
  · exact Or.inr ⟨by rw [h2]; exact r.1, r.2.1, by rw [h2]; exact r.2.2.1, by rw [h3]; exact r.2.2.2.1, fun j hj => by rw [h4 j (by omega)]; exact r.2.2.2.2 j hj⟩
theorem sheet_o {fd fm nn v1 lo fo : Int32} {n k k' : Nat} {it fmf szf imf v2 v3 v4 : Nat → Int32} (h' : (v1, v2, v3, v4) = sSheetM fd fmf szf imf k fm nn) (hk : k' ≠ k) (hn : n ≤ 60) (hR : sREL fmf szf imf k' lo fo n it) : sREL v2 v3 v4 k' lo fo n it := by
  unfold sSheetM at h'
  by_cases q : (0 ≤ fm ∧ fm ≤ 2) ∧ nn ≤ 60
  · rw [if_pos q] at h'
    by_cases c : 0 ≤ nn
    · rw [if_pos c] at h'
      obtain ⟨m9, hm, rfl⟩ := nat_of (hi := 60) (n := 60) (by decide) ⟨c, q.2⟩
      rw [nI_clamp (by omega)] at h'
      simp only [Prod.mk.injEq] at h'
      obtain ⟨rfl, rfl, rfl, rfl⟩ := h'
      exact hR.other hn (upd_ne hk) (upd_ne hk) (fun j hj => by unfold zeroI; rw [if_neg (by omega)])
    · rw [if_neg c] at h'
      simp only [Prod.mk.injEq] at h'
      obtain ⟨rfl, rfl, rfl, rfl⟩ := h'
      exact hR
  · rw [if_neg q] at h'
    simp only [Prod.mk.injEq] at h'
    obtain ⟨rfl, rfl, rfl, rfl⟩ := h'
    exact hR
theorem lose_f {fd lo fo u1 u2 v1 : Int32} {n u3 k : Nat} {it fmf szf imf v2 : Nat → Int32} (h : (u1, u2, u3) = sLose fd lo n) (h' : (v1, v2) = sLoseM fd lo fmf k) (hn : n ≤ 60) (hR : sREL fmf szf imf k lo fo n it) : v1 = u1 ∧ u3 ≤ 60 ∧ sREL v2 szf imf k u2 fo u3 it := by
  unfold sLose at h
  unfold sLoseM at h'
  by_cases q : ¬ lo = 0
  · rw [if_pos q] at h h'
    obtain ⟨rfl, g⟩ := Prod.mk.inj h
    obtain ⟨rfl, rfl⟩ := Prod.mk.inj g
    obtain ⟨rfl, rfl⟩ := Prod.mk.inj h'
    exact ⟨rfl, hn, hR⟩
  · rw [if_neg q] at h h'
    obtain ⟨rfl, g⟩ := Prod.mk.inj h
    obtain ⟨rfl, rfl⟩ := Prod.mk.inj g
    obtain ⟨rfl, rfl⟩ := Prod.mk.inj h'
    exact ⟨rfl, by omega, Or.inl ⟨by rw [upd_eq]; decide, by decide, rfl⟩⟩
theorem lose_o {fd lo lo' fo v1 : Int32} {n k k' : Nat} {it fmf szf imf v2 : Nat → Int32} (h' : (v1, v2) = sLoseM fd lo' fmf k) (hk : k' ≠ k) (hn : n ≤ 60) (hR : sREL fmf szf imf k' lo fo n it) : sREL v2 szf imf k' lo fo n it := by
  unfold sLoseM at h'
  by_cases q : ¬ lo' = 0
  · rw [if_pos q] at h'
    obtain ⟨rfl, rfl⟩ := Prod.mk.inj h'
    exact hR
  · rw [if_neg q] at h'
    obtain ⟨rfl, rfl⟩ := Prod.mk.inj h'
    exact hR.other hn (upd_ne hk) rfl (fun _ _ => rfl)
theorem put_f {fd lo fo fm ix v u1 v1 : Int32} {n k : Nat} {it u2 fmf szf imf v2 : Nat → Int32} (h : (u1, u2) = sPut fd lo fo n it fm ix v) (h' : (v1, v2) = sPutM fd lo fo n imf k fm ix v) (hn : n ≤ 60) (hR : sREL fmf szf imf k lo fo n it) : v1 = u1 ∧ sREL fmf szf v2 k lo fo n u2 := by
  unfold sPut at h
  unfold sPutM at h'
  by_cases q : 0 ≤ fm ∧ fm ≤ 2
  · rw [if_pos q] at h h'
    by_cases c : wrongW lo fo n fm ix = 0
    · rw [if_pos c] at h h'
      obtain ⟨c1, c2, i9, hi9, rfl⟩ := wrongW_0 hn c
      rw [nI_clamp (by omega)] at h h'
      obtain ⟨rfl, rfl⟩ := Prod.mk.inj h
      obtain ⟨rfl, rfl⟩ := Prod.mk.inj h'
      refine ⟨rfl, ?_⟩
      rcases hR with r | r
      · exact absurd c1 r.2.1
      · refine Or.inr ⟨r.1, r.2.1, r.2.2.1, r.2.2.2.1, fun j hj => ?_⟩
        by_cases e : j = i9
        · subst e; rw [upd_eq, upd_eq]
        · rw [upd_ne (by omega), upd_ne e]; exact r.2.2.2.2 j hj
    · rw [if_neg c] at h h'
      obtain ⟨rfl, rfl⟩ := Prod.mk.inj h
      obtain ⟨rfl, rfl⟩ := Prod.mk.inj h'
      exact ⟨rfl, hR⟩
  · rw [if_neg q] at h h'
    obtain ⟨rfl, rfl⟩ := Prod.mk.inj h
    obtain ⟨rfl, rfl⟩ := Prod.mk.inj h'
    exact ⟨rfl, hR⟩
theorem put_o {fd lo' fo' fm ix v v1 lo fo : Int32} {n' n k k' : Nat} {it fmf szf imf v2 : Nat → Int32} (h' : (v1, v2) = sPutM fd lo' fo' n' imf k fm ix v) (hn' : n' ≤ 60) (hk : k' ≠ k) (hn : n ≤ 60) (hR : sREL fmf szf imf k' lo fo n it) : sREL fmf szf v2 k' lo fo n it := by
  unfold sPutM at h'
  by_cases q : 0 ≤ fm ∧ fm ≤ 2
  · rw [if_pos q] at h'
    by_cases c : wrongW lo' fo' n' fm ix = 0
    · rw [if_pos c] at h'
      obtain ⟨c1, c2, i9, hi9, rfl⟩ := wrongW_0 hn' c
      rw [nI_clamp (by omega)] at h'
      obtain ⟨rfl, rfl⟩ := Prod.mk.inj h'
      exact hR.other hn rfl rfl (fun j hj => upd_ne (by omega))
    · rw [if_neg c] at h'
      obtain ⟨rfl, rfl⟩ := Prod.mk.inj h'
      exact hR
  · rw [if_neg q] at h'
    obtain ⟨rfl, rfl⟩ := Prod.mk.inj h'
    exact hR
theorem wrongC_0 {lo fo lq fq i1 j1 k1 : Int32} {n nq : Nat} (hn : n ≤ 60) (hnq : nq ≤ 60) (h : wrongC lo fo lq fq n nq i1 j1 k1 = 0) : lo = 0 ∧ lq = 0 ∧ ∃ i j k, i + k ≤ n ∧ j + k ≤ nq ∧ i1 = nI i ∧ j1 = nI j ∧ k1 = nI k := by
  unfold wrongC at h
  by_cases a : ¬ lo = 0 ∨ ¬ lq = 0
  · rw [if_pos a] at h; exact absurd h (by decide)
  · rw [if_neg a] at h
    by_cases b : ¬ fo = fq
    · rw [if_pos b] at h; exact absurd h (by decide)
    · rw [if_neg b] at h
      by_cases c : ((0 ≤ i1 ∧ i1 ≤ nI n) ∧ (0 ≤ k1 ∧ k1 ≤ nI n - i1)) ∧ ((0 ≤ j1 ∧ j1 ≤ nI nq) ∧ (0 ≤ k1 ∧ k1 ≤ nI nq - j1))
      · obtain ⟨i, k, h1, e1, e2⟩ := hr_nat hn c.1
        obtain ⟨j, k', h2, e3, e4⟩ := hr_nat hnq c.2
        have e5 : k = k' := n_eq (e2.symm.trans e4) (by omega) (by omega)
        exact ⟨Classical.not_not.mp (fun z => a (Or.inl z)), Classical.not_not.mp (fun z => a (Or.inr z)), i, j, k, h1, by omega, e1, e3, e2⟩
      · rw [if_neg c] at h; exact absurd h (by decide)
theorem copy_f {fd lo fo lq fq i1 j1 k1 u1 v1 : Int32} {n nq k k2 : Nat} {it iq u2 fmf szf imf v2 : Nat → Int32} (h : (u1, u2) = sCopy (wrongC lo fo lq fq n nq i1 j1 k1) fd it iq i1 j1 k1) (h' : (v1, v2) = sCopyM (wrongC lo fo lq fq n nq i1 j1 k1) fd imf k k2 i1 j1 k1) (hn : n ≤ 60) (hnq : nq ≤ 60) (hR : sREL fmf szf imf k lo fo n it) (hR2 : sREL fmf szf imf k2 lq fq nq iq) : v1 = u1 ∧ sREL fmf szf v2 k2 lq fq nq u2 := by
  unfold sCopy at h
  unfold sCopyM at h'
  by_cases q : wrongC lo fo lq fq n nq i1 j1 k1 = 0
  · rw [if_pos q] at h h'
    obtain ⟨z1, z2, i, j, t, g1, g2, rfl, rfl, rfl⟩ := wrongC_0 hn hnq q
    rw [nI_clamp (by omega), nI_clamp (by omega), nI_clamp (by omega)] at h h'
    obtain ⟨rfl, rfl⟩ := Prod.mk.inj h
    obtain ⟨rfl, rfl⟩ := Prod.mk.inj h'
    refine ⟨rfl, ?_⟩
    rcases hR2 with r | r
    · exact absurd z2 r.2.1
    · rcases hR with w | w
      · exact absurd z1 w.2.1
      · refine Or.inr ⟨r.1, r.2.1, r.2.2.1, r.2.2.2.1, fun y hy => ?_⟩
        unfold va_cpy
        by_cases e : j ≤ y ∧ y < j + t
        · rw [if_pos (by omega), if_pos e, show 60 * k + i + (60 * k2 + y - (60 * k2 + j)) = 60 * k + (i + (y - j)) by omega]
          exact w.2.2.2.2 (i + (y - j)) (by omega)
        · rw [if_neg (by omega), if_neg e]; exact r.2.2.2.2 y hy
  · rw [if_neg q] at h h'
    obtain ⟨rfl, rfl⟩ := Prod.mk.inj h
    obtain ⟨rfl, rfl⟩ := Prod.mk.inj h'
    exact ⟨rfl, hR2⟩
theorem copy_o {fd lo' fo' lq' fq' i1 j1 k1 v1 lo fo : Int32} {n' nq' n k k2 k' : Nat} {it fmf szf imf v2 : Nat → Int32} (h' : (v1, v2) = sCopyM (wrongC lo' fo' lq' fq' n' nq' i1 j1 k1) fd imf k k2 i1 j1 k1) (hn' : n' ≤ 60) (hnq' : nq' ≤ 60) (hk : k' ≠ k2) (hn : n ≤ 60) (hR : sREL fmf szf imf k' lo fo n it) : sREL fmf szf v2 k' lo fo n it := by
  unfold sCopyM at h'
  by_cases q : wrongC lo' fo' lq' fq' n' nq' i1 j1 k1 = 0
  · rw [if_pos q] at h'
    obtain ⟨z1, z2, i, j, t, g1, g2, rfl, rfl, rfl⟩ := wrongC_0 hn' hnq' q
    rw [nI_clamp (by omega), nI_clamp (by omega), nI_clamp (by omega)] at h'
    obtain ⟨rfl, rfl⟩ := Prod.mk.inj h'
    exact hR.other hn rfl rfl (fun y hy => by unfold va_cpy; rw [if_neg (by omega)])
  · rw [if_neg q] at h'
    obtain ⟨rfl, rfl⟩ := Prod.mk.inj h'
    exact hR
/-- what the law's switch takes -/
theorem sw34k : ∀ k : Nat, k ≤ 33 → (nI k = 0 ∨ nI k = 1 ∨ nI k = 2 ∨ nI k = 3 ∨ nI k = 4 ∨ nI k = 5 ∨ nI k = 6 ∨ nI k = 7 ∨ nI k = 8 ∨ nI k = 9 ∨ nI k = 10 ∨ nI k = 11 ∨ nI k = 12 ∨ nI k = 13 ∨ nI k = 14 ∨ nI k = 15 ∨ nI k = 16 ∨ nI k = 17 ∨ nI k = 18 ∨ nI k = 19 ∨ nI k = 20 ∨ nI k = 21 ∨ nI k = 22 ∨ nI k = 23 ∨ nI k = 24 ∨ nI k = 25 ∨ nI k = 26 ∨ nI k = 27 ∨ nI k = 28 ∨ nI k = 29 ∨ nI k = 30 ∨ nI k = 31 ∨ nI k = 32 ∨ nI k = 33 ∨ ((nI k).toInt < 0 ∨ 33 < (nI k).toInt)) := fun k hk => match k, hk with
  | 0, _ => Or.inl (by decide)
  | 1, _ => Or.inr (Or.inl (by decide))
  | 2, _ => Or.inr (Or.inr (Or.inl (by decide)))
  | 3, _ => Or.inr (Or.inr (Or.inr (Or.inl (by decide))))
  | 4, _ => Or.inr (Or.inr (Or.inr (Or.inr (Or.inl (by decide)))))
  | 5, _ => Or.inr (Or.inr (Or.inr (Or.inr (Or.inr (Or.inl (by decide))))))
  | 6, _ => Or.inr (Or.inr (Or.inr (Or.inr (Or.inr (Or.inr (Or.inl (by decide)))))))
  | 7, _ => Or.inr (Or.inr (Or.inr (Or.inr (Or.inr (Or.inr (Or.inr (Or.inl (by decide))))))))
  | 8, _ => Or.inr (Or.inr (Or.inr (Or.inr (Or.inr (Or.inr (Or.inr (Or.inr (Or.inl (by decide)))))))))
  | 9, _ => Or.inr (Or.inr (Or.inr (Or.inr (Or.inr (Or.inr (Or.inr (Or.inr (Or.inr (Or.inl (by decide))))))))))
  | 10, _ => Or.inr (Or.inr (Or.inr (Or.inr (Or.inr (Or.inr (Or.inr (Or.inr (Or.inr (Or.inr (Or.inl (by decide)))))))))))
  | 11, _ => Or.inr (Or.inr (Or.inr (Or.inr (Or.inr (Or.inr (Or.inr (Or.inr (Or.inr (Or.inr (Or.inr (Or.inl (by decide))))))))))))
  | 12, _ => Or.inr (Or.inr (Or.inr (Or.inr (Or.inr (Or.inr (Or.inr (Or.inr (Or.inr (Or.inr (Or.inr (Or.inr (Or.inl (by decide)))))))))))))
  | 13, _ => Or.inr (Or.inr (Or.inr (Or.inr (Or.inr (Or.inr (Or.inr (Or.inr (Or.inr (Or.inr (Or.inr (Or.inr (Or.inr (Or.inl (by decide))))))))))))))
  | 14, _ => Or.inr (Or.inr (Or.inr (Or.inr (Or.inr (Or.inr (Or.inr (Or.inr (Or.inr (Or.inr (Or.inr (Or.inr (Or.inr (Or.inr (Or.inl (by decide)))))))))))))))
  | 15, _ => Or.inr (Or.inr (Or.inr (Or.inr (Or.inr (Or.inr (Or.inr (Or.inr (Or.inr (Or.inr (Or.inr (Or.inr (Or.inr (Or.inr (Or.inr (Or.inl (by decide))))))))))))))))
  | 16, _ => Or.inr (Or.inr (Or.inr (Or.inr (Or.inr (Or.inr (Or.inr (Or.inr (Or.inr (Or.inr (Or.inr (Or.inr (Or.inr (Or.inr (Or.inr (Or.inr (Or.inl (by decide)))))))))))))))))
  | 17, _ => Or.inr (Or.inr (Or.inr (Or.inr (Or.inr (Or.inr (Or.inr (Or.inr (Or.inr (Or.inr (Or.inr (Or.inr (Or.inr (Or.inr (Or.inr (Or.inr (Or.inr (Or.inl (by decide))))))))))))))))))
  | 18, _ => Or.inr (Or.inr (Or.inr (Or.inr (Or.inr (Or.inr (Or.inr (Or.inr (Or.inr (Or.inr (Or.inr (Or.inr (Or.inr (Or.inr (Or.inr (Or.inr (Or.inr (Or.inr (Or.inl (by decide)))))))))))))))))))
  | 19, _ => Or.inr (Or.inr (Or.inr (Or.inr (Or.inr (Or.inr (Or.inr (Or.inr (Or.inr (Or.inr (Or.inr (Or.inr (Or.inr (Or.inr (Or.inr (Or.inr (Or.inr (Or.inr (Or.inr (Or.inl (by decide))))))))))))))))))))
  | 20, _ => Or.inr (Or.inr (Or.inr (Or.inr (Or.inr (Or.inr (Or.inr (Or.inr (Or.inr (Or.inr (Or.inr (Or.inr (Or.inr (Or.inr (Or.inr (Or.inr (Or.inr (Or.inr (Or.inr (Or.inr (Or.inl (by decide)))))))))))))))))))))
  | 21, _ => Or.inr (Or.inr (Or.inr (Or.inr (Or.inr (Or.inr (Or.inr (Or.inr (Or.inr (Or.inr (Or.inr (Or.inr (Or.inr (Or.inr (Or.inr (Or.inr (Or.inr (Or.inr (Or.inr (Or.inr (Or.inr (Or.inl (by decide))))))))))))))))))))))
  | 22, _ => Or.inr (Or.inr (Or.inr (Or.inr (Or.inr (Or.inr (Or.inr (Or.inr (Or.inr (Or.inr (Or.inr (Or.inr (Or.inr (Or.inr (Or.inr (Or.inr (Or.inr (Or.inr (Or.inr (Or.inr (Or.inr (Or.inr (Or.inl (by decide)))))))))))))))))))))))
  | 23, _ => Or.inr (Or.inr (Or.inr (Or.inr (Or.inr (Or.inr (Or.inr (Or.inr (Or.inr (Or.inr (Or.inr (Or.inr (Or.inr (Or.inr (Or.inr (Or.inr (Or.inr (Or.inr (Or.inr (Or.inr (Or.inr (Or.inr (Or.inr (Or.inl (by decide))))))))))))))))))))))))
  | 24, _ => Or.inr (Or.inr (Or.inr (Or.inr (Or.inr (Or.inr (Or.inr (Or.inr (Or.inr (Or.inr (Or.inr (Or.inr (Or.inr (Or.inr (Or.inr (Or.inr (Or.inr (Or.inr (Or.inr (Or.inr (Or.inr (Or.inr (Or.inr (Or.inr (Or.inl (by decide)))))))))))))))))))))))))
  | 25, _ => Or.inr (Or.inr (Or.inr (Or.inr (Or.inr (Or.inr (Or.inr (Or.inr (Or.inr (Or.inr (Or.inr (Or.inr (Or.inr (Or.inr (Or.inr (Or.inr (Or.inr (Or.inr (Or.inr (Or.inr (Or.inr (Or.inr (Or.inr (Or.inr (Or.inr (Or.inl (by decide))))))))))))))))))))))))))
  | 26, _ => Or.inr (Or.inr (Or.inr (Or.inr (Or.inr (Or.inr (Or.inr (Or.inr (Or.inr (Or.inr (Or.inr (Or.inr (Or.inr (Or.inr (Or.inr (Or.inr (Or.inr (Or.inr (Or.inr (Or.inr (Or.inr (Or.inr (Or.inr (Or.inr (Or.inr (Or.inr (Or.inl (by decide)))))))))))))))))))))))))))
  | 27, _ => Or.inr (Or.inr (Or.inr (Or.inr (Or.inr (Or.inr (Or.inr (Or.inr (Or.inr (Or.inr (Or.inr (Or.inr (Or.inr (Or.inr (Or.inr (Or.inr (Or.inr (Or.inr (Or.inr (Or.inr (Or.inr (Or.inr (Or.inr (Or.inr (Or.inr (Or.inr (Or.inr (Or.inl (by decide))))))))))))))))))))))))))))
  | 28, _ => Or.inr (Or.inr (Or.inr (Or.inr (Or.inr (Or.inr (Or.inr (Or.inr (Or.inr (Or.inr (Or.inr (Or.inr (Or.inr (Or.inr (Or.inr (Or.inr (Or.inr (Or.inr (Or.inr (Or.inr (Or.inr (Or.inr (Or.inr (Or.inr (Or.inr (Or.inr (Or.inr (Or.inr (Or.inl (by decide)))))))))))))))))))))))))))))
  | 29, _ => Or.inr (Or.inr (Or.inr (Or.inr (Or.inr (Or.inr (Or.inr (Or.inr (Or.inr (Or.inr (Or.inr (Or.inr (Or.inr (Or.inr (Or.inr (Or.inr (Or.inr (Or.inr (Or.inr (Or.inr (Or.inr (Or.inr (Or.inr (Or.inr (Or.inr (Or.inr (Or.inr (Or.inr (Or.inr (Or.inl (by decide))))))))))))))))))))))))))))))
  | 30, _ => Or.inr (Or.inr (Or.inr (Or.inr (Or.inr (Or.inr (Or.inr (Or.inr (Or.inr (Or.inr (Or.inr (Or.inr (Or.inr (Or.inr (Or.inr (Or.inr (Or.inr (Or.inr (Or.inr (Or.inr (Or.inr (Or.inr (Or.inr (Or.inr (Or.inr (Or.inr (Or.inr (Or.inr (Or.inr (Or.inr (Or.inl (by decide)))))))))))))))))))))))))))))))
  | 31, _ => Or.inr (Or.inr (Or.inr (Or.inr (Or.inr (Or.inr (Or.inr (Or.inr (Or.inr (Or.inr (Or.inr (Or.inr (Or.inr (Or.inr (Or.inr (Or.inr (Or.inr (Or.inr (Or.inr (Or.inr (Or.inr (Or.inr (Or.inr (Or.inr (Or.inr (Or.inr (Or.inr (Or.inr (Or.inr (Or.inr (Or.inr (Or.inl (by decide))))))))))))))))))))))))))))))))
  | 32, _ => Or.inr (Or.inr (Or.inr (Or.inr (Or.inr (Or.inr (Or.inr (Or.inr (Or.inr (Or.inr (Or.inr (Or.inr (Or.inr (Or.inr (Or.inr (Or.inr (Or.inr (Or.inr (Or.inr (Or.inr (Or.inr (Or.inr (Or.inr (Or.inr (Or.inr (Or.inr (Or.inr (Or.inr (Or.inr (Or.inr (Or.inr (Or.inr (Or.inl (by decide)))))))))))))))))))))))))))))))))
  | 33, _ => Or.inr (Or.inr (Or.inr (Or.inr (Or.inr (Or.inr (Or.inr (Or.inr (Or.inr (Or.inr (Or.inr (Or.inr (Or.inr (Or.inr (Or.inr (Or.inr (Or.inr (Or.inr (Or.inr (Or.inr (Or.inr (Or.inr (Or.inr (Or.inr (Or.inr (Or.inr (Or.inr (Or.inr (Or.inr (Or.inr (Or.inr (Or.inr (Or.inr (Or.inl (by decide))))))))))))))))))))))))))))))))))
  | k + 34, h => absurd h (by omega)
theorem sw34 (x : Int32) : x = 0 ∨ x = 1 ∨ x = 2 ∨ x = 3 ∨ x = 4 ∨ x = 5 ∨ x = 6 ∨ x = 7 ∨ x = 8 ∨ x = 9 ∨ x = 10 ∨ x = 11 ∨ x = 12 ∨ x = 13 ∨ x = 14 ∨ x = 15 ∨ x = 16 ∨ x = 17 ∨ x = 18 ∨ x = 19 ∨ x = 20 ∨ x = 21 ∨ x = 22 ∨ x = 23 ∨ x = 24 ∨ x = 25 ∨ x = 26 ∨ x = 27 ∨ x = 28 ∨ x = 29 ∨ x = 30 ∨ x = 31 ∨ x = 32 ∨ x = 33 ∨ (x.toInt < 0 ∨ 33 < x.toInt) := by
  rcases Int.lt_or_le x.toInt 0 with h | h
  · iterate 34 right
    exact Or.inl h
  · rcases Int.lt_or_le 33 x.toInt with h2 | h2
    · iterate 34 right
      exact Or.inr h2
    · obtain ⟨k, hk, rfl⟩ := nat_of (x := x) (hi := 33) (n := 33) (by decide) ⟨(i_le _ _).mpr (by rw [show (0 : Int32).toInt = 0 by decide]; exact h), (i_le _ _).mpr (by rw [show (33 : Int32).toInt = 33 by decide]; exact h2)⟩
      exact sw34k k hk
