/-! The answers of the calls, and what they leave: for the class and for the reference alike. -/
def aHole (d1 s1 : Int32) : Int32 := if (0 ≤ d1 ∧ d1 ≤ 50) ∧ (0 ≤ s1 ∧ s1 ≤ d1) then 1 else -2
def sHole (d sh : Nat) (d1 s1 : Int32) : Nat × Nat := if (0 ≤ d1 ∧ d1 ≤ 50) ∧ (0 ≤ s1 ∧ s1 ≤ d1) then (d1.toNatClampNeg, s1.toNatClampNeg) else (d, sh)
def aMarg (l1 h1 : Int32) : Int32 := if (0 ≤ l1 ∧ l1 ≤ 500) ∧ (0 ≤ h1 ∧ h1 ≤ 500) then 1 else -2
def sMarg (low high : Nat) (l1 h1 : Int32) : Nat × Nat := if (0 ≤ l1 ∧ l1 ≤ 500) ∧ (0 ≤ h1 ∧ h1 ≤ 500) then (l1.toNatClampNeg, h1.toNatClampNeg) else (low, high)
def aGround (it0 it1 : Nat → Int32) (n0 n1 : Nat) (wh ix : Int32) : Int32 := if (0 ≤ wh ∧ wh ≤ 1) ∧ (0 ≤ ix ∧ ix ≤ 49) then (if wh = 0 then nI (po it0 n0 ix.toNatClampNeg) else nI (fr it1 n1 ix.toNatClampNeg)) else -2
def aBreaks (it0 it1 : Nat → Int32) (n0 n1 low high d sh : Nat) (m1 : Int32) : Int32 := if 0 ≤ m1 ∧ m1 ≤ 3000 then scanUp (hold it0 it1 n0 n1 low high m1.toNatClampNeg) sh (d - sh) else -2
def wA (it0 it1 : Nat → Int32) (n0 n1 low high i t : Nat) (z9 : Int32) : Int32 := if wl (po it0 n0) low i 0 (t - i) ≤ wh (fr it1 n1) high i 3000 (t - i) then iI (if z9 = 0 then wl (po it0 n0) low i 0 (t - i) else wh (fr it1 n1) high i 3000 (t - i)) else -3
def aWindow (it0 it1 : Nat → Int32) (n0 n1 low high : Nat) (i1 j1 e1 : Int32) : Int32 := if (0 ≤ i1 ∧ i1 ≤ 49) ∧ (i1 ≤ j1 ∧ j1 ≤ 49) ∧ (0 ≤ e1 ∧ e1 ≤ 1) then wA it0 it1 n0 n1 low high i1.toNatClampNeg (j1.toNatClampNeg + 1) e1 else -2
def aString (nb : Nat) (p1 r1 : Int32) : Int32 := if (1 ≤ p1 ∧ p1 ≤ 1000) ∧ (1 ≤ r1 ∧ r1 ≤ 50) then (if nb < 6 then nI (nb + 1) else -4) else -2
def sString (nb : Nat) (pr re : Nat → Nat) (p1 r1 : Int32) : Nat × (Nat → Nat) × (Nat → Nat) := if (1 ≤ p1 ∧ p1 ≤ 1000) ∧ (1 ≤ r1 ∧ r1 ≤ 50) then addN 6 (nb, pr, re) p1.toNatClampNeg r1.toNatClampNeg else (nb, pr, re)
def costA (b : Option (Nat × Nat)) : Int32 := match b with
  | none => -3
  | some q => nI (q.1 / 8)
def aPlan (Wf : Nat → Nat → Bool) (pr re : Nat → Nat) (nb : Nat) (d1 : Int32) : Int32 := if 1 ≤ d1 ∧ d1 ≤ 50 then costA (ent Wf pr re d1.toNatClampNeg nb nb 0) else -2
/-- the shoes of the plan, one behind the other -/
def sch (E : Nat → Nat → Option (Nat × Nat)) (nb : Nat) : Nat → Nat
  | 0 => 0
  | k + 1 => sI (sch E nb k) (E (nb - k) (sch E nb k))
def shoeA (E : Nat → Nat → Option (Nat × Nat)) (nb : Nat) (i1 : Int32) : Int32 := match E nb 0 with
  | none => -3
  | some q => if i1 < nI (q.1 % 8) then nI (sch E nb (i1.toNatClampNeg + 1)) else -2
def aShoe (Wf : Nat → Nat → Bool) (pr re : Nat → Nat) (nb : Nat) (d1 i1 : Int32) : Int32 := if (1 ≤ d1 ∧ d1 ≤ 50) ∧ 0 ≤ i1 then shoeA (ent Wf pr re d1.toNatClampNeg nb) nb i1 else -2
def aCap (cap : Nat) (v1 : Int32) : Int32 := if 1 ≤ v1 ∧ v1 ≤ 1000 then nI cap else -2
def sCap (cap : Nat) (v1 : Int32) : Nat := if 1 ≤ v1 ∧ v1 ≤ 1000 then v1.toNatClampNeg else cap
def aKick (d : Nat) (v1 w1 m1 : Int32) : Int32 := if (1 ≤ v1 ∧ v1 ≤ 1000) ∧ (1 ≤ w1 ∧ w1 ≤ 3000) ∧ (0 ≤ m1 ∧ m1 ≤ 3000) then (if d = 0 then -3 else nI (wg (fun k => gV v1 w1 m1 d k) (d + 1) (-1) 0)) else -2
def sKick (d : Nat) (am wt md v1 w1 m1 : Int32) : Int32 × Int32 × Int32 := if ((1 ≤ v1 ∧ v1 ≤ 1000) ∧ (1 ≤ w1 ∧ w1 ≤ 3000) ∧ (0 ≤ m1 ∧ m1 ≤ 3000)) ∧ d ≠ 0 then (v1, w1, m1) else (am, wt, md)
def aGas (am wt md : Int32) (d cap sh : Nat) (st0 : Int64) (p1 wh : Int32) : Int64 := if (0 ≤ p1 ∧ p1 ≤ nI d) ∧ (0 ≤ wh ∧ wh ≤ 5) then (if 0 < am then gM am wt md d cap sh st0 p1.toNatClampNeg wh else (-9223372036854775808) - (-3 : Int32).toInt64) else (-9223372036854775808) - (-2 : Int32).toInt64
def aBroken (am wt md : Int32) (d cap sh : Nat) (st0 : Int64) : Int32 := if 0 < am then wb (fun k => decide (st0 < gA am wt md d cap sh k)) (d + 1) else -3
def aBears (d cap sh : Nat) (st0 : Int64) (w1 m1 : Int32) : Int32 := if (1 ≤ w1 ∧ w1 ≤ 3000) ∧ (0 ≤ m1 ∧ m1 ≤ 3000) then (if d = 0 then -3 else nI (gb (fun v => wb (fun k => decide (st0 < gA (nI v) w1 m1 d cap sh k)) (d + 1)) 1000)) else -2
def aSwab (sw : Nat) (v1 : Int32) : Int32 := if 0 ≤ v1 ∧ v1 ≤ 1000 then nI sw else -2
def sSwab (sw : Nat) (v1 : Int32) : Nat := if 0 ≤ v1 ∧ v1 ≤ 1000 then v1.toNatClampNeg else sw
def aSpeed (sw d : Nat) (pz : Int) (m1 b1 : Int32) : Int32 := if (0 ≤ m1 ∧ m1 ≤ 3000) ∧ (1 ≤ b1 ∧ b1 ≤ nI d) then nI (ss sw m1.toNatClampNeg b1.toNatClampNeg pz) else -2
def aTrip (sw d : Nat) (pz : Int) (m1 : Int32) : Int32 := if 0 ≤ m1 ∧ m1 ≤ 3000 then iI (trip sw d m1.toNatClampNeg pz) else -2
def aLight (it0 it1 : Nat → Int32) (n0 n1 low high sw d sh : Nat) (t1 : Int32) : Int32 := if 0 ≤ t1 ∧ t1 ≤ 100000 then (if wl (po it0 n0) low sh 0 (d - sh) ≤ wh (fr it1 n1) high sh 3000 (d - sh) then fst1 (inTime sw d t1.toNatClampNeg (hpz it0 n0 sh d)) (wl (po it0 n0) low sh 0 (d - sh)).toNat ((wh (fr it1 n1) high sh 3000 (d - sh)).toNat + 1 - (wl (po it0 n0) low sh 0 (d - sh)).toNat) else -3) else -2
def aPull (np : Nat) (f1 e1 : Int32) : Int32 := if (10 ≤ f1 ∧ f1 ≤ 10000) ∧ (0 ≤ e1 ∧ e1 ≤ 100000) then (if np < 20 then nI (np + 1) else -4) else -2
def sPull (np : Nat) (fo sf : Nat → Nat) (f1 e1 : Int32) : Nat × (Nat → Nat) × (Nat → Nat) := if (10 ≤ f1 ∧ f1 ≤ 10000) ∧ (0 ≤ e1 ∧ e1 ≤ 100000) then addN 20 (np, fo, sf) f1.toNatClampNeg e1.toNatClampNeg else (np, fo, sf)
def aEnds (f1 e1 k1 : Int32) : Int32 := if (0 ≤ f1 ∧ f1 ≤ 9) ∧ (0 ≤ e1 ∧ e1 ≤ 1000) ∧ (1 ≤ k1 ∧ k1 ≤ 1000) then 1 else -2
def sEnds (fe te kk : Nat) (f1 e1 k1 : Int32) : Nat × Nat × Nat := if (0 ≤ f1 ∧ f1 ≤ 9) ∧ (0 ≤ e1 ∧ e1 ≤ 1000) ∧ (1 ≤ k1 ∧ k1 ≤ 1000) then (f1.toNatClampNeg, e1.toNatClampNeg, k1.toNatClampNeg) else (fe, te, kk)
def aFree (np : Nat) (fo sf : Nat → Nat) (fe te kk : Nat) (e1 : Int32) : Int64 := if 0 ≤ e1 ∧ e1 ≤ 1 then (if np = 0 then (-9223372036854775808) - (-3 : Int32).toInt64 else if phi fo sf fe te kk np < plo fo sf fe te kk np then (-9223372036854775808) - (-3 : Int32).toInt64 else if e1 = 0 then lI (plo fo sf fe te kk np) else lI (phi fo sf fe te kk np)) else (-9223372036854775808) - (-2 : Int32).toInt64
theorem win1 {i j : Int32} (h1 : 0 ≤ i ∧ i ≤ 49) (h2 : 0 ≤ j ∧ j ≤ 49) (h : ¬ j < i) : i ≤ j ∧ j ≤ 49 := ⟨by rw [i_lt] at h; rw [i_le]; omega, h2.2⟩
theorem win0 {i j : Int32} (h1 : 0 ≤ i ∧ i ≤ 49) (h2 : ¬ (0 ≤ j ∧ j ≤ 49)) : ¬ (i ≤ j ∧ j ≤ 49) := fun q => h2 ⟨by have a := (i_le _ _).mp h1.1; have b := (i_le _ _).mp q.1; rw [i_le]; omega, q.2⟩
theorem win2 {i j : Int32} (h : j < i) : ¬ (i ≤ j ∧ j ≤ 49) := fun q => by have a := (i_lt _ _).mp h; have b := (i_le _ _).mp q.1; omega
theorem iI_toN {z : Int} (h : 0 ≤ z) : iI z = nI z.toNat := by rw [← iI_nat]; congr 1; omega
/-- of the plan's count: a worth's rest by eight is the number of strings -/
theorem sel_from {Wt : Nat → Bool} {pri : Nat} {rs : Nat → Option Nat} : ∀ (n t : Nat) (b : Option (Nat × Nat)) (q : Nat × Nat), sel Wt pri rs t n b = some q → b = some q ∨ (t ≤ q.2 ∧ q.2 < t + n ∧ ∃ r, rs q.2 = some r ∧ q.1 = pri * q.2 * 8 + 1 + r)
  | 0, _, _, _, h => Or.inl h
  | n + 1, t, b, q, h => by
    rw [sel] at h
    rcases sel_from n (t + 1) _ q h with h | ⟨h1, h2, h3⟩
    · by_cases hw : Wt t = true
      · cases hr : rs t with
        | none => rw [cnd_none hr] at h; exact Or.inl h
        | some r =>
          rw [cnd_some hw hr] at h
          cases b with
          | none =>
            simp only [pick] at h
            cases h
            exact Or.inr ⟨Nat.le_refl t, by show t < t + (n + 1); omega, r, hr, rfl⟩
          | some b =>
            simp only [pick] at h
            split at h
            · cases h
              exact Or.inr ⟨Nat.le_refl t, by show t < t + (n + 1); omega, r, hr, rfl⟩
            · exact Or.inl h
      · rw [cnd_out hw] at h; exact Or.inl h
    · exact Or.inr ⟨by omega, by omega, h3⟩
theorem ent_from {Wf : Nat → Nat → Bool} {pr re : Nat → Nat} {d nb j f : Nat} {q : Nat × Nat} (h : ent Wf pr re d nb (j + 1) f = some q) : f < q.2 ∧ q.2 ≤ d ∧ ∃ r, rst d (ent Wf pr re d nb j) q.2 = some r ∧ q.1 = pr (nb - (j + 1)) * q.2 * 8 + 1 + r := by
  rw [ent] at h
  rcases sel_from _ _ _ q h with h | ⟨h1, h2, h3⟩
  · cases h
  · exact ⟨by omega, by omega, h3⟩
theorem ent_cnt {Wf : Nat → Nat → Bool} {pr re : Nat → Nat} {d nb : Nat} : ∀ (j f : Nat) (q : Nat × Nat), j ≤ 6 → ent Wf pr re d nb j f = some q → 1 ≤ q.1 % 8 ∧ q.1 % 8 ≤ j
  | 0, _, _, _, h => by cases h
  | j + 1, f, q, hj, h => by
    obtain ⟨h1, h2, r, h3, h4⟩ := ent_from h
    unfold rst at h3
    split at h3
    · cases h3; omega
    · cases he : ent Wf pr re d nb j q.2 with
      | none => rw [he] at h3; cases h3
      | some q' =>
        rw [he] at h3
        cases h3
        have := ent_cnt j q.2 q' (by omega) he
        have e : q.1 = pr (nb - (j + 1)) * q.2 * 8 + 1 + q'.1 := h4
        omega
theorem sch_ok {Wf : Nat → Nat → Bool} {pr re : Nat → Nat} {d nb : Nat} {q0 : Nat × Nat} (hd : 1 ≤ d) (hnb : nb ≤ 6) (h0 : ent Wf pr re d nb nb 0 = some q0) : ∀ k, k < q0.1 % 8 → k < nb ∧ sch (ent Wf pr re d nb) nb k < d ∧ ∃ q, ent Wf pr re d nb (nb - k) (sch (ent Wf pr re d nb) nb k) = some q ∧ q.1 % 8 + k = q0.1 % 8
  | 0, h => by
    have hc := ent_cnt nb 0 q0 hnb h0
    exact ⟨by omega, hd, q0, h0, by omega⟩
  | k + 1, h => by
    obtain ⟨h1, h2, q, h3, h4⟩ := sch_ok hd hnb h0 k (by omega)
    have hc0 := ent_cnt nb 0 q0 hnb h0
    obtain ⟨j, hj⟩ : ∃ j, nb - k = j + 1 := ⟨nb - k - 1, by omega⟩
    have h3' := h3
    rw [hj] at h3'
    obtain ⟨f1, f2, r, f3, f4⟩ := ent_from h3'
    have es : sch (ent Wf pr re d nb) nb (k + 1) = q.2 := by rw [sch, h3]; rfl
    unfold rst at f3
    split at f3
    · exfalso
      cases f3
      omega
    · rename_i hne
      cases he : ent Wf pr re d nb j q.2 with
      | none => rw [he] at f3; cases f3
      | some q' =>
        rw [he] at f3
        cases f3
        have e : q.1 = pr (nb - (j + 1)) * q.2 * 8 + 1 + q'.1 := f4
        have hc := ent_cnt j q.2 q' (by omega) he
        refine ⟨by omega, by rw [es]; omega, q', ?_, by omega⟩
        rw [es, show nb - (k + 1) = j by omega]
        exact he
