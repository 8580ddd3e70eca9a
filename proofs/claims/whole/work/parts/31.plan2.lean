theorem wR_none {o : Option Nat} (h : wR o = 2147483647) (hb : ∀ r, o = some r → r ≤ 2400000) : o = none := by
  cases o with
  | none => rfl
  | some r =>
    exfalso
    have h1 := (i_eq _ _).mp h
    have h2 := hb r rfl
    rw [show wR (some r) = nI r from rfl, nI_toInt (by omega)] at h1
    have h3 : (2147483647 : Int32).toInt = 2147483647 := by decide
    omega
theorem wI_some {b : Option (Nat × Nat)} (h : ¬ wI b = 2147483647) : b.isSome = true := by
  cases b with
  | none => exact absurd rfl h
  | some q => rfl
theorem wI_none {b : Option (Nat × Nat)} (h : wI b = 2147483647) (hb : ∀ q, b = some q → q.1 ≤ 2900000) : ¬ b.isSome = true := by
  cases b with
  | none => exact fun h => by cases h
  | some q =>
    exfalso
    have h1 := (i_eq _ _).mp h
    have h2 := hb q rfl
    rw [show wI (some q) = nI q.1 from rfl, nI_toInt (by omega)] at h1
    have h3 : (2147483647 : Int32).toInt = 2147483647 := by decide
    omega
theorem rst_le {Wf : Nat → Nat → Bool} {pr re : Nat → Nat} {d nb j : Nat} (hp : ∀ k, pr k ≤ 1000) (hd : d ≤ 50) (hj : j ≤ 5) : ∀ t r, rst d (ent Wf pr re d nb j) t = some r → r ≤ 2400000 := by
  intro t r hr
  unfold rst at hr
  split at hr
  · cases hr; omega
  · cases he : ent Wf pr re d nb j t with
    | none => rw [he] at hr; cases hr
    | some q =>
      rw [he] at hr
      cases hr
      rcases Nat.lt_or_ge d t with z | z
      · cases j with
        | zero => cases he
        | succ j =>
          rw [ent, show d - t = 0 by omega, sel] at he
          cases he
      · have := ent_le hp hd j t q z he
        show q.1 ≤ 2400000
        omega
theorem ent_at {Wf : Nat → Nat → Bool} {pr re : Nat → Nat} {d nb q g : Nat} (h1 : 0 < q) (h2 : q ≤ nb) : ent Wf pr re d nb (nb - (q - 1)) g = sel (fun t => Wf g t && decide (t ≤ re (q - 1))) (pr (q - 1)) (rst d (ent Wf pr re d nb (nb - q))) (g + 1) (d - g) none := by
  rw [show nb - (q - 1) = (nb - q) + 1 by omega, ent, show nb - (nb - q + 1) = q - 1 by omega]
theorem rst_w {Wf : Nat → Nat → Bool} {pr re : Nat → Nat} {d nb q : Nat} {wo : Nat → Int32} (h1 : 0 < q) (h2 : q ≤ nb) (hE : ∀ i f, q ≤ i → i < nb → f < d → wo (i * 51 + f) = wI (ent Wf pr re d nb (nb - i) f)) : ∀ t, t ≤ d → (if t = d then 0 else if (q - 1) + 1 < nb then wo (((q - 1) + 1) * 51 + t) else 2147483647) = wR (rst d (ent Wf pr re d nb (nb - q)) t) := by
  intro t ht
  unfold rst
  by_cases e : t = d
  · rw [if_pos e, if_pos e]; rfl
  · rw [if_neg e, if_neg e]
    by_cases z : q < nb
    · rw [if_pos (by omega), show (q - 1) + 1 = q by omega, hE q t (Nat.le_refl q) z (by omega)]
      cases ent Wf pr re d nb (nb - q) t <;> rfl
    · rw [if_neg (by omega), show nb - q = 0 by omega]; rfl
theorem dps_out2 {Wf : Nat → Bool} {f : Nat} (hm : ∀ t, f ≤ t → Wf (t + 1) = true → Wf t = true) (n t : Nat) (h1 : dps Wf f n < t) (h2 : t ≤ f + n) : Wf t = false := by
  have key : ∀ (n i t : Nat), f ≤ i → dps Wf i n < t → t ≤ i + n → Wf t = false := by
    intro n
    induction n with
    | zero => intro i t hi h1 h2; exact absurd h1 (by rw [dps]; omega)
    | succ n ih =>
      intro i t hi h1 h2
      rw [dps] at h1
      by_cases hw : Wf (i + 1) = true
      · rw [if_pos hw] at h1
        exact ih (i + 1) t (by omega) h1 (by omega)
      · rw [if_neg hw] at h1
        have down : ∀ j, Wf (i + 1 + j) = false := by
          intro j
          induction j with
          | zero => exact Bool.eq_false_iff.mpr hw
          | succ j ihj => exact Bool.eq_false_iff.mpr (fun h => by rw [hm (i + 1 + j) (by omega) h] at ihj; cases ihj)
        have := down (t - (i + 1))
        rw [show i + 1 + (t - (i + 1)) = t by omega] at this
        exact this
  exact key n f t (Nat.le_refl f) h1 h2
