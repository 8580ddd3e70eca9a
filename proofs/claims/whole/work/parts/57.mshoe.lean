/-! For the reference: what its plan and its shoes answer. -/
theorem ent_pos {Wf : Nat → Nat → Bool} {pr re : Nat → Nat} {d nb f : Nat} {q : Nat × Nat} (h : ent Wf pr re d nb nb f = some q) : 0 < nb := by
  cases nb with
  | zero => cases h
  | succ n => exact Nat.succ_pos n
theorem costA_m {e : Option (Nat × Nat)} (h : cI0 e = -1) (hb : ∀ x, e = some x → x.1 ≤ 2900000) : -3 = costA e := by
  cases e with
  | none => rfl
  | some q => exact absurd h (nI_m1 (n := q.1 / 8) (by have := hb q rfl; omega))
theorem costA_p {e : Option (Nat × Nat)} (h : ¬ cI0 e = -1) : cI0 e = costA e := by
  cases e with
  | none => exact absurd rfl h
  | some q => rfl
theorem cI0_n {e : Option (Nat × Nat)} (h : cI0 e = -1) (hb : ∀ x, e = some x → x.1 ≤ 2900000) : e = none := by
  cases e with
  | none => rfl
  | some q => exact absurd h (nI_m1 (n := q.1 / 8) (by have := hb q rfl; omega))
theorem cI0_s {e : Option (Nat × Nat)} (h : ¬ cI0 e = -1) : ∃ q, e = some q := by
  cases e with
  | none => exact absurd rfl h
  | some q => exact ⟨q, rfl⟩
theorem cREL_at {c m b : Int32} {e : Option (Nat × Nat)} {q : Nat × Nat} (h : cREL c m b e) (he : e = some q) : c = nI (q.1 / 8) ∧ m = nI (q.1 % 8) ∧ b = nI q.2 := by rw [he] at h; exact h
theorem ent_lim {Wf : Nat → Nat → Bool} {pr re : Nat → Nat} {d nb : Nat} (hp : ∀ j, pr j ≤ 1000) (hd : d ≤ 50) (hnb : nb ≤ 6) : ∀ x, ent Wf pr re d nb nb 0 = some x → x.1 ≤ 2900000 := fun x h => by
  have := ent_le hp hd nb 0 x (Nat.zero_le d) h
  omega
theorem shoe_n {E : Nat → Nat → Option (Nat × Nat)} {nb : Nat} {i1 : Int32} (h : E nb 0 = none) : -3 = shoeA E nb i1 := by unfold shoeA; rw [h]
theorem shoe_o {E : Nat → Nat → Option (Nat × Nat)} {nb i : Nat} {q : Nat × Nat} (h : E nb 0 = some q) (hi : i < 2 ^ 31) (hc : ¬ i < q.1 % 8) : -2 = shoeA E nb (nI i) := by
  unfold shoeA; rw [h]; show -2 = if nI i < nI (q.1 % 8) then _ else _; rw [if_neg (fun x => hc ((nI_ltI hi (by omega)).mp x))]
theorem shoe_i {E : Nat → Nat → Option (Nat × Nat)} {nb i k : Nat} {q : Nat × Nat} (h : E nb 0 = some q) (hi : i < 2 ^ 31) (hc : i < q.1 % 8) (hk : k = i + 1) : nI (sch E nb k) = shoeA E nb (nI i) := by
  unfold shoeA; rw [h]; show _ = if nI i < nI (q.1 % 8) then _ else _; rw [if_pos ((nI_ltI hi (by omega)).mpr hc), nI_clamp hi, hk]
theorem sch_at {E : Nat → Nat → Option (Nat × Nat)} {nb k : Nat} {q : Nat × Nat} (h : E (nb - k) (sch E nb k) = some q) : nI q.2 = nI (sch E nb (k + 1)) := by rw [sch, h]; rfl
