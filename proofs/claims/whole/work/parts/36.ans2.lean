theorem nn_of {x : Int32} (h : 0 ≤ x) : ∃ j : Nat, j < 2 ^ 31 ∧ x = nI j := nI_of (fun q => by have a := (i_le _ _).mp h; have b := (i_lt _ _).mp q; omega)
theorem addN_1 {cap n x y u1 : Nat} {f g u2 u3 : Nat → Nat} (h : (u1, u2, u3) = addN cap (n, f, g) x y) (hc : n < cap) : u1 = n + 1 := by
  unfold addN at h
  rw [if_pos hc] at h
  exact (Prod.mk.inj h).1
