set_option maxRecDepth 20000 in
theorem law_known {args : Array Value} {s : State} (hts0 : ∀ w ∈ lw_tbl, w.before args s = true) : ∃ (D : va_G) (cI cS cP : ClassId), va_K D vwCl (TY cI cS cP) s := by
  obtain ⟨c0, i0, h0⟩ := u_known (C := RX0) (T := TX0) (N := 3) (n := 3) hts0 lwi_wsX00 (hts0 (.instantiable RX0 3) (List.mem_of_getElem? (i := 78) (by decide +kernel)))
  obtain ⟨c1, i1, h1⟩ := u_known (C := RX1) (T := TX1) (N := 8) (n := 8) hts0 lwi_wsX10 (hts0 (.instantiable RX1 8) (List.mem_of_getElem? (i := 205) (by decide +kernel)))
  obtain ⟨c2, i2, h2⟩ := u_known (C := RX2) (T := TX2) (N := 9) (n := 9) hts0 lwi_wsX20 (hts0 (.instantiable RX2 9) (List.mem_of_getElem? (i := 239) (by decide +kernel)))
  obtain ⟨c3, i3, h3⟩ := u_known (C := RX3) (T := TX3) (N := 4) (n := 4) hts0 lwi_wsX30 (hts0 (.instantiable RX3 4) (List.mem_of_getElem? (i := 155) (by decide +kernel)))
  obtain ⟨c4, i4, h4⟩ := u_known (C := RX4) (T := TX4) (N := 3) (n := 3) hts0 lwi_wsX40 (hts0 (.instantiable RX4 3) (List.mem_of_getElem? (i := 133) (by decide +kernel)))
  obtain ⟨c5, i5, h5⟩ := u_known (C := RX5) (T := TX5) (N := 6) (n := 6) hts0 lwi_wsX50 (hts0 (.instantiable RX5 6) (List.mem_of_getElem? (i := 46) (by decide +kernel)))
  obtain ⟨c6, i6, h6⟩ := u_known (C := RX6) (T := TX6) (N := 4) (n := 4) hts0 lwi_wsX60 (hts0 (.instantiable RX6 4) (List.mem_of_getElem? (i := 111) (by decide +kernel)))
  obtain ⟨c7, i7, h7⟩ := u_known (C := RX7) (T := TX7) (N := 2) (n := 2) hts0 lwi_wsX70 (hts0 (.instantiable RX7 2) (List.mem_of_getElem? (i := 97) (by decide +kernel)))
  obtain ⟨c8, i8, h8⟩ := u_known (C := RX8) (T := TX8) (N := 5) (n := 5) hts0 lwi_wsX80 (hts0 (.instantiable RX8 5) (List.mem_of_getElem? (i := 176) (by decide +kernel)))
  obtain ⟨c9, i9, h9⟩ := u_known (C := RX9) (T := TX9) (N := 11) (n := 11) hts0 lwi_wsX90 (hts0 (.instantiable RX9 11) (List.mem_of_getElem? (i := 36) (by decide +kernel)))
  obtain ⟨c10, i10, h10⟩ := u_known (C := RX10) (T := TX10) (N := 40) (n := 40) hts0 lwi_wsX100 (hts0 (.instantiable RX10 40) (List.mem_of_getElem? (i := 708) (by decide +kernel)))
  obtain ⟨cI, kI, pI, f1, f2, f3⟩ := Cond.arrayClass_spec (hts0 (.arrayClass .int) (List.mem_of_getElem? (i := 74) (by decide +kernel)))
  obtain ⟨pS, cS, kS, gS1, -, gS2, gS3, gS4⟩ := Cond.arrayOver_spec (hts0 (.arrayOver (.object "DeepHole$Sheet")) (List.mem_of_getElem? (i := 44) (by decide +kernel)))
  obtain ⟨pP, cP, kP, gP1, -, gP2, gP3, gP4⟩ := Cond.arrayOver_spec (hts0 (.arrayOver (.object "DeepHole$Path")) (List.mem_of_getElem? (i := 76) (by decide +kernel)))
  refine ⟨(fun k => [c0, c1, c2, c3, c4, c5, c6, c7, c8, c9, c10].getD k c0, fun k => [i0, i1, i2, i3, i4, i5, i6, i7, i8, i9, i10].getD k i0), cI, cS, cP, fun k q hq => ?_, fun k q hq => ?_⟩
  · match k, hq with
    | 0, hq => cases hq; exact h0
    | 1, hq => cases hq; exact h1
    | 2, hq => cases hq; exact h2
    | 3, hq => cases hq; exact h3
    | 4, hq => cases hq; exact h4
    | 5, hq => cases hq; exact h5
    | 6, hq => cases hq; exact h6
    | 7, hq => cases hq; exact h7
    | 8, hq => cases hq; exact h8
    | 9, hq => cases hq; exact h9
    | 10, hq => cases hq; exact h10
    | k + 11, hq => exact absurd (List.getElem?_eq_some_iff.mp hq).1 (by show ¬ k + 11 < 11; omega)
  · match k, hq with
    | 0, hq => cases hq; exact ⟨fun n z => ⟨fun k h => (by cases h), kI, f2, pI, f3⟩, f1⟩
    | 1, hq => cases hq; exact ⟨fun N z => ⟨(fun k h => by cases h), kS, gS2, pS, gS3⟩, kS, pS, gS2, gS3, gS1, gS4⟩
    | 2, hq => cases hq; exact ⟨fun N z => ⟨(fun k h => by cases h), kP, gP2, pP, gP3⟩, kP, pP, gP2, gP3, gP1, gP4⟩
    | k + 3, hq => exact absurd (List.getElem?_eq_some_iff.mp hq).1 (by show ¬ k + 3 < 3; omega)
theorem law_NW {args : Array Value} {s : State} (hts0 : ∀ w ∈ lw_tbl, w.before args s = true) : NW s := ⟨va_Nw.of rfl (hts0 (.methodLinkNest RX2 40 yX9_cut RX9) (List.mem_of_getElem? (i := 470) (by decide +kernel))), va_Nw.of rfl (hts0 (.methodLinkNest RX5 35 yX9_cut RX9) (List.mem_of_getElem? (i := 596) (by decide +kernel))), va_Nw.of rfl (hts0 (.methodLinkNest RX5 41 yX9_roundedUp RX9) (List.mem_of_getElem? (i := 597) (by decide +kernel))), va_Nw.of rfl (hts0 (.methodLinkNest RX6 32 yX9_within RX9) (List.mem_of_getElem? (i := 335) (by decide +kernel))), va_Nw.of rfl (hts0 (.methodLinkNest RX8 56 yX9_roundedUp RX9) (List.mem_of_getElem? (i := 550) (by decide +kernel)))⟩
set_option maxRecDepth 20000 in
theorem law_ST {s : State} {b : Nat} (hts0 : ∀ w ∈ lw_tbl, w.before #[Value.ref b] s = true) (hgv : (Jvm.Cond.and given_1 narrow_1).before #[Value.ref b] s = true) : ST (fun q => s.heap.size ≤ q) s s.heap := by
  have hs := flat_of_before _ hgv
  have ha1 : (Cond.arrayOf (.static "DeepHole$Path" "ASIDE" "[I") .int).before #[Value.ref b] s = true := hs _ (by decide +kernel)
  have hn1 : (Cond.eq (.length (.static "DeepHole$Path" "ASIDE" "[I")) (.int 10)).before #[Value.ref b] s = true := hs _ (by decide +kernel)
  have he1 : ∀ j : Nat, j < 10 → (Term.elem (.static "DeepHole$Path" "ASIDE" "[I") (.int (Int32.ofNat j))).eval #[Value.ref b] s none [] s = some (.int (asd j)) := by
    intro j hj
    rcases (show j = 0 ∨ j = 1 ∨ j = 2 ∨ j = 3 ∨ j = 4 ∨ j = 5 ∨ j = 6 ∨ j = 7 ∨ j = 8 ∨ j = 9 by omega) with rfl | rfl | rfl | rfl | rfl | rfl | rfl | rfl | rfl | rfl <;> exact va_eqt (hs _ (by decide +kernel))
  obtain ⟨t1, e1, h1⟩ := va_Tof (A := fun q => s.heap.size ≤ q) (N := 10) (f := fun j => .int (asd j)) (by decide) ha1 (va_eqt hn1) he1 (fun a h => Nat.not_le.mpr h)
  have ha2 : (Cond.arrayOf (.static "DeepHole$Path" "DOWN" "[I") .int).before #[Value.ref b] s = true := hs _ (by decide +kernel)
  have hn2 : (Cond.eq (.length (.static "DeepHole$Path" "DOWN" "[I")) (.int 10)).before #[Value.ref b] s = true := hs _ (by decide +kernel)
  have he2 : ∀ j : Nat, j < 10 → (Term.elem (.static "DeepHole$Path" "DOWN" "[I") (.int (Int32.ofNat j))).eval #[Value.ref b] s none [] s = some (.int (dwn j)) := by
    intro j hj
    rcases (show j = 0 ∨ j = 1 ∨ j = 2 ∨ j = 3 ∨ j = 4 ∨ j = 5 ∨ j = 6 ∨ j = 7 ∨ j = 8 ∨ j = 9 by omega) with rfl | rfl | rfl | rfl | rfl | rfl | rfl | rfl | rfl | rfl <;> exact va_eqt (hs _ (by decide +kernel))
  obtain ⟨t2, e2, h2⟩ := va_Tof (A := fun q => s.heap.size ≤ q) (N := 10) (f := fun j => .int (dwn j)) (by decide) ha2 (va_eqt hn2) he2 (fun a h => Nat.not_le.mpr h)
  exact ⟨t1, t2, ⟨va_Zof (hts0 (.laysStatic "DeepHole$Path" "ASIDE" "[I") (List.mem_of_getElem? (i := 620) (by decide +kernel))) (hts0 (.initialized "DeepHole$Path") (List.mem_of_getElem? (i := 26) (by decide +kernel))) e1 (fun a h => Nat.not_le.mpr h), h1⟩, va_Zof (hts0 (.laysStatic "DeepHole$Path" "DOWN" "[I") (List.mem_of_getElem? (i := 622) (by decide +kernel))) (hts0 (.initialized "DeepHole$Path") (List.mem_of_getElem? (i := 26) (by decide +kernel))) e2 (fun a h => Nat.not_le.mpr h), h2⟩
