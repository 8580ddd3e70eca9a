set_option maxHeartbeats 4000000 in
set_option maxRecDepth 100000 in
theorem c_X5_add {l : Launch} {D : va_G} {cI cS cP : ClassId} {sz : Nat} {u0 fa ta np fe te kk : Nat} {fo sf : Nat → Nat} {x y : Nat} (hnp : np ≤ 20) : Met l yX5_add wsX5_add ({ frames := 0, cells := 0, slots := 0, locals := 0 }) (PC D (TY cI cS cP) [.ref u0, .int (nI x), .int (nI y)] sz [(u0, .inr (5, [.ref fa, .ref ta, .int (nI np), .int (nI fe), .int (nI te), .int (nI kk)])), (fa, .inl (cI, 20, .inl (nF fo))), (ta, .inl (cI, 20, .inl (nF sf)))]) (QI D (fun (r : Int32) (u : Nat × (Nat → Nat) × (Nat → Nat)) => (r = if (np < 20) then 1 else 0) ∧ u = addN 20 (np, fo, sf) x y) (fun (u : Nat × (Nat → Nat) × (Nat → Nat)) => [(u0, .inr (5, [.ref fa, .ref ta, .int (nI u.1), .int (nI fe), .int (nI te), .int (nI kk)])), (fa, .inl (cI, 20, .inl (nF u.2.1))), (ta, .inl (cI, 20, .inl (nF u.2.2)))]) (va_A [(u0, .inr (5, [.ref fa, .ref ta, .int (nI np), .int (nI fe), .int (nI te), .int (nI kk)])), (fa, .inl (cI, 20, .inl (nF fo))), (ta, .inl (cI, 20, .inl (nF sf)))] sz)) 0 0 (va_A [(u0, .inr (5, [.ref fa, .ref ta, .int (nI np), .int (nI fe), .int (nI te), .int (nI kk)])), (fa, .inl (cI, 20, .inl (nF fo))), (ta, .inl (cI, 20, .inl (nF sf)))] sz) := by
  refine Met.ofW (cc := cX5_add) (maxL := 3) (ret := (some .boolean)) (by decide) rfl ?_
  intro p e s m args below meth c s₁ B hml hv
  obtain ⟨rfl, hsz, hP, hK, hD0, hN⟩ := hv
  have hx := B.exec
  have hb := B.bytes
  have hr := B.returns
  have hts := atoms_spec (ws := wsX5_add) B.pre
  have hown : s.vm.findClass RX5 = some m.cls := findClass_of_methodNamed B.named
  have hlocks := B.notSynchronized
  subst hsz
  have iX5 : ∀ w ∈ u_ws RX5 TX5 6, w ∈ wsX5_add := by decide +kernel
  have hD := hD0.self (sz := s.heap.size)
  generalize hAe : va_A [(u0, .inr (5, [.ref fa, .ref ta, .int (nI np), .int (nI fe), .int (nI te), .int (nI kk)])), (fa, .inl (cI, 20, .inl (nF fo))), (ta, .inl (cI, 20, .inl (nF sf)))] s.heap.size = A at hD ⊢
  have hA : ∀ q : Nat, s.heap.size ≤ q → A q := fun q h => by rw [← hAe]; exact Or.inr h
  have hS : va_S A s.heap s.heap [] := va_S.rf
  have hP : va_P D vwCl [(u0, .inr (5, [.ref fa, .ref ta, .int (nI np), .int (nI fe), .int (nI te), .int (nI kk)])), (fa, .inl (cI, 20, .inl (nF fo))), (ta, .inl (cI, 20, .inl (nF sf)))] s.heap := hP
  have hl := lv_entry ([.ref u0, .int (nI x), .int (nI y)]) (n := 3) (Nat.le_of_ble_eq_true rfl)
  rw [lg_entry_eq]
  generalize (lg_sl ([.ref u0, .int (nI x), .int (nI y)]) ++ List.replicate (3 - (lg_sl ([.ref u0, .int (nI x), .int (nI y)])).length) Slot.unset).toArray = ls at hl ⊢
  have hl : lv_has ls 3 [(0, .ref u0), (1, .int (nI x)), (2, .int (nI y))] := hl
  refine lv_aload_n hx hb dX5_add_0 rfl (lv_at hl 0 rfl) ?_
  refine va_get (D := D) (ci := 5) (v := .int (nI np)) (C := RX5) (T := TX5) (N := 6) hx hb hts iX5 hown hK hP 0 rfl rfl 2 (by decide) (hts (.fieldLink RX5 20 "DeepHole$Pulls" "number" "I") (by decide +kernel)) (fun _ h9 => h9) rfl dX5_add_1 ?_
  refine lv_bipush (v := 20) hx hb dX5_add_4 (by decide) ?_
  refine lv_icmp_lt (tgt := 11) hx hb dX5_add_6 (by decide) (fun c_6 => ?_) (fun c_6 => ?_)
  ·
    have c_6 := n_lt (a := np) (b := 20) c_6 (by omega) (by omega)
    refine lv_aload_n hx hb dX5_add_11 rfl (lv_at hl 0 rfl) ?_
    refine va_get (D := D) (ci := 5) (v := .ref fa) (C := RX5) (T := TX5) (N := 6) hx hb hts iX5 hown hK hP 0 rfl rfl 0 (by decide) (hts (.fieldLink RX5 9 "DeepHole$Pulls" "forces" "[I") (by decide +kernel)) (fun _ h9 => h9) rfl dX5_add_12 ?_
    refine lv_aload_n hx hb dX5_add_15 rfl (lv_at hl 0 rfl) ?_
    refine va_get (D := D) (ci := 5) (v := .int (nI np)) (C := RX5) (T := TX5) (N := 6) hx hb hts iX5 hown hK hP 0 rfl rfl 2 (by decide) (hts (.fieldLink RX5 20 "DeepHole$Pulls" "number" "I") (by decide +kernel)) (fun _ h9 => h9) rfl dX5_add_16 ?_
    refine lv_iload_n hx hb dX5_add_19 rfl (lv_at hl 1 rfl) ?_
    refine wr_i hx hb hK hP hD hS 1 0 rfl rfl (k := np) (by omega) (by decide) dX5_add_20 (fun H locs hP hD hS => ?_)
    rw [nF_upd] at hP hD
    have hP : va_P D vwCl [(u0, .inr (5, [.ref fa, .ref ta, .int (nI np), .int (nI fe), .int (nI te), .int (nI kk)])), (fa, .inl (cI, 20, .inl (nF (updN fo np x)))), (ta, .inl (cI, 20, .inl (nF sf)))] H := hP
    have hD : va_D A [(u0, .inr (5, [.ref fa, .ref ta, .int (nI np), .int (nI fe), .int (nI te), .int (nI kk)])), (fa, .inl (cI, 20, .inl (nF (updN fo np x)))), (ta, .inl (cI, 20, .inl (nF sf)))] := hD
    refine lv_aload_n hx hb dX5_add_21 rfl (lv_at hl 0 rfl) ?_
    refine va_get (D := D) (ci := 5) (v := .ref ta) (C := RX5) (T := TX5) (N := 6) hx hb hts iX5 hown hK hP 0 rfl rfl 1 (by decide) (hts (.fieldLink RX5 13 "DeepHole$Pulls" "stretches" "[I") (by decide +kernel)) (fun _ h9 => h9) rfl dX5_add_22 ?_
    refine lv_aload_n hx hb dX5_add_25 rfl (lv_at hl 0 rfl) ?_
    refine va_get (D := D) (ci := 5) (v := .int (nI np)) (C := RX5) (T := TX5) (N := 6) hx hb hts iX5 hown hK hP 0 rfl rfl 2 (by decide) (hts (.fieldLink RX5 20 "DeepHole$Pulls" "number" "I") (by decide +kernel)) (fun _ h9 => h9) rfl dX5_add_26 ?_
    refine lv_iload_n hx hb dX5_add_29 rfl (lv_at hl 2 rfl) ?_
    refine wr_i hx hb hK hP hD hS 2 0 rfl rfl (k := np) (by omega) (by decide) dX5_add_30 (fun H locs hP hD hS => ?_)
    rw [nF_upd] at hP hD
    have hP : va_P D vwCl [(u0, .inr (5, [.ref fa, .ref ta, .int (nI np), .int (nI fe), .int (nI te), .int (nI kk)])), (fa, .inl (cI, 20, .inl (nF (updN fo np x)))), (ta, .inl (cI, 20, .inl (nF (updN sf np y))))] H := hP
    have hD : va_D A [(u0, .inr (5, [.ref fa, .ref ta, .int (nI np), .int (nI fe), .int (nI te), .int (nI kk)])), (fa, .inl (cI, 20, .inl (nF (updN fo np x)))), (ta, .inl (cI, 20, .inl (nF (updN sf np y))))] := hD
    refine lv_aload_n hx hb dX5_add_31 rfl (lv_at hl 0 rfl) ?_
    refine lv_dup hx hb dX5_add_32 rfl ?_
    refine va_get (D := D) (ci := 5) (v := .int (nI np)) (C := RX5) (T := TX5) (N := 6) hx hb hts iX5 hown hK hP 0 rfl rfl 2 (by decide) (hts (.fieldLink RX5 20 "DeepHole$Pulls" "number" "I") (by decide +kernel)) (fun _ h9 => h9) rfl dX5_add_33 ?_
    refine lv_iconst (v := 1) hx hb dX5_add_36 (by decide) ?_
    refine lv_iadd hx hb dX5_add_37 ?_
    refine lv_eqi (z := nI (np + 1)) (nI_add _ _) ?_
    refine va_put (D := D) (ci := 5) (v := .int (nI (np + 1))) (ty := .int) (C := RX5) (T := TX5) (N := 6) hx hb hts iX5 tyX5 tyX5_ok nmX5 hown hK hP hD hS 0 rfl rfl 2 (by decide) (hts (.fieldLink RX5 20 "DeepHole$Pulls" "number" "I") (by decide +kernel)) (fun _ h9 => h9) rfl (by decide +kernel) rfl rfl (Nat.le_of_ble_eq_true rfl) dX5_add_38 (fun H locs hP hD hS => ?_)
    have hP : va_P D vwCl [(u0, .inr (5, [.ref fa, .ref ta, .int (nI (np + 1)), .int (nI fe), .int (nI te), .int (nI kk)])), (fa, .inl (cI, 20, .inl (nF (updN fo np x)))), (ta, .inl (cI, 20, .inl (nF (updN sf np y))))] H := hP
    have hD : va_D A [(u0, .inr (5, [.ref fa, .ref ta, .int (nI (np + 1)), .int (nI fe), .int (nI te), .int (nI kk)])), (fa, .inl (cI, 20, .inl (nF (updN fo np x)))), (ta, .inl (cI, 20, .inl (nF (updN sf np y))))] := hD
    refine lv_iconst (v := 1) hx hb dX5_add_41 (by decide) ?_
    have hP9 := hP.sub (ws' := [(u0, .inr (5, [.ref fa, .ref ta, .int (nI (np + 1)), .int (nI fe), .int (nI te), .int (nI kk)])), (fa, .inl (cI, 20, .inl (nF (updN fo np x)))), (ta, .inl (cI, 20, .inl (nF (updN sf np y))))]) [0, 1, 2] rfl
    have hD9 := hD.sub (ws' := [(u0, .inr (5, [.ref fa, .ref ta, .int (nI (np + 1)), .int (nI fe), .int (nI te), .int (nI kk)])), (fa, .inl (cI, 20, .inl (nF (updN fo np x)))), (ta, .inl (cI, 20, .inl (nF (updN sf np y))))]) [0, 1, 2] (by decide) rfl
    exact W.zret (v := 1) hx hb hr (rfl) (fun t ht hW => ⟨⟨_, (np + 1, updN fo np x, updN sf np y), rfl, (by exact ⟨b_1 (by omega), by unfold addN; rw [if_pos (by simp; omega)]⟩), by rw [ht]; exact hP9, hD9⟩, hS.F ht⟩) hS.2.2 dX5_add_42
  ·
    have c_6 := n_nlt (a := np) (b := 20) c_6 (by omega) (by omega)
    refine lv_iconst (v := 0) hx hb dX5_add_9 (by decide) ?_
    have hP9 := hP.sub (ws' := [(u0, .inr (5, [.ref fa, .ref ta, .int (nI np), .int (nI fe), .int (nI te), .int (nI kk)])), (fa, .inl (cI, 20, .inl (nF fo))), (ta, .inl (cI, 20, .inl (nF sf)))]) [0, 1, 2] rfl
    have hD9 := hD.sub (ws' := [(u0, .inr (5, [.ref fa, .ref ta, .int (nI np), .int (nI fe), .int (nI te), .int (nI kk)])), (fa, .inl (cI, 20, .inl (nF fo))), (ta, .inl (cI, 20, .inl (nF sf)))]) [0, 1, 2] (by decide) rfl
    exact W.zret (v := 0) hx hb hr (rfl) (fun t ht hW => ⟨⟨_, (np, fo, sf), rfl, (by exact ⟨b_0 (by omega), by unfold addN; rw [if_neg (by simp; omega)]⟩), by rw [ht]; exact hP9, hD9⟩, hS.F ht⟩) hS.2.2 dX5_add_10

set_option maxHeartbeats 4000000 in
set_option maxRecDepth 100000 in
theorem c_X5_narrow {l : Launch} {D : va_G} {cI cS cP : ClassId} {sz : Nat} {u0 fa ta np fe te kk : Nat} {fo sf : Nat → Nat} {sp : Nat} (hnp : np ≤ 20) (hfo : ∀ j, j < np → 10 ≤ fo j ∧ fo j ≤ 10000) (hsf : ∀ j, sf j ≤ 100000) (hfe : fe ≤ 9) (hte : te ≤ 1000) (hkk : kk ≤ 1000) : Met l yX5_narrow wsX5_narrow ({ frames := 2, cells := 0, slots := 0, locals := 47 }) (PC D (TY cI cS cP) [.ref u0, .ref sp] sz [(u0, .inr (5, [.ref fa, .ref ta, .int (nI np), .int (nI fe), .int (nI te), .int (nI kk)])), (fa, .inl (cI, 20, .inl (nF fo))), (ta, .inl (cI, 20, .inl (nF sf))), (sp, .inr (7, [.long (lI 0), .long (lI 9223372036854775807)]))]) (QV D (fun (u : Unit) => True) (fun (u : Unit) => [(u0, .inr (5, [.ref fa, .ref ta, .int (nI np), .int (nI fe), .int (nI te), .int (nI kk)])), (fa, .inl (cI, 20, .inl (nF fo))), (ta, .inl (cI, 20, .inl (nF sf))), (sp, .inr (7, [.long (lI (plo fo sf fe te kk np)), .long (lI (phi fo sf fe te kk np))]))]) (va_A [(u0, .inr (5, [.ref fa, .ref ta, .int (nI np), .int (nI fe), .int (nI te), .int (nI kk)])), (fa, .inl (cI, 20, .inl (nF fo))), (ta, .inl (cI, 20, .inl (nF sf))), (sp, .inr (7, [.long (lI 0), .long (lI 9223372036854775807)]))] sz)) 0 0 (va_A [(u0, .inr (5, [.ref fa, .ref ta, .int (nI np), .int (nI fe), .int (nI te), .int (nI kk)])), (fa, .inl (cI, 20, .inl (nF fo))), (ta, .inl (cI, 20, .inl (nF sf))), (sp, .inr (7, [.long (lI 0), .long (lI 9223372036854775807)]))] sz) := by
  refine Met.ofW (cc := cX5_narrow) (maxL := 7) (ret := none) (by decide) rfl ?_
  intro p e s m args below meth c s₁ B hml hv
  obtain ⟨rfl, hsz, hP, hK, hD0, hN⟩ := hv
  have hx := B.exec
  have hb := B.bytes
  have hr := B.returns
  have hts := atoms_spec (ws := wsX5_narrow) B.pre
  have hown : s.vm.findClass RX5 = some m.cls := findClass_of_methodNamed B.named
  have hlocks := B.notSynchronized
  subst hsz
  have iX5 : ∀ w ∈ u_ws RX5 TX5 6, w ∈ wsX5_narrow := by decide +kernel
  have hD := hD0.self (sz := s.heap.size)
  generalize hAe : va_A [(u0, .inr (5, [.ref fa, .ref ta, .int (nI np), .int (nI fe), .int (nI te), .int (nI kk)])), (fa, .inl (cI, 20, .inl (nF fo))), (ta, .inl (cI, 20, .inl (nF sf))), (sp, .inr (7, [.long (lI 0), .long (lI 9223372036854775807)]))] s.heap.size = A at hD ⊢
  have hA : ∀ q : Nat, s.heap.size ≤ q → A q := fun q h => by rw [← hAe]; exact Or.inr h
  have hS : va_S A s.heap s.heap [] := va_S.rf
  have hP : va_P D vwCl [(u0, .inr (5, [.ref fa, .ref ta, .int (nI np), .int (nI fe), .int (nI te), .int (nI kk)])), (fa, .inl (cI, 20, .inl (nF fo))), (ta, .inl (cI, 20, .inl (nF sf))), (sp, .inr (7, [.long (lI 0), .long (lI 9223372036854775807)]))] s.heap := hP
  have hl := lv_entry ([.ref u0, .ref sp]) (n := 7) (Nat.le_of_ble_eq_true rfl)
  rw [lg_entry_eq]
  generalize (lg_sl ([.ref u0, .ref sp]) ++ List.replicate (7 - (lg_sl ([.ref u0, .ref sp])).length) Slot.unset).toArray = ls at hl ⊢
  have hl : lv_has ls 7 [(0, .ref u0), (1, .ref sp)] := hl
  refine lv_iconst (v := 0) hx hb dX5_narrow_0 (by decide) ?_
  refine lv_istore_n (lv' := [(2, .int 0), (0, .ref u0), (1, .ref sp)]) hx hb dX5_narrow_1 rfl hl (by decide) rfl (fun ls hl => ?_)
  refine lp_w (I := fun zz9 H locs ls => ∃ (k : Nat), zz9 = np - k ∧ (k ≤ np) ∧ va_P D vwCl [(u0, .inr (5, [.ref fa, .ref ta, .int (nI np), .int (nI fe), .int (nI te), .int (nI kk)])), (fa, .inl (cI, 20, .inl (nF fo))), (ta, .inl (cI, 20, .inl (nF sf))), (sp, .inr (7, [.long (lI (plo fo sf fe te kk k)), .long (lI (phi fo sf fe te kk k))]))] H ∧ va_D A [(u0, .inr (5, [.ref fa, .ref ta, .int (nI np), .int (nI fe), .int (nI te), .int (nI kk)])), (fa, .inl (cI, 20, .inl (nF fo))), (ta, .inl (cI, 20, .inl (nF sf))), (sp, .inr (7, [.long (lI (plo fo sf fe te kk k)), .long (lI (phi fo sf fe te kk k))]))] ∧ va_S A s.heap H locs ∧ lv_has ls 7 [(0, .ref u0), (1, .ref sp), (2, .int (nI k))]) ?_ (np - 0) ⟨0, rfl, (by omega), hP.sub [0, 1, 2, 3] rfl, hD.sub [0, 1, 2, 3] (by decide) rfl, hS, lv_sub hl [1, 2, 0] rfl⟩
  intro n_2 H locs ls ih_2 hI
  obtain ⟨k, hn_2, hk, hP, hD, hS, hl⟩ := hI
  have hpl := plo_rng (fo := fo) (fe := fe) (te := te) hsf hkk k
  have hph := phi_rng (fo := fo) (sf := sf) (fe := fe) (te := te) (kk := kk) k
  have hsk := hsf k
  refine lv_iload_n hx hb dX5_narrow_2 rfl (lv_at hl 2 rfl) ?_
  refine lv_aload_n hx hb dX5_narrow_3 rfl (lv_at hl 0 rfl) ?_
  refine va_get (D := D) (ci := 5) (v := .int (nI np)) (C := RX5) (T := TX5) (N := 6) hx hb hts iX5 hown hK hP 0 rfl rfl 2 (by decide) (hts (.fieldLink RX5 20 "DeepHole$Pulls" "number" "I") (by decide +kernel)) (fun _ h9 => h9) rfl dX5_narrow_4 ?_
  refine lv_icmp_ge (tgt := 96) hx hb dX5_narrow_7 (by decide) (fun c_7 => ?_) (fun c_7 => ?_)
  ·
    have c_7 := n_ge (a := k) (b := np) c_7 (by omega) (by omega)
    have hcf : lI (plo fo sf fe te kk k) = lI (plo fo sf fe te kk np) := by rw [show k = np by omega]
    rw [hcf] at hP hD
    have hP : va_P D vwCl [(u0, .inr (5, [.ref fa, .ref ta, .int (nI np), .int (nI fe), .int (nI te), .int (nI kk)])), (fa, .inl (cI, 20, .inl (nF fo))), (ta, .inl (cI, 20, .inl (nF sf))), (sp, .inr (7, [.long (lI (plo fo sf fe te kk np)), .long (lI (phi fo sf fe te kk k))]))] H := hP
    have hD : va_D A [(u0, .inr (5, [.ref fa, .ref ta, .int (nI np), .int (nI fe), .int (nI te), .int (nI kk)])), (fa, .inl (cI, 20, .inl (nF fo))), (ta, .inl (cI, 20, .inl (nF sf))), (sp, .inr (7, [.long (lI (plo fo sf fe te kk np)), .long (lI (phi fo sf fe te kk k))]))] := hD
    have hcf : lI (phi fo sf fe te kk k) = lI (phi fo sf fe te kk np) := by rw [show k = np by omega]
    rw [hcf] at hP hD
    have hP : va_P D vwCl [(u0, .inr (5, [.ref fa, .ref ta, .int (nI np), .int (nI fe), .int (nI te), .int (nI kk)])), (fa, .inl (cI, 20, .inl (nF fo))), (ta, .inl (cI, 20, .inl (nF sf))), (sp, .inr (7, [.long (lI (plo fo sf fe te kk np)), .long (lI (phi fo sf fe te kk np))]))] H := hP
    have hD : va_D A [(u0, .inr (5, [.ref fa, .ref ta, .int (nI np), .int (nI fe), .int (nI te), .int (nI kk)])), (fa, .inl (cI, 20, .inl (nF fo))), (ta, .inl (cI, 20, .inl (nF sf))), (sp, .inr (7, [.long (lI (plo fo sf fe te kk np)), .long (lI (phi fo sf fe te kk np))]))] := hD
    have hP9 := hP.sub (ws' := [(u0, .inr (5, [.ref fa, .ref ta, .int (nI np), .int (nI fe), .int (nI te), .int (nI kk)])), (fa, .inl (cI, 20, .inl (nF fo))), (ta, .inl (cI, 20, .inl (nF sf))), (sp, .inr (7, [.long (lI (plo fo sf fe te kk np)), .long (lI (phi fo sf fe te kk np))]))]) [0, 1, 2, 3] rfl
    have hD9 := hD.sub (ws' := [(u0, .inr (5, [.ref fa, .ref ta, .int (nI np), .int (nI fe), .int (nI te), .int (nI kk)])), (fa, .inl (cI, 20, .inl (nF fo))), (ta, .inl (cI, 20, .inl (nF sf))), (sp, .inr (7, [.long (lI (plo fo sf fe te kk np)), .long (lI (phi fo sf fe te kk np))]))]) [0, 1, 2, 3] (by decide) rfl
    exact W.vret hx hb hr (fun t ht hW => ⟨⟨(), rfl, (trivial), by rw [ht]; exact hP9, hD9⟩, hS.F ht⟩) hS.2.2 dX5_narrow_96
  ·
    have c_7 := n_nge (a := k) (b := np) c_7 (by omega) (by omega)
    have hfk := hfo k c_7
    have hm1 : (sf k - te) * kk ≤ 100000 * 1000 := Nat.mul_le_mul (by omega) hkk
    have hm2 : (sf k + te) * kk ≤ 101000 * 1000 := Nat.mul_le_mul (by omega) hkk
    have hd3 := Int.natCast_nonneg ((sf k - te) * kk / (fo k + fe))
    have hd4 := Int.natCast_nonneg (((sf k + te) * kk + (fo k - fe) - 1) / (fo k - fe))
    have hd1 : (sf k - te) * kk / (fo k + fe) ≤ (sf k - te) * kk := Nat.div_le_self _ _
    have hd2 : ((sf k + te) * kk + (fo k - fe) - 1) / (fo k - fe) ≤ (sf k + te) * kk + (fo k - fe) - 1 := Nat.div_le_self _ _
    refine lv_iconst (v := 0) hx hb dX5_narrow_10 (by decide) ?_
    refine lv_aload_n hx hb dX5_narrow_11 rfl (lv_at hl 0 rfl) ?_
    refine va_get (D := D) (ci := 5) (v := .ref ta) (C := RX5) (T := TX5) (N := 6) hx hb hts iX5 hown hK hP 0 rfl rfl 1 (by decide) (hts (.fieldLink RX5 13 "DeepHole$Pulls" "stretches" "[I") (by decide +kernel)) (fun _ h9 => h9) rfl dX5_narrow_12 ?_
    refine lv_iload_n hx hb dX5_narrow_15 rfl (lv_at hl 2 rfl) ?_
    refine rd_i hx hb hK hP 2 0 rfl rfl (k := k) (by omega) (by decide) dX5_narrow_16 ?_
    refine lv_eqi (z := nI (sf k)) rfl ?_
    refine lv_aload_n hx hb dX5_narrow_17 rfl (lv_at hl 0 rfl) ?_
    refine va_get (D := D) (ci := 5) (v := .int (nI te)) (C := RX5) (T := TX5) (N := 6) hx hb hts iX5 hown hK hP 0 rfl rfl 4 (by decide) (hts (.fieldLink RX5 23 "DeepHole$Pulls" "stretchEnd" "I") (by decide +kernel)) (fun _ h9 => h9) rfl dX5_narrow_18 ?_
    refine lv_isub hx hb dX5_narrow_21 ?_
    refine lv_eqi (z := iI (((sf k : Nat) : Int) - ((te : Nat) : Int))) (nI_subz (sf k) (te)) ?_
    refine va_mmax hx hb (hml.trans hl.1.symm) hown (hts (.methodLink RX5 26 Lib.Math.max.name) (by decide +kernel)) (hts (.static Lib.Math.max.name) (by decide +kernel)) (hts (.initialized "java/lang/Math") (by decide +kernel)) (hts (.code Lib.Math.max.name Lib.Math.max.code 2 (some .int)) (by decide +kernel)) (Nat.le_of_ble_eq_true rfl) (Nat.le_of_ble_eq_true rfl) (Nat.zero_le _) (Nat.zero_le _) dX5_narrow_22 ?_
    refine lv_eqi (z := nI (sf k - te)) (mx_i0 (by omega) (by omega)) ?_
    refine lv_i2l (v := lI ((sf k - te : Nat) : Int)) hx hb dX5_narrow_25 (nI_64 (by omega)) ?_
    refine lv_lstore_n (lv' := [(3, .long (lI ((sf k - te : Nat) : Int))), (0, .ref u0), (1, .ref sp), (2, .int (nI k))]) hx hb dX5_narrow_26 rfl hl (by decide) rfl (fun ls hl => ?_)
    refine lv_aload_n hx hb dX5_narrow_27 rfl (lv_at hl 1 rfl) ?_
    refine va_get (D := D) (ci := 5) (v := .ref ta) (C := RX5) (T := TX5) (N := 6) hx hb hts iX5 hown hK hP 0 rfl rfl 1 (by decide) (hts (.fieldLink RX5 13 "DeepHole$Pulls" "stretches" "[I") (by decide +kernel)) (fun _ h9 => h9) rfl dX5_narrow_28 ?_
    refine lv_iload_n hx hb dX5_narrow_31 rfl (lv_at hl 3 rfl) ?_
    refine rd_i hx hb hK hP 2 0 rfl rfl (k := k) (by omega) (by decide) dX5_narrow_32 ?_
    refine lv_eqi (z := nI (sf k)) rfl ?_
    refine lv_aload_n hx hb dX5_narrow_33 rfl (lv_at hl 1 rfl) ?_
    refine va_get (D := D) (ci := 5) (v := .int (nI te)) (C := RX5) (T := TX5) (N := 6) hx hb hts iX5 hown hK hP 0 rfl rfl 4 (by decide) (hts (.fieldLink RX5 23 "DeepHole$Pulls" "stretchEnd" "I") (by decide +kernel)) (fun _ h9 => h9) rfl dX5_narrow_34 ?_
    refine lv_iadd hx hb dX5_narrow_37 ?_
    refine lv_eqi (z := nI ((sf k) + te)) (nI_add _ _) ?_
    refine lv_i2l (v := lI (((sf k) + te : Nat) : Int)) hx hb dX5_narrow_38 (nI_64 (by omega)) ?_
    refine lv_lstore (lv' := [(5, .long (lI (((sf k) + te : Nat) : Int))), (3, .long (lI ((sf k - te : Nat) : Int))), (0, .ref u0), (1, .ref sp), (2, .int (nI k))]) hx hb dX5_narrow_39 hl (by decide) rfl (fun ls hl => ?_)
    refine lv_aload_n hx hb dX5_narrow_41 rfl (lv_at hl 3 rfl) ?_
    refine lv_lload_n hx hb dX5_narrow_42 rfl (lv_at hl 1 rfl) ?_
    refine lv_aload_n hx hb dX5_narrow_43 rfl (lv_at hl 2 rfl) ?_
    refine va_get (D := D) (ci := 5) (v := .int (nI kk)) (C := RX5) (T := TX5) (N := 6) hx hb hts iX5 hown hK hP 0 rfl rfl 5 (by decide) (hts (.fieldLink RX5 16 "DeepHole$Pulls" "k" "I") (by decide +kernel)) (fun _ h9 => h9) rfl dX5_narrow_44 ?_
    refine lv_i2l (v := lI ((kk : Nat) : Int)) hx hb dX5_narrow_47 (nI_64 (by omega)) ?_
    refine lv_lmul hx hb dX5_narrow_48 ?_
    refine lv_eql (z := lI (((sf k - te : Nat) : Int) * ((kk : Nat) : Int))) (lI_mul ((sf k - te : Nat) : Int) ((kk : Nat) : Int)) ?_
    refine lv_aload_n hx hb dX5_narrow_49 rfl (lv_at hl 2 rfl) ?_
    refine va_get (D := D) (ci := 5) (v := .ref fa) (C := RX5) (T := TX5) (N := 6) hx hb hts iX5 hown hK hP 0 rfl rfl 0 (by decide) (hts (.fieldLink RX5 9 "DeepHole$Pulls" "forces" "[I") (by decide +kernel)) (fun _ h9 => h9) rfl dX5_narrow_50 ?_
    refine lv_iload_n hx hb dX5_narrow_53 rfl (lv_at hl 4 rfl) ?_
    refine rd_i hx hb hK hP 1 0 rfl rfl (k := k) (by omega) (by decide) dX5_narrow_54 ?_
    refine lv_eqi (z := nI (fo k)) rfl ?_
    refine lv_aload_n hx hb dX5_narrow_55 rfl (lv_at hl 2 rfl) ?_
    refine va_get (D := D) (ci := 5) (v := .int (nI fe)) (C := RX5) (T := TX5) (N := 6) hx hb hts iX5 hown hK hP 0 rfl rfl 3 (by decide) (hts (.fieldLink RX5 32 "DeepHole$Pulls" "forceEnd" "I") (by decide +kernel)) (fun _ h9 => h9) rfl dX5_narrow_56 ?_
    refine lv_iadd hx hb dX5_narrow_59 ?_
    refine lv_eqi (z := nI ((fo k) + fe)) (nI_add _ _) ?_
    refine lv_i2l (v := lI (((fo k) + fe : Nat) : Int)) hx hb dX5_narrow_60 (nI_64 (by omega)) ?_
    refine q_SNl (tys := TY cI cS cP) (D := D) ⟨hx, hb, hml, hown, hts⟩ [.long (lI (((sf k - te : Nat) : Int) * ((kk : Nat) : Int))), .long (lI (((fo k) + fe : Nat) : Int))] [.ref sp] (c_X9_cut  (lI_pos (by omega) (by omega))) ⟨va_cnB 2 hts ggX5_narrow_X9_cut rfl rfl rfl hN.2.1 (hts (.initialized RX9) (by decide +kernel)) (by decide +kernel) ⟨Nat.le_of_ble_eq_true rfl, Nat.le_of_ble_eq_true rfl⟩, (hts (.static yX9_cut) (by decide +kernel)), trivial⟩ hK hN rfl hl.1 rfl (Nat.le_of_ble_eq_true rfl) dX5_narrow_61 ⟨Nat.zero_le _, Nat.zero_le _⟩ (fun r hw => ?_)
    subst hw
    refine lv_eql (z := lI (((sf k - te) * kk / (fo k + fe) : Nat) : Int)) (lI_div (a := (sf k - te) * kk) (b := fo k + fe) (by omega) (by omega) (by omega)) ?_
    refine lv_lload hx hb dX5_narrow_64 (lv_at hl 0 rfl) ?_
    refine lv_aload_n hx hb dX5_narrow_66 rfl (lv_at hl 2 rfl) ?_
    refine va_get (D := D) (ci := 5) (v := .int (nI kk)) (C := RX5) (T := TX5) (N := 6) hx hb hts iX5 hown hK hP 0 rfl rfl 5 (by decide) (hts (.fieldLink RX5 16 "DeepHole$Pulls" "k" "I") (by decide +kernel)) (fun _ h9 => h9) rfl dX5_narrow_67 ?_
    refine lv_i2l (v := lI ((kk : Nat) : Int)) hx hb dX5_narrow_70 (nI_64 (by omega)) ?_
    refine lv_lmul hx hb dX5_narrow_71 ?_
    refine lv_eql (z := lI ((((sf k) + te : Nat) : Int) * ((kk : Nat) : Int))) (lI_mul (((sf k) + te : Nat) : Int) ((kk : Nat) : Int)) ?_
    refine lv_aload_n hx hb dX5_narrow_72 rfl (lv_at hl 2 rfl) ?_
    refine va_get (D := D) (ci := 5) (v := .ref fa) (C := RX5) (T := TX5) (N := 6) hx hb hts iX5 hown hK hP 0 rfl rfl 0 (by decide) (hts (.fieldLink RX5 9 "DeepHole$Pulls" "forces" "[I") (by decide +kernel)) (fun _ h9 => h9) rfl dX5_narrow_73 ?_
    refine lv_iload_n hx hb dX5_narrow_76 rfl (lv_at hl 4 rfl) ?_
    refine rd_i hx hb hK hP 1 0 rfl rfl (k := k) (by omega) (by decide) dX5_narrow_77 ?_
    refine lv_eqi (z := nI (fo k)) rfl ?_
    refine lv_aload_n hx hb dX5_narrow_78 rfl (lv_at hl 2 rfl) ?_
    refine va_get (D := D) (ci := 5) (v := .int (nI fe)) (C := RX5) (T := TX5) (N := 6) hx hb hts iX5 hown hK hP 0 rfl rfl 3 (by decide) (hts (.fieldLink RX5 32 "DeepHole$Pulls" "forceEnd" "I") (by decide +kernel)) (fun _ h9 => h9) rfl dX5_narrow_79 ?_
    refine lv_isub hx hb dX5_narrow_82 ?_
    refine lv_eqi (z := iI (((fo k : Nat) : Int) - ((fe : Nat) : Int))) (nI_subz (fo k) (fe)) ?_
    refine lv_i2l (v := lI (((fo k : Nat) : Int) - ((fe : Nat) : Int))) hx hb dX5_narrow_83 (iI_64 (by omega) (by omega)) ?_
    refine q_SNl (tys := TY cI cS cP) (D := D) ⟨hx, hb, hml, hown, hts⟩ [.long (lI ((((sf k) + te : Nat) : Int) * ((kk : Nat) : Int))), .long (lI (((fo k : Nat) : Int) - ((fe : Nat) : Int)))] [.long (lI (((sf k - te) * kk / (fo k + fe) : Nat) : Int)), .ref sp] (c_X9_roundedUp  (by rw [show ((fo k : Nat) : Int) - ((fe : Nat) : Int) = ((fo k - fe : Nat) : Int) by omega]; exact lI_pos (by omega) (by omega))) ⟨va_cnB 2 hts ggX5_narrow_X9_roundedUp rfl rfl rfl hN.2.2.1 (hts (.initialized RX9) (by decide +kernel)) (by decide +kernel) ⟨Nat.le_of_ble_eq_true rfl, Nat.le_of_ble_eq_true rfl⟩, (hts (.static yX9_roundedUp) (by decide +kernel)), trivial⟩ hK hN rfl hl.1 rfl (Nat.le_of_ble_eq_true rfl) dX5_narrow_84 ⟨Nat.zero_le _, Nat.zero_le _⟩ (fun r hw => ?_)
    subst hw
    refine lv_eql (z := lI ((((sf k + te) * kk + (fo k - fe) - 1) / (fo k - fe) : Nat) : Int)) (ru_div (by omega) (by omega) (by omega) (by omega)) ?_
    refine w_Vv (wc := [(sp, .inr (7, [.long (lI (plo fo sf fe te kk k)), .long (lI (phi fo sf fe te kk k))]))]) (wr := [(u0, .inr (5, [.ref fa, .ref ta, .int (nI np), .int (nI fe), .int (nI te), .int (nI kk)])), (fa, .inl (cI, 20, .inl (nF fo))), (ta, .inl (cI, 20, .inl (nF sf)))]) (b := sp) ⟨hx, hb, hml, hown, hts⟩ [.long (lI (((sf k - te) * kk / (fo k + fe) : Nat) : Int)), .long (lI ((((sf k + te) * kk + (fo k - fe) - 1) / (fo k - fe) : Nat) : Int))] [] (c_X7_keep  (by first | assumption | omega) (by first | assumption | omega) (by first | assumption | omega) (by first | assumption | omega)) (cwV 2 hts gX5_narrow_X7_keep rfl rfl rfl (by decide +kernel) ⟨Nat.le_of_ble_eq_true rfl, Nat.le_of_ble_eq_true rfl⟩) hK hN hP hD hS hA [3] [0, 1, 2] rfl (by decide) rfl (by decide) (by decide) (ci := 7) rfl rfl rfl rfl hl.1 rfl (Nat.le_of_ble_eq_true rfl) dX5_narrow_87 ⟨Nat.zero_le _, Nat.zero_le _⟩ (fun u H locs hw hP hD hS => ?_)
    have hP : va_P D vwCl [(u0, .inr (5, [.ref fa, .ref ta, .int (nI np), .int (nI fe), .int (nI te), .int (nI kk)])), (fa, .inl (cI, 20, .inl (nF fo))), (ta, .inl (cI, 20, .inl (nF sf))), (sp, .inr (7, [.long (lI (max (plo fo sf fe te kk k) (((sf k - te) * kk / (fo k + fe) : Nat) : Int))), .long (lI (min (phi fo sf fe te kk k) ((((sf k + te) * kk + (fo k - fe) - 1) / (fo k - fe) : Nat) : Int)))]))] H := hP
    have hD : va_D A [(u0, .inr (5, [.ref fa, .ref ta, .int (nI np), .int (nI fe), .int (nI te), .int (nI kk)])), (fa, .inl (cI, 20, .inl (nF fo))), (ta, .inl (cI, 20, .inl (nF sf))), (sp, .inr (7, [.long (lI (max (plo fo sf fe te kk k) (((sf k - te) * kk / (fo k + fe) : Nat) : Int))), .long (lI (min (phi fo sf fe te kk k) ((((sf k + te) * kk + (fo k - fe) - 1) / (fo k - fe) : Nat) : Int)))]))] := hD
    have hcf : lI (max (plo fo sf fe te kk k) (((sf k - te) * kk / (fo k + fe) : Nat) : Int)) = lI (plo fo sf fe te kk (k + 1)) := by rw [plo]
    rw [hcf] at hP hD
    have hP : va_P D vwCl [(u0, .inr (5, [.ref fa, .ref ta, .int (nI np), .int (nI fe), .int (nI te), .int (nI kk)])), (fa, .inl (cI, 20, .inl (nF fo))), (ta, .inl (cI, 20, .inl (nF sf))), (sp, .inr (7, [.long (lI (plo fo sf fe te kk (k + 1))), .long (lI (min (phi fo sf fe te kk k) ((((sf k + te) * kk + (fo k - fe) - 1) / (fo k - fe) : Nat) : Int)))]))] H := hP
    have hD : va_D A [(u0, .inr (5, [.ref fa, .ref ta, .int (nI np), .int (nI fe), .int (nI te), .int (nI kk)])), (fa, .inl (cI, 20, .inl (nF fo))), (ta, .inl (cI, 20, .inl (nF sf))), (sp, .inr (7, [.long (lI (plo fo sf fe te kk (k + 1))), .long (lI (min (phi fo sf fe te kk k) ((((sf k + te) * kk + (fo k - fe) - 1) / (fo k - fe) : Nat) : Int)))]))] := hD
    have hcf : lI (min (phi fo sf fe te kk k) ((((sf k + te) * kk + (fo k - fe) - 1) / (fo k - fe) : Nat) : Int)) = lI (phi fo sf fe te kk (k + 1)) := by rw [phi]
    rw [hcf] at hP hD
    have hP : va_P D vwCl [(u0, .inr (5, [.ref fa, .ref ta, .int (nI np), .int (nI fe), .int (nI te), .int (nI kk)])), (fa, .inl (cI, 20, .inl (nF fo))), (ta, .inl (cI, 20, .inl (nF sf))), (sp, .inr (7, [.long (lI (plo fo sf fe te kk (k + 1))), .long (lI (phi fo sf fe te kk (k + 1)))]))] H := hP
    have hD : va_D A [(u0, .inr (5, [.ref fa, .ref ta, .int (nI np), .int (nI fe), .int (nI te), .int (nI kk)])), (fa, .inl (cI, 20, .inl (nF fo))), (ta, .inl (cI, 20, .inl (nF sf))), (sp, .inr (7, [.long (lI (plo fo sf fe te kk (k + 1))), .long (lI (phi fo sf fe te kk (k + 1)))]))] := hD
    refine lv_iinc (v := nI (k + 1)) (lv' := [(2, .int (nI (k + 1))), (5, .long (lI (((sf k) + te : Nat) : Int))), (3, .long (lI ((sf k - te : Nat) : Int))), (0, .ref u0), (1, .ref sp)]) hx hb dX5_narrow_90 hl (k := 4) rfl (nI_1 _) (by decide) rfl (fun ls hl => ?_)
    refine lv_goto (tgt := 2) hx hb dX5_narrow_93 (by decide) ?_
    exact ih_2 _ _ _ _ (by omega) ⟨k + 1, rfl, (by omega), hP.sub [0, 1, 2, 3] rfl, hD.sub [0, 1, 2, 3] (by decide) rfl, hS, lv_sub hl [3, 4, 0] rfl⟩
