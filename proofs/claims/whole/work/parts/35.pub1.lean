set_option maxHeartbeats 4000000 in
set_option maxRecDepth 100000 in
theorem c_X9_hole {l : Launch} {D : va_G} {cI cS cP : ClassId} {sz : Nat} {x0 sx g0 w0 k0 la tr u0 pt ap sp : Nat} {fd : Int32} {d sh cap sw : Nat} {d1 s1 : Int32}  : Met l yX9_hole wsX9_hole ({ frames := 1, cells := 0, slots := 0, locals := 22 }) (PC D (TY cI cS cP) [.ref x0, .int d1, .int s1] sz [(x0, .inr (9, [.ref sx, .ref g0, .ref w0, .ref k0, .ref la, .ref tr, .ref u0, .ref pt, .ref ap, .ref sp, .int fd])), (w0, .inr (8, [.ref g0, .int (nI d), .int (nI sh), .int (nI cap), .int (nI sw)]))]) (QI D (fun (r : Int32) (u : Nat × Nat) => (r = aHole d1 s1) ∧ u = sHole d sh d1 s1) (fun (u : Nat × Nat) => [(x0, .inr (9, [.ref sx, .ref g0, .ref w0, .ref k0, .ref la, .ref tr, .ref u0, .ref pt, .ref ap, .ref sp, .int fd])), (w0, .inr (8, [.ref g0, .int (nI u.1), .int (nI u.2), .int (nI cap), .int (nI sw)]))]) (va_A [(x0, .inr (9, [.ref sx, .ref g0, .ref w0, .ref k0, .ref la, .ref tr, .ref u0, .ref pt, .ref ap, .ref sp, .int fd])), (w0, .inr (8, [.ref g0, .int (nI d), .int (nI sh), .int (nI cap), .int (nI sw)]))] sz)) 0 0 (va_A [(x0, .inr (9, [.ref sx, .ref g0, .ref w0, .ref k0, .ref la, .ref tr, .ref u0, .ref pt, .ref ap, .ref sp, .int fd])), (w0, .inr (8, [.ref g0, .int (nI d), .int (nI sh), .int (nI cap), .int (nI sw)]))] sz) := by
  refine Met.ofW (cc := cX9_hole) (maxL := 3) (ret := (some .int)) (by decide) rfl ?_
  intro p e s m args below meth c s₁ B hml hv
  obtain ⟨rfl, hsz, hP, hK, hD0, hN⟩ := hv
  have hx := B.exec
  have hb := B.bytes
  have hr := B.returns
  have hts := atoms_spec (ws := wsX9_hole) B.pre
  have hown : s.vm.findClass RX9 = some m.cls := findClass_of_methodNamed B.named
  have hlocks := B.notSynchronized
  subst hsz
  have iX8 : ∀ w ∈ u_ws RX8 TX8 5, w ∈ wsX9_hole := by decide +kernel
  have iX9 : ∀ w ∈ u_ws RX9 TX9 11, w ∈ wsX9_hole := by decide +kernel
  have hD := hD0.self (sz := s.heap.size)
  generalize hAe : va_A [(x0, .inr (9, [.ref sx, .ref g0, .ref w0, .ref k0, .ref la, .ref tr, .ref u0, .ref pt, .ref ap, .ref sp, .int fd])), (w0, .inr (8, [.ref g0, .int (nI d), .int (nI sh), .int (nI cap), .int (nI sw)]))] s.heap.size = A at hD ⊢
  have hA : ∀ q : Nat, s.heap.size ≤ q → A q := fun q h => by rw [← hAe]; exact Or.inr h
  have hS : va_S A s.heap s.heap [] := va_S.rf
  have hP : va_P D vwCl [(x0, .inr (9, [.ref sx, .ref g0, .ref w0, .ref k0, .ref la, .ref tr, .ref u0, .ref pt, .ref ap, .ref sp, .int fd])), (w0, .inr (8, [.ref g0, .int (nI d), .int (nI sh), .int (nI cap), .int (nI sw)]))] s.heap := hP
  have hl := lv_entry ([.ref x0, .int d1, .int s1]) (n := 3) (Nat.le_of_ble_eq_true rfl)
  rw [lg_entry_eq]
  generalize (lg_sl ([.ref x0, .int d1, .int s1]) ++ List.replicate (3 - (lg_sl ([.ref x0, .int d1, .int s1])).length) Slot.unset).toArray = ls at hl ⊢
  have hl : lv_has ls 3 [(0, .ref x0), (1, .int d1), (2, .int s1)] := hl
  refine lv_iload_n hx hb dX9_hole_0 rfl (lv_at hl 1 rfl) ?_
  refine lv_iconst (v := 0) hx hb dX9_hole_1 (by decide) ?_
  refine lv_bipush (v := 50) hx hb dX9_hole_2 (by decide) ?_
  refine q_S (tys := TY cI cS cP) (D := D) ⟨hx, hb, hml, hown, hts⟩ [.int d1, .int (0 : Int32), .int (50 : Int32)] [] c_X9_within (va_cwS 3 hts gX9_hole_X9_within rfl rfl rfl (by decide +kernel) ⟨Nat.le_of_ble_eq_true rfl, Nat.le_of_ble_eq_true rfl⟩) hK hN rfl hl.1 rfl (Nat.le_of_ble_eq_true rfl) dX9_hole_4 ⟨Nat.zero_le _, Nat.zero_le _⟩ (fun r hw => ?_)
  subst hw
  refine lv_if_eq (tgt := 19) hx hb dX9_hole_7 (by decide) (fun c_7 => ?_) (fun c_7 => ?_)
  ·
    have c_7 := bz c_7
    refine lv_bipush (v := (-2)) hx hb dX9_hole_19 (by decide) ?_
    have hP9 := hP.sub (ws' := [(x0, .inr (9, [.ref sx, .ref g0, .ref w0, .ref k0, .ref la, .ref tr, .ref u0, .ref pt, .ref ap, .ref sp, .int fd])), (w0, .inr (8, [.ref g0, .int (nI d), .int (nI sh), .int (nI cap), .int (nI sw)]))]) [0, 1] rfl
    have hD9 := hD.sub (ws' := [(x0, .inr (9, [.ref sx, .ref g0, .ref w0, .ref k0, .ref la, .ref tr, .ref u0, .ref pt, .ref ap, .ref sp, .int fd])), (w0, .inr (8, [.ref g0, .int (nI d), .int (nI sh), .int (nI cap), .int (nI sw)]))]) [0, 1] (by decide) rfl
    exact W.iret (v := (-2)) hx hb hr (fun t ht hW => ⟨⟨_, (d, sh), rfl, (by unfold aHole sHole; first | rw [if_neg (fun h => c_7 h.1), if_neg (fun h => c_7 h.1)]; exact ⟨rfl, rfl⟩ | rw [if_neg (fun h => c_16 h.2), if_neg (fun h => c_16 h.2)]; exact ⟨rfl, rfl⟩), by rw [ht]; exact hP9, hD9⟩, hS.F ht⟩) hS.2.2 dX9_hole_21
  ·
    have c_7 := bnz c_7
    refine lv_iload_n hx hb dX9_hole_10 rfl (lv_at hl 2 rfl) ?_
    refine lv_iconst (v := 0) hx hb dX9_hole_11 (by decide) ?_
    refine lv_iload_n hx hb dX9_hole_12 rfl (lv_at hl 1 rfl) ?_
    refine q_S (tys := TY cI cS cP) (D := D) ⟨hx, hb, hml, hown, hts⟩ [.int s1, .int (0 : Int32), .int d1] [] c_X9_within (va_cwS 3 hts gX9_hole_X9_within rfl rfl rfl (by decide +kernel) ⟨Nat.le_of_ble_eq_true rfl, Nat.le_of_ble_eq_true rfl⟩) hK hN rfl hl.1 rfl (Nat.le_of_ble_eq_true rfl) dX9_hole_13 ⟨Nat.zero_le _, Nat.zero_le _⟩ (fun r hw => ?_)
    subst hw
    refine lv_if_ne (tgt := 22) hx hb dX9_hole_16 (by decide) (fun c_16 => ?_) (fun c_16 => ?_)
    ·
      have c_16 := bnz c_16
      obtain ⟨dn, hdn, rfl⟩ := nat_of (hi := 50) (n := 50) (by decide) c_7
      obtain ⟨sn, hsn, rfl⟩ := nat_of (hi := nI dn) (n := dn) (nI_toInt (by omega)) c_16
      refine lv_aload_n hx hb dX9_hole_22 rfl (lv_at hl 0 rfl) ?_
      refine va_get (D := D) (ci := 9) (v := .ref w0) (C := RX9) (T := TX9) (N := 11) hx hb hts iX9 hown hK hP 0 rfl rfl 2 (by decide) (hts (.fieldLink RX9 58 "DeepHole" "well" "LDeepHole$Well;") (by decide +kernel)) (fun _ h9 => h9) rfl dX9_hole_23 ?_
      refine lv_iload_n hx hb dX9_hole_26 rfl (lv_at hl 1 rfl) ?_
      refine va_put (D := D) (ci := 8) (v := .int (nI dn)) (ty := .int) (C := RX8) (T := TX8) (N := 5) hx hb hts iX8 tyX8 tyX8_ok nmX8 hown hK hP hD hS 1 rfl rfl 1 (by decide) (hts (.fieldLink RX9 85 "DeepHole$Well" "depth" "I") (by decide +kernel)) (fun _ h9 => h9) rfl (by decide +kernel) rfl rfl (Nat.le_of_ble_eq_true rfl) dX9_hole_27 (fun H locs hP hD hS => ?_)
      have hP : va_P D vwCl [(x0, .inr (9, [.ref sx, .ref g0, .ref w0, .ref k0, .ref la, .ref tr, .ref u0, .ref pt, .ref ap, .ref sp, .int fd])), (w0, .inr (8, [.ref g0, .int (nI dn), .int (nI sh), .int (nI cap), .int (nI sw)]))] H := hP
      have hD : va_D A [(x0, .inr (9, [.ref sx, .ref g0, .ref w0, .ref k0, .ref la, .ref tr, .ref u0, .ref pt, .ref ap, .ref sp, .int fd])), (w0, .inr (8, [.ref g0, .int (nI dn), .int (nI sh), .int (nI cap), .int (nI sw)]))] := hD
      refine lv_aload_n hx hb dX9_hole_30 rfl (lv_at hl 0 rfl) ?_
      refine va_get (D := D) (ci := 9) (v := .ref w0) (C := RX9) (T := TX9) (N := 11) hx hb hts iX9 hown hK hP 0 rfl rfl 2 (by decide) (hts (.fieldLink RX9 58 "DeepHole" "well" "LDeepHole$Well;") (by decide +kernel)) (fun _ h9 => h9) rfl dX9_hole_31 ?_
      refine lv_iload_n hx hb dX9_hole_34 rfl (lv_at hl 2 rfl) ?_
      refine va_put (D := D) (ci := 8) (v := .int (nI sn)) (ty := .int) (C := RX8) (T := TX8) (N := 5) hx hb hts iX8 tyX8 tyX8_ok nmX8 hown hK hP hD hS 1 rfl rfl 2 (by decide) (hts (.fieldLink RX9 89 "DeepHole$Well" "shoe" "I") (by decide +kernel)) (fun _ h9 => h9) rfl (by decide +kernel) rfl rfl (Nat.le_of_ble_eq_true rfl) dX9_hole_35 (fun H locs hP hD hS => ?_)
      have hP : va_P D vwCl [(x0, .inr (9, [.ref sx, .ref g0, .ref w0, .ref k0, .ref la, .ref tr, .ref u0, .ref pt, .ref ap, .ref sp, .int fd])), (w0, .inr (8, [.ref g0, .int (nI dn), .int (nI sn), .int (nI cap), .int (nI sw)]))] H := hP
      have hD : va_D A [(x0, .inr (9, [.ref sx, .ref g0, .ref w0, .ref k0, .ref la, .ref tr, .ref u0, .ref pt, .ref ap, .ref sp, .int fd])), (w0, .inr (8, [.ref g0, .int (nI dn), .int (nI sn), .int (nI cap), .int (nI sw)]))] := hD
      refine lv_iconst (v := 1) hx hb dX9_hole_38 (by decide) ?_
      have hP9 := hP.sub (ws' := [(x0, .inr (9, [.ref sx, .ref g0, .ref w0, .ref k0, .ref la, .ref tr, .ref u0, .ref pt, .ref ap, .ref sp, .int fd])), (w0, .inr (8, [.ref g0, .int (nI dn), .int (nI sn), .int (nI cap), .int (nI sw)]))]) [0, 1] rfl
      have hD9 := hD.sub (ws' := [(x0, .inr (9, [.ref sx, .ref g0, .ref w0, .ref k0, .ref la, .ref tr, .ref u0, .ref pt, .ref ap, .ref sp, .int fd])), (w0, .inr (8, [.ref g0, .int (nI dn), .int (nI sn), .int (nI cap), .int (nI sw)]))]) [0, 1] (by decide) rfl
      exact W.iret (v := 1) hx hb hr (fun t ht hW => ⟨⟨_, (dn, sn), rfl, (by unfold aHole sHole; rw [if_pos ⟨c_7, c_16⟩, if_pos ⟨c_7, c_16⟩, nI_clamp (by omega), nI_clamp (by omega)]; exact ⟨rfl, rfl⟩), by rw [ht]; exact hP9, hD9⟩, hS.F ht⟩) hS.2.2 dX9_hole_39
    ·
      have c_16 := bz c_16
      refine lv_bipush (v := (-2)) hx hb dX9_hole_19 (by decide) ?_
      have hP9 := hP.sub (ws' := [(x0, .inr (9, [.ref sx, .ref g0, .ref w0, .ref k0, .ref la, .ref tr, .ref u0, .ref pt, .ref ap, .ref sp, .int fd])), (w0, .inr (8, [.ref g0, .int (nI d), .int (nI sh), .int (nI cap), .int (nI sw)]))]) [0, 1] rfl
      have hD9 := hD.sub (ws' := [(x0, .inr (9, [.ref sx, .ref g0, .ref w0, .ref k0, .ref la, .ref tr, .ref u0, .ref pt, .ref ap, .ref sp, .int fd])), (w0, .inr (8, [.ref g0, .int (nI d), .int (nI sh), .int (nI cap), .int (nI sw)]))]) [0, 1] (by decide) rfl
      exact W.iret (v := (-2)) hx hb hr (fun t ht hW => ⟨⟨_, (d, sh), rfl, (by unfold aHole sHole; first | rw [if_neg (fun h => c_7 h.1), if_neg (fun h => c_7 h.1)]; exact ⟨rfl, rfl⟩ | rw [if_neg (fun h => c_16 h.2), if_neg (fun h => c_16 h.2)]; exact ⟨rfl, rfl⟩), by rw [ht]; exact hP9, hD9⟩, hS.F ht⟩) hS.2.2 dX9_hole_21

set_option maxHeartbeats 4000000 in
set_option maxRecDepth 100000 in
theorem c_X9_margins {l : Launch} {D : va_G} {cI cS cP : ClassId} {sz : Nat} {x0 sx w0 k0 la tr u0 pt ap sp : Nat} {fd : Int32} {g0 s0 s1 low high : Nat} {l1 h1 : Int32}  : Met l yX9_margins wsX9_margins ({ frames := 1, cells := 0, slots := 0, locals := 22 }) (PC D (TY cI cS cP) [.ref x0, .int l1, .int h1] sz [(x0, .inr (9, [.ref sx, .ref g0, .ref w0, .ref k0, .ref la, .ref tr, .ref u0, .ref pt, .ref ap, .ref sp, .int fd])), (g0, .inr (3, [.ref s0, .ref s1, .int (nI low), .int (nI high)]))]) (QI D (fun (r : Int32) (u : Nat × Nat) => (r = aMarg l1 h1) ∧ u = sMarg low high l1 h1) (fun (u : Nat × Nat) => [(x0, .inr (9, [.ref sx, .ref g0, .ref w0, .ref k0, .ref la, .ref tr, .ref u0, .ref pt, .ref ap, .ref sp, .int fd])), (g0, .inr (3, [.ref s0, .ref s1, .int (nI u.1), .int (nI u.2)]))]) (va_A [(x0, .inr (9, [.ref sx, .ref g0, .ref w0, .ref k0, .ref la, .ref tr, .ref u0, .ref pt, .ref ap, .ref sp, .int fd])), (g0, .inr (3, [.ref s0, .ref s1, .int (nI low), .int (nI high)]))] sz)) 0 0 (va_A [(x0, .inr (9, [.ref sx, .ref g0, .ref w0, .ref k0, .ref la, .ref tr, .ref u0, .ref pt, .ref ap, .ref sp, .int fd])), (g0, .inr (3, [.ref s0, .ref s1, .int (nI low), .int (nI high)]))] sz) := by
  refine Met.ofW (cc := cX9_margins) (maxL := 3) (ret := (some .int)) (by decide) rfl ?_
  intro p e s m args below meth c s₁ B hml hv
  obtain ⟨rfl, hsz, hP, hK, hD0, hN⟩ := hv
  have hx := B.exec
  have hb := B.bytes
  have hr := B.returns
  have hts := atoms_spec (ws := wsX9_margins) B.pre
  have hown : s.vm.findClass RX9 = some m.cls := findClass_of_methodNamed B.named
  have hlocks := B.notSynchronized
  subst hsz
  have iX3 : ∀ w ∈ u_ws RX3 TX3 4, w ∈ wsX9_margins := by decide +kernel
  have iX9 : ∀ w ∈ u_ws RX9 TX9 11, w ∈ wsX9_margins := by decide +kernel
  have hD := hD0.self (sz := s.heap.size)
  generalize hAe : va_A [(x0, .inr (9, [.ref sx, .ref g0, .ref w0, .ref k0, .ref la, .ref tr, .ref u0, .ref pt, .ref ap, .ref sp, .int fd])), (g0, .inr (3, [.ref s0, .ref s1, .int (nI low), .int (nI high)]))] s.heap.size = A at hD ⊢
  have hA : ∀ q : Nat, s.heap.size ≤ q → A q := fun q h => by rw [← hAe]; exact Or.inr h
  have hS : va_S A s.heap s.heap [] := va_S.rf
  have hP : va_P D vwCl [(x0, .inr (9, [.ref sx, .ref g0, .ref w0, .ref k0, .ref la, .ref tr, .ref u0, .ref pt, .ref ap, .ref sp, .int fd])), (g0, .inr (3, [.ref s0, .ref s1, .int (nI low), .int (nI high)]))] s.heap := hP
  have hl := lv_entry ([.ref x0, .int l1, .int h1]) (n := 3) (Nat.le_of_ble_eq_true rfl)
  rw [lg_entry_eq]
  generalize (lg_sl ([.ref x0, .int l1, .int h1]) ++ List.replicate (3 - (lg_sl ([.ref x0, .int l1, .int h1])).length) Slot.unset).toArray = ls at hl ⊢
  have hl : lv_has ls 3 [(0, .ref x0), (1, .int l1), (2, .int h1)] := hl
  refine lv_iload_n hx hb dX9_margins_0 rfl (lv_at hl 1 rfl) ?_
  refine lv_iconst (v := 0) hx hb dX9_margins_1 (by decide) ?_
  refine lv_sipush (v := 500) hx hb dX9_margins_2 (by decide) ?_
  refine q_S (tys := TY cI cS cP) (D := D) ⟨hx, hb, hml, hown, hts⟩ [.int l1, .int (0 : Int32), .int (500 : Int32)] [] c_X9_within (va_cwS 3 hts gX9_margins_X9_within rfl rfl rfl (by decide +kernel) ⟨Nat.le_of_ble_eq_true rfl, Nat.le_of_ble_eq_true rfl⟩) hK hN rfl hl.1 rfl (Nat.le_of_ble_eq_true rfl) dX9_margins_5 ⟨Nat.zero_le _, Nat.zero_le _⟩ (fun r hw => ?_)
  subst hw
  refine lv_if_eq (tgt := 22) hx hb dX9_margins_8 (by decide) (fun c_8 => ?_) (fun c_8 => ?_)
  ·
    have c_8 := bz c_8
    refine lv_bipush (v := (-2)) hx hb dX9_margins_22 (by decide) ?_
    have hP9 := hP.sub (ws' := [(x0, .inr (9, [.ref sx, .ref g0, .ref w0, .ref k0, .ref la, .ref tr, .ref u0, .ref pt, .ref ap, .ref sp, .int fd])), (g0, .inr (3, [.ref s0, .ref s1, .int (nI low), .int (nI high)]))]) [0, 1] rfl
    have hD9 := hD.sub (ws' := [(x0, .inr (9, [.ref sx, .ref g0, .ref w0, .ref k0, .ref la, .ref tr, .ref u0, .ref pt, .ref ap, .ref sp, .int fd])), (g0, .inr (3, [.ref s0, .ref s1, .int (nI low), .int (nI high)]))]) [0, 1] (by decide) rfl
    exact W.iret (v := (-2)) hx hb hr (fun t ht hW => ⟨⟨_, (low, high), rfl, (by unfold aMarg sMarg; first | rw [if_neg (fun h => c_8 h.1), if_neg (fun h => c_8 h.1)]; exact ⟨rfl, rfl⟩ | rw [if_neg (fun h => c_19 h.2), if_neg (fun h => c_19 h.2)]; exact ⟨rfl, rfl⟩), by rw [ht]; exact hP9, hD9⟩, hS.F ht⟩) hS.2.2 dX9_margins_24
  ·
    have c_8 := bnz c_8
    refine lv_iload_n hx hb dX9_margins_11 rfl (lv_at hl 2 rfl) ?_
    refine lv_iconst (v := 0) hx hb dX9_margins_12 (by decide) ?_
    refine lv_sipush (v := 500) hx hb dX9_margins_13 (by decide) ?_
    refine q_S (tys := TY cI cS cP) (D := D) ⟨hx, hb, hml, hown, hts⟩ [.int h1, .int (0 : Int32), .int (500 : Int32)] [] c_X9_within (va_cwS 3 hts gX9_margins_X9_within rfl rfl rfl (by decide +kernel) ⟨Nat.le_of_ble_eq_true rfl, Nat.le_of_ble_eq_true rfl⟩) hK hN rfl hl.1 rfl (Nat.le_of_ble_eq_true rfl) dX9_margins_16 ⟨Nat.zero_le _, Nat.zero_le _⟩ (fun r hw => ?_)
    subst hw
    refine lv_if_ne (tgt := 25) hx hb dX9_margins_19 (by decide) (fun c_19 => ?_) (fun c_19 => ?_)
    ·
      have c_19 := bnz c_19
      obtain ⟨ln, hln, rfl⟩ := nat_of (hi := 500) (n := 500) (by decide) c_8
      obtain ⟨hn, hhn, rfl⟩ := nat_of (hi := 500) (n := 500) (by decide) c_19
      refine lv_aload_n hx hb dX9_margins_25 rfl (lv_at hl 0 rfl) ?_
      refine va_get (D := D) (ci := 9) (v := .ref g0) (C := RX9) (T := TX9) (N := 11) hx hb hts iX9 hown hK hP 0 rfl rfl 1 (by decide) (hts (.fieldLink RX9 49 "DeepHole" "ground" "LDeepHole$Ground;") (by decide +kernel)) (fun _ h9 => h9) rfl dX9_margins_26 ?_
      refine lv_iload_n hx hb dX9_margins_29 rfl (lv_at hl 1 rfl) ?_
      refine va_put (D := D) (ci := 3) (v := .int (nI ln)) (ty := .int) (C := RX3) (T := TX3) (N := 4) hx hb hts iX3 tyX3 tyX3_ok nmX3 hown hK hP hD hS 1 rfl rfl 2 (by decide) (hts (.fieldLink RX9 92 "DeepHole$Ground" "low" "I") (by decide +kernel)) (fun _ h9 => h9) rfl (by decide +kernel) rfl rfl (Nat.le_of_ble_eq_true rfl) dX9_margins_30 (fun H locs hP hD hS => ?_)
      have hP : va_P D vwCl [(x0, .inr (9, [.ref sx, .ref g0, .ref w0, .ref k0, .ref la, .ref tr, .ref u0, .ref pt, .ref ap, .ref sp, .int fd])), (g0, .inr (3, [.ref s0, .ref s1, .int (nI ln), .int (nI high)]))] H := hP
      have hD : va_D A [(x0, .inr (9, [.ref sx, .ref g0, .ref w0, .ref k0, .ref la, .ref tr, .ref u0, .ref pt, .ref ap, .ref sp, .int fd])), (g0, .inr (3, [.ref s0, .ref s1, .int (nI ln), .int (nI high)]))] := hD
      refine lv_aload_n hx hb dX9_margins_33 rfl (lv_at hl 0 rfl) ?_
      refine va_get (D := D) (ci := 9) (v := .ref g0) (C := RX9) (T := TX9) (N := 11) hx hb hts iX9 hown hK hP 0 rfl rfl 1 (by decide) (hts (.fieldLink RX9 49 "DeepHole" "ground" "LDeepHole$Ground;") (by decide +kernel)) (fun _ h9 => h9) rfl dX9_margins_34 ?_
      refine lv_iload_n hx hb dX9_margins_37 rfl (lv_at hl 2 rfl) ?_
      refine va_put (D := D) (ci := 3) (v := .int (nI hn)) (ty := .int) (C := RX3) (T := TX3) (N := 4) hx hb hts iX3 tyX3 tyX3_ok nmX3 hown hK hP hD hS 1 rfl rfl 3 (by decide) (hts (.fieldLink RX9 95 "DeepHole$Ground" "high" "I") (by decide +kernel)) (fun _ h9 => h9) rfl (by decide +kernel) rfl rfl (Nat.le_of_ble_eq_true rfl) dX9_margins_38 (fun H locs hP hD hS => ?_)
      have hP : va_P D vwCl [(x0, .inr (9, [.ref sx, .ref g0, .ref w0, .ref k0, .ref la, .ref tr, .ref u0, .ref pt, .ref ap, .ref sp, .int fd])), (g0, .inr (3, [.ref s0, .ref s1, .int (nI ln), .int (nI hn)]))] H := hP
      have hD : va_D A [(x0, .inr (9, [.ref sx, .ref g0, .ref w0, .ref k0, .ref la, .ref tr, .ref u0, .ref pt, .ref ap, .ref sp, .int fd])), (g0, .inr (3, [.ref s0, .ref s1, .int (nI ln), .int (nI hn)]))] := hD
      refine lv_iconst (v := 1) hx hb dX9_margins_41 (by decide) ?_
      have hP9 := hP.sub (ws' := [(x0, .inr (9, [.ref sx, .ref g0, .ref w0, .ref k0, .ref la, .ref tr, .ref u0, .ref pt, .ref ap, .ref sp, .int fd])), (g0, .inr (3, [.ref s0, .ref s1, .int (nI ln), .int (nI hn)]))]) [0, 1] rfl
      have hD9 := hD.sub (ws' := [(x0, .inr (9, [.ref sx, .ref g0, .ref w0, .ref k0, .ref la, .ref tr, .ref u0, .ref pt, .ref ap, .ref sp, .int fd])), (g0, .inr (3, [.ref s0, .ref s1, .int (nI ln), .int (nI hn)]))]) [0, 1] (by decide) rfl
      exact W.iret (v := 1) hx hb hr (fun t ht hW => ⟨⟨_, (ln, hn), rfl, (by unfold aMarg sMarg; rw [if_pos ⟨c_8, c_19⟩, if_pos ⟨c_8, c_19⟩, nI_clamp (by omega), nI_clamp (by omega)]; exact ⟨rfl, rfl⟩), by rw [ht]; exact hP9, hD9⟩, hS.F ht⟩) hS.2.2 dX9_margins_42
    ·
      have c_19 := bz c_19
      refine lv_bipush (v := (-2)) hx hb dX9_margins_22 (by decide) ?_
      have hP9 := hP.sub (ws' := [(x0, .inr (9, [.ref sx, .ref g0, .ref w0, .ref k0, .ref la, .ref tr, .ref u0, .ref pt, .ref ap, .ref sp, .int fd])), (g0, .inr (3, [.ref s0, .ref s1, .int (nI low), .int (nI high)]))]) [0, 1] rfl
      have hD9 := hD.sub (ws' := [(x0, .inr (9, [.ref sx, .ref g0, .ref w0, .ref k0, .ref la, .ref tr, .ref u0, .ref pt, .ref ap, .ref sp, .int fd])), (g0, .inr (3, [.ref s0, .ref s1, .int (nI low), .int (nI high)]))]) [0, 1] (by decide) rfl
      exact W.iret (v := (-2)) hx hb hr (fun t ht hW => ⟨⟨_, (low, high), rfl, (by unfold aMarg sMarg; first | rw [if_neg (fun h => c_8 h.1), if_neg (fun h => c_8 h.1)]; exact ⟨rfl, rfl⟩ | rw [if_neg (fun h => c_19 h.2), if_neg (fun h => c_19 h.2)]; exact ⟨rfl, rfl⟩), by rw [ht]; exact hP9, hD9⟩, hS.F ht⟩) hS.2.2 dX9_margins_24

set_option maxHeartbeats 4000000 in
set_option maxRecDepth 100000 in
theorem c_X9_ground {l : Launch} {D : va_G} {cI cS cP : ClassId} {sz : Nat} {x0 sx w0 k0 la tr u0 pt ap sp : Nat} {fd : Int32} {g0 s0 a0 s1 a1 : Nat} {lo0 fo0 lo1 fo1 : Int32} {n0 n1 low high : Nat} {it0 it1 : Nat → Int32} {wh_ ix : Int32} (hn0 : n0 ≤ 60) (hn1 : n1 ≤ 60) (hlow : low ≤ 500) (hhigh : high ≤ 500) : Met l yX9_ground wsX9_ground ({ frames := 3, cells := 0, slots := 0, locals := 66 }) (PC D (TY cI cS cP) [.ref x0, .int wh_, .int ix] sz [(x0, .inr (9, [.ref sx, .ref g0, .ref w0, .ref k0, .ref la, .ref tr, .ref u0, .ref pt, .ref ap, .ref sp, .int fd])), (g0, .inr (3, [.ref s0, .ref s1, .int (nI low), .int (nI high)])), (s0, .inr (6, [.ref a0, .int lo0, .int fo0, .int (nI n0)])), (a0, .inl (cI, 60, .inl it0)), (s1, .inr (6, [.ref a1, .int lo1, .int fo1, .int (nI n1)])), (a1, .inl (cI, 60, .inl it1))]) (vp_Si (fun r => r = aGround it0 it1 n0 n1 wh_ ix)) 0 0 (fun _ => False) := by
  refine Met.ofW (cc := cX9_ground) (maxL := 3) (ret := (some .int)) (by decide) rfl ?_
  intro p e s m args below meth c s₁ B hml hv
  obtain ⟨rfl, hsz, hP, hK, hD0, hN⟩ := hv
  have hx := B.exec
  have hb := B.bytes
  have hr := B.returns
  have hts := atoms_spec (ws := wsX9_ground) B.pre
  have hown : s.vm.findClass RX9 = some m.cls := findClass_of_methodNamed B.named
  have hlocks := B.notSynchronized
  subst hsz
  have iX9 : ∀ w ∈ u_ws RX9 TX9 11, w ∈ wsX9_ground := by decide +kernel
  have hD := hD0
  have hP : va_P D vwCl [(x0, .inr (9, [.ref sx, .ref g0, .ref w0, .ref k0, .ref la, .ref tr, .ref u0, .ref pt, .ref ap, .ref sp, .int fd])), (g0, .inr (3, [.ref s0, .ref s1, .int (nI low), .int (nI high)])), (s0, .inr (6, [.ref a0, .int lo0, .int fo0, .int (nI n0)])), (a0, .inl (cI, 60, .inl it0)), (s1, .inr (6, [.ref a1, .int lo1, .int fo1, .int (nI n1)])), (a1, .inl (cI, 60, .inl it1))] s.heap := hP
  have hl := lv_entry ([.ref x0, .int wh_, .int ix]) (n := 3) (Nat.le_of_ble_eq_true rfl)
  rw [lg_entry_eq]
  generalize (lg_sl ([.ref x0, .int wh_, .int ix]) ++ List.replicate (3 - (lg_sl ([.ref x0, .int wh_, .int ix])).length) Slot.unset).toArray = ls at hl ⊢
  have hl : lv_has ls 3 [(0, .ref x0), (1, .int wh_), (2, .int ix)] := hl
  refine lv_iload_n hx hb dX9_ground_0 rfl (lv_at hl 1 rfl) ?_
  refine lv_iconst (v := 0) hx hb dX9_ground_1 (by decide) ?_
  refine lv_iconst (v := 1) hx hb dX9_ground_2 (by decide) ?_
  refine q_S (tys := TY cI cS cP) (D := D) ⟨hx, hb, hml, hown, hts⟩ [.int wh_, .int (0 : Int32), .int (1 : Int32)] [] c_X9_within (va_cwS 3 hts gX9_ground_X9_within rfl rfl rfl (by decide +kernel) ⟨Nat.le_of_ble_eq_true rfl, Nat.le_of_ble_eq_true rfl⟩) hK hN rfl hl.1 rfl (Nat.le_of_ble_eq_true rfl) dX9_ground_3 ⟨Nat.zero_le _, Nat.zero_le _⟩ (fun r hw => ?_)
  subst hw
  refine lv_if_eq (tgt := 16) hx hb dX9_ground_6 (by decide) (fun c_6 => ?_) (fun c_6 => ?_)
  ·
    have c_6 := bz c_6
    refine lv_bipush (v := (-2)) hx hb dX9_ground_16 (by decide) ?_
    exact W.iret (v := (-2)) hx hb hr (fun t ht hW => ⟨_, rfl, (by unfold aGround; first | rw [if_neg (fun h => c_6 h.1)] | rw [if_neg (fun h => c_13 h.2)]), ht⟩) (fun _ h => absurd h List.not_mem_nil) dX9_ground_18
  ·
    have c_6 := bnz c_6
    refine lv_iload_n hx hb dX9_ground_9 rfl (lv_at hl 2 rfl) ?_
    refine q_S (tys := TY cI cS cP) (D := D) ⟨hx, hb, hml, hown, hts⟩ [.int ix] [] c_X9_isPiece (va_cwS 1 hts gX9_ground_X9_isPiece rfl rfl rfl (by decide +kernel) ⟨Nat.le_of_ble_eq_true rfl, Nat.le_of_ble_eq_true rfl⟩) hK hN rfl hl.1 rfl (Nat.le_of_ble_eq_true rfl) dX9_ground_10 ⟨Nat.zero_le _, Nat.zero_le _⟩ (fun r hw => ?_)
    subst hw
    refine lv_if_ne (tgt := 19) hx hb dX9_ground_13 (by decide) (fun c_13 => ?_) (fun c_13 => ?_)
    ·
      have c_13 := bnz c_13
      obtain ⟨ixn, hixn, rfl⟩ := nat_of (hi := 49) (n := 49) (by decide) c_13
      refine lv_iload_n hx hb dX9_ground_19 rfl (lv_at hl 1 rfl) ?_
      refine lv_if_ne (tgt := 34) hx hb dX9_ground_20 (by decide) (fun c_20 => ?_) (fun c_20 => ?_)
      ·
        refine lv_aload_n hx hb dX9_ground_34 rfl (lv_at hl 0 rfl) ?_
        refine va_get (D := D) (ci := 9) (v := .ref g0) (C := RX9) (T := TX9) (N := 11) hx hb hts iX9 hown hK hP 0 rfl rfl 1 (by decide) (hts (.fieldLink RX9 49 "DeepHole" "ground" "LDeepHole$Ground;") (by decide +kernel)) (fun _ h9 => h9) rfl dX9_ground_35 ?_
        refine lv_iload_n hx hb dX9_ground_38 rfl (lv_at hl 2 rfl) ?_
        refine q_V (wc := [(g0, .inr (3, [.ref s0, .ref s1, .int (nI low), .int (nI high)])), (s1, .inr (6, [.ref a1, .int lo1, .int fo1, .int (nI n1)])), (a1, .inl (cI, 60, .inl it1))]) (b := g0) ⟨hx, hb, hml, hown, hts⟩ [.int (nI ixn)] [] (c_X3_fracOf  (by first | assumption | omega) (by first | assumption | omega)) (cwV 1 hts gX9_ground_X3_fracOf rfl rfl rfl (by decide +kernel) ⟨Nat.le_of_ble_eq_true rfl, Nat.le_of_ble_eq_true rfl⟩) hK hN hP hD [1, 4, 5] rfl (by decide) (ci := 3) rfl rfl rfl rfl hl.1 rfl (Nat.le_of_ble_eq_true rfl) dX9_ground_39 ⟨Nat.zero_le _, Nat.zero_le _⟩ (fun r hw => ?_)
        subst hw
        exact W.iret (v := nI (fr it1 n1 ixn)) hx hb hr (fun t ht hW => ⟨_, rfl, (by unfold aGround; rw [if_pos ⟨c_6, c_13⟩, nI_clamp (by omega)]; first | rw [if_pos c_20] | rw [if_neg c_20]), ht⟩) (fun _ h => absurd h List.not_mem_nil) dX9_ground_42
      ·
        refine lv_aload_n hx hb dX9_ground_23 rfl (lv_at hl 0 rfl) ?_
        refine va_get (D := D) (ci := 9) (v := .ref g0) (C := RX9) (T := TX9) (N := 11) hx hb hts iX9 hown hK hP 0 rfl rfl 1 (by decide) (hts (.fieldLink RX9 49 "DeepHole" "ground" "LDeepHole$Ground;") (by decide +kernel)) (fun _ h9 => h9) rfl dX9_ground_24 ?_
        refine lv_iload_n hx hb dX9_ground_27 rfl (lv_at hl 2 rfl) ?_
        refine q_V (wc := [(g0, .inr (3, [.ref s0, .ref s1, .int (nI low), .int (nI high)])), (s0, .inr (6, [.ref a0, .int lo0, .int fo0, .int (nI n0)])), (a0, .inl (cI, 60, .inl it0))]) (b := g0) ⟨hx, hb, hml, hown, hts⟩ [.int (nI ixn)] [] (c_X3_poreOf  (by first | assumption | omega) (by first | assumption | omega)) (cwV 1 hts gX9_ground_X3_poreOf rfl rfl rfl (by decide +kernel) ⟨Nat.le_of_ble_eq_true rfl, Nat.le_of_ble_eq_true rfl⟩) hK hN hP hD [1, 2, 3] rfl (by decide) (ci := 3) rfl rfl rfl rfl hl.1 rfl (Nat.le_of_ble_eq_true rfl) dX9_ground_28 ⟨Nat.zero_le _, Nat.zero_le _⟩ (fun r hw => ?_)
        subst hw
        refine lv_goto (tgt := 42) hx hb dX9_ground_31 (by decide) ?_
        exact W.iret (v := nI (po it0 n0 ixn)) hx hb hr (fun t ht hW => ⟨_, rfl, (by unfold aGround; rw [if_pos ⟨c_6, c_13⟩, nI_clamp (by omega)]; first | rw [if_pos c_20] | rw [if_neg c_20]), ht⟩) (fun _ h => absurd h List.not_mem_nil) dX9_ground_42
    ·
      have c_13 := bz c_13
      refine lv_bipush (v := (-2)) hx hb dX9_ground_16 (by decide) ?_
      exact W.iret (v := (-2)) hx hb hr (fun t ht hW => ⟨_, rfl, (by unfold aGround; first | rw [if_neg (fun h => c_6 h.1)] | rw [if_neg (fun h => c_13 h.2)]), ht⟩) (fun _ h => absurd h List.not_mem_nil) dX9_ground_18

set_option maxHeartbeats 4000000 in
set_option maxRecDepth 100000 in
theorem c_X9_breaks {l : Launch} {D : va_G} {cI cS cP : ClassId} {sz : Nat} {x0 sx k0 la tr u0 pt ap sp : Nat} {fd : Int32} {w0 d sh cap sw : Nat} {g0 s0 a0 s1 a1 : Nat} {lo0 fo0 lo1 fo1 : Int32} {n0 n1 low high : Nat} {it0 it1 : Nat → Int32} {m1 : Int32} (hd : d ≤ 50) (hsh : sh ≤ d) (hn0 : n0 ≤ 60) (hn1 : n1 ≤ 60) (hlow : low ≤ 500) (hhigh : high ≤ 500) : Met l yX9_breaks wsX9_breaks ({ frames := 5, cells := 0, slots := 0, locals := 110 }) (PC D (TY cI cS cP) [.ref x0, .int m1] sz [(x0, .inr (9, [.ref sx, .ref g0, .ref w0, .ref k0, .ref la, .ref tr, .ref u0, .ref pt, .ref ap, .ref sp, .int fd])), (w0, .inr (8, [.ref g0, .int (nI d), .int (nI sh), .int (nI cap), .int (nI sw)])), (g0, .inr (3, [.ref s0, .ref s1, .int (nI low), .int (nI high)])), (s0, .inr (6, [.ref a0, .int lo0, .int fo0, .int (nI n0)])), (a0, .inl (cI, 60, .inl it0)), (s1, .inr (6, [.ref a1, .int lo1, .int fo1, .int (nI n1)])), (a1, .inl (cI, 60, .inl it1))]) (vp_Si (fun r => r = aBreaks it0 it1 n0 n1 low high d sh m1)) 0 0 (fun _ => False) := by
  refine Met.ofW (cc := cX9_breaks) (maxL := 2) (ret := (some .int)) (by decide) rfl ?_
  intro p e s m args below meth c s₁ B hml hv
  obtain ⟨rfl, hsz, hP, hK, hD0, hN⟩ := hv
  have hx := B.exec
  have hb := B.bytes
  have hr := B.returns
  have hts := atoms_spec (ws := wsX9_breaks) B.pre
  have hown : s.vm.findClass RX9 = some m.cls := findClass_of_methodNamed B.named
  have hlocks := B.notSynchronized
  subst hsz
  have iX9 : ∀ w ∈ u_ws RX9 TX9 11, w ∈ wsX9_breaks := by decide +kernel
  have hD := hD0
  have hP : va_P D vwCl [(x0, .inr (9, [.ref sx, .ref g0, .ref w0, .ref k0, .ref la, .ref tr, .ref u0, .ref pt, .ref ap, .ref sp, .int fd])), (w0, .inr (8, [.ref g0, .int (nI d), .int (nI sh), .int (nI cap), .int (nI sw)])), (g0, .inr (3, [.ref s0, .ref s1, .int (nI low), .int (nI high)])), (s0, .inr (6, [.ref a0, .int lo0, .int fo0, .int (nI n0)])), (a0, .inl (cI, 60, .inl it0)), (s1, .inr (6, [.ref a1, .int lo1, .int fo1, .int (nI n1)])), (a1, .inl (cI, 60, .inl it1))] s.heap := hP
  have hl := lv_entry ([.ref x0, .int m1]) (n := 2) (Nat.le_of_ble_eq_true rfl)
  rw [lg_entry_eq]
  generalize (lg_sl ([.ref x0, .int m1]) ++ List.replicate (2 - (lg_sl ([.ref x0, .int m1])).length) Slot.unset).toArray = ls at hl ⊢
  have hl : lv_has ls 2 [(0, .ref x0), (1, .int m1)] := hl
  refine lv_iload_n hx hb dX9_breaks_0 rfl (lv_at hl 1 rfl) ?_
  refine q_S (tys := TY cI cS cP) (D := D) ⟨hx, hb, hml, hown, hts⟩ [.int m1] [] c_X9_isMud (va_cwS 1 hts gX9_breaks_X9_isMud rfl rfl rfl (by decide +kernel) ⟨Nat.le_of_ble_eq_true rfl, Nat.le_of_ble_eq_true rfl⟩) hK hN rfl hl.1 rfl (Nat.le_of_ble_eq_true rfl) dX9_breaks_1 ⟨Nat.zero_le _, Nat.zero_le _⟩ (fun r hw => ?_)
  subst hw
  refine lv_if_eq (tgt := 18) hx hb dX9_breaks_4 (by decide) (fun c_4 => ?_) (fun c_4 => ?_)
  ·
    have c_4 := bz c_4
    refine lv_bipush (v := (-2)) hx hb dX9_breaks_18 (by decide) ?_
    exact W.iret (v := (-2)) hx hb hr (fun t ht hW => ⟨_, rfl, (by unfold aBreaks; rw [if_neg c_4]), ht⟩) (fun _ h => absurd h List.not_mem_nil) dX9_breaks_20
  ·
    have c_4 := bnz c_4
    obtain ⟨mn, hmn, rfl⟩ := nat_of (hi := 3000) (n := 3000) (by decide) c_4
    refine lv_aload_n hx hb dX9_breaks_7 rfl (lv_at hl 0 rfl) ?_
    refine va_get (D := D) (ci := 9) (v := .ref w0) (C := RX9) (T := TX9) (N := 11) hx hb hts iX9 hown hK hP 0 rfl rfl 2 (by decide) (hts (.fieldLink RX9 58 "DeepHole" "well" "LDeepHole$Well;") (by decide +kernel)) (fun _ h9 => h9) rfl dX9_breaks_8 ?_
    refine lv_iload_n hx hb dX9_breaks_11 rfl (lv_at hl 1 rfl) ?_
    refine q_V (wc := [(w0, .inr (8, [.ref g0, .int (nI d), .int (nI sh), .int (nI cap), .int (nI sw)])), (g0, .inr (3, [.ref s0, .ref s1, .int (nI low), .int (nI high)])), (s0, .inr (6, [.ref a0, .int lo0, .int fo0, .int (nI n0)])), (a0, .inl (cI, 60, .inl it0)), (s1, .inr (6, [.ref a1, .int lo1, .int fo1, .int (nI n1)])), (a1, .inl (cI, 60, .inl it1))]) (b := w0) ⟨hx, hb, hml, hown, hts⟩ [.int (nI mn)] [] (c_X8_firstNotHeld  (by first | assumption | omega) (by first | assumption | omega) (by first | assumption | omega) (by first | assumption | omega) (by first | assumption | omega) (by first | assumption | omega) (by first | assumption | omega)) (cwV 1 hts gX9_breaks_X8_firstNotHeld rfl rfl rfl (by decide +kernel) ⟨Nat.le_of_ble_eq_true rfl, Nat.le_of_ble_eq_true rfl⟩) hK hN hP hD [1, 2, 3, 4, 5, 6] rfl (by decide) (ci := 8) rfl rfl rfl rfl hl.1 rfl (Nat.le_of_ble_eq_true rfl) dX9_breaks_12 ⟨Nat.zero_le _, Nat.zero_le _⟩ (fun r hw => ?_)
    subst hw
    refine lv_goto (tgt := 20) hx hb dX9_breaks_15 (by decide) ?_
    exact W.iret (v := scanUp (hold it0 it1 n0 n1 low high mn) sh (d - sh)) hx hb hr (fun t ht hW => ⟨_, rfl, (by unfold aBreaks; rw [if_pos c_4, nI_clamp (by omega)]), ht⟩) (fun _ h => absurd h List.not_mem_nil) dX9_breaks_20

set_option maxHeartbeats 4000000 in
set_option maxRecDepth 100000 in
theorem c_X9_window {l : Launch} {D : va_G} {cI cS cP : ClassId} {sz : Nat} {x0 sx w0 k0 la tr u0 pt ap sp : Nat} {fd : Int32} {g0 s0 a0 s1 a1 : Nat} {lo0 fo0 lo1 fo1 : Int32} {n0 n1 low high : Nat} {it0 it1 : Nat → Int32} {i1 j1 e1 : Int32} {a1_ b1_ : Int64} (hn0 : n0 ≤ 60) (hn1 : n1 ≤ 60) (hlow : low ≤ 500) (hhigh : high ≤ 500) : Met l yX9_window wsX9_window ({ frames := 4, cells := 0, slots := 0, locals := 90 }) (PC D (TY cI cS cP) [.ref x0, .int i1, .int j1, .int e1] sz [(x0, .inr (9, [.ref sx, .ref g0, .ref w0, .ref k0, .ref la, .ref tr, .ref u0, .ref pt, .ref ap, .ref sp, .int fd])), (g0, .inr (3, [.ref s0, .ref s1, .int (nI low), .int (nI high)])), (s0, .inr (6, [.ref a0, .int lo0, .int fo0, .int (nI n0)])), (a0, .inl (cI, 60, .inl it0)), (s1, .inr (6, [.ref a1, .int lo1, .int fo1, .int (nI n1)])), (a1, .inl (cI, 60, .inl it1)), (sp, .inr (7, [.long a1_, .long b1_]))]) (QI D (fun (r : Int32) (u : Int64 × Int64) => r = aWindow it0 it1 n0 n1 low high i1 j1 e1) (fun (u : Int64 × Int64) => [(x0, .inr (9, [.ref sx, .ref g0, .ref w0, .ref k0, .ref la, .ref tr, .ref u0, .ref pt, .ref ap, .ref sp, .int fd])), (g0, .inr (3, [.ref s0, .ref s1, .int (nI low), .int (nI high)])), (s0, .inr (6, [.ref a0, .int lo0, .int fo0, .int (nI n0)])), (a0, .inl (cI, 60, .inl it0)), (s1, .inr (6, [.ref a1, .int lo1, .int fo1, .int (nI n1)])), (a1, .inl (cI, 60, .inl it1)), (sp, .inr (7, [.long u.1, .long u.2]))]) (va_A [(x0, .inr (9, [.ref sx, .ref g0, .ref w0, .ref k0, .ref la, .ref tr, .ref u0, .ref pt, .ref ap, .ref sp, .int fd])), (g0, .inr (3, [.ref s0, .ref s1, .int (nI low), .int (nI high)])), (s0, .inr (6, [.ref a0, .int lo0, .int fo0, .int (nI n0)])), (a0, .inl (cI, 60, .inl it0)), (s1, .inr (6, [.ref a1, .int lo1, .int fo1, .int (nI n1)])), (a1, .inl (cI, 60, .inl it1)), (sp, .inr (7, [.long a1_, .long b1_]))] sz)) 0 0 (va_A [(x0, .inr (9, [.ref sx, .ref g0, .ref w0, .ref k0, .ref la, .ref tr, .ref u0, .ref pt, .ref ap, .ref sp, .int fd])), (g0, .inr (3, [.ref s0, .ref s1, .int (nI low), .int (nI high)])), (s0, .inr (6, [.ref a0, .int lo0, .int fo0, .int (nI n0)])), (a0, .inl (cI, 60, .inl it0)), (s1, .inr (6, [.ref a1, .int lo1, .int fo1, .int (nI n1)])), (a1, .inl (cI, 60, .inl it1)), (sp, .inr (7, [.long a1_, .long b1_]))] sz) := by
  refine Met.ofW (cc := cX9_window) (maxL := 4) (ret := (some .int)) (by decide) rfl ?_
  intro p e s m args below meth c s₁ B hml hv
  obtain ⟨rfl, hsz, hP, hK, hD0, hN⟩ := hv
  have hx := B.exec
  have hb := B.bytes
  have hr := B.returns
  have hts := atoms_spec (ws := wsX9_window) B.pre
  have hown : s.vm.findClass RX9 = some m.cls := findClass_of_methodNamed B.named
  have hlocks := B.notSynchronized
  subst hsz
  have iX9 : ∀ w ∈ u_ws RX9 TX9 11, w ∈ wsX9_window := by decide +kernel
  have hD := hD0.self (sz := s.heap.size)
  generalize hAe : va_A [(x0, .inr (9, [.ref sx, .ref g0, .ref w0, .ref k0, .ref la, .ref tr, .ref u0, .ref pt, .ref ap, .ref sp, .int fd])), (g0, .inr (3, [.ref s0, .ref s1, .int (nI low), .int (nI high)])), (s0, .inr (6, [.ref a0, .int lo0, .int fo0, .int (nI n0)])), (a0, .inl (cI, 60, .inl it0)), (s1, .inr (6, [.ref a1, .int lo1, .int fo1, .int (nI n1)])), (a1, .inl (cI, 60, .inl it1)), (sp, .inr (7, [.long a1_, .long b1_]))] s.heap.size = A at hD ⊢
  have hA : ∀ q : Nat, s.heap.size ≤ q → A q := fun q h => by rw [← hAe]; exact Or.inr h
  have hS : va_S A s.heap s.heap [] := va_S.rf
  have hP : va_P D vwCl [(x0, .inr (9, [.ref sx, .ref g0, .ref w0, .ref k0, .ref la, .ref tr, .ref u0, .ref pt, .ref ap, .ref sp, .int fd])), (g0, .inr (3, [.ref s0, .ref s1, .int (nI low), .int (nI high)])), (s0, .inr (6, [.ref a0, .int lo0, .int fo0, .int (nI n0)])), (a0, .inl (cI, 60, .inl it0)), (s1, .inr (6, [.ref a1, .int lo1, .int fo1, .int (nI n1)])), (a1, .inl (cI, 60, .inl it1)), (sp, .inr (7, [.long a1_, .long b1_]))] s.heap := hP
  have hl := lv_entry ([.ref x0, .int i1, .int j1, .int e1]) (n := 4) (Nat.le_of_ble_eq_true rfl)
  rw [lg_entry_eq]
  generalize (lg_sl ([.ref x0, .int i1, .int j1, .int e1]) ++ List.replicate (4 - (lg_sl ([.ref x0, .int i1, .int j1, .int e1])).length) Slot.unset).toArray = ls at hl ⊢
  have hl : lv_has ls 4 [(0, .ref x0), (1, .int i1), (2, .int j1), (3, .int e1)] := hl
  have hpo := po_le it0 n0
  have hfr := fr_le it1 n1
  refine lv_iload_n hx hb dX9_window_0 rfl (lv_at hl 1 rfl) ?_
  refine q_S (tys := TY cI cS cP) (D := D) ⟨hx, hb, hml, hown, hts⟩ [.int i1] [] c_X9_isPiece (va_cwS 1 hts gX9_window_X9_isPiece rfl rfl rfl (by decide +kernel) ⟨Nat.le_of_ble_eq_true rfl, Nat.le_of_ble_eq_true rfl⟩) hK hN rfl hl.1 rfl (Nat.le_of_ble_eq_true rfl) dX9_window_1 ⟨Nat.zero_le _, Nat.zero_le _⟩ (fun r hw => ?_)
  subst hw
  refine lv_if_eq (tgt := 28) hx hb dX9_window_4 (by decide) (fun c_4 => ?_) (fun c_4 => ?_)
  ·
    have c_4 := bz c_4
    refine lv_bipush (v := (-2)) hx hb dX9_window_28 (by decide) ?_
    have hP9 := hP.sub (ws' := [(x0, .inr (9, [.ref sx, .ref g0, .ref w0, .ref k0, .ref la, .ref tr, .ref u0, .ref pt, .ref ap, .ref sp, .int fd])), (g0, .inr (3, [.ref s0, .ref s1, .int (nI low), .int (nI high)])), (s0, .inr (6, [.ref a0, .int lo0, .int fo0, .int (nI n0)])), (a0, .inl (cI, 60, .inl it0)), (s1, .inr (6, [.ref a1, .int lo1, .int fo1, .int (nI n1)])), (a1, .inl (cI, 60, .inl it1)), (sp, .inr (7, [.long a1_, .long b1_]))]) [0, 1, 2, 3, 4, 5, 6] rfl
    have hD9 := hD.sub (ws' := [(x0, .inr (9, [.ref sx, .ref g0, .ref w0, .ref k0, .ref la, .ref tr, .ref u0, .ref pt, .ref ap, .ref sp, .int fd])), (g0, .inr (3, [.ref s0, .ref s1, .int (nI low), .int (nI high)])), (s0, .inr (6, [.ref a0, .int lo0, .int fo0, .int (nI n0)])), (a0, .inl (cI, 60, .inl it0)), (s1, .inr (6, [.ref a1, .int lo1, .int fo1, .int (nI n1)])), (a1, .inl (cI, 60, .inl it1)), (sp, .inr (7, [.long a1_, .long b1_]))]) [0, 1, 2, 3, 4, 5, 6] (by decide) rfl
    exact W.iret (v := (-2)) hx hb hr (fun t ht hW => ⟨⟨_, (a1_, b1_), rfl, (by unfold aWindow; first | rw [if_neg (fun h => c_4 h.1)] | rw [if_neg (fun h => win0 c_4 c_11 h.2.1)] | rw [if_neg (fun h => win2 c_16 h.2.1)] | rw [if_neg (fun h => c_25 h.2.2)]), by rw [ht]; exact hP9, hD9⟩, hS.F ht⟩) hS.2.2 dX9_window_30
  ·
    have c_4 := bnz c_4
    refine lv_iload_n hx hb dX9_window_7 rfl (lv_at hl 2 rfl) ?_
    refine q_S (tys := TY cI cS cP) (D := D) ⟨hx, hb, hml, hown, hts⟩ [.int j1] [] c_X9_isPiece (va_cwS 1 hts gX9_window_X9_isPiece rfl rfl rfl (by decide +kernel) ⟨Nat.le_of_ble_eq_true rfl, Nat.le_of_ble_eq_true rfl⟩) hK hN rfl hl.1 rfl (Nat.le_of_ble_eq_true rfl) dX9_window_8 ⟨Nat.zero_le _, Nat.zero_le _⟩ (fun r hw => ?_)
    subst hw
    refine lv_if_eq (tgt := 28) hx hb dX9_window_11 (by decide) (fun c_11 => ?_) (fun c_11 => ?_)
    ·
      have c_11 := bz c_11
      refine lv_bipush (v := (-2)) hx hb dX9_window_28 (by decide) ?_
      have hP9 := hP.sub (ws' := [(x0, .inr (9, [.ref sx, .ref g0, .ref w0, .ref k0, .ref la, .ref tr, .ref u0, .ref pt, .ref ap, .ref sp, .int fd])), (g0, .inr (3, [.ref s0, .ref s1, .int (nI low), .int (nI high)])), (s0, .inr (6, [.ref a0, .int lo0, .int fo0, .int (nI n0)])), (a0, .inl (cI, 60, .inl it0)), (s1, .inr (6, [.ref a1, .int lo1, .int fo1, .int (nI n1)])), (a1, .inl (cI, 60, .inl it1)), (sp, .inr (7, [.long a1_, .long b1_]))]) [0, 1, 2, 3, 4, 5, 6] rfl
      have hD9 := hD.sub (ws' := [(x0, .inr (9, [.ref sx, .ref g0, .ref w0, .ref k0, .ref la, .ref tr, .ref u0, .ref pt, .ref ap, .ref sp, .int fd])), (g0, .inr (3, [.ref s0, .ref s1, .int (nI low), .int (nI high)])), (s0, .inr (6, [.ref a0, .int lo0, .int fo0, .int (nI n0)])), (a0, .inl (cI, 60, .inl it0)), (s1, .inr (6, [.ref a1, .int lo1, .int fo1, .int (nI n1)])), (a1, .inl (cI, 60, .inl it1)), (sp, .inr (7, [.long a1_, .long b1_]))]) [0, 1, 2, 3, 4, 5, 6] (by decide) rfl
      exact W.iret (v := (-2)) hx hb hr (fun t ht hW => ⟨⟨_, (a1_, b1_), rfl, (by unfold aWindow; first | rw [if_neg (fun h => c_4 h.1)] | rw [if_neg (fun h => win0 c_4 c_11 h.2.1)] | rw [if_neg (fun h => win2 c_16 h.2.1)] | rw [if_neg (fun h => c_25 h.2.2)]), by rw [ht]; exact hP9, hD9⟩, hS.F ht⟩) hS.2.2 dX9_window_30
    ·
      have c_11 := bnz c_11
      refine lv_iload_n hx hb dX9_window_14 rfl (lv_at hl 1 rfl) ?_
      refine lv_iload_n hx hb dX9_window_15 rfl (lv_at hl 2 rfl) ?_
      refine lv_icmp_gt (tgt := 28) hx hb dX9_window_16 (by decide) (fun c_16 => ?_) (fun c_16 => ?_)
      ·
        refine lv_bipush (v := (-2)) hx hb dX9_window_28 (by decide) ?_
        have hP9 := hP.sub (ws' := [(x0, .inr (9, [.ref sx, .ref g0, .ref w0, .ref k0, .ref la, .ref tr, .ref u0, .ref pt, .ref ap, .ref sp, .int fd])), (g0, .inr (3, [.ref s0, .ref s1, .int (nI low), .int (nI high)])), (s0, .inr (6, [.ref a0, .int lo0, .int fo0, .int (nI n0)])), (a0, .inl (cI, 60, .inl it0)), (s1, .inr (6, [.ref a1, .int lo1, .int fo1, .int (nI n1)])), (a1, .inl (cI, 60, .inl it1)), (sp, .inr (7, [.long a1_, .long b1_]))]) [0, 1, 2, 3, 4, 5, 6] rfl
        have hD9 := hD.sub (ws' := [(x0, .inr (9, [.ref sx, .ref g0, .ref w0, .ref k0, .ref la, .ref tr, .ref u0, .ref pt, .ref ap, .ref sp, .int fd])), (g0, .inr (3, [.ref s0, .ref s1, .int (nI low), .int (nI high)])), (s0, .inr (6, [.ref a0, .int lo0, .int fo0, .int (nI n0)])), (a0, .inl (cI, 60, .inl it0)), (s1, .inr (6, [.ref a1, .int lo1, .int fo1, .int (nI n1)])), (a1, .inl (cI, 60, .inl it1)), (sp, .inr (7, [.long a1_, .long b1_]))]) [0, 1, 2, 3, 4, 5, 6] (by decide) rfl
        exact W.iret (v := (-2)) hx hb hr (fun t ht hW => ⟨⟨_, (a1_, b1_), rfl, (by unfold aWindow; first | rw [if_neg (fun h => c_4 h.1)] | rw [if_neg (fun h => win0 c_4 c_11 h.2.1)] | rw [if_neg (fun h => win2 c_16 h.2.1)] | rw [if_neg (fun h => c_25 h.2.2)]), by rw [ht]; exact hP9, hD9⟩, hS.F ht⟩) hS.2.2 dX9_window_30
      ·
        refine lv_iload_n hx hb dX9_window_19 rfl (lv_at hl 3 rfl) ?_
        refine lv_iconst (v := 0) hx hb dX9_window_20 (by decide) ?_
        refine lv_iconst (v := 1) hx hb dX9_window_21 (by decide) ?_
        refine q_S (tys := TY cI cS cP) (D := D) ⟨hx, hb, hml, hown, hts⟩ [.int e1, .int (0 : Int32), .int (1 : Int32)] [] c_X9_within (va_cwS 3 hts gX9_window_X9_within rfl rfl rfl (by decide +kernel) ⟨Nat.le_of_ble_eq_true rfl, Nat.le_of_ble_eq_true rfl⟩) hK hN rfl hl.1 rfl (Nat.le_of_ble_eq_true rfl) dX9_window_22 ⟨Nat.zero_le _, Nat.zero_le _⟩ (fun r hw => ?_)
        subst hw
        refine lv_if_ne (tgt := 31) hx hb dX9_window_25 (by decide) (fun c_25 => ?_) (fun c_25 => ?_)
        ·
          have c_25 := bnz c_25
          have c_w := win1 c_4 c_11 c_16
          obtain ⟨iN, hiN, rfl⟩ := nat_of (hi := 49) (n := 49) (by decide) c_4
          obtain ⟨jN, hjN, rfl⟩ := nat_of (hi := 49) (n := 49) (by decide) c_11
          have hij : iN ≤ jN := n_le c_w.1 (by omega) (by omega)
          have hwl := wl_up (i := iN) (a := 0) hpo hlow (jN + 1 - iN)
          have hwh := wh_up (i := iN) (b := 3000) hfr hhigh (jN + 1 - iN)
          refine lv_aload_n hx hb dX9_window_31 rfl (lv_at hl 0 rfl) ?_
          refine va_get (D := D) (ci := 9) (v := .ref g0) (C := RX9) (T := TX9) (N := 11) hx hb hts iX9 hown hK hP 0 rfl rfl 1 (by decide) (hts (.fieldLink RX9 49 "DeepHole" "ground" "LDeepHole$Ground;") (by decide +kernel)) (fun _ h9 => h9) rfl dX9_window_32 ?_
          refine lv_aload_n hx hb dX9_window_35 rfl (lv_at hl 0 rfl) ?_
          refine va_get (D := D) (ci := 9) (v := .ref sp) (C := RX9) (T := TX9) (N := 11) hx hb hts iX9 hown hK hP 0 rfl rfl 9 (by decide) (hts (.fieldLink RX9 38 "DeepHole" "span" "LDeepHole$Span;") (by decide +kernel)) (fun _ h9 => h9) rfl dX9_window_36 ?_
          refine w_Vv (wc := [(g0, .inr (3, [.ref s0, .ref s1, .int (nI low), .int (nI high)])), (sp, .inr (7, [.long a1_, .long b1_]))]) (wr := [(x0, .inr (9, [.ref sx, .ref g0, .ref w0, .ref k0, .ref la, .ref tr, .ref u0, .ref pt, .ref ap, .ref sp, .int fd])), (s0, .inr (6, [.ref a0, .int lo0, .int fo0, .int (nI n0)])), (a0, .inl (cI, 60, .inl it0)), (s1, .inr (6, [.ref a1, .int lo1, .int fo1, .int (nI n1)])), (a1, .inl (cI, 60, .inl it1))]) (b := g0) ⟨hx, hb, hml, hown, hts⟩ [.ref sp] [] c_X3_widest (cwV 1 hts gX9_window_X3_widest rfl rfl rfl (by decide +kernel) ⟨Nat.le_of_ble_eq_true rfl, Nat.le_of_ble_eq_true rfl⟩) hK hN hP hD hS hA [1, 6] [0, 2, 3, 4, 5] rfl (by decide) rfl (by decide) (by decide) (ci := 3) rfl rfl rfl rfl hl.1 rfl (Nat.le_of_ble_eq_true rfl) dX9_window_39 ⟨Nat.zero_le _, Nat.zero_le _⟩ (fun u H locs hw hP hD hS => ?_)
          have hP : va_P D vwCl [(x0, .inr (9, [.ref sx, .ref g0, .ref w0, .ref k0, .ref la, .ref tr, .ref u0, .ref pt, .ref ap, .ref sp, .int fd])), (s0, .inr (6, [.ref a0, .int lo0, .int fo0, .int (nI n0)])), (a0, .inl (cI, 60, .inl it0)), (s1, .inr (6, [.ref a1, .int lo1, .int fo1, .int (nI n1)])), (a1, .inl (cI, 60, .inl it1)), (g0, .inr (3, [.ref s0, .ref s1, .int (nI low), .int (nI high)])), (sp, .inr (7, [.long 0, .long 3000]))] H := hP
          have hD : va_D A [(x0, .inr (9, [.ref sx, .ref g0, .ref w0, .ref k0, .ref la, .ref tr, .ref u0, .ref pt, .ref ap, .ref sp, .int fd])), (s0, .inr (6, [.ref a0, .int lo0, .int fo0, .int (nI n0)])), (a0, .inl (cI, 60, .inl it0)), (s1, .inr (6, [.ref a1, .int lo1, .int fo1, .int (nI n1)])), (a1, .inl (cI, 60, .inl it1)), (g0, .inr (3, [.ref s0, .ref s1, .int (nI low), .int (nI high)])), (sp, .inr (7, [.long 0, .long 3000]))] := hD
          refine lv_aload_n hx hb dX9_window_42 rfl (lv_at hl 0 rfl) ?_
          refine va_get (D := D) (ci := 9) (v := .ref g0) (C := RX9) (T := TX9) (N := 11) hx hb hts iX9 hown hK hP 0 rfl rfl 1 (by decide) (hts (.fieldLink RX9 49 "DeepHole" "ground" "LDeepHole$Ground;") (by decide +kernel)) (fun _ h9 => h9) rfl dX9_window_43 ?_
          refine lv_aload_n hx hb dX9_window_46 rfl (lv_at hl 0 rfl) ?_
          refine va_get (D := D) (ci := 9) (v := .ref sp) (C := RX9) (T := TX9) (N := 11) hx hb hts iX9 hown hK hP 0 rfl rfl 9 (by decide) (hts (.fieldLink RX9 38 "DeepHole" "span" "LDeepHole$Span;") (by decide +kernel)) (fun _ h9 => h9) rfl dX9_window_47 ?_
          refine lv_iload_n hx hb dX9_window_50 rfl (lv_at hl 1 rfl) ?_
          refine lv_iload_n hx hb dX9_window_51 rfl (lv_at hl 2 rfl) ?_
          refine lv_eqi (z := nI (jN + 1) - 1) ((nI_pred jN).symm) ?_
          refine w_Vv (wc := [(g0, .inr (3, [.ref s0, .ref s1, .int (nI low), .int (nI high)])), (s0, .inr (6, [.ref a0, .int lo0, .int fo0, .int (nI n0)])), (a0, .inl (cI, 60, .inl it0)), (s1, .inr (6, [.ref a1, .int lo1, .int fo1, .int (nI n1)])), (a1, .inl (cI, 60, .inl it1)), (sp, .inr (7, [.long (lI (0)), .long (lI (3000))]))]) (wr := [(x0, .inr (9, [.ref sx, .ref g0, .ref w0, .ref k0, .ref la, .ref tr, .ref u0, .ref pt, .ref ap, .ref sp, .int fd]))]) (b := g0) ⟨hx, hb, hml, hown, hts⟩ [.ref sp, .int (nI iN), .int (nI (jN + 1) - 1)] [] (c_X3_narrow  (by first | assumption | omega) (by first | assumption | omega) (by first | assumption | omega) (by first | assumption | omega) (by first | assumption | omega) (by first | assumption | omega) (by first | assumption | omega) (by first | assumption | omega)) (cwV 3 hts gX9_window_X3_narrow rfl rfl rfl (by decide +kernel) ⟨Nat.le_of_ble_eq_true rfl, Nat.le_of_ble_eq_true rfl⟩) hK hN hP hD hS hA [5, 1, 2, 3, 4, 6] [0] rfl (by decide) rfl (by decide) (by decide) (ci := 3) rfl rfl rfl rfl hl.1 rfl (Nat.le_of_ble_eq_true rfl) dX9_window_52 ⟨Nat.zero_le _, Nat.zero_le _⟩ (fun u H locs hw hP hD hS => ?_)
          have hP : va_P D vwCl [(x0, .inr (9, [.ref sx, .ref g0, .ref w0, .ref k0, .ref la, .ref tr, .ref u0, .ref pt, .ref ap, .ref sp, .int fd])), (g0, .inr (3, [.ref s0, .ref s1, .int (nI low), .int (nI high)])), (s0, .inr (6, [.ref a0, .int lo0, .int fo0, .int (nI n0)])), (a0, .inl (cI, 60, .inl it0)), (s1, .inr (6, [.ref a1, .int lo1, .int fo1, .int (nI n1)])), (a1, .inl (cI, 60, .inl it1)), (sp, .inr (7, [.long (lI (wl (po it0 n0) low iN (0) ((jN + 1) - iN))), .long (lI (wh (fr it1 n1) high iN (3000) ((jN + 1) - iN)))]))] H := hP
          have hD : va_D A [(x0, .inr (9, [.ref sx, .ref g0, .ref w0, .ref k0, .ref la, .ref tr, .ref u0, .ref pt, .ref ap, .ref sp, .int fd])), (g0, .inr (3, [.ref s0, .ref s1, .int (nI low), .int (nI high)])), (s0, .inr (6, [.ref a0, .int lo0, .int fo0, .int (nI n0)])), (a0, .inl (cI, 60, .inl it0)), (s1, .inr (6, [.ref a1, .int lo1, .int fo1, .int (nI n1)])), (a1, .inl (cI, 60, .inl it1)), (sp, .inr (7, [.long (lI (wl (po it0 n0) low iN (0) ((jN + 1) - iN))), .long (lI (wh (fr it1 n1) high iN (3000) ((jN + 1) - iN)))]))] := hD
          refine lv_aload_n hx hb dX9_window_55 rfl (lv_at hl 0 rfl) ?_
          refine va_get (D := D) (ci := 9) (v := .ref sp) (C := RX9) (T := TX9) (N := 11) hx hb hts iX9 hown hK hP 0 rfl rfl 9 (by decide) (hts (.fieldLink RX9 38 "DeepHole" "span" "LDeepHole$Span;") (by decide +kernel)) (fun _ h9 => h9) rfl dX9_window_56 ?_
          refine q_V (wc := [(sp, .inr (7, [.long (lI (wl (po it0 n0) low iN (0) ((jN + 1) - iN))), .long (lI (wh (fr it1 n1) high iN (3000) ((jN + 1) - iN)))]))]) (b := sp) ⟨hx, hb, hml, hown, hts⟩ [] [] (c_X7_isEmpty  (by first | assumption | omega) (by first | assumption | omega)) (cwV 0 hts gX9_window_X7_isEmpty rfl rfl rfl (by decide +kernel) ⟨Nat.le_of_ble_eq_true rfl, Nat.le_of_ble_eq_true rfl⟩) hK hN hP hD [6] rfl (by decide) (ci := 7) rfl rfl rfl rfl hl.1 rfl (Nat.le_of_ble_eq_true rfl) dX9_window_59 ⟨Nat.zero_le _, Nat.zero_le _⟩ (fun r hw => ?_)
          subst hw
          refine lv_if_eq (tgt := 70) hx hb dX9_window_62 (by decide) (fun c_62 => ?_) (fun c_62 => ?_)
          ·
            have c_62 := bz c_62
            refine lv_aload_n hx hb dX9_window_70 rfl (lv_at hl 0 rfl) ?_
            refine va_get (D := D) (ci := 9) (v := .ref sp) (C := RX9) (T := TX9) (N := 11) hx hb hts iX9 hown hK hP 0 rfl rfl 9 (by decide) (hts (.fieldLink RX9 38 "DeepHole" "span" "LDeepHole$Span;") (by decide +kernel)) (fun _ h9 => h9) rfl dX9_window_71 ?_
            refine lv_iload_n hx hb dX9_window_74 rfl (lv_at hl 3 rfl) ?_
            refine q_Vl (wc := [(sp, .inr (7, [.long (lI (wl (po it0 n0) low iN (0) ((jN + 1) - iN))), .long (lI (wh (fr it1 n1) high iN (3000) ((jN + 1) - iN)))]))]) (b := sp) ⟨hx, hb, hml, hown, hts⟩ [.int e1] [] c_X7_end (cwV 1 hts gX9_window_X7_end rfl rfl rfl (by decide +kernel) ⟨Nat.le_of_ble_eq_true rfl, Nat.le_of_ble_eq_true rfl⟩) hK hN hP hD [6] rfl (by decide) (ci := 7) rfl rfl rfl rfl hl.1 rfl (Nat.le_of_ble_eq_true rfl) dX9_window_75 ⟨Nat.zero_le _, Nat.zero_le _⟩ (fun r hw => ?_)
            subst hw
            refine lv_eql (z := lI (if e1 = 0 then wl (po it0 n0) low iN 0 (jN + 1 - iN) else wh (fr it1 n1) high iN 3000 (jN + 1 - iN))) (by split <;> rfl) ?_
            refine lv_l2i (v := iI (if e1 = 0 then wl (po it0 n0) low iN 0 (jN + 1 - iN) else wh (fr it1 n1) high iN 3000 (jN + 1 - iN))) hx hb dX9_window_78 (lI_32 _) ?_
            have hP9 := hP.sub (ws' := [(x0, .inr (9, [.ref sx, .ref g0, .ref w0, .ref k0, .ref la, .ref tr, .ref u0, .ref pt, .ref ap, .ref sp, .int fd])), (g0, .inr (3, [.ref s0, .ref s1, .int (nI low), .int (nI high)])), (s0, .inr (6, [.ref a0, .int lo0, .int fo0, .int (nI n0)])), (a0, .inl (cI, 60, .inl it0)), (s1, .inr (6, [.ref a1, .int lo1, .int fo1, .int (nI n1)])), (a1, .inl (cI, 60, .inl it1)), (sp, .inr (7, [.long (lI (wl (po it0 n0) low iN (0) ((jN + 1) - iN))), .long (lI (wh (fr it1 n1) high iN (3000) ((jN + 1) - iN)))]))]) [0, 1, 2, 3, 4, 5, 6] rfl
            have hD9 := hD.sub (ws' := [(x0, .inr (9, [.ref sx, .ref g0, .ref w0, .ref k0, .ref la, .ref tr, .ref u0, .ref pt, .ref ap, .ref sp, .int fd])), (g0, .inr (3, [.ref s0, .ref s1, .int (nI low), .int (nI high)])), (s0, .inr (6, [.ref a0, .int lo0, .int fo0, .int (nI n0)])), (a0, .inl (cI, 60, .inl it0)), (s1, .inr (6, [.ref a1, .int lo1, .int fo1, .int (nI n1)])), (a1, .inl (cI, 60, .inl it1)), (sp, .inr (7, [.long (lI (wl (po it0 n0) low iN (0) ((jN + 1) - iN))), .long (lI (wh (fr it1 n1) high iN (3000) ((jN + 1) - iN)))]))]) [0, 1, 2, 3, 4, 5, 6] (by decide) rfl
            exact W.iret (v := iI (if e1 = 0 then wl (po it0 n0) low iN 0 (jN + 1 - iN) else wh (fr it1 n1) high iN 3000 (jN + 1 - iN))) hx hb hr (fun t ht hW => ⟨⟨_, (lI (wl (po it0 n0) low iN (0) ((jN + 1) - iN)), lI (wh (fr it1 n1) high iN (3000) ((jN + 1) - iN))), rfl, (by unfold aWindow wA; rw [if_pos ⟨c_4, c_w, c_25⟩, nI_clamp (by omega), nI_clamp (by omega), if_pos (by omega)]), by rw [ht]; exact hP9, hD9⟩, hS.F ht⟩) hS.2.2 dX9_window_79
          ·
            have c_62 := bnz c_62
            refine lv_bipush (v := (-3)) hx hb dX9_window_65 (by decide) ?_
            refine lv_goto (tgt := 79) hx hb dX9_window_67 (by decide) ?_
            have hP9 := hP.sub (ws' := [(x0, .inr (9, [.ref sx, .ref g0, .ref w0, .ref k0, .ref la, .ref tr, .ref u0, .ref pt, .ref ap, .ref sp, .int fd])), (g0, .inr (3, [.ref s0, .ref s1, .int (nI low), .int (nI high)])), (s0, .inr (6, [.ref a0, .int lo0, .int fo0, .int (nI n0)])), (a0, .inl (cI, 60, .inl it0)), (s1, .inr (6, [.ref a1, .int lo1, .int fo1, .int (nI n1)])), (a1, .inl (cI, 60, .inl it1)), (sp, .inr (7, [.long (lI (wl (po it0 n0) low iN (0) ((jN + 1) - iN))), .long (lI (wh (fr it1 n1) high iN (3000) ((jN + 1) - iN)))]))]) [0, 1, 2, 3, 4, 5, 6] rfl
            have hD9 := hD.sub (ws' := [(x0, .inr (9, [.ref sx, .ref g0, .ref w0, .ref k0, .ref la, .ref tr, .ref u0, .ref pt, .ref ap, .ref sp, .int fd])), (g0, .inr (3, [.ref s0, .ref s1, .int (nI low), .int (nI high)])), (s0, .inr (6, [.ref a0, .int lo0, .int fo0, .int (nI n0)])), (a0, .inl (cI, 60, .inl it0)), (s1, .inr (6, [.ref a1, .int lo1, .int fo1, .int (nI n1)])), (a1, .inl (cI, 60, .inl it1)), (sp, .inr (7, [.long (lI (wl (po it0 n0) low iN (0) ((jN + 1) - iN))), .long (lI (wh (fr it1 n1) high iN (3000) ((jN + 1) - iN)))]))]) [0, 1, 2, 3, 4, 5, 6] (by decide) rfl
            exact W.iret (v := (-3)) hx hb hr (fun t ht hW => ⟨⟨_, (lI (wl (po it0 n0) low iN (0) ((jN + 1) - iN)), lI (wh (fr it1 n1) high iN (3000) ((jN + 1) - iN))), rfl, (by unfold aWindow wA; rw [if_pos ⟨c_4, c_w, c_25⟩, nI_clamp (by omega), nI_clamp (by omega), if_neg (by omega)]), by rw [ht]; exact hP9, hD9⟩, hS.F ht⟩) hS.2.2 dX9_window_79
        ·
          have c_25 := bz c_25
          refine lv_bipush (v := (-2)) hx hb dX9_window_28 (by decide) ?_
          have hP9 := hP.sub (ws' := [(x0, .inr (9, [.ref sx, .ref g0, .ref w0, .ref k0, .ref la, .ref tr, .ref u0, .ref pt, .ref ap, .ref sp, .int fd])), (g0, .inr (3, [.ref s0, .ref s1, .int (nI low), .int (nI high)])), (s0, .inr (6, [.ref a0, .int lo0, .int fo0, .int (nI n0)])), (a0, .inl (cI, 60, .inl it0)), (s1, .inr (6, [.ref a1, .int lo1, .int fo1, .int (nI n1)])), (a1, .inl (cI, 60, .inl it1)), (sp, .inr (7, [.long a1_, .long b1_]))]) [0, 1, 2, 3, 4, 5, 6] rfl
          have hD9 := hD.sub (ws' := [(x0, .inr (9, [.ref sx, .ref g0, .ref w0, .ref k0, .ref la, .ref tr, .ref u0, .ref pt, .ref ap, .ref sp, .int fd])), (g0, .inr (3, [.ref s0, .ref s1, .int (nI low), .int (nI high)])), (s0, .inr (6, [.ref a0, .int lo0, .int fo0, .int (nI n0)])), (a0, .inl (cI, 60, .inl it0)), (s1, .inr (6, [.ref a1, .int lo1, .int fo1, .int (nI n1)])), (a1, .inl (cI, 60, .inl it1)), (sp, .inr (7, [.long a1_, .long b1_]))]) [0, 1, 2, 3, 4, 5, 6] (by decide) rfl
          exact W.iret (v := (-2)) hx hb hr (fun t ht hW => ⟨⟨_, (a1_, b1_), rfl, (by unfold aWindow; first | rw [if_neg (fun h => c_4 h.1)] | rw [if_neg (fun h => win0 c_4 c_11 h.2.1)] | rw [if_neg (fun h => win2 c_16 h.2.1)] | rw [if_neg (fun h => c_25 h.2.2)]), by rw [ht]; exact hP9, hD9⟩, hS.F ht⟩) hS.2.2 dX9_window_30
