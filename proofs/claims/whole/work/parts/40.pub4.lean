set_option maxHeartbeats 4000000 in
set_option maxRecDepth 100000 in
theorem c_X9_pull {l : Launch} {D : va_G} {cI cS cP : ClassId} {sz : Nat} {x0 sx g0 w0 k0 la tr pt ap sp : Nat} {fd : Int32} {u0 fa ta np fe te kk : Nat} {fo sf : Nat → Nat} {f1 e1 : Int32} (hnp : np ≤ 20) : Met l yX9_pull wsX9_pull ({ frames := 1, cells := 0, slots := 0, locals := 22 }) (PC D (TY cI cS cP) [.ref x0, .int f1, .int e1] sz [(x0, .inr (9, [.ref sx, .ref g0, .ref w0, .ref k0, .ref la, .ref tr, .ref u0, .ref pt, .ref ap, .ref sp, .int fd])), (u0, .inr (5, [.ref fa, .ref ta, .int (nI np), .int (nI fe), .int (nI te), .int (nI kk)])), (fa, .inl (cI, 20, .inl (nF fo))), (ta, .inl (cI, 20, .inl (nF sf)))]) (QI D (fun (r : Int32) (u : Nat × (Nat → Nat) × (Nat → Nat)) => (r = aPull np f1 e1) ∧ u = sPull np fo sf f1 e1) (fun (u : Nat × (Nat → Nat) × (Nat → Nat)) => [(x0, .inr (9, [.ref sx, .ref g0, .ref w0, .ref k0, .ref la, .ref tr, .ref u0, .ref pt, .ref ap, .ref sp, .int fd])), (u0, .inr (5, [.ref fa, .ref ta, .int (nI u.1), .int (nI fe), .int (nI te), .int (nI kk)])), (fa, .inl (cI, 20, .inl (nF u.2.1))), (ta, .inl (cI, 20, .inl (nF u.2.2)))]) (va_A [(x0, .inr (9, [.ref sx, .ref g0, .ref w0, .ref k0, .ref la, .ref tr, .ref u0, .ref pt, .ref ap, .ref sp, .int fd])), (u0, .inr (5, [.ref fa, .ref ta, .int (nI np), .int (nI fe), .int (nI te), .int (nI kk)])), (fa, .inl (cI, 20, .inl (nF fo))), (ta, .inl (cI, 20, .inl (nF sf)))] sz)) 0 0 (va_A [(x0, .inr (9, [.ref sx, .ref g0, .ref w0, .ref k0, .ref la, .ref tr, .ref u0, .ref pt, .ref ap, .ref sp, .int fd])), (u0, .inr (5, [.ref fa, .ref ta, .int (nI np), .int (nI fe), .int (nI te), .int (nI kk)])), (fa, .inl (cI, 20, .inl (nF fo))), (ta, .inl (cI, 20, .inl (nF sf)))] sz) := by
  refine Met.ofW (cc := cX9_pull) (maxL := 3) (ret := (some .int)) (by decide) rfl ?_
  intro p e s m args below meth c s₁ B hml hv
  obtain ⟨rfl, hsz, hP, hK, hD0, hN⟩ := hv
  have hx := B.exec
  have hb := B.bytes
  have hr := B.returns
  have hts := atoms_spec (ws := wsX9_pull) B.pre
  have hown : s.vm.findClass RX9 = some m.cls := findClass_of_methodNamed B.named
  have hlocks := B.notSynchronized
  subst hsz
  have iX5 : ∀ w ∈ u_ws RX5 TX5 6, w ∈ wsX9_pull := by decide +kernel
  have iX9 : ∀ w ∈ u_ws RX9 TX9 11, w ∈ wsX9_pull := by decide +kernel
  have hD := hD0.self (sz := s.heap.size)
  generalize hAe : va_A [(x0, .inr (9, [.ref sx, .ref g0, .ref w0, .ref k0, .ref la, .ref tr, .ref u0, .ref pt, .ref ap, .ref sp, .int fd])), (u0, .inr (5, [.ref fa, .ref ta, .int (nI np), .int (nI fe), .int (nI te), .int (nI kk)])), (fa, .inl (cI, 20, .inl (nF fo))), (ta, .inl (cI, 20, .inl (nF sf)))] s.heap.size = A at hD ⊢
  have hA : ∀ q : Nat, s.heap.size ≤ q → A q := fun q h => by rw [← hAe]; exact Or.inr h
  have hS : va_S A s.heap s.heap [] := va_S.rf
  have hP : va_P D vwCl [(x0, .inr (9, [.ref sx, .ref g0, .ref w0, .ref k0, .ref la, .ref tr, .ref u0, .ref pt, .ref ap, .ref sp, .int fd])), (u0, .inr (5, [.ref fa, .ref ta, .int (nI np), .int (nI fe), .int (nI te), .int (nI kk)])), (fa, .inl (cI, 20, .inl (nF fo))), (ta, .inl (cI, 20, .inl (nF sf)))] s.heap := hP
  have hl := lv_entry ([.ref x0, .int f1, .int e1]) (n := 3) (Nat.le_of_ble_eq_true rfl)
  rw [lg_entry_eq]
  generalize (lg_sl ([.ref x0, .int f1, .int e1]) ++ List.replicate (3 - (lg_sl ([.ref x0, .int f1, .int e1])).length) Slot.unset).toArray = ls at hl ⊢
  have hl : lv_has ls 3 [(0, .ref x0), (1, .int f1), (2, .int e1)] := hl
  refine lv_iload_n hx hb dX9_pull_0 rfl (lv_at hl 1 rfl) ?_
  refine lv_bipush (v := 10) hx hb dX9_pull_1 (by decide) ?_
  refine lv_sipush (v := 10000) hx hb dX9_pull_3 (by decide) ?_
  refine q_S (tys := TY cI cS cP) (D := D) ⟨hx, hb, hml, hown, hts⟩ [.int f1, .int (10 : Int32), .int (10000 : Int32)] [] c_X9_within (va_cwS 3 hts gX9_pull_X9_within rfl rfl rfl (by decide +kernel) ⟨Nat.le_of_ble_eq_true rfl, Nat.le_of_ble_eq_true rfl⟩) hK hN rfl hl.1 rfl (Nat.le_of_ble_eq_true rfl) dX9_pull_6 ⟨Nat.zero_le _, Nat.zero_le _⟩ (fun r hw => ?_)
  subst hw
  refine lv_if_eq (tgt := 22) hx hb dX9_pull_9 (by decide) (fun c_9 => ?_) (fun c_9 => ?_)
  ·
    have c_9 := bz c_9
    refine lv_bipush (v := (-2)) hx hb dX9_pull_22 (by decide) ?_
    have hP9 := hP.sub (ws' := [(x0, .inr (9, [.ref sx, .ref g0, .ref w0, .ref k0, .ref la, .ref tr, .ref u0, .ref pt, .ref ap, .ref sp, .int fd])), (u0, .inr (5, [.ref fa, .ref ta, .int (nI np), .int (nI fe), .int (nI te), .int (nI kk)])), (fa, .inl (cI, 20, .inl (nF fo))), (ta, .inl (cI, 20, .inl (nF sf)))]) [0, 1, 2, 3] rfl
    have hD9 := hD.sub (ws' := [(x0, .inr (9, [.ref sx, .ref g0, .ref w0, .ref k0, .ref la, .ref tr, .ref u0, .ref pt, .ref ap, .ref sp, .int fd])), (u0, .inr (5, [.ref fa, .ref ta, .int (nI np), .int (nI fe), .int (nI te), .int (nI kk)])), (fa, .inl (cI, 20, .inl (nF fo))), (ta, .inl (cI, 20, .inl (nF sf)))]) [0, 1, 2, 3] (by decide) rfl
    exact W.iret (v := (-2)) hx hb hr (fun t ht hW => ⟨⟨_, (np, fo, sf), rfl, (by unfold aPull sPull; first | rw [if_neg (fun h => c_9 h.1), if_neg (fun h => c_9 h.1)]; exact ⟨rfl, rfl⟩ | rw [if_neg (fun h => c_19 h.2), if_neg (fun h => c_19 h.2)]; exact ⟨rfl, rfl⟩), by rw [ht]; exact hP9, hD9⟩, hS.F ht⟩) hS.2.2 dX9_pull_24
  ·
    have c_9 := bnz c_9
    refine lv_iload_n hx hb dX9_pull_12 rfl (lv_at hl 2 rfl) ?_
    refine lv_iconst (v := 0) hx hb dX9_pull_13 (by decide) ?_
    refine lv_ldc hx hb hown (hts (.constant RX9 199 (100000)) (by decide +kernel)) dX9_pull_14 ?_
    refine q_S (tys := TY cI cS cP) (D := D) ⟨hx, hb, hml, hown, hts⟩ [.int e1, .int (0 : Int32), .int (100000 : Int32)] [] c_X9_within (va_cwS 3 hts gX9_pull_X9_within rfl rfl rfl (by decide +kernel) ⟨Nat.le_of_ble_eq_true rfl, Nat.le_of_ble_eq_true rfl⟩) hK hN rfl hl.1 rfl (Nat.le_of_ble_eq_true rfl) dX9_pull_16 ⟨Nat.zero_le _, Nat.zero_le _⟩ (fun r hw => ?_)
    subst hw
    refine lv_if_ne (tgt := 25) hx hb dX9_pull_19 (by decide) (fun c_19 => ?_) (fun c_19 => ?_)
    ·
      have c_19 := bnz c_19
      obtain ⟨fn, hfna, hfn, rfl⟩ := nat_of1 (lo := 10) (hi := 10000) (a := 10) (n := 10000) (by decide) (by decide) c_9
      obtain ⟨en_, hen_, rfl⟩ := nat_of (hi := 100000) (n := 100000) (by decide) c_19
      refine lv_aload_n hx hb dX9_pull_25 rfl (lv_at hl 0 rfl) ?_
      refine va_get (D := D) (ci := 9) (v := .ref u0) (C := RX9) (T := TX9) (N := 11) hx hb hts iX9 hown hK hP 0 rfl rfl 6 (by decide) (hts (.fieldLink RX9 18 "DeepHole" "pulls" "LDeepHole$Pulls;") (by decide +kernel)) (fun _ h9 => h9) rfl dX9_pull_26 ?_
      refine lv_iload_n hx hb dX9_pull_29 rfl (lv_at hl 1 rfl) ?_
      refine lv_iload_n hx hb dX9_pull_30 rfl (lv_at hl 2 rfl) ?_
      refine w_V (wc := [(u0, .inr (5, [.ref fa, .ref ta, .int (nI np), .int (nI fe), .int (nI te), .int (nI kk)])), (fa, .inl (cI, 20, .inl (nF fo))), (ta, .inl (cI, 20, .inl (nF sf)))]) (wr := [(x0, .inr (9, [.ref sx, .ref g0, .ref w0, .ref k0, .ref la, .ref tr, .ref u0, .ref pt, .ref ap, .ref sp, .int fd]))]) (b := u0) ⟨hx, hb, hml, hown, hts⟩ [.int (nI fn), .int (nI en_)] [] (c_X5_add  (by first | assumption | omega)) (cwV 2 hts gX9_pull_X5_add rfl rfl rfl (by decide +kernel) ⟨Nat.le_of_ble_eq_true rfl, Nat.le_of_ble_eq_true rfl⟩) hK hN hP hD hS hA [1, 2, 3] [0] rfl (by decide) rfl (by decide) (by decide) (ci := 5) rfl rfl rfl rfl hl.1 rfl (Nat.le_of_ble_eq_true rfl) dX9_pull_31 ⟨Nat.zero_le _, Nat.zero_le _⟩ (fun r u H locs hw hP hD hS => ?_)
      obtain ⟨u_1, u_2, u_3⟩ := u
      try dsimp only at hw
      have hP : va_P D vwCl [(x0, .inr (9, [.ref sx, .ref g0, .ref w0, .ref k0, .ref la, .ref tr, .ref u0, .ref pt, .ref ap, .ref sp, .int fd])), (u0, .inr (5, [.ref fa, .ref ta, .int (nI u_1), .int (nI fe), .int (nI te), .int (nI kk)])), (fa, .inl (cI, 20, .inl (nF u_2))), (ta, .inl (cI, 20, .inl (nF u_3)))] H := hP
      have hD : va_D A [(x0, .inr (9, [.ref sx, .ref g0, .ref w0, .ref k0, .ref la, .ref tr, .ref u0, .ref pt, .ref ap, .ref sp, .int fd])), (u0, .inr (5, [.ref fa, .ref ta, .int (nI u_1), .int (nI fe), .int (nI te), .int (nI kk)])), (fa, .inl (cI, 20, .inl (nF u_2))), (ta, .inl (cI, 20, .inl (nF u_3)))] := hD
      obtain ⟨hw, hw_31⟩ := hw
      subst hw
      refine lv_if_eq (tgt := 47) hx hb dX9_pull_34 (by decide) (fun c_34 => ?_) (fun c_34 => ?_)
      ·
        have c_34 := bz c_34
        refine lv_bipush (v := (-4)) hx hb dX9_pull_47 (by decide) ?_
        have hP9 := hP.sub (ws' := [(x0, .inr (9, [.ref sx, .ref g0, .ref w0, .ref k0, .ref la, .ref tr, .ref u0, .ref pt, .ref ap, .ref sp, .int fd])), (u0, .inr (5, [.ref fa, .ref ta, .int (nI u_1), .int (nI fe), .int (nI te), .int (nI kk)])), (fa, .inl (cI, 20, .inl (nF u_2))), (ta, .inl (cI, 20, .inl (nF u_3)))]) [0, 1, 2, 3] rfl
        have hD9 := hD.sub (ws' := [(x0, .inr (9, [.ref sx, .ref g0, .ref w0, .ref k0, .ref la, .ref tr, .ref u0, .ref pt, .ref ap, .ref sp, .int fd])), (u0, .inr (5, [.ref fa, .ref ta, .int (nI u_1), .int (nI fe), .int (nI te), .int (nI kk)])), (fa, .inl (cI, 20, .inl (nF u_2))), (ta, .inl (cI, 20, .inl (nF u_3)))]) [0, 1, 2, 3] (by decide) rfl
        exact W.iret (v := (-4)) hx hb hr (fun t ht hW => ⟨⟨_, (u_1, u_2, u_3), rfl, (by have hC := And.intro c_9 c_19; unfold aPull sPull; rw [if_pos hC, if_pos hC, nI_clamp (by omega), nI_clamp (by omega), if_neg c_34]; exact ⟨rfl, hw_31⟩), by rw [ht]; exact hP9, hD9⟩, hS.F ht⟩) hS.2.2 dX9_pull_49
      ·
        have c_34 := bnz c_34
        refine lv_aload_n hx hb dX9_pull_37 rfl (lv_at hl 0 rfl) ?_
        refine va_get (D := D) (ci := 9) (v := .ref u0) (C := RX9) (T := TX9) (N := 11) hx hb hts iX9 hown hK hP 0 rfl rfl 6 (by decide) (hts (.fieldLink RX9 18 "DeepHole" "pulls" "LDeepHole$Pulls;") (by decide +kernel)) (fun _ h9 => h9) rfl dX9_pull_38 ?_
        refine va_get (D := D) (ci := 5) (v := .int (nI u_1)) (C := RX5) (T := TX5) (N := 6) hx hb hts iX5 hown hK hP 1 rfl rfl 2 (by decide) (hts (.fieldLink RX9 211 "DeepHole$Pulls" "number" "I") (by decide +kernel)) (fun _ h9 => h9) rfl dX9_pull_41 ?_
        refine lv_goto (tgt := 49) hx hb dX9_pull_44 (by decide) ?_
        have hP9 := hP.sub (ws' := [(x0, .inr (9, [.ref sx, .ref g0, .ref w0, .ref k0, .ref la, .ref tr, .ref u0, .ref pt, .ref ap, .ref sp, .int fd])), (u0, .inr (5, [.ref fa, .ref ta, .int (nI u_1), .int (nI fe), .int (nI te), .int (nI kk)])), (fa, .inl (cI, 20, .inl (nF u_2))), (ta, .inl (cI, 20, .inl (nF u_3)))]) [0, 1, 2, 3] rfl
        have hD9 := hD.sub (ws' := [(x0, .inr (9, [.ref sx, .ref g0, .ref w0, .ref k0, .ref la, .ref tr, .ref u0, .ref pt, .ref ap, .ref sp, .int fd])), (u0, .inr (5, [.ref fa, .ref ta, .int (nI u_1), .int (nI fe), .int (nI te), .int (nI kk)])), (fa, .inl (cI, 20, .inl (nF u_2))), (ta, .inl (cI, 20, .inl (nF u_3)))]) [0, 1, 2, 3] (by decide) rfl
        exact W.iret (v := nI u_1) hx hb hr (fun t ht hW => ⟨⟨_, (u_1, u_2, u_3), rfl, (by have hC := And.intro c_9 c_19; unfold aPull sPull; rw [if_pos hC, if_pos hC, nI_clamp (by omega), nI_clamp (by omega), if_pos c_34]; exact ⟨by rw [addN_1 hw_31 c_34], hw_31⟩), by rw [ht]; exact hP9, hD9⟩, hS.F ht⟩) hS.2.2 dX9_pull_49
    ·
      have c_19 := bz c_19
      refine lv_bipush (v := (-2)) hx hb dX9_pull_22 (by decide) ?_
      have hP9 := hP.sub (ws' := [(x0, .inr (9, [.ref sx, .ref g0, .ref w0, .ref k0, .ref la, .ref tr, .ref u0, .ref pt, .ref ap, .ref sp, .int fd])), (u0, .inr (5, [.ref fa, .ref ta, .int (nI np), .int (nI fe), .int (nI te), .int (nI kk)])), (fa, .inl (cI, 20, .inl (nF fo))), (ta, .inl (cI, 20, .inl (nF sf)))]) [0, 1, 2, 3] rfl
      have hD9 := hD.sub (ws' := [(x0, .inr (9, [.ref sx, .ref g0, .ref w0, .ref k0, .ref la, .ref tr, .ref u0, .ref pt, .ref ap, .ref sp, .int fd])), (u0, .inr (5, [.ref fa, .ref ta, .int (nI np), .int (nI fe), .int (nI te), .int (nI kk)])), (fa, .inl (cI, 20, .inl (nF fo))), (ta, .inl (cI, 20, .inl (nF sf)))]) [0, 1, 2, 3] (by decide) rfl
      exact W.iret (v := (-2)) hx hb hr (fun t ht hW => ⟨⟨_, (np, fo, sf), rfl, (by unfold aPull sPull; first | rw [if_neg (fun h => c_9 h.1), if_neg (fun h => c_9 h.1)]; exact ⟨rfl, rfl⟩ | rw [if_neg (fun h => c_19 h.2), if_neg (fun h => c_19 h.2)]; exact ⟨rfl, rfl⟩), by rw [ht]; exact hP9, hD9⟩, hS.F ht⟩) hS.2.2 dX9_pull_24

set_option maxHeartbeats 4000000 in
set_option maxRecDepth 100000 in
theorem c_X9_slack {l : Launch} {D : va_G} {cI cS cP : ClassId} {sz : Nat} {x0 sx g0 w0 k0 la tr pt ap sp : Nat} {fd : Int32} {u0 fa ta np fe te kk : Nat}  : Met l yX9_slack wsX9_slack ({ frames := 0, cells := 0, slots := 0, locals := 0 }) (PC D (TY cI cS cP) [.ref x0] sz [(x0, .inr (9, [.ref sx, .ref g0, .ref w0, .ref k0, .ref la, .ref tr, .ref u0, .ref pt, .ref ap, .ref sp, .int fd])), (u0, .inr (5, [.ref fa, .ref ta, .int (nI np), .int (nI fe), .int (nI te), .int (nI kk)]))]) (QI D (fun (r : Int32) (u : Unit) => r = nI np) (fun (u : Unit) => [(x0, .inr (9, [.ref sx, .ref g0, .ref w0, .ref k0, .ref la, .ref tr, .ref u0, .ref pt, .ref ap, .ref sp, .int fd])), (u0, .inr (5, [.ref fa, .ref ta, .int 0, .int (nI fe), .int (nI te), .int (nI kk)]))]) (va_A [(x0, .inr (9, [.ref sx, .ref g0, .ref w0, .ref k0, .ref la, .ref tr, .ref u0, .ref pt, .ref ap, .ref sp, .int fd])), (u0, .inr (5, [.ref fa, .ref ta, .int (nI np), .int (nI fe), .int (nI te), .int (nI kk)]))] sz)) 0 0 (va_A [(x0, .inr (9, [.ref sx, .ref g0, .ref w0, .ref k0, .ref la, .ref tr, .ref u0, .ref pt, .ref ap, .ref sp, .int fd])), (u0, .inr (5, [.ref fa, .ref ta, .int (nI np), .int (nI fe), .int (nI te), .int (nI kk)]))] sz) := by
  refine Met.ofW (cc := cX9_slack) (maxL := 2) (ret := (some .int)) (by decide) rfl ?_
  intro p e s m args below meth c s₁ B hml hv
  obtain ⟨rfl, hsz, hP, hK, hD0, hN⟩ := hv
  have hx := B.exec
  have hb := B.bytes
  have hr := B.returns
  have hts := atoms_spec (ws := wsX9_slack) B.pre
  have hown : s.vm.findClass RX9 = some m.cls := findClass_of_methodNamed B.named
  have hlocks := B.notSynchronized
  subst hsz
  have iX5 : ∀ w ∈ u_ws RX5 TX5 6, w ∈ wsX9_slack := by decide +kernel
  have iX9 : ∀ w ∈ u_ws RX9 TX9 11, w ∈ wsX9_slack := by decide +kernel
  have hD := hD0.self (sz := s.heap.size)
  generalize hAe : va_A [(x0, .inr (9, [.ref sx, .ref g0, .ref w0, .ref k0, .ref la, .ref tr, .ref u0, .ref pt, .ref ap, .ref sp, .int fd])), (u0, .inr (5, [.ref fa, .ref ta, .int (nI np), .int (nI fe), .int (nI te), .int (nI kk)]))] s.heap.size = A at hD ⊢
  have hA : ∀ q : Nat, s.heap.size ≤ q → A q := fun q h => by rw [← hAe]; exact Or.inr h
  have hS : va_S A s.heap s.heap [] := va_S.rf
  have hP : va_P D vwCl [(x0, .inr (9, [.ref sx, .ref g0, .ref w0, .ref k0, .ref la, .ref tr, .ref u0, .ref pt, .ref ap, .ref sp, .int fd])), (u0, .inr (5, [.ref fa, .ref ta, .int (nI np), .int (nI fe), .int (nI te), .int (nI kk)]))] s.heap := hP
  have hl := lv_entry ([.ref x0]) (n := 2) (Nat.le_of_ble_eq_true rfl)
  rw [lg_entry_eq]
  generalize (lg_sl ([.ref x0]) ++ List.replicate (2 - (lg_sl ([.ref x0])).length) Slot.unset).toArray = ls at hl ⊢
  have hl : lv_has ls 2 [(0, .ref x0)] := hl
  refine lv_aload_n hx hb dX9_slack_0 rfl (lv_at hl 0 rfl) ?_
  refine va_get (D := D) (ci := 9) (v := .ref u0) (C := RX9) (T := TX9) (N := 11) hx hb hts iX9 hown hK hP 0 rfl rfl 6 (by decide) (hts (.fieldLink RX9 18 "DeepHole" "pulls" "LDeepHole$Pulls;") (by decide +kernel)) (fun _ h9 => h9) rfl dX9_slack_1 ?_
  refine va_get (D := D) (ci := 5) (v := .int (nI np)) (C := RX5) (T := TX5) (N := 6) hx hb hts iX5 hown hK hP 1 rfl rfl 2 (by decide) (hts (.fieldLink RX9 211 "DeepHole$Pulls" "number" "I") (by decide +kernel)) (fun _ h9 => h9) rfl dX9_slack_4 ?_
  refine lv_istore_n (lv' := [(1, .int (nI np)), (0, .ref x0)]) hx hb dX9_slack_7 rfl hl (by decide) rfl (fun ls hl => ?_)
  refine lv_aload_n hx hb dX9_slack_8 rfl (lv_at hl 1 rfl) ?_
  refine va_get (D := D) (ci := 9) (v := .ref u0) (C := RX9) (T := TX9) (N := 11) hx hb hts iX9 hown hK hP 0 rfl rfl 6 (by decide) (hts (.fieldLink RX9 18 "DeepHole" "pulls" "LDeepHole$Pulls;") (by decide +kernel)) (fun _ h9 => h9) rfl dX9_slack_9 ?_
  refine lv_iconst (v := 0) hx hb dX9_slack_12 (by decide) ?_
  refine va_put (D := D) (ci := 5) (v := .int 0) (ty := .int) (C := RX5) (T := TX5) (N := 6) hx hb hts iX5 tyX5 tyX5_ok nmX5 hown hK hP hD hS 1 rfl rfl 2 (by decide) (hts (.fieldLink RX9 211 "DeepHole$Pulls" "number" "I") (by decide +kernel)) (fun _ h9 => h9) rfl (by decide +kernel) rfl rfl (Nat.le_of_ble_eq_true rfl) dX9_slack_13 (fun H locs hP hD hS => ?_)
  have hP : va_P D vwCl [(x0, .inr (9, [.ref sx, .ref g0, .ref w0, .ref k0, .ref la, .ref tr, .ref u0, .ref pt, .ref ap, .ref sp, .int fd])), (u0, .inr (5, [.ref fa, .ref ta, .int 0, .int (nI fe), .int (nI te), .int (nI kk)]))] H := hP
  have hD : va_D A [(x0, .inr (9, [.ref sx, .ref g0, .ref w0, .ref k0, .ref la, .ref tr, .ref u0, .ref pt, .ref ap, .ref sp, .int fd])), (u0, .inr (5, [.ref fa, .ref ta, .int 0, .int (nI fe), .int (nI te), .int (nI kk)]))] := hD
  refine lv_iload_n hx hb dX9_slack_16 rfl (lv_at hl 0 rfl) ?_
  have hP9 := hP.sub (ws' := [(x0, .inr (9, [.ref sx, .ref g0, .ref w0, .ref k0, .ref la, .ref tr, .ref u0, .ref pt, .ref ap, .ref sp, .int fd])), (u0, .inr (5, [.ref fa, .ref ta, .int 0, .int (nI fe), .int (nI te), .int (nI kk)]))]) [0, 1] rfl
  have hD9 := hD.sub (ws' := [(x0, .inr (9, [.ref sx, .ref g0, .ref w0, .ref k0, .ref la, .ref tr, .ref u0, .ref pt, .ref ap, .ref sp, .int fd])), (u0, .inr (5, [.ref fa, .ref ta, .int 0, .int (nI fe), .int (nI te), .int (nI kk)]))]) [0, 1] (by decide) rfl
  exact W.iret (v := nI np) hx hb hr (fun t ht hW => ⟨⟨_, (), rfl, (by rfl), by rw [ht]; exact hP9, hD9⟩, hS.F ht⟩) hS.2.2 dX9_slack_17

set_option maxHeartbeats 4000000 in
set_option maxRecDepth 100000 in
theorem c_X9_ends {l : Launch} {D : va_G} {cI cS cP : ClassId} {sz : Nat} {x0 sx g0 w0 k0 la tr pt ap sp : Nat} {fd : Int32} {u0 fa ta np fe te kk : Nat} {f1 e1 k1 : Int32}  : Met l yX9_ends wsX9_ends ({ frames := 1, cells := 0, slots := 0, locals := 22 }) (PC D (TY cI cS cP) [.ref x0, .int f1, .int e1, .int k1] sz [(x0, .inr (9, [.ref sx, .ref g0, .ref w0, .ref k0, .ref la, .ref tr, .ref u0, .ref pt, .ref ap, .ref sp, .int fd])), (u0, .inr (5, [.ref fa, .ref ta, .int (nI np), .int (nI fe), .int (nI te), .int (nI kk)]))]) (QI D (fun (r : Int32) (u : Nat × Nat × Nat) => (r = aEnds f1 e1 k1) ∧ u = sEnds fe te kk f1 e1 k1) (fun (u : Nat × Nat × Nat) => [(x0, .inr (9, [.ref sx, .ref g0, .ref w0, .ref k0, .ref la, .ref tr, .ref u0, .ref pt, .ref ap, .ref sp, .int fd])), (u0, .inr (5, [.ref fa, .ref ta, .int (nI np), .int (nI u.1), .int (nI u.2.1), .int (nI u.2.2)]))]) (va_A [(x0, .inr (9, [.ref sx, .ref g0, .ref w0, .ref k0, .ref la, .ref tr, .ref u0, .ref pt, .ref ap, .ref sp, .int fd])), (u0, .inr (5, [.ref fa, .ref ta, .int (nI np), .int (nI fe), .int (nI te), .int (nI kk)]))] sz)) 0 0 (va_A [(x0, .inr (9, [.ref sx, .ref g0, .ref w0, .ref k0, .ref la, .ref tr, .ref u0, .ref pt, .ref ap, .ref sp, .int fd])), (u0, .inr (5, [.ref fa, .ref ta, .int (nI np), .int (nI fe), .int (nI te), .int (nI kk)]))] sz) := by
  refine Met.ofW (cc := cX9_ends) (maxL := 4) (ret := (some .int)) (by decide) rfl ?_
  intro p e s m args below meth c s₁ B hml hv
  obtain ⟨rfl, hsz, hP, hK, hD0, hN⟩ := hv
  have hx := B.exec
  have hb := B.bytes
  have hr := B.returns
  have hts := atoms_spec (ws := wsX9_ends) B.pre
  have hown : s.vm.findClass RX9 = some m.cls := findClass_of_methodNamed B.named
  have hlocks := B.notSynchronized
  subst hsz
  have iX5 : ∀ w ∈ u_ws RX5 TX5 6, w ∈ wsX9_ends := by decide +kernel
  have iX9 : ∀ w ∈ u_ws RX9 TX9 11, w ∈ wsX9_ends := by decide +kernel
  have hD := hD0.self (sz := s.heap.size)
  generalize hAe : va_A [(x0, .inr (9, [.ref sx, .ref g0, .ref w0, .ref k0, .ref la, .ref tr, .ref u0, .ref pt, .ref ap, .ref sp, .int fd])), (u0, .inr (5, [.ref fa, .ref ta, .int (nI np), .int (nI fe), .int (nI te), .int (nI kk)]))] s.heap.size = A at hD ⊢
  have hA : ∀ q : Nat, s.heap.size ≤ q → A q := fun q h => by rw [← hAe]; exact Or.inr h
  have hS : va_S A s.heap s.heap [] := va_S.rf
  have hP : va_P D vwCl [(x0, .inr (9, [.ref sx, .ref g0, .ref w0, .ref k0, .ref la, .ref tr, .ref u0, .ref pt, .ref ap, .ref sp, .int fd])), (u0, .inr (5, [.ref fa, .ref ta, .int (nI np), .int (nI fe), .int (nI te), .int (nI kk)]))] s.heap := hP
  have hl := lv_entry ([.ref x0, .int f1, .int e1, .int k1]) (n := 4) (Nat.le_of_ble_eq_true rfl)
  rw [lg_entry_eq]
  generalize (lg_sl ([.ref x0, .int f1, .int e1, .int k1]) ++ List.replicate (4 - (lg_sl ([.ref x0, .int f1, .int e1, .int k1])).length) Slot.unset).toArray = ls at hl ⊢
  have hl : lv_has ls 4 [(0, .ref x0), (1, .int f1), (2, .int e1), (3, .int k1)] := hl
  refine lv_iload_n hx hb dX9_ends_0 rfl (lv_at hl 1 rfl) ?_
  refine lv_iconst (v := 0) hx hb dX9_ends_1 (by decide) ?_
  refine lv_bipush (v := 9) hx hb dX9_ends_2 (by decide) ?_
  refine q_S (tys := TY cI cS cP) (D := D) ⟨hx, hb, hml, hown, hts⟩ [.int f1, .int (0 : Int32), .int (9 : Int32)] [] c_X9_within (va_cwS 3 hts gX9_ends_X9_within rfl rfl rfl (by decide +kernel) ⟨Nat.le_of_ble_eq_true rfl, Nat.le_of_ble_eq_true rfl⟩) hK hN rfl hl.1 rfl (Nat.le_of_ble_eq_true rfl) dX9_ends_4 ⟨Nat.zero_le _, Nat.zero_le _⟩ (fun r hw => ?_)
  subst hw
  refine lv_if_eq (tgt := 32) hx hb dX9_ends_7 (by decide) (fun c_7 => ?_) (fun c_7 => ?_)
  ·
    have c_7 := bz c_7
    refine lv_bipush (v := (-2)) hx hb dX9_ends_32 (by decide) ?_
    have hP9 := hP.sub (ws' := [(x0, .inr (9, [.ref sx, .ref g0, .ref w0, .ref k0, .ref la, .ref tr, .ref u0, .ref pt, .ref ap, .ref sp, .int fd])), (u0, .inr (5, [.ref fa, .ref ta, .int (nI np), .int (nI fe), .int (nI te), .int (nI kk)]))]) [0, 1] rfl
    have hD9 := hD.sub (ws' := [(x0, .inr (9, [.ref sx, .ref g0, .ref w0, .ref k0, .ref la, .ref tr, .ref u0, .ref pt, .ref ap, .ref sp, .int fd])), (u0, .inr (5, [.ref fa, .ref ta, .int (nI np), .int (nI fe), .int (nI te), .int (nI kk)]))]) [0, 1] (by decide) rfl
    exact W.iret (v := (-2)) hx hb hr (fun t ht hW => ⟨⟨_, (fe, te, kk), rfl, (by unfold aEnds sEnds; first | rw [if_neg (fun h => c_7 h.1), if_neg (fun h => c_7 h.1)]; exact ⟨rfl, rfl⟩ | rw [if_neg (fun h => c_18 h.2.1), if_neg (fun h => c_18 h.2.1)]; exact ⟨rfl, rfl⟩ | rw [if_neg (fun h => c_29 h.2.2), if_neg (fun h => c_29 h.2.2)]; exact ⟨rfl, rfl⟩), by rw [ht]; exact hP9, hD9⟩, hS.F ht⟩) hS.2.2 dX9_ends_34
  ·
    have c_7 := bnz c_7
    refine lv_iload_n hx hb dX9_ends_10 rfl (lv_at hl 2 rfl) ?_
    refine lv_iconst (v := 0) hx hb dX9_ends_11 (by decide) ?_
    refine lv_sipush (v := 1000) hx hb dX9_ends_12 (by decide) ?_
    refine q_S (tys := TY cI cS cP) (D := D) ⟨hx, hb, hml, hown, hts⟩ [.int e1, .int (0 : Int32), .int (1000 : Int32)] [] c_X9_within (va_cwS 3 hts gX9_ends_X9_within rfl rfl rfl (by decide +kernel) ⟨Nat.le_of_ble_eq_true rfl, Nat.le_of_ble_eq_true rfl⟩) hK hN rfl hl.1 rfl (Nat.le_of_ble_eq_true rfl) dX9_ends_15 ⟨Nat.zero_le _, Nat.zero_le _⟩ (fun r hw => ?_)
    subst hw
    refine lv_if_eq (tgt := 32) hx hb dX9_ends_18 (by decide) (fun c_18 => ?_) (fun c_18 => ?_)
    ·
      have c_18 := bz c_18
      refine lv_bipush (v := (-2)) hx hb dX9_ends_32 (by decide) ?_
      have hP9 := hP.sub (ws' := [(x0, .inr (9, [.ref sx, .ref g0, .ref w0, .ref k0, .ref la, .ref tr, .ref u0, .ref pt, .ref ap, .ref sp, .int fd])), (u0, .inr (5, [.ref fa, .ref ta, .int (nI np), .int (nI fe), .int (nI te), .int (nI kk)]))]) [0, 1] rfl
      have hD9 := hD.sub (ws' := [(x0, .inr (9, [.ref sx, .ref g0, .ref w0, .ref k0, .ref la, .ref tr, .ref u0, .ref pt, .ref ap, .ref sp, .int fd])), (u0, .inr (5, [.ref fa, .ref ta, .int (nI np), .int (nI fe), .int (nI te), .int (nI kk)]))]) [0, 1] (by decide) rfl
      exact W.iret (v := (-2)) hx hb hr (fun t ht hW => ⟨⟨_, (fe, te, kk), rfl, (by unfold aEnds sEnds; first | rw [if_neg (fun h => c_7 h.1), if_neg (fun h => c_7 h.1)]; exact ⟨rfl, rfl⟩ | rw [if_neg (fun h => c_18 h.2.1), if_neg (fun h => c_18 h.2.1)]; exact ⟨rfl, rfl⟩ | rw [if_neg (fun h => c_29 h.2.2), if_neg (fun h => c_29 h.2.2)]; exact ⟨rfl, rfl⟩), by rw [ht]; exact hP9, hD9⟩, hS.F ht⟩) hS.2.2 dX9_ends_34
    ·
      have c_18 := bnz c_18
      refine lv_iload_n hx hb dX9_ends_21 rfl (lv_at hl 3 rfl) ?_
      refine lv_iconst (v := 1) hx hb dX9_ends_22 (by decide) ?_
      refine lv_sipush (v := 1000) hx hb dX9_ends_23 (by decide) ?_
      refine q_S (tys := TY cI cS cP) (D := D) ⟨hx, hb, hml, hown, hts⟩ [.int k1, .int (1 : Int32), .int (1000 : Int32)] [] c_X9_within (va_cwS 3 hts gX9_ends_X9_within rfl rfl rfl (by decide +kernel) ⟨Nat.le_of_ble_eq_true rfl, Nat.le_of_ble_eq_true rfl⟩) hK hN rfl hl.1 rfl (Nat.le_of_ble_eq_true rfl) dX9_ends_26 ⟨Nat.zero_le _, Nat.zero_le _⟩ (fun r hw => ?_)
      subst hw
      refine lv_if_ne (tgt := 35) hx hb dX9_ends_29 (by decide) (fun c_29 => ?_) (fun c_29 => ?_)
      ·
        have c_29 := bnz c_29
        obtain ⟨fn, hfn, rfl⟩ := nat_of (hi := 9) (n := 9) (by decide) c_7
        obtain ⟨en_, hen_, rfl⟩ := nat_of (hi := 1000) (n := 1000) (by decide) c_18
        obtain ⟨kn, hkna, hkn, rfl⟩ := nat_of1 (lo := 1) (hi := 1000) (a := 1) (n := 1000) (by decide) (by decide) c_29
        refine lv_aload_n hx hb dX9_ends_35 rfl (lv_at hl 0 rfl) ?_
        refine va_get (D := D) (ci := 9) (v := .ref u0) (C := RX9) (T := TX9) (N := 11) hx hb hts iX9 hown hK hP 0 rfl rfl 6 (by decide) (hts (.fieldLink RX9 18 "DeepHole" "pulls" "LDeepHole$Pulls;") (by decide +kernel)) (fun _ h9 => h9) rfl dX9_ends_36 ?_
        refine lv_iload_n hx hb dX9_ends_39 rfl (lv_at hl 1 rfl) ?_
        refine va_put (D := D) (ci := 5) (v := .int (nI fn)) (ty := .int) (C := RX5) (T := TX5) (N := 6) hx hb hts iX5 tyX5 tyX5_ok nmX5 hown hK hP hD hS 1 rfl rfl 3 (by decide) (hts (.fieldLink RX9 212 "DeepHole$Pulls" "forceEnd" "I") (by decide +kernel)) (fun _ h9 => h9) rfl (by decide +kernel) rfl rfl (Nat.le_of_ble_eq_true rfl) dX9_ends_40 (fun H locs hP hD hS => ?_)
        have hP : va_P D vwCl [(x0, .inr (9, [.ref sx, .ref g0, .ref w0, .ref k0, .ref la, .ref tr, .ref u0, .ref pt, .ref ap, .ref sp, .int fd])), (u0, .inr (5, [.ref fa, .ref ta, .int (nI np), .int (nI fn), .int (nI te), .int (nI kk)]))] H := hP
        have hD : va_D A [(x0, .inr (9, [.ref sx, .ref g0, .ref w0, .ref k0, .ref la, .ref tr, .ref u0, .ref pt, .ref ap, .ref sp, .int fd])), (u0, .inr (5, [.ref fa, .ref ta, .int (nI np), .int (nI fn), .int (nI te), .int (nI kk)]))] := hD
        refine lv_aload_n hx hb dX9_ends_43 rfl (lv_at hl 0 rfl) ?_
        refine va_get (D := D) (ci := 9) (v := .ref u0) (C := RX9) (T := TX9) (N := 11) hx hb hts iX9 hown hK hP 0 rfl rfl 6 (by decide) (hts (.fieldLink RX9 18 "DeepHole" "pulls" "LDeepHole$Pulls;") (by decide +kernel)) (fun _ h9 => h9) rfl dX9_ends_44 ?_
        refine lv_iload_n hx hb dX9_ends_47 rfl (lv_at hl 2 rfl) ?_
        refine va_put (D := D) (ci := 5) (v := .int (nI en_)) (ty := .int) (C := RX5) (T := TX5) (N := 6) hx hb hts iX5 tyX5 tyX5_ok nmX5 hown hK hP hD hS 1 rfl rfl 4 (by decide) (hts (.fieldLink RX9 215 "DeepHole$Pulls" "stretchEnd" "I") (by decide +kernel)) (fun _ h9 => h9) rfl (by decide +kernel) rfl rfl (Nat.le_of_ble_eq_true rfl) dX9_ends_48 (fun H locs hP hD hS => ?_)
        have hP : va_P D vwCl [(x0, .inr (9, [.ref sx, .ref g0, .ref w0, .ref k0, .ref la, .ref tr, .ref u0, .ref pt, .ref ap, .ref sp, .int fd])), (u0, .inr (5, [.ref fa, .ref ta, .int (nI np), .int (nI fn), .int (nI en_), .int (nI kk)]))] H := hP
        have hD : va_D A [(x0, .inr (9, [.ref sx, .ref g0, .ref w0, .ref k0, .ref la, .ref tr, .ref u0, .ref pt, .ref ap, .ref sp, .int fd])), (u0, .inr (5, [.ref fa, .ref ta, .int (nI np), .int (nI fn), .int (nI en_), .int (nI kk)]))] := hD
        refine lv_aload_n hx hb dX9_ends_51 rfl (lv_at hl 0 rfl) ?_
        refine va_get (D := D) (ci := 9) (v := .ref u0) (C := RX9) (T := TX9) (N := 11) hx hb hts iX9 hown hK hP 0 rfl rfl 6 (by decide) (hts (.fieldLink RX9 18 "DeepHole" "pulls" "LDeepHole$Pulls;") (by decide +kernel)) (fun _ h9 => h9) rfl dX9_ends_52 ?_
        refine lv_iload_n hx hb dX9_ends_55 rfl (lv_at hl 3 rfl) ?_
        refine va_put (D := D) (ci := 5) (v := .int (nI kn)) (ty := .int) (C := RX5) (T := TX5) (N := 6) hx hb hts iX5 tyX5 tyX5_ok nmX5 hown hK hP hD hS 1 rfl rfl 5 (by decide) (hts (.fieldLink RX9 218 "DeepHole$Pulls" "k" "I") (by decide +kernel)) (fun _ h9 => h9) rfl (by decide +kernel) rfl rfl (Nat.le_of_ble_eq_true rfl) dX9_ends_56 (fun H locs hP hD hS => ?_)
        have hP : va_P D vwCl [(x0, .inr (9, [.ref sx, .ref g0, .ref w0, .ref k0, .ref la, .ref tr, .ref u0, .ref pt, .ref ap, .ref sp, .int fd])), (u0, .inr (5, [.ref fa, .ref ta, .int (nI np), .int (nI fn), .int (nI en_), .int (nI kn)]))] H := hP
        have hD : va_D A [(x0, .inr (9, [.ref sx, .ref g0, .ref w0, .ref k0, .ref la, .ref tr, .ref u0, .ref pt, .ref ap, .ref sp, .int fd])), (u0, .inr (5, [.ref fa, .ref ta, .int (nI np), .int (nI fn), .int (nI en_), .int (nI kn)]))] := hD
        refine lv_iconst (v := 1) hx hb dX9_ends_59 (by decide) ?_
        have hP9 := hP.sub (ws' := [(x0, .inr (9, [.ref sx, .ref g0, .ref w0, .ref k0, .ref la, .ref tr, .ref u0, .ref pt, .ref ap, .ref sp, .int fd])), (u0, .inr (5, [.ref fa, .ref ta, .int (nI np), .int (nI fn), .int (nI en_), .int (nI kn)]))]) [0, 1] rfl
        have hD9 := hD.sub (ws' := [(x0, .inr (9, [.ref sx, .ref g0, .ref w0, .ref k0, .ref la, .ref tr, .ref u0, .ref pt, .ref ap, .ref sp, .int fd])), (u0, .inr (5, [.ref fa, .ref ta, .int (nI np), .int (nI fn), .int (nI en_), .int (nI kn)]))]) [0, 1] (by decide) rfl
        exact W.iret (v := 1) hx hb hr (fun t ht hW => ⟨⟨_, (fn, en_, kn), rfl, (by have hC := And.intro c_7 (And.intro c_18 c_29); unfold aEnds sEnds; rw [if_pos hC, if_pos hC, nI_clamp (by omega), nI_clamp (by omega), nI_clamp (by omega)]; exact ⟨rfl, rfl⟩), by rw [ht]; exact hP9, hD9⟩, hS.F ht⟩) hS.2.2 dX9_ends_60
      ·
        have c_29 := bz c_29
        refine lv_bipush (v := (-2)) hx hb dX9_ends_32 (by decide) ?_
        have hP9 := hP.sub (ws' := [(x0, .inr (9, [.ref sx, .ref g0, .ref w0, .ref k0, .ref la, .ref tr, .ref u0, .ref pt, .ref ap, .ref sp, .int fd])), (u0, .inr (5, [.ref fa, .ref ta, .int (nI np), .int (nI fe), .int (nI te), .int (nI kk)]))]) [0, 1] rfl
        have hD9 := hD.sub (ws' := [(x0, .inr (9, [.ref sx, .ref g0, .ref w0, .ref k0, .ref la, .ref tr, .ref u0, .ref pt, .ref ap, .ref sp, .int fd])), (u0, .inr (5, [.ref fa, .ref ta, .int (nI np), .int (nI fe), .int (nI te), .int (nI kk)]))]) [0, 1] (by decide) rfl
        exact W.iret (v := (-2)) hx hb hr (fun t ht hW => ⟨⟨_, (fe, te, kk), rfl, (by unfold aEnds sEnds; first | rw [if_neg (fun h => c_7 h.1), if_neg (fun h => c_7 h.1)]; exact ⟨rfl, rfl⟩ | rw [if_neg (fun h => c_18 h.2.1), if_neg (fun h => c_18 h.2.1)]; exact ⟨rfl, rfl⟩ | rw [if_neg (fun h => c_29 h.2.2), if_neg (fun h => c_29 h.2.2)]; exact ⟨rfl, rfl⟩), by rw [ht]; exact hP9, hD9⟩, hS.F ht⟩) hS.2.2 dX9_ends_34

set_option maxHeartbeats 4000000 in
set_option maxRecDepth 100000 in
theorem c_X9_free {l : Launch} {D : va_G} {cI cS cP : ClassId} {sz : Nat} {x0 sx g0 w0 k0 la tr pt ap sp : Nat} {fd : Int32} {u0 fa ta np fe te kk : Nat} {fo sf : Nat → Nat} {e1 : Int32} {a1_ b1_ : Int64} (hnp : np ≤ 20) (hfo : ∀ j, j < np → 10 ≤ fo j ∧ fo j ≤ 10000) (hsf : ∀ j, sf j ≤ 100000) (hfe : fe ≤ 9) (hte : te ≤ 1000) (hkk : kk ≤ 1000) : Met l yX9_free wsX9_free ({ frames := 3, cells := 0, slots := 0, locals := 73 }) (PC D (TY cI cS cP) [.ref x0, .int e1] sz [(x0, .inr (9, [.ref sx, .ref g0, .ref w0, .ref k0, .ref la, .ref tr, .ref u0, .ref pt, .ref ap, .ref sp, .int fd])), (u0, .inr (5, [.ref fa, .ref ta, .int (nI np), .int (nI fe), .int (nI te), .int (nI kk)])), (fa, .inl (cI, 20, .inl (nF fo))), (ta, .inl (cI, 20, .inl (nF sf))), (sp, .inr (7, [.long a1_, .long b1_]))]) (QL D (fun (r : Int64) (u : Int64 × Int64) => r = aFree np fo sf fe te kk e1) (fun (u : Int64 × Int64) => [(x0, .inr (9, [.ref sx, .ref g0, .ref w0, .ref k0, .ref la, .ref tr, .ref u0, .ref pt, .ref ap, .ref sp, .int fd])), (u0, .inr (5, [.ref fa, .ref ta, .int (nI np), .int (nI fe), .int (nI te), .int (nI kk)])), (fa, .inl (cI, 20, .inl (nF fo))), (ta, .inl (cI, 20, .inl (nF sf))), (sp, .inr (7, [.long u.1, .long u.2]))]) (va_A [(x0, .inr (9, [.ref sx, .ref g0, .ref w0, .ref k0, .ref la, .ref tr, .ref u0, .ref pt, .ref ap, .ref sp, .int fd])), (u0, .inr (5, [.ref fa, .ref ta, .int (nI np), .int (nI fe), .int (nI te), .int (nI kk)])), (fa, .inl (cI, 20, .inl (nF fo))), (ta, .inl (cI, 20, .inl (nF sf))), (sp, .inr (7, [.long a1_, .long b1_]))] sz)) 0 0 (va_A [(x0, .inr (9, [.ref sx, .ref g0, .ref w0, .ref k0, .ref la, .ref tr, .ref u0, .ref pt, .ref ap, .ref sp, .int fd])), (u0, .inr (5, [.ref fa, .ref ta, .int (nI np), .int (nI fe), .int (nI te), .int (nI kk)])), (fa, .inl (cI, 20, .inl (nF fo))), (ta, .inl (cI, 20, .inl (nF sf))), (sp, .inr (7, [.long a1_, .long b1_]))] sz) := by
  refine Met.ofW (cc := cX9_free) (maxL := 2) (ret := (some .long)) (by decide) rfl ?_
  intro p e s m args below meth c s₁ B hml hv
  obtain ⟨rfl, hsz, hP, hK, hD0, hN⟩ := hv
  have hx := B.exec
  have hb := B.bytes
  have hr := B.returns
  have hts := atoms_spec (ws := wsX9_free) B.pre
  have hown : s.vm.findClass RX9 = some m.cls := findClass_of_methodNamed B.named
  have hlocks := B.notSynchronized
  subst hsz
  have iX5 : ∀ w ∈ u_ws RX5 TX5 6, w ∈ wsX9_free := by decide +kernel
  have iX9 : ∀ w ∈ u_ws RX9 TX9 11, w ∈ wsX9_free := by decide +kernel
  have hD := hD0.self (sz := s.heap.size)
  generalize hAe : va_A [(x0, .inr (9, [.ref sx, .ref g0, .ref w0, .ref k0, .ref la, .ref tr, .ref u0, .ref pt, .ref ap, .ref sp, .int fd])), (u0, .inr (5, [.ref fa, .ref ta, .int (nI np), .int (nI fe), .int (nI te), .int (nI kk)])), (fa, .inl (cI, 20, .inl (nF fo))), (ta, .inl (cI, 20, .inl (nF sf))), (sp, .inr (7, [.long a1_, .long b1_]))] s.heap.size = A at hD ⊢
  have hA : ∀ q : Nat, s.heap.size ≤ q → A q := fun q h => by rw [← hAe]; exact Or.inr h
  have hS : va_S A s.heap s.heap [] := va_S.rf
  have hP : va_P D vwCl [(x0, .inr (9, [.ref sx, .ref g0, .ref w0, .ref k0, .ref la, .ref tr, .ref u0, .ref pt, .ref ap, .ref sp, .int fd])), (u0, .inr (5, [.ref fa, .ref ta, .int (nI np), .int (nI fe), .int (nI te), .int (nI kk)])), (fa, .inl (cI, 20, .inl (nF fo))), (ta, .inl (cI, 20, .inl (nF sf))), (sp, .inr (7, [.long a1_, .long b1_]))] s.heap := hP
  have hl := lv_entry ([.ref x0, .int e1]) (n := 2) (Nat.le_of_ble_eq_true rfl)
  rw [lg_entry_eq]
  generalize (lg_sl ([.ref x0, .int e1]) ++ List.replicate (2 - (lg_sl ([.ref x0, .int e1])).length) Slot.unset).toArray = ls at hl ⊢
  have hl : lv_has ls 2 [(0, .ref x0), (1, .int e1)] := hl
  have hpl := plo_rng (fo := fo) (fe := fe) (te := te) hsf hkk np
  have hph := phi_rng (fo := fo) (sf := sf) (fe := fe) (te := te) (kk := kk) np
  refine lv_iload_n hx hb dX9_free_0 rfl (lv_at hl 1 rfl) ?_
  refine lv_iconst (v := 0) hx hb dX9_free_1 (by decide) ?_
  refine lv_iconst (v := 1) hx hb dX9_free_2 (by decide) ?_
  refine q_S (tys := TY cI cS cP) (D := D) ⟨hx, hb, hml, hown, hts⟩ [.int e1, .int (0 : Int32), .int (1 : Int32)] [] c_X9_within (va_cwS 3 hts gX9_free_X9_within rfl rfl rfl (by decide +kernel) ⟨Nat.le_of_ble_eq_true rfl, Nat.le_of_ble_eq_true rfl⟩) hK hN rfl hl.1 rfl (Nat.le_of_ble_eq_true rfl) dX9_free_3 ⟨Nat.zero_le _, Nat.zero_le _⟩ (fun r hw => ?_)
  subst hw
  refine lv_if_ne (tgt := 15) hx hb dX9_free_6 (by decide) (fun c_6 => ?_) (fun c_6 => ?_)
  ·
    have c_6 := bnz c_6
    refine lv_aload_n hx hb dX9_free_15 rfl (lv_at hl 0 rfl) ?_
    refine va_get (D := D) (ci := 9) (v := .ref u0) (C := RX9) (T := TX9) (N := 11) hx hb hts iX9 hown hK hP 0 rfl rfl 6 (by decide) (hts (.fieldLink RX9 18 "DeepHole" "pulls" "LDeepHole$Pulls;") (by decide +kernel)) (fun _ h9 => h9) rfl dX9_free_16 ?_
    refine va_get (D := D) (ci := 5) (v := .int (nI np)) (C := RX5) (T := TX5) (N := 6) hx hb hts iX5 hown hK hP 1 rfl rfl 2 (by decide) (hts (.fieldLink RX9 211 "DeepHole$Pulls" "number" "I") (by decide +kernel)) (fun _ h9 => h9) rfl dX9_free_19 ?_
    refine lv_if_ne (tgt := 31) hx hb dX9_free_22 (by decide) (fun c_22 => ?_) (fun c_22 => ?_)
    ·
      have c_22 := n_ne (a := np) (b := 0) c_22 (by omega) (by omega)
      refine lv_aload_n hx hb dX9_free_31 rfl (lv_at hl 0 rfl) ?_
      refine va_get (D := D) (ci := 9) (v := .ref sp) (C := RX9) (T := TX9) (N := 11) hx hb hts iX9 hown hK hP 0 rfl rfl 9 (by decide) (hts (.fieldLink RX9 38 "DeepHole" "span" "LDeepHole$Span;") (by decide +kernel)) (fun _ h9 => h9) rfl dX9_free_32 ?_
      refine lv_lconst (v := 0) hx hb dX9_free_35 (by decide) ?_
      refine lv_ldc2 hx hb hown (hts (.constantLong RX9 221 (9223372036854775807)) (by decide +kernel)) dX9_free_36 ?_
      refine w_Vv (wc := [(sp, .inr (7, [.long a1_, .long b1_]))]) (wr := [(x0, .inr (9, [.ref sx, .ref g0, .ref w0, .ref k0, .ref la, .ref tr, .ref u0, .ref pt, .ref ap, .ref sp, .int fd])), (u0, .inr (5, [.ref fa, .ref ta, .int (nI np), .int (nI fe), .int (nI te), .int (nI kk)])), (fa, .inl (cI, 20, .inl (nF fo))), (ta, .inl (cI, 20, .inl (nF sf)))]) (b := sp) ⟨hx, hb, hml, hown, hts⟩ [.long (0 : Int64), .long (9223372036854775807 : Int64)] [] c_X7_become (cwV 2 hts gX9_free_X7_become rfl rfl rfl (by decide +kernel) ⟨Nat.le_of_ble_eq_true rfl, Nat.le_of_ble_eq_true rfl⟩) hK hN hP hD hS hA [4] [0, 1, 2, 3] rfl (by decide) rfl (by decide) (by decide) (ci := 7) rfl rfl rfl rfl hl.1 rfl (Nat.le_of_ble_eq_true rfl) dX9_free_39 ⟨Nat.zero_le _, Nat.zero_le _⟩ (fun u H locs hw hP hD hS => ?_)
      have hP : va_P D vwCl [(x0, .inr (9, [.ref sx, .ref g0, .ref w0, .ref k0, .ref la, .ref tr, .ref u0, .ref pt, .ref ap, .ref sp, .int fd])), (u0, .inr (5, [.ref fa, .ref ta, .int (nI np), .int (nI fe), .int (nI te), .int (nI kk)])), (fa, .inl (cI, 20, .inl (nF fo))), (ta, .inl (cI, 20, .inl (nF sf))), (sp, .inr (7, [.long (0 : Int64), .long (9223372036854775807 : Int64)]))] H := hP
      have hD : va_D A [(x0, .inr (9, [.ref sx, .ref g0, .ref w0, .ref k0, .ref la, .ref tr, .ref u0, .ref pt, .ref ap, .ref sp, .int fd])), (u0, .inr (5, [.ref fa, .ref ta, .int (nI np), .int (nI fe), .int (nI te), .int (nI kk)])), (fa, .inl (cI, 20, .inl (nF fo))), (ta, .inl (cI, 20, .inl (nF sf))), (sp, .inr (7, [.long (0 : Int64), .long (9223372036854775807 : Int64)]))] := hD
      have hcf : (0 : Int64) = lI 0 := by rfl
      rw [hcf] at hP hD
      have hP : va_P D vwCl [(x0, .inr (9, [.ref sx, .ref g0, .ref w0, .ref k0, .ref la, .ref tr, .ref u0, .ref pt, .ref ap, .ref sp, .int fd])), (u0, .inr (5, [.ref fa, .ref ta, .int (nI np), .int (nI fe), .int (nI te), .int (nI kk)])), (fa, .inl (cI, 20, .inl (nF fo))), (ta, .inl (cI, 20, .inl (nF sf))), (sp, .inr (7, [.long (lI 0), .long (9223372036854775807 : Int64)]))] H := hP
      have hD : va_D A [(x0, .inr (9, [.ref sx, .ref g0, .ref w0, .ref k0, .ref la, .ref tr, .ref u0, .ref pt, .ref ap, .ref sp, .int fd])), (u0, .inr (5, [.ref fa, .ref ta, .int (nI np), .int (nI fe), .int (nI te), .int (nI kk)])), (fa, .inl (cI, 20, .inl (nF fo))), (ta, .inl (cI, 20, .inl (nF sf))), (sp, .inr (7, [.long (lI 0), .long (9223372036854775807 : Int64)]))] := hD
      have hcf : (9223372036854775807 : Int64) = lI 9223372036854775807 := by decide
      rw [hcf] at hP hD
      have hP : va_P D vwCl [(x0, .inr (9, [.ref sx, .ref g0, .ref w0, .ref k0, .ref la, .ref tr, .ref u0, .ref pt, .ref ap, .ref sp, .int fd])), (u0, .inr (5, [.ref fa, .ref ta, .int (nI np), .int (nI fe), .int (nI te), .int (nI kk)])), (fa, .inl (cI, 20, .inl (nF fo))), (ta, .inl (cI, 20, .inl (nF sf))), (sp, .inr (7, [.long (lI 0), .long (lI 9223372036854775807)]))] H := hP
      have hD : va_D A [(x0, .inr (9, [.ref sx, .ref g0, .ref w0, .ref k0, .ref la, .ref tr, .ref u0, .ref pt, .ref ap, .ref sp, .int fd])), (u0, .inr (5, [.ref fa, .ref ta, .int (nI np), .int (nI fe), .int (nI te), .int (nI kk)])), (fa, .inl (cI, 20, .inl (nF fo))), (ta, .inl (cI, 20, .inl (nF sf))), (sp, .inr (7, [.long (lI 0), .long (lI 9223372036854775807)]))] := hD
      refine lv_aload_n hx hb dX9_free_42 rfl (lv_at hl 0 rfl) ?_
      refine va_get (D := D) (ci := 9) (v := .ref u0) (C := RX9) (T := TX9) (N := 11) hx hb hts iX9 hown hK hP 0 rfl rfl 6 (by decide) (hts (.fieldLink RX9 18 "DeepHole" "pulls" "LDeepHole$Pulls;") (by decide +kernel)) (fun _ h9 => h9) rfl dX9_free_43 ?_
      refine lv_aload_n hx hb dX9_free_46 rfl (lv_at hl 0 rfl) ?_
      refine va_get (D := D) (ci := 9) (v := .ref sp) (C := RX9) (T := TX9) (N := 11) hx hb hts iX9 hown hK hP 0 rfl rfl 9 (by decide) (hts (.fieldLink RX9 38 "DeepHole" "span" "LDeepHole$Span;") (by decide +kernel)) (fun _ h9 => h9) rfl dX9_free_47 ?_
      refine w_Vv (wc := [(u0, .inr (5, [.ref fa, .ref ta, .int (nI np), .int (nI fe), .int (nI te), .int (nI kk)])), (fa, .inl (cI, 20, .inl (nF fo))), (ta, .inl (cI, 20, .inl (nF sf))), (sp, .inr (7, [.long (lI 0), .long (lI 9223372036854775807)]))]) (wr := [(x0, .inr (9, [.ref sx, .ref g0, .ref w0, .ref k0, .ref la, .ref tr, .ref u0, .ref pt, .ref ap, .ref sp, .int fd]))]) (b := u0) ⟨hx, hb, hml, hown, hts⟩ [.ref sp] [] (c_X5_narrow  (by first | assumption | omega) (by first | assumption | omega) (by first | assumption | omega) (by first | assumption | omega) (by first | assumption | omega) (by first | assumption | omega)) (cwV 1 hts gX9_free_X5_narrow rfl rfl rfl (by decide +kernel) ⟨Nat.le_of_ble_eq_true rfl, Nat.le_of_ble_eq_true rfl⟩) hK hN hP hD hS hA [1, 2, 3, 4] [0] rfl (by decide) rfl (by decide) (by decide) (ci := 5) rfl rfl rfl rfl hl.1 rfl (Nat.le_of_ble_eq_true rfl) dX9_free_50 ⟨Nat.zero_le _, Nat.zero_le _⟩ (fun u H locs hw hP hD hS => ?_)
      have hP : va_P D vwCl [(x0, .inr (9, [.ref sx, .ref g0, .ref w0, .ref k0, .ref la, .ref tr, .ref u0, .ref pt, .ref ap, .ref sp, .int fd])), (u0, .inr (5, [.ref fa, .ref ta, .int (nI np), .int (nI fe), .int (nI te), .int (nI kk)])), (fa, .inl (cI, 20, .inl (nF fo))), (ta, .inl (cI, 20, .inl (nF sf))), (sp, .inr (7, [.long (lI (plo fo sf fe te kk np)), .long (lI (phi fo sf fe te kk np))]))] H := hP
      have hD : va_D A [(x0, .inr (9, [.ref sx, .ref g0, .ref w0, .ref k0, .ref la, .ref tr, .ref u0, .ref pt, .ref ap, .ref sp, .int fd])), (u0, .inr (5, [.ref fa, .ref ta, .int (nI np), .int (nI fe), .int (nI te), .int (nI kk)])), (fa, .inl (cI, 20, .inl (nF fo))), (ta, .inl (cI, 20, .inl (nF sf))), (sp, .inr (7, [.long (lI (plo fo sf fe te kk np)), .long (lI (phi fo sf fe te kk np))]))] := hD
      refine lv_aload_n hx hb dX9_free_53 rfl (lv_at hl 0 rfl) ?_
      refine va_get (D := D) (ci := 9) (v := .ref sp) (C := RX9) (T := TX9) (N := 11) hx hb hts iX9 hown hK hP 0 rfl rfl 9 (by decide) (hts (.fieldLink RX9 38 "DeepHole" "span" "LDeepHole$Span;") (by decide +kernel)) (fun _ h9 => h9) rfl dX9_free_54 ?_
      refine q_V (wc := [(sp, .inr (7, [.long (lI (plo fo sf fe te kk np)), .long (lI (phi fo sf fe te kk np))]))]) (b := sp) ⟨hx, hb, hml, hown, hts⟩ [] [] (c_X7_isEmpty  (by first | assumption | omega) (by first | assumption | omega)) (cwV 0 hts gX9_free_X7_isEmpty rfl rfl rfl (by decide +kernel) ⟨Nat.le_of_ble_eq_true rfl, Nat.le_of_ble_eq_true rfl⟩) hK hN hP hD [4] rfl (by decide) (ci := 7) rfl rfl rfl rfl hl.1 rfl (Nat.le_of_ble_eq_true rfl) dX9_free_57 ⟨Nat.zero_le _, Nat.zero_le _⟩ (fun r hw => ?_)
      subst hw
      refine lv_if_eq (tgt := 71) hx hb dX9_free_60 (by decide) (fun c_60 => ?_) (fun c_60 => ?_)
      ·
        have c_60 := bz c_60
        refine lv_aload_n hx hb dX9_free_71 rfl (lv_at hl 0 rfl) ?_
        refine va_get (D := D) (ci := 9) (v := .ref sp) (C := RX9) (T := TX9) (N := 11) hx hb hts iX9 hown hK hP 0 rfl rfl 9 (by decide) (hts (.fieldLink RX9 38 "DeepHole" "span" "LDeepHole$Span;") (by decide +kernel)) (fun _ h9 => h9) rfl dX9_free_72 ?_
        refine lv_iload_n hx hb dX9_free_75 rfl (lv_at hl 1 rfl) ?_
        refine q_Vl (wc := [(sp, .inr (7, [.long (lI (plo fo sf fe te kk np)), .long (lI (phi fo sf fe te kk np))]))]) (b := sp) ⟨hx, hb, hml, hown, hts⟩ [.int e1] [] c_X7_end (cwV 1 hts gX9_free_X7_end rfl rfl rfl (by decide +kernel) ⟨Nat.le_of_ble_eq_true rfl, Nat.le_of_ble_eq_true rfl⟩) hK hN hP hD [4] rfl (by decide) (ci := 7) rfl rfl rfl rfl hl.1 rfl (Nat.le_of_ble_eq_true rfl) dX9_free_76 ⟨Nat.zero_le _, Nat.zero_le _⟩ (fun r hw => ?_)
        subst hw
        have hP9 := hP.sub (ws' := [(x0, .inr (9, [.ref sx, .ref g0, .ref w0, .ref k0, .ref la, .ref tr, .ref u0, .ref pt, .ref ap, .ref sp, .int fd])), (u0, .inr (5, [.ref fa, .ref ta, .int (nI np), .int (nI fe), .int (nI te), .int (nI kk)])), (fa, .inl (cI, 20, .inl (nF fo))), (ta, .inl (cI, 20, .inl (nF sf))), (sp, .inr (7, [.long (lI (plo fo sf fe te kk np)), .long (lI (phi fo sf fe te kk np))]))]) [0, 1, 2, 3, 4] rfl
        have hD9 := hD.sub (ws' := [(x0, .inr (9, [.ref sx, .ref g0, .ref w0, .ref k0, .ref la, .ref tr, .ref u0, .ref pt, .ref ap, .ref sp, .int fd])), (u0, .inr (5, [.ref fa, .ref ta, .int (nI np), .int (nI fe), .int (nI te), .int (nI kk)])), (fa, .inl (cI, 20, .inl (nF fo))), (ta, .inl (cI, 20, .inl (nF sf))), (sp, .inr (7, [.long (lI (plo fo sf fe te kk np)), .long (lI (phi fo sf fe te kk np))]))]) [0, 1, 2, 3, 4] (by decide) rfl
        exact W.lret (v := if e1 = 0 then (lI (plo fo sf fe te kk np)) else (lI (phi fo sf fe te kk np))) hx hb hr (fun t ht hW => ⟨⟨_, (lI (plo fo sf fe te kk np), lI (phi fo sf fe te kk np)), rfl, (by unfold aFree; rw [if_pos c_6, if_neg c_22, if_neg c_60]), by rw [ht]; exact hP9, hD9⟩, hS.F ht⟩) hS.2.2 dX9_free_79
      ·
        have c_60 := bnz c_60
        refine lv_bipush (v := (-3)) hx hb dX9_free_63 (by decide) ?_
        refine q_Sl (tys := TY cI cS cP) (D := D) ⟨hx, hb, hml, hown, hts⟩ [.int (-3 : Int32)] [] c_X9_refusal (va_cwS 1 hts gX9_free_X9_refusal rfl rfl rfl (by decide +kernel) ⟨Nat.le_of_ble_eq_true rfl, Nat.le_of_ble_eq_true rfl⟩) hK hN rfl hl.1 rfl (Nat.le_of_ble_eq_true rfl) dX9_free_65 ⟨Nat.zero_le _, Nat.zero_le _⟩ (fun r hw => ?_)
        subst hw
        refine lv_goto (tgt := 79) hx hb dX9_free_68 (by decide) ?_
        have hP9 := hP.sub (ws' := [(x0, .inr (9, [.ref sx, .ref g0, .ref w0, .ref k0, .ref la, .ref tr, .ref u0, .ref pt, .ref ap, .ref sp, .int fd])), (u0, .inr (5, [.ref fa, .ref ta, .int (nI np), .int (nI fe), .int (nI te), .int (nI kk)])), (fa, .inl (cI, 20, .inl (nF fo))), (ta, .inl (cI, 20, .inl (nF sf))), (sp, .inr (7, [.long (lI (plo fo sf fe te kk np)), .long (lI (phi fo sf fe te kk np))]))]) [0, 1, 2, 3, 4] rfl
        have hD9 := hD.sub (ws' := [(x0, .inr (9, [.ref sx, .ref g0, .ref w0, .ref k0, .ref la, .ref tr, .ref u0, .ref pt, .ref ap, .ref sp, .int fd])), (u0, .inr (5, [.ref fa, .ref ta, .int (nI np), .int (nI fe), .int (nI te), .int (nI kk)])), (fa, .inl (cI, 20, .inl (nF fo))), (ta, .inl (cI, 20, .inl (nF sf))), (sp, .inr (7, [.long (lI (plo fo sf fe te kk np)), .long (lI (phi fo sf fe te kk np))]))]) [0, 1, 2, 3, 4] (by decide) rfl
        exact W.lret (v := (-9223372036854775808) - (-3 : Int32).toInt64) hx hb hr (fun t ht hW => ⟨⟨_, (lI (plo fo sf fe te kk np), lI (phi fo sf fe te kk np)), rfl, (by unfold aFree; rw [if_pos c_6, if_neg c_22, if_pos c_60]), by rw [ht]; exact hP9, hD9⟩, hS.F ht⟩) hS.2.2 dX9_free_79
    ·
      have c_22 := n_eq (a := np) (b := 0) c_22 (by omega) (by omega)
      refine lv_bipush (v := (-3)) hx hb dX9_free_25 (by decide) ?_
      refine q_Sl (tys := TY cI cS cP) (D := D) ⟨hx, hb, hml, hown, hts⟩ [.int (-3 : Int32)] [] c_X9_refusal (va_cwS 1 hts gX9_free_X9_refusal rfl rfl rfl (by decide +kernel) ⟨Nat.le_of_ble_eq_true rfl, Nat.le_of_ble_eq_true rfl⟩) hK hN rfl hl.1 rfl (Nat.le_of_ble_eq_true rfl) dX9_free_27 ⟨Nat.zero_le _, Nat.zero_le _⟩ (fun r hw => ?_)
      subst hw
      have hP9 := hP.sub (ws' := [(x0, .inr (9, [.ref sx, .ref g0, .ref w0, .ref k0, .ref la, .ref tr, .ref u0, .ref pt, .ref ap, .ref sp, .int fd])), (u0, .inr (5, [.ref fa, .ref ta, .int (nI np), .int (nI fe), .int (nI te), .int (nI kk)])), (fa, .inl (cI, 20, .inl (nF fo))), (ta, .inl (cI, 20, .inl (nF sf))), (sp, .inr (7, [.long a1_, .long b1_]))]) [0, 1, 2, 3, 4] rfl
      have hD9 := hD.sub (ws' := [(x0, .inr (9, [.ref sx, .ref g0, .ref w0, .ref k0, .ref la, .ref tr, .ref u0, .ref pt, .ref ap, .ref sp, .int fd])), (u0, .inr (5, [.ref fa, .ref ta, .int (nI np), .int (nI fe), .int (nI te), .int (nI kk)])), (fa, .inl (cI, 20, .inl (nF fo))), (ta, .inl (cI, 20, .inl (nF sf))), (sp, .inr (7, [.long a1_, .long b1_]))]) [0, 1, 2, 3, 4] (by decide) rfl
      exact W.lret (v := (-9223372036854775808) - (-3 : Int32).toInt64) hx hb hr (fun t ht hW => ⟨⟨_, (a1_, b1_), rfl, (by unfold aFree; rw [if_pos c_6, if_pos c_22]), by rw [ht]; exact hP9, hD9⟩, hS.F ht⟩) hS.2.2 dX9_free_30
  ·
    have c_6 := bz c_6
    refine lv_bipush (v := (-2)) hx hb dX9_free_9 (by decide) ?_
    refine q_Sl (tys := TY cI cS cP) (D := D) ⟨hx, hb, hml, hown, hts⟩ [.int (-2 : Int32)] [] c_X9_refusal (va_cwS 1 hts gX9_free_X9_refusal rfl rfl rfl (by decide +kernel) ⟨Nat.le_of_ble_eq_true rfl, Nat.le_of_ble_eq_true rfl⟩) hK hN rfl hl.1 rfl (Nat.le_of_ble_eq_true rfl) dX9_free_11 ⟨Nat.zero_le _, Nat.zero_le _⟩ (fun r hw => ?_)
    subst hw
    have hP9 := hP.sub (ws' := [(x0, .inr (9, [.ref sx, .ref g0, .ref w0, .ref k0, .ref la, .ref tr, .ref u0, .ref pt, .ref ap, .ref sp, .int fd])), (u0, .inr (5, [.ref fa, .ref ta, .int (nI np), .int (nI fe), .int (nI te), .int (nI kk)])), (fa, .inl (cI, 20, .inl (nF fo))), (ta, .inl (cI, 20, .inl (nF sf))), (sp, .inr (7, [.long a1_, .long b1_]))]) [0, 1, 2, 3, 4] rfl
    have hD9 := hD.sub (ws' := [(x0, .inr (9, [.ref sx, .ref g0, .ref w0, .ref k0, .ref la, .ref tr, .ref u0, .ref pt, .ref ap, .ref sp, .int fd])), (u0, .inr (5, [.ref fa, .ref ta, .int (nI np), .int (nI fe), .int (nI te), .int (nI kk)])), (fa, .inl (cI, 20, .inl (nF fo))), (ta, .inl (cI, 20, .inl (nF sf))), (sp, .inr (7, [.long a1_, .long b1_]))]) [0, 1, 2, 3, 4] (by decide) rfl
    exact W.lret (v := (-9223372036854775808) - (-2 : Int32).toInt64) hx hb hr (fun t ht hW => ⟨⟨_, (a1_, b1_), rfl, (by unfold aFree; rw [if_neg c_6]), by rw [ht]; exact hP9, hD9⟩, hS.F ht⟩) hS.2.2 dX9_free_14
