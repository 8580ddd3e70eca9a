set_option maxHeartbeats 4000000 in
set_option maxRecDepth 100000 in
theorem c_X0_init {l : Launch} {D : va_G} {cI cS cP : ClassId} {sz : Nat} {a0 : Nat}  : Met l yX0_init wsX0_init ({ frames := 1, cells := 0, slots := 0, locals := 24 }) (PC D (TY cI cS cP) [.ref a0] sz [(a0, .inr (0, [.long 0, .int 0, .int 0]))]) (QV D (fun (u : Unit) => True) (fun (u : Unit) => [(a0, .inr (0, [.long 0, .int 0, .int 0]))]) (va_A [(a0, .inr (0, [.long 0, .int 0, .int 0]))] sz)) 0 0 (va_A [(a0, .inr (0, [.long 0, .int 0, .int 0]))] sz) := by
  refine Met.ofW (cc := cX0_init) (maxL := 1) (ret := none) (by decide) rfl ?_
  intro p e s m args below meth c s₁ B hml hv
  obtain ⟨rfl, hsz, hP, hK, hD0, hN⟩ := hv
  have hx := B.exec
  have hb := B.bytes
  have hr := B.returns
  have hts := atoms_spec (ws := wsX0_init) B.pre
  have hown : s.vm.findClass RX0 = some m.cls := findClass_of_methodNamed B.named
  have hlocks := B.notSynchronized
  have hin : meth.name = "<init>" := (name_of_methodNamed B.named B.method).1
  subst hsz
  have hD := hD0.self (sz := s.heap.size)
  generalize hAe : va_A [(a0, .inr (0, [.long 0, .int 0, .int 0]))] s.heap.size = A at hD ⊢
  have hA : ∀ q : Nat, s.heap.size ≤ q → A q := fun q h => by rw [← hAe]; exact Or.inr h
  have hS : va_S A s.heap s.heap [] := va_S.rf
  have hP : va_P D vwCl [(a0, .inr (0, [.long 0, .int 0, .int 0]))] s.heap := hP
  have hl := lv_entry ([.ref a0]) (n := 1) (Nat.le_of_ble_eq_true rfl)
  rw [lg_entry_eq]
  generalize (lg_sl ([.ref a0]) ++ List.replicate (1 - (lg_sl ([.ref a0])).length) Slot.unset).toArray = ls at hl ⊢
  have hl : lv_has ls 1 [(0, .ref a0)] := hl
  refine lv_aload_n hx hb dX0_init_0 rfl (lv_at hl 0 rfl) ?_
  refine W.objInit hx hb hown (hts (.methodLink RX0 3 objectInit) (by decide +kernel)) (hts (.instanceMethod objectInit) (by decide +kernel)) (hts _ (by first | exact List.mem_cons_of_mem _ (List.mem_of_getElem? (i := 2) rfl) | exact List.mem_of_getElem? (i := 3) rfl)) rfl (by rw [hml]; exact hl.1) rfl dX0_init_1 (Nat.le_of_ble_eq_true rfl) (Nat.le_of_ble_eq_true rfl) ?_
  refine W.eq (g2 := F0 m 4 ls []) rfl ?_
  have hP9 := hP.sub (ws' := [(a0, .inr (0, [.long 0, .int 0, .int 0]))]) [0] rfl
  have hD9 := hD.sub (ws' := [(a0, .inr (0, [.long 0, .int 0, .int 0]))]) [0] (by decide) rfl
  exact W.vret hx hb hr (fun t ht hW => ⟨⟨(), rfl, (trivial), by rw [ht]; exact hP9, hD9⟩, hS.F ht⟩) hS.2.2 dX0_init_4

set_option maxHeartbeats 4000000 in
set_option maxRecDepth 100000 in
theorem c_X7_init {l : Launch} {D : va_G} {cI cS cP : ClassId} {sz : Nat} {s9 : Nat}  : Met l yX7_init wsX7_init ({ frames := 1, cells := 0, slots := 0, locals := 24 }) (PC D (TY cI cS cP) [.ref s9] sz [(s9, .inr (7, [.long 0, .long 0]))]) (QV D (fun (u : Unit) => True) (fun (u : Unit) => [(s9, .inr (7, [.long 0, .long 0]))]) (va_A [(s9, .inr (7, [.long 0, .long 0]))] sz)) 0 0 (va_A [(s9, .inr (7, [.long 0, .long 0]))] sz) := by
  refine Met.ofW (cc := cX7_init) (maxL := 1) (ret := none) (by decide) rfl ?_
  intro p e s m args below meth c s₁ B hml hv
  obtain ⟨rfl, hsz, hP, hK, hD0, hN⟩ := hv
  have hx := B.exec
  have hb := B.bytes
  have hr := B.returns
  have hts := atoms_spec (ws := wsX7_init) B.pre
  have hown : s.vm.findClass RX7 = some m.cls := findClass_of_methodNamed B.named
  have hlocks := B.notSynchronized
  have hin : meth.name = "<init>" := (name_of_methodNamed B.named B.method).1
  subst hsz
  have hD := hD0.self (sz := s.heap.size)
  generalize hAe : va_A [(s9, .inr (7, [.long 0, .long 0]))] s.heap.size = A at hD ⊢
  have hA : ∀ q : Nat, s.heap.size ≤ q → A q := fun q h => by rw [← hAe]; exact Or.inr h
  have hS : va_S A s.heap s.heap [] := va_S.rf
  have hP : va_P D vwCl [(s9, .inr (7, [.long 0, .long 0]))] s.heap := hP
  have hl := lv_entry ([.ref s9]) (n := 1) (Nat.le_of_ble_eq_true rfl)
  rw [lg_entry_eq]
  generalize (lg_sl ([.ref s9]) ++ List.replicate (1 - (lg_sl ([.ref s9])).length) Slot.unset).toArray = ls at hl ⊢
  have hl : lv_has ls 1 [(0, .ref s9)] := hl
  refine lv_aload_n hx hb dX7_init_0 rfl (lv_at hl 0 rfl) ?_
  refine W.objInit hx hb hown (hts (.methodLink RX7 1 objectInit) (by decide +kernel)) (hts (.instanceMethod objectInit) (by decide +kernel)) (hts _ (by first | exact List.mem_cons_of_mem _ (List.mem_of_getElem? (i := 2) rfl) | exact List.mem_of_getElem? (i := 3) rfl)) rfl (by rw [hml]; exact hl.1) rfl dX7_init_1 (Nat.le_of_ble_eq_true rfl) (Nat.le_of_ble_eq_true rfl) ?_
  refine W.eq (g2 := F0 m 4 ls []) rfl ?_
  have hP9 := hP.sub (ws' := [(s9, .inr (7, [.long 0, .long 0]))]) [0] rfl
  have hD9 := hD.sub (ws' := [(s9, .inr (7, [.long 0, .long 0]))]) [0] (by decide) rfl
  exact W.vret hx hb hr (fun t ht hW => ⟨⟨(), rfl, (trivial), by rw [ht]; exact hP9, hD9⟩, hS.F ht⟩) hS.2.2 dX7_init_4

set_option maxHeartbeats 4000000 in
set_option maxRecDepth 100000 in
theorem c_X6_init {l : Launch} {D : va_G} {cI cS cP : ClassId} {sz : Nat} {h0 : Nat}  : Met l yX6_init wsX6_init ({ frames := 1, cells := 1, slots := 60, locals := 24 }) (PC D (TY cI cS cP) [.ref h0] sz [(h0, .inr (6, [.null, .int 0, .int 0, .int 0]))]) (QV D (fun (u : Nat) => True) (fun (u : Nat) => [(h0, .inr (6, [.ref u, .int 1, .int 0, .int 0])), (u, .inl (cI, 60, .inl (fun _ => 0)))]) (va_A [(h0, .inr (6, [.null, .int 0, .int 0, .int 0]))] sz)) 1 60 (va_A [(h0, .inr (6, [.null, .int 0, .int 0, .int 0]))] sz) := by
  refine Met.ofW (cc := cX6_init) (maxL := 1) (ret := none) (by decide) rfl ?_
  intro p e s m args below meth c s₁ B hml hv
  obtain ⟨rfl, hsz, hP, hK, hD0, hN⟩ := hv
  have hx := B.exec
  have hb := B.bytes
  have hr := B.returns
  have hts := atoms_spec (ws := wsX6_init) B.pre
  have hown : s.vm.findClass RX6 = some m.cls := findClass_of_methodNamed B.named
  have hlocks := B.notSynchronized
  have hin : meth.name = "<init>" := (name_of_methodNamed B.named B.method).1
  subst hsz
  have iX6 : ∀ w ∈ u_ws RX6 TX6 4, w ∈ wsX6_init := by decide +kernel
  have hD := hD0.self (sz := s.heap.size)
  generalize hAe : va_A [(h0, .inr (6, [.null, .int 0, .int 0, .int 0]))] s.heap.size = A at hD ⊢
  have hA : ∀ q : Nat, s.heap.size ≤ q → A q := fun q h => by rw [← hAe]; exact Or.inr h
  have hS : va_S A s.heap s.heap [] := va_S.rf
  have hP : va_P D vwCl [(h0, .inr (6, [.null, .int 0, .int 0, .int 0]))] s.heap := hP
  have hl := lv_entry ([.ref h0]) (n := 1) (Nat.le_of_ble_eq_true rfl)
  rw [lg_entry_eq]
  generalize (lg_sl ([.ref h0]) ++ List.replicate (1 - (lg_sl ([.ref h0])).length) Slot.unset).toArray = ls at hl ⊢
  have hl : lv_has ls 1 [(0, .ref h0)] := hl
  refine lv_aload_n hx hb dX6_init_0 rfl (lv_at hl 0 rfl) ?_
  refine W.objInit hx hb hown (hts (.methodLink RX6 3 objectInit) (by decide +kernel)) (hts (.instanceMethod objectInit) (by decide +kernel)) (hts _ (by first | exact List.mem_cons_of_mem _ (List.mem_of_getElem? (i := 2) rfl) | exact List.mem_of_getElem? (i := 3) rfl)) rfl (by rw [hml]; exact hl.1) rfl dX6_init_1 (Nat.le_of_ble_eq_true rfl) (Nat.le_of_ble_eq_true rfl) ?_
  refine W.eq (g2 := F0 m 4 ls []) rfl ?_
  refine lv_aload_n hx hb dX6_init_4 rfl (lv_at hl 0 rfl) ?_
  refine lv_bipush (v := 60) hx hb dX6_init_5 (by decide) ?_
  refine nw_i (N := 60) hx hb (hts (.arrayClass .int) (by decide +kernel)) hK hP hD hS hA 0 rfl (by decide) (by decide) (by decide) (Nat.le_of_ble_eq_true rfl) (Nat.le_of_ble_eq_true rfl) dX6_init_7 (fun q_1 H hP hD hS => ?_)
  have hP : va_P D vwCl [(h0, .inr (6, [.null, .int 0, .int 0, .int 0])), (q_1, .inl (cI, 60, .inl (fun _ => 0)))] H := hP
  have hD : va_D A [(h0, .inr (6, [.null, .int 0, .int 0, .int 0])), (q_1, .inl (cI, 60, .inl (fun _ => 0)))] := hD
  refine W.widen (k := 1) (n := 60) (by decide) (by decide) ?_
  refine va_putF (D := D) (ci := 6) (v := .ref q_1) (ty := .array .int) (C := RX6) (T := TX6) (N := 4) hx hb hts iX6 tyX6 tyX6_ok nmX6 hown hK hP hD hS 0 rfl rfl 0 (by decide) (hts (.fieldLink RX6 11 "DeepHole$Sheet" "items" "[I") (by decide +kernel)) (fun _ h9 => h9) rfl hin rfl (by decide +kernel) rfl rfl (Nat.le_of_ble_eq_true rfl) dX6_init_9 (fun H locs hP hD hS => ?_)
  have hP : va_P D vwCl [(h0, .inr (6, [.ref q_1, .int 0, .int 0, .int 0])), (q_1, .inl (cI, 60, .inl (fun _ => 0)))] H := hP
  have hD : va_D A [(h0, .inr (6, [.ref q_1, .int 0, .int 0, .int 0])), (q_1, .inl (cI, 60, .inl (fun _ => 0)))] := hD
  refine lv_aload_n hx hb dX6_init_12 rfl (lv_at hl 0 rfl) ?_
  refine lv_iconst (v := 1) hx hb dX6_init_13 (by decide) ?_
  refine va_put (D := D) (ci := 6) (v := .int 1) (ty := .boolean) (C := RX6) (T := TX6) (N := 4) hx hb hts iX6 tyX6 tyX6_ok nmX6 hown hK hP hD hS 0 rfl rfl 1 (by decide) (hts (.fieldLink RX6 15 "DeepHole$Sheet" "lost" "Z") (by decide +kernel)) (fun _ h9 => h9) rfl (by decide +kernel) rfl rfl (Nat.le_of_ble_eq_true rfl) dX6_init_14 (fun H locs hP hD hS => ?_)
  have hP : va_P D vwCl [(h0, .inr (6, [.ref q_1, .int 1, .int 0, .int 0])), (q_1, .inl (cI, 60, .inl (fun _ => 0)))] H := hP
  have hD : va_D A [(h0, .inr (6, [.ref q_1, .int 1, .int 0, .int 0])), (q_1, .inl (cI, 60, .inl (fun _ => 0)))] := hD
  have hP9 := hP.sub (ws' := [(h0, .inr (6, [.ref q_1, .int 1, .int 0, .int 0])), (q_1, .inl (cI, 60, .inl (fun _ => 0)))]) [0, 1] rfl
  have hD9 := hD.sub (ws' := [(h0, .inr (6, [.ref q_1, .int 1, .int 0, .int 0])), (q_1, .inl (cI, 60, .inl (fun _ => 0)))]) [0, 1] (by decide) rfl
  exact W.vret hx hb hr (fun t ht hW => ⟨⟨(q_1), rfl, (trivial), by rw [ht]; exact hP9, hD9⟩, hS.F ht⟩) hS.2.2 dX6_init_17

set_option maxHeartbeats 4000000 in
set_option maxRecDepth 100000 in
theorem c_X4_init {l : Launch} {D : va_G} {cI cS cP : ClassId} {sz : Nat} {pa : Nat}  : Met l yX4_init wsX4_init ({ frames := 1, cells := 2, slots := 82, locals := 24 }) (PC D (TY cI cS cP) [.ref pa] sz [(pa, .inr (4, [.null, .null, .int 0]))]) (QV D (fun (u : Nat × Nat) => True) (fun (u : Nat × Nat) => [(pa, .inr (4, [.ref u.1, .ref u.2, .int 0])), (u.1, .inl (cI, 41, .inl (fun _ => 0))), (u.2, .inl (cI, 41, .inl (fun _ => 0)))]) (va_A [(pa, .inr (4, [.null, .null, .int 0]))] sz)) 2 82 (va_A [(pa, .inr (4, [.null, .null, .int 0]))] sz) := by
  refine Met.ofW (cc := cX4_init) (maxL := 1) (ret := none) (by decide) rfl ?_
  intro p e s m args below meth c s₁ B hml hv
  obtain ⟨rfl, hsz, hP, hK, hD0, hN⟩ := hv
  have hx := B.exec
  have hb := B.bytes
  have hr := B.returns
  have hts := atoms_spec (ws := wsX4_init) B.pre
  have hown : s.vm.findClass RX4 = some m.cls := findClass_of_methodNamed B.named
  have hlocks := B.notSynchronized
  have hin : meth.name = "<init>" := (name_of_methodNamed B.named B.method).1
  subst hsz
  have iX4 : ∀ w ∈ u_ws RX4 TX4 3, w ∈ wsX4_init := by decide +kernel
  have hD := hD0.self (sz := s.heap.size)
  generalize hAe : va_A [(pa, .inr (4, [.null, .null, .int 0]))] s.heap.size = A at hD ⊢
  have hA : ∀ q : Nat, s.heap.size ≤ q → A q := fun q h => by rw [← hAe]; exact Or.inr h
  have hS : va_S A s.heap s.heap [] := va_S.rf
  have hP : va_P D vwCl [(pa, .inr (4, [.null, .null, .int 0]))] s.heap := hP
  have hl := lv_entry ([.ref pa]) (n := 1) (Nat.le_of_ble_eq_true rfl)
  rw [lg_entry_eq]
  generalize (lg_sl ([.ref pa]) ++ List.replicate (1 - (lg_sl ([.ref pa])).length) Slot.unset).toArray = ls at hl ⊢
  have hl : lv_has ls 1 [(0, .ref pa)] := hl
  refine lv_aload_n hx hb dX4_init_0 rfl (lv_at hl 0 rfl) ?_
  refine W.objInit hx hb hown (hts (.methodLink RX4 1 objectInit) (by decide +kernel)) (hts (.instanceMethod objectInit) (by decide +kernel)) (hts _ (by first | exact List.mem_cons_of_mem _ (List.mem_of_getElem? (i := 2) rfl) | exact List.mem_of_getElem? (i := 3) rfl)) rfl (by rw [hml]; exact hl.1) rfl dX4_init_1 (Nat.le_of_ble_eq_true rfl) (Nat.le_of_ble_eq_true rfl) ?_
  refine W.eq (g2 := F0 m 4 ls []) rfl ?_
  refine lv_aload_n hx hb dX4_init_4 rfl (lv_at hl 0 rfl) ?_
  refine lv_bipush (v := 41) hx hb dX4_init_5 (by decide) ?_
  refine nw_i (N := 41) hx hb (hts (.arrayClass .int) (by decide +kernel)) hK hP hD hS hA 0 rfl (by decide) (by decide) (by decide) (Nat.le_of_ble_eq_true rfl) (Nat.le_of_ble_eq_true rfl) dX4_init_7 (fun q_1 H hP hD hS => ?_)
  have hP : va_P D vwCl [(pa, .inr (4, [.null, .null, .int 0])), (q_1, .inl (cI, 41, .inl (fun _ => 0)))] H := hP
  have hD : va_D A [(pa, .inr (4, [.null, .null, .int 0])), (q_1, .inl (cI, 41, .inl (fun _ => 0)))] := hD
  refine W.widen (k := 1) (n := 41) (by decide) (by decide) ?_
  refine va_putF (D := D) (ci := 4) (v := .ref q_1) (ty := .array .int) (C := RX4) (T := TX4) (N := 3) hx hb hts iX4 tyX4 tyX4_ok nmX4 hown hK hP hD hS 0 rfl rfl 0 (by decide) (hts (.fieldLink RX4 9 "DeepHole$Path" "xs" "[I") (by decide +kernel)) (fun _ h9 => h9) rfl hin rfl (by decide +kernel) rfl rfl (Nat.le_of_ble_eq_true rfl) dX4_init_9 (fun H locs hP hD hS => ?_)
  have hP : va_P D vwCl [(pa, .inr (4, [.ref q_1, .null, .int 0])), (q_1, .inl (cI, 41, .inl (fun _ => 0)))] H := hP
  have hD : va_D A [(pa, .inr (4, [.ref q_1, .null, .int 0])), (q_1, .inl (cI, 41, .inl (fun _ => 0)))] := hD
  refine lv_aload_n hx hb dX4_init_12 rfl (lv_at hl 0 rfl) ?_
  refine lv_bipush (v := 41) hx hb dX4_init_13 (by decide) ?_
  refine nw_i (N := 41) hx hb (hts (.arrayClass .int) (by decide +kernel)) hK hP hD hS hA 0 rfl (by decide) (by decide) (by decide) (Nat.le_of_ble_eq_true rfl) (Nat.le_of_ble_eq_true rfl) dX4_init_15 (fun q_2 H hP hD hS => ?_)
  have hP : va_P D vwCl [(pa, .inr (4, [.ref q_1, .null, .int 0])), (q_1, .inl (cI, 41, .inl (fun _ => 0))), (q_2, .inl (cI, 41, .inl (fun _ => 0)))] H := hP
  have hD : va_D A [(pa, .inr (4, [.ref q_1, .null, .int 0])), (q_1, .inl (cI, 41, .inl (fun _ => 0))), (q_2, .inl (cI, 41, .inl (fun _ => 0)))] := hD
  refine W.widen (k := 2) (n := 82) (by decide) (by decide) ?_
  refine va_putF (D := D) (ci := 4) (v := .ref q_2) (ty := .array .int) (C := RX4) (T := TX4) (N := 3) hx hb hts iX4 tyX4 tyX4_ok nmX4 hown hK hP hD hS 0 rfl rfl 1 (by decide) (hts (.fieldLink RX4 13 "DeepHole$Path" "ys" "[I") (by decide +kernel)) (fun _ h9 => h9) rfl hin rfl (by decide +kernel) rfl rfl (Nat.le_of_ble_eq_true rfl) dX4_init_17 (fun H locs hP hD hS => ?_)
  have hP : va_P D vwCl [(pa, .inr (4, [.ref q_1, .ref q_2, .int 0])), (q_1, .inl (cI, 41, .inl (fun _ => 0))), (q_2, .inl (cI, 41, .inl (fun _ => 0)))] H := hP
  have hD : va_D A [(pa, .inr (4, [.ref q_1, .ref q_2, .int 0])), (q_1, .inl (cI, 41, .inl (fun _ => 0))), (q_2, .inl (cI, 41, .inl (fun _ => 0)))] := hD
  have hP9 := hP.sub (ws' := [(pa, .inr (4, [.ref q_1, .ref q_2, .int 0])), (q_1, .inl (cI, 41, .inl (fun _ => 0))), (q_2, .inl (cI, 41, .inl (fun _ => 0)))]) [0, 1, 2] rfl
  have hD9 := hD.sub (ws' := [(pa, .inr (4, [.ref q_1, .ref q_2, .int 0])), (q_1, .inl (cI, 41, .inl (fun _ => 0))), (q_2, .inl (cI, 41, .inl (fun _ => 0)))]) [0, 1, 2] (by decide) rfl
  exact W.vret hx hb hr (fun t ht hW => ⟨⟨(q_1, q_2), rfl, (trivial), by rw [ht]; exact hP9, hD9⟩, hS.F ht⟩) hS.2.2 dX4_init_20

set_option maxHeartbeats 4000000 in
set_option maxRecDepth 100000 in
theorem c_X5_init {l : Launch} {D : va_G} {cI cS cP : ClassId} {sz : Nat} {u0 : Nat}  : Met l yX5_init wsX5_init ({ frames := 1, cells := 2, slots := 40, locals := 24 }) (PC D (TY cI cS cP) [.ref u0] sz [(u0, .inr (5, [.null, .null, .int 0, .int 0, .int 0, .int 0]))]) (QV D (fun (u : Nat × Nat) => True) (fun (u : Nat × Nat) => [(u0, .inr (5, [.ref u.1, .ref u.2, .int 0, .int 0, .int 0, .int 100])), (u.1, .inl (cI, 20, .inl (fun _ => 0))), (u.2, .inl (cI, 20, .inl (fun _ => 0)))]) (va_A [(u0, .inr (5, [.null, .null, .int 0, .int 0, .int 0, .int 0]))] sz)) 2 40 (va_A [(u0, .inr (5, [.null, .null, .int 0, .int 0, .int 0, .int 0]))] sz) := by
  refine Met.ofW (cc := cX5_init) (maxL := 1) (ret := none) (by decide) rfl ?_
  intro p e s m args below meth c s₁ B hml hv
  obtain ⟨rfl, hsz, hP, hK, hD0, hN⟩ := hv
  have hx := B.exec
  have hb := B.bytes
  have hr := B.returns
  have hts := atoms_spec (ws := wsX5_init) B.pre
  have hown : s.vm.findClass RX5 = some m.cls := findClass_of_methodNamed B.named
  have hlocks := B.notSynchronized
  have hin : meth.name = "<init>" := (name_of_methodNamed B.named B.method).1
  subst hsz
  have iX5 : ∀ w ∈ u_ws RX5 TX5 6, w ∈ wsX5_init := by decide +kernel
  have hD := hD0.self (sz := s.heap.size)
  generalize hAe : va_A [(u0, .inr (5, [.null, .null, .int 0, .int 0, .int 0, .int 0]))] s.heap.size = A at hD ⊢
  have hA : ∀ q : Nat, s.heap.size ≤ q → A q := fun q h => by rw [← hAe]; exact Or.inr h
  have hS : va_S A s.heap s.heap [] := va_S.rf
  have hP : va_P D vwCl [(u0, .inr (5, [.null, .null, .int 0, .int 0, .int 0, .int 0]))] s.heap := hP
  have hl := lv_entry ([.ref u0]) (n := 1) (Nat.le_of_ble_eq_true rfl)
  rw [lg_entry_eq]
  generalize (lg_sl ([.ref u0]) ++ List.replicate (1 - (lg_sl ([.ref u0])).length) Slot.unset).toArray = ls at hl ⊢
  have hl : lv_has ls 1 [(0, .ref u0)] := hl
  refine lv_aload_n hx hb dX5_init_0 rfl (lv_at hl 0 rfl) ?_
  refine W.objInit hx hb hown (hts (.methodLink RX5 1 objectInit) (by decide +kernel)) (hts (.instanceMethod objectInit) (by decide +kernel)) (hts _ (by first | exact List.mem_cons_of_mem _ (List.mem_of_getElem? (i := 2) rfl) | exact List.mem_of_getElem? (i := 3) rfl)) rfl (by rw [hml]; exact hl.1) rfl dX5_init_1 (Nat.le_of_ble_eq_true rfl) (Nat.le_of_ble_eq_true rfl) ?_
  refine W.eq (g2 := F0 m 4 ls []) rfl ?_
  refine lv_aload_n hx hb dX5_init_4 rfl (lv_at hl 0 rfl) ?_
  refine lv_bipush (v := 20) hx hb dX5_init_5 (by decide) ?_
  refine nw_i (N := 20) hx hb (hts (.arrayClass .int) (by decide +kernel)) hK hP hD hS hA 0 rfl (by decide) (by decide) (by decide) (Nat.le_of_ble_eq_true rfl) (Nat.le_of_ble_eq_true rfl) dX5_init_7 (fun q_1 H hP hD hS => ?_)
  have hP : va_P D vwCl [(u0, .inr (5, [.null, .null, .int 0, .int 0, .int 0, .int 0])), (q_1, .inl (cI, 20, .inl (fun _ => 0)))] H := hP
  have hD : va_D A [(u0, .inr (5, [.null, .null, .int 0, .int 0, .int 0, .int 0])), (q_1, .inl (cI, 20, .inl (fun _ => 0)))] := hD
  refine W.widen (k := 1) (n := 20) (by decide) (by decide) ?_
  refine va_putF (D := D) (ci := 5) (v := .ref q_1) (ty := .array .int) (C := RX5) (T := TX5) (N := 6) hx hb hts iX5 tyX5 tyX5_ok nmX5 hown hK hP hD hS 0 rfl rfl 0 (by decide) (hts (.fieldLink RX5 9 "DeepHole$Pulls" "forces" "[I") (by decide +kernel)) (fun _ h9 => h9) rfl hin rfl (by decide +kernel) rfl rfl (Nat.le_of_ble_eq_true rfl) dX5_init_9 (fun H locs hP hD hS => ?_)
  have hP : va_P D vwCl [(u0, .inr (5, [.ref q_1, .null, .int 0, .int 0, .int 0, .int 0])), (q_1, .inl (cI, 20, .inl (fun _ => 0)))] H := hP
  have hD : va_D A [(u0, .inr (5, [.ref q_1, .null, .int 0, .int 0, .int 0, .int 0])), (q_1, .inl (cI, 20, .inl (fun _ => 0)))] := hD
  refine lv_aload_n hx hb dX5_init_12 rfl (lv_at hl 0 rfl) ?_
  refine lv_bipush (v := 20) hx hb dX5_init_13 (by decide) ?_
  refine nw_i (N := 20) hx hb (hts (.arrayClass .int) (by decide +kernel)) hK hP hD hS hA 0 rfl (by decide) (by decide) (by decide) (Nat.le_of_ble_eq_true rfl) (Nat.le_of_ble_eq_true rfl) dX5_init_15 (fun q_2 H hP hD hS => ?_)
  have hP : va_P D vwCl [(u0, .inr (5, [.ref q_1, .null, .int 0, .int 0, .int 0, .int 0])), (q_1, .inl (cI, 20, .inl (fun _ => 0))), (q_2, .inl (cI, 20, .inl (fun _ => 0)))] H := hP
  have hD : va_D A [(u0, .inr (5, [.ref q_1, .null, .int 0, .int 0, .int 0, .int 0])), (q_1, .inl (cI, 20, .inl (fun _ => 0))), (q_2, .inl (cI, 20, .inl (fun _ => 0)))] := hD
  refine W.widen (k := 2) (n := 40) (by decide) (by decide) ?_
  refine va_putF (D := D) (ci := 5) (v := .ref q_2) (ty := .array .int) (C := RX5) (T := TX5) (N := 6) hx hb hts iX5 tyX5 tyX5_ok nmX5 hown hK hP hD hS 0 rfl rfl 1 (by decide) (hts (.fieldLink RX5 13 "DeepHole$Pulls" "stretches" "[I") (by decide +kernel)) (fun _ h9 => h9) rfl hin rfl (by decide +kernel) rfl rfl (Nat.le_of_ble_eq_true rfl) dX5_init_17 (fun H locs hP hD hS => ?_)
  have hP : va_P D vwCl [(u0, .inr (5, [.ref q_1, .ref q_2, .int 0, .int 0, .int 0, .int 0])), (q_1, .inl (cI, 20, .inl (fun _ => 0))), (q_2, .inl (cI, 20, .inl (fun _ => 0)))] H := hP
  have hD : va_D A [(u0, .inr (5, [.ref q_1, .ref q_2, .int 0, .int 0, .int 0, .int 0])), (q_1, .inl (cI, 20, .inl (fun _ => 0))), (q_2, .inl (cI, 20, .inl (fun _ => 0)))] := hD
  refine lv_aload_n hx hb dX5_init_20 rfl (lv_at hl 0 rfl) ?_
  refine lv_bipush (v := 100) hx hb dX5_init_21 (by decide) ?_
  refine va_put (D := D) (ci := 5) (v := .int 100) (ty := .int) (C := RX5) (T := TX5) (N := 6) hx hb hts iX5 tyX5 tyX5_ok nmX5 hown hK hP hD hS 0 rfl rfl 5 (by decide) (hts (.fieldLink RX5 16 "DeepHole$Pulls" "k" "I") (by decide +kernel)) (fun _ h9 => h9) rfl (by decide +kernel) rfl rfl (Nat.le_of_ble_eq_true rfl) dX5_init_23 (fun H locs hP hD hS => ?_)
  have hP : va_P D vwCl [(u0, .inr (5, [.ref q_1, .ref q_2, .int 0, .int 0, .int 0, .int 100])), (q_1, .inl (cI, 20, .inl (fun _ => 0))), (q_2, .inl (cI, 20, .inl (fun _ => 0)))] H := hP
  have hD : va_D A [(u0, .inr (5, [.ref q_1, .ref q_2, .int 0, .int 0, .int 0, .int 100])), (q_1, .inl (cI, 20, .inl (fun _ => 0))), (q_2, .inl (cI, 20, .inl (fun _ => 0)))] := hD
  have hP9 := hP.sub (ws' := [(u0, .inr (5, [.ref q_1, .ref q_2, .int 0, .int 0, .int 0, .int 100])), (q_1, .inl (cI, 20, .inl (fun _ => 0))), (q_2, .inl (cI, 20, .inl (fun _ => 0)))]) [0, 1, 2] rfl
  have hD9 := hD.sub (ws' := [(u0, .inr (5, [.ref q_1, .ref q_2, .int 0, .int 0, .int 0, .int 100])), (q_1, .inl (cI, 20, .inl (fun _ => 0))), (q_2, .inl (cI, 20, .inl (fun _ => 0)))]) [0, 1, 2] (by decide) rfl
  exact W.vret hx hb hr (fun t ht hW => ⟨⟨(q_1, q_2), rfl, (trivial), by rw [ht]; exact hP9, hD9⟩, hS.F ht⟩) hS.2.2 dX5_init_26

set_option maxHeartbeats 4000000 in
set_option maxRecDepth 100000 in
theorem c_X3_init {l : Launch} {D : va_G} {cI cS cP : ClassId} {sz : Nat} {g0 s0 s1 : Nat}  : Met l yX3_init wsX3_init ({ frames := 1, cells := 0, slots := 0, locals := 24 }) (PC D (TY cI cS cP) [.ref g0, .ref s0, .ref s1] sz [(g0, .inr (3, [.null, .null, .int 0, .int 0]))]) (QV D (fun (u : Unit) => True) (fun (u : Unit) => [(g0, .inr (3, [.ref s0, .ref s1, .int 0, .int 0]))]) (va_A [(g0, .inr (3, [.null, .null, .int 0, .int 0]))] sz)) 0 0 (va_A [(g0, .inr (3, [.null, .null, .int 0, .int 0]))] sz) := by
  refine Met.ofW (cc := cX3_init) (maxL := 3) (ret := none) (by decide) rfl ?_
  intro p e s m args below meth c s₁ B hml hv
  obtain ⟨rfl, hsz, hP, hK, hD0, hN⟩ := hv
  have hx := B.exec
  have hb := B.bytes
  have hr := B.returns
  have hts := atoms_spec (ws := wsX3_init) B.pre
  have hown : s.vm.findClass RX3 = some m.cls := findClass_of_methodNamed B.named
  have hlocks := B.notSynchronized
  have hin : meth.name = "<init>" := (name_of_methodNamed B.named B.method).1
  subst hsz
  have iX3 : ∀ w ∈ u_ws RX3 TX3 4, w ∈ wsX3_init := by decide +kernel
  have hD := hD0.self (sz := s.heap.size)
  generalize hAe : va_A [(g0, .inr (3, [.null, .null, .int 0, .int 0]))] s.heap.size = A at hD ⊢
  have hA : ∀ q : Nat, s.heap.size ≤ q → A q := fun q h => by rw [← hAe]; exact Or.inr h
  have hS : va_S A s.heap s.heap [] := va_S.rf
  have hP : va_P D vwCl [(g0, .inr (3, [.null, .null, .int 0, .int 0]))] s.heap := hP
  have hl := lv_entry ([.ref g0, .ref s0, .ref s1]) (n := 3) (Nat.le_of_ble_eq_true rfl)
  rw [lg_entry_eq]
  generalize (lg_sl ([.ref g0, .ref s0, .ref s1]) ++ List.replicate (3 - (lg_sl ([.ref g0, .ref s0, .ref s1])).length) Slot.unset).toArray = ls at hl ⊢
  have hl : lv_has ls 3 [(0, .ref g0), (1, .ref s0), (2, .ref s1)] := hl
  refine lv_aload_n hx hb dX3_init_0 rfl (lv_at hl 0 rfl) ?_
  refine W.objInit hx hb hown (hts (.methodLink RX3 3 objectInit) (by decide +kernel)) (hts (.instanceMethod objectInit) (by decide +kernel)) (hts _ (by first | exact List.mem_cons_of_mem _ (List.mem_of_getElem? (i := 2) rfl) | exact List.mem_of_getElem? (i := 3) rfl)) rfl (by rw [hml]; exact hl.1) rfl dX3_init_1 (Nat.le_of_ble_eq_true rfl) (Nat.le_of_ble_eq_true rfl) ?_
  refine W.eq (g2 := F0 m 4 ls []) rfl ?_
  refine lv_aload_n hx hb dX3_init_4 rfl (lv_at hl 0 rfl) ?_
  refine lv_aload_n hx hb dX3_init_5 rfl (lv_at hl 1 rfl) ?_
  refine va_putF (D := D) (ci := 3) (v := .ref s0) (ty := .object "DeepHole$Sheet") (C := RX3) (T := TX3) (N := 4) hx hb hts iX3 tyX3 tyX3_ok nmX3 hown hK hP hD hS 0 rfl rfl 0 (by decide) (hts (.fieldLink RX3 9 "DeepHole$Ground" "pores" "LDeepHole$Sheet;") (by decide +kernel)) (fun _ h9 => h9) rfl hin rfl (by decide +kernel) rfl rfl (Nat.le_of_ble_eq_true rfl) dX3_init_6 (fun H locs hP hD hS => ?_)
  have hP : va_P D vwCl [(g0, .inr (3, [.ref s0, .null, .int 0, .int 0]))] H := hP
  have hD : va_D A [(g0, .inr (3, [.ref s0, .null, .int 0, .int 0]))] := hD
  refine lv_aload_n hx hb dX3_init_9 rfl (lv_at hl 0 rfl) ?_
  refine lv_aload_n hx hb dX3_init_10 rfl (lv_at hl 2 rfl) ?_
  refine va_putF (D := D) (ci := 3) (v := .ref s1) (ty := .object "DeepHole$Sheet") (C := RX3) (T := TX3) (N := 4) hx hb hts iX3 tyX3 tyX3_ok nmX3 hown hK hP hD hS 0 rfl rfl 1 (by decide) (hts (.fieldLink RX3 15 "DeepHole$Ground" "fracs" "LDeepHole$Sheet;") (by decide +kernel)) (fun _ h9 => h9) rfl hin rfl (by decide +kernel) rfl rfl (Nat.le_of_ble_eq_true rfl) dX3_init_11 (fun H locs hP hD hS => ?_)
  have hP : va_P D vwCl [(g0, .inr (3, [.ref s0, .ref s1, .int 0, .int 0]))] H := hP
  have hD : va_D A [(g0, .inr (3, [.ref s0, .ref s1, .int 0, .int 0]))] := hD
  have hP9 := hP.sub (ws' := [(g0, .inr (3, [.ref s0, .ref s1, .int 0, .int 0]))]) [0] rfl
  have hD9 := hD.sub (ws' := [(g0, .inr (3, [.ref s0, .ref s1, .int 0, .int 0]))]) [0] (by decide) rfl
  exact W.vret hx hb hr (fun t ht hW => ⟨⟨(), rfl, (trivial), by rw [ht]; exact hP9, hD9⟩, hS.F ht⟩) hS.2.2 dX3_init_14

set_option maxHeartbeats 4000000 in
set_option maxRecDepth 100000 in
theorem c_X8_init {l : Launch} {D : va_G} {cI cS cP : ClassId} {sz : Nat} {w0 g0 : Nat}  : Met l yX8_init wsX8_init ({ frames := 1, cells := 0, slots := 0, locals := 24 }) (PC D (TY cI cS cP) [.ref w0, .ref g0] sz [(w0, .inr (8, [.null, .int 0, .int 0, .int 0, .int 0]))]) (QV D (fun (u : Unit) => True) (fun (u : Unit) => [(w0, .inr (8, [.ref g0, .int 0, .int 0, .int 10, .int 100]))]) (va_A [(w0, .inr (8, [.null, .int 0, .int 0, .int 0, .int 0]))] sz)) 0 0 (va_A [(w0, .inr (8, [.null, .int 0, .int 0, .int 0, .int 0]))] sz) := by
  refine Met.ofW (cc := cX8_init) (maxL := 2) (ret := none) (by decide) rfl ?_
  intro p e s m args below meth c s₁ B hml hv
  obtain ⟨rfl, hsz, hP, hK, hD0, hN⟩ := hv
  have hx := B.exec
  have hb := B.bytes
  have hr := B.returns
  have hts := atoms_spec (ws := wsX8_init) B.pre
  have hown : s.vm.findClass RX8 = some m.cls := findClass_of_methodNamed B.named
  have hlocks := B.notSynchronized
  have hin : meth.name = "<init>" := (name_of_methodNamed B.named B.method).1
  subst hsz
  have iX8 : ∀ w ∈ u_ws RX8 TX8 5, w ∈ wsX8_init := by decide +kernel
  have hD := hD0.self (sz := s.heap.size)
  generalize hAe : va_A [(w0, .inr (8, [.null, .int 0, .int 0, .int 0, .int 0]))] s.heap.size = A at hD ⊢
  have hA : ∀ q : Nat, s.heap.size ≤ q → A q := fun q h => by rw [← hAe]; exact Or.inr h
  have hS : va_S A s.heap s.heap [] := va_S.rf
  have hP : va_P D vwCl [(w0, .inr (8, [.null, .int 0, .int 0, .int 0, .int 0]))] s.heap := hP
  have hl := lv_entry ([.ref w0, .ref g0]) (n := 2) (Nat.le_of_ble_eq_true rfl)
  rw [lg_entry_eq]
  generalize (lg_sl ([.ref w0, .ref g0]) ++ List.replicate (2 - (lg_sl ([.ref w0, .ref g0])).length) Slot.unset).toArray = ls at hl ⊢
  have hl : lv_has ls 2 [(0, .ref w0), (1, .ref g0)] := hl
  refine lv_aload_n hx hb dX8_init_0 rfl (lv_at hl 0 rfl) ?_
  refine W.objInit hx hb hown (hts (.methodLink RX8 3 objectInit) (by decide +kernel)) (hts (.instanceMethod objectInit) (by decide +kernel)) (hts _ (by first | exact List.mem_cons_of_mem _ (List.mem_of_getElem? (i := 2) rfl) | exact List.mem_of_getElem? (i := 3) rfl)) rfl (by rw [hml]; exact hl.1) rfl dX8_init_1 (Nat.le_of_ble_eq_true rfl) (Nat.le_of_ble_eq_true rfl) ?_
  refine W.eq (g2 := F0 m 4 ls []) rfl ?_
  refine lv_aload_n hx hb dX8_init_4 rfl (lv_at hl 0 rfl) ?_
  refine lv_bipush (v := 10) hx hb dX8_init_5 (by decide) ?_
  refine va_put (D := D) (ci := 8) (v := .int 10) (ty := .int) (C := RX8) (T := TX8) (N := 5) hx hb hts iX8 tyX8 tyX8_ok nmX8 hown hK hP hD hS 0 rfl rfl 3 (by decide) (hts (.fieldLink RX8 9 "DeepHole$Well" "cap" "I") (by decide +kernel)) (fun _ h9 => h9) rfl (by decide +kernel) rfl rfl (Nat.le_of_ble_eq_true rfl) dX8_init_7 (fun H locs hP hD hS => ?_)
  have hP : va_P D vwCl [(w0, .inr (8, [.null, .int 0, .int 0, .int 10, .int 0]))] H := hP
  have hD : va_D A [(w0, .inr (8, [.null, .int 0, .int 0, .int 10, .int 0]))] := hD
  refine lv_aload_n hx hb dX8_init_10 rfl (lv_at hl 0 rfl) ?_
  refine lv_bipush (v := 100) hx hb dX8_init_11 (by decide) ?_
  refine va_put (D := D) (ci := 8) (v := .int 100) (ty := .int) (C := RX8) (T := TX8) (N := 5) hx hb hts iX8 tyX8 tyX8_ok nmX8 hown hK hP hD hS 0 rfl rfl 4 (by decide) (hts (.fieldLink RX8 15 "DeepHole$Well" "swab" "I") (by decide +kernel)) (fun _ h9 => h9) rfl (by decide +kernel) rfl rfl (Nat.le_of_ble_eq_true rfl) dX8_init_13 (fun H locs hP hD hS => ?_)
  have hP : va_P D vwCl [(w0, .inr (8, [.null, .int 0, .int 0, .int 10, .int 100]))] H := hP
  have hD : va_D A [(w0, .inr (8, [.null, .int 0, .int 0, .int 10, .int 100]))] := hD
  refine lv_aload_n hx hb dX8_init_16 rfl (lv_at hl 0 rfl) ?_
  refine lv_aload_n hx hb dX8_init_17 rfl (lv_at hl 1 rfl) ?_
  refine va_putF (D := D) (ci := 8) (v := .ref g0) (ty := .object "DeepHole$Ground") (C := RX8) (T := TX8) (N := 5) hx hb hts iX8 tyX8 tyX8_ok nmX8 hown hK hP hD hS 0 rfl rfl 0 (by decide) (hts (.fieldLink RX8 18 "DeepHole$Well" "ground" "LDeepHole$Ground;") (by decide +kernel)) (fun _ h9 => h9) rfl hin rfl (by decide +kernel) rfl rfl (Nat.le_of_ble_eq_true rfl) dX8_init_18 (fun H locs hP hD hS => ?_)
  have hP : va_P D vwCl [(w0, .inr (8, [.ref g0, .int 0, .int 0, .int 10, .int 100]))] H := hP
  have hD : va_D A [(w0, .inr (8, [.ref g0, .int 0, .int 0, .int 10, .int 100]))] := hD
  have hP9 := hP.sub (ws' := [(w0, .inr (8, [.ref g0, .int 0, .int 0, .int 10, .int 100]))]) [0] rfl
  have hD9 := hD.sub (ws' := [(w0, .inr (8, [.ref g0, .int 0, .int 0, .int 10, .int 100]))]) [0] (by decide) rfl
  exact W.vret hx hb hr (fun t ht hW => ⟨⟨(), rfl, (trivial), by rw [ht]; exact hP9, hD9⟩, hS.F ht⟩) hS.2.2 dX8_init_21

set_option maxHeartbeats 4000000 in
set_option maxRecDepth 100000 in
theorem c_X2_init {l : Launch} {D : va_G} {cI cS cP : ClassId} {sz : Nat} {la w0 : Nat}  : Met l yX2_init wsX2_init ({ frames := 1, cells := 0, slots := 0, locals := 24 }) (PC D (TY cI cS cP) [.ref la, .ref w0] sz [(la, .inr (2, [.null, .int 0, .int 0, .int 0, .long 0, .long 0, .long 0, .long 0, .long 0]))]) (QV D (fun (u : Unit) => True) (fun (u : Unit) => [(la, .inr (2, [.ref w0, .int 0, .int 0, .int 0, .long 0, .long 0, .long 0, .long 0, .long 0]))]) (va_A [(la, .inr (2, [.null, .int 0, .int 0, .int 0, .long 0, .long 0, .long 0, .long 0, .long 0]))] sz)) 0 0 (va_A [(la, .inr (2, [.null, .int 0, .int 0, .int 0, .long 0, .long 0, .long 0, .long 0, .long 0]))] sz) := by
  refine Met.ofW (cc := cX2_init) (maxL := 2) (ret := none) (by decide) rfl ?_
  intro p e s m args below meth c s₁ B hml hv
  obtain ⟨rfl, hsz, hP, hK, hD0, hN⟩ := hv
  have hx := B.exec
  have hb := B.bytes
  have hr := B.returns
  have hts := atoms_spec (ws := wsX2_init) B.pre
  have hown : s.vm.findClass RX2 = some m.cls := findClass_of_methodNamed B.named
  have hlocks := B.notSynchronized
  have hin : meth.name = "<init>" := (name_of_methodNamed B.named B.method).1
  subst hsz
  have iX2 : ∀ w ∈ u_ws RX2 TX2 9, w ∈ wsX2_init := by decide +kernel
  have hD := hD0.self (sz := s.heap.size)
  generalize hAe : va_A [(la, .inr (2, [.null, .int 0, .int 0, .int 0, .long 0, .long 0, .long 0, .long 0, .long 0]))] s.heap.size = A at hD ⊢
  have hA : ∀ q : Nat, s.heap.size ≤ q → A q := fun q h => by rw [← hAe]; exact Or.inr h
  have hS : va_S A s.heap s.heap [] := va_S.rf
  have hP : va_P D vwCl [(la, .inr (2, [.null, .int 0, .int 0, .int 0, .long 0, .long 0, .long 0, .long 0, .long 0]))] s.heap := hP
  have hl := lv_entry ([.ref la, .ref w0]) (n := 2) (Nat.le_of_ble_eq_true rfl)
  rw [lg_entry_eq]
  generalize (lg_sl ([.ref la, .ref w0]) ++ List.replicate (2 - (lg_sl ([.ref la, .ref w0])).length) Slot.unset).toArray = ls at hl ⊢
  have hl : lv_has ls 2 [(0, .ref la), (1, .ref w0)] := hl
  refine lv_aload_n hx hb dX2_init_0 rfl (lv_at hl 0 rfl) ?_
  refine W.objInit hx hb hown (hts (.methodLink RX2 3 objectInit) (by decide +kernel)) (hts (.instanceMethod objectInit) (by decide +kernel)) (hts _ (by first | exact List.mem_cons_of_mem _ (List.mem_of_getElem? (i := 2) rfl) | exact List.mem_of_getElem? (i := 3) rfl)) rfl (by rw [hml]; exact hl.1) rfl dX2_init_1 (Nat.le_of_ble_eq_true rfl) (Nat.le_of_ble_eq_true rfl) ?_
  refine W.eq (g2 := F0 m 4 ls []) rfl ?_
  refine lv_aload_n hx hb dX2_init_4 rfl (lv_at hl 0 rfl) ?_
  refine lv_aload_n hx hb dX2_init_5 rfl (lv_at hl 1 rfl) ?_
  refine va_putF (D := D) (ci := 2) (v := .ref w0) (ty := .object "DeepHole$Well") (C := RX2) (T := TX2) (N := 9) hx hb hts iX2 tyX2 tyX2_ok nmX2 hown hK hP hD hS 0 rfl rfl 0 (by decide) (hts (.fieldLink RX2 9 "DeepHole$Gas" "well" "LDeepHole$Well;") (by decide +kernel)) (fun _ h9 => h9) rfl hin rfl (by decide +kernel) rfl rfl (Nat.le_of_ble_eq_true rfl) dX2_init_6 (fun H locs hP hD hS => ?_)
  have hP : va_P D vwCl [(la, .inr (2, [.ref w0, .int 0, .int 0, .int 0, .long 0, .long 0, .long 0, .long 0, .long 0]))] H := hP
  have hD : va_D A [(la, .inr (2, [.ref w0, .int 0, .int 0, .int 0, .long 0, .long 0, .long 0, .long 0, .long 0]))] := hD
  have hP9 := hP.sub (ws' := [(la, .inr (2, [.ref w0, .int 0, .int 0, .int 0, .long 0, .long 0, .long 0, .long 0, .long 0]))]) [0] rfl
  have hD9 := hD.sub (ws' := [(la, .inr (2, [.ref w0, .int 0, .int 0, .int 0, .long 0, .long 0, .long 0, .long 0, .long 0]))]) [0] (by decide) rfl
  exact W.vret hx hb hr (fun t ht hW => ⟨⟨(), rfl, (trivial), by rw [ht]; exact hP9, hD9⟩, hS.F ht⟩) hS.2.2 dX2_init_9

set_option maxHeartbeats 4000000 in
set_option maxRecDepth 100000 in
theorem c_X1_init {l : Launch} {D : va_G} {cI cS cP : ClassId} {sz : Nat} {k0 g0 : Nat}  : Met l yX1_init wsX1_init ({ frames := 2, cells := 6, slots := 676, locals := 44 }) (PC D (TY cI cS cP) [.ref k0, .ref g0] sz [(k0, .inr (1, [.null, .null, .null, .null, .int 0, .null, .null, .null]))]) (QV D (fun (u : Nat × Nat × Nat × Nat × Nat × Nat) => True) (fun (u : Nat × Nat × Nat × Nat × Nat × Nat) => [(k0, .inr (1, [.ref g0, .ref u.1, .ref u.2.1, .ref u.2.2.1, .int 0, .ref u.2.2.2.1, .ref u.2.2.2.2.1, .ref u.2.2.2.2.2])), (u.1, .inr (7, [.long 0, .long 0])), (u.2.1, .inl (cI, 6, .inl (fun _ => 0))), (u.2.2.1, .inl (cI, 6, .inl (fun _ => 0))), (u.2.2.2.1, .inl (cI, 50, .inl (fun _ => 0))), (u.2.2.2.2.1, .inl (cI, 306, .inl (fun _ => 0))), (u.2.2.2.2.2, .inl (cI, 306, .inl (fun _ => 0)))]) (va_A [(k0, .inr (1, [.null, .null, .null, .null, .int 0, .null, .null, .null]))] sz)) 6 676 (va_A [(k0, .inr (1, [.null, .null, .null, .null, .int 0, .null, .null, .null]))] sz) := by
  refine Met.ofW (cc := cX1_init) (maxL := 2) (ret := none) (by decide) rfl ?_
  intro p e s m args below meth c s₁ B hml hv
  obtain ⟨rfl, hsz, hP, hK, hD0, hN⟩ := hv
  have hx := B.exec
  have hb := B.bytes
  have hr := B.returns
  have hts := atoms_spec (ws := wsX1_init) B.pre
  have hown : s.vm.findClass RX1 = some m.cls := findClass_of_methodNamed B.named
  have hlocks := B.notSynchronized
  have hin : meth.name = "<init>" := (name_of_methodNamed B.named B.method).1
  subst hsz
  have iX1 : ∀ w ∈ u_ws RX1 TX1 8, w ∈ wsX1_init := by decide +kernel
  have iX7 : ∀ w ∈ u_ws RX7 TX7 2, w ∈ wsX1_init := by decide +kernel
  have hD := hD0.self (sz := s.heap.size)
  generalize hAe : va_A [(k0, .inr (1, [.null, .null, .null, .null, .int 0, .null, .null, .null]))] s.heap.size = A at hD ⊢
  have hA : ∀ q : Nat, s.heap.size ≤ q → A q := fun q h => by rw [← hAe]; exact Or.inr h
  have hS : va_S A s.heap s.heap [] := va_S.rf
  have hP : va_P D vwCl [(k0, .inr (1, [.null, .null, .null, .null, .int 0, .null, .null, .null]))] s.heap := hP
  have hl := lv_entry ([.ref k0, .ref g0]) (n := 2) (Nat.le_of_ble_eq_true rfl)
  rw [lg_entry_eq]
  generalize (lg_sl ([.ref k0, .ref g0]) ++ List.replicate (2 - (lg_sl ([.ref k0, .ref g0])).length) Slot.unset).toArray = ls at hl ⊢
  have hl : lv_has ls 2 [(0, .ref k0), (1, .ref g0)] := hl
  refine lv_aload_n hx hb dX1_init_0 rfl (lv_at hl 0 rfl) ?_
  refine W.objInit hx hb hown (hts (.methodLink RX1 3 objectInit) (by decide +kernel)) (hts (.instanceMethod objectInit) (by decide +kernel)) (hts _ (by first | exact List.mem_cons_of_mem _ (List.mem_of_getElem? (i := 2) rfl) | exact List.mem_of_getElem? (i := 3) rfl)) rfl (by rw [hml]; exact hl.1) rfl dX1_init_1 (Nat.le_of_ble_eq_true rfl) (Nat.le_of_ble_eq_true rfl) ?_
  refine W.eq (g2 := F0 m 4 ls []) rfl ?_
  refine lv_aload_n hx hb dX1_init_4 rfl (lv_at hl 0 rfl) ?_
  refine va_new (ci := 7) (fs := [.long 0, .long 0]) (C := RX7) (T := TX7) (N := 2) hx hb hts iX7 tyX7 tyX7_ok hown (hts (.classLink RX1 9 RX7) (by decide +kernel)) (hts (.instantiable RX7 2) (by decide +kernel)) (hts (.initialized RX7) (by decide +kernel)) hK hP hD hS hA rfl (by decide +kernel) (Nat.le_of_ble_eq_true rfl) (Nat.le_of_ble_eq_true rfl) dX1_init_5 (fun q_1 H hP hD hS => ?_)
  have hP : va_P D vwCl [(k0, .inr (1, [.null, .null, .null, .null, .int 0, .null, .null, .null])), (q_1, .inr (7, [.long 0, .long 0]))] H := hP
  have hD : va_D A [(k0, .inr (1, [.null, .null, .null, .null, .int 0, .null, .null, .null])), (q_1, .inr (7, [.long 0, .long 0]))] := hD
  refine W.widen (k := 1) (n := 2) (by decide) (by decide) ?_
  refine lv_dup hx hb dX1_init_8 rfl ?_
  refine w_I (wc := [(q_1, .inr (7, [.long 0, .long 0]))]) (wr := [(k0, .inr (1, [.null, .null, .null, .null, .int 0, .null, .null, .null]))]) (b := q_1) ⟨hx, hb, hml, hown, hts⟩ [] [.ref q_1, .ref k0] c_X7_init (cwI 0 hts gX1_init_X7_init rfl rfl rfl (hts (.initialized RX7) (by decide +kernel)) (hts (.methodLink RX1 11 yX7_init) (by decide +kernel)) (hts (.instanceMethod yX7_init) (by decide +kernel)) rfl (by decide +kernel) ⟨Nat.le_of_ble_eq_true rfl, Nat.le_of_ble_eq_true rfl⟩) hK hN hP hD hS hA [1] [0] rfl (by decide) rfl (by decide) (by decide) rfl hl.1 rfl (Nat.le_of_ble_eq_true rfl) dX1_init_9 ⟨Nat.le_of_ble_eq_true rfl, Nat.le_of_ble_eq_true rfl⟩ (fun u H locs hw hP hD hS => ?_)
  have hP : va_P D vwCl [(k0, .inr (1, [.null, .null, .null, .null, .int 0, .null, .null, .null])), (q_1, .inr (7, [.long 0, .long 0]))] H := hP
  have hD : va_D A [(k0, .inr (1, [.null, .null, .null, .null, .int 0, .null, .null, .null])), (q_1, .inr (7, [.long 0, .long 0]))] := hD
  refine va_putF (D := D) (ci := 1) (v := .ref q_1) (ty := .object "DeepHole$Span") (C := RX1) (T := TX1) (N := 8) hx hb hts iX1 tyX1 tyX1_ok nmX1 hown hK hP hD hS 0 rfl rfl 1 (by decide) (hts (.fieldLink RX1 12 "DeepHole$Casings" "muds" "LDeepHole$Span;") (by decide +kernel)) (fun _ h9 => h9) rfl hin rfl (by decide +kernel) rfl rfl (Nat.le_of_ble_eq_true rfl) dX1_init_12 (fun H locs hP hD hS => ?_)
  have hP : va_P D vwCl [(k0, .inr (1, [.null, .ref q_1, .null, .null, .int 0, .null, .null, .null])), (q_1, .inr (7, [.long 0, .long 0]))] H := hP
  have hD : va_D A [(k0, .inr (1, [.null, .ref q_1, .null, .null, .int 0, .null, .null, .null])), (q_1, .inr (7, [.long 0, .long 0]))] := hD
  refine lv_aload_n hx hb dX1_init_15 rfl (lv_at hl 0 rfl) ?_
  refine lv_bipush (v := 6) hx hb dX1_init_16 (by decide) ?_
  refine nw_i (N := 6) hx hb (hts (.arrayClass .int) (by decide +kernel)) hK hP hD hS hA 0 rfl (by decide) (by decide) (by decide) (Nat.le_of_ble_eq_true rfl) (Nat.le_of_ble_eq_true rfl) dX1_init_18 (fun q_2 H hP hD hS => ?_)
  have hP : va_P D vwCl [(k0, .inr (1, [.null, .ref q_1, .null, .null, .int 0, .null, .null, .null])), (q_1, .inr (7, [.long 0, .long 0])), (q_2, .inl (cI, 6, .inl (fun _ => 0)))] H := hP
  have hD : va_D A [(k0, .inr (1, [.null, .ref q_1, .null, .null, .int 0, .null, .null, .null])), (q_1, .inr (7, [.long 0, .long 0])), (q_2, .inl (cI, 6, .inl (fun _ => 0)))] := hD
  refine W.widen (k := 2) (n := 8) (by decide) (by decide) ?_
  refine va_putF (D := D) (ci := 1) (v := .ref q_2) (ty := .array .int) (C := RX1) (T := TX1) (N := 8) hx hb hts iX1 tyX1 tyX1_ok nmX1 hown hK hP hD hS 0 rfl rfl 2 (by decide) (hts (.fieldLink RX1 18 "DeepHole$Casings" "prices" "[I") (by decide +kernel)) (fun _ h9 => h9) rfl hin rfl (by decide +kernel) rfl rfl (Nat.le_of_ble_eq_true rfl) dX1_init_20 (fun H locs hP hD hS => ?_)
  have hP : va_P D vwCl [(k0, .inr (1, [.null, .ref q_1, .ref q_2, .null, .int 0, .null, .null, .null])), (q_1, .inr (7, [.long 0, .long 0])), (q_2, .inl (cI, 6, .inl (fun _ => 0)))] H := hP
  have hD : va_D A [(k0, .inr (1, [.null, .ref q_1, .ref q_2, .null, .int 0, .null, .null, .null])), (q_1, .inr (7, [.long 0, .long 0])), (q_2, .inl (cI, 6, .inl (fun _ => 0)))] := hD
  refine lv_aload_n hx hb dX1_init_23 rfl (lv_at hl 0 rfl) ?_
  refine lv_bipush (v := 6) hx hb dX1_init_24 (by decide) ?_
  refine nw_i (N := 6) hx hb (hts (.arrayClass .int) (by decide +kernel)) hK hP hD hS hA 0 rfl (by decide) (by decide) (by decide) (Nat.le_of_ble_eq_true rfl) (Nat.le_of_ble_eq_true rfl) dX1_init_26 (fun q_3 H hP hD hS => ?_)
  have hP : va_P D vwCl [(k0, .inr (1, [.null, .ref q_1, .ref q_2, .null, .int 0, .null, .null, .null])), (q_1, .inr (7, [.long 0, .long 0])), (q_2, .inl (cI, 6, .inl (fun _ => 0))), (q_3, .inl (cI, 6, .inl (fun _ => 0)))] H := hP
  have hD : va_D A [(k0, .inr (1, [.null, .ref q_1, .ref q_2, .null, .int 0, .null, .null, .null])), (q_1, .inr (7, [.long 0, .long 0])), (q_2, .inl (cI, 6, .inl (fun _ => 0))), (q_3, .inl (cI, 6, .inl (fun _ => 0)))] := hD
  refine W.widen (k := 3) (n := 14) (by decide) (by decide) ?_
  refine va_putF (D := D) (ci := 1) (v := .ref q_3) (ty := .array .int) (C := RX1) (T := TX1) (N := 8) hx hb hts iX1 tyX1 tyX1_ok nmX1 hown hK hP hD hS 0 rfl rfl 3 (by decide) (hts (.fieldLink RX1 22 "DeepHole$Casings" "reaches" "[I") (by decide +kernel)) (fun _ h9 => h9) rfl hin rfl (by decide +kernel) rfl rfl (Nat.le_of_ble_eq_true rfl) dX1_init_28 (fun H locs hP hD hS => ?_)
  have hP : va_P D vwCl [(k0, .inr (1, [.null, .ref q_1, .ref q_2, .ref q_3, .int 0, .null, .null, .null])), (q_1, .inr (7, [.long 0, .long 0])), (q_2, .inl (cI, 6, .inl (fun _ => 0))), (q_3, .inl (cI, 6, .inl (fun _ => 0)))] H := hP
  have hD : va_D A [(k0, .inr (1, [.null, .ref q_1, .ref q_2, .ref q_3, .int 0, .null, .null, .null])), (q_1, .inr (7, [.long 0, .long 0])), (q_2, .inl (cI, 6, .inl (fun _ => 0))), (q_3, .inl (cI, 6, .inl (fun _ => 0)))] := hD
  refine lv_aload_n hx hb dX1_init_31 rfl (lv_at hl 0 rfl) ?_
  refine lv_bipush (v := 50) hx hb dX1_init_32 (by decide) ?_
  refine nw_i (N := 50) hx hb (hts (.arrayClass .int) (by decide +kernel)) hK hP hD hS hA 0 rfl (by decide) (by decide) (by decide) (Nat.le_of_ble_eq_true rfl) (Nat.le_of_ble_eq_true rfl) dX1_init_34 (fun q_4 H hP hD hS => ?_)
  have hP : va_P D vwCl [(k0, .inr (1, [.null, .ref q_1, .ref q_2, .ref q_3, .int 0, .null, .null, .null])), (q_1, .inr (7, [.long 0, .long 0])), (q_2, .inl (cI, 6, .inl (fun _ => 0))), (q_3, .inl (cI, 6, .inl (fun _ => 0))), (q_4, .inl (cI, 50, .inl (fun _ => 0)))] H := hP
  have hD : va_D A [(k0, .inr (1, [.null, .ref q_1, .ref q_2, .ref q_3, .int 0, .null, .null, .null])), (q_1, .inr (7, [.long 0, .long 0])), (q_2, .inl (cI, 6, .inl (fun _ => 0))), (q_3, .inl (cI, 6, .inl (fun _ => 0))), (q_4, .inl (cI, 50, .inl (fun _ => 0)))] := hD
  refine W.widen (k := 4) (n := 64) (by decide) (by decide) ?_
  refine va_putF (D := D) (ci := 1) (v := .ref q_4) (ty := .array .int) (C := RX1) (T := TX1) (N := 8) hx hb hts iX1 tyX1 tyX1_ok nmX1 hown hK hP hD hS 0 rfl rfl 5 (by decide) (hts (.fieldLink RX1 25 "DeepHole$Casings" "deepest" "[I") (by decide +kernel)) (fun _ h9 => h9) rfl hin rfl (by decide +kernel) rfl rfl (Nat.le_of_ble_eq_true rfl) dX1_init_36 (fun H locs hP hD hS => ?_)
  have hP : va_P D vwCl [(k0, .inr (1, [.null, .ref q_1, .ref q_2, .ref q_3, .int 0, .ref q_4, .null, .null])), (q_1, .inr (7, [.long 0, .long 0])), (q_2, .inl (cI, 6, .inl (fun _ => 0))), (q_3, .inl (cI, 6, .inl (fun _ => 0))), (q_4, .inl (cI, 50, .inl (fun _ => 0)))] H := hP
  have hD : va_D A [(k0, .inr (1, [.null, .ref q_1, .ref q_2, .ref q_3, .int 0, .ref q_4, .null, .null])), (q_1, .inr (7, [.long 0, .long 0])), (q_2, .inl (cI, 6, .inl (fun _ => 0))), (q_3, .inl (cI, 6, .inl (fun _ => 0))), (q_4, .inl (cI, 50, .inl (fun _ => 0)))] := hD
  refine lv_aload_n hx hb dX1_init_39 rfl (lv_at hl 0 rfl) ?_
  refine lv_sipush (v := 306) hx hb dX1_init_40 (by decide) ?_
  refine nw_i (N := 306) hx hb (hts (.arrayClass .int) (by decide +kernel)) hK hP hD hS hA 0 rfl (by decide) (by decide) (by decide) (Nat.le_of_ble_eq_true rfl) (Nat.le_of_ble_eq_true rfl) dX1_init_43 (fun q_5 H hP hD hS => ?_)
  have hP : va_P D vwCl [(k0, .inr (1, [.null, .ref q_1, .ref q_2, .ref q_3, .int 0, .ref q_4, .null, .null])), (q_1, .inr (7, [.long 0, .long 0])), (q_2, .inl (cI, 6, .inl (fun _ => 0))), (q_3, .inl (cI, 6, .inl (fun _ => 0))), (q_4, .inl (cI, 50, .inl (fun _ => 0))), (q_5, .inl (cI, 306, .inl (fun _ => 0)))] H := hP
  have hD : va_D A [(k0, .inr (1, [.null, .ref q_1, .ref q_2, .ref q_3, .int 0, .ref q_4, .null, .null])), (q_1, .inr (7, [.long 0, .long 0])), (q_2, .inl (cI, 6, .inl (fun _ => 0))), (q_3, .inl (cI, 6, .inl (fun _ => 0))), (q_4, .inl (cI, 50, .inl (fun _ => 0))), (q_5, .inl (cI, 306, .inl (fun _ => 0)))] := hD
  refine W.widen (k := 5) (n := 370) (by decide) (by decide) ?_
  refine va_putF (D := D) (ci := 1) (v := .ref q_5) (ty := .array .int) (C := RX1) (T := TX1) (N := 8) hx hb hts iX1 tyX1 tyX1_ok nmX1 hown hK hP hD hS 0 rfl rfl 6 (by decide) (hts (.fieldLink RX1 28 "DeepHole$Casings" "worths" "[I") (by decide +kernel)) (fun _ h9 => h9) rfl hin rfl (by decide +kernel) rfl rfl (Nat.le_of_ble_eq_true rfl) dX1_init_45 (fun H locs hP hD hS => ?_)
  have hP : va_P D vwCl [(k0, .inr (1, [.null, .ref q_1, .ref q_2, .ref q_3, .int 0, .ref q_4, .ref q_5, .null])), (q_1, .inr (7, [.long 0, .long 0])), (q_2, .inl (cI, 6, .inl (fun _ => 0))), (q_3, .inl (cI, 6, .inl (fun _ => 0))), (q_4, .inl (cI, 50, .inl (fun _ => 0))), (q_5, .inl (cI, 306, .inl (fun _ => 0)))] H := hP
  have hD : va_D A [(k0, .inr (1, [.null, .ref q_1, .ref q_2, .ref q_3, .int 0, .ref q_4, .ref q_5, .null])), (q_1, .inr (7, [.long 0, .long 0])), (q_2, .inl (cI, 6, .inl (fun _ => 0))), (q_3, .inl (cI, 6, .inl (fun _ => 0))), (q_4, .inl (cI, 50, .inl (fun _ => 0))), (q_5, .inl (cI, 306, .inl (fun _ => 0)))] := hD
  refine lv_aload_n hx hb dX1_init_48 rfl (lv_at hl 0 rfl) ?_
  refine lv_sipush (v := 306) hx hb dX1_init_49 (by decide) ?_
  refine nw_i (N := 306) hx hb (hts (.arrayClass .int) (by decide +kernel)) hK hP hD hS hA 0 rfl (by decide) (by decide) (by decide) (Nat.le_of_ble_eq_true rfl) (Nat.le_of_ble_eq_true rfl) dX1_init_52 (fun q_6 H hP hD hS => ?_)
  have hP : va_P D vwCl [(k0, .inr (1, [.null, .ref q_1, .ref q_2, .ref q_3, .int 0, .ref q_4, .ref q_5, .null])), (q_1, .inr (7, [.long 0, .long 0])), (q_2, .inl (cI, 6, .inl (fun _ => 0))), (q_3, .inl (cI, 6, .inl (fun _ => 0))), (q_4, .inl (cI, 50, .inl (fun _ => 0))), (q_5, .inl (cI, 306, .inl (fun _ => 0))), (q_6, .inl (cI, 306, .inl (fun _ => 0)))] H := hP
  have hD : va_D A [(k0, .inr (1, [.null, .ref q_1, .ref q_2, .ref q_3, .int 0, .ref q_4, .ref q_5, .null])), (q_1, .inr (7, [.long 0, .long 0])), (q_2, .inl (cI, 6, .inl (fun _ => 0))), (q_3, .inl (cI, 6, .inl (fun _ => 0))), (q_4, .inl (cI, 50, .inl (fun _ => 0))), (q_5, .inl (cI, 306, .inl (fun _ => 0))), (q_6, .inl (cI, 306, .inl (fun _ => 0)))] := hD
  refine W.widen (k := 6) (n := 676) (by decide) (by decide) ?_
  refine va_putF (D := D) (ci := 1) (v := .ref q_6) (ty := .array .int) (C := RX1) (T := TX1) (N := 8) hx hb hts iX1 tyX1 tyX1_ok nmX1 hown hK hP hD hS 0 rfl rfl 7 (by decide) (hts (.fieldLink RX1 31 "DeepHole$Casings" "shoes" "[I") (by decide +kernel)) (fun _ h9 => h9) rfl hin rfl (by decide +kernel) rfl rfl (Nat.le_of_ble_eq_true rfl) dX1_init_54 (fun H locs hP hD hS => ?_)
  have hP : va_P D vwCl [(k0, .inr (1, [.null, .ref q_1, .ref q_2, .ref q_3, .int 0, .ref q_4, .ref q_5, .ref q_6])), (q_1, .inr (7, [.long 0, .long 0])), (q_2, .inl (cI, 6, .inl (fun _ => 0))), (q_3, .inl (cI, 6, .inl (fun _ => 0))), (q_4, .inl (cI, 50, .inl (fun _ => 0))), (q_5, .inl (cI, 306, .inl (fun _ => 0))), (q_6, .inl (cI, 306, .inl (fun _ => 0)))] H := hP
  have hD : va_D A [(k0, .inr (1, [.null, .ref q_1, .ref q_2, .ref q_3, .int 0, .ref q_4, .ref q_5, .ref q_6])), (q_1, .inr (7, [.long 0, .long 0])), (q_2, .inl (cI, 6, .inl (fun _ => 0))), (q_3, .inl (cI, 6, .inl (fun _ => 0))), (q_4, .inl (cI, 50, .inl (fun _ => 0))), (q_5, .inl (cI, 306, .inl (fun _ => 0))), (q_6, .inl (cI, 306, .inl (fun _ => 0)))] := hD
  refine lv_aload_n hx hb dX1_init_57 rfl (lv_at hl 0 rfl) ?_
  refine lv_aload_n hx hb dX1_init_58 rfl (lv_at hl 1 rfl) ?_
  refine va_putF (D := D) (ci := 1) (v := .ref g0) (ty := .object "DeepHole$Ground") (C := RX1) (T := TX1) (N := 8) hx hb hts iX1 tyX1 tyX1_ok nmX1 hown hK hP hD hS 0 rfl rfl 0 (by decide) (hts (.fieldLink RX1 34 "DeepHole$Casings" "ground" "LDeepHole$Ground;") (by decide +kernel)) (fun _ h9 => h9) rfl hin rfl (by decide +kernel) rfl rfl (Nat.le_of_ble_eq_true rfl) dX1_init_59 (fun H locs hP hD hS => ?_)
  have hP : va_P D vwCl [(k0, .inr (1, [.ref g0, .ref q_1, .ref q_2, .ref q_3, .int 0, .ref q_4, .ref q_5, .ref q_6])), (q_1, .inr (7, [.long 0, .long 0])), (q_2, .inl (cI, 6, .inl (fun _ => 0))), (q_3, .inl (cI, 6, .inl (fun _ => 0))), (q_4, .inl (cI, 50, .inl (fun _ => 0))), (q_5, .inl (cI, 306, .inl (fun _ => 0))), (q_6, .inl (cI, 306, .inl (fun _ => 0)))] H := hP
  have hD : va_D A [(k0, .inr (1, [.ref g0, .ref q_1, .ref q_2, .ref q_3, .int 0, .ref q_4, .ref q_5, .ref q_6])), (q_1, .inr (7, [.long 0, .long 0])), (q_2, .inl (cI, 6, .inl (fun _ => 0))), (q_3, .inl (cI, 6, .inl (fun _ => 0))), (q_4, .inl (cI, 50, .inl (fun _ => 0))), (q_5, .inl (cI, 306, .inl (fun _ => 0))), (q_6, .inl (cI, 306, .inl (fun _ => 0)))] := hD
  have hP9 := hP.sub (ws' := [(k0, .inr (1, [.ref g0, .ref q_1, .ref q_2, .ref q_3, .int 0, .ref q_4, .ref q_5, .ref q_6])), (q_1, .inr (7, [.long 0, .long 0])), (q_2, .inl (cI, 6, .inl (fun _ => 0))), (q_3, .inl (cI, 6, .inl (fun _ => 0))), (q_4, .inl (cI, 50, .inl (fun _ => 0))), (q_5, .inl (cI, 306, .inl (fun _ => 0))), (q_6, .inl (cI, 306, .inl (fun _ => 0)))]) [0, 1, 2, 3, 4, 5, 6] rfl
  have hD9 := hD.sub (ws' := [(k0, .inr (1, [.ref g0, .ref q_1, .ref q_2, .ref q_3, .int 0, .ref q_4, .ref q_5, .ref q_6])), (q_1, .inr (7, [.long 0, .long 0])), (q_2, .inl (cI, 6, .inl (fun _ => 0))), (q_3, .inl (cI, 6, .inl (fun _ => 0))), (q_4, .inl (cI, 50, .inl (fun _ => 0))), (q_5, .inl (cI, 306, .inl (fun _ => 0))), (q_6, .inl (cI, 306, .inl (fun _ => 0)))]) [0, 1, 2, 3, 4, 5, 6] (by decide) rfl
  exact W.vret hx hb hr (fun t ht hW => ⟨⟨(q_1, q_2, q_3, q_4, q_5, q_6), rfl, (trivial), by rw [ht]; exact hP9, hD9⟩, hS.F ht⟩) hS.2.2 dX1_init_62
