set_option maxHeartbeats 4000000 in
set_option maxRecDepth 100000 in
theorem c_X9_cap {l : Launch} {D : va_G} {cI cS cP : ClassId} {sz : Nat} {x0 sx g0 w0 k0 la tr u0 pt ap sp : Nat} {fd : Int32} {d sh cap sw : Nat} {v1 : Int32}  : Met l yX9_cap wsX9_cap ({ frames := 1, cells := 0, slots := 0, locals := 22 }) (PC D (TY cI cS cP) [.ref x0, .int v1] sz [(x0, .inr (9, [.ref sx, .ref g0, .ref w0, .ref k0, .ref la, .ref tr, .ref u0, .ref pt, .ref ap, .ref sp, .int fd])), (w0, .inr (8, [.ref g0, .int (nI d), .int (nI sh), .int (nI cap), .int (nI sw)]))]) (QI D (fun (r : Int32) (u : Nat) => (r = aCap cap v1) ∧ u = sCap cap v1) (fun (u : Nat) => [(x0, .inr (9, [.ref sx, .ref g0, .ref w0, .ref k0, .ref la, .ref tr, .ref u0, .ref pt, .ref ap, .ref sp, .int fd])), (w0, .inr (8, [.ref g0, .int (nI d), .int (nI sh), .int (nI u), .int (nI sw)]))]) (va_A [(x0, .inr (9, [.ref sx, .ref g0, .ref w0, .ref k0, .ref la, .ref tr, .ref u0, .ref pt, .ref ap, .ref sp, .int fd])), (w0, .inr (8, [.ref g0, .int (nI d), .int (nI sh), .int (nI cap), .int (nI sw)]))] sz)) 0 0 (va_A [(x0, .inr (9, [.ref sx, .ref g0, .ref w0, .ref k0, .ref la, .ref tr, .ref u0, .ref pt, .ref ap, .ref sp, .int fd])), (w0, .inr (8, [.ref g0, .int (nI d), .int (nI sh), .int (nI cap), .int (nI sw)]))] sz) := by
  refine Met.ofW (cc := cX9_cap) (maxL := 3) (ret := (some .int)) (by decide) rfl ?_
  intro p e s m args below meth c s₁ B hml hv
  obtain ⟨rfl, hsz, hP, hK, hD0, hN⟩ := hv
  have hx := B.exec
  have hb := B.bytes
  have hr := B.returns
  have hts := atoms_spec (ws := wsX9_cap) B.pre
  have hown : s.vm.findClass RX9 = some m.cls := findClass_of_methodNamed B.named
  have hlocks := B.notSynchronized
  subst hsz
  have iX8 : ∀ w ∈ u_ws RX8 TX8 5, w ∈ wsX9_cap := by decide +kernel
  have iX9 : ∀ w ∈ u_ws RX9 TX9 11, w ∈ wsX9_cap := by decide +kernel
  have hD := hD0.self (sz := s.heap.size)
  generalize hAe : va_A [(x0, .inr (9, [.ref sx, .ref g0, .ref w0, .ref k0, .ref la, .ref tr, .ref u0, .ref pt, .ref ap, .ref sp, .int fd])), (w0, .inr (8, [.ref g0, .int (nI d), .int (nI sh), .int (nI cap), .int (nI sw)]))] s.heap.size = A at hD ⊢
  have hA : ∀ q : Nat, s.heap.size ≤ q → A q := fun q h => by rw [← hAe]; exact Or.inr h
  have hS : va_S A s.heap s.heap [] := va_S.rf
  have hP : va_P D vwCl [(x0, .inr (9, [.ref sx, .ref g0, .ref w0, .ref k0, .ref la, .ref tr, .ref u0, .ref pt, .ref ap, .ref sp, .int fd])), (w0, .inr (8, [.ref g0, .int (nI d), .int (nI sh), .int (nI cap), .int (nI sw)]))] s.heap := hP
  have hl := lv_entry ([.ref x0, .int v1]) (n := 3) (Nat.le_of_ble_eq_true rfl)
  rw [lg_entry_eq]
  generalize (lg_sl ([.ref x0, .int v1]) ++ List.replicate (3 - (lg_sl ([.ref x0, .int v1])).length) Slot.unset).toArray = ls at hl ⊢
  have hl : lv_has ls 3 [(0, .ref x0), (1, .int v1)] := hl
  refine lv_iload_n hx hb dX9_cap_0 rfl (lv_at hl 1 rfl) ?_
  refine lv_iconst (v := 1) hx hb dX9_cap_1 (by decide) ?_
  refine lv_sipush (v := 1000) hx hb dX9_cap_2 (by decide) ?_
  refine q_S (tys := TY cI cS cP) (D := D) ⟨hx, hb, hml, hown, hts⟩ [.int v1, .int (1 : Int32), .int (1000 : Int32)] [] c_X9_within (va_cwS 3 hts gX9_cap_X9_within rfl rfl rfl (by decide +kernel) ⟨Nat.le_of_ble_eq_true rfl, Nat.le_of_ble_eq_true rfl⟩) hK hN rfl hl.1 rfl (Nat.le_of_ble_eq_true rfl) dX9_cap_5 ⟨Nat.zero_le _, Nat.zero_le _⟩ (fun r hw => ?_)
  subst hw
  refine lv_if_ne (tgt := 14) hx hb dX9_cap_8 (by decide) (fun c_8 => ?_) (fun c_8 => ?_)
  ·
    have c_8 := bnz c_8
    obtain ⟨vn, hvna, hvn, rfl⟩ := nat_of1 (lo := 1) (hi := 1000) (a := 1) (n := 1000) (by decide) (by decide) c_8
    refine lv_aload_n hx hb dX9_cap_14 rfl (lv_at hl 0 rfl) ?_
    refine va_get (D := D) (ci := 9) (v := .ref w0) (C := RX9) (T := TX9) (N := 11) hx hb hts iX9 hown hK hP 0 rfl rfl 2 (by decide) (hts (.fieldLink RX9 58 "DeepHole" "well" "LDeepHole$Well;") (by decide +kernel)) (fun _ h9 => h9) rfl dX9_cap_15 ?_
    refine va_get (D := D) (ci := 8) (v := .int (nI cap)) (C := RX8) (T := TX8) (N := 5) hx hb hts iX8 hown hK hP 1 rfl rfl 3 (by decide) (hts (.fieldLink RX9 151 "DeepHole$Well" "cap" "I") (by decide +kernel)) (fun _ h9 => h9) rfl dX9_cap_18 ?_
    refine lv_istore_n (lv' := [(2, .int (nI cap)), (0, .ref x0), (1, .int (nI vn))]) hx hb dX9_cap_21 rfl hl (by decide) rfl (fun ls hl => ?_)
    refine lv_aload_n hx hb dX9_cap_22 rfl (lv_at hl 1 rfl) ?_
    refine va_get (D := D) (ci := 9) (v := .ref w0) (C := RX9) (T := TX9) (N := 11) hx hb hts iX9 hown hK hP 0 rfl rfl 2 (by decide) (hts (.fieldLink RX9 58 "DeepHole" "well" "LDeepHole$Well;") (by decide +kernel)) (fun _ h9 => h9) rfl dX9_cap_23 ?_
    refine lv_iload_n hx hb dX9_cap_26 rfl (lv_at hl 2 rfl) ?_
    refine va_put (D := D) (ci := 8) (v := .int (nI vn)) (ty := .int) (C := RX8) (T := TX8) (N := 5) hx hb hts iX8 tyX8 tyX8_ok nmX8 hown hK hP hD hS 1 rfl rfl 3 (by decide) (hts (.fieldLink RX9 151 "DeepHole$Well" "cap" "I") (by decide +kernel)) (fun _ h9 => h9) rfl (by decide +kernel) rfl rfl (Nat.le_of_ble_eq_true rfl) dX9_cap_27 (fun H locs hP hD hS => ?_)
    have hP : va_P D vwCl [(x0, .inr (9, [.ref sx, .ref g0, .ref w0, .ref k0, .ref la, .ref tr, .ref u0, .ref pt, .ref ap, .ref sp, .int fd])), (w0, .inr (8, [.ref g0, .int (nI d), .int (nI sh), .int (nI vn), .int (nI sw)]))] H := hP
    have hD : va_D A [(x0, .inr (9, [.ref sx, .ref g0, .ref w0, .ref k0, .ref la, .ref tr, .ref u0, .ref pt, .ref ap, .ref sp, .int fd])), (w0, .inr (8, [.ref g0, .int (nI d), .int (nI sh), .int (nI vn), .int (nI sw)]))] := hD
    refine lv_iload_n hx hb dX9_cap_30 rfl (lv_at hl 0 rfl) ?_
    have hP9 := hP.sub (ws' := [(x0, .inr (9, [.ref sx, .ref g0, .ref w0, .ref k0, .ref la, .ref tr, .ref u0, .ref pt, .ref ap, .ref sp, .int fd])), (w0, .inr (8, [.ref g0, .int (nI d), .int (nI sh), .int (nI vn), .int (nI sw)]))]) [0, 1] rfl
    have hD9 := hD.sub (ws' := [(x0, .inr (9, [.ref sx, .ref g0, .ref w0, .ref k0, .ref la, .ref tr, .ref u0, .ref pt, .ref ap, .ref sp, .int fd])), (w0, .inr (8, [.ref g0, .int (nI d), .int (nI sh), .int (nI vn), .int (nI sw)]))]) [0, 1] (by decide) rfl
    exact W.iret (v := nI cap) hx hb hr (fun t ht hW => ⟨⟨_, vn, rfl, (by unfold aCap sCap; rw [if_pos c_8, if_pos c_8, nI_clamp (by omega)]; exact ⟨rfl, rfl⟩), by rw [ht]; exact hP9, hD9⟩, hS.F ht⟩) hS.2.2 dX9_cap_31
  ·
    have c_8 := bz c_8
    refine lv_bipush (v := (-2)) hx hb dX9_cap_11 (by decide) ?_
    have hP9 := hP.sub (ws' := [(x0, .inr (9, [.ref sx, .ref g0, .ref w0, .ref k0, .ref la, .ref tr, .ref u0, .ref pt, .ref ap, .ref sp, .int fd])), (w0, .inr (8, [.ref g0, .int (nI d), .int (nI sh), .int (nI cap), .int (nI sw)]))]) [0, 1] rfl
    have hD9 := hD.sub (ws' := [(x0, .inr (9, [.ref sx, .ref g0, .ref w0, .ref k0, .ref la, .ref tr, .ref u0, .ref pt, .ref ap, .ref sp, .int fd])), (w0, .inr (8, [.ref g0, .int (nI d), .int (nI sh), .int (nI cap), .int (nI sw)]))]) [0, 1] (by decide) rfl
    exact W.iret (v := (-2)) hx hb hr (fun t ht hW => ⟨⟨_, cap, rfl, (by unfold aCap sCap; rw [if_neg c_8, if_neg c_8]; exact ⟨rfl, rfl⟩), by rw [ht]; exact hP9, hD9⟩, hS.F ht⟩) hS.2.2 dX9_cap_13

set_option maxHeartbeats 4000000 in
set_option maxRecDepth 100000 in
theorem c_X9_swab {l : Launch} {D : va_G} {cI cS cP : ClassId} {sz : Nat} {x0 sx g0 w0 k0 la tr u0 pt ap sp : Nat} {fd : Int32} {d sh cap sw : Nat} {v1 : Int32}  : Met l yX9_swab wsX9_swab ({ frames := 1, cells := 0, slots := 0, locals := 22 }) (PC D (TY cI cS cP) [.ref x0, .int v1] sz [(x0, .inr (9, [.ref sx, .ref g0, .ref w0, .ref k0, .ref la, .ref tr, .ref u0, .ref pt, .ref ap, .ref sp, .int fd])), (w0, .inr (8, [.ref g0, .int (nI d), .int (nI sh), .int (nI cap), .int (nI sw)]))]) (QI D (fun (r : Int32) (u : Nat) => (r = aSwab sw v1) ∧ u = sSwab sw v1) (fun (u : Nat) => [(x0, .inr (9, [.ref sx, .ref g0, .ref w0, .ref k0, .ref la, .ref tr, .ref u0, .ref pt, .ref ap, .ref sp, .int fd])), (w0, .inr (8, [.ref g0, .int (nI d), .int (nI sh), .int (nI cap), .int (nI u)]))]) (va_A [(x0, .inr (9, [.ref sx, .ref g0, .ref w0, .ref k0, .ref la, .ref tr, .ref u0, .ref pt, .ref ap, .ref sp, .int fd])), (w0, .inr (8, [.ref g0, .int (nI d), .int (nI sh), .int (nI cap), .int (nI sw)]))] sz)) 0 0 (va_A [(x0, .inr (9, [.ref sx, .ref g0, .ref w0, .ref k0, .ref la, .ref tr, .ref u0, .ref pt, .ref ap, .ref sp, .int fd])), (w0, .inr (8, [.ref g0, .int (nI d), .int (nI sh), .int (nI cap), .int (nI sw)]))] sz) := by
  refine Met.ofW (cc := cX9_swab) (maxL := 3) (ret := (some .int)) (by decide) rfl ?_
  intro p e s m args below meth c s₁ B hml hv
  obtain ⟨rfl, hsz, hP, hK, hD0, hN⟩ := hv
  have hx := B.exec
  have hb := B.bytes
  have hr := B.returns
  have hts := atoms_spec (ws := wsX9_swab) B.pre
  have hown : s.vm.findClass RX9 = some m.cls := findClass_of_methodNamed B.named
  have hlocks := B.notSynchronized
  subst hsz
  have iX8 : ∀ w ∈ u_ws RX8 TX8 5, w ∈ wsX9_swab := by decide +kernel
  have iX9 : ∀ w ∈ u_ws RX9 TX9 11, w ∈ wsX9_swab := by decide +kernel
  have hD := hD0.self (sz := s.heap.size)
  generalize hAe : va_A [(x0, .inr (9, [.ref sx, .ref g0, .ref w0, .ref k0, .ref la, .ref tr, .ref u0, .ref pt, .ref ap, .ref sp, .int fd])), (w0, .inr (8, [.ref g0, .int (nI d), .int (nI sh), .int (nI cap), .int (nI sw)]))] s.heap.size = A at hD ⊢
  have hA : ∀ q : Nat, s.heap.size ≤ q → A q := fun q h => by rw [← hAe]; exact Or.inr h
  have hS : va_S A s.heap s.heap [] := va_S.rf
  have hP : va_P D vwCl [(x0, .inr (9, [.ref sx, .ref g0, .ref w0, .ref k0, .ref la, .ref tr, .ref u0, .ref pt, .ref ap, .ref sp, .int fd])), (w0, .inr (8, [.ref g0, .int (nI d), .int (nI sh), .int (nI cap), .int (nI sw)]))] s.heap := hP
  have hl := lv_entry ([.ref x0, .int v1]) (n := 3) (Nat.le_of_ble_eq_true rfl)
  rw [lg_entry_eq]
  generalize (lg_sl ([.ref x0, .int v1]) ++ List.replicate (3 - (lg_sl ([.ref x0, .int v1])).length) Slot.unset).toArray = ls at hl ⊢
  have hl : lv_has ls 3 [(0, .ref x0), (1, .int v1)] := hl
  refine lv_iload_n hx hb dX9_swab_0 rfl (lv_at hl 1 rfl) ?_
  refine lv_iconst (v := 0) hx hb dX9_swab_1 (by decide) ?_
  refine lv_sipush (v := 1000) hx hb dX9_swab_2 (by decide) ?_
  refine q_S (tys := TY cI cS cP) (D := D) ⟨hx, hb, hml, hown, hts⟩ [.int v1, .int (0 : Int32), .int (1000 : Int32)] [] c_X9_within (va_cwS 3 hts gX9_swab_X9_within rfl rfl rfl (by decide +kernel) ⟨Nat.le_of_ble_eq_true rfl, Nat.le_of_ble_eq_true rfl⟩) hK hN rfl hl.1 rfl (Nat.le_of_ble_eq_true rfl) dX9_swab_5 ⟨Nat.zero_le _, Nat.zero_le _⟩ (fun r hw => ?_)
  subst hw
  refine lv_if_ne (tgt := 14) hx hb dX9_swab_8 (by decide) (fun c_8 => ?_) (fun c_8 => ?_)
  ·
    have c_8 := bnz c_8
    obtain ⟨vn, hvn, rfl⟩ := nat_of (hi := 1000) (n := 1000) (by decide) c_8
    refine lv_aload_n hx hb dX9_swab_14 rfl (lv_at hl 0 rfl) ?_
    refine va_get (D := D) (ci := 9) (v := .ref w0) (C := RX9) (T := TX9) (N := 11) hx hb hts iX9 hown hK hP 0 rfl rfl 2 (by decide) (hts (.fieldLink RX9 58 "DeepHole" "well" "LDeepHole$Well;") (by decide +kernel)) (fun _ h9 => h9) rfl dX9_swab_15 ?_
    refine va_get (D := D) (ci := 8) (v := .int (nI sw)) (C := RX8) (T := TX8) (N := 5) hx hb hts iX8 hown hK hP 1 rfl rfl 4 (by decide) (hts (.fieldLink RX9 186 "DeepHole$Well" "swab" "I") (by decide +kernel)) (fun _ h9 => h9) rfl dX9_swab_18 ?_
    refine lv_istore_n (lv' := [(2, .int (nI sw)), (0, .ref x0), (1, .int (nI vn))]) hx hb dX9_swab_21 rfl hl (by decide) rfl (fun ls hl => ?_)
    refine lv_aload_n hx hb dX9_swab_22 rfl (lv_at hl 1 rfl) ?_
    refine va_get (D := D) (ci := 9) (v := .ref w0) (C := RX9) (T := TX9) (N := 11) hx hb hts iX9 hown hK hP 0 rfl rfl 2 (by decide) (hts (.fieldLink RX9 58 "DeepHole" "well" "LDeepHole$Well;") (by decide +kernel)) (fun _ h9 => h9) rfl dX9_swab_23 ?_
    refine lv_iload_n hx hb dX9_swab_26 rfl (lv_at hl 2 rfl) ?_
    refine va_put (D := D) (ci := 8) (v := .int (nI vn)) (ty := .int) (C := RX8) (T := TX8) (N := 5) hx hb hts iX8 tyX8 tyX8_ok nmX8 hown hK hP hD hS 1 rfl rfl 4 (by decide) (hts (.fieldLink RX9 186 "DeepHole$Well" "swab" "I") (by decide +kernel)) (fun _ h9 => h9) rfl (by decide +kernel) rfl rfl (Nat.le_of_ble_eq_true rfl) dX9_swab_27 (fun H locs hP hD hS => ?_)
    have hP : va_P D vwCl [(x0, .inr (9, [.ref sx, .ref g0, .ref w0, .ref k0, .ref la, .ref tr, .ref u0, .ref pt, .ref ap, .ref sp, .int fd])), (w0, .inr (8, [.ref g0, .int (nI d), .int (nI sh), .int (nI cap), .int (nI vn)]))] H := hP
    have hD : va_D A [(x0, .inr (9, [.ref sx, .ref g0, .ref w0, .ref k0, .ref la, .ref tr, .ref u0, .ref pt, .ref ap, .ref sp, .int fd])), (w0, .inr (8, [.ref g0, .int (nI d), .int (nI sh), .int (nI cap), .int (nI vn)]))] := hD
    refine lv_iload_n hx hb dX9_swab_30 rfl (lv_at hl 0 rfl) ?_
    have hP9 := hP.sub (ws' := [(x0, .inr (9, [.ref sx, .ref g0, .ref w0, .ref k0, .ref la, .ref tr, .ref u0, .ref pt, .ref ap, .ref sp, .int fd])), (w0, .inr (8, [.ref g0, .int (nI d), .int (nI sh), .int (nI cap), .int (nI vn)]))]) [0, 1] rfl
    have hD9 := hD.sub (ws' := [(x0, .inr (9, [.ref sx, .ref g0, .ref w0, .ref k0, .ref la, .ref tr, .ref u0, .ref pt, .ref ap, .ref sp, .int fd])), (w0, .inr (8, [.ref g0, .int (nI d), .int (nI sh), .int (nI cap), .int (nI vn)]))]) [0, 1] (by decide) rfl
    exact W.iret (v := nI sw) hx hb hr (fun t ht hW => ⟨⟨_, vn, rfl, (by unfold aSwab sSwab; rw [if_pos c_8, if_pos c_8, nI_clamp (by omega)]; exact ⟨rfl, rfl⟩), by rw [ht]; exact hP9, hD9⟩, hS.F ht⟩) hS.2.2 dX9_swab_31
  ·
    have c_8 := bz c_8
    refine lv_bipush (v := (-2)) hx hb dX9_swab_11 (by decide) ?_
    have hP9 := hP.sub (ws' := [(x0, .inr (9, [.ref sx, .ref g0, .ref w0, .ref k0, .ref la, .ref tr, .ref u0, .ref pt, .ref ap, .ref sp, .int fd])), (w0, .inr (8, [.ref g0, .int (nI d), .int (nI sh), .int (nI cap), .int (nI sw)]))]) [0, 1] rfl
    have hD9 := hD.sub (ws' := [(x0, .inr (9, [.ref sx, .ref g0, .ref w0, .ref k0, .ref la, .ref tr, .ref u0, .ref pt, .ref ap, .ref sp, .int fd])), (w0, .inr (8, [.ref g0, .int (nI d), .int (nI sh), .int (nI cap), .int (nI sw)]))]) [0, 1] (by decide) rfl
    exact W.iret (v := (-2)) hx hb hr (fun t ht hW => ⟨⟨_, sw, rfl, (by unfold aSwab sSwab; rw [if_neg c_8, if_neg c_8]; exact ⟨rfl, rfl⟩), by rw [ht]; exact hP9, hD9⟩, hS.F ht⟩) hS.2.2 dX9_swab_13

set_option maxHeartbeats 4000000 in
set_option maxRecDepth 100000 in
theorem c_X9_kick {l : Launch} {D : va_G} {cI cS cP : ClassId} {sz : Nat} {x0 sx g0 w0 k0 la tr u0 pt ap sp : Nat} {fd : Int32} {d sh cap sw : Nat} {am wt md : Int32} {x1 x2 x3 x4 x5 : Int64} {v1 w1 m1 : Int32} (hd : d ≤ 50) (hsh : sh ≤ d) (hc1 : 1 ≤ cap) (hc2 : cap ≤ 1000) : Met l yX9_kick wsX9_kick ({ frames := 3, cells := 0, slots := 0, locals := 72 }) (PC D (TY cI cS cP) [.ref x0, .int v1, .int w1, .int m1] sz [(x0, .inr (9, [.ref sx, .ref g0, .ref w0, .ref k0, .ref la, .ref tr, .ref u0, .ref pt, .ref ap, .ref sp, .int fd])), (w0, .inr (8, [.ref g0, .int (nI d), .int (nI sh), .int (nI cap), .int (nI sw)])), (la, .inr (2, [.ref w0, .int am, .int wt, .int md, .long x1, .long x2, .long x3, .long x4, .long x5]))]) (QI D (fun (r : Int32) (u : Int32 × Int32 × Int32 × Int64 × Int64 × Int64 × Int64 × Int64) => (r = aKick d v1 w1 m1) ∧ (u.1, u.2.1, u.2.2.1) = sKick d am wt md v1 w1 m1) (fun (u : Int32 × Int32 × Int32 × Int64 × Int64 × Int64 × Int64 × Int64) => [(x0, .inr (9, [.ref sx, .ref g0, .ref w0, .ref k0, .ref la, .ref tr, .ref u0, .ref pt, .ref ap, .ref sp, .int fd])), (w0, .inr (8, [.ref g0, .int (nI d), .int (nI sh), .int (nI cap), .int (nI sw)])), (la, .inr (2, [.ref w0, .int u.1, .int u.2.1, .int u.2.2.1, .long u.2.2.2.1, .long u.2.2.2.2.1, .long u.2.2.2.2.2.1, .long u.2.2.2.2.2.2.1, .long u.2.2.2.2.2.2.2]))]) (va_A [(x0, .inr (9, [.ref sx, .ref g0, .ref w0, .ref k0, .ref la, .ref tr, .ref u0, .ref pt, .ref ap, .ref sp, .int fd])), (w0, .inr (8, [.ref g0, .int (nI d), .int (nI sh), .int (nI cap), .int (nI sw)])), (la, .inr (2, [.ref w0, .int am, .int wt, .int md, .long x1, .long x2, .long x3, .long x4, .long x5]))] sz)) 0 0 (va_A [(x0, .inr (9, [.ref sx, .ref g0, .ref w0, .ref k0, .ref la, .ref tr, .ref u0, .ref pt, .ref ap, .ref sp, .int fd])), (w0, .inr (8, [.ref g0, .int (nI d), .int (nI sh), .int (nI cap), .int (nI sw)])), (la, .inr (2, [.ref w0, .int am, .int wt, .int md, .long x1, .long x2, .long x3, .long x4, .long x5]))] sz) := by
  refine Met.ofW (cc := cX9_kick) (maxL := 4) (ret := (some .int)) (by decide) rfl ?_
  intro p e s m args below meth c s₁ B hml hv
  obtain ⟨rfl, hsz, hP, hK, hD0, hN⟩ := hv
  have hx := B.exec
  have hb := B.bytes
  have hr := B.returns
  have hts := atoms_spec (ws := wsX9_kick) B.pre
  have hown : s.vm.findClass RX9 = some m.cls := findClass_of_methodNamed B.named
  have hlocks := B.notSynchronized
  subst hsz
  have iX8 : ∀ w ∈ u_ws RX8 TX8 5, w ∈ wsX9_kick := by decide +kernel
  have iX9 : ∀ w ∈ u_ws RX9 TX9 11, w ∈ wsX9_kick := by decide +kernel
  have hD := hD0.self (sz := s.heap.size)
  generalize hAe : va_A [(x0, .inr (9, [.ref sx, .ref g0, .ref w0, .ref k0, .ref la, .ref tr, .ref u0, .ref pt, .ref ap, .ref sp, .int fd])), (w0, .inr (8, [.ref g0, .int (nI d), .int (nI sh), .int (nI cap), .int (nI sw)])), (la, .inr (2, [.ref w0, .int am, .int wt, .int md, .long x1, .long x2, .long x3, .long x4, .long x5]))] s.heap.size = A at hD ⊢
  have hA : ∀ q : Nat, s.heap.size ≤ q → A q := fun q h => by rw [← hAe]; exact Or.inr h
  have hS : va_S A s.heap s.heap [] := va_S.rf
  have hP : va_P D vwCl [(x0, .inr (9, [.ref sx, .ref g0, .ref w0, .ref k0, .ref la, .ref tr, .ref u0, .ref pt, .ref ap, .ref sp, .int fd])), (w0, .inr (8, [.ref g0, .int (nI d), .int (nI sh), .int (nI cap), .int (nI sw)])), (la, .inr (2, [.ref w0, .int am, .int wt, .int md, .long x1, .long x2, .long x3, .long x4, .long x5]))] s.heap := hP
  have hl := lv_entry ([.ref x0, .int v1, .int w1, .int m1]) (n := 4) (Nat.le_of_ble_eq_true rfl)
  rw [lg_entry_eq]
  generalize (lg_sl ([.ref x0, .int v1, .int w1, .int m1]) ++ List.replicate (4 - (lg_sl ([.ref x0, .int v1, .int w1, .int m1])).length) Slot.unset).toArray = ls at hl ⊢
  have hl : lv_has ls 4 [(0, .ref x0), (1, .int v1), (2, .int w1), (3, .int m1)] := hl
  refine lv_iload_n hx hb dX9_kick_0 rfl (lv_at hl 1 rfl) ?_
  refine lv_iconst (v := 1) hx hb dX9_kick_1 (by decide) ?_
  refine lv_sipush (v := 1000) hx hb dX9_kick_2 (by decide) ?_
  refine q_S (tys := TY cI cS cP) (D := D) ⟨hx, hb, hml, hown, hts⟩ [.int v1, .int (1 : Int32), .int (1000 : Int32)] [] c_X9_within (va_cwS 3 hts gX9_kick_X9_within rfl rfl rfl (by decide +kernel) ⟨Nat.le_of_ble_eq_true rfl, Nat.le_of_ble_eq_true rfl⟩) hK hN rfl hl.1 rfl (Nat.le_of_ble_eq_true rfl) dX9_kick_5 ⟨Nat.zero_le _, Nat.zero_le _⟩ (fun r hw => ?_)
  subst hw
  refine lv_if_eq (tgt := 25) hx hb dX9_kick_8 (by decide) (fun c_8 => ?_) (fun c_8 => ?_)
  ·
    have c_8 := bz c_8
    refine lv_bipush (v := (-2)) hx hb dX9_kick_25 (by decide) ?_
    have hP9 := hP.sub (ws' := [(x0, .inr (9, [.ref sx, .ref g0, .ref w0, .ref k0, .ref la, .ref tr, .ref u0, .ref pt, .ref ap, .ref sp, .int fd])), (w0, .inr (8, [.ref g0, .int (nI d), .int (nI sh), .int (nI cap), .int (nI sw)])), (la, .inr (2, [.ref w0, .int am, .int wt, .int md, .long x1, .long x2, .long x3, .long x4, .long x5]))]) [0, 1, 2] rfl
    have hD9 := hD.sub (ws' := [(x0, .inr (9, [.ref sx, .ref g0, .ref w0, .ref k0, .ref la, .ref tr, .ref u0, .ref pt, .ref ap, .ref sp, .int fd])), (w0, .inr (8, [.ref g0, .int (nI d), .int (nI sh), .int (nI cap), .int (nI sw)])), (la, .inr (2, [.ref w0, .int am, .int wt, .int md, .long x1, .long x2, .long x3, .long x4, .long x5]))]) [0, 1, 2] (by decide) rfl
    exact W.iret (v := (-2)) hx hb hr (fun t ht hW => ⟨⟨_, (am, wt, md, x1, x2, x3, x4, x5), rfl, (by unfold aKick sKick; first | rw [if_neg (fun h => c_8 h.1), if_neg (fun h => c_8 h.1.1)]; exact ⟨rfl, rfl⟩ | rw [if_neg (fun h => c_15 h.2.1), if_neg (fun h => c_15 h.1.2.1)]; exact ⟨rfl, rfl⟩ | rw [if_neg (fun h => c_22 h.2.2), if_neg (fun h => c_22 h.1.2.2)]; exact ⟨rfl, rfl⟩), by rw [ht]; exact hP9, hD9⟩, hS.F ht⟩) hS.2.2 dX9_kick_27
  ·
    have c_8 := bnz c_8
    refine lv_iload_n hx hb dX9_kick_11 rfl (lv_at hl 2 rfl) ?_
    refine q_S (tys := TY cI cS cP) (D := D) ⟨hx, hb, hml, hown, hts⟩ [.int w1] [] c_X9_isWeight (va_cwS 1 hts gX9_kick_X9_isWeight rfl rfl rfl (by decide +kernel) ⟨Nat.le_of_ble_eq_true rfl, Nat.le_of_ble_eq_true rfl⟩) hK hN rfl hl.1 rfl (Nat.le_of_ble_eq_true rfl) dX9_kick_12 ⟨Nat.zero_le _, Nat.zero_le _⟩ (fun r hw => ?_)
    subst hw
    refine lv_if_eq (tgt := 25) hx hb dX9_kick_15 (by decide) (fun c_15 => ?_) (fun c_15 => ?_)
    ·
      have c_15 := bz c_15
      refine lv_bipush (v := (-2)) hx hb dX9_kick_25 (by decide) ?_
      have hP9 := hP.sub (ws' := [(x0, .inr (9, [.ref sx, .ref g0, .ref w0, .ref k0, .ref la, .ref tr, .ref u0, .ref pt, .ref ap, .ref sp, .int fd])), (w0, .inr (8, [.ref g0, .int (nI d), .int (nI sh), .int (nI cap), .int (nI sw)])), (la, .inr (2, [.ref w0, .int am, .int wt, .int md, .long x1, .long x2, .long x3, .long x4, .long x5]))]) [0, 1, 2] rfl
      have hD9 := hD.sub (ws' := [(x0, .inr (9, [.ref sx, .ref g0, .ref w0, .ref k0, .ref la, .ref tr, .ref u0, .ref pt, .ref ap, .ref sp, .int fd])), (w0, .inr (8, [.ref g0, .int (nI d), .int (nI sh), .int (nI cap), .int (nI sw)])), (la, .inr (2, [.ref w0, .int am, .int wt, .int md, .long x1, .long x2, .long x3, .long x4, .long x5]))]) [0, 1, 2] (by decide) rfl
      exact W.iret (v := (-2)) hx hb hr (fun t ht hW => ⟨⟨_, (am, wt, md, x1, x2, x3, x4, x5), rfl, (by unfold aKick sKick; first | rw [if_neg (fun h => c_8 h.1), if_neg (fun h => c_8 h.1.1)]; exact ⟨rfl, rfl⟩ | rw [if_neg (fun h => c_15 h.2.1), if_neg (fun h => c_15 h.1.2.1)]; exact ⟨rfl, rfl⟩ | rw [if_neg (fun h => c_22 h.2.2), if_neg (fun h => c_22 h.1.2.2)]; exact ⟨rfl, rfl⟩), by rw [ht]; exact hP9, hD9⟩, hS.F ht⟩) hS.2.2 dX9_kick_27
    ·
      have c_15 := bnz c_15
      refine lv_iload_n hx hb dX9_kick_18 rfl (lv_at hl 3 rfl) ?_
      refine q_S (tys := TY cI cS cP) (D := D) ⟨hx, hb, hml, hown, hts⟩ [.int m1] [] c_X9_isMud (va_cwS 1 hts gX9_kick_X9_isMud rfl rfl rfl (by decide +kernel) ⟨Nat.le_of_ble_eq_true rfl, Nat.le_of_ble_eq_true rfl⟩) hK hN rfl hl.1 rfl (Nat.le_of_ble_eq_true rfl) dX9_kick_19 ⟨Nat.zero_le _, Nat.zero_le _⟩ (fun r hw => ?_)
      subst hw
      refine lv_if_ne (tgt := 28) hx hb dX9_kick_22 (by decide) (fun c_22 => ?_) (fun c_22 => ?_)
      ·
        have c_22 := bnz c_22
        refine lv_aload_n hx hb dX9_kick_28 rfl (lv_at hl 0 rfl) ?_
        refine va_get (D := D) (ci := 9) (v := .ref w0) (C := RX9) (T := TX9) (N := 11) hx hb hts iX9 hown hK hP 0 rfl rfl 2 (by decide) (hts (.fieldLink RX9 58 "DeepHole" "well" "LDeepHole$Well;") (by decide +kernel)) (fun _ h9 => h9) rfl dX9_kick_29 ?_
        refine va_get (D := D) (ci := 8) (v := .int (nI d)) (C := RX8) (T := TX8) (N := 5) hx hb hts iX8 hown hK hP 1 rfl rfl 1 (by decide) (hts (.fieldLink RX9 85 "DeepHole$Well" "depth" "I") (by decide +kernel)) (fun _ h9 => h9) rfl dX9_kick_32 ?_
        refine lv_if_ne (tgt := 41) hx hb dX9_kick_35 (by decide) (fun c_35 => ?_) (fun c_35 => ?_)
        ·
          have c_35 := n_ne (a := d) (b := 0) c_35 (by omega) (by omega)
          refine lv_aload_n hx hb dX9_kick_41 rfl (lv_at hl 0 rfl) ?_
          refine va_get (D := D) (ci := 9) (v := .ref la) (C := RX9) (T := TX9) (N := 11) hx hb hts iX9 hown hK hP 0 rfl rfl 4 (by decide) (hts (.fieldLink RX9 74 "DeepHole" "latest" "LDeepHole$Gas;") (by decide +kernel)) (fun _ h9 => h9) rfl dX9_kick_42 ?_
          refine lv_iload_n hx hb dX9_kick_45 rfl (lv_at hl 1 rfl) ?_
          refine lv_iload_n hx hb dX9_kick_46 rfl (lv_at hl 2 rfl) ?_
          refine lv_iload_n hx hb dX9_kick_47 rfl (lv_at hl 3 rfl) ?_
          refine w_Vv (wc := [(la, .inr (2, [.ref w0, .int am, .int wt, .int md, .long x1, .long x2, .long x3, .long x4, .long x5]))]) (wr := [(x0, .inr (9, [.ref sx, .ref g0, .ref w0, .ref k0, .ref la, .ref tr, .ref u0, .ref pt, .ref ap, .ref sp, .int fd])), (w0, .inr (8, [.ref g0, .int (nI d), .int (nI sh), .int (nI cap), .int (nI sw)]))]) (b := la) ⟨hx, hb, hml, hown, hts⟩ [.int v1, .int w1, .int m1] [] c_X2_comeIn (cwV 3 hts gX9_kick_X2_comeIn rfl rfl rfl (by decide +kernel) ⟨Nat.le_of_ble_eq_true rfl, Nat.le_of_ble_eq_true rfl⟩) hK hN hP hD hS hA [2] [0, 1] rfl (by decide) rfl (by decide) (by decide) (ci := 2) rfl rfl rfl rfl hl.1 rfl (Nat.le_of_ble_eq_true rfl) dX9_kick_48 ⟨Nat.zero_le _, Nat.zero_le _⟩ (fun u H locs hw hP hD hS => ?_)
          have hP : va_P D vwCl [(x0, .inr (9, [.ref sx, .ref g0, .ref w0, .ref k0, .ref la, .ref tr, .ref u0, .ref pt, .ref ap, .ref sp, .int fd])), (w0, .inr (8, [.ref g0, .int (nI d), .int (nI sh), .int (nI cap), .int (nI sw)])), (la, .inr (2, [.ref w0, .int v1, .int w1, .int m1, .long x1, .long x2, .long x3, .long x4, .long x5]))] H := hP
          have hD : va_D A [(x0, .inr (9, [.ref sx, .ref g0, .ref w0, .ref k0, .ref la, .ref tr, .ref u0, .ref pt, .ref ap, .ref sp, .int fd])), (w0, .inr (8, [.ref g0, .int (nI d), .int (nI sh), .int (nI cap), .int (nI sw)])), (la, .inr (2, [.ref w0, .int v1, .int w1, .int m1, .long x1, .long x2, .long x3, .long x4, .long x5]))] := hD
          refine lv_aload_n hx hb dX9_kick_51 rfl (lv_at hl 0 rfl) ?_
          refine va_get (D := D) (ci := 9) (v := .ref la) (C := RX9) (T := TX9) (N := 11) hx hb hts iX9 hown hK hP 0 rfl rfl 4 (by decide) (hts (.fieldLink RX9 74 "DeepHole" "latest" "LDeepHole$Gas;") (by decide +kernel)) (fun _ h9 => h9) rfl dX9_kick_52 ?_
          refine w_V (wc := [(la, .inr (2, [.ref w0, .int v1, .int w1, .int m1, .long x1, .long x2, .long x3, .long x4, .long x5])), (w0, .inr (8, [.ref g0, .int (nI d), .int (nI sh), .int (nI cap), .int (nI sw)]))]) (wr := [(x0, .inr (9, [.ref sx, .ref g0, .ref w0, .ref k0, .ref la, .ref tr, .ref u0, .ref pt, .ref ap, .ref sp, .int fd]))]) (b := la) ⟨hx, hb, hml, hown, hts⟩ [] [] (c_X2_whereGreatest  (by first | assumption | omega) (by first | assumption | omega) (by first | assumption | omega) (by first | assumption | omega)) (cwV 0 hts gX9_kick_X2_whereGreatest rfl rfl rfl (by decide +kernel) ⟨Nat.le_of_ble_eq_true rfl, Nat.le_of_ble_eq_true rfl⟩) hK hN hP hD hS hA [2, 1] [0] rfl (by decide) rfl (by decide) (by decide) (ci := 2) rfl rfl rfl rfl hl.1 rfl (Nat.le_of_ble_eq_true rfl) dX9_kick_55 ⟨Nat.zero_le _, Nat.zero_le _⟩ (fun r u H locs hw hP hD hS => ?_)
          obtain ⟨u_1, u_2, u_3, u_4, u_5⟩ := u
          try dsimp only at hw
          have hP : va_P D vwCl [(x0, .inr (9, [.ref sx, .ref g0, .ref w0, .ref k0, .ref la, .ref tr, .ref u0, .ref pt, .ref ap, .ref sp, .int fd])), (la, .inr (2, [.ref w0, .int v1, .int w1, .int m1, .long u_1, .long u_2, .long u_3, .long u_4, .long u_5])), (w0, .inr (8, [.ref g0, .int (nI d), .int (nI sh), .int (nI cap), .int (nI sw)]))] H := hP
          have hD : va_D A [(x0, .inr (9, [.ref sx, .ref g0, .ref w0, .ref k0, .ref la, .ref tr, .ref u0, .ref pt, .ref ap, .ref sp, .int fd])), (la, .inr (2, [.ref w0, .int v1, .int w1, .int m1, .long u_1, .long u_2, .long u_3, .long u_4, .long u_5])), (w0, .inr (8, [.ref g0, .int (nI d), .int (nI sh), .int (nI cap), .int (nI sw)]))] := hD
          subst hw
          have hP9 := hP.sub (ws' := [(x0, .inr (9, [.ref sx, .ref g0, .ref w0, .ref k0, .ref la, .ref tr, .ref u0, .ref pt, .ref ap, .ref sp, .int fd])), (w0, .inr (8, [.ref g0, .int (nI d), .int (nI sh), .int (nI cap), .int (nI sw)])), (la, .inr (2, [.ref w0, .int v1, .int w1, .int m1, .long u_1, .long u_2, .long u_3, .long u_4, .long u_5]))]) [0, 2, 1] rfl
          have hD9 := hD.sub (ws' := [(x0, .inr (9, [.ref sx, .ref g0, .ref w0, .ref k0, .ref la, .ref tr, .ref u0, .ref pt, .ref ap, .ref sp, .int fd])), (w0, .inr (8, [.ref g0, .int (nI d), .int (nI sh), .int (nI cap), .int (nI sw)])), (la, .inr (2, [.ref w0, .int v1, .int w1, .int m1, .long u_1, .long u_2, .long u_3, .long u_4, .long u_5]))]) [0, 2, 1] (by decide) rfl
          exact W.iret (v := nI (wg (fun k => gV v1 w1 m1 d k) (d + 1) (-1) 0)) hx hb hr (fun t ht hW => ⟨⟨_, (v1, w1, m1, u_1, u_2, u_3, u_4, u_5), rfl, (by unfold aKick sKick; rw [if_pos ⟨c_8, c_15, c_22⟩, if_neg c_35, if_pos ⟨⟨c_8, c_15, c_22⟩, c_35⟩]; exact ⟨rfl, rfl⟩), by rw [ht]; exact hP9, hD9⟩, hS.F ht⟩) hS.2.2 dX9_kick_58
        ·
          have c_35 := n_eq (a := d) (b := 0) c_35 (by omega) (by omega)
          refine lv_bipush (v := (-3)) hx hb dX9_kick_38 (by decide) ?_
          have hP9 := hP.sub (ws' := [(x0, .inr (9, [.ref sx, .ref g0, .ref w0, .ref k0, .ref la, .ref tr, .ref u0, .ref pt, .ref ap, .ref sp, .int fd])), (w0, .inr (8, [.ref g0, .int (nI d), .int (nI sh), .int (nI cap), .int (nI sw)])), (la, .inr (2, [.ref w0, .int am, .int wt, .int md, .long x1, .long x2, .long x3, .long x4, .long x5]))]) [0, 1, 2] rfl
          have hD9 := hD.sub (ws' := [(x0, .inr (9, [.ref sx, .ref g0, .ref w0, .ref k0, .ref la, .ref tr, .ref u0, .ref pt, .ref ap, .ref sp, .int fd])), (w0, .inr (8, [.ref g0, .int (nI d), .int (nI sh), .int (nI cap), .int (nI sw)])), (la, .inr (2, [.ref w0, .int am, .int wt, .int md, .long x1, .long x2, .long x3, .long x4, .long x5]))]) [0, 1, 2] (by decide) rfl
          exact W.iret (v := (-3)) hx hb hr (fun t ht hW => ⟨⟨_, (am, wt, md, x1, x2, x3, x4, x5), rfl, (by unfold aKick sKick; rw [if_pos ⟨c_8, c_15, c_22⟩, if_pos c_35, if_neg (fun h => h.2 c_35)]; exact ⟨rfl, rfl⟩), by rw [ht]; exact hP9, hD9⟩, hS.F ht⟩) hS.2.2 dX9_kick_40
      ·
        have c_22 := bz c_22
        refine lv_bipush (v := (-2)) hx hb dX9_kick_25 (by decide) ?_
        have hP9 := hP.sub (ws' := [(x0, .inr (9, [.ref sx, .ref g0, .ref w0, .ref k0, .ref la, .ref tr, .ref u0, .ref pt, .ref ap, .ref sp, .int fd])), (w0, .inr (8, [.ref g0, .int (nI d), .int (nI sh), .int (nI cap), .int (nI sw)])), (la, .inr (2, [.ref w0, .int am, .int wt, .int md, .long x1, .long x2, .long x3, .long x4, .long x5]))]) [0, 1, 2] rfl
        have hD9 := hD.sub (ws' := [(x0, .inr (9, [.ref sx, .ref g0, .ref w0, .ref k0, .ref la, .ref tr, .ref u0, .ref pt, .ref ap, .ref sp, .int fd])), (w0, .inr (8, [.ref g0, .int (nI d), .int (nI sh), .int (nI cap), .int (nI sw)])), (la, .inr (2, [.ref w0, .int am, .int wt, .int md, .long x1, .long x2, .long x3, .long x4, .long x5]))]) [0, 1, 2] (by decide) rfl
        exact W.iret (v := (-2)) hx hb hr (fun t ht hW => ⟨⟨_, (am, wt, md, x1, x2, x3, x4, x5), rfl, (by unfold aKick sKick; first | rw [if_neg (fun h => c_8 h.1), if_neg (fun h => c_8 h.1.1)]; exact ⟨rfl, rfl⟩ | rw [if_neg (fun h => c_15 h.2.1), if_neg (fun h => c_15 h.1.2.1)]; exact ⟨rfl, rfl⟩ | rw [if_neg (fun h => c_22 h.2.2), if_neg (fun h => c_22 h.1.2.2)]; exact ⟨rfl, rfl⟩), by rw [ht]; exact hP9, hD9⟩, hS.F ht⟩) hS.2.2 dX9_kick_27

set_option maxHeartbeats 4000000 in
set_option maxRecDepth 100000 in
theorem c_X9_gas {l : Launch} {D : va_G} {cI cS cP : ClassId} {sz : Nat} {x0 sx g0 w0 k0 la tr u0 pt ap sp : Nat} {fd : Int32} {d sh cap sw : Nat} {am wt md : Int32} {x1 x2 x3 x4 x5 : Int64} {s0 s1 a1 n1 low high : Nat} {lo1 fo1 : Int32} {it1 : Nat → Int32} {p1 wh_ : Int32} (hd : d ≤ 50) (hsh : sh ≤ d) (hc1 : 1 ≤ cap) (hc2 : cap ≤ 1000) (hn1 : n1 ≤ 60) : Met l yX9_gas wsX9_gas ({ frames := 5, cells := 0, slots := 0, locals := 108 }) (PC D (TY cI cS cP) [.ref x0, .int p1, .int wh_] sz [(x0, .inr (9, [.ref sx, .ref g0, .ref w0, .ref k0, .ref la, .ref tr, .ref u0, .ref pt, .ref ap, .ref sp, .int fd])), (w0, .inr (8, [.ref g0, .int (nI d), .int (nI sh), .int (nI cap), .int (nI sw)])), (la, .inr (2, [.ref w0, .int am, .int wt, .int md, .long x1, .long x2, .long x3, .long x4, .long x5])), (g0, .inr (3, [.ref s0, .ref s1, .int (nI low), .int (nI high)])), (s1, .inr (6, [.ref a1, .int lo1, .int fo1, .int (nI n1)])), (a1, .inl (cI, 60, .inl it1))]) (QL D (fun (r : Int64) (u : Int64 × Int64 × Int64 × Int64 × Int64) => r = aGas am wt md d cap sh (strg it1 n1 sh) p1 wh_) (fun (u : Int64 × Int64 × Int64 × Int64 × Int64) => [(x0, .inr (9, [.ref sx, .ref g0, .ref w0, .ref k0, .ref la, .ref tr, .ref u0, .ref pt, .ref ap, .ref sp, .int fd])), (w0, .inr (8, [.ref g0, .int (nI d), .int (nI sh), .int (nI cap), .int (nI sw)])), (la, .inr (2, [.ref w0, .int am, .int wt, .int md, .long u.1, .long u.2.1, .long u.2.2.1, .long u.2.2.2.1, .long u.2.2.2.2])), (g0, .inr (3, [.ref s0, .ref s1, .int (nI low), .int (nI high)])), (s1, .inr (6, [.ref a1, .int lo1, .int fo1, .int (nI n1)])), (a1, .inl (cI, 60, .inl it1))]) (va_A [(x0, .inr (9, [.ref sx, .ref g0, .ref w0, .ref k0, .ref la, .ref tr, .ref u0, .ref pt, .ref ap, .ref sp, .int fd])), (w0, .inr (8, [.ref g0, .int (nI d), .int (nI sh), .int (nI cap), .int (nI sw)])), (la, .inr (2, [.ref w0, .int am, .int wt, .int md, .long x1, .long x2, .long x3, .long x4, .long x5])), (g0, .inr (3, [.ref s0, .ref s1, .int (nI low), .int (nI high)])), (s1, .inr (6, [.ref a1, .int lo1, .int fo1, .int (nI n1)])), (a1, .inl (cI, 60, .inl it1))] sz)) 0 0 (va_A [(x0, .inr (9, [.ref sx, .ref g0, .ref w0, .ref k0, .ref la, .ref tr, .ref u0, .ref pt, .ref ap, .ref sp, .int fd])), (w0, .inr (8, [.ref g0, .int (nI d), .int (nI sh), .int (nI cap), .int (nI sw)])), (la, .inr (2, [.ref w0, .int am, .int wt, .int md, .long x1, .long x2, .long x3, .long x4, .long x5])), (g0, .inr (3, [.ref s0, .ref s1, .int (nI low), .int (nI high)])), (s1, .inr (6, [.ref a1, .int lo1, .int fo1, .int (nI n1)])), (a1, .inl (cI, 60, .inl it1))] sz) := by
  refine Met.ofW (cc := cX9_gas) (maxL := 3) (ret := (some .long)) (by decide) rfl ?_
  intro p e s m args below meth c s₁ B hml hv
  obtain ⟨rfl, hsz, hP, hK, hD0, hN⟩ := hv
  have hx := B.exec
  have hb := B.bytes
  have hr := B.returns
  have hts := atoms_spec (ws := wsX9_gas) B.pre
  have hown : s.vm.findClass RX9 = some m.cls := findClass_of_methodNamed B.named
  have hlocks := B.notSynchronized
  subst hsz
  have iX8 : ∀ w ∈ u_ws RX8 TX8 5, w ∈ wsX9_gas := by decide +kernel
  have iX9 : ∀ w ∈ u_ws RX9 TX9 11, w ∈ wsX9_gas := by decide +kernel
  have hD := hD0.self (sz := s.heap.size)
  generalize hAe : va_A [(x0, .inr (9, [.ref sx, .ref g0, .ref w0, .ref k0, .ref la, .ref tr, .ref u0, .ref pt, .ref ap, .ref sp, .int fd])), (w0, .inr (8, [.ref g0, .int (nI d), .int (nI sh), .int (nI cap), .int (nI sw)])), (la, .inr (2, [.ref w0, .int am, .int wt, .int md, .long x1, .long x2, .long x3, .long x4, .long x5])), (g0, .inr (3, [.ref s0, .ref s1, .int (nI low), .int (nI high)])), (s1, .inr (6, [.ref a1, .int lo1, .int fo1, .int (nI n1)])), (a1, .inl (cI, 60, .inl it1))] s.heap.size = A at hD ⊢
  have hA : ∀ q : Nat, s.heap.size ≤ q → A q := fun q h => by rw [← hAe]; exact Or.inr h
  have hS : va_S A s.heap s.heap [] := va_S.rf
  have hP : va_P D vwCl [(x0, .inr (9, [.ref sx, .ref g0, .ref w0, .ref k0, .ref la, .ref tr, .ref u0, .ref pt, .ref ap, .ref sp, .int fd])), (w0, .inr (8, [.ref g0, .int (nI d), .int (nI sh), .int (nI cap), .int (nI sw)])), (la, .inr (2, [.ref w0, .int am, .int wt, .int md, .long x1, .long x2, .long x3, .long x4, .long x5])), (g0, .inr (3, [.ref s0, .ref s1, .int (nI low), .int (nI high)])), (s1, .inr (6, [.ref a1, .int lo1, .int fo1, .int (nI n1)])), (a1, .inl (cI, 60, .inl it1))] s.heap := hP
  have hl := lv_entry ([.ref x0, .int p1, .int wh_]) (n := 3) (Nat.le_of_ble_eq_true rfl)
  rw [lg_entry_eq]
  generalize (lg_sl ([.ref x0, .int p1, .int wh_]) ++ List.replicate (3 - (lg_sl ([.ref x0, .int p1, .int wh_])).length) Slot.unset).toArray = ls at hl ⊢
  have hl : lv_has ls 3 [(0, .ref x0), (1, .int p1), (2, .int wh_)] := hl
  refine lv_iload_n hx hb dX9_gas_0 rfl (lv_at hl 1 rfl) ?_
  refine lv_iconst (v := 0) hx hb dX9_gas_1 (by decide) ?_
  refine lv_aload_n hx hb dX9_gas_2 rfl (lv_at hl 0 rfl) ?_
  refine va_get (D := D) (ci := 9) (v := .ref w0) (C := RX9) (T := TX9) (N := 11) hx hb hts iX9 hown hK hP 0 rfl rfl 2 (by decide) (hts (.fieldLink RX9 58 "DeepHole" "well" "LDeepHole$Well;") (by decide +kernel)) (fun _ h9 => h9) rfl dX9_gas_3 ?_
  refine va_get (D := D) (ci := 8) (v := .int (nI d)) (C := RX8) (T := TX8) (N := 5) hx hb hts iX8 hown hK hP 1 rfl rfl 1 (by decide) (hts (.fieldLink RX9 85 "DeepHole$Well" "depth" "I") (by decide +kernel)) (fun _ h9 => h9) rfl dX9_gas_6 ?_
  refine q_S (tys := TY cI cS cP) (D := D) ⟨hx, hb, hml, hown, hts⟩ [.int p1, .int (0 : Int32), .int (nI d)] [] c_X9_within (va_cwS 3 hts gX9_gas_X9_within rfl rfl rfl (by decide +kernel) ⟨Nat.le_of_ble_eq_true rfl, Nat.le_of_ble_eq_true rfl⟩) hK hN rfl hl.1 rfl (Nat.le_of_ble_eq_true rfl) dX9_gas_9 ⟨Nat.zero_le _, Nat.zero_le _⟩ (fun r hw => ?_)
  subst hw
  refine lv_if_eq (tgt := 24) hx hb dX9_gas_12 (by decide) (fun c_12 => ?_) (fun c_12 => ?_)
  ·
    have c_12 := bz c_12
    refine lv_bipush (v := (-2)) hx hb dX9_gas_24 (by decide) ?_
    refine q_Sl (tys := TY cI cS cP) (D := D) ⟨hx, hb, hml, hown, hts⟩ [.int (-2 : Int32)] [] c_X9_refusal (va_cwS 1 hts gX9_gas_X9_refusal rfl rfl rfl (by decide +kernel) ⟨Nat.le_of_ble_eq_true rfl, Nat.le_of_ble_eq_true rfl⟩) hK hN rfl hl.1 rfl (Nat.le_of_ble_eq_true rfl) dX9_gas_26 ⟨Nat.zero_le _, Nat.zero_le _⟩ (fun r hw => ?_)
    subst hw
    have hP9 := hP.sub (ws' := [(x0, .inr (9, [.ref sx, .ref g0, .ref w0, .ref k0, .ref la, .ref tr, .ref u0, .ref pt, .ref ap, .ref sp, .int fd])), (w0, .inr (8, [.ref g0, .int (nI d), .int (nI sh), .int (nI cap), .int (nI sw)])), (la, .inr (2, [.ref w0, .int am, .int wt, .int md, .long x1, .long x2, .long x3, .long x4, .long x5])), (g0, .inr (3, [.ref s0, .ref s1, .int (nI low), .int (nI high)])), (s1, .inr (6, [.ref a1, .int lo1, .int fo1, .int (nI n1)])), (a1, .inl (cI, 60, .inl it1))]) [0, 1, 2, 3, 4, 5] rfl
    have hD9 := hD.sub (ws' := [(x0, .inr (9, [.ref sx, .ref g0, .ref w0, .ref k0, .ref la, .ref tr, .ref u0, .ref pt, .ref ap, .ref sp, .int fd])), (w0, .inr (8, [.ref g0, .int (nI d), .int (nI sh), .int (nI cap), .int (nI sw)])), (la, .inr (2, [.ref w0, .int am, .int wt, .int md, .long x1, .long x2, .long x3, .long x4, .long x5])), (g0, .inr (3, [.ref s0, .ref s1, .int (nI low), .int (nI high)])), (s1, .inr (6, [.ref a1, .int lo1, .int fo1, .int (nI n1)])), (a1, .inl (cI, 60, .inl it1))]) [0, 1, 2, 3, 4, 5] (by decide) rfl
    exact W.lret (v := (-9223372036854775808) - (-2 : Int32).toInt64) hx hb hr (fun t ht hW => ⟨⟨_, (x1, x2, x3, x4, x5), rfl, (by unfold aGas; first | rw [if_neg (fun h => c_12 h.1)] | rw [if_neg (fun h => c_21 h.2)]), by rw [ht]; exact hP9, hD9⟩, hS.F ht⟩) hS.2.2 dX9_gas_29
  ·
    have c_12 := bnz c_12
    refine lv_iload_n hx hb dX9_gas_15 rfl (lv_at hl 2 rfl) ?_
    refine lv_iconst (v := 0) hx hb dX9_gas_16 (by decide) ?_
    refine lv_iconst (v := 5) hx hb dX9_gas_17 (by decide) ?_
    refine q_S (tys := TY cI cS cP) (D := D) ⟨hx, hb, hml, hown, hts⟩ [.int wh_, .int (0 : Int32), .int (5 : Int32)] [] c_X9_within (va_cwS 3 hts gX9_gas_X9_within rfl rfl rfl (by decide +kernel) ⟨Nat.le_of_ble_eq_true rfl, Nat.le_of_ble_eq_true rfl⟩) hK hN rfl hl.1 rfl (Nat.le_of_ble_eq_true rfl) dX9_gas_18 ⟨Nat.zero_le _, Nat.zero_le _⟩ (fun r hw => ?_)
    subst hw
    refine lv_if_ne (tgt := 30) hx hb dX9_gas_21 (by decide) (fun c_21 => ?_) (fun c_21 => ?_)
    ·
      have c_21 := bnz c_21
      obtain ⟨pp, hpp, rfl⟩ := nat_of (hi := nI d) (n := d) (nI_toInt (by omega)) c_12
      refine lv_aload_n hx hb dX9_gas_30 rfl (lv_at hl 0 rfl) ?_
      refine va_get (D := D) (ci := 9) (v := .ref la) (C := RX9) (T := TX9) (N := 11) hx hb hts iX9 hown hK hP 0 rfl rfl 4 (by decide) (hts (.fieldLink RX9 74 "DeepHole" "latest" "LDeepHole$Gas;") (by decide +kernel)) (fun _ h9 => h9) rfl dX9_gas_31 ?_
      refine q_V (wc := [(la, .inr (2, [.ref w0, .int am, .int wt, .int md, .long x1, .long x2, .long x3, .long x4, .long x5]))]) (b := la) ⟨hx, hb, hml, hown, hts⟩ [] [] c_X2_cameIn (cwV 0 hts gX9_gas_X2_cameIn rfl rfl rfl (by decide +kernel) ⟨Nat.le_of_ble_eq_true rfl, Nat.le_of_ble_eq_true rfl⟩) hK hN hP hD [2] rfl (by decide) (ci := 2) rfl rfl rfl rfl hl.1 rfl (Nat.le_of_ble_eq_true rfl) dX9_gas_34 ⟨Nat.zero_le _, Nat.zero_le _⟩ (fun r hw => ?_)
      subst hw
      refine lv_if_eq (tgt := 52) hx hb dX9_gas_37 (by decide) (fun c_37 => ?_) (fun c_37 => ?_)
      ·
        have c_37 := bz c_37
        refine lv_bipush (v := (-3)) hx hb dX9_gas_52 (by decide) ?_
        refine q_Sl (tys := TY cI cS cP) (D := D) ⟨hx, hb, hml, hown, hts⟩ [.int (-3 : Int32)] [] c_X9_refusal (va_cwS 1 hts gX9_gas_X9_refusal rfl rfl rfl (by decide +kernel) ⟨Nat.le_of_ble_eq_true rfl, Nat.le_of_ble_eq_true rfl⟩) hK hN rfl hl.1 rfl (Nat.le_of_ble_eq_true rfl) dX9_gas_54 ⟨Nat.zero_le _, Nat.zero_le _⟩ (fun r hw => ?_)
        subst hw
        have hP9 := hP.sub (ws' := [(x0, .inr (9, [.ref sx, .ref g0, .ref w0, .ref k0, .ref la, .ref tr, .ref u0, .ref pt, .ref ap, .ref sp, .int fd])), (w0, .inr (8, [.ref g0, .int (nI d), .int (nI sh), .int (nI cap), .int (nI sw)])), (la, .inr (2, [.ref w0, .int am, .int wt, .int md, .long x1, .long x2, .long x3, .long x4, .long x5])), (g0, .inr (3, [.ref s0, .ref s1, .int (nI low), .int (nI high)])), (s1, .inr (6, [.ref a1, .int lo1, .int fo1, .int (nI n1)])), (a1, .inl (cI, 60, .inl it1))]) [0, 1, 2, 3, 4, 5] rfl
        have hD9 := hD.sub (ws' := [(x0, .inr (9, [.ref sx, .ref g0, .ref w0, .ref k0, .ref la, .ref tr, .ref u0, .ref pt, .ref ap, .ref sp, .int fd])), (w0, .inr (8, [.ref g0, .int (nI d), .int (nI sh), .int (nI cap), .int (nI sw)])), (la, .inr (2, [.ref w0, .int am, .int wt, .int md, .long x1, .long x2, .long x3, .long x4, .long x5])), (g0, .inr (3, [.ref s0, .ref s1, .int (nI low), .int (nI high)])), (s1, .inr (6, [.ref a1, .int lo1, .int fo1, .int (nI n1)])), (a1, .inl (cI, 60, .inl it1))]) [0, 1, 2, 3, 4, 5] (by decide) rfl
        exact W.lret (v := (-9223372036854775808) - (-3 : Int32).toInt64) hx hb hr (fun t ht hW => ⟨⟨_, (x1, x2, x3, x4, x5), rfl, (by unfold aGas; rw [if_pos ⟨c_12, c_21⟩, if_neg c_37]), by rw [ht]; exact hP9, hD9⟩, hS.F ht⟩) hS.2.2 dX9_gas_57
      ·
        have c_37 := bnz c_37
        refine lv_aload_n hx hb dX9_gas_40 rfl (lv_at hl 0 rfl) ?_
        refine va_get (D := D) (ci := 9) (v := .ref la) (C := RX9) (T := TX9) (N := 11) hx hb hts iX9 hown hK hP 0 rfl rfl 4 (by decide) (hts (.fieldLink RX9 74 "DeepHole" "latest" "LDeepHole$Gas;") (by decide +kernel)) (fun _ h9 => h9) rfl dX9_gas_41 ?_
        refine lv_iload_n hx hb dX9_gas_44 rfl (lv_at hl 1 rfl) ?_
        refine lv_iload_n hx hb dX9_gas_45 rfl (lv_at hl 2 rfl) ?_
        refine w_Vl (wc := [(la, .inr (2, [.ref w0, .int am, .int wt, .int md, .long x1, .long x2, .long x3, .long x4, .long x5])), (w0, .inr (8, [.ref g0, .int (nI d), .int (nI sh), .int (nI cap), .int (nI sw)])), (g0, .inr (3, [.ref s0, .ref s1, .int (nI low), .int (nI high)])), (s1, .inr (6, [.ref a1, .int lo1, .int fo1, .int (nI n1)])), (a1, .inl (cI, 60, .inl it1))]) (wr := [(x0, .inr (9, [.ref sx, .ref g0, .ref w0, .ref k0, .ref la, .ref tr, .ref u0, .ref pt, .ref ap, .ref sp, .int fd]))]) (b := la) ⟨hx, hb, hml, hown, hts⟩ [.int (nI pp), .int wh_] [] (c_X2_measure  (by first | assumption | omega) (by first | assumption | omega) (by first | assumption | omega) (by first | assumption | omega) (by first | assumption | omega) (by first | assumption | omega)) (cwV 2 hts gX9_gas_X2_measure rfl rfl rfl (by decide +kernel) ⟨Nat.le_of_ble_eq_true rfl, Nat.le_of_ble_eq_true rfl⟩) hK hN hP hD hS hA [2, 1, 3, 4, 5] [0] rfl (by decide) rfl (by decide) (by decide) (ci := 2) rfl rfl rfl rfl hl.1 rfl (Nat.le_of_ble_eq_true rfl) dX9_gas_46 ⟨Nat.zero_le _, Nat.zero_le _⟩ (fun r u H locs hw hP hD hS => ?_)
        have hP : va_P D vwCl [(x0, .inr (9, [.ref sx, .ref g0, .ref w0, .ref k0, .ref la, .ref tr, .ref u0, .ref pt, .ref ap, .ref sp, .int fd])), (la, .inr (2, [.ref w0, .int am, .int wt, .int md, .long (gG wt md d pp), .long (gV am wt md d pp), .long (gH am wt md d cap pp), .long (gC am wt md d cap pp), .long (gA am wt md d cap sh pp)])), (w0, .inr (8, [.ref g0, .int (nI d), .int (nI sh), .int (nI cap), .int (nI sw)])), (g0, .inr (3, [.ref s0, .ref s1, .int (nI low), .int (nI high)])), (s1, .inr (6, [.ref a1, .int lo1, .int fo1, .int (nI n1)])), (a1, .inl (cI, 60, .inl it1))] H := hP
        have hD : va_D A [(x0, .inr (9, [.ref sx, .ref g0, .ref w0, .ref k0, .ref la, .ref tr, .ref u0, .ref pt, .ref ap, .ref sp, .int fd])), (la, .inr (2, [.ref w0, .int am, .int wt, .int md, .long (gG wt md d pp), .long (gV am wt md d pp), .long (gH am wt md d cap pp), .long (gC am wt md d cap pp), .long (gA am wt md d cap sh pp)])), (w0, .inr (8, [.ref g0, .int (nI d), .int (nI sh), .int (nI cap), .int (nI sw)])), (g0, .inr (3, [.ref s0, .ref s1, .int (nI low), .int (nI high)])), (s1, .inr (6, [.ref a1, .int lo1, .int fo1, .int (nI n1)])), (a1, .inl (cI, 60, .inl it1))] := hD
        subst hw
        refine lv_goto (tgt := 57) hx hb dX9_gas_49 (by decide) ?_
        have hP9 := hP.sub (ws' := [(x0, .inr (9, [.ref sx, .ref g0, .ref w0, .ref k0, .ref la, .ref tr, .ref u0, .ref pt, .ref ap, .ref sp, .int fd])), (w0, .inr (8, [.ref g0, .int (nI d), .int (nI sh), .int (nI cap), .int (nI sw)])), (la, .inr (2, [.ref w0, .int am, .int wt, .int md, .long (gG wt md d pp), .long (gV am wt md d pp), .long (gH am wt md d cap pp), .long (gC am wt md d cap pp), .long (gA am wt md d cap sh pp)])), (g0, .inr (3, [.ref s0, .ref s1, .int (nI low), .int (nI high)])), (s1, .inr (6, [.ref a1, .int lo1, .int fo1, .int (nI n1)])), (a1, .inl (cI, 60, .inl it1))]) [0, 2, 1, 3, 4, 5] rfl
        have hD9 := hD.sub (ws' := [(x0, .inr (9, [.ref sx, .ref g0, .ref w0, .ref k0, .ref la, .ref tr, .ref u0, .ref pt, .ref ap, .ref sp, .int fd])), (w0, .inr (8, [.ref g0, .int (nI d), .int (nI sh), .int (nI cap), .int (nI sw)])), (la, .inr (2, [.ref w0, .int am, .int wt, .int md, .long (gG wt md d pp), .long (gV am wt md d pp), .long (gH am wt md d cap pp), .long (gC am wt md d cap pp), .long (gA am wt md d cap sh pp)])), (g0, .inr (3, [.ref s0, .ref s1, .int (nI low), .int (nI high)])), (s1, .inr (6, [.ref a1, .int lo1, .int fo1, .int (nI n1)])), (a1, .inl (cI, 60, .inl it1))]) [0, 2, 1, 3, 4, 5] (by decide) rfl
        exact W.lret (v := gM am wt md d cap sh (strg it1 n1 sh) pp wh_) hx hb hr (fun t ht hW => ⟨⟨_, (gG wt md d pp, gV am wt md d pp, gH am wt md d cap pp, gC am wt md d cap pp, gA am wt md d cap sh pp), rfl, (by unfold aGas; rw [if_pos ⟨c_12, c_21⟩, if_pos c_37, nI_clamp (by omega)]), by rw [ht]; exact hP9, hD9⟩, hS.F ht⟩) hS.2.2 dX9_gas_57
    ·
      have c_21 := bz c_21
      refine lv_bipush (v := (-2)) hx hb dX9_gas_24 (by decide) ?_
      refine q_Sl (tys := TY cI cS cP) (D := D) ⟨hx, hb, hml, hown, hts⟩ [.int (-2 : Int32)] [] c_X9_refusal (va_cwS 1 hts gX9_gas_X9_refusal rfl rfl rfl (by decide +kernel) ⟨Nat.le_of_ble_eq_true rfl, Nat.le_of_ble_eq_true rfl⟩) hK hN rfl hl.1 rfl (Nat.le_of_ble_eq_true rfl) dX9_gas_26 ⟨Nat.zero_le _, Nat.zero_le _⟩ (fun r hw => ?_)
      subst hw
      have hP9 := hP.sub (ws' := [(x0, .inr (9, [.ref sx, .ref g0, .ref w0, .ref k0, .ref la, .ref tr, .ref u0, .ref pt, .ref ap, .ref sp, .int fd])), (w0, .inr (8, [.ref g0, .int (nI d), .int (nI sh), .int (nI cap), .int (nI sw)])), (la, .inr (2, [.ref w0, .int am, .int wt, .int md, .long x1, .long x2, .long x3, .long x4, .long x5])), (g0, .inr (3, [.ref s0, .ref s1, .int (nI low), .int (nI high)])), (s1, .inr (6, [.ref a1, .int lo1, .int fo1, .int (nI n1)])), (a1, .inl (cI, 60, .inl it1))]) [0, 1, 2, 3, 4, 5] rfl
      have hD9 := hD.sub (ws' := [(x0, .inr (9, [.ref sx, .ref g0, .ref w0, .ref k0, .ref la, .ref tr, .ref u0, .ref pt, .ref ap, .ref sp, .int fd])), (w0, .inr (8, [.ref g0, .int (nI d), .int (nI sh), .int (nI cap), .int (nI sw)])), (la, .inr (2, [.ref w0, .int am, .int wt, .int md, .long x1, .long x2, .long x3, .long x4, .long x5])), (g0, .inr (3, [.ref s0, .ref s1, .int (nI low), .int (nI high)])), (s1, .inr (6, [.ref a1, .int lo1, .int fo1, .int (nI n1)])), (a1, .inl (cI, 60, .inl it1))]) [0, 1, 2, 3, 4, 5] (by decide) rfl
      exact W.lret (v := (-9223372036854775808) - (-2 : Int32).toInt64) hx hb hr (fun t ht hW => ⟨⟨_, (x1, x2, x3, x4, x5), rfl, (by unfold aGas; first | rw [if_neg (fun h => c_12 h.1)] | rw [if_neg (fun h => c_21 h.2)]), by rw [ht]; exact hP9, hD9⟩, hS.F ht⟩) hS.2.2 dX9_gas_29

set_option maxHeartbeats 4000000 in
set_option maxRecDepth 100000 in
theorem c_X9_broken {l : Launch} {D : va_G} {cI cS cP : ClassId} {sz : Nat} {x0 sx g0 w0 k0 la tr u0 pt ap sp : Nat} {fd : Int32} {d sh cap sw : Nat} {am wt md : Int32} {x1 x2 x3 x4 x5 : Int64} {s0 s1 a1 n1 low high : Nat} {lo1 fo1 : Int32} {it1 : Nat → Int32} (hd : d ≤ 50) (hsh : sh ≤ d) (hc1 : 1 ≤ cap) (hc2 : cap ≤ 1000) (hn1 : n1 ≤ 60) : Met l yX9_broken wsX9_broken ({ frames := 4, cells := 0, slots := 0, locals := 94 }) (PC D (TY cI cS cP) [.ref x0] sz [(x0, .inr (9, [.ref sx, .ref g0, .ref w0, .ref k0, .ref la, .ref tr, .ref u0, .ref pt, .ref ap, .ref sp, .int fd])), (w0, .inr (8, [.ref g0, .int (nI d), .int (nI sh), .int (nI cap), .int (nI sw)])), (la, .inr (2, [.ref w0, .int am, .int wt, .int md, .long x1, .long x2, .long x3, .long x4, .long x5])), (g0, .inr (3, [.ref s0, .ref s1, .int (nI low), .int (nI high)])), (s1, .inr (6, [.ref a1, .int lo1, .int fo1, .int (nI n1)])), (a1, .inl (cI, 60, .inl it1))]) (QI D (fun (r : Int32) (u : Int64 × Int64 × Int64 × Int64 × Int64) => r = aBroken am wt md d cap sh (strg it1 n1 sh)) (fun (u : Int64 × Int64 × Int64 × Int64 × Int64) => [(x0, .inr (9, [.ref sx, .ref g0, .ref w0, .ref k0, .ref la, .ref tr, .ref u0, .ref pt, .ref ap, .ref sp, .int fd])), (w0, .inr (8, [.ref g0, .int (nI d), .int (nI sh), .int (nI cap), .int (nI sw)])), (la, .inr (2, [.ref w0, .int am, .int wt, .int md, .long u.1, .long u.2.1, .long u.2.2.1, .long u.2.2.2.1, .long u.2.2.2.2])), (g0, .inr (3, [.ref s0, .ref s1, .int (nI low), .int (nI high)])), (s1, .inr (6, [.ref a1, .int lo1, .int fo1, .int (nI n1)])), (a1, .inl (cI, 60, .inl it1))]) (va_A [(x0, .inr (9, [.ref sx, .ref g0, .ref w0, .ref k0, .ref la, .ref tr, .ref u0, .ref pt, .ref ap, .ref sp, .int fd])), (w0, .inr (8, [.ref g0, .int (nI d), .int (nI sh), .int (nI cap), .int (nI sw)])), (la, .inr (2, [.ref w0, .int am, .int wt, .int md, .long x1, .long x2, .long x3, .long x4, .long x5])), (g0, .inr (3, [.ref s0, .ref s1, .int (nI low), .int (nI high)])), (s1, .inr (6, [.ref a1, .int lo1, .int fo1, .int (nI n1)])), (a1, .inl (cI, 60, .inl it1))] sz)) 0 0 (va_A [(x0, .inr (9, [.ref sx, .ref g0, .ref w0, .ref k0, .ref la, .ref tr, .ref u0, .ref pt, .ref ap, .ref sp, .int fd])), (w0, .inr (8, [.ref g0, .int (nI d), .int (nI sh), .int (nI cap), .int (nI sw)])), (la, .inr (2, [.ref w0, .int am, .int wt, .int md, .long x1, .long x2, .long x3, .long x4, .long x5])), (g0, .inr (3, [.ref s0, .ref s1, .int (nI low), .int (nI high)])), (s1, .inr (6, [.ref a1, .int lo1, .int fo1, .int (nI n1)])), (a1, .inl (cI, 60, .inl it1))] sz) := by
  refine Met.ofW (cc := cX9_broken) (maxL := 1) (ret := (some .int)) (by decide) rfl ?_
  intro p e s m args below meth c s₁ B hml hv
  obtain ⟨rfl, hsz, hP, hK, hD0, hN⟩ := hv
  have hx := B.exec
  have hb := B.bytes
  have hr := B.returns
  have hts := atoms_spec (ws := wsX9_broken) B.pre
  have hown : s.vm.findClass RX9 = some m.cls := findClass_of_methodNamed B.named
  have hlocks := B.notSynchronized
  subst hsz
  have iX9 : ∀ w ∈ u_ws RX9 TX9 11, w ∈ wsX9_broken := by decide +kernel
  have hD := hD0.self (sz := s.heap.size)
  generalize hAe : va_A [(x0, .inr (9, [.ref sx, .ref g0, .ref w0, .ref k0, .ref la, .ref tr, .ref u0, .ref pt, .ref ap, .ref sp, .int fd])), (w0, .inr (8, [.ref g0, .int (nI d), .int (nI sh), .int (nI cap), .int (nI sw)])), (la, .inr (2, [.ref w0, .int am, .int wt, .int md, .long x1, .long x2, .long x3, .long x4, .long x5])), (g0, .inr (3, [.ref s0, .ref s1, .int (nI low), .int (nI high)])), (s1, .inr (6, [.ref a1, .int lo1, .int fo1, .int (nI n1)])), (a1, .inl (cI, 60, .inl it1))] s.heap.size = A at hD ⊢
  have hA : ∀ q : Nat, s.heap.size ≤ q → A q := fun q h => by rw [← hAe]; exact Or.inr h
  have hS : va_S A s.heap s.heap [] := va_S.rf
  have hP : va_P D vwCl [(x0, .inr (9, [.ref sx, .ref g0, .ref w0, .ref k0, .ref la, .ref tr, .ref u0, .ref pt, .ref ap, .ref sp, .int fd])), (w0, .inr (8, [.ref g0, .int (nI d), .int (nI sh), .int (nI cap), .int (nI sw)])), (la, .inr (2, [.ref w0, .int am, .int wt, .int md, .long x1, .long x2, .long x3, .long x4, .long x5])), (g0, .inr (3, [.ref s0, .ref s1, .int (nI low), .int (nI high)])), (s1, .inr (6, [.ref a1, .int lo1, .int fo1, .int (nI n1)])), (a1, .inl (cI, 60, .inl it1))] s.heap := hP
  have hl := lv_entry ([.ref x0]) (n := 1) (Nat.le_of_ble_eq_true rfl)
  rw [lg_entry_eq]
  generalize (lg_sl ([.ref x0]) ++ List.replicate (1 - (lg_sl ([.ref x0])).length) Slot.unset).toArray = ls at hl ⊢
  have hl : lv_has ls 1 [(0, .ref x0)] := hl
  refine lv_aload_n hx hb dX9_broken_0 rfl (lv_at hl 0 rfl) ?_
  refine va_get (D := D) (ci := 9) (v := .ref la) (C := RX9) (T := TX9) (N := 11) hx hb hts iX9 hown hK hP 0 rfl rfl 4 (by decide) (hts (.fieldLink RX9 74 "DeepHole" "latest" "LDeepHole$Gas;") (by decide +kernel)) (fun _ h9 => h9) rfl dX9_broken_1 ?_
  refine q_V (wc := [(la, .inr (2, [.ref w0, .int am, .int wt, .int md, .long x1, .long x2, .long x3, .long x4, .long x5]))]) (b := la) ⟨hx, hb, hml, hown, hts⟩ [] [] c_X2_cameIn (cwV 0 hts gX9_broken_X2_cameIn rfl rfl rfl (by decide +kernel) ⟨Nat.le_of_ble_eq_true rfl, Nat.le_of_ble_eq_true rfl⟩) hK hN hP hD [2] rfl (by decide) (ci := 2) rfl rfl rfl rfl hl.1 rfl (Nat.le_of_ble_eq_true rfl) dX9_broken_4 ⟨Nat.zero_le _, Nat.zero_le _⟩ (fun r hw => ?_)
  subst hw
  refine lv_if_eq (tgt := 27) hx hb dX9_broken_7 (by decide) (fun c_7 => ?_) (fun c_7 => ?_)
  ·
    have c_7 := bz c_7
    refine lv_bipush (v := (-3)) hx hb dX9_broken_27 (by decide) ?_
    have hP9 := hP.sub (ws' := [(x0, .inr (9, [.ref sx, .ref g0, .ref w0, .ref k0, .ref la, .ref tr, .ref u0, .ref pt, .ref ap, .ref sp, .int fd])), (w0, .inr (8, [.ref g0, .int (nI d), .int (nI sh), .int (nI cap), .int (nI sw)])), (la, .inr (2, [.ref w0, .int am, .int wt, .int md, .long x1, .long x2, .long x3, .long x4, .long x5])), (g0, .inr (3, [.ref s0, .ref s1, .int (nI low), .int (nI high)])), (s1, .inr (6, [.ref a1, .int lo1, .int fo1, .int (nI n1)])), (a1, .inl (cI, 60, .inl it1))]) [0, 1, 2, 3, 4, 5] rfl
    have hD9 := hD.sub (ws' := [(x0, .inr (9, [.ref sx, .ref g0, .ref w0, .ref k0, .ref la, .ref tr, .ref u0, .ref pt, .ref ap, .ref sp, .int fd])), (w0, .inr (8, [.ref g0, .int (nI d), .int (nI sh), .int (nI cap), .int (nI sw)])), (la, .inr (2, [.ref w0, .int am, .int wt, .int md, .long x1, .long x2, .long x3, .long x4, .long x5])), (g0, .inr (3, [.ref s0, .ref s1, .int (nI low), .int (nI high)])), (s1, .inr (6, [.ref a1, .int lo1, .int fo1, .int (nI n1)])), (a1, .inl (cI, 60, .inl it1))]) [0, 1, 2, 3, 4, 5] (by decide) rfl
    exact W.iret (v := (-3)) hx hb hr (fun t ht hW => ⟨⟨_, (x1, x2, x3, x4, x5), rfl, (by unfold aBroken; rw [if_neg c_7]), by rw [ht]; exact hP9, hD9⟩, hS.F ht⟩) hS.2.2 dX9_broken_29
  ·
    have c_7 := bnz c_7
    refine lv_aload_n hx hb dX9_broken_10 rfl (lv_at hl 0 rfl) ?_
    refine va_get (D := D) (ci := 9) (v := .ref la) (C := RX9) (T := TX9) (N := 11) hx hb hts iX9 hown hK hP 0 rfl rfl 4 (by decide) (hts (.fieldLink RX9 74 "DeepHole" "latest" "LDeepHole$Gas;") (by decide +kernel)) (fun _ h9 => h9) rfl dX9_broken_11 ?_
    refine lv_aload_n hx hb dX9_broken_14 rfl (lv_at hl 0 rfl) ?_
    refine va_get (D := D) (ci := 9) (v := .ref w0) (C := RX9) (T := TX9) (N := 11) hx hb hts iX9 hown hK hP 0 rfl rfl 2 (by decide) (hts (.fieldLink RX9 58 "DeepHole" "well" "LDeepHole$Well;") (by decide +kernel)) (fun _ h9 => h9) rfl dX9_broken_15 ?_
    refine q_Vl (wc := [(w0, .inr (8, [.ref g0, .int (nI d), .int (nI sh), .int (nI cap), .int (nI sw)])), (g0, .inr (3, [.ref s0, .ref s1, .int (nI low), .int (nI high)])), (s1, .inr (6, [.ref a1, .int lo1, .int fo1, .int (nI n1)])), (a1, .inl (cI, 60, .inl it1))]) (b := w0) ⟨hx, hb, hml, hown, hts⟩ [] [.ref la] (c_X8_strength  (by first | assumption | omega) (by first | assumption | omega)) (cwV 0 hts gX9_broken_X8_strength rfl rfl rfl (by decide +kernel) ⟨Nat.le_of_ble_eq_true rfl, Nat.le_of_ble_eq_true rfl⟩) hK hN hP hD [1, 3, 4, 5] rfl (by decide) (ci := 8) rfl rfl rfl rfl hl.1 rfl (Nat.le_of_ble_eq_true rfl) dX9_broken_18 ⟨Nat.zero_le _, Nat.zero_le _⟩ (fun r hw => ?_)
    subst hw
    refine w_V (wc := [(la, .inr (2, [.ref w0, .int am, .int wt, .int md, .long x1, .long x2, .long x3, .long x4, .long x5])), (w0, .inr (8, [.ref g0, .int (nI d), .int (nI sh), .int (nI cap), .int (nI sw)]))]) (wr := [(x0, .inr (9, [.ref sx, .ref g0, .ref w0, .ref k0, .ref la, .ref tr, .ref u0, .ref pt, .ref ap, .ref sp, .int fd])), (g0, .inr (3, [.ref s0, .ref s1, .int (nI low), .int (nI high)])), (s1, .inr (6, [.ref a1, .int lo1, .int fo1, .int (nI n1)])), (a1, .inl (cI, 60, .inl it1))]) (b := la) ⟨hx, hb, hml, hown, hts⟩ [.long (strg it1 n1 sh)] [] (c_X2_whereBroken  (by first | assumption | omega) (by first | assumption | omega) (by first | assumption | omega) (by first | assumption | omega)) (cwV 1 hts gX9_broken_X2_whereBroken rfl rfl rfl (by decide +kernel) ⟨Nat.le_of_ble_eq_true rfl, Nat.le_of_ble_eq_true rfl⟩) hK hN hP hD hS hA [2, 1] [0, 3, 4, 5] rfl (by decide) rfl (by decide) (by decide) (ci := 2) rfl rfl rfl rfl hl.1 rfl (Nat.le_of_ble_eq_true rfl) dX9_broken_21 ⟨Nat.zero_le _, Nat.zero_le _⟩ (fun r u H locs hw hP hD hS => ?_)
    obtain ⟨u_1, u_2, u_3, u_4, u_5⟩ := u
    try dsimp only at hw
    have hP : va_P D vwCl [(x0, .inr (9, [.ref sx, .ref g0, .ref w0, .ref k0, .ref la, .ref tr, .ref u0, .ref pt, .ref ap, .ref sp, .int fd])), (g0, .inr (3, [.ref s0, .ref s1, .int (nI low), .int (nI high)])), (s1, .inr (6, [.ref a1, .int lo1, .int fo1, .int (nI n1)])), (a1, .inl (cI, 60, .inl it1)), (la, .inr (2, [.ref w0, .int am, .int wt, .int md, .long u_1, .long u_2, .long u_3, .long u_4, .long u_5])), (w0, .inr (8, [.ref g0, .int (nI d), .int (nI sh), .int (nI cap), .int (nI sw)]))] H := hP
    have hD : va_D A [(x0, .inr (9, [.ref sx, .ref g0, .ref w0, .ref k0, .ref la, .ref tr, .ref u0, .ref pt, .ref ap, .ref sp, .int fd])), (g0, .inr (3, [.ref s0, .ref s1, .int (nI low), .int (nI high)])), (s1, .inr (6, [.ref a1, .int lo1, .int fo1, .int (nI n1)])), (a1, .inl (cI, 60, .inl it1)), (la, .inr (2, [.ref w0, .int am, .int wt, .int md, .long u_1, .long u_2, .long u_3, .long u_4, .long u_5])), (w0, .inr (8, [.ref g0, .int (nI d), .int (nI sh), .int (nI cap), .int (nI sw)]))] := hD
    subst hw
    refine lv_goto (tgt := 29) hx hb dX9_broken_24 (by decide) ?_
    have hP9 := hP.sub (ws' := [(x0, .inr (9, [.ref sx, .ref g0, .ref w0, .ref k0, .ref la, .ref tr, .ref u0, .ref pt, .ref ap, .ref sp, .int fd])), (w0, .inr (8, [.ref g0, .int (nI d), .int (nI sh), .int (nI cap), .int (nI sw)])), (la, .inr (2, [.ref w0, .int am, .int wt, .int md, .long u_1, .long u_2, .long u_3, .long u_4, .long u_5])), (g0, .inr (3, [.ref s0, .ref s1, .int (nI low), .int (nI high)])), (s1, .inr (6, [.ref a1, .int lo1, .int fo1, .int (nI n1)])), (a1, .inl (cI, 60, .inl it1))]) [0, 5, 4, 1, 2, 3] rfl
    have hD9 := hD.sub (ws' := [(x0, .inr (9, [.ref sx, .ref g0, .ref w0, .ref k0, .ref la, .ref tr, .ref u0, .ref pt, .ref ap, .ref sp, .int fd])), (w0, .inr (8, [.ref g0, .int (nI d), .int (nI sh), .int (nI cap), .int (nI sw)])), (la, .inr (2, [.ref w0, .int am, .int wt, .int md, .long u_1, .long u_2, .long u_3, .long u_4, .long u_5])), (g0, .inr (3, [.ref s0, .ref s1, .int (nI low), .int (nI high)])), (s1, .inr (6, [.ref a1, .int lo1, .int fo1, .int (nI n1)])), (a1, .inl (cI, 60, .inl it1))]) [0, 5, 4, 1, 2, 3] (by decide) rfl
    exact W.iret (v := wb (fun k => decide ((strg it1 n1 sh) < gA am wt md d cap sh k)) (d + 1)) hx hb hr (fun t ht hW => ⟨⟨_, (u_1, u_2, u_3, u_4, u_5), rfl, (by unfold aBroken; rw [if_pos c_7]), by rw [ht]; exact hP9, hD9⟩, hS.F ht⟩) hS.2.2 dX9_broken_29

set_option maxHeartbeats 4000000 in
set_option maxRecDepth 100000 in
theorem c_X9_bears {l : Launch} {D : va_G} {cI cS cP : ClassId} {sz : Nat} {x0 sx g0 w0 k0 la tr u0 pt ap sp : Nat} {fd : Int32} {d sh cap sw : Nat} {am wt md : Int32} {x1 x2 x3 x4 x5 : Int64} {s0 s1 a1 n1 low high : Nat} {lo1 fo1 : Int32} {it1 : Nat → Int32} {w1 m1 : Int32} (hd : d ≤ 50) (hsh : sh ≤ d) (hc1 : 1 ≤ cap) (hc2 : cap ≤ 1000) (hn1 : n1 ≤ 60) : Met l yX9_bears wsX9_bears ({ frames := 5, cells := 0, slots := 0, locals := 121 }) (PC D (TY cI cS cP) [.ref x0, .int w1, .int m1] sz [(x0, .inr (9, [.ref sx, .ref g0, .ref w0, .ref k0, .ref la, .ref tr, .ref u0, .ref pt, .ref ap, .ref sp, .int fd])), (w0, .inr (8, [.ref g0, .int (nI d), .int (nI sh), .int (nI cap), .int (nI sw)])), (tr, .inr (2, [.ref w0, .int am, .int wt, .int md, .long x1, .long x2, .long x3, .long x4, .long x5])), (g0, .inr (3, [.ref s0, .ref s1, .int (nI low), .int (nI high)])), (s1, .inr (6, [.ref a1, .int lo1, .int fo1, .int (nI n1)])), (a1, .inl (cI, 60, .inl it1))]) (QI D (fun (r : Int32) (u : Int32 × Int32 × Int32 × Int64 × Int64 × Int64 × Int64 × Int64) => r = aBears d cap sh (strg it1 n1 sh) w1 m1) (fun (u : Int32 × Int32 × Int32 × Int64 × Int64 × Int64 × Int64 × Int64) => [(x0, .inr (9, [.ref sx, .ref g0, .ref w0, .ref k0, .ref la, .ref tr, .ref u0, .ref pt, .ref ap, .ref sp, .int fd])), (w0, .inr (8, [.ref g0, .int (nI d), .int (nI sh), .int (nI cap), .int (nI sw)])), (tr, .inr (2, [.ref w0, .int u.1, .int u.2.1, .int u.2.2.1, .long u.2.2.2.1, .long u.2.2.2.2.1, .long u.2.2.2.2.2.1, .long u.2.2.2.2.2.2.1, .long u.2.2.2.2.2.2.2])), (g0, .inr (3, [.ref s0, .ref s1, .int (nI low), .int (nI high)])), (s1, .inr (6, [.ref a1, .int lo1, .int fo1, .int (nI n1)])), (a1, .inl (cI, 60, .inl it1))]) (va_A [(x0, .inr (9, [.ref sx, .ref g0, .ref w0, .ref k0, .ref la, .ref tr, .ref u0, .ref pt, .ref ap, .ref sp, .int fd])), (w0, .inr (8, [.ref g0, .int (nI d), .int (nI sh), .int (nI cap), .int (nI sw)])), (tr, .inr (2, [.ref w0, .int am, .int wt, .int md, .long x1, .long x2, .long x3, .long x4, .long x5])), (g0, .inr (3, [.ref s0, .ref s1, .int (nI low), .int (nI high)])), (s1, .inr (6, [.ref a1, .int lo1, .int fo1, .int (nI n1)])), (a1, .inl (cI, 60, .inl it1))] sz)) 0 0 (va_A [(x0, .inr (9, [.ref sx, .ref g0, .ref w0, .ref k0, .ref la, .ref tr, .ref u0, .ref pt, .ref ap, .ref sp, .int fd])), (w0, .inr (8, [.ref g0, .int (nI d), .int (nI sh), .int (nI cap), .int (nI sw)])), (tr, .inr (2, [.ref w0, .int am, .int wt, .int md, .long x1, .long x2, .long x3, .long x4, .long x5])), (g0, .inr (3, [.ref s0, .ref s1, .int (nI low), .int (nI high)])), (s1, .inr (6, [.ref a1, .int lo1, .int fo1, .int (nI n1)])), (a1, .inl (cI, 60, .inl it1))] sz) := by
  refine Met.ofW (cc := cX9_bears) (maxL := 3) (ret := (some .int)) (by decide) rfl ?_
  intro p e s m args below meth c s₁ B hml hv
  obtain ⟨rfl, hsz, hP, hK, hD0, hN⟩ := hv
  have hx := B.exec
  have hb := B.bytes
  have hr := B.returns
  have hts := atoms_spec (ws := wsX9_bears) B.pre
  have hown : s.vm.findClass RX9 = some m.cls := findClass_of_methodNamed B.named
  have hlocks := B.notSynchronized
  subst hsz
  have iX8 : ∀ w ∈ u_ws RX8 TX8 5, w ∈ wsX9_bears := by decide +kernel
  have iX9 : ∀ w ∈ u_ws RX9 TX9 11, w ∈ wsX9_bears := by decide +kernel
  have hD := hD0.self (sz := s.heap.size)
  generalize hAe : va_A [(x0, .inr (9, [.ref sx, .ref g0, .ref w0, .ref k0, .ref la, .ref tr, .ref u0, .ref pt, .ref ap, .ref sp, .int fd])), (w0, .inr (8, [.ref g0, .int (nI d), .int (nI sh), .int (nI cap), .int (nI sw)])), (tr, .inr (2, [.ref w0, .int am, .int wt, .int md, .long x1, .long x2, .long x3, .long x4, .long x5])), (g0, .inr (3, [.ref s0, .ref s1, .int (nI low), .int (nI high)])), (s1, .inr (6, [.ref a1, .int lo1, .int fo1, .int (nI n1)])), (a1, .inl (cI, 60, .inl it1))] s.heap.size = A at hD ⊢
  have hA : ∀ q : Nat, s.heap.size ≤ q → A q := fun q h => by rw [← hAe]; exact Or.inr h
  have hS : va_S A s.heap s.heap [] := va_S.rf
  have hP : va_P D vwCl [(x0, .inr (9, [.ref sx, .ref g0, .ref w0, .ref k0, .ref la, .ref tr, .ref u0, .ref pt, .ref ap, .ref sp, .int fd])), (w0, .inr (8, [.ref g0, .int (nI d), .int (nI sh), .int (nI cap), .int (nI sw)])), (tr, .inr (2, [.ref w0, .int am, .int wt, .int md, .long x1, .long x2, .long x3, .long x4, .long x5])), (g0, .inr (3, [.ref s0, .ref s1, .int (nI low), .int (nI high)])), (s1, .inr (6, [.ref a1, .int lo1, .int fo1, .int (nI n1)])), (a1, .inl (cI, 60, .inl it1))] s.heap := hP
  have hl := lv_entry ([.ref x0, .int w1, .int m1]) (n := 3) (Nat.le_of_ble_eq_true rfl)
  rw [lg_entry_eq]
  generalize (lg_sl ([.ref x0, .int w1, .int m1]) ++ List.replicate (3 - (lg_sl ([.ref x0, .int w1, .int m1])).length) Slot.unset).toArray = ls at hl ⊢
  have hl : lv_has ls 3 [(0, .ref x0), (1, .int w1), (2, .int m1)] := hl
  refine lv_iload_n hx hb dX9_bears_0 rfl (lv_at hl 1 rfl) ?_
  refine q_S (tys := TY cI cS cP) (D := D) ⟨hx, hb, hml, hown, hts⟩ [.int w1] [] c_X9_isWeight (va_cwS 1 hts gX9_bears_X9_isWeight rfl rfl rfl (by decide +kernel) ⟨Nat.le_of_ble_eq_true rfl, Nat.le_of_ble_eq_true rfl⟩) hK hN rfl hl.1 rfl (Nat.le_of_ble_eq_true rfl) dX9_bears_1 ⟨Nat.zero_le _, Nat.zero_le _⟩ (fun r hw => ?_)
  subst hw
  refine lv_if_eq (tgt := 14) hx hb dX9_bears_4 (by decide) (fun c_4 => ?_) (fun c_4 => ?_)
  ·
    have c_4 := bz c_4
    refine lv_bipush (v := (-2)) hx hb dX9_bears_14 (by decide) ?_
    have hP9 := hP.sub (ws' := [(x0, .inr (9, [.ref sx, .ref g0, .ref w0, .ref k0, .ref la, .ref tr, .ref u0, .ref pt, .ref ap, .ref sp, .int fd])), (w0, .inr (8, [.ref g0, .int (nI d), .int (nI sh), .int (nI cap), .int (nI sw)])), (tr, .inr (2, [.ref w0, .int am, .int wt, .int md, .long x1, .long x2, .long x3, .long x4, .long x5])), (g0, .inr (3, [.ref s0, .ref s1, .int (nI low), .int (nI high)])), (s1, .inr (6, [.ref a1, .int lo1, .int fo1, .int (nI n1)])), (a1, .inl (cI, 60, .inl it1))]) [0, 1, 2, 3, 4, 5] rfl
    have hD9 := hD.sub (ws' := [(x0, .inr (9, [.ref sx, .ref g0, .ref w0, .ref k0, .ref la, .ref tr, .ref u0, .ref pt, .ref ap, .ref sp, .int fd])), (w0, .inr (8, [.ref g0, .int (nI d), .int (nI sh), .int (nI cap), .int (nI sw)])), (tr, .inr (2, [.ref w0, .int am, .int wt, .int md, .long x1, .long x2, .long x3, .long x4, .long x5])), (g0, .inr (3, [.ref s0, .ref s1, .int (nI low), .int (nI high)])), (s1, .inr (6, [.ref a1, .int lo1, .int fo1, .int (nI n1)])), (a1, .inl (cI, 60, .inl it1))]) [0, 1, 2, 3, 4, 5] (by decide) rfl
    exact W.iret (v := (-2)) hx hb hr (fun t ht hW => ⟨⟨_, (am, wt, md, x1, x2, x3, x4, x5), rfl, (by unfold aBears; first | rw [if_neg (fun h => c_4 h.1)] | rw [if_neg (fun h => c_11 h.2)]), by rw [ht]; exact hP9, hD9⟩, hS.F ht⟩) hS.2.2 dX9_bears_16
  ·
    have c_4 := bnz c_4
    refine lv_iload_n hx hb dX9_bears_7 rfl (lv_at hl 2 rfl) ?_
    refine q_S (tys := TY cI cS cP) (D := D) ⟨hx, hb, hml, hown, hts⟩ [.int m1] [] c_X9_isMud (va_cwS 1 hts gX9_bears_X9_isMud rfl rfl rfl (by decide +kernel) ⟨Nat.le_of_ble_eq_true rfl, Nat.le_of_ble_eq_true rfl⟩) hK hN rfl hl.1 rfl (Nat.le_of_ble_eq_true rfl) dX9_bears_8 ⟨Nat.zero_le _, Nat.zero_le _⟩ (fun r hw => ?_)
    subst hw
    refine lv_if_ne (tgt := 17) hx hb dX9_bears_11 (by decide) (fun c_11 => ?_) (fun c_11 => ?_)
    ·
      have c_11 := bnz c_11
      refine lv_aload_n hx hb dX9_bears_17 rfl (lv_at hl 0 rfl) ?_
      refine va_get (D := D) (ci := 9) (v := .ref w0) (C := RX9) (T := TX9) (N := 11) hx hb hts iX9 hown hK hP 0 rfl rfl 2 (by decide) (hts (.fieldLink RX9 58 "DeepHole" "well" "LDeepHole$Well;") (by decide +kernel)) (fun _ h9 => h9) rfl dX9_bears_18 ?_
      refine va_get (D := D) (ci := 8) (v := .int (nI d)) (C := RX8) (T := TX8) (N := 5) hx hb hts iX8 hown hK hP 1 rfl rfl 1 (by decide) (hts (.fieldLink RX9 85 "DeepHole$Well" "depth" "I") (by decide +kernel)) (fun _ h9 => h9) rfl dX9_bears_21 ?_
      refine lv_if_ne (tgt := 32) hx hb dX9_bears_24 (by decide) (fun c_24 => ?_) (fun c_24 => ?_)
      ·
        have c_24 := n_ne (a := d) (b := 0) c_24 (by omega) (by omega)
        refine lv_aload_n hx hb dX9_bears_32 rfl (lv_at hl 0 rfl) ?_
        refine va_get (D := D) (ci := 9) (v := .ref tr) (C := RX9) (T := TX9) (N := 11) hx hb hts iX9 hown hK hP 0 rfl rfl 5 (by decide) (hts (.fieldLink RX9 78 "DeepHole" "trial" "LDeepHole$Gas;") (by decide +kernel)) (fun _ h9 => h9) rfl dX9_bears_33 ?_
        refine lv_iload_n hx hb dX9_bears_36 rfl (lv_at hl 1 rfl) ?_
        refine lv_iload_n hx hb dX9_bears_37 rfl (lv_at hl 2 rfl) ?_
        refine w_V (wc := [(tr, .inr (2, [.ref w0, .int am, .int wt, .int md, .long x1, .long x2, .long x3, .long x4, .long x5])), (w0, .inr (8, [.ref g0, .int (nI d), .int (nI sh), .int (nI cap), .int (nI sw)])), (g0, .inr (3, [.ref s0, .ref s1, .int (nI low), .int (nI high)])), (s1, .inr (6, [.ref a1, .int lo1, .int fo1, .int (nI n1)])), (a1, .inl (cI, 60, .inl it1))]) (wr := [(x0, .inr (9, [.ref sx, .ref g0, .ref w0, .ref k0, .ref la, .ref tr, .ref u0, .ref pt, .ref ap, .ref sp, .int fd]))]) (b := tr) ⟨hx, hb, hml, hown, hts⟩ [.int w1, .int m1] [] (c_X2_greatestBorne  (by first | assumption | omega) (by first | assumption | omega) (by first | assumption | omega) (by first | assumption | omega) (by first | assumption | omega)) (cwV 2 hts gX9_bears_X2_greatestBorne rfl rfl rfl (by decide +kernel) ⟨Nat.le_of_ble_eq_true rfl, Nat.le_of_ble_eq_true rfl⟩) hK hN hP hD hS hA [2, 1, 3, 4, 5] [0] rfl (by decide) rfl (by decide) (by decide) (ci := 2) rfl rfl rfl rfl hl.1 rfl (Nat.le_of_ble_eq_true rfl) dX9_bears_38 ⟨Nat.zero_le _, Nat.zero_le _⟩ (fun r u H locs hw hP hD hS => ?_)
        obtain ⟨u_1, u_2, u_3, u_4, u_5, u_6, u_7, u_8⟩ := u
        try dsimp only at hw
        have hP : va_P D vwCl [(x0, .inr (9, [.ref sx, .ref g0, .ref w0, .ref k0, .ref la, .ref tr, .ref u0, .ref pt, .ref ap, .ref sp, .int fd])), (tr, .inr (2, [.ref w0, .int u_1, .int u_2, .int u_3, .long u_4, .long u_5, .long u_6, .long u_7, .long u_8])), (w0, .inr (8, [.ref g0, .int (nI d), .int (nI sh), .int (nI cap), .int (nI sw)])), (g0, .inr (3, [.ref s0, .ref s1, .int (nI low), .int (nI high)])), (s1, .inr (6, [.ref a1, .int lo1, .int fo1, .int (nI n1)])), (a1, .inl (cI, 60, .inl it1))] H := hP
        have hD : va_D A [(x0, .inr (9, [.ref sx, .ref g0, .ref w0, .ref k0, .ref la, .ref tr, .ref u0, .ref pt, .ref ap, .ref sp, .int fd])), (tr, .inr (2, [.ref w0, .int u_1, .int u_2, .int u_3, .long u_4, .long u_5, .long u_6, .long u_7, .long u_8])), (w0, .inr (8, [.ref g0, .int (nI d), .int (nI sh), .int (nI cap), .int (nI sw)])), (g0, .inr (3, [.ref s0, .ref s1, .int (nI low), .int (nI high)])), (s1, .inr (6, [.ref a1, .int lo1, .int fo1, .int (nI n1)])), (a1, .inl (cI, 60, .inl it1))] := hD
        subst hw
        have hP9 := hP.sub (ws' := [(x0, .inr (9, [.ref sx, .ref g0, .ref w0, .ref k0, .ref la, .ref tr, .ref u0, .ref pt, .ref ap, .ref sp, .int fd])), (w0, .inr (8, [.ref g0, .int (nI d), .int (nI sh), .int (nI cap), .int (nI sw)])), (tr, .inr (2, [.ref w0, .int u_1, .int u_2, .int u_3, .long u_4, .long u_5, .long u_6, .long u_7, .long u_8])), (g0, .inr (3, [.ref s0, .ref s1, .int (nI low), .int (nI high)])), (s1, .inr (6, [.ref a1, .int lo1, .int fo1, .int (nI n1)])), (a1, .inl (cI, 60, .inl it1))]) [0, 2, 1, 3, 4, 5] rfl
        have hD9 := hD.sub (ws' := [(x0, .inr (9, [.ref sx, .ref g0, .ref w0, .ref k0, .ref la, .ref tr, .ref u0, .ref pt, .ref ap, .ref sp, .int fd])), (w0, .inr (8, [.ref g0, .int (nI d), .int (nI sh), .int (nI cap), .int (nI sw)])), (tr, .inr (2, [.ref w0, .int u_1, .int u_2, .int u_3, .long u_4, .long u_5, .long u_6, .long u_7, .long u_8])), (g0, .inr (3, [.ref s0, .ref s1, .int (nI low), .int (nI high)])), (s1, .inr (6, [.ref a1, .int lo1, .int fo1, .int (nI n1)])), (a1, .inl (cI, 60, .inl it1))]) [0, 2, 1, 3, 4, 5] (by decide) rfl
        exact W.iret (v := nI (gb (fun v => wb (fun k => decide (strg it1 n1 sh < gA (nI v) w1 m1 d cap sh k)) (d + 1)) 1000)) hx hb hr (fun t ht hW => ⟨⟨_, (u_1, u_2, u_3, u_4, u_5, u_6, u_7, u_8), rfl, (by unfold aBears; rw [if_pos ⟨c_4, c_11⟩, if_neg c_24]), by rw [ht]; exact hP9, hD9⟩, hS.F ht⟩) hS.2.2 dX9_bears_41
      ·
        have c_24 := n_eq (a := d) (b := 0) c_24 (by omega) (by omega)
        refine lv_bipush (v := (-3)) hx hb dX9_bears_27 (by decide) ?_
        refine lv_goto (tgt := 41) hx hb dX9_bears_29 (by decide) ?_
        have hP9 := hP.sub (ws' := [(x0, .inr (9, [.ref sx, .ref g0, .ref w0, .ref k0, .ref la, .ref tr, .ref u0, .ref pt, .ref ap, .ref sp, .int fd])), (w0, .inr (8, [.ref g0, .int (nI d), .int (nI sh), .int (nI cap), .int (nI sw)])), (tr, .inr (2, [.ref w0, .int am, .int wt, .int md, .long x1, .long x2, .long x3, .long x4, .long x5])), (g0, .inr (3, [.ref s0, .ref s1, .int (nI low), .int (nI high)])), (s1, .inr (6, [.ref a1, .int lo1, .int fo1, .int (nI n1)])), (a1, .inl (cI, 60, .inl it1))]) [0, 1, 2, 3, 4, 5] rfl
        have hD9 := hD.sub (ws' := [(x0, .inr (9, [.ref sx, .ref g0, .ref w0, .ref k0, .ref la, .ref tr, .ref u0, .ref pt, .ref ap, .ref sp, .int fd])), (w0, .inr (8, [.ref g0, .int (nI d), .int (nI sh), .int (nI cap), .int (nI sw)])), (tr, .inr (2, [.ref w0, .int am, .int wt, .int md, .long x1, .long x2, .long x3, .long x4, .long x5])), (g0, .inr (3, [.ref s0, .ref s1, .int (nI low), .int (nI high)])), (s1, .inr (6, [.ref a1, .int lo1, .int fo1, .int (nI n1)])), (a1, .inl (cI, 60, .inl it1))]) [0, 1, 2, 3, 4, 5] (by decide) rfl
        exact W.iret (v := (-3)) hx hb hr (fun t ht hW => ⟨⟨_, (am, wt, md, x1, x2, x3, x4, x5), rfl, (by unfold aBears; rw [if_pos ⟨c_4, c_11⟩, if_pos c_24]), by rw [ht]; exact hP9, hD9⟩, hS.F ht⟩) hS.2.2 dX9_bears_41
    ·
      have c_11 := bz c_11
      refine lv_bipush (v := (-2)) hx hb dX9_bears_14 (by decide) ?_
      have hP9 := hP.sub (ws' := [(x0, .inr (9, [.ref sx, .ref g0, .ref w0, .ref k0, .ref la, .ref tr, .ref u0, .ref pt, .ref ap, .ref sp, .int fd])), (w0, .inr (8, [.ref g0, .int (nI d), .int (nI sh), .int (nI cap), .int (nI sw)])), (tr, .inr (2, [.ref w0, .int am, .int wt, .int md, .long x1, .long x2, .long x3, .long x4, .long x5])), (g0, .inr (3, [.ref s0, .ref s1, .int (nI low), .int (nI high)])), (s1, .inr (6, [.ref a1, .int lo1, .int fo1, .int (nI n1)])), (a1, .inl (cI, 60, .inl it1))]) [0, 1, 2, 3, 4, 5] rfl
      have hD9 := hD.sub (ws' := [(x0, .inr (9, [.ref sx, .ref g0, .ref w0, .ref k0, .ref la, .ref tr, .ref u0, .ref pt, .ref ap, .ref sp, .int fd])), (w0, .inr (8, [.ref g0, .int (nI d), .int (nI sh), .int (nI cap), .int (nI sw)])), (tr, .inr (2, [.ref w0, .int am, .int wt, .int md, .long x1, .long x2, .long x3, .long x4, .long x5])), (g0, .inr (3, [.ref s0, .ref s1, .int (nI low), .int (nI high)])), (s1, .inr (6, [.ref a1, .int lo1, .int fo1, .int (nI n1)])), (a1, .inl (cI, 60, .inl it1))]) [0, 1, 2, 3, 4, 5] (by decide) rfl
      exact W.iret (v := (-2)) hx hb hr (fun t ht hW => ⟨⟨_, (am, wt, md, x1, x2, x3, x4, x5), rfl, (by unfold aBears; first | rw [if_neg (fun h => c_4 h.1)] | rw [if_neg (fun h => c_11 h.2)]), by rw [ht]; exact hP9, hD9⟩, hS.F ht⟩) hS.2.2 dX9_bears_16

set_option maxHeartbeats 4000000 in
set_option maxRecDepth 100000 in
theorem c_X9_speed {l : Launch} {D : va_G} {cI cS cP : ClassId} {sz : Nat} {x0 sx g0 w0 k0 la tr u0 pt ap sp : Nat} {fd : Int32} {d sh cap sw : Nat} {s0 a0 s1 n0 low high : Nat} {lo0 fo0 : Int32} {it0 : Nat → Int32} {m1 b1 : Int32} (hd : d ≤ 50) (hsh : sh ≤ d) (hn0 : n0 ≤ 60) (hsw : sw ≤ 1000) : Met l yX9_speed wsX9_speed ({ frames := 4, cells := 0, slots := 0, locals := 88 }) (PC D (TY cI cS cP) [.ref x0, .int m1, .int b1] sz [(x0, .inr (9, [.ref sx, .ref g0, .ref w0, .ref k0, .ref la, .ref tr, .ref u0, .ref pt, .ref ap, .ref sp, .int fd])), (w0, .inr (8, [.ref g0, .int (nI d), .int (nI sh), .int (nI cap), .int (nI sw)])), (g0, .inr (3, [.ref s0, .ref s1, .int (nI low), .int (nI high)])), (s0, .inr (6, [.ref a0, .int lo0, .int fo0, .int (nI n0)])), (a0, .inl (cI, 60, .inl it0))]) (vp_Si (fun r => r = aSpeed sw d (hpz it0 n0 sh d) m1 b1)) 0 0 (fun _ => False) := by
  refine Met.ofW (cc := cX9_speed) (maxL := 3) (ret := (some .int)) (by decide) rfl ?_
  intro p e s m args below meth c s₁ B hml hv
  obtain ⟨rfl, hsz, hP, hK, hD0, hN⟩ := hv
  have hx := B.exec
  have hb := B.bytes
  have hr := B.returns
  have hts := atoms_spec (ws := wsX9_speed) B.pre
  have hown : s.vm.findClass RX9 = some m.cls := findClass_of_methodNamed B.named
  have hlocks := B.notSynchronized
  subst hsz
  have iX8 : ∀ w ∈ u_ws RX8 TX8 5, w ∈ wsX9_speed := by decide +kernel
  have iX9 : ∀ w ∈ u_ws RX9 TX9 11, w ∈ wsX9_speed := by decide +kernel
  have hD := hD0
  have hP : va_P D vwCl [(x0, .inr (9, [.ref sx, .ref g0, .ref w0, .ref k0, .ref la, .ref tr, .ref u0, .ref pt, .ref ap, .ref sp, .int fd])), (w0, .inr (8, [.ref g0, .int (nI d), .int (nI sh), .int (nI cap), .int (nI sw)])), (g0, .inr (3, [.ref s0, .ref s1, .int (nI low), .int (nI high)])), (s0, .inr (6, [.ref a0, .int lo0, .int fo0, .int (nI n0)])), (a0, .inl (cI, 60, .inl it0))] s.heap := hP
  have hl := lv_entry ([.ref x0, .int m1, .int b1]) (n := 3) (Nat.le_of_ble_eq_true rfl)
  rw [lg_entry_eq]
  generalize (lg_sl ([.ref x0, .int m1, .int b1]) ++ List.replicate (3 - (lg_sl ([.ref x0, .int m1, .int b1])).length) Slot.unset).toArray = ls at hl ⊢
  have hl : lv_has ls 3 [(0, .ref x0), (1, .int m1), (2, .int b1)] := hl
  have hpzr := hpz_rng it0 n0 sh d
  refine lv_iload_n hx hb dX9_speed_0 rfl (lv_at hl 1 rfl) ?_
  refine q_S (tys := TY cI cS cP) (D := D) ⟨hx, hb, hml, hown, hts⟩ [.int m1] [] c_X9_isMud (va_cwS 1 hts gX9_speed_X9_isMud rfl rfl rfl (by decide +kernel) ⟨Nat.le_of_ble_eq_true rfl, Nat.le_of_ble_eq_true rfl⟩) hK hN rfl hl.1 rfl (Nat.le_of_ble_eq_true rfl) dX9_speed_1 ⟨Nat.zero_le _, Nat.zero_le _⟩ (fun r hw => ?_)
  subst hw
  refine lv_if_eq (tgt := 22) hx hb dX9_speed_4 (by decide) (fun c_4 => ?_) (fun c_4 => ?_)
  ·
    have c_4 := bz c_4
    refine lv_bipush (v := (-2)) hx hb dX9_speed_22 (by decide) ?_
    exact W.iret (v := (-2)) hx hb hr (fun t ht hW => ⟨_, rfl, (by unfold aSpeed; first | rw [if_neg (fun h => c_4 h.1)] | rw [if_neg (fun h => c_19 h.2)]), ht⟩) (fun _ h => absurd h List.not_mem_nil) dX9_speed_24
  ·
    have c_4 := bnz c_4
    refine lv_iload_n hx hb dX9_speed_7 rfl (lv_at hl 2 rfl) ?_
    refine lv_iconst (v := 1) hx hb dX9_speed_8 (by decide) ?_
    refine lv_aload_n hx hb dX9_speed_9 rfl (lv_at hl 0 rfl) ?_
    refine va_get (D := D) (ci := 9) (v := .ref w0) (C := RX9) (T := TX9) (N := 11) hx hb hts iX9 hown hK hP 0 rfl rfl 2 (by decide) (hts (.fieldLink RX9 58 "DeepHole" "well" "LDeepHole$Well;") (by decide +kernel)) (fun _ h9 => h9) rfl dX9_speed_10 ?_
    refine va_get (D := D) (ci := 8) (v := .int (nI d)) (C := RX8) (T := TX8) (N := 5) hx hb hts iX8 hown hK hP 1 rfl rfl 1 (by decide) (hts (.fieldLink RX9 85 "DeepHole$Well" "depth" "I") (by decide +kernel)) (fun _ h9 => h9) rfl dX9_speed_13 ?_
    refine q_S (tys := TY cI cS cP) (D := D) ⟨hx, hb, hml, hown, hts⟩ [.int b1, .int (1 : Int32), .int (nI d)] [] c_X9_within (va_cwS 3 hts gX9_speed_X9_within rfl rfl rfl (by decide +kernel) ⟨Nat.le_of_ble_eq_true rfl, Nat.le_of_ble_eq_true rfl⟩) hK hN rfl hl.1 rfl (Nat.le_of_ble_eq_true rfl) dX9_speed_16 ⟨Nat.zero_le _, Nat.zero_le _⟩ (fun r hw => ?_)
    subst hw
    refine lv_if_ne (tgt := 25) hx hb dX9_speed_19 (by decide) (fun c_19 => ?_) (fun c_19 => ?_)
    ·
      have c_19 := bnz c_19
      obtain ⟨mn, hmn, rfl⟩ := nat_of (hi := 3000) (n := 3000) (by decide) c_4
      obtain ⟨bn, hbna, hbn, rfl⟩ := nat_of1 (lo := 1) (hi := nI d) (a := 1) (n := d) (by decide) (nI_toInt (by omega)) c_19
      refine lv_aload_n hx hb dX9_speed_25 rfl (lv_at hl 0 rfl) ?_
      refine va_get (D := D) (ci := 9) (v := .ref w0) (C := RX9) (T := TX9) (N := 11) hx hb hts iX9 hown hK hP 0 rfl rfl 2 (by decide) (hts (.fieldLink RX9 58 "DeepHole" "well" "LDeepHole$Well;") (by decide +kernel)) (fun _ h9 => h9) rfl dX9_speed_26 ?_
      refine lv_iload_n hx hb dX9_speed_29 rfl (lv_at hl 1 rfl) ?_
      refine lv_iload_n hx hb dX9_speed_30 rfl (lv_at hl 2 rfl) ?_
      refine lv_aload_n hx hb dX9_speed_31 rfl (lv_at hl 0 rfl) ?_
      refine va_get (D := D) (ci := 9) (v := .ref w0) (C := RX9) (T := TX9) (N := 11) hx hb hts iX9 hown hK hP 0 rfl rfl 2 (by decide) (hts (.fieldLink RX9 58 "DeepHole" "well" "LDeepHole$Well;") (by decide +kernel)) (fun _ h9 => h9) rfl dX9_speed_32 ?_
      refine q_V (wc := [(w0, .inr (8, [.ref g0, .int (nI d), .int (nI sh), .int (nI cap), .int (nI sw)])), (g0, .inr (3, [.ref s0, .ref s1, .int (nI low), .int (nI high)])), (s0, .inr (6, [.ref a0, .int lo0, .int fo0, .int (nI n0)])), (a0, .inl (cI, 60, .inl it0))]) (b := w0) ⟨hx, hb, hml, hown, hts⟩ [] [.int (nI bn), .int (nI mn), .ref w0] (c_X8_heaviestPore  (by first | assumption | omega) (by first | assumption | omega) (by first | assumption | omega)) (cwV 0 hts gX9_speed_X8_heaviestPore rfl rfl rfl (by decide +kernel) ⟨Nat.le_of_ble_eq_true rfl, Nat.le_of_ble_eq_true rfl⟩) hK hN hP hD [1, 2, 3, 4] rfl (by decide) (ci := 8) rfl rfl rfl rfl hl.1 rfl (Nat.le_of_ble_eq_true rfl) dX9_speed_35 ⟨Nat.zero_le _, Nat.zero_le _⟩ (fun r hw => ?_)
      subst hw
      refine q_V (wc := [(w0, .inr (8, [.ref g0, .int (nI d), .int (nI sh), .int (nI cap), .int (nI sw)]))]) (b := w0) ⟨hx, hb, hml, hown, hts⟩ [.int (nI mn), .int (nI bn), .int (iI (hpz it0 n0 sh d))] [] (c_X8_safeSpeed  (by first | assumption | omega) (by first | assumption | omega) (by first | assumption | omega) (by first | assumption | omega)) (cwV 3 hts gX9_speed_X8_safeSpeed rfl rfl rfl (by decide +kernel) ⟨Nat.le_of_ble_eq_true rfl, Nat.le_of_ble_eq_true rfl⟩) hK hN hP hD [1] rfl (by decide) (ci := 8) rfl rfl rfl rfl hl.1 rfl (Nat.le_of_ble_eq_true rfl) dX9_speed_38 ⟨Nat.zero_le _, Nat.zero_le _⟩ (fun r hw => ?_)
      subst hw
      exact W.iret (v := nI (ss sw mn bn (hpz it0 n0 sh d))) hx hb hr (fun t ht hW => ⟨_, rfl, (by unfold aSpeed; rw [if_pos ⟨c_4, c_19⟩, nI_clamp (by omega), nI_clamp (by omega)]), ht⟩) (fun _ h => absurd h List.not_mem_nil) dX9_speed_41
    ·
      have c_19 := bz c_19
      refine lv_bipush (v := (-2)) hx hb dX9_speed_22 (by decide) ?_
      exact W.iret (v := (-2)) hx hb hr (fun t ht hW => ⟨_, rfl, (by unfold aSpeed; first | rw [if_neg (fun h => c_4 h.1)] | rw [if_neg (fun h => c_19 h.2)]), ht⟩) (fun _ h => absurd h List.not_mem_nil) dX9_speed_24

set_option maxHeartbeats 4000000 in
set_option maxRecDepth 100000 in
theorem c_X9_trip {l : Launch} {D : va_G} {cI cS cP : ClassId} {sz : Nat} {x0 sx g0 w0 k0 la tr u0 pt ap sp : Nat} {fd : Int32} {d sh cap sw : Nat} {s0 a0 s1 n0 low high : Nat} {lo0 fo0 : Int32} {it0 : Nat → Int32} {m1 : Int32} (hd : d ≤ 50) (hsh : sh ≤ d) (hn0 : n0 ≤ 60) (hsw : sw ≤ 1000) : Met l yX9_trip wsX9_trip ({ frames := 4, cells := 0, slots := 0, locals := 88 }) (PC D (TY cI cS cP) [.ref x0, .int m1] sz [(x0, .inr (9, [.ref sx, .ref g0, .ref w0, .ref k0, .ref la, .ref tr, .ref u0, .ref pt, .ref ap, .ref sp, .int fd])), (w0, .inr (8, [.ref g0, .int (nI d), .int (nI sh), .int (nI cap), .int (nI sw)])), (g0, .inr (3, [.ref s0, .ref s1, .int (nI low), .int (nI high)])), (s0, .inr (6, [.ref a0, .int lo0, .int fo0, .int (nI n0)])), (a0, .inl (cI, 60, .inl it0))]) (vp_Si (fun r => r = aTrip sw d (hpz it0 n0 sh d) m1)) 0 0 (fun _ => False) := by
  refine Met.ofW (cc := cX9_trip) (maxL := 2) (ret := (some .int)) (by decide) rfl ?_
  intro p e s m args below meth c s₁ B hml hv
  obtain ⟨rfl, hsz, hP, hK, hD0, hN⟩ := hv
  have hx := B.exec
  have hb := B.bytes
  have hr := B.returns
  have hts := atoms_spec (ws := wsX9_trip) B.pre
  have hown : s.vm.findClass RX9 = some m.cls := findClass_of_methodNamed B.named
  have hlocks := B.notSynchronized
  subst hsz
  have iX9 : ∀ w ∈ u_ws RX9 TX9 11, w ∈ wsX9_trip := by decide +kernel
  have hD := hD0
  have hP : va_P D vwCl [(x0, .inr (9, [.ref sx, .ref g0, .ref w0, .ref k0, .ref la, .ref tr, .ref u0, .ref pt, .ref ap, .ref sp, .int fd])), (w0, .inr (8, [.ref g0, .int (nI d), .int (nI sh), .int (nI cap), .int (nI sw)])), (g0, .inr (3, [.ref s0, .ref s1, .int (nI low), .int (nI high)])), (s0, .inr (6, [.ref a0, .int lo0, .int fo0, .int (nI n0)])), (a0, .inl (cI, 60, .inl it0))] s.heap := hP
  have hl := lv_entry ([.ref x0, .int m1]) (n := 2) (Nat.le_of_ble_eq_true rfl)
  rw [lg_entry_eq]
  generalize (lg_sl ([.ref x0, .int m1]) ++ List.replicate (2 - (lg_sl ([.ref x0, .int m1])).length) Slot.unset).toArray = ls at hl ⊢
  have hl : lv_has ls 2 [(0, .ref x0), (1, .int m1)] := hl
  have hpzr := hpz_rng it0 n0 sh d
  refine lv_iload_n hx hb dX9_trip_0 rfl (lv_at hl 1 rfl) ?_
  refine q_S (tys := TY cI cS cP) (D := D) ⟨hx, hb, hml, hown, hts⟩ [.int m1] [] c_X9_isMud (va_cwS 1 hts gX9_trip_X9_isMud rfl rfl rfl (by decide +kernel) ⟨Nat.le_of_ble_eq_true rfl, Nat.le_of_ble_eq_true rfl⟩) hK hN rfl hl.1 rfl (Nat.le_of_ble_eq_true rfl) dX9_trip_1 ⟨Nat.zero_le _, Nat.zero_le _⟩ (fun r hw => ?_)
  subst hw
  refine lv_if_eq (tgt := 25) hx hb dX9_trip_4 (by decide) (fun c_4 => ?_) (fun c_4 => ?_)
  ·
    have c_4 := bz c_4
    refine lv_bipush (v := (-2)) hx hb dX9_trip_25 (by decide) ?_
    exact W.iret (v := (-2)) hx hb hr (fun t ht hW => ⟨_, rfl, (by unfold aTrip; rw [if_neg c_4]), ht⟩) (fun _ h => absurd h List.not_mem_nil) dX9_trip_27
  ·
    have c_4 := bnz c_4
    obtain ⟨mn, hmn, rfl⟩ := nat_of (hi := 3000) (n := 3000) (by decide) c_4
    refine lv_aload_n hx hb dX9_trip_7 rfl (lv_at hl 0 rfl) ?_
    refine va_get (D := D) (ci := 9) (v := .ref w0) (C := RX9) (T := TX9) (N := 11) hx hb hts iX9 hown hK hP 0 rfl rfl 2 (by decide) (hts (.fieldLink RX9 58 "DeepHole" "well" "LDeepHole$Well;") (by decide +kernel)) (fun _ h9 => h9) rfl dX9_trip_8 ?_
    refine lv_iload_n hx hb dX9_trip_11 rfl (lv_at hl 1 rfl) ?_
    refine lv_aload_n hx hb dX9_trip_12 rfl (lv_at hl 0 rfl) ?_
    refine va_get (D := D) (ci := 9) (v := .ref w0) (C := RX9) (T := TX9) (N := 11) hx hb hts iX9 hown hK hP 0 rfl rfl 2 (by decide) (hts (.fieldLink RX9 58 "DeepHole" "well" "LDeepHole$Well;") (by decide +kernel)) (fun _ h9 => h9) rfl dX9_trip_13 ?_
    refine q_V (wc := [(w0, .inr (8, [.ref g0, .int (nI d), .int (nI sh), .int (nI cap), .int (nI sw)])), (g0, .inr (3, [.ref s0, .ref s1, .int (nI low), .int (nI high)])), (s0, .inr (6, [.ref a0, .int lo0, .int fo0, .int (nI n0)])), (a0, .inl (cI, 60, .inl it0))]) (b := w0) ⟨hx, hb, hml, hown, hts⟩ [] [.int (nI mn), .ref w0] (c_X8_heaviestPore  (by first | assumption | omega) (by first | assumption | omega) (by first | assumption | omega)) (cwV 0 hts gX9_trip_X8_heaviestPore rfl rfl rfl (by decide +kernel) ⟨Nat.le_of_ble_eq_true rfl, Nat.le_of_ble_eq_true rfl⟩) hK hN hP hD [1, 2, 3, 4] rfl (by decide) (ci := 8) rfl rfl rfl rfl hl.1 rfl (Nat.le_of_ble_eq_true rfl) dX9_trip_16 ⟨Nat.zero_le _, Nat.zero_le _⟩ (fun r hw => ?_)
    subst hw
    refine q_V (wc := [(w0, .inr (8, [.ref g0, .int (nI d), .int (nI sh), .int (nI cap), .int (nI sw)]))]) (b := w0) ⟨hx, hb, hml, hown, hts⟩ [.int (nI mn), .int (iI (hpz it0 n0 sh d))] [] (c_X8_tripTime  (by first | assumption | omega) (by first | assumption | omega) (by first | assumption | omega) (by first | assumption | omega)) (cwV 2 hts gX9_trip_X8_tripTime rfl rfl rfl (by decide +kernel) ⟨Nat.le_of_ble_eq_true rfl, Nat.le_of_ble_eq_true rfl⟩) hK hN hP hD [1] rfl (by decide) (ci := 8) rfl rfl rfl rfl hl.1 rfl (Nat.le_of_ble_eq_true rfl) dX9_trip_19 ⟨Nat.zero_le _, Nat.zero_le _⟩ (fun r hw => ?_)
    subst hw
    refine lv_goto (tgt := 27) hx hb dX9_trip_22 (by decide) ?_
    exact W.iret (v := iI (trip sw d mn (hpz it0 n0 sh d))) hx hb hr (fun t ht hW => ⟨_, rfl, (by unfold aTrip; rw [if_pos c_4, nI_clamp (by omega)]), ht⟩) (fun _ h => absurd h List.not_mem_nil) dX9_trip_27

set_option maxHeartbeats 4000000 in
set_option maxRecDepth 100000 in
theorem c_X9_lightest {l : Launch} {D : va_G} {cI cS cP : ClassId} {sz : Nat} {x0 sx g0 w0 k0 la tr u0 pt ap sp : Nat} {fd : Int32} {d sh cap sw : Nat} {s0 a0 s1 a1 : Nat} {lo0 fo0 lo1 fo1 : Int32} {n0 n1 low high : Nat} {it0 it1 : Nat → Int32} {t1 : Int32} {a1_ b1_ : Int64} (hd : d ≤ 50) (hsh : sh ≤ d) (hn0 : n0 ≤ 60) (hn1 : n1 ≤ 60) (hlow : low ≤ 500) (hhigh : high ≤ 500) (hsw : sw ≤ 1000) : Met l yX9_lightest wsX9_lightest ({ frames := 5, cells := 0, slots := 0, locals := 124 }) (PC D (TY cI cS cP) [.ref x0, .int t1] sz [(x0, .inr (9, [.ref sx, .ref g0, .ref w0, .ref k0, .ref la, .ref tr, .ref u0, .ref pt, .ref ap, .ref sp, .int fd])), (w0, .inr (8, [.ref g0, .int (nI d), .int (nI sh), .int (nI cap), .int (nI sw)])), (g0, .inr (3, [.ref s0, .ref s1, .int (nI low), .int (nI high)])), (s0, .inr (6, [.ref a0, .int lo0, .int fo0, .int (nI n0)])), (a0, .inl (cI, 60, .inl it0)), (s1, .inr (6, [.ref a1, .int lo1, .int fo1, .int (nI n1)])), (a1, .inl (cI, 60, .inl it1)), (sp, .inr (7, [.long a1_, .long b1_]))]) (QI D (fun (r : Int32) (u : Int64 × Int64) => r = aLight it0 it1 n0 n1 low high sw d sh t1) (fun (u : Int64 × Int64) => [(x0, .inr (9, [.ref sx, .ref g0, .ref w0, .ref k0, .ref la, .ref tr, .ref u0, .ref pt, .ref ap, .ref sp, .int fd])), (w0, .inr (8, [.ref g0, .int (nI d), .int (nI sh), .int (nI cap), .int (nI sw)])), (g0, .inr (3, [.ref s0, .ref s1, .int (nI low), .int (nI high)])), (s0, .inr (6, [.ref a0, .int lo0, .int fo0, .int (nI n0)])), (a0, .inl (cI, 60, .inl it0)), (s1, .inr (6, [.ref a1, .int lo1, .int fo1, .int (nI n1)])), (a1, .inl (cI, 60, .inl it1)), (sp, .inr (7, [.long u.1, .long u.2]))]) (va_A [(x0, .inr (9, [.ref sx, .ref g0, .ref w0, .ref k0, .ref la, .ref tr, .ref u0, .ref pt, .ref ap, .ref sp, .int fd])), (w0, .inr (8, [.ref g0, .int (nI d), .int (nI sh), .int (nI cap), .int (nI sw)])), (g0, .inr (3, [.ref s0, .ref s1, .int (nI low), .int (nI high)])), (s0, .inr (6, [.ref a0, .int lo0, .int fo0, .int (nI n0)])), (a0, .inl (cI, 60, .inl it0)), (s1, .inr (6, [.ref a1, .int lo1, .int fo1, .int (nI n1)])), (a1, .inl (cI, 60, .inl it1)), (sp, .inr (7, [.long a1_, .long b1_]))] sz)) 0 0 (va_A [(x0, .inr (9, [.ref sx, .ref g0, .ref w0, .ref k0, .ref la, .ref tr, .ref u0, .ref pt, .ref ap, .ref sp, .int fd])), (w0, .inr (8, [.ref g0, .int (nI d), .int (nI sh), .int (nI cap), .int (nI sw)])), (g0, .inr (3, [.ref s0, .ref s1, .int (nI low), .int (nI high)])), (s0, .inr (6, [.ref a0, .int lo0, .int fo0, .int (nI n0)])), (a0, .inl (cI, 60, .inl it0)), (s1, .inr (6, [.ref a1, .int lo1, .int fo1, .int (nI n1)])), (a1, .inl (cI, 60, .inl it1)), (sp, .inr (7, [.long a1_, .long b1_]))] sz) := by
  refine Met.ofW (cc := cX9_lightest) (maxL := 2) (ret := (some .int)) (by decide) rfl ?_
  intro p e s m args below meth c s₁ B hml hv
  obtain ⟨rfl, hsz, hP, hK, hD0, hN⟩ := hv
  have hx := B.exec
  have hb := B.bytes
  have hr := B.returns
  have hts := atoms_spec (ws := wsX9_lightest) B.pre
  have hown : s.vm.findClass RX9 = some m.cls := findClass_of_methodNamed B.named
  have hlocks := B.notSynchronized
  subst hsz
  have iX7 : ∀ w ∈ u_ws RX7 TX7 2, w ∈ wsX9_lightest := by decide +kernel
  have iX8 : ∀ w ∈ u_ws RX8 TX8 5, w ∈ wsX9_lightest := by decide +kernel
  have iX9 : ∀ w ∈ u_ws RX9 TX9 11, w ∈ wsX9_lightest := by decide +kernel
  have hD := hD0.self (sz := s.heap.size)
  generalize hAe : va_A [(x0, .inr (9, [.ref sx, .ref g0, .ref w0, .ref k0, .ref la, .ref tr, .ref u0, .ref pt, .ref ap, .ref sp, .int fd])), (w0, .inr (8, [.ref g0, .int (nI d), .int (nI sh), .int (nI cap), .int (nI sw)])), (g0, .inr (3, [.ref s0, .ref s1, .int (nI low), .int (nI high)])), (s0, .inr (6, [.ref a0, .int lo0, .int fo0, .int (nI n0)])), (a0, .inl (cI, 60, .inl it0)), (s1, .inr (6, [.ref a1, .int lo1, .int fo1, .int (nI n1)])), (a1, .inl (cI, 60, .inl it1)), (sp, .inr (7, [.long a1_, .long b1_]))] s.heap.size = A at hD ⊢
  have hA : ∀ q : Nat, s.heap.size ≤ q → A q := fun q h => by rw [← hAe]; exact Or.inr h
  have hS : va_S A s.heap s.heap [] := va_S.rf
  have hP : va_P D vwCl [(x0, .inr (9, [.ref sx, .ref g0, .ref w0, .ref k0, .ref la, .ref tr, .ref u0, .ref pt, .ref ap, .ref sp, .int fd])), (w0, .inr (8, [.ref g0, .int (nI d), .int (nI sh), .int (nI cap), .int (nI sw)])), (g0, .inr (3, [.ref s0, .ref s1, .int (nI low), .int (nI high)])), (s0, .inr (6, [.ref a0, .int lo0, .int fo0, .int (nI n0)])), (a0, .inl (cI, 60, .inl it0)), (s1, .inr (6, [.ref a1, .int lo1, .int fo1, .int (nI n1)])), (a1, .inl (cI, 60, .inl it1)), (sp, .inr (7, [.long a1_, .long b1_]))] s.heap := hP
  have hl := lv_entry ([.ref x0, .int t1]) (n := 2) (Nat.le_of_ble_eq_true rfl)
  rw [lg_entry_eq]
  generalize (lg_sl ([.ref x0, .int t1]) ++ List.replicate (2 - (lg_sl ([.ref x0, .int t1])).length) Slot.unset).toArray = ls at hl ⊢
  have hl : lv_has ls 2 [(0, .ref x0), (1, .int t1)] := hl
  have hpo := po_le it0 n0
  have hfr := fr_le it1 n1
  have hwl := wl_up (i := sh) (a := 0) hpo hlow (d - sh)
  have hwh := wh_up (i := sh) (b := 3000) hfr hhigh (d - sh)
  refine lv_iload_n hx hb dX9_lightest_0 rfl (lv_at hl 1 rfl) ?_
  refine lv_iconst (v := 0) hx hb dX9_lightest_1 (by decide) ?_
  refine lv_ldc hx hb hown (hts (.constant RX9 199 (100000)) (by decide +kernel)) dX9_lightest_2 ?_
  refine q_S (tys := TY cI cS cP) (D := D) ⟨hx, hb, hml, hown, hts⟩ [.int t1, .int (0 : Int32), .int (100000 : Int32)] [] c_X9_within (va_cwS 3 hts gX9_lightest_X9_within rfl rfl rfl (by decide +kernel) ⟨Nat.le_of_ble_eq_true rfl, Nat.le_of_ble_eq_true rfl⟩) hK hN rfl hl.1 rfl (Nat.le_of_ble_eq_true rfl) dX9_lightest_4 ⟨Nat.zero_le _, Nat.zero_le _⟩ (fun r hw => ?_)
  subst hw
  refine lv_if_ne (tgt := 13) hx hb dX9_lightest_7 (by decide) (fun c_7 => ?_) (fun c_7 => ?_)
  ·
    have c_7 := bnz c_7
    obtain ⟨tn, htn, rfl⟩ := nat_of (hi := 100000) (n := 100000) (by decide) c_7
    refine lv_aload_n hx hb dX9_lightest_13 rfl (lv_at hl 0 rfl) ?_
    refine va_get (D := D) (ci := 9) (v := .ref g0) (C := RX9) (T := TX9) (N := 11) hx hb hts iX9 hown hK hP 0 rfl rfl 1 (by decide) (hts (.fieldLink RX9 49 "DeepHole" "ground" "LDeepHole$Ground;") (by decide +kernel)) (fun _ h9 => h9) rfl dX9_lightest_14 ?_
    refine lv_aload_n hx hb dX9_lightest_17 rfl (lv_at hl 0 rfl) ?_
    refine va_get (D := D) (ci := 9) (v := .ref sp) (C := RX9) (T := TX9) (N := 11) hx hb hts iX9 hown hK hP 0 rfl rfl 9 (by decide) (hts (.fieldLink RX9 38 "DeepHole" "span" "LDeepHole$Span;") (by decide +kernel)) (fun _ h9 => h9) rfl dX9_lightest_18 ?_
    refine w_Vv (wc := [(g0, .inr (3, [.ref s0, .ref s1, .int (nI low), .int (nI high)])), (sp, .inr (7, [.long a1_, .long b1_]))]) (wr := [(x0, .inr (9, [.ref sx, .ref g0, .ref w0, .ref k0, .ref la, .ref tr, .ref u0, .ref pt, .ref ap, .ref sp, .int fd])), (w0, .inr (8, [.ref g0, .int (nI d), .int (nI sh), .int (nI cap), .int (nI sw)])), (s0, .inr (6, [.ref a0, .int lo0, .int fo0, .int (nI n0)])), (a0, .inl (cI, 60, .inl it0)), (s1, .inr (6, [.ref a1, .int lo1, .int fo1, .int (nI n1)])), (a1, .inl (cI, 60, .inl it1))]) (b := g0) ⟨hx, hb, hml, hown, hts⟩ [.ref sp] [] c_X3_widest (cwV 1 hts gX9_lightest_X3_widest rfl rfl rfl (by decide +kernel) ⟨Nat.le_of_ble_eq_true rfl, Nat.le_of_ble_eq_true rfl⟩) hK hN hP hD hS hA [2, 7] [0, 1, 3, 4, 5, 6] rfl (by decide) rfl (by decide) (by decide) (ci := 3) rfl rfl rfl rfl hl.1 rfl (Nat.le_of_ble_eq_true rfl) dX9_lightest_21 ⟨Nat.zero_le _, Nat.zero_le _⟩ (fun u H locs hw hP hD hS => ?_)
    have hP : va_P D vwCl [(x0, .inr (9, [.ref sx, .ref g0, .ref w0, .ref k0, .ref la, .ref tr, .ref u0, .ref pt, .ref ap, .ref sp, .int fd])), (w0, .inr (8, [.ref g0, .int (nI d), .int (nI sh), .int (nI cap), .int (nI sw)])), (s0, .inr (6, [.ref a0, .int lo0, .int fo0, .int (nI n0)])), (a0, .inl (cI, 60, .inl it0)), (s1, .inr (6, [.ref a1, .int lo1, .int fo1, .int (nI n1)])), (a1, .inl (cI, 60, .inl it1)), (g0, .inr (3, [.ref s0, .ref s1, .int (nI low), .int (nI high)])), (sp, .inr (7, [.long 0, .long 3000]))] H := hP
    have hD : va_D A [(x0, .inr (9, [.ref sx, .ref g0, .ref w0, .ref k0, .ref la, .ref tr, .ref u0, .ref pt, .ref ap, .ref sp, .int fd])), (w0, .inr (8, [.ref g0, .int (nI d), .int (nI sh), .int (nI cap), .int (nI sw)])), (s0, .inr (6, [.ref a0, .int lo0, .int fo0, .int (nI n0)])), (a0, .inl (cI, 60, .inl it0)), (s1, .inr (6, [.ref a1, .int lo1, .int fo1, .int (nI n1)])), (a1, .inl (cI, 60, .inl it1)), (g0, .inr (3, [.ref s0, .ref s1, .int (nI low), .int (nI high)])), (sp, .inr (7, [.long 0, .long 3000]))] := hD
    refine lv_aload_n hx hb dX9_lightest_24 rfl (lv_at hl 0 rfl) ?_
    refine va_get (D := D) (ci := 9) (v := .ref g0) (C := RX9) (T := TX9) (N := 11) hx hb hts iX9 hown hK hP 0 rfl rfl 1 (by decide) (hts (.fieldLink RX9 49 "DeepHole" "ground" "LDeepHole$Ground;") (by decide +kernel)) (fun _ h9 => h9) rfl dX9_lightest_25 ?_
    refine lv_aload_n hx hb dX9_lightest_28 rfl (lv_at hl 0 rfl) ?_
    refine va_get (D := D) (ci := 9) (v := .ref sp) (C := RX9) (T := TX9) (N := 11) hx hb hts iX9 hown hK hP 0 rfl rfl 9 (by decide) (hts (.fieldLink RX9 38 "DeepHole" "span" "LDeepHole$Span;") (by decide +kernel)) (fun _ h9 => h9) rfl dX9_lightest_29 ?_
    refine lv_aload_n hx hb dX9_lightest_32 rfl (lv_at hl 0 rfl) ?_
    refine va_get (D := D) (ci := 9) (v := .ref w0) (C := RX9) (T := TX9) (N := 11) hx hb hts iX9 hown hK hP 0 rfl rfl 2 (by decide) (hts (.fieldLink RX9 58 "DeepHole" "well" "LDeepHole$Well;") (by decide +kernel)) (fun _ h9 => h9) rfl dX9_lightest_33 ?_
    refine va_get (D := D) (ci := 8) (v := .int (nI sh)) (C := RX8) (T := TX8) (N := 5) hx hb hts iX8 hown hK hP 1 rfl rfl 2 (by decide) (hts (.fieldLink RX9 89 "DeepHole$Well" "shoe" "I") (by decide +kernel)) (fun _ h9 => h9) rfl dX9_lightest_36 ?_
    refine lv_aload_n hx hb dX9_lightest_39 rfl (lv_at hl 0 rfl) ?_
    refine va_get (D := D) (ci := 9) (v := .ref w0) (C := RX9) (T := TX9) (N := 11) hx hb hts iX9 hown hK hP 0 rfl rfl 2 (by decide) (hts (.fieldLink RX9 58 "DeepHole" "well" "LDeepHole$Well;") (by decide +kernel)) (fun _ h9 => h9) rfl dX9_lightest_40 ?_
    refine va_get (D := D) (ci := 8) (v := .int (nI d)) (C := RX8) (T := TX8) (N := 5) hx hb hts iX8 hown hK hP 1 rfl rfl 1 (by decide) (hts (.fieldLink RX9 85 "DeepHole$Well" "depth" "I") (by decide +kernel)) (fun _ h9 => h9) rfl dX9_lightest_43 ?_
    refine lv_iconst (v := 1) hx hb dX9_lightest_46 (by decide) ?_
    refine lv_isub hx hb dX9_lightest_47 ?_
    refine w_Vv (wc := [(g0, .inr (3, [.ref s0, .ref s1, .int (nI low), .int (nI high)])), (s0, .inr (6, [.ref a0, .int lo0, .int fo0, .int (nI n0)])), (a0, .inl (cI, 60, .inl it0)), (s1, .inr (6, [.ref a1, .int lo1, .int fo1, .int (nI n1)])), (a1, .inl (cI, 60, .inl it1)), (sp, .inr (7, [.long (lI (0)), .long (lI (3000))]))]) (wr := [(x0, .inr (9, [.ref sx, .ref g0, .ref w0, .ref k0, .ref la, .ref tr, .ref u0, .ref pt, .ref ap, .ref sp, .int fd])), (w0, .inr (8, [.ref g0, .int (nI d), .int (nI sh), .int (nI cap), .int (nI sw)]))]) (b := g0) ⟨hx, hb, hml, hown, hts⟩ [.ref sp, .int (nI sh), .int (nI d - 1)] [] (c_X3_narrow  (by first | assumption | omega) (by first | assumption | omega) (by first | assumption | omega) (by first | assumption | omega) (by first | assumption | omega) (by first | assumption | omega) (by first | assumption | omega) (by first | assumption | omega)) (cwV 3 hts gX9_lightest_X3_narrow rfl rfl rfl (by decide +kernel) ⟨Nat.le_of_ble_eq_true rfl, Nat.le_of_ble_eq_true rfl⟩) hK hN hP hD hS hA [6, 2, 3, 4, 5, 7] [0, 1] rfl (by decide) rfl (by decide) (by decide) (ci := 3) rfl rfl rfl rfl hl.1 rfl (Nat.le_of_ble_eq_true rfl) dX9_lightest_48 ⟨Nat.zero_le _, Nat.zero_le _⟩ (fun u H locs hw hP hD hS => ?_)
    have hP : va_P D vwCl [(x0, .inr (9, [.ref sx, .ref g0, .ref w0, .ref k0, .ref la, .ref tr, .ref u0, .ref pt, .ref ap, .ref sp, .int fd])), (w0, .inr (8, [.ref g0, .int (nI d), .int (nI sh), .int (nI cap), .int (nI sw)])), (g0, .inr (3, [.ref s0, .ref s1, .int (nI low), .int (nI high)])), (s0, .inr (6, [.ref a0, .int lo0, .int fo0, .int (nI n0)])), (a0, .inl (cI, 60, .inl it0)), (s1, .inr (6, [.ref a1, .int lo1, .int fo1, .int (nI n1)])), (a1, .inl (cI, 60, .inl it1)), (sp, .inr (7, [.long (lI (wl (po it0 n0) low sh (0) (d - sh))), .long (lI (wh (fr it1 n1) high sh (3000) (d - sh)))]))] H := hP
    have hD : va_D A [(x0, .inr (9, [.ref sx, .ref g0, .ref w0, .ref k0, .ref la, .ref tr, .ref u0, .ref pt, .ref ap, .ref sp, .int fd])), (w0, .inr (8, [.ref g0, .int (nI d), .int (nI sh), .int (nI cap), .int (nI sw)])), (g0, .inr (3, [.ref s0, .ref s1, .int (nI low), .int (nI high)])), (s0, .inr (6, [.ref a0, .int lo0, .int fo0, .int (nI n0)])), (a0, .inl (cI, 60, .inl it0)), (s1, .inr (6, [.ref a1, .int lo1, .int fo1, .int (nI n1)])), (a1, .inl (cI, 60, .inl it1)), (sp, .inr (7, [.long (lI (wl (po it0 n0) low sh (0) (d - sh))), .long (lI (wh (fr it1 n1) high sh (3000) (d - sh)))]))] := hD
    refine lv_aload_n hx hb dX9_lightest_51 rfl (lv_at hl 0 rfl) ?_
    refine va_get (D := D) (ci := 9) (v := .ref sp) (C := RX9) (T := TX9) (N := 11) hx hb hts iX9 hown hK hP 0 rfl rfl 9 (by decide) (hts (.fieldLink RX9 38 "DeepHole" "span" "LDeepHole$Span;") (by decide +kernel)) (fun _ h9 => h9) rfl dX9_lightest_52 ?_
    refine q_V (wc := [(sp, .inr (7, [.long (lI (wl (po it0 n0) low sh (0) (d - sh))), .long (lI (wh (fr it1 n1) high sh (3000) (d - sh)))]))]) (b := sp) ⟨hx, hb, hml, hown, hts⟩ [] [] (c_X7_isEmpty  (by first | assumption | omega) (by first | assumption | omega)) (cwV 0 hts gX9_lightest_X7_isEmpty rfl rfl rfl (by decide +kernel) ⟨Nat.le_of_ble_eq_true rfl, Nat.le_of_ble_eq_true rfl⟩) hK hN hP hD [7] rfl (by decide) (ci := 7) rfl rfl rfl rfl hl.1 rfl (Nat.le_of_ble_eq_true rfl) dX9_lightest_55 ⟨Nat.zero_le _, Nat.zero_le _⟩ (fun r hw => ?_)
    subst hw
    refine lv_if_eq (tgt := 66) hx hb dX9_lightest_58 (by decide) (fun c_58 => ?_) (fun c_58 => ?_)
    ·
      have c_58 := bz c_58
      refine lv_aload_n hx hb dX9_lightest_66 rfl (lv_at hl 0 rfl) ?_
      refine va_get (D := D) (ci := 9) (v := .ref w0) (C := RX9) (T := TX9) (N := 11) hx hb hts iX9 hown hK hP 0 rfl rfl 2 (by decide) (hts (.fieldLink RX9 58 "DeepHole" "well" "LDeepHole$Well;") (by decide +kernel)) (fun _ h9 => h9) rfl dX9_lightest_67 ?_
      refine lv_aload_n hx hb dX9_lightest_70 rfl (lv_at hl 0 rfl) ?_
      refine va_get (D := D) (ci := 9) (v := .ref sp) (C := RX9) (T := TX9) (N := 11) hx hb hts iX9 hown hK hP 0 rfl rfl 9 (by decide) (hts (.fieldLink RX9 38 "DeepHole" "span" "LDeepHole$Span;") (by decide +kernel)) (fun _ h9 => h9) rfl dX9_lightest_71 ?_
      refine va_get (D := D) (ci := 7) (v := .long (lI (wl (po it0 n0) low sh (0) (d - sh)))) (C := RX7) (T := TX7) (N := 2) hx hb hts iX7 hown hK hP 7 rfl rfl 0 (by decide) (hts (.fieldLink RX9 200 "DeepHole$Span" "least" "J") (by decide +kernel)) (fun _ h9 => h9) rfl dX9_lightest_74 ?_
      refine lv_l2i (v := iI (wl (po it0 n0) low sh (0) (d - sh))) hx hb dX9_lightest_77 (lI_32 _) ?_
      refine lv_eqi (z := nI ((wl (po it0 n0) low sh 0 (d - sh)).toNat)) (iI_toN (by omega)) ?_
      refine lv_aload_n hx hb dX9_lightest_78 rfl (lv_at hl 0 rfl) ?_
      refine va_get (D := D) (ci := 9) (v := .ref sp) (C := RX9) (T := TX9) (N := 11) hx hb hts iX9 hown hK hP 0 rfl rfl 9 (by decide) (hts (.fieldLink RX9 38 "DeepHole" "span" "LDeepHole$Span;") (by decide +kernel)) (fun _ h9 => h9) rfl dX9_lightest_79 ?_
      refine va_get (D := D) (ci := 7) (v := .long (lI (wh (fr it1 n1) high sh (3000) (d - sh)))) (C := RX7) (T := TX7) (N := 2) hx hb hts iX7 hown hK hP 7 rfl rfl 1 (by decide) (hts (.fieldLink RX9 204 "DeepHole$Span" "greatest" "J") (by decide +kernel)) (fun _ h9 => h9) rfl dX9_lightest_82 ?_
      refine lv_l2i (v := iI (wh (fr it1 n1) high sh (3000) (d - sh))) hx hb dX9_lightest_85 (lI_32 _) ?_
      refine lv_eqi (z := nI ((wh (fr it1 n1) high sh 3000 (d - sh)).toNat)) (iI_toN (by omega)) ?_
      refine lv_iload_n hx hb dX9_lightest_86 rfl (lv_at hl 1 rfl) ?_
      refine q_V (wc := [(w0, .inr (8, [.ref g0, .int (nI d), .int (nI sh), .int (nI cap), .int (nI sw)])), (g0, .inr (3, [.ref s0, .ref s1, .int (nI low), .int (nI high)])), (s0, .inr (6, [.ref a0, .int lo0, .int fo0, .int (nI n0)])), (a0, .inl (cI, 60, .inl it0))]) (b := w0) ⟨hx, hb, hml, hown, hts⟩ [.int (nI ((wl (po it0 n0) low sh 0 (d - sh)).toNat)), .int (nI ((wh (fr it1 n1) high sh 3000 (d - sh)).toNat)), .int (nI tn)] [] (c_X8_lightestInTime  (by first | assumption | omega) (by first | assumption | omega) (by first | assumption | omega) (by first | assumption | omega) (by first | assumption | omega) (by first | assumption | omega) (by first | assumption | omega)) (cwV 3 hts gX9_lightest_X8_lightestInTime rfl rfl rfl (by decide +kernel) ⟨Nat.le_of_ble_eq_true rfl, Nat.le_of_ble_eq_true rfl⟩) hK hN hP hD [1, 2, 3, 4] rfl (by decide) (ci := 8) rfl rfl rfl rfl hl.1 rfl (Nat.le_of_ble_eq_true rfl) dX9_lightest_87 ⟨Nat.zero_le _, Nat.zero_le _⟩ (fun r hw => ?_)
      subst hw
      have hP9 := hP.sub (ws' := [(x0, .inr (9, [.ref sx, .ref g0, .ref w0, .ref k0, .ref la, .ref tr, .ref u0, .ref pt, .ref ap, .ref sp, .int fd])), (w0, .inr (8, [.ref g0, .int (nI d), .int (nI sh), .int (nI cap), .int (nI sw)])), (g0, .inr (3, [.ref s0, .ref s1, .int (nI low), .int (nI high)])), (s0, .inr (6, [.ref a0, .int lo0, .int fo0, .int (nI n0)])), (a0, .inl (cI, 60, .inl it0)), (s1, .inr (6, [.ref a1, .int lo1, .int fo1, .int (nI n1)])), (a1, .inl (cI, 60, .inl it1)), (sp, .inr (7, [.long (lI (wl (po it0 n0) low sh (0) (d - sh))), .long (lI (wh (fr it1 n1) high sh (3000) (d - sh)))]))]) [0, 1, 2, 3, 4, 5, 6, 7] rfl
      have hD9 := hD.sub (ws' := [(x0, .inr (9, [.ref sx, .ref g0, .ref w0, .ref k0, .ref la, .ref tr, .ref u0, .ref pt, .ref ap, .ref sp, .int fd])), (w0, .inr (8, [.ref g0, .int (nI d), .int (nI sh), .int (nI cap), .int (nI sw)])), (g0, .inr (3, [.ref s0, .ref s1, .int (nI low), .int (nI high)])), (s0, .inr (6, [.ref a0, .int lo0, .int fo0, .int (nI n0)])), (a0, .inl (cI, 60, .inl it0)), (s1, .inr (6, [.ref a1, .int lo1, .int fo1, .int (nI n1)])), (a1, .inl (cI, 60, .inl it1)), (sp, .inr (7, [.long (lI (wl (po it0 n0) low sh (0) (d - sh))), .long (lI (wh (fr it1 n1) high sh (3000) (d - sh)))]))]) [0, 1, 2, 3, 4, 5, 6, 7] (by decide) rfl
      exact W.iret (v := fst1 (inTime sw d tn (hpz it0 n0 sh d)) ((wl (po it0 n0) low sh 0 (d - sh)).toNat) (((wh (fr it1 n1) high sh 3000 (d - sh)).toNat) + 1 - ((wl (po it0 n0) low sh 0 (d - sh)).toNat))) hx hb hr (fun t ht hW => ⟨⟨_, (lI (wl (po it0 n0) low sh (0) (d - sh)), lI (wh (fr it1 n1) high sh (3000) (d - sh))), rfl, (by unfold aLight; rw [if_pos c_7, if_pos (by omega), nI_clamp (by omega)]), by rw [ht]; exact hP9, hD9⟩, hS.F ht⟩) hS.2.2 dX9_lightest_90
    ·
      have c_58 := bnz c_58
      refine lv_bipush (v := (-3)) hx hb dX9_lightest_61 (by decide) ?_
      refine lv_goto (tgt := 90) hx hb dX9_lightest_63 (by decide) ?_
      have hP9 := hP.sub (ws' := [(x0, .inr (9, [.ref sx, .ref g0, .ref w0, .ref k0, .ref la, .ref tr, .ref u0, .ref pt, .ref ap, .ref sp, .int fd])), (w0, .inr (8, [.ref g0, .int (nI d), .int (nI sh), .int (nI cap), .int (nI sw)])), (g0, .inr (3, [.ref s0, .ref s1, .int (nI low), .int (nI high)])), (s0, .inr (6, [.ref a0, .int lo0, .int fo0, .int (nI n0)])), (a0, .inl (cI, 60, .inl it0)), (s1, .inr (6, [.ref a1, .int lo1, .int fo1, .int (nI n1)])), (a1, .inl (cI, 60, .inl it1)), (sp, .inr (7, [.long (lI (wl (po it0 n0) low sh (0) (d - sh))), .long (lI (wh (fr it1 n1) high sh (3000) (d - sh)))]))]) [0, 1, 2, 3, 4, 5, 6, 7] rfl
      have hD9 := hD.sub (ws' := [(x0, .inr (9, [.ref sx, .ref g0, .ref w0, .ref k0, .ref la, .ref tr, .ref u0, .ref pt, .ref ap, .ref sp, .int fd])), (w0, .inr (8, [.ref g0, .int (nI d), .int (nI sh), .int (nI cap), .int (nI sw)])), (g0, .inr (3, [.ref s0, .ref s1, .int (nI low), .int (nI high)])), (s0, .inr (6, [.ref a0, .int lo0, .int fo0, .int (nI n0)])), (a0, .inl (cI, 60, .inl it0)), (s1, .inr (6, [.ref a1, .int lo1, .int fo1, .int (nI n1)])), (a1, .inl (cI, 60, .inl it1)), (sp, .inr (7, [.long (lI (wl (po it0 n0) low sh (0) (d - sh))), .long (lI (wh (fr it1 n1) high sh (3000) (d - sh)))]))]) [0, 1, 2, 3, 4, 5, 6, 7] (by decide) rfl
      exact W.iret (v := (-3)) hx hb hr (fun t ht hW => ⟨⟨_, (lI (wl (po it0 n0) low sh (0) (d - sh)), lI (wh (fr it1 n1) high sh (3000) (d - sh))), rfl, (by unfold aLight; rw [if_pos c_7, if_neg (by omega)]), by rw [ht]; exact hP9, hD9⟩, hS.F ht⟩) hS.2.2 dX9_lightest_90
  ·
    have c_7 := bz c_7
    refine lv_bipush (v := (-2)) hx hb dX9_lightest_10 (by decide) ?_
    have hP9 := hP.sub (ws' := [(x0, .inr (9, [.ref sx, .ref g0, .ref w0, .ref k0, .ref la, .ref tr, .ref u0, .ref pt, .ref ap, .ref sp, .int fd])), (w0, .inr (8, [.ref g0, .int (nI d), .int (nI sh), .int (nI cap), .int (nI sw)])), (g0, .inr (3, [.ref s0, .ref s1, .int (nI low), .int (nI high)])), (s0, .inr (6, [.ref a0, .int lo0, .int fo0, .int (nI n0)])), (a0, .inl (cI, 60, .inl it0)), (s1, .inr (6, [.ref a1, .int lo1, .int fo1, .int (nI n1)])), (a1, .inl (cI, 60, .inl it1)), (sp, .inr (7, [.long a1_, .long b1_]))]) [0, 1, 2, 3, 4, 5, 6, 7] rfl
    have hD9 := hD.sub (ws' := [(x0, .inr (9, [.ref sx, .ref g0, .ref w0, .ref k0, .ref la, .ref tr, .ref u0, .ref pt, .ref ap, .ref sp, .int fd])), (w0, .inr (8, [.ref g0, .int (nI d), .int (nI sh), .int (nI cap), .int (nI sw)])), (g0, .inr (3, [.ref s0, .ref s1, .int (nI low), .int (nI high)])), (s0, .inr (6, [.ref a0, .int lo0, .int fo0, .int (nI n0)])), (a0, .inl (cI, 60, .inl it0)), (s1, .inr (6, [.ref a1, .int lo1, .int fo1, .int (nI n1)])), (a1, .inl (cI, 60, .inl it1)), (sp, .inr (7, [.long a1_, .long b1_]))]) [0, 1, 2, 3, 4, 5, 6, 7] (by decide) rfl
    exact W.iret (v := (-2)) hx hb hr (fun t ht hW => ⟨⟨_, (a1_, b1_), rfl, (by unfold aLight; rw [if_neg c_7]), by rw [ht]; exact hP9, hD9⟩, hS.F ht⟩) hS.2.2 dX9_lightest_12
