set_option maxHeartbeats 4000000 in
set_option maxRecDepth 100000 in
theorem c_X9_begin {l : Launch} {D : va_G} {cI cS cP : ClassId} {sz : Nat} {x0 sx g0 w0 k0 la tr u0 ap sp : Nat} {fd : Int32} {pt : Nat} {ptf : Nat → Option Nat} {pa xa ya na : Nat} {xs ys : Nat → Int32} {k : Nat} {x1 : Int32} (hk : k < 2) (hpt : ptf k = some pa) : Met l yX9_begin wsX9_begin ({ frames := 2, cells := 0, slots := 0, locals := 42 }) (PC D (TY cI cS cP) [.ref x0, .int (nI k), .int x1] sz [(x0, .inr (9, [.ref sx, .ref g0, .ref w0, .ref k0, .ref la, .ref tr, .ref u0, .ref pt, .ref ap, .ref sp, .int fd])), (pt, .inl (cP, 2, .inr (.inr (.inr (.inr ptf))))), (pa, .inr (4, [.ref xa, .ref ya, .int (nI na)])), (xa, .inl (cI, 41, .inl xs)), (ya, .inl (cI, 41, .inl ys))]) (QI D (fun (r : Int32) (u : Nat × (Nat → Int32)) => (r = aBegin na x1) ∧ u = sBegin na xs x1) (fun (u : Nat × (Nat → Int32)) => [(x0, .inr (9, [.ref sx, .ref g0, .ref w0, .ref k0, .ref la, .ref tr, .ref u0, .ref pt, .ref ap, .ref sp, .int fd])), (pt, .inl (cP, 2, .inr (.inr (.inr (.inr ptf))))), (pa, .inr (4, [.ref xa, .ref ya, .int (nI u.1)])), (xa, .inl (cI, 41, .inl u.2)), (ya, .inl (cI, 41, .inl ys))]) (va_A [(x0, .inr (9, [.ref sx, .ref g0, .ref w0, .ref k0, .ref la, .ref tr, .ref u0, .ref pt, .ref ap, .ref sp, .int fd])), (pt, .inl (cP, 2, .inr (.inr (.inr (.inr ptf))))), (pa, .inr (4, [.ref xa, .ref ya, .int (nI na)])), (xa, .inl (cI, 41, .inl xs)), (ya, .inl (cI, 41, .inl ys))] sz)) 0 0 (va_A [(x0, .inr (9, [.ref sx, .ref g0, .ref w0, .ref k0, .ref la, .ref tr, .ref u0, .ref pt, .ref ap, .ref sp, .int fd])), (pt, .inl (cP, 2, .inr (.inr (.inr (.inr ptf))))), (pa, .inr (4, [.ref xa, .ref ya, .int (nI na)])), (xa, .inl (cI, 41, .inl xs)), (ya, .inl (cI, 41, .inl ys))] sz) := by
  refine Met.ofW (cc := cX9_begin) (maxL := 4) (ret := (some .int)) (by decide) rfl ?_
  intro p e s m args below meth c s₁ B hml hv
  obtain ⟨rfl, hsz, hP, hK, hD0, hN⟩ := hv
  have hx := B.exec
  have hb := B.bytes
  have hr := B.returns
  have hts := atoms_spec (ws := wsX9_begin) B.pre
  have hown : s.vm.findClass RX9 = some m.cls := findClass_of_methodNamed B.named
  have hlocks := B.notSynchronized
  subst hsz
  have iX4 : ∀ w ∈ u_ws RX4 TX4 3, w ∈ wsX9_begin := by decide +kernel
  have iX9 : ∀ w ∈ u_ws RX9 TX9 11, w ∈ wsX9_begin := by decide +kernel
  have hD := hD0.self (sz := s.heap.size)
  generalize hAe : va_A [(x0, .inr (9, [.ref sx, .ref g0, .ref w0, .ref k0, .ref la, .ref tr, .ref u0, .ref pt, .ref ap, .ref sp, .int fd])), (pt, .inl (cP, 2, .inr (.inr (.inr (.inr ptf))))), (pa, .inr (4, [.ref xa, .ref ya, .int (nI na)])), (xa, .inl (cI, 41, .inl xs)), (ya, .inl (cI, 41, .inl ys))] s.heap.size = A at hD ⊢
  have hA : ∀ q : Nat, s.heap.size ≤ q → A q := fun q h => by rw [← hAe]; exact Or.inr h
  have hS : va_S A s.heap s.heap [] := va_S.rf
  have hP : va_P D vwCl [(x0, .inr (9, [.ref sx, .ref g0, .ref w0, .ref k0, .ref la, .ref tr, .ref u0, .ref pt, .ref ap, .ref sp, .int fd])), (pt, .inl (cP, 2, .inr (.inr (.inr (.inr ptf))))), (pa, .inr (4, [.ref xa, .ref ya, .int (nI na)])), (xa, .inl (cI, 41, .inl xs)), (ya, .inl (cI, 41, .inl ys))] s.heap := hP
  have hl := lv_entry ([.ref x0, .int (nI k), .int x1]) (n := 4) (Nat.le_of_ble_eq_true rfl)
  rw [lg_entry_eq]
  generalize (lg_sl ([.ref x0, .int (nI k), .int x1]) ++ List.replicate (4 - (lg_sl ([.ref x0, .int (nI k), .int x1])).length) Slot.unset).toArray = ls at hl ⊢
  have hl : lv_has ls 4 [(0, .ref x0), (1, .int (nI k)), (2, .int x1)] := hl
  refine lv_iload_n hx hb dX9_begin_0 rfl (lv_at hl 1 rfl) ?_
  refine q_S (tys := TY cI cS cP) (D := D) ⟨hx, hb, hml, hown, hts⟩ [.int (nI k)] [] c_X9_isHole (va_cwS 1 hts gX9_begin_X9_isHole rfl rfl rfl (by decide +kernel) ⟨Nat.le_of_ble_eq_true rfl, Nat.le_of_ble_eq_true rfl⟩) hK hN rfl hl.1 rfl (Nat.le_of_ble_eq_true rfl) dX9_begin_1 ⟨Nat.zero_le _, Nat.zero_le _⟩ (fun r hw => ?_)
  subst hw
  refine lv_if_eq (tgt := 18) hx hb dX9_begin_4 (by decide) (fun c_4 => ?_) (fun c_4 => ?_)
  ·
    have c_4 := bz c_4
    exact absurd (show (0 : Int32) ≤ nI k ∧ nI k ≤ 1 from ⟨nI_pos' (by omega), nI_le (b := 1) (by omega) (by decide)⟩) c_4
  ·
    have c_4 := bnz c_4
    refine lv_iload_n hx hb dX9_begin_7 rfl (lv_at hl 2 rfl) ?_
    refine lv_ldc hx hb hown (hts (.constant RX9 232 (-100000)) (by decide +kernel)) dX9_begin_8 ?_
    refine lv_ldc hx hb hown (hts (.constant RX9 199 (100000)) (by decide +kernel)) dX9_begin_10 ?_
    refine q_S (tys := TY cI cS cP) (D := D) ⟨hx, hb, hml, hown, hts⟩ [.int x1, .int (-100000 : Int32), .int (100000 : Int32)] [] c_X9_within (va_cwS 3 hts gX9_begin_X9_within rfl rfl rfl (by decide +kernel) ⟨Nat.le_of_ble_eq_true rfl, Nat.le_of_ble_eq_true rfl⟩) hK hN rfl hl.1 rfl (Nat.le_of_ble_eq_true rfl) dX9_begin_12 ⟨Nat.zero_le _, Nat.zero_le _⟩ (fun r hw => ?_)
    subst hw
    refine lv_if_ne (tgt := 21) hx hb dX9_begin_15 (by decide) (fun c_15 => ?_) (fun c_15 => ?_)
    ·
      have c_15 := bnz c_15
      refine lv_aload_n hx hb dX9_begin_21 rfl (lv_at hl 0 rfl) ?_
      refine va_get (D := D) (ci := 9) (v := .ref pt) (C := RX9) (T := TX9) (N := 11) hx hb hts iX9 hown hK hP 0 rfl rfl 7 (by decide) (hts (.fieldLink RX9 24 "DeepHole" "paths" "[LDeepHole$Path;") (by decide +kernel)) (fun _ h9 => h9) rfl dX9_begin_22 ?_
      refine lv_iload_n hx hb dX9_begin_25 rfl (lv_at hl 1 rfl) ?_
      refine rd_q hx hb hK hP 1 2 rfl rfl (k := k) (by omega) (by decide) (hpt) dX9_begin_26 ?_
      refine va_get (D := D) (ci := 4) (v := .int (nI na)) (C := RX4) (T := TX4) (N := 3) hx hb hts iX4 hown hK hP 2 rfl rfl 2 (by decide) (hts (.fieldLink RX9 233 "DeepHole$Path" "stations" "I") (by decide +kernel)) (fun _ h9 => h9) rfl dX9_begin_27 ?_
      refine lv_istore_n (lv' := [(3, .int (nI na)), (0, .ref x0), (1, .int (nI k)), (2, .int x1)]) hx hb dX9_begin_30 rfl hl (by decide) rfl (fun ls hl => ?_)
      refine lv_aload_n hx hb dX9_begin_31 rfl (lv_at hl 1 rfl) ?_
      refine va_get (D := D) (ci := 9) (v := .ref pt) (C := RX9) (T := TX9) (N := 11) hx hb hts iX9 hown hK hP 0 rfl rfl 7 (by decide) (hts (.fieldLink RX9 24 "DeepHole" "paths" "[LDeepHole$Path;") (by decide +kernel)) (fun _ h9 => h9) rfl dX9_begin_32 ?_
      refine lv_iload_n hx hb dX9_begin_35 rfl (lv_at hl 2 rfl) ?_
      refine rd_q hx hb hK hP 1 2 rfl rfl (k := k) (by omega) (by decide) (hpt) dX9_begin_36 ?_
      refine lv_iload_n hx hb dX9_begin_37 rfl (lv_at hl 3 rfl) ?_
      refine w_Vv (wc := [(pa, .inr (4, [.ref xa, .ref ya, .int (nI na)])), (xa, .inl (cI, 41, .inl xs)), (ya, .inl (cI, 41, .inl ys))]) (wr := [(x0, .inr (9, [.ref sx, .ref g0, .ref w0, .ref k0, .ref la, .ref tr, .ref u0, .ref pt, .ref ap, .ref sp, .int fd])), (pt, .inl (cP, 2, .inr (.inr (.inr (.inr ptf)))))]) (b := pa) ⟨hx, hb, hml, hown, hts⟩ [.int x1] [] c_X4_beginAt (cwV 1 hts gX9_begin_X4_beginAt rfl rfl rfl (by decide +kernel) ⟨Nat.le_of_ble_eq_true rfl, Nat.le_of_ble_eq_true rfl⟩) hK hN hP hD hS hA [2, 3, 4] [0, 1] rfl (by decide) rfl (by decide) (by decide) (ci := 4) rfl rfl rfl rfl hl.1 rfl (Nat.le_of_ble_eq_true rfl) dX9_begin_38 ⟨Nat.zero_le _, Nat.zero_le _⟩ (fun u H locs hw hP hD hS => ?_)
      have hP : va_P D vwCl [(x0, .inr (9, [.ref sx, .ref g0, .ref w0, .ref k0, .ref la, .ref tr, .ref u0, .ref pt, .ref ap, .ref sp, .int fd])), (pt, .inl (cP, 2, .inr (.inr (.inr (.inr ptf))))), (pa, .inr (4, [.ref xa, .ref ya, .int 0])), (xa, .inl (cI, 41, .inl (upd xs 0 x1))), (ya, .inl (cI, 41, .inl ys))] H := hP
      have hD : va_D A [(x0, .inr (9, [.ref sx, .ref g0, .ref w0, .ref k0, .ref la, .ref tr, .ref u0, .ref pt, .ref ap, .ref sp, .int fd])), (pt, .inl (cP, 2, .inr (.inr (.inr (.inr ptf))))), (pa, .inr (4, [.ref xa, .ref ya, .int 0])), (xa, .inl (cI, 41, .inl (upd xs 0 x1))), (ya, .inl (cI, 41, .inl ys))] := hD
      refine lv_iload_n hx hb dX9_begin_41 rfl (lv_at hl 0 rfl) ?_
      have hP9 := hP.sub (ws' := [(x0, .inr (9, [.ref sx, .ref g0, .ref w0, .ref k0, .ref la, .ref tr, .ref u0, .ref pt, .ref ap, .ref sp, .int fd])), (pt, .inl (cP, 2, .inr (.inr (.inr (.inr ptf))))), (pa, .inr (4, [.ref xa, .ref ya, .int 0])), (xa, .inl (cI, 41, .inl (upd xs 0 x1))), (ya, .inl (cI, 41, .inl ys))]) [0, 1, 2, 3, 4] rfl
      have hD9 := hD.sub (ws' := [(x0, .inr (9, [.ref sx, .ref g0, .ref w0, .ref k0, .ref la, .ref tr, .ref u0, .ref pt, .ref ap, .ref sp, .int fd])), (pt, .inl (cP, 2, .inr (.inr (.inr (.inr ptf))))), (pa, .inr (4, [.ref xa, .ref ya, .int 0])), (xa, .inl (cI, 41, .inl (upd xs 0 x1))), (ya, .inl (cI, 41, .inl ys))]) [0, 1, 2, 3, 4] (by decide) rfl
      exact W.iret (v := nI na) hx hb hr (fun t ht hW => ⟨⟨_, (0, upd xs 0 x1), rfl, (by unfold aBegin sBegin; rw [if_pos c_15, if_pos c_15]; exact ⟨rfl, rfl⟩), by rw [ht]; exact hP9, hD9⟩, hS.F ht⟩) hS.2.2 dX9_begin_42
    ·
      have c_15 := bz c_15
      refine lv_bipush (v := (-2)) hx hb dX9_begin_18 (by decide) ?_
      have hP9 := hP.sub (ws' := [(x0, .inr (9, [.ref sx, .ref g0, .ref w0, .ref k0, .ref la, .ref tr, .ref u0, .ref pt, .ref ap, .ref sp, .int fd])), (pt, .inl (cP, 2, .inr (.inr (.inr (.inr ptf))))), (pa, .inr (4, [.ref xa, .ref ya, .int (nI na)])), (xa, .inl (cI, 41, .inl xs)), (ya, .inl (cI, 41, .inl ys))]) [0, 1, 2, 3, 4] rfl
      have hD9 := hD.sub (ws' := [(x0, .inr (9, [.ref sx, .ref g0, .ref w0, .ref k0, .ref la, .ref tr, .ref u0, .ref pt, .ref ap, .ref sp, .int fd])), (pt, .inl (cP, 2, .inr (.inr (.inr (.inr ptf))))), (pa, .inr (4, [.ref xa, .ref ya, .int (nI na)])), (xa, .inl (cI, 41, .inl xs)), (ya, .inl (cI, 41, .inl ys))]) [0, 1, 2, 3, 4] (by decide) rfl
      exact W.iret (v := (-2)) hx hb hr (fun t ht hW => ⟨⟨_, (na, xs), rfl, (by unfold aBegin sBegin; rw [if_neg c_15, if_neg c_15]; exact ⟨rfl, rfl⟩), by rw [ht]; exact hP9, hD9⟩, hS.F ht⟩) hS.2.2 dX9_begin_20

set_option maxHeartbeats 4000000 in
set_option maxRecDepth 100000 in
theorem c_X9_begin_b {l : Launch} {D : va_G} {cI cS cP : ClassId} {sz : Nat} {x0 sx g0 w0 k0 la tr u0 pt ap sp : Nat} {fd : Int32} {h1 x1 : Int32} (hbad : ¬ (0 ≤ h1 ∧ h1 ≤ 1)) : Met l yX9_begin wsX9_begin ({ frames := 2, cells := 0, slots := 0, locals := 42 }) (PC D (TY cI cS cP) [.ref x0, .int h1, .int x1] sz [(x0, .inr (9, [.ref sx, .ref g0, .ref w0, .ref k0, .ref la, .ref tr, .ref u0, .ref pt, .ref ap, .ref sp, .int fd]))]) (vp_Si (fun r => r = -2)) 0 0 (fun _ => False) := by
  refine Met.ofW (cc := cX9_begin) (maxL := 4) (ret := (some .int)) (by decide) rfl ?_
  intro p e s m args below meth c s₁ B hml hv
  obtain ⟨rfl, hsz, hP, hK, hD0, hN⟩ := hv
  have hx := B.exec
  have hb := B.bytes
  have hr := B.returns
  have hts := atoms_spec (ws := wsX9_begin) B.pre
  have hown : s.vm.findClass RX9 = some m.cls := findClass_of_methodNamed B.named
  have hlocks := B.notSynchronized
  subst hsz
  have hD := hD0
  have hP : va_P D vwCl [(x0, .inr (9, [.ref sx, .ref g0, .ref w0, .ref k0, .ref la, .ref tr, .ref u0, .ref pt, .ref ap, .ref sp, .int fd]))] s.heap := hP
  have hl := lv_entry ([.ref x0, .int h1, .int x1]) (n := 4) (Nat.le_of_ble_eq_true rfl)
  rw [lg_entry_eq]
  generalize (lg_sl ([.ref x0, .int h1, .int x1]) ++ List.replicate (4 - (lg_sl ([.ref x0, .int h1, .int x1])).length) Slot.unset).toArray = ls at hl ⊢
  have hl : lv_has ls 4 [(0, .ref x0), (1, .int h1), (2, .int x1)] := hl
  refine lv_iload_n hx hb dX9_begin_0 rfl (lv_at hl 1 rfl) ?_
  refine q_S (tys := TY cI cS cP) (D := D) ⟨hx, hb, hml, hown, hts⟩ [.int h1] [] c_X9_isHole (va_cwS 1 hts gX9_begin_X9_isHole rfl rfl rfl (by decide +kernel) ⟨Nat.le_of_ble_eq_true rfl, Nat.le_of_ble_eq_true rfl⟩) hK hN rfl hl.1 rfl (Nat.le_of_ble_eq_true rfl) dX9_begin_1 ⟨Nat.zero_le _, Nat.zero_le _⟩ (fun r hw => ?_)
  subst hw
  refine lv_if_eq (tgt := 18) hx hb dX9_begin_4 (by decide) (fun c_4 => ?_) (fun c_4 => ?_)
  ·
    have c_4 := bz c_4
    refine lv_bipush (v := (-2)) hx hb dX9_begin_18 (by decide) ?_
    exact W.iret (v := (-2)) hx hb hr (fun t ht hW => ⟨_, rfl, (by rfl), ht⟩) (fun _ h => absurd h List.not_mem_nil) dX9_begin_20
  ·
    have c_4 := bnz c_4
    exact absurd c_4 hbad

set_option maxHeartbeats 4000000 in
set_option maxRecDepth 100000 in
theorem c_X9_station {l : Launch} {D : va_G} {cI cS cP : ClassId} {sz : Nat} {x0 sx g0 w0 k0 la tr u0 ap sp : Nat} {fd : Int32} {pt : Nat} {ptf : Nat → Option Nat} {pa xa ya na : Nat} {xs ys : Nat → Int32} {k : Nat} {t1 sd : Int32} (hk : k < 2) (hpt : ptf k = some pa) (hna : na ≤ 40) : Met l yX9_station wsX9_station ({ frames := 2, cells := 0, slots := 0, locals := 42 }) (PCX D (TY cI cS cP) [.ref x0, .int (nI k), .int t1, .int sd] sz [(x0, .inr (9, [.ref sx, .ref g0, .ref w0, .ref k0, .ref la, .ref tr, .ref u0, .ref pt, .ref ap, .ref sp, .int fd])), (pt, .inl (cP, 2, .inr (.inr (.inr (.inr ptf))))), (pa, .inr (4, [.ref xa, .ref ya, .int (nI na)])), (xa, .inl (cI, 41, .inl xs)), (ya, .inl (cI, 41, .inl ys))]) (QI D (fun (r : Int32) (u : Nat × (Nat → Int32) × (Nat → Int32)) => (r = aStat na t1 sd) ∧ u = sStat na xs ys t1 sd) (fun (u : Nat × (Nat → Int32) × (Nat → Int32)) => [(x0, .inr (9, [.ref sx, .ref g0, .ref w0, .ref k0, .ref la, .ref tr, .ref u0, .ref pt, .ref ap, .ref sp, .int fd])), (pt, .inl (cP, 2, .inr (.inr (.inr (.inr ptf))))), (pa, .inr (4, [.ref xa, .ref ya, .int (nI u.1)])), (xa, .inl (cI, 41, .inl u.2.1)), (ya, .inl (cI, 41, .inl u.2.2))]) (va_A [(x0, .inr (9, [.ref sx, .ref g0, .ref w0, .ref k0, .ref la, .ref tr, .ref u0, .ref pt, .ref ap, .ref sp, .int fd])), (pt, .inl (cP, 2, .inr (.inr (.inr (.inr ptf))))), (pa, .inr (4, [.ref xa, .ref ya, .int (nI na)])), (xa, .inl (cI, 41, .inl xs)), (ya, .inl (cI, 41, .inl ys))] sz)) 0 0 (va_A [(x0, .inr (9, [.ref sx, .ref g0, .ref w0, .ref k0, .ref la, .ref tr, .ref u0, .ref pt, .ref ap, .ref sp, .int fd])), (pt, .inl (cP, 2, .inr (.inr (.inr (.inr ptf))))), (pa, .inr (4, [.ref xa, .ref ya, .int (nI na)])), (xa, .inl (cI, 41, .inl xs)), (ya, .inl (cI, 41, .inl ys))] sz) := by
  refine Met.ofW (cc := cX9_station) (maxL := 4) (ret := (some .int)) (by decide) rfl ?_
  intro p e s m args below meth c s₁ B hml hv
  obtain ⟨⟨rfl, hsz, hP, hK, hD0, hN⟩, hT⟩ := hv
  have hx := B.exec
  have hb := B.bytes
  have hr := B.returns
  have hts := atoms_spec (ws := wsX9_station) B.pre
  have hown : s.vm.findClass RX9 = some m.cls := findClass_of_methodNamed B.named
  have hlocks := B.notSynchronized
  subst hsz
  have iX4 : ∀ w ∈ u_ws RX4 TX4 3, w ∈ wsX9_station := by decide +kernel
  have iX9 : ∀ w ∈ u_ws RX9 TX9 11, w ∈ wsX9_station := by decide +kernel
  have hD := hD0.self (sz := s.heap.size)
  generalize hAe : va_A [(x0, .inr (9, [.ref sx, .ref g0, .ref w0, .ref k0, .ref la, .ref tr, .ref u0, .ref pt, .ref ap, .ref sp, .int fd])), (pt, .inl (cP, 2, .inr (.inr (.inr (.inr ptf))))), (pa, .inr (4, [.ref xa, .ref ya, .int (nI na)])), (xa, .inl (cI, 41, .inl xs)), (ya, .inl (cI, 41, .inl ys))] s.heap.size = A at hD hT ⊢
  have hA : ∀ q : Nat, s.heap.size ≤ q → A q := fun q h => by rw [← hAe]; exact Or.inr h
  have hS : va_S A s.heap s.heap [] := va_S.rf
  obtain ⟨ta, tb, ⟨hZa, hTa⟩, hZb, hTb⟩ := id hT
  have hP : va_P D vwCl [(x0, .inr (9, [.ref sx, .ref g0, .ref w0, .ref k0, .ref la, .ref tr, .ref u0, .ref pt, .ref ap, .ref sp, .int fd])), (pt, .inl (cP, 2, .inr (.inr (.inr (.inr ptf))))), (pa, .inr (4, [.ref xa, .ref ya, .int (nI na)])), (xa, .inl (cI, 41, .inl xs)), (ya, .inl (cI, 41, .inl ys))] s.heap := hP
  have hl := lv_entry ([.ref x0, .int (nI k), .int t1, .int sd]) (n := 4) (Nat.le_of_ble_eq_true rfl)
  rw [lg_entry_eq]
  generalize (lg_sl ([.ref x0, .int (nI k), .int t1, .int sd]) ++ List.replicate (4 - (lg_sl ([.ref x0, .int (nI k), .int t1, .int sd])).length) Slot.unset).toArray = ls at hl ⊢
  have hl : lv_has ls 4 [(0, .ref x0), (1, .int (nI k)), (2, .int t1), (3, .int sd)] := hl
  refine lv_iload_n hx hb dX9_station_0 rfl (lv_at hl 1 rfl) ?_
  refine q_S (tys := TY cI cS cP) (D := D) ⟨hx, hb, hml, hown, hts⟩ [.int (nI k)] [] c_X9_isHole (va_cwS 1 hts gX9_station_X9_isHole rfl rfl rfl (by decide +kernel) ⟨Nat.le_of_ble_eq_true rfl, Nat.le_of_ble_eq_true rfl⟩) hK hN rfl hl.1 rfl (Nat.le_of_ble_eq_true rfl) dX9_station_1 ⟨Nat.zero_le _, Nat.zero_le _⟩ (fun r hw => ?_)
  subst hw
  refine lv_if_eq (tgt := 27) hx hb dX9_station_4 (by decide) (fun c_4 => ?_) (fun c_4 => ?_)
  ·
    have c_4 := bz c_4
    exact absurd (show (0 : Int32) ≤ nI k ∧ nI k ≤ 1 from ⟨nI_pos' (by omega), nI_le (b := 1) (by omega) (by decide)⟩) c_4
  ·
    have c_4 := bnz c_4
    refine lv_iload_n hx hb dX9_station_7 rfl (lv_at hl 2 rfl) ?_
    refine lv_iconst (v := 0) hx hb dX9_station_8 (by decide) ?_
    refine lv_bipush (v := 9) hx hb dX9_station_9 (by decide) ?_
    refine q_S (tys := TY cI cS cP) (D := D) ⟨hx, hb, hml, hown, hts⟩ [.int t1, .int (0 : Int32), .int (9 : Int32)] [] c_X9_within (va_cwS 3 hts gX9_station_X9_within rfl rfl rfl (by decide +kernel) ⟨Nat.le_of_ble_eq_true rfl, Nat.le_of_ble_eq_true rfl⟩) hK hN rfl hl.1 rfl (Nat.le_of_ble_eq_true rfl) dX9_station_11 ⟨Nat.zero_le _, Nat.zero_le _⟩ (fun r hw => ?_)
    subst hw
    refine lv_if_eq (tgt := 27) hx hb dX9_station_14 (by decide) (fun c_14 => ?_) (fun c_14 => ?_)
    ·
      have c_14 := bz c_14
      refine lv_bipush (v := (-2)) hx hb dX9_station_27 (by decide) ?_
      have hP9 := hP.sub (ws' := [(x0, .inr (9, [.ref sx, .ref g0, .ref w0, .ref k0, .ref la, .ref tr, .ref u0, .ref pt, .ref ap, .ref sp, .int fd])), (pt, .inl (cP, 2, .inr (.inr (.inr (.inr ptf))))), (pa, .inr (4, [.ref xa, .ref ya, .int (nI na)])), (xa, .inl (cI, 41, .inl xs)), (ya, .inl (cI, 41, .inl ys))]) [0, 1, 2, 3, 4] rfl
      have hD9 := hD.sub (ws' := [(x0, .inr (9, [.ref sx, .ref g0, .ref w0, .ref k0, .ref la, .ref tr, .ref u0, .ref pt, .ref ap, .ref sp, .int fd])), (pt, .inl (cP, 2, .inr (.inr (.inr (.inr ptf))))), (pa, .inr (4, [.ref xa, .ref ya, .int (nI na)])), (xa, .inl (cI, 41, .inl xs)), (ya, .inl (cI, 41, .inl ys))]) [0, 1, 2, 3, 4] (by decide) rfl
      exact W.iret (v := (-2)) hx hb hr (fun t ht hW => ⟨⟨_, (na, xs, ys), rfl, (by unfold aStat sStat; first | rw [if_neg (fun h => c_14 h.1), if_neg (fun h => c_14 h.1)]; exact ⟨rfl, rfl⟩ | rw [if_neg (fun h => h.2.elim c_19 c_24), if_neg (fun h => h.2.elim c_19 c_24)]; exact ⟨rfl, rfl⟩), by rw [ht]; exact hP9, hD9⟩, hS.F ht⟩) hS.2.2 dX9_station_29
    ·
      have c_14 := bnz c_14
      refine lv_iload_n hx hb dX9_station_17 rfl (lv_at hl 3 rfl) ?_
      refine lv_iconst (v := (-1)) hx hb dX9_station_18 (by decide) ?_
      refine lv_icmp_eq (tgt := 30) hx hb dX9_station_19 (by decide) (fun c_19 => ?_) (fun c_19 => ?_)
      ·
        obtain ⟨tn, htn, rfl⟩ := nat_of (hi := 9) (n := 9) (by decide) c_14
        refine lv_aload_n hx hb dX9_station_30 rfl (lv_at hl 0 rfl) ?_
        refine va_get (D := D) (ci := 9) (v := .ref pt) (C := RX9) (T := TX9) (N := 11) hx hb hts iX9 hown hK hP 0 rfl rfl 7 (by decide) (hts (.fieldLink RX9 24 "DeepHole" "paths" "[LDeepHole$Path;") (by decide +kernel)) (fun _ h9 => h9) rfl dX9_station_31 ?_
        refine lv_iload_n hx hb dX9_station_34 rfl (lv_at hl 1 rfl) ?_
        refine rd_q hx hb hK hP 1 2 rfl rfl (k := k) (by omega) (by decide) (hpt) dX9_station_35 ?_
        refine lv_iload_n hx hb dX9_station_36 rfl (lv_at hl 2 rfl) ?_
        refine lv_iload_n hx hb dX9_station_37 rfl (lv_at hl 3 rfl) ?_
        refine w_VX (wc := [(pa, .inr (4, [.ref xa, .ref ya, .int (nI na)])), (xa, .inl (cI, 41, .inl xs)), (ya, .inl (cI, 41, .inl ys))]) (wr := [(x0, .inr (9, [.ref sx, .ref g0, .ref w0, .ref k0, .ref la, .ref tr, .ref u0, .ref pt, .ref ap, .ref sp, .int fd])), (pt, .inl (cP, 2, .inr (.inr (.inr (.inr ptf)))))]) (b := pa) ⟨hx, hb, hml, hown, hts⟩ [.int (nI tn), .int sd] [] (c_X4_goOn  (by first | assumption | omega) (by first | assumption | omega)) (cwV 2 hts gX9_station_X4_goOn rfl rfl rfl (by decide +kernel) ⟨Nat.le_of_ble_eq_true rfl, Nat.le_of_ble_eq_true rfl⟩) hT hK hN hP hD hS hA [2, 3, 4] [0, 1] rfl (by decide) rfl (by decide) (by decide) (ci := 4) rfl rfl rfl rfl hl.1 rfl (Nat.le_of_ble_eq_true rfl) dX9_station_38 ⟨Nat.zero_le _, Nat.zero_le _⟩ (fun r u H locs hw hP hD hS => ?_)
        obtain ⟨u_1, u_2, u_3⟩ := u
        try dsimp only at hw
        have hP : va_P D vwCl [(x0, .inr (9, [.ref sx, .ref g0, .ref w0, .ref k0, .ref la, .ref tr, .ref u0, .ref pt, .ref ap, .ref sp, .int fd])), (pt, .inl (cP, 2, .inr (.inr (.inr (.inr ptf))))), (pa, .inr (4, [.ref xa, .ref ya, .int (nI u_1)])), (xa, .inl (cI, 41, .inl u_2)), (ya, .inl (cI, 41, .inl u_3))] H := hP
        have hD : va_D A [(x0, .inr (9, [.ref sx, .ref g0, .ref w0, .ref k0, .ref la, .ref tr, .ref u0, .ref pt, .ref ap, .ref sp, .int fd])), (pt, .inl (cP, 2, .inr (.inr (.inr (.inr ptf))))), (pa, .inr (4, [.ref xa, .ref ya, .int (nI u_1)])), (xa, .inl (cI, 41, .inl u_2)), (ya, .inl (cI, 41, .inl u_3))] := hD
        obtain ⟨hw, hw_38⟩ := hw
        subst hw
        refine lv_if_eq (tgt := 56) hx hb dX9_station_41 (by decide) (fun c_41 => ?_) (fun c_41 => ?_)
        ·
          have c_41 := bz c_41
          refine lv_bipush (v := (-4)) hx hb dX9_station_56 (by decide) ?_
          have hP9 := hP.sub (ws' := [(x0, .inr (9, [.ref sx, .ref g0, .ref w0, .ref k0, .ref la, .ref tr, .ref u0, .ref pt, .ref ap, .ref sp, .int fd])), (pt, .inl (cP, 2, .inr (.inr (.inr (.inr ptf))))), (pa, .inr (4, [.ref xa, .ref ya, .int (nI u_1)])), (xa, .inl (cI, 41, .inl u_2)), (ya, .inl (cI, 41, .inl u_3))]) [0, 1, 2, 3, 4] rfl
          have hD9 := hD.sub (ws' := [(x0, .inr (9, [.ref sx, .ref g0, .ref w0, .ref k0, .ref la, .ref tr, .ref u0, .ref pt, .ref ap, .ref sp, .int fd])), (pt, .inl (cP, 2, .inr (.inr (.inr (.inr ptf))))), (pa, .inr (4, [.ref xa, .ref ya, .int (nI u_1)])), (xa, .inl (cI, 41, .inl u_2)), (ya, .inl (cI, 41, .inl u_3))]) [0, 1, 2, 3, 4] (by decide) rfl
          exact W.iret (v := (-4)) hx hb hr (fun t ht hW => ⟨⟨_, (u_1, u_2, u_3), rfl, (by have hC := And.intro c_14 (show (sd = -1 ∨ sd = 1) from Or.inl c_19); unfold aStat sStat; rw [if_pos hC, if_pos hC, nI_clamp (by omega), if_neg c_41]; exact ⟨rfl, hw_38⟩), by rw [ht]; exact hP9, hD9⟩, hS.F ht⟩) hS.2.2 dX9_station_58
        ·
          have c_41 := bnz c_41
          refine lv_aload_n hx hb dX9_station_44 rfl (lv_at hl 0 rfl) ?_
          refine va_get (D := D) (ci := 9) (v := .ref pt) (C := RX9) (T := TX9) (N := 11) hx hb hts iX9 hown hK hP 0 rfl rfl 7 (by decide) (hts (.fieldLink RX9 24 "DeepHole" "paths" "[LDeepHole$Path;") (by decide +kernel)) (fun _ h9 => h9) rfl dX9_station_45 ?_
          refine lv_iload_n hx hb dX9_station_48 rfl (lv_at hl 1 rfl) ?_
          refine rd_q hx hb hK hP 1 2 rfl rfl (k := k) (by omega) (by decide) (hpt) dX9_station_49 ?_
          refine va_get (D := D) (ci := 4) (v := .int (nI u_1)) (C := RX4) (T := TX4) (N := 3) hx hb hts iX4 hown hK hP 2 rfl rfl 2 (by decide) (hts (.fieldLink RX9 233 "DeepHole$Path" "stations" "I") (by decide +kernel)) (fun _ h9 => h9) rfl dX9_station_50 ?_
          refine lv_goto (tgt := 58) hx hb dX9_station_53 (by decide) ?_
          have hP9 := hP.sub (ws' := [(x0, .inr (9, [.ref sx, .ref g0, .ref w0, .ref k0, .ref la, .ref tr, .ref u0, .ref pt, .ref ap, .ref sp, .int fd])), (pt, .inl (cP, 2, .inr (.inr (.inr (.inr ptf))))), (pa, .inr (4, [.ref xa, .ref ya, .int (nI u_1)])), (xa, .inl (cI, 41, .inl u_2)), (ya, .inl (cI, 41, .inl u_3))]) [0, 1, 2, 3, 4] rfl
          have hD9 := hD.sub (ws' := [(x0, .inr (9, [.ref sx, .ref g0, .ref w0, .ref k0, .ref la, .ref tr, .ref u0, .ref pt, .ref ap, .ref sp, .int fd])), (pt, .inl (cP, 2, .inr (.inr (.inr (.inr ptf))))), (pa, .inr (4, [.ref xa, .ref ya, .int (nI u_1)])), (xa, .inl (cI, 41, .inl u_2)), (ya, .inl (cI, 41, .inl u_3))]) [0, 1, 2, 3, 4] (by decide) rfl
          exact W.iret (v := nI u_1) hx hb hr (fun t ht hW => ⟨⟨_, (u_1, u_2, u_3), rfl, (by have hC := And.intro c_14 (show (sd = -1 ∨ sd = 1) from Or.inl c_19); unfold aStat sStat; rw [if_pos hC, if_pos hC, nI_clamp (by omega), if_pos c_41]; exact ⟨by rw [goP_1 hw_38 c_41], hw_38⟩), by rw [ht]; exact hP9, hD9⟩, hS.F ht⟩) hS.2.2 dX9_station_58
      ·
        refine lv_iload_n hx hb dX9_station_22 rfl (lv_at hl 3 rfl) ?_
        refine lv_iconst (v := 1) hx hb dX9_station_23 (by decide) ?_
        refine lv_icmp_eq (tgt := 30) hx hb dX9_station_24 (by decide) (fun c_24 => ?_) (fun c_24 => ?_)
        ·
          obtain ⟨tn, htn, rfl⟩ := nat_of (hi := 9) (n := 9) (by decide) c_14
          refine lv_aload_n hx hb dX9_station_30 rfl (lv_at hl 0 rfl) ?_
          refine va_get (D := D) (ci := 9) (v := .ref pt) (C := RX9) (T := TX9) (N := 11) hx hb hts iX9 hown hK hP 0 rfl rfl 7 (by decide) (hts (.fieldLink RX9 24 "DeepHole" "paths" "[LDeepHole$Path;") (by decide +kernel)) (fun _ h9 => h9) rfl dX9_station_31 ?_
          refine lv_iload_n hx hb dX9_station_34 rfl (lv_at hl 1 rfl) ?_
          refine rd_q hx hb hK hP 1 2 rfl rfl (k := k) (by omega) (by decide) (hpt) dX9_station_35 ?_
          refine lv_iload_n hx hb dX9_station_36 rfl (lv_at hl 2 rfl) ?_
          refine lv_iload_n hx hb dX9_station_37 rfl (lv_at hl 3 rfl) ?_
          refine w_VX (wc := [(pa, .inr (4, [.ref xa, .ref ya, .int (nI na)])), (xa, .inl (cI, 41, .inl xs)), (ya, .inl (cI, 41, .inl ys))]) (wr := [(x0, .inr (9, [.ref sx, .ref g0, .ref w0, .ref k0, .ref la, .ref tr, .ref u0, .ref pt, .ref ap, .ref sp, .int fd])), (pt, .inl (cP, 2, .inr (.inr (.inr (.inr ptf)))))]) (b := pa) ⟨hx, hb, hml, hown, hts⟩ [.int (nI tn), .int sd] [] (c_X4_goOn  (by first | assumption | omega) (by first | assumption | omega)) (cwV 2 hts gX9_station_X4_goOn rfl rfl rfl (by decide +kernel) ⟨Nat.le_of_ble_eq_true rfl, Nat.le_of_ble_eq_true rfl⟩) hT hK hN hP hD hS hA [2, 3, 4] [0, 1] rfl (by decide) rfl (by decide) (by decide) (ci := 4) rfl rfl rfl rfl hl.1 rfl (Nat.le_of_ble_eq_true rfl) dX9_station_38 ⟨Nat.zero_le _, Nat.zero_le _⟩ (fun r u H locs hw hP hD hS => ?_)
          obtain ⟨u_4, u_5, u_6⟩ := u
          try dsimp only at hw
          have hP : va_P D vwCl [(x0, .inr (9, [.ref sx, .ref g0, .ref w0, .ref k0, .ref la, .ref tr, .ref u0, .ref pt, .ref ap, .ref sp, .int fd])), (pt, .inl (cP, 2, .inr (.inr (.inr (.inr ptf))))), (pa, .inr (4, [.ref xa, .ref ya, .int (nI u_4)])), (xa, .inl (cI, 41, .inl u_5)), (ya, .inl (cI, 41, .inl u_6))] H := hP
          have hD : va_D A [(x0, .inr (9, [.ref sx, .ref g0, .ref w0, .ref k0, .ref la, .ref tr, .ref u0, .ref pt, .ref ap, .ref sp, .int fd])), (pt, .inl (cP, 2, .inr (.inr (.inr (.inr ptf))))), (pa, .inr (4, [.ref xa, .ref ya, .int (nI u_4)])), (xa, .inl (cI, 41, .inl u_5)), (ya, .inl (cI, 41, .inl u_6))] := hD
          obtain ⟨hw, hw_38⟩ := hw
          subst hw
          refine lv_if_eq (tgt := 56) hx hb dX9_station_41 (by decide) (fun c_41 => ?_) (fun c_41 => ?_)
          ·
            have c_41 := bz c_41
            refine lv_bipush (v := (-4)) hx hb dX9_station_56 (by decide) ?_
            have hP9 := hP.sub (ws' := [(x0, .inr (9, [.ref sx, .ref g0, .ref w0, .ref k0, .ref la, .ref tr, .ref u0, .ref pt, .ref ap, .ref sp, .int fd])), (pt, .inl (cP, 2, .inr (.inr (.inr (.inr ptf))))), (pa, .inr (4, [.ref xa, .ref ya, .int (nI u_4)])), (xa, .inl (cI, 41, .inl u_5)), (ya, .inl (cI, 41, .inl u_6))]) [0, 1, 2, 3, 4] rfl
            have hD9 := hD.sub (ws' := [(x0, .inr (9, [.ref sx, .ref g0, .ref w0, .ref k0, .ref la, .ref tr, .ref u0, .ref pt, .ref ap, .ref sp, .int fd])), (pt, .inl (cP, 2, .inr (.inr (.inr (.inr ptf))))), (pa, .inr (4, [.ref xa, .ref ya, .int (nI u_4)])), (xa, .inl (cI, 41, .inl u_5)), (ya, .inl (cI, 41, .inl u_6))]) [0, 1, 2, 3, 4] (by decide) rfl
            exact W.iret (v := (-4)) hx hb hr (fun t ht hW => ⟨⟨_, (u_4, u_5, u_6), rfl, (by have hC := And.intro c_14 (show (sd = -1 ∨ sd = 1) from Or.inr c_24); unfold aStat sStat; rw [if_pos hC, if_pos hC, nI_clamp (by omega), if_neg c_41]; exact ⟨rfl, hw_38⟩), by rw [ht]; exact hP9, hD9⟩, hS.F ht⟩) hS.2.2 dX9_station_58
          ·
            have c_41 := bnz c_41
            refine lv_aload_n hx hb dX9_station_44 rfl (lv_at hl 0 rfl) ?_
            refine va_get (D := D) (ci := 9) (v := .ref pt) (C := RX9) (T := TX9) (N := 11) hx hb hts iX9 hown hK hP 0 rfl rfl 7 (by decide) (hts (.fieldLink RX9 24 "DeepHole" "paths" "[LDeepHole$Path;") (by decide +kernel)) (fun _ h9 => h9) rfl dX9_station_45 ?_
            refine lv_iload_n hx hb dX9_station_48 rfl (lv_at hl 1 rfl) ?_
            refine rd_q hx hb hK hP 1 2 rfl rfl (k := k) (by omega) (by decide) (hpt) dX9_station_49 ?_
            refine va_get (D := D) (ci := 4) (v := .int (nI u_4)) (C := RX4) (T := TX4) (N := 3) hx hb hts iX4 hown hK hP 2 rfl rfl 2 (by decide) (hts (.fieldLink RX9 233 "DeepHole$Path" "stations" "I") (by decide +kernel)) (fun _ h9 => h9) rfl dX9_station_50 ?_
            refine lv_goto (tgt := 58) hx hb dX9_station_53 (by decide) ?_
            have hP9 := hP.sub (ws' := [(x0, .inr (9, [.ref sx, .ref g0, .ref w0, .ref k0, .ref la, .ref tr, .ref u0, .ref pt, .ref ap, .ref sp, .int fd])), (pt, .inl (cP, 2, .inr (.inr (.inr (.inr ptf))))), (pa, .inr (4, [.ref xa, .ref ya, .int (nI u_4)])), (xa, .inl (cI, 41, .inl u_5)), (ya, .inl (cI, 41, .inl u_6))]) [0, 1, 2, 3, 4] rfl
            have hD9 := hD.sub (ws' := [(x0, .inr (9, [.ref sx, .ref g0, .ref w0, .ref k0, .ref la, .ref tr, .ref u0, .ref pt, .ref ap, .ref sp, .int fd])), (pt, .inl (cP, 2, .inr (.inr (.inr (.inr ptf))))), (pa, .inr (4, [.ref xa, .ref ya, .int (nI u_4)])), (xa, .inl (cI, 41, .inl u_5)), (ya, .inl (cI, 41, .inl u_6))]) [0, 1, 2, 3, 4] (by decide) rfl
            exact W.iret (v := nI u_4) hx hb hr (fun t ht hW => ⟨⟨_, (u_4, u_5, u_6), rfl, (by have hC := And.intro c_14 (show (sd = -1 ∨ sd = 1) from Or.inr c_24); unfold aStat sStat; rw [if_pos hC, if_pos hC, nI_clamp (by omega), if_pos c_41]; exact ⟨by rw [goP_1 hw_38 c_41], hw_38⟩), by rw [ht]; exact hP9, hD9⟩, hS.F ht⟩) hS.2.2 dX9_station_58
        ·
          refine lv_bipush (v := (-2)) hx hb dX9_station_27 (by decide) ?_
          have hP9 := hP.sub (ws' := [(x0, .inr (9, [.ref sx, .ref g0, .ref w0, .ref k0, .ref la, .ref tr, .ref u0, .ref pt, .ref ap, .ref sp, .int fd])), (pt, .inl (cP, 2, .inr (.inr (.inr (.inr ptf))))), (pa, .inr (4, [.ref xa, .ref ya, .int (nI na)])), (xa, .inl (cI, 41, .inl xs)), (ya, .inl (cI, 41, .inl ys))]) [0, 1, 2, 3, 4] rfl
          have hD9 := hD.sub (ws' := [(x0, .inr (9, [.ref sx, .ref g0, .ref w0, .ref k0, .ref la, .ref tr, .ref u0, .ref pt, .ref ap, .ref sp, .int fd])), (pt, .inl (cP, 2, .inr (.inr (.inr (.inr ptf))))), (pa, .inr (4, [.ref xa, .ref ya, .int (nI na)])), (xa, .inl (cI, 41, .inl xs)), (ya, .inl (cI, 41, .inl ys))]) [0, 1, 2, 3, 4] (by decide) rfl
          exact W.iret (v := (-2)) hx hb hr (fun t ht hW => ⟨⟨_, (na, xs, ys), rfl, (by unfold aStat sStat; first | rw [if_neg (fun h => c_14 h.1), if_neg (fun h => c_14 h.1)]; exact ⟨rfl, rfl⟩ | rw [if_neg (fun h => h.2.elim c_19 c_24), if_neg (fun h => h.2.elim c_19 c_24)]; exact ⟨rfl, rfl⟩), by rw [ht]; exact hP9, hD9⟩, hS.F ht⟩) hS.2.2 dX9_station_29

set_option maxHeartbeats 4000000 in
set_option maxRecDepth 100000 in
theorem c_X9_station_b {l : Launch} {D : va_G} {cI cS cP : ClassId} {sz : Nat} {x0 sx g0 w0 k0 la tr u0 pt ap sp : Nat} {fd : Int32} {h1 t1 sd : Int32} (hbad : ¬ (0 ≤ h1 ∧ h1 ≤ 1)) : Met l yX9_station wsX9_station ({ frames := 2, cells := 0, slots := 0, locals := 42 }) (PC D (TY cI cS cP) [.ref x0, .int h1, .int t1, .int sd] sz [(x0, .inr (9, [.ref sx, .ref g0, .ref w0, .ref k0, .ref la, .ref tr, .ref u0, .ref pt, .ref ap, .ref sp, .int fd]))]) (vp_Si (fun r => r = -2)) 0 0 (fun _ => False) := by
  refine Met.ofW (cc := cX9_station) (maxL := 4) (ret := (some .int)) (by decide) rfl ?_
  intro p e s m args below meth c s₁ B hml hv
  obtain ⟨rfl, hsz, hP, hK, hD0, hN⟩ := hv
  have hx := B.exec
  have hb := B.bytes
  have hr := B.returns
  have hts := atoms_spec (ws := wsX9_station) B.pre
  have hown : s.vm.findClass RX9 = some m.cls := findClass_of_methodNamed B.named
  have hlocks := B.notSynchronized
  subst hsz
  have hD := hD0
  have hP : va_P D vwCl [(x0, .inr (9, [.ref sx, .ref g0, .ref w0, .ref k0, .ref la, .ref tr, .ref u0, .ref pt, .ref ap, .ref sp, .int fd]))] s.heap := hP
  have hl := lv_entry ([.ref x0, .int h1, .int t1, .int sd]) (n := 4) (Nat.le_of_ble_eq_true rfl)
  rw [lg_entry_eq]
  generalize (lg_sl ([.ref x0, .int h1, .int t1, .int sd]) ++ List.replicate (4 - (lg_sl ([.ref x0, .int h1, .int t1, .int sd])).length) Slot.unset).toArray = ls at hl ⊢
  have hl : lv_has ls 4 [(0, .ref x0), (1, .int h1), (2, .int t1), (3, .int sd)] := hl
  refine lv_iload_n hx hb dX9_station_0 rfl (lv_at hl 1 rfl) ?_
  refine q_S (tys := TY cI cS cP) (D := D) ⟨hx, hb, hml, hown, hts⟩ [.int h1] [] c_X9_isHole (va_cwS 1 hts gX9_station_X9_isHole rfl rfl rfl (by decide +kernel) ⟨Nat.le_of_ble_eq_true rfl, Nat.le_of_ble_eq_true rfl⟩) hK hN rfl hl.1 rfl (Nat.le_of_ble_eq_true rfl) dX9_station_1 ⟨Nat.zero_le _, Nat.zero_le _⟩ (fun r hw => ?_)
  subst hw
  refine lv_if_eq (tgt := 27) hx hb dX9_station_4 (by decide) (fun c_4 => ?_) (fun c_4 => ?_)
  ·
    have c_4 := bz c_4
    refine lv_bipush (v := (-2)) hx hb dX9_station_27 (by decide) ?_
    exact W.iret (v := (-2)) hx hb hr (fun t ht hW => ⟨_, rfl, (by rfl), ht⟩) (fun _ h => absurd h List.not_mem_nil) dX9_station_29
  ·
    have c_4 := bnz c_4
    exact absurd c_4 hbad

set_option maxHeartbeats 4000000 in
set_option maxRecDepth 100000 in
theorem c_X9_place {l : Launch} {D : va_G} {cI cS cP : ClassId} {sz : Nat} {x0 sx g0 w0 k0 la tr u0 ap sp : Nat} {fd : Int32} {pt : Nat} {ptf : Nat → Option Nat} {pa xa ya na : Nat} {xs ys : Nat → Int32} {k : Nat} {i1 wh_ : Int32} (hk : k < 2) (hpt : ptf k = some pa) (hna : na ≤ 40) : Met l yX9_place wsX9_place ({ frames := 2, cells := 0, slots := 0, locals := 42 }) (PC D (TY cI cS cP) [.ref x0, .int (nI k), .int i1, .int wh_] sz [(x0, .inr (9, [.ref sx, .ref g0, .ref w0, .ref k0, .ref la, .ref tr, .ref u0, .ref pt, .ref ap, .ref sp, .int fd])), (pt, .inl (cP, 2, .inr (.inr (.inr (.inr ptf))))), (pa, .inr (4, [.ref xa, .ref ya, .int (nI na)])), (xa, .inl (cI, 41, .inl xs)), (ya, .inl (cI, 41, .inl ys))]) (vp_Si (fun r => r = aPlace na xs ys i1 wh_)) 0 0 (fun _ => False) := by
  refine Met.ofW (cc := cX9_place) (maxL := 4) (ret := (some .int)) (by decide) rfl ?_
  intro p e s m args below meth c s₁ B hml hv
  obtain ⟨rfl, hsz, hP, hK, hD0, hN⟩ := hv
  have hx := B.exec
  have hb := B.bytes
  have hr := B.returns
  have hts := atoms_spec (ws := wsX9_place) B.pre
  have hown : s.vm.findClass RX9 = some m.cls := findClass_of_methodNamed B.named
  have hlocks := B.notSynchronized
  subst hsz
  have iX4 : ∀ w ∈ u_ws RX4 TX4 3, w ∈ wsX9_place := by decide +kernel
  have iX9 : ∀ w ∈ u_ws RX9 TX9 11, w ∈ wsX9_place := by decide +kernel
  have hD := hD0
  have hP : va_P D vwCl [(x0, .inr (9, [.ref sx, .ref g0, .ref w0, .ref k0, .ref la, .ref tr, .ref u0, .ref pt, .ref ap, .ref sp, .int fd])), (pt, .inl (cP, 2, .inr (.inr (.inr (.inr ptf))))), (pa, .inr (4, [.ref xa, .ref ya, .int (nI na)])), (xa, .inl (cI, 41, .inl xs)), (ya, .inl (cI, 41, .inl ys))] s.heap := hP
  have hl := lv_entry ([.ref x0, .int (nI k), .int i1, .int wh_]) (n := 4) (Nat.le_of_ble_eq_true rfl)
  rw [lg_entry_eq]
  generalize (lg_sl ([.ref x0, .int (nI k), .int i1, .int wh_]) ++ List.replicate (4 - (lg_sl ([.ref x0, .int (nI k), .int i1, .int wh_])).length) Slot.unset).toArray = ls at hl ⊢
  have hl : lv_has ls 4 [(0, .ref x0), (1, .int (nI k)), (2, .int i1), (3, .int wh_)] := hl
  refine lv_iload_n hx hb dX9_place_0 rfl (lv_at hl 1 rfl) ?_
  refine q_S (tys := TY cI cS cP) (D := D) ⟨hx, hb, hml, hown, hts⟩ [.int (nI k)] [] c_X9_isHole (va_cwS 1 hts gX9_place_X9_isHole rfl rfl rfl (by decide +kernel) ⟨Nat.le_of_ble_eq_true rfl, Nat.le_of_ble_eq_true rfl⟩) hK hN rfl hl.1 rfl (Nat.le_of_ble_eq_true rfl) dX9_place_1 ⟨Nat.zero_le _, Nat.zero_le _⟩ (fun r hw => ?_)
  subst hw
  refine lv_if_eq (tgt := 33) hx hb dX9_place_4 (by decide) (fun c_4 => ?_) (fun c_4 => ?_)
  ·
    have c_4 := bz c_4
    exact absurd (show (0 : Int32) ≤ nI k ∧ nI k ≤ 1 from ⟨nI_pos' (by omega), nI_le (b := 1) (by omega) (by decide)⟩) c_4
  ·
    have c_4 := bnz c_4
    refine lv_iload_n hx hb dX9_place_7 rfl (lv_at hl 2 rfl) ?_
    refine lv_iconst (v := 0) hx hb dX9_place_8 (by decide) ?_
    refine lv_aload_n hx hb dX9_place_9 rfl (lv_at hl 0 rfl) ?_
    refine va_get (D := D) (ci := 9) (v := .ref pt) (C := RX9) (T := TX9) (N := 11) hx hb hts iX9 hown hK hP 0 rfl rfl 7 (by decide) (hts (.fieldLink RX9 24 "DeepHole" "paths" "[LDeepHole$Path;") (by decide +kernel)) (fun _ h9 => h9) rfl dX9_place_10 ?_
    refine lv_iload_n hx hb dX9_place_13 rfl (lv_at hl 1 rfl) ?_
    refine rd_q hx hb hK hP 1 2 rfl rfl (k := k) (by omega) (by decide) (hpt) dX9_place_14 ?_
    refine va_get (D := D) (ci := 4) (v := .int (nI na)) (C := RX4) (T := TX4) (N := 3) hx hb hts iX4 hown hK hP 2 rfl rfl 2 (by decide) (hts (.fieldLink RX9 233 "DeepHole$Path" "stations" "I") (by decide +kernel)) (fun _ h9 => h9) rfl dX9_place_15 ?_
    refine q_S (tys := TY cI cS cP) (D := D) ⟨hx, hb, hml, hown, hts⟩ [.int i1, .int (0 : Int32), .int (nI na)] [] c_X9_within (va_cwS 3 hts gX9_place_X9_within rfl rfl rfl (by decide +kernel) ⟨Nat.le_of_ble_eq_true rfl, Nat.le_of_ble_eq_true rfl⟩) hK hN rfl hl.1 rfl (Nat.le_of_ble_eq_true rfl) dX9_place_18 ⟨Nat.zero_le _, Nat.zero_le _⟩ (fun r hw => ?_)
    subst hw
    refine lv_if_eq (tgt := 33) hx hb dX9_place_21 (by decide) (fun c_21 => ?_) (fun c_21 => ?_)
    ·
      have c_21 := bz c_21
      refine lv_ldc hx hb hown (hts (.constant RX9 243 (-2147483648)) (by decide +kernel)) dX9_place_33 ?_
      exact W.iret (v := (-2147483648)) hx hb hr (fun t ht hW => ⟨_, rfl, (by unfold aPlace; first | rw [if_neg (fun h => c_21 h.1)] | rw [if_neg (fun h => c_30 h.2)]), ht⟩) (fun _ h => absurd h List.not_mem_nil) dX9_place_35
    ·
      have c_21 := bnz c_21
      refine lv_iload_n hx hb dX9_place_24 rfl (lv_at hl 3 rfl) ?_
      refine lv_iconst (v := 0) hx hb dX9_place_25 (by decide) ?_
      refine lv_iconst (v := 1) hx hb dX9_place_26 (by decide) ?_
      refine q_S (tys := TY cI cS cP) (D := D) ⟨hx, hb, hml, hown, hts⟩ [.int wh_, .int (0 : Int32), .int (1 : Int32)] [] c_X9_within (va_cwS 3 hts gX9_place_X9_within rfl rfl rfl (by decide +kernel) ⟨Nat.le_of_ble_eq_true rfl, Nat.le_of_ble_eq_true rfl⟩) hK hN rfl hl.1 rfl (Nat.le_of_ble_eq_true rfl) dX9_place_27 ⟨Nat.zero_le _, Nat.zero_le _⟩ (fun r hw => ?_)
      subst hw
      refine lv_if_ne (tgt := 36) hx hb dX9_place_30 (by decide) (fun c_30 => ?_) (fun c_30 => ?_)
      ·
        have c_30 := bnz c_30
        obtain ⟨iN, hiN, rfl⟩ := nat_of (hi := nI na) (n := na) (nI_toInt (by omega)) c_21
        refine lv_iload_n hx hb dX9_place_36 rfl (lv_at hl 3 rfl) ?_
        refine lv_if_ne (tgt := 54) hx hb dX9_place_37 (by decide) (fun c_37 => ?_) (fun c_37 => ?_)
        ·
          refine lv_aload_n hx hb dX9_place_54 rfl (lv_at hl 0 rfl) ?_
          refine va_get (D := D) (ci := 9) (v := .ref pt) (C := RX9) (T := TX9) (N := 11) hx hb hts iX9 hown hK hP 0 rfl rfl 7 (by decide) (hts (.fieldLink RX9 24 "DeepHole" "paths" "[LDeepHole$Path;") (by decide +kernel)) (fun _ h9 => h9) rfl dX9_place_55 ?_
          refine lv_iload_n hx hb dX9_place_58 rfl (lv_at hl 1 rfl) ?_
          refine rd_q hx hb hK hP 1 2 rfl rfl (k := k) (by omega) (by decide) (hpt) dX9_place_59 ?_
          refine va_get (D := D) (ci := 4) (v := .ref ya) (C := RX4) (T := TX4) (N := 3) hx hb hts iX4 hown hK hP 2 rfl rfl 1 (by decide) (hts (.fieldLink RX9 248 "DeepHole$Path" "ys" "[I") (by decide +kernel)) (fun _ h9 => h9) rfl dX9_place_60 ?_
          refine lv_iload_n hx hb dX9_place_63 rfl (lv_at hl 2 rfl) ?_
          refine rd_i hx hb hK hP 4 0 rfl rfl (k := iN) (by omega) (by decide) dX9_place_64 ?_
          exact W.iret (v := ys iN) hx hb hr (fun t ht hW => ⟨_, rfl, (by have hC := And.intro c_21 c_30; unfold aPlace; rw [if_pos hC, nI_clamp (by omega)]; first | rw [if_pos c_37] | rw [if_neg c_37]), ht⟩) (fun _ h => absurd h List.not_mem_nil) dX9_place_65
        ·
          refine lv_aload_n hx hb dX9_place_40 rfl (lv_at hl 0 rfl) ?_
          refine va_get (D := D) (ci := 9) (v := .ref pt) (C := RX9) (T := TX9) (N := 11) hx hb hts iX9 hown hK hP 0 rfl rfl 7 (by decide) (hts (.fieldLink RX9 24 "DeepHole" "paths" "[LDeepHole$Path;") (by decide +kernel)) (fun _ h9 => h9) rfl dX9_place_41 ?_
          refine lv_iload_n hx hb dX9_place_44 rfl (lv_at hl 1 rfl) ?_
          refine rd_q hx hb hK hP 1 2 rfl rfl (k := k) (by omega) (by decide) (hpt) dX9_place_45 ?_
          refine va_get (D := D) (ci := 4) (v := .ref xa) (C := RX4) (T := TX4) (N := 3) hx hb hts iX4 hown hK hP 2 rfl rfl 0 (by decide) (hts (.fieldLink RX9 244 "DeepHole$Path" "xs" "[I") (by decide +kernel)) (fun _ h9 => h9) rfl dX9_place_46 ?_
          refine lv_iload_n hx hb dX9_place_49 rfl (lv_at hl 2 rfl) ?_
          refine rd_i hx hb hK hP 3 0 rfl rfl (k := iN) (by omega) (by decide) dX9_place_50 ?_
          refine lv_goto (tgt := 65) hx hb dX9_place_51 (by decide) ?_
          exact W.iret (v := xs iN) hx hb hr (fun t ht hW => ⟨_, rfl, (by have hC := And.intro c_21 c_30; unfold aPlace; rw [if_pos hC, nI_clamp (by omega)]; first | rw [if_pos c_37] | rw [if_neg c_37]), ht⟩) (fun _ h => absurd h List.not_mem_nil) dX9_place_65
      ·
        have c_30 := bz c_30
        refine lv_ldc hx hb hown (hts (.constant RX9 243 (-2147483648)) (by decide +kernel)) dX9_place_33 ?_
        exact W.iret (v := (-2147483648)) hx hb hr (fun t ht hW => ⟨_, rfl, (by unfold aPlace; first | rw [if_neg (fun h => c_21 h.1)] | rw [if_neg (fun h => c_30 h.2)]), ht⟩) (fun _ h => absurd h List.not_mem_nil) dX9_place_35

set_option maxHeartbeats 4000000 in
set_option maxRecDepth 100000 in
theorem c_X9_place_b {l : Launch} {D : va_G} {cI cS cP : ClassId} {sz : Nat} {x0 sx g0 w0 k0 la tr u0 pt ap sp : Nat} {fd : Int32} {h1 i1 wh_ : Int32} (hbad : ¬ (0 ≤ h1 ∧ h1 ≤ 1)) : Met l yX9_place wsX9_place ({ frames := 2, cells := 0, slots := 0, locals := 42 }) (PC D (TY cI cS cP) [.ref x0, .int h1, .int i1, .int wh_] sz [(x0, .inr (9, [.ref sx, .ref g0, .ref w0, .ref k0, .ref la, .ref tr, .ref u0, .ref pt, .ref ap, .ref sp, .int fd]))]) (vp_Si (fun r => r = -2147483648)) 0 0 (fun _ => False) := by
  refine Met.ofW (cc := cX9_place) (maxL := 4) (ret := (some .int)) (by decide) rfl ?_
  intro p e s m args below meth c s₁ B hml hv
  obtain ⟨rfl, hsz, hP, hK, hD0, hN⟩ := hv
  have hx := B.exec
  have hb := B.bytes
  have hr := B.returns
  have hts := atoms_spec (ws := wsX9_place) B.pre
  have hown : s.vm.findClass RX9 = some m.cls := findClass_of_methodNamed B.named
  have hlocks := B.notSynchronized
  subst hsz
  have hD := hD0
  have hP : va_P D vwCl [(x0, .inr (9, [.ref sx, .ref g0, .ref w0, .ref k0, .ref la, .ref tr, .ref u0, .ref pt, .ref ap, .ref sp, .int fd]))] s.heap := hP
  have hl := lv_entry ([.ref x0, .int h1, .int i1, .int wh_]) (n := 4) (Nat.le_of_ble_eq_true rfl)
  rw [lg_entry_eq]
  generalize (lg_sl ([.ref x0, .int h1, .int i1, .int wh_]) ++ List.replicate (4 - (lg_sl ([.ref x0, .int h1, .int i1, .int wh_])).length) Slot.unset).toArray = ls at hl ⊢
  have hl : lv_has ls 4 [(0, .ref x0), (1, .int h1), (2, .int i1), (3, .int wh_)] := hl
  refine lv_iload_n hx hb dX9_place_0 rfl (lv_at hl 1 rfl) ?_
  refine q_S (tys := TY cI cS cP) (D := D) ⟨hx, hb, hml, hown, hts⟩ [.int h1] [] c_X9_isHole (va_cwS 1 hts gX9_place_X9_isHole rfl rfl rfl (by decide +kernel) ⟨Nat.le_of_ble_eq_true rfl, Nat.le_of_ble_eq_true rfl⟩) hK hN rfl hl.1 rfl (Nat.le_of_ble_eq_true rfl) dX9_place_1 ⟨Nat.zero_le _, Nat.zero_le _⟩ (fun r hw => ?_)
  subst hw
  refine lv_if_eq (tgt := 33) hx hb dX9_place_4 (by decide) (fun c_4 => ?_) (fun c_4 => ?_)
  ·
    have c_4 := bz c_4
    refine lv_ldc hx hb hown (hts (.constant RX9 243 (-2147483648)) (by decide +kernel)) dX9_place_33 ?_
    exact W.iret (v := (-2147483648)) hx hb hr (fun t ht hW => ⟨_, rfl, (by rfl), ht⟩) (fun _ h => absurd h List.not_mem_nil) dX9_place_35
  ·
    have c_4 := bnz c_4
    exact absurd c_4 hbad

set_option maxHeartbeats 4000000 in
set_option maxRecDepth 100000 in
theorem c_X9_nearest {l : Launch} {D : va_G} {cI cS cP : ClassId} {sz : Nat} {x0 sx g0 w0 k0 la tr u0 sp : Nat} {fd : Int32} {pt : Nat} {ptf : Nat → Option Nat} {ap : Nat} {sq : Int64} {fi se : Int32} {pa xa ya na : Nat} {xs ys : Nat → Int32} {pb xb yb nb : Nat} {xt yt : Nat → Int32} (hp0 : ptf 0 = some pa) (hp1 : ptf 1 = some pb) (hna : na ≤ 40) (hnb : nb ≤ 40) : Met l yX9_nearest wsX9_nearest ({ frames := 1, cells := 0, slots := 0, locals := 30 }) (PC D (TY cI cS cP) [.ref x0] sz [(x0, .inr (9, [.ref sx, .ref g0, .ref w0, .ref k0, .ref la, .ref tr, .ref u0, .ref pt, .ref ap, .ref sp, .int fd])), (pt, .inl (cP, 2, .inr (.inr (.inr (.inr ptf))))), (ap, .inr (0, [.long sq, .int fi, .int se])), (pa, .inr (4, [.ref xa, .ref ya, .int (nI na)])), (xa, .inl (cI, 41, .inl xs)), (ya, .inl (cI, 41, .inl ys)), (pb, .inr (4, [.ref xb, .ref yb, .int (nI nb)])), (xb, .inl (cI, 41, .inl xt)), (yb, .inl (cI, 41, .inl yt))]) (QL D (fun (r : Int64) (u : Int64 × Int32 × Int32) => r = nearA (NR na nb xs ys xt yt)) (fun (u : Int64 × Int32 × Int32) => [(x0, .inr (9, [.ref sx, .ref g0, .ref w0, .ref k0, .ref la, .ref tr, .ref u0, .ref pt, .ref ap, .ref sp, .int fd])), (pt, .inl (cP, 2, .inr (.inr (.inr (.inr ptf))))), (ap, .inr (0, [.long u.1, .int u.2.1, .int u.2.2])), (pa, .inr (4, [.ref xa, .ref ya, .int (nI na)])), (xa, .inl (cI, 41, .inl xs)), (ya, .inl (cI, 41, .inl ys)), (pb, .inr (4, [.ref xb, .ref yb, .int (nI nb)])), (xb, .inl (cI, 41, .inl xt)), (yb, .inl (cI, 41, .inl yt))]) (va_A [(x0, .inr (9, [.ref sx, .ref g0, .ref w0, .ref k0, .ref la, .ref tr, .ref u0, .ref pt, .ref ap, .ref sp, .int fd])), (pt, .inl (cP, 2, .inr (.inr (.inr (.inr ptf))))), (ap, .inr (0, [.long sq, .int fi, .int se])), (pa, .inr (4, [.ref xa, .ref ya, .int (nI na)])), (xa, .inl (cI, 41, .inl xs)), (ya, .inl (cI, 41, .inl ys)), (pb, .inr (4, [.ref xb, .ref yb, .int (nI nb)])), (xb, .inl (cI, 41, .inl xt)), (yb, .inl (cI, 41, .inl yt))] sz)) 0 0 (va_A [(x0, .inr (9, [.ref sx, .ref g0, .ref w0, .ref k0, .ref la, .ref tr, .ref u0, .ref pt, .ref ap, .ref sp, .int fd])), (pt, .inl (cP, 2, .inr (.inr (.inr (.inr ptf))))), (ap, .inr (0, [.long sq, .int fi, .int se])), (pa, .inr (4, [.ref xa, .ref ya, .int (nI na)])), (xa, .inl (cI, 41, .inl xs)), (ya, .inl (cI, 41, .inl ys)), (pb, .inr (4, [.ref xb, .ref yb, .int (nI nb)])), (xb, .inl (cI, 41, .inl xt)), (yb, .inl (cI, 41, .inl yt))] sz) := by
  refine Met.ofW (cc := cX9_nearest) (maxL := 1) (ret := (some .long)) (by decide) rfl ?_
  intro p e s m args below meth c s₁ B hml hv
  obtain ⟨rfl, hsz, hP, hK, hD0, hN⟩ := hv
  have hx := B.exec
  have hb := B.bytes
  have hr := B.returns
  have hts := atoms_spec (ws := wsX9_nearest) B.pre
  have hown : s.vm.findClass RX9 = some m.cls := findClass_of_methodNamed B.named
  have hlocks := B.notSynchronized
  subst hsz
  have iX0 : ∀ w ∈ u_ws RX0 TX0 3, w ∈ wsX9_nearest := by decide +kernel
  have iX9 : ∀ w ∈ u_ws RX9 TX9 11, w ∈ wsX9_nearest := by decide +kernel
  have hD := hD0.self (sz := s.heap.size)
  generalize hAe : va_A [(x0, .inr (9, [.ref sx, .ref g0, .ref w0, .ref k0, .ref la, .ref tr, .ref u0, .ref pt, .ref ap, .ref sp, .int fd])), (pt, .inl (cP, 2, .inr (.inr (.inr (.inr ptf))))), (ap, .inr (0, [.long sq, .int fi, .int se])), (pa, .inr (4, [.ref xa, .ref ya, .int (nI na)])), (xa, .inl (cI, 41, .inl xs)), (ya, .inl (cI, 41, .inl ys)), (pb, .inr (4, [.ref xb, .ref yb, .int (nI nb)])), (xb, .inl (cI, 41, .inl xt)), (yb, .inl (cI, 41, .inl yt))] s.heap.size = A at hD ⊢
  have hA : ∀ q : Nat, s.heap.size ≤ q → A q := fun q h => by rw [← hAe]; exact Or.inr h
  have hS : va_S A s.heap s.heap [] := va_S.rf
  have hP : va_P D vwCl [(x0, .inr (9, [.ref sx, .ref g0, .ref w0, .ref k0, .ref la, .ref tr, .ref u0, .ref pt, .ref ap, .ref sp, .int fd])), (pt, .inl (cP, 2, .inr (.inr (.inr (.inr ptf))))), (ap, .inr (0, [.long sq, .int fi, .int se])), (pa, .inr (4, [.ref xa, .ref ya, .int (nI na)])), (xa, .inl (cI, 41, .inl xs)), (ya, .inl (cI, 41, .inl ys)), (pb, .inr (4, [.ref xb, .ref yb, .int (nI nb)])), (xb, .inl (cI, 41, .inl xt)), (yb, .inl (cI, 41, .inl yt))] s.heap := hP
  have hl := lv_entry ([.ref x0]) (n := 1) (Nat.le_of_ble_eq_true rfl)
  rw [lg_entry_eq]
  generalize (lg_sl ([.ref x0]) ++ List.replicate (1 - (lg_sl ([.ref x0])).length) Slot.unset).toArray = ls at hl ⊢
  have hl : lv_has ls 1 [(0, .ref x0)] := hl
  refine lv_aload_n hx hb dX9_nearest_0 rfl (lv_at hl 0 rfl) ?_
  refine va_get (D := D) (ci := 9) (v := .ref ap) (C := RX9) (T := TX9) (N := 11) hx hb hts iX9 hown hK hP 0 rfl rfl 8 (by decide) (hts (.fieldLink RX9 31 "DeepHole" "approach" "LDeepHole$Approach;") (by decide +kernel)) (fun _ h9 => h9) rfl dX9_nearest_1 ?_
  refine lv_aload_n hx hb dX9_nearest_4 rfl (lv_at hl 0 rfl) ?_
  refine va_get (D := D) (ci := 9) (v := .ref pt) (C := RX9) (T := TX9) (N := 11) hx hb hts iX9 hown hK hP 0 rfl rfl 7 (by decide) (hts (.fieldLink RX9 24 "DeepHole" "paths" "[LDeepHole$Path;") (by decide +kernel)) (fun _ h9 => h9) rfl dX9_nearest_5 ?_
  refine lv_iconst (v := 0) hx hb dX9_nearest_8 (by decide) ?_
  refine rd_q hx hb hK hP 1 2 rfl rfl (k := 0) (by omega) (by decide) (hp0) dX9_nearest_9 ?_
  refine lv_aload_n hx hb dX9_nearest_10 rfl (lv_at hl 0 rfl) ?_
  refine va_get (D := D) (ci := 9) (v := .ref pt) (C := RX9) (T := TX9) (N := 11) hx hb hts iX9 hown hK hP 0 rfl rfl 7 (by decide) (hts (.fieldLink RX9 24 "DeepHole" "paths" "[LDeepHole$Path;") (by decide +kernel)) (fun _ h9 => h9) rfl dX9_nearest_11 ?_
  refine lv_iconst (v := 1) hx hb dX9_nearest_14 (by decide) ?_
  refine rd_q hx hb hK hP 1 2 rfl rfl (k := 1) (by omega) (by decide) (hp1) dX9_nearest_15 ?_
  refine w_V (wc := [(ap, .inr (0, [.long sq, .int fi, .int se])), (pa, .inr (4, [.ref xa, .ref ya, .int (nI na)])), (xa, .inl (cI, 41, .inl xs)), (ya, .inl (cI, 41, .inl ys)), (pb, .inr (4, [.ref xb, .ref yb, .int (nI nb)])), (xb, .inl (cI, 41, .inl xt)), (yb, .inl (cI, 41, .inl yt))]) (wr := [(x0, .inr (9, [.ref sx, .ref g0, .ref w0, .ref k0, .ref la, .ref tr, .ref u0, .ref pt, .ref ap, .ref sp, .int fd])), (pt, .inl (cP, 2, .inr (.inr (.inr (.inr ptf)))))]) (b := ap) ⟨hx, hb, hml, hown, hts⟩ [.ref pa, .ref pb] [] (c_X0_find  (by first | assumption | omega) (by first | assumption | omega)) (cwV 2 hts gX9_nearest_X0_find rfl rfl rfl (by decide +kernel) ⟨Nat.le_of_ble_eq_true rfl, Nat.le_of_ble_eq_true rfl⟩) hK hN hP hD hS hA [2, 3, 4, 5, 6, 7, 8] [0, 1] rfl (by decide) rfl (by decide) (by decide) (ci := 0) rfl rfl rfl rfl hl.1 rfl (Nat.le_of_ble_eq_true rfl) dX9_nearest_16 ⟨Nat.zero_le _, Nat.zero_le _⟩ (fun r u H locs hw hP hD hS => ?_)
  obtain ⟨u_1, u_2, u_3⟩ := u
  try dsimp only at hw
  have hP : va_P D vwCl [(x0, .inr (9, [.ref sx, .ref g0, .ref w0, .ref k0, .ref la, .ref tr, .ref u0, .ref pt, .ref ap, .ref sp, .int fd])), (pt, .inl (cP, 2, .inr (.inr (.inr (.inr ptf))))), (ap, .inr (0, [.long u_1, .int u_2, .int u_3])), (pa, .inr (4, [.ref xa, .ref ya, .int (nI na)])), (xa, .inl (cI, 41, .inl xs)), (ya, .inl (cI, 41, .inl ys)), (pb, .inr (4, [.ref xb, .ref yb, .int (nI nb)])), (xb, .inl (cI, 41, .inl xt)), (yb, .inl (cI, 41, .inl yt))] H := hP
  have hD : va_D A [(x0, .inr (9, [.ref sx, .ref g0, .ref w0, .ref k0, .ref la, .ref tr, .ref u0, .ref pt, .ref ap, .ref sp, .int fd])), (pt, .inl (cP, 2, .inr (.inr (.inr (.inr ptf))))), (ap, .inr (0, [.long u_1, .int u_2, .int u_3])), (pa, .inr (4, [.ref xa, .ref ya, .int (nI na)])), (xa, .inl (cI, 41, .inl xs)), (ya, .inl (cI, 41, .inl ys)), (pb, .inr (4, [.ref xb, .ref yb, .int (nI nb)])), (xb, .inl (cI, 41, .inl xt)), (yb, .inl (cI, 41, .inl yt))] := hD
  obtain ⟨hw, hw_16⟩ := hw
  subst hw
  refine lv_if_eq (tgt := 32) hx hb dX9_nearest_19 (by decide) (fun c_19 => ?_) (fun c_19 => ?_)
  ·
    have c_19 := bz c_19
    refine lv_bipush (v := (-3)) hx hb dX9_nearest_32 (by decide) ?_
    refine q_Sl (tys := TY cI cS cP) (D := D) ⟨hx, hb, hml, hown, hts⟩ [.int (-3 : Int32)] [] c_X9_refusal (va_cwS 1 hts gX9_nearest_X9_refusal rfl rfl rfl (by decide +kernel) ⟨Nat.le_of_ble_eq_true rfl, Nat.le_of_ble_eq_true rfl⟩) hK hN rfl hl.1 rfl (Nat.le_of_ble_eq_true rfl) dX9_nearest_34 ⟨Nat.zero_le _, Nat.zero_le _⟩ (fun r hw => ?_)
    subst hw
    have hP9 := hP.sub (ws' := [(x0, .inr (9, [.ref sx, .ref g0, .ref w0, .ref k0, .ref la, .ref tr, .ref u0, .ref pt, .ref ap, .ref sp, .int fd])), (pt, .inl (cP, 2, .inr (.inr (.inr (.inr ptf))))), (ap, .inr (0, [.long u_1, .int u_2, .int u_3])), (pa, .inr (4, [.ref xa, .ref ya, .int (nI na)])), (xa, .inl (cI, 41, .inl xs)), (ya, .inl (cI, 41, .inl ys)), (pb, .inr (4, [.ref xb, .ref yb, .int (nI nb)])), (xb, .inl (cI, 41, .inl xt)), (yb, .inl (cI, 41, .inl yt))]) [0, 1, 2, 3, 4, 5, 6, 7, 8] rfl
    have hD9 := hD.sub (ws' := [(x0, .inr (9, [.ref sx, .ref g0, .ref w0, .ref k0, .ref la, .ref tr, .ref u0, .ref pt, .ref ap, .ref sp, .int fd])), (pt, .inl (cP, 2, .inr (.inr (.inr (.inr ptf))))), (ap, .inr (0, [.long u_1, .int u_2, .int u_3])), (pa, .inr (4, [.ref xa, .ref ya, .int (nI na)])), (xa, .inl (cI, 41, .inl xs)), (ya, .inl (cI, 41, .inl ys)), (pb, .inr (4, [.ref xb, .ref yb, .int (nI nb)])), (xb, .inl (cI, 41, .inl xt)), (yb, .inl (cI, 41, .inl yt))]) [0, 1, 2, 3, 4, 5, 6, 7, 8] (by decide) rfl
    exact W.lret (v := (-9223372036854775808) - (-3 : Int32).toInt64) hx hb hr (fun t ht hW => ⟨⟨_, (u_1, u_2, u_3), rfl, (by rw [← jk_near (NR_of fi se), ← hw_16]; unfold nearA; rw [if_neg c_19]), by rw [ht]; exact hP9, hD9⟩, hS.F ht⟩) hS.2.2 dX9_nearest_37
  ·
    have c_19 := bnz c_19
    refine lv_aload_n hx hb dX9_nearest_22 rfl (lv_at hl 0 rfl) ?_
    refine va_get (D := D) (ci := 9) (v := .ref ap) (C := RX9) (T := TX9) (N := 11) hx hb hts iX9 hown hK hP 0 rfl rfl 8 (by decide) (hts (.fieldLink RX9 31 "DeepHole" "approach" "LDeepHole$Approach;") (by decide +kernel)) (fun _ h9 => h9) rfl dX9_nearest_23 ?_
    refine va_get (D := D) (ci := 0) (v := .long u_1) (C := RX0) (T := TX0) (N := 3) hx hb hts iX0 hown hK hP 2 rfl rfl 0 (by decide) (hts (.fieldLink RX9 255 "DeepHole$Approach" "square" "J") (by decide +kernel)) (fun _ h9 => h9) rfl dX9_nearest_26 ?_
    refine lv_goto (tgt := 37) hx hb dX9_nearest_29 (by decide) ?_
    have hP9 := hP.sub (ws' := [(x0, .inr (9, [.ref sx, .ref g0, .ref w0, .ref k0, .ref la, .ref tr, .ref u0, .ref pt, .ref ap, .ref sp, .int fd])), (pt, .inl (cP, 2, .inr (.inr (.inr (.inr ptf))))), (ap, .inr (0, [.long u_1, .int u_2, .int u_3])), (pa, .inr (4, [.ref xa, .ref ya, .int (nI na)])), (xa, .inl (cI, 41, .inl xs)), (ya, .inl (cI, 41, .inl ys)), (pb, .inr (4, [.ref xb, .ref yb, .int (nI nb)])), (xb, .inl (cI, 41, .inl xt)), (yb, .inl (cI, 41, .inl yt))]) [0, 1, 2, 3, 4, 5, 6, 7, 8] rfl
    have hD9 := hD.sub (ws' := [(x0, .inr (9, [.ref sx, .ref g0, .ref w0, .ref k0, .ref la, .ref tr, .ref u0, .ref pt, .ref ap, .ref sp, .int fd])), (pt, .inl (cP, 2, .inr (.inr (.inr (.inr ptf))))), (ap, .inr (0, [.long u_1, .int u_2, .int u_3])), (pa, .inr (4, [.ref xa, .ref ya, .int (nI na)])), (xa, .inl (cI, 41, .inl xs)), (ya, .inl (cI, 41, .inl ys)), (pb, .inr (4, [.ref xb, .ref yb, .int (nI nb)])), (xb, .inl (cI, 41, .inl xt)), (yb, .inl (cI, 41, .inl yt))]) [0, 1, 2, 3, 4, 5, 6, 7, 8] (by decide) rfl
    exact W.lret (v := u_1) hx hb hr (fun t ht hW => ⟨⟨_, (u_1, u_2, u_3), rfl, (by rw [← jk_near (NR_of fi se), ← hw_16]; unfold nearA; rw [if_pos c_19]), by rw [ht]; exact hP9, hD9⟩, hS.F ht⟩) hS.2.2 dX9_nearest_37

set_option maxHeartbeats 4000000 in
set_option maxRecDepth 100000 in
theorem c_X9_where {l : Launch} {D : va_G} {cI cS cP : ClassId} {sz : Nat} {x0 sx g0 w0 k0 la tr u0 sp : Nat} {fd : Int32} {pt : Nat} {ptf : Nat → Option Nat} {ap : Nat} {sq : Int64} {fi se : Int32} {pa xa ya na : Nat} {xs ys : Nat → Int32} {pb xb yb nb : Nat} {xt yt : Nat → Int32} {h1 : Int32} (hp0 : ptf 0 = some pa) (hp1 : ptf 1 = some pb) (hna : na ≤ 40) (hnb : nb ≤ 40) : Met l yX9_where wsX9_where ({ frames := 2, cells := 0, slots := 0, locals := 42 }) (PC D (TY cI cS cP) [.ref x0, .int h1] sz [(x0, .inr (9, [.ref sx, .ref g0, .ref w0, .ref k0, .ref la, .ref tr, .ref u0, .ref pt, .ref ap, .ref sp, .int fd])), (pt, .inl (cP, 2, .inr (.inr (.inr (.inr ptf))))), (ap, .inr (0, [.long sq, .int fi, .int se])), (pa, .inr (4, [.ref xa, .ref ya, .int (nI na)])), (xa, .inl (cI, 41, .inl xs)), (ya, .inl (cI, 41, .inl ys)), (pb, .inr (4, [.ref xb, .ref yb, .int (nI nb)])), (xb, .inl (cI, 41, .inl xt)), (yb, .inl (cI, 41, .inl yt))]) (QI D (fun (r : Int32) (u : Int64 × Int32 × Int32) => r = whereA (NR na nb xs ys xt yt) h1) (fun (u : Int64 × Int32 × Int32) => [(x0, .inr (9, [.ref sx, .ref g0, .ref w0, .ref k0, .ref la, .ref tr, .ref u0, .ref pt, .ref ap, .ref sp, .int fd])), (pt, .inl (cP, 2, .inr (.inr (.inr (.inr ptf))))), (ap, .inr (0, [.long u.1, .int u.2.1, .int u.2.2])), (pa, .inr (4, [.ref xa, .ref ya, .int (nI na)])), (xa, .inl (cI, 41, .inl xs)), (ya, .inl (cI, 41, .inl ys)), (pb, .inr (4, [.ref xb, .ref yb, .int (nI nb)])), (xb, .inl (cI, 41, .inl xt)), (yb, .inl (cI, 41, .inl yt))]) (va_A [(x0, .inr (9, [.ref sx, .ref g0, .ref w0, .ref k0, .ref la, .ref tr, .ref u0, .ref pt, .ref ap, .ref sp, .int fd])), (pt, .inl (cP, 2, .inr (.inr (.inr (.inr ptf))))), (ap, .inr (0, [.long sq, .int fi, .int se])), (pa, .inr (4, [.ref xa, .ref ya, .int (nI na)])), (xa, .inl (cI, 41, .inl xs)), (ya, .inl (cI, 41, .inl ys)), (pb, .inr (4, [.ref xb, .ref yb, .int (nI nb)])), (xb, .inl (cI, 41, .inl xt)), (yb, .inl (cI, 41, .inl yt))] sz)) 0 0 (va_A [(x0, .inr (9, [.ref sx, .ref g0, .ref w0, .ref k0, .ref la, .ref tr, .ref u0, .ref pt, .ref ap, .ref sp, .int fd])), (pt, .inl (cP, 2, .inr (.inr (.inr (.inr ptf))))), (ap, .inr (0, [.long sq, .int fi, .int se])), (pa, .inr (4, [.ref xa, .ref ya, .int (nI na)])), (xa, .inl (cI, 41, .inl xs)), (ya, .inl (cI, 41, .inl ys)), (pb, .inr (4, [.ref xb, .ref yb, .int (nI nb)])), (xb, .inl (cI, 41, .inl xt)), (yb, .inl (cI, 41, .inl yt))] sz) := by
  refine Met.ofW (cc := cX9_where) (maxL := 2) (ret := (some .int)) (by decide) rfl ?_
  intro p e s m args below meth c s₁ B hml hv
  obtain ⟨rfl, hsz, hP, hK, hD0, hN⟩ := hv
  have hx := B.exec
  have hb := B.bytes
  have hr := B.returns
  have hts := atoms_spec (ws := wsX9_where) B.pre
  have hown : s.vm.findClass RX9 = some m.cls := findClass_of_methodNamed B.named
  have hlocks := B.notSynchronized
  subst hsz
  have iX0 : ∀ w ∈ u_ws RX0 TX0 3, w ∈ wsX9_where := by decide +kernel
  have iX9 : ∀ w ∈ u_ws RX9 TX9 11, w ∈ wsX9_where := by decide +kernel
  have hD := hD0.self (sz := s.heap.size)
  generalize hAe : va_A [(x0, .inr (9, [.ref sx, .ref g0, .ref w0, .ref k0, .ref la, .ref tr, .ref u0, .ref pt, .ref ap, .ref sp, .int fd])), (pt, .inl (cP, 2, .inr (.inr (.inr (.inr ptf))))), (ap, .inr (0, [.long sq, .int fi, .int se])), (pa, .inr (4, [.ref xa, .ref ya, .int (nI na)])), (xa, .inl (cI, 41, .inl xs)), (ya, .inl (cI, 41, .inl ys)), (pb, .inr (4, [.ref xb, .ref yb, .int (nI nb)])), (xb, .inl (cI, 41, .inl xt)), (yb, .inl (cI, 41, .inl yt))] s.heap.size = A at hD ⊢
  have hA : ∀ q : Nat, s.heap.size ≤ q → A q := fun q h => by rw [← hAe]; exact Or.inr h
  have hS : va_S A s.heap s.heap [] := va_S.rf
  have hP : va_P D vwCl [(x0, .inr (9, [.ref sx, .ref g0, .ref w0, .ref k0, .ref la, .ref tr, .ref u0, .ref pt, .ref ap, .ref sp, .int fd])), (pt, .inl (cP, 2, .inr (.inr (.inr (.inr ptf))))), (ap, .inr (0, [.long sq, .int fi, .int se])), (pa, .inr (4, [.ref xa, .ref ya, .int (nI na)])), (xa, .inl (cI, 41, .inl xs)), (ya, .inl (cI, 41, .inl ys)), (pb, .inr (4, [.ref xb, .ref yb, .int (nI nb)])), (xb, .inl (cI, 41, .inl xt)), (yb, .inl (cI, 41, .inl yt))] s.heap := hP
  have hl := lv_entry ([.ref x0, .int h1]) (n := 2) (Nat.le_of_ble_eq_true rfl)
  rw [lg_entry_eq]
  generalize (lg_sl ([.ref x0, .int h1]) ++ List.replicate (2 - (lg_sl ([.ref x0, .int h1])).length) Slot.unset).toArray = ls at hl ⊢
  have hl : lv_has ls 2 [(0, .ref x0), (1, .int h1)] := hl
  refine lv_iload_n hx hb dX9_where_0 rfl (lv_at hl 1 rfl) ?_
  refine q_S (tys := TY cI cS cP) (D := D) ⟨hx, hb, hml, hown, hts⟩ [.int h1] [] c_X9_isHole (va_cwS 1 hts gX9_where_X9_isHole rfl rfl rfl (by decide +kernel) ⟨Nat.le_of_ble_eq_true rfl, Nat.le_of_ble_eq_true rfl⟩) hK hN rfl hl.1 rfl (Nat.le_of_ble_eq_true rfl) dX9_where_1 ⟨Nat.zero_le _, Nat.zero_le _⟩ (fun r hw => ?_)
  subst hw
  refine lv_if_ne (tgt := 10) hx hb dX9_where_4 (by decide) (fun c_4 => ?_) (fun c_4 => ?_)
  ·
    have c_4 := bnz c_4
    refine lv_aload_n hx hb dX9_where_10 rfl (lv_at hl 0 rfl) ?_
    refine va_get (D := D) (ci := 9) (v := .ref ap) (C := RX9) (T := TX9) (N := 11) hx hb hts iX9 hown hK hP 0 rfl rfl 8 (by decide) (hts (.fieldLink RX9 31 "DeepHole" "approach" "LDeepHole$Approach;") (by decide +kernel)) (fun _ h9 => h9) rfl dX9_where_11 ?_
    refine lv_aload_n hx hb dX9_where_14 rfl (lv_at hl 0 rfl) ?_
    refine va_get (D := D) (ci := 9) (v := .ref pt) (C := RX9) (T := TX9) (N := 11) hx hb hts iX9 hown hK hP 0 rfl rfl 7 (by decide) (hts (.fieldLink RX9 24 "DeepHole" "paths" "[LDeepHole$Path;") (by decide +kernel)) (fun _ h9 => h9) rfl dX9_where_15 ?_
    refine lv_iconst (v := 0) hx hb dX9_where_18 (by decide) ?_
    refine rd_q hx hb hK hP 1 2 rfl rfl (k := 0) (by omega) (by decide) (hp0) dX9_where_19 ?_
    refine lv_aload_n hx hb dX9_where_20 rfl (lv_at hl 0 rfl) ?_
    refine va_get (D := D) (ci := 9) (v := .ref pt) (C := RX9) (T := TX9) (N := 11) hx hb hts iX9 hown hK hP 0 rfl rfl 7 (by decide) (hts (.fieldLink RX9 24 "DeepHole" "paths" "[LDeepHole$Path;") (by decide +kernel)) (fun _ h9 => h9) rfl dX9_where_21 ?_
    refine lv_iconst (v := 1) hx hb dX9_where_24 (by decide) ?_
    refine rd_q hx hb hK hP 1 2 rfl rfl (k := 1) (by omega) (by decide) (hp1) dX9_where_25 ?_
    refine w_V (wc := [(ap, .inr (0, [.long sq, .int fi, .int se])), (pa, .inr (4, [.ref xa, .ref ya, .int (nI na)])), (xa, .inl (cI, 41, .inl xs)), (ya, .inl (cI, 41, .inl ys)), (pb, .inr (4, [.ref xb, .ref yb, .int (nI nb)])), (xb, .inl (cI, 41, .inl xt)), (yb, .inl (cI, 41, .inl yt))]) (wr := [(x0, .inr (9, [.ref sx, .ref g0, .ref w0, .ref k0, .ref la, .ref tr, .ref u0, .ref pt, .ref ap, .ref sp, .int fd])), (pt, .inl (cP, 2, .inr (.inr (.inr (.inr ptf)))))]) (b := ap) ⟨hx, hb, hml, hown, hts⟩ [.ref pa, .ref pb] [] (c_X0_find  (by first | assumption | omega) (by first | assumption | omega)) (cwV 2 hts gX9_where_X0_find rfl rfl rfl (by decide +kernel) ⟨Nat.le_of_ble_eq_true rfl, Nat.le_of_ble_eq_true rfl⟩) hK hN hP hD hS hA [2, 3, 4, 5, 6, 7, 8] [0, 1] rfl (by decide) rfl (by decide) (by decide) (ci := 0) rfl rfl rfl rfl hl.1 rfl (Nat.le_of_ble_eq_true rfl) dX9_where_26 ⟨Nat.zero_le _, Nat.zero_le _⟩ (fun r u H locs hw hP hD hS => ?_)
    obtain ⟨u_1, u_2, u_3⟩ := u
    try dsimp only at hw
    have hP : va_P D vwCl [(x0, .inr (9, [.ref sx, .ref g0, .ref w0, .ref k0, .ref la, .ref tr, .ref u0, .ref pt, .ref ap, .ref sp, .int fd])), (pt, .inl (cP, 2, .inr (.inr (.inr (.inr ptf))))), (ap, .inr (0, [.long u_1, .int u_2, .int u_3])), (pa, .inr (4, [.ref xa, .ref ya, .int (nI na)])), (xa, .inl (cI, 41, .inl xs)), (ya, .inl (cI, 41, .inl ys)), (pb, .inr (4, [.ref xb, .ref yb, .int (nI nb)])), (xb, .inl (cI, 41, .inl xt)), (yb, .inl (cI, 41, .inl yt))] H := hP
    have hD : va_D A [(x0, .inr (9, [.ref sx, .ref g0, .ref w0, .ref k0, .ref la, .ref tr, .ref u0, .ref pt, .ref ap, .ref sp, .int fd])), (pt, .inl (cP, 2, .inr (.inr (.inr (.inr ptf))))), (ap, .inr (0, [.long u_1, .int u_2, .int u_3])), (pa, .inr (4, [.ref xa, .ref ya, .int (nI na)])), (xa, .inl (cI, 41, .inl xs)), (ya, .inl (cI, 41, .inl ys)), (pb, .inr (4, [.ref xb, .ref yb, .int (nI nb)])), (xb, .inl (cI, 41, .inl xt)), (yb, .inl (cI, 41, .inl yt))] := hD
    obtain ⟨hw, hw_26⟩ := hw
    subst hw
    refine lv_if_ne (tgt := 35) hx hb dX9_where_29 (by decide) (fun c_29 => ?_) (fun c_29 => ?_)
    ·
      have c_29 := bnz c_29
      refine lv_iload_n hx hb dX9_where_35 rfl (lv_at hl 1 rfl) ?_
      refine lv_if_ne (tgt := 49) hx hb dX9_where_36 (by decide) (fun c_36 => ?_) (fun c_36 => ?_)
      ·
        refine lv_aload_n hx hb dX9_where_49 rfl (lv_at hl 0 rfl) ?_
        refine va_get (D := D) (ci := 9) (v := .ref ap) (C := RX9) (T := TX9) (N := 11) hx hb hts iX9 hown hK hP 0 rfl rfl 8 (by decide) (hts (.fieldLink RX9 31 "DeepHole" "approach" "LDeepHole$Approach;") (by decide +kernel)) (fun _ h9 => h9) rfl dX9_where_50 ?_
        refine va_get (D := D) (ci := 0) (v := .int u_3) (C := RX0) (T := TX0) (N := 3) hx hb hts iX0 hown hK hP 2 rfl rfl 2 (by decide) (hts (.fieldLink RX9 261 "DeepHole$Approach" "second" "I") (by decide +kernel)) (fun _ h9 => h9) rfl dX9_where_53 ?_
        have hP9 := hP.sub (ws' := [(x0, .inr (9, [.ref sx, .ref g0, .ref w0, .ref k0, .ref la, .ref tr, .ref u0, .ref pt, .ref ap, .ref sp, .int fd])), (pt, .inl (cP, 2, .inr (.inr (.inr (.inr ptf))))), (ap, .inr (0, [.long u_1, .int u_2, .int u_3])), (pa, .inr (4, [.ref xa, .ref ya, .int (nI na)])), (xa, .inl (cI, 41, .inl xs)), (ya, .inl (cI, 41, .inl ys)), (pb, .inr (4, [.ref xb, .ref yb, .int (nI nb)])), (xb, .inl (cI, 41, .inl xt)), (yb, .inl (cI, 41, .inl yt))]) [0, 1, 2, 3, 4, 5, 6, 7, 8] rfl
        have hD9 := hD.sub (ws' := [(x0, .inr (9, [.ref sx, .ref g0, .ref w0, .ref k0, .ref la, .ref tr, .ref u0, .ref pt, .ref ap, .ref sp, .int fd])), (pt, .inl (cP, 2, .inr (.inr (.inr (.inr ptf))))), (ap, .inr (0, [.long u_1, .int u_2, .int u_3])), (pa, .inr (4, [.ref xa, .ref ya, .int (nI na)])), (xa, .inl (cI, 41, .inl xs)), (ya, .inl (cI, 41, .inl ys)), (pb, .inr (4, [.ref xb, .ref yb, .int (nI nb)])), (xb, .inl (cI, 41, .inl xt)), (yb, .inl (cI, 41, .inl yt))]) [0, 1, 2, 3, 4, 5, 6, 7, 8] (by decide) rfl
        exact W.iret (v := u_3) hx hb hr (fun t ht hW => ⟨⟨_, (u_1, u_2, u_3), rfl, (by rw [← jk_where (NR_of fi se) h1, ← hw_26]; unfold whereA; rw [if_pos c_4, if_pos c_29]; first | rw [if_pos c_36] | rw [if_neg c_36]), by rw [ht]; exact hP9, hD9⟩, hS.F ht⟩) hS.2.2 dX9_where_56
      ·
        refine lv_aload_n hx hb dX9_where_39 rfl (lv_at hl 0 rfl) ?_
        refine va_get (D := D) (ci := 9) (v := .ref ap) (C := RX9) (T := TX9) (N := 11) hx hb hts iX9 hown hK hP 0 rfl rfl 8 (by decide) (hts (.fieldLink RX9 31 "DeepHole" "approach" "LDeepHole$Approach;") (by decide +kernel)) (fun _ h9 => h9) rfl dX9_where_40 ?_
        refine va_get (D := D) (ci := 0) (v := .int u_2) (C := RX0) (T := TX0) (N := 3) hx hb hts iX0 hown hK hP 2 rfl rfl 1 (by decide) (hts (.fieldLink RX9 258 "DeepHole$Approach" "first" "I") (by decide +kernel)) (fun _ h9 => h9) rfl dX9_where_43 ?_
        refine lv_goto (tgt := 56) hx hb dX9_where_46 (by decide) ?_
        have hP9 := hP.sub (ws' := [(x0, .inr (9, [.ref sx, .ref g0, .ref w0, .ref k0, .ref la, .ref tr, .ref u0, .ref pt, .ref ap, .ref sp, .int fd])), (pt, .inl (cP, 2, .inr (.inr (.inr (.inr ptf))))), (ap, .inr (0, [.long u_1, .int u_2, .int u_3])), (pa, .inr (4, [.ref xa, .ref ya, .int (nI na)])), (xa, .inl (cI, 41, .inl xs)), (ya, .inl (cI, 41, .inl ys)), (pb, .inr (4, [.ref xb, .ref yb, .int (nI nb)])), (xb, .inl (cI, 41, .inl xt)), (yb, .inl (cI, 41, .inl yt))]) [0, 1, 2, 3, 4, 5, 6, 7, 8] rfl
        have hD9 := hD.sub (ws' := [(x0, .inr (9, [.ref sx, .ref g0, .ref w0, .ref k0, .ref la, .ref tr, .ref u0, .ref pt, .ref ap, .ref sp, .int fd])), (pt, .inl (cP, 2, .inr (.inr (.inr (.inr ptf))))), (ap, .inr (0, [.long u_1, .int u_2, .int u_3])), (pa, .inr (4, [.ref xa, .ref ya, .int (nI na)])), (xa, .inl (cI, 41, .inl xs)), (ya, .inl (cI, 41, .inl ys)), (pb, .inr (4, [.ref xb, .ref yb, .int (nI nb)])), (xb, .inl (cI, 41, .inl xt)), (yb, .inl (cI, 41, .inl yt))]) [0, 1, 2, 3, 4, 5, 6, 7, 8] (by decide) rfl
        exact W.iret (v := u_2) hx hb hr (fun t ht hW => ⟨⟨_, (u_1, u_2, u_3), rfl, (by rw [← jk_where (NR_of fi se) h1, ← hw_26]; unfold whereA; rw [if_pos c_4, if_pos c_29]; first | rw [if_pos c_36] | rw [if_neg c_36]), by rw [ht]; exact hP9, hD9⟩, hS.F ht⟩) hS.2.2 dX9_where_56
    ·
      have c_29 := bz c_29
      refine lv_bipush (v := (-3)) hx hb dX9_where_32 (by decide) ?_
      have hP9 := hP.sub (ws' := [(x0, .inr (9, [.ref sx, .ref g0, .ref w0, .ref k0, .ref la, .ref tr, .ref u0, .ref pt, .ref ap, .ref sp, .int fd])), (pt, .inl (cP, 2, .inr (.inr (.inr (.inr ptf))))), (ap, .inr (0, [.long u_1, .int u_2, .int u_3])), (pa, .inr (4, [.ref xa, .ref ya, .int (nI na)])), (xa, .inl (cI, 41, .inl xs)), (ya, .inl (cI, 41, .inl ys)), (pb, .inr (4, [.ref xb, .ref yb, .int (nI nb)])), (xb, .inl (cI, 41, .inl xt)), (yb, .inl (cI, 41, .inl yt))]) [0, 1, 2, 3, 4, 5, 6, 7, 8] rfl
      have hD9 := hD.sub (ws' := [(x0, .inr (9, [.ref sx, .ref g0, .ref w0, .ref k0, .ref la, .ref tr, .ref u0, .ref pt, .ref ap, .ref sp, .int fd])), (pt, .inl (cP, 2, .inr (.inr (.inr (.inr ptf))))), (ap, .inr (0, [.long u_1, .int u_2, .int u_3])), (pa, .inr (4, [.ref xa, .ref ya, .int (nI na)])), (xa, .inl (cI, 41, .inl xs)), (ya, .inl (cI, 41, .inl ys)), (pb, .inr (4, [.ref xb, .ref yb, .int (nI nb)])), (xb, .inl (cI, 41, .inl xt)), (yb, .inl (cI, 41, .inl yt))]) [0, 1, 2, 3, 4, 5, 6, 7, 8] (by decide) rfl
      exact W.iret (v := (-3)) hx hb hr (fun t ht hW => ⟨⟨_, (u_1, u_2, u_3), rfl, (by rw [← jk_where (NR_of fi se) h1, ← hw_26]; unfold whereA; rw [if_pos c_4, if_neg c_29]), by rw [ht]; exact hP9, hD9⟩, hS.F ht⟩) hS.2.2 dX9_where_34
  ·
    have c_4 := bz c_4
    refine lv_bipush (v := (-2)) hx hb dX9_where_7 (by decide) ?_
    have hP9 := hP.sub (ws' := [(x0, .inr (9, [.ref sx, .ref g0, .ref w0, .ref k0, .ref la, .ref tr, .ref u0, .ref pt, .ref ap, .ref sp, .int fd])), (pt, .inl (cP, 2, .inr (.inr (.inr (.inr ptf))))), (ap, .inr (0, [.long sq, .int fi, .int se])), (pa, .inr (4, [.ref xa, .ref ya, .int (nI na)])), (xa, .inl (cI, 41, .inl xs)), (ya, .inl (cI, 41, .inl ys)), (pb, .inr (4, [.ref xb, .ref yb, .int (nI nb)])), (xb, .inl (cI, 41, .inl xt)), (yb, .inl (cI, 41, .inl yt))]) [0, 1, 2, 3, 4, 5, 6, 7, 8] rfl
    have hD9 := hD.sub (ws' := [(x0, .inr (9, [.ref sx, .ref g0, .ref w0, .ref k0, .ref la, .ref tr, .ref u0, .ref pt, .ref ap, .ref sp, .int fd])), (pt, .inl (cP, 2, .inr (.inr (.inr (.inr ptf))))), (ap, .inr (0, [.long sq, .int fi, .int se])), (pa, .inr (4, [.ref xa, .ref ya, .int (nI na)])), (xa, .inl (cI, 41, .inl xs)), (ya, .inl (cI, 41, .inl ys)), (pb, .inr (4, [.ref xb, .ref yb, .int (nI nb)])), (xb, .inl (cI, 41, .inl xt)), (yb, .inl (cI, 41, .inl yt))]) [0, 1, 2, 3, 4, 5, 6, 7, 8] (by decide) rfl
    exact W.iret (v := (-2)) hx hb hr (fun t ht hW => ⟨⟨_, (sq, fi, se), rfl, (by unfold whereA; rw [if_neg c_4]), by rw [ht]; exact hP9, hD9⟩, hS.F ht⟩) hS.2.2 dX9_where_9
