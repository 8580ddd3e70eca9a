set_option maxHeartbeats 4000000 in
set_option maxRecDepth 100000 in
theorem c_X4_beginAt {l : Launch} {D : va_G} {cI cS cP : ClassId} {sz : Nat} {pa xa ya na : Nat} {xs ys : Nat → Int32} {x : Int32}  : Met l yX4_beginAt wsX4_beginAt ({ frames := 0, cells := 0, slots := 0, locals := 0 }) (PC D (TY cI cS cP) [.ref pa, .int x] sz [(pa, .inr (4, [.ref xa, .ref ya, .int (nI na)])), (xa, .inl (cI, 41, .inl xs)), (ya, .inl (cI, 41, .inl ys))]) (QV D (fun (u : Unit) => True) (fun (u : Unit) => [(pa, .inr (4, [.ref xa, .ref ya, .int 0])), (xa, .inl (cI, 41, .inl (upd xs 0 x))), (ya, .inl (cI, 41, .inl ys))]) (va_A [(pa, .inr (4, [.ref xa, .ref ya, .int (nI na)])), (xa, .inl (cI, 41, .inl xs)), (ya, .inl (cI, 41, .inl ys))] sz)) 0 0 (va_A [(pa, .inr (4, [.ref xa, .ref ya, .int (nI na)])), (xa, .inl (cI, 41, .inl xs)), (ya, .inl (cI, 41, .inl ys))] sz) := by
  refine Met.ofW (cc := cX4_beginAt) (maxL := 2) (ret := none) (by decide) rfl ?_
  intro p e s m args below meth c s₁ B hml hv
  obtain ⟨rfl, hsz, hP, hK, hD0, hN⟩ := hv
  have hx := B.exec
  have hb := B.bytes
  have hr := B.returns
  have hts := atoms_spec (ws := wsX4_beginAt) B.pre
  have hown : s.vm.findClass RX4 = some m.cls := findClass_of_methodNamed B.named
  have hlocks := B.notSynchronized
  subst hsz
  have iX4 : ∀ w ∈ u_ws RX4 TX4 3, w ∈ wsX4_beginAt := by decide +kernel
  have hD := hD0.self (sz := s.heap.size)
  generalize hAe : va_A [(pa, .inr (4, [.ref xa, .ref ya, .int (nI na)])), (xa, .inl (cI, 41, .inl xs)), (ya, .inl (cI, 41, .inl ys))] s.heap.size = A at hD ⊢
  have hA : ∀ q : Nat, s.heap.size ≤ q → A q := fun q h => by rw [← hAe]; exact Or.inr h
  have hS : va_S A s.heap s.heap [] := va_S.rf
  have hP : va_P D vwCl [(pa, .inr (4, [.ref xa, .ref ya, .int (nI na)])), (xa, .inl (cI, 41, .inl xs)), (ya, .inl (cI, 41, .inl ys))] s.heap := hP
  have hl := lv_entry ([.ref pa, .int x]) (n := 2) (Nat.le_of_ble_eq_true rfl)
  rw [lg_entry_eq]
  generalize (lg_sl ([.ref pa, .int x]) ++ List.replicate (2 - (lg_sl ([.ref pa, .int x])).length) Slot.unset).toArray = ls at hl ⊢
  have hl : lv_has ls 2 [(0, .ref pa), (1, .int x)] := hl
  refine lv_aload_n hx hb dX4_beginAt_0 rfl (lv_at hl 0 rfl) ?_
  refine va_get (D := D) (ci := 4) (v := .ref xa) (C := RX4) (T := TX4) (N := 3) hx hb hts iX4 hown hK hP 0 rfl rfl 0 (by decide) (hts (.fieldLink RX4 9 "DeepHole$Path" "xs" "[I") (by decide +kernel)) (fun _ h9 => h9) rfl dX4_beginAt_1 ?_
  refine lv_iconst (v := 0) hx hb dX4_beginAt_4 (by decide) ?_
  refine lv_iload_n hx hb dX4_beginAt_5 rfl (lv_at hl 1 rfl) ?_
  refine wr_i hx hb hK hP hD hS 1 0 rfl rfl (k := 0) (by omega) (by decide) dX4_beginAt_6 (fun H locs hP hD hS => ?_)
  have hP : va_P D vwCl [(pa, .inr (4, [.ref xa, .ref ya, .int (nI na)])), (xa, .inl (cI, 41, .inl (upd xs 0 x))), (ya, .inl (cI, 41, .inl ys))] H := hP
  have hD : va_D A [(pa, .inr (4, [.ref xa, .ref ya, .int (nI na)])), (xa, .inl (cI, 41, .inl (upd xs 0 x))), (ya, .inl (cI, 41, .inl ys))] := hD
  refine lv_aload_n hx hb dX4_beginAt_7 rfl (lv_at hl 0 rfl) ?_
  refine lv_iconst (v := 0) hx hb dX4_beginAt_8 (by decide) ?_
  refine va_put (D := D) (ci := 4) (v := .int 0) (ty := .int) (C := RX4) (T := TX4) (N := 3) hx hb hts iX4 tyX4 tyX4_ok nmX4 hown hK hP hD hS 0 rfl rfl 2 (by decide) (hts (.fieldLink RX4 16 "DeepHole$Path" "stations" "I") (by decide +kernel)) (fun _ h9 => h9) rfl (by decide +kernel) rfl rfl (Nat.le_of_ble_eq_true rfl) dX4_beginAt_9 (fun H locs hP hD hS => ?_)
  have hP : va_P D vwCl [(pa, .inr (4, [.ref xa, .ref ya, .int 0])), (xa, .inl (cI, 41, .inl (upd xs 0 x))), (ya, .inl (cI, 41, .inl ys))] H := hP
  have hD : va_D A [(pa, .inr (4, [.ref xa, .ref ya, .int 0])), (xa, .inl (cI, 41, .inl (upd xs 0 x))), (ya, .inl (cI, 41, .inl ys))] := hD
  have hP9 := hP.sub (ws' := [(pa, .inr (4, [.ref xa, .ref ya, .int 0])), (xa, .inl (cI, 41, .inl (upd xs 0 x))), (ya, .inl (cI, 41, .inl ys))]) [0, 1, 2] rfl
  have hD9 := hD.sub (ws' := [(pa, .inr (4, [.ref xa, .ref ya, .int 0])), (xa, .inl (cI, 41, .inl (upd xs 0 x))), (ya, .inl (cI, 41, .inl ys))]) [0, 1, 2] (by decide) rfl
  exact W.vret hx hb hr (fun t ht hW => ⟨⟨(), rfl, (trivial), by rw [ht]; exact hP9, hD9⟩, hS.F ht⟩) hS.2.2 dX4_beginAt_12

set_option maxHeartbeats 4000000 in
set_option maxRecDepth 100000 in
theorem c_X4_goOn {l : Launch} {D : va_G} {cI cS cP : ClassId} {sz : Nat} {pa xa ya na : Nat} {xs ys : Nat → Int32} {t0 : Nat} {side : Int32} (hna : na ≤ 40) (ht : t0 ≤ 9) : Met l yX4_goOn wsX4_goOn ({ frames := 0, cells := 0, slots := 0, locals := 0 }) (PCX D (TY cI cS cP) [.ref pa, .int (nI t0), .int side] sz [(pa, .inr (4, [.ref xa, .ref ya, .int (nI na)])), (xa, .inl (cI, 41, .inl xs)), (ya, .inl (cI, 41, .inl ys))]) (QI D (fun (r : Int32) (u : Nat × (Nat → Int32) × (Nat → Int32)) => (r = if (na < 40) then 1 else 0) ∧ u = goP (na, xs, ys) t0 side) (fun (u : Nat × (Nat → Int32) × (Nat → Int32)) => [(pa, .inr (4, [.ref xa, .ref ya, .int (nI u.1)])), (xa, .inl (cI, 41, .inl u.2.1)), (ya, .inl (cI, 41, .inl u.2.2))]) (va_A [(pa, .inr (4, [.ref xa, .ref ya, .int (nI na)])), (xa, .inl (cI, 41, .inl xs)), (ya, .inl (cI, 41, .inl ys))] sz)) 0 0 (va_A [(pa, .inr (4, [.ref xa, .ref ya, .int (nI na)])), (xa, .inl (cI, 41, .inl xs)), (ya, .inl (cI, 41, .inl ys))] sz) := by
  refine Met.ofW (cc := cX4_goOn) (maxL := 3) (ret := (some .boolean)) (by decide) rfl ?_
  intro p e s m args below meth c s₁ B hml hv
  obtain ⟨⟨rfl, hsz, hP, hK, hD0, hN⟩, hT⟩ := hv
  have hx := B.exec
  have hb := B.bytes
  have hr := B.returns
  have hts := atoms_spec (ws := wsX4_goOn) B.pre
  have hown : s.vm.findClass RX4 = some m.cls := findClass_of_methodNamed B.named
  have hlocks := B.notSynchronized
  subst hsz
  have iX4 : ∀ w ∈ u_ws RX4 TX4 3, w ∈ wsX4_goOn := by decide +kernel
  have hD := hD0.self (sz := s.heap.size)
  generalize hAe : va_A [(pa, .inr (4, [.ref xa, .ref ya, .int (nI na)])), (xa, .inl (cI, 41, .inl xs)), (ya, .inl (cI, 41, .inl ys))] s.heap.size = A at hD hT ⊢
  have hA : ∀ q : Nat, s.heap.size ≤ q → A q := fun q h => by rw [← hAe]; exact Or.inr h
  have hS : va_S A s.heap s.heap [] := va_S.rf
  obtain ⟨ta, tb, ⟨hZa, hTa⟩, hZb, hTb⟩ := id hT
  have hP : va_P D vwCl [(pa, .inr (4, [.ref xa, .ref ya, .int (nI na)])), (xa, .inl (cI, 41, .inl xs)), (ya, .inl (cI, 41, .inl ys))] s.heap := hP
  have hl := lv_entry ([.ref pa, .int (nI t0), .int side]) (n := 3) (Nat.le_of_ble_eq_true rfl)
  rw [lg_entry_eq]
  generalize (lg_sl ([.ref pa, .int (nI t0), .int side]) ++ List.replicate (3 - (lg_sl ([.ref pa, .int (nI t0), .int side])).length) Slot.unset).toArray = ls at hl ⊢
  have hl : lv_has ls 3 [(0, .ref pa), (1, .int (nI t0)), (2, .int side)] := hl
  refine lv_aload_n hx hb dX4_goOn_0 rfl (lv_at hl 0 rfl) ?_
  refine va_get (D := D) (ci := 4) (v := .int (nI na)) (C := RX4) (T := TX4) (N := 3) hx hb hts iX4 hown hK hP 0 rfl rfl 2 (by decide) (hts (.fieldLink RX4 16 "DeepHole$Path" "stations" "I") (by decide +kernel)) (fun _ h9 => h9) rfl dX4_goOn_1 ?_
  refine lv_bipush (v := 40) hx hb dX4_goOn_4 (by decide) ?_
  refine lv_icmp_lt (tgt := 11) hx hb dX4_goOn_6 (by decide) (fun c_6 => ?_) (fun c_6 => ?_)
  ·
    have c_6 := n_lt (a := na) (b := 40) c_6 (by omega) (by omega)
    refine lv_aload_n hx hb dX4_goOn_11 rfl (lv_at hl 0 rfl) ?_
    refine va_get (D := D) (ci := 4) (v := .ref xa) (C := RX4) (T := TX4) (N := 3) hx hb hts iX4 hown hK hP 0 rfl rfl 0 (by decide) (hts (.fieldLink RX4 9 "DeepHole$Path" "xs" "[I") (by decide +kernel)) (fun _ h9 => h9) rfl dX4_goOn_12 ?_
    refine lv_aload_n hx hb dX4_goOn_15 rfl (lv_at hl 0 rfl) ?_
    refine va_get (D := D) (ci := 4) (v := .int (nI na)) (C := RX4) (T := TX4) (N := 3) hx hb hts iX4 hown hK hP 0 rfl rfl 2 (by decide) (hts (.fieldLink RX4 16 "DeepHole$Path" "stations" "I") (by decide +kernel)) (fun _ h9 => h9) rfl dX4_goOn_16 ?_
    refine lv_iconst (v := 1) hx hb dX4_goOn_19 (by decide) ?_
    refine lv_iadd hx hb dX4_goOn_20 ?_
    refine lv_eqi (z := nI (na + 1)) (nI_add _ _) ?_
    refine lv_aload_n hx hb dX4_goOn_21 rfl (lv_at hl 0 rfl) ?_
    refine va_get (D := D) (ci := 4) (v := .ref xa) (C := RX4) (T := TX4) (N := 3) hx hb hts iX4 hown hK hP 0 rfl rfl 0 (by decide) (hts (.fieldLink RX4 9 "DeepHole$Path" "xs" "[I") (by decide +kernel)) (fun _ h9 => h9) rfl dX4_goOn_22 ?_
    refine lv_aload_n hx hb dX4_goOn_25 rfl (lv_at hl 0 rfl) ?_
    refine va_get (D := D) (ci := 4) (v := .int (nI na)) (C := RX4) (T := TX4) (N := 3) hx hb hts iX4 hown hK hP 0 rfl rfl 2 (by decide) (hts (.fieldLink RX4 16 "DeepHole$Path" "stations" "I") (by decide +kernel)) (fun _ h9 => h9) rfl dX4_goOn_26 ?_
    refine rd_i hx hb hK hP 1 0 rfl rfl (k := na) (by omega) (by decide) dX4_goOn_29 ?_
    refine lv_iload_n hx hb dX4_goOn_30 rfl (lv_at hl 2 rfl) ?_
    refine va_gets (C := "DeepHole$Path") (n := "ASIDE") (d := "[I") hx hb hZa hS hown (hts (.fieldLink RX4 20 "DeepHole$Path" "ASIDE" "[I") (by decide +kernel)) (fun _ h => h) dX4_goOn_31 ?_
    refine lv_iload_n hx hb dX4_goOn_34 rfl (lv_at hl 1 rfl) ?_
    refine va_ti hx hb hTa hS (vp_in_nI (by omega) (by decide)) (v := .int (asd t0)) (by rw [nI_clamp (by omega)]) dX4_goOn_35 ?_
    refine lv_imul hx hb dX4_goOn_36 ?_
    refine lv_iadd hx hb dX4_goOn_37 ?_
    refine wr_i hx hb hK hP hD hS 1 0 rfl rfl (k := na + 1) (by omega) (by decide) dX4_goOn_38 (fun H locs hP hD hS => ?_)
    have hP : va_P D vwCl [(pa, .inr (4, [.ref xa, .ref ya, .int (nI na)])), (xa, .inl (cI, 41, .inl (upd xs (na + 1) ((xs na) + (side * (asd t0)))))), (ya, .inl (cI, 41, .inl ys))] H := hP
    have hD : va_D A [(pa, .inr (4, [.ref xa, .ref ya, .int (nI na)])), (xa, .inl (cI, 41, .inl (upd xs (na + 1) ((xs na) + (side * (asd t0)))))), (ya, .inl (cI, 41, .inl ys))] := hD
    refine lv_aload_n hx hb dX4_goOn_39 rfl (lv_at hl 0 rfl) ?_
    refine va_get (D := D) (ci := 4) (v := .ref ya) (C := RX4) (T := TX4) (N := 3) hx hb hts iX4 hown hK hP 0 rfl rfl 1 (by decide) (hts (.fieldLink RX4 13 "DeepHole$Path" "ys" "[I") (by decide +kernel)) (fun _ h9 => h9) rfl dX4_goOn_40 ?_
    refine lv_aload_n hx hb dX4_goOn_43 rfl (lv_at hl 0 rfl) ?_
    refine va_get (D := D) (ci := 4) (v := .int (nI na)) (C := RX4) (T := TX4) (N := 3) hx hb hts iX4 hown hK hP 0 rfl rfl 2 (by decide) (hts (.fieldLink RX4 16 "DeepHole$Path" "stations" "I") (by decide +kernel)) (fun _ h9 => h9) rfl dX4_goOn_44 ?_
    refine lv_iconst (v := 1) hx hb dX4_goOn_47 (by decide) ?_
    refine lv_iadd hx hb dX4_goOn_48 ?_
    refine lv_eqi (z := nI (na + 1)) (nI_add _ _) ?_
    refine lv_aload_n hx hb dX4_goOn_49 rfl (lv_at hl 0 rfl) ?_
    refine va_get (D := D) (ci := 4) (v := .ref ya) (C := RX4) (T := TX4) (N := 3) hx hb hts iX4 hown hK hP 0 rfl rfl 1 (by decide) (hts (.fieldLink RX4 13 "DeepHole$Path" "ys" "[I") (by decide +kernel)) (fun _ h9 => h9) rfl dX4_goOn_50 ?_
    refine lv_aload_n hx hb dX4_goOn_53 rfl (lv_at hl 0 rfl) ?_
    refine va_get (D := D) (ci := 4) (v := .int (nI na)) (C := RX4) (T := TX4) (N := 3) hx hb hts iX4 hown hK hP 0 rfl rfl 2 (by decide) (hts (.fieldLink RX4 16 "DeepHole$Path" "stations" "I") (by decide +kernel)) (fun _ h9 => h9) rfl dX4_goOn_54 ?_
    refine rd_i hx hb hK hP 2 0 rfl rfl (k := na) (by omega) (by decide) dX4_goOn_57 ?_
    refine va_gets (C := "DeepHole$Path") (n := "DOWN") (d := "[I") hx hb hZb hS hown (hts (.fieldLink RX4 23 "DeepHole$Path" "DOWN" "[I") (by decide +kernel)) (fun _ h => h) dX4_goOn_58 ?_
    refine lv_iload_n hx hb dX4_goOn_61 rfl (lv_at hl 1 rfl) ?_
    refine va_ti hx hb hTb hS (vp_in_nI (by omega) (by decide)) (v := .int (dwn t0)) (by rw [nI_clamp (by omega)]) dX4_goOn_62 ?_
    refine lv_iadd hx hb dX4_goOn_63 ?_
    refine wr_i hx hb hK hP hD hS 2 0 rfl rfl (k := na + 1) (by omega) (by decide) dX4_goOn_64 (fun H locs hP hD hS => ?_)
    have hP : va_P D vwCl [(pa, .inr (4, [.ref xa, .ref ya, .int (nI na)])), (xa, .inl (cI, 41, .inl (upd xs (na + 1) ((xs na) + (side * (asd t0)))))), (ya, .inl (cI, 41, .inl (upd ys (na + 1) ((ys na) + (dwn t0)))))] H := hP
    have hD : va_D A [(pa, .inr (4, [.ref xa, .ref ya, .int (nI na)])), (xa, .inl (cI, 41, .inl (upd xs (na + 1) ((xs na) + (side * (asd t0)))))), (ya, .inl (cI, 41, .inl (upd ys (na + 1) ((ys na) + (dwn t0)))))] := hD
    refine lv_aload_n hx hb dX4_goOn_65 rfl (lv_at hl 0 rfl) ?_
    refine lv_dup hx hb dX4_goOn_66 rfl ?_
    refine va_get (D := D) (ci := 4) (v := .int (nI na)) (C := RX4) (T := TX4) (N := 3) hx hb hts iX4 hown hK hP 0 rfl rfl 2 (by decide) (hts (.fieldLink RX4 16 "DeepHole$Path" "stations" "I") (by decide +kernel)) (fun _ h9 => h9) rfl dX4_goOn_67 ?_
    refine lv_iconst (v := 1) hx hb dX4_goOn_70 (by decide) ?_
    refine lv_iadd hx hb dX4_goOn_71 ?_
    refine lv_eqi (z := nI (na + 1)) (nI_add _ _) ?_
    refine va_put (D := D) (ci := 4) (v := .int (nI (na + 1))) (ty := .int) (C := RX4) (T := TX4) (N := 3) hx hb hts iX4 tyX4 tyX4_ok nmX4 hown hK hP hD hS 0 rfl rfl 2 (by decide) (hts (.fieldLink RX4 16 "DeepHole$Path" "stations" "I") (by decide +kernel)) (fun _ h9 => h9) rfl (by decide +kernel) rfl rfl (Nat.le_of_ble_eq_true rfl) dX4_goOn_72 (fun H locs hP hD hS => ?_)
    have hP : va_P D vwCl [(pa, .inr (4, [.ref xa, .ref ya, .int (nI (na + 1))])), (xa, .inl (cI, 41, .inl (upd xs (na + 1) ((xs na) + (side * (asd t0)))))), (ya, .inl (cI, 41, .inl (upd ys (na + 1) ((ys na) + (dwn t0)))))] H := hP
    have hD : va_D A [(pa, .inr (4, [.ref xa, .ref ya, .int (nI (na + 1))])), (xa, .inl (cI, 41, .inl (upd xs (na + 1) ((xs na) + (side * (asd t0)))))), (ya, .inl (cI, 41, .inl (upd ys (na + 1) ((ys na) + (dwn t0)))))] := hD
    refine lv_iconst (v := 1) hx hb dX4_goOn_75 (by decide) ?_
    have hP9 := hP.sub (ws' := [(pa, .inr (4, [.ref xa, .ref ya, .int (nI (na + 1))])), (xa, .inl (cI, 41, .inl (upd xs (na + 1) ((xs na) + (side * (asd t0)))))), (ya, .inl (cI, 41, .inl (upd ys (na + 1) ((ys na) + (dwn t0)))))]) [0, 1, 2] rfl
    have hD9 := hD.sub (ws' := [(pa, .inr (4, [.ref xa, .ref ya, .int (nI (na + 1))])), (xa, .inl (cI, 41, .inl (upd xs (na + 1) ((xs na) + (side * (asd t0)))))), (ya, .inl (cI, 41, .inl (upd ys (na + 1) ((ys na) + (dwn t0)))))]) [0, 1, 2] (by decide) rfl
    exact W.zret (v := 1) hx hb hr (rfl) (fun t ht hW => ⟨⟨_, (na + 1, upd xs (na + 1) (xs na + side * asd t0), upd ys (na + 1) (ys na + dwn t0)), rfl, (by exact ⟨b_1 (by omega), by unfold goP; rw [if_pos (by simp; omega)]⟩), by rw [ht]; exact hP9, hD9⟩, hS.F ht⟩) hS.2.2 dX4_goOn_76
  ·
    have c_6 := n_nlt (a := na) (b := 40) c_6 (by omega) (by omega)
    refine lv_iconst (v := 0) hx hb dX4_goOn_9 (by decide) ?_
    have hP9 := hP.sub (ws' := [(pa, .inr (4, [.ref xa, .ref ya, .int (nI na)])), (xa, .inl (cI, 41, .inl xs)), (ya, .inl (cI, 41, .inl ys))]) [0, 1, 2] rfl
    have hD9 := hD.sub (ws' := [(pa, .inr (4, [.ref xa, .ref ya, .int (nI na)])), (xa, .inl (cI, 41, .inl xs)), (ya, .inl (cI, 41, .inl ys))]) [0, 1, 2] (by decide) rfl
    exact W.zret (v := 0) hx hb hr (rfl) (fun t ht hW => ⟨⟨_, (na, xs, ys), rfl, (by exact ⟨b_0 (by omega), by unfold goP; rw [if_neg (by simp; omega)]⟩), by rw [ht]; exact hP9, hD9⟩, hS.F ht⟩) hS.2.2 dX4_goOn_10

set_option maxHeartbeats 4000000 in
set_option maxRecDepth 100000 in
theorem c_X0_find {l : Launch} {D : va_G} {cI cS cP : ClassId} {sz : Nat} {ap : Nat} {sq : Int64} {fi se : Int32} {pa xa ya na : Nat} {xs ys : Nat → Int32} {pb xb yb nb : Nat} {xt yt : Nat → Int32} (hna : na ≤ 40) (hnb : nb ≤ 40) : Met l yX0_find wsX0_find ({ frames := 0, cells := 0, slots := 0, locals := 0 }) (PC D (TY cI cS cP) [.ref ap, .ref pa, .ref pb] sz [(ap, .inr (0, [.long sq, .int fi, .int se])), (pa, .inr (4, [.ref xa, .ref ya, .int (nI na)])), (xa, .inl (cI, 41, .inl xs)), (ya, .inl (cI, 41, .inl ys)), (pb, .inr (4, [.ref xb, .ref yb, .int (nI nb)])), (xb, .inl (cI, 41, .inl xt)), (yb, .inl (cI, 41, .inl yt))]) (QI D (fun (r : Int32) (u : Int64 × Int32 × Int32) => (r = if (u.1 ≠ 9223372036854775807) then 1 else 0) ∧ u = ncol (dsq xs ys xt yt) nb 0 (na + 1) (9223372036854775807, fi, se)) (fun (u : Int64 × Int32 × Int32) => [(ap, .inr (0, [.long u.1, .int u.2.1, .int u.2.2])), (pa, .inr (4, [.ref xa, .ref ya, .int (nI na)])), (xa, .inl (cI, 41, .inl xs)), (ya, .inl (cI, 41, .inl ys)), (pb, .inr (4, [.ref xb, .ref yb, .int (nI nb)])), (xb, .inl (cI, 41, .inl xt)), (yb, .inl (cI, 41, .inl yt))]) (va_A [(ap, .inr (0, [.long sq, .int fi, .int se])), (pa, .inr (4, [.ref xa, .ref ya, .int (nI na)])), (xa, .inl (cI, 41, .inl xs)), (ya, .inl (cI, 41, .inl ys)), (pb, .inr (4, [.ref xb, .ref yb, .int (nI nb)])), (xb, .inl (cI, 41, .inl xt)), (yb, .inl (cI, 41, .inl yt))] sz)) 0 0 (va_A [(ap, .inr (0, [.long sq, .int fi, .int se])), (pa, .inr (4, [.ref xa, .ref ya, .int (nI na)])), (xa, .inl (cI, 41, .inl xs)), (ya, .inl (cI, 41, .inl ys)), (pb, .inr (4, [.ref xb, .ref yb, .int (nI nb)])), (xb, .inl (cI, 41, .inl xt)), (yb, .inl (cI, 41, .inl yt))] sz) := by
  refine Met.ofW (cc := cX0_find) (maxL := 11) (ret := (some .boolean)) (by decide) rfl ?_
  intro p e s m args below meth c s₁ B hml hv
  obtain ⟨rfl, hsz, hP, hK, hD0, hN⟩ := hv
  have hx := B.exec
  have hb := B.bytes
  have hr := B.returns
  have hts := atoms_spec (ws := wsX0_find) B.pre
  have hown : s.vm.findClass RX0 = some m.cls := findClass_of_methodNamed B.named
  have hlocks := B.notSynchronized
  subst hsz
  have iX0 : ∀ w ∈ u_ws RX0 TX0 3, w ∈ wsX0_find := by decide +kernel
  have iX4 : ∀ w ∈ u_ws RX4 TX4 3, w ∈ wsX0_find := by decide +kernel
  have hD := hD0.self (sz := s.heap.size)
  generalize hAe : va_A [(ap, .inr (0, [.long sq, .int fi, .int se])), (pa, .inr (4, [.ref xa, .ref ya, .int (nI na)])), (xa, .inl (cI, 41, .inl xs)), (ya, .inl (cI, 41, .inl ys)), (pb, .inr (4, [.ref xb, .ref yb, .int (nI nb)])), (xb, .inl (cI, 41, .inl xt)), (yb, .inl (cI, 41, .inl yt))] s.heap.size = A at hD ⊢
  have hA : ∀ q : Nat, s.heap.size ≤ q → A q := fun q h => by rw [← hAe]; exact Or.inr h
  have hS : va_S A s.heap s.heap [] := va_S.rf
  have hP : va_P D vwCl [(ap, .inr (0, [.long sq, .int fi, .int se])), (pa, .inr (4, [.ref xa, .ref ya, .int (nI na)])), (xa, .inl (cI, 41, .inl xs)), (ya, .inl (cI, 41, .inl ys)), (pb, .inr (4, [.ref xb, .ref yb, .int (nI nb)])), (xb, .inl (cI, 41, .inl xt)), (yb, .inl (cI, 41, .inl yt))] s.heap := hP
  have hl := lv_entry ([.ref ap, .ref pa, .ref pb]) (n := 11) (Nat.le_of_ble_eq_true rfl)
  rw [lg_entry_eq]
  generalize (lg_sl ([.ref ap, .ref pa, .ref pb]) ++ List.replicate (11 - (lg_sl ([.ref ap, .ref pa, .ref pb])).length) Slot.unset).toArray = ls at hl ⊢
  have hl : lv_has ls 11 [(0, .ref ap), (1, .ref pa), (2, .ref pb)] := hl
  refine lv_aload_n hx hb dX0_find_0 rfl (lv_at hl 0 rfl) ?_
  refine lv_ldc2 hx hb hown (hts (.constantLong RX0 9 (9223372036854775807)) (by decide +kernel)) dX0_find_1 ?_
  refine va_put (D := D) (ci := 0) (v := .long 9223372036854775807) (ty := .long) (C := RX0) (T := TX0) (N := 3) hx hb hts iX0 tyX0 tyX0_ok nmX0 hown hK hP hD hS 0 rfl rfl 0 (by decide) (hts (.fieldLink RX0 11 "DeepHole$Approach" "square" "J") (by decide +kernel)) (fun _ h9 => h9) rfl (by decide +kernel) rfl rfl (Nat.le_of_ble_eq_true rfl) dX0_find_4 (fun H locs hP hD hS => ?_)
  have hP : va_P D vwCl [(ap, .inr (0, [.long 9223372036854775807, .int fi, .int se])), (pa, .inr (4, [.ref xa, .ref ya, .int (nI na)])), (xa, .inl (cI, 41, .inl xs)), (ya, .inl (cI, 41, .inl ys)), (pb, .inr (4, [.ref xb, .ref yb, .int (nI nb)])), (xb, .inl (cI, 41, .inl xt)), (yb, .inl (cI, 41, .inl yt))] H := hP
  have hD : va_D A [(ap, .inr (0, [.long 9223372036854775807, .int fi, .int se])), (pa, .inr (4, [.ref xa, .ref ya, .int (nI na)])), (xa, .inl (cI, 41, .inl xs)), (ya, .inl (cI, 41, .inl ys)), (pb, .inr (4, [.ref xb, .ref yb, .int (nI nb)])), (xb, .inl (cI, 41, .inl xt)), (yb, .inl (cI, 41, .inl yt))] := hD
  refine lv_iconst (v := 0) hx hb dX0_find_7 (by decide) ?_
  refine lv_istore_n (lv' := [(3, .int 0), (0, .ref ap), (1, .ref pa), (2, .ref pb)]) hx hb dX0_find_8 rfl hl (by decide) rfl (fun ls hl => ?_)
  refine lp_w (I := fun zz9 H locs ls => ∃ (i : Nat) (g : Int64) (fa_ fb_ : Int32), zz9 = na + 1 - i ∧ (i ≤ na + 1) ∧ (ncol (dsq xs ys xt yt) nb 0 (na + 1) (9223372036854775807, fi, se) = ncol (dsq xs ys xt yt) nb i (na + 1 - i) (g, fa_, fb_)) ∧ va_P D vwCl [(ap, .inr (0, [.long g, .int fa_, .int fb_])), (pa, .inr (4, [.ref xa, .ref ya, .int (nI na)])), (xa, .inl (cI, 41, .inl xs)), (ya, .inl (cI, 41, .inl ys)), (pb, .inr (4, [.ref xb, .ref yb, .int (nI nb)])), (xb, .inl (cI, 41, .inl xt)), (yb, .inl (cI, 41, .inl yt))] H ∧ va_D A [(ap, .inr (0, [.long g, .int fa_, .int fb_])), (pa, .inr (4, [.ref xa, .ref ya, .int (nI na)])), (xa, .inl (cI, 41, .inl xs)), (ya, .inl (cI, 41, .inl ys)), (pb, .inr (4, [.ref xb, .ref yb, .int (nI nb)])), (xb, .inl (cI, 41, .inl xt)), (yb, .inl (cI, 41, .inl yt))] ∧ va_S A s.heap H locs ∧ lv_has ls 11 [(0, .ref ap), (1, .ref pa), (2, .ref pb), (3, .int (nI i))]) ?_ (na + 1 - 0) ⟨0, (9223372036854775807 : Int64), fi, se, rfl, (by omega), (rfl), hP.sub [0, 1, 2, 3, 4, 5, 6] rfl, hD.sub [0, 1, 2, 3, 4, 5, 6] (by decide) rfl, hS, lv_sub hl [1, 2, 3, 0] rfl⟩
  intro n_9 H locs ls ih_9 hI
  obtain ⟨i, g, fa_, fb_, hn_9, hi, hs1, hP, hD, hS, hl⟩ := hI
  refine lv_iload_n hx hb dX0_find_9 rfl (lv_at hl 3 rfl) ?_
  refine lv_aload_n hx hb dX0_find_10 rfl (lv_at hl 1 rfl) ?_
  refine va_get (D := D) (ci := 4) (v := .int (nI na)) (C := RX4) (T := TX4) (N := 3) hx hb hts iX4 hown hK hP 1 rfl rfl 2 (by decide) (hts (.fieldLink RX0 17 "DeepHole$Path" "stations" "I") (by decide +kernel)) (fun _ h9 => h9) rfl dX0_find_11 ?_
  refine lv_icmp_gt (tgt := 123) hx hb dX0_find_14 (by decide) (fun c_14 => ?_) (fun c_14 => ?_)
  ·
    have c_14 := n_gt (a := i) (b := na) c_14 (by omega) (by omega)
    refine lv_aload_n hx hb dX0_find_123 rfl (lv_at hl 0 rfl) ?_
    refine va_get (D := D) (ci := 0) (v := .long g) (C := RX0) (T := TX0) (N := 3) hx hb hts iX0 hown hK hP 0 rfl rfl 0 (by decide) (hts (.fieldLink RX0 11 "DeepHole$Approach" "square" "J") (by decide +kernel)) (fun _ h9 => h9) rfl dX0_find_124 ?_
    refine lv_ldc2 hx hb hown (hts (.constantLong RX0 9 (9223372036854775807)) (by decide +kernel)) dX0_find_127 ?_
    refine W.lcmp hx hb dX0_find_130 ?_
    refine lv_if_eq (tgt := 138) hx hb dX0_find_131 (by decide) (fun c_131 => ?_) (fun c_131 => ?_)
    ·
      have c_131 := (lg_cmp_eq _ _).mp c_131
      refine lv_iconst (v := 0) hx hb dX0_find_138 (by decide) ?_
      have hP9 := hP.sub (ws' := [(ap, .inr (0, [.long g, .int fa_, .int fb_])), (pa, .inr (4, [.ref xa, .ref ya, .int (nI na)])), (xa, .inl (cI, 41, .inl xs)), (ya, .inl (cI, 41, .inl ys)), (pb, .inr (4, [.ref xb, .ref yb, .int (nI nb)])), (xb, .inl (cI, 41, .inl xt)), (yb, .inl (cI, 41, .inl yt))]) [0, 1, 2, 3, 4, 5, 6] rfl
      have hD9 := hD.sub (ws' := [(ap, .inr (0, [.long g, .int fa_, .int fb_])), (pa, .inr (4, [.ref xa, .ref ya, .int (nI na)])), (xa, .inl (cI, 41, .inl xs)), (ya, .inl (cI, 41, .inl ys)), (pb, .inr (4, [.ref xb, .ref yb, .int (nI nb)])), (xb, .inl (cI, 41, .inl xt)), (yb, .inl (cI, 41, .inl yt))]) [0, 1, 2, 3, 4, 5, 6] (by decide) rfl
      exact W.zret (v := 0) hx hb hr (rfl) (fun t ht hW => ⟨⟨_, (g, fa_, fb_), rfl, (by exact ⟨b_0 (fun h => h c_131), by rw [hs1, show na + 1 - i = 0 by omega]; rfl⟩), by rw [ht]; exact hP9, hD9⟩, hS.F ht⟩) hS.2.2 dX0_find_139
    ·
      have c_131 := fun h => c_131 ((lg_cmp_eq _ _).mpr h)
      refine lv_iconst (v := 1) hx hb dX0_find_134 (by decide) ?_
      refine lv_goto (tgt := 139) hx hb dX0_find_135 (by decide) ?_
      have hP9 := hP.sub (ws' := [(ap, .inr (0, [.long g, .int fa_, .int fb_])), (pa, .inr (4, [.ref xa, .ref ya, .int (nI na)])), (xa, .inl (cI, 41, .inl xs)), (ya, .inl (cI, 41, .inl ys)), (pb, .inr (4, [.ref xb, .ref yb, .int (nI nb)])), (xb, .inl (cI, 41, .inl xt)), (yb, .inl (cI, 41, .inl yt))]) [0, 1, 2, 3, 4, 5, 6] rfl
      have hD9 := hD.sub (ws' := [(ap, .inr (0, [.long g, .int fa_, .int fb_])), (pa, .inr (4, [.ref xa, .ref ya, .int (nI na)])), (xa, .inl (cI, 41, .inl xs)), (ya, .inl (cI, 41, .inl ys)), (pb, .inr (4, [.ref xb, .ref yb, .int (nI nb)])), (xb, .inl (cI, 41, .inl xt)), (yb, .inl (cI, 41, .inl yt))]) [0, 1, 2, 3, 4, 5, 6] (by decide) rfl
      exact W.zret (v := 1) hx hb hr (rfl) (fun t ht hW => ⟨⟨_, (g, fa_, fb_), rfl, (by exact ⟨b_1 c_131, by rw [hs1, show na + 1 - i = 0 by omega]; rfl⟩), by rw [ht]; exact hP9, hD9⟩, hS.F ht⟩) hS.2.2 dX0_find_139
  ·
    have c_14 := n_ngt (a := i) (b := na) c_14 (by omega) (by omega)
    refine lv_iload_n hx hb dX0_find_17 rfl (lv_at hl 3 rfl) ?_
    refine cut_v (ls := ls) (rest := []) 26 (.int (nI (nj0 i))) ?_ (fun K_18 => ?_)
    ·
      refine lv_istore (lv' := [(4, .int (nI (nj0 i))), (0, .ref ap), (1, .ref pa), (2, .ref pb), (3, .int (nI i))]) hx hb dX0_find_26 hl (by decide) rfl (fun ls hl => ?_)
      refine lp_w (I := fun zz9 H locs ls => ∃ (j : Nat) (g : Int64) (fa_ fb_ : Int32), zz9 = nb + 1 - j ∧ (j ≤ nb + 1) ∧ (ncol (dsq xs ys xt yt) nb 0 (na + 1) (9223372036854775807, fi, se) = ncol (dsq xs ys xt yt) nb (i + 1) (na - i) (nrow (dsq xs ys xt yt) i j (nb + 1 - j) (g, fa_, fb_))) ∧ va_P D vwCl [(ap, .inr (0, [.long g, .int fa_, .int fb_])), (pa, .inr (4, [.ref xa, .ref ya, .int (nI na)])), (xa, .inl (cI, 41, .inl xs)), (ya, .inl (cI, 41, .inl ys)), (pb, .inr (4, [.ref xb, .ref yb, .int (nI nb)])), (xb, .inl (cI, 41, .inl xt)), (yb, .inl (cI, 41, .inl yt))] H ∧ va_D A [(ap, .inr (0, [.long g, .int fa_, .int fb_])), (pa, .inr (4, [.ref xa, .ref ya, .int (nI na)])), (xa, .inl (cI, 41, .inl xs)), (ya, .inl (cI, 41, .inl ys)), (pb, .inr (4, [.ref xb, .ref yb, .int (nI nb)])), (xb, .inl (cI, 41, .inl xt)), (yb, .inl (cI, 41, .inl yt))] ∧ va_S A s.heap H locs ∧ lv_has ls 11 [(0, .ref ap), (1, .ref pa), (2, .ref pb), (3, .int (nI i)), (4, .int (nI j))]) ?_ (nb + 1 - (nj0 i)) ⟨nj0 i, g, fa_, fb_, rfl, (by unfold nj0; split <;> omega), (by rw [hs1, ncol_step (by omega), show na + 1 - i - 1 = na - i by omega]), hP.sub [0, 1, 2, 3, 4, 5, 6] rfl, hD.sub [0, 1, 2, 3, 4, 5, 6] (by decide) rfl, hS, lv_sub hl [1, 2, 3, 4, 0] rfl⟩
      intro n_28 H locs ls ih_28 hI
      obtain ⟨j, g, fa_, fb_, hn_28, hj, hs2, hP, hD, hS, hl⟩ := hI
      refine lv_iload hx hb dX0_find_28 (lv_at hl 4 rfl) ?_
      refine lv_aload_n hx hb dX0_find_30 rfl (lv_at hl 2 rfl) ?_
      refine va_get (D := D) (ci := 4) (v := .int (nI nb)) (C := RX4) (T := TX4) (N := 3) hx hb hts iX4 hown hK hP 4 rfl rfl 2 (by decide) (hts (.fieldLink RX0 17 "DeepHole$Path" "stations" "I") (by decide +kernel)) (fun _ h9 => h9) rfl dX0_find_31 ?_
      refine lv_icmp_gt (tgt := 117) hx hb dX0_find_34 (by decide) (fun c_34 => ?_) (fun c_34 => ?_)
      ·
        have c_34 := n_gt (a := j) (b := nb) c_34 (by omega) (by omega)
        refine lv_iinc (v := nI (i + 1)) (lv' := [(3, .int (nI (i + 1))), (0, .ref ap), (1, .ref pa), (2, .ref pb), (4, .int (nI j))]) hx hb dX0_find_117 hl (k := 3) rfl (nI_1 _) (by decide) rfl (fun ls hl => ?_)
        refine lv_goto (tgt := 9) hx hb dX0_find_120 (by decide) ?_
        exact ih_9 _ _ _ _ (by omega) ⟨i + 1, g, fa_, fb_, rfl, (by omega), (by rw [hs2, show nb + 1 - j = 0 by omega, show na + 1 - (i + 1) = na - i by omega]; rfl), hP.sub [0, 1, 2, 3, 4, 5, 6] rfl, hD.sub [0, 1, 2, 3, 4, 5, 6] (by decide) rfl, hS, lv_sub hl [1, 2, 3, 0] rfl⟩
      ·
        have c_34 := n_ngt (a := j) (b := nb) c_34 (by omega) (by omega)
        refine lv_aload_n hx hb dX0_find_37 rfl (lv_at hl 1 rfl) ?_
        refine va_get (D := D) (ci := 4) (v := .ref xa) (C := RX4) (T := TX4) (N := 3) hx hb hts iX4 hown hK hP 1 rfl rfl 0 (by decide) (hts (.fieldLink RX0 23 "DeepHole$Path" "xs" "[I") (by decide +kernel)) (fun _ h9 => h9) rfl dX0_find_38 ?_
        refine lv_iload_n hx hb dX0_find_41 rfl (lv_at hl 3 rfl) ?_
        refine rd_i hx hb hK hP 2 0 rfl rfl (k := i) (by omega) (by decide) dX0_find_42 ?_
        refine lv_aload_n hx hb dX0_find_43 rfl (lv_at hl 2 rfl) ?_
        refine va_get (D := D) (ci := 4) (v := .ref xb) (C := RX4) (T := TX4) (N := 3) hx hb hts iX4 hown hK hP 4 rfl rfl 0 (by decide) (hts (.fieldLink RX0 23 "DeepHole$Path" "xs" "[I") (by decide +kernel)) (fun _ h9 => h9) rfl dX0_find_44 ?_
        refine lv_iload hx hb dX0_find_47 (lv_at hl 4 rfl) ?_
        refine rd_i hx hb hK hP 5 0 rfl rfl (k := j) (by omega) (by decide) dX0_find_49 ?_
        refine lv_isub hx hb dX0_find_50 ?_
        refine lv_i2l (v := ((xs i) - (xt j)).toInt64) hx hb dX0_find_51 rfl ?_
        refine lv_lstore (lv' := [(5, .long (((xs i) - (xt j)).toInt64)), (0, .ref ap), (1, .ref pa), (2, .ref pb), (3, .int (nI i)), (4, .int (nI j))]) hx hb dX0_find_52 hl (by decide) rfl (fun ls hl => ?_)
        refine lv_aload_n hx hb dX0_find_54 rfl (lv_at hl 2 rfl) ?_
        refine va_get (D := D) (ci := 4) (v := .ref ya) (C := RX4) (T := TX4) (N := 3) hx hb hts iX4 hown hK hP 1 rfl rfl 1 (by decide) (hts (.fieldLink RX0 27 "DeepHole$Path" "ys" "[I") (by decide +kernel)) (fun _ h9 => h9) rfl dX0_find_55 ?_
        refine lv_iload_n hx hb dX0_find_58 rfl (lv_at hl 4 rfl) ?_
        refine rd_i hx hb hK hP 3 0 rfl rfl (k := i) (by omega) (by decide) dX0_find_59 ?_
        refine lv_aload_n hx hb dX0_find_60 rfl (lv_at hl 3 rfl) ?_
        refine va_get (D := D) (ci := 4) (v := .ref yb) (C := RX4) (T := TX4) (N := 3) hx hb hts iX4 hown hK hP 4 rfl rfl 1 (by decide) (hts (.fieldLink RX0 27 "DeepHole$Path" "ys" "[I") (by decide +kernel)) (fun _ h9 => h9) rfl dX0_find_61 ?_
        refine lv_iload hx hb dX0_find_64 (lv_at hl 5 rfl) ?_
        refine rd_i hx hb hK hP 6 0 rfl rfl (k := j) (by omega) (by decide) dX0_find_66 ?_
        refine lv_isub hx hb dX0_find_67 ?_
        refine lv_i2l (v := ((ys i) - (yt j)).toInt64) hx hb dX0_find_68 rfl ?_
        refine lv_lstore (lv' := [(7, .long (((ys i) - (yt j)).toInt64)), (5, .long (((xs i) - (xt j)).toInt64)), (0, .ref ap), (1, .ref pa), (2, .ref pb), (3, .int (nI i)), (4, .int (nI j))]) hx hb dX0_find_69 hl (by decide) rfl (fun ls hl => ?_)
        refine lv_lload hx hb dX0_find_71 (lv_at hl 1 rfl) ?_
        refine lv_lload hx hb dX0_find_73 (lv_at hl 1 rfl) ?_
        refine lv_lmul hx hb dX0_find_75 ?_
        refine lv_lload hx hb dX0_find_76 (lv_at hl 0 rfl) ?_
        refine lv_lload hx hb dX0_find_78 (lv_at hl 0 rfl) ?_
        refine lv_lmul hx hb dX0_find_80 ?_
        refine lv_ladd hx hb dX0_find_81 ?_
        refine lv_eql (z := dsq xs ys xt yt i j) (rfl) ?_
        refine lv_lstore (lv' := [(9, .long (dsq xs ys xt yt i j)), (7, .long (((ys i) - (yt j)).toInt64)), (5, .long (((xs i) - (xt j)).toInt64)), (0, .ref ap), (1, .ref pa), (2, .ref pb), (3, .int (nI i)), (4, .int (nI j))]) hx hb dX0_find_82 hl (by decide) rfl (fun ls hl => ?_)
        refine lv_lload hx hb dX0_find_84 (lv_at hl 0 rfl) ?_
        refine lv_aload_n hx hb dX0_find_86 rfl (lv_at hl 3 rfl) ?_
        refine va_get (D := D) (ci := 0) (v := .long g) (C := RX0) (T := TX0) (N := 3) hx hb hts iX0 hown hK hP 0 rfl rfl 0 (by decide) (hts (.fieldLink RX0 11 "DeepHole$Approach" "square" "J") (by decide +kernel)) (fun _ h9 => h9) rfl dX0_find_87 ?_
        refine W.lcmp hx hb dX0_find_90 ?_
        refine lv_if_ge (tgt := 111) hx hb dX0_find_91 (by decide) (fun c_91 => ?_) (fun c_91 => ?_)
        ·
          have c_91 := (lg_cmp_ge _ _).mp c_91
          refine lv_iinc (v := nI (j + 1)) (lv' := [(4, .int (nI (j + 1))), (9, .long (dsq xs ys xt yt i j)), (7, .long (((ys i) - (yt j)).toInt64)), (5, .long (((xs i) - (xt j)).toInt64)), (0, .ref ap), (1, .ref pa), (2, .ref pb), (3, .int (nI i))]) hx hb dX0_find_111 hl (k := 7) rfl (nI_1 _) (by decide) rfl (fun ls hl => ?_)
          refine lv_goto (tgt := 28) hx hb dX0_find_114 (by decide) ?_
          exact ih_28 _ _ _ _ (by omega) ⟨j + 1, g, fa_, fb_, rfl, (by omega), (by rw [hs2, nrow_step (by omega), show nb + 1 - j - 1 = nb + 1 - (j + 1) by omega]; first | rw [nst_no (st := (g, fa_, fb_)) (ll1 c_91)] | rw [nst_yes (st := (g, fa_, fb_)) (ll2 c_91)]), hP.sub [0, 1, 2, 3, 4, 5, 6] rfl, hD.sub [0, 1, 2, 3, 4, 5, 6] (by decide) rfl, hS, lv_sub hl [4, 5, 6, 7, 0] rfl⟩
        ·
          have c_91 := fun h => c_91 ((lg_cmp_ge _ _).mpr h)
          refine lv_aload_n hx hb dX0_find_94 rfl (lv_at hl 3 rfl) ?_
          refine lv_lload hx hb dX0_find_95 (lv_at hl 0 rfl) ?_
          refine va_put (D := D) (ci := 0) (v := .long (dsq xs ys xt yt i j)) (ty := .long) (C := RX0) (T := TX0) (N := 3) hx hb hts iX0 tyX0 tyX0_ok nmX0 hown hK hP hD hS 0 rfl rfl 0 (by decide) (hts (.fieldLink RX0 11 "DeepHole$Approach" "square" "J") (by decide +kernel)) (fun _ h9 => h9) rfl (by decide +kernel) rfl rfl (Nat.le_of_ble_eq_true rfl) dX0_find_97 (fun H locs hP hD hS => ?_)
          have hP : va_P D vwCl [(ap, .inr (0, [.long (dsq xs ys xt yt i j), .int fa_, .int fb_])), (pa, .inr (4, [.ref xa, .ref ya, .int (nI na)])), (xa, .inl (cI, 41, .inl xs)), (ya, .inl (cI, 41, .inl ys)), (pb, .inr (4, [.ref xb, .ref yb, .int (nI nb)])), (xb, .inl (cI, 41, .inl xt)), (yb, .inl (cI, 41, .inl yt))] H := hP
          have hD : va_D A [(ap, .inr (0, [.long (dsq xs ys xt yt i j), .int fa_, .int fb_])), (pa, .inr (4, [.ref xa, .ref ya, .int (nI na)])), (xa, .inl (cI, 41, .inl xs)), (ya, .inl (cI, 41, .inl ys)), (pb, .inr (4, [.ref xb, .ref yb, .int (nI nb)])), (xb, .inl (cI, 41, .inl xt)), (yb, .inl (cI, 41, .inl yt))] := hD
          refine lv_aload_n hx hb dX0_find_100 rfl (lv_at hl 3 rfl) ?_
          refine lv_iload_n hx hb dX0_find_101 rfl (lv_at hl 6 rfl) ?_
          refine va_put (D := D) (ci := 0) (v := .int (nI i)) (ty := .int) (C := RX0) (T := TX0) (N := 3) hx hb hts iX0 tyX0 tyX0_ok nmX0 hown hK hP hD hS 0 rfl rfl 1 (by decide) (hts (.fieldLink RX0 30 "DeepHole$Approach" "first" "I") (by decide +kernel)) (fun _ h9 => h9) rfl (by decide +kernel) rfl rfl (Nat.le_of_ble_eq_true rfl) dX0_find_102 (fun H locs hP hD hS => ?_)
          have hP : va_P D vwCl [(ap, .inr (0, [.long (dsq xs ys xt yt i j), .int (nI i), .int fb_])), (pa, .inr (4, [.ref xa, .ref ya, .int (nI na)])), (xa, .inl (cI, 41, .inl xs)), (ya, .inl (cI, 41, .inl ys)), (pb, .inr (4, [.ref xb, .ref yb, .int (nI nb)])), (xb, .inl (cI, 41, .inl xt)), (yb, .inl (cI, 41, .inl yt))] H := hP
          have hD : va_D A [(ap, .inr (0, [.long (dsq xs ys xt yt i j), .int (nI i), .int fb_])), (pa, .inr (4, [.ref xa, .ref ya, .int (nI na)])), (xa, .inl (cI, 41, .inl xs)), (ya, .inl (cI, 41, .inl ys)), (pb, .inr (4, [.ref xb, .ref yb, .int (nI nb)])), (xb, .inl (cI, 41, .inl xt)), (yb, .inl (cI, 41, .inl yt))] := hD
          refine lv_aload_n hx hb dX0_find_105 rfl (lv_at hl 3 rfl) ?_
          refine lv_iload hx hb dX0_find_106 (lv_at hl 7 rfl) ?_
          refine va_put (D := D) (ci := 0) (v := .int (nI j)) (ty := .int) (C := RX0) (T := TX0) (N := 3) hx hb hts iX0 tyX0 tyX0_ok nmX0 hown hK hP hD hS 0 rfl rfl 2 (by decide) (hts (.fieldLink RX0 33 "DeepHole$Approach" "second" "I") (by decide +kernel)) (fun _ h9 => h9) rfl (by decide +kernel) rfl rfl (Nat.le_of_ble_eq_true rfl) dX0_find_108 (fun H locs hP hD hS => ?_)
          have hP : va_P D vwCl [(ap, .inr (0, [.long (dsq xs ys xt yt i j), .int (nI i), .int (nI j)])), (pa, .inr (4, [.ref xa, .ref ya, .int (nI na)])), (xa, .inl (cI, 41, .inl xs)), (ya, .inl (cI, 41, .inl ys)), (pb, .inr (4, [.ref xb, .ref yb, .int (nI nb)])), (xb, .inl (cI, 41, .inl xt)), (yb, .inl (cI, 41, .inl yt))] H := hP
          have hD : va_D A [(ap, .inr (0, [.long (dsq xs ys xt yt i j), .int (nI i), .int (nI j)])), (pa, .inr (4, [.ref xa, .ref ya, .int (nI na)])), (xa, .inl (cI, 41, .inl xs)), (ya, .inl (cI, 41, .inl ys)), (pb, .inr (4, [.ref xb, .ref yb, .int (nI nb)])), (xb, .inl (cI, 41, .inl xt)), (yb, .inl (cI, 41, .inl yt))] := hD
          refine lv_iinc (v := nI (j + 1)) (lv' := [(4, .int (nI (j + 1))), (9, .long (dsq xs ys xt yt i j)), (7, .long (((ys i) - (yt j)).toInt64)), (5, .long (((xs i) - (xt j)).toInt64)), (0, .ref ap), (1, .ref pa), (2, .ref pb), (3, .int (nI i))]) hx hb dX0_find_111 hl (k := 7) rfl (nI_1 _) (by decide) rfl (fun ls hl => ?_)
          refine lv_goto (tgt := 28) hx hb dX0_find_114 (by decide) ?_
          exact ih_28 _ _ _ _ (by omega) ⟨j + 1, dsq xs ys xt yt i j, nI i, nI j, rfl, (by omega), (by rw [hs2, nrow_step (by omega), show nb + 1 - j - 1 = nb + 1 - (j + 1) by omega]; first | rw [nst_no (st := (g, fa_, fb_)) (ll1 c_91)] | rw [nst_yes (st := (g, fa_, fb_)) (ll2 c_91)]), hP.sub [0, 1, 2, 3, 4, 5, 6] rfl, hD.sub [0, 1, 2, 3, 4, 5, 6] (by decide) rfl, hS, lv_sub hl [4, 5, 6, 7, 0] rfl⟩
    ·
      refine lv_if_ne (tgt := 25) hx hb dX0_find_18 (by decide) (fun c_18 => ?_) (fun c_18 => ?_)
      ·
        have c_18 := n_ne (a := i) (b := 0) c_18 (by omega) (by omega)
        refine lv_iconst (v := 0) hx hb dX0_find_25 (by decide) ?_
        exact lv_eqi (by unfold nj0; first | (rw [if_neg c_18]; rfl) | (rw [if_pos c_18]; rfl)) K_18
      ·
        have c_18 := n_eq (a := i) (b := 0) c_18 (by omega) (by omega)
        refine lv_iconst (v := 1) hx hb dX0_find_21 (by decide) ?_
        refine lv_goto (tgt := 26) hx hb dX0_find_22 (by decide) ?_
        exact lv_eqi (by unfold nj0; first | (rw [if_neg c_18]; rfl) | (rw [if_pos c_18]; rfl)) K_18
