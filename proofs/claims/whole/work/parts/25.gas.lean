set_option maxHeartbeats 4000000 in
set_option maxRecDepth 100000 in
theorem c_X2_comeIn {l : Launch} {D : va_G} {cI cS cP : ClassId} {sz : Nat} {h0 w0 : Nat} {am wt md v w1 m1 : Int32} {x1 x2 x3 x4 x5 : Int64}  : Met l yX2_comeIn wsX2_comeIn ({ frames := 0, cells := 0, slots := 0, locals := 0 }) (PC D (TY cI cS cP) [.ref h0, .int v, .int w1, .int m1] sz [(h0, .inr (2, [.ref w0, .int am, .int wt, .int md, .long x1, .long x2, .long x3, .long x4, .long x5]))]) (QV D (fun (u : Unit) => True) (fun (u : Unit) => [(h0, .inr (2, [.ref w0, .int v, .int w1, .int m1, .long x1, .long x2, .long x3, .long x4, .long x5]))]) (va_A [(h0, .inr (2, [.ref w0, .int am, .int wt, .int md, .long x1, .long x2, .long x3, .long x4, .long x5]))] sz)) 0 0 (va_A [(h0, .inr (2, [.ref w0, .int am, .int wt, .int md, .long x1, .long x2, .long x3, .long x4, .long x5]))] sz) := by
  refine Met.ofW (cc := cX2_comeIn) (maxL := 4) (ret := none) (by decide) rfl ?_
  intro p e s m args below meth c s₁ B hml hv
  obtain ⟨rfl, hsz, hP, hK, hD0, hN⟩ := hv
  have hx := B.exec
  have hb := B.bytes
  have hr := B.returns
  have hts := atoms_spec (ws := wsX2_comeIn) B.pre
  have hown : s.vm.findClass RX2 = some m.cls := findClass_of_methodNamed B.named
  have hlocks := B.notSynchronized
  subst hsz
  have iX2 : ∀ w ∈ u_ws RX2 TX2 9, w ∈ wsX2_comeIn := by decide +kernel
  have hD := hD0.self (sz := s.heap.size)
  generalize hAe : va_A [(h0, .inr (2, [.ref w0, .int am, .int wt, .int md, .long x1, .long x2, .long x3, .long x4, .long x5]))] s.heap.size = A at hD ⊢
  have hA : ∀ q : Nat, s.heap.size ≤ q → A q := fun q h => by rw [← hAe]; exact Or.inr h
  have hS : va_S A s.heap s.heap [] := va_S.rf
  have hP : va_P D vwCl [(h0, .inr (2, [.ref w0, .int am, .int wt, .int md, .long x1, .long x2, .long x3, .long x4, .long x5]))] s.heap := hP
  have hl := lv_entry ([.ref h0, .int v, .int w1, .int m1]) (n := 4) (Nat.le_of_ble_eq_true rfl)
  rw [lg_entry_eq]
  generalize (lg_sl ([.ref h0, .int v, .int w1, .int m1]) ++ List.replicate (4 - (lg_sl ([.ref h0, .int v, .int w1, .int m1])).length) Slot.unset).toArray = ls at hl ⊢
  have hl : lv_has ls 4 [(0, .ref h0), (1, .int v), (2, .int w1), (3, .int m1)] := hl
  refine lv_aload_n hx hb dX2_comeIn_0 rfl (lv_at hl 0 rfl) ?_
  refine lv_iload_n hx hb dX2_comeIn_1 rfl (lv_at hl 1 rfl) ?_
  refine va_put (D := D) (ci := 2) (v := .int v) (ty := .int) (C := RX2) (T := TX2) (N := 9) hx hb hts iX2 tyX2 tyX2_ok nmX2 hown hK hP hD hS 0 rfl rfl 1 (by decide) (hts (.fieldLink RX2 15 "DeepHole$Gas" "amount" "I") (by decide +kernel)) (fun _ h9 => h9) rfl (by decide +kernel) rfl rfl (Nat.le_of_ble_eq_true rfl) dX2_comeIn_2 (fun H locs hP hD hS => ?_)
  have hP : va_P D vwCl [(h0, .inr (2, [.ref w0, .int v, .int wt, .int md, .long x1, .long x2, .long x3, .long x4, .long x5]))] H := hP
  have hD : va_D A [(h0, .inr (2, [.ref w0, .int v, .int wt, .int md, .long x1, .long x2, .long x3, .long x4, .long x5]))] := hD
  refine lv_aload_n hx hb dX2_comeIn_5 rfl (lv_at hl 0 rfl) ?_
  refine lv_iload_n hx hb dX2_comeIn_6 rfl (lv_at hl 2 rfl) ?_
  refine va_put (D := D) (ci := 2) (v := .int w1) (ty := .int) (C := RX2) (T := TX2) (N := 9) hx hb hts iX2 tyX2 tyX2_ok nmX2 hown hK hP hD hS 0 rfl rfl 2 (by decide) (hts (.fieldLink RX2 19 "DeepHole$Gas" "weight" "I") (by decide +kernel)) (fun _ h9 => h9) rfl (by decide +kernel) rfl rfl (Nat.le_of_ble_eq_true rfl) dX2_comeIn_7 (fun H locs hP hD hS => ?_)
  have hP : va_P D vwCl [(h0, .inr (2, [.ref w0, .int v, .int w1, .int md, .long x1, .long x2, .long x3, .long x4, .long x5]))] H := hP
  have hD : va_D A [(h0, .inr (2, [.ref w0, .int v, .int w1, .int md, .long x1, .long x2, .long x3, .long x4, .long x5]))] := hD
  refine lv_aload_n hx hb dX2_comeIn_10 rfl (lv_at hl 0 rfl) ?_
  refine lv_iload_n hx hb dX2_comeIn_11 rfl (lv_at hl 3 rfl) ?_
  refine va_put (D := D) (ci := 2) (v := .int m1) (ty := .int) (C := RX2) (T := TX2) (N := 9) hx hb hts iX2 tyX2 tyX2_ok nmX2 hown hK hP hD hS 0 rfl rfl 3 (by decide) (hts (.fieldLink RX2 22 "DeepHole$Gas" "mud" "I") (by decide +kernel)) (fun _ h9 => h9) rfl (by decide +kernel) rfl rfl (Nat.le_of_ble_eq_true rfl) dX2_comeIn_12 (fun H locs hP hD hS => ?_)
  have hP : va_P D vwCl [(h0, .inr (2, [.ref w0, .int v, .int w1, .int m1, .long x1, .long x2, .long x3, .long x4, .long x5]))] H := hP
  have hD : va_D A [(h0, .inr (2, [.ref w0, .int v, .int w1, .int m1, .long x1, .long x2, .long x3, .long x4, .long x5]))] := hD
  have hP9 := hP.sub (ws' := [(h0, .inr (2, [.ref w0, .int v, .int w1, .int m1, .long x1, .long x2, .long x3, .long x4, .long x5]))]) [0] rfl
  have hD9 := hD.sub (ws' := [(h0, .inr (2, [.ref w0, .int v, .int w1, .int m1, .long x1, .long x2, .long x3, .long x4, .long x5]))]) [0] (by decide) rfl
  exact W.vret hx hb hr (fun t ht hW => ⟨⟨(), rfl, (trivial), by rw [ht]; exact hP9, hD9⟩, hS.F ht⟩) hS.2.2 dX2_comeIn_15

set_option maxHeartbeats 4000000 in
set_option maxRecDepth 100000 in
theorem c_X2_cameIn {l : Launch} {D : va_G} {cI cS cP : ClassId} {sz : Nat} {h0 w0 : Nat} {am wt md : Int32} {x1 x2 x3 x4 x5 : Int64}  : Met l yX2_cameIn wsX2_cameIn ({ frames := 0, cells := 0, slots := 0, locals := 0 }) (PC D (TY cI cS cP) [.ref h0] sz [(h0, .inr (2, [.ref w0, .int am, .int wt, .int md, .long x1, .long x2, .long x3, .long x4, .long x5]))]) (vp_Si (fun r => r = if (0 < am) then 1 else 0)) 0 0 (fun _ => False) := by
  refine Met.ofW (cc := cX2_cameIn) (maxL := 1) (ret := (some .boolean)) (by decide) rfl ?_
  intro p e s m args below meth c s₁ B hml hv
  obtain ⟨rfl, hsz, hP, hK, hD0, hN⟩ := hv
  have hx := B.exec
  have hb := B.bytes
  have hr := B.returns
  have hts := atoms_spec (ws := wsX2_cameIn) B.pre
  have hown : s.vm.findClass RX2 = some m.cls := findClass_of_methodNamed B.named
  have hlocks := B.notSynchronized
  subst hsz
  have iX2 : ∀ w ∈ u_ws RX2 TX2 9, w ∈ wsX2_cameIn := by decide +kernel
  have hD := hD0
  have hP : va_P D vwCl [(h0, .inr (2, [.ref w0, .int am, .int wt, .int md, .long x1, .long x2, .long x3, .long x4, .long x5]))] s.heap := hP
  have hl := lv_entry ([.ref h0]) (n := 1) (Nat.le_of_ble_eq_true rfl)
  rw [lg_entry_eq]
  generalize (lg_sl ([.ref h0]) ++ List.replicate (1 - (lg_sl ([.ref h0])).length) Slot.unset).toArray = ls at hl ⊢
  have hl : lv_has ls 1 [(0, .ref h0)] := hl
  refine lv_aload_n hx hb dX2_cameIn_0 rfl (lv_at hl 0 rfl) ?_
  refine va_get (D := D) (ci := 2) (v := .int am) (C := RX2) (T := TX2) (N := 9) hx hb hts iX2 hown hK hP 0 rfl rfl 1 (by decide) (hts (.fieldLink RX2 15 "DeepHole$Gas" "amount" "I") (by decide +kernel)) (fun _ h9 => h9) rfl dX2_cameIn_1 ?_
  refine lv_if_le (tgt := 11) hx hb dX2_cameIn_4 (by decide) (fun c_4 => ?_) (fun c_4 => ?_)
  ·
    refine lv_iconst (v := 0) hx hb dX2_cameIn_11 (by decide) ?_
    exact W.zret (v := 0) hx hb hr (rfl) (fun t ht hW => ⟨_, rfl, (by exact b_0 (fun h => by rw [i_le] at c_4; rw [i_lt] at h; omega)), ht⟩) (fun _ h => absurd h List.not_mem_nil) dX2_cameIn_12
  ·
    refine lv_iconst (v := 1) hx hb dX2_cameIn_7 (by decide) ?_
    refine lv_goto (tgt := 12) hx hb dX2_cameIn_8 (by decide) ?_
    exact W.zret (v := 1) hx hb hr (rfl) (fun t ht hW => ⟨_, rfl, (by exact b_1 (Classical.byContradiction fun h => c_4 (by rw [i_lt] at h; rw [i_le]; omega))), ht⟩) (fun _ h => absurd h List.not_mem_nil) dX2_cameIn_12

set_option maxHeartbeats 4000000 in
set_option maxRecDepth 100000 in
theorem c_X2_stand {l : Launch} {D : va_G} {cI cS cP : ClassId} {sz : Nat} {h0 w0 g0 d sh cap sw : Nat} {am wt md : Int32} {x1 x2 x3 x4 x5 : Int64} {pp : Nat} (hd : d ≤ 50) (hsh : sh ≤ d) (hc1 : 1 ≤ cap) (hc2 : cap ≤ 1000) (hpp : pp ≤ d) : Met l yX2_stand wsX2_stand ({ frames := 1, cells := 0, slots := 0, locals := 23 }) (PC D (TY cI cS cP) [.ref h0, .int (nI pp)] sz [(h0, .inr (2, [.ref w0, .int am, .int wt, .int md, .long x1, .long x2, .long x3, .long x4, .long x5])), (w0, .inr (8, [.ref g0, .int (nI d), .int (nI sh), .int (nI cap), .int (nI sw)]))]) (QV D (fun (u : Unit) => True) (fun (u : Unit) => [(h0, .inr (2, [.ref w0, .int am, .int wt, .int md, .long (gG wt md d pp), .long (gV am wt md d pp), .long (gH am wt md d cap pp), .long (gC am wt md d cap pp), .long (gA am wt md d cap sh pp)])), (w0, .inr (8, [.ref g0, .int (nI d), .int (nI sh), .int (nI cap), .int (nI sw)]))]) (va_A [(h0, .inr (2, [.ref w0, .int am, .int wt, .int md, .long x1, .long x2, .long x3, .long x4, .long x5])), (w0, .inr (8, [.ref g0, .int (nI d), .int (nI sh), .int (nI cap), .int (nI sw)]))] sz)) 0 0 (va_A [(h0, .inr (2, [.ref w0, .int am, .int wt, .int md, .long x1, .long x2, .long x3, .long x4, .long x5])), (w0, .inr (8, [.ref g0, .int (nI d), .int (nI sh), .int (nI cap), .int (nI sw)]))] sz) := by
  refine Met.ofW (cc := cX2_stand) (maxL := 6) (ret := none) (by decide) rfl ?_
  intro p e s m args below meth c s₁ B hml hv
  obtain ⟨rfl, hsz, hP, hK, hD0, hN⟩ := hv
  have hx := B.exec
  have hb := B.bytes
  have hr := B.returns
  have hts := atoms_spec (ws := wsX2_stand) B.pre
  have hown : s.vm.findClass RX2 = some m.cls := findClass_of_methodNamed B.named
  have hlocks := B.notSynchronized
  subst hsz
  have iX2 : ∀ w ∈ u_ws RX2 TX2 9, w ∈ wsX2_stand := by decide +kernel
  have iX8 : ∀ w ∈ u_ws RX8 TX8 5, w ∈ wsX2_stand := by decide +kernel
  have hD := hD0.self (sz := s.heap.size)
  generalize hAe : va_A [(h0, .inr (2, [.ref w0, .int am, .int wt, .int md, .long x1, .long x2, .long x3, .long x4, .long x5])), (w0, .inr (8, [.ref g0, .int (nI d), .int (nI sh), .int (nI cap), .int (nI sw)]))] s.heap.size = A at hD ⊢
  have hA : ∀ q : Nat, s.heap.size ≤ q → A q := fun q h => by rw [← hAe]; exact Or.inr h
  have hS : va_S A s.heap s.heap [] := va_S.rf
  have hP : va_P D vwCl [(h0, .inr (2, [.ref w0, .int am, .int wt, .int md, .long x1, .long x2, .long x3, .long x4, .long x5])), (w0, .inr (8, [.ref g0, .int (nI d), .int (nI sh), .int (nI cap), .int (nI sw)]))] s.heap := hP
  have hl := lv_entry ([.ref h0, .int (nI pp)]) (n := 6) (Nat.le_of_ble_eq_true rfl)
  rw [lg_entry_eq]
  generalize (lg_sl ([.ref h0, .int (nI pp)]) ++ List.replicate (6 - (lg_sl ([.ref h0, .int (nI pp)])).length) Slot.unset).toArray = ls at hl ⊢
  have hl : lv_has ls 6 [(0, .ref h0), (1, .int (nI pp))] := hl
  refine lv_aload_n hx hb dX2_stand_0 rfl (lv_at hl 0 rfl) ?_
  refine va_get (D := D) (ci := 2) (v := .int wt) (C := RX2) (T := TX2) (N := 9) hx hb hts iX2 hown hK hP 0 rfl rfl 2 (by decide) (hts (.fieldLink RX2 19 "DeepHole$Gas" "weight" "I") (by decide +kernel)) (fun _ h9 => h9) rfl dX2_stand_1 ?_
  refine lv_i2l (v := wt.toInt64) hx hb dX2_stand_4 rfl ?_
  refine lv_aload_n hx hb dX2_stand_5 rfl (lv_at hl 0 rfl) ?_
  refine va_get (D := D) (ci := 2) (v := .ref w0) (C := RX2) (T := TX2) (N := 9) hx hb hts iX2 hown hK hP 0 rfl rfl 0 (by decide) (hts (.fieldLink RX2 9 "DeepHole$Gas" "well" "LDeepHole$Well;") (by decide +kernel)) (fun _ h9 => h9) rfl dX2_stand_6 ?_
  refine va_get (D := D) (ci := 8) (v := .int (nI d)) (C := RX8) (T := TX8) (N := 5) hx hb hts iX8 hown hK hP 1 rfl rfl 1 (by decide) (hts (.fieldLink RX2 25 "DeepHole$Well" "depth" "I") (by decide +kernel)) (fun _ h9 => h9) rfl dX2_stand_9 ?_
  refine lv_i2l (v := (nI d).toInt64) hx hb dX2_stand_12 rfl ?_
  refine lv_lmul hx hb dX2_stand_13 ?_
  refine lv_eql (z := gB wt d) (rfl) ?_
  refine lv_lstore_n (lv' := [(2, .long (gB wt d)), (0, .ref h0), (1, .int (nI pp))]) hx hb dX2_stand_14 rfl hl (by decide) rfl (fun ls hl => ?_)
  refine lv_aload_n hx hb dX2_stand_15 rfl (lv_at hl 1 rfl) ?_
  refine lv_lconst (v := 1) hx hb dX2_stand_16 (by decide) ?_
  refine lv_lload_n hx hb dX2_stand_17 rfl (lv_at hl 0 rfl) ?_
  refine lv_aload_n hx hb dX2_stand_18 rfl (lv_at hl 1 rfl) ?_
  refine va_get (D := D) (ci := 2) (v := .int md) (C := RX2) (T := TX2) (N := 9) hx hb hts iX2 hown hK hP 0 rfl rfl 3 (by decide) (hts (.fieldLink RX2 22 "DeepHole$Gas" "mud" "I") (by decide +kernel)) (fun _ h9 => h9) rfl dX2_stand_19 ?_
  refine lv_i2l (v := md.toInt64) hx hb dX2_stand_22 rfl ?_
  refine lv_aload_n hx hb dX2_stand_23 rfl (lv_at hl 1 rfl) ?_
  refine va_get (D := D) (ci := 2) (v := .ref w0) (C := RX2) (T := TX2) (N := 9) hx hb hts iX2 hown hK hP 0 rfl rfl 0 (by decide) (hts (.fieldLink RX2 9 "DeepHole$Gas" "well" "LDeepHole$Well;") (by decide +kernel)) (fun _ h9 => h9) rfl dX2_stand_24 ?_
  refine va_get (D := D) (ci := 8) (v := .int (nI d)) (C := RX8) (T := TX8) (N := 5) hx hb hts iX8 hown hK hP 1 rfl rfl 1 (by decide) (hts (.fieldLink RX2 25 "DeepHole$Well" "depth" "I") (by decide +kernel)) (fun _ h9 => h9) rfl dX2_stand_27 ?_
  refine lv_iload_n hx hb dX2_stand_30 rfl (lv_at hl 2 rfl) ?_
  refine lv_isub hx hb dX2_stand_31 ?_
  refine lv_i2l (v := ((nI d) - (nI pp)).toInt64) hx hb dX2_stand_32 rfl ?_
  refine lv_lmul hx hb dX2_stand_33 ?_
  refine lv_lsub hx hb dX2_stand_34 ?_
  refine va_mmax_long hx hb (hml.trans hl.1.symm) hown (hts (.methodLink RX2 30 Lib.MathLoose.max_long.x) (by decide +kernel)) (hts (.static Lib.MathLoose.max_long.x) (by decide +kernel)) (hts (.initialized "java/lang/Math") (by decide +kernel)) (hts (.code Lib.MathLoose.max_long.x Lib.MathLoose.max_long.code 4 (some .long)) (by decide +kernel)) (Nat.le_of_ble_eq_true rfl) (Nat.le_of_ble_eq_true rfl) (Nat.zero_le _) (Nat.zero_le _) dX2_stand_35 ?_
  refine lv_eql (z := gG wt md d pp) (rfl) ?_
  refine va_put (D := D) (ci := 2) (v := .long (gG wt md d pp)) (ty := .long) (C := RX2) (T := TX2) (N := 9) hx hb hts iX2 tyX2 tyX2_ok nmX2 hown hK hP hD hS 0 rfl rfl 4 (by decide) (hts (.fieldLink RX2 36 "DeepHole$Gas" "pressure" "J") (by decide +kernel)) (fun _ h9 => h9) rfl (by decide +kernel) rfl rfl (Nat.le_of_ble_eq_true rfl) dX2_stand_38 (fun H locs hP hD hS => ?_)
  have hP : va_P D vwCl [(h0, .inr (2, [.ref w0, .int am, .int wt, .int md, .long (gG wt md d pp), .long x2, .long x3, .long x4, .long x5])), (w0, .inr (8, [.ref g0, .int (nI d), .int (nI sh), .int (nI cap), .int (nI sw)]))] H := hP
  have hD : va_D A [(h0, .inr (2, [.ref w0, .int am, .int wt, .int md, .long (gG wt md d pp), .long x2, .long x3, .long x4, .long x5])), (w0, .inr (8, [.ref g0, .int (nI d), .int (nI sh), .int (nI cap), .int (nI sw)]))] := hD
  refine lv_aload_n hx hb dX2_stand_41 rfl (lv_at hl 1 rfl) ?_
  refine lv_aload_n hx hb dX2_stand_42 rfl (lv_at hl 1 rfl) ?_
  refine va_get (D := D) (ci := 2) (v := .int am) (C := RX2) (T := TX2) (N := 9) hx hb hts iX2 hown hK hP 0 rfl rfl 1 (by decide) (hts (.fieldLink RX2 15 "DeepHole$Gas" "amount" "I") (by decide +kernel)) (fun _ h9 => h9) rfl dX2_stand_43 ?_
  refine lv_i2l (v := am.toInt64) hx hb dX2_stand_46 rfl ?_
  refine lv_lload_n hx hb dX2_stand_47 rfl (lv_at hl 0 rfl) ?_
  refine lv_lmul hx hb dX2_stand_48 ?_
  refine lv_aload_n hx hb dX2_stand_49 rfl (lv_at hl 1 rfl) ?_
  refine va_get (D := D) (ci := 2) (v := .long (gG wt md d pp)) (C := RX2) (T := TX2) (N := 9) hx hb hts iX2 hown hK hP 0 rfl rfl 4 (by decide) (hts (.fieldLink RX2 36 "DeepHole$Gas" "pressure" "J") (by decide +kernel)) (fun _ h9 => h9) rfl dX2_stand_50 ?_
  refine q_SNl (tys := TY cI cS cP) (D := D) ⟨hx, hb, hml, hown, hts⟩ [.long (am.toInt64 * (gB wt d)), .long (gG wt md d pp)] [.ref h0] (c_X9_cut  (gG_pos _ _ _ _)) ⟨va_cnB 2 hts ggX2_stand_X9_cut rfl rfl rfl hN.1 (hts (.initialized RX9) (by decide +kernel)) (by decide +kernel) ⟨Nat.le_of_ble_eq_true rfl, Nat.le_of_ble_eq_true rfl⟩, (hts (.static yX9_cut) (by decide +kernel)), trivial⟩ hK hN rfl hl.1 rfl (Nat.le_of_ble_eq_true rfl) dX2_stand_53 ⟨Nat.zero_le _, Nat.zero_le _⟩ (fun r hw => ?_)
  subst hw
  refine lv_eql (z := gV am wt md d pp) (rfl) ?_
  refine va_put (D := D) (ci := 2) (v := .long (gV am wt md d pp)) (ty := .long) (C := RX2) (T := TX2) (N := 9) hx hb hts iX2 tyX2 tyX2_ok nmX2 hown hK hP hD hS 0 rfl rfl 5 (by decide) (hts (.fieldLink RX2 43 "DeepHole$Gas" "volume" "J") (by decide +kernel)) (fun _ h9 => h9) rfl (by decide +kernel) rfl rfl (Nat.le_of_ble_eq_true rfl) dX2_stand_56 (fun H locs hP hD hS => ?_)
  have hP : va_P D vwCl [(h0, .inr (2, [.ref w0, .int am, .int wt, .int md, .long (gG wt md d pp), .long (gV am wt md d pp), .long x3, .long x4, .long x5])), (w0, .inr (8, [.ref g0, .int (nI d), .int (nI sh), .int (nI cap), .int (nI sw)]))] H := hP
  have hD : va_D A [(h0, .inr (2, [.ref w0, .int am, .int wt, .int md, .long (gG wt md d pp), .long (gV am wt md d pp), .long x3, .long x4, .long x5])), (w0, .inr (8, [.ref g0, .int (nI d), .int (nI sh), .int (nI cap), .int (nI sw)]))] := hD
  refine lv_aload_n hx hb dX2_stand_59 rfl (lv_at hl 1 rfl) ?_
  refine lv_iload_n hx hb dX2_stand_60 rfl (lv_at hl 2 rfl) ?_
  refine lv_i2l (v := (nI pp).toInt64) hx hb dX2_stand_61 rfl ?_
  refine lv_aload_n hx hb dX2_stand_62 rfl (lv_at hl 1 rfl) ?_
  refine va_get (D := D) (ci := 2) (v := .long (gV am wt md d pp)) (C := RX2) (T := TX2) (N := 9) hx hb hts iX2 hown hK hP 0 rfl rfl 5 (by decide) (hts (.fieldLink RX2 43 "DeepHole$Gas" "volume" "J") (by decide +kernel)) (fun _ h9 => h9) rfl dX2_stand_63 ?_
  refine lv_aload_n hx hb dX2_stand_66 rfl (lv_at hl 1 rfl) ?_
  refine va_get (D := D) (ci := 2) (v := .ref w0) (C := RX2) (T := TX2) (N := 9) hx hb hts iX2 hown hK hP 0 rfl rfl 0 (by decide) (hts (.fieldLink RX2 9 "DeepHole$Gas" "well" "LDeepHole$Well;") (by decide +kernel)) (fun _ h9 => h9) rfl dX2_stand_67 ?_
  refine va_get (D := D) (ci := 8) (v := .int (nI cap)) (C := RX8) (T := TX8) (N := 5) hx hb hts iX8 hown hK hP 1 rfl rfl 3 (by decide) (hts (.fieldLink RX2 46 "DeepHole$Well" "cap" "I") (by decide +kernel)) (fun _ h9 => h9) rfl dX2_stand_70 ?_
  refine lv_i2l (v := (nI cap).toInt64) hx hb dX2_stand_73 rfl ?_
  refine q_SNl (tys := TY cI cS cP) (D := D) ⟨hx, hb, hml, hown, hts⟩ [.long (gV am wt md d pp), .long ((nI cap).toInt64)] [.long ((nI pp).toInt64), .ref h0] (c_X9_cut  (cap_pos hc1 (by omega))) ⟨va_cnB 2 hts ggX2_stand_X9_cut rfl rfl rfl hN.1 (hts (.initialized RX9) (by decide +kernel)) (by decide +kernel) ⟨Nat.le_of_ble_eq_true rfl, Nat.le_of_ble_eq_true rfl⟩, (hts (.static yX9_cut) (by decide +kernel)), trivial⟩ hK hN rfl hl.1 rfl (Nat.le_of_ble_eq_true rfl) dX2_stand_74 ⟨Nat.zero_le _, Nat.zero_le _⟩ (fun r hw => ?_)
  subst hw
  refine va_mmin_long hx hb (hml.trans hl.1.symm) hown (hts (.methodLink RX2 49 Lib.MathLoose.min_long.x) (by decide +kernel)) (hts (.static Lib.MathLoose.min_long.x) (by decide +kernel)) (hts (.initialized "java/lang/Math") (by decide +kernel)) (hts (.code Lib.MathLoose.min_long.x Lib.MathLoose.min_long.code 4 (some .long)) (by decide +kernel)) (Nat.le_of_ble_eq_true rfl) (Nat.le_of_ble_eq_true rfl) (Nat.zero_le _) (Nat.zero_le _) dX2_stand_77 ?_
  refine lv_eql (z := gH am wt md d cap pp) (rfl) ?_
  refine va_put (D := D) (ci := 2) (v := .long (gH am wt md d cap pp)) (ty := .long) (C := RX2) (T := TX2) (N := 9) hx hb hts iX2 tyX2 tyX2_ok nmX2 hown hK hP hD hS 0 rfl rfl 6 (by decide) (hts (.fieldLink RX2 52 "DeepHole$Gas" "height" "J") (by decide +kernel)) (fun _ h9 => h9) rfl (by decide +kernel) rfl rfl (Nat.le_of_ble_eq_true rfl) dX2_stand_80 (fun H locs hP hD hS => ?_)
  have hP : va_P D vwCl [(h0, .inr (2, [.ref w0, .int am, .int wt, .int md, .long (gG wt md d pp), .long (gV am wt md d pp), .long (gH am wt md d cap pp), .long x4, .long x5])), (w0, .inr (8, [.ref g0, .int (nI d), .int (nI sh), .int (nI cap), .int (nI sw)]))] H := hP
  have hD : va_D A [(h0, .inr (2, [.ref w0, .int am, .int wt, .int md, .long (gG wt md d pp), .long (gV am wt md d pp), .long (gH am wt md d cap pp), .long x4, .long x5])), (w0, .inr (8, [.ref g0, .int (nI d), .int (nI sh), .int (nI cap), .int (nI sw)]))] := hD
  refine lv_iload_n hx hb dX2_stand_83 rfl (lv_at hl 2 rfl) ?_
  refine lv_i2l (v := (nI pp).toInt64) hx hb dX2_stand_84 rfl ?_
  refine lv_aload_n hx hb dX2_stand_85 rfl (lv_at hl 1 rfl) ?_
  refine va_get (D := D) (ci := 2) (v := .long (gH am wt md d cap pp)) (C := RX2) (T := TX2) (N := 9) hx hb hts iX2 hown hK hP 0 rfl rfl 6 (by decide) (hts (.fieldLink RX2 52 "DeepHole$Gas" "height" "J") (by decide +kernel)) (fun _ h9 => h9) rfl dX2_stand_86 ?_
  refine lv_lsub hx hb dX2_stand_89 ?_
  refine lv_eql (z := gT am wt md d cap pp) (rfl) ?_
  refine lv_lstore (lv' := [(4, .long (gT am wt md d cap pp)), (2, .long (gB wt d)), (0, .ref h0), (1, .int (nI pp))]) hx hb dX2_stand_90 hl (by decide) rfl (fun ls hl => ?_)
  refine lv_aload_n hx hb dX2_stand_92 rfl (lv_at hl 2 rfl) ?_
  refine lv_lconst (v := 0) hx hb dX2_stand_93 (by decide) ?_
  refine lv_aload_n hx hb dX2_stand_94 rfl (lv_at hl 2 rfl) ?_
  refine va_get (D := D) (ci := 2) (v := .long (gG wt md d pp)) (C := RX2) (T := TX2) (N := 9) hx hb hts iX2 hown hK hP 0 rfl rfl 4 (by decide) (hts (.fieldLink RX2 36 "DeepHole$Gas" "pressure" "J") (by decide +kernel)) (fun _ h9 => h9) rfl dX2_stand_95 ?_
  refine lv_aload_n hx hb dX2_stand_98 rfl (lv_at hl 2 rfl) ?_
  refine va_get (D := D) (ci := 2) (v := .int md) (C := RX2) (T := TX2) (N := 9) hx hb hts iX2 hown hK hP 0 rfl rfl 3 (by decide) (hts (.fieldLink RX2 22 "DeepHole$Gas" "mud" "I") (by decide +kernel)) (fun _ h9 => h9) rfl dX2_stand_99 ?_
  refine lv_i2l (v := md.toInt64) hx hb dX2_stand_102 rfl ?_
  refine lv_lload hx hb dX2_stand_103 (lv_at hl 0 rfl) ?_
  refine lv_lmul hx hb dX2_stand_105 ?_
  refine lv_lsub hx hb dX2_stand_106 ?_
  refine va_mmax_long hx hb (hml.trans hl.1.symm) hown (hts (.methodLink RX2 30 Lib.MathLoose.max_long.x) (by decide +kernel)) (hts (.static Lib.MathLoose.max_long.x) (by decide +kernel)) (hts (.initialized "java/lang/Math") (by decide +kernel)) (hts (.code Lib.MathLoose.max_long.x Lib.MathLoose.max_long.code 4 (some .long)) (by decide +kernel)) (Nat.le_of_ble_eq_true rfl) (Nat.le_of_ble_eq_true rfl) (Nat.zero_le _) (Nat.zero_le _) dX2_stand_107 ?_
  refine lv_eql (z := gC am wt md d cap pp) (rfl) ?_
  refine va_put (D := D) (ci := 2) (v := .long (gC am wt md d cap pp)) (ty := .long) (C := RX2) (T := TX2) (N := 9) hx hb hts iX2 tyX2 tyX2_ok nmX2 hown hK hP hD hS 0 rfl rfl 7 (by decide) (hts (.fieldLink RX2 55 "DeepHole$Gas" "choke" "J") (by decide +kernel)) (fun _ h9 => h9) rfl (by decide +kernel) rfl rfl (Nat.le_of_ble_eq_true rfl) dX2_stand_110 (fun H locs hP hD hS => ?_)
  have hP : va_P D vwCl [(h0, .inr (2, [.ref w0, .int am, .int wt, .int md, .long (gG wt md d pp), .long (gV am wt md d pp), .long (gH am wt md d cap pp), .long (gC am wt md d cap pp), .long x5])), (w0, .inr (8, [.ref g0, .int (nI d), .int (nI sh), .int (nI cap), .int (nI sw)]))] H := hP
  have hD : va_D A [(h0, .inr (2, [.ref w0, .int am, .int wt, .int md, .long (gG wt md d pp), .long (gV am wt md d pp), .long (gH am wt md d cap pp), .long (gC am wt md d cap pp), .long x5])), (w0, .inr (8, [.ref g0, .int (nI d), .int (nI sh), .int (nI cap), .int (nI sw)]))] := hD
  refine lv_aload_n hx hb dX2_stand_113 rfl (lv_at hl 2 rfl) ?_
  refine va_get (D := D) (ci := 2) (v := .ref w0) (C := RX2) (T := TX2) (N := 9) hx hb hts iX2 hown hK hP 0 rfl rfl 0 (by decide) (hts (.fieldLink RX2 9 "DeepHole$Gas" "well" "LDeepHole$Well;") (by decide +kernel)) (fun _ h9 => h9) rfl dX2_stand_114 ?_
  refine va_get (D := D) (ci := 8) (v := .int (nI sh)) (C := RX8) (T := TX8) (N := 5) hx hb hts iX8 hown hK hP 1 rfl rfl 2 (by decide) (hts (.fieldLink RX2 58 "DeepHole$Well" "shoe" "I") (by decide +kernel)) (fun _ h9 => h9) rfl dX2_stand_117 ?_
  refine lv_i2l (v := (nI sh).toInt64) hx hb dX2_stand_120 rfl ?_
  refine lv_lload hx hb dX2_stand_121 (lv_at hl 0 rfl) ?_
  refine W.lcmp hx hb dX2_stand_123 ?_
  refine lv_if_gt (tgt := 153) hx hb dX2_stand_124 (by decide) (fun c_124 => ?_) (fun c_124 => ?_)
  ·
    have c_124 := (lg_cmp_gt _ _).mp c_124
    refine lv_aload_n hx hb dX2_stand_153 rfl (lv_at hl 2 rfl) ?_
    refine va_get (D := D) (ci := 2) (v := .ref w0) (C := RX2) (T := TX2) (N := 9) hx hb hts iX2 hown hK hP 0 rfl rfl 0 (by decide) (hts (.fieldLink RX2 9 "DeepHole$Gas" "well" "LDeepHole$Well;") (by decide +kernel)) (fun _ h9 => h9) rfl dX2_stand_154 ?_
    refine va_get (D := D) (ci := 8) (v := .int (nI sh)) (C := RX8) (T := TX8) (N := 5) hx hb hts iX8 hown hK hP 1 rfl rfl 2 (by decide) (hts (.fieldLink RX2 58 "DeepHole$Well" "shoe" "I") (by decide +kernel)) (fun _ h9 => h9) rfl dX2_stand_157 ?_
    refine lv_iload_n hx hb dX2_stand_160 rfl (lv_at hl 3 rfl) ?_
    refine lv_icmp_gt (tgt := 175) hx hb dX2_stand_161 (by decide) (fun c_161 => ?_) (fun c_161 => ?_)
    ·
      have c_161 := n_gt (a := sh) (b := pp) c_161 (by omega) (by omega)
      refine lv_aload_n hx hb dX2_stand_175 rfl (lv_at hl 2 rfl) ?_
      refine lv_lload_n hx hb dX2_stand_176 rfl (lv_at hl 1 rfl) ?_
      refine lv_aload_n hx hb dX2_stand_177 rfl (lv_at hl 2 rfl) ?_
      refine va_get (D := D) (ci := 2) (v := .int md) (C := RX2) (T := TX2) (N := 9) hx hb hts iX2 hown hK hP 0 rfl rfl 3 (by decide) (hts (.fieldLink RX2 22 "DeepHole$Gas" "mud" "I") (by decide +kernel)) (fun _ h9 => h9) rfl dX2_stand_178 ?_
      refine lv_i2l (v := md.toInt64) hx hb dX2_stand_181 rfl ?_
      refine lv_aload_n hx hb dX2_stand_182 rfl (lv_at hl 2 rfl) ?_
      refine va_get (D := D) (ci := 2) (v := .ref w0) (C := RX2) (T := TX2) (N := 9) hx hb hts iX2 hown hK hP 0 rfl rfl 0 (by decide) (hts (.fieldLink RX2 9 "DeepHole$Gas" "well" "LDeepHole$Well;") (by decide +kernel)) (fun _ h9 => h9) rfl dX2_stand_183 ?_
      refine va_get (D := D) (ci := 8) (v := .int (nI d)) (C := RX8) (T := TX8) (N := 5) hx hb hts iX8 hown hK hP 1 rfl rfl 1 (by decide) (hts (.fieldLink RX2 25 "DeepHole$Well" "depth" "I") (by decide +kernel)) (fun _ h9 => h9) rfl dX2_stand_186 ?_
      refine lv_aload_n hx hb dX2_stand_189 rfl (lv_at hl 2 rfl) ?_
      refine va_get (D := D) (ci := 2) (v := .ref w0) (C := RX2) (T := TX2) (N := 9) hx hb hts iX2 hown hK hP 0 rfl rfl 0 (by decide) (hts (.fieldLink RX2 9 "DeepHole$Gas" "well" "LDeepHole$Well;") (by decide +kernel)) (fun _ h9 => h9) rfl dX2_stand_190 ?_
      refine va_get (D := D) (ci := 8) (v := .int (nI sh)) (C := RX8) (T := TX8) (N := 5) hx hb hts iX8 hown hK hP 1 rfl rfl 2 (by decide) (hts (.fieldLink RX2 58 "DeepHole$Well" "shoe" "I") (by decide +kernel)) (fun _ h9 => h9) rfl dX2_stand_193 ?_
      refine lv_isub hx hb dX2_stand_196 ?_
      refine lv_i2l (v := ((nI d) - (nI sh)).toInt64) hx hb dX2_stand_197 rfl ?_
      refine lv_lmul hx hb dX2_stand_198 ?_
      refine lv_lsub hx hb dX2_stand_199 ?_
      refine lv_eql (z := gA am wt md d cap sh pp) (by unfold gA; rw [if_pos c_124, if_pos (by omega)]) ?_
      refine va_put (D := D) (ci := 2) (v := .long (gA am wt md d cap sh pp)) (ty := .long) (C := RX2) (T := TX2) (N := 9) hx hb hts iX2 tyX2 tyX2_ok nmX2 hown hK hP hD hS 0 rfl rfl 8 (by decide) (hts (.fieldLink RX2 61 "DeepHole$Gas" "atShoe" "J") (by decide +kernel)) (fun _ h9 => h9) rfl (by decide +kernel) rfl rfl (Nat.le_of_ble_eq_true rfl) dX2_stand_200 (fun H locs hP hD hS => ?_)
      have hP : va_P D vwCl [(h0, .inr (2, [.ref w0, .int am, .int wt, .int md, .long (gG wt md d pp), .long (gV am wt md d pp), .long (gH am wt md d cap pp), .long (gC am wt md d cap pp), .long (gA am wt md d cap sh pp)])), (w0, .inr (8, [.ref g0, .int (nI d), .int (nI sh), .int (nI cap), .int (nI sw)]))] H := hP
      have hD : va_D A [(h0, .inr (2, [.ref w0, .int am, .int wt, .int md, .long (gG wt md d pp), .long (gV am wt md d pp), .long (gH am wt md d cap pp), .long (gC am wt md d cap pp), .long (gA am wt md d cap sh pp)])), (w0, .inr (8, [.ref g0, .int (nI d), .int (nI sh), .int (nI cap), .int (nI sw)]))] := hD
      have hP9 := hP.sub (ws' := [(h0, .inr (2, [.ref w0, .int am, .int wt, .int md, .long (gG wt md d pp), .long (gV am wt md d pp), .long (gH am wt md d cap pp), .long (gC am wt md d cap pp), .long (gA am wt md d cap sh pp)])), (w0, .inr (8, [.ref g0, .int (nI d), .int (nI sh), .int (nI cap), .int (nI sw)]))]) [0, 1] rfl
      have hD9 := hD.sub (ws' := [(h0, .inr (2, [.ref w0, .int am, .int wt, .int md, .long (gG wt md d pp), .long (gV am wt md d pp), .long (gH am wt md d cap pp), .long (gC am wt md d cap pp), .long (gA am wt md d cap sh pp)])), (w0, .inr (8, [.ref g0, .int (nI d), .int (nI sh), .int (nI cap), .int (nI sw)]))]) [0, 1] (by decide) rfl
      exact W.vret hx hb hr (fun t ht hW => ⟨⟨(), rfl, (trivial), by rw [ht]; exact hP9, hD9⟩, hS.F ht⟩) hS.2.2 dX2_stand_203
    ·
      have c_161 := n_ngt (a := sh) (b := pp) c_161 (by omega) (by omega)
      refine lv_aload_n hx hb dX2_stand_164 rfl (lv_at hl 2 rfl) ?_
      refine lv_aload_n hx hb dX2_stand_165 rfl (lv_at hl 2 rfl) ?_
      refine va_get (D := D) (ci := 2) (v := .long (gG wt md d pp)) (C := RX2) (T := TX2) (N := 9) hx hb hts iX2 hown hK hP 0 rfl rfl 4 (by decide) (hts (.fieldLink RX2 36 "DeepHole$Gas" "pressure" "J") (by decide +kernel)) (fun _ h9 => h9) rfl dX2_stand_166 ?_
      refine lv_eql (z := gA am wt md d cap sh pp) (by unfold gA; rw [if_pos c_124, if_neg (by omega)]) ?_
      refine va_put (D := D) (ci := 2) (v := .long (gA am wt md d cap sh pp)) (ty := .long) (C := RX2) (T := TX2) (N := 9) hx hb hts iX2 tyX2 tyX2_ok nmX2 hown hK hP hD hS 0 rfl rfl 8 (by decide) (hts (.fieldLink RX2 61 "DeepHole$Gas" "atShoe" "J") (by decide +kernel)) (fun _ h9 => h9) rfl (by decide +kernel) rfl rfl (Nat.le_of_ble_eq_true rfl) dX2_stand_169 (fun H locs hP hD hS => ?_)
      have hP : va_P D vwCl [(h0, .inr (2, [.ref w0, .int am, .int wt, .int md, .long (gG wt md d pp), .long (gV am wt md d pp), .long (gH am wt md d cap pp), .long (gC am wt md d cap pp), .long (gA am wt md d cap sh pp)])), (w0, .inr (8, [.ref g0, .int (nI d), .int (nI sh), .int (nI cap), .int (nI sw)]))] H := hP
      have hD : va_D A [(h0, .inr (2, [.ref w0, .int am, .int wt, .int md, .long (gG wt md d pp), .long (gV am wt md d pp), .long (gH am wt md d cap pp), .long (gC am wt md d cap pp), .long (gA am wt md d cap sh pp)])), (w0, .inr (8, [.ref g0, .int (nI d), .int (nI sh), .int (nI cap), .int (nI sw)]))] := hD
      refine lv_goto (tgt := 203) hx hb dX2_stand_172 (by decide) ?_
      have hP9 := hP.sub (ws' := [(h0, .inr (2, [.ref w0, .int am, .int wt, .int md, .long (gG wt md d pp), .long (gV am wt md d pp), .long (gH am wt md d cap pp), .long (gC am wt md d cap pp), .long (gA am wt md d cap sh pp)])), (w0, .inr (8, [.ref g0, .int (nI d), .int (nI sh), .int (nI cap), .int (nI sw)]))]) [0, 1] rfl
      have hD9 := hD.sub (ws' := [(h0, .inr (2, [.ref w0, .int am, .int wt, .int md, .long (gG wt md d pp), .long (gV am wt md d pp), .long (gH am wt md d cap pp), .long (gC am wt md d cap pp), .long (gA am wt md d cap sh pp)])), (w0, .inr (8, [.ref g0, .int (nI d), .int (nI sh), .int (nI cap), .int (nI sw)]))]) [0, 1] (by decide) rfl
      exact W.vret hx hb hr (fun t ht hW => ⟨⟨(), rfl, (trivial), by rw [ht]; exact hP9, hD9⟩, hS.F ht⟩) hS.2.2 dX2_stand_203
  ·
    have c_124 := fun h => c_124 ((lg_cmp_gt _ _).mpr h)
    refine lv_aload_n hx hb dX2_stand_127 rfl (lv_at hl 2 rfl) ?_
    refine lv_aload_n hx hb dX2_stand_128 rfl (lv_at hl 2 rfl) ?_
    refine va_get (D := D) (ci := 2) (v := .long (gC am wt md d cap pp)) (C := RX2) (T := TX2) (N := 9) hx hb hts iX2 hown hK hP 0 rfl rfl 7 (by decide) (hts (.fieldLink RX2 55 "DeepHole$Gas" "choke" "J") (by decide +kernel)) (fun _ h9 => h9) rfl dX2_stand_129 ?_
    refine lv_aload_n hx hb dX2_stand_132 rfl (lv_at hl 2 rfl) ?_
    refine va_get (D := D) (ci := 2) (v := .int md) (C := RX2) (T := TX2) (N := 9) hx hb hts iX2 hown hK hP 0 rfl rfl 3 (by decide) (hts (.fieldLink RX2 22 "DeepHole$Gas" "mud" "I") (by decide +kernel)) (fun _ h9 => h9) rfl dX2_stand_133 ?_
    refine lv_i2l (v := md.toInt64) hx hb dX2_stand_136 rfl ?_
    refine lv_aload_n hx hb dX2_stand_137 rfl (lv_at hl 2 rfl) ?_
    refine va_get (D := D) (ci := 2) (v := .ref w0) (C := RX2) (T := TX2) (N := 9) hx hb hts iX2 hown hK hP 0 rfl rfl 0 (by decide) (hts (.fieldLink RX2 9 "DeepHole$Gas" "well" "LDeepHole$Well;") (by decide +kernel)) (fun _ h9 => h9) rfl dX2_stand_138 ?_
    refine va_get (D := D) (ci := 8) (v := .int (nI sh)) (C := RX8) (T := TX8) (N := 5) hx hb hts iX8 hown hK hP 1 rfl rfl 2 (by decide) (hts (.fieldLink RX2 58 "DeepHole$Well" "shoe" "I") (by decide +kernel)) (fun _ h9 => h9) rfl dX2_stand_141 ?_
    refine lv_i2l (v := (nI sh).toInt64) hx hb dX2_stand_144 rfl ?_
    refine lv_lmul hx hb dX2_stand_145 ?_
    refine lv_ladd hx hb dX2_stand_146 ?_
    refine lv_eql (z := gA am wt md d cap sh pp) (by unfold gA; rw [if_neg c_124]) ?_
    refine va_put (D := D) (ci := 2) (v := .long (gA am wt md d cap sh pp)) (ty := .long) (C := RX2) (T := TX2) (N := 9) hx hb hts iX2 tyX2 tyX2_ok nmX2 hown hK hP hD hS 0 rfl rfl 8 (by decide) (hts (.fieldLink RX2 61 "DeepHole$Gas" "atShoe" "J") (by decide +kernel)) (fun _ h9 => h9) rfl (by decide +kernel) rfl rfl (Nat.le_of_ble_eq_true rfl) dX2_stand_147 (fun H locs hP hD hS => ?_)
    have hP : va_P D vwCl [(h0, .inr (2, [.ref w0, .int am, .int wt, .int md, .long (gG wt md d pp), .long (gV am wt md d pp), .long (gH am wt md d cap pp), .long (gC am wt md d cap pp), .long (gA am wt md d cap sh pp)])), (w0, .inr (8, [.ref g0, .int (nI d), .int (nI sh), .int (nI cap), .int (nI sw)]))] H := hP
    have hD : va_D A [(h0, .inr (2, [.ref w0, .int am, .int wt, .int md, .long (gG wt md d pp), .long (gV am wt md d pp), .long (gH am wt md d cap pp), .long (gC am wt md d cap pp), .long (gA am wt md d cap sh pp)])), (w0, .inr (8, [.ref g0, .int (nI d), .int (nI sh), .int (nI cap), .int (nI sw)]))] := hD
    refine lv_goto (tgt := 203) hx hb dX2_stand_150 (by decide) ?_
    have hP9 := hP.sub (ws' := [(h0, .inr (2, [.ref w0, .int am, .int wt, .int md, .long (gG wt md d pp), .long (gV am wt md d pp), .long (gH am wt md d cap pp), .long (gC am wt md d cap pp), .long (gA am wt md d cap sh pp)])), (w0, .inr (8, [.ref g0, .int (nI d), .int (nI sh), .int (nI cap), .int (nI sw)]))]) [0, 1] rfl
    have hD9 := hD.sub (ws' := [(h0, .inr (2, [.ref w0, .int am, .int wt, .int md, .long (gG wt md d pp), .long (gV am wt md d pp), .long (gH am wt md d cap pp), .long (gC am wt md d cap pp), .long (gA am wt md d cap sh pp)])), (w0, .inr (8, [.ref g0, .int (nI d), .int (nI sh), .int (nI cap), .int (nI sw)]))]) [0, 1] (by decide) rfl
    exact W.vret hx hb hr (fun t ht hW => ⟨⟨(), rfl, (trivial), by rw [ht]; exact hP9, hD9⟩, hS.F ht⟩) hS.2.2 dX2_stand_203

set_option maxHeartbeats 4000000 in
set_option maxRecDepth 100000 in
theorem c_X2_isBrokenAt {l : Launch} {D : va_G} {cI cS cP : ClassId} {sz : Nat} {h0 w0 g0 d sh cap sw : Nat} {am wt md : Int32} {x1 x2 x3 x4 x5 : Int64} {pp : Nat} {st0 : Int64} (hd : d ≤ 50) (hsh : sh ≤ d) (hc1 : 1 ≤ cap) (hc2 : cap ≤ 1000) (hpp : pp ≤ d) : Met l yX2_isBrokenAt wsX2_isBrokenAt ({ frames := 2, cells := 0, slots := 0, locals := 48 }) (PC D (TY cI cS cP) [.ref h0, .int (nI pp), .long st0] sz [(h0, .inr (2, [.ref w0, .int am, .int wt, .int md, .long x1, .long x2, .long x3, .long x4, .long x5])), (w0, .inr (8, [.ref g0, .int (nI d), .int (nI sh), .int (nI cap), .int (nI sw)]))]) (QI D (fun (r : Int32) (u : Unit) => r = if (st0 < gA am wt md d cap sh pp) then 1 else 0) (fun (u : Unit) => [(h0, .inr (2, [.ref w0, .int am, .int wt, .int md, .long (gG wt md d pp), .long (gV am wt md d pp), .long (gH am wt md d cap pp), .long (gC am wt md d cap pp), .long (gA am wt md d cap sh pp)])), (w0, .inr (8, [.ref g0, .int (nI d), .int (nI sh), .int (nI cap), .int (nI sw)]))]) (va_A [(h0, .inr (2, [.ref w0, .int am, .int wt, .int md, .long x1, .long x2, .long x3, .long x4, .long x5])), (w0, .inr (8, [.ref g0, .int (nI d), .int (nI sh), .int (nI cap), .int (nI sw)]))] sz)) 0 0 (va_A [(h0, .inr (2, [.ref w0, .int am, .int wt, .int md, .long x1, .long x2, .long x3, .long x4, .long x5])), (w0, .inr (8, [.ref g0, .int (nI d), .int (nI sh), .int (nI cap), .int (nI sw)]))] sz) := by
  refine Met.ofW (cc := cX2_isBrokenAt) (maxL := 4) (ret := (some .boolean)) (by decide) rfl ?_
  intro p e s m args below meth c s₁ B hml hv
  obtain ⟨rfl, hsz, hP, hK, hD0, hN⟩ := hv
  have hx := B.exec
  have hb := B.bytes
  have hr := B.returns
  have hts := atoms_spec (ws := wsX2_isBrokenAt) B.pre
  have hown : s.vm.findClass RX2 = some m.cls := findClass_of_methodNamed B.named
  have hlocks := B.notSynchronized
  subst hsz
  have iX2 : ∀ w ∈ u_ws RX2 TX2 9, w ∈ wsX2_isBrokenAt := by decide +kernel
  have hD := hD0.self (sz := s.heap.size)
  generalize hAe : va_A [(h0, .inr (2, [.ref w0, .int am, .int wt, .int md, .long x1, .long x2, .long x3, .long x4, .long x5])), (w0, .inr (8, [.ref g0, .int (nI d), .int (nI sh), .int (nI cap), .int (nI sw)]))] s.heap.size = A at hD ⊢
  have hA : ∀ q : Nat, s.heap.size ≤ q → A q := fun q h => by rw [← hAe]; exact Or.inr h
  have hS : va_S A s.heap s.heap [] := va_S.rf
  have hP : va_P D vwCl [(h0, .inr (2, [.ref w0, .int am, .int wt, .int md, .long x1, .long x2, .long x3, .long x4, .long x5])), (w0, .inr (8, [.ref g0, .int (nI d), .int (nI sh), .int (nI cap), .int (nI sw)]))] s.heap := hP
  have hl := lv_entry ([.ref h0, .int (nI pp), .long st0]) (n := 4) (Nat.le_of_ble_eq_true rfl)
  rw [lg_entry_eq]
  generalize (lg_sl ([.ref h0, .int (nI pp), .long st0]) ++ List.replicate (4 - (lg_sl ([.ref h0, .int (nI pp), .long st0])).length) Slot.unset).toArray = ls at hl ⊢
  have hl : lv_has ls 4 [(0, .ref h0), (1, .int (nI pp)), (2, .long st0)] := hl
  refine lv_aload_n hx hb dX2_isBrokenAt_0 rfl (lv_at hl 0 rfl) ?_
  refine lv_iload_n hx hb dX2_isBrokenAt_1 rfl (lv_at hl 1 rfl) ?_
  refine w_Vv (wc := [(h0, .inr (2, [.ref w0, .int am, .int wt, .int md, .long x1, .long x2, .long x3, .long x4, .long x5])), (w0, .inr (8, [.ref g0, .int (nI d), .int (nI sh), .int (nI cap), .int (nI sw)]))]) (wr := []) (b := h0) ⟨hx, hb, hml, hown, hts⟩ [.int (nI pp)] [] (c_X2_stand  (by first | assumption | omega) (by first | assumption | omega) (by first | assumption | omega) (by first | assumption | omega) (by first | assumption | omega)) (cwV 1 hts gX2_isBrokenAt_X2_stand rfl rfl rfl (by decide +kernel) ⟨Nat.le_of_ble_eq_true rfl, Nat.le_of_ble_eq_true rfl⟩) hK hN hP hD hS hA [0, 1] [] rfl (by decide) rfl (by decide) (by decide) (ci := 2) rfl rfl rfl rfl hl.1 rfl (Nat.le_of_ble_eq_true rfl) dX2_isBrokenAt_2 ⟨Nat.zero_le _, Nat.zero_le _⟩ (fun u H locs hw hP hD hS => ?_)
  have hP : va_P D vwCl [(h0, .inr (2, [.ref w0, .int am, .int wt, .int md, .long (gG wt md d pp), .long (gV am wt md d pp), .long (gH am wt md d cap pp), .long (gC am wt md d cap pp), .long (gA am wt md d cap sh pp)])), (w0, .inr (8, [.ref g0, .int (nI d), .int (nI sh), .int (nI cap), .int (nI sw)]))] H := hP
  have hD : va_D A [(h0, .inr (2, [.ref w0, .int am, .int wt, .int md, .long (gG wt md d pp), .long (gV am wt md d pp), .long (gH am wt md d cap pp), .long (gC am wt md d cap pp), .long (gA am wt md d cap sh pp)])), (w0, .inr (8, [.ref g0, .int (nI d), .int (nI sh), .int (nI cap), .int (nI sw)]))] := hD
  refine lv_aload_n hx hb dX2_isBrokenAt_5 rfl (lv_at hl 0 rfl) ?_
  refine va_get (D := D) (ci := 2) (v := .long (gA am wt md d cap sh pp)) (C := RX2) (T := TX2) (N := 9) hx hb hts iX2 hown hK hP 0 rfl rfl 8 (by decide) (hts (.fieldLink RX2 61 "DeepHole$Gas" "atShoe" "J") (by decide +kernel)) (fun _ h9 => h9) rfl dX2_isBrokenAt_6 ?_
  refine lv_lload_n hx hb dX2_isBrokenAt_9 rfl (lv_at hl 2 rfl) ?_
  refine W.lcmp hx hb dX2_isBrokenAt_10 ?_
  refine lv_if_le (tgt := 18) hx hb dX2_isBrokenAt_11 (by decide) (fun c_11 => ?_) (fun c_11 => ?_)
  ·
    have c_11 := (lg_cmp_le _ _).mp c_11
    refine lv_iconst (v := 0) hx hb dX2_isBrokenAt_18 (by decide) ?_
    have hP9 := hP.sub (ws' := [(h0, .inr (2, [.ref w0, .int am, .int wt, .int md, .long (gG wt md d pp), .long (gV am wt md d pp), .long (gH am wt md d cap pp), .long (gC am wt md d cap pp), .long (gA am wt md d cap sh pp)])), (w0, .inr (8, [.ref g0, .int (nI d), .int (nI sh), .int (nI cap), .int (nI sw)]))]) [0, 1] rfl
    have hD9 := hD.sub (ws' := [(h0, .inr (2, [.ref w0, .int am, .int wt, .int md, .long (gG wt md d pp), .long (gV am wt md d pp), .long (gH am wt md d cap pp), .long (gC am wt md d cap pp), .long (gA am wt md d cap sh pp)])), (w0, .inr (8, [.ref g0, .int (nI d), .int (nI sh), .int (nI cap), .int (nI sw)]))]) [0, 1] (by decide) rfl
    exact W.zret (v := 0) hx hb hr (rfl) (fun t ht hW => ⟨⟨_, (), rfl, (by exact b_0 (fun h => by rw [l_le] at c_11; rw [l_lt] at h; omega)), by rw [ht]; exact hP9, hD9⟩, hS.F ht⟩) hS.2.2 dX2_isBrokenAt_19
  ·
    have c_11 := fun h => c_11 ((lg_cmp_le _ _).mpr h)
    refine lv_iconst (v := 1) hx hb dX2_isBrokenAt_14 (by decide) ?_
    refine lv_goto (tgt := 19) hx hb dX2_isBrokenAt_15 (by decide) ?_
    have hP9 := hP.sub (ws' := [(h0, .inr (2, [.ref w0, .int am, .int wt, .int md, .long (gG wt md d pp), .long (gV am wt md d pp), .long (gH am wt md d cap pp), .long (gC am wt md d cap pp), .long (gA am wt md d cap sh pp)])), (w0, .inr (8, [.ref g0, .int (nI d), .int (nI sh), .int (nI cap), .int (nI sw)]))]) [0, 1] rfl
    have hD9 := hD.sub (ws' := [(h0, .inr (2, [.ref w0, .int am, .int wt, .int md, .long (gG wt md d pp), .long (gV am wt md d pp), .long (gH am wt md d cap pp), .long (gC am wt md d cap pp), .long (gA am wt md d cap sh pp)])), (w0, .inr (8, [.ref g0, .int (nI d), .int (nI sh), .int (nI cap), .int (nI sw)]))]) [0, 1] (by decide) rfl
    exact W.zret (v := 1) hx hb hr (rfl) (fun t ht hW => ⟨⟨_, (), rfl, (by exact b_1 (Classical.byContradiction fun h => c_11 (by rw [l_lt] at h; rw [l_le]; omega))), by rw [ht]; exact hP9, hD9⟩, hS.F ht⟩) hS.2.2 dX2_isBrokenAt_19

set_option maxHeartbeats 4000000 in
set_option maxRecDepth 100000 in
theorem c_X2_measure {l : Launch} {D : va_G} {cI cS cP : ClassId} {sz : Nat} {h0 w0 g0 d sh cap sw : Nat} {am wt md : Int32} {x1 x2 x3 x4 x5 : Int64} {s0 s1 a1 n1 low high : Nat} {lo1 fo1 : Int32} {it1 : Nat → Int32} {pp : Nat} {wh : Int32} (hd : d ≤ 50) (hsh : sh ≤ d) (hc1 : 1 ≤ cap) (hc2 : cap ≤ 1000) (hn1 : n1 ≤ 60) (hpp : pp ≤ d) : Met l yX2_measure wsX2_measure ({ frames := 4, cells := 0, slots := 0, locals := 86 }) (PC D (TY cI cS cP) [.ref h0, .int (nI pp), .int wh] sz [(h0, .inr (2, [.ref w0, .int am, .int wt, .int md, .long x1, .long x2, .long x3, .long x4, .long x5])), (w0, .inr (8, [.ref g0, .int (nI d), .int (nI sh), .int (nI cap), .int (nI sw)])), (g0, .inr (3, [.ref s0, .ref s1, .int (nI low), .int (nI high)])), (s1, .inr (6, [.ref a1, .int lo1, .int fo1, .int (nI n1)])), (a1, .inl (cI, 60, .inl it1))]) (QL D (fun (r : Int64) (u : Unit) => r = gM am wt md d cap sh (strg it1 n1 sh) pp wh) (fun (u : Unit) => [(h0, .inr (2, [.ref w0, .int am, .int wt, .int md, .long (gG wt md d pp), .long (gV am wt md d pp), .long (gH am wt md d cap pp), .long (gC am wt md d cap pp), .long (gA am wt md d cap sh pp)])), (w0, .inr (8, [.ref g0, .int (nI d), .int (nI sh), .int (nI cap), .int (nI sw)])), (g0, .inr (3, [.ref s0, .ref s1, .int (nI low), .int (nI high)])), (s1, .inr (6, [.ref a1, .int lo1, .int fo1, .int (nI n1)])), (a1, .inl (cI, 60, .inl it1))]) (va_A [(h0, .inr (2, [.ref w0, .int am, .int wt, .int md, .long x1, .long x2, .long x3, .long x4, .long x5])), (w0, .inr (8, [.ref g0, .int (nI d), .int (nI sh), .int (nI cap), .int (nI sw)])), (g0, .inr (3, [.ref s0, .ref s1, .int (nI low), .int (nI high)])), (s1, .inr (6, [.ref a1, .int lo1, .int fo1, .int (nI n1)])), (a1, .inl (cI, 60, .inl it1))] sz)) 0 0 (va_A [(h0, .inr (2, [.ref w0, .int am, .int wt, .int md, .long x1, .long x2, .long x3, .long x4, .long x5])), (w0, .inr (8, [.ref g0, .int (nI d), .int (nI sh), .int (nI cap), .int (nI sw)])), (g0, .inr (3, [.ref s0, .ref s1, .int (nI low), .int (nI high)])), (s1, .inr (6, [.ref a1, .int lo1, .int fo1, .int (nI n1)])), (a1, .inl (cI, 60, .inl it1))] sz) := by
  refine Met.ofW (cc := cX2_measure) (maxL := 3) (ret := (some .long)) (by decide) rfl ?_
  intro p e s m args below meth c s₁ B hml hv
  obtain ⟨rfl, hsz, hP, hK, hD0, hN⟩ := hv
  have hx := B.exec
  have hb := B.bytes
  have hr := B.returns
  have hts := atoms_spec (ws := wsX2_measure) B.pre
  have hown : s.vm.findClass RX2 = some m.cls := findClass_of_methodNamed B.named
  have hlocks := B.notSynchronized
  subst hsz
  have iX2 : ∀ w ∈ u_ws RX2 TX2 9, w ∈ wsX2_measure := by decide +kernel
  have hD := hD0.self (sz := s.heap.size)
  generalize hAe : va_A [(h0, .inr (2, [.ref w0, .int am, .int wt, .int md, .long x1, .long x2, .long x3, .long x4, .long x5])), (w0, .inr (8, [.ref g0, .int (nI d), .int (nI sh), .int (nI cap), .int (nI sw)])), (g0, .inr (3, [.ref s0, .ref s1, .int (nI low), .int (nI high)])), (s1, .inr (6, [.ref a1, .int lo1, .int fo1, .int (nI n1)])), (a1, .inl (cI, 60, .inl it1))] s.heap.size = A at hD ⊢
  have hA : ∀ q : Nat, s.heap.size ≤ q → A q := fun q h => by rw [← hAe]; exact Or.inr h
  have hS : va_S A s.heap s.heap [] := va_S.rf
  have hP : va_P D vwCl [(h0, .inr (2, [.ref w0, .int am, .int wt, .int md, .long x1, .long x2, .long x3, .long x4, .long x5])), (w0, .inr (8, [.ref g0, .int (nI d), .int (nI sh), .int (nI cap), .int (nI sw)])), (g0, .inr (3, [.ref s0, .ref s1, .int (nI low), .int (nI high)])), (s1, .inr (6, [.ref a1, .int lo1, .int fo1, .int (nI n1)])), (a1, .inl (cI, 60, .inl it1))] s.heap := hP
  have hl := lv_entry ([.ref h0, .int (nI pp), .int wh]) (n := 3) (Nat.le_of_ble_eq_true rfl)
  rw [lg_entry_eq]
  generalize (lg_sl ([.ref h0, .int (nI pp), .int wh]) ++ List.replicate (3 - (lg_sl ([.ref h0, .int (nI pp), .int wh])).length) Slot.unset).toArray = ls at hl ⊢
  have hl : lv_has ls 3 [(0, .ref h0), (1, .int (nI pp)), (2, .int wh)] := hl
  refine lv_aload_n hx hb dX2_measure_0 rfl (lv_at hl 0 rfl) ?_
  refine lv_iload_n hx hb dX2_measure_1 rfl (lv_at hl 1 rfl) ?_
  refine w_Vv (wc := [(h0, .inr (2, [.ref w0, .int am, .int wt, .int md, .long x1, .long x2, .long x3, .long x4, .long x5])), (w0, .inr (8, [.ref g0, .int (nI d), .int (nI sh), .int (nI cap), .int (nI sw)]))]) (wr := [(g0, .inr (3, [.ref s0, .ref s1, .int (nI low), .int (nI high)])), (s1, .inr (6, [.ref a1, .int lo1, .int fo1, .int (nI n1)])), (a1, .inl (cI, 60, .inl it1))]) (b := h0) ⟨hx, hb, hml, hown, hts⟩ [.int (nI pp)] [] (c_X2_stand  (by first | assumption | omega) (by first | assumption | omega) (by first | assumption | omega) (by first | assumption | omega) (by first | assumption | omega)) (cwV 1 hts gX2_measure_X2_stand rfl rfl rfl (by decide +kernel) ⟨Nat.le_of_ble_eq_true rfl, Nat.le_of_ble_eq_true rfl⟩) hK hN hP hD hS hA [0, 1] [2, 3, 4] rfl (by decide) rfl (by decide) (by decide) (ci := 2) rfl rfl rfl rfl hl.1 rfl (Nat.le_of_ble_eq_true rfl) dX2_measure_2 ⟨Nat.zero_le _, Nat.zero_le _⟩ (fun u H locs hw hP hD hS => ?_)
  have hP : va_P D vwCl [(g0, .inr (3, [.ref s0, .ref s1, .int (nI low), .int (nI high)])), (s1, .inr (6, [.ref a1, .int lo1, .int fo1, .int (nI n1)])), (a1, .inl (cI, 60, .inl it1)), (h0, .inr (2, [.ref w0, .int am, .int wt, .int md, .long (gG wt md d pp), .long (gV am wt md d pp), .long (gH am wt md d cap pp), .long (gC am wt md d cap pp), .long (gA am wt md d cap sh pp)])), (w0, .inr (8, [.ref g0, .int (nI d), .int (nI sh), .int (nI cap), .int (nI sw)]))] H := hP
  have hD : va_D A [(g0, .inr (3, [.ref s0, .ref s1, .int (nI low), .int (nI high)])), (s1, .inr (6, [.ref a1, .int lo1, .int fo1, .int (nI n1)])), (a1, .inl (cI, 60, .inl it1)), (h0, .inr (2, [.ref w0, .int am, .int wt, .int md, .long (gG wt md d pp), .long (gV am wt md d pp), .long (gH am wt md d cap pp), .long (gC am wt md d cap pp), .long (gA am wt md d cap sh pp)])), (w0, .inr (8, [.ref g0, .int (nI d), .int (nI sh), .int (nI cap), .int (nI sw)]))] := hD
  refine lv_iload_n hx hb dX2_measure_5 rfl (lv_at hl 2 rfl) ?_
  rcases sw5 wh with c_6 | c_6 | c_6 | c_6 | c_6 | c_6
  ·
    refine lv_tableIn (tgt := 40) (off := 34) hx hb dX2_measure_6 (by rw [c_6]; decide) (by rw [c_6]; decide) (by rw [c_6]; rfl) (by decide) ?_
    refine lv_aload_n hx hb dX2_measure_40 rfl (lv_at hl 0 rfl) ?_
    refine va_get (D := D) (ci := 2) (v := .long (gG wt md d pp)) (C := RX2) (T := TX2) (N := 9) hx hb hts iX2 hown hK hP 3 rfl rfl 4 (by decide) (hts (.fieldLink RX2 36 "DeepHole$Gas" "pressure" "J") (by decide +kernel)) (fun _ h9 => h9) rfl dX2_measure_41 ?_
    have hP9 := hP.sub (ws' := [(h0, .inr (2, [.ref w0, .int am, .int wt, .int md, .long (gG wt md d pp), .long (gV am wt md d pp), .long (gH am wt md d cap pp), .long (gC am wt md d cap pp), .long (gA am wt md d cap sh pp)])), (w0, .inr (8, [.ref g0, .int (nI d), .int (nI sh), .int (nI cap), .int (nI sw)])), (g0, .inr (3, [.ref s0, .ref s1, .int (nI low), .int (nI high)])), (s1, .inr (6, [.ref a1, .int lo1, .int fo1, .int (nI n1)])), (a1, .inl (cI, 60, .inl it1))]) [3, 4, 0, 1, 2] rfl
    have hD9 := hD.sub (ws' := [(h0, .inr (2, [.ref w0, .int am, .int wt, .int md, .long (gG wt md d pp), .long (gV am wt md d pp), .long (gH am wt md d cap pp), .long (gC am wt md d cap pp), .long (gA am wt md d cap sh pp)])), (w0, .inr (8, [.ref g0, .int (nI d), .int (nI sh), .int (nI cap), .int (nI sw)])), (g0, .inr (3, [.ref s0, .ref s1, .int (nI low), .int (nI high)])), (s1, .inr (6, [.ref a1, .int lo1, .int fo1, .int (nI n1)])), (a1, .inl (cI, 60, .inl it1))]) [3, 4, 0, 1, 2] (by decide) rfl
    exact W.lret (v := gG wt md d pp) hx hb hr (fun t ht hW => ⟨⟨_, (), rfl, (by rw [c_6]; rfl), by rw [ht]; exact hP9, hD9⟩, hS.F ht⟩) hS.2.2 dX2_measure_44
  ·
    refine lv_tableIn (tgt := 45) (off := 39) hx hb dX2_measure_6 (by rw [c_6]; decide) (by rw [c_6]; decide) (by rw [c_6]; rfl) (by decide) ?_
    refine lv_aload_n hx hb dX2_measure_45 rfl (lv_at hl 0 rfl) ?_
    refine va_get (D := D) (ci := 2) (v := .long (gV am wt md d pp)) (C := RX2) (T := TX2) (N := 9) hx hb hts iX2 hown hK hP 3 rfl rfl 5 (by decide) (hts (.fieldLink RX2 43 "DeepHole$Gas" "volume" "J") (by decide +kernel)) (fun _ h9 => h9) rfl dX2_measure_46 ?_
    have hP9 := hP.sub (ws' := [(h0, .inr (2, [.ref w0, .int am, .int wt, .int md, .long (gG wt md d pp), .long (gV am wt md d pp), .long (gH am wt md d cap pp), .long (gC am wt md d cap pp), .long (gA am wt md d cap sh pp)])), (w0, .inr (8, [.ref g0, .int (nI d), .int (nI sh), .int (nI cap), .int (nI sw)])), (g0, .inr (3, [.ref s0, .ref s1, .int (nI low), .int (nI high)])), (s1, .inr (6, [.ref a1, .int lo1, .int fo1, .int (nI n1)])), (a1, .inl (cI, 60, .inl it1))]) [3, 4, 0, 1, 2] rfl
    have hD9 := hD.sub (ws' := [(h0, .inr (2, [.ref w0, .int am, .int wt, .int md, .long (gG wt md d pp), .long (gV am wt md d pp), .long (gH am wt md d cap pp), .long (gC am wt md d cap pp), .long (gA am wt md d cap sh pp)])), (w0, .inr (8, [.ref g0, .int (nI d), .int (nI sh), .int (nI cap), .int (nI sw)])), (g0, .inr (3, [.ref s0, .ref s1, .int (nI low), .int (nI high)])), (s1, .inr (6, [.ref a1, .int lo1, .int fo1, .int (nI n1)])), (a1, .inl (cI, 60, .inl it1))]) [3, 4, 0, 1, 2] (by decide) rfl
    exact W.lret (v := gV am wt md d pp) hx hb hr (fun t ht hW => ⟨⟨_, (), rfl, (by rw [c_6]; rfl), by rw [ht]; exact hP9, hD9⟩, hS.F ht⟩) hS.2.2 dX2_measure_49
  ·
    refine lv_tableIn (tgt := 50) (off := 44) hx hb dX2_measure_6 (by rw [c_6]; decide) (by rw [c_6]; decide) (by rw [c_6]; rfl) (by decide) ?_
    refine lv_aload_n hx hb dX2_measure_50 rfl (lv_at hl 0 rfl) ?_
    refine va_get (D := D) (ci := 2) (v := .long (gH am wt md d cap pp)) (C := RX2) (T := TX2) (N := 9) hx hb hts iX2 hown hK hP 3 rfl rfl 6 (by decide) (hts (.fieldLink RX2 52 "DeepHole$Gas" "height" "J") (by decide +kernel)) (fun _ h9 => h9) rfl dX2_measure_51 ?_
    have hP9 := hP.sub (ws' := [(h0, .inr (2, [.ref w0, .int am, .int wt, .int md, .long (gG wt md d pp), .long (gV am wt md d pp), .long (gH am wt md d cap pp), .long (gC am wt md d cap pp), .long (gA am wt md d cap sh pp)])), (w0, .inr (8, [.ref g0, .int (nI d), .int (nI sh), .int (nI cap), .int (nI sw)])), (g0, .inr (3, [.ref s0, .ref s1, .int (nI low), .int (nI high)])), (s1, .inr (6, [.ref a1, .int lo1, .int fo1, .int (nI n1)])), (a1, .inl (cI, 60, .inl it1))]) [3, 4, 0, 1, 2] rfl
    have hD9 := hD.sub (ws' := [(h0, .inr (2, [.ref w0, .int am, .int wt, .int md, .long (gG wt md d pp), .long (gV am wt md d pp), .long (gH am wt md d cap pp), .long (gC am wt md d cap pp), .long (gA am wt md d cap sh pp)])), (w0, .inr (8, [.ref g0, .int (nI d), .int (nI sh), .int (nI cap), .int (nI sw)])), (g0, .inr (3, [.ref s0, .ref s1, .int (nI low), .int (nI high)])), (s1, .inr (6, [.ref a1, .int lo1, .int fo1, .int (nI n1)])), (a1, .inl (cI, 60, .inl it1))]) [3, 4, 0, 1, 2] (by decide) rfl
    exact W.lret (v := gH am wt md d cap pp) hx hb hr (fun t ht hW => ⟨⟨_, (), rfl, (by rw [c_6]; rfl), by rw [ht]; exact hP9, hD9⟩, hS.F ht⟩) hS.2.2 dX2_measure_54
  ·
    refine lv_tableIn (tgt := 55) (off := 49) hx hb dX2_measure_6 (by rw [c_6]; decide) (by rw [c_6]; decide) (by rw [c_6]; rfl) (by decide) ?_
    refine lv_aload_n hx hb dX2_measure_55 rfl (lv_at hl 0 rfl) ?_
    refine va_get (D := D) (ci := 2) (v := .long (gC am wt md d cap pp)) (C := RX2) (T := TX2) (N := 9) hx hb hts iX2 hown hK hP 3 rfl rfl 7 (by decide) (hts (.fieldLink RX2 55 "DeepHole$Gas" "choke" "J") (by decide +kernel)) (fun _ h9 => h9) rfl dX2_measure_56 ?_
    have hP9 := hP.sub (ws' := [(h0, .inr (2, [.ref w0, .int am, .int wt, .int md, .long (gG wt md d pp), .long (gV am wt md d pp), .long (gH am wt md d cap pp), .long (gC am wt md d cap pp), .long (gA am wt md d cap sh pp)])), (w0, .inr (8, [.ref g0, .int (nI d), .int (nI sh), .int (nI cap), .int (nI sw)])), (g0, .inr (3, [.ref s0, .ref s1, .int (nI low), .int (nI high)])), (s1, .inr (6, [.ref a1, .int lo1, .int fo1, .int (nI n1)])), (a1, .inl (cI, 60, .inl it1))]) [3, 4, 0, 1, 2] rfl
    have hD9 := hD.sub (ws' := [(h0, .inr (2, [.ref w0, .int am, .int wt, .int md, .long (gG wt md d pp), .long (gV am wt md d pp), .long (gH am wt md d cap pp), .long (gC am wt md d cap pp), .long (gA am wt md d cap sh pp)])), (w0, .inr (8, [.ref g0, .int (nI d), .int (nI sh), .int (nI cap), .int (nI sw)])), (g0, .inr (3, [.ref s0, .ref s1, .int (nI low), .int (nI high)])), (s1, .inr (6, [.ref a1, .int lo1, .int fo1, .int (nI n1)])), (a1, .inl (cI, 60, .inl it1))]) [3, 4, 0, 1, 2] (by decide) rfl
    exact W.lret (v := gC am wt md d cap pp) hx hb hr (fun t ht hW => ⟨⟨_, (), rfl, (by rw [c_6]; rfl), by rw [ht]; exact hP9, hD9⟩, hS.F ht⟩) hS.2.2 dX2_measure_59
  ·
    refine lv_tableIn (tgt := 60) (off := 54) hx hb dX2_measure_6 (by rw [c_6]; decide) (by rw [c_6]; decide) (by rw [c_6]; rfl) (by decide) ?_
    refine lv_aload_n hx hb dX2_measure_60 rfl (lv_at hl 0 rfl) ?_
    refine va_get (D := D) (ci := 2) (v := .long (gA am wt md d cap sh pp)) (C := RX2) (T := TX2) (N := 9) hx hb hts iX2 hown hK hP 3 rfl rfl 8 (by decide) (hts (.fieldLink RX2 61 "DeepHole$Gas" "atShoe" "J") (by decide +kernel)) (fun _ h9 => h9) rfl dX2_measure_61 ?_
    have hP9 := hP.sub (ws' := [(h0, .inr (2, [.ref w0, .int am, .int wt, .int md, .long (gG wt md d pp), .long (gV am wt md d pp), .long (gH am wt md d cap pp), .long (gC am wt md d cap pp), .long (gA am wt md d cap sh pp)])), (w0, .inr (8, [.ref g0, .int (nI d), .int (nI sh), .int (nI cap), .int (nI sw)])), (g0, .inr (3, [.ref s0, .ref s1, .int (nI low), .int (nI high)])), (s1, .inr (6, [.ref a1, .int lo1, .int fo1, .int (nI n1)])), (a1, .inl (cI, 60, .inl it1))]) [3, 4, 0, 1, 2] rfl
    have hD9 := hD.sub (ws' := [(h0, .inr (2, [.ref w0, .int am, .int wt, .int md, .long (gG wt md d pp), .long (gV am wt md d pp), .long (gH am wt md d cap pp), .long (gC am wt md d cap pp), .long (gA am wt md d cap sh pp)])), (w0, .inr (8, [.ref g0, .int (nI d), .int (nI sh), .int (nI cap), .int (nI sw)])), (g0, .inr (3, [.ref s0, .ref s1, .int (nI low), .int (nI high)])), (s1, .inr (6, [.ref a1, .int lo1, .int fo1, .int (nI n1)])), (a1, .inl (cI, 60, .inl it1))]) [3, 4, 0, 1, 2] (by decide) rfl
    exact W.lret (v := gA am wt md d cap sh pp) hx hb hr (fun t ht hW => ⟨⟨_, (), rfl, (by rw [c_6]; rfl), by rw [ht]; exact hP9, hD9⟩, hS.F ht⟩) hS.2.2 dX2_measure_64
  ·
    refine lv_tableOut (tgt := 65) hx hb dX2_measure_6 c_6 (by decide) ?_
    have n_6 := sw5n c_6
    refine lv_aload_n hx hb dX2_measure_65 rfl (lv_at hl 0 rfl) ?_
    refine va_get (D := D) (ci := 2) (v := .long (gA am wt md d cap sh pp)) (C := RX2) (T := TX2) (N := 9) hx hb hts iX2 hown hK hP 3 rfl rfl 8 (by decide) (hts (.fieldLink RX2 61 "DeepHole$Gas" "atShoe" "J") (by decide +kernel)) (fun _ h9 => h9) rfl dX2_measure_66 ?_
    refine lv_aload_n hx hb dX2_measure_69 rfl (lv_at hl 0 rfl) ?_
    refine va_get (D := D) (ci := 2) (v := .ref w0) (C := RX2) (T := TX2) (N := 9) hx hb hts iX2 hown hK hP 3 rfl rfl 0 (by decide) (hts (.fieldLink RX2 9 "DeepHole$Gas" "well" "LDeepHole$Well;") (by decide +kernel)) (fun _ h9 => h9) rfl dX2_measure_70 ?_
    refine q_Vl (wc := [(w0, .inr (8, [.ref g0, .int (nI d), .int (nI sh), .int (nI cap), .int (nI sw)])), (g0, .inr (3, [.ref s0, .ref s1, .int (nI low), .int (nI high)])), (s1, .inr (6, [.ref a1, .int lo1, .int fo1, .int (nI n1)])), (a1, .inl (cI, 60, .inl it1))]) (b := w0) ⟨hx, hb, hml, hown, hts⟩ [] [.long (gA am wt md d cap sh pp)] (c_X8_strength  (by first | assumption | omega) (by first | assumption | omega)) (cwV 0 hts gX2_measure_X8_strength rfl rfl rfl (by decide +kernel) ⟨Nat.le_of_ble_eq_true rfl, Nat.le_of_ble_eq_true rfl⟩) hK hN hP hD [4, 0, 1, 2] rfl (by decide) (ci := 8) rfl rfl rfl rfl hl.1 rfl (Nat.le_of_ble_eq_true rfl) dX2_measure_73 ⟨Nat.zero_le _, Nat.zero_le _⟩ (fun r hw => ?_)
    subst hw
    refine W.lcmp hx hb dX2_measure_76 ?_
    refine lv_if_le (tgt := 84) hx hb dX2_measure_77 (by decide) (fun c_77 => ?_) (fun c_77 => ?_)
    ·
      have c_77 := (lg_cmp_le _ _).mp c_77
      refine lv_lconst (v := 0) hx hb dX2_measure_84 (by decide) ?_
      have hP9 := hP.sub (ws' := [(h0, .inr (2, [.ref w0, .int am, .int wt, .int md, .long (gG wt md d pp), .long (gV am wt md d pp), .long (gH am wt md d cap pp), .long (gC am wt md d cap pp), .long (gA am wt md d cap sh pp)])), (w0, .inr (8, [.ref g0, .int (nI d), .int (nI sh), .int (nI cap), .int (nI sw)])), (g0, .inr (3, [.ref s0, .ref s1, .int (nI low), .int (nI high)])), (s1, .inr (6, [.ref a1, .int lo1, .int fo1, .int (nI n1)])), (a1, .inl (cI, 60, .inl it1))]) [3, 4, 0, 1, 2] rfl
      have hD9 := hD.sub (ws' := [(h0, .inr (2, [.ref w0, .int am, .int wt, .int md, .long (gG wt md d pp), .long (gV am wt md d pp), .long (gH am wt md d cap pp), .long (gC am wt md d cap pp), .long (gA am wt md d cap sh pp)])), (w0, .inr (8, [.ref g0, .int (nI d), .int (nI sh), .int (nI cap), .int (nI sw)])), (g0, .inr (3, [.ref s0, .ref s1, .int (nI low), .int (nI high)])), (s1, .inr (6, [.ref a1, .int lo1, .int fo1, .int (nI n1)])), (a1, .inl (cI, 60, .inl it1))]) [3, 4, 0, 1, 2] (by decide) rfl
      exact W.lret (v := 0) hx hb hr (fun t ht hW => ⟨⟨_, (), rfl, (by unfold gM; rw [if_neg n_6.1, if_neg n_6.2.1, if_neg n_6.2.2.1, if_neg n_6.2.2.2.1, if_neg n_6.2.2.2.2, if_neg (fun h => by rw [l_le] at c_77; rw [l_lt] at h; omega)]), by rw [ht]; exact hP9, hD9⟩, hS.F ht⟩) hS.2.2 dX2_measure_85
    ·
      have c_77 := fun h => c_77 ((lg_cmp_le _ _).mpr h)
      refine lv_lconst (v := 1) hx hb dX2_measure_80 (by decide) ?_
      refine lv_goto (tgt := 85) hx hb dX2_measure_81 (by decide) ?_
      have hP9 := hP.sub (ws' := [(h0, .inr (2, [.ref w0, .int am, .int wt, .int md, .long (gG wt md d pp), .long (gV am wt md d pp), .long (gH am wt md d cap pp), .long (gC am wt md d cap pp), .long (gA am wt md d cap sh pp)])), (w0, .inr (8, [.ref g0, .int (nI d), .int (nI sh), .int (nI cap), .int (nI sw)])), (g0, .inr (3, [.ref s0, .ref s1, .int (nI low), .int (nI high)])), (s1, .inr (6, [.ref a1, .int lo1, .int fo1, .int (nI n1)])), (a1, .inl (cI, 60, .inl it1))]) [3, 4, 0, 1, 2] rfl
      have hD9 := hD.sub (ws' := [(h0, .inr (2, [.ref w0, .int am, .int wt, .int md, .long (gG wt md d pp), .long (gV am wt md d pp), .long (gH am wt md d cap pp), .long (gC am wt md d cap pp), .long (gA am wt md d cap sh pp)])), (w0, .inr (8, [.ref g0, .int (nI d), .int (nI sh), .int (nI cap), .int (nI sw)])), (g0, .inr (3, [.ref s0, .ref s1, .int (nI low), .int (nI high)])), (s1, .inr (6, [.ref a1, .int lo1, .int fo1, .int (nI n1)])), (a1, .inl (cI, 60, .inl it1))]) [3, 4, 0, 1, 2] (by decide) rfl
      exact W.lret (v := 1) hx hb hr (fun t ht hW => ⟨⟨_, (), rfl, (by unfold gM; rw [if_neg n_6.1, if_neg n_6.2.1, if_neg n_6.2.2.1, if_neg n_6.2.2.2.1, if_neg n_6.2.2.2.2, if_pos (Classical.byContradiction fun h => c_77 (by rw [l_lt] at h; rw [l_le]; omega))]), by rw [ht]; exact hP9, hD9⟩, hS.F ht⟩) hS.2.2 dX2_measure_85

set_option maxHeartbeats 4000000 in
set_option maxRecDepth 100000 in
theorem c_X2_whereGreatest {l : Launch} {D : va_G} {cI cS cP : ClassId} {sz : Nat} {h0 w0 g0 d sh cap sw : Nat} {am wt md : Int32} {x1 x2 x3 x4 x5 : Int64} (hd : d ≤ 50) (hsh : sh ≤ d) (hc1 : 1 ≤ cap) (hc2 : cap ≤ 1000) : Met l yX2_whereGreatest wsX2_whereGreatest ({ frames := 2, cells := 0, slots := 0, locals := 48 }) (PC D (TY cI cS cP) [.ref h0] sz [(h0, .inr (2, [.ref w0, .int am, .int wt, .int md, .long x1, .long x2, .long x3, .long x4, .long x5])), (w0, .inr (8, [.ref g0, .int (nI d), .int (nI sh), .int (nI cap), .int (nI sw)]))]) (QI D (fun (r : Int32) (u : Int64 × Int64 × Int64 × Int64 × Int64) => r = nI (wg (fun k => gV am wt md d k) (d + 1) (-1) 0)) (fun (u : Int64 × Int64 × Int64 × Int64 × Int64) => [(h0, .inr (2, [.ref w0, .int am, .int wt, .int md, .long u.1, .long u.2.1, .long u.2.2.1, .long u.2.2.2.1, .long u.2.2.2.2])), (w0, .inr (8, [.ref g0, .int (nI d), .int (nI sh), .int (nI cap), .int (nI sw)]))]) (va_A [(h0, .inr (2, [.ref w0, .int am, .int wt, .int md, .long x1, .long x2, .long x3, .long x4, .long x5])), (w0, .inr (8, [.ref g0, .int (nI d), .int (nI sh), .int (nI cap), .int (nI sw)]))] sz)) 0 0 (va_A [(h0, .inr (2, [.ref w0, .int am, .int wt, .int md, .long x1, .long x2, .long x3, .long x4, .long x5])), (w0, .inr (8, [.ref g0, .int (nI d), .int (nI sh), .int (nI cap), .int (nI sw)]))] sz) := by
  refine Met.ofW (cc := cX2_whereGreatest) (maxL := 5) (ret := (some .int)) (by decide) rfl ?_
  intro p e s m args below meth c s₁ B hml hv
  obtain ⟨rfl, hsz, hP, hK, hD0, hN⟩ := hv
  have hx := B.exec
  have hb := B.bytes
  have hr := B.returns
  have hts := atoms_spec (ws := wsX2_whereGreatest) B.pre
  have hown : s.vm.findClass RX2 = some m.cls := findClass_of_methodNamed B.named
  have hlocks := B.notSynchronized
  subst hsz
  have iX2 : ∀ w ∈ u_ws RX2 TX2 9, w ∈ wsX2_whereGreatest := by decide +kernel
  have iX8 : ∀ w ∈ u_ws RX8 TX8 5, w ∈ wsX2_whereGreatest := by decide +kernel
  have hD := hD0.self (sz := s.heap.size)
  generalize hAe : va_A [(h0, .inr (2, [.ref w0, .int am, .int wt, .int md, .long x1, .long x2, .long x3, .long x4, .long x5])), (w0, .inr (8, [.ref g0, .int (nI d), .int (nI sh), .int (nI cap), .int (nI sw)]))] s.heap.size = A at hD ⊢
  have hA : ∀ q : Nat, s.heap.size ≤ q → A q := fun q h => by rw [← hAe]; exact Or.inr h
  have hS : va_S A s.heap s.heap [] := va_S.rf
  have hP : va_P D vwCl [(h0, .inr (2, [.ref w0, .int am, .int wt, .int md, .long x1, .long x2, .long x3, .long x4, .long x5])), (w0, .inr (8, [.ref g0, .int (nI d), .int (nI sh), .int (nI cap), .int (nI sw)]))] s.heap := hP
  have hl := lv_entry ([.ref h0]) (n := 5) (Nat.le_of_ble_eq_true rfl)
  rw [lg_entry_eq]
  generalize (lg_sl ([.ref h0]) ++ List.replicate (5 - (lg_sl ([.ref h0])).length) Slot.unset).toArray = ls at hl ⊢
  have hl : lv_has ls 5 [(0, .ref h0)] := hl
  refine lv_ldc2 hx hb hown (hts (.constantLong RX2 72 (-1)) (by decide +kernel)) dX2_whereGreatest_0 ?_
  refine lv_lstore_n (lv' := [(1, .long (-1)), (0, .ref h0)]) hx hb dX2_whereGreatest_3 rfl hl (by decide) rfl (fun ls hl => ?_)
  refine lv_iconst (v := 0) hx hb dX2_whereGreatest_4 (by decide) ?_
  refine lv_istore_n (lv' := [(3, .int 0), (1, .long (-1)), (0, .ref h0)]) hx hb dX2_whereGreatest_5 rfl hl (by decide) rfl (fun ls hl => ?_)
  refine lv_aload_n hx hb dX2_whereGreatest_6 rfl (lv_at hl 2 rfl) ?_
  refine va_get (D := D) (ci := 2) (v := .ref w0) (C := RX2) (T := TX2) (N := 9) hx hb hts iX2 hown hK hP 0 rfl rfl 0 (by decide) (hts (.fieldLink RX2 9 "DeepHole$Gas" "well" "LDeepHole$Well;") (by decide +kernel)) (fun _ h9 => h9) rfl dX2_whereGreatest_7 ?_
  refine va_get (D := D) (ci := 8) (v := .int (nI d)) (C := RX8) (T := TX8) (N := 5) hx hb hts iX8 hown hK hP 1 rfl rfl 1 (by decide) (hts (.fieldLink RX2 25 "DeepHole$Well" "depth" "I") (by decide +kernel)) (fun _ h9 => h9) rfl dX2_whereGreatest_10 ?_
  refine lv_eqi (z := nI (d + 1) - 1) ((nI_pred d).symm) ?_
  refine lv_istore (lv' := [(4, .int (nI (d + 1) - 1)), (3, .int 0), (1, .long (-1)), (0, .ref h0)]) hx hb dX2_whereGreatest_13 hl (by decide) rfl (fun ls hl => ?_)
  refine lp_w (I := fun zz9 H locs ls => ∃ (q at_ : Nat) (g x1 x2 x3 x4 x5 : Int64), zz9 = q ∧ (q ≤ d + 1) ∧ (wg (fun k => gV am wt md d k) (d + 1) (-1) 0 = wg (fun k => gV am wt md d k) q g at_) ∧ va_P D vwCl [(h0, .inr (2, [.ref w0, .int am, .int wt, .int md, .long x1, .long x2, .long x3, .long x4, .long x5])), (w0, .inr (8, [.ref g0, .int (nI d), .int (nI sh), .int (nI cap), .int (nI sw)]))] H ∧ va_D A [(h0, .inr (2, [.ref w0, .int am, .int wt, .int md, .long x1, .long x2, .long x3, .long x4, .long x5])), (w0, .inr (8, [.ref g0, .int (nI d), .int (nI sh), .int (nI cap), .int (nI sw)]))] ∧ va_S A s.heap H locs ∧ lv_has ls 5 [(0, .ref h0), (1, .long g), (3, .int (nI at_)), (4, .int (nI q - 1))]) ?_ ((d + 1)) ⟨d + 1, 0, (-1 : Int64), x1, x2, x3, x4, x5, rfl, (by omega), (rfl), hP.sub [0, 1] rfl, hD.sub [0, 1] (by decide) rfl, hS, lv_sub hl [3, 2, 1, 0] rfl⟩
  intro n_15 H locs ls ih_15 hI
  obtain ⟨q, at_, g, x1, x2, x3, x4, x5, hn_15, hq, hs, hP, hD, hS, hl⟩ := hI
  refine lv_iload hx hb dX2_whereGreatest_15 (lv_at hl 3 rfl) ?_
  refine lv_if_lt (tgt := 49) hx hb dX2_whereGreatest_17 (by decide) (fun c_17 => ?_) (fun c_17 => ?_)
  ·
    have c_17 : q = 0 := (m1_lt (by omega)).mp c_17
    refine lv_iload_n hx hb dX2_whereGreatest_49 rfl (lv_at hl 2 rfl) ?_
    have hP9 := hP.sub (ws' := [(h0, .inr (2, [.ref w0, .int am, .int wt, .int md, .long x1, .long x2, .long x3, .long x4, .long x5])), (w0, .inr (8, [.ref g0, .int (nI d), .int (nI sh), .int (nI cap), .int (nI sw)]))]) [0, 1] rfl
    have hD9 := hD.sub (ws' := [(h0, .inr (2, [.ref w0, .int am, .int wt, .int md, .long x1, .long x2, .long x3, .long x4, .long x5])), (w0, .inr (8, [.ref g0, .int (nI d), .int (nI sh), .int (nI cap), .int (nI sw)]))]) [0, 1] (by decide) rfl
    exact W.iret (v := nI at_) hx hb hr (fun t ht hW => ⟨⟨_, (x1, x2, x3, x4, x5), rfl, (by rw [hs, c_17]; rfl), by rw [ht]; exact hP9, hD9⟩, hS.F ht⟩) hS.2.2 dX2_whereGreatest_50
  ·
    have c_17 : 0 < q := Nat.pos_of_ne_zero (fun h => c_17 ((m1_lt (by omega)).mpr h))
    have hl : lv_has ls 5 [(0, .ref h0), (1, .long g), (3, .int (nI at_)), (4, .int (nI (q - 1)))] := by rw [← m1_n c_17]; exact hl
    refine lv_aload_n hx hb dX2_whereGreatest_20 rfl (lv_at hl 0 rfl) ?_
    refine lv_iload hx hb dX2_whereGreatest_21 (lv_at hl 3 rfl) ?_
    refine w_Vv (wc := [(h0, .inr (2, [.ref w0, .int am, .int wt, .int md, .long x1, .long x2, .long x3, .long x4, .long x5])), (w0, .inr (8, [.ref g0, .int (nI d), .int (nI sh), .int (nI cap), .int (nI sw)]))]) (wr := []) (b := h0) ⟨hx, hb, hml, hown, hts⟩ [.int (nI (q - 1))] [] (c_X2_stand  (by first | assumption | omega) (by first | assumption | omega) (by first | assumption | omega) (by first | assumption | omega) (by first | assumption | omega)) (cwV 1 hts gX2_whereGreatest_X2_stand rfl rfl rfl (by decide +kernel) ⟨Nat.le_of_ble_eq_true rfl, Nat.le_of_ble_eq_true rfl⟩) hK hN hP hD hS hA [0, 1] [] rfl (by decide) rfl (by decide) (by decide) (ci := 2) rfl rfl rfl rfl hl.1 rfl (Nat.le_of_ble_eq_true rfl) dX2_whereGreatest_23 ⟨Nat.zero_le _, Nat.zero_le _⟩ (fun u H locs hw hP hD hS => ?_)
    have hP : va_P D vwCl [(h0, .inr (2, [.ref w0, .int am, .int wt, .int md, .long (gG wt md d (q - 1)), .long (gV am wt md d (q - 1)), .long (gH am wt md d cap (q - 1)), .long (gC am wt md d cap (q - 1)), .long (gA am wt md d cap sh (q - 1))])), (w0, .inr (8, [.ref g0, .int (nI d), .int (nI sh), .int (nI cap), .int (nI sw)]))] H := hP
    have hD : va_D A [(h0, .inr (2, [.ref w0, .int am, .int wt, .int md, .long (gG wt md d (q - 1)), .long (gV am wt md d (q - 1)), .long (gH am wt md d cap (q - 1)), .long (gC am wt md d cap (q - 1)), .long (gA am wt md d cap sh (q - 1))])), (w0, .inr (8, [.ref g0, .int (nI d), .int (nI sh), .int (nI cap), .int (nI sw)]))] := hD
    refine lv_aload_n hx hb dX2_whereGreatest_26 rfl (lv_at hl 0 rfl) ?_
    refine va_get (D := D) (ci := 2) (v := .long (gV am wt md d (q - 1))) (C := RX2) (T := TX2) (N := 9) hx hb hts iX2 hown hK hP 0 rfl rfl 5 (by decide) (hts (.fieldLink RX2 43 "DeepHole$Gas" "volume" "J") (by decide +kernel)) (fun _ h9 => h9) rfl dX2_whereGreatest_27 ?_
    refine lv_lload_n hx hb dX2_whereGreatest_30 rfl (lv_at hl 1 rfl) ?_
    refine W.lcmp hx hb dX2_whereGreatest_31 ?_
    refine lv_if_le (tgt := 43) hx hb dX2_whereGreatest_32 (by decide) (fun c_32 => ?_) (fun c_32 => ?_)
    ·
      have c_32 := (lg_cmp_le _ _).mp c_32
      refine lv_iinc (v := nI (q - 1) - 1) (lv' := [(4, .int (nI (q - 1) - 1)), (0, .ref h0), (1, .long g), (3, .int (nI at_))]) hx hb dX2_whereGreatest_43 hl (k := 3) rfl m1_m (by decide) rfl (fun ls hl => ?_)
      refine lv_goto (tgt := 15) hx hb dX2_whereGreatest_46 (by decide) ?_
      exact ih_15 _ _ _ _ (by omega) ⟨q - 1, at_, g, gG wt md d (q - 1), gV am wt md d (q - 1), gH am wt md d cap (q - 1), gC am wt md d cap (q - 1), gA am wt md d cap sh (q - 1), rfl, (by omega), (by rw [hs]; first | exact wg_yes (V := (fun k => gV am wt md d k)) c_17 (Classical.byContradiction fun h => c_32 (by rw [l_lt] at h; rw [l_le]; omega)) | exact wg_no (V := (fun k => gV am wt md d k)) c_17 (fun h => by rw [l_le] at c_32; rw [l_lt] at h; omega)), hP.sub [0, 1] rfl, hD.sub [0, 1] (by decide) rfl, hS, lv_sub hl [1, 2, 3, 0] rfl⟩
    ·
      have c_32 := fun h => c_32 ((lg_cmp_le _ _).mpr h)
      refine lv_aload_n hx hb dX2_whereGreatest_35 rfl (lv_at hl 0 rfl) ?_
      refine va_get (D := D) (ci := 2) (v := .long (gV am wt md d (q - 1))) (C := RX2) (T := TX2) (N := 9) hx hb hts iX2 hown hK hP 0 rfl rfl 5 (by decide) (hts (.fieldLink RX2 43 "DeepHole$Gas" "volume" "J") (by decide +kernel)) (fun _ h9 => h9) rfl dX2_whereGreatest_36 ?_
      refine lv_lstore_n (lv' := [(1, .long (gV am wt md d (q - 1))), (0, .ref h0), (3, .int (nI at_)), (4, .int (nI (q - 1)))]) hx hb dX2_whereGreatest_39 rfl hl (by decide) rfl (fun ls hl => ?_)
      refine lv_iload hx hb dX2_whereGreatest_40 (lv_at hl 3 rfl) ?_
      refine lv_istore_n (lv' := [(3, .int (nI (q - 1))), (1, .long (gV am wt md d (q - 1))), (0, .ref h0), (4, .int (nI (q - 1)))]) hx hb dX2_whereGreatest_42 rfl hl (by decide) rfl (fun ls hl => ?_)
      refine lv_iinc (v := nI (q - 1) - 1) (lv' := [(4, .int (nI (q - 1) - 1)), (3, .int (nI (q - 1))), (1, .long (gV am wt md d (q - 1))), (0, .ref h0)]) hx hb dX2_whereGreatest_43 hl (k := 3) rfl m1_m (by decide) rfl (fun ls hl => ?_)
      refine lv_goto (tgt := 15) hx hb dX2_whereGreatest_46 (by decide) ?_
      exact ih_15 _ _ _ _ (by omega) ⟨q - 1, q - 1, gV am wt md d (q - 1), gG wt md d (q - 1), gV am wt md d (q - 1), gH am wt md d cap (q - 1), gC am wt md d cap (q - 1), gA am wt md d cap sh (q - 1), rfl, (by omega), (by rw [hs]; first | exact wg_yes (V := (fun k => gV am wt md d k)) c_17 (Classical.byContradiction fun h => c_32 (by rw [l_lt] at h; rw [l_le]; omega)) | exact wg_no (V := (fun k => gV am wt md d k)) c_17 (fun h => by rw [l_le] at c_32; rw [l_lt] at h; omega)), hP.sub [0, 1] rfl, hD.sub [0, 1] (by decide) rfl, hS, lv_sub hl [3, 2, 1, 0] rfl⟩

set_option maxHeartbeats 4000000 in
set_option maxRecDepth 100000 in
theorem c_X2_whereBroken {l : Launch} {D : va_G} {cI cS cP : ClassId} {sz : Nat} {h0 w0 g0 d sh cap sw : Nat} {am wt md : Int32} {x1 x2 x3 x4 x5 : Int64} {st0 : Int64} (hd : d ≤ 50) (hsh : sh ≤ d) (hc1 : 1 ≤ cap) (hc2 : cap ≤ 1000) : Met l yX2_whereBroken wsX2_whereBroken ({ frames := 3, cells := 0, slots := 0, locals := 71 }) (PC D (TY cI cS cP) [.ref h0, .long st0] sz [(h0, .inr (2, [.ref w0, .int am, .int wt, .int md, .long x1, .long x2, .long x3, .long x4, .long x5])), (w0, .inr (8, [.ref g0, .int (nI d), .int (nI sh), .int (nI cap), .int (nI sw)]))]) (QI D (fun (r : Int32) (u : Int64 × Int64 × Int64 × Int64 × Int64) => r = wb (fun k => decide (st0 < gA am wt md d cap sh k)) (d + 1)) (fun (u : Int64 × Int64 × Int64 × Int64 × Int64) => [(h0, .inr (2, [.ref w0, .int am, .int wt, .int md, .long u.1, .long u.2.1, .long u.2.2.1, .long u.2.2.2.1, .long u.2.2.2.2])), (w0, .inr (8, [.ref g0, .int (nI d), .int (nI sh), .int (nI cap), .int (nI sw)]))]) (va_A [(h0, .inr (2, [.ref w0, .int am, .int wt, .int md, .long x1, .long x2, .long x3, .long x4, .long x5])), (w0, .inr (8, [.ref g0, .int (nI d), .int (nI sh), .int (nI cap), .int (nI sw)]))] sz)) 0 0 (va_A [(h0, .inr (2, [.ref w0, .int am, .int wt, .int md, .long x1, .long x2, .long x3, .long x4, .long x5])), (w0, .inr (8, [.ref g0, .int (nI d), .int (nI sh), .int (nI cap), .int (nI sw)]))] sz) := by
  refine Met.ofW (cc := cX2_whereBroken) (maxL := 4) (ret := (some .int)) (by decide) rfl ?_
  intro p e s m args below meth c s₁ B hml hv
  obtain ⟨rfl, hsz, hP, hK, hD0, hN⟩ := hv
  have hx := B.exec
  have hb := B.bytes
  have hr := B.returns
  have hts := atoms_spec (ws := wsX2_whereBroken) B.pre
  have hown : s.vm.findClass RX2 = some m.cls := findClass_of_methodNamed B.named
  have hlocks := B.notSynchronized
  subst hsz
  have iX2 : ∀ w ∈ u_ws RX2 TX2 9, w ∈ wsX2_whereBroken := by decide +kernel
  have iX8 : ∀ w ∈ u_ws RX8 TX8 5, w ∈ wsX2_whereBroken := by decide +kernel
  have hD := hD0.self (sz := s.heap.size)
  generalize hAe : va_A [(h0, .inr (2, [.ref w0, .int am, .int wt, .int md, .long x1, .long x2, .long x3, .long x4, .long x5])), (w0, .inr (8, [.ref g0, .int (nI d), .int (nI sh), .int (nI cap), .int (nI sw)]))] s.heap.size = A at hD ⊢
  have hA : ∀ q : Nat, s.heap.size ≤ q → A q := fun q h => by rw [← hAe]; exact Or.inr h
  have hS : va_S A s.heap s.heap [] := va_S.rf
  have hP : va_P D vwCl [(h0, .inr (2, [.ref w0, .int am, .int wt, .int md, .long x1, .long x2, .long x3, .long x4, .long x5])), (w0, .inr (8, [.ref g0, .int (nI d), .int (nI sh), .int (nI cap), .int (nI sw)]))] s.heap := hP
  have hl := lv_entry ([.ref h0, .long st0]) (n := 4) (Nat.le_of_ble_eq_true rfl)
  rw [lg_entry_eq]
  generalize (lg_sl ([.ref h0, .long st0]) ++ List.replicate (4 - (lg_sl ([.ref h0, .long st0])).length) Slot.unset).toArray = ls at hl ⊢
  have hl : lv_has ls 4 [(0, .ref h0), (1, .long st0)] := hl
  refine lv_aload_n hx hb dX2_whereBroken_0 rfl (lv_at hl 0 rfl) ?_
  refine va_get (D := D) (ci := 2) (v := .ref w0) (C := RX2) (T := TX2) (N := 9) hx hb hts iX2 hown hK hP 0 rfl rfl 0 (by decide) (hts (.fieldLink RX2 9 "DeepHole$Gas" "well" "LDeepHole$Well;") (by decide +kernel)) (fun _ h9 => h9) rfl dX2_whereBroken_1 ?_
  refine va_get (D := D) (ci := 8) (v := .int (nI d)) (C := RX8) (T := TX8) (N := 5) hx hb hts iX8 hown hK hP 1 rfl rfl 1 (by decide) (hts (.fieldLink RX2 25 "DeepHole$Well" "depth" "I") (by decide +kernel)) (fun _ h9 => h9) rfl dX2_whereBroken_4 ?_
  refine lv_eqi (z := nI (d + 1) - 1) ((nI_pred d).symm) ?_
  refine lv_istore_n (lv' := [(3, .int (nI (d + 1) - 1)), (0, .ref h0), (1, .long st0)]) hx hb dX2_whereBroken_7 rfl hl (by decide) rfl (fun ls hl => ?_)
  refine lp_w (I := fun zz9 H locs ls => ∃ (q : Nat) (x1 x2 x3 x4 x5 : Int64), zz9 = q ∧ (q ≤ d + 1) ∧ (wb (fun k => decide (st0 < gA am wt md d cap sh k)) (d + 1) = wb (fun k => decide (st0 < gA am wt md d cap sh k)) q) ∧ va_P D vwCl [(h0, .inr (2, [.ref w0, .int am, .int wt, .int md, .long x1, .long x2, .long x3, .long x4, .long x5])), (w0, .inr (8, [.ref g0, .int (nI d), .int (nI sh), .int (nI cap), .int (nI sw)]))] H ∧ va_D A [(h0, .inr (2, [.ref w0, .int am, .int wt, .int md, .long x1, .long x2, .long x3, .long x4, .long x5])), (w0, .inr (8, [.ref g0, .int (nI d), .int (nI sh), .int (nI cap), .int (nI sw)]))] ∧ va_S A s.heap H locs ∧ lv_has ls 4 [(0, .ref h0), (1, .long st0), (3, .int (nI q - 1))]) ?_ ((d + 1)) ⟨d + 1, x1, x2, x3, x4, x5, rfl, (by omega), (rfl), hP.sub [0, 1] rfl, hD.sub [0, 1] (by decide) rfl, hS, lv_sub hl [1, 2, 0] rfl⟩
  intro n_8 H locs ls ih_8 hI
  obtain ⟨q, x1, x2, x3, x4, x5, hn_8, hq, hs, hP, hD, hS, hl⟩ := hI
  refine lv_iload_n hx hb dX2_whereBroken_8 rfl (lv_at hl 2 rfl) ?_
  refine lv_if_lt (tgt := 29) hx hb dX2_whereBroken_9 (by decide) (fun c_9 => ?_) (fun c_9 => ?_)
  ·
    have c_9 : q = 0 := (m1_lt (by omega)).mp c_9
    refine lv_iconst (v := (-1)) hx hb dX2_whereBroken_29 (by decide) ?_
    have hP9 := hP.sub (ws' := [(h0, .inr (2, [.ref w0, .int am, .int wt, .int md, .long x1, .long x2, .long x3, .long x4, .long x5])), (w0, .inr (8, [.ref g0, .int (nI d), .int (nI sh), .int (nI cap), .int (nI sw)]))]) [0, 1] rfl
    have hD9 := hD.sub (ws' := [(h0, .inr (2, [.ref w0, .int am, .int wt, .int md, .long x1, .long x2, .long x3, .long x4, .long x5])), (w0, .inr (8, [.ref g0, .int (nI d), .int (nI sh), .int (nI cap), .int (nI sw)]))]) [0, 1] (by decide) rfl
    exact W.iret (v := (-1)) hx hb hr (fun t ht hW => ⟨⟨_, (x1, x2, x3, x4, x5), rfl, (by rw [hs, c_9]; rfl), by rw [ht]; exact hP9, hD9⟩, hS.F ht⟩) hS.2.2 dX2_whereBroken_30
  ·
    have c_9 : 0 < q := Nat.pos_of_ne_zero (fun h => c_9 ((m1_lt (by omega)).mpr h))
    have hl : lv_has ls 4 [(0, .ref h0), (1, .long st0), (3, .int (nI (q - 1)))] := by rw [← m1_n c_9]; exact hl
    refine lv_aload_n hx hb dX2_whereBroken_12 rfl (lv_at hl 0 rfl) ?_
    refine lv_iload_n hx hb dX2_whereBroken_13 rfl (lv_at hl 2 rfl) ?_
    refine lv_lload_n hx hb dX2_whereBroken_14 rfl (lv_at hl 1 rfl) ?_
    refine w_V (wc := [(h0, .inr (2, [.ref w0, .int am, .int wt, .int md, .long x1, .long x2, .long x3, .long x4, .long x5])), (w0, .inr (8, [.ref g0, .int (nI d), .int (nI sh), .int (nI cap), .int (nI sw)]))]) (wr := []) (b := h0) ⟨hx, hb, hml, hown, hts⟩ [.int (nI (q - 1)), .long st0] [] (c_X2_isBrokenAt  (by first | assumption | omega) (by first | assumption | omega) (by first | assumption | omega) (by first | assumption | omega) (by first | assumption | omega)) (cwV 2 hts gX2_whereBroken_X2_isBrokenAt rfl rfl rfl (by decide +kernel) ⟨Nat.le_of_ble_eq_true rfl, Nat.le_of_ble_eq_true rfl⟩) hK hN hP hD hS hA [0, 1] [] rfl (by decide) rfl (by decide) (by decide) (ci := 2) rfl rfl rfl rfl hl.1 rfl (Nat.le_of_ble_eq_true rfl) dX2_whereBroken_15 ⟨Nat.zero_le _, Nat.zero_le _⟩ (fun r u H locs hw hP hD hS => ?_)
    have hP : va_P D vwCl [(h0, .inr (2, [.ref w0, .int am, .int wt, .int md, .long (gG wt md d (q - 1)), .long (gV am wt md d (q - 1)), .long (gH am wt md d cap (q - 1)), .long (gC am wt md d cap (q - 1)), .long (gA am wt md d cap sh (q - 1))])), (w0, .inr (8, [.ref g0, .int (nI d), .int (nI sh), .int (nI cap), .int (nI sw)]))] H := hP
    have hD : va_D A [(h0, .inr (2, [.ref w0, .int am, .int wt, .int md, .long (gG wt md d (q - 1)), .long (gV am wt md d (q - 1)), .long (gH am wt md d cap (q - 1)), .long (gC am wt md d cap (q - 1)), .long (gA am wt md d cap sh (q - 1))])), (w0, .inr (8, [.ref g0, .int (nI d), .int (nI sh), .int (nI cap), .int (nI sw)]))] := hD
    subst hw
    refine lv_if_eq (tgt := 23) hx hb dX2_whereBroken_18 (by decide) (fun c_18 => ?_) (fun c_18 => ?_)
    ·
      have c_18 := bz c_18
      refine lv_iinc (v := nI (q - 1) - 1) (lv' := [(3, .int (nI (q - 1) - 1)), (0, .ref h0), (1, .long st0)]) hx hb dX2_whereBroken_23 hl (k := 2) rfl m1_m (by decide) rfl (fun ls hl => ?_)
      refine lv_goto (tgt := 8) hx hb dX2_whereBroken_26 (by decide) ?_
      exact ih_8 _ _ _ _ (by omega) ⟨q - 1, gG wt md d (q - 1), gV am wt md d (q - 1), gH am wt md d cap (q - 1), gC am wt md d cap (q - 1), gA am wt md d cap sh (q - 1), rfl, (by omega), (by rw [hs]; exact wb_no (B := (fun k => decide (st0 < gA am wt md d cap sh k))) c_9 (fun h => c_18 (of_decide_eq_true h))), hP.sub [0, 1] rfl, hD.sub [0, 1] (by decide) rfl, hS, lv_sub hl [1, 2, 0] rfl⟩
    ·
      have c_18 := bnz c_18
      refine lv_iload_n hx hb dX2_whereBroken_21 rfl (lv_at hl 2 rfl) ?_
      have hP9 := hP.sub (ws' := [(h0, .inr (2, [.ref w0, .int am, .int wt, .int md, .long (gG wt md d (q - 1)), .long (gV am wt md d (q - 1)), .long (gH am wt md d cap (q - 1)), .long (gC am wt md d cap (q - 1)), .long (gA am wt md d cap sh (q - 1))])), (w0, .inr (8, [.ref g0, .int (nI d), .int (nI sh), .int (nI cap), .int (nI sw)]))]) [0, 1] rfl
      have hD9 := hD.sub (ws' := [(h0, .inr (2, [.ref w0, .int am, .int wt, .int md, .long (gG wt md d (q - 1)), .long (gV am wt md d (q - 1)), .long (gH am wt md d cap (q - 1)), .long (gC am wt md d cap (q - 1)), .long (gA am wt md d cap sh (q - 1))])), (w0, .inr (8, [.ref g0, .int (nI d), .int (nI sh), .int (nI cap), .int (nI sw)]))]) [0, 1] (by decide) rfl
      exact W.iret (v := nI (q - 1)) hx hb hr (fun t ht hW => ⟨⟨_, (gG wt md d (q - 1), gV am wt md d (q - 1), gH am wt md d cap (q - 1), gC am wt md d cap (q - 1), gA am wt md d cap sh (q - 1)), rfl, (by rw [hs, wb_yes (B := (fun k => decide (st0 < gA am wt md d cap sh k))) c_9 (decide_eq_true c_18)]), by rw [ht]; exact hP9, hD9⟩, hS.F ht⟩) hS.2.2 dX2_whereBroken_22

set_option maxHeartbeats 4000000 in
set_option maxRecDepth 100000 in
theorem c_X2_greatestBorne {l : Launch} {D : va_G} {cI cS cP : ClassId} {sz : Nat} {h0 w0 g0 d sh cap sw : Nat} {am wt md : Int32} {x1 x2 x3 x4 x5 : Int64} {s0 s1 a1 n1 low high : Nat} {lo1 fo1 : Int32} {it1 : Nat → Int32} {w1 m1 : Int32} (hd : d ≤ 50) (hsh : sh ≤ d) (hc1 : 1 ≤ cap) (hc2 : cap ≤ 1000) (hn1 : n1 ≤ 60) : Met l yX2_greatestBorne wsX2_greatestBorne ({ frames := 4, cells := 0, slots := 0, locals := 94 }) (PC D (TY cI cS cP) [.ref h0, .int w1, .int m1] sz [(h0, .inr (2, [.ref w0, .int am, .int wt, .int md, .long x1, .long x2, .long x3, .long x4, .long x5])), (w0, .inr (8, [.ref g0, .int (nI d), .int (nI sh), .int (nI cap), .int (nI sw)])), (g0, .inr (3, [.ref s0, .ref s1, .int (nI low), .int (nI high)])), (s1, .inr (6, [.ref a1, .int lo1, .int fo1, .int (nI n1)])), (a1, .inl (cI, 60, .inl it1))]) (QI D (fun (r : Int32) (u : Int32 × Int32 × Int32 × Int64 × Int64 × Int64 × Int64 × Int64) => r = nI (gb (fun v => wb (fun k => decide (strg it1 n1 sh < gA (nI v) w1 m1 d cap sh k)) (d + 1)) 1000)) (fun (u : Int32 × Int32 × Int32 × Int64 × Int64 × Int64 × Int64 × Int64) => [(h0, .inr (2, [.ref w0, .int u.1, .int u.2.1, .int u.2.2.1, .long u.2.2.2.1, .long u.2.2.2.2.1, .long u.2.2.2.2.2.1, .long u.2.2.2.2.2.2.1, .long u.2.2.2.2.2.2.2])), (w0, .inr (8, [.ref g0, .int (nI d), .int (nI sh), .int (nI cap), .int (nI sw)])), (g0, .inr (3, [.ref s0, .ref s1, .int (nI low), .int (nI high)])), (s1, .inr (6, [.ref a1, .int lo1, .int fo1, .int (nI n1)])), (a1, .inl (cI, 60, .inl it1))]) (va_A [(h0, .inr (2, [.ref w0, .int am, .int wt, .int md, .long x1, .long x2, .long x3, .long x4, .long x5])), (w0, .inr (8, [.ref g0, .int (nI d), .int (nI sh), .int (nI cap), .int (nI sw)])), (g0, .inr (3, [.ref s0, .ref s1, .int (nI low), .int (nI high)])), (s1, .inr (6, [.ref a1, .int lo1, .int fo1, .int (nI n1)])), (a1, .inl (cI, 60, .inl it1))] sz)) 0 0 (va_A [(h0, .inr (2, [.ref w0, .int am, .int wt, .int md, .long x1, .long x2, .long x3, .long x4, .long x5])), (w0, .inr (8, [.ref g0, .int (nI d), .int (nI sh), .int (nI cap), .int (nI sw)])), (g0, .inr (3, [.ref s0, .ref s1, .int (nI low), .int (nI high)])), (s1, .inr (6, [.ref a1, .int lo1, .int fo1, .int (nI n1)])), (a1, .inl (cI, 60, .inl it1))] sz) := by
  refine Met.ofW (cc := cX2_greatestBorne) (maxL := 8) (ret := (some .int)) (by decide) rfl ?_
  intro p e s m args below meth c s₁ B hml hv
  obtain ⟨rfl, hsz, hP, hK, hD0, hN⟩ := hv
  have hx := B.exec
  have hb := B.bytes
  have hr := B.returns
  have hts := atoms_spec (ws := wsX2_greatestBorne) B.pre
  have hown : s.vm.findClass RX2 = some m.cls := findClass_of_methodNamed B.named
  have hlocks := B.notSynchronized
  subst hsz
  have iX2 : ∀ w ∈ u_ws RX2 TX2 9, w ∈ wsX2_greatestBorne := by decide +kernel
  have iX8 : ∀ w ∈ u_ws RX8 TX8 5, w ∈ wsX2_greatestBorne := by decide +kernel
  have hD := hD0.self (sz := s.heap.size)
  generalize hAe : va_A [(h0, .inr (2, [.ref w0, .int am, .int wt, .int md, .long x1, .long x2, .long x3, .long x4, .long x5])), (w0, .inr (8, [.ref g0, .int (nI d), .int (nI sh), .int (nI cap), .int (nI sw)])), (g0, .inr (3, [.ref s0, .ref s1, .int (nI low), .int (nI high)])), (s1, .inr (6, [.ref a1, .int lo1, .int fo1, .int (nI n1)])), (a1, .inl (cI, 60, .inl it1))] s.heap.size = A at hD ⊢
  have hA : ∀ q : Nat, s.heap.size ≤ q → A q := fun q h => by rw [← hAe]; exact Or.inr h
  have hS : va_S A s.heap s.heap [] := va_S.rf
  have hP : va_P D vwCl [(h0, .inr (2, [.ref w0, .int am, .int wt, .int md, .long x1, .long x2, .long x3, .long x4, .long x5])), (w0, .inr (8, [.ref g0, .int (nI d), .int (nI sh), .int (nI cap), .int (nI sw)])), (g0, .inr (3, [.ref s0, .ref s1, .int (nI low), .int (nI high)])), (s1, .inr (6, [.ref a1, .int lo1, .int fo1, .int (nI n1)])), (a1, .inl (cI, 60, .inl it1))] s.heap := hP
  have hl := lv_entry ([.ref h0, .int w1, .int m1]) (n := 8) (Nat.le_of_ble_eq_true rfl)
  rw [lg_entry_eq]
  generalize (lg_sl ([.ref h0, .int w1, .int m1]) ++ List.replicate (8 - (lg_sl ([.ref h0, .int w1, .int m1])).length) Slot.unset).toArray = ls at hl ⊢
  have hl : lv_has ls 8 [(0, .ref h0), (1, .int w1), (2, .int m1)] := hl
  refine lv_aload_n hx hb dX2_greatestBorne_0 rfl (lv_at hl 0 rfl) ?_
  refine va_get (D := D) (ci := 2) (v := .ref w0) (C := RX2) (T := TX2) (N := 9) hx hb hts iX2 hown hK hP 0 rfl rfl 0 (by decide) (hts (.fieldLink RX2 9 "DeepHole$Gas" "well" "LDeepHole$Well;") (by decide +kernel)) (fun _ h9 => h9) rfl dX2_greatestBorne_1 ?_
  refine q_Vl (wc := [(w0, .inr (8, [.ref g0, .int (nI d), .int (nI sh), .int (nI cap), .int (nI sw)])), (g0, .inr (3, [.ref s0, .ref s1, .int (nI low), .int (nI high)])), (s1, .inr (6, [.ref a1, .int lo1, .int fo1, .int (nI n1)])), (a1, .inl (cI, 60, .inl it1))]) (b := w0) ⟨hx, hb, hml, hown, hts⟩ [] [] (c_X8_strength  (by first | assumption | omega) (by first | assumption | omega)) (cwV 0 hts gX2_greatestBorne_X8_strength rfl rfl rfl (by decide +kernel) ⟨Nat.le_of_ble_eq_true rfl, Nat.le_of_ble_eq_true rfl⟩) hK hN hP hD [1, 2, 3, 4] rfl (by decide) (ci := 8) rfl rfl rfl rfl hl.1 rfl (Nat.le_of_ble_eq_true rfl) dX2_greatestBorne_4 ⟨Nat.zero_le _, Nat.zero_le _⟩ (fun r hw => ?_)
  subst hw
  refine lv_lstore_n (lv' := [(3, .long (strg it1 n1 sh)), (0, .ref h0), (1, .int w1), (2, .int m1)]) hx hb dX2_greatestBorne_7 rfl hl (by decide) rfl (fun ls hl => ?_)
  refine lv_aload_n hx hb dX2_greatestBorne_8 rfl (lv_at hl 1 rfl) ?_
  refine va_get (D := D) (ci := 2) (v := .ref w0) (C := RX2) (T := TX2) (N := 9) hx hb hts iX2 hown hK hP 0 rfl rfl 0 (by decide) (hts (.fieldLink RX2 9 "DeepHole$Gas" "well" "LDeepHole$Well;") (by decide +kernel)) (fun _ h9 => h9) rfl dX2_greatestBorne_9 ?_
  refine va_get (D := D) (ci := 8) (v := .int (nI d)) (C := RX8) (T := TX8) (N := 5) hx hb hts iX8 hown hK hP 1 rfl rfl 1 (by decide) (hts (.fieldLink RX2 25 "DeepHole$Well" "depth" "I") (by decide +kernel)) (fun _ h9 => h9) rfl dX2_greatestBorne_12 ?_
  refine lv_istore (lv' := [(5, .int (nI d)), (3, .long (strg it1 n1 sh)), (0, .ref h0), (1, .int w1), (2, .int m1)]) hx hb dX2_greatestBorne_15 hl (by decide) rfl (fun ls hl => ?_)
  refine lv_sipush (v := 1000) hx hb dX2_greatestBorne_17 (by decide) ?_
  refine lv_istore (lv' := [(6, .int 1000), (5, .int (nI d)), (3, .long (strg it1 n1 sh)), (0, .ref h0), (1, .int w1), (2, .int m1)]) hx hb dX2_greatestBorne_20 hl (by decide) rfl (fun ls hl => ?_)
  refine lp_w (I := fun zz9 H locs ls => ∃ (v pp : Nat) (am wt md : Int32) (x1 x2 x3 x4 x5 : Int64), zz9 = v ∧ (v ≤ 1000) ∧ (pp ≤ d) ∧ (gb (fun v => wb (fun k => decide (strg it1 n1 sh < gA (nI v) w1 m1 d cap sh k)) (d + 1)) 1000 = gb (fun v => wb (fun k => decide (strg it1 n1 sh < gA (nI v) w1 m1 d cap sh k)) (d + 1)) v) ∧ va_P D vwCl [(h0, .inr (2, [.ref w0, .int am, .int wt, .int md, .long x1, .long x2, .long x3, .long x4, .long x5])), (w0, .inr (8, [.ref g0, .int (nI d), .int (nI sh), .int (nI cap), .int (nI sw)])), (g0, .inr (3, [.ref s0, .ref s1, .int (nI low), .int (nI high)])), (s1, .inr (6, [.ref a1, .int lo1, .int fo1, .int (nI n1)])), (a1, .inl (cI, 60, .inl it1))] H ∧ va_D A [(h0, .inr (2, [.ref w0, .int am, .int wt, .int md, .long x1, .long x2, .long x3, .long x4, .long x5])), (w0, .inr (8, [.ref g0, .int (nI d), .int (nI sh), .int (nI cap), .int (nI sw)])), (g0, .inr (3, [.ref s0, .ref s1, .int (nI low), .int (nI high)])), (s1, .inr (6, [.ref a1, .int lo1, .int fo1, .int (nI n1)])), (a1, .inl (cI, 60, .inl it1))] ∧ va_S A s.heap H locs ∧ lv_has ls 8 [(0, .ref h0), (1, .int w1), (2, .int m1), (3, .long (strg it1 n1 sh)), (5, .int (nI pp)), (6, .int (nI v))]) ?_ (1000) ⟨1000, d, am, wt, md, x1, x2, x3, x4, x5, rfl, (by omega), (by omega), (rfl), hP.sub [0, 1, 2, 3, 4] rfl, hD.sub [0, 1, 2, 3, 4] (by decide) rfl, hS, lv_sub hl [3, 4, 5, 2, 1, 0] rfl⟩
  intro n_22 H locs ls ih_22 hI
  obtain ⟨v, pp, am, wt, md, x1, x2, x3, x4, x5, hn_22, hv, hpp, hs, hP, hD, hS, hl⟩ := hI
  refine lv_iload hx hb dX2_greatestBorne_22 (lv_at hl 5 rfl) ?_
  refine lv_iconst (v := 1) hx hb dX2_greatestBorne_24 (by decide) ?_
  refine lv_icmp_lt (tgt := 75) hx hb dX2_greatestBorne_25 (by decide) (fun c_25 => ?_) (fun c_25 => ?_)
  ·
    have c_25 := n_lt (a := v) (b := 1) c_25 (by omega) (by omega)
    refine lv_iconst (v := 0) hx hb dX2_greatestBorne_75 (by decide) ?_
    have hP9 := hP.sub (ws' := [(h0, .inr (2, [.ref w0, .int am, .int wt, .int md, .long x1, .long x2, .long x3, .long x4, .long x5])), (w0, .inr (8, [.ref g0, .int (nI d), .int (nI sh), .int (nI cap), .int (nI sw)])), (g0, .inr (3, [.ref s0, .ref s1, .int (nI low), .int (nI high)])), (s1, .inr (6, [.ref a1, .int lo1, .int fo1, .int (nI n1)])), (a1, .inl (cI, 60, .inl it1))]) [0, 1, 2, 3, 4] rfl
    have hD9 := hD.sub (ws' := [(h0, .inr (2, [.ref w0, .int am, .int wt, .int md, .long x1, .long x2, .long x3, .long x4, .long x5])), (w0, .inr (8, [.ref g0, .int (nI d), .int (nI sh), .int (nI cap), .int (nI sw)])), (g0, .inr (3, [.ref s0, .ref s1, .int (nI low), .int (nI high)])), (s1, .inr (6, [.ref a1, .int lo1, .int fo1, .int (nI n1)])), (a1, .inl (cI, 60, .inl it1))]) [0, 1, 2, 3, 4] (by decide) rfl
    exact W.iret (v := 0) hx hb hr (fun t ht hW => ⟨⟨_, (am, wt, md, x1, x2, x3, x4, x5), rfl, (by rw [hs, show v = 0 by omega]; rfl), by rw [ht]; exact hP9, hD9⟩, hS.F ht⟩) hS.2.2 dX2_greatestBorne_76
  ·
    have c_25 := n_nlt (a := v) (b := 1) c_25 (by omega) (by omega)
    refine lv_aload_n hx hb dX2_greatestBorne_28 rfl (lv_at hl 0 rfl) ?_
    refine lv_iload hx hb dX2_greatestBorne_29 (lv_at hl 5 rfl) ?_
    refine lv_iload_n hx hb dX2_greatestBorne_31 rfl (lv_at hl 1 rfl) ?_
    refine lv_iload_n hx hb dX2_greatestBorne_32 rfl (lv_at hl 2 rfl) ?_
    refine w_Vv (wc := [(h0, .inr (2, [.ref w0, .int am, .int wt, .int md, .long x1, .long x2, .long x3, .long x4, .long x5]))]) (wr := [(w0, .inr (8, [.ref g0, .int (nI d), .int (nI sh), .int (nI cap), .int (nI sw)])), (g0, .inr (3, [.ref s0, .ref s1, .int (nI low), .int (nI high)])), (s1, .inr (6, [.ref a1, .int lo1, .int fo1, .int (nI n1)])), (a1, .inl (cI, 60, .inl it1))]) (b := h0) ⟨hx, hb, hml, hown, hts⟩ [.int (nI v), .int w1, .int m1] [] c_X2_comeIn (cwV 3 hts gX2_greatestBorne_X2_comeIn rfl rfl rfl (by decide +kernel) ⟨Nat.le_of_ble_eq_true rfl, Nat.le_of_ble_eq_true rfl⟩) hK hN hP hD hS hA [0] [1, 2, 3, 4] rfl (by decide) rfl (by decide) (by decide) (ci := 2) rfl rfl rfl rfl hl.1 rfl (Nat.le_of_ble_eq_true rfl) dX2_greatestBorne_33 ⟨Nat.zero_le _, Nat.zero_le _⟩ (fun u H locs hw hP hD hS => ?_)
    have hP : va_P D vwCl [(w0, .inr (8, [.ref g0, .int (nI d), .int (nI sh), .int (nI cap), .int (nI sw)])), (g0, .inr (3, [.ref s0, .ref s1, .int (nI low), .int (nI high)])), (s1, .inr (6, [.ref a1, .int lo1, .int fo1, .int (nI n1)])), (a1, .inl (cI, 60, .inl it1)), (h0, .inr (2, [.ref w0, .int (nI v), .int w1, .int m1, .long x1, .long x2, .long x3, .long x4, .long x5]))] H := hP
    have hD : va_D A [(w0, .inr (8, [.ref g0, .int (nI d), .int (nI sh), .int (nI cap), .int (nI sw)])), (g0, .inr (3, [.ref s0, .ref s1, .int (nI low), .int (nI high)])), (s1, .inr (6, [.ref a1, .int lo1, .int fo1, .int (nI n1)])), (a1, .inl (cI, 60, .inl it1)), (h0, .inr (2, [.ref w0, .int (nI v), .int w1, .int m1, .long x1, .long x2, .long x3, .long x4, .long x5]))] := hD
    refine lv_aload_n hx hb dX2_greatestBorne_36 rfl (lv_at hl 0 rfl) ?_
    refine lv_iload hx hb dX2_greatestBorne_37 (lv_at hl 4 rfl) ?_
    refine lv_lload_n hx hb dX2_greatestBorne_39 rfl (lv_at hl 3 rfl) ?_
    refine w_V (wc := [(h0, .inr (2, [.ref w0, .int (nI v), .int w1, .int m1, .long x1, .long x2, .long x3, .long x4, .long x5])), (w0, .inr (8, [.ref g0, .int (nI d), .int (nI sh), .int (nI cap), .int (nI sw)]))]) (wr := [(g0, .inr (3, [.ref s0, .ref s1, .int (nI low), .int (nI high)])), (s1, .inr (6, [.ref a1, .int lo1, .int fo1, .int (nI n1)])), (a1, .inl (cI, 60, .inl it1))]) (b := h0) ⟨hx, hb, hml, hown, hts⟩ [.int (nI pp), .long (strg it1 n1 sh)] [] (c_X2_isBrokenAt  (by first | assumption | omega) (by first | assumption | omega) (by first | assumption | omega) (by first | assumption | omega) (by first | assumption | omega)) (cwV 2 hts gX2_greatestBorne_X2_isBrokenAt rfl rfl rfl (by decide +kernel) ⟨Nat.le_of_ble_eq_true rfl, Nat.le_of_ble_eq_true rfl⟩) hK hN hP hD hS hA [4, 0] [1, 2, 3] rfl (by decide) rfl (by decide) (by decide) (ci := 2) rfl rfl rfl rfl hl.1 rfl (Nat.le_of_ble_eq_true rfl) dX2_greatestBorne_40 ⟨Nat.zero_le _, Nat.zero_le _⟩ (fun r u H locs hw hP hD hS => ?_)
    have hP : va_P D vwCl [(g0, .inr (3, [.ref s0, .ref s1, .int (nI low), .int (nI high)])), (s1, .inr (6, [.ref a1, .int lo1, .int fo1, .int (nI n1)])), (a1, .inl (cI, 60, .inl it1)), (h0, .inr (2, [.ref w0, .int (nI v), .int w1, .int m1, .long (gG w1 m1 d pp), .long (gV (nI v) w1 m1 d pp), .long (gH (nI v) w1 m1 d cap pp), .long (gC (nI v) w1 m1 d cap pp), .long (gA (nI v) w1 m1 d cap sh pp)])), (w0, .inr (8, [.ref g0, .int (nI d), .int (nI sh), .int (nI cap), .int (nI sw)]))] H := hP
    have hD : va_D A [(g0, .inr (3, [.ref s0, .ref s1, .int (nI low), .int (nI high)])), (s1, .inr (6, [.ref a1, .int lo1, .int fo1, .int (nI n1)])), (a1, .inl (cI, 60, .inl it1)), (h0, .inr (2, [.ref w0, .int (nI v), .int w1, .int m1, .long (gG w1 m1 d pp), .long (gV (nI v) w1 m1 d pp), .long (gH (nI v) w1 m1 d cap pp), .long (gC (nI v) w1 m1 d cap pp), .long (gA (nI v) w1 m1 d cap sh pp)])), (w0, .inr (8, [.ref g0, .int (nI d), .int (nI sh), .int (nI cap), .int (nI sw)]))] := hD
    subst hw
    refine lv_if_eq (tgt := 49) hx hb dX2_greatestBorne_43 (by decide) (fun c_43 => ?_) (fun c_43 => ?_)
    ·
      have c_43 := bz c_43
      refine lv_aload_n hx hb dX2_greatestBorne_49 rfl (lv_at hl 0 rfl) ?_
      refine lv_lload_n hx hb dX2_greatestBorne_50 rfl (lv_at hl 3 rfl) ?_
      refine w_V (wc := [(h0, .inr (2, [.ref w0, .int (nI v), .int w1, .int m1, .long (gG w1 m1 d pp), .long (gV (nI v) w1 m1 d pp), .long (gH (nI v) w1 m1 d cap pp), .long (gC (nI v) w1 m1 d cap pp), .long (gA (nI v) w1 m1 d cap sh pp)])), (w0, .inr (8, [.ref g0, .int (nI d), .int (nI sh), .int (nI cap), .int (nI sw)]))]) (wr := [(g0, .inr (3, [.ref s0, .ref s1, .int (nI low), .int (nI high)])), (s1, .inr (6, [.ref a1, .int lo1, .int fo1, .int (nI n1)])), (a1, .inl (cI, 60, .inl it1))]) (b := h0) ⟨hx, hb, hml, hown, hts⟩ [.long (strg it1 n1 sh)] [] (c_X2_whereBroken  (by first | assumption | omega) (by first | assumption | omega) (by first | assumption | omega) (by first | assumption | omega)) (cwV 1 hts gX2_greatestBorne_X2_whereBroken rfl rfl rfl (by decide +kernel) ⟨Nat.le_of_ble_eq_true rfl, Nat.le_of_ble_eq_true rfl⟩) hK hN hP hD hS hA [3, 4] [0, 1, 2] rfl (by decide) rfl (by decide) (by decide) (ci := 2) rfl rfl rfl rfl hl.1 rfl (Nat.le_of_ble_eq_true rfl) dX2_greatestBorne_51 ⟨Nat.zero_le _, Nat.zero_le _⟩ (fun r u H locs hw hP hD hS => ?_)
      obtain ⟨u_1, u_2, u_3, u_4, u_5⟩ := u
      try dsimp only at hw
      have hP : va_P D vwCl [(g0, .inr (3, [.ref s0, .ref s1, .int (nI low), .int (nI high)])), (s1, .inr (6, [.ref a1, .int lo1, .int fo1, .int (nI n1)])), (a1, .inl (cI, 60, .inl it1)), (h0, .inr (2, [.ref w0, .int (nI v), .int w1, .int m1, .long u_1, .long u_2, .long u_3, .long u_4, .long u_5])), (w0, .inr (8, [.ref g0, .int (nI d), .int (nI sh), .int (nI cap), .int (nI sw)]))] H := hP
      have hD : va_D A [(g0, .inr (3, [.ref s0, .ref s1, .int (nI low), .int (nI high)])), (s1, .inr (6, [.ref a1, .int lo1, .int fo1, .int (nI n1)])), (a1, .inl (cI, 60, .inl it1)), (h0, .inr (2, [.ref w0, .int (nI v), .int w1, .int m1, .long u_1, .long u_2, .long u_3, .long u_4, .long u_5])), (w0, .inr (8, [.ref g0, .int (nI d), .int (nI sh), .int (nI cap), .int (nI sw)]))] := hD
      subst hw
      refine lv_istore (lv' := [(7, .int (wb (fun k => decide ((strg it1 n1 sh) < gA (nI v) w1 m1 d cap sh k)) (d + 1))), (0, .ref h0), (1, .int w1), (2, .int m1), (3, .long (strg it1 n1 sh)), (5, .int (nI pp)), (6, .int (nI v))]) hx hb dX2_greatestBorne_54 hl (by decide) rfl (fun ls hl => ?_)
      refine lv_iload hx hb dX2_greatestBorne_56 (lv_at hl 0 rfl) ?_
      refine lv_iconst (v := (-1)) hx hb dX2_greatestBorne_58 (by decide) ?_
      refine lv_icmp_ne (tgt := 65) hx hb dX2_greatestBorne_59 (by decide) (fun c_59 => ?_) (fun c_59 => ?_)
      ·
        have hno : ¬ (fun v => wb (fun k => decide (strg it1 n1 sh < gA (nI v) w1 m1 d cap sh k)) (d + 1)) v = -1 := c_59
        obtain ⟨k9, hk9, ek9⟩ := (wb_in (q := d + 1) (by omega)).resolve_left c_59
        have hl : lv_has ls 8 [(7, .int (nI k9)), (0, .ref h0), (1, .int w1), (2, .int m1), (3, .long (strg it1 n1 sh)), (5, .int (nI pp)), (6, .int (nI v))] := by rw [← ek9]; exact hl
        refine lv_iload hx hb dX2_greatestBorne_65 (lv_at hl 0 rfl) ?_
        refine lv_istore (lv' := [(5, .int (nI k9)), (7, .int (nI k9)), (0, .ref h0), (1, .int w1), (2, .int m1), (3, .long (strg it1 n1 sh)), (6, .int (nI v))]) hx hb dX2_greatestBorne_67 hl (by decide) rfl (fun ls hl => ?_)
        refine lv_iinc (v := nI (v - 1)) (lv' := [(6, .int (nI (v - 1))), (5, .int (nI k9)), (7, .int (nI k9)), (0, .ref h0), (1, .int w1), (2, .int m1), (3, .long (strg it1 n1 sh))]) hx hb dX2_greatestBorne_69 hl (k := 6) rfl (iinc_m1 (by omega)) (by decide) rfl (fun ls hl => ?_)
        refine lv_goto (tgt := 22) hx hb dX2_greatestBorne_72 (by decide) ?_
        exact ih_22 _ _ _ _ (by omega) ⟨v - 1, k9, (nI v), w1, m1, u_1, u_2, u_3, u_4, u_5, rfl, (by omega), (by omega), (by rw [hs]; exact gb_no (B := (fun v => wb (fun k => decide (strg it1 n1 sh < gA (nI v) w1 m1 d cap sh k)) (d + 1))) (by omega) hno), hP.sub [3, 4, 0, 1, 2] rfl, hD.sub [3, 4, 0, 1, 2] (by decide) rfl, hS, lv_sub hl [3, 4, 5, 6, 1, 0] rfl⟩
      ·
        refine lv_iload hx hb dX2_greatestBorne_62 (lv_at hl 6 rfl) ?_
        have hP9 := hP.sub (ws' := [(h0, .inr (2, [.ref w0, .int (nI v), .int w1, .int m1, .long u_1, .long u_2, .long u_3, .long u_4, .long u_5])), (w0, .inr (8, [.ref g0, .int (nI d), .int (nI sh), .int (nI cap), .int (nI sw)])), (g0, .inr (3, [.ref s0, .ref s1, .int (nI low), .int (nI high)])), (s1, .inr (6, [.ref a1, .int lo1, .int fo1, .int (nI n1)])), (a1, .inl (cI, 60, .inl it1))]) [3, 4, 0, 1, 2] rfl
        have hD9 := hD.sub (ws' := [(h0, .inr (2, [.ref w0, .int (nI v), .int w1, .int m1, .long u_1, .long u_2, .long u_3, .long u_4, .long u_5])), (w0, .inr (8, [.ref g0, .int (nI d), .int (nI sh), .int (nI cap), .int (nI sw)])), (g0, .inr (3, [.ref s0, .ref s1, .int (nI low), .int (nI high)])), (s1, .inr (6, [.ref a1, .int lo1, .int fo1, .int (nI n1)])), (a1, .inl (cI, 60, .inl it1))]) [3, 4, 0, 1, 2] (by decide) rfl
        exact W.iret (v := nI v) hx hb hr (fun t ht hW => ⟨⟨_, ((nI v), w1, m1, u_1, u_2, u_3, u_4, u_5), rfl, (by rw [hs, gb_yes (B := (fun v => wb (fun k => decide (strg it1 n1 sh < gA (nI v) w1 m1 d cap sh k)) (d + 1))) (by omega) c_59]), by rw [ht]; exact hP9, hD9⟩, hS.F ht⟩) hS.2.2 dX2_greatestBorne_64
    ·
      have c_43 := bnz c_43
      have hno : ¬ (fun v => wb (fun k => decide (strg it1 n1 sh < gA (nI v) w1 m1 d cap sh k)) (d + 1)) v = -1 := wb_ne (by omega) (show pp < d + 1 by omega) (decide_eq_true c_43)
      refine lv_goto (tgt := 69) hx hb dX2_greatestBorne_46 (by decide) ?_
      refine lv_iinc (v := nI (v - 1)) (lv' := [(6, .int (nI (v - 1))), (0, .ref h0), (1, .int w1), (2, .int m1), (3, .long (strg it1 n1 sh)), (5, .int (nI pp))]) hx hb dX2_greatestBorne_69 hl (k := 5) rfl (iinc_m1 (by omega)) (by decide) rfl (fun ls hl => ?_)
      refine lv_goto (tgt := 22) hx hb dX2_greatestBorne_72 (by decide) ?_
      exact ih_22 _ _ _ _ (by omega) ⟨v - 1, pp, (nI v), w1, m1, gG w1 m1 d pp, gV (nI v) w1 m1 d pp, gH (nI v) w1 m1 d cap pp, gC (nI v) w1 m1 d cap pp, gA (nI v) w1 m1 d cap sh pp, rfl, (by omega), (by omega), (by rw [hs]; exact gb_no (B := (fun v => wb (fun k => decide (strg it1 n1 sh < gA (nI v) w1 m1 d cap sh k)) (d + 1))) (by omega) hno), hP.sub [3, 4, 0, 1, 2] rfl, hD.sub [3, 4, 0, 1, 2] (by decide) rfl, hS, lv_sub hl [1, 2, 3, 4, 5, 0] rfl⟩
