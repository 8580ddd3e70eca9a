set_option maxHeartbeats 4000000 in
set_option maxRecDepth 100000 in
theorem c_X7_become {l : Launch} {D : va_G} {cI cS cP : ClassId} {sz : Nat} {h0 : Nat} {a b x y : Int64}  : Met l yX7_become wsX7_become ({ frames := 0, cells := 0, slots := 0, locals := 0 }) (PC D (TY cI cS cP) [.ref h0, .long x, .long y] sz [(h0, .inr (7, [.long a, .long b]))]) (QV D (fun (u : Unit) => True) (fun (u : Unit) => [(h0, .inr (7, [.long x, .long y]))]) (va_A [(h0, .inr (7, [.long a, .long b]))] sz)) 0 0 (va_A [(h0, .inr (7, [.long a, .long b]))] sz) := by
  refine Met.ofW (cc := cX7_become) (maxL := 5) (ret := none) (by decide) rfl ?_
  intro p e s m args below meth c s₁ B hml hv
  obtain ⟨rfl, hsz, hP, hK, hD0, hN⟩ := hv
  have hx := B.exec
  have hb := B.bytes
  have hr := B.returns
  have hts := atoms_spec (ws := wsX7_become) B.pre
  have hown : s.vm.findClass RX7 = some m.cls := findClass_of_methodNamed B.named
  have hlocks := B.notSynchronized
  subst hsz
  have iX7 : ∀ w ∈ u_ws RX7 TX7 2, w ∈ wsX7_become := by decide +kernel
  have hD := hD0.self (sz := s.heap.size)
  generalize hAe : va_A [(h0, .inr (7, [.long a, .long b]))] s.heap.size = A at hD ⊢
  have hA : ∀ q : Nat, s.heap.size ≤ q → A q := fun q h => by rw [← hAe]; exact Or.inr h
  have hS : va_S A s.heap s.heap [] := va_S.rf
  have hP : va_P D vwCl [(h0, .inr (7, [.long a, .long b]))] s.heap := hP
  have hl := lv_entry ([.ref h0, .long x, .long y]) (n := 5) (Nat.le_of_ble_eq_true rfl)
  rw [lg_entry_eq]
  generalize (lg_sl ([.ref h0, .long x, .long y]) ++ List.replicate (5 - (lg_sl ([.ref h0, .long x, .long y])).length) Slot.unset).toArray = ls at hl ⊢
  have hl : lv_has ls 5 [(0, .ref h0), (1, .long x), (3, .long y)] := hl
  refine lv_aload_n hx hb dX7_become_0 rfl (lv_at hl 0 rfl) ?_
  refine lv_lload_n hx hb dX7_become_1 rfl (lv_at hl 1 rfl) ?_
  refine va_put (D := D) (ci := 7) (v := .long x) (ty := .long) (C := RX7) (T := TX7) (N := 2) hx hb hts iX7 tyX7 tyX7_ok nmX7 hown hK hP hD hS 0 rfl rfl 0 (by decide) (hts (.fieldLink RX7 7 "DeepHole$Span" "least" "J") (by decide +kernel)) (fun _ h9 => h9) rfl (by decide +kernel) rfl rfl (Nat.le_of_ble_eq_true rfl) dX7_become_2 (fun H locs hP hD hS => ?_)
  have hP : va_P D vwCl [(h0, .inr (7, [.long x, .long b]))] H := hP
  have hD : va_D A [(h0, .inr (7, [.long x, .long b]))] := hD
  refine lv_aload_n hx hb dX7_become_5 rfl (lv_at hl 0 rfl) ?_
  refine lv_lload_n hx hb dX7_become_6 rfl (lv_at hl 2 rfl) ?_
  refine va_put (D := D) (ci := 7) (v := .long y) (ty := .long) (C := RX7) (T := TX7) (N := 2) hx hb hts iX7 tyX7 tyX7_ok nmX7 hown hK hP hD hS 0 rfl rfl 1 (by decide) (hts (.fieldLink RX7 13 "DeepHole$Span" "greatest" "J") (by decide +kernel)) (fun _ h9 => h9) rfl (by decide +kernel) rfl rfl (Nat.le_of_ble_eq_true rfl) dX7_become_7 (fun H locs hP hD hS => ?_)
  have hP : va_P D vwCl [(h0, .inr (7, [.long x, .long y]))] H := hP
  have hD : va_D A [(h0, .inr (7, [.long x, .long y]))] := hD
  have hP9 := hP.sub (ws' := [(h0, .inr (7, [.long x, .long y]))]) [0] rfl
  have hD9 := hD.sub (ws' := [(h0, .inr (7, [.long x, .long y]))]) [0] (by decide) rfl
  exact W.vret hx hb hr (fun t ht hW => ⟨⟨(), rfl, (trivial), by rw [ht]; exact hP9, hD9⟩, hS.F ht⟩) hS.2.2 dX7_become_10

set_option maxHeartbeats 4000000 in
set_option maxRecDepth 100000 in
theorem c_X7_keep {l : Launch} {D : va_G} {cI cS cP : ClassId} {sz : Nat} {h0 : Nat} {a b x y : Int} (ha : -9223372036854775808 ≤ a ∧ a < 9223372036854775808) (hb0 : -9223372036854775808 ≤ b ∧ b < 9223372036854775808) (hx0 : -9223372036854775808 ≤ x ∧ x < 9223372036854775808) (hy0 : -9223372036854775808 ≤ y ∧ y < 9223372036854775808) : Met l yX7_keep wsX7_keep ({ frames := 1, cells := 0, slots := 0, locals := 23 }) (PC D (TY cI cS cP) [.ref h0, .long (lI x), .long (lI y)] sz [(h0, .inr (7, [.long (lI a), .long (lI b)]))]) (QV D (fun (u : Unit) => True) (fun (u : Unit) => [(h0, .inr (7, [.long (lI (max a x)), .long (lI (min b y))]))]) (va_A [(h0, .inr (7, [.long (lI a), .long (lI b)]))] sz)) 0 0 (va_A [(h0, .inr (7, [.long (lI a), .long (lI b)]))] sz) := by
  refine Met.ofW (cc := cX7_keep) (maxL := 5) (ret := none) (by decide) rfl ?_
  intro p e s m args below meth c s₁ B hml hv
  obtain ⟨rfl, hsz, hP, hK, hD0, hN⟩ := hv
  have hx := B.exec
  have hb := B.bytes
  have hr := B.returns
  have hts := atoms_spec (ws := wsX7_keep) B.pre
  have hown : s.vm.findClass RX7 = some m.cls := findClass_of_methodNamed B.named
  have hlocks := B.notSynchronized
  subst hsz
  have iX7 : ∀ w ∈ u_ws RX7 TX7 2, w ∈ wsX7_keep := by decide +kernel
  have hD := hD0.self (sz := s.heap.size)
  generalize hAe : va_A [(h0, .inr (7, [.long (lI a), .long (lI b)]))] s.heap.size = A at hD ⊢
  have hA : ∀ q : Nat, s.heap.size ≤ q → A q := fun q h => by rw [← hAe]; exact Or.inr h
  have hS : va_S A s.heap s.heap [] := va_S.rf
  have hP : va_P D vwCl [(h0, .inr (7, [.long (lI a), .long (lI b)]))] s.heap := hP
  have hl := lv_entry ([.ref h0, .long (lI x), .long (lI y)]) (n := 5) (Nat.le_of_ble_eq_true rfl)
  rw [lg_entry_eq]
  generalize (lg_sl ([.ref h0, .long (lI x), .long (lI y)]) ++ List.replicate (5 - (lg_sl ([.ref h0, .long (lI x), .long (lI y)])).length) Slot.unset).toArray = ls at hl ⊢
  have hl : lv_has ls 5 [(0, .ref h0), (1, .long (lI x)), (3, .long (lI y))] := hl
  refine lv_aload_n hx hb dX7_keep_0 rfl (lv_at hl 0 rfl) ?_
  refine lv_aload_n hx hb dX7_keep_1 rfl (lv_at hl 0 rfl) ?_
  refine va_get (D := D) (ci := 7) (v := .long (lI a)) (C := RX7) (T := TX7) (N := 2) hx hb hts iX7 hown hK hP 0 rfl rfl 0 (by decide) (hts (.fieldLink RX7 7 "DeepHole$Span" "least" "J") (by decide +kernel)) (fun _ h9 => h9) rfl dX7_keep_2 ?_
  refine lv_lload_n hx hb dX7_keep_5 rfl (lv_at hl 1 rfl) ?_
  refine va_mmax_long hx hb (hml.trans hl.1.symm) hown (hts (.methodLink RX7 16 Lib.MathLoose.max_long.x) (by decide +kernel)) (hts (.static Lib.MathLoose.max_long.x) (by decide +kernel)) (hts (.initialized "java/lang/Math") (by decide +kernel)) (hts (.code Lib.MathLoose.max_long.x Lib.MathLoose.max_long.code 4 (some .long)) (by decide +kernel)) (Nat.le_of_ble_eq_true rfl) (Nat.le_of_ble_eq_true rfl) (Nat.zero_le _) (Nat.zero_le _) dX7_keep_6 ?_
  refine lv_eql (z := lI (max a x)) (mx_l (by omega) (by omega)) ?_
  refine va_put (D := D) (ci := 7) (v := .long (lI (max a x))) (ty := .long) (C := RX7) (T := TX7) (N := 2) hx hb hts iX7 tyX7 tyX7_ok nmX7 hown hK hP hD hS 0 rfl rfl 0 (by decide) (hts (.fieldLink RX7 7 "DeepHole$Span" "least" "J") (by decide +kernel)) (fun _ h9 => h9) rfl (by decide +kernel) rfl rfl (Nat.le_of_ble_eq_true rfl) dX7_keep_9 (fun H locs hP hD hS => ?_)
  have hP : va_P D vwCl [(h0, .inr (7, [.long (lI (max a x)), .long (lI b)]))] H := hP
  have hD : va_D A [(h0, .inr (7, [.long (lI (max a x)), .long (lI b)]))] := hD
  refine lv_aload_n hx hb dX7_keep_12 rfl (lv_at hl 0 rfl) ?_
  refine lv_aload_n hx hb dX7_keep_13 rfl (lv_at hl 0 rfl) ?_
  refine va_get (D := D) (ci := 7) (v := .long (lI b)) (C := RX7) (T := TX7) (N := 2) hx hb hts iX7 hown hK hP 0 rfl rfl 1 (by decide) (hts (.fieldLink RX7 13 "DeepHole$Span" "greatest" "J") (by decide +kernel)) (fun _ h9 => h9) rfl dX7_keep_14 ?_
  refine lv_lload_n hx hb dX7_keep_17 rfl (lv_at hl 2 rfl) ?_
  refine va_mmin_long hx hb (hml.trans hl.1.symm) hown (hts (.methodLink RX7 22 Lib.MathLoose.min_long.x) (by decide +kernel)) (hts (.static Lib.MathLoose.min_long.x) (by decide +kernel)) (hts (.initialized "java/lang/Math") (by decide +kernel)) (hts (.code Lib.MathLoose.min_long.x Lib.MathLoose.min_long.code 4 (some .long)) (by decide +kernel)) (Nat.le_of_ble_eq_true rfl) (Nat.le_of_ble_eq_true rfl) (Nat.zero_le _) (Nat.zero_le _) dX7_keep_18 ?_
  refine lv_eql (z := lI (min b y)) (mn_l (by omega) (by omega)) ?_
  refine va_put (D := D) (ci := 7) (v := .long (lI (min b y))) (ty := .long) (C := RX7) (T := TX7) (N := 2) hx hb hts iX7 tyX7 tyX7_ok nmX7 hown hK hP hD hS 0 rfl rfl 1 (by decide) (hts (.fieldLink RX7 13 "DeepHole$Span" "greatest" "J") (by decide +kernel)) (fun _ h9 => h9) rfl (by decide +kernel) rfl rfl (Nat.le_of_ble_eq_true rfl) dX7_keep_21 (fun H locs hP hD hS => ?_)
  have hP : va_P D vwCl [(h0, .inr (7, [.long (lI (max a x)), .long (lI (min b y))]))] H := hP
  have hD : va_D A [(h0, .inr (7, [.long (lI (max a x)), .long (lI (min b y))]))] := hD
  have hP9 := hP.sub (ws' := [(h0, .inr (7, [.long (lI (max a x)), .long (lI (min b y))]))]) [0] rfl
  have hD9 := hD.sub (ws' := [(h0, .inr (7, [.long (lI (max a x)), .long (lI (min b y))]))]) [0] (by decide) rfl
  exact W.vret hx hb hr (fun t ht hW => ⟨⟨(), rfl, (trivial), by rw [ht]; exact hP9, hD9⟩, hS.F ht⟩) hS.2.2 dX7_keep_24

set_option maxHeartbeats 4000000 in
set_option maxRecDepth 100000 in
theorem c_X7_isEmpty {l : Launch} {D : va_G} {cI cS cP : ClassId} {sz : Nat} {h0 : Nat} {a b : Int} (ha : -9223372036854775808 ≤ a ∧ a < 9223372036854775808) (hb0 : -9223372036854775808 ≤ b ∧ b < 9223372036854775808) : Met l yX7_isEmpty wsX7_isEmpty ({ frames := 0, cells := 0, slots := 0, locals := 0 }) (PC D (TY cI cS cP) [.ref h0] sz [(h0, .inr (7, [.long (lI a), .long (lI b)]))]) (vp_Si (fun r => r = if (b < a) then 1 else 0)) 0 0 (fun _ => False) := by
  refine Met.ofW (cc := cX7_isEmpty) (maxL := 1) (ret := (some .boolean)) (by decide) rfl ?_
  intro p e s m args below meth c s₁ B hml hv
  obtain ⟨rfl, hsz, hP, hK, hD0, hN⟩ := hv
  have hx := B.exec
  have hb := B.bytes
  have hr := B.returns
  have hts := atoms_spec (ws := wsX7_isEmpty) B.pre
  have hown : s.vm.findClass RX7 = some m.cls := findClass_of_methodNamed B.named
  have hlocks := B.notSynchronized
  subst hsz
  have iX7 : ∀ w ∈ u_ws RX7 TX7 2, w ∈ wsX7_isEmpty := by decide +kernel
  have hD := hD0
  have hP : va_P D vwCl [(h0, .inr (7, [.long (lI a), .long (lI b)]))] s.heap := hP
  have hl := lv_entry ([.ref h0]) (n := 1) (Nat.le_of_ble_eq_true rfl)
  rw [lg_entry_eq]
  generalize (lg_sl ([.ref h0]) ++ List.replicate (1 - (lg_sl ([.ref h0])).length) Slot.unset).toArray = ls at hl ⊢
  have hl : lv_has ls 1 [(0, .ref h0)] := hl
  refine lv_aload_n hx hb dX7_isEmpty_0 rfl (lv_at hl 0 rfl) ?_
  refine va_get (D := D) (ci := 7) (v := .long (lI a)) (C := RX7) (T := TX7) (N := 2) hx hb hts iX7 hown hK hP 0 rfl rfl 0 (by decide) (hts (.fieldLink RX7 7 "DeepHole$Span" "least" "J") (by decide +kernel)) (fun _ h9 => h9) rfl dX7_isEmpty_1 ?_
  refine lv_aload_n hx hb dX7_isEmpty_4 rfl (lv_at hl 0 rfl) ?_
  refine va_get (D := D) (ci := 7) (v := .long (lI b)) (C := RX7) (T := TX7) (N := 2) hx hb hts iX7 hown hK hP 0 rfl rfl 1 (by decide) (hts (.fieldLink RX7 13 "DeepHole$Span" "greatest" "J") (by decide +kernel)) (fun _ h9 => h9) rfl dX7_isEmpty_5 ?_
  refine W.lcmp hx hb dX7_isEmpty_8 ?_
  refine lv_if_le (tgt := 16) hx hb dX7_isEmpty_9 (by decide) (fun c_9 => ?_) (fun c_9 => ?_)
  ·
    have c_9 := y_le (a := a) (b := b) ((lg_cmp_le _ _).mp c_9) (lI_toInt (by omega) (by omega)) (lI_toInt (by omega) (by omega))
    refine lv_iconst (v := 0) hx hb dX7_isEmpty_16 (by decide) ?_
    exact W.zret (v := 0) hx hb hr (rfl) (fun t ht hW => ⟨_, rfl, (by exact b_0 (by omega)), ht⟩) (fun _ h => absurd h List.not_mem_nil) dX7_isEmpty_17
  ·
    have c_9 := y_nle (a := a) (b := b) (fun h => c_9 ((lg_cmp_le _ _).mpr h)) (lI_toInt (by omega) (by omega)) (lI_toInt (by omega) (by omega))
    refine lv_iconst (v := 1) hx hb dX7_isEmpty_12 (by decide) ?_
    refine lv_goto (tgt := 17) hx hb dX7_isEmpty_13 (by decide) ?_
    exact W.zret (v := 1) hx hb hr (rfl) (fun t ht hW => ⟨_, rfl, (by exact b_1 c_9), ht⟩) (fun _ h => absurd h List.not_mem_nil) dX7_isEmpty_17

set_option maxHeartbeats 4000000 in
set_option maxRecDepth 100000 in
theorem c_X7_end {l : Launch} {D : va_G} {cI cS cP : ClassId} {sz : Nat} {h0 : Nat} {a b : Int64} {x : Int32}  : Met l yX7_end wsX7_end ({ frames := 0, cells := 0, slots := 0, locals := 0 }) (PC D (TY cI cS cP) [.ref h0, .int x] sz [(h0, .inr (7, [.long a, .long b]))]) (vp_Sl (fun r => r = if x = 0 then a else b)) 0 0 (fun _ => False) := by
  refine Met.ofW (cc := cX7_end) (maxL := 2) (ret := (some .long)) (by decide) rfl ?_
  intro p e s m args below meth c s₁ B hml hv
  obtain ⟨rfl, hsz, hP, hK, hD0, hN⟩ := hv
  have hx := B.exec
  have hb := B.bytes
  have hr := B.returns
  have hts := atoms_spec (ws := wsX7_end) B.pre
  have hown : s.vm.findClass RX7 = some m.cls := findClass_of_methodNamed B.named
  have hlocks := B.notSynchronized
  subst hsz
  have iX7 : ∀ w ∈ u_ws RX7 TX7 2, w ∈ wsX7_end := by decide +kernel
  have hD := hD0
  have hP : va_P D vwCl [(h0, .inr (7, [.long a, .long b]))] s.heap := hP
  have hl := lv_entry ([.ref h0, .int x]) (n := 2) (Nat.le_of_ble_eq_true rfl)
  rw [lg_entry_eq]
  generalize (lg_sl ([.ref h0, .int x]) ++ List.replicate (2 - (lg_sl ([.ref h0, .int x])).length) Slot.unset).toArray = ls at hl ⊢
  have hl : lv_has ls 2 [(0, .ref h0), (1, .int x)] := hl
  refine lv_iload_n hx hb dX7_end_0 rfl (lv_at hl 1 rfl) ?_
  refine lv_if_ne (tgt := 11) hx hb dX7_end_1 (by decide) (fun c_1 => ?_) (fun c_1 => ?_)
  ·
    refine lv_aload_n hx hb dX7_end_11 rfl (lv_at hl 0 rfl) ?_
    refine va_get (D := D) (ci := 7) (v := .long b) (C := RX7) (T := TX7) (N := 2) hx hb hts iX7 hown hK hP 0 rfl rfl 1 (by decide) (hts (.fieldLink RX7 13 "DeepHole$Span" "greatest" "J") (by decide +kernel)) (fun _ h9 => h9) rfl dX7_end_12 ?_
    exact W.lret (v := b) hx hb hr (fun t ht hW => ⟨_, rfl, (by simp only [c_1, if_true, if_false]), ht⟩) (fun _ h => absurd h List.not_mem_nil) dX7_end_15
  ·
    refine lv_aload_n hx hb dX7_end_4 rfl (lv_at hl 0 rfl) ?_
    refine va_get (D := D) (ci := 7) (v := .long a) (C := RX7) (T := TX7) (N := 2) hx hb hts iX7 hown hK hP 0 rfl rfl 0 (by decide) (hts (.fieldLink RX7 7 "DeepHole$Span" "least" "J") (by decide +kernel)) (fun _ h9 => h9) rfl dX7_end_5 ?_
    refine lv_goto (tgt := 15) hx hb dX7_end_8 (by decide) ?_
    exact W.lret (v := a) hx hb hr (fun t ht hW => ⟨_, rfl, (by simp only [c_1, if_true, if_false]), ht⟩) (fun _ h => absurd h List.not_mem_nil) dX7_end_15
