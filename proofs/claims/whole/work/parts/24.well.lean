set_option maxHeartbeats 4000000 in
set_option maxRecDepth 100000 in
theorem c_X8_firstNotHeld {l : Launch} {D : va_G} {cI cS cP : ClassId} {sz : Nat} {w0 d sh cap sw : Nat} {g0 s0 a0 s1 a1 : Nat} {lo0 fo0 lo1 fo1 : Int32} {n0 n1 low high : Nat} {it0 it1 : Nat → Int32} {m0 : Nat} (hd : d ≤ 50) (hsh : sh ≤ d) (hn0 : n0 ≤ 60) (hn1 : n1 ≤ 60) (hlow : low ≤ 500) (hhigh : high ≤ 500) (hm : m0 ≤ 3000) : Met l yX8_firstNotHeld wsX8_firstNotHeld ({ frames := 4, cells := 0, slots := 0, locals := 88 }) (PC D (TY cI cS cP) [.ref w0, .int (nI m0)] sz [(w0, .inr (8, [.ref g0, .int (nI d), .int (nI sh), .int (nI cap), .int (nI sw)])), (g0, .inr (3, [.ref s0, .ref s1, .int (nI low), .int (nI high)])), (s0, .inr (6, [.ref a0, .int lo0, .int fo0, .int (nI n0)])), (a0, .inl (cI, 60, .inl it0)), (s1, .inr (6, [.ref a1, .int lo1, .int fo1, .int (nI n1)])), (a1, .inl (cI, 60, .inl it1))]) (vp_Si (fun r => r = scanUp (hold it0 it1 n0 n1 low high m0) sh (d - sh))) 0 0 (fun _ => False) := by
  refine Met.ofW (cc := cX8_firstNotHeld) (maxL := 3) (ret := (some .int)) (by decide) rfl ?_
  intro p e s m args below meth c s₁ B hml hv
  obtain ⟨rfl, hsz, hP, hK, hD0, hN⟩ := hv
  have hx := B.exec
  have hb := B.bytes
  have hr := B.returns
  have hts := atoms_spec (ws := wsX8_firstNotHeld) B.pre
  have hown : s.vm.findClass RX8 = some m.cls := findClass_of_methodNamed B.named
  have hlocks := B.notSynchronized
  subst hsz
  have iX8 : ∀ w ∈ u_ws RX8 TX8 5, w ∈ wsX8_firstNotHeld := by decide +kernel
  have hD := hD0
  have hP : va_P D vwCl [(w0, .inr (8, [.ref g0, .int (nI d), .int (nI sh), .int (nI cap), .int (nI sw)])), (g0, .inr (3, [.ref s0, .ref s1, .int (nI low), .int (nI high)])), (s0, .inr (6, [.ref a0, .int lo0, .int fo0, .int (nI n0)])), (a0, .inl (cI, 60, .inl it0)), (s1, .inr (6, [.ref a1, .int lo1, .int fo1, .int (nI n1)])), (a1, .inl (cI, 60, .inl it1))] s.heap := hP
  have hl := lv_entry ([.ref w0, .int (nI m0)]) (n := 3) (Nat.le_of_ble_eq_true rfl)
  rw [lg_entry_eq]
  generalize (lg_sl ([.ref w0, .int (nI m0)]) ++ List.replicate (3 - (lg_sl ([.ref w0, .int (nI m0)])).length) Slot.unset).toArray = ls at hl ⊢
  have hl : lv_has ls 3 [(0, .ref w0), (1, .int (nI m0))] := hl
  refine lv_aload_n hx hb dX8_firstNotHeld_0 rfl (lv_at hl 0 rfl) ?_
  refine va_get (D := D) (ci := 8) (v := .int (nI sh)) (C := RX8) (T := TX8) (N := 5) hx hb hts iX8 hown hK hP 0 rfl rfl 2 (by decide) (hts (.fieldLink RX8 22 "DeepHole$Well" "shoe" "I") (by decide +kernel)) (fun _ h9 => h9) rfl dX8_firstNotHeld_1 ?_
  refine lv_istore_n (lv' := [(2, .int (nI sh)), (0, .ref w0), (1, .int (nI m0))]) hx hb dX8_firstNotHeld_4 rfl hl (by decide) rfl (fun ls hl => ?_)
  refine lp_q (I := fun zz9 ls => ∃ (k : Nat), zz9 = d - k ∧ (k ≤ d) ∧ (scanUp (hold it0 it1 n0 n1 low high m0) sh (d - sh) = scanUp (hold it0 it1 n0 n1 low high m0) k (d - k)) ∧ lv_has ls 3 [(0, .ref w0), (1, .int (nI m0)), (2, .int (nI k))]) ?_ (d - sh) ⟨sh, rfl, (by omega), (rfl), lv_sub hl [1, 2, 0] rfl⟩
  intro n_5 ls ih_5 hI
  obtain ⟨k, hn_5, hk, hs, hl⟩ := hI
  refine lv_iload_n hx hb dX8_firstNotHeld_5 rfl (lv_at hl 2 rfl) ?_
  refine lv_aload_n hx hb dX8_firstNotHeld_6 rfl (lv_at hl 0 rfl) ?_
  refine va_get (D := D) (ci := 8) (v := .int (nI d)) (C := RX8) (T := TX8) (N := 5) hx hb hts iX8 hown hK hP 0 rfl rfl 1 (by decide) (hts (.fieldLink RX8 25 "DeepHole$Well" "depth" "I") (by decide +kernel)) (fun _ h9 => h9) rfl dX8_firstNotHeld_7 ?_
  refine lv_icmp_ge (tgt := 33) hx hb dX8_firstNotHeld_10 (by decide) (fun c_10 => ?_) (fun c_10 => ?_)
  ·
    have c_10 := n_ge (a := k) (b := d) c_10 (by omega) (by omega)
    refine lv_iconst (v := (-1)) hx hb dX8_firstNotHeld_33 (by decide) ?_
    exact W.iret (v := (-1)) hx hb hr (fun t ht hW => ⟨_, rfl, (by rw [hs, show d - k = 0 by omega]; rfl), ht⟩) (fun _ h => absurd h List.not_mem_nil) dX8_firstNotHeld_34
  ·
    have c_10 := n_nge (a := k) (b := d) c_10 (by omega) (by omega)
    refine lv_aload_n hx hb dX8_firstNotHeld_13 rfl (lv_at hl 0 rfl) ?_
    refine va_get (D := D) (ci := 8) (v := .ref g0) (C := RX8) (T := TX8) (N := 5) hx hb hts iX8 hown hK hP 0 rfl rfl 0 (by decide) (hts (.fieldLink RX8 18 "DeepHole$Well" "ground" "LDeepHole$Ground;") (by decide +kernel)) (fun _ h9 => h9) rfl dX8_firstNotHeld_14 ?_
    refine lv_iload_n hx hb dX8_firstNotHeld_17 rfl (lv_at hl 1 rfl) ?_
    refine lv_iload_n hx hb dX8_firstNotHeld_18 rfl (lv_at hl 2 rfl) ?_
    refine q_V (wc := [(g0, .inr (3, [.ref s0, .ref s1, .int (nI low), .int (nI high)])), (s0, .inr (6, [.ref a0, .int lo0, .int fo0, .int (nI n0)])), (a0, .inl (cI, 60, .inl it0)), (s1, .inr (6, [.ref a1, .int lo1, .int fo1, .int (nI n1)])), (a1, .inl (cI, 60, .inl it1))]) (b := g0) ⟨hx, hb, hml, hown, hts⟩ [.int (nI m0), .int (nI k)] [] (c_X3_holds  (by first | assumption | omega) (by first | assumption | omega) (by first | assumption | omega) (by first | assumption | omega) (by first | assumption | omega) (by first | assumption | omega)) (cwV 2 hts gX8_firstNotHeld_X3_holds rfl rfl rfl (by decide +kernel) ⟨Nat.le_of_ble_eq_true rfl, Nat.le_of_ble_eq_true rfl⟩) hK hN hP hD [1, 2, 3, 4, 5] rfl (by decide) (ci := 3) rfl rfl rfl rfl hl.1 rfl (Nat.le_of_ble_eq_true rfl) dX8_firstNotHeld_19 ⟨Nat.zero_le _, Nat.zero_le _⟩ (fun r hw => ?_)
    subst hw
    refine lv_if_ne (tgt := 27) hx hb dX8_firstNotHeld_22 (by decide) (fun c_22 => ?_) (fun c_22 => ?_)
    ·
      have c_22 := bnz c_22
      refine lv_iinc (v := nI (k + 1)) (lv' := [(2, .int (nI (k + 1))), (0, .ref w0), (1, .int (nI m0))]) hx hb dX8_firstNotHeld_27 hl (k := 2) rfl (nI_1 _) (by decide) rfl (fun ls hl => ?_)
      refine lv_goto (tgt := 5) hx hb dX8_firstNotHeld_30 (by decide) ?_
      exact ih_5 _ _ (by omega) ⟨k + 1, rfl, (by omega), (by rw [hs, scanUp_step (by omega), if_pos (show hold it0 it1 n0 n1 low high m0 k = true from decide_eq_true c_22), Nat.sub_sub]), lv_sub hl [1, 2, 0] rfl⟩
    ·
      have c_22 := bz c_22
      refine lv_iload_n hx hb dX8_firstNotHeld_25 rfl (lv_at hl 2 rfl) ?_
      exact W.iret (v := nI k) hx hb hr (fun t ht hW => ⟨_, rfl, (by rw [hs, scanUp_step (by omega), if_neg (show ¬ hold it0 it1 n0 n1 low high m0 k = true from fun h => c_22 (of_decide_eq_true h))]), ht⟩) (fun _ h => absurd h List.not_mem_nil) dX8_firstNotHeld_26

set_option maxHeartbeats 4000000 in
set_option maxRecDepth 100000 in
theorem c_X8_strength {l : Launch} {D : va_G} {cI cS cP : ClassId} {sz : Nat} {w0 g0 s0 s1 a1 d sh cap sw n1 low high : Nat} {lo1 fo1 : Int32} {it1 : Nat → Int32} (hsh : sh ≤ 50) (hn1 : n1 ≤ 60) : Met l yX8_strength wsX8_strength ({ frames := 3, cells := 0, slots := 0, locals := 66 }) (PC D (TY cI cS cP) [.ref w0] sz [(w0, .inr (8, [.ref g0, .int (nI d), .int (nI sh), .int (nI cap), .int (nI sw)])), (g0, .inr (3, [.ref s0, .ref s1, .int (nI low), .int (nI high)])), (s1, .inr (6, [.ref a1, .int lo1, .int fo1, .int (nI n1)])), (a1, .inl (cI, 60, .inl it1))]) (vp_Sl (fun r => r = strg it1 n1 sh)) 0 0 (fun _ => False) := by
  refine Met.ofW (cc := cX8_strength) (maxL := 1) (ret := (some .long)) (by decide) rfl ?_
  intro p e s m args below meth c s₁ B hml hv
  obtain ⟨rfl, hsz, hP, hK, hD0, hN⟩ := hv
  have hx := B.exec
  have hb := B.bytes
  have hr := B.returns
  have hts := atoms_spec (ws := wsX8_strength) B.pre
  have hown : s.vm.findClass RX8 = some m.cls := findClass_of_methodNamed B.named
  have hlocks := B.notSynchronized
  subst hsz
  have iX8 : ∀ w ∈ u_ws RX8 TX8 5, w ∈ wsX8_strength := by decide +kernel
  have hD := hD0
  have hP : va_P D vwCl [(w0, .inr (8, [.ref g0, .int (nI d), .int (nI sh), .int (nI cap), .int (nI sw)])), (g0, .inr (3, [.ref s0, .ref s1, .int (nI low), .int (nI high)])), (s1, .inr (6, [.ref a1, .int lo1, .int fo1, .int (nI n1)])), (a1, .inl (cI, 60, .inl it1))] s.heap := hP
  have hl := lv_entry ([.ref w0]) (n := 1) (Nat.le_of_ble_eq_true rfl)
  rw [lg_entry_eq]
  generalize (lg_sl ([.ref w0]) ++ List.replicate (1 - (lg_sl ([.ref w0])).length) Slot.unset).toArray = ls at hl ⊢
  have hl : lv_has ls 1 [(0, .ref w0)] := hl
  refine lv_aload_n hx hb dX8_strength_0 rfl (lv_at hl 0 rfl) ?_
  refine va_get (D := D) (ci := 8) (v := .int (nI sh)) (C := RX8) (T := TX8) (N := 5) hx hb hts iX8 hown hK hP 0 rfl rfl 2 (by decide) (hts (.fieldLink RX8 22 "DeepHole$Well" "shoe" "I") (by decide +kernel)) (fun _ h9 => h9) rfl dX8_strength_1 ?_
  refine lv_if_le (tgt := 30) hx hb dX8_strength_4 (by decide) (fun c_4 => ?_) (fun c_4 => ?_)
  ·
    have c_4 := n_le (a := sh) (b := 0) c_4 (by omega) (by omega)
    refine lv_ldc2 hx hb hown (hts (.constantLong RX8 38 (9223372036854775807)) (by decide +kernel)) dX8_strength_30 ?_
    exact W.lret (v := 9223372036854775807) hx hb hr (fun t ht hW => ⟨_, rfl, (by unfold strg; first | rw [if_neg (by omega)] | rw [if_pos (by omega)]), ht⟩) (fun _ h => absurd h List.not_mem_nil) dX8_strength_33
  ·
    have c_4 := n_nle (a := sh) (b := 0) c_4 (by omega) (by omega)
    refine lv_aload_n hx hb dX8_strength_7 rfl (lv_at hl 0 rfl) ?_
    refine va_get (D := D) (ci := 8) (v := .ref g0) (C := RX8) (T := TX8) (N := 5) hx hb hts iX8 hown hK hP 0 rfl rfl 0 (by decide) (hts (.fieldLink RX8 18 "DeepHole$Well" "ground" "LDeepHole$Ground;") (by decide +kernel)) (fun _ h9 => h9) rfl dX8_strength_8 ?_
    refine lv_aload_n hx hb dX8_strength_11 rfl (lv_at hl 0 rfl) ?_
    refine va_get (D := D) (ci := 8) (v := .int (nI sh)) (C := RX8) (T := TX8) (N := 5) hx hb hts iX8 hown hK hP 0 rfl rfl 2 (by decide) (hts (.fieldLink RX8 22 "DeepHole$Well" "shoe" "I") (by decide +kernel)) (fun _ h9 => h9) rfl dX8_strength_12 ?_
    refine lv_iconst (v := 1) hx hb dX8_strength_15 (by decide) ?_
    refine lv_isub hx hb dX8_strength_16 ?_
    refine lv_eqi (z := nI (sh - 1)) (pk_sub (a := sh) (b := 1) (by omega)) ?_
    refine q_V (wc := [(g0, .inr (3, [.ref s0, .ref s1, .int (nI low), .int (nI high)])), (s1, .inr (6, [.ref a1, .int lo1, .int fo1, .int (nI n1)])), (a1, .inl (cI, 60, .inl it1))]) (b := g0) ⟨hx, hb, hml, hown, hts⟩ [.int (nI (sh - 1))] [] (c_X3_fracOf  (by first | assumption | omega) (by first | assumption | omega)) (cwV 1 hts gX8_strength_X3_fracOf rfl rfl rfl (by decide +kernel) ⟨Nat.le_of_ble_eq_true rfl, Nat.le_of_ble_eq_true rfl⟩) hK hN hP hD [1, 2, 3] rfl (by decide) (ci := 3) rfl rfl rfl rfl hl.1 rfl (Nat.le_of_ble_eq_true rfl) dX8_strength_17 ⟨Nat.zero_le _, Nat.zero_le _⟩ (fun r hw => ?_)
    subst hw
    refine lv_i2l (v := (nI (fr it1 n1 (sh - 1))).toInt64) hx hb dX8_strength_20 rfl ?_
    refine lv_aload_n hx hb dX8_strength_21 rfl (lv_at hl 0 rfl) ?_
    refine va_get (D := D) (ci := 8) (v := .int (nI sh)) (C := RX8) (T := TX8) (N := 5) hx hb hts iX8 hown hK hP 0 rfl rfl 2 (by decide) (hts (.fieldLink RX8 22 "DeepHole$Well" "shoe" "I") (by decide +kernel)) (fun _ h9 => h9) rfl dX8_strength_22 ?_
    refine lv_i2l (v := (nI sh).toInt64) hx hb dX8_strength_25 rfl ?_
    refine lv_lmul hx hb dX8_strength_26 ?_
    refine lv_goto (tgt := 33) hx hb dX8_strength_27 (by decide) ?_
    exact W.lret (v := ((nI (fr it1 n1 (sh - 1))).toInt64) * ((nI sh).toInt64)) hx hb hr (fun t ht hW => ⟨_, rfl, (by unfold strg; first | rw [if_neg (by omega)] | rw [if_pos (by omega)]), ht⟩) (fun _ h => absurd h List.not_mem_nil) dX8_strength_33

set_option maxHeartbeats 4000000 in
set_option maxRecDepth 100000 in
theorem c_X8_heaviestPore {l : Launch} {D : va_G} {cI cS cP : ClassId} {sz : Nat} {w0 g0 s0 a0 s1 d sh cap sw n0 low high : Nat} {lo0 fo0 : Int32} {it0 : Nat → Int32} (hd : d ≤ 50) (hsh : sh ≤ d) (hn0 : n0 ≤ 60) : Met l yX8_heaviestPore wsX8_heaviestPore ({ frames := 3, cells := 0, slots := 0, locals := 66 }) (PC D (TY cI cS cP) [.ref w0] sz [(w0, .inr (8, [.ref g0, .int (nI d), .int (nI sh), .int (nI cap), .int (nI sw)])), (g0, .inr (3, [.ref s0, .ref s1, .int (nI low), .int (nI high)])), (s0, .inr (6, [.ref a0, .int lo0, .int fo0, .int (nI n0)])), (a0, .inl (cI, 60, .inl it0))]) (vp_Si (fun r => r = iI (hpz it0 n0 sh d))) 0 0 (fun _ => False) := by
  refine Met.ofW (cc := cX8_heaviestPore) (maxL := 3) (ret := (some .int)) (by decide) rfl ?_
  intro p e s m args below meth c s₁ B hml hv
  obtain ⟨rfl, hsz, hP, hK, hD0, hN⟩ := hv
  have hx := B.exec
  have hb := B.bytes
  have hr := B.returns
  have hts := atoms_spec (ws := wsX8_heaviestPore) B.pre
  have hown : s.vm.findClass RX8 = some m.cls := findClass_of_methodNamed B.named
  have hlocks := B.notSynchronized
  subst hsz
  have iX8 : ∀ w ∈ u_ws RX8 TX8 5, w ∈ wsX8_heaviestPore := by decide +kernel
  have hD := hD0
  have hP : va_P D vwCl [(w0, .inr (8, [.ref g0, .int (nI d), .int (nI sh), .int (nI cap), .int (nI sw)])), (g0, .inr (3, [.ref s0, .ref s1, .int (nI low), .int (nI high)])), (s0, .inr (6, [.ref a0, .int lo0, .int fo0, .int (nI n0)])), (a0, .inl (cI, 60, .inl it0))] s.heap := hP
  have hl := lv_entry ([.ref w0]) (n := 3) (Nat.le_of_ble_eq_true rfl)
  rw [lg_entry_eq]
  generalize (lg_sl ([.ref w0]) ++ List.replicate (3 - (lg_sl ([.ref w0])).length) Slot.unset).toArray = ls at hl ⊢
  have hl : lv_has ls 3 [(0, .ref w0)] := hl
  have hpo := po_le it0 n0
  refine lv_ldc hx hb hown (hts (.constant RX8 40 (-2147483648)) (by decide +kernel)) dX8_heaviestPore_0 ?_
  refine lv_eqi (z := iI (hpz it0 n0 sh sh)) ((hpz_0 it0 n0 sh).symm) ?_
  refine lv_istore_n (lv' := [(1, .int (iI (hpz it0 n0 sh sh))), (0, .ref w0)]) hx hb dX8_heaviestPore_2 rfl hl (by decide) rfl (fun ls hl => ?_)
  refine lv_aload_n hx hb dX8_heaviestPore_3 rfl (lv_at hl 1 rfl) ?_
  refine va_get (D := D) (ci := 8) (v := .int (nI sh)) (C := RX8) (T := TX8) (N := 5) hx hb hts iX8 hown hK hP 0 rfl rfl 2 (by decide) (hts (.fieldLink RX8 22 "DeepHole$Well" "shoe" "I") (by decide +kernel)) (fun _ h9 => h9) rfl dX8_heaviestPore_4 ?_
  refine lv_istore_n (lv' := [(2, .int (nI sh)), (1, .int (iI (hpz it0 n0 sh sh))), (0, .ref w0)]) hx hb dX8_heaviestPore_7 rfl hl (by decide) rfl (fun ls hl => ?_)
  refine lp_q (I := fun zz9 ls => ∃ (k : Nat), zz9 = d - k ∧ (sh ≤ k) ∧ (k ≤ d) ∧ lv_has ls 3 [(0, .ref w0), (1, .int (iI (hpz it0 n0 sh k))), (2, .int (nI k))]) ?_ (d - sh) ⟨sh, rfl, (by omega), (by omega), lv_sub hl [2, 1, 0] rfl⟩
  intro n_8 ls ih_8 hI
  obtain ⟨k, hn_8, hks, hk, hl⟩ := hI
  refine lv_iload_n hx hb dX8_heaviestPore_8 rfl (lv_at hl 2 rfl) ?_
  refine lv_aload_n hx hb dX8_heaviestPore_9 rfl (lv_at hl 0 rfl) ?_
  refine va_get (D := D) (ci := 8) (v := .int (nI d)) (C := RX8) (T := TX8) (N := 5) hx hb hts iX8 hown hK hP 0 rfl rfl 1 (by decide) (hts (.fieldLink RX8 25 "DeepHole$Well" "depth" "I") (by decide +kernel)) (fun _ h9 => h9) rfl dX8_heaviestPore_10 ?_
  refine lv_icmp_ge (tgt := 35) hx hb dX8_heaviestPore_13 (by decide) (fun c_13 => ?_) (fun c_13 => ?_)
  ·
    have c_13 := n_ge (a := k) (b := d) c_13 (by omega) (by omega)
    refine lv_iload_n hx hb dX8_heaviestPore_35 rfl (lv_at hl 1 rfl) ?_
    exact W.iret (v := iI (hpz it0 n0 sh k)) hx hb hr (fun t ht hW => ⟨_, rfl, (by rw [show k = d by omega]), ht⟩) (fun _ h => absurd h List.not_mem_nil) dX8_heaviestPore_36
  ·
    have c_13 := n_nge (a := k) (b := d) c_13 (by omega) (by omega)
    refine lv_iload_n hx hb dX8_heaviestPore_16 rfl (lv_at hl 1 rfl) ?_
    refine lv_aload_n hx hb dX8_heaviestPore_17 rfl (lv_at hl 0 rfl) ?_
    refine va_get (D := D) (ci := 8) (v := .ref g0) (C := RX8) (T := TX8) (N := 5) hx hb hts iX8 hown hK hP 0 rfl rfl 0 (by decide) (hts (.fieldLink RX8 18 "DeepHole$Well" "ground" "LDeepHole$Ground;") (by decide +kernel)) (fun _ h9 => h9) rfl dX8_heaviestPore_18 ?_
    refine lv_iload_n hx hb dX8_heaviestPore_21 rfl (lv_at hl 2 rfl) ?_
    refine q_V (wc := [(g0, .inr (3, [.ref s0, .ref s1, .int (nI low), .int (nI high)])), (s0, .inr (6, [.ref a0, .int lo0, .int fo0, .int (nI n0)])), (a0, .inl (cI, 60, .inl it0))]) (b := g0) ⟨hx, hb, hml, hown, hts⟩ [.int (nI k)] [.int (iI (hpz it0 n0 sh k))] (c_X3_poreOf  (by first | assumption | omega) (by first | assumption | omega)) (cwV 1 hts gX8_heaviestPore_X3_poreOf rfl rfl rfl (by decide +kernel) ⟨Nat.le_of_ble_eq_true rfl, Nat.le_of_ble_eq_true rfl⟩) hK hN hP hD [1, 2, 3] rfl (by decide) (ci := 3) rfl rfl rfl rfl hl.1 rfl (Nat.le_of_ble_eq_true rfl) dX8_heaviestPore_22 ⟨Nat.zero_le _, Nat.zero_le _⟩ (fun r hw => ?_)
    subst hw
    refine va_mmax hx hb (hml.trans hl.1.symm) hown (hts (.methodLink RX8 44 Lib.Math.max.name) (by decide +kernel)) (hts (.static Lib.Math.max.name) (by decide +kernel)) (hts (.initialized "java/lang/Math") (by decide +kernel)) (hts (.code Lib.Math.max.name Lib.Math.max.code 2 (some .int)) (by decide +kernel)) (Nat.le_of_ble_eq_true rfl) (Nat.le_of_ble_eq_true rfl) (Nat.zero_le _) (Nat.zero_le _) dX8_heaviestPore_25 ?_
    refine lv_eqi (z := iI (hpz it0 n0 sh (k + 1))) (hpz_s it0 n0 hks) ?_
    refine lv_istore_n (lv' := [(1, .int (iI (hpz it0 n0 sh (k + 1)))), (0, .ref w0), (2, .int (nI k))]) hx hb dX8_heaviestPore_28 rfl hl (by decide) rfl (fun ls hl => ?_)
    refine lv_iinc (v := nI (k + 1)) (lv' := [(2, .int (nI (k + 1))), (1, .int (iI (hpz it0 n0 sh (k + 1)))), (0, .ref w0)]) hx hb dX8_heaviestPore_29 hl (k := 2) rfl (nI_1 _) (by decide) rfl (fun ls hl => ?_)
    refine lv_goto (tgt := 8) hx hb dX8_heaviestPore_32 (by decide) ?_
    exact ih_8 _ _ (by omega) ⟨k + 1, rfl, (by omega), (by omega), lv_sub hl [2, 1, 0] rfl⟩

set_option maxHeartbeats 4000000 in
set_option maxRecDepth 100000 in
theorem c_X8_safeSpeed {l : Launch} {D : va_G} {cI cS cP : ClassId} {sz : Nat} {w0 g0 d sh cap sw m0 b0 : Nat} {pz : Int} (hsw : sw ≤ 1000) (hm : m0 ≤ 3000) (hb0 : b0 ≤ 50) (hpz : -2147483648 ≤ pz ∧ pz < 2147483648) : Met l yX8_safeSpeed wsX8_safeSpeed ({ frames := 0, cells := 0, slots := 0, locals := 0 }) (PC D (TY cI cS cP) [.ref w0, .int (nI m0), .int (nI b0), .int (iI pz)] sz [(w0, .inr (8, [.ref g0, .int (nI d), .int (nI sh), .int (nI cap), .int (nI sw)]))]) (vp_Si (fun r => r = nI (ss sw m0 b0 pz))) 0 0 (fun _ => False) := by
  refine Met.ofW (cc := cX8_safeSpeed) (maxL := 5) (ret := (some .int)) (by decide) rfl ?_
  intro p e s m args below meth c s₁ B hml hv
  obtain ⟨rfl, hsz, hP, hK, hD0, hN⟩ := hv
  have hx := B.exec
  have hb := B.bytes
  have hr := B.returns
  have hts := atoms_spec (ws := wsX8_safeSpeed) B.pre
  have hown : s.vm.findClass RX8 = some m.cls := findClass_of_methodNamed B.named
  have hlocks := B.notSynchronized
  subst hsz
  have iX8 : ∀ w ∈ u_ws RX8 TX8 5, w ∈ wsX8_safeSpeed := by decide +kernel
  have hD := hD0
  have hP : va_P D vwCl [(w0, .inr (8, [.ref g0, .int (nI d), .int (nI sh), .int (nI cap), .int (nI sw)]))] s.heap := hP
  have hl := lv_entry ([.ref w0, .int (nI m0), .int (nI b0), .int (iI pz)]) (n := 5) (Nat.le_of_ble_eq_true rfl)
  rw [lg_entry_eq]
  generalize (lg_sl ([.ref w0, .int (nI m0), .int (nI b0), .int (iI pz)]) ++ List.replicate (5 - (lg_sl ([.ref w0, .int (nI m0), .int (nI b0), .int (iI pz)])).length) Slot.unset).toArray = ls at hl ⊢
  have hl : lv_has ls 5 [(0, .ref w0), (1, .int (nI m0)), (2, .int (nI b0)), (3, .int (iI pz))] := hl
  refine lv_bipush (v := 9) hx hb dX8_safeSpeed_0 (by decide) ?_
  refine lv_istore (lv' := [(4, .int 9), (0, .ref w0), (1, .int (nI m0)), (2, .int (nI b0)), (3, .int (iI pz))]) hx hb dX8_safeSpeed_2 hl (by decide) rfl (fun ls hl => ?_)
  refine lp_q (I := fun zz9 ls => ∃ (v : Nat), zz9 = v ∧ (v ≤ 9) ∧ (ss sw m0 b0 pz = grt (safe sw m0 b0 pz) v) ∧ lv_has ls 5 [(0, .ref w0), (1, .int (nI m0)), (2, .int (nI b0)), (3, .int (iI pz)), (4, .int (nI v))]) ?_ (9) ⟨9, rfl, (by omega), (rfl), lv_sub hl [1, 2, 3, 4, 0] rfl⟩
  intro n_4 ls ih_4 hI
  obtain ⟨v, hn_4, hv, hs, hl⟩ := hI
  have hpr := prod_le (sw := sw) (v := v) (b := b0) hsw hv hb0
  refine lv_iload hx hb dX8_safeSpeed_4 (lv_at hl 4 rfl) ?_
  refine lv_iconst (v := 1) hx hb dX8_safeSpeed_6 (by decide) ?_
  refine lv_icmp_lt (tgt := 38) hx hb dX8_safeSpeed_7 (by decide) (fun c_7 => ?_) (fun c_7 => ?_)
  ·
    have c_7 := n_lt (a := v) (b := 1) c_7 (by omega) (by omega)
    refine lv_iconst (v := 0) hx hb dX8_safeSpeed_38 (by decide) ?_
    exact W.iret (v := 0) hx hb hr (fun t ht hW => ⟨_, rfl, (by rw [hs, show v = 0 by omega]; rfl), ht⟩) (fun _ h => absurd h List.not_mem_nil) dX8_safeSpeed_39
  ·
    have c_7 := n_nlt (a := v) (b := 1) c_7 (by omega) (by omega)
    refine lv_iload_n hx hb dX8_safeSpeed_10 rfl (lv_at hl 1 rfl) ?_
    refine lv_aload_n hx hb dX8_safeSpeed_11 rfl (lv_at hl 0 rfl) ?_
    refine va_get (D := D) (ci := 8) (v := .int (nI sw)) (C := RX8) (T := TX8) (N := 5) hx hb hts iX8 hown hK hP 0 rfl rfl 4 (by decide) (hts (.fieldLink RX8 15 "DeepHole$Well" "swab" "I") (by decide +kernel)) (fun _ h9 => h9) rfl dX8_safeSpeed_12 ?_
    refine lv_iload hx hb dX8_safeSpeed_15 (lv_at hl 4 rfl) ?_
    refine lv_imul hx hb dX8_safeSpeed_17 ?_
    refine lv_eqi (z := nI (sw * v)) (pk_mul _ _) ?_
    refine lv_iload_n hx hb dX8_safeSpeed_18 rfl (lv_at hl 2 rfl) ?_
    refine lv_imul hx hb dX8_safeSpeed_19 ?_
    refine lv_eqi (z := nI ((sw * v) * b0)) (pk_mul _ _) ?_
    refine lv_sipush (v := 1000) hx hb dX8_safeSpeed_20 (by decide) ?_
    refine lv_idiv hx hb dX8_safeSpeed_23 (by decide) ?_
    refine lv_eqi (z := nI (((sw * v) * b0) / 1000)) (pk_div (d := 1000) (by omega) (by decide) (by decide)) ?_
    refine lv_isub hx hb dX8_safeSpeed_24 ?_
    refine lv_eqi (z := iI (((m0 : Nat) : Int) - ((((sw * v) * b0) / 1000 : Nat) : Int))) (nI_subz (m0) (((sw * v) * b0) / 1000)) ?_
    refine lv_iload_n hx hb dX8_safeSpeed_25 rfl (lv_at hl 3 rfl) ?_
    refine lv_icmp_lt (tgt := 32) hx hb dX8_safeSpeed_26 (by decide) (fun c_26 => ?_) (fun c_26 => ?_)
    ·
      have c_26 := z_lt (a := (((m0 : Nat) : Int) - ((((sw * v) * b0) / 1000 : Nat) : Int))) (b := pz) c_26 (iI_toInt (by omega) (by omega)) (iI_toInt (by omega) (by omega))
      refine lv_iinc (v := nI (v - 1)) (lv' := [(4, .int (nI (v - 1))), (0, .ref w0), (1, .int (nI m0)), (2, .int (nI b0)), (3, .int (iI pz))]) hx hb dX8_safeSpeed_32 hl (k := 4) rfl (iinc_m1 (by omega)) (by decide) rfl (fun ls hl => ?_)
      refine lv_goto (tgt := 4) hx hb dX8_safeSpeed_35 (by decide) ?_
      exact ih_4 _ _ (by omega) ⟨v - 1, rfl, (by omega), (by rw [hs]; exact grt_no (by omega) (fun h => by have h := of_decide_eq_true h; omega)), lv_sub hl [1, 2, 3, 4, 0] rfl⟩
    ·
      have c_26 := z_nlt (a := (((m0 : Nat) : Int) - ((((sw * v) * b0) / 1000 : Nat) : Int))) (b := pz) c_26 (iI_toInt (by omega) (by omega)) (iI_toInt (by omega) (by omega))
      refine lv_iload hx hb dX8_safeSpeed_29 (lv_at hl 4 rfl) ?_
      exact W.iret (v := nI v) hx hb hr (fun t ht hW => ⟨_, rfl, (by rw [hs, grt_yes (by omega) (decide_eq_true (by omega))]), ht⟩) (fun _ h => absurd h List.not_mem_nil) dX8_safeSpeed_31

set_option maxHeartbeats 4000000 in
set_option maxRecDepth 100000 in
theorem c_X8_tripTime {l : Launch} {D : va_G} {cI cS cP : ClassId} {sz : Nat} {w0 g0 d sh cap sw m0 : Nat} {pz : Int} (hd : d ≤ 50) (hsw : sw ≤ 1000) (hm : m0 ≤ 3000) (hpz : -2147483648 ≤ pz ∧ pz < 2147483648) : Met l yX8_tripTime wsX8_tripTime ({ frames := 2, cells := 0, slots := 0, locals := 46 }) (PC D (TY cI cS cP) [.ref w0, .int (nI m0), .int (iI pz)] sz [(w0, .inr (8, [.ref g0, .int (nI d), .int (nI sh), .int (nI cap), .int (nI sw)]))]) (vp_Si (fun r => r = iI (trip sw d m0 pz))) 0 0 (fun _ => False) := by
  refine Met.ofW (cc := cX8_tripTime) (maxL := 7) (ret := (some .int)) (by decide) rfl ?_
  intro p e s m args below meth c s₁ B hml hv
  obtain ⟨rfl, hsz, hP, hK, hD0, hN⟩ := hv
  have hx := B.exec
  have hb := B.bytes
  have hr := B.returns
  have hts := atoms_spec (ws := wsX8_tripTime) B.pre
  have hown : s.vm.findClass RX8 = some m.cls := findClass_of_methodNamed B.named
  have hlocks := B.notSynchronized
  subst hsz
  have iX8 : ∀ w ∈ u_ws RX8 TX8 5, w ∈ wsX8_tripTime := by decide +kernel
  have hD := hD0
  have hP : va_P D vwCl [(w0, .inr (8, [.ref g0, .int (nI d), .int (nI sh), .int (nI cap), .int (nI sw)]))] s.heap := hP
  have hl := lv_entry ([.ref w0, .int (nI m0), .int (iI pz)]) (n := 7) (Nat.le_of_ble_eq_true rfl)
  rw [lg_entry_eq]
  generalize (lg_sl ([.ref w0, .int (nI m0), .int (iI pz)]) ++ List.replicate (7 - (lg_sl ([.ref w0, .int (nI m0), .int (iI pz)])).length) Slot.unset).toArray = ls at hl ⊢
  have hl : lv_has ls 7 [(0, .ref w0), (1, .int (nI m0)), (2, .int (iI pz))] := hl
  refine lv_lconst (v := 0) hx hb dX8_tripTime_0 (by decide) ?_
  refine lv_lstore_n (lv' := [(3, .long 0), (0, .ref w0), (1, .int (nI m0)), (2, .int (iI pz))]) hx hb dX8_tripTime_1 rfl hl (by decide) rfl (fun ls hl => ?_)
  refine lv_aload_n hx hb dX8_tripTime_2 rfl (lv_at hl 1 rfl) ?_
  refine va_get (D := D) (ci := 8) (v := .int (nI d)) (C := RX8) (T := TX8) (N := 5) hx hb hts iX8 hown hK hP 0 rfl rfl 1 (by decide) (hts (.fieldLink RX8 25 "DeepHole$Well" "depth" "I") (by decide +kernel)) (fun _ h9 => h9) rfl dX8_tripTime_3 ?_
  refine lv_istore (lv' := [(5, .int (nI d)), (3, .long 0), (0, .ref w0), (1, .int (nI m0)), (2, .int (iI pz))]) hx hb dX8_tripTime_6 hl (by decide) rfl (fun ls hl => ?_)
  refine lp_q (I := fun zz9 ls => ∃ (b acc : Nat), zz9 = b ∧ (b ≤ d) ∧ (trip sw d m0 pz = tt (fun b => ss sw m0 b pz) b acc) ∧ lv_has ls 7 [(0, .ref w0), (1, .int (nI m0)), (2, .int (iI pz)), (3, .long (lI ((acc : Nat) : Int))), (5, .int (nI b))]) ?_ (d) ⟨d, 0, rfl, (by omega), (rfl), lv_sub hl [2, 3, 4, 1, 0] rfl⟩
  intro n_8 ls ih_8 hI
  obtain ⟨b, acc, hn_8, hbd, hs, hl⟩ := hI
  have h9 := ss_le sw m0 b pz
  refine lv_iload hx hb dX8_tripTime_8 (lv_at hl 4 rfl) ?_
  refine lv_iconst (v := 1) hx hb dX8_tripTime_10 (by decide) ?_
  refine lv_icmp_lt (tgt := 54) hx hb dX8_tripTime_11 (by decide) (fun c_11 => ?_) (fun c_11 => ?_)
  ·
    have c_11 := n_lt (a := b) (b := 1) c_11 (by omega) (by omega)
    refine lv_lload_n hx hb dX8_tripTime_54 rfl (lv_at hl 3 rfl) ?_
    refine lv_l2i (v := iI ((acc : Nat) : Int)) hx hb dX8_tripTime_55 (lI_32 _) ?_
    exact W.iret (v := iI ((acc : Nat) : Int)) hx hb hr (fun t ht hW => ⟨_, rfl, (by rw [hs, show b = 0 by omega]; rfl), ht⟩) (fun _ h => absurd h List.not_mem_nil) dX8_tripTime_56
  ·
    have c_11 := n_nlt (a := b) (b := 1) c_11 (by omega) (by omega)
    refine lv_aload_n hx hb dX8_tripTime_14 rfl (lv_at hl 0 rfl) ?_
    refine lv_iload_n hx hb dX8_tripTime_15 rfl (lv_at hl 1 rfl) ?_
    refine lv_iload hx hb dX8_tripTime_16 (lv_at hl 4 rfl) ?_
    refine lv_iload_n hx hb dX8_tripTime_18 rfl (lv_at hl 2 rfl) ?_
    refine q_V (wc := [(w0, .inr (8, [.ref g0, .int (nI d), .int (nI sh), .int (nI cap), .int (nI sw)]))]) (b := w0) ⟨hx, hb, hml, hown, hts⟩ [.int (nI m0), .int (nI b), .int (iI pz)] [] (c_X8_safeSpeed  (by first | assumption | omega) (by first | assumption | omega) (by first | assumption | omega) (by first | assumption | omega)) (cwV 3 hts gX8_tripTime_X8_safeSpeed rfl rfl rfl (by decide +kernel) ⟨Nat.le_of_ble_eq_true rfl, Nat.le_of_ble_eq_true rfl⟩) hK hN hP hD [0] rfl (by decide) (ci := 8) rfl rfl rfl rfl hl.1 rfl (Nat.le_of_ble_eq_true rfl) dX8_tripTime_19 ⟨Nat.zero_le _, Nat.zero_le _⟩ (fun r hw => ?_)
    subst hw
    refine lv_istore (lv' := [(6, .int (nI (ss sw m0 b pz))), (0, .ref w0), (1, .int (nI m0)), (2, .int (iI pz)), (3, .long (lI ((acc : Nat) : Int))), (5, .int (nI b))]) hx hb dX8_tripTime_22 hl (by decide) rfl (fun ls hl => ?_)
    refine lv_iload hx hb dX8_tripTime_24 (lv_at hl 0 rfl) ?_
    refine lv_if_ne (tgt := 36) hx hb dX8_tripTime_26 (by decide) (fun c_26 => ?_) (fun c_26 => ?_)
    ·
      have c_26 := n_ne (a := (ss sw m0 b pz)) (b := 0) c_26 (by omega) (by omega)
      refine lv_lload_n hx hb dX8_tripTime_36 rfl (lv_at hl 4 rfl) ?_
      refine lv_ldc2 hx hb hown (hts (.constantLong RX8 54 (360)) (by decide +kernel)) dX8_tripTime_37 ?_
      refine lv_iload hx hb dX8_tripTime_40 (lv_at hl 0 rfl) ?_
      refine lv_i2l (v := lI (((ss sw m0 b pz) : Nat) : Int)) hx hb dX8_tripTime_42 (nI_64 (by omega)) ?_
      refine q_SNl (tys := TY cI cS cP) (D := D) ⟨hx, hb, hml, hown, hts⟩ [.long (360 : Int64), .long (lI (((ss sw m0 b pz) : Nat) : Int))] [.long (lI ((acc : Nat) : Int))] (c_X9_roundedUp  (cd360 _ h9 c_26)) ⟨va_cnB 2 hts ggX8_tripTime_X9_roundedUp rfl rfl rfl hN.2.2.2.2 (hts (.initialized RX9) (by decide +kernel)) (by decide +kernel) ⟨Nat.le_of_ble_eq_true rfl, Nat.le_of_ble_eq_true rfl⟩, (hts (.static yX9_roundedUp) (by decide +kernel)), trivial⟩ hK hN rfl hl.1 rfl (Nat.le_of_ble_eq_true rfl) dX8_tripTime_43 ⟨Nat.zero_le _, Nat.zero_le _⟩ (fun r hw => ?_)
      subst hw
      refine lv_eql (z := lI (((359 + ss sw m0 b pz) / ss sw m0 b pz : Nat) : Int)) (ru360 _ h9 c_26) ?_
      refine lv_ladd hx hb dX8_tripTime_46 ?_
      refine lv_eql (z := lI (((acc : Nat) : Int) + (((359 + ss sw m0 b pz) / ss sw m0 b pz : Nat) : Int))) (lI_add ((acc : Nat) : Int) (((359 + ss sw m0 b pz) / ss sw m0 b pz : Nat) : Int)) ?_
      refine lv_eql (z := lI ((acc + (359 + ss sw m0 b pz) / ss sw m0 b pz : Nat) : Int)) (rfl) ?_
      refine lv_lstore_n (lv' := [(3, .long (lI ((acc + (359 + ss sw m0 b pz) / ss sw m0 b pz : Nat) : Int))), (6, .int (nI (ss sw m0 b pz))), (0, .ref w0), (1, .int (nI m0)), (2, .int (iI pz)), (5, .int (nI b))]) hx hb dX8_tripTime_47 rfl hl (by decide) rfl (fun ls hl => ?_)
      refine lv_iinc (v := nI (b - 1)) (lv' := [(5, .int (nI (b - 1))), (3, .long (lI ((acc + (359 + ss sw m0 b pz) / ss sw m0 b pz : Nat) : Int))), (6, .int (nI (ss sw m0 b pz))), (0, .ref w0), (1, .int (nI m0)), (2, .int (iI pz))]) hx hb dX8_tripTime_48 hl (k := 5) rfl (iinc_m1 (by omega)) (by decide) rfl (fun ls hl => ?_)
      refine lv_goto (tgt := 8) hx hb dX8_tripTime_51 (by decide) ?_
      exact ih_8 _ _ (by omega) ⟨b - 1, acc + (359 + ss sw m0 b pz) / ss sw m0 b pz, rfl, (by omega), (by rw [hs]; exact tt_go (s := fun b => ss sw m0 b pz) (by omega) c_26), lv_sub hl [3, 4, 5, 1, 0] rfl⟩
    ·
      have c_26 := n_eq (a := (ss sw m0 b pz)) (b := 0) c_26 (by omega) (by omega)
      refine lv_sipush (v := (-1000)) hx hb dX8_tripTime_29 (by decide) ?_
      refine lv_iload hx hb dX8_tripTime_32 (lv_at hl 5 rfl) ?_
      refine lv_isub hx hb dX8_tripTime_34 ?_
      exact W.iret (v := (-1000) - (nI b)) hx hb hr (fun t ht hW => ⟨_, rfl, (by rw [hs, tt_stop (s := fun b => ss sw m0 b pz) (by omega) c_26, ← iI_sub, iI_nat]; rfl), ht⟩) (fun _ h => absurd h List.not_mem_nil) dX8_tripTime_35

set_option maxHeartbeats 4000000 in
set_option maxRecDepth 100000 in
theorem c_X8_isInTime {l : Launch} {D : va_G} {cI cS cP : ClassId} {sz : Nat} {w0 g0 d sh cap sw m0 t0 : Nat} {pz : Int} (hd : d ≤ 50) (hsw : sw ≤ 1000) (hm : m0 ≤ 3000) (hpz : -2147483648 ≤ pz ∧ pz < 2147483648) (ht : t0 ≤ 100000) : Met l yX8_isInTime wsX8_isInTime ({ frames := 3, cells := 0, slots := 0, locals := 72 }) (PC D (TY cI cS cP) [.ref w0, .int (nI m0), .int (iI pz), .int (nI t0)] sz [(w0, .inr (8, [.ref g0, .int (nI d), .int (nI sh), .int (nI cap), .int (nI sw)]))]) (vp_Si (fun r => r = if (0 ≤ trip sw d m0 pz ∧ trip sw d m0 pz ≤ (t0 : Int)) then 1 else 0)) 0 0 (fun _ => False) := by
  refine Met.ofW (cc := cX8_isInTime) (maxL := 5) (ret := (some .boolean)) (by decide) rfl ?_
  intro p e s m args below meth c s₁ B hml hv
  obtain ⟨rfl, hsz, hP, hK, hD0, hN⟩ := hv
  have hx := B.exec
  have hb := B.bytes
  have hr := B.returns
  have hts := atoms_spec (ws := wsX8_isInTime) B.pre
  have hown : s.vm.findClass RX8 = some m.cls := findClass_of_methodNamed B.named
  have hlocks := B.notSynchronized
  subst hsz
  have hD := hD0
  have hP : va_P D vwCl [(w0, .inr (8, [.ref g0, .int (nI d), .int (nI sh), .int (nI cap), .int (nI sw)]))] s.heap := hP
  have hl := lv_entry ([.ref w0, .int (nI m0), .int (iI pz), .int (nI t0)]) (n := 5) (Nat.le_of_ble_eq_true rfl)
  rw [lg_entry_eq]
  generalize (lg_sl ([.ref w0, .int (nI m0), .int (iI pz), .int (nI t0)]) ++ List.replicate (5 - (lg_sl ([.ref w0, .int (nI m0), .int (iI pz), .int (nI t0)])).length) Slot.unset).toArray = ls at hl ⊢
  have hl : lv_has ls 5 [(0, .ref w0), (1, .int (nI m0)), (2, .int (iI pz)), (3, .int (nI t0))] := hl
  have htr := trip_rng (sw := sw) (m := m0) (pz := pz) hd
  refine lv_aload_n hx hb dX8_isInTime_0 rfl (lv_at hl 0 rfl) ?_
  refine lv_iload_n hx hb dX8_isInTime_1 rfl (lv_at hl 1 rfl) ?_
  refine lv_iload_n hx hb dX8_isInTime_2 rfl (lv_at hl 2 rfl) ?_
  refine q_V (wc := [(w0, .inr (8, [.ref g0, .int (nI d), .int (nI sh), .int (nI cap), .int (nI sw)]))]) (b := w0) ⟨hx, hb, hml, hown, hts⟩ [.int (nI m0), .int (iI pz)] [] (c_X8_tripTime  (by first | assumption | omega) (by first | assumption | omega) (by first | assumption | omega) (by first | assumption | omega)) (cwV 2 hts gX8_isInTime_X8_tripTime rfl rfl rfl (by decide +kernel) ⟨Nat.le_of_ble_eq_true rfl, Nat.le_of_ble_eq_true rfl⟩) hK hN hP hD [0] rfl (by decide) (ci := 8) rfl rfl rfl rfl hl.1 rfl (Nat.le_of_ble_eq_true rfl) dX8_isInTime_3 ⟨Nat.zero_le _, Nat.zero_le _⟩ (fun r hw => ?_)
  subst hw
  refine lv_istore (lv' := [(4, .int (iI (trip sw d m0 pz))), (0, .ref w0), (1, .int (nI m0)), (2, .int (iI pz)), (3, .int (nI t0))]) hx hb dX8_isInTime_6 hl (by decide) rfl (fun ls hl => ?_)
  refine lv_iload hx hb dX8_isInTime_8 (lv_at hl 0 rfl) ?_
  refine lv_if_lt (tgt := 23) hx hb dX8_isInTime_10 (by decide) (fun c_10 => ?_) (fun c_10 => ?_)
  ·
    have c_10 := z_lt (a := (trip sw d m0 pz)) (b := (0)) c_10 (iI_toInt (by omega) (by omega)) (by decide)
    refine lv_iconst (v := 0) hx hb dX8_isInTime_23 (by decide) ?_
    exact W.zret (v := 0) hx hb hr (rfl) (fun t ht hW => ⟨_, rfl, (by exact b_0 (by omega)), ht⟩) (fun _ h => absurd h List.not_mem_nil) dX8_isInTime_24
  ·
    have c_10 := z_nlt (a := (trip sw d m0 pz)) (b := (0)) c_10 (iI_toInt (by omega) (by omega)) (by decide)
    refine lv_iload hx hb dX8_isInTime_13 (lv_at hl 0 rfl) ?_
    refine lv_iload_n hx hb dX8_isInTime_15 rfl (lv_at hl 4 rfl) ?_
    refine lv_icmp_gt (tgt := 23) hx hb dX8_isInTime_16 (by decide) (fun c_16 => ?_) (fun c_16 => ?_)
    ·
      have c_16 := z_gt (a := (trip sw d m0 pz)) (b := ((t0 : Nat) : Int)) c_16 (iI_toInt (by omega) (by omega)) (nI_toInt (by omega))
      refine lv_iconst (v := 0) hx hb dX8_isInTime_23 (by decide) ?_
      exact W.zret (v := 0) hx hb hr (rfl) (fun t ht hW => ⟨_, rfl, (by exact b_0 (by omega)), ht⟩) (fun _ h => absurd h List.not_mem_nil) dX8_isInTime_24
    ·
      have c_16 := z_ngt (a := (trip sw d m0 pz)) (b := ((t0 : Nat) : Int)) c_16 (iI_toInt (by omega) (by omega)) (nI_toInt (by omega))
      refine lv_iconst (v := 1) hx hb dX8_isInTime_19 (by decide) ?_
      refine lv_goto (tgt := 24) hx hb dX8_isInTime_20 (by decide) ?_
      exact W.zret (v := 1) hx hb hr (rfl) (fun t ht hW => ⟨_, rfl, (by exact b_1 (by omega)), ht⟩) (fun _ h => absurd h List.not_mem_nil) dX8_isInTime_24
