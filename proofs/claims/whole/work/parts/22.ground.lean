set_option maxHeartbeats 4000000 in
set_option maxRecDepth 100000 in
theorem c_X6_standingAt {l : Launch} {D : va_G} {cI cS cP : ClassId} {sz : Nat} {h0 a0 : Nat} {lo fo : Int32} {n i df : Nat} {it : Nat → Int32} (hn : n ≤ 60) (hi : i < 60) : Met l yX6_standingAt wsX6_standingAt ({ frames := 1, cells := 0, slots := 0, locals := 22 }) (PC D (TY cI cS cP) [.ref h0, .int (nI i), .int (nI df)] sz [(h0, .inr (6, [.ref a0, .int lo, .int fo, .int (nI n)])), (a0, .inl (cI, 60, .inl it))]) (vp_Si (fun r => r = nI (gN it n df (i + 1)))) 0 0 (fun _ => False) := by
  refine Met.ofW (cc := cX6_standingAt) (maxL := 4) (ret := (some .int)) (by decide) rfl ?_
  intro p e s m args below meth c s₁ B hml hv
  obtain ⟨rfl, hsz, hP, hK, hD0, hN⟩ := hv
  have hx := B.exec
  have hb := B.bytes
  have hr := B.returns
  have hts := atoms_spec (ws := wsX6_standingAt) B.pre
  have hown : s.vm.findClass RX6 = some m.cls := findClass_of_methodNamed B.named
  have hlocks := B.notSynchronized
  subst hsz
  have iX6 : ∀ w ∈ u_ws RX6 TX6 4, w ∈ wsX6_standingAt := by decide +kernel
  have hD := hD0
  have hP : va_P D vwCl [(h0, .inr (6, [.ref a0, .int lo, .int fo, .int (nI n)])), (a0, .inl (cI, 60, .inl it))] s.heap := hP
  have hl := lv_entry ([.ref h0, .int (nI i), .int (nI df)]) (n := 4) (Nat.le_of_ble_eq_true rfl)
  rw [lg_entry_eq]
  generalize (lg_sl ([.ref h0, .int (nI i), .int (nI df)]) ++ List.replicate (4 - (lg_sl ([.ref h0, .int (nI i), .int (nI df)])).length) Slot.unset).toArray = ls at hl ⊢
  have hl : lv_has ls 4 [(0, .ref h0), (1, .int (nI i)), (2, .int (nI df))] := hl
  refine lv_iload_n hx hb dX6_standingAt_0 rfl (lv_at hl 1 rfl) ?_
  refine lv_aload_n hx hb dX6_standingAt_1 rfl (lv_at hl 0 rfl) ?_
  refine va_get (D := D) (ci := 6) (v := .int (nI n)) (C := RX6) (T := TX6) (N := 4) hx hb hts iX6 hown hK hP 0 rfl rfl 3 (by decide) (hts (.fieldLink RX6 29 "DeepHole$Sheet" "size" "I") (by decide +kernel)) (fun _ h9 => h9) rfl dX6_standingAt_2 ?_
  refine lv_iconst (v := 1) hx hb dX6_standingAt_5 (by decide) ?_
  refine lv_isub hx hb dX6_standingAt_6 ?_
  refine va_mmin hx hb (hml.trans hl.1.symm) hown (hts (.methodLink RX6 36 Lib.Math.min.name) (by decide +kernel)) (hts (.static Lib.Math.min.name) (by decide +kernel)) (hts (.initialized "java/lang/Math") (by decide +kernel)) (hts (.code Lib.Math.min.name Lib.Math.min.code 2 (some .int)) (by decide +kernel)) (Nat.le_of_ble_eq_true rfl) (Nat.le_of_ble_eq_true rfl) (Nat.zero_le _) (Nat.zero_le _) dX6_standingAt_7 ?_
  refine lv_eqi (z := nI (min (i + 1) n) - 1) (st_min (by omega) (by omega)) ?_
  refine lv_istore_n (lv' := [(3, .int (nI (min (i + 1) n) - 1)), (0, .ref h0), (1, .int (nI i)), (2, .int (nI df))]) hx hb dX6_standingAt_10 rfl hl (by decide) rfl (fun ls hl => ?_)
  refine lp_q (I := fun zz9 ls => ∃ (q : Nat), zz9 = q ∧ (q ≤ n) ∧ (gN it n df (i + 1) = gN it n df q) ∧ lv_has ls 4 [(0, .ref h0), (1, .int (nI i)), (2, .int (nI df)), (3, .int (nI q - 1))]) ?_ ((min (i + 1) n)) ⟨min (i + 1) n, rfl, (by omega), (gN_min), lv_sub hl [1, 2, 3, 0] rfl⟩
  intro n_11 ls ih_11 hI
  obtain ⟨q, hn_11, hq, hs, hl⟩ := hI
  refine lv_iload_n hx hb dX6_standingAt_11 rfl (lv_at hl 3 rfl) ?_
  refine lv_if_lt (tgt := 44) hx hb dX6_standingAt_12 (by decide) (fun c_12 => ?_) (fun c_12 => ?_)
  ·
    have c_12 : q = 0 := (m1_lt (by omega)).mp c_12
    refine lv_iload_n hx hb dX6_standingAt_44 rfl (lv_at hl 2 rfl) ?_
    exact W.iret (v := nI df) hx hb hr (fun t ht hW => ⟨_, rfl, (by rw [hs, c_12]; rfl), ht⟩) (fun _ h => absurd h List.not_mem_nil) dX6_standingAt_45
  ·
    have c_12 : 0 < q := Nat.pos_of_ne_zero (fun h => c_12 ((m1_lt (by omega)).mpr h))
    have hl : lv_has ls 4 [(0, .ref h0), (1, .int (nI i)), (2, .int (nI df)), (3, .int (nI (q - 1)))] := by rw [← m1_n c_12]; exact hl
    refine lv_aload_n hx hb dX6_standingAt_15 rfl (lv_at hl 0 rfl) ?_
    refine va_get (D := D) (ci := 6) (v := .ref a0) (C := RX6) (T := TX6) (N := 4) hx hb hts iX6 hown hK hP 0 rfl rfl 0 (by decide) (hts (.fieldLink RX6 11 "DeepHole$Sheet" "items" "[I") (by decide +kernel)) (fun _ h9 => h9) rfl dX6_standingAt_16 ?_
    refine lv_iload_n hx hb dX6_standingAt_19 rfl (lv_at hl 3 rfl) ?_
    refine rd_i hx hb hK hP 1 0 rfl rfl (k := q - 1) (by omega) (by decide) dX6_standingAt_20 ?_
    refine lv_iconst (v := 0) hx hb dX6_standingAt_21 (by decide) ?_
    refine lv_sipush (v := 3000) hx hb dX6_standingAt_22 (by decide) ?_
    refine q_SN (tys := TY cI cS cP) (D := D) ⟨hx, hb, hml, hown, hts⟩ [.int (it (q - 1)), .int (0 : Int32), .int (3000 : Int32)] [] c_X9_within ⟨va_cnB 3 hts ggX6_standingAt_X9_within rfl rfl rfl hN.2.2.2.1 (hts (.initialized RX9) (by decide +kernel)) (by decide +kernel) ⟨Nat.le_of_ble_eq_true rfl, Nat.le_of_ble_eq_true rfl⟩, (hts (.static yX9_within) (by decide +kernel)), trivial⟩ hK hN rfl hl.1 rfl (Nat.le_of_ble_eq_true rfl) dX6_standingAt_25 ⟨Nat.zero_le _, Nat.zero_le _⟩ (fun r hw => ?_)
    subst hw
    refine lv_if_eq (tgt := 38) hx hb dX6_standingAt_28 (by decide) (fun c_28 => ?_) (fun c_28 => ?_)
    ·
      have c_28 := bz c_28
      refine lv_iinc (v := nI (q - 1) - 1) (lv' := [(3, .int (nI (q - 1) - 1)), (0, .ref h0), (1, .int (nI i)), (2, .int (nI df))]) hx hb dX6_standingAt_38 hl (k := 3) rfl m1_m (by decide) rfl (fun ls hl => ?_)
      refine lv_goto (tgt := 11) hx hb dX6_standingAt_41 (by decide) ?_
      exact ih_11 _ _ (by omega) ⟨q - 1, rfl, (by omega), (by rw [hs]; exact gN_miss c_12 c_28), lv_sub hl [1, 2, 3, 0] rfl⟩
    ·
      have c_28 := bnz c_28
      refine lv_aload_n hx hb dX6_standingAt_31 rfl (lv_at hl 0 rfl) ?_
      refine va_get (D := D) (ci := 6) (v := .ref a0) (C := RX6) (T := TX6) (N := 4) hx hb hts iX6 hown hK hP 0 rfl rfl 0 (by decide) (hts (.fieldLink RX6 11 "DeepHole$Sheet" "items" "[I") (by decide +kernel)) (fun _ h9 => h9) rfl dX6_standingAt_32 ?_
      refine lv_iload_n hx hb dX6_standingAt_35 rfl (lv_at hl 3 rfl) ?_
      refine rd_i hx hb hK hP 1 0 rfl rfl (k := q - 1) (by omega) (by decide) dX6_standingAt_36 ?_
      exact W.iret (v := it (q - 1)) hx hb hr (fun t ht hW => ⟨_, rfl, (by rw [hs]; exact gN_hit c_12 hq c_28), ht⟩) (fun _ h => absurd h List.not_mem_nil) dX6_standingAt_37

set_option maxHeartbeats 4000000 in
set_option maxRecDepth 100000 in
theorem c_X3_poreOf {l : Launch} {D : va_G} {cI cS cP : ClassId} {sz : Nat} {g0 s0 a0 s1 : Nat} {lo0 fo0 : Int32} {n0 low high i : Nat} {it0 : Nat → Int32} (hn0 : n0 ≤ 60) (hi : i < 60) : Met l yX3_poreOf wsX3_poreOf ({ frames := 2, cells := 0, slots := 0, locals := 45 }) (PC D (TY cI cS cP) [.ref g0, .int (nI i)] sz [(g0, .inr (3, [.ref s0, .ref s1, .int (nI low), .int (nI high)])), (s0, .inr (6, [.ref a0, .int lo0, .int fo0, .int (nI n0)])), (a0, .inl (cI, 60, .inl it0))]) (vp_Si (fun r => r = nI (po it0 n0 i))) 0 0 (fun _ => False) := by
  refine Met.ofW (cc := cX3_poreOf) (maxL := 2) (ret := (some .int)) (by decide) rfl ?_
  intro p e s m args below meth c s₁ B hml hv
  obtain ⟨rfl, hsz, hP, hK, hD0, hN⟩ := hv
  have hx := B.exec
  have hb := B.bytes
  have hr := B.returns
  have hts := atoms_spec (ws := wsX3_poreOf) B.pre
  have hown : s.vm.findClass RX3 = some m.cls := findClass_of_methodNamed B.named
  have hlocks := B.notSynchronized
  subst hsz
  have iX3 : ∀ w ∈ u_ws RX3 TX3 4, w ∈ wsX3_poreOf := by decide +kernel
  have hD := hD0
  have hP : va_P D vwCl [(g0, .inr (3, [.ref s0, .ref s1, .int (nI low), .int (nI high)])), (s0, .inr (6, [.ref a0, .int lo0, .int fo0, .int (nI n0)])), (a0, .inl (cI, 60, .inl it0))] s.heap := hP
  have hl := lv_entry ([.ref g0, .int (nI i)]) (n := 2) (Nat.le_of_ble_eq_true rfl)
  rw [lg_entry_eq]
  generalize (lg_sl ([.ref g0, .int (nI i)]) ++ List.replicate (2 - (lg_sl ([.ref g0, .int (nI i)])).length) Slot.unset).toArray = ls at hl ⊢
  have hl : lv_has ls 2 [(0, .ref g0), (1, .int (nI i))] := hl
  refine lv_aload_n hx hb dX3_poreOf_0 rfl (lv_at hl 0 rfl) ?_
  refine va_get (D := D) (ci := 3) (v := .ref s0) (C := RX3) (T := TX3) (N := 4) hx hb hts iX3 hown hK hP 0 rfl rfl 0 (by decide) (hts (.fieldLink RX3 9 "DeepHole$Ground" "pores" "LDeepHole$Sheet;") (by decide +kernel)) (fun _ h9 => h9) rfl dX3_poreOf_1 ?_
  refine lv_iload_n hx hb dX3_poreOf_4 rfl (lv_at hl 1 rfl) ?_
  refine lv_iconst (v := 0) hx hb dX3_poreOf_5 (by decide) ?_
  refine q_V (wc := [(s0, .inr (6, [.ref a0, .int lo0, .int fo0, .int (nI n0)])), (a0, .inl (cI, 60, .inl it0))]) (b := s0) ⟨hx, hb, hml, hown, hts⟩ [.int (nI i), .int (nI 0)] [] (c_X6_standingAt  (by first | assumption | omega) (by first | assumption | omega)) (cwV 2 hts gX3_poreOf_X6_standingAt rfl rfl rfl (by decide +kernel) ⟨Nat.le_of_ble_eq_true rfl, Nat.le_of_ble_eq_true rfl⟩) hK hN hP hD [1, 2] rfl (by decide) (ci := 6) rfl rfl rfl rfl hl.1 rfl (Nat.le_of_ble_eq_true rfl) dX3_poreOf_6 ⟨Nat.zero_le _, Nat.zero_le _⟩ (fun r hw => ?_)
  subst hw
  exact W.iret (v := nI (gN it0 n0 0 (i + 1))) hx hb hr (fun t ht hW => ⟨_, rfl, (by rfl), ht⟩) (fun _ h => absurd h List.not_mem_nil) dX3_poreOf_9

set_option maxHeartbeats 4000000 in
set_option maxRecDepth 100000 in
theorem c_X3_fracOf {l : Launch} {D : va_G} {cI cS cP : ClassId} {sz : Nat} {g0 s0 s1 a1 : Nat} {lo1 fo1 : Int32} {n1 low high i : Nat} {it1 : Nat → Int32} (hn1 : n1 ≤ 60) (hi : i < 60) : Met l yX3_fracOf wsX3_fracOf ({ frames := 2, cells := 0, slots := 0, locals := 45 }) (PC D (TY cI cS cP) [.ref g0, .int (nI i)] sz [(g0, .inr (3, [.ref s0, .ref s1, .int (nI low), .int (nI high)])), (s1, .inr (6, [.ref a1, .int lo1, .int fo1, .int (nI n1)])), (a1, .inl (cI, 60, .inl it1))]) (vp_Si (fun r => r = nI (fr it1 n1 i))) 0 0 (fun _ => False) := by
  refine Met.ofW (cc := cX3_fracOf) (maxL := 2) (ret := (some .int)) (by decide) rfl ?_
  intro p e s m args below meth c s₁ B hml hv
  obtain ⟨rfl, hsz, hP, hK, hD0, hN⟩ := hv
  have hx := B.exec
  have hb := B.bytes
  have hr := B.returns
  have hts := atoms_spec (ws := wsX3_fracOf) B.pre
  have hown : s.vm.findClass RX3 = some m.cls := findClass_of_methodNamed B.named
  have hlocks := B.notSynchronized
  subst hsz
  have iX3 : ∀ w ∈ u_ws RX3 TX3 4, w ∈ wsX3_fracOf := by decide +kernel
  have hD := hD0
  have hP : va_P D vwCl [(g0, .inr (3, [.ref s0, .ref s1, .int (nI low), .int (nI high)])), (s1, .inr (6, [.ref a1, .int lo1, .int fo1, .int (nI n1)])), (a1, .inl (cI, 60, .inl it1))] s.heap := hP
  have hl := lv_entry ([.ref g0, .int (nI i)]) (n := 2) (Nat.le_of_ble_eq_true rfl)
  rw [lg_entry_eq]
  generalize (lg_sl ([.ref g0, .int (nI i)]) ++ List.replicate (2 - (lg_sl ([.ref g0, .int (nI i)])).length) Slot.unset).toArray = ls at hl ⊢
  have hl : lv_has ls 2 [(0, .ref g0), (1, .int (nI i))] := hl
  refine lv_aload_n hx hb dX3_fracOf_0 rfl (lv_at hl 0 rfl) ?_
  refine va_get (D := D) (ci := 3) (v := .ref s1) (C := RX3) (T := TX3) (N := 4) hx hb hts iX3 hown hK hP 0 rfl rfl 1 (by decide) (hts (.fieldLink RX3 15 "DeepHole$Ground" "fracs" "LDeepHole$Sheet;") (by decide +kernel)) (fun _ h9 => h9) rfl dX3_fracOf_1 ?_
  refine lv_iload_n hx hb dX3_fracOf_4 rfl (lv_at hl 1 rfl) ?_
  refine lv_sipush (v := 3000) hx hb dX3_fracOf_5 (by decide) ?_
  refine q_V (wc := [(s1, .inr (6, [.ref a1, .int lo1, .int fo1, .int (nI n1)])), (a1, .inl (cI, 60, .inl it1))]) (b := s1) ⟨hx, hb, hml, hown, hts⟩ [.int (nI i), .int (nI 3000)] [] (c_X6_standingAt  (by first | assumption | omega) (by first | assumption | omega)) (cwV 2 hts gX3_fracOf_X6_standingAt rfl rfl rfl (by decide +kernel) ⟨Nat.le_of_ble_eq_true rfl, Nat.le_of_ble_eq_true rfl⟩) hK hN hP hD [1, 2] rfl (by decide) (ci := 6) rfl rfl rfl rfl hl.1 rfl (Nat.le_of_ble_eq_true rfl) dX3_fracOf_8 ⟨Nat.zero_le _, Nat.zero_le _⟩ (fun r hw => ?_)
  subst hw
  exact W.iret (v := nI (gN it1 n1 3000 (i + 1))) hx hb hr (fun t ht hW => ⟨_, rfl, (by rfl), ht⟩) (fun _ h => absurd h List.not_mem_nil) dX3_fracOf_11

set_option maxHeartbeats 4000000 in
set_option maxRecDepth 100000 in
theorem c_X3_holds {l : Launch} {D : va_G} {cI cS cP : ClassId} {sz : Nat} {g0 s0 a0 s1 a1 : Nat} {lo0 fo0 lo1 fo1 : Int32} {n0 n1 low high : Nat} {it0 it1 : Nat → Int32} {m0 i : Nat} (hn0 : n0 ≤ 60) (hn1 : n1 ≤ 60) (hlow : low ≤ 500) (hhigh : high ≤ 500) (hm : m0 ≤ 3000) (hi : i < 60) : Met l yX3_holds wsX3_holds ({ frames := 3, cells := 0, slots := 0, locals := 66 }) (PC D (TY cI cS cP) [.ref g0, .int (nI m0), .int (nI i)] sz [(g0, .inr (3, [.ref s0, .ref s1, .int (nI low), .int (nI high)])), (s0, .inr (6, [.ref a0, .int lo0, .int fo0, .int (nI n0)])), (a0, .inl (cI, 60, .inl it0)), (s1, .inr (6, [.ref a1, .int lo1, .int fo1, .int (nI n1)])), (a1, .inl (cI, 60, .inl it1))]) (vp_Si (fun r => r = if (po it0 n0 i + low ≤ m0 ∧ m0 + high ≤ fr it1 n1 i) then 1 else 0)) 0 0 (fun _ => False) := by
  refine Met.ofW (cc := cX3_holds) (maxL := 3) (ret := (some .boolean)) (by decide) rfl ?_
  intro p e s m args below meth c s₁ B hml hv
  obtain ⟨rfl, hsz, hP, hK, hD0, hN⟩ := hv
  have hx := B.exec
  have hb := B.bytes
  have hr := B.returns
  have hts := atoms_spec (ws := wsX3_holds) B.pre
  have hown : s.vm.findClass RX3 = some m.cls := findClass_of_methodNamed B.named
  have hlocks := B.notSynchronized
  subst hsz
  have iX3 : ∀ w ∈ u_ws RX3 TX3 4, w ∈ wsX3_holds := by decide +kernel
  have hD := hD0
  have hP : va_P D vwCl [(g0, .inr (3, [.ref s0, .ref s1, .int (nI low), .int (nI high)])), (s0, .inr (6, [.ref a0, .int lo0, .int fo0, .int (nI n0)])), (a0, .inl (cI, 60, .inl it0)), (s1, .inr (6, [.ref a1, .int lo1, .int fo1, .int (nI n1)])), (a1, .inl (cI, 60, .inl it1))] s.heap := hP
  have hl := lv_entry ([.ref g0, .int (nI m0), .int (nI i)]) (n := 3) (Nat.le_of_ble_eq_true rfl)
  rw [lg_entry_eq]
  generalize (lg_sl ([.ref g0, .int (nI m0), .int (nI i)]) ++ List.replicate (3 - (lg_sl ([.ref g0, .int (nI m0), .int (nI i)])).length) Slot.unset).toArray = ls at hl ⊢
  have hl : lv_has ls 3 [(0, .ref g0), (1, .int (nI m0)), (2, .int (nI i))] := hl
  have hpo := po_le it0 n0 i
  have hfr := fr_le it1 n1 i
  refine lv_iload_n hx hb dX3_holds_0 rfl (lv_at hl 1 rfl) ?_
  refine lv_aload_n hx hb dX3_holds_1 rfl (lv_at hl 0 rfl) ?_
  refine lv_iload_n hx hb dX3_holds_2 rfl (lv_at hl 2 rfl) ?_
  refine q_V (wc := [(g0, .inr (3, [.ref s0, .ref s1, .int (nI low), .int (nI high)])), (s0, .inr (6, [.ref a0, .int lo0, .int fo0, .int (nI n0)])), (a0, .inl (cI, 60, .inl it0))]) (b := g0) ⟨hx, hb, hml, hown, hts⟩ [.int (nI i)] [.int (nI m0)] (c_X3_poreOf  (by first | assumption | omega) (by first | assumption | omega)) (cwV 1 hts gX3_holds_X3_poreOf rfl rfl rfl (by decide +kernel) ⟨Nat.le_of_ble_eq_true rfl, Nat.le_of_ble_eq_true rfl⟩) hK hN hP hD [0, 1, 2] rfl (by decide) (ci := 3) rfl rfl rfl rfl hl.1 rfl (Nat.le_of_ble_eq_true rfl) dX3_holds_3 ⟨Nat.zero_le _, Nat.zero_le _⟩ (fun r hw => ?_)
  subst hw
  refine lv_aload_n hx hb dX3_holds_6 rfl (lv_at hl 0 rfl) ?_
  refine va_get (D := D) (ci := 3) (v := .int (nI low)) (C := RX3) (T := TX3) (N := 4) hx hb hts iX3 hown hK hP 0 rfl rfl 2 (by decide) (hts (.fieldLink RX3 28 "DeepHole$Ground" "low" "I") (by decide +kernel)) (fun _ h9 => h9) rfl dX3_holds_7 ?_
  refine lv_iadd hx hb dX3_holds_10 ?_
  refine lv_eqi (z := nI ((po it0 n0 i) + low)) (nI_add _ _) ?_
  refine lv_icmp_lt (tgt := 32) hx hb dX3_holds_11 (by decide) (fun c_11 => ?_) (fun c_11 => ?_)
  ·
    have c_11 := n_lt (a := m0) (b := ((po it0 n0 i) + low)) c_11 (by omega) (by omega)
    refine lv_iconst (v := 0) hx hb dX3_holds_32 (by decide) ?_
    exact W.zret (v := 0) hx hb hr (rfl) (fun t ht hW => ⟨_, rfl, (by exact b_0 (by omega)), ht⟩) (fun _ h => absurd h List.not_mem_nil) dX3_holds_33
  ·
    have c_11 := n_nlt (a := m0) (b := ((po it0 n0 i) + low)) c_11 (by omega) (by omega)
    refine lv_iload_n hx hb dX3_holds_14 rfl (lv_at hl 1 rfl) ?_
    refine lv_aload_n hx hb dX3_holds_15 rfl (lv_at hl 0 rfl) ?_
    refine lv_iload_n hx hb dX3_holds_16 rfl (lv_at hl 2 rfl) ?_
    refine q_V (wc := [(g0, .inr (3, [.ref s0, .ref s1, .int (nI low), .int (nI high)])), (s1, .inr (6, [.ref a1, .int lo1, .int fo1, .int (nI n1)])), (a1, .inl (cI, 60, .inl it1))]) (b := g0) ⟨hx, hb, hml, hown, hts⟩ [.int (nI i)] [.int (nI m0)] (c_X3_fracOf  (by first | assumption | omega) (by first | assumption | omega)) (cwV 1 hts gX3_holds_X3_fracOf rfl rfl rfl (by decide +kernel) ⟨Nat.le_of_ble_eq_true rfl, Nat.le_of_ble_eq_true rfl⟩) hK hN hP hD [0, 3, 4] rfl (by decide) (ci := 3) rfl rfl rfl rfl hl.1 rfl (Nat.le_of_ble_eq_true rfl) dX3_holds_17 ⟨Nat.zero_le _, Nat.zero_le _⟩ (fun r hw => ?_)
    subst hw
    refine lv_aload_n hx hb dX3_holds_20 rfl (lv_at hl 0 rfl) ?_
    refine va_get (D := D) (ci := 3) (v := .int (nI high)) (C := RX3) (T := TX3) (N := 4) hx hb hts iX3 hown hK hP 0 rfl rfl 3 (by decide) (hts (.fieldLink RX3 35 "DeepHole$Ground" "high" "I") (by decide +kernel)) (fun _ h9 => h9) rfl dX3_holds_21 ?_
    refine lv_isub hx hb dX3_holds_24 ?_
    refine lv_eqi (z := iI ((((fr it1 n1 i) : Nat) : Int) - ((high : Nat) : Int))) (nI_subz ((fr it1 n1 i)) (high)) ?_
    refine lv_icmp_gt (tgt := 32) hx hb dX3_holds_25 (by decide) (fun c_25 => ?_) (fun c_25 => ?_)
    ·
      have c_25 := z_gt (a := ((m0 : Nat) : Int)) (b := ((((fr it1 n1 i) : Nat) : Int) - ((high : Nat) : Int))) c_25 (nI_toInt (by omega)) (iI_toInt (by omega) (by omega))
      refine lv_iconst (v := 0) hx hb dX3_holds_32 (by decide) ?_
      exact W.zret (v := 0) hx hb hr (rfl) (fun t ht hW => ⟨_, rfl, (by exact b_0 (by omega)), ht⟩) (fun _ h => absurd h List.not_mem_nil) dX3_holds_33
    ·
      have c_25 := z_ngt (a := ((m0 : Nat) : Int)) (b := ((((fr it1 n1 i) : Nat) : Int) - ((high : Nat) : Int))) c_25 (nI_toInt (by omega)) (iI_toInt (by omega) (by omega))
      refine lv_iconst (v := 1) hx hb dX3_holds_28 (by decide) ?_
      refine lv_goto (tgt := 33) hx hb dX3_holds_29 (by decide) ?_
      exact W.zret (v := 1) hx hb hr (rfl) (fun t ht hW => ⟨_, rfl, (by exact b_1 (by omega)), ht⟩) (fun _ h => absurd h List.not_mem_nil) dX3_holds_33

set_option maxHeartbeats 4000000 in
set_option maxRecDepth 100000 in
theorem c_X3_widest {l : Launch} {D : va_G} {cI cS cP : ClassId} {sz : Nat} {g0 s0 s1 sp low high : Nat} {a b : Int64}  : Met l yX3_widest wsX3_widest ({ frames := 1, cells := 0, slots := 0, locals := 24 }) (PC D (TY cI cS cP) [.ref g0, .ref sp] sz [(g0, .inr (3, [.ref s0, .ref s1, .int (nI low), .int (nI high)])), (sp, .inr (7, [.long a, .long b]))]) (QV D (fun (u : Unit) => True) (fun (u : Unit) => [(g0, .inr (3, [.ref s0, .ref s1, .int (nI low), .int (nI high)])), (sp, .inr (7, [.long 0, .long 3000]))]) (va_A [(g0, .inr (3, [.ref s0, .ref s1, .int (nI low), .int (nI high)])), (sp, .inr (7, [.long a, .long b]))] sz)) 0 0 (va_A [(g0, .inr (3, [.ref s0, .ref s1, .int (nI low), .int (nI high)])), (sp, .inr (7, [.long a, .long b]))] sz) := by
  refine Met.ofW (cc := cX3_widest) (maxL := 2) (ret := none) (by decide) rfl ?_
  intro p e s m args below meth c s₁ B hml hv
  obtain ⟨rfl, hsz, hP, hK, hD0, hN⟩ := hv
  have hx := B.exec
  have hb := B.bytes
  have hr := B.returns
  have hts := atoms_spec (ws := wsX3_widest) B.pre
  have hown : s.vm.findClass RX3 = some m.cls := findClass_of_methodNamed B.named
  have hlocks := B.notSynchronized
  subst hsz
  have hD := hD0.self (sz := s.heap.size)
  generalize hAe : va_A [(g0, .inr (3, [.ref s0, .ref s1, .int (nI low), .int (nI high)])), (sp, .inr (7, [.long a, .long b]))] s.heap.size = A at hD ⊢
  have hA : ∀ q : Nat, s.heap.size ≤ q → A q := fun q h => by rw [← hAe]; exact Or.inr h
  have hS : va_S A s.heap s.heap [] := va_S.rf
  have hP : va_P D vwCl [(g0, .inr (3, [.ref s0, .ref s1, .int (nI low), .int (nI high)])), (sp, .inr (7, [.long a, .long b]))] s.heap := hP
  have hl := lv_entry ([.ref g0, .ref sp]) (n := 2) (Nat.le_of_ble_eq_true rfl)
  rw [lg_entry_eq]
  generalize (lg_sl ([.ref g0, .ref sp]) ++ List.replicate (2 - (lg_sl ([.ref g0, .ref sp])).length) Slot.unset).toArray = ls at hl ⊢
  have hl : lv_has ls 2 [(0, .ref g0), (1, .ref sp)] := hl
  refine lv_aload_n hx hb dX3_widest_0 rfl (lv_at hl 1 rfl) ?_
  refine lv_lconst (v := 0) hx hb dX3_widest_1 (by decide) ?_
  refine lv_ldc2 hx hb hown (hts (.constantLong RX3 38 (3000)) (by decide +kernel)) dX3_widest_2 ?_
  refine w_Vv (wc := [(sp, .inr (7, [.long a, .long b]))]) (wr := [(g0, .inr (3, [.ref s0, .ref s1, .int (nI low), .int (nI high)]))]) (b := sp) ⟨hx, hb, hml, hown, hts⟩ [.long (0 : Int64), .long (3000 : Int64)] [] c_X7_become (cwV 2 hts gX3_widest_X7_become rfl rfl rfl (by decide +kernel) ⟨Nat.le_of_ble_eq_true rfl, Nat.le_of_ble_eq_true rfl⟩) hK hN hP hD hS hA [1] [0] rfl (by decide) rfl (by decide) (by decide) (ci := 7) rfl rfl rfl rfl hl.1 rfl (Nat.le_of_ble_eq_true rfl) dX3_widest_5 ⟨Nat.zero_le _, Nat.zero_le _⟩ (fun u H locs hw hP hD hS => ?_)
  have hP : va_P D vwCl [(g0, .inr (3, [.ref s0, .ref s1, .int (nI low), .int (nI high)])), (sp, .inr (7, [.long (0 : Int64), .long (3000 : Int64)]))] H := hP
  have hD : va_D A [(g0, .inr (3, [.ref s0, .ref s1, .int (nI low), .int (nI high)])), (sp, .inr (7, [.long (0 : Int64), .long (3000 : Int64)]))] := hD
  have hP9 := hP.sub (ws' := [(g0, .inr (3, [.ref s0, .ref s1, .int (nI low), .int (nI high)])), (sp, .inr (7, [.long (0 : Int64), .long (3000 : Int64)]))]) [0, 1] rfl
  have hD9 := hD.sub (ws' := [(g0, .inr (3, [.ref s0, .ref s1, .int (nI low), .int (nI high)])), (sp, .inr (7, [.long (0 : Int64), .long (3000 : Int64)]))]) [0, 1] (by decide) rfl
  exact W.vret hx hb hr (fun t ht hW => ⟨⟨(), rfl, (trivial), by rw [ht]; exact hP9, hD9⟩, hS.F ht⟩) hS.2.2 dX3_widest_8
