set_option maxHeartbeats 4000000 in
set_option maxRecDepth 100000 in
theorem c_X8_lightestInTime {l : Launch} {D : va_G} {cI cS cP : ClassId} {sz : Nat} {w0 g0 s0 a0 s1 d sh cap sw n0 low high lt hv t0 : Nat} {lo0 fo0 : Int32} {it0 : Nat → Int32} (hd : d ≤ 50) (hsh : sh ≤ d) (hn0 : n0 ≤ 60) (hsw : sw ≤ 1000) (hlh : lt ≤ hv) (hhv : hv ≤ 3000) (ht : t0 ≤ 100000) : Met l yX8_lightestInTime wsX8_lightestInTime ({ frames := 4, cells := 0, slots := 0, locals := 96 }) (PC D (TY cI cS cP) [.ref w0, .int (nI lt), .int (nI hv), .int (nI t0)] sz [(w0, .inr (8, [.ref g0, .int (nI d), .int (nI sh), .int (nI cap), .int (nI sw)])), (g0, .inr (3, [.ref s0, .ref s1, .int (nI low), .int (nI high)])), (s0, .inr (6, [.ref a0, .int lo0, .int fo0, .int (nI n0)])), (a0, .inl (cI, 60, .inl it0))]) (vp_Si (fun r => r = fst1 (inTime sw d t0 (hpz it0 n0 sh d)) lt (hv + 1 - lt))) 0 0 (fun _ => False) := by
  refine Met.ofW (cc := cX8_lightestInTime) (maxL := 9) (ret := (some .int)) (by decide) rfl ?_
  intro p e s m args below meth c s₁ B hml hv
  obtain ⟨rfl, hsz, hP, hK, hD0, hN⟩ := hv
  have hx := B.exec
  have hb := B.bytes
  have hr := B.returns
  have hts := atoms_spec (ws := wsX8_lightestInTime) B.pre
  have hown : s.vm.findClass RX8 = some m.cls := findClass_of_methodNamed B.named
  have hlocks := B.notSynchronized
  subst hsz
  have hD := hD0
  have hP : va_P D vwCl [(w0, .inr (8, [.ref g0, .int (nI d), .int (nI sh), .int (nI cap), .int (nI sw)])), (g0, .inr (3, [.ref s0, .ref s1, .int (nI low), .int (nI high)])), (s0, .inr (6, [.ref a0, .int lo0, .int fo0, .int (nI n0)])), (a0, .inl (cI, 60, .inl it0))] s.heap := hP
  have hl := lv_entry ([.ref w0, .int (nI lt), .int (nI hv), .int (nI t0)]) (n := 9) (Nat.le_of_ble_eq_true rfl)
  rw [lg_entry_eq]
  generalize (lg_sl ([.ref w0, .int (nI lt), .int (nI hv), .int (nI t0)]) ++ List.replicate (9 - (lg_sl ([.ref w0, .int (nI lt), .int (nI hv), .int (nI t0)])).length) Slot.unset).toArray = ls at hl ⊢
  have hl : lv_has ls 9 [(0, .ref w0), (1, .int (nI lt)), (2, .int (nI hv)), (3, .int (nI t0))] := hl
  have hpzr := hpz_rng it0 n0 sh d
  refine lv_aload_n hx hb dX8_lightestInTime_0 rfl (lv_at hl 0 rfl) ?_
  refine q_V (wc := [(w0, .inr (8, [.ref g0, .int (nI d), .int (nI sh), .int (nI cap), .int (nI sw)])), (g0, .inr (3, [.ref s0, .ref s1, .int (nI low), .int (nI high)])), (s0, .inr (6, [.ref a0, .int lo0, .int fo0, .int (nI n0)])), (a0, .inl (cI, 60, .inl it0))]) (b := w0) ⟨hx, hb, hml, hown, hts⟩ [] [] (c_X8_heaviestPore  (by first | assumption | omega) (by first | assumption | omega) (by first | assumption | omega)) (cwV 0 hts gX8_lightestInTime_X8_heaviestPore rfl rfl rfl (by decide +kernel) ⟨Nat.le_of_ble_eq_true rfl, Nat.le_of_ble_eq_true rfl⟩) hK hN hP hD [0, 1, 2, 3] rfl (by decide) (ci := 8) rfl rfl rfl rfl hl.1 rfl (Nat.le_of_ble_eq_true rfl) dX8_lightestInTime_1 ⟨Nat.zero_le _, Nat.zero_le _⟩ (fun r hw => ?_)
  subst hw
  refine lv_istore (lv' := [(4, .int (iI (hpz it0 n0 sh d))), (0, .ref w0), (1, .int (nI lt)), (2, .int (nI hv)), (3, .int (nI t0))]) hx hb dX8_lightestInTime_4 hl (by decide) rfl (fun ls hl => ?_)
  refine lv_aload_n hx hb dX8_lightestInTime_6 rfl (lv_at hl 1 rfl) ?_
  refine lv_iload_n hx hb dX8_lightestInTime_7 rfl (lv_at hl 3 rfl) ?_
  refine lv_iload hx hb dX8_lightestInTime_8 (lv_at hl 0 rfl) ?_
  refine lv_iload_n hx hb dX8_lightestInTime_10 rfl (lv_at hl 4 rfl) ?_
  refine q_V (wc := [(w0, .inr (8, [.ref g0, .int (nI d), .int (nI sh), .int (nI cap), .int (nI sw)]))]) (b := w0) ⟨hx, hb, hml, hown, hts⟩ [.int (nI hv), .int (iI (hpz it0 n0 sh d)), .int (nI t0)] [] (c_X8_isInTime  (by first | assumption | omega) (by first | assumption | omega) (by first | assumption | omega) (by first | assumption | omega) (by first | assumption | omega)) (cwV 3 hts gX8_lightestInTime_X8_isInTime rfl rfl rfl (by decide +kernel) ⟨Nat.le_of_ble_eq_true rfl, Nat.le_of_ble_eq_true rfl⟩) hK hN hP hD [0] rfl (by decide) (ci := 8) rfl rfl rfl rfl hl.1 rfl (Nat.le_of_ble_eq_true rfl) dX8_lightestInTime_11 ⟨Nat.zero_le _, Nat.zero_le _⟩ (fun r hw => ?_)
  subst hw
  refine lv_if_ne (tgt := 20) hx hb dX8_lightestInTime_14 (by decide) (fun c_14 => ?_) (fun c_14 => ?_)
  ·
    have c_14 := bnz c_14
    refine lv_iload_n hx hb dX8_lightestInTime_20 rfl (lv_at hl 2 rfl) ?_
    refine lv_istore (lv' := [(5, .int (nI lt)), (4, .int (iI (hpz it0 n0 sh d))), (0, .ref w0), (1, .int (nI lt)), (2, .int (nI hv)), (3, .int (nI t0))]) hx hb dX8_lightestInTime_21 hl (by decide) rfl (fun ls hl => ?_)
    refine lv_iload_n hx hb dX8_lightestInTime_23 rfl (lv_at hl 4 rfl) ?_
    refine lv_istore (lv' := [(6, .int (nI hv)), (5, .int (nI lt)), (4, .int (iI (hpz it0 n0 sh d))), (0, .ref w0), (1, .int (nI lt)), (2, .int (nI hv)), (3, .int (nI t0))]) hx hb dX8_lightestInTime_24 hl (by decide) rfl (fun ls hl => ?_)
    refine lv_iconst (v := 0) hx hb dX8_lightestInTime_26 (by decide) ?_
    refine lv_istore (lv' := [(7, .int 0), (6, .int (nI hv)), (5, .int (nI lt)), (4, .int (iI (hpz it0 n0 sh d))), (0, .ref w0), (1, .int (nI lt)), (2, .int (nI hv)), (3, .int (nI t0))]) hx hb dX8_lightestInTime_27 hl (by decide) rfl (fun ls hl => ?_)
    refine lp_q (I := fun zz9 ls => ∃ (le en st : Nat), zz9 = 32 - st ∧ (lt ≤ le ∧ le ≤ en ∧ en ≤ hv ∧ st ≤ 32) ∧ (en - le < 2 ^ (32 - st)) ∧ ((inTime sw d t0 (hpz it0 n0 sh d)) en = true) ∧ (∀ m, lt ≤ m → m < le → (inTime sw d t0 (hpz it0 n0 sh d)) m = false) ∧ lv_has ls 9 [(0, .ref w0), (1, .int (nI lt)), (2, .int (nI hv)), (3, .int (nI t0)), (4, .int (iI (hpz it0 n0 sh d))), (5, .int (nI le)), (6, .int (nI en)), (7, .int (nI st))]) ?_ (32 - 0) ⟨lt, hv, 0, rfl, (by omega), (Nat.lt_of_le_of_lt (show hv - lt ≤ 3000 by omega) (by decide)), (decide_eq_true c_14), (fun m a b => absurd b (by omega)), lv_sub hl [4, 5, 6, 7, 3, 2, 1, 0] rfl⟩
    intro n_29 ls ih_29 hI
    obtain ⟨le, en, st, hn_29, hle, hpw, hok, hno, hl⟩ := hI
    have hp2 : st < 32 → 2 ^ (32 - st) = 2 * 2 ^ (32 - (st + 1)) := fun h => by rw [← Nat.pow_succ']; congr 1; omega
    refine lv_iload hx hb dX8_lightestInTime_29 (lv_at hl 7 rfl) ?_
    refine lv_bipush (v := 32) hx hb dX8_lightestInTime_31 (by decide) ?_
    refine lv_icmp_ge (tgt := 83) hx hb dX8_lightestInTime_33 (by decide) (fun c_33 => ?_) (fun c_33 => ?_)
    ·
      have c_33 := n_ge (a := st) (b := 32) c_33 (by omega) (by omega)
      refine lv_iload hx hb dX8_lightestInTime_83 (lv_at hl 6 rfl) ?_
      exact W.iret (v := nI en) hx hb hr (fun t ht hW => ⟨_, rfl, (by exact (fst1_at hok _ _ (by omega) (by omega) (fun m a b => hno m a (by first | omega | (have h1 := pw0 c_33; omega)))).symm), ht⟩) (fun _ h => absurd h List.not_mem_nil) dX8_lightestInTime_85
    ·
      have c_33 := n_nge (a := st) (b := 32) c_33 (by omega) (by omega)
      refine lv_iload hx hb dX8_lightestInTime_36 (lv_at hl 5 rfl) ?_
      refine lv_iload hx hb dX8_lightestInTime_38 (lv_at hl 6 rfl) ?_
      refine lv_icmp_ge (tgt := 83) hx hb dX8_lightestInTime_40 (by decide) (fun c_40 => ?_) (fun c_40 => ?_)
      ·
        have c_40 := n_ge (a := le) (b := en) c_40 (by omega) (by omega)
        refine lv_iload hx hb dX8_lightestInTime_83 (lv_at hl 6 rfl) ?_
        exact W.iret (v := nI en) hx hb hr (fun t ht hW => ⟨_, rfl, (by exact (fst1_at hok _ _ (by omega) (by omega) (fun m a b => hno m a (by first | omega | (have h1 := pw0 c_33; omega)))).symm), ht⟩) (fun _ h => absurd h List.not_mem_nil) dX8_lightestInTime_85
      ·
        have c_40 := n_nge (a := le) (b := en) c_40 (by omega) (by omega)
        refine lv_iload hx hb dX8_lightestInTime_43 (lv_at hl 5 rfl) ?_
        refine lv_iload hx hb dX8_lightestInTime_45 (lv_at hl 6 rfl) ?_
        refine lv_iadd hx hb dX8_lightestInTime_47 ?_
        refine lv_eqi (z := nI (le + en)) (nI_add _ _) ?_
        refine lv_iconst (v := 2) hx hb dX8_lightestInTime_48 (by decide) ?_
        refine lv_idiv hx hb dX8_lightestInTime_49 (by decide) ?_
        refine lv_eqi (z := nI ((le + en) / 2)) (pk_div (d := 2) (by omega) (by decide) (by decide)) ?_
        refine lv_istore (lv' := [(8, .int (nI ((le + en) / 2))), (0, .ref w0), (1, .int (nI lt)), (2, .int (nI hv)), (3, .int (nI t0)), (4, .int (iI (hpz it0 n0 sh d))), (5, .int (nI le)), (6, .int (nI en)), (7, .int (nI st))]) hx hb dX8_lightestInTime_50 hl (by decide) rfl (fun ls hl => ?_)
        refine lv_aload_n hx hb dX8_lightestInTime_52 rfl (lv_at hl 1 rfl) ?_
        refine lv_iload hx hb dX8_lightestInTime_53 (lv_at hl 0 rfl) ?_
        refine lv_iload hx hb dX8_lightestInTime_55 (lv_at hl 5 rfl) ?_
        refine lv_iload_n hx hb dX8_lightestInTime_57 rfl (lv_at hl 4 rfl) ?_
        refine q_V (wc := [(w0, .inr (8, [.ref g0, .int (nI d), .int (nI sh), .int (nI cap), .int (nI sw)]))]) (b := w0) ⟨hx, hb, hml, hown, hts⟩ [.int (nI ((le + en) / 2)), .int (iI (hpz it0 n0 sh d)), .int (nI t0)] [] (c_X8_isInTime  (by first | assumption | omega) (by first | assumption | omega) (by first | assumption | omega) (by first | assumption | omega) (by first | assumption | omega)) (cwV 3 hts gX8_lightestInTime_X8_isInTime rfl rfl rfl (by decide +kernel) ⟨Nat.le_of_ble_eq_true rfl, Nat.le_of_ble_eq_true rfl⟩) hK hN hP hD [0] rfl (by decide) (ci := 8) rfl rfl rfl rfl hl.1 rfl (Nat.le_of_ble_eq_true rfl) dX8_lightestInTime_58 ⟨Nat.zero_le _, Nat.zero_le _⟩ (fun r hw => ?_)
        subst hw
        refine lv_if_eq (tgt := 71) hx hb dX8_lightestInTime_61 (by decide) (fun c_61 => ?_) (fun c_61 => ?_)
        ·
          have c_61 := bz c_61
          refine lv_iload hx hb dX8_lightestInTime_71 (lv_at hl 0 rfl) ?_
          refine lv_iconst (v := 1) hx hb dX8_lightestInTime_73 (by decide) ?_
          refine lv_iadd hx hb dX8_lightestInTime_74 ?_
          refine lv_eqi (z := nI (((le + en) / 2) + 1)) (nI_add _ _) ?_
          refine lv_istore (lv' := [(5, .int (nI (((le + en) / 2) + 1))), (8, .int (nI ((le + en) / 2))), (0, .ref w0), (1, .int (nI lt)), (2, .int (nI hv)), (3, .int (nI t0)), (4, .int (iI (hpz it0 n0 sh d))), (6, .int (nI en)), (7, .int (nI st))]) hx hb dX8_lightestInTime_75 hl (by decide) rfl (fun ls hl => ?_)
          refine lv_iinc (v := nI (st + 1)) (lv' := [(7, .int (nI (st + 1))), (5, .int (nI (((le + en) / 2) + 1))), (8, .int (nI ((le + en) / 2))), (0, .ref w0), (1, .int (nI lt)), (2, .int (nI hv)), (3, .int (nI t0)), (4, .int (iI (hpz it0 n0 sh d))), (6, .int (nI en))]) hx hb dX8_lightestInTime_77 hl (k := 8) rfl (nI_1 _) (by decide) rfl (fun ls hl => ?_)
          refine lv_goto (tgt := 29) hx hb dX8_lightestInTime_80 (by decide) ?_
          exact ih_29 _ _ (by omega) ⟨((le + en) / 2) + 1, en, st + 1, rfl, (by omega), (by have h32 := hp2 c_33; omega), (by first | exact hok | exact decide_eq_true c_61), (by first | exact hno | exact fun m a b => Bool.eq_false_iff.mpr (fun h => c_61 (of_decide_eq_true (inTime_mono (Nat.le_of_lt_succ b) h)))), lv_sub hl [3, 4, 5, 6, 7, 1, 8, 0] rfl⟩
        ·
          have c_61 := bnz c_61
          refine lv_iload hx hb dX8_lightestInTime_64 (lv_at hl 0 rfl) ?_
          refine lv_istore (lv' := [(6, .int (nI ((le + en) / 2))), (8, .int (nI ((le + en) / 2))), (0, .ref w0), (1, .int (nI lt)), (2, .int (nI hv)), (3, .int (nI t0)), (4, .int (iI (hpz it0 n0 sh d))), (5, .int (nI le)), (7, .int (nI st))]) hx hb dX8_lightestInTime_66 hl (by decide) rfl (fun ls hl => ?_)
          refine lv_goto (tgt := 77) hx hb dX8_lightestInTime_68 (by decide) ?_
          refine lv_iinc (v := nI (st + 1)) (lv' := [(7, .int (nI (st + 1))), (6, .int (nI ((le + en) / 2))), (8, .int (nI ((le + en) / 2))), (0, .ref w0), (1, .int (nI lt)), (2, .int (nI hv)), (3, .int (nI t0)), (4, .int (iI (hpz it0 n0 sh d))), (5, .int (nI le))]) hx hb dX8_lightestInTime_77 hl (k := 8) rfl (nI_1 _) (by decide) rfl (fun ls hl => ?_)
          refine lv_goto (tgt := 29) hx hb dX8_lightestInTime_80 (by decide) ?_
          exact ih_29 _ _ (by omega) ⟨le, (le + en) / 2, st + 1, rfl, (by omega), (by have h32 := hp2 c_33; omega), (by first | exact hok | exact decide_eq_true c_61), (by first | exact hno | exact fun m a b => Bool.eq_false_iff.mpr (fun h => c_61 (of_decide_eq_true (inTime_mono (Nat.le_of_lt_succ b) h)))), lv_sub hl [3, 4, 5, 6, 7, 8, 1, 0] rfl⟩
  ·
    have c_14 := bz c_14
    refine lv_bipush (v := (-3)) hx hb dX8_lightestInTime_17 (by decide) ?_
    exact W.iret (v := (-3)) hx hb hr (fun t ht hW => ⟨_, rfl, (by exact (fst1_none _ _ (fun m a b => Bool.eq_false_iff.mpr (fun h => c_14 (of_decide_eq_true (inTime_mono (show m ≤ hv by omega) h))))).symm), ht⟩) (fun _ h => absurd h List.not_mem_nil) dX8_lightestInTime_19
