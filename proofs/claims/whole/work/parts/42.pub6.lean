set_option maxHeartbeats 4000000 in
set_option maxRecDepth 100000 in
theorem c_X9_found {l : Launch} {D : va_G} {cI cS cP : ClassId} {sz : Nat} {x0 g0 w0 k0 la tr u0 pt ap sp : Nat} {fd : Int32} {sx : Nat} {n1 : Int32}  : Met l yX9_found wsX9_found ({ frames := 0, cells := 0, slots := 0, locals := 0 }) (PC D (TY cI cS cP) [.ref x0, .int n1] sz [(x0, .inr (9, [.ref sx, .ref g0, .ref w0, .ref k0, .ref la, .ref tr, .ref u0, .ref pt, .ref ap, .ref sp, .int fd]))]) (QI D (fun (r : Int32) (u : Unit) => r = -10 - n1) (fun (u : Unit) => [(x0, .inr (9, [.ref sx, .ref g0, .ref w0, .ref k0, .ref la, .ref tr, .ref u0, .ref pt, .ref ap, .ref sp, .int n1]))]) (va_A [(x0, .inr (9, [.ref sx, .ref g0, .ref w0, .ref k0, .ref la, .ref tr, .ref u0, .ref pt, .ref ap, .ref sp, .int fd]))] sz)) 0 0 (va_A [(x0, .inr (9, [.ref sx, .ref g0, .ref w0, .ref k0, .ref la, .ref tr, .ref u0, .ref pt, .ref ap, .ref sp, .int fd]))] sz) := by
  refine Met.ofW (cc := cX9_found) (maxL := 2) (ret := (some .int)) (by decide) rfl ?_
  intro p e s m args below meth c s₁ B hml hv
  obtain ⟨rfl, hsz, hP, hK, hD0, hN⟩ := hv
  have hx := B.exec
  have hb := B.bytes
  have hr := B.returns
  have hts := atoms_spec (ws := wsX9_found) B.pre
  have hown : s.vm.findClass RX9 = some m.cls := findClass_of_methodNamed B.named
  have hlocks := B.notSynchronized
  subst hsz
  have iX9 : ∀ w ∈ u_ws RX9 TX9 11, w ∈ wsX9_found := by decide +kernel
  have hD := hD0.self (sz := s.heap.size)
  generalize hAe : va_A [(x0, .inr (9, [.ref sx, .ref g0, .ref w0, .ref k0, .ref la, .ref tr, .ref u0, .ref pt, .ref ap, .ref sp, .int fd]))] s.heap.size = A at hD ⊢
  have hA : ∀ q : Nat, s.heap.size ≤ q → A q := fun q h => by rw [← hAe]; exact Or.inr h
  have hS : va_S A s.heap s.heap [] := va_S.rf
  have hP : va_P D vwCl [(x0, .inr (9, [.ref sx, .ref g0, .ref w0, .ref k0, .ref la, .ref tr, .ref u0, .ref pt, .ref ap, .ref sp, .int fd]))] s.heap := hP
  have hl := lv_entry ([.ref x0, .int n1]) (n := 2) (Nat.le_of_ble_eq_true rfl)
  rw [lg_entry_eq]
  generalize (lg_sl ([.ref x0, .int n1]) ++ List.replicate (2 - (lg_sl ([.ref x0, .int n1])).length) Slot.unset).toArray = ls at hl ⊢
  have hl : lv_has ls 2 [(0, .ref x0), (1, .int n1)] := hl
  refine lv_aload_n hx hb dX9_found_0 rfl (lv_at hl 0 rfl) ?_
  refine lv_iload_n hx hb dX9_found_1 rfl (lv_at hl 1 rfl) ?_
  refine va_put (D := D) (ci := 9) (v := .int n1) (ty := .int) (C := RX9) (T := TX9) (N := 11) hx hb hts iX9 tyX9 tyX9_ok nmX9 hown hK hP hD hS 0 rfl rfl 10 (by decide) (hts (.fieldLink RX9 308 "DeepHole" "finding" "I") (by decide +kernel)) (fun _ h9 => h9) rfl (by decide +kernel) rfl rfl (Nat.le_of_ble_eq_true rfl) dX9_found_2 (fun H locs hP hD hS => ?_)
  have hP : va_P D vwCl [(x0, .inr (9, [.ref sx, .ref g0, .ref w0, .ref k0, .ref la, .ref tr, .ref u0, .ref pt, .ref ap, .ref sp, .int n1]))] H := hP
  have hD : va_D A [(x0, .inr (9, [.ref sx, .ref g0, .ref w0, .ref k0, .ref la, .ref tr, .ref u0, .ref pt, .ref ap, .ref sp, .int n1]))] := hD
  refine lv_bipush (v := (-10)) hx hb dX9_found_5 (by decide) ?_
  refine lv_iload_n hx hb dX9_found_7 rfl (lv_at hl 1 rfl) ?_
  refine lv_isub hx hb dX9_found_8 ?_
  have hP9 := hP.sub (ws' := [(x0, .inr (9, [.ref sx, .ref g0, .ref w0, .ref k0, .ref la, .ref tr, .ref u0, .ref pt, .ref ap, .ref sp, .int n1]))]) [0] rfl
  have hD9 := hD.sub (ws' := [(x0, .inr (9, [.ref sx, .ref g0, .ref w0, .ref k0, .ref la, .ref tr, .ref u0, .ref pt, .ref ap, .ref sp, .int n1]))]) [0] (by decide) rfl
  exact W.iret (v := (-10) - n1) hx hb hr (fun t ht hW => ⟨⟨_, (), rfl, (by rfl), by rw [ht]; exact hP9, hD9⟩, hS.F ht⟩) hS.2.2 dX9_found_9

set_option maxHeartbeats 4000000 in
set_option maxRecDepth 100000 in
theorem c_X9_sheet {l : Launch} {D : va_G} {cI cS cP : ClassId} {sz : Nat} {x0 g0 w0 k0 la tr u0 pt ap sp : Nat} {fd : Int32} {sx : Nat} {sxf : Nat → Option Nat} {h0 a0 n : Nat} {lo fo : Int32} {it : Nat → Int32} {k : Nat} {fm nn : Int32} (hk : k < 4) (hsx : sxf k = some h0) (hn : n ≤ 60) : Met l yX9_sheet wsX9_sheet ({ frames := 2, cells := 0, slots := 0, locals := 45 }) (PC D (TY cI cS cP) [.ref x0, .int (nI k), .int fm, .int nn] sz [(x0, .inr (9, [.ref sx, .ref g0, .ref w0, .ref k0, .ref la, .ref tr, .ref u0, .ref pt, .ref ap, .ref sp, .int fd])), (sx, .inl (cS, 4, .inr (.inr (.inr (.inr sxf))))), (h0, .inr (6, [.ref a0, .int lo, .int fo, .int (nI n)])), (a0, .inl (cI, 60, .inl it))]) (QI D (fun (r : Int32) (u : Int32 × Int32 × Int32 × Nat × (Nat → Int32)) => (r = aSheet fm nn) ∧ u = sSheet fd lo fo n it fm nn) (fun (u : Int32 × Int32 × Int32 × Nat × (Nat → Int32)) => [(x0, .inr (9, [.ref sx, .ref g0, .ref w0, .ref k0, .ref la, .ref tr, .ref u0, .ref pt, .ref ap, .ref sp, .int u.1])), (sx, .inl (cS, 4, .inr (.inr (.inr (.inr sxf))))), (h0, .inr (6, [.ref a0, .int u.2.1, .int u.2.2.1, .int (nI u.2.2.2.1)])), (a0, .inl (cI, 60, .inl u.2.2.2.2))]) (va_A [(x0, .inr (9, [.ref sx, .ref g0, .ref w0, .ref k0, .ref la, .ref tr, .ref u0, .ref pt, .ref ap, .ref sp, .int fd])), (sx, .inl (cS, 4, .inr (.inr (.inr (.inr sxf))))), (h0, .inr (6, [.ref a0, .int lo, .int fo, .int (nI n)])), (a0, .inl (cI, 60, .inl it))] sz)) 0 0 (va_A [(x0, .inr (9, [.ref sx, .ref g0, .ref w0, .ref k0, .ref la, .ref tr, .ref u0, .ref pt, .ref ap, .ref sp, .int fd])), (sx, .inl (cS, 4, .inr (.inr (.inr (.inr sxf))))), (h0, .inr (6, [.ref a0, .int lo, .int fo, .int (nI n)])), (a0, .inl (cI, 60, .inl it))] sz) := by
  refine Met.ofW (cc := cX9_sheet) (maxL := 4) (ret := (some .int)) (by decide) rfl ?_
  intro p e s m args below meth c s₁ B hml hv
  obtain ⟨rfl, hsz, hP, hK, hD0, hN⟩ := hv
  have hx := B.exec
  have hb := B.bytes
  have hr := B.returns
  have hts := atoms_spec (ws := wsX9_sheet) B.pre
  have hown : s.vm.findClass RX9 = some m.cls := findClass_of_methodNamed B.named
  have hlocks := B.notSynchronized
  subst hsz
  have iX9 : ∀ w ∈ u_ws RX9 TX9 11, w ∈ wsX9_sheet := by decide +kernel
  have hD := hD0.self (sz := s.heap.size)
  generalize hAe : va_A [(x0, .inr (9, [.ref sx, .ref g0, .ref w0, .ref k0, .ref la, .ref tr, .ref u0, .ref pt, .ref ap, .ref sp, .int fd])), (sx, .inl (cS, 4, .inr (.inr (.inr (.inr sxf))))), (h0, .inr (6, [.ref a0, .int lo, .int fo, .int (nI n)])), (a0, .inl (cI, 60, .inl it))] s.heap.size = A at hD ⊢
  have hA : ∀ q : Nat, s.heap.size ≤ q → A q := fun q h => by rw [← hAe]; exact Or.inr h
  have hS : va_S A s.heap s.heap [] := va_S.rf
  have hP : va_P D vwCl [(x0, .inr (9, [.ref sx, .ref g0, .ref w0, .ref k0, .ref la, .ref tr, .ref u0, .ref pt, .ref ap, .ref sp, .int fd])), (sx, .inl (cS, 4, .inr (.inr (.inr (.inr sxf))))), (h0, .inr (6, [.ref a0, .int lo, .int fo, .int (nI n)])), (a0, .inl (cI, 60, .inl it))] s.heap := hP
  have hl := lv_entry ([.ref x0, .int (nI k), .int fm, .int nn]) (n := 4) (Nat.le_of_ble_eq_true rfl)
  rw [lg_entry_eq]
  generalize (lg_sl ([.ref x0, .int (nI k), .int fm, .int nn]) ++ List.replicate (4 - (lg_sl ([.ref x0, .int (nI k), .int fm, .int nn])).length) Slot.unset).toArray = ls at hl ⊢
  have hl : lv_has ls 4 [(0, .ref x0), (1, .int (nI k)), (2, .int fm), (3, .int nn)] := hl
  refine lv_iload_n hx hb dX9_sheet_0 rfl (lv_at hl 1 rfl) ?_
  refine q_S (tys := TY cI cS cP) (D := D) ⟨hx, hb, hml, hown, hts⟩ [.int (nI k)] [] c_X9_isSheet (va_cwS 1 hts gX9_sheet_X9_isSheet rfl rfl rfl (by decide +kernel) ⟨Nat.le_of_ble_eq_true rfl, Nat.le_of_ble_eq_true rfl⟩) hK hN rfl hl.1 rfl (Nat.le_of_ble_eq_true rfl) dX9_sheet_1 ⟨Nat.zero_le _, Nat.zero_le _⟩ (fun r hw => ?_)
  subst hw
  refine lv_if_eq (tgt := 20) hx hb dX9_sheet_4 (by decide) (fun c_4 => ?_) (fun c_4 => ?_)
  ·
    have c_4 := bz c_4
    exact absurd (show (0 : Int32) ≤ nI k ∧ nI k ≤ 3 from ⟨nI_pos' (by omega), nI_le (b := 3) (by omega) (by decide)⟩) c_4
  ·
    have c_4 := bnz c_4
    refine lv_iload_n hx hb dX9_sheet_7 rfl (lv_at hl 2 rfl) ?_
    refine q_S (tys := TY cI cS cP) (D := D) ⟨hx, hb, hml, hown, hts⟩ [.int fm] [] c_X9_isForm (va_cwS 1 hts gX9_sheet_X9_isForm rfl rfl rfl (by decide +kernel) ⟨Nat.le_of_ble_eq_true rfl, Nat.le_of_ble_eq_true rfl⟩) hK hN rfl hl.1 rfl (Nat.le_of_ble_eq_true rfl) dX9_sheet_8 ⟨Nat.zero_le _, Nat.zero_le _⟩ (fun r hw => ?_)
    subst hw
    refine lv_if_eq (tgt := 20) hx hb dX9_sheet_11 (by decide) (fun c_11 => ?_) (fun c_11 => ?_)
    ·
      have c_11 := bz c_11
      refine lv_bipush (v := (-2)) hx hb dX9_sheet_20 (by decide) ?_
      have hP9 := hP.sub (ws' := [(x0, .inr (9, [.ref sx, .ref g0, .ref w0, .ref k0, .ref la, .ref tr, .ref u0, .ref pt, .ref ap, .ref sp, .int fd])), (sx, .inl (cS, 4, .inr (.inr (.inr (.inr sxf))))), (h0, .inr (6, [.ref a0, .int lo, .int fo, .int (nI n)])), (a0, .inl (cI, 60, .inl it))]) [0, 1, 2, 3] rfl
      have hD9 := hD.sub (ws' := [(x0, .inr (9, [.ref sx, .ref g0, .ref w0, .ref k0, .ref la, .ref tr, .ref u0, .ref pt, .ref ap, .ref sp, .int fd])), (sx, .inl (cS, 4, .inr (.inr (.inr (.inr sxf))))), (h0, .inr (6, [.ref a0, .int lo, .int fo, .int (nI n)])), (a0, .inl (cI, 60, .inl it))]) [0, 1, 2, 3] (by decide) rfl
      exact W.iret (v := (-2)) hx hb hr (fun t ht hW => ⟨⟨_, (fd, lo, fo, n, it), rfl, (by unfold aSheet sSheet; first | rw [if_neg (fun h => c_11 h.1), if_neg (fun h => c_11 h.1)]; exact ⟨rfl, rfl⟩ | rw [if_neg (fun h => c_17 h.2), if_neg (fun h => c_17 h.2)]; exact ⟨rfl, rfl⟩), by rw [ht]; exact hP9, hD9⟩, hS.F ht⟩) hS.2.2 dX9_sheet_22
    ·
      have c_11 := bnz c_11
      refine lv_iload_n hx hb dX9_sheet_14 rfl (lv_at hl 3 rfl) ?_
      refine lv_bipush (v := 60) hx hb dX9_sheet_15 (by decide) ?_
      refine lv_icmp_le (tgt := 23) hx hb dX9_sheet_17 (by decide) (fun c_17 => ?_) (fun c_17 => ?_)
      ·
        refine lv_iload_n hx hb dX9_sheet_23 rfl (lv_at hl 3 rfl) ?_
        refine lv_if_ge (tgt := 33) hx hb dX9_sheet_24 (by decide) (fun c_24 => ?_) (fun c_24 => ?_)
        ·
          obtain ⟨nN, hnN, rfl⟩ := nn_of c_24
          have hnN60 : nN ≤ 60 := n_le c_17 (by omega) (by omega)
          refine lv_aload_n hx hb dX9_sheet_33 rfl (lv_at hl 0 rfl) ?_
          refine va_get (D := D) (ci := 9) (v := .ref sx) (C := RX9) (T := TX9) (N := 11) hx hb hts iX9 hown hK hP 0 rfl rfl 0 (by decide) (hts (.fieldLink RX9 11 "DeepHole" "sheets" "[LDeepHole$Sheet;") (by decide +kernel)) (fun _ h9 => h9) rfl dX9_sheet_34 ?_
          refine lv_iload_n hx hb dX9_sheet_37 rfl (lv_at hl 1 rfl) ?_
          refine rd_q hx hb hK hP 1 1 rfl rfl (k := k) (by omega) (by decide) (hsx) dX9_sheet_38 ?_
          refine lv_iload_n hx hb dX9_sheet_39 rfl (lv_at hl 2 rfl) ?_
          refine lv_iload_n hx hb dX9_sheet_40 rfl (lv_at hl 3 rfl) ?_
          refine w_Vv (wc := [(h0, .inr (6, [.ref a0, .int lo, .int fo, .int (nI n)])), (a0, .inl (cI, 60, .inl it))]) (wr := [(x0, .inr (9, [.ref sx, .ref g0, .ref w0, .ref k0, .ref la, .ref tr, .ref u0, .ref pt, .ref ap, .ref sp, .int fd])), (sx, .inl (cS, 4, .inr (.inr (.inr (.inr sxf)))))]) (b := h0) ⟨hx, hb, hml, hown, hts⟩ [.int fm, .int (nI nN)] [] c_X6_renew (cwV 2 hts gX9_sheet_X6_renew rfl rfl rfl (by decide +kernel) ⟨Nat.le_of_ble_eq_true rfl, Nat.le_of_ble_eq_true rfl⟩) hK hN hP hD hS hA [2, 3] [0, 1] rfl (by decide) rfl (by decide) (by decide) (ci := 6) rfl rfl rfl rfl hl.1 rfl (Nat.le_of_ble_eq_true rfl) dX9_sheet_41 ⟨Nat.zero_le _, Nat.zero_le _⟩ (fun u H locs hw hP hD hS => ?_)
          have hP : va_P D vwCl [(x0, .inr (9, [.ref sx, .ref g0, .ref w0, .ref k0, .ref la, .ref tr, .ref u0, .ref pt, .ref ap, .ref sp, .int fd])), (sx, .inl (cS, 4, .inr (.inr (.inr (.inr sxf))))), (h0, .inr (6, [.ref a0, .int 0, .int fm, .int (nI nN)])), (a0, .inl (cI, 60, .inl (fillI 0 it 60)))] H := hP
          have hD : va_D A [(x0, .inr (9, [.ref sx, .ref g0, .ref w0, .ref k0, .ref la, .ref tr, .ref u0, .ref pt, .ref ap, .ref sp, .int fd])), (sx, .inl (cS, 4, .inr (.inr (.inr (.inr sxf))))), (h0, .inr (6, [.ref a0, .int 0, .int fm, .int (nI nN)])), (a0, .inl (cI, 60, .inl (fillI 0 it 60)))] := hD
          refine lv_iload_n hx hb dX9_sheet_44 rfl (lv_at hl 3 rfl) ?_
          have hP9 := hP.sub (ws' := [(x0, .inr (9, [.ref sx, .ref g0, .ref w0, .ref k0, .ref la, .ref tr, .ref u0, .ref pt, .ref ap, .ref sp, .int fd])), (sx, .inl (cS, 4, .inr (.inr (.inr (.inr sxf))))), (h0, .inr (6, [.ref a0, .int 0, .int fm, .int (nI nN)])), (a0, .inl (cI, 60, .inl (fillI 0 it 60)))]) [0, 1, 2, 3] rfl
          have hD9 := hD.sub (ws' := [(x0, .inr (9, [.ref sx, .ref g0, .ref w0, .ref k0, .ref la, .ref tr, .ref u0, .ref pt, .ref ap, .ref sp, .int fd])), (sx, .inl (cS, 4, .inr (.inr (.inr (.inr sxf))))), (h0, .inr (6, [.ref a0, .int 0, .int fm, .int (nI nN)])), (a0, .inl (cI, 60, .inl (fillI 0 it 60)))]) [0, 1, 2, 3] (by decide) rfl
          exact W.iret (v := nI nN) hx hb hr (fun t ht hW => ⟨⟨_, (fd, 0, fm, nN, fillI 0 it 60), rfl, (by have hC := And.intro c_11 c_17; unfold aSheet sSheet; rw [if_pos hC, if_pos hC, if_pos c_24, if_pos c_24, nI_clamp (by omega)]; exact ⟨rfl, rfl⟩), by rw [ht]; exact hP9, hD9⟩, hS.F ht⟩) hS.2.2 dX9_sheet_45
        ·
          refine lv_aload_n hx hb dX9_sheet_27 rfl (lv_at hl 0 rfl) ?_
          refine lv_iconst (v := 5) hx hb dX9_sheet_28 (by decide) ?_
          refine w_V (wc := [(x0, .inr (9, [.ref sx, .ref g0, .ref w0, .ref k0, .ref la, .ref tr, .ref u0, .ref pt, .ref ap, .ref sp, .int fd]))]) (wr := [(sx, .inl (cS, 4, .inr (.inr (.inr (.inr sxf))))), (h0, .inr (6, [.ref a0, .int lo, .int fo, .int (nI n)])), (a0, .inl (cI, 60, .inl it))]) (b := x0) ⟨hx, hb, hml, hown, hts⟩ [.int (5 : Int32)] [] c_X9_found (cwV 1 hts gX9_sheet_X9_found rfl rfl rfl (by decide +kernel) ⟨Nat.le_of_ble_eq_true rfl, Nat.le_of_ble_eq_true rfl⟩) hK hN hP hD hS hA [0] [1, 2, 3] rfl (by decide) rfl (by decide) (by decide) (ci := 9) rfl rfl rfl rfl hl.1 rfl (Nat.le_of_ble_eq_true rfl) dX9_sheet_29 ⟨Nat.zero_le _, Nat.zero_le _⟩ (fun r u H locs hw hP hD hS => ?_)
          have hP : va_P D vwCl [(sx, .inl (cS, 4, .inr (.inr (.inr (.inr sxf))))), (h0, .inr (6, [.ref a0, .int lo, .int fo, .int (nI n)])), (a0, .inl (cI, 60, .inl it)), (x0, .inr (9, [.ref sx, .ref g0, .ref w0, .ref k0, .ref la, .ref tr, .ref u0, .ref pt, .ref ap, .ref sp, .int (5 : Int32)]))] H := hP
          have hD : va_D A [(sx, .inl (cS, 4, .inr (.inr (.inr (.inr sxf))))), (h0, .inr (6, [.ref a0, .int lo, .int fo, .int (nI n)])), (a0, .inl (cI, 60, .inl it)), (x0, .inr (9, [.ref sx, .ref g0, .ref w0, .ref k0, .ref la, .ref tr, .ref u0, .ref pt, .ref ap, .ref sp, .int (5 : Int32)]))] := hD
          subst hw
          have hP9 := hP.sub (ws' := [(x0, .inr (9, [.ref sx, .ref g0, .ref w0, .ref k0, .ref la, .ref tr, .ref u0, .ref pt, .ref ap, .ref sp, .int (5 : Int32)])), (sx, .inl (cS, 4, .inr (.inr (.inr (.inr sxf))))), (h0, .inr (6, [.ref a0, .int lo, .int fo, .int (nI n)])), (a0, .inl (cI, 60, .inl it))]) [3, 0, 1, 2] rfl
          have hD9 := hD.sub (ws' := [(x0, .inr (9, [.ref sx, .ref g0, .ref w0, .ref k0, .ref la, .ref tr, .ref u0, .ref pt, .ref ap, .ref sp, .int (5 : Int32)])), (sx, .inl (cS, 4, .inr (.inr (.inr (.inr sxf))))), (h0, .inr (6, [.ref a0, .int lo, .int fo, .int (nI n)])), (a0, .inl (cI, 60, .inl it))]) [3, 0, 1, 2] (by decide) rfl
          exact W.iret (v := -10 - (5 : Int32)) hx hb hr (fun t ht hW => ⟨⟨_, (5, lo, fo, n, it), rfl, (by have hC := And.intro c_11 c_17; unfold aSheet sSheet; rw [if_pos hC, if_pos hC, if_neg c_24, if_neg c_24]; exact ⟨rfl, rfl⟩), by rw [ht]; exact hP9, hD9⟩, hS.F ht⟩) hS.2.2 dX9_sheet_32
      ·
        refine lv_bipush (v := (-2)) hx hb dX9_sheet_20 (by decide) ?_
        have hP9 := hP.sub (ws' := [(x0, .inr (9, [.ref sx, .ref g0, .ref w0, .ref k0, .ref la, .ref tr, .ref u0, .ref pt, .ref ap, .ref sp, .int fd])), (sx, .inl (cS, 4, .inr (.inr (.inr (.inr sxf))))), (h0, .inr (6, [.ref a0, .int lo, .int fo, .int (nI n)])), (a0, .inl (cI, 60, .inl it))]) [0, 1, 2, 3] rfl
        have hD9 := hD.sub (ws' := [(x0, .inr (9, [.ref sx, .ref g0, .ref w0, .ref k0, .ref la, .ref tr, .ref u0, .ref pt, .ref ap, .ref sp, .int fd])), (sx, .inl (cS, 4, .inr (.inr (.inr (.inr sxf))))), (h0, .inr (6, [.ref a0, .int lo, .int fo, .int (nI n)])), (a0, .inl (cI, 60, .inl it))]) [0, 1, 2, 3] (by decide) rfl
        exact W.iret (v := (-2)) hx hb hr (fun t ht hW => ⟨⟨_, (fd, lo, fo, n, it), rfl, (by unfold aSheet sSheet; first | rw [if_neg (fun h => c_11 h.1), if_neg (fun h => c_11 h.1)]; exact ⟨rfl, rfl⟩ | rw [if_neg (fun h => c_17 h.2), if_neg (fun h => c_17 h.2)]; exact ⟨rfl, rfl⟩), by rw [ht]; exact hP9, hD9⟩, hS.F ht⟩) hS.2.2 dX9_sheet_22

set_option maxHeartbeats 4000000 in
set_option maxRecDepth 100000 in
theorem c_X9_sheet_b {l : Launch} {D : va_G} {cI cS cP : ClassId} {sz : Nat} {x0 g0 w0 k0 la tr u0 pt ap sp : Nat} {fd : Int32} {sx : Nat} {h1 fm nn : Int32} (hbad : ¬ (0 ≤ h1 ∧ h1 ≤ 3)) : Met l yX9_sheet wsX9_sheet ({ frames := 2, cells := 0, slots := 0, locals := 42 }) (PC D (TY cI cS cP) [.ref x0, .int h1, .int fm, .int nn] sz [(x0, .inr (9, [.ref sx, .ref g0, .ref w0, .ref k0, .ref la, .ref tr, .ref u0, .ref pt, .ref ap, .ref sp, .int fd]))]) (vp_Si (fun r => r = -2)) 0 0 (fun _ => False) := by
  refine Met.ofW (cc := cX9_sheet) (maxL := 4) (ret := (some .int)) (by decide) rfl ?_
  intro p e s m args below meth c s₁ B hml hv
  obtain ⟨rfl, hsz, hP, hK, hD0, hN⟩ := hv
  have hx := B.exec
  have hb := B.bytes
  have hr := B.returns
  have hts := atoms_spec (ws := wsX9_sheet) B.pre
  have hown : s.vm.findClass RX9 = some m.cls := findClass_of_methodNamed B.named
  have hlocks := B.notSynchronized
  subst hsz
  have hD := hD0
  have hP : va_P D vwCl [(x0, .inr (9, [.ref sx, .ref g0, .ref w0, .ref k0, .ref la, .ref tr, .ref u0, .ref pt, .ref ap, .ref sp, .int fd]))] s.heap := hP
  have hl := lv_entry ([.ref x0, .int h1, .int fm, .int nn]) (n := 4) (Nat.le_of_ble_eq_true rfl)
  rw [lg_entry_eq]
  generalize (lg_sl ([.ref x0, .int h1, .int fm, .int nn]) ++ List.replicate (4 - (lg_sl ([.ref x0, .int h1, .int fm, .int nn])).length) Slot.unset).toArray = ls at hl ⊢
  have hl : lv_has ls 4 [(0, .ref x0), (1, .int h1), (2, .int fm), (3, .int nn)] := hl
  refine lv_iload_n hx hb dX9_sheet_0 rfl (lv_at hl 1 rfl) ?_
  refine q_S (tys := TY cI cS cP) (D := D) ⟨hx, hb, hml, hown, hts⟩ [.int h1] [] c_X9_isSheet (va_cwS 1 hts gX9_sheet_X9_isSheet rfl rfl rfl (by decide +kernel) ⟨Nat.le_of_ble_eq_true rfl, Nat.le_of_ble_eq_true rfl⟩) hK hN rfl hl.1 rfl (Nat.le_of_ble_eq_true rfl) dX9_sheet_1 ⟨Nat.zero_le _, Nat.zero_le _⟩ (fun r hw => ?_)
  subst hw
  refine lv_if_eq (tgt := 20) hx hb dX9_sheet_4 (by decide) (fun c_4 => ?_) (fun c_4 => ?_)
  ·
    have c_4 := bz c_4
    refine lv_bipush (v := (-2)) hx hb dX9_sheet_20 (by decide) ?_
    exact W.iret (v := (-2)) hx hb hr (fun t ht hW => ⟨_, rfl, (by rfl), ht⟩) (fun _ h => absurd h List.not_mem_nil) dX9_sheet_22
  ·
    have c_4 := bnz c_4
    exact absurd c_4 hbad

set_option maxHeartbeats 4000000 in
set_option maxRecDepth 100000 in
theorem c_X9_lose {l : Launch} {D : va_G} {cI cS cP : ClassId} {sz : Nat} {x0 g0 w0 k0 la tr u0 pt ap sp : Nat} {fd : Int32} {sx : Nat} {sxf : Nat → Option Nat} {h0 a0 n : Nat} {lo fo : Int32} {it : Nat → Int32} {k : Nat} (hk : k < 4) (hsx : sxf k = some h0) (hn : n ≤ 60) : Met l yX9_lose wsX9_lose ({ frames := 2, cells := 0, slots := 0, locals := 42 }) (PC D (TY cI cS cP) [.ref x0, .int (nI k)] sz [(x0, .inr (9, [.ref sx, .ref g0, .ref w0, .ref k0, .ref la, .ref tr, .ref u0, .ref pt, .ref ap, .ref sp, .int fd])), (sx, .inl (cS, 4, .inr (.inr (.inr (.inr sxf))))), (h0, .inr (6, [.ref a0, .int lo, .int fo, .int (nI n)])), (a0, .inl (cI, 60, .inl it))]) (QI D (fun (r : Int32) (u : Int32 × Int32 × Nat) => (r = aLose lo n) ∧ u = sLose fd lo n) (fun (u : Int32 × Int32 × Nat) => [(x0, .inr (9, [.ref sx, .ref g0, .ref w0, .ref k0, .ref la, .ref tr, .ref u0, .ref pt, .ref ap, .ref sp, .int u.1])), (sx, .inl (cS, 4, .inr (.inr (.inr (.inr sxf))))), (h0, .inr (6, [.ref a0, .int u.2.1, .int fo, .int (nI u.2.2)])), (a0, .inl (cI, 60, .inl it))]) (va_A [(x0, .inr (9, [.ref sx, .ref g0, .ref w0, .ref k0, .ref la, .ref tr, .ref u0, .ref pt, .ref ap, .ref sp, .int fd])), (sx, .inl (cS, 4, .inr (.inr (.inr (.inr sxf))))), (h0, .inr (6, [.ref a0, .int lo, .int fo, .int (nI n)])), (a0, .inl (cI, 60, .inl it))] sz)) 0 0 (va_A [(x0, .inr (9, [.ref sx, .ref g0, .ref w0, .ref k0, .ref la, .ref tr, .ref u0, .ref pt, .ref ap, .ref sp, .int fd])), (sx, .inl (cS, 4, .inr (.inr (.inr (.inr sxf))))), (h0, .inr (6, [.ref a0, .int lo, .int fo, .int (nI n)])), (a0, .inl (cI, 60, .inl it))] sz) := by
  refine Met.ofW (cc := cX9_lose) (maxL := 3) (ret := (some .int)) (by decide) rfl ?_
  intro p e s m args below meth c s₁ B hml hv
  obtain ⟨rfl, hsz, hP, hK, hD0, hN⟩ := hv
  have hx := B.exec
  have hb := B.bytes
  have hr := B.returns
  have hts := atoms_spec (ws := wsX9_lose) B.pre
  have hown : s.vm.findClass RX9 = some m.cls := findClass_of_methodNamed B.named
  have hlocks := B.notSynchronized
  subst hsz
  have iX6 : ∀ w ∈ u_ws RX6 TX6 4, w ∈ wsX9_lose := by decide +kernel
  have iX9 : ∀ w ∈ u_ws RX9 TX9 11, w ∈ wsX9_lose := by decide +kernel
  have hD := hD0.self (sz := s.heap.size)
  generalize hAe : va_A [(x0, .inr (9, [.ref sx, .ref g0, .ref w0, .ref k0, .ref la, .ref tr, .ref u0, .ref pt, .ref ap, .ref sp, .int fd])), (sx, .inl (cS, 4, .inr (.inr (.inr (.inr sxf))))), (h0, .inr (6, [.ref a0, .int lo, .int fo, .int (nI n)])), (a0, .inl (cI, 60, .inl it))] s.heap.size = A at hD ⊢
  have hA : ∀ q : Nat, s.heap.size ≤ q → A q := fun q h => by rw [← hAe]; exact Or.inr h
  have hS : va_S A s.heap s.heap [] := va_S.rf
  have hP : va_P D vwCl [(x0, .inr (9, [.ref sx, .ref g0, .ref w0, .ref k0, .ref la, .ref tr, .ref u0, .ref pt, .ref ap, .ref sp, .int fd])), (sx, .inl (cS, 4, .inr (.inr (.inr (.inr sxf))))), (h0, .inr (6, [.ref a0, .int lo, .int fo, .int (nI n)])), (a0, .inl (cI, 60, .inl it))] s.heap := hP
  have hl := lv_entry ([.ref x0, .int (nI k)]) (n := 3) (Nat.le_of_ble_eq_true rfl)
  rw [lg_entry_eq]
  generalize (lg_sl ([.ref x0, .int (nI k)]) ++ List.replicate (3 - (lg_sl ([.ref x0, .int (nI k)])).length) Slot.unset).toArray = ls at hl ⊢
  have hl : lv_has ls 3 [(0, .ref x0), (1, .int (nI k))] := hl
  refine lv_iload_n hx hb dX9_lose_0 rfl (lv_at hl 1 rfl) ?_
  refine q_S (tys := TY cI cS cP) (D := D) ⟨hx, hb, hml, hown, hts⟩ [.int (nI k)] [] c_X9_isSheet (va_cwS 1 hts gX9_lose_X9_isSheet rfl rfl rfl (by decide +kernel) ⟨Nat.le_of_ble_eq_true rfl, Nat.le_of_ble_eq_true rfl⟩) hK hN rfl hl.1 rfl (Nat.le_of_ble_eq_true rfl) dX9_lose_1 ⟨Nat.zero_le _, Nat.zero_le _⟩ (fun r hw => ?_)
  subst hw
  refine lv_if_ne (tgt := 10) hx hb dX9_lose_4 (by decide) (fun c_4 => ?_) (fun c_4 => ?_)
  ·
    have c_4 := bnz c_4
    refine lv_aload_n hx hb dX9_lose_10 rfl (lv_at hl 0 rfl) ?_
    refine va_get (D := D) (ci := 9) (v := .ref sx) (C := RX9) (T := TX9) (N := 11) hx hb hts iX9 hown hK hP 0 rfl rfl 0 (by decide) (hts (.fieldLink RX9 11 "DeepHole" "sheets" "[LDeepHole$Sheet;") (by decide +kernel)) (fun _ h9 => h9) rfl dX9_lose_11 ?_
    refine lv_iload_n hx hb dX9_lose_14 rfl (lv_at hl 1 rfl) ?_
    refine rd_q hx hb hK hP 1 1 rfl rfl (k := k) (by omega) (by decide) (hsx) dX9_lose_15 ?_
    refine va_get (D := D) (ci := 6) (v := .int lo) (C := RX6) (T := TX6) (N := 4) hx hb hts iX6 hown hK hP 2 rfl rfl 1 (by decide) (hts (.fieldLink RX9 277 "DeepHole$Sheet" "lost" "Z") (by decide +kernel)) (fun _ h9 => h9) rfl dX9_lose_16 ?_
    refine lv_if_eq (tgt := 28) hx hb dX9_lose_19 (by decide) (fun c_19 => ?_) (fun c_19 => ?_)
    ·
      refine lv_aload_n hx hb dX9_lose_28 rfl (lv_at hl 0 rfl) ?_
      refine va_get (D := D) (ci := 9) (v := .ref sx) (C := RX9) (T := TX9) (N := 11) hx hb hts iX9 hown hK hP 0 rfl rfl 0 (by decide) (hts (.fieldLink RX9 11 "DeepHole" "sheets" "[LDeepHole$Sheet;") (by decide +kernel)) (fun _ h9 => h9) rfl dX9_lose_29 ?_
      refine lv_iload_n hx hb dX9_lose_32 rfl (lv_at hl 1 rfl) ?_
      refine rd_q hx hb hK hP 1 1 rfl rfl (k := k) (by omega) (by decide) (hsx) dX9_lose_33 ?_
      refine va_get (D := D) (ci := 6) (v := .int (nI n)) (C := RX6) (T := TX6) (N := 4) hx hb hts iX6 hown hK hP 2 rfl rfl 3 (by decide) (hts (.fieldLink RX9 281 "DeepHole$Sheet" "size" "I") (by decide +kernel)) (fun _ h9 => h9) rfl dX9_lose_34 ?_
      refine lv_istore_n (lv' := [(2, .int (nI n)), (0, .ref x0), (1, .int (nI k))]) hx hb dX9_lose_37 rfl hl (by decide) rfl (fun ls hl => ?_)
      refine lv_aload_n hx hb dX9_lose_38 rfl (lv_at hl 1 rfl) ?_
      refine va_get (D := D) (ci := 9) (v := .ref sx) (C := RX9) (T := TX9) (N := 11) hx hb hts iX9 hown hK hP 0 rfl rfl 0 (by decide) (hts (.fieldLink RX9 11 "DeepHole" "sheets" "[LDeepHole$Sheet;") (by decide +kernel)) (fun _ h9 => h9) rfl dX9_lose_39 ?_
      refine lv_iload_n hx hb dX9_lose_42 rfl (lv_at hl 2 rfl) ?_
      refine rd_q hx hb hK hP 1 1 rfl rfl (k := k) (by omega) (by decide) (hsx) dX9_lose_43 ?_
      refine w_Vv (wc := [(h0, .inr (6, [.ref a0, .int lo, .int fo, .int (nI n)])), (a0, .inl (cI, 60, .inl it))]) (wr := [(x0, .inr (9, [.ref sx, .ref g0, .ref w0, .ref k0, .ref la, .ref tr, .ref u0, .ref pt, .ref ap, .ref sp, .int fd])), (sx, .inl (cS, 4, .inr (.inr (.inr (.inr sxf)))))]) (b := h0) ⟨hx, hb, hml, hown, hts⟩ [] [] c_X6_becomeLost (cwV 0 hts gX9_lose_X6_becomeLost rfl rfl rfl (by decide +kernel) ⟨Nat.le_of_ble_eq_true rfl, Nat.le_of_ble_eq_true rfl⟩) hK hN hP hD hS hA [2, 3] [0, 1] rfl (by decide) rfl (by decide) (by decide) (ci := 6) rfl rfl rfl rfl hl.1 rfl (Nat.le_of_ble_eq_true rfl) dX9_lose_44 ⟨Nat.zero_le _, Nat.zero_le _⟩ (fun u H locs hw hP hD hS => ?_)
      have hP : va_P D vwCl [(x0, .inr (9, [.ref sx, .ref g0, .ref w0, .ref k0, .ref la, .ref tr, .ref u0, .ref pt, .ref ap, .ref sp, .int fd])), (sx, .inl (cS, 4, .inr (.inr (.inr (.inr sxf))))), (h0, .inr (6, [.ref a0, .int 1, .int fo, .int 0])), (a0, .inl (cI, 60, .inl it))] H := hP
      have hD : va_D A [(x0, .inr (9, [.ref sx, .ref g0, .ref w0, .ref k0, .ref la, .ref tr, .ref u0, .ref pt, .ref ap, .ref sp, .int fd])), (sx, .inl (cS, 4, .inr (.inr (.inr (.inr sxf))))), (h0, .inr (6, [.ref a0, .int 1, .int fo, .int 0])), (a0, .inl (cI, 60, .inl it))] := hD
      refine lv_iload_n hx hb dX9_lose_47 rfl (lv_at hl 0 rfl) ?_
      have hP9 := hP.sub (ws' := [(x0, .inr (9, [.ref sx, .ref g0, .ref w0, .ref k0, .ref la, .ref tr, .ref u0, .ref pt, .ref ap, .ref sp, .int fd])), (sx, .inl (cS, 4, .inr (.inr (.inr (.inr sxf))))), (h0, .inr (6, [.ref a0, .int 1, .int fo, .int 0])), (a0, .inl (cI, 60, .inl it))]) [0, 1, 2, 3] rfl
      have hD9 := hD.sub (ws' := [(x0, .inr (9, [.ref sx, .ref g0, .ref w0, .ref k0, .ref la, .ref tr, .ref u0, .ref pt, .ref ap, .ref sp, .int fd])), (sx, .inl (cS, 4, .inr (.inr (.inr (.inr sxf))))), (h0, .inr (6, [.ref a0, .int 1, .int fo, .int 0])), (a0, .inl (cI, 60, .inl it))]) [0, 1, 2, 3] (by decide) rfl
      exact W.iret (v := nI n) hx hb hr (fun t ht hW => ⟨⟨_, (fd, 1, 0), rfl, (by unfold aLose sLose; rw [if_neg (fun h => h c_19), if_neg (fun h => h c_19)]; exact ⟨rfl, rfl⟩), by rw [ht]; exact hP9, hD9⟩, hS.F ht⟩) hS.2.2 dX9_lose_48
    ·
      refine lv_aload_n hx hb dX9_lose_22 rfl (lv_at hl 0 rfl) ?_
      refine lv_iconst (v := 1) hx hb dX9_lose_23 (by decide) ?_
      refine w_V (wc := [(x0, .inr (9, [.ref sx, .ref g0, .ref w0, .ref k0, .ref la, .ref tr, .ref u0, .ref pt, .ref ap, .ref sp, .int fd]))]) (wr := [(sx, .inl (cS, 4, .inr (.inr (.inr (.inr sxf))))), (h0, .inr (6, [.ref a0, .int lo, .int fo, .int (nI n)])), (a0, .inl (cI, 60, .inl it))]) (b := x0) ⟨hx, hb, hml, hown, hts⟩ [.int (1 : Int32)] [] c_X9_found (cwV 1 hts gX9_lose_X9_found rfl rfl rfl (by decide +kernel) ⟨Nat.le_of_ble_eq_true rfl, Nat.le_of_ble_eq_true rfl⟩) hK hN hP hD hS hA [0] [1, 2, 3] rfl (by decide) rfl (by decide) (by decide) (ci := 9) rfl rfl rfl rfl hl.1 rfl (Nat.le_of_ble_eq_true rfl) dX9_lose_24 ⟨Nat.zero_le _, Nat.zero_le _⟩ (fun r u H locs hw hP hD hS => ?_)
      have hP : va_P D vwCl [(sx, .inl (cS, 4, .inr (.inr (.inr (.inr sxf))))), (h0, .inr (6, [.ref a0, .int lo, .int fo, .int (nI n)])), (a0, .inl (cI, 60, .inl it)), (x0, .inr (9, [.ref sx, .ref g0, .ref w0, .ref k0, .ref la, .ref tr, .ref u0, .ref pt, .ref ap, .ref sp, .int (1 : Int32)]))] H := hP
      have hD : va_D A [(sx, .inl (cS, 4, .inr (.inr (.inr (.inr sxf))))), (h0, .inr (6, [.ref a0, .int lo, .int fo, .int (nI n)])), (a0, .inl (cI, 60, .inl it)), (x0, .inr (9, [.ref sx, .ref g0, .ref w0, .ref k0, .ref la, .ref tr, .ref u0, .ref pt, .ref ap, .ref sp, .int (1 : Int32)]))] := hD
      subst hw
      have hP9 := hP.sub (ws' := [(x0, .inr (9, [.ref sx, .ref g0, .ref w0, .ref k0, .ref la, .ref tr, .ref u0, .ref pt, .ref ap, .ref sp, .int (1 : Int32)])), (sx, .inl (cS, 4, .inr (.inr (.inr (.inr sxf))))), (h0, .inr (6, [.ref a0, .int lo, .int fo, .int (nI n)])), (a0, .inl (cI, 60, .inl it))]) [3, 0, 1, 2] rfl
      have hD9 := hD.sub (ws' := [(x0, .inr (9, [.ref sx, .ref g0, .ref w0, .ref k0, .ref la, .ref tr, .ref u0, .ref pt, .ref ap, .ref sp, .int (1 : Int32)])), (sx, .inl (cS, 4, .inr (.inr (.inr (.inr sxf))))), (h0, .inr (6, [.ref a0, .int lo, .int fo, .int (nI n)])), (a0, .inl (cI, 60, .inl it))]) [3, 0, 1, 2] (by decide) rfl
      exact W.iret (v := -10 - (1 : Int32)) hx hb hr (fun t ht hW => ⟨⟨_, (1, lo, n), rfl, (by unfold aLose sLose; rw [if_pos c_19, if_pos c_19]; exact ⟨rfl, rfl⟩), by rw [ht]; exact hP9, hD9⟩, hS.F ht⟩) hS.2.2 dX9_lose_27
  ·
    have c_4 := bz c_4
    exact absurd (show (0 : Int32) ≤ nI k ∧ nI k ≤ 3 from ⟨nI_pos' (by omega), nI_le (b := 3) (by omega) (by decide)⟩) c_4

set_option maxHeartbeats 4000000 in
set_option maxRecDepth 100000 in
theorem c_X9_lose_b {l : Launch} {D : va_G} {cI cS cP : ClassId} {sz : Nat} {x0 g0 w0 k0 la tr u0 pt ap sp : Nat} {fd : Int32} {sx : Nat} {h1 : Int32} (hbad : ¬ (0 ≤ h1 ∧ h1 ≤ 3)) : Met l yX9_lose wsX9_lose ({ frames := 2, cells := 0, slots := 0, locals := 42 }) (PC D (TY cI cS cP) [.ref x0, .int h1] sz [(x0, .inr (9, [.ref sx, .ref g0, .ref w0, .ref k0, .ref la, .ref tr, .ref u0, .ref pt, .ref ap, .ref sp, .int fd]))]) (vp_Si (fun r => r = -2)) 0 0 (fun _ => False) := by
  refine Met.ofW (cc := cX9_lose) (maxL := 3) (ret := (some .int)) (by decide) rfl ?_
  intro p e s m args below meth c s₁ B hml hv
  obtain ⟨rfl, hsz, hP, hK, hD0, hN⟩ := hv
  have hx := B.exec
  have hb := B.bytes
  have hr := B.returns
  have hts := atoms_spec (ws := wsX9_lose) B.pre
  have hown : s.vm.findClass RX9 = some m.cls := findClass_of_methodNamed B.named
  have hlocks := B.notSynchronized
  subst hsz
  have hD := hD0
  have hP : va_P D vwCl [(x0, .inr (9, [.ref sx, .ref g0, .ref w0, .ref k0, .ref la, .ref tr, .ref u0, .ref pt, .ref ap, .ref sp, .int fd]))] s.heap := hP
  have hl := lv_entry ([.ref x0, .int h1]) (n := 3) (Nat.le_of_ble_eq_true rfl)
  rw [lg_entry_eq]
  generalize (lg_sl ([.ref x0, .int h1]) ++ List.replicate (3 - (lg_sl ([.ref x0, .int h1])).length) Slot.unset).toArray = ls at hl ⊢
  have hl : lv_has ls 3 [(0, .ref x0), (1, .int h1)] := hl
  refine lv_iload_n hx hb dX9_lose_0 rfl (lv_at hl 1 rfl) ?_
  refine q_S (tys := TY cI cS cP) (D := D) ⟨hx, hb, hml, hown, hts⟩ [.int h1] [] c_X9_isSheet (va_cwS 1 hts gX9_lose_X9_isSheet rfl rfl rfl (by decide +kernel) ⟨Nat.le_of_ble_eq_true rfl, Nat.le_of_ble_eq_true rfl⟩) hK hN rfl hl.1 rfl (Nat.le_of_ble_eq_true rfl) dX9_lose_1 ⟨Nat.zero_le _, Nat.zero_le _⟩ (fun r hw => ?_)
  subst hw
  refine lv_if_ne (tgt := 10) hx hb dX9_lose_4 (by decide) (fun c_4 => ?_) (fun c_4 => ?_)
  ·
    have c_4 := bnz c_4
    exact absurd c_4 hbad
  ·
    have c_4 := bz c_4
    refine lv_bipush (v := (-2)) hx hb dX9_lose_7 (by decide) ?_
    exact W.iret (v := (-2)) hx hb hr (fun t ht hW => ⟨_, rfl, (by rfl), ht⟩) (fun _ h => absurd h List.not_mem_nil) dX9_lose_9

set_option maxHeartbeats 4000000 in
set_option maxRecDepth 100000 in
theorem c_X9_put {l : Launch} {D : va_G} {cI cS cP : ClassId} {sz : Nat} {x0 g0 w0 k0 la tr u0 pt ap sp : Nat} {fd : Int32} {sx : Nat} {sxf : Nat → Option Nat} {h0 a0 n : Nat} {lo fo : Int32} {it : Nat → Int32} {k : Nat} {fm ix v : Int32} (hk : k < 4) (hsx : sxf k = some h0) (hn : n ≤ 60) : Met l yX9_put wsX9_put ({ frames := 2, cells := 0, slots := 0, locals := 44 }) (PC D (TY cI cS cP) [.ref x0, .int (nI k), .int fm, .int ix, .int v] sz [(x0, .inr (9, [.ref sx, .ref g0, .ref w0, .ref k0, .ref la, .ref tr, .ref u0, .ref pt, .ref ap, .ref sp, .int fd])), (sx, .inl (cS, 4, .inr (.inr (.inr (.inr sxf))))), (h0, .inr (6, [.ref a0, .int lo, .int fo, .int (nI n)])), (a0, .inl (cI, 60, .inl it))]) (QI D (fun (r : Int32) (u : Int32 × (Nat → Int32)) => (r = aPut lo fo n fm ix) ∧ u = sPut fd lo fo n it fm ix v) (fun (u : Int32 × (Nat → Int32)) => [(x0, .inr (9, [.ref sx, .ref g0, .ref w0, .ref k0, .ref la, .ref tr, .ref u0, .ref pt, .ref ap, .ref sp, .int u.1])), (sx, .inl (cS, 4, .inr (.inr (.inr (.inr sxf))))), (h0, .inr (6, [.ref a0, .int lo, .int fo, .int (nI n)])), (a0, .inl (cI, 60, .inl u.2))]) (va_A [(x0, .inr (9, [.ref sx, .ref g0, .ref w0, .ref k0, .ref la, .ref tr, .ref u0, .ref pt, .ref ap, .ref sp, .int fd])), (sx, .inl (cS, 4, .inr (.inr (.inr (.inr sxf))))), (h0, .inr (6, [.ref a0, .int lo, .int fo, .int (nI n)])), (a0, .inl (cI, 60, .inl it))] sz)) 0 0 (va_A [(x0, .inr (9, [.ref sx, .ref g0, .ref w0, .ref k0, .ref la, .ref tr, .ref u0, .ref pt, .ref ap, .ref sp, .int fd])), (sx, .inl (cS, 4, .inr (.inr (.inr (.inr sxf))))), (h0, .inr (6, [.ref a0, .int lo, .int fo, .int (nI n)])), (a0, .inl (cI, 60, .inl it))] sz) := by
  refine Met.ofW (cc := cX9_put) (maxL := 6) (ret := (some .int)) (by decide) rfl ?_
  intro p e s m args below meth c s₁ B hml hv
  obtain ⟨rfl, hsz, hP, hK, hD0, hN⟩ := hv
  have hx := B.exec
  have hb := B.bytes
  have hr := B.returns
  have hts := atoms_spec (ws := wsX9_put) B.pre
  have hown : s.vm.findClass RX9 = some m.cls := findClass_of_methodNamed B.named
  have hlocks := B.notSynchronized
  subst hsz
  have iX6 : ∀ w ∈ u_ws RX6 TX6 4, w ∈ wsX9_put := by decide +kernel
  have iX9 : ∀ w ∈ u_ws RX9 TX9 11, w ∈ wsX9_put := by decide +kernel
  have hD := hD0.self (sz := s.heap.size)
  generalize hAe : va_A [(x0, .inr (9, [.ref sx, .ref g0, .ref w0, .ref k0, .ref la, .ref tr, .ref u0, .ref pt, .ref ap, .ref sp, .int fd])), (sx, .inl (cS, 4, .inr (.inr (.inr (.inr sxf))))), (h0, .inr (6, [.ref a0, .int lo, .int fo, .int (nI n)])), (a0, .inl (cI, 60, .inl it))] s.heap.size = A at hD ⊢
  have hA : ∀ q : Nat, s.heap.size ≤ q → A q := fun q h => by rw [← hAe]; exact Or.inr h
  have hS : va_S A s.heap s.heap [] := va_S.rf
  have hP : va_P D vwCl [(x0, .inr (9, [.ref sx, .ref g0, .ref w0, .ref k0, .ref la, .ref tr, .ref u0, .ref pt, .ref ap, .ref sp, .int fd])), (sx, .inl (cS, 4, .inr (.inr (.inr (.inr sxf))))), (h0, .inr (6, [.ref a0, .int lo, .int fo, .int (nI n)])), (a0, .inl (cI, 60, .inl it))] s.heap := hP
  have hl := lv_entry ([.ref x0, .int (nI k), .int fm, .int ix, .int v]) (n := 6) (Nat.le_of_ble_eq_true rfl)
  rw [lg_entry_eq]
  generalize (lg_sl ([.ref x0, .int (nI k), .int fm, .int ix, .int v]) ++ List.replicate (6 - (lg_sl ([.ref x0, .int (nI k), .int fm, .int ix, .int v])).length) Slot.unset).toArray = ls at hl ⊢
  have hl : lv_has ls 6 [(0, .ref x0), (1, .int (nI k)), (2, .int fm), (3, .int ix), (4, .int v)] := hl
  refine lv_iload_n hx hb dX9_put_0 rfl (lv_at hl 1 rfl) ?_
  refine q_S (tys := TY cI cS cP) (D := D) ⟨hx, hb, hml, hown, hts⟩ [.int (nI k)] [] c_X9_isSheet (va_cwS 1 hts gX9_put_X9_isSheet rfl rfl rfl (by decide +kernel) ⟨Nat.le_of_ble_eq_true rfl, Nat.le_of_ble_eq_true rfl⟩) hK hN rfl hl.1 rfl (Nat.le_of_ble_eq_true rfl) dX9_put_1 ⟨Nat.zero_le _, Nat.zero_le _⟩ (fun r hw => ?_)
  subst hw
  refine lv_if_eq (tgt := 14) hx hb dX9_put_4 (by decide) (fun c_4 => ?_) (fun c_4 => ?_)
  ·
    have c_4 := bz c_4
    exact absurd (show (0 : Int32) ≤ nI k ∧ nI k ≤ 3 from ⟨nI_pos' (by omega), nI_le (b := 3) (by omega) (by decide)⟩) c_4
  ·
    have c_4 := bnz c_4
    refine lv_iload_n hx hb dX9_put_7 rfl (lv_at hl 2 rfl) ?_
    refine q_S (tys := TY cI cS cP) (D := D) ⟨hx, hb, hml, hown, hts⟩ [.int fm] [] c_X9_isForm (va_cwS 1 hts gX9_put_X9_isForm rfl rfl rfl (by decide +kernel) ⟨Nat.le_of_ble_eq_true rfl, Nat.le_of_ble_eq_true rfl⟩) hK hN rfl hl.1 rfl (Nat.le_of_ble_eq_true rfl) dX9_put_8 ⟨Nat.zero_le _, Nat.zero_le _⟩ (fun r hw => ?_)
    subst hw
    refine lv_if_ne (tgt := 17) hx hb dX9_put_11 (by decide) (fun c_11 => ?_) (fun c_11 => ?_)
    ·
      have c_11 := bnz c_11
      refine lv_aload_n hx hb dX9_put_17 rfl (lv_at hl 0 rfl) ?_
      refine va_get (D := D) (ci := 9) (v := .ref sx) (C := RX9) (T := TX9) (N := 11) hx hb hts iX9 hown hK hP 0 rfl rfl 0 (by decide) (hts (.fieldLink RX9 11 "DeepHole" "sheets" "[LDeepHole$Sheet;") (by decide +kernel)) (fun _ h9 => h9) rfl dX9_put_18 ?_
      refine lv_iload_n hx hb dX9_put_21 rfl (lv_at hl 1 rfl) ?_
      refine rd_q hx hb hK hP 1 1 rfl rfl (k := k) (by omega) (by decide) (hsx) dX9_put_22 ?_
      refine lv_iload_n hx hb dX9_put_23 rfl (lv_at hl 2 rfl) ?_
      refine lv_iload_n hx hb dX9_put_24 rfl (lv_at hl 3 rfl) ?_
      refine q_V (wc := [(h0, .inr (6, [.ref a0, .int lo, .int fo, .int (nI n)])), (a0, .inl (cI, 60, .inl it))]) (b := h0) ⟨hx, hb, hml, hown, hts⟩ [.int fm, .int ix] [] c_X6_wrongWith (cwV 2 hts gX9_put_X6_wrongWith rfl rfl rfl (by decide +kernel) ⟨Nat.le_of_ble_eq_true rfl, Nat.le_of_ble_eq_true rfl⟩) hK hN hP hD [2, 3] rfl (by decide) (ci := 6) rfl rfl rfl rfl hl.1 rfl (Nat.le_of_ble_eq_true rfl) dX9_put_25 ⟨Nat.zero_le _, Nat.zero_le _⟩ (fun r hw => ?_)
      subst hw
      refine lv_istore (lv' := [(5, .int (wrongW lo fo n fm ix)), (0, .ref x0), (1, .int (nI k)), (2, .int fm), (3, .int ix), (4, .int v)]) hx hb dX9_put_28 hl (by decide) rfl (fun ls hl => ?_)
      refine lv_iload hx hb dX9_put_30 (lv_at hl 0 rfl) ?_
      refine lv_if_eq (tgt := 42) hx hb dX9_put_32 (by decide) (fun c_32 => ?_) (fun c_32 => ?_)
      ·
        obtain ⟨hlo0, hfo0, j9, hj9, ej9⟩ := wrongW_0 hn c_32
        obtain ⟨j9, hj9, rfl⟩ := (⟨j9, hj9, ej9⟩ : ∃ j, j < n ∧ ix = nI j)
        refine lv_aload_n hx hb dX9_put_42 rfl (lv_at hl 1 rfl) ?_
        refine va_get (D := D) (ci := 9) (v := .ref sx) (C := RX9) (T := TX9) (N := 11) hx hb hts iX9 hown hK hP 0 rfl rfl 0 (by decide) (hts (.fieldLink RX9 11 "DeepHole" "sheets" "[LDeepHole$Sheet;") (by decide +kernel)) (fun _ h9 => h9) rfl dX9_put_43 ?_
        refine lv_iload_n hx hb dX9_put_46 rfl (lv_at hl 2 rfl) ?_
        refine rd_q hx hb hK hP 1 1 rfl rfl (k := k) (by omega) (by decide) (hsx) dX9_put_47 ?_
        refine va_get (D := D) (ci := 6) (v := .ref a0) (C := RX6) (T := TX6) (N := 4) hx hb hts iX6 hown hK hP 2 rfl rfl 0 (by decide) (hts (.fieldLink RX9 290 "DeepHole$Sheet" "items" "[I") (by decide +kernel)) (fun _ h9 => h9) rfl dX9_put_48 ?_
        refine lv_iload_n hx hb dX9_put_51 rfl (lv_at hl 4 rfl) ?_
        refine lv_iload_n hx hb dX9_put_52 rfl (lv_at hl 3 rfl) ?_
        refine lv_iload hx hb dX9_put_53 (lv_at hl 5 rfl) ?_
        refine q_S (tys := TY cI cS cP) (D := D) ⟨hx, hb, hml, hown, hts⟩ [.int fm, .int v] [.int (nI j9), .ref a0] c_X9_lowestBits (va_cwS 2 hts gX9_put_X9_lowestBits rfl rfl rfl (by decide +kernel) ⟨Nat.le_of_ble_eq_true rfl, Nat.le_of_ble_eq_true rfl⟩) hK hN rfl hl.1 rfl (Nat.le_of_ble_eq_true rfl) dX9_put_55 ⟨Nat.zero_le _, Nat.zero_le _⟩ (fun r hw => ?_)
        subst hw
        refine wr_i hx hb hK hP hD hS 3 0 rfl rfl (k := j9) (by omega) (by decide) dX9_put_58 (fun H locs hP hD hS => ?_)
        have hP : va_P D vwCl [(x0, .inr (9, [.ref sx, .ref g0, .ref w0, .ref k0, .ref la, .ref tr, .ref u0, .ref pt, .ref ap, .ref sp, .int fd])), (sx, .inl (cS, 4, .inr (.inr (.inr (.inr sxf))))), (h0, .inr (6, [.ref a0, .int lo, .int fo, .int (nI n)])), (a0, .inl (cI, 60, .inl (upd it j9 (lowB fm v))))] H := hP
        have hD : va_D A [(x0, .inr (9, [.ref sx, .ref g0, .ref w0, .ref k0, .ref la, .ref tr, .ref u0, .ref pt, .ref ap, .ref sp, .int fd])), (sx, .inl (cS, 4, .inr (.inr (.inr (.inr sxf))))), (h0, .inr (6, [.ref a0, .int lo, .int fo, .int (nI n)])), (a0, .inl (cI, 60, .inl (upd it j9 (lowB fm v))))] := hD
        refine lv_iconst (v := 1) hx hb dX9_put_59 (by decide) ?_
        have hP9 := hP.sub (ws' := [(x0, .inr (9, [.ref sx, .ref g0, .ref w0, .ref k0, .ref la, .ref tr, .ref u0, .ref pt, .ref ap, .ref sp, .int fd])), (sx, .inl (cS, 4, .inr (.inr (.inr (.inr sxf))))), (h0, .inr (6, [.ref a0, .int lo, .int fo, .int (nI n)])), (a0, .inl (cI, 60, .inl (upd it j9 (lowB fm v))))]) [0, 1, 2, 3] rfl
        have hD9 := hD.sub (ws' := [(x0, .inr (9, [.ref sx, .ref g0, .ref w0, .ref k0, .ref la, .ref tr, .ref u0, .ref pt, .ref ap, .ref sp, .int fd])), (sx, .inl (cS, 4, .inr (.inr (.inr (.inr sxf))))), (h0, .inr (6, [.ref a0, .int lo, .int fo, .int (nI n)])), (a0, .inl (cI, 60, .inl (upd it j9 (lowB fm v))))]) [0, 1, 2, 3] (by decide) rfl
        exact W.iret (v := 1) hx hb hr (fun t ht hW => ⟨⟨_, (fd, upd it j9 (lowB fm v)), rfl, (by unfold aPut sPut; rw [if_pos c_11, if_pos c_11, if_pos c_32, if_pos c_32, nI_clamp (by omega)]; exact ⟨rfl, rfl⟩), by rw [ht]; exact hP9, hD9⟩, hS.F ht⟩) hS.2.2 dX9_put_60
      ·
        refine lv_aload_n hx hb dX9_put_35 rfl (lv_at hl 1 rfl) ?_
        refine lv_iload hx hb dX9_put_36 (lv_at hl 0 rfl) ?_
        refine w_V (wc := [(x0, .inr (9, [.ref sx, .ref g0, .ref w0, .ref k0, .ref la, .ref tr, .ref u0, .ref pt, .ref ap, .ref sp, .int fd]))]) (wr := [(sx, .inl (cS, 4, .inr (.inr (.inr (.inr sxf))))), (h0, .inr (6, [.ref a0, .int lo, .int fo, .int (nI n)])), (a0, .inl (cI, 60, .inl it))]) (b := x0) ⟨hx, hb, hml, hown, hts⟩ [.int (wrongW lo fo n fm ix)] [] c_X9_found (cwV 1 hts gX9_put_X9_found rfl rfl rfl (by decide +kernel) ⟨Nat.le_of_ble_eq_true rfl, Nat.le_of_ble_eq_true rfl⟩) hK hN hP hD hS hA [0] [1, 2, 3] rfl (by decide) rfl (by decide) (by decide) (ci := 9) rfl rfl rfl rfl hl.1 rfl (Nat.le_of_ble_eq_true rfl) dX9_put_38 ⟨Nat.zero_le _, Nat.zero_le _⟩ (fun r u H locs hw hP hD hS => ?_)
        have hP : va_P D vwCl [(sx, .inl (cS, 4, .inr (.inr (.inr (.inr sxf))))), (h0, .inr (6, [.ref a0, .int lo, .int fo, .int (nI n)])), (a0, .inl (cI, 60, .inl it)), (x0, .inr (9, [.ref sx, .ref g0, .ref w0, .ref k0, .ref la, .ref tr, .ref u0, .ref pt, .ref ap, .ref sp, .int (wrongW lo fo n fm ix)]))] H := hP
        have hD : va_D A [(sx, .inl (cS, 4, .inr (.inr (.inr (.inr sxf))))), (h0, .inr (6, [.ref a0, .int lo, .int fo, .int (nI n)])), (a0, .inl (cI, 60, .inl it)), (x0, .inr (9, [.ref sx, .ref g0, .ref w0, .ref k0, .ref la, .ref tr, .ref u0, .ref pt, .ref ap, .ref sp, .int (wrongW lo fo n fm ix)]))] := hD
        subst hw
        have hP9 := hP.sub (ws' := [(x0, .inr (9, [.ref sx, .ref g0, .ref w0, .ref k0, .ref la, .ref tr, .ref u0, .ref pt, .ref ap, .ref sp, .int (wrongW lo fo n fm ix)])), (sx, .inl (cS, 4, .inr (.inr (.inr (.inr sxf))))), (h0, .inr (6, [.ref a0, .int lo, .int fo, .int (nI n)])), (a0, .inl (cI, 60, .inl it))]) [3, 0, 1, 2] rfl
        have hD9 := hD.sub (ws' := [(x0, .inr (9, [.ref sx, .ref g0, .ref w0, .ref k0, .ref la, .ref tr, .ref u0, .ref pt, .ref ap, .ref sp, .int (wrongW lo fo n fm ix)])), (sx, .inl (cS, 4, .inr (.inr (.inr (.inr sxf))))), (h0, .inr (6, [.ref a0, .int lo, .int fo, .int (nI n)])), (a0, .inl (cI, 60, .inl it))]) [3, 0, 1, 2] (by decide) rfl
        exact W.iret (v := -10 - (wrongW lo fo n fm ix)) hx hb hr (fun t ht hW => ⟨⟨_, (wrongW lo fo n fm ix, it), rfl, (by unfold aPut sPut; rw [if_pos c_11, if_pos c_11, if_neg c_32, if_neg c_32]; exact ⟨rfl, rfl⟩), by rw [ht]; exact hP9, hD9⟩, hS.F ht⟩) hS.2.2 dX9_put_41
    ·
      have c_11 := bz c_11
      refine lv_bipush (v := (-2)) hx hb dX9_put_14 (by decide) ?_
      have hP9 := hP.sub (ws' := [(x0, .inr (9, [.ref sx, .ref g0, .ref w0, .ref k0, .ref la, .ref tr, .ref u0, .ref pt, .ref ap, .ref sp, .int fd])), (sx, .inl (cS, 4, .inr (.inr (.inr (.inr sxf))))), (h0, .inr (6, [.ref a0, .int lo, .int fo, .int (nI n)])), (a0, .inl (cI, 60, .inl it))]) [0, 1, 2, 3] rfl
      have hD9 := hD.sub (ws' := [(x0, .inr (9, [.ref sx, .ref g0, .ref w0, .ref k0, .ref la, .ref tr, .ref u0, .ref pt, .ref ap, .ref sp, .int fd])), (sx, .inl (cS, 4, .inr (.inr (.inr (.inr sxf))))), (h0, .inr (6, [.ref a0, .int lo, .int fo, .int (nI n)])), (a0, .inl (cI, 60, .inl it))]) [0, 1, 2, 3] (by decide) rfl
      exact W.iret (v := (-2)) hx hb hr (fun t ht hW => ⟨⟨_, (fd, it), rfl, (by unfold aPut sPut; rw [if_neg c_11, if_neg c_11]; exact ⟨rfl, rfl⟩), by rw [ht]; exact hP9, hD9⟩, hS.F ht⟩) hS.2.2 dX9_put_16

set_option maxHeartbeats 4000000 in
set_option maxRecDepth 100000 in
theorem c_X9_put_b {l : Launch} {D : va_G} {cI cS cP : ClassId} {sz : Nat} {x0 g0 w0 k0 la tr u0 pt ap sp : Nat} {fd : Int32} {sx : Nat} {h1 fm ix v : Int32} (hbad : ¬ (0 ≤ h1 ∧ h1 ≤ 3)) : Met l yX9_put wsX9_put ({ frames := 2, cells := 0, slots := 0, locals := 42 }) (PC D (TY cI cS cP) [.ref x0, .int h1, .int fm, .int ix, .int v] sz [(x0, .inr (9, [.ref sx, .ref g0, .ref w0, .ref k0, .ref la, .ref tr, .ref u0, .ref pt, .ref ap, .ref sp, .int fd]))]) (vp_Si (fun r => r = -2)) 0 0 (fun _ => False) := by
  refine Met.ofW (cc := cX9_put) (maxL := 6) (ret := (some .int)) (by decide) rfl ?_
  intro p e s m args below meth c s₁ B hml hv
  obtain ⟨rfl, hsz, hP, hK, hD0, hN⟩ := hv
  have hx := B.exec
  have hb := B.bytes
  have hr := B.returns
  have hts := atoms_spec (ws := wsX9_put) B.pre
  have hown : s.vm.findClass RX9 = some m.cls := findClass_of_methodNamed B.named
  have hlocks := B.notSynchronized
  subst hsz
  have hD := hD0
  have hP : va_P D vwCl [(x0, .inr (9, [.ref sx, .ref g0, .ref w0, .ref k0, .ref la, .ref tr, .ref u0, .ref pt, .ref ap, .ref sp, .int fd]))] s.heap := hP
  have hl := lv_entry ([.ref x0, .int h1, .int fm, .int ix, .int v]) (n := 6) (Nat.le_of_ble_eq_true rfl)
  rw [lg_entry_eq]
  generalize (lg_sl ([.ref x0, .int h1, .int fm, .int ix, .int v]) ++ List.replicate (6 - (lg_sl ([.ref x0, .int h1, .int fm, .int ix, .int v])).length) Slot.unset).toArray = ls at hl ⊢
  have hl : lv_has ls 6 [(0, .ref x0), (1, .int h1), (2, .int fm), (3, .int ix), (4, .int v)] := hl
  refine lv_iload_n hx hb dX9_put_0 rfl (lv_at hl 1 rfl) ?_
  refine q_S (tys := TY cI cS cP) (D := D) ⟨hx, hb, hml, hown, hts⟩ [.int h1] [] c_X9_isSheet (va_cwS 1 hts gX9_put_X9_isSheet rfl rfl rfl (by decide +kernel) ⟨Nat.le_of_ble_eq_true rfl, Nat.le_of_ble_eq_true rfl⟩) hK hN rfl hl.1 rfl (Nat.le_of_ble_eq_true rfl) dX9_put_1 ⟨Nat.zero_le _, Nat.zero_le _⟩ (fun r hw => ?_)
  subst hw
  refine lv_if_eq (tgt := 14) hx hb dX9_put_4 (by decide) (fun c_4 => ?_) (fun c_4 => ?_)
  ·
    have c_4 := bz c_4
    refine lv_bipush (v := (-2)) hx hb dX9_put_14 (by decide) ?_
    exact W.iret (v := (-2)) hx hb hr (fun t ht hW => ⟨_, rfl, (by rfl), ht⟩) (fun _ h => absurd h List.not_mem_nil) dX9_put_16
  ·
    have c_4 := bnz c_4
    exact absurd c_4 hbad

set_option maxHeartbeats 4000000 in
set_option maxRecDepth 100000 in
theorem c_X9_get {l : Launch} {D : va_G} {cI cS cP : ClassId} {sz : Nat} {x0 g0 w0 k0 la tr u0 pt ap sp : Nat} {fd : Int32} {sx : Nat} {sxf : Nat → Option Nat} {h0 a0 n : Nat} {lo fo : Int32} {it : Nat → Int32} {k : Nat} {fm ix : Int32} (hk : k < 4) (hsx : sxf k = some h0) (hn : n ≤ 60) : Met l yX9_get wsX9_get ({ frames := 2, cells := 0, slots := 0, locals := 44 }) (PC D (TY cI cS cP) [.ref x0, .int (nI k), .int fm, .int ix] sz [(x0, .inr (9, [.ref sx, .ref g0, .ref w0, .ref k0, .ref la, .ref tr, .ref u0, .ref pt, .ref ap, .ref sp, .int fd])), (sx, .inl (cS, 4, .inr (.inr (.inr (.inr sxf))))), (h0, .inr (6, [.ref a0, .int lo, .int fo, .int (nI n)])), (a0, .inl (cI, 60, .inl it))]) (QI D (fun (r : Int32) (u : Int32) => (r = aGet lo fo n it fm ix) ∧ u = sGet fd lo fo n fm ix) (fun (u : Int32) => [(x0, .inr (9, [.ref sx, .ref g0, .ref w0, .ref k0, .ref la, .ref tr, .ref u0, .ref pt, .ref ap, .ref sp, .int u])), (sx, .inl (cS, 4, .inr (.inr (.inr (.inr sxf))))), (h0, .inr (6, [.ref a0, .int lo, .int fo, .int (nI n)])), (a0, .inl (cI, 60, .inl it))]) (va_A [(x0, .inr (9, [.ref sx, .ref g0, .ref w0, .ref k0, .ref la, .ref tr, .ref u0, .ref pt, .ref ap, .ref sp, .int fd])), (sx, .inl (cS, 4, .inr (.inr (.inr (.inr sxf))))), (h0, .inr (6, [.ref a0, .int lo, .int fo, .int (nI n)])), (a0, .inl (cI, 60, .inl it))] sz)) 0 0 (va_A [(x0, .inr (9, [.ref sx, .ref g0, .ref w0, .ref k0, .ref la, .ref tr, .ref u0, .ref pt, .ref ap, .ref sp, .int fd])), (sx, .inl (cS, 4, .inr (.inr (.inr (.inr sxf))))), (h0, .inr (6, [.ref a0, .int lo, .int fo, .int (nI n)])), (a0, .inl (cI, 60, .inl it))] sz) := by
  refine Met.ofW (cc := cX9_get) (maxL := 5) (ret := (some .int)) (by decide) rfl ?_
  intro p e s m args below meth c s₁ B hml hv
  obtain ⟨rfl, hsz, hP, hK, hD0, hN⟩ := hv
  have hx := B.exec
  have hb := B.bytes
  have hr := B.returns
  have hts := atoms_spec (ws := wsX9_get) B.pre
  have hown : s.vm.findClass RX9 = some m.cls := findClass_of_methodNamed B.named
  have hlocks := B.notSynchronized
  subst hsz
  have iX6 : ∀ w ∈ u_ws RX6 TX6 4, w ∈ wsX9_get := by decide +kernel
  have iX9 : ∀ w ∈ u_ws RX9 TX9 11, w ∈ wsX9_get := by decide +kernel
  have hD := hD0.self (sz := s.heap.size)
  generalize hAe : va_A [(x0, .inr (9, [.ref sx, .ref g0, .ref w0, .ref k0, .ref la, .ref tr, .ref u0, .ref pt, .ref ap, .ref sp, .int fd])), (sx, .inl (cS, 4, .inr (.inr (.inr (.inr sxf))))), (h0, .inr (6, [.ref a0, .int lo, .int fo, .int (nI n)])), (a0, .inl (cI, 60, .inl it))] s.heap.size = A at hD ⊢
  have hA : ∀ q : Nat, s.heap.size ≤ q → A q := fun q h => by rw [← hAe]; exact Or.inr h
  have hS : va_S A s.heap s.heap [] := va_S.rf
  have hP : va_P D vwCl [(x0, .inr (9, [.ref sx, .ref g0, .ref w0, .ref k0, .ref la, .ref tr, .ref u0, .ref pt, .ref ap, .ref sp, .int fd])), (sx, .inl (cS, 4, .inr (.inr (.inr (.inr sxf))))), (h0, .inr (6, [.ref a0, .int lo, .int fo, .int (nI n)])), (a0, .inl (cI, 60, .inl it))] s.heap := hP
  have hl := lv_entry ([.ref x0, .int (nI k), .int fm, .int ix]) (n := 5) (Nat.le_of_ble_eq_true rfl)
  rw [lg_entry_eq]
  generalize (lg_sl ([.ref x0, .int (nI k), .int fm, .int ix]) ++ List.replicate (5 - (lg_sl ([.ref x0, .int (nI k), .int fm, .int ix])).length) Slot.unset).toArray = ls at hl ⊢
  have hl : lv_has ls 5 [(0, .ref x0), (1, .int (nI k)), (2, .int fm), (3, .int ix)] := hl
  refine lv_iload_n hx hb dX9_get_0 rfl (lv_at hl 1 rfl) ?_
  refine q_S (tys := TY cI cS cP) (D := D) ⟨hx, hb, hml, hown, hts⟩ [.int (nI k)] [] c_X9_isSheet (va_cwS 1 hts gX9_get_X9_isSheet rfl rfl rfl (by decide +kernel) ⟨Nat.le_of_ble_eq_true rfl, Nat.le_of_ble_eq_true rfl⟩) hK hN rfl hl.1 rfl (Nat.le_of_ble_eq_true rfl) dX9_get_1 ⟨Nat.zero_le _, Nat.zero_le _⟩ (fun r hw => ?_)
  subst hw
  refine lv_if_eq (tgt := 14) hx hb dX9_get_4 (by decide) (fun c_4 => ?_) (fun c_4 => ?_)
  ·
    have c_4 := bz c_4
    exact absurd (show (0 : Int32) ≤ nI k ∧ nI k ≤ 3 from ⟨nI_pos' (by omega), nI_le (b := 3) (by omega) (by decide)⟩) c_4
  ·
    have c_4 := bnz c_4
    refine lv_iload_n hx hb dX9_get_7 rfl (lv_at hl 2 rfl) ?_
    refine q_S (tys := TY cI cS cP) (D := D) ⟨hx, hb, hml, hown, hts⟩ [.int fm] [] c_X9_isForm (va_cwS 1 hts gX9_get_X9_isForm rfl rfl rfl (by decide +kernel) ⟨Nat.le_of_ble_eq_true rfl, Nat.le_of_ble_eq_true rfl⟩) hK hN rfl hl.1 rfl (Nat.le_of_ble_eq_true rfl) dX9_get_8 ⟨Nat.zero_le _, Nat.zero_le _⟩ (fun r hw => ?_)
    subst hw
    refine lv_if_ne (tgt := 17) hx hb dX9_get_11 (by decide) (fun c_11 => ?_) (fun c_11 => ?_)
    ·
      have c_11 := bnz c_11
      refine lv_aload_n hx hb dX9_get_17 rfl (lv_at hl 0 rfl) ?_
      refine va_get (D := D) (ci := 9) (v := .ref sx) (C := RX9) (T := TX9) (N := 11) hx hb hts iX9 hown hK hP 0 rfl rfl 0 (by decide) (hts (.fieldLink RX9 11 "DeepHole" "sheets" "[LDeepHole$Sheet;") (by decide +kernel)) (fun _ h9 => h9) rfl dX9_get_18 ?_
      refine lv_iload_n hx hb dX9_get_21 rfl (lv_at hl 1 rfl) ?_
      refine rd_q hx hb hK hP 1 1 rfl rfl (k := k) (by omega) (by decide) (hsx) dX9_get_22 ?_
      refine lv_iload_n hx hb dX9_get_23 rfl (lv_at hl 2 rfl) ?_
      refine lv_iload_n hx hb dX9_get_24 rfl (lv_at hl 3 rfl) ?_
      refine q_V (wc := [(h0, .inr (6, [.ref a0, .int lo, .int fo, .int (nI n)])), (a0, .inl (cI, 60, .inl it))]) (b := h0) ⟨hx, hb, hml, hown, hts⟩ [.int fm, .int ix] [] c_X6_wrongWith (cwV 2 hts gX9_get_X6_wrongWith rfl rfl rfl (by decide +kernel) ⟨Nat.le_of_ble_eq_true rfl, Nat.le_of_ble_eq_true rfl⟩) hK hN hP hD [2, 3] rfl (by decide) (ci := 6) rfl rfl rfl rfl hl.1 rfl (Nat.le_of_ble_eq_true rfl) dX9_get_25 ⟨Nat.zero_le _, Nat.zero_le _⟩ (fun r hw => ?_)
      subst hw
      refine lv_istore (lv' := [(4, .int (wrongW lo fo n fm ix)), (0, .ref x0), (1, .int (nI k)), (2, .int fm), (3, .int ix)]) hx hb dX9_get_28 hl (by decide) rfl (fun ls hl => ?_)
      refine lv_iload hx hb dX9_get_30 (lv_at hl 0 rfl) ?_
      refine lv_if_eq (tgt := 45) hx hb dX9_get_32 (by decide) (fun c_32 => ?_) (fun c_32 => ?_)
      ·
        obtain ⟨hlo0, hfo0, j9, hj9, ej9⟩ := wrongW_0 hn c_32
        obtain ⟨j9, hj9, rfl⟩ := (⟨j9, hj9, ej9⟩ : ∃ j, j < n ∧ ix = nI j)
        refine lv_aload_n hx hb dX9_get_45 rfl (lv_at hl 1 rfl) ?_
        refine va_get (D := D) (ci := 9) (v := .ref sx) (C := RX9) (T := TX9) (N := 11) hx hb hts iX9 hown hK hP 0 rfl rfl 0 (by decide) (hts (.fieldLink RX9 11 "DeepHole" "sheets" "[LDeepHole$Sheet;") (by decide +kernel)) (fun _ h9 => h9) rfl dX9_get_46 ?_
        refine lv_iload_n hx hb dX9_get_49 rfl (lv_at hl 2 rfl) ?_
        refine rd_q hx hb hK hP 1 1 rfl rfl (k := k) (by omega) (by decide) (hsx) dX9_get_50 ?_
        refine va_get (D := D) (ci := 6) (v := .ref a0) (C := RX6) (T := TX6) (N := 4) hx hb hts iX6 hown hK hP 2 rfl rfl 0 (by decide) (hts (.fieldLink RX9 290 "DeepHole$Sheet" "items" "[I") (by decide +kernel)) (fun _ h9 => h9) rfl dX9_get_51 ?_
        refine lv_iload_n hx hb dX9_get_54 rfl (lv_at hl 4 rfl) ?_
        refine rd_i hx hb hK hP 3 0 rfl rfl (k := j9) (by omega) (by decide) dX9_get_55 ?_
        have hP9 := hP.sub (ws' := [(x0, .inr (9, [.ref sx, .ref g0, .ref w0, .ref k0, .ref la, .ref tr, .ref u0, .ref pt, .ref ap, .ref sp, .int fd])), (sx, .inl (cS, 4, .inr (.inr (.inr (.inr sxf))))), (h0, .inr (6, [.ref a0, .int lo, .int fo, .int (nI n)])), (a0, .inl (cI, 60, .inl it))]) [0, 1, 2, 3] rfl
        have hD9 := hD.sub (ws' := [(x0, .inr (9, [.ref sx, .ref g0, .ref w0, .ref k0, .ref la, .ref tr, .ref u0, .ref pt, .ref ap, .ref sp, .int fd])), (sx, .inl (cS, 4, .inr (.inr (.inr (.inr sxf))))), (h0, .inr (6, [.ref a0, .int lo, .int fo, .int (nI n)])), (a0, .inl (cI, 60, .inl it))]) [0, 1, 2, 3] (by decide) rfl
        exact W.iret (v := it j9) hx hb hr (fun t ht hW => ⟨⟨_, fd, rfl, (by unfold aGet sGet; rw [if_pos c_11, if_pos c_11, if_pos c_32, if_pos c_32, nI_clamp (by omega)]; exact ⟨rfl, rfl⟩), by rw [ht]; exact hP9, hD9⟩, hS.F ht⟩) hS.2.2 dX9_get_56
      ·
        refine lv_aload_n hx hb dX9_get_35 rfl (lv_at hl 1 rfl) ?_
        refine lv_iload hx hb dX9_get_36 (lv_at hl 0 rfl) ?_
        refine w_V (wc := [(x0, .inr (9, [.ref sx, .ref g0, .ref w0, .ref k0, .ref la, .ref tr, .ref u0, .ref pt, .ref ap, .ref sp, .int fd]))]) (wr := [(sx, .inl (cS, 4, .inr (.inr (.inr (.inr sxf))))), (h0, .inr (6, [.ref a0, .int lo, .int fo, .int (nI n)])), (a0, .inl (cI, 60, .inl it))]) (b := x0) ⟨hx, hb, hml, hown, hts⟩ [.int (wrongW lo fo n fm ix)] [] c_X9_found (cwV 1 hts gX9_get_X9_found rfl rfl rfl (by decide +kernel) ⟨Nat.le_of_ble_eq_true rfl, Nat.le_of_ble_eq_true rfl⟩) hK hN hP hD hS hA [0] [1, 2, 3] rfl (by decide) rfl (by decide) (by decide) (ci := 9) rfl rfl rfl rfl hl.1 rfl (Nat.le_of_ble_eq_true rfl) dX9_get_38 ⟨Nat.zero_le _, Nat.zero_le _⟩ (fun r u H locs hw hP hD hS => ?_)
        have hP : va_P D vwCl [(sx, .inl (cS, 4, .inr (.inr (.inr (.inr sxf))))), (h0, .inr (6, [.ref a0, .int lo, .int fo, .int (nI n)])), (a0, .inl (cI, 60, .inl it)), (x0, .inr (9, [.ref sx, .ref g0, .ref w0, .ref k0, .ref la, .ref tr, .ref u0, .ref pt, .ref ap, .ref sp, .int (wrongW lo fo n fm ix)]))] H := hP
        have hD : va_D A [(sx, .inl (cS, 4, .inr (.inr (.inr (.inr sxf))))), (h0, .inr (6, [.ref a0, .int lo, .int fo, .int (nI n)])), (a0, .inl (cI, 60, .inl it)), (x0, .inr (9, [.ref sx, .ref g0, .ref w0, .ref k0, .ref la, .ref tr, .ref u0, .ref pt, .ref ap, .ref sp, .int (wrongW lo fo n fm ix)]))] := hD
        subst hw
        refine lv_pop hx hb dX9_get_41 rfl ?_
        refine lv_ldc hx hb hown (hts (.constant RX9 243 (-2147483648)) (by decide +kernel)) dX9_get_42 ?_
        have hP9 := hP.sub (ws' := [(x0, .inr (9, [.ref sx, .ref g0, .ref w0, .ref k0, .ref la, .ref tr, .ref u0, .ref pt, .ref ap, .ref sp, .int (wrongW lo fo n fm ix)])), (sx, .inl (cS, 4, .inr (.inr (.inr (.inr sxf))))), (h0, .inr (6, [.ref a0, .int lo, .int fo, .int (nI n)])), (a0, .inl (cI, 60, .inl it))]) [3, 0, 1, 2] rfl
        have hD9 := hD.sub (ws' := [(x0, .inr (9, [.ref sx, .ref g0, .ref w0, .ref k0, .ref la, .ref tr, .ref u0, .ref pt, .ref ap, .ref sp, .int (wrongW lo fo n fm ix)])), (sx, .inl (cS, 4, .inr (.inr (.inr (.inr sxf))))), (h0, .inr (6, [.ref a0, .int lo, .int fo, .int (nI n)])), (a0, .inl (cI, 60, .inl it))]) [3, 0, 1, 2] (by decide) rfl
        exact W.iret (v := (-2147483648)) hx hb hr (fun t ht hW => ⟨⟨_, wrongW lo fo n fm ix, rfl, (by unfold aGet sGet; rw [if_pos c_11, if_pos c_11, if_neg c_32, if_neg c_32]; exact ⟨rfl, rfl⟩), by rw [ht]; exact hP9, hD9⟩, hS.F ht⟩) hS.2.2 dX9_get_44
    ·
      have c_11 := bz c_11
      refine lv_ldc hx hb hown (hts (.constant RX9 243 (-2147483648)) (by decide +kernel)) dX9_get_14 ?_
      have hP9 := hP.sub (ws' := [(x0, .inr (9, [.ref sx, .ref g0, .ref w0, .ref k0, .ref la, .ref tr, .ref u0, .ref pt, .ref ap, .ref sp, .int fd])), (sx, .inl (cS, 4, .inr (.inr (.inr (.inr sxf))))), (h0, .inr (6, [.ref a0, .int lo, .int fo, .int (nI n)])), (a0, .inl (cI, 60, .inl it))]) [0, 1, 2, 3] rfl
      have hD9 := hD.sub (ws' := [(x0, .inr (9, [.ref sx, .ref g0, .ref w0, .ref k0, .ref la, .ref tr, .ref u0, .ref pt, .ref ap, .ref sp, .int fd])), (sx, .inl (cS, 4, .inr (.inr (.inr (.inr sxf))))), (h0, .inr (6, [.ref a0, .int lo, .int fo, .int (nI n)])), (a0, .inl (cI, 60, .inl it))]) [0, 1, 2, 3] (by decide) rfl
      exact W.iret (v := (-2147483648)) hx hb hr (fun t ht hW => ⟨⟨_, fd, rfl, (by unfold aGet sGet; rw [if_neg c_11, if_neg c_11]; exact ⟨rfl, rfl⟩), by rw [ht]; exact hP9, hD9⟩, hS.F ht⟩) hS.2.2 dX9_get_16

set_option maxHeartbeats 4000000 in
set_option maxRecDepth 100000 in
theorem c_X9_get_b {l : Launch} {D : va_G} {cI cS cP : ClassId} {sz : Nat} {x0 g0 w0 k0 la tr u0 pt ap sp : Nat} {fd : Int32} {sx : Nat} {h1 fm ix : Int32} (hbad : ¬ (0 ≤ h1 ∧ h1 ≤ 3)) : Met l yX9_get wsX9_get ({ frames := 2, cells := 0, slots := 0, locals := 42 }) (PC D (TY cI cS cP) [.ref x0, .int h1, .int fm, .int ix] sz [(x0, .inr (9, [.ref sx, .ref g0, .ref w0, .ref k0, .ref la, .ref tr, .ref u0, .ref pt, .ref ap, .ref sp, .int fd]))]) (vp_Si (fun r => r = -2147483648)) 0 0 (fun _ => False) := by
  refine Met.ofW (cc := cX9_get) (maxL := 5) (ret := (some .int)) (by decide) rfl ?_
  intro p e s m args below meth c s₁ B hml hv
  obtain ⟨rfl, hsz, hP, hK, hD0, hN⟩ := hv
  have hx := B.exec
  have hb := B.bytes
  have hr := B.returns
  have hts := atoms_spec (ws := wsX9_get) B.pre
  have hown : s.vm.findClass RX9 = some m.cls := findClass_of_methodNamed B.named
  have hlocks := B.notSynchronized
  subst hsz
  have hD := hD0
  have hP : va_P D vwCl [(x0, .inr (9, [.ref sx, .ref g0, .ref w0, .ref k0, .ref la, .ref tr, .ref u0, .ref pt, .ref ap, .ref sp, .int fd]))] s.heap := hP
  have hl := lv_entry ([.ref x0, .int h1, .int fm, .int ix]) (n := 5) (Nat.le_of_ble_eq_true rfl)
  rw [lg_entry_eq]
  generalize (lg_sl ([.ref x0, .int h1, .int fm, .int ix]) ++ List.replicate (5 - (lg_sl ([.ref x0, .int h1, .int fm, .int ix])).length) Slot.unset).toArray = ls at hl ⊢
  have hl : lv_has ls 5 [(0, .ref x0), (1, .int h1), (2, .int fm), (3, .int ix)] := hl
  refine lv_iload_n hx hb dX9_get_0 rfl (lv_at hl 1 rfl) ?_
  refine q_S (tys := TY cI cS cP) (D := D) ⟨hx, hb, hml, hown, hts⟩ [.int h1] [] c_X9_isSheet (va_cwS 1 hts gX9_get_X9_isSheet rfl rfl rfl (by decide +kernel) ⟨Nat.le_of_ble_eq_true rfl, Nat.le_of_ble_eq_true rfl⟩) hK hN rfl hl.1 rfl (Nat.le_of_ble_eq_true rfl) dX9_get_1 ⟨Nat.zero_le _, Nat.zero_le _⟩ (fun r hw => ?_)
  subst hw
  refine lv_if_eq (tgt := 14) hx hb dX9_get_4 (by decide) (fun c_4 => ?_) (fun c_4 => ?_)
  ·
    have c_4 := bz c_4
    refine lv_ldc hx hb hown (hts (.constant RX9 243 (-2147483648)) (by decide +kernel)) dX9_get_14 ?_
    exact W.iret (v := (-2147483648)) hx hb hr (fun t ht hW => ⟨_, rfl, (by rfl), ht⟩) (fun _ h => absurd h List.not_mem_nil) dX9_get_16
  ·
    have c_4 := bnz c_4
    exact absurd c_4 hbad
