set_option maxHeartbeats 4000000 in
set_option maxRecDepth 100000 in
theorem c_X10_met {l : Launch} {D : va_G} {cI cS cP : ClassId} {sz : Nat} {m0 qk qp qr qc qm qb qf qs qt qx qy qo qz qi qv : Nat} {d sh low high nb cap sw np fe te kk : Nat} {le mo kd am wt md no nt fd : Int32} {z1 z2 z3 z4 z5 : Int64} {n1 : Int32}  : Met l yX10_met wsX10_met ({ frames := 0, cells := 0, slots := 0, locals := 0 }) (PC D (TY cI cS cP) [.ref m0, .int n1] sz [(m0, .inr (10, [.ref qk, .int (nI d), .int (nI sh), .int (nI low), .int (nI high), .int le, .int mo, .int (nI nb), .ref qp, .ref qr, .ref qc, .ref qm, .ref qb, .int (nI cap), .int kd, .int am, .int wt, .int md, .long z1, .long z2, .long z3, .long z4, .long z5, .int (nI sw), .int (nI np), .ref qf, .ref qs, .int (nI fe), .int (nI te), .int (nI kk), .ref qt, .ref qx, .ref qy, .int no, .int nt, .ref qo, .ref qz, .ref qi, .ref qv, .int fd]))]) (QI D (fun (r : Int32) (u : Unit) => r = -10 - n1) (fun (u : Unit) => [(m0, .inr (10, [.ref qk, .int (nI d), .int (nI sh), .int (nI low), .int (nI high), .int le, .int mo, .int (nI nb), .ref qp, .ref qr, .ref qc, .ref qm, .ref qb, .int (nI cap), .int kd, .int am, .int wt, .int md, .long z1, .long z2, .long z3, .long z4, .long z5, .int (nI sw), .int (nI np), .ref qf, .ref qs, .int (nI fe), .int (nI te), .int (nI kk), .ref qt, .ref qx, .ref qy, .int no, .int nt, .ref qo, .ref qz, .ref qi, .ref qv, .int n1]))]) (va_A [(m0, .inr (10, [.ref qk, .int (nI d), .int (nI sh), .int (nI low), .int (nI high), .int le, .int mo, .int (nI nb), .ref qp, .ref qr, .ref qc, .ref qm, .ref qb, .int (nI cap), .int kd, .int am, .int wt, .int md, .long z1, .long z2, .long z3, .long z4, .long z5, .int (nI sw), .int (nI np), .ref qf, .ref qs, .int (nI fe), .int (nI te), .int (nI kk), .ref qt, .ref qx, .ref qy, .int no, .int nt, .ref qo, .ref qz, .ref qi, .ref qv, .int fd]))] sz)) 0 0 (va_A [(m0, .inr (10, [.ref qk, .int (nI d), .int (nI sh), .int (nI low), .int (nI high), .int le, .int mo, .int (nI nb), .ref qp, .ref qr, .ref qc, .ref qm, .ref qb, .int (nI cap), .int kd, .int am, .int wt, .int md, .long z1, .long z2, .long z3, .long z4, .long z5, .int (nI sw), .int (nI np), .ref qf, .ref qs, .int (nI fe), .int (nI te), .int (nI kk), .ref qt, .ref qx, .ref qy, .int no, .int nt, .ref qo, .ref qz, .ref qi, .ref qv, .int fd]))] sz) := by
  refine Met.ofW (cc := cX10_met) (maxL := 2) (ret := (some .int)) (by decide) rfl ?_
  intro p e s m args below meth c s₁ B hml hv
  obtain ⟨rfl, hsz, hP, hK, hD0, hN⟩ := hv
  have hx := B.exec
  have hb := B.bytes
  have hr := B.returns
  have hts := atoms_spec (ws := wsX10_met) B.pre
  have hown : s.vm.findClass RX10 = some m.cls := findClass_of_methodNamed B.named
  have hlocks := B.notSynchronized
  subst hsz
  have iX10 : ∀ w ∈ u_ws RX10 TX10 40, w ∈ wsX10_met := by decide +kernel
  have hD := hD0.self (sz := s.heap.size)
  generalize hAe : va_A [(m0, .inr (10, [.ref qk, .int (nI d), .int (nI sh), .int (nI low), .int (nI high), .int le, .int mo, .int (nI nb), .ref qp, .ref qr, .ref qc, .ref qm, .ref qb, .int (nI cap), .int kd, .int am, .int wt, .int md, .long z1, .long z2, .long z3, .long z4, .long z5, .int (nI sw), .int (nI np), .ref qf, .ref qs, .int (nI fe), .int (nI te), .int (nI kk), .ref qt, .ref qx, .ref qy, .int no, .int nt, .ref qo, .ref qz, .ref qi, .ref qv, .int fd]))] s.heap.size = A at hD ⊢
  have hA : ∀ q : Nat, s.heap.size ≤ q → A q := fun q h => by rw [← hAe]; exact Or.inr h
  have hS : va_S A s.heap s.heap [] := va_S.rf
  have hP : va_P D vwCl [(m0, .inr (10, [.ref qk, .int (nI d), .int (nI sh), .int (nI low), .int (nI high), .int le, .int mo, .int (nI nb), .ref qp, .ref qr, .ref qc, .ref qm, .ref qb, .int (nI cap), .int kd, .int am, .int wt, .int md, .long z1, .long z2, .long z3, .long z4, .long z5, .int (nI sw), .int (nI np), .ref qf, .ref qs, .int (nI fe), .int (nI te), .int (nI kk), .ref qt, .ref qx, .ref qy, .int no, .int nt, .ref qo, .ref qz, .ref qi, .ref qv, .int fd]))] s.heap := hP
  have hl := lv_entry ([.ref m0, .int n1]) (n := 2) (Nat.le_of_ble_eq_true rfl)
  rw [lg_entry_eq]
  generalize (lg_sl ([.ref m0, .int n1]) ++ List.replicate (2 - (lg_sl ([.ref m0, .int n1])).length) Slot.unset).toArray = ls at hl ⊢
  have hl : lv_has ls 2 [(0, .ref m0), (1, .int n1)] := hl
  refine lv_aload_n hx hb dX10_met_0 rfl (lv_at hl 0 rfl) ?_
  refine lv_iload_n hx hb dX10_met_1 rfl (lv_at hl 1 rfl) ?_
  refine va_put (D := D) (ci := 10) (v := .int n1) (ty := .int) (C := RX10) (T := TX10) (N := 40) hx hb hts iX10 tyX10 tyX10_ok nmX10 hown hK hP hD hS 0 rfl rfl 39 (by decide) (hts (.fieldLink RX10 213 "DeepHoleModel" "latest" "I") (by decide +kernel)) (fun _ h9 => h9) rfl (by decide +kernel) rfl rfl (Nat.le_of_ble_eq_true rfl) dX10_met_2 (fun H locs hP hD hS => ?_)
  have hP : va_P D vwCl [(m0, .inr (10, [.ref qk, .int (nI d), .int (nI sh), .int (nI low), .int (nI high), .int le, .int mo, .int (nI nb), .ref qp, .ref qr, .ref qc, .ref qm, .ref qb, .int (nI cap), .int kd, .int am, .int wt, .int md, .long z1, .long z2, .long z3, .long z4, .long z5, .int (nI sw), .int (nI np), .ref qf, .ref qs, .int (nI fe), .int (nI te), .int (nI kk), .ref qt, .ref qx, .ref qy, .int no, .int nt, .ref qo, .ref qz, .ref qi, .ref qv, .int n1]))] H := hP
  have hD : va_D A [(m0, .inr (10, [.ref qk, .int (nI d), .int (nI sh), .int (nI low), .int (nI high), .int le, .int mo, .int (nI nb), .ref qp, .ref qr, .ref qc, .ref qm, .ref qb, .int (nI cap), .int kd, .int am, .int wt, .int md, .long z1, .long z2, .long z3, .long z4, .long z5, .int (nI sw), .int (nI np), .ref qf, .ref qs, .int (nI fe), .int (nI te), .int (nI kk), .ref qt, .ref qx, .ref qy, .int no, .int nt, .ref qo, .ref qz, .ref qi, .ref qv, .int n1]))] := hD
  refine lv_bipush (v := (-10)) hx hb dX10_met_5 (by decide) ?_
  refine lv_iload_n hx hb dX10_met_7 rfl (lv_at hl 1 rfl) ?_
  refine lv_isub hx hb dX10_met_8 ?_
  have hP9 := hP.sub (ws' := [(m0, .inr (10, [.ref qk, .int (nI d), .int (nI sh), .int (nI low), .int (nI high), .int le, .int mo, .int (nI nb), .ref qp, .ref qr, .ref qc, .ref qm, .ref qb, .int (nI cap), .int kd, .int am, .int wt, .int md, .long z1, .long z2, .long z3, .long z4, .long z5, .int (nI sw), .int (nI np), .ref qf, .ref qs, .int (nI fe), .int (nI te), .int (nI kk), .ref qt, .ref qx, .ref qy, .int no, .int nt, .ref qo, .ref qz, .ref qi, .ref qv, .int n1]))]) [0] rfl
  have hD9 := hD.sub (ws' := [(m0, .inr (10, [.ref qk, .int (nI d), .int (nI sh), .int (nI low), .int (nI high), .int le, .int mo, .int (nI nb), .ref qp, .ref qr, .ref qc, .ref qm, .ref qb, .int (nI cap), .int kd, .int am, .int wt, .int md, .long z1, .long z2, .long z3, .long z4, .long z5, .int (nI sw), .int (nI np), .ref qf, .ref qs, .int (nI fe), .int (nI te), .int (nI kk), .ref qt, .ref qx, .ref qy, .int no, .int nt, .ref qo, .ref qz, .ref qi, .ref qv, .int n1]))]) [0] (by decide) rfl
  exact W.iret (v := (-10) - n1) hx hb hr (fun t ht hW => ⟨⟨_, (), rfl, (by rfl), by rw [ht]; exact hP9, hD9⟩, hS.F ht⟩) hS.2.2 dX10_met_9

set_option maxHeartbeats 4000000 in
set_option maxRecDepth 100000 in
theorem c_X10_sheet {l : Launch} {D : va_G} {cI cS cP : ClassId} {sz : Nat} {m0 qk qp qr qc qm qb qf qs qt qx qy qo qz qi qv : Nat} {d sh low high nb cap sw np fe te kk : Nat} {le mo kd am wt md no nt fd : Int32} {z1 z2 z3 z4 z5 : Int64} {fmf szf imf : Nat → Int32} {k : Nat} {fm nn : Int32} (hk : k < 4) : Met l yX10_sheet wsX10_sheet ({ frames := 2, cells := 0, slots := 0, locals := 45 }) (PC D (TY cI cS cP) [.ref m0, .int (nI k), .int fm, .int nn] sz [(m0, .inr (10, [.ref qk, .int (nI d), .int (nI sh), .int (nI low), .int (nI high), .int le, .int mo, .int (nI nb), .ref qp, .ref qr, .ref qc, .ref qm, .ref qb, .int (nI cap), .int kd, .int am, .int wt, .int md, .long z1, .long z2, .long z3, .long z4, .long z5, .int (nI sw), .int (nI np), .ref qf, .ref qs, .int (nI fe), .int (nI te), .int (nI kk), .ref qt, .ref qx, .ref qy, .int no, .int nt, .ref qo, .ref qz, .ref qi, .ref qv, .int fd])), (qo, .inl (cI, 4, .inl fmf)), (qz, .inl (cI, 4, .inl szf)), (qi, .inl (cI, 240, .inl imf))]) (QI D (fun (r : Int32) (u : Int32 × (Nat → Int32) × (Nat → Int32) × (Nat → Int32)) => (r = aSheet fm nn) ∧ u = sSheetM fd fmf szf imf k fm nn) (fun (u : Int32 × (Nat → Int32) × (Nat → Int32) × (Nat → Int32)) => [(m0, .inr (10, [.ref qk, .int (nI d), .int (nI sh), .int (nI low), .int (nI high), .int le, .int mo, .int (nI nb), .ref qp, .ref qr, .ref qc, .ref qm, .ref qb, .int (nI cap), .int kd, .int am, .int wt, .int md, .long z1, .long z2, .long z3, .long z4, .long z5, .int (nI sw), .int (nI np), .ref qf, .ref qs, .int (nI fe), .int (nI te), .int (nI kk), .ref qt, .ref qx, .ref qy, .int no, .int nt, .ref qo, .ref qz, .ref qi, .ref qv, .int u.1])), (qo, .inl (cI, 4, .inl u.2.1)), (qz, .inl (cI, 4, .inl u.2.2.1)), (qi, .inl (cI, 240, .inl u.2.2.2))]) (va_A [(m0, .inr (10, [.ref qk, .int (nI d), .int (nI sh), .int (nI low), .int (nI high), .int le, .int mo, .int (nI nb), .ref qp, .ref qr, .ref qc, .ref qm, .ref qb, .int (nI cap), .int kd, .int am, .int wt, .int md, .long z1, .long z2, .long z3, .long z4, .long z5, .int (nI sw), .int (nI np), .ref qf, .ref qs, .int (nI fe), .int (nI te), .int (nI kk), .ref qt, .ref qx, .ref qy, .int no, .int nt, .ref qo, .ref qz, .ref qi, .ref qv, .int fd])), (qo, .inl (cI, 4, .inl fmf)), (qz, .inl (cI, 4, .inl szf)), (qi, .inl (cI, 240, .inl imf))] sz)) 0 0 (va_A [(m0, .inr (10, [.ref qk, .int (nI d), .int (nI sh), .int (nI low), .int (nI high), .int le, .int mo, .int (nI nb), .ref qp, .ref qr, .ref qc, .ref qm, .ref qb, .int (nI cap), .int kd, .int am, .int wt, .int md, .long z1, .long z2, .long z3, .long z4, .long z5, .int (nI sw), .int (nI np), .ref qf, .ref qs, .int (nI fe), .int (nI te), .int (nI kk), .ref qt, .ref qx, .ref qy, .int no, .int nt, .ref qo, .ref qz, .ref qi, .ref qv, .int fd])), (qo, .inl (cI, 4, .inl fmf)), (qz, .inl (cI, 4, .inl szf)), (qi, .inl (cI, 240, .inl imf))] sz) := by
  refine Met.ofW (cc := cX10_sheet) (maxL := 5) (ret := (some .int)) (by decide) rfl ?_
  intro p e s m args below meth c s₁ B hml hv
  obtain ⟨rfl, hsz, hP, hK, hD0, hN⟩ := hv
  have hx := B.exec
  have hb := B.bytes
  have hr := B.returns
  have hts := atoms_spec (ws := wsX10_sheet) B.pre
  have hown : s.vm.findClass RX10 = some m.cls := findClass_of_methodNamed B.named
  have hlocks := B.notSynchronized
  subst hsz
  have iX10 : ∀ w ∈ u_ws RX10 TX10 40, w ∈ wsX10_sheet := by decide +kernel
  have hD := hD0.self (sz := s.heap.size)
  generalize hAe : va_A [(m0, .inr (10, [.ref qk, .int (nI d), .int (nI sh), .int (nI low), .int (nI high), .int le, .int mo, .int (nI nb), .ref qp, .ref qr, .ref qc, .ref qm, .ref qb, .int (nI cap), .int kd, .int am, .int wt, .int md, .long z1, .long z2, .long z3, .long z4, .long z5, .int (nI sw), .int (nI np), .ref qf, .ref qs, .int (nI fe), .int (nI te), .int (nI kk), .ref qt, .ref qx, .ref qy, .int no, .int nt, .ref qo, .ref qz, .ref qi, .ref qv, .int fd])), (qo, .inl (cI, 4, .inl fmf)), (qz, .inl (cI, 4, .inl szf)), (qi, .inl (cI, 240, .inl imf))] s.heap.size = A at hD ⊢
  have hA : ∀ q : Nat, s.heap.size ≤ q → A q := fun q h => by rw [← hAe]; exact Or.inr h
  have hS : va_S A s.heap s.heap [] := va_S.rf
  have hP : va_P D vwCl [(m0, .inr (10, [.ref qk, .int (nI d), .int (nI sh), .int (nI low), .int (nI high), .int le, .int mo, .int (nI nb), .ref qp, .ref qr, .ref qc, .ref qm, .ref qb, .int (nI cap), .int kd, .int am, .int wt, .int md, .long z1, .long z2, .long z3, .long z4, .long z5, .int (nI sw), .int (nI np), .ref qf, .ref qs, .int (nI fe), .int (nI te), .int (nI kk), .ref qt, .ref qx, .ref qy, .int no, .int nt, .ref qo, .ref qz, .ref qi, .ref qv, .int fd])), (qo, .inl (cI, 4, .inl fmf)), (qz, .inl (cI, 4, .inl szf)), (qi, .inl (cI, 240, .inl imf))] s.heap := hP
  have hl := lv_entry ([.ref m0, .int (nI k), .int fm, .int nn]) (n := 5) (Nat.le_of_ble_eq_true rfl)
  rw [lg_entry_eq]
  generalize (lg_sl ([.ref m0, .int (nI k), .int fm, .int nn]) ++ List.replicate (5 - (lg_sl ([.ref m0, .int (nI k), .int fm, .int nn])).length) Slot.unset).toArray = ls at hl ⊢
  have hl : lv_has ls 5 [(0, .ref m0), (1, .int (nI k)), (2, .int fm), (3, .int nn)] := hl
  refine lv_iload_n hx hb dX10_sheet_0 rfl (lv_at hl 1 rfl) ?_
  refine q_S (tys := TY cI cS cP) (D := D) ⟨hx, hb, hml, hown, hts⟩ [.int (nI k)] [] c_X10_isSheet (va_cwS 1 hts gX10_sheet_X10_isSheet rfl rfl rfl (by decide +kernel) ⟨Nat.le_of_ble_eq_true rfl, Nat.le_of_ble_eq_true rfl⟩) hK hN rfl hl.1 rfl (Nat.le_of_ble_eq_true rfl) dX10_sheet_1 ⟨Nat.zero_le _, Nat.zero_le _⟩ (fun r hw => ?_)
  subst hw
  refine lv_if_eq (tgt := 25) hx hb dX10_sheet_4 (by decide) (fun c_4 => ?_) (fun c_4 => ?_)
  ·
    have c_4 := bz c_4
    exact absurd (show (0 : Int32) ≤ nI k ∧ nI k ≤ 3 from ⟨nI_pos' (by omega), nI_le (b := 3) (by omega) (by decide)⟩) c_4
  ·
    have c_4 := bnz c_4
    refine lv_iload_n hx hb dX10_sheet_7 rfl (lv_at hl 2 rfl) ?_
    refine lv_i2l (v := fm.toInt64) hx hb dX10_sheet_8 rfl ?_
    refine lv_lconst (v := 0) hx hb dX10_sheet_9 (by decide) ?_
    refine lv_ldc2 hx hb hown (hts (.constantLong RX10 221 (2)) (by decide +kernel)) dX10_sheet_10 ?_
    refine q_S (tys := TY cI cS cP) (D := D) ⟨hx, hb, hml, hown, hts⟩ [.long fm.toInt64, .long ((0 : Int32).toInt64), .long ((2 : Int32).toInt64)] [] c_X10_in (va_cwS 3 hts gX10_sheet_X10_in rfl rfl rfl (by decide +kernel) ⟨Nat.le_of_ble_eq_true rfl, Nat.le_of_ble_eq_true rfl⟩) hK hN rfl hl.1 rfl (Nat.le_of_ble_eq_true rfl) dX10_sheet_13 ⟨Nat.zero_le _, Nat.zero_le _⟩ (fun r hw => ?_)
    subst hw
    refine lv_if_eq (tgt := 25) hx hb dX10_sheet_16 (by decide) (fun c_16 => ?_) (fun c_16 => ?_)
    ·
      have c_16 := bz c_16
      refine lv_bipush (v := (-2)) hx hb dX10_sheet_25 (by decide) ?_
      have hP9 := hP.sub (ws' := [(m0, .inr (10, [.ref qk, .int (nI d), .int (nI sh), .int (nI low), .int (nI high), .int le, .int mo, .int (nI nb), .ref qp, .ref qr, .ref qc, .ref qm, .ref qb, .int (nI cap), .int kd, .int am, .int wt, .int md, .long z1, .long z2, .long z3, .long z4, .long z5, .int (nI sw), .int (nI np), .ref qf, .ref qs, .int (nI fe), .int (nI te), .int (nI kk), .ref qt, .ref qx, .ref qy, .int no, .int nt, .ref qo, .ref qz, .ref qi, .ref qv, .int fd])), (qo, .inl (cI, 4, .inl fmf)), (qz, .inl (cI, 4, .inl szf)), (qi, .inl (cI, 240, .inl imf))]) [0, 1, 2, 3] rfl
      have hD9 := hD.sub (ws' := [(m0, .inr (10, [.ref qk, .int (nI d), .int (nI sh), .int (nI low), .int (nI high), .int le, .int mo, .int (nI nb), .ref qp, .ref qr, .ref qc, .ref qm, .ref qb, .int (nI cap), .int kd, .int am, .int wt, .int md, .long z1, .long z2, .long z3, .long z4, .long z5, .int (nI sw), .int (nI np), .ref qf, .ref qs, .int (nI fe), .int (nI te), .int (nI kk), .ref qt, .ref qx, .ref qy, .int no, .int nt, .ref qo, .ref qz, .ref qi, .ref qv, .int fd])), (qo, .inl (cI, 4, .inl fmf)), (qz, .inl (cI, 4, .inl szf)), (qi, .inl (cI, 240, .inl imf))]) [0, 1, 2, 3] (by decide) rfl
      exact W.iret (v := (-2)) hx hb hr (fun t ht hW => ⟨⟨_, (fd, fmf, szf, imf), rfl, (by unfold aSheet sSheetM; first | rw [if_neg (fun h => c_16 h.1), if_neg (fun h => c_16 h.1)]; exact ⟨rfl, rfl⟩ | rw [if_neg (fun h => c_22 h.2), if_neg (fun h => c_22 h.2)]; exact ⟨rfl, rfl⟩), by rw [ht]; exact hP9, hD9⟩, hS.F ht⟩) hS.2.2 dX10_sheet_27
    ·
      have c_16 := bnz c_16
      refine lv_iload_n hx hb dX10_sheet_19 rfl (lv_at hl 3 rfl) ?_
      refine lv_bipush (v := 60) hx hb dX10_sheet_20 (by decide) ?_
      refine lv_icmp_le (tgt := 28) hx hb dX10_sheet_22 (by decide) (fun c_22 => ?_) (fun c_22 => ?_)
      ·
        refine lv_iload_n hx hb dX10_sheet_28 rfl (lv_at hl 3 rfl) ?_
        refine lv_if_ge (tgt := 38) hx hb dX10_sheet_29 (by decide) (fun c_29 => ?_) (fun c_29 => ?_)
        ·
          obtain ⟨nN, hnN, rfl⟩ := nn_of c_29
          have hnN60 : nN ≤ 60 := n_le c_22 (by omega) (by omega)
          refine lv_aload_n hx hb dX10_sheet_38 rfl (lv_at hl 0 rfl) ?_
          refine va_get (D := D) (ci := 10) (v := .ref qo) (C := RX10) (T := TX10) (N := 40) hx hb hts iX10 hown hK hP 0 rfl rfl 35 (by decide) (hts (.fieldLink RX10 53 "DeepHoleModel" "forms" "[I") (by decide +kernel)) (fun _ h9 => h9) rfl dX10_sheet_39 ?_
          refine lv_iload_n hx hb dX10_sheet_42 rfl (lv_at hl 1 rfl) ?_
          refine lv_iload_n hx hb dX10_sheet_43 rfl (lv_at hl 2 rfl) ?_
          refine wr_i hx hb hK hP hD hS 1 0 rfl rfl (k := k) (by omega) (by decide) dX10_sheet_44 (fun H locs hP hD hS => ?_)
          have hP : va_P D vwCl [(m0, .inr (10, [.ref qk, .int (nI d), .int (nI sh), .int (nI low), .int (nI high), .int le, .int mo, .int (nI nb), .ref qp, .ref qr, .ref qc, .ref qm, .ref qb, .int (nI cap), .int kd, .int am, .int wt, .int md, .long z1, .long z2, .long z3, .long z4, .long z5, .int (nI sw), .int (nI np), .ref qf, .ref qs, .int (nI fe), .int (nI te), .int (nI kk), .ref qt, .ref qx, .ref qy, .int no, .int nt, .ref qo, .ref qz, .ref qi, .ref qv, .int fd])), (qo, .inl (cI, 4, .inl (upd fmf k fm))), (qz, .inl (cI, 4, .inl szf)), (qi, .inl (cI, 240, .inl imf))] H := hP
          have hD : va_D A [(m0, .inr (10, [.ref qk, .int (nI d), .int (nI sh), .int (nI low), .int (nI high), .int le, .int mo, .int (nI nb), .ref qp, .ref qr, .ref qc, .ref qm, .ref qb, .int (nI cap), .int kd, .int am, .int wt, .int md, .long z1, .long z2, .long z3, .long z4, .long z5, .int (nI sw), .int (nI np), .ref qf, .ref qs, .int (nI fe), .int (nI te), .int (nI kk), .ref qt, .ref qx, .ref qy, .int no, .int nt, .ref qo, .ref qz, .ref qi, .ref qv, .int fd])), (qo, .inl (cI, 4, .inl (upd fmf k fm))), (qz, .inl (cI, 4, .inl szf)), (qi, .inl (cI, 240, .inl imf))] := hD
          refine lv_aload_n hx hb dX10_sheet_45 rfl (lv_at hl 0 rfl) ?_
          refine va_get (D := D) (ci := 10) (v := .ref qz) (C := RX10) (T := TX10) (N := 40) hx hb hts iX10 hown hK hP 0 rfl rfl 36 (by decide) (hts (.fieldLink RX10 56 "DeepHoleModel" "sizes" "[I") (by decide +kernel)) (fun _ h9 => h9) rfl dX10_sheet_46 ?_
          refine lv_iload_n hx hb dX10_sheet_49 rfl (lv_at hl 1 rfl) ?_
          refine lv_iload_n hx hb dX10_sheet_50 rfl (lv_at hl 3 rfl) ?_
          refine wr_i hx hb hK hP hD hS 2 0 rfl rfl (k := k) (by omega) (by decide) dX10_sheet_51 (fun H locs hP hD hS => ?_)
          have hP : va_P D vwCl [(m0, .inr (10, [.ref qk, .int (nI d), .int (nI sh), .int (nI low), .int (nI high), .int le, .int mo, .int (nI nb), .ref qp, .ref qr, .ref qc, .ref qm, .ref qb, .int (nI cap), .int kd, .int am, .int wt, .int md, .long z1, .long z2, .long z3, .long z4, .long z5, .int (nI sw), .int (nI np), .ref qf, .ref qs, .int (nI fe), .int (nI te), .int (nI kk), .ref qt, .ref qx, .ref qy, .int no, .int nt, .ref qo, .ref qz, .ref qi, .ref qv, .int fd])), (qo, .inl (cI, 4, .inl (upd fmf k fm))), (qz, .inl (cI, 4, .inl (upd szf k (nI nN)))), (qi, .inl (cI, 240, .inl imf))] H := hP
          have hD : va_D A [(m0, .inr (10, [.ref qk, .int (nI d), .int (nI sh), .int (nI low), .int (nI high), .int le, .int mo, .int (nI nb), .ref qp, .ref qr, .ref qc, .ref qm, .ref qb, .int (nI cap), .int kd, .int am, .int wt, .int md, .long z1, .long z2, .long z3, .long z4, .long z5, .int (nI sw), .int (nI np), .ref qf, .ref qs, .int (nI fe), .int (nI te), .int (nI kk), .ref qt, .ref qx, .ref qy, .int no, .int nt, .ref qo, .ref qz, .ref qi, .ref qv, .int fd])), (qo, .inl (cI, 4, .inl (upd fmf k fm))), (qz, .inl (cI, 4, .inl (upd szf k (nI nN)))), (qi, .inl (cI, 240, .inl imf))] := hD
          refine lv_iconst (v := 0) hx hb dX10_sheet_52 (by decide) ?_
          refine lv_istore (lv' := [(4, .int 0), (0, .ref m0), (1, .int (nI k)), (2, .int fm), (3, .int (nI nN))]) hx hb dX10_sheet_53 hl (by decide) rfl (fun ls hl => ?_)
          have hcf : imf = zeroI imf (60 * k) 0 := by exact (zeroI_0 imf (60 * k)).symm
          rw [hcf] at hP hD
          have hP : va_P D vwCl [(m0, .inr (10, [.ref qk, .int (nI d), .int (nI sh), .int (nI low), .int (nI high), .int le, .int mo, .int (nI nb), .ref qp, .ref qr, .ref qc, .ref qm, .ref qb, .int (nI cap), .int kd, .int am, .int wt, .int md, .long z1, .long z2, .long z3, .long z4, .long z5, .int (nI sw), .int (nI np), .ref qf, .ref qs, .int (nI fe), .int (nI te), .int (nI kk), .ref qt, .ref qx, .ref qy, .int no, .int nt, .ref qo, .ref qz, .ref qi, .ref qv, .int fd])), (qo, .inl (cI, 4, .inl (upd fmf k fm))), (qz, .inl (cI, 4, .inl (upd szf k (nI nN)))), (qi, .inl (cI, 240, .inl (zeroI imf (60 * k) 0)))] H := hP
          have hD : va_D A [(m0, .inr (10, [.ref qk, .int (nI d), .int (nI sh), .int (nI low), .int (nI high), .int le, .int mo, .int (nI nb), .ref qp, .ref qr, .ref qc, .ref qm, .ref qb, .int (nI cap), .int kd, .int am, .int wt, .int md, .long z1, .long z2, .long z3, .long z4, .long z5, .int (nI sw), .int (nI np), .ref qf, .ref qs, .int (nI fe), .int (nI te), .int (nI kk), .ref qt, .ref qx, .ref qy, .int no, .int nt, .ref qo, .ref qz, .ref qi, .ref qv, .int fd])), (qo, .inl (cI, 4, .inl (upd fmf k fm))), (qz, .inl (cI, 4, .inl (upd szf k (nI nN)))), (qi, .inl (cI, 240, .inl (zeroI imf (60 * k) 0)))] := hD
          refine lp_w (I := fun zz9 H locs ls => ∃ (q : Nat), zz9 = nN - q ∧ (q ≤ nN) ∧ va_P D vwCl [(m0, .inr (10, [.ref qk, .int (nI d), .int (nI sh), .int (nI low), .int (nI high), .int le, .int mo, .int (nI nb), .ref qp, .ref qr, .ref qc, .ref qm, .ref qb, .int (nI cap), .int kd, .int am, .int wt, .int md, .long z1, .long z2, .long z3, .long z4, .long z5, .int (nI sw), .int (nI np), .ref qf, .ref qs, .int (nI fe), .int (nI te), .int (nI kk), .ref qt, .ref qx, .ref qy, .int no, .int nt, .ref qo, .ref qz, .ref qi, .ref qv, .int fd])), (qo, .inl (cI, 4, .inl (upd fmf k fm))), (qz, .inl (cI, 4, .inl (upd szf k (nI nN)))), (qi, .inl (cI, 240, .inl (zeroI imf (60 * k) q)))] H ∧ va_D A [(m0, .inr (10, [.ref qk, .int (nI d), .int (nI sh), .int (nI low), .int (nI high), .int le, .int mo, .int (nI nb), .ref qp, .ref qr, .ref qc, .ref qm, .ref qb, .int (nI cap), .int kd, .int am, .int wt, .int md, .long z1, .long z2, .long z3, .long z4, .long z5, .int (nI sw), .int (nI np), .ref qf, .ref qs, .int (nI fe), .int (nI te), .int (nI kk), .ref qt, .ref qx, .ref qy, .int no, .int nt, .ref qo, .ref qz, .ref qi, .ref qv, .int fd])), (qo, .inl (cI, 4, .inl (upd fmf k fm))), (qz, .inl (cI, 4, .inl (upd szf k (nI nN)))), (qi, .inl (cI, 240, .inl (zeroI imf (60 * k) q)))] ∧ va_S A s.heap H locs ∧ lv_has ls 5 [(0, .ref m0), (1, .int (nI k)), (2, .int fm), (3, .int (nI nN)), (4, .int (nI q))]) ?_ (nN - 0) ⟨0, rfl, (by omega), hP.sub [0, 1, 2, 3] rfl, hD.sub [0, 1, 2, 3] (by decide) rfl, hS, lv_sub hl [1, 2, 3, 4, 0] rfl⟩
          intro n_55 H locs ls ih_55 hI
          obtain ⟨q, hn_55, hq, hP, hD, hS, hl⟩ := hI
          refine lv_iload hx hb dX10_sheet_55 (lv_at hl 4 rfl) ?_
          refine lv_iload_n hx hb dX10_sheet_57 rfl (lv_at hl 3 rfl) ?_
          refine lv_icmp_ge (tgt := 80) hx hb dX10_sheet_58 (by decide) (fun c_58 => ?_) (fun c_58 => ?_)
          ·
            have c_58 := n_ge (a := q) (b := nN) c_58 (by omega) (by omega)
            refine lv_iload_n hx hb dX10_sheet_80 rfl (lv_at hl 3 rfl) ?_
            have hP9 := hP.sub (ws' := [(m0, .inr (10, [.ref qk, .int (nI d), .int (nI sh), .int (nI low), .int (nI high), .int le, .int mo, .int (nI nb), .ref qp, .ref qr, .ref qc, .ref qm, .ref qb, .int (nI cap), .int kd, .int am, .int wt, .int md, .long z1, .long z2, .long z3, .long z4, .long z5, .int (nI sw), .int (nI np), .ref qf, .ref qs, .int (nI fe), .int (nI te), .int (nI kk), .ref qt, .ref qx, .ref qy, .int no, .int nt, .ref qo, .ref qz, .ref qi, .ref qv, .int fd])), (qo, .inl (cI, 4, .inl (upd fmf k fm))), (qz, .inl (cI, 4, .inl (upd szf k (nI nN)))), (qi, .inl (cI, 240, .inl (zeroI imf (60 * k) q)))]) [0, 1, 2, 3] rfl
            have hD9 := hD.sub (ws' := [(m0, .inr (10, [.ref qk, .int (nI d), .int (nI sh), .int (nI low), .int (nI high), .int le, .int mo, .int (nI nb), .ref qp, .ref qr, .ref qc, .ref qm, .ref qb, .int (nI cap), .int kd, .int am, .int wt, .int md, .long z1, .long z2, .long z3, .long z4, .long z5, .int (nI sw), .int (nI np), .ref qf, .ref qs, .int (nI fe), .int (nI te), .int (nI kk), .ref qt, .ref qx, .ref qy, .int no, .int nt, .ref qo, .ref qz, .ref qi, .ref qv, .int fd])), (qo, .inl (cI, 4, .inl (upd fmf k fm))), (qz, .inl (cI, 4, .inl (upd szf k (nI nN)))), (qi, .inl (cI, 240, .inl (zeroI imf (60 * k) q)))]) [0, 1, 2, 3] (by decide) rfl
            exact W.iret (v := nI nN) hx hb hr (fun t ht hW => ⟨⟨_, (fd, upd fmf k fm, upd szf k (nI nN), zeroI imf (60 * k) q), rfl, (by have hC := And.intro c_16 c_22; unfold aSheet sSheetM; rw [if_pos hC, if_pos hC, if_pos c_29, if_pos c_29, nI_clamp (by omega), show q = nN by omega]; exact ⟨rfl, rfl⟩), by rw [ht]; exact hP9, hD9⟩, hS.F ht⟩) hS.2.2 dX10_sheet_81
          ·
            have c_58 := n_nge (a := q) (b := nN) c_58 (by omega) (by omega)
            refine lv_aload_n hx hb dX10_sheet_61 rfl (lv_at hl 0 rfl) ?_
            refine va_get (D := D) (ci := 10) (v := .ref qi) (C := RX10) (T := TX10) (N := 40) hx hb hts iX10 hown hK hP 0 rfl rfl 37 (by decide) (hts (.fieldLink RX10 59 "DeepHoleModel" "items" "[I") (by decide +kernel)) (fun _ h9 => h9) rfl dX10_sheet_62 ?_
            refine lv_bipush (v := 60) hx hb dX10_sheet_65 (by decide) ?_
            refine lv_iload_n hx hb dX10_sheet_67 rfl (lv_at hl 1 rfl) ?_
            refine lv_imul hx hb dX10_sheet_68 ?_
            refine lv_eqi (z := nI (60 * k)) (pk_mul _ _) ?_
            refine lv_iload hx hb dX10_sheet_69 (lv_at hl 4 rfl) ?_
            refine lv_iadd hx hb dX10_sheet_71 ?_
            refine lv_eqi (z := nI ((60 * k) + q)) (nI_add _ _) ?_
            refine lv_iconst (v := 0) hx hb dX10_sheet_72 (by decide) ?_
            refine wr_i hx hb hK hP hD hS 3 0 rfl rfl (k := (60 * k) + q) (by omega) (by decide) dX10_sheet_73 (fun H locs hP hD hS => ?_)
            have hP : va_P D vwCl [(m0, .inr (10, [.ref qk, .int (nI d), .int (nI sh), .int (nI low), .int (nI high), .int le, .int mo, .int (nI nb), .ref qp, .ref qr, .ref qc, .ref qm, .ref qb, .int (nI cap), .int kd, .int am, .int wt, .int md, .long z1, .long z2, .long z3, .long z4, .long z5, .int (nI sw), .int (nI np), .ref qf, .ref qs, .int (nI fe), .int (nI te), .int (nI kk), .ref qt, .ref qx, .ref qy, .int no, .int nt, .ref qo, .ref qz, .ref qi, .ref qv, .int fd])), (qo, .inl (cI, 4, .inl (upd fmf k fm))), (qz, .inl (cI, 4, .inl (upd szf k (nI nN)))), (qi, .inl (cI, 240, .inl (upd (zeroI imf (60 * k) q) ((60 * k) + q) 0)))] H := hP
            have hD : va_D A [(m0, .inr (10, [.ref qk, .int (nI d), .int (nI sh), .int (nI low), .int (nI high), .int le, .int mo, .int (nI nb), .ref qp, .ref qr, .ref qc, .ref qm, .ref qb, .int (nI cap), .int kd, .int am, .int wt, .int md, .long z1, .long z2, .long z3, .long z4, .long z5, .int (nI sw), .int (nI np), .ref qf, .ref qs, .int (nI fe), .int (nI te), .int (nI kk), .ref qt, .ref qx, .ref qy, .int no, .int nt, .ref qo, .ref qz, .ref qi, .ref qv, .int fd])), (qo, .inl (cI, 4, .inl (upd fmf k fm))), (qz, .inl (cI, 4, .inl (upd szf k (nI nN)))), (qi, .inl (cI, 240, .inl (upd (zeroI imf (60 * k) q) ((60 * k) + q) 0)))] := hD
            have hcf : upd (zeroI imf (60 * k) q) ((60 * k) + q) 0 = zeroI imf (60 * k) (q + 1) := by exact zeroI_s imf (60 * k) q
            rw [hcf] at hP hD
            have hP : va_P D vwCl [(m0, .inr (10, [.ref qk, .int (nI d), .int (nI sh), .int (nI low), .int (nI high), .int le, .int mo, .int (nI nb), .ref qp, .ref qr, .ref qc, .ref qm, .ref qb, .int (nI cap), .int kd, .int am, .int wt, .int md, .long z1, .long z2, .long z3, .long z4, .long z5, .int (nI sw), .int (nI np), .ref qf, .ref qs, .int (nI fe), .int (nI te), .int (nI kk), .ref qt, .ref qx, .ref qy, .int no, .int nt, .ref qo, .ref qz, .ref qi, .ref qv, .int fd])), (qo, .inl (cI, 4, .inl (upd fmf k fm))), (qz, .inl (cI, 4, .inl (upd szf k (nI nN)))), (qi, .inl (cI, 240, .inl (zeroI imf (60 * k) (q + 1))))] H := hP
            have hD : va_D A [(m0, .inr (10, [.ref qk, .int (nI d), .int (nI sh), .int (nI low), .int (nI high), .int le, .int mo, .int (nI nb), .ref qp, .ref qr, .ref qc, .ref qm, .ref qb, .int (nI cap), .int kd, .int am, .int wt, .int md, .long z1, .long z2, .long z3, .long z4, .long z5, .int (nI sw), .int (nI np), .ref qf, .ref qs, .int (nI fe), .int (nI te), .int (nI kk), .ref qt, .ref qx, .ref qy, .int no, .int nt, .ref qo, .ref qz, .ref qi, .ref qv, .int fd])), (qo, .inl (cI, 4, .inl (upd fmf k fm))), (qz, .inl (cI, 4, .inl (upd szf k (nI nN)))), (qi, .inl (cI, 240, .inl (zeroI imf (60 * k) (q + 1))))] := hD
            refine lv_iinc (v := nI (q + 1)) (lv' := [(4, .int (nI (q + 1))), (0, .ref m0), (1, .int (nI k)), (2, .int fm), (3, .int (nI nN))]) hx hb dX10_sheet_74 hl (k := 4) rfl (nI_1 _) (by decide) rfl (fun ls hl => ?_)
            refine lv_goto (tgt := 55) hx hb dX10_sheet_77 (by decide) ?_
            exact ih_55 _ _ _ _ (by omega) ⟨q + 1, rfl, (by omega), hP.sub [0, 1, 2, 3] rfl, hD.sub [0, 1, 2, 3] (by decide) rfl, hS, lv_sub hl [1, 2, 3, 4, 0] rfl⟩
        ·
          refine lv_aload_n hx hb dX10_sheet_32 rfl (lv_at hl 0 rfl) ?_
          refine lv_iconst (v := 5) hx hb dX10_sheet_33 (by decide) ?_
          refine w_V (wc := [(m0, .inr (10, [.ref qk, .int (nI d), .int (nI sh), .int (nI low), .int (nI high), .int le, .int mo, .int (nI nb), .ref qp, .ref qr, .ref qc, .ref qm, .ref qb, .int (nI cap), .int kd, .int am, .int wt, .int md, .long z1, .long z2, .long z3, .long z4, .long z5, .int (nI sw), .int (nI np), .ref qf, .ref qs, .int (nI fe), .int (nI te), .int (nI kk), .ref qt, .ref qx, .ref qy, .int no, .int nt, .ref qo, .ref qz, .ref qi, .ref qv, .int fd]))]) (wr := [(qo, .inl (cI, 4, .inl fmf)), (qz, .inl (cI, 4, .inl szf)), (qi, .inl (cI, 240, .inl imf))]) (b := m0) ⟨hx, hb, hml, hown, hts⟩ [.int (5 : Int32)] [] c_X10_met (cwV 1 hts gX10_sheet_X10_met rfl rfl rfl (by decide +kernel) ⟨Nat.le_of_ble_eq_true rfl, Nat.le_of_ble_eq_true rfl⟩) hK hN hP hD hS hA [0] [1, 2, 3] rfl (by decide) rfl (by decide) (by decide) (ci := 10) rfl rfl rfl rfl hl.1 rfl (Nat.le_of_ble_eq_true rfl) dX10_sheet_34 ⟨Nat.zero_le _, Nat.zero_le _⟩ (fun r u H locs hw hP hD hS => ?_)
          have hP : va_P D vwCl [(qo, .inl (cI, 4, .inl fmf)), (qz, .inl (cI, 4, .inl szf)), (qi, .inl (cI, 240, .inl imf)), (m0, .inr (10, [.ref qk, .int (nI d), .int (nI sh), .int (nI low), .int (nI high), .int le, .int mo, .int (nI nb), .ref qp, .ref qr, .ref qc, .ref qm, .ref qb, .int (nI cap), .int kd, .int am, .int wt, .int md, .long z1, .long z2, .long z3, .long z4, .long z5, .int (nI sw), .int (nI np), .ref qf, .ref qs, .int (nI fe), .int (nI te), .int (nI kk), .ref qt, .ref qx, .ref qy, .int no, .int nt, .ref qo, .ref qz, .ref qi, .ref qv, .int (5 : Int32)]))] H := hP
          have hD : va_D A [(qo, .inl (cI, 4, .inl fmf)), (qz, .inl (cI, 4, .inl szf)), (qi, .inl (cI, 240, .inl imf)), (m0, .inr (10, [.ref qk, .int (nI d), .int (nI sh), .int (nI low), .int (nI high), .int le, .int mo, .int (nI nb), .ref qp, .ref qr, .ref qc, .ref qm, .ref qb, .int (nI cap), .int kd, .int am, .int wt, .int md, .long z1, .long z2, .long z3, .long z4, .long z5, .int (nI sw), .int (nI np), .ref qf, .ref qs, .int (nI fe), .int (nI te), .int (nI kk), .ref qt, .ref qx, .ref qy, .int no, .int nt, .ref qo, .ref qz, .ref qi, .ref qv, .int (5 : Int32)]))] := hD
          subst hw
          have hP9 := hP.sub (ws' := [(m0, .inr (10, [.ref qk, .int (nI d), .int (nI sh), .int (nI low), .int (nI high), .int le, .int mo, .int (nI nb), .ref qp, .ref qr, .ref qc, .ref qm, .ref qb, .int (nI cap), .int kd, .int am, .int wt, .int md, .long z1, .long z2, .long z3, .long z4, .long z5, .int (nI sw), .int (nI np), .ref qf, .ref qs, .int (nI fe), .int (nI te), .int (nI kk), .ref qt, .ref qx, .ref qy, .int no, .int nt, .ref qo, .ref qz, .ref qi, .ref qv, .int (5 : Int32)])), (qo, .inl (cI, 4, .inl fmf)), (qz, .inl (cI, 4, .inl szf)), (qi, .inl (cI, 240, .inl imf))]) [3, 0, 1, 2] rfl
          have hD9 := hD.sub (ws' := [(m0, .inr (10, [.ref qk, .int (nI d), .int (nI sh), .int (nI low), .int (nI high), .int le, .int mo, .int (nI nb), .ref qp, .ref qr, .ref qc, .ref qm, .ref qb, .int (nI cap), .int kd, .int am, .int wt, .int md, .long z1, .long z2, .long z3, .long z4, .long z5, .int (nI sw), .int (nI np), .ref qf, .ref qs, .int (nI fe), .int (nI te), .int (nI kk), .ref qt, .ref qx, .ref qy, .int no, .int nt, .ref qo, .ref qz, .ref qi, .ref qv, .int (5 : Int32)])), (qo, .inl (cI, 4, .inl fmf)), (qz, .inl (cI, 4, .inl szf)), (qi, .inl (cI, 240, .inl imf))]) [3, 0, 1, 2] (by decide) rfl
          exact W.iret (v := -10 - (5 : Int32)) hx hb hr (fun t ht hW => ⟨⟨_, (5, fmf, szf, imf), rfl, (by have hC := And.intro c_16 c_22; unfold aSheet sSheetM; rw [if_pos hC, if_pos hC, if_neg c_29, if_neg c_29]; exact ⟨rfl, rfl⟩), by rw [ht]; exact hP9, hD9⟩, hS.F ht⟩) hS.2.2 dX10_sheet_37
      ·
        refine lv_bipush (v := (-2)) hx hb dX10_sheet_25 (by decide) ?_
        have hP9 := hP.sub (ws' := [(m0, .inr (10, [.ref qk, .int (nI d), .int (nI sh), .int (nI low), .int (nI high), .int le, .int mo, .int (nI nb), .ref qp, .ref qr, .ref qc, .ref qm, .ref qb, .int (nI cap), .int kd, .int am, .int wt, .int md, .long z1, .long z2, .long z3, .long z4, .long z5, .int (nI sw), .int (nI np), .ref qf, .ref qs, .int (nI fe), .int (nI te), .int (nI kk), .ref qt, .ref qx, .ref qy, .int no, .int nt, .ref qo, .ref qz, .ref qi, .ref qv, .int fd])), (qo, .inl (cI, 4, .inl fmf)), (qz, .inl (cI, 4, .inl szf)), (qi, .inl (cI, 240, .inl imf))]) [0, 1, 2, 3] rfl
        have hD9 := hD.sub (ws' := [(m0, .inr (10, [.ref qk, .int (nI d), .int (nI sh), .int (nI low), .int (nI high), .int le, .int mo, .int (nI nb), .ref qp, .ref qr, .ref qc, .ref qm, .ref qb, .int (nI cap), .int kd, .int am, .int wt, .int md, .long z1, .long z2, .long z3, .long z4, .long z5, .int (nI sw), .int (nI np), .ref qf, .ref qs, .int (nI fe), .int (nI te), .int (nI kk), .ref qt, .ref qx, .ref qy, .int no, .int nt, .ref qo, .ref qz, .ref qi, .ref qv, .int fd])), (qo, .inl (cI, 4, .inl fmf)), (qz, .inl (cI, 4, .inl szf)), (qi, .inl (cI, 240, .inl imf))]) [0, 1, 2, 3] (by decide) rfl
        exact W.iret (v := (-2)) hx hb hr (fun t ht hW => ⟨⟨_, (fd, fmf, szf, imf), rfl, (by unfold aSheet sSheetM; first | rw [if_neg (fun h => c_16 h.1), if_neg (fun h => c_16 h.1)]; exact ⟨rfl, rfl⟩ | rw [if_neg (fun h => c_22 h.2), if_neg (fun h => c_22 h.2)]; exact ⟨rfl, rfl⟩), by rw [ht]; exact hP9, hD9⟩, hS.F ht⟩) hS.2.2 dX10_sheet_27

set_option maxHeartbeats 4000000 in
set_option maxRecDepth 100000 in
theorem c_X10_sheet_b {l : Launch} {D : va_G} {cI cS cP : ClassId} {sz : Nat} {m0 qk qp qr qc qm qb qf qs qt qx qy qo qz qi qv : Nat} {d sh low high nb cap sw np fe te kk : Nat} {le mo kd am wt md no nt fd : Int32} {z1 z2 z3 z4 z5 : Int64} {h1 : Int32} {fm nn : Int32} (hbad : ¬ (0 ≤ h1 ∧ h1 ≤ 3)) : Met l yX10_sheet wsX10_sheet ({ frames := 2, cells := 0, slots := 0, locals := 45 }) (PC D (TY cI cS cP) [.ref m0, .int h1, .int fm, .int nn] sz [(m0, .inr (10, [.ref qk, .int (nI d), .int (nI sh), .int (nI low), .int (nI high), .int le, .int mo, .int (nI nb), .ref qp, .ref qr, .ref qc, .ref qm, .ref qb, .int (nI cap), .int kd, .int am, .int wt, .int md, .long z1, .long z2, .long z3, .long z4, .long z5, .int (nI sw), .int (nI np), .ref qf, .ref qs, .int (nI fe), .int (nI te), .int (nI kk), .ref qt, .ref qx, .ref qy, .int no, .int nt, .ref qo, .ref qz, .ref qi, .ref qv, .int fd]))]) (vp_Si (fun r => r = -2)) 0 0 (fun _ => False) := by
  refine Met.ofW (cc := cX10_sheet) (maxL := 5) (ret := (some .int)) (by decide) rfl ?_
  intro p e s m args below meth c s₁ B hml hv
  obtain ⟨rfl, hsz, hP, hK, hD0, hN⟩ := hv
  have hx := B.exec
  have hb := B.bytes
  have hr := B.returns
  have hts := atoms_spec (ws := wsX10_sheet) B.pre
  have hown : s.vm.findClass RX10 = some m.cls := findClass_of_methodNamed B.named
  have hlocks := B.notSynchronized
  subst hsz
  have hD := hD0
  have hP : va_P D vwCl [(m0, .inr (10, [.ref qk, .int (nI d), .int (nI sh), .int (nI low), .int (nI high), .int le, .int mo, .int (nI nb), .ref qp, .ref qr, .ref qc, .ref qm, .ref qb, .int (nI cap), .int kd, .int am, .int wt, .int md, .long z1, .long z2, .long z3, .long z4, .long z5, .int (nI sw), .int (nI np), .ref qf, .ref qs, .int (nI fe), .int (nI te), .int (nI kk), .ref qt, .ref qx, .ref qy, .int no, .int nt, .ref qo, .ref qz, .ref qi, .ref qv, .int fd]))] s.heap := hP
  have hl := lv_entry ([.ref m0, .int h1, .int fm, .int nn]) (n := 5) (Nat.le_of_ble_eq_true rfl)
  rw [lg_entry_eq]
  generalize (lg_sl ([.ref m0, .int h1, .int fm, .int nn]) ++ List.replicate (5 - (lg_sl ([.ref m0, .int h1, .int fm, .int nn])).length) Slot.unset).toArray = ls at hl ⊢
  have hl : lv_has ls 5 [(0, .ref m0), (1, .int h1), (2, .int fm), (3, .int nn)] := hl
  refine lv_iload_n hx hb dX10_sheet_0 rfl (lv_at hl 1 rfl) ?_
  refine q_S (tys := TY cI cS cP) (D := D) ⟨hx, hb, hml, hown, hts⟩ [.int h1] [] c_X10_isSheet (va_cwS 1 hts gX10_sheet_X10_isSheet rfl rfl rfl (by decide +kernel) ⟨Nat.le_of_ble_eq_true rfl, Nat.le_of_ble_eq_true rfl⟩) hK hN rfl hl.1 rfl (Nat.le_of_ble_eq_true rfl) dX10_sheet_1 ⟨Nat.zero_le _, Nat.zero_le _⟩ (fun r hw => ?_)
  subst hw
  refine lv_if_eq (tgt := 25) hx hb dX10_sheet_4 (by decide) (fun c_4 => ?_) (fun c_4 => ?_)
  ·
    have c_4 := bz c_4
    refine lv_bipush (v := (-2)) hx hb dX10_sheet_25 (by decide) ?_
    exact W.iret (v := (-2)) hx hb hr (fun t ht hW => ⟨_, rfl, (by rfl), ht⟩) (fun _ h => absurd h List.not_mem_nil) dX10_sheet_27
  ·
    have c_4 := bnz c_4
    exact absurd c_4 hbad

set_option maxHeartbeats 4000000 in
set_option maxRecDepth 100000 in
theorem c_X10_lose {l : Launch} {D : va_G} {cI cS cP : ClassId} {sz : Nat} {m0 qk qp qr qc qm qb qf qs qt qx qy qo qz qi qv : Nat} {d sh low high nb cap sw np fe te kk : Nat} {le mo kd am wt md no nt fd : Int32} {z1 z2 z3 z4 z5 : Int64} {fmf szf imf : Nat → Int32} {k n : Nat} {lo fo : Int32} {it : Nat → Int32} (hk : k < 4) (hn : n ≤ 60) (hSR : sREL fmf szf imf k lo fo n it) : Met l yX10_lose wsX10_lose ({ frames := 2, cells := 0, slots := 0, locals := 45 }) (PC D (TY cI cS cP) [.ref m0, .int (nI k)] sz [(m0, .inr (10, [.ref qk, .int (nI d), .int (nI sh), .int (nI low), .int (nI high), .int le, .int mo, .int (nI nb), .ref qp, .ref qr, .ref qc, .ref qm, .ref qb, .int (nI cap), .int kd, .int am, .int wt, .int md, .long z1, .long z2, .long z3, .long z4, .long z5, .int (nI sw), .int (nI np), .ref qf, .ref qs, .int (nI fe), .int (nI te), .int (nI kk), .ref qt, .ref qx, .ref qy, .int no, .int nt, .ref qo, .ref qz, .ref qi, .ref qv, .int fd])), (qo, .inl (cI, 4, .inl fmf)), (qz, .inl (cI, 4, .inl szf))]) (QI D (fun (r : Int32) (u : Int32 × (Nat → Int32)) => (r = aLose lo n) ∧ u = sLoseM fd lo fmf k) (fun (u : Int32 × (Nat → Int32)) => [(m0, .inr (10, [.ref qk, .int (nI d), .int (nI sh), .int (nI low), .int (nI high), .int le, .int mo, .int (nI nb), .ref qp, .ref qr, .ref qc, .ref qm, .ref qb, .int (nI cap), .int kd, .int am, .int wt, .int md, .long z1, .long z2, .long z3, .long z4, .long z5, .int (nI sw), .int (nI np), .ref qf, .ref qs, .int (nI fe), .int (nI te), .int (nI kk), .ref qt, .ref qx, .ref qy, .int no, .int nt, .ref qo, .ref qz, .ref qi, .ref qv, .int u.1])), (qo, .inl (cI, 4, .inl u.2)), (qz, .inl (cI, 4, .inl szf))]) (va_A [(m0, .inr (10, [.ref qk, .int (nI d), .int (nI sh), .int (nI low), .int (nI high), .int le, .int mo, .int (nI nb), .ref qp, .ref qr, .ref qc, .ref qm, .ref qb, .int (nI cap), .int kd, .int am, .int wt, .int md, .long z1, .long z2, .long z3, .long z4, .long z5, .int (nI sw), .int (nI np), .ref qf, .ref qs, .int (nI fe), .int (nI te), .int (nI kk), .ref qt, .ref qx, .ref qy, .int no, .int nt, .ref qo, .ref qz, .ref qi, .ref qv, .int fd])), (qo, .inl (cI, 4, .inl fmf)), (qz, .inl (cI, 4, .inl szf))] sz)) 0 0 (va_A [(m0, .inr (10, [.ref qk, .int (nI d), .int (nI sh), .int (nI low), .int (nI high), .int le, .int mo, .int (nI nb), .ref qp, .ref qr, .ref qc, .ref qm, .ref qb, .int (nI cap), .int kd, .int am, .int wt, .int md, .long z1, .long z2, .long z3, .long z4, .long z5, .int (nI sw), .int (nI np), .ref qf, .ref qs, .int (nI fe), .int (nI te), .int (nI kk), .ref qt, .ref qx, .ref qy, .int no, .int nt, .ref qo, .ref qz, .ref qi, .ref qv, .int fd])), (qo, .inl (cI, 4, .inl fmf)), (qz, .inl (cI, 4, .inl szf))] sz) := by
  refine Met.ofW (cc := cX10_lose) (maxL := 2) (ret := (some .int)) (by decide) rfl ?_
  intro p e s m args below meth c s₁ B hml hv
  obtain ⟨rfl, hsz, hP, hK, hD0, hN⟩ := hv
  have hx := B.exec
  have hb := B.bytes
  have hr := B.returns
  have hts := atoms_spec (ws := wsX10_lose) B.pre
  have hown : s.vm.findClass RX10 = some m.cls := findClass_of_methodNamed B.named
  have hlocks := B.notSynchronized
  subst hsz
  have iX10 : ∀ w ∈ u_ws RX10 TX10 40, w ∈ wsX10_lose := by decide +kernel
  have hD := hD0.self (sz := s.heap.size)
  generalize hAe : va_A [(m0, .inr (10, [.ref qk, .int (nI d), .int (nI sh), .int (nI low), .int (nI high), .int le, .int mo, .int (nI nb), .ref qp, .ref qr, .ref qc, .ref qm, .ref qb, .int (nI cap), .int kd, .int am, .int wt, .int md, .long z1, .long z2, .long z3, .long z4, .long z5, .int (nI sw), .int (nI np), .ref qf, .ref qs, .int (nI fe), .int (nI te), .int (nI kk), .ref qt, .ref qx, .ref qy, .int no, .int nt, .ref qo, .ref qz, .ref qi, .ref qv, .int fd])), (qo, .inl (cI, 4, .inl fmf)), (qz, .inl (cI, 4, .inl szf))] s.heap.size = A at hD ⊢
  have hA : ∀ q : Nat, s.heap.size ≤ q → A q := fun q h => by rw [← hAe]; exact Or.inr h
  have hS : va_S A s.heap s.heap [] := va_S.rf
  have hP : va_P D vwCl [(m0, .inr (10, [.ref qk, .int (nI d), .int (nI sh), .int (nI low), .int (nI high), .int le, .int mo, .int (nI nb), .ref qp, .ref qr, .ref qc, .ref qm, .ref qb, .int (nI cap), .int kd, .int am, .int wt, .int md, .long z1, .long z2, .long z3, .long z4, .long z5, .int (nI sw), .int (nI np), .ref qf, .ref qs, .int (nI fe), .int (nI te), .int (nI kk), .ref qt, .ref qx, .ref qy, .int no, .int nt, .ref qo, .ref qz, .ref qi, .ref qv, .int fd])), (qo, .inl (cI, 4, .inl fmf)), (qz, .inl (cI, 4, .inl szf))] s.heap := hP
  have hl := lv_entry ([.ref m0, .int (nI k)]) (n := 2) (Nat.le_of_ble_eq_true rfl)
  rw [lg_entry_eq]
  generalize (lg_sl ([.ref m0, .int (nI k)]) ++ List.replicate (2 - (lg_sl ([.ref m0, .int (nI k)])).length) Slot.unset).toArray = ls at hl ⊢
  have hl : lv_has ls 2 [(0, .ref m0), (1, .int (nI k))] := hl
  refine lv_iload_n hx hb dX10_lose_0 rfl (lv_at hl 1 rfl) ?_
  refine q_S (tys := TY cI cS cP) (D := D) ⟨hx, hb, hml, hown, hts⟩ [.int (nI k)] [] c_X10_isSheet (va_cwS 1 hts gX10_lose_X10_isSheet rfl rfl rfl (by decide +kernel) ⟨Nat.le_of_ble_eq_true rfl, Nat.le_of_ble_eq_true rfl⟩) hK hN rfl hl.1 rfl (Nat.le_of_ble_eq_true rfl) dX10_lose_1 ⟨Nat.zero_le _, Nat.zero_le _⟩ (fun r hw => ?_)
  subst hw
  refine lv_if_ne (tgt := 10) hx hb dX10_lose_4 (by decide) (fun c_4 => ?_) (fun c_4 => ?_)
  ·
    have c_4 := bnz c_4
    refine lv_aload_n hx hb dX10_lose_10 rfl (lv_at hl 0 rfl) ?_
    refine va_get (D := D) (ci := 10) (v := .ref qo) (C := RX10) (T := TX10) (N := 40) hx hb hts iX10 hown hK hP 0 rfl rfl 35 (by decide) (hts (.fieldLink RX10 53 "DeepHoleModel" "forms" "[I") (by decide +kernel)) (fun _ h9 => h9) rfl dX10_lose_11 ?_
    refine lv_iload_n hx hb dX10_lose_14 rfl (lv_at hl 1 rfl) ?_
    refine rd_i hx hb hK hP 1 0 rfl rfl (k := k) (by omega) (by decide) dX10_lose_15 ?_
    refine lv_if_ge (tgt := 25) hx hb dX10_lose_16 (by decide) (fun c_16 => ?_) (fun c_16 => ?_)
    ·
      obtain ⟨hlo, hfo, hsz, hit⟩ := hSR.pos (i_nlt c_16)
      refine lv_aload_n hx hb dX10_lose_25 rfl (lv_at hl 0 rfl) ?_
      refine va_get (D := D) (ci := 10) (v := .ref qo) (C := RX10) (T := TX10) (N := 40) hx hb hts iX10 hown hK hP 0 rfl rfl 35 (by decide) (hts (.fieldLink RX10 53 "DeepHoleModel" "forms" "[I") (by decide +kernel)) (fun _ h9 => h9) rfl dX10_lose_26 ?_
      refine lv_iload_n hx hb dX10_lose_29 rfl (lv_at hl 1 rfl) ?_
      refine lv_iconst (v := (-1)) hx hb dX10_lose_30 (by decide) ?_
      refine wr_i hx hb hK hP hD hS 1 0 rfl rfl (k := k) (by omega) (by decide) dX10_lose_31 (fun H locs hP hD hS => ?_)
      have hP : va_P D vwCl [(m0, .inr (10, [.ref qk, .int (nI d), .int (nI sh), .int (nI low), .int (nI high), .int le, .int mo, .int (nI nb), .ref qp, .ref qr, .ref qc, .ref qm, .ref qb, .int (nI cap), .int kd, .int am, .int wt, .int md, .long z1, .long z2, .long z3, .long z4, .long z5, .int (nI sw), .int (nI np), .ref qf, .ref qs, .int (nI fe), .int (nI te), .int (nI kk), .ref qt, .ref qx, .ref qy, .int no, .int nt, .ref qo, .ref qz, .ref qi, .ref qv, .int fd])), (qo, .inl (cI, 4, .inl (upd fmf k (-1)))), (qz, .inl (cI, 4, .inl szf))] H := hP
      have hD : va_D A [(m0, .inr (10, [.ref qk, .int (nI d), .int (nI sh), .int (nI low), .int (nI high), .int le, .int mo, .int (nI nb), .ref qp, .ref qr, .ref qc, .ref qm, .ref qb, .int (nI cap), .int kd, .int am, .int wt, .int md, .long z1, .long z2, .long z3, .long z4, .long z5, .int (nI sw), .int (nI np), .ref qf, .ref qs, .int (nI fe), .int (nI te), .int (nI kk), .ref qt, .ref qx, .ref qy, .int no, .int nt, .ref qo, .ref qz, .ref qi, .ref qv, .int fd])), (qo, .inl (cI, 4, .inl (upd fmf k (-1)))), (qz, .inl (cI, 4, .inl szf))] := hD
      refine lv_aload_n hx hb dX10_lose_32 rfl (lv_at hl 0 rfl) ?_
      refine va_get (D := D) (ci := 10) (v := .ref qz) (C := RX10) (T := TX10) (N := 40) hx hb hts iX10 hown hK hP 0 rfl rfl 36 (by decide) (hts (.fieldLink RX10 56 "DeepHoleModel" "sizes" "[I") (by decide +kernel)) (fun _ h9 => h9) rfl dX10_lose_33 ?_
      refine lv_iload_n hx hb dX10_lose_36 rfl (lv_at hl 1 rfl) ?_
      refine rd_i hx hb hK hP 2 0 rfl rfl (k := k) (by omega) (by decide) dX10_lose_37 ?_
      refine lv_eqi (z := nI n) (hsz) ?_
      have hP9 := hP.sub (ws' := [(m0, .inr (10, [.ref qk, .int (nI d), .int (nI sh), .int (nI low), .int (nI high), .int le, .int mo, .int (nI nb), .ref qp, .ref qr, .ref qc, .ref qm, .ref qb, .int (nI cap), .int kd, .int am, .int wt, .int md, .long z1, .long z2, .long z3, .long z4, .long z5, .int (nI sw), .int (nI np), .ref qf, .ref qs, .int (nI fe), .int (nI te), .int (nI kk), .ref qt, .ref qx, .ref qy, .int no, .int nt, .ref qo, .ref qz, .ref qi, .ref qv, .int fd])), (qo, .inl (cI, 4, .inl (upd fmf k (-1)))), (qz, .inl (cI, 4, .inl szf))]) [0, 1, 2] rfl
      have hD9 := hD.sub (ws' := [(m0, .inr (10, [.ref qk, .int (nI d), .int (nI sh), .int (nI low), .int (nI high), .int le, .int mo, .int (nI nb), .ref qp, .ref qr, .ref qc, .ref qm, .ref qb, .int (nI cap), .int kd, .int am, .int wt, .int md, .long z1, .long z2, .long z3, .long z4, .long z5, .int (nI sw), .int (nI np), .ref qf, .ref qs, .int (nI fe), .int (nI te), .int (nI kk), .ref qt, .ref qx, .ref qy, .int no, .int nt, .ref qo, .ref qz, .ref qi, .ref qv, .int fd])), (qo, .inl (cI, 4, .inl (upd fmf k (-1)))), (qz, .inl (cI, 4, .inl szf))]) [0, 1, 2] (by decide) rfl
      exact W.iret (v := nI n) hx hb hr (fun t ht hW => ⟨⟨_, (fd, upd fmf k (-1)), rfl, (by unfold aLose sLoseM; rw [if_neg (fun h => h hlo), if_neg (fun h => h hlo)]; exact ⟨rfl, rfl⟩), by rw [ht]; exact hP9, hD9⟩, hS.F ht⟩) hS.2.2 dX10_lose_38
    ·
      have hneg := hSR.neg (i_lt' c_16)
      refine lv_aload_n hx hb dX10_lose_19 rfl (lv_at hl 0 rfl) ?_
      refine lv_iconst (v := 1) hx hb dX10_lose_20 (by decide) ?_
      refine w_V (wc := [(m0, .inr (10, [.ref qk, .int (nI d), .int (nI sh), .int (nI low), .int (nI high), .int le, .int mo, .int (nI nb), .ref qp, .ref qr, .ref qc, .ref qm, .ref qb, .int (nI cap), .int kd, .int am, .int wt, .int md, .long z1, .long z2, .long z3, .long z4, .long z5, .int (nI sw), .int (nI np), .ref qf, .ref qs, .int (nI fe), .int (nI te), .int (nI kk), .ref qt, .ref qx, .ref qy, .int no, .int nt, .ref qo, .ref qz, .ref qi, .ref qv, .int fd]))]) (wr := [(qo, .inl (cI, 4, .inl fmf)), (qz, .inl (cI, 4, .inl szf))]) (b := m0) ⟨hx, hb, hml, hown, hts⟩ [.int (1 : Int32)] [] c_X10_met (cwV 1 hts gX10_lose_X10_met rfl rfl rfl (by decide +kernel) ⟨Nat.le_of_ble_eq_true rfl, Nat.le_of_ble_eq_true rfl⟩) hK hN hP hD hS hA [0] [1, 2] rfl (by decide) rfl (by decide) (by decide) (ci := 10) rfl rfl rfl rfl hl.1 rfl (Nat.le_of_ble_eq_true rfl) dX10_lose_21 ⟨Nat.zero_le _, Nat.zero_le _⟩ (fun r u H locs hw hP hD hS => ?_)
      have hP : va_P D vwCl [(qo, .inl (cI, 4, .inl fmf)), (qz, .inl (cI, 4, .inl szf)), (m0, .inr (10, [.ref qk, .int (nI d), .int (nI sh), .int (nI low), .int (nI high), .int le, .int mo, .int (nI nb), .ref qp, .ref qr, .ref qc, .ref qm, .ref qb, .int (nI cap), .int kd, .int am, .int wt, .int md, .long z1, .long z2, .long z3, .long z4, .long z5, .int (nI sw), .int (nI np), .ref qf, .ref qs, .int (nI fe), .int (nI te), .int (nI kk), .ref qt, .ref qx, .ref qy, .int no, .int nt, .ref qo, .ref qz, .ref qi, .ref qv, .int (1 : Int32)]))] H := hP
      have hD : va_D A [(qo, .inl (cI, 4, .inl fmf)), (qz, .inl (cI, 4, .inl szf)), (m0, .inr (10, [.ref qk, .int (nI d), .int (nI sh), .int (nI low), .int (nI high), .int le, .int mo, .int (nI nb), .ref qp, .ref qr, .ref qc, .ref qm, .ref qb, .int (nI cap), .int kd, .int am, .int wt, .int md, .long z1, .long z2, .long z3, .long z4, .long z5, .int (nI sw), .int (nI np), .ref qf, .ref qs, .int (nI fe), .int (nI te), .int (nI kk), .ref qt, .ref qx, .ref qy, .int no, .int nt, .ref qo, .ref qz, .ref qi, .ref qv, .int (1 : Int32)]))] := hD
      subst hw
      have hP9 := hP.sub (ws' := [(m0, .inr (10, [.ref qk, .int (nI d), .int (nI sh), .int (nI low), .int (nI high), .int le, .int mo, .int (nI nb), .ref qp, .ref qr, .ref qc, .ref qm, .ref qb, .int (nI cap), .int kd, .int am, .int wt, .int md, .long z1, .long z2, .long z3, .long z4, .long z5, .int (nI sw), .int (nI np), .ref qf, .ref qs, .int (nI fe), .int (nI te), .int (nI kk), .ref qt, .ref qx, .ref qy, .int no, .int nt, .ref qo, .ref qz, .ref qi, .ref qv, .int (1 : Int32)])), (qo, .inl (cI, 4, .inl fmf)), (qz, .inl (cI, 4, .inl szf))]) [2, 0, 1] rfl
      have hD9 := hD.sub (ws' := [(m0, .inr (10, [.ref qk, .int (nI d), .int (nI sh), .int (nI low), .int (nI high), .int le, .int mo, .int (nI nb), .ref qp, .ref qr, .ref qc, .ref qm, .ref qb, .int (nI cap), .int kd, .int am, .int wt, .int md, .long z1, .long z2, .long z3, .long z4, .long z5, .int (nI sw), .int (nI np), .ref qf, .ref qs, .int (nI fe), .int (nI te), .int (nI kk), .ref qt, .ref qx, .ref qy, .int no, .int nt, .ref qo, .ref qz, .ref qi, .ref qv, .int (1 : Int32)])), (qo, .inl (cI, 4, .inl fmf)), (qz, .inl (cI, 4, .inl szf))]) [2, 0, 1] (by decide) rfl
      exact W.iret (v := -10 - (1 : Int32)) hx hb hr (fun t ht hW => ⟨⟨_, (1, fmf), rfl, (by unfold aLose sLoseM; rw [if_pos hneg, if_pos hneg]; exact ⟨rfl, rfl⟩), by rw [ht]; exact hP9, hD9⟩, hS.F ht⟩) hS.2.2 dX10_lose_24
  ·
    have c_4 := bz c_4
    exact absurd (show (0 : Int32) ≤ nI k ∧ nI k ≤ 3 from ⟨nI_pos' (by omega), nI_le (b := 3) (by omega) (by decide)⟩) c_4

set_option maxHeartbeats 4000000 in
set_option maxRecDepth 100000 in
theorem c_X10_lose_b {l : Launch} {D : va_G} {cI cS cP : ClassId} {sz : Nat} {m0 qk qp qr qc qm qb qf qs qt qx qy qo qz qi qv : Nat} {d sh low high nb cap sw np fe te kk : Nat} {le mo kd am wt md no nt fd : Int32} {z1 z2 z3 z4 z5 : Int64} {h1 : Int32} (hbad : ¬ (0 ≤ h1 ∧ h1 ≤ 3)) : Met l yX10_lose wsX10_lose ({ frames := 2, cells := 0, slots := 0, locals := 45 }) (PC D (TY cI cS cP) [.ref m0, .int h1] sz [(m0, .inr (10, [.ref qk, .int (nI d), .int (nI sh), .int (nI low), .int (nI high), .int le, .int mo, .int (nI nb), .ref qp, .ref qr, .ref qc, .ref qm, .ref qb, .int (nI cap), .int kd, .int am, .int wt, .int md, .long z1, .long z2, .long z3, .long z4, .long z5, .int (nI sw), .int (nI np), .ref qf, .ref qs, .int (nI fe), .int (nI te), .int (nI kk), .ref qt, .ref qx, .ref qy, .int no, .int nt, .ref qo, .ref qz, .ref qi, .ref qv, .int fd]))]) (vp_Si (fun r => r = -2)) 0 0 (fun _ => False) := by
  refine Met.ofW (cc := cX10_lose) (maxL := 2) (ret := (some .int)) (by decide) rfl ?_
  intro p e s m args below meth c s₁ B hml hv
  obtain ⟨rfl, hsz, hP, hK, hD0, hN⟩ := hv
  have hx := B.exec
  have hb := B.bytes
  have hr := B.returns
  have hts := atoms_spec (ws := wsX10_lose) B.pre
  have hown : s.vm.findClass RX10 = some m.cls := findClass_of_methodNamed B.named
  have hlocks := B.notSynchronized
  subst hsz
  have hD := hD0
  have hP : va_P D vwCl [(m0, .inr (10, [.ref qk, .int (nI d), .int (nI sh), .int (nI low), .int (nI high), .int le, .int mo, .int (nI nb), .ref qp, .ref qr, .ref qc, .ref qm, .ref qb, .int (nI cap), .int kd, .int am, .int wt, .int md, .long z1, .long z2, .long z3, .long z4, .long z5, .int (nI sw), .int (nI np), .ref qf, .ref qs, .int (nI fe), .int (nI te), .int (nI kk), .ref qt, .ref qx, .ref qy, .int no, .int nt, .ref qo, .ref qz, .ref qi, .ref qv, .int fd]))] s.heap := hP
  have hl := lv_entry ([.ref m0, .int h1]) (n := 2) (Nat.le_of_ble_eq_true rfl)
  rw [lg_entry_eq]
  generalize (lg_sl ([.ref m0, .int h1]) ++ List.replicate (2 - (lg_sl ([.ref m0, .int h1])).length) Slot.unset).toArray = ls at hl ⊢
  have hl : lv_has ls 2 [(0, .ref m0), (1, .int h1)] := hl
  refine lv_iload_n hx hb dX10_lose_0 rfl (lv_at hl 1 rfl) ?_
  refine q_S (tys := TY cI cS cP) (D := D) ⟨hx, hb, hml, hown, hts⟩ [.int h1] [] c_X10_isSheet (va_cwS 1 hts gX10_lose_X10_isSheet rfl rfl rfl (by decide +kernel) ⟨Nat.le_of_ble_eq_true rfl, Nat.le_of_ble_eq_true rfl⟩) hK hN rfl hl.1 rfl (Nat.le_of_ble_eq_true rfl) dX10_lose_1 ⟨Nat.zero_le _, Nat.zero_le _⟩ (fun r hw => ?_)
  subst hw
  refine lv_if_ne (tgt := 10) hx hb dX10_lose_4 (by decide) (fun c_4 => ?_) (fun c_4 => ?_)
  ·
    have c_4 := bnz c_4
    exact absurd c_4 hbad
  ·
    have c_4 := bz c_4
    refine lv_bipush (v := (-2)) hx hb dX10_lose_7 (by decide) ?_
    exact W.iret (v := (-2)) hx hb hr (fun t ht hW => ⟨_, rfl, (by rfl), ht⟩) (fun _ h => absurd h List.not_mem_nil) dX10_lose_9

set_option maxHeartbeats 4000000 in
set_option maxRecDepth 100000 in
theorem c_X10_lacks {l : Launch} {D : va_G} {cI cS cP : ClassId} {sz : Nat} {m0 qk qp qr qc qm qb qf qs qt qx qy qo qz qi qv : Nat} {d sh low high nb cap sw np fe te kk : Nat} {le mo kd am wt md no nt fd : Int32} {z1 z2 z3 z4 z5 : Int64} {fmf szf imf : Nat → Int32} {k n : Nat} {lo fo : Int32} {it : Nat → Int32} {fm ix : Int32} (hk : k < 4) (hn : n ≤ 60) (hSR : sREL fmf szf imf k lo fo n it) : Met l yX10_lacks wsX10_lacks ({ frames := 1, cells := 0, slots := 0, locals := 25 }) (PC D (TY cI cS cP) [.ref m0, .int (nI k), .int fm, .int ix] sz [(m0, .inr (10, [.ref qk, .int (nI d), .int (nI sh), .int (nI low), .int (nI high), .int le, .int mo, .int (nI nb), .ref qp, .ref qr, .ref qc, .ref qm, .ref qb, .int (nI cap), .int kd, .int am, .int wt, .int md, .long z1, .long z2, .long z3, .long z4, .long z5, .int (nI sw), .int (nI np), .ref qf, .ref qs, .int (nI fe), .int (nI te), .int (nI kk), .ref qt, .ref qx, .ref qy, .int no, .int nt, .ref qo, .ref qz, .ref qi, .ref qv, .int fd])), (qo, .inl (cI, 4, .inl fmf)), (qz, .inl (cI, 4, .inl szf))]) (QI D (fun (r : Int32) (u : Int32) => (r = lackA (wrongW lo fo n fm ix)) ∧ u = lackS (wrongW lo fo n fm ix) fd) (fun (u : Int32) => [(m0, .inr (10, [.ref qk, .int (nI d), .int (nI sh), .int (nI low), .int (nI high), .int le, .int mo, .int (nI nb), .ref qp, .ref qr, .ref qc, .ref qm, .ref qb, .int (nI cap), .int kd, .int am, .int wt, .int md, .long z1, .long z2, .long z3, .long z4, .long z5, .int (nI sw), .int (nI np), .ref qf, .ref qs, .int (nI fe), .int (nI te), .int (nI kk), .ref qt, .ref qx, .ref qy, .int no, .int nt, .ref qo, .ref qz, .ref qi, .ref qv, .int u])), (qo, .inl (cI, 4, .inl fmf)), (qz, .inl (cI, 4, .inl szf))]) (va_A [(m0, .inr (10, [.ref qk, .int (nI d), .int (nI sh), .int (nI low), .int (nI high), .int le, .int mo, .int (nI nb), .ref qp, .ref qr, .ref qc, .ref qm, .ref qb, .int (nI cap), .int kd, .int am, .int wt, .int md, .long z1, .long z2, .long z3, .long z4, .long z5, .int (nI sw), .int (nI np), .ref qf, .ref qs, .int (nI fe), .int (nI te), .int (nI kk), .ref qt, .ref qx, .ref qy, .int no, .int nt, .ref qo, .ref qz, .ref qi, .ref qv, .int fd])), (qo, .inl (cI, 4, .inl fmf)), (qz, .inl (cI, 4, .inl szf))] sz)) 0 0 (va_A [(m0, .inr (10, [.ref qk, .int (nI d), .int (nI sh), .int (nI low), .int (nI high), .int le, .int mo, .int (nI nb), .ref qp, .ref qr, .ref qc, .ref qm, .ref qb, .int (nI cap), .int kd, .int am, .int wt, .int md, .long z1, .long z2, .long z3, .long z4, .long z5, .int (nI sw), .int (nI np), .ref qf, .ref qs, .int (nI fe), .int (nI te), .int (nI kk), .ref qt, .ref qx, .ref qy, .int no, .int nt, .ref qo, .ref qz, .ref qi, .ref qv, .int fd])), (qo, .inl (cI, 4, .inl fmf)), (qz, .inl (cI, 4, .inl szf))] sz) := by
  refine Met.ofW (cc := cX10_lacks) (maxL := 4) (ret := (some .int)) (by decide) rfl ?_
  intro p e s m args below meth c s₁ B hml hv
  obtain ⟨rfl, hsz, hP, hK, hD0, hN⟩ := hv
  have hx := B.exec
  have hb := B.bytes
  have hr := B.returns
  have hts := atoms_spec (ws := wsX10_lacks) B.pre
  have hown : s.vm.findClass RX10 = some m.cls := findClass_of_methodNamed B.named
  have hlocks := B.notSynchronized
  subst hsz
  have iX10 : ∀ w ∈ u_ws RX10 TX10 40, w ∈ wsX10_lacks := by decide +kernel
  have hD := hD0.self (sz := s.heap.size)
  generalize hAe : va_A [(m0, .inr (10, [.ref qk, .int (nI d), .int (nI sh), .int (nI low), .int (nI high), .int le, .int mo, .int (nI nb), .ref qp, .ref qr, .ref qc, .ref qm, .ref qb, .int (nI cap), .int kd, .int am, .int wt, .int md, .long z1, .long z2, .long z3, .long z4, .long z5, .int (nI sw), .int (nI np), .ref qf, .ref qs, .int (nI fe), .int (nI te), .int (nI kk), .ref qt, .ref qx, .ref qy, .int no, .int nt, .ref qo, .ref qz, .ref qi, .ref qv, .int fd])), (qo, .inl (cI, 4, .inl fmf)), (qz, .inl (cI, 4, .inl szf))] s.heap.size = A at hD ⊢
  have hA : ∀ q : Nat, s.heap.size ≤ q → A q := fun q h => by rw [← hAe]; exact Or.inr h
  have hS : va_S A s.heap s.heap [] := va_S.rf
  have hP : va_P D vwCl [(m0, .inr (10, [.ref qk, .int (nI d), .int (nI sh), .int (nI low), .int (nI high), .int le, .int mo, .int (nI nb), .ref qp, .ref qr, .ref qc, .ref qm, .ref qb, .int (nI cap), .int kd, .int am, .int wt, .int md, .long z1, .long z2, .long z3, .long z4, .long z5, .int (nI sw), .int (nI np), .ref qf, .ref qs, .int (nI fe), .int (nI te), .int (nI kk), .ref qt, .ref qx, .ref qy, .int no, .int nt, .ref qo, .ref qz, .ref qi, .ref qv, .int fd])), (qo, .inl (cI, 4, .inl fmf)), (qz, .inl (cI, 4, .inl szf))] s.heap := hP
  have hl := lv_entry ([.ref m0, .int (nI k), .int fm, .int ix]) (n := 4) (Nat.le_of_ble_eq_true rfl)
  rw [lg_entry_eq]
  generalize (lg_sl ([.ref m0, .int (nI k), .int fm, .int ix]) ++ List.replicate (4 - (lg_sl ([.ref m0, .int (nI k), .int fm, .int ix])).length) Slot.unset).toArray = ls at hl ⊢
  have hl : lv_has ls 4 [(0, .ref m0), (1, .int (nI k)), (2, .int fm), (3, .int ix)] := hl
  refine lv_aload_n hx hb dX10_lacks_0 rfl (lv_at hl 0 rfl) ?_
  refine va_get (D := D) (ci := 10) (v := .ref qo) (C := RX10) (T := TX10) (N := 40) hx hb hts iX10 hown hK hP 0 rfl rfl 35 (by decide) (hts (.fieldLink RX10 53 "DeepHoleModel" "forms" "[I") (by decide +kernel)) (fun _ h9 => h9) rfl dX10_lacks_1 ?_
  refine lv_iload_n hx hb dX10_lacks_4 rfl (lv_at hl 1 rfl) ?_
  refine rd_i hx hb hK hP 1 0 rfl rfl (k := k) (by omega) (by decide) dX10_lacks_5 ?_
  refine lv_if_ge (tgt := 15) hx hb dX10_lacks_6 (by decide) (fun c_6 => ?_) (fun c_6 => ?_)
  ·
    obtain ⟨hlo, hfo, hsz, hit⟩ := hSR.pos (i_nlt c_6)
    refine lv_aload_n hx hb dX10_lacks_15 rfl (lv_at hl 0 rfl) ?_
    refine va_get (D := D) (ci := 10) (v := .ref qo) (C := RX10) (T := TX10) (N := 40) hx hb hts iX10 hown hK hP 0 rfl rfl 35 (by decide) (hts (.fieldLink RX10 53 "DeepHoleModel" "forms" "[I") (by decide +kernel)) (fun _ h9 => h9) rfl dX10_lacks_16 ?_
    refine lv_iload_n hx hb dX10_lacks_19 rfl (lv_at hl 1 rfl) ?_
    refine rd_i hx hb hK hP 1 0 rfl rfl (k := k) (by omega) (by decide) dX10_lacks_20 ?_
    refine lv_iload_n hx hb dX10_lacks_21 rfl (lv_at hl 2 rfl) ?_
    refine lv_icmp_eq (tgt := 31) hx hb dX10_lacks_22 (by decide) (fun c_22 => ?_) (fun c_22 => ?_)
    ·
      refine lv_iload_n hx hb dX10_lacks_31 rfl (lv_at hl 3 rfl) ?_
      refine lv_i2l (v := ix.toInt64) hx hb dX10_lacks_32 rfl ?_
      refine lv_lconst (v := 0) hx hb dX10_lacks_33 (by decide) ?_
      refine lv_aload_n hx hb dX10_lacks_34 rfl (lv_at hl 0 rfl) ?_
      refine va_get (D := D) (ci := 10) (v := .ref qz) (C := RX10) (T := TX10) (N := 40) hx hb hts iX10 hown hK hP 0 rfl rfl 36 (by decide) (hts (.fieldLink RX10 56 "DeepHoleModel" "sizes" "[I") (by decide +kernel)) (fun _ h9 => h9) rfl dX10_lacks_35 ?_
      refine lv_iload_n hx hb dX10_lacks_38 rfl (lv_at hl 1 rfl) ?_
      refine rd_i hx hb hK hP 2 0 rfl rfl (k := k) (by omega) (by decide) dX10_lacks_39 ?_
      refine lv_eqi (z := nI n) (hsz) ?_
      refine lv_iconst (v := 1) hx hb dX10_lacks_40 (by decide) ?_
      refine lv_isub hx hb dX10_lacks_41 ?_
      refine lv_i2l (v := ((nI n) - 1).toInt64) hx hb dX10_lacks_42 rfl ?_
      refine q_S (tys := TY cI cS cP) (D := D) ⟨hx, hb, hml, hown, hts⟩ [.long ix.toInt64, .long ((0 : Int32).toInt64), .long (((nI n) - 1).toInt64)] [] c_X10_in (va_cwS 3 hts gX10_lacks_X10_in rfl rfl rfl (by decide +kernel) ⟨Nat.le_of_ble_eq_true rfl, Nat.le_of_ble_eq_true rfl⟩) hK hN rfl hl.1 rfl (Nat.le_of_ble_eq_true rfl) dX10_lacks_43 ⟨Nat.zero_le _, Nat.zero_le _⟩ (fun r hw => ?_)
      subst hw
      refine lv_if_eq (tgt := 53) hx hb dX10_lacks_46 (by decide) (fun c_46 => ?_) (fun c_46 => ?_)
      ·
        have c_46 := bz c_46
        refine lv_aload_n hx hb dX10_lacks_53 rfl (lv_at hl 0 rfl) ?_
        refine lv_iconst (v := 2) hx hb dX10_lacks_54 (by decide) ?_
        refine w_V (wc := [(m0, .inr (10, [.ref qk, .int (nI d), .int (nI sh), .int (nI low), .int (nI high), .int le, .int mo, .int (nI nb), .ref qp, .ref qr, .ref qc, .ref qm, .ref qb, .int (nI cap), .int kd, .int am, .int wt, .int md, .long z1, .long z2, .long z3, .long z4, .long z5, .int (nI sw), .int (nI np), .ref qf, .ref qs, .int (nI fe), .int (nI te), .int (nI kk), .ref qt, .ref qx, .ref qy, .int no, .int nt, .ref qo, .ref qz, .ref qi, .ref qv, .int fd]))]) (wr := [(qo, .inl (cI, 4, .inl fmf)), (qz, .inl (cI, 4, .inl szf))]) (b := m0) ⟨hx, hb, hml, hown, hts⟩ [.int (2 : Int32)] [] c_X10_met (cwV 1 hts gX10_lacks_X10_met rfl rfl rfl (by decide +kernel) ⟨Nat.le_of_ble_eq_true rfl, Nat.le_of_ble_eq_true rfl⟩) hK hN hP hD hS hA [0] [1, 2] rfl (by decide) rfl (by decide) (by decide) (ci := 10) rfl rfl rfl rfl hl.1 rfl (Nat.le_of_ble_eq_true rfl) dX10_lacks_55 ⟨Nat.zero_le _, Nat.zero_le _⟩ (fun r u H locs hw hP hD hS => ?_)
        have hP : va_P D vwCl [(qo, .inl (cI, 4, .inl fmf)), (qz, .inl (cI, 4, .inl szf)), (m0, .inr (10, [.ref qk, .int (nI d), .int (nI sh), .int (nI low), .int (nI high), .int le, .int mo, .int (nI nb), .ref qp, .ref qr, .ref qc, .ref qm, .ref qb, .int (nI cap), .int kd, .int am, .int wt, .int md, .long z1, .long z2, .long z3, .long z4, .long z5, .int (nI sw), .int (nI np), .ref qf, .ref qs, .int (nI fe), .int (nI te), .int (nI kk), .ref qt, .ref qx, .ref qy, .int no, .int nt, .ref qo, .ref qz, .ref qi, .ref qv, .int (2 : Int32)]))] H := hP
        have hD : va_D A [(qo, .inl (cI, 4, .inl fmf)), (qz, .inl (cI, 4, .inl szf)), (m0, .inr (10, [.ref qk, .int (nI d), .int (nI sh), .int (nI low), .int (nI high), .int le, .int mo, .int (nI nb), .ref qp, .ref qr, .ref qc, .ref qm, .ref qb, .int (nI cap), .int kd, .int am, .int wt, .int md, .long z1, .long z2, .long z3, .long z4, .long z5, .int (nI sw), .int (nI np), .ref qf, .ref qs, .int (nI fe), .int (nI te), .int (nI kk), .ref qt, .ref qx, .ref qy, .int no, .int nt, .ref qo, .ref qz, .ref qi, .ref qv, .int (2 : Int32)]))] := hD
        subst hw
        have hP9 := hP.sub (ws' := [(m0, .inr (10, [.ref qk, .int (nI d), .int (nI sh), .int (nI low), .int (nI high), .int le, .int mo, .int (nI nb), .ref qp, .ref qr, .ref qc, .ref qm, .ref qb, .int (nI cap), .int kd, .int am, .int wt, .int md, .long z1, .long z2, .long z3, .long z4, .long z5, .int (nI sw), .int (nI np), .ref qf, .ref qs, .int (nI fe), .int (nI te), .int (nI kk), .ref qt, .ref qx, .ref qy, .int no, .int nt, .ref qo, .ref qz, .ref qi, .ref qv, .int (2 : Int32)])), (qo, .inl (cI, 4, .inl fmf)), (qz, .inl (cI, 4, .inl szf))]) [2, 0, 1] rfl
        have hD9 := hD.sub (ws' := [(m0, .inr (10, [.ref qk, .int (nI d), .int (nI sh), .int (nI low), .int (nI high), .int le, .int mo, .int (nI nb), .ref qp, .ref qr, .ref qc, .ref qm, .ref qb, .int (nI cap), .int kd, .int am, .int wt, .int md, .long z1, .long z2, .long z3, .long z4, .long z5, .int (nI sw), .int (nI np), .ref qf, .ref qs, .int (nI fe), .int (nI te), .int (nI kk), .ref qt, .ref qx, .ref qy, .int no, .int nt, .ref qo, .ref qz, .ref qi, .ref qv, .int (2 : Int32)])), (qo, .inl (cI, 4, .inl fmf)), (qz, .inl (cI, 4, .inl szf))]) [2, 0, 1] (by decide) rfl
        exact W.iret (v := -10 - (2 : Int32)) hx hb hr (fun t ht hW => ⟨⟨_, (2 : Int32), rfl, (by have hC9 : wrongW lo fo n fm ix = 2 := (by unfold wrongW; rw [if_neg (fun h => h hlo), if_neg (fun h => h (by rw [← hfo]; exact c_22)), if_neg c_46]); rw [hC9]; exact ⟨rfl, rfl⟩), by rw [ht]; exact hP9, hD9⟩, hS.F ht⟩) hS.2.2 dX10_lacks_58
      ·
        have c_46 := bnz c_46
        refine lv_iconst (v := 0) hx hb dX10_lacks_49 (by decide) ?_
        refine lv_goto (tgt := 58) hx hb dX10_lacks_50 (by decide) ?_
        have hP9 := hP.sub (ws' := [(m0, .inr (10, [.ref qk, .int (nI d), .int (nI sh), .int (nI low), .int (nI high), .int le, .int mo, .int (nI nb), .ref qp, .ref qr, .ref qc, .ref qm, .ref qb, .int (nI cap), .int kd, .int am, .int wt, .int md, .long z1, .long z2, .long z3, .long z4, .long z5, .int (nI sw), .int (nI np), .ref qf, .ref qs, .int (nI fe), .int (nI te), .int (nI kk), .ref qt, .ref qx, .ref qy, .int no, .int nt, .ref qo, .ref qz, .ref qi, .ref qv, .int fd])), (qo, .inl (cI, 4, .inl fmf)), (qz, .inl (cI, 4, .inl szf))]) [0, 1, 2] rfl
        have hD9 := hD.sub (ws' := [(m0, .inr (10, [.ref qk, .int (nI d), .int (nI sh), .int (nI low), .int (nI high), .int le, .int mo, .int (nI nb), .ref qp, .ref qr, .ref qc, .ref qm, .ref qb, .int (nI cap), .int kd, .int am, .int wt, .int md, .long z1, .long z2, .long z3, .long z4, .long z5, .int (nI sw), .int (nI np), .ref qf, .ref qs, .int (nI fe), .int (nI te), .int (nI kk), .ref qt, .ref qx, .ref qy, .int no, .int nt, .ref qo, .ref qz, .ref qi, .ref qv, .int fd])), (qo, .inl (cI, 4, .inl fmf)), (qz, .inl (cI, 4, .inl szf))]) [0, 1, 2] (by decide) rfl
        exact W.iret (v := 0) hx hb hr (fun t ht hW => ⟨⟨_, fd, rfl, (by have hC9 : wrongW lo fo n fm ix = 0 := (by unfold wrongW; rw [if_neg (fun h => h hlo), if_neg (fun h => h (by rw [← hfo]; exact c_22)), if_pos c_46]); rw [hC9]; exact ⟨rfl, rfl⟩), by rw [ht]; exact hP9, hD9⟩, hS.F ht⟩) hS.2.2 dX10_lacks_58
    ·
      refine lv_aload_n hx hb dX10_lacks_25 rfl (lv_at hl 0 rfl) ?_
      refine lv_iconst (v := 3) hx hb dX10_lacks_26 (by decide) ?_
      refine w_V (wc := [(m0, .inr (10, [.ref qk, .int (nI d), .int (nI sh), .int (nI low), .int (nI high), .int le, .int mo, .int (nI nb), .ref qp, .ref qr, .ref qc, .ref qm, .ref qb, .int (nI cap), .int kd, .int am, .int wt, .int md, .long z1, .long z2, .long z3, .long z4, .long z5, .int (nI sw), .int (nI np), .ref qf, .ref qs, .int (nI fe), .int (nI te), .int (nI kk), .ref qt, .ref qx, .ref qy, .int no, .int nt, .ref qo, .ref qz, .ref qi, .ref qv, .int fd]))]) (wr := [(qo, .inl (cI, 4, .inl fmf)), (qz, .inl (cI, 4, .inl szf))]) (b := m0) ⟨hx, hb, hml, hown, hts⟩ [.int (3 : Int32)] [] c_X10_met (cwV 1 hts gX10_lacks_X10_met rfl rfl rfl (by decide +kernel) ⟨Nat.le_of_ble_eq_true rfl, Nat.le_of_ble_eq_true rfl⟩) hK hN hP hD hS hA [0] [1, 2] rfl (by decide) rfl (by decide) (by decide) (ci := 10) rfl rfl rfl rfl hl.1 rfl (Nat.le_of_ble_eq_true rfl) dX10_lacks_27 ⟨Nat.zero_le _, Nat.zero_le _⟩ (fun r u H locs hw hP hD hS => ?_)
      have hP : va_P D vwCl [(qo, .inl (cI, 4, .inl fmf)), (qz, .inl (cI, 4, .inl szf)), (m0, .inr (10, [.ref qk, .int (nI d), .int (nI sh), .int (nI low), .int (nI high), .int le, .int mo, .int (nI nb), .ref qp, .ref qr, .ref qc, .ref qm, .ref qb, .int (nI cap), .int kd, .int am, .int wt, .int md, .long z1, .long z2, .long z3, .long z4, .long z5, .int (nI sw), .int (nI np), .ref qf, .ref qs, .int (nI fe), .int (nI te), .int (nI kk), .ref qt, .ref qx, .ref qy, .int no, .int nt, .ref qo, .ref qz, .ref qi, .ref qv, .int (3 : Int32)]))] H := hP
      have hD : va_D A [(qo, .inl (cI, 4, .inl fmf)), (qz, .inl (cI, 4, .inl szf)), (m0, .inr (10, [.ref qk, .int (nI d), .int (nI sh), .int (nI low), .int (nI high), .int le, .int mo, .int (nI nb), .ref qp, .ref qr, .ref qc, .ref qm, .ref qb, .int (nI cap), .int kd, .int am, .int wt, .int md, .long z1, .long z2, .long z3, .long z4, .long z5, .int (nI sw), .int (nI np), .ref qf, .ref qs, .int (nI fe), .int (nI te), .int (nI kk), .ref qt, .ref qx, .ref qy, .int no, .int nt, .ref qo, .ref qz, .ref qi, .ref qv, .int (3 : Int32)]))] := hD
      subst hw
      have hP9 := hP.sub (ws' := [(m0, .inr (10, [.ref qk, .int (nI d), .int (nI sh), .int (nI low), .int (nI high), .int le, .int mo, .int (nI nb), .ref qp, .ref qr, .ref qc, .ref qm, .ref qb, .int (nI cap), .int kd, .int am, .int wt, .int md, .long z1, .long z2, .long z3, .long z4, .long z5, .int (nI sw), .int (nI np), .ref qf, .ref qs, .int (nI fe), .int (nI te), .int (nI kk), .ref qt, .ref qx, .ref qy, .int no, .int nt, .ref qo, .ref qz, .ref qi, .ref qv, .int (3 : Int32)])), (qo, .inl (cI, 4, .inl fmf)), (qz, .inl (cI, 4, .inl szf))]) [2, 0, 1] rfl
      have hD9 := hD.sub (ws' := [(m0, .inr (10, [.ref qk, .int (nI d), .int (nI sh), .int (nI low), .int (nI high), .int le, .int mo, .int (nI nb), .ref qp, .ref qr, .ref qc, .ref qm, .ref qb, .int (nI cap), .int kd, .int am, .int wt, .int md, .long z1, .long z2, .long z3, .long z4, .long z5, .int (nI sw), .int (nI np), .ref qf, .ref qs, .int (nI fe), .int (nI te), .int (nI kk), .ref qt, .ref qx, .ref qy, .int no, .int nt, .ref qo, .ref qz, .ref qi, .ref qv, .int (3 : Int32)])), (qo, .inl (cI, 4, .inl fmf)), (qz, .inl (cI, 4, .inl szf))]) [2, 0, 1] (by decide) rfl
      exact W.iret (v := -10 - (3 : Int32)) hx hb hr (fun t ht hW => ⟨⟨_, (3 : Int32), rfl, (by have hC9 : wrongW lo fo n fm ix = 3 := (by unfold wrongW; rw [if_neg (fun h => h hlo), if_pos (by rw [← hfo]; exact c_22)]); rw [hC9]; exact ⟨rfl, rfl⟩), by rw [ht]; exact hP9, hD9⟩, hS.F ht⟩) hS.2.2 dX10_lacks_30
  ·
    have hneg := hSR.neg (i_lt' c_6)
    refine lv_aload_n hx hb dX10_lacks_9 rfl (lv_at hl 0 rfl) ?_
    refine lv_iconst (v := 1) hx hb dX10_lacks_10 (by decide) ?_
    refine w_V (wc := [(m0, .inr (10, [.ref qk, .int (nI d), .int (nI sh), .int (nI low), .int (nI high), .int le, .int mo, .int (nI nb), .ref qp, .ref qr, .ref qc, .ref qm, .ref qb, .int (nI cap), .int kd, .int am, .int wt, .int md, .long z1, .long z2, .long z3, .long z4, .long z5, .int (nI sw), .int (nI np), .ref qf, .ref qs, .int (nI fe), .int (nI te), .int (nI kk), .ref qt, .ref qx, .ref qy, .int no, .int nt, .ref qo, .ref qz, .ref qi, .ref qv, .int fd]))]) (wr := [(qo, .inl (cI, 4, .inl fmf)), (qz, .inl (cI, 4, .inl szf))]) (b := m0) ⟨hx, hb, hml, hown, hts⟩ [.int (1 : Int32)] [] c_X10_met (cwV 1 hts gX10_lacks_X10_met rfl rfl rfl (by decide +kernel) ⟨Nat.le_of_ble_eq_true rfl, Nat.le_of_ble_eq_true rfl⟩) hK hN hP hD hS hA [0] [1, 2] rfl (by decide) rfl (by decide) (by decide) (ci := 10) rfl rfl rfl rfl hl.1 rfl (Nat.le_of_ble_eq_true rfl) dX10_lacks_11 ⟨Nat.zero_le _, Nat.zero_le _⟩ (fun r u H locs hw hP hD hS => ?_)
    have hP : va_P D vwCl [(qo, .inl (cI, 4, .inl fmf)), (qz, .inl (cI, 4, .inl szf)), (m0, .inr (10, [.ref qk, .int (nI d), .int (nI sh), .int (nI low), .int (nI high), .int le, .int mo, .int (nI nb), .ref qp, .ref qr, .ref qc, .ref qm, .ref qb, .int (nI cap), .int kd, .int am, .int wt, .int md, .long z1, .long z2, .long z3, .long z4, .long z5, .int (nI sw), .int (nI np), .ref qf, .ref qs, .int (nI fe), .int (nI te), .int (nI kk), .ref qt, .ref qx, .ref qy, .int no, .int nt, .ref qo, .ref qz, .ref qi, .ref qv, .int (1 : Int32)]))] H := hP
    have hD : va_D A [(qo, .inl (cI, 4, .inl fmf)), (qz, .inl (cI, 4, .inl szf)), (m0, .inr (10, [.ref qk, .int (nI d), .int (nI sh), .int (nI low), .int (nI high), .int le, .int mo, .int (nI nb), .ref qp, .ref qr, .ref qc, .ref qm, .ref qb, .int (nI cap), .int kd, .int am, .int wt, .int md, .long z1, .long z2, .long z3, .long z4, .long z5, .int (nI sw), .int (nI np), .ref qf, .ref qs, .int (nI fe), .int (nI te), .int (nI kk), .ref qt, .ref qx, .ref qy, .int no, .int nt, .ref qo, .ref qz, .ref qi, .ref qv, .int (1 : Int32)]))] := hD
    subst hw
    have hP9 := hP.sub (ws' := [(m0, .inr (10, [.ref qk, .int (nI d), .int (nI sh), .int (nI low), .int (nI high), .int le, .int mo, .int (nI nb), .ref qp, .ref qr, .ref qc, .ref qm, .ref qb, .int (nI cap), .int kd, .int am, .int wt, .int md, .long z1, .long z2, .long z3, .long z4, .long z5, .int (nI sw), .int (nI np), .ref qf, .ref qs, .int (nI fe), .int (nI te), .int (nI kk), .ref qt, .ref qx, .ref qy, .int no, .int nt, .ref qo, .ref qz, .ref qi, .ref qv, .int (1 : Int32)])), (qo, .inl (cI, 4, .inl fmf)), (qz, .inl (cI, 4, .inl szf))]) [2, 0, 1] rfl
    have hD9 := hD.sub (ws' := [(m0, .inr (10, [.ref qk, .int (nI d), .int (nI sh), .int (nI low), .int (nI high), .int le, .int mo, .int (nI nb), .ref qp, .ref qr, .ref qc, .ref qm, .ref qb, .int (nI cap), .int kd, .int am, .int wt, .int md, .long z1, .long z2, .long z3, .long z4, .long z5, .int (nI sw), .int (nI np), .ref qf, .ref qs, .int (nI fe), .int (nI te), .int (nI kk), .ref qt, .ref qx, .ref qy, .int no, .int nt, .ref qo, .ref qz, .ref qi, .ref qv, .int (1 : Int32)])), (qo, .inl (cI, 4, .inl fmf)), (qz, .inl (cI, 4, .inl szf))]) [2, 0, 1] (by decide) rfl
    exact W.iret (v := -10 - (1 : Int32)) hx hb hr (fun t ht hW => ⟨⟨_, (1 : Int32), rfl, (by have hC9 : wrongW lo fo n fm ix = 1 := (by unfold wrongW; rw [if_pos hneg]); rw [hC9]; exact ⟨rfl, rfl⟩), by rw [ht]; exact hP9, hD9⟩, hS.F ht⟩) hS.2.2 dX10_lacks_14

set_option maxHeartbeats 4000000 in
set_option maxRecDepth 100000 in
theorem c_X10_put {l : Launch} {D : va_G} {cI cS cP : ClassId} {sz : Nat} {m0 qk qp qr qc qm qb qf qs qt qx qy qo qz qi qv : Nat} {d sh low high nb cap sw np fe te kk : Nat} {le mo kd am wt md no nt fd : Int32} {z1 z2 z3 z4 z5 : Int64} {fmf szf imf : Nat → Int32} {k n : Nat} {lo fo : Int32} {it : Nat → Int32} {fm ix v : Int32} (hk : k < 4) (hn : n ≤ 60) (hSR : sREL fmf szf imf k lo fo n it) : Met l yX10_put wsX10_put ({ frames := 2, cells := 0, slots := 0, locals := 48 }) (PC D (TY cI cS cP) [.ref m0, .int (nI k), .int fm, .int ix, .int v] sz [(m0, .inr (10, [.ref qk, .int (nI d), .int (nI sh), .int (nI low), .int (nI high), .int le, .int mo, .int (nI nb), .ref qp, .ref qr, .ref qc, .ref qm, .ref qb, .int (nI cap), .int kd, .int am, .int wt, .int md, .long z1, .long z2, .long z3, .long z4, .long z5, .int (nI sw), .int (nI np), .ref qf, .ref qs, .int (nI fe), .int (nI te), .int (nI kk), .ref qt, .ref qx, .ref qy, .int no, .int nt, .ref qo, .ref qz, .ref qi, .ref qv, .int fd])), (qo, .inl (cI, 4, .inl fmf)), (qz, .inl (cI, 4, .inl szf)), (qi, .inl (cI, 240, .inl imf))]) (QI D (fun (r : Int32) (u : Int32 × (Nat → Int32)) => (r = aPut lo fo n fm ix) ∧ u = sPutM fd lo fo n imf k fm ix v) (fun (u : Int32 × (Nat → Int32)) => [(m0, .inr (10, [.ref qk, .int (nI d), .int (nI sh), .int (nI low), .int (nI high), .int le, .int mo, .int (nI nb), .ref qp, .ref qr, .ref qc, .ref qm, .ref qb, .int (nI cap), .int kd, .int am, .int wt, .int md, .long z1, .long z2, .long z3, .long z4, .long z5, .int (nI sw), .int (nI np), .ref qf, .ref qs, .int (nI fe), .int (nI te), .int (nI kk), .ref qt, .ref qx, .ref qy, .int no, .int nt, .ref qo, .ref qz, .ref qi, .ref qv, .int u.1])), (qo, .inl (cI, 4, .inl fmf)), (qz, .inl (cI, 4, .inl szf)), (qi, .inl (cI, 240, .inl u.2))]) (va_A [(m0, .inr (10, [.ref qk, .int (nI d), .int (nI sh), .int (nI low), .int (nI high), .int le, .int mo, .int (nI nb), .ref qp, .ref qr, .ref qc, .ref qm, .ref qb, .int (nI cap), .int kd, .int am, .int wt, .int md, .long z1, .long z2, .long z3, .long z4, .long z5, .int (nI sw), .int (nI np), .ref qf, .ref qs, .int (nI fe), .int (nI te), .int (nI kk), .ref qt, .ref qx, .ref qy, .int no, .int nt, .ref qo, .ref qz, .ref qi, .ref qv, .int fd])), (qo, .inl (cI, 4, .inl fmf)), (qz, .inl (cI, 4, .inl szf)), (qi, .inl (cI, 240, .inl imf))] sz)) 0 0 (va_A [(m0, .inr (10, [.ref qk, .int (nI d), .int (nI sh), .int (nI low), .int (nI high), .int le, .int mo, .int (nI nb), .ref qp, .ref qr, .ref qc, .ref qm, .ref qb, .int (nI cap), .int kd, .int am, .int wt, .int md, .long z1, .long z2, .long z3, .long z4, .long z5, .int (nI sw), .int (nI np), .ref qf, .ref qs, .int (nI fe), .int (nI te), .int (nI kk), .ref qt, .ref qx, .ref qy, .int no, .int nt, .ref qo, .ref qz, .ref qi, .ref qv, .int fd])), (qo, .inl (cI, 4, .inl fmf)), (qz, .inl (cI, 4, .inl szf)), (qi, .inl (cI, 240, .inl imf))] sz) := by
  refine Met.ofW (cc := cX10_put) (maxL := 6) (ret := (some .int)) (by decide) rfl ?_
  intro p e s m args below meth c s₁ B hml hv
  obtain ⟨rfl, hsz, hP, hK, hD0, hN⟩ := hv
  have hx := B.exec
  have hb := B.bytes
  have hr := B.returns
  have hts := atoms_spec (ws := wsX10_put) B.pre
  have hown : s.vm.findClass RX10 = some m.cls := findClass_of_methodNamed B.named
  have hlocks := B.notSynchronized
  subst hsz
  have iX10 : ∀ w ∈ u_ws RX10 TX10 40, w ∈ wsX10_put := by decide +kernel
  have hD := hD0.self (sz := s.heap.size)
  generalize hAe : va_A [(m0, .inr (10, [.ref qk, .int (nI d), .int (nI sh), .int (nI low), .int (nI high), .int le, .int mo, .int (nI nb), .ref qp, .ref qr, .ref qc, .ref qm, .ref qb, .int (nI cap), .int kd, .int am, .int wt, .int md, .long z1, .long z2, .long z3, .long z4, .long z5, .int (nI sw), .int (nI np), .ref qf, .ref qs, .int (nI fe), .int (nI te), .int (nI kk), .ref qt, .ref qx, .ref qy, .int no, .int nt, .ref qo, .ref qz, .ref qi, .ref qv, .int fd])), (qo, .inl (cI, 4, .inl fmf)), (qz, .inl (cI, 4, .inl szf)), (qi, .inl (cI, 240, .inl imf))] s.heap.size = A at hD ⊢
  have hA : ∀ q : Nat, s.heap.size ≤ q → A q := fun q h => by rw [← hAe]; exact Or.inr h
  have hS : va_S A s.heap s.heap [] := va_S.rf
  have hP : va_P D vwCl [(m0, .inr (10, [.ref qk, .int (nI d), .int (nI sh), .int (nI low), .int (nI high), .int le, .int mo, .int (nI nb), .ref qp, .ref qr, .ref qc, .ref qm, .ref qb, .int (nI cap), .int kd, .int am, .int wt, .int md, .long z1, .long z2, .long z3, .long z4, .long z5, .int (nI sw), .int (nI np), .ref qf, .ref qs, .int (nI fe), .int (nI te), .int (nI kk), .ref qt, .ref qx, .ref qy, .int no, .int nt, .ref qo, .ref qz, .ref qi, .ref qv, .int fd])), (qo, .inl (cI, 4, .inl fmf)), (qz, .inl (cI, 4, .inl szf)), (qi, .inl (cI, 240, .inl imf))] s.heap := hP
  have hl := lv_entry ([.ref m0, .int (nI k), .int fm, .int ix, .int v]) (n := 6) (Nat.le_of_ble_eq_true rfl)
  rw [lg_entry_eq]
  generalize (lg_sl ([.ref m0, .int (nI k), .int fm, .int ix, .int v]) ++ List.replicate (6 - (lg_sl ([.ref m0, .int (nI k), .int fm, .int ix, .int v])).length) Slot.unset).toArray = ls at hl ⊢
  have hl : lv_has ls 6 [(0, .ref m0), (1, .int (nI k)), (2, .int fm), (3, .int ix), (4, .int v)] := hl
  refine lv_iload_n hx hb dX10_put_0 rfl (lv_at hl 1 rfl) ?_
  refine q_S (tys := TY cI cS cP) (D := D) ⟨hx, hb, hml, hown, hts⟩ [.int (nI k)] [] c_X10_isSheet (va_cwS 1 hts gX10_put_X10_isSheet rfl rfl rfl (by decide +kernel) ⟨Nat.le_of_ble_eq_true rfl, Nat.le_of_ble_eq_true rfl⟩) hK hN rfl hl.1 rfl (Nat.le_of_ble_eq_true rfl) dX10_put_1 ⟨Nat.zero_le _, Nat.zero_le _⟩ (fun r hw => ?_)
  subst hw
  refine lv_if_eq (tgt := 19) hx hb dX10_put_4 (by decide) (fun c_4 => ?_) (fun c_4 => ?_)
  ·
    have c_4 := bz c_4
    exact absurd (show (0 : Int32) ≤ nI k ∧ nI k ≤ 3 from ⟨nI_pos' (by omega), nI_le (b := 3) (by omega) (by decide)⟩) c_4
  ·
    have c_4 := bnz c_4
    refine lv_iload_n hx hb dX10_put_7 rfl (lv_at hl 2 rfl) ?_
    refine lv_i2l (v := fm.toInt64) hx hb dX10_put_8 rfl ?_
    refine lv_lconst (v := 0) hx hb dX10_put_9 (by decide) ?_
    refine lv_ldc2 hx hb hown (hts (.constantLong RX10 221 (2)) (by decide +kernel)) dX10_put_10 ?_
    refine q_S (tys := TY cI cS cP) (D := D) ⟨hx, hb, hml, hown, hts⟩ [.long fm.toInt64, .long ((0 : Int32).toInt64), .long ((2 : Int32).toInt64)] [] c_X10_in (va_cwS 3 hts gX10_put_X10_in rfl rfl rfl (by decide +kernel) ⟨Nat.le_of_ble_eq_true rfl, Nat.le_of_ble_eq_true rfl⟩) hK hN rfl hl.1 rfl (Nat.le_of_ble_eq_true rfl) dX10_put_13 ⟨Nat.zero_le _, Nat.zero_le _⟩ (fun r hw => ?_)
    subst hw
    refine lv_if_ne (tgt := 22) hx hb dX10_put_16 (by decide) (fun c_16 => ?_) (fun c_16 => ?_)
    ·
      have c_16 := bnz c_16
      refine lv_aload_n hx hb dX10_put_22 rfl (lv_at hl 0 rfl) ?_
      refine lv_iload_n hx hb dX10_put_23 rfl (lv_at hl 1 rfl) ?_
      refine lv_iload_n hx hb dX10_put_24 rfl (lv_at hl 2 rfl) ?_
      refine lv_iload_n hx hb dX10_put_25 rfl (lv_at hl 3 rfl) ?_
      refine w_V (wc := [(m0, .inr (10, [.ref qk, .int (nI d), .int (nI sh), .int (nI low), .int (nI high), .int le, .int mo, .int (nI nb), .ref qp, .ref qr, .ref qc, .ref qm, .ref qb, .int (nI cap), .int kd, .int am, .int wt, .int md, .long z1, .long z2, .long z3, .long z4, .long z5, .int (nI sw), .int (nI np), .ref qf, .ref qs, .int (nI fe), .int (nI te), .int (nI kk), .ref qt, .ref qx, .ref qy, .int no, .int nt, .ref qo, .ref qz, .ref qi, .ref qv, .int fd])), (qo, .inl (cI, 4, .inl fmf)), (qz, .inl (cI, 4, .inl szf))]) (wr := [(qi, .inl (cI, 240, .inl imf))]) (b := m0) ⟨hx, hb, hml, hown, hts⟩ [.int (nI k), .int fm, .int ix] [] (c_X10_lacks  (by first | assumption | omega) (by first | assumption | omega) (hSR)) (cwV 3 hts gX10_put_X10_lacks rfl rfl rfl (by decide +kernel) ⟨Nat.le_of_ble_eq_true rfl, Nat.le_of_ble_eq_true rfl⟩) hK hN hP hD hS hA [0, 1, 2] [3] rfl (by decide) rfl (by decide) (by decide) (ci := 10) rfl rfl rfl rfl hl.1 rfl (Nat.le_of_ble_eq_true rfl) dX10_put_26 ⟨Nat.zero_le _, Nat.zero_le _⟩ (fun r u H locs hw hP hD hS => ?_)
      obtain ⟨u_1, rfl⟩ : ∃ z, z = u := ⟨_, rfl⟩
      try dsimp only at hw
      have hP : va_P D vwCl [(qi, .inl (cI, 240, .inl imf)), (m0, .inr (10, [.ref qk, .int (nI d), .int (nI sh), .int (nI low), .int (nI high), .int le, .int mo, .int (nI nb), .ref qp, .ref qr, .ref qc, .ref qm, .ref qb, .int (nI cap), .int kd, .int am, .int wt, .int md, .long z1, .long z2, .long z3, .long z4, .long z5, .int (nI sw), .int (nI np), .ref qf, .ref qs, .int (nI fe), .int (nI te), .int (nI kk), .ref qt, .ref qx, .ref qy, .int no, .int nt, .ref qo, .ref qz, .ref qi, .ref qv, .int u_1])), (qo, .inl (cI, 4, .inl fmf)), (qz, .inl (cI, 4, .inl szf))] H := hP
      have hD : va_D A [(qi, .inl (cI, 240, .inl imf)), (m0, .inr (10, [.ref qk, .int (nI d), .int (nI sh), .int (nI low), .int (nI high), .int le, .int mo, .int (nI nb), .ref qp, .ref qr, .ref qc, .ref qm, .ref qb, .int (nI cap), .int kd, .int am, .int wt, .int md, .long z1, .long z2, .long z3, .long z4, .long z5, .int (nI sw), .int (nI np), .ref qf, .ref qs, .int (nI fe), .int (nI te), .int (nI kk), .ref qt, .ref qx, .ref qy, .int no, .int nt, .ref qo, .ref qz, .ref qi, .ref qv, .int u_1])), (qo, .inl (cI, 4, .inl fmf)), (qz, .inl (cI, 4, .inl szf))] := hD
      obtain ⟨hw, hw_26⟩ := hw
      subst hw
      refine lv_istore (lv' := [(5, .int (lackA (wrongW lo fo n fm ix))), (0, .ref m0), (1, .int (nI k)), (2, .int fm), (3, .int ix), (4, .int v)]) hx hb dX10_put_29 hl (by decide) rfl (fun ls hl => ?_)
      refine lv_iload hx hb dX10_put_31 (lv_at hl 0 rfl) ?_
      refine lv_if_eq (tgt := 39) hx hb dX10_put_33 (by decide) (fun c_33 => ?_) (fun c_33 => ?_)
      ·
        have c_33 := lackA_0.mp c_33
        obtain ⟨hlo0, hfo0, j9, hj9, ej9⟩ := wrongW_0 hn c_33
        obtain ⟨j9, hj9, rfl⟩ := (⟨j9, hj9, ej9⟩ : ∃ j, j < n ∧ ix = nI j)
        refine lv_aload_n hx hb dX10_put_39 rfl (lv_at hl 1 rfl) ?_
        refine va_get (D := D) (ci := 10) (v := .ref qi) (C := RX10) (T := TX10) (N := 40) hx hb hts iX10 hown hK hP 1 rfl rfl 37 (by decide) (hts (.fieldLink RX10 59 "DeepHoleModel" "items" "[I") (by decide +kernel)) (fun _ h9 => h9) rfl dX10_put_40 ?_
        refine lv_bipush (v := 60) hx hb dX10_put_43 (by decide) ?_
        refine lv_iload_n hx hb dX10_put_45 rfl (lv_at hl 2 rfl) ?_
        refine lv_imul hx hb dX10_put_46 ?_
        refine lv_eqi (z := nI (60 * k)) (pk_mul _ _) ?_
        refine lv_iload_n hx hb dX10_put_47 rfl (lv_at hl 4 rfl) ?_
        refine lv_iadd hx hb dX10_put_48 ?_
        refine lv_eqi (z := nI ((60 * k) + j9)) (nI_add _ _) ?_
        refine lv_iload_n hx hb dX10_put_49 rfl (lv_at hl 3 rfl) ?_
        refine cut_v (ls := ls) (rest := [.int (nI ((60 * k) + j9)), .ref qi]) 72 (.int (lowB fm v)) ?_ (fun K_50 => ?_)
        ·
          refine wr_i hx hb hK hP hD hS 0 0 rfl rfl (k := (60 * k) + j9) (by omega) (by decide) dX10_put_72 (fun H locs hP hD hS => ?_)
          have hP : va_P D vwCl [(qi, .inl (cI, 240, .inl (upd imf ((60 * k) + j9) (lowB fm v)))), (m0, .inr (10, [.ref qk, .int (nI d), .int (nI sh), .int (nI low), .int (nI high), .int le, .int mo, .int (nI nb), .ref qp, .ref qr, .ref qc, .ref qm, .ref qb, .int (nI cap), .int kd, .int am, .int wt, .int md, .long z1, .long z2, .long z3, .long z4, .long z5, .int (nI sw), .int (nI np), .ref qf, .ref qs, .int (nI fe), .int (nI te), .int (nI kk), .ref qt, .ref qx, .ref qy, .int no, .int nt, .ref qo, .ref qz, .ref qi, .ref qv, .int u_1])), (qo, .inl (cI, 4, .inl fmf)), (qz, .inl (cI, 4, .inl szf))] H := hP
          have hD : va_D A [(qi, .inl (cI, 240, .inl (upd imf ((60 * k) + j9) (lowB fm v)))), (m0, .inr (10, [.ref qk, .int (nI d), .int (nI sh), .int (nI low), .int (nI high), .int le, .int mo, .int (nI nb), .ref qp, .ref qr, .ref qc, .ref qm, .ref qb, .int (nI cap), .int kd, .int am, .int wt, .int md, .long z1, .long z2, .long z3, .long z4, .long z5, .int (nI sw), .int (nI np), .ref qf, .ref qs, .int (nI fe), .int (nI te), .int (nI kk), .ref qt, .ref qx, .ref qy, .int no, .int nt, .ref qo, .ref qz, .ref qi, .ref qv, .int u_1])), (qo, .inl (cI, 4, .inl fmf)), (qz, .inl (cI, 4, .inl szf))] := hD
          refine lv_iconst (v := 1) hx hb dX10_put_73 (by decide) ?_
          have hP9 := hP.sub (ws' := [(m0, .inr (10, [.ref qk, .int (nI d), .int (nI sh), .int (nI low), .int (nI high), .int le, .int mo, .int (nI nb), .ref qp, .ref qr, .ref qc, .ref qm, .ref qb, .int (nI cap), .int kd, .int am, .int wt, .int md, .long z1, .long z2, .long z3, .long z4, .long z5, .int (nI sw), .int (nI np), .ref qf, .ref qs, .int (nI fe), .int (nI te), .int (nI kk), .ref qt, .ref qx, .ref qy, .int no, .int nt, .ref qo, .ref qz, .ref qi, .ref qv, .int u_1])), (qo, .inl (cI, 4, .inl fmf)), (qz, .inl (cI, 4, .inl szf)), (qi, .inl (cI, 240, .inl (upd imf ((60 * k) + j9) (lowB fm v))))]) [1, 2, 3, 0] rfl
          have hD9 := hD.sub (ws' := [(m0, .inr (10, [.ref qk, .int (nI d), .int (nI sh), .int (nI low), .int (nI high), .int le, .int mo, .int (nI nb), .ref qp, .ref qr, .ref qc, .ref qm, .ref qb, .int (nI cap), .int kd, .int am, .int wt, .int md, .long z1, .long z2, .long z3, .long z4, .long z5, .int (nI sw), .int (nI np), .ref qf, .ref qs, .int (nI fe), .int (nI te), .int (nI kk), .ref qt, .ref qx, .ref qy, .int no, .int nt, .ref qo, .ref qz, .ref qi, .ref qv, .int u_1])), (qo, .inl (cI, 4, .inl fmf)), (qz, .inl (cI, 4, .inl szf)), (qi, .inl (cI, 240, .inl (upd imf ((60 * k) + j9) (lowB fm v))))]) [1, 2, 3, 0] (by decide) rfl
          exact W.iret (v := 1) hx hb hr (fun t ht hW => ⟨⟨_, (u_1, upd imf ((60 * k) + j9) (lowB fm v)), rfl, (by unfold aPut sPutM; rw [if_pos c_16, if_pos c_16, if_pos c_33, if_pos c_33, nI_clamp (by omega)]; exact ⟨rfl, by rw [hw_26]; unfold lackS; rw [if_pos c_33]⟩), by rw [ht]; exact hP9, hD9⟩, hS.F ht⟩) hS.2.2 dX10_put_74
        ·
          refine lv_if_ne (tgt := 59) hx hb dX10_put_50 (by decide) (fun c_50 => ?_) (fun c_50 => ?_)
          ·
            refine lv_iload_n hx hb dX10_put_59 rfl (lv_at hl 3 rfl) ?_
            refine lv_iconst (v := 1) hx hb dX10_put_60 (by decide) ?_
            refine lv_icmp_ne (tgt := 70) hx hb dX10_put_61 (by decide) (fun c_61 => ?_) (fun c_61 => ?_)
            ·
              refine lv_iload hx hb dX10_put_70 (lv_at hl 5 rfl) ?_
              exact lv_eqi (by unfold lowB; first | rw [if_pos c_50] | rw [if_neg c_50, if_pos c_61] | rw [if_neg c_50, if_neg c_61]) K_50
            ·
              refine lv_iload hx hb dX10_put_64 (lv_at hl 5 rfl) ?_
              refine lv_i2s (v := v.toInt16.toInt32) hx hb dX10_put_66 rfl ?_
              refine lv_goto (tgt := 72) hx hb dX10_put_67 (by decide) ?_
              exact lv_eqi (by unfold lowB; first | rw [if_pos c_50] | rw [if_neg c_50, if_pos c_61] | rw [if_neg c_50, if_neg c_61]) K_50
          ·
            refine lv_iload hx hb dX10_put_53 (lv_at hl 5 rfl) ?_
            refine lv_i2b (v := v.toInt8.toInt32) hx hb dX10_put_55 rfl ?_
            refine lv_goto (tgt := 72) hx hb dX10_put_56 (by decide) ?_
            exact lv_eqi (by unfold lowB; first | rw [if_pos c_50] | rw [if_neg c_50, if_pos c_61] | rw [if_neg c_50, if_neg c_61]) K_50
      ·
        have c_33 := fun h => c_33 (lackA_0.mpr h)
        refine lv_iload hx hb dX10_put_36 (lv_at hl 0 rfl) ?_
        have hP9 := hP.sub (ws' := [(m0, .inr (10, [.ref qk, .int (nI d), .int (nI sh), .int (nI low), .int (nI high), .int le, .int mo, .int (nI nb), .ref qp, .ref qr, .ref qc, .ref qm, .ref qb, .int (nI cap), .int kd, .int am, .int wt, .int md, .long z1, .long z2, .long z3, .long z4, .long z5, .int (nI sw), .int (nI np), .ref qf, .ref qs, .int (nI fe), .int (nI te), .int (nI kk), .ref qt, .ref qx, .ref qy, .int no, .int nt, .ref qo, .ref qz, .ref qi, .ref qv, .int u_1])), (qo, .inl (cI, 4, .inl fmf)), (qz, .inl (cI, 4, .inl szf)), (qi, .inl (cI, 240, .inl imf))]) [1, 2, 3, 0] rfl
        have hD9 := hD.sub (ws' := [(m0, .inr (10, [.ref qk, .int (nI d), .int (nI sh), .int (nI low), .int (nI high), .int le, .int mo, .int (nI nb), .ref qp, .ref qr, .ref qc, .ref qm, .ref qb, .int (nI cap), .int kd, .int am, .int wt, .int md, .long z1, .long z2, .long z3, .long z4, .long z5, .int (nI sw), .int (nI np), .ref qf, .ref qs, .int (nI fe), .int (nI te), .int (nI kk), .ref qt, .ref qx, .ref qy, .int no, .int nt, .ref qo, .ref qz, .ref qi, .ref qv, .int u_1])), (qo, .inl (cI, 4, .inl fmf)), (qz, .inl (cI, 4, .inl szf)), (qi, .inl (cI, 240, .inl imf))]) [1, 2, 3, 0] (by decide) rfl
        exact W.iret (v := lackA (wrongW lo fo n fm ix)) hx hb hr (fun t ht hW => ⟨⟨_, (u_1, imf), rfl, (by unfold aPut sPutM; rw [if_pos c_16, if_pos c_16, if_neg c_33, if_neg c_33]; exact ⟨if_neg c_33, by rw [hw_26]; unfold lackS; rw [if_neg c_33]⟩), by rw [ht]; exact hP9, hD9⟩, hS.F ht⟩) hS.2.2 dX10_put_38
    ·
      have c_16 := bz c_16
      refine lv_bipush (v := (-2)) hx hb dX10_put_19 (by decide) ?_
      have hP9 := hP.sub (ws' := [(m0, .inr (10, [.ref qk, .int (nI d), .int (nI sh), .int (nI low), .int (nI high), .int le, .int mo, .int (nI nb), .ref qp, .ref qr, .ref qc, .ref qm, .ref qb, .int (nI cap), .int kd, .int am, .int wt, .int md, .long z1, .long z2, .long z3, .long z4, .long z5, .int (nI sw), .int (nI np), .ref qf, .ref qs, .int (nI fe), .int (nI te), .int (nI kk), .ref qt, .ref qx, .ref qy, .int no, .int nt, .ref qo, .ref qz, .ref qi, .ref qv, .int fd])), (qo, .inl (cI, 4, .inl fmf)), (qz, .inl (cI, 4, .inl szf)), (qi, .inl (cI, 240, .inl imf))]) [0, 1, 2, 3] rfl
      have hD9 := hD.sub (ws' := [(m0, .inr (10, [.ref qk, .int (nI d), .int (nI sh), .int (nI low), .int (nI high), .int le, .int mo, .int (nI nb), .ref qp, .ref qr, .ref qc, .ref qm, .ref qb, .int (nI cap), .int kd, .int am, .int wt, .int md, .long z1, .long z2, .long z3, .long z4, .long z5, .int (nI sw), .int (nI np), .ref qf, .ref qs, .int (nI fe), .int (nI te), .int (nI kk), .ref qt, .ref qx, .ref qy, .int no, .int nt, .ref qo, .ref qz, .ref qi, .ref qv, .int fd])), (qo, .inl (cI, 4, .inl fmf)), (qz, .inl (cI, 4, .inl szf)), (qi, .inl (cI, 240, .inl imf))]) [0, 1, 2, 3] (by decide) rfl
      exact W.iret (v := (-2)) hx hb hr (fun t ht hW => ⟨⟨_, (fd, imf), rfl, (by unfold aPut sPutM; rw [if_neg c_16, if_neg c_16]; exact ⟨rfl, rfl⟩), by rw [ht]; exact hP9, hD9⟩, hS.F ht⟩) hS.2.2 dX10_put_21

set_option maxHeartbeats 4000000 in
set_option maxRecDepth 100000 in
theorem c_X10_put_b {l : Launch} {D : va_G} {cI cS cP : ClassId} {sz : Nat} {m0 qk qp qr qc qm qb qf qs qt qx qy qo qz qi qv : Nat} {d sh low high nb cap sw np fe te kk : Nat} {le mo kd am wt md no nt fd : Int32} {z1 z2 z3 z4 z5 : Int64} {h1 : Int32} {fm ix v : Int32} (hbad : ¬ (0 ≤ h1 ∧ h1 ≤ 3)) : Met l yX10_put wsX10_put ({ frames := 2, cells := 0, slots := 0, locals := 45 }) (PC D (TY cI cS cP) [.ref m0, .int h1, .int fm, .int ix, .int v] sz [(m0, .inr (10, [.ref qk, .int (nI d), .int (nI sh), .int (nI low), .int (nI high), .int le, .int mo, .int (nI nb), .ref qp, .ref qr, .ref qc, .ref qm, .ref qb, .int (nI cap), .int kd, .int am, .int wt, .int md, .long z1, .long z2, .long z3, .long z4, .long z5, .int (nI sw), .int (nI np), .ref qf, .ref qs, .int (nI fe), .int (nI te), .int (nI kk), .ref qt, .ref qx, .ref qy, .int no, .int nt, .ref qo, .ref qz, .ref qi, .ref qv, .int fd]))]) (vp_Si (fun r => r = -2)) 0 0 (fun _ => False) := by
  refine Met.ofW (cc := cX10_put) (maxL := 6) (ret := (some .int)) (by decide) rfl ?_
  intro p e s m args below meth c s₁ B hml hv
  obtain ⟨rfl, hsz, hP, hK, hD0, hN⟩ := hv
  have hx := B.exec
  have hb := B.bytes
  have hr := B.returns
  have hts := atoms_spec (ws := wsX10_put) B.pre
  have hown : s.vm.findClass RX10 = some m.cls := findClass_of_methodNamed B.named
  have hlocks := B.notSynchronized
  subst hsz
  have hD := hD0
  have hP : va_P D vwCl [(m0, .inr (10, [.ref qk, .int (nI d), .int (nI sh), .int (nI low), .int (nI high), .int le, .int mo, .int (nI nb), .ref qp, .ref qr, .ref qc, .ref qm, .ref qb, .int (nI cap), .int kd, .int am, .int wt, .int md, .long z1, .long z2, .long z3, .long z4, .long z5, .int (nI sw), .int (nI np), .ref qf, .ref qs, .int (nI fe), .int (nI te), .int (nI kk), .ref qt, .ref qx, .ref qy, .int no, .int nt, .ref qo, .ref qz, .ref qi, .ref qv, .int fd]))] s.heap := hP
  have hl := lv_entry ([.ref m0, .int h1, .int fm, .int ix, .int v]) (n := 6) (Nat.le_of_ble_eq_true rfl)
  rw [lg_entry_eq]
  generalize (lg_sl ([.ref m0, .int h1, .int fm, .int ix, .int v]) ++ List.replicate (6 - (lg_sl ([.ref m0, .int h1, .int fm, .int ix, .int v])).length) Slot.unset).toArray = ls at hl ⊢
  have hl : lv_has ls 6 [(0, .ref m0), (1, .int h1), (2, .int fm), (3, .int ix), (4, .int v)] := hl
  refine lv_iload_n hx hb dX10_put_0 rfl (lv_at hl 1 rfl) ?_
  refine q_S (tys := TY cI cS cP) (D := D) ⟨hx, hb, hml, hown, hts⟩ [.int h1] [] c_X10_isSheet (va_cwS 1 hts gX10_put_X10_isSheet rfl rfl rfl (by decide +kernel) ⟨Nat.le_of_ble_eq_true rfl, Nat.le_of_ble_eq_true rfl⟩) hK hN rfl hl.1 rfl (Nat.le_of_ble_eq_true rfl) dX10_put_1 ⟨Nat.zero_le _, Nat.zero_le _⟩ (fun r hw => ?_)
  subst hw
  refine lv_if_eq (tgt := 19) hx hb dX10_put_4 (by decide) (fun c_4 => ?_) (fun c_4 => ?_)
  ·
    have c_4 := bz c_4
    refine lv_bipush (v := (-2)) hx hb dX10_put_19 (by decide) ?_
    exact W.iret (v := (-2)) hx hb hr (fun t ht hW => ⟨_, rfl, (by rfl), ht⟩) (fun _ h => absurd h List.not_mem_nil) dX10_put_21
  ·
    have c_4 := bnz c_4
    exact absurd c_4 hbad

set_option maxHeartbeats 4000000 in
set_option maxRecDepth 100000 in
theorem c_X10_get {l : Launch} {D : va_G} {cI cS cP : ClassId} {sz : Nat} {m0 qk qp qr qc qm qb qf qs qt qx qy qo qz qi qv : Nat} {d sh low high nb cap sw np fe te kk : Nat} {le mo kd am wt md no nt fd : Int32} {z1 z2 z3 z4 z5 : Int64} {fmf szf imf : Nat → Int32} {k n : Nat} {lo fo : Int32} {it : Nat → Int32} {fm ix : Int32} (hk : k < 4) (hn : n ≤ 60) (hSR : sREL fmf szf imf k lo fo n it) : Met l yX10_get wsX10_get ({ frames := 2, cells := 0, slots := 0, locals := 48 }) (PC D (TY cI cS cP) [.ref m0, .int (nI k), .int fm, .int ix] sz [(m0, .inr (10, [.ref qk, .int (nI d), .int (nI sh), .int (nI low), .int (nI high), .int le, .int mo, .int (nI nb), .ref qp, .ref qr, .ref qc, .ref qm, .ref qb, .int (nI cap), .int kd, .int am, .int wt, .int md, .long z1, .long z2, .long z3, .long z4, .long z5, .int (nI sw), .int (nI np), .ref qf, .ref qs, .int (nI fe), .int (nI te), .int (nI kk), .ref qt, .ref qx, .ref qy, .int no, .int nt, .ref qo, .ref qz, .ref qi, .ref qv, .int fd])), (qo, .inl (cI, 4, .inl fmf)), (qz, .inl (cI, 4, .inl szf)), (qi, .inl (cI, 240, .inl imf))]) (QI D (fun (r : Int32) (u : Int32) => (r = aGet lo fo n it fm ix) ∧ u = sGet fd lo fo n fm ix) (fun (u : Int32) => [(m0, .inr (10, [.ref qk, .int (nI d), .int (nI sh), .int (nI low), .int (nI high), .int le, .int mo, .int (nI nb), .ref qp, .ref qr, .ref qc, .ref qm, .ref qb, .int (nI cap), .int kd, .int am, .int wt, .int md, .long z1, .long z2, .long z3, .long z4, .long z5, .int (nI sw), .int (nI np), .ref qf, .ref qs, .int (nI fe), .int (nI te), .int (nI kk), .ref qt, .ref qx, .ref qy, .int no, .int nt, .ref qo, .ref qz, .ref qi, .ref qv, .int u])), (qo, .inl (cI, 4, .inl fmf)), (qz, .inl (cI, 4, .inl szf)), (qi, .inl (cI, 240, .inl imf))]) (va_A [(m0, .inr (10, [.ref qk, .int (nI d), .int (nI sh), .int (nI low), .int (nI high), .int le, .int mo, .int (nI nb), .ref qp, .ref qr, .ref qc, .ref qm, .ref qb, .int (nI cap), .int kd, .int am, .int wt, .int md, .long z1, .long z2, .long z3, .long z4, .long z5, .int (nI sw), .int (nI np), .ref qf, .ref qs, .int (nI fe), .int (nI te), .int (nI kk), .ref qt, .ref qx, .ref qy, .int no, .int nt, .ref qo, .ref qz, .ref qi, .ref qv, .int fd])), (qo, .inl (cI, 4, .inl fmf)), (qz, .inl (cI, 4, .inl szf)), (qi, .inl (cI, 240, .inl imf))] sz)) 0 0 (va_A [(m0, .inr (10, [.ref qk, .int (nI d), .int (nI sh), .int (nI low), .int (nI high), .int le, .int mo, .int (nI nb), .ref qp, .ref qr, .ref qc, .ref qm, .ref qb, .int (nI cap), .int kd, .int am, .int wt, .int md, .long z1, .long z2, .long z3, .long z4, .long z5, .int (nI sw), .int (nI np), .ref qf, .ref qs, .int (nI fe), .int (nI te), .int (nI kk), .ref qt, .ref qx, .ref qy, .int no, .int nt, .ref qo, .ref qz, .ref qi, .ref qv, .int fd])), (qo, .inl (cI, 4, .inl fmf)), (qz, .inl (cI, 4, .inl szf)), (qi, .inl (cI, 240, .inl imf))] sz) := by
  refine Met.ofW (cc := cX10_get) (maxL := 4) (ret := (some .int)) (by decide) rfl ?_
  intro p e s m args below meth c s₁ B hml hv
  obtain ⟨rfl, hsz, hP, hK, hD0, hN⟩ := hv
  have hx := B.exec
  have hb := B.bytes
  have hr := B.returns
  have hts := atoms_spec (ws := wsX10_get) B.pre
  have hown : s.vm.findClass RX10 = some m.cls := findClass_of_methodNamed B.named
  have hlocks := B.notSynchronized
  subst hsz
  have iX10 : ∀ w ∈ u_ws RX10 TX10 40, w ∈ wsX10_get := by decide +kernel
  have hD := hD0.self (sz := s.heap.size)
  generalize hAe : va_A [(m0, .inr (10, [.ref qk, .int (nI d), .int (nI sh), .int (nI low), .int (nI high), .int le, .int mo, .int (nI nb), .ref qp, .ref qr, .ref qc, .ref qm, .ref qb, .int (nI cap), .int kd, .int am, .int wt, .int md, .long z1, .long z2, .long z3, .long z4, .long z5, .int (nI sw), .int (nI np), .ref qf, .ref qs, .int (nI fe), .int (nI te), .int (nI kk), .ref qt, .ref qx, .ref qy, .int no, .int nt, .ref qo, .ref qz, .ref qi, .ref qv, .int fd])), (qo, .inl (cI, 4, .inl fmf)), (qz, .inl (cI, 4, .inl szf)), (qi, .inl (cI, 240, .inl imf))] s.heap.size = A at hD ⊢
  have hA : ∀ q : Nat, s.heap.size ≤ q → A q := fun q h => by rw [← hAe]; exact Or.inr h
  have hS : va_S A s.heap s.heap [] := va_S.rf
  have hP : va_P D vwCl [(m0, .inr (10, [.ref qk, .int (nI d), .int (nI sh), .int (nI low), .int (nI high), .int le, .int mo, .int (nI nb), .ref qp, .ref qr, .ref qc, .ref qm, .ref qb, .int (nI cap), .int kd, .int am, .int wt, .int md, .long z1, .long z2, .long z3, .long z4, .long z5, .int (nI sw), .int (nI np), .ref qf, .ref qs, .int (nI fe), .int (nI te), .int (nI kk), .ref qt, .ref qx, .ref qy, .int no, .int nt, .ref qo, .ref qz, .ref qi, .ref qv, .int fd])), (qo, .inl (cI, 4, .inl fmf)), (qz, .inl (cI, 4, .inl szf)), (qi, .inl (cI, 240, .inl imf))] s.heap := hP
  have hl := lv_entry ([.ref m0, .int (nI k), .int fm, .int ix]) (n := 4) (Nat.le_of_ble_eq_true rfl)
  rw [lg_entry_eq]
  generalize (lg_sl ([.ref m0, .int (nI k), .int fm, .int ix]) ++ List.replicate (4 - (lg_sl ([.ref m0, .int (nI k), .int fm, .int ix])).length) Slot.unset).toArray = ls at hl ⊢
  have hl : lv_has ls 4 [(0, .ref m0), (1, .int (nI k)), (2, .int fm), (3, .int ix)] := hl
  refine lv_iload_n hx hb dX10_get_0 rfl (lv_at hl 1 rfl) ?_
  refine q_S (tys := TY cI cS cP) (D := D) ⟨hx, hb, hml, hown, hts⟩ [.int (nI k)] [] c_X10_isSheet (va_cwS 1 hts gX10_get_X10_isSheet rfl rfl rfl (by decide +kernel) ⟨Nat.le_of_ble_eq_true rfl, Nat.le_of_ble_eq_true rfl⟩) hK hN rfl hl.1 rfl (Nat.le_of_ble_eq_true rfl) dX10_get_1 ⟨Nat.zero_le _, Nat.zero_le _⟩ (fun r hw => ?_)
  subst hw
  refine lv_if_eq (tgt := 29) hx hb dX10_get_4 (by decide) (fun c_4 => ?_) (fun c_4 => ?_)
  ·
    have c_4 := bz c_4
    exact absurd (show (0 : Int32) ≤ nI k ∧ nI k ≤ 3 from ⟨nI_pos' (by omega), nI_le (b := 3) (by omega) (by decide)⟩) c_4
  ·
    have c_4 := bnz c_4
    refine lv_iload_n hx hb dX10_get_7 rfl (lv_at hl 2 rfl) ?_
    refine lv_i2l (v := fm.toInt64) hx hb dX10_get_8 rfl ?_
    refine lv_lconst (v := 0) hx hb dX10_get_9 (by decide) ?_
    refine lv_ldc2 hx hb hown (hts (.constantLong RX10 221 (2)) (by decide +kernel)) dX10_get_10 ?_
    refine q_S (tys := TY cI cS cP) (D := D) ⟨hx, hb, hml, hown, hts⟩ [.long fm.toInt64, .long ((0 : Int32).toInt64), .long ((2 : Int32).toInt64)] [] c_X10_in (va_cwS 3 hts gX10_get_X10_in rfl rfl rfl (by decide +kernel) ⟨Nat.le_of_ble_eq_true rfl, Nat.le_of_ble_eq_true rfl⟩) hK hN rfl hl.1 rfl (Nat.le_of_ble_eq_true rfl) dX10_get_13 ⟨Nat.zero_le _, Nat.zero_le _⟩ (fun r hw => ?_)
    subst hw
    refine lv_if_eq (tgt := 29) hx hb dX10_get_16 (by decide) (fun c_16 => ?_) (fun c_16 => ?_)
    ·
      have c_16 := bz c_16
      refine lv_ldc hx hb hown (hts (.constant RX10 202 (-2147483648)) (by decide +kernel)) dX10_get_29 ?_
      have hP9 := hP.sub (ws' := [(m0, .inr (10, [.ref qk, .int (nI d), .int (nI sh), .int (nI low), .int (nI high), .int le, .int mo, .int (nI nb), .ref qp, .ref qr, .ref qc, .ref qm, .ref qb, .int (nI cap), .int kd, .int am, .int wt, .int md, .long z1, .long z2, .long z3, .long z4, .long z5, .int (nI sw), .int (nI np), .ref qf, .ref qs, .int (nI fe), .int (nI te), .int (nI kk), .ref qt, .ref qx, .ref qy, .int no, .int nt, .ref qo, .ref qz, .ref qi, .ref qv, .int fd])), (qo, .inl (cI, 4, .inl fmf)), (qz, .inl (cI, 4, .inl szf)), (qi, .inl (cI, 240, .inl imf))]) [0, 1, 2, 3] rfl
      have hD9 := hD.sub (ws' := [(m0, .inr (10, [.ref qk, .int (nI d), .int (nI sh), .int (nI low), .int (nI high), .int le, .int mo, .int (nI nb), .ref qp, .ref qr, .ref qc, .ref qm, .ref qb, .int (nI cap), .int kd, .int am, .int wt, .int md, .long z1, .long z2, .long z3, .long z4, .long z5, .int (nI sw), .int (nI np), .ref qf, .ref qs, .int (nI fe), .int (nI te), .int (nI kk), .ref qt, .ref qx, .ref qy, .int no, .int nt, .ref qo, .ref qz, .ref qi, .ref qv, .int fd])), (qo, .inl (cI, 4, .inl fmf)), (qz, .inl (cI, 4, .inl szf)), (qi, .inl (cI, 240, .inl imf))]) [0, 1, 2, 3] (by decide) rfl
      exact W.iret (v := (-2147483648)) hx hb hr (fun t ht hW => ⟨⟨_, fd, rfl, (by unfold aGet sGet; rw [if_neg c_16, if_neg c_16]; exact ⟨rfl, rfl⟩), by rw [ht]; exact hP9, hD9⟩, hS.F ht⟩) hS.2.2 dX10_get_31
    ·
      have c_16 := bnz c_16
      refine lv_aload_n hx hb dX10_get_19 rfl (lv_at hl 0 rfl) ?_
      refine lv_iload_n hx hb dX10_get_20 rfl (lv_at hl 1 rfl) ?_
      refine lv_iload_n hx hb dX10_get_21 rfl (lv_at hl 2 rfl) ?_
      refine lv_iload_n hx hb dX10_get_22 rfl (lv_at hl 3 rfl) ?_
      refine w_V (wc := [(m0, .inr (10, [.ref qk, .int (nI d), .int (nI sh), .int (nI low), .int (nI high), .int le, .int mo, .int (nI nb), .ref qp, .ref qr, .ref qc, .ref qm, .ref qb, .int (nI cap), .int kd, .int am, .int wt, .int md, .long z1, .long z2, .long z3, .long z4, .long z5, .int (nI sw), .int (nI np), .ref qf, .ref qs, .int (nI fe), .int (nI te), .int (nI kk), .ref qt, .ref qx, .ref qy, .int no, .int nt, .ref qo, .ref qz, .ref qi, .ref qv, .int fd])), (qo, .inl (cI, 4, .inl fmf)), (qz, .inl (cI, 4, .inl szf))]) (wr := [(qi, .inl (cI, 240, .inl imf))]) (b := m0) ⟨hx, hb, hml, hown, hts⟩ [.int (nI k), .int fm, .int ix] [] (c_X10_lacks  (by first | assumption | omega) (by first | assumption | omega) (hSR)) (cwV 3 hts gX10_get_X10_lacks rfl rfl rfl (by decide +kernel) ⟨Nat.le_of_ble_eq_true rfl, Nat.le_of_ble_eq_true rfl⟩) hK hN hP hD hS hA [0, 1, 2] [3] rfl (by decide) rfl (by decide) (by decide) (ci := 10) rfl rfl rfl rfl hl.1 rfl (Nat.le_of_ble_eq_true rfl) dX10_get_23 ⟨Nat.zero_le _, Nat.zero_le _⟩ (fun r u H locs hw hP hD hS => ?_)
      obtain ⟨u_1, rfl⟩ : ∃ z, z = u := ⟨_, rfl⟩
      try dsimp only at hw
      have hP : va_P D vwCl [(qi, .inl (cI, 240, .inl imf)), (m0, .inr (10, [.ref qk, .int (nI d), .int (nI sh), .int (nI low), .int (nI high), .int le, .int mo, .int (nI nb), .ref qp, .ref qr, .ref qc, .ref qm, .ref qb, .int (nI cap), .int kd, .int am, .int wt, .int md, .long z1, .long z2, .long z3, .long z4, .long z5, .int (nI sw), .int (nI np), .ref qf, .ref qs, .int (nI fe), .int (nI te), .int (nI kk), .ref qt, .ref qx, .ref qy, .int no, .int nt, .ref qo, .ref qz, .ref qi, .ref qv, .int u_1])), (qo, .inl (cI, 4, .inl fmf)), (qz, .inl (cI, 4, .inl szf))] H := hP
      have hD : va_D A [(qi, .inl (cI, 240, .inl imf)), (m0, .inr (10, [.ref qk, .int (nI d), .int (nI sh), .int (nI low), .int (nI high), .int le, .int mo, .int (nI nb), .ref qp, .ref qr, .ref qc, .ref qm, .ref qb, .int (nI cap), .int kd, .int am, .int wt, .int md, .long z1, .long z2, .long z3, .long z4, .long z5, .int (nI sw), .int (nI np), .ref qf, .ref qs, .int (nI fe), .int (nI te), .int (nI kk), .ref qt, .ref qx, .ref qy, .int no, .int nt, .ref qo, .ref qz, .ref qi, .ref qv, .int u_1])), (qo, .inl (cI, 4, .inl fmf)), (qz, .inl (cI, 4, .inl szf))] := hD
      obtain ⟨hw, hw_23⟩ := hw
      subst hw
      refine lv_if_eq (tgt := 32) hx hb dX10_get_26 (by decide) (fun c_26 => ?_) (fun c_26 => ?_)
      ·
        have c_26 := lackA_0.mp c_26
        obtain ⟨hlo0, hfo0, j9, hj9, ej9⟩ := wrongW_0 hn c_26
        obtain ⟨j9, hj9, rfl⟩ := (⟨j9, hj9, ej9⟩ : ∃ j, j < n ∧ ix = nI j)
        refine lv_aload_n hx hb dX10_get_32 rfl (lv_at hl 0 rfl) ?_
        refine va_get (D := D) (ci := 10) (v := .ref qi) (C := RX10) (T := TX10) (N := 40) hx hb hts iX10 hown hK hP 1 rfl rfl 37 (by decide) (hts (.fieldLink RX10 59 "DeepHoleModel" "items" "[I") (by decide +kernel)) (fun _ h9 => h9) rfl dX10_get_33 ?_
        refine lv_bipush (v := 60) hx hb dX10_get_36 (by decide) ?_
        refine lv_iload_n hx hb dX10_get_38 rfl (lv_at hl 1 rfl) ?_
        refine lv_imul hx hb dX10_get_39 ?_
        refine lv_eqi (z := nI (60 * k)) (pk_mul _ _) ?_
        refine lv_iload_n hx hb dX10_get_40 rfl (lv_at hl 3 rfl) ?_
        refine lv_iadd hx hb dX10_get_41 ?_
        refine lv_eqi (z := nI ((60 * k) + j9)) (nI_add _ _) ?_
        refine rd_i hx hb hK hP 0 0 rfl rfl (k := (60 * k) + j9) (by omega) (by decide) dX10_get_42 ?_
        have hP9 := hP.sub (ws' := [(m0, .inr (10, [.ref qk, .int (nI d), .int (nI sh), .int (nI low), .int (nI high), .int le, .int mo, .int (nI nb), .ref qp, .ref qr, .ref qc, .ref qm, .ref qb, .int (nI cap), .int kd, .int am, .int wt, .int md, .long z1, .long z2, .long z3, .long z4, .long z5, .int (nI sw), .int (nI np), .ref qf, .ref qs, .int (nI fe), .int (nI te), .int (nI kk), .ref qt, .ref qx, .ref qy, .int no, .int nt, .ref qo, .ref qz, .ref qi, .ref qv, .int u_1])), (qo, .inl (cI, 4, .inl fmf)), (qz, .inl (cI, 4, .inl szf)), (qi, .inl (cI, 240, .inl imf))]) [1, 2, 3, 0] rfl
        have hD9 := hD.sub (ws' := [(m0, .inr (10, [.ref qk, .int (nI d), .int (nI sh), .int (nI low), .int (nI high), .int le, .int mo, .int (nI nb), .ref qp, .ref qr, .ref qc, .ref qm, .ref qb, .int (nI cap), .int kd, .int am, .int wt, .int md, .long z1, .long z2, .long z3, .long z4, .long z5, .int (nI sw), .int (nI np), .ref qf, .ref qs, .int (nI fe), .int (nI te), .int (nI kk), .ref qt, .ref qx, .ref qy, .int no, .int nt, .ref qo, .ref qz, .ref qi, .ref qv, .int u_1])), (qo, .inl (cI, 4, .inl fmf)), (qz, .inl (cI, 4, .inl szf)), (qi, .inl (cI, 240, .inl imf))]) [1, 2, 3, 0] (by decide) rfl
        exact W.iret (v := imf ((60 * k) + j9)) hx hb hr (fun t ht hW => ⟨⟨_, u_1, rfl, (by unfold aGet sGet; rw [if_pos c_16, if_pos c_16, if_pos c_26, if_pos c_26, nI_clamp (by omega)]; exact ⟨(hSR.pos (fun h => hSR.neg h hlo0)).2.2.2 j9 hj9, by rw [hw_23]; unfold lackS; rw [if_pos c_26]⟩), by rw [ht]; exact hP9, hD9⟩, hS.F ht⟩) hS.2.2 dX10_get_43
      ·
        have c_26 := fun h => c_26 (lackA_0.mpr h)
        refine lv_ldc hx hb hown (hts (.constant RX10 202 (-2147483648)) (by decide +kernel)) dX10_get_29 ?_
        have hP9 := hP.sub (ws' := [(m0, .inr (10, [.ref qk, .int (nI d), .int (nI sh), .int (nI low), .int (nI high), .int le, .int mo, .int (nI nb), .ref qp, .ref qr, .ref qc, .ref qm, .ref qb, .int (nI cap), .int kd, .int am, .int wt, .int md, .long z1, .long z2, .long z3, .long z4, .long z5, .int (nI sw), .int (nI np), .ref qf, .ref qs, .int (nI fe), .int (nI te), .int (nI kk), .ref qt, .ref qx, .ref qy, .int no, .int nt, .ref qo, .ref qz, .ref qi, .ref qv, .int u_1])), (qo, .inl (cI, 4, .inl fmf)), (qz, .inl (cI, 4, .inl szf)), (qi, .inl (cI, 240, .inl imf))]) [1, 2, 3, 0] rfl
        have hD9 := hD.sub (ws' := [(m0, .inr (10, [.ref qk, .int (nI d), .int (nI sh), .int (nI low), .int (nI high), .int le, .int mo, .int (nI nb), .ref qp, .ref qr, .ref qc, .ref qm, .ref qb, .int (nI cap), .int kd, .int am, .int wt, .int md, .long z1, .long z2, .long z3, .long z4, .long z5, .int (nI sw), .int (nI np), .ref qf, .ref qs, .int (nI fe), .int (nI te), .int (nI kk), .ref qt, .ref qx, .ref qy, .int no, .int nt, .ref qo, .ref qz, .ref qi, .ref qv, .int u_1])), (qo, .inl (cI, 4, .inl fmf)), (qz, .inl (cI, 4, .inl szf)), (qi, .inl (cI, 240, .inl imf))]) [1, 2, 3, 0] (by decide) rfl
        exact W.iret (v := (-2147483648)) hx hb hr (fun t ht hW => ⟨⟨_, u_1, rfl, (by unfold aGet sGet; rw [if_pos c_16, if_pos c_16, if_neg c_26, if_neg c_26]; exact ⟨rfl, by rw [hw_23]; unfold lackS; rw [if_neg c_26]⟩), by rw [ht]; exact hP9, hD9⟩, hS.F ht⟩) hS.2.2 dX10_get_31

set_option maxHeartbeats 4000000 in
set_option maxRecDepth 100000 in
theorem c_X10_get_b {l : Launch} {D : va_G} {cI cS cP : ClassId} {sz : Nat} {m0 qk qp qr qc qm qb qf qs qt qx qy qo qz qi qv : Nat} {d sh low high nb cap sw np fe te kk : Nat} {le mo kd am wt md no nt fd : Int32} {z1 z2 z3 z4 z5 : Int64} {h1 : Int32} {fm ix : Int32} (hbad : ¬ (0 ≤ h1 ∧ h1 ≤ 3)) : Met l yX10_get wsX10_get ({ frames := 2, cells := 0, slots := 0, locals := 45 }) (PC D (TY cI cS cP) [.ref m0, .int h1, .int fm, .int ix] sz [(m0, .inr (10, [.ref qk, .int (nI d), .int (nI sh), .int (nI low), .int (nI high), .int le, .int mo, .int (nI nb), .ref qp, .ref qr, .ref qc, .ref qm, .ref qb, .int (nI cap), .int kd, .int am, .int wt, .int md, .long z1, .long z2, .long z3, .long z4, .long z5, .int (nI sw), .int (nI np), .ref qf, .ref qs, .int (nI fe), .int (nI te), .int (nI kk), .ref qt, .ref qx, .ref qy, .int no, .int nt, .ref qo, .ref qz, .ref qi, .ref qv, .int fd]))]) (vp_Si (fun r => r = -2147483648)) 0 0 (fun _ => False) := by
  refine Met.ofW (cc := cX10_get) (maxL := 4) (ret := (some .int)) (by decide) rfl ?_
  intro p e s m args below meth c s₁ B hml hv
  obtain ⟨rfl, hsz, hP, hK, hD0, hN⟩ := hv
  have hx := B.exec
  have hb := B.bytes
  have hr := B.returns
  have hts := atoms_spec (ws := wsX10_get) B.pre
  have hown : s.vm.findClass RX10 = some m.cls := findClass_of_methodNamed B.named
  have hlocks := B.notSynchronized
  subst hsz
  have hD := hD0
  have hP : va_P D vwCl [(m0, .inr (10, [.ref qk, .int (nI d), .int (nI sh), .int (nI low), .int (nI high), .int le, .int mo, .int (nI nb), .ref qp, .ref qr, .ref qc, .ref qm, .ref qb, .int (nI cap), .int kd, .int am, .int wt, .int md, .long z1, .long z2, .long z3, .long z4, .long z5, .int (nI sw), .int (nI np), .ref qf, .ref qs, .int (nI fe), .int (nI te), .int (nI kk), .ref qt, .ref qx, .ref qy, .int no, .int nt, .ref qo, .ref qz, .ref qi, .ref qv, .int fd]))] s.heap := hP
  have hl := lv_entry ([.ref m0, .int h1, .int fm, .int ix]) (n := 4) (Nat.le_of_ble_eq_true rfl)
  rw [lg_entry_eq]
  generalize (lg_sl ([.ref m0, .int h1, .int fm, .int ix]) ++ List.replicate (4 - (lg_sl ([.ref m0, .int h1, .int fm, .int ix])).length) Slot.unset).toArray = ls at hl ⊢
  have hl : lv_has ls 4 [(0, .ref m0), (1, .int h1), (2, .int fm), (3, .int ix)] := hl
  refine lv_iload_n hx hb dX10_get_0 rfl (lv_at hl 1 rfl) ?_
  refine q_S (tys := TY cI cS cP) (D := D) ⟨hx, hb, hml, hown, hts⟩ [.int h1] [] c_X10_isSheet (va_cwS 1 hts gX10_get_X10_isSheet rfl rfl rfl (by decide +kernel) ⟨Nat.le_of_ble_eq_true rfl, Nat.le_of_ble_eq_true rfl⟩) hK hN rfl hl.1 rfl (Nat.le_of_ble_eq_true rfl) dX10_get_1 ⟨Nat.zero_le _, Nat.zero_le _⟩ (fun r hw => ?_)
  subst hw
  refine lv_if_eq (tgt := 29) hx hb dX10_get_4 (by decide) (fun c_4 => ?_) (fun c_4 => ?_)
  ·
    have c_4 := bz c_4
    refine lv_ldc hx hb hown (hts (.constant RX10 202 (-2147483648)) (by decide +kernel)) dX10_get_29 ?_
    exact W.iret (v := (-2147483648)) hx hb hr (fun t ht hW => ⟨_, rfl, (by rfl), ht⟩) (fun _ h => absurd h List.not_mem_nil) dX10_get_31
  ·
    have c_4 := bnz c_4
    exact absurd c_4 hbad
