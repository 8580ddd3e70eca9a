set_option maxHeartbeats 4000000 in
set_option maxRecDepth 100000 in
theorem c_X10_pull {l : Launch} {D : va_G} {cI cS cP : ClassId} {sz : Nat} {m0 qk qp qr qc qm qb qf qs qt qx qy qo qz qi qv : Nat} {d sh low high nb cap sw np fe te kk : Nat} {le mo kd am wt md no nt fd : Int32} {z1 z2 z3 z4 z5 : Int64} {fo sf : Nat → Nat} {f1 e1 : Int32} (hnp : np ≤ 20) : Met l yX10_pull wsX10_pull ({ frames := 1, cells := 0, slots := 0, locals := 25 }) (PC D (TY cI cS cP) [.ref m0, .int f1, .int e1] sz [(m0, .inr (10, [.ref qk, .int (nI d), .int (nI sh), .int (nI low), .int (nI high), .int le, .int mo, .int (nI nb), .ref qp, .ref qr, .ref qc, .ref qm, .ref qb, .int (nI cap), .int kd, .int am, .int wt, .int md, .long z1, .long z2, .long z3, .long z4, .long z5, .int (nI sw), .int (nI np), .ref qf, .ref qs, .int (nI fe), .int (nI te), .int (nI kk), .ref qt, .ref qx, .ref qy, .int no, .int nt, .ref qo, .ref qz, .ref qi, .ref qv, .int fd])), (qf, .inl (cI, 20, .inl (nF fo))), (qs, .inl (cI, 20, .inl (nF sf)))]) (QI D (fun (r : Int32) (u : Nat × (Nat → Nat) × (Nat → Nat)) => (r = aPull np f1 e1) ∧ u = sPull np fo sf f1 e1) (fun (u : Nat × (Nat → Nat) × (Nat → Nat)) => [(m0, .inr (10, [.ref qk, .int (nI d), .int (nI sh), .int (nI low), .int (nI high), .int le, .int mo, .int (nI nb), .ref qp, .ref qr, .ref qc, .ref qm, .ref qb, .int (nI cap), .int kd, .int am, .int wt, .int md, .long z1, .long z2, .long z3, .long z4, .long z5, .int (nI sw), .int (nI u.1), .ref qf, .ref qs, .int (nI fe), .int (nI te), .int (nI kk), .ref qt, .ref qx, .ref qy, .int no, .int nt, .ref qo, .ref qz, .ref qi, .ref qv, .int fd])), (qf, .inl (cI, 20, .inl (nF u.2.1))), (qs, .inl (cI, 20, .inl (nF u.2.2)))]) (va_A [(m0, .inr (10, [.ref qk, .int (nI d), .int (nI sh), .int (nI low), .int (nI high), .int le, .int mo, .int (nI nb), .ref qp, .ref qr, .ref qc, .ref qm, .ref qb, .int (nI cap), .int kd, .int am, .int wt, .int md, .long z1, .long z2, .long z3, .long z4, .long z5, .int (nI sw), .int (nI np), .ref qf, .ref qs, .int (nI fe), .int (nI te), .int (nI kk), .ref qt, .ref qx, .ref qy, .int no, .int nt, .ref qo, .ref qz, .ref qi, .ref qv, .int fd])), (qf, .inl (cI, 20, .inl (nF fo))), (qs, .inl (cI, 20, .inl (nF sf)))] sz)) 0 0 (va_A [(m0, .inr (10, [.ref qk, .int (nI d), .int (nI sh), .int (nI low), .int (nI high), .int le, .int mo, .int (nI nb), .ref qp, .ref qr, .ref qc, .ref qm, .ref qb, .int (nI cap), .int kd, .int am, .int wt, .int md, .long z1, .long z2, .long z3, .long z4, .long z5, .int (nI sw), .int (nI np), .ref qf, .ref qs, .int (nI fe), .int (nI te), .int (nI kk), .ref qt, .ref qx, .ref qy, .int no, .int nt, .ref qo, .ref qz, .ref qi, .ref qv, .int fd])), (qf, .inl (cI, 20, .inl (nF fo))), (qs, .inl (cI, 20, .inl (nF sf)))] sz) := by
  refine Met.ofW (cc := cX10_pull) (maxL := 3) (ret := (some .int)) (by decide) rfl ?_
  intro p e s m args below meth c s₁ B hml hv
  obtain ⟨rfl, hsz, hP, hK, hD0, hN⟩ := hv
  have hx := B.exec
  have hb := B.bytes
  have hr := B.returns
  have hts := atoms_spec (ws := wsX10_pull) B.pre
  have hown : s.vm.findClass RX10 = some m.cls := findClass_of_methodNamed B.named
  have hlocks := B.notSynchronized
  subst hsz
  have iX10 : ∀ w ∈ u_ws RX10 TX10 40, w ∈ wsX10_pull := by decide +kernel
  have hD := hD0.self (sz := s.heap.size)
  generalize hAe : va_A [(m0, .inr (10, [.ref qk, .int (nI d), .int (nI sh), .int (nI low), .int (nI high), .int le, .int mo, .int (nI nb), .ref qp, .ref qr, .ref qc, .ref qm, .ref qb, .int (nI cap), .int kd, .int am, .int wt, .int md, .long z1, .long z2, .long z3, .long z4, .long z5, .int (nI sw), .int (nI np), .ref qf, .ref qs, .int (nI fe), .int (nI te), .int (nI kk), .ref qt, .ref qx, .ref qy, .int no, .int nt, .ref qo, .ref qz, .ref qi, .ref qv, .int fd])), (qf, .inl (cI, 20, .inl (nF fo))), (qs, .inl (cI, 20, .inl (nF sf)))] s.heap.size = A at hD ⊢
  have hA : ∀ q : Nat, s.heap.size ≤ q → A q := fun q h => by rw [← hAe]; exact Or.inr h
  have hS : va_S A s.heap s.heap [] := va_S.rf
  have hP : va_P D vwCl [(m0, .inr (10, [.ref qk, .int (nI d), .int (nI sh), .int (nI low), .int (nI high), .int le, .int mo, .int (nI nb), .ref qp, .ref qr, .ref qc, .ref qm, .ref qb, .int (nI cap), .int kd, .int am, .int wt, .int md, .long z1, .long z2, .long z3, .long z4, .long z5, .int (nI sw), .int (nI np), .ref qf, .ref qs, .int (nI fe), .int (nI te), .int (nI kk), .ref qt, .ref qx, .ref qy, .int no, .int nt, .ref qo, .ref qz, .ref qi, .ref qv, .int fd])), (qf, .inl (cI, 20, .inl (nF fo))), (qs, .inl (cI, 20, .inl (nF sf)))] s.heap := hP
  have hl := lv_entry ([.ref m0, .int f1, .int e1]) (n := 3) (Nat.le_of_ble_eq_true rfl)
  rw [lg_entry_eq]
  generalize (lg_sl ([.ref m0, .int f1, .int e1]) ++ List.replicate (3 - (lg_sl ([.ref m0, .int f1, .int e1])).length) Slot.unset).toArray = ls at hl ⊢
  have hl : lv_has ls 3 [(0, .ref m0), (1, .int f1), (2, .int e1)] := hl
  refine lv_iload_n hx hb dX10_pull_0 rfl (lv_at hl 1 rfl) ?_
  refine lv_i2l (v := f1.toInt64) hx hb dX10_pull_1 rfl ?_
  refine lv_ldc2 hx hb hown (hts (.constantLong RX10 179 (10)) (by decide +kernel)) dX10_pull_2 ?_
  refine lv_ldc2 hx hb hown (hts (.constantLong RX10 181 (10000)) (by decide +kernel)) dX10_pull_5 ?_
  refine q_S (tys := TY cI cS cP) (D := D) ⟨hx, hb, hml, hown, hts⟩ [.long f1.toInt64, .long ((10 : Int32).toInt64), .long ((10000 : Int32).toInt64)] [] c_X10_in (va_cwS 3 hts gX10_pull_X10_in rfl rfl rfl (by decide +kernel) ⟨Nat.le_of_ble_eq_true rfl, Nat.le_of_ble_eq_true rfl⟩) hK hN rfl hl.1 rfl (Nat.le_of_ble_eq_true rfl) dX10_pull_8 ⟨Nat.zero_le _, Nat.zero_le _⟩ (fun r hw => ?_)
  subst hw
  refine lv_if_eq (tgt := 26) hx hb dX10_pull_11 (by decide) (fun c_11 => ?_) (fun c_11 => ?_)
  ·
    have c_11 := bz c_11
    refine lv_bipush (v := (-2)) hx hb dX10_pull_26 (by decide) ?_
    have hP9 := hP.sub (ws' := [(m0, .inr (10, [.ref qk, .int (nI d), .int (nI sh), .int (nI low), .int (nI high), .int le, .int mo, .int (nI nb), .ref qp, .ref qr, .ref qc, .ref qm, .ref qb, .int (nI cap), .int kd, .int am, .int wt, .int md, .long z1, .long z2, .long z3, .long z4, .long z5, .int (nI sw), .int (nI np), .ref qf, .ref qs, .int (nI fe), .int (nI te), .int (nI kk), .ref qt, .ref qx, .ref qy, .int no, .int nt, .ref qo, .ref qz, .ref qi, .ref qv, .int fd])), (qf, .inl (cI, 20, .inl (nF fo))), (qs, .inl (cI, 20, .inl (nF sf)))]) [0, 1, 2] rfl
    have hD9 := hD.sub (ws' := [(m0, .inr (10, [.ref qk, .int (nI d), .int (nI sh), .int (nI low), .int (nI high), .int le, .int mo, .int (nI nb), .ref qp, .ref qr, .ref qc, .ref qm, .ref qb, .int (nI cap), .int kd, .int am, .int wt, .int md, .long z1, .long z2, .long z3, .long z4, .long z5, .int (nI sw), .int (nI np), .ref qf, .ref qs, .int (nI fe), .int (nI te), .int (nI kk), .ref qt, .ref qx, .ref qy, .int no, .int nt, .ref qo, .ref qz, .ref qi, .ref qv, .int fd])), (qf, .inl (cI, 20, .inl (nF fo))), (qs, .inl (cI, 20, .inl (nF sf)))]) [0, 1, 2] (by decide) rfl
    exact W.iret (v := (-2)) hx hb hr (fun t ht hW => ⟨⟨_, (np, fo, sf), rfl, (by unfold aPull sPull; first | rw [if_neg (fun h => c_11 h.1), if_neg (fun h => c_11 h.1)]; exact ⟨rfl, rfl⟩ | rw [if_neg (fun h => c_23 h.2), if_neg (fun h => c_23 h.2)]; exact ⟨rfl, rfl⟩), by rw [ht]; exact hP9, hD9⟩, hS.F ht⟩) hS.2.2 dX10_pull_28
  ·
    have c_11 := bnz c_11
    refine lv_iload_n hx hb dX10_pull_14 rfl (lv_at hl 2 rfl) ?_
    refine lv_i2l (v := e1.toInt64) hx hb dX10_pull_15 rfl ?_
    refine lv_lconst (v := 0) hx hb dX10_pull_16 (by decide) ?_
    refine lv_ldc2 hx hb hown (hts (.constantLong RX10 177 (100000)) (by decide +kernel)) dX10_pull_17 ?_
    refine q_S (tys := TY cI cS cP) (D := D) ⟨hx, hb, hml, hown, hts⟩ [.long e1.toInt64, .long ((0 : Int32).toInt64), .long ((100000 : Int32).toInt64)] [] c_X10_in (va_cwS 3 hts gX10_pull_X10_in rfl rfl rfl (by decide +kernel) ⟨Nat.le_of_ble_eq_true rfl, Nat.le_of_ble_eq_true rfl⟩) hK hN rfl hl.1 rfl (Nat.le_of_ble_eq_true rfl) dX10_pull_20 ⟨Nat.zero_le _, Nat.zero_le _⟩ (fun r hw => ?_)
    subst hw
    refine lv_if_ne (tgt := 29) hx hb dX10_pull_23 (by decide) (fun c_23 => ?_) (fun c_23 => ?_)
    ·
      have c_23 := bnz c_23
      obtain ⟨fn, hfna, hfn, rfl⟩ := nat_of1 (lo := 10) (hi := 10000) (a := 10) (n := 10000) (by decide) (by decide) c_11
      obtain ⟨en_, hen_, rfl⟩ := nat_of (hi := 100000) (n := 100000) (by decide) c_23
      refine lv_aload_n hx hb dX10_pull_29 rfl (lv_at hl 0 rfl) ?_
      refine va_get (D := D) (ci := 10) (v := .int (nI np)) (C := RX10) (T := TX10) (N := 40) hx hb hts iX10 hown hK hP 0 rfl rfl 24 (by decide) (hts (.fieldLink RX10 183 "DeepHoleModel" "pulls" "I") (by decide +kernel)) (fun _ h9 => h9) rfl dX10_pull_30 ?_
      refine lv_bipush (v := 20) hx hb dX10_pull_33 (by decide) ?_
      refine lv_icmp_ne (tgt := 41) hx hb dX10_pull_35 (by decide) (fun c_35 => ?_) (fun c_35 => ?_)
      ·
        have c_35 := n_ne (a := np) (b := 20) c_35 (by omega) (by omega)
        refine lv_aload_n hx hb dX10_pull_41 rfl (lv_at hl 0 rfl) ?_
        refine va_get (D := D) (ci := 10) (v := .ref qf) (C := RX10) (T := TX10) (N := 40) hx hb hts iX10 hown hK hP 0 rfl rfl 25 (by decide) (hts (.fieldLink RX10 35 "DeepHoleModel" "force" "[I") (by decide +kernel)) (fun _ h9 => h9) rfl dX10_pull_42 ?_
        refine lv_aload_n hx hb dX10_pull_45 rfl (lv_at hl 0 rfl) ?_
        refine va_get (D := D) (ci := 10) (v := .int (nI np)) (C := RX10) (T := TX10) (N := 40) hx hb hts iX10 hown hK hP 0 rfl rfl 24 (by decide) (hts (.fieldLink RX10 183 "DeepHoleModel" "pulls" "I") (by decide +kernel)) (fun _ h9 => h9) rfl dX10_pull_46 ?_
        refine lv_iload_n hx hb dX10_pull_49 rfl (lv_at hl 1 rfl) ?_
        refine wr_i hx hb hK hP hD hS 1 0 rfl rfl (k := np) (by omega) (by decide) dX10_pull_50 (fun H locs hP hD hS => ?_)
        rw [nF_upd] at hP hD
        have hP : va_P D vwCl [(m0, .inr (10, [.ref qk, .int (nI d), .int (nI sh), .int (nI low), .int (nI high), .int le, .int mo, .int (nI nb), .ref qp, .ref qr, .ref qc, .ref qm, .ref qb, .int (nI cap), .int kd, .int am, .int wt, .int md, .long z1, .long z2, .long z3, .long z4, .long z5, .int (nI sw), .int (nI np), .ref qf, .ref qs, .int (nI fe), .int (nI te), .int (nI kk), .ref qt, .ref qx, .ref qy, .int no, .int nt, .ref qo, .ref qz, .ref qi, .ref qv, .int fd])), (qf, .inl (cI, 20, .inl (nF (updN fo np fn)))), (qs, .inl (cI, 20, .inl (nF sf)))] H := hP
        have hD : va_D A [(m0, .inr (10, [.ref qk, .int (nI d), .int (nI sh), .int (nI low), .int (nI high), .int le, .int mo, .int (nI nb), .ref qp, .ref qr, .ref qc, .ref qm, .ref qb, .int (nI cap), .int kd, .int am, .int wt, .int md, .long z1, .long z2, .long z3, .long z4, .long z5, .int (nI sw), .int (nI np), .ref qf, .ref qs, .int (nI fe), .int (nI te), .int (nI kk), .ref qt, .ref qx, .ref qy, .int no, .int nt, .ref qo, .ref qz, .ref qi, .ref qv, .int fd])), (qf, .inl (cI, 20, .inl (nF (updN fo np fn)))), (qs, .inl (cI, 20, .inl (nF sf)))] := hD
        refine lv_aload_n hx hb dX10_pull_51 rfl (lv_at hl 0 rfl) ?_
        refine va_get (D := D) (ci := 10) (v := .ref qs) (C := RX10) (T := TX10) (N := 40) hx hb hts iX10 hown hK hP 0 rfl rfl 26 (by decide) (hts (.fieldLink RX10 38 "DeepHoleModel" "stretch" "[I") (by decide +kernel)) (fun _ h9 => h9) rfl dX10_pull_52 ?_
        refine lv_aload_n hx hb dX10_pull_55 rfl (lv_at hl 0 rfl) ?_
        refine va_get (D := D) (ci := 10) (v := .int (nI np)) (C := RX10) (T := TX10) (N := 40) hx hb hts iX10 hown hK hP 0 rfl rfl 24 (by decide) (hts (.fieldLink RX10 183 "DeepHoleModel" "pulls" "I") (by decide +kernel)) (fun _ h9 => h9) rfl dX10_pull_56 ?_
        refine lv_iload_n hx hb dX10_pull_59 rfl (lv_at hl 2 rfl) ?_
        refine wr_i hx hb hK hP hD hS 2 0 rfl rfl (k := np) (by omega) (by decide) dX10_pull_60 (fun H locs hP hD hS => ?_)
        rw [nF_upd] at hP hD
        have hP : va_P D vwCl [(m0, .inr (10, [.ref qk, .int (nI d), .int (nI sh), .int (nI low), .int (nI high), .int le, .int mo, .int (nI nb), .ref qp, .ref qr, .ref qc, .ref qm, .ref qb, .int (nI cap), .int kd, .int am, .int wt, .int md, .long z1, .long z2, .long z3, .long z4, .long z5, .int (nI sw), .int (nI np), .ref qf, .ref qs, .int (nI fe), .int (nI te), .int (nI kk), .ref qt, .ref qx, .ref qy, .int no, .int nt, .ref qo, .ref qz, .ref qi, .ref qv, .int fd])), (qf, .inl (cI, 20, .inl (nF (updN fo np fn)))), (qs, .inl (cI, 20, .inl (nF (updN sf np en_))))] H := hP
        have hD : va_D A [(m0, .inr (10, [.ref qk, .int (nI d), .int (nI sh), .int (nI low), .int (nI high), .int le, .int mo, .int (nI nb), .ref qp, .ref qr, .ref qc, .ref qm, .ref qb, .int (nI cap), .int kd, .int am, .int wt, .int md, .long z1, .long z2, .long z3, .long z4, .long z5, .int (nI sw), .int (nI np), .ref qf, .ref qs, .int (nI fe), .int (nI te), .int (nI kk), .ref qt, .ref qx, .ref qy, .int no, .int nt, .ref qo, .ref qz, .ref qi, .ref qv, .int fd])), (qf, .inl (cI, 20, .inl (nF (updN fo np fn)))), (qs, .inl (cI, 20, .inl (nF (updN sf np en_))))] := hD
        refine lv_aload_n hx hb dX10_pull_61 rfl (lv_at hl 0 rfl) ?_
        refine lv_dup hx hb dX10_pull_62 rfl ?_
        refine va_get (D := D) (ci := 10) (v := .int (nI np)) (C := RX10) (T := TX10) (N := 40) hx hb hts iX10 hown hK hP 0 rfl rfl 24 (by decide) (hts (.fieldLink RX10 183 "DeepHoleModel" "pulls" "I") (by decide +kernel)) (fun _ h9 => h9) rfl dX10_pull_63 ?_
        refine lv_iconst (v := 1) hx hb dX10_pull_66 (by decide) ?_
        refine lv_iadd hx hb dX10_pull_67 ?_
        refine lv_eqi (z := nI (np + 1)) (nI_add _ _) ?_
        refine va_put (D := D) (ci := 10) (v := .int (nI (np + 1))) (ty := .int) (C := RX10) (T := TX10) (N := 40) hx hb hts iX10 tyX10 tyX10_ok nmX10 hown hK hP hD hS 0 rfl rfl 24 (by decide) (hts (.fieldLink RX10 183 "DeepHoleModel" "pulls" "I") (by decide +kernel)) (fun _ h9 => h9) rfl (by decide +kernel) rfl rfl (Nat.le_of_ble_eq_true rfl) dX10_pull_68 (fun H locs hP hD hS => ?_)
        have hP : va_P D vwCl [(m0, .inr (10, [.ref qk, .int (nI d), .int (nI sh), .int (nI low), .int (nI high), .int le, .int mo, .int (nI nb), .ref qp, .ref qr, .ref qc, .ref qm, .ref qb, .int (nI cap), .int kd, .int am, .int wt, .int md, .long z1, .long z2, .long z3, .long z4, .long z5, .int (nI sw), .int (nI (np + 1)), .ref qf, .ref qs, .int (nI fe), .int (nI te), .int (nI kk), .ref qt, .ref qx, .ref qy, .int no, .int nt, .ref qo, .ref qz, .ref qi, .ref qv, .int fd])), (qf, .inl (cI, 20, .inl (nF (updN fo np fn)))), (qs, .inl (cI, 20, .inl (nF (updN sf np en_))))] H := hP
        have hD : va_D A [(m0, .inr (10, [.ref qk, .int (nI d), .int (nI sh), .int (nI low), .int (nI high), .int le, .int mo, .int (nI nb), .ref qp, .ref qr, .ref qc, .ref qm, .ref qb, .int (nI cap), .int kd, .int am, .int wt, .int md, .long z1, .long z2, .long z3, .long z4, .long z5, .int (nI sw), .int (nI (np + 1)), .ref qf, .ref qs, .int (nI fe), .int (nI te), .int (nI kk), .ref qt, .ref qx, .ref qy, .int no, .int nt, .ref qo, .ref qz, .ref qi, .ref qv, .int fd])), (qf, .inl (cI, 20, .inl (nF (updN fo np fn)))), (qs, .inl (cI, 20, .inl (nF (updN sf np en_))))] := hD
        refine lv_aload_n hx hb dX10_pull_71 rfl (lv_at hl 0 rfl) ?_
        refine va_get (D := D) (ci := 10) (v := .int (nI (np + 1))) (C := RX10) (T := TX10) (N := 40) hx hb hts iX10 hown hK hP 0 rfl rfl 24 (by decide) (hts (.fieldLink RX10 183 "DeepHoleModel" "pulls" "I") (by decide +kernel)) (fun _ h9 => h9) rfl dX10_pull_72 ?_
        have hP9 := hP.sub (ws' := [(m0, .inr (10, [.ref qk, .int (nI d), .int (nI sh), .int (nI low), .int (nI high), .int le, .int mo, .int (nI nb), .ref qp, .ref qr, .ref qc, .ref qm, .ref qb, .int (nI cap), .int kd, .int am, .int wt, .int md, .long z1, .long z2, .long z3, .long z4, .long z5, .int (nI sw), .int (nI (np + 1)), .ref qf, .ref qs, .int (nI fe), .int (nI te), .int (nI kk), .ref qt, .ref qx, .ref qy, .int no, .int nt, .ref qo, .ref qz, .ref qi, .ref qv, .int fd])), (qf, .inl (cI, 20, .inl (nF (updN fo np fn)))), (qs, .inl (cI, 20, .inl (nF (updN sf np en_))))]) [0, 1, 2] rfl
        have hD9 := hD.sub (ws' := [(m0, .inr (10, [.ref qk, .int (nI d), .int (nI sh), .int (nI low), .int (nI high), .int le, .int mo, .int (nI nb), .ref qp, .ref qr, .ref qc, .ref qm, .ref qb, .int (nI cap), .int kd, .int am, .int wt, .int md, .long z1, .long z2, .long z3, .long z4, .long z5, .int (nI sw), .int (nI (np + 1)), .ref qf, .ref qs, .int (nI fe), .int (nI te), .int (nI kk), .ref qt, .ref qx, .ref qy, .int no, .int nt, .ref qo, .ref qz, .ref qi, .ref qv, .int fd])), (qf, .inl (cI, 20, .inl (nF (updN fo np fn)))), (qs, .inl (cI, 20, .inl (nF (updN sf np en_))))]) [0, 1, 2] (by decide) rfl
        exact W.iret (v := nI (np + 1)) hx hb hr (fun t ht hW => ⟨⟨_, (np + 1, (updN fo np fn), (updN sf np en_)), rfl, (by have hC := And.intro c_11 c_23; unfold aPull sPull addN; rw [if_pos hC, if_pos hC, nI_clamp (by omega), nI_clamp (by omega), if_pos (by omega), if_pos (by simp; omega)]; exact ⟨rfl, rfl⟩), by rw [ht]; exact hP9, hD9⟩, hS.F ht⟩) hS.2.2 dX10_pull_75
      ·
        have c_35 := n_eq (a := np) (b := 20) c_35 (by omega) (by omega)
        refine lv_bipush (v := (-4)) hx hb dX10_pull_38 (by decide) ?_
        have hP9 := hP.sub (ws' := [(m0, .inr (10, [.ref qk, .int (nI d), .int (nI sh), .int (nI low), .int (nI high), .int le, .int mo, .int (nI nb), .ref qp, .ref qr, .ref qc, .ref qm, .ref qb, .int (nI cap), .int kd, .int am, .int wt, .int md, .long z1, .long z2, .long z3, .long z4, .long z5, .int (nI sw), .int (nI np), .ref qf, .ref qs, .int (nI fe), .int (nI te), .int (nI kk), .ref qt, .ref qx, .ref qy, .int no, .int nt, .ref qo, .ref qz, .ref qi, .ref qv, .int fd])), (qf, .inl (cI, 20, .inl (nF fo))), (qs, .inl (cI, 20, .inl (nF sf)))]) [0, 1, 2] rfl
        have hD9 := hD.sub (ws' := [(m0, .inr (10, [.ref qk, .int (nI d), .int (nI sh), .int (nI low), .int (nI high), .int le, .int mo, .int (nI nb), .ref qp, .ref qr, .ref qc, .ref qm, .ref qb, .int (nI cap), .int kd, .int am, .int wt, .int md, .long z1, .long z2, .long z3, .long z4, .long z5, .int (nI sw), .int (nI np), .ref qf, .ref qs, .int (nI fe), .int (nI te), .int (nI kk), .ref qt, .ref qx, .ref qy, .int no, .int nt, .ref qo, .ref qz, .ref qi, .ref qv, .int fd])), (qf, .inl (cI, 20, .inl (nF fo))), (qs, .inl (cI, 20, .inl (nF sf)))]) [0, 1, 2] (by decide) rfl
        exact W.iret (v := (-4)) hx hb hr (fun t ht hW => ⟨⟨_, (np, fo, sf), rfl, (by have hC := And.intro c_11 c_23; unfold aPull sPull addN; rw [if_pos hC, if_pos hC, nI_clamp (by omega), nI_clamp (by omega), if_neg (by omega), if_neg (by simp; omega)]; exact ⟨rfl, rfl⟩), by rw [ht]; exact hP9, hD9⟩, hS.F ht⟩) hS.2.2 dX10_pull_40
    ·
      have c_23 := bz c_23
      refine lv_bipush (v := (-2)) hx hb dX10_pull_26 (by decide) ?_
      have hP9 := hP.sub (ws' := [(m0, .inr (10, [.ref qk, .int (nI d), .int (nI sh), .int (nI low), .int (nI high), .int le, .int mo, .int (nI nb), .ref qp, .ref qr, .ref qc, .ref qm, .ref qb, .int (nI cap), .int kd, .int am, .int wt, .int md, .long z1, .long z2, .long z3, .long z4, .long z5, .int (nI sw), .int (nI np), .ref qf, .ref qs, .int (nI fe), .int (nI te), .int (nI kk), .ref qt, .ref qx, .ref qy, .int no, .int nt, .ref qo, .ref qz, .ref qi, .ref qv, .int fd])), (qf, .inl (cI, 20, .inl (nF fo))), (qs, .inl (cI, 20, .inl (nF sf)))]) [0, 1, 2] rfl
      have hD9 := hD.sub (ws' := [(m0, .inr (10, [.ref qk, .int (nI d), .int (nI sh), .int (nI low), .int (nI high), .int le, .int mo, .int (nI nb), .ref qp, .ref qr, .ref qc, .ref qm, .ref qb, .int (nI cap), .int kd, .int am, .int wt, .int md, .long z1, .long z2, .long z3, .long z4, .long z5, .int (nI sw), .int (nI np), .ref qf, .ref qs, .int (nI fe), .int (nI te), .int (nI kk), .ref qt, .ref qx, .ref qy, .int no, .int nt, .ref qo, .ref qz, .ref qi, .ref qv, .int fd])), (qf, .inl (cI, 20, .inl (nF fo))), (qs, .inl (cI, 20, .inl (nF sf)))]) [0, 1, 2] (by decide) rfl
      exact W.iret (v := (-2)) hx hb hr (fun t ht hW => ⟨⟨_, (np, fo, sf), rfl, (by unfold aPull sPull; first | rw [if_neg (fun h => c_11 h.1), if_neg (fun h => c_11 h.1)]; exact ⟨rfl, rfl⟩ | rw [if_neg (fun h => c_23 h.2), if_neg (fun h => c_23 h.2)]; exact ⟨rfl, rfl⟩), by rw [ht]; exact hP9, hD9⟩, hS.F ht⟩) hS.2.2 dX10_pull_28

set_option maxHeartbeats 4000000 in
set_option maxRecDepth 100000 in
theorem c_X10_slack {l : Launch} {D : va_G} {cI cS cP : ClassId} {sz : Nat} {m0 qk qp qr qc qm qb qf qs qt qx qy qo qz qi qv : Nat} {d sh low high nb cap sw np fe te kk : Nat} {le mo kd am wt md no nt fd : Int32} {z1 z2 z3 z4 z5 : Int64}  : Met l yX10_slack wsX10_slack ({ frames := 0, cells := 0, slots := 0, locals := 0 }) (PC D (TY cI cS cP) [.ref m0] sz [(m0, .inr (10, [.ref qk, .int (nI d), .int (nI sh), .int (nI low), .int (nI high), .int le, .int mo, .int (nI nb), .ref qp, .ref qr, .ref qc, .ref qm, .ref qb, .int (nI cap), .int kd, .int am, .int wt, .int md, .long z1, .long z2, .long z3, .long z4, .long z5, .int (nI sw), .int (nI np), .ref qf, .ref qs, .int (nI fe), .int (nI te), .int (nI kk), .ref qt, .ref qx, .ref qy, .int no, .int nt, .ref qo, .ref qz, .ref qi, .ref qv, .int fd]))]) (QI D (fun (r : Int32) (u : Unit) => r = nI np) (fun (u : Unit) => [(m0, .inr (10, [.ref qk, .int (nI d), .int (nI sh), .int (nI low), .int (nI high), .int le, .int mo, .int (nI nb), .ref qp, .ref qr, .ref qc, .ref qm, .ref qb, .int (nI cap), .int kd, .int am, .int wt, .int md, .long z1, .long z2, .long z3, .long z4, .long z5, .int (nI sw), .int 0, .ref qf, .ref qs, .int (nI fe), .int (nI te), .int (nI kk), .ref qt, .ref qx, .ref qy, .int no, .int nt, .ref qo, .ref qz, .ref qi, .ref qv, .int fd]))]) (va_A [(m0, .inr (10, [.ref qk, .int (nI d), .int (nI sh), .int (nI low), .int (nI high), .int le, .int mo, .int (nI nb), .ref qp, .ref qr, .ref qc, .ref qm, .ref qb, .int (nI cap), .int kd, .int am, .int wt, .int md, .long z1, .long z2, .long z3, .long z4, .long z5, .int (nI sw), .int (nI np), .ref qf, .ref qs, .int (nI fe), .int (nI te), .int (nI kk), .ref qt, .ref qx, .ref qy, .int no, .int nt, .ref qo, .ref qz, .ref qi, .ref qv, .int fd]))] sz)) 0 0 (va_A [(m0, .inr (10, [.ref qk, .int (nI d), .int (nI sh), .int (nI low), .int (nI high), .int le, .int mo, .int (nI nb), .ref qp, .ref qr, .ref qc, .ref qm, .ref qb, .int (nI cap), .int kd, .int am, .int wt, .int md, .long z1, .long z2, .long z3, .long z4, .long z5, .int (nI sw), .int (nI np), .ref qf, .ref qs, .int (nI fe), .int (nI te), .int (nI kk), .ref qt, .ref qx, .ref qy, .int no, .int nt, .ref qo, .ref qz, .ref qi, .ref qv, .int fd]))] sz) := by
  refine Met.ofW (cc := cX10_slack) (maxL := 2) (ret := (some .int)) (by decide) rfl ?_
  intro p e s m args below meth c s₁ B hml hv
  obtain ⟨rfl, hsz, hP, hK, hD0, hN⟩ := hv
  have hx := B.exec
  have hb := B.bytes
  have hr := B.returns
  have hts := atoms_spec (ws := wsX10_slack) B.pre
  have hown : s.vm.findClass RX10 = some m.cls := findClass_of_methodNamed B.named
  have hlocks := B.notSynchronized
  subst hsz
  have iX10 : ∀ w ∈ u_ws RX10 TX10 40, w ∈ wsX10_slack := by decide +kernel
  have hD := hD0.self (sz := s.heap.size)
  generalize hAe : va_A [(m0, .inr (10, [.ref qk, .int (nI d), .int (nI sh), .int (nI low), .int (nI high), .int le, .int mo, .int (nI nb), .ref qp, .ref qr, .ref qc, .ref qm, .ref qb, .int (nI cap), .int kd, .int am, .int wt, .int md, .long z1, .long z2, .long z3, .long z4, .long z5, .int (nI sw), .int (nI np), .ref qf, .ref qs, .int (nI fe), .int (nI te), .int (nI kk), .ref qt, .ref qx, .ref qy, .int no, .int nt, .ref qo, .ref qz, .ref qi, .ref qv, .int fd]))] s.heap.size = A at hD ⊢
  have hA : ∀ q : Nat, s.heap.size ≤ q → A q := fun q h => by rw [← hAe]; exact Or.inr h
  have hS : va_S A s.heap s.heap [] := va_S.rf
  have hP : va_P D vwCl [(m0, .inr (10, [.ref qk, .int (nI d), .int (nI sh), .int (nI low), .int (nI high), .int le, .int mo, .int (nI nb), .ref qp, .ref qr, .ref qc, .ref qm, .ref qb, .int (nI cap), .int kd, .int am, .int wt, .int md, .long z1, .long z2, .long z3, .long z4, .long z5, .int (nI sw), .int (nI np), .ref qf, .ref qs, .int (nI fe), .int (nI te), .int (nI kk), .ref qt, .ref qx, .ref qy, .int no, .int nt, .ref qo, .ref qz, .ref qi, .ref qv, .int fd]))] s.heap := hP
  have hl := lv_entry ([.ref m0]) (n := 2) (Nat.le_of_ble_eq_true rfl)
  rw [lg_entry_eq]
  generalize (lg_sl ([.ref m0]) ++ List.replicate (2 - (lg_sl ([.ref m0])).length) Slot.unset).toArray = ls at hl ⊢
  have hl : lv_has ls 2 [(0, .ref m0)] := hl
  refine lv_aload_n hx hb dX10_slack_0 rfl (lv_at hl 0 rfl) ?_
  refine va_get (D := D) (ci := 10) (v := .int (nI np)) (C := RX10) (T := TX10) (N := 40) hx hb hts iX10 hown hK hP 0 rfl rfl 24 (by decide) (hts (.fieldLink RX10 183 "DeepHoleModel" "pulls" "I") (by decide +kernel)) (fun _ h9 => h9) rfl dX10_slack_1 ?_
  refine lv_istore_n (lv' := [(1, .int (nI np)), (0, .ref m0)]) hx hb dX10_slack_4 rfl hl (by decide) rfl (fun ls hl => ?_)
  refine lv_aload_n hx hb dX10_slack_5 rfl (lv_at hl 1 rfl) ?_
  refine lv_iconst (v := 0) hx hb dX10_slack_6 (by decide) ?_
  refine va_put (D := D) (ci := 10) (v := .int 0) (ty := .int) (C := RX10) (T := TX10) (N := 40) hx hb hts iX10 tyX10 tyX10_ok nmX10 hown hK hP hD hS 0 rfl rfl 24 (by decide) (hts (.fieldLink RX10 183 "DeepHoleModel" "pulls" "I") (by decide +kernel)) (fun _ h9 => h9) rfl (by decide +kernel) rfl rfl (Nat.le_of_ble_eq_true rfl) dX10_slack_7 (fun H locs hP hD hS => ?_)
  have hP : va_P D vwCl [(m0, .inr (10, [.ref qk, .int (nI d), .int (nI sh), .int (nI low), .int (nI high), .int le, .int mo, .int (nI nb), .ref qp, .ref qr, .ref qc, .ref qm, .ref qb, .int (nI cap), .int kd, .int am, .int wt, .int md, .long z1, .long z2, .long z3, .long z4, .long z5, .int (nI sw), .int 0, .ref qf, .ref qs, .int (nI fe), .int (nI te), .int (nI kk), .ref qt, .ref qx, .ref qy, .int no, .int nt, .ref qo, .ref qz, .ref qi, .ref qv, .int fd]))] H := hP
  have hD : va_D A [(m0, .inr (10, [.ref qk, .int (nI d), .int (nI sh), .int (nI low), .int (nI high), .int le, .int mo, .int (nI nb), .ref qp, .ref qr, .ref qc, .ref qm, .ref qb, .int (nI cap), .int kd, .int am, .int wt, .int md, .long z1, .long z2, .long z3, .long z4, .long z5, .int (nI sw), .int 0, .ref qf, .ref qs, .int (nI fe), .int (nI te), .int (nI kk), .ref qt, .ref qx, .ref qy, .int no, .int nt, .ref qo, .ref qz, .ref qi, .ref qv, .int fd]))] := hD
  refine lv_iload_n hx hb dX10_slack_10 rfl (lv_at hl 0 rfl) ?_
  have hP9 := hP.sub (ws' := [(m0, .inr (10, [.ref qk, .int (nI d), .int (nI sh), .int (nI low), .int (nI high), .int le, .int mo, .int (nI nb), .ref qp, .ref qr, .ref qc, .ref qm, .ref qb, .int (nI cap), .int kd, .int am, .int wt, .int md, .long z1, .long z2, .long z3, .long z4, .long z5, .int (nI sw), .int 0, .ref qf, .ref qs, .int (nI fe), .int (nI te), .int (nI kk), .ref qt, .ref qx, .ref qy, .int no, .int nt, .ref qo, .ref qz, .ref qi, .ref qv, .int fd]))]) [0] rfl
  have hD9 := hD.sub (ws' := [(m0, .inr (10, [.ref qk, .int (nI d), .int (nI sh), .int (nI low), .int (nI high), .int le, .int mo, .int (nI nb), .ref qp, .ref qr, .ref qc, .ref qm, .ref qb, .int (nI cap), .int kd, .int am, .int wt, .int md, .long z1, .long z2, .long z3, .long z4, .long z5, .int (nI sw), .int 0, .ref qf, .ref qs, .int (nI fe), .int (nI te), .int (nI kk), .ref qt, .ref qx, .ref qy, .int no, .int nt, .ref qo, .ref qz, .ref qi, .ref qv, .int fd]))]) [0] (by decide) rfl
  exact W.iret (v := nI np) hx hb hr (fun t ht hW => ⟨⟨_, (), rfl, (by rfl), by rw [ht]; exact hP9, hD9⟩, hS.F ht⟩) hS.2.2 dX10_slack_11

set_option maxHeartbeats 4000000 in
set_option maxRecDepth 100000 in
theorem c_X10_ends {l : Launch} {D : va_G} {cI cS cP : ClassId} {sz : Nat} {m0 qk qp qr qc qm qb qf qs qt qx qy qo qz qi qv : Nat} {d sh low high nb cap sw np fe te kk : Nat} {le mo kd am wt md no nt fd : Int32} {z1 z2 z3 z4 z5 : Int64} {f1 e1 k1 : Int32}  : Met l yX10_ends wsX10_ends ({ frames := 1, cells := 0, slots := 0, locals := 25 }) (PC D (TY cI cS cP) [.ref m0, .int f1, .int e1, .int k1] sz [(m0, .inr (10, [.ref qk, .int (nI d), .int (nI sh), .int (nI low), .int (nI high), .int le, .int mo, .int (nI nb), .ref qp, .ref qr, .ref qc, .ref qm, .ref qb, .int (nI cap), .int kd, .int am, .int wt, .int md, .long z1, .long z2, .long z3, .long z4, .long z5, .int (nI sw), .int (nI np), .ref qf, .ref qs, .int (nI fe), .int (nI te), .int (nI kk), .ref qt, .ref qx, .ref qy, .int no, .int nt, .ref qo, .ref qz, .ref qi, .ref qv, .int fd]))]) (QI D (fun (r : Int32) (u : Nat × Nat × Nat) => (r = aEnds f1 e1 k1) ∧ u = sEnds fe te kk f1 e1 k1) (fun (u : Nat × Nat × Nat) => [(m0, .inr (10, [.ref qk, .int (nI d), .int (nI sh), .int (nI low), .int (nI high), .int le, .int mo, .int (nI nb), .ref qp, .ref qr, .ref qc, .ref qm, .ref qb, .int (nI cap), .int kd, .int am, .int wt, .int md, .long z1, .long z2, .long z3, .long z4, .long z5, .int (nI sw), .int (nI np), .ref qf, .ref qs, .int (nI u.1), .int (nI u.2.1), .int (nI u.2.2), .ref qt, .ref qx, .ref qy, .int no, .int nt, .ref qo, .ref qz, .ref qi, .ref qv, .int fd]))]) (va_A [(m0, .inr (10, [.ref qk, .int (nI d), .int (nI sh), .int (nI low), .int (nI high), .int le, .int mo, .int (nI nb), .ref qp, .ref qr, .ref qc, .ref qm, .ref qb, .int (nI cap), .int kd, .int am, .int wt, .int md, .long z1, .long z2, .long z3, .long z4, .long z5, .int (nI sw), .int (nI np), .ref qf, .ref qs, .int (nI fe), .int (nI te), .int (nI kk), .ref qt, .ref qx, .ref qy, .int no, .int nt, .ref qo, .ref qz, .ref qi, .ref qv, .int fd]))] sz)) 0 0 (va_A [(m0, .inr (10, [.ref qk, .int (nI d), .int (nI sh), .int (nI low), .int (nI high), .int le, .int mo, .int (nI nb), .ref qp, .ref qr, .ref qc, .ref qm, .ref qb, .int (nI cap), .int kd, .int am, .int wt, .int md, .long z1, .long z2, .long z3, .long z4, .long z5, .int (nI sw), .int (nI np), .ref qf, .ref qs, .int (nI fe), .int (nI te), .int (nI kk), .ref qt, .ref qx, .ref qy, .int no, .int nt, .ref qo, .ref qz, .ref qi, .ref qv, .int fd]))] sz) := by
  refine Met.ofW (cc := cX10_ends) (maxL := 4) (ret := (some .int)) (by decide) rfl ?_
  intro p e s m args below meth c s₁ B hml hv
  obtain ⟨rfl, hsz, hP, hK, hD0, hN⟩ := hv
  have hx := B.exec
  have hb := B.bytes
  have hr := B.returns
  have hts := atoms_spec (ws := wsX10_ends) B.pre
  have hown : s.vm.findClass RX10 = some m.cls := findClass_of_methodNamed B.named
  have hlocks := B.notSynchronized
  subst hsz
  have iX10 : ∀ w ∈ u_ws RX10 TX10 40, w ∈ wsX10_ends := by decide +kernel
  have hD := hD0.self (sz := s.heap.size)
  generalize hAe : va_A [(m0, .inr (10, [.ref qk, .int (nI d), .int (nI sh), .int (nI low), .int (nI high), .int le, .int mo, .int (nI nb), .ref qp, .ref qr, .ref qc, .ref qm, .ref qb, .int (nI cap), .int kd, .int am, .int wt, .int md, .long z1, .long z2, .long z3, .long z4, .long z5, .int (nI sw), .int (nI np), .ref qf, .ref qs, .int (nI fe), .int (nI te), .int (nI kk), .ref qt, .ref qx, .ref qy, .int no, .int nt, .ref qo, .ref qz, .ref qi, .ref qv, .int fd]))] s.heap.size = A at hD ⊢
  have hA : ∀ q : Nat, s.heap.size ≤ q → A q := fun q h => by rw [← hAe]; exact Or.inr h
  have hS : va_S A s.heap s.heap [] := va_S.rf
  have hP : va_P D vwCl [(m0, .inr (10, [.ref qk, .int (nI d), .int (nI sh), .int (nI low), .int (nI high), .int le, .int mo, .int (nI nb), .ref qp, .ref qr, .ref qc, .ref qm, .ref qb, .int (nI cap), .int kd, .int am, .int wt, .int md, .long z1, .long z2, .long z3, .long z4, .long z5, .int (nI sw), .int (nI np), .ref qf, .ref qs, .int (nI fe), .int (nI te), .int (nI kk), .ref qt, .ref qx, .ref qy, .int no, .int nt, .ref qo, .ref qz, .ref qi, .ref qv, .int fd]))] s.heap := hP
  have hl := lv_entry ([.ref m0, .int f1, .int e1, .int k1]) (n := 4) (Nat.le_of_ble_eq_true rfl)
  rw [lg_entry_eq]
  generalize (lg_sl ([.ref m0, .int f1, .int e1, .int k1]) ++ List.replicate (4 - (lg_sl ([.ref m0, .int f1, .int e1, .int k1])).length) Slot.unset).toArray = ls at hl ⊢
  have hl : lv_has ls 4 [(0, .ref m0), (1, .int f1), (2, .int e1), (3, .int k1)] := hl
  refine lv_iload_n hx hb dX10_ends_0 rfl (lv_at hl 1 rfl) ?_
  refine lv_i2l (v := f1.toInt64) hx hb dX10_ends_1 rfl ?_
  refine lv_lconst (v := 0) hx hb dX10_ends_2 (by decide) ?_
  refine lv_ldc2 hx hb hown (hts (.constantLong RX10 186 (9)) (by decide +kernel)) dX10_ends_3 ?_
  refine q_S (tys := TY cI cS cP) (D := D) ⟨hx, hb, hml, hown, hts⟩ [.long f1.toInt64, .long ((0 : Int32).toInt64), .long ((9 : Int32).toInt64)] [] c_X10_in (va_cwS 3 hts gX10_ends_X10_in rfl rfl rfl (by decide +kernel) ⟨Nat.le_of_ble_eq_true rfl, Nat.le_of_ble_eq_true rfl⟩) hK hN rfl hl.1 rfl (Nat.le_of_ble_eq_true rfl) dX10_ends_6 ⟨Nat.zero_le _, Nat.zero_le _⟩ (fun r hw => ?_)
  subst hw
  refine lv_if_eq (tgt := 36) hx hb dX10_ends_9 (by decide) (fun c_9 => ?_) (fun c_9 => ?_)
  ·
    have c_9 := bz c_9
    refine lv_bipush (v := (-2)) hx hb dX10_ends_36 (by decide) ?_
    have hP9 := hP.sub (ws' := [(m0, .inr (10, [.ref qk, .int (nI d), .int (nI sh), .int (nI low), .int (nI high), .int le, .int mo, .int (nI nb), .ref qp, .ref qr, .ref qc, .ref qm, .ref qb, .int (nI cap), .int kd, .int am, .int wt, .int md, .long z1, .long z2, .long z3, .long z4, .long z5, .int (nI sw), .int (nI np), .ref qf, .ref qs, .int (nI fe), .int (nI te), .int (nI kk), .ref qt, .ref qx, .ref qy, .int no, .int nt, .ref qo, .ref qz, .ref qi, .ref qv, .int fd]))]) [0] rfl
    have hD9 := hD.sub (ws' := [(m0, .inr (10, [.ref qk, .int (nI d), .int (nI sh), .int (nI low), .int (nI high), .int le, .int mo, .int (nI nb), .ref qp, .ref qr, .ref qc, .ref qm, .ref qb, .int (nI cap), .int kd, .int am, .int wt, .int md, .long z1, .long z2, .long z3, .long z4, .long z5, .int (nI sw), .int (nI np), .ref qf, .ref qs, .int (nI fe), .int (nI te), .int (nI kk), .ref qt, .ref qx, .ref qy, .int no, .int nt, .ref qo, .ref qz, .ref qi, .ref qv, .int fd]))]) [0] (by decide) rfl
    exact W.iret (v := (-2)) hx hb hr (fun t ht hW => ⟨⟨_, (fe, te, kk), rfl, (by unfold aEnds sEnds; first | rw [if_neg (fun h => c_9 h.1), if_neg (fun h => c_9 h.1)]; exact ⟨rfl, rfl⟩ | rw [if_neg (fun h => c_21 h.2.1), if_neg (fun h => c_21 h.2.1)]; exact ⟨rfl, rfl⟩ | rw [if_neg (fun h => c_33 h.2.2), if_neg (fun h => c_33 h.2.2)]; exact ⟨rfl, rfl⟩), by rw [ht]; exact hP9, hD9⟩, hS.F ht⟩) hS.2.2 dX10_ends_38
  ·
    have c_9 := bnz c_9
    refine lv_iload_n hx hb dX10_ends_12 rfl (lv_at hl 2 rfl) ?_
    refine lv_i2l (v := e1.toInt64) hx hb dX10_ends_13 rfl ?_
    refine lv_lconst (v := 0) hx hb dX10_ends_14 (by decide) ?_
    refine lv_ldc2 hx hb hown (hts (.constantLong RX10 108 (1000)) (by decide +kernel)) dX10_ends_15 ?_
    refine q_S (tys := TY cI cS cP) (D := D) ⟨hx, hb, hml, hown, hts⟩ [.long e1.toInt64, .long ((0 : Int32).toInt64), .long ((1000 : Int32).toInt64)] [] c_X10_in (va_cwS 3 hts gX10_ends_X10_in rfl rfl rfl (by decide +kernel) ⟨Nat.le_of_ble_eq_true rfl, Nat.le_of_ble_eq_true rfl⟩) hK hN rfl hl.1 rfl (Nat.le_of_ble_eq_true rfl) dX10_ends_18 ⟨Nat.zero_le _, Nat.zero_le _⟩ (fun r hw => ?_)
    subst hw
    refine lv_if_eq (tgt := 36) hx hb dX10_ends_21 (by decide) (fun c_21 => ?_) (fun c_21 => ?_)
    ·
      have c_21 := bz c_21
      refine lv_bipush (v := (-2)) hx hb dX10_ends_36 (by decide) ?_
      have hP9 := hP.sub (ws' := [(m0, .inr (10, [.ref qk, .int (nI d), .int (nI sh), .int (nI low), .int (nI high), .int le, .int mo, .int (nI nb), .ref qp, .ref qr, .ref qc, .ref qm, .ref qb, .int (nI cap), .int kd, .int am, .int wt, .int md, .long z1, .long z2, .long z3, .long z4, .long z5, .int (nI sw), .int (nI np), .ref qf, .ref qs, .int (nI fe), .int (nI te), .int (nI kk), .ref qt, .ref qx, .ref qy, .int no, .int nt, .ref qo, .ref qz, .ref qi, .ref qv, .int fd]))]) [0] rfl
      have hD9 := hD.sub (ws' := [(m0, .inr (10, [.ref qk, .int (nI d), .int (nI sh), .int (nI low), .int (nI high), .int le, .int mo, .int (nI nb), .ref qp, .ref qr, .ref qc, .ref qm, .ref qb, .int (nI cap), .int kd, .int am, .int wt, .int md, .long z1, .long z2, .long z3, .long z4, .long z5, .int (nI sw), .int (nI np), .ref qf, .ref qs, .int (nI fe), .int (nI te), .int (nI kk), .ref qt, .ref qx, .ref qy, .int no, .int nt, .ref qo, .ref qz, .ref qi, .ref qv, .int fd]))]) [0] (by decide) rfl
      exact W.iret (v := (-2)) hx hb hr (fun t ht hW => ⟨⟨_, (fe, te, kk), rfl, (by unfold aEnds sEnds; first | rw [if_neg (fun h => c_9 h.1), if_neg (fun h => c_9 h.1)]; exact ⟨rfl, rfl⟩ | rw [if_neg (fun h => c_21 h.2.1), if_neg (fun h => c_21 h.2.1)]; exact ⟨rfl, rfl⟩ | rw [if_neg (fun h => c_33 h.2.2), if_neg (fun h => c_33 h.2.2)]; exact ⟨rfl, rfl⟩), by rw [ht]; exact hP9, hD9⟩, hS.F ht⟩) hS.2.2 dX10_ends_38
    ·
      have c_21 := bnz c_21
      refine lv_iload_n hx hb dX10_ends_24 rfl (lv_at hl 3 rfl) ?_
      refine lv_i2l (v := k1.toInt64) hx hb dX10_ends_25 rfl ?_
      refine lv_lconst (v := 1) hx hb dX10_ends_26 (by decide) ?_
      refine lv_ldc2 hx hb hown (hts (.constantLong RX10 108 (1000)) (by decide +kernel)) dX10_ends_27 ?_
      refine q_S (tys := TY cI cS cP) (D := D) ⟨hx, hb, hml, hown, hts⟩ [.long k1.toInt64, .long ((1 : Int32).toInt64), .long ((1000 : Int32).toInt64)] [] c_X10_in (va_cwS 3 hts gX10_ends_X10_in rfl rfl rfl (by decide +kernel) ⟨Nat.le_of_ble_eq_true rfl, Nat.le_of_ble_eq_true rfl⟩) hK hN rfl hl.1 rfl (Nat.le_of_ble_eq_true rfl) dX10_ends_30 ⟨Nat.zero_le _, Nat.zero_le _⟩ (fun r hw => ?_)
      subst hw
      refine lv_if_ne (tgt := 39) hx hb dX10_ends_33 (by decide) (fun c_33 => ?_) (fun c_33 => ?_)
      ·
        have c_33 := bnz c_33
        obtain ⟨fn, hfn, rfl⟩ := nat_of (hi := 9) (n := 9) (by decide) c_9
        obtain ⟨en_, hen_, rfl⟩ := nat_of (hi := 1000) (n := 1000) (by decide) c_21
        obtain ⟨kn, hkna, hkn, rfl⟩ := nat_of1 (lo := 1) (hi := 1000) (a := 1) (n := 1000) (by decide) (by decide) c_33
        refine lv_aload_n hx hb dX10_ends_39 rfl (lv_at hl 0 rfl) ?_
        refine lv_iload_n hx hb dX10_ends_40 rfl (lv_at hl 1 rfl) ?_
        refine va_put (D := D) (ci := 10) (v := .int (nI fn)) (ty := .int) (C := RX10) (T := TX10) (N := 40) hx hb hts iX10 tyX10 tyX10_ok nmX10 hown hK hP hD hS 0 rfl rfl 27 (by decide) (hts (.fieldLink RX10 188 "DeepHoleModel" "endF" "I") (by decide +kernel)) (fun _ h9 => h9) rfl (by decide +kernel) rfl rfl (Nat.le_of_ble_eq_true rfl) dX10_ends_41 (fun H locs hP hD hS => ?_)
        have hP : va_P D vwCl [(m0, .inr (10, [.ref qk, .int (nI d), .int (nI sh), .int (nI low), .int (nI high), .int le, .int mo, .int (nI nb), .ref qp, .ref qr, .ref qc, .ref qm, .ref qb, .int (nI cap), .int kd, .int am, .int wt, .int md, .long z1, .long z2, .long z3, .long z4, .long z5, .int (nI sw), .int (nI np), .ref qf, .ref qs, .int (nI fn), .int (nI te), .int (nI kk), .ref qt, .ref qx, .ref qy, .int no, .int nt, .ref qo, .ref qz, .ref qi, .ref qv, .int fd]))] H := hP
        have hD : va_D A [(m0, .inr (10, [.ref qk, .int (nI d), .int (nI sh), .int (nI low), .int (nI high), .int le, .int mo, .int (nI nb), .ref qp, .ref qr, .ref qc, .ref qm, .ref qb, .int (nI cap), .int kd, .int am, .int wt, .int md, .long z1, .long z2, .long z3, .long z4, .long z5, .int (nI sw), .int (nI np), .ref qf, .ref qs, .int (nI fn), .int (nI te), .int (nI kk), .ref qt, .ref qx, .ref qy, .int no, .int nt, .ref qo, .ref qz, .ref qi, .ref qv, .int fd]))] := hD
        refine lv_aload_n hx hb dX10_ends_44 rfl (lv_at hl 0 rfl) ?_
        refine lv_iload_n hx hb dX10_ends_45 rfl (lv_at hl 2 rfl) ?_
        refine va_put (D := D) (ci := 10) (v := .int (nI en_)) (ty := .int) (C := RX10) (T := TX10) (N := 40) hx hb hts iX10 tyX10 tyX10_ok nmX10 hown hK hP hD hS 0 rfl rfl 28 (by decide) (hts (.fieldLink RX10 191 "DeepHoleModel" "endE" "I") (by decide +kernel)) (fun _ h9 => h9) rfl (by decide +kernel) rfl rfl (Nat.le_of_ble_eq_true rfl) dX10_ends_46 (fun H locs hP hD hS => ?_)
        have hP : va_P D vwCl [(m0, .inr (10, [.ref qk, .int (nI d), .int (nI sh), .int (nI low), .int (nI high), .int le, .int mo, .int (nI nb), .ref qp, .ref qr, .ref qc, .ref qm, .ref qb, .int (nI cap), .int kd, .int am, .int wt, .int md, .long z1, .long z2, .long z3, .long z4, .long z5, .int (nI sw), .int (nI np), .ref qf, .ref qs, .int (nI fn), .int (nI en_), .int (nI kk), .ref qt, .ref qx, .ref qy, .int no, .int nt, .ref qo, .ref qz, .ref qi, .ref qv, .int fd]))] H := hP
        have hD : va_D A [(m0, .inr (10, [.ref qk, .int (nI d), .int (nI sh), .int (nI low), .int (nI high), .int le, .int mo, .int (nI nb), .ref qp, .ref qr, .ref qc, .ref qm, .ref qb, .int (nI cap), .int kd, .int am, .int wt, .int md, .long z1, .long z2, .long z3, .long z4, .long z5, .int (nI sw), .int (nI np), .ref qf, .ref qs, .int (nI fn), .int (nI en_), .int (nI kk), .ref qt, .ref qx, .ref qy, .int no, .int nt, .ref qo, .ref qz, .ref qi, .ref qv, .int fd]))] := hD
        refine lv_aload_n hx hb dX10_ends_49 rfl (lv_at hl 0 rfl) ?_
        refine lv_iload_n hx hb dX10_ends_50 rfl (lv_at hl 3 rfl) ?_
        refine va_put (D := D) (ci := 10) (v := .int (nI kn)) (ty := .int) (C := RX10) (T := TX10) (N := 40) hx hb hts iX10 tyX10 tyX10_ok nmX10 hown hK hP hD hS 0 rfl rfl 29 (by decide) (hts (.fieldLink RX10 41 "DeepHoleModel" "byK" "I") (by decide +kernel)) (fun _ h9 => h9) rfl (by decide +kernel) rfl rfl (Nat.le_of_ble_eq_true rfl) dX10_ends_51 (fun H locs hP hD hS => ?_)
        have hP : va_P D vwCl [(m0, .inr (10, [.ref qk, .int (nI d), .int (nI sh), .int (nI low), .int (nI high), .int le, .int mo, .int (nI nb), .ref qp, .ref qr, .ref qc, .ref qm, .ref qb, .int (nI cap), .int kd, .int am, .int wt, .int md, .long z1, .long z2, .long z3, .long z4, .long z5, .int (nI sw), .int (nI np), .ref qf, .ref qs, .int (nI fn), .int (nI en_), .int (nI kn), .ref qt, .ref qx, .ref qy, .int no, .int nt, .ref qo, .ref qz, .ref qi, .ref qv, .int fd]))] H := hP
        have hD : va_D A [(m0, .inr (10, [.ref qk, .int (nI d), .int (nI sh), .int (nI low), .int (nI high), .int le, .int mo, .int (nI nb), .ref qp, .ref qr, .ref qc, .ref qm, .ref qb, .int (nI cap), .int kd, .int am, .int wt, .int md, .long z1, .long z2, .long z3, .long z4, .long z5, .int (nI sw), .int (nI np), .ref qf, .ref qs, .int (nI fn), .int (nI en_), .int (nI kn), .ref qt, .ref qx, .ref qy, .int no, .int nt, .ref qo, .ref qz, .ref qi, .ref qv, .int fd]))] := hD
        refine lv_iconst (v := 1) hx hb dX10_ends_54 (by decide) ?_
        have hP9 := hP.sub (ws' := [(m0, .inr (10, [.ref qk, .int (nI d), .int (nI sh), .int (nI low), .int (nI high), .int le, .int mo, .int (nI nb), .ref qp, .ref qr, .ref qc, .ref qm, .ref qb, .int (nI cap), .int kd, .int am, .int wt, .int md, .long z1, .long z2, .long z3, .long z4, .long z5, .int (nI sw), .int (nI np), .ref qf, .ref qs, .int (nI fn), .int (nI en_), .int (nI kn), .ref qt, .ref qx, .ref qy, .int no, .int nt, .ref qo, .ref qz, .ref qi, .ref qv, .int fd]))]) [0] rfl
        have hD9 := hD.sub (ws' := [(m0, .inr (10, [.ref qk, .int (nI d), .int (nI sh), .int (nI low), .int (nI high), .int le, .int mo, .int (nI nb), .ref qp, .ref qr, .ref qc, .ref qm, .ref qb, .int (nI cap), .int kd, .int am, .int wt, .int md, .long z1, .long z2, .long z3, .long z4, .long z5, .int (nI sw), .int (nI np), .ref qf, .ref qs, .int (nI fn), .int (nI en_), .int (nI kn), .ref qt, .ref qx, .ref qy, .int no, .int nt, .ref qo, .ref qz, .ref qi, .ref qv, .int fd]))]) [0] (by decide) rfl
        exact W.iret (v := 1) hx hb hr (fun t ht hW => ⟨⟨_, (fn, en_, kn), rfl, (by have hC := And.intro c_9 (And.intro c_21 c_33); unfold aEnds sEnds; rw [if_pos hC, if_pos hC, nI_clamp (by omega), nI_clamp (by omega), nI_clamp (by omega)]; exact ⟨rfl, rfl⟩), by rw [ht]; exact hP9, hD9⟩, hS.F ht⟩) hS.2.2 dX10_ends_55
      ·
        have c_33 := bz c_33
        refine lv_bipush (v := (-2)) hx hb dX10_ends_36 (by decide) ?_
        have hP9 := hP.sub (ws' := [(m0, .inr (10, [.ref qk, .int (nI d), .int (nI sh), .int (nI low), .int (nI high), .int le, .int mo, .int (nI nb), .ref qp, .ref qr, .ref qc, .ref qm, .ref qb, .int (nI cap), .int kd, .int am, .int wt, .int md, .long z1, .long z2, .long z3, .long z4, .long z5, .int (nI sw), .int (nI np), .ref qf, .ref qs, .int (nI fe), .int (nI te), .int (nI kk), .ref qt, .ref qx, .ref qy, .int no, .int nt, .ref qo, .ref qz, .ref qi, .ref qv, .int fd]))]) [0] rfl
        have hD9 := hD.sub (ws' := [(m0, .inr (10, [.ref qk, .int (nI d), .int (nI sh), .int (nI low), .int (nI high), .int le, .int mo, .int (nI nb), .ref qp, .ref qr, .ref qc, .ref qm, .ref qb, .int (nI cap), .int kd, .int am, .int wt, .int md, .long z1, .long z2, .long z3, .long z4, .long z5, .int (nI sw), .int (nI np), .ref qf, .ref qs, .int (nI fe), .int (nI te), .int (nI kk), .ref qt, .ref qx, .ref qy, .int no, .int nt, .ref qo, .ref qz, .ref qi, .ref qv, .int fd]))]) [0] (by decide) rfl
        exact W.iret (v := (-2)) hx hb hr (fun t ht hW => ⟨⟨_, (fe, te, kk), rfl, (by unfold aEnds sEnds; first | rw [if_neg (fun h => c_9 h.1), if_neg (fun h => c_9 h.1)]; exact ⟨rfl, rfl⟩ | rw [if_neg (fun h => c_21 h.2.1), if_neg (fun h => c_21 h.2.1)]; exact ⟨rfl, rfl⟩ | rw [if_neg (fun h => c_33 h.2.2), if_neg (fun h => c_33 h.2.2)]; exact ⟨rfl, rfl⟩), by rw [ht]; exact hP9, hD9⟩, hS.F ht⟩) hS.2.2 dX10_ends_38

set_option maxHeartbeats 4000000 in
set_option maxRecDepth 100000 in
theorem c_X10_free {l : Launch} {D : va_G} {cI cS cP : ClassId} {sz : Nat} {m0 qk qp qr qc qm qb qf qs qt qx qy qo qz qi qv : Nat} {d sh low high nb cap sw np fe te kk : Nat} {le mo kd am wt md no nt fd : Int32} {z1 z2 z3 z4 z5 : Int64} {fo sf : Nat → Nat} {e1 : Int32} (hnp : np ≤ 20) (hfo : ∀ j, j < np → 10 ≤ fo j ∧ fo j ≤ 10000) (hsf : ∀ j, sf j ≤ 100000) (hfe : fe ≤ 9) (hte : te ≤ 1000) (hkk : kk ≤ 1000) : Met l yX10_free wsX10_free ({ frames := 1, cells := 0, slots := 0, locals := 25 }) (PC D (TY cI cS cP) [.ref m0, .int e1] sz [(m0, .inr (10, [.ref qk, .int (nI d), .int (nI sh), .int (nI low), .int (nI high), .int le, .int mo, .int (nI nb), .ref qp, .ref qr, .ref qc, .ref qm, .ref qb, .int (nI cap), .int kd, .int am, .int wt, .int md, .long z1, .long z2, .long z3, .long z4, .long z5, .int (nI sw), .int (nI np), .ref qf, .ref qs, .int (nI fe), .int (nI te), .int (nI kk), .ref qt, .ref qx, .ref qy, .int no, .int nt, .ref qo, .ref qz, .ref qi, .ref qv, .int fd])), (qf, .inl (cI, 20, .inl (nF fo))), (qs, .inl (cI, 20, .inl (nF sf)))]) (vp_Sl (fun r => r = aFree np fo sf fe te kk e1)) 0 0 (fun _ => False) := by
  refine Met.ofW (cc := cX10_free) (maxL := 14) (ret := (some .long)) (by decide) rfl ?_
  intro p e s m args below meth c s₁ B hml hv
  obtain ⟨rfl, hsz, hP, hK, hD0, hN⟩ := hv
  have hx := B.exec
  have hb := B.bytes
  have hr := B.returns
  have hts := atoms_spec (ws := wsX10_free) B.pre
  have hown : s.vm.findClass RX10 = some m.cls := findClass_of_methodNamed B.named
  have hlocks := B.notSynchronized
  subst hsz
  have iX10 : ∀ w ∈ u_ws RX10 TX10 40, w ∈ wsX10_free := by decide +kernel
  have hD := hD0
  have hP : va_P D vwCl [(m0, .inr (10, [.ref qk, .int (nI d), .int (nI sh), .int (nI low), .int (nI high), .int le, .int mo, .int (nI nb), .ref qp, .ref qr, .ref qc, .ref qm, .ref qb, .int (nI cap), .int kd, .int am, .int wt, .int md, .long z1, .long z2, .long z3, .long z4, .long z5, .int (nI sw), .int (nI np), .ref qf, .ref qs, .int (nI fe), .int (nI te), .int (nI kk), .ref qt, .ref qx, .ref qy, .int no, .int nt, .ref qo, .ref qz, .ref qi, .ref qv, .int fd])), (qf, .inl (cI, 20, .inl (nF fo))), (qs, .inl (cI, 20, .inl (nF sf)))] s.heap := hP
  have hl := lv_entry ([.ref m0, .int e1]) (n := 14) (Nat.le_of_ble_eq_true rfl)
  rw [lg_entry_eq]
  generalize (lg_sl ([.ref m0, .int e1]) ++ List.replicate (14 - (lg_sl ([.ref m0, .int e1])).length) Slot.unset).toArray = ls at hl ⊢
  have hl : lv_has ls 14 [(0, .ref m0), (1, .int e1)] := hl
  refine lv_iload_n hx hb dX10_free_0 rfl (lv_at hl 1 rfl) ?_
  refine lv_i2l (v := e1.toInt64) hx hb dX10_free_1 rfl ?_
  refine lv_lconst (v := 0) hx hb dX10_free_2 (by decide) ?_
  refine lv_lconst (v := 1) hx hb dX10_free_3 (by decide) ?_
  refine q_S (tys := TY cI cS cP) (D := D) ⟨hx, hb, hml, hown, hts⟩ [.long e1.toInt64, .long ((0 : Int32).toInt64), .long ((1 : Int32).toInt64)] [] c_X10_in (va_cwS 3 hts gX10_free_X10_in rfl rfl rfl (by decide +kernel) ⟨Nat.le_of_ble_eq_true rfl, Nat.le_of_ble_eq_true rfl⟩) hK hN rfl hl.1 rfl (Nat.le_of_ble_eq_true rfl) dX10_free_4 ⟨Nat.zero_le _, Nat.zero_le _⟩ (fun r hw => ?_)
  subst hw
  refine lv_if_ne (tgt := 16) hx hb dX10_free_7 (by decide) (fun c_7 => ?_) (fun c_7 => ?_)
  ·
    have c_7 := bnz c_7
    refine lv_aload_n hx hb dX10_free_16 rfl (lv_at hl 0 rfl) ?_
    refine va_get (D := D) (ci := 10) (v := .int (nI np)) (C := RX10) (T := TX10) (N := 40) hx hb hts iX10 hown hK hP 0 rfl rfl 24 (by decide) (hts (.fieldLink RX10 183 "DeepHoleModel" "pulls" "I") (by decide +kernel)) (fun _ h9 => h9) rfl dX10_free_17 ?_
    refine lv_if_ne (tgt := 29) hx hb dX10_free_20 (by decide) (fun c_20 => ?_) (fun c_20 => ?_)
    ·
      have c_20 := n_ne (a := np) (b := 0) c_20 (by omega) (by omega)
      refine lv_lconst (v := 0) hx hb dX10_free_29 (by decide) ?_
      refine lv_lstore_n (lv' := [(2, .long 0), (0, .ref m0), (1, .int e1)]) hx hb dX10_free_30 rfl hl (by decide) rfl (fun ls hl => ?_)
      refine lv_ldc2 hx hb hown (hts (.constantLong RX10 194 (9223372036854775807)) (by decide +kernel)) dX10_free_31 ?_
      refine lv_lstore (lv' := [(4, .long 9223372036854775807), (2, .long 0), (0, .ref m0), (1, .int e1)]) hx hb dX10_free_34 hl (by decide) rfl (fun ls hl => ?_)
      refine lv_iconst (v := 0) hx hb dX10_free_36 (by decide) ?_
      refine lv_istore (lv' := [(6, .int 0), (4, .long 9223372036854775807), (2, .long 0), (0, .ref m0), (1, .int e1)]) hx hb dX10_free_37 hl (by decide) rfl (fun ls hl => ?_)
      have hl : lv_has ls 14 [(6, .int 0), (4, .long 9223372036854775807), (2, .long (lI (plo fo sf fe te kk 0))), (0, .ref m0), (1, .int e1)] := by rw [← (show (0 : Int64) = lI (plo fo sf fe te kk 0) from rfl)]; exact hl
      have hl : lv_has ls 14 [(6, .int 0), (4, .long (lI (phi fo sf fe te kk 0))), (2, .long (lI (plo fo sf fe te kk 0))), (0, .ref m0), (1, .int e1)] := by rw [← (show (9223372036854775807 : Int64) = lI (phi fo sf fe te kk 0) from by rw [phi]; decide)]; exact hl
      refine lp_q (I := fun zz9 ls => ∃ (k : Nat), zz9 = np - k ∧ (k ≤ np) ∧ lv_has ls 14 [(0, .ref m0), (1, .int e1), (2, .long (lI (plo fo sf fe te kk k))), (4, .long (lI (phi fo sf fe te kk k))), (6, .int (nI k))]) ?_ (np - 0) ⟨0, rfl, (by omega), lv_sub hl [3, 4, 2, 1, 0] rfl⟩
      intro n_39 ls ih_39 hI
      obtain ⟨k, hn_39, hk, hl⟩ := hI
      have hpl := plo_rng (fo := fo) (fe := fe) (te := te) hsf hkk k
      have hph := phi_rng (fo := fo) (sf := sf) (fe := fe) (te := te) (kk := kk) k
      have hsk := hsf k
      refine lv_iload hx hb dX10_free_39 (lv_at hl 4 rfl) ?_
      refine lv_aload_n hx hb dX10_free_41 rfl (lv_at hl 0 rfl) ?_
      refine va_get (D := D) (ci := 10) (v := .int (nI np)) (C := RX10) (T := TX10) (N := 40) hx hb hts iX10 hown hK hP 0 rfl rfl 24 (by decide) (hts (.fieldLink RX10 183 "DeepHoleModel" "pulls" "I") (by decide +kernel)) (fun _ h9 => h9) rfl dX10_free_42 ?_
      refine lv_icmp_ge (tgt := 186) hx hb dX10_free_45 (by decide) (fun c_45 => ?_) (fun c_45 => ?_)
      ·
        have c_45 := n_ge (a := k) (b := np) c_45 (by omega) (by omega)
        have hkn : k = np := by omega
        rw [hkn] at hl hpl hph
        refine lv_lload_n hx hb dX10_free_186 rfl (lv_at hl 2 rfl) ?_
        refine lv_lload hx hb dX10_free_187 (lv_at hl 3 rfl) ?_
        refine W.lcmp hx hb dX10_free_189 ?_
        refine lv_if_le (tgt := 201) hx hb dX10_free_190 (by decide) (fun c_190 => ?_) (fun c_190 => ?_)
        ·
          have c_190 := y_le (a := (plo fo sf fe te kk np)) (b := (phi fo sf fe te kk np)) ((lg_cmp_le _ _).mp c_190) (lI_toInt (by omega) (by omega)) (lI_toInt (by omega) (by omega))
          refine lv_iload_n hx hb dX10_free_201 rfl (lv_at hl 1 rfl) ?_
          refine lv_if_ne (tgt := 209) hx hb dX10_free_202 (by decide) (fun c_202 => ?_) (fun c_202 => ?_)
          ·
            refine lv_lload hx hb dX10_free_209 (lv_at hl 3 rfl) ?_
            exact W.lret (v := lI (phi fo sf fe te kk np)) hx hb hr (fun t ht hW => ⟨_, rfl, (by unfold aFree; rw [if_pos c_7, if_neg c_20, if_neg (by omega)]; first | rw [if_pos c_202] | rw [if_neg c_202]), ht⟩) (fun _ h => absurd h List.not_mem_nil) dX10_free_211
          ·
            refine lv_lload_n hx hb dX10_free_205 rfl (lv_at hl 2 rfl) ?_
            refine lv_goto (tgt := 211) hx hb dX10_free_206 (by decide) ?_
            exact W.lret (v := lI (plo fo sf fe te kk np)) hx hb hr (fun t ht hW => ⟨_, rfl, (by unfold aFree; rw [if_pos c_7, if_neg c_20, if_neg (by omega)]; first | rw [if_pos c_202] | rw [if_neg c_202]), ht⟩) (fun _ h => absurd h List.not_mem_nil) dX10_free_211
        ·
          have c_190 := y_nle (a := (plo fo sf fe te kk np)) (b := (phi fo sf fe te kk np)) (fun h => c_190 ((lg_cmp_le _ _).mpr h)) (lI_toInt (by omega) (by omega)) (lI_toInt (by omega) (by omega))
          refine lv_bipush (v := (-3)) hx hb dX10_free_193 (by decide) ?_
          refine q_Sl (tys := TY cI cS cP) (D := D) ⟨hx, hb, hml, hown, hts⟩ [.int (-3 : Int32)] [] c_X10_no (va_cwS 1 hts gX10_free_X10_no rfl rfl rfl (by decide +kernel) ⟨Nat.le_of_ble_eq_true rfl, Nat.le_of_ble_eq_true rfl⟩) hK hN rfl hl.1 rfl (Nat.le_of_ble_eq_true rfl) dX10_free_195 ⟨Nat.zero_le _, Nat.zero_le _⟩ (fun r hw => ?_)
          subst hw
          refine lv_goto (tgt := 211) hx hb dX10_free_198 (by decide) ?_
          exact W.lret (v := (-9223372036854775808) - (-3 : Int32).toInt64) hx hb hr (fun t ht hW => ⟨_, rfl, (by unfold aFree; rw [if_pos c_7, if_neg c_20, if_pos c_190]), ht⟩) (fun _ h => absurd h List.not_mem_nil) dX10_free_211
      ·
        have c_45 := n_nge (a := k) (b := np) c_45 (by omega) (by omega)
        have hfk := hfo k c_45
        have hm1 : (sf k - te) * kk ≤ 100000 * 1000 := Nat.mul_le_mul (by omega) hkk
        have hm2 : (sf k + te) * kk ≤ 101000 * 1000 := Nat.mul_le_mul (by omega) hkk
        have hd3 := Int.natCast_nonneg ((sf k - te) * kk / (fo k + fe))
        have hd4 := Int.natCast_nonneg (((sf k + te) * kk + (fo k - fe) - 1) / (fo k - fe))
        have hd1 : (sf k - te) * kk / (fo k + fe) ≤ (sf k - te) * kk := Nat.div_le_self _ _
        have hd2 : ((sf k + te) * kk + (fo k - fe) - 1) / (fo k - fe) ≤ (sf k + te) * kk + (fo k - fe) - 1 := Nat.div_le_self _ _
        refine lv_aload_n hx hb dX10_free_48 rfl (lv_at hl 0 rfl) ?_
        refine va_get (D := D) (ci := 10) (v := .ref qs) (C := RX10) (T := TX10) (N := 40) hx hb hts iX10 hown hK hP 0 rfl rfl 26 (by decide) (hts (.fieldLink RX10 38 "DeepHoleModel" "stretch" "[I") (by decide +kernel)) (fun _ h9 => h9) rfl dX10_free_49 ?_
        refine lv_iload hx hb dX10_free_52 (lv_at hl 4 rfl) ?_
        refine rd_i hx hb hK hP 2 0 rfl rfl (k := k) (by omega) (by decide) dX10_free_54 ?_
        refine lv_eqi (z := nI (sf k)) rfl ?_
        refine lv_aload_n hx hb dX10_free_55 rfl (lv_at hl 0 rfl) ?_
        refine va_get (D := D) (ci := 10) (v := .int (nI te)) (C := RX10) (T := TX10) (N := 40) hx hb hts iX10 hown hK hP 0 rfl rfl 28 (by decide) (hts (.fieldLink RX10 191 "DeepHoleModel" "endE" "I") (by decide +kernel)) (fun _ h9 => h9) rfl dX10_free_56 ?_
        refine cut_v (ls := ls) (rest := []) 78 (.int (nI (sf k - te))) ?_ (fun K_59 => ?_)
        ·
          refine lv_istore (lv' := [(7, .int (nI (sf k - te))), (0, .ref m0), (1, .int e1), (2, .long (lI (plo fo sf fe te kk k))), (4, .long (lI (phi fo sf fe te kk k))), (6, .int (nI k))]) hx hb dX10_free_78 hl (by decide) rfl (fun ls hl => ?_)
          refine lv_iload hx hb dX10_free_80 (lv_at hl 0 rfl) ?_
          refine lv_i2l (v := lI ((sf k - te : Nat) : Int)) hx hb dX10_free_82 (nI_64 (by omega)) ?_
          refine lv_aload_n hx hb dX10_free_83 rfl (lv_at hl 1 rfl) ?_
          refine va_get (D := D) (ci := 10) (v := .int (nI kk)) (C := RX10) (T := TX10) (N := 40) hx hb hts iX10 hown hK hP 0 rfl rfl 29 (by decide) (hts (.fieldLink RX10 41 "DeepHoleModel" "byK" "I") (by decide +kernel)) (fun _ h9 => h9) rfl dX10_free_84 ?_
          refine lv_i2l (v := lI ((kk : Nat) : Int)) hx hb dX10_free_87 (nI_64 (by omega)) ?_
          refine lv_lmul hx hb dX10_free_88 ?_
          refine lv_eql (z := lI (((sf k - te : Nat) : Int) * ((kk : Nat) : Int))) (lI_mul ((sf k - te : Nat) : Int) ((kk : Nat) : Int)) ?_
          refine lv_aload_n hx hb dX10_free_89 rfl (lv_at hl 1 rfl) ?_
          refine va_get (D := D) (ci := 10) (v := .ref qf) (C := RX10) (T := TX10) (N := 40) hx hb hts iX10 hown hK hP 0 rfl rfl 25 (by decide) (hts (.fieldLink RX10 35 "DeepHoleModel" "force" "[I") (by decide +kernel)) (fun _ h9 => h9) rfl dX10_free_90 ?_
          refine lv_iload hx hb dX10_free_93 (lv_at hl 5 rfl) ?_
          refine rd_i hx hb hK hP 1 0 rfl rfl (k := k) (by omega) (by decide) dX10_free_95 ?_
          refine lv_eqi (z := nI (fo k)) rfl ?_
          refine lv_aload_n hx hb dX10_free_96 rfl (lv_at hl 1 rfl) ?_
          refine va_get (D := D) (ci := 10) (v := .int (nI fe)) (C := RX10) (T := TX10) (N := 40) hx hb hts iX10 hown hK hP 0 rfl rfl 27 (by decide) (hts (.fieldLink RX10 188 "DeepHoleModel" "endF" "I") (by decide +kernel)) (fun _ h9 => h9) rfl dX10_free_97 ?_
          refine lv_iadd hx hb dX10_free_100 ?_
          refine lv_eqi (z := nI ((fo k) + fe)) (nI_add _ _) ?_
          refine lv_i2l (v := lI (((fo k) + fe : Nat) : Int)) hx hb dX10_free_101 (nI_64 (by omega)) ?_
          refine lv_ldiv hx hb dX10_free_102 (fun q => by have h := lI_pos (b := fo k + fe) (by omega) (by omega); rw [show lI ((fo k + fe : Nat) : Int) = 0 from q] at h; exact absurd h (by decide)) ?_
          refine lv_eql (z := lI (((sf k - te) * kk / (fo k + fe) : Nat) : Int)) (lI_div (a := (sf k - te) * kk) (b := fo k + fe) (by omega) (by omega) (by omega)) ?_
          refine lv_lstore (lv' := [(8, .long (lI (((sf k - te) * kk / (fo k + fe) : Nat) : Int))), (7, .int (nI (sf k - te))), (0, .ref m0), (1, .int e1), (2, .long (lI (plo fo sf fe te kk k))), (4, .long (lI (phi fo sf fe te kk k))), (6, .int (nI k))]) hx hb dX10_free_103 hl (by decide) rfl (fun ls hl => ?_)
          refine lv_aload_n hx hb dX10_free_105 rfl (lv_at hl 2 rfl) ?_
          refine va_get (D := D) (ci := 10) (v := .ref qf) (C := RX10) (T := TX10) (N := 40) hx hb hts iX10 hown hK hP 0 rfl rfl 25 (by decide) (hts (.fieldLink RX10 35 "DeepHoleModel" "force" "[I") (by decide +kernel)) (fun _ h9 => h9) rfl dX10_free_106 ?_
          refine lv_iload hx hb dX10_free_109 (lv_at hl 6 rfl) ?_
          refine rd_i hx hb hK hP 1 0 rfl rfl (k := k) (by omega) (by decide) dX10_free_111 ?_
          refine lv_eqi (z := nI (fo k)) rfl ?_
          refine lv_aload_n hx hb dX10_free_112 rfl (lv_at hl 2 rfl) ?_
          refine va_get (D := D) (ci := 10) (v := .int (nI fe)) (C := RX10) (T := TX10) (N := 40) hx hb hts iX10 hown hK hP 0 rfl rfl 27 (by decide) (hts (.fieldLink RX10 188 "DeepHoleModel" "endF" "I") (by decide +kernel)) (fun _ h9 => h9) rfl dX10_free_113 ?_
          refine lv_isub hx hb dX10_free_116 ?_
          refine lv_eqi (z := iI (((fo k : Nat) : Int) - ((fe : Nat) : Int))) (nI_subz (fo k) (fe)) ?_
          refine lv_i2l (v := lI (((fo k : Nat) : Int) - ((fe : Nat) : Int))) hx hb dX10_free_117 (iI_64 (by omega) (by omega)) ?_
          refine lv_lstore (lv' := [(10, .long (lI (((fo k : Nat) : Int) - ((fe : Nat) : Int)))), (8, .long (lI (((sf k - te) * kk / (fo k + fe) : Nat) : Int))), (7, .int (nI (sf k - te))), (0, .ref m0), (1, .int e1), (2, .long (lI (plo fo sf fe te kk k))), (4, .long (lI (phi fo sf fe te kk k))), (6, .int (nI k))]) hx hb dX10_free_118 hl (by decide) rfl (fun ls hl => ?_)
          refine lv_aload_n hx hb dX10_free_120 rfl (lv_at hl 3 rfl) ?_
          refine va_get (D := D) (ci := 10) (v := .ref qs) (C := RX10) (T := TX10) (N := 40) hx hb hts iX10 hown hK hP 0 rfl rfl 26 (by decide) (hts (.fieldLink RX10 38 "DeepHoleModel" "stretch" "[I") (by decide +kernel)) (fun _ h9 => h9) rfl dX10_free_121 ?_
          refine lv_iload hx hb dX10_free_124 (lv_at hl 7 rfl) ?_
          refine rd_i hx hb hK hP 2 0 rfl rfl (k := k) (by omega) (by decide) dX10_free_126 ?_
          refine lv_eqi (z := nI (sf k)) rfl ?_
          refine lv_aload_n hx hb dX10_free_127 rfl (lv_at hl 3 rfl) ?_
          refine va_get (D := D) (ci := 10) (v := .int (nI te)) (C := RX10) (T := TX10) (N := 40) hx hb hts iX10 hown hK hP 0 rfl rfl 28 (by decide) (hts (.fieldLink RX10 191 "DeepHoleModel" "endE" "I") (by decide +kernel)) (fun _ h9 => h9) rfl dX10_free_128 ?_
          refine lv_iadd hx hb dX10_free_131 ?_
          refine lv_eqi (z := nI ((sf k) + te)) (nI_add _ _) ?_
          refine lv_i2l (v := lI (((sf k) + te : Nat) : Int)) hx hb dX10_free_132 (nI_64 (by omega)) ?_
          refine lv_aload_n hx hb dX10_free_133 rfl (lv_at hl 3 rfl) ?_
          refine va_get (D := D) (ci := 10) (v := .int (nI kk)) (C := RX10) (T := TX10) (N := 40) hx hb hts iX10 hown hK hP 0 rfl rfl 29 (by decide) (hts (.fieldLink RX10 41 "DeepHoleModel" "byK" "I") (by decide +kernel)) (fun _ h9 => h9) rfl dX10_free_134 ?_
          refine lv_i2l (v := lI ((kk : Nat) : Int)) hx hb dX10_free_137 (nI_64 (by omega)) ?_
          refine lv_lmul hx hb dX10_free_138 ?_
          refine lv_eql (z := lI ((((sf k) + te : Nat) : Int) * ((kk : Nat) : Int))) (lI_mul (((sf k) + te : Nat) : Int) ((kk : Nat) : Int)) ?_
          refine lv_lload hx hb dX10_free_139 (lv_at hl 0 rfl) ?_
          refine lv_ladd hx hb dX10_free_141 ?_
          refine lv_eql (z := lI (((((sf k) + te : Nat) : Int) * ((kk : Nat) : Int)) + (((fo k : Nat) : Int) - ((fe : Nat) : Int)))) (lI_add ((((sf k) + te : Nat) : Int) * ((kk : Nat) : Int)) (((fo k : Nat) : Int) - ((fe : Nat) : Int))) ?_
          refine lv_lconst (v := 1) hx hb dX10_free_142 (by decide) ?_
          refine lv_lsub hx hb dX10_free_143 ?_
          refine lv_eql (z := lI ((((((sf k) + te : Nat) : Int) * ((kk : Nat) : Int)) + (((fo k : Nat) : Int) - ((fe : Nat) : Int))) - (1))) (lI_sub (((((sf k) + te : Nat) : Int) * ((kk : Nat) : Int)) + (((fo k : Nat) : Int) - ((fe : Nat) : Int))) (1)) ?_
          refine lv_lload hx hb dX10_free_144 (lv_at hl 0 rfl) ?_
          refine lv_ldiv hx hb dX10_free_146 (fun q => by have h := lI_pos (b := fo k - fe) (by omega) (by omega); rw [show lI ((fo k - fe : Nat) : Int) = 0 from by rw [show ((fo k - fe : Nat) : Int) = ((fo k : Nat) : Int) - ((fe : Nat) : Int) by omega]; exact q] at h; exact absurd h (by decide)) ?_
          refine lv_eql (z := lI ((((sf k + te) * kk + (fo k - fe) - 1) / (fo k - fe) : Nat) : Int)) (ru_div2 (by omega) (by omega) (by omega) (by omega)) ?_
          refine lv_lstore (lv' := [(12, .long (lI ((((sf k + te) * kk + (fo k - fe) - 1) / (fo k - fe) : Nat) : Int))), (10, .long (lI (((fo k : Nat) : Int) - ((fe : Nat) : Int)))), (8, .long (lI (((sf k - te) * kk / (fo k + fe) : Nat) : Int))), (7, .int (nI (sf k - te))), (0, .ref m0), (1, .int e1), (2, .long (lI (plo fo sf fe te kk k))), (4, .long (lI (phi fo sf fe te kk k))), (6, .int (nI k))]) hx hb dX10_free_147 hl (by decide) rfl (fun ls hl => ?_)
          refine lv_lload hx hb dX10_free_149 (lv_at hl 2 rfl) ?_
          refine lv_lload_n hx hb dX10_free_151 rfl (lv_at hl 6 rfl) ?_
          refine W.lcmp hx hb dX10_free_152 ?_
          refine cut_v (ls := ls) (rest := []) 162 (.long (lI (plo fo sf fe te kk (k + 1)))) ?_ (fun K_153 => ?_)
          ·
            refine lv_lstore_n (lv' := [(2, .long (lI (plo fo sf fe te kk (k + 1)))), (12, .long (lI ((((sf k + te) * kk + (fo k - fe) - 1) / (fo k - fe) : Nat) : Int))), (10, .long (lI (((fo k : Nat) : Int) - ((fe : Nat) : Int)))), (8, .long (lI (((sf k - te) * kk / (fo k + fe) : Nat) : Int))), (7, .int (nI (sf k - te))), (0, .ref m0), (1, .int e1), (4, .long (lI (phi fo sf fe te kk k))), (6, .int (nI k))]) hx hb dX10_free_162 rfl hl (by decide) rfl (fun ls hl => ?_)
            refine lv_lload hx hb dX10_free_163 (lv_at hl 1 rfl) ?_
            refine lv_lload hx hb dX10_free_165 (lv_at hl 7 rfl) ?_
            refine W.lcmp hx hb dX10_free_167 ?_
            refine cut_v (ls := ls) (rest := []) 178 (.long (lI (phi fo sf fe te kk (k + 1)))) ?_ (fun K_168 => ?_)
            ·
              refine lv_lstore (lv' := [(4, .long (lI (phi fo sf fe te kk (k + 1)))), (2, .long (lI (plo fo sf fe te kk (k + 1)))), (12, .long (lI ((((sf k + te) * kk + (fo k - fe) - 1) / (fo k - fe) : Nat) : Int))), (10, .long (lI (((fo k : Nat) : Int) - ((fe : Nat) : Int)))), (8, .long (lI (((sf k - te) * kk / (fo k + fe) : Nat) : Int))), (7, .int (nI (sf k - te))), (0, .ref m0), (1, .int e1), (6, .int (nI k))]) hx hb dX10_free_178 hl (by decide) rfl (fun ls hl => ?_)
              refine lv_iinc (v := nI (k + 1)) (lv' := [(6, .int (nI (k + 1))), (4, .long (lI (phi fo sf fe te kk (k + 1)))), (2, .long (lI (plo fo sf fe te kk (k + 1)))), (12, .long (lI ((((sf k + te) * kk + (fo k - fe) - 1) / (fo k - fe) : Nat) : Int))), (10, .long (lI (((fo k : Nat) : Int) - ((fe : Nat) : Int)))), (8, .long (lI (((sf k - te) * kk / (fo k + fe) : Nat) : Int))), (7, .int (nI (sf k - te))), (0, .ref m0), (1, .int e1)]) hx hb dX10_free_180 hl (k := 8) rfl (nI_1 _) (by decide) rfl (fun ls hl => ?_)
              refine lv_goto (tgt := 39) hx hb dX10_free_183 (by decide) ?_
              exact ih_39 _ _ (by omega) ⟨k + 1, rfl, (by omega), lv_sub hl [7, 8, 2, 1, 0] rfl⟩
            ·
              refine lv_if_ge (tgt := 176) hx hb dX10_free_168 (by decide) (fun c_168 => ?_) (fun c_168 => ?_)
              ·
                have c_168 := y_ge (a := ((((sf k + te) * kk + (fo k - fe) - 1) / (fo k - fe) : Nat) : Int)) (b := (phi fo sf fe te kk k)) ((lg_cmp_ge _ _).mp c_168) (lI_toInt (by omega) (by omega)) (lI_toInt (by omega) (by omega))
                refine lv_lload hx hb dX10_free_176 (lv_at hl 7 rfl) ?_
                exact lv_eql (by rw [phi]; congr 1; omega) K_168
              ·
                have c_168 := y_nge (a := ((((sf k + te) * kk + (fo k - fe) - 1) / (fo k - fe) : Nat) : Int)) (b := (phi fo sf fe te kk k)) (fun h => c_168 ((lg_cmp_ge _ _).mpr h)) (lI_toInt (by omega) (by omega)) (lI_toInt (by omega) (by omega))
                refine lv_lload hx hb dX10_free_171 (lv_at hl 1 rfl) ?_
                refine lv_goto (tgt := 178) hx hb dX10_free_173 (by decide) ?_
                exact lv_eql (by rw [phi]; congr 1; omega) K_168
          ·
            refine lv_if_le (tgt := 161) hx hb dX10_free_153 (by decide) (fun c_153 => ?_) (fun c_153 => ?_)
            ·
              have c_153 := y_le (a := (((sf k - te) * kk / (fo k + fe) : Nat) : Int)) (b := (plo fo sf fe te kk k)) ((lg_cmp_le _ _).mp c_153) (lI_toInt (by omega) (by omega)) (lI_toInt (by omega) (by omega))
              refine lv_lload_n hx hb dX10_free_161 rfl (lv_at hl 6 rfl) ?_
              exact lv_eql (by rw [plo]; congr 1; omega) K_153
            ·
              have c_153 := y_nle (a := (((sf k - te) * kk / (fo k + fe) : Nat) : Int)) (b := (plo fo sf fe te kk k)) (fun h => c_153 ((lg_cmp_le _ _).mpr h)) (lI_toInt (by omega) (by omega)) (lI_toInt (by omega) (by omega))
              refine lv_lload hx hb dX10_free_156 (lv_at hl 2 rfl) ?_
              refine lv_goto (tgt := 162) hx hb dX10_free_158 (by decide) ?_
              exact lv_eql (by rw [plo]; congr 1; omega) K_153
        ·
          refine lv_icmp_le (tgt := 77) hx hb dX10_free_59 (by decide) (fun c_59 => ?_) (fun c_59 => ?_)
          ·
            have c_59 := n_le (a := (sf k)) (b := te) c_59 (by omega) (by omega)
            refine lv_iconst (v := 0) hx hb dX10_free_77 (by decide) ?_
            exact lv_eqi (by first | rfl | (rw [← iI_nat]; congr 1; omega) | (rw [show sf k - te = 0 by omega]; rfl)) K_59
          ·
            have c_59 := n_nle (a := (sf k)) (b := te) c_59 (by omega) (by omega)
            refine lv_aload_n hx hb dX10_free_62 rfl (lv_at hl 0 rfl) ?_
            refine va_get (D := D) (ci := 10) (v := .ref qs) (C := RX10) (T := TX10) (N := 40) hx hb hts iX10 hown hK hP 0 rfl rfl 26 (by decide) (hts (.fieldLink RX10 38 "DeepHoleModel" "stretch" "[I") (by decide +kernel)) (fun _ h9 => h9) rfl dX10_free_63 ?_
            refine lv_iload hx hb dX10_free_66 (lv_at hl 4 rfl) ?_
            refine rd_i hx hb hK hP 2 0 rfl rfl (k := k) (by omega) (by decide) dX10_free_68 ?_
            refine lv_eqi (z := nI (sf k)) rfl ?_
            refine lv_aload_n hx hb dX10_free_69 rfl (lv_at hl 0 rfl) ?_
            refine va_get (D := D) (ci := 10) (v := .int (nI te)) (C := RX10) (T := TX10) (N := 40) hx hb hts iX10 hown hK hP 0 rfl rfl 28 (by decide) (hts (.fieldLink RX10 191 "DeepHoleModel" "endE" "I") (by decide +kernel)) (fun _ h9 => h9) rfl dX10_free_70 ?_
            refine lv_isub hx hb dX10_free_73 ?_
            refine lv_eqi (z := iI (((sf k : Nat) : Int) - ((te : Nat) : Int))) (nI_subz (sf k) (te)) ?_
            refine lv_goto (tgt := 78) hx hb dX10_free_74 (by decide) ?_
            exact lv_eqi (by first | rfl | (rw [← iI_nat]; congr 1; omega) | (rw [show sf k - te = 0 by omega]; rfl)) K_59
    ·
      have c_20 := n_eq (a := np) (b := 0) c_20 (by omega) (by omega)
      refine lv_bipush (v := (-3)) hx hb dX10_free_23 (by decide) ?_
      refine q_Sl (tys := TY cI cS cP) (D := D) ⟨hx, hb, hml, hown, hts⟩ [.int (-3 : Int32)] [] c_X10_no (va_cwS 1 hts gX10_free_X10_no rfl rfl rfl (by decide +kernel) ⟨Nat.le_of_ble_eq_true rfl, Nat.le_of_ble_eq_true rfl⟩) hK hN rfl hl.1 rfl (Nat.le_of_ble_eq_true rfl) dX10_free_25 ⟨Nat.zero_le _, Nat.zero_le _⟩ (fun r hw => ?_)
      subst hw
      exact W.lret (v := (-9223372036854775808) - (-3 : Int32).toInt64) hx hb hr (fun t ht hW => ⟨_, rfl, (by unfold aFree; rw [if_pos c_7, if_pos c_20]), ht⟩) (fun _ h => absurd h List.not_mem_nil) dX10_free_28
  ·
    have c_7 := bz c_7
    refine lv_bipush (v := (-2)) hx hb dX10_free_10 (by decide) ?_
    refine q_Sl (tys := TY cI cS cP) (D := D) ⟨hx, hb, hml, hown, hts⟩ [.int (-2 : Int32)] [] c_X10_no (va_cwS 1 hts gX10_free_X10_no rfl rfl rfl (by decide +kernel) ⟨Nat.le_of_ble_eq_true rfl, Nat.le_of_ble_eq_true rfl⟩) hK hN rfl hl.1 rfl (Nat.le_of_ble_eq_true rfl) dX10_free_12 ⟨Nat.zero_le _, Nat.zero_le _⟩ (fun r hw => ?_)
    subst hw
    exact W.lret (v := (-9223372036854775808) - (-2 : Int32).toInt64) hx hb hr (fun t ht hW => ⟨_, rfl, (by unfold aFree; rw [if_neg c_7]), ht⟩) (fun _ h => absurd h List.not_mem_nil) dX10_free_15
