set_option maxHeartbeats 4000000 in
set_option maxRecDepth 100000 in
theorem c_X10_isHole {l : Launch} {D : va_G} {cI cS cP : ClassId} {sz : Nat} {x : Int32}  : Met l yX10_isHole wsX10_isHole ({ frames := 1, cells := 0, slots := 0, locals := 25 }) (PC D (TY cI cS cP) [.int x] sz []) (vp_Si (fun r => r = if ((0 : Int32) ≤ x ∧ x ≤ (1 : Int32)) then 1 else 0)) 0 0 (fun _ => False) := by
  refine Met.ofW (cc := cX10_isHole) (maxL := 1) (ret := (some .boolean)) (by decide) rfl ?_
  intro p e s m args below meth c s₁ B hml hv
  obtain ⟨rfl, hsz, hP, hK, hD0, hN⟩ := hv
  have hx := B.exec
  have hb := B.bytes
  have hr := B.returns
  have hts := atoms_spec (ws := wsX10_isHole) B.pre
  have hown : s.vm.findClass RX10 = some m.cls := findClass_of_methodNamed B.named
  have hlocks := B.notSynchronized
  subst hsz
  have hD := hD0
  have hP : va_P D vwCl [] s.heap := hP
  have hl := lv_entry ([.int x]) (n := 1) (Nat.le_of_ble_eq_true rfl)
  rw [lg_entry_eq]
  generalize (lg_sl ([.int x]) ++ List.replicate (1 - (lg_sl ([.int x])).length) Slot.unset).toArray = ls at hl ⊢
  have hl : lv_has ls 1 [(0, .int x)] := hl
  refine lv_iload_n hx hb dX10_isHole_0 rfl (lv_at hl 0 rfl) ?_
  refine lv_i2l (v := x.toInt64) hx hb dX10_isHole_1 rfl ?_
  refine lv_lconst (v := 0) hx hb dX10_isHole_2 (by decide) ?_
  refine lv_lconst (v := 1) hx hb dX10_isHole_3 (by decide) ?_
  refine q_S (tys := TY cI cS cP) (D := D) ⟨hx, hb, hml, hown, hts⟩ [.long x.toInt64, .long ((0 : Int32).toInt64), .long ((1 : Int32).toInt64)] [] c_X10_in (va_cwS 3 hts gX10_isHole_X10_in rfl rfl rfl (by decide +kernel) ⟨Nat.le_of_ble_eq_true rfl, Nat.le_of_ble_eq_true rfl⟩) hK hN rfl hl.1 rfl (Nat.le_of_ble_eq_true rfl) dX10_isHole_4 ⟨Nat.zero_le _, Nat.zero_le _⟩ (fun r hw => ?_)
  subst hw
  exact W.zret (v := if ((0 : Int32) ≤ x ∧ x ≤ (1 : Int32)) then 1 else 0) hx hb hr (nar_b) (fun t ht hW => ⟨_, rfl, (by rfl), ht⟩) (fun _ h => absurd h List.not_mem_nil) dX10_isHole_7

set_option maxHeartbeats 4000000 in
set_option maxRecDepth 100000 in
theorem c_X10_isSheet {l : Launch} {D : va_G} {cI cS cP : ClassId} {sz : Nat} {x : Int32}  : Met l yX10_isSheet wsX10_isSheet ({ frames := 1, cells := 0, slots := 0, locals := 25 }) (PC D (TY cI cS cP) [.int x] sz []) (vp_Si (fun r => r = if ((0 : Int32) ≤ x ∧ x ≤ (3 : Int32)) then 1 else 0)) 0 0 (fun _ => False) := by
  refine Met.ofW (cc := cX10_isSheet) (maxL := 1) (ret := (some .boolean)) (by decide) rfl ?_
  intro p e s m args below meth c s₁ B hml hv
  obtain ⟨rfl, hsz, hP, hK, hD0, hN⟩ := hv
  have hx := B.exec
  have hb := B.bytes
  have hr := B.returns
  have hts := atoms_spec (ws := wsX10_isSheet) B.pre
  have hown : s.vm.findClass RX10 = some m.cls := findClass_of_methodNamed B.named
  have hlocks := B.notSynchronized
  subst hsz
  have hD := hD0
  have hP : va_P D vwCl [] s.heap := hP
  have hl := lv_entry ([.int x]) (n := 1) (Nat.le_of_ble_eq_true rfl)
  rw [lg_entry_eq]
  generalize (lg_sl ([.int x]) ++ List.replicate (1 - (lg_sl ([.int x])).length) Slot.unset).toArray = ls at hl ⊢
  have hl : lv_has ls 1 [(0, .int x)] := hl
  refine lv_iload_n hx hb dX10_isSheet_0 rfl (lv_at hl 0 rfl) ?_
  refine lv_i2l (v := x.toInt64) hx hb dX10_isSheet_1 rfl ?_
  refine lv_lconst (v := 0) hx hb dX10_isSheet_2 (by decide) ?_
  refine lv_ldc2 hx hb hown (hts (.constantLong RX10 216 (3)) (by decide +kernel)) dX10_isSheet_3 ?_
  refine q_S (tys := TY cI cS cP) (D := D) ⟨hx, hb, hml, hown, hts⟩ [.long x.toInt64, .long ((0 : Int32).toInt64), .long ((3 : Int32).toInt64)] [] c_X10_in (va_cwS 3 hts gX10_isSheet_X10_in rfl rfl rfl (by decide +kernel) ⟨Nat.le_of_ble_eq_true rfl, Nat.le_of_ble_eq_true rfl⟩) hK hN rfl hl.1 rfl (Nat.le_of_ble_eq_true rfl) dX10_isSheet_6 ⟨Nat.zero_le _, Nat.zero_le _⟩ (fun r hw => ?_)
  subst hw
  exact W.zret (v := if ((0 : Int32) ≤ x ∧ x ≤ (3 : Int32)) then 1 else 0) hx hb hr (nar_b) (fun t ht hW => ⟨_, rfl, (by rfl), ht⟩) (fun _ h => absurd h List.not_mem_nil) dX10_isSheet_9

set_option maxHeartbeats 4000000 in
set_option maxRecDepth 100000 in
theorem c_X10_begin {l : Launch} {D : va_G} {cI cS cP : ClassId} {sz : Nat} {m0 qk qp qr qc qm qb qf qs qt qx qy qo qz qi qv : Nat} {d sh low high nb cap sw np fe te kk : Nat} {le mo kd am wt md no nt fd : Int32} {z1 z2 z3 z4 z5 : Int64} {stf qxf qyf : Nat → Int32} {k na : Nat} {x1 : Int32} (hk : k < 2) (hst : stf k = nI na) : Met l yX10_begin wsX10_begin ({ frames := 2, cells := 0, slots := 0, locals := 45 }) (PC D (TY cI cS cP) [.ref m0, .int (nI k), .int x1] sz [(m0, .inr (10, [.ref qk, .int (nI d), .int (nI sh), .int (nI low), .int (nI high), .int le, .int mo, .int (nI nb), .ref qp, .ref qr, .ref qc, .ref qm, .ref qb, .int (nI cap), .int kd, .int am, .int wt, .int md, .long z1, .long z2, .long z3, .long z4, .long z5, .int (nI sw), .int (nI np), .ref qf, .ref qs, .int (nI fe), .int (nI te), .int (nI kk), .ref qt, .ref qx, .ref qy, .int no, .int nt, .ref qo, .ref qz, .ref qi, .ref qv, .int fd])), (qt, .inl (cI, 2, .inl stf)), (qx, .inl (cI, 82, .inl qxf)), (qy, .inl (cI, 82, .inl qyf))]) (QI D (fun (r : Int32) (u : (Nat → Int32) × (Nat → Int32) × (Nat → Int32)) => (r = aBegin na x1) ∧ u = sBeginM stf qxf qyf k x1) (fun (u : (Nat → Int32) × (Nat → Int32) × (Nat → Int32)) => [(m0, .inr (10, [.ref qk, .int (nI d), .int (nI sh), .int (nI low), .int (nI high), .int le, .int mo, .int (nI nb), .ref qp, .ref qr, .ref qc, .ref qm, .ref qb, .int (nI cap), .int kd, .int am, .int wt, .int md, .long z1, .long z2, .long z3, .long z4, .long z5, .int (nI sw), .int (nI np), .ref qf, .ref qs, .int (nI fe), .int (nI te), .int (nI kk), .ref qt, .ref qx, .ref qy, .int no, .int nt, .ref qo, .ref qz, .ref qi, .ref qv, .int fd])), (qt, .inl (cI, 2, .inl u.1)), (qx, .inl (cI, 82, .inl u.2.1)), (qy, .inl (cI, 82, .inl u.2.2))]) (va_A [(m0, .inr (10, [.ref qk, .int (nI d), .int (nI sh), .int (nI low), .int (nI high), .int le, .int mo, .int (nI nb), .ref qp, .ref qr, .ref qc, .ref qm, .ref qb, .int (nI cap), .int kd, .int am, .int wt, .int md, .long z1, .long z2, .long z3, .long z4, .long z5, .int (nI sw), .int (nI np), .ref qf, .ref qs, .int (nI fe), .int (nI te), .int (nI kk), .ref qt, .ref qx, .ref qy, .int no, .int nt, .ref qo, .ref qz, .ref qi, .ref qv, .int fd])), (qt, .inl (cI, 2, .inl stf)), (qx, .inl (cI, 82, .inl qxf)), (qy, .inl (cI, 82, .inl qyf))] sz)) 0 0 (va_A [(m0, .inr (10, [.ref qk, .int (nI d), .int (nI sh), .int (nI low), .int (nI high), .int le, .int mo, .int (nI nb), .ref qp, .ref qr, .ref qc, .ref qm, .ref qb, .int (nI cap), .int kd, .int am, .int wt, .int md, .long z1, .long z2, .long z3, .long z4, .long z5, .int (nI sw), .int (nI np), .ref qf, .ref qs, .int (nI fe), .int (nI te), .int (nI kk), .ref qt, .ref qx, .ref qy, .int no, .int nt, .ref qo, .ref qz, .ref qi, .ref qv, .int fd])), (qt, .inl (cI, 2, .inl stf)), (qx, .inl (cI, 82, .inl qxf)), (qy, .inl (cI, 82, .inl qyf))] sz) := by
  refine Met.ofW (cc := cX10_begin) (maxL := 4) (ret := (some .int)) (by decide) rfl ?_
  intro p e s m args below meth c s₁ B hml hv
  obtain ⟨rfl, hsz, hP, hK, hD0, hN⟩ := hv
  have hx := B.exec
  have hb := B.bytes
  have hr := B.returns
  have hts := atoms_spec (ws := wsX10_begin) B.pre
  have hown : s.vm.findClass RX10 = some m.cls := findClass_of_methodNamed B.named
  have hlocks := B.notSynchronized
  subst hsz
  have iX10 : ∀ w ∈ u_ws RX10 TX10 40, w ∈ wsX10_begin := by decide +kernel
  have hD := hD0.self (sz := s.heap.size)
  generalize hAe : va_A [(m0, .inr (10, [.ref qk, .int (nI d), .int (nI sh), .int (nI low), .int (nI high), .int le, .int mo, .int (nI nb), .ref qp, .ref qr, .ref qc, .ref qm, .ref qb, .int (nI cap), .int kd, .int am, .int wt, .int md, .long z1, .long z2, .long z3, .long z4, .long z5, .int (nI sw), .int (nI np), .ref qf, .ref qs, .int (nI fe), .int (nI te), .int (nI kk), .ref qt, .ref qx, .ref qy, .int no, .int nt, .ref qo, .ref qz, .ref qi, .ref qv, .int fd])), (qt, .inl (cI, 2, .inl stf)), (qx, .inl (cI, 82, .inl qxf)), (qy, .inl (cI, 82, .inl qyf))] s.heap.size = A at hD ⊢
  have hA : ∀ q : Nat, s.heap.size ≤ q → A q := fun q h => by rw [← hAe]; exact Or.inr h
  have hS : va_S A s.heap s.heap [] := va_S.rf
  have hP : va_P D vwCl [(m0, .inr (10, [.ref qk, .int (nI d), .int (nI sh), .int (nI low), .int (nI high), .int le, .int mo, .int (nI nb), .ref qp, .ref qr, .ref qc, .ref qm, .ref qb, .int (nI cap), .int kd, .int am, .int wt, .int md, .long z1, .long z2, .long z3, .long z4, .long z5, .int (nI sw), .int (nI np), .ref qf, .ref qs, .int (nI fe), .int (nI te), .int (nI kk), .ref qt, .ref qx, .ref qy, .int no, .int nt, .ref qo, .ref qz, .ref qi, .ref qv, .int fd])), (qt, .inl (cI, 2, .inl stf)), (qx, .inl (cI, 82, .inl qxf)), (qy, .inl (cI, 82, .inl qyf))] s.heap := hP
  have hl := lv_entry ([.ref m0, .int (nI k), .int x1]) (n := 4) (Nat.le_of_ble_eq_true rfl)
  rw [lg_entry_eq]
  generalize (lg_sl ([.ref m0, .int (nI k), .int x1]) ++ List.replicate (4 - (lg_sl ([.ref m0, .int (nI k), .int x1])).length) Slot.unset).toArray = ls at hl ⊢
  have hl : lv_has ls 4 [(0, .ref m0), (1, .int (nI k)), (2, .int x1)] := hl
  refine lv_iload_n hx hb dX10_begin_0 rfl (lv_at hl 1 rfl) ?_
  refine q_S (tys := TY cI cS cP) (D := D) ⟨hx, hb, hml, hown, hts⟩ [.int (nI k)] [] c_X10_isHole (va_cwS 1 hts gX10_begin_X10_isHole rfl rfl rfl (by decide +kernel) ⟨Nat.le_of_ble_eq_true rfl, Nat.le_of_ble_eq_true rfl⟩) hK hN rfl hl.1 rfl (Nat.le_of_ble_eq_true rfl) dX10_begin_1 ⟨Nat.zero_le _, Nat.zero_le _⟩ (fun r hw => ?_)
  subst hw
  refine lv_if_eq (tgt := 21) hx hb dX10_begin_4 (by decide) (fun c_4 => ?_) (fun c_4 => ?_)
  ·
    have c_4 := bz c_4
    exact absurd (show (0 : Int32) ≤ nI k ∧ nI k ≤ 1 from ⟨nI_pos' (by omega), nI_le (b := 1) (by omega) (by decide)⟩) c_4
  ·
    have c_4 := bnz c_4
    refine lv_iload_n hx hb dX10_begin_7 rfl (lv_at hl 2 rfl) ?_
    refine lv_i2l (v := x1.toInt64) hx hb dX10_begin_8 rfl ?_
    refine lv_ldc2 hx hb hown (hts (.constantLong RX10 200 (-100000)) (by decide +kernel)) dX10_begin_9 ?_
    refine lv_ldc2 hx hb hown (hts (.constantLong RX10 177 (100000)) (by decide +kernel)) dX10_begin_12 ?_
    refine q_S (tys := TY cI cS cP) (D := D) ⟨hx, hb, hml, hown, hts⟩ [.long x1.toInt64, .long ((-100000 : Int32).toInt64), .long ((100000 : Int32).toInt64)] [] c_X10_in (va_cwS 3 hts gX10_begin_X10_in rfl rfl rfl (by decide +kernel) ⟨Nat.le_of_ble_eq_true rfl, Nat.le_of_ble_eq_true rfl⟩) hK hN rfl hl.1 rfl (Nat.le_of_ble_eq_true rfl) dX10_begin_15 ⟨Nat.zero_le _, Nat.zero_le _⟩ (fun r hw => ?_)
    subst hw
    refine lv_if_ne (tgt := 24) hx hb dX10_begin_18 (by decide) (fun c_18 => ?_) (fun c_18 => ?_)
    ·
      have c_18 := bnz c_18
      refine lv_aload_n hx hb dX10_begin_24 rfl (lv_at hl 0 rfl) ?_
      refine va_get (D := D) (ci := 10) (v := .ref qt) (C := RX10) (T := TX10) (N := 40) hx hb hts iX10 hown hK hP 0 rfl rfl 30 (by decide) (hts (.fieldLink RX10 44 "DeepHoleModel" "stations" "[I") (by decide +kernel)) (fun _ h9 => h9) rfl dX10_begin_25 ?_
      refine lv_iload_n hx hb dX10_begin_28 rfl (lv_at hl 1 rfl) ?_
      refine rd_i hx hb hK hP 1 0 rfl rfl (k := k) (by omega) (by decide) dX10_begin_29 ?_
      refine lv_eqi (z := nI na) (hst) ?_
      refine lv_istore_n (lv' := [(3, .int (nI na)), (0, .ref m0), (1, .int (nI k)), (2, .int x1)]) hx hb dX10_begin_30 rfl hl (by decide) rfl (fun ls hl => ?_)
      refine lv_aload_n hx hb dX10_begin_31 rfl (lv_at hl 1 rfl) ?_
      refine va_get (D := D) (ci := 10) (v := .ref qt) (C := RX10) (T := TX10) (N := 40) hx hb hts iX10 hown hK hP 0 rfl rfl 30 (by decide) (hts (.fieldLink RX10 44 "DeepHoleModel" "stations" "[I") (by decide +kernel)) (fun _ h9 => h9) rfl dX10_begin_32 ?_
      refine lv_iload_n hx hb dX10_begin_35 rfl (lv_at hl 2 rfl) ?_
      refine lv_iconst (v := 0) hx hb dX10_begin_36 (by decide) ?_
      refine wr_i hx hb hK hP hD hS 1 0 rfl rfl (k := k) (by omega) (by decide) dX10_begin_37 (fun H locs hP hD hS => ?_)
      have hP : va_P D vwCl [(m0, .inr (10, [.ref qk, .int (nI d), .int (nI sh), .int (nI low), .int (nI high), .int le, .int mo, .int (nI nb), .ref qp, .ref qr, .ref qc, .ref qm, .ref qb, .int (nI cap), .int kd, .int am, .int wt, .int md, .long z1, .long z2, .long z3, .long z4, .long z5, .int (nI sw), .int (nI np), .ref qf, .ref qs, .int (nI fe), .int (nI te), .int (nI kk), .ref qt, .ref qx, .ref qy, .int no, .int nt, .ref qo, .ref qz, .ref qi, .ref qv, .int fd])), (qt, .inl (cI, 2, .inl (upd stf k 0))), (qx, .inl (cI, 82, .inl qxf)), (qy, .inl (cI, 82, .inl qyf))] H := hP
      have hD : va_D A [(m0, .inr (10, [.ref qk, .int (nI d), .int (nI sh), .int (nI low), .int (nI high), .int le, .int mo, .int (nI nb), .ref qp, .ref qr, .ref qc, .ref qm, .ref qb, .int (nI cap), .int kd, .int am, .int wt, .int md, .long z1, .long z2, .long z3, .long z4, .long z5, .int (nI sw), .int (nI np), .ref qf, .ref qs, .int (nI fe), .int (nI te), .int (nI kk), .ref qt, .ref qx, .ref qy, .int no, .int nt, .ref qo, .ref qz, .ref qi, .ref qv, .int fd])), (qt, .inl (cI, 2, .inl (upd stf k 0))), (qx, .inl (cI, 82, .inl qxf)), (qy, .inl (cI, 82, .inl qyf))] := hD
      refine lv_aload_n hx hb dX10_begin_38 rfl (lv_at hl 1 rfl) ?_
      refine va_get (D := D) (ci := 10) (v := .ref qx) (C := RX10) (T := TX10) (N := 40) hx hb hts iX10 hown hK hP 0 rfl rfl 31 (by decide) (hts (.fieldLink RX10 47 "DeepHoleModel" "xs" "[I") (by decide +kernel)) (fun _ h9 => h9) rfl dX10_begin_39 ?_
      refine lv_bipush (v := 41) hx hb dX10_begin_42 (by decide) ?_
      refine lv_iload_n hx hb dX10_begin_44 rfl (lv_at hl 2 rfl) ?_
      refine lv_imul hx hb dX10_begin_45 ?_
      refine lv_eqi (z := nI (41 * k)) (pk_mul _ _) ?_
      refine lv_iload_n hx hb dX10_begin_46 rfl (lv_at hl 3 rfl) ?_
      refine wr_i hx hb hK hP hD hS 2 0 rfl rfl (k := 41 * k) (by omega) (by decide) dX10_begin_47 (fun H locs hP hD hS => ?_)
      have hP : va_P D vwCl [(m0, .inr (10, [.ref qk, .int (nI d), .int (nI sh), .int (nI low), .int (nI high), .int le, .int mo, .int (nI nb), .ref qp, .ref qr, .ref qc, .ref qm, .ref qb, .int (nI cap), .int kd, .int am, .int wt, .int md, .long z1, .long z2, .long z3, .long z4, .long z5, .int (nI sw), .int (nI np), .ref qf, .ref qs, .int (nI fe), .int (nI te), .int (nI kk), .ref qt, .ref qx, .ref qy, .int no, .int nt, .ref qo, .ref qz, .ref qi, .ref qv, .int fd])), (qt, .inl (cI, 2, .inl (upd stf k 0))), (qx, .inl (cI, 82, .inl (upd qxf (41 * k) x1))), (qy, .inl (cI, 82, .inl qyf))] H := hP
      have hD : va_D A [(m0, .inr (10, [.ref qk, .int (nI d), .int (nI sh), .int (nI low), .int (nI high), .int le, .int mo, .int (nI nb), .ref qp, .ref qr, .ref qc, .ref qm, .ref qb, .int (nI cap), .int kd, .int am, .int wt, .int md, .long z1, .long z2, .long z3, .long z4, .long z5, .int (nI sw), .int (nI np), .ref qf, .ref qs, .int (nI fe), .int (nI te), .int (nI kk), .ref qt, .ref qx, .ref qy, .int no, .int nt, .ref qo, .ref qz, .ref qi, .ref qv, .int fd])), (qt, .inl (cI, 2, .inl (upd stf k 0))), (qx, .inl (cI, 82, .inl (upd qxf (41 * k) x1))), (qy, .inl (cI, 82, .inl qyf))] := hD
      refine lv_aload_n hx hb dX10_begin_48 rfl (lv_at hl 1 rfl) ?_
      refine va_get (D := D) (ci := 10) (v := .ref qy) (C := RX10) (T := TX10) (N := 40) hx hb hts iX10 hown hK hP 0 rfl rfl 32 (by decide) (hts (.fieldLink RX10 50 "DeepHoleModel" "ys" "[I") (by decide +kernel)) (fun _ h9 => h9) rfl dX10_begin_49 ?_
      refine lv_bipush (v := 41) hx hb dX10_begin_52 (by decide) ?_
      refine lv_iload_n hx hb dX10_begin_54 rfl (lv_at hl 2 rfl) ?_
      refine lv_imul hx hb dX10_begin_55 ?_
      refine lv_eqi (z := nI (41 * k)) (pk_mul _ _) ?_
      refine lv_iconst (v := 0) hx hb dX10_begin_56 (by decide) ?_
      refine wr_i hx hb hK hP hD hS 3 0 rfl rfl (k := 41 * k) (by omega) (by decide) dX10_begin_57 (fun H locs hP hD hS => ?_)
      have hP : va_P D vwCl [(m0, .inr (10, [.ref qk, .int (nI d), .int (nI sh), .int (nI low), .int (nI high), .int le, .int mo, .int (nI nb), .ref qp, .ref qr, .ref qc, .ref qm, .ref qb, .int (nI cap), .int kd, .int am, .int wt, .int md, .long z1, .long z2, .long z3, .long z4, .long z5, .int (nI sw), .int (nI np), .ref qf, .ref qs, .int (nI fe), .int (nI te), .int (nI kk), .ref qt, .ref qx, .ref qy, .int no, .int nt, .ref qo, .ref qz, .ref qi, .ref qv, .int fd])), (qt, .inl (cI, 2, .inl (upd stf k 0))), (qx, .inl (cI, 82, .inl (upd qxf (41 * k) x1))), (qy, .inl (cI, 82, .inl (upd qyf (41 * k) 0)))] H := hP
      have hD : va_D A [(m0, .inr (10, [.ref qk, .int (nI d), .int (nI sh), .int (nI low), .int (nI high), .int le, .int mo, .int (nI nb), .ref qp, .ref qr, .ref qc, .ref qm, .ref qb, .int (nI cap), .int kd, .int am, .int wt, .int md, .long z1, .long z2, .long z3, .long z4, .long z5, .int (nI sw), .int (nI np), .ref qf, .ref qs, .int (nI fe), .int (nI te), .int (nI kk), .ref qt, .ref qx, .ref qy, .int no, .int nt, .ref qo, .ref qz, .ref qi, .ref qv, .int fd])), (qt, .inl (cI, 2, .inl (upd stf k 0))), (qx, .inl (cI, 82, .inl (upd qxf (41 * k) x1))), (qy, .inl (cI, 82, .inl (upd qyf (41 * k) 0)))] := hD
      refine lv_iload_n hx hb dX10_begin_58 rfl (lv_at hl 0 rfl) ?_
      have hP9 := hP.sub (ws' := [(m0, .inr (10, [.ref qk, .int (nI d), .int (nI sh), .int (nI low), .int (nI high), .int le, .int mo, .int (nI nb), .ref qp, .ref qr, .ref qc, .ref qm, .ref qb, .int (nI cap), .int kd, .int am, .int wt, .int md, .long z1, .long z2, .long z3, .long z4, .long z5, .int (nI sw), .int (nI np), .ref qf, .ref qs, .int (nI fe), .int (nI te), .int (nI kk), .ref qt, .ref qx, .ref qy, .int no, .int nt, .ref qo, .ref qz, .ref qi, .ref qv, .int fd])), (qt, .inl (cI, 2, .inl (upd stf k 0))), (qx, .inl (cI, 82, .inl (upd qxf (41 * k) x1))), (qy, .inl (cI, 82, .inl (upd qyf (41 * k) 0)))]) [0, 1, 2, 3] rfl
      have hD9 := hD.sub (ws' := [(m0, .inr (10, [.ref qk, .int (nI d), .int (nI sh), .int (nI low), .int (nI high), .int le, .int mo, .int (nI nb), .ref qp, .ref qr, .ref qc, .ref qm, .ref qb, .int (nI cap), .int kd, .int am, .int wt, .int md, .long z1, .long z2, .long z3, .long z4, .long z5, .int (nI sw), .int (nI np), .ref qf, .ref qs, .int (nI fe), .int (nI te), .int (nI kk), .ref qt, .ref qx, .ref qy, .int no, .int nt, .ref qo, .ref qz, .ref qi, .ref qv, .int fd])), (qt, .inl (cI, 2, .inl (upd stf k 0))), (qx, .inl (cI, 82, .inl (upd qxf (41 * k) x1))), (qy, .inl (cI, 82, .inl (upd qyf (41 * k) 0)))]) [0, 1, 2, 3] (by decide) rfl
      exact W.iret (v := nI na) hx hb hr (fun t ht hW => ⟨⟨_, (upd stf k 0, upd qxf (41 * k) x1, upd qyf (41 * k) 0), rfl, (by unfold aBegin sBeginM; rw [if_pos c_18, if_pos c_18]; exact ⟨rfl, rfl⟩), by rw [ht]; exact hP9, hD9⟩, hS.F ht⟩) hS.2.2 dX10_begin_59
    ·
      have c_18 := bz c_18
      refine lv_bipush (v := (-2)) hx hb dX10_begin_21 (by decide) ?_
      have hP9 := hP.sub (ws' := [(m0, .inr (10, [.ref qk, .int (nI d), .int (nI sh), .int (nI low), .int (nI high), .int le, .int mo, .int (nI nb), .ref qp, .ref qr, .ref qc, .ref qm, .ref qb, .int (nI cap), .int kd, .int am, .int wt, .int md, .long z1, .long z2, .long z3, .long z4, .long z5, .int (nI sw), .int (nI np), .ref qf, .ref qs, .int (nI fe), .int (nI te), .int (nI kk), .ref qt, .ref qx, .ref qy, .int no, .int nt, .ref qo, .ref qz, .ref qi, .ref qv, .int fd])), (qt, .inl (cI, 2, .inl stf)), (qx, .inl (cI, 82, .inl qxf)), (qy, .inl (cI, 82, .inl qyf))]) [0, 1, 2, 3] rfl
      have hD9 := hD.sub (ws' := [(m0, .inr (10, [.ref qk, .int (nI d), .int (nI sh), .int (nI low), .int (nI high), .int le, .int mo, .int (nI nb), .ref qp, .ref qr, .ref qc, .ref qm, .ref qb, .int (nI cap), .int kd, .int am, .int wt, .int md, .long z1, .long z2, .long z3, .long z4, .long z5, .int (nI sw), .int (nI np), .ref qf, .ref qs, .int (nI fe), .int (nI te), .int (nI kk), .ref qt, .ref qx, .ref qy, .int no, .int nt, .ref qo, .ref qz, .ref qi, .ref qv, .int fd])), (qt, .inl (cI, 2, .inl stf)), (qx, .inl (cI, 82, .inl qxf)), (qy, .inl (cI, 82, .inl qyf))]) [0, 1, 2, 3] (by decide) rfl
      exact W.iret (v := (-2)) hx hb hr (fun t ht hW => ⟨⟨_, (stf, qxf, qyf), rfl, (by unfold aBegin sBeginM; rw [if_neg c_18, if_neg c_18]; exact ⟨rfl, rfl⟩), by rw [ht]; exact hP9, hD9⟩, hS.F ht⟩) hS.2.2 dX10_begin_23

set_option maxHeartbeats 4000000 in
set_option maxRecDepth 100000 in
theorem c_X10_begin_b {l : Launch} {D : va_G} {cI cS cP : ClassId} {sz : Nat} {m0 qk qp qr qc qm qb qf qs qt qx qy qo qz qi qv : Nat} {d sh low high nb cap sw np fe te kk : Nat} {le mo kd am wt md no nt fd : Int32} {z1 z2 z3 z4 z5 : Int64} {h1 : Int32} {x1 : Int32} (hbad : ¬ (0 ≤ h1 ∧ h1 ≤ 1)) : Met l yX10_begin wsX10_begin ({ frames := 2, cells := 0, slots := 0, locals := 45 }) (PC D (TY cI cS cP) [.ref m0, .int h1, .int x1] sz [(m0, .inr (10, [.ref qk, .int (nI d), .int (nI sh), .int (nI low), .int (nI high), .int le, .int mo, .int (nI nb), .ref qp, .ref qr, .ref qc, .ref qm, .ref qb, .int (nI cap), .int kd, .int am, .int wt, .int md, .long z1, .long z2, .long z3, .long z4, .long z5, .int (nI sw), .int (nI np), .ref qf, .ref qs, .int (nI fe), .int (nI te), .int (nI kk), .ref qt, .ref qx, .ref qy, .int no, .int nt, .ref qo, .ref qz, .ref qi, .ref qv, .int fd]))]) (vp_Si (fun r => r = -2)) 0 0 (fun _ => False) := by
  refine Met.ofW (cc := cX10_begin) (maxL := 4) (ret := (some .int)) (by decide) rfl ?_
  intro p e s m args below meth c s₁ B hml hv
  obtain ⟨rfl, hsz, hP, hK, hD0, hN⟩ := hv
  have hx := B.exec
  have hb := B.bytes
  have hr := B.returns
  have hts := atoms_spec (ws := wsX10_begin) B.pre
  have hown : s.vm.findClass RX10 = some m.cls := findClass_of_methodNamed B.named
  have hlocks := B.notSynchronized
  subst hsz
  have hD := hD0
  have hP : va_P D vwCl [(m0, .inr (10, [.ref qk, .int (nI d), .int (nI sh), .int (nI low), .int (nI high), .int le, .int mo, .int (nI nb), .ref qp, .ref qr, .ref qc, .ref qm, .ref qb, .int (nI cap), .int kd, .int am, .int wt, .int md, .long z1, .long z2, .long z3, .long z4, .long z5, .int (nI sw), .int (nI np), .ref qf, .ref qs, .int (nI fe), .int (nI te), .int (nI kk), .ref qt, .ref qx, .ref qy, .int no, .int nt, .ref qo, .ref qz, .ref qi, .ref qv, .int fd]))] s.heap := hP
  have hl := lv_entry ([.ref m0, .int h1, .int x1]) (n := 4) (Nat.le_of_ble_eq_true rfl)
  rw [lg_entry_eq]
  generalize (lg_sl ([.ref m0, .int h1, .int x1]) ++ List.replicate (4 - (lg_sl ([.ref m0, .int h1, .int x1])).length) Slot.unset).toArray = ls at hl ⊢
  have hl : lv_has ls 4 [(0, .ref m0), (1, .int h1), (2, .int x1)] := hl
  refine lv_iload_n hx hb dX10_begin_0 rfl (lv_at hl 1 rfl) ?_
  refine q_S (tys := TY cI cS cP) (D := D) ⟨hx, hb, hml, hown, hts⟩ [.int h1] [] c_X10_isHole (va_cwS 1 hts gX10_begin_X10_isHole rfl rfl rfl (by decide +kernel) ⟨Nat.le_of_ble_eq_true rfl, Nat.le_of_ble_eq_true rfl⟩) hK hN rfl hl.1 rfl (Nat.le_of_ble_eq_true rfl) dX10_begin_1 ⟨Nat.zero_le _, Nat.zero_le _⟩ (fun r hw => ?_)
  subst hw
  refine lv_if_eq (tgt := 21) hx hb dX10_begin_4 (by decide) (fun c_4 => ?_) (fun c_4 => ?_)
  ·
    have c_4 := bz c_4
    refine lv_bipush (v := (-2)) hx hb dX10_begin_21 (by decide) ?_
    exact W.iret (v := (-2)) hx hb hr (fun t ht hW => ⟨_, rfl, (by rfl), ht⟩) (fun _ h => absurd h List.not_mem_nil) dX10_begin_23
  ·
    have c_4 := bnz c_4
    exact absurd c_4 hbad

set_option maxHeartbeats 4000000 in
set_option maxRecDepth 100000 in
theorem c_X10_station {l : Launch} {D : va_G} {cI cS cP : ClassId} {sz : Nat} {m0 qk qp qr qc qm qb qf qs qt qx qy qo qz qi qv : Nat} {d sh low high nb cap sw np fe te kk : Nat} {le mo kd am wt md no nt fd : Int32} {z1 z2 z3 z4 z5 : Int64} {stf qxf qyf : Nat → Int32} {k na : Nat} {csf : Nat → Int32} {t1 sd : Int32} (hk : k < 2) (hst : stf k = nI na) (hna : na ≤ 40) (hcs : ∀ j, j ≤ 9 → csf j = dwn j) : Met l yX10_station wsX10_station ({ frames := 2, cells := 0, slots := 0, locals := 45 }) (PC D (TY cI cS cP) [.ref m0, .int (nI k), .int t1, .int sd] sz [(m0, .inr (10, [.ref qk, .int (nI d), .int (nI sh), .int (nI low), .int (nI high), .int le, .int mo, .int (nI nb), .ref qp, .ref qr, .ref qc, .ref qm, .ref qb, .int (nI cap), .int kd, .int am, .int wt, .int md, .long z1, .long z2, .long z3, .long z4, .long z5, .int (nI sw), .int (nI np), .ref qf, .ref qs, .int (nI fe), .int (nI te), .int (nI kk), .ref qt, .ref qx, .ref qy, .int no, .int nt, .ref qo, .ref qz, .ref qi, .ref qv, .int fd])), (qt, .inl (cI, 2, .inl stf)), (qx, .inl (cI, 82, .inl qxf)), (qy, .inl (cI, 82, .inl qyf)), (qk, .inl (cI, 10, .inl csf))]) (QI D (fun (r : Int32) (u : (Nat → Int32) × (Nat → Int32) × (Nat → Int32)) => (r = aStat na t1 sd) ∧ u = sStatM stf qxf qyf k na t1 sd) (fun (u : (Nat → Int32) × (Nat → Int32) × (Nat → Int32)) => [(m0, .inr (10, [.ref qk, .int (nI d), .int (nI sh), .int (nI low), .int (nI high), .int le, .int mo, .int (nI nb), .ref qp, .ref qr, .ref qc, .ref qm, .ref qb, .int (nI cap), .int kd, .int am, .int wt, .int md, .long z1, .long z2, .long z3, .long z4, .long z5, .int (nI sw), .int (nI np), .ref qf, .ref qs, .int (nI fe), .int (nI te), .int (nI kk), .ref qt, .ref qx, .ref qy, .int no, .int nt, .ref qo, .ref qz, .ref qi, .ref qv, .int fd])), (qt, .inl (cI, 2, .inl u.1)), (qx, .inl (cI, 82, .inl u.2.1)), (qy, .inl (cI, 82, .inl u.2.2)), (qk, .inl (cI, 10, .inl csf))]) (va_A [(m0, .inr (10, [.ref qk, .int (nI d), .int (nI sh), .int (nI low), .int (nI high), .int le, .int mo, .int (nI nb), .ref qp, .ref qr, .ref qc, .ref qm, .ref qb, .int (nI cap), .int kd, .int am, .int wt, .int md, .long z1, .long z2, .long z3, .long z4, .long z5, .int (nI sw), .int (nI np), .ref qf, .ref qs, .int (nI fe), .int (nI te), .int (nI kk), .ref qt, .ref qx, .ref qy, .int no, .int nt, .ref qo, .ref qz, .ref qi, .ref qv, .int fd])), (qt, .inl (cI, 2, .inl stf)), (qx, .inl (cI, 82, .inl qxf)), (qy, .inl (cI, 82, .inl qyf)), (qk, .inl (cI, 10, .inl csf))] sz)) 0 0 (va_A [(m0, .inr (10, [.ref qk, .int (nI d), .int (nI sh), .int (nI low), .int (nI high), .int le, .int mo, .int (nI nb), .ref qp, .ref qr, .ref qc, .ref qm, .ref qb, .int (nI cap), .int kd, .int am, .int wt, .int md, .long z1, .long z2, .long z3, .long z4, .long z5, .int (nI sw), .int (nI np), .ref qf, .ref qs, .int (nI fe), .int (nI te), .int (nI kk), .ref qt, .ref qx, .ref qy, .int no, .int nt, .ref qo, .ref qz, .ref qi, .ref qv, .int fd])), (qt, .inl (cI, 2, .inl stf)), (qx, .inl (cI, 82, .inl qxf)), (qy, .inl (cI, 82, .inl qyf)), (qk, .inl (cI, 10, .inl csf))] sz) := by
  refine Met.ofW (cc := cX10_station) (maxL := 5) (ret := (some .int)) (by decide) rfl ?_
  intro p e s m args below meth c s₁ B hml hv
  obtain ⟨rfl, hsz, hP, hK, hD0, hN⟩ := hv
  have hx := B.exec
  have hb := B.bytes
  have hr := B.returns
  have hts := atoms_spec (ws := wsX10_station) B.pre
  have hown : s.vm.findClass RX10 = some m.cls := findClass_of_methodNamed B.named
  have hlocks := B.notSynchronized
  subst hsz
  have iX10 : ∀ w ∈ u_ws RX10 TX10 40, w ∈ wsX10_station := by decide +kernel
  have hD := hD0.self (sz := s.heap.size)
  generalize hAe : va_A [(m0, .inr (10, [.ref qk, .int (nI d), .int (nI sh), .int (nI low), .int (nI high), .int le, .int mo, .int (nI nb), .ref qp, .ref qr, .ref qc, .ref qm, .ref qb, .int (nI cap), .int kd, .int am, .int wt, .int md, .long z1, .long z2, .long z3, .long z4, .long z5, .int (nI sw), .int (nI np), .ref qf, .ref qs, .int (nI fe), .int (nI te), .int (nI kk), .ref qt, .ref qx, .ref qy, .int no, .int nt, .ref qo, .ref qz, .ref qi, .ref qv, .int fd])), (qt, .inl (cI, 2, .inl stf)), (qx, .inl (cI, 82, .inl qxf)), (qy, .inl (cI, 82, .inl qyf)), (qk, .inl (cI, 10, .inl csf))] s.heap.size = A at hD ⊢
  have hA : ∀ q : Nat, s.heap.size ≤ q → A q := fun q h => by rw [← hAe]; exact Or.inr h
  have hS : va_S A s.heap s.heap [] := va_S.rf
  have hP : va_P D vwCl [(m0, .inr (10, [.ref qk, .int (nI d), .int (nI sh), .int (nI low), .int (nI high), .int le, .int mo, .int (nI nb), .ref qp, .ref qr, .ref qc, .ref qm, .ref qb, .int (nI cap), .int kd, .int am, .int wt, .int md, .long z1, .long z2, .long z3, .long z4, .long z5, .int (nI sw), .int (nI np), .ref qf, .ref qs, .int (nI fe), .int (nI te), .int (nI kk), .ref qt, .ref qx, .ref qy, .int no, .int nt, .ref qo, .ref qz, .ref qi, .ref qv, .int fd])), (qt, .inl (cI, 2, .inl stf)), (qx, .inl (cI, 82, .inl qxf)), (qy, .inl (cI, 82, .inl qyf)), (qk, .inl (cI, 10, .inl csf))] s.heap := hP
  have hl := lv_entry ([.ref m0, .int (nI k), .int t1, .int sd]) (n := 5) (Nat.le_of_ble_eq_true rfl)
  rw [lg_entry_eq]
  generalize (lg_sl ([.ref m0, .int (nI k), .int t1, .int sd]) ++ List.replicate (5 - (lg_sl ([.ref m0, .int (nI k), .int t1, .int sd])).length) Slot.unset).toArray = ls at hl ⊢
  have hl : lv_has ls 5 [(0, .ref m0), (1, .int (nI k)), (2, .int t1), (3, .int sd)] := hl
  refine lv_iload_n hx hb dX10_station_0 rfl (lv_at hl 1 rfl) ?_
  refine q_S (tys := TY cI cS cP) (D := D) ⟨hx, hb, hml, hown, hts⟩ [.int (nI k)] [] c_X10_isHole (va_cwS 1 hts gX10_station_X10_isHole rfl rfl rfl (by decide +kernel) ⟨Nat.le_of_ble_eq_true rfl, Nat.le_of_ble_eq_true rfl⟩) hK hN rfl hl.1 rfl (Nat.le_of_ble_eq_true rfl) dX10_station_1 ⟨Nat.zero_le _, Nat.zero_le _⟩ (fun r hw => ?_)
  subst hw
  refine lv_if_eq (tgt := 29) hx hb dX10_station_4 (by decide) (fun c_4 => ?_) (fun c_4 => ?_)
  ·
    have c_4 := bz c_4
    exact absurd (show (0 : Int32) ≤ nI k ∧ nI k ≤ 1 from ⟨nI_pos' (by omega), nI_le (b := 1) (by omega) (by decide)⟩) c_4
  ·
    have c_4 := bnz c_4
    refine lv_iload_n hx hb dX10_station_7 rfl (lv_at hl 2 rfl) ?_
    refine lv_i2l (v := t1.toInt64) hx hb dX10_station_8 rfl ?_
    refine lv_lconst (v := 0) hx hb dX10_station_9 (by decide) ?_
    refine lv_ldc2 hx hb hown (hts (.constantLong RX10 186 (9)) (by decide +kernel)) dX10_station_10 ?_
    refine q_S (tys := TY cI cS cP) (D := D) ⟨hx, hb, hml, hown, hts⟩ [.long t1.toInt64, .long ((0 : Int32).toInt64), .long ((9 : Int32).toInt64)] [] c_X10_in (va_cwS 3 hts gX10_station_X10_in rfl rfl rfl (by decide +kernel) ⟨Nat.le_of_ble_eq_true rfl, Nat.le_of_ble_eq_true rfl⟩) hK hN rfl hl.1 rfl (Nat.le_of_ble_eq_true rfl) dX10_station_13 ⟨Nat.zero_le _, Nat.zero_le _⟩ (fun r hw => ?_)
    subst hw
    refine lv_if_eq (tgt := 29) hx hb dX10_station_16 (by decide) (fun c_16 => ?_) (fun c_16 => ?_)
    ·
      have c_16 := bz c_16
      refine lv_bipush (v := (-2)) hx hb dX10_station_29 (by decide) ?_
      have hP9 := hP.sub (ws' := [(m0, .inr (10, [.ref qk, .int (nI d), .int (nI sh), .int (nI low), .int (nI high), .int le, .int mo, .int (nI nb), .ref qp, .ref qr, .ref qc, .ref qm, .ref qb, .int (nI cap), .int kd, .int am, .int wt, .int md, .long z1, .long z2, .long z3, .long z4, .long z5, .int (nI sw), .int (nI np), .ref qf, .ref qs, .int (nI fe), .int (nI te), .int (nI kk), .ref qt, .ref qx, .ref qy, .int no, .int nt, .ref qo, .ref qz, .ref qi, .ref qv, .int fd])), (qt, .inl (cI, 2, .inl stf)), (qx, .inl (cI, 82, .inl qxf)), (qy, .inl (cI, 82, .inl qyf)), (qk, .inl (cI, 10, .inl csf))]) [0, 1, 2, 3, 4] rfl
      have hD9 := hD.sub (ws' := [(m0, .inr (10, [.ref qk, .int (nI d), .int (nI sh), .int (nI low), .int (nI high), .int le, .int mo, .int (nI nb), .ref qp, .ref qr, .ref qc, .ref qm, .ref qb, .int (nI cap), .int kd, .int am, .int wt, .int md, .long z1, .long z2, .long z3, .long z4, .long z5, .int (nI sw), .int (nI np), .ref qf, .ref qs, .int (nI fe), .int (nI te), .int (nI kk), .ref qt, .ref qx, .ref qy, .int no, .int nt, .ref qo, .ref qz, .ref qi, .ref qv, .int fd])), (qt, .inl (cI, 2, .inl stf)), (qx, .inl (cI, 82, .inl qxf)), (qy, .inl (cI, 82, .inl qyf)), (qk, .inl (cI, 10, .inl csf))]) [0, 1, 2, 3, 4] (by decide) rfl
      exact W.iret (v := (-2)) hx hb hr (fun t ht hW => ⟨⟨_, (stf, qxf, qyf), rfl, (by unfold aStat sStatM; first | rw [if_neg (fun h => c_16 h.1), if_neg (fun h => c_16 h.1.1)]; exact ⟨rfl, rfl⟩ | rw [if_neg (fun h => h.2.elim c_21 c_26), if_neg (fun h => h.1.2.elim c_21 c_26)]; exact ⟨rfl, rfl⟩), by rw [ht]; exact hP9, hD9⟩, hS.F ht⟩) hS.2.2 dX10_station_31
    ·
      have c_16 := bnz c_16
      refine lv_iload_n hx hb dX10_station_19 rfl (lv_at hl 3 rfl) ?_
      refine lv_iconst (v := (-1)) hx hb dX10_station_20 (by decide) ?_
      refine lv_icmp_eq (tgt := 32) hx hb dX10_station_21 (by decide) (fun c_21 => ?_) (fun c_21 => ?_)
      ·
        obtain ⟨tn, htn, rfl⟩ := nat_of (hi := 9) (n := 9) (by decide) c_16
        refine lv_aload_n hx hb dX10_station_32 rfl (lv_at hl 0 rfl) ?_
        refine va_get (D := D) (ci := 10) (v := .ref qt) (C := RX10) (T := TX10) (N := 40) hx hb hts iX10 hown hK hP 0 rfl rfl 30 (by decide) (hts (.fieldLink RX10 44 "DeepHoleModel" "stations" "[I") (by decide +kernel)) (fun _ h9 => h9) rfl dX10_station_33 ?_
        refine lv_iload_n hx hb dX10_station_36 rfl (lv_at hl 1 rfl) ?_
        refine rd_i hx hb hK hP 1 0 rfl rfl (k := k) (by omega) (by decide) dX10_station_37 ?_
        refine lv_eqi (z := nI na) (hst) ?_
        refine lv_bipush (v := 40) hx hb dX10_station_38 (by decide) ?_
        refine lv_icmp_ne (tgt := 46) hx hb dX10_station_40 (by decide) (fun c_40 => ?_) (fun c_40 => ?_)
        ·
          have c_40 := n_ne (a := na) (b := 40) c_40 (by omega) (by omega)
          refine lv_bipush (v := 41) hx hb dX10_station_46 (by decide) ?_
          refine lv_iload_n hx hb dX10_station_48 rfl (lv_at hl 1 rfl) ?_
          refine lv_imul hx hb dX10_station_49 ?_
          refine lv_eqi (z := nI (41 * k)) (pk_mul _ _) ?_
          refine lv_aload_n hx hb dX10_station_50 rfl (lv_at hl 0 rfl) ?_
          refine va_get (D := D) (ci := 10) (v := .ref qt) (C := RX10) (T := TX10) (N := 40) hx hb hts iX10 hown hK hP 0 rfl rfl 30 (by decide) (hts (.fieldLink RX10 44 "DeepHoleModel" "stations" "[I") (by decide +kernel)) (fun _ h9 => h9) rfl dX10_station_51 ?_
          refine lv_iload_n hx hb dX10_station_54 rfl (lv_at hl 1 rfl) ?_
          refine rd_i hx hb hK hP 1 0 rfl rfl (k := k) (by omega) (by decide) dX10_station_55 ?_
          refine lv_eqi (z := nI na) (hst) ?_
          refine lv_iadd hx hb dX10_station_56 ?_
          refine lv_eqi (z := nI ((41 * k) + na)) (nI_add _ _) ?_
          refine lv_istore (lv' := [(4, .int (nI ((41 * k) + na))), (0, .ref m0), (1, .int (nI k)), (2, .int (nI tn)), (3, .int sd)]) hx hb dX10_station_57 hl (by decide) rfl (fun ls hl => ?_)
          refine lv_aload_n hx hb dX10_station_59 rfl (lv_at hl 1 rfl) ?_
          refine va_get (D := D) (ci := 10) (v := .ref qx) (C := RX10) (T := TX10) (N := 40) hx hb hts iX10 hown hK hP 0 rfl rfl 31 (by decide) (hts (.fieldLink RX10 47 "DeepHoleModel" "xs" "[I") (by decide +kernel)) (fun _ h9 => h9) rfl dX10_station_60 ?_
          refine lv_iload hx hb dX10_station_63 (lv_at hl 0 rfl) ?_
          refine lv_iconst (v := 1) hx hb dX10_station_65 (by decide) ?_
          refine lv_iadd hx hb dX10_station_66 ?_
          refine lv_eqi (z := nI (((41 * k) + na) + 1)) (nI_add _ _) ?_
          refine lv_aload_n hx hb dX10_station_67 rfl (lv_at hl 1 rfl) ?_
          refine va_get (D := D) (ci := 10) (v := .ref qx) (C := RX10) (T := TX10) (N := 40) hx hb hts iX10 hown hK hP 0 rfl rfl 31 (by decide) (hts (.fieldLink RX10 47 "DeepHoleModel" "xs" "[I") (by decide +kernel)) (fun _ h9 => h9) rfl dX10_station_68 ?_
          refine lv_iload hx hb dX10_station_71 (lv_at hl 0 rfl) ?_
          refine rd_i hx hb hK hP 2 0 rfl rfl (k := (41 * k) + na) (by omega) (by decide) dX10_station_73 ?_
          refine lv_iload_n hx hb dX10_station_74 rfl (lv_at hl 4 rfl) ?_
          refine lv_aload_n hx hb dX10_station_75 rfl (lv_at hl 1 rfl) ?_
          refine va_get (D := D) (ci := 10) (v := .ref qk) (C := RX10) (T := TX10) (N := 40) hx hb hts iX10 hown hK hP 0 rfl rfl 0 (by decide) (hts (.fieldLink RX10 7 "DeepHoleModel" "cs" "[I") (by decide +kernel)) (fun _ h9 => h9) rfl dX10_station_76 ?_
          refine lv_bipush (v := 9) hx hb dX10_station_79 (by decide) ?_
          refine lv_iload_n hx hb dX10_station_81 rfl (lv_at hl 3 rfl) ?_
          refine lv_isub hx hb dX10_station_82 ?_
          refine lv_eqi (z := nI (9 - tn)) (pk_sub (a := 9) (b := tn) (by omega)) ?_
          refine rd_i hx hb hK hP 4 0 rfl rfl (k := 9 - tn) (by omega) (by decide) dX10_station_83 ?_
          refine lv_eqi (z := asd tn) ((hcs (9 - tn) (by omega)).trans (asd_dwn tn (by omega))) ?_
          refine lv_imul hx hb dX10_station_84 ?_
          refine lv_iadd hx hb dX10_station_85 ?_
          refine wr_i hx hb hK hP hD hS 2 0 rfl rfl (k := ((41 * k) + na) + 1) (by omega) (by decide) dX10_station_86 (fun H locs hP hD hS => ?_)
          have hP : va_P D vwCl [(m0, .inr (10, [.ref qk, .int (nI d), .int (nI sh), .int (nI low), .int (nI high), .int le, .int mo, .int (nI nb), .ref qp, .ref qr, .ref qc, .ref qm, .ref qb, .int (nI cap), .int kd, .int am, .int wt, .int md, .long z1, .long z2, .long z3, .long z4, .long z5, .int (nI sw), .int (nI np), .ref qf, .ref qs, .int (nI fe), .int (nI te), .int (nI kk), .ref qt, .ref qx, .ref qy, .int no, .int nt, .ref qo, .ref qz, .ref qi, .ref qv, .int fd])), (qt, .inl (cI, 2, .inl stf)), (qx, .inl (cI, 82, .inl (upd qxf (((41 * k) + na) + 1) ((qxf ((41 * k) + na)) + (sd * (asd tn)))))), (qy, .inl (cI, 82, .inl qyf)), (qk, .inl (cI, 10, .inl csf))] H := hP
          have hD : va_D A [(m0, .inr (10, [.ref qk, .int (nI d), .int (nI sh), .int (nI low), .int (nI high), .int le, .int mo, .int (nI nb), .ref qp, .ref qr, .ref qc, .ref qm, .ref qb, .int (nI cap), .int kd, .int am, .int wt, .int md, .long z1, .long z2, .long z3, .long z4, .long z5, .int (nI sw), .int (nI np), .ref qf, .ref qs, .int (nI fe), .int (nI te), .int (nI kk), .ref qt, .ref qx, .ref qy, .int no, .int nt, .ref qo, .ref qz, .ref qi, .ref qv, .int fd])), (qt, .inl (cI, 2, .inl stf)), (qx, .inl (cI, 82, .inl (upd qxf (((41 * k) + na) + 1) ((qxf ((41 * k) + na)) + (sd * (asd tn)))))), (qy, .inl (cI, 82, .inl qyf)), (qk, .inl (cI, 10, .inl csf))] := hD
          refine lv_aload_n hx hb dX10_station_87 rfl (lv_at hl 1 rfl) ?_
          refine va_get (D := D) (ci := 10) (v := .ref qy) (C := RX10) (T := TX10) (N := 40) hx hb hts iX10 hown hK hP 0 rfl rfl 32 (by decide) (hts (.fieldLink RX10 50 "DeepHoleModel" "ys" "[I") (by decide +kernel)) (fun _ h9 => h9) rfl dX10_station_88 ?_
          refine lv_iload hx hb dX10_station_91 (lv_at hl 0 rfl) ?_
          refine lv_iconst (v := 1) hx hb dX10_station_93 (by decide) ?_
          refine lv_iadd hx hb dX10_station_94 ?_
          refine lv_eqi (z := nI (((41 * k) + na) + 1)) (nI_add _ _) ?_
          refine lv_aload_n hx hb dX10_station_95 rfl (lv_at hl 1 rfl) ?_
          refine va_get (D := D) (ci := 10) (v := .ref qy) (C := RX10) (T := TX10) (N := 40) hx hb hts iX10 hown hK hP 0 rfl rfl 32 (by decide) (hts (.fieldLink RX10 50 "DeepHoleModel" "ys" "[I") (by decide +kernel)) (fun _ h9 => h9) rfl dX10_station_96 ?_
          refine lv_iload hx hb dX10_station_99 (lv_at hl 0 rfl) ?_
          refine rd_i hx hb hK hP 3 0 rfl rfl (k := (41 * k) + na) (by omega) (by decide) dX10_station_101 ?_
          refine lv_aload_n hx hb dX10_station_102 rfl (lv_at hl 1 rfl) ?_
          refine va_get (D := D) (ci := 10) (v := .ref qk) (C := RX10) (T := TX10) (N := 40) hx hb hts iX10 hown hK hP 0 rfl rfl 0 (by decide) (hts (.fieldLink RX10 7 "DeepHoleModel" "cs" "[I") (by decide +kernel)) (fun _ h9 => h9) rfl dX10_station_103 ?_
          refine lv_iload_n hx hb dX10_station_106 rfl (lv_at hl 3 rfl) ?_
          refine rd_i hx hb hK hP 4 0 rfl rfl (k := tn) (by omega) (by decide) dX10_station_107 ?_
          refine lv_eqi (z := dwn tn) (hcs tn (by omega)) ?_
          refine lv_iadd hx hb dX10_station_108 ?_
          refine wr_i hx hb hK hP hD hS 3 0 rfl rfl (k := ((41 * k) + na) + 1) (by omega) (by decide) dX10_station_109 (fun H locs hP hD hS => ?_)
          have hP : va_P D vwCl [(m0, .inr (10, [.ref qk, .int (nI d), .int (nI sh), .int (nI low), .int (nI high), .int le, .int mo, .int (nI nb), .ref qp, .ref qr, .ref qc, .ref qm, .ref qb, .int (nI cap), .int kd, .int am, .int wt, .int md, .long z1, .long z2, .long z3, .long z4, .long z5, .int (nI sw), .int (nI np), .ref qf, .ref qs, .int (nI fe), .int (nI te), .int (nI kk), .ref qt, .ref qx, .ref qy, .int no, .int nt, .ref qo, .ref qz, .ref qi, .ref qv, .int fd])), (qt, .inl (cI, 2, .inl stf)), (qx, .inl (cI, 82, .inl (upd qxf (((41 * k) + na) + 1) ((qxf ((41 * k) + na)) + (sd * (asd tn)))))), (qy, .inl (cI, 82, .inl (upd qyf (((41 * k) + na) + 1) ((qyf ((41 * k) + na)) + (dwn tn))))), (qk, .inl (cI, 10, .inl csf))] H := hP
          have hD : va_D A [(m0, .inr (10, [.ref qk, .int (nI d), .int (nI sh), .int (nI low), .int (nI high), .int le, .int mo, .int (nI nb), .ref qp, .ref qr, .ref qc, .ref qm, .ref qb, .int (nI cap), .int kd, .int am, .int wt, .int md, .long z1, .long z2, .long z3, .long z4, .long z5, .int (nI sw), .int (nI np), .ref qf, .ref qs, .int (nI fe), .int (nI te), .int (nI kk), .ref qt, .ref qx, .ref qy, .int no, .int nt, .ref qo, .ref qz, .ref qi, .ref qv, .int fd])), (qt, .inl (cI, 2, .inl stf)), (qx, .inl (cI, 82, .inl (upd qxf (((41 * k) + na) + 1) ((qxf ((41 * k) + na)) + (sd * (asd tn)))))), (qy, .inl (cI, 82, .inl (upd qyf (((41 * k) + na) + 1) ((qyf ((41 * k) + na)) + (dwn tn))))), (qk, .inl (cI, 10, .inl csf))] := hD
          refine lv_aload_n hx hb dX10_station_110 rfl (lv_at hl 1 rfl) ?_
          refine va_get (D := D) (ci := 10) (v := .ref qt) (C := RX10) (T := TX10) (N := 40) hx hb hts iX10 hown hK hP 0 rfl rfl 30 (by decide) (hts (.fieldLink RX10 44 "DeepHoleModel" "stations" "[I") (by decide +kernel)) (fun _ h9 => h9) rfl dX10_station_111 ?_
          refine lv_iload_n hx hb dX10_station_114 rfl (lv_at hl 2 rfl) ?_
          refine lv_dup2_11 hx hb dX10_station_115 rfl rfl ?_
          refine rd_i hx hb hK hP 1 0 rfl rfl (k := k) (by omega) (by decide) dX10_station_116 ?_
          refine lv_eqi (z := nI na) (hst) ?_
          refine lv_iconst (v := 1) hx hb dX10_station_117 (by decide) ?_
          refine lv_iadd hx hb dX10_station_118 ?_
          refine lv_eqi (z := nI (na + 1)) (nI_add _ _) ?_
          refine wr_i hx hb hK hP hD hS 1 0 rfl rfl (k := k) (by omega) (by decide) dX10_station_119 (fun H locs hP hD hS => ?_)
          have hP : va_P D vwCl [(m0, .inr (10, [.ref qk, .int (nI d), .int (nI sh), .int (nI low), .int (nI high), .int le, .int mo, .int (nI nb), .ref qp, .ref qr, .ref qc, .ref qm, .ref qb, .int (nI cap), .int kd, .int am, .int wt, .int md, .long z1, .long z2, .long z3, .long z4, .long z5, .int (nI sw), .int (nI np), .ref qf, .ref qs, .int (nI fe), .int (nI te), .int (nI kk), .ref qt, .ref qx, .ref qy, .int no, .int nt, .ref qo, .ref qz, .ref qi, .ref qv, .int fd])), (qt, .inl (cI, 2, .inl (upd stf k (nI (na + 1))))), (qx, .inl (cI, 82, .inl (upd qxf (((41 * k) + na) + 1) ((qxf ((41 * k) + na)) + (sd * (asd tn)))))), (qy, .inl (cI, 82, .inl (upd qyf (((41 * k) + na) + 1) ((qyf ((41 * k) + na)) + (dwn tn))))), (qk, .inl (cI, 10, .inl csf))] H := hP
          have hD : va_D A [(m0, .inr (10, [.ref qk, .int (nI d), .int (nI sh), .int (nI low), .int (nI high), .int le, .int mo, .int (nI nb), .ref qp, .ref qr, .ref qc, .ref qm, .ref qb, .int (nI cap), .int kd, .int am, .int wt, .int md, .long z1, .long z2, .long z3, .long z4, .long z5, .int (nI sw), .int (nI np), .ref qf, .ref qs, .int (nI fe), .int (nI te), .int (nI kk), .ref qt, .ref qx, .ref qy, .int no, .int nt, .ref qo, .ref qz, .ref qi, .ref qv, .int fd])), (qt, .inl (cI, 2, .inl (upd stf k (nI (na + 1))))), (qx, .inl (cI, 82, .inl (upd qxf (((41 * k) + na) + 1) ((qxf ((41 * k) + na)) + (sd * (asd tn)))))), (qy, .inl (cI, 82, .inl (upd qyf (((41 * k) + na) + 1) ((qyf ((41 * k) + na)) + (dwn tn))))), (qk, .inl (cI, 10, .inl csf))] := hD
          refine lv_aload_n hx hb dX10_station_120 rfl (lv_at hl 1 rfl) ?_
          refine va_get (D := D) (ci := 10) (v := .ref qt) (C := RX10) (T := TX10) (N := 40) hx hb hts iX10 hown hK hP 0 rfl rfl 30 (by decide) (hts (.fieldLink RX10 44 "DeepHoleModel" "stations" "[I") (by decide +kernel)) (fun _ h9 => h9) rfl dX10_station_121 ?_
          refine lv_iload_n hx hb dX10_station_124 rfl (lv_at hl 2 rfl) ?_
          refine rd_i hx hb hK hP 1 0 rfl rfl (k := k) (by omega) (by decide) dX10_station_125 ?_
          refine lv_eqi (z := nI (na + 1)) (pk_us) ?_
          have hP9 := hP.sub (ws' := [(m0, .inr (10, [.ref qk, .int (nI d), .int (nI sh), .int (nI low), .int (nI high), .int le, .int mo, .int (nI nb), .ref qp, .ref qr, .ref qc, .ref qm, .ref qb, .int (nI cap), .int kd, .int am, .int wt, .int md, .long z1, .long z2, .long z3, .long z4, .long z5, .int (nI sw), .int (nI np), .ref qf, .ref qs, .int (nI fe), .int (nI te), .int (nI kk), .ref qt, .ref qx, .ref qy, .int no, .int nt, .ref qo, .ref qz, .ref qi, .ref qv, .int fd])), (qt, .inl (cI, 2, .inl (upd stf k (nI (na + 1))))), (qx, .inl (cI, 82, .inl (upd qxf (((41 * k) + na) + 1) ((qxf ((41 * k) + na)) + (sd * (asd tn)))))), (qy, .inl (cI, 82, .inl (upd qyf (((41 * k) + na) + 1) ((qyf ((41 * k) + na)) + (dwn tn))))), (qk, .inl (cI, 10, .inl csf))]) [0, 1, 2, 3, 4] rfl
          have hD9 := hD.sub (ws' := [(m0, .inr (10, [.ref qk, .int (nI d), .int (nI sh), .int (nI low), .int (nI high), .int le, .int mo, .int (nI nb), .ref qp, .ref qr, .ref qc, .ref qm, .ref qb, .int (nI cap), .int kd, .int am, .int wt, .int md, .long z1, .long z2, .long z3, .long z4, .long z5, .int (nI sw), .int (nI np), .ref qf, .ref qs, .int (nI fe), .int (nI te), .int (nI kk), .ref qt, .ref qx, .ref qy, .int no, .int nt, .ref qo, .ref qz, .ref qi, .ref qv, .int fd])), (qt, .inl (cI, 2, .inl (upd stf k (nI (na + 1))))), (qx, .inl (cI, 82, .inl (upd qxf (((41 * k) + na) + 1) ((qxf ((41 * k) + na)) + (sd * (asd tn)))))), (qy, .inl (cI, 82, .inl (upd qyf (((41 * k) + na) + 1) ((qyf ((41 * k) + na)) + (dwn tn))))), (qk, .inl (cI, 10, .inl csf))]) [0, 1, 2, 3, 4] (by decide) rfl
          exact W.iret (v := nI (na + 1)) hx hb hr (fun t ht hW => ⟨⟨_, (upd stf k (nI (na + 1)), upd qxf (((41 * k) + na) + 1) ((qxf ((41 * k) + na)) + (sd * (asd tn))), upd qyf (((41 * k) + na) + 1) ((qyf ((41 * k) + na)) + (dwn tn))), rfl, (by have hC := And.intro c_16 (show (sd = -1 ∨ sd = 1) from Or.inl c_21); unfold aStat sStatM; rw [if_pos hC, if_pos (show na < 40 by omega), if_pos ⟨hC, show na < 40 by omega⟩, nI_clamp (by omega)]; exact ⟨rfl, rfl⟩), by rw [ht]; exact hP9, hD9⟩, hS.F ht⟩) hS.2.2 dX10_station_126
        ·
          have c_40 := n_eq (a := na) (b := 40) c_40 (by omega) (by omega)
          refine lv_bipush (v := (-4)) hx hb dX10_station_43 (by decide) ?_
          have hP9 := hP.sub (ws' := [(m0, .inr (10, [.ref qk, .int (nI d), .int (nI sh), .int (nI low), .int (nI high), .int le, .int mo, .int (nI nb), .ref qp, .ref qr, .ref qc, .ref qm, .ref qb, .int (nI cap), .int kd, .int am, .int wt, .int md, .long z1, .long z2, .long z3, .long z4, .long z5, .int (nI sw), .int (nI np), .ref qf, .ref qs, .int (nI fe), .int (nI te), .int (nI kk), .ref qt, .ref qx, .ref qy, .int no, .int nt, .ref qo, .ref qz, .ref qi, .ref qv, .int fd])), (qt, .inl (cI, 2, .inl stf)), (qx, .inl (cI, 82, .inl qxf)), (qy, .inl (cI, 82, .inl qyf)), (qk, .inl (cI, 10, .inl csf))]) [0, 1, 2, 3, 4] rfl
          have hD9 := hD.sub (ws' := [(m0, .inr (10, [.ref qk, .int (nI d), .int (nI sh), .int (nI low), .int (nI high), .int le, .int mo, .int (nI nb), .ref qp, .ref qr, .ref qc, .ref qm, .ref qb, .int (nI cap), .int kd, .int am, .int wt, .int md, .long z1, .long z2, .long z3, .long z4, .long z5, .int (nI sw), .int (nI np), .ref qf, .ref qs, .int (nI fe), .int (nI te), .int (nI kk), .ref qt, .ref qx, .ref qy, .int no, .int nt, .ref qo, .ref qz, .ref qi, .ref qv, .int fd])), (qt, .inl (cI, 2, .inl stf)), (qx, .inl (cI, 82, .inl qxf)), (qy, .inl (cI, 82, .inl qyf)), (qk, .inl (cI, 10, .inl csf))]) [0, 1, 2, 3, 4] (by decide) rfl
          exact W.iret (v := (-4)) hx hb hr (fun t ht hW => ⟨⟨_, (stf, qxf, qyf), rfl, (by have hC := And.intro c_16 (show (sd = -1 ∨ sd = 1) from Or.inl c_21); unfold aStat sStatM; rw [if_pos hC, if_neg (by omega), if_neg (fun h => absurd h.2 (by omega))]; exact ⟨rfl, rfl⟩), by rw [ht]; exact hP9, hD9⟩, hS.F ht⟩) hS.2.2 dX10_station_45
      ·
        refine lv_iload_n hx hb dX10_station_24 rfl (lv_at hl 3 rfl) ?_
        refine lv_iconst (v := 1) hx hb dX10_station_25 (by decide) ?_
        refine lv_icmp_eq (tgt := 32) hx hb dX10_station_26 (by decide) (fun c_26 => ?_) (fun c_26 => ?_)
        ·
          obtain ⟨tn, htn, rfl⟩ := nat_of (hi := 9) (n := 9) (by decide) c_16
          refine lv_aload_n hx hb dX10_station_32 rfl (lv_at hl 0 rfl) ?_
          refine va_get (D := D) (ci := 10) (v := .ref qt) (C := RX10) (T := TX10) (N := 40) hx hb hts iX10 hown hK hP 0 rfl rfl 30 (by decide) (hts (.fieldLink RX10 44 "DeepHoleModel" "stations" "[I") (by decide +kernel)) (fun _ h9 => h9) rfl dX10_station_33 ?_
          refine lv_iload_n hx hb dX10_station_36 rfl (lv_at hl 1 rfl) ?_
          refine rd_i hx hb hK hP 1 0 rfl rfl (k := k) (by omega) (by decide) dX10_station_37 ?_
          refine lv_eqi (z := nI na) (hst) ?_
          refine lv_bipush (v := 40) hx hb dX10_station_38 (by decide) ?_
          refine lv_icmp_ne (tgt := 46) hx hb dX10_station_40 (by decide) (fun c_40 => ?_) (fun c_40 => ?_)
          ·
            have c_40 := n_ne (a := na) (b := 40) c_40 (by omega) (by omega)
            refine lv_bipush (v := 41) hx hb dX10_station_46 (by decide) ?_
            refine lv_iload_n hx hb dX10_station_48 rfl (lv_at hl 1 rfl) ?_
            refine lv_imul hx hb dX10_station_49 ?_
            refine lv_eqi (z := nI (41 * k)) (pk_mul _ _) ?_
            refine lv_aload_n hx hb dX10_station_50 rfl (lv_at hl 0 rfl) ?_
            refine va_get (D := D) (ci := 10) (v := .ref qt) (C := RX10) (T := TX10) (N := 40) hx hb hts iX10 hown hK hP 0 rfl rfl 30 (by decide) (hts (.fieldLink RX10 44 "DeepHoleModel" "stations" "[I") (by decide +kernel)) (fun _ h9 => h9) rfl dX10_station_51 ?_
            refine lv_iload_n hx hb dX10_station_54 rfl (lv_at hl 1 rfl) ?_
            refine rd_i hx hb hK hP 1 0 rfl rfl (k := k) (by omega) (by decide) dX10_station_55 ?_
            refine lv_eqi (z := nI na) (hst) ?_
            refine lv_iadd hx hb dX10_station_56 ?_
            refine lv_eqi (z := nI ((41 * k) + na)) (nI_add _ _) ?_
            refine lv_istore (lv' := [(4, .int (nI ((41 * k) + na))), (0, .ref m0), (1, .int (nI k)), (2, .int (nI tn)), (3, .int sd)]) hx hb dX10_station_57 hl (by decide) rfl (fun ls hl => ?_)
            refine lv_aload_n hx hb dX10_station_59 rfl (lv_at hl 1 rfl) ?_
            refine va_get (D := D) (ci := 10) (v := .ref qx) (C := RX10) (T := TX10) (N := 40) hx hb hts iX10 hown hK hP 0 rfl rfl 31 (by decide) (hts (.fieldLink RX10 47 "DeepHoleModel" "xs" "[I") (by decide +kernel)) (fun _ h9 => h9) rfl dX10_station_60 ?_
            refine lv_iload hx hb dX10_station_63 (lv_at hl 0 rfl) ?_
            refine lv_iconst (v := 1) hx hb dX10_station_65 (by decide) ?_
            refine lv_iadd hx hb dX10_station_66 ?_
            refine lv_eqi (z := nI (((41 * k) + na) + 1)) (nI_add _ _) ?_
            refine lv_aload_n hx hb dX10_station_67 rfl (lv_at hl 1 rfl) ?_
            refine va_get (D := D) (ci := 10) (v := .ref qx) (C := RX10) (T := TX10) (N := 40) hx hb hts iX10 hown hK hP 0 rfl rfl 31 (by decide) (hts (.fieldLink RX10 47 "DeepHoleModel" "xs" "[I") (by decide +kernel)) (fun _ h9 => h9) rfl dX10_station_68 ?_
            refine lv_iload hx hb dX10_station_71 (lv_at hl 0 rfl) ?_
            refine rd_i hx hb hK hP 2 0 rfl rfl (k := (41 * k) + na) (by omega) (by decide) dX10_station_73 ?_
            refine lv_iload_n hx hb dX10_station_74 rfl (lv_at hl 4 rfl) ?_
            refine lv_aload_n hx hb dX10_station_75 rfl (lv_at hl 1 rfl) ?_
            refine va_get (D := D) (ci := 10) (v := .ref qk) (C := RX10) (T := TX10) (N := 40) hx hb hts iX10 hown hK hP 0 rfl rfl 0 (by decide) (hts (.fieldLink RX10 7 "DeepHoleModel" "cs" "[I") (by decide +kernel)) (fun _ h9 => h9) rfl dX10_station_76 ?_
            refine lv_bipush (v := 9) hx hb dX10_station_79 (by decide) ?_
            refine lv_iload_n hx hb dX10_station_81 rfl (lv_at hl 3 rfl) ?_
            refine lv_isub hx hb dX10_station_82 ?_
            refine lv_eqi (z := nI (9 - tn)) (pk_sub (a := 9) (b := tn) (by omega)) ?_
            refine rd_i hx hb hK hP 4 0 rfl rfl (k := 9 - tn) (by omega) (by decide) dX10_station_83 ?_
            refine lv_eqi (z := asd tn) ((hcs (9 - tn) (by omega)).trans (asd_dwn tn (by omega))) ?_
            refine lv_imul hx hb dX10_station_84 ?_
            refine lv_iadd hx hb dX10_station_85 ?_
            refine wr_i hx hb hK hP hD hS 2 0 rfl rfl (k := ((41 * k) + na) + 1) (by omega) (by decide) dX10_station_86 (fun H locs hP hD hS => ?_)
            have hP : va_P D vwCl [(m0, .inr (10, [.ref qk, .int (nI d), .int (nI sh), .int (nI low), .int (nI high), .int le, .int mo, .int (nI nb), .ref qp, .ref qr, .ref qc, .ref qm, .ref qb, .int (nI cap), .int kd, .int am, .int wt, .int md, .long z1, .long z2, .long z3, .long z4, .long z5, .int (nI sw), .int (nI np), .ref qf, .ref qs, .int (nI fe), .int (nI te), .int (nI kk), .ref qt, .ref qx, .ref qy, .int no, .int nt, .ref qo, .ref qz, .ref qi, .ref qv, .int fd])), (qt, .inl (cI, 2, .inl stf)), (qx, .inl (cI, 82, .inl (upd qxf (((41 * k) + na) + 1) ((qxf ((41 * k) + na)) + (sd * (asd tn)))))), (qy, .inl (cI, 82, .inl qyf)), (qk, .inl (cI, 10, .inl csf))] H := hP
            have hD : va_D A [(m0, .inr (10, [.ref qk, .int (nI d), .int (nI sh), .int (nI low), .int (nI high), .int le, .int mo, .int (nI nb), .ref qp, .ref qr, .ref qc, .ref qm, .ref qb, .int (nI cap), .int kd, .int am, .int wt, .int md, .long z1, .long z2, .long z3, .long z4, .long z5, .int (nI sw), .int (nI np), .ref qf, .ref qs, .int (nI fe), .int (nI te), .int (nI kk), .ref qt, .ref qx, .ref qy, .int no, .int nt, .ref qo, .ref qz, .ref qi, .ref qv, .int fd])), (qt, .inl (cI, 2, .inl stf)), (qx, .inl (cI, 82, .inl (upd qxf (((41 * k) + na) + 1) ((qxf ((41 * k) + na)) + (sd * (asd tn)))))), (qy, .inl (cI, 82, .inl qyf)), (qk, .inl (cI, 10, .inl csf))] := hD
            refine lv_aload_n hx hb dX10_station_87 rfl (lv_at hl 1 rfl) ?_
            refine va_get (D := D) (ci := 10) (v := .ref qy) (C := RX10) (T := TX10) (N := 40) hx hb hts iX10 hown hK hP 0 rfl rfl 32 (by decide) (hts (.fieldLink RX10 50 "DeepHoleModel" "ys" "[I") (by decide +kernel)) (fun _ h9 => h9) rfl dX10_station_88 ?_
            refine lv_iload hx hb dX10_station_91 (lv_at hl 0 rfl) ?_
            refine lv_iconst (v := 1) hx hb dX10_station_93 (by decide) ?_
            refine lv_iadd hx hb dX10_station_94 ?_
            refine lv_eqi (z := nI (((41 * k) + na) + 1)) (nI_add _ _) ?_
            refine lv_aload_n hx hb dX10_station_95 rfl (lv_at hl 1 rfl) ?_
            refine va_get (D := D) (ci := 10) (v := .ref qy) (C := RX10) (T := TX10) (N := 40) hx hb hts iX10 hown hK hP 0 rfl rfl 32 (by decide) (hts (.fieldLink RX10 50 "DeepHoleModel" "ys" "[I") (by decide +kernel)) (fun _ h9 => h9) rfl dX10_station_96 ?_
            refine lv_iload hx hb dX10_station_99 (lv_at hl 0 rfl) ?_
            refine rd_i hx hb hK hP 3 0 rfl rfl (k := (41 * k) + na) (by omega) (by decide) dX10_station_101 ?_
            refine lv_aload_n hx hb dX10_station_102 rfl (lv_at hl 1 rfl) ?_
            refine va_get (D := D) (ci := 10) (v := .ref qk) (C := RX10) (T := TX10) (N := 40) hx hb hts iX10 hown hK hP 0 rfl rfl 0 (by decide) (hts (.fieldLink RX10 7 "DeepHoleModel" "cs" "[I") (by decide +kernel)) (fun _ h9 => h9) rfl dX10_station_103 ?_
            refine lv_iload_n hx hb dX10_station_106 rfl (lv_at hl 3 rfl) ?_
            refine rd_i hx hb hK hP 4 0 rfl rfl (k := tn) (by omega) (by decide) dX10_station_107 ?_
            refine lv_eqi (z := dwn tn) (hcs tn (by omega)) ?_
            refine lv_iadd hx hb dX10_station_108 ?_
            refine wr_i hx hb hK hP hD hS 3 0 rfl rfl (k := ((41 * k) + na) + 1) (by omega) (by decide) dX10_station_109 (fun H locs hP hD hS => ?_)
            have hP : va_P D vwCl [(m0, .inr (10, [.ref qk, .int (nI d), .int (nI sh), .int (nI low), .int (nI high), .int le, .int mo, .int (nI nb), .ref qp, .ref qr, .ref qc, .ref qm, .ref qb, .int (nI cap), .int kd, .int am, .int wt, .int md, .long z1, .long z2, .long z3, .long z4, .long z5, .int (nI sw), .int (nI np), .ref qf, .ref qs, .int (nI fe), .int (nI te), .int (nI kk), .ref qt, .ref qx, .ref qy, .int no, .int nt, .ref qo, .ref qz, .ref qi, .ref qv, .int fd])), (qt, .inl (cI, 2, .inl stf)), (qx, .inl (cI, 82, .inl (upd qxf (((41 * k) + na) + 1) ((qxf ((41 * k) + na)) + (sd * (asd tn)))))), (qy, .inl (cI, 82, .inl (upd qyf (((41 * k) + na) + 1) ((qyf ((41 * k) + na)) + (dwn tn))))), (qk, .inl (cI, 10, .inl csf))] H := hP
            have hD : va_D A [(m0, .inr (10, [.ref qk, .int (nI d), .int (nI sh), .int (nI low), .int (nI high), .int le, .int mo, .int (nI nb), .ref qp, .ref qr, .ref qc, .ref qm, .ref qb, .int (nI cap), .int kd, .int am, .int wt, .int md, .long z1, .long z2, .long z3, .long z4, .long z5, .int (nI sw), .int (nI np), .ref qf, .ref qs, .int (nI fe), .int (nI te), .int (nI kk), .ref qt, .ref qx, .ref qy, .int no, .int nt, .ref qo, .ref qz, .ref qi, .ref qv, .int fd])), (qt, .inl (cI, 2, .inl stf)), (qx, .inl (cI, 82, .inl (upd qxf (((41 * k) + na) + 1) ((qxf ((41 * k) + na)) + (sd * (asd tn)))))), (qy, .inl (cI, 82, .inl (upd qyf (((41 * k) + na) + 1) ((qyf ((41 * k) + na)) + (dwn tn))))), (qk, .inl (cI, 10, .inl csf))] := hD
            refine lv_aload_n hx hb dX10_station_110 rfl (lv_at hl 1 rfl) ?_
            refine va_get (D := D) (ci := 10) (v := .ref qt) (C := RX10) (T := TX10) (N := 40) hx hb hts iX10 hown hK hP 0 rfl rfl 30 (by decide) (hts (.fieldLink RX10 44 "DeepHoleModel" "stations" "[I") (by decide +kernel)) (fun _ h9 => h9) rfl dX10_station_111 ?_
            refine lv_iload_n hx hb dX10_station_114 rfl (lv_at hl 2 rfl) ?_
            refine lv_dup2_11 hx hb dX10_station_115 rfl rfl ?_
            refine rd_i hx hb hK hP 1 0 rfl rfl (k := k) (by omega) (by decide) dX10_station_116 ?_
            refine lv_eqi (z := nI na) (hst) ?_
            refine lv_iconst (v := 1) hx hb dX10_station_117 (by decide) ?_
            refine lv_iadd hx hb dX10_station_118 ?_
            refine lv_eqi (z := nI (na + 1)) (nI_add _ _) ?_
            refine wr_i hx hb hK hP hD hS 1 0 rfl rfl (k := k) (by omega) (by decide) dX10_station_119 (fun H locs hP hD hS => ?_)
            have hP : va_P D vwCl [(m0, .inr (10, [.ref qk, .int (nI d), .int (nI sh), .int (nI low), .int (nI high), .int le, .int mo, .int (nI nb), .ref qp, .ref qr, .ref qc, .ref qm, .ref qb, .int (nI cap), .int kd, .int am, .int wt, .int md, .long z1, .long z2, .long z3, .long z4, .long z5, .int (nI sw), .int (nI np), .ref qf, .ref qs, .int (nI fe), .int (nI te), .int (nI kk), .ref qt, .ref qx, .ref qy, .int no, .int nt, .ref qo, .ref qz, .ref qi, .ref qv, .int fd])), (qt, .inl (cI, 2, .inl (upd stf k (nI (na + 1))))), (qx, .inl (cI, 82, .inl (upd qxf (((41 * k) + na) + 1) ((qxf ((41 * k) + na)) + (sd * (asd tn)))))), (qy, .inl (cI, 82, .inl (upd qyf (((41 * k) + na) + 1) ((qyf ((41 * k) + na)) + (dwn tn))))), (qk, .inl (cI, 10, .inl csf))] H := hP
            have hD : va_D A [(m0, .inr (10, [.ref qk, .int (nI d), .int (nI sh), .int (nI low), .int (nI high), .int le, .int mo, .int (nI nb), .ref qp, .ref qr, .ref qc, .ref qm, .ref qb, .int (nI cap), .int kd, .int am, .int wt, .int md, .long z1, .long z2, .long z3, .long z4, .long z5, .int (nI sw), .int (nI np), .ref qf, .ref qs, .int (nI fe), .int (nI te), .int (nI kk), .ref qt, .ref qx, .ref qy, .int no, .int nt, .ref qo, .ref qz, .ref qi, .ref qv, .int fd])), (qt, .inl (cI, 2, .inl (upd stf k (nI (na + 1))))), (qx, .inl (cI, 82, .inl (upd qxf (((41 * k) + na) + 1) ((qxf ((41 * k) + na)) + (sd * (asd tn)))))), (qy, .inl (cI, 82, .inl (upd qyf (((41 * k) + na) + 1) ((qyf ((41 * k) + na)) + (dwn tn))))), (qk, .inl (cI, 10, .inl csf))] := hD
            refine lv_aload_n hx hb dX10_station_120 rfl (lv_at hl 1 rfl) ?_
            refine va_get (D := D) (ci := 10) (v := .ref qt) (C := RX10) (T := TX10) (N := 40) hx hb hts iX10 hown hK hP 0 rfl rfl 30 (by decide) (hts (.fieldLink RX10 44 "DeepHoleModel" "stations" "[I") (by decide +kernel)) (fun _ h9 => h9) rfl dX10_station_121 ?_
            refine lv_iload_n hx hb dX10_station_124 rfl (lv_at hl 2 rfl) ?_
            refine rd_i hx hb hK hP 1 0 rfl rfl (k := k) (by omega) (by decide) dX10_station_125 ?_
            refine lv_eqi (z := nI (na + 1)) (pk_us) ?_
            have hP9 := hP.sub (ws' := [(m0, .inr (10, [.ref qk, .int (nI d), .int (nI sh), .int (nI low), .int (nI high), .int le, .int mo, .int (nI nb), .ref qp, .ref qr, .ref qc, .ref qm, .ref qb, .int (nI cap), .int kd, .int am, .int wt, .int md, .long z1, .long z2, .long z3, .long z4, .long z5, .int (nI sw), .int (nI np), .ref qf, .ref qs, .int (nI fe), .int (nI te), .int (nI kk), .ref qt, .ref qx, .ref qy, .int no, .int nt, .ref qo, .ref qz, .ref qi, .ref qv, .int fd])), (qt, .inl (cI, 2, .inl (upd stf k (nI (na + 1))))), (qx, .inl (cI, 82, .inl (upd qxf (((41 * k) + na) + 1) ((qxf ((41 * k) + na)) + (sd * (asd tn)))))), (qy, .inl (cI, 82, .inl (upd qyf (((41 * k) + na) + 1) ((qyf ((41 * k) + na)) + (dwn tn))))), (qk, .inl (cI, 10, .inl csf))]) [0, 1, 2, 3, 4] rfl
            have hD9 := hD.sub (ws' := [(m0, .inr (10, [.ref qk, .int (nI d), .int (nI sh), .int (nI low), .int (nI high), .int le, .int mo, .int (nI nb), .ref qp, .ref qr, .ref qc, .ref qm, .ref qb, .int (nI cap), .int kd, .int am, .int wt, .int md, .long z1, .long z2, .long z3, .long z4, .long z5, .int (nI sw), .int (nI np), .ref qf, .ref qs, .int (nI fe), .int (nI te), .int (nI kk), .ref qt, .ref qx, .ref qy, .int no, .int nt, .ref qo, .ref qz, .ref qi, .ref qv, .int fd])), (qt, .inl (cI, 2, .inl (upd stf k (nI (na + 1))))), (qx, .inl (cI, 82, .inl (upd qxf (((41 * k) + na) + 1) ((qxf ((41 * k) + na)) + (sd * (asd tn)))))), (qy, .inl (cI, 82, .inl (upd qyf (((41 * k) + na) + 1) ((qyf ((41 * k) + na)) + (dwn tn))))), (qk, .inl (cI, 10, .inl csf))]) [0, 1, 2, 3, 4] (by decide) rfl
            exact W.iret (v := nI (na + 1)) hx hb hr (fun t ht hW => ⟨⟨_, (upd stf k (nI (na + 1)), upd qxf (((41 * k) + na) + 1) ((qxf ((41 * k) + na)) + (sd * (asd tn))), upd qyf (((41 * k) + na) + 1) ((qyf ((41 * k) + na)) + (dwn tn))), rfl, (by have hC := And.intro c_16 (show (sd = -1 ∨ sd = 1) from Or.inr c_26); unfold aStat sStatM; rw [if_pos hC, if_pos (show na < 40 by omega), if_pos ⟨hC, show na < 40 by omega⟩, nI_clamp (by omega)]; exact ⟨rfl, rfl⟩), by rw [ht]; exact hP9, hD9⟩, hS.F ht⟩) hS.2.2 dX10_station_126
          ·
            have c_40 := n_eq (a := na) (b := 40) c_40 (by omega) (by omega)
            refine lv_bipush (v := (-4)) hx hb dX10_station_43 (by decide) ?_
            have hP9 := hP.sub (ws' := [(m0, .inr (10, [.ref qk, .int (nI d), .int (nI sh), .int (nI low), .int (nI high), .int le, .int mo, .int (nI nb), .ref qp, .ref qr, .ref qc, .ref qm, .ref qb, .int (nI cap), .int kd, .int am, .int wt, .int md, .long z1, .long z2, .long z3, .long z4, .long z5, .int (nI sw), .int (nI np), .ref qf, .ref qs, .int (nI fe), .int (nI te), .int (nI kk), .ref qt, .ref qx, .ref qy, .int no, .int nt, .ref qo, .ref qz, .ref qi, .ref qv, .int fd])), (qt, .inl (cI, 2, .inl stf)), (qx, .inl (cI, 82, .inl qxf)), (qy, .inl (cI, 82, .inl qyf)), (qk, .inl (cI, 10, .inl csf))]) [0, 1, 2, 3, 4] rfl
            have hD9 := hD.sub (ws' := [(m0, .inr (10, [.ref qk, .int (nI d), .int (nI sh), .int (nI low), .int (nI high), .int le, .int mo, .int (nI nb), .ref qp, .ref qr, .ref qc, .ref qm, .ref qb, .int (nI cap), .int kd, .int am, .int wt, .int md, .long z1, .long z2, .long z3, .long z4, .long z5, .int (nI sw), .int (nI np), .ref qf, .ref qs, .int (nI fe), .int (nI te), .int (nI kk), .ref qt, .ref qx, .ref qy, .int no, .int nt, .ref qo, .ref qz, .ref qi, .ref qv, .int fd])), (qt, .inl (cI, 2, .inl stf)), (qx, .inl (cI, 82, .inl qxf)), (qy, .inl (cI, 82, .inl qyf)), (qk, .inl (cI, 10, .inl csf))]) [0, 1, 2, 3, 4] (by decide) rfl
            exact W.iret (v := (-4)) hx hb hr (fun t ht hW => ⟨⟨_, (stf, qxf, qyf), rfl, (by have hC := And.intro c_16 (show (sd = -1 ∨ sd = 1) from Or.inr c_26); unfold aStat sStatM; rw [if_pos hC, if_neg (by omega), if_neg (fun h => absurd h.2 (by omega))]; exact ⟨rfl, rfl⟩), by rw [ht]; exact hP9, hD9⟩, hS.F ht⟩) hS.2.2 dX10_station_45
        ·
          refine lv_bipush (v := (-2)) hx hb dX10_station_29 (by decide) ?_
          have hP9 := hP.sub (ws' := [(m0, .inr (10, [.ref qk, .int (nI d), .int (nI sh), .int (nI low), .int (nI high), .int le, .int mo, .int (nI nb), .ref qp, .ref qr, .ref qc, .ref qm, .ref qb, .int (nI cap), .int kd, .int am, .int wt, .int md, .long z1, .long z2, .long z3, .long z4, .long z5, .int (nI sw), .int (nI np), .ref qf, .ref qs, .int (nI fe), .int (nI te), .int (nI kk), .ref qt, .ref qx, .ref qy, .int no, .int nt, .ref qo, .ref qz, .ref qi, .ref qv, .int fd])), (qt, .inl (cI, 2, .inl stf)), (qx, .inl (cI, 82, .inl qxf)), (qy, .inl (cI, 82, .inl qyf)), (qk, .inl (cI, 10, .inl csf))]) [0, 1, 2, 3, 4] rfl
          have hD9 := hD.sub (ws' := [(m0, .inr (10, [.ref qk, .int (nI d), .int (nI sh), .int (nI low), .int (nI high), .int le, .int mo, .int (nI nb), .ref qp, .ref qr, .ref qc, .ref qm, .ref qb, .int (nI cap), .int kd, .int am, .int wt, .int md, .long z1, .long z2, .long z3, .long z4, .long z5, .int (nI sw), .int (nI np), .ref qf, .ref qs, .int (nI fe), .int (nI te), .int (nI kk), .ref qt, .ref qx, .ref qy, .int no, .int nt, .ref qo, .ref qz, .ref qi, .ref qv, .int fd])), (qt, .inl (cI, 2, .inl stf)), (qx, .inl (cI, 82, .inl qxf)), (qy, .inl (cI, 82, .inl qyf)), (qk, .inl (cI, 10, .inl csf))]) [0, 1, 2, 3, 4] (by decide) rfl
          exact W.iret (v := (-2)) hx hb hr (fun t ht hW => ⟨⟨_, (stf, qxf, qyf), rfl, (by unfold aStat sStatM; first | rw [if_neg (fun h => c_16 h.1), if_neg (fun h => c_16 h.1.1)]; exact ⟨rfl, rfl⟩ | rw [if_neg (fun h => h.2.elim c_21 c_26), if_neg (fun h => h.1.2.elim c_21 c_26)]; exact ⟨rfl, rfl⟩), by rw [ht]; exact hP9, hD9⟩, hS.F ht⟩) hS.2.2 dX10_station_31

set_option maxHeartbeats 4000000 in
set_option maxRecDepth 100000 in
theorem c_X10_station_b {l : Launch} {D : va_G} {cI cS cP : ClassId} {sz : Nat} {m0 qk qp qr qc qm qb qf qs qt qx qy qo qz qi qv : Nat} {d sh low high nb cap sw np fe te kk : Nat} {le mo kd am wt md no nt fd : Int32} {z1 z2 z3 z4 z5 : Int64} {h1 : Int32} {t1 sd : Int32} (hbad : ¬ (0 ≤ h1 ∧ h1 ≤ 1)) : Met l yX10_station wsX10_station ({ frames := 2, cells := 0, slots := 0, locals := 45 }) (PC D (TY cI cS cP) [.ref m0, .int h1, .int t1, .int sd] sz [(m0, .inr (10, [.ref qk, .int (nI d), .int (nI sh), .int (nI low), .int (nI high), .int le, .int mo, .int (nI nb), .ref qp, .ref qr, .ref qc, .ref qm, .ref qb, .int (nI cap), .int kd, .int am, .int wt, .int md, .long z1, .long z2, .long z3, .long z4, .long z5, .int (nI sw), .int (nI np), .ref qf, .ref qs, .int (nI fe), .int (nI te), .int (nI kk), .ref qt, .ref qx, .ref qy, .int no, .int nt, .ref qo, .ref qz, .ref qi, .ref qv, .int fd]))]) (vp_Si (fun r => r = -2)) 0 0 (fun _ => False) := by
  refine Met.ofW (cc := cX10_station) (maxL := 5) (ret := (some .int)) (by decide) rfl ?_
  intro p e s m args below meth c s₁ B hml hv
  obtain ⟨rfl, hsz, hP, hK, hD0, hN⟩ := hv
  have hx := B.exec
  have hb := B.bytes
  have hr := B.returns
  have hts := atoms_spec (ws := wsX10_station) B.pre
  have hown : s.vm.findClass RX10 = some m.cls := findClass_of_methodNamed B.named
  have hlocks := B.notSynchronized
  subst hsz
  have hD := hD0
  have hP : va_P D vwCl [(m0, .inr (10, [.ref qk, .int (nI d), .int (nI sh), .int (nI low), .int (nI high), .int le, .int mo, .int (nI nb), .ref qp, .ref qr, .ref qc, .ref qm, .ref qb, .int (nI cap), .int kd, .int am, .int wt, .int md, .long z1, .long z2, .long z3, .long z4, .long z5, .int (nI sw), .int (nI np), .ref qf, .ref qs, .int (nI fe), .int (nI te), .int (nI kk), .ref qt, .ref qx, .ref qy, .int no, .int nt, .ref qo, .ref qz, .ref qi, .ref qv, .int fd]))] s.heap := hP
  have hl := lv_entry ([.ref m0, .int h1, .int t1, .int sd]) (n := 5) (Nat.le_of_ble_eq_true rfl)
  rw [lg_entry_eq]
  generalize (lg_sl ([.ref m0, .int h1, .int t1, .int sd]) ++ List.replicate (5 - (lg_sl ([.ref m0, .int h1, .int t1, .int sd])).length) Slot.unset).toArray = ls at hl ⊢
  have hl : lv_has ls 5 [(0, .ref m0), (1, .int h1), (2, .int t1), (3, .int sd)] := hl
  refine lv_iload_n hx hb dX10_station_0 rfl (lv_at hl 1 rfl) ?_
  refine q_S (tys := TY cI cS cP) (D := D) ⟨hx, hb, hml, hown, hts⟩ [.int h1] [] c_X10_isHole (va_cwS 1 hts gX10_station_X10_isHole rfl rfl rfl (by decide +kernel) ⟨Nat.le_of_ble_eq_true rfl, Nat.le_of_ble_eq_true rfl⟩) hK hN rfl hl.1 rfl (Nat.le_of_ble_eq_true rfl) dX10_station_1 ⟨Nat.zero_le _, Nat.zero_le _⟩ (fun r hw => ?_)
  subst hw
  refine lv_if_eq (tgt := 29) hx hb dX10_station_4 (by decide) (fun c_4 => ?_) (fun c_4 => ?_)
  ·
    have c_4 := bz c_4
    refine lv_bipush (v := (-2)) hx hb dX10_station_29 (by decide) ?_
    exact W.iret (v := (-2)) hx hb hr (fun t ht hW => ⟨_, rfl, (by rfl), ht⟩) (fun _ h => absurd h List.not_mem_nil) dX10_station_31
  ·
    have c_4 := bnz c_4
    exact absurd c_4 hbad

set_option maxHeartbeats 4000000 in
set_option maxRecDepth 100000 in
theorem c_X10_place {l : Launch} {D : va_G} {cI cS cP : ClassId} {sz : Nat} {m0 qk qp qr qc qm qb qf qs qt qx qy qo qz qi qv : Nat} {d sh low high nb cap sw np fe te kk : Nat} {le mo kd am wt md no nt fd : Int32} {z1 z2 z3 z4 z5 : Int64} {stf qxf qyf : Nat → Int32} {k na : Nat} {xs ys : Nat → Int32} {i1 wh_ : Int32} (hk : k < 2) (hst : stf k = nI na) (hna : na ≤ 40) (hxx : ∀ j, j ≤ na → qxf (41 * k + j) = xs j) (hyy : ∀ j, j ≤ na → qyf (41 * k + j) = ys j) : Met l yX10_place wsX10_place ({ frames := 2, cells := 0, slots := 0, locals := 45 }) (PC D (TY cI cS cP) [.ref m0, .int (nI k), .int i1, .int wh_] sz [(m0, .inr (10, [.ref qk, .int (nI d), .int (nI sh), .int (nI low), .int (nI high), .int le, .int mo, .int (nI nb), .ref qp, .ref qr, .ref qc, .ref qm, .ref qb, .int (nI cap), .int kd, .int am, .int wt, .int md, .long z1, .long z2, .long z3, .long z4, .long z5, .int (nI sw), .int (nI np), .ref qf, .ref qs, .int (nI fe), .int (nI te), .int (nI kk), .ref qt, .ref qx, .ref qy, .int no, .int nt, .ref qo, .ref qz, .ref qi, .ref qv, .int fd])), (qt, .inl (cI, 2, .inl stf)), (qx, .inl (cI, 82, .inl qxf)), (qy, .inl (cI, 82, .inl qyf))]) (vp_Si (fun r => r = aPlace na xs ys i1 wh_)) 0 0 (fun _ => False) := by
  refine Met.ofW (cc := cX10_place) (maxL := 4) (ret := (some .int)) (by decide) rfl ?_
  intro p e s m args below meth c s₁ B hml hv
  obtain ⟨rfl, hsz, hP, hK, hD0, hN⟩ := hv
  have hx := B.exec
  have hb := B.bytes
  have hr := B.returns
  have hts := atoms_spec (ws := wsX10_place) B.pre
  have hown : s.vm.findClass RX10 = some m.cls := findClass_of_methodNamed B.named
  have hlocks := B.notSynchronized
  subst hsz
  have iX10 : ∀ w ∈ u_ws RX10 TX10 40, w ∈ wsX10_place := by decide +kernel
  have hD := hD0
  have hP : va_P D vwCl [(m0, .inr (10, [.ref qk, .int (nI d), .int (nI sh), .int (nI low), .int (nI high), .int le, .int mo, .int (nI nb), .ref qp, .ref qr, .ref qc, .ref qm, .ref qb, .int (nI cap), .int kd, .int am, .int wt, .int md, .long z1, .long z2, .long z3, .long z4, .long z5, .int (nI sw), .int (nI np), .ref qf, .ref qs, .int (nI fe), .int (nI te), .int (nI kk), .ref qt, .ref qx, .ref qy, .int no, .int nt, .ref qo, .ref qz, .ref qi, .ref qv, .int fd])), (qt, .inl (cI, 2, .inl stf)), (qx, .inl (cI, 82, .inl qxf)), (qy, .inl (cI, 82, .inl qyf))] s.heap := hP
  have hl := lv_entry ([.ref m0, .int (nI k), .int i1, .int wh_]) (n := 4) (Nat.le_of_ble_eq_true rfl)
  rw [lg_entry_eq]
  generalize (lg_sl ([.ref m0, .int (nI k), .int i1, .int wh_]) ++ List.replicate (4 - (lg_sl ([.ref m0, .int (nI k), .int i1, .int wh_])).length) Slot.unset).toArray = ls at hl ⊢
  have hl : lv_has ls 4 [(0, .ref m0), (1, .int (nI k)), (2, .int i1), (3, .int wh_)] := hl
  refine lv_iload_n hx hb dX10_place_0 rfl (lv_at hl 1 rfl) ?_
  refine q_S (tys := TY cI cS cP) (D := D) ⟨hx, hb, hml, hown, hts⟩ [.int (nI k)] [] c_X10_isHole (va_cwS 1 hts gX10_place_X10_isHole rfl rfl rfl (by decide +kernel) ⟨Nat.le_of_ble_eq_true rfl, Nat.le_of_ble_eq_true rfl⟩) hK hN rfl hl.1 rfl (Nat.le_of_ble_eq_true rfl) dX10_place_1 ⟨Nat.zero_le _, Nat.zero_le _⟩ (fun r hw => ?_)
  subst hw
  refine lv_if_eq (tgt := 33) hx hb dX10_place_4 (by decide) (fun c_4 => ?_) (fun c_4 => ?_)
  ·
    have c_4 := bz c_4
    exact absurd (show (0 : Int32) ≤ nI k ∧ nI k ≤ 1 from ⟨nI_pos' (by omega), nI_le (b := 1) (by omega) (by decide)⟩) c_4
  ·
    have c_4 := bnz c_4
    refine lv_iload_n hx hb dX10_place_7 rfl (lv_at hl 2 rfl) ?_
    refine lv_i2l (v := i1.toInt64) hx hb dX10_place_8 rfl ?_
    refine lv_lconst (v := 0) hx hb dX10_place_9 (by decide) ?_
    refine lv_aload_n hx hb dX10_place_10 rfl (lv_at hl 0 rfl) ?_
    refine va_get (D := D) (ci := 10) (v := .ref qt) (C := RX10) (T := TX10) (N := 40) hx hb hts iX10 hown hK hP 0 rfl rfl 30 (by decide) (hts (.fieldLink RX10 44 "DeepHoleModel" "stations" "[I") (by decide +kernel)) (fun _ h9 => h9) rfl dX10_place_11 ?_
    refine lv_iload_n hx hb dX10_place_14 rfl (lv_at hl 1 rfl) ?_
    refine rd_i hx hb hK hP 1 0 rfl rfl (k := k) (by omega) (by decide) dX10_place_15 ?_
    refine lv_eqi (z := nI na) (hst) ?_
    refine lv_i2l (v := (nI na).toInt64) hx hb dX10_place_16 rfl ?_
    refine q_S (tys := TY cI cS cP) (D := D) ⟨hx, hb, hml, hown, hts⟩ [.long i1.toInt64, .long ((0 : Int32).toInt64), .long ((nI na).toInt64)] [] c_X10_in (va_cwS 3 hts gX10_place_X10_in rfl rfl rfl (by decide +kernel) ⟨Nat.le_of_ble_eq_true rfl, Nat.le_of_ble_eq_true rfl⟩) hK hN rfl hl.1 rfl (Nat.le_of_ble_eq_true rfl) dX10_place_17 ⟨Nat.zero_le _, Nat.zero_le _⟩ (fun r hw => ?_)
    subst hw
    refine lv_if_eq (tgt := 33) hx hb dX10_place_20 (by decide) (fun c_20 => ?_) (fun c_20 => ?_)
    ·
      have c_20 := bz c_20
      refine lv_ldc hx hb hown (hts (.constant RX10 202 (-2147483648)) (by decide +kernel)) dX10_place_33 ?_
      exact W.iret (v := (-2147483648)) hx hb hr (fun t ht hW => ⟨_, rfl, (by unfold aPlace; first | rw [if_neg (fun h => c_20 h.1)] | rw [if_neg (fun h => c_30 h.2)]), ht⟩) (fun _ h => absurd h List.not_mem_nil) dX10_place_35
    ·
      have c_20 := bnz c_20
      refine lv_iload_n hx hb dX10_place_23 rfl (lv_at hl 3 rfl) ?_
      refine lv_i2l (v := wh_.toInt64) hx hb dX10_place_24 rfl ?_
      refine lv_lconst (v := 0) hx hb dX10_place_25 (by decide) ?_
      refine lv_lconst (v := 1) hx hb dX10_place_26 (by decide) ?_
      refine q_S (tys := TY cI cS cP) (D := D) ⟨hx, hb, hml, hown, hts⟩ [.long wh_.toInt64, .long ((0 : Int32).toInt64), .long ((1 : Int32).toInt64)] [] c_X10_in (va_cwS 3 hts gX10_place_X10_in rfl rfl rfl (by decide +kernel) ⟨Nat.le_of_ble_eq_true rfl, Nat.le_of_ble_eq_true rfl⟩) hK hN rfl hl.1 rfl (Nat.le_of_ble_eq_true rfl) dX10_place_27 ⟨Nat.zero_le _, Nat.zero_le _⟩ (fun r hw => ?_)
      subst hw
      refine lv_if_ne (tgt := 36) hx hb dX10_place_30 (by decide) (fun c_30 => ?_) (fun c_30 => ?_)
      ·
        have c_30 := bnz c_30
        obtain ⟨iN, hiN, rfl⟩ := nat_of (hi := nI na) (n := na) (nI_toInt (by omega)) c_20
        refine lv_iload_n hx hb dX10_place_36 rfl (lv_at hl 3 rfl) ?_
        refine lv_if_ne (tgt := 54) hx hb dX10_place_37 (by decide) (fun c_37 => ?_) (fun c_37 => ?_)
        ·
          refine lv_aload_n hx hb dX10_place_54 rfl (lv_at hl 0 rfl) ?_
          refine va_get (D := D) (ci := 10) (v := .ref qy) (C := RX10) (T := TX10) (N := 40) hx hb hts iX10 hown hK hP 0 rfl rfl 32 (by decide) (hts (.fieldLink RX10 50 "DeepHoleModel" "ys" "[I") (by decide +kernel)) (fun _ h9 => h9) rfl dX10_place_55 ?_
          refine lv_bipush (v := 41) hx hb dX10_place_58 (by decide) ?_
          refine lv_iload_n hx hb dX10_place_60 rfl (lv_at hl 1 rfl) ?_
          refine lv_imul hx hb dX10_place_61 ?_
          refine lv_eqi (z := nI (41 * k)) (pk_mul _ _) ?_
          refine lv_iload_n hx hb dX10_place_62 rfl (lv_at hl 2 rfl) ?_
          refine lv_iadd hx hb dX10_place_63 ?_
          refine lv_eqi (z := nI ((41 * k) + iN)) (nI_add _ _) ?_
          refine rd_i hx hb hK hP 3 0 rfl rfl (k := (41 * k) + iN) (by omega) (by decide) dX10_place_64 ?_
          exact W.iret (v := qyf ((41 * k) + iN)) hx hb hr (fun t ht hW => ⟨_, rfl, (by have hC := And.intro c_20 c_30; unfold aPlace; rw [if_pos hC, nI_clamp (by omega)]; first | rw [if_pos c_37] | (rw [if_neg c_37]; exact hyy iN (by omega))), ht⟩) (fun _ h => absurd h List.not_mem_nil) dX10_place_65
        ·
          refine lv_aload_n hx hb dX10_place_40 rfl (lv_at hl 0 rfl) ?_
          refine va_get (D := D) (ci := 10) (v := .ref qx) (C := RX10) (T := TX10) (N := 40) hx hb hts iX10 hown hK hP 0 rfl rfl 31 (by decide) (hts (.fieldLink RX10 47 "DeepHoleModel" "xs" "[I") (by decide +kernel)) (fun _ h9 => h9) rfl dX10_place_41 ?_
          refine lv_bipush (v := 41) hx hb dX10_place_44 (by decide) ?_
          refine lv_iload_n hx hb dX10_place_46 rfl (lv_at hl 1 rfl) ?_
          refine lv_imul hx hb dX10_place_47 ?_
          refine lv_eqi (z := nI (41 * k)) (pk_mul _ _) ?_
          refine lv_iload_n hx hb dX10_place_48 rfl (lv_at hl 2 rfl) ?_
          refine lv_iadd hx hb dX10_place_49 ?_
          refine lv_eqi (z := nI ((41 * k) + iN)) (nI_add _ _) ?_
          refine rd_i hx hb hK hP 2 0 rfl rfl (k := (41 * k) + iN) (by omega) (by decide) dX10_place_50 ?_
          refine lv_eqi (z := xs iN) (hxx iN (by omega)) ?_
          refine lv_goto (tgt := 65) hx hb dX10_place_51 (by decide) ?_
          exact W.iret (v := xs iN) hx hb hr (fun t ht hW => ⟨_, rfl, (by have hC := And.intro c_20 c_30; unfold aPlace; rw [if_pos hC, nI_clamp (by omega)]; first | rw [if_pos c_37] | (rw [if_neg c_37]; exact hyy iN (by omega))), ht⟩) (fun _ h => absurd h List.not_mem_nil) dX10_place_65
      ·
        have c_30 := bz c_30
        refine lv_ldc hx hb hown (hts (.constant RX10 202 (-2147483648)) (by decide +kernel)) dX10_place_33 ?_
        exact W.iret (v := (-2147483648)) hx hb hr (fun t ht hW => ⟨_, rfl, (by unfold aPlace; first | rw [if_neg (fun h => c_20 h.1)] | rw [if_neg (fun h => c_30 h.2)]), ht⟩) (fun _ h => absurd h List.not_mem_nil) dX10_place_35

set_option maxHeartbeats 4000000 in
set_option maxRecDepth 100000 in
theorem c_X10_place_b {l : Launch} {D : va_G} {cI cS cP : ClassId} {sz : Nat} {m0 qk qp qr qc qm qb qf qs qt qx qy qo qz qi qv : Nat} {d sh low high nb cap sw np fe te kk : Nat} {le mo kd am wt md no nt fd : Int32} {z1 z2 z3 z4 z5 : Int64} {h1 : Int32} {i1 wh_ : Int32} (hbad : ¬ (0 ≤ h1 ∧ h1 ≤ 1)) : Met l yX10_place wsX10_place ({ frames := 2, cells := 0, slots := 0, locals := 45 }) (PC D (TY cI cS cP) [.ref m0, .int h1, .int i1, .int wh_] sz [(m0, .inr (10, [.ref qk, .int (nI d), .int (nI sh), .int (nI low), .int (nI high), .int le, .int mo, .int (nI nb), .ref qp, .ref qr, .ref qc, .ref qm, .ref qb, .int (nI cap), .int kd, .int am, .int wt, .int md, .long z1, .long z2, .long z3, .long z4, .long z5, .int (nI sw), .int (nI np), .ref qf, .ref qs, .int (nI fe), .int (nI te), .int (nI kk), .ref qt, .ref qx, .ref qy, .int no, .int nt, .ref qo, .ref qz, .ref qi, .ref qv, .int fd]))]) (vp_Si (fun r => r = -2147483648)) 0 0 (fun _ => False) := by
  refine Met.ofW (cc := cX10_place) (maxL := 4) (ret := (some .int)) (by decide) rfl ?_
  intro p e s m args below meth c s₁ B hml hv
  obtain ⟨rfl, hsz, hP, hK, hD0, hN⟩ := hv
  have hx := B.exec
  have hb := B.bytes
  have hr := B.returns
  have hts := atoms_spec (ws := wsX10_place) B.pre
  have hown : s.vm.findClass RX10 = some m.cls := findClass_of_methodNamed B.named
  have hlocks := B.notSynchronized
  subst hsz
  have hD := hD0
  have hP : va_P D vwCl [(m0, .inr (10, [.ref qk, .int (nI d), .int (nI sh), .int (nI low), .int (nI high), .int le, .int mo, .int (nI nb), .ref qp, .ref qr, .ref qc, .ref qm, .ref qb, .int (nI cap), .int kd, .int am, .int wt, .int md, .long z1, .long z2, .long z3, .long z4, .long z5, .int (nI sw), .int (nI np), .ref qf, .ref qs, .int (nI fe), .int (nI te), .int (nI kk), .ref qt, .ref qx, .ref qy, .int no, .int nt, .ref qo, .ref qz, .ref qi, .ref qv, .int fd]))] s.heap := hP
  have hl := lv_entry ([.ref m0, .int h1, .int i1, .int wh_]) (n := 4) (Nat.le_of_ble_eq_true rfl)
  rw [lg_entry_eq]
  generalize (lg_sl ([.ref m0, .int h1, .int i1, .int wh_]) ++ List.replicate (4 - (lg_sl ([.ref m0, .int h1, .int i1, .int wh_])).length) Slot.unset).toArray = ls at hl ⊢
  have hl : lv_has ls 4 [(0, .ref m0), (1, .int h1), (2, .int i1), (3, .int wh_)] := hl
  refine lv_iload_n hx hb dX10_place_0 rfl (lv_at hl 1 rfl) ?_
  refine q_S (tys := TY cI cS cP) (D := D) ⟨hx, hb, hml, hown, hts⟩ [.int h1] [] c_X10_isHole (va_cwS 1 hts gX10_place_X10_isHole rfl rfl rfl (by decide +kernel) ⟨Nat.le_of_ble_eq_true rfl, Nat.le_of_ble_eq_true rfl⟩) hK hN rfl hl.1 rfl (Nat.le_of_ble_eq_true rfl) dX10_place_1 ⟨Nat.zero_le _, Nat.zero_le _⟩ (fun r hw => ?_)
  subst hw
  refine lv_if_eq (tgt := 33) hx hb dX10_place_4 (by decide) (fun c_4 => ?_) (fun c_4 => ?_)
  ·
    have c_4 := bz c_4
    refine lv_ldc hx hb hown (hts (.constant RX10 202 (-2147483648)) (by decide +kernel)) dX10_place_33 ?_
    exact W.iret (v := (-2147483648)) hx hb hr (fun t ht hW => ⟨_, rfl, (by rfl), ht⟩) (fun _ h => absurd h List.not_mem_nil) dX10_place_35
  ·
    have c_4 := bnz c_4
    exact absurd c_4 hbad

set_option maxHeartbeats 4000000 in
set_option maxRecDepth 100000 in
theorem c_X10_findNearest {l : Launch} {D : va_G} {cI cS cP : ClassId} {sz : Nat} {m0 qk qp qr qc qm qb qf qs qt qx qy qo qz qi qv : Nat} {d sh low high nb cap sw np fe te kk : Nat} {le mo kd am wt md no nt fd : Int32} {z1 z2 z3 z4 z5 : Int64} {stf qxf qyf : Nat → Int32} {na nq : Nat} {xs ys xt yt : Nat → Int32} (hs0 : stf 0 = nI na) (hs1 : stf 1 = nI nq) (hna : na ≤ 40) (hnq : nq ≤ 40) (hx0 : ∀ j, j ≤ na → qxf j = xs j) (hy0 : ∀ j, j ≤ na → qyf j = ys j) (hx1 : ∀ j, j ≤ nq → qxf (41 + j) = xt j) (hy1 : ∀ j, j ≤ nq → qyf (41 + j) = yt j) (hDb : ∀ i j, i ≤ na → j ≤ nq → 0 ≤ dsq xs ys xt yt i j ∧ dsq xs ys xt yt i j < 9223372036854775807) : Met l yX10_findNearest wsX10_findNearest ({ frames := 0, cells := 0, slots := 0, locals := 0 }) (PC D (TY cI cS cP) [.ref m0] sz [(m0, .inr (10, [.ref qk, .int (nI d), .int (nI sh), .int (nI low), .int (nI high), .int le, .int mo, .int (nI nb), .ref qp, .ref qr, .ref qc, .ref qm, .ref qb, .int (nI cap), .int kd, .int am, .int wt, .int md, .long z1, .long z2, .long z3, .long z4, .long z5, .int (nI sw), .int (nI np), .ref qf, .ref qs, .int (nI fe), .int (nI te), .int (nI kk), .ref qt, .ref qx, .ref qy, .int no, .int nt, .ref qo, .ref qz, .ref qi, .ref qv, .int fd])), (qt, .inl (cI, 2, .inl stf)), (qx, .inl (cI, 82, .inl qxf)), (qy, .inl (cI, 82, .inl qyf))]) (QL D (fun (r : Int64) (u : Int32 × Int32) => (r = mN (ncol (dsq xs ys xt yt) nq 0 (na + 1) (9223372036854775807, no, nt)).1) ∧ (u.1, u.2) = (ncol (dsq xs ys xt yt) nq 0 (na + 1) (9223372036854775807, no, nt)).2) (fun (u : Int32 × Int32) => [(m0, .inr (10, [.ref qk, .int (nI d), .int (nI sh), .int (nI low), .int (nI high), .int le, .int mo, .int (nI nb), .ref qp, .ref qr, .ref qc, .ref qm, .ref qb, .int (nI cap), .int kd, .int am, .int wt, .int md, .long z1, .long z2, .long z3, .long z4, .long z5, .int (nI sw), .int (nI np), .ref qf, .ref qs, .int (nI fe), .int (nI te), .int (nI kk), .ref qt, .ref qx, .ref qy, .int u.1, .int u.2, .ref qo, .ref qz, .ref qi, .ref qv, .int fd])), (qt, .inl (cI, 2, .inl stf)), (qx, .inl (cI, 82, .inl qxf)), (qy, .inl (cI, 82, .inl qyf))]) (va_A [(m0, .inr (10, [.ref qk, .int (nI d), .int (nI sh), .int (nI low), .int (nI high), .int le, .int mo, .int (nI nb), .ref qp, .ref qr, .ref qc, .ref qm, .ref qb, .int (nI cap), .int kd, .int am, .int wt, .int md, .long z1, .long z2, .long z3, .long z4, .long z5, .int (nI sw), .int (nI np), .ref qf, .ref qs, .int (nI fe), .int (nI te), .int (nI kk), .ref qt, .ref qx, .ref qy, .int no, .int nt, .ref qo, .ref qz, .ref qi, .ref qv, .int fd])), (qt, .inl (cI, 2, .inl stf)), (qx, .inl (cI, 82, .inl qxf)), (qy, .inl (cI, 82, .inl qyf))] sz)) 0 0 (va_A [(m0, .inr (10, [.ref qk, .int (nI d), .int (nI sh), .int (nI low), .int (nI high), .int le, .int mo, .int (nI nb), .ref qp, .ref qr, .ref qc, .ref qm, .ref qb, .int (nI cap), .int kd, .int am, .int wt, .int md, .long z1, .long z2, .long z3, .long z4, .long z5, .int (nI sw), .int (nI np), .ref qf, .ref qs, .int (nI fe), .int (nI te), .int (nI kk), .ref qt, .ref qx, .ref qy, .int no, .int nt, .ref qo, .ref qz, .ref qi, .ref qv, .int fd])), (qt, .inl (cI, 2, .inl stf)), (qx, .inl (cI, 82, .inl qxf)), (qy, .inl (cI, 82, .inl qyf))] sz) := by
  refine Met.ofW (cc := cX10_findNearest) (maxL := 9) (ret := (some .long)) (by decide) rfl ?_
  intro p e s m args below meth c s₁ B hml hv
  obtain ⟨rfl, hsz, hP, hK, hD0, hN⟩ := hv
  have hx := B.exec
  have hb := B.bytes
  have hr := B.returns
  have hts := atoms_spec (ws := wsX10_findNearest) B.pre
  have hown : s.vm.findClass RX10 = some m.cls := findClass_of_methodNamed B.named
  have hlocks := B.notSynchronized
  subst hsz
  have iX10 : ∀ w ∈ u_ws RX10 TX10 40, w ∈ wsX10_findNearest := by decide +kernel
  have hD := hD0.self (sz := s.heap.size)
  generalize hAe : va_A [(m0, .inr (10, [.ref qk, .int (nI d), .int (nI sh), .int (nI low), .int (nI high), .int le, .int mo, .int (nI nb), .ref qp, .ref qr, .ref qc, .ref qm, .ref qb, .int (nI cap), .int kd, .int am, .int wt, .int md, .long z1, .long z2, .long z3, .long z4, .long z5, .int (nI sw), .int (nI np), .ref qf, .ref qs, .int (nI fe), .int (nI te), .int (nI kk), .ref qt, .ref qx, .ref qy, .int no, .int nt, .ref qo, .ref qz, .ref qi, .ref qv, .int fd])), (qt, .inl (cI, 2, .inl stf)), (qx, .inl (cI, 82, .inl qxf)), (qy, .inl (cI, 82, .inl qyf))] s.heap.size = A at hD ⊢
  have hA : ∀ q : Nat, s.heap.size ≤ q → A q := fun q h => by rw [← hAe]; exact Or.inr h
  have hS : va_S A s.heap s.heap [] := va_S.rf
  have hP : va_P D vwCl [(m0, .inr (10, [.ref qk, .int (nI d), .int (nI sh), .int (nI low), .int (nI high), .int le, .int mo, .int (nI nb), .ref qp, .ref qr, .ref qc, .ref qm, .ref qb, .int (nI cap), .int kd, .int am, .int wt, .int md, .long z1, .long z2, .long z3, .long z4, .long z5, .int (nI sw), .int (nI np), .ref qf, .ref qs, .int (nI fe), .int (nI te), .int (nI kk), .ref qt, .ref qx, .ref qy, .int no, .int nt, .ref qo, .ref qz, .ref qi, .ref qv, .int fd])), (qt, .inl (cI, 2, .inl stf)), (qx, .inl (cI, 82, .inl qxf)), (qy, .inl (cI, 82, .inl qyf))] s.heap := hP
  have hl := lv_entry ([.ref m0]) (n := 9) (Nat.le_of_ble_eq_true rfl)
  rw [lg_entry_eq]
  generalize (lg_sl ([.ref m0]) ++ List.replicate (9 - (lg_sl ([.ref m0])).length) Slot.unset).toArray = ls at hl ⊢
  have hl : lv_has ls 9 [(0, .ref m0)] := hl
  refine lv_ldc2 hx hb hown (hts (.constantLong RX10 146 (-1)) (by decide +kernel)) dX10_findNearest_0 ?_
  refine lv_lstore_n (lv' := [(1, .long (-1)), (0, .ref m0)]) hx hb dX10_findNearest_3 rfl hl (by decide) rfl (fun ls hl => ?_)
  refine lv_iconst (v := 0) hx hb dX10_findNearest_4 (by decide) ?_
  refine lv_istore_n (lv' := [(3, .int 0), (1, .long (-1)), (0, .ref m0)]) hx hb dX10_findNearest_5 rfl hl (by decide) rfl (fun ls hl => ?_)
  have hl : lv_has ls 9 [(3, .int 0), (1, .long (mN 9223372036854775807)), (0, .ref m0)] := by rw [← (show (-1 : Int64) = mN 9223372036854775807 from rfl)]; exact hl
  refine lp_w (I := fun zz9 H locs ls => ∃ (i : Nat) (g : Int64) (fa_ fb_ : Int32), zz9 = na + 1 - i ∧ (i ≤ na + 1) ∧ ((0 : Int64) ≤ g) ∧ (ncol (dsq xs ys xt yt) nq 0 (na + 1) (9223372036854775807, no, nt) = ncol (dsq xs ys xt yt) nq i (na + 1 - i) (g, fa_, fb_)) ∧ va_P D vwCl [(m0, .inr (10, [.ref qk, .int (nI d), .int (nI sh), .int (nI low), .int (nI high), .int le, .int mo, .int (nI nb), .ref qp, .ref qr, .ref qc, .ref qm, .ref qb, .int (nI cap), .int kd, .int am, .int wt, .int md, .long z1, .long z2, .long z3, .long z4, .long z5, .int (nI sw), .int (nI np), .ref qf, .ref qs, .int (nI fe), .int (nI te), .int (nI kk), .ref qt, .ref qx, .ref qy, .int fa_, .int fb_, .ref qo, .ref qz, .ref qi, .ref qv, .int fd])), (qt, .inl (cI, 2, .inl stf)), (qx, .inl (cI, 82, .inl qxf)), (qy, .inl (cI, 82, .inl qyf))] H ∧ va_D A [(m0, .inr (10, [.ref qk, .int (nI d), .int (nI sh), .int (nI low), .int (nI high), .int le, .int mo, .int (nI nb), .ref qp, .ref qr, .ref qc, .ref qm, .ref qb, .int (nI cap), .int kd, .int am, .int wt, .int md, .long z1, .long z2, .long z3, .long z4, .long z5, .int (nI sw), .int (nI np), .ref qf, .ref qs, .int (nI fe), .int (nI te), .int (nI kk), .ref qt, .ref qx, .ref qy, .int fa_, .int fb_, .ref qo, .ref qz, .ref qi, .ref qv, .int fd])), (qt, .inl (cI, 2, .inl stf)), (qx, .inl (cI, 82, .inl qxf)), (qy, .inl (cI, 82, .inl qyf))] ∧ va_S A s.heap H locs ∧ lv_has ls 9 [(0, .ref m0), (1, .long (mN g)), (3, .int (nI i))]) ?_ (na + 1 - 0) ⟨0, 9223372036854775807, no, nt, rfl, (by omega), (by decide), (rfl), hP.sub [0, 1, 2, 3] rfl, hD.sub [0, 1, 2, 3] (by decide) rfl, hS, lv_sub hl [2, 1, 0] rfl⟩
  intro n_6 H locs ls ih_6 hI
  obtain ⟨i, g, fa_, fb_, hn_6, hi, hg0, hs_, hP, hD, hS, hl⟩ := hI
  refine lv_iload_n hx hb dX10_findNearest_6 rfl (lv_at hl 2 rfl) ?_
  refine lv_aload_n hx hb dX10_findNearest_7 rfl (lv_at hl 0 rfl) ?_
  refine va_get (D := D) (ci := 10) (v := .ref qt) (C := RX10) (T := TX10) (N := 40) hx hb hts iX10 hown hK hP 0 rfl rfl 30 (by decide) (hts (.fieldLink RX10 44 "DeepHoleModel" "stations" "[I") (by decide +kernel)) (fun _ h9 => h9) rfl dX10_findNearest_8 ?_
  refine lv_iconst (v := 0) hx hb dX10_findNearest_11 (by decide) ?_
  refine rd_i hx hb hK hP 1 0 rfl rfl (k := 0) (by omega) (by decide) dX10_findNearest_12 ?_
  refine lv_eqi (z := nI na) (hs0) ?_
  refine lv_icmp_gt (tgt := 134) hx hb dX10_findNearest_13 (by decide) (fun c_13 => ?_) (fun c_13 => ?_)
  ·
    have c_13 := n_gt (a := i) (b := na) c_13 (by omega) (by omega)
    refine lv_lload_n hx hb dX10_findNearest_134 rfl (lv_at hl 1 rfl) ?_
    have hP9 := hP.sub (ws' := [(m0, .inr (10, [.ref qk, .int (nI d), .int (nI sh), .int (nI low), .int (nI high), .int le, .int mo, .int (nI nb), .ref qp, .ref qr, .ref qc, .ref qm, .ref qb, .int (nI cap), .int kd, .int am, .int wt, .int md, .long z1, .long z2, .long z3, .long z4, .long z5, .int (nI sw), .int (nI np), .ref qf, .ref qs, .int (nI fe), .int (nI te), .int (nI kk), .ref qt, .ref qx, .ref qy, .int fa_, .int fb_, .ref qo, .ref qz, .ref qi, .ref qv, .int fd])), (qt, .inl (cI, 2, .inl stf)), (qx, .inl (cI, 82, .inl qxf)), (qy, .inl (cI, 82, .inl qyf))]) [0, 1, 2, 3] rfl
    have hD9 := hD.sub (ws' := [(m0, .inr (10, [.ref qk, .int (nI d), .int (nI sh), .int (nI low), .int (nI high), .int le, .int mo, .int (nI nb), .ref qp, .ref qr, .ref qc, .ref qm, .ref qb, .int (nI cap), .int kd, .int am, .int wt, .int md, .long z1, .long z2, .long z3, .long z4, .long z5, .int (nI sw), .int (nI np), .ref qf, .ref qs, .int (nI fe), .int (nI te), .int (nI kk), .ref qt, .ref qx, .ref qy, .int fa_, .int fb_, .ref qo, .ref qz, .ref qi, .ref qv, .int fd])), (qt, .inl (cI, 2, .inl stf)), (qx, .inl (cI, 82, .inl qxf)), (qy, .inl (cI, 82, .inl qyf))]) [0, 1, 2, 3] (by decide) rfl
    exact W.lret (v := mN g) hx hb hr (fun t ht hW => ⟨⟨_, (fa_, fb_), rfl, (by exact ⟨by rw [hs_, show na + 1 - i = 0 by omega]; rfl, by rw [hs_, show na + 1 - i = 0 by omega]; rfl⟩), by rw [ht]; exact hP9, hD9⟩, hS.F ht⟩) hS.2.2 dX10_findNearest_135
  ·
    have c_13 := n_ngt (a := i) (b := na) c_13 (by omega) (by omega)
    refine lv_iconst (v := 0) hx hb dX10_findNearest_16 (by decide) ?_
    refine lv_istore (lv' := [(4, .int 0), (0, .ref m0), (1, .long (mN g)), (3, .int (nI i))]) hx hb dX10_findNearest_17 hl (by decide) rfl (fun ls hl => ?_)
    refine lp_w (I := fun zz9 H locs ls => ∃ (j : Nat) (g : Int64) (fa_ fb_ : Int32), zz9 = nq + 1 - j ∧ (j ≤ nq + 1) ∧ ((0 : Int64) ≤ g) ∧ (ncol (dsq xs ys xt yt) nq 0 (na + 1) (9223372036854775807, no, nt) = ncol (dsq xs ys xt yt) nq (i + 1) (na - i) (nrow (dsq xs ys xt yt) i (max j (nj0 i)) (nq + 1 - max j (nj0 i)) (g, fa_, fb_))) ∧ va_P D vwCl [(m0, .inr (10, [.ref qk, .int (nI d), .int (nI sh), .int (nI low), .int (nI high), .int le, .int mo, .int (nI nb), .ref qp, .ref qr, .ref qc, .ref qm, .ref qb, .int (nI cap), .int kd, .int am, .int wt, .int md, .long z1, .long z2, .long z3, .long z4, .long z5, .int (nI sw), .int (nI np), .ref qf, .ref qs, .int (nI fe), .int (nI te), .int (nI kk), .ref qt, .ref qx, .ref qy, .int fa_, .int fb_, .ref qo, .ref qz, .ref qi, .ref qv, .int fd])), (qt, .inl (cI, 2, .inl stf)), (qx, .inl (cI, 82, .inl qxf)), (qy, .inl (cI, 82, .inl qyf))] H ∧ va_D A [(m0, .inr (10, [.ref qk, .int (nI d), .int (nI sh), .int (nI low), .int (nI high), .int le, .int mo, .int (nI nb), .ref qp, .ref qr, .ref qc, .ref qm, .ref qb, .int (nI cap), .int kd, .int am, .int wt, .int md, .long z1, .long z2, .long z3, .long z4, .long z5, .int (nI sw), .int (nI np), .ref qf, .ref qs, .int (nI fe), .int (nI te), .int (nI kk), .ref qt, .ref qx, .ref qy, .int fa_, .int fb_, .ref qo, .ref qz, .ref qi, .ref qv, .int fd])), (qt, .inl (cI, 2, .inl stf)), (qx, .inl (cI, 82, .inl qxf)), (qy, .inl (cI, 82, .inl qyf))] ∧ va_S A s.heap H locs ∧ lv_has ls 9 [(0, .ref m0), (1, .long (mN g)), (3, .int (nI i)), (4, .int (nI j))]) ?_ (nq + 1 - 0) ⟨0, g, fa_, fb_, rfl, (by omega), (hg0), (by rw [hs_, ncol_step (by omega), show na + 1 - i - 1 = na - i by omega, Nat.zero_max]), hP.sub [0, 1, 2, 3] rfl, hD.sub [0, 1, 2, 3] (by decide) rfl, hS, lv_sub hl [1, 2, 3, 0] rfl⟩
    intro n_19 H locs ls ih_19 hI
    obtain ⟨j, g, fa_, fb_, hn_19, hj, hg0, hs2, hP, hD, hS, hl⟩ := hI
    refine lv_iload hx hb dX10_findNearest_19 (lv_at hl 3 rfl) ?_
    refine lv_aload_n hx hb dX10_findNearest_21 rfl (lv_at hl 0 rfl) ?_
    refine va_get (D := D) (ci := 10) (v := .ref qt) (C := RX10) (T := TX10) (N := 40) hx hb hts iX10 hown hK hP 0 rfl rfl 30 (by decide) (hts (.fieldLink RX10 44 "DeepHoleModel" "stations" "[I") (by decide +kernel)) (fun _ h9 => h9) rfl dX10_findNearest_22 ?_
    refine lv_iconst (v := 1) hx hb dX10_findNearest_25 (by decide) ?_
    refine rd_i hx hb hK hP 1 0 rfl rfl (k := 1) (by omega) (by decide) dX10_findNearest_26 ?_
    refine lv_eqi (z := nI nq) (hs1) ?_
    refine lv_icmp_gt (tgt := 128) hx hb dX10_findNearest_27 (by decide) (fun c_27 => ?_) (fun c_27 => ?_)
    ·
      have c_27 := n_gt (a := j) (b := nq) c_27 (by omega) (by omega)
      refine lv_iinc (v := nI (i + 1)) (lv' := [(3, .int (nI (i + 1))), (0, .ref m0), (1, .long (mN g)), (4, .int (nI j))]) hx hb dX10_findNearest_128 hl (k := 2) rfl (nI_1 _) (by decide) rfl (fun ls hl => ?_)
      refine lv_goto (tgt := 6) hx hb dX10_findNearest_131 (by decide) ?_
      exact ih_6 _ _ _ _ (by omega) ⟨i + 1, g, fa_, fb_, rfl, (by omega), (hg0), (by rw [hs2, show nq + 1 - max j (nj0 i) = 0 by omega, show na + 1 - (i + 1) = na - i by omega]; rfl), hP.sub [0, 1, 2, 3] rfl, hD.sub [0, 1, 2, 3] (by decide) rfl, hS, lv_sub hl [1, 2, 0] rfl⟩
    ·
      have c_27 := n_ngt (a := j) (b := nq) c_27 (by omega) (by omega)
      refine lv_aload_n hx hb dX10_findNearest_30 rfl (lv_at hl 0 rfl) ?_
      refine va_get (D := D) (ci := 10) (v := .ref qx) (C := RX10) (T := TX10) (N := 40) hx hb hts iX10 hown hK hP 0 rfl rfl 31 (by decide) (hts (.fieldLink RX10 47 "DeepHoleModel" "xs" "[I") (by decide +kernel)) (fun _ h9 => h9) rfl dX10_findNearest_31 ?_
      refine lv_iload_n hx hb dX10_findNearest_34 rfl (lv_at hl 2 rfl) ?_
      refine rd_i hx hb hK hP 2 0 rfl rfl (k := i) (by omega) (by decide) dX10_findNearest_35 ?_
      refine lv_eqi (z := xs i) (hx0 i (by omega)) ?_
      refine lv_aload_n hx hb dX10_findNearest_36 rfl (lv_at hl 0 rfl) ?_
      refine va_get (D := D) (ci := 10) (v := .ref qx) (C := RX10) (T := TX10) (N := 40) hx hb hts iX10 hown hK hP 0 rfl rfl 31 (by decide) (hts (.fieldLink RX10 47 "DeepHoleModel" "xs" "[I") (by decide +kernel)) (fun _ h9 => h9) rfl dX10_findNearest_37 ?_
      refine lv_bipush (v := 41) hx hb dX10_findNearest_40 (by decide) ?_
      refine lv_iload hx hb dX10_findNearest_42 (lv_at hl 3 rfl) ?_
      refine lv_iadd hx hb dX10_findNearest_44 ?_
      refine lv_eqi (z := nI (41 + j)) (nI_add _ _) ?_
      refine rd_i hx hb hK hP 2 0 rfl rfl (k := 41 + j) (by omega) (by decide) dX10_findNearest_45 ?_
      refine lv_eqi (z := xt j) (hx1 j (by omega)) ?_
      refine lv_isub hx hb dX10_findNearest_46 ?_
      refine lv_i2l (v := ((xs i) - (xt j)).toInt64) hx hb dX10_findNearest_47 rfl ?_
      refine lv_lstore (lv' := [(5, .long (((xs i) - (xt j)).toInt64)), (0, .ref m0), (1, .long (mN g)), (3, .int (nI i)), (4, .int (nI j))]) hx hb dX10_findNearest_48 hl (by decide) rfl (fun ls hl => ?_)
      refine lv_aload_n hx hb dX10_findNearest_50 rfl (lv_at hl 1 rfl) ?_
      refine va_get (D := D) (ci := 10) (v := .ref qy) (C := RX10) (T := TX10) (N := 40) hx hb hts iX10 hown hK hP 0 rfl rfl 32 (by decide) (hts (.fieldLink RX10 50 "DeepHoleModel" "ys" "[I") (by decide +kernel)) (fun _ h9 => h9) rfl dX10_findNearest_51 ?_
      refine lv_iload_n hx hb dX10_findNearest_54 rfl (lv_at hl 3 rfl) ?_
      refine rd_i hx hb hK hP 3 0 rfl rfl (k := i) (by omega) (by decide) dX10_findNearest_55 ?_
      refine lv_eqi (z := ys i) (hy0 i (by omega)) ?_
      refine lv_aload_n hx hb dX10_findNearest_56 rfl (lv_at hl 1 rfl) ?_
      refine va_get (D := D) (ci := 10) (v := .ref qy) (C := RX10) (T := TX10) (N := 40) hx hb hts iX10 hown hK hP 0 rfl rfl 32 (by decide) (hts (.fieldLink RX10 50 "DeepHoleModel" "ys" "[I") (by decide +kernel)) (fun _ h9 => h9) rfl dX10_findNearest_57 ?_
      refine lv_bipush (v := 41) hx hb dX10_findNearest_60 (by decide) ?_
      refine lv_iload hx hb dX10_findNearest_62 (lv_at hl 4 rfl) ?_
      refine lv_iadd hx hb dX10_findNearest_64 ?_
      refine lv_eqi (z := nI (41 + j)) (nI_add _ _) ?_
      refine rd_i hx hb hK hP 3 0 rfl rfl (k := 41 + j) (by omega) (by decide) dX10_findNearest_65 ?_
      refine lv_eqi (z := yt j) (hy1 j (by omega)) ?_
      refine lv_isub hx hb dX10_findNearest_66 ?_
      refine lv_i2l (v := ((ys i) - (yt j)).toInt64) hx hb dX10_findNearest_67 rfl ?_
      refine lv_lstore (lv' := [(7, .long (((ys i) - (yt j)).toInt64)), (5, .long (((xs i) - (xt j)).toInt64)), (0, .ref m0), (1, .long (mN g)), (3, .int (nI i)), (4, .int (nI j))]) hx hb dX10_findNearest_68 hl (by decide) rfl (fun ls hl => ?_)
      refine lv_iload_n hx hb dX10_findNearest_70 rfl (lv_at hl 4 rfl) ?_
      refine lv_iload hx hb dX10_findNearest_71 (lv_at hl 5 rfl) ?_
      refine lv_iadd hx hb dX10_findNearest_73 ?_
      refine lv_eqi (z := nI (i + j)) (nI_add _ _) ?_
      refine lv_if_le (tgt := 122) hx hb dX10_findNearest_74 (by decide) (fun c_74 => ?_) (fun c_74 => ?_)
      ·
        have c_74 := n_le (a := (i + j)) (b := 0) c_74 (by omega) (by omega)
        refine lv_iinc (v := nI (j + 1)) (lv' := [(4, .int (nI (j + 1))), (7, .long (((ys i) - (yt j)).toInt64)), (5, .long (((xs i) - (xt j)).toInt64)), (0, .ref m0), (1, .long (mN g)), (3, .int (nI i))]) hx hb dX10_findNearest_122 hl (k := 5) rfl (nI_1 _) (by decide) rfl (fun ls hl => ?_)
        refine lv_goto (tgt := 19) hx hb dX10_findNearest_125 (by decide) ?_
        exact ih_19 _ _ _ _ (by omega) ⟨j + 1, g, fa_, fb_, rfl, (by omega), (by first | exact hg0 | exact (hDb i j (by omega) (by omega)).1), (by
            first
            | rw [hs2, show max (j + 1) (nj0 i) = max j (nj0 i) from by rw [show i = 0 by omega, show j = 0 by omega]; rfl]
            | (have hmx : max j (nj0 i) = j := by unfold nj0; split <;> omega
               have hmx1 : max (j + 1) (nj0 i) = j + 1 := by unfold nj0; split <;> omega
               rw [hs2, hmx, hmx1, nrow_step (by omega), Nat.sub_sub]
               first
               | rw [nst_no (st := (g, fa_, fb_)) (by have h := c_96; rw [mN_ne (mN_nlt c_80)] at h; exact ll1 h)]
               | rw [nst_yes (st := (g, fa_, fb_)) (by have h := c_96; rw [mN_ne (mN_nlt c_80)] at h; exact ll2 h)]
               | rw [nst_yes (st := (g, fa_, fb_)) (by show dsq xs ys xt yt i j < g; rw [mN_lt hg0 c_80]; exact (hDb i j (by omega) (by omega)).2)])), hP.sub [0, 1, 2, 3] rfl, hD.sub [0, 1, 2, 3] (by decide) rfl, hS, lv_sub hl [3, 4, 5, 0] rfl⟩
      ·
        have c_74 := n_nle (a := (i + j)) (b := 0) c_74 (by omega) (by omega)
        refine lv_lload_n hx hb dX10_findNearest_77 rfl (lv_at hl 3 rfl) ?_
        refine lv_lconst (v := 0) hx hb dX10_findNearest_78 (by decide) ?_
        refine W.lcmp hx hb dX10_findNearest_79 ?_
        refine lv_if_lt (tgt := 99) hx hb dX10_findNearest_80 (by decide) (fun c_80 => ?_) (fun c_80 => ?_)
        ·
          have c_80 := (lg_cmp_lt _ _).mp c_80
          refine lv_lload hx hb dX10_findNearest_99 (lv_at hl 1 rfl) ?_
          refine lv_lload hx hb dX10_findNearest_101 (lv_at hl 1 rfl) ?_
          refine lv_lmul hx hb dX10_findNearest_103 ?_
          refine lv_lload hx hb dX10_findNearest_104 (lv_at hl 0 rfl) ?_
          refine lv_lload hx hb dX10_findNearest_106 (lv_at hl 0 rfl) ?_
          refine lv_lmul hx hb dX10_findNearest_108 ?_
          refine lv_ladd hx hb dX10_findNearest_109 ?_
          refine lv_eql (z := dsq xs ys xt yt i j) (rfl) ?_
          refine lv_lstore_n (lv' := [(1, .long (dsq xs ys xt yt i j)), (7, .long (((ys i) - (yt j)).toInt64)), (5, .long (((xs i) - (xt j)).toInt64)), (0, .ref m0), (3, .int (nI i)), (4, .int (nI j))]) hx hb dX10_findNearest_110 rfl hl (by decide) rfl (fun ls hl => ?_)
          have hl : lv_has ls 9 [(1, .long (mN (dsq xs ys xt yt i j))), (7, .long (((ys i) - (yt j)).toInt64)), (5, .long (((xs i) - (xt j)).toInt64)), (0, .ref m0), (3, .int (nI i)), (4, .int (nI j))] := by rw [← (mN_ne (l_ne (hDb i j (by omega) (by omega)).2)).symm]; exact hl
          refine lv_aload_n hx hb dX10_findNearest_111 rfl (lv_at hl 3 rfl) ?_
          refine lv_iload_n hx hb dX10_findNearest_112 rfl (lv_at hl 4 rfl) ?_
          refine va_put (D := D) (ci := 10) (v := .int (nI i)) (ty := .int) (C := RX10) (T := TX10) (N := 40) hx hb hts iX10 tyX10 tyX10_ok nmX10 hown hK hP hD hS 0 rfl rfl 33 (by decide) (hts (.fieldLink RX10 203 "DeepHoleModel" "nearOne" "I") (by decide +kernel)) (fun _ h9 => h9) rfl (by decide +kernel) rfl rfl (Nat.le_of_ble_eq_true rfl) dX10_findNearest_113 (fun H locs hP hD hS => ?_)
          have hP : va_P D vwCl [(m0, .inr (10, [.ref qk, .int (nI d), .int (nI sh), .int (nI low), .int (nI high), .int le, .int mo, .int (nI nb), .ref qp, .ref qr, .ref qc, .ref qm, .ref qb, .int (nI cap), .int kd, .int am, .int wt, .int md, .long z1, .long z2, .long z3, .long z4, .long z5, .int (nI sw), .int (nI np), .ref qf, .ref qs, .int (nI fe), .int (nI te), .int (nI kk), .ref qt, .ref qx, .ref qy, .int (nI i), .int fb_, .ref qo, .ref qz, .ref qi, .ref qv, .int fd])), (qt, .inl (cI, 2, .inl stf)), (qx, .inl (cI, 82, .inl qxf)), (qy, .inl (cI, 82, .inl qyf))] H := hP
          have hD : va_D A [(m0, .inr (10, [.ref qk, .int (nI d), .int (nI sh), .int (nI low), .int (nI high), .int le, .int mo, .int (nI nb), .ref qp, .ref qr, .ref qc, .ref qm, .ref qb, .int (nI cap), .int kd, .int am, .int wt, .int md, .long z1, .long z2, .long z3, .long z4, .long z5, .int (nI sw), .int (nI np), .ref qf, .ref qs, .int (nI fe), .int (nI te), .int (nI kk), .ref qt, .ref qx, .ref qy, .int (nI i), .int fb_, .ref qo, .ref qz, .ref qi, .ref qv, .int fd])), (qt, .inl (cI, 2, .inl stf)), (qx, .inl (cI, 82, .inl qxf)), (qy, .inl (cI, 82, .inl qyf))] := hD
          refine lv_aload_n hx hb dX10_findNearest_116 rfl (lv_at hl 3 rfl) ?_
          refine lv_iload hx hb dX10_findNearest_117 (lv_at hl 5 rfl) ?_
          refine va_put (D := D) (ci := 10) (v := .int (nI j)) (ty := .int) (C := RX10) (T := TX10) (N := 40) hx hb hts iX10 tyX10 tyX10_ok nmX10 hown hK hP hD hS 0 rfl rfl 34 (by decide) (hts (.fieldLink RX10 206 "DeepHoleModel" "nearTwo" "I") (by decide +kernel)) (fun _ h9 => h9) rfl (by decide +kernel) rfl rfl (Nat.le_of_ble_eq_true rfl) dX10_findNearest_119 (fun H locs hP hD hS => ?_)
          have hP : va_P D vwCl [(m0, .inr (10, [.ref qk, .int (nI d), .int (nI sh), .int (nI low), .int (nI high), .int le, .int mo, .int (nI nb), .ref qp, .ref qr, .ref qc, .ref qm, .ref qb, .int (nI cap), .int kd, .int am, .int wt, .int md, .long z1, .long z2, .long z3, .long z4, .long z5, .int (nI sw), .int (nI np), .ref qf, .ref qs, .int (nI fe), .int (nI te), .int (nI kk), .ref qt, .ref qx, .ref qy, .int (nI i), .int (nI j), .ref qo, .ref qz, .ref qi, .ref qv, .int fd])), (qt, .inl (cI, 2, .inl stf)), (qx, .inl (cI, 82, .inl qxf)), (qy, .inl (cI, 82, .inl qyf))] H := hP
          have hD : va_D A [(m0, .inr (10, [.ref qk, .int (nI d), .int (nI sh), .int (nI low), .int (nI high), .int le, .int mo, .int (nI nb), .ref qp, .ref qr, .ref qc, .ref qm, .ref qb, .int (nI cap), .int kd, .int am, .int wt, .int md, .long z1, .long z2, .long z3, .long z4, .long z5, .int (nI sw), .int (nI np), .ref qf, .ref qs, .int (nI fe), .int (nI te), .int (nI kk), .ref qt, .ref qx, .ref qy, .int (nI i), .int (nI j), .ref qo, .ref qz, .ref qi, .ref qv, .int fd])), (qt, .inl (cI, 2, .inl stf)), (qx, .inl (cI, 82, .inl qxf)), (qy, .inl (cI, 82, .inl qyf))] := hD
          refine lv_iinc (v := nI (j + 1)) (lv' := [(4, .int (nI (j + 1))), (1, .long (mN (dsq xs ys xt yt i j))), (7, .long (((ys i) - (yt j)).toInt64)), (5, .long (((xs i) - (xt j)).toInt64)), (0, .ref m0), (3, .int (nI i))]) hx hb dX10_findNearest_122 hl (k := 5) rfl (nI_1 _) (by decide) rfl (fun ls hl => ?_)
          refine lv_goto (tgt := 19) hx hb dX10_findNearest_125 (by decide) ?_
          exact ih_19 _ _ _ _ (by omega) ⟨j + 1, (dsq xs ys xt yt i j), nI i, nI j, rfl, (by omega), (by first | exact hg0 | exact (hDb i j (by omega) (by omega)).1), (by
              first
              | rw [hs2, show max (j + 1) (nj0 i) = max j (nj0 i) from by rw [show i = 0 by omega, show j = 0 by omega]; rfl]
              | (have hmx : max j (nj0 i) = j := by unfold nj0; split <;> omega
                 have hmx1 : max (j + 1) (nj0 i) = j + 1 := by unfold nj0; split <;> omega
                 rw [hs2, hmx, hmx1, nrow_step (by omega), Nat.sub_sub]
                 first
                 | rw [nst_no (st := (g, fa_, fb_)) (by have h := c_96; rw [mN_ne (mN_nlt c_80)] at h; exact ll1 h)]
                 | rw [nst_yes (st := (g, fa_, fb_)) (by have h := c_96; rw [mN_ne (mN_nlt c_80)] at h; exact ll2 h)]
                 | rw [nst_yes (st := (g, fa_, fb_)) (by show dsq xs ys xt yt i j < g; rw [mN_lt hg0 c_80]; exact (hDb i j (by omega) (by omega)).2)])), hP.sub [0, 1, 2, 3] rfl, hD.sub [0, 1, 2, 3] (by decide) rfl, hS, lv_sub hl [4, 1, 5, 0] rfl⟩
        ·
          have c_80 := fun h => c_80 ((lg_cmp_lt _ _).mpr h)
          refine lv_lload hx hb dX10_findNearest_83 (lv_at hl 1 rfl) ?_
          refine lv_lload hx hb dX10_findNearest_85 (lv_at hl 1 rfl) ?_
          refine lv_lmul hx hb dX10_findNearest_87 ?_
          refine lv_lload hx hb dX10_findNearest_88 (lv_at hl 0 rfl) ?_
          refine lv_lload hx hb dX10_findNearest_90 (lv_at hl 0 rfl) ?_
          refine lv_lmul hx hb dX10_findNearest_92 ?_
          refine lv_ladd hx hb dX10_findNearest_93 ?_
          refine lv_eql (z := dsq xs ys xt yt i j) (rfl) ?_
          refine lv_lload_n hx hb dX10_findNearest_94 rfl (lv_at hl 3 rfl) ?_
          refine W.lcmp hx hb dX10_findNearest_95 ?_
          refine lv_if_ge (tgt := 122) hx hb dX10_findNearest_96 (by decide) (fun c_96 => ?_) (fun c_96 => ?_)
          ·
            have c_96 := (lg_cmp_ge _ _).mp c_96
            refine lv_iinc (v := nI (j + 1)) (lv' := [(4, .int (nI (j + 1))), (7, .long (((ys i) - (yt j)).toInt64)), (5, .long (((xs i) - (xt j)).toInt64)), (0, .ref m0), (1, .long (mN g)), (3, .int (nI i))]) hx hb dX10_findNearest_122 hl (k := 5) rfl (nI_1 _) (by decide) rfl (fun ls hl => ?_)
            refine lv_goto (tgt := 19) hx hb dX10_findNearest_125 (by decide) ?_
            exact ih_19 _ _ _ _ (by omega) ⟨j + 1, g, fa_, fb_, rfl, (by omega), (by first | exact hg0 | exact (hDb i j (by omega) (by omega)).1), (by
                first
                | rw [hs2, show max (j + 1) (nj0 i) = max j (nj0 i) from by rw [show i = 0 by omega, show j = 0 by omega]; rfl]
                | (have hmx : max j (nj0 i) = j := by unfold nj0; split <;> omega
                   have hmx1 : max (j + 1) (nj0 i) = j + 1 := by unfold nj0; split <;> omega
                   rw [hs2, hmx, hmx1, nrow_step (by omega), Nat.sub_sub]
                   first
                   | rw [nst_no (st := (g, fa_, fb_)) (by have h := c_96; rw [mN_ne (mN_nlt c_80)] at h; exact ll1 h)]
                   | rw [nst_yes (st := (g, fa_, fb_)) (by have h := c_96; rw [mN_ne (mN_nlt c_80)] at h; exact ll2 h)]
                   | rw [nst_yes (st := (g, fa_, fb_)) (by show dsq xs ys xt yt i j < g; rw [mN_lt hg0 c_80]; exact (hDb i j (by omega) (by omega)).2)])), hP.sub [0, 1, 2, 3] rfl, hD.sub [0, 1, 2, 3] (by decide) rfl, hS, lv_sub hl [3, 4, 5, 0] rfl⟩
          ·
            have c_96 := fun h => c_96 ((lg_cmp_ge _ _).mpr h)
            refine lv_lload hx hb dX10_findNearest_99 (lv_at hl 1 rfl) ?_
            refine lv_lload hx hb dX10_findNearest_101 (lv_at hl 1 rfl) ?_
            refine lv_lmul hx hb dX10_findNearest_103 ?_
            refine lv_lload hx hb dX10_findNearest_104 (lv_at hl 0 rfl) ?_
            refine lv_lload hx hb dX10_findNearest_106 (lv_at hl 0 rfl) ?_
            refine lv_lmul hx hb dX10_findNearest_108 ?_
            refine lv_ladd hx hb dX10_findNearest_109 ?_
            refine lv_eql (z := dsq xs ys xt yt i j) (rfl) ?_
            refine lv_lstore_n (lv' := [(1, .long (dsq xs ys xt yt i j)), (7, .long (((ys i) - (yt j)).toInt64)), (5, .long (((xs i) - (xt j)).toInt64)), (0, .ref m0), (3, .int (nI i)), (4, .int (nI j))]) hx hb dX10_findNearest_110 rfl hl (by decide) rfl (fun ls hl => ?_)
            have hl : lv_has ls 9 [(1, .long (mN (dsq xs ys xt yt i j))), (7, .long (((ys i) - (yt j)).toInt64)), (5, .long (((xs i) - (xt j)).toInt64)), (0, .ref m0), (3, .int (nI i)), (4, .int (nI j))] := by rw [← (mN_ne (l_ne (hDb i j (by omega) (by omega)).2)).symm]; exact hl
            refine lv_aload_n hx hb dX10_findNearest_111 rfl (lv_at hl 3 rfl) ?_
            refine lv_iload_n hx hb dX10_findNearest_112 rfl (lv_at hl 4 rfl) ?_
            refine va_put (D := D) (ci := 10) (v := .int (nI i)) (ty := .int) (C := RX10) (T := TX10) (N := 40) hx hb hts iX10 tyX10 tyX10_ok nmX10 hown hK hP hD hS 0 rfl rfl 33 (by decide) (hts (.fieldLink RX10 203 "DeepHoleModel" "nearOne" "I") (by decide +kernel)) (fun _ h9 => h9) rfl (by decide +kernel) rfl rfl (Nat.le_of_ble_eq_true rfl) dX10_findNearest_113 (fun H locs hP hD hS => ?_)
            have hP : va_P D vwCl [(m0, .inr (10, [.ref qk, .int (nI d), .int (nI sh), .int (nI low), .int (nI high), .int le, .int mo, .int (nI nb), .ref qp, .ref qr, .ref qc, .ref qm, .ref qb, .int (nI cap), .int kd, .int am, .int wt, .int md, .long z1, .long z2, .long z3, .long z4, .long z5, .int (nI sw), .int (nI np), .ref qf, .ref qs, .int (nI fe), .int (nI te), .int (nI kk), .ref qt, .ref qx, .ref qy, .int (nI i), .int fb_, .ref qo, .ref qz, .ref qi, .ref qv, .int fd])), (qt, .inl (cI, 2, .inl stf)), (qx, .inl (cI, 82, .inl qxf)), (qy, .inl (cI, 82, .inl qyf))] H := hP
            have hD : va_D A [(m0, .inr (10, [.ref qk, .int (nI d), .int (nI sh), .int (nI low), .int (nI high), .int le, .int mo, .int (nI nb), .ref qp, .ref qr, .ref qc, .ref qm, .ref qb, .int (nI cap), .int kd, .int am, .int wt, .int md, .long z1, .long z2, .long z3, .long z4, .long z5, .int (nI sw), .int (nI np), .ref qf, .ref qs, .int (nI fe), .int (nI te), .int (nI kk), .ref qt, .ref qx, .ref qy, .int (nI i), .int fb_, .ref qo, .ref qz, .ref qi, .ref qv, .int fd])), (qt, .inl (cI, 2, .inl stf)), (qx, .inl (cI, 82, .inl qxf)), (qy, .inl (cI, 82, .inl qyf))] := hD
            refine lv_aload_n hx hb dX10_findNearest_116 rfl (lv_at hl 3 rfl) ?_
            refine lv_iload hx hb dX10_findNearest_117 (lv_at hl 5 rfl) ?_
            refine va_put (D := D) (ci := 10) (v := .int (nI j)) (ty := .int) (C := RX10) (T := TX10) (N := 40) hx hb hts iX10 tyX10 tyX10_ok nmX10 hown hK hP hD hS 0 rfl rfl 34 (by decide) (hts (.fieldLink RX10 206 "DeepHoleModel" "nearTwo" "I") (by decide +kernel)) (fun _ h9 => h9) rfl (by decide +kernel) rfl rfl (Nat.le_of_ble_eq_true rfl) dX10_findNearest_119 (fun H locs hP hD hS => ?_)
            have hP : va_P D vwCl [(m0, .inr (10, [.ref qk, .int (nI d), .int (nI sh), .int (nI low), .int (nI high), .int le, .int mo, .int (nI nb), .ref qp, .ref qr, .ref qc, .ref qm, .ref qb, .int (nI cap), .int kd, .int am, .int wt, .int md, .long z1, .long z2, .long z3, .long z4, .long z5, .int (nI sw), .int (nI np), .ref qf, .ref qs, .int (nI fe), .int (nI te), .int (nI kk), .ref qt, .ref qx, .ref qy, .int (nI i), .int (nI j), .ref qo, .ref qz, .ref qi, .ref qv, .int fd])), (qt, .inl (cI, 2, .inl stf)), (qx, .inl (cI, 82, .inl qxf)), (qy, .inl (cI, 82, .inl qyf))] H := hP
            have hD : va_D A [(m0, .inr (10, [.ref qk, .int (nI d), .int (nI sh), .int (nI low), .int (nI high), .int le, .int mo, .int (nI nb), .ref qp, .ref qr, .ref qc, .ref qm, .ref qb, .int (nI cap), .int kd, .int am, .int wt, .int md, .long z1, .long z2, .long z3, .long z4, .long z5, .int (nI sw), .int (nI np), .ref qf, .ref qs, .int (nI fe), .int (nI te), .int (nI kk), .ref qt, .ref qx, .ref qy, .int (nI i), .int (nI j), .ref qo, .ref qz, .ref qi, .ref qv, .int fd])), (qt, .inl (cI, 2, .inl stf)), (qx, .inl (cI, 82, .inl qxf)), (qy, .inl (cI, 82, .inl qyf))] := hD
            refine lv_iinc (v := nI (j + 1)) (lv' := [(4, .int (nI (j + 1))), (1, .long (mN (dsq xs ys xt yt i j))), (7, .long (((ys i) - (yt j)).toInt64)), (5, .long (((xs i) - (xt j)).toInt64)), (0, .ref m0), (3, .int (nI i))]) hx hb dX10_findNearest_122 hl (k := 5) rfl (nI_1 _) (by decide) rfl (fun ls hl => ?_)
            refine lv_goto (tgt := 19) hx hb dX10_findNearest_125 (by decide) ?_
            exact ih_19 _ _ _ _ (by omega) ⟨j + 1, (dsq xs ys xt yt i j), nI i, nI j, rfl, (by omega), (by first | exact hg0 | exact (hDb i j (by omega) (by omega)).1), (by
                first
                | rw [hs2, show max (j + 1) (nj0 i) = max j (nj0 i) from by rw [show i = 0 by omega, show j = 0 by omega]; rfl]
                | (have hmx : max j (nj0 i) = j := by unfold nj0; split <;> omega
                   have hmx1 : max (j + 1) (nj0 i) = j + 1 := by unfold nj0; split <;> omega
                   rw [hs2, hmx, hmx1, nrow_step (by omega), Nat.sub_sub]
                   first
                   | rw [nst_no (st := (g, fa_, fb_)) (by have h := c_96; rw [mN_ne (mN_nlt c_80)] at h; exact ll1 h)]
                   | rw [nst_yes (st := (g, fa_, fb_)) (by have h := c_96; rw [mN_ne (mN_nlt c_80)] at h; exact ll2 h)]
                   | rw [nst_yes (st := (g, fa_, fb_)) (by show dsq xs ys xt yt i j < g; rw [mN_lt hg0 c_80]; exact (hDb i j (by omega) (by omega)).2)])), hP.sub [0, 1, 2, 3] rfl, hD.sub [0, 1, 2, 3] (by decide) rfl, hS, lv_sub hl [4, 1, 5, 0] rfl⟩

set_option maxHeartbeats 4000000 in
set_option maxRecDepth 100000 in
theorem c_X10_nearest {l : Launch} {D : va_G} {cI cS cP : ClassId} {sz : Nat} {m0 qk qp qr qc qm qb qf qs qt qx qy qo qz qi qv : Nat} {d sh low high nb cap sw np fe te kk : Nat} {le mo kd am wt md no nt fd : Int32} {z1 z2 z3 z4 z5 : Int64} {stf qxf qyf : Nat → Int32} {na nq : Nat} {xs ys xt yt : Nat → Int32} (hs0 : stf 0 = nI na) (hs1 : stf 1 = nI nq) (hna : na ≤ 40) (hnq : nq ≤ 40) (hx0 : ∀ j, j ≤ na → qxf j = xs j) (hy0 : ∀ j, j ≤ na → qyf j = ys j) (hx1 : ∀ j, j ≤ nq → qxf (41 + j) = xt j) (hy1 : ∀ j, j ≤ nq → qyf (41 + j) = yt j) (hDb : ∀ i j, i ≤ na → j ≤ nq → 0 ≤ dsq xs ys xt yt i j ∧ dsq xs ys xt yt i j < 9223372036854775807) : Met l yX10_nearest wsX10_nearest ({ frames := 1, cells := 0, slots := 0, locals := 28 }) (PC D (TY cI cS cP) [.ref m0] sz [(m0, .inr (10, [.ref qk, .int (nI d), .int (nI sh), .int (nI low), .int (nI high), .int le, .int mo, .int (nI nb), .ref qp, .ref qr, .ref qc, .ref qm, .ref qb, .int (nI cap), .int kd, .int am, .int wt, .int md, .long z1, .long z2, .long z3, .long z4, .long z5, .int (nI sw), .int (nI np), .ref qf, .ref qs, .int (nI fe), .int (nI te), .int (nI kk), .ref qt, .ref qx, .ref qy, .int no, .int nt, .ref qo, .ref qz, .ref qi, .ref qv, .int fd])), (qt, .inl (cI, 2, .inl stf)), (qx, .inl (cI, 82, .inl qxf)), (qy, .inl (cI, 82, .inl qyf))]) (QL D (fun (r : Int64) (u : Int32 × Int32) => r = nearA (NR na nq xs ys xt yt)) (fun (u : Int32 × Int32) => [(m0, .inr (10, [.ref qk, .int (nI d), .int (nI sh), .int (nI low), .int (nI high), .int le, .int mo, .int (nI nb), .ref qp, .ref qr, .ref qc, .ref qm, .ref qb, .int (nI cap), .int kd, .int am, .int wt, .int md, .long z1, .long z2, .long z3, .long z4, .long z5, .int (nI sw), .int (nI np), .ref qf, .ref qs, .int (nI fe), .int (nI te), .int (nI kk), .ref qt, .ref qx, .ref qy, .int u.1, .int u.2, .ref qo, .ref qz, .ref qi, .ref qv, .int fd])), (qt, .inl (cI, 2, .inl stf)), (qx, .inl (cI, 82, .inl qxf)), (qy, .inl (cI, 82, .inl qyf))]) (va_A [(m0, .inr (10, [.ref qk, .int (nI d), .int (nI sh), .int (nI low), .int (nI high), .int le, .int mo, .int (nI nb), .ref qp, .ref qr, .ref qc, .ref qm, .ref qb, .int (nI cap), .int kd, .int am, .int wt, .int md, .long z1, .long z2, .long z3, .long z4, .long z5, .int (nI sw), .int (nI np), .ref qf, .ref qs, .int (nI fe), .int (nI te), .int (nI kk), .ref qt, .ref qx, .ref qy, .int no, .int nt, .ref qo, .ref qz, .ref qi, .ref qv, .int fd])), (qt, .inl (cI, 2, .inl stf)), (qx, .inl (cI, 82, .inl qxf)), (qy, .inl (cI, 82, .inl qyf))] sz)) 0 0 (va_A [(m0, .inr (10, [.ref qk, .int (nI d), .int (nI sh), .int (nI low), .int (nI high), .int le, .int mo, .int (nI nb), .ref qp, .ref qr, .ref qc, .ref qm, .ref qb, .int (nI cap), .int kd, .int am, .int wt, .int md, .long z1, .long z2, .long z3, .long z4, .long z5, .int (nI sw), .int (nI np), .ref qf, .ref qs, .int (nI fe), .int (nI te), .int (nI kk), .ref qt, .ref qx, .ref qy, .int no, .int nt, .ref qo, .ref qz, .ref qi, .ref qv, .int fd])), (qt, .inl (cI, 2, .inl stf)), (qx, .inl (cI, 82, .inl qxf)), (qy, .inl (cI, 82, .inl qyf))] sz) := by
  refine Met.ofW (cc := cX10_nearest) (maxL := 3) (ret := (some .long)) (by decide) rfl ?_
  intro p e s m args below meth c s₁ B hml hv
  obtain ⟨rfl, hsz, hP, hK, hD0, hN⟩ := hv
  have hx := B.exec
  have hb := B.bytes
  have hr := B.returns
  have hts := atoms_spec (ws := wsX10_nearest) B.pre
  have hown : s.vm.findClass RX10 = some m.cls := findClass_of_methodNamed B.named
  have hlocks := B.notSynchronized
  subst hsz
  have hD := hD0.self (sz := s.heap.size)
  generalize hAe : va_A [(m0, .inr (10, [.ref qk, .int (nI d), .int (nI sh), .int (nI low), .int (nI high), .int le, .int mo, .int (nI nb), .ref qp, .ref qr, .ref qc, .ref qm, .ref qb, .int (nI cap), .int kd, .int am, .int wt, .int md, .long z1, .long z2, .long z3, .long z4, .long z5, .int (nI sw), .int (nI np), .ref qf, .ref qs, .int (nI fe), .int (nI te), .int (nI kk), .ref qt, .ref qx, .ref qy, .int no, .int nt, .ref qo, .ref qz, .ref qi, .ref qv, .int fd])), (qt, .inl (cI, 2, .inl stf)), (qx, .inl (cI, 82, .inl qxf)), (qy, .inl (cI, 82, .inl qyf))] s.heap.size = A at hD ⊢
  have hA : ∀ q : Nat, s.heap.size ≤ q → A q := fun q h => by rw [← hAe]; exact Or.inr h
  have hS : va_S A s.heap s.heap [] := va_S.rf
  have hP : va_P D vwCl [(m0, .inr (10, [.ref qk, .int (nI d), .int (nI sh), .int (nI low), .int (nI high), .int le, .int mo, .int (nI nb), .ref qp, .ref qr, .ref qc, .ref qm, .ref qb, .int (nI cap), .int kd, .int am, .int wt, .int md, .long z1, .long z2, .long z3, .long z4, .long z5, .int (nI sw), .int (nI np), .ref qf, .ref qs, .int (nI fe), .int (nI te), .int (nI kk), .ref qt, .ref qx, .ref qy, .int no, .int nt, .ref qo, .ref qz, .ref qi, .ref qv, .int fd])), (qt, .inl (cI, 2, .inl stf)), (qx, .inl (cI, 82, .inl qxf)), (qy, .inl (cI, 82, .inl qyf))] s.heap := hP
  have hl := lv_entry ([.ref m0]) (n := 3) (Nat.le_of_ble_eq_true rfl)
  rw [lg_entry_eq]
  generalize (lg_sl ([.ref m0]) ++ List.replicate (3 - (lg_sl ([.ref m0])).length) Slot.unset).toArray = ls at hl ⊢
  have hl : lv_has ls 3 [(0, .ref m0)] := hl
  have hnn : 0 ≤ (ncol (dsq xs ys xt yt) nq 0 (na + 1) (9223372036854775807, no, nt)).1 := ncol_nn _ _ (fun a b x y z => (hDb a b (by omega) z).1) (show (0 : Int64) ≤ 9223372036854775807 by decide)
  refine lv_aload_n hx hb dX10_nearest_0 rfl (lv_at hl 0 rfl) ?_
  refine w_Vl (wc := [(m0, .inr (10, [.ref qk, .int (nI d), .int (nI sh), .int (nI low), .int (nI high), .int le, .int mo, .int (nI nb), .ref qp, .ref qr, .ref qc, .ref qm, .ref qb, .int (nI cap), .int kd, .int am, .int wt, .int md, .long z1, .long z2, .long z3, .long z4, .long z5, .int (nI sw), .int (nI np), .ref qf, .ref qs, .int (nI fe), .int (nI te), .int (nI kk), .ref qt, .ref qx, .ref qy, .int no, .int nt, .ref qo, .ref qz, .ref qi, .ref qv, .int fd])), (qt, .inl (cI, 2, .inl stf)), (qx, .inl (cI, 82, .inl qxf)), (qy, .inl (cI, 82, .inl qyf))]) (wr := []) (b := m0) ⟨hx, hb, hml, hown, hts⟩ [] [] (c_X10_findNearest (xs := xs) (ys := ys) (xt := xt) (yt := yt) (na := na) (nq := nq) (by first | assumption | omega) (by first | assumption | omega) (by first | assumption | omega) (by first | assumption | omega) (by first | assumption | omega) (by first | assumption | omega) (by first | assumption | omega) (by first | assumption | omega) (by first | assumption | omega)) (cwV 0 hts gX10_nearest_X10_findNearest rfl rfl rfl (by decide +kernel) ⟨Nat.le_of_ble_eq_true rfl, Nat.le_of_ble_eq_true rfl⟩) hK hN hP hD hS hA [0, 1, 2, 3] [] rfl (by decide) rfl (by decide) (by decide) (ci := 10) rfl rfl rfl rfl hl.1 rfl (Nat.le_of_ble_eq_true rfl) dX10_nearest_1 ⟨Nat.zero_le _, Nat.zero_le _⟩ (fun r u H locs hw hP hD hS => ?_)
  obtain ⟨u_1, u_2⟩ := u
  try dsimp only at hw
  have hP : va_P D vwCl [(m0, .inr (10, [.ref qk, .int (nI d), .int (nI sh), .int (nI low), .int (nI high), .int le, .int mo, .int (nI nb), .ref qp, .ref qr, .ref qc, .ref qm, .ref qb, .int (nI cap), .int kd, .int am, .int wt, .int md, .long z1, .long z2, .long z3, .long z4, .long z5, .int (nI sw), .int (nI np), .ref qf, .ref qs, .int (nI fe), .int (nI te), .int (nI kk), .ref qt, .ref qx, .ref qy, .int u_1, .int u_2, .ref qo, .ref qz, .ref qi, .ref qv, .int fd])), (qt, .inl (cI, 2, .inl stf)), (qx, .inl (cI, 82, .inl qxf)), (qy, .inl (cI, 82, .inl qyf))] H := hP
  have hD : va_D A [(m0, .inr (10, [.ref qk, .int (nI d), .int (nI sh), .int (nI low), .int (nI high), .int le, .int mo, .int (nI nb), .ref qp, .ref qr, .ref qc, .ref qm, .ref qb, .int (nI cap), .int kd, .int am, .int wt, .int md, .long z1, .long z2, .long z3, .long z4, .long z5, .int (nI sw), .int (nI np), .ref qf, .ref qs, .int (nI fe), .int (nI te), .int (nI kk), .ref qt, .ref qx, .ref qy, .int u_1, .int u_2, .ref qo, .ref qz, .ref qi, .ref qv, .int fd])), (qt, .inl (cI, 2, .inl stf)), (qx, .inl (cI, 82, .inl qxf)), (qy, .inl (cI, 82, .inl qyf))] := hD
  obtain ⟨hw, hw_1⟩ := hw
  subst hw
  refine lv_lstore_n (lv' := [(1, .long (mN (ncol (dsq xs ys xt yt) nq 0 (na + 1) (9223372036854775807, no, nt)).1)), (0, .ref m0)]) hx hb dX10_nearest_4 rfl hl (by decide) rfl (fun ls hl => ?_)
  refine lv_lload_n hx hb dX10_nearest_5 rfl (lv_at hl 0 rfl) ?_
  refine lv_lconst (v := 0) hx hb dX10_nearest_6 (by decide) ?_
  refine W.lcmp hx hb dX10_nearest_7 ?_
  refine lv_if_ge (tgt := 19) hx hb dX10_nearest_8 (by decide) (fun c_8 => ?_) (fun c_8 => ?_)
  ·
    have c_8 := (lg_cmp_ge _ _).mp c_8
    refine lv_lload_n hx hb dX10_nearest_19 rfl (lv_at hl 0 rfl) ?_
    have hP9 := hP.sub (ws' := [(m0, .inr (10, [.ref qk, .int (nI d), .int (nI sh), .int (nI low), .int (nI high), .int le, .int mo, .int (nI nb), .ref qp, .ref qr, .ref qc, .ref qm, .ref qb, .int (nI cap), .int kd, .int am, .int wt, .int md, .long z1, .long z2, .long z3, .long z4, .long z5, .int (nI sw), .int (nI np), .ref qf, .ref qs, .int (nI fe), .int (nI te), .int (nI kk), .ref qt, .ref qx, .ref qy, .int u_1, .int u_2, .ref qo, .ref qz, .ref qi, .ref qv, .int fd])), (qt, .inl (cI, 2, .inl stf)), (qx, .inl (cI, 82, .inl qxf)), (qy, .inl (cI, 82, .inl qyf))]) [0, 1, 2, 3] rfl
    have hD9 := hD.sub (ws' := [(m0, .inr (10, [.ref qk, .int (nI d), .int (nI sh), .int (nI low), .int (nI high), .int le, .int mo, .int (nI nb), .ref qp, .ref qr, .ref qc, .ref qm, .ref qb, .int (nI cap), .int kd, .int am, .int wt, .int md, .long z1, .long z2, .long z3, .long z4, .long z5, .int (nI sw), .int (nI np), .ref qf, .ref qs, .int (nI fe), .int (nI te), .int (nI kk), .ref qt, .ref qx, .ref qy, .int u_1, .int u_2, .ref qo, .ref qz, .ref qi, .ref qv, .int fd])), (qt, .inl (cI, 2, .inl stf)), (qx, .inl (cI, 82, .inl qxf)), (qy, .inl (cI, 82, .inl qyf))]) [0, 1, 2, 3] (by decide) rfl
    exact W.lret (v := mN (ncol (dsq xs ys xt yt) nq 0 (na + 1) (9223372036854775807, no, nt)).1) hx hb hr (fun t ht hW => ⟨⟨_, (u_1, u_2), rfl, (by rw [← jk_near (NR_of no nt)]; unfold nearA; rw [if_pos (mN_nlt (ll1 c_8)), mN_ne (mN_nlt (ll1 c_8))]), by rw [ht]; exact hP9, hD9⟩, hS.F ht⟩) hS.2.2 dX10_nearest_20
  ·
    have c_8 := fun h => c_8 ((lg_cmp_ge _ _).mpr h)
    refine lv_bipush (v := (-3)) hx hb dX10_nearest_11 (by decide) ?_
    refine q_Sl (tys := TY cI cS cP) (D := D) ⟨hx, hb, hml, hown, hts⟩ [.int (-3 : Int32)] [] c_X10_no (va_cwS 1 hts gX10_nearest_X10_no rfl rfl rfl (by decide +kernel) ⟨Nat.le_of_ble_eq_true rfl, Nat.le_of_ble_eq_true rfl⟩) hK hN rfl hl.1 rfl (Nat.le_of_ble_eq_true rfl) dX10_nearest_13 ⟨Nat.zero_le _, Nat.zero_le _⟩ (fun r hw => ?_)
    subst hw
    refine lv_goto (tgt := 20) hx hb dX10_nearest_16 (by decide) ?_
    have hP9 := hP.sub (ws' := [(m0, .inr (10, [.ref qk, .int (nI d), .int (nI sh), .int (nI low), .int (nI high), .int le, .int mo, .int (nI nb), .ref qp, .ref qr, .ref qc, .ref qm, .ref qb, .int (nI cap), .int kd, .int am, .int wt, .int md, .long z1, .long z2, .long z3, .long z4, .long z5, .int (nI sw), .int (nI np), .ref qf, .ref qs, .int (nI fe), .int (nI te), .int (nI kk), .ref qt, .ref qx, .ref qy, .int u_1, .int u_2, .ref qo, .ref qz, .ref qi, .ref qv, .int fd])), (qt, .inl (cI, 2, .inl stf)), (qx, .inl (cI, 82, .inl qxf)), (qy, .inl (cI, 82, .inl qyf))]) [0, 1, 2, 3] rfl
    have hD9 := hD.sub (ws' := [(m0, .inr (10, [.ref qk, .int (nI d), .int (nI sh), .int (nI low), .int (nI high), .int le, .int mo, .int (nI nb), .ref qp, .ref qr, .ref qc, .ref qm, .ref qb, .int (nI cap), .int kd, .int am, .int wt, .int md, .long z1, .long z2, .long z3, .long z4, .long z5, .int (nI sw), .int (nI np), .ref qf, .ref qs, .int (nI fe), .int (nI te), .int (nI kk), .ref qt, .ref qx, .ref qy, .int u_1, .int u_2, .ref qo, .ref qz, .ref qi, .ref qv, .int fd])), (qt, .inl (cI, 2, .inl stf)), (qx, .inl (cI, 82, .inl qxf)), (qy, .inl (cI, 82, .inl qyf))]) [0, 1, 2, 3] (by decide) rfl
    exact W.lret (v := (-9223372036854775808) - (-3 : Int32).toInt64) hx hb hr (fun t ht hW => ⟨⟨_, (u_1, u_2), rfl, (by rw [← jk_near (NR_of no nt)]; unfold nearA; rw [if_neg (fun q => q (mN_lt hnn (ll2 c_8)))]), by rw [ht]; exact hP9, hD9⟩, hS.F ht⟩) hS.2.2 dX10_nearest_20

set_option maxHeartbeats 4000000 in
set_option maxRecDepth 100000 in
theorem c_X10_where {l : Launch} {D : va_G} {cI cS cP : ClassId} {sz : Nat} {m0 qk qp qr qc qm qb qf qs qt qx qy qo qz qi qv : Nat} {d sh low high nb cap sw np fe te kk : Nat} {le mo kd am wt md no nt fd : Int32} {z1 z2 z3 z4 z5 : Int64} {stf qxf qyf : Nat → Int32} {na nq : Nat} {xs ys xt yt : Nat → Int32} {h1 : Int32} (hs0 : stf 0 = nI na) (hs1 : stf 1 = nI nq) (hna : na ≤ 40) (hnq : nq ≤ 40) (hx0 : ∀ j, j ≤ na → qxf j = xs j) (hy0 : ∀ j, j ≤ na → qyf j = ys j) (hx1 : ∀ j, j ≤ nq → qxf (41 + j) = xt j) (hy1 : ∀ j, j ≤ nq → qyf (41 + j) = yt j) (hDb : ∀ i j, i ≤ na → j ≤ nq → 0 ≤ dsq xs ys xt yt i j ∧ dsq xs ys xt yt i j < 9223372036854775807) : Met l yX10_where wsX10_where ({ frames := 2, cells := 0, slots := 0, locals := 45 }) (PC D (TY cI cS cP) [.ref m0, .int h1] sz [(m0, .inr (10, [.ref qk, .int (nI d), .int (nI sh), .int (nI low), .int (nI high), .int le, .int mo, .int (nI nb), .ref qp, .ref qr, .ref qc, .ref qm, .ref qb, .int (nI cap), .int kd, .int am, .int wt, .int md, .long z1, .long z2, .long z3, .long z4, .long z5, .int (nI sw), .int (nI np), .ref qf, .ref qs, .int (nI fe), .int (nI te), .int (nI kk), .ref qt, .ref qx, .ref qy, .int no, .int nt, .ref qo, .ref qz, .ref qi, .ref qv, .int fd])), (qt, .inl (cI, 2, .inl stf)), (qx, .inl (cI, 82, .inl qxf)), (qy, .inl (cI, 82, .inl qyf))]) (QI D (fun (r : Int32) (u : Int32 × Int32) => r = whereA (NR na nq xs ys xt yt) h1) (fun (u : Int32 × Int32) => [(m0, .inr (10, [.ref qk, .int (nI d), .int (nI sh), .int (nI low), .int (nI high), .int le, .int mo, .int (nI nb), .ref qp, .ref qr, .ref qc, .ref qm, .ref qb, .int (nI cap), .int kd, .int am, .int wt, .int md, .long z1, .long z2, .long z3, .long z4, .long z5, .int (nI sw), .int (nI np), .ref qf, .ref qs, .int (nI fe), .int (nI te), .int (nI kk), .ref qt, .ref qx, .ref qy, .int u.1, .int u.2, .ref qo, .ref qz, .ref qi, .ref qv, .int fd])), (qt, .inl (cI, 2, .inl stf)), (qx, .inl (cI, 82, .inl qxf)), (qy, .inl (cI, 82, .inl qyf))]) (va_A [(m0, .inr (10, [.ref qk, .int (nI d), .int (nI sh), .int (nI low), .int (nI high), .int le, .int mo, .int (nI nb), .ref qp, .ref qr, .ref qc, .ref qm, .ref qb, .int (nI cap), .int kd, .int am, .int wt, .int md, .long z1, .long z2, .long z3, .long z4, .long z5, .int (nI sw), .int (nI np), .ref qf, .ref qs, .int (nI fe), .int (nI te), .int (nI kk), .ref qt, .ref qx, .ref qy, .int no, .int nt, .ref qo, .ref qz, .ref qi, .ref qv, .int fd])), (qt, .inl (cI, 2, .inl stf)), (qx, .inl (cI, 82, .inl qxf)), (qy, .inl (cI, 82, .inl qyf))] sz)) 0 0 (va_A [(m0, .inr (10, [.ref qk, .int (nI d), .int (nI sh), .int (nI low), .int (nI high), .int le, .int mo, .int (nI nb), .ref qp, .ref qr, .ref qc, .ref qm, .ref qb, .int (nI cap), .int kd, .int am, .int wt, .int md, .long z1, .long z2, .long z3, .long z4, .long z5, .int (nI sw), .int (nI np), .ref qf, .ref qs, .int (nI fe), .int (nI te), .int (nI kk), .ref qt, .ref qx, .ref qy, .int no, .int nt, .ref qo, .ref qz, .ref qi, .ref qv, .int fd])), (qt, .inl (cI, 2, .inl stf)), (qx, .inl (cI, 82, .inl qxf)), (qy, .inl (cI, 82, .inl qyf))] sz) := by
  refine Met.ofW (cc := cX10_where) (maxL := 2) (ret := (some .int)) (by decide) rfl ?_
  intro p e s m args below meth c s₁ B hml hv
  obtain ⟨rfl, hsz, hP, hK, hD0, hN⟩ := hv
  have hx := B.exec
  have hb := B.bytes
  have hr := B.returns
  have hts := atoms_spec (ws := wsX10_where) B.pre
  have hown : s.vm.findClass RX10 = some m.cls := findClass_of_methodNamed B.named
  have hlocks := B.notSynchronized
  subst hsz
  have iX10 : ∀ w ∈ u_ws RX10 TX10 40, w ∈ wsX10_where := by decide +kernel
  have hD := hD0.self (sz := s.heap.size)
  generalize hAe : va_A [(m0, .inr (10, [.ref qk, .int (nI d), .int (nI sh), .int (nI low), .int (nI high), .int le, .int mo, .int (nI nb), .ref qp, .ref qr, .ref qc, .ref qm, .ref qb, .int (nI cap), .int kd, .int am, .int wt, .int md, .long z1, .long z2, .long z3, .long z4, .long z5, .int (nI sw), .int (nI np), .ref qf, .ref qs, .int (nI fe), .int (nI te), .int (nI kk), .ref qt, .ref qx, .ref qy, .int no, .int nt, .ref qo, .ref qz, .ref qi, .ref qv, .int fd])), (qt, .inl (cI, 2, .inl stf)), (qx, .inl (cI, 82, .inl qxf)), (qy, .inl (cI, 82, .inl qyf))] s.heap.size = A at hD ⊢
  have hA : ∀ q : Nat, s.heap.size ≤ q → A q := fun q h => by rw [← hAe]; exact Or.inr h
  have hS : va_S A s.heap s.heap [] := va_S.rf
  have hP : va_P D vwCl [(m0, .inr (10, [.ref qk, .int (nI d), .int (nI sh), .int (nI low), .int (nI high), .int le, .int mo, .int (nI nb), .ref qp, .ref qr, .ref qc, .ref qm, .ref qb, .int (nI cap), .int kd, .int am, .int wt, .int md, .long z1, .long z2, .long z3, .long z4, .long z5, .int (nI sw), .int (nI np), .ref qf, .ref qs, .int (nI fe), .int (nI te), .int (nI kk), .ref qt, .ref qx, .ref qy, .int no, .int nt, .ref qo, .ref qz, .ref qi, .ref qv, .int fd])), (qt, .inl (cI, 2, .inl stf)), (qx, .inl (cI, 82, .inl qxf)), (qy, .inl (cI, 82, .inl qyf))] s.heap := hP
  have hl := lv_entry ([.ref m0, .int h1]) (n := 2) (Nat.le_of_ble_eq_true rfl)
  rw [lg_entry_eq]
  generalize (lg_sl ([.ref m0, .int h1]) ++ List.replicate (2 - (lg_sl ([.ref m0, .int h1])).length) Slot.unset).toArray = ls at hl ⊢
  have hl : lv_has ls 2 [(0, .ref m0), (1, .int h1)] := hl
  have hnn : 0 ≤ (ncol (dsq xs ys xt yt) nq 0 (na + 1) (9223372036854775807, no, nt)).1 := ncol_nn _ _ (fun a b x y z => (hDb a b (by omega) z).1) (show (0 : Int64) ≤ 9223372036854775807 by decide)
  refine lv_iload_n hx hb dX10_where_0 rfl (lv_at hl 1 rfl) ?_
  refine q_S (tys := TY cI cS cP) (D := D) ⟨hx, hb, hml, hown, hts⟩ [.int h1] [] c_X10_isHole (va_cwS 1 hts gX10_where_X10_isHole rfl rfl rfl (by decide +kernel) ⟨Nat.le_of_ble_eq_true rfl, Nat.le_of_ble_eq_true rfl⟩) hK hN rfl hl.1 rfl (Nat.le_of_ble_eq_true rfl) dX10_where_1 ⟨Nat.zero_le _, Nat.zero_le _⟩ (fun r hw => ?_)
  subst hw
  refine lv_if_ne (tgt := 10) hx hb dX10_where_4 (by decide) (fun c_4 => ?_) (fun c_4 => ?_)
  ·
    have c_4 := bnz c_4
    refine lv_aload_n hx hb dX10_where_10 rfl (lv_at hl 0 rfl) ?_
    refine w_Vl (wc := [(m0, .inr (10, [.ref qk, .int (nI d), .int (nI sh), .int (nI low), .int (nI high), .int le, .int mo, .int (nI nb), .ref qp, .ref qr, .ref qc, .ref qm, .ref qb, .int (nI cap), .int kd, .int am, .int wt, .int md, .long z1, .long z2, .long z3, .long z4, .long z5, .int (nI sw), .int (nI np), .ref qf, .ref qs, .int (nI fe), .int (nI te), .int (nI kk), .ref qt, .ref qx, .ref qy, .int no, .int nt, .ref qo, .ref qz, .ref qi, .ref qv, .int fd])), (qt, .inl (cI, 2, .inl stf)), (qx, .inl (cI, 82, .inl qxf)), (qy, .inl (cI, 82, .inl qyf))]) (wr := []) (b := m0) ⟨hx, hb, hml, hown, hts⟩ [] [] (c_X10_findNearest (xs := xs) (ys := ys) (xt := xt) (yt := yt) (na := na) (nq := nq) (by first | assumption | omega) (by first | assumption | omega) (by first | assumption | omega) (by first | assumption | omega) (by first | assumption | omega) (by first | assumption | omega) (by first | assumption | omega) (by first | assumption | omega) (by first | assumption | omega)) (cwV 0 hts gX10_where_X10_findNearest rfl rfl rfl (by decide +kernel) ⟨Nat.le_of_ble_eq_true rfl, Nat.le_of_ble_eq_true rfl⟩) hK hN hP hD hS hA [0, 1, 2, 3] [] rfl (by decide) rfl (by decide) (by decide) (ci := 10) rfl rfl rfl rfl hl.1 rfl (Nat.le_of_ble_eq_true rfl) dX10_where_11 ⟨Nat.zero_le _, Nat.zero_le _⟩ (fun r u H locs hw hP hD hS => ?_)
    obtain ⟨u_1, u_2⟩ := u
    try dsimp only at hw
    have hP : va_P D vwCl [(m0, .inr (10, [.ref qk, .int (nI d), .int (nI sh), .int (nI low), .int (nI high), .int le, .int mo, .int (nI nb), .ref qp, .ref qr, .ref qc, .ref qm, .ref qb, .int (nI cap), .int kd, .int am, .int wt, .int md, .long z1, .long z2, .long z3, .long z4, .long z5, .int (nI sw), .int (nI np), .ref qf, .ref qs, .int (nI fe), .int (nI te), .int (nI kk), .ref qt, .ref qx, .ref qy, .int u_1, .int u_2, .ref qo, .ref qz, .ref qi, .ref qv, .int fd])), (qt, .inl (cI, 2, .inl stf)), (qx, .inl (cI, 82, .inl qxf)), (qy, .inl (cI, 82, .inl qyf))] H := hP
    have hD : va_D A [(m0, .inr (10, [.ref qk, .int (nI d), .int (nI sh), .int (nI low), .int (nI high), .int le, .int mo, .int (nI nb), .ref qp, .ref qr, .ref qc, .ref qm, .ref qb, .int (nI cap), .int kd, .int am, .int wt, .int md, .long z1, .long z2, .long z3, .long z4, .long z5, .int (nI sw), .int (nI np), .ref qf, .ref qs, .int (nI fe), .int (nI te), .int (nI kk), .ref qt, .ref qx, .ref qy, .int u_1, .int u_2, .ref qo, .ref qz, .ref qi, .ref qv, .int fd])), (qt, .inl (cI, 2, .inl stf)), (qx, .inl (cI, 82, .inl qxf)), (qy, .inl (cI, 82, .inl qyf))] := hD
    obtain ⟨hw, hw_11⟩ := hw
    subst hw
    refine lv_lconst (v := 0) hx hb dX10_where_14 (by decide) ?_
    refine W.lcmp hx hb dX10_where_15 ?_
    refine lv_if_ge (tgt := 24) hx hb dX10_where_16 (by decide) (fun c_16 => ?_) (fun c_16 => ?_)
    ·
      have c_16 := (lg_cmp_ge _ _).mp c_16
      refine lv_iload_n hx hb dX10_where_24 rfl (lv_at hl 1 rfl) ?_
      refine lv_if_ne (tgt := 35) hx hb dX10_where_25 (by decide) (fun c_25 => ?_) (fun c_25 => ?_)
      ·
        refine lv_aload_n hx hb dX10_where_35 rfl (lv_at hl 0 rfl) ?_
        refine va_get (D := D) (ci := 10) (v := .int u_2) (C := RX10) (T := TX10) (N := 40) hx hb hts iX10 hown hK hP 0 rfl rfl 34 (by decide) (hts (.fieldLink RX10 206 "DeepHoleModel" "nearTwo" "I") (by decide +kernel)) (fun _ h9 => h9) rfl dX10_where_36 ?_
        have hP9 := hP.sub (ws' := [(m0, .inr (10, [.ref qk, .int (nI d), .int (nI sh), .int (nI low), .int (nI high), .int le, .int mo, .int (nI nb), .ref qp, .ref qr, .ref qc, .ref qm, .ref qb, .int (nI cap), .int kd, .int am, .int wt, .int md, .long z1, .long z2, .long z3, .long z4, .long z5, .int (nI sw), .int (nI np), .ref qf, .ref qs, .int (nI fe), .int (nI te), .int (nI kk), .ref qt, .ref qx, .ref qy, .int u_1, .int u_2, .ref qo, .ref qz, .ref qi, .ref qv, .int fd])), (qt, .inl (cI, 2, .inl stf)), (qx, .inl (cI, 82, .inl qxf)), (qy, .inl (cI, 82, .inl qyf))]) [0, 1, 2, 3] rfl
        have hD9 := hD.sub (ws' := [(m0, .inr (10, [.ref qk, .int (nI d), .int (nI sh), .int (nI low), .int (nI high), .int le, .int mo, .int (nI nb), .ref qp, .ref qr, .ref qc, .ref qm, .ref qb, .int (nI cap), .int kd, .int am, .int wt, .int md, .long z1, .long z2, .long z3, .long z4, .long z5, .int (nI sw), .int (nI np), .ref qf, .ref qs, .int (nI fe), .int (nI te), .int (nI kk), .ref qt, .ref qx, .ref qy, .int u_1, .int u_2, .ref qo, .ref qz, .ref qi, .ref qv, .int fd])), (qt, .inl (cI, 2, .inl stf)), (qx, .inl (cI, 82, .inl qxf)), (qy, .inl (cI, 82, .inl qyf))]) [0, 1, 2, 3] (by decide) rfl
        exact W.iret (v := u_2) hx hb hr (fun t ht hW => ⟨⟨_, (u_1, u_2), rfl, (by rw [← jk_where (NR_of no nt) h1]; unfold whereA; rw [if_pos c_4, if_pos (mN_nlt (ll1 c_16)), ← hw_11]; first | rw [if_pos c_25] | rw [if_neg c_25]), by rw [ht]; exact hP9, hD9⟩, hS.F ht⟩) hS.2.2 dX10_where_39
      ·
        refine lv_aload_n hx hb dX10_where_28 rfl (lv_at hl 0 rfl) ?_
        refine va_get (D := D) (ci := 10) (v := .int u_1) (C := RX10) (T := TX10) (N := 40) hx hb hts iX10 hown hK hP 0 rfl rfl 33 (by decide) (hts (.fieldLink RX10 203 "DeepHoleModel" "nearOne" "I") (by decide +kernel)) (fun _ h9 => h9) rfl dX10_where_29 ?_
        refine lv_goto (tgt := 39) hx hb dX10_where_32 (by decide) ?_
        have hP9 := hP.sub (ws' := [(m0, .inr (10, [.ref qk, .int (nI d), .int (nI sh), .int (nI low), .int (nI high), .int le, .int mo, .int (nI nb), .ref qp, .ref qr, .ref qc, .ref qm, .ref qb, .int (nI cap), .int kd, .int am, .int wt, .int md, .long z1, .long z2, .long z3, .long z4, .long z5, .int (nI sw), .int (nI np), .ref qf, .ref qs, .int (nI fe), .int (nI te), .int (nI kk), .ref qt, .ref qx, .ref qy, .int u_1, .int u_2, .ref qo, .ref qz, .ref qi, .ref qv, .int fd])), (qt, .inl (cI, 2, .inl stf)), (qx, .inl (cI, 82, .inl qxf)), (qy, .inl (cI, 82, .inl qyf))]) [0, 1, 2, 3] rfl
        have hD9 := hD.sub (ws' := [(m0, .inr (10, [.ref qk, .int (nI d), .int (nI sh), .int (nI low), .int (nI high), .int le, .int mo, .int (nI nb), .ref qp, .ref qr, .ref qc, .ref qm, .ref qb, .int (nI cap), .int kd, .int am, .int wt, .int md, .long z1, .long z2, .long z3, .long z4, .long z5, .int (nI sw), .int (nI np), .ref qf, .ref qs, .int (nI fe), .int (nI te), .int (nI kk), .ref qt, .ref qx, .ref qy, .int u_1, .int u_2, .ref qo, .ref qz, .ref qi, .ref qv, .int fd])), (qt, .inl (cI, 2, .inl stf)), (qx, .inl (cI, 82, .inl qxf)), (qy, .inl (cI, 82, .inl qyf))]) [0, 1, 2, 3] (by decide) rfl
        exact W.iret (v := u_1) hx hb hr (fun t ht hW => ⟨⟨_, (u_1, u_2), rfl, (by rw [← jk_where (NR_of no nt) h1]; unfold whereA; rw [if_pos c_4, if_pos (mN_nlt (ll1 c_16)), ← hw_11]; first | rw [if_pos c_25] | rw [if_neg c_25]), by rw [ht]; exact hP9, hD9⟩, hS.F ht⟩) hS.2.2 dX10_where_39
    ·
      have c_16 := fun h => c_16 ((lg_cmp_ge _ _).mpr h)
      refine lv_bipush (v := (-3)) hx hb dX10_where_19 (by decide) ?_
      refine lv_goto (tgt := 39) hx hb dX10_where_21 (by decide) ?_
      have hP9 := hP.sub (ws' := [(m0, .inr (10, [.ref qk, .int (nI d), .int (nI sh), .int (nI low), .int (nI high), .int le, .int mo, .int (nI nb), .ref qp, .ref qr, .ref qc, .ref qm, .ref qb, .int (nI cap), .int kd, .int am, .int wt, .int md, .long z1, .long z2, .long z3, .long z4, .long z5, .int (nI sw), .int (nI np), .ref qf, .ref qs, .int (nI fe), .int (nI te), .int (nI kk), .ref qt, .ref qx, .ref qy, .int u_1, .int u_2, .ref qo, .ref qz, .ref qi, .ref qv, .int fd])), (qt, .inl (cI, 2, .inl stf)), (qx, .inl (cI, 82, .inl qxf)), (qy, .inl (cI, 82, .inl qyf))]) [0, 1, 2, 3] rfl
      have hD9 := hD.sub (ws' := [(m0, .inr (10, [.ref qk, .int (nI d), .int (nI sh), .int (nI low), .int (nI high), .int le, .int mo, .int (nI nb), .ref qp, .ref qr, .ref qc, .ref qm, .ref qb, .int (nI cap), .int kd, .int am, .int wt, .int md, .long z1, .long z2, .long z3, .long z4, .long z5, .int (nI sw), .int (nI np), .ref qf, .ref qs, .int (nI fe), .int (nI te), .int (nI kk), .ref qt, .ref qx, .ref qy, .int u_1, .int u_2, .ref qo, .ref qz, .ref qi, .ref qv, .int fd])), (qt, .inl (cI, 2, .inl stf)), (qx, .inl (cI, 82, .inl qxf)), (qy, .inl (cI, 82, .inl qyf))]) [0, 1, 2, 3] (by decide) rfl
      exact W.iret (v := (-3)) hx hb hr (fun t ht hW => ⟨⟨_, (u_1, u_2), rfl, (by rw [← jk_where (NR_of no nt) h1]; unfold whereA; rw [if_pos c_4, if_neg (fun q => q (mN_lt hnn (ll2 c_16)))]), by rw [ht]; exact hP9, hD9⟩, hS.F ht⟩) hS.2.2 dX10_where_39
  ·
    have c_4 := bz c_4
    refine lv_bipush (v := (-2)) hx hb dX10_where_7 (by decide) ?_
    have hP9 := hP.sub (ws' := [(m0, .inr (10, [.ref qk, .int (nI d), .int (nI sh), .int (nI low), .int (nI high), .int le, .int mo, .int (nI nb), .ref qp, .ref qr, .ref qc, .ref qm, .ref qb, .int (nI cap), .int kd, .int am, .int wt, .int md, .long z1, .long z2, .long z3, .long z4, .long z5, .int (nI sw), .int (nI np), .ref qf, .ref qs, .int (nI fe), .int (nI te), .int (nI kk), .ref qt, .ref qx, .ref qy, .int no, .int nt, .ref qo, .ref qz, .ref qi, .ref qv, .int fd])), (qt, .inl (cI, 2, .inl stf)), (qx, .inl (cI, 82, .inl qxf)), (qy, .inl (cI, 82, .inl qyf))]) [0, 1, 2, 3] rfl
    have hD9 := hD.sub (ws' := [(m0, .inr (10, [.ref qk, .int (nI d), .int (nI sh), .int (nI low), .int (nI high), .int le, .int mo, .int (nI nb), .ref qp, .ref qr, .ref qc, .ref qm, .ref qb, .int (nI cap), .int kd, .int am, .int wt, .int md, .long z1, .long z2, .long z3, .long z4, .long z5, .int (nI sw), .int (nI np), .ref qf, .ref qs, .int (nI fe), .int (nI te), .int (nI kk), .ref qt, .ref qx, .ref qy, .int no, .int nt, .ref qo, .ref qz, .ref qi, .ref qv, .int fd])), (qt, .inl (cI, 2, .inl stf)), (qx, .inl (cI, 82, .inl qxf)), (qy, .inl (cI, 82, .inl qyf))]) [0, 1, 2, 3] (by decide) rfl
    exact W.iret (v := (-2)) hx hb hr (fun t ht hW => ⟨⟨_, (no, nt), rfl, (by unfold whereA; rw [if_neg c_4]), by rw [ht]; exact hP9, hD9⟩, hS.F ht⟩) hS.2.2 dX10_where_9
