set_option maxHeartbeats 4000000 in
set_option maxRecDepth 100000 in
theorem c_X10_in {l : Launch} {D : va_G} {cI cS cP : ClassId} {sz : Nat} {x lo hi : Int32}  : Met l yX10_in wsX10_in ({ frames := 0, cells := 0, slots := 0, locals := 0 }) (PC D (TY cI cS cP) [.long x.toInt64, .long lo.toInt64, .long hi.toInt64] sz []) (vp_Si (fun r => r = if (lo ≤ x ∧ x ≤ hi) then 1 else 0)) 0 0 (fun _ => False) := by
  refine Met.ofW (cc := cX10_in) (maxL := 6) (ret := (some .boolean)) (by decide) rfl ?_
  intro p e s m args below meth c s₁ B hml hv
  obtain ⟨rfl, hsz, hP, hK, hD0, hN⟩ := hv
  have hx := B.exec
  have hb := B.bytes
  have hr := B.returns
  have hts := atoms_spec (ws := wsX10_in) B.pre
  have hown : s.vm.findClass RX10 = some m.cls := findClass_of_methodNamed B.named
  have hlocks := B.notSynchronized
  subst hsz
  have hD := hD0
  have hP : va_P D vwCl [] s.heap := hP
  have hl := lv_entry ([.long x.toInt64, .long lo.toInt64, .long hi.toInt64]) (n := 6) (Nat.le_of_ble_eq_true rfl)
  rw [lg_entry_eq]
  generalize (lg_sl ([.long x.toInt64, .long lo.toInt64, .long hi.toInt64]) ++ List.replicate (6 - (lg_sl ([.long x.toInt64, .long lo.toInt64, .long hi.toInt64])).length) Slot.unset).toArray = ls at hl ⊢
  have hl : lv_has ls 6 [(0, .long x.toInt64), (2, .long lo.toInt64), (4, .long hi.toInt64)] := hl
  refine lv_lload_n hx hb dX10_in_0 rfl (lv_at hl 0 rfl) ?_
  refine lv_lload_n hx hb dX10_in_1 rfl (lv_at hl 1 rfl) ?_
  refine W.lcmp hx hb dX10_in_2 ?_
  refine lv_if_lt (tgt := 17) hx hb dX10_in_3 (by decide) (fun c_3 => ?_) (fun c_3 => ?_)
  ·
    have c_3 := (lg_cmp_lt _ _).mp c_3
    refine lv_iconst (v := 0) hx hb dX10_in_17 (by decide) ?_
    exact W.zret (v := 0) hx hb hr (rfl) (fun t ht hW => ⟨_, rfl, (by exact b_0 (in_m0a c_3)), ht⟩) (fun _ h => absurd h List.not_mem_nil) dX10_in_18
  ·
    have c_3 := fun h => c_3 ((lg_cmp_lt _ _).mpr h)
    refine lv_lload_n hx hb dX10_in_6 rfl (lv_at hl 0 rfl) ?_
    refine lv_lload hx hb dX10_in_7 (lv_at hl 2 rfl) ?_
    refine W.lcmp hx hb dX10_in_9 ?_
    refine lv_if_gt (tgt := 17) hx hb dX10_in_10 (by decide) (fun c_10 => ?_) (fun c_10 => ?_)
    ·
      have c_10 := (lg_cmp_gt _ _).mp c_10
      refine lv_iconst (v := 0) hx hb dX10_in_17 (by decide) ?_
      exact W.zret (v := 0) hx hb hr (rfl) (fun t ht hW => ⟨_, rfl, (by exact b_0 (in_m0b c_10)), ht⟩) (fun _ h => absurd h List.not_mem_nil) dX10_in_18
    ·
      have c_10 := fun h => c_10 ((lg_cmp_gt _ _).mpr h)
      refine lv_iconst (v := 1) hx hb dX10_in_13 (by decide) ?_
      refine lv_goto (tgt := 18) hx hb dX10_in_14 (by decide) ?_
      exact W.zret (v := 1) hx hb hr (rfl) (fun t ht hW => ⟨_, rfl, (by exact b_1 (in_m1 c_3 c_10)), ht⟩) (fun _ h => absurd h List.not_mem_nil) dX10_in_18

set_option maxHeartbeats 4000000 in
set_option maxRecDepth 100000 in
theorem c_X10_no {l : Launch} {D : va_G} {cI cS cP : ClassId} {sz : Nat} {x : Int32}  : Met l yX10_no wsX10_no ({ frames := 0, cells := 0, slots := 0, locals := 0 }) (PC D (TY cI cS cP) [.int x] sz []) (vp_Sl (fun r => r = (-9223372036854775808) - x.toInt64)) 0 0 (fun _ => False) := by
  refine Met.ofW (cc := cX10_no) (maxL := 1) (ret := (some .long)) (by decide) rfl ?_
  intro p e s m args below meth c s₁ B hml hv
  obtain ⟨rfl, hsz, hP, hK, hD0, hN⟩ := hv
  have hx := B.exec
  have hb := B.bytes
  have hr := B.returns
  have hts := atoms_spec (ws := wsX10_no) B.pre
  have hown : s.vm.findClass RX10 = some m.cls := findClass_of_methodNamed B.named
  have hlocks := B.notSynchronized
  subst hsz
  have hD := hD0
  have hP : va_P D vwCl [] s.heap := hP
  have hl := lv_entry ([.int x]) (n := 1) (Nat.le_of_ble_eq_true rfl)
  rw [lg_entry_eq]
  generalize (lg_sl ([.int x]) ++ List.replicate (1 - (lg_sl ([.int x])).length) Slot.unset).toArray = ls at hl ⊢
  have hl : lv_has ls 1 [(0, .int x)] := hl
  refine lv_ldc2 hx hb hown (hts (.constantLong RX10 65 (-9223372036854775808)) (by decide +kernel)) dX10_no_0 ?_
  refine lv_iload_n hx hb dX10_no_3 rfl (lv_at hl 0 rfl) ?_
  refine lv_i2l (v := x.toInt64) hx hb dX10_no_4 rfl ?_
  refine lv_lsub hx hb dX10_no_5 ?_
  exact W.lret (v := (-9223372036854775808) - x.toInt64) hx hb hr (fun t ht hW => ⟨_, rfl, (by rfl), ht⟩) (fun _ h => absurd h List.not_mem_nil) dX10_no_6

set_option maxHeartbeats 4000000 in
set_option maxRecDepth 100000 in
theorem c_X10_hole {l : Launch} {D : va_G} {cI cS cP : ClassId} {sz : Nat} {m0 qk qp qr qc qm qb qf qs qt qx qy qo qz qi qv : Nat} {d sh low high nb cap sw np fe te kk : Nat} {le mo kd am wt md no nt fd : Int32} {z1 z2 z3 z4 z5 : Int64} {d1 s1 : Int32}  : Met l yX10_hole wsX10_hole ({ frames := 1, cells := 0, slots := 0, locals := 25 }) (PC D (TY cI cS cP) [.ref m0, .int d1, .int s1] sz [(m0, .inr (10, [.ref qk, .int (nI d), .int (nI sh), .int (nI low), .int (nI high), .int le, .int mo, .int (nI nb), .ref qp, .ref qr, .ref qc, .ref qm, .ref qb, .int (nI cap), .int kd, .int am, .int wt, .int md, .long z1, .long z2, .long z3, .long z4, .long z5, .int (nI sw), .int (nI np), .ref qf, .ref qs, .int (nI fe), .int (nI te), .int (nI kk), .ref qt, .ref qx, .ref qy, .int no, .int nt, .ref qo, .ref qz, .ref qi, .ref qv, .int fd]))]) (QI D (fun (r : Int32) (u : Nat × Nat) => (r = aHole d1 s1) ∧ u = sHole d sh d1 s1) (fun (u : Nat × Nat) => [(m0, .inr (10, [.ref qk, .int (nI u.1), .int (nI u.2), .int (nI low), .int (nI high), .int le, .int mo, .int (nI nb), .ref qp, .ref qr, .ref qc, .ref qm, .ref qb, .int (nI cap), .int kd, .int am, .int wt, .int md, .long z1, .long z2, .long z3, .long z4, .long z5, .int (nI sw), .int (nI np), .ref qf, .ref qs, .int (nI fe), .int (nI te), .int (nI kk), .ref qt, .ref qx, .ref qy, .int no, .int nt, .ref qo, .ref qz, .ref qi, .ref qv, .int fd]))]) (va_A [(m0, .inr (10, [.ref qk, .int (nI d), .int (nI sh), .int (nI low), .int (nI high), .int le, .int mo, .int (nI nb), .ref qp, .ref qr, .ref qc, .ref qm, .ref qb, .int (nI cap), .int kd, .int am, .int wt, .int md, .long z1, .long z2, .long z3, .long z4, .long z5, .int (nI sw), .int (nI np), .ref qf, .ref qs, .int (nI fe), .int (nI te), .int (nI kk), .ref qt, .ref qx, .ref qy, .int no, .int nt, .ref qo, .ref qz, .ref qi, .ref qv, .int fd]))] sz)) 0 0 (va_A [(m0, .inr (10, [.ref qk, .int (nI d), .int (nI sh), .int (nI low), .int (nI high), .int le, .int mo, .int (nI nb), .ref qp, .ref qr, .ref qc, .ref qm, .ref qb, .int (nI cap), .int kd, .int am, .int wt, .int md, .long z1, .long z2, .long z3, .long z4, .long z5, .int (nI sw), .int (nI np), .ref qf, .ref qs, .int (nI fe), .int (nI te), .int (nI kk), .ref qt, .ref qx, .ref qy, .int no, .int nt, .ref qo, .ref qz, .ref qi, .ref qv, .int fd]))] sz) := by
  refine Met.ofW (cc := cX10_hole) (maxL := 3) (ret := (some .int)) (by decide) rfl ?_
  intro p e s m args below meth c s₁ B hml hv
  obtain ⟨rfl, hsz, hP, hK, hD0, hN⟩ := hv
  have hx := B.exec
  have hb := B.bytes
  have hr := B.returns
  have hts := atoms_spec (ws := wsX10_hole) B.pre
  have hown : s.vm.findClass RX10 = some m.cls := findClass_of_methodNamed B.named
  have hlocks := B.notSynchronized
  subst hsz
  have iX10 : ∀ w ∈ u_ws RX10 TX10 40, w ∈ wsX10_hole := by decide +kernel
  have hD := hD0.self (sz := s.heap.size)
  generalize hAe : va_A [(m0, .inr (10, [.ref qk, .int (nI d), .int (nI sh), .int (nI low), .int (nI high), .int le, .int mo, .int (nI nb), .ref qp, .ref qr, .ref qc, .ref qm, .ref qb, .int (nI cap), .int kd, .int am, .int wt, .int md, .long z1, .long z2, .long z3, .long z4, .long z5, .int (nI sw), .int (nI np), .ref qf, .ref qs, .int (nI fe), .int (nI te), .int (nI kk), .ref qt, .ref qx, .ref qy, .int no, .int nt, .ref qo, .ref qz, .ref qi, .ref qv, .int fd]))] s.heap.size = A at hD ⊢
  have hA : ∀ q : Nat, s.heap.size ≤ q → A q := fun q h => by rw [← hAe]; exact Or.inr h
  have hS : va_S A s.heap s.heap [] := va_S.rf
  have hP : va_P D vwCl [(m0, .inr (10, [.ref qk, .int (nI d), .int (nI sh), .int (nI low), .int (nI high), .int le, .int mo, .int (nI nb), .ref qp, .ref qr, .ref qc, .ref qm, .ref qb, .int (nI cap), .int kd, .int am, .int wt, .int md, .long z1, .long z2, .long z3, .long z4, .long z5, .int (nI sw), .int (nI np), .ref qf, .ref qs, .int (nI fe), .int (nI te), .int (nI kk), .ref qt, .ref qx, .ref qy, .int no, .int nt, .ref qo, .ref qz, .ref qi, .ref qv, .int fd]))] s.heap := hP
  have hl := lv_entry ([.ref m0, .int d1, .int s1]) (n := 3) (Nat.le_of_ble_eq_true rfl)
  rw [lg_entry_eq]
  generalize (lg_sl ([.ref m0, .int d1, .int s1]) ++ List.replicate (3 - (lg_sl ([.ref m0, .int d1, .int s1])).length) Slot.unset).toArray = ls at hl ⊢
  have hl : lv_has ls 3 [(0, .ref m0), (1, .int d1), (2, .int s1)] := hl
  refine lv_iload_n hx hb dX10_hole_0 rfl (lv_at hl 1 rfl) ?_
  refine lv_i2l (v := d1.toInt64) hx hb dX10_hole_1 rfl ?_
  refine lv_lconst (v := 0) hx hb dX10_hole_2 (by decide) ?_
  refine lv_ldc2 hx hb hown (hts (.constantLong RX10 67 (50)) (by decide +kernel)) dX10_hole_3 ?_
  refine q_S (tys := TY cI cS cP) (D := D) ⟨hx, hb, hml, hown, hts⟩ [.long d1.toInt64, .long ((0 : Int32).toInt64), .long ((50 : Int32).toInt64)] [] c_X10_in (va_cwS 3 hts gX10_hole_X10_in rfl rfl rfl (by decide +kernel) ⟨Nat.le_of_ble_eq_true rfl, Nat.le_of_ble_eq_true rfl⟩) hK hN rfl hl.1 rfl (Nat.le_of_ble_eq_true rfl) dX10_hole_6 ⟨Nat.zero_le _, Nat.zero_le _⟩ (fun r hw => ?_)
  subst hw
  refine lv_if_eq (tgt := 23) hx hb dX10_hole_9 (by decide) (fun c_9 => ?_) (fun c_9 => ?_)
  ·
    have c_9 := bz c_9
    refine lv_bipush (v := (-2)) hx hb dX10_hole_23 (by decide) ?_
    have hP9 := hP.sub (ws' := [(m0, .inr (10, [.ref qk, .int (nI d), .int (nI sh), .int (nI low), .int (nI high), .int le, .int mo, .int (nI nb), .ref qp, .ref qr, .ref qc, .ref qm, .ref qb, .int (nI cap), .int kd, .int am, .int wt, .int md, .long z1, .long z2, .long z3, .long z4, .long z5, .int (nI sw), .int (nI np), .ref qf, .ref qs, .int (nI fe), .int (nI te), .int (nI kk), .ref qt, .ref qx, .ref qy, .int no, .int nt, .ref qo, .ref qz, .ref qi, .ref qv, .int fd]))]) [0] rfl
    have hD9 := hD.sub (ws' := [(m0, .inr (10, [.ref qk, .int (nI d), .int (nI sh), .int (nI low), .int (nI high), .int le, .int mo, .int (nI nb), .ref qp, .ref qr, .ref qc, .ref qm, .ref qb, .int (nI cap), .int kd, .int am, .int wt, .int md, .long z1, .long z2, .long z3, .long z4, .long z5, .int (nI sw), .int (nI np), .ref qf, .ref qs, .int (nI fe), .int (nI te), .int (nI kk), .ref qt, .ref qx, .ref qy, .int no, .int nt, .ref qo, .ref qz, .ref qi, .ref qv, .int fd]))]) [0] (by decide) rfl
    exact W.iret (v := (-2)) hx hb hr (fun t ht hW => ⟨⟨_, (d, sh), rfl, (by unfold aHole sHole; first | rw [if_neg (fun h => c_9 h.1), if_neg (fun h => c_9 h.1)]; exact ⟨rfl, rfl⟩ | rw [if_neg (fun h => c_20 h.2), if_neg (fun h => c_20 h.2)]; exact ⟨rfl, rfl⟩), by rw [ht]; exact hP9, hD9⟩, hS.F ht⟩) hS.2.2 dX10_hole_25
  ·
    have c_9 := bnz c_9
    refine lv_iload_n hx hb dX10_hole_12 rfl (lv_at hl 2 rfl) ?_
    refine lv_i2l (v := s1.toInt64) hx hb dX10_hole_13 rfl ?_
    refine lv_lconst (v := 0) hx hb dX10_hole_14 (by decide) ?_
    refine lv_iload_n hx hb dX10_hole_15 rfl (lv_at hl 1 rfl) ?_
    refine lv_i2l (v := d1.toInt64) hx hb dX10_hole_16 rfl ?_
    refine q_S (tys := TY cI cS cP) (D := D) ⟨hx, hb, hml, hown, hts⟩ [.long s1.toInt64, .long ((0 : Int32).toInt64), .long d1.toInt64] [] c_X10_in (va_cwS 3 hts gX10_hole_X10_in rfl rfl rfl (by decide +kernel) ⟨Nat.le_of_ble_eq_true rfl, Nat.le_of_ble_eq_true rfl⟩) hK hN rfl hl.1 rfl (Nat.le_of_ble_eq_true rfl) dX10_hole_17 ⟨Nat.zero_le _, Nat.zero_le _⟩ (fun r hw => ?_)
    subst hw
    refine lv_if_ne (tgt := 26) hx hb dX10_hole_20 (by decide) (fun c_20 => ?_) (fun c_20 => ?_)
    ·
      have c_20 := bnz c_20
      obtain ⟨dn, hdn, rfl⟩ := nat_of (hi := 50) (n := 50) (by decide) c_9
      obtain ⟨sn, hsn, rfl⟩ := nat_of (hi := nI dn) (n := dn) (nI_toInt (by omega)) c_20
      refine lv_aload_n hx hb dX10_hole_26 rfl (lv_at hl 0 rfl) ?_
      refine lv_iload_n hx hb dX10_hole_27 rfl (lv_at hl 1 rfl) ?_
      refine va_put (D := D) (ci := 10) (v := .int (nI dn)) (ty := .int) (C := RX10) (T := TX10) (N := 40) hx hb hts iX10 tyX10 tyX10_ok nmX10 hown hK hP hD hS 0 rfl rfl 1 (by decide) (hts (.fieldLink RX10 73 "DeepHoleModel" "depth" "I") (by decide +kernel)) (fun _ h9 => h9) rfl (by decide +kernel) rfl rfl (Nat.le_of_ble_eq_true rfl) dX10_hole_28 (fun H locs hP hD hS => ?_)
      have hP : va_P D vwCl [(m0, .inr (10, [.ref qk, .int (nI dn), .int (nI sh), .int (nI low), .int (nI high), .int le, .int mo, .int (nI nb), .ref qp, .ref qr, .ref qc, .ref qm, .ref qb, .int (nI cap), .int kd, .int am, .int wt, .int md, .long z1, .long z2, .long z3, .long z4, .long z5, .int (nI sw), .int (nI np), .ref qf, .ref qs, .int (nI fe), .int (nI te), .int (nI kk), .ref qt, .ref qx, .ref qy, .int no, .int nt, .ref qo, .ref qz, .ref qi, .ref qv, .int fd]))] H := hP
      have hD : va_D A [(m0, .inr (10, [.ref qk, .int (nI dn), .int (nI sh), .int (nI low), .int (nI high), .int le, .int mo, .int (nI nb), .ref qp, .ref qr, .ref qc, .ref qm, .ref qb, .int (nI cap), .int kd, .int am, .int wt, .int md, .long z1, .long z2, .long z3, .long z4, .long z5, .int (nI sw), .int (nI np), .ref qf, .ref qs, .int (nI fe), .int (nI te), .int (nI kk), .ref qt, .ref qx, .ref qy, .int no, .int nt, .ref qo, .ref qz, .ref qi, .ref qv, .int fd]))] := hD
      refine lv_aload_n hx hb dX10_hole_31 rfl (lv_at hl 0 rfl) ?_
      refine lv_iload_n hx hb dX10_hole_32 rfl (lv_at hl 2 rfl) ?_
      refine va_put (D := D) (ci := 10) (v := .int (nI sn)) (ty := .int) (C := RX10) (T := TX10) (N := 40) hx hb hts iX10 tyX10 tyX10_ok nmX10 hown hK hP hD hS 0 rfl rfl 2 (by decide) (hts (.fieldLink RX10 76 "DeepHoleModel" "shoe" "I") (by decide +kernel)) (fun _ h9 => h9) rfl (by decide +kernel) rfl rfl (Nat.le_of_ble_eq_true rfl) dX10_hole_33 (fun H locs hP hD hS => ?_)
      have hP : va_P D vwCl [(m0, .inr (10, [.ref qk, .int (nI dn), .int (nI sn), .int (nI low), .int (nI high), .int le, .int mo, .int (nI nb), .ref qp, .ref qr, .ref qc, .ref qm, .ref qb, .int (nI cap), .int kd, .int am, .int wt, .int md, .long z1, .long z2, .long z3, .long z4, .long z5, .int (nI sw), .int (nI np), .ref qf, .ref qs, .int (nI fe), .int (nI te), .int (nI kk), .ref qt, .ref qx, .ref qy, .int no, .int nt, .ref qo, .ref qz, .ref qi, .ref qv, .int fd]))] H := hP
      have hD : va_D A [(m0, .inr (10, [.ref qk, .int (nI dn), .int (nI sn), .int (nI low), .int (nI high), .int le, .int mo, .int (nI nb), .ref qp, .ref qr, .ref qc, .ref qm, .ref qb, .int (nI cap), .int kd, .int am, .int wt, .int md, .long z1, .long z2, .long z3, .long z4, .long z5, .int (nI sw), .int (nI np), .ref qf, .ref qs, .int (nI fe), .int (nI te), .int (nI kk), .ref qt, .ref qx, .ref qy, .int no, .int nt, .ref qo, .ref qz, .ref qi, .ref qv, .int fd]))] := hD
      refine lv_iconst (v := 1) hx hb dX10_hole_36 (by decide) ?_
      have hP9 := hP.sub (ws' := [(m0, .inr (10, [.ref qk, .int (nI dn), .int (nI sn), .int (nI low), .int (nI high), .int le, .int mo, .int (nI nb), .ref qp, .ref qr, .ref qc, .ref qm, .ref qb, .int (nI cap), .int kd, .int am, .int wt, .int md, .long z1, .long z2, .long z3, .long z4, .long z5, .int (nI sw), .int (nI np), .ref qf, .ref qs, .int (nI fe), .int (nI te), .int (nI kk), .ref qt, .ref qx, .ref qy, .int no, .int nt, .ref qo, .ref qz, .ref qi, .ref qv, .int fd]))]) [0] rfl
      have hD9 := hD.sub (ws' := [(m0, .inr (10, [.ref qk, .int (nI dn), .int (nI sn), .int (nI low), .int (nI high), .int le, .int mo, .int (nI nb), .ref qp, .ref qr, .ref qc, .ref qm, .ref qb, .int (nI cap), .int kd, .int am, .int wt, .int md, .long z1, .long z2, .long z3, .long z4, .long z5, .int (nI sw), .int (nI np), .ref qf, .ref qs, .int (nI fe), .int (nI te), .int (nI kk), .ref qt, .ref qx, .ref qy, .int no, .int nt, .ref qo, .ref qz, .ref qi, .ref qv, .int fd]))]) [0] (by decide) rfl
      exact W.iret (v := 1) hx hb hr (fun t ht hW => ⟨⟨_, (dn, sn), rfl, (by unfold aHole sHole; rw [if_pos ⟨c_9, c_20⟩, if_pos ⟨c_9, c_20⟩, nI_clamp (by omega), nI_clamp (by omega)]; exact ⟨rfl, rfl⟩), by rw [ht]; exact hP9, hD9⟩, hS.F ht⟩) hS.2.2 dX10_hole_37
    ·
      have c_20 := bz c_20
      refine lv_bipush (v := (-2)) hx hb dX10_hole_23 (by decide) ?_
      have hP9 := hP.sub (ws' := [(m0, .inr (10, [.ref qk, .int (nI d), .int (nI sh), .int (nI low), .int (nI high), .int le, .int mo, .int (nI nb), .ref qp, .ref qr, .ref qc, .ref qm, .ref qb, .int (nI cap), .int kd, .int am, .int wt, .int md, .long z1, .long z2, .long z3, .long z4, .long z5, .int (nI sw), .int (nI np), .ref qf, .ref qs, .int (nI fe), .int (nI te), .int (nI kk), .ref qt, .ref qx, .ref qy, .int no, .int nt, .ref qo, .ref qz, .ref qi, .ref qv, .int fd]))]) [0] rfl
      have hD9 := hD.sub (ws' := [(m0, .inr (10, [.ref qk, .int (nI d), .int (nI sh), .int (nI low), .int (nI high), .int le, .int mo, .int (nI nb), .ref qp, .ref qr, .ref qc, .ref qm, .ref qb, .int (nI cap), .int kd, .int am, .int wt, .int md, .long z1, .long z2, .long z3, .long z4, .long z5, .int (nI sw), .int (nI np), .ref qf, .ref qs, .int (nI fe), .int (nI te), .int (nI kk), .ref qt, .ref qx, .ref qy, .int no, .int nt, .ref qo, .ref qz, .ref qi, .ref qv, .int fd]))]) [0] (by decide) rfl
      exact W.iret (v := (-2)) hx hb hr (fun t ht hW => ⟨⟨_, (d, sh), rfl, (by unfold aHole sHole; first | rw [if_neg (fun h => c_9 h.1), if_neg (fun h => c_9 h.1)]; exact ⟨rfl, rfl⟩ | rw [if_neg (fun h => c_20 h.2), if_neg (fun h => c_20 h.2)]; exact ⟨rfl, rfl⟩), by rw [ht]; exact hP9, hD9⟩, hS.F ht⟩) hS.2.2 dX10_hole_25

set_option maxHeartbeats 4000000 in
set_option maxRecDepth 100000 in
theorem c_X10_margins {l : Launch} {D : va_G} {cI cS cP : ClassId} {sz : Nat} {m0 qk qp qr qc qm qb qf qs qt qx qy qo qz qi qv : Nat} {d sh low high nb cap sw np fe te kk : Nat} {le mo kd am wt md no nt fd : Int32} {z1 z2 z3 z4 z5 : Int64} {l1 h1 : Int32}  : Met l yX10_margins wsX10_margins ({ frames := 1, cells := 0, slots := 0, locals := 25 }) (PC D (TY cI cS cP) [.ref m0, .int l1, .int h1] sz [(m0, .inr (10, [.ref qk, .int (nI d), .int (nI sh), .int (nI low), .int (nI high), .int le, .int mo, .int (nI nb), .ref qp, .ref qr, .ref qc, .ref qm, .ref qb, .int (nI cap), .int kd, .int am, .int wt, .int md, .long z1, .long z2, .long z3, .long z4, .long z5, .int (nI sw), .int (nI np), .ref qf, .ref qs, .int (nI fe), .int (nI te), .int (nI kk), .ref qt, .ref qx, .ref qy, .int no, .int nt, .ref qo, .ref qz, .ref qi, .ref qv, .int fd]))]) (QI D (fun (r : Int32) (u : Nat × Nat) => (r = aMarg l1 h1) ∧ u = sMarg low high l1 h1) (fun (u : Nat × Nat) => [(m0, .inr (10, [.ref qk, .int (nI d), .int (nI sh), .int (nI u.1), .int (nI u.2), .int le, .int mo, .int (nI nb), .ref qp, .ref qr, .ref qc, .ref qm, .ref qb, .int (nI cap), .int kd, .int am, .int wt, .int md, .long z1, .long z2, .long z3, .long z4, .long z5, .int (nI sw), .int (nI np), .ref qf, .ref qs, .int (nI fe), .int (nI te), .int (nI kk), .ref qt, .ref qx, .ref qy, .int no, .int nt, .ref qo, .ref qz, .ref qi, .ref qv, .int fd]))]) (va_A [(m0, .inr (10, [.ref qk, .int (nI d), .int (nI sh), .int (nI low), .int (nI high), .int le, .int mo, .int (nI nb), .ref qp, .ref qr, .ref qc, .ref qm, .ref qb, .int (nI cap), .int kd, .int am, .int wt, .int md, .long z1, .long z2, .long z3, .long z4, .long z5, .int (nI sw), .int (nI np), .ref qf, .ref qs, .int (nI fe), .int (nI te), .int (nI kk), .ref qt, .ref qx, .ref qy, .int no, .int nt, .ref qo, .ref qz, .ref qi, .ref qv, .int fd]))] sz)) 0 0 (va_A [(m0, .inr (10, [.ref qk, .int (nI d), .int (nI sh), .int (nI low), .int (nI high), .int le, .int mo, .int (nI nb), .ref qp, .ref qr, .ref qc, .ref qm, .ref qb, .int (nI cap), .int kd, .int am, .int wt, .int md, .long z1, .long z2, .long z3, .long z4, .long z5, .int (nI sw), .int (nI np), .ref qf, .ref qs, .int (nI fe), .int (nI te), .int (nI kk), .ref qt, .ref qx, .ref qy, .int no, .int nt, .ref qo, .ref qz, .ref qi, .ref qv, .int fd]))] sz) := by
  refine Met.ofW (cc := cX10_margins) (maxL := 3) (ret := (some .int)) (by decide) rfl ?_
  intro p e s m args below meth c s₁ B hml hv
  obtain ⟨rfl, hsz, hP, hK, hD0, hN⟩ := hv
  have hx := B.exec
  have hb := B.bytes
  have hr := B.returns
  have hts := atoms_spec (ws := wsX10_margins) B.pre
  have hown : s.vm.findClass RX10 = some m.cls := findClass_of_methodNamed B.named
  have hlocks := B.notSynchronized
  subst hsz
  have iX10 : ∀ w ∈ u_ws RX10 TX10 40, w ∈ wsX10_margins := by decide +kernel
  have hD := hD0.self (sz := s.heap.size)
  generalize hAe : va_A [(m0, .inr (10, [.ref qk, .int (nI d), .int (nI sh), .int (nI low), .int (nI high), .int le, .int mo, .int (nI nb), .ref qp, .ref qr, .ref qc, .ref qm, .ref qb, .int (nI cap), .int kd, .int am, .int wt, .int md, .long z1, .long z2, .long z3, .long z4, .long z5, .int (nI sw), .int (nI np), .ref qf, .ref qs, .int (nI fe), .int (nI te), .int (nI kk), .ref qt, .ref qx, .ref qy, .int no, .int nt, .ref qo, .ref qz, .ref qi, .ref qv, .int fd]))] s.heap.size = A at hD ⊢
  have hA : ∀ q : Nat, s.heap.size ≤ q → A q := fun q h => by rw [← hAe]; exact Or.inr h
  have hS : va_S A s.heap s.heap [] := va_S.rf
  have hP : va_P D vwCl [(m0, .inr (10, [.ref qk, .int (nI d), .int (nI sh), .int (nI low), .int (nI high), .int le, .int mo, .int (nI nb), .ref qp, .ref qr, .ref qc, .ref qm, .ref qb, .int (nI cap), .int kd, .int am, .int wt, .int md, .long z1, .long z2, .long z3, .long z4, .long z5, .int (nI sw), .int (nI np), .ref qf, .ref qs, .int (nI fe), .int (nI te), .int (nI kk), .ref qt, .ref qx, .ref qy, .int no, .int nt, .ref qo, .ref qz, .ref qi, .ref qv, .int fd]))] s.heap := hP
  have hl := lv_entry ([.ref m0, .int l1, .int h1]) (n := 3) (Nat.le_of_ble_eq_true rfl)
  rw [lg_entry_eq]
  generalize (lg_sl ([.ref m0, .int l1, .int h1]) ++ List.replicate (3 - (lg_sl ([.ref m0, .int l1, .int h1])).length) Slot.unset).toArray = ls at hl ⊢
  have hl : lv_has ls 3 [(0, .ref m0), (1, .int l1), (2, .int h1)] := hl
  refine lv_iload_n hx hb dX10_margins_0 rfl (lv_at hl 1 rfl) ?_
  refine lv_i2l (v := l1.toInt64) hx hb dX10_margins_1 rfl ?_
  refine lv_lconst (v := 0) hx hb dX10_margins_2 (by decide) ?_
  refine lv_ldc2 hx hb hown (hts (.constantLong RX10 79 (500)) (by decide +kernel)) dX10_margins_3 ?_
  refine q_S (tys := TY cI cS cP) (D := D) ⟨hx, hb, hml, hown, hts⟩ [.long l1.toInt64, .long ((0 : Int32).toInt64), .long ((500 : Int32).toInt64)] [] c_X10_in (va_cwS 3 hts gX10_margins_X10_in rfl rfl rfl (by decide +kernel) ⟨Nat.le_of_ble_eq_true rfl, Nat.le_of_ble_eq_true rfl⟩) hK hN rfl hl.1 rfl (Nat.le_of_ble_eq_true rfl) dX10_margins_6 ⟨Nat.zero_le _, Nat.zero_le _⟩ (fun r hw => ?_)
  subst hw
  refine lv_if_eq (tgt := 24) hx hb dX10_margins_9 (by decide) (fun c_9 => ?_) (fun c_9 => ?_)
  ·
    have c_9 := bz c_9
    refine lv_bipush (v := (-2)) hx hb dX10_margins_24 (by decide) ?_
    have hP9 := hP.sub (ws' := [(m0, .inr (10, [.ref qk, .int (nI d), .int (nI sh), .int (nI low), .int (nI high), .int le, .int mo, .int (nI nb), .ref qp, .ref qr, .ref qc, .ref qm, .ref qb, .int (nI cap), .int kd, .int am, .int wt, .int md, .long z1, .long z2, .long z3, .long z4, .long z5, .int (nI sw), .int (nI np), .ref qf, .ref qs, .int (nI fe), .int (nI te), .int (nI kk), .ref qt, .ref qx, .ref qy, .int no, .int nt, .ref qo, .ref qz, .ref qi, .ref qv, .int fd]))]) [0] rfl
    have hD9 := hD.sub (ws' := [(m0, .inr (10, [.ref qk, .int (nI d), .int (nI sh), .int (nI low), .int (nI high), .int le, .int mo, .int (nI nb), .ref qp, .ref qr, .ref qc, .ref qm, .ref qb, .int (nI cap), .int kd, .int am, .int wt, .int md, .long z1, .long z2, .long z3, .long z4, .long z5, .int (nI sw), .int (nI np), .ref qf, .ref qs, .int (nI fe), .int (nI te), .int (nI kk), .ref qt, .ref qx, .ref qy, .int no, .int nt, .ref qo, .ref qz, .ref qi, .ref qv, .int fd]))]) [0] (by decide) rfl
    exact W.iret (v := (-2)) hx hb hr (fun t ht hW => ⟨⟨_, (low, high), rfl, (by unfold aMarg sMarg; first | rw [if_neg (fun h => c_9 h.1), if_neg (fun h => c_9 h.1)]; exact ⟨rfl, rfl⟩ | rw [if_neg (fun h => c_21 h.2), if_neg (fun h => c_21 h.2)]; exact ⟨rfl, rfl⟩), by rw [ht]; exact hP9, hD9⟩, hS.F ht⟩) hS.2.2 dX10_margins_26
  ·
    have c_9 := bnz c_9
    refine lv_iload_n hx hb dX10_margins_12 rfl (lv_at hl 2 rfl) ?_
    refine lv_i2l (v := h1.toInt64) hx hb dX10_margins_13 rfl ?_
    refine lv_lconst (v := 0) hx hb dX10_margins_14 (by decide) ?_
    refine lv_ldc2 hx hb hown (hts (.constantLong RX10 79 (500)) (by decide +kernel)) dX10_margins_15 ?_
    refine q_S (tys := TY cI cS cP) (D := D) ⟨hx, hb, hml, hown, hts⟩ [.long h1.toInt64, .long ((0 : Int32).toInt64), .long ((500 : Int32).toInt64)] [] c_X10_in (va_cwS 3 hts gX10_margins_X10_in rfl rfl rfl (by decide +kernel) ⟨Nat.le_of_ble_eq_true rfl, Nat.le_of_ble_eq_true rfl⟩) hK hN rfl hl.1 rfl (Nat.le_of_ble_eq_true rfl) dX10_margins_18 ⟨Nat.zero_le _, Nat.zero_le _⟩ (fun r hw => ?_)
    subst hw
    refine lv_if_ne (tgt := 27) hx hb dX10_margins_21 (by decide) (fun c_21 => ?_) (fun c_21 => ?_)
    ·
      have c_21 := bnz c_21
      obtain ⟨ln, hln, rfl⟩ := nat_of (hi := 500) (n := 500) (by decide) c_9
      obtain ⟨hn, hhn, rfl⟩ := nat_of (hi := 500) (n := 500) (by decide) c_21
      refine lv_aload_n hx hb dX10_margins_27 rfl (lv_at hl 0 rfl) ?_
      refine lv_iload_n hx hb dX10_margins_28 rfl (lv_at hl 1 rfl) ?_
      refine va_put (D := D) (ci := 10) (v := .int (nI ln)) (ty := .int) (C := RX10) (T := TX10) (N := 40) hx hb hts iX10 tyX10 tyX10_ok nmX10 hown hK hP hD hS 0 rfl rfl 3 (by decide) (hts (.fieldLink RX10 81 "DeepHoleModel" "low" "I") (by decide +kernel)) (fun _ h9 => h9) rfl (by decide +kernel) rfl rfl (Nat.le_of_ble_eq_true rfl) dX10_margins_29 (fun H locs hP hD hS => ?_)
      have hP : va_P D vwCl [(m0, .inr (10, [.ref qk, .int (nI d), .int (nI sh), .int (nI ln), .int (nI high), .int le, .int mo, .int (nI nb), .ref qp, .ref qr, .ref qc, .ref qm, .ref qb, .int (nI cap), .int kd, .int am, .int wt, .int md, .long z1, .long z2, .long z3, .long z4, .long z5, .int (nI sw), .int (nI np), .ref qf, .ref qs, .int (nI fe), .int (nI te), .int (nI kk), .ref qt, .ref qx, .ref qy, .int no, .int nt, .ref qo, .ref qz, .ref qi, .ref qv, .int fd]))] H := hP
      have hD : va_D A [(m0, .inr (10, [.ref qk, .int (nI d), .int (nI sh), .int (nI ln), .int (nI high), .int le, .int mo, .int (nI nb), .ref qp, .ref qr, .ref qc, .ref qm, .ref qb, .int (nI cap), .int kd, .int am, .int wt, .int md, .long z1, .long z2, .long z3, .long z4, .long z5, .int (nI sw), .int (nI np), .ref qf, .ref qs, .int (nI fe), .int (nI te), .int (nI kk), .ref qt, .ref qx, .ref qy, .int no, .int nt, .ref qo, .ref qz, .ref qi, .ref qv, .int fd]))] := hD
      refine lv_aload_n hx hb dX10_margins_32 rfl (lv_at hl 0 rfl) ?_
      refine lv_iload_n hx hb dX10_margins_33 rfl (lv_at hl 2 rfl) ?_
      refine va_put (D := D) (ci := 10) (v := .int (nI hn)) (ty := .int) (C := RX10) (T := TX10) (N := 40) hx hb hts iX10 tyX10 tyX10_ok nmX10 hown hK hP hD hS 0 rfl rfl 4 (by decide) (hts (.fieldLink RX10 84 "DeepHoleModel" "high" "I") (by decide +kernel)) (fun _ h9 => h9) rfl (by decide +kernel) rfl rfl (Nat.le_of_ble_eq_true rfl) dX10_margins_34 (fun H locs hP hD hS => ?_)
      have hP : va_P D vwCl [(m0, .inr (10, [.ref qk, .int (nI d), .int (nI sh), .int (nI ln), .int (nI hn), .int le, .int mo, .int (nI nb), .ref qp, .ref qr, .ref qc, .ref qm, .ref qb, .int (nI cap), .int kd, .int am, .int wt, .int md, .long z1, .long z2, .long z3, .long z4, .long z5, .int (nI sw), .int (nI np), .ref qf, .ref qs, .int (nI fe), .int (nI te), .int (nI kk), .ref qt, .ref qx, .ref qy, .int no, .int nt, .ref qo, .ref qz, .ref qi, .ref qv, .int fd]))] H := hP
      have hD : va_D A [(m0, .inr (10, [.ref qk, .int (nI d), .int (nI sh), .int (nI ln), .int (nI hn), .int le, .int mo, .int (nI nb), .ref qp, .ref qr, .ref qc, .ref qm, .ref qb, .int (nI cap), .int kd, .int am, .int wt, .int md, .long z1, .long z2, .long z3, .long z4, .long z5, .int (nI sw), .int (nI np), .ref qf, .ref qs, .int (nI fe), .int (nI te), .int (nI kk), .ref qt, .ref qx, .ref qy, .int no, .int nt, .ref qo, .ref qz, .ref qi, .ref qv, .int fd]))] := hD
      refine lv_iconst (v := 1) hx hb dX10_margins_37 (by decide) ?_
      have hP9 := hP.sub (ws' := [(m0, .inr (10, [.ref qk, .int (nI d), .int (nI sh), .int (nI ln), .int (nI hn), .int le, .int mo, .int (nI nb), .ref qp, .ref qr, .ref qc, .ref qm, .ref qb, .int (nI cap), .int kd, .int am, .int wt, .int md, .long z1, .long z2, .long z3, .long z4, .long z5, .int (nI sw), .int (nI np), .ref qf, .ref qs, .int (nI fe), .int (nI te), .int (nI kk), .ref qt, .ref qx, .ref qy, .int no, .int nt, .ref qo, .ref qz, .ref qi, .ref qv, .int fd]))]) [0] rfl
      have hD9 := hD.sub (ws' := [(m0, .inr (10, [.ref qk, .int (nI d), .int (nI sh), .int (nI ln), .int (nI hn), .int le, .int mo, .int (nI nb), .ref qp, .ref qr, .ref qc, .ref qm, .ref qb, .int (nI cap), .int kd, .int am, .int wt, .int md, .long z1, .long z2, .long z3, .long z4, .long z5, .int (nI sw), .int (nI np), .ref qf, .ref qs, .int (nI fe), .int (nI te), .int (nI kk), .ref qt, .ref qx, .ref qy, .int no, .int nt, .ref qo, .ref qz, .ref qi, .ref qv, .int fd]))]) [0] (by decide) rfl
      exact W.iret (v := 1) hx hb hr (fun t ht hW => ⟨⟨_, (ln, hn), rfl, (by unfold aMarg sMarg; rw [if_pos ⟨c_9, c_21⟩, if_pos ⟨c_9, c_21⟩, nI_clamp (by omega), nI_clamp (by omega)]; exact ⟨rfl, rfl⟩), by rw [ht]; exact hP9, hD9⟩, hS.F ht⟩) hS.2.2 dX10_margins_38
    ·
      have c_21 := bz c_21
      refine lv_bipush (v := (-2)) hx hb dX10_margins_24 (by decide) ?_
      have hP9 := hP.sub (ws' := [(m0, .inr (10, [.ref qk, .int (nI d), .int (nI sh), .int (nI low), .int (nI high), .int le, .int mo, .int (nI nb), .ref qp, .ref qr, .ref qc, .ref qm, .ref qb, .int (nI cap), .int kd, .int am, .int wt, .int md, .long z1, .long z2, .long z3, .long z4, .long z5, .int (nI sw), .int (nI np), .ref qf, .ref qs, .int (nI fe), .int (nI te), .int (nI kk), .ref qt, .ref qx, .ref qy, .int no, .int nt, .ref qo, .ref qz, .ref qi, .ref qv, .int fd]))]) [0] rfl
      have hD9 := hD.sub (ws' := [(m0, .inr (10, [.ref qk, .int (nI d), .int (nI sh), .int (nI low), .int (nI high), .int le, .int mo, .int (nI nb), .ref qp, .ref qr, .ref qc, .ref qm, .ref qb, .int (nI cap), .int kd, .int am, .int wt, .int md, .long z1, .long z2, .long z3, .long z4, .long z5, .int (nI sw), .int (nI np), .ref qf, .ref qs, .int (nI fe), .int (nI te), .int (nI kk), .ref qt, .ref qx, .ref qy, .int no, .int nt, .ref qo, .ref qz, .ref qi, .ref qv, .int fd]))]) [0] (by decide) rfl
      exact W.iret (v := (-2)) hx hb hr (fun t ht hW => ⟨⟨_, (low, high), rfl, (by unfold aMarg sMarg; first | rw [if_neg (fun h => c_9 h.1), if_neg (fun h => c_9 h.1)]; exact ⟨rfl, rfl⟩ | rw [if_neg (fun h => c_21 h.2), if_neg (fun h => c_21 h.2)]; exact ⟨rfl, rfl⟩), by rw [ht]; exact hP9, hD9⟩, hS.F ht⟩) hS.2.2 dX10_margins_26

set_option maxHeartbeats 4000000 in
set_option maxRecDepth 100000 in
theorem c_X10_groundOf {l : Launch} {D : va_G} {cI cS cP : ClassId} {sz : Nat} {m0 qk qp qr qc qm qb qf qs qt qx qy qo qz qi qv : Nat} {d sh low high nb cap sw np fe te kk : Nat} {le mo kd am wt md no nt fd : Int32} {z1 z2 z3 z4 z5 : Int64} {fmf szf imf : Nat → Int32} {w9 i n : Nat} {it : Nat → Int32} (hw9 : w9 < 2) (hi : i < 60) (hn : n ≤ 60) (hG : gREL fmf szf imf w9 n it) : Met l yX10_groundOf wsX10_groundOf ({ frames := 1, cells := 0, slots := 0, locals := 25 }) (PC D (TY cI cS cP) [.ref m0, .int (nI w9), .int (nI i)] sz [(m0, .inr (10, [.ref qk, .int (nI d), .int (nI sh), .int (nI low), .int (nI high), .int le, .int mo, .int (nI nb), .ref qp, .ref qr, .ref qc, .ref qm, .ref qb, .int (nI cap), .int kd, .int am, .int wt, .int md, .long z1, .long z2, .long z3, .long z4, .long z5, .int (nI sw), .int (nI np), .ref qf, .ref qs, .int (nI fe), .int (nI te), .int (nI kk), .ref qt, .ref qx, .ref qy, .int no, .int nt, .ref qo, .ref qz, .ref qi, .ref qv, .int fd])), (qo, .inl (cI, 4, .inl fmf)), (qz, .inl (cI, 4, .inl szf)), (qi, .inl (cI, 240, .inl imf))]) (vp_Si (fun r => r = nI (gN it n (gdf w9) (i + 1)))) 0 0 (fun _ => False) := by
  refine Met.ofW (cc := cX10_groundOf) (maxL := 5) (ret := (some .int)) (by decide) rfl ?_
  intro p e s m args below meth c s₁ B hml hv
  obtain ⟨rfl, hsz, hP, hK, hD0, hN⟩ := hv
  have hx := B.exec
  have hb := B.bytes
  have hr := B.returns
  have hts := atoms_spec (ws := wsX10_groundOf) B.pre
  have hown : s.vm.findClass RX10 = some m.cls := findClass_of_methodNamed B.named
  have hlocks := B.notSynchronized
  subst hsz
  have iX10 : ∀ w ∈ u_ws RX10 TX10 40, w ∈ wsX10_groundOf := by decide +kernel
  have hD := hD0
  have hP : va_P D vwCl [(m0, .inr (10, [.ref qk, .int (nI d), .int (nI sh), .int (nI low), .int (nI high), .int le, .int mo, .int (nI nb), .ref qp, .ref qr, .ref qc, .ref qm, .ref qb, .int (nI cap), .int kd, .int am, .int wt, .int md, .long z1, .long z2, .long z3, .long z4, .long z5, .int (nI sw), .int (nI np), .ref qf, .ref qs, .int (nI fe), .int (nI te), .int (nI kk), .ref qt, .ref qx, .ref qy, .int no, .int nt, .ref qo, .ref qz, .ref qi, .ref qv, .int fd])), (qo, .inl (cI, 4, .inl fmf)), (qz, .inl (cI, 4, .inl szf)), (qi, .inl (cI, 240, .inl imf))] s.heap := hP
  have hl := lv_entry ([.ref m0, .int (nI w9), .int (nI i)]) (n := 5) (Nat.le_of_ble_eq_true rfl)
  rw [lg_entry_eq]
  generalize (lg_sl ([.ref m0, .int (nI w9), .int (nI i)]) ++ List.replicate (5 - (lg_sl ([.ref m0, .int (nI w9), .int (nI i)])).length) Slot.unset).toArray = ls at hl ⊢
  have hl : lv_has ls 5 [(0, .ref m0), (1, .int (nI w9)), (2, .int (nI i))] := hl
  refine lv_iload_n hx hb dX10_groundOf_0 rfl (lv_at hl 2 rfl) ?_
  refine lv_eqi (z := nI (i + 1) - 1) ((nI_pred i).symm) ?_
  refine lv_istore_n (lv' := [(3, .int (nI (i + 1) - 1)), (0, .ref m0), (1, .int (nI w9)), (2, .int (nI i))]) hx hb dX10_groundOf_1 rfl hl (by decide) rfl (fun ls hl => ?_)
  refine lp_q (I := fun zz9 ls => ∃ (q : Nat), zz9 = q ∧ (q ≤ i + 1) ∧ (gN it n (gdf w9) (i + 1) = gN it n (gdf w9) q) ∧ lv_has ls 5 [(0, .ref m0), (1, .int (nI w9)), (2, .int (nI i)), (3, .int (nI q - 1))]) ?_ ((i + 1)) ⟨i + 1, rfl, (by omega), (rfl), lv_sub hl [1, 2, 3, 0] rfl⟩
  intro n_2 ls ih_2 hI
  obtain ⟨q, hn_2, hq, hs, hl⟩ := hI
  refine lv_iload_n hx hb dX10_groundOf_2 rfl (lv_at hl 3 rfl) ?_
  refine lv_if_lt (tgt := 64) hx hb dX10_groundOf_3 (by decide) (fun c_3 => ?_) (fun c_3 => ?_)
  ·
    have c_3 : q = 0 := (m1_lt (by omega)).mp c_3
    refine lv_iload_n hx hb dX10_groundOf_64 rfl (lv_at hl 1 rfl) ?_
    refine lv_if_ne (tgt := 72) hx hb dX10_groundOf_65 (by decide) (fun c_65 => ?_) (fun c_65 => ?_)
    ·
      have c_65 := n_ne (a := w9) (b := 0) c_65 (by omega) (by omega)
      refine lv_sipush (v := 3000) hx hb dX10_groundOf_72 (by decide) ?_
      exact W.iret (v := 3000) hx hb hr (fun t ht hW => ⟨_, rfl, (by rw [hs, c_3]; unfold gdf; first | rw [if_pos c_65]; rfl | rw [if_neg c_65]; rfl), ht⟩) (fun _ h => absurd h List.not_mem_nil) dX10_groundOf_75
    ·
      have c_65 := n_eq (a := w9) (b := 0) c_65 (by omega) (by omega)
      refine lv_iconst (v := 0) hx hb dX10_groundOf_68 (by decide) ?_
      refine lv_goto (tgt := 75) hx hb dX10_groundOf_69 (by decide) ?_
      exact W.iret (v := 0) hx hb hr (fun t ht hW => ⟨_, rfl, (by rw [hs, c_3]; unfold gdf; first | rw [if_pos c_65]; rfl | rw [if_neg c_65]; rfl), ht⟩) (fun _ h => absurd h List.not_mem_nil) dX10_groundOf_75
  ·
    have c_3 : 0 < q := Nat.pos_of_ne_zero (fun h => c_3 ((m1_lt (by omega)).mpr h))
    have hl : lv_has ls 5 [(0, .ref m0), (1, .int (nI w9)), (2, .int (nI i)), (3, .int (nI (q - 1)))] := by rw [← m1_n c_3]; exact hl
    refine lv_aload_n hx hb dX10_groundOf_6 rfl (lv_at hl 0 rfl) ?_
    refine va_get (D := D) (ci := 10) (v := .ref qo) (C := RX10) (T := TX10) (N := 40) hx hb hts iX10 hown hK hP 0 rfl rfl 35 (by decide) (hts (.fieldLink RX10 53 "DeepHoleModel" "forms" "[I") (by decide +kernel)) (fun _ h9 => h9) rfl dX10_groundOf_7 ?_
    refine lv_iload_n hx hb dX10_groundOf_10 rfl (lv_at hl 1 rfl) ?_
    refine rd_i hx hb hK hP 1 0 rfl rfl (k := w9) (by omega) (by decide) dX10_groundOf_11 ?_
    refine lv_if_lt (tgt := 25) hx hb dX10_groundOf_12 (by decide) (fun c_12 => ?_) (fun c_12 => ?_)
    ·
      have hn0 : n = 0 := (hG.resolve_right (fun h => h.1 c_12)).2
      refine lv_iconst (v := (-1)) hx hb dX10_groundOf_25 (by decide) ?_
      refine lv_goto (tgt := 40) hx hb dX10_groundOf_26 (by decide) ?_
      refine lv_istore (lv' := [(4, .int (-1)), (0, .ref m0), (1, .int (nI w9)), (2, .int (nI i)), (3, .int (nI (q - 1)))]) hx hb dX10_groundOf_40 hl (by decide) rfl (fun ls hl => ?_)
      refine lv_iload hx hb dX10_groundOf_42 (lv_at hl 0 rfl) ?_
      refine lv_i2l (v := ((-1) : Int32).toInt64) hx hb dX10_groundOf_44 rfl ?_
      refine lv_lconst (v := 0) hx hb dX10_groundOf_45 (by decide) ?_
      refine lv_ldc2 hx hb hown (hts (.constantLong RX10 87 (3000)) (by decide +kernel)) dX10_groundOf_46 ?_
      refine q_S (tys := TY cI cS cP) (D := D) ⟨hx, hb, hml, hown, hts⟩ [.long (((-1) : Int32).toInt64), .long ((0 : Int32).toInt64), .long ((3000 : Int32).toInt64)] [] c_X10_in (va_cwS 3 hts gX10_groundOf_X10_in rfl rfl rfl (by decide +kernel) ⟨Nat.le_of_ble_eq_true rfl, Nat.le_of_ble_eq_true rfl⟩) hK hN rfl hl.1 rfl (Nat.le_of_ble_eq_true rfl) dX10_groundOf_49 ⟨Nat.zero_le _, Nat.zero_le _⟩ (fun r hw => ?_)
      subst hw
      refine lv_if_eq (tgt := 58) hx hb dX10_groundOf_52 (by decide) (fun c_52 => ?_) (fun c_52 => ?_)
      ·
        have c_52 := bz c_52
        refine lv_iinc (v := nI (q - 1) - 1) (lv' := [(3, .int (nI (q - 1) - 1)), (4, .int (-1)), (0, .ref m0), (1, .int (nI w9)), (2, .int (nI i))]) hx hb dX10_groundOf_58 hl (k := 4) rfl m1_m (by decide) rfl (fun ls hl => ?_)
        refine lv_goto (tgt := 2) hx hb dX10_groundOf_61 (by decide) ?_
        exact ih_2 _ _ (by omega) ⟨q - 1, rfl, (by omega), (by rw [hs]; first | exact gN_skipq c_3 (by omega) | exact gN_miss c_3 (by rw [← hit (q - 1) (by omega)]; exact c_52)), lv_sub hl [2, 3, 4, 0] rfl⟩
      ·
        have c_52 := bnz c_52
        refine lv_iload hx hb dX10_groundOf_55 (lv_at hl 0 rfl) ?_
        exact W.iret (v := (-1)) hx hb hr (fun t ht hW => ⟨_, rfl, (by exact absurd c_52.1 (by decide)), ht⟩) (fun _ h => absurd h List.not_mem_nil) dX10_groundOf_57
    ·
      obtain ⟨hfm, hsz, hit⟩ := hG.resolve_left (fun h => c_12 h.1)
      refine lv_iload_n hx hb dX10_groundOf_15 rfl (lv_at hl 3 rfl) ?_
      refine lv_aload_n hx hb dX10_groundOf_16 rfl (lv_at hl 0 rfl) ?_
      refine va_get (D := D) (ci := 10) (v := .ref qz) (C := RX10) (T := TX10) (N := 40) hx hb hts iX10 hown hK hP 0 rfl rfl 36 (by decide) (hts (.fieldLink RX10 56 "DeepHoleModel" "sizes" "[I") (by decide +kernel)) (fun _ h9 => h9) rfl dX10_groundOf_17 ?_
      refine lv_iload_n hx hb dX10_groundOf_20 rfl (lv_at hl 1 rfl) ?_
      refine rd_i hx hb hK hP 2 0 rfl rfl (k := w9) (by omega) (by decide) dX10_groundOf_21 ?_
      refine lv_eqi (z := nI n) (hsz) ?_
      refine lv_icmp_lt (tgt := 29) hx hb dX10_groundOf_22 (by decide) (fun c_22 => ?_) (fun c_22 => ?_)
      ·
        have c_22 := n_lt (a := (q - 1)) (b := n) c_22 (by omega) (by omega)
        refine lv_aload_n hx hb dX10_groundOf_29 rfl (lv_at hl 0 rfl) ?_
        refine va_get (D := D) (ci := 10) (v := .ref qi) (C := RX10) (T := TX10) (N := 40) hx hb hts iX10 hown hK hP 0 rfl rfl 37 (by decide) (hts (.fieldLink RX10 59 "DeepHoleModel" "items" "[I") (by decide +kernel)) (fun _ h9 => h9) rfl dX10_groundOf_30 ?_
        refine lv_bipush (v := 60) hx hb dX10_groundOf_33 (by decide) ?_
        refine lv_iload_n hx hb dX10_groundOf_35 rfl (lv_at hl 1 rfl) ?_
        refine lv_imul hx hb dX10_groundOf_36 ?_
        refine lv_eqi (z := nI (60 * w9)) (pk_mul _ _) ?_
        refine lv_iload_n hx hb dX10_groundOf_37 rfl (lv_at hl 3 rfl) ?_
        refine lv_iadd hx hb dX10_groundOf_38 ?_
        refine lv_eqi (z := nI ((60 * w9) + (q - 1))) (nI_add _ _) ?_
        refine rd_i hx hb hK hP 3 0 rfl rfl (k := (60 * w9) + (q - 1)) (by omega) (by decide) dX10_groundOf_39 ?_
        refine lv_istore (lv' := [(4, .int (imf ((60 * w9) + (q - 1)))), (0, .ref m0), (1, .int (nI w9)), (2, .int (nI i)), (3, .int (nI (q - 1)))]) hx hb dX10_groundOf_40 hl (by decide) rfl (fun ls hl => ?_)
        refine lv_iload hx hb dX10_groundOf_42 (lv_at hl 0 rfl) ?_
        refine lv_i2l (v := (imf ((60 * w9) + (q - 1))).toInt64) hx hb dX10_groundOf_44 rfl ?_
        refine lv_lconst (v := 0) hx hb dX10_groundOf_45 (by decide) ?_
        refine lv_ldc2 hx hb hown (hts (.constantLong RX10 87 (3000)) (by decide +kernel)) dX10_groundOf_46 ?_
        refine q_S (tys := TY cI cS cP) (D := D) ⟨hx, hb, hml, hown, hts⟩ [.long ((imf ((60 * w9) + (q - 1))).toInt64), .long ((0 : Int32).toInt64), .long ((3000 : Int32).toInt64)] [] c_X10_in (va_cwS 3 hts gX10_groundOf_X10_in rfl rfl rfl (by decide +kernel) ⟨Nat.le_of_ble_eq_true rfl, Nat.le_of_ble_eq_true rfl⟩) hK hN rfl hl.1 rfl (Nat.le_of_ble_eq_true rfl) dX10_groundOf_49 ⟨Nat.zero_le _, Nat.zero_le _⟩ (fun r hw => ?_)
        subst hw
        refine lv_if_eq (tgt := 58) hx hb dX10_groundOf_52 (by decide) (fun c_52 => ?_) (fun c_52 => ?_)
        ·
          have c_52 := bz c_52
          refine lv_iinc (v := nI (q - 1) - 1) (lv' := [(3, .int (nI (q - 1) - 1)), (4, .int (imf ((60 * w9) + (q - 1)))), (0, .ref m0), (1, .int (nI w9)), (2, .int (nI i))]) hx hb dX10_groundOf_58 hl (k := 4) rfl m1_m (by decide) rfl (fun ls hl => ?_)
          refine lv_goto (tgt := 2) hx hb dX10_groundOf_61 (by decide) ?_
          exact ih_2 _ _ (by omega) ⟨q - 1, rfl, (by omega), (by rw [hs]; first | exact gN_skipq c_3 (by omega) | exact gN_miss c_3 (by rw [← hit (q - 1) (by omega)]; exact c_52)), lv_sub hl [2, 3, 4, 0] rfl⟩
        ·
          have c_52 := bnz c_52
          refine lv_iload hx hb dX10_groundOf_55 (lv_at hl 0 rfl) ?_
          exact W.iret (v := imf ((60 * w9) + (q - 1))) hx hb hr (fun t ht hW => ⟨_, rfl, (by rw [hs, hit (q - 1) (by omega)]; rw [hit (q - 1) (by omega)] at c_52; exact gN_hit c_3 (by omega) c_52), ht⟩) (fun _ h => absurd h List.not_mem_nil) dX10_groundOf_57
      ·
        have c_22 := n_nlt (a := (q - 1)) (b := n) c_22 (by omega) (by omega)
        refine lv_iconst (v := (-1)) hx hb dX10_groundOf_25 (by decide) ?_
        refine lv_goto (tgt := 40) hx hb dX10_groundOf_26 (by decide) ?_
        refine lv_istore (lv' := [(4, .int (-1)), (0, .ref m0), (1, .int (nI w9)), (2, .int (nI i)), (3, .int (nI (q - 1)))]) hx hb dX10_groundOf_40 hl (by decide) rfl (fun ls hl => ?_)
        refine lv_iload hx hb dX10_groundOf_42 (lv_at hl 0 rfl) ?_
        refine lv_i2l (v := ((-1) : Int32).toInt64) hx hb dX10_groundOf_44 rfl ?_
        refine lv_lconst (v := 0) hx hb dX10_groundOf_45 (by decide) ?_
        refine lv_ldc2 hx hb hown (hts (.constantLong RX10 87 (3000)) (by decide +kernel)) dX10_groundOf_46 ?_
        refine q_S (tys := TY cI cS cP) (D := D) ⟨hx, hb, hml, hown, hts⟩ [.long (((-1) : Int32).toInt64), .long ((0 : Int32).toInt64), .long ((3000 : Int32).toInt64)] [] c_X10_in (va_cwS 3 hts gX10_groundOf_X10_in rfl rfl rfl (by decide +kernel) ⟨Nat.le_of_ble_eq_true rfl, Nat.le_of_ble_eq_true rfl⟩) hK hN rfl hl.1 rfl (Nat.le_of_ble_eq_true rfl) dX10_groundOf_49 ⟨Nat.zero_le _, Nat.zero_le _⟩ (fun r hw => ?_)
        subst hw
        refine lv_if_eq (tgt := 58) hx hb dX10_groundOf_52 (by decide) (fun c_52 => ?_) (fun c_52 => ?_)
        ·
          have c_52 := bz c_52
          refine lv_iinc (v := nI (q - 1) - 1) (lv' := [(3, .int (nI (q - 1) - 1)), (4, .int (-1)), (0, .ref m0), (1, .int (nI w9)), (2, .int (nI i))]) hx hb dX10_groundOf_58 hl (k := 4) rfl m1_m (by decide) rfl (fun ls hl => ?_)
          refine lv_goto (tgt := 2) hx hb dX10_groundOf_61 (by decide) ?_
          exact ih_2 _ _ (by omega) ⟨q - 1, rfl, (by omega), (by rw [hs]; first | exact gN_skipq c_3 (by omega) | exact gN_miss c_3 (by rw [← hit (q - 1) (by omega)]; exact c_52)), lv_sub hl [2, 3, 4, 0] rfl⟩
        ·
          have c_52 := bnz c_52
          refine lv_iload hx hb dX10_groundOf_55 (lv_at hl 0 rfl) ?_
          exact W.iret (v := (-1)) hx hb hr (fun t ht hW => ⟨_, rfl, (by exact absurd c_52.1 (by decide)), ht⟩) (fun _ h => absurd h List.not_mem_nil) dX10_groundOf_57

set_option maxHeartbeats 4000000 in
set_option maxRecDepth 100000 in
theorem c_X10_ground {l : Launch} {D : va_G} {cI cS cP : ClassId} {sz : Nat} {m0 qk qp qr qc qm qb qf qs qt qx qy qo qz qi qv : Nat} {d sh low high nb cap sw np fe te kk : Nat} {le mo kd am wt md no nt fd : Int32} {z1 z2 z3 z4 z5 : Int64} {fmf szf imf : Nat → Int32} {n0 n1 : Nat} {it0 it1 : Nat → Int32} {wh_ ix : Int32} (hn0 : n0 ≤ 60) (hn1 : n1 ≤ 60) (hG0 : gREL fmf szf imf 0 n0 it0) (hG1 : gREL fmf szf imf 1 n1 it1) : Met l yX10_ground wsX10_ground ({ frames := 2, cells := 0, slots := 0, locals := 49 }) (PC D (TY cI cS cP) [.ref m0, .int wh_, .int ix] sz [(m0, .inr (10, [.ref qk, .int (nI d), .int (nI sh), .int (nI low), .int (nI high), .int le, .int mo, .int (nI nb), .ref qp, .ref qr, .ref qc, .ref qm, .ref qb, .int (nI cap), .int kd, .int am, .int wt, .int md, .long z1, .long z2, .long z3, .long z4, .long z5, .int (nI sw), .int (nI np), .ref qf, .ref qs, .int (nI fe), .int (nI te), .int (nI kk), .ref qt, .ref qx, .ref qy, .int no, .int nt, .ref qo, .ref qz, .ref qi, .ref qv, .int fd])), (qo, .inl (cI, 4, .inl fmf)), (qz, .inl (cI, 4, .inl szf)), (qi, .inl (cI, 240, .inl imf))]) (vp_Si (fun r => r = aGround it0 it1 n0 n1 wh_ ix)) 0 0 (fun _ => False) := by
  refine Met.ofW (cc := cX10_ground) (maxL := 3) (ret := (some .int)) (by decide) rfl ?_
  intro p e s m args below meth c s₁ B hml hv
  obtain ⟨rfl, hsz, hP, hK, hD0, hN⟩ := hv
  have hx := B.exec
  have hb := B.bytes
  have hr := B.returns
  have hts := atoms_spec (ws := wsX10_ground) B.pre
  have hown : s.vm.findClass RX10 = some m.cls := findClass_of_methodNamed B.named
  have hlocks := B.notSynchronized
  subst hsz
  have hD := hD0
  have hP : va_P D vwCl [(m0, .inr (10, [.ref qk, .int (nI d), .int (nI sh), .int (nI low), .int (nI high), .int le, .int mo, .int (nI nb), .ref qp, .ref qr, .ref qc, .ref qm, .ref qb, .int (nI cap), .int kd, .int am, .int wt, .int md, .long z1, .long z2, .long z3, .long z4, .long z5, .int (nI sw), .int (nI np), .ref qf, .ref qs, .int (nI fe), .int (nI te), .int (nI kk), .ref qt, .ref qx, .ref qy, .int no, .int nt, .ref qo, .ref qz, .ref qi, .ref qv, .int fd])), (qo, .inl (cI, 4, .inl fmf)), (qz, .inl (cI, 4, .inl szf)), (qi, .inl (cI, 240, .inl imf))] s.heap := hP
  have hl := lv_entry ([.ref m0, .int wh_, .int ix]) (n := 3) (Nat.le_of_ble_eq_true rfl)
  rw [lg_entry_eq]
  generalize (lg_sl ([.ref m0, .int wh_, .int ix]) ++ List.replicate (3 - (lg_sl ([.ref m0, .int wh_, .int ix])).length) Slot.unset).toArray = ls at hl ⊢
  have hl : lv_has ls 3 [(0, .ref m0), (1, .int wh_), (2, .int ix)] := hl
  refine lv_iload_n hx hb dX10_ground_0 rfl (lv_at hl 1 rfl) ?_
  refine lv_i2l (v := wh_.toInt64) hx hb dX10_ground_1 rfl ?_
  refine lv_lconst (v := 0) hx hb dX10_ground_2 (by decide) ?_
  refine lv_lconst (v := 1) hx hb dX10_ground_3 (by decide) ?_
  refine q_S (tys := TY cI cS cP) (D := D) ⟨hx, hb, hml, hown, hts⟩ [.long wh_.toInt64, .long ((0 : Int32).toInt64), .long ((1 : Int32).toInt64)] [] c_X10_in (va_cwS 3 hts gX10_ground_X10_in rfl rfl rfl (by decide +kernel) ⟨Nat.le_of_ble_eq_true rfl, Nat.le_of_ble_eq_true rfl⟩) hK hN rfl hl.1 rfl (Nat.le_of_ble_eq_true rfl) dX10_ground_4 ⟨Nat.zero_le _, Nat.zero_le _⟩ (fun r hw => ?_)
  subst hw
  refine lv_if_eq (tgt := 31) hx hb dX10_ground_7 (by decide) (fun c_7 => ?_) (fun c_7 => ?_)
  ·
    have c_7 := bz c_7
    refine lv_bipush (v := (-2)) hx hb dX10_ground_31 (by decide) ?_
    exact W.iret (v := (-2)) hx hb hr (fun t ht hW => ⟨_, rfl, (by unfold aGround; first | rw [if_neg (fun h => c_7 h.1)] | rw [if_neg (fun h => c_19 h.2)]), ht⟩) (fun _ h => absurd h List.not_mem_nil) dX10_ground_33
  ·
    have c_7 := bnz c_7
    refine lv_iload_n hx hb dX10_ground_10 rfl (lv_at hl 2 rfl) ?_
    refine lv_i2l (v := ix.toInt64) hx hb dX10_ground_11 rfl ?_
    refine lv_lconst (v := 0) hx hb dX10_ground_12 (by decide) ?_
    refine lv_ldc2 hx hb hown (hts (.constantLong RX10 89 (49)) (by decide +kernel)) dX10_ground_13 ?_
    refine q_S (tys := TY cI cS cP) (D := D) ⟨hx, hb, hml, hown, hts⟩ [.long ix.toInt64, .long ((0 : Int32).toInt64), .long ((49 : Int32).toInt64)] [] c_X10_in (va_cwS 3 hts gX10_ground_X10_in rfl rfl rfl (by decide +kernel) ⟨Nat.le_of_ble_eq_true rfl, Nat.le_of_ble_eq_true rfl⟩) hK hN rfl hl.1 rfl (Nat.le_of_ble_eq_true rfl) dX10_ground_16 ⟨Nat.zero_le _, Nat.zero_le _⟩ (fun r hw => ?_)
    subst hw
    refine lv_if_eq (tgt := 31) hx hb dX10_ground_19 (by decide) (fun c_19 => ?_) (fun c_19 => ?_)
    ·
      have c_19 := bz c_19
      refine lv_bipush (v := (-2)) hx hb dX10_ground_31 (by decide) ?_
      exact W.iret (v := (-2)) hx hb hr (fun t ht hW => ⟨_, rfl, (by unfold aGround; first | rw [if_neg (fun h => c_7 h.1)] | rw [if_neg (fun h => c_19 h.2)]), ht⟩) (fun _ h => absurd h List.not_mem_nil) dX10_ground_33
    ·
      have c_19 := bnz c_19
      obtain ⟨ixn, hixn, rfl⟩ := nat_of (hi := 49) (n := 49) (by decide) c_19
      obtain ⟨wn, hwn, rfl⟩ := nat_of (hi := 1) (n := 1) (by decide) c_7
      have hG9 : gREL fmf szf imf wn (if wn = 0 then n0 else n1) (if wn = 0 then it0 else it1) := by rcases (show wn = 0 ∨ wn = 1 by omega) with rfl | rfl <;> assumption
      refine lv_aload_n hx hb dX10_ground_22 rfl (lv_at hl 0 rfl) ?_
      refine lv_iload_n hx hb dX10_ground_23 rfl (lv_at hl 1 rfl) ?_
      refine lv_iload_n hx hb dX10_ground_24 rfl (lv_at hl 2 rfl) ?_
      refine q_V (wc := [(m0, .inr (10, [.ref qk, .int (nI d), .int (nI sh), .int (nI low), .int (nI high), .int le, .int mo, .int (nI nb), .ref qp, .ref qr, .ref qc, .ref qm, .ref qb, .int (nI cap), .int kd, .int am, .int wt, .int md, .long z1, .long z2, .long z3, .long z4, .long z5, .int (nI sw), .int (nI np), .ref qf, .ref qs, .int (nI fe), .int (nI te), .int (nI kk), .ref qt, .ref qx, .ref qy, .int no, .int nt, .ref qo, .ref qz, .ref qi, .ref qv, .int fd])), (qo, .inl (cI, 4, .inl fmf)), (qz, .inl (cI, 4, .inl szf)), (qi, .inl (cI, 240, .inl imf))]) (b := m0) ⟨hx, hb, hml, hown, hts⟩ [.int (nI wn), .int (nI ixn)] [] (c_X10_groundOf (it := if wn = 0 then it0 else it1) (n := if wn = 0 then n0 else n1) (by first | assumption | omega) (by first | assumption | omega) (by split <;> omega) (hG9)) (cwV 2 hts gX10_ground_X10_groundOf rfl rfl rfl (by decide +kernel) ⟨Nat.le_of_ble_eq_true rfl, Nat.le_of_ble_eq_true rfl⟩) hK hN hP hD [0, 1, 2, 3] rfl (by decide) (ci := 10) rfl rfl rfl rfl hl.1 rfl (Nat.le_of_ble_eq_true rfl) dX10_ground_25 ⟨Nat.zero_le _, Nat.zero_le _⟩ (fun r hw => ?_)
      subst hw
      refine lv_goto (tgt := 33) hx hb dX10_ground_28 (by decide) ?_
      exact W.iret (v := nI (gN (if wn = 0 then it0 else it1) (if wn = 0 then n0 else n1) (gdf wn) (ixn + 1))) hx hb hr (fun t ht hW => ⟨_, rfl, (by unfold aGround; rw [if_pos ⟨c_7, c_19⟩, nI_clamp (by omega)]; rcases (show wn = 0 ∨ wn = 1 by omega) with rfl | rfl <;> rfl), ht⟩) (fun _ h => absurd h List.not_mem_nil) dX10_ground_33

set_option maxHeartbeats 4000000 in
set_option maxRecDepth 100000 in
theorem c_X10_holds {l : Launch} {D : va_G} {cI cS cP : ClassId} {sz : Nat} {m0 qk qp qr qc qm qb qf qs qt qx qy qo qz qi qv : Nat} {d sh low high nb cap sw np fe te kk : Nat} {le mo kd am wt md no nt fd : Int32} {z1 z2 z3 z4 z5 : Int64} {fmf szf imf : Nat → Int32} {n0 n1 : Nat} {it0 it1 : Nat → Int32} {m1 i : Nat} (hn0 : n0 ≤ 60) (hn1 : n1 ≤ 60) (hG0 : gREL fmf szf imf 0 n0 it0) (hG1 : gREL fmf szf imf 1 n1 it1) (hlow : low ≤ 500) (hhigh : high ≤ 500) (hm : m1 ≤ 3000) (hi : i < 60) : Met l yX10_holds wsX10_holds ({ frames := 2, cells := 0, slots := 0, locals := 49 }) (PC D (TY cI cS cP) [.ref m0, .int (nI m1), .int (nI i)] sz [(m0, .inr (10, [.ref qk, .int (nI d), .int (nI sh), .int (nI low), .int (nI high), .int le, .int mo, .int (nI nb), .ref qp, .ref qr, .ref qc, .ref qm, .ref qb, .int (nI cap), .int kd, .int am, .int wt, .int md, .long z1, .long z2, .long z3, .long z4, .long z5, .int (nI sw), .int (nI np), .ref qf, .ref qs, .int (nI fe), .int (nI te), .int (nI kk), .ref qt, .ref qx, .ref qy, .int no, .int nt, .ref qo, .ref qz, .ref qi, .ref qv, .int fd])), (qo, .inl (cI, 4, .inl fmf)), (qz, .inl (cI, 4, .inl szf)), (qi, .inl (cI, 240, .inl imf))]) (vp_Si (fun r => r = if (po it0 n0 i + low ≤ m1 ∧ m1 + high ≤ fr it1 n1 i) then 1 else 0)) 0 0 (fun _ => False) := by
  refine Met.ofW (cc := cX10_holds) (maxL := 3) (ret := (some .boolean)) (by decide) rfl ?_
  intro p e s m args below meth c s₁ B hml hv
  obtain ⟨rfl, hsz, hP, hK, hD0, hN⟩ := hv
  have hx := B.exec
  have hb := B.bytes
  have hr := B.returns
  have hts := atoms_spec (ws := wsX10_holds) B.pre
  have hown : s.vm.findClass RX10 = some m.cls := findClass_of_methodNamed B.named
  have hlocks := B.notSynchronized
  subst hsz
  have iX10 : ∀ w ∈ u_ws RX10 TX10 40, w ∈ wsX10_holds := by decide +kernel
  have hD := hD0
  have hP : va_P D vwCl [(m0, .inr (10, [.ref qk, .int (nI d), .int (nI sh), .int (nI low), .int (nI high), .int le, .int mo, .int (nI nb), .ref qp, .ref qr, .ref qc, .ref qm, .ref qb, .int (nI cap), .int kd, .int am, .int wt, .int md, .long z1, .long z2, .long z3, .long z4, .long z5, .int (nI sw), .int (nI np), .ref qf, .ref qs, .int (nI fe), .int (nI te), .int (nI kk), .ref qt, .ref qx, .ref qy, .int no, .int nt, .ref qo, .ref qz, .ref qi, .ref qv, .int fd])), (qo, .inl (cI, 4, .inl fmf)), (qz, .inl (cI, 4, .inl szf)), (qi, .inl (cI, 240, .inl imf))] s.heap := hP
  have hl := lv_entry ([.ref m0, .int (nI m1), .int (nI i)]) (n := 3) (Nat.le_of_ble_eq_true rfl)
  rw [lg_entry_eq]
  generalize (lg_sl ([.ref m0, .int (nI m1), .int (nI i)]) ++ List.replicate (3 - (lg_sl ([.ref m0, .int (nI m1), .int (nI i)])).length) Slot.unset).toArray = ls at hl ⊢
  have hl : lv_has ls 3 [(0, .ref m0), (1, .int (nI m1)), (2, .int (nI i))] := hl
  have hpo := po_le it0 n0 i
  have hfr := fr_le it1 n1 i
  refine lv_iload_n hx hb dX10_holds_0 rfl (lv_at hl 1 rfl) ?_
  refine lv_aload_n hx hb dX10_holds_1 rfl (lv_at hl 0 rfl) ?_
  refine lv_iconst (v := 0) hx hb dX10_holds_2 (by decide) ?_
  refine lv_iload_n hx hb dX10_holds_3 rfl (lv_at hl 2 rfl) ?_
  refine q_V (wc := [(m0, .inr (10, [.ref qk, .int (nI d), .int (nI sh), .int (nI low), .int (nI high), .int le, .int mo, .int (nI nb), .ref qp, .ref qr, .ref qc, .ref qm, .ref qb, .int (nI cap), .int kd, .int am, .int wt, .int md, .long z1, .long z2, .long z3, .long z4, .long z5, .int (nI sw), .int (nI np), .ref qf, .ref qs, .int (nI fe), .int (nI te), .int (nI kk), .ref qt, .ref qx, .ref qy, .int no, .int nt, .ref qo, .ref qz, .ref qi, .ref qv, .int fd])), (qo, .inl (cI, 4, .inl fmf)), (qz, .inl (cI, 4, .inl szf)), (qi, .inl (cI, 240, .inl imf))]) (b := m0) ⟨hx, hb, hml, hown, hts⟩ [.int (nI 0), .int (nI i)] [.int (nI m1)] (c_X10_groundOf (it := it0) (n := n0) (by first | assumption | omega) (by first | assumption | omega) (hn0) (hG0)) (cwV 2 hts gX10_holds_X10_groundOf rfl rfl rfl (by decide +kernel) ⟨Nat.le_of_ble_eq_true rfl, Nat.le_of_ble_eq_true rfl⟩) hK hN hP hD [0, 1, 2, 3] rfl (by decide) (ci := 10) rfl rfl rfl rfl hl.1 rfl (Nat.le_of_ble_eq_true rfl) dX10_holds_4 ⟨Nat.zero_le _, Nat.zero_le _⟩ (fun r hw => ?_)
  subst hw
  refine lv_eqi (z := nI (po it0 n0 i)) (rfl) ?_
  refine lv_aload_n hx hb dX10_holds_7 rfl (lv_at hl 0 rfl) ?_
  refine va_get (D := D) (ci := 10) (v := .int (nI low)) (C := RX10) (T := TX10) (N := 40) hx hb hts iX10 hown hK hP 0 rfl rfl 3 (by decide) (hts (.fieldLink RX10 81 "DeepHoleModel" "low" "I") (by decide +kernel)) (fun _ h9 => h9) rfl dX10_holds_8 ?_
  refine lv_iadd hx hb dX10_holds_11 ?_
  refine lv_eqi (z := nI ((po it0 n0 i) + low)) (nI_add _ _) ?_
  refine lv_icmp_lt (tgt := 34) hx hb dX10_holds_12 (by decide) (fun c_12 => ?_) (fun c_12 => ?_)
  ·
    have c_12 := n_lt (a := m1) (b := ((po it0 n0 i) + low)) c_12 (by omega) (by omega)
    refine lv_iconst (v := 0) hx hb dX10_holds_34 (by decide) ?_
    exact W.zret (v := 0) hx hb hr (rfl) (fun t ht hW => ⟨_, rfl, (by exact b_0 (by omega)), ht⟩) (fun _ h => absurd h List.not_mem_nil) dX10_holds_35
  ·
    have c_12 := n_nlt (a := m1) (b := ((po it0 n0 i) + low)) c_12 (by omega) (by omega)
    refine lv_iload_n hx hb dX10_holds_15 rfl (lv_at hl 1 rfl) ?_
    refine lv_aload_n hx hb dX10_holds_16 rfl (lv_at hl 0 rfl) ?_
    refine lv_iconst (v := 1) hx hb dX10_holds_17 (by decide) ?_
    refine lv_iload_n hx hb dX10_holds_18 rfl (lv_at hl 2 rfl) ?_
    refine q_V (wc := [(m0, .inr (10, [.ref qk, .int (nI d), .int (nI sh), .int (nI low), .int (nI high), .int le, .int mo, .int (nI nb), .ref qp, .ref qr, .ref qc, .ref qm, .ref qb, .int (nI cap), .int kd, .int am, .int wt, .int md, .long z1, .long z2, .long z3, .long z4, .long z5, .int (nI sw), .int (nI np), .ref qf, .ref qs, .int (nI fe), .int (nI te), .int (nI kk), .ref qt, .ref qx, .ref qy, .int no, .int nt, .ref qo, .ref qz, .ref qi, .ref qv, .int fd])), (qo, .inl (cI, 4, .inl fmf)), (qz, .inl (cI, 4, .inl szf)), (qi, .inl (cI, 240, .inl imf))]) (b := m0) ⟨hx, hb, hml, hown, hts⟩ [.int (nI 1), .int (nI i)] [.int (nI m1)] (c_X10_groundOf (it := it1) (n := n1) (by first | assumption | omega) (by first | assumption | omega) (hn1) (hG1)) (cwV 2 hts gX10_holds_X10_groundOf rfl rfl rfl (by decide +kernel) ⟨Nat.le_of_ble_eq_true rfl, Nat.le_of_ble_eq_true rfl⟩) hK hN hP hD [0, 1, 2, 3] rfl (by decide) (ci := 10) rfl rfl rfl rfl hl.1 rfl (Nat.le_of_ble_eq_true rfl) dX10_holds_19 ⟨Nat.zero_le _, Nat.zero_le _⟩ (fun r hw => ?_)
    subst hw
    refine lv_eqi (z := nI (fr it1 n1 i)) (rfl) ?_
    refine lv_aload_n hx hb dX10_holds_22 rfl (lv_at hl 0 rfl) ?_
    refine va_get (D := D) (ci := 10) (v := .int (nI high)) (C := RX10) (T := TX10) (N := 40) hx hb hts iX10 hown hK hP 0 rfl rfl 4 (by decide) (hts (.fieldLink RX10 84 "DeepHoleModel" "high" "I") (by decide +kernel)) (fun _ h9 => h9) rfl dX10_holds_23 ?_
    refine lv_isub hx hb dX10_holds_26 ?_
    refine lv_eqi (z := iI (((fr it1 n1 i : Nat) : Int) - ((high : Nat) : Int))) (nI_subz (fr it1 n1 i) (high)) ?_
    refine lv_icmp_gt (tgt := 34) hx hb dX10_holds_27 (by decide) (fun c_27 => ?_) (fun c_27 => ?_)
    ·
      have c_27 := z_gt (a := ((m1 : Nat) : Int)) (b := (((fr it1 n1 i : Nat) : Int) - ((high : Nat) : Int))) c_27 (nI_toInt (by omega)) (iI_toInt (by omega) (by omega))
      refine lv_iconst (v := 0) hx hb dX10_holds_34 (by decide) ?_
      exact W.zret (v := 0) hx hb hr (rfl) (fun t ht hW => ⟨_, rfl, (by exact b_0 (by omega)), ht⟩) (fun _ h => absurd h List.not_mem_nil) dX10_holds_35
    ·
      have c_27 := z_ngt (a := ((m1 : Nat) : Int)) (b := (((fr it1 n1 i : Nat) : Int) - ((high : Nat) : Int))) c_27 (nI_toInt (by omega)) (iI_toInt (by omega) (by omega))
      refine lv_iconst (v := 1) hx hb dX10_holds_30 (by decide) ?_
      refine lv_goto (tgt := 35) hx hb dX10_holds_31 (by decide) ?_
      exact W.zret (v := 1) hx hb hr (rfl) (fun t ht hW => ⟨_, rfl, (by exact b_1 (by omega)), ht⟩) (fun _ h => absurd h List.not_mem_nil) dX10_holds_35

set_option maxHeartbeats 4000000 in
set_option maxRecDepth 100000 in
theorem c_X10_breaks {l : Launch} {D : va_G} {cI cS cP : ClassId} {sz : Nat} {m0 qk qp qr qc qm qb qf qs qt qx qy qo qz qi qv : Nat} {d sh low high nb cap sw np fe te kk : Nat} {le mo kd am wt md no nt fd : Int32} {z1 z2 z3 z4 z5 : Int64} {fmf szf imf : Nat → Int32} {n0 n1 : Nat} {it0 it1 : Nat → Int32} {m1 : Int32} (hd : d ≤ 50) (hsh : sh ≤ d) (hn0 : n0 ≤ 60) (hn1 : n1 ≤ 60) (hG0 : gREL fmf szf imf 0 n0 it0) (hG1 : gREL fmf szf imf 1 n1 it1) (hlow : low ≤ 500) (hhigh : high ≤ 500) : Met l yX10_breaks wsX10_breaks ({ frames := 3, cells := 0, slots := 0, locals := 71 }) (PC D (TY cI cS cP) [.ref m0, .int m1] sz [(m0, .inr (10, [.ref qk, .int (nI d), .int (nI sh), .int (nI low), .int (nI high), .int le, .int mo, .int (nI nb), .ref qp, .ref qr, .ref qc, .ref qm, .ref qb, .int (nI cap), .int kd, .int am, .int wt, .int md, .long z1, .long z2, .long z3, .long z4, .long z5, .int (nI sw), .int (nI np), .ref qf, .ref qs, .int (nI fe), .int (nI te), .int (nI kk), .ref qt, .ref qx, .ref qy, .int no, .int nt, .ref qo, .ref qz, .ref qi, .ref qv, .int fd])), (qo, .inl (cI, 4, .inl fmf)), (qz, .inl (cI, 4, .inl szf)), (qi, .inl (cI, 240, .inl imf))]) (vp_Si (fun r => r = aBreaks it0 it1 n0 n1 low high d sh m1)) 0 0 (fun _ => False) := by
  refine Met.ofW (cc := cX10_breaks) (maxL := 3) (ret := (some .int)) (by decide) rfl ?_
  intro p e s m args below meth c s₁ B hml hv
  obtain ⟨rfl, hsz, hP, hK, hD0, hN⟩ := hv
  have hx := B.exec
  have hb := B.bytes
  have hr := B.returns
  have hts := atoms_spec (ws := wsX10_breaks) B.pre
  have hown : s.vm.findClass RX10 = some m.cls := findClass_of_methodNamed B.named
  have hlocks := B.notSynchronized
  subst hsz
  have iX10 : ∀ w ∈ u_ws RX10 TX10 40, w ∈ wsX10_breaks := by decide +kernel
  have hD := hD0
  have hP : va_P D vwCl [(m0, .inr (10, [.ref qk, .int (nI d), .int (nI sh), .int (nI low), .int (nI high), .int le, .int mo, .int (nI nb), .ref qp, .ref qr, .ref qc, .ref qm, .ref qb, .int (nI cap), .int kd, .int am, .int wt, .int md, .long z1, .long z2, .long z3, .long z4, .long z5, .int (nI sw), .int (nI np), .ref qf, .ref qs, .int (nI fe), .int (nI te), .int (nI kk), .ref qt, .ref qx, .ref qy, .int no, .int nt, .ref qo, .ref qz, .ref qi, .ref qv, .int fd])), (qo, .inl (cI, 4, .inl fmf)), (qz, .inl (cI, 4, .inl szf)), (qi, .inl (cI, 240, .inl imf))] s.heap := hP
  have hl := lv_entry ([.ref m0, .int m1]) (n := 3) (Nat.le_of_ble_eq_true rfl)
  rw [lg_entry_eq]
  generalize (lg_sl ([.ref m0, .int m1]) ++ List.replicate (3 - (lg_sl ([.ref m0, .int m1])).length) Slot.unset).toArray = ls at hl ⊢
  have hl : lv_has ls 3 [(0, .ref m0), (1, .int m1)] := hl
  refine lv_iload_n hx hb dX10_breaks_0 rfl (lv_at hl 1 rfl) ?_
  refine lv_i2l (v := m1.toInt64) hx hb dX10_breaks_1 rfl ?_
  refine lv_lconst (v := 0) hx hb dX10_breaks_2 (by decide) ?_
  refine lv_ldc2 hx hb hown (hts (.constantLong RX10 87 (3000)) (by decide +kernel)) dX10_breaks_3 ?_
  refine q_S (tys := TY cI cS cP) (D := D) ⟨hx, hb, hml, hown, hts⟩ [.long m1.toInt64, .long ((0 : Int32).toInt64), .long ((3000 : Int32).toInt64)] [] c_X10_in (va_cwS 3 hts gX10_breaks_X10_in rfl rfl rfl (by decide +kernel) ⟨Nat.le_of_ble_eq_true rfl, Nat.le_of_ble_eq_true rfl⟩) hK hN rfl hl.1 rfl (Nat.le_of_ble_eq_true rfl) dX10_breaks_6 ⟨Nat.zero_le _, Nat.zero_le _⟩ (fun r hw => ?_)
  subst hw
  refine lv_if_ne (tgt := 15) hx hb dX10_breaks_9 (by decide) (fun c_9 => ?_) (fun c_9 => ?_)
  ·
    have c_9 := bnz c_9
    obtain ⟨mn, hmn, rfl⟩ := nat_of (hi := 3000) (n := 3000) (by decide) c_9
    refine lv_aload_n hx hb dX10_breaks_15 rfl (lv_at hl 0 rfl) ?_
    refine va_get (D := D) (ci := 10) (v := .int (nI sh)) (C := RX10) (T := TX10) (N := 40) hx hb hts iX10 hown hK hP 0 rfl rfl 2 (by decide) (hts (.fieldLink RX10 76 "DeepHoleModel" "shoe" "I") (by decide +kernel)) (fun _ h9 => h9) rfl dX10_breaks_16 ?_
    refine lv_istore_n (lv' := [(2, .int (nI sh)), (0, .ref m0), (1, .int (nI mn))]) hx hb dX10_breaks_19 rfl hl (by decide) rfl (fun ls hl => ?_)
    refine lp_q (I := fun zz9 ls => ∃ (k : Nat), zz9 = d - k ∧ (k ≤ d) ∧ (scanUp (hold it0 it1 n0 n1 low high mn) sh (d - sh) = scanUp (hold it0 it1 n0 n1 low high mn) k (d - k)) ∧ lv_has ls 3 [(0, .ref m0), (1, .int (nI mn)), (2, .int (nI k))]) ?_ (d - sh) ⟨sh, rfl, (by omega), (rfl), lv_sub hl [1, 2, 0] rfl⟩
    intro n_20 ls ih_20 hI
    obtain ⟨k, hn_20, hk, hs, hl⟩ := hI
    refine lv_iload_n hx hb dX10_breaks_20 rfl (lv_at hl 2 rfl) ?_
    refine lv_aload_n hx hb dX10_breaks_21 rfl (lv_at hl 0 rfl) ?_
    refine va_get (D := D) (ci := 10) (v := .int (nI d)) (C := RX10) (T := TX10) (N := 40) hx hb hts iX10 hown hK hP 0 rfl rfl 1 (by decide) (hts (.fieldLink RX10 73 "DeepHoleModel" "depth" "I") (by decide +kernel)) (fun _ h9 => h9) rfl dX10_breaks_22 ?_
    refine lv_icmp_ge (tgt := 45) hx hb dX10_breaks_25 (by decide) (fun c_25 => ?_) (fun c_25 => ?_)
    ·
      have c_25 := n_ge (a := k) (b := d) c_25 (by omega) (by omega)
      refine lv_iconst (v := (-1)) hx hb dX10_breaks_45 (by decide) ?_
      exact W.iret (v := (-1)) hx hb hr (fun t ht hW => ⟨_, rfl, (by unfold aBreaks; rw [if_pos c_9, nI_clamp (by omega), hs, show d - k = 0 by omega]; rfl), ht⟩) (fun _ h => absurd h List.not_mem_nil) dX10_breaks_46
    ·
      have c_25 := n_nge (a := k) (b := d) c_25 (by omega) (by omega)
      refine lv_aload_n hx hb dX10_breaks_28 rfl (lv_at hl 0 rfl) ?_
      refine lv_iload_n hx hb dX10_breaks_29 rfl (lv_at hl 1 rfl) ?_
      refine lv_iload_n hx hb dX10_breaks_30 rfl (lv_at hl 2 rfl) ?_
      refine q_V (wc := [(m0, .inr (10, [.ref qk, .int (nI d), .int (nI sh), .int (nI low), .int (nI high), .int le, .int mo, .int (nI nb), .ref qp, .ref qr, .ref qc, .ref qm, .ref qb, .int (nI cap), .int kd, .int am, .int wt, .int md, .long z1, .long z2, .long z3, .long z4, .long z5, .int (nI sw), .int (nI np), .ref qf, .ref qs, .int (nI fe), .int (nI te), .int (nI kk), .ref qt, .ref qx, .ref qy, .int no, .int nt, .ref qo, .ref qz, .ref qi, .ref qv, .int fd])), (qo, .inl (cI, 4, .inl fmf)), (qz, .inl (cI, 4, .inl szf)), (qi, .inl (cI, 240, .inl imf))]) (b := m0) ⟨hx, hb, hml, hown, hts⟩ [.int (nI mn), .int (nI k)] [] (c_X10_holds (it0 := it0) (n0 := n0) (it1 := it1) (n1 := n1) (by first | assumption | omega) (by first | assumption | omega) (by first | assumption | omega) (by first | assumption | omega) (by first | assumption | omega) (by first | assumption | omega) (by first | assumption | omega) (by first | assumption | omega)) (cwV 2 hts gX10_breaks_X10_holds rfl rfl rfl (by decide +kernel) ⟨Nat.le_of_ble_eq_true rfl, Nat.le_of_ble_eq_true rfl⟩) hK hN hP hD [0, 1, 2, 3] rfl (by decide) (ci := 10) rfl rfl rfl rfl hl.1 rfl (Nat.le_of_ble_eq_true rfl) dX10_breaks_31 ⟨Nat.zero_le _, Nat.zero_le _⟩ (fun r hw => ?_)
      subst hw
      refine lv_if_ne (tgt := 39) hx hb dX10_breaks_34 (by decide) (fun c_34 => ?_) (fun c_34 => ?_)
      ·
        have c_34 := bnz c_34
        refine lv_iinc (v := nI (k + 1)) (lv' := [(2, .int (nI (k + 1))), (0, .ref m0), (1, .int (nI mn))]) hx hb dX10_breaks_39 hl (k := 2) rfl (nI_1 _) (by decide) rfl (fun ls hl => ?_)
        refine lv_goto (tgt := 20) hx hb dX10_breaks_42 (by decide) ?_
        exact ih_20 _ _ (by omega) ⟨k + 1, rfl, (by omega), (by rw [hs, scanUp_step (by omega), if_pos (show (hold it0 it1 n0 n1 low high mn) k = true from decide_eq_true c_34), Nat.sub_sub]), lv_sub hl [1, 2, 0] rfl⟩
      ·
        have c_34 := bz c_34
        refine lv_iload_n hx hb dX10_breaks_37 rfl (lv_at hl 2 rfl) ?_
        exact W.iret (v := nI k) hx hb hr (fun t ht hW => ⟨_, rfl, (by unfold aBreaks; rw [if_pos c_9, nI_clamp (by omega), hs, scanUp_step (by omega), if_neg (show ¬ (hold it0 it1 n0 n1 low high mn) k = true from fun h => c_34 (of_decide_eq_true h))]), ht⟩) (fun _ h => absurd h List.not_mem_nil) dX10_breaks_38
  ·
    have c_9 := bz c_9
    refine lv_bipush (v := (-2)) hx hb dX10_breaks_12 (by decide) ?_
    exact W.iret (v := (-2)) hx hb hr (fun t ht hW => ⟨_, rfl, (by unfold aBreaks; rw [if_neg c_9]), ht⟩) (fun _ h => absurd h List.not_mem_nil) dX10_breaks_14
