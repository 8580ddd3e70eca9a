set_option maxHeartbeats 4000000 in
set_option maxRecDepth 100000 in
theorem c_X10_look {l : Launch} {D : va_G} {cI cS cP : ClassId} {sz : Nat} {m0 qk qp qr qc qm qb qf qs qt qx qy qo qz qi qv : Nat} {d sh low high nb cap sw np fe te kk : Nat} {le mo kd am wt md no nt fd : Int32} {z1 z2 z3 z4 z5 : Int64} {pp : Nat} {v1 w1 m1 : Int32} (hd : d ≤ 50) (hsh : sh ≤ d) (hc1 : 1 ≤ cap) (hc2 : cap ≤ 1000) (hpp : pp ≤ d) : Met l yX10_look wsX10_look ({ frames := 0, cells := 0, slots := 0, locals := 0 }) (PC D (TY cI cS cP) [.ref m0, .int (nI pp), .int v1, .int w1, .int m1] sz [(m0, .inr (10, [.ref qk, .int (nI d), .int (nI sh), .int (nI low), .int (nI high), .int le, .int mo, .int (nI nb), .ref qp, .ref qr, .ref qc, .ref qm, .ref qb, .int (nI cap), .int kd, .int am, .int wt, .int md, .long z1, .long z2, .long z3, .long z4, .long z5, .int (nI sw), .int (nI np), .ref qf, .ref qs, .int (nI fe), .int (nI te), .int (nI kk), .ref qt, .ref qx, .ref qy, .int no, .int nt, .ref qo, .ref qz, .ref qi, .ref qv, .int fd]))]) (QV D (fun (u : Unit) => True) (fun (u : Unit) => [(m0, .inr (10, [.ref qk, .int (nI d), .int (nI sh), .int (nI low), .int (nI high), .int le, .int mo, .int (nI nb), .ref qp, .ref qr, .ref qc, .ref qm, .ref qb, .int (nI cap), .int kd, .int am, .int wt, .int md, .long (gG w1 m1 d pp), .long (gV v1 w1 m1 d pp), .long (gH v1 w1 m1 d cap pp), .long (gC v1 w1 m1 d cap pp), .long (gA v1 w1 m1 d cap sh pp), .int (nI sw), .int (nI np), .ref qf, .ref qs, .int (nI fe), .int (nI te), .int (nI kk), .ref qt, .ref qx, .ref qy, .int no, .int nt, .ref qo, .ref qz, .ref qi, .ref qv, .int fd]))]) (va_A [(m0, .inr (10, [.ref qk, .int (nI d), .int (nI sh), .int (nI low), .int (nI high), .int le, .int mo, .int (nI nb), .ref qp, .ref qr, .ref qc, .ref qm, .ref qb, .int (nI cap), .int kd, .int am, .int wt, .int md, .long z1, .long z2, .long z3, .long z4, .long z5, .int (nI sw), .int (nI np), .ref qf, .ref qs, .int (nI fe), .int (nI te), .int (nI kk), .ref qt, .ref qx, .ref qy, .int no, .int nt, .ref qo, .ref qz, .ref qi, .ref qv, .int fd]))] sz)) 0 0 (va_A [(m0, .inr (10, [.ref qk, .int (nI d), .int (nI sh), .int (nI low), .int (nI high), .int le, .int mo, .int (nI nb), .ref qp, .ref qr, .ref qc, .ref qm, .ref qb, .int (nI cap), .int kd, .int am, .int wt, .int md, .long z1, .long z2, .long z3, .long z4, .long z5, .int (nI sw), .int (nI np), .ref qf, .ref qs, .int (nI fe), .int (nI te), .int (nI kk), .ref qt, .ref qx, .ref qy, .int no, .int nt, .ref qo, .ref qz, .ref qi, .ref qv, .int fd]))] sz) := by
  refine Met.ofW (cc := cX10_look) (maxL := 7) (ret := none) (by decide) rfl ?_
  intro p e s m args below meth c s₁ B hml hv
  obtain ⟨rfl, hsz, hP, hK, hD0, hN⟩ := hv
  have hx := B.exec
  have hb := B.bytes
  have hr := B.returns
  have hts := atoms_spec (ws := wsX10_look) B.pre
  have hown : s.vm.findClass RX10 = some m.cls := findClass_of_methodNamed B.named
  have hlocks := B.notSynchronized
  subst hsz
  have iX10 : ∀ w ∈ u_ws RX10 TX10 40, w ∈ wsX10_look := by decide +kernel
  have hD := hD0.self (sz := s.heap.size)
  generalize hAe : va_A [(m0, .inr (10, [.ref qk, .int (nI d), .int (nI sh), .int (nI low), .int (nI high), .int le, .int mo, .int (nI nb), .ref qp, .ref qr, .ref qc, .ref qm, .ref qb, .int (nI cap), .int kd, .int am, .int wt, .int md, .long z1, .long z2, .long z3, .long z4, .long z5, .int (nI sw), .int (nI np), .ref qf, .ref qs, .int (nI fe), .int (nI te), .int (nI kk), .ref qt, .ref qx, .ref qy, .int no, .int nt, .ref qo, .ref qz, .ref qi, .ref qv, .int fd]))] s.heap.size = A at hD ⊢
  have hA : ∀ q : Nat, s.heap.size ≤ q → A q := fun q h => by rw [← hAe]; exact Or.inr h
  have hS : va_S A s.heap s.heap [] := va_S.rf
  have hP : va_P D vwCl [(m0, .inr (10, [.ref qk, .int (nI d), .int (nI sh), .int (nI low), .int (nI high), .int le, .int mo, .int (nI nb), .ref qp, .ref qr, .ref qc, .ref qm, .ref qb, .int (nI cap), .int kd, .int am, .int wt, .int md, .long z1, .long z2, .long z3, .long z4, .long z5, .int (nI sw), .int (nI np), .ref qf, .ref qs, .int (nI fe), .int (nI te), .int (nI kk), .ref qt, .ref qx, .ref qy, .int no, .int nt, .ref qo, .ref qz, .ref qi, .ref qv, .int fd]))] s.heap := hP
  have hl := lv_entry ([.ref m0, .int (nI pp), .int v1, .int w1, .int m1]) (n := 7) (Nat.le_of_ble_eq_true rfl)
  rw [lg_entry_eq]
  generalize (lg_sl ([.ref m0, .int (nI pp), .int v1, .int w1, .int m1]) ++ List.replicate (7 - (lg_sl ([.ref m0, .int (nI pp), .int v1, .int w1, .int m1])).length) Slot.unset).toArray = ls at hl ⊢
  have hl : lv_has ls 7 [(0, .ref m0), (1, .int (nI pp)), (2, .int v1), (3, .int w1), (4, .int m1)] := hl
  refine lv_iload_n hx hb dX10_look_0 rfl (lv_at hl 3 rfl) ?_
  refine lv_i2l (v := w1.toInt64) hx hb dX10_look_1 rfl ?_
  refine lv_aload_n hx hb dX10_look_2 rfl (lv_at hl 0 rfl) ?_
  refine va_get (D := D) (ci := 10) (v := .int (nI d)) (C := RX10) (T := TX10) (N := 40) hx hb hts iX10 hown hK hP 0 rfl rfl 1 (by decide) (hts (.fieldLink RX10 73 "DeepHoleModel" "depth" "I") (by decide +kernel)) (fun _ h9 => h9) rfl dX10_look_3 ?_
  refine lv_i2l (v := (nI d).toInt64) hx hb dX10_look_6 rfl ?_
  refine lv_lmul hx hb dX10_look_7 ?_
  refine lv_eql (z := gB w1 d) (rfl) ?_
  refine lv_lstore (lv' := [(5, .long (gB w1 d)), (0, .ref m0), (1, .int (nI pp)), (2, .int v1), (3, .int w1), (4, .int m1)]) hx hb dX10_look_8 hl (by decide) rfl (fun ls hl => ?_)
  refine lv_aload_n hx hb dX10_look_10 rfl (lv_at hl 1 rfl) ?_
  refine lv_lload hx hb dX10_look_11 (lv_at hl 0 rfl) ?_
  refine lv_iload hx hb dX10_look_13 (lv_at hl 5 rfl) ?_
  refine lv_i2l (v := m1.toInt64) hx hb dX10_look_15 rfl ?_
  refine lv_aload_n hx hb dX10_look_16 rfl (lv_at hl 1 rfl) ?_
  refine va_get (D := D) (ci := 10) (v := .int (nI d)) (C := RX10) (T := TX10) (N := 40) hx hb hts iX10 hown hK hP 0 rfl rfl 1 (by decide) (hts (.fieldLink RX10 73 "DeepHoleModel" "depth" "I") (by decide +kernel)) (fun _ h9 => h9) rfl dX10_look_17 ?_
  refine lv_iload_n hx hb dX10_look_20 rfl (lv_at hl 2 rfl) ?_
  refine lv_isub hx hb dX10_look_21 ?_
  refine lv_i2l (v := ((nI d) - (nI pp)).toInt64) hx hb dX10_look_22 rfl ?_
  refine lv_lmul hx hb dX10_look_23 ?_
  refine lv_lsub hx hb dX10_look_24 ?_
  refine va_put (D := D) (ci := 10) (v := .long ((gB w1 d) - (m1.toInt64 * (((nI d) - (nI pp)).toInt64)))) (ty := .long) (C := RX10) (T := TX10) (N := 40) hx hb hts iX10 tyX10 tyX10_ok nmX10 hown hK hP hD hS 0 rfl rfl 18 (by decide) (hts (.fieldLink RX10 117 "DeepHoleModel" "g" "J") (by decide +kernel)) (fun _ h9 => h9) rfl (by decide +kernel) rfl rfl (Nat.le_of_ble_eq_true rfl) dX10_look_25 (fun H locs hP hD hS => ?_)
  have hP : va_P D vwCl [(m0, .inr (10, [.ref qk, .int (nI d), .int (nI sh), .int (nI low), .int (nI high), .int le, .int mo, .int (nI nb), .ref qp, .ref qr, .ref qc, .ref qm, .ref qb, .int (nI cap), .int kd, .int am, .int wt, .int md, .long ((gB w1 d) - (m1.toInt64 * (((nI d) - (nI pp)).toInt64))), .long z2, .long z3, .long z4, .long z5, .int (nI sw), .int (nI np), .ref qf, .ref qs, .int (nI fe), .int (nI te), .int (nI kk), .ref qt, .ref qx, .ref qy, .int no, .int nt, .ref qo, .ref qz, .ref qi, .ref qv, .int fd]))] H := hP
  have hD : va_D A [(m0, .inr (10, [.ref qk, .int (nI d), .int (nI sh), .int (nI low), .int (nI high), .int le, .int mo, .int (nI nb), .ref qp, .ref qr, .ref qc, .ref qm, .ref qb, .int (nI cap), .int kd, .int am, .int wt, .int md, .long ((gB w1 d) - (m1.toInt64 * (((nI d) - (nI pp)).toInt64))), .long z2, .long z3, .long z4, .long z5, .int (nI sw), .int (nI np), .ref qf, .ref qs, .int (nI fe), .int (nI te), .int (nI kk), .ref qt, .ref qx, .ref qy, .int no, .int nt, .ref qo, .ref qz, .ref qi, .ref qv, .int fd]))] := hD
  refine lv_aload_n hx hb dX10_look_28 rfl (lv_at hl 1 rfl) ?_
  refine lv_aload_n hx hb dX10_look_29 rfl (lv_at hl 1 rfl) ?_
  refine va_get (D := D) (ci := 10) (v := .long ((gB w1 d) - (m1.toInt64 * (((nI d) - (nI pp)).toInt64)))) (C := RX10) (T := TX10) (N := 40) hx hb hts iX10 hown hK hP 0 rfl rfl 18 (by decide) (hts (.fieldLink RX10 117 "DeepHoleModel" "g" "J") (by decide +kernel)) (fun _ h9 => h9) rfl dX10_look_30 ?_
  refine lv_lconst (v := 1) hx hb dX10_look_33 (by decide) ?_
  refine W.lcmp hx hb dX10_look_34 ?_
  refine cut_v (ls := ls) (rest := [.ref m0]) 46 (.long (gG w1 m1 d pp)) ?_ (fun K_35 => ?_)
  ·
    refine va_put (D := D) (ci := 10) (v := .long (gG w1 m1 d pp)) (ty := .long) (C := RX10) (T := TX10) (N := 40) hx hb hts iX10 tyX10 tyX10_ok nmX10 hown hK hP hD hS 0 rfl rfl 18 (by decide) (hts (.fieldLink RX10 117 "DeepHoleModel" "g" "J") (by decide +kernel)) (fun _ h9 => h9) rfl (by decide +kernel) rfl rfl (Nat.le_of_ble_eq_true rfl) dX10_look_46 (fun H locs hP hD hS => ?_)
    have hP : va_P D vwCl [(m0, .inr (10, [.ref qk, .int (nI d), .int (nI sh), .int (nI low), .int (nI high), .int le, .int mo, .int (nI nb), .ref qp, .ref qr, .ref qc, .ref qm, .ref qb, .int (nI cap), .int kd, .int am, .int wt, .int md, .long (gG w1 m1 d pp), .long z2, .long z3, .long z4, .long z5, .int (nI sw), .int (nI np), .ref qf, .ref qs, .int (nI fe), .int (nI te), .int (nI kk), .ref qt, .ref qx, .ref qy, .int no, .int nt, .ref qo, .ref qz, .ref qi, .ref qv, .int fd]))] H := hP
    have hD : va_D A [(m0, .inr (10, [.ref qk, .int (nI d), .int (nI sh), .int (nI low), .int (nI high), .int le, .int mo, .int (nI nb), .ref qp, .ref qr, .ref qc, .ref qm, .ref qb, .int (nI cap), .int kd, .int am, .int wt, .int md, .long (gG w1 m1 d pp), .long z2, .long z3, .long z4, .long z5, .int (nI sw), .int (nI np), .ref qf, .ref qs, .int (nI fe), .int (nI te), .int (nI kk), .ref qt, .ref qx, .ref qy, .int no, .int nt, .ref qo, .ref qz, .ref qi, .ref qv, .int fd]))] := hD
    refine lv_aload_n hx hb dX10_look_49 rfl (lv_at hl 1 rfl) ?_
    refine lv_iload_n hx hb dX10_look_50 rfl (lv_at hl 3 rfl) ?_
    refine lv_i2l (v := v1.toInt64) hx hb dX10_look_51 rfl ?_
    refine lv_lload hx hb dX10_look_52 (lv_at hl 0 rfl) ?_
    refine lv_lmul hx hb dX10_look_54 ?_
    refine lv_aload_n hx hb dX10_look_55 rfl (lv_at hl 1 rfl) ?_
    refine va_get (D := D) (ci := 10) (v := .long (gG w1 m1 d pp)) (C := RX10) (T := TX10) (N := 40) hx hb hts iX10 hown hK hP 0 rfl rfl 18 (by decide) (hts (.fieldLink RX10 117 "DeepHoleModel" "g" "J") (by decide +kernel)) (fun _ h9 => h9) rfl dX10_look_56 ?_
    refine lv_ldiv hx hb dX10_look_59 (fun q => by have h := gG_pos w1 m1 d pp; rw [q] at h; exact absurd h (by decide)) ?_
    refine lv_eql (z := gV v1 w1 m1 d pp) (rfl) ?_
    refine va_put (D := D) (ci := 10) (v := .long (gV v1 w1 m1 d pp)) (ty := .long) (C := RX10) (T := TX10) (N := 40) hx hb hts iX10 tyX10 tyX10_ok nmX10 hown hK hP hD hS 0 rfl rfl 19 (by decide) (hts (.fieldLink RX10 121 "DeepHoleModel" "swelled" "J") (by decide +kernel)) (fun _ h9 => h9) rfl (by decide +kernel) rfl rfl (Nat.le_of_ble_eq_true rfl) dX10_look_60 (fun H locs hP hD hS => ?_)
    have hP : va_P D vwCl [(m0, .inr (10, [.ref qk, .int (nI d), .int (nI sh), .int (nI low), .int (nI high), .int le, .int mo, .int (nI nb), .ref qp, .ref qr, .ref qc, .ref qm, .ref qb, .int (nI cap), .int kd, .int am, .int wt, .int md, .long (gG w1 m1 d pp), .long (gV v1 w1 m1 d pp), .long z3, .long z4, .long z5, .int (nI sw), .int (nI np), .ref qf, .ref qs, .int (nI fe), .int (nI te), .int (nI kk), .ref qt, .ref qx, .ref qy, .int no, .int nt, .ref qo, .ref qz, .ref qi, .ref qv, .int fd]))] H := hP
    have hD : va_D A [(m0, .inr (10, [.ref qk, .int (nI d), .int (nI sh), .int (nI low), .int (nI high), .int le, .int mo, .int (nI nb), .ref qp, .ref qr, .ref qc, .ref qm, .ref qb, .int (nI cap), .int kd, .int am, .int wt, .int md, .long (gG w1 m1 d pp), .long (gV v1 w1 m1 d pp), .long z3, .long z4, .long z5, .int (nI sw), .int (nI np), .ref qf, .ref qs, .int (nI fe), .int (nI te), .int (nI kk), .ref qt, .ref qx, .ref qy, .int no, .int nt, .ref qo, .ref qz, .ref qi, .ref qv, .int fd]))] := hD
    refine lv_aload_n hx hb dX10_look_63 rfl (lv_at hl 1 rfl) ?_
    refine lv_aload_n hx hb dX10_look_64 rfl (lv_at hl 1 rfl) ?_
    refine va_get (D := D) (ci := 10) (v := .long (gV v1 w1 m1 d pp)) (C := RX10) (T := TX10) (N := 40) hx hb hts iX10 hown hK hP 0 rfl rfl 19 (by decide) (hts (.fieldLink RX10 121 "DeepHoleModel" "swelled" "J") (by decide +kernel)) (fun _ h9 => h9) rfl dX10_look_65 ?_
    refine lv_aload_n hx hb dX10_look_68 rfl (lv_at hl 1 rfl) ?_
    refine va_get (D := D) (ci := 10) (v := .int (nI cap)) (C := RX10) (T := TX10) (N := 40) hx hb hts iX10 hown hK hP 0 rfl rfl 13 (by decide) (hts (.fieldLink RX10 28 "DeepHoleModel" "cap" "I") (by decide +kernel)) (fun _ h9 => h9) rfl dX10_look_69 ?_
    refine lv_i2l (v := (nI cap).toInt64) hx hb dX10_look_72 rfl ?_
    refine lv_ldiv hx hb dX10_look_73 (fun q => by have h := cap_pos hc1 (show cap < 2 ^ 31 by omega); rw [q] at h; exact absurd h (by decide)) ?_
    refine va_put (D := D) (ci := 10) (v := .long ((gV v1 w1 m1 d pp) / ((nI cap).toInt64))) (ty := .long) (C := RX10) (T := TX10) (N := 40) hx hb hts iX10 tyX10 tyX10_ok nmX10 hown hK hP hD hS 0 rfl rfl 20 (by decide) (hts (.fieldLink RX10 124 "DeepHoleModel" "height" "J") (by decide +kernel)) (fun _ h9 => h9) rfl (by decide +kernel) rfl rfl (Nat.le_of_ble_eq_true rfl) dX10_look_74 (fun H locs hP hD hS => ?_)
    have hP : va_P D vwCl [(m0, .inr (10, [.ref qk, .int (nI d), .int (nI sh), .int (nI low), .int (nI high), .int le, .int mo, .int (nI nb), .ref qp, .ref qr, .ref qc, .ref qm, .ref qb, .int (nI cap), .int kd, .int am, .int wt, .int md, .long (gG w1 m1 d pp), .long (gV v1 w1 m1 d pp), .long ((gV v1 w1 m1 d pp) / ((nI cap).toInt64)), .long z4, .long z5, .int (nI sw), .int (nI np), .ref qf, .ref qs, .int (nI fe), .int (nI te), .int (nI kk), .ref qt, .ref qx, .ref qy, .int no, .int nt, .ref qo, .ref qz, .ref qi, .ref qv, .int fd]))] H := hP
    have hD : va_D A [(m0, .inr (10, [.ref qk, .int (nI d), .int (nI sh), .int (nI low), .int (nI high), .int le, .int mo, .int (nI nb), .ref qp, .ref qr, .ref qc, .ref qm, .ref qb, .int (nI cap), .int kd, .int am, .int wt, .int md, .long (gG w1 m1 d pp), .long (gV v1 w1 m1 d pp), .long ((gV v1 w1 m1 d pp) / ((nI cap).toInt64)), .long z4, .long z5, .int (nI sw), .int (nI np), .ref qf, .ref qs, .int (nI fe), .int (nI te), .int (nI kk), .ref qt, .ref qx, .ref qy, .int no, .int nt, .ref qo, .ref qz, .ref qi, .ref qv, .int fd]))] := hD
    refine lv_aload_n hx hb dX10_look_77 rfl (lv_at hl 1 rfl) ?_
    refine lv_aload_n hx hb dX10_look_78 rfl (lv_at hl 1 rfl) ?_
    refine va_get (D := D) (ci := 10) (v := .long ((gV v1 w1 m1 d pp) / ((nI cap).toInt64))) (C := RX10) (T := TX10) (N := 40) hx hb hts iX10 hown hK hP 0 rfl rfl 20 (by decide) (hts (.fieldLink RX10 124 "DeepHoleModel" "height" "J") (by decide +kernel)) (fun _ h9 => h9) rfl dX10_look_79 ?_
    refine lv_iload_n hx hb dX10_look_82 rfl (lv_at hl 2 rfl) ?_
    refine lv_i2l (v := (nI pp).toInt64) hx hb dX10_look_83 rfl ?_
    refine W.lcmp hx hb dX10_look_84 ?_
    refine cut_v (ls := ls) (rest := [.ref m0]) 97 (.long (gH v1 w1 m1 d cap pp)) ?_ (fun K_85 => ?_)
    ·
      refine va_put (D := D) (ci := 10) (v := .long (gH v1 w1 m1 d cap pp)) (ty := .long) (C := RX10) (T := TX10) (N := 40) hx hb hts iX10 tyX10 tyX10_ok nmX10 hown hK hP hD hS 0 rfl rfl 20 (by decide) (hts (.fieldLink RX10 124 "DeepHoleModel" "height" "J") (by decide +kernel)) (fun _ h9 => h9) rfl (by decide +kernel) rfl rfl (Nat.le_of_ble_eq_true rfl) dX10_look_97 (fun H locs hP hD hS => ?_)
      have hP : va_P D vwCl [(m0, .inr (10, [.ref qk, .int (nI d), .int (nI sh), .int (nI low), .int (nI high), .int le, .int mo, .int (nI nb), .ref qp, .ref qr, .ref qc, .ref qm, .ref qb, .int (nI cap), .int kd, .int am, .int wt, .int md, .long (gG w1 m1 d pp), .long (gV v1 w1 m1 d pp), .long (gH v1 w1 m1 d cap pp), .long z4, .long z5, .int (nI sw), .int (nI np), .ref qf, .ref qs, .int (nI fe), .int (nI te), .int (nI kk), .ref qt, .ref qx, .ref qy, .int no, .int nt, .ref qo, .ref qz, .ref qi, .ref qv, .int fd]))] H := hP
      have hD : va_D A [(m0, .inr (10, [.ref qk, .int (nI d), .int (nI sh), .int (nI low), .int (nI high), .int le, .int mo, .int (nI nb), .ref qp, .ref qr, .ref qc, .ref qm, .ref qb, .int (nI cap), .int kd, .int am, .int wt, .int md, .long (gG w1 m1 d pp), .long (gV v1 w1 m1 d pp), .long (gH v1 w1 m1 d cap pp), .long z4, .long z5, .int (nI sw), .int (nI np), .ref qf, .ref qs, .int (nI fe), .int (nI te), .int (nI kk), .ref qt, .ref qx, .ref qy, .int no, .int nt, .ref qo, .ref qz, .ref qi, .ref qv, .int fd]))] := hD
      refine lv_aload_n hx hb dX10_look_100 rfl (lv_at hl 1 rfl) ?_
      refine lv_aload_n hx hb dX10_look_101 rfl (lv_at hl 1 rfl) ?_
      refine va_get (D := D) (ci := 10) (v := .long (gG w1 m1 d pp)) (C := RX10) (T := TX10) (N := 40) hx hb hts iX10 hown hK hP 0 rfl rfl 18 (by decide) (hts (.fieldLink RX10 117 "DeepHoleModel" "g" "J") (by decide +kernel)) (fun _ h9 => h9) rfl dX10_look_102 ?_
      refine lv_iload hx hb dX10_look_105 (lv_at hl 5 rfl) ?_
      refine lv_i2l (v := m1.toInt64) hx hb dX10_look_107 rfl ?_
      refine lv_iload_n hx hb dX10_look_108 rfl (lv_at hl 2 rfl) ?_
      refine lv_i2l (v := (nI pp).toInt64) hx hb dX10_look_109 rfl ?_
      refine lv_aload_n hx hb dX10_look_110 rfl (lv_at hl 1 rfl) ?_
      refine va_get (D := D) (ci := 10) (v := .long (gH v1 w1 m1 d cap pp)) (C := RX10) (T := TX10) (N := 40) hx hb hts iX10 hown hK hP 0 rfl rfl 20 (by decide) (hts (.fieldLink RX10 124 "DeepHoleModel" "height" "J") (by decide +kernel)) (fun _ h9 => h9) rfl dX10_look_111 ?_
      refine lv_lsub hx hb dX10_look_114 ?_
      refine lv_lmul hx hb dX10_look_115 ?_
      refine lv_lsub hx hb dX10_look_116 ?_
      refine va_put (D := D) (ci := 10) (v := .long ((gG w1 m1 d pp) - (m1.toInt64 * (((nI pp).toInt64) - (gH v1 w1 m1 d cap pp))))) (ty := .long) (C := RX10) (T := TX10) (N := 40) hx hb hts iX10 tyX10 tyX10_ok nmX10 hown hK hP hD hS 0 rfl rfl 21 (by decide) (hts (.fieldLink RX10 127 "DeepHoleModel" "choke" "J") (by decide +kernel)) (fun _ h9 => h9) rfl (by decide +kernel) rfl rfl (Nat.le_of_ble_eq_true rfl) dX10_look_117 (fun H locs hP hD hS => ?_)
      have hP : va_P D vwCl [(m0, .inr (10, [.ref qk, .int (nI d), .int (nI sh), .int (nI low), .int (nI high), .int le, .int mo, .int (nI nb), .ref qp, .ref qr, .ref qc, .ref qm, .ref qb, .int (nI cap), .int kd, .int am, .int wt, .int md, .long (gG w1 m1 d pp), .long (gV v1 w1 m1 d pp), .long (gH v1 w1 m1 d cap pp), .long ((gG w1 m1 d pp) - (m1.toInt64 * (((nI pp).toInt64) - (gH v1 w1 m1 d cap pp)))), .long z5, .int (nI sw), .int (nI np), .ref qf, .ref qs, .int (nI fe), .int (nI te), .int (nI kk), .ref qt, .ref qx, .ref qy, .int no, .int nt, .ref qo, .ref qz, .ref qi, .ref qv, .int fd]))] H := hP
      have hD : va_D A [(m0, .inr (10, [.ref qk, .int (nI d), .int (nI sh), .int (nI low), .int (nI high), .int le, .int mo, .int (nI nb), .ref qp, .ref qr, .ref qc, .ref qm, .ref qb, .int (nI cap), .int kd, .int am, .int wt, .int md, .long (gG w1 m1 d pp), .long (gV v1 w1 m1 d pp), .long (gH v1 w1 m1 d cap pp), .long ((gG w1 m1 d pp) - (m1.toInt64 * (((nI pp).toInt64) - (gH v1 w1 m1 d cap pp)))), .long z5, .int (nI sw), .int (nI np), .ref qf, .ref qs, .int (nI fe), .int (nI te), .int (nI kk), .ref qt, .ref qx, .ref qy, .int no, .int nt, .ref qo, .ref qz, .ref qi, .ref qv, .int fd]))] := hD
      refine lv_aload_n hx hb dX10_look_120 rfl (lv_at hl 1 rfl) ?_
      refine lv_aload_n hx hb dX10_look_121 rfl (lv_at hl 1 rfl) ?_
      refine va_get (D := D) (ci := 10) (v := .long ((gG w1 m1 d pp) - (m1.toInt64 * (((nI pp).toInt64) - (gH v1 w1 m1 d cap pp))))) (C := RX10) (T := TX10) (N := 40) hx hb hts iX10 hown hK hP 0 rfl rfl 21 (by decide) (hts (.fieldLink RX10 127 "DeepHoleModel" "choke" "J") (by decide +kernel)) (fun _ h9 => h9) rfl dX10_look_122 ?_
      refine lv_lconst (v := 0) hx hb dX10_look_125 (by decide) ?_
      refine W.lcmp hx hb dX10_look_126 ?_
      refine cut_v (ls := ls) (rest := [.ref m0]) 138 (.long (gC v1 w1 m1 d cap pp)) ?_ (fun K_127 => ?_)
      ·
        refine va_put (D := D) (ci := 10) (v := .long (gC v1 w1 m1 d cap pp)) (ty := .long) (C := RX10) (T := TX10) (N := 40) hx hb hts iX10 tyX10 tyX10_ok nmX10 hown hK hP hD hS 0 rfl rfl 21 (by decide) (hts (.fieldLink RX10 127 "DeepHoleModel" "choke" "J") (by decide +kernel)) (fun _ h9 => h9) rfl (by decide +kernel) rfl rfl (Nat.le_of_ble_eq_true rfl) dX10_look_138 (fun H locs hP hD hS => ?_)
        have hP : va_P D vwCl [(m0, .inr (10, [.ref qk, .int (nI d), .int (nI sh), .int (nI low), .int (nI high), .int le, .int mo, .int (nI nb), .ref qp, .ref qr, .ref qc, .ref qm, .ref qb, .int (nI cap), .int kd, .int am, .int wt, .int md, .long (gG w1 m1 d pp), .long (gV v1 w1 m1 d pp), .long (gH v1 w1 m1 d cap pp), .long (gC v1 w1 m1 d cap pp), .long z5, .int (nI sw), .int (nI np), .ref qf, .ref qs, .int (nI fe), .int (nI te), .int (nI kk), .ref qt, .ref qx, .ref qy, .int no, .int nt, .ref qo, .ref qz, .ref qi, .ref qv, .int fd]))] H := hP
        have hD : va_D A [(m0, .inr (10, [.ref qk, .int (nI d), .int (nI sh), .int (nI low), .int (nI high), .int le, .int mo, .int (nI nb), .ref qp, .ref qr, .ref qc, .ref qm, .ref qb, .int (nI cap), .int kd, .int am, .int wt, .int md, .long (gG w1 m1 d pp), .long (gV v1 w1 m1 d pp), .long (gH v1 w1 m1 d cap pp), .long (gC v1 w1 m1 d cap pp), .long z5, .int (nI sw), .int (nI np), .ref qf, .ref qs, .int (nI fe), .int (nI te), .int (nI kk), .ref qt, .ref qx, .ref qy, .int no, .int nt, .ref qo, .ref qz, .ref qi, .ref qv, .int fd]))] := hD
        refine lv_aload_n hx hb dX10_look_141 rfl (lv_at hl 1 rfl) ?_
        refine lv_aload_n hx hb dX10_look_142 rfl (lv_at hl 1 rfl) ?_
        refine va_get (D := D) (ci := 10) (v := .int (nI sh)) (C := RX10) (T := TX10) (N := 40) hx hb hts iX10 hown hK hP 0 rfl rfl 2 (by decide) (hts (.fieldLink RX10 76 "DeepHoleModel" "shoe" "I") (by decide +kernel)) (fun _ h9 => h9) rfl dX10_look_143 ?_
        refine lv_i2l (v := (nI sh).toInt64) hx hb dX10_look_146 rfl ?_
        refine lv_iload_n hx hb dX10_look_147 rfl (lv_at hl 2 rfl) ?_
        refine lv_i2l (v := (nI pp).toInt64) hx hb dX10_look_148 rfl ?_
        refine lv_aload_n hx hb dX10_look_149 rfl (lv_at hl 1 rfl) ?_
        refine va_get (D := D) (ci := 10) (v := .long (gH v1 w1 m1 d cap pp)) (C := RX10) (T := TX10) (N := 40) hx hb hts iX10 hown hK hP 0 rfl rfl 20 (by decide) (hts (.fieldLink RX10 124 "DeepHoleModel" "height" "J") (by decide +kernel)) (fun _ h9 => h9) rfl dX10_look_150 ?_
        refine lv_lsub hx hb dX10_look_153 ?_
        refine W.lcmp hx hb dX10_look_154 ?_
        refine cut_v (ls := ls) (rest := [.ref m0]) 207 (.long (gA v1 w1 m1 d cap sh pp)) ?_ (fun K_155 => ?_)
        ·
          refine va_put (D := D) (ci := 10) (v := .long (gA v1 w1 m1 d cap sh pp)) (ty := .long) (C := RX10) (T := TX10) (N := 40) hx hb hts iX10 tyX10 tyX10_ok nmX10 hown hK hP hD hS 0 rfl rfl 22 (by decide) (hts (.fieldLink RX10 130 "DeepHoleModel" "atShoe" "J") (by decide +kernel)) (fun _ h9 => h9) rfl (by decide +kernel) rfl rfl (Nat.le_of_ble_eq_true rfl) dX10_look_207 (fun H locs hP hD hS => ?_)
          have hP : va_P D vwCl [(m0, .inr (10, [.ref qk, .int (nI d), .int (nI sh), .int (nI low), .int (nI high), .int le, .int mo, .int (nI nb), .ref qp, .ref qr, .ref qc, .ref qm, .ref qb, .int (nI cap), .int kd, .int am, .int wt, .int md, .long (gG w1 m1 d pp), .long (gV v1 w1 m1 d pp), .long (gH v1 w1 m1 d cap pp), .long (gC v1 w1 m1 d cap pp), .long (gA v1 w1 m1 d cap sh pp), .int (nI sw), .int (nI np), .ref qf, .ref qs, .int (nI fe), .int (nI te), .int (nI kk), .ref qt, .ref qx, .ref qy, .int no, .int nt, .ref qo, .ref qz, .ref qi, .ref qv, .int fd]))] H := hP
          have hD : va_D A [(m0, .inr (10, [.ref qk, .int (nI d), .int (nI sh), .int (nI low), .int (nI high), .int le, .int mo, .int (nI nb), .ref qp, .ref qr, .ref qc, .ref qm, .ref qb, .int (nI cap), .int kd, .int am, .int wt, .int md, .long (gG w1 m1 d pp), .long (gV v1 w1 m1 d pp), .long (gH v1 w1 m1 d cap pp), .long (gC v1 w1 m1 d cap pp), .long (gA v1 w1 m1 d cap sh pp), .int (nI sw), .int (nI np), .ref qf, .ref qs, .int (nI fe), .int (nI te), .int (nI kk), .ref qt, .ref qx, .ref qy, .int no, .int nt, .ref qo, .ref qz, .ref qi, .ref qv, .int fd]))] := hD
          have hP9 := hP.sub (ws' := [(m0, .inr (10, [.ref qk, .int (nI d), .int (nI sh), .int (nI low), .int (nI high), .int le, .int mo, .int (nI nb), .ref qp, .ref qr, .ref qc, .ref qm, .ref qb, .int (nI cap), .int kd, .int am, .int wt, .int md, .long (gG w1 m1 d pp), .long (gV v1 w1 m1 d pp), .long (gH v1 w1 m1 d cap pp), .long (gC v1 w1 m1 d cap pp), .long (gA v1 w1 m1 d cap sh pp), .int (nI sw), .int (nI np), .ref qf, .ref qs, .int (nI fe), .int (nI te), .int (nI kk), .ref qt, .ref qx, .ref qy, .int no, .int nt, .ref qo, .ref qz, .ref qi, .ref qv, .int fd]))]) [0] rfl
          have hD9 := hD.sub (ws' := [(m0, .inr (10, [.ref qk, .int (nI d), .int (nI sh), .int (nI low), .int (nI high), .int le, .int mo, .int (nI nb), .ref qp, .ref qr, .ref qc, .ref qm, .ref qb, .int (nI cap), .int kd, .int am, .int wt, .int md, .long (gG w1 m1 d pp), .long (gV v1 w1 m1 d pp), .long (gH v1 w1 m1 d cap pp), .long (gC v1 w1 m1 d cap pp), .long (gA v1 w1 m1 d cap sh pp), .int (nI sw), .int (nI np), .ref qf, .ref qs, .int (nI fe), .int (nI te), .int (nI kk), .ref qt, .ref qx, .ref qy, .int no, .int nt, .ref qo, .ref qz, .ref qi, .ref qv, .int fd]))]) [0] (by decide) rfl
          exact W.vret hx hb hr (fun t ht hW => ⟨⟨(), rfl, (trivial), by rw [ht]; exact hP9, hD9⟩, hS.F ht⟩) hS.2.2 dX10_look_210
        ·
          refine lv_if_gt (tgt := 175) hx hb dX10_look_155 (by decide) (fun c_155 => ?_) (fun c_155 => ?_)
          ·
            have c_155 := (lg_cmp_gt _ _).mp c_155
            refine lv_aload_n hx hb dX10_look_175 rfl (lv_at hl 1 rfl) ?_
            refine va_get (D := D) (ci := 10) (v := .int (nI sh)) (C := RX10) (T := TX10) (N := 40) hx hb hts iX10 hown hK hP 0 rfl rfl 2 (by decide) (hts (.fieldLink RX10 76 "DeepHoleModel" "shoe" "I") (by decide +kernel)) (fun _ h9 => h9) rfl dX10_look_176 ?_
            refine lv_iload_n hx hb dX10_look_179 rfl (lv_at hl 2 rfl) ?_
            refine lv_icmp_gt (tgt := 190) hx hb dX10_look_180 (by decide) (fun c_180 => ?_) (fun c_180 => ?_)
            ·
              have c_180 := n_gt (a := sh) (b := pp) c_180 (by omega) (by omega)
              refine lv_lload hx hb dX10_look_190 (lv_at hl 0 rfl) ?_
              refine lv_iload hx hb dX10_look_192 (lv_at hl 5 rfl) ?_
              refine lv_i2l (v := m1.toInt64) hx hb dX10_look_194 rfl ?_
              refine lv_aload_n hx hb dX10_look_195 rfl (lv_at hl 1 rfl) ?_
              refine va_get (D := D) (ci := 10) (v := .int (nI d)) (C := RX10) (T := TX10) (N := 40) hx hb hts iX10 hown hK hP 0 rfl rfl 1 (by decide) (hts (.fieldLink RX10 73 "DeepHoleModel" "depth" "I") (by decide +kernel)) (fun _ h9 => h9) rfl dX10_look_196 ?_
              refine lv_aload_n hx hb dX10_look_199 rfl (lv_at hl 1 rfl) ?_
              refine va_get (D := D) (ci := 10) (v := .int (nI sh)) (C := RX10) (T := TX10) (N := 40) hx hb hts iX10 hown hK hP 0 rfl rfl 2 (by decide) (hts (.fieldLink RX10 76 "DeepHoleModel" "shoe" "I") (by decide +kernel)) (fun _ h9 => h9) rfl dX10_look_200 ?_
              refine lv_isub hx hb dX10_look_203 ?_
              refine lv_i2l (v := ((nI d) - (nI sh)).toInt64) hx hb dX10_look_204 rfl ?_
              refine lv_lmul hx hb dX10_look_205 ?_
              refine lv_lsub hx hb dX10_look_206 ?_
              exact lv_eql (by unfold gA gT; first | rw [if_neg c_155] | rw [if_pos c_155, if_neg (by omega)] | rw [if_pos c_155, if_pos (by omega)]) K_155
            ·
              have c_180 := n_ngt (a := sh) (b := pp) c_180 (by omega) (by omega)
              refine lv_aload_n hx hb dX10_look_183 rfl (lv_at hl 1 rfl) ?_
              refine va_get (D := D) (ci := 10) (v := .long (gG w1 m1 d pp)) (C := RX10) (T := TX10) (N := 40) hx hb hts iX10 hown hK hP 0 rfl rfl 18 (by decide) (hts (.fieldLink RX10 117 "DeepHoleModel" "g" "J") (by decide +kernel)) (fun _ h9 => h9) rfl dX10_look_184 ?_
              refine lv_goto (tgt := 207) hx hb dX10_look_187 (by decide) ?_
              exact lv_eql (by unfold gA gT; first | rw [if_neg c_155] | rw [if_pos c_155, if_neg (by omega)] | rw [if_pos c_155, if_pos (by omega)]) K_155
          ·
            have c_155 := fun h => c_155 ((lg_cmp_gt _ _).mpr h)
            refine lv_aload_n hx hb dX10_look_158 rfl (lv_at hl 1 rfl) ?_
            refine va_get (D := D) (ci := 10) (v := .long (gC v1 w1 m1 d cap pp)) (C := RX10) (T := TX10) (N := 40) hx hb hts iX10 hown hK hP 0 rfl rfl 21 (by decide) (hts (.fieldLink RX10 127 "DeepHoleModel" "choke" "J") (by decide +kernel)) (fun _ h9 => h9) rfl dX10_look_159 ?_
            refine lv_iload hx hb dX10_look_162 (lv_at hl 5 rfl) ?_
            refine lv_i2l (v := m1.toInt64) hx hb dX10_look_164 rfl ?_
            refine lv_aload_n hx hb dX10_look_165 rfl (lv_at hl 1 rfl) ?_
            refine va_get (D := D) (ci := 10) (v := .int (nI sh)) (C := RX10) (T := TX10) (N := 40) hx hb hts iX10 hown hK hP 0 rfl rfl 2 (by decide) (hts (.fieldLink RX10 76 "DeepHoleModel" "shoe" "I") (by decide +kernel)) (fun _ h9 => h9) rfl dX10_look_166 ?_
            refine lv_i2l (v := (nI sh).toInt64) hx hb dX10_look_169 rfl ?_
            refine lv_lmul hx hb dX10_look_170 ?_
            refine lv_ladd hx hb dX10_look_171 ?_
            refine lv_goto (tgt := 207) hx hb dX10_look_172 (by decide) ?_
            exact lv_eql (by unfold gA gT; first | rw [if_neg c_155] | rw [if_pos c_155, if_neg (by omega)] | rw [if_pos c_155, if_pos (by omega)]) K_155
      ·
        refine lv_if_ge (tgt := 134) hx hb dX10_look_127 (by decide) (fun c_127 => ?_) (fun c_127 => ?_)
        ·
          have c_127 := (lg_cmp_ge _ _).mp c_127
          refine lv_aload_n hx hb dX10_look_134 rfl (lv_at hl 1 rfl) ?_
          refine va_get (D := D) (ci := 10) (v := .long ((gG w1 m1 d pp) - (m1.toInt64 * (((nI pp).toInt64) - (gH v1 w1 m1 d cap pp))))) (C := RX10) (T := TX10) (N := 40) hx hb hts iX10 hown hK hP 0 rfl rfl 21 (by decide) (hts (.fieldLink RX10 127 "DeepHoleModel" "choke" "J") (by decide +kernel)) (fun _ h9 => h9) rfl dX10_look_135 ?_
          exact lv_eql (by unfold gC gT; first | rw [if_neg (ll1 c_127)] | rw [if_pos (ll2 c_127)]) K_127
        ·
          have c_127 := fun h => c_127 ((lg_cmp_ge _ _).mpr h)
          refine lv_lconst (v := 0) hx hb dX10_look_130 (by decide) ?_
          refine lv_goto (tgt := 138) hx hb dX10_look_131 (by decide) ?_
          exact lv_eql (by unfold gC gT; first | rw [if_neg (ll1 c_127)] | rw [if_pos (ll2 c_127)]) K_127
    ·
      refine lv_if_le (tgt := 93) hx hb dX10_look_85 (by decide) (fun c_85 => ?_) (fun c_85 => ?_)
      ·
        have c_85 := (lg_cmp_le _ _).mp c_85
        refine lv_aload_n hx hb dX10_look_93 rfl (lv_at hl 1 rfl) ?_
        refine va_get (D := D) (ci := 10) (v := .long ((gV v1 w1 m1 d pp) / ((nI cap).toInt64))) (C := RX10) (T := TX10) (N := 40) hx hb hts iX10 hown hK hP 0 rfl rfl 20 (by decide) (hts (.fieldLink RX10 124 "DeepHoleModel" "height" "J") (by decide +kernel)) (fun _ h9 => h9) rfl dX10_look_94 ?_
        exact lv_eql (by first | exact gH_a c_85 | exact gH_b c_85) K_85
      ·
        have c_85 := fun h => c_85 ((lg_cmp_le _ _).mpr h)
        refine lv_iload_n hx hb dX10_look_88 rfl (lv_at hl 2 rfl) ?_
        refine lv_i2l (v := (nI pp).toInt64) hx hb dX10_look_89 rfl ?_
        refine lv_goto (tgt := 97) hx hb dX10_look_90 (by decide) ?_
        exact lv_eql (by first | exact gH_a c_85 | exact gH_b c_85) K_85
  ·
    refine lv_if_ge (tgt := 42) hx hb dX10_look_35 (by decide) (fun c_35 => ?_) (fun c_35 => ?_)
    ·
      have c_35 := (lg_cmp_ge _ _).mp c_35
      refine lv_aload_n hx hb dX10_look_42 rfl (lv_at hl 1 rfl) ?_
      refine va_get (D := D) (ci := 10) (v := .long ((gB w1 d) - (m1.toInt64 * (((nI d) - (nI pp)).toInt64)))) (C := RX10) (T := TX10) (N := 40) hx hb hts iX10 hown hK hP 0 rfl rfl 18 (by decide) (hts (.fieldLink RX10 117 "DeepHoleModel" "g" "J") (by decide +kernel)) (fun _ h9 => h9) rfl dX10_look_43 ?_
      exact lv_eql (by unfold gG; first | rw [if_neg (ll1 c_35)] | rw [if_pos (ll2 c_35)]) K_35
    ·
      have c_35 := fun h => c_35 ((lg_cmp_ge _ _).mpr h)
      refine lv_lconst (v := 1) hx hb dX10_look_38 (by decide) ?_
      refine lv_goto (tgt := 46) hx hb dX10_look_39 (by decide) ?_
      exact lv_eql (by unfold gG; first | rw [if_neg (ll1 c_35)] | rw [if_pos (ll2 c_35)]) K_35

set_option maxHeartbeats 4000000 in
set_option maxRecDepth 100000 in
theorem c_X10_breaksShoe {l : Launch} {D : va_G} {cI cS cP : ClassId} {sz : Nat} {m0 qk qp qr qc qm qb qf qs qt qx qy qo qz qi qv : Nat} {d sh low high nb cap sw np fe te kk : Nat} {le mo kd am wt md no nt fd : Int32} {z1 z2 z3 z4 z5 : Int64} {fmf szf imf : Nat → Int32} {n1 : Nat} {it1 : Nat → Int32} (hsh : sh ≤ 50) (hn1 : n1 ≤ 60) (hG1 : gREL fmf szf imf 1 n1 it1) : Met l yX10_breaksShoe wsX10_breaksShoe ({ frames := 2, cells := 0, slots := 0, locals := 49 }) (PC D (TY cI cS cP) [.ref m0] sz [(m0, .inr (10, [.ref qk, .int (nI d), .int (nI sh), .int (nI low), .int (nI high), .int le, .int mo, .int (nI nb), .ref qp, .ref qr, .ref qc, .ref qm, .ref qb, .int (nI cap), .int kd, .int am, .int wt, .int md, .long z1, .long z2, .long z3, .long z4, .long z5, .int (nI sw), .int (nI np), .ref qf, .ref qs, .int (nI fe), .int (nI te), .int (nI kk), .ref qt, .ref qx, .ref qy, .int no, .int nt, .ref qo, .ref qz, .ref qi, .ref qv, .int fd])), (qo, .inl (cI, 4, .inl fmf)), (qz, .inl (cI, 4, .inl szf)), (qi, .inl (cI, 240, .inl imf))]) (vp_Si (fun r => r = if (strg it1 n1 sh < z5) then 1 else 0)) 0 0 (fun _ => False) := by
  refine Met.ofW (cc := cX10_breaksShoe) (maxL := 1) (ret := (some .boolean)) (by decide) rfl ?_
  intro p e s m args below meth c s₁ B hml hv
  obtain ⟨rfl, hsz, hP, hK, hD0, hN⟩ := hv
  have hx := B.exec
  have hb := B.bytes
  have hr := B.returns
  have hts := atoms_spec (ws := wsX10_breaksShoe) B.pre
  have hown : s.vm.findClass RX10 = some m.cls := findClass_of_methodNamed B.named
  have hlocks := B.notSynchronized
  subst hsz
  have iX10 : ∀ w ∈ u_ws RX10 TX10 40, w ∈ wsX10_breaksShoe := by decide +kernel
  have hD := hD0
  have hP : va_P D vwCl [(m0, .inr (10, [.ref qk, .int (nI d), .int (nI sh), .int (nI low), .int (nI high), .int le, .int mo, .int (nI nb), .ref qp, .ref qr, .ref qc, .ref qm, .ref qb, .int (nI cap), .int kd, .int am, .int wt, .int md, .long z1, .long z2, .long z3, .long z4, .long z5, .int (nI sw), .int (nI np), .ref qf, .ref qs, .int (nI fe), .int (nI te), .int (nI kk), .ref qt, .ref qx, .ref qy, .int no, .int nt, .ref qo, .ref qz, .ref qi, .ref qv, .int fd])), (qo, .inl (cI, 4, .inl fmf)), (qz, .inl (cI, 4, .inl szf)), (qi, .inl (cI, 240, .inl imf))] s.heap := hP
  have hl := lv_entry ([.ref m0]) (n := 1) (Nat.le_of_ble_eq_true rfl)
  rw [lg_entry_eq]
  generalize (lg_sl ([.ref m0]) ++ List.replicate (1 - (lg_sl ([.ref m0])).length) Slot.unset).toArray = ls at hl ⊢
  have hl : lv_has ls 1 [(0, .ref m0)] := hl
  refine lv_aload_n hx hb dX10_breaksShoe_0 rfl (lv_at hl 0 rfl) ?_
  refine va_get (D := D) (ci := 10) (v := .int (nI sh)) (C := RX10) (T := TX10) (N := 40) hx hb hts iX10 hown hK hP 0 rfl rfl 2 (by decide) (hts (.fieldLink RX10 76 "DeepHoleModel" "shoe" "I") (by decide +kernel)) (fun _ h9 => h9) rfl dX10_breaksShoe_1 ?_
  refine lv_if_le (tgt := 37) hx hb dX10_breaksShoe_4 (by decide) (fun c_4 => ?_) (fun c_4 => ?_)
  ·
    have c_4 := n_le (a := sh) (b := 0) c_4 (by omega) (by omega)
    refine lv_iconst (v := 0) hx hb dX10_breaksShoe_37 (by decide) ?_
    exact W.zret (v := 0) hx hb hr (rfl) (fun t ht hW => ⟨_, rfl, (by exact b_0 (by unfold strg; rw [if_pos (by omega)]; exact n_max _)), ht⟩) (fun _ h => absurd h List.not_mem_nil) dX10_breaksShoe_38
  ·
    have c_4 := n_nle (a := sh) (b := 0) c_4 (by omega) (by omega)
    refine lv_aload_n hx hb dX10_breaksShoe_7 rfl (lv_at hl 0 rfl) ?_
    refine va_get (D := D) (ci := 10) (v := .long z5) (C := RX10) (T := TX10) (N := 40) hx hb hts iX10 hown hK hP 0 rfl rfl 22 (by decide) (hts (.fieldLink RX10 130 "DeepHoleModel" "atShoe" "J") (by decide +kernel)) (fun _ h9 => h9) rfl dX10_breaksShoe_8 ?_
    refine lv_aload_n hx hb dX10_breaksShoe_11 rfl (lv_at hl 0 rfl) ?_
    refine lv_iconst (v := 1) hx hb dX10_breaksShoe_12 (by decide) ?_
    refine lv_aload_n hx hb dX10_breaksShoe_13 rfl (lv_at hl 0 rfl) ?_
    refine va_get (D := D) (ci := 10) (v := .int (nI sh)) (C := RX10) (T := TX10) (N := 40) hx hb hts iX10 hown hK hP 0 rfl rfl 2 (by decide) (hts (.fieldLink RX10 76 "DeepHoleModel" "shoe" "I") (by decide +kernel)) (fun _ h9 => h9) rfl dX10_breaksShoe_14 ?_
    refine lv_iconst (v := 1) hx hb dX10_breaksShoe_17 (by decide) ?_
    refine lv_isub hx hb dX10_breaksShoe_18 ?_
    refine lv_eqi (z := nI (sh - 1)) (pk_sub (a := sh) (b := 1) (by omega)) ?_
    refine q_V (wc := [(m0, .inr (10, [.ref qk, .int (nI d), .int (nI sh), .int (nI low), .int (nI high), .int le, .int mo, .int (nI nb), .ref qp, .ref qr, .ref qc, .ref qm, .ref qb, .int (nI cap), .int kd, .int am, .int wt, .int md, .long z1, .long z2, .long z3, .long z4, .long z5, .int (nI sw), .int (nI np), .ref qf, .ref qs, .int (nI fe), .int (nI te), .int (nI kk), .ref qt, .ref qx, .ref qy, .int no, .int nt, .ref qo, .ref qz, .ref qi, .ref qv, .int fd])), (qo, .inl (cI, 4, .inl fmf)), (qz, .inl (cI, 4, .inl szf)), (qi, .inl (cI, 240, .inl imf))]) (b := m0) ⟨hx, hb, hml, hown, hts⟩ [.int (nI 1), .int (nI (sh - 1))] [.long z5] (c_X10_groundOf (it := it1) (n := n1) (by first | assumption | omega) (by first | assumption | omega) (hn1) (hG1)) (cwV 2 hts gX10_breaksShoe_X10_groundOf rfl rfl rfl (by decide +kernel) ⟨Nat.le_of_ble_eq_true rfl, Nat.le_of_ble_eq_true rfl⟩) hK hN hP hD [0, 1, 2, 3] rfl (by decide) (ci := 10) rfl rfl rfl rfl hl.1 rfl (Nat.le_of_ble_eq_true rfl) dX10_breaksShoe_19 ⟨Nat.zero_le _, Nat.zero_le _⟩ (fun r hw => ?_)
    subst hw
    refine lv_eqi (z := nI (fr it1 n1 (sh - 1))) (rfl) ?_
    refine lv_i2l (v := (nI (fr it1 n1 (sh - 1))).toInt64) hx hb dX10_breaksShoe_22 rfl ?_
    refine lv_aload_n hx hb dX10_breaksShoe_23 rfl (lv_at hl 0 rfl) ?_
    refine va_get (D := D) (ci := 10) (v := .int (nI sh)) (C := RX10) (T := TX10) (N := 40) hx hb hts iX10 hown hK hP 0 rfl rfl 2 (by decide) (hts (.fieldLink RX10 76 "DeepHoleModel" "shoe" "I") (by decide +kernel)) (fun _ h9 => h9) rfl dX10_breaksShoe_24 ?_
    refine lv_i2l (v := (nI sh).toInt64) hx hb dX10_breaksShoe_27 rfl ?_
    refine lv_lmul hx hb dX10_breaksShoe_28 ?_
    refine W.lcmp hx hb dX10_breaksShoe_29 ?_
    refine lv_if_le (tgt := 37) hx hb dX10_breaksShoe_30 (by decide) (fun c_30 => ?_) (fun c_30 => ?_)
    ·
      have c_30 := (lg_cmp_le _ _).mp c_30
      refine lv_iconst (v := 0) hx hb dX10_breaksShoe_37 (by decide) ?_
      exact W.zret (v := 0) hx hb hr (rfl) (fun t ht hW => ⟨_, rfl, (by exact b_0 (by unfold strg; rw [if_neg (by omega)]; exact fun h => by rw [l_le] at c_30; rw [l_lt] at h; omega)), ht⟩) (fun _ h => absurd h List.not_mem_nil) dX10_breaksShoe_38
    ·
      have c_30 := fun h => c_30 ((lg_cmp_le _ _).mpr h)
      refine lv_iconst (v := 1) hx hb dX10_breaksShoe_33 (by decide) ?_
      refine lv_goto (tgt := 38) hx hb dX10_breaksShoe_34 (by decide) ?_
      exact W.zret (v := 1) hx hb hr (rfl) (fun t ht hW => ⟨_, rfl, (by exact b_1 (by unfold strg; rw [if_neg (by omega)]; exact Classical.byContradiction fun h => c_30 (by rw [l_lt] at h; rw [l_le]; omega))), ht⟩) (fun _ h => absurd h List.not_mem_nil) dX10_breaksShoe_38

set_option maxHeartbeats 4000000 in
set_option maxRecDepth 100000 in
theorem c_X10_kick {l : Launch} {D : va_G} {cI cS cP : ClassId} {sz : Nat} {m0 qk qp qr qc qm qb qf qs qt qx qy qo qz qi qv : Nat} {d sh low high nb cap sw np fe te kk : Nat} {le mo kd am wt md no nt fd : Int32} {z1 z2 z3 z4 z5 : Int64} {v1 w1 m1 : Int32} (hd : d ≤ 50) (hsh : sh ≤ d) (hc1 : 1 ≤ cap) (hc2 : cap ≤ 1000) : Met l yX10_kick wsX10_kick ({ frames := 1, cells := 0, slots := 0, locals := 26 }) (PC D (TY cI cS cP) [.ref m0, .int v1, .int w1, .int m1] sz [(m0, .inr (10, [.ref qk, .int (nI d), .int (nI sh), .int (nI low), .int (nI high), .int le, .int mo, .int (nI nb), .ref qp, .ref qr, .ref qc, .ref qm, .ref qb, .int (nI cap), .int kd, .int am, .int wt, .int md, .long z1, .long z2, .long z3, .long z4, .long z5, .int (nI sw), .int (nI np), .ref qf, .ref qs, .int (nI fe), .int (nI te), .int (nI kk), .ref qt, .ref qx, .ref qy, .int no, .int nt, .ref qo, .ref qz, .ref qi, .ref qv, .int fd]))]) (QI D (fun (r : Int32) (u : Int32 × Int32 × Int32 × Int32 × Int64 × Int64 × Int64 × Int64 × Int64) => (r = aKick d v1 w1 m1) ∧ (u.1, u.2.1, u.2.2.1, u.2.2.2.1) = sKickM d kd am wt md v1 w1 m1) (fun (u : Int32 × Int32 × Int32 × Int32 × Int64 × Int64 × Int64 × Int64 × Int64) => [(m0, .inr (10, [.ref qk, .int (nI d), .int (nI sh), .int (nI low), .int (nI high), .int le, .int mo, .int (nI nb), .ref qp, .ref qr, .ref qc, .ref qm, .ref qb, .int (nI cap), .int u.1, .int u.2.1, .int u.2.2.1, .int u.2.2.2.1, .long u.2.2.2.2.1, .long u.2.2.2.2.2.1, .long u.2.2.2.2.2.2.1, .long u.2.2.2.2.2.2.2.1, .long u.2.2.2.2.2.2.2.2, .int (nI sw), .int (nI np), .ref qf, .ref qs, .int (nI fe), .int (nI te), .int (nI kk), .ref qt, .ref qx, .ref qy, .int no, .int nt, .ref qo, .ref qz, .ref qi, .ref qv, .int fd]))]) (va_A [(m0, .inr (10, [.ref qk, .int (nI d), .int (nI sh), .int (nI low), .int (nI high), .int le, .int mo, .int (nI nb), .ref qp, .ref qr, .ref qc, .ref qm, .ref qb, .int (nI cap), .int kd, .int am, .int wt, .int md, .long z1, .long z2, .long z3, .long z4, .long z5, .int (nI sw), .int (nI np), .ref qf, .ref qs, .int (nI fe), .int (nI te), .int (nI kk), .ref qt, .ref qx, .ref qy, .int no, .int nt, .ref qo, .ref qz, .ref qi, .ref qv, .int fd]))] sz)) 0 0 (va_A [(m0, .inr (10, [.ref qk, .int (nI d), .int (nI sh), .int (nI low), .int (nI high), .int le, .int mo, .int (nI nb), .ref qp, .ref qr, .ref qc, .ref qm, .ref qb, .int (nI cap), .int kd, .int am, .int wt, .int md, .long z1, .long z2, .long z3, .long z4, .long z5, .int (nI sw), .int (nI np), .ref qf, .ref qs, .int (nI fe), .int (nI te), .int (nI kk), .ref qt, .ref qx, .ref qy, .int no, .int nt, .ref qo, .ref qz, .ref qi, .ref qv, .int fd]))] sz) := by
  refine Met.ofW (cc := cX10_kick) (maxL := 8) (ret := (some .int)) (by decide) rfl ?_
  intro p e s m args below meth c s₁ B hml hv
  obtain ⟨rfl, hsz, hP, hK, hD0, hN⟩ := hv
  have hx := B.exec
  have hb := B.bytes
  have hr := B.returns
  have hts := atoms_spec (ws := wsX10_kick) B.pre
  have hown : s.vm.findClass RX10 = some m.cls := findClass_of_methodNamed B.named
  have hlocks := B.notSynchronized
  subst hsz
  have iX10 : ∀ w ∈ u_ws RX10 TX10 40, w ∈ wsX10_kick := by decide +kernel
  have hD := hD0.self (sz := s.heap.size)
  generalize hAe : va_A [(m0, .inr (10, [.ref qk, .int (nI d), .int (nI sh), .int (nI low), .int (nI high), .int le, .int mo, .int (nI nb), .ref qp, .ref qr, .ref qc, .ref qm, .ref qb, .int (nI cap), .int kd, .int am, .int wt, .int md, .long z1, .long z2, .long z3, .long z4, .long z5, .int (nI sw), .int (nI np), .ref qf, .ref qs, .int (nI fe), .int (nI te), .int (nI kk), .ref qt, .ref qx, .ref qy, .int no, .int nt, .ref qo, .ref qz, .ref qi, .ref qv, .int fd]))] s.heap.size = A at hD ⊢
  have hA : ∀ q : Nat, s.heap.size ≤ q → A q := fun q h => by rw [← hAe]; exact Or.inr h
  have hS : va_S A s.heap s.heap [] := va_S.rf
  have hP : va_P D vwCl [(m0, .inr (10, [.ref qk, .int (nI d), .int (nI sh), .int (nI low), .int (nI high), .int le, .int mo, .int (nI nb), .ref qp, .ref qr, .ref qc, .ref qm, .ref qb, .int (nI cap), .int kd, .int am, .int wt, .int md, .long z1, .long z2, .long z3, .long z4, .long z5, .int (nI sw), .int (nI np), .ref qf, .ref qs, .int (nI fe), .int (nI te), .int (nI kk), .ref qt, .ref qx, .ref qy, .int no, .int nt, .ref qo, .ref qz, .ref qi, .ref qv, .int fd]))] s.heap := hP
  have hl := lv_entry ([.ref m0, .int v1, .int w1, .int m1]) (n := 8) (Nat.le_of_ble_eq_true rfl)
  rw [lg_entry_eq]
  generalize (lg_sl ([.ref m0, .int v1, .int w1, .int m1]) ++ List.replicate (8 - (lg_sl ([.ref m0, .int v1, .int w1, .int m1])).length) Slot.unset).toArray = ls at hl ⊢
  have hl : lv_has ls 8 [(0, .ref m0), (1, .int v1), (2, .int w1), (3, .int m1)] := hl
  refine lv_iload_n hx hb dX10_kick_0 rfl (lv_at hl 1 rfl) ?_
  refine lv_i2l (v := v1.toInt64) hx hb dX10_kick_1 rfl ?_
  refine lv_lconst (v := 1) hx hb dX10_kick_2 (by decide) ?_
  refine lv_ldc2 hx hb hown (hts (.constantLong RX10 108 (1000)) (by decide +kernel)) dX10_kick_3 ?_
  refine q_S (tys := TY cI cS cP) (D := D) ⟨hx, hb, hml, hown, hts⟩ [.long v1.toInt64, .long ((1 : Int32).toInt64), .long ((1000 : Int32).toInt64)] [] c_X10_in (va_cwS 3 hts gX10_kick_X10_in rfl rfl rfl (by decide +kernel) ⟨Nat.le_of_ble_eq_true rfl, Nat.le_of_ble_eq_true rfl⟩) hK hN rfl hl.1 rfl (Nat.le_of_ble_eq_true rfl) dX10_kick_6 ⟨Nat.zero_le _, Nat.zero_le _⟩ (fun r hw => ?_)
  subst hw
  refine lv_if_eq (tgt := 36) hx hb dX10_kick_9 (by decide) (fun c_9 => ?_) (fun c_9 => ?_)
  ·
    have c_9 := bz c_9
    refine lv_bipush (v := (-2)) hx hb dX10_kick_36 (by decide) ?_
    have hP9 := hP.sub (ws' := [(m0, .inr (10, [.ref qk, .int (nI d), .int (nI sh), .int (nI low), .int (nI high), .int le, .int mo, .int (nI nb), .ref qp, .ref qr, .ref qc, .ref qm, .ref qb, .int (nI cap), .int kd, .int am, .int wt, .int md, .long z1, .long z2, .long z3, .long z4, .long z5, .int (nI sw), .int (nI np), .ref qf, .ref qs, .int (nI fe), .int (nI te), .int (nI kk), .ref qt, .ref qx, .ref qy, .int no, .int nt, .ref qo, .ref qz, .ref qi, .ref qv, .int fd]))]) [0] rfl
    have hD9 := hD.sub (ws' := [(m0, .inr (10, [.ref qk, .int (nI d), .int (nI sh), .int (nI low), .int (nI high), .int le, .int mo, .int (nI nb), .ref qp, .ref qr, .ref qc, .ref qm, .ref qb, .int (nI cap), .int kd, .int am, .int wt, .int md, .long z1, .long z2, .long z3, .long z4, .long z5, .int (nI sw), .int (nI np), .ref qf, .ref qs, .int (nI fe), .int (nI te), .int (nI kk), .ref qt, .ref qx, .ref qy, .int no, .int nt, .ref qo, .ref qz, .ref qi, .ref qv, .int fd]))]) [0] (by decide) rfl
    exact W.iret (v := (-2)) hx hb hr (fun t ht hW => ⟨⟨_, (kd, am, wt, md, z1, z2, z3, z4, z5), rfl, (by unfold aKick sKickM; first | rw [if_neg (fun h => c_9 h.1), if_neg (fun h => c_9 h.1.1)]; exact ⟨rfl, rfl⟩ | rw [if_neg (fun h => c_21 h.2.1), if_neg (fun h => c_21 h.1.2.1)]; exact ⟨rfl, rfl⟩ | rw [if_neg (fun h => c_33 h.2.2), if_neg (fun h => c_33 h.1.2.2)]; exact ⟨rfl, rfl⟩), by rw [ht]; exact hP9, hD9⟩, hS.F ht⟩) hS.2.2 dX10_kick_38
  ·
    have c_9 := bnz c_9
    refine lv_iload_n hx hb dX10_kick_12 rfl (lv_at hl 2 rfl) ?_
    refine lv_i2l (v := w1.toInt64) hx hb dX10_kick_13 rfl ?_
    refine lv_lconst (v := 1) hx hb dX10_kick_14 (by decide) ?_
    refine lv_ldc2 hx hb hown (hts (.constantLong RX10 87 (3000)) (by decide +kernel)) dX10_kick_15 ?_
    refine q_S (tys := TY cI cS cP) (D := D) ⟨hx, hb, hml, hown, hts⟩ [.long w1.toInt64, .long ((1 : Int32).toInt64), .long ((3000 : Int32).toInt64)] [] c_X10_in (va_cwS 3 hts gX10_kick_X10_in rfl rfl rfl (by decide +kernel) ⟨Nat.le_of_ble_eq_true rfl, Nat.le_of_ble_eq_true rfl⟩) hK hN rfl hl.1 rfl (Nat.le_of_ble_eq_true rfl) dX10_kick_18 ⟨Nat.zero_le _, Nat.zero_le _⟩ (fun r hw => ?_)
    subst hw
    refine lv_if_eq (tgt := 36) hx hb dX10_kick_21 (by decide) (fun c_21 => ?_) (fun c_21 => ?_)
    ·
      have c_21 := bz c_21
      refine lv_bipush (v := (-2)) hx hb dX10_kick_36 (by decide) ?_
      have hP9 := hP.sub (ws' := [(m0, .inr (10, [.ref qk, .int (nI d), .int (nI sh), .int (nI low), .int (nI high), .int le, .int mo, .int (nI nb), .ref qp, .ref qr, .ref qc, .ref qm, .ref qb, .int (nI cap), .int kd, .int am, .int wt, .int md, .long z1, .long z2, .long z3, .long z4, .long z5, .int (nI sw), .int (nI np), .ref qf, .ref qs, .int (nI fe), .int (nI te), .int (nI kk), .ref qt, .ref qx, .ref qy, .int no, .int nt, .ref qo, .ref qz, .ref qi, .ref qv, .int fd]))]) [0] rfl
      have hD9 := hD.sub (ws' := [(m0, .inr (10, [.ref qk, .int (nI d), .int (nI sh), .int (nI low), .int (nI high), .int le, .int mo, .int (nI nb), .ref qp, .ref qr, .ref qc, .ref qm, .ref qb, .int (nI cap), .int kd, .int am, .int wt, .int md, .long z1, .long z2, .long z3, .long z4, .long z5, .int (nI sw), .int (nI np), .ref qf, .ref qs, .int (nI fe), .int (nI te), .int (nI kk), .ref qt, .ref qx, .ref qy, .int no, .int nt, .ref qo, .ref qz, .ref qi, .ref qv, .int fd]))]) [0] (by decide) rfl
      exact W.iret (v := (-2)) hx hb hr (fun t ht hW => ⟨⟨_, (kd, am, wt, md, z1, z2, z3, z4, z5), rfl, (by unfold aKick sKickM; first | rw [if_neg (fun h => c_9 h.1), if_neg (fun h => c_9 h.1.1)]; exact ⟨rfl, rfl⟩ | rw [if_neg (fun h => c_21 h.2.1), if_neg (fun h => c_21 h.1.2.1)]; exact ⟨rfl, rfl⟩ | rw [if_neg (fun h => c_33 h.2.2), if_neg (fun h => c_33 h.1.2.2)]; exact ⟨rfl, rfl⟩), by rw [ht]; exact hP9, hD9⟩, hS.F ht⟩) hS.2.2 dX10_kick_38
    ·
      have c_21 := bnz c_21
      refine lv_iload_n hx hb dX10_kick_24 rfl (lv_at hl 3 rfl) ?_
      refine lv_i2l (v := m1.toInt64) hx hb dX10_kick_25 rfl ?_
      refine lv_lconst (v := 0) hx hb dX10_kick_26 (by decide) ?_
      refine lv_ldc2 hx hb hown (hts (.constantLong RX10 87 (3000)) (by decide +kernel)) dX10_kick_27 ?_
      refine q_S (tys := TY cI cS cP) (D := D) ⟨hx, hb, hml, hown, hts⟩ [.long m1.toInt64, .long ((0 : Int32).toInt64), .long ((3000 : Int32).toInt64)] [] c_X10_in (va_cwS 3 hts gX10_kick_X10_in rfl rfl rfl (by decide +kernel) ⟨Nat.le_of_ble_eq_true rfl, Nat.le_of_ble_eq_true rfl⟩) hK hN rfl hl.1 rfl (Nat.le_of_ble_eq_true rfl) dX10_kick_30 ⟨Nat.zero_le _, Nat.zero_le _⟩ (fun r hw => ?_)
      subst hw
      refine lv_if_ne (tgt := 39) hx hb dX10_kick_33 (by decide) (fun c_33 => ?_) (fun c_33 => ?_)
      ·
        have c_33 := bnz c_33
        refine lv_aload_n hx hb dX10_kick_39 rfl (lv_at hl 0 rfl) ?_
        refine va_get (D := D) (ci := 10) (v := .int (nI d)) (C := RX10) (T := TX10) (N := 40) hx hb hts iX10 hown hK hP 0 rfl rfl 1 (by decide) (hts (.fieldLink RX10 73 "DeepHoleModel" "depth" "I") (by decide +kernel)) (fun _ h9 => h9) rfl dX10_kick_40 ?_
        refine lv_if_ne (tgt := 49) hx hb dX10_kick_43 (by decide) (fun c_43 => ?_) (fun c_43 => ?_)
        ·
          have c_43 := n_ne (a := d) (b := 0) c_43 (by omega) (by omega)
          refine lv_aload_n hx hb dX10_kick_49 rfl (lv_at hl 0 rfl) ?_
          refine lv_iconst (v := 1) hx hb dX10_kick_50 (by decide) ?_
          refine va_put (D := D) (ci := 10) (v := .int 1) (ty := .boolean) (C := RX10) (T := TX10) (N := 40) hx hb hts iX10 tyX10 tyX10_ok nmX10 hown hK hP hD hS 0 rfl rfl 14 (by decide) (hts (.fieldLink RX10 133 "DeepHoleModel" "kicked" "Z") (by decide +kernel)) (fun _ h9 => h9) rfl (by decide +kernel) rfl rfl (Nat.le_of_ble_eq_true rfl) dX10_kick_51 (fun H locs hP hD hS => ?_)
          have hP : va_P D vwCl [(m0, .inr (10, [.ref qk, .int (nI d), .int (nI sh), .int (nI low), .int (nI high), .int le, .int mo, .int (nI nb), .ref qp, .ref qr, .ref qc, .ref qm, .ref qb, .int (nI cap), .int 1, .int am, .int wt, .int md, .long z1, .long z2, .long z3, .long z4, .long z5, .int (nI sw), .int (nI np), .ref qf, .ref qs, .int (nI fe), .int (nI te), .int (nI kk), .ref qt, .ref qx, .ref qy, .int no, .int nt, .ref qo, .ref qz, .ref qi, .ref qv, .int fd]))] H := hP
          have hD : va_D A [(m0, .inr (10, [.ref qk, .int (nI d), .int (nI sh), .int (nI low), .int (nI high), .int le, .int mo, .int (nI nb), .ref qp, .ref qr, .ref qc, .ref qm, .ref qb, .int (nI cap), .int 1, .int am, .int wt, .int md, .long z1, .long z2, .long z3, .long z4, .long z5, .int (nI sw), .int (nI np), .ref qf, .ref qs, .int (nI fe), .int (nI te), .int (nI kk), .ref qt, .ref qx, .ref qy, .int no, .int nt, .ref qo, .ref qz, .ref qi, .ref qv, .int fd]))] := hD
          refine lv_aload_n hx hb dX10_kick_54 rfl (lv_at hl 0 rfl) ?_
          refine lv_iload_n hx hb dX10_kick_55 rfl (lv_at hl 1 rfl) ?_
          refine va_put (D := D) (ci := 10) (v := .int v1) (ty := .int) (C := RX10) (T := TX10) (N := 40) hx hb hts iX10 tyX10 tyX10_ok nmX10 hown hK hP hD hS 0 rfl rfl 15 (by decide) (hts (.fieldLink RX10 137 "DeepHoleModel" "volume" "I") (by decide +kernel)) (fun _ h9 => h9) rfl (by decide +kernel) rfl rfl (Nat.le_of_ble_eq_true rfl) dX10_kick_56 (fun H locs hP hD hS => ?_)
          have hP : va_P D vwCl [(m0, .inr (10, [.ref qk, .int (nI d), .int (nI sh), .int (nI low), .int (nI high), .int le, .int mo, .int (nI nb), .ref qp, .ref qr, .ref qc, .ref qm, .ref qb, .int (nI cap), .int 1, .int v1, .int wt, .int md, .long z1, .long z2, .long z3, .long z4, .long z5, .int (nI sw), .int (nI np), .ref qf, .ref qs, .int (nI fe), .int (nI te), .int (nI kk), .ref qt, .ref qx, .ref qy, .int no, .int nt, .ref qo, .ref qz, .ref qi, .ref qv, .int fd]))] H := hP
          have hD : va_D A [(m0, .inr (10, [.ref qk, .int (nI d), .int (nI sh), .int (nI low), .int (nI high), .int le, .int mo, .int (nI nb), .ref qp, .ref qr, .ref qc, .ref qm, .ref qb, .int (nI cap), .int 1, .int v1, .int wt, .int md, .long z1, .long z2, .long z3, .long z4, .long z5, .int (nI sw), .int (nI np), .ref qf, .ref qs, .int (nI fe), .int (nI te), .int (nI kk), .ref qt, .ref qx, .ref qy, .int no, .int nt, .ref qo, .ref qz, .ref qi, .ref qv, .int fd]))] := hD
          refine lv_aload_n hx hb dX10_kick_59 rfl (lv_at hl 0 rfl) ?_
          refine lv_iload_n hx hb dX10_kick_60 rfl (lv_at hl 2 rfl) ?_
          refine va_put (D := D) (ci := 10) (v := .int w1) (ty := .int) (C := RX10) (T := TX10) (N := 40) hx hb hts iX10 tyX10 tyX10_ok nmX10 hown hK hP hD hS 0 rfl rfl 16 (by decide) (hts (.fieldLink RX10 140 "DeepHoleModel" "weight" "I") (by decide +kernel)) (fun _ h9 => h9) rfl (by decide +kernel) rfl rfl (Nat.le_of_ble_eq_true rfl) dX10_kick_61 (fun H locs hP hD hS => ?_)
          have hP : va_P D vwCl [(m0, .inr (10, [.ref qk, .int (nI d), .int (nI sh), .int (nI low), .int (nI high), .int le, .int mo, .int (nI nb), .ref qp, .ref qr, .ref qc, .ref qm, .ref qb, .int (nI cap), .int 1, .int v1, .int w1, .int md, .long z1, .long z2, .long z3, .long z4, .long z5, .int (nI sw), .int (nI np), .ref qf, .ref qs, .int (nI fe), .int (nI te), .int (nI kk), .ref qt, .ref qx, .ref qy, .int no, .int nt, .ref qo, .ref qz, .ref qi, .ref qv, .int fd]))] H := hP
          have hD : va_D A [(m0, .inr (10, [.ref qk, .int (nI d), .int (nI sh), .int (nI low), .int (nI high), .int le, .int mo, .int (nI nb), .ref qp, .ref qr, .ref qc, .ref qm, .ref qb, .int (nI cap), .int 1, .int v1, .int w1, .int md, .long z1, .long z2, .long z3, .long z4, .long z5, .int (nI sw), .int (nI np), .ref qf, .ref qs, .int (nI fe), .int (nI te), .int (nI kk), .ref qt, .ref qx, .ref qy, .int no, .int nt, .ref qo, .ref qz, .ref qi, .ref qv, .int fd]))] := hD
          refine lv_aload_n hx hb dX10_kick_64 rfl (lv_at hl 0 rfl) ?_
          refine lv_iload_n hx hb dX10_kick_65 rfl (lv_at hl 3 rfl) ?_
          refine va_put (D := D) (ci := 10) (v := .int m1) (ty := .int) (C := RX10) (T := TX10) (N := 40) hx hb hts iX10 tyX10 tyX10_ok nmX10 hown hK hP hD hS 0 rfl rfl 17 (by decide) (hts (.fieldLink RX10 143 "DeepHoleModel" "mud" "I") (by decide +kernel)) (fun _ h9 => h9) rfl (by decide +kernel) rfl rfl (Nat.le_of_ble_eq_true rfl) dX10_kick_66 (fun H locs hP hD hS => ?_)
          have hP : va_P D vwCl [(m0, .inr (10, [.ref qk, .int (nI d), .int (nI sh), .int (nI low), .int (nI high), .int le, .int mo, .int (nI nb), .ref qp, .ref qr, .ref qc, .ref qm, .ref qb, .int (nI cap), .int 1, .int v1, .int w1, .int m1, .long z1, .long z2, .long z3, .long z4, .long z5, .int (nI sw), .int (nI np), .ref qf, .ref qs, .int (nI fe), .int (nI te), .int (nI kk), .ref qt, .ref qx, .ref qy, .int no, .int nt, .ref qo, .ref qz, .ref qi, .ref qv, .int fd]))] H := hP
          have hD : va_D A [(m0, .inr (10, [.ref qk, .int (nI d), .int (nI sh), .int (nI low), .int (nI high), .int le, .int mo, .int (nI nb), .ref qp, .ref qr, .ref qc, .ref qm, .ref qb, .int (nI cap), .int 1, .int v1, .int w1, .int m1, .long z1, .long z2, .long z3, .long z4, .long z5, .int (nI sw), .int (nI np), .ref qf, .ref qs, .int (nI fe), .int (nI te), .int (nI kk), .ref qt, .ref qx, .ref qy, .int no, .int nt, .ref qo, .ref qz, .ref qi, .ref qv, .int fd]))] := hD
          refine lv_aload_n hx hb dX10_kick_69 rfl (lv_at hl 0 rfl) ?_
          refine va_get (D := D) (ci := 10) (v := .int (nI d)) (C := RX10) (T := TX10) (N := 40) hx hb hts iX10 hown hK hP 0 rfl rfl 1 (by decide) (hts (.fieldLink RX10 73 "DeepHoleModel" "depth" "I") (by decide +kernel)) (fun _ h9 => h9) rfl dX10_kick_70 ?_
          refine lv_istore (lv' := [(4, .int (nI d)), (0, .ref m0), (1, .int v1), (2, .int w1), (3, .int m1)]) hx hb dX10_kick_73 hl (by decide) rfl (fun ls hl => ?_)
          refine lv_ldc2 hx hb hown (hts (.constantLong RX10 146 (-1)) (by decide +kernel)) dX10_kick_75 ?_
          refine lv_lstore (lv' := [(5, .long (-1)), (4, .int (nI d)), (0, .ref m0), (1, .int v1), (2, .int w1), (3, .int m1)]) hx hb dX10_kick_78 hl (by decide) rfl (fun ls hl => ?_)
          refine lv_aload_n hx hb dX10_kick_80 rfl (lv_at hl 2 rfl) ?_
          refine va_get (D := D) (ci := 10) (v := .int (nI d)) (C := RX10) (T := TX10) (N := 40) hx hb hts iX10 hown hK hP 0 rfl rfl 1 (by decide) (hts (.fieldLink RX10 73 "DeepHoleModel" "depth" "I") (by decide +kernel)) (fun _ h9 => h9) rfl dX10_kick_81 ?_
          refine lv_eqi (z := nI (d + 1) - 1) ((nI_pred d).symm) ?_
          refine lv_istore (lv' := [(7, .int (nI (d + 1) - 1)), (5, .long (-1)), (4, .int (nI d)), (0, .ref m0), (1, .int v1), (2, .int w1), (3, .int m1)]) hx hb dX10_kick_84 hl (by decide) rfl (fun ls hl => ?_)
          refine lp_w (I := fun zz9 H locs ls => ∃ (q at_ : Nat) (g z1 z2 z3 z4 z5 : Int64), zz9 = q ∧ (q ≤ d + 1) ∧ (wg (fun k => gV v1 w1 m1 d k) (d + 1) (-1) d = wg (fun k => gV v1 w1 m1 d k) q g at_) ∧ va_P D vwCl [(m0, .inr (10, [.ref qk, .int (nI d), .int (nI sh), .int (nI low), .int (nI high), .int le, .int mo, .int (nI nb), .ref qp, .ref qr, .ref qc, .ref qm, .ref qb, .int (nI cap), .int 1, .int v1, .int w1, .int m1, .long z1, .long z2, .long z3, .long z4, .long z5, .int (nI sw), .int (nI np), .ref qf, .ref qs, .int (nI fe), .int (nI te), .int (nI kk), .ref qt, .ref qx, .ref qy, .int no, .int nt, .ref qo, .ref qz, .ref qi, .ref qv, .int fd]))] H ∧ va_D A [(m0, .inr (10, [.ref qk, .int (nI d), .int (nI sh), .int (nI low), .int (nI high), .int le, .int mo, .int (nI nb), .ref qp, .ref qr, .ref qc, .ref qm, .ref qb, .int (nI cap), .int 1, .int v1, .int w1, .int m1, .long z1, .long z2, .long z3, .long z4, .long z5, .int (nI sw), .int (nI np), .ref qf, .ref qs, .int (nI fe), .int (nI te), .int (nI kk), .ref qt, .ref qx, .ref qy, .int no, .int nt, .ref qo, .ref qz, .ref qi, .ref qv, .int fd]))] ∧ va_S A s.heap H locs ∧ lv_has ls 8 [(0, .ref m0), (1, .int v1), (2, .int w1), (3, .int m1), (4, .int (nI at_)), (5, .long g), (7, .int (nI q - 1))]) ?_ ((d + 1)) ⟨d + 1, d, (-1 : Int64), z1, z2, z3, z4, z5, rfl, (by omega), (rfl), hP.sub [0] rfl, hD.sub [0] (by decide) rfl, hS, lv_sub hl [3, 4, 5, 6, 2, 1, 0] rfl⟩
          intro n_86 H locs ls ih_86 hI
          obtain ⟨q, at_, g, z1, z2, z3, z4, z5, hn_86, hq, hs, hP, hD, hS, hl⟩ := hI
          refine lv_iload hx hb dX10_kick_86 (lv_at hl 6 rfl) ?_
          refine lv_if_lt (tgt := 126) hx hb dX10_kick_88 (by decide) (fun c_88 => ?_) (fun c_88 => ?_)
          ·
            have c_88 : q = 0 := (m1_lt (by omega)).mp c_88
            refine lv_iload hx hb dX10_kick_126 (lv_at hl 4 rfl) ?_
            have hP9 := hP.sub (ws' := [(m0, .inr (10, [.ref qk, .int (nI d), .int (nI sh), .int (nI low), .int (nI high), .int le, .int mo, .int (nI nb), .ref qp, .ref qr, .ref qc, .ref qm, .ref qb, .int (nI cap), .int 1, .int v1, .int w1, .int m1, .long z1, .long z2, .long z3, .long z4, .long z5, .int (nI sw), .int (nI np), .ref qf, .ref qs, .int (nI fe), .int (nI te), .int (nI kk), .ref qt, .ref qx, .ref qy, .int no, .int nt, .ref qo, .ref qz, .ref qi, .ref qv, .int fd]))]) [0] rfl
            have hD9 := hD.sub (ws' := [(m0, .inr (10, [.ref qk, .int (nI d), .int (nI sh), .int (nI low), .int (nI high), .int le, .int mo, .int (nI nb), .ref qp, .ref qr, .ref qc, .ref qm, .ref qb, .int (nI cap), .int 1, .int v1, .int w1, .int m1, .long z1, .long z2, .long z3, .long z4, .long z5, .int (nI sw), .int (nI np), .ref qf, .ref qs, .int (nI fe), .int (nI te), .int (nI kk), .ref qt, .ref qx, .ref qy, .int no, .int nt, .ref qo, .ref qz, .ref qi, .ref qv, .int fd]))]) [0] (by decide) rfl
            exact W.iret (v := nI at_) hx hb hr (fun t ht hW => ⟨⟨_, (1, v1, w1, m1, z1, z2, z3, z4, z5), rfl, (by unfold aKick sKickM; rw [if_pos ⟨c_9, c_21, c_33⟩, if_neg c_43, if_pos ⟨⟨c_9, c_21, c_33⟩, c_43⟩, wg_init (V := (fun k => gV v1 w1 m1 d k)) (b := d) (gV_nn c_9 c_21 hd), hs, c_88]; exact ⟨rfl, rfl⟩), by rw [ht]; exact hP9, hD9⟩, hS.F ht⟩) hS.2.2 dX10_kick_128
          ·
            have c_88 : 0 < q := Nat.pos_of_ne_zero (fun h => c_88 ((m1_lt (by omega)).mpr h))
            have hl : lv_has ls 8 [(0, .ref m0), (1, .int v1), (2, .int w1), (3, .int m1), (4, .int (nI at_)), (5, .long g), (7, .int (nI (q - 1)))] := by rw [← m1_n c_88]; exact hl
            refine lv_aload_n hx hb dX10_kick_91 rfl (lv_at hl 0 rfl) ?_
            refine lv_iload hx hb dX10_kick_92 (lv_at hl 6 rfl) ?_
            refine lv_iload_n hx hb dX10_kick_94 rfl (lv_at hl 1 rfl) ?_
            refine lv_iload_n hx hb dX10_kick_95 rfl (lv_at hl 2 rfl) ?_
            refine lv_iload_n hx hb dX10_kick_96 rfl (lv_at hl 3 rfl) ?_
            refine w_Vv (wc := [(m0, .inr (10, [.ref qk, .int (nI d), .int (nI sh), .int (nI low), .int (nI high), .int le, .int mo, .int (nI nb), .ref qp, .ref qr, .ref qc, .ref qm, .ref qb, .int (nI cap), .int (1 : Int32), .int v1, .int w1, .int m1, .long z1, .long z2, .long z3, .long z4, .long z5, .int (nI sw), .int (nI np), .ref qf, .ref qs, .int (nI fe), .int (nI te), .int (nI kk), .ref qt, .ref qx, .ref qy, .int no, .int nt, .ref qo, .ref qz, .ref qi, .ref qv, .int fd]))]) (wr := []) (b := m0) ⟨hx, hb, hml, hown, hts⟩ [.int (nI (q - 1)), .int v1, .int w1, .int m1] [] (c_X10_look  (by first | assumption | omega) (by first | assumption | omega) (by first | assumption | omega) (by first | assumption | omega) (by first | assumption | omega)) (cwV 4 hts gX10_kick_X10_look rfl rfl rfl (by decide +kernel) ⟨Nat.le_of_ble_eq_true rfl, Nat.le_of_ble_eq_true rfl⟩) hK hN hP hD hS hA [0] [] rfl (by decide) rfl (by decide) (by decide) (ci := 10) rfl rfl rfl rfl hl.1 rfl (Nat.le_of_ble_eq_true rfl) dX10_kick_97 ⟨Nat.zero_le _, Nat.zero_le _⟩ (fun u H locs hw hP hD hS => ?_)
            have hP : va_P D vwCl [(m0, .inr (10, [.ref qk, .int (nI d), .int (nI sh), .int (nI low), .int (nI high), .int le, .int mo, .int (nI nb), .ref qp, .ref qr, .ref qc, .ref qm, .ref qb, .int (nI cap), .int (1 : Int32), .int v1, .int w1, .int m1, .long (gG w1 m1 d (q - 1)), .long (gV v1 w1 m1 d (q - 1)), .long (gH v1 w1 m1 d cap (q - 1)), .long (gC v1 w1 m1 d cap (q - 1)), .long (gA v1 w1 m1 d cap sh (q - 1)), .int (nI sw), .int (nI np), .ref qf, .ref qs, .int (nI fe), .int (nI te), .int (nI kk), .ref qt, .ref qx, .ref qy, .int no, .int nt, .ref qo, .ref qz, .ref qi, .ref qv, .int fd]))] H := hP
            have hD : va_D A [(m0, .inr (10, [.ref qk, .int (nI d), .int (nI sh), .int (nI low), .int (nI high), .int le, .int mo, .int (nI nb), .ref qp, .ref qr, .ref qc, .ref qm, .ref qb, .int (nI cap), .int (1 : Int32), .int v1, .int w1, .int m1, .long (gG w1 m1 d (q - 1)), .long (gV v1 w1 m1 d (q - 1)), .long (gH v1 w1 m1 d cap (q - 1)), .long (gC v1 w1 m1 d cap (q - 1)), .long (gA v1 w1 m1 d cap sh (q - 1)), .int (nI sw), .int (nI np), .ref qf, .ref qs, .int (nI fe), .int (nI te), .int (nI kk), .ref qt, .ref qx, .ref qy, .int no, .int nt, .ref qo, .ref qz, .ref qi, .ref qv, .int fd]))] := hD
            refine lv_aload_n hx hb dX10_kick_100 rfl (lv_at hl 0 rfl) ?_
            refine va_get (D := D) (ci := 10) (v := .long (gV v1 w1 m1 d (q - 1))) (C := RX10) (T := TX10) (N := 40) hx hb hts iX10 hown hK hP 0 rfl rfl 19 (by decide) (hts (.fieldLink RX10 121 "DeepHoleModel" "swelled" "J") (by decide +kernel)) (fun _ h9 => h9) rfl dX10_kick_101 ?_
            refine lv_lload hx hb dX10_kick_104 (lv_at hl 5 rfl) ?_
            refine W.lcmp hx hb dX10_kick_106 ?_
            refine lv_if_le (tgt := 120) hx hb dX10_kick_107 (by decide) (fun c_107 => ?_) (fun c_107 => ?_)
            ·
              have c_107 := (lg_cmp_le _ _).mp c_107
              refine lv_iinc (v := nI (q - 1) - 1) (lv' := [(7, .int (nI (q - 1) - 1)), (0, .ref m0), (1, .int v1), (2, .int w1), (3, .int m1), (4, .int (nI at_)), (5, .long g)]) hx hb dX10_kick_120 hl (k := 6) rfl m1_m (by decide) rfl (fun ls hl => ?_)
              refine lv_goto (tgt := 86) hx hb dX10_kick_123 (by decide) ?_
              exact ih_86 _ _ _ _ (by omega) ⟨q - 1, at_, g, gG w1 m1 d (q - 1), gV v1 w1 m1 d (q - 1), gH v1 w1 m1 d cap (q - 1), gC v1 w1 m1 d cap (q - 1), gA v1 w1 m1 d cap sh (q - 1), rfl, (by omega), (by rw [hs]; first | exact wg_yes (V := (fun k => gV v1 w1 m1 d k)) c_88 (Classical.byContradiction fun h => c_107 (by rw [l_lt] at h; rw [l_le]; omega)) | exact wg_no (V := (fun k => gV v1 w1 m1 d k)) c_88 (fun h => by rw [l_le] at c_107; rw [l_lt] at h; omega)), hP.sub [0] rfl, hD.sub [0] (by decide) rfl, hS, lv_sub hl [1, 2, 3, 4, 5, 6, 0] rfl⟩
            ·
              have c_107 := fun h => c_107 ((lg_cmp_le _ _).mpr h)
              refine lv_aload_n hx hb dX10_kick_110 rfl (lv_at hl 0 rfl) ?_
              refine va_get (D := D) (ci := 10) (v := .long (gV v1 w1 m1 d (q - 1))) (C := RX10) (T := TX10) (N := 40) hx hb hts iX10 hown hK hP 0 rfl rfl 19 (by decide) (hts (.fieldLink RX10 121 "DeepHoleModel" "swelled" "J") (by decide +kernel)) (fun _ h9 => h9) rfl dX10_kick_111 ?_
              refine lv_lstore (lv' := [(5, .long (gV v1 w1 m1 d (q - 1))), (0, .ref m0), (1, .int v1), (2, .int w1), (3, .int m1), (4, .int (nI at_)), (7, .int (nI (q - 1)))]) hx hb dX10_kick_114 hl (by decide) rfl (fun ls hl => ?_)
              refine lv_iload hx hb dX10_kick_116 (lv_at hl 6 rfl) ?_
              refine lv_istore (lv' := [(4, .int (nI (q - 1))), (5, .long (gV v1 w1 m1 d (q - 1))), (0, .ref m0), (1, .int v1), (2, .int w1), (3, .int m1), (7, .int (nI (q - 1)))]) hx hb dX10_kick_118 hl (by decide) rfl (fun ls hl => ?_)
              refine lv_iinc (v := nI (q - 1) - 1) (lv' := [(7, .int (nI (q - 1) - 1)), (4, .int (nI (q - 1))), (5, .long (gV v1 w1 m1 d (q - 1))), (0, .ref m0), (1, .int v1), (2, .int w1), (3, .int m1)]) hx hb dX10_kick_120 hl (k := 6) rfl m1_m (by decide) rfl (fun ls hl => ?_)
              refine lv_goto (tgt := 86) hx hb dX10_kick_123 (by decide) ?_
              exact ih_86 _ _ _ _ (by omega) ⟨q - 1, q - 1, gV v1 w1 m1 d (q - 1), gG w1 m1 d (q - 1), gV v1 w1 m1 d (q - 1), gH v1 w1 m1 d cap (q - 1), gC v1 w1 m1 d cap (q - 1), gA v1 w1 m1 d cap sh (q - 1), rfl, (by omega), (by rw [hs]; first | exact wg_yes (V := (fun k => gV v1 w1 m1 d k)) c_88 (Classical.byContradiction fun h => c_107 (by rw [l_lt] at h; rw [l_le]; omega)) | exact wg_no (V := (fun k => gV v1 w1 m1 d k)) c_88 (fun h => by rw [l_le] at c_107; rw [l_lt] at h; omega)), hP.sub [0] rfl, hD.sub [0] (by decide) rfl, hS, lv_sub hl [3, 4, 5, 6, 1, 2, 0] rfl⟩
        ·
          have c_43 := n_eq (a := d) (b := 0) c_43 (by omega) (by omega)
          refine lv_bipush (v := (-3)) hx hb dX10_kick_46 (by decide) ?_
          have hP9 := hP.sub (ws' := [(m0, .inr (10, [.ref qk, .int (nI d), .int (nI sh), .int (nI low), .int (nI high), .int le, .int mo, .int (nI nb), .ref qp, .ref qr, .ref qc, .ref qm, .ref qb, .int (nI cap), .int kd, .int am, .int wt, .int md, .long z1, .long z2, .long z3, .long z4, .long z5, .int (nI sw), .int (nI np), .ref qf, .ref qs, .int (nI fe), .int (nI te), .int (nI kk), .ref qt, .ref qx, .ref qy, .int no, .int nt, .ref qo, .ref qz, .ref qi, .ref qv, .int fd]))]) [0] rfl
          have hD9 := hD.sub (ws' := [(m0, .inr (10, [.ref qk, .int (nI d), .int (nI sh), .int (nI low), .int (nI high), .int le, .int mo, .int (nI nb), .ref qp, .ref qr, .ref qc, .ref qm, .ref qb, .int (nI cap), .int kd, .int am, .int wt, .int md, .long z1, .long z2, .long z3, .long z4, .long z5, .int (nI sw), .int (nI np), .ref qf, .ref qs, .int (nI fe), .int (nI te), .int (nI kk), .ref qt, .ref qx, .ref qy, .int no, .int nt, .ref qo, .ref qz, .ref qi, .ref qv, .int fd]))]) [0] (by decide) rfl
          exact W.iret (v := (-3)) hx hb hr (fun t ht hW => ⟨⟨_, (kd, am, wt, md, z1, z2, z3, z4, z5), rfl, (by unfold aKick sKickM; rw [if_pos ⟨c_9, c_21, c_33⟩, if_pos c_43, if_neg (fun h => h.2 c_43)]; exact ⟨rfl, rfl⟩), by rw [ht]; exact hP9, hD9⟩, hS.F ht⟩) hS.2.2 dX10_kick_48
      ·
        have c_33 := bz c_33
        refine lv_bipush (v := (-2)) hx hb dX10_kick_36 (by decide) ?_
        have hP9 := hP.sub (ws' := [(m0, .inr (10, [.ref qk, .int (nI d), .int (nI sh), .int (nI low), .int (nI high), .int le, .int mo, .int (nI nb), .ref qp, .ref qr, .ref qc, .ref qm, .ref qb, .int (nI cap), .int kd, .int am, .int wt, .int md, .long z1, .long z2, .long z3, .long z4, .long z5, .int (nI sw), .int (nI np), .ref qf, .ref qs, .int (nI fe), .int (nI te), .int (nI kk), .ref qt, .ref qx, .ref qy, .int no, .int nt, .ref qo, .ref qz, .ref qi, .ref qv, .int fd]))]) [0] rfl
        have hD9 := hD.sub (ws' := [(m0, .inr (10, [.ref qk, .int (nI d), .int (nI sh), .int (nI low), .int (nI high), .int le, .int mo, .int (nI nb), .ref qp, .ref qr, .ref qc, .ref qm, .ref qb, .int (nI cap), .int kd, .int am, .int wt, .int md, .long z1, .long z2, .long z3, .long z4, .long z5, .int (nI sw), .int (nI np), .ref qf, .ref qs, .int (nI fe), .int (nI te), .int (nI kk), .ref qt, .ref qx, .ref qy, .int no, .int nt, .ref qo, .ref qz, .ref qi, .ref qv, .int fd]))]) [0] (by decide) rfl
        exact W.iret (v := (-2)) hx hb hr (fun t ht hW => ⟨⟨_, (kd, am, wt, md, z1, z2, z3, z4, z5), rfl, (by unfold aKick sKickM; first | rw [if_neg (fun h => c_9 h.1), if_neg (fun h => c_9 h.1.1)]; exact ⟨rfl, rfl⟩ | rw [if_neg (fun h => c_21 h.2.1), if_neg (fun h => c_21 h.1.2.1)]; exact ⟨rfl, rfl⟩ | rw [if_neg (fun h => c_33 h.2.2), if_neg (fun h => c_33 h.1.2.2)]; exact ⟨rfl, rfl⟩), by rw [ht]; exact hP9, hD9⟩, hS.F ht⟩) hS.2.2 dX10_kick_38

set_option maxHeartbeats 4000000 in
set_option maxRecDepth 100000 in
theorem c_X10_gas {l : Launch} {D : va_G} {cI cS cP : ClassId} {sz : Nat} {m0 qk qp qr qc qm qb qf qs qt qx qy qo qz qi qv : Nat} {d sh low high nb cap sw np fe te kk : Nat} {le mo kd am wt md no nt fd : Int32} {z1 z2 z3 z4 z5 : Int64} {fmf szf imf : Nat → Int32} {n1 : Nat} {it1 : Nat → Int32} {p1 wh_ : Int32} (hd : d ≤ 50) (hsh : sh ≤ d) (hc1 : 1 ≤ cap) (hc2 : cap ≤ 1000) (hn1 : n1 ≤ 60) (hG1 : gREL fmf szf imf 1 n1 it1) (hkd : ¬ kd = 0 ↔ 0 < am) : Met l yX10_gas wsX10_gas ({ frames := 3, cells := 0, slots := 0, locals := 69 }) (PC D (TY cI cS cP) [.ref m0, .int p1, .int wh_] sz [(m0, .inr (10, [.ref qk, .int (nI d), .int (nI sh), .int (nI low), .int (nI high), .int le, .int mo, .int (nI nb), .ref qp, .ref qr, .ref qc, .ref qm, .ref qb, .int (nI cap), .int kd, .int am, .int wt, .int md, .long z1, .long z2, .long z3, .long z4, .long z5, .int (nI sw), .int (nI np), .ref qf, .ref qs, .int (nI fe), .int (nI te), .int (nI kk), .ref qt, .ref qx, .ref qy, .int no, .int nt, .ref qo, .ref qz, .ref qi, .ref qv, .int fd])), (qo, .inl (cI, 4, .inl fmf)), (qz, .inl (cI, 4, .inl szf)), (qi, .inl (cI, 240, .inl imf))]) (QL D (fun (r : Int64) (u : Int64 × Int64 × Int64 × Int64 × Int64) => r = aGas am wt md d cap sh (strg it1 n1 sh) p1 wh_) (fun (u : Int64 × Int64 × Int64 × Int64 × Int64) => [(m0, .inr (10, [.ref qk, .int (nI d), .int (nI sh), .int (nI low), .int (nI high), .int le, .int mo, .int (nI nb), .ref qp, .ref qr, .ref qc, .ref qm, .ref qb, .int (nI cap), .int kd, .int am, .int wt, .int md, .long u.1, .long u.2.1, .long u.2.2.1, .long u.2.2.2.1, .long u.2.2.2.2, .int (nI sw), .int (nI np), .ref qf, .ref qs, .int (nI fe), .int (nI te), .int (nI kk), .ref qt, .ref qx, .ref qy, .int no, .int nt, .ref qo, .ref qz, .ref qi, .ref qv, .int fd])), (qo, .inl (cI, 4, .inl fmf)), (qz, .inl (cI, 4, .inl szf)), (qi, .inl (cI, 240, .inl imf))]) (va_A [(m0, .inr (10, [.ref qk, .int (nI d), .int (nI sh), .int (nI low), .int (nI high), .int le, .int mo, .int (nI nb), .ref qp, .ref qr, .ref qc, .ref qm, .ref qb, .int (nI cap), .int kd, .int am, .int wt, .int md, .long z1, .long z2, .long z3, .long z4, .long z5, .int (nI sw), .int (nI np), .ref qf, .ref qs, .int (nI fe), .int (nI te), .int (nI kk), .ref qt, .ref qx, .ref qy, .int no, .int nt, .ref qo, .ref qz, .ref qi, .ref qv, .int fd])), (qo, .inl (cI, 4, .inl fmf)), (qz, .inl (cI, 4, .inl szf)), (qi, .inl (cI, 240, .inl imf))] sz)) 0 0 (va_A [(m0, .inr (10, [.ref qk, .int (nI d), .int (nI sh), .int (nI low), .int (nI high), .int le, .int mo, .int (nI nb), .ref qp, .ref qr, .ref qc, .ref qm, .ref qb, .int (nI cap), .int kd, .int am, .int wt, .int md, .long z1, .long z2, .long z3, .long z4, .long z5, .int (nI sw), .int (nI np), .ref qf, .ref qs, .int (nI fe), .int (nI te), .int (nI kk), .ref qt, .ref qx, .ref qy, .int no, .int nt, .ref qo, .ref qz, .ref qi, .ref qv, .int fd])), (qo, .inl (cI, 4, .inl fmf)), (qz, .inl (cI, 4, .inl szf)), (qi, .inl (cI, 240, .inl imf))] sz) := by
  refine Met.ofW (cc := cX10_gas) (maxL := 3) (ret := (some .long)) (by decide) rfl ?_
  intro p e s m args below meth c s₁ B hml hv
  obtain ⟨rfl, hsz, hP, hK, hD0, hN⟩ := hv
  have hx := B.exec
  have hb := B.bytes
  have hr := B.returns
  have hts := atoms_spec (ws := wsX10_gas) B.pre
  have hown : s.vm.findClass RX10 = some m.cls := findClass_of_methodNamed B.named
  have hlocks := B.notSynchronized
  subst hsz
  have iX10 : ∀ w ∈ u_ws RX10 TX10 40, w ∈ wsX10_gas := by decide +kernel
  have hD := hD0.self (sz := s.heap.size)
  generalize hAe : va_A [(m0, .inr (10, [.ref qk, .int (nI d), .int (nI sh), .int (nI low), .int (nI high), .int le, .int mo, .int (nI nb), .ref qp, .ref qr, .ref qc, .ref qm, .ref qb, .int (nI cap), .int kd, .int am, .int wt, .int md, .long z1, .long z2, .long z3, .long z4, .long z5, .int (nI sw), .int (nI np), .ref qf, .ref qs, .int (nI fe), .int (nI te), .int (nI kk), .ref qt, .ref qx, .ref qy, .int no, .int nt, .ref qo, .ref qz, .ref qi, .ref qv, .int fd])), (qo, .inl (cI, 4, .inl fmf)), (qz, .inl (cI, 4, .inl szf)), (qi, .inl (cI, 240, .inl imf))] s.heap.size = A at hD ⊢
  have hA : ∀ q : Nat, s.heap.size ≤ q → A q := fun q h => by rw [← hAe]; exact Or.inr h
  have hS : va_S A s.heap s.heap [] := va_S.rf
  have hP : va_P D vwCl [(m0, .inr (10, [.ref qk, .int (nI d), .int (nI sh), .int (nI low), .int (nI high), .int le, .int mo, .int (nI nb), .ref qp, .ref qr, .ref qc, .ref qm, .ref qb, .int (nI cap), .int kd, .int am, .int wt, .int md, .long z1, .long z2, .long z3, .long z4, .long z5, .int (nI sw), .int (nI np), .ref qf, .ref qs, .int (nI fe), .int (nI te), .int (nI kk), .ref qt, .ref qx, .ref qy, .int no, .int nt, .ref qo, .ref qz, .ref qi, .ref qv, .int fd])), (qo, .inl (cI, 4, .inl fmf)), (qz, .inl (cI, 4, .inl szf)), (qi, .inl (cI, 240, .inl imf))] s.heap := hP
  have hl := lv_entry ([.ref m0, .int p1, .int wh_]) (n := 3) (Nat.le_of_ble_eq_true rfl)
  rw [lg_entry_eq]
  generalize (lg_sl ([.ref m0, .int p1, .int wh_]) ++ List.replicate (3 - (lg_sl ([.ref m0, .int p1, .int wh_])).length) Slot.unset).toArray = ls at hl ⊢
  have hl : lv_has ls 3 [(0, .ref m0), (1, .int p1), (2, .int wh_)] := hl
  refine lv_iload_n hx hb dX10_gas_0 rfl (lv_at hl 1 rfl) ?_
  refine lv_i2l (v := p1.toInt64) hx hb dX10_gas_1 rfl ?_
  refine lv_lconst (v := 0) hx hb dX10_gas_2 (by decide) ?_
  refine lv_aload_n hx hb dX10_gas_3 rfl (lv_at hl 0 rfl) ?_
  refine va_get (D := D) (ci := 10) (v := .int (nI d)) (C := RX10) (T := TX10) (N := 40) hx hb hts iX10 hown hK hP 0 rfl rfl 1 (by decide) (hts (.fieldLink RX10 73 "DeepHoleModel" "depth" "I") (by decide +kernel)) (fun _ h9 => h9) rfl dX10_gas_4 ?_
  refine lv_i2l (v := (nI d).toInt64) hx hb dX10_gas_7 rfl ?_
  refine q_S (tys := TY cI cS cP) (D := D) ⟨hx, hb, hml, hown, hts⟩ [.long p1.toInt64, .long ((0 : Int32).toInt64), .long ((nI d).toInt64)] [] c_X10_in (va_cwS 3 hts gX10_gas_X10_in rfl rfl rfl (by decide +kernel) ⟨Nat.le_of_ble_eq_true rfl, Nat.le_of_ble_eq_true rfl⟩) hK hN rfl hl.1 rfl (Nat.le_of_ble_eq_true rfl) dX10_gas_8 ⟨Nat.zero_le _, Nat.zero_le _⟩ (fun r hw => ?_)
  subst hw
  refine lv_if_eq (tgt := 26) hx hb dX10_gas_11 (by decide) (fun c_11 => ?_) (fun c_11 => ?_)
  ·
    have c_11 := bz c_11
    refine lv_bipush (v := (-2)) hx hb dX10_gas_26 (by decide) ?_
    refine q_Sl (tys := TY cI cS cP) (D := D) ⟨hx, hb, hml, hown, hts⟩ [.int (-2 : Int32)] [] c_X10_no (va_cwS 1 hts gX10_gas_X10_no rfl rfl rfl (by decide +kernel) ⟨Nat.le_of_ble_eq_true rfl, Nat.le_of_ble_eq_true rfl⟩) hK hN rfl hl.1 rfl (Nat.le_of_ble_eq_true rfl) dX10_gas_28 ⟨Nat.zero_le _, Nat.zero_le _⟩ (fun r hw => ?_)
    subst hw
    have hP9 := hP.sub (ws' := [(m0, .inr (10, [.ref qk, .int (nI d), .int (nI sh), .int (nI low), .int (nI high), .int le, .int mo, .int (nI nb), .ref qp, .ref qr, .ref qc, .ref qm, .ref qb, .int (nI cap), .int kd, .int am, .int wt, .int md, .long z1, .long z2, .long z3, .long z4, .long z5, .int (nI sw), .int (nI np), .ref qf, .ref qs, .int (nI fe), .int (nI te), .int (nI kk), .ref qt, .ref qx, .ref qy, .int no, .int nt, .ref qo, .ref qz, .ref qi, .ref qv, .int fd])), (qo, .inl (cI, 4, .inl fmf)), (qz, .inl (cI, 4, .inl szf)), (qi, .inl (cI, 240, .inl imf))]) [0, 1, 2, 3] rfl
    have hD9 := hD.sub (ws' := [(m0, .inr (10, [.ref qk, .int (nI d), .int (nI sh), .int (nI low), .int (nI high), .int le, .int mo, .int (nI nb), .ref qp, .ref qr, .ref qc, .ref qm, .ref qb, .int (nI cap), .int kd, .int am, .int wt, .int md, .long z1, .long z2, .long z3, .long z4, .long z5, .int (nI sw), .int (nI np), .ref qf, .ref qs, .int (nI fe), .int (nI te), .int (nI kk), .ref qt, .ref qx, .ref qy, .int no, .int nt, .ref qo, .ref qz, .ref qi, .ref qv, .int fd])), (qo, .inl (cI, 4, .inl fmf)), (qz, .inl (cI, 4, .inl szf)), (qi, .inl (cI, 240, .inl imf))]) [0, 1, 2, 3] (by decide) rfl
    exact W.lret (v := (-9223372036854775808) - (-2 : Int32).toInt64) hx hb hr (fun t ht hW => ⟨⟨_, (z1, z2, z3, z4, z5), rfl, (by unfold aGas; first | rw [if_neg (fun h => c_11 h.1)] | rw [if_neg (fun h => c_23 h.2)]), by rw [ht]; exact hP9, hD9⟩, hS.F ht⟩) hS.2.2 dX10_gas_31
  ·
    have c_11 := bnz c_11
    refine lv_iload_n hx hb dX10_gas_14 rfl (lv_at hl 2 rfl) ?_
    refine lv_i2l (v := wh_.toInt64) hx hb dX10_gas_15 rfl ?_
    refine lv_lconst (v := 0) hx hb dX10_gas_16 (by decide) ?_
    refine lv_ldc2 hx hb hown (hts (.constantLong RX10 152 (5)) (by decide +kernel)) dX10_gas_17 ?_
    refine q_S (tys := TY cI cS cP) (D := D) ⟨hx, hb, hml, hown, hts⟩ [.long wh_.toInt64, .long ((0 : Int32).toInt64), .long ((5 : Int32).toInt64)] [] c_X10_in (va_cwS 3 hts gX10_gas_X10_in rfl rfl rfl (by decide +kernel) ⟨Nat.le_of_ble_eq_true rfl, Nat.le_of_ble_eq_true rfl⟩) hK hN rfl hl.1 rfl (Nat.le_of_ble_eq_true rfl) dX10_gas_20 ⟨Nat.zero_le _, Nat.zero_le _⟩ (fun r hw => ?_)
    subst hw
    refine lv_if_ne (tgt := 32) hx hb dX10_gas_23 (by decide) (fun c_23 => ?_) (fun c_23 => ?_)
    ·
      have c_23 := bnz c_23
      obtain ⟨pp, hpp, rfl⟩ := nat_of (hi := nI d) (n := d) (nI_toInt (by omega)) c_11
      refine lv_aload_n hx hb dX10_gas_32 rfl (lv_at hl 0 rfl) ?_
      refine va_get (D := D) (ci := 10) (v := .int kd) (C := RX10) (T := TX10) (N := 40) hx hb hts iX10 hown hK hP 0 rfl rfl 14 (by decide) (hts (.fieldLink RX10 133 "DeepHoleModel" "kicked" "Z") (by decide +kernel)) (fun _ h9 => h9) rfl dX10_gas_33 ?_
      refine lv_if_ne (tgt := 45) hx hb dX10_gas_36 (by decide) (fun c_36 => ?_) (fun c_36 => ?_)
      ·
        refine lv_aload_n hx hb dX10_gas_45 rfl (lv_at hl 0 rfl) ?_
        refine lv_iload_n hx hb dX10_gas_46 rfl (lv_at hl 1 rfl) ?_
        refine lv_aload_n hx hb dX10_gas_47 rfl (lv_at hl 0 rfl) ?_
        refine va_get (D := D) (ci := 10) (v := .int am) (C := RX10) (T := TX10) (N := 40) hx hb hts iX10 hown hK hP 0 rfl rfl 15 (by decide) (hts (.fieldLink RX10 137 "DeepHoleModel" "volume" "I") (by decide +kernel)) (fun _ h9 => h9) rfl dX10_gas_48 ?_
        refine lv_aload_n hx hb dX10_gas_51 rfl (lv_at hl 0 rfl) ?_
        refine va_get (D := D) (ci := 10) (v := .int wt) (C := RX10) (T := TX10) (N := 40) hx hb hts iX10 hown hK hP 0 rfl rfl 16 (by decide) (hts (.fieldLink RX10 140 "DeepHoleModel" "weight" "I") (by decide +kernel)) (fun _ h9 => h9) rfl dX10_gas_52 ?_
        refine lv_aload_n hx hb dX10_gas_55 rfl (lv_at hl 0 rfl) ?_
        refine va_get (D := D) (ci := 10) (v := .int md) (C := RX10) (T := TX10) (N := 40) hx hb hts iX10 hown hK hP 0 rfl rfl 17 (by decide) (hts (.fieldLink RX10 143 "DeepHoleModel" "mud" "I") (by decide +kernel)) (fun _ h9 => h9) rfl dX10_gas_56 ?_
        refine w_Vv (wc := [(m0, .inr (10, [.ref qk, .int (nI d), .int (nI sh), .int (nI low), .int (nI high), .int le, .int mo, .int (nI nb), .ref qp, .ref qr, .ref qc, .ref qm, .ref qb, .int (nI cap), .int kd, .int am, .int wt, .int md, .long z1, .long z2, .long z3, .long z4, .long z5, .int (nI sw), .int (nI np), .ref qf, .ref qs, .int (nI fe), .int (nI te), .int (nI kk), .ref qt, .ref qx, .ref qy, .int no, .int nt, .ref qo, .ref qz, .ref qi, .ref qv, .int fd]))]) (wr := [(qo, .inl (cI, 4, .inl fmf)), (qz, .inl (cI, 4, .inl szf)), (qi, .inl (cI, 240, .inl imf))]) (b := m0) ⟨hx, hb, hml, hown, hts⟩ [.int (nI pp), .int am, .int wt, .int md] [] (c_X10_look  (by first | assumption | omega) (by first | assumption | omega) (by first | assumption | omega) (by first | assumption | omega) (by first | assumption | omega)) (cwV 4 hts gX10_gas_X10_look rfl rfl rfl (by decide +kernel) ⟨Nat.le_of_ble_eq_true rfl, Nat.le_of_ble_eq_true rfl⟩) hK hN hP hD hS hA [0] [1, 2, 3] rfl (by decide) rfl (by decide) (by decide) (ci := 10) rfl rfl rfl rfl hl.1 rfl (Nat.le_of_ble_eq_true rfl) dX10_gas_59 ⟨Nat.zero_le _, Nat.zero_le _⟩ (fun u H locs hw hP hD hS => ?_)
        have hP : va_P D vwCl [(qo, .inl (cI, 4, .inl fmf)), (qz, .inl (cI, 4, .inl szf)), (qi, .inl (cI, 240, .inl imf)), (m0, .inr (10, [.ref qk, .int (nI d), .int (nI sh), .int (nI low), .int (nI high), .int le, .int mo, .int (nI nb), .ref qp, .ref qr, .ref qc, .ref qm, .ref qb, .int (nI cap), .int kd, .int am, .int wt, .int md, .long (gG wt md d pp), .long (gV am wt md d pp), .long (gH am wt md d cap pp), .long (gC am wt md d cap pp), .long (gA am wt md d cap sh pp), .int (nI sw), .int (nI np), .ref qf, .ref qs, .int (nI fe), .int (nI te), .int (nI kk), .ref qt, .ref qx, .ref qy, .int no, .int nt, .ref qo, .ref qz, .ref qi, .ref qv, .int fd]))] H := hP
        have hD : va_D A [(qo, .inl (cI, 4, .inl fmf)), (qz, .inl (cI, 4, .inl szf)), (qi, .inl (cI, 240, .inl imf)), (m0, .inr (10, [.ref qk, .int (nI d), .int (nI sh), .int (nI low), .int (nI high), .int le, .int mo, .int (nI nb), .ref qp, .ref qr, .ref qc, .ref qm, .ref qb, .int (nI cap), .int kd, .int am, .int wt, .int md, .long (gG wt md d pp), .long (gV am wt md d pp), .long (gH am wt md d cap pp), .long (gC am wt md d cap pp), .long (gA am wt md d cap sh pp), .int (nI sw), .int (nI np), .ref qf, .ref qs, .int (nI fe), .int (nI te), .int (nI kk), .ref qt, .ref qx, .ref qy, .int no, .int nt, .ref qo, .ref qz, .ref qi, .ref qv, .int fd]))] := hD
        refine lv_iload_n hx hb dX10_gas_62 rfl (lv_at hl 2 rfl) ?_
        rcases sw5 wh_ with c_63 | c_63 | c_63 | c_63 | c_63 | c_63
        ·
          refine lv_tableIn (tgt := 96) (off := 33) hx hb dX10_gas_63 (by rw [c_63]; decide) (by rw [c_63]; decide) (by rw [c_63]; rfl) (by decide) ?_
          refine lv_aload_n hx hb dX10_gas_96 rfl (lv_at hl 0 rfl) ?_
          refine va_get (D := D) (ci := 10) (v := .long (gG wt md d pp)) (C := RX10) (T := TX10) (N := 40) hx hb hts iX10 hown hK hP 3 rfl rfl 18 (by decide) (hts (.fieldLink RX10 117 "DeepHoleModel" "g" "J") (by decide +kernel)) (fun _ h9 => h9) rfl dX10_gas_97 ?_
          have hP9 := hP.sub (ws' := [(m0, .inr (10, [.ref qk, .int (nI d), .int (nI sh), .int (nI low), .int (nI high), .int le, .int mo, .int (nI nb), .ref qp, .ref qr, .ref qc, .ref qm, .ref qb, .int (nI cap), .int kd, .int am, .int wt, .int md, .long (gG wt md d pp), .long (gV am wt md d pp), .long (gH am wt md d cap pp), .long (gC am wt md d cap pp), .long (gA am wt md d cap sh pp), .int (nI sw), .int (nI np), .ref qf, .ref qs, .int (nI fe), .int (nI te), .int (nI kk), .ref qt, .ref qx, .ref qy, .int no, .int nt, .ref qo, .ref qz, .ref qi, .ref qv, .int fd])), (qo, .inl (cI, 4, .inl fmf)), (qz, .inl (cI, 4, .inl szf)), (qi, .inl (cI, 240, .inl imf))]) [3, 0, 1, 2] rfl
          have hD9 := hD.sub (ws' := [(m0, .inr (10, [.ref qk, .int (nI d), .int (nI sh), .int (nI low), .int (nI high), .int le, .int mo, .int (nI nb), .ref qp, .ref qr, .ref qc, .ref qm, .ref qb, .int (nI cap), .int kd, .int am, .int wt, .int md, .long (gG wt md d pp), .long (gV am wt md d pp), .long (gH am wt md d cap pp), .long (gC am wt md d cap pp), .long (gA am wt md d cap sh pp), .int (nI sw), .int (nI np), .ref qf, .ref qs, .int (nI fe), .int (nI te), .int (nI kk), .ref qt, .ref qx, .ref qy, .int no, .int nt, .ref qo, .ref qz, .ref qi, .ref qv, .int fd])), (qo, .inl (cI, 4, .inl fmf)), (qz, .inl (cI, 4, .inl szf)), (qi, .inl (cI, 240, .inl imf))]) [3, 0, 1, 2] (by decide) rfl
          exact W.lret (v := gG wt md d pp) hx hb hr (fun t ht hW => ⟨⟨_, (gG wt md d pp, gV am wt md d pp, gH am wt md d cap pp, gC am wt md d cap pp, gA am wt md d cap sh pp), rfl, (by unfold aGas; rw [if_pos ⟨c_11, c_23⟩, if_pos (hkd.mp c_36), nI_clamp (by omega)]; rw [c_63]; rfl), by rw [ht]; exact hP9, hD9⟩, hS.F ht⟩) hS.2.2 dX10_gas_100
        ·
          refine lv_tableIn (tgt := 101) (off := 38) hx hb dX10_gas_63 (by rw [c_63]; decide) (by rw [c_63]; decide) (by rw [c_63]; rfl) (by decide) ?_
          refine lv_aload_n hx hb dX10_gas_101 rfl (lv_at hl 0 rfl) ?_
          refine va_get (D := D) (ci := 10) (v := .long (gV am wt md d pp)) (C := RX10) (T := TX10) (N := 40) hx hb hts iX10 hown hK hP 3 rfl rfl 19 (by decide) (hts (.fieldLink RX10 121 "DeepHoleModel" "swelled" "J") (by decide +kernel)) (fun _ h9 => h9) rfl dX10_gas_102 ?_
          have hP9 := hP.sub (ws' := [(m0, .inr (10, [.ref qk, .int (nI d), .int (nI sh), .int (nI low), .int (nI high), .int le, .int mo, .int (nI nb), .ref qp, .ref qr, .ref qc, .ref qm, .ref qb, .int (nI cap), .int kd, .int am, .int wt, .int md, .long (gG wt md d pp), .long (gV am wt md d pp), .long (gH am wt md d cap pp), .long (gC am wt md d cap pp), .long (gA am wt md d cap sh pp), .int (nI sw), .int (nI np), .ref qf, .ref qs, .int (nI fe), .int (nI te), .int (nI kk), .ref qt, .ref qx, .ref qy, .int no, .int nt, .ref qo, .ref qz, .ref qi, .ref qv, .int fd])), (qo, .inl (cI, 4, .inl fmf)), (qz, .inl (cI, 4, .inl szf)), (qi, .inl (cI, 240, .inl imf))]) [3, 0, 1, 2] rfl
          have hD9 := hD.sub (ws' := [(m0, .inr (10, [.ref qk, .int (nI d), .int (nI sh), .int (nI low), .int (nI high), .int le, .int mo, .int (nI nb), .ref qp, .ref qr, .ref qc, .ref qm, .ref qb, .int (nI cap), .int kd, .int am, .int wt, .int md, .long (gG wt md d pp), .long (gV am wt md d pp), .long (gH am wt md d cap pp), .long (gC am wt md d cap pp), .long (gA am wt md d cap sh pp), .int (nI sw), .int (nI np), .ref qf, .ref qs, .int (nI fe), .int (nI te), .int (nI kk), .ref qt, .ref qx, .ref qy, .int no, .int nt, .ref qo, .ref qz, .ref qi, .ref qv, .int fd])), (qo, .inl (cI, 4, .inl fmf)), (qz, .inl (cI, 4, .inl szf)), (qi, .inl (cI, 240, .inl imf))]) [3, 0, 1, 2] (by decide) rfl
          exact W.lret (v := gV am wt md d pp) hx hb hr (fun t ht hW => ⟨⟨_, (gG wt md d pp, gV am wt md d pp, gH am wt md d cap pp, gC am wt md d cap pp, gA am wt md d cap sh pp), rfl, (by unfold aGas; rw [if_pos ⟨c_11, c_23⟩, if_pos (hkd.mp c_36), nI_clamp (by omega)]; rw [c_63]; rfl), by rw [ht]; exact hP9, hD9⟩, hS.F ht⟩) hS.2.2 dX10_gas_105
        ·
          refine lv_tableIn (tgt := 106) (off := 43) hx hb dX10_gas_63 (by rw [c_63]; decide) (by rw [c_63]; decide) (by rw [c_63]; rfl) (by decide) ?_
          refine lv_aload_n hx hb dX10_gas_106 rfl (lv_at hl 0 rfl) ?_
          refine va_get (D := D) (ci := 10) (v := .long (gH am wt md d cap pp)) (C := RX10) (T := TX10) (N := 40) hx hb hts iX10 hown hK hP 3 rfl rfl 20 (by decide) (hts (.fieldLink RX10 124 "DeepHoleModel" "height" "J") (by decide +kernel)) (fun _ h9 => h9) rfl dX10_gas_107 ?_
          have hP9 := hP.sub (ws' := [(m0, .inr (10, [.ref qk, .int (nI d), .int (nI sh), .int (nI low), .int (nI high), .int le, .int mo, .int (nI nb), .ref qp, .ref qr, .ref qc, .ref qm, .ref qb, .int (nI cap), .int kd, .int am, .int wt, .int md, .long (gG wt md d pp), .long (gV am wt md d pp), .long (gH am wt md d cap pp), .long (gC am wt md d cap pp), .long (gA am wt md d cap sh pp), .int (nI sw), .int (nI np), .ref qf, .ref qs, .int (nI fe), .int (nI te), .int (nI kk), .ref qt, .ref qx, .ref qy, .int no, .int nt, .ref qo, .ref qz, .ref qi, .ref qv, .int fd])), (qo, .inl (cI, 4, .inl fmf)), (qz, .inl (cI, 4, .inl szf)), (qi, .inl (cI, 240, .inl imf))]) [3, 0, 1, 2] rfl
          have hD9 := hD.sub (ws' := [(m0, .inr (10, [.ref qk, .int (nI d), .int (nI sh), .int (nI low), .int (nI high), .int le, .int mo, .int (nI nb), .ref qp, .ref qr, .ref qc, .ref qm, .ref qb, .int (nI cap), .int kd, .int am, .int wt, .int md, .long (gG wt md d pp), .long (gV am wt md d pp), .long (gH am wt md d cap pp), .long (gC am wt md d cap pp), .long (gA am wt md d cap sh pp), .int (nI sw), .int (nI np), .ref qf, .ref qs, .int (nI fe), .int (nI te), .int (nI kk), .ref qt, .ref qx, .ref qy, .int no, .int nt, .ref qo, .ref qz, .ref qi, .ref qv, .int fd])), (qo, .inl (cI, 4, .inl fmf)), (qz, .inl (cI, 4, .inl szf)), (qi, .inl (cI, 240, .inl imf))]) [3, 0, 1, 2] (by decide) rfl
          exact W.lret (v := gH am wt md d cap pp) hx hb hr (fun t ht hW => ⟨⟨_, (gG wt md d pp, gV am wt md d pp, gH am wt md d cap pp, gC am wt md d cap pp, gA am wt md d cap sh pp), rfl, (by unfold aGas; rw [if_pos ⟨c_11, c_23⟩, if_pos (hkd.mp c_36), nI_clamp (by omega)]; rw [c_63]; rfl), by rw [ht]; exact hP9, hD9⟩, hS.F ht⟩) hS.2.2 dX10_gas_110
        ·
          refine lv_tableIn (tgt := 111) (off := 48) hx hb dX10_gas_63 (by rw [c_63]; decide) (by rw [c_63]; decide) (by rw [c_63]; rfl) (by decide) ?_
          refine lv_aload_n hx hb dX10_gas_111 rfl (lv_at hl 0 rfl) ?_
          refine va_get (D := D) (ci := 10) (v := .long (gC am wt md d cap pp)) (C := RX10) (T := TX10) (N := 40) hx hb hts iX10 hown hK hP 3 rfl rfl 21 (by decide) (hts (.fieldLink RX10 127 "DeepHoleModel" "choke" "J") (by decide +kernel)) (fun _ h9 => h9) rfl dX10_gas_112 ?_
          have hP9 := hP.sub (ws' := [(m0, .inr (10, [.ref qk, .int (nI d), .int (nI sh), .int (nI low), .int (nI high), .int le, .int mo, .int (nI nb), .ref qp, .ref qr, .ref qc, .ref qm, .ref qb, .int (nI cap), .int kd, .int am, .int wt, .int md, .long (gG wt md d pp), .long (gV am wt md d pp), .long (gH am wt md d cap pp), .long (gC am wt md d cap pp), .long (gA am wt md d cap sh pp), .int (nI sw), .int (nI np), .ref qf, .ref qs, .int (nI fe), .int (nI te), .int (nI kk), .ref qt, .ref qx, .ref qy, .int no, .int nt, .ref qo, .ref qz, .ref qi, .ref qv, .int fd])), (qo, .inl (cI, 4, .inl fmf)), (qz, .inl (cI, 4, .inl szf)), (qi, .inl (cI, 240, .inl imf))]) [3, 0, 1, 2] rfl
          have hD9 := hD.sub (ws' := [(m0, .inr (10, [.ref qk, .int (nI d), .int (nI sh), .int (nI low), .int (nI high), .int le, .int mo, .int (nI nb), .ref qp, .ref qr, .ref qc, .ref qm, .ref qb, .int (nI cap), .int kd, .int am, .int wt, .int md, .long (gG wt md d pp), .long (gV am wt md d pp), .long (gH am wt md d cap pp), .long (gC am wt md d cap pp), .long (gA am wt md d cap sh pp), .int (nI sw), .int (nI np), .ref qf, .ref qs, .int (nI fe), .int (nI te), .int (nI kk), .ref qt, .ref qx, .ref qy, .int no, .int nt, .ref qo, .ref qz, .ref qi, .ref qv, .int fd])), (qo, .inl (cI, 4, .inl fmf)), (qz, .inl (cI, 4, .inl szf)), (qi, .inl (cI, 240, .inl imf))]) [3, 0, 1, 2] (by decide) rfl
          exact W.lret (v := gC am wt md d cap pp) hx hb hr (fun t ht hW => ⟨⟨_, (gG wt md d pp, gV am wt md d pp, gH am wt md d cap pp, gC am wt md d cap pp, gA am wt md d cap sh pp), rfl, (by unfold aGas; rw [if_pos ⟨c_11, c_23⟩, if_pos (hkd.mp c_36), nI_clamp (by omega)]; rw [c_63]; rfl), by rw [ht]; exact hP9, hD9⟩, hS.F ht⟩) hS.2.2 dX10_gas_115
        ·
          refine lv_tableIn (tgt := 116) (off := 53) hx hb dX10_gas_63 (by rw [c_63]; decide) (by rw [c_63]; decide) (by rw [c_63]; rfl) (by decide) ?_
          refine lv_aload_n hx hb dX10_gas_116 rfl (lv_at hl 0 rfl) ?_
          refine va_get (D := D) (ci := 10) (v := .long (gA am wt md d cap sh pp)) (C := RX10) (T := TX10) (N := 40) hx hb hts iX10 hown hK hP 3 rfl rfl 22 (by decide) (hts (.fieldLink RX10 130 "DeepHoleModel" "atShoe" "J") (by decide +kernel)) (fun _ h9 => h9) rfl dX10_gas_117 ?_
          have hP9 := hP.sub (ws' := [(m0, .inr (10, [.ref qk, .int (nI d), .int (nI sh), .int (nI low), .int (nI high), .int le, .int mo, .int (nI nb), .ref qp, .ref qr, .ref qc, .ref qm, .ref qb, .int (nI cap), .int kd, .int am, .int wt, .int md, .long (gG wt md d pp), .long (gV am wt md d pp), .long (gH am wt md d cap pp), .long (gC am wt md d cap pp), .long (gA am wt md d cap sh pp), .int (nI sw), .int (nI np), .ref qf, .ref qs, .int (nI fe), .int (nI te), .int (nI kk), .ref qt, .ref qx, .ref qy, .int no, .int nt, .ref qo, .ref qz, .ref qi, .ref qv, .int fd])), (qo, .inl (cI, 4, .inl fmf)), (qz, .inl (cI, 4, .inl szf)), (qi, .inl (cI, 240, .inl imf))]) [3, 0, 1, 2] rfl
          have hD9 := hD.sub (ws' := [(m0, .inr (10, [.ref qk, .int (nI d), .int (nI sh), .int (nI low), .int (nI high), .int le, .int mo, .int (nI nb), .ref qp, .ref qr, .ref qc, .ref qm, .ref qb, .int (nI cap), .int kd, .int am, .int wt, .int md, .long (gG wt md d pp), .long (gV am wt md d pp), .long (gH am wt md d cap pp), .long (gC am wt md d cap pp), .long (gA am wt md d cap sh pp), .int (nI sw), .int (nI np), .ref qf, .ref qs, .int (nI fe), .int (nI te), .int (nI kk), .ref qt, .ref qx, .ref qy, .int no, .int nt, .ref qo, .ref qz, .ref qi, .ref qv, .int fd])), (qo, .inl (cI, 4, .inl fmf)), (qz, .inl (cI, 4, .inl szf)), (qi, .inl (cI, 240, .inl imf))]) [3, 0, 1, 2] (by decide) rfl
          exact W.lret (v := gA am wt md d cap sh pp) hx hb hr (fun t ht hW => ⟨⟨_, (gG wt md d pp, gV am wt md d pp, gH am wt md d cap pp, gC am wt md d cap pp, gA am wt md d cap sh pp), rfl, (by unfold aGas; rw [if_pos ⟨c_11, c_23⟩, if_pos (hkd.mp c_36), nI_clamp (by omega)]; rw [c_63]; rfl), by rw [ht]; exact hP9, hD9⟩, hS.F ht⟩) hS.2.2 dX10_gas_120
        ·
          refine lv_tableOut (tgt := 121) hx hb dX10_gas_63 c_63 (by decide) ?_
          have n_63 := sw5n c_63
          refine lv_aload_n hx hb dX10_gas_121 rfl (lv_at hl 0 rfl) ?_
          refine q_V (wc := [(m0, .inr (10, [.ref qk, .int (nI d), .int (nI sh), .int (nI low), .int (nI high), .int le, .int mo, .int (nI nb), .ref qp, .ref qr, .ref qc, .ref qm, .ref qb, .int (nI cap), .int kd, .int am, .int wt, .int md, .long (gG wt md d pp), .long (gV am wt md d pp), .long (gH am wt md d cap pp), .long (gC am wt md d cap pp), .long (gA am wt md d cap sh pp), .int (nI sw), .int (nI np), .ref qf, .ref qs, .int (nI fe), .int (nI te), .int (nI kk), .ref qt, .ref qx, .ref qy, .int no, .int nt, .ref qo, .ref qz, .ref qi, .ref qv, .int fd])), (qo, .inl (cI, 4, .inl fmf)), (qz, .inl (cI, 4, .inl szf)), (qi, .inl (cI, 240, .inl imf))]) (b := m0) ⟨hx, hb, hml, hown, hts⟩ [] [] (c_X10_breaksShoe (it1 := it1) (n1 := n1) (by first | assumption | omega) (by first | assumption | omega) (by first | assumption | omega)) (cwV 0 hts gX10_gas_X10_breaksShoe rfl rfl rfl (by decide +kernel) ⟨Nat.le_of_ble_eq_true rfl, Nat.le_of_ble_eq_true rfl⟩) hK hN hP hD [3, 0, 1, 2] rfl (by decide) (ci := 10) rfl rfl rfl rfl hl.1 rfl (Nat.le_of_ble_eq_true rfl) dX10_gas_122 ⟨Nat.zero_le _, Nat.zero_le _⟩ (fun r hw => ?_)
          subst hw
          refine lv_if_eq (tgt := 132) hx hb dX10_gas_125 (by decide) (fun c_125 => ?_) (fun c_125 => ?_)
          ·
            have c_125 := bz c_125
            refine lv_lconst (v := 0) hx hb dX10_gas_132 (by decide) ?_
            have hP9 := hP.sub (ws' := [(m0, .inr (10, [.ref qk, .int (nI d), .int (nI sh), .int (nI low), .int (nI high), .int le, .int mo, .int (nI nb), .ref qp, .ref qr, .ref qc, .ref qm, .ref qb, .int (nI cap), .int kd, .int am, .int wt, .int md, .long (gG wt md d pp), .long (gV am wt md d pp), .long (gH am wt md d cap pp), .long (gC am wt md d cap pp), .long (gA am wt md d cap sh pp), .int (nI sw), .int (nI np), .ref qf, .ref qs, .int (nI fe), .int (nI te), .int (nI kk), .ref qt, .ref qx, .ref qy, .int no, .int nt, .ref qo, .ref qz, .ref qi, .ref qv, .int fd])), (qo, .inl (cI, 4, .inl fmf)), (qz, .inl (cI, 4, .inl szf)), (qi, .inl (cI, 240, .inl imf))]) [3, 0, 1, 2] rfl
            have hD9 := hD.sub (ws' := [(m0, .inr (10, [.ref qk, .int (nI d), .int (nI sh), .int (nI low), .int (nI high), .int le, .int mo, .int (nI nb), .ref qp, .ref qr, .ref qc, .ref qm, .ref qb, .int (nI cap), .int kd, .int am, .int wt, .int md, .long (gG wt md d pp), .long (gV am wt md d pp), .long (gH am wt md d cap pp), .long (gC am wt md d cap pp), .long (gA am wt md d cap sh pp), .int (nI sw), .int (nI np), .ref qf, .ref qs, .int (nI fe), .int (nI te), .int (nI kk), .ref qt, .ref qx, .ref qy, .int no, .int nt, .ref qo, .ref qz, .ref qi, .ref qv, .int fd])), (qo, .inl (cI, 4, .inl fmf)), (qz, .inl (cI, 4, .inl szf)), (qi, .inl (cI, 240, .inl imf))]) [3, 0, 1, 2] (by decide) rfl
            exact W.lret (v := 0) hx hb hr (fun t ht hW => ⟨⟨_, (gG wt md d pp, gV am wt md d pp, gH am wt md d cap pp, gC am wt md d cap pp, gA am wt md d cap sh pp), rfl, (by unfold aGas; rw [if_pos ⟨c_11, c_23⟩, if_pos (hkd.mp c_36), nI_clamp (by omega)]; unfold gM; rw [if_neg n_63.1, if_neg n_63.2.1, if_neg n_63.2.2.1, if_neg n_63.2.2.2.1, if_neg n_63.2.2.2.2, if_neg c_125]), by rw [ht]; exact hP9, hD9⟩, hS.F ht⟩) hS.2.2 dX10_gas_133
          ·
            have c_125 := bnz c_125
            refine lv_lconst (v := 1) hx hb dX10_gas_128 (by decide) ?_
            refine lv_goto (tgt := 133) hx hb dX10_gas_129 (by decide) ?_
            have hP9 := hP.sub (ws' := [(m0, .inr (10, [.ref qk, .int (nI d), .int (nI sh), .int (nI low), .int (nI high), .int le, .int mo, .int (nI nb), .ref qp, .ref qr, .ref qc, .ref qm, .ref qb, .int (nI cap), .int kd, .int am, .int wt, .int md, .long (gG wt md d pp), .long (gV am wt md d pp), .long (gH am wt md d cap pp), .long (gC am wt md d cap pp), .long (gA am wt md d cap sh pp), .int (nI sw), .int (nI np), .ref qf, .ref qs, .int (nI fe), .int (nI te), .int (nI kk), .ref qt, .ref qx, .ref qy, .int no, .int nt, .ref qo, .ref qz, .ref qi, .ref qv, .int fd])), (qo, .inl (cI, 4, .inl fmf)), (qz, .inl (cI, 4, .inl szf)), (qi, .inl (cI, 240, .inl imf))]) [3, 0, 1, 2] rfl
            have hD9 := hD.sub (ws' := [(m0, .inr (10, [.ref qk, .int (nI d), .int (nI sh), .int (nI low), .int (nI high), .int le, .int mo, .int (nI nb), .ref qp, .ref qr, .ref qc, .ref qm, .ref qb, .int (nI cap), .int kd, .int am, .int wt, .int md, .long (gG wt md d pp), .long (gV am wt md d pp), .long (gH am wt md d cap pp), .long (gC am wt md d cap pp), .long (gA am wt md d cap sh pp), .int (nI sw), .int (nI np), .ref qf, .ref qs, .int (nI fe), .int (nI te), .int (nI kk), .ref qt, .ref qx, .ref qy, .int no, .int nt, .ref qo, .ref qz, .ref qi, .ref qv, .int fd])), (qo, .inl (cI, 4, .inl fmf)), (qz, .inl (cI, 4, .inl szf)), (qi, .inl (cI, 240, .inl imf))]) [3, 0, 1, 2] (by decide) rfl
            exact W.lret (v := 1) hx hb hr (fun t ht hW => ⟨⟨_, (gG wt md d pp, gV am wt md d pp, gH am wt md d cap pp, gC am wt md d cap pp, gA am wt md d cap sh pp), rfl, (by unfold aGas; rw [if_pos ⟨c_11, c_23⟩, if_pos (hkd.mp c_36), nI_clamp (by omega)]; unfold gM; rw [if_neg n_63.1, if_neg n_63.2.1, if_neg n_63.2.2.1, if_neg n_63.2.2.2.1, if_neg n_63.2.2.2.2, if_pos c_125]), by rw [ht]; exact hP9, hD9⟩, hS.F ht⟩) hS.2.2 dX10_gas_133
      ·
        refine lv_bipush (v := (-3)) hx hb dX10_gas_39 (by decide) ?_
        refine q_Sl (tys := TY cI cS cP) (D := D) ⟨hx, hb, hml, hown, hts⟩ [.int (-3 : Int32)] [] c_X10_no (va_cwS 1 hts gX10_gas_X10_no rfl rfl rfl (by decide +kernel) ⟨Nat.le_of_ble_eq_true rfl, Nat.le_of_ble_eq_true rfl⟩) hK hN rfl hl.1 rfl (Nat.le_of_ble_eq_true rfl) dX10_gas_41 ⟨Nat.zero_le _, Nat.zero_le _⟩ (fun r hw => ?_)
        subst hw
        have hP9 := hP.sub (ws' := [(m0, .inr (10, [.ref qk, .int (nI d), .int (nI sh), .int (nI low), .int (nI high), .int le, .int mo, .int (nI nb), .ref qp, .ref qr, .ref qc, .ref qm, .ref qb, .int (nI cap), .int kd, .int am, .int wt, .int md, .long z1, .long z2, .long z3, .long z4, .long z5, .int (nI sw), .int (nI np), .ref qf, .ref qs, .int (nI fe), .int (nI te), .int (nI kk), .ref qt, .ref qx, .ref qy, .int no, .int nt, .ref qo, .ref qz, .ref qi, .ref qv, .int fd])), (qo, .inl (cI, 4, .inl fmf)), (qz, .inl (cI, 4, .inl szf)), (qi, .inl (cI, 240, .inl imf))]) [0, 1, 2, 3] rfl
        have hD9 := hD.sub (ws' := [(m0, .inr (10, [.ref qk, .int (nI d), .int (nI sh), .int (nI low), .int (nI high), .int le, .int mo, .int (nI nb), .ref qp, .ref qr, .ref qc, .ref qm, .ref qb, .int (nI cap), .int kd, .int am, .int wt, .int md, .long z1, .long z2, .long z3, .long z4, .long z5, .int (nI sw), .int (nI np), .ref qf, .ref qs, .int (nI fe), .int (nI te), .int (nI kk), .ref qt, .ref qx, .ref qy, .int no, .int nt, .ref qo, .ref qz, .ref qi, .ref qv, .int fd])), (qo, .inl (cI, 4, .inl fmf)), (qz, .inl (cI, 4, .inl szf)), (qi, .inl (cI, 240, .inl imf))]) [0, 1, 2, 3] (by decide) rfl
        exact W.lret (v := (-9223372036854775808) - (-3 : Int32).toInt64) hx hb hr (fun t ht hW => ⟨⟨_, (z1, z2, z3, z4, z5), rfl, (by unfold aGas; rw [if_pos ⟨c_11, c_23⟩, if_neg (fun h => hkd.mpr h c_36)]), by rw [ht]; exact hP9, hD9⟩, hS.F ht⟩) hS.2.2 dX10_gas_44
    ·
      have c_23 := bz c_23
      refine lv_bipush (v := (-2)) hx hb dX10_gas_26 (by decide) ?_
      refine q_Sl (tys := TY cI cS cP) (D := D) ⟨hx, hb, hml, hown, hts⟩ [.int (-2 : Int32)] [] c_X10_no (va_cwS 1 hts gX10_gas_X10_no rfl rfl rfl (by decide +kernel) ⟨Nat.le_of_ble_eq_true rfl, Nat.le_of_ble_eq_true rfl⟩) hK hN rfl hl.1 rfl (Nat.le_of_ble_eq_true rfl) dX10_gas_28 ⟨Nat.zero_le _, Nat.zero_le _⟩ (fun r hw => ?_)
      subst hw
      have hP9 := hP.sub (ws' := [(m0, .inr (10, [.ref qk, .int (nI d), .int (nI sh), .int (nI low), .int (nI high), .int le, .int mo, .int (nI nb), .ref qp, .ref qr, .ref qc, .ref qm, .ref qb, .int (nI cap), .int kd, .int am, .int wt, .int md, .long z1, .long z2, .long z3, .long z4, .long z5, .int (nI sw), .int (nI np), .ref qf, .ref qs, .int (nI fe), .int (nI te), .int (nI kk), .ref qt, .ref qx, .ref qy, .int no, .int nt, .ref qo, .ref qz, .ref qi, .ref qv, .int fd])), (qo, .inl (cI, 4, .inl fmf)), (qz, .inl (cI, 4, .inl szf)), (qi, .inl (cI, 240, .inl imf))]) [0, 1, 2, 3] rfl
      have hD9 := hD.sub (ws' := [(m0, .inr (10, [.ref qk, .int (nI d), .int (nI sh), .int (nI low), .int (nI high), .int le, .int mo, .int (nI nb), .ref qp, .ref qr, .ref qc, .ref qm, .ref qb, .int (nI cap), .int kd, .int am, .int wt, .int md, .long z1, .long z2, .long z3, .long z4, .long z5, .int (nI sw), .int (nI np), .ref qf, .ref qs, .int (nI fe), .int (nI te), .int (nI kk), .ref qt, .ref qx, .ref qy, .int no, .int nt, .ref qo, .ref qz, .ref qi, .ref qv, .int fd])), (qo, .inl (cI, 4, .inl fmf)), (qz, .inl (cI, 4, .inl szf)), (qi, .inl (cI, 240, .inl imf))]) [0, 1, 2, 3] (by decide) rfl
      exact W.lret (v := (-9223372036854775808) - (-2 : Int32).toInt64) hx hb hr (fun t ht hW => ⟨⟨_, (z1, z2, z3, z4, z5), rfl, (by unfold aGas; first | rw [if_neg (fun h => c_11 h.1)] | rw [if_neg (fun h => c_23 h.2)]), by rw [ht]; exact hP9, hD9⟩, hS.F ht⟩) hS.2.2 dX10_gas_31

set_option maxHeartbeats 4000000 in
set_option maxRecDepth 100000 in
theorem c_X10_brokenAt {l : Launch} {D : va_G} {cI cS cP : ClassId} {sz : Nat} {m0 qk qp qr qc qm qb qf qs qt qx qy qo qz qi qv : Nat} {d sh low high nb cap sw np fe te kk : Nat} {le mo kd am wt md no nt fd : Int32} {z1 z2 z3 z4 z5 : Int64} {fmf szf imf : Nat → Int32} {n1 : Nat} {it1 : Nat → Int32} {v1 w1 m1 : Int32} (hd : d ≤ 50) (hsh : sh ≤ d) (hc1 : 1 ≤ cap) (hc2 : cap ≤ 1000) (hn1 : n1 ≤ 60) (hG1 : gREL fmf szf imf 1 n1 it1) : Met l yX10_brokenAt wsX10_brokenAt ({ frames := 3, cells := 0, slots := 0, locals := 69 }) (PC D (TY cI cS cP) [.ref m0, .int v1, .int w1, .int m1] sz [(m0, .inr (10, [.ref qk, .int (nI d), .int (nI sh), .int (nI low), .int (nI high), .int le, .int mo, .int (nI nb), .ref qp, .ref qr, .ref qc, .ref qm, .ref qb, .int (nI cap), .int kd, .int am, .int wt, .int md, .long z1, .long z2, .long z3, .long z4, .long z5, .int (nI sw), .int (nI np), .ref qf, .ref qs, .int (nI fe), .int (nI te), .int (nI kk), .ref qt, .ref qx, .ref qy, .int no, .int nt, .ref qo, .ref qz, .ref qi, .ref qv, .int fd])), (qo, .inl (cI, 4, .inl fmf)), (qz, .inl (cI, 4, .inl szf)), (qi, .inl (cI, 240, .inl imf))]) (QI D (fun (r : Int32) (u : Int64 × Int64 × Int64 × Int64 × Int64) => r = wb (fun k => decide (strg it1 n1 sh < gA v1 w1 m1 d cap sh k)) (d + 1)) (fun (u : Int64 × Int64 × Int64 × Int64 × Int64) => [(m0, .inr (10, [.ref qk, .int (nI d), .int (nI sh), .int (nI low), .int (nI high), .int le, .int mo, .int (nI nb), .ref qp, .ref qr, .ref qc, .ref qm, .ref qb, .int (nI cap), .int kd, .int am, .int wt, .int md, .long u.1, .long u.2.1, .long u.2.2.1, .long u.2.2.2.1, .long u.2.2.2.2, .int (nI sw), .int (nI np), .ref qf, .ref qs, .int (nI fe), .int (nI te), .int (nI kk), .ref qt, .ref qx, .ref qy, .int no, .int nt, .ref qo, .ref qz, .ref qi, .ref qv, .int fd])), (qo, .inl (cI, 4, .inl fmf)), (qz, .inl (cI, 4, .inl szf)), (qi, .inl (cI, 240, .inl imf))]) (va_A [(m0, .inr (10, [.ref qk, .int (nI d), .int (nI sh), .int (nI low), .int (nI high), .int le, .int mo, .int (nI nb), .ref qp, .ref qr, .ref qc, .ref qm, .ref qb, .int (nI cap), .int kd, .int am, .int wt, .int md, .long z1, .long z2, .long z3, .long z4, .long z5, .int (nI sw), .int (nI np), .ref qf, .ref qs, .int (nI fe), .int (nI te), .int (nI kk), .ref qt, .ref qx, .ref qy, .int no, .int nt, .ref qo, .ref qz, .ref qi, .ref qv, .int fd])), (qo, .inl (cI, 4, .inl fmf)), (qz, .inl (cI, 4, .inl szf)), (qi, .inl (cI, 240, .inl imf))] sz)) 0 0 (va_A [(m0, .inr (10, [.ref qk, .int (nI d), .int (nI sh), .int (nI low), .int (nI high), .int le, .int mo, .int (nI nb), .ref qp, .ref qr, .ref qc, .ref qm, .ref qb, .int (nI cap), .int kd, .int am, .int wt, .int md, .long z1, .long z2, .long z3, .long z4, .long z5, .int (nI sw), .int (nI np), .ref qf, .ref qs, .int (nI fe), .int (nI te), .int (nI kk), .ref qt, .ref qx, .ref qy, .int no, .int nt, .ref qo, .ref qz, .ref qi, .ref qv, .int fd])), (qo, .inl (cI, 4, .inl fmf)), (qz, .inl (cI, 4, .inl szf)), (qi, .inl (cI, 240, .inl imf))] sz) := by
  refine Met.ofW (cc := cX10_brokenAt) (maxL := 5) (ret := (some .int)) (by decide) rfl ?_
  intro p e s m args below meth c s₁ B hml hv
  obtain ⟨rfl, hsz, hP, hK, hD0, hN⟩ := hv
  have hx := B.exec
  have hb := B.bytes
  have hr := B.returns
  have hts := atoms_spec (ws := wsX10_brokenAt) B.pre
  have hown : s.vm.findClass RX10 = some m.cls := findClass_of_methodNamed B.named
  have hlocks := B.notSynchronized
  subst hsz
  have iX10 : ∀ w ∈ u_ws RX10 TX10 40, w ∈ wsX10_brokenAt := by decide +kernel
  have hD := hD0.self (sz := s.heap.size)
  generalize hAe : va_A [(m0, .inr (10, [.ref qk, .int (nI d), .int (nI sh), .int (nI low), .int (nI high), .int le, .int mo, .int (nI nb), .ref qp, .ref qr, .ref qc, .ref qm, .ref qb, .int (nI cap), .int kd, .int am, .int wt, .int md, .long z1, .long z2, .long z3, .long z4, .long z5, .int (nI sw), .int (nI np), .ref qf, .ref qs, .int (nI fe), .int (nI te), .int (nI kk), .ref qt, .ref qx, .ref qy, .int no, .int nt, .ref qo, .ref qz, .ref qi, .ref qv, .int fd])), (qo, .inl (cI, 4, .inl fmf)), (qz, .inl (cI, 4, .inl szf)), (qi, .inl (cI, 240, .inl imf))] s.heap.size = A at hD ⊢
  have hA : ∀ q : Nat, s.heap.size ≤ q → A q := fun q h => by rw [← hAe]; exact Or.inr h
  have hS : va_S A s.heap s.heap [] := va_S.rf
  have hP : va_P D vwCl [(m0, .inr (10, [.ref qk, .int (nI d), .int (nI sh), .int (nI low), .int (nI high), .int le, .int mo, .int (nI nb), .ref qp, .ref qr, .ref qc, .ref qm, .ref qb, .int (nI cap), .int kd, .int am, .int wt, .int md, .long z1, .long z2, .long z3, .long z4, .long z5, .int (nI sw), .int (nI np), .ref qf, .ref qs, .int (nI fe), .int (nI te), .int (nI kk), .ref qt, .ref qx, .ref qy, .int no, .int nt, .ref qo, .ref qz, .ref qi, .ref qv, .int fd])), (qo, .inl (cI, 4, .inl fmf)), (qz, .inl (cI, 4, .inl szf)), (qi, .inl (cI, 240, .inl imf))] s.heap := hP
  have hl := lv_entry ([.ref m0, .int v1, .int w1, .int m1]) (n := 5) (Nat.le_of_ble_eq_true rfl)
  rw [lg_entry_eq]
  generalize (lg_sl ([.ref m0, .int v1, .int w1, .int m1]) ++ List.replicate (5 - (lg_sl ([.ref m0, .int v1, .int w1, .int m1])).length) Slot.unset).toArray = ls at hl ⊢
  have hl : lv_has ls 5 [(0, .ref m0), (1, .int v1), (2, .int w1), (3, .int m1)] := hl
  refine lv_aload_n hx hb dX10_brokenAt_0 rfl (lv_at hl 0 rfl) ?_
  refine va_get (D := D) (ci := 10) (v := .int (nI d)) (C := RX10) (T := TX10) (N := 40) hx hb hts iX10 hown hK hP 0 rfl rfl 1 (by decide) (hts (.fieldLink RX10 73 "DeepHoleModel" "depth" "I") (by decide +kernel)) (fun _ h9 => h9) rfl dX10_brokenAt_1 ?_
  refine lv_eqi (z := nI (d + 1) - 1) ((nI_pred d).symm) ?_
  refine lv_istore (lv' := [(4, .int (nI (d + 1) - 1)), (0, .ref m0), (1, .int v1), (2, .int w1), (3, .int m1)]) hx hb dX10_brokenAt_4 hl (by decide) rfl (fun ls hl => ?_)
  refine lp_w (I := fun zz9 H locs ls => ∃ (q : Nat) (z1 z2 z3 z4 z5 : Int64), zz9 = q ∧ (q ≤ d + 1) ∧ (wb (fun k => decide (strg it1 n1 sh < gA v1 w1 m1 d cap sh k)) (d + 1) = wb (fun k => decide (strg it1 n1 sh < gA v1 w1 m1 d cap sh k)) q) ∧ va_P D vwCl [(m0, .inr (10, [.ref qk, .int (nI d), .int (nI sh), .int (nI low), .int (nI high), .int le, .int mo, .int (nI nb), .ref qp, .ref qr, .ref qc, .ref qm, .ref qb, .int (nI cap), .int kd, .int am, .int wt, .int md, .long z1, .long z2, .long z3, .long z4, .long z5, .int (nI sw), .int (nI np), .ref qf, .ref qs, .int (nI fe), .int (nI te), .int (nI kk), .ref qt, .ref qx, .ref qy, .int no, .int nt, .ref qo, .ref qz, .ref qi, .ref qv, .int fd])), (qo, .inl (cI, 4, .inl fmf)), (qz, .inl (cI, 4, .inl szf)), (qi, .inl (cI, 240, .inl imf))] H ∧ va_D A [(m0, .inr (10, [.ref qk, .int (nI d), .int (nI sh), .int (nI low), .int (nI high), .int le, .int mo, .int (nI nb), .ref qp, .ref qr, .ref qc, .ref qm, .ref qb, .int (nI cap), .int kd, .int am, .int wt, .int md, .long z1, .long z2, .long z3, .long z4, .long z5, .int (nI sw), .int (nI np), .ref qf, .ref qs, .int (nI fe), .int (nI te), .int (nI kk), .ref qt, .ref qx, .ref qy, .int no, .int nt, .ref qo, .ref qz, .ref qi, .ref qv, .int fd])), (qo, .inl (cI, 4, .inl fmf)), (qz, .inl (cI, 4, .inl szf)), (qi, .inl (cI, 240, .inl imf))] ∧ va_S A s.heap H locs ∧ lv_has ls 5 [(0, .ref m0), (1, .int v1), (2, .int w1), (3, .int m1), (4, .int (nI q - 1))]) ?_ ((d + 1)) ⟨d + 1, z1, z2, z3, z4, z5, rfl, (by omega), (rfl), hP.sub [0, 1, 2, 3] rfl, hD.sub [0, 1, 2, 3] (by decide) rfl, hS, lv_sub hl [1, 2, 3, 4, 0] rfl⟩
  intro n_6 H locs ls ih_6 hI
  obtain ⟨q, z1, z2, z3, z4, z5, hn_6, hq, hs, hP, hD, hS, hl⟩ := hI
  refine lv_iload hx hb dX10_brokenAt_6 (lv_at hl 4 rfl) ?_
  refine lv_if_lt (tgt := 36) hx hb dX10_brokenAt_8 (by decide) (fun c_8 => ?_) (fun c_8 => ?_)
  ·
    have c_8 : q = 0 := (m1_lt (by omega)).mp c_8
    refine lv_iconst (v := (-1)) hx hb dX10_brokenAt_36 (by decide) ?_
    have hP9 := hP.sub (ws' := [(m0, .inr (10, [.ref qk, .int (nI d), .int (nI sh), .int (nI low), .int (nI high), .int le, .int mo, .int (nI nb), .ref qp, .ref qr, .ref qc, .ref qm, .ref qb, .int (nI cap), .int kd, .int am, .int wt, .int md, .long z1, .long z2, .long z3, .long z4, .long z5, .int (nI sw), .int (nI np), .ref qf, .ref qs, .int (nI fe), .int (nI te), .int (nI kk), .ref qt, .ref qx, .ref qy, .int no, .int nt, .ref qo, .ref qz, .ref qi, .ref qv, .int fd])), (qo, .inl (cI, 4, .inl fmf)), (qz, .inl (cI, 4, .inl szf)), (qi, .inl (cI, 240, .inl imf))]) [0, 1, 2, 3] rfl
    have hD9 := hD.sub (ws' := [(m0, .inr (10, [.ref qk, .int (nI d), .int (nI sh), .int (nI low), .int (nI high), .int le, .int mo, .int (nI nb), .ref qp, .ref qr, .ref qc, .ref qm, .ref qb, .int (nI cap), .int kd, .int am, .int wt, .int md, .long z1, .long z2, .long z3, .long z4, .long z5, .int (nI sw), .int (nI np), .ref qf, .ref qs, .int (nI fe), .int (nI te), .int (nI kk), .ref qt, .ref qx, .ref qy, .int no, .int nt, .ref qo, .ref qz, .ref qi, .ref qv, .int fd])), (qo, .inl (cI, 4, .inl fmf)), (qz, .inl (cI, 4, .inl szf)), (qi, .inl (cI, 240, .inl imf))]) [0, 1, 2, 3] (by decide) rfl
    exact W.iret (v := (-1)) hx hb hr (fun t ht hW => ⟨⟨_, (z1, z2, z3, z4, z5), rfl, (by rw [hs, c_8]; rfl), by rw [ht]; exact hP9, hD9⟩, hS.F ht⟩) hS.2.2 dX10_brokenAt_37
  ·
    have c_8 : 0 < q := Nat.pos_of_ne_zero (fun h => c_8 ((m1_lt (by omega)).mpr h))
    have hl : lv_has ls 5 [(0, .ref m0), (1, .int v1), (2, .int w1), (3, .int m1), (4, .int (nI (q - 1)))] := by rw [← m1_n c_8]; exact hl
    refine lv_aload_n hx hb dX10_brokenAt_11 rfl (lv_at hl 0 rfl) ?_
    refine lv_iload hx hb dX10_brokenAt_12 (lv_at hl 4 rfl) ?_
    refine lv_iload_n hx hb dX10_brokenAt_14 rfl (lv_at hl 1 rfl) ?_
    refine lv_iload_n hx hb dX10_brokenAt_15 rfl (lv_at hl 2 rfl) ?_
    refine lv_iload_n hx hb dX10_brokenAt_16 rfl (lv_at hl 3 rfl) ?_
    refine w_Vv (wc := [(m0, .inr (10, [.ref qk, .int (nI d), .int (nI sh), .int (nI low), .int (nI high), .int le, .int mo, .int (nI nb), .ref qp, .ref qr, .ref qc, .ref qm, .ref qb, .int (nI cap), .int kd, .int am, .int wt, .int md, .long z1, .long z2, .long z3, .long z4, .long z5, .int (nI sw), .int (nI np), .ref qf, .ref qs, .int (nI fe), .int (nI te), .int (nI kk), .ref qt, .ref qx, .ref qy, .int no, .int nt, .ref qo, .ref qz, .ref qi, .ref qv, .int fd]))]) (wr := [(qo, .inl (cI, 4, .inl fmf)), (qz, .inl (cI, 4, .inl szf)), (qi, .inl (cI, 240, .inl imf))]) (b := m0) ⟨hx, hb, hml, hown, hts⟩ [.int (nI (q - 1)), .int v1, .int w1, .int m1] [] (c_X10_look  (by first | assumption | omega) (by first | assumption | omega) (by first | assumption | omega) (by first | assumption | omega) (by first | assumption | omega)) (cwV 4 hts gX10_brokenAt_X10_look rfl rfl rfl (by decide +kernel) ⟨Nat.le_of_ble_eq_true rfl, Nat.le_of_ble_eq_true rfl⟩) hK hN hP hD hS hA [0] [1, 2, 3] rfl (by decide) rfl (by decide) (by decide) (ci := 10) rfl rfl rfl rfl hl.1 rfl (Nat.le_of_ble_eq_true rfl) dX10_brokenAt_17 ⟨Nat.zero_le _, Nat.zero_le _⟩ (fun u H locs hw hP hD hS => ?_)
    have hP : va_P D vwCl [(qo, .inl (cI, 4, .inl fmf)), (qz, .inl (cI, 4, .inl szf)), (qi, .inl (cI, 240, .inl imf)), (m0, .inr (10, [.ref qk, .int (nI d), .int (nI sh), .int (nI low), .int (nI high), .int le, .int mo, .int (nI nb), .ref qp, .ref qr, .ref qc, .ref qm, .ref qb, .int (nI cap), .int kd, .int am, .int wt, .int md, .long (gG w1 m1 d (q - 1)), .long (gV v1 w1 m1 d (q - 1)), .long (gH v1 w1 m1 d cap (q - 1)), .long (gC v1 w1 m1 d cap (q - 1)), .long (gA v1 w1 m1 d cap sh (q - 1)), .int (nI sw), .int (nI np), .ref qf, .ref qs, .int (nI fe), .int (nI te), .int (nI kk), .ref qt, .ref qx, .ref qy, .int no, .int nt, .ref qo, .ref qz, .ref qi, .ref qv, .int fd]))] H := hP
    have hD : va_D A [(qo, .inl (cI, 4, .inl fmf)), (qz, .inl (cI, 4, .inl szf)), (qi, .inl (cI, 240, .inl imf)), (m0, .inr (10, [.ref qk, .int (nI d), .int (nI sh), .int (nI low), .int (nI high), .int le, .int mo, .int (nI nb), .ref qp, .ref qr, .ref qc, .ref qm, .ref qb, .int (nI cap), .int kd, .int am, .int wt, .int md, .long (gG w1 m1 d (q - 1)), .long (gV v1 w1 m1 d (q - 1)), .long (gH v1 w1 m1 d cap (q - 1)), .long (gC v1 w1 m1 d cap (q - 1)), .long (gA v1 w1 m1 d cap sh (q - 1)), .int (nI sw), .int (nI np), .ref qf, .ref qs, .int (nI fe), .int (nI te), .int (nI kk), .ref qt, .ref qx, .ref qy, .int no, .int nt, .ref qo, .ref qz, .ref qi, .ref qv, .int fd]))] := hD
    refine lv_aload_n hx hb dX10_brokenAt_20 rfl (lv_at hl 0 rfl) ?_
    refine q_V (wc := [(m0, .inr (10, [.ref qk, .int (nI d), .int (nI sh), .int (nI low), .int (nI high), .int le, .int mo, .int (nI nb), .ref qp, .ref qr, .ref qc, .ref qm, .ref qb, .int (nI cap), .int kd, .int am, .int wt, .int md, .long (gG w1 m1 d (q - 1)), .long (gV v1 w1 m1 d (q - 1)), .long (gH v1 w1 m1 d cap (q - 1)), .long (gC v1 w1 m1 d cap (q - 1)), .long (gA v1 w1 m1 d cap sh (q - 1)), .int (nI sw), .int (nI np), .ref qf, .ref qs, .int (nI fe), .int (nI te), .int (nI kk), .ref qt, .ref qx, .ref qy, .int no, .int nt, .ref qo, .ref qz, .ref qi, .ref qv, .int fd])), (qo, .inl (cI, 4, .inl fmf)), (qz, .inl (cI, 4, .inl szf)), (qi, .inl (cI, 240, .inl imf))]) (b := m0) ⟨hx, hb, hml, hown, hts⟩ [] [] (c_X10_breaksShoe (it1 := it1) (n1 := n1) (by first | assumption | omega) (by first | assumption | omega) (by first | assumption | omega)) (cwV 0 hts gX10_brokenAt_X10_breaksShoe rfl rfl rfl (by decide +kernel) ⟨Nat.le_of_ble_eq_true rfl, Nat.le_of_ble_eq_true rfl⟩) hK hN hP hD [3, 0, 1, 2] rfl (by decide) (ci := 10) rfl rfl rfl rfl hl.1 rfl (Nat.le_of_ble_eq_true rfl) dX10_brokenAt_21 ⟨Nat.zero_le _, Nat.zero_le _⟩ (fun r hw => ?_)
    subst hw
    refine lv_if_eq (tgt := 30) hx hb dX10_brokenAt_24 (by decide) (fun c_24 => ?_) (fun c_24 => ?_)
    ·
      have c_24 := bz c_24
      refine lv_iinc (v := nI (q - 1) - 1) (lv' := [(4, .int (nI (q - 1) - 1)), (0, .ref m0), (1, .int v1), (2, .int w1), (3, .int m1)]) hx hb dX10_brokenAt_30 hl (k := 4) rfl m1_m (by decide) rfl (fun ls hl => ?_)
      refine lv_goto (tgt := 6) hx hb dX10_brokenAt_33 (by decide) ?_
      exact ih_6 _ _ _ _ (by omega) ⟨q - 1, gG w1 m1 d (q - 1), gV v1 w1 m1 d (q - 1), gH v1 w1 m1 d cap (q - 1), gC v1 w1 m1 d cap (q - 1), gA v1 w1 m1 d cap sh (q - 1), rfl, (by omega), (by rw [hs]; exact wb_no (B := (fun k => decide (strg it1 n1 sh < gA v1 w1 m1 d cap sh k))) c_8 (fun h => c_24 (of_decide_eq_true h))), hP.sub [3, 0, 1, 2] rfl, hD.sub [3, 0, 1, 2] (by decide) rfl, hS, lv_sub hl [1, 2, 3, 4, 0] rfl⟩
    ·
      have c_24 := bnz c_24
      refine lv_iload hx hb dX10_brokenAt_27 (lv_at hl 4 rfl) ?_
      have hP9 := hP.sub (ws' := [(m0, .inr (10, [.ref qk, .int (nI d), .int (nI sh), .int (nI low), .int (nI high), .int le, .int mo, .int (nI nb), .ref qp, .ref qr, .ref qc, .ref qm, .ref qb, .int (nI cap), .int kd, .int am, .int wt, .int md, .long (gG w1 m1 d (q - 1)), .long (gV v1 w1 m1 d (q - 1)), .long (gH v1 w1 m1 d cap (q - 1)), .long (gC v1 w1 m1 d cap (q - 1)), .long (gA v1 w1 m1 d cap sh (q - 1)), .int (nI sw), .int (nI np), .ref qf, .ref qs, .int (nI fe), .int (nI te), .int (nI kk), .ref qt, .ref qx, .ref qy, .int no, .int nt, .ref qo, .ref qz, .ref qi, .ref qv, .int fd])), (qo, .inl (cI, 4, .inl fmf)), (qz, .inl (cI, 4, .inl szf)), (qi, .inl (cI, 240, .inl imf))]) [3, 0, 1, 2] rfl
      have hD9 := hD.sub (ws' := [(m0, .inr (10, [.ref qk, .int (nI d), .int (nI sh), .int (nI low), .int (nI high), .int le, .int mo, .int (nI nb), .ref qp, .ref qr, .ref qc, .ref qm, .ref qb, .int (nI cap), .int kd, .int am, .int wt, .int md, .long (gG w1 m1 d (q - 1)), .long (gV v1 w1 m1 d (q - 1)), .long (gH v1 w1 m1 d cap (q - 1)), .long (gC v1 w1 m1 d cap (q - 1)), .long (gA v1 w1 m1 d cap sh (q - 1)), .int (nI sw), .int (nI np), .ref qf, .ref qs, .int (nI fe), .int (nI te), .int (nI kk), .ref qt, .ref qx, .ref qy, .int no, .int nt, .ref qo, .ref qz, .ref qi, .ref qv, .int fd])), (qo, .inl (cI, 4, .inl fmf)), (qz, .inl (cI, 4, .inl szf)), (qi, .inl (cI, 240, .inl imf))]) [3, 0, 1, 2] (by decide) rfl
      exact W.iret (v := nI (q - 1)) hx hb hr (fun t ht hW => ⟨⟨_, (gG w1 m1 d (q - 1), gV v1 w1 m1 d (q - 1), gH v1 w1 m1 d cap (q - 1), gC v1 w1 m1 d cap (q - 1), gA v1 w1 m1 d cap sh (q - 1)), rfl, (by rw [hs, wb_yes (B := (fun k => decide (strg it1 n1 sh < gA v1 w1 m1 d cap sh k))) c_8 (decide_eq_true c_24)]), by rw [ht]; exact hP9, hD9⟩, hS.F ht⟩) hS.2.2 dX10_brokenAt_29

set_option maxHeartbeats 4000000 in
set_option maxRecDepth 100000 in
theorem c_X10_broken {l : Launch} {D : va_G} {cI cS cP : ClassId} {sz : Nat} {m0 qk qp qr qc qm qb qf qs qt qx qy qo qz qi qv : Nat} {d sh low high nb cap sw np fe te kk : Nat} {le mo kd am wt md no nt fd : Int32} {z1 z2 z3 z4 z5 : Int64} {fmf szf imf : Nat → Int32} {n1 : Nat} {it1 : Nat → Int32} (hd : d ≤ 50) (hsh : sh ≤ d) (hc1 : 1 ≤ cap) (hc2 : cap ≤ 1000) (hn1 : n1 ≤ 60) (hG1 : gREL fmf szf imf 1 n1 it1) (hkd : ¬ kd = 0 ↔ 0 < am) : Met l yX10_broken wsX10_broken ({ frames := 4, cells := 0, slots := 0, locals := 93 }) (PC D (TY cI cS cP) [.ref m0] sz [(m0, .inr (10, [.ref qk, .int (nI d), .int (nI sh), .int (nI low), .int (nI high), .int le, .int mo, .int (nI nb), .ref qp, .ref qr, .ref qc, .ref qm, .ref qb, .int (nI cap), .int kd, .int am, .int wt, .int md, .long z1, .long z2, .long z3, .long z4, .long z5, .int (nI sw), .int (nI np), .ref qf, .ref qs, .int (nI fe), .int (nI te), .int (nI kk), .ref qt, .ref qx, .ref qy, .int no, .int nt, .ref qo, .ref qz, .ref qi, .ref qv, .int fd])), (qo, .inl (cI, 4, .inl fmf)), (qz, .inl (cI, 4, .inl szf)), (qi, .inl (cI, 240, .inl imf))]) (QI D (fun (r : Int32) (u : Int64 × Int64 × Int64 × Int64 × Int64) => r = aBroken am wt md d cap sh (strg it1 n1 sh)) (fun (u : Int64 × Int64 × Int64 × Int64 × Int64) => [(m0, .inr (10, [.ref qk, .int (nI d), .int (nI sh), .int (nI low), .int (nI high), .int le, .int mo, .int (nI nb), .ref qp, .ref qr, .ref qc, .ref qm, .ref qb, .int (nI cap), .int kd, .int am, .int wt, .int md, .long u.1, .long u.2.1, .long u.2.2.1, .long u.2.2.2.1, .long u.2.2.2.2, .int (nI sw), .int (nI np), .ref qf, .ref qs, .int (nI fe), .int (nI te), .int (nI kk), .ref qt, .ref qx, .ref qy, .int no, .int nt, .ref qo, .ref qz, .ref qi, .ref qv, .int fd])), (qo, .inl (cI, 4, .inl fmf)), (qz, .inl (cI, 4, .inl szf)), (qi, .inl (cI, 240, .inl imf))]) (va_A [(m0, .inr (10, [.ref qk, .int (nI d), .int (nI sh), .int (nI low), .int (nI high), .int le, .int mo, .int (nI nb), .ref qp, .ref qr, .ref qc, .ref qm, .ref qb, .int (nI cap), .int kd, .int am, .int wt, .int md, .long z1, .long z2, .long z3, .long z4, .long z5, .int (nI sw), .int (nI np), .ref qf, .ref qs, .int (nI fe), .int (nI te), .int (nI kk), .ref qt, .ref qx, .ref qy, .int no, .int nt, .ref qo, .ref qz, .ref qi, .ref qv, .int fd])), (qo, .inl (cI, 4, .inl fmf)), (qz, .inl (cI, 4, .inl szf)), (qi, .inl (cI, 240, .inl imf))] sz)) 0 0 (va_A [(m0, .inr (10, [.ref qk, .int (nI d), .int (nI sh), .int (nI low), .int (nI high), .int le, .int mo, .int (nI nb), .ref qp, .ref qr, .ref qc, .ref qm, .ref qb, .int (nI cap), .int kd, .int am, .int wt, .int md, .long z1, .long z2, .long z3, .long z4, .long z5, .int (nI sw), .int (nI np), .ref qf, .ref qs, .int (nI fe), .int (nI te), .int (nI kk), .ref qt, .ref qx, .ref qy, .int no, .int nt, .ref qo, .ref qz, .ref qi, .ref qv, .int fd])), (qo, .inl (cI, 4, .inl fmf)), (qz, .inl (cI, 4, .inl szf)), (qi, .inl (cI, 240, .inl imf))] sz) := by
  refine Met.ofW (cc := cX10_broken) (maxL := 1) (ret := (some .int)) (by decide) rfl ?_
  intro p e s m args below meth c s₁ B hml hv
  obtain ⟨rfl, hsz, hP, hK, hD0, hN⟩ := hv
  have hx := B.exec
  have hb := B.bytes
  have hr := B.returns
  have hts := atoms_spec (ws := wsX10_broken) B.pre
  have hown : s.vm.findClass RX10 = some m.cls := findClass_of_methodNamed B.named
  have hlocks := B.notSynchronized
  subst hsz
  have iX10 : ∀ w ∈ u_ws RX10 TX10 40, w ∈ wsX10_broken := by decide +kernel
  have hD := hD0.self (sz := s.heap.size)
  generalize hAe : va_A [(m0, .inr (10, [.ref qk, .int (nI d), .int (nI sh), .int (nI low), .int (nI high), .int le, .int mo, .int (nI nb), .ref qp, .ref qr, .ref qc, .ref qm, .ref qb, .int (nI cap), .int kd, .int am, .int wt, .int md, .long z1, .long z2, .long z3, .long z4, .long z5, .int (nI sw), .int (nI np), .ref qf, .ref qs, .int (nI fe), .int (nI te), .int (nI kk), .ref qt, .ref qx, .ref qy, .int no, .int nt, .ref qo, .ref qz, .ref qi, .ref qv, .int fd])), (qo, .inl (cI, 4, .inl fmf)), (qz, .inl (cI, 4, .inl szf)), (qi, .inl (cI, 240, .inl imf))] s.heap.size = A at hD ⊢
  have hA : ∀ q : Nat, s.heap.size ≤ q → A q := fun q h => by rw [← hAe]; exact Or.inr h
  have hS : va_S A s.heap s.heap [] := va_S.rf
  have hP : va_P D vwCl [(m0, .inr (10, [.ref qk, .int (nI d), .int (nI sh), .int (nI low), .int (nI high), .int le, .int mo, .int (nI nb), .ref qp, .ref qr, .ref qc, .ref qm, .ref qb, .int (nI cap), .int kd, .int am, .int wt, .int md, .long z1, .long z2, .long z3, .long z4, .long z5, .int (nI sw), .int (nI np), .ref qf, .ref qs, .int (nI fe), .int (nI te), .int (nI kk), .ref qt, .ref qx, .ref qy, .int no, .int nt, .ref qo, .ref qz, .ref qi, .ref qv, .int fd])), (qo, .inl (cI, 4, .inl fmf)), (qz, .inl (cI, 4, .inl szf)), (qi, .inl (cI, 240, .inl imf))] s.heap := hP
  have hl := lv_entry ([.ref m0]) (n := 1) (Nat.le_of_ble_eq_true rfl)
  rw [lg_entry_eq]
  generalize (lg_sl ([.ref m0]) ++ List.replicate (1 - (lg_sl ([.ref m0])).length) Slot.unset).toArray = ls at hl ⊢
  have hl : lv_has ls 1 [(0, .ref m0)] := hl
  refine lv_aload_n hx hb dX10_broken_0 rfl (lv_at hl 0 rfl) ?_
  refine va_get (D := D) (ci := 10) (v := .int kd) (C := RX10) (T := TX10) (N := 40) hx hb hts iX10 hown hK hP 0 rfl rfl 14 (by decide) (hts (.fieldLink RX10 133 "DeepHoleModel" "kicked" "Z") (by decide +kernel)) (fun _ h9 => h9) rfl dX10_broken_1 ?_
  refine lv_if_eq (tgt := 26) hx hb dX10_broken_4 (by decide) (fun c_4 => ?_) (fun c_4 => ?_)
  ·
    refine lv_bipush (v := (-3)) hx hb dX10_broken_26 (by decide) ?_
    have hP9 := hP.sub (ws' := [(m0, .inr (10, [.ref qk, .int (nI d), .int (nI sh), .int (nI low), .int (nI high), .int le, .int mo, .int (nI nb), .ref qp, .ref qr, .ref qc, .ref qm, .ref qb, .int (nI cap), .int kd, .int am, .int wt, .int md, .long z1, .long z2, .long z3, .long z4, .long z5, .int (nI sw), .int (nI np), .ref qf, .ref qs, .int (nI fe), .int (nI te), .int (nI kk), .ref qt, .ref qx, .ref qy, .int no, .int nt, .ref qo, .ref qz, .ref qi, .ref qv, .int fd])), (qo, .inl (cI, 4, .inl fmf)), (qz, .inl (cI, 4, .inl szf)), (qi, .inl (cI, 240, .inl imf))]) [0, 1, 2, 3] rfl
    have hD9 := hD.sub (ws' := [(m0, .inr (10, [.ref qk, .int (nI d), .int (nI sh), .int (nI low), .int (nI high), .int le, .int mo, .int (nI nb), .ref qp, .ref qr, .ref qc, .ref qm, .ref qb, .int (nI cap), .int kd, .int am, .int wt, .int md, .long z1, .long z2, .long z3, .long z4, .long z5, .int (nI sw), .int (nI np), .ref qf, .ref qs, .int (nI fe), .int (nI te), .int (nI kk), .ref qt, .ref qx, .ref qy, .int no, .int nt, .ref qo, .ref qz, .ref qi, .ref qv, .int fd])), (qo, .inl (cI, 4, .inl fmf)), (qz, .inl (cI, 4, .inl szf)), (qi, .inl (cI, 240, .inl imf))]) [0, 1, 2, 3] (by decide) rfl
    exact W.iret (v := (-3)) hx hb hr (fun t ht hW => ⟨⟨_, (z1, z2, z3, z4, z5), rfl, (by unfold aBroken; rw [if_neg (fun h => hkd.mpr h c_4)]), by rw [ht]; exact hP9, hD9⟩, hS.F ht⟩) hS.2.2 dX10_broken_28
  ·
    refine lv_aload_n hx hb dX10_broken_7 rfl (lv_at hl 0 rfl) ?_
    refine lv_aload_n hx hb dX10_broken_8 rfl (lv_at hl 0 rfl) ?_
    refine va_get (D := D) (ci := 10) (v := .int am) (C := RX10) (T := TX10) (N := 40) hx hb hts iX10 hown hK hP 0 rfl rfl 15 (by decide) (hts (.fieldLink RX10 137 "DeepHoleModel" "volume" "I") (by decide +kernel)) (fun _ h9 => h9) rfl dX10_broken_9 ?_
    refine lv_aload_n hx hb dX10_broken_12 rfl (lv_at hl 0 rfl) ?_
    refine va_get (D := D) (ci := 10) (v := .int wt) (C := RX10) (T := TX10) (N := 40) hx hb hts iX10 hown hK hP 0 rfl rfl 16 (by decide) (hts (.fieldLink RX10 140 "DeepHoleModel" "weight" "I") (by decide +kernel)) (fun _ h9 => h9) rfl dX10_broken_13 ?_
    refine lv_aload_n hx hb dX10_broken_16 rfl (lv_at hl 0 rfl) ?_
    refine va_get (D := D) (ci := 10) (v := .int md) (C := RX10) (T := TX10) (N := 40) hx hb hts iX10 hown hK hP 0 rfl rfl 17 (by decide) (hts (.fieldLink RX10 143 "DeepHoleModel" "mud" "I") (by decide +kernel)) (fun _ h9 => h9) rfl dX10_broken_17 ?_
    refine w_V (wc := [(m0, .inr (10, [.ref qk, .int (nI d), .int (nI sh), .int (nI low), .int (nI high), .int le, .int mo, .int (nI nb), .ref qp, .ref qr, .ref qc, .ref qm, .ref qb, .int (nI cap), .int kd, .int am, .int wt, .int md, .long z1, .long z2, .long z3, .long z4, .long z5, .int (nI sw), .int (nI np), .ref qf, .ref qs, .int (nI fe), .int (nI te), .int (nI kk), .ref qt, .ref qx, .ref qy, .int no, .int nt, .ref qo, .ref qz, .ref qi, .ref qv, .int fd])), (qo, .inl (cI, 4, .inl fmf)), (qz, .inl (cI, 4, .inl szf)), (qi, .inl (cI, 240, .inl imf))]) (wr := []) (b := m0) ⟨hx, hb, hml, hown, hts⟩ [.int am, .int wt, .int md] [] (c_X10_brokenAt (it1 := it1) (n1 := n1) (by first | assumption | omega) (by first | assumption | omega) (by first | assumption | omega) (by first | assumption | omega) (by first | assumption | omega) (by first | assumption | omega)) (cwV 3 hts gX10_broken_X10_brokenAt rfl rfl rfl (by decide +kernel) ⟨Nat.le_of_ble_eq_true rfl, Nat.le_of_ble_eq_true rfl⟩) hK hN hP hD hS hA [0, 1, 2, 3] [] rfl (by decide) rfl (by decide) (by decide) (ci := 10) rfl rfl rfl rfl hl.1 rfl (Nat.le_of_ble_eq_true rfl) dX10_broken_20 ⟨Nat.zero_le _, Nat.zero_le _⟩ (fun r u H locs hw hP hD hS => ?_)
    obtain ⟨u_1, u_2, u_3, u_4, u_5⟩ := u
    try dsimp only at hw
    have hP : va_P D vwCl [(m0, .inr (10, [.ref qk, .int (nI d), .int (nI sh), .int (nI low), .int (nI high), .int le, .int mo, .int (nI nb), .ref qp, .ref qr, .ref qc, .ref qm, .ref qb, .int (nI cap), .int kd, .int am, .int wt, .int md, .long u_1, .long u_2, .long u_3, .long u_4, .long u_5, .int (nI sw), .int (nI np), .ref qf, .ref qs, .int (nI fe), .int (nI te), .int (nI kk), .ref qt, .ref qx, .ref qy, .int no, .int nt, .ref qo, .ref qz, .ref qi, .ref qv, .int fd])), (qo, .inl (cI, 4, .inl fmf)), (qz, .inl (cI, 4, .inl szf)), (qi, .inl (cI, 240, .inl imf))] H := hP
    have hD : va_D A [(m0, .inr (10, [.ref qk, .int (nI d), .int (nI sh), .int (nI low), .int (nI high), .int le, .int mo, .int (nI nb), .ref qp, .ref qr, .ref qc, .ref qm, .ref qb, .int (nI cap), .int kd, .int am, .int wt, .int md, .long u_1, .long u_2, .long u_3, .long u_4, .long u_5, .int (nI sw), .int (nI np), .ref qf, .ref qs, .int (nI fe), .int (nI te), .int (nI kk), .ref qt, .ref qx, .ref qy, .int no, .int nt, .ref qo, .ref qz, .ref qi, .ref qv, .int fd])), (qo, .inl (cI, 4, .inl fmf)), (qz, .inl (cI, 4, .inl szf)), (qi, .inl (cI, 240, .inl imf))] := hD
    subst hw
    refine lv_goto (tgt := 28) hx hb dX10_broken_23 (by decide) ?_
    have hP9 := hP.sub (ws' := [(m0, .inr (10, [.ref qk, .int (nI d), .int (nI sh), .int (nI low), .int (nI high), .int le, .int mo, .int (nI nb), .ref qp, .ref qr, .ref qc, .ref qm, .ref qb, .int (nI cap), .int kd, .int am, .int wt, .int md, .long u_1, .long u_2, .long u_3, .long u_4, .long u_5, .int (nI sw), .int (nI np), .ref qf, .ref qs, .int (nI fe), .int (nI te), .int (nI kk), .ref qt, .ref qx, .ref qy, .int no, .int nt, .ref qo, .ref qz, .ref qi, .ref qv, .int fd])), (qo, .inl (cI, 4, .inl fmf)), (qz, .inl (cI, 4, .inl szf)), (qi, .inl (cI, 240, .inl imf))]) [0, 1, 2, 3] rfl
    have hD9 := hD.sub (ws' := [(m0, .inr (10, [.ref qk, .int (nI d), .int (nI sh), .int (nI low), .int (nI high), .int le, .int mo, .int (nI nb), .ref qp, .ref qr, .ref qc, .ref qm, .ref qb, .int (nI cap), .int kd, .int am, .int wt, .int md, .long u_1, .long u_2, .long u_3, .long u_4, .long u_5, .int (nI sw), .int (nI np), .ref qf, .ref qs, .int (nI fe), .int (nI te), .int (nI kk), .ref qt, .ref qx, .ref qy, .int no, .int nt, .ref qo, .ref qz, .ref qi, .ref qv, .int fd])), (qo, .inl (cI, 4, .inl fmf)), (qz, .inl (cI, 4, .inl szf)), (qi, .inl (cI, 240, .inl imf))]) [0, 1, 2, 3] (by decide) rfl
    exact W.iret (v := wb (fun k => decide (strg it1 n1 sh < gA am wt md d cap sh k)) (d + 1)) hx hb hr (fun t ht hW => ⟨⟨_, (u_1, u_2, u_3, u_4, u_5), rfl, (by unfold aBroken; rw [if_pos (hkd.mp c_4)]), by rw [ht]; exact hP9, hD9⟩, hS.F ht⟩) hS.2.2 dX10_broken_28

set_option maxHeartbeats 4000000 in
set_option maxRecDepth 100000 in
theorem c_X10_bears {l : Launch} {D : va_G} {cI cS cP : ClassId} {sz : Nat} {m0 qk qp qr qc qm qb qf qs qt qx qy qo qz qi qv : Nat} {d sh low high nb cap sw np fe te kk : Nat} {le mo kd am wt md no nt fd : Int32} {z1 z2 z3 z4 z5 : Int64} {fmf szf imf : Nat → Int32} {n1 : Nat} {it1 : Nat → Int32} {w1 m1 : Int32} (hd : d ≤ 50) (hsh : sh ≤ d) (hc1 : 1 ≤ cap) (hc2 : cap ≤ 1000) (hn1 : n1 ≤ 60) (hG1 : gREL fmf szf imf 1 n1 it1) : Met l yX10_bears wsX10_bears ({ frames := 4, cells := 0, slots := 0, locals := 93 }) (PC D (TY cI cS cP) [.ref m0, .int w1, .int m1] sz [(m0, .inr (10, [.ref qk, .int (nI d), .int (nI sh), .int (nI low), .int (nI high), .int le, .int mo, .int (nI nb), .ref qp, .ref qr, .ref qc, .ref qm, .ref qb, .int (nI cap), .int kd, .int am, .int wt, .int md, .long z1, .long z2, .long z3, .long z4, .long z5, .int (nI sw), .int (nI np), .ref qf, .ref qs, .int (nI fe), .int (nI te), .int (nI kk), .ref qt, .ref qx, .ref qy, .int no, .int nt, .ref qo, .ref qz, .ref qi, .ref qv, .int fd])), (qo, .inl (cI, 4, .inl fmf)), (qz, .inl (cI, 4, .inl szf)), (qi, .inl (cI, 240, .inl imf))]) (QI D (fun (r : Int32) (u : Int64 × Int64 × Int64 × Int64 × Int64) => r = aBears d cap sh (strg it1 n1 sh) w1 m1) (fun (u : Int64 × Int64 × Int64 × Int64 × Int64) => [(m0, .inr (10, [.ref qk, .int (nI d), .int (nI sh), .int (nI low), .int (nI high), .int le, .int mo, .int (nI nb), .ref qp, .ref qr, .ref qc, .ref qm, .ref qb, .int (nI cap), .int kd, .int am, .int wt, .int md, .long u.1, .long u.2.1, .long u.2.2.1, .long u.2.2.2.1, .long u.2.2.2.2, .int (nI sw), .int (nI np), .ref qf, .ref qs, .int (nI fe), .int (nI te), .int (nI kk), .ref qt, .ref qx, .ref qy, .int no, .int nt, .ref qo, .ref qz, .ref qi, .ref qv, .int fd])), (qo, .inl (cI, 4, .inl fmf)), (qz, .inl (cI, 4, .inl szf)), (qi, .inl (cI, 240, .inl imf))]) (va_A [(m0, .inr (10, [.ref qk, .int (nI d), .int (nI sh), .int (nI low), .int (nI high), .int le, .int mo, .int (nI nb), .ref qp, .ref qr, .ref qc, .ref qm, .ref qb, .int (nI cap), .int kd, .int am, .int wt, .int md, .long z1, .long z2, .long z3, .long z4, .long z5, .int (nI sw), .int (nI np), .ref qf, .ref qs, .int (nI fe), .int (nI te), .int (nI kk), .ref qt, .ref qx, .ref qy, .int no, .int nt, .ref qo, .ref qz, .ref qi, .ref qv, .int fd])), (qo, .inl (cI, 4, .inl fmf)), (qz, .inl (cI, 4, .inl szf)), (qi, .inl (cI, 240, .inl imf))] sz)) 0 0 (va_A [(m0, .inr (10, [.ref qk, .int (nI d), .int (nI sh), .int (nI low), .int (nI high), .int le, .int mo, .int (nI nb), .ref qp, .ref qr, .ref qc, .ref qm, .ref qb, .int (nI cap), .int kd, .int am, .int wt, .int md, .long z1, .long z2, .long z3, .long z4, .long z5, .int (nI sw), .int (nI np), .ref qf, .ref qs, .int (nI fe), .int (nI te), .int (nI kk), .ref qt, .ref qx, .ref qy, .int no, .int nt, .ref qo, .ref qz, .ref qi, .ref qv, .int fd])), (qo, .inl (cI, 4, .inl fmf)), (qz, .inl (cI, 4, .inl szf)), (qi, .inl (cI, 240, .inl imf))] sz) := by
  refine Met.ofW (cc := cX10_bears) (maxL := 4) (ret := (some .int)) (by decide) rfl ?_
  intro p e s m args below meth c s₁ B hml hv
  obtain ⟨rfl, hsz, hP, hK, hD0, hN⟩ := hv
  have hx := B.exec
  have hb := B.bytes
  have hr := B.returns
  have hts := atoms_spec (ws := wsX10_bears) B.pre
  have hown : s.vm.findClass RX10 = some m.cls := findClass_of_methodNamed B.named
  have hlocks := B.notSynchronized
  subst hsz
  have iX10 : ∀ w ∈ u_ws RX10 TX10 40, w ∈ wsX10_bears := by decide +kernel
  have hD := hD0.self (sz := s.heap.size)
  generalize hAe : va_A [(m0, .inr (10, [.ref qk, .int (nI d), .int (nI sh), .int (nI low), .int (nI high), .int le, .int mo, .int (nI nb), .ref qp, .ref qr, .ref qc, .ref qm, .ref qb, .int (nI cap), .int kd, .int am, .int wt, .int md, .long z1, .long z2, .long z3, .long z4, .long z5, .int (nI sw), .int (nI np), .ref qf, .ref qs, .int (nI fe), .int (nI te), .int (nI kk), .ref qt, .ref qx, .ref qy, .int no, .int nt, .ref qo, .ref qz, .ref qi, .ref qv, .int fd])), (qo, .inl (cI, 4, .inl fmf)), (qz, .inl (cI, 4, .inl szf)), (qi, .inl (cI, 240, .inl imf))] s.heap.size = A at hD ⊢
  have hA : ∀ q : Nat, s.heap.size ≤ q → A q := fun q h => by rw [← hAe]; exact Or.inr h
  have hS : va_S A s.heap s.heap [] := va_S.rf
  have hP : va_P D vwCl [(m0, .inr (10, [.ref qk, .int (nI d), .int (nI sh), .int (nI low), .int (nI high), .int le, .int mo, .int (nI nb), .ref qp, .ref qr, .ref qc, .ref qm, .ref qb, .int (nI cap), .int kd, .int am, .int wt, .int md, .long z1, .long z2, .long z3, .long z4, .long z5, .int (nI sw), .int (nI np), .ref qf, .ref qs, .int (nI fe), .int (nI te), .int (nI kk), .ref qt, .ref qx, .ref qy, .int no, .int nt, .ref qo, .ref qz, .ref qi, .ref qv, .int fd])), (qo, .inl (cI, 4, .inl fmf)), (qz, .inl (cI, 4, .inl szf)), (qi, .inl (cI, 240, .inl imf))] s.heap := hP
  have hl := lv_entry ([.ref m0, .int w1, .int m1]) (n := 4) (Nat.le_of_ble_eq_true rfl)
  rw [lg_entry_eq]
  generalize (lg_sl ([.ref m0, .int w1, .int m1]) ++ List.replicate (4 - (lg_sl ([.ref m0, .int w1, .int m1])).length) Slot.unset).toArray = ls at hl ⊢
  have hl : lv_has ls 4 [(0, .ref m0), (1, .int w1), (2, .int m1)] := hl
  refine lv_iload_n hx hb dX10_bears_0 rfl (lv_at hl 1 rfl) ?_
  refine lv_i2l (v := w1.toInt64) hx hb dX10_bears_1 rfl ?_
  refine lv_lconst (v := 1) hx hb dX10_bears_2 (by decide) ?_
  refine lv_ldc2 hx hb hown (hts (.constantLong RX10 87 (3000)) (by decide +kernel)) dX10_bears_3 ?_
  refine q_S (tys := TY cI cS cP) (D := D) ⟨hx, hb, hml, hown, hts⟩ [.long w1.toInt64, .long ((1 : Int32).toInt64), .long ((3000 : Int32).toInt64)] [] c_X10_in (va_cwS 3 hts gX10_bears_X10_in rfl rfl rfl (by decide +kernel) ⟨Nat.le_of_ble_eq_true rfl, Nat.le_of_ble_eq_true rfl⟩) hK hN rfl hl.1 rfl (Nat.le_of_ble_eq_true rfl) dX10_bears_6 ⟨Nat.zero_le _, Nat.zero_le _⟩ (fun r hw => ?_)
  subst hw
  refine lv_if_eq (tgt := 24) hx hb dX10_bears_9 (by decide) (fun c_9 => ?_) (fun c_9 => ?_)
  ·
    have c_9 := bz c_9
    refine lv_bipush (v := (-2)) hx hb dX10_bears_24 (by decide) ?_
    have hP9 := hP.sub (ws' := [(m0, .inr (10, [.ref qk, .int (nI d), .int (nI sh), .int (nI low), .int (nI high), .int le, .int mo, .int (nI nb), .ref qp, .ref qr, .ref qc, .ref qm, .ref qb, .int (nI cap), .int kd, .int am, .int wt, .int md, .long z1, .long z2, .long z3, .long z4, .long z5, .int (nI sw), .int (nI np), .ref qf, .ref qs, .int (nI fe), .int (nI te), .int (nI kk), .ref qt, .ref qx, .ref qy, .int no, .int nt, .ref qo, .ref qz, .ref qi, .ref qv, .int fd])), (qo, .inl (cI, 4, .inl fmf)), (qz, .inl (cI, 4, .inl szf)), (qi, .inl (cI, 240, .inl imf))]) [0, 1, 2, 3] rfl
    have hD9 := hD.sub (ws' := [(m0, .inr (10, [.ref qk, .int (nI d), .int (nI sh), .int (nI low), .int (nI high), .int le, .int mo, .int (nI nb), .ref qp, .ref qr, .ref qc, .ref qm, .ref qb, .int (nI cap), .int kd, .int am, .int wt, .int md, .long z1, .long z2, .long z3, .long z4, .long z5, .int (nI sw), .int (nI np), .ref qf, .ref qs, .int (nI fe), .int (nI te), .int (nI kk), .ref qt, .ref qx, .ref qy, .int no, .int nt, .ref qo, .ref qz, .ref qi, .ref qv, .int fd])), (qo, .inl (cI, 4, .inl fmf)), (qz, .inl (cI, 4, .inl szf)), (qi, .inl (cI, 240, .inl imf))]) [0, 1, 2, 3] (by decide) rfl
    exact W.iret (v := (-2)) hx hb hr (fun t ht hW => ⟨⟨_, (z1, z2, z3, z4, z5), rfl, (by unfold aBears; first | rw [if_neg (fun h => c_9 h.1)] | rw [if_neg (fun h => c_21 h.2)]), by rw [ht]; exact hP9, hD9⟩, hS.F ht⟩) hS.2.2 dX10_bears_26
  ·
    have c_9 := bnz c_9
    refine lv_iload_n hx hb dX10_bears_12 rfl (lv_at hl 2 rfl) ?_
    refine lv_i2l (v := m1.toInt64) hx hb dX10_bears_13 rfl ?_
    refine lv_lconst (v := 0) hx hb dX10_bears_14 (by decide) ?_
    refine lv_ldc2 hx hb hown (hts (.constantLong RX10 87 (3000)) (by decide +kernel)) dX10_bears_15 ?_
    refine q_S (tys := TY cI cS cP) (D := D) ⟨hx, hb, hml, hown, hts⟩ [.long m1.toInt64, .long ((0 : Int32).toInt64), .long ((3000 : Int32).toInt64)] [] c_X10_in (va_cwS 3 hts gX10_bears_X10_in rfl rfl rfl (by decide +kernel) ⟨Nat.le_of_ble_eq_true rfl, Nat.le_of_ble_eq_true rfl⟩) hK hN rfl hl.1 rfl (Nat.le_of_ble_eq_true rfl) dX10_bears_18 ⟨Nat.zero_le _, Nat.zero_le _⟩ (fun r hw => ?_)
    subst hw
    refine lv_if_ne (tgt := 27) hx hb dX10_bears_21 (by decide) (fun c_21 => ?_) (fun c_21 => ?_)
    ·
      have c_21 := bnz c_21
      refine lv_aload_n hx hb dX10_bears_27 rfl (lv_at hl 0 rfl) ?_
      refine va_get (D := D) (ci := 10) (v := .int (nI d)) (C := RX10) (T := TX10) (N := 40) hx hb hts iX10 hown hK hP 0 rfl rfl 1 (by decide) (hts (.fieldLink RX10 73 "DeepHoleModel" "depth" "I") (by decide +kernel)) (fun _ h9 => h9) rfl dX10_bears_28 ?_
      refine lv_if_ne (tgt := 37) hx hb dX10_bears_31 (by decide) (fun c_31 => ?_) (fun c_31 => ?_)
      ·
        have c_31 := n_ne (a := d) (b := 0) c_31 (by omega) (by omega)
        refine lv_sipush (v := 1000) hx hb dX10_bears_37 (by decide) ?_
        refine lv_istore_n (lv' := [(3, .int 1000), (0, .ref m0), (1, .int w1), (2, .int m1)]) hx hb dX10_bears_40 rfl hl (by decide) rfl (fun ls hl => ?_)
        refine lp_w (I := fun zz9 H locs ls => ∃ (v : Nat) (z1 z2 z3 z4 z5 : Int64), zz9 = v ∧ (v ≤ 1000) ∧ (gb (fun v => wb (fun k => decide (strg it1 n1 sh < gA (nI v) w1 m1 d cap sh k)) (d + 1)) 1000 = gb (fun v => wb (fun k => decide (strg it1 n1 sh < gA (nI v) w1 m1 d cap sh k)) (d + 1)) v) ∧ va_P D vwCl [(m0, .inr (10, [.ref qk, .int (nI d), .int (nI sh), .int (nI low), .int (nI high), .int le, .int mo, .int (nI nb), .ref qp, .ref qr, .ref qc, .ref qm, .ref qb, .int (nI cap), .int kd, .int am, .int wt, .int md, .long z1, .long z2, .long z3, .long z4, .long z5, .int (nI sw), .int (nI np), .ref qf, .ref qs, .int (nI fe), .int (nI te), .int (nI kk), .ref qt, .ref qx, .ref qy, .int no, .int nt, .ref qo, .ref qz, .ref qi, .ref qv, .int fd])), (qo, .inl (cI, 4, .inl fmf)), (qz, .inl (cI, 4, .inl szf)), (qi, .inl (cI, 240, .inl imf))] H ∧ va_D A [(m0, .inr (10, [.ref qk, .int (nI d), .int (nI sh), .int (nI low), .int (nI high), .int le, .int mo, .int (nI nb), .ref qp, .ref qr, .ref qc, .ref qm, .ref qb, .int (nI cap), .int kd, .int am, .int wt, .int md, .long z1, .long z2, .long z3, .long z4, .long z5, .int (nI sw), .int (nI np), .ref qf, .ref qs, .int (nI fe), .int (nI te), .int (nI kk), .ref qt, .ref qx, .ref qy, .int no, .int nt, .ref qo, .ref qz, .ref qi, .ref qv, .int fd])), (qo, .inl (cI, 4, .inl fmf)), (qz, .inl (cI, 4, .inl szf)), (qi, .inl (cI, 240, .inl imf))] ∧ va_S A s.heap H locs ∧ lv_has ls 4 [(0, .ref m0), (1, .int w1), (2, .int m1), (3, .int (nI v))]) ?_ (1000) ⟨1000, z1, z2, z3, z4, z5, rfl, (by omega), (rfl), hP.sub [0, 1, 2, 3] rfl, hD.sub [0, 1, 2, 3] (by decide) rfl, hS, lv_sub hl [1, 2, 3, 0] rfl⟩
        intro n_41 H locs ls ih_41 hI
        obtain ⟨v, z1, z2, z3, z4, z5, hn_41, hv, hs, hP, hD, hS, hl⟩ := hI
        refine lv_iload_n hx hb dX10_bears_41 rfl (lv_at hl 3 rfl) ?_
        refine lv_if_le (tgt := 62) hx hb dX10_bears_42 (by decide) (fun c_42 => ?_) (fun c_42 => ?_)
        ·
          have c_42 := n_le (a := v) (b := 0) c_42 (by omega) (by omega)
          refine lv_iload_n hx hb dX10_bears_62 rfl (lv_at hl 3 rfl) ?_
          have hP9 := hP.sub (ws' := [(m0, .inr (10, [.ref qk, .int (nI d), .int (nI sh), .int (nI low), .int (nI high), .int le, .int mo, .int (nI nb), .ref qp, .ref qr, .ref qc, .ref qm, .ref qb, .int (nI cap), .int kd, .int am, .int wt, .int md, .long z1, .long z2, .long z3, .long z4, .long z5, .int (nI sw), .int (nI np), .ref qf, .ref qs, .int (nI fe), .int (nI te), .int (nI kk), .ref qt, .ref qx, .ref qy, .int no, .int nt, .ref qo, .ref qz, .ref qi, .ref qv, .int fd])), (qo, .inl (cI, 4, .inl fmf)), (qz, .inl (cI, 4, .inl szf)), (qi, .inl (cI, 240, .inl imf))]) [0, 1, 2, 3] rfl
          have hD9 := hD.sub (ws' := [(m0, .inr (10, [.ref qk, .int (nI d), .int (nI sh), .int (nI low), .int (nI high), .int le, .int mo, .int (nI nb), .ref qp, .ref qr, .ref qc, .ref qm, .ref qb, .int (nI cap), .int kd, .int am, .int wt, .int md, .long z1, .long z2, .long z3, .long z4, .long z5, .int (nI sw), .int (nI np), .ref qf, .ref qs, .int (nI fe), .int (nI te), .int (nI kk), .ref qt, .ref qx, .ref qy, .int no, .int nt, .ref qo, .ref qz, .ref qi, .ref qv, .int fd])), (qo, .inl (cI, 4, .inl fmf)), (qz, .inl (cI, 4, .inl szf)), (qi, .inl (cI, 240, .inl imf))]) [0, 1, 2, 3] (by decide) rfl
          exact W.iret (v := nI v) hx hb hr (fun t ht hW => ⟨⟨_, (z1, z2, z3, z4, z5), rfl, (by unfold aBears; rw [if_pos ⟨c_9, c_21⟩, if_neg c_31, hs]; rw [show v = 0 by omega]; rfl), by rw [ht]; exact hP9, hD9⟩, hS.F ht⟩) hS.2.2 dX10_bears_63
        ·
          have c_42 := n_nle (a := v) (b := 0) c_42 (by omega) (by omega)
          refine lv_aload_n hx hb dX10_bears_45 rfl (lv_at hl 0 rfl) ?_
          refine lv_iload_n hx hb dX10_bears_46 rfl (lv_at hl 3 rfl) ?_
          refine lv_iload_n hx hb dX10_bears_47 rfl (lv_at hl 1 rfl) ?_
          refine lv_iload_n hx hb dX10_bears_48 rfl (lv_at hl 2 rfl) ?_
          refine w_V (wc := [(m0, .inr (10, [.ref qk, .int (nI d), .int (nI sh), .int (nI low), .int (nI high), .int le, .int mo, .int (nI nb), .ref qp, .ref qr, .ref qc, .ref qm, .ref qb, .int (nI cap), .int kd, .int am, .int wt, .int md, .long z1, .long z2, .long z3, .long z4, .long z5, .int (nI sw), .int (nI np), .ref qf, .ref qs, .int (nI fe), .int (nI te), .int (nI kk), .ref qt, .ref qx, .ref qy, .int no, .int nt, .ref qo, .ref qz, .ref qi, .ref qv, .int fd])), (qo, .inl (cI, 4, .inl fmf)), (qz, .inl (cI, 4, .inl szf)), (qi, .inl (cI, 240, .inl imf))]) (wr := []) (b := m0) ⟨hx, hb, hml, hown, hts⟩ [.int (nI v), .int w1, .int m1] [] (c_X10_brokenAt (it1 := it1) (n1 := n1) (by first | assumption | omega) (by first | assumption | omega) (by first | assumption | omega) (by first | assumption | omega) (by first | assumption | omega) (by first | assumption | omega)) (cwV 3 hts gX10_bears_X10_brokenAt rfl rfl rfl (by decide +kernel) ⟨Nat.le_of_ble_eq_true rfl, Nat.le_of_ble_eq_true rfl⟩) hK hN hP hD hS hA [0, 1, 2, 3] [] rfl (by decide) rfl (by decide) (by decide) (ci := 10) rfl rfl rfl rfl hl.1 rfl (Nat.le_of_ble_eq_true rfl) dX10_bears_49 ⟨Nat.zero_le _, Nat.zero_le _⟩ (fun r u H locs hw hP hD hS => ?_)
          obtain ⟨u_1, u_2, u_3, u_4, u_5⟩ := u
          try dsimp only at hw
          have hP : va_P D vwCl [(m0, .inr (10, [.ref qk, .int (nI d), .int (nI sh), .int (nI low), .int (nI high), .int le, .int mo, .int (nI nb), .ref qp, .ref qr, .ref qc, .ref qm, .ref qb, .int (nI cap), .int kd, .int am, .int wt, .int md, .long u_1, .long u_2, .long u_3, .long u_4, .long u_5, .int (nI sw), .int (nI np), .ref qf, .ref qs, .int (nI fe), .int (nI te), .int (nI kk), .ref qt, .ref qx, .ref qy, .int no, .int nt, .ref qo, .ref qz, .ref qi, .ref qv, .int fd])), (qo, .inl (cI, 4, .inl fmf)), (qz, .inl (cI, 4, .inl szf)), (qi, .inl (cI, 240, .inl imf))] H := hP
          have hD : va_D A [(m0, .inr (10, [.ref qk, .int (nI d), .int (nI sh), .int (nI low), .int (nI high), .int le, .int mo, .int (nI nb), .ref qp, .ref qr, .ref qc, .ref qm, .ref qb, .int (nI cap), .int kd, .int am, .int wt, .int md, .long u_1, .long u_2, .long u_3, .long u_4, .long u_5, .int (nI sw), .int (nI np), .ref qf, .ref qs, .int (nI fe), .int (nI te), .int (nI kk), .ref qt, .ref qx, .ref qy, .int no, .int nt, .ref qo, .ref qz, .ref qi, .ref qv, .int fd])), (qo, .inl (cI, 4, .inl fmf)), (qz, .inl (cI, 4, .inl szf)), (qi, .inl (cI, 240, .inl imf))] := hD
          subst hw
          refine lv_iconst (v := (-1)) hx hb dX10_bears_52 (by decide) ?_
          refine lv_icmp_eq (tgt := 62) hx hb dX10_bears_53 (by decide) (fun c_53 => ?_) (fun c_53 => ?_)
          ·
            refine lv_iload_n hx hb dX10_bears_62 rfl (lv_at hl 3 rfl) ?_
            have hP9 := hP.sub (ws' := [(m0, .inr (10, [.ref qk, .int (nI d), .int (nI sh), .int (nI low), .int (nI high), .int le, .int mo, .int (nI nb), .ref qp, .ref qr, .ref qc, .ref qm, .ref qb, .int (nI cap), .int kd, .int am, .int wt, .int md, .long u_1, .long u_2, .long u_3, .long u_4, .long u_5, .int (nI sw), .int (nI np), .ref qf, .ref qs, .int (nI fe), .int (nI te), .int (nI kk), .ref qt, .ref qx, .ref qy, .int no, .int nt, .ref qo, .ref qz, .ref qi, .ref qv, .int fd])), (qo, .inl (cI, 4, .inl fmf)), (qz, .inl (cI, 4, .inl szf)), (qi, .inl (cI, 240, .inl imf))]) [0, 1, 2, 3] rfl
            have hD9 := hD.sub (ws' := [(m0, .inr (10, [.ref qk, .int (nI d), .int (nI sh), .int (nI low), .int (nI high), .int le, .int mo, .int (nI nb), .ref qp, .ref qr, .ref qc, .ref qm, .ref qb, .int (nI cap), .int kd, .int am, .int wt, .int md, .long u_1, .long u_2, .long u_3, .long u_4, .long u_5, .int (nI sw), .int (nI np), .ref qf, .ref qs, .int (nI fe), .int (nI te), .int (nI kk), .ref qt, .ref qx, .ref qy, .int no, .int nt, .ref qo, .ref qz, .ref qi, .ref qv, .int fd])), (qo, .inl (cI, 4, .inl fmf)), (qz, .inl (cI, 4, .inl szf)), (qi, .inl (cI, 240, .inl imf))]) [0, 1, 2, 3] (by decide) rfl
            exact W.iret (v := nI v) hx hb hr (fun t ht hW => ⟨⟨_, (u_1, u_2, u_3, u_4, u_5), rfl, (by unfold aBears; rw [if_pos ⟨c_9, c_21⟩, if_neg c_31, hs]; rw [gb_yes (B := (fun v => wb (fun k => decide (strg it1 n1 sh < gA (nI v) w1 m1 d cap sh k)) (d + 1))) (by omega) c_53]), by rw [ht]; exact hP9, hD9⟩, hS.F ht⟩) hS.2.2 dX10_bears_63
          ·
            refine lv_iinc (v := nI (v - 1)) (lv' := [(3, .int (nI (v - 1))), (0, .ref m0), (1, .int w1), (2, .int m1)]) hx hb dX10_bears_56 hl (k := 3) rfl (iinc_m1 (by omega)) (by decide) rfl (fun ls hl => ?_)
            refine lv_goto (tgt := 41) hx hb dX10_bears_59 (by decide) ?_
            exact ih_41 _ _ _ _ (by omega) ⟨v - 1, u_1, u_2, u_3, u_4, u_5, rfl, (by omega), (by rw [hs]; exact gb_no (B := (fun v => wb (fun k => decide (strg it1 n1 sh < gA (nI v) w1 m1 d cap sh k)) (d + 1))) (by omega) c_53), hP.sub [0, 1, 2, 3] rfl, hD.sub [0, 1, 2, 3] (by decide) rfl, hS, lv_sub hl [1, 2, 3, 0] rfl⟩
      ·
        have c_31 := n_eq (a := d) (b := 0) c_31 (by omega) (by omega)
        refine lv_bipush (v := (-3)) hx hb dX10_bears_34 (by decide) ?_
        have hP9 := hP.sub (ws' := [(m0, .inr (10, [.ref qk, .int (nI d), .int (nI sh), .int (nI low), .int (nI high), .int le, .int mo, .int (nI nb), .ref qp, .ref qr, .ref qc, .ref qm, .ref qb, .int (nI cap), .int kd, .int am, .int wt, .int md, .long z1, .long z2, .long z3, .long z4, .long z5, .int (nI sw), .int (nI np), .ref qf, .ref qs, .int (nI fe), .int (nI te), .int (nI kk), .ref qt, .ref qx, .ref qy, .int no, .int nt, .ref qo, .ref qz, .ref qi, .ref qv, .int fd])), (qo, .inl (cI, 4, .inl fmf)), (qz, .inl (cI, 4, .inl szf)), (qi, .inl (cI, 240, .inl imf))]) [0, 1, 2, 3] rfl
        have hD9 := hD.sub (ws' := [(m0, .inr (10, [.ref qk, .int (nI d), .int (nI sh), .int (nI low), .int (nI high), .int le, .int mo, .int (nI nb), .ref qp, .ref qr, .ref qc, .ref qm, .ref qb, .int (nI cap), .int kd, .int am, .int wt, .int md, .long z1, .long z2, .long z3, .long z4, .long z5, .int (nI sw), .int (nI np), .ref qf, .ref qs, .int (nI fe), .int (nI te), .int (nI kk), .ref qt, .ref qx, .ref qy, .int no, .int nt, .ref qo, .ref qz, .ref qi, .ref qv, .int fd])), (qo, .inl (cI, 4, .inl fmf)), (qz, .inl (cI, 4, .inl szf)), (qi, .inl (cI, 240, .inl imf))]) [0, 1, 2, 3] (by decide) rfl
        exact W.iret (v := (-3)) hx hb hr (fun t ht hW => ⟨⟨_, (z1, z2, z3, z4, z5), rfl, (by unfold aBears; rw [if_pos ⟨c_9, c_21⟩, if_pos c_31]), by rw [ht]; exact hP9, hD9⟩, hS.F ht⟩) hS.2.2 dX10_bears_36
    ·
      have c_21 := bz c_21
      refine lv_bipush (v := (-2)) hx hb dX10_bears_24 (by decide) ?_
      have hP9 := hP.sub (ws' := [(m0, .inr (10, [.ref qk, .int (nI d), .int (nI sh), .int (nI low), .int (nI high), .int le, .int mo, .int (nI nb), .ref qp, .ref qr, .ref qc, .ref qm, .ref qb, .int (nI cap), .int kd, .int am, .int wt, .int md, .long z1, .long z2, .long z3, .long z4, .long z5, .int (nI sw), .int (nI np), .ref qf, .ref qs, .int (nI fe), .int (nI te), .int (nI kk), .ref qt, .ref qx, .ref qy, .int no, .int nt, .ref qo, .ref qz, .ref qi, .ref qv, .int fd])), (qo, .inl (cI, 4, .inl fmf)), (qz, .inl (cI, 4, .inl szf)), (qi, .inl (cI, 240, .inl imf))]) [0, 1, 2, 3] rfl
      have hD9 := hD.sub (ws' := [(m0, .inr (10, [.ref qk, .int (nI d), .int (nI sh), .int (nI low), .int (nI high), .int le, .int mo, .int (nI nb), .ref qp, .ref qr, .ref qc, .ref qm, .ref qb, .int (nI cap), .int kd, .int am, .int wt, .int md, .long z1, .long z2, .long z3, .long z4, .long z5, .int (nI sw), .int (nI np), .ref qf, .ref qs, .int (nI fe), .int (nI te), .int (nI kk), .ref qt, .ref qx, .ref qy, .int no, .int nt, .ref qo, .ref qz, .ref qi, .ref qv, .int fd])), (qo, .inl (cI, 4, .inl fmf)), (qz, .inl (cI, 4, .inl szf)), (qi, .inl (cI, 240, .inl imf))]) [0, 1, 2, 3] (by decide) rfl
      exact W.iret (v := (-2)) hx hb hr (fun t ht hW => ⟨⟨_, (z1, z2, z3, z4, z5), rfl, (by unfold aBears; first | rw [if_neg (fun h => c_9 h.1)] | rw [if_neg (fun h => c_21 h.2)]), by rw [ht]; exact hP9, hD9⟩, hS.F ht⟩) hS.2.2 dX10_bears_26
