set_option maxHeartbeats 4000000 in
set_option maxRecDepth 100000 in
theorem c_X10_greatestPore {l : Launch} {D : va_G} {cI cS cP : ClassId} {sz : Nat} {m0 qk qp qr qc qm qb qf qs qt qx qy qo qz qi qv : Nat} {d sh low high nb cap sw np fe te kk : Nat} {le mo kd am wt md no nt fd : Int32} {z1 z2 z3 z4 z5 : Int64} {fmf szf imf : Nat → Int32} {n0 : Nat} {it0 : Nat → Int32} (hd : d ≤ 50) (hsh : sh ≤ d) (hn0 : n0 ≤ 60) (hG0 : gREL fmf szf imf 0 n0 it0) : Met l yX10_greatestPore wsX10_greatestPore ({ frames := 2, cells := 0, slots := 0, locals := 49 }) (PC D (TY cI cS cP) [.ref m0] sz [(m0, .inr (10, [.ref qk, .int (nI d), .int (nI sh), .int (nI low), .int (nI high), .int le, .int mo, .int (nI nb), .ref qp, .ref qr, .ref qc, .ref qm, .ref qb, .int (nI cap), .int kd, .int am, .int wt, .int md, .long z1, .long z2, .long z3, .long z4, .long z5, .int (nI sw), .int (nI np), .ref qf, .ref qs, .int (nI fe), .int (nI te), .int (nI kk), .ref qt, .ref qx, .ref qy, .int no, .int nt, .ref qo, .ref qz, .ref qi, .ref qv, .int fd])), (qo, .inl (cI, 4, .inl fmf)), (qz, .inl (cI, 4, .inl szf)), (qi, .inl (cI, 240, .inl imf))]) (vp_Si (fun r => r = iI (hpm it0 n0 sh d))) 0 0 (fun _ => False) := by
  refine Met.ofW (cc := cX10_greatestPore) (maxL := 3) (ret := (some .int)) (by decide) rfl ?_
  intro p e s m args below meth c s₁ B hml hv
  obtain ⟨rfl, hsz, hP, hK, hD0, hN⟩ := hv
  have hx := B.exec
  have hb := B.bytes
  have hr := B.returns
  have hts := atoms_spec (ws := wsX10_greatestPore) B.pre
  have hown : s.vm.findClass RX10 = some m.cls := findClass_of_methodNamed B.named
  have hlocks := B.notSynchronized
  subst hsz
  have iX10 : ∀ w ∈ u_ws RX10 TX10 40, w ∈ wsX10_greatestPore := by decide +kernel
  have hD := hD0
  have hP : va_P D vwCl [(m0, .inr (10, [.ref qk, .int (nI d), .int (nI sh), .int (nI low), .int (nI high), .int le, .int mo, .int (nI nb), .ref qp, .ref qr, .ref qc, .ref qm, .ref qb, .int (nI cap), .int kd, .int am, .int wt, .int md, .long z1, .long z2, .long z3, .long z4, .long z5, .int (nI sw), .int (nI np), .ref qf, .ref qs, .int (nI fe), .int (nI te), .int (nI kk), .ref qt, .ref qx, .ref qy, .int no, .int nt, .ref qo, .ref qz, .ref qi, .ref qv, .int fd])), (qo, .inl (cI, 4, .inl fmf)), (qz, .inl (cI, 4, .inl szf)), (qi, .inl (cI, 240, .inl imf))] s.heap := hP
  have hl := lv_entry ([.ref m0]) (n := 3) (Nat.le_of_ble_eq_true rfl)
  rw [lg_entry_eq]
  generalize (lg_sl ([.ref m0]) ++ List.replicate (3 - (lg_sl ([.ref m0])).length) Slot.unset).toArray = ls at hl ⊢
  have hl : lv_has ls 3 [(0, .ref m0)] := hl
  have hpo := po_le it0 n0
  refine lv_iconst (v := 0) hx hb dX10_greatestPore_0 (by decide) ?_
  refine lv_istore_n (lv' := [(1, .int 0), (0, .ref m0)]) hx hb dX10_greatestPore_1 rfl hl (by decide) rfl (fun ls hl => ?_)
  refine lv_aload_n hx hb dX10_greatestPore_2 rfl (lv_at hl 1 rfl) ?_
  refine va_get (D := D) (ci := 10) (v := .int (nI sh)) (C := RX10) (T := TX10) (N := 40) hx hb hts iX10 hown hK hP 0 rfl rfl 2 (by decide) (hts (.fieldLink RX10 76 "DeepHoleModel" "shoe" "I") (by decide +kernel)) (fun _ h9 => h9) rfl dX10_greatestPore_3 ?_
  refine lv_istore_n (lv' := [(2, .int (nI sh)), (1, .int 0), (0, .ref m0)]) hx hb dX10_greatestPore_6 rfl hl (by decide) rfl (fun ls hl => ?_)
  have hl : lv_has ls 3 [(2, .int (nI sh)), (1, .int (nI (hp (po it0 n0) sh (sh - sh)))), (0, .ref m0)] := by rw [← (show (0 : Int32) = nI (hp (po it0 n0) sh (sh - sh)) from by rw [Nat.sub_self]; rfl)]; exact hl
  refine lp_q (I := fun zz9 ls => ∃ (k : Nat), zz9 = d - k ∧ (sh ≤ k) ∧ (k ≤ d) ∧ lv_has ls 3 [(0, .ref m0), (1, .int (nI (hp (po it0 n0) sh (k - sh)))), (2, .int (nI k))]) ?_ (d - sh) ⟨sh, rfl, (by omega), (by omega), lv_sub hl [2, 1, 0] rfl⟩
  intro n_7 ls ih_7 hI
  obtain ⟨k, hn_7, hks, hk, hl⟩ := hI
  have hhp := hp_le (i := sh) hpo (k - sh)
  have hpk := hpo k
  refine lv_iload_n hx hb dX10_greatestPore_7 rfl (lv_at hl 2 rfl) ?_
  refine lv_aload_n hx hb dX10_greatestPore_8 rfl (lv_at hl 0 rfl) ?_
  refine va_get (D := D) (ci := 10) (v := .int (nI d)) (C := RX10) (T := TX10) (N := 40) hx hb hts iX10 hown hK hP 0 rfl rfl 1 (by decide) (hts (.fieldLink RX10 73 "DeepHoleModel" "depth" "I") (by decide +kernel)) (fun _ h9 => h9) rfl dX10_greatestPore_9 ?_
  refine lv_icmp_ge (tgt := 42) hx hb dX10_greatestPore_12 (by decide) (fun c_12 => ?_) (fun c_12 => ?_)
  ·
    have c_12 := n_ge (a := k) (b := d) c_12 (by omega) (by omega)
    refine lv_aload_n hx hb dX10_greatestPore_42 rfl (lv_at hl 0 rfl) ?_
    refine va_get (D := D) (ci := 10) (v := .int (nI sh)) (C := RX10) (T := TX10) (N := 40) hx hb hts iX10 hown hK hP 0 rfl rfl 2 (by decide) (hts (.fieldLink RX10 76 "DeepHoleModel" "shoe" "I") (by decide +kernel)) (fun _ h9 => h9) rfl dX10_greatestPore_43 ?_
    refine lv_aload_n hx hb dX10_greatestPore_46 rfl (lv_at hl 0 rfl) ?_
    refine va_get (D := D) (ci := 10) (v := .int (nI d)) (C := RX10) (T := TX10) (N := 40) hx hb hts iX10 hown hK hP 0 rfl rfl 1 (by decide) (hts (.fieldLink RX10 73 "DeepHoleModel" "depth" "I") (by decide +kernel)) (fun _ h9 => h9) rfl dX10_greatestPore_47 ?_
    refine lv_icmp_ge (tgt := 57) hx hb dX10_greatestPore_50 (by decide) (fun c_50 => ?_) (fun c_50 => ?_)
    ·
      have c_50 := n_ge (a := sh) (b := d) c_50 (by omega) (by omega)
      refine lv_ldc hx hb hown (hts (.constant RX10 166 (-1000000)) (by decide +kernel)) dX10_greatestPore_57 ?_
      exact W.iret (v := (-1000000)) hx hb hr (fun t ht hW => ⟨_, rfl, (by unfold hpm; rw [if_neg (by omega)]; decide), ht⟩) (fun _ h => absurd h List.not_mem_nil) dX10_greatestPore_59
    ·
      have c_50 := n_nge (a := sh) (b := d) c_50 (by omega) (by omega)
      refine lv_iload_n hx hb dX10_greatestPore_53 rfl (lv_at hl 1 rfl) ?_
      refine lv_goto (tgt := 59) hx hb dX10_greatestPore_54 (by decide) ?_
      exact W.iret (v := nI (hp (po it0 n0) sh (k - sh))) hx hb hr (fun t ht hW => ⟨_, rfl, (by unfold hpm; rw [if_pos (by omega), iI_nat, show k = d by omega]), ht⟩) (fun _ h => absurd h List.not_mem_nil) dX10_greatestPore_59
  ·
    have c_12 := n_nge (a := k) (b := d) c_12 (by omega) (by omega)
    refine lv_aload_n hx hb dX10_greatestPore_15 rfl (lv_at hl 0 rfl) ?_
    refine lv_iconst (v := 0) hx hb dX10_greatestPore_16 (by decide) ?_
    refine lv_iload_n hx hb dX10_greatestPore_17 rfl (lv_at hl 2 rfl) ?_
    refine q_V (wc := [(m0, .inr (10, [.ref qk, .int (nI d), .int (nI sh), .int (nI low), .int (nI high), .int le, .int mo, .int (nI nb), .ref qp, .ref qr, .ref qc, .ref qm, .ref qb, .int (nI cap), .int kd, .int am, .int wt, .int md, .long z1, .long z2, .long z3, .long z4, .long z5, .int (nI sw), .int (nI np), .ref qf, .ref qs, .int (nI fe), .int (nI te), .int (nI kk), .ref qt, .ref qx, .ref qy, .int no, .int nt, .ref qo, .ref qz, .ref qi, .ref qv, .int fd])), (qo, .inl (cI, 4, .inl fmf)), (qz, .inl (cI, 4, .inl szf)), (qi, .inl (cI, 240, .inl imf))]) (b := m0) ⟨hx, hb, hml, hown, hts⟩ [.int (nI 0), .int (nI k)] [] (c_X10_groundOf (it := it0) (n := n0) (by first | assumption | omega) (by first | assumption | omega) (hn0) (hG0)) (cwV 2 hts gX10_greatestPore_X10_groundOf rfl rfl rfl (by decide +kernel) ⟨Nat.le_of_ble_eq_true rfl, Nat.le_of_ble_eq_true rfl⟩) hK hN hP hD [0, 1, 2, 3] rfl (by decide) (ci := 10) rfl rfl rfl rfl hl.1 rfl (Nat.le_of_ble_eq_true rfl) dX10_greatestPore_18 ⟨Nat.zero_le _, Nat.zero_le _⟩ (fun r hw => ?_)
    subst hw
    refine lv_eqi (z := nI (po it0 n0 k)) (rfl) ?_
    refine lv_iload_n hx hb dX10_greatestPore_21 rfl (lv_at hl 1 rfl) ?_
    refine cut_v (ls := ls) (rest := []) 35 (.int (nI (hp (po it0 n0) sh ((k + 1) - sh)))) ?_ (fun K_22 => ?_)
    ·
      refine lv_istore_n (lv' := [(1, .int (nI (hp (po it0 n0) sh ((k + 1) - sh)))), (0, .ref m0), (2, .int (nI k))]) hx hb dX10_greatestPore_35 rfl hl (by decide) rfl (fun ls hl => ?_)
      refine lv_iinc (v := nI (k + 1)) (lv' := [(2, .int (nI (k + 1))), (1, .int (nI (hp (po it0 n0) sh ((k + 1) - sh)))), (0, .ref m0)]) hx hb dX10_greatestPore_36 hl (k := 2) rfl (nI_1 _) (by decide) rfl (fun ls hl => ?_)
      refine lv_goto (tgt := 7) hx hb dX10_greatestPore_39 (by decide) ?_
      exact ih_7 _ _ (by omega) ⟨k + 1, rfl, (by omega), (by omega), lv_sub hl [2, 1, 0] rfl⟩
    ·
      refine lv_icmp_le (tgt := 34) hx hb dX10_greatestPore_22 (by decide) (fun c_22 => ?_) (fun c_22 => ?_)
      ·
        have c_22 := n_le (a := (po it0 n0 k)) (b := (hp (po it0 n0) sh (k - sh))) c_22 (by omega) (by omega)
        refine lv_iload_n hx hb dX10_greatestPore_34 rfl (lv_at hl 1 rfl) ?_
        exact lv_eqi (by rw [show k + 1 - sh = (k - sh) + 1 by omega, hp, show sh + (k - sh) = k by omega]; congr 1; omega) K_22
      ·
        have c_22 := n_nle (a := (po it0 n0 k)) (b := (hp (po it0 n0) sh (k - sh))) c_22 (by omega) (by omega)
        refine lv_aload_n hx hb dX10_greatestPore_25 rfl (lv_at hl 0 rfl) ?_
        refine lv_iconst (v := 0) hx hb dX10_greatestPore_26 (by decide) ?_
        refine lv_iload_n hx hb dX10_greatestPore_27 rfl (lv_at hl 2 rfl) ?_
        refine q_V (wc := [(m0, .inr (10, [.ref qk, .int (nI d), .int (nI sh), .int (nI low), .int (nI high), .int le, .int mo, .int (nI nb), .ref qp, .ref qr, .ref qc, .ref qm, .ref qb, .int (nI cap), .int kd, .int am, .int wt, .int md, .long z1, .long z2, .long z3, .long z4, .long z5, .int (nI sw), .int (nI np), .ref qf, .ref qs, .int (nI fe), .int (nI te), .int (nI kk), .ref qt, .ref qx, .ref qy, .int no, .int nt, .ref qo, .ref qz, .ref qi, .ref qv, .int fd])), (qo, .inl (cI, 4, .inl fmf)), (qz, .inl (cI, 4, .inl szf)), (qi, .inl (cI, 240, .inl imf))]) (b := m0) ⟨hx, hb, hml, hown, hts⟩ [.int (nI 0), .int (nI k)] [] (c_X10_groundOf (it := it0) (n := n0) (by first | assumption | omega) (by first | assumption | omega) (hn0) (hG0)) (cwV 2 hts gX10_greatestPore_X10_groundOf rfl rfl rfl (by decide +kernel) ⟨Nat.le_of_ble_eq_true rfl, Nat.le_of_ble_eq_true rfl⟩) hK hN hP hD [0, 1, 2, 3] rfl (by decide) (ci := 10) rfl rfl rfl rfl hl.1 rfl (Nat.le_of_ble_eq_true rfl) dX10_greatestPore_28 ⟨Nat.zero_le _, Nat.zero_le _⟩ (fun r hw => ?_)
        subst hw
        refine lv_eqi (z := nI (po it0 n0 k)) (rfl) ?_
        refine lv_goto (tgt := 35) hx hb dX10_greatestPore_31 (by decide) ?_
        exact lv_eqi (by rw [show k + 1 - sh = (k - sh) + 1 by omega, hp, show sh + (k - sh) = k by omega]; congr 1; omega) K_22

set_option maxHeartbeats 4000000 in
set_option maxRecDepth 100000 in
theorem c_X10_speedOf {l : Launch} {D : va_G} {cI cS cP : ClassId} {sz : Nat} {m0 qk qp qr qc qm qb qf qs qt qx qy qo qz qi qv : Nat} {d sh low high nb cap sw np fe te kk : Nat} {le mo kd am wt md no nt fd : Int32} {z1 z2 z3 z4 z5 : Int64} {m1 b0 : Nat} {pz : Int} (hsw : sw ≤ 1000) (hm : m1 ≤ 3000) (hb0 : b0 ≤ 50) (hpz : -2147483648 ≤ pz ∧ pz < 2147483648) : Met l yX10_speedOf wsX10_speedOf ({ frames := 0, cells := 0, slots := 0, locals := 0 }) (PC D (TY cI cS cP) [.ref m0, .int (nI m1), .int (nI b0), .int (iI pz)] sz [(m0, .inr (10, [.ref qk, .int (nI d), .int (nI sh), .int (nI low), .int (nI high), .int le, .int mo, .int (nI nb), .ref qp, .ref qr, .ref qc, .ref qm, .ref qb, .int (nI cap), .int kd, .int am, .int wt, .int md, .long z1, .long z2, .long z3, .long z4, .long z5, .int (nI sw), .int (nI np), .ref qf, .ref qs, .int (nI fe), .int (nI te), .int (nI kk), .ref qt, .ref qx, .ref qy, .int no, .int nt, .ref qo, .ref qz, .ref qi, .ref qv, .int fd]))]) (vp_Si (fun r => r = nI (ss sw m1 b0 pz))) 0 0 (fun _ => False) := by
  refine Met.ofW (cc := cX10_speedOf) (maxL := 5) (ret := (some .int)) (by decide) rfl ?_
  intro p e s m args below meth c s₁ B hml hv
  obtain ⟨rfl, hsz, hP, hK, hD0, hN⟩ := hv
  have hx := B.exec
  have hb := B.bytes
  have hr := B.returns
  have hts := atoms_spec (ws := wsX10_speedOf) B.pre
  have hown : s.vm.findClass RX10 = some m.cls := findClass_of_methodNamed B.named
  have hlocks := B.notSynchronized
  subst hsz
  have iX10 : ∀ w ∈ u_ws RX10 TX10 40, w ∈ wsX10_speedOf := by decide +kernel
  have hD := hD0
  have hP : va_P D vwCl [(m0, .inr (10, [.ref qk, .int (nI d), .int (nI sh), .int (nI low), .int (nI high), .int le, .int mo, .int (nI nb), .ref qp, .ref qr, .ref qc, .ref qm, .ref qb, .int (nI cap), .int kd, .int am, .int wt, .int md, .long z1, .long z2, .long z3, .long z4, .long z5, .int (nI sw), .int (nI np), .ref qf, .ref qs, .int (nI fe), .int (nI te), .int (nI kk), .ref qt, .ref qx, .ref qy, .int no, .int nt, .ref qo, .ref qz, .ref qi, .ref qv, .int fd]))] s.heap := hP
  have hl := lv_entry ([.ref m0, .int (nI m1), .int (nI b0), .int (iI pz)]) (n := 5) (Nat.le_of_ble_eq_true rfl)
  rw [lg_entry_eq]
  generalize (lg_sl ([.ref m0, .int (nI m1), .int (nI b0), .int (iI pz)]) ++ List.replicate (5 - (lg_sl ([.ref m0, .int (nI m1), .int (nI b0), .int (iI pz)])).length) Slot.unset).toArray = ls at hl ⊢
  have hl : lv_has ls 5 [(0, .ref m0), (1, .int (nI m1)), (2, .int (nI b0)), (3, .int (iI pz))] := hl
  refine lv_bipush (v := 9) hx hb dX10_speedOf_0 (by decide) ?_
  refine lv_istore (lv' := [(4, .int 9), (0, .ref m0), (1, .int (nI m1)), (2, .int (nI b0)), (3, .int (iI pz))]) hx hb dX10_speedOf_2 hl (by decide) rfl (fun ls hl => ?_)
  refine lp_q (I := fun zz9 ls => ∃ (v : Nat), zz9 = v ∧ (v ≤ 9) ∧ (ss sw m1 b0 pz = grt (safe sw m1 b0 pz) v) ∧ lv_has ls 5 [(0, .ref m0), (1, .int (nI m1)), (2, .int (nI b0)), (3, .int (iI pz)), (4, .int (nI v))]) ?_ (9) ⟨9, rfl, (by omega), (rfl), lv_sub hl [1, 2, 3, 4, 0] rfl⟩
  intro n_4 ls ih_4 hI
  obtain ⟨v, hn_4, hv, hs, hl⟩ := hI
  have hpr := prod_le (sw := sw) (v := v) (b := b0) hsw hv hb0
  refine lv_iload hx hb dX10_speedOf_4 (lv_at hl 4 rfl) ?_
  refine lv_if_le (tgt := 34) hx hb dX10_speedOf_6 (by decide) (fun c_6 => ?_) (fun c_6 => ?_)
  ·
    have c_6 := n_le (a := v) (b := 0) c_6 (by omega) (by omega)
    refine lv_iload hx hb dX10_speedOf_34 (lv_at hl 4 rfl) ?_
    exact W.iret (v := nI v) hx hb hr (fun t ht hW => ⟨_, rfl, (by rw [hs, show v = 0 by omega]; rfl), ht⟩) (fun _ h => absurd h List.not_mem_nil) dX10_speedOf_36
  ·
    have c_6 := n_nle (a := v) (b := 0) c_6 (by omega) (by omega)
    refine lv_iload_n hx hb dX10_speedOf_9 rfl (lv_at hl 1 rfl) ?_
    refine lv_aload_n hx hb dX10_speedOf_10 rfl (lv_at hl 0 rfl) ?_
    refine va_get (D := D) (ci := 10) (v := .int (nI sw)) (C := RX10) (T := TX10) (N := 40) hx hb hts iX10 hown hK hP 0 rfl rfl 23 (by decide) (hts (.fieldLink RX10 32 "DeepHoleModel" "swab" "I") (by decide +kernel)) (fun _ h9 => h9) rfl dX10_speedOf_11 ?_
    refine lv_iload hx hb dX10_speedOf_14 (lv_at hl 4 rfl) ?_
    refine lv_imul hx hb dX10_speedOf_16 ?_
    refine lv_eqi (z := nI (sw * v)) (pk_mul _ _) ?_
    refine lv_iload_n hx hb dX10_speedOf_17 rfl (lv_at hl 2 rfl) ?_
    refine lv_imul hx hb dX10_speedOf_18 ?_
    refine lv_eqi (z := nI ((sw * v) * b0)) (pk_mul _ _) ?_
    refine lv_sipush (v := 1000) hx hb dX10_speedOf_19 (by decide) ?_
    refine lv_idiv hx hb dX10_speedOf_22 (by decide) ?_
    refine lv_eqi (z := nI (((sw * v) * b0) / 1000)) (pk_div (d := 1000) (by omega) (by decide) (by decide)) ?_
    refine lv_isub hx hb dX10_speedOf_23 ?_
    refine lv_eqi (z := iI (((m1 : Nat) : Int) - ((((sw * v) * b0) / 1000 : Nat) : Int))) (nI_subz (m1) (((sw * v) * b0) / 1000)) ?_
    refine lv_iload_n hx hb dX10_speedOf_24 rfl (lv_at hl 3 rfl) ?_
    refine lv_icmp_ge (tgt := 34) hx hb dX10_speedOf_25 (by decide) (fun c_25 => ?_) (fun c_25 => ?_)
    ·
      have c_25 := z_ge (a := (((m1 : Nat) : Int) - ((((sw * v) * b0) / 1000 : Nat) : Int))) (b := pz) c_25 (iI_toInt (by omega) (by omega)) (iI_toInt (by omega) (by omega))
      refine lv_iload hx hb dX10_speedOf_34 (lv_at hl 4 rfl) ?_
      exact W.iret (v := nI v) hx hb hr (fun t ht hW => ⟨_, rfl, (by rw [hs, grt_yes (by omega) (decide_eq_true (by omega))]), ht⟩) (fun _ h => absurd h List.not_mem_nil) dX10_speedOf_36
    ·
      have c_25 := z_nge (a := (((m1 : Nat) : Int) - ((((sw * v) * b0) / 1000 : Nat) : Int))) (b := pz) c_25 (iI_toInt (by omega) (by omega)) (iI_toInt (by omega) (by omega))
      refine lv_iinc (v := nI (v - 1)) (lv' := [(4, .int (nI (v - 1))), (0, .ref m0), (1, .int (nI m1)), (2, .int (nI b0)), (3, .int (iI pz))]) hx hb dX10_speedOf_28 hl (k := 4) rfl (iinc_m1 (by omega)) (by decide) rfl (fun ls hl => ?_)
      refine lv_goto (tgt := 4) hx hb dX10_speedOf_31 (by decide) ?_
      exact ih_4 _ _ (by omega) ⟨v - 1, rfl, (by omega), (by rw [hs]; exact grt_no (by omega) (fun h => by have h := of_decide_eq_true h; omega)), lv_sub hl [1, 2, 3, 4, 0] rfl⟩

set_option maxHeartbeats 4000000 in
set_option maxRecDepth 100000 in
theorem c_X10_tripOf {l : Launch} {D : va_G} {cI cS cP : ClassId} {sz : Nat} {m0 qk qp qr qc qm qb qf qs qt qx qy qo qz qi qv : Nat} {d sh low high nb cap sw np fe te kk : Nat} {le mo kd am wt md no nt fd : Int32} {z1 z2 z3 z4 z5 : Int64} {m1 : Nat} {pz : Int} (hd : d ≤ 50) (hsw : sw ≤ 1000) (hm : m1 ≤ 3000) (hpz : -2147483648 ≤ pz ∧ pz < 2147483648) : Met l yX10_tripOf wsX10_tripOf ({ frames := 1, cells := 0, slots := 0, locals := 24 }) (PC D (TY cI cS cP) [.ref m0, .int (nI m1), .int (iI pz)] sz [(m0, .inr (10, [.ref qk, .int (nI d), .int (nI sh), .int (nI low), .int (nI high), .int le, .int mo, .int (nI nb), .ref qp, .ref qr, .ref qc, .ref qm, .ref qb, .int (nI cap), .int kd, .int am, .int wt, .int md, .long z1, .long z2, .long z3, .long z4, .long z5, .int (nI sw), .int (nI np), .ref qf, .ref qs, .int (nI fe), .int (nI te), .int (nI kk), .ref qt, .ref qx, .ref qy, .int no, .int nt, .ref qo, .ref qz, .ref qi, .ref qv, .int fd]))]) (vp_Si (fun r => r = iI (trip sw d m1 pz))) 0 0 (fun _ => False) := by
  refine Met.ofW (cc := cX10_tripOf) (maxL := 6) (ret := (some .int)) (by decide) rfl ?_
  intro p e s m args below meth c s₁ B hml hv
  obtain ⟨rfl, hsz, hP, hK, hD0, hN⟩ := hv
  have hx := B.exec
  have hb := B.bytes
  have hr := B.returns
  have hts := atoms_spec (ws := wsX10_tripOf) B.pre
  have hown : s.vm.findClass RX10 = some m.cls := findClass_of_methodNamed B.named
  have hlocks := B.notSynchronized
  subst hsz
  have iX10 : ∀ w ∈ u_ws RX10 TX10 40, w ∈ wsX10_tripOf := by decide +kernel
  have hD := hD0
  have hP : va_P D vwCl [(m0, .inr (10, [.ref qk, .int (nI d), .int (nI sh), .int (nI low), .int (nI high), .int le, .int mo, .int (nI nb), .ref qp, .ref qr, .ref qc, .ref qm, .ref qb, .int (nI cap), .int kd, .int am, .int wt, .int md, .long z1, .long z2, .long z3, .long z4, .long z5, .int (nI sw), .int (nI np), .ref qf, .ref qs, .int (nI fe), .int (nI te), .int (nI kk), .ref qt, .ref qx, .ref qy, .int no, .int nt, .ref qo, .ref qz, .ref qi, .ref qv, .int fd]))] s.heap := hP
  have hl := lv_entry ([.ref m0, .int (nI m1), .int (iI pz)]) (n := 6) (Nat.le_of_ble_eq_true rfl)
  rw [lg_entry_eq]
  generalize (lg_sl ([.ref m0, .int (nI m1), .int (iI pz)]) ++ List.replicate (6 - (lg_sl ([.ref m0, .int (nI m1), .int (iI pz)])).length) Slot.unset).toArray = ls at hl ⊢
  have hl : lv_has ls 6 [(0, .ref m0), (1, .int (nI m1)), (2, .int (iI pz))] := hl
  refine lv_iconst (v := 0) hx hb dX10_tripOf_0 (by decide) ?_
  refine lv_istore_n (lv' := [(3, .int 0), (0, .ref m0), (1, .int (nI m1)), (2, .int (iI pz))]) hx hb dX10_tripOf_1 rfl hl (by decide) rfl (fun ls hl => ?_)
  refine lv_aload_n hx hb dX10_tripOf_2 rfl (lv_at hl 1 rfl) ?_
  refine va_get (D := D) (ci := 10) (v := .int (nI d)) (C := RX10) (T := TX10) (N := 40) hx hb hts iX10 hown hK hP 0 rfl rfl 1 (by decide) (hts (.fieldLink RX10 73 "DeepHoleModel" "depth" "I") (by decide +kernel)) (fun _ h9 => h9) rfl dX10_tripOf_3 ?_
  refine lv_istore (lv' := [(4, .int (nI d)), (3, .int 0), (0, .ref m0), (1, .int (nI m1)), (2, .int (iI pz))]) hx hb dX10_tripOf_6 hl (by decide) rfl (fun ls hl => ?_)
  refine lp_q (I := fun zz9 ls => ∃ (b acc : Nat), zz9 = b ∧ (b ≤ d) ∧ (trip sw d m1 pz = tt (fun b => ss sw m1 b pz) b acc) ∧ lv_has ls 6 [(0, .ref m0), (1, .int (nI m1)), (2, .int (iI pz)), (3, .int (nI acc)), (4, .int (nI b))]) ?_ (d) ⟨d, 0, rfl, (by omega), (rfl), lv_sub hl [2, 3, 4, 1, 0] rfl⟩
  intro n_8 ls ih_8 hI
  obtain ⟨b, acc, hn_8, hbd, hs, hl⟩ := hI
  have h9 := ss_le sw m1 b pz
  refine lv_iload hx hb dX10_tripOf_8 (lv_at hl 4 rfl) ?_
  refine lv_if_le (tgt := 53) hx hb dX10_tripOf_10 (by decide) (fun c_10 => ?_) (fun c_10 => ?_)
  ·
    have c_10 := n_le (a := b) (b := 0) c_10 (by omega) (by omega)
    refine lv_iload_n hx hb dX10_tripOf_53 rfl (lv_at hl 3 rfl) ?_
    exact W.iret (v := nI acc) hx hb hr (fun t ht hW => ⟨_, rfl, (by rw [hs, show b = 0 by omega, tt, iI_nat]), ht⟩) (fun _ h => absurd h List.not_mem_nil) dX10_tripOf_54
  ·
    have c_10 := n_nle (a := b) (b := 0) c_10 (by omega) (by omega)
    refine lv_aload_n hx hb dX10_tripOf_13 rfl (lv_at hl 0 rfl) ?_
    refine lv_iload_n hx hb dX10_tripOf_14 rfl (lv_at hl 1 rfl) ?_
    refine lv_iload hx hb dX10_tripOf_15 (lv_at hl 4 rfl) ?_
    refine lv_iload_n hx hb dX10_tripOf_17 rfl (lv_at hl 2 rfl) ?_
    refine q_V (wc := [(m0, .inr (10, [.ref qk, .int (nI d), .int (nI sh), .int (nI low), .int (nI high), .int le, .int mo, .int (nI nb), .ref qp, .ref qr, .ref qc, .ref qm, .ref qb, .int (nI cap), .int kd, .int am, .int wt, .int md, .long z1, .long z2, .long z3, .long z4, .long z5, .int (nI sw), .int (nI np), .ref qf, .ref qs, .int (nI fe), .int (nI te), .int (nI kk), .ref qt, .ref qx, .ref qy, .int no, .int nt, .ref qo, .ref qz, .ref qi, .ref qv, .int fd]))]) (b := m0) ⟨hx, hb, hml, hown, hts⟩ [.int (nI m1), .int (nI b), .int (iI pz)] [] (c_X10_speedOf  (by first | assumption | omega) (by first | assumption | omega) (by first | assumption | omega) (by first | assumption | omega)) (cwV 3 hts gX10_tripOf_X10_speedOf rfl rfl rfl (by decide +kernel) ⟨Nat.le_of_ble_eq_true rfl, Nat.le_of_ble_eq_true rfl⟩) hK hN hP hD [0] rfl (by decide) (ci := 10) rfl rfl rfl rfl hl.1 rfl (Nat.le_of_ble_eq_true rfl) dX10_tripOf_18 ⟨Nat.zero_le _, Nat.zero_le _⟩ (fun r hw => ?_)
    subst hw
    refine lv_istore (lv' := [(5, .int (nI (ss sw m1 b pz))), (0, .ref m0), (1, .int (nI m1)), (2, .int (iI pz)), (3, .int (nI acc)), (4, .int (nI b))]) hx hb dX10_tripOf_21 hl (by decide) rfl (fun ls hl => ?_)
    refine lv_iload hx hb dX10_tripOf_23 (lv_at hl 0 rfl) ?_
    refine lv_if_ne (tgt := 35) hx hb dX10_tripOf_25 (by decide) (fun c_25 => ?_) (fun c_25 => ?_)
    ·
      have c_25 := n_ne (a := (ss sw m1 b pz)) (b := 0) c_25 (by omega) (by omega)
      refine lv_iload_n hx hb dX10_tripOf_35 rfl (lv_at hl 4 rfl) ?_
      refine lv_sipush (v := 359) hx hb dX10_tripOf_36 (by decide) ?_
      refine lv_iload hx hb dX10_tripOf_39 (lv_at hl 0 rfl) ?_
      refine lv_iadd hx hb dX10_tripOf_41 ?_
      refine lv_eqi (z := nI (359 + (ss sw m1 b pz))) (nI_add _ _) ?_
      refine lv_iload hx hb dX10_tripOf_42 (lv_at hl 0 rfl) ?_
      refine lv_idiv hx hb dX10_tripOf_44 (nI_ne0 (by omega) (by omega)) ?_
      refine lv_eqi (z := nI ((359 + ss sw m1 b pz) / ss sw m1 b pz)) (pk_div (by omega) (by omega) (by omega)) ?_
      refine lv_iadd hx hb dX10_tripOf_45 ?_
      refine lv_eqi (z := nI (acc + ((359 + ss sw m1 b pz) / ss sw m1 b pz))) (nI_add _ _) ?_
      refine lv_istore_n (lv' := [(3, .int (nI (acc + ((359 + ss sw m1 b pz) / ss sw m1 b pz)))), (5, .int (nI (ss sw m1 b pz))), (0, .ref m0), (1, .int (nI m1)), (2, .int (iI pz)), (4, .int (nI b))]) hx hb dX10_tripOf_46 rfl hl (by decide) rfl (fun ls hl => ?_)
      refine lv_iinc (v := nI (b - 1)) (lv' := [(4, .int (nI (b - 1))), (3, .int (nI (acc + ((359 + ss sw m1 b pz) / ss sw m1 b pz)))), (5, .int (nI (ss sw m1 b pz))), (0, .ref m0), (1, .int (nI m1)), (2, .int (iI pz))]) hx hb dX10_tripOf_47 hl (k := 5) rfl (iinc_m1 (by omega)) (by decide) rfl (fun ls hl => ?_)
      refine lv_goto (tgt := 8) hx hb dX10_tripOf_50 (by decide) ?_
      exact ih_8 _ _ (by omega) ⟨b - 1, acc + ((359 + ss sw m1 b pz) / ss sw m1 b pz), rfl, (by omega), (by rw [hs]; exact tt_go (s := fun b => ss sw m1 b pz) (by omega) c_25), lv_sub hl [3, 4, 5, 1, 0] rfl⟩
    ·
      have c_25 := n_eq (a := (ss sw m1 b pz)) (b := 0) c_25 (by omega) (by omega)
      refine lv_sipush (v := (-1000)) hx hb dX10_tripOf_28 (by decide) ?_
      refine lv_iload hx hb dX10_tripOf_31 (lv_at hl 5 rfl) ?_
      refine lv_isub hx hb dX10_tripOf_33 ?_
      exact W.iret (v := (-1000) - (nI b)) hx hb hr (fun t ht hW => ⟨_, rfl, (by rw [hs, tt_stop (s := fun b => ss sw m1 b pz) (by omega) c_25, ← iI_sub, iI_nat]; rfl), ht⟩) (fun _ h => absurd h List.not_mem_nil) dX10_tripOf_34

set_option maxHeartbeats 4000000 in
set_option maxRecDepth 100000 in
theorem c_X10_speed {l : Launch} {D : va_G} {cI cS cP : ClassId} {sz : Nat} {m0 qk qp qr qc qm qb qf qs qt qx qy qo qz qi qv : Nat} {d sh low high nb cap sw np fe te kk : Nat} {le mo kd am wt md no nt fd : Int32} {z1 z2 z3 z4 z5 : Int64} {fmf szf imf : Nat → Int32} {n0 : Nat} {it0 : Nat → Int32} {m1 b1 : Int32} (hd : d ≤ 50) (hsh : sh ≤ d) (hn0 : n0 ≤ 60) (hG0 : gREL fmf szf imf 0 n0 it0) (hsw : sw ≤ 1000) : Met l yX10_speed wsX10_speed ({ frames := 3, cells := 0, slots := 0, locals := 71 }) (PC D (TY cI cS cP) [.ref m0, .int m1, .int b1] sz [(m0, .inr (10, [.ref qk, .int (nI d), .int (nI sh), .int (nI low), .int (nI high), .int le, .int mo, .int (nI nb), .ref qp, .ref qr, .ref qc, .ref qm, .ref qb, .int (nI cap), .int kd, .int am, .int wt, .int md, .long z1, .long z2, .long z3, .long z4, .long z5, .int (nI sw), .int (nI np), .ref qf, .ref qs, .int (nI fe), .int (nI te), .int (nI kk), .ref qt, .ref qx, .ref qy, .int no, .int nt, .ref qo, .ref qz, .ref qi, .ref qv, .int fd])), (qo, .inl (cI, 4, .inl fmf)), (qz, .inl (cI, 4, .inl szf)), (qi, .inl (cI, 240, .inl imf))]) (vp_Si (fun r => r = aSpeed sw d (hpz it0 n0 sh d) m1 b1)) 0 0 (fun _ => False) := by
  refine Met.ofW (cc := cX10_speed) (maxL := 3) (ret := (some .int)) (by decide) rfl ?_
  intro p e s m args below meth c s₁ B hml hv
  obtain ⟨rfl, hsz, hP, hK, hD0, hN⟩ := hv
  have hx := B.exec
  have hb := B.bytes
  have hr := B.returns
  have hts := atoms_spec (ws := wsX10_speed) B.pre
  have hown : s.vm.findClass RX10 = some m.cls := findClass_of_methodNamed B.named
  have hlocks := B.notSynchronized
  subst hsz
  have iX10 : ∀ w ∈ u_ws RX10 TX10 40, w ∈ wsX10_speed := by decide +kernel
  have hD := hD0
  have hP : va_P D vwCl [(m0, .inr (10, [.ref qk, .int (nI d), .int (nI sh), .int (nI low), .int (nI high), .int le, .int mo, .int (nI nb), .ref qp, .ref qr, .ref qc, .ref qm, .ref qb, .int (nI cap), .int kd, .int am, .int wt, .int md, .long z1, .long z2, .long z3, .long z4, .long z5, .int (nI sw), .int (nI np), .ref qf, .ref qs, .int (nI fe), .int (nI te), .int (nI kk), .ref qt, .ref qx, .ref qy, .int no, .int nt, .ref qo, .ref qz, .ref qi, .ref qv, .int fd])), (qo, .inl (cI, 4, .inl fmf)), (qz, .inl (cI, 4, .inl szf)), (qi, .inl (cI, 240, .inl imf))] s.heap := hP
  have hl := lv_entry ([.ref m0, .int m1, .int b1]) (n := 3) (Nat.le_of_ble_eq_true rfl)
  rw [lg_entry_eq]
  generalize (lg_sl ([.ref m0, .int m1, .int b1]) ++ List.replicate (3 - (lg_sl ([.ref m0, .int m1, .int b1])).length) Slot.unset).toArray = ls at hl ⊢
  have hl : lv_has ls 3 [(0, .ref m0), (1, .int m1), (2, .int b1)] := hl
  have hpzr := hpm_rng it0 n0 sh d
  refine lv_iload_n hx hb dX10_speed_0 rfl (lv_at hl 1 rfl) ?_
  refine lv_i2l (v := m1.toInt64) hx hb dX10_speed_1 rfl ?_
  refine lv_lconst (v := 0) hx hb dX10_speed_2 (by decide) ?_
  refine lv_ldc2 hx hb hown (hts (.constantLong RX10 87 (3000)) (by decide +kernel)) dX10_speed_3 ?_
  refine q_S (tys := TY cI cS cP) (D := D) ⟨hx, hb, hml, hown, hts⟩ [.long m1.toInt64, .long ((0 : Int32).toInt64), .long ((3000 : Int32).toInt64)] [] c_X10_in (va_cwS 3 hts gX10_speed_X10_in rfl rfl rfl (by decide +kernel) ⟨Nat.le_of_ble_eq_true rfl, Nat.le_of_ble_eq_true rfl⟩) hK hN rfl hl.1 rfl (Nat.le_of_ble_eq_true rfl) dX10_speed_6 ⟨Nat.zero_le _, Nat.zero_le _⟩ (fun r hw => ?_)
  subst hw
  refine lv_if_eq (tgt := 39) hx hb dX10_speed_9 (by decide) (fun c_9 => ?_) (fun c_9 => ?_)
  ·
    have c_9 := bz c_9
    refine lv_bipush (v := (-2)) hx hb dX10_speed_39 (by decide) ?_
    exact W.iret (v := (-2)) hx hb hr (fun t ht hW => ⟨_, rfl, (by unfold aSpeed; first | rw [if_neg (fun h => c_9 h.1)] | rw [if_neg (fun h => c_23 h.2)]), ht⟩) (fun _ h => absurd h List.not_mem_nil) dX10_speed_41
  ·
    have c_9 := bnz c_9
    refine lv_iload_n hx hb dX10_speed_12 rfl (lv_at hl 2 rfl) ?_
    refine lv_i2l (v := b1.toInt64) hx hb dX10_speed_13 rfl ?_
    refine lv_lconst (v := 1) hx hb dX10_speed_14 (by decide) ?_
    refine lv_aload_n hx hb dX10_speed_15 rfl (lv_at hl 0 rfl) ?_
    refine va_get (D := D) (ci := 10) (v := .int (nI d)) (C := RX10) (T := TX10) (N := 40) hx hb hts iX10 hown hK hP 0 rfl rfl 1 (by decide) (hts (.fieldLink RX10 73 "DeepHoleModel" "depth" "I") (by decide +kernel)) (fun _ h9 => h9) rfl dX10_speed_16 ?_
    refine lv_i2l (v := (nI d).toInt64) hx hb dX10_speed_19 rfl ?_
    refine q_S (tys := TY cI cS cP) (D := D) ⟨hx, hb, hml, hown, hts⟩ [.long b1.toInt64, .long ((1 : Int32).toInt64), .long ((nI d).toInt64)] [] c_X10_in (va_cwS 3 hts gX10_speed_X10_in rfl rfl rfl (by decide +kernel) ⟨Nat.le_of_ble_eq_true rfl, Nat.le_of_ble_eq_true rfl⟩) hK hN rfl hl.1 rfl (Nat.le_of_ble_eq_true rfl) dX10_speed_20 ⟨Nat.zero_le _, Nat.zero_le _⟩ (fun r hw => ?_)
    subst hw
    refine lv_if_eq (tgt := 39) hx hb dX10_speed_23 (by decide) (fun c_23 => ?_) (fun c_23 => ?_)
    ·
      have c_23 := bz c_23
      refine lv_bipush (v := (-2)) hx hb dX10_speed_39 (by decide) ?_
      exact W.iret (v := (-2)) hx hb hr (fun t ht hW => ⟨_, rfl, (by unfold aSpeed; first | rw [if_neg (fun h => c_9 h.1)] | rw [if_neg (fun h => c_23 h.2)]), ht⟩) (fun _ h => absurd h List.not_mem_nil) dX10_speed_41
    ·
      have c_23 := bnz c_23
      obtain ⟨mn, hmn, rfl⟩ := nat_of (hi := 3000) (n := 3000) (by decide) c_9
      obtain ⟨bn, hbna, hbn, rfl⟩ := nat_of1 (lo := 1) (hi := nI d) (a := 1) (n := d) (by decide) (nI_toInt (by omega)) c_23
      refine lv_aload_n hx hb dX10_speed_26 rfl (lv_at hl 0 rfl) ?_
      refine lv_iload_n hx hb dX10_speed_27 rfl (lv_at hl 1 rfl) ?_
      refine lv_iload_n hx hb dX10_speed_28 rfl (lv_at hl 2 rfl) ?_
      refine lv_aload_n hx hb dX10_speed_29 rfl (lv_at hl 0 rfl) ?_
      refine q_V (wc := [(m0, .inr (10, [.ref qk, .int (nI d), .int (nI sh), .int (nI low), .int (nI high), .int le, .int mo, .int (nI nb), .ref qp, .ref qr, .ref qc, .ref qm, .ref qb, .int (nI cap), .int kd, .int am, .int wt, .int md, .long z1, .long z2, .long z3, .long z4, .long z5, .int (nI sw), .int (nI np), .ref qf, .ref qs, .int (nI fe), .int (nI te), .int (nI kk), .ref qt, .ref qx, .ref qy, .int no, .int nt, .ref qo, .ref qz, .ref qi, .ref qv, .int fd])), (qo, .inl (cI, 4, .inl fmf)), (qz, .inl (cI, 4, .inl szf)), (qi, .inl (cI, 240, .inl imf))]) (b := m0) ⟨hx, hb, hml, hown, hts⟩ [] [.int (nI bn), .int (nI mn), .ref m0] (c_X10_greatestPore (it0 := it0) (n0 := n0) (by first | assumption | omega) (by first | assumption | omega) (by first | assumption | omega) (by first | assumption | omega)) (cwV 0 hts gX10_speed_X10_greatestPore rfl rfl rfl (by decide +kernel) ⟨Nat.le_of_ble_eq_true rfl, Nat.le_of_ble_eq_true rfl⟩) hK hN hP hD [0, 1, 2, 3] rfl (by decide) (ci := 10) rfl rfl rfl rfl hl.1 rfl (Nat.le_of_ble_eq_true rfl) dX10_speed_30 ⟨Nat.zero_le _, Nat.zero_le _⟩ (fun r hw => ?_)
      subst hw
      refine q_V (wc := [(m0, .inr (10, [.ref qk, .int (nI d), .int (nI sh), .int (nI low), .int (nI high), .int le, .int mo, .int (nI nb), .ref qp, .ref qr, .ref qc, .ref qm, .ref qb, .int (nI cap), .int kd, .int am, .int wt, .int md, .long z1, .long z2, .long z3, .long z4, .long z5, .int (nI sw), .int (nI np), .ref qf, .ref qs, .int (nI fe), .int (nI te), .int (nI kk), .ref qt, .ref qx, .ref qy, .int no, .int nt, .ref qo, .ref qz, .ref qi, .ref qv, .int fd]))]) (b := m0) ⟨hx, hb, hml, hown, hts⟩ [.int (nI mn), .int (nI bn), .int (iI (hpm it0 n0 sh d))] [] (c_X10_speedOf  (by first | assumption | omega) (by first | assumption | omega) (by first | assumption | omega) (by first | assumption | omega)) (cwV 3 hts gX10_speed_X10_speedOf rfl rfl rfl (by decide +kernel) ⟨Nat.le_of_ble_eq_true rfl, Nat.le_of_ble_eq_true rfl⟩) hK hN hP hD [0] rfl (by decide) (ci := 10) rfl rfl rfl rfl hl.1 rfl (Nat.le_of_ble_eq_true rfl) dX10_speed_33 ⟨Nat.zero_le _, Nat.zero_le _⟩ (fun r hw => ?_)
      subst hw
      refine lv_goto (tgt := 41) hx hb dX10_speed_36 (by decide) ?_
      exact W.iret (v := nI (ss sw mn bn (hpm it0 n0 sh d))) hx hb hr (fun t ht hW => ⟨_, rfl, (by unfold aSpeed; rw [if_pos ⟨c_9, c_23⟩, nI_clamp (by omega), nI_clamp (by omega), ss_hp (by omega) hsw (by omega)]), ht⟩) (fun _ h => absurd h List.not_mem_nil) dX10_speed_41

set_option maxHeartbeats 4000000 in
set_option maxRecDepth 100000 in
theorem c_X10_trip {l : Launch} {D : va_G} {cI cS cP : ClassId} {sz : Nat} {m0 qk qp qr qc qm qb qf qs qt qx qy qo qz qi qv : Nat} {d sh low high nb cap sw np fe te kk : Nat} {le mo kd am wt md no nt fd : Int32} {z1 z2 z3 z4 z5 : Int64} {fmf szf imf : Nat → Int32} {n0 : Nat} {it0 : Nat → Int32} {m1 : Int32} (hd : d ≤ 50) (hsh : sh ≤ d) (hn0 : n0 ≤ 60) (hG0 : gREL fmf szf imf 0 n0 it0) (hsw : sw ≤ 1000) : Met l yX10_trip wsX10_trip ({ frames := 3, cells := 0, slots := 0, locals := 71 }) (PC D (TY cI cS cP) [.ref m0, .int m1] sz [(m0, .inr (10, [.ref qk, .int (nI d), .int (nI sh), .int (nI low), .int (nI high), .int le, .int mo, .int (nI nb), .ref qp, .ref qr, .ref qc, .ref qm, .ref qb, .int (nI cap), .int kd, .int am, .int wt, .int md, .long z1, .long z2, .long z3, .long z4, .long z5, .int (nI sw), .int (nI np), .ref qf, .ref qs, .int (nI fe), .int (nI te), .int (nI kk), .ref qt, .ref qx, .ref qy, .int no, .int nt, .ref qo, .ref qz, .ref qi, .ref qv, .int fd])), (qo, .inl (cI, 4, .inl fmf)), (qz, .inl (cI, 4, .inl szf)), (qi, .inl (cI, 240, .inl imf))]) (vp_Si (fun r => r = aTrip sw d (hpz it0 n0 sh d) m1)) 0 0 (fun _ => False) := by
  refine Met.ofW (cc := cX10_trip) (maxL := 2) (ret := (some .int)) (by decide) rfl ?_
  intro p e s m args below meth c s₁ B hml hv
  obtain ⟨rfl, hsz, hP, hK, hD0, hN⟩ := hv
  have hx := B.exec
  have hb := B.bytes
  have hr := B.returns
  have hts := atoms_spec (ws := wsX10_trip) B.pre
  have hown : s.vm.findClass RX10 = some m.cls := findClass_of_methodNamed B.named
  have hlocks := B.notSynchronized
  subst hsz
  have hD := hD0
  have hP : va_P D vwCl [(m0, .inr (10, [.ref qk, .int (nI d), .int (nI sh), .int (nI low), .int (nI high), .int le, .int mo, .int (nI nb), .ref qp, .ref qr, .ref qc, .ref qm, .ref qb, .int (nI cap), .int kd, .int am, .int wt, .int md, .long z1, .long z2, .long z3, .long z4, .long z5, .int (nI sw), .int (nI np), .ref qf, .ref qs, .int (nI fe), .int (nI te), .int (nI kk), .ref qt, .ref qx, .ref qy, .int no, .int nt, .ref qo, .ref qz, .ref qi, .ref qv, .int fd])), (qo, .inl (cI, 4, .inl fmf)), (qz, .inl (cI, 4, .inl szf)), (qi, .inl (cI, 240, .inl imf))] s.heap := hP
  have hl := lv_entry ([.ref m0, .int m1]) (n := 2) (Nat.le_of_ble_eq_true rfl)
  rw [lg_entry_eq]
  generalize (lg_sl ([.ref m0, .int m1]) ++ List.replicate (2 - (lg_sl ([.ref m0, .int m1])).length) Slot.unset).toArray = ls at hl ⊢
  have hl : lv_has ls 2 [(0, .ref m0), (1, .int m1)] := hl
  have hpzr := hpm_rng it0 n0 sh d
  refine lv_iload_n hx hb dX10_trip_0 rfl (lv_at hl 1 rfl) ?_
  refine lv_i2l (v := m1.toInt64) hx hb dX10_trip_1 rfl ?_
  refine lv_lconst (v := 0) hx hb dX10_trip_2 (by decide) ?_
  refine lv_ldc2 hx hb hown (hts (.constantLong RX10 87 (3000)) (by decide +kernel)) dX10_trip_3 ?_
  refine q_S (tys := TY cI cS cP) (D := D) ⟨hx, hb, hml, hown, hts⟩ [.long m1.toInt64, .long ((0 : Int32).toInt64), .long ((3000 : Int32).toInt64)] [] c_X10_in (va_cwS 3 hts gX10_trip_X10_in rfl rfl rfl (by decide +kernel) ⟨Nat.le_of_ble_eq_true rfl, Nat.le_of_ble_eq_true rfl⟩) hK hN rfl hl.1 rfl (Nat.le_of_ble_eq_true rfl) dX10_trip_6 ⟨Nat.zero_le _, Nat.zero_le _⟩ (fun r hw => ?_)
  subst hw
  refine lv_if_eq (tgt := 24) hx hb dX10_trip_9 (by decide) (fun c_9 => ?_) (fun c_9 => ?_)
  ·
    have c_9 := bz c_9
    refine lv_bipush (v := (-2)) hx hb dX10_trip_24 (by decide) ?_
    exact W.iret (v := (-2)) hx hb hr (fun t ht hW => ⟨_, rfl, (by unfold aTrip; rw [if_neg c_9]), ht⟩) (fun _ h => absurd h List.not_mem_nil) dX10_trip_26
  ·
    have c_9 := bnz c_9
    obtain ⟨mn, hmn, rfl⟩ := nat_of (hi := 3000) (n := 3000) (by decide) c_9
    refine lv_aload_n hx hb dX10_trip_12 rfl (lv_at hl 0 rfl) ?_
    refine lv_iload_n hx hb dX10_trip_13 rfl (lv_at hl 1 rfl) ?_
    refine lv_aload_n hx hb dX10_trip_14 rfl (lv_at hl 0 rfl) ?_
    refine q_V (wc := [(m0, .inr (10, [.ref qk, .int (nI d), .int (nI sh), .int (nI low), .int (nI high), .int le, .int mo, .int (nI nb), .ref qp, .ref qr, .ref qc, .ref qm, .ref qb, .int (nI cap), .int kd, .int am, .int wt, .int md, .long z1, .long z2, .long z3, .long z4, .long z5, .int (nI sw), .int (nI np), .ref qf, .ref qs, .int (nI fe), .int (nI te), .int (nI kk), .ref qt, .ref qx, .ref qy, .int no, .int nt, .ref qo, .ref qz, .ref qi, .ref qv, .int fd])), (qo, .inl (cI, 4, .inl fmf)), (qz, .inl (cI, 4, .inl szf)), (qi, .inl (cI, 240, .inl imf))]) (b := m0) ⟨hx, hb, hml, hown, hts⟩ [] [.int (nI mn), .ref m0] (c_X10_greatestPore (it0 := it0) (n0 := n0) (by first | assumption | omega) (by first | assumption | omega) (by first | assumption | omega) (by first | assumption | omega)) (cwV 0 hts gX10_trip_X10_greatestPore rfl rfl rfl (by decide +kernel) ⟨Nat.le_of_ble_eq_true rfl, Nat.le_of_ble_eq_true rfl⟩) hK hN hP hD [0, 1, 2, 3] rfl (by decide) (ci := 10) rfl rfl rfl rfl hl.1 rfl (Nat.le_of_ble_eq_true rfl) dX10_trip_15 ⟨Nat.zero_le _, Nat.zero_le _⟩ (fun r hw => ?_)
    subst hw
    refine q_V (wc := [(m0, .inr (10, [.ref qk, .int (nI d), .int (nI sh), .int (nI low), .int (nI high), .int le, .int mo, .int (nI nb), .ref qp, .ref qr, .ref qc, .ref qm, .ref qb, .int (nI cap), .int kd, .int am, .int wt, .int md, .long z1, .long z2, .long z3, .long z4, .long z5, .int (nI sw), .int (nI np), .ref qf, .ref qs, .int (nI fe), .int (nI te), .int (nI kk), .ref qt, .ref qx, .ref qy, .int no, .int nt, .ref qo, .ref qz, .ref qi, .ref qv, .int fd]))]) (b := m0) ⟨hx, hb, hml, hown, hts⟩ [.int (nI mn), .int (iI (hpm it0 n0 sh d))] [] (c_X10_tripOf  (by first | assumption | omega) (by first | assumption | omega) (by first | assumption | omega) (by first | assumption | omega)) (cwV 2 hts gX10_trip_X10_tripOf rfl rfl rfl (by decide +kernel) ⟨Nat.le_of_ble_eq_true rfl, Nat.le_of_ble_eq_true rfl⟩) hK hN hP hD [0] rfl (by decide) (ci := 10) rfl rfl rfl rfl hl.1 rfl (Nat.le_of_ble_eq_true rfl) dX10_trip_18 ⟨Nat.zero_le _, Nat.zero_le _⟩ (fun r hw => ?_)
    subst hw
    refine lv_goto (tgt := 26) hx hb dX10_trip_21 (by decide) ?_
    exact W.iret (v := iI (trip sw d mn (hpm it0 n0 sh d))) hx hb hr (fun t ht hW => ⟨_, rfl, (by unfold aTrip; rw [if_pos c_9, nI_clamp (by omega), trip_hp (by omega) hsw hd]), ht⟩) (fun _ h => absurd h List.not_mem_nil) dX10_trip_26

set_option maxHeartbeats 4000000 in
set_option maxRecDepth 100000 in
theorem c_X10_lightest {l : Launch} {D : va_G} {cI cS cP : ClassId} {sz : Nat} {m0 qk qp qr qc qm qb qf qs qt qx qy qo qz qi qv : Nat} {d sh low high nb cap sw np fe te kk : Nat} {le mo kd am wt md no nt fd : Int32} {z1 z2 z3 z4 z5 : Int64} {fmf szf imf : Nat → Int32} {n0 n1 : Nat} {it0 it1 : Nat → Int32} {t1 : Int32} (hd : d ≤ 50) (hsh : sh ≤ d) (hn0 : n0 ≤ 60) (hn1 : n1 ≤ 60) (hG0 : gREL fmf szf imf 0 n0 it0) (hG1 : gREL fmf szf imf 1 n1 it1) (hlow : low ≤ 500) (hhigh : high ≤ 500) (hsw : sw ≤ 1000) : Met l yX10_lightest wsX10_lightest ({ frames := 3, cells := 0, slots := 0, locals := 74 }) (PC D (TY cI cS cP) [.ref m0, .int t1] sz [(m0, .inr (10, [.ref qk, .int (nI d), .int (nI sh), .int (nI low), .int (nI high), .int le, .int mo, .int (nI nb), .ref qp, .ref qr, .ref qc, .ref qm, .ref qb, .int (nI cap), .int kd, .int am, .int wt, .int md, .long z1, .long z2, .long z3, .long z4, .long z5, .int (nI sw), .int (nI np), .ref qf, .ref qs, .int (nI fe), .int (nI te), .int (nI kk), .ref qt, .ref qx, .ref qy, .int no, .int nt, .ref qo, .ref qz, .ref qi, .ref qv, .int fd])), (qo, .inl (cI, 4, .inl fmf)), (qz, .inl (cI, 4, .inl szf)), (qi, .inl (cI, 240, .inl imf))]) (QI D (fun (r : Int32) (u : Int32 × Int32) => r = aLight it0 it1 n0 n1 low high sw d sh t1) (fun (u : Int32 × Int32) => [(m0, .inr (10, [.ref qk, .int (nI d), .int (nI sh), .int (nI low), .int (nI high), .int u.1, .int u.2, .int (nI nb), .ref qp, .ref qr, .ref qc, .ref qm, .ref qb, .int (nI cap), .int kd, .int am, .int wt, .int md, .long z1, .long z2, .long z3, .long z4, .long z5, .int (nI sw), .int (nI np), .ref qf, .ref qs, .int (nI fe), .int (nI te), .int (nI kk), .ref qt, .ref qx, .ref qy, .int no, .int nt, .ref qo, .ref qz, .ref qi, .ref qv, .int fd])), (qo, .inl (cI, 4, .inl fmf)), (qz, .inl (cI, 4, .inl szf)), (qi, .inl (cI, 240, .inl imf))]) (va_A [(m0, .inr (10, [.ref qk, .int (nI d), .int (nI sh), .int (nI low), .int (nI high), .int le, .int mo, .int (nI nb), .ref qp, .ref qr, .ref qc, .ref qm, .ref qb, .int (nI cap), .int kd, .int am, .int wt, .int md, .long z1, .long z2, .long z3, .long z4, .long z5, .int (nI sw), .int (nI np), .ref qf, .ref qs, .int (nI fe), .int (nI te), .int (nI kk), .ref qt, .ref qx, .ref qy, .int no, .int nt, .ref qo, .ref qz, .ref qi, .ref qv, .int fd])), (qo, .inl (cI, 4, .inl fmf)), (qz, .inl (cI, 4, .inl szf)), (qi, .inl (cI, 240, .inl imf))] sz)) 0 0 (va_A [(m0, .inr (10, [.ref qk, .int (nI d), .int (nI sh), .int (nI low), .int (nI high), .int le, .int mo, .int (nI nb), .ref qp, .ref qr, .ref qc, .ref qm, .ref qb, .int (nI cap), .int kd, .int am, .int wt, .int md, .long z1, .long z2, .long z3, .long z4, .long z5, .int (nI sw), .int (nI np), .ref qf, .ref qs, .int (nI fe), .int (nI te), .int (nI kk), .ref qt, .ref qx, .ref qy, .int no, .int nt, .ref qo, .ref qz, .ref qi, .ref qv, .int fd])), (qo, .inl (cI, 4, .inl fmf)), (qz, .inl (cI, 4, .inl szf)), (qi, .inl (cI, 240, .inl imf))] sz) := by
  refine Met.ofW (cc := cX10_lightest) (maxL := 6) (ret := (some .int)) (by decide) rfl ?_
  intro p e s m args below meth c s₁ B hml hv
  obtain ⟨rfl, hsz, hP, hK, hD0, hN⟩ := hv
  have hx := B.exec
  have hb := B.bytes
  have hr := B.returns
  have hts := atoms_spec (ws := wsX10_lightest) B.pre
  have hown : s.vm.findClass RX10 = some m.cls := findClass_of_methodNamed B.named
  have hlocks := B.notSynchronized
  subst hsz
  have iX10 : ∀ w ∈ u_ws RX10 TX10 40, w ∈ wsX10_lightest := by decide +kernel
  have hD := hD0.self (sz := s.heap.size)
  generalize hAe : va_A [(m0, .inr (10, [.ref qk, .int (nI d), .int (nI sh), .int (nI low), .int (nI high), .int le, .int mo, .int (nI nb), .ref qp, .ref qr, .ref qc, .ref qm, .ref qb, .int (nI cap), .int kd, .int am, .int wt, .int md, .long z1, .long z2, .long z3, .long z4, .long z5, .int (nI sw), .int (nI np), .ref qf, .ref qs, .int (nI fe), .int (nI te), .int (nI kk), .ref qt, .ref qx, .ref qy, .int no, .int nt, .ref qo, .ref qz, .ref qi, .ref qv, .int fd])), (qo, .inl (cI, 4, .inl fmf)), (qz, .inl (cI, 4, .inl szf)), (qi, .inl (cI, 240, .inl imf))] s.heap.size = A at hD ⊢
  have hA : ∀ q : Nat, s.heap.size ≤ q → A q := fun q h => by rw [← hAe]; exact Or.inr h
  have hS : va_S A s.heap s.heap [] := va_S.rf
  have hP : va_P D vwCl [(m0, .inr (10, [.ref qk, .int (nI d), .int (nI sh), .int (nI low), .int (nI high), .int le, .int mo, .int (nI nb), .ref qp, .ref qr, .ref qc, .ref qm, .ref qb, .int (nI cap), .int kd, .int am, .int wt, .int md, .long z1, .long z2, .long z3, .long z4, .long z5, .int (nI sw), .int (nI np), .ref qf, .ref qs, .int (nI fe), .int (nI te), .int (nI kk), .ref qt, .ref qx, .ref qy, .int no, .int nt, .ref qo, .ref qz, .ref qi, .ref qv, .int fd])), (qo, .inl (cI, 4, .inl fmf)), (qz, .inl (cI, 4, .inl szf)), (qi, .inl (cI, 240, .inl imf))] s.heap := hP
  have hl := lv_entry ([.ref m0, .int t1]) (n := 6) (Nat.le_of_ble_eq_true rfl)
  rw [lg_entry_eq]
  generalize (lg_sl ([.ref m0, .int t1]) ++ List.replicate (6 - (lg_sl ([.ref m0, .int t1])).length) Slot.unset).toArray = ls at hl ⊢
  have hl : lv_has ls 6 [(0, .ref m0), (1, .int t1)] := hl
  have hpo := po_le it0 n0
  have hfr := fr_le it1 n1
  have hpzr := hpm_rng it0 n0 sh d
  have hwl := wl_up (i := sh) (a := 0) hpo hlow (d - sh)
  have hwh := wh_up (i := sh) (b := 3000) hfr hhigh (d - sh)
  refine lv_iload_n hx hb dX10_lightest_0 rfl (lv_at hl 1 rfl) ?_
  refine lv_i2l (v := t1.toInt64) hx hb dX10_lightest_1 rfl ?_
  refine lv_lconst (v := 0) hx hb dX10_lightest_2 (by decide) ?_
  refine lv_ldc2 hx hb hown (hts (.constantLong RX10 177 (100000)) (by decide +kernel)) dX10_lightest_3 ?_
  refine q_S (tys := TY cI cS cP) (D := D) ⟨hx, hb, hml, hown, hts⟩ [.long t1.toInt64, .long ((0 : Int32).toInt64), .long ((100000 : Int32).toInt64)] [] c_X10_in (va_cwS 3 hts gX10_lightest_X10_in rfl rfl rfl (by decide +kernel) ⟨Nat.le_of_ble_eq_true rfl, Nat.le_of_ble_eq_true rfl⟩) hK hN rfl hl.1 rfl (Nat.le_of_ble_eq_true rfl) dX10_lightest_6 ⟨Nat.zero_le _, Nat.zero_le _⟩ (fun r hw => ?_)
  subst hw
  refine lv_if_ne (tgt := 15) hx hb dX10_lightest_9 (by decide) (fun c_9 => ?_) (fun c_9 => ?_)
  ·
    have c_9 := bnz c_9
    obtain ⟨tn, htn, rfl⟩ := nat_of (hi := 100000) (n := 100000) (by decide) c_9
    refine lv_aload_n hx hb dX10_lightest_15 rfl (lv_at hl 0 rfl) ?_
    refine q_V (wc := [(m0, .inr (10, [.ref qk, .int (nI d), .int (nI sh), .int (nI low), .int (nI high), .int le, .int mo, .int (nI nb), .ref qp, .ref qr, .ref qc, .ref qm, .ref qb, .int (nI cap), .int kd, .int am, .int wt, .int md, .long z1, .long z2, .long z3, .long z4, .long z5, .int (nI sw), .int (nI np), .ref qf, .ref qs, .int (nI fe), .int (nI te), .int (nI kk), .ref qt, .ref qx, .ref qy, .int no, .int nt, .ref qo, .ref qz, .ref qi, .ref qv, .int fd])), (qo, .inl (cI, 4, .inl fmf)), (qz, .inl (cI, 4, .inl szf)), (qi, .inl (cI, 240, .inl imf))]) (b := m0) ⟨hx, hb, hml, hown, hts⟩ [] [] (c_X10_greatestPore (it0 := it0) (n0 := n0) (by first | assumption | omega) (by first | assumption | omega) (by first | assumption | omega) (by first | assumption | omega)) (cwV 0 hts gX10_lightest_X10_greatestPore rfl rfl rfl (by decide +kernel) ⟨Nat.le_of_ble_eq_true rfl, Nat.le_of_ble_eq_true rfl⟩) hK hN hP hD [0, 1, 2, 3] rfl (by decide) (ci := 10) rfl rfl rfl rfl hl.1 rfl (Nat.le_of_ble_eq_true rfl) dX10_lightest_16 ⟨Nat.zero_le _, Nat.zero_le _⟩ (fun r hw => ?_)
    subst hw
    refine lv_istore_n (lv' := [(2, .int (iI (hpm it0 n0 sh d))), (0, .ref m0), (1, .int (nI tn))]) hx hb dX10_lightest_19 rfl hl (by decide) rfl (fun ls hl => ?_)
    refine lv_aload_n hx hb dX10_lightest_20 rfl (lv_at hl 1 rfl) ?_
    refine va_get (D := D) (ci := 10) (v := .int (nI sh)) (C := RX10) (T := TX10) (N := 40) hx hb hts iX10 hown hK hP 0 rfl rfl 2 (by decide) (hts (.fieldLink RX10 76 "DeepHoleModel" "shoe" "I") (by decide +kernel)) (fun _ h9 => h9) rfl dX10_lightest_21 ?_
    refine lv_aload_n hx hb dX10_lightest_24 rfl (lv_at hl 1 rfl) ?_
    refine va_get (D := D) (ci := 10) (v := .int (nI d)) (C := RX10) (T := TX10) (N := 40) hx hb hts iX10 hown hK hP 0 rfl rfl 1 (by decide) (hts (.fieldLink RX10 73 "DeepHoleModel" "depth" "I") (by decide +kernel)) (fun _ h9 => h9) rfl dX10_lightest_25 ?_
    refine lv_icmp_ge (tgt := 51) hx hb dX10_lightest_28 (by decide) (fun c_28 => ?_) (fun c_28 => ?_)
    ·
      have c_28 := n_ge (a := sh) (b := d) c_28 (by omega) (by omega)
      have hd0 : d - sh = 0 := by omega
      refine lv_aload_n hx hb dX10_lightest_51 rfl (lv_at hl 1 rfl) ?_
      refine va_get (D := D) (ci := 10) (v := .int (nI sh)) (C := RX10) (T := TX10) (N := 40) hx hb hts iX10 hown hK hP 0 rfl rfl 2 (by decide) (hts (.fieldLink RX10 76 "DeepHoleModel" "shoe" "I") (by decide +kernel)) (fun _ h9 => h9) rfl dX10_lightest_52 ?_
      refine lv_aload_n hx hb dX10_lightest_55 rfl (lv_at hl 1 rfl) ?_
      refine va_get (D := D) (ci := 10) (v := .int (nI d)) (C := RX10) (T := TX10) (N := 40) hx hb hts iX10 hown hK hP 0 rfl rfl 1 (by decide) (hts (.fieldLink RX10 73 "DeepHoleModel" "depth" "I") (by decide +kernel)) (fun _ h9 => h9) rfl dX10_lightest_56 ?_
      refine lv_icmp_ge (tgt := 69) hx hb dX10_lightest_59 (by decide) (fun c_59 => ?_) (fun c_59 => ?_)
      ·
        have c_59 := n_ge (a := sh) (b := d) c_59 (by omega) (by omega)
        refine lv_iconst (v := 0) hx hb dX10_lightest_69 (by decide) ?_
        refine lv_istore_n (lv' := [(3, .int 0), (2, .int (iI (hpm it0 n0 sh d))), (0, .ref m0), (1, .int (nI tn))]) hx hb dX10_lightest_70 rfl hl (by decide) rfl (fun ls hl => ?_)
        refine lv_aload_n hx hb dX10_lightest_71 rfl (lv_at hl 2 rfl) ?_
        refine va_get (D := D) (ci := 10) (v := .int (nI sh)) (C := RX10) (T := TX10) (N := 40) hx hb hts iX10 hown hK hP 0 rfl rfl 2 (by decide) (hts (.fieldLink RX10 76 "DeepHoleModel" "shoe" "I") (by decide +kernel)) (fun _ h9 => h9) rfl dX10_lightest_72 ?_
        refine lv_aload_n hx hb dX10_lightest_75 rfl (lv_at hl 2 rfl) ?_
        refine va_get (D := D) (ci := 10) (v := .int (nI d)) (C := RX10) (T := TX10) (N := 40) hx hb hts iX10 hown hK hP 0 rfl rfl 1 (by decide) (hts (.fieldLink RX10 73 "DeepHoleModel" "depth" "I") (by decide +kernel)) (fun _ h9 => h9) rfl dX10_lightest_76 ?_
        refine lv_icmp_ge (tgt := 89) hx hb dX10_lightest_79 (by decide) (fun c_79 => ?_) (fun c_79 => ?_)
        ·
          have c_79 := n_ge (a := sh) (b := d) c_79 (by omega) (by omega)
          refine lv_sipush (v := 3000) hx hb dX10_lightest_89 (by decide) ?_
          refine lv_istore (lv' := [(4, .int 3000), (3, .int 0), (2, .int (iI (hpm it0 n0 sh d))), (0, .ref m0), (1, .int (nI tn))]) hx hb dX10_lightest_92 hl (by decide) rfl (fun ls hl => ?_)
          refine lv_iload_n hx hb dX10_lightest_94 rfl (lv_at hl 1 rfl) ?_
          refine lv_istore (lv' := [(5, .int 0), (4, .int 3000), (3, .int 0), (2, .int (iI (hpm it0 n0 sh d))), (0, .ref m0), (1, .int (nI tn))]) hx hb dX10_lightest_95 hl (by decide) rfl (fun ls hl => ?_)
          refine lp_w (I := fun zz9 H locs ls => ∃ (mm lt hv : Nat) (le mo : Int32), zz9 = hv + 1 - mm ∧ (wl (po it0 n0) low sh 0 (d - sh) ≤ wh (fr it1 n1) high sh 3000 (d - sh)) ∧ (lt = (wl (po it0 n0) low sh 0 (d - sh)).toNat ∧ hv = (wh (fr it1 n1) high sh 3000 (d - sh)).toNat) ∧ (lt ≤ mm ∧ mm ≤ hv + 1) ∧ (fst1 (inTime sw d tn (hpz it0 n0 sh d)) ((wl (po it0 n0) low sh 0 (d - sh)).toNat) (((wh (fr it1 n1) high sh 3000 (d - sh)).toNat) + 1 - ((wl (po it0 n0) low sh 0 (d - sh)).toNat)) = fst1 (inTime sw d tn (hpz it0 n0 sh d)) mm (hv + 1 - mm)) ∧ va_P D vwCl [(m0, .inr (10, [.ref qk, .int (nI d), .int (nI sh), .int (nI low), .int (nI high), .int le, .int mo, .int (nI nb), .ref qp, .ref qr, .ref qc, .ref qm, .ref qb, .int (nI cap), .int kd, .int am, .int wt, .int md, .long z1, .long z2, .long z3, .long z4, .long z5, .int (nI sw), .int (nI np), .ref qf, .ref qs, .int (nI fe), .int (nI te), .int (nI kk), .ref qt, .ref qx, .ref qy, .int no, .int nt, .ref qo, .ref qz, .ref qi, .ref qv, .int fd])), (qo, .inl (cI, 4, .inl fmf)), (qz, .inl (cI, 4, .inl szf)), (qi, .inl (cI, 240, .inl imf))] H ∧ va_D A [(m0, .inr (10, [.ref qk, .int (nI d), .int (nI sh), .int (nI low), .int (nI high), .int le, .int mo, .int (nI nb), .ref qp, .ref qr, .ref qc, .ref qm, .ref qb, .int (nI cap), .int kd, .int am, .int wt, .int md, .long z1, .long z2, .long z3, .long z4, .long z5, .int (nI sw), .int (nI np), .ref qf, .ref qs, .int (nI fe), .int (nI te), .int (nI kk), .ref qt, .ref qx, .ref qy, .int no, .int nt, .ref qo, .ref qz, .ref qi, .ref qv, .int fd])), (qo, .inl (cI, 4, .inl fmf)), (qz, .inl (cI, 4, .inl szf)), (qi, .inl (cI, 240, .inl imf))] ∧ va_S A s.heap H locs ∧ lv_has ls 6 [(0, .ref m0), (1, .int (nI tn)), (2, .int (iI (hpm it0 n0 sh d))), (3, .int (nI lt)), (4, .int (nI hv)), (5, .int (nI mm))]) ?_ (3000 + 1 - 0) ⟨0, 0, 3000, le, mo, rfl, (by first | exact c_45 | (rw [hd0]; simp only [wl, wh]; omega)), (by first | exact ⟨rfl, rfl⟩ | (rw [hd0]; exact ⟨rfl, rfl⟩)), (by omega), (by first | rfl | (rw [hd0]; rfl)), hP.sub [0, 1, 2, 3] rfl, hD.sub [0, 1, 2, 3] (by decide) rfl, hS, lv_sub hl [4, 5, 3, 2, 1, 0] rfl⟩
          intro n_97 H locs ls ih_97 hI
          obtain ⟨mm, lt, hv, le, mo, hn_97, hwin, hlt, hmm, hs, hP, hD, hS, hl⟩ := hI
          have htr := trip_rng (sw := sw) (m := mm) (pz := hpm it0 n0 sh d) hd
          refine lv_iload hx hb dX10_lightest_97 (lv_at hl 5 rfl) ?_
          refine lv_iload hx hb dX10_lightest_99 (lv_at hl 4 rfl) ?_
          refine lv_icmp_gt (tgt := 130) hx hb dX10_lightest_101 (by decide) (fun c_101 => ?_) (fun c_101 => ?_)
          ·
            have c_101 := n_gt (a := mm) (b := hv) c_101 (by omega) (by omega)
            refine lv_bipush (v := (-3)) hx hb dX10_lightest_130 (by decide) ?_
            have hP9 := hP.sub (ws' := [(m0, .inr (10, [.ref qk, .int (nI d), .int (nI sh), .int (nI low), .int (nI high), .int le, .int mo, .int (nI nb), .ref qp, .ref qr, .ref qc, .ref qm, .ref qb, .int (nI cap), .int kd, .int am, .int wt, .int md, .long z1, .long z2, .long z3, .long z4, .long z5, .int (nI sw), .int (nI np), .ref qf, .ref qs, .int (nI fe), .int (nI te), .int (nI kk), .ref qt, .ref qx, .ref qy, .int no, .int nt, .ref qo, .ref qz, .ref qi, .ref qv, .int fd])), (qo, .inl (cI, 4, .inl fmf)), (qz, .inl (cI, 4, .inl szf)), (qi, .inl (cI, 240, .inl imf))]) [0, 1, 2, 3] rfl
            have hD9 := hD.sub (ws' := [(m0, .inr (10, [.ref qk, .int (nI d), .int (nI sh), .int (nI low), .int (nI high), .int le, .int mo, .int (nI nb), .ref qp, .ref qr, .ref qc, .ref qm, .ref qb, .int (nI cap), .int kd, .int am, .int wt, .int md, .long z1, .long z2, .long z3, .long z4, .long z5, .int (nI sw), .int (nI np), .ref qf, .ref qs, .int (nI fe), .int (nI te), .int (nI kk), .ref qt, .ref qx, .ref qy, .int no, .int nt, .ref qo, .ref qz, .ref qi, .ref qv, .int fd])), (qo, .inl (cI, 4, .inl fmf)), (qz, .inl (cI, 4, .inl szf)), (qi, .inl (cI, 240, .inl imf))]) [0, 1, 2, 3] (by decide) rfl
            exact W.iret (v := (-3)) hx hb hr (fun t ht hW => ⟨⟨_, (le, mo), rfl, (by unfold aLight; rw [if_pos c_9, if_pos hwin, nI_clamp (by omega), hs, show hv + 1 - mm = 0 by omega]; rfl), by rw [ht]; exact hP9, hD9⟩, hS.F ht⟩) hS.2.2 dX10_lightest_132
          ·
            have c_101 := n_ngt (a := mm) (b := hv) c_101 (by omega) (by omega)
            refine lv_aload_n hx hb dX10_lightest_104 rfl (lv_at hl 0 rfl) ?_
            refine lv_iload hx hb dX10_lightest_105 (lv_at hl 5 rfl) ?_
            refine lv_iload_n hx hb dX10_lightest_107 rfl (lv_at hl 2 rfl) ?_
            refine q_V (wc := [(m0, .inr (10, [.ref qk, .int (nI d), .int (nI sh), .int (nI low), .int (nI high), .int le, .int mo, .int (nI nb), .ref qp, .ref qr, .ref qc, .ref qm, .ref qb, .int (nI cap), .int kd, .int am, .int wt, .int md, .long z1, .long z2, .long z3, .long z4, .long z5, .int (nI sw), .int (nI np), .ref qf, .ref qs, .int (nI fe), .int (nI te), .int (nI kk), .ref qt, .ref qx, .ref qy, .int no, .int nt, .ref qo, .ref qz, .ref qi, .ref qv, .int fd]))]) (b := m0) ⟨hx, hb, hml, hown, hts⟩ [.int (nI mm), .int (iI (hpm it0 n0 sh d))] [] (c_X10_tripOf  (by first | assumption | omega) (by first | assumption | omega) (by first | assumption | omega) (by first | assumption | omega)) (cwV 2 hts gX10_lightest_X10_tripOf rfl rfl rfl (by decide +kernel) ⟨Nat.le_of_ble_eq_true rfl, Nat.le_of_ble_eq_true rfl⟩) hK hN hP hD [0] rfl (by decide) (ci := 10) rfl rfl rfl rfl hl.1 rfl (Nat.le_of_ble_eq_true rfl) dX10_lightest_108 ⟨Nat.zero_le _, Nat.zero_le _⟩ (fun r hw => ?_)
            subst hw
            refine lv_i2l (v := (iI (trip sw d mm (hpm it0 n0 sh d))).toInt64) hx hb dX10_lightest_111 rfl ?_
            refine lv_lconst (v := 0) hx hb dX10_lightest_112 (by decide) ?_
            refine lv_iload_n hx hb dX10_lightest_113 rfl (lv_at hl 1 rfl) ?_
            refine lv_i2l (v := (nI tn).toInt64) hx hb dX10_lightest_114 rfl ?_
            refine q_S (tys := TY cI cS cP) (D := D) ⟨hx, hb, hml, hown, hts⟩ [.long ((iI (trip sw d mm (hpm it0 n0 sh d))).toInt64), .long ((0 : Int32).toInt64), .long ((nI tn).toInt64)] [] c_X10_in (va_cwS 3 hts gX10_lightest_X10_in rfl rfl rfl (by decide +kernel) ⟨Nat.le_of_ble_eq_true rfl, Nat.le_of_ble_eq_true rfl⟩) hK hN rfl hl.1 rfl (Nat.le_of_ble_eq_true rfl) dX10_lightest_115 ⟨Nat.zero_le _, Nat.zero_le _⟩ (fun r hw => ?_)
            subst hw
            refine lv_if_eq (tgt := 124) hx hb dX10_lightest_118 (by decide) (fun c_118 => ?_) (fun c_118 => ?_)
            ·
              have c_118 := bz c_118
              refine lv_iinc (v := nI (mm + 1)) (lv' := [(5, .int (nI (mm + 1))), (0, .ref m0), (1, .int (nI tn)), (2, .int (iI (hpm it0 n0 sh d))), (3, .int (nI lt)), (4, .int (nI hv))]) hx hb dX10_lightest_124 hl (k := 5) rfl (nI_1 _) (by decide) rfl (fun ls hl => ?_)
              refine lv_goto (tgt := 97) hx hb dX10_lightest_127 (by decide) ?_
              exact ih_97 _ _ _ _ (by omega) ⟨mm + 1, lt, hv, le, mo, rfl, (hwin), (by omega), (by omega), (by rw [hs, fst1_step (by omega), if_neg (fun h => c_118 ((inT_iff htr.1 htr.2 (by omega)).mpr (by rw [trip_hp (by omega) hsw hd]; exact of_decide_eq_true h))), Nat.sub_sub]), hP.sub [0, 1, 2, 3] rfl, hD.sub [0, 1, 2, 3] (by decide) rfl, hS, lv_sub hl [1, 2, 3, 4, 5, 0] rfl⟩
            ·
              have c_118 := bnz c_118
              refine lv_iload hx hb dX10_lightest_121 (lv_at hl 5 rfl) ?_
              have hP9 := hP.sub (ws' := [(m0, .inr (10, [.ref qk, .int (nI d), .int (nI sh), .int (nI low), .int (nI high), .int le, .int mo, .int (nI nb), .ref qp, .ref qr, .ref qc, .ref qm, .ref qb, .int (nI cap), .int kd, .int am, .int wt, .int md, .long z1, .long z2, .long z3, .long z4, .long z5, .int (nI sw), .int (nI np), .ref qf, .ref qs, .int (nI fe), .int (nI te), .int (nI kk), .ref qt, .ref qx, .ref qy, .int no, .int nt, .ref qo, .ref qz, .ref qi, .ref qv, .int fd])), (qo, .inl (cI, 4, .inl fmf)), (qz, .inl (cI, 4, .inl szf)), (qi, .inl (cI, 240, .inl imf))]) [0, 1, 2, 3] rfl
              have hD9 := hD.sub (ws' := [(m0, .inr (10, [.ref qk, .int (nI d), .int (nI sh), .int (nI low), .int (nI high), .int le, .int mo, .int (nI nb), .ref qp, .ref qr, .ref qc, .ref qm, .ref qb, .int (nI cap), .int kd, .int am, .int wt, .int md, .long z1, .long z2, .long z3, .long z4, .long z5, .int (nI sw), .int (nI np), .ref qf, .ref qs, .int (nI fe), .int (nI te), .int (nI kk), .ref qt, .ref qx, .ref qy, .int no, .int nt, .ref qo, .ref qz, .ref qi, .ref qv, .int fd])), (qo, .inl (cI, 4, .inl fmf)), (qz, .inl (cI, 4, .inl szf)), (qi, .inl (cI, 240, .inl imf))]) [0, 1, 2, 3] (by decide) rfl
              exact W.iret (v := nI mm) hx hb hr (fun t ht hW => ⟨⟨_, (le, mo), rfl, (by unfold aLight; rw [if_pos c_9, if_pos hwin, nI_clamp (by omega), hs, fst1_step (by omega), if_pos (show inTime sw d tn (hpz it0 n0 sh d) mm = true from decide_eq_true (by rw [← trip_hp (by omega) hsw hd]; exact (inT_iff htr.1 htr.2 (by omega)).mp c_118))]), by rw [ht]; exact hP9, hD9⟩, hS.F ht⟩) hS.2.2 dX10_lightest_123
        ·
          have c_79 := n_nge (a := sh) (b := d) c_79 (by omega) (by omega)
          exact absurd c_79 (by omega)
      ·
        have c_59 := n_nge (a := sh) (b := d) c_59 (by omega) (by omega)
        exact absurd c_59 (by omega)
    ·
      have c_28 := n_nge (a := sh) (b := d) c_28 (by omega) (by omega)
      refine lv_aload_n hx hb dX10_lightest_31 rfl (lv_at hl 1 rfl) ?_
      refine lv_aload_n hx hb dX10_lightest_32 rfl (lv_at hl 1 rfl) ?_
      refine va_get (D := D) (ci := 10) (v := .int (nI sh)) (C := RX10) (T := TX10) (N := 40) hx hb hts iX10 hown hK hP 0 rfl rfl 2 (by decide) (hts (.fieldLink RX10 76 "DeepHoleModel" "shoe" "I") (by decide +kernel)) (fun _ h9 => h9) rfl dX10_lightest_33 ?_
      refine lv_aload_n hx hb dX10_lightest_36 rfl (lv_at hl 1 rfl) ?_
      refine va_get (D := D) (ci := 10) (v := .int (nI d)) (C := RX10) (T := TX10) (N := 40) hx hb hts iX10 hown hK hP 0 rfl rfl 1 (by decide) (hts (.fieldLink RX10 73 "DeepHoleModel" "depth" "I") (by decide +kernel)) (fun _ h9 => h9) rfl dX10_lightest_37 ?_
      refine lv_iconst (v := 1) hx hb dX10_lightest_40 (by decide) ?_
      refine lv_isub hx hb dX10_lightest_41 ?_
      refine w_V (wc := [(m0, .inr (10, [.ref qk, .int (nI d), .int (nI sh), .int (nI low), .int (nI high), .int le, .int mo, .int (nI nb), .ref qp, .ref qr, .ref qc, .ref qm, .ref qb, .int (nI cap), .int kd, .int am, .int wt, .int md, .long z1, .long z2, .long z3, .long z4, .long z5, .int (nI sw), .int (nI np), .ref qf, .ref qs, .int (nI fe), .int (nI te), .int (nI kk), .ref qt, .ref qx, .ref qy, .int no, .int nt, .ref qo, .ref qz, .ref qi, .ref qv, .int fd])), (qo, .inl (cI, 4, .inl fmf)), (qz, .inl (cI, 4, .inl szf)), (qi, .inl (cI, 240, .inl imf))]) (wr := []) (b := m0) ⟨hx, hb, hml, hown, hts⟩ [.int (nI sh), .int (nI d - 1)] [] (c_X10_hasWindow (it0 := it0) (n0 := n0) (it1 := it1) (n1 := n1) (by first | assumption | omega) (by first | assumption | omega) (by first | assumption | omega) (by first | assumption | omega) (by first | assumption | omega) (by first | assumption | omega) (by first | assumption | omega) (by first | assumption | omega)) (cwV 2 hts gX10_lightest_X10_hasWindow rfl rfl rfl (by decide +kernel) ⟨Nat.le_of_ble_eq_true rfl, Nat.le_of_ble_eq_true rfl⟩) hK hN hP hD hS hA [0, 1, 2, 3] [] rfl (by decide) rfl (by decide) (by decide) (ci := 10) rfl rfl rfl rfl hl.1 rfl (Nat.le_of_ble_eq_true rfl) dX10_lightest_42 ⟨Nat.zero_le _, Nat.zero_le _⟩ (fun r u H locs hw hP hD hS => ?_)
      have hP : va_P D vwCl [(m0, .inr (10, [.ref qk, .int (nI d), .int (nI sh), .int (nI low), .int (nI high), .int (iI (wl (po it0 n0) low sh 0 (d - sh))), .int (iI (wh (fr it1 n1) high sh 3000 (d - sh))), .int (nI nb), .ref qp, .ref qr, .ref qc, .ref qm, .ref qb, .int (nI cap), .int kd, .int am, .int wt, .int md, .long z1, .long z2, .long z3, .long z4, .long z5, .int (nI sw), .int (nI np), .ref qf, .ref qs, .int (nI fe), .int (nI te), .int (nI kk), .ref qt, .ref qx, .ref qy, .int no, .int nt, .ref qo, .ref qz, .ref qi, .ref qv, .int fd])), (qo, .inl (cI, 4, .inl fmf)), (qz, .inl (cI, 4, .inl szf)), (qi, .inl (cI, 240, .inl imf))] H := hP
      have hD : va_D A [(m0, .inr (10, [.ref qk, .int (nI d), .int (nI sh), .int (nI low), .int (nI high), .int (iI (wl (po it0 n0) low sh 0 (d - sh))), .int (iI (wh (fr it1 n1) high sh 3000 (d - sh))), .int (nI nb), .ref qp, .ref qr, .ref qc, .ref qm, .ref qb, .int (nI cap), .int kd, .int am, .int wt, .int md, .long z1, .long z2, .long z3, .long z4, .long z5, .int (nI sw), .int (nI np), .ref qf, .ref qs, .int (nI fe), .int (nI te), .int (nI kk), .ref qt, .ref qx, .ref qy, .int no, .int nt, .ref qo, .ref qz, .ref qi, .ref qv, .int fd])), (qo, .inl (cI, 4, .inl fmf)), (qz, .inl (cI, 4, .inl szf)), (qi, .inl (cI, 240, .inl imf))] := hD
      subst hw
      refine lv_if_ne (tgt := 51) hx hb dX10_lightest_45 (by decide) (fun c_45 => ?_) (fun c_45 => ?_)
      ·
        have c_45 := bnz c_45
        refine lv_aload_n hx hb dX10_lightest_51 rfl (lv_at hl 1 rfl) ?_
        refine va_get (D := D) (ci := 10) (v := .int (nI sh)) (C := RX10) (T := TX10) (N := 40) hx hb hts iX10 hown hK hP 0 rfl rfl 2 (by decide) (hts (.fieldLink RX10 76 "DeepHoleModel" "shoe" "I") (by decide +kernel)) (fun _ h9 => h9) rfl dX10_lightest_52 ?_
        refine lv_aload_n hx hb dX10_lightest_55 rfl (lv_at hl 1 rfl) ?_
        refine va_get (D := D) (ci := 10) (v := .int (nI d)) (C := RX10) (T := TX10) (N := 40) hx hb hts iX10 hown hK hP 0 rfl rfl 1 (by decide) (hts (.fieldLink RX10 73 "DeepHoleModel" "depth" "I") (by decide +kernel)) (fun _ h9 => h9) rfl dX10_lightest_56 ?_
        refine lv_icmp_ge (tgt := 69) hx hb dX10_lightest_59 (by decide) (fun c_59 => ?_) (fun c_59 => ?_)
        ·
          have c_59 := n_ge (a := sh) (b := d) c_59 (by omega) (by omega)
          exact absurd c_59 (by omega)
        ·
          have c_59 := n_nge (a := sh) (b := d) c_59 (by omega) (by omega)
          refine lv_aload_n hx hb dX10_lightest_62 rfl (lv_at hl 1 rfl) ?_
          refine va_get (D := D) (ci := 10) (v := .int (iI (wl (po it0 n0) low sh 0 (d - sh)))) (C := RX10) (T := TX10) (N := 40) hx hb hts iX10 hown hK hP 0 rfl rfl 5 (by decide) (hts (.fieldLink RX10 99 "DeepHoleModel" "least" "I") (by decide +kernel)) (fun _ h9 => h9) rfl dX10_lightest_63 ?_
          refine lv_eqi (z := nI ((wl (po it0 n0) low sh 0 (d - sh)).toNat)) (iI_toN (by omega)) ?_
          refine lv_goto (tgt := 70) hx hb dX10_lightest_66 (by decide) ?_
          refine lv_istore_n (lv' := [(3, .int (nI ((wl (po it0 n0) low sh 0 (d - sh)).toNat))), (2, .int (iI (hpm it0 n0 sh d))), (0, .ref m0), (1, .int (nI tn))]) hx hb dX10_lightest_70 rfl hl (by decide) rfl (fun ls hl => ?_)
          refine lv_aload_n hx hb dX10_lightest_71 rfl (lv_at hl 2 rfl) ?_
          refine va_get (D := D) (ci := 10) (v := .int (nI sh)) (C := RX10) (T := TX10) (N := 40) hx hb hts iX10 hown hK hP 0 rfl rfl 2 (by decide) (hts (.fieldLink RX10 76 "DeepHoleModel" "shoe" "I") (by decide +kernel)) (fun _ h9 => h9) rfl dX10_lightest_72 ?_
          refine lv_aload_n hx hb dX10_lightest_75 rfl (lv_at hl 2 rfl) ?_
          refine va_get (D := D) (ci := 10) (v := .int (nI d)) (C := RX10) (T := TX10) (N := 40) hx hb hts iX10 hown hK hP 0 rfl rfl 1 (by decide) (hts (.fieldLink RX10 73 "DeepHoleModel" "depth" "I") (by decide +kernel)) (fun _ h9 => h9) rfl dX10_lightest_76 ?_
          refine lv_icmp_ge (tgt := 89) hx hb dX10_lightest_79 (by decide) (fun c_79 => ?_) (fun c_79 => ?_)
          ·
            have c_79 := n_ge (a := sh) (b := d) c_79 (by omega) (by omega)
            exact absurd c_79 (by omega)
          ·
            have c_79 := n_nge (a := sh) (b := d) c_79 (by omega) (by omega)
            refine lv_aload_n hx hb dX10_lightest_82 rfl (lv_at hl 2 rfl) ?_
            refine va_get (D := D) (ci := 10) (v := .int (iI (wh (fr it1 n1) high sh 3000 (d - sh)))) (C := RX10) (T := TX10) (N := 40) hx hb hts iX10 hown hK hP 0 rfl rfl 6 (by decide) (hts (.fieldLink RX10 102 "DeepHoleModel" "most" "I") (by decide +kernel)) (fun _ h9 => h9) rfl dX10_lightest_83 ?_
            refine lv_eqi (z := nI ((wh (fr it1 n1) high sh 3000 (d - sh)).toNat)) (iI_toN (by omega)) ?_
            refine lv_goto (tgt := 92) hx hb dX10_lightest_86 (by decide) ?_
            refine lv_istore (lv' := [(4, .int (nI ((wh (fr it1 n1) high sh 3000 (d - sh)).toNat))), (3, .int (nI ((wl (po it0 n0) low sh 0 (d - sh)).toNat))), (2, .int (iI (hpm it0 n0 sh d))), (0, .ref m0), (1, .int (nI tn))]) hx hb dX10_lightest_92 hl (by decide) rfl (fun ls hl => ?_)
            refine lv_iload_n hx hb dX10_lightest_94 rfl (lv_at hl 1 rfl) ?_
            refine lv_istore (lv' := [(5, .int (nI ((wl (po it0 n0) low sh 0 (d - sh)).toNat))), (4, .int (nI ((wh (fr it1 n1) high sh 3000 (d - sh)).toNat))), (3, .int (nI ((wl (po it0 n0) low sh 0 (d - sh)).toNat))), (2, .int (iI (hpm it0 n0 sh d))), (0, .ref m0), (1, .int (nI tn))]) hx hb dX10_lightest_95 hl (by decide) rfl (fun ls hl => ?_)
            refine lp_w (I := fun zz9 H locs ls => ∃ (mm lt hv : Nat) (le mo : Int32), zz9 = hv + 1 - mm ∧ (wl (po it0 n0) low sh 0 (d - sh) ≤ wh (fr it1 n1) high sh 3000 (d - sh)) ∧ (lt = (wl (po it0 n0) low sh 0 (d - sh)).toNat ∧ hv = (wh (fr it1 n1) high sh 3000 (d - sh)).toNat) ∧ (lt ≤ mm ∧ mm ≤ hv + 1) ∧ (fst1 (inTime sw d tn (hpz it0 n0 sh d)) ((wl (po it0 n0) low sh 0 (d - sh)).toNat) (((wh (fr it1 n1) high sh 3000 (d - sh)).toNat) + 1 - ((wl (po it0 n0) low sh 0 (d - sh)).toNat)) = fst1 (inTime sw d tn (hpz it0 n0 sh d)) mm (hv + 1 - mm)) ∧ va_P D vwCl [(m0, .inr (10, [.ref qk, .int (nI d), .int (nI sh), .int (nI low), .int (nI high), .int le, .int mo, .int (nI nb), .ref qp, .ref qr, .ref qc, .ref qm, .ref qb, .int (nI cap), .int kd, .int am, .int wt, .int md, .long z1, .long z2, .long z3, .long z4, .long z5, .int (nI sw), .int (nI np), .ref qf, .ref qs, .int (nI fe), .int (nI te), .int (nI kk), .ref qt, .ref qx, .ref qy, .int no, .int nt, .ref qo, .ref qz, .ref qi, .ref qv, .int fd])), (qo, .inl (cI, 4, .inl fmf)), (qz, .inl (cI, 4, .inl szf)), (qi, .inl (cI, 240, .inl imf))] H ∧ va_D A [(m0, .inr (10, [.ref qk, .int (nI d), .int (nI sh), .int (nI low), .int (nI high), .int le, .int mo, .int (nI nb), .ref qp, .ref qr, .ref qc, .ref qm, .ref qb, .int (nI cap), .int kd, .int am, .int wt, .int md, .long z1, .long z2, .long z3, .long z4, .long z5, .int (nI sw), .int (nI np), .ref qf, .ref qs, .int (nI fe), .int (nI te), .int (nI kk), .ref qt, .ref qx, .ref qy, .int no, .int nt, .ref qo, .ref qz, .ref qi, .ref qv, .int fd])), (qo, .inl (cI, 4, .inl fmf)), (qz, .inl (cI, 4, .inl szf)), (qi, .inl (cI, 240, .inl imf))] ∧ va_S A s.heap H locs ∧ lv_has ls 6 [(0, .ref m0), (1, .int (nI tn)), (2, .int (iI (hpm it0 n0 sh d))), (3, .int (nI lt)), (4, .int (nI hv)), (5, .int (nI mm))]) ?_ (((wh (fr it1 n1) high sh 3000 (d - sh)).toNat) + 1 - ((wl (po it0 n0) low sh 0 (d - sh)).toNat)) ⟨(wl (po it0 n0) low sh 0 (d - sh)).toNat, (wl (po it0 n0) low sh 0 (d - sh)).toNat, (wh (fr it1 n1) high sh 3000 (d - sh)).toNat, iI (wl (po it0 n0) low sh 0 (d - sh)), iI (wh (fr it1 n1) high sh 3000 (d - sh)), rfl, (by first | exact c_45 | (rw [hd0]; simp only [wl, wh]; omega)), (by first | exact ⟨rfl, rfl⟩ | (rw [hd0]; exact ⟨rfl, rfl⟩)), (by omega), (by first | rfl | (rw [hd0]; rfl)), hP.sub [0, 1, 2, 3] rfl, hD.sub [0, 1, 2, 3] (by decide) rfl, hS, lv_sub hl [4, 5, 3, 2, 1, 0] rfl⟩
            intro n_97 H locs ls ih_97 hI
            obtain ⟨mm, lt, hv, le, mo, hn_97, hwin, hlt, hmm, hs, hP, hD, hS, hl⟩ := hI
            have htr := trip_rng (sw := sw) (m := mm) (pz := hpm it0 n0 sh d) hd
            refine lv_iload hx hb dX10_lightest_97 (lv_at hl 5 rfl) ?_
            refine lv_iload hx hb dX10_lightest_99 (lv_at hl 4 rfl) ?_
            refine lv_icmp_gt (tgt := 130) hx hb dX10_lightest_101 (by decide) (fun c_101 => ?_) (fun c_101 => ?_)
            ·
              have c_101 := n_gt (a := mm) (b := hv) c_101 (by omega) (by omega)
              refine lv_bipush (v := (-3)) hx hb dX10_lightest_130 (by decide) ?_
              have hP9 := hP.sub (ws' := [(m0, .inr (10, [.ref qk, .int (nI d), .int (nI sh), .int (nI low), .int (nI high), .int le, .int mo, .int (nI nb), .ref qp, .ref qr, .ref qc, .ref qm, .ref qb, .int (nI cap), .int kd, .int am, .int wt, .int md, .long z1, .long z2, .long z3, .long z4, .long z5, .int (nI sw), .int (nI np), .ref qf, .ref qs, .int (nI fe), .int (nI te), .int (nI kk), .ref qt, .ref qx, .ref qy, .int no, .int nt, .ref qo, .ref qz, .ref qi, .ref qv, .int fd])), (qo, .inl (cI, 4, .inl fmf)), (qz, .inl (cI, 4, .inl szf)), (qi, .inl (cI, 240, .inl imf))]) [0, 1, 2, 3] rfl
              have hD9 := hD.sub (ws' := [(m0, .inr (10, [.ref qk, .int (nI d), .int (nI sh), .int (nI low), .int (nI high), .int le, .int mo, .int (nI nb), .ref qp, .ref qr, .ref qc, .ref qm, .ref qb, .int (nI cap), .int kd, .int am, .int wt, .int md, .long z1, .long z2, .long z3, .long z4, .long z5, .int (nI sw), .int (nI np), .ref qf, .ref qs, .int (nI fe), .int (nI te), .int (nI kk), .ref qt, .ref qx, .ref qy, .int no, .int nt, .ref qo, .ref qz, .ref qi, .ref qv, .int fd])), (qo, .inl (cI, 4, .inl fmf)), (qz, .inl (cI, 4, .inl szf)), (qi, .inl (cI, 240, .inl imf))]) [0, 1, 2, 3] (by decide) rfl
              exact W.iret (v := (-3)) hx hb hr (fun t ht hW => ⟨⟨_, (le, mo), rfl, (by unfold aLight; rw [if_pos c_9, if_pos hwin, nI_clamp (by omega), hs, show hv + 1 - mm = 0 by omega]; rfl), by rw [ht]; exact hP9, hD9⟩, hS.F ht⟩) hS.2.2 dX10_lightest_132
            ·
              have c_101 := n_ngt (a := mm) (b := hv) c_101 (by omega) (by omega)
              refine lv_aload_n hx hb dX10_lightest_104 rfl (lv_at hl 0 rfl) ?_
              refine lv_iload hx hb dX10_lightest_105 (lv_at hl 5 rfl) ?_
              refine lv_iload_n hx hb dX10_lightest_107 rfl (lv_at hl 2 rfl) ?_
              refine q_V (wc := [(m0, .inr (10, [.ref qk, .int (nI d), .int (nI sh), .int (nI low), .int (nI high), .int le, .int mo, .int (nI nb), .ref qp, .ref qr, .ref qc, .ref qm, .ref qb, .int (nI cap), .int kd, .int am, .int wt, .int md, .long z1, .long z2, .long z3, .long z4, .long z5, .int (nI sw), .int (nI np), .ref qf, .ref qs, .int (nI fe), .int (nI te), .int (nI kk), .ref qt, .ref qx, .ref qy, .int no, .int nt, .ref qo, .ref qz, .ref qi, .ref qv, .int fd]))]) (b := m0) ⟨hx, hb, hml, hown, hts⟩ [.int (nI mm), .int (iI (hpm it0 n0 sh d))] [] (c_X10_tripOf  (by first | assumption | omega) (by first | assumption | omega) (by first | assumption | omega) (by first | assumption | omega)) (cwV 2 hts gX10_lightest_X10_tripOf rfl rfl rfl (by decide +kernel) ⟨Nat.le_of_ble_eq_true rfl, Nat.le_of_ble_eq_true rfl⟩) hK hN hP hD [0] rfl (by decide) (ci := 10) rfl rfl rfl rfl hl.1 rfl (Nat.le_of_ble_eq_true rfl) dX10_lightest_108 ⟨Nat.zero_le _, Nat.zero_le _⟩ (fun r hw => ?_)
              subst hw
              refine lv_i2l (v := (iI (trip sw d mm (hpm it0 n0 sh d))).toInt64) hx hb dX10_lightest_111 rfl ?_
              refine lv_lconst (v := 0) hx hb dX10_lightest_112 (by decide) ?_
              refine lv_iload_n hx hb dX10_lightest_113 rfl (lv_at hl 1 rfl) ?_
              refine lv_i2l (v := (nI tn).toInt64) hx hb dX10_lightest_114 rfl ?_
              refine q_S (tys := TY cI cS cP) (D := D) ⟨hx, hb, hml, hown, hts⟩ [.long ((iI (trip sw d mm (hpm it0 n0 sh d))).toInt64), .long ((0 : Int32).toInt64), .long ((nI tn).toInt64)] [] c_X10_in (va_cwS 3 hts gX10_lightest_X10_in rfl rfl rfl (by decide +kernel) ⟨Nat.le_of_ble_eq_true rfl, Nat.le_of_ble_eq_true rfl⟩) hK hN rfl hl.1 rfl (Nat.le_of_ble_eq_true rfl) dX10_lightest_115 ⟨Nat.zero_le _, Nat.zero_le _⟩ (fun r hw => ?_)
              subst hw
              refine lv_if_eq (tgt := 124) hx hb dX10_lightest_118 (by decide) (fun c_118 => ?_) (fun c_118 => ?_)
              ·
                have c_118 := bz c_118
                refine lv_iinc (v := nI (mm + 1)) (lv' := [(5, .int (nI (mm + 1))), (0, .ref m0), (1, .int (nI tn)), (2, .int (iI (hpm it0 n0 sh d))), (3, .int (nI lt)), (4, .int (nI hv))]) hx hb dX10_lightest_124 hl (k := 5) rfl (nI_1 _) (by decide) rfl (fun ls hl => ?_)
                refine lv_goto (tgt := 97) hx hb dX10_lightest_127 (by decide) ?_
                exact ih_97 _ _ _ _ (by omega) ⟨mm + 1, lt, hv, le, mo, rfl, (hwin), (by omega), (by omega), (by rw [hs, fst1_step (by omega), if_neg (fun h => c_118 ((inT_iff htr.1 htr.2 (by omega)).mpr (by rw [trip_hp (by omega) hsw hd]; exact of_decide_eq_true h))), Nat.sub_sub]), hP.sub [0, 1, 2, 3] rfl, hD.sub [0, 1, 2, 3] (by decide) rfl, hS, lv_sub hl [1, 2, 3, 4, 5, 0] rfl⟩
              ·
                have c_118 := bnz c_118
                refine lv_iload hx hb dX10_lightest_121 (lv_at hl 5 rfl) ?_
                have hP9 := hP.sub (ws' := [(m0, .inr (10, [.ref qk, .int (nI d), .int (nI sh), .int (nI low), .int (nI high), .int le, .int mo, .int (nI nb), .ref qp, .ref qr, .ref qc, .ref qm, .ref qb, .int (nI cap), .int kd, .int am, .int wt, .int md, .long z1, .long z2, .long z3, .long z4, .long z5, .int (nI sw), .int (nI np), .ref qf, .ref qs, .int (nI fe), .int (nI te), .int (nI kk), .ref qt, .ref qx, .ref qy, .int no, .int nt, .ref qo, .ref qz, .ref qi, .ref qv, .int fd])), (qo, .inl (cI, 4, .inl fmf)), (qz, .inl (cI, 4, .inl szf)), (qi, .inl (cI, 240, .inl imf))]) [0, 1, 2, 3] rfl
                have hD9 := hD.sub (ws' := [(m0, .inr (10, [.ref qk, .int (nI d), .int (nI sh), .int (nI low), .int (nI high), .int le, .int mo, .int (nI nb), .ref qp, .ref qr, .ref qc, .ref qm, .ref qb, .int (nI cap), .int kd, .int am, .int wt, .int md, .long z1, .long z2, .long z3, .long z4, .long z5, .int (nI sw), .int (nI np), .ref qf, .ref qs, .int (nI fe), .int (nI te), .int (nI kk), .ref qt, .ref qx, .ref qy, .int no, .int nt, .ref qo, .ref qz, .ref qi, .ref qv, .int fd])), (qo, .inl (cI, 4, .inl fmf)), (qz, .inl (cI, 4, .inl szf)), (qi, .inl (cI, 240, .inl imf))]) [0, 1, 2, 3] (by decide) rfl
                exact W.iret (v := nI mm) hx hb hr (fun t ht hW => ⟨⟨_, (le, mo), rfl, (by unfold aLight; rw [if_pos c_9, if_pos hwin, nI_clamp (by omega), hs, fst1_step (by omega), if_pos (show inTime sw d tn (hpz it0 n0 sh d) mm = true from decide_eq_true (by rw [← trip_hp (by omega) hsw hd]; exact (inT_iff htr.1 htr.2 (by omega)).mp c_118))]), by rw [ht]; exact hP9, hD9⟩, hS.F ht⟩) hS.2.2 dX10_lightest_123
      ·
        have c_45 := bz c_45
        refine lv_bipush (v := (-3)) hx hb dX10_lightest_48 (by decide) ?_
        have hP9 := hP.sub (ws' := [(m0, .inr (10, [.ref qk, .int (nI d), .int (nI sh), .int (nI low), .int (nI high), .int (iI (wl (po it0 n0) low sh 0 (d - sh))), .int (iI (wh (fr it1 n1) high sh 3000 (d - sh))), .int (nI nb), .ref qp, .ref qr, .ref qc, .ref qm, .ref qb, .int (nI cap), .int kd, .int am, .int wt, .int md, .long z1, .long z2, .long z3, .long z4, .long z5, .int (nI sw), .int (nI np), .ref qf, .ref qs, .int (nI fe), .int (nI te), .int (nI kk), .ref qt, .ref qx, .ref qy, .int no, .int nt, .ref qo, .ref qz, .ref qi, .ref qv, .int fd])), (qo, .inl (cI, 4, .inl fmf)), (qz, .inl (cI, 4, .inl szf)), (qi, .inl (cI, 240, .inl imf))]) [0, 1, 2, 3] rfl
        have hD9 := hD.sub (ws' := [(m0, .inr (10, [.ref qk, .int (nI d), .int (nI sh), .int (nI low), .int (nI high), .int (iI (wl (po it0 n0) low sh 0 (d - sh))), .int (iI (wh (fr it1 n1) high sh 3000 (d - sh))), .int (nI nb), .ref qp, .ref qr, .ref qc, .ref qm, .ref qb, .int (nI cap), .int kd, .int am, .int wt, .int md, .long z1, .long z2, .long z3, .long z4, .long z5, .int (nI sw), .int (nI np), .ref qf, .ref qs, .int (nI fe), .int (nI te), .int (nI kk), .ref qt, .ref qx, .ref qy, .int no, .int nt, .ref qo, .ref qz, .ref qi, .ref qv, .int fd])), (qo, .inl (cI, 4, .inl fmf)), (qz, .inl (cI, 4, .inl szf)), (qi, .inl (cI, 240, .inl imf))]) [0, 1, 2, 3] (by decide) rfl
        exact W.iret (v := (-3)) hx hb hr (fun t ht hW => ⟨⟨_, (iI (wl (po it0 n0) low sh 0 (d - sh)), iI (wh (fr it1 n1) high sh 3000 (d - sh))), rfl, (by unfold aLight; rw [if_pos c_9, if_neg c_45]), by rw [ht]; exact hP9, hD9⟩, hS.F ht⟩) hS.2.2 dX10_lightest_50
  ·
    have c_9 := bz c_9
    refine lv_bipush (v := (-2)) hx hb dX10_lightest_12 (by decide) ?_
    have hP9 := hP.sub (ws' := [(m0, .inr (10, [.ref qk, .int (nI d), .int (nI sh), .int (nI low), .int (nI high), .int le, .int mo, .int (nI nb), .ref qp, .ref qr, .ref qc, .ref qm, .ref qb, .int (nI cap), .int kd, .int am, .int wt, .int md, .long z1, .long z2, .long z3, .long z4, .long z5, .int (nI sw), .int (nI np), .ref qf, .ref qs, .int (nI fe), .int (nI te), .int (nI kk), .ref qt, .ref qx, .ref qy, .int no, .int nt, .ref qo, .ref qz, .ref qi, .ref qv, .int fd])), (qo, .inl (cI, 4, .inl fmf)), (qz, .inl (cI, 4, .inl szf)), (qi, .inl (cI, 240, .inl imf))]) [0, 1, 2, 3] rfl
    have hD9 := hD.sub (ws' := [(m0, .inr (10, [.ref qk, .int (nI d), .int (nI sh), .int (nI low), .int (nI high), .int le, .int mo, .int (nI nb), .ref qp, .ref qr, .ref qc, .ref qm, .ref qb, .int (nI cap), .int kd, .int am, .int wt, .int md, .long z1, .long z2, .long z3, .long z4, .long z5, .int (nI sw), .int (nI np), .ref qf, .ref qs, .int (nI fe), .int (nI te), .int (nI kk), .ref qt, .ref qx, .ref qy, .int no, .int nt, .ref qo, .ref qz, .ref qi, .ref qv, .int fd])), (qo, .inl (cI, 4, .inl fmf)), (qz, .inl (cI, 4, .inl szf)), (qi, .inl (cI, 240, .inl imf))]) [0, 1, 2, 3] (by decide) rfl
    exact W.iret (v := (-2)) hx hb hr (fun t ht hW => ⟨⟨_, (le, mo), rfl, (by unfold aLight; rw [if_neg c_9]), by rw [ht]; exact hP9, hD9⟩, hS.F ht⟩) hS.2.2 dX10_lightest_14
