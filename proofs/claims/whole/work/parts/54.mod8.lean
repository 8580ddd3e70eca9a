set_option maxHeartbeats 4000000 in
set_option maxRecDepth 100000 in
theorem c_X10_copy {l : Launch} {D : va_G} {cI cS cP : ClassId} {sz : Nat} {m0 qk qp qr qc qm qb qf qs qt qx qy qo qz qi qv : Nat} {d sh low high nb cap sw np fe te kk : Nat} {le mo kd am wt md no nt fd : Int32} {z1 z2 z3 z4 z5 : Int64} {fmf szf imf : Nat → Int32} {k n : Nat} {lo fo : Int32} {it : Nat → Int32} {mvf : Nat → Int32} {k2 nq : Nat} {lq fq : Int32} {iq : Nat → Int32} {i1 j1 k1 : Int32} (hk : k < 4) (hn : n ≤ 60) (hSR : sREL fmf szf imf k lo fo n it) (hk2 : k2 < 4) (hnq : nq ≤ 60) (hS2 : sREL fmf szf imf k2 lq fq nq iq) : Met l yX10_copy wsX10_copy ({ frames := 2, cells := 0, slots := 0, locals := 45 }) (PC D (TY cI cS cP) [.ref m0, .int (nI k), .int i1, .int (nI k2), .int j1, .int k1] sz [(m0, .inr (10, [.ref qk, .int (nI d), .int (nI sh), .int (nI low), .int (nI high), .int le, .int mo, .int (nI nb), .ref qp, .ref qr, .ref qc, .ref qm, .ref qb, .int (nI cap), .int kd, .int am, .int wt, .int md, .long z1, .long z2, .long z3, .long z4, .long z5, .int (nI sw), .int (nI np), .ref qf, .ref qs, .int (nI fe), .int (nI te), .int (nI kk), .ref qt, .ref qx, .ref qy, .int no, .int nt, .ref qo, .ref qz, .ref qi, .ref qv, .int fd])), (qo, .inl (cI, 4, .inl fmf)), (qz, .inl (cI, 4, .inl szf)), (qi, .inl (cI, 240, .inl imf)), (qv, .inl (cI, 60, .inl mvf))]) (QI D (fun (r : Int32) (u : Int32 × (Nat → Int32) × (Nat → Int32)) => (r = aCopy (wrongC lo fo lq fq n nq i1 j1 k1)) ∧ (u.1, u.2.1) = sCopyM (wrongC lo fo lq fq n nq i1 j1 k1) fd imf k k2 i1 j1 k1) (fun (u : Int32 × (Nat → Int32) × (Nat → Int32)) => [(m0, .inr (10, [.ref qk, .int (nI d), .int (nI sh), .int (nI low), .int (nI high), .int le, .int mo, .int (nI nb), .ref qp, .ref qr, .ref qc, .ref qm, .ref qb, .int (nI cap), .int kd, .int am, .int wt, .int md, .long z1, .long z2, .long z3, .long z4, .long z5, .int (nI sw), .int (nI np), .ref qf, .ref qs, .int (nI fe), .int (nI te), .int (nI kk), .ref qt, .ref qx, .ref qy, .int no, .int nt, .ref qo, .ref qz, .ref qi, .ref qv, .int u.1])), (qo, .inl (cI, 4, .inl fmf)), (qz, .inl (cI, 4, .inl szf)), (qi, .inl (cI, 240, .inl u.2.1)), (qv, .inl (cI, 60, .inl u.2.2))]) (va_A [(m0, .inr (10, [.ref qk, .int (nI d), .int (nI sh), .int (nI low), .int (nI high), .int le, .int mo, .int (nI nb), .ref qp, .ref qr, .ref qc, .ref qm, .ref qb, .int (nI cap), .int kd, .int am, .int wt, .int md, .long z1, .long z2, .long z3, .long z4, .long z5, .int (nI sw), .int (nI np), .ref qf, .ref qs, .int (nI fe), .int (nI te), .int (nI kk), .ref qt, .ref qx, .ref qy, .int no, .int nt, .ref qo, .ref qz, .ref qi, .ref qv, .int fd])), (qo, .inl (cI, 4, .inl fmf)), (qz, .inl (cI, 4, .inl szf)), (qi, .inl (cI, 240, .inl imf)), (qv, .inl (cI, 60, .inl mvf))] sz)) 0 0 (va_A [(m0, .inr (10, [.ref qk, .int (nI d), .int (nI sh), .int (nI low), .int (nI high), .int le, .int mo, .int (nI nb), .ref qp, .ref qr, .ref qc, .ref qm, .ref qb, .int (nI cap), .int kd, .int am, .int wt, .int md, .long z1, .long z2, .long z3, .long z4, .long z5, .int (nI sw), .int (nI np), .ref qf, .ref qs, .int (nI fe), .int (nI te), .int (nI kk), .ref qt, .ref qx, .ref qy, .int no, .int nt, .ref qo, .ref qz, .ref qi, .ref qv, .int fd])), (qo, .inl (cI, 4, .inl fmf)), (qz, .inl (cI, 4, .inl szf)), (qi, .inl (cI, 240, .inl imf)), (qv, .inl (cI, 60, .inl mvf))] sz) := by
  refine Met.ofW (cc := cX10_copy) (maxL := 7) (ret := (some .int)) (by decide) rfl ?_
  intro p e s m args below meth c s₁ B hml hv
  obtain ⟨rfl, hsz, hP, hK, hD0, hN⟩ := hv
  have hx := B.exec
  have hb := B.bytes
  have hr := B.returns
  have hts := atoms_spec (ws := wsX10_copy) B.pre
  have hown : s.vm.findClass RX10 = some m.cls := findClass_of_methodNamed B.named
  have hlocks := B.notSynchronized
  subst hsz
  have iX10 : ∀ w ∈ u_ws RX10 TX10 40, w ∈ wsX10_copy := by decide +kernel
  have hD := hD0.self (sz := s.heap.size)
  generalize hAe : va_A [(m0, .inr (10, [.ref qk, .int (nI d), .int (nI sh), .int (nI low), .int (nI high), .int le, .int mo, .int (nI nb), .ref qp, .ref qr, .ref qc, .ref qm, .ref qb, .int (nI cap), .int kd, .int am, .int wt, .int md, .long z1, .long z2, .long z3, .long z4, .long z5, .int (nI sw), .int (nI np), .ref qf, .ref qs, .int (nI fe), .int (nI te), .int (nI kk), .ref qt, .ref qx, .ref qy, .int no, .int nt, .ref qo, .ref qz, .ref qi, .ref qv, .int fd])), (qo, .inl (cI, 4, .inl fmf)), (qz, .inl (cI, 4, .inl szf)), (qi, .inl (cI, 240, .inl imf)), (qv, .inl (cI, 60, .inl mvf))] s.heap.size = A at hD ⊢
  have hA : ∀ q : Nat, s.heap.size ≤ q → A q := fun q h => by rw [← hAe]; exact Or.inr h
  have hS : va_S A s.heap s.heap [] := va_S.rf
  have hP : va_P D vwCl [(m0, .inr (10, [.ref qk, .int (nI d), .int (nI sh), .int (nI low), .int (nI high), .int le, .int mo, .int (nI nb), .ref qp, .ref qr, .ref qc, .ref qm, .ref qb, .int (nI cap), .int kd, .int am, .int wt, .int md, .long z1, .long z2, .long z3, .long z4, .long z5, .int (nI sw), .int (nI np), .ref qf, .ref qs, .int (nI fe), .int (nI te), .int (nI kk), .ref qt, .ref qx, .ref qy, .int no, .int nt, .ref qo, .ref qz, .ref qi, .ref qv, .int fd])), (qo, .inl (cI, 4, .inl fmf)), (qz, .inl (cI, 4, .inl szf)), (qi, .inl (cI, 240, .inl imf)), (qv, .inl (cI, 60, .inl mvf))] s.heap := hP
  have hl := lv_entry ([.ref m0, .int (nI k), .int i1, .int (nI k2), .int j1, .int k1]) (n := 7) (Nat.le_of_ble_eq_true rfl)
  rw [lg_entry_eq]
  generalize (lg_sl ([.ref m0, .int (nI k), .int i1, .int (nI k2), .int j1, .int k1]) ++ List.replicate (7 - (lg_sl ([.ref m0, .int (nI k), .int i1, .int (nI k2), .int j1, .int k1])).length) Slot.unset).toArray = ls at hl ⊢
  have hl : lv_has ls 7 [(0, .ref m0), (1, .int (nI k)), (2, .int i1), (3, .int (nI k2)), (4, .int j1), (5, .int k1)] := hl
  refine lv_iload_n hx hb dX10_copy_0 rfl (lv_at hl 1 rfl) ?_
  refine q_S (tys := TY cI cS cP) (D := D) ⟨hx, hb, hml, hown, hts⟩ [.int (nI k)] [] c_X10_isSheet (va_cwS 1 hts gX10_copy_X10_isSheet rfl rfl rfl (by decide +kernel) ⟨Nat.le_of_ble_eq_true rfl, Nat.le_of_ble_eq_true rfl⟩) hK hN rfl hl.1 rfl (Nat.le_of_ble_eq_true rfl) dX10_copy_1 ⟨Nat.zero_le _, Nat.zero_le _⟩ (fun r hw => ?_)
  subst hw
  refine lv_if_eq (tgt := 14) hx hb dX10_copy_4 (by decide) (fun c_4 => ?_) (fun c_4 => ?_)
  ·
    have c_4 := bz c_4
    exact absurd (show (0 : Int32) ≤ nI k ∧ nI k ≤ 3 from ⟨nI_pos' (by omega), nI_le (b := 3) (by omega) (by decide)⟩) c_4
  ·
    have c_4 := bnz c_4
    refine lv_iload_n hx hb dX10_copy_7 rfl (lv_at hl 3 rfl) ?_
    refine q_S (tys := TY cI cS cP) (D := D) ⟨hx, hb, hml, hown, hts⟩ [.int (nI k2)] [] c_X10_isSheet (va_cwS 1 hts gX10_copy_X10_isSheet rfl rfl rfl (by decide +kernel) ⟨Nat.le_of_ble_eq_true rfl, Nat.le_of_ble_eq_true rfl⟩) hK hN rfl hl.1 rfl (Nat.le_of_ble_eq_true rfl) dX10_copy_8 ⟨Nat.zero_le _, Nat.zero_le _⟩ (fun r hw => ?_)
    subst hw
    refine lv_if_ne (tgt := 17) hx hb dX10_copy_11 (by decide) (fun c_11 => ?_) (fun c_11 => ?_)
    ·
      have c_11 := bnz c_11
      refine lv_aload_n hx hb dX10_copy_17 rfl (lv_at hl 0 rfl) ?_
      refine va_get (D := D) (ci := 10) (v := .ref qo) (C := RX10) (T := TX10) (N := 40) hx hb hts iX10 hown hK hP 0 rfl rfl 35 (by decide) (hts (.fieldLink RX10 53 "DeepHoleModel" "forms" "[I") (by decide +kernel)) (fun _ h9 => h9) rfl dX10_copy_18 ?_
      refine lv_iload_n hx hb dX10_copy_21 rfl (lv_at hl 1 rfl) ?_
      refine rd_i hx hb hK hP 1 0 rfl rfl (k := k) (by omega) (by decide) dX10_copy_22 ?_
      refine lv_if_lt (tgt := 35) hx hb dX10_copy_23 (by decide) (fun c_23 => ?_) (fun c_23 => ?_)
      ·
        have hneg := hSR.neg c_23
        refine lv_aload_n hx hb dX10_copy_35 rfl (lv_at hl 0 rfl) ?_
        refine lv_iconst (v := 1) hx hb dX10_copy_36 (by decide) ?_
        refine w_V (wc := [(m0, .inr (10, [.ref qk, .int (nI d), .int (nI sh), .int (nI low), .int (nI high), .int le, .int mo, .int (nI nb), .ref qp, .ref qr, .ref qc, .ref qm, .ref qb, .int (nI cap), .int kd, .int am, .int wt, .int md, .long z1, .long z2, .long z3, .long z4, .long z5, .int (nI sw), .int (nI np), .ref qf, .ref qs, .int (nI fe), .int (nI te), .int (nI kk), .ref qt, .ref qx, .ref qy, .int no, .int nt, .ref qo, .ref qz, .ref qi, .ref qv, .int fd]))]) (wr := [(qo, .inl (cI, 4, .inl fmf)), (qz, .inl (cI, 4, .inl szf)), (qi, .inl (cI, 240, .inl imf)), (qv, .inl (cI, 60, .inl mvf))]) (b := m0) ⟨hx, hb, hml, hown, hts⟩ [.int (1 : Int32)] [] c_X10_met (cwV 1 hts gX10_copy_X10_met rfl rfl rfl (by decide +kernel) ⟨Nat.le_of_ble_eq_true rfl, Nat.le_of_ble_eq_true rfl⟩) hK hN hP hD hS hA [0] [1, 2, 3, 4] rfl (by decide) rfl (by decide) (by decide) (ci := 10) rfl rfl rfl rfl hl.1 rfl (Nat.le_of_ble_eq_true rfl) dX10_copy_37 ⟨Nat.zero_le _, Nat.zero_le _⟩ (fun r u H locs hw hP hD hS => ?_)
        have hP : va_P D vwCl [(qo, .inl (cI, 4, .inl fmf)), (qz, .inl (cI, 4, .inl szf)), (qi, .inl (cI, 240, .inl imf)), (qv, .inl (cI, 60, .inl mvf)), (m0, .inr (10, [.ref qk, .int (nI d), .int (nI sh), .int (nI low), .int (nI high), .int le, .int mo, .int (nI nb), .ref qp, .ref qr, .ref qc, .ref qm, .ref qb, .int (nI cap), .int kd, .int am, .int wt, .int md, .long z1, .long z2, .long z3, .long z4, .long z5, .int (nI sw), .int (nI np), .ref qf, .ref qs, .int (nI fe), .int (nI te), .int (nI kk), .ref qt, .ref qx, .ref qy, .int no, .int nt, .ref qo, .ref qz, .ref qi, .ref qv, .int (1 : Int32)]))] H := hP
        have hD : va_D A [(qo, .inl (cI, 4, .inl fmf)), (qz, .inl (cI, 4, .inl szf)), (qi, .inl (cI, 240, .inl imf)), (qv, .inl (cI, 60, .inl mvf)), (m0, .inr (10, [.ref qk, .int (nI d), .int (nI sh), .int (nI low), .int (nI high), .int le, .int mo, .int (nI nb), .ref qp, .ref qr, .ref qc, .ref qm, .ref qb, .int (nI cap), .int kd, .int am, .int wt, .int md, .long z1, .long z2, .long z3, .long z4, .long z5, .int (nI sw), .int (nI np), .ref qf, .ref qs, .int (nI fe), .int (nI te), .int (nI kk), .ref qt, .ref qx, .ref qy, .int no, .int nt, .ref qo, .ref qz, .ref qi, .ref qv, .int (1 : Int32)]))] := hD
        subst hw
        have hP9 := hP.sub (ws' := [(m0, .inr (10, [.ref qk, .int (nI d), .int (nI sh), .int (nI low), .int (nI high), .int le, .int mo, .int (nI nb), .ref qp, .ref qr, .ref qc, .ref qm, .ref qb, .int (nI cap), .int kd, .int am, .int wt, .int md, .long z1, .long z2, .long z3, .long z4, .long z5, .int (nI sw), .int (nI np), .ref qf, .ref qs, .int (nI fe), .int (nI te), .int (nI kk), .ref qt, .ref qx, .ref qy, .int no, .int nt, .ref qo, .ref qz, .ref qi, .ref qv, .int (1 : Int32)])), (qo, .inl (cI, 4, .inl fmf)), (qz, .inl (cI, 4, .inl szf)), (qi, .inl (cI, 240, .inl imf)), (qv, .inl (cI, 60, .inl mvf))]) [4, 0, 1, 2, 3] rfl
        have hD9 := hD.sub (ws' := [(m0, .inr (10, [.ref qk, .int (nI d), .int (nI sh), .int (nI low), .int (nI high), .int le, .int mo, .int (nI nb), .ref qp, .ref qr, .ref qc, .ref qm, .ref qb, .int (nI cap), .int kd, .int am, .int wt, .int md, .long z1, .long z2, .long z3, .long z4, .long z5, .int (nI sw), .int (nI np), .ref qf, .ref qs, .int (nI fe), .int (nI te), .int (nI kk), .ref qt, .ref qx, .ref qy, .int no, .int nt, .ref qo, .ref qz, .ref qi, .ref qv, .int (1 : Int32)])), (qo, .inl (cI, 4, .inl fmf)), (qz, .inl (cI, 4, .inl szf)), (qi, .inl (cI, 240, .inl imf)), (qv, .inl (cI, 60, .inl mvf))]) [4, 0, 1, 2, 3] (by decide) rfl
        exact W.iret (v := -10 - (1 : Int32)) hx hb hr (fun t ht hW => ⟨⟨_, ((1 : Int32), imf, mvf), rfl, (by have hC9 : wrongC lo fo lq fq n nq i1 j1 k1 = 1 := (by unfold wrongC; rw [if_pos (show ¬ lo = 0 ∨ ¬ lq = 0 from Or.inl hneg)]); rw [hC9]; exact ⟨rfl, rfl⟩), by rw [ht]; exact hP9, hD9⟩, hS.F ht⟩) hS.2.2 dX10_copy_40
      ·
        have h1 := hSR.pos c_23
        refine lv_aload_n hx hb dX10_copy_26 rfl (lv_at hl 0 rfl) ?_
        refine va_get (D := D) (ci := 10) (v := .ref qo) (C := RX10) (T := TX10) (N := 40) hx hb hts iX10 hown hK hP 0 rfl rfl 35 (by decide) (hts (.fieldLink RX10 53 "DeepHoleModel" "forms" "[I") (by decide +kernel)) (fun _ h9 => h9) rfl dX10_copy_27 ?_
        refine lv_iload_n hx hb dX10_copy_30 rfl (lv_at hl 3 rfl) ?_
        refine rd_i hx hb hK hP 1 0 rfl rfl (k := k2) (by omega) (by decide) dX10_copy_31 ?_
        refine lv_if_ge (tgt := 41) hx hb dX10_copy_32 (by decide) (fun c_32 => ?_) (fun c_32 => ?_)
        ·
          have h2 := hS2.pos (i_nlt c_32)
          refine lv_aload_n hx hb dX10_copy_41 rfl (lv_at hl 0 rfl) ?_
          refine va_get (D := D) (ci := 10) (v := .ref qo) (C := RX10) (T := TX10) (N := 40) hx hb hts iX10 hown hK hP 0 rfl rfl 35 (by decide) (hts (.fieldLink RX10 53 "DeepHoleModel" "forms" "[I") (by decide +kernel)) (fun _ h9 => h9) rfl dX10_copy_42 ?_
          refine lv_iload_n hx hb dX10_copy_45 rfl (lv_at hl 1 rfl) ?_
          refine rd_i hx hb hK hP 1 0 rfl rfl (k := k) (by omega) (by decide) dX10_copy_46 ?_
          refine lv_aload_n hx hb dX10_copy_47 rfl (lv_at hl 0 rfl) ?_
          refine va_get (D := D) (ci := 10) (v := .ref qo) (C := RX10) (T := TX10) (N := 40) hx hb hts iX10 hown hK hP 0 rfl rfl 35 (by decide) (hts (.fieldLink RX10 53 "DeepHoleModel" "forms" "[I") (by decide +kernel)) (fun _ h9 => h9) rfl dX10_copy_48 ?_
          refine lv_iload_n hx hb dX10_copy_51 rfl (lv_at hl 3 rfl) ?_
          refine rd_i hx hb hK hP 1 0 rfl rfl (k := k2) (by omega) (by decide) dX10_copy_52 ?_
          refine lv_icmp_eq (tgt := 62) hx hb dX10_copy_53 (by decide) (fun c_53 => ?_) (fun c_53 => ?_)
          ·
            refine lv_iload_n hx hb dX10_copy_62 rfl (lv_at hl 2 rfl) ?_
            refine lv_if_lt (tgt := 111) hx hb dX10_copy_63 (by decide) (fun c_63 => ?_) (fun c_63 => ?_)
            ·
              refine lv_aload_n hx hb dX10_copy_111 rfl (lv_at hl 0 rfl) ?_
              refine lv_iconst (v := 2) hx hb dX10_copy_112 (by decide) ?_
              refine w_V (wc := [(m0, .inr (10, [.ref qk, .int (nI d), .int (nI sh), .int (nI low), .int (nI high), .int le, .int mo, .int (nI nb), .ref qp, .ref qr, .ref qc, .ref qm, .ref qb, .int (nI cap), .int kd, .int am, .int wt, .int md, .long z1, .long z2, .long z3, .long z4, .long z5, .int (nI sw), .int (nI np), .ref qf, .ref qs, .int (nI fe), .int (nI te), .int (nI kk), .ref qt, .ref qx, .ref qy, .int no, .int nt, .ref qo, .ref qz, .ref qi, .ref qv, .int fd]))]) (wr := [(qo, .inl (cI, 4, .inl fmf)), (qz, .inl (cI, 4, .inl szf)), (qi, .inl (cI, 240, .inl imf)), (qv, .inl (cI, 60, .inl mvf))]) (b := m0) ⟨hx, hb, hml, hown, hts⟩ [.int (2 : Int32)] [] c_X10_met (cwV 1 hts gX10_copy_X10_met rfl rfl rfl (by decide +kernel) ⟨Nat.le_of_ble_eq_true rfl, Nat.le_of_ble_eq_true rfl⟩) hK hN hP hD hS hA [0] [1, 2, 3, 4] rfl (by decide) rfl (by decide) (by decide) (ci := 10) rfl rfl rfl rfl hl.1 rfl (Nat.le_of_ble_eq_true rfl) dX10_copy_113 ⟨Nat.zero_le _, Nat.zero_le _⟩ (fun r u H locs hw hP hD hS => ?_)
              have hP : va_P D vwCl [(qo, .inl (cI, 4, .inl fmf)), (qz, .inl (cI, 4, .inl szf)), (qi, .inl (cI, 240, .inl imf)), (qv, .inl (cI, 60, .inl mvf)), (m0, .inr (10, [.ref qk, .int (nI d), .int (nI sh), .int (nI low), .int (nI high), .int le, .int mo, .int (nI nb), .ref qp, .ref qr, .ref qc, .ref qm, .ref qb, .int (nI cap), .int kd, .int am, .int wt, .int md, .long z1, .long z2, .long z3, .long z4, .long z5, .int (nI sw), .int (nI np), .ref qf, .ref qs, .int (nI fe), .int (nI te), .int (nI kk), .ref qt, .ref qx, .ref qy, .int no, .int nt, .ref qo, .ref qz, .ref qi, .ref qv, .int (2 : Int32)]))] H := hP
              have hD : va_D A [(qo, .inl (cI, 4, .inl fmf)), (qz, .inl (cI, 4, .inl szf)), (qi, .inl (cI, 240, .inl imf)), (qv, .inl (cI, 60, .inl mvf)), (m0, .inr (10, [.ref qk, .int (nI d), .int (nI sh), .int (nI low), .int (nI high), .int le, .int mo, .int (nI nb), .ref qp, .ref qr, .ref qc, .ref qm, .ref qb, .int (nI cap), .int kd, .int am, .int wt, .int md, .long z1, .long z2, .long z3, .long z4, .long z5, .int (nI sw), .int (nI np), .ref qf, .ref qs, .int (nI fe), .int (nI te), .int (nI kk), .ref qt, .ref qx, .ref qy, .int no, .int nt, .ref qo, .ref qz, .ref qi, .ref qv, .int (2 : Int32)]))] := hD
              subst hw
              have hP9 := hP.sub (ws' := [(m0, .inr (10, [.ref qk, .int (nI d), .int (nI sh), .int (nI low), .int (nI high), .int le, .int mo, .int (nI nb), .ref qp, .ref qr, .ref qc, .ref qm, .ref qb, .int (nI cap), .int kd, .int am, .int wt, .int md, .long z1, .long z2, .long z3, .long z4, .long z5, .int (nI sw), .int (nI np), .ref qf, .ref qs, .int (nI fe), .int (nI te), .int (nI kk), .ref qt, .ref qx, .ref qy, .int no, .int nt, .ref qo, .ref qz, .ref qi, .ref qv, .int (2 : Int32)])), (qo, .inl (cI, 4, .inl fmf)), (qz, .inl (cI, 4, .inl szf)), (qi, .inl (cI, 240, .inl imf)), (qv, .inl (cI, 60, .inl mvf))]) [4, 0, 1, 2, 3] rfl
              have hD9 := hD.sub (ws' := [(m0, .inr (10, [.ref qk, .int (nI d), .int (nI sh), .int (nI low), .int (nI high), .int le, .int mo, .int (nI nb), .ref qp, .ref qr, .ref qc, .ref qm, .ref qb, .int (nI cap), .int kd, .int am, .int wt, .int md, .long z1, .long z2, .long z3, .long z4, .long z5, .int (nI sw), .int (nI np), .ref qf, .ref qs, .int (nI fe), .int (nI te), .int (nI kk), .ref qt, .ref qx, .ref qy, .int no, .int nt, .ref qo, .ref qz, .ref qi, .ref qv, .int (2 : Int32)])), (qo, .inl (cI, 4, .inl fmf)), (qz, .inl (cI, 4, .inl szf)), (qi, .inl (cI, 240, .inl imf)), (qv, .inl (cI, 60, .inl mvf))]) [4, 0, 1, 2, 3] (by decide) rfl
              exact W.iret (v := -10 - (2 : Int32)) hx hb hr (fun t ht hW => ⟨⟨_, ((2 : Int32), imf, mvf), rfl, (by have hC9 : wrongC lo fo lq fq n nq i1 j1 k1 = 2 := (by unfold wrongC; rw [if_neg (fun h => h.elim (fun q => q h1.1) (fun q => q h2.1)), if_neg (fun h => h (by rw [← h1.2.1, ← h2.2.1]; exact c_53)), if_neg (fun h => hr_neg1 c_63 h.1)]); rw [hC9]; exact ⟨rfl, rfl⟩), by rw [ht]; exact hP9, hD9⟩, hS.F ht⟩) hS.2.2 dX10_copy_116
            ·
              refine lv_iload hx hb dX10_copy_66 (lv_at hl 4 rfl) ?_
              refine lv_if_lt (tgt := 111) hx hb dX10_copy_68 (by decide) (fun c_68 => ?_) (fun c_68 => ?_)
              ·
                refine lv_aload_n hx hb dX10_copy_111 rfl (lv_at hl 0 rfl) ?_
                refine lv_iconst (v := 2) hx hb dX10_copy_112 (by decide) ?_
                refine w_V (wc := [(m0, .inr (10, [.ref qk, .int (nI d), .int (nI sh), .int (nI low), .int (nI high), .int le, .int mo, .int (nI nb), .ref qp, .ref qr, .ref qc, .ref qm, .ref qb, .int (nI cap), .int kd, .int am, .int wt, .int md, .long z1, .long z2, .long z3, .long z4, .long z5, .int (nI sw), .int (nI np), .ref qf, .ref qs, .int (nI fe), .int (nI te), .int (nI kk), .ref qt, .ref qx, .ref qy, .int no, .int nt, .ref qo, .ref qz, .ref qi, .ref qv, .int fd]))]) (wr := [(qo, .inl (cI, 4, .inl fmf)), (qz, .inl (cI, 4, .inl szf)), (qi, .inl (cI, 240, .inl imf)), (qv, .inl (cI, 60, .inl mvf))]) (b := m0) ⟨hx, hb, hml, hown, hts⟩ [.int (2 : Int32)] [] c_X10_met (cwV 1 hts gX10_copy_X10_met rfl rfl rfl (by decide +kernel) ⟨Nat.le_of_ble_eq_true rfl, Nat.le_of_ble_eq_true rfl⟩) hK hN hP hD hS hA [0] [1, 2, 3, 4] rfl (by decide) rfl (by decide) (by decide) (ci := 10) rfl rfl rfl rfl hl.1 rfl (Nat.le_of_ble_eq_true rfl) dX10_copy_113 ⟨Nat.zero_le _, Nat.zero_le _⟩ (fun r u H locs hw hP hD hS => ?_)
                have hP : va_P D vwCl [(qo, .inl (cI, 4, .inl fmf)), (qz, .inl (cI, 4, .inl szf)), (qi, .inl (cI, 240, .inl imf)), (qv, .inl (cI, 60, .inl mvf)), (m0, .inr (10, [.ref qk, .int (nI d), .int (nI sh), .int (nI low), .int (nI high), .int le, .int mo, .int (nI nb), .ref qp, .ref qr, .ref qc, .ref qm, .ref qb, .int (nI cap), .int kd, .int am, .int wt, .int md, .long z1, .long z2, .long z3, .long z4, .long z5, .int (nI sw), .int (nI np), .ref qf, .ref qs, .int (nI fe), .int (nI te), .int (nI kk), .ref qt, .ref qx, .ref qy, .int no, .int nt, .ref qo, .ref qz, .ref qi, .ref qv, .int (2 : Int32)]))] H := hP
                have hD : va_D A [(qo, .inl (cI, 4, .inl fmf)), (qz, .inl (cI, 4, .inl szf)), (qi, .inl (cI, 240, .inl imf)), (qv, .inl (cI, 60, .inl mvf)), (m0, .inr (10, [.ref qk, .int (nI d), .int (nI sh), .int (nI low), .int (nI high), .int le, .int mo, .int (nI nb), .ref qp, .ref qr, .ref qc, .ref qm, .ref qb, .int (nI cap), .int kd, .int am, .int wt, .int md, .long z1, .long z2, .long z3, .long z4, .long z5, .int (nI sw), .int (nI np), .ref qf, .ref qs, .int (nI fe), .int (nI te), .int (nI kk), .ref qt, .ref qx, .ref qy, .int no, .int nt, .ref qo, .ref qz, .ref qi, .ref qv, .int (2 : Int32)]))] := hD
                subst hw
                have hP9 := hP.sub (ws' := [(m0, .inr (10, [.ref qk, .int (nI d), .int (nI sh), .int (nI low), .int (nI high), .int le, .int mo, .int (nI nb), .ref qp, .ref qr, .ref qc, .ref qm, .ref qb, .int (nI cap), .int kd, .int am, .int wt, .int md, .long z1, .long z2, .long z3, .long z4, .long z5, .int (nI sw), .int (nI np), .ref qf, .ref qs, .int (nI fe), .int (nI te), .int (nI kk), .ref qt, .ref qx, .ref qy, .int no, .int nt, .ref qo, .ref qz, .ref qi, .ref qv, .int (2 : Int32)])), (qo, .inl (cI, 4, .inl fmf)), (qz, .inl (cI, 4, .inl szf)), (qi, .inl (cI, 240, .inl imf)), (qv, .inl (cI, 60, .inl mvf))]) [4, 0, 1, 2, 3] rfl
                have hD9 := hD.sub (ws' := [(m0, .inr (10, [.ref qk, .int (nI d), .int (nI sh), .int (nI low), .int (nI high), .int le, .int mo, .int (nI nb), .ref qp, .ref qr, .ref qc, .ref qm, .ref qb, .int (nI cap), .int kd, .int am, .int wt, .int md, .long z1, .long z2, .long z3, .long z4, .long z5, .int (nI sw), .int (nI np), .ref qf, .ref qs, .int (nI fe), .int (nI te), .int (nI kk), .ref qt, .ref qx, .ref qy, .int no, .int nt, .ref qo, .ref qz, .ref qi, .ref qv, .int (2 : Int32)])), (qo, .inl (cI, 4, .inl fmf)), (qz, .inl (cI, 4, .inl szf)), (qi, .inl (cI, 240, .inl imf)), (qv, .inl (cI, 60, .inl mvf))]) [4, 0, 1, 2, 3] (by decide) rfl
                exact W.iret (v := -10 - (2 : Int32)) hx hb hr (fun t ht hW => ⟨⟨_, ((2 : Int32), imf, mvf), rfl, (by have hC9 : wrongC lo fo lq fq n nq i1 j1 k1 = 2 := (by unfold wrongC; rw [if_neg (fun h => h.elim (fun q => q h1.1) (fun q => q h2.1)), if_neg (fun h => h (by rw [← h1.2.1, ← h2.2.1]; exact c_53)), if_neg (fun h => hr_neg1 c_68 h.2)]); rw [hC9]; exact ⟨rfl, rfl⟩), by rw [ht]; exact hP9, hD9⟩, hS.F ht⟩) hS.2.2 dX10_copy_116
              ·
                refine lv_iload hx hb dX10_copy_71 (lv_at hl 5 rfl) ?_
                refine lv_if_lt (tgt := 111) hx hb dX10_copy_73 (by decide) (fun c_73 => ?_) (fun c_73 => ?_)
                ·
                  refine lv_aload_n hx hb dX10_copy_111 rfl (lv_at hl 0 rfl) ?_
                  refine lv_iconst (v := 2) hx hb dX10_copy_112 (by decide) ?_
                  refine w_V (wc := [(m0, .inr (10, [.ref qk, .int (nI d), .int (nI sh), .int (nI low), .int (nI high), .int le, .int mo, .int (nI nb), .ref qp, .ref qr, .ref qc, .ref qm, .ref qb, .int (nI cap), .int kd, .int am, .int wt, .int md, .long z1, .long z2, .long z3, .long z4, .long z5, .int (nI sw), .int (nI np), .ref qf, .ref qs, .int (nI fe), .int (nI te), .int (nI kk), .ref qt, .ref qx, .ref qy, .int no, .int nt, .ref qo, .ref qz, .ref qi, .ref qv, .int fd]))]) (wr := [(qo, .inl (cI, 4, .inl fmf)), (qz, .inl (cI, 4, .inl szf)), (qi, .inl (cI, 240, .inl imf)), (qv, .inl (cI, 60, .inl mvf))]) (b := m0) ⟨hx, hb, hml, hown, hts⟩ [.int (2 : Int32)] [] c_X10_met (cwV 1 hts gX10_copy_X10_met rfl rfl rfl (by decide +kernel) ⟨Nat.le_of_ble_eq_true rfl, Nat.le_of_ble_eq_true rfl⟩) hK hN hP hD hS hA [0] [1, 2, 3, 4] rfl (by decide) rfl (by decide) (by decide) (ci := 10) rfl rfl rfl rfl hl.1 rfl (Nat.le_of_ble_eq_true rfl) dX10_copy_113 ⟨Nat.zero_le _, Nat.zero_le _⟩ (fun r u H locs hw hP hD hS => ?_)
                  have hP : va_P D vwCl [(qo, .inl (cI, 4, .inl fmf)), (qz, .inl (cI, 4, .inl szf)), (qi, .inl (cI, 240, .inl imf)), (qv, .inl (cI, 60, .inl mvf)), (m0, .inr (10, [.ref qk, .int (nI d), .int (nI sh), .int (nI low), .int (nI high), .int le, .int mo, .int (nI nb), .ref qp, .ref qr, .ref qc, .ref qm, .ref qb, .int (nI cap), .int kd, .int am, .int wt, .int md, .long z1, .long z2, .long z3, .long z4, .long z5, .int (nI sw), .int (nI np), .ref qf, .ref qs, .int (nI fe), .int (nI te), .int (nI kk), .ref qt, .ref qx, .ref qy, .int no, .int nt, .ref qo, .ref qz, .ref qi, .ref qv, .int (2 : Int32)]))] H := hP
                  have hD : va_D A [(qo, .inl (cI, 4, .inl fmf)), (qz, .inl (cI, 4, .inl szf)), (qi, .inl (cI, 240, .inl imf)), (qv, .inl (cI, 60, .inl mvf)), (m0, .inr (10, [.ref qk, .int (nI d), .int (nI sh), .int (nI low), .int (nI high), .int le, .int mo, .int (nI nb), .ref qp, .ref qr, .ref qc, .ref qm, .ref qb, .int (nI cap), .int kd, .int am, .int wt, .int md, .long z1, .long z2, .long z3, .long z4, .long z5, .int (nI sw), .int (nI np), .ref qf, .ref qs, .int (nI fe), .int (nI te), .int (nI kk), .ref qt, .ref qx, .ref qy, .int no, .int nt, .ref qo, .ref qz, .ref qi, .ref qv, .int (2 : Int32)]))] := hD
                  subst hw
                  have hP9 := hP.sub (ws' := [(m0, .inr (10, [.ref qk, .int (nI d), .int (nI sh), .int (nI low), .int (nI high), .int le, .int mo, .int (nI nb), .ref qp, .ref qr, .ref qc, .ref qm, .ref qb, .int (nI cap), .int kd, .int am, .int wt, .int md, .long z1, .long z2, .long z3, .long z4, .long z5, .int (nI sw), .int (nI np), .ref qf, .ref qs, .int (nI fe), .int (nI te), .int (nI kk), .ref qt, .ref qx, .ref qy, .int no, .int nt, .ref qo, .ref qz, .ref qi, .ref qv, .int (2 : Int32)])), (qo, .inl (cI, 4, .inl fmf)), (qz, .inl (cI, 4, .inl szf)), (qi, .inl (cI, 240, .inl imf)), (qv, .inl (cI, 60, .inl mvf))]) [4, 0, 1, 2, 3] rfl
                  have hD9 := hD.sub (ws' := [(m0, .inr (10, [.ref qk, .int (nI d), .int (nI sh), .int (nI low), .int (nI high), .int le, .int mo, .int (nI nb), .ref qp, .ref qr, .ref qc, .ref qm, .ref qb, .int (nI cap), .int kd, .int am, .int wt, .int md, .long z1, .long z2, .long z3, .long z4, .long z5, .int (nI sw), .int (nI np), .ref qf, .ref qs, .int (nI fe), .int (nI te), .int (nI kk), .ref qt, .ref qx, .ref qy, .int no, .int nt, .ref qo, .ref qz, .ref qi, .ref qv, .int (2 : Int32)])), (qo, .inl (cI, 4, .inl fmf)), (qz, .inl (cI, 4, .inl szf)), (qi, .inl (cI, 240, .inl imf)), (qv, .inl (cI, 60, .inl mvf))]) [4, 0, 1, 2, 3] (by decide) rfl
                  exact W.iret (v := -10 - (2 : Int32)) hx hb hr (fun t ht hW => ⟨⟨_, ((2 : Int32), imf, mvf), rfl, (by have hC9 : wrongC lo fo lq fq n nq i1 j1 k1 = 2 := (by unfold wrongC; rw [if_neg (fun h => h.elim (fun q => q h1.1) (fun q => q h2.1)), if_neg (fun h => h (by rw [← h1.2.1, ← h2.2.1]; exact c_53)), if_neg (fun h => hr_neg2 c_73 h.1)]); rw [hC9]; exact ⟨rfl, rfl⟩), by rw [ht]; exact hP9, hD9⟩, hS.F ht⟩) hS.2.2 dX10_copy_116
                ·
                  refine lv_iload_n hx hb dX10_copy_76 rfl (lv_at hl 2 rfl) ?_
                  refine lv_i2l (v := i1.toInt64) hx hb dX10_copy_77 rfl ?_
                  refine lv_iload hx hb dX10_copy_78 (lv_at hl 5 rfl) ?_
                  refine lv_i2l (v := k1.toInt64) hx hb dX10_copy_80 rfl ?_
                  refine lv_ladd hx hb dX10_copy_81 ?_
                  refine lv_aload_n hx hb dX10_copy_82 rfl (lv_at hl 0 rfl) ?_
                  refine va_get (D := D) (ci := 10) (v := .ref qz) (C := RX10) (T := TX10) (N := 40) hx hb hts iX10 hown hK hP 0 rfl rfl 36 (by decide) (hts (.fieldLink RX10 56 "DeepHoleModel" "sizes" "[I") (by decide +kernel)) (fun _ h9 => h9) rfl dX10_copy_83 ?_
                  refine lv_iload_n hx hb dX10_copy_86 rfl (lv_at hl 1 rfl) ?_
                  refine rd_i hx hb hK hP 2 0 rfl rfl (k := k) (by omega) (by decide) dX10_copy_87 ?_
                  refine lv_eqi (z := nI n) (h1.2.2.1) ?_
                  refine lv_i2l (v := (nI n).toInt64) hx hb dX10_copy_88 rfl ?_
                  refine W.lcmp hx hb dX10_copy_89 ?_
                  refine lv_if_gt (tgt := 111) hx hb dX10_copy_90 (by decide) (fun c_90 => ?_) (fun c_90 => ?_)
                  ·
                    have c_90 := (lg_cmp_gt _ _).mp c_90
                    refine lv_aload_n hx hb dX10_copy_111 rfl (lv_at hl 0 rfl) ?_
                    refine lv_iconst (v := 2) hx hb dX10_copy_112 (by decide) ?_
                    refine w_V (wc := [(m0, .inr (10, [.ref qk, .int (nI d), .int (nI sh), .int (nI low), .int (nI high), .int le, .int mo, .int (nI nb), .ref qp, .ref qr, .ref qc, .ref qm, .ref qb, .int (nI cap), .int kd, .int am, .int wt, .int md, .long z1, .long z2, .long z3, .long z4, .long z5, .int (nI sw), .int (nI np), .ref qf, .ref qs, .int (nI fe), .int (nI te), .int (nI kk), .ref qt, .ref qx, .ref qy, .int no, .int nt, .ref qo, .ref qz, .ref qi, .ref qv, .int fd]))]) (wr := [(qo, .inl (cI, 4, .inl fmf)), (qz, .inl (cI, 4, .inl szf)), (qi, .inl (cI, 240, .inl imf)), (qv, .inl (cI, 60, .inl mvf))]) (b := m0) ⟨hx, hb, hml, hown, hts⟩ [.int (2 : Int32)] [] c_X10_met (cwV 1 hts gX10_copy_X10_met rfl rfl rfl (by decide +kernel) ⟨Nat.le_of_ble_eq_true rfl, Nat.le_of_ble_eq_true rfl⟩) hK hN hP hD hS hA [0] [1, 2, 3, 4] rfl (by decide) rfl (by decide) (by decide) (ci := 10) rfl rfl rfl rfl hl.1 rfl (Nat.le_of_ble_eq_true rfl) dX10_copy_113 ⟨Nat.zero_le _, Nat.zero_le _⟩ (fun r u H locs hw hP hD hS => ?_)
                    have hP : va_P D vwCl [(qo, .inl (cI, 4, .inl fmf)), (qz, .inl (cI, 4, .inl szf)), (qi, .inl (cI, 240, .inl imf)), (qv, .inl (cI, 60, .inl mvf)), (m0, .inr (10, [.ref qk, .int (nI d), .int (nI sh), .int (nI low), .int (nI high), .int le, .int mo, .int (nI nb), .ref qp, .ref qr, .ref qc, .ref qm, .ref qb, .int (nI cap), .int kd, .int am, .int wt, .int md, .long z1, .long z2, .long z3, .long z4, .long z5, .int (nI sw), .int (nI np), .ref qf, .ref qs, .int (nI fe), .int (nI te), .int (nI kk), .ref qt, .ref qx, .ref qy, .int no, .int nt, .ref qo, .ref qz, .ref qi, .ref qv, .int (2 : Int32)]))] H := hP
                    have hD : va_D A [(qo, .inl (cI, 4, .inl fmf)), (qz, .inl (cI, 4, .inl szf)), (qi, .inl (cI, 240, .inl imf)), (qv, .inl (cI, 60, .inl mvf)), (m0, .inr (10, [.ref qk, .int (nI d), .int (nI sh), .int (nI low), .int (nI high), .int le, .int mo, .int (nI nb), .ref qp, .ref qr, .ref qc, .ref qm, .ref qb, .int (nI cap), .int kd, .int am, .int wt, .int md, .long z1, .long z2, .long z3, .long z4, .long z5, .int (nI sw), .int (nI np), .ref qf, .ref qs, .int (nI fe), .int (nI te), .int (nI kk), .ref qt, .ref qx, .ref qy, .int no, .int nt, .ref qo, .ref qz, .ref qi, .ref qv, .int (2 : Int32)]))] := hD
                    subst hw
                    have hP9 := hP.sub (ws' := [(m0, .inr (10, [.ref qk, .int (nI d), .int (nI sh), .int (nI low), .int (nI high), .int le, .int mo, .int (nI nb), .ref qp, .ref qr, .ref qc, .ref qm, .ref qb, .int (nI cap), .int kd, .int am, .int wt, .int md, .long z1, .long z2, .long z3, .long z4, .long z5, .int (nI sw), .int (nI np), .ref qf, .ref qs, .int (nI fe), .int (nI te), .int (nI kk), .ref qt, .ref qx, .ref qy, .int no, .int nt, .ref qo, .ref qz, .ref qi, .ref qv, .int (2 : Int32)])), (qo, .inl (cI, 4, .inl fmf)), (qz, .inl (cI, 4, .inl szf)), (qi, .inl (cI, 240, .inl imf)), (qv, .inl (cI, 60, .inl mvf))]) [4, 0, 1, 2, 3] rfl
                    have hD9 := hD.sub (ws' := [(m0, .inr (10, [.ref qk, .int (nI d), .int (nI sh), .int (nI low), .int (nI high), .int le, .int mo, .int (nI nb), .ref qp, .ref qr, .ref qc, .ref qm, .ref qb, .int (nI cap), .int kd, .int am, .int wt, .int md, .long z1, .long z2, .long z3, .long z4, .long z5, .int (nI sw), .int (nI np), .ref qf, .ref qs, .int (nI fe), .int (nI te), .int (nI kk), .ref qt, .ref qx, .ref qy, .int no, .int nt, .ref qo, .ref qz, .ref qi, .ref qv, .int (2 : Int32)])), (qo, .inl (cI, 4, .inl fmf)), (qz, .inl (cI, 4, .inl szf)), (qi, .inl (cI, 240, .inl imf)), (qv, .inl (cI, 60, .inl mvf))]) [4, 0, 1, 2, 3] (by decide) rfl
                    exact W.iret (v := -10 - (2 : Int32)) hx hb hr (fun t ht hW => ⟨⟨_, ((2 : Int32), imf, mvf), rfl, (by have hC9 : wrongC lo fo lq fq n nq i1 j1 k1 = 2 := (by unfold wrongC; rw [if_neg (fun h => h.elim (fun q => q h1.1) (fun q => q h2.1)), if_neg (fun h => h (by rw [← h1.2.1, ← h2.2.1]; exact c_53)), if_neg (fun h => hr_out hn c_90 h.1)]); rw [hC9]; exact ⟨rfl, rfl⟩), by rw [ht]; exact hP9, hD9⟩, hS.F ht⟩) hS.2.2 dX10_copy_116
                  ·
                    have c_90 := fun h => c_90 ((lg_cmp_gt _ _).mpr h)
                    refine lv_iload hx hb dX10_copy_93 (lv_at hl 4 rfl) ?_
                    refine lv_i2l (v := j1.toInt64) hx hb dX10_copy_95 rfl ?_
                    refine lv_iload hx hb dX10_copy_96 (lv_at hl 5 rfl) ?_
                    refine lv_i2l (v := k1.toInt64) hx hb dX10_copy_98 rfl ?_
                    refine lv_ladd hx hb dX10_copy_99 ?_
                    refine lv_aload_n hx hb dX10_copy_100 rfl (lv_at hl 0 rfl) ?_
                    refine va_get (D := D) (ci := 10) (v := .ref qz) (C := RX10) (T := TX10) (N := 40) hx hb hts iX10 hown hK hP 0 rfl rfl 36 (by decide) (hts (.fieldLink RX10 56 "DeepHoleModel" "sizes" "[I") (by decide +kernel)) (fun _ h9 => h9) rfl dX10_copy_101 ?_
                    refine lv_iload_n hx hb dX10_copy_104 rfl (lv_at hl 3 rfl) ?_
                    refine rd_i hx hb hK hP 2 0 rfl rfl (k := k2) (by omega) (by decide) dX10_copy_105 ?_
                    refine lv_eqi (z := nI nq) (h2.2.2.1) ?_
                    refine lv_i2l (v := (nI nq).toInt64) hx hb dX10_copy_106 rfl ?_
                    refine W.lcmp hx hb dX10_copy_107 ?_
                    refine lv_if_le (tgt := 117) hx hb dX10_copy_108 (by decide) (fun c_108 => ?_) (fun c_108 => ?_)
                    ·
                      have c_108 := (lg_cmp_le _ _).mp c_108
                      have hA9 := hr_in hn c_63 c_73 c_90
                      have hB9 := hr_in hnq c_68 c_73 (ll1 c_108)
                      have hC9 : wrongC lo fo lq fq n nq i1 j1 k1 = 0 := by unfold wrongC; rw [if_neg (fun h => h.elim (fun q => q h1.1) (fun q => q h2.1)), if_neg (fun h => h (by rw [← h1.2.1, ← h2.2.1]; exact c_53)), if_pos (And.intro hA9 hB9)]
                      obtain ⟨iN, kN, hik, ei, ek⟩ := hr_nat hn hA9
                      obtain ⟨jN, kN2, hjk, ej, ek2⟩ := hr_nat hnq hB9
                      have ekk : kN = kN2 := by have h9 := ek.symm.trans ek2; exact n_eq h9 (by omega) (by omega)
                      obtain ⟨iN, hik, rfl⟩ := (⟨iN, hik, ei⟩ : ∃ i, i + kN ≤ n ∧ i1 = nI i)
                      obtain ⟨jN, hjk, rfl⟩ := (⟨jN, hjk, ej⟩ : ∃ i, i + kN2 ≤ nq ∧ j1 = nI i)
                      obtain ⟨kN, hik, hjk, rfl⟩ := (⟨kN, hik, by omega, ek⟩ : ∃ i, iN + i ≤ n ∧ jN + i ≤ nq ∧ k1 = nI i)
                      refine lv_iconst (v := 0) hx hb dX10_copy_117 (by decide) ?_
                      refine lv_istore (lv' := [(6, .int 0), (0, .ref m0), (1, .int (nI k)), (2, .int (nI iN)), (3, .int (nI k2)), (4, .int (nI jN)), (5, .int (nI kN))]) hx hb dX10_copy_118 hl (by decide) rfl (fun ls hl => ?_)
                      refine lp_w (I := fun zz9 H locs ls => ∃ (a : Nat) (mvf : Nat → Int32), zz9 = kN - a ∧ (a ≤ kN) ∧ (∀ x, x < a → mvf x = imf (60 * k + iN + x)) ∧ va_P D vwCl [(m0, .inr (10, [.ref qk, .int (nI d), .int (nI sh), .int (nI low), .int (nI high), .int le, .int mo, .int (nI nb), .ref qp, .ref qr, .ref qc, .ref qm, .ref qb, .int (nI cap), .int kd, .int am, .int wt, .int md, .long z1, .long z2, .long z3, .long z4, .long z5, .int (nI sw), .int (nI np), .ref qf, .ref qs, .int (nI fe), .int (nI te), .int (nI kk), .ref qt, .ref qx, .ref qy, .int no, .int nt, .ref qo, .ref qz, .ref qi, .ref qv, .int fd])), (qo, .inl (cI, 4, .inl fmf)), (qz, .inl (cI, 4, .inl szf)), (qi, .inl (cI, 240, .inl imf)), (qv, .inl (cI, 60, .inl mvf))] H ∧ va_D A [(m0, .inr (10, [.ref qk, .int (nI d), .int (nI sh), .int (nI low), .int (nI high), .int le, .int mo, .int (nI nb), .ref qp, .ref qr, .ref qc, .ref qm, .ref qb, .int (nI cap), .int kd, .int am, .int wt, .int md, .long z1, .long z2, .long z3, .long z4, .long z5, .int (nI sw), .int (nI np), .ref qf, .ref qs, .int (nI fe), .int (nI te), .int (nI kk), .ref qt, .ref qx, .ref qy, .int no, .int nt, .ref qo, .ref qz, .ref qi, .ref qv, .int fd])), (qo, .inl (cI, 4, .inl fmf)), (qz, .inl (cI, 4, .inl szf)), (qi, .inl (cI, 240, .inl imf)), (qv, .inl (cI, 60, .inl mvf))] ∧ va_S A s.heap H locs ∧ lv_has ls 7 [(0, .ref m0), (1, .int (nI k)), (2, .int (nI iN)), (3, .int (nI k2)), (4, .int (nI jN)), (5, .int (nI kN)), (6, .int (nI a))]) ?_ (kN - 0) ⟨0, mvf, rfl, (by omega), (fun x h => absurd h (by omega)), hP.sub [0, 1, 2, 3, 4] rfl, hD.sub [0, 1, 2, 3, 4] (by decide) rfl, hS, lv_sub hl [1, 2, 3, 4, 5, 6, 0] rfl⟩
                      intro n_120 H locs ls ih_120 hI
                      obtain ⟨a, mvf, hn_120, ha, hmv, hP, hD, hS, hl⟩ := hI
                      refine lv_iload hx hb dX10_copy_120 (lv_at hl 6 rfl) ?_
                      refine lv_iload hx hb dX10_copy_122 (lv_at hl 5 rfl) ?_
                      refine lv_icmp_ge (tgt := 154) hx hb dX10_copy_124 (by decide) (fun c_124 => ?_) (fun c_124 => ?_)
                      ·
                        have c_124 := n_ge (a := a) (b := kN) c_124 (by omega) (by omega)
                        refine lv_iconst (v := 0) hx hb dX10_copy_154 (by decide) ?_
                        refine lv_istore (lv' := [(6, .int 0), (0, .ref m0), (1, .int (nI k)), (2, .int (nI iN)), (3, .int (nI k2)), (4, .int (nI jN)), (5, .int (nI kN))]) hx hb dX10_copy_155 hl (by decide) rfl (fun ls hl => ?_)
                        have hcf : imf = mvI imf mvf (60 * k2 + jN) 0 := by exact (mvI_0 imf mvf (60 * k2 + jN)).symm
                        rw [hcf] at hP hD
                        have hP : va_P D vwCl [(m0, .inr (10, [.ref qk, .int (nI d), .int (nI sh), .int (nI low), .int (nI high), .int le, .int mo, .int (nI nb), .ref qp, .ref qr, .ref qc, .ref qm, .ref qb, .int (nI cap), .int kd, .int am, .int wt, .int md, .long z1, .long z2, .long z3, .long z4, .long z5, .int (nI sw), .int (nI np), .ref qf, .ref qs, .int (nI fe), .int (nI te), .int (nI kk), .ref qt, .ref qx, .ref qy, .int no, .int nt, .ref qo, .ref qz, .ref qi, .ref qv, .int fd])), (qo, .inl (cI, 4, .inl fmf)), (qz, .inl (cI, 4, .inl szf)), (qi, .inl (cI, 240, .inl (mvI imf mvf (60 * k2 + jN) 0))), (qv, .inl (cI, 60, .inl mvf))] H := hP
                        have hD : va_D A [(m0, .inr (10, [.ref qk, .int (nI d), .int (nI sh), .int (nI low), .int (nI high), .int le, .int mo, .int (nI nb), .ref qp, .ref qr, .ref qc, .ref qm, .ref qb, .int (nI cap), .int kd, .int am, .int wt, .int md, .long z1, .long z2, .long z3, .long z4, .long z5, .int (nI sw), .int (nI np), .ref qf, .ref qs, .int (nI fe), .int (nI te), .int (nI kk), .ref qt, .ref qx, .ref qy, .int no, .int nt, .ref qo, .ref qz, .ref qi, .ref qv, .int fd])), (qo, .inl (cI, 4, .inl fmf)), (qz, .inl (cI, 4, .inl szf)), (qi, .inl (cI, 240, .inl (mvI imf mvf (60 * k2 + jN) 0))), (qv, .inl (cI, 60, .inl mvf))] := hD
                        refine lp_w (I := fun zz9 H locs ls => ∃ (a : Nat), zz9 = kN - a ∧ (a ≤ kN) ∧ (∀ x, x < kN → mvf x = imf (60 * k + iN + x)) ∧ va_P D vwCl [(m0, .inr (10, [.ref qk, .int (nI d), .int (nI sh), .int (nI low), .int (nI high), .int le, .int mo, .int (nI nb), .ref qp, .ref qr, .ref qc, .ref qm, .ref qb, .int (nI cap), .int kd, .int am, .int wt, .int md, .long z1, .long z2, .long z3, .long z4, .long z5, .int (nI sw), .int (nI np), .ref qf, .ref qs, .int (nI fe), .int (nI te), .int (nI kk), .ref qt, .ref qx, .ref qy, .int no, .int nt, .ref qo, .ref qz, .ref qi, .ref qv, .int fd])), (qo, .inl (cI, 4, .inl fmf)), (qz, .inl (cI, 4, .inl szf)), (qi, .inl (cI, 240, .inl (mvI imf mvf (60 * k2 + jN) a))), (qv, .inl (cI, 60, .inl mvf))] H ∧ va_D A [(m0, .inr (10, [.ref qk, .int (nI d), .int (nI sh), .int (nI low), .int (nI high), .int le, .int mo, .int (nI nb), .ref qp, .ref qr, .ref qc, .ref qm, .ref qb, .int (nI cap), .int kd, .int am, .int wt, .int md, .long z1, .long z2, .long z3, .long z4, .long z5, .int (nI sw), .int (nI np), .ref qf, .ref qs, .int (nI fe), .int (nI te), .int (nI kk), .ref qt, .ref qx, .ref qy, .int no, .int nt, .ref qo, .ref qz, .ref qi, .ref qv, .int fd])), (qo, .inl (cI, 4, .inl fmf)), (qz, .inl (cI, 4, .inl szf)), (qi, .inl (cI, 240, .inl (mvI imf mvf (60 * k2 + jN) a))), (qv, .inl (cI, 60, .inl mvf))] ∧ va_S A s.heap H locs ∧ lv_has ls 7 [(0, .ref m0), (1, .int (nI k)), (2, .int (nI iN)), (3, .int (nI k2)), (4, .int (nI jN)), (5, .int (nI kN)), (6, .int (nI a))]) ?_ (kN - 0) ⟨0, rfl, (by omega), (fun x h => hmv x (by omega)), hP.sub [0, 1, 2, 3, 4] rfl, hD.sub [0, 1, 2, 3, 4] (by decide) rfl, hS, lv_sub hl [1, 2, 3, 4, 5, 6, 0] rfl⟩
                        intro n_157 H locs ls ih_157 hI
                        obtain ⟨a, hn_157, ha, hmv, hP, hD, hS, hl⟩ := hI
                        refine lv_iload hx hb dX10_copy_157 (lv_at hl 6 rfl) ?_
                        refine lv_iload hx hb dX10_copy_159 (lv_at hl 5 rfl) ?_
                        refine lv_icmp_ge (tgt := 192) hx hb dX10_copy_161 (by decide) (fun c_161 => ?_) (fun c_161 => ?_)
                        ·
                          have c_161 := n_ge (a := a) (b := kN) c_161 (by omega) (by omega)
                          refine lv_iconst (v := 1) hx hb dX10_copy_192 (by decide) ?_
                          have hP9 := hP.sub (ws' := [(m0, .inr (10, [.ref qk, .int (nI d), .int (nI sh), .int (nI low), .int (nI high), .int le, .int mo, .int (nI nb), .ref qp, .ref qr, .ref qc, .ref qm, .ref qb, .int (nI cap), .int kd, .int am, .int wt, .int md, .long z1, .long z2, .long z3, .long z4, .long z5, .int (nI sw), .int (nI np), .ref qf, .ref qs, .int (nI fe), .int (nI te), .int (nI kk), .ref qt, .ref qx, .ref qy, .int no, .int nt, .ref qo, .ref qz, .ref qi, .ref qv, .int fd])), (qo, .inl (cI, 4, .inl fmf)), (qz, .inl (cI, 4, .inl szf)), (qi, .inl (cI, 240, .inl (mvI imf mvf (60 * k2 + jN) a))), (qv, .inl (cI, 60, .inl mvf))]) [0, 1, 2, 3, 4] rfl
                          have hD9 := hD.sub (ws' := [(m0, .inr (10, [.ref qk, .int (nI d), .int (nI sh), .int (nI low), .int (nI high), .int le, .int mo, .int (nI nb), .ref qp, .ref qr, .ref qc, .ref qm, .ref qb, .int (nI cap), .int kd, .int am, .int wt, .int md, .long z1, .long z2, .long z3, .long z4, .long z5, .int (nI sw), .int (nI np), .ref qf, .ref qs, .int (nI fe), .int (nI te), .int (nI kk), .ref qt, .ref qx, .ref qy, .int no, .int nt, .ref qo, .ref qz, .ref qi, .ref qv, .int fd])), (qo, .inl (cI, 4, .inl fmf)), (qz, .inl (cI, 4, .inl szf)), (qi, .inl (cI, 240, .inl (mvI imf mvf (60 * k2 + jN) a))), (qv, .inl (cI, 60, .inl mvf))]) [0, 1, 2, 3, 4] (by decide) rfl
                          exact W.iret (v := 1) hx hb hr (fun t ht hW => ⟨⟨_, (fd, mvI imf mvf (60 * k2 + jN) a, mvf), rfl, (by rw [hC9]; refine ⟨rfl, ?_⟩; unfold sCopyM; rw [if_pos rfl, nI_clamp (by omega), nI_clamp (by omega), nI_clamp (by omega), show a = kN by omega, mvI_cpy hmv]), by rw [ht]; exact hP9, hD9⟩, hS.F ht⟩) hS.2.2 dX10_copy_193
                        ·
                          have c_161 := n_nge (a := a) (b := kN) c_161 (by omega) (by omega)
                          refine lv_aload_n hx hb dX10_copy_164 rfl (lv_at hl 0 rfl) ?_
                          refine va_get (D := D) (ci := 10) (v := .ref qi) (C := RX10) (T := TX10) (N := 40) hx hb hts iX10 hown hK hP 0 rfl rfl 37 (by decide) (hts (.fieldLink RX10 59 "DeepHoleModel" "items" "[I") (by decide +kernel)) (fun _ h9 => h9) rfl dX10_copy_165 ?_
                          refine lv_bipush (v := 60) hx hb dX10_copy_168 (by decide) ?_
                          refine lv_iload_n hx hb dX10_copy_170 rfl (lv_at hl 3 rfl) ?_
                          refine lv_imul hx hb dX10_copy_171 ?_
                          refine lv_eqi (z := nI (60 * k2)) (pk_mul _ _) ?_
                          refine lv_iload hx hb dX10_copy_172 (lv_at hl 4 rfl) ?_
                          refine lv_iadd hx hb dX10_copy_174 ?_
                          refine lv_eqi (z := nI ((60 * k2) + jN)) (nI_add _ _) ?_
                          refine lv_iload hx hb dX10_copy_175 (lv_at hl 6 rfl) ?_
                          refine lv_iadd hx hb dX10_copy_177 ?_
                          refine lv_eqi (z := nI (((60 * k2) + jN) + a)) (nI_add _ _) ?_
                          refine lv_aload_n hx hb dX10_copy_178 rfl (lv_at hl 0 rfl) ?_
                          refine va_get (D := D) (ci := 10) (v := .ref qv) (C := RX10) (T := TX10) (N := 40) hx hb hts iX10 hown hK hP 0 rfl rfl 38 (by decide) (hts (.fieldLink RX10 62 "DeepHoleModel" "moved" "[I") (by decide +kernel)) (fun _ h9 => h9) rfl dX10_copy_179 ?_
                          refine lv_iload hx hb dX10_copy_182 (lv_at hl 6 rfl) ?_
                          refine rd_i hx hb hK hP 4 0 rfl rfl (k := a) (by omega) (by decide) dX10_copy_184 ?_
                          refine wr_i hx hb hK hP hD hS 3 0 rfl rfl (k := ((60 * k2) + jN) + a) (by omega) (by decide) dX10_copy_185 (fun H locs hP hD hS => ?_)
                          have hP : va_P D vwCl [(m0, .inr (10, [.ref qk, .int (nI d), .int (nI sh), .int (nI low), .int (nI high), .int le, .int mo, .int (nI nb), .ref qp, .ref qr, .ref qc, .ref qm, .ref qb, .int (nI cap), .int kd, .int am, .int wt, .int md, .long z1, .long z2, .long z3, .long z4, .long z5, .int (nI sw), .int (nI np), .ref qf, .ref qs, .int (nI fe), .int (nI te), .int (nI kk), .ref qt, .ref qx, .ref qy, .int no, .int nt, .ref qo, .ref qz, .ref qi, .ref qv, .int fd])), (qo, .inl (cI, 4, .inl fmf)), (qz, .inl (cI, 4, .inl szf)), (qi, .inl (cI, 240, .inl (upd (mvI imf mvf (60 * k2 + jN) a) (((60 * k2) + jN) + a) (mvf a)))), (qv, .inl (cI, 60, .inl mvf))] H := hP
                          have hD : va_D A [(m0, .inr (10, [.ref qk, .int (nI d), .int (nI sh), .int (nI low), .int (nI high), .int le, .int mo, .int (nI nb), .ref qp, .ref qr, .ref qc, .ref qm, .ref qb, .int (nI cap), .int kd, .int am, .int wt, .int md, .long z1, .long z2, .long z3, .long z4, .long z5, .int (nI sw), .int (nI np), .ref qf, .ref qs, .int (nI fe), .int (nI te), .int (nI kk), .ref qt, .ref qx, .ref qy, .int no, .int nt, .ref qo, .ref qz, .ref qi, .ref qv, .int fd])), (qo, .inl (cI, 4, .inl fmf)), (qz, .inl (cI, 4, .inl szf)), (qi, .inl (cI, 240, .inl (upd (mvI imf mvf (60 * k2 + jN) a) (((60 * k2) + jN) + a) (mvf a)))), (qv, .inl (cI, 60, .inl mvf))] := hD
                          have hcf : upd (mvI imf mvf (60 * k2 + jN) a) (((60 * k2) + jN) + a) (mvf a) = mvI imf mvf (60 * k2 + jN) (a + 1) := by exact mvI_s imf mvf (60 * k2 + jN) a
                          rw [hcf] at hP hD
                          have hP : va_P D vwCl [(m0, .inr (10, [.ref qk, .int (nI d), .int (nI sh), .int (nI low), .int (nI high), .int le, .int mo, .int (nI nb), .ref qp, .ref qr, .ref qc, .ref qm, .ref qb, .int (nI cap), .int kd, .int am, .int wt, .int md, .long z1, .long z2, .long z3, .long z4, .long z5, .int (nI sw), .int (nI np), .ref qf, .ref qs, .int (nI fe), .int (nI te), .int (nI kk), .ref qt, .ref qx, .ref qy, .int no, .int nt, .ref qo, .ref qz, .ref qi, .ref qv, .int fd])), (qo, .inl (cI, 4, .inl fmf)), (qz, .inl (cI, 4, .inl szf)), (qi, .inl (cI, 240, .inl (mvI imf mvf (60 * k2 + jN) (a + 1)))), (qv, .inl (cI, 60, .inl mvf))] H := hP
                          have hD : va_D A [(m0, .inr (10, [.ref qk, .int (nI d), .int (nI sh), .int (nI low), .int (nI high), .int le, .int mo, .int (nI nb), .ref qp, .ref qr, .ref qc, .ref qm, .ref qb, .int (nI cap), .int kd, .int am, .int wt, .int md, .long z1, .long z2, .long z3, .long z4, .long z5, .int (nI sw), .int (nI np), .ref qf, .ref qs, .int (nI fe), .int (nI te), .int (nI kk), .ref qt, .ref qx, .ref qy, .int no, .int nt, .ref qo, .ref qz, .ref qi, .ref qv, .int fd])), (qo, .inl (cI, 4, .inl fmf)), (qz, .inl (cI, 4, .inl szf)), (qi, .inl (cI, 240, .inl (mvI imf mvf (60 * k2 + jN) (a + 1)))), (qv, .inl (cI, 60, .inl mvf))] := hD
                          refine lv_iinc (v := nI (a + 1)) (lv' := [(6, .int (nI (a + 1))), (0, .ref m0), (1, .int (nI k)), (2, .int (nI iN)), (3, .int (nI k2)), (4, .int (nI jN)), (5, .int (nI kN))]) hx hb dX10_copy_186 hl (k := 6) rfl (nI_1 _) (by decide) rfl (fun ls hl => ?_)
                          refine lv_goto (tgt := 157) hx hb dX10_copy_189 (by decide) ?_
                          exact ih_157 _ _ _ _ (by omega) ⟨a + 1, rfl, (by omega), (hmv), hP.sub [0, 1, 2, 3, 4] rfl, hD.sub [0, 1, 2, 3, 4] (by decide) rfl, hS, lv_sub hl [1, 2, 3, 4, 5, 6, 0] rfl⟩
                      ·
                        have c_124 := n_nge (a := a) (b := kN) c_124 (by omega) (by omega)
                        refine lv_aload_n hx hb dX10_copy_127 rfl (lv_at hl 0 rfl) ?_
                        refine va_get (D := D) (ci := 10) (v := .ref qv) (C := RX10) (T := TX10) (N := 40) hx hb hts iX10 hown hK hP 0 rfl rfl 38 (by decide) (hts (.fieldLink RX10 62 "DeepHoleModel" "moved" "[I") (by decide +kernel)) (fun _ h9 => h9) rfl dX10_copy_128 ?_
                        refine lv_iload hx hb dX10_copy_131 (lv_at hl 6 rfl) ?_
                        refine lv_aload_n hx hb dX10_copy_133 rfl (lv_at hl 0 rfl) ?_
                        refine va_get (D := D) (ci := 10) (v := .ref qi) (C := RX10) (T := TX10) (N := 40) hx hb hts iX10 hown hK hP 0 rfl rfl 37 (by decide) (hts (.fieldLink RX10 59 "DeepHoleModel" "items" "[I") (by decide +kernel)) (fun _ h9 => h9) rfl dX10_copy_134 ?_
                        refine lv_bipush (v := 60) hx hb dX10_copy_137 (by decide) ?_
                        refine lv_iload_n hx hb dX10_copy_139 rfl (lv_at hl 1 rfl) ?_
                        refine lv_imul hx hb dX10_copy_140 ?_
                        refine lv_eqi (z := nI (60 * k)) (pk_mul _ _) ?_
                        refine lv_iload_n hx hb dX10_copy_141 rfl (lv_at hl 2 rfl) ?_
                        refine lv_iadd hx hb dX10_copy_142 ?_
                        refine lv_eqi (z := nI ((60 * k) + iN)) (nI_add _ _) ?_
                        refine lv_iload hx hb dX10_copy_143 (lv_at hl 6 rfl) ?_
                        refine lv_iadd hx hb dX10_copy_145 ?_
                        refine lv_eqi (z := nI (((60 * k) + iN) + a)) (nI_add _ _) ?_
                        refine rd_i hx hb hK hP 3 0 rfl rfl (k := ((60 * k) + iN) + a) (by omega) (by decide) dX10_copy_146 ?_
                        refine wr_i hx hb hK hP hD hS 4 0 rfl rfl (k := a) (by omega) (by decide) dX10_copy_147 (fun H locs hP hD hS => ?_)
                        have hP : va_P D vwCl [(m0, .inr (10, [.ref qk, .int (nI d), .int (nI sh), .int (nI low), .int (nI high), .int le, .int mo, .int (nI nb), .ref qp, .ref qr, .ref qc, .ref qm, .ref qb, .int (nI cap), .int kd, .int am, .int wt, .int md, .long z1, .long z2, .long z3, .long z4, .long z5, .int (nI sw), .int (nI np), .ref qf, .ref qs, .int (nI fe), .int (nI te), .int (nI kk), .ref qt, .ref qx, .ref qy, .int no, .int nt, .ref qo, .ref qz, .ref qi, .ref qv, .int fd])), (qo, .inl (cI, 4, .inl fmf)), (qz, .inl (cI, 4, .inl szf)), (qi, .inl (cI, 240, .inl imf)), (qv, .inl (cI, 60, .inl (upd mvf a (imf (((60 * k) + iN) + a)))))] H := hP
                        have hD : va_D A [(m0, .inr (10, [.ref qk, .int (nI d), .int (nI sh), .int (nI low), .int (nI high), .int le, .int mo, .int (nI nb), .ref qp, .ref qr, .ref qc, .ref qm, .ref qb, .int (nI cap), .int kd, .int am, .int wt, .int md, .long z1, .long z2, .long z3, .long z4, .long z5, .int (nI sw), .int (nI np), .ref qf, .ref qs, .int (nI fe), .int (nI te), .int (nI kk), .ref qt, .ref qx, .ref qy, .int no, .int nt, .ref qo, .ref qz, .ref qi, .ref qv, .int fd])), (qo, .inl (cI, 4, .inl fmf)), (qz, .inl (cI, 4, .inl szf)), (qi, .inl (cI, 240, .inl imf)), (qv, .inl (cI, 60, .inl (upd mvf a (imf (((60 * k) + iN) + a)))))] := hD
                        refine lv_iinc (v := nI (a + 1)) (lv' := [(6, .int (nI (a + 1))), (0, .ref m0), (1, .int (nI k)), (2, .int (nI iN)), (3, .int (nI k2)), (4, .int (nI jN)), (5, .int (nI kN))]) hx hb dX10_copy_148 hl (k := 6) rfl (nI_1 _) (by decide) rfl (fun ls hl => ?_)
                        refine lv_goto (tgt := 120) hx hb dX10_copy_151 (by decide) ?_
                        exact ih_120 _ _ _ _ (by omega) ⟨a + 1, upd mvf a (imf (((60 * k) + iN) + a)), rfl, (by omega), (fun x h => by
                            by_cases e : x = a
                            · rw [e, pk_us]
                            · rw [pk_un e]; exact hmv x (by omega)), hP.sub [0, 1, 2, 3, 4] rfl, hD.sub [0, 1, 2, 3, 4] (by decide) rfl, hS, lv_sub hl [1, 2, 3, 4, 5, 6, 0] rfl⟩
                    ·
                      have c_108 := fun h => c_108 ((lg_cmp_le _ _).mpr h)
                      refine lv_aload_n hx hb dX10_copy_111 rfl (lv_at hl 0 rfl) ?_
                      refine lv_iconst (v := 2) hx hb dX10_copy_112 (by decide) ?_
                      refine w_V (wc := [(m0, .inr (10, [.ref qk, .int (nI d), .int (nI sh), .int (nI low), .int (nI high), .int le, .int mo, .int (nI nb), .ref qp, .ref qr, .ref qc, .ref qm, .ref qb, .int (nI cap), .int kd, .int am, .int wt, .int md, .long z1, .long z2, .long z3, .long z4, .long z5, .int (nI sw), .int (nI np), .ref qf, .ref qs, .int (nI fe), .int (nI te), .int (nI kk), .ref qt, .ref qx, .ref qy, .int no, .int nt, .ref qo, .ref qz, .ref qi, .ref qv, .int fd]))]) (wr := [(qo, .inl (cI, 4, .inl fmf)), (qz, .inl (cI, 4, .inl szf)), (qi, .inl (cI, 240, .inl imf)), (qv, .inl (cI, 60, .inl mvf))]) (b := m0) ⟨hx, hb, hml, hown, hts⟩ [.int (2 : Int32)] [] c_X10_met (cwV 1 hts gX10_copy_X10_met rfl rfl rfl (by decide +kernel) ⟨Nat.le_of_ble_eq_true rfl, Nat.le_of_ble_eq_true rfl⟩) hK hN hP hD hS hA [0] [1, 2, 3, 4] rfl (by decide) rfl (by decide) (by decide) (ci := 10) rfl rfl rfl rfl hl.1 rfl (Nat.le_of_ble_eq_true rfl) dX10_copy_113 ⟨Nat.zero_le _, Nat.zero_le _⟩ (fun r u H locs hw hP hD hS => ?_)
                      have hP : va_P D vwCl [(qo, .inl (cI, 4, .inl fmf)), (qz, .inl (cI, 4, .inl szf)), (qi, .inl (cI, 240, .inl imf)), (qv, .inl (cI, 60, .inl mvf)), (m0, .inr (10, [.ref qk, .int (nI d), .int (nI sh), .int (nI low), .int (nI high), .int le, .int mo, .int (nI nb), .ref qp, .ref qr, .ref qc, .ref qm, .ref qb, .int (nI cap), .int kd, .int am, .int wt, .int md, .long z1, .long z2, .long z3, .long z4, .long z5, .int (nI sw), .int (nI np), .ref qf, .ref qs, .int (nI fe), .int (nI te), .int (nI kk), .ref qt, .ref qx, .ref qy, .int no, .int nt, .ref qo, .ref qz, .ref qi, .ref qv, .int (2 : Int32)]))] H := hP
                      have hD : va_D A [(qo, .inl (cI, 4, .inl fmf)), (qz, .inl (cI, 4, .inl szf)), (qi, .inl (cI, 240, .inl imf)), (qv, .inl (cI, 60, .inl mvf)), (m0, .inr (10, [.ref qk, .int (nI d), .int (nI sh), .int (nI low), .int (nI high), .int le, .int mo, .int (nI nb), .ref qp, .ref qr, .ref qc, .ref qm, .ref qb, .int (nI cap), .int kd, .int am, .int wt, .int md, .long z1, .long z2, .long z3, .long z4, .long z5, .int (nI sw), .int (nI np), .ref qf, .ref qs, .int (nI fe), .int (nI te), .int (nI kk), .ref qt, .ref qx, .ref qy, .int no, .int nt, .ref qo, .ref qz, .ref qi, .ref qv, .int (2 : Int32)]))] := hD
                      subst hw
                      have hP9 := hP.sub (ws' := [(m0, .inr (10, [.ref qk, .int (nI d), .int (nI sh), .int (nI low), .int (nI high), .int le, .int mo, .int (nI nb), .ref qp, .ref qr, .ref qc, .ref qm, .ref qb, .int (nI cap), .int kd, .int am, .int wt, .int md, .long z1, .long z2, .long z3, .long z4, .long z5, .int (nI sw), .int (nI np), .ref qf, .ref qs, .int (nI fe), .int (nI te), .int (nI kk), .ref qt, .ref qx, .ref qy, .int no, .int nt, .ref qo, .ref qz, .ref qi, .ref qv, .int (2 : Int32)])), (qo, .inl (cI, 4, .inl fmf)), (qz, .inl (cI, 4, .inl szf)), (qi, .inl (cI, 240, .inl imf)), (qv, .inl (cI, 60, .inl mvf))]) [4, 0, 1, 2, 3] rfl
                      have hD9 := hD.sub (ws' := [(m0, .inr (10, [.ref qk, .int (nI d), .int (nI sh), .int (nI low), .int (nI high), .int le, .int mo, .int (nI nb), .ref qp, .ref qr, .ref qc, .ref qm, .ref qb, .int (nI cap), .int kd, .int am, .int wt, .int md, .long z1, .long z2, .long z3, .long z4, .long z5, .int (nI sw), .int (nI np), .ref qf, .ref qs, .int (nI fe), .int (nI te), .int (nI kk), .ref qt, .ref qx, .ref qy, .int no, .int nt, .ref qo, .ref qz, .ref qi, .ref qv, .int (2 : Int32)])), (qo, .inl (cI, 4, .inl fmf)), (qz, .inl (cI, 4, .inl szf)), (qi, .inl (cI, 240, .inl imf)), (qv, .inl (cI, 60, .inl mvf))]) [4, 0, 1, 2, 3] (by decide) rfl
                      exact W.iret (v := -10 - (2 : Int32)) hx hb hr (fun t ht hW => ⟨⟨_, ((2 : Int32), imf, mvf), rfl, (by have hC9 : wrongC lo fo lq fq n nq i1 j1 k1 = 2 := (by unfold wrongC; rw [if_neg (fun h => h.elim (fun q => q h1.1) (fun q => q h2.1)), if_neg (fun h => h (by rw [← h1.2.1, ← h2.2.1]; exact c_53)), if_neg (fun h => hr_out hnq (ll2 c_108) h.2)]); rw [hC9]; exact ⟨rfl, rfl⟩), by rw [ht]; exact hP9, hD9⟩, hS.F ht⟩) hS.2.2 dX10_copy_116
          ·
            refine lv_aload_n hx hb dX10_copy_56 rfl (lv_at hl 0 rfl) ?_
            refine lv_iconst (v := 4) hx hb dX10_copy_57 (by decide) ?_
            refine w_V (wc := [(m0, .inr (10, [.ref qk, .int (nI d), .int (nI sh), .int (nI low), .int (nI high), .int le, .int mo, .int (nI nb), .ref qp, .ref qr, .ref qc, .ref qm, .ref qb, .int (nI cap), .int kd, .int am, .int wt, .int md, .long z1, .long z2, .long z3, .long z4, .long z5, .int (nI sw), .int (nI np), .ref qf, .ref qs, .int (nI fe), .int (nI te), .int (nI kk), .ref qt, .ref qx, .ref qy, .int no, .int nt, .ref qo, .ref qz, .ref qi, .ref qv, .int fd]))]) (wr := [(qo, .inl (cI, 4, .inl fmf)), (qz, .inl (cI, 4, .inl szf)), (qi, .inl (cI, 240, .inl imf)), (qv, .inl (cI, 60, .inl mvf))]) (b := m0) ⟨hx, hb, hml, hown, hts⟩ [.int (4 : Int32)] [] c_X10_met (cwV 1 hts gX10_copy_X10_met rfl rfl rfl (by decide +kernel) ⟨Nat.le_of_ble_eq_true rfl, Nat.le_of_ble_eq_true rfl⟩) hK hN hP hD hS hA [0] [1, 2, 3, 4] rfl (by decide) rfl (by decide) (by decide) (ci := 10) rfl rfl rfl rfl hl.1 rfl (Nat.le_of_ble_eq_true rfl) dX10_copy_58 ⟨Nat.zero_le _, Nat.zero_le _⟩ (fun r u H locs hw hP hD hS => ?_)
            have hP : va_P D vwCl [(qo, .inl (cI, 4, .inl fmf)), (qz, .inl (cI, 4, .inl szf)), (qi, .inl (cI, 240, .inl imf)), (qv, .inl (cI, 60, .inl mvf)), (m0, .inr (10, [.ref qk, .int (nI d), .int (nI sh), .int (nI low), .int (nI high), .int le, .int mo, .int (nI nb), .ref qp, .ref qr, .ref qc, .ref qm, .ref qb, .int (nI cap), .int kd, .int am, .int wt, .int md, .long z1, .long z2, .long z3, .long z4, .long z5, .int (nI sw), .int (nI np), .ref qf, .ref qs, .int (nI fe), .int (nI te), .int (nI kk), .ref qt, .ref qx, .ref qy, .int no, .int nt, .ref qo, .ref qz, .ref qi, .ref qv, .int (4 : Int32)]))] H := hP
            have hD : va_D A [(qo, .inl (cI, 4, .inl fmf)), (qz, .inl (cI, 4, .inl szf)), (qi, .inl (cI, 240, .inl imf)), (qv, .inl (cI, 60, .inl mvf)), (m0, .inr (10, [.ref qk, .int (nI d), .int (nI sh), .int (nI low), .int (nI high), .int le, .int mo, .int (nI nb), .ref qp, .ref qr, .ref qc, .ref qm, .ref qb, .int (nI cap), .int kd, .int am, .int wt, .int md, .long z1, .long z2, .long z3, .long z4, .long z5, .int (nI sw), .int (nI np), .ref qf, .ref qs, .int (nI fe), .int (nI te), .int (nI kk), .ref qt, .ref qx, .ref qy, .int no, .int nt, .ref qo, .ref qz, .ref qi, .ref qv, .int (4 : Int32)]))] := hD
            subst hw
            have hP9 := hP.sub (ws' := [(m0, .inr (10, [.ref qk, .int (nI d), .int (nI sh), .int (nI low), .int (nI high), .int le, .int mo, .int (nI nb), .ref qp, .ref qr, .ref qc, .ref qm, .ref qb, .int (nI cap), .int kd, .int am, .int wt, .int md, .long z1, .long z2, .long z3, .long z4, .long z5, .int (nI sw), .int (nI np), .ref qf, .ref qs, .int (nI fe), .int (nI te), .int (nI kk), .ref qt, .ref qx, .ref qy, .int no, .int nt, .ref qo, .ref qz, .ref qi, .ref qv, .int (4 : Int32)])), (qo, .inl (cI, 4, .inl fmf)), (qz, .inl (cI, 4, .inl szf)), (qi, .inl (cI, 240, .inl imf)), (qv, .inl (cI, 60, .inl mvf))]) [4, 0, 1, 2, 3] rfl
            have hD9 := hD.sub (ws' := [(m0, .inr (10, [.ref qk, .int (nI d), .int (nI sh), .int (nI low), .int (nI high), .int le, .int mo, .int (nI nb), .ref qp, .ref qr, .ref qc, .ref qm, .ref qb, .int (nI cap), .int kd, .int am, .int wt, .int md, .long z1, .long z2, .long z3, .long z4, .long z5, .int (nI sw), .int (nI np), .ref qf, .ref qs, .int (nI fe), .int (nI te), .int (nI kk), .ref qt, .ref qx, .ref qy, .int no, .int nt, .ref qo, .ref qz, .ref qi, .ref qv, .int (4 : Int32)])), (qo, .inl (cI, 4, .inl fmf)), (qz, .inl (cI, 4, .inl szf)), (qi, .inl (cI, 240, .inl imf)), (qv, .inl (cI, 60, .inl mvf))]) [4, 0, 1, 2, 3] (by decide) rfl
            exact W.iret (v := -10 - (4 : Int32)) hx hb hr (fun t ht hW => ⟨⟨_, ((4 : Int32), imf, mvf), rfl, (by have hC9 : wrongC lo fo lq fq n nq i1 j1 k1 = 4 := (by unfold wrongC; rw [if_neg (fun h => h.elim (fun q => q h1.1) (fun q => q h2.1)), if_pos (by rw [← h1.2.1, ← h2.2.1]; exact c_53)]); rw [hC9]; exact ⟨rfl, rfl⟩), by rw [ht]; exact hP9, hD9⟩, hS.F ht⟩) hS.2.2 dX10_copy_61
        ·
          have hneg2 := hS2.neg (i_lt' c_32)
          refine lv_aload_n hx hb dX10_copy_35 rfl (lv_at hl 0 rfl) ?_
          refine lv_iconst (v := 1) hx hb dX10_copy_36 (by decide) ?_
          refine w_V (wc := [(m0, .inr (10, [.ref qk, .int (nI d), .int (nI sh), .int (nI low), .int (nI high), .int le, .int mo, .int (nI nb), .ref qp, .ref qr, .ref qc, .ref qm, .ref qb, .int (nI cap), .int kd, .int am, .int wt, .int md, .long z1, .long z2, .long z3, .long z4, .long z5, .int (nI sw), .int (nI np), .ref qf, .ref qs, .int (nI fe), .int (nI te), .int (nI kk), .ref qt, .ref qx, .ref qy, .int no, .int nt, .ref qo, .ref qz, .ref qi, .ref qv, .int fd]))]) (wr := [(qo, .inl (cI, 4, .inl fmf)), (qz, .inl (cI, 4, .inl szf)), (qi, .inl (cI, 240, .inl imf)), (qv, .inl (cI, 60, .inl mvf))]) (b := m0) ⟨hx, hb, hml, hown, hts⟩ [.int (1 : Int32)] [] c_X10_met (cwV 1 hts gX10_copy_X10_met rfl rfl rfl (by decide +kernel) ⟨Nat.le_of_ble_eq_true rfl, Nat.le_of_ble_eq_true rfl⟩) hK hN hP hD hS hA [0] [1, 2, 3, 4] rfl (by decide) rfl (by decide) (by decide) (ci := 10) rfl rfl rfl rfl hl.1 rfl (Nat.le_of_ble_eq_true rfl) dX10_copy_37 ⟨Nat.zero_le _, Nat.zero_le _⟩ (fun r u H locs hw hP hD hS => ?_)
          have hP : va_P D vwCl [(qo, .inl (cI, 4, .inl fmf)), (qz, .inl (cI, 4, .inl szf)), (qi, .inl (cI, 240, .inl imf)), (qv, .inl (cI, 60, .inl mvf)), (m0, .inr (10, [.ref qk, .int (nI d), .int (nI sh), .int (nI low), .int (nI high), .int le, .int mo, .int (nI nb), .ref qp, .ref qr, .ref qc, .ref qm, .ref qb, .int (nI cap), .int kd, .int am, .int wt, .int md, .long z1, .long z2, .long z3, .long z4, .long z5, .int (nI sw), .int (nI np), .ref qf, .ref qs, .int (nI fe), .int (nI te), .int (nI kk), .ref qt, .ref qx, .ref qy, .int no, .int nt, .ref qo, .ref qz, .ref qi, .ref qv, .int (1 : Int32)]))] H := hP
          have hD : va_D A [(qo, .inl (cI, 4, .inl fmf)), (qz, .inl (cI, 4, .inl szf)), (qi, .inl (cI, 240, .inl imf)), (qv, .inl (cI, 60, .inl mvf)), (m0, .inr (10, [.ref qk, .int (nI d), .int (nI sh), .int (nI low), .int (nI high), .int le, .int mo, .int (nI nb), .ref qp, .ref qr, .ref qc, .ref qm, .ref qb, .int (nI cap), .int kd, .int am, .int wt, .int md, .long z1, .long z2, .long z3, .long z4, .long z5, .int (nI sw), .int (nI np), .ref qf, .ref qs, .int (nI fe), .int (nI te), .int (nI kk), .ref qt, .ref qx, .ref qy, .int no, .int nt, .ref qo, .ref qz, .ref qi, .ref qv, .int (1 : Int32)]))] := hD
          subst hw
          have hP9 := hP.sub (ws' := [(m0, .inr (10, [.ref qk, .int (nI d), .int (nI sh), .int (nI low), .int (nI high), .int le, .int mo, .int (nI nb), .ref qp, .ref qr, .ref qc, .ref qm, .ref qb, .int (nI cap), .int kd, .int am, .int wt, .int md, .long z1, .long z2, .long z3, .long z4, .long z5, .int (nI sw), .int (nI np), .ref qf, .ref qs, .int (nI fe), .int (nI te), .int (nI kk), .ref qt, .ref qx, .ref qy, .int no, .int nt, .ref qo, .ref qz, .ref qi, .ref qv, .int (1 : Int32)])), (qo, .inl (cI, 4, .inl fmf)), (qz, .inl (cI, 4, .inl szf)), (qi, .inl (cI, 240, .inl imf)), (qv, .inl (cI, 60, .inl mvf))]) [4, 0, 1, 2, 3] rfl
          have hD9 := hD.sub (ws' := [(m0, .inr (10, [.ref qk, .int (nI d), .int (nI sh), .int (nI low), .int (nI high), .int le, .int mo, .int (nI nb), .ref qp, .ref qr, .ref qc, .ref qm, .ref qb, .int (nI cap), .int kd, .int am, .int wt, .int md, .long z1, .long z2, .long z3, .long z4, .long z5, .int (nI sw), .int (nI np), .ref qf, .ref qs, .int (nI fe), .int (nI te), .int (nI kk), .ref qt, .ref qx, .ref qy, .int no, .int nt, .ref qo, .ref qz, .ref qi, .ref qv, .int (1 : Int32)])), (qo, .inl (cI, 4, .inl fmf)), (qz, .inl (cI, 4, .inl szf)), (qi, .inl (cI, 240, .inl imf)), (qv, .inl (cI, 60, .inl mvf))]) [4, 0, 1, 2, 3] (by decide) rfl
          exact W.iret (v := -10 - (1 : Int32)) hx hb hr (fun t ht hW => ⟨⟨_, ((1 : Int32), imf, mvf), rfl, (by have hC9 : wrongC lo fo lq fq n nq i1 j1 k1 = 1 := (by unfold wrongC; rw [if_pos (show ¬ lo = 0 ∨ ¬ lq = 0 from Or.inr hneg2)]); rw [hC9]; exact ⟨rfl, rfl⟩), by rw [ht]; exact hP9, hD9⟩, hS.F ht⟩) hS.2.2 dX10_copy_40
    ·
      have c_11 := bz c_11
      exact absurd (show (0 : Int32) ≤ nI k2 ∧ nI k2 ≤ 3 from ⟨nI_pos' (by omega), nI_le (b := 3) (by omega) (by decide)⟩) c_11

set_option maxHeartbeats 4000000 in
set_option maxRecDepth 100000 in
theorem c_X10_copy_b {l : Launch} {D : va_G} {cI cS cP : ClassId} {sz : Nat} {m0 qk qp qr qc qm qb qf qs qt qx qy qo qz qi qv : Nat} {d sh low high nb cap sw np fe te kk : Nat} {le mo kd am wt md no nt fd : Int32} {z1 z2 z3 z4 z5 : Int64} {h1 : Int32} {i1 t1 j1 k1 : Int32} (hbad : ¬ ((0 ≤ h1 ∧ h1 ≤ 3) ∧ (0 ≤ t1 ∧ t1 ≤ 3))) : Met l yX10_copy wsX10_copy ({ frames := 2, cells := 0, slots := 0, locals := 45 }) (PC D (TY cI cS cP) [.ref m0, .int h1, .int i1, .int t1, .int j1, .int k1] sz [(m0, .inr (10, [.ref qk, .int (nI d), .int (nI sh), .int (nI low), .int (nI high), .int le, .int mo, .int (nI nb), .ref qp, .ref qr, .ref qc, .ref qm, .ref qb, .int (nI cap), .int kd, .int am, .int wt, .int md, .long z1, .long z2, .long z3, .long z4, .long z5, .int (nI sw), .int (nI np), .ref qf, .ref qs, .int (nI fe), .int (nI te), .int (nI kk), .ref qt, .ref qx, .ref qy, .int no, .int nt, .ref qo, .ref qz, .ref qi, .ref qv, .int fd]))]) (vp_Si (fun r => r = -2)) 0 0 (fun _ => False) := by
  refine Met.ofW (cc := cX10_copy) (maxL := 7) (ret := (some .int)) (by decide) rfl ?_
  intro p e s m args below meth c s₁ B hml hv
  obtain ⟨rfl, hsz, hP, hK, hD0, hN⟩ := hv
  have hx := B.exec
  have hb := B.bytes
  have hr := B.returns
  have hts := atoms_spec (ws := wsX10_copy) B.pre
  have hown : s.vm.findClass RX10 = some m.cls := findClass_of_methodNamed B.named
  have hlocks := B.notSynchronized
  subst hsz
  have hD := hD0
  have hP : va_P D vwCl [(m0, .inr (10, [.ref qk, .int (nI d), .int (nI sh), .int (nI low), .int (nI high), .int le, .int mo, .int (nI nb), .ref qp, .ref qr, .ref qc, .ref qm, .ref qb, .int (nI cap), .int kd, .int am, .int wt, .int md, .long z1, .long z2, .long z3, .long z4, .long z5, .int (nI sw), .int (nI np), .ref qf, .ref qs, .int (nI fe), .int (nI te), .int (nI kk), .ref qt, .ref qx, .ref qy, .int no, .int nt, .ref qo, .ref qz, .ref qi, .ref qv, .int fd]))] s.heap := hP
  have hl := lv_entry ([.ref m0, .int h1, .int i1, .int t1, .int j1, .int k1]) (n := 7) (Nat.le_of_ble_eq_true rfl)
  rw [lg_entry_eq]
  generalize (lg_sl ([.ref m0, .int h1, .int i1, .int t1, .int j1, .int k1]) ++ List.replicate (7 - (lg_sl ([.ref m0, .int h1, .int i1, .int t1, .int j1, .int k1])).length) Slot.unset).toArray = ls at hl ⊢
  have hl : lv_has ls 7 [(0, .ref m0), (1, .int h1), (2, .int i1), (3, .int t1), (4, .int j1), (5, .int k1)] := hl
  refine lv_iload_n hx hb dX10_copy_0 rfl (lv_at hl 1 rfl) ?_
  refine q_S (tys := TY cI cS cP) (D := D) ⟨hx, hb, hml, hown, hts⟩ [.int h1] [] c_X10_isSheet (va_cwS 1 hts gX10_copy_X10_isSheet rfl rfl rfl (by decide +kernel) ⟨Nat.le_of_ble_eq_true rfl, Nat.le_of_ble_eq_true rfl⟩) hK hN rfl hl.1 rfl (Nat.le_of_ble_eq_true rfl) dX10_copy_1 ⟨Nat.zero_le _, Nat.zero_le _⟩ (fun r hw => ?_)
  subst hw
  refine lv_if_eq (tgt := 14) hx hb dX10_copy_4 (by decide) (fun c_4 => ?_) (fun c_4 => ?_)
  ·
    have c_4 := bz c_4
    refine lv_bipush (v := (-2)) hx hb dX10_copy_14 (by decide) ?_
    exact W.iret (v := (-2)) hx hb hr (fun t ht hW => ⟨_, rfl, (by rfl), ht⟩) (fun _ h => absurd h List.not_mem_nil) dX10_copy_16
  ·
    have c_4 := bnz c_4
    refine lv_iload_n hx hb dX10_copy_7 rfl (lv_at hl 3 rfl) ?_
    refine q_S (tys := TY cI cS cP) (D := D) ⟨hx, hb, hml, hown, hts⟩ [.int t1] [] c_X10_isSheet (va_cwS 1 hts gX10_copy_X10_isSheet rfl rfl rfl (by decide +kernel) ⟨Nat.le_of_ble_eq_true rfl, Nat.le_of_ble_eq_true rfl⟩) hK hN rfl hl.1 rfl (Nat.le_of_ble_eq_true rfl) dX10_copy_8 ⟨Nat.zero_le _, Nat.zero_le _⟩ (fun r hw => ?_)
    subst hw
    refine lv_if_ne (tgt := 17) hx hb dX10_copy_11 (by decide) (fun c_11 => ?_) (fun c_11 => ?_)
    ·
      have c_11 := bnz c_11
      exact absurd ⟨c_4, c_11⟩ hbad
    ·
      have c_11 := bz c_11
      refine lv_bipush (v := (-2)) hx hb dX10_copy_14 (by decide) ?_
      exact W.iret (v := (-2)) hx hb hr (fun t ht hW => ⟨_, rfl, (by rfl), ht⟩) (fun _ h => absurd h List.not_mem_nil) dX10_copy_16

set_option maxHeartbeats 4000000 in
set_option maxRecDepth 100000 in
theorem c_X10_count {l : Launch} {D : va_G} {cI cS cP : ClassId} {sz : Nat} {m0 qk qp qr qc qm qb qf qs qt qx qy qo qz qi qv : Nat} {d sh low high nb cap sw np fe te kk : Nat} {le mo kd am wt md no nt fd : Int32} {z1 z2 z3 z4 z5 : Int64} {stf : Nat → Int32} {na nq : Nat} {w9 : Int32} (hs0 : stf 0 = nI na) (hs1 : stf 1 = nI nq) : Met l yX10_count wsX10_count ({ frames := 0, cells := 0, slots := 0, locals := 0 }) (PC D (TY cI cS cP) [.ref m0, .int w9] sz [(m0, .inr (10, [.ref qk, .int (nI d), .int (nI sh), .int (nI low), .int (nI high), .int le, .int mo, .int (nI nb), .ref qp, .ref qr, .ref qc, .ref qm, .ref qb, .int (nI cap), .int kd, .int am, .int wt, .int md, .long z1, .long z2, .long z3, .long z4, .long z5, .int (nI sw), .int (nI np), .ref qf, .ref qs, .int (nI fe), .int (nI te), .int (nI kk), .ref qt, .ref qx, .ref qy, .int no, .int nt, .ref qo, .ref qz, .ref qi, .ref qv, .int fd])), (qt, .inl (cI, 2, .inl stf))]) (vp_Si (fun r => r = aCount d sh nb np na nq fd low high w9)) 0 0 (fun _ => False) := by
  refine Met.ofW (cc := cX10_count) (maxL := 2) (ret := (some .int)) (by decide) rfl ?_
  intro p e s m args below meth c s₁ B hml hv
  obtain ⟨rfl, hsz, hP, hK, hD0, hN⟩ := hv
  have hx := B.exec
  have hb := B.bytes
  have hr := B.returns
  have hts := atoms_spec (ws := wsX10_count) B.pre
  have hown : s.vm.findClass RX10 = some m.cls := findClass_of_methodNamed B.named
  have hlocks := B.notSynchronized
  subst hsz
  have iX10 : ∀ w ∈ u_ws RX10 TX10 40, w ∈ wsX10_count := by decide +kernel
  have hD := hD0
  have hP : va_P D vwCl [(m0, .inr (10, [.ref qk, .int (nI d), .int (nI sh), .int (nI low), .int (nI high), .int le, .int mo, .int (nI nb), .ref qp, .ref qr, .ref qc, .ref qm, .ref qb, .int (nI cap), .int kd, .int am, .int wt, .int md, .long z1, .long z2, .long z3, .long z4, .long z5, .int (nI sw), .int (nI np), .ref qf, .ref qs, .int (nI fe), .int (nI te), .int (nI kk), .ref qt, .ref qx, .ref qy, .int no, .int nt, .ref qo, .ref qz, .ref qi, .ref qv, .int fd])), (qt, .inl (cI, 2, .inl stf))] s.heap := hP
  have hl := lv_entry ([.ref m0, .int w9]) (n := 2) (Nat.le_of_ble_eq_true rfl)
  rw [lg_entry_eq]
  generalize (lg_sl ([.ref m0, .int w9]) ++ List.replicate (2 - (lg_sl ([.ref m0, .int w9])).length) Slot.unset).toArray = ls at hl ⊢
  have hl : lv_has ls 2 [(0, .ref m0), (1, .int w9)] := hl
  refine lv_iload_n hx hb dX10_count_0 rfl (lv_at hl 1 rfl) ?_
  rcases sw8 w9 with c_1 | c_1 | c_1 | c_1 | c_1 | c_1 | c_1 | c_1 | c_1
  ·
    refine lv_tableIn (tgt := 48) (off := 47) hx hb dX10_count_1 (by rw [c_1]; decide) (by rw [c_1]; decide) (by rw [c_1]; rfl) (by decide) ?_
    refine lv_aload_n hx hb dX10_count_48 rfl (lv_at hl 0 rfl) ?_
    refine va_get (D := D) (ci := 10) (v := .int (nI d)) (C := RX10) (T := TX10) (N := 40) hx hb hts iX10 hown hK hP 0 rfl rfl 1 (by decide) (hts (.fieldLink RX10 73 "DeepHoleModel" "depth" "I") (by decide +kernel)) (fun _ h9 => h9) rfl dX10_count_49 ?_
    exact W.iret (v := nI d) hx hb hr (fun t ht hW => ⟨_, rfl, (by rw [c_1]; rfl), ht⟩) (fun _ h => absurd h List.not_mem_nil) dX10_count_52
  ·
    refine lv_tableIn (tgt := 53) (off := 52) hx hb dX10_count_1 (by rw [c_1]; decide) (by rw [c_1]; decide) (by rw [c_1]; rfl) (by decide) ?_
    refine lv_aload_n hx hb dX10_count_53 rfl (lv_at hl 0 rfl) ?_
    refine va_get (D := D) (ci := 10) (v := .int (nI sh)) (C := RX10) (T := TX10) (N := 40) hx hb hts iX10 hown hK hP 0 rfl rfl 2 (by decide) (hts (.fieldLink RX10 76 "DeepHoleModel" "shoe" "I") (by decide +kernel)) (fun _ h9 => h9) rfl dX10_count_54 ?_
    exact W.iret (v := nI sh) hx hb hr (fun t ht hW => ⟨_, rfl, (by rw [c_1]; rfl), ht⟩) (fun _ h => absurd h List.not_mem_nil) dX10_count_57
  ·
    refine lv_tableIn (tgt := 58) (off := 57) hx hb dX10_count_1 (by rw [c_1]; decide) (by rw [c_1]; decide) (by rw [c_1]; rfl) (by decide) ?_
    refine lv_aload_n hx hb dX10_count_58 rfl (lv_at hl 0 rfl) ?_
    refine va_get (D := D) (ci := 10) (v := .int (nI nb)) (C := RX10) (T := TX10) (N := 40) hx hb hts iX10 hown hK hP 0 rfl rfl 7 (by decide) (hts (.fieldLink RX10 110 "DeepHoleModel" "strings" "I") (by decide +kernel)) (fun _ h9 => h9) rfl dX10_count_59 ?_
    exact W.iret (v := nI nb) hx hb hr (fun t ht hW => ⟨_, rfl, (by rw [c_1]; rfl), ht⟩) (fun _ h => absurd h List.not_mem_nil) dX10_count_62
  ·
    refine lv_tableIn (tgt := 63) (off := 62) hx hb dX10_count_1 (by rw [c_1]; decide) (by rw [c_1]; decide) (by rw [c_1]; rfl) (by decide) ?_
    refine lv_aload_n hx hb dX10_count_63 rfl (lv_at hl 0 rfl) ?_
    refine va_get (D := D) (ci := 10) (v := .int (nI np)) (C := RX10) (T := TX10) (N := 40) hx hb hts iX10 hown hK hP 0 rfl rfl 24 (by decide) (hts (.fieldLink RX10 183 "DeepHoleModel" "pulls" "I") (by decide +kernel)) (fun _ h9 => h9) rfl dX10_count_64 ?_
    exact W.iret (v := nI np) hx hb hr (fun t ht hW => ⟨_, rfl, (by rw [c_1]; rfl), ht⟩) (fun _ h => absurd h List.not_mem_nil) dX10_count_67
  ·
    refine lv_tableIn (tgt := 68) (off := 67) hx hb dX10_count_1 (by rw [c_1]; decide) (by rw [c_1]; decide) (by rw [c_1]; rfl) (by decide) ?_
    refine lv_aload_n hx hb dX10_count_68 rfl (lv_at hl 0 rfl) ?_
    refine va_get (D := D) (ci := 10) (v := .ref qt) (C := RX10) (T := TX10) (N := 40) hx hb hts iX10 hown hK hP 0 rfl rfl 30 (by decide) (hts (.fieldLink RX10 44 "DeepHoleModel" "stations" "[I") (by decide +kernel)) (fun _ h9 => h9) rfl dX10_count_69 ?_
    refine lv_iconst (v := 0) hx hb dX10_count_72 (by decide) ?_
    refine rd_i hx hb hK hP 1 0 rfl rfl (k := 0) (by omega) (by decide) dX10_count_73 ?_
    refine lv_eqi (z := nI na) (hs0) ?_
    refine lv_aload_n hx hb dX10_count_74 rfl (lv_at hl 0 rfl) ?_
    refine va_get (D := D) (ci := 10) (v := .ref qt) (C := RX10) (T := TX10) (N := 40) hx hb hts iX10 hown hK hP 0 rfl rfl 30 (by decide) (hts (.fieldLink RX10 44 "DeepHoleModel" "stations" "[I") (by decide +kernel)) (fun _ h9 => h9) rfl dX10_count_75 ?_
    refine lv_iconst (v := 1) hx hb dX10_count_78 (by decide) ?_
    refine rd_i hx hb hK hP 1 0 rfl rfl (k := 1) (by omega) (by decide) dX10_count_79 ?_
    refine lv_eqi (z := nI nq) (hs1) ?_
    refine lv_iadd hx hb dX10_count_80 ?_
    refine lv_eqi (z := nI (na + nq)) (nI_add _ _) ?_
    exact W.iret (v := nI (na + nq)) hx hb hr (fun t ht hW => ⟨_, rfl, (by rw [c_1]; rfl), ht⟩) (fun _ h => absurd h List.not_mem_nil) dX10_count_81
  ·
    refine lv_tableIn (tgt := 82) (off := 81) hx hb dX10_count_1 (by rw [c_1]; decide) (by rw [c_1]; decide) (by rw [c_1]; rfl) (by decide) ?_
    refine lv_aload_n hx hb dX10_count_82 rfl (lv_at hl 0 rfl) ?_
    refine va_get (D := D) (ci := 10) (v := .int fd) (C := RX10) (T := TX10) (N := 40) hx hb hts iX10 hown hK hP 0 rfl rfl 39 (by decide) (hts (.fieldLink RX10 213 "DeepHoleModel" "latest" "I") (by decide +kernel)) (fun _ h9 => h9) rfl dX10_count_83 ?_
    exact W.iret (v := fd) hx hb hr (fun t ht hW => ⟨_, rfl, (by rw [c_1]; rfl), ht⟩) (fun _ h => absurd h List.not_mem_nil) dX10_count_86
  ·
    refine lv_tableIn (tgt := 87) (off := 86) hx hb dX10_count_1 (by rw [c_1]; decide) (by rw [c_1]; decide) (by rw [c_1]; rfl) (by decide) ?_
    refine lv_aload_n hx hb dX10_count_87 rfl (lv_at hl 0 rfl) ?_
    refine va_get (D := D) (ci := 10) (v := .int (nI low)) (C := RX10) (T := TX10) (N := 40) hx hb hts iX10 hown hK hP 0 rfl rfl 3 (by decide) (hts (.fieldLink RX10 81 "DeepHoleModel" "low" "I") (by decide +kernel)) (fun _ h9 => h9) rfl dX10_count_88 ?_
    exact W.iret (v := nI low) hx hb hr (fun t ht hW => ⟨_, rfl, (by rw [c_1]; rfl), ht⟩) (fun _ h => absurd h List.not_mem_nil) dX10_count_91
  ·
    refine lv_tableIn (tgt := 92) (off := 91) hx hb dX10_count_1 (by rw [c_1]; decide) (by rw [c_1]; decide) (by rw [c_1]; rfl) (by decide) ?_
    refine lv_aload_n hx hb dX10_count_92 rfl (lv_at hl 0 rfl) ?_
    refine va_get (D := D) (ci := 10) (v := .int (nI high)) (C := RX10) (T := TX10) (N := 40) hx hb hts iX10 hown hK hP 0 rfl rfl 4 (by decide) (hts (.fieldLink RX10 84 "DeepHoleModel" "high" "I") (by decide +kernel)) (fun _ h9 => h9) rfl dX10_count_93 ?_
    exact W.iret (v := nI high) hx hb hr (fun t ht hW => ⟨_, rfl, (by rw [c_1]; rfl), ht⟩) (fun _ h => absurd h List.not_mem_nil) dX10_count_96
  ·
    refine lv_tableOut (tgt := 97) hx hb dX10_count_1 c_1 (by decide) ?_
    refine lv_bipush (v := (-2)) hx hb dX10_count_97 (by decide) ?_
    exact W.iret (v := (-2)) hx hb hr (fun t ht hW => ⟨_, rfl, (by have n_1 := sw8n c_1; unfold aCount; rw [if_neg n_1.1, if_neg n_1.2.1, if_neg n_1.2.2.1, if_neg n_1.2.2.2.1, if_neg n_1.2.2.2.2.1, if_neg n_1.2.2.2.2.2.1, if_neg n_1.2.2.2.2.2.2.1, if_neg n_1.2.2.2.2.2.2.2]), ht⟩) (fun _ h => absurd h List.not_mem_nil) dX10_count_99

set_option maxHeartbeats 4000000 in
set_option maxRecDepth 100000 in
theorem c_X10_digest {l : Launch} {D : va_G} {cI cS cP : ClassId} {sz : Nat} {m0 qk qp qr qc qm qb qf qs qt qx qy qo qz qi qv : Nat} {d sh low high nb cap sw np fe te kk : Nat} {le mo kd am wt md no nt fd : Int32} {z1 z2 z3 z4 z5 : Int64} {stf qxf qyf : Nat → Int32} {na nq : Nat} {xs ys xt yt : Nat → Int32} {fmf szf imf : Nat → Int32} {n0 n1 : Nat} {it0 it1 : Nat → Int32} (hs0 : stf 0 = nI na) (hs1 : stf 1 = nI nq) (hna : na ≤ 40) (hnq : nq ≤ 40) (hx0 : ∀ j, j ≤ na → qxf j = xs j) (hy0 : ∀ j, j ≤ na → qyf j = ys j) (hx1 : ∀ j, j ≤ nq → qxf (41 + j) = xt j) (hy1 : ∀ j, j ≤ nq → qyf (41 + j) = yt j) (hn0 : n0 ≤ 60) (hn1 : n1 ≤ 60) (hG0 : gREL fmf szf imf 0 n0 it0) (hG1 : gREL fmf szf imf 1 n1 it1) : Met l yX10_digest wsX10_digest ({ frames := 2, cells := 0, slots := 0, locals := 49 }) (PC D (TY cI cS cP) [.ref m0] sz [(m0, .inr (10, [.ref qk, .int (nI d), .int (nI sh), .int (nI low), .int (nI high), .int le, .int mo, .int (nI nb), .ref qp, .ref qr, .ref qc, .ref qm, .ref qb, .int (nI cap), .int kd, .int am, .int wt, .int md, .long z1, .long z2, .long z3, .long z4, .long z5, .int (nI sw), .int (nI np), .ref qf, .ref qs, .int (nI fe), .int (nI te), .int (nI kk), .ref qt, .ref qx, .ref qy, .int no, .int nt, .ref qo, .ref qz, .ref qi, .ref qv, .int fd])), (qt, .inl (cI, 2, .inl stf)), (qx, .inl (cI, 82, .inl qxf)), (qy, .inl (cI, 82, .inl qyf)), (qo, .inl (cI, 4, .inl fmf)), (qz, .inl (cI, 4, .inl szf)), (qi, .inl (cI, 240, .inl imf))]) (vp_Sl (fun r => r = dgF (fun k => aCount d sh nb np na nq fd low high (nI k)) (po it0 n0) (fr it1 n1) (xs na) (ys na) (xt nq) (yt nq))) 0 0 (fun _ => False) := by
  refine Met.ofW (cc := cX10_digest) (maxL := 4) (ret := (some .long)) (by decide) rfl ?_
  intro p e s m args below meth c s₁ B hml hv
  obtain ⟨rfl, hsz, hP, hK, hD0, hN⟩ := hv
  have hx := B.exec
  have hb := B.bytes
  have hr := B.returns
  have hts := atoms_spec (ws := wsX10_digest) B.pre
  have hown : s.vm.findClass RX10 = some m.cls := findClass_of_methodNamed B.named
  have hlocks := B.notSynchronized
  subst hsz
  have iX10 : ∀ w ∈ u_ws RX10 TX10 40, w ∈ wsX10_digest := by decide +kernel
  have hD := hD0
  have hP : va_P D vwCl [(m0, .inr (10, [.ref qk, .int (nI d), .int (nI sh), .int (nI low), .int (nI high), .int le, .int mo, .int (nI nb), .ref qp, .ref qr, .ref qc, .ref qm, .ref qb, .int (nI cap), .int kd, .int am, .int wt, .int md, .long z1, .long z2, .long z3, .long z4, .long z5, .int (nI sw), .int (nI np), .ref qf, .ref qs, .int (nI fe), .int (nI te), .int (nI kk), .ref qt, .ref qx, .ref qy, .int no, .int nt, .ref qo, .ref qz, .ref qi, .ref qv, .int fd])), (qt, .inl (cI, 2, .inl stf)), (qx, .inl (cI, 82, .inl qxf)), (qy, .inl (cI, 82, .inl qyf)), (qo, .inl (cI, 4, .inl fmf)), (qz, .inl (cI, 4, .inl szf)), (qi, .inl (cI, 240, .inl imf))] s.heap := hP
  have hl := lv_entry ([.ref m0]) (n := 4) (Nat.le_of_ble_eq_true rfl)
  rw [lg_entry_eq]
  generalize (lg_sl ([.ref m0]) ++ List.replicate (4 - (lg_sl ([.ref m0])).length) Slot.unset).toArray = ls at hl ⊢
  have hl : lv_has ls 4 [(0, .ref m0)] := hl
  refine lv_ldc2 hx hb hown (hts (.constantLong RX10 229 (17)) (by decide +kernel)) dX10_digest_0 ?_
  refine lv_lstore_n (lv' := [(1, .long 17), (0, .ref m0)]) hx hb dX10_digest_3 rfl hl (by decide) rfl (fun ls hl => ?_)
  refine lv_iconst (v := 0) hx hb dX10_digest_4 (by decide) ?_
  refine lv_istore_n (lv' := [(3, .int 0), (1, .long 17), (0, .ref m0)]) hx hb dX10_digest_5 rfl hl (by decide) rfl (fun ls hl => ?_)
  refine lp_q (I := fun zz9 ls => ∃ (k : Nat) (h : Int64), zz9 = 8 - k ∧ (k ≤ 8) ∧ (dg1 (fun k => aCount d sh nb np na nq fd low high (nI k)) 0 8 17 = dg1 (fun k => aCount d sh nb np na nq fd low high (nI k)) k (8 - k) h) ∧ lv_has ls 4 [(0, .ref m0), (1, .long h), (3, .int (nI k))]) ?_ (8 - 0) ⟨0, (17 : Int64), rfl, (by omega), (rfl), lv_sub hl [2, 1, 0] rfl⟩
  intro n_6 ls ih_6 hI
  obtain ⟨k, h, hn_6, hk9, hd1, hl⟩ := hI
  refine lv_iload_n hx hb dX10_digest_6 rfl (lv_at hl 2 rfl) ?_
  refine lv_bipush (v := 8) hx hb dX10_digest_7 (by decide) ?_
  refine lv_icmp_ge (tgt := 40) hx hb dX10_digest_9 (by decide) (fun c_9 => ?_) (fun c_9 => ?_)
  ·
    have c_9 := n_ge (a := k) (b := 8) c_9 (by omega) (by omega)
    refine lv_iconst (v := 0) hx hb dX10_digest_40 (by decide) ?_
    refine lv_istore_n (lv' := [(3, .int 0), (0, .ref m0), (1, .long h)]) hx hb dX10_digest_41 rfl hl (by decide) rfl (fun ls hl => ?_)
    refine lp_q (I := fun zz9 ls => ∃ (k : Nat) (h : Int64), zz9 = 50 - k ∧ (k ≤ 50) ∧ (dg2 (po it0 n0) (fr it1 n1) 0 50 (dg1 (fun k => aCount d sh nb np na nq fd low high (nI k)) 0 8 17) = dg2 (po it0 n0) (fr it1 n1) k (50 - k) h) ∧ lv_has ls 4 [(0, .ref m0), (1, .long h), (3, .int (nI k))]) ?_ (50 - 0) ⟨0, h, rfl, (by omega), (by rw [hd1, show 8 - k = 0 by omega]; rfl), lv_sub hl [1, 2, 0] rfl⟩
    intro n_42 ls ih_42 hI
    obtain ⟨k, h, hn_42, hk9, hd2, hl⟩ := hI
    refine lv_iload_n hx hb dX10_digest_42 rfl (lv_at hl 2 rfl) ?_
    refine lv_bipush (v := 50) hx hb dX10_digest_43 (by decide) ?_
    refine lv_icmp_ge (tgt := 82) hx hb dX10_digest_45 (by decide) (fun c_45 => ?_) (fun c_45 => ?_)
    ·
      have c_45 := n_ge (a := k) (b := 50) c_45 (by omega) (by omega)
      refine lv_iconst (v := 0) hx hb dX10_digest_82 (by decide) ?_
      refine lv_istore_n (lv' := [(3, .int 0), (0, .ref m0), (1, .long h)]) hx hb dX10_digest_83 rfl hl (by decide) rfl (fun ls hl => ?_)
      refine lv_iload_n hx hb dX10_digest_84 rfl (lv_at hl 0 rfl) ?_
      refine lv_iconst (v := 2) hx hb dX10_digest_85 (by decide) ?_
      refine lv_icmp_ge (tgt := 143) hx hb dX10_digest_86 (by decide) (fun c_86 => absurd c_86 (by decide)) (fun c_86 => ?_)
      refine lv_ldc2 hx hb hown (hts (.constantLong RX10 231 (31)) (by decide +kernel)) dX10_digest_89 ?_
      refine lv_lload_n hx hb dX10_digest_92 rfl (lv_at hl 2 rfl) ?_
      refine lv_lmul hx hb dX10_digest_93 ?_
      refine lv_aload_n hx hb dX10_digest_94 rfl (lv_at hl 1 rfl) ?_
      refine va_get (D := D) (ci := 10) (v := .ref qx) (C := RX10) (T := TX10) (N := 40) hx hb hts iX10 hown hK hP 0 rfl rfl 31 (by decide) (hts (.fieldLink RX10 47 "DeepHoleModel" "xs" "[I") (by decide +kernel)) (fun _ h9 => h9) rfl dX10_digest_95 ?_
      refine lv_bipush (v := 41) hx hb dX10_digest_98 (by decide) ?_
      refine lv_iload_n hx hb dX10_digest_100 rfl (lv_at hl 0 rfl) ?_
      refine lv_imul hx hb dX10_digest_101 ?_
      refine lv_eqi (z := nI (41 * 0)) (pk_mul _ _) ?_
      refine lv_aload_n hx hb dX10_digest_102 rfl (lv_at hl 1 rfl) ?_
      refine va_get (D := D) (ci := 10) (v := .ref qt) (C := RX10) (T := TX10) (N := 40) hx hb hts iX10 hown hK hP 0 rfl rfl 30 (by decide) (hts (.fieldLink RX10 44 "DeepHoleModel" "stations" "[I") (by decide +kernel)) (fun _ h9 => h9) rfl dX10_digest_103 ?_
      refine lv_iload_n hx hb dX10_digest_106 rfl (lv_at hl 0 rfl) ?_
      refine rd_i hx hb hK hP 1 0 rfl rfl (k := 0) (by omega) (by decide) dX10_digest_107 ?_
      refine lv_eqi (z := nI na) (hs0) ?_
      refine lv_iadd hx hb dX10_digest_108 ?_
      refine lv_eqi (z := nI ((41 * 0) + na)) (nI_add _ _) ?_
      refine rd_i hx hb hK hP 2 0 rfl rfl (k := (41 * 0) + na) (by omega) (by decide) dX10_digest_109 ?_
      refine lv_eqi (z := xs na) (by simpa using hx0 na (Nat.le_refl na)) ?_
      refine lv_i2l (v := (xs na).toInt64) hx hb dX10_digest_110 rfl ?_
      refine lv_ladd hx hb dX10_digest_111 ?_
      refine lv_lstore_n (lv' := [(1, .long ((31 * h) + ((xs na).toInt64))), (3, .int 0), (0, .ref m0)]) hx hb dX10_digest_112 rfl hl (by decide) rfl (fun ls hl => ?_)
      refine lv_ldc2 hx hb hown (hts (.constantLong RX10 231 (31)) (by decide +kernel)) dX10_digest_113 ?_
      refine lv_lload_n hx hb dX10_digest_116 rfl (lv_at hl 0 rfl) ?_
      refine lv_lmul hx hb dX10_digest_117 ?_
      refine lv_aload_n hx hb dX10_digest_118 rfl (lv_at hl 2 rfl) ?_
      refine va_get (D := D) (ci := 10) (v := .ref qy) (C := RX10) (T := TX10) (N := 40) hx hb hts iX10 hown hK hP 0 rfl rfl 32 (by decide) (hts (.fieldLink RX10 50 "DeepHoleModel" "ys" "[I") (by decide +kernel)) (fun _ h9 => h9) rfl dX10_digest_119 ?_
      refine lv_bipush (v := 41) hx hb dX10_digest_122 (by decide) ?_
      refine lv_iload_n hx hb dX10_digest_124 rfl (lv_at hl 1 rfl) ?_
      refine lv_imul hx hb dX10_digest_125 ?_
      refine lv_eqi (z := nI (41 * 0)) (pk_mul _ _) ?_
      refine lv_aload_n hx hb dX10_digest_126 rfl (lv_at hl 2 rfl) ?_
      refine va_get (D := D) (ci := 10) (v := .ref qt) (C := RX10) (T := TX10) (N := 40) hx hb hts iX10 hown hK hP 0 rfl rfl 30 (by decide) (hts (.fieldLink RX10 44 "DeepHoleModel" "stations" "[I") (by decide +kernel)) (fun _ h9 => h9) rfl dX10_digest_127 ?_
      refine lv_iload_n hx hb dX10_digest_130 rfl (lv_at hl 1 rfl) ?_
      refine rd_i hx hb hK hP 1 0 rfl rfl (k := 0) (by omega) (by decide) dX10_digest_131 ?_
      refine lv_eqi (z := nI na) (hs0) ?_
      refine lv_iadd hx hb dX10_digest_132 ?_
      refine lv_eqi (z := nI ((41 * 0) + na)) (nI_add _ _) ?_
      refine rd_i hx hb hK hP 3 0 rfl rfl (k := (41 * 0) + na) (by omega) (by decide) dX10_digest_133 ?_
      refine lv_eqi (z := ys na) (by simpa using hy0 na (Nat.le_refl na)) ?_
      refine lv_i2l (v := (ys na).toInt64) hx hb dX10_digest_134 rfl ?_
      refine lv_ladd hx hb dX10_digest_135 ?_
      refine lv_lstore_n (lv' := [(1, .long ((31 * ((31 * h) + ((xs na).toInt64))) + ((ys na).toInt64))), (3, .int 0), (0, .ref m0)]) hx hb dX10_digest_136 rfl hl (by decide) rfl (fun ls hl => ?_)
      refine lv_iinc (v := 1) (lv' := [(3, .int 1), (1, .long ((31 * ((31 * h) + ((xs na).toInt64))) + ((ys na).toInt64))), (0, .ref m0)]) hx hb dX10_digest_137 hl (k := 1) rfl (by decide) (by decide) rfl (fun ls hl => ?_)
      refine lv_goto (tgt := 84) hx hb dX10_digest_140 (by decide) ?_
      refine lv_iload_n hx hb dX10_digest_84 rfl (lv_at hl 0 rfl) ?_
      refine lv_iconst (v := 2) hx hb dX10_digest_85 (by decide) ?_
      refine lv_icmp_ge (tgt := 143) hx hb dX10_digest_86 (by decide) (fun c_86 => absurd c_86 (by decide)) (fun c_86 => ?_)
      refine lv_ldc2 hx hb hown (hts (.constantLong RX10 231 (31)) (by decide +kernel)) dX10_digest_89 ?_
      refine lv_lload_n hx hb dX10_digest_92 rfl (lv_at hl 1 rfl) ?_
      refine lv_lmul hx hb dX10_digest_93 ?_
      refine lv_aload_n hx hb dX10_digest_94 rfl (lv_at hl 2 rfl) ?_
      refine va_get (D := D) (ci := 10) (v := .ref qx) (C := RX10) (T := TX10) (N := 40) hx hb hts iX10 hown hK hP 0 rfl rfl 31 (by decide) (hts (.fieldLink RX10 47 "DeepHoleModel" "xs" "[I") (by decide +kernel)) (fun _ h9 => h9) rfl dX10_digest_95 ?_
      refine lv_bipush (v := 41) hx hb dX10_digest_98 (by decide) ?_
      refine lv_iload_n hx hb dX10_digest_100 rfl (lv_at hl 0 rfl) ?_
      refine lv_imul hx hb dX10_digest_101 ?_
      refine lv_eqi (z := nI (41 * 1)) (pk_mul _ _) ?_
      refine lv_aload_n hx hb dX10_digest_102 rfl (lv_at hl 2 rfl) ?_
      refine va_get (D := D) (ci := 10) (v := .ref qt) (C := RX10) (T := TX10) (N := 40) hx hb hts iX10 hown hK hP 0 rfl rfl 30 (by decide) (hts (.fieldLink RX10 44 "DeepHoleModel" "stations" "[I") (by decide +kernel)) (fun _ h9 => h9) rfl dX10_digest_103 ?_
      refine lv_iload_n hx hb dX10_digest_106 rfl (lv_at hl 0 rfl) ?_
      refine rd_i hx hb hK hP 1 0 rfl rfl (k := 1) (by omega) (by decide) dX10_digest_107 ?_
      refine lv_eqi (z := nI nq) (hs1) ?_
      refine lv_iadd hx hb dX10_digest_108 ?_
      refine lv_eqi (z := nI ((41 * 1) + nq)) (nI_add _ _) ?_
      refine rd_i hx hb hK hP 2 0 rfl rfl (k := (41 * 1) + nq) (by omega) (by decide) dX10_digest_109 ?_
      refine lv_eqi (z := xt nq) (by simpa using hx1 nq (Nat.le_refl nq)) ?_
      refine lv_i2l (v := (xt nq).toInt64) hx hb dX10_digest_110 rfl ?_
      refine lv_ladd hx hb dX10_digest_111 ?_
      refine lv_lstore_n (lv' := [(1, .long ((31 * ((31 * ((31 * h) + ((xs na).toInt64))) + ((ys na).toInt64))) + ((xt nq).toInt64))), (3, .int 1), (0, .ref m0)]) hx hb dX10_digest_112 rfl hl (by decide) rfl (fun ls hl => ?_)
      refine lv_ldc2 hx hb hown (hts (.constantLong RX10 231 (31)) (by decide +kernel)) dX10_digest_113 ?_
      refine lv_lload_n hx hb dX10_digest_116 rfl (lv_at hl 0 rfl) ?_
      refine lv_lmul hx hb dX10_digest_117 ?_
      refine lv_aload_n hx hb dX10_digest_118 rfl (lv_at hl 2 rfl) ?_
      refine va_get (D := D) (ci := 10) (v := .ref qy) (C := RX10) (T := TX10) (N := 40) hx hb hts iX10 hown hK hP 0 rfl rfl 32 (by decide) (hts (.fieldLink RX10 50 "DeepHoleModel" "ys" "[I") (by decide +kernel)) (fun _ h9 => h9) rfl dX10_digest_119 ?_
      refine lv_bipush (v := 41) hx hb dX10_digest_122 (by decide) ?_
      refine lv_iload_n hx hb dX10_digest_124 rfl (lv_at hl 1 rfl) ?_
      refine lv_imul hx hb dX10_digest_125 ?_
      refine lv_eqi (z := nI (41 * 1)) (pk_mul _ _) ?_
      refine lv_aload_n hx hb dX10_digest_126 rfl (lv_at hl 2 rfl) ?_
      refine va_get (D := D) (ci := 10) (v := .ref qt) (C := RX10) (T := TX10) (N := 40) hx hb hts iX10 hown hK hP 0 rfl rfl 30 (by decide) (hts (.fieldLink RX10 44 "DeepHoleModel" "stations" "[I") (by decide +kernel)) (fun _ h9 => h9) rfl dX10_digest_127 ?_
      refine lv_iload_n hx hb dX10_digest_130 rfl (lv_at hl 1 rfl) ?_
      refine rd_i hx hb hK hP 1 0 rfl rfl (k := 1) (by omega) (by decide) dX10_digest_131 ?_
      refine lv_eqi (z := nI nq) (hs1) ?_
      refine lv_iadd hx hb dX10_digest_132 ?_
      refine lv_eqi (z := nI ((41 * 1) + nq)) (nI_add _ _) ?_
      refine rd_i hx hb hK hP 3 0 rfl rfl (k := (41 * 1) + nq) (by omega) (by decide) dX10_digest_133 ?_
      refine lv_eqi (z := yt nq) (by simpa using hy1 nq (Nat.le_refl nq)) ?_
      refine lv_i2l (v := (yt nq).toInt64) hx hb dX10_digest_134 rfl ?_
      refine lv_ladd hx hb dX10_digest_135 ?_
      refine lv_lstore_n (lv' := [(1, .long ((31 * ((31 * ((31 * ((31 * h) + ((xs na).toInt64))) + ((ys na).toInt64))) + ((xt nq).toInt64))) + ((yt nq).toInt64))), (3, .int 1), (0, .ref m0)]) hx hb dX10_digest_136 rfl hl (by decide) rfl (fun ls hl => ?_)
      refine lv_iinc (v := 2) (lv' := [(3, .int 2), (1, .long ((31 * ((31 * ((31 * ((31 * h) + ((xs na).toInt64))) + ((ys na).toInt64))) + ((xt nq).toInt64))) + ((yt nq).toInt64))), (0, .ref m0)]) hx hb dX10_digest_137 hl (k := 1) rfl (by decide) (by decide) rfl (fun ls hl => ?_)
      refine lv_goto (tgt := 84) hx hb dX10_digest_140 (by decide) ?_
      refine lv_iload_n hx hb dX10_digest_84 rfl (lv_at hl 0 rfl) ?_
      refine lv_iconst (v := 2) hx hb dX10_digest_85 (by decide) ?_
      refine lv_icmp_ge (tgt := 143) hx hb dX10_digest_86 (by decide) (fun c_86 => ?_) (fun c_86 => absurd c_86 (by decide))
      refine lv_lload_n hx hb dX10_digest_143 rfl (lv_at hl 1 rfl) ?_
      exact W.lret (v := (31 * ((31 * ((31 * ((31 * h) + ((xs na).toInt64))) + ((ys na).toInt64))) + ((xt nq).toInt64))) + ((yt nq).toInt64)) hx hb hr (fun t ht hW => ⟨_, rfl, (by unfold dgF; rw [hd2, show 50 - k = 0 by omega]; rfl), ht⟩) (fun _ h => absurd h List.not_mem_nil) dX10_digest_144
    ·
      have c_45 := n_nge (a := k) (b := 50) c_45 (by omega) (by omega)
      refine lv_ldc2 hx hb hown (hts (.constantLong RX10 231 (31)) (by decide +kernel)) dX10_digest_48 ?_
      refine lv_lload_n hx hb dX10_digest_51 rfl (lv_at hl 1 rfl) ?_
      refine lv_lmul hx hb dX10_digest_52 ?_
      refine lv_aload_n hx hb dX10_digest_53 rfl (lv_at hl 0 rfl) ?_
      refine lv_iconst (v := 0) hx hb dX10_digest_54 (by decide) ?_
      refine lv_iload_n hx hb dX10_digest_55 rfl (lv_at hl 2 rfl) ?_
      refine q_V (wc := [(m0, .inr (10, [.ref qk, .int (nI d), .int (nI sh), .int (nI low), .int (nI high), .int le, .int mo, .int (nI nb), .ref qp, .ref qr, .ref qc, .ref qm, .ref qb, .int (nI cap), .int kd, .int am, .int wt, .int md, .long z1, .long z2, .long z3, .long z4, .long z5, .int (nI sw), .int (nI np), .ref qf, .ref qs, .int (nI fe), .int (nI te), .int (nI kk), .ref qt, .ref qx, .ref qy, .int no, .int nt, .ref qo, .ref qz, .ref qi, .ref qv, .int fd])), (qo, .inl (cI, 4, .inl fmf)), (qz, .inl (cI, 4, .inl szf)), (qi, .inl (cI, 240, .inl imf))]) (b := m0) ⟨hx, hb, hml, hown, hts⟩ [.int (nI 0), .int (nI k)] [.long (31 * h)] (c_X10_groundOf (it := it0) (n := n0) (by first | assumption | omega) (by first | assumption | omega) (hn0) (hG0)) (cwV 2 hts gX10_digest_X10_groundOf rfl rfl rfl (by decide +kernel) ⟨Nat.le_of_ble_eq_true rfl, Nat.le_of_ble_eq_true rfl⟩) hK hN hP hD [0, 4, 5, 6] rfl (by decide) (ci := 10) rfl rfl rfl rfl hl.1 rfl (Nat.le_of_ble_eq_true rfl) dX10_digest_56 ⟨Nat.zero_le _, Nat.zero_le _⟩ (fun r hw => ?_)
      subst hw
      refine lv_eqi (z := nI (po it0 n0 k)) (rfl) ?_
      refine lv_i2l (v := (nI (po it0 n0 k)).toInt64) hx hb dX10_digest_59 rfl ?_
      refine lv_ladd hx hb dX10_digest_60 ?_
      refine lv_lstore_n (lv' := [(1, .long ((31 * h) + ((nI (po it0 n0 k)).toInt64))), (0, .ref m0), (3, .int (nI k))]) hx hb dX10_digest_61 rfl hl (by decide) rfl (fun ls hl => ?_)
      refine lv_ldc2 hx hb hown (hts (.constantLong RX10 231 (31)) (by decide +kernel)) dX10_digest_62 ?_
      refine lv_lload_n hx hb dX10_digest_65 rfl (lv_at hl 0 rfl) ?_
      refine lv_lmul hx hb dX10_digest_66 ?_
      refine lv_aload_n hx hb dX10_digest_67 rfl (lv_at hl 1 rfl) ?_
      refine lv_iconst (v := 1) hx hb dX10_digest_68 (by decide) ?_
      refine lv_iload_n hx hb dX10_digest_69 rfl (lv_at hl 2 rfl) ?_
      refine q_V (wc := [(m0, .inr (10, [.ref qk, .int (nI d), .int (nI sh), .int (nI low), .int (nI high), .int le, .int mo, .int (nI nb), .ref qp, .ref qr, .ref qc, .ref qm, .ref qb, .int (nI cap), .int kd, .int am, .int wt, .int md, .long z1, .long z2, .long z3, .long z4, .long z5, .int (nI sw), .int (nI np), .ref qf, .ref qs, .int (nI fe), .int (nI te), .int (nI kk), .ref qt, .ref qx, .ref qy, .int no, .int nt, .ref qo, .ref qz, .ref qi, .ref qv, .int fd])), (qo, .inl (cI, 4, .inl fmf)), (qz, .inl (cI, 4, .inl szf)), (qi, .inl (cI, 240, .inl imf))]) (b := m0) ⟨hx, hb, hml, hown, hts⟩ [.int (nI 1), .int (nI k)] [.long (31 * ((31 * h) + ((nI (po it0 n0 k)).toInt64)))] (c_X10_groundOf (it := it1) (n := n1) (by first | assumption | omega) (by first | assumption | omega) (hn1) (hG1)) (cwV 2 hts gX10_digest_X10_groundOf rfl rfl rfl (by decide +kernel) ⟨Nat.le_of_ble_eq_true rfl, Nat.le_of_ble_eq_true rfl⟩) hK hN hP hD [0, 4, 5, 6] rfl (by decide) (ci := 10) rfl rfl rfl rfl hl.1 rfl (Nat.le_of_ble_eq_true rfl) dX10_digest_70 ⟨Nat.zero_le _, Nat.zero_le _⟩ (fun r hw => ?_)
      subst hw
      refine lv_eqi (z := nI (fr it1 n1 k)) (rfl) ?_
      refine lv_i2l (v := (nI (fr it1 n1 k)).toInt64) hx hb dX10_digest_73 rfl ?_
      refine lv_ladd hx hb dX10_digest_74 ?_
      refine lv_lstore_n (lv' := [(1, .long ((31 * ((31 * h) + ((nI (po it0 n0 k)).toInt64))) + ((nI (fr it1 n1 k)).toInt64))), (0, .ref m0), (3, .int (nI k))]) hx hb dX10_digest_75 rfl hl (by decide) rfl (fun ls hl => ?_)
      refine lv_iinc (v := nI (k + 1)) (lv' := [(3, .int (nI (k + 1))), (1, .long ((31 * ((31 * h) + ((nI (po it0 n0 k)).toInt64))) + ((nI (fr it1 n1 k)).toInt64))), (0, .ref m0)]) hx hb dX10_digest_76 hl (k := 2) rfl (nI_1 _) (by decide) rfl (fun ls hl => ?_)
      refine lv_goto (tgt := 42) hx hb dX10_digest_79 (by decide) ?_
      exact ih_42 _ _ (by omega) ⟨k + 1, (31 * ((31 * h) + ((nI (po it0 n0 k)).toInt64))) + ((nI (fr it1 n1 k)).toInt64), rfl, (by omega), (by rw [hd2, dg2_step (by omega), Nat.sub_sub]), lv_sub hl [2, 1, 0] rfl⟩
  ·
    have c_9 := n_nge (a := k) (b := 8) c_9 (by omega) (by omega)
    refine lv_iload_n hx hb dX10_digest_12 rfl (lv_at hl 2 rfl) ?_
    refine lv_iconst (v := 5) hx hb dX10_digest_13 (by decide) ?_
    refine cut_v (ls := ls) (rest := []) 33 (.long (if k = 5 then h else 31 * h + (aCount d sh nb np na nq fd low high (nI k)).toInt64)) ?_ (fun K_14 => ?_)
    ·
      refine lv_lstore_n (lv' := [(1, .long (if k = 5 then h else 31 * h + (aCount d sh nb np na nq fd low high (nI k)).toInt64)), (0, .ref m0), (3, .int (nI k))]) hx hb dX10_digest_33 rfl hl (by decide) rfl (fun ls hl => ?_)
      refine lv_iinc (v := nI (k + 1)) (lv' := [(3, .int (nI (k + 1))), (1, .long (if k = 5 then h else 31 * h + (aCount d sh nb np na nq fd low high (nI k)).toInt64)), (0, .ref m0)]) hx hb dX10_digest_34 hl (k := 2) rfl (nI_1 _) (by decide) rfl (fun ls hl => ?_)
      refine lv_goto (tgt := 6) hx hb dX10_digest_37 (by decide) ?_
      exact ih_6 _ _ (by omega) ⟨k + 1, (if k = 5 then h else 31 * h + (aCount d sh nb np na nq fd low high (nI k)).toInt64), rfl, (by omega), (by rw [hd1, dg1_step (by omega), Nat.sub_sub]), lv_sub hl [2, 1, 0] rfl⟩
    ·
      refine lv_icmp_ne (tgt := 21) hx hb dX10_digest_14 (by decide) (fun c_14 => ?_) (fun c_14 => ?_)
      ·
        have c_14 := n_ne (a := k) (b := 5) c_14 (by omega) (by omega)
        refine lv_ldc2 hx hb hown (hts (.constantLong RX10 231 (31)) (by decide +kernel)) dX10_digest_21 ?_
        refine lv_lload_n hx hb dX10_digest_24 rfl (lv_at hl 1 rfl) ?_
        refine lv_lmul hx hb dX10_digest_25 ?_
        refine lv_aload_n hx hb dX10_digest_26 rfl (lv_at hl 0 rfl) ?_
        refine lv_iload_n hx hb dX10_digest_27 rfl (lv_at hl 2 rfl) ?_
        refine q_V (wc := [(m0, .inr (10, [.ref qk, .int (nI d), .int (nI sh), .int (nI low), .int (nI high), .int le, .int mo, .int (nI nb), .ref qp, .ref qr, .ref qc, .ref qm, .ref qb, .int (nI cap), .int kd, .int am, .int wt, .int md, .long z1, .long z2, .long z3, .long z4, .long z5, .int (nI sw), .int (nI np), .ref qf, .ref qs, .int (nI fe), .int (nI te), .int (nI kk), .ref qt, .ref qx, .ref qy, .int no, .int nt, .ref qo, .ref qz, .ref qi, .ref qv, .int fd])), (qt, .inl (cI, 2, .inl stf))]) (b := m0) ⟨hx, hb, hml, hown, hts⟩ [.int (nI k)] [.long (31 * h)] (c_X10_count (na := na) (nq := nq) (hs0) (hs1)) (cwV 1 hts gX10_digest_X10_count rfl rfl rfl (by decide +kernel) ⟨Nat.le_of_ble_eq_true rfl, Nat.le_of_ble_eq_true rfl⟩) hK hN hP hD [0, 1] rfl (by decide) (ci := 10) rfl rfl rfl rfl hl.1 rfl (Nat.le_of_ble_eq_true rfl) dX10_digest_28 ⟨Nat.zero_le _, Nat.zero_le _⟩ (fun r hw => ?_)
        subst hw
        refine lv_i2l (v := (aCount d sh nb np na nq fd low high (nI k)).toInt64) hx hb dX10_digest_31 rfl ?_
        refine lv_ladd hx hb dX10_digest_32 ?_
        exact lv_eql (by first | rw [if_pos c_14] | rw [if_neg c_14]) K_14
      ·
        have c_14 := n_eq (a := k) (b := 5) c_14 (by omega) (by omega)
        refine lv_lload_n hx hb dX10_digest_17 rfl (lv_at hl 1 rfl) ?_
        refine lv_goto (tgt := 33) hx hb dX10_digest_18 (by decide) ?_
        exact lv_eql (by first | rw [if_pos c_14] | rw [if_neg c_14]) K_14
