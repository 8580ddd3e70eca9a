set_option maxHeartbeats 4000000 in
set_option maxRecDepth 100000 in
theorem c_X9_copy_s {l : Launch} {D : va_G} {cI cS cP : ClassId} {sz : Nat} {x0 g0 w0 k0 la tr u0 pt ap sp : Nat} {fd : Int32} {sx : Nat} {sxf : Nat → Option Nat} {h0 a0 n : Nat} {lo fo : Int32} {it : Nat → Int32} {k : Nat} {i1 j1 k1 : Int32} (hk : k < 4) (hsx : sxf k = some h0) (hn : n ≤ 60) : Met l yX9_copy wsX9_copy ({ frames := 2, cells := 0, slots := 0, locals := 60 }) (PC D (TY cI cS cP) [.ref x0, .int (nI k), .int i1, .int (nI k), .int j1, .int k1] sz [(x0, .inr (9, [.ref sx, .ref g0, .ref w0, .ref k0, .ref la, .ref tr, .ref u0, .ref pt, .ref ap, .ref sp, .int fd])), (sx, .inl (cS, 4, .inr (.inr (.inr (.inr sxf))))), (h0, .inr (6, [.ref a0, .int lo, .int fo, .int (nI n)])), (a0, .inl (cI, 60, .inl it))]) (QI D (fun (r : Int32) (u : Int32 × (Nat → Int32)) => (r = aCopy (wrongC lo fo lo fo n n i1 j1 k1)) ∧ u = sCopy (wrongC lo fo lo fo n n i1 j1 k1) fd it it i1 j1 k1) (fun (u : Int32 × (Nat → Int32)) => [(x0, .inr (9, [.ref sx, .ref g0, .ref w0, .ref k0, .ref la, .ref tr, .ref u0, .ref pt, .ref ap, .ref sp, .int u.1])), (sx, .inl (cS, 4, .inr (.inr (.inr (.inr sxf))))), (h0, .inr (6, [.ref a0, .int lo, .int fo, .int (nI n)])), (a0, .inl (cI, 60, .inl u.2))]) (va_A [(x0, .inr (9, [.ref sx, .ref g0, .ref w0, .ref k0, .ref la, .ref tr, .ref u0, .ref pt, .ref ap, .ref sp, .int fd])), (sx, .inl (cS, 4, .inr (.inr (.inr (.inr sxf))))), (h0, .inr (6, [.ref a0, .int lo, .int fo, .int (nI n)])), (a0, .inl (cI, 60, .inl it))] sz)) 0 0 (va_A [(x0, .inr (9, [.ref sx, .ref g0, .ref w0, .ref k0, .ref la, .ref tr, .ref u0, .ref pt, .ref ap, .ref sp, .int fd])), (sx, .inl (cS, 4, .inr (.inr (.inr (.inr sxf))))), (h0, .inr (6, [.ref a0, .int lo, .int fo, .int (nI n)])), (a0, .inl (cI, 60, .inl it))] sz) := by
  refine Met.ofW (cc := cX9_copy) (maxL := 8) (ret := (some .int)) (by decide) rfl ?_
  intro p e s m args below meth c s₁ B hml hv
  obtain ⟨rfl, hsz, hP, hK, hD0, hN⟩ := hv
  have hx := B.exec
  have hb := B.bytes
  have hr := B.returns
  have hts := atoms_spec (ws := wsX9_copy) B.pre
  have hown : s.vm.findClass RX9 = some m.cls := findClass_of_methodNamed B.named
  have hlocks := B.notSynchronized
  subst hsz
  have iX6 : ∀ w ∈ u_ws RX6 TX6 4, w ∈ wsX9_copy := by decide +kernel
  have iX9 : ∀ w ∈ u_ws RX9 TX9 11, w ∈ wsX9_copy := by decide +kernel
  have hD := hD0.self (sz := s.heap.size)
  generalize hAe : va_A [(x0, .inr (9, [.ref sx, .ref g0, .ref w0, .ref k0, .ref la, .ref tr, .ref u0, .ref pt, .ref ap, .ref sp, .int fd])), (sx, .inl (cS, 4, .inr (.inr (.inr (.inr sxf))))), (h0, .inr (6, [.ref a0, .int lo, .int fo, .int (nI n)])), (a0, .inl (cI, 60, .inl it))] s.heap.size = A at hD ⊢
  have hA : ∀ q : Nat, s.heap.size ≤ q → A q := fun q h => by rw [← hAe]; exact Or.inr h
  have hS : va_S A s.heap s.heap [] := va_S.rf
  have hP : va_P D vwCl [(x0, .inr (9, [.ref sx, .ref g0, .ref w0, .ref k0, .ref la, .ref tr, .ref u0, .ref pt, .ref ap, .ref sp, .int fd])), (sx, .inl (cS, 4, .inr (.inr (.inr (.inr sxf))))), (h0, .inr (6, [.ref a0, .int lo, .int fo, .int (nI n)])), (a0, .inl (cI, 60, .inl it))] s.heap := hP
  have hl := lv_entry ([.ref x0, .int (nI k), .int i1, .int (nI k), .int j1, .int k1]) (n := 8) (Nat.le_of_ble_eq_true rfl)
  rw [lg_entry_eq]
  generalize (lg_sl ([.ref x0, .int (nI k), .int i1, .int (nI k), .int j1, .int k1]) ++ List.replicate (8 - (lg_sl ([.ref x0, .int (nI k), .int i1, .int (nI k), .int j1, .int k1])).length) Slot.unset).toArray = ls at hl ⊢
  have hl : lv_has ls 8 [(0, .ref x0), (1, .int (nI k)), (2, .int i1), (3, .int (nI k)), (4, .int j1), (5, .int k1)] := hl
  refine lv_iload_n hx hb dX9_copy_0 rfl (lv_at hl 1 rfl) ?_
  refine q_S (tys := TY cI cS cP) (D := D) ⟨hx, hb, hml, hown, hts⟩ [.int (nI k)] [] c_X9_isSheet (va_cwS 1 hts gX9_copy_X9_isSheet rfl rfl rfl (by decide +kernel) ⟨Nat.le_of_ble_eq_true rfl, Nat.le_of_ble_eq_true rfl⟩) hK hN rfl hl.1 rfl (Nat.le_of_ble_eq_true rfl) dX9_copy_1 ⟨Nat.zero_le _, Nat.zero_le _⟩ (fun r hw => ?_)
  subst hw
  refine lv_if_eq (tgt := 14) hx hb dX9_copy_4 (by decide) (fun c_4 => ?_) (fun c_4 => ?_)
  ·
    have c_4 := bz c_4
    exact absurd (show (0 : Int32) ≤ nI k ∧ nI k ≤ 3 from ⟨nI_pos' (by omega), nI_le (b := 3) (by omega) (by decide)⟩) c_4
  ·
    have c_4 := bnz c_4
    refine lv_iload_n hx hb dX9_copy_7 rfl (lv_at hl 3 rfl) ?_
    refine q_S (tys := TY cI cS cP) (D := D) ⟨hx, hb, hml, hown, hts⟩ [.int (nI k)] [] c_X9_isSheet (va_cwS 1 hts gX9_copy_X9_isSheet rfl rfl rfl (by decide +kernel) ⟨Nat.le_of_ble_eq_true rfl, Nat.le_of_ble_eq_true rfl⟩) hK hN rfl hl.1 rfl (Nat.le_of_ble_eq_true rfl) dX9_copy_8 ⟨Nat.zero_le _, Nat.zero_le _⟩ (fun r hw => ?_)
    subst hw
    refine lv_if_ne (tgt := 17) hx hb dX9_copy_11 (by decide) (fun c_11 => ?_) (fun c_11 => ?_)
    ·
      have c_11 := bnz c_11
      refine lv_aload_n hx hb dX9_copy_17 rfl (lv_at hl 0 rfl) ?_
      refine va_get (D := D) (ci := 9) (v := .ref sx) (C := RX9) (T := TX9) (N := 11) hx hb hts iX9 hown hK hP 0 rfl rfl 0 (by decide) (hts (.fieldLink RX9 11 "DeepHole" "sheets" "[LDeepHole$Sheet;") (by decide +kernel)) (fun _ h9 => h9) rfl dX9_copy_18 ?_
      refine lv_iload_n hx hb dX9_copy_21 rfl (lv_at hl 1 rfl) ?_
      refine rd_q hx hb hK hP 1 1 rfl rfl (k := k) (by omega) (by decide) (hsx) dX9_copy_22 ?_
      refine lv_astore (lv' := [(6, .ref h0), (0, .ref x0), (1, .int (nI k)), (2, .int i1), (3, .int (nI k)), (4, .int j1), (5, .int k1)]) hx hb dX9_copy_23 hl (by decide) rfl (fun ls hl => ?_)
      refine lv_aload_n hx hb dX9_copy_25 rfl (lv_at hl 1 rfl) ?_
      refine va_get (D := D) (ci := 9) (v := .ref sx) (C := RX9) (T := TX9) (N := 11) hx hb hts iX9 hown hK hP 0 rfl rfl 0 (by decide) (hts (.fieldLink RX9 11 "DeepHole" "sheets" "[LDeepHole$Sheet;") (by decide +kernel)) (fun _ h9 => h9) rfl dX9_copy_26 ?_
      refine lv_iload_n hx hb dX9_copy_29 rfl (lv_at hl 4 rfl) ?_
      refine rd_q hx hb hK hP 1 1 rfl rfl (k := k) (by omega) (by decide) (hsx) dX9_copy_30 ?_
      refine lv_astore (lv' := [(7, .ref h0), (6, .ref h0), (0, .ref x0), (1, .int (nI k)), (2, .int i1), (3, .int (nI k)), (4, .int j1), (5, .int k1)]) hx hb dX9_copy_31 hl (by decide) rfl (fun ls hl => ?_)
      refine lv_aload hx hb dX9_copy_33 (lv_at hl 1 rfl) ?_
      refine va_get (D := D) (ci := 6) (v := .int lo) (C := RX6) (T := TX6) (N := 4) hx hb hts iX6 hown hK hP 2 rfl rfl 1 (by decide) (hts (.fieldLink RX9 277 "DeepHole$Sheet" "lost" "Z") (by decide +kernel)) (fun _ h9 => h9) rfl dX9_copy_35 ?_
      refine lv_if_ne (tgt := 49) hx hb dX9_copy_38 (by decide) (fun c_38 => ?_) (fun c_38 => ?_)
      ·
        refine lv_aload_n hx hb dX9_copy_49 rfl (lv_at hl 2 rfl) ?_
        refine lv_iconst (v := 1) hx hb dX9_copy_50 (by decide) ?_
        refine w_V (wc := [(x0, .inr (9, [.ref sx, .ref g0, .ref w0, .ref k0, .ref la, .ref tr, .ref u0, .ref pt, .ref ap, .ref sp, .int fd]))]) (wr := [(sx, .inl (cS, 4, .inr (.inr (.inr (.inr sxf))))), (h0, .inr (6, [.ref a0, .int lo, .int fo, .int (nI n)])), (a0, .inl (cI, 60, .inl it))]) (b := x0) ⟨hx, hb, hml, hown, hts⟩ [.int (1 : Int32)] [] c_X9_found (cwV 1 hts gX9_copy_X9_found rfl rfl rfl (by decide +kernel) ⟨Nat.le_of_ble_eq_true rfl, Nat.le_of_ble_eq_true rfl⟩) hK hN hP hD hS hA [0] [1, 2, 3] rfl (by decide) rfl (by decide) (by decide) (ci := 9) rfl rfl rfl rfl hl.1 rfl (Nat.le_of_ble_eq_true rfl) dX9_copy_51 ⟨Nat.zero_le _, Nat.zero_le _⟩ (fun r u H locs hw hP hD hS => ?_)
        have hP : va_P D vwCl [(sx, .inl (cS, 4, .inr (.inr (.inr (.inr sxf))))), (h0, .inr (6, [.ref a0, .int lo, .int fo, .int (nI n)])), (a0, .inl (cI, 60, .inl it)), (x0, .inr (9, [.ref sx, .ref g0, .ref w0, .ref k0, .ref la, .ref tr, .ref u0, .ref pt, .ref ap, .ref sp, .int (1 : Int32)]))] H := hP
        have hD : va_D A [(sx, .inl (cS, 4, .inr (.inr (.inr (.inr sxf))))), (h0, .inr (6, [.ref a0, .int lo, .int fo, .int (nI n)])), (a0, .inl (cI, 60, .inl it)), (x0, .inr (9, [.ref sx, .ref g0, .ref w0, .ref k0, .ref la, .ref tr, .ref u0, .ref pt, .ref ap, .ref sp, .int (1 : Int32)]))] := hD
        subst hw
        have hP9 := hP.sub (ws' := [(x0, .inr (9, [.ref sx, .ref g0, .ref w0, .ref k0, .ref la, .ref tr, .ref u0, .ref pt, .ref ap, .ref sp, .int (1 : Int32)])), (sx, .inl (cS, 4, .inr (.inr (.inr (.inr sxf))))), (h0, .inr (6, [.ref a0, .int lo, .int fo, .int (nI n)])), (a0, .inl (cI, 60, .inl it))]) [3, 0, 1, 2] rfl
        have hD9 := hD.sub (ws' := [(x0, .inr (9, [.ref sx, .ref g0, .ref w0, .ref k0, .ref la, .ref tr, .ref u0, .ref pt, .ref ap, .ref sp, .int (1 : Int32)])), (sx, .inl (cS, 4, .inr (.inr (.inr (.inr sxf))))), (h0, .inr (6, [.ref a0, .int lo, .int fo, .int (nI n)])), (a0, .inl (cI, 60, .inl it))]) [3, 0, 1, 2] (by decide) rfl
        exact W.iret (v := -10 - (1 : Int32)) hx hb hr (fun t ht hW => ⟨⟨_, (1, it), rfl, (by have hC9 : wrongC lo fo lo fo n n i1 j1 k1 = 1 := (by unfold wrongC; rw [if_pos (show ¬ lo = 0 ∨ ¬ lo = 0 from Or.inl c_38)]); rw [hC9]; exact ⟨rfl, rfl⟩), by rw [ht]; exact hP9, hD9⟩, hS.F ht⟩) hS.2.2 dX9_copy_54
      ·
        refine lv_aload hx hb dX9_copy_41 (lv_at hl 0 rfl) ?_
        refine va_get (D := D) (ci := 6) (v := .int lo) (C := RX6) (T := TX6) (N := 4) hx hb hts iX6 hown hK hP 2 rfl rfl 1 (by decide) (hts (.fieldLink RX9 277 "DeepHole$Sheet" "lost" "Z") (by decide +kernel)) (fun _ h9 => h9) rfl dX9_copy_43 ?_
        refine lv_if_eq (tgt := 55) hx hb dX9_copy_46 (by decide) (fun c_46 => ?_) (fun c_46 => ?_)
        ·
          refine lv_aload hx hb dX9_copy_55 (lv_at hl 1 rfl) ?_
          refine va_get (D := D) (ci := 6) (v := .int fo) (C := RX6) (T := TX6) (N := 4) hx hb hts iX6 hown hK hP 2 rfl rfl 2 (by decide) (hts (.fieldLink RX9 296 "DeepHole$Sheet" "form" "I") (by decide +kernel)) (fun _ h9 => h9) rfl dX9_copy_57 ?_
          refine lv_aload hx hb dX9_copy_60 (lv_at hl 0 rfl) ?_
          refine va_get (D := D) (ci := 6) (v := .int fo) (C := RX6) (T := TX6) (N := 4) hx hb hts iX6 hown hK hP 2 rfl rfl 2 (by decide) (hts (.fieldLink RX9 296 "DeepHole$Sheet" "form" "I") (by decide +kernel)) (fun _ h9 => h9) rfl dX9_copy_62 ?_
          refine lv_icmp_eq (tgt := 74) hx hb dX9_copy_65 (by decide) (fun c_65 => ?_) (fun c_65 => ?_)
          ·
            refine lv_aload hx hb dX9_copy_74 (lv_at hl 1 rfl) ?_
            refine lv_iload_n hx hb dX9_copy_76 rfl (lv_at hl 4 rfl) ?_
            refine lv_iload hx hb dX9_copy_77 (lv_at hl 7 rfl) ?_
            refine q_V (wc := [(h0, .inr (6, [.ref a0, .int lo, .int fo, .int (nI n)])), (a0, .inl (cI, 60, .inl it))]) (b := h0) ⟨hx, hb, hml, hown, hts⟩ [.int i1, .int k1] [] c_X6_hasRun (cwV 2 hts gX9_copy_X6_hasRun rfl rfl rfl (by decide +kernel) ⟨Nat.le_of_ble_eq_true rfl, Nat.le_of_ble_eq_true rfl⟩) hK hN hP hD [2, 3] rfl (by decide) (ci := 6) rfl rfl rfl rfl hl.1 rfl (Nat.le_of_ble_eq_true rfl) dX9_copy_79 ⟨Nat.zero_le _, Nat.zero_le _⟩ (fun r hw => ?_)
            subst hw
            refine lv_if_eq (tgt := 97) hx hb dX9_copy_82 (by decide) (fun c_82 => ?_) (fun c_82 => ?_)
            ·
              have c_82 := bz c_82
              refine lv_aload_n hx hb dX9_copy_97 rfl (lv_at hl 2 rfl) ?_
              refine lv_iconst (v := 2) hx hb dX9_copy_98 (by decide) ?_
              refine w_V (wc := [(x0, .inr (9, [.ref sx, .ref g0, .ref w0, .ref k0, .ref la, .ref tr, .ref u0, .ref pt, .ref ap, .ref sp, .int fd]))]) (wr := [(sx, .inl (cS, 4, .inr (.inr (.inr (.inr sxf))))), (h0, .inr (6, [.ref a0, .int lo, .int fo, .int (nI n)])), (a0, .inl (cI, 60, .inl it))]) (b := x0) ⟨hx, hb, hml, hown, hts⟩ [.int (2 : Int32)] [] c_X9_found (cwV 1 hts gX9_copy_X9_found rfl rfl rfl (by decide +kernel) ⟨Nat.le_of_ble_eq_true rfl, Nat.le_of_ble_eq_true rfl⟩) hK hN hP hD hS hA [0] [1, 2, 3] rfl (by decide) rfl (by decide) (by decide) (ci := 9) rfl rfl rfl rfl hl.1 rfl (Nat.le_of_ble_eq_true rfl) dX9_copy_99 ⟨Nat.zero_le _, Nat.zero_le _⟩ (fun r u H locs hw hP hD hS => ?_)
              have hP : va_P D vwCl [(sx, .inl (cS, 4, .inr (.inr (.inr (.inr sxf))))), (h0, .inr (6, [.ref a0, .int lo, .int fo, .int (nI n)])), (a0, .inl (cI, 60, .inl it)), (x0, .inr (9, [.ref sx, .ref g0, .ref w0, .ref k0, .ref la, .ref tr, .ref u0, .ref pt, .ref ap, .ref sp, .int (2 : Int32)]))] H := hP
              have hD : va_D A [(sx, .inl (cS, 4, .inr (.inr (.inr (.inr sxf))))), (h0, .inr (6, [.ref a0, .int lo, .int fo, .int (nI n)])), (a0, .inl (cI, 60, .inl it)), (x0, .inr (9, [.ref sx, .ref g0, .ref w0, .ref k0, .ref la, .ref tr, .ref u0, .ref pt, .ref ap, .ref sp, .int (2 : Int32)]))] := hD
              subst hw
              have hP9 := hP.sub (ws' := [(x0, .inr (9, [.ref sx, .ref g0, .ref w0, .ref k0, .ref la, .ref tr, .ref u0, .ref pt, .ref ap, .ref sp, .int (2 : Int32)])), (sx, .inl (cS, 4, .inr (.inr (.inr (.inr sxf))))), (h0, .inr (6, [.ref a0, .int lo, .int fo, .int (nI n)])), (a0, .inl (cI, 60, .inl it))]) [3, 0, 1, 2] rfl
              have hD9 := hD.sub (ws' := [(x0, .inr (9, [.ref sx, .ref g0, .ref w0, .ref k0, .ref la, .ref tr, .ref u0, .ref pt, .ref ap, .ref sp, .int (2 : Int32)])), (sx, .inl (cS, 4, .inr (.inr (.inr (.inr sxf))))), (h0, .inr (6, [.ref a0, .int lo, .int fo, .int (nI n)])), (a0, .inl (cI, 60, .inl it))]) [3, 0, 1, 2] (by decide) rfl
              exact W.iret (v := -10 - (2 : Int32)) hx hb hr (fun t ht hW => ⟨⟨_, (2, it), rfl, (by have hC9 : wrongC lo fo lo fo n n i1 j1 k1 = 2 := (by unfold wrongC; rw [if_neg (fun h => h.elim (fun q => q c_38) (fun q => q c_46)), if_neg (fun h => h c_65), if_neg (fun h => c_82 h.1)]); rw [hC9]; exact ⟨rfl, rfl⟩), by rw [ht]; exact hP9, hD9⟩, hS.F ht⟩) hS.2.2 dX9_copy_102
            ·
              have c_82 := bnz c_82
              refine lv_aload hx hb dX9_copy_85 (lv_at hl 0 rfl) ?_
              refine lv_iload hx hb dX9_copy_87 (lv_at hl 6 rfl) ?_
              refine lv_iload hx hb dX9_copy_89 (lv_at hl 7 rfl) ?_
              refine q_V (wc := [(h0, .inr (6, [.ref a0, .int lo, .int fo, .int (nI n)])), (a0, .inl (cI, 60, .inl it))]) (b := h0) ⟨hx, hb, hml, hown, hts⟩ [.int j1, .int k1] [] c_X6_hasRun (cwV 2 hts gX9_copy_X6_hasRun rfl rfl rfl (by decide +kernel) ⟨Nat.le_of_ble_eq_true rfl, Nat.le_of_ble_eq_true rfl⟩) hK hN hP hD [2, 3] rfl (by decide) (ci := 6) rfl rfl rfl rfl hl.1 rfl (Nat.le_of_ble_eq_true rfl) dX9_copy_91 ⟨Nat.zero_le _, Nat.zero_le _⟩ (fun r hw => ?_)
              subst hw
              refine lv_if_ne (tgt := 103) hx hb dX9_copy_94 (by decide) (fun c_94 => ?_) (fun c_94 => ?_)
              ·
                have c_94 := bnz c_94
                have hC9 : wrongC lo fo lo fo n n i1 j1 k1 = 0 := by unfold wrongC; rw [if_neg (fun h => h.elim (fun q => q c_38) (fun q => q c_46)), if_neg (fun h => h c_65), if_pos (And.intro c_82 c_94)]
                obtain ⟨iN, kN, hik, ei, ek⟩ := hr_nat hn c_82
                obtain ⟨jN, kN2, hjk, ej, ek2⟩ := hr_nat hn c_94
                have ekk : kN = kN2 := by have h9 := ek.symm.trans ek2; exact n_eq h9 (by omega) (by omega)
                obtain ⟨iN, hik, rfl⟩ := (⟨iN, hik, ei⟩ : ∃ i, i + kN ≤ n ∧ i1 = nI i)
                obtain ⟨jN, hjk, rfl⟩ := (⟨jN, hjk, ej⟩ : ∃ i, i + kN2 ≤ n ∧ j1 = nI i)
                obtain ⟨kN, hik, hjk, rfl⟩ := (⟨kN, hik, by omega, ek⟩ : ∃ i, iN + i ≤ n ∧ jN + i ≤ n ∧ k1 = nI i)
                refine lv_aload hx hb dX9_copy_103 (lv_at hl 1 rfl) ?_
                refine va_get (D := D) (ci := 6) (v := .ref a0) (C := RX6) (T := TX6) (N := 4) hx hb hts iX6 hown hK hP 2 rfl rfl 0 (by decide) (hts (.fieldLink RX9 290 "DeepHole$Sheet" "items" "[I") (by decide +kernel)) (fun _ h9 => h9) rfl dX9_copy_105 ?_
                refine lv_iload_n hx hb dX9_copy_108 rfl (lv_at hl 4 rfl) ?_
                refine lv_aload hx hb dX9_copy_109 (lv_at hl 0 rfl) ?_
                refine va_get (D := D) (ci := 6) (v := .ref a0) (C := RX6) (T := TX6) (N := 4) hx hb hts iX6 hown hK hP 2 rfl rfl 0 (by decide) (hts (.fieldLink RX9 290 "DeepHole$Sheet" "items" "[I") (by decide +kernel)) (fun _ h9 => h9) rfl dX9_copy_111 ?_
                refine lv_iload hx hb dX9_copy_114 (lv_at hl 6 rfl) ?_
                refine lv_iload hx hb dX9_copy_116 (lv_at hl 7 rfl) ?_
                refine va_copyi hx hb (hml.trans hl.1.symm) hown (hts (.methodLink RX9 302 arraycopyName) (by decide +kernel)) (hts (.native arraycopyName) (by decide +kernel)) (hts (.static arraycopyName) (by decide +kernel)) (hts (.initialized "java/lang/System") (by decide +kernel)) hK hP hD hS 3 3 0 0 rfl rfl rfl rfl rfl (nI_pos (by omega)) (nI_pos (by omega)) (nI_pos (by omega)) (by rw [nI_clamp (by omega), nI_clamp (by omega)]; omega) (by rw [nI_clamp (by omega), nI_clamp (by omega)]; omega) (fun i _ => rfl) (Nat.le_of_ble_eq_true rfl) (by decide +kernel) dX9_copy_118 (fun H locs hP hD hS => ?_)
                have hP : va_P D vwCl [(x0, .inr (9, [.ref sx, .ref g0, .ref w0, .ref k0, .ref la, .ref tr, .ref u0, .ref pt, .ref ap, .ref sp, .int fd])), (sx, .inl (cS, 4, .inr (.inr (.inr (.inr sxf))))), (h0, .inr (6, [.ref a0, .int lo, .int fo, .int (nI n)])), (a0, .inl (cI, 60, .inl (va_cpy it it (nI iN).toNatClampNeg (nI jN).toNatClampNeg (nI kN).toNatClampNeg)))] H := hP
                have hD : va_D A [(x0, .inr (9, [.ref sx, .ref g0, .ref w0, .ref k0, .ref la, .ref tr, .ref u0, .ref pt, .ref ap, .ref sp, .int fd])), (sx, .inl (cS, 4, .inr (.inr (.inr (.inr sxf))))), (h0, .inr (6, [.ref a0, .int lo, .int fo, .int (nI n)])), (a0, .inl (cI, 60, .inl (va_cpy it it (nI iN).toNatClampNeg (nI jN).toNatClampNeg (nI kN).toNatClampNeg)))] := hD
                refine lv_iconst (v := 1) hx hb dX9_copy_121 (by decide) ?_
                have hP9 := hP.sub (ws' := [(x0, .inr (9, [.ref sx, .ref g0, .ref w0, .ref k0, .ref la, .ref tr, .ref u0, .ref pt, .ref ap, .ref sp, .int fd])), (sx, .inl (cS, 4, .inr (.inr (.inr (.inr sxf))))), (h0, .inr (6, [.ref a0, .int lo, .int fo, .int (nI n)])), (a0, .inl (cI, 60, .inl (va_cpy it it (nI iN).toNatClampNeg (nI jN).toNatClampNeg (nI kN).toNatClampNeg)))]) [0, 1, 2, 3] rfl
                have hD9 := hD.sub (ws' := [(x0, .inr (9, [.ref sx, .ref g0, .ref w0, .ref k0, .ref la, .ref tr, .ref u0, .ref pt, .ref ap, .ref sp, .int fd])), (sx, .inl (cS, 4, .inr (.inr (.inr (.inr sxf))))), (h0, .inr (6, [.ref a0, .int lo, .int fo, .int (nI n)])), (a0, .inl (cI, 60, .inl (va_cpy it it (nI iN).toNatClampNeg (nI jN).toNatClampNeg (nI kN).toNatClampNeg)))]) [0, 1, 2, 3] (by decide) rfl
                exact W.iret (v := 1) hx hb hr (fun t ht hW => ⟨⟨_, (fd, va_cpy it it (nI iN).toNatClampNeg (nI jN).toNatClampNeg (nI kN).toNatClampNeg), rfl, (by rw [hC9]; exact ⟨rfl, rfl⟩), by rw [ht]; exact hP9, hD9⟩, hS.F ht⟩) hS.2.2 dX9_copy_122
              ·
                have c_94 := bz c_94
                refine lv_aload_n hx hb dX9_copy_97 rfl (lv_at hl 2 rfl) ?_
                refine lv_iconst (v := 2) hx hb dX9_copy_98 (by decide) ?_
                refine w_V (wc := [(x0, .inr (9, [.ref sx, .ref g0, .ref w0, .ref k0, .ref la, .ref tr, .ref u0, .ref pt, .ref ap, .ref sp, .int fd]))]) (wr := [(sx, .inl (cS, 4, .inr (.inr (.inr (.inr sxf))))), (h0, .inr (6, [.ref a0, .int lo, .int fo, .int (nI n)])), (a0, .inl (cI, 60, .inl it))]) (b := x0) ⟨hx, hb, hml, hown, hts⟩ [.int (2 : Int32)] [] c_X9_found (cwV 1 hts gX9_copy_X9_found rfl rfl rfl (by decide +kernel) ⟨Nat.le_of_ble_eq_true rfl, Nat.le_of_ble_eq_true rfl⟩) hK hN hP hD hS hA [0] [1, 2, 3] rfl (by decide) rfl (by decide) (by decide) (ci := 9) rfl rfl rfl rfl hl.1 rfl (Nat.le_of_ble_eq_true rfl) dX9_copy_99 ⟨Nat.zero_le _, Nat.zero_le _⟩ (fun r u H locs hw hP hD hS => ?_)
                have hP : va_P D vwCl [(sx, .inl (cS, 4, .inr (.inr (.inr (.inr sxf))))), (h0, .inr (6, [.ref a0, .int lo, .int fo, .int (nI n)])), (a0, .inl (cI, 60, .inl it)), (x0, .inr (9, [.ref sx, .ref g0, .ref w0, .ref k0, .ref la, .ref tr, .ref u0, .ref pt, .ref ap, .ref sp, .int (2 : Int32)]))] H := hP
                have hD : va_D A [(sx, .inl (cS, 4, .inr (.inr (.inr (.inr sxf))))), (h0, .inr (6, [.ref a0, .int lo, .int fo, .int (nI n)])), (a0, .inl (cI, 60, .inl it)), (x0, .inr (9, [.ref sx, .ref g0, .ref w0, .ref k0, .ref la, .ref tr, .ref u0, .ref pt, .ref ap, .ref sp, .int (2 : Int32)]))] := hD
                subst hw
                have hP9 := hP.sub (ws' := [(x0, .inr (9, [.ref sx, .ref g0, .ref w0, .ref k0, .ref la, .ref tr, .ref u0, .ref pt, .ref ap, .ref sp, .int (2 : Int32)])), (sx, .inl (cS, 4, .inr (.inr (.inr (.inr sxf))))), (h0, .inr (6, [.ref a0, .int lo, .int fo, .int (nI n)])), (a0, .inl (cI, 60, .inl it))]) [3, 0, 1, 2] rfl
                have hD9 := hD.sub (ws' := [(x0, .inr (9, [.ref sx, .ref g0, .ref w0, .ref k0, .ref la, .ref tr, .ref u0, .ref pt, .ref ap, .ref sp, .int (2 : Int32)])), (sx, .inl (cS, 4, .inr (.inr (.inr (.inr sxf))))), (h0, .inr (6, [.ref a0, .int lo, .int fo, .int (nI n)])), (a0, .inl (cI, 60, .inl it))]) [3, 0, 1, 2] (by decide) rfl
                exact W.iret (v := -10 - (2 : Int32)) hx hb hr (fun t ht hW => ⟨⟨_, (2, it), rfl, (by have hC9 : wrongC lo fo lo fo n n i1 j1 k1 = 2 := (by unfold wrongC; rw [if_neg (fun h => h.elim (fun q => q c_38) (fun q => q c_46)), if_neg (fun h => h c_65), if_neg (fun h => c_94 h.2)]); rw [hC9]; exact ⟨rfl, rfl⟩), by rw [ht]; exact hP9, hD9⟩, hS.F ht⟩) hS.2.2 dX9_copy_102
          ·
            refine lv_aload_n hx hb dX9_copy_68 rfl (lv_at hl 2 rfl) ?_
            refine lv_iconst (v := 4) hx hb dX9_copy_69 (by decide) ?_
            refine w_V (wc := [(x0, .inr (9, [.ref sx, .ref g0, .ref w0, .ref k0, .ref la, .ref tr, .ref u0, .ref pt, .ref ap, .ref sp, .int fd]))]) (wr := [(sx, .inl (cS, 4, .inr (.inr (.inr (.inr sxf))))), (h0, .inr (6, [.ref a0, .int lo, .int fo, .int (nI n)])), (a0, .inl (cI, 60, .inl it))]) (b := x0) ⟨hx, hb, hml, hown, hts⟩ [.int (4 : Int32)] [] c_X9_found (cwV 1 hts gX9_copy_X9_found rfl rfl rfl (by decide +kernel) ⟨Nat.le_of_ble_eq_true rfl, Nat.le_of_ble_eq_true rfl⟩) hK hN hP hD hS hA [0] [1, 2, 3] rfl (by decide) rfl (by decide) (by decide) (ci := 9) rfl rfl rfl rfl hl.1 rfl (Nat.le_of_ble_eq_true rfl) dX9_copy_70 ⟨Nat.zero_le _, Nat.zero_le _⟩ (fun r u H locs hw hP hD hS => ?_)
            have hP : va_P D vwCl [(sx, .inl (cS, 4, .inr (.inr (.inr (.inr sxf))))), (h0, .inr (6, [.ref a0, .int lo, .int fo, .int (nI n)])), (a0, .inl (cI, 60, .inl it)), (x0, .inr (9, [.ref sx, .ref g0, .ref w0, .ref k0, .ref la, .ref tr, .ref u0, .ref pt, .ref ap, .ref sp, .int (4 : Int32)]))] H := hP
            have hD : va_D A [(sx, .inl (cS, 4, .inr (.inr (.inr (.inr sxf))))), (h0, .inr (6, [.ref a0, .int lo, .int fo, .int (nI n)])), (a0, .inl (cI, 60, .inl it)), (x0, .inr (9, [.ref sx, .ref g0, .ref w0, .ref k0, .ref la, .ref tr, .ref u0, .ref pt, .ref ap, .ref sp, .int (4 : Int32)]))] := hD
            subst hw
            have hP9 := hP.sub (ws' := [(x0, .inr (9, [.ref sx, .ref g0, .ref w0, .ref k0, .ref la, .ref tr, .ref u0, .ref pt, .ref ap, .ref sp, .int (4 : Int32)])), (sx, .inl (cS, 4, .inr (.inr (.inr (.inr sxf))))), (h0, .inr (6, [.ref a0, .int lo, .int fo, .int (nI n)])), (a0, .inl (cI, 60, .inl it))]) [3, 0, 1, 2] rfl
            have hD9 := hD.sub (ws' := [(x0, .inr (9, [.ref sx, .ref g0, .ref w0, .ref k0, .ref la, .ref tr, .ref u0, .ref pt, .ref ap, .ref sp, .int (4 : Int32)])), (sx, .inl (cS, 4, .inr (.inr (.inr (.inr sxf))))), (h0, .inr (6, [.ref a0, .int lo, .int fo, .int (nI n)])), (a0, .inl (cI, 60, .inl it))]) [3, 0, 1, 2] (by decide) rfl
            exact W.iret (v := -10 - (4 : Int32)) hx hb hr (fun t ht hW => ⟨⟨_, (4, it), rfl, (by have hC9 : wrongC lo fo lo fo n n i1 j1 k1 = 4 := (by unfold wrongC; rw [if_neg (fun h => h.elim (fun q => q c_38) (fun q => q c_46)), if_pos c_65]); rw [hC9]; exact ⟨rfl, rfl⟩), by rw [ht]; exact hP9, hD9⟩, hS.F ht⟩) hS.2.2 dX9_copy_73
        ·
          refine lv_aload_n hx hb dX9_copy_49 rfl (lv_at hl 2 rfl) ?_
          refine lv_iconst (v := 1) hx hb dX9_copy_50 (by decide) ?_
          refine w_V (wc := [(x0, .inr (9, [.ref sx, .ref g0, .ref w0, .ref k0, .ref la, .ref tr, .ref u0, .ref pt, .ref ap, .ref sp, .int fd]))]) (wr := [(sx, .inl (cS, 4, .inr (.inr (.inr (.inr sxf))))), (h0, .inr (6, [.ref a0, .int lo, .int fo, .int (nI n)])), (a0, .inl (cI, 60, .inl it))]) (b := x0) ⟨hx, hb, hml, hown, hts⟩ [.int (1 : Int32)] [] c_X9_found (cwV 1 hts gX9_copy_X9_found rfl rfl rfl (by decide +kernel) ⟨Nat.le_of_ble_eq_true rfl, Nat.le_of_ble_eq_true rfl⟩) hK hN hP hD hS hA [0] [1, 2, 3] rfl (by decide) rfl (by decide) (by decide) (ci := 9) rfl rfl rfl rfl hl.1 rfl (Nat.le_of_ble_eq_true rfl) dX9_copy_51 ⟨Nat.zero_le _, Nat.zero_le _⟩ (fun r u H locs hw hP hD hS => ?_)
          have hP : va_P D vwCl [(sx, .inl (cS, 4, .inr (.inr (.inr (.inr sxf))))), (h0, .inr (6, [.ref a0, .int lo, .int fo, .int (nI n)])), (a0, .inl (cI, 60, .inl it)), (x0, .inr (9, [.ref sx, .ref g0, .ref w0, .ref k0, .ref la, .ref tr, .ref u0, .ref pt, .ref ap, .ref sp, .int (1 : Int32)]))] H := hP
          have hD : va_D A [(sx, .inl (cS, 4, .inr (.inr (.inr (.inr sxf))))), (h0, .inr (6, [.ref a0, .int lo, .int fo, .int (nI n)])), (a0, .inl (cI, 60, .inl it)), (x0, .inr (9, [.ref sx, .ref g0, .ref w0, .ref k0, .ref la, .ref tr, .ref u0, .ref pt, .ref ap, .ref sp, .int (1 : Int32)]))] := hD
          subst hw
          have hP9 := hP.sub (ws' := [(x0, .inr (9, [.ref sx, .ref g0, .ref w0, .ref k0, .ref la, .ref tr, .ref u0, .ref pt, .ref ap, .ref sp, .int (1 : Int32)])), (sx, .inl (cS, 4, .inr (.inr (.inr (.inr sxf))))), (h0, .inr (6, [.ref a0, .int lo, .int fo, .int (nI n)])), (a0, .inl (cI, 60, .inl it))]) [3, 0, 1, 2] rfl
          have hD9 := hD.sub (ws' := [(x0, .inr (9, [.ref sx, .ref g0, .ref w0, .ref k0, .ref la, .ref tr, .ref u0, .ref pt, .ref ap, .ref sp, .int (1 : Int32)])), (sx, .inl (cS, 4, .inr (.inr (.inr (.inr sxf))))), (h0, .inr (6, [.ref a0, .int lo, .int fo, .int (nI n)])), (a0, .inl (cI, 60, .inl it))]) [3, 0, 1, 2] (by decide) rfl
          exact W.iret (v := -10 - (1 : Int32)) hx hb hr (fun t ht hW => ⟨⟨_, (1, it), rfl, (by have hC9 : wrongC lo fo lo fo n n i1 j1 k1 = 1 := (by unfold wrongC; rw [if_pos (show ¬ lo = 0 ∨ ¬ lo = 0 from Or.inr c_46)]); rw [hC9]; exact ⟨rfl, rfl⟩), by rw [ht]; exact hP9, hD9⟩, hS.F ht⟩) hS.2.2 dX9_copy_54
    ·
      have c_11 := bz c_11
      exact absurd (show (0 : Int32) ≤ nI k ∧ nI k ≤ 3 from ⟨nI_pos' (by omega), nI_le (b := 3) (by omega) (by decide)⟩) c_11

set_option maxHeartbeats 4000000 in
set_option maxRecDepth 100000 in
theorem c_X9_copy_d {l : Launch} {D : va_G} {cI cS cP : ClassId} {sz : Nat} {x0 g0 w0 k0 la tr u0 pt ap sp : Nat} {fd : Int32} {sx : Nat} {sxf : Nat → Option Nat} {h0 a0 n : Nat} {lo fo : Int32} {it : Nat → Int32} {k k2 : Nat} {i1 j1 k1 : Int32} {h2 a2 nq : Nat} {lq fq : Int32} {iq : Nat → Int32} (hk : k < 4) (hsx : sxf k = some h0) (hn : n ≤ 60) (hk2 : k2 < 4) (hs2 : sxf k2 = some h2) (hnq : nq ≤ 60) : Met l yX9_copy wsX9_copy ({ frames := 2, cells := 0, slots := 0, locals := 60 }) (PC D (TY cI cS cP) [.ref x0, .int (nI k), .int i1, .int (nI k2), .int j1, .int k1] sz [(x0, .inr (9, [.ref sx, .ref g0, .ref w0, .ref k0, .ref la, .ref tr, .ref u0, .ref pt, .ref ap, .ref sp, .int fd])), (sx, .inl (cS, 4, .inr (.inr (.inr (.inr sxf))))), (h0, .inr (6, [.ref a0, .int lo, .int fo, .int (nI n)])), (a0, .inl (cI, 60, .inl it)), (h2, .inr (6, [.ref a2, .int lq, .int fq, .int (nI nq)])), (a2, .inl (cI, 60, .inl iq))]) (QI D (fun (r : Int32) (u : Int32 × (Nat → Int32)) => (r = aCopy (wrongC lo fo lq fq n nq i1 j1 k1)) ∧ u = sCopy (wrongC lo fo lq fq n nq i1 j1 k1) fd it iq i1 j1 k1) (fun (u : Int32 × (Nat → Int32)) => [(x0, .inr (9, [.ref sx, .ref g0, .ref w0, .ref k0, .ref la, .ref tr, .ref u0, .ref pt, .ref ap, .ref sp, .int u.1])), (sx, .inl (cS, 4, .inr (.inr (.inr (.inr sxf))))), (h0, .inr (6, [.ref a0, .int lo, .int fo, .int (nI n)])), (a0, .inl (cI, 60, .inl it)), (h2, .inr (6, [.ref a2, .int lq, .int fq, .int (nI nq)])), (a2, .inl (cI, 60, .inl u.2))]) (va_A [(x0, .inr (9, [.ref sx, .ref g0, .ref w0, .ref k0, .ref la, .ref tr, .ref u0, .ref pt, .ref ap, .ref sp, .int fd])), (sx, .inl (cS, 4, .inr (.inr (.inr (.inr sxf))))), (h0, .inr (6, [.ref a0, .int lo, .int fo, .int (nI n)])), (a0, .inl (cI, 60, .inl it)), (h2, .inr (6, [.ref a2, .int lq, .int fq, .int (nI nq)])), (a2, .inl (cI, 60, .inl iq))] sz)) 0 0 (va_A [(x0, .inr (9, [.ref sx, .ref g0, .ref w0, .ref k0, .ref la, .ref tr, .ref u0, .ref pt, .ref ap, .ref sp, .int fd])), (sx, .inl (cS, 4, .inr (.inr (.inr (.inr sxf))))), (h0, .inr (6, [.ref a0, .int lo, .int fo, .int (nI n)])), (a0, .inl (cI, 60, .inl it)), (h2, .inr (6, [.ref a2, .int lq, .int fq, .int (nI nq)])), (a2, .inl (cI, 60, .inl iq))] sz) := by
  refine Met.ofW (cc := cX9_copy) (maxL := 8) (ret := (some .int)) (by decide) rfl ?_
  intro p e s m args below meth c s₁ B hml hv
  obtain ⟨rfl, hsz, hP, hK, hD0, hN⟩ := hv
  have hx := B.exec
  have hb := B.bytes
  have hr := B.returns
  have hts := atoms_spec (ws := wsX9_copy) B.pre
  have hown : s.vm.findClass RX9 = some m.cls := findClass_of_methodNamed B.named
  have hlocks := B.notSynchronized
  subst hsz
  have iX6 : ∀ w ∈ u_ws RX6 TX6 4, w ∈ wsX9_copy := by decide +kernel
  have iX9 : ∀ w ∈ u_ws RX9 TX9 11, w ∈ wsX9_copy := by decide +kernel
  have hD := hD0.self (sz := s.heap.size)
  generalize hAe : va_A [(x0, .inr (9, [.ref sx, .ref g0, .ref w0, .ref k0, .ref la, .ref tr, .ref u0, .ref pt, .ref ap, .ref sp, .int fd])), (sx, .inl (cS, 4, .inr (.inr (.inr (.inr sxf))))), (h0, .inr (6, [.ref a0, .int lo, .int fo, .int (nI n)])), (a0, .inl (cI, 60, .inl it)), (h2, .inr (6, [.ref a2, .int lq, .int fq, .int (nI nq)])), (a2, .inl (cI, 60, .inl iq))] s.heap.size = A at hD ⊢
  have hA : ∀ q : Nat, s.heap.size ≤ q → A q := fun q h => by rw [← hAe]; exact Or.inr h
  have hS : va_S A s.heap s.heap [] := va_S.rf
  have hP : va_P D vwCl [(x0, .inr (9, [.ref sx, .ref g0, .ref w0, .ref k0, .ref la, .ref tr, .ref u0, .ref pt, .ref ap, .ref sp, .int fd])), (sx, .inl (cS, 4, .inr (.inr (.inr (.inr sxf))))), (h0, .inr (6, [.ref a0, .int lo, .int fo, .int (nI n)])), (a0, .inl (cI, 60, .inl it)), (h2, .inr (6, [.ref a2, .int lq, .int fq, .int (nI nq)])), (a2, .inl (cI, 60, .inl iq))] s.heap := hP
  have hl := lv_entry ([.ref x0, .int (nI k), .int i1, .int (nI k2), .int j1, .int k1]) (n := 8) (Nat.le_of_ble_eq_true rfl)
  rw [lg_entry_eq]
  generalize (lg_sl ([.ref x0, .int (nI k), .int i1, .int (nI k2), .int j1, .int k1]) ++ List.replicate (8 - (lg_sl ([.ref x0, .int (nI k), .int i1, .int (nI k2), .int j1, .int k1])).length) Slot.unset).toArray = ls at hl ⊢
  have hl : lv_has ls 8 [(0, .ref x0), (1, .int (nI k)), (2, .int i1), (3, .int (nI k2)), (4, .int j1), (5, .int k1)] := hl
  refine lv_iload_n hx hb dX9_copy_0 rfl (lv_at hl 1 rfl) ?_
  refine q_S (tys := TY cI cS cP) (D := D) ⟨hx, hb, hml, hown, hts⟩ [.int (nI k)] [] c_X9_isSheet (va_cwS 1 hts gX9_copy_X9_isSheet rfl rfl rfl (by decide +kernel) ⟨Nat.le_of_ble_eq_true rfl, Nat.le_of_ble_eq_true rfl⟩) hK hN rfl hl.1 rfl (Nat.le_of_ble_eq_true rfl) dX9_copy_1 ⟨Nat.zero_le _, Nat.zero_le _⟩ (fun r hw => ?_)
  subst hw
  refine lv_if_eq (tgt := 14) hx hb dX9_copy_4 (by decide) (fun c_4 => ?_) (fun c_4 => ?_)
  ·
    have c_4 := bz c_4
    exact absurd (show (0 : Int32) ≤ nI k ∧ nI k ≤ 3 from ⟨nI_pos' (by omega), nI_le (b := 3) (by omega) (by decide)⟩) c_4
  ·
    have c_4 := bnz c_4
    refine lv_iload_n hx hb dX9_copy_7 rfl (lv_at hl 3 rfl) ?_
    refine q_S (tys := TY cI cS cP) (D := D) ⟨hx, hb, hml, hown, hts⟩ [.int (nI k2)] [] c_X9_isSheet (va_cwS 1 hts gX9_copy_X9_isSheet rfl rfl rfl (by decide +kernel) ⟨Nat.le_of_ble_eq_true rfl, Nat.le_of_ble_eq_true rfl⟩) hK hN rfl hl.1 rfl (Nat.le_of_ble_eq_true rfl) dX9_copy_8 ⟨Nat.zero_le _, Nat.zero_le _⟩ (fun r hw => ?_)
    subst hw
    refine lv_if_ne (tgt := 17) hx hb dX9_copy_11 (by decide) (fun c_11 => ?_) (fun c_11 => ?_)
    ·
      have c_11 := bnz c_11
      refine lv_aload_n hx hb dX9_copy_17 rfl (lv_at hl 0 rfl) ?_
      refine va_get (D := D) (ci := 9) (v := .ref sx) (C := RX9) (T := TX9) (N := 11) hx hb hts iX9 hown hK hP 0 rfl rfl 0 (by decide) (hts (.fieldLink RX9 11 "DeepHole" "sheets" "[LDeepHole$Sheet;") (by decide +kernel)) (fun _ h9 => h9) rfl dX9_copy_18 ?_
      refine lv_iload_n hx hb dX9_copy_21 rfl (lv_at hl 1 rfl) ?_
      refine rd_q hx hb hK hP 1 1 rfl rfl (k := k) (by omega) (by decide) (hsx) dX9_copy_22 ?_
      refine lv_astore (lv' := [(6, .ref h0), (0, .ref x0), (1, .int (nI k)), (2, .int i1), (3, .int (nI k2)), (4, .int j1), (5, .int k1)]) hx hb dX9_copy_23 hl (by decide) rfl (fun ls hl => ?_)
      refine lv_aload_n hx hb dX9_copy_25 rfl (lv_at hl 1 rfl) ?_
      refine va_get (D := D) (ci := 9) (v := .ref sx) (C := RX9) (T := TX9) (N := 11) hx hb hts iX9 hown hK hP 0 rfl rfl 0 (by decide) (hts (.fieldLink RX9 11 "DeepHole" "sheets" "[LDeepHole$Sheet;") (by decide +kernel)) (fun _ h9 => h9) rfl dX9_copy_26 ?_
      refine lv_iload_n hx hb dX9_copy_29 rfl (lv_at hl 4 rfl) ?_
      refine rd_q hx hb hK hP 1 1 rfl rfl (k := k2) (by omega) (by decide) (hs2) dX9_copy_30 ?_
      refine lv_astore (lv' := [(7, .ref h2), (6, .ref h0), (0, .ref x0), (1, .int (nI k)), (2, .int i1), (3, .int (nI k2)), (4, .int j1), (5, .int k1)]) hx hb dX9_copy_31 hl (by decide) rfl (fun ls hl => ?_)
      refine lv_aload hx hb dX9_copy_33 (lv_at hl 1 rfl) ?_
      refine va_get (D := D) (ci := 6) (v := .int lo) (C := RX6) (T := TX6) (N := 4) hx hb hts iX6 hown hK hP 2 rfl rfl 1 (by decide) (hts (.fieldLink RX9 277 "DeepHole$Sheet" "lost" "Z") (by decide +kernel)) (fun _ h9 => h9) rfl dX9_copy_35 ?_
      refine lv_if_ne (tgt := 49) hx hb dX9_copy_38 (by decide) (fun c_38 => ?_) (fun c_38 => ?_)
      ·
        refine lv_aload_n hx hb dX9_copy_49 rfl (lv_at hl 2 rfl) ?_
        refine lv_iconst (v := 1) hx hb dX9_copy_50 (by decide) ?_
        refine w_V (wc := [(x0, .inr (9, [.ref sx, .ref g0, .ref w0, .ref k0, .ref la, .ref tr, .ref u0, .ref pt, .ref ap, .ref sp, .int fd]))]) (wr := [(sx, .inl (cS, 4, .inr (.inr (.inr (.inr sxf))))), (h0, .inr (6, [.ref a0, .int lo, .int fo, .int (nI n)])), (a0, .inl (cI, 60, .inl it)), (h2, .inr (6, [.ref a2, .int lq, .int fq, .int (nI nq)])), (a2, .inl (cI, 60, .inl iq))]) (b := x0) ⟨hx, hb, hml, hown, hts⟩ [.int (1 : Int32)] [] c_X9_found (cwV 1 hts gX9_copy_X9_found rfl rfl rfl (by decide +kernel) ⟨Nat.le_of_ble_eq_true rfl, Nat.le_of_ble_eq_true rfl⟩) hK hN hP hD hS hA [0] [1, 2, 3, 4, 5] rfl (by decide) rfl (by decide) (by decide) (ci := 9) rfl rfl rfl rfl hl.1 rfl (Nat.le_of_ble_eq_true rfl) dX9_copy_51 ⟨Nat.zero_le _, Nat.zero_le _⟩ (fun r u H locs hw hP hD hS => ?_)
        have hP : va_P D vwCl [(sx, .inl (cS, 4, .inr (.inr (.inr (.inr sxf))))), (h0, .inr (6, [.ref a0, .int lo, .int fo, .int (nI n)])), (a0, .inl (cI, 60, .inl it)), (h2, .inr (6, [.ref a2, .int lq, .int fq, .int (nI nq)])), (a2, .inl (cI, 60, .inl iq)), (x0, .inr (9, [.ref sx, .ref g0, .ref w0, .ref k0, .ref la, .ref tr, .ref u0, .ref pt, .ref ap, .ref sp, .int (1 : Int32)]))] H := hP
        have hD : va_D A [(sx, .inl (cS, 4, .inr (.inr (.inr (.inr sxf))))), (h0, .inr (6, [.ref a0, .int lo, .int fo, .int (nI n)])), (a0, .inl (cI, 60, .inl it)), (h2, .inr (6, [.ref a2, .int lq, .int fq, .int (nI nq)])), (a2, .inl (cI, 60, .inl iq)), (x0, .inr (9, [.ref sx, .ref g0, .ref w0, .ref k0, .ref la, .ref tr, .ref u0, .ref pt, .ref ap, .ref sp, .int (1 : Int32)]))] := hD
        subst hw
        have hP9 := hP.sub (ws' := [(x0, .inr (9, [.ref sx, .ref g0, .ref w0, .ref k0, .ref la, .ref tr, .ref u0, .ref pt, .ref ap, .ref sp, .int (1 : Int32)])), (sx, .inl (cS, 4, .inr (.inr (.inr (.inr sxf))))), (h0, .inr (6, [.ref a0, .int lo, .int fo, .int (nI n)])), (a0, .inl (cI, 60, .inl it)), (h2, .inr (6, [.ref a2, .int lq, .int fq, .int (nI nq)])), (a2, .inl (cI, 60, .inl iq))]) [5, 0, 1, 2, 3, 4] rfl
        have hD9 := hD.sub (ws' := [(x0, .inr (9, [.ref sx, .ref g0, .ref w0, .ref k0, .ref la, .ref tr, .ref u0, .ref pt, .ref ap, .ref sp, .int (1 : Int32)])), (sx, .inl (cS, 4, .inr (.inr (.inr (.inr sxf))))), (h0, .inr (6, [.ref a0, .int lo, .int fo, .int (nI n)])), (a0, .inl (cI, 60, .inl it)), (h2, .inr (6, [.ref a2, .int lq, .int fq, .int (nI nq)])), (a2, .inl (cI, 60, .inl iq))]) [5, 0, 1, 2, 3, 4] (by decide) rfl
        exact W.iret (v := -10 - (1 : Int32)) hx hb hr (fun t ht hW => ⟨⟨_, (1, iq), rfl, (by have hC9 : wrongC lo fo lq fq n nq i1 j1 k1 = 1 := (by unfold wrongC; rw [if_pos (show ¬ lo = 0 ∨ ¬ lq = 0 from Or.inl c_38)]); rw [hC9]; exact ⟨rfl, rfl⟩), by rw [ht]; exact hP9, hD9⟩, hS.F ht⟩) hS.2.2 dX9_copy_54
      ·
        refine lv_aload hx hb dX9_copy_41 (lv_at hl 0 rfl) ?_
        refine va_get (D := D) (ci := 6) (v := .int lq) (C := RX6) (T := TX6) (N := 4) hx hb hts iX6 hown hK hP 4 rfl rfl 1 (by decide) (hts (.fieldLink RX9 277 "DeepHole$Sheet" "lost" "Z") (by decide +kernel)) (fun _ h9 => h9) rfl dX9_copy_43 ?_
        refine lv_if_eq (tgt := 55) hx hb dX9_copy_46 (by decide) (fun c_46 => ?_) (fun c_46 => ?_)
        ·
          refine lv_aload hx hb dX9_copy_55 (lv_at hl 1 rfl) ?_
          refine va_get (D := D) (ci := 6) (v := .int fo) (C := RX6) (T := TX6) (N := 4) hx hb hts iX6 hown hK hP 2 rfl rfl 2 (by decide) (hts (.fieldLink RX9 296 "DeepHole$Sheet" "form" "I") (by decide +kernel)) (fun _ h9 => h9) rfl dX9_copy_57 ?_
          refine lv_aload hx hb dX9_copy_60 (lv_at hl 0 rfl) ?_
          refine va_get (D := D) (ci := 6) (v := .int fq) (C := RX6) (T := TX6) (N := 4) hx hb hts iX6 hown hK hP 4 rfl rfl 2 (by decide) (hts (.fieldLink RX9 296 "DeepHole$Sheet" "form" "I") (by decide +kernel)) (fun _ h9 => h9) rfl dX9_copy_62 ?_
          refine lv_icmp_eq (tgt := 74) hx hb dX9_copy_65 (by decide) (fun c_65 => ?_) (fun c_65 => ?_)
          ·
            refine lv_aload hx hb dX9_copy_74 (lv_at hl 1 rfl) ?_
            refine lv_iload_n hx hb dX9_copy_76 rfl (lv_at hl 4 rfl) ?_
            refine lv_iload hx hb dX9_copy_77 (lv_at hl 7 rfl) ?_
            refine q_V (wc := [(h0, .inr (6, [.ref a0, .int lo, .int fo, .int (nI n)])), (a0, .inl (cI, 60, .inl it))]) (b := h0) ⟨hx, hb, hml, hown, hts⟩ [.int i1, .int k1] [] c_X6_hasRun (cwV 2 hts gX9_copy_X6_hasRun rfl rfl rfl (by decide +kernel) ⟨Nat.le_of_ble_eq_true rfl, Nat.le_of_ble_eq_true rfl⟩) hK hN hP hD [2, 3] rfl (by decide) (ci := 6) rfl rfl rfl rfl hl.1 rfl (Nat.le_of_ble_eq_true rfl) dX9_copy_79 ⟨Nat.zero_le _, Nat.zero_le _⟩ (fun r hw => ?_)
            subst hw
            refine lv_if_eq (tgt := 97) hx hb dX9_copy_82 (by decide) (fun c_82 => ?_) (fun c_82 => ?_)
            ·
              have c_82 := bz c_82
              refine lv_aload_n hx hb dX9_copy_97 rfl (lv_at hl 2 rfl) ?_
              refine lv_iconst (v := 2) hx hb dX9_copy_98 (by decide) ?_
              refine w_V (wc := [(x0, .inr (9, [.ref sx, .ref g0, .ref w0, .ref k0, .ref la, .ref tr, .ref u0, .ref pt, .ref ap, .ref sp, .int fd]))]) (wr := [(sx, .inl (cS, 4, .inr (.inr (.inr (.inr sxf))))), (h0, .inr (6, [.ref a0, .int lo, .int fo, .int (nI n)])), (a0, .inl (cI, 60, .inl it)), (h2, .inr (6, [.ref a2, .int lq, .int fq, .int (nI nq)])), (a2, .inl (cI, 60, .inl iq))]) (b := x0) ⟨hx, hb, hml, hown, hts⟩ [.int (2 : Int32)] [] c_X9_found (cwV 1 hts gX9_copy_X9_found rfl rfl rfl (by decide +kernel) ⟨Nat.le_of_ble_eq_true rfl, Nat.le_of_ble_eq_true rfl⟩) hK hN hP hD hS hA [0] [1, 2, 3, 4, 5] rfl (by decide) rfl (by decide) (by decide) (ci := 9) rfl rfl rfl rfl hl.1 rfl (Nat.le_of_ble_eq_true rfl) dX9_copy_99 ⟨Nat.zero_le _, Nat.zero_le _⟩ (fun r u H locs hw hP hD hS => ?_)
              have hP : va_P D vwCl [(sx, .inl (cS, 4, .inr (.inr (.inr (.inr sxf))))), (h0, .inr (6, [.ref a0, .int lo, .int fo, .int (nI n)])), (a0, .inl (cI, 60, .inl it)), (h2, .inr (6, [.ref a2, .int lq, .int fq, .int (nI nq)])), (a2, .inl (cI, 60, .inl iq)), (x0, .inr (9, [.ref sx, .ref g0, .ref w0, .ref k0, .ref la, .ref tr, .ref u0, .ref pt, .ref ap, .ref sp, .int (2 : Int32)]))] H := hP
              have hD : va_D A [(sx, .inl (cS, 4, .inr (.inr (.inr (.inr sxf))))), (h0, .inr (6, [.ref a0, .int lo, .int fo, .int (nI n)])), (a0, .inl (cI, 60, .inl it)), (h2, .inr (6, [.ref a2, .int lq, .int fq, .int (nI nq)])), (a2, .inl (cI, 60, .inl iq)), (x0, .inr (9, [.ref sx, .ref g0, .ref w0, .ref k0, .ref la, .ref tr, .ref u0, .ref pt, .ref ap, .ref sp, .int (2 : Int32)]))] := hD
              subst hw
              have hP9 := hP.sub (ws' := [(x0, .inr (9, [.ref sx, .ref g0, .ref w0, .ref k0, .ref la, .ref tr, .ref u0, .ref pt, .ref ap, .ref sp, .int (2 : Int32)])), (sx, .inl (cS, 4, .inr (.inr (.inr (.inr sxf))))), (h0, .inr (6, [.ref a0, .int lo, .int fo, .int (nI n)])), (a0, .inl (cI, 60, .inl it)), (h2, .inr (6, [.ref a2, .int lq, .int fq, .int (nI nq)])), (a2, .inl (cI, 60, .inl iq))]) [5, 0, 1, 2, 3, 4] rfl
              have hD9 := hD.sub (ws' := [(x0, .inr (9, [.ref sx, .ref g0, .ref w0, .ref k0, .ref la, .ref tr, .ref u0, .ref pt, .ref ap, .ref sp, .int (2 : Int32)])), (sx, .inl (cS, 4, .inr (.inr (.inr (.inr sxf))))), (h0, .inr (6, [.ref a0, .int lo, .int fo, .int (nI n)])), (a0, .inl (cI, 60, .inl it)), (h2, .inr (6, [.ref a2, .int lq, .int fq, .int (nI nq)])), (a2, .inl (cI, 60, .inl iq))]) [5, 0, 1, 2, 3, 4] (by decide) rfl
              exact W.iret (v := -10 - (2 : Int32)) hx hb hr (fun t ht hW => ⟨⟨_, (2, iq), rfl, (by have hC9 : wrongC lo fo lq fq n nq i1 j1 k1 = 2 := (by unfold wrongC; rw [if_neg (fun h => h.elim (fun q => q c_38) (fun q => q c_46)), if_neg (fun h => h c_65), if_neg (fun h => c_82 h.1)]); rw [hC9]; exact ⟨rfl, rfl⟩), by rw [ht]; exact hP9, hD9⟩, hS.F ht⟩) hS.2.2 dX9_copy_102
            ·
              have c_82 := bnz c_82
              refine lv_aload hx hb dX9_copy_85 (lv_at hl 0 rfl) ?_
              refine lv_iload hx hb dX9_copy_87 (lv_at hl 6 rfl) ?_
              refine lv_iload hx hb dX9_copy_89 (lv_at hl 7 rfl) ?_
              refine q_V (wc := [(h2, .inr (6, [.ref a2, .int lq, .int fq, .int (nI nq)])), (a2, .inl (cI, 60, .inl iq))]) (b := h2) ⟨hx, hb, hml, hown, hts⟩ [.int j1, .int k1] [] c_X6_hasRun (cwV 2 hts gX9_copy_X6_hasRun rfl rfl rfl (by decide +kernel) ⟨Nat.le_of_ble_eq_true rfl, Nat.le_of_ble_eq_true rfl⟩) hK hN hP hD [4, 5] rfl (by decide) (ci := 6) rfl rfl rfl rfl hl.1 rfl (Nat.le_of_ble_eq_true rfl) dX9_copy_91 ⟨Nat.zero_le _, Nat.zero_le _⟩ (fun r hw => ?_)
              subst hw
              refine lv_if_ne (tgt := 103) hx hb dX9_copy_94 (by decide) (fun c_94 => ?_) (fun c_94 => ?_)
              ·
                have c_94 := bnz c_94
                have hC9 : wrongC lo fo lq fq n nq i1 j1 k1 = 0 := by unfold wrongC; rw [if_neg (fun h => h.elim (fun q => q c_38) (fun q => q c_46)), if_neg (fun h => h c_65), if_pos (And.intro c_82 c_94)]
                obtain ⟨iN, kN, hik, ei, ek⟩ := hr_nat hn c_82
                obtain ⟨jN, kN2, hjk, ej, ek2⟩ := hr_nat hnq c_94
                have ekk : kN = kN2 := by have h9 := ek.symm.trans ek2; exact n_eq h9 (by omega) (by omega)
                obtain ⟨iN, hik, rfl⟩ := (⟨iN, hik, ei⟩ : ∃ i, i + kN ≤ n ∧ i1 = nI i)
                obtain ⟨jN, hjk, rfl⟩ := (⟨jN, hjk, ej⟩ : ∃ i, i + kN2 ≤ nq ∧ j1 = nI i)
                obtain ⟨kN, hik, hjk, rfl⟩ := (⟨kN, hik, by omega, ek⟩ : ∃ i, iN + i ≤ n ∧ jN + i ≤ nq ∧ k1 = nI i)
                refine lv_aload hx hb dX9_copy_103 (lv_at hl 1 rfl) ?_
                refine va_get (D := D) (ci := 6) (v := .ref a0) (C := RX6) (T := TX6) (N := 4) hx hb hts iX6 hown hK hP 2 rfl rfl 0 (by decide) (hts (.fieldLink RX9 290 "DeepHole$Sheet" "items" "[I") (by decide +kernel)) (fun _ h9 => h9) rfl dX9_copy_105 ?_
                refine lv_iload_n hx hb dX9_copy_108 rfl (lv_at hl 4 rfl) ?_
                refine lv_aload hx hb dX9_copy_109 (lv_at hl 0 rfl) ?_
                refine va_get (D := D) (ci := 6) (v := .ref a2) (C := RX6) (T := TX6) (N := 4) hx hb hts iX6 hown hK hP 4 rfl rfl 0 (by decide) (hts (.fieldLink RX9 290 "DeepHole$Sheet" "items" "[I") (by decide +kernel)) (fun _ h9 => h9) rfl dX9_copy_111 ?_
                refine lv_iload hx hb dX9_copy_114 (lv_at hl 6 rfl) ?_
                refine lv_iload hx hb dX9_copy_116 (lv_at hl 7 rfl) ?_
                refine va_copyi hx hb (hml.trans hl.1.symm) hown (hts (.methodLink RX9 302 arraycopyName) (by decide +kernel)) (hts (.native arraycopyName) (by decide +kernel)) (hts (.static arraycopyName) (by decide +kernel)) (hts (.initialized "java/lang/System") (by decide +kernel)) hK hP hD hS 3 5 0 0 rfl rfl rfl rfl rfl (nI_pos (by omega)) (nI_pos (by omega)) (nI_pos (by omega)) (by rw [nI_clamp (by omega), nI_clamp (by omega)]; omega) (by rw [nI_clamp (by omega), nI_clamp (by omega)]; omega) (fun i _ => rfl) (Nat.le_of_ble_eq_true rfl) (by decide +kernel) dX9_copy_118 (fun H locs hP hD hS => ?_)
                have hP : va_P D vwCl [(x0, .inr (9, [.ref sx, .ref g0, .ref w0, .ref k0, .ref la, .ref tr, .ref u0, .ref pt, .ref ap, .ref sp, .int fd])), (sx, .inl (cS, 4, .inr (.inr (.inr (.inr sxf))))), (h0, .inr (6, [.ref a0, .int lo, .int fo, .int (nI n)])), (a0, .inl (cI, 60, .inl it)), (h2, .inr (6, [.ref a2, .int lq, .int fq, .int (nI nq)])), (a2, .inl (cI, 60, .inl (va_cpy it iq (nI iN).toNatClampNeg (nI jN).toNatClampNeg (nI kN).toNatClampNeg)))] H := hP
                have hD : va_D A [(x0, .inr (9, [.ref sx, .ref g0, .ref w0, .ref k0, .ref la, .ref tr, .ref u0, .ref pt, .ref ap, .ref sp, .int fd])), (sx, .inl (cS, 4, .inr (.inr (.inr (.inr sxf))))), (h0, .inr (6, [.ref a0, .int lo, .int fo, .int (nI n)])), (a0, .inl (cI, 60, .inl it)), (h2, .inr (6, [.ref a2, .int lq, .int fq, .int (nI nq)])), (a2, .inl (cI, 60, .inl (va_cpy it iq (nI iN).toNatClampNeg (nI jN).toNatClampNeg (nI kN).toNatClampNeg)))] := hD
                refine lv_iconst (v := 1) hx hb dX9_copy_121 (by decide) ?_
                have hP9 := hP.sub (ws' := [(x0, .inr (9, [.ref sx, .ref g0, .ref w0, .ref k0, .ref la, .ref tr, .ref u0, .ref pt, .ref ap, .ref sp, .int fd])), (sx, .inl (cS, 4, .inr (.inr (.inr (.inr sxf))))), (h0, .inr (6, [.ref a0, .int lo, .int fo, .int (nI n)])), (a0, .inl (cI, 60, .inl it)), (h2, .inr (6, [.ref a2, .int lq, .int fq, .int (nI nq)])), (a2, .inl (cI, 60, .inl (va_cpy it iq (nI iN).toNatClampNeg (nI jN).toNatClampNeg (nI kN).toNatClampNeg)))]) [0, 1, 2, 3, 4, 5] rfl
                have hD9 := hD.sub (ws' := [(x0, .inr (9, [.ref sx, .ref g0, .ref w0, .ref k0, .ref la, .ref tr, .ref u0, .ref pt, .ref ap, .ref sp, .int fd])), (sx, .inl (cS, 4, .inr (.inr (.inr (.inr sxf))))), (h0, .inr (6, [.ref a0, .int lo, .int fo, .int (nI n)])), (a0, .inl (cI, 60, .inl it)), (h2, .inr (6, [.ref a2, .int lq, .int fq, .int (nI nq)])), (a2, .inl (cI, 60, .inl (va_cpy it iq (nI iN).toNatClampNeg (nI jN).toNatClampNeg (nI kN).toNatClampNeg)))]) [0, 1, 2, 3, 4, 5] (by decide) rfl
                exact W.iret (v := 1) hx hb hr (fun t ht hW => ⟨⟨_, (fd, va_cpy it iq (nI iN).toNatClampNeg (nI jN).toNatClampNeg (nI kN).toNatClampNeg), rfl, (by rw [hC9]; exact ⟨rfl, rfl⟩), by rw [ht]; exact hP9, hD9⟩, hS.F ht⟩) hS.2.2 dX9_copy_122
              ·
                have c_94 := bz c_94
                refine lv_aload_n hx hb dX9_copy_97 rfl (lv_at hl 2 rfl) ?_
                refine lv_iconst (v := 2) hx hb dX9_copy_98 (by decide) ?_
                refine w_V (wc := [(x0, .inr (9, [.ref sx, .ref g0, .ref w0, .ref k0, .ref la, .ref tr, .ref u0, .ref pt, .ref ap, .ref sp, .int fd]))]) (wr := [(sx, .inl (cS, 4, .inr (.inr (.inr (.inr sxf))))), (h0, .inr (6, [.ref a0, .int lo, .int fo, .int (nI n)])), (a0, .inl (cI, 60, .inl it)), (h2, .inr (6, [.ref a2, .int lq, .int fq, .int (nI nq)])), (a2, .inl (cI, 60, .inl iq))]) (b := x0) ⟨hx, hb, hml, hown, hts⟩ [.int (2 : Int32)] [] c_X9_found (cwV 1 hts gX9_copy_X9_found rfl rfl rfl (by decide +kernel) ⟨Nat.le_of_ble_eq_true rfl, Nat.le_of_ble_eq_true rfl⟩) hK hN hP hD hS hA [0] [1, 2, 3, 4, 5] rfl (by decide) rfl (by decide) (by decide) (ci := 9) rfl rfl rfl rfl hl.1 rfl (Nat.le_of_ble_eq_true rfl) dX9_copy_99 ⟨Nat.zero_le _, Nat.zero_le _⟩ (fun r u H locs hw hP hD hS => ?_)
                have hP : va_P D vwCl [(sx, .inl (cS, 4, .inr (.inr (.inr (.inr sxf))))), (h0, .inr (6, [.ref a0, .int lo, .int fo, .int (nI n)])), (a0, .inl (cI, 60, .inl it)), (h2, .inr (6, [.ref a2, .int lq, .int fq, .int (nI nq)])), (a2, .inl (cI, 60, .inl iq)), (x0, .inr (9, [.ref sx, .ref g0, .ref w0, .ref k0, .ref la, .ref tr, .ref u0, .ref pt, .ref ap, .ref sp, .int (2 : Int32)]))] H := hP
                have hD : va_D A [(sx, .inl (cS, 4, .inr (.inr (.inr (.inr sxf))))), (h0, .inr (6, [.ref a0, .int lo, .int fo, .int (nI n)])), (a0, .inl (cI, 60, .inl it)), (h2, .inr (6, [.ref a2, .int lq, .int fq, .int (nI nq)])), (a2, .inl (cI, 60, .inl iq)), (x0, .inr (9, [.ref sx, .ref g0, .ref w0, .ref k0, .ref la, .ref tr, .ref u0, .ref pt, .ref ap, .ref sp, .int (2 : Int32)]))] := hD
                subst hw
                have hP9 := hP.sub (ws' := [(x0, .inr (9, [.ref sx, .ref g0, .ref w0, .ref k0, .ref la, .ref tr, .ref u0, .ref pt, .ref ap, .ref sp, .int (2 : Int32)])), (sx, .inl (cS, 4, .inr (.inr (.inr (.inr sxf))))), (h0, .inr (6, [.ref a0, .int lo, .int fo, .int (nI n)])), (a0, .inl (cI, 60, .inl it)), (h2, .inr (6, [.ref a2, .int lq, .int fq, .int (nI nq)])), (a2, .inl (cI, 60, .inl iq))]) [5, 0, 1, 2, 3, 4] rfl
                have hD9 := hD.sub (ws' := [(x0, .inr (9, [.ref sx, .ref g0, .ref w0, .ref k0, .ref la, .ref tr, .ref u0, .ref pt, .ref ap, .ref sp, .int (2 : Int32)])), (sx, .inl (cS, 4, .inr (.inr (.inr (.inr sxf))))), (h0, .inr (6, [.ref a0, .int lo, .int fo, .int (nI n)])), (a0, .inl (cI, 60, .inl it)), (h2, .inr (6, [.ref a2, .int lq, .int fq, .int (nI nq)])), (a2, .inl (cI, 60, .inl iq))]) [5, 0, 1, 2, 3, 4] (by decide) rfl
                exact W.iret (v := -10 - (2 : Int32)) hx hb hr (fun t ht hW => ⟨⟨_, (2, iq), rfl, (by have hC9 : wrongC lo fo lq fq n nq i1 j1 k1 = 2 := (by unfold wrongC; rw [if_neg (fun h => h.elim (fun q => q c_38) (fun q => q c_46)), if_neg (fun h => h c_65), if_neg (fun h => c_94 h.2)]); rw [hC9]; exact ⟨rfl, rfl⟩), by rw [ht]; exact hP9, hD9⟩, hS.F ht⟩) hS.2.2 dX9_copy_102
          ·
            refine lv_aload_n hx hb dX9_copy_68 rfl (lv_at hl 2 rfl) ?_
            refine lv_iconst (v := 4) hx hb dX9_copy_69 (by decide) ?_
            refine w_V (wc := [(x0, .inr (9, [.ref sx, .ref g0, .ref w0, .ref k0, .ref la, .ref tr, .ref u0, .ref pt, .ref ap, .ref sp, .int fd]))]) (wr := [(sx, .inl (cS, 4, .inr (.inr (.inr (.inr sxf))))), (h0, .inr (6, [.ref a0, .int lo, .int fo, .int (nI n)])), (a0, .inl (cI, 60, .inl it)), (h2, .inr (6, [.ref a2, .int lq, .int fq, .int (nI nq)])), (a2, .inl (cI, 60, .inl iq))]) (b := x0) ⟨hx, hb, hml, hown, hts⟩ [.int (4 : Int32)] [] c_X9_found (cwV 1 hts gX9_copy_X9_found rfl rfl rfl (by decide +kernel) ⟨Nat.le_of_ble_eq_true rfl, Nat.le_of_ble_eq_true rfl⟩) hK hN hP hD hS hA [0] [1, 2, 3, 4, 5] rfl (by decide) rfl (by decide) (by decide) (ci := 9) rfl rfl rfl rfl hl.1 rfl (Nat.le_of_ble_eq_true rfl) dX9_copy_70 ⟨Nat.zero_le _, Nat.zero_le _⟩ (fun r u H locs hw hP hD hS => ?_)
            have hP : va_P D vwCl [(sx, .inl (cS, 4, .inr (.inr (.inr (.inr sxf))))), (h0, .inr (6, [.ref a0, .int lo, .int fo, .int (nI n)])), (a0, .inl (cI, 60, .inl it)), (h2, .inr (6, [.ref a2, .int lq, .int fq, .int (nI nq)])), (a2, .inl (cI, 60, .inl iq)), (x0, .inr (9, [.ref sx, .ref g0, .ref w0, .ref k0, .ref la, .ref tr, .ref u0, .ref pt, .ref ap, .ref sp, .int (4 : Int32)]))] H := hP
            have hD : va_D A [(sx, .inl (cS, 4, .inr (.inr (.inr (.inr sxf))))), (h0, .inr (6, [.ref a0, .int lo, .int fo, .int (nI n)])), (a0, .inl (cI, 60, .inl it)), (h2, .inr (6, [.ref a2, .int lq, .int fq, .int (nI nq)])), (a2, .inl (cI, 60, .inl iq)), (x0, .inr (9, [.ref sx, .ref g0, .ref w0, .ref k0, .ref la, .ref tr, .ref u0, .ref pt, .ref ap, .ref sp, .int (4 : Int32)]))] := hD
            subst hw
            have hP9 := hP.sub (ws' := [(x0, .inr (9, [.ref sx, .ref g0, .ref w0, .ref k0, .ref la, .ref tr, .ref u0, .ref pt, .ref ap, .ref sp, .int (4 : Int32)])), (sx, .inl (cS, 4, .inr (.inr (.inr (.inr sxf))))), (h0, .inr (6, [.ref a0, .int lo, .int fo, .int (nI n)])), (a0, .inl (cI, 60, .inl it)), (h2, .inr (6, [.ref a2, .int lq, .int fq, .int (nI nq)])), (a2, .inl (cI, 60, .inl iq))]) [5, 0, 1, 2, 3, 4] rfl
            have hD9 := hD.sub (ws' := [(x0, .inr (9, [.ref sx, .ref g0, .ref w0, .ref k0, .ref la, .ref tr, .ref u0, .ref pt, .ref ap, .ref sp, .int (4 : Int32)])), (sx, .inl (cS, 4, .inr (.inr (.inr (.inr sxf))))), (h0, .inr (6, [.ref a0, .int lo, .int fo, .int (nI n)])), (a0, .inl (cI, 60, .inl it)), (h2, .inr (6, [.ref a2, .int lq, .int fq, .int (nI nq)])), (a2, .inl (cI, 60, .inl iq))]) [5, 0, 1, 2, 3, 4] (by decide) rfl
            exact W.iret (v := -10 - (4 : Int32)) hx hb hr (fun t ht hW => ⟨⟨_, (4, iq), rfl, (by have hC9 : wrongC lo fo lq fq n nq i1 j1 k1 = 4 := (by unfold wrongC; rw [if_neg (fun h => h.elim (fun q => q c_38) (fun q => q c_46)), if_pos c_65]); rw [hC9]; exact ⟨rfl, rfl⟩), by rw [ht]; exact hP9, hD9⟩, hS.F ht⟩) hS.2.2 dX9_copy_73
        ·
          refine lv_aload_n hx hb dX9_copy_49 rfl (lv_at hl 2 rfl) ?_
          refine lv_iconst (v := 1) hx hb dX9_copy_50 (by decide) ?_
          refine w_V (wc := [(x0, .inr (9, [.ref sx, .ref g0, .ref w0, .ref k0, .ref la, .ref tr, .ref u0, .ref pt, .ref ap, .ref sp, .int fd]))]) (wr := [(sx, .inl (cS, 4, .inr (.inr (.inr (.inr sxf))))), (h0, .inr (6, [.ref a0, .int lo, .int fo, .int (nI n)])), (a0, .inl (cI, 60, .inl it)), (h2, .inr (6, [.ref a2, .int lq, .int fq, .int (nI nq)])), (a2, .inl (cI, 60, .inl iq))]) (b := x0) ⟨hx, hb, hml, hown, hts⟩ [.int (1 : Int32)] [] c_X9_found (cwV 1 hts gX9_copy_X9_found rfl rfl rfl (by decide +kernel) ⟨Nat.le_of_ble_eq_true rfl, Nat.le_of_ble_eq_true rfl⟩) hK hN hP hD hS hA [0] [1, 2, 3, 4, 5] rfl (by decide) rfl (by decide) (by decide) (ci := 9) rfl rfl rfl rfl hl.1 rfl (Nat.le_of_ble_eq_true rfl) dX9_copy_51 ⟨Nat.zero_le _, Nat.zero_le _⟩ (fun r u H locs hw hP hD hS => ?_)
          have hP : va_P D vwCl [(sx, .inl (cS, 4, .inr (.inr (.inr (.inr sxf))))), (h0, .inr (6, [.ref a0, .int lo, .int fo, .int (nI n)])), (a0, .inl (cI, 60, .inl it)), (h2, .inr (6, [.ref a2, .int lq, .int fq, .int (nI nq)])), (a2, .inl (cI, 60, .inl iq)), (x0, .inr (9, [.ref sx, .ref g0, .ref w0, .ref k0, .ref la, .ref tr, .ref u0, .ref pt, .ref ap, .ref sp, .int (1 : Int32)]))] H := hP
          have hD : va_D A [(sx, .inl (cS, 4, .inr (.inr (.inr (.inr sxf))))), (h0, .inr (6, [.ref a0, .int lo, .int fo, .int (nI n)])), (a0, .inl (cI, 60, .inl it)), (h2, .inr (6, [.ref a2, .int lq, .int fq, .int (nI nq)])), (a2, .inl (cI, 60, .inl iq)), (x0, .inr (9, [.ref sx, .ref g0, .ref w0, .ref k0, .ref la, .ref tr, .ref u0, .ref pt, .ref ap, .ref sp, .int (1 : Int32)]))] := hD
          subst hw
          have hP9 := hP.sub (ws' := [(x0, .inr (9, [.ref sx, .ref g0, .ref w0, .ref k0, .ref la, .ref tr, .ref u0, .ref pt, .ref ap, .ref sp, .int (1 : Int32)])), (sx, .inl (cS, 4, .inr (.inr (.inr (.inr sxf))))), (h0, .inr (6, [.ref a0, .int lo, .int fo, .int (nI n)])), (a0, .inl (cI, 60, .inl it)), (h2, .inr (6, [.ref a2, .int lq, .int fq, .int (nI nq)])), (a2, .inl (cI, 60, .inl iq))]) [5, 0, 1, 2, 3, 4] rfl
          have hD9 := hD.sub (ws' := [(x0, .inr (9, [.ref sx, .ref g0, .ref w0, .ref k0, .ref la, .ref tr, .ref u0, .ref pt, .ref ap, .ref sp, .int (1 : Int32)])), (sx, .inl (cS, 4, .inr (.inr (.inr (.inr sxf))))), (h0, .inr (6, [.ref a0, .int lo, .int fo, .int (nI n)])), (a0, .inl (cI, 60, .inl it)), (h2, .inr (6, [.ref a2, .int lq, .int fq, .int (nI nq)])), (a2, .inl (cI, 60, .inl iq))]) [5, 0, 1, 2, 3, 4] (by decide) rfl
          exact W.iret (v := -10 - (1 : Int32)) hx hb hr (fun t ht hW => ⟨⟨_, (1, iq), rfl, (by have hC9 : wrongC lo fo lq fq n nq i1 j1 k1 = 1 := (by unfold wrongC; rw [if_pos (show ¬ lo = 0 ∨ ¬ lq = 0 from Or.inr c_46)]); rw [hC9]; exact ⟨rfl, rfl⟩), by rw [ht]; exact hP9, hD9⟩, hS.F ht⟩) hS.2.2 dX9_copy_54
    ·
      have c_11 := bz c_11
      exact absurd (show (0 : Int32) ≤ nI k2 ∧ nI k2 ≤ 3 from ⟨nI_pos' (by omega), nI_le (b := 3) (by omega) (by decide)⟩) c_11

set_option maxHeartbeats 4000000 in
set_option maxRecDepth 100000 in
theorem c_X9_copy_b {l : Launch} {D : va_G} {cI cS cP : ClassId} {sz : Nat} {x0 g0 w0 k0 la tr u0 pt ap sp : Nat} {fd : Int32} {sx : Nat} {h1 i1 t1 j1 k1 : Int32} (hbad : ¬ ((0 ≤ h1 ∧ h1 ≤ 3) ∧ (0 ≤ t1 ∧ t1 ≤ 3))) : Met l yX9_copy wsX9_copy ({ frames := 2, cells := 0, slots := 0, locals := 42 }) (PC D (TY cI cS cP) [.ref x0, .int h1, .int i1, .int t1, .int j1, .int k1] sz [(x0, .inr (9, [.ref sx, .ref g0, .ref w0, .ref k0, .ref la, .ref tr, .ref u0, .ref pt, .ref ap, .ref sp, .int fd]))]) (vp_Si (fun r => r = -2)) 0 0 (fun _ => False) := by
  refine Met.ofW (cc := cX9_copy) (maxL := 8) (ret := (some .int)) (by decide) rfl ?_
  intro p e s m args below meth c s₁ B hml hv
  obtain ⟨rfl, hsz, hP, hK, hD0, hN⟩ := hv
  have hx := B.exec
  have hb := B.bytes
  have hr := B.returns
  have hts := atoms_spec (ws := wsX9_copy) B.pre
  have hown : s.vm.findClass RX9 = some m.cls := findClass_of_methodNamed B.named
  have hlocks := B.notSynchronized
  subst hsz
  have hD := hD0
  have hP : va_P D vwCl [(x0, .inr (9, [.ref sx, .ref g0, .ref w0, .ref k0, .ref la, .ref tr, .ref u0, .ref pt, .ref ap, .ref sp, .int fd]))] s.heap := hP
  have hl := lv_entry ([.ref x0, .int h1, .int i1, .int t1, .int j1, .int k1]) (n := 8) (Nat.le_of_ble_eq_true rfl)
  rw [lg_entry_eq]
  generalize (lg_sl ([.ref x0, .int h1, .int i1, .int t1, .int j1, .int k1]) ++ List.replicate (8 - (lg_sl ([.ref x0, .int h1, .int i1, .int t1, .int j1, .int k1])).length) Slot.unset).toArray = ls at hl ⊢
  have hl : lv_has ls 8 [(0, .ref x0), (1, .int h1), (2, .int i1), (3, .int t1), (4, .int j1), (5, .int k1)] := hl
  refine lv_iload_n hx hb dX9_copy_0 rfl (lv_at hl 1 rfl) ?_
  refine q_S (tys := TY cI cS cP) (D := D) ⟨hx, hb, hml, hown, hts⟩ [.int h1] [] c_X9_isSheet (va_cwS 1 hts gX9_copy_X9_isSheet rfl rfl rfl (by decide +kernel) ⟨Nat.le_of_ble_eq_true rfl, Nat.le_of_ble_eq_true rfl⟩) hK hN rfl hl.1 rfl (Nat.le_of_ble_eq_true rfl) dX9_copy_1 ⟨Nat.zero_le _, Nat.zero_le _⟩ (fun r hw => ?_)
  subst hw
  refine lv_if_eq (tgt := 14) hx hb dX9_copy_4 (by decide) (fun c_4 => ?_) (fun c_4 => ?_)
  ·
    have c_4 := bz c_4
    refine lv_bipush (v := (-2)) hx hb dX9_copy_14 (by decide) ?_
    exact W.iret (v := (-2)) hx hb hr (fun t ht hW => ⟨_, rfl, (by rfl), ht⟩) (fun _ h => absurd h List.not_mem_nil) dX9_copy_16
  ·
    have c_4 := bnz c_4
    refine lv_iload_n hx hb dX9_copy_7 rfl (lv_at hl 3 rfl) ?_
    refine q_S (tys := TY cI cS cP) (D := D) ⟨hx, hb, hml, hown, hts⟩ [.int t1] [] c_X9_isSheet (va_cwS 1 hts gX9_copy_X9_isSheet rfl rfl rfl (by decide +kernel) ⟨Nat.le_of_ble_eq_true rfl, Nat.le_of_ble_eq_true rfl⟩) hK hN rfl hl.1 rfl (Nat.le_of_ble_eq_true rfl) dX9_copy_8 ⟨Nat.zero_le _, Nat.zero_le _⟩ (fun r hw => ?_)
    subst hw
    refine lv_if_ne (tgt := 17) hx hb dX9_copy_11 (by decide) (fun c_11 => ?_) (fun c_11 => ?_)
    ·
      have c_11 := bnz c_11
      exact absurd ⟨c_4, c_11⟩ hbad
    ·
      have c_11 := bz c_11
      refine lv_bipush (v := (-2)) hx hb dX9_copy_14 (by decide) ?_
      exact W.iret (v := (-2)) hx hb hr (fun t ht hW => ⟨_, rfl, (by rfl), ht⟩) (fun _ h => absurd h List.not_mem_nil) dX9_copy_16
