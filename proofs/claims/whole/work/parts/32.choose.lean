set_option maxHeartbeats 4000000 in
set_option maxRecDepth 100000 in
theorem c_X1_choose {l : Launch} {D : va_G} {cI cS cP : ClassId} {sz : Nat} {k0 g0 mu pa ra nb da wa sa : Nat} {i f d : Nat} {pr re dp : Nat → Nat} {wo so : Nat → Int32} {Wf : Nat → Nat → Bool} {rs : Nat → Option Nat} (hnb : nb ≤ 6) (hi : i < nb) (hf : f < d) (hd : d ≤ 50) (hpr : ∀ j, pr j ≤ 1000) (hre : ∀ j, re j ≤ 50) (hdp : dp f = dps (Wf f) f (d - f)) (hWm : ∀ t, f ≤ t → Wf f (t + 1) = true → Wf f t = true) (hrs : ∀ t, t ≤ d → (if t = d then 0 else if i + 1 < nb then wo ((i + 1) * 51 + t) else 2147483647) = wR (rs t)) (hrb : ∀ t r, rs t = some r → r ≤ 2400000) : Met l yX1_choose wsX1_choose ({ frames := 1, cells := 0, slots := 0, locals := 23 }) (PC D (TY cI cS cP) [.ref k0, .int (nI i), .int (nI f), .int (nI d)] sz [(k0, .inr (1, [.ref g0, .ref mu, .ref pa, .ref ra, .int (nI nb), .ref da, .ref wa, .ref sa])), (pa, .inl (cI, 6, .inl (nF pr))), (ra, .inl (cI, 6, .inl (nF re))), (da, .inl (cI, 50, .inl (nF dp))), (wa, .inl (cI, 306, .inl wo)), (sa, .inl (cI, 306, .inl so))]) (QV D (fun (u : Unit) => True) (fun (u : Unit) => [(k0, .inr (1, [.ref g0, .ref mu, .ref pa, .ref ra, .int (nI nb), .ref da, .ref wa, .ref sa])), (pa, .inl (cI, 6, .inl (nF pr))), (ra, .inl (cI, 6, .inl (nF re))), (da, .inl (cI, 50, .inl (nF dp))), (wa, .inl (cI, 306, .inl (upd wo (i * 51 + f) (wI (sel (fun t => Wf f t && decide (t ≤ re i)) (pr i) rs (f + 1) (d - f) none))))), (sa, .inl (cI, 306, .inl (upd so (i * 51 + f) (nI (sI f (sel (fun t => Wf f t && decide (t ≤ re i)) (pr i) rs (f + 1) (d - f) none))))))]) (va_A [(k0, .inr (1, [.ref g0, .ref mu, .ref pa, .ref ra, .int (nI nb), .ref da, .ref wa, .ref sa])), (pa, .inl (cI, 6, .inl (nF pr))), (ra, .inl (cI, 6, .inl (nF re))), (da, .inl (cI, 50, .inl (nF dp))), (wa, .inl (cI, 306, .inl wo)), (sa, .inl (cI, 306, .inl so))] sz)) 0 0 (va_A [(k0, .inr (1, [.ref g0, .ref mu, .ref pa, .ref ra, .int (nI nb), .ref da, .ref wa, .ref sa])), (pa, .inl (cI, 6, .inl (nF pr))), (ra, .inl (cI, 6, .inl (nF re))), (da, .inl (cI, 50, .inl (nF dp))), (wa, .inl (cI, 306, .inl wo)), (sa, .inl (cI, 306, .inl so))] sz) := by
  refine Met.ofW (cc := cX1_choose) (maxL := 10) (ret := none) (by decide) rfl ?_
  intro p e s m args below meth c s₁ B hml hv
  obtain ⟨rfl, hsz, hP, hK, hD0, hN⟩ := hv
  have hx := B.exec
  have hb := B.bytes
  have hr := B.returns
  have hts := atoms_spec (ws := wsX1_choose) B.pre
  have hown : s.vm.findClass RX1 = some m.cls := findClass_of_methodNamed B.named
  have hlocks := B.notSynchronized
  subst hsz
  have iX1 : ∀ w ∈ u_ws RX1 TX1 8, w ∈ wsX1_choose := by decide +kernel
  have hD := hD0.self (sz := s.heap.size)
  generalize hAe : va_A [(k0, .inr (1, [.ref g0, .ref mu, .ref pa, .ref ra, .int (nI nb), .ref da, .ref wa, .ref sa])), (pa, .inl (cI, 6, .inl (nF pr))), (ra, .inl (cI, 6, .inl (nF re))), (da, .inl (cI, 50, .inl (nF dp))), (wa, .inl (cI, 306, .inl wo)), (sa, .inl (cI, 306, .inl so))] s.heap.size = A at hD ⊢
  have hA : ∀ q : Nat, s.heap.size ≤ q → A q := fun q h => by rw [← hAe]; exact Or.inr h
  have hS : va_S A s.heap s.heap [] := va_S.rf
  have hP : va_P D vwCl [(k0, .inr (1, [.ref g0, .ref mu, .ref pa, .ref ra, .int (nI nb), .ref da, .ref wa, .ref sa])), (pa, .inl (cI, 6, .inl (nF pr))), (ra, .inl (cI, 6, .inl (nF re))), (da, .inl (cI, 50, .inl (nF dp))), (wa, .inl (cI, 306, .inl wo)), (sa, .inl (cI, 306, .inl so))] s.heap := hP
  have hl := lv_entry ([.ref k0, .int (nI i), .int (nI f), .int (nI d)]) (n := 10) (Nat.le_of_ble_eq_true rfl)
  rw [lg_entry_eq]
  generalize (lg_sl ([.ref k0, .int (nI i), .int (nI f), .int (nI d)]) ++ List.replicate (10 - (lg_sl ([.ref k0, .int (nI i), .int (nI f), .int (nI d)])).length) Slot.unset).toArray = ls at hl ⊢
  have hl : lv_has ls 10 [(0, .ref k0), (1, .int (nI i)), (2, .int (nI f)), (3, .int (nI d))] := hl
  have hdr := dps_rng (Wf := Wf f) (d - f) f
  have hri := hre i
  have hpi := hpr i
  refine lv_aload_n hx hb dX1_choose_0 rfl (lv_at hl 0 rfl) ?_
  refine va_get (D := D) (ci := 1) (v := .ref da) (C := RX1) (T := TX1) (N := 8) hx hb hts iX1 hown hK hP 0 rfl rfl 5 (by decide) (hts (.fieldLink RX1 25 "DeepHole$Casings" "deepest" "[I") (by decide +kernel)) (fun _ h9 => h9) rfl dX1_choose_1 ?_
  refine lv_iload_n hx hb dX1_choose_4 rfl (lv_at hl 2 rfl) ?_
  refine rd_i hx hb hK hP 3 0 rfl rfl (k := f) (by omega) (by decide) dX1_choose_5 ?_
  refine lv_eqi (z := nI (dp f)) rfl ?_
  refine lv_aload_n hx hb dX1_choose_6 rfl (lv_at hl 0 rfl) ?_
  refine va_get (D := D) (ci := 1) (v := .ref ra) (C := RX1) (T := TX1) (N := 8) hx hb hts iX1 hown hK hP 0 rfl rfl 3 (by decide) (hts (.fieldLink RX1 22 "DeepHole$Casings" "reaches" "[I") (by decide +kernel)) (fun _ h9 => h9) rfl dX1_choose_7 ?_
  refine lv_iload_n hx hb dX1_choose_10 rfl (lv_at hl 1 rfl) ?_
  refine rd_i hx hb hK hP 2 0 rfl rfl (k := i) (by omega) (by decide) dX1_choose_11 ?_
  refine lv_eqi (z := nI (re i)) rfl ?_
  refine va_mmin hx hb (hml.trans hl.1.symm) hown (hts (.methodLink RX1 65 Lib.Math.min.name) (by decide +kernel)) (hts (.static Lib.Math.min.name) (by decide +kernel)) (hts (.initialized "java/lang/Math") (by decide +kernel)) (hts (.code Lib.Math.min.name Lib.Math.min.code 2 (some .int)) (by decide +kernel)) (Nat.le_of_ble_eq_true rfl) (Nat.le_of_ble_eq_true rfl) (Nat.zero_le _) (Nat.zero_le _) dX1_choose_12 ?_
  refine lv_eqi (z := nI (min (dp f) (re i))) (mn_n (by omega) (by omega)) ?_
  refine lv_istore (lv' := [(4, .int (nI (min (dp f) (re i)))), (0, .ref k0), (1, .int (nI i)), (2, .int (nI f)), (3, .int (nI d))]) hx hb dX1_choose_15 hl (by decide) rfl (fun ls hl => ?_)
  refine lv_ldc hx hb hown (hts (.constant RX1 50 (2147483647)) (by decide +kernel)) dX1_choose_17 ?_
  refine lv_istore (lv' := [(5, .int 2147483647), (4, .int (nI (min (dp f) (re i)))), (0, .ref k0), (1, .int (nI i)), (2, .int (nI f)), (3, .int (nI d))]) hx hb dX1_choose_19 hl (by decide) rfl (fun ls hl => ?_)
  refine lv_iload_n hx hb dX1_choose_21 rfl (lv_at hl 4 rfl) ?_
  refine lv_istore (lv' := [(6, .int (nI f)), (5, .int 2147483647), (4, .int (nI (min (dp f) (re i)))), (0, .ref k0), (1, .int (nI i)), (2, .int (nI f)), (3, .int (nI d))]) hx hb dX1_choose_22 hl (by decide) rfl (fun ls hl => ?_)
  refine lv_iload_n hx hb dX1_choose_24 rfl (lv_at hl 5 rfl) ?_
  refine lv_iconst (v := 1) hx hb dX1_choose_25 (by decide) ?_
  refine lv_iadd hx hb dX1_choose_26 ?_
  refine lv_eqi (z := nI (f + 1)) (nI_add _ _) ?_
  refine lv_istore (lv' := [(7, .int (nI (f + 1))), (6, .int (nI f)), (5, .int 2147483647), (4, .int (nI (min (dp f) (re i)))), (0, .ref k0), (1, .int (nI i)), (2, .int (nI f)), (3, .int (nI d))]) hx hb dX1_choose_27 hl (by decide) rfl (fun ls hl => ?_)
  refine lp_w (I := fun zz9 H locs ls => ∃ (t : Nat) (b : Option (Nat × Nat)), zz9 = d + 1 - t ∧ (f + 1 ≤ t ∧ t ≤ d + 1) ∧ (∀ q, b = some q → q.1 ≤ 2900000) ∧ (sel (fun t => Wf f t && decide (t ≤ re i)) (pr i) rs (f + 1) (d - f) none = sel (fun t => Wf f t && decide (t ≤ re i)) (pr i) rs t (d + 1 - t) b) ∧ va_P D vwCl [(k0, .inr (1, [.ref g0, .ref mu, .ref pa, .ref ra, .int (nI nb), .ref da, .ref wa, .ref sa])), (pa, .inl (cI, 6, .inl (nF pr))), (ra, .inl (cI, 6, .inl (nF re))), (da, .inl (cI, 50, .inl (nF dp))), (wa, .inl (cI, 306, .inl wo)), (sa, .inl (cI, 306, .inl so))] H ∧ va_D A [(k0, .inr (1, [.ref g0, .ref mu, .ref pa, .ref ra, .int (nI nb), .ref da, .ref wa, .ref sa])), (pa, .inl (cI, 6, .inl (nF pr))), (ra, .inl (cI, 6, .inl (nF re))), (da, .inl (cI, 50, .inl (nF dp))), (wa, .inl (cI, 306, .inl wo)), (sa, .inl (cI, 306, .inl so))] ∧ va_S A s.heap H locs ∧ lv_has ls 10 [(0, .ref k0), (1, .int (nI i)), (2, .int (nI f)), (3, .int (nI d)), (4, .int (nI (min (dp f) (re i)))), (5, .int (wI b)), (6, .int (nI (sI f b))), (7, .int (nI t))]) ?_ (d + 1 - (f + 1)) ⟨f + 1, none, rfl, (by omega), (fun q h => by cases h), (by rw [show d + 1 - (f + 1) = d - f by omega]), hP.sub [0, 1, 2, 3, 4, 5] rfl, hD.sub [0, 1, 2, 3, 4, 5] (by decide) rfl, hS, lv_sub hl [4, 5, 6, 7, 3, 2, 1, 0] rfl⟩
  intro n_29 H locs ls ih_29 hI
  obtain ⟨t, b, hn_29, ht, hb9, hs, hP, hD, hS, hl⟩ := hI
  refine lv_iload hx hb dX1_choose_29 (lv_at hl 7 rfl) ?_
  refine lv_iload hx hb dX1_choose_31 (lv_at hl 4 rfl) ?_
  refine lv_icmp_gt (tgt := 96) hx hb dX1_choose_33 (by decide) (fun c_33 => ?_) (fun c_33 => ?_)
  ·
    have c_33 := n_gt (a := t) (b := (min (dp f) (re i))) c_33 (by omega) (by omega)
    have hfin : sel (fun t => Wf f t && decide (t ≤ re i)) (pr i) rs t (d + 1 - t) b = b := sel_skip _ _ _ (fun t9 a9 c9 => by
        rcases Nat.lt_or_ge (dp f) t9 with z | z
        · show (Wf f t9 && _) = false
          rw [dps_out2 (Wf := Wf f) hWm (d - f) t9 (by rw [← hdp]; exact z) (by omega)]; rfl
        · show (_ && decide (t9 ≤ re i)) = false
          rw [show decide (t9 ≤ re i) = false from decide_eq_false (by omega), Bool.and_false])
    rw [hfin] at hs
    have hl : lv_has ls 10 [(0, .ref k0), (1, .int (nI i)), (2, .int (nI f)), (3, .int (nI d)), (4, .int (nI (min (dp f) (re i)))), (5, .int (wI (sel (fun t => Wf f t && decide (t ≤ re i)) (pr i) rs (f + 1) (d - f) none))), (6, .int (nI (sI f b))), (7, .int (nI t))] := by rw [← (show wI b = wI (sel (fun t => Wf f t && decide (t ≤ re i)) (pr i) rs (f + 1) (d - f) none) from by rw [hs])]; exact hl
    have hl : lv_has ls 10 [(0, .ref k0), (1, .int (nI i)), (2, .int (nI f)), (3, .int (nI d)), (4, .int (nI (min (dp f) (re i)))), (5, .int (wI (sel (fun t => Wf f t && decide (t ≤ re i)) (pr i) rs (f + 1) (d - f) none))), (6, .int (nI (sI f (sel (fun t => Wf f t && decide (t ≤ re i)) (pr i) rs (f + 1) (d - f) none)))), (7, .int (nI t))] := by rw [← (show nI (sI f b) = nI (sI f (sel (fun t => Wf f t && decide (t ≤ re i)) (pr i) rs (f + 1) (d - f) none)) from by rw [hs])]; exact hl
    refine lv_aload_n hx hb dX1_choose_96 rfl (lv_at hl 0 rfl) ?_
    refine va_get (D := D) (ci := 1) (v := .ref wa) (C := RX1) (T := TX1) (N := 8) hx hb hts iX1 hown hK hP 0 rfl rfl 6 (by decide) (hts (.fieldLink RX1 28 "DeepHole$Casings" "worths" "[I") (by decide +kernel)) (fun _ h9 => h9) rfl dX1_choose_97 ?_
    refine lv_iload_n hx hb dX1_choose_100 rfl (lv_at hl 1 rfl) ?_
    refine lv_bipush (v := 51) hx hb dX1_choose_101 (by decide) ?_
    refine lv_imul hx hb dX1_choose_103 ?_
    refine lv_eqi (z := nI (i * 51)) (pk_mul _ _) ?_
    refine lv_iload_n hx hb dX1_choose_104 rfl (lv_at hl 2 rfl) ?_
    refine lv_iadd hx hb dX1_choose_105 ?_
    refine lv_eqi (z := nI ((i * 51) + f)) (nI_add _ _) ?_
    refine lv_iload hx hb dX1_choose_106 (lv_at hl 5 rfl) ?_
    refine wr_i hx hb hK hP hD hS 4 0 rfl rfl (k := (i * 51) + f) (by omega) (by decide) dX1_choose_108 (fun H locs hP hD hS => ?_)
    have hP : va_P D vwCl [(k0, .inr (1, [.ref g0, .ref mu, .ref pa, .ref ra, .int (nI nb), .ref da, .ref wa, .ref sa])), (pa, .inl (cI, 6, .inl (nF pr))), (ra, .inl (cI, 6, .inl (nF re))), (da, .inl (cI, 50, .inl (nF dp))), (wa, .inl (cI, 306, .inl (upd wo ((i * 51) + f) (wI (sel (fun t => Wf f t && decide (t ≤ re i)) (pr i) rs (f + 1) (d - f) none))))), (sa, .inl (cI, 306, .inl so))] H := hP
    have hD : va_D A [(k0, .inr (1, [.ref g0, .ref mu, .ref pa, .ref ra, .int (nI nb), .ref da, .ref wa, .ref sa])), (pa, .inl (cI, 6, .inl (nF pr))), (ra, .inl (cI, 6, .inl (nF re))), (da, .inl (cI, 50, .inl (nF dp))), (wa, .inl (cI, 306, .inl (upd wo ((i * 51) + f) (wI (sel (fun t => Wf f t && decide (t ≤ re i)) (pr i) rs (f + 1) (d - f) none))))), (sa, .inl (cI, 306, .inl so))] := hD
    refine lv_aload_n hx hb dX1_choose_109 rfl (lv_at hl 0 rfl) ?_
    refine va_get (D := D) (ci := 1) (v := .ref sa) (C := RX1) (T := TX1) (N := 8) hx hb hts iX1 hown hK hP 0 rfl rfl 7 (by decide) (hts (.fieldLink RX1 31 "DeepHole$Casings" "shoes" "[I") (by decide +kernel)) (fun _ h9 => h9) rfl dX1_choose_110 ?_
    refine lv_iload_n hx hb dX1_choose_113 rfl (lv_at hl 1 rfl) ?_
    refine lv_bipush (v := 51) hx hb dX1_choose_114 (by decide) ?_
    refine lv_imul hx hb dX1_choose_116 ?_
    refine lv_eqi (z := nI (i * 51)) (pk_mul _ _) ?_
    refine lv_iload_n hx hb dX1_choose_117 rfl (lv_at hl 2 rfl) ?_
    refine lv_iadd hx hb dX1_choose_118 ?_
    refine lv_eqi (z := nI ((i * 51) + f)) (nI_add _ _) ?_
    refine lv_iload hx hb dX1_choose_119 (lv_at hl 6 rfl) ?_
    refine wr_i hx hb hK hP hD hS 5 0 rfl rfl (k := (i * 51) + f) (by omega) (by decide) dX1_choose_121 (fun H locs hP hD hS => ?_)
    have hP : va_P D vwCl [(k0, .inr (1, [.ref g0, .ref mu, .ref pa, .ref ra, .int (nI nb), .ref da, .ref wa, .ref sa])), (pa, .inl (cI, 6, .inl (nF pr))), (ra, .inl (cI, 6, .inl (nF re))), (da, .inl (cI, 50, .inl (nF dp))), (wa, .inl (cI, 306, .inl (upd wo ((i * 51) + f) (wI (sel (fun t => Wf f t && decide (t ≤ re i)) (pr i) rs (f + 1) (d - f) none))))), (sa, .inl (cI, 306, .inl (upd so ((i * 51) + f) (nI (sI f (sel (fun t => Wf f t && decide (t ≤ re i)) (pr i) rs (f + 1) (d - f) none))))))] H := hP
    have hD : va_D A [(k0, .inr (1, [.ref g0, .ref mu, .ref pa, .ref ra, .int (nI nb), .ref da, .ref wa, .ref sa])), (pa, .inl (cI, 6, .inl (nF pr))), (ra, .inl (cI, 6, .inl (nF re))), (da, .inl (cI, 50, .inl (nF dp))), (wa, .inl (cI, 306, .inl (upd wo ((i * 51) + f) (wI (sel (fun t => Wf f t && decide (t ≤ re i)) (pr i) rs (f + 1) (d - f) none))))), (sa, .inl (cI, 306, .inl (upd so ((i * 51) + f) (nI (sI f (sel (fun t => Wf f t && decide (t ≤ re i)) (pr i) rs (f + 1) (d - f) none))))))] := hD
    have hP9 := hP.sub (ws' := [(k0, .inr (1, [.ref g0, .ref mu, .ref pa, .ref ra, .int (nI nb), .ref da, .ref wa, .ref sa])), (pa, .inl (cI, 6, .inl (nF pr))), (ra, .inl (cI, 6, .inl (nF re))), (da, .inl (cI, 50, .inl (nF dp))), (wa, .inl (cI, 306, .inl (upd wo ((i * 51) + f) (wI (sel (fun t => Wf f t && decide (t ≤ re i)) (pr i) rs (f + 1) (d - f) none))))), (sa, .inl (cI, 306, .inl (upd so ((i * 51) + f) (nI (sI f (sel (fun t => Wf f t && decide (t ≤ re i)) (pr i) rs (f + 1) (d - f) none))))))]) [0, 1, 2, 3, 4, 5] rfl
    have hD9 := hD.sub (ws' := [(k0, .inr (1, [.ref g0, .ref mu, .ref pa, .ref ra, .int (nI nb), .ref da, .ref wa, .ref sa])), (pa, .inl (cI, 6, .inl (nF pr))), (ra, .inl (cI, 6, .inl (nF re))), (da, .inl (cI, 50, .inl (nF dp))), (wa, .inl (cI, 306, .inl (upd wo ((i * 51) + f) (wI (sel (fun t => Wf f t && decide (t ≤ re i)) (pr i) rs (f + 1) (d - f) none))))), (sa, .inl (cI, 306, .inl (upd so ((i * 51) + f) (nI (sI f (sel (fun t => Wf f t && decide (t ≤ re i)) (pr i) rs (f + 1) (d - f) none))))))]) [0, 1, 2, 3, 4, 5] (by decide) rfl
    exact W.vret hx hb hr (fun t ht hW => ⟨⟨(), rfl, (trivial), by rw [ht]; exact hP9, hD9⟩, hS.F ht⟩) hS.2.2 dX1_choose_122
  ·
    have c_33 := n_ngt (a := t) (b := (min (dp f) (re i))) c_33 (by omega) (by omega)
    have hWt : (Wf f t && decide (t ≤ re i)) = true := by rw [dps_in (Wf := Wf f) (d - f) f t (by omega) (by rw [← hdp]; omega), decide_eq_true (show t ≤ re i by omega)]; rfl
    have hrt := hrs t (by omega)
    refine lv_aload_n hx hb dX1_choose_36 rfl (lv_at hl 0 rfl) ?_
    refine lv_iload_n hx hb dX1_choose_37 rfl (lv_at hl 1 rfl) ?_
    refine lv_iload hx hb dX1_choose_38 (lv_at hl 7 rfl) ?_
    refine lv_iload_n hx hb dX1_choose_40 rfl (lv_at hl 3 rfl) ?_
    refine q_V (wc := [(k0, .inr (1, [.ref g0, .ref mu, .ref pa, .ref ra, .int (nI nb), .ref da, .ref wa, .ref sa])), (wa, .inl (cI, 306, .inl wo))]) (b := k0) ⟨hx, hb, hml, hown, hts⟩ [.int (nI i), .int (nI t), .int (nI d)] [] (c_X1_worthBelow  (by first | assumption | omega) (by first | assumption | omega) (by first | assumption | omega) (by first | assumption | omega)) (cwV 3 hts gX1_choose_X1_worthBelow rfl rfl rfl (by decide +kernel) ⟨Nat.le_of_ble_eq_true rfl, Nat.le_of_ble_eq_true rfl⟩) hK hN hP hD [0, 4] rfl (by decide) (ci := 1) rfl rfl rfl rfl hl.1 rfl (Nat.le_of_ble_eq_true rfl) dX1_choose_41 ⟨Nat.zero_le _, Nat.zero_le _⟩ (fun r hw => ?_)
    subst hw
    refine lv_eqi (z := wR (rs t)) (hrt) ?_
    refine lv_istore (lv' := [(8, .int (wR (rs t))), (0, .ref k0), (1, .int (nI i)), (2, .int (nI f)), (3, .int (nI d)), (4, .int (nI (min (dp f) (re i)))), (5, .int (wI b)), (6, .int (nI (sI f b))), (7, .int (nI t))]) hx hb dX1_choose_44 hl (by decide) rfl (fun ls hl => ?_)
    refine lv_iload hx hb dX1_choose_46 (lv_at hl 0 rfl) ?_
    refine lv_ldc hx hb hown (hts (.constant RX1 50 (2147483647)) (by decide +kernel)) dX1_choose_48 ?_
    refine lv_icmp_ne (tgt := 56) hx hb dX1_choose_50 (by decide) (fun c_50 => ?_) (fun c_50 => ?_)
    ·
      obtain ⟨r, hr⟩ := wR_some c_50
      have hl : lv_has ls 10 [(8, .int (nI r)), (0, .ref k0), (1, .int (nI i)), (2, .int (nI f)), (3, .int (nI d)), (4, .int (nI (min (dp f) (re i)))), (5, .int (wI b)), (6, .int (nI (sI f b))), (7, .int (nI t))] := by rw [← (show wR (rs t) = nI r from by rw [hr]; rfl)]; exact hl
      have hrb9 := hrb t r hr
      have hm9 : pr i * t ≤ 1000 * 50 := Nat.mul_le_mul hpi (by omega)
      refine lv_aload_n hx hb dX1_choose_56 rfl (lv_at hl 1 rfl) ?_
      refine va_get (D := D) (ci := 1) (v := .ref pa) (C := RX1) (T := TX1) (N := 8) hx hb hts iX1 hown hK hP 0 rfl rfl 2 (by decide) (hts (.fieldLink RX1 18 "DeepHole$Casings" "prices" "[I") (by decide +kernel)) (fun _ h9 => h9) rfl dX1_choose_57 ?_
      refine lv_iload_n hx hb dX1_choose_60 rfl (lv_at hl 2 rfl) ?_
      refine rd_i hx hb hK hP 1 0 rfl rfl (k := i) (by omega) (by decide) dX1_choose_61 ?_
      refine lv_eqi (z := nI (pr i)) rfl ?_
      refine lv_iload hx hb dX1_choose_62 (lv_at hl 8 rfl) ?_
      refine lv_imul hx hb dX1_choose_64 ?_
      refine lv_eqi (z := nI ((pr i) * t)) (pk_mul _ _) ?_
      refine lv_bipush (v := 8) hx hb dX1_choose_65 (by decide) ?_
      refine lv_imul hx hb dX1_choose_67 ?_
      refine lv_eqi (z := nI (((pr i) * t) * 8)) (pk_mul _ _) ?_
      refine lv_iconst (v := 1) hx hb dX1_choose_68 (by decide) ?_
      refine lv_iadd hx hb dX1_choose_69 ?_
      refine lv_eqi (z := nI ((((pr i) * t) * 8) + 1)) (nI_add _ _) ?_
      refine lv_iload hx hb dX1_choose_70 (lv_at hl 0 rfl) ?_
      refine lv_iadd hx hb dX1_choose_72 ?_
      refine lv_eqi (z := nI (((((pr i) * t) * 8) + 1) + r)) (nI_add _ _) ?_
      refine lv_istore (lv' := [(9, .int (nI (((((pr i) * t) * 8) + 1) + r))), (8, .int (nI r)), (0, .ref k0), (1, .int (nI i)), (2, .int (nI f)), (3, .int (nI d)), (4, .int (nI (min (dp f) (re i)))), (5, .int (wI b)), (6, .int (nI (sI f b))), (7, .int (nI t))]) hx hb dX1_choose_73 hl (by decide) rfl (fun ls hl => ?_)
      refine lv_iload hx hb dX1_choose_75 (lv_at hl 0 rfl) ?_
      refine lv_iload hx hb dX1_choose_77 (lv_at hl 7 rfl) ?_
      refine lv_icmp_ge (tgt := 90) hx hb dX1_choose_79 (by decide) (fun c_79 => ?_) (fun c_79 => ?_)
      ·
        refine lv_iinc (v := nI (t + 1)) (lv' := [(7, .int (nI (t + 1))), (9, .int (nI (((((pr i) * t) * 8) + 1) + r))), (8, .int (nI r)), (0, .ref k0), (1, .int (nI i)), (2, .int (nI f)), (3, .int (nI d)), (4, .int (nI (min (dp f) (re i)))), (5, .int (wI b)), (6, .int (nI (sI f b)))]) hx hb dX1_choose_90 hl (k := 9) rfl (nI_1 _) (by decide) rfl (fun ls hl => ?_)
        refine lv_goto (tgt := 29) hx hb dX1_choose_93 (by decide) ?_
        exact ih_29 _ _ _ _ (by omega) ⟨t + 1, b, rfl, (by omega), (by first | exact hb9 | exact (fun q h => by cases h; simp only; omega)), (by rw [hs, sel_step (by omega), Nat.sub_sub]; first | rw [cnd_none hR0] | rw [cnd_some (Wt := (fun t => Wf f t && decide (t ≤ re i))) hWt hr, pick_no (by omega) hb9 c_79] | rw [cnd_some (Wt := (fun t => Wf f t && decide (t ≤ re i))) hWt hr, pick_yes (by omega) hb9 c_79]), hP.sub [0, 1, 2, 3, 4, 5] rfl, hD.sub [0, 1, 2, 3, 4, 5] (by decide) rfl, hS, lv_sub hl [3, 4, 5, 6, 7, 8, 9, 0] rfl⟩
      ·
        refine lv_iload hx hb dX1_choose_82 (lv_at hl 0 rfl) ?_
        refine lv_istore (lv' := [(5, .int (nI (((((pr i) * t) * 8) + 1) + r))), (9, .int (nI (((((pr i) * t) * 8) + 1) + r))), (8, .int (nI r)), (0, .ref k0), (1, .int (nI i)), (2, .int (nI f)), (3, .int (nI d)), (4, .int (nI (min (dp f) (re i)))), (6, .int (nI (sI f b))), (7, .int (nI t))]) hx hb dX1_choose_84 hl (by decide) rfl (fun ls hl => ?_)
        refine lv_iload hx hb dX1_choose_86 (lv_at hl 9 rfl) ?_
        refine lv_istore (lv' := [(6, .int (nI t)), (5, .int (nI (((((pr i) * t) * 8) + 1) + r))), (9, .int (nI (((((pr i) * t) * 8) + 1) + r))), (8, .int (nI r)), (0, .ref k0), (1, .int (nI i)), (2, .int (nI f)), (3, .int (nI d)), (4, .int (nI (min (dp f) (re i)))), (7, .int (nI t))]) hx hb dX1_choose_88 hl (by decide) rfl (fun ls hl => ?_)
        refine lv_iinc (v := nI (t + 1)) (lv' := [(7, .int (nI (t + 1))), (6, .int (nI t)), (5, .int (nI (((((pr i) * t) * 8) + 1) + r))), (9, .int (nI (((((pr i) * t) * 8) + 1) + r))), (8, .int (nI r)), (0, .ref k0), (1, .int (nI i)), (2, .int (nI f)), (3, .int (nI d)), (4, .int (nI (min (dp f) (re i))))]) hx hb dX1_choose_90 hl (k := 9) rfl (nI_1 _) (by decide) rfl (fun ls hl => ?_)
        refine lv_goto (tgt := 29) hx hb dX1_choose_93 (by decide) ?_
        exact ih_29 _ _ _ _ (by omega) ⟨t + 1, (some (pr i * t * 8 + 1 + r, t)), rfl, (by omega), (by first | exact hb9 | exact (fun q h => by cases h; simp only; omega)), (by rw [hs, sel_step (by omega), Nat.sub_sub]; first | rw [cnd_none hR0] | rw [cnd_some (Wt := (fun t => Wf f t && decide (t ≤ re i))) hWt hr, pick_no (by omega) hb9 c_79] | rw [cnd_some (Wt := (fun t => Wf f t && decide (t ≤ re i))) hWt hr, pick_yes (by omega) hb9 c_79]), hP.sub [0, 1, 2, 3, 4, 5] rfl, hD.sub [0, 1, 2, 3, 4, 5] (by decide) rfl, hS, lv_sub hl [5, 6, 7, 8, 9, 2, 1, 0] rfl⟩
    ·
      have hR0 : rs t = none := wR_none c_50 (hrb t)
      refine lv_goto (tgt := 90) hx hb dX1_choose_53 (by decide) ?_
      refine lv_iinc (v := nI (t + 1)) (lv' := [(7, .int (nI (t + 1))), (8, .int (wR (rs t))), (0, .ref k0), (1, .int (nI i)), (2, .int (nI f)), (3, .int (nI d)), (4, .int (nI (min (dp f) (re i)))), (5, .int (wI b)), (6, .int (nI (sI f b)))]) hx hb dX1_choose_90 hl (k := 8) rfl (nI_1 _) (by decide) rfl (fun ls hl => ?_)
      refine lv_goto (tgt := 29) hx hb dX1_choose_93 (by decide) ?_
      exact ih_29 _ _ _ _ (by omega) ⟨t + 1, b, rfl, (by omega), (by first | exact hb9 | exact (fun q h => by cases h; simp only; omega)), (by rw [hs, sel_step (by omega), Nat.sub_sub]; first | rw [cnd_none hR0] | rw [cnd_some (Wt := (fun t => Wf f t && decide (t ≤ re i))) hWt hr, pick_no (by omega) hb9 c_79] | rw [cnd_some (Wt := (fun t => Wf f t && decide (t ≤ re i))) hWt hr, pick_yes (by omega) hb9 c_79]), hP.sub [0, 1, 2, 3, 4, 5] rfl, hD.sub [0, 1, 2, 3, 4, 5] (by decide) rfl, hS, lv_sub hl [2, 3, 4, 5, 6, 7, 8, 0] rfl⟩
