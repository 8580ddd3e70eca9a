set_option maxHeartbeats 4000000 in
set_option maxRecDepth 100000 in
theorem c_X1_add {l : Launch} {D : va_G} {cI cS cP : ClassId} {sz : Nat} {k0 g0 mu pa ra nb da wa sa : Nat} {pr re : Nat → Nat} {x y : Nat} (hnb : nb ≤ 6) : Met l yX1_add wsX1_add ({ frames := 0, cells := 0, slots := 0, locals := 0 }) (PC D (TY cI cS cP) [.ref k0, .int (nI x), .int (nI y)] sz [(k0, .inr (1, [.ref g0, .ref mu, .ref pa, .ref ra, .int (nI nb), .ref da, .ref wa, .ref sa])), (pa, .inl (cI, 6, .inl (nF pr))), (ra, .inl (cI, 6, .inl (nF re)))]) (QI D (fun (r : Int32) (u : Nat × (Nat → Nat) × (Nat → Nat)) => (r = if (nb < 6) then 1 else 0) ∧ u = addN 6 (nb, pr, re) x y) (fun (u : Nat × (Nat → Nat) × (Nat → Nat)) => [(k0, .inr (1, [.ref g0, .ref mu, .ref pa, .ref ra, .int (nI u.1), .ref da, .ref wa, .ref sa])), (pa, .inl (cI, 6, .inl (nF u.2.1))), (ra, .inl (cI, 6, .inl (nF u.2.2)))]) (va_A [(k0, .inr (1, [.ref g0, .ref mu, .ref pa, .ref ra, .int (nI nb), .ref da, .ref wa, .ref sa])), (pa, .inl (cI, 6, .inl (nF pr))), (ra, .inl (cI, 6, .inl (nF re)))] sz)) 0 0 (va_A [(k0, .inr (1, [.ref g0, .ref mu, .ref pa, .ref ra, .int (nI nb), .ref da, .ref wa, .ref sa])), (pa, .inl (cI, 6, .inl (nF pr))), (ra, .inl (cI, 6, .inl (nF re)))] sz) := by
  refine Met.ofW (cc := cX1_add) (maxL := 3) (ret := (some .boolean)) (by decide) rfl ?_
  intro p e s m args below meth c s₁ B hml hv
  obtain ⟨rfl, hsz, hP, hK, hD0, hN⟩ := hv
  have hx := B.exec
  have hb := B.bytes
  have hr := B.returns
  have hts := atoms_spec (ws := wsX1_add) B.pre
  have hown : s.vm.findClass RX1 = some m.cls := findClass_of_methodNamed B.named
  have hlocks := B.notSynchronized
  subst hsz
  have iX1 : ∀ w ∈ u_ws RX1 TX1 8, w ∈ wsX1_add := by decide +kernel
  have hD := hD0.self (sz := s.heap.size)
  generalize hAe : va_A [(k0, .inr (1, [.ref g0, .ref mu, .ref pa, .ref ra, .int (nI nb), .ref da, .ref wa, .ref sa])), (pa, .inl (cI, 6, .inl (nF pr))), (ra, .inl (cI, 6, .inl (nF re)))] s.heap.size = A at hD ⊢
  have hA : ∀ q : Nat, s.heap.size ≤ q → A q := fun q h => by rw [← hAe]; exact Or.inr h
  have hS : va_S A s.heap s.heap [] := va_S.rf
  have hP : va_P D vwCl [(k0, .inr (1, [.ref g0, .ref mu, .ref pa, .ref ra, .int (nI nb), .ref da, .ref wa, .ref sa])), (pa, .inl (cI, 6, .inl (nF pr))), (ra, .inl (cI, 6, .inl (nF re)))] s.heap := hP
  have hl := lv_entry ([.ref k0, .int (nI x), .int (nI y)]) (n := 3) (Nat.le_of_ble_eq_true rfl)
  rw [lg_entry_eq]
  generalize (lg_sl ([.ref k0, .int (nI x), .int (nI y)]) ++ List.replicate (3 - (lg_sl ([.ref k0, .int (nI x), .int (nI y)])).length) Slot.unset).toArray = ls at hl ⊢
  have hl : lv_has ls 3 [(0, .ref k0), (1, .int (nI x)), (2, .int (nI y))] := hl
  refine lv_aload_n hx hb dX1_add_0 rfl (lv_at hl 0 rfl) ?_
  refine va_get (D := D) (ci := 1) (v := .int (nI nb)) (C := RX1) (T := TX1) (N := 8) hx hb hts iX1 hown hK hP 0 rfl rfl 4 (by decide) (hts (.fieldLink RX1 38 "DeepHole$Casings" "number" "I") (by decide +kernel)) (fun _ h9 => h9) rfl dX1_add_1 ?_
  refine lv_bipush (v := 6) hx hb dX1_add_4 (by decide) ?_
  refine lv_icmp_lt (tgt := 11) hx hb dX1_add_6 (by decide) (fun c_6 => ?_) (fun c_6 => ?_)
  ·
    have c_6 := n_lt (a := nb) (b := 6) c_6 (by omega) (by omega)
    refine lv_aload_n hx hb dX1_add_11 rfl (lv_at hl 0 rfl) ?_
    refine va_get (D := D) (ci := 1) (v := .ref pa) (C := RX1) (T := TX1) (N := 8) hx hb hts iX1 hown hK hP 0 rfl rfl 2 (by decide) (hts (.fieldLink RX1 18 "DeepHole$Casings" "prices" "[I") (by decide +kernel)) (fun _ h9 => h9) rfl dX1_add_12 ?_
    refine lv_aload_n hx hb dX1_add_15 rfl (lv_at hl 0 rfl) ?_
    refine va_get (D := D) (ci := 1) (v := .int (nI nb)) (C := RX1) (T := TX1) (N := 8) hx hb hts iX1 hown hK hP 0 rfl rfl 4 (by decide) (hts (.fieldLink RX1 38 "DeepHole$Casings" "number" "I") (by decide +kernel)) (fun _ h9 => h9) rfl dX1_add_16 ?_
    refine lv_iload_n hx hb dX1_add_19 rfl (lv_at hl 1 rfl) ?_
    refine wr_i hx hb hK hP hD hS 1 0 rfl rfl (k := nb) (by omega) (by decide) dX1_add_20 (fun H locs hP hD hS => ?_)
    rw [nF_upd] at hP hD
    have hP : va_P D vwCl [(k0, .inr (1, [.ref g0, .ref mu, .ref pa, .ref ra, .int (nI nb), .ref da, .ref wa, .ref sa])), (pa, .inl (cI, 6, .inl (nF (updN pr nb x)))), (ra, .inl (cI, 6, .inl (nF re)))] H := hP
    have hD : va_D A [(k0, .inr (1, [.ref g0, .ref mu, .ref pa, .ref ra, .int (nI nb), .ref da, .ref wa, .ref sa])), (pa, .inl (cI, 6, .inl (nF (updN pr nb x)))), (ra, .inl (cI, 6, .inl (nF re)))] := hD
    refine lv_aload_n hx hb dX1_add_21 rfl (lv_at hl 0 rfl) ?_
    refine va_get (D := D) (ci := 1) (v := .ref ra) (C := RX1) (T := TX1) (N := 8) hx hb hts iX1 hown hK hP 0 rfl rfl 3 (by decide) (hts (.fieldLink RX1 22 "DeepHole$Casings" "reaches" "[I") (by decide +kernel)) (fun _ h9 => h9) rfl dX1_add_22 ?_
    refine lv_aload_n hx hb dX1_add_25 rfl (lv_at hl 0 rfl) ?_
    refine va_get (D := D) (ci := 1) (v := .int (nI nb)) (C := RX1) (T := TX1) (N := 8) hx hb hts iX1 hown hK hP 0 rfl rfl 4 (by decide) (hts (.fieldLink RX1 38 "DeepHole$Casings" "number" "I") (by decide +kernel)) (fun _ h9 => h9) rfl dX1_add_26 ?_
    refine lv_iload_n hx hb dX1_add_29 rfl (lv_at hl 2 rfl) ?_
    refine wr_i hx hb hK hP hD hS 2 0 rfl rfl (k := nb) (by omega) (by decide) dX1_add_30 (fun H locs hP hD hS => ?_)
    rw [nF_upd] at hP hD
    have hP : va_P D vwCl [(k0, .inr (1, [.ref g0, .ref mu, .ref pa, .ref ra, .int (nI nb), .ref da, .ref wa, .ref sa])), (pa, .inl (cI, 6, .inl (nF (updN pr nb x)))), (ra, .inl (cI, 6, .inl (nF (updN re nb y))))] H := hP
    have hD : va_D A [(k0, .inr (1, [.ref g0, .ref mu, .ref pa, .ref ra, .int (nI nb), .ref da, .ref wa, .ref sa])), (pa, .inl (cI, 6, .inl (nF (updN pr nb x)))), (ra, .inl (cI, 6, .inl (nF (updN re nb y))))] := hD
    refine lv_aload_n hx hb dX1_add_31 rfl (lv_at hl 0 rfl) ?_
    refine lv_dup hx hb dX1_add_32 rfl ?_
    refine va_get (D := D) (ci := 1) (v := .int (nI nb)) (C := RX1) (T := TX1) (N := 8) hx hb hts iX1 hown hK hP 0 rfl rfl 4 (by decide) (hts (.fieldLink RX1 38 "DeepHole$Casings" "number" "I") (by decide +kernel)) (fun _ h9 => h9) rfl dX1_add_33 ?_
    refine lv_iconst (v := 1) hx hb dX1_add_36 (by decide) ?_
    refine lv_iadd hx hb dX1_add_37 ?_
    refine lv_eqi (z := nI (nb + 1)) (nI_add _ _) ?_
    refine va_put (D := D) (ci := 1) (v := .int (nI (nb + 1))) (ty := .int) (C := RX1) (T := TX1) (N := 8) hx hb hts iX1 tyX1 tyX1_ok nmX1 hown hK hP hD hS 0 rfl rfl 4 (by decide) (hts (.fieldLink RX1 38 "DeepHole$Casings" "number" "I") (by decide +kernel)) (fun _ h9 => h9) rfl (by decide +kernel) rfl rfl (Nat.le_of_ble_eq_true rfl) dX1_add_38 (fun H locs hP hD hS => ?_)
    have hP : va_P D vwCl [(k0, .inr (1, [.ref g0, .ref mu, .ref pa, .ref ra, .int (nI (nb + 1)), .ref da, .ref wa, .ref sa])), (pa, .inl (cI, 6, .inl (nF (updN pr nb x)))), (ra, .inl (cI, 6, .inl (nF (updN re nb y))))] H := hP
    have hD : va_D A [(k0, .inr (1, [.ref g0, .ref mu, .ref pa, .ref ra, .int (nI (nb + 1)), .ref da, .ref wa, .ref sa])), (pa, .inl (cI, 6, .inl (nF (updN pr nb x)))), (ra, .inl (cI, 6, .inl (nF (updN re nb y))))] := hD
    refine lv_iconst (v := 1) hx hb dX1_add_41 (by decide) ?_
    have hP9 := hP.sub (ws' := [(k0, .inr (1, [.ref g0, .ref mu, .ref pa, .ref ra, .int (nI (nb + 1)), .ref da, .ref wa, .ref sa])), (pa, .inl (cI, 6, .inl (nF (updN pr nb x)))), (ra, .inl (cI, 6, .inl (nF (updN re nb y))))]) [0, 1, 2] rfl
    have hD9 := hD.sub (ws' := [(k0, .inr (1, [.ref g0, .ref mu, .ref pa, .ref ra, .int (nI (nb + 1)), .ref da, .ref wa, .ref sa])), (pa, .inl (cI, 6, .inl (nF (updN pr nb x)))), (ra, .inl (cI, 6, .inl (nF (updN re nb y))))]) [0, 1, 2] (by decide) rfl
    exact W.zret (v := 1) hx hb hr (rfl) (fun t ht hW => ⟨⟨_, (nb + 1, updN pr nb x, updN re nb y), rfl, (by exact ⟨b_1 (by omega), by unfold addN; rw [if_pos (by simp; omega)]⟩), by rw [ht]; exact hP9, hD9⟩, hS.F ht⟩) hS.2.2 dX1_add_42
  ·
    have c_6 := n_nlt (a := nb) (b := 6) c_6 (by omega) (by omega)
    refine lv_iconst (v := 0) hx hb dX1_add_9 (by decide) ?_
    have hP9 := hP.sub (ws' := [(k0, .inr (1, [.ref g0, .ref mu, .ref pa, .ref ra, .int (nI nb), .ref da, .ref wa, .ref sa])), (pa, .inl (cI, 6, .inl (nF pr))), (ra, .inl (cI, 6, .inl (nF re)))]) [0, 1, 2] rfl
    have hD9 := hD.sub (ws' := [(k0, .inr (1, [.ref g0, .ref mu, .ref pa, .ref ra, .int (nI nb), .ref da, .ref wa, .ref sa])), (pa, .inl (cI, 6, .inl (nF pr))), (ra, .inl (cI, 6, .inl (nF re)))]) [0, 1, 2] (by decide) rfl
    exact W.zret (v := 0) hx hb hr (rfl) (fun t ht hW => ⟨⟨_, (nb, pr, re), rfl, (by exact ⟨b_0 (by omega), by unfold addN; rw [if_neg (by simp; omega)]⟩), by rw [ht]; exact hP9, hD9⟩, hS.F ht⟩) hS.2.2 dX1_add_10

set_option maxHeartbeats 4000000 in
set_option maxRecDepth 100000 in
theorem c_X1_deepestFrom {l : Launch} {D : va_G} {cI cS cP : ClassId} {sz : Nat} {k0 g0 mu pa ra nb da wa sa : Nat} {s0 a0 s1 a1 : Nat} {lo0 fo0 lo1 fo1 : Int32} {n0 n1 low high : Nat} {it0 it1 : Nat → Int32} {f d : Nat} {ma mb : Int64} (hn0 : n0 ≤ 60) (hn1 : n1 ≤ 60) (hlow : low ≤ 500) (hhigh : high ≤ 500) (hf : f ≤ d) (hd : d ≤ 50) : Met l yX1_deepestFrom wsX1_deepestFrom ({ frames := 4, cells := 0, slots := 0, locals := 90 }) (PC D (TY cI cS cP) [.ref k0, .int (nI f), .int (nI d)] sz [(k0, .inr (1, [.ref g0, .ref mu, .ref pa, .ref ra, .int (nI nb), .ref da, .ref wa, .ref sa])), (g0, .inr (3, [.ref s0, .ref s1, .int (nI low), .int (nI high)])), (s0, .inr (6, [.ref a0, .int lo0, .int fo0, .int (nI n0)])), (a0, .inl (cI, 60, .inl it0)), (s1, .inr (6, [.ref a1, .int lo1, .int fo1, .int (nI n1)])), (a1, .inl (cI, 60, .inl it1)), (mu, .inr (7, [.long ma, .long mb]))]) (QI D (fun (r : Int32) (u : Int64 × Int64) => r = nI (dps (wok (po it0 n0) (fr it1 n1) low high f) f (d - f))) (fun (u : Int64 × Int64) => [(k0, .inr (1, [.ref g0, .ref mu, .ref pa, .ref ra, .int (nI nb), .ref da, .ref wa, .ref sa])), (g0, .inr (3, [.ref s0, .ref s1, .int (nI low), .int (nI high)])), (s0, .inr (6, [.ref a0, .int lo0, .int fo0, .int (nI n0)])), (a0, .inl (cI, 60, .inl it0)), (s1, .inr (6, [.ref a1, .int lo1, .int fo1, .int (nI n1)])), (a1, .inl (cI, 60, .inl it1)), (mu, .inr (7, [.long u.1, .long u.2]))]) (va_A [(k0, .inr (1, [.ref g0, .ref mu, .ref pa, .ref ra, .int (nI nb), .ref da, .ref wa, .ref sa])), (g0, .inr (3, [.ref s0, .ref s1, .int (nI low), .int (nI high)])), (s0, .inr (6, [.ref a0, .int lo0, .int fo0, .int (nI n0)])), (a0, .inl (cI, 60, .inl it0)), (s1, .inr (6, [.ref a1, .int lo1, .int fo1, .int (nI n1)])), (a1, .inl (cI, 60, .inl it1)), (mu, .inr (7, [.long ma, .long mb]))] sz)) 0 0 (va_A [(k0, .inr (1, [.ref g0, .ref mu, .ref pa, .ref ra, .int (nI nb), .ref da, .ref wa, .ref sa])), (g0, .inr (3, [.ref s0, .ref s1, .int (nI low), .int (nI high)])), (s0, .inr (6, [.ref a0, .int lo0, .int fo0, .int (nI n0)])), (a0, .inl (cI, 60, .inl it0)), (s1, .inr (6, [.ref a1, .int lo1, .int fo1, .int (nI n1)])), (a1, .inl (cI, 60, .inl it1)), (mu, .inr (7, [.long ma, .long mb]))] sz) := by
  refine Met.ofW (cc := cX1_deepestFrom) (maxL := 4) (ret := (some .int)) (by decide) rfl ?_
  intro p e s m args below meth c s₁ B hml hv
  obtain ⟨rfl, hsz, hP, hK, hD0, hN⟩ := hv
  have hx := B.exec
  have hb := B.bytes
  have hr := B.returns
  have hts := atoms_spec (ws := wsX1_deepestFrom) B.pre
  have hown : s.vm.findClass RX1 = some m.cls := findClass_of_methodNamed B.named
  have hlocks := B.notSynchronized
  subst hsz
  have iX1 : ∀ w ∈ u_ws RX1 TX1 8, w ∈ wsX1_deepestFrom := by decide +kernel
  have hD := hD0.self (sz := s.heap.size)
  generalize hAe : va_A [(k0, .inr (1, [.ref g0, .ref mu, .ref pa, .ref ra, .int (nI nb), .ref da, .ref wa, .ref sa])), (g0, .inr (3, [.ref s0, .ref s1, .int (nI low), .int (nI high)])), (s0, .inr (6, [.ref a0, .int lo0, .int fo0, .int (nI n0)])), (a0, .inl (cI, 60, .inl it0)), (s1, .inr (6, [.ref a1, .int lo1, .int fo1, .int (nI n1)])), (a1, .inl (cI, 60, .inl it1)), (mu, .inr (7, [.long ma, .long mb]))] s.heap.size = A at hD ⊢
  have hA : ∀ q : Nat, s.heap.size ≤ q → A q := fun q h => by rw [← hAe]; exact Or.inr h
  have hS : va_S A s.heap s.heap [] := va_S.rf
  have hP : va_P D vwCl [(k0, .inr (1, [.ref g0, .ref mu, .ref pa, .ref ra, .int (nI nb), .ref da, .ref wa, .ref sa])), (g0, .inr (3, [.ref s0, .ref s1, .int (nI low), .int (nI high)])), (s0, .inr (6, [.ref a0, .int lo0, .int fo0, .int (nI n0)])), (a0, .inl (cI, 60, .inl it0)), (s1, .inr (6, [.ref a1, .int lo1, .int fo1, .int (nI n1)])), (a1, .inl (cI, 60, .inl it1)), (mu, .inr (7, [.long ma, .long mb]))] s.heap := hP
  have hl := lv_entry ([.ref k0, .int (nI f), .int (nI d)]) (n := 4) (Nat.le_of_ble_eq_true rfl)
  rw [lg_entry_eq]
  generalize (lg_sl ([.ref k0, .int (nI f), .int (nI d)]) ++ List.replicate (4 - (lg_sl ([.ref k0, .int (nI f), .int (nI d)])).length) Slot.unset).toArray = ls at hl ⊢
  have hl : lv_has ls 4 [(0, .ref k0), (1, .int (nI f)), (2, .int (nI d))] := hl
  have hpo := po_le it0 n0
  have hfr := fr_le it1 n1
  refine lv_aload_n hx hb dX1_deepestFrom_0 rfl (lv_at hl 0 rfl) ?_
  refine va_get (D := D) (ci := 1) (v := .ref g0) (C := RX1) (T := TX1) (N := 8) hx hb hts iX1 hown hK hP 0 rfl rfl 0 (by decide) (hts (.fieldLink RX1 34 "DeepHole$Casings" "ground" "LDeepHole$Ground;") (by decide +kernel)) (fun _ h9 => h9) rfl dX1_deepestFrom_1 ?_
  refine lv_aload_n hx hb dX1_deepestFrom_4 rfl (lv_at hl 0 rfl) ?_
  refine va_get (D := D) (ci := 1) (v := .ref mu) (C := RX1) (T := TX1) (N := 8) hx hb hts iX1 hown hK hP 0 rfl rfl 1 (by decide) (hts (.fieldLink RX1 12 "DeepHole$Casings" "muds" "LDeepHole$Span;") (by decide +kernel)) (fun _ h9 => h9) rfl dX1_deepestFrom_5 ?_
  refine w_Vv (wc := [(g0, .inr (3, [.ref s0, .ref s1, .int (nI low), .int (nI high)])), (mu, .inr (7, [.long ma, .long mb]))]) (wr := [(k0, .inr (1, [.ref g0, .ref mu, .ref pa, .ref ra, .int (nI nb), .ref da, .ref wa, .ref sa])), (s0, .inr (6, [.ref a0, .int lo0, .int fo0, .int (nI n0)])), (a0, .inl (cI, 60, .inl it0)), (s1, .inr (6, [.ref a1, .int lo1, .int fo1, .int (nI n1)])), (a1, .inl (cI, 60, .inl it1))]) (b := g0) ⟨hx, hb, hml, hown, hts⟩ [.ref mu] [] c_X3_widest (cwV 1 hts gX1_deepestFrom_X3_widest rfl rfl rfl (by decide +kernel) ⟨Nat.le_of_ble_eq_true rfl, Nat.le_of_ble_eq_true rfl⟩) hK hN hP hD hS hA [1, 6] [0, 2, 3, 4, 5] rfl (by decide) rfl (by decide) (by decide) (ci := 3) rfl rfl rfl rfl hl.1 rfl (Nat.le_of_ble_eq_true rfl) dX1_deepestFrom_8 ⟨Nat.zero_le _, Nat.zero_le _⟩ (fun u H locs hw hP hD hS => ?_)
  have hP : va_P D vwCl [(k0, .inr (1, [.ref g0, .ref mu, .ref pa, .ref ra, .int (nI nb), .ref da, .ref wa, .ref sa])), (s0, .inr (6, [.ref a0, .int lo0, .int fo0, .int (nI n0)])), (a0, .inl (cI, 60, .inl it0)), (s1, .inr (6, [.ref a1, .int lo1, .int fo1, .int (nI n1)])), (a1, .inl (cI, 60, .inl it1)), (g0, .inr (3, [.ref s0, .ref s1, .int (nI low), .int (nI high)])), (mu, .inr (7, [.long 0, .long 3000]))] H := hP
  have hD : va_D A [(k0, .inr (1, [.ref g0, .ref mu, .ref pa, .ref ra, .int (nI nb), .ref da, .ref wa, .ref sa])), (s0, .inr (6, [.ref a0, .int lo0, .int fo0, .int (nI n0)])), (a0, .inl (cI, 60, .inl it0)), (s1, .inr (6, [.ref a1, .int lo1, .int fo1, .int (nI n1)])), (a1, .inl (cI, 60, .inl it1)), (g0, .inr (3, [.ref s0, .ref s1, .int (nI low), .int (nI high)])), (mu, .inr (7, [.long 0, .long 3000]))] := hD
  refine lv_iload_n hx hb dX1_deepestFrom_11 rfl (lv_at hl 1 rfl) ?_
  refine lv_istore_n (lv' := [(3, .int (nI f)), (0, .ref k0), (1, .int (nI f)), (2, .int (nI d))]) hx hb dX1_deepestFrom_12 rfl hl (by decide) rfl (fun ls hl => ?_)
  have hcf : 0 = lI (wl (po it0 n0) low f 0 (f - f)) := by rw [Nat.sub_self]; rfl
  rw [hcf] at hP hD
  have hP : va_P D vwCl [(k0, .inr (1, [.ref g0, .ref mu, .ref pa, .ref ra, .int (nI nb), .ref da, .ref wa, .ref sa])), (s0, .inr (6, [.ref a0, .int lo0, .int fo0, .int (nI n0)])), (a0, .inl (cI, 60, .inl it0)), (s1, .inr (6, [.ref a1, .int lo1, .int fo1, .int (nI n1)])), (a1, .inl (cI, 60, .inl it1)), (g0, .inr (3, [.ref s0, .ref s1, .int (nI low), .int (nI high)])), (mu, .inr (7, [.long (lI (wl (po it0 n0) low f 0 (f - f))), .long 3000]))] H := hP
  have hD : va_D A [(k0, .inr (1, [.ref g0, .ref mu, .ref pa, .ref ra, .int (nI nb), .ref da, .ref wa, .ref sa])), (s0, .inr (6, [.ref a0, .int lo0, .int fo0, .int (nI n0)])), (a0, .inl (cI, 60, .inl it0)), (s1, .inr (6, [.ref a1, .int lo1, .int fo1, .int (nI n1)])), (a1, .inl (cI, 60, .inl it1)), (g0, .inr (3, [.ref s0, .ref s1, .int (nI low), .int (nI high)])), (mu, .inr (7, [.long (lI (wl (po it0 n0) low f 0 (f - f))), .long 3000]))] := hD
  have hcf : 3000 = lI (wh (fr it1 n1) high f 3000 (f - f)) := by rw [Nat.sub_self]; rfl
  rw [hcf] at hP hD
  have hP : va_P D vwCl [(k0, .inr (1, [.ref g0, .ref mu, .ref pa, .ref ra, .int (nI nb), .ref da, .ref wa, .ref sa])), (s0, .inr (6, [.ref a0, .int lo0, .int fo0, .int (nI n0)])), (a0, .inl (cI, 60, .inl it0)), (s1, .inr (6, [.ref a1, .int lo1, .int fo1, .int (nI n1)])), (a1, .inl (cI, 60, .inl it1)), (g0, .inr (3, [.ref s0, .ref s1, .int (nI low), .int (nI high)])), (mu, .inr (7, [.long (lI (wl (po it0 n0) low f 0 (f - f))), .long (lI (wh (fr it1 n1) high f 3000 (f - f)))]))] H := hP
  have hD : va_D A [(k0, .inr (1, [.ref g0, .ref mu, .ref pa, .ref ra, .int (nI nb), .ref da, .ref wa, .ref sa])), (s0, .inr (6, [.ref a0, .int lo0, .int fo0, .int (nI n0)])), (a0, .inl (cI, 60, .inl it0)), (s1, .inr (6, [.ref a1, .int lo1, .int fo1, .int (nI n1)])), (a1, .inl (cI, 60, .inl it1)), (g0, .inr (3, [.ref s0, .ref s1, .int (nI low), .int (nI high)])), (mu, .inr (7, [.long (lI (wl (po it0 n0) low f 0 (f - f))), .long (lI (wh (fr it1 n1) high f 3000 (f - f)))]))] := hD
  refine lp_w (I := fun zz9 H locs ls => ∃ (k : Nat), zz9 = d - k ∧ (f ≤ k) ∧ (k ≤ d) ∧ (dps (wok (po it0 n0) (fr it1 n1) low high f) f (d - f) = dps (wok (po it0 n0) (fr it1 n1) low high f) k (d - k)) ∧ va_P D vwCl [(k0, .inr (1, [.ref g0, .ref mu, .ref pa, .ref ra, .int (nI nb), .ref da, .ref wa, .ref sa])), (g0, .inr (3, [.ref s0, .ref s1, .int (nI low), .int (nI high)])), (s0, .inr (6, [.ref a0, .int lo0, .int fo0, .int (nI n0)])), (a0, .inl (cI, 60, .inl it0)), (s1, .inr (6, [.ref a1, .int lo1, .int fo1, .int (nI n1)])), (a1, .inl (cI, 60, .inl it1)), (mu, .inr (7, [.long (lI (wl (po it0 n0) low f 0 (k - f))), .long (lI (wh (fr it1 n1) high f 3000 (k - f)))]))] H ∧ va_D A [(k0, .inr (1, [.ref g0, .ref mu, .ref pa, .ref ra, .int (nI nb), .ref da, .ref wa, .ref sa])), (g0, .inr (3, [.ref s0, .ref s1, .int (nI low), .int (nI high)])), (s0, .inr (6, [.ref a0, .int lo0, .int fo0, .int (nI n0)])), (a0, .inl (cI, 60, .inl it0)), (s1, .inr (6, [.ref a1, .int lo1, .int fo1, .int (nI n1)])), (a1, .inl (cI, 60, .inl it1)), (mu, .inr (7, [.long (lI (wl (po it0 n0) low f 0 (k - f))), .long (lI (wh (fr it1 n1) high f 3000 (k - f)))]))] ∧ va_S A s.heap H locs ∧ lv_has ls 4 [(0, .ref k0), (1, .int (nI f)), (2, .int (nI d)), (3, .int (nI k))]) ?_ (d - f) ⟨f, rfl, (by omega), (by omega), (rfl), hP.sub [0, 5, 1, 2, 3, 4, 6] rfl, hD.sub [0, 5, 1, 2, 3, 4, 6] (by decide) rfl, hS, lv_sub hl [1, 2, 3, 0] rfl⟩
  intro n_13 H locs ls ih_13 hI
  obtain ⟨k, hn_13, hfk, hkd, hs, hP, hD, hS, hl⟩ := hI
  have hwl := wl_up (i := f) (a := 0) hpo hlow (k - f)
  have hwh := wh_up (i := f) (b := 3000) hfr hhigh (k - f)
  have hwl2 := wl_up (i := f) (a := 0) hpo hlow (k + 1 - f)
  have hwh2 := wh_up (i := f) (b := 3000) hfr hhigh (k + 1 - f)
  refine lv_iload_n hx hb dX1_deepestFrom_13 rfl (lv_at hl 3 rfl) ?_
  refine lv_iload_n hx hb dX1_deepestFrom_14 rfl (lv_at hl 2 rfl) ?_
  refine lv_icmp_ge (tgt := 49) hx hb dX1_deepestFrom_15 (by decide) (fun c_15 => ?_) (fun c_15 => ?_)
  ·
    have c_15 := n_ge (a := k) (b := d) c_15 (by omega) (by omega)
    refine lv_iload_n hx hb dX1_deepestFrom_49 rfl (lv_at hl 2 rfl) ?_
    have hP9 := hP.sub (ws' := [(k0, .inr (1, [.ref g0, .ref mu, .ref pa, .ref ra, .int (nI nb), .ref da, .ref wa, .ref sa])), (g0, .inr (3, [.ref s0, .ref s1, .int (nI low), .int (nI high)])), (s0, .inr (6, [.ref a0, .int lo0, .int fo0, .int (nI n0)])), (a0, .inl (cI, 60, .inl it0)), (s1, .inr (6, [.ref a1, .int lo1, .int fo1, .int (nI n1)])), (a1, .inl (cI, 60, .inl it1)), (mu, .inr (7, [.long (lI (wl (po it0 n0) low f 0 (k - f))), .long (lI (wh (fr it1 n1) high f 3000 (k - f)))]))]) [0, 1, 2, 3, 4, 5, 6] rfl
    have hD9 := hD.sub (ws' := [(k0, .inr (1, [.ref g0, .ref mu, .ref pa, .ref ra, .int (nI nb), .ref da, .ref wa, .ref sa])), (g0, .inr (3, [.ref s0, .ref s1, .int (nI low), .int (nI high)])), (s0, .inr (6, [.ref a0, .int lo0, .int fo0, .int (nI n0)])), (a0, .inl (cI, 60, .inl it0)), (s1, .inr (6, [.ref a1, .int lo1, .int fo1, .int (nI n1)])), (a1, .inl (cI, 60, .inl it1)), (mu, .inr (7, [.long (lI (wl (po it0 n0) low f 0 (k - f))), .long (lI (wh (fr it1 n1) high f 3000 (k - f)))]))]) [0, 1, 2, 3, 4, 5, 6] (by decide) rfl
    exact W.iret (v := nI d) hx hb hr (fun t ht hW => ⟨⟨_, (lI (wl (po it0 n0) low f 0 (k - f)), lI (wh (fr it1 n1) high f 3000 (k - f))), rfl, (by rw [hs, show d - k = 0 by omega, show d = k by omega]; rfl), by rw [ht]; exact hP9, hD9⟩, hS.F ht⟩) hS.2.2 dX1_deepestFrom_50
  ·
    have c_15 := n_nge (a := k) (b := d) c_15 (by omega) (by omega)
    refine lv_aload_n hx hb dX1_deepestFrom_18 rfl (lv_at hl 0 rfl) ?_
    refine va_get (D := D) (ci := 1) (v := .ref g0) (C := RX1) (T := TX1) (N := 8) hx hb hts iX1 hown hK hP 0 rfl rfl 0 (by decide) (hts (.fieldLink RX1 34 "DeepHole$Casings" "ground" "LDeepHole$Ground;") (by decide +kernel)) (fun _ h9 => h9) rfl dX1_deepestFrom_19 ?_
    refine lv_aload_n hx hb dX1_deepestFrom_22 rfl (lv_at hl 0 rfl) ?_
    refine va_get (D := D) (ci := 1) (v := .ref mu) (C := RX1) (T := TX1) (N := 8) hx hb hts iX1 hown hK hP 0 rfl rfl 1 (by decide) (hts (.fieldLink RX1 12 "DeepHole$Casings" "muds" "LDeepHole$Span;") (by decide +kernel)) (fun _ h9 => h9) rfl dX1_deepestFrom_23 ?_
    refine lv_iload_n hx hb dX1_deepestFrom_26 rfl (lv_at hl 3 rfl) ?_
    refine lv_iload_n hx hb dX1_deepestFrom_27 rfl (lv_at hl 3 rfl) ?_
    refine lv_eqi (z := nI (k + 1) - 1) ((nI_pred k).symm) ?_
    refine w_Vv (wc := [(g0, .inr (3, [.ref s0, .ref s1, .int (nI low), .int (nI high)])), (s0, .inr (6, [.ref a0, .int lo0, .int fo0, .int (nI n0)])), (a0, .inl (cI, 60, .inl it0)), (s1, .inr (6, [.ref a1, .int lo1, .int fo1, .int (nI n1)])), (a1, .inl (cI, 60, .inl it1)), (mu, .inr (7, [.long (lI (wl (po it0 n0) low f 0 (k - f))), .long (lI (wh (fr it1 n1) high f 3000 (k - f)))]))]) (wr := [(k0, .inr (1, [.ref g0, .ref mu, .ref pa, .ref ra, .int (nI nb), .ref da, .ref wa, .ref sa]))]) (b := g0) ⟨hx, hb, hml, hown, hts⟩ [.ref mu, .int (nI k), .int (nI (k + 1) - 1)] [] (c_X3_narrow  (by first | assumption | omega) (by first | assumption | omega) (by first | assumption | omega) (by first | assumption | omega) (by first | assumption | omega) (by first | assumption | omega) (by first | assumption | omega) (by first | assumption | omega)) (cwV 3 hts gX1_deepestFrom_X3_narrow rfl rfl rfl (by decide +kernel) ⟨Nat.le_of_ble_eq_true rfl, Nat.le_of_ble_eq_true rfl⟩) hK hN hP hD hS hA [1, 2, 3, 4, 5, 6] [0] rfl (by decide) rfl (by decide) (by decide) (ci := 3) rfl rfl rfl rfl hl.1 rfl (Nat.le_of_ble_eq_true rfl) dX1_deepestFrom_28 ⟨Nat.zero_le _, Nat.zero_le _⟩ (fun u H locs hw hP hD hS => ?_)
    have hP : va_P D vwCl [(k0, .inr (1, [.ref g0, .ref mu, .ref pa, .ref ra, .int (nI nb), .ref da, .ref wa, .ref sa])), (g0, .inr (3, [.ref s0, .ref s1, .int (nI low), .int (nI high)])), (s0, .inr (6, [.ref a0, .int lo0, .int fo0, .int (nI n0)])), (a0, .inl (cI, 60, .inl it0)), (s1, .inr (6, [.ref a1, .int lo1, .int fo1, .int (nI n1)])), (a1, .inl (cI, 60, .inl it1)), (mu, .inr (7, [.long (lI (wl (po it0 n0) low k (wl (po it0 n0) low f 0 (k - f)) ((k + 1) - k))), .long (lI (wh (fr it1 n1) high k (wh (fr it1 n1) high f 3000 (k - f)) ((k + 1) - k)))]))] H := hP
    have hD : va_D A [(k0, .inr (1, [.ref g0, .ref mu, .ref pa, .ref ra, .int (nI nb), .ref da, .ref wa, .ref sa])), (g0, .inr (3, [.ref s0, .ref s1, .int (nI low), .int (nI high)])), (s0, .inr (6, [.ref a0, .int lo0, .int fo0, .int (nI n0)])), (a0, .inl (cI, 60, .inl it0)), (s1, .inr (6, [.ref a1, .int lo1, .int fo1, .int (nI n1)])), (a1, .inl (cI, 60, .inl it1)), (mu, .inr (7, [.long (lI (wl (po it0 n0) low k (wl (po it0 n0) low f 0 (k - f)) ((k + 1) - k))), .long (lI (wh (fr it1 n1) high k (wh (fr it1 n1) high f 3000 (k - f)) ((k + 1) - k)))]))] := hD
    have hcf : lI (wl (po it0 n0) low k (wl (po it0 n0) low f 0 (k - f)) ((k + 1) - k)) = lI (wl (po it0 n0) low f 0 ((k + 1) - f)) := by rw [wl_one hfk]
    rw [hcf] at hP hD
    have hP : va_P D vwCl [(k0, .inr (1, [.ref g0, .ref mu, .ref pa, .ref ra, .int (nI nb), .ref da, .ref wa, .ref sa])), (g0, .inr (3, [.ref s0, .ref s1, .int (nI low), .int (nI high)])), (s0, .inr (6, [.ref a0, .int lo0, .int fo0, .int (nI n0)])), (a0, .inl (cI, 60, .inl it0)), (s1, .inr (6, [.ref a1, .int lo1, .int fo1, .int (nI n1)])), (a1, .inl (cI, 60, .inl it1)), (mu, .inr (7, [.long (lI (wl (po it0 n0) low f 0 ((k + 1) - f))), .long (lI (wh (fr it1 n1) high k (wh (fr it1 n1) high f 3000 (k - f)) ((k + 1) - k)))]))] H := hP
    have hD : va_D A [(k0, .inr (1, [.ref g0, .ref mu, .ref pa, .ref ra, .int (nI nb), .ref da, .ref wa, .ref sa])), (g0, .inr (3, [.ref s0, .ref s1, .int (nI low), .int (nI high)])), (s0, .inr (6, [.ref a0, .int lo0, .int fo0, .int (nI n0)])), (a0, .inl (cI, 60, .inl it0)), (s1, .inr (6, [.ref a1, .int lo1, .int fo1, .int (nI n1)])), (a1, .inl (cI, 60, .inl it1)), (mu, .inr (7, [.long (lI (wl (po it0 n0) low f 0 ((k + 1) - f))), .long (lI (wh (fr it1 n1) high k (wh (fr it1 n1) high f 3000 (k - f)) ((k + 1) - k)))]))] := hD
    have hcf : lI (wh (fr it1 n1) high k (wh (fr it1 n1) high f 3000 (k - f)) ((k + 1) - k)) = lI (wh (fr it1 n1) high f 3000 ((k + 1) - f)) := by rw [wh_one hfk]
    rw [hcf] at hP hD
    have hP : va_P D vwCl [(k0, .inr (1, [.ref g0, .ref mu, .ref pa, .ref ra, .int (nI nb), .ref da, .ref wa, .ref sa])), (g0, .inr (3, [.ref s0, .ref s1, .int (nI low), .int (nI high)])), (s0, .inr (6, [.ref a0, .int lo0, .int fo0, .int (nI n0)])), (a0, .inl (cI, 60, .inl it0)), (s1, .inr (6, [.ref a1, .int lo1, .int fo1, .int (nI n1)])), (a1, .inl (cI, 60, .inl it1)), (mu, .inr (7, [.long (lI (wl (po it0 n0) low f 0 ((k + 1) - f))), .long (lI (wh (fr it1 n1) high f 3000 ((k + 1) - f)))]))] H := hP
    have hD : va_D A [(k0, .inr (1, [.ref g0, .ref mu, .ref pa, .ref ra, .int (nI nb), .ref da, .ref wa, .ref sa])), (g0, .inr (3, [.ref s0, .ref s1, .int (nI low), .int (nI high)])), (s0, .inr (6, [.ref a0, .int lo0, .int fo0, .int (nI n0)])), (a0, .inl (cI, 60, .inl it0)), (s1, .inr (6, [.ref a1, .int lo1, .int fo1, .int (nI n1)])), (a1, .inl (cI, 60, .inl it1)), (mu, .inr (7, [.long (lI (wl (po it0 n0) low f 0 ((k + 1) - f))), .long (lI (wh (fr it1 n1) high f 3000 ((k + 1) - f)))]))] := hD
    refine lv_aload_n hx hb dX1_deepestFrom_31 rfl (lv_at hl 0 rfl) ?_
    refine va_get (D := D) (ci := 1) (v := .ref mu) (C := RX1) (T := TX1) (N := 8) hx hb hts iX1 hown hK hP 0 rfl rfl 1 (by decide) (hts (.fieldLink RX1 12 "DeepHole$Casings" "muds" "LDeepHole$Span;") (by decide +kernel)) (fun _ h9 => h9) rfl dX1_deepestFrom_32 ?_
    refine q_V (wc := [(mu, .inr (7, [.long (lI (wl (po it0 n0) low f 0 ((k + 1) - f))), .long (lI (wh (fr it1 n1) high f 3000 ((k + 1) - f)))]))]) (b := mu) ⟨hx, hb, hml, hown, hts⟩ [] [] (c_X7_isEmpty  (by first | assumption | omega) (by first | assumption | omega)) (cwV 0 hts gX1_deepestFrom_X7_isEmpty rfl rfl rfl (by decide +kernel) ⟨Nat.le_of_ble_eq_true rfl, Nat.le_of_ble_eq_true rfl⟩) hK hN hP hD [6] rfl (by decide) (ci := 7) rfl rfl rfl rfl hl.1 rfl (Nat.le_of_ble_eq_true rfl) dX1_deepestFrom_35 ⟨Nat.zero_le _, Nat.zero_le _⟩ (fun r hw => ?_)
    subst hw
    refine lv_if_eq (tgt := 43) hx hb dX1_deepestFrom_38 (by decide) (fun c_38 => ?_) (fun c_38 => ?_)
    ·
      have c_38 := bz c_38
      refine lv_iinc (v := nI (k + 1)) (lv' := [(3, .int (nI (k + 1))), (0, .ref k0), (1, .int (nI f)), (2, .int (nI d))]) hx hb dX1_deepestFrom_43 hl (k := 3) rfl (nI_1 _) (by decide) rfl (fun ls hl => ?_)
      refine lv_goto (tgt := 13) hx hb dX1_deepestFrom_46 (by decide) ?_
      exact ih_13 _ _ _ _ (by omega) ⟨k + 1, rfl, (by omega), (by omega), (by rw [hs, dps_yes (by omega) (decide_eq_true (by omega)), Nat.sub_sub]), hP.sub [0, 1, 2, 3, 4, 5, 6] rfl, hD.sub [0, 1, 2, 3, 4, 5, 6] (by decide) rfl, hS, lv_sub hl [1, 2, 3, 0] rfl⟩
    ·
      have c_38 := bnz c_38
      refine lv_iload_n hx hb dX1_deepestFrom_41 rfl (lv_at hl 3 rfl) ?_
      have hP9 := hP.sub (ws' := [(k0, .inr (1, [.ref g0, .ref mu, .ref pa, .ref ra, .int (nI nb), .ref da, .ref wa, .ref sa])), (g0, .inr (3, [.ref s0, .ref s1, .int (nI low), .int (nI high)])), (s0, .inr (6, [.ref a0, .int lo0, .int fo0, .int (nI n0)])), (a0, .inl (cI, 60, .inl it0)), (s1, .inr (6, [.ref a1, .int lo1, .int fo1, .int (nI n1)])), (a1, .inl (cI, 60, .inl it1)), (mu, .inr (7, [.long (lI (wl (po it0 n0) low f 0 ((k + 1) - f))), .long (lI (wh (fr it1 n1) high f 3000 ((k + 1) - f)))]))]) [0, 1, 2, 3, 4, 5, 6] rfl
      have hD9 := hD.sub (ws' := [(k0, .inr (1, [.ref g0, .ref mu, .ref pa, .ref ra, .int (nI nb), .ref da, .ref wa, .ref sa])), (g0, .inr (3, [.ref s0, .ref s1, .int (nI low), .int (nI high)])), (s0, .inr (6, [.ref a0, .int lo0, .int fo0, .int (nI n0)])), (a0, .inl (cI, 60, .inl it0)), (s1, .inr (6, [.ref a1, .int lo1, .int fo1, .int (nI n1)])), (a1, .inl (cI, 60, .inl it1)), (mu, .inr (7, [.long (lI (wl (po it0 n0) low f 0 ((k + 1) - f))), .long (lI (wh (fr it1 n1) high f 3000 ((k + 1) - f)))]))]) [0, 1, 2, 3, 4, 5, 6] (by decide) rfl
      exact W.iret (v := nI k) hx hb hr (fun t ht hW => ⟨⟨_, (lI (wl (po it0 n0) low f 0 ((k + 1) - f)), lI (wh (fr it1 n1) high f 3000 ((k + 1) - f))), rfl, (by rw [hs, dps_no (by omega) (fun h => by have h := of_decide_eq_true h; omega)]), by rw [ht]; exact hP9, hD9⟩, hS.F ht⟩) hS.2.2 dX1_deepestFrom_42

set_option maxHeartbeats 4000000 in
set_option maxRecDepth 100000 in
theorem c_X1_worthBelow {l : Launch} {D : va_G} {cI cS cP : ClassId} {sz : Nat} {k0 g0 mu pa ra nb da wa sa : Nat} {i t0 d : Nat} {wo : Nat → Int32} (hnb : nb ≤ 6) (hi : i < 6) (ht : t0 ≤ 50) (hd : d ≤ 50) : Met l yX1_worthBelow wsX1_worthBelow ({ frames := 0, cells := 0, slots := 0, locals := 0 }) (PC D (TY cI cS cP) [.ref k0, .int (nI i), .int (nI t0), .int (nI d)] sz [(k0, .inr (1, [.ref g0, .ref mu, .ref pa, .ref ra, .int (nI nb), .ref da, .ref wa, .ref sa])), (wa, .inl (cI, 306, .inl wo))]) (vp_Si (fun r => r = if t0 = d then 0 else if i + 1 < nb then wo ((i + 1) * 51 + t0) else 2147483647)) 0 0 (fun _ => False) := by
  refine Met.ofW (cc := cX1_worthBelow) (maxL := 4) (ret := (some .int)) (by decide) rfl ?_
  intro p e s m args below meth c s₁ B hml hv
  obtain ⟨rfl, hsz, hP, hK, hD0, hN⟩ := hv
  have hx := B.exec
  have hb := B.bytes
  have hr := B.returns
  have hts := atoms_spec (ws := wsX1_worthBelow) B.pre
  have hown : s.vm.findClass RX1 = some m.cls := findClass_of_methodNamed B.named
  have hlocks := B.notSynchronized
  subst hsz
  have iX1 : ∀ w ∈ u_ws RX1 TX1 8, w ∈ wsX1_worthBelow := by decide +kernel
  have hD := hD0
  have hP : va_P D vwCl [(k0, .inr (1, [.ref g0, .ref mu, .ref pa, .ref ra, .int (nI nb), .ref da, .ref wa, .ref sa])), (wa, .inl (cI, 306, .inl wo))] s.heap := hP
  have hl := lv_entry ([.ref k0, .int (nI i), .int (nI t0), .int (nI d)]) (n := 4) (Nat.le_of_ble_eq_true rfl)
  rw [lg_entry_eq]
  generalize (lg_sl ([.ref k0, .int (nI i), .int (nI t0), .int (nI d)]) ++ List.replicate (4 - (lg_sl ([.ref k0, .int (nI i), .int (nI t0), .int (nI d)])).length) Slot.unset).toArray = ls at hl ⊢
  have hl : lv_has ls 4 [(0, .ref k0), (1, .int (nI i)), (2, .int (nI t0)), (3, .int (nI d))] := hl
  refine lv_iload_n hx hb dX1_worthBelow_0 rfl (lv_at hl 2 rfl) ?_
  refine lv_iload_n hx hb dX1_worthBelow_1 rfl (lv_at hl 3 rfl) ?_
  refine lv_icmp_ne (tgt := 7) hx hb dX1_worthBelow_2 (by decide) (fun c_2 => ?_) (fun c_2 => ?_)
  ·
    have c_2 := n_ne (a := t0) (b := d) c_2 (by omega) (by omega)
    refine lv_iload_n hx hb dX1_worthBelow_7 rfl (lv_at hl 1 rfl) ?_
    refine lv_iconst (v := 1) hx hb dX1_worthBelow_8 (by decide) ?_
    refine lv_iadd hx hb dX1_worthBelow_9 ?_
    refine lv_eqi (z := nI (i + 1)) (nI_add _ _) ?_
    refine lv_aload_n hx hb dX1_worthBelow_10 rfl (lv_at hl 0 rfl) ?_
    refine va_get (D := D) (ci := 1) (v := .int (nI nb)) (C := RX1) (T := TX1) (N := 8) hx hb hts iX1 hown hK hP 0 rfl rfl 4 (by decide) (hts (.fieldLink RX1 38 "DeepHole$Casings" "number" "I") (by decide +kernel)) (fun _ h9 => h9) rfl dX1_worthBelow_11 ?_
    refine lv_icmp_ge (tgt := 33) hx hb dX1_worthBelow_14 (by decide) (fun c_14 => ?_) (fun c_14 => ?_)
    ·
      have c_14 := n_ge (a := (i + 1)) (b := nb) c_14 (by omega) (by omega)
      refine lv_ldc hx hb hown (hts (.constant RX1 50 (2147483647)) (by decide +kernel)) dX1_worthBelow_33 ?_
      exact W.iret (v := 2147483647) hx hb hr (fun t ht hW => ⟨_, rfl, (by first | rw [if_neg c_2, if_pos (by omega)] | rw [if_neg c_2, if_neg (by omega)]), ht⟩) (fun _ h => absurd h List.not_mem_nil) dX1_worthBelow_35
    ·
      have c_14 := n_nge (a := (i + 1)) (b := nb) c_14 (by omega) (by omega)
      refine lv_aload_n hx hb dX1_worthBelow_17 rfl (lv_at hl 0 rfl) ?_
      refine va_get (D := D) (ci := 1) (v := .ref wa) (C := RX1) (T := TX1) (N := 8) hx hb hts iX1 hown hK hP 0 rfl rfl 6 (by decide) (hts (.fieldLink RX1 28 "DeepHole$Casings" "worths" "[I") (by decide +kernel)) (fun _ h9 => h9) rfl dX1_worthBelow_18 ?_
      refine lv_iload_n hx hb dX1_worthBelow_21 rfl (lv_at hl 1 rfl) ?_
      refine lv_iconst (v := 1) hx hb dX1_worthBelow_22 (by decide) ?_
      refine lv_iadd hx hb dX1_worthBelow_23 ?_
      refine lv_eqi (z := nI (i + 1)) (nI_add _ _) ?_
      refine lv_bipush (v := 51) hx hb dX1_worthBelow_24 (by decide) ?_
      refine lv_imul hx hb dX1_worthBelow_26 ?_
      refine lv_eqi (z := nI ((i + 1) * 51)) (pk_mul _ _) ?_
      refine lv_iload_n hx hb dX1_worthBelow_27 rfl (lv_at hl 2 rfl) ?_
      refine lv_iadd hx hb dX1_worthBelow_28 ?_
      refine lv_eqi (z := nI (((i + 1) * 51) + t0)) (nI_add _ _) ?_
      refine rd_i hx hb hK hP 1 0 rfl rfl (k := ((i + 1) * 51) + t0) (by omega) (by decide) dX1_worthBelow_29 ?_
      refine lv_goto (tgt := 35) hx hb dX1_worthBelow_30 (by decide) ?_
      exact W.iret (v := wo (((i + 1) * 51) + t0)) hx hb hr (fun t ht hW => ⟨_, rfl, (by first | rw [if_neg c_2, if_pos (by omega)] | rw [if_neg c_2, if_neg (by omega)]), ht⟩) (fun _ h => absurd h List.not_mem_nil) dX1_worthBelow_35
  ·
    have c_2 := n_eq (a := t0) (b := d) c_2 (by omega) (by omega)
    refine lv_iconst (v := 0) hx hb dX1_worthBelow_5 (by decide) ?_
    exact W.iret (v := 0) hx hb hr (fun t ht hW => ⟨_, rfl, (by rw [if_pos c_2]), ht⟩) (fun _ h => absurd h List.not_mem_nil) dX1_worthBelow_6
