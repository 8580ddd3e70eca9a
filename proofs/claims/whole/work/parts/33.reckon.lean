set_option maxHeartbeats 4000000 in
set_option maxRecDepth 100000 in
theorem c_X1_reckon {l : Launch} {D : va_G} {cI cS cP : ClassId} {sz : Nat} {k0 g0 mu pa ra nb da wa sa : Nat} {s0 a0 s1 a1 : Nat} {lo0 fo0 lo1 fo1 : Int32} {n0 n1 low high : Nat} {it0 it1 : Nat → Int32} {d : Nat} {pr re dp : Nat → Nat} {wo so : Nat → Int32} {ma mb : Int64} (hn0 : n0 ≤ 60) (hn1 : n1 ≤ 60) (hlow : low ≤ 500) (hhigh : high ≤ 500) (hnb : nb ≤ 6) (hd1 : 1 ≤ d) (hd : d ≤ 50) (hpr : ∀ j, pr j ≤ 1000) (hre : ∀ j, re j ≤ 50) : Met l yX1_reckon wsX1_reckon ({ frames := 5, cells := 0, slots := 0, locals := 113 }) (PC D (TY cI cS cP) [.ref k0, .int (nI d)] sz [(k0, .inr (1, [.ref g0, .ref mu, .ref pa, .ref ra, .int (nI nb), .ref da, .ref wa, .ref sa])), (g0, .inr (3, [.ref s0, .ref s1, .int (nI low), .int (nI high)])), (s0, .inr (6, [.ref a0, .int lo0, .int fo0, .int (nI n0)])), (a0, .inl (cI, 60, .inl it0)), (s1, .inr (6, [.ref a1, .int lo1, .int fo1, .int (nI n1)])), (a1, .inl (cI, 60, .inl it1)), (mu, .inr (7, [.long ma, .long mb])), (pa, .inl (cI, 6, .inl (nF pr))), (ra, .inl (cI, 6, .inl (nF re))), (da, .inl (cI, 50, .inl (nF dp))), (wa, .inl (cI, 306, .inl wo)), (sa, .inl (cI, 306, .inl so))]) (QI D (fun (r : Int32) (u : (Nat → Nat) × (Nat → Int32) × (Nat → Int32) × Int64 × Int64) => (r = if ((ent (wok (po it0 n0) (fr it1 n1) low high) pr re d nb nb 0).isSome = true) then 1 else 0) ∧ ∀ i f, i < nb → f < d → u.2.1 (i * 51 + f) = wI (ent (wok (po it0 n0) (fr it1 n1) low high) pr re d nb (nb - i) f) ∧ u.2.2.1 (i * 51 + f) = nI (sI f (ent (wok (po it0 n0) (fr it1 n1) low high) pr re d nb (nb - i) f))) (fun (u : (Nat → Nat) × (Nat → Int32) × (Nat → Int32) × Int64 × Int64) => [(k0, .inr (1, [.ref g0, .ref mu, .ref pa, .ref ra, .int (nI nb), .ref da, .ref wa, .ref sa])), (g0, .inr (3, [.ref s0, .ref s1, .int (nI low), .int (nI high)])), (s0, .inr (6, [.ref a0, .int lo0, .int fo0, .int (nI n0)])), (a0, .inl (cI, 60, .inl it0)), (s1, .inr (6, [.ref a1, .int lo1, .int fo1, .int (nI n1)])), (a1, .inl (cI, 60, .inl it1)), (mu, .inr (7, [.long u.2.2.2.1, .long u.2.2.2.2])), (pa, .inl (cI, 6, .inl (nF pr))), (ra, .inl (cI, 6, .inl (nF re))), (da, .inl (cI, 50, .inl (nF u.1))), (wa, .inl (cI, 306, .inl u.2.1)), (sa, .inl (cI, 306, .inl u.2.2.1))]) (va_A [(k0, .inr (1, [.ref g0, .ref mu, .ref pa, .ref ra, .int (nI nb), .ref da, .ref wa, .ref sa])), (g0, .inr (3, [.ref s0, .ref s1, .int (nI low), .int (nI high)])), (s0, .inr (6, [.ref a0, .int lo0, .int fo0, .int (nI n0)])), (a0, .inl (cI, 60, .inl it0)), (s1, .inr (6, [.ref a1, .int lo1, .int fo1, .int (nI n1)])), (a1, .inl (cI, 60, .inl it1)), (mu, .inr (7, [.long ma, .long mb])), (pa, .inl (cI, 6, .inl (nF pr))), (ra, .inl (cI, 6, .inl (nF re))), (da, .inl (cI, 50, .inl (nF dp))), (wa, .inl (cI, 306, .inl wo)), (sa, .inl (cI, 306, .inl so))] sz)) 0 0 (va_A [(k0, .inr (1, [.ref g0, .ref mu, .ref pa, .ref ra, .int (nI nb), .ref da, .ref wa, .ref sa])), (g0, .inr (3, [.ref s0, .ref s1, .int (nI low), .int (nI high)])), (s0, .inr (6, [.ref a0, .int lo0, .int fo0, .int (nI n0)])), (a0, .inl (cI, 60, .inl it0)), (s1, .inr (6, [.ref a1, .int lo1, .int fo1, .int (nI n1)])), (a1, .inl (cI, 60, .inl it1)), (mu, .inr (7, [.long ma, .long mb])), (pa, .inl (cI, 6, .inl (nF pr))), (ra, .inl (cI, 6, .inl (nF re))), (da, .inl (cI, 50, .inl (nF dp))), (wa, .inl (cI, 306, .inl wo)), (sa, .inl (cI, 306, .inl so))] sz) := by
  refine Met.ofW (cc := cX1_reckon) (maxL := 4) (ret := (some .boolean)) (by decide) rfl ?_
  intro p e s m args below meth c s₁ B hml hv
  obtain ⟨rfl, hsz, hP, hK, hD0, hN⟩ := hv
  have hx := B.exec
  have hb := B.bytes
  have hr := B.returns
  have hts := atoms_spec (ws := wsX1_reckon) B.pre
  have hown : s.vm.findClass RX1 = some m.cls := findClass_of_methodNamed B.named
  have hlocks := B.notSynchronized
  subst hsz
  have iX1 : ∀ w ∈ u_ws RX1 TX1 8, w ∈ wsX1_reckon := by decide +kernel
  have hD := hD0.self (sz := s.heap.size)
  generalize hAe : va_A [(k0, .inr (1, [.ref g0, .ref mu, .ref pa, .ref ra, .int (nI nb), .ref da, .ref wa, .ref sa])), (g0, .inr (3, [.ref s0, .ref s1, .int (nI low), .int (nI high)])), (s0, .inr (6, [.ref a0, .int lo0, .int fo0, .int (nI n0)])), (a0, .inl (cI, 60, .inl it0)), (s1, .inr (6, [.ref a1, .int lo1, .int fo1, .int (nI n1)])), (a1, .inl (cI, 60, .inl it1)), (mu, .inr (7, [.long ma, .long mb])), (pa, .inl (cI, 6, .inl (nF pr))), (ra, .inl (cI, 6, .inl (nF re))), (da, .inl (cI, 50, .inl (nF dp))), (wa, .inl (cI, 306, .inl wo)), (sa, .inl (cI, 306, .inl so))] s.heap.size = A at hD ⊢
  have hA : ∀ q : Nat, s.heap.size ≤ q → A q := fun q h => by rw [← hAe]; exact Or.inr h
  have hS : va_S A s.heap s.heap [] := va_S.rf
  have hP : va_P D vwCl [(k0, .inr (1, [.ref g0, .ref mu, .ref pa, .ref ra, .int (nI nb), .ref da, .ref wa, .ref sa])), (g0, .inr (3, [.ref s0, .ref s1, .int (nI low), .int (nI high)])), (s0, .inr (6, [.ref a0, .int lo0, .int fo0, .int (nI n0)])), (a0, .inl (cI, 60, .inl it0)), (s1, .inr (6, [.ref a1, .int lo1, .int fo1, .int (nI n1)])), (a1, .inl (cI, 60, .inl it1)), (mu, .inr (7, [.long ma, .long mb])), (pa, .inl (cI, 6, .inl (nF pr))), (ra, .inl (cI, 6, .inl (nF re))), (da, .inl (cI, 50, .inl (nF dp))), (wa, .inl (cI, 306, .inl wo)), (sa, .inl (cI, 306, .inl so))] s.heap := hP
  have hl := lv_entry ([.ref k0, .int (nI d)]) (n := 4) (Nat.le_of_ble_eq_true rfl)
  rw [lg_entry_eq]
  generalize (lg_sl ([.ref k0, .int (nI d)]) ++ List.replicate (4 - (lg_sl ([.ref k0, .int (nI d)])).length) Slot.unset).toArray = ls at hl ⊢
  have hl : lv_has ls 4 [(0, .ref k0), (1, .int (nI d))] := hl
  refine lv_aload_n hx hb dX1_reckon_0 rfl (lv_at hl 0 rfl) ?_
  refine va_get (D := D) (ci := 1) (v := .int (nI nb)) (C := RX1) (T := TX1) (N := 8) hx hb hts iX1 hown hK hP 0 rfl rfl 4 (by decide) (hts (.fieldLink RX1 38 "DeepHole$Casings" "number" "I") (by decide +kernel)) (fun _ h9 => h9) rfl dX1_reckon_1 ?_
  refine lv_if_ne (tgt := 9) hx hb dX1_reckon_4 (by decide) (fun c_4 => ?_) (fun c_4 => ?_)
  ·
    have c_4 := n_ne (a := nb) (b := 0) c_4 (by omega) (by omega)
    have hpos : 0 < nb := by omega
    refine lv_iconst (v := 0) hx hb dX1_reckon_9 (by decide) ?_
    refine lv_istore_n (lv' := [(2, .int 0), (0, .ref k0), (1, .int (nI d))]) hx hb dX1_reckon_10 rfl hl (by decide) rfl (fun ls hl => ?_)
    refine lp_w (I := fun zz9 H locs ls => ∃ (k : Nat) (dp : Nat → Nat) (ma mb : Int64), zz9 = d - k ∧ (k ≤ d) ∧ (∀ g, g < k → dp g = dps ((wok (po it0 n0) (fr it1 n1) low high) g) g (d - g)) ∧ va_P D vwCl [(k0, .inr (1, [.ref g0, .ref mu, .ref pa, .ref ra, .int (nI nb), .ref da, .ref wa, .ref sa])), (g0, .inr (3, [.ref s0, .ref s1, .int (nI low), .int (nI high)])), (s0, .inr (6, [.ref a0, .int lo0, .int fo0, .int (nI n0)])), (a0, .inl (cI, 60, .inl it0)), (s1, .inr (6, [.ref a1, .int lo1, .int fo1, .int (nI n1)])), (a1, .inl (cI, 60, .inl it1)), (mu, .inr (7, [.long ma, .long mb])), (pa, .inl (cI, 6, .inl (nF pr))), (ra, .inl (cI, 6, .inl (nF re))), (da, .inl (cI, 50, .inl (nF dp))), (wa, .inl (cI, 306, .inl wo)), (sa, .inl (cI, 306, .inl so))] H ∧ va_D A [(k0, .inr (1, [.ref g0, .ref mu, .ref pa, .ref ra, .int (nI nb), .ref da, .ref wa, .ref sa])), (g0, .inr (3, [.ref s0, .ref s1, .int (nI low), .int (nI high)])), (s0, .inr (6, [.ref a0, .int lo0, .int fo0, .int (nI n0)])), (a0, .inl (cI, 60, .inl it0)), (s1, .inr (6, [.ref a1, .int lo1, .int fo1, .int (nI n1)])), (a1, .inl (cI, 60, .inl it1)), (mu, .inr (7, [.long ma, .long mb])), (pa, .inl (cI, 6, .inl (nF pr))), (ra, .inl (cI, 6, .inl (nF re))), (da, .inl (cI, 50, .inl (nF dp))), (wa, .inl (cI, 306, .inl wo)), (sa, .inl (cI, 306, .inl so))] ∧ va_S A s.heap H locs ∧ lv_has ls 4 [(0, .ref k0), (1, .int (nI d)), (2, .int (nI k))]) ?_ (d - 0) ⟨0, dp, ma, mb, rfl, (by omega), (fun g h => absurd h (by omega)), hP.sub [0, 1, 2, 3, 4, 5, 6, 7, 8, 9, 10, 11] rfl, hD.sub [0, 1, 2, 3, 4, 5, 6, 7, 8, 9, 10, 11] (by decide) rfl, hS, lv_sub hl [1, 2, 0] rfl⟩
    intro n_11 H locs ls ih_11 hI
    obtain ⟨k, dp, ma, mb, hn_11, hk, hdp, hP, hD, hS, hl⟩ := hI
    refine lv_iload_n hx hb dX1_reckon_11 rfl (lv_at hl 2 rfl) ?_
    refine lv_iload_n hx hb dX1_reckon_12 rfl (lv_at hl 1 rfl) ?_
    refine lv_icmp_ge (tgt := 34) hx hb dX1_reckon_13 (by decide) (fun c_13 => ?_) (fun c_13 => ?_)
    ·
      have c_13 := n_ge (a := k) (b := d) c_13 (by omega) (by omega)
      refine lv_aload_n hx hb dX1_reckon_34 rfl (lv_at hl 0 rfl) ?_
      refine va_get (D := D) (ci := 1) (v := .int (nI nb)) (C := RX1) (T := TX1) (N := 8) hx hb hts iX1 hown hK hP 0 rfl rfl 4 (by decide) (hts (.fieldLink RX1 38 "DeepHole$Casings" "number" "I") (by decide +kernel)) (fun _ h9 => h9) rfl dX1_reckon_35 ?_
      refine lv_iconst (v := 1) hx hb dX1_reckon_38 (by decide) ?_
      refine lv_isub hx hb dX1_reckon_39 ?_
      refine lv_istore_n (lv' := [(2, .int ((nI nb) - 1)), (0, .ref k0), (1, .int (nI d))]) hx hb dX1_reckon_40 rfl hl (by decide) rfl (fun ls hl => ?_)
      refine lp_w (I := fun zz9 H locs ls => ∃ (q : Nat) (wo so : Nat → Int32), zz9 = q ∧ (q ≤ nb) ∧ (∀ i f, q ≤ i → i < nb → f < d → wo (i * 51 + f) = wI (ent (wok (po it0 n0) (fr it1 n1) low high) pr re d nb (nb - i) f) ∧ so (i * 51 + f) = nI (sI f (ent (wok (po it0 n0) (fr it1 n1) low high) pr re d nb (nb - i) f))) ∧ va_P D vwCl [(k0, .inr (1, [.ref g0, .ref mu, .ref pa, .ref ra, .int (nI nb), .ref da, .ref wa, .ref sa])), (g0, .inr (3, [.ref s0, .ref s1, .int (nI low), .int (nI high)])), (s0, .inr (6, [.ref a0, .int lo0, .int fo0, .int (nI n0)])), (a0, .inl (cI, 60, .inl it0)), (s1, .inr (6, [.ref a1, .int lo1, .int fo1, .int (nI n1)])), (a1, .inl (cI, 60, .inl it1)), (mu, .inr (7, [.long ma, .long mb])), (pa, .inl (cI, 6, .inl (nF pr))), (ra, .inl (cI, 6, .inl (nF re))), (da, .inl (cI, 50, .inl (nF dp))), (wa, .inl (cI, 306, .inl wo)), (sa, .inl (cI, 306, .inl so))] H ∧ va_D A [(k0, .inr (1, [.ref g0, .ref mu, .ref pa, .ref ra, .int (nI nb), .ref da, .ref wa, .ref sa])), (g0, .inr (3, [.ref s0, .ref s1, .int (nI low), .int (nI high)])), (s0, .inr (6, [.ref a0, .int lo0, .int fo0, .int (nI n0)])), (a0, .inl (cI, 60, .inl it0)), (s1, .inr (6, [.ref a1, .int lo1, .int fo1, .int (nI n1)])), (a1, .inl (cI, 60, .inl it1)), (mu, .inr (7, [.long ma, .long mb])), (pa, .inl (cI, 6, .inl (nF pr))), (ra, .inl (cI, 6, .inl (nF re))), (da, .inl (cI, 50, .inl (nF dp))), (wa, .inl (cI, 306, .inl wo)), (sa, .inl (cI, 306, .inl so))] ∧ va_S A s.heap H locs ∧ lv_has ls 4 [(0, .ref k0), (1, .int (nI d)), (2, .int (nI q - 1))]) ?_ (nb) ⟨nb, wo, so, rfl, (by omega), (fun i f a b => absurd b (by omega)), hP.sub [0, 1, 2, 3, 4, 5, 6, 7, 8, 9, 10, 11] rfl, hD.sub [0, 1, 2, 3, 4, 5, 6, 7, 8, 9, 10, 11] (by decide) rfl, hS, lv_sub hl [1, 2, 0] rfl⟩
      intro n_41 H locs ls ih_41 hI
      obtain ⟨q, wo, so, hn_41, hq, hE, hP, hD, hS, hl⟩ := hI
      refine lv_iload_n hx hb dX1_reckon_41 rfl (lv_at hl 2 rfl) ?_
      refine lv_if_lt (tgt := 71) hx hb dX1_reckon_42 (by decide) (fun c_42 => ?_) (fun c_42 => ?_)
      ·
        have c_42 : q = 0 := (m1_lt (by omega)).mp c_42
        refine lv_aload_n hx hb dX1_reckon_71 rfl (lv_at hl 0 rfl) ?_
        refine va_get (D := D) (ci := 1) (v := .ref wa) (C := RX1) (T := TX1) (N := 8) hx hb hts iX1 hown hK hP 0 rfl rfl 6 (by decide) (hts (.fieldLink RX1 28 "DeepHole$Casings" "worths" "[I") (by decide +kernel)) (fun _ h9 => h9) rfl dX1_reckon_72 ?_
        refine lv_iconst (v := 0) hx hb dX1_reckon_75 (by decide) ?_
        refine rd_i hx hb hK hP 10 0 rfl rfl (k := 0) (by omega) (by decide) dX1_reckon_76 ?_
        refine lv_eqi (z := wI (ent (wok (po it0 n0) (fr it1 n1) low high) pr re d nb nb 0)) (show wo 0 = wI (ent (wok (po it0 n0) (fr it1 n1) low high) pr re d nb nb 0) from (hE 0 0 (by omega) hpos hd1).1) ?_
        refine lv_ldc hx hb hown (hts (.constant RX1 50 (2147483647)) (by decide +kernel)) dX1_reckon_77 ?_
        refine lv_icmp_eq (tgt := 86) hx hb dX1_reckon_79 (by decide) (fun c_79 => ?_) (fun c_79 => ?_)
        ·
          refine lv_iconst (v := 0) hx hb dX1_reckon_86 (by decide) ?_
          have hP9 := hP.sub (ws' := [(k0, .inr (1, [.ref g0, .ref mu, .ref pa, .ref ra, .int (nI nb), .ref da, .ref wa, .ref sa])), (g0, .inr (3, [.ref s0, .ref s1, .int (nI low), .int (nI high)])), (s0, .inr (6, [.ref a0, .int lo0, .int fo0, .int (nI n0)])), (a0, .inl (cI, 60, .inl it0)), (s1, .inr (6, [.ref a1, .int lo1, .int fo1, .int (nI n1)])), (a1, .inl (cI, 60, .inl it1)), (mu, .inr (7, [.long ma, .long mb])), (pa, .inl (cI, 6, .inl (nF pr))), (ra, .inl (cI, 6, .inl (nF re))), (da, .inl (cI, 50, .inl (nF dp))), (wa, .inl (cI, 306, .inl wo)), (sa, .inl (cI, 306, .inl so))]) [0, 1, 2, 3, 4, 5, 6, 7, 8, 9, 10, 11] rfl
          have hD9 := hD.sub (ws' := [(k0, .inr (1, [.ref g0, .ref mu, .ref pa, .ref ra, .int (nI nb), .ref da, .ref wa, .ref sa])), (g0, .inr (3, [.ref s0, .ref s1, .int (nI low), .int (nI high)])), (s0, .inr (6, [.ref a0, .int lo0, .int fo0, .int (nI n0)])), (a0, .inl (cI, 60, .inl it0)), (s1, .inr (6, [.ref a1, .int lo1, .int fo1, .int (nI n1)])), (a1, .inl (cI, 60, .inl it1)), (mu, .inr (7, [.long ma, .long mb])), (pa, .inl (cI, 6, .inl (nF pr))), (ra, .inl (cI, 6, .inl (nF re))), (da, .inl (cI, 50, .inl (nF dp))), (wa, .inl (cI, 306, .inl wo)), (sa, .inl (cI, 306, .inl so))]) [0, 1, 2, 3, 4, 5, 6, 7, 8, 9, 10, 11] (by decide) rfl
          exact W.zret (v := 0) hx hb hr (rfl) (fun t ht hW => ⟨⟨_, (dp, wo, so, ma, mb), rfl, (by exact ⟨b_0 (wI_none c_79 (fun q9 h9 => by have := ent_le hpr hd nb 0 q9 (by omega) h9; omega)), fun i f a b => hE i f (by omega) a b⟩), by rw [ht]; exact hP9, hD9⟩, hS.F ht⟩) hS.2.2 dX1_reckon_87
        ·
          refine lv_iconst (v := 1) hx hb dX1_reckon_82 (by decide) ?_
          refine lv_goto (tgt := 87) hx hb dX1_reckon_83 (by decide) ?_
          have hP9 := hP.sub (ws' := [(k0, .inr (1, [.ref g0, .ref mu, .ref pa, .ref ra, .int (nI nb), .ref da, .ref wa, .ref sa])), (g0, .inr (3, [.ref s0, .ref s1, .int (nI low), .int (nI high)])), (s0, .inr (6, [.ref a0, .int lo0, .int fo0, .int (nI n0)])), (a0, .inl (cI, 60, .inl it0)), (s1, .inr (6, [.ref a1, .int lo1, .int fo1, .int (nI n1)])), (a1, .inl (cI, 60, .inl it1)), (mu, .inr (7, [.long ma, .long mb])), (pa, .inl (cI, 6, .inl (nF pr))), (ra, .inl (cI, 6, .inl (nF re))), (da, .inl (cI, 50, .inl (nF dp))), (wa, .inl (cI, 306, .inl wo)), (sa, .inl (cI, 306, .inl so))]) [0, 1, 2, 3, 4, 5, 6, 7, 8, 9, 10, 11] rfl
          have hD9 := hD.sub (ws' := [(k0, .inr (1, [.ref g0, .ref mu, .ref pa, .ref ra, .int (nI nb), .ref da, .ref wa, .ref sa])), (g0, .inr (3, [.ref s0, .ref s1, .int (nI low), .int (nI high)])), (s0, .inr (6, [.ref a0, .int lo0, .int fo0, .int (nI n0)])), (a0, .inl (cI, 60, .inl it0)), (s1, .inr (6, [.ref a1, .int lo1, .int fo1, .int (nI n1)])), (a1, .inl (cI, 60, .inl it1)), (mu, .inr (7, [.long ma, .long mb])), (pa, .inl (cI, 6, .inl (nF pr))), (ra, .inl (cI, 6, .inl (nF re))), (da, .inl (cI, 50, .inl (nF dp))), (wa, .inl (cI, 306, .inl wo)), (sa, .inl (cI, 306, .inl so))]) [0, 1, 2, 3, 4, 5, 6, 7, 8, 9, 10, 11] (by decide) rfl
          exact W.zret (v := 1) hx hb hr (rfl) (fun t ht hW => ⟨⟨_, (dp, wo, so, ma, mb), rfl, (by exact ⟨b_1 (wI_some c_79), fun i f a b => hE i f (by omega) a b⟩), by rw [ht]; exact hP9, hD9⟩, hS.F ht⟩) hS.2.2 dX1_reckon_87
      ·
        have c_42 : 0 < q := Nat.pos_of_ne_zero (fun h => c_42 ((m1_lt (by omega)).mpr h))
        have hl : lv_has ls 4 [(0, .ref k0), (1, .int (nI d)), (2, .int (nI (q - 1)))] := by rw [← m1_n c_42]; exact hl
        refine lv_iconst (v := 0) hx hb dX1_reckon_45 (by decide) ?_
        refine lv_istore_n (lv' := [(3, .int 0), (0, .ref k0), (1, .int (nI d)), (2, .int (nI (q - 1)))]) hx hb dX1_reckon_46 rfl hl (by decide) rfl (fun ls hl => ?_)
        refine lp_w (I := fun zz9 H locs ls => ∃ (g : Nat) (wo so : Nat → Int32), zz9 = d - g ∧ (g ≤ d) ∧ (∀ i f, q ≤ i → i < nb → f < d → wo (i * 51 + f) = wI (ent (wok (po it0 n0) (fr it1 n1) low high) pr re d nb (nb - i) f) ∧ so (i * 51 + f) = nI (sI f (ent (wok (po it0 n0) (fr it1 n1) low high) pr re d nb (nb - i) f))) ∧ (∀ f, f < g → wo ((q - 1) * 51 + f) = wI (ent (wok (po it0 n0) (fr it1 n1) low high) pr re d nb (nb - (q - 1)) f) ∧ so ((q - 1) * 51 + f) = nI (sI f (ent (wok (po it0 n0) (fr it1 n1) low high) pr re d nb (nb - (q - 1)) f))) ∧ va_P D vwCl [(k0, .inr (1, [.ref g0, .ref mu, .ref pa, .ref ra, .int (nI nb), .ref da, .ref wa, .ref sa])), (g0, .inr (3, [.ref s0, .ref s1, .int (nI low), .int (nI high)])), (s0, .inr (6, [.ref a0, .int lo0, .int fo0, .int (nI n0)])), (a0, .inl (cI, 60, .inl it0)), (s1, .inr (6, [.ref a1, .int lo1, .int fo1, .int (nI n1)])), (a1, .inl (cI, 60, .inl it1)), (mu, .inr (7, [.long ma, .long mb])), (pa, .inl (cI, 6, .inl (nF pr))), (ra, .inl (cI, 6, .inl (nF re))), (da, .inl (cI, 50, .inl (nF dp))), (wa, .inl (cI, 306, .inl wo)), (sa, .inl (cI, 306, .inl so))] H ∧ va_D A [(k0, .inr (1, [.ref g0, .ref mu, .ref pa, .ref ra, .int (nI nb), .ref da, .ref wa, .ref sa])), (g0, .inr (3, [.ref s0, .ref s1, .int (nI low), .int (nI high)])), (s0, .inr (6, [.ref a0, .int lo0, .int fo0, .int (nI n0)])), (a0, .inl (cI, 60, .inl it0)), (s1, .inr (6, [.ref a1, .int lo1, .int fo1, .int (nI n1)])), (a1, .inl (cI, 60, .inl it1)), (mu, .inr (7, [.long ma, .long mb])), (pa, .inl (cI, 6, .inl (nF pr))), (ra, .inl (cI, 6, .inl (nF re))), (da, .inl (cI, 50, .inl (nF dp))), (wa, .inl (cI, 306, .inl wo)), (sa, .inl (cI, 306, .inl so))] ∧ va_S A s.heap H locs ∧ lv_has ls 4 [(0, .ref k0), (1, .int (nI d)), (2, .int (nI (q - 1))), (3, .int (nI g))]) ?_ (d - 0) ⟨0, wo, so, rfl, (by omega), (hE), (fun f h => absurd h (by omega)), hP.sub [0, 1, 2, 3, 4, 5, 6, 7, 8, 9, 10, 11] rfl, hD.sub [0, 1, 2, 3, 4, 5, 6, 7, 8, 9, 10, 11] (by decide) rfl, hS, lv_sub hl [1, 2, 3, 0] rfl⟩
        intro n_47 H locs ls ih_47 hI
        obtain ⟨g, wo, so, hn_47, hg, hE, hF, hP, hD, hS, hl⟩ := hI
        refine lv_iload_n hx hb dX1_reckon_47 rfl (lv_at hl 3 rfl) ?_
        refine lv_iload_n hx hb dX1_reckon_48 rfl (lv_at hl 1 rfl) ?_
        refine lv_icmp_ge (tgt := 65) hx hb dX1_reckon_49 (by decide) (fun c_49 => ?_) (fun c_49 => ?_)
        ·
          have c_49 := n_ge (a := g) (b := d) c_49 (by omega) (by omega)
          refine lv_iinc (v := nI (q - 1) - 1) (lv' := [(2, .int (nI (q - 1) - 1)), (0, .ref k0), (1, .int (nI d)), (3, .int (nI g))]) hx hb dX1_reckon_65 hl (k := 2) rfl m1_m (by decide) rfl (fun ls hl => ?_)
          refine lv_goto (tgt := 41) hx hb dX1_reckon_68 (by decide) ?_
          exact ih_41 _ _ _ _ (by omega) ⟨q - 1, wo, so, rfl, (by omega), (fun i f a b c => by
              rcases Nat.lt_or_ge i q with z | z
              · rw [show i = q - 1 by omega]; exact hF f (by omega)
              · exact hE i f z b c), hP.sub [0, 1, 2, 3, 4, 5, 6, 7, 8, 9, 10, 11] rfl, hD.sub [0, 1, 2, 3, 4, 5, 6, 7, 8, 9, 10, 11] (by decide) rfl, hS, lv_sub hl [1, 2, 0] rfl⟩
        ·
          have c_49 := n_nge (a := g) (b := d) c_49 (by omega) (by omega)
          refine lv_aload_n hx hb dX1_reckon_52 rfl (lv_at hl 0 rfl) ?_
          refine lv_iload_n hx hb dX1_reckon_53 rfl (lv_at hl 2 rfl) ?_
          refine lv_iload_n hx hb dX1_reckon_54 rfl (lv_at hl 3 rfl) ?_
          refine lv_iload_n hx hb dX1_reckon_55 rfl (lv_at hl 1 rfl) ?_
          refine w_Vv (wc := [(k0, .inr (1, [.ref g0, .ref mu, .ref pa, .ref ra, .int (nI nb), .ref da, .ref wa, .ref sa])), (pa, .inl (cI, 6, .inl (nF pr))), (ra, .inl (cI, 6, .inl (nF re))), (da, .inl (cI, 50, .inl (nF dp))), (wa, .inl (cI, 306, .inl wo)), (sa, .inl (cI, 306, .inl so))]) (wr := [(g0, .inr (3, [.ref s0, .ref s1, .int (nI low), .int (nI high)])), (s0, .inr (6, [.ref a0, .int lo0, .int fo0, .int (nI n0)])), (a0, .inl (cI, 60, .inl it0)), (s1, .inr (6, [.ref a1, .int lo1, .int fo1, .int (nI n1)])), (a1, .inl (cI, 60, .inl it1)), (mu, .inr (7, [.long ma, .long mb]))]) (b := k0) ⟨hx, hb, hml, hown, hts⟩ [.int (nI (q - 1)), .int (nI g), .int (nI d)] [] (c_X1_choose (Wf := (wok (po it0 n0) (fr it1 n1) low high)) (rs := (rst d (ent (wok (po it0 n0) (fr it1 n1) low high) pr re d nb (nb - q)))) (by first | assumption | omega) (by omega) (by omega) (by first | assumption | omega) (by first | assumption | omega) (by first | assumption | omega) (hdp g (by omega)) (fun t h => wok_down h) (rst_w c_42 hq (fun i f a b c => (hE i f a b c).1)) (rst_le hpr hd (by omega))) (cwV 3 hts gX1_reckon_X1_choose rfl rfl rfl (by decide +kernel) ⟨Nat.le_of_ble_eq_true rfl, Nat.le_of_ble_eq_true rfl⟩) hK hN hP hD hS hA [0, 7, 8, 9, 10, 11] [1, 2, 3, 4, 5, 6] rfl (by decide) rfl (by decide) (by decide) (ci := 1) rfl rfl rfl rfl hl.1 rfl (Nat.le_of_ble_eq_true rfl) dX1_reckon_56 ⟨Nat.zero_le _, Nat.zero_le _⟩ (fun u H locs hw hP hD hS => ?_)
          have hP : va_P D vwCl [(g0, .inr (3, [.ref s0, .ref s1, .int (nI low), .int (nI high)])), (s0, .inr (6, [.ref a0, .int lo0, .int fo0, .int (nI n0)])), (a0, .inl (cI, 60, .inl it0)), (s1, .inr (6, [.ref a1, .int lo1, .int fo1, .int (nI n1)])), (a1, .inl (cI, 60, .inl it1)), (mu, .inr (7, [.long ma, .long mb])), (k0, .inr (1, [.ref g0, .ref mu, .ref pa, .ref ra, .int (nI nb), .ref da, .ref wa, .ref sa])), (pa, .inl (cI, 6, .inl (nF pr))), (ra, .inl (cI, 6, .inl (nF re))), (da, .inl (cI, 50, .inl (nF dp))), (wa, .inl (cI, 306, .inl (upd wo ((q - 1) * 51 + g) (wI (sel (fun t => (wok (po it0 n0) (fr it1 n1) low high) g t && decide (t ≤ re (q - 1))) (pr (q - 1)) (rst d (ent (wok (po it0 n0) (fr it1 n1) low high) pr re d nb (nb - q))) (g + 1) (d - g) none))))), (sa, .inl (cI, 306, .inl (upd so ((q - 1) * 51 + g) (nI (sI g (sel (fun t => (wok (po it0 n0) (fr it1 n1) low high) g t && decide (t ≤ re (q - 1))) (pr (q - 1)) (rst d (ent (wok (po it0 n0) (fr it1 n1) low high) pr re d nb (nb - q))) (g + 1) (d - g) none))))))] H := hP
          have hD : va_D A [(g0, .inr (3, [.ref s0, .ref s1, .int (nI low), .int (nI high)])), (s0, .inr (6, [.ref a0, .int lo0, .int fo0, .int (nI n0)])), (a0, .inl (cI, 60, .inl it0)), (s1, .inr (6, [.ref a1, .int lo1, .int fo1, .int (nI n1)])), (a1, .inl (cI, 60, .inl it1)), (mu, .inr (7, [.long ma, .long mb])), (k0, .inr (1, [.ref g0, .ref mu, .ref pa, .ref ra, .int (nI nb), .ref da, .ref wa, .ref sa])), (pa, .inl (cI, 6, .inl (nF pr))), (ra, .inl (cI, 6, .inl (nF re))), (da, .inl (cI, 50, .inl (nF dp))), (wa, .inl (cI, 306, .inl (upd wo ((q - 1) * 51 + g) (wI (sel (fun t => (wok (po it0 n0) (fr it1 n1) low high) g t && decide (t ≤ re (q - 1))) (pr (q - 1)) (rst d (ent (wok (po it0 n0) (fr it1 n1) low high) pr re d nb (nb - q))) (g + 1) (d - g) none))))), (sa, .inl (cI, 306, .inl (upd so ((q - 1) * 51 + g) (nI (sI g (sel (fun t => (wok (po it0 n0) (fr it1 n1) low high) g t && decide (t ≤ re (q - 1))) (pr (q - 1)) (rst d (ent (wok (po it0 n0) (fr it1 n1) low high) pr re d nb (nb - q))) (g + 1) (d - g) none))))))] := hD
          refine lv_iinc (v := nI (g + 1)) (lv' := [(3, .int (nI (g + 1))), (0, .ref k0), (1, .int (nI d)), (2, .int (nI (q - 1)))]) hx hb dX1_reckon_59 hl (k := 3) rfl (nI_1 _) (by decide) rfl (fun ls hl => ?_)
          refine lv_goto (tgt := 47) hx hb dX1_reckon_62 (by decide) ?_
          exact ih_47 _ _ _ _ (by omega) ⟨g + 1, upd wo ((q - 1) * 51 + g) (wI (sel (fun t => (wok (po it0 n0) (fr it1 n1) low high) g t && decide (t ≤ re (q - 1))) (pr (q - 1)) (rst d (ent (wok (po it0 n0) (fr it1 n1) low high) pr re d nb (nb - q))) (g + 1) (d - g) none)), upd so ((q - 1) * 51 + g) (nI (sI g (sel (fun t => (wok (po it0 n0) (fr it1 n1) low high) g t && decide (t ≤ re (q - 1))) (pr (q - 1)) (rst d (ent (wok (po it0 n0) (fr it1 n1) low high) pr re d nb (nb - q))) (g + 1) (d - g) none))), rfl, (by omega), (fun i f a b c => by rw [← ent_at c_42 hq, pk_un (by omega), pk_un (by omega)]; exact hE i f a b c), (fun f h => by
              rw [← ent_at c_42 hq]
              by_cases e : f = g
              · rw [e, pk_us, pk_us]; exact ⟨rfl, rfl⟩
              · rw [pk_un (by omega), pk_un (by omega)]; exact hF f (by omega)), hP.sub [6, 0, 1, 2, 3, 4, 5, 7, 8, 9, 10, 11] rfl, hD.sub [6, 0, 1, 2, 3, 4, 5, 7, 8, 9, 10, 11] (by decide) rfl, hS, lv_sub hl [1, 2, 3, 0] rfl⟩
    ·
      have c_13 := n_nge (a := k) (b := d) c_13 (by omega) (by omega)
      refine lv_aload_n hx hb dX1_reckon_16 rfl (lv_at hl 0 rfl) ?_
      refine va_get (D := D) (ci := 1) (v := .ref da) (C := RX1) (T := TX1) (N := 8) hx hb hts iX1 hown hK hP 0 rfl rfl 5 (by decide) (hts (.fieldLink RX1 25 "DeepHole$Casings" "deepest" "[I") (by decide +kernel)) (fun _ h9 => h9) rfl dX1_reckon_17 ?_
      refine lv_iload_n hx hb dX1_reckon_20 rfl (lv_at hl 2 rfl) ?_
      refine lv_aload_n hx hb dX1_reckon_21 rfl (lv_at hl 0 rfl) ?_
      refine lv_iload_n hx hb dX1_reckon_22 rfl (lv_at hl 2 rfl) ?_
      refine lv_iload_n hx hb dX1_reckon_23 rfl (lv_at hl 1 rfl) ?_
      refine w_V (wc := [(k0, .inr (1, [.ref g0, .ref mu, .ref pa, .ref ra, .int (nI nb), .ref da, .ref wa, .ref sa])), (g0, .inr (3, [.ref s0, .ref s1, .int (nI low), .int (nI high)])), (s0, .inr (6, [.ref a0, .int lo0, .int fo0, .int (nI n0)])), (a0, .inl (cI, 60, .inl it0)), (s1, .inr (6, [.ref a1, .int lo1, .int fo1, .int (nI n1)])), (a1, .inl (cI, 60, .inl it1)), (mu, .inr (7, [.long ma, .long mb]))]) (wr := [(pa, .inl (cI, 6, .inl (nF pr))), (ra, .inl (cI, 6, .inl (nF re))), (da, .inl (cI, 50, .inl (nF dp))), (wa, .inl (cI, 306, .inl wo)), (sa, .inl (cI, 306, .inl so))]) (b := k0) ⟨hx, hb, hml, hown, hts⟩ [.int (nI k), .int (nI d)] [.int (nI k), .ref da] (c_X1_deepestFrom  (by first | assumption | omega) (by first | assumption | omega) (by first | assumption | omega) (by first | assumption | omega) (by first | assumption | omega) (by first | assumption | omega)) (cwV 2 hts gX1_reckon_X1_deepestFrom rfl rfl rfl (by decide +kernel) ⟨Nat.le_of_ble_eq_true rfl, Nat.le_of_ble_eq_true rfl⟩) hK hN hP hD hS hA [0, 1, 2, 3, 4, 5, 6] [7, 8, 9, 10, 11] rfl (by decide) rfl (by decide) (by decide) (ci := 1) rfl rfl rfl rfl hl.1 rfl (Nat.le_of_ble_eq_true rfl) dX1_reckon_24 ⟨Nat.zero_le _, Nat.zero_le _⟩ (fun r u H locs hw hP hD hS => ?_)
      obtain ⟨u_1, u_2⟩ := u
      try dsimp only at hw
      have hP : va_P D vwCl [(pa, .inl (cI, 6, .inl (nF pr))), (ra, .inl (cI, 6, .inl (nF re))), (da, .inl (cI, 50, .inl (nF dp))), (wa, .inl (cI, 306, .inl wo)), (sa, .inl (cI, 306, .inl so)), (k0, .inr (1, [.ref g0, .ref mu, .ref pa, .ref ra, .int (nI nb), .ref da, .ref wa, .ref sa])), (g0, .inr (3, [.ref s0, .ref s1, .int (nI low), .int (nI high)])), (s0, .inr (6, [.ref a0, .int lo0, .int fo0, .int (nI n0)])), (a0, .inl (cI, 60, .inl it0)), (s1, .inr (6, [.ref a1, .int lo1, .int fo1, .int (nI n1)])), (a1, .inl (cI, 60, .inl it1)), (mu, .inr (7, [.long u_1, .long u_2]))] H := hP
      have hD : va_D A [(pa, .inl (cI, 6, .inl (nF pr))), (ra, .inl (cI, 6, .inl (nF re))), (da, .inl (cI, 50, .inl (nF dp))), (wa, .inl (cI, 306, .inl wo)), (sa, .inl (cI, 306, .inl so)), (k0, .inr (1, [.ref g0, .ref mu, .ref pa, .ref ra, .int (nI nb), .ref da, .ref wa, .ref sa])), (g0, .inr (3, [.ref s0, .ref s1, .int (nI low), .int (nI high)])), (s0, .inr (6, [.ref a0, .int lo0, .int fo0, .int (nI n0)])), (a0, .inl (cI, 60, .inl it0)), (s1, .inr (6, [.ref a1, .int lo1, .int fo1, .int (nI n1)])), (a1, .inl (cI, 60, .inl it1)), (mu, .inr (7, [.long u_1, .long u_2]))] := hD
      subst hw
      refine wr_i hx hb hK hP hD hS 2 0 rfl rfl (k := k) (by omega) (by decide) dX1_reckon_27 (fun H locs hP hD hS => ?_)
      rw [nF_upd] at hP hD
      have hP : va_P D vwCl [(pa, .inl (cI, 6, .inl (nF pr))), (ra, .inl (cI, 6, .inl (nF re))), (da, .inl (cI, 50, .inl (nF (updN dp k (dps (wok (po it0 n0) (fr it1 n1) low high k) k (d - k)))))), (wa, .inl (cI, 306, .inl wo)), (sa, .inl (cI, 306, .inl so)), (k0, .inr (1, [.ref g0, .ref mu, .ref pa, .ref ra, .int (nI nb), .ref da, .ref wa, .ref sa])), (g0, .inr (3, [.ref s0, .ref s1, .int (nI low), .int (nI high)])), (s0, .inr (6, [.ref a0, .int lo0, .int fo0, .int (nI n0)])), (a0, .inl (cI, 60, .inl it0)), (s1, .inr (6, [.ref a1, .int lo1, .int fo1, .int (nI n1)])), (a1, .inl (cI, 60, .inl it1)), (mu, .inr (7, [.long u_1, .long u_2]))] H := hP
      have hD : va_D A [(pa, .inl (cI, 6, .inl (nF pr))), (ra, .inl (cI, 6, .inl (nF re))), (da, .inl (cI, 50, .inl (nF (updN dp k (dps (wok (po it0 n0) (fr it1 n1) low high k) k (d - k)))))), (wa, .inl (cI, 306, .inl wo)), (sa, .inl (cI, 306, .inl so)), (k0, .inr (1, [.ref g0, .ref mu, .ref pa, .ref ra, .int (nI nb), .ref da, .ref wa, .ref sa])), (g0, .inr (3, [.ref s0, .ref s1, .int (nI low), .int (nI high)])), (s0, .inr (6, [.ref a0, .int lo0, .int fo0, .int (nI n0)])), (a0, .inl (cI, 60, .inl it0)), (s1, .inr (6, [.ref a1, .int lo1, .int fo1, .int (nI n1)])), (a1, .inl (cI, 60, .inl it1)), (mu, .inr (7, [.long u_1, .long u_2]))] := hD
      refine lv_iinc (v := nI (k + 1)) (lv' := [(2, .int (nI (k + 1))), (0, .ref k0), (1, .int (nI d))]) hx hb dX1_reckon_28 hl (k := 2) rfl (nI_1 _) (by decide) rfl (fun ls hl => ?_)
      refine lv_goto (tgt := 11) hx hb dX1_reckon_31 (by decide) ?_
      exact ih_11 _ _ _ _ (by omega) ⟨k + 1, (updN dp k (dps (wok (po it0 n0) (fr it1 n1) low high k) k (d - k))), u_1, u_2, rfl, (by omega), (fun g h => by
          unfold updN
          by_cases e : g = k
          · rw [if_pos e, e]
          · rw [if_neg e]; exact hdp g (by omega)), hP.sub [5, 6, 7, 8, 9, 10, 11, 0, 1, 2, 3, 4] rfl, hD.sub [5, 6, 7, 8, 9, 10, 11, 0, 1, 2, 3, 4] (by decide) rfl, hS, lv_sub hl [1, 2, 0] rfl⟩
  ·
    have c_4 := n_eq (a := nb) (b := 0) c_4 (by omega) (by omega)
    refine lv_iconst (v := 0) hx hb dX1_reckon_7 (by decide) ?_
    have hP9 := hP.sub (ws' := [(k0, .inr (1, [.ref g0, .ref mu, .ref pa, .ref ra, .int (nI nb), .ref da, .ref wa, .ref sa])), (g0, .inr (3, [.ref s0, .ref s1, .int (nI low), .int (nI high)])), (s0, .inr (6, [.ref a0, .int lo0, .int fo0, .int (nI n0)])), (a0, .inl (cI, 60, .inl it0)), (s1, .inr (6, [.ref a1, .int lo1, .int fo1, .int (nI n1)])), (a1, .inl (cI, 60, .inl it1)), (mu, .inr (7, [.long ma, .long mb])), (pa, .inl (cI, 6, .inl (nF pr))), (ra, .inl (cI, 6, .inl (nF re))), (da, .inl (cI, 50, .inl (nF dp))), (wa, .inl (cI, 306, .inl wo)), (sa, .inl (cI, 306, .inl so))]) [0, 1, 2, 3, 4, 5, 6, 7, 8, 9, 10, 11] rfl
    have hD9 := hD.sub (ws' := [(k0, .inr (1, [.ref g0, .ref mu, .ref pa, .ref ra, .int (nI nb), .ref da, .ref wa, .ref sa])), (g0, .inr (3, [.ref s0, .ref s1, .int (nI low), .int (nI high)])), (s0, .inr (6, [.ref a0, .int lo0, .int fo0, .int (nI n0)])), (a0, .inl (cI, 60, .inl it0)), (s1, .inr (6, [.ref a1, .int lo1, .int fo1, .int (nI n1)])), (a1, .inl (cI, 60, .inl it1)), (mu, .inr (7, [.long ma, .long mb])), (pa, .inl (cI, 6, .inl (nF pr))), (ra, .inl (cI, 6, .inl (nF re))), (da, .inl (cI, 50, .inl (nF dp))), (wa, .inl (cI, 306, .inl wo)), (sa, .inl (cI, 306, .inl so))]) [0, 1, 2, 3, 4, 5, 6, 7, 8, 9, 10, 11] (by decide) rfl
    exact W.zret (v := 0) hx hb hr (rfl) (fun t ht hW => ⟨⟨_, (dp, wo, so, ma, mb), rfl, (by exact ⟨b_0 (by rw [show nb = 0 by omega]; exact fun h => by cases h), fun i f a => absurd a (by omega)⟩), by rw [ht]; exact hP9, hD9⟩, hS.F ht⟩) hS.2.2 dX1_reckon_8

set_option maxHeartbeats 4000000 in
set_option maxRecDepth 100000 in
theorem c_X1_costOfPlan {l : Launch} {D : va_G} {cI cS cP : ClassId} {sz : Nat} {k0 g0 mu pa ra nb da wa sa : Nat} {wo : Nat → Int32} {w0 : Nat} (hw0 : wo 0 = nI w0) (hb0 : w0 ≤ 2900000) : Met l yX1_costOfPlan wsX1_costOfPlan ({ frames := 0, cells := 0, slots := 0, locals := 0 }) (PC D (TY cI cS cP) [.ref k0] sz [(k0, .inr (1, [.ref g0, .ref mu, .ref pa, .ref ra, .int (nI nb), .ref da, .ref wa, .ref sa])), (wa, .inl (cI, 306, .inl wo))]) (vp_Si (fun r => r = nI (w0 / 8))) 0 0 (fun _ => False) := by
  refine Met.ofW (cc := cX1_costOfPlan) (maxL := 1) (ret := (some .int)) (by decide) rfl ?_
  intro p e s m args below meth c s₁ B hml hv
  obtain ⟨rfl, hsz, hP, hK, hD0, hN⟩ := hv
  have hx := B.exec
  have hb := B.bytes
  have hr := B.returns
  have hts := atoms_spec (ws := wsX1_costOfPlan) B.pre
  have hown : s.vm.findClass RX1 = some m.cls := findClass_of_methodNamed B.named
  have hlocks := B.notSynchronized
  subst hsz
  have iX1 : ∀ w ∈ u_ws RX1 TX1 8, w ∈ wsX1_costOfPlan := by decide +kernel
  have hD := hD0
  have hP : va_P D vwCl [(k0, .inr (1, [.ref g0, .ref mu, .ref pa, .ref ra, .int (nI nb), .ref da, .ref wa, .ref sa])), (wa, .inl (cI, 306, .inl wo))] s.heap := hP
  have hl := lv_entry ([.ref k0]) (n := 1) (Nat.le_of_ble_eq_true rfl)
  rw [lg_entry_eq]
  generalize (lg_sl ([.ref k0]) ++ List.replicate (1 - (lg_sl ([.ref k0])).length) Slot.unset).toArray = ls at hl ⊢
  have hl : lv_has ls 1 [(0, .ref k0)] := hl
  refine lv_aload_n hx hb dX1_costOfPlan_0 rfl (lv_at hl 0 rfl) ?_
  refine va_get (D := D) (ci := 1) (v := .ref wa) (C := RX1) (T := TX1) (N := 8) hx hb hts iX1 hown hK hP 0 rfl rfl 6 (by decide) (hts (.fieldLink RX1 28 "DeepHole$Casings" "worths" "[I") (by decide +kernel)) (fun _ h9 => h9) rfl dX1_costOfPlan_1 ?_
  refine lv_iconst (v := 0) hx hb dX1_costOfPlan_4 (by decide) ?_
  refine rd_i hx hb hK hP 1 0 rfl rfl (k := 0) (by omega) (by decide) dX1_costOfPlan_5 ?_
  refine lv_eqi (z := nI w0) (hw0) ?_
  refine lv_bipush (v := 8) hx hb dX1_costOfPlan_6 (by decide) ?_
  refine lv_idiv hx hb dX1_costOfPlan_8 (by decide) ?_
  refine lv_eqi (z := nI (w0 / 8)) (pk_div (d := 8) (by omega) (by decide) (by decide)) ?_
  exact W.iret (v := nI (w0 / 8)) hx hb hr (fun t ht hW => ⟨_, rfl, (by rfl), ht⟩) (fun _ h => absurd h List.not_mem_nil) dX1_costOfPlan_9

set_option maxHeartbeats 4000000 in
set_option maxRecDepth 100000 in
theorem c_X1_stringsOfPlan {l : Launch} {D : va_G} {cI cS cP : ClassId} {sz : Nat} {k0 g0 mu pa ra nb da wa sa : Nat} {wo : Nat → Int32} {w0 : Nat} (hw0 : wo 0 = nI w0) (hb0 : w0 ≤ 2900000) : Met l yX1_stringsOfPlan wsX1_stringsOfPlan ({ frames := 0, cells := 0, slots := 0, locals := 0 }) (PC D (TY cI cS cP) [.ref k0] sz [(k0, .inr (1, [.ref g0, .ref mu, .ref pa, .ref ra, .int (nI nb), .ref da, .ref wa, .ref sa])), (wa, .inl (cI, 306, .inl wo))]) (vp_Si (fun r => r = nI (w0 % 8))) 0 0 (fun _ => False) := by
  refine Met.ofW (cc := cX1_stringsOfPlan) (maxL := 1) (ret := (some .int)) (by decide) rfl ?_
  intro p e s m args below meth c s₁ B hml hv
  obtain ⟨rfl, hsz, hP, hK, hD0, hN⟩ := hv
  have hx := B.exec
  have hb := B.bytes
  have hr := B.returns
  have hts := atoms_spec (ws := wsX1_stringsOfPlan) B.pre
  have hown : s.vm.findClass RX1 = some m.cls := findClass_of_methodNamed B.named
  have hlocks := B.notSynchronized
  subst hsz
  have iX1 : ∀ w ∈ u_ws RX1 TX1 8, w ∈ wsX1_stringsOfPlan := by decide +kernel
  have hD := hD0
  have hP : va_P D vwCl [(k0, .inr (1, [.ref g0, .ref mu, .ref pa, .ref ra, .int (nI nb), .ref da, .ref wa, .ref sa])), (wa, .inl (cI, 306, .inl wo))] s.heap := hP
  have hl := lv_entry ([.ref k0]) (n := 1) (Nat.le_of_ble_eq_true rfl)
  rw [lg_entry_eq]
  generalize (lg_sl ([.ref k0]) ++ List.replicate (1 - (lg_sl ([.ref k0])).length) Slot.unset).toArray = ls at hl ⊢
  have hl : lv_has ls 1 [(0, .ref k0)] := hl
  refine lv_aload_n hx hb dX1_stringsOfPlan_0 rfl (lv_at hl 0 rfl) ?_
  refine va_get (D := D) (ci := 1) (v := .ref wa) (C := RX1) (T := TX1) (N := 8) hx hb hts iX1 hown hK hP 0 rfl rfl 6 (by decide) (hts (.fieldLink RX1 28 "DeepHole$Casings" "worths" "[I") (by decide +kernel)) (fun _ h9 => h9) rfl dX1_stringsOfPlan_1 ?_
  refine lv_iconst (v := 0) hx hb dX1_stringsOfPlan_4 (by decide) ?_
  refine rd_i hx hb hK hP 1 0 rfl rfl (k := 0) (by omega) (by decide) dX1_stringsOfPlan_5 ?_
  refine lv_eqi (z := nI w0) (hw0) ?_
  refine lv_bipush (v := 8) hx hb dX1_stringsOfPlan_6 (by decide) ?_
  refine lv_irem hx hb dX1_stringsOfPlan_8 (by decide) ?_
  exact W.iret (v := (nI w0) - (nI w0) / 8 * 8) hx hb hr (fun t ht hW => ⟨_, rfl, (by exact pk_rem (d := 8) (by omega) (by decide) (by decide)), ht⟩) (fun _ h => absurd h List.not_mem_nil) dX1_stringsOfPlan_9

set_option maxHeartbeats 4000000 in
set_option maxRecDepth 100000 in
theorem c_X1_shoeOfPlan {l : Launch} {D : va_G} {cI cS cP : ClassId} {sz : Nat} {k0 g0 mu pa ra nb da wa sa : Nat} {so : Nat → Int32} {i : Nat} {at_ : Nat → Nat} (hnb : nb ≤ 6) (hi : i < nb) (h0_ : at_ 0 = 0) (hat : ∀ k, k ≤ i → at_ k ≤ 50 ∧ so (k * 51 + at_ k) = nI (at_ (k + 1))) : Met l yX1_shoeOfPlan wsX1_shoeOfPlan ({ frames := 0, cells := 0, slots := 0, locals := 0 }) (PC D (TY cI cS cP) [.ref k0, .int (nI i)] sz [(k0, .inr (1, [.ref g0, .ref mu, .ref pa, .ref ra, .int (nI nb), .ref da, .ref wa, .ref sa])), (sa, .inl (cI, 306, .inl so))]) (vp_Si (fun r => r = nI (at_ (i + 1)))) 0 0 (fun _ => False) := by
  refine Met.ofW (cc := cX1_shoeOfPlan) (maxL := 4) (ret := (some .int)) (by decide) rfl ?_
  intro p e s m args below meth c s₁ B hml hv
  obtain ⟨rfl, hsz, hP, hK, hD0, hN⟩ := hv
  have hx := B.exec
  have hb := B.bytes
  have hr := B.returns
  have hts := atoms_spec (ws := wsX1_shoeOfPlan) B.pre
  have hown : s.vm.findClass RX1 = some m.cls := findClass_of_methodNamed B.named
  have hlocks := B.notSynchronized
  subst hsz
  have iX1 : ∀ w ∈ u_ws RX1 TX1 8, w ∈ wsX1_shoeOfPlan := by decide +kernel
  have hD := hD0
  have hP : va_P D vwCl [(k0, .inr (1, [.ref g0, .ref mu, .ref pa, .ref ra, .int (nI nb), .ref da, .ref wa, .ref sa])), (sa, .inl (cI, 306, .inl so))] s.heap := hP
  have hl := lv_entry ([.ref k0, .int (nI i)]) (n := 4) (Nat.le_of_ble_eq_true rfl)
  rw [lg_entry_eq]
  generalize (lg_sl ([.ref k0, .int (nI i)]) ++ List.replicate (4 - (lg_sl ([.ref k0, .int (nI i)])).length) Slot.unset).toArray = ls at hl ⊢
  have hl : lv_has ls 4 [(0, .ref k0), (1, .int (nI i))] := hl
  refine lv_iconst (v := 0) hx hb dX1_shoeOfPlan_0 (by decide) ?_
  refine lv_istore_n (lv' := [(2, .int 0), (0, .ref k0), (1, .int (nI i))]) hx hb dX1_shoeOfPlan_1 rfl hl (by decide) rfl (fun ls hl => ?_)
  refine lv_iconst (v := 0) hx hb dX1_shoeOfPlan_2 (by decide) ?_
  refine lv_istore_n (lv' := [(3, .int 0), (2, .int 0), (0, .ref k0), (1, .int (nI i))]) hx hb dX1_shoeOfPlan_3 rfl hl (by decide) rfl (fun ls hl => ?_)
  have hl : lv_has ls 4 [(3, .int 0), (2, .int (nI (at_ 0))), (0, .ref k0), (1, .int (nI i))] := by rw [← (show (0 : Int32) = nI (at_ 0) from by rw [h0_]; rfl)]; exact hl
  refine lp_q (I := fun zz9 ls => ∃ (k : Nat), zz9 = i + 1 - k ∧ (k ≤ i + 1) ∧ lv_has ls 4 [(0, .ref k0), (1, .int (nI i)), (2, .int (nI (at_ k))), (3, .int (nI k))]) ?_ (i + 1 - 0) ⟨0, rfl, (by omega), lv_sub hl [2, 3, 1, 0] rfl⟩
  intro n_4 ls ih_4 hI
  obtain ⟨k, hn_4, hk, hl⟩ := hI
  refine lv_iload_n hx hb dX1_shoeOfPlan_4 rfl (lv_at hl 3 rfl) ?_
  refine lv_iload_n hx hb dX1_shoeOfPlan_5 rfl (lv_at hl 1 rfl) ?_
  refine lv_icmp_gt (tgt := 35) hx hb dX1_shoeOfPlan_6 (by decide) (fun c_6 => ?_) (fun c_6 => ?_)
  ·
    have c_6 := n_gt (a := k) (b := i) c_6 (by omega) (by omega)
    refine lv_iload_n hx hb dX1_shoeOfPlan_35 rfl (lv_at hl 2 rfl) ?_
    exact W.iret (v := nI (at_ k)) hx hb hr (fun t ht hW => ⟨_, rfl, (by rw [show k = i + 1 by omega]), ht⟩) (fun _ h => absurd h List.not_mem_nil) dX1_shoeOfPlan_36
  ·
    have c_6 := n_ngt (a := k) (b := i) c_6 (by omega) (by omega)
    have hak := hat k c_6
    refine lv_iload_n hx hb dX1_shoeOfPlan_9 rfl (lv_at hl 3 rfl) ?_
    refine lv_aload_n hx hb dX1_shoeOfPlan_10 rfl (lv_at hl 0 rfl) ?_
    refine va_get (D := D) (ci := 1) (v := .int (nI nb)) (C := RX1) (T := TX1) (N := 8) hx hb hts iX1 hown hK hP 0 rfl rfl 4 (by decide) (hts (.fieldLink RX1 38 "DeepHole$Casings" "number" "I") (by decide +kernel)) (fun _ h9 => h9) rfl dX1_shoeOfPlan_11 ?_
    refine lv_icmp_ge (tgt := 35) hx hb dX1_shoeOfPlan_14 (by decide) (fun c_14 => ?_) (fun c_14 => ?_)
    ·
      have c_14 := n_ge (a := k) (b := nb) c_14 (by omega) (by omega)
      exact absurd c_14 (by omega)
    ·
      have c_14 := n_nge (a := k) (b := nb) c_14 (by omega) (by omega)
      refine lv_aload_n hx hb dX1_shoeOfPlan_17 rfl (lv_at hl 0 rfl) ?_
      refine va_get (D := D) (ci := 1) (v := .ref sa) (C := RX1) (T := TX1) (N := 8) hx hb hts iX1 hown hK hP 0 rfl rfl 7 (by decide) (hts (.fieldLink RX1 31 "DeepHole$Casings" "shoes" "[I") (by decide +kernel)) (fun _ h9 => h9) rfl dX1_shoeOfPlan_18 ?_
      refine lv_iload_n hx hb dX1_shoeOfPlan_21 rfl (lv_at hl 3 rfl) ?_
      refine lv_bipush (v := 51) hx hb dX1_shoeOfPlan_22 (by decide) ?_
      refine lv_imul hx hb dX1_shoeOfPlan_24 ?_
      refine lv_eqi (z := nI (k * 51)) (pk_mul _ _) ?_
      refine lv_iload_n hx hb dX1_shoeOfPlan_25 rfl (lv_at hl 2 rfl) ?_
      refine lv_iadd hx hb dX1_shoeOfPlan_26 ?_
      refine lv_eqi (z := nI ((k * 51) + (at_ k))) (nI_add _ _) ?_
      refine rd_i hx hb hK hP 1 0 rfl rfl (k := (k * 51) + (at_ k)) (by omega) (by decide) dX1_shoeOfPlan_27 ?_
      refine lv_eqi (z := nI (at_ (k + 1))) (hak.2) ?_
      refine lv_istore_n (lv' := [(2, .int (nI (at_ (k + 1)))), (0, .ref k0), (1, .int (nI i)), (3, .int (nI k))]) hx hb dX1_shoeOfPlan_28 rfl hl (by decide) rfl (fun ls hl => ?_)
      refine lv_iinc (v := nI (k + 1)) (lv' := [(3, .int (nI (k + 1))), (2, .int (nI (at_ (k + 1)))), (0, .ref k0), (1, .int (nI i))]) hx hb dX1_shoeOfPlan_29 hl (k := 3) rfl (nI_1 _) (by decide) rfl (fun ls hl => ?_)
      refine lv_goto (tgt := 4) hx hb dX1_shoeOfPlan_32 (by decide) ?_
      exact ih_4 _ _ (by omega) ⟨k + 1, rfl, (by omega), lv_sub hl [2, 3, 1, 0] rfl⟩
