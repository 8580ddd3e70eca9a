set_option maxHeartbeats 4000000 in
set_option maxRecDepth 100000 in
theorem c_J7_fill_53178 {l : Launch} {D : va_G} {cI cS cP : ClassId} {sz : Nat} {a0 : Nat} {v : Int32} {it : Nat → Int32}  : Met l yJ7_fill_53178 wsJ7_fill_53178 ({ frames := 0, cells := 0, slots := 0, locals := 0 }) (PC D (TY cI cS cP) [.ref a0, .int v] sz [(a0, .inl (cI, 60, .inl it))]) (QV D (fun (u : Unit) => True) (fun (u : Unit) => [(a0, .inl (cI, 60, .inl (fillI v it 60)))]) (va_A [(a0, .inl (cI, 60, .inl it))] sz)) 0 0 (va_A [(a0, .inl (cI, 60, .inl it))] sz) := by
  refine Met.ofW (cc := cJ7_fill_53178) (maxL := 4) (ret := none) (by decide) rfl ?_
  intro p e s m args below meth c s₁ B hml hv
  obtain ⟨rfl, hsz, hP, hK, hD0, hN⟩ := hv
  have hx := B.exec
  have hb := B.bytes
  have hr := B.returns
  have hts := atoms_spec (ws := wsJ7_fill_53178) B.pre
  have hown : s.vm.findClass RJ7 = some m.cls := findClass_of_methodNamed B.named
  have hlocks := B.notSynchronized
  subst hsz
  have hD := hD0.self (sz := s.heap.size)
  generalize hAe : va_A [(a0, .inl (cI, 60, .inl it))] s.heap.size = A at hD ⊢
  have hA : ∀ q : Nat, s.heap.size ≤ q → A q := fun q h => by rw [← hAe]; exact Or.inr h
  have hS : va_S A s.heap s.heap [] := va_S.rf
  have hP : va_P D vwCl [(a0, .inl (cI, 60, .inl it))] s.heap := hP
  have hl := lv_entry ([.ref a0, .int v]) (n := 4) (Nat.le_of_ble_eq_true rfl)
  rw [lg_entry_eq]
  generalize (lg_sl ([.ref a0, .int v]) ++ List.replicate (4 - (lg_sl ([.ref a0, .int v])).length) Slot.unset).toArray = ls at hl ⊢
  have hl : lv_has ls 4 [(0, .ref a0), (1, .int v)] := hl
  refine lv_iconst (v := 0) hx hb dJ7_fill_53178_0 (by decide) ?_
  refine lv_istore_n (lv' := [(2, .int 0), (0, .ref a0), (1, .int v)]) hx hb dJ7_fill_53178_1 rfl hl (by decide) rfl (fun ls hl => ?_)
  refine lv_aload_n hx hb dJ7_fill_53178_2 rfl (lv_at hl 1 rfl) ?_
  refine va_alen hx hb hK hP 0 0 rfl rfl (v := nI 60) rfl dJ7_fill_53178_3 ?_
  refine lv_istore_n (lv' := [(3, .int (nI 60)), (2, .int 0), (0, .ref a0), (1, .int v)]) hx hb dJ7_fill_53178_4 rfl hl (by decide) rfl (fun ls hl => ?_)
  have hcf : it = fillI v it 0 := by exact (fillI_0 v it).symm
  rw [hcf] at hP hD
  have hP : va_P D vwCl [(a0, .inl (cI, 60, .inl (fillI v it 0)))] s.heap := hP
  have hD : va_D A [(a0, .inl (cI, 60, .inl (fillI v it 0)))] := hD
  refine lp_w (I := fun zz9 H locs ls => ∃ (k : Nat), zz9 = 60 - k ∧ (k ≤ 60) ∧ va_P D vwCl [(a0, .inl (cI, 60, .inl (fillI v it k)))] H ∧ va_D A [(a0, .inl (cI, 60, .inl (fillI v it k)))] ∧ va_S A s.heap H locs ∧ lv_has ls 4 [(0, .ref a0), (1, .int v), (2, .int (nI k)), (3, .int (nI 60))]) ?_ (60 - 0) ⟨0, rfl, (by omega), hP.sub [0] rfl, hD.sub [0] (by decide) rfl, hS, lv_sub hl [2, 3, 1, 0] rfl⟩
  intro n_5 H locs ls ih_5 hI
  obtain ⟨k, hn_5, hk, hP, hD, hS, hl⟩ := hI
  refine lv_iload_n hx hb dJ7_fill_53178_5 rfl (lv_at hl 2 rfl) ?_
  refine lv_iload_n hx hb dJ7_fill_53178_6 rfl (lv_at hl 3 rfl) ?_
  refine lv_icmp_ge (tgt := 20) hx hb dJ7_fill_53178_7 (by decide) (fun c_7 => ?_) (fun c_7 => ?_)
  ·
    have c_7 := n_ge (a := k) (b := 60) c_7 (by omega) (by omega)
    have hcf : fillI v it k = fillI v it 60 := by rw [show k = 60 by omega]
    rw [hcf] at hP hD
    have hP : va_P D vwCl [(a0, .inl (cI, 60, .inl (fillI v it 60)))] H := hP
    have hD : va_D A [(a0, .inl (cI, 60, .inl (fillI v it 60)))] := hD
    have hP9 := hP.sub (ws' := [(a0, .inl (cI, 60, .inl (fillI v it 60)))]) [0] rfl
    have hD9 := hD.sub (ws' := [(a0, .inl (cI, 60, .inl (fillI v it 60)))]) [0] (by decide) rfl
    exact W.vret hx hb hr (fun t ht hW => ⟨⟨(), rfl, (trivial), by rw [ht]; exact hP9, hD9⟩, hS.F ht⟩) hS.2.2 dJ7_fill_53178_20
  ·
    have c_7 := n_nge (a := k) (b := 60) c_7 (by omega) (by omega)
    refine lv_aload_n hx hb dJ7_fill_53178_10 rfl (lv_at hl 0 rfl) ?_
    refine lv_iload_n hx hb dJ7_fill_53178_11 rfl (lv_at hl 2 rfl) ?_
    refine lv_iload_n hx hb dJ7_fill_53178_12 rfl (lv_at hl 1 rfl) ?_
    refine wr_i hx hb hK hP hD hS 0 0 rfl rfl (k := k) (by omega) (by decide) dJ7_fill_53178_13 (fun H locs hP hD hS => ?_)
    have hP : va_P D vwCl [(a0, .inl (cI, 60, .inl (upd (fillI v it k) k v)))] H := hP
    have hD : va_D A [(a0, .inl (cI, 60, .inl (upd (fillI v it k) k v)))] := hD
    have hcf : upd (fillI v it k) k v = fillI v it (k + 1) := by exact fillI_s v it k
    rw [hcf] at hP hD
    have hP : va_P D vwCl [(a0, .inl (cI, 60, .inl (fillI v it (k + 1))))] H := hP
    have hD : va_D A [(a0, .inl (cI, 60, .inl (fillI v it (k + 1))))] := hD
    refine lv_iinc (v := nI (k + 1)) (lv' := [(2, .int (nI (k + 1))), (0, .ref a0), (1, .int v), (3, .int (nI 60))]) hx hb dJ7_fill_53178_14 hl (k := 2) rfl (nI_1 _) (by decide) rfl (fun ls hl => ?_)
    refine lv_goto (tgt := 5) hx hb dJ7_fill_53178_17 (by decide) ?_
    exact ih_5 _ _ _ _ (by omega) ⟨k + 1, rfl, (by omega), hP.sub [0] rfl, hD.sub [0] (by decide) rfl, hS, lv_sub hl [1, 2, 0, 3] rfl⟩

set_option maxHeartbeats 4000000 in
set_option maxRecDepth 100000 in
theorem c_X6_renew {l : Launch} {D : va_G} {cI cS cP : ClassId} {sz : Nat} {h0 a0 n : Nat} {lo fo : Int32} {it : Nat → Int32} {fm : Int32} {nn : Nat}  : Met l yX6_renew wsX6_renew ({ frames := 1, cells := 0, slots := 0, locals := 23 }) (PC D (TY cI cS cP) [.ref h0, .int fm, .int (nI nn)] sz [(h0, .inr (6, [.ref a0, .int lo, .int fo, .int (nI n)])), (a0, .inl (cI, 60, .inl it))]) (QV D (fun (u : Unit) => True) (fun (u : Unit) => [(h0, .inr (6, [.ref a0, .int 0, .int fm, .int (nI nn)])), (a0, .inl (cI, 60, .inl (fillI 0 it 60)))]) (va_A [(h0, .inr (6, [.ref a0, .int lo, .int fo, .int (nI n)])), (a0, .inl (cI, 60, .inl it))] sz)) 0 0 (va_A [(h0, .inr (6, [.ref a0, .int lo, .int fo, .int (nI n)])), (a0, .inl (cI, 60, .inl it))] sz) := by
  refine Met.ofW (cc := cX6_renew) (maxL := 3) (ret := none) (by decide) rfl ?_
  intro p e s m args below meth c s₁ B hml hv
  obtain ⟨rfl, hsz, hP, hK, hD0, hN⟩ := hv
  have hx := B.exec
  have hb := B.bytes
  have hr := B.returns
  have hts := atoms_spec (ws := wsX6_renew) B.pre
  have hown : s.vm.findClass RX6 = some m.cls := findClass_of_methodNamed B.named
  have hlocks := B.notSynchronized
  subst hsz
  have iX6 : ∀ w ∈ u_ws RX6 TX6 4, w ∈ wsX6_renew := by decide +kernel
  have hD := hD0.self (sz := s.heap.size)
  generalize hAe : va_A [(h0, .inr (6, [.ref a0, .int lo, .int fo, .int (nI n)])), (a0, .inl (cI, 60, .inl it))] s.heap.size = A at hD ⊢
  have hA : ∀ q : Nat, s.heap.size ≤ q → A q := fun q h => by rw [← hAe]; exact Or.inr h
  have hS : va_S A s.heap s.heap [] := va_S.rf
  have hP : va_P D vwCl [(h0, .inr (6, [.ref a0, .int lo, .int fo, .int (nI n)])), (a0, .inl (cI, 60, .inl it))] s.heap := hP
  have hl := lv_entry ([.ref h0, .int fm, .int (nI nn)]) (n := 3) (Nat.le_of_ble_eq_true rfl)
  rw [lg_entry_eq]
  generalize (lg_sl ([.ref h0, .int fm, .int (nI nn)]) ++ List.replicate (3 - (lg_sl ([.ref h0, .int fm, .int (nI nn)])).length) Slot.unset).toArray = ls at hl ⊢
  have hl : lv_has ls 3 [(0, .ref h0), (1, .int fm), (2, .int (nI nn))] := hl
  refine lv_aload_n hx hb dX6_renew_0 rfl (lv_at hl 0 rfl) ?_
  refine va_get (D := D) (ci := 6) (v := .ref a0) (C := RX6) (T := TX6) (N := 4) hx hb hts iX6 hown hK hP 0 rfl rfl 0 (by decide) (hts (.fieldLink RX6 11 "DeepHole$Sheet" "items" "[I") (by decide +kernel)) (fun _ h9 => h9) rfl dX6_renew_1 ?_
  refine lv_iconst (v := 0) hx hb dX6_renew_4 (by decide) ?_
  refine w_Sv (wc := [(a0, .inl (cI, 60, .inl it))]) (wr := [(h0, .inr (6, [.ref a0, .int lo, .int fo, .int (nI n)]))]) ⟨hx, hb, hml, hown, hts⟩ [.ref a0, .int (0 : Int32)] [] c_J7_fill_53178 (va_cwS 2 hts gX6_renew_J7_fill_53178 rfl rfl rfl (by decide +kernel) ⟨Nat.le_of_ble_eq_true rfl, Nat.le_of_ble_eq_true rfl⟩) hK hN hP hD hS hA [1] [0] rfl (by decide) rfl (by decide) (by decide) rfl hl.1 rfl (Nat.le_of_ble_eq_true rfl) dX6_renew_5 ⟨Nat.zero_le _, Nat.zero_le _⟩ (fun u H locs hw hP hD hS => ?_)
  have hP : va_P D vwCl [(h0, .inr (6, [.ref a0, .int lo, .int fo, .int (nI n)])), (a0, .inl (cI, 60, .inl (fillI (0 : Int32) it 60)))] H := hP
  have hD : va_D A [(h0, .inr (6, [.ref a0, .int lo, .int fo, .int (nI n)])), (a0, .inl (cI, 60, .inl (fillI (0 : Int32) it 60)))] := hD
  refine lv_aload_n hx hb dX6_renew_8 rfl (lv_at hl 0 rfl) ?_
  refine lv_iconst (v := 0) hx hb dX6_renew_9 (by decide) ?_
  refine va_put (D := D) (ci := 6) (v := .int 0) (ty := .boolean) (C := RX6) (T := TX6) (N := 4) hx hb hts iX6 tyX6 tyX6_ok nmX6 hown hK hP hD hS 0 rfl rfl 1 (by decide) (hts (.fieldLink RX6 15 "DeepHole$Sheet" "lost" "Z") (by decide +kernel)) (fun _ h9 => h9) rfl (by decide +kernel) rfl rfl (Nat.le_of_ble_eq_true rfl) dX6_renew_10 (fun H locs hP hD hS => ?_)
  have hP : va_P D vwCl [(h0, .inr (6, [.ref a0, .int 0, .int fo, .int (nI n)])), (a0, .inl (cI, 60, .inl (fillI (0 : Int32) it 60)))] H := hP
  have hD : va_D A [(h0, .inr (6, [.ref a0, .int 0, .int fo, .int (nI n)])), (a0, .inl (cI, 60, .inl (fillI (0 : Int32) it 60)))] := hD
  refine lv_aload_n hx hb dX6_renew_13 rfl (lv_at hl 0 rfl) ?_
  refine lv_iload_n hx hb dX6_renew_14 rfl (lv_at hl 1 rfl) ?_
  refine va_put (D := D) (ci := 6) (v := .int fm) (ty := .int) (C := RX6) (T := TX6) (N := 4) hx hb hts iX6 tyX6 tyX6_ok nmX6 hown hK hP hD hS 0 rfl rfl 2 (by decide) (hts (.fieldLink RX6 25 "DeepHole$Sheet" "form" "I") (by decide +kernel)) (fun _ h9 => h9) rfl (by decide +kernel) rfl rfl (Nat.le_of_ble_eq_true rfl) dX6_renew_15 (fun H locs hP hD hS => ?_)
  have hP : va_P D vwCl [(h0, .inr (6, [.ref a0, .int 0, .int fm, .int (nI n)])), (a0, .inl (cI, 60, .inl (fillI (0 : Int32) it 60)))] H := hP
  have hD : va_D A [(h0, .inr (6, [.ref a0, .int 0, .int fm, .int (nI n)])), (a0, .inl (cI, 60, .inl (fillI (0 : Int32) it 60)))] := hD
  refine lv_aload_n hx hb dX6_renew_18 rfl (lv_at hl 0 rfl) ?_
  refine lv_iload_n hx hb dX6_renew_19 rfl (lv_at hl 2 rfl) ?_
  refine va_put (D := D) (ci := 6) (v := .int (nI nn)) (ty := .int) (C := RX6) (T := TX6) (N := 4) hx hb hts iX6 tyX6 tyX6_ok nmX6 hown hK hP hD hS 0 rfl rfl 3 (by decide) (hts (.fieldLink RX6 29 "DeepHole$Sheet" "size" "I") (by decide +kernel)) (fun _ h9 => h9) rfl (by decide +kernel) rfl rfl (Nat.le_of_ble_eq_true rfl) dX6_renew_20 (fun H locs hP hD hS => ?_)
  have hP : va_P D vwCl [(h0, .inr (6, [.ref a0, .int 0, .int fm, .int (nI nn)])), (a0, .inl (cI, 60, .inl (fillI (0 : Int32) it 60)))] H := hP
  have hD : va_D A [(h0, .inr (6, [.ref a0, .int 0, .int fm, .int (nI nn)])), (a0, .inl (cI, 60, .inl (fillI (0 : Int32) it 60)))] := hD
  have hP9 := hP.sub (ws' := [(h0, .inr (6, [.ref a0, .int 0, .int fm, .int (nI nn)])), (a0, .inl (cI, 60, .inl (fillI (0 : Int32) it 60)))]) [0, 1] rfl
  have hD9 := hD.sub (ws' := [(h0, .inr (6, [.ref a0, .int 0, .int fm, .int (nI nn)])), (a0, .inl (cI, 60, .inl (fillI (0 : Int32) it 60)))]) [0, 1] (by decide) rfl
  exact W.vret hx hb hr (fun t ht hW => ⟨⟨(), rfl, (trivial), by rw [ht]; exact hP9, hD9⟩, hS.F ht⟩) hS.2.2 dX6_renew_23

set_option maxHeartbeats 4000000 in
set_option maxRecDepth 100000 in
theorem c_X6_becomeLost {l : Launch} {D : va_G} {cI cS cP : ClassId} {sz : Nat} {h0 a0 n : Nat} {lo fo : Int32} {it : Nat → Int32}  : Met l yX6_becomeLost wsX6_becomeLost ({ frames := 0, cells := 0, slots := 0, locals := 0 }) (PC D (TY cI cS cP) [.ref h0] sz [(h0, .inr (6, [.ref a0, .int lo, .int fo, .int (nI n)])), (a0, .inl (cI, 60, .inl it))]) (QV D (fun (u : Unit) => True) (fun (u : Unit) => [(h0, .inr (6, [.ref a0, .int 1, .int fo, .int 0])), (a0, .inl (cI, 60, .inl it))]) (va_A [(h0, .inr (6, [.ref a0, .int lo, .int fo, .int (nI n)])), (a0, .inl (cI, 60, .inl it))] sz)) 0 0 (va_A [(h0, .inr (6, [.ref a0, .int lo, .int fo, .int (nI n)])), (a0, .inl (cI, 60, .inl it))] sz) := by
  refine Met.ofW (cc := cX6_becomeLost) (maxL := 1) (ret := none) (by decide) rfl ?_
  intro p e s m args below meth c s₁ B hml hv
  obtain ⟨rfl, hsz, hP, hK, hD0, hN⟩ := hv
  have hx := B.exec
  have hb := B.bytes
  have hr := B.returns
  have hts := atoms_spec (ws := wsX6_becomeLost) B.pre
  have hown : s.vm.findClass RX6 = some m.cls := findClass_of_methodNamed B.named
  have hlocks := B.notSynchronized
  subst hsz
  have iX6 : ∀ w ∈ u_ws RX6 TX6 4, w ∈ wsX6_becomeLost := by decide +kernel
  have hD := hD0.self (sz := s.heap.size)
  generalize hAe : va_A [(h0, .inr (6, [.ref a0, .int lo, .int fo, .int (nI n)])), (a0, .inl (cI, 60, .inl it))] s.heap.size = A at hD ⊢
  have hA : ∀ q : Nat, s.heap.size ≤ q → A q := fun q h => by rw [← hAe]; exact Or.inr h
  have hS : va_S A s.heap s.heap [] := va_S.rf
  have hP : va_P D vwCl [(h0, .inr (6, [.ref a0, .int lo, .int fo, .int (nI n)])), (a0, .inl (cI, 60, .inl it))] s.heap := hP
  have hl := lv_entry ([.ref h0]) (n := 1) (Nat.le_of_ble_eq_true rfl)
  rw [lg_entry_eq]
  generalize (lg_sl ([.ref h0]) ++ List.replicate (1 - (lg_sl ([.ref h0])).length) Slot.unset).toArray = ls at hl ⊢
  have hl : lv_has ls 1 [(0, .ref h0)] := hl
  refine lv_aload_n hx hb dX6_becomeLost_0 rfl (lv_at hl 0 rfl) ?_
  refine lv_iconst (v := 1) hx hb dX6_becomeLost_1 (by decide) ?_
  refine va_put (D := D) (ci := 6) (v := .int 1) (ty := .boolean) (C := RX6) (T := TX6) (N := 4) hx hb hts iX6 tyX6 tyX6_ok nmX6 hown hK hP hD hS 0 rfl rfl 1 (by decide) (hts (.fieldLink RX6 15 "DeepHole$Sheet" "lost" "Z") (by decide +kernel)) (fun _ h9 => h9) rfl (by decide +kernel) rfl rfl (Nat.le_of_ble_eq_true rfl) dX6_becomeLost_2 (fun H locs hP hD hS => ?_)
  have hP : va_P D vwCl [(h0, .inr (6, [.ref a0, .int 1, .int fo, .int (nI n)])), (a0, .inl (cI, 60, .inl it))] H := hP
  have hD : va_D A [(h0, .inr (6, [.ref a0, .int 1, .int fo, .int (nI n)])), (a0, .inl (cI, 60, .inl it))] := hD
  refine lv_aload_n hx hb dX6_becomeLost_5 rfl (lv_at hl 0 rfl) ?_
  refine lv_iconst (v := 0) hx hb dX6_becomeLost_6 (by decide) ?_
  refine va_put (D := D) (ci := 6) (v := .int 0) (ty := .int) (C := RX6) (T := TX6) (N := 4) hx hb hts iX6 tyX6 tyX6_ok nmX6 hown hK hP hD hS 0 rfl rfl 3 (by decide) (hts (.fieldLink RX6 29 "DeepHole$Sheet" "size" "I") (by decide +kernel)) (fun _ h9 => h9) rfl (by decide +kernel) rfl rfl (Nat.le_of_ble_eq_true rfl) dX6_becomeLost_7 (fun H locs hP hD hS => ?_)
  have hP : va_P D vwCl [(h0, .inr (6, [.ref a0, .int 1, .int fo, .int 0])), (a0, .inl (cI, 60, .inl it))] H := hP
  have hD : va_D A [(h0, .inr (6, [.ref a0, .int 1, .int fo, .int 0])), (a0, .inl (cI, 60, .inl it))] := hD
  have hP9 := hP.sub (ws' := [(h0, .inr (6, [.ref a0, .int 1, .int fo, .int 0])), (a0, .inl (cI, 60, .inl it))]) [0, 1] rfl
  have hD9 := hD.sub (ws' := [(h0, .inr (6, [.ref a0, .int 1, .int fo, .int 0])), (a0, .inl (cI, 60, .inl it))]) [0, 1] (by decide) rfl
  exact W.vret hx hb hr (fun t ht hW => ⟨⟨(), rfl, (trivial), by rw [ht]; exact hP9, hD9⟩, hS.F ht⟩) hS.2.2 dX6_becomeLost_10

set_option maxHeartbeats 4000000 in
set_option maxRecDepth 100000 in
theorem c_X6_wrongWith {l : Launch} {D : va_G} {cI cS cP : ClassId} {sz : Nat} {h0 a0 n : Nat} {lo fo : Int32} {it : Nat → Int32} {fm ix : Int32}  : Met l yX6_wrongWith wsX6_wrongWith ({ frames := 1, cells := 0, slots := 0, locals := 22 }) (PC D (TY cI cS cP) [.ref h0, .int fm, .int ix] sz [(h0, .inr (6, [.ref a0, .int lo, .int fo, .int (nI n)])), (a0, .inl (cI, 60, .inl it))]) (vp_Si (fun r => r = wrongW lo fo n fm ix)) 0 0 (fun _ => False) := by
  refine Met.ofW (cc := cX6_wrongWith) (maxL := 3) (ret := (some .int)) (by decide) rfl ?_
  intro p e s m args below meth c s₁ B hml hv
  obtain ⟨rfl, hsz, hP, hK, hD0, hN⟩ := hv
  have hx := B.exec
  have hb := B.bytes
  have hr := B.returns
  have hts := atoms_spec (ws := wsX6_wrongWith) B.pre
  have hown : s.vm.findClass RX6 = some m.cls := findClass_of_methodNamed B.named
  have hlocks := B.notSynchronized
  subst hsz
  have iX6 : ∀ w ∈ u_ws RX6 TX6 4, w ∈ wsX6_wrongWith := by decide +kernel
  have hD := hD0
  have hP : va_P D vwCl [(h0, .inr (6, [.ref a0, .int lo, .int fo, .int (nI n)])), (a0, .inl (cI, 60, .inl it))] s.heap := hP
  have hl := lv_entry ([.ref h0, .int fm, .int ix]) (n := 3) (Nat.le_of_ble_eq_true rfl)
  rw [lg_entry_eq]
  generalize (lg_sl ([.ref h0, .int fm, .int ix]) ++ List.replicate (3 - (lg_sl ([.ref h0, .int fm, .int ix])).length) Slot.unset).toArray = ls at hl ⊢
  have hl : lv_has ls 3 [(0, .ref h0), (1, .int fm), (2, .int ix)] := hl
  refine lv_aload_n hx hb dX6_wrongWith_0 rfl (lv_at hl 0 rfl) ?_
  refine va_get (D := D) (ci := 6) (v := .int lo) (C := RX6) (T := TX6) (N := 4) hx hb hts iX6 hown hK hP 0 rfl rfl 1 (by decide) (hts (.fieldLink RX6 15 "DeepHole$Sheet" "lost" "Z") (by decide +kernel)) (fun _ h9 => h9) rfl dX6_wrongWith_1 ?_
  refine lv_if_eq (tgt := 9) hx hb dX6_wrongWith_4 (by decide) (fun c_4 => ?_) (fun c_4 => ?_)
  ·
    refine lv_aload_n hx hb dX6_wrongWith_9 rfl (lv_at hl 0 rfl) ?_
    refine va_get (D := D) (ci := 6) (v := .int fo) (C := RX6) (T := TX6) (N := 4) hx hb hts iX6 hown hK hP 0 rfl rfl 2 (by decide) (hts (.fieldLink RX6 25 "DeepHole$Sheet" "form" "I") (by decide +kernel)) (fun _ h9 => h9) rfl dX6_wrongWith_10 ?_
    refine lv_iload_n hx hb dX6_wrongWith_13 rfl (lv_at hl 1 rfl) ?_
    refine lv_icmp_eq (tgt := 19) hx hb dX6_wrongWith_14 (by decide) (fun c_14 => ?_) (fun c_14 => ?_)
    ·
      refine lv_iload_n hx hb dX6_wrongWith_19 rfl (lv_at hl 2 rfl) ?_
      refine lv_iconst (v := 0) hx hb dX6_wrongWith_20 (by decide) ?_
      refine lv_aload_n hx hb dX6_wrongWith_21 rfl (lv_at hl 0 rfl) ?_
      refine va_get (D := D) (ci := 6) (v := .int (nI n)) (C := RX6) (T := TX6) (N := 4) hx hb hts iX6 hown hK hP 0 rfl rfl 3 (by decide) (hts (.fieldLink RX6 29 "DeepHole$Sheet" "size" "I") (by decide +kernel)) (fun _ h9 => h9) rfl dX6_wrongWith_22 ?_
      refine lv_iconst (v := 1) hx hb dX6_wrongWith_25 (by decide) ?_
      refine lv_isub hx hb dX6_wrongWith_26 ?_
      refine q_SN (tys := TY cI cS cP) (D := D) ⟨hx, hb, hml, hown, hts⟩ [.int ix, .int (0 : Int32), .int ((nI n) - 1)] [] c_X9_within ⟨va_cnB 3 hts ggX6_wrongWith_X9_within rfl rfl rfl hN.2.2.2.1 (hts (.initialized RX9) (by decide +kernel)) (by decide +kernel) ⟨Nat.le_of_ble_eq_true rfl, Nat.le_of_ble_eq_true rfl⟩, (hts (.static yX9_within) (by decide +kernel)), trivial⟩ hK hN rfl hl.1 rfl (Nat.le_of_ble_eq_true rfl) dX6_wrongWith_27 ⟨Nat.zero_le _, Nat.zero_le _⟩ (fun r hw => ?_)
      subst hw
      refine lv_if_eq (tgt := 37) hx hb dX6_wrongWith_30 (by decide) (fun c_30 => ?_) (fun c_30 => ?_)
      ·
        have c_30 := bz c_30
        refine lv_iconst (v := 2) hx hb dX6_wrongWith_37 (by decide) ?_
        exact W.iret (v := 2) hx hb hr (fun t ht hW => ⟨_, rfl, (by unfold wrongW; rw [if_neg (fun h => h c_4), if_neg (fun h => h c_14), if_neg c_30]), ht⟩) (fun _ h => absurd h List.not_mem_nil) dX6_wrongWith_38
      ·
        have c_30 := bnz c_30
        refine lv_iconst (v := 0) hx hb dX6_wrongWith_33 (by decide) ?_
        refine lv_goto (tgt := 38) hx hb dX6_wrongWith_34 (by decide) ?_
        exact W.iret (v := 0) hx hb hr (fun t ht hW => ⟨_, rfl, (by unfold wrongW; rw [if_neg (fun h => h c_4), if_neg (fun h => h c_14), if_pos c_30]), ht⟩) (fun _ h => absurd h List.not_mem_nil) dX6_wrongWith_38
    ·
      refine lv_iconst (v := 3) hx hb dX6_wrongWith_17 (by decide) ?_
      exact W.iret (v := 3) hx hb hr (fun t ht hW => ⟨_, rfl, (by unfold wrongW; rw [if_neg (fun h => h c_4), if_pos c_14]), ht⟩) (fun _ h => absurd h List.not_mem_nil) dX6_wrongWith_18
  ·
    refine lv_iconst (v := 1) hx hb dX6_wrongWith_7 (by decide) ?_
    exact W.iret (v := 1) hx hb hr (fun t ht hW => ⟨_, rfl, (by unfold wrongW; rw [if_pos c_4]), ht⟩) (fun _ h => absurd h List.not_mem_nil) dX6_wrongWith_8

set_option maxHeartbeats 4000000 in
set_option maxRecDepth 100000 in
theorem c_X6_hasRun {l : Launch} {D : va_G} {cI cS cP : ClassId} {sz : Nat} {h0 a0 n : Nat} {lo fo : Int32} {it : Nat → Int32} {i1 k1 : Int32}  : Met l yX6_hasRun wsX6_hasRun ({ frames := 1, cells := 0, slots := 0, locals := 22 }) (PC D (TY cI cS cP) [.ref h0, .int i1, .int k1] sz [(h0, .inr (6, [.ref a0, .int lo, .int fo, .int (nI n)])), (a0, .inl (cI, 60, .inl it))]) (vp_Si (fun r => r = if ((0 ≤ i1 ∧ i1 ≤ nI n) ∧ (0 ≤ k1 ∧ k1 ≤ nI n - i1)) then 1 else 0)) 0 0 (fun _ => False) := by
  refine Met.ofW (cc := cX6_hasRun) (maxL := 3) (ret := (some .boolean)) (by decide) rfl ?_
  intro p e s m args below meth c s₁ B hml hv
  obtain ⟨rfl, hsz, hP, hK, hD0, hN⟩ := hv
  have hx := B.exec
  have hb := B.bytes
  have hr := B.returns
  have hts := atoms_spec (ws := wsX6_hasRun) B.pre
  have hown : s.vm.findClass RX6 = some m.cls := findClass_of_methodNamed B.named
  have hlocks := B.notSynchronized
  subst hsz
  have iX6 : ∀ w ∈ u_ws RX6 TX6 4, w ∈ wsX6_hasRun := by decide +kernel
  have hD := hD0
  have hP : va_P D vwCl [(h0, .inr (6, [.ref a0, .int lo, .int fo, .int (nI n)])), (a0, .inl (cI, 60, .inl it))] s.heap := hP
  have hl := lv_entry ([.ref h0, .int i1, .int k1]) (n := 3) (Nat.le_of_ble_eq_true rfl)
  rw [lg_entry_eq]
  generalize (lg_sl ([.ref h0, .int i1, .int k1]) ++ List.replicate (3 - (lg_sl ([.ref h0, .int i1, .int k1])).length) Slot.unset).toArray = ls at hl ⊢
  have hl : lv_has ls 3 [(0, .ref h0), (1, .int i1), (2, .int k1)] := hl
  refine lv_iload_n hx hb dX6_hasRun_0 rfl (lv_at hl 1 rfl) ?_
  refine lv_iconst (v := 0) hx hb dX6_hasRun_1 (by decide) ?_
  refine lv_aload_n hx hb dX6_hasRun_2 rfl (lv_at hl 0 rfl) ?_
  refine va_get (D := D) (ci := 6) (v := .int (nI n)) (C := RX6) (T := TX6) (N := 4) hx hb hts iX6 hown hK hP 0 rfl rfl 3 (by decide) (hts (.fieldLink RX6 29 "DeepHole$Sheet" "size" "I") (by decide +kernel)) (fun _ h9 => h9) rfl dX6_hasRun_3 ?_
  refine q_SN (tys := TY cI cS cP) (D := D) ⟨hx, hb, hml, hown, hts⟩ [.int i1, .int (0 : Int32), .int (nI n)] [] c_X9_within ⟨va_cnB 3 hts ggX6_hasRun_X9_within rfl rfl rfl hN.2.2.2.1 (hts (.initialized RX9) (by decide +kernel)) (by decide +kernel) ⟨Nat.le_of_ble_eq_true rfl, Nat.le_of_ble_eq_true rfl⟩, (hts (.static yX9_within) (by decide +kernel)), trivial⟩ hK hN rfl hl.1 rfl (Nat.le_of_ble_eq_true rfl) dX6_hasRun_6 ⟨Nat.zero_le _, Nat.zero_le _⟩ (fun r hw => ?_)
  subst hw
  refine lv_if_eq (tgt := 30) hx hb dX6_hasRun_9 (by decide) (fun c_9 => ?_) (fun c_9 => ?_)
  ·
    have c_9 := bz c_9
    refine lv_iconst (v := 0) hx hb dX6_hasRun_30 (by decide) ?_
    exact W.zret (v := 0) hx hb hr (rfl) (fun t ht hW => ⟨_, rfl, (by exact b_0 (fun h => c_9 h.1)), ht⟩) (fun _ h => absurd h List.not_mem_nil) dX6_hasRun_31
  ·
    have c_9 := bnz c_9
    refine lv_iload_n hx hb dX6_hasRun_12 rfl (lv_at hl 2 rfl) ?_
    refine lv_iconst (v := 0) hx hb dX6_hasRun_13 (by decide) ?_
    refine lv_aload_n hx hb dX6_hasRun_14 rfl (lv_at hl 0 rfl) ?_
    refine va_get (D := D) (ci := 6) (v := .int (nI n)) (C := RX6) (T := TX6) (N := 4) hx hb hts iX6 hown hK hP 0 rfl rfl 3 (by decide) (hts (.fieldLink RX6 29 "DeepHole$Sheet" "size" "I") (by decide +kernel)) (fun _ h9 => h9) rfl dX6_hasRun_15 ?_
    refine lv_iload_n hx hb dX6_hasRun_18 rfl (lv_at hl 1 rfl) ?_
    refine lv_isub hx hb dX6_hasRun_19 ?_
    refine q_SN (tys := TY cI cS cP) (D := D) ⟨hx, hb, hml, hown, hts⟩ [.int k1, .int (0 : Int32), .int ((nI n) - i1)] [] c_X9_within ⟨va_cnB 3 hts ggX6_hasRun_X9_within rfl rfl rfl hN.2.2.2.1 (hts (.initialized RX9) (by decide +kernel)) (by decide +kernel) ⟨Nat.le_of_ble_eq_true rfl, Nat.le_of_ble_eq_true rfl⟩, (hts (.static yX9_within) (by decide +kernel)), trivial⟩ hK hN rfl hl.1 rfl (Nat.le_of_ble_eq_true rfl) dX6_hasRun_20 ⟨Nat.zero_le _, Nat.zero_le _⟩ (fun r hw => ?_)
    subst hw
    refine lv_if_eq (tgt := 30) hx hb dX6_hasRun_23 (by decide) (fun c_23 => ?_) (fun c_23 => ?_)
    ·
      have c_23 := bz c_23
      refine lv_iconst (v := 0) hx hb dX6_hasRun_30 (by decide) ?_
      exact W.zret (v := 0) hx hb hr (rfl) (fun t ht hW => ⟨_, rfl, (by exact b_0 (fun h => c_23 h.2)), ht⟩) (fun _ h => absurd h List.not_mem_nil) dX6_hasRun_31
    ·
      have c_23 := bnz c_23
      refine lv_iconst (v := 1) hx hb dX6_hasRun_26 (by decide) ?_
      refine lv_goto (tgt := 31) hx hb dX6_hasRun_27 (by decide) ?_
      exact W.zret (v := 1) hx hb hr (rfl) (fun t ht hW => ⟨_, rfl, (by exact b_1 ⟨c_9, c_23⟩), ht⟩) (fun _ h => absurd h List.not_mem_nil) dX6_hasRun_31

set_option maxHeartbeats 4000000 in
set_option maxRecDepth 100000 in
theorem c_X9_lowestBits {l : Launch} {D : va_G} {cI cS cP : ClassId} {sz : Nat} {fm v : Int32}  : Met l yX9_lowestBits wsX9_lowestBits ({ frames := 0, cells := 0, slots := 0, locals := 0 }) (PC D (TY cI cS cP) [.int fm, .int v] sz []) (vp_Si (fun r => r = lowB fm v)) 0 0 (fun _ => False) := by
  refine Met.ofW (cc := cX9_lowestBits) (maxL := 2) (ret := (some .int)) (by decide) rfl ?_
  intro p e s m args below meth c s₁ B hml hv
  obtain ⟨rfl, hsz, hP, hK, hD0, hN⟩ := hv
  have hx := B.exec
  have hb := B.bytes
  have hr := B.returns
  have hts := atoms_spec (ws := wsX9_lowestBits) B.pre
  have hown : s.vm.findClass RX9 = some m.cls := findClass_of_methodNamed B.named
  have hlocks := B.notSynchronized
  subst hsz
  have hD := hD0
  have hP : va_P D vwCl [] s.heap := hP
  have hl := lv_entry ([.int fm, .int v]) (n := 2) (Nat.le_of_ble_eq_true rfl)
  rw [lg_entry_eq]
  generalize (lg_sl ([.int fm, .int v]) ++ List.replicate (2 - (lg_sl ([.int fm, .int v])).length) Slot.unset).toArray = ls at hl ⊢
  have hl : lv_has ls 2 [(0, .int fm), (1, .int v)] := hl
  refine lv_iload_n hx hb dX9_lowestBits_0 rfl (lv_at hl 0 rfl) ?_
  by_cases c_1_0 : fm = 0
  ·
    refine lv_lookup (tgt := 28) (off := 27) hx hb dX9_lowestBits_1 (by decide) (by rw [c_1_0]; decide) (by decide) ?_
    refine lv_iload_n hx hb dX9_lowestBits_28 rfl (lv_at hl 1 rfl) ?_
    refine lv_i2b (v := v.toInt8.toInt32) hx hb dX9_lowestBits_29 rfl ?_
    exact W.iret (v := v.toInt8.toInt32) hx hb hr (fun t ht hW => ⟨_, rfl, (by unfold lowB; rw [if_pos c_1_0]), ht⟩) (fun _ h => absurd h List.not_mem_nil) dX9_lowestBits_30
  ·
    by_cases c_1_1 : fm = 1
    ·
      refine lv_lookup (tgt := 31) (off := 30) hx hb dX9_lowestBits_1 (by decide) (by rw [c_1_1]; decide) (by decide) ?_
      refine lv_iload_n hx hb dX9_lowestBits_31 rfl (lv_at hl 1 rfl) ?_
      refine lv_i2s (v := v.toInt16.toInt32) hx hb dX9_lowestBits_32 rfl ?_
      exact W.iret (v := v.toInt16.toInt32) hx hb hr (fun t ht hW => ⟨_, rfl, (by unfold lowB; rw [if_neg c_1_0, if_pos c_1_1]), ht⟩) (fun _ h => absurd h List.not_mem_nil) dX9_lowestBits_33
    ·
      refine lv_lookup (tgt := 34) (off := 33) hx hb dX9_lowestBits_1 (by decide) (by rw [show (#[(0, 27), (1, 30)] : Array (Int × Int)).toList = [(0, 27), (1, 30)] from rfl, lv_osw c_1_0 (by decide), lv_osw c_1_1 (by decide)]; rfl) (by decide) ?_
      refine lv_iload_n hx hb dX9_lowestBits_34 rfl (lv_at hl 1 rfl) ?_
      exact W.iret (v := v) hx hb hr (fun t ht hW => ⟨_, rfl, (by unfold lowB; rw [if_neg c_1_0, if_neg c_1_1]), ht⟩) (fun _ h => absurd h List.not_mem_nil) dX9_lowestBits_35
