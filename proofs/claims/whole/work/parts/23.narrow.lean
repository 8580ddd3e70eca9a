set_option maxHeartbeats 4000000 in
set_option maxRecDepth 100000 in
theorem c_X3_narrow {l : Launch} {D : va_G} {cI cS cP : ClassId} {sz : Nat} {g0 s0 a0 s1 a1 : Nat} {lo0 fo0 lo1 fo1 : Int32} {n0 n1 low high : Nat} {it0 it1 : Nat → Int32} {sp i en : Nat} {a b : Int} (hn0 : n0 ≤ 60) (hn1 : n1 ≤ 60) (hlow : low ≤ 500) (hhigh : high ≤ 500) (hie : i ≤ en) (he : en ≤ 60) (ha : -9223372036854775808 ≤ a ∧ a < 9223372036854775808) (hb0 : -9223372036854775808 ≤ b ∧ b < 9223372036854775808) : Met l yX3_narrow wsX3_narrow ({ frames := 3, cells := 0, slots := 0, locals := 66 }) (PC D (TY cI cS cP) [.ref g0, .ref sp, .int (nI i), .int (nI en - 1)] sz [(g0, .inr (3, [.ref s0, .ref s1, .int (nI low), .int (nI high)])), (s0, .inr (6, [.ref a0, .int lo0, .int fo0, .int (nI n0)])), (a0, .inl (cI, 60, .inl it0)), (s1, .inr (6, [.ref a1, .int lo1, .int fo1, .int (nI n1)])), (a1, .inl (cI, 60, .inl it1)), (sp, .inr (7, [.long (lI a), .long (lI b)]))]) (QV D (fun (u : Unit) => True) (fun (u : Unit) => [(g0, .inr (3, [.ref s0, .ref s1, .int (nI low), .int (nI high)])), (s0, .inr (6, [.ref a0, .int lo0, .int fo0, .int (nI n0)])), (a0, .inl (cI, 60, .inl it0)), (s1, .inr (6, [.ref a1, .int lo1, .int fo1, .int (nI n1)])), (a1, .inl (cI, 60, .inl it1)), (sp, .inr (7, [.long (lI (wl (po it0 n0) low i a (en - i))), .long (lI (wh (fr it1 n1) high i b (en - i)))]))]) (va_A [(g0, .inr (3, [.ref s0, .ref s1, .int (nI low), .int (nI high)])), (s0, .inr (6, [.ref a0, .int lo0, .int fo0, .int (nI n0)])), (a0, .inl (cI, 60, .inl it0)), (s1, .inr (6, [.ref a1, .int lo1, .int fo1, .int (nI n1)])), (a1, .inl (cI, 60, .inl it1)), (sp, .inr (7, [.long (lI a), .long (lI b)]))] sz)) 0 0 (va_A [(g0, .inr (3, [.ref s0, .ref s1, .int (nI low), .int (nI high)])), (s0, .inr (6, [.ref a0, .int lo0, .int fo0, .int (nI n0)])), (a0, .inl (cI, 60, .inl it0)), (s1, .inr (6, [.ref a1, .int lo1, .int fo1, .int (nI n1)])), (a1, .inl (cI, 60, .inl it1)), (sp, .inr (7, [.long (lI a), .long (lI b)]))] sz) := by
  refine Met.ofW (cc := cX3_narrow) (maxL := 5) (ret := none) (by decide) rfl ?_
  intro p e s m args below meth c s₁ B hml hv
  obtain ⟨rfl, hsz, hP, hK, hD0, hN⟩ := hv
  have hx := B.exec
  have hb := B.bytes
  have hr := B.returns
  have hts := atoms_spec (ws := wsX3_narrow) B.pre
  have hown : s.vm.findClass RX3 = some m.cls := findClass_of_methodNamed B.named
  have hlocks := B.notSynchronized
  subst hsz
  have iX3 : ∀ w ∈ u_ws RX3 TX3 4, w ∈ wsX3_narrow := by decide +kernel
  have hD := hD0.self (sz := s.heap.size)
  generalize hAe : va_A [(g0, .inr (3, [.ref s0, .ref s1, .int (nI low), .int (nI high)])), (s0, .inr (6, [.ref a0, .int lo0, .int fo0, .int (nI n0)])), (a0, .inl (cI, 60, .inl it0)), (s1, .inr (6, [.ref a1, .int lo1, .int fo1, .int (nI n1)])), (a1, .inl (cI, 60, .inl it1)), (sp, .inr (7, [.long (lI a), .long (lI b)]))] s.heap.size = A at hD ⊢
  have hA : ∀ q : Nat, s.heap.size ≤ q → A q := fun q h => by rw [← hAe]; exact Or.inr h
  have hS : va_S A s.heap s.heap [] := va_S.rf
  have hP : va_P D vwCl [(g0, .inr (3, [.ref s0, .ref s1, .int (nI low), .int (nI high)])), (s0, .inr (6, [.ref a0, .int lo0, .int fo0, .int (nI n0)])), (a0, .inl (cI, 60, .inl it0)), (s1, .inr (6, [.ref a1, .int lo1, .int fo1, .int (nI n1)])), (a1, .inl (cI, 60, .inl it1)), (sp, .inr (7, [.long (lI a), .long (lI b)]))] s.heap := hP
  have hl := lv_entry ([.ref g0, .ref sp, .int (nI i), .int (nI en - 1)]) (n := 5) (Nat.le_of_ble_eq_true rfl)
  rw [lg_entry_eq]
  generalize (lg_sl ([.ref g0, .ref sp, .int (nI i), .int (nI en - 1)]) ++ List.replicate (5 - (lg_sl ([.ref g0, .ref sp, .int (nI i), .int (nI en - 1)])).length) Slot.unset).toArray = ls at hl ⊢
  have hl : lv_has ls 5 [(0, .ref g0), (1, .ref sp), (2, .int (nI i)), (3, .int (nI en - 1))] := hl
  have hpo := po_le it0 n0
  have hfr := fr_le it1 n1
  refine lv_iload_n hx hb dX3_narrow_0 rfl (lv_at hl 2 rfl) ?_
  refine lv_istore (lv' := [(4, .int (nI i)), (0, .ref g0), (1, .ref sp), (2, .int (nI i)), (3, .int (nI en - 1))]) hx hb dX3_narrow_1 hl (by decide) rfl (fun ls hl => ?_)
  have hcf : lI a = lI (wl (po it0 n0) low i a (i - i)) := by simp only [Nat.sub_self, wl]
  rw [hcf] at hP hD
  have hP : va_P D vwCl [(g0, .inr (3, [.ref s0, .ref s1, .int (nI low), .int (nI high)])), (s0, .inr (6, [.ref a0, .int lo0, .int fo0, .int (nI n0)])), (a0, .inl (cI, 60, .inl it0)), (s1, .inr (6, [.ref a1, .int lo1, .int fo1, .int (nI n1)])), (a1, .inl (cI, 60, .inl it1)), (sp, .inr (7, [.long (lI (wl (po it0 n0) low i a (i - i))), .long (lI b)]))] s.heap := hP
  have hD : va_D A [(g0, .inr (3, [.ref s0, .ref s1, .int (nI low), .int (nI high)])), (s0, .inr (6, [.ref a0, .int lo0, .int fo0, .int (nI n0)])), (a0, .inl (cI, 60, .inl it0)), (s1, .inr (6, [.ref a1, .int lo1, .int fo1, .int (nI n1)])), (a1, .inl (cI, 60, .inl it1)), (sp, .inr (7, [.long (lI (wl (po it0 n0) low i a (i - i))), .long (lI b)]))] := hD
  have hcf : lI b = lI (wh (fr it1 n1) high i b (i - i)) := by simp only [Nat.sub_self, wh]
  rw [hcf] at hP hD
  have hP : va_P D vwCl [(g0, .inr (3, [.ref s0, .ref s1, .int (nI low), .int (nI high)])), (s0, .inr (6, [.ref a0, .int lo0, .int fo0, .int (nI n0)])), (a0, .inl (cI, 60, .inl it0)), (s1, .inr (6, [.ref a1, .int lo1, .int fo1, .int (nI n1)])), (a1, .inl (cI, 60, .inl it1)), (sp, .inr (7, [.long (lI (wl (po it0 n0) low i a (i - i))), .long (lI (wh (fr it1 n1) high i b (i - i)))]))] s.heap := hP
  have hD : va_D A [(g0, .inr (3, [.ref s0, .ref s1, .int (nI low), .int (nI high)])), (s0, .inr (6, [.ref a0, .int lo0, .int fo0, .int (nI n0)])), (a0, .inl (cI, 60, .inl it0)), (s1, .inr (6, [.ref a1, .int lo1, .int fo1, .int (nI n1)])), (a1, .inl (cI, 60, .inl it1)), (sp, .inr (7, [.long (lI (wl (po it0 n0) low i a (i - i))), .long (lI (wh (fr it1 n1) high i b (i - i)))]))] := hD
  refine lp_w (I := fun zz9 H locs ls => ∃ (k : Nat), zz9 = en - k ∧ (i ≤ k) ∧ (k ≤ en) ∧ va_P D vwCl [(g0, .inr (3, [.ref s0, .ref s1, .int (nI low), .int (nI high)])), (s0, .inr (6, [.ref a0, .int lo0, .int fo0, .int (nI n0)])), (a0, .inl (cI, 60, .inl it0)), (s1, .inr (6, [.ref a1, .int lo1, .int fo1, .int (nI n1)])), (a1, .inl (cI, 60, .inl it1)), (sp, .inr (7, [.long (lI (wl (po it0 n0) low i a (k - i))), .long (lI (wh (fr it1 n1) high i b (k - i)))]))] H ∧ va_D A [(g0, .inr (3, [.ref s0, .ref s1, .int (nI low), .int (nI high)])), (s0, .inr (6, [.ref a0, .int lo0, .int fo0, .int (nI n0)])), (a0, .inl (cI, 60, .inl it0)), (s1, .inr (6, [.ref a1, .int lo1, .int fo1, .int (nI n1)])), (a1, .inl (cI, 60, .inl it1)), (sp, .inr (7, [.long (lI (wl (po it0 n0) low i a (k - i))), .long (lI (wh (fr it1 n1) high i b (k - i)))]))] ∧ va_S A s.heap H locs ∧ lv_has ls 5 [(0, .ref g0), (1, .ref sp), (2, .int (nI i)), (3, .int (nI en - 1)), (4, .int (nI k))]) ?_ (en - i) ⟨i, rfl, (by omega), (by omega), hP.sub [0, 1, 2, 3, 4, 5] rfl, hD.sub [0, 1, 2, 3, 4, 5] (by decide) rfl, hS, lv_sub hl [1, 2, 3, 4, 0] rfl⟩
  intro n_3 H locs ls ih_3 hI
  obtain ⟨k, hn_3, hik, hke, hP, hD, hS, hl⟩ := hI
  have hwl := wl_up (i := i) (a := a) hpo hlow (k - i)
  have hwh := wh_up (i := i) (b := b) hfr hhigh (k - i)
  have hpk := hpo k
  have hfk := hfr k
  refine lv_iload hx hb dX3_narrow_3 (lv_at hl 4 rfl) ?_
  refine lv_iload_n hx hb dX3_narrow_5 rfl (lv_at hl 3 rfl) ?_
  refine lv_icmp_gt (tgt := 43) hx hb dX3_narrow_6 (by decide) (fun c_6 => ?_) (fun c_6 => ?_)
  ·
    have c_6 : en ≤ k := (m1_gt (by omega) (by omega)).mp c_6
    obtain rfl : k = en := by omega
    have hP9 := hP.sub (ws' := [(g0, .inr (3, [.ref s0, .ref s1, .int (nI low), .int (nI high)])), (s0, .inr (6, [.ref a0, .int lo0, .int fo0, .int (nI n0)])), (a0, .inl (cI, 60, .inl it0)), (s1, .inr (6, [.ref a1, .int lo1, .int fo1, .int (nI n1)])), (a1, .inl (cI, 60, .inl it1)), (sp, .inr (7, [.long (lI (wl (po it0 n0) low i a (k - i))), .long (lI (wh (fr it1 n1) high i b (k - i)))]))]) [0, 1, 2, 3, 4, 5] rfl
    have hD9 := hD.sub (ws' := [(g0, .inr (3, [.ref s0, .ref s1, .int (nI low), .int (nI high)])), (s0, .inr (6, [.ref a0, .int lo0, .int fo0, .int (nI n0)])), (a0, .inl (cI, 60, .inl it0)), (s1, .inr (6, [.ref a1, .int lo1, .int fo1, .int (nI n1)])), (a1, .inl (cI, 60, .inl it1)), (sp, .inr (7, [.long (lI (wl (po it0 n0) low i a (k - i))), .long (lI (wh (fr it1 n1) high i b (k - i)))]))]) [0, 1, 2, 3, 4, 5] (by decide) rfl
    exact W.vret hx hb hr (fun t ht hW => ⟨⟨(), rfl, (trivial), by rw [ht]; exact hP9, hD9⟩, hS.F ht⟩) hS.2.2 dX3_narrow_43
  ·
    have c_6 : k < en := Nat.not_le.mp fun h => c_6 ((m1_gt (by omega) (by omega)).mpr h)
    refine lv_aload_n hx hb dX3_narrow_9 rfl (lv_at hl 1 rfl) ?_
    refine lv_aload_n hx hb dX3_narrow_10 rfl (lv_at hl 0 rfl) ?_
    refine lv_iload hx hb dX3_narrow_11 (lv_at hl 4 rfl) ?_
    refine q_V (wc := [(g0, .inr (3, [.ref s0, .ref s1, .int (nI low), .int (nI high)])), (s0, .inr (6, [.ref a0, .int lo0, .int fo0, .int (nI n0)])), (a0, .inl (cI, 60, .inl it0))]) (b := g0) ⟨hx, hb, hml, hown, hts⟩ [.int (nI k)] [.ref sp] (c_X3_poreOf  (by first | assumption | omega) (by first | assumption | omega)) (cwV 1 hts gX3_narrow_X3_poreOf rfl rfl rfl (by decide +kernel) ⟨Nat.le_of_ble_eq_true rfl, Nat.le_of_ble_eq_true rfl⟩) hK hN hP hD [0, 1, 2] rfl (by decide) (ci := 3) rfl rfl rfl rfl hl.1 rfl (Nat.le_of_ble_eq_true rfl) dX3_narrow_13 ⟨Nat.zero_le _, Nat.zero_le _⟩ (fun r hw => ?_)
    subst hw
    refine lv_aload_n hx hb dX3_narrow_16 rfl (lv_at hl 0 rfl) ?_
    refine va_get (D := D) (ci := 3) (v := .int (nI low)) (C := RX3) (T := TX3) (N := 4) hx hb hts iX3 hown hK hP 0 rfl rfl 2 (by decide) (hts (.fieldLink RX3 28 "DeepHole$Ground" "low" "I") (by decide +kernel)) (fun _ h9 => h9) rfl dX3_narrow_17 ?_
    refine lv_iadd hx hb dX3_narrow_20 ?_
    refine lv_eqi (z := nI ((po it0 n0 k) + low)) (nI_add _ _) ?_
    refine lv_i2l (v := lI (((po it0 n0 k) + low : Nat) : Int)) hx hb dX3_narrow_21 (nI_64 (by omega)) ?_
    refine lv_aload_n hx hb dX3_narrow_22 rfl (lv_at hl 0 rfl) ?_
    refine lv_iload hx hb dX3_narrow_23 (lv_at hl 4 rfl) ?_
    refine q_V (wc := [(g0, .inr (3, [.ref s0, .ref s1, .int (nI low), .int (nI high)])), (s1, .inr (6, [.ref a1, .int lo1, .int fo1, .int (nI n1)])), (a1, .inl (cI, 60, .inl it1))]) (b := g0) ⟨hx, hb, hml, hown, hts⟩ [.int (nI k)] [.long (lI (((po it0 n0 k) + low : Nat) : Int)), .ref sp] (c_X3_fracOf  (by first | assumption | omega) (by first | assumption | omega)) (cwV 1 hts gX3_narrow_X3_fracOf rfl rfl rfl (by decide +kernel) ⟨Nat.le_of_ble_eq_true rfl, Nat.le_of_ble_eq_true rfl⟩) hK hN hP hD [0, 3, 4] rfl (by decide) (ci := 3) rfl rfl rfl rfl hl.1 rfl (Nat.le_of_ble_eq_true rfl) dX3_narrow_25 ⟨Nat.zero_le _, Nat.zero_le _⟩ (fun r hw => ?_)
    subst hw
    refine lv_aload_n hx hb dX3_narrow_28 rfl (lv_at hl 0 rfl) ?_
    refine va_get (D := D) (ci := 3) (v := .int (nI high)) (C := RX3) (T := TX3) (N := 4) hx hb hts iX3 hown hK hP 0 rfl rfl 3 (by decide) (hts (.fieldLink RX3 35 "DeepHole$Ground" "high" "I") (by decide +kernel)) (fun _ h9 => h9) rfl dX3_narrow_29 ?_
    refine lv_isub hx hb dX3_narrow_32 ?_
    refine lv_eqi (z := iI ((((fr it1 n1 k) : Nat) : Int) - ((high : Nat) : Int))) (nI_subz ((fr it1 n1 k)) (high)) ?_
    refine lv_i2l (v := lI ((((fr it1 n1 k) : Nat) : Int) - ((high : Nat) : Int))) hx hb dX3_narrow_33 (iI_64 (by omega) (by omega)) ?_
    refine w_Vv (wc := [(sp, .inr (7, [.long (lI (wl (po it0 n0) low i a (k - i))), .long (lI (wh (fr it1 n1) high i b (k - i)))]))]) (wr := [(g0, .inr (3, [.ref s0, .ref s1, .int (nI low), .int (nI high)])), (s0, .inr (6, [.ref a0, .int lo0, .int fo0, .int (nI n0)])), (a0, .inl (cI, 60, .inl it0)), (s1, .inr (6, [.ref a1, .int lo1, .int fo1, .int (nI n1)])), (a1, .inl (cI, 60, .inl it1))]) (b := sp) ⟨hx, hb, hml, hown, hts⟩ [.long (lI (((po it0 n0 k) + low : Nat) : Int)), .long (lI ((((fr it1 n1 k) : Nat) : Int) - ((high : Nat) : Int)))] [] (c_X7_keep  (by first | assumption | omega) (by first | assumption | omega) (by first | assumption | omega) (by first | assumption | omega)) (cwV 2 hts gX3_narrow_X7_keep rfl rfl rfl (by decide +kernel) ⟨Nat.le_of_ble_eq_true rfl, Nat.le_of_ble_eq_true rfl⟩) hK hN hP hD hS hA [5] [0, 1, 2, 3, 4] rfl (by decide) rfl (by decide) (by decide) (ci := 7) rfl rfl rfl rfl hl.1 rfl (Nat.le_of_ble_eq_true rfl) dX3_narrow_34 ⟨Nat.zero_le _, Nat.zero_le _⟩ (fun u H locs hw hP hD hS => ?_)
    have hP : va_P D vwCl [(g0, .inr (3, [.ref s0, .ref s1, .int (nI low), .int (nI high)])), (s0, .inr (6, [.ref a0, .int lo0, .int fo0, .int (nI n0)])), (a0, .inl (cI, 60, .inl it0)), (s1, .inr (6, [.ref a1, .int lo1, .int fo1, .int (nI n1)])), (a1, .inl (cI, 60, .inl it1)), (sp, .inr (7, [.long (lI (max (wl (po it0 n0) low i a (k - i)) (((po it0 n0 k) + low : Nat) : Int))), .long (lI (min (wh (fr it1 n1) high i b (k - i)) ((((fr it1 n1 k) : Nat) : Int) - ((high : Nat) : Int))))]))] H := hP
    have hD : va_D A [(g0, .inr (3, [.ref s0, .ref s1, .int (nI low), .int (nI high)])), (s0, .inr (6, [.ref a0, .int lo0, .int fo0, .int (nI n0)])), (a0, .inl (cI, 60, .inl it0)), (s1, .inr (6, [.ref a1, .int lo1, .int fo1, .int (nI n1)])), (a1, .inl (cI, 60, .inl it1)), (sp, .inr (7, [.long (lI (max (wl (po it0 n0) low i a (k - i)) (((po it0 n0 k) + low : Nat) : Int))), .long (lI (min (wh (fr it1 n1) high i b (k - i)) ((((fr it1 n1 k) : Nat) : Int) - ((high : Nat) : Int))))]))] := hD
    have hcf : lI (max (wl (po it0 n0) low i a (k - i)) (((po it0 n0 k) + low : Nat) : Int)) = lI (wl (po it0 n0) low i a ((k + 1) - i)) := by rw [show k + 1 - i = (k - i) + 1 by omega, wl, show i + (k - i) = k by omega]; rfl
    rw [hcf] at hP hD
    have hP : va_P D vwCl [(g0, .inr (3, [.ref s0, .ref s1, .int (nI low), .int (nI high)])), (s0, .inr (6, [.ref a0, .int lo0, .int fo0, .int (nI n0)])), (a0, .inl (cI, 60, .inl it0)), (s1, .inr (6, [.ref a1, .int lo1, .int fo1, .int (nI n1)])), (a1, .inl (cI, 60, .inl it1)), (sp, .inr (7, [.long (lI (wl (po it0 n0) low i a ((k + 1) - i))), .long (lI (min (wh (fr it1 n1) high i b (k - i)) ((((fr it1 n1 k) : Nat) : Int) - ((high : Nat) : Int))))]))] H := hP
    have hD : va_D A [(g0, .inr (3, [.ref s0, .ref s1, .int (nI low), .int (nI high)])), (s0, .inr (6, [.ref a0, .int lo0, .int fo0, .int (nI n0)])), (a0, .inl (cI, 60, .inl it0)), (s1, .inr (6, [.ref a1, .int lo1, .int fo1, .int (nI n1)])), (a1, .inl (cI, 60, .inl it1)), (sp, .inr (7, [.long (lI (wl (po it0 n0) low i a ((k + 1) - i))), .long (lI (min (wh (fr it1 n1) high i b (k - i)) ((((fr it1 n1 k) : Nat) : Int) - ((high : Nat) : Int))))]))] := hD
    have hcf : lI (min (wh (fr it1 n1) high i b (k - i)) ((((fr it1 n1 k) : Nat) : Int) - ((high : Nat) : Int))) = lI (wh (fr it1 n1) high i b ((k + 1) - i)) := by rw [show k + 1 - i = (k - i) + 1 by omega, wh, show i + (k - i) = k by omega]
    rw [hcf] at hP hD
    have hP : va_P D vwCl [(g0, .inr (3, [.ref s0, .ref s1, .int (nI low), .int (nI high)])), (s0, .inr (6, [.ref a0, .int lo0, .int fo0, .int (nI n0)])), (a0, .inl (cI, 60, .inl it0)), (s1, .inr (6, [.ref a1, .int lo1, .int fo1, .int (nI n1)])), (a1, .inl (cI, 60, .inl it1)), (sp, .inr (7, [.long (lI (wl (po it0 n0) low i a ((k + 1) - i))), .long (lI (wh (fr it1 n1) high i b ((k + 1) - i)))]))] H := hP
    have hD : va_D A [(g0, .inr (3, [.ref s0, .ref s1, .int (nI low), .int (nI high)])), (s0, .inr (6, [.ref a0, .int lo0, .int fo0, .int (nI n0)])), (a0, .inl (cI, 60, .inl it0)), (s1, .inr (6, [.ref a1, .int lo1, .int fo1, .int (nI n1)])), (a1, .inl (cI, 60, .inl it1)), (sp, .inr (7, [.long (lI (wl (po it0 n0) low i a ((k + 1) - i))), .long (lI (wh (fr it1 n1) high i b ((k + 1) - i)))]))] := hD
    refine lv_iinc (v := nI (k + 1)) (lv' := [(4, .int (nI (k + 1))), (0, .ref g0), (1, .ref sp), (2, .int (nI i)), (3, .int (nI en - 1))]) hx hb dX3_narrow_37 hl (k := 4) rfl (nI_1 _) (by decide) rfl (fun ls hl => ?_)
    refine lv_goto (tgt := 3) hx hb dX3_narrow_40 (by decide) ?_
    exact ih_3 _ _ _ _ (by omega) ⟨k + 1, rfl, (by omega), (by omega), hP.sub [0, 1, 2, 3, 4, 5] rfl, hD.sub [0, 1, 2, 3, 4, 5] (by decide) rfl, hS, lv_sub hl [1, 2, 3, 4, 0] rfl⟩
