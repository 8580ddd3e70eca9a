set_option maxHeartbeats 4000000 in
set_option maxRecDepth 100000 in
theorem c_X9_count {l : Launch} {D : va_G} {cI cS cP : ClassId} {sz : Nat} {x0 sx la tr ap sp : Nat} {fd : Int32} {w0 d sh cap sw : Nat} {k0 mu qa ra nc da wa sa : Nat} {u0 fa ta np fe te kk : Nat} {pt : Nat} {ptf : Nat → Option Nat} {pa xa ya na : Nat} {pb xb yb nb : Nat} {g0 s0 s1 low high : Nat} {w9 : Int32} (hp0 : ptf 0 = some pa) (hp1 : ptf 1 = some pb) : Met l yX9_count wsX9_count ({ frames := 0, cells := 0, slots := 0, locals := 0 }) (PC D (TY cI cS cP) [.ref x0, .int w9] sz [(x0, .inr (9, [.ref sx, .ref g0, .ref w0, .ref k0, .ref la, .ref tr, .ref u0, .ref pt, .ref ap, .ref sp, .int fd])), (w0, .inr (8, [.ref g0, .int (nI d), .int (nI sh), .int (nI cap), .int (nI sw)])), (k0, .inr (1, [.ref g0, .ref mu, .ref qa, .ref ra, .int (nI nc), .ref da, .ref wa, .ref sa])), (u0, .inr (5, [.ref fa, .ref ta, .int (nI np), .int (nI fe), .int (nI te), .int (nI kk)])), (pt, .inl (cP, 2, .inr (.inr (.inr (.inr ptf))))), (pa, .inr (4, [.ref xa, .ref ya, .int (nI na)])), (pb, .inr (4, [.ref xb, .ref yb, .int (nI nb)])), (g0, .inr (3, [.ref s0, .ref s1, .int (nI low), .int (nI high)]))]) (vp_Si (fun r => r = aCount d sh nc np na nb fd low high w9)) 0 0 (fun _ => False) := by
  refine Met.ofW (cc := cX9_count) (maxL := 2) (ret := (some .int)) (by decide) rfl ?_
  intro p e s m args below meth c s₁ B hml hv
  obtain ⟨rfl, hsz, hP, hK, hD0, hN⟩ := hv
  have hx := B.exec
  have hb := B.bytes
  have hr := B.returns
  have hts := atoms_spec (ws := wsX9_count) B.pre
  have hown : s.vm.findClass RX9 = some m.cls := findClass_of_methodNamed B.named
  have hlocks := B.notSynchronized
  subst hsz
  have iX1 : ∀ w ∈ u_ws RX1 TX1 8, w ∈ wsX9_count := by decide +kernel
  have iX3 : ∀ w ∈ u_ws RX3 TX3 4, w ∈ wsX9_count := by decide +kernel
  have iX4 : ∀ w ∈ u_ws RX4 TX4 3, w ∈ wsX9_count := by decide +kernel
  have iX5 : ∀ w ∈ u_ws RX5 TX5 6, w ∈ wsX9_count := by decide +kernel
  have iX8 : ∀ w ∈ u_ws RX8 TX8 5, w ∈ wsX9_count := by decide +kernel
  have iX9 : ∀ w ∈ u_ws RX9 TX9 11, w ∈ wsX9_count := by decide +kernel
  have hD := hD0
  have hP : va_P D vwCl [(x0, .inr (9, [.ref sx, .ref g0, .ref w0, .ref k0, .ref la, .ref tr, .ref u0, .ref pt, .ref ap, .ref sp, .int fd])), (w0, .inr (8, [.ref g0, .int (nI d), .int (nI sh), .int (nI cap), .int (nI sw)])), (k0, .inr (1, [.ref g0, .ref mu, .ref qa, .ref ra, .int (nI nc), .ref da, .ref wa, .ref sa])), (u0, .inr (5, [.ref fa, .ref ta, .int (nI np), .int (nI fe), .int (nI te), .int (nI kk)])), (pt, .inl (cP, 2, .inr (.inr (.inr (.inr ptf))))), (pa, .inr (4, [.ref xa, .ref ya, .int (nI na)])), (pb, .inr (4, [.ref xb, .ref yb, .int (nI nb)])), (g0, .inr (3, [.ref s0, .ref s1, .int (nI low), .int (nI high)]))] s.heap := hP
  have hl := lv_entry ([.ref x0, .int w9]) (n := 2) (Nat.le_of_ble_eq_true rfl)
  rw [lg_entry_eq]
  generalize (lg_sl ([.ref x0, .int w9]) ++ List.replicate (2 - (lg_sl ([.ref x0, .int w9])).length) Slot.unset).toArray = ls at hl ⊢
  have hl : lv_has ls 2 [(0, .ref x0), (1, .int w9)] := hl
  refine lv_iload_n hx hb dX9_count_0 rfl (lv_at hl 1 rfl) ?_
  rcases sw8 w9 with c_1 | c_1 | c_1 | c_1 | c_1 | c_1 | c_1 | c_1 | c_1
  ·
    refine lv_tableIn (tgt := 48) (off := 47) hx hb dX9_count_1 (by rw [c_1]; decide) (by rw [c_1]; decide) (by rw [c_1]; rfl) (by decide) ?_
    refine lv_aload_n hx hb dX9_count_48 rfl (lv_at hl 0 rfl) ?_
    refine va_get (D := D) (ci := 9) (v := .ref w0) (C := RX9) (T := TX9) (N := 11) hx hb hts iX9 hown hK hP 0 rfl rfl 2 (by decide) (hts (.fieldLink RX9 58 "DeepHole" "well" "LDeepHole$Well;") (by decide +kernel)) (fun _ h9 => h9) rfl dX9_count_49 ?_
    refine va_get (D := D) (ci := 8) (v := .int (nI d)) (C := RX8) (T := TX8) (N := 5) hx hb hts iX8 hown hK hP 1 rfl rfl 1 (by decide) (hts (.fieldLink RX9 85 "DeepHole$Well" "depth" "I") (by decide +kernel)) (fun _ h9 => h9) rfl dX9_count_52 ?_
    exact W.iret (v := nI d) hx hb hr (fun t ht hW => ⟨_, rfl, (by rw [c_1]; rfl), ht⟩) (fun _ h => absurd h List.not_mem_nil) dX9_count_55
  ·
    refine lv_tableIn (tgt := 56) (off := 55) hx hb dX9_count_1 (by rw [c_1]; decide) (by rw [c_1]; decide) (by rw [c_1]; rfl) (by decide) ?_
    refine lv_aload_n hx hb dX9_count_56 rfl (lv_at hl 0 rfl) ?_
    refine va_get (D := D) (ci := 9) (v := .ref w0) (C := RX9) (T := TX9) (N := 11) hx hb hts iX9 hown hK hP 0 rfl rfl 2 (by decide) (hts (.fieldLink RX9 58 "DeepHole" "well" "LDeepHole$Well;") (by decide +kernel)) (fun _ h9 => h9) rfl dX9_count_57 ?_
    refine va_get (D := D) (ci := 8) (v := .int (nI sh)) (C := RX8) (T := TX8) (N := 5) hx hb hts iX8 hown hK hP 1 rfl rfl 2 (by decide) (hts (.fieldLink RX9 89 "DeepHole$Well" "shoe" "I") (by decide +kernel)) (fun _ h9 => h9) rfl dX9_count_60 ?_
    exact W.iret (v := nI sh) hx hb hr (fun t ht hW => ⟨_, rfl, (by rw [c_1]; rfl), ht⟩) (fun _ h => absurd h List.not_mem_nil) dX9_count_63
  ·
    refine lv_tableIn (tgt := 64) (off := 63) hx hb dX9_count_1 (by rw [c_1]; decide) (by rw [c_1]; decide) (by rw [c_1]; rfl) (by decide) ?_
    refine lv_aload_n hx hb dX9_count_64 rfl (lv_at hl 0 rfl) ?_
    refine va_get (D := D) (ci := 9) (v := .ref k0) (C := RX9) (T := TX9) (N := 11) hx hb hts iX9 hown hK hP 0 rfl rfl 3 (by decide) (hts (.fieldLink RX9 65 "DeepHole" "casings" "LDeepHole$Casings;") (by decide +kernel)) (fun _ h9 => h9) rfl dX9_count_65 ?_
    refine va_get (D := D) (ci := 1) (v := .int (nI nc)) (C := RX1) (T := TX1) (N := 8) hx hb hts iX1 hown hK hP 2 rfl rfl 4 (by decide) (hts (.fieldLink RX9 135 "DeepHole$Casings" "number" "I") (by decide +kernel)) (fun _ h9 => h9) rfl dX9_count_68 ?_
    exact W.iret (v := nI nc) hx hb hr (fun t ht hW => ⟨_, rfl, (by rw [c_1]; rfl), ht⟩) (fun _ h => absurd h List.not_mem_nil) dX9_count_71
  ·
    refine lv_tableIn (tgt := 72) (off := 71) hx hb dX9_count_1 (by rw [c_1]; decide) (by rw [c_1]; decide) (by rw [c_1]; rfl) (by decide) ?_
    refine lv_aload_n hx hb dX9_count_72 rfl (lv_at hl 0 rfl) ?_
    refine va_get (D := D) (ci := 9) (v := .ref u0) (C := RX9) (T := TX9) (N := 11) hx hb hts iX9 hown hK hP 0 rfl rfl 6 (by decide) (hts (.fieldLink RX9 18 "DeepHole" "pulls" "LDeepHole$Pulls;") (by decide +kernel)) (fun _ h9 => h9) rfl dX9_count_73 ?_
    refine va_get (D := D) (ci := 5) (v := .int (nI np)) (C := RX5) (T := TX5) (N := 6) hx hb hts iX5 hown hK hP 3 rfl rfl 2 (by decide) (hts (.fieldLink RX9 211 "DeepHole$Pulls" "number" "I") (by decide +kernel)) (fun _ h9 => h9) rfl dX9_count_76 ?_
    exact W.iret (v := nI np) hx hb hr (fun t ht hW => ⟨_, rfl, (by rw [c_1]; rfl), ht⟩) (fun _ h => absurd h List.not_mem_nil) dX9_count_79
  ·
    refine lv_tableIn (tgt := 80) (off := 79) hx hb dX9_count_1 (by rw [c_1]; decide) (by rw [c_1]; decide) (by rw [c_1]; rfl) (by decide) ?_
    refine lv_aload_n hx hb dX9_count_80 rfl (lv_at hl 0 rfl) ?_
    refine va_get (D := D) (ci := 9) (v := .ref pt) (C := RX9) (T := TX9) (N := 11) hx hb hts iX9 hown hK hP 0 rfl rfl 7 (by decide) (hts (.fieldLink RX9 24 "DeepHole" "paths" "[LDeepHole$Path;") (by decide +kernel)) (fun _ h9 => h9) rfl dX9_count_81 ?_
    refine lv_iconst (v := 0) hx hb dX9_count_84 (by decide) ?_
    refine rd_q hx hb hK hP 4 2 rfl rfl (k := 0) (by omega) (by decide) (hp0) dX9_count_85 ?_
    refine va_get (D := D) (ci := 4) (v := .int (nI na)) (C := RX4) (T := TX4) (N := 3) hx hb hts iX4 hown hK hP 5 rfl rfl 2 (by decide) (hts (.fieldLink RX9 233 "DeepHole$Path" "stations" "I") (by decide +kernel)) (fun _ h9 => h9) rfl dX9_count_86 ?_
    refine lv_aload_n hx hb dX9_count_89 rfl (lv_at hl 0 rfl) ?_
    refine va_get (D := D) (ci := 9) (v := .ref pt) (C := RX9) (T := TX9) (N := 11) hx hb hts iX9 hown hK hP 0 rfl rfl 7 (by decide) (hts (.fieldLink RX9 24 "DeepHole" "paths" "[LDeepHole$Path;") (by decide +kernel)) (fun _ h9 => h9) rfl dX9_count_90 ?_
    refine lv_iconst (v := 1) hx hb dX9_count_93 (by decide) ?_
    refine rd_q hx hb hK hP 4 2 rfl rfl (k := 1) (by omega) (by decide) (hp1) dX9_count_94 ?_
    refine va_get (D := D) (ci := 4) (v := .int (nI nb)) (C := RX4) (T := TX4) (N := 3) hx hb hts iX4 hown hK hP 6 rfl rfl 2 (by decide) (hts (.fieldLink RX9 233 "DeepHole$Path" "stations" "I") (by decide +kernel)) (fun _ h9 => h9) rfl dX9_count_95 ?_
    refine lv_iadd hx hb dX9_count_98 ?_
    refine lv_eqi (z := nI (na + nb)) (nI_add _ _) ?_
    exact W.iret (v := nI (na + nb)) hx hb hr (fun t ht hW => ⟨_, rfl, (by rw [c_1]; rfl), ht⟩) (fun _ h => absurd h List.not_mem_nil) dX9_count_99
  ·
    refine lv_tableIn (tgt := 100) (off := 99) hx hb dX9_count_1 (by rw [c_1]; decide) (by rw [c_1]; decide) (by rw [c_1]; rfl) (by decide) ?_
    refine lv_aload_n hx hb dX9_count_100 rfl (lv_at hl 0 rfl) ?_
    refine va_get (D := D) (ci := 9) (v := .int fd) (C := RX9) (T := TX9) (N := 11) hx hb hts iX9 hown hK hP 0 rfl rfl 10 (by decide) (hts (.fieldLink RX9 308 "DeepHole" "finding" "I") (by decide +kernel)) (fun _ h9 => h9) rfl dX9_count_101 ?_
    exact W.iret (v := fd) hx hb hr (fun t ht hW => ⟨_, rfl, (by rw [c_1]; rfl), ht⟩) (fun _ h => absurd h List.not_mem_nil) dX9_count_104
  ·
    refine lv_tableIn (tgt := 105) (off := 104) hx hb dX9_count_1 (by rw [c_1]; decide) (by rw [c_1]; decide) (by rw [c_1]; rfl) (by decide) ?_
    refine lv_aload_n hx hb dX9_count_105 rfl (lv_at hl 0 rfl) ?_
    refine va_get (D := D) (ci := 9) (v := .ref g0) (C := RX9) (T := TX9) (N := 11) hx hb hts iX9 hown hK hP 0 rfl rfl 1 (by decide) (hts (.fieldLink RX9 49 "DeepHole" "ground" "LDeepHole$Ground;") (by decide +kernel)) (fun _ h9 => h9) rfl dX9_count_106 ?_
    refine va_get (D := D) (ci := 3) (v := .int (nI low)) (C := RX3) (T := TX3) (N := 4) hx hb hts iX3 hown hK hP 7 rfl rfl 2 (by decide) (hts (.fieldLink RX9 92 "DeepHole$Ground" "low" "I") (by decide +kernel)) (fun _ h9 => h9) rfl dX9_count_109 ?_
    exact W.iret (v := nI low) hx hb hr (fun t ht hW => ⟨_, rfl, (by rw [c_1]; rfl), ht⟩) (fun _ h => absurd h List.not_mem_nil) dX9_count_112
  ·
    refine lv_tableIn (tgt := 113) (off := 112) hx hb dX9_count_1 (by rw [c_1]; decide) (by rw [c_1]; decide) (by rw [c_1]; rfl) (by decide) ?_
    refine lv_aload_n hx hb dX9_count_113 rfl (lv_at hl 0 rfl) ?_
    refine va_get (D := D) (ci := 9) (v := .ref g0) (C := RX9) (T := TX9) (N := 11) hx hb hts iX9 hown hK hP 0 rfl rfl 1 (by decide) (hts (.fieldLink RX9 49 "DeepHole" "ground" "LDeepHole$Ground;") (by decide +kernel)) (fun _ h9 => h9) rfl dX9_count_114 ?_
    refine va_get (D := D) (ci := 3) (v := .int (nI high)) (C := RX3) (T := TX3) (N := 4) hx hb hts iX3 hown hK hP 7 rfl rfl 3 (by decide) (hts (.fieldLink RX9 95 "DeepHole$Ground" "high" "I") (by decide +kernel)) (fun _ h9 => h9) rfl dX9_count_117 ?_
    exact W.iret (v := nI high) hx hb hr (fun t ht hW => ⟨_, rfl, (by rw [c_1]; rfl), ht⟩) (fun _ h => absurd h List.not_mem_nil) dX9_count_120
  ·
    refine lv_tableOut (tgt := 121) hx hb dX9_count_1 c_1 (by decide) ?_
    refine lv_bipush (v := (-2)) hx hb dX9_count_121 (by decide) ?_
    exact W.iret (v := (-2)) hx hb hr (fun t ht hW => ⟨_, rfl, (by have n_1 := sw8n c_1; unfold aCount; rw [if_neg n_1.1, if_neg n_1.2.1, if_neg n_1.2.2.1, if_neg n_1.2.2.2.1, if_neg n_1.2.2.2.2.1, if_neg n_1.2.2.2.2.2.1, if_neg n_1.2.2.2.2.2.2.1, if_neg n_1.2.2.2.2.2.2.2]), ht⟩) (fun _ h => absurd h List.not_mem_nil) dX9_count_123

set_option maxHeartbeats 4000000 in
set_option maxRecDepth 100000 in
theorem c_X9_digest {l : Launch} {D : va_G} {cI cS cP : ClassId} {sz : Nat} {x0 sx la tr ap sp : Nat} {fd : Int32} {w0 d sh cap sw : Nat} {k0 mu qa ra nc da wa sa : Nat} {u0 fa ta np fe te kk : Nat} {pt : Nat} {ptf : Nat → Option Nat} {pa xa ya na : Nat} {xs ys : Nat → Int32} {pb xb yb nb : Nat} {g0 s0 s1 low high : Nat} {a0 a1 : Nat} {lo0 fo0 lo1 fo1 : Int32} {n0 n1 : Nat} {it0 it1 : Nat → Int32} {xt yt : Nat → Int32} (hp0 : ptf 0 = some pa) (hp1 : ptf 1 = some pb) (hna : na ≤ 40) (hnb : nb ≤ 40) (hn0 : n0 ≤ 60) (hn1 : n1 ≤ 60) : Met l yX9_digest wsX9_digest ({ frames := 3, cells := 0, slots := 0, locals := 66 }) (PC D (TY cI cS cP) [.ref x0] sz [(x0, .inr (9, [.ref sx, .ref g0, .ref w0, .ref k0, .ref la, .ref tr, .ref u0, .ref pt, .ref ap, .ref sp, .int fd])), (w0, .inr (8, [.ref g0, .int (nI d), .int (nI sh), .int (nI cap), .int (nI sw)])), (k0, .inr (1, [.ref g0, .ref mu, .ref qa, .ref ra, .int (nI nc), .ref da, .ref wa, .ref sa])), (u0, .inr (5, [.ref fa, .ref ta, .int (nI np), .int (nI fe), .int (nI te), .int (nI kk)])), (pt, .inl (cP, 2, .inr (.inr (.inr (.inr ptf))))), (pa, .inr (4, [.ref xa, .ref ya, .int (nI na)])), (xa, .inl (cI, 41, .inl xs)), (ya, .inl (cI, 41, .inl ys)), (pb, .inr (4, [.ref xb, .ref yb, .int (nI nb)])), (xb, .inl (cI, 41, .inl xt)), (yb, .inl (cI, 41, .inl yt)), (g0, .inr (3, [.ref s0, .ref s1, .int (nI low), .int (nI high)])), (s0, .inr (6, [.ref a0, .int lo0, .int fo0, .int (nI n0)])), (a0, .inl (cI, 60, .inl it0)), (s1, .inr (6, [.ref a1, .int lo1, .int fo1, .int (nI n1)])), (a1, .inl (cI, 60, .inl it1))]) (vp_Sl (fun r => r = dgF (fun k => aCount d sh nc np na nb fd low high (nI k)) (po it0 n0) (fr it1 n1) (xs na) (ys na) (xt nb) (yt nb))) 0 0 (fun _ => False) := by
  refine Met.ofW (cc := cX9_digest) (maxL := 5) (ret := (some .long)) (by decide) rfl ?_
  intro p e s m args below meth c s₁ B hml hv
  obtain ⟨rfl, hsz, hP, hK, hD0, hN⟩ := hv
  have hx := B.exec
  have hb := B.bytes
  have hr := B.returns
  have hts := atoms_spec (ws := wsX9_digest) B.pre
  have hown : s.vm.findClass RX9 = some m.cls := findClass_of_methodNamed B.named
  have hlocks := B.notSynchronized
  subst hsz
  have iX4 : ∀ w ∈ u_ws RX4 TX4 3, w ∈ wsX9_digest := by decide +kernel
  have iX9 : ∀ w ∈ u_ws RX9 TX9 11, w ∈ wsX9_digest := by decide +kernel
  have hD := hD0
  have hP : va_P D vwCl [(x0, .inr (9, [.ref sx, .ref g0, .ref w0, .ref k0, .ref la, .ref tr, .ref u0, .ref pt, .ref ap, .ref sp, .int fd])), (w0, .inr (8, [.ref g0, .int (nI d), .int (nI sh), .int (nI cap), .int (nI sw)])), (k0, .inr (1, [.ref g0, .ref mu, .ref qa, .ref ra, .int (nI nc), .ref da, .ref wa, .ref sa])), (u0, .inr (5, [.ref fa, .ref ta, .int (nI np), .int (nI fe), .int (nI te), .int (nI kk)])), (pt, .inl (cP, 2, .inr (.inr (.inr (.inr ptf))))), (pa, .inr (4, [.ref xa, .ref ya, .int (nI na)])), (xa, .inl (cI, 41, .inl xs)), (ya, .inl (cI, 41, .inl ys)), (pb, .inr (4, [.ref xb, .ref yb, .int (nI nb)])), (xb, .inl (cI, 41, .inl xt)), (yb, .inl (cI, 41, .inl yt)), (g0, .inr (3, [.ref s0, .ref s1, .int (nI low), .int (nI high)])), (s0, .inr (6, [.ref a0, .int lo0, .int fo0, .int (nI n0)])), (a0, .inl (cI, 60, .inl it0)), (s1, .inr (6, [.ref a1, .int lo1, .int fo1, .int (nI n1)])), (a1, .inl (cI, 60, .inl it1))] s.heap := hP
  have hl := lv_entry ([.ref x0]) (n := 5) (Nat.le_of_ble_eq_true rfl)
  rw [lg_entry_eq]
  generalize (lg_sl ([.ref x0]) ++ List.replicate (5 - (lg_sl ([.ref x0])).length) Slot.unset).toArray = ls at hl ⊢
  have hl : lv_has ls 5 [(0, .ref x0)] := hl
  refine lv_ldc2 hx hb hown (hts (.constantLong RX9 311 (17)) (by decide +kernel)) dX9_digest_0 ?_
  refine lv_lstore_n (lv' := [(1, .long 17), (0, .ref x0)]) hx hb dX9_digest_3 rfl hl (by decide) rfl (fun ls hl => ?_)
  refine lv_iconst (v := 0) hx hb dX9_digest_4 (by decide) ?_
  refine lv_istore_n (lv' := [(3, .int 0), (1, .long 17), (0, .ref x0)]) hx hb dX9_digest_5 rfl hl (by decide) rfl (fun ls hl => ?_)
  refine lp_q (I := fun zz9 ls => ∃ (k : Nat) (h : Int64), zz9 = 8 - k ∧ (k ≤ 8) ∧ (dg1 (fun k => aCount d sh nc np na nb fd low high (nI k)) 0 8 17 = dg1 (fun k => aCount d sh nc np na nb fd low high (nI k)) k (8 - k) h) ∧ lv_has ls 5 [(0, .ref x0), (1, .long h), (3, .int (nI k))]) ?_ (8 - 0) ⟨0, (17 : Int64), rfl, (by omega), (rfl), lv_sub hl [2, 1, 0] rfl⟩
  intro n_6 ls ih_6 hI
  obtain ⟨k, h, hn_6, hk9, hs1, hl⟩ := hI
  refine lv_iload_n hx hb dX9_digest_6 rfl (lv_at hl 2 rfl) ?_
  refine lv_bipush (v := 7) hx hb dX9_digest_7 (by decide) ?_
  refine lv_icmp_gt (tgt := 36) hx hb dX9_digest_9 (by decide) (fun c_9 => ?_) (fun c_9 => ?_)
  ·
    have c_9 := n_gt (a := k) (b := 7) c_9 (by omega) (by omega)
    refine lv_iconst (v := 0) hx hb dX9_digest_36 (by decide) ?_
    refine lv_istore_n (lv' := [(3, .int 0), (0, .ref x0), (1, .long h)]) hx hb dX9_digest_37 rfl hl (by decide) rfl (fun ls hl => ?_)
    refine lp_q (I := fun zz9 ls => ∃ (k : Nat) (h : Int64), zz9 = 50 - k ∧ (k ≤ 50) ∧ (dg2 (po it0 n0) (fr it1 n1) 0 50 (dg1 (fun k => aCount d sh nc np na nb fd low high (nI k)) 0 8 17) = dg2 (po it0 n0) (fr it1 n1) k (50 - k) h) ∧ lv_has ls 5 [(0, .ref x0), (1, .long h), (3, .int (nI k))]) ?_ (50 - 0) ⟨0, h, rfl, (by omega), (by rw [hs1, show 8 - k = 0 by omega]; rfl), lv_sub hl [1, 2, 0] rfl⟩
    intro n_38 ls ih_38 hI
    obtain ⟨k, h, hn_38, hk9, hs2, hl⟩ := hI
    refine lv_iload_n hx hb dX9_digest_38 rfl (lv_at hl 2 rfl) ?_
    refine lv_bipush (v := 50) hx hb dX9_digest_39 (by decide) ?_
    refine lv_icmp_ge (tgt := 82) hx hb dX9_digest_41 (by decide) (fun c_41 => ?_) (fun c_41 => ?_)
    ·
      have c_41 := n_ge (a := k) (b := 50) c_41 (by omega) (by omega)
      refine lv_iconst (v := 0) hx hb dX9_digest_82 (by decide) ?_
      refine lv_istore_n (lv' := [(3, .int 0), (0, .ref x0), (1, .long h)]) hx hb dX9_digest_83 rfl hl (by decide) rfl (fun ls hl => ?_)
      refine lv_iload_n hx hb dX9_digest_84 rfl (lv_at hl 0 rfl) ?_
      refine lv_iconst (v := 2) hx hb dX9_digest_85 (by decide) ?_
      refine lv_icmp_ge (tgt := 141) hx hb dX9_digest_86 (by decide) (fun c_86 => absurd c_86 (by decide)) (fun c_86 => ?_)
      refine lv_aload_n hx hb dX9_digest_89 rfl (lv_at hl 1 rfl) ?_
      refine va_get (D := D) (ci := 9) (v := .ref pt) (C := RX9) (T := TX9) (N := 11) hx hb hts iX9 hown hK hP 0 rfl rfl 7 (by decide) (hts (.fieldLink RX9 24 "DeepHole" "paths" "[LDeepHole$Path;") (by decide +kernel)) (fun _ h9 => h9) rfl dX9_digest_90 ?_
      refine lv_iload_n hx hb dX9_digest_93 rfl (lv_at hl 0 rfl) ?_
      refine rd_q hx hb hK hP 4 2 rfl rfl (k := 0) (by omega) (by decide) (hp0) dX9_digest_94 ?_
      refine lv_astore (lv' := [(4, .ref pa), (3, .int 0), (0, .ref x0), (1, .long h)]) hx hb dX9_digest_95 hl (by decide) rfl (fun ls hl => ?_)
      refine lv_ldc2 hx hb hown (hts (.constantLong RX9 313 (31)) (by decide +kernel)) dX9_digest_97 ?_
      refine lv_lload_n hx hb dX9_digest_100 rfl (lv_at hl 3 rfl) ?_
      refine lv_lmul hx hb dX9_digest_101 ?_
      refine lv_aload hx hb dX9_digest_102 (lv_at hl 0 rfl) ?_
      refine va_get (D := D) (ci := 4) (v := .ref xa) (C := RX4) (T := TX4) (N := 3) hx hb hts iX4 hown hK hP 5 rfl rfl 0 (by decide) (hts (.fieldLink RX9 244 "DeepHole$Path" "xs" "[I") (by decide +kernel)) (fun _ h9 => h9) rfl dX9_digest_104 ?_
      refine lv_aload hx hb dX9_digest_107 (lv_at hl 0 rfl) ?_
      refine va_get (D := D) (ci := 4) (v := .int (nI na)) (C := RX4) (T := TX4) (N := 3) hx hb hts iX4 hown hK hP 5 rfl rfl 2 (by decide) (hts (.fieldLink RX9 233 "DeepHole$Path" "stations" "I") (by decide +kernel)) (fun _ h9 => h9) rfl dX9_digest_109 ?_
      refine rd_i hx hb hK hP 6 0 rfl rfl (k := na) (by omega) (by decide) dX9_digest_112 ?_
      refine lv_i2l (v := (xs na).toInt64) hx hb dX9_digest_113 rfl ?_
      refine lv_ladd hx hb dX9_digest_114 ?_
      refine lv_lstore_n (lv' := [(1, .long ((31 * h) + ((xs na).toInt64))), (4, .ref pa), (3, .int 0), (0, .ref x0)]) hx hb dX9_digest_115 rfl hl (by decide) rfl (fun ls hl => ?_)
      refine lv_ldc2 hx hb hown (hts (.constantLong RX9 313 (31)) (by decide +kernel)) dX9_digest_116 ?_
      refine lv_lload_n hx hb dX9_digest_119 rfl (lv_at hl 0 rfl) ?_
      refine lv_lmul hx hb dX9_digest_120 ?_
      refine lv_aload hx hb dX9_digest_121 (lv_at hl 1 rfl) ?_
      refine va_get (D := D) (ci := 4) (v := .ref ya) (C := RX4) (T := TX4) (N := 3) hx hb hts iX4 hown hK hP 5 rfl rfl 1 (by decide) (hts (.fieldLink RX9 248 "DeepHole$Path" "ys" "[I") (by decide +kernel)) (fun _ h9 => h9) rfl dX9_digest_123 ?_
      refine lv_aload hx hb dX9_digest_126 (lv_at hl 1 rfl) ?_
      refine va_get (D := D) (ci := 4) (v := .int (nI na)) (C := RX4) (T := TX4) (N := 3) hx hb hts iX4 hown hK hP 5 rfl rfl 2 (by decide) (hts (.fieldLink RX9 233 "DeepHole$Path" "stations" "I") (by decide +kernel)) (fun _ h9 => h9) rfl dX9_digest_128 ?_
      refine rd_i hx hb hK hP 7 0 rfl rfl (k := na) (by omega) (by decide) dX9_digest_131 ?_
      refine lv_i2l (v := (ys na).toInt64) hx hb dX9_digest_132 rfl ?_
      refine lv_ladd hx hb dX9_digest_133 ?_
      refine lv_lstore_n (lv' := [(1, .long ((31 * ((31 * h) + ((xs na).toInt64))) + ((ys na).toInt64))), (4, .ref pa), (3, .int 0), (0, .ref x0)]) hx hb dX9_digest_134 rfl hl (by decide) rfl (fun ls hl => ?_)
      refine lv_iinc (v := 1) (lv' := [(3, .int 1), (1, .long ((31 * ((31 * h) + ((xs na).toInt64))) + ((ys na).toInt64))), (4, .ref pa), (0, .ref x0)]) hx hb dX9_digest_135 hl (k := 2) rfl (by decide) (by decide) rfl (fun ls hl => ?_)
      refine lv_goto (tgt := 84) hx hb dX9_digest_138 (by decide) ?_
      refine lv_iload_n hx hb dX9_digest_84 rfl (lv_at hl 0 rfl) ?_
      refine lv_iconst (v := 2) hx hb dX9_digest_85 (by decide) ?_
      refine lv_icmp_ge (tgt := 141) hx hb dX9_digest_86 (by decide) (fun c_86 => absurd c_86 (by decide)) (fun c_86 => ?_)
      refine lv_aload_n hx hb dX9_digest_89 rfl (lv_at hl 3 rfl) ?_
      refine va_get (D := D) (ci := 9) (v := .ref pt) (C := RX9) (T := TX9) (N := 11) hx hb hts iX9 hown hK hP 0 rfl rfl 7 (by decide) (hts (.fieldLink RX9 24 "DeepHole" "paths" "[LDeepHole$Path;") (by decide +kernel)) (fun _ h9 => h9) rfl dX9_digest_90 ?_
      refine lv_iload_n hx hb dX9_digest_93 rfl (lv_at hl 0 rfl) ?_
      refine rd_q hx hb hK hP 4 2 rfl rfl (k := 1) (by omega) (by decide) (hp1) dX9_digest_94 ?_
      refine lv_astore (lv' := [(4, .ref pb), (3, .int 1), (1, .long ((31 * ((31 * h) + ((xs na).toInt64))) + ((ys na).toInt64))), (0, .ref x0)]) hx hb dX9_digest_95 hl (by decide) rfl (fun ls hl => ?_)
      refine lv_ldc2 hx hb hown (hts (.constantLong RX9 313 (31)) (by decide +kernel)) dX9_digest_97 ?_
      refine lv_lload_n hx hb dX9_digest_100 rfl (lv_at hl 2 rfl) ?_
      refine lv_lmul hx hb dX9_digest_101 ?_
      refine lv_aload hx hb dX9_digest_102 (lv_at hl 0 rfl) ?_
      refine va_get (D := D) (ci := 4) (v := .ref xb) (C := RX4) (T := TX4) (N := 3) hx hb hts iX4 hown hK hP 8 rfl rfl 0 (by decide) (hts (.fieldLink RX9 244 "DeepHole$Path" "xs" "[I") (by decide +kernel)) (fun _ h9 => h9) rfl dX9_digest_104 ?_
      refine lv_aload hx hb dX9_digest_107 (lv_at hl 0 rfl) ?_
      refine va_get (D := D) (ci := 4) (v := .int (nI nb)) (C := RX4) (T := TX4) (N := 3) hx hb hts iX4 hown hK hP 8 rfl rfl 2 (by decide) (hts (.fieldLink RX9 233 "DeepHole$Path" "stations" "I") (by decide +kernel)) (fun _ h9 => h9) rfl dX9_digest_109 ?_
      refine rd_i hx hb hK hP 9 0 rfl rfl (k := nb) (by omega) (by decide) dX9_digest_112 ?_
      refine lv_i2l (v := (xt nb).toInt64) hx hb dX9_digest_113 rfl ?_
      refine lv_ladd hx hb dX9_digest_114 ?_
      refine lv_lstore_n (lv' := [(1, .long ((31 * ((31 * ((31 * h) + ((xs na).toInt64))) + ((ys na).toInt64))) + ((xt nb).toInt64))), (4, .ref pb), (3, .int 1), (0, .ref x0)]) hx hb dX9_digest_115 rfl hl (by decide) rfl (fun ls hl => ?_)
      refine lv_ldc2 hx hb hown (hts (.constantLong RX9 313 (31)) (by decide +kernel)) dX9_digest_116 ?_
      refine lv_lload_n hx hb dX9_digest_119 rfl (lv_at hl 0 rfl) ?_
      refine lv_lmul hx hb dX9_digest_120 ?_
      refine lv_aload hx hb dX9_digest_121 (lv_at hl 1 rfl) ?_
      refine va_get (D := D) (ci := 4) (v := .ref yb) (C := RX4) (T := TX4) (N := 3) hx hb hts iX4 hown hK hP 8 rfl rfl 1 (by decide) (hts (.fieldLink RX9 248 "DeepHole$Path" "ys" "[I") (by decide +kernel)) (fun _ h9 => h9) rfl dX9_digest_123 ?_
      refine lv_aload hx hb dX9_digest_126 (lv_at hl 1 rfl) ?_
      refine va_get (D := D) (ci := 4) (v := .int (nI nb)) (C := RX4) (T := TX4) (N := 3) hx hb hts iX4 hown hK hP 8 rfl rfl 2 (by decide) (hts (.fieldLink RX9 233 "DeepHole$Path" "stations" "I") (by decide +kernel)) (fun _ h9 => h9) rfl dX9_digest_128 ?_
      refine rd_i hx hb hK hP 10 0 rfl rfl (k := nb) (by omega) (by decide) dX9_digest_131 ?_
      refine lv_i2l (v := (yt nb).toInt64) hx hb dX9_digest_132 rfl ?_
      refine lv_ladd hx hb dX9_digest_133 ?_
      refine lv_lstore_n (lv' := [(1, .long ((31 * ((31 * ((31 * ((31 * h) + ((xs na).toInt64))) + ((ys na).toInt64))) + ((xt nb).toInt64))) + ((yt nb).toInt64))), (4, .ref pb), (3, .int 1), (0, .ref x0)]) hx hb dX9_digest_134 rfl hl (by decide) rfl (fun ls hl => ?_)
      refine lv_iinc (v := 2) (lv' := [(3, .int 2), (1, .long ((31 * ((31 * ((31 * ((31 * h) + ((xs na).toInt64))) + ((ys na).toInt64))) + ((xt nb).toInt64))) + ((yt nb).toInt64))), (4, .ref pb), (0, .ref x0)]) hx hb dX9_digest_135 hl (k := 2) rfl (by decide) (by decide) rfl (fun ls hl => ?_)
      refine lv_goto (tgt := 84) hx hb dX9_digest_138 (by decide) ?_
      refine lv_iload_n hx hb dX9_digest_84 rfl (lv_at hl 0 rfl) ?_
      refine lv_iconst (v := 2) hx hb dX9_digest_85 (by decide) ?_
      refine lv_icmp_ge (tgt := 141) hx hb dX9_digest_86 (by decide) (fun c_86 => ?_) (fun c_86 => absurd c_86 (by decide))
      refine lv_lload_n hx hb dX9_digest_141 rfl (lv_at hl 1 rfl) ?_
      exact W.lret (v := (31 * ((31 * ((31 * ((31 * h) + ((xs na).toInt64))) + ((ys na).toInt64))) + ((xt nb).toInt64))) + ((yt nb).toInt64)) hx hb hr (fun t ht hW => ⟨_, rfl, (by unfold dgF; rw [hs2, show 50 - k = 0 by omega]; rfl), ht⟩) (fun _ h => absurd h List.not_mem_nil) dX9_digest_142
    ·
      have c_41 := n_nge (a := k) (b := 50) c_41 (by omega) (by omega)
      refine lv_ldc2 hx hb hown (hts (.constantLong RX9 313 (31)) (by decide +kernel)) dX9_digest_44 ?_
      refine lv_lload_n hx hb dX9_digest_47 rfl (lv_at hl 1 rfl) ?_
      refine lv_lmul hx hb dX9_digest_48 ?_
      refine lv_aload_n hx hb dX9_digest_49 rfl (lv_at hl 0 rfl) ?_
      refine va_get (D := D) (ci := 9) (v := .ref g0) (C := RX9) (T := TX9) (N := 11) hx hb hts iX9 hown hK hP 0 rfl rfl 1 (by decide) (hts (.fieldLink RX9 49 "DeepHole" "ground" "LDeepHole$Ground;") (by decide +kernel)) (fun _ h9 => h9) rfl dX9_digest_50 ?_
      refine lv_iload_n hx hb dX9_digest_53 rfl (lv_at hl 2 rfl) ?_
      refine q_V (wc := [(g0, .inr (3, [.ref s0, .ref s1, .int (nI low), .int (nI high)])), (s0, .inr (6, [.ref a0, .int lo0, .int fo0, .int (nI n0)])), (a0, .inl (cI, 60, .inl it0))]) (b := g0) ⟨hx, hb, hml, hown, hts⟩ [.int (nI k)] [.long (31 * h)] (c_X3_poreOf  (by first | assumption | omega) (by first | assumption | omega)) (cwV 1 hts gX9_digest_X3_poreOf rfl rfl rfl (by decide +kernel) ⟨Nat.le_of_ble_eq_true rfl, Nat.le_of_ble_eq_true rfl⟩) hK hN hP hD [11, 12, 13] rfl (by decide) (ci := 3) rfl rfl rfl rfl hl.1 rfl (Nat.le_of_ble_eq_true rfl) dX9_digest_54 ⟨Nat.zero_le _, Nat.zero_le _⟩ (fun r hw => ?_)
      subst hw
      refine lv_i2l (v := (nI (po it0 n0 k)).toInt64) hx hb dX9_digest_57 rfl ?_
      refine lv_ladd hx hb dX9_digest_58 ?_
      refine lv_lstore_n (lv' := [(1, .long ((31 * h) + ((nI (po it0 n0 k)).toInt64))), (0, .ref x0), (3, .int (nI k))]) hx hb dX9_digest_59 rfl hl (by decide) rfl (fun ls hl => ?_)
      refine lv_ldc2 hx hb hown (hts (.constantLong RX9 313 (31)) (by decide +kernel)) dX9_digest_60 ?_
      refine lv_lload_n hx hb dX9_digest_63 rfl (lv_at hl 0 rfl) ?_
      refine lv_lmul hx hb dX9_digest_64 ?_
      refine lv_aload_n hx hb dX9_digest_65 rfl (lv_at hl 1 rfl) ?_
      refine va_get (D := D) (ci := 9) (v := .ref g0) (C := RX9) (T := TX9) (N := 11) hx hb hts iX9 hown hK hP 0 rfl rfl 1 (by decide) (hts (.fieldLink RX9 49 "DeepHole" "ground" "LDeepHole$Ground;") (by decide +kernel)) (fun _ h9 => h9) rfl dX9_digest_66 ?_
      refine lv_iload_n hx hb dX9_digest_69 rfl (lv_at hl 2 rfl) ?_
      refine q_V (wc := [(g0, .inr (3, [.ref s0, .ref s1, .int (nI low), .int (nI high)])), (s1, .inr (6, [.ref a1, .int lo1, .int fo1, .int (nI n1)])), (a1, .inl (cI, 60, .inl it1))]) (b := g0) ⟨hx, hb, hml, hown, hts⟩ [.int (nI k)] [.long (31 * ((31 * h) + ((nI (po it0 n0 k)).toInt64)))] (c_X3_fracOf  (by first | assumption | omega) (by first | assumption | omega)) (cwV 1 hts gX9_digest_X3_fracOf rfl rfl rfl (by decide +kernel) ⟨Nat.le_of_ble_eq_true rfl, Nat.le_of_ble_eq_true rfl⟩) hK hN hP hD [11, 14, 15] rfl (by decide) (ci := 3) rfl rfl rfl rfl hl.1 rfl (Nat.le_of_ble_eq_true rfl) dX9_digest_70 ⟨Nat.zero_le _, Nat.zero_le _⟩ (fun r hw => ?_)
      subst hw
      refine lv_i2l (v := (nI (fr it1 n1 k)).toInt64) hx hb dX9_digest_73 rfl ?_
      refine lv_ladd hx hb dX9_digest_74 ?_
      refine lv_lstore_n (lv' := [(1, .long ((31 * ((31 * h) + ((nI (po it0 n0 k)).toInt64))) + ((nI (fr it1 n1 k)).toInt64))), (0, .ref x0), (3, .int (nI k))]) hx hb dX9_digest_75 rfl hl (by decide) rfl (fun ls hl => ?_)
      refine lv_iinc (v := nI (k + 1)) (lv' := [(3, .int (nI (k + 1))), (1, .long ((31 * ((31 * h) + ((nI (po it0 n0 k)).toInt64))) + ((nI (fr it1 n1 k)).toInt64))), (0, .ref x0)]) hx hb dX9_digest_76 hl (k := 2) rfl (nI_1 _) (by decide) rfl (fun ls hl => ?_)
      refine lv_goto (tgt := 38) hx hb dX9_digest_79 (by decide) ?_
      exact ih_38 _ _ (by omega) ⟨k + 1, (31 * ((31 * h) + ((nI (po it0 n0 k)).toInt64))) + ((nI (fr it1 n1 k)).toInt64), rfl, (by omega), (by rw [hs2, dg2_step (by omega), Nat.sub_sub]), lv_sub hl [2, 1, 0] rfl⟩
  ·
    have c_9 := n_ngt (a := k) (b := 7) c_9 (by omega) (by omega)
    refine lv_iload_n hx hb dX9_digest_12 rfl (lv_at hl 2 rfl) ?_
    refine lv_iconst (v := 5) hx hb dX9_digest_13 (by decide) ?_
    refine lv_icmp_eq (tgt := 30) hx hb dX9_digest_14 (by decide) (fun c_14 => ?_) (fun c_14 => ?_)
    ·
      have c_14 := n_eq (a := k) (b := 5) c_14 (by omega) (by omega)
      refine lv_iinc (v := nI (k + 1)) (lv' := [(3, .int (nI (k + 1))), (0, .ref x0), (1, .long h)]) hx hb dX9_digest_30 hl (k := 2) rfl (nI_1 _) (by decide) rfl (fun ls hl => ?_)
      refine lv_goto (tgt := 6) hx hb dX9_digest_33 (by decide) ?_
      exact ih_6 _ _ (by omega) ⟨k + 1, h, rfl, (by omega), (by rw [hs1, dg1_step (by omega), Nat.sub_sub]; first | rw [if_pos c_14] | rw [if_neg c_14]), lv_sub hl [1, 2, 0] rfl⟩
    ·
      have c_14 := n_ne (a := k) (b := 5) c_14 (by omega) (by omega)
      refine lv_ldc2 hx hb hown (hts (.constantLong RX9 313 (31)) (by decide +kernel)) dX9_digest_17 ?_
      refine lv_lload_n hx hb dX9_digest_20 rfl (lv_at hl 1 rfl) ?_
      refine lv_lmul hx hb dX9_digest_21 ?_
      refine lv_aload_n hx hb dX9_digest_22 rfl (lv_at hl 0 rfl) ?_
      refine lv_iload_n hx hb dX9_digest_23 rfl (lv_at hl 2 rfl) ?_
      refine q_V (wc := [(x0, .inr (9, [.ref sx, .ref g0, .ref w0, .ref k0, .ref la, .ref tr, .ref u0, .ref pt, .ref ap, .ref sp, .int fd])), (w0, .inr (8, [.ref g0, .int (nI d), .int (nI sh), .int (nI cap), .int (nI sw)])), (k0, .inr (1, [.ref g0, .ref mu, .ref qa, .ref ra, .int (nI nc), .ref da, .ref wa, .ref sa])), (u0, .inr (5, [.ref fa, .ref ta, .int (nI np), .int (nI fe), .int (nI te), .int (nI kk)])), (pt, .inl (cP, 2, .inr (.inr (.inr (.inr ptf))))), (pa, .inr (4, [.ref xa, .ref ya, .int (nI na)])), (pb, .inr (4, [.ref xb, .ref yb, .int (nI nb)])), (g0, .inr (3, [.ref s0, .ref s1, .int (nI low), .int (nI high)]))]) (b := x0) ⟨hx, hb, hml, hown, hts⟩ [.int (nI k)] [.long (31 * h)] (c_X9_count  (by first | assumption | omega) (by first | assumption | omega)) (cwV 1 hts gX9_digest_X9_count rfl rfl rfl (by decide +kernel) ⟨Nat.le_of_ble_eq_true rfl, Nat.le_of_ble_eq_true rfl⟩) hK hN hP hD [0, 1, 2, 3, 4, 5, 8, 11] rfl (by decide) (ci := 9) rfl rfl rfl rfl hl.1 rfl (Nat.le_of_ble_eq_true rfl) dX9_digest_24 ⟨Nat.zero_le _, Nat.zero_le _⟩ (fun r hw => ?_)
      subst hw
      refine lv_i2l (v := (aCount d sh nc np na nb fd low high (nI k)).toInt64) hx hb dX9_digest_27 rfl ?_
      refine lv_ladd hx hb dX9_digest_28 ?_
      refine lv_lstore_n (lv' := [(1, .long ((31 * h) + ((aCount d sh nc np na nb fd low high (nI k)).toInt64))), (0, .ref x0), (3, .int (nI k))]) hx hb dX9_digest_29 rfl hl (by decide) rfl (fun ls hl => ?_)
      refine lv_iinc (v := nI (k + 1)) (lv' := [(3, .int (nI (k + 1))), (1, .long ((31 * h) + ((aCount d sh nc np na nb fd low high (nI k)).toInt64))), (0, .ref x0)]) hx hb dX9_digest_30 hl (k := 2) rfl (nI_1 _) (by decide) rfl (fun ls hl => ?_)
      refine lv_goto (tgt := 6) hx hb dX9_digest_33 (by decide) ?_
      exact ih_6 _ _ (by omega) ⟨k + 1, (31 * h) + ((aCount d sh nc np na nb fd low high (nI k)).toInt64), rfl, (by omega), (by rw [hs1, dg1_step (by omega), Nat.sub_sub]; first | rw [if_pos c_14] | rw [if_neg c_14]), lv_sub hl [2, 1, 0] rfl⟩
