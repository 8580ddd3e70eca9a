set_option maxHeartbeats 4000000 in
set_option maxRecDepth 100000 in
theorem law_turn {p : Program} {l : Launch} {e : Env} {s : State} {m : MethodId} {below : List Frame} {meth : Method} {c : Code} {H : Heap} {locs : List Loc} {Q : State → Prop} {b L : Nat} {zs : Nat → Int32} {D : va_G} {cI cS cP : ClassId} {A : Nat → Prop} {x0 m0 sx g0 w0 k0 la tr u0 pt ap sp s0 a0 s1 a1 s2 a2 s3 a3 mu pa ra da wa sa fa ta p0 xa ya p1 xb yb qk qp qr qc qm qb qf qs qt qx qy qo qz qi qv : Nat} {sxf ptf : Nat → Option Nat} {csf : Nat → Int32} {ls : Array Slot} {i : Nat} (C : LC p s m c b L zs D cI cS cP A) (hL : L ≤ 3072) (hlt : i + 6 ≤ L) (hI : INV D cI cS cP A x0 m0 sx g0 w0 k0 la tr u0 pt ap sp s0 a0 s1 a1 s2 a2 s3 a3 mu pa ra da wa sa fa ta p0 xa ya p1 xb yb qk qp qr qc qm qb qf qs qt qx qy qo qz qi qv sxf ptf csf H) (hS : va_S A s.heap H locs) (hl : lv_has ls 4 [(0, .ref b), (1, .ref x0), (2, .ref m0), (3, .int (nI i))]) (K : ∀ (H : Heap) (locs : List Loc), INV D cI cS cP A x0 m0 sx g0 w0 k0 la tr u0 pt ap sp s0 a0 s1 a1 s2 a2 s3 a3 mu pa ra da wa sa fa ta p0 xa ya p1 xb yb qk qp qr qc qm qb qf qs qt qx qy qo qz qi qv sxf ptf csf H → va_S A s.heap H locs → W p l e room_1 s m #[Value.ref b] below meth c H locs 49 2852 Q (F0 m 1230 ls [])) : W p l e room_1 s m #[Value.ref b] below meth c H locs 49 2852 Q (F0 m 33 ls [.int (zs i &&& 63)]) := by
  obtain ⟨hx, hb, -⟩ := id C
  rcases sw34 (zs i &&& 63) with c_33 | c_33 | c_33 | c_33 | c_33 | c_33 | c_33 | c_33 | c_33 | c_33 | c_33 | c_33 | c_33 | c_33 | c_33 | c_33 | c_33 | c_33 | c_33 | c_33 | c_33 | c_33 | c_33 | c_33 | c_33 | c_33 | c_33 | c_33 | c_33 | c_33 | c_33 | c_33 | c_33 | c_33 | c_33
  ·
    refine lv_tableIn (tgt := 184) (off := 151) hx hb dL_law_33 (by rw [c_33]; decide) (by rw [c_33]; decide) (by rw [c_33]; rfl) (by decide) ?_
    exact law_hole C hlt hL hI hS hl K
  ·
    refine lv_tableIn (tgt := 217) (off := 184) hx hb dL_law_33 (by rw [c_33]; decide) (by rw [c_33]; decide) (by rw [c_33]; rfl) (by decide) ?_
    exact law_margins C hlt hL hI hS hl K
  ·
    refine lv_tableIn (tgt := 250) (off := 217) hx hb dL_law_33 (by rw [c_33]; decide) (by rw [c_33]; decide) (by rw [c_33]; rfl) (by decide) ?_
    exact law_ground C hlt hL hI hS hl K
  ·
    refine lv_tableIn (tgt := 283) (off := 250) hx hb dL_law_33 (by rw [c_33]; decide) (by rw [c_33]; decide) (by rw [c_33]; rfl) (by decide) ?_
    exact law_breaks C hlt hL hI hS hl K
  ·
    refine lv_tableIn (tgt := 306) (off := 273) hx hb dL_law_33 (by rw [c_33]; decide) (by rw [c_33]; decide) (by rw [c_33]; rfl) (by decide) ?_
    exact law_window C hlt hL hI hS hl K
  ·
    refine lv_tableIn (tgt := 349) (off := 316) hx hb dL_law_33 (by rw [c_33]; decide) (by rw [c_33]; decide) (by rw [c_33]; rfl) (by decide) ?_
    exact law_string C hlt hL hI hS hl K
  ·
    refine lv_tableIn (tgt := 382) (off := 349) hx hb dL_law_33 (by rw [c_33]; decide) (by rw [c_33]; decide) (by rw [c_33]; rfl) (by decide) ?_
    exact law_bare C hlt hL hI hS hl K
  ·
    refine lv_tableIn (tgt := 395) (off := 362) hx hb dL_law_33 (by rw [c_33]; decide) (by rw [c_33]; decide) (by rw [c_33]; rfl) (by decide) ?_
    exact law_plan C hlt hL hI hS hl K
  ·
    refine lv_tableIn (tgt := 418) (off := 385) hx hb dL_law_33 (by rw [c_33]; decide) (by rw [c_33]; decide) (by rw [c_33]; rfl) (by decide) ?_
    exact law_shoe C hlt hL hI hS hl K
  ·
    refine lv_tableIn (tgt := 451) (off := 418) hx hb dL_law_33 (by rw [c_33]; decide) (by rw [c_33]; decide) (by rw [c_33]; rfl) (by decide) ?_
    exact law_cap C hlt hL hI hS hl K
  ·
    refine lv_tableIn (tgt := 474) (off := 441) hx hb dL_law_33 (by rw [c_33]; decide) (by rw [c_33]; decide) (by rw [c_33]; rfl) (by decide) ?_
    exact law_kick C hlt hL hI hS hl K
  ·
    refine lv_tableIn (tgt := 517) (off := 484) hx hb dL_law_33 (by rw [c_33]; decide) (by rw [c_33]; decide) (by rw [c_33]; rfl) (by decide) ?_
    exact law_gas C hlt hL hI hS hl K
  ·
    refine lv_tableIn (tgt := 551) (off := 518) hx hb dL_law_33 (by rw [c_33]; decide) (by rw [c_33]; decide) (by rw [c_33]; rfl) (by decide) ?_
    exact law_broken C hlt hL hI hS hl K
  ·
    refine lv_tableIn (tgt := 564) (off := 531) hx hb dL_law_33 (by rw [c_33]; decide) (by rw [c_33]; decide) (by rw [c_33]; rfl) (by decide) ?_
    exact law_bears C hlt hL hI hS hl K
  ·
    refine lv_tableIn (tgt := 597) (off := 564) hx hb dL_law_33 (by rw [c_33]; decide) (by rw [c_33]; decide) (by rw [c_33]; rfl) (by decide) ?_
    exact law_swab C hlt hL hI hS hl K
  ·
    refine lv_tableIn (tgt := 620) (off := 587) hx hb dL_law_33 (by rw [c_33]; decide) (by rw [c_33]; decide) (by rw [c_33]; rfl) (by decide) ?_
    exact law_speed C hlt hL hI hS hl K
  ·
    refine lv_tableIn (tgt := 653) (off := 620) hx hb dL_law_33 (by rw [c_33]; decide) (by rw [c_33]; decide) (by rw [c_33]; rfl) (by decide) ?_
    exact law_trip C hlt hL hI hS hl K
  ·
    refine lv_tableIn (tgt := 676) (off := 643) hx hb dL_law_33 (by rw [c_33]; decide) (by rw [c_33]; decide) (by rw [c_33]; rfl) (by decide) ?_
    exact law_lightest C hlt hL hI hS hl K
  ·
    refine lv_tableIn (tgt := 699) (off := 666) hx hb dL_law_33 (by rw [c_33]; decide) (by rw [c_33]; decide) (by rw [c_33]; rfl) (by decide) ?_
    exact law_pull C hlt hL hI hS hl K
  ·
    refine lv_tableIn (tgt := 732) (off := 699) hx hb dL_law_33 (by rw [c_33]; decide) (by rw [c_33]; decide) (by rw [c_33]; rfl) (by decide) ?_
    exact law_slack C hlt hL hI hS hl K
  ·
    refine lv_tableIn (tgt := 745) (off := 712) hx hb dL_law_33 (by rw [c_33]; decide) (by rw [c_33]; decide) (by rw [c_33]; rfl) (by decide) ?_
    exact law_ends C hlt hL hI hS hl K
  ·
    refine lv_tableIn (tgt := 788) (off := 755) hx hb dL_law_33 (by rw [c_33]; decide) (by rw [c_33]; decide) (by rw [c_33]; rfl) (by decide) ?_
    exact law_free C hlt hL hI hS hl K
  ·
    refine lv_tableIn (tgt := 812) (off := 779) hx hb dL_law_33 (by rw [c_33]; decide) (by rw [c_33]; decide) (by rw [c_33]; rfl) (by decide) ?_
    by_cases q : 0 ≤ zs (i + 1) ∧ zs (i + 1) ≤ 1
    · obtain ⟨k, hk, hv⟩ := nat_of (hi := 1) (n := 1) (by decide) q
      rcases (show k = 0 ∨ k = 1 by omega) with rfl | rfl
      · exact law_begin_0 C hlt hL hv hI hS hl K
      · exact law_begin_1 C hlt hL hv hI hS hl K
    · exact law_begin_b C hlt hL q hI hS hl K
  ·
    refine lv_tableIn (tgt := 845) (off := 812) hx hb dL_law_33 (by rw [c_33]; decide) (by rw [c_33]; decide) (by rw [c_33]; rfl) (by decide) ?_
    by_cases q : 0 ≤ zs (i + 1) ∧ zs (i + 1) ≤ 1
    · obtain ⟨k, hk, hv⟩ := nat_of (hi := 1) (n := 1) (by decide) q
      rcases (show k = 0 ∨ k = 1 by omega) with rfl | rfl
      · exact law_station_0 C hlt hL hv hI hS hl K
      · exact law_station_1 C hlt hL hv hI hS hl K
    · exact law_station_b C hlt hL q hI hS hl K
  ·
    refine lv_tableIn (tgt := 888) (off := 855) hx hb dL_law_33 (by rw [c_33]; decide) (by rw [c_33]; decide) (by rw [c_33]; rfl) (by decide) ?_
    by_cases q : 0 ≤ zs (i + 1) ∧ zs (i + 1) ≤ 1
    · obtain ⟨k, hk, hv⟩ := nat_of (hi := 1) (n := 1) (by decide) q
      rcases (show k = 0 ∨ k = 1 by omega) with rfl | rfl
      · exact law_place_0 C hlt hL hv hI hS hl K
      · exact law_place_1 C hlt hL hv hI hS hl K
    · exact law_place_b C hlt hL q hI hS hl K
  ·
    refine lv_tableIn (tgt := 931) (off := 898) hx hb dL_law_33 (by rw [c_33]; decide) (by rw [c_33]; decide) (by rw [c_33]; rfl) (by decide) ?_
    exact law_nearest C hlt hL hI hS hl K
  ·
    refine lv_tableIn (tgt := 945) (off := 912) hx hb dL_law_33 (by rw [c_33]; decide) (by rw [c_33]; decide) (by rw [c_33]; rfl) (by decide) ?_
    exact law_where C hlt hL hI hS hl K
  ·
    refine lv_tableIn (tgt := 968) (off := 935) hx hb dL_law_33 (by rw [c_33]; decide) (by rw [c_33]; decide) (by rw [c_33]; rfl) (by decide) ?_
    by_cases q : 0 ≤ zs (i + 1) ∧ zs (i + 1) ≤ 3
    · obtain ⟨k, hk, hv⟩ := nat_of (hi := 3) (n := 3) (by decide) q
      rcases (show k = 0 ∨ k = 1 ∨ k = 2 ∨ k = 3 by omega) with rfl | rfl | rfl | rfl
      · exact law_sheet_0 C hlt hL hv hI hS hl K
      · exact law_sheet_1 C hlt hL hv hI hS hl K
      · exact law_sheet_2 C hlt hL hv hI hS hl K
      · exact law_sheet_3 C hlt hL hv hI hS hl K
    · exact law_sheet_b C hlt hL q hI hS hl K
  ·
    refine lv_tableIn (tgt := 1011) (off := 978) hx hb dL_law_33 (by rw [c_33]; decide) (by rw [c_33]; decide) (by rw [c_33]; rfl) (by decide) ?_
    by_cases q : 0 ≤ zs (i + 1) ∧ zs (i + 1) ≤ 3
    · obtain ⟨k, hk, hv⟩ := nat_of (hi := 3) (n := 3) (by decide) q
      rcases (show k = 0 ∨ k = 1 ∨ k = 2 ∨ k = 3 by omega) with rfl | rfl | rfl | rfl
      · exact law_lose_0 C hlt hL hv hI hS hl K
      · exact law_lose_1 C hlt hL hv hI hS hl K
      · exact law_lose_2 C hlt hL hv hI hS hl K
      · exact law_lose_3 C hlt hL hv hI hS hl K
    · exact law_lose_b C hlt hL q hI hS hl K
  ·
    refine lv_tableIn (tgt := 1034) (off := 1001) hx hb dL_law_33 (by rw [c_33]; decide) (by rw [c_33]; decide) (by rw [c_33]; rfl) (by decide) ?_
    by_cases q : 0 ≤ zs (i + 1) ∧ zs (i + 1) ≤ 3
    · obtain ⟨k, hk, hv⟩ := nat_of (hi := 3) (n := 3) (by decide) q
      rcases (show k = 0 ∨ k = 1 ∨ k = 2 ∨ k = 3 by omega) with rfl | rfl | rfl | rfl
      · exact law_put_0 C hlt hL hv hI hS hl K
      · exact law_put_1 C hlt hL hv hI hS hl K
      · exact law_put_2 C hlt hL hv hI hS hl K
      · exact law_put_3 C hlt hL hv hI hS hl K
    · exact law_put_b C hlt hL q hI hS hl K
  ·
    refine lv_tableIn (tgt := 1087) (off := 1054) hx hb dL_law_33 (by rw [c_33]; decide) (by rw [c_33]; decide) (by rw [c_33]; rfl) (by decide) ?_
    by_cases q : 0 ≤ zs (i + 1) ∧ zs (i + 1) ≤ 3
    · obtain ⟨k, hk, hv⟩ := nat_of (hi := 3) (n := 3) (by decide) q
      rcases (show k = 0 ∨ k = 1 ∨ k = 2 ∨ k = 3 by omega) with rfl | rfl | rfl | rfl
      · exact law_get_0 C hlt hL hv hI hS hl K
      · exact law_get_1 C hlt hL hv hI hS hl K
      · exact law_get_2 C hlt hL hv hI hS hl K
      · exact law_get_3 C hlt hL hv hI hS hl K
    · exact law_get_b C hlt hL q hI hS hl K
  ·
    refine lv_tableIn (tgt := 1130) (off := 1097) hx hb dL_law_33 (by rw [c_33]; decide) (by rw [c_33]; decide) (by rw [c_33]; rfl) (by decide) ?_
    by_cases q : (0 ≤ zs (i + 1) ∧ zs (i + 1) ≤ 3) ∧ (0 ≤ zs (i + 3) ∧ zs (i + 3) ≤ 3)
    · obtain ⟨k, hk, hv⟩ := nat_of (hi := 3) (n := 3) (by decide) q.1
      obtain ⟨k2, hk2, hv2⟩ := nat_of (hi := 3) (n := 3) (by decide) q.2
      rcases (show k = 0 ∨ k = 1 ∨ k = 2 ∨ k = 3 by omega) with rfl | rfl | rfl | rfl
      · rcases (show k2 = 0 ∨ k2 = 1 ∨ k2 = 2 ∨ k2 = 3 by omega) with rfl | rfl | rfl | rfl
        · exact law_copy_00 C hlt hL hv hv2 hI hS hl K
        · exact law_copy_01 C hlt hL hv hv2 hI hS hl K
        · exact law_copy_02 C hlt hL hv hv2 hI hS hl K
        · exact law_copy_03 C hlt hL hv hv2 hI hS hl K
      · rcases (show k2 = 0 ∨ k2 = 1 ∨ k2 = 2 ∨ k2 = 3 by omega) with rfl | rfl | rfl | rfl
        · exact law_copy_10 C hlt hL hv hv2 hI hS hl K
        · exact law_copy_11 C hlt hL hv hv2 hI hS hl K
        · exact law_copy_12 C hlt hL hv hv2 hI hS hl K
        · exact law_copy_13 C hlt hL hv hv2 hI hS hl K
      · rcases (show k2 = 0 ∨ k2 = 1 ∨ k2 = 2 ∨ k2 = 3 by omega) with rfl | rfl | rfl | rfl
        · exact law_copy_20 C hlt hL hv hv2 hI hS hl K
        · exact law_copy_21 C hlt hL hv hv2 hI hS hl K
        · exact law_copy_22 C hlt hL hv hv2 hI hS hl K
        · exact law_copy_23 C hlt hL hv hv2 hI hS hl K
      · rcases (show k2 = 0 ∨ k2 = 1 ∨ k2 = 2 ∨ k2 = 3 by omega) with rfl | rfl | rfl | rfl
        · exact law_copy_30 C hlt hL hv hv2 hI hS hl K
        · exact law_copy_31 C hlt hL hv hv2 hI hS hl K
        · exact law_copy_32 C hlt hL hv hv2 hI hS hl K
        · exact law_copy_33 C hlt hL hv hv2 hI hS hl K
    · exact law_copy_b C hlt hL q hI hS hl K
  ·
    refine lv_tableIn (tgt := 1193) (off := 1160) hx hb dL_law_33 (by rw [c_33]; decide) (by rw [c_33]; decide) (by rw [c_33]; rfl) (by decide) ?_
    exact law_count C hlt hL hI hS hl K
  ·
    refine lv_tableIn (tgt := 1216) (off := 1183) hx hb dL_law_33 (by rw [c_33]; decide) (by rw [c_33]; decide) (by rw [c_33]; rfl) (by decide) ?_
    exact law_digest C hlt hL hI hS hl K
  ·
    refine lv_tableOut (tgt := 1230) hx hb dL_law_33 c_33 (by decide) ?_
    exact K _ _ hI hS
set_option maxHeartbeats 4000000 in
set_option maxRecDepth 100000 in
theorem law_loop {p : Program} {l : Launch} {e : Env} {s : State} {m : MethodId} {below : List Frame} {meth : Method} {c : Code} {H : Heap} {locs : List Loc} {b L : Nat} {zs : Nat → Int32} {D : va_G} {cI cS cP : ClassId} {A : Nat → Prop} {x0 m0 sx g0 w0 k0 la tr u0 pt ap sp s0 a0 s1 a1 s2 a2 s3 a3 mu pa ra da wa sa fa ta p0 xa ya p1 xb yb qk qp qr qc qm qb qf qs qt qx qy qo qz qi qv : Nat} {sxf ptf : Nat → Option Nat} {csf : Nat → Int32} {ls : Array Slot} (C : LC p s m c b L zs D cI cS cP A) (hL : L ≤ 3072) (hr : meth.sig.returnType = ret) (hlocks : meth.locks = false) (hAi : ∀ q, A q → s.heap.size ≤ q) (hI : INV D cI cS cP A x0 m0 sx g0 w0 k0 la tr u0 pt ap sp s0 a0 s1 a1 s2 a2 s3 a3 mu pa ra da wa sa fa ta p0 xa ya p1 xb yb qk qp qr qc qm qb qf qs qt qx qy qo qz qi qv sxf ptf csf H) (hS : va_S A s.heap H locs) (hl : lv_has ls 4 [(0, .ref b), (1, .ref x0), (2, .ref m0), (3, .int (nI 0))]) : W p l e room_1 s m #[Value.ref b] below meth c H locs 49 2852 (lw_Z below #[Value.ref b] s) (F0 m 18 ls []) := by
  obtain ⟨hx, hb, hml, hown, hts, hX, hbl, hbA, hA, hK, hN, hT⟩ := id C
  refine lp_w (I := fun n H locs ls => ∃ i : Nat, n = L + 6 - i ∧ i ≤ 3078 ∧ INV D cI cS cP A x0 m0 sx g0 w0 k0 la tr u0 pt ap sp s0 a0 s1 a1 s2 a2 s3 a3 mu pa ra da wa sa fa ta p0 xa ya p1 xb yb qk qp qr qc qm qb qf qs qt qx qy qo qz qi qv sxf ptf csf H ∧ va_S A s.heap H locs ∧ lv_has ls 4 [(0, .ref b), (1, .ref x0), (2, .ref m0), (3, .int (nI i))]) ?_ (L + 6 - 0) ⟨0, rfl, by omega, hI, hS, hl⟩
  intro n H locs ls ih hJ
  obtain ⟨i, hn, hi, hI, hS, hl⟩ := hJ
  refine lv_iload_n hx hb dL_law_18 rfl (lv_at hl 3 rfl) ?_
  refine lv_aload_n hx hb dL_law_19 rfl (lv_at hl 0 rfl) ?_
  refine va_slen hx hb hX hbl hbA hS dL_law_20 ?_
  refine lv_bipush (v := 6) hx hb dL_law_21 (by decide) ?_
  refine lv_isub hx hb dL_law_23 ?_
  refine lv_eqi (z := iI ((L : Int) - ((6 : Nat) : Int))) (nI_subz L 6) ?_
  refine lv_icmp_gt (tgt := 1236) hx hb dL_law_24 (by decide) (fun c_24 => ?_) (fun c_24 => ?_)
  · refine lv_iconst (v := 1) hx hb dL_law_1236 (by decide) ?_
    refine va_forget (fun q hq => hAi _ (hS.2.2 q hq)) ?_
    refine W.widen (k := 600000) (n := 7302250) (by decide) (by decide) ?_
    exact lw_ret hx hb hr hlocks dL_law_1237
  · have hlt : i + 6 ≤ L := by
      have z := z_ngt c_24 (nI_toInt (by omega)) (iI_toInt (by omega) (by omega))
      omega
    refine lv_aload_n hx hb dL_law_27 rfl (lv_at hl 0 rfl) ?_
    refine lv_iload_n hx hb dL_law_28 rfl (lv_at hl 3 rfl) ?_
    refine sld hx hb hX hbl hbA hS (k := i) (by omega) (by omega) dL_law_29 ?_
    refine lv_bipush (v := 63) hx hb dL_law_30 (by decide) ?_
    refine lv_iand hx hb dL_law_32 ?_
    refine law_turn C hL hlt hI hS hl (fun H locs hI hS => ?_)
    refine lv_iinc (v := nI (i + 6)) (lv' := [(3, .int (nI (i + 6))), (0, .ref b), (1, .ref x0), (2, .ref m0)]) hx hb dL_law_1230 hl (k := 3) rfl (by first | exact nI_add i 6 | (rw [show Int32.ofInt 6 = nI 6 by decide]; exact nI_add i 6)) (by decide) rfl (fun ls hl => ?_)
    refine lv_goto (tgt := 18) hx hb dL_law_1233 (by decide) ?_
    exact ih _ _ _ _ (by omega) ⟨i + 6, rfl, by omega, hI, hS, lv_sub hl [1, 2, 3, 0] rfl⟩
