/-! The base: links between nest mates, a contract's start and end, calls by one row, loops, meeting points. -/
def NW (U : State) : Prop := va_Nw (.methodLinkNest RX2 40 yX9_cut RX9) U ∧ va_Nw (.methodLinkNest RX5 35 yX9_cut RX9) U ∧ va_Nw (.methodLinkNest RX5 41 yX9_roundedUp RX9) U ∧ va_Nw (.methodLinkNest RX6 32 yX9_within RX9) U ∧ va_Nw (.methodLinkNest RX8 56 yX9_roundedUp RX9) U
theorem NW.same {u U : State} (h : u.vm = U.vm) (n : NW u) : NW U := ⟨va_Nw.same rfl h n.1, va_Nw.same rfl h n.2.1, va_Nw.same rfl h n.2.2.1, va_Nw.same rfl h n.2.2.2.1, va_Nw.same rfl h n.2.2.2.2⟩
theorem NW.warm {s U : State} (hW : s.WarmedH U.vm) (n : NW s) : NW U := ⟨va_Nw.warmM hW n.1, va_Nw.warmM hW n.2.1, va_Nw.warmM hW n.2.2.1, va_Nw.warmM hW n.2.2.2.1, va_Nw.warmM hW n.2.2.2.2⟩
abbrev TY (cI cS cP : ClassId) : List (ClassId × FieldType) := [(cI, .int), (cS, .object "DeepHole$Sheet"), (cP, .object "DeepHole$Path")]
/-- a contract's start: the arguments, the heap's size, the cells -/
def PC (D : va_G) (tys : List (ClassId × FieldType)) (av : List Value) (sz : Nat) (ws : va_W) : Array Value → State → Prop := va_Pc av (fun U => U.heap.size = sz ∧ va_P D vwCl ws U.heap ∧ va_K D vwCl tys U ∧ va_D (fun _ => True) ws ∧ NW U)
theorem PC.blind {D : va_G} {tys : List (ClassId × FieldType)} {av : List Value} {sz : Nat} {ws : va_W} : FrameBlind (PC D tys av sz ws) := fun a U g mk q => by
  obtain ⟨q0, q1, qP, qK, qD, qN⟩ := q
  exact ⟨q0, q1, qP, va_K.moved (u := U) (U := U.calling g mk a) (Vm.Alike.refl U.vm) qK, qD, NW.same (u := U) rfl qN⟩
theorem PC.here {D : va_G} {tys : List (ClassId × FieldType)} {av : List Value} {wc : va_W} {A : Nat → Prop} {s U : State} {H : Heap} (hU : U.heap = H) (hW : s.WarmedH U.vm) (hP : va_P D vwCl wc H) (hK : va_K D vwCl tys s) (hD : va_D A wc) (hN : NW s) : PC D tys av H.size wc av.toArray U :=
  ⟨rfl, by rw [hU], by rw [hU]; exact hP, va_K.moved hW.alike hK, hD.weaken (fun _ _ _ _ => trivial), NW.warm hW hN⟩
/-- a contract's end, of a method that writes: the answer, and the cells as they are then -/
def QI {S0 : Type} (D : va_G) (post : Int32 → S0 → Prop) (cw : S0 → va_W) (A : Nat → Prop) : Array Value → State → Outcome → State → Prop := va_Qi post (fun u t => va_P D vwCl (cw u) t.heap ∧ va_D A (cw u)) A
def QL {S0 : Type} (D : va_G) (post : Int64 → S0 → Prop) (cw : S0 → va_W) (A : Nat → Prop) : Array Value → State → Outcome → State → Prop := va_Ql post (fun u t => va_P D vwCl (cw u) t.heap ∧ va_D A (cw u)) A
def QV {S0 : Type} (D : va_G) (post : S0 → Prop) (cw : S0 → va_W) (A : Nat → Prop) : Array Value → State → Outcome → State → Prop := va_Qv post (fun u t => va_P D vwCl (cw u) t.heap ∧ va_D A (cw u)) A
theorem P_map {D : va_G} {cl : List vw_C} {w wc : va_W} {H : Heap} (hP : va_P D cl w H) (is : List Nat) (hC : is.map (fun i => w[i]?) = wc.map some) : va_P D cl wc H := by
  intro k q hk
  have h1 : (is.map (fun i => w[i]?))[k]? = some (some q) := by rw [hC, List.getElem?_map, hk]; rfl
  rw [List.getElem?_map] at h1
  cases hi : is[k]? with
  | none => rw [hi] at h1; cases h1
  | some i => rw [hi] at h1; exact hP i q (Option.some.inj h1)
section RULES
variable {p : Program} {l : Launch} {e : Env} {R : Room} {s : State} {m : MethodId} {args : Array Value} {below : List Frame} {meth : Method} {c : Code} {H : Heap} {locs : List Loc} {cells slots : Nat} {Q : State → Prop}
variable {cc bytes : ByteArray} {pc maxL nL n index ci : Nat} {ls : Array Slot} {st0 : List Value} {D : va_G} {A : Nat → Prop} {tys : List (ClassId × FieldType)} {w wc wr : va_W} {y : MethodName} {ret : Option FieldType} {ws : List Cond} {rm : Room} {Ts : List Cond} {own C host : String} {b : Nat} {q : vw_C} {fs : List Value}
/-- the top of the stack, said otherwise -/
theorem lv_eqi {x z : Int32} {rest : List Value} (h : x = z) (k : W p l e R s m args below meth c H locs cells slots Q (F0 m pc ls (.int z :: rest))) : W p l e R s m args below meth c H locs cells slots Q (F0 m pc ls (.int x :: rest)) := by rw [h]; exact k
theorem lv_eql {x z : Int64} {rest : List Value} (h : x = z) (k : W p l e R s m args below meth c H locs cells slots Q (F0 m pc ls (.long z :: rest))) : W p l e R s m args below meth c H locs cells slots Q (F0 m pc ls (.long x :: rest)) := by rw [h]; exact k
/-- loops: 'n' falls -/
theorem lp_w {st : List Value} (I : Nat → Heap → List Loc → Array Slot → Prop)
    (step : ∀ (n : Nat) (H : Heap) (locs : List Loc) (ls : Array Slot), (∀ (n' : Nat) (H' : Heap) (locs' : List Loc) (ls' : Array Slot), n' < n → I n' H' locs' ls' → W p l e R s m args below meth c H' locs' cells slots Q (F0 m pc ls' st)) → I n H locs ls → W p l e R s m args below meth c H locs cells slots Q (F0 m pc ls st))
    (n : Nat) (h : I n H locs ls) : W p l e R s m args below meth c H locs cells slots Q (F0 m pc ls st) := by
  induction n using Nat.strongRecOn generalizing H locs ls with
  | ind n ih => exact step n H locs ls (fun n' H' locs' ls' hn hI => ih n' hn hI) h
theorem lp_q {st : List Value} (I : Nat → Array Slot → Prop)
    (step : ∀ (n : Nat) (ls : Array Slot), (∀ (n' : Nat) (ls' : Array Slot), n' < n → I n' ls' → W p l e R s m args below meth c H locs cells slots Q (F0 m pc ls' st)) → I n ls → W p l e R s m args below meth c H locs cells slots Q (F0 m pc ls st))
    (n : Nat) (h : I n ls) : W p l e R s m args below meth c H locs cells slots Q (F0 m pc ls st) := by
  induction n using Nat.strongRecOn generalizing ls with
  | ind n ih => exact step n ls (fun n' ls' hn hI => ih n' hn hI) h
/-- a place where two ways meet -/
theorem cut_w {st : List Value} {g : JFrame} (j : Nat) (I : Heap → List Loc → Array Slot → Prop) (hJ : ∀ (H : Heap) (locs : List Loc) (ls : Array Slot), I H locs ls → W p l e R s m args below meth c H locs cells slots Q (F0 m j ls st))
    (hB : (∀ (H : Heap) (locs : List Loc) (ls : Array Slot), I H locs ls → W p l e R s m args below meth c H locs cells slots Q (F0 m j ls st)) → W p l e R s m args below meth c H locs cells slots Q g) : W p l e R s m args below meth c H locs cells slots Q g := hB hJ
theorem cut_q {st : List Value} {g : JFrame} (j : Nat) (I : Array Slot → Prop) (hJ : ∀ (ls : Array Slot), I ls → W p l e R s m args below meth c H locs cells slots Q (F0 m j ls st))
    (hB : (∀ (ls : Array Slot), I ls → W p l e R s m args below meth c H locs cells slots Q (F0 m j ls st)) → W p l e R s m args below meth c H locs cells slots Q g) : W p l e R s m args below meth c H locs cells slots Q g := hB hJ
theorem cut_v {rest : List Value} {g : JFrame} (j : Nat) (v : Value) (hJ : W p l e R s m args below meth c H locs cells slots Q (F0 m j ls (v :: rest))) (hB : W p l e R s m args below meth c H locs cells slots Q (F0 m j ls (v :: rest)) → W p l e R s m args below meth c H locs cells slots Q g) : W p l e R s m args below meth c H locs cells slots Q g := hB hJ
/-- arrays of ints at a place that is a natural number -/
theorem rd_i {a : Nat} {rest : List Value} (hexec : p.tables.exec = Jvm.exec) (hb : c.code = cc) (hK : va_K D vwCl tys s) (hP : va_P D vwCl w H) (q0 t0 : Nat) {cA : ClassId} {N : Nat} {f : Nat → Int32} (ha : w[q0]? = some (a, .inl (cA, N, .inl f))) (ht : tys[t0]? = some (cA, .int)) {k : Nat} (hk : k < N) (hN : N < 2 ^ 31) (hdg : decode cc pc = .ok (.iaload, 1))
    (kk : W p l e R s m args below meth c H locs cells slots Q (F0 m (pc + 1) ls (.int (f k) :: rest))) : W p l e R s m args below meth c H locs cells slots Q (F0 m pc ls (.int (nI k) :: .ref a :: rest)) :=
  va_iald hexec hb hK hP q0 t0 ha ht (vp_in_nI hk hN) hdg (by rw [nI_clamp (Nat.lt_trans hk hN)]; exact kk)
theorem wr_i {a : Nat} {rest : List Value} (hexec : p.tables.exec = Jvm.exec) (hb : c.code = cc) (hK : va_K D vwCl tys s) (hP : va_P D vwCl w H) (hD : va_D A w) (hS : va_S A s.heap H locs) (q0 t0 : Nat) {cA : ClassId} {N : Nat} {f : Nat → Int32} (ha : w[q0]? = some (a, .inl (cA, N, .inl f))) (ht : tys[t0]? = some (cA, .int)) {k : Nat} {x : Int32} (hk : k < N) (hN : N < 2 ^ 31) (hdg : decode cc pc = .ok (.iastore, 1))
    (kk : ∀ (H1 : Heap) (locs1 : List Loc), va_P D vwCl (w.set q0 (a, .inl (cA, N, .inl (upd f k x)))) H1 → va_D A (w.set q0 (a, .inl (cA, N, .inl (upd f k x)))) → va_S A s.heap H1 locs1 → W p l e R s m args below meth c H1 locs1 cells slots Q (F0 m (pc + 1) ls rest)) : W p l e R s m args below meth c H locs cells slots Q (F0 m pc ls (.int x :: .int (nI k) :: .ref a :: rest)) :=
  va_iast hexec hb hK hP hD hS q0 t0 ha ht (vp_in_nI hk hN) hdg (by rw [nI_clamp (Nat.lt_trans hk hN)]; exact kk)
/-- a call that only reads -/
theorem q_V {post : Int32 → Prop} (S : CallFix p m c cc nL s args Ts own) (As rest : List Value) (hM : Met l y ws rm (PC D tys (.ref b :: As) H.size wc) (vp_Si post) 0 0 (fun _ => False)) (cw : CallW R s args own C index y bytes maxL ret ws rm 0 0 n)
    (hK : va_K D vwCl tys s) (hN : NW s) (hP : va_P D vwCl w H) (hD : va_D A w) (isC : List Nat) (hC : isC.map (fun i => w[i]?) = wc.map some) (hnd : va_nd isC = true) (hq : vwCl[ci]? = some q) (hqC : q.1 = C) (he : wc[0]? = some (b, .inr (ci, fs)))
    (hn : As.length = n) (hsize : ls.size = nL) (hst : st0 = As.reverse ++ .ref b :: rest) (hW : (rest.map fun v => v.category).sum ≤ 8) (hdg : decode cc pc = .ok (.invokevirtual index, 3)) (hf : cells + 0 ≤ R.cells ∧ slots + 0 ≤ R.slots)
    (kk : ∀ r : Int32, post r → W p l e R s m args below meth c H locs cells slots Q (F0 m (pc + 3) ls (.int r :: rest))) : W p l e R s m args below meth c H locs cells slots Q (F0 m pc ls st0) :=
  vp_callSi (W.runV (g := F0 m pc ls st0) S hM cw ⟨PC.blind, by rw [← hqC]; exact va_recv hK (P_map hP isC hC) hq he, fun U hU hW => PC.here hU hW (P_map hP isC hC) hK (hD.sub isC hnd hC) hN⟩ rfl hn hsize hst (by show 2 * 0 + _ ≤ 8; omega) hdg hf) kk
theorem q_Vl {post : Int64 → Prop} (S : CallFix p m c cc nL s args Ts own) (As rest : List Value) (hM : Met l y ws rm (PC D tys (.ref b :: As) H.size wc) (vp_Sl post) 0 0 (fun _ => False)) (cw : CallW R s args own C index y bytes maxL ret ws rm 0 0 n)
    (hK : va_K D vwCl tys s) (hN : NW s) (hP : va_P D vwCl w H) (hD : va_D A w) (isC : List Nat) (hC : isC.map (fun i => w[i]?) = wc.map some) (hnd : va_nd isC = true) (hq : vwCl[ci]? = some q) (hqC : q.1 = C) (he : wc[0]? = some (b, .inr (ci, fs)))
    (hn : As.length = n) (hsize : ls.size = nL) (hst : st0 = As.reverse ++ .ref b :: rest) (hW : (rest.map fun v => v.category).sum ≤ 8) (hdg : decode cc pc = .ok (.invokevirtual index, 3)) (hf : cells + 0 ≤ R.cells ∧ slots + 0 ≤ R.slots)
    (kk : ∀ r : Int64, post r → W p l e R s m args below meth c H locs cells slots Q (F0 m (pc + 3) ls (.long r :: rest))) : W p l e R s m args below meth c H locs cells slots Q (F0 m pc ls st0) :=
  vp_callSl (W.runV (g := F0 m pc ls st0) S hM cw ⟨PC.blind, by rw [← hqC]; exact va_recv hK (P_map hP isC hC) hq he, fun U hU hW => PC.here hU hW (P_map hP isC hC) hK (hD.sub isC hnd hC) hN⟩ rfl hn hsize hst (by show 2 * 0 + _ ≤ 8; omega) hdg hf) kk
theorem q_S {post : Int32 → Prop} (S : CallFix p m c cc nL s args Ts own) (As rest : List Value) (hM : Met l y ws rm (PC D tys As H.size []) (vp_Si post) 0 0 (fun _ => False)) (cw : CallB R s args own index y bytes maxL ret ws rm 0 0 n ∧ (Cond.static y).before args s = true)
    (hK : va_K D vwCl tys s) (hN : NW s) (hn : As.length = n) (hsize : ls.size = nL) (hst : st0 = As.reverse ++ rest) (hW : (rest.map fun v => v.category).sum ≤ 8) (hdg : decode cc pc = .ok (.invokestatic index, 3)) (hf : cells + 0 ≤ R.cells ∧ slots + 0 ≤ R.slots)
    (kk : ∀ r : Int32, post r → W p l e R s m args below meth c H locs cells slots Q (F0 m (pc + 3) ls (.int r :: rest))) : W p l e R s m args below meth c H locs cells slots Q (F0 m pc ls st0) :=
  vp_callSi (W.runS (g := F0 m pc ls st0) S hM cw ⟨PC.blind, fun U hU hW => PC.here (A := fun _ => True) hU hW (fun k q h => by simp at h) hK ⟨fun i j p q h => by simp at h, fun k q h => by simp at h⟩ hN⟩ rfl hn hsize hst (by show 2 * 0 + _ ≤ 8; omega) hdg hf) kk
theorem q_Sl {post : Int64 → Prop} (S : CallFix p m c cc nL s args Ts own) (As rest : List Value) (hM : Met l y ws rm (PC D tys As H.size []) (vp_Sl post) 0 0 (fun _ => False)) (cw : CallB R s args own index y bytes maxL ret ws rm 0 0 n ∧ (Cond.static y).before args s = true)
    (hK : va_K D vwCl tys s) (hN : NW s) (hn : As.length = n) (hsize : ls.size = nL) (hst : st0 = As.reverse ++ rest) (hW : (rest.map fun v => v.category).sum ≤ 8) (hdg : decode cc pc = .ok (.invokestatic index, 3)) (hf : cells + 0 ≤ R.cells ∧ slots + 0 ≤ R.slots)
    (kk : ∀ r : Int64, post r → W p l e R s m args below meth c H locs cells slots Q (F0 m (pc + 3) ls (.long r :: rest))) : W p l e R s m args below meth c H locs cells slots Q (F0 m pc ls st0) :=
  vp_callSl (W.runS (g := F0 m pc ls st0) S hM cw ⟨PC.blind, fun U hU hW => PC.here (A := fun _ => True) hU hW (fun k q h => by simp at h) hK ⟨fun i j p q h => by simp at h, fun k q h => by simp at h⟩ hN⟩ rfl hn hsize hst (by show 2 * 0 + _ ≤ 8; omega) hdg hf) kk
theorem q_SN {post : Int32 → Prop} (S : CallFix p m c cc nL s args Ts own) (As rest : List Value) (hM : Met l y ws rm (PC D tys As H.size []) (vp_Si post) 0 0 (fun _ => False)) (cw : va_CN R s args own index y host bytes maxL ret ws rm 0 0 n ∧ (Cond.static y).before args s = true ∧ True)
    (hK : va_K D vwCl tys s) (hN : NW s) (hn : As.length = n) (hsize : ls.size = nL) (hst : st0 = As.reverse ++ rest) (hW : (rest.map fun v => v.category).sum ≤ 8) (hdg : decode cc pc = .ok (.invokestatic index, 3)) (hf : cells + 0 ≤ R.cells ∧ slots + 0 ≤ R.slots)
    (kk : ∀ r : Int32, post r → W p l e R s m args below meth c H locs cells slots Q (F0 m (pc + 3) ls (.int r :: rest))) : W p l e R s m args below meth c H locs cells slots Q (F0 m pc ls st0) :=
  vp_callSi (va_runSN (g := F0 m pc ls st0) S hM cw ⟨PC.blind, fun U hU hW => PC.here (A := fun _ => True) hU hW (fun k q h => by simp at h) hK ⟨fun i j p q h => by simp at h, fun k q h => by simp at h⟩ hN⟩ rfl hn hsize hst (by show 2 * 0 + _ ≤ 8; omega) hdg hf).run kk
theorem q_SNl {post : Int64 → Prop} (S : CallFix p m c cc nL s args Ts own) (As rest : List Value) (hM : Met l y ws rm (PC D tys As H.size []) (vp_Sl post) 0 0 (fun _ => False)) (cw : va_CN R s args own index y host bytes maxL ret ws rm 0 0 n ∧ (Cond.static y).before args s = true ∧ True)
    (hK : va_K D vwCl tys s) (hN : NW s) (hn : As.length = n) (hsize : ls.size = nL) (hst : st0 = As.reverse ++ rest) (hW : (rest.map fun v => v.category).sum ≤ 8) (hdg : decode cc pc = .ok (.invokestatic index, 3)) (hf : cells + 0 ≤ R.cells ∧ slots + 0 ≤ R.slots)
    (kk : ∀ r : Int64, post r → W p l e R s m args below meth c H locs cells slots Q (F0 m (pc + 3) ls (.long r :: rest))) : W p l e R s m args below meth c H locs cells slots Q (F0 m pc ls st0) :=
  vp_callSl (va_runSN (g := F0 m pc ls st0) S hM cw ⟨PC.blind, fun U hU hW => PC.here (A := fun _ => True) hU hW (fun k q h => by simp at h) hK ⟨fun i j p q h => by simp at h, fun k q h => by simp at h⟩ hN⟩ rfl hn hsize hst (by show 2 * 0 + _ ≤ 8; omega) hdg hf).run kk
/-- a call that writes -/
theorem w_V {S0 : Type} {post : Int32 → S0 → Prop} {cwf : S0 → va_W} (S : CallFix p m c cc nL s args Ts own) (As rest : List Value) (hM : Met l y ws rm (PC D tys (.ref b :: As) H.size wc) (QI D post cwf (va_A wc H.size)) 0 0 (va_A wc H.size)) (cw : CallW R s args own C index y bytes maxL ret ws rm 0 0 n)
    (hK : va_K D vwCl tys s) (hN : NW s) (hP : va_P D vwCl w H) (hD : va_D A w) (hS : va_S A s.heap H locs) (hA : ∀ q, s.heap.size ≤ q → A q) (isC isR : List Nat) (hC : isC.map (fun i => w[i]?) = wc.map some) (hnd : va_nd isC = true) (hR : isR.map (fun i => w[i]?) = wr.map some) (hndR : va_nd isR = true) (hdis : ∀ i ∈ isR, i ∉ isC) (hq : vwCl[ci]? = some q) (hqC : q.1 = C) (he : wc[0]? = some (b, .inr (ci, fs)))
    (hn : As.length = n) (hsize : ls.size = nL) (hst : st0 = As.reverse ++ .ref b :: rest) (hW : (rest.map fun v => v.category).sum ≤ 8) (hdg : decode cc pc = .ok (.invokevirtual index, 3)) (hf : cells + 0 ≤ R.cells ∧ slots + 0 ≤ R.slots)
    (kk : ∀ (r : Int32) (u : S0) (H1 : Heap) (locs1 : List Loc), post r u → va_P D vwCl (wr ++ cwf u) H1 → va_D A (wr ++ cwf u) → va_S A s.heap H1 locs1 → W p l e R s m args below meth c H1 locs1 cells slots Q (F0 m (pc + 3) ls (.int r :: rest))) : W p l e R s m args below meth c H locs cells slots Q (F0 m pc ls st0) := by
  have hFc := va_free (wc := wc) hD hS hA isC hC
  refine va_calli (A0 := A) (va_runV (g := F0 m pc ls st0) S hM cw ⟨PC.blind, by rw [← hqC]; exact va_recv hK (P_map hP isC hC) hq he, fun U hU hW => PC.here hU hW (P_map hP isC hC) hK (hD.sub isC hnd hC) hN⟩ rfl hn hsize hst (by show 2 * 0 + _ ≤ 8; omega) hdg hf) hS (fun q _ h => hFc q h) hFc (fun r u t H1 locs1 ht hvm hw hB hz1 hk1 hS1 => ?_)
  obtain ⟨hP1, hD1⟩ := hB
  rw [ht] at hP1
  obtain ⟨hP2, hD2⟩ := va_join (wr := wr) (w1 := cwf u) hP hD isC isR hC hR hndR hdis hk1 hFc hP1 hD1
  exact kk r u H1 locs1 hw hP2 hD2 hS1
theorem w_Vl {S0 : Type} {post : Int64 → S0 → Prop} {cwf : S0 → va_W} (S : CallFix p m c cc nL s args Ts own) (As rest : List Value) (hM : Met l y ws rm (PC D tys (.ref b :: As) H.size wc) (QL D post cwf (va_A wc H.size)) 0 0 (va_A wc H.size)) (cw : CallW R s args own C index y bytes maxL ret ws rm 0 0 n)
    (hK : va_K D vwCl tys s) (hN : NW s) (hP : va_P D vwCl w H) (hD : va_D A w) (hS : va_S A s.heap H locs) (hA : ∀ q, s.heap.size ≤ q → A q) (isC isR : List Nat) (hC : isC.map (fun i => w[i]?) = wc.map some) (hnd : va_nd isC = true) (hR : isR.map (fun i => w[i]?) = wr.map some) (hndR : va_nd isR = true) (hdis : ∀ i ∈ isR, i ∉ isC) (hq : vwCl[ci]? = some q) (hqC : q.1 = C) (he : wc[0]? = some (b, .inr (ci, fs)))
    (hn : As.length = n) (hsize : ls.size = nL) (hst : st0 = As.reverse ++ .ref b :: rest) (hW : (rest.map fun v => v.category).sum ≤ 8) (hdg : decode cc pc = .ok (.invokevirtual index, 3)) (hf : cells + 0 ≤ R.cells ∧ slots + 0 ≤ R.slots)
    (kk : ∀ (r : Int64) (u : S0) (H1 : Heap) (locs1 : List Loc), post r u → va_P D vwCl (wr ++ cwf u) H1 → va_D A (wr ++ cwf u) → va_S A s.heap H1 locs1 → W p l e R s m args below meth c H1 locs1 cells slots Q (F0 m (pc + 3) ls (.long r :: rest))) : W p l e R s m args below meth c H locs cells slots Q (F0 m pc ls st0) := by
  have hFc := va_free (wc := wc) hD hS hA isC hC
  refine va_calll (A0 := A) (va_runV (g := F0 m pc ls st0) S hM cw ⟨PC.blind, by rw [← hqC]; exact va_recv hK (P_map hP isC hC) hq he, fun U hU hW => PC.here hU hW (P_map hP isC hC) hK (hD.sub isC hnd hC) hN⟩ rfl hn hsize hst (by show 2 * 0 + _ ≤ 8; omega) hdg hf) hS (fun q _ h => hFc q h) hFc (fun r u t H1 locs1 ht hvm hw hB hz1 hk1 hS1 => ?_)
  obtain ⟨hP1, hD1⟩ := hB
  rw [ht] at hP1
  obtain ⟨hP2, hD2⟩ := va_join (wr := wr) (w1 := cwf u) hP hD isC isR hC hR hndR hdis hk1 hFc hP1 hD1
  exact kk r u H1 locs1 hw hP2 hD2 hS1
theorem w_Vv {S0 : Type} {post : S0 → Prop} {cwf : S0 → va_W} (S : CallFix p m c cc nL s args Ts own) (As rest : List Value) (hM : Met l y ws rm (PC D tys (.ref b :: As) H.size wc) (QV D post cwf (va_A wc H.size)) 0 0 (va_A wc H.size)) (cw : CallW R s args own C index y bytes maxL ret ws rm 0 0 n)
    (hK : va_K D vwCl tys s) (hN : NW s) (hP : va_P D vwCl w H) (hD : va_D A w) (hS : va_S A s.heap H locs) (hA : ∀ q, s.heap.size ≤ q → A q) (isC isR : List Nat) (hC : isC.map (fun i => w[i]?) = wc.map some) (hnd : va_nd isC = true) (hR : isR.map (fun i => w[i]?) = wr.map some) (hndR : va_nd isR = true) (hdis : ∀ i ∈ isR, i ∉ isC) (hq : vwCl[ci]? = some q) (hqC : q.1 = C) (he : wc[0]? = some (b, .inr (ci, fs)))
    (hn : As.length = n) (hsize : ls.size = nL) (hst : st0 = As.reverse ++ .ref b :: rest) (hW : (rest.map fun v => v.category).sum ≤ 8) (hdg : decode cc pc = .ok (.invokevirtual index, 3)) (hf : cells + 0 ≤ R.cells ∧ slots + 0 ≤ R.slots)
    (kk : ∀ (u : S0) (H1 : Heap) (locs1 : List Loc), post u → va_P D vwCl (wr ++ cwf u) H1 → va_D A (wr ++ cwf u) → va_S A s.heap H1 locs1 → W p l e R s m args below meth c H1 locs1 cells slots Q (F0 m (pc + 3) ls rest)) : W p l e R s m args below meth c H locs cells slots Q (F0 m pc ls st0) := by
  have hFc := va_free (wc := wc) hD hS hA isC hC
  refine va_callv (A0 := A) (va_runV (g := F0 m pc ls st0) S hM cw ⟨PC.blind, by rw [← hqC]; exact va_recv hK (P_map hP isC hC) hq he, fun U hU hW => PC.here hU hW (P_map hP isC hC) hK (hD.sub isC hnd hC) hN⟩ rfl hn hsize hst (by show 2 * 0 + _ ≤ 8; omega) hdg hf) hS (fun q _ h => hFc q h) hFc (fun u t H1 locs1 ht hvm hw hB hz1 hk1 hS1 => ?_)
  obtain ⟨hP1, hD1⟩ := hB
  rw [ht] at hP1
  obtain ⟨hP2, hD2⟩ := va_join (wr := wr) (w1 := cwf u) hP hD isC isR hC hR hndR hdis hk1 hFc hP1 hD1
  exact kk u H1 locs1 hw hP2 hD2 hS1
end RULES
