/-! More of the base: a static method that writes; the tables of turns. -/
section RULES2
variable {p : Program} {l : Launch} {e : Env} {R : Room} {s : State} {m : MethodId} {args : Array Value} {below : List Frame} {meth : Method} {c : Code} {H : Heap} {locs : List Loc} {cells slots : Nat} {Q : State → Prop}
variable {cc bytes : ByteArray} {pc maxL nL n index ci : Nat} {ls : Array Slot} {st0 : List Value} {D : va_G} {A : Nat → Prop} {tys : List (ClassId × FieldType)} {w wc wr : va_W} {y : MethodName} {ret : Option FieldType} {ws : List Cond} {rm : Room} {Ts : List Cond} {own C host : String} {b : Nat} {q : vw_C} {fs : List Value}
theorem w_Sv {S0 : Type} {post : S0 → Prop} {cwf : S0 → va_W} (S : CallFix p m c cc nL s args Ts own) (As rest : List Value) (hM : Met l y ws rm (PC D tys As H.size wc) (QV D post cwf (va_A wc H.size)) 0 0 (va_A wc H.size)) (cw : CallB R s args own index y bytes maxL ret ws rm 0 0 n ∧ (Cond.static y).before args s = true)
    (hK : va_K D vwCl tys s) (hN : NW s) (hP : va_P D vwCl w H) (hD : va_D A w) (hS : va_S A s.heap H locs) (hA : ∀ q, s.heap.size ≤ q → A q) (isC isR : List Nat) (hC : isC.map (fun i => w[i]?) = wc.map some) (hnd : va_nd isC = true) (hR : isR.map (fun i => w[i]?) = wr.map some) (hndR : va_nd isR = true) (hdis : ∀ i ∈ isR, i ∉ isC)
    (hn : As.length = n) (hsize : ls.size = nL) (hst : st0 = As.reverse ++ rest) (hW : (rest.map fun v => v.category).sum ≤ 8) (hdg : decode cc pc = .ok (.invokestatic index, 3)) (hf : cells + 0 ≤ R.cells ∧ slots + 0 ≤ R.slots)
    (kk : ∀ (u : S0) (H1 : Heap) (locs1 : List Loc), post u → va_P D vwCl (wr ++ cwf u) H1 → va_D A (wr ++ cwf u) → va_S A s.heap H1 locs1 → W p l e R s m args below meth c H1 locs1 cells slots Q (F0 m (pc + 3) ls rest)) : W p l e R s m args below meth c H locs cells slots Q (F0 m pc ls st0) := by
  have hFc := va_free (wc := wc) hD hS hA isC hC
  refine va_callv (A0 := A) (va_runS (g := F0 m pc ls st0) S hM cw ⟨PC.blind, fun U hU hW => PC.here hU hW (P_map hP isC hC) hK (hD.sub isC hnd hC) hN⟩ rfl hn hsize hst (by show 2 * 0 + _ ≤ 8; omega) hdg hf) hS (fun q _ h => hFc q h) hFc (fun u t H1 locs1 ht hvm hw hB hz1 hk1 hS1 => ?_)
  obtain ⟨hP1, hD1⟩ := hB
  rw [ht] at hP1
  obtain ⟨hP2, hD2⟩ := va_join (wr := wr) (w1 := cwf u) hP hD isC isR hC hR hndR hdis hk1 hFc hP1 hD1
  exact kk u H1 locs1 hw hP2 hD2 hS1
end RULES2
/-- the tables of turns, which lie outside the cells that may change -/
def asd : Nat → Int32 := fun j => ([0, 16, 25, 33, 39, 52, 56, 60, 63, 65] : List Int32).getD j 0
def dwn : Nat → Int32 := fun j => ([65, 63, 60, 56, 52, 39, 33, 25, 16, 0] : List Int32).getD j 0
def ST (A : Nat → Prop) (U : State) (H : Heap) : Prop := ∃ ta tb : Nat, (va_Z "DeepHole$Path" "ASIDE" "[I" (.ref ta) A U H ∧ va_T .int ta 10 (fun j => .int (asd j)) A U H) ∧ va_Z "DeepHole$Path" "DOWN" "[I" (.ref tb) A U H ∧ va_T .int tb 10 (fun j => .int (dwn j)) A U H
theorem ST.moved {A : Nat → Prop} {u U : State} {H : Heap} (hvm : u.vm.Alike U.vm) (h : ST A u H) : ST A U H := by
  obtain ⟨ta, tb, ⟨h1, h2⟩, h3, h4⟩ := h
  exact ⟨ta, tb, ⟨va_Z.moved hvm h1, va_T.moved hvm h2⟩, va_Z.moved hvm h3, va_T.moved hvm h4⟩
theorem ST.kept {A : Nat → Prop} {U : State} {H H1 : Heap} (h : ST A U H) (hq : ∀ a : Nat, a < H.size → ¬ A a → H1[a]? = H[a]?) : ST A U H1 := by
  obtain ⟨ta, tb, ⟨h1, h2⟩, h3, h4⟩ := h
  exact ⟨ta, tb, ⟨h1.kept hq, h2.kept hq⟩, h3.kept hq, h4.kept hq⟩
theorem ST.narrow {A B : Nat → Prop} {U : State} {H : Heap} (h : ST A U H) (hAB : ∀ q, B q → A q) : ST B U H := by
  obtain ⟨ta, tb, ⟨h1, h2⟩, h3, h4⟩ := h
  exact ⟨ta, tb, ⟨h1.narrow hAB, h2.narrow hAB⟩, h3.narrow hAB, h4.narrow hAB⟩
def PCX (D : va_G) (tys : List (ClassId × FieldType)) (av : List Value) (sz : Nat) (ws : va_W) : Array Value → State → Prop := fun a U => PC D tys av sz ws a U ∧ ST (va_A ws sz) U U.heap
theorem PCX.blind {D : va_G} {tys : List (ClassId × FieldType)} {av : List Value} {sz : Nat} {ws : va_W} : FrameBlind (PCX D tys av sz ws) := fun a U g mk q => ⟨PC.blind a U g mk q.1, ST.moved (u := U) (U := U.calling g mk a) (Vm.Alike.refl U.vm) q.2⟩
section RULES3
variable {p : Program} {l : Launch} {e : Env} {R : Room} {s : State} {m : MethodId} {args : Array Value} {below : List Frame} {meth : Method} {c : Code} {H : Heap} {locs : List Loc} {cells slots : Nat} {Q : State → Prop}
variable {cc bytes : ByteArray} {pc maxL nL n index ci : Nat} {ls : Array Slot} {st0 : List Value} {D : va_G} {A : Nat → Prop} {tys : List (ClassId × FieldType)} {w wc wr : va_W} {y : MethodName} {ret : Option FieldType} {ws : List Cond} {rm : Room} {Ts : List Cond} {own C host : String} {b : Nat} {q : vw_C} {fs : List Value}
theorem w_VX {S0 : Type} {post : Int32 → S0 → Prop} {cwf : S0 → va_W} (S : CallFix p m c cc nL s args Ts own) (As rest : List Value) (hM : Met l y ws rm (PCX D tys (.ref b :: As) H.size wc) (QI D post cwf (va_A wc H.size)) 0 0 (va_A wc H.size)) (cw : CallW R s args own C index y bytes maxL ret ws rm 0 0 n)
    (hT : ST A s s.heap) (hK : va_K D vwCl tys s) (hN : NW s) (hP : va_P D vwCl w H) (hD : va_D A w) (hS : va_S A s.heap H locs) (hA : ∀ q, s.heap.size ≤ q → A q) (isC isR : List Nat) (hC : isC.map (fun i => w[i]?) = wc.map some) (hnd : va_nd isC = true) (hR : isR.map (fun i => w[i]?) = wr.map some) (hndR : va_nd isR = true) (hdis : ∀ i ∈ isR, i ∉ isC) (hq : vwCl[ci]? = some q) (hqC : q.1 = C) (he : wc[0]? = some (b, .inr (ci, fs)))
    (hn : As.length = n) (hsize : ls.size = nL) (hst : st0 = As.reverse ++ .ref b :: rest) (hW : (rest.map fun v => v.category).sum ≤ 8) (hdg : decode cc pc = .ok (.invokevirtual index, 3)) (hf : cells + 0 ≤ R.cells ∧ slots + 0 ≤ R.slots)
    (kk : ∀ (r : Int32) (u : S0) (H1 : Heap) (locs1 : List Loc), post r u → va_P D vwCl (wr ++ cwf u) H1 → va_D A (wr ++ cwf u) → va_S A s.heap H1 locs1 → W p l e R s m args below meth c H1 locs1 cells slots Q (F0 m (pc + 3) ls (.int r :: rest))) : W p l e R s m args below meth c H locs cells slots Q (F0 m pc ls st0) := by
  have hFc := va_free (wc := wc) hD hS hA isC hC
  have hT1 : ST (va_A wc H.size) s H := (hT.kept (fun a h1 h2 => hS.2.1 a h1 h2)).narrow hFc
  refine va_calli (A0 := A) (va_runV (g := F0 m pc ls st0) S hM cw ⟨PCX.blind, by rw [← hqC]; exact va_recv hK (P_map hP isC hC) hq he, fun U hU hW => ⟨PC.here hU hW (P_map hP isC hC) hK (hD.sub isC hnd hC) hN, by rw [hU]; exact hT1.moved hW.alike⟩⟩ rfl hn hsize hst (by show 2 * 0 + _ ≤ 8; omega) hdg hf) hS (fun q _ h => hFc q h) hFc (fun r u t H1 locs1 ht hvm hw hB hz1 hk1 hS1 => ?_)
  obtain ⟨hP1, hD1⟩ := hB
  rw [ht] at hP1
  obtain ⟨hP2, hD2⟩ := va_join (wr := wr) (w1 := cwf u) hP hD isC isR hC hR hndR hdis hk1 hFc hP1 hD1
  exact kk r u H1 locs1 hw hP2 hD2 hS1
end RULES3
