/-! Rows of references by place; more answers. -/
section RULES4
variable {p : Program} {l : Launch} {e : Env} {R : Room} {s : State} {m : MethodId} {args : Array Value} {below : List Frame} {meth : Method} {c : Code} {H : Heap} {locs : List Loc} {cells slots : Nat} {Q : State → Prop}
variable {cc : ByteArray} {pc : Nat} {ls : Array Slot} {D : va_G} {A : Nat → Prop} {tys : List (ClassId × FieldType)} {w : va_W}
theorem rd_q {a : Nat} {rest : List Value} (hexec : p.tables.exec = Jvm.exec) (hb : c.code = cc) (hK : va_K D vwCl tys s) (hP : va_P D vwCl w H) (q0 t0 : Nat) {cA : ClassId} {C : String} {N : Nat} {f : Nat → Option Nat} (ha : w[q0]? = some (a, .inl (cA, N, .inr (.inr (.inr (.inr f)))))) (ht : tys[t0]? = some (cA, .object C)) {k a' : Nat} (hk : k < N) (hN : N < 2 ^ 31) (hf : f k = some a') (hdg : decode cc pc = .ok (.aaload, 1))
    (kk : W p l e R s m args below meth c H locs cells slots Q (F0 m (pc + 1) ls (.ref a' :: rest))) : W p l e R s m args below meth c H locs cells slots Q (F0 m pc ls (.int (nI k) :: .ref a :: rest)) :=
  va_aldq hexec hb hK hP q0 t0 ha ht (vp_in_nI hk hN) hdg (by rw [nI_clamp (Nat.lt_trans hk hN), hf]; exact kk)
end RULES4
def aBegin (na : Nat) (x1 : Int32) : Int32 := if -100000 ≤ x1 ∧ x1 ≤ 100000 then nI na else -2
def sBegin (na : Nat) (xs : Nat → Int32) (x1 : Int32) : Nat × (Nat → Int32) := if -100000 ≤ x1 ∧ x1 ≤ 100000 then (0, upd xs 0 x1) else (na, xs)
def aStat (na : Nat) (t1 sd : Int32) : Int32 := if (0 ≤ t1 ∧ t1 ≤ 9) ∧ (sd = -1 ∨ sd = 1) then (if na < 40 then nI (na + 1) else -4) else -2
def sStat (na : Nat) (xs ys : Nat → Int32) (t1 sd : Int32) : Nat × (Nat → Int32) × (Nat → Int32) := if (0 ≤ t1 ∧ t1 ≤ 9) ∧ (sd = -1 ∨ sd = 1) then goP (na, xs, ys) t1.toNatClampNeg sd else (na, xs, ys)
def aPlace (na : Nat) (xs ys : Nat → Int32) (i1 wh : Int32) : Int32 := if (0 ≤ i1 ∧ i1 ≤ nI na) ∧ (0 ≤ wh ∧ wh ≤ 1) then (if wh = 0 then xs i1.toNatClampNeg else ys i1.toNatClampNeg) else -2147483648
def nearA (st : Int64 × Int32 × Int32) : Int64 := if st.1 ≠ 9223372036854775807 then st.1 else (-9223372036854775808) - (-3 : Int32).toInt64
def whereA (st : Int64 × Int32 × Int32) (h1 : Int32) : Int32 := if 0 ≤ h1 ∧ h1 ≤ 1 then (if st.1 ≠ 9223372036854775807 then (if h1 = 0 then st.2.1 else st.2.2) else -3) else -2
def jk (st st' : Int64 × Int32 × Int32) : Prop := st.1 = st'.1 ∧ (st = st' ∨ st.1 = 9223372036854775807)
theorem jk_nst {Df : Nat → Nat → Int64} {i j : Nat} {st st' : Int64 × Int32 × Int32} (h : jk st st') : jk (nst Df i j st) (nst Df i j st') := by
  obtain ⟨h1, h2⟩ := h
  unfold nst
  rw [h1]
  by_cases c : Df i j < st'.1
  · rw [if_pos c, if_pos c]; exact ⟨rfl, Or.inl rfl⟩
  · rw [if_neg c, if_neg c]; exact ⟨h1, h2⟩
theorem jk_nrow {Df : Nat → Nat → Int64} {i : Nat} : ∀ (n j : Nat) {st st' : Int64 × Int32 × Int32}, jk st st' → jk (nrow Df i j n st) (nrow Df i j n st')
  | 0, _, _, _, h => h
  | n + 1, j, _, _, h => jk_nrow n (j + 1) (jk_nst h)
theorem jk_ncol {Df : Nat → Nat → Int64} {n1 : Nat} : ∀ (n i : Nat) {st st' : Int64 × Int32 × Int32}, jk st st' → jk (ncol Df n1 i n st) (ncol Df n1 i n st')
  | 0, _, _, _, h => h
  | n + 1, i, _, _, h => jk_ncol n (i + 1) (jk_nrow _ _ h)
theorem jk_near {st st' : Int64 × Int32 × Int32} (h : jk st st') : nearA st = nearA st' := by unfold nearA; rw [h.1]
theorem jk_where {st st' : Int64 × Int32 × Int32} (h : jk st st') (h1 : Int32) : whereA st h1 = whereA st' h1 := by
  rcases h.2 with e | e
  · rw [e]
  · unfold whereA
    rw [if_neg (show ¬ st.1 ≠ 9223372036854775807 from fun q => q e), if_neg (show ¬ st'.1 ≠ 9223372036854775807 from fun q => q (h.1 ▸ e))]
def NR (na nb : Nat) (xs ys xt yt : Nat → Int32) : Int64 × Int32 × Int32 := ncol (dsq xs ys xt yt) nb 0 (na + 1) (9223372036854775807, 0, 0)
theorem NR_of {na nb : Nat} {xs ys xt yt : Nat → Int32} (fi se : Int32) : jk (ncol (dsq xs ys xt yt) nb 0 (na + 1) (9223372036854775807, fi, se)) (NR na nb xs ys xt yt) := jk_ncol _ _ ⟨rfl, Or.inr rfl⟩
def aSheet (fm nn : Int32) : Int32 := if (0 ≤ fm ∧ fm ≤ 2) ∧ nn ≤ 60 then (if 0 ≤ nn then nn else -10 - 5) else -2
def sSheet (fd lo fo : Int32) (n : Nat) (it : Nat → Int32) (fm nn : Int32) : Int32 × Int32 × Int32 × Nat × (Nat → Int32) := if (0 ≤ fm ∧ fm ≤ 2) ∧ nn ≤ 60 then (if 0 ≤ nn then (fd, 0, fm, nn.toNatClampNeg, fillI 0 it 60) else (5, lo, fo, n, it)) else (fd, lo, fo, n, it)
def aLose (lo : Int32) (n : Nat) : Int32 := if ¬ lo = 0 then -10 - 1 else nI n
def sLose (fd lo : Int32) (n : Nat) : Int32 × Int32 × Nat := if ¬ lo = 0 then (1, lo, n) else (fd, 1, 0)
def aPut (lo fo : Int32) (n : Nat) (fm ix : Int32) : Int32 := if 0 ≤ fm ∧ fm ≤ 2 then (if wrongW lo fo n fm ix = 0 then 1 else -10 - wrongW lo fo n fm ix) else -2
def sPut (fd lo fo : Int32) (n : Nat) (it : Nat → Int32) (fm ix v : Int32) : Int32 × (Nat → Int32) := if 0 ≤ fm ∧ fm ≤ 2 then (if wrongW lo fo n fm ix = 0 then (fd, upd it ix.toNatClampNeg (lowB fm v)) else (wrongW lo fo n fm ix, it)) else (fd, it)
def aGet (lo fo : Int32) (n : Nat) (it : Nat → Int32) (fm ix : Int32) : Int32 := if 0 ≤ fm ∧ fm ≤ 2 then (if wrongW lo fo n fm ix = 0 then it ix.toNatClampNeg else -2147483648) else -2147483648
def sGet (fd lo fo : Int32) (n : Nat) (fm ix : Int32) : Int32 := if 0 ≤ fm ∧ fm ≤ 2 then (if wrongW lo fo n fm ix = 0 then fd else wrongW lo fo n fm ix) else fd
theorem wrongW_0 {lo fo : Int32} {n : Nat} {fm ix : Int32} (hn : n ≤ 60) (h : wrongW lo fo n fm ix = 0) : lo = 0 ∧ fo = fm ∧ ∃ j, j < n ∧ ix = nI j := by
  unfold wrongW at h
  by_cases h1 : lo = 0
  · rw [if_neg (fun q => q h1)] at h
    by_cases h2 : fo = fm
    · rw [if_neg (fun q => q h2)] at h
      by_cases h3 : 0 ≤ ix ∧ ix ≤ nI n - 1
      · refine ⟨h1, h2, ?_⟩
        obtain ⟨j, hj, e⟩ := nn_of h3.1
        refine ⟨j, ?_, e⟩
        have h4 := h3.2
        rw [e] at h4
        exact Nat.lt_of_not_le (fun q => by
          have := (m1_gt (e := n) (k := j) (by omega) (by omega)).mpr q
          rw [i_lt] at this; rw [i_le] at h4; omega)
      · rw [if_neg h3] at h; exact absurd h (by decide)
    · rw [if_pos h2] at h; exact absurd h (by decide)
  · rw [if_pos h1] at h; exact absurd h (by decide)
/-- what hinders a copy: 1, 4, 2; 0 -/
def wrongC (lo fo lo' fo' : Int32) (n n' : Nat) (i1 j1 k1 : Int32) : Int32 := if ¬ lo = 0 ∨ ¬ lo' = 0 then 1 else if ¬ fo = fo' then 4 else if ((0 ≤ i1 ∧ i1 ≤ nI n) ∧ (0 ≤ k1 ∧ k1 ≤ nI n - i1)) ∧ ((0 ≤ j1 ∧ j1 ≤ nI n') ∧ (0 ≤ k1 ∧ k1 ≤ nI n' - j1)) then 0 else 2
def aCopy (w9 : Int32) : Int32 := if w9 = 0 then 1 else -10 - w9
def sCopy (w9 fd : Int32) (it it' : Nat → Int32) (i1 j1 k1 : Int32) : Int32 × (Nat → Int32) := if w9 = 0 then (fd, va_cpy it it' i1.toNatClampNeg j1.toNatClampNeg k1.toNatClampNeg) else (w9, it')
theorem hr_nat {n : Nat} {i1 k1 : Int32} (hn : n ≤ 60) (h : (0 ≤ i1 ∧ i1 ≤ nI n) ∧ (0 ≤ k1 ∧ k1 ≤ nI n - i1)) : ∃ i k : Nat, i + k ≤ n ∧ i1 = nI i ∧ k1 = nI k := by
  obtain ⟨i, hi, e⟩ := nat_of (hi := nI n) (n := n) (nI_toInt (by omega)) h.1
  have h2 := h.2
  rw [e, pk_sub hi] at h2
  obtain ⟨k, hk, e2⟩ := nat_of (hi := nI (n - i)) (n := n - i) (nI_toInt (by omega)) h2
  exact ⟨i, k, by omega, e, e2⟩
def aCount (d sh nb np na nb' : Nat) (fd : Int32) (low high : Nat) (w9 : Int32) : Int32 := if w9 = 0 then nI d else if w9 = 1 then nI sh else if w9 = 2 then nI nb else if w9 = 3 then nI np else if w9 = 4 then nI (na + nb') else if w9 = 5 then fd else if w9 = 6 then nI low else if w9 = 7 then nI high else -2
theorem sw8n {x : Int32} (h : x.toInt < 0 ∨ 7 < x.toInt) : x ≠ 0 ∧ x ≠ 1 ∧ x ≠ 2 ∧ x ≠ 3 ∧ x ≠ 4 ∧ x ≠ 5 ∧ x ≠ 6 ∧ x ≠ 7 := by
  refine ⟨?_, ?_, ?_, ?_, ?_, ?_, ?_, ?_⟩ <;> (rintro rfl; revert h; decide)
/-- the digest, by its three stretches -/
def dg1 (f : Nat → Int32) : Nat → Nat → Int64 → Int64
  | _, 0, h => h
  | k, n + 1, h => dg1 f (k + 1) n (if k = 5 then h else 31 * h + (f k).toInt64)
def dg2 (f g : Nat → Nat) : Nat → Nat → Int64 → Int64
  | _, 0, h => h
  | k, n + 1, h => dg2 f g (k + 1) n (31 * (31 * h + (nI (f k)).toInt64) + (nI (g k)).toInt64)
theorem dg1_step {f : Nat → Int32} {k n : Nat} {h : Int64} (hn : 0 < n) : dg1 f k n h = dg1 f (k + 1) (n - 1) (if k = 5 then h else 31 * h + (f k).toInt64) := by
  obtain ⟨j, rfl⟩ : ∃ j, n = j + 1 := ⟨n - 1, by omega⟩
  rfl
theorem dg2_step {f g : Nat → Nat} {k n : Nat} {h : Int64} (hn : 0 < n) : dg2 f g k n h = dg2 f g (k + 1) (n - 1) (31 * (31 * h + (nI (f k)).toInt64) + (nI (g k)).toInt64) := by
  obtain ⟨j, rfl⟩ : ∃ j, n = j + 1 := ⟨n - 1, by omega⟩
  rfl
def dgF (cf : Nat → Int32) (pf ff : Nat → Nat) (a b c d : Int32) : Int64 := 31 * (31 * (31 * (31 * dg2 pf ff 0 50 (dg1 cf 0 8 17) + a.toInt64) + b.toInt64) + c.toInt64) + d.toInt64
theorem goP_1 {n t u1 : Nat} {f g u2 u3 : Nat → Int32} {sd : Int32} (h : (u1, u2, u3) = goP (n, f, g) t sd) (hc : n < 40) : u1 = n + 1 := by
  unfold goP at h
  rw [if_pos hc] at h
  exact (Prod.mk.inj h).1
