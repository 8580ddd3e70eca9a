/-! For the reference: its tables of costs. -/
def cREL (c m b : Int32) (e : Option (Nat × Nat)) : Prop := match e with
  | none => c = -1
  | some q => c = nI (q.1 / 8) ∧ m = nI (q.1 % 8) ∧ b = nI q.2
def cI0 (e : Option (Nat × Nat)) : Int32 := match e with
  | none => -1
  | some q => nI (q.1 / 8)
def rC (o : Option Nat) : Int32 := match o with
  | none => -1
  | some r => nI (r / 8)
theorem cI_of {c m b : Int32} {e : Option (Nat × Nat)} (h : cREL c m b e) : c = cI0 e := by
  cases e with
  | none => exact h
  | some q => exact h.1
theorem nI_m1 {n : Nat} (h : n < 2 ^ 31) : ¬ nI n = -1 := fun q => by
  have := (i_eq _ _).mp q
  rw [nI_toInt h] at this
  have e : (-1 : Int32).toInt = -1 := by decide
  omega
theorem cREL_some {c m b : Int32} {e : Option (Nat × Nat)} (h : cREL c m b e) (hc : ¬ c = -1) : ∃ x, e = some x ∧ c = nI (x.1 / 8) ∧ m = nI (x.1 % 8) ∧ b = nI x.2 := by
  cases e with
  | none => exact absurd h hc
  | some q => exact ⟨q, rfl, h⟩
theorem cREL_none {c m b : Int32} {e : Option (Nat × Nat)} (h : cREL c m b e) (hc : c = -1) (hb : ∀ x, e = some x → x.1 ≤ 2900000) : e = none := by
  cases e with
  | none => rfl
  | some q =>
    exfalso
    have h1 : c = nI (q.1 / 8) := h.1
    have := hb q rfl
    exact nI_m1 (n := q.1 / 8) (by omega) (h1.symm.trans hc)
theorem cREL_new {cof myf bef : Nat → Int32} {i P r t : Nat} (h : r % 8 ≤ 6) : cREL (upd cof i (nI (r / 8 + P)) i) (upd myf i (nI (1 + r % 8)) i) (upd bef i (nI t) i) (some (P * 8 + 1 + r, t)) := by
  rw [pk_us, pk_us, pk_us]
  refine ⟨?_, ?_, rfl⟩
  · show nI (r / 8 + P) = nI ((P * 8 + 1 + r) / 8)
    congr 1; omega
  · show nI (1 + r % 8) = nI ((P * 8 + 1 + r) % 8)
    congr 1; omega
theorem pick_n {wv t : Nat} {b : Option (Nat × Nat)} (h : b = none) : pick wv t b = some (wv, t) := by rw [h]; rfl
theorem pick_l {wv t : Nat} {b : Option (Nat × Nat)} {x : Nat × Nat} (h : b = some x) (hl : wv < x.1) : pick wv t b = some (wv, t) := by rw [h]; simp only [pick]; rw [if_pos hl]
theorem pick_g {wv t : Nat} {b : Option (Nat × Nat)} {x : Nat × Nat} (h : b = some x) (hl : x.1 ≤ wv) : pick wv t b = b := by rw [h]; simp only [pick]; rw [if_neg (by omega)]
theorem rC_some {o : Option Nat} (h : ¬ rC o = -1) : ∃ r, o = some r := by
  cases o with
  | none => exact absurd rfl h
  | some r => exact ⟨r, rfl⟩
theorem rC_none {o : Option Nat} (h : rC o = -1) (hb : ∀ r, o = some r → r ≤ 2400000) : o = none := by
  cases o with
  | none => rfl
  | some r =>
    exfalso
    have := hb r rfl
    exact nI_m1 (n := r / 8) (by omega) h
theorem rst_c {Wf : Nat → Nat → Bool} {pr re : Nat → Nat} {d nb q : Nat} {cof myf bef : Nat → Int32} (h1 : 0 < q) (h2 : q ≤ nb) (hd : d ≤ 50) (hN : ∀ f, f < 51 → cof (51 * nb + f) = -1) (hE : ∀ i f, q ≤ i → i < nb → f < d → cREL (cof (51 * i + f)) (myf (51 * i + f)) (bef (51 * i + f)) (ent Wf pr re d nb (nb - i) f)) {t : Nat} (ht : t ≤ d) (hn : t ≠ d) : cof (51 * (q - 1 + 1) + t) = rC (rst d (ent Wf pr re d nb (nb - q)) t) := by
  unfold rst
  rw [if_neg hn, show q - 1 + 1 = q by omega]
  by_cases z : q < nb
  · have h := hE q t (Nat.le_refl q) z (by omega)
    cases he : ent Wf pr re d nb (nb - q) t with
    | none => rw [he] at h; exact h
    | some x => rw [he] at h; exact h.1
  · rw [show nb - q = 0 by omega, show q = nb by omega, hN t (by omega)]; rfl
theorem rst_m {Wf : Nat → Nat → Bool} {pr re : Nat → Nat} {d nb q : Nat} {cof myf bef : Nat → Int32} (h1 : 0 < q) (h2 : q ≤ nb) (hE : ∀ i f, q ≤ i → i < nb → f < d → cREL (cof (51 * i + f)) (myf (51 * i + f)) (bef (51 * i + f)) (ent Wf pr re d nb (nb - i) f)) {t r : Nat} (ht : t ≤ d) (hn : t ≠ d) (hr : rst d (ent Wf pr re d nb (nb - q)) t = some r) : myf (51 * (q - 1 + 1) + t) = nI (r % 8) := by
  unfold rst at hr
  rw [if_neg hn] at hr
  rw [show q - 1 + 1 = q by omega]
  by_cases z : q < nb
  · have h := hE q t (Nat.le_refl q) z (by omega)
    cases he : ent Wf pr re d nb (nb - q) t with
    | none => rw [he] at hr; cases hr
    | some x => rw [he] at h hr; cases hr; exact h.2.1
  · rw [show nb - q = 0 by omega] at hr; cases hr
theorem rst_8 {Wf : Nat → Nat → Bool} {pr re : Nat → Nat} {d nb j t r : Nat} (hj : j ≤ 5) (hr : rst d (ent Wf pr re d nb j) t = some r) : r % 8 ≤ 6 := by
  unfold rst at hr
  split at hr
  · cases hr; decide
  · cases he : ent Wf pr re d nb j t with
    | none => rw [he] at hr; cases hr
    | some x =>
      rw [he] at hr
      cases hr
      have := ent_cnt j t x (by omega) he
      show x.1 % 8 ≤ 6
      omega
theorem rst_d {d r : Nat} {prev : Nat → Option (Nat × Nat)} {t : Nat} (h : t = d) (hr : rst d prev t = some r) : r = 0 := by
  unfold rst at hr
  rw [if_pos h] at hr
  cases hr; rfl
