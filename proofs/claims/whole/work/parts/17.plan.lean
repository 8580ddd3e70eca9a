/-! The plan: strings from the deepest up; a worth is eight times the cost and the number of strings. -/
def wok (pf ff : Nat → Nat) (low high f t : Nat) : Bool := decide (wl pf low f 0 (t - f) ≤ wh ff high f 3000 (t - f))
theorem wl_one {g : Nat → Nat} {low f k : Nat} {a : Int} (h : f ≤ k) : wl g low k (wl g low f a (k - f)) (k + 1 - k) = wl g low f a (k + 1 - f) := by
  rw [show k + 1 - k = 0 + 1 by omega, show k + 1 - f = (k - f) + 1 by omega]
  simp only [wl]
  rw [show f + (k - f) = k by omega]; rfl
theorem wh_one {g : Nat → Nat} {high f k : Nat} {b : Int} (h : f ≤ k) : wh g high k (wh g high f b (k - f)) (k + 1 - k) = wh g high f b (k + 1 - f) := by
  rw [show k + 1 - k = 0 + 1 by omega, show k + 1 - f = (k - f) + 1 by omega]
  simp only [wh]
  rw [show f + (k - f) = k by omega]; rfl
theorem wok_down {pf ff : Nat → Nat} {low high f t : Nat} (h : f ≤ t) (hw : wok pf ff low high f (t + 1) = true) : wok pf ff low high f t = true := by
  have h1 := of_decide_eq_true hw
  rw [show t + 1 - f = (t - f) + 1 by omega] at h1
  simp only [wl, wh] at h1
  exact decide_eq_true (by omega)
theorem wok_self {pf ff : Nat → Nat} {low high f : Nat} : wok pf ff low high f f = true := by
  unfold wok; rw [Nat.sub_self]; exact decide_eq_true (by simp only [wl, wh]; omega)
/-- how deep it is so, from i on -/
def dps (Wf : Nat → Bool) : Nat → Nat → Nat
  | i, 0 => i
  | i, n + 1 => if Wf (i + 1) = true then dps Wf (i + 1) n else i
theorem dps_yes {Wf : Nat → Bool} {i n : Nat} (h : 0 < n) (hw : Wf (i + 1) = true) : dps Wf i n = dps Wf (i + 1) (n - 1) := by
  obtain ⟨j, rfl⟩ : ∃ j, n = j + 1 := ⟨n - 1, by omega⟩
  rw [dps]; exact if_pos hw
theorem dps_no {Wf : Nat → Bool} {i n : Nat} (h : 0 < n) (hw : ¬ Wf (i + 1) = true) : dps Wf i n = i := by
  obtain ⟨j, rfl⟩ : ∃ j, n = j + 1 := ⟨n - 1, by omega⟩
  rw [dps]; exact if_neg hw
theorem dps_rng {Wf : Nat → Bool} : ∀ (n i : Nat), i ≤ dps Wf i n ∧ dps Wf i n ≤ i + n
  | 0, i => by rw [dps]; omega
  | n + 1, i => by
    rw [dps]; split
    · have := dps_rng (Wf := Wf) n (i + 1); omega
    · omega
theorem dps_in {Wf : Nat → Bool} : ∀ (n i t : Nat), i < t → t ≤ dps Wf i n → Wf t = true
  | 0, i, t, h1, h2 => absurd h2 (by rw [dps]; omega)
  | n + 1, i, t, h1, h2 => by
    rw [dps] at h2
    by_cases hw : Wf (i + 1) = true
    · rw [if_pos hw] at h2
      rcases Nat.lt_or_ge (i + 1) t with q | q
      · exact dps_in n (i + 1) t q h2
      · rw [show t = i + 1 by omega]; exact hw
    · rw [if_neg hw] at h2; omega
theorem dps_out {Wf : Nat → Bool} (hm : ∀ t, Wf (t + 1) = true → Wf t = true) : ∀ (n i t : Nat), dps Wf i n < t → t ≤ i + n → Wf t = false
  | 0, i, t, h1, h2 => absurd h1 (by rw [dps]; omega)
  | n + 1, i, t, h1, h2 => by
    rw [dps] at h1
    by_cases hw : Wf (i + 1) = true
    · rw [if_pos hw] at h1
      exact dps_out hm n (i + 1) t h1 (by omega)
    · rw [if_neg hw] at h1
      have down : ∀ j, Wf (i + 1 + j) = false := by
        intro j
        induction j with
        | zero => exact Bool.eq_false_iff.mpr hw
        | succ j ih => exact Bool.eq_false_iff.mpr (fun h => by rw [hm (i + 1 + j) h] at ih; cases ih)
      have := down (t - (i + 1))
      rw [show i + 1 + (t - (i + 1)) = t by omega] at this
      exact this
def pick (wv t : Nat) (b : Option (Nat × Nat)) : Option (Nat × Nat) := match b with
  | none => some (wv, t)
  | some q => if wv < q.1 then some (wv, t) else some q
def cnd (Wt : Nat → Bool) (pri : Nat) (rs : Nat → Option Nat) (t : Nat) (b : Option (Nat × Nat)) : Option (Nat × Nat) := if Wt t = true then (match rs t with
  | none => b
  | some r => pick (pri * t * 8 + 1 + r) t b) else b
def sel (Wt : Nat → Bool) (pri : Nat) (rs : Nat → Option Nat) : Nat → Nat → Option (Nat × Nat) → Option (Nat × Nat)
  | _, 0, b => b
  | t, n + 1, b => sel Wt pri rs (t + 1) n (cnd Wt pri rs t b)
theorem sel_step {Wt : Nat → Bool} {pri : Nat} {rs : Nat → Option Nat} {t n : Nat} {b : Option (Nat × Nat)} (h : 0 < n) : sel Wt pri rs t n b = sel Wt pri rs (t + 1) (n - 1) (cnd Wt pri rs t b) := by
  obtain ⟨j, rfl⟩ : ∃ j, n = j + 1 := ⟨n - 1, by omega⟩
  rfl
theorem sel_skip {Wt : Nat → Bool} {pri : Nat} {rs : Nat → Option Nat} : ∀ (n t : Nat) (b : Option (Nat × Nat)), (∀ t', t ≤ t' → t' < t + n → Wt t' = false) → sel Wt pri rs t n b = b
  | 0, _, _, _ => rfl
  | n + 1, t, b, h => by
    rw [sel, cnd, if_neg (by rw [h t (Nat.le_refl t) (by omega)]; decide)]
    exact sel_skip n (t + 1) b (fun t' a c => h t' (by omega) (by omega))
theorem cnd_none {Wt : Nat → Bool} {pri : Nat} {rs : Nat → Option Nat} {t : Nat} {b : Option (Nat × Nat)} (h : rs t = none) : cnd Wt pri rs t b = b := by
  unfold cnd; rw [h]; split <;> rfl
theorem cnd_some {Wt : Nat → Bool} {pri : Nat} {rs : Nat → Option Nat} {t r : Nat} {b : Option (Nat × Nat)} (hw : Wt t = true) (h : rs t = some r) : cnd Wt pri rs t b = pick (pri * t * 8 + 1 + r) t b := by
  unfold cnd; rw [h, if_pos hw]
theorem cnd_out {Wt : Nat → Bool} {pri : Nat} {rs : Nat → Option Nat} {t : Nat} {b : Option (Nat × Nat)} (hw : ¬ Wt t = true) : cnd Wt pri rs t b = b := by
  unfold cnd; rw [if_neg hw]
def wI (b : Option (Nat × Nat)) : Int32 := match b with
  | none => 2147483647
  | some q => nI q.1
def wR (b : Option Nat) : Int32 := match b with
  | none => 2147483647
  | some r => nI r
def sI (f : Nat) (b : Option (Nat × Nat)) : Nat := match b with
  | none => f
  | some q => q.2
theorem wR_some {o : Option Nat} (h : ¬ wR o = 2147483647) : ∃ r, o = some r := by
  cases o with
  | none => exact absurd rfl h
  | some r => exact ⟨r, rfl⟩
theorem pick_no {wv t : Nat} {b : Option (Nat × Nat)} (hv : wv ≤ 2900000) (hb : ∀ q, b = some q → q.1 ≤ 2900000) (h : wI b ≤ nI wv) : pick wv t b = b := by
  cases b with
  | none =>
    exfalso
    have h1 := (i_le _ _).mp h
    rw [nI_toInt (by omega)] at h1
    have : (wI none).toInt = 2147483647 := by decide
    omega
  | some q =>
    have h1 := n_le (a := q.1) (b := wv) h (by have := hb q rfl; omega) (by omega)
    simp only [pick]; rw [if_neg (by omega)]
theorem pick_yes {wv t : Nat} {b : Option (Nat × Nat)} (hv : wv ≤ 2900000) (hb : ∀ q, b = some q → q.1 ≤ 2900000) (h : ¬ wI b ≤ nI wv) : pick wv t b = some (wv, t) := by
  cases b with
  | none => rfl
  | some q =>
    have h1 := n_nle (a := q.1) (b := wv) h (by have := hb q rfl; omega) (by omega)
    simp only [pick]; rw [if_pos (by omega)]
def rst (d : Nat) (prev : Nat → Option (Nat × Nat)) (t : Nat) : Option Nat := if t = d then some 0 else (prev t).map (fun q => q.1)
def ent (Wf : Nat → Nat → Bool) (pr re : Nat → Nat) (d nb : Nat) : Nat → Nat → Option (Nat × Nat)
  | 0, _ => none
  | j + 1, f => sel (fun t => Wf f t && decide (t ≤ re (nb - (j + 1)))) (pr (nb - (j + 1))) (rst d (ent Wf pr re d nb j)) (f + 1) (d - f) none
theorem pick_le {wv t B : Nat} {b : Option (Nat × Nat)} (hv : wv ≤ B) (hb : ∀ q, b = some q → q.1 ≤ B) : ∀ q, pick wv t b = some q → q.1 ≤ B := by
  intro q h
  cases b with
  | none => simp only [pick] at h; cases h; exact hv
  | some q' =>
    simp only [pick] at h
    split at h
    · cases h; exact hv
    · cases h; exact hb _ rfl
theorem sel_le {Wt : Nat → Bool} {pri : Nat} {rs : Nat → Option Nat} {B C e : Nat} (hp : pri ≤ 1000) (hr : ∀ t r, rs t = some r → r ≤ C) (hB : 400001 + C ≤ B) : ∀ (n t : Nat) (b : Option (Nat × Nat)), t + n ≤ e → e ≤ 51 → (∀ q, b = some q → q.1 ≤ B) → ∀ q, sel Wt pri rs t n b = some q → q.1 ≤ B
  | 0, _, b, _, _, hb => hb
  | n + 1, t, b, h1, h2, hb => by
    rw [sel]
    refine sel_le hp hr hB n (t + 1) _ (by omega) h2 ?_
    by_cases hw : Wt t = true
    · cases hrs : rs t with
      | none => rw [cnd_none hrs]; exact hb
      | some r =>
        rw [cnd_some hw hrs]
        have m1 : pri * t ≤ 1000 * 50 := Nat.mul_le_mul hp (by omega)
        have := hr t r hrs
        exact pick_le (by omega) hb
    · rw [cnd_out hw]; exact hb
theorem ent_le {Wf : Nat → Nat → Bool} {pr re : Nat → Nat} {d nb : Nat} (hp : ∀ j, pr j ≤ 1000) (hd : d ≤ 50) : ∀ (j f : Nat) (q : Nat × Nat), f ≤ d → ent Wf pr re d nb j f = some q → q.1 ≤ 400001 * j
  | 0, _, _, _, h => by cases h
  | j + 1, f, q, hf, h => by
    rw [ent] at h
    refine sel_le (C := 400001 * j) (B := 400001 * (j + 1)) (e := d + 1) (hp _) ?_ (by omega) (d - f) (f + 1) none (by omega) (by omega) (fun q h => by cases h) q h
    intro t r hr
    unfold rst at hr
    split at hr
    · cases hr; omega
    · cases he : ent Wf pr re d nb j t with
      | none => rw [he] at hr; cases hr
      | some q' =>
        rw [he] at hr
        cases hr
        rcases Nat.lt_or_ge d t with z | z
        · cases j with
          | zero => cases he
          | succ j =>
            rw [ent, show d - t = 0 by omega, sel] at he
            cases he
        · exact ent_le hp hd j t q' z he
theorem mn_n {a b : Nat} (ha : a < 2 ^ 31) (hb : b < 2 ^ 31) : (if nI b < nI a then nI b else nI a) = nI (min a b) := by
  by_cases h : b < a
  · rw [if_pos ((nI_ltI hb ha).mpr h)]; congr 1; omega
  · rw [if_neg (fun q => h ((nI_ltI hb ha).mp q))]; congr 1; omega
