/-! the t-th edge from a block; bars -/
def zS0 (tg : Nat) (bar : Option Nat) : Nat → Bool := if some tg = bar then (fun _ => false) else (fun i => decide (i = tg))
def zbar : Option Nat → Int32
  | none => -1
  | some b => nI b
theorem zbar_eq {a : Nat} {bar : Option Nat} (ha : a < 2147483648) (hb : ∀ b, bar = some b → b < 2147483648) : nI a = zbar bar ↔ some a = bar := by
  cases bar with
  | none =>
    constructor
    · intro h
      have h1 := nI_pos (n := a) ha
      rw [show nI a = -1 from h] at h1
      exact absurd (by decide) h1
    · intro h; cases h
  | some b =>
    have hb := hb b rfl
    show nI a = nI b ↔ _
    rw [nI_eq ha hb]
    constructor
    · intro h; rw [h]
    · intro h; exact Option.some.inj h
theorem bS_all2 {n : Nat} (h : n < 13) : bS (fun i => decide (i = n)) - nI 1 = bS (fun i => decide (i < n)) := by
  rw [← bS_bit (by omega)]
  exact bS_all n h
/-- how many edges lead from b -/
def sg_deg (fr : Nat → Nat) (b m : Nat) : Nat := sp_cnt (fun e => decide (fr e = b)) m
def sg_pk (fr : Nat → Nat) (b m t : Nat) : Nat := sp_it (fun _ e => sg_nx fr b (m - (e + 1)) (e + 1)) t (sg_nx fr b m 0)
theorem sp_cnt_gap {p : Nat → Bool} {j k : Nat} (h : j ≤ k) (hz : ∀ i, j ≤ i → i < k → p i = false) : sp_cnt p k = sp_cnt p j := by
  induction k with
  | zero => have : j = 0 := by omega
            subst this; rfl
  | succ k ih =>
    by_cases hj : j = k + 1
    · rw [hj]
    · show sp_cnt p k + (if p k = true then 1 else 0) = _
      rw [hz k (by omega) (by omega), ih (by omega) (fun i h1 h2 => hz i h1 (by omega))]; rfl
theorem sp_cnt_le2 {p : Nat → Bool} {j k : Nat} (h : j ≤ k) : sp_cnt p j ≤ sp_cnt p k := by
  induction k with
  | zero => have : j = 0 := by omega
            subst this; exact Nat.le_refl _
  | succ k ih =>
    by_cases hj : j = k + 1
    · rw [hj]; exact Nat.le_refl _
    · have h2 := ih (by omega)
      have h1 : sp_cnt p (k + 1) = sp_cnt p k + (if p k = true then 1 else 0) := rfl
      omega
theorem sg_pk_spec {fr : Nat → Nat} {b m : Nat} : ∀ t, t < sg_deg fr b m → sg_pk fr b m t < m ∧ fr (sg_pk fr b m t) = b ∧ sp_cnt (fun e => decide (fr e = b)) (sg_pk fr b m t) = t := by
  intro t
  induction t with
  | zero =>
    intro ht
    obtain ⟨x1, x2, x3, x4⟩ := sg_nx_spec fr b m 0
    have h1 : sg_nx fr b m 0 < m := by
      by_cases hc : sg_nx fr b m 0 < m
      · exact hc
      · have := sp_cnt_none (p := fun e => decide (fr e = b)) (k := m) (fun i hi => decide_eq_false (x3 i (by omega) (by omega)))
        unfold sg_deg at ht
        omega
    refine ⟨h1, x4 (by omega), ?_⟩
    exact sp_cnt_none (fun i hi => decide_eq_false (x3 i (by omega) hi))
  | succ t ih =>
    intro ht
    obtain ⟨i1, i2, i3⟩ := ih (by omega)
    have e1 : sg_pk fr b m (t + 1) = sg_nx fr b (m - (sg_pk fr b m t + 1)) (sg_pk fr b m t + 1) := rfl
    rw [e1]
    generalize sg_pk fr b m t = e at i1 i2 i3 ⊢
    obtain ⟨x1, x2, x3, x4⟩ := sg_nx_spec fr b (m - (e + 1)) (e + 1)
    have hce : sp_cnt (fun e => decide (fr e = b)) (e + 1) = t + 1 := by
      show sp_cnt _ e + (if decide (fr e = b) = true then 1 else 0) = _
      rw [i3, if_pos (decide_eq_true i2)]
    generalize sg_nx fr b (m - (e + 1)) (e + 1) = e' at x1 x2 x3 x4 ⊢
    have h1 : e' < m := by
      by_cases hc : e' < m
      · exact hc
      · have := sp_cnt_gap (p := fun e => decide (fr e = b)) (j := e + 1) (k := m) (by omega) (fun i h1 h2 => decide_eq_false (x3 i h1 (by omega)))
        unfold sg_deg at ht
        omega
    refine ⟨h1, x4 (by omega), ?_⟩
    rw [sp_cnt_gap (p := fun e => decide (fr e = b)) (j := e + 1) x1 (fun i h1 h2 => decide_eq_false (x3 i h1 h2)), hce]
theorem sg_pk_uniq {fr : Nat → Nat} {b e f : Nat} (he : fr e = b) (hf : fr f = b) (h : sp_cnt (fun x => decide (fr x = b)) e = sp_cnt (fun x => decide (fr x = b)) f) : e = f := by
  have key : ∀ e f, fr e = b → e < f → sp_cnt (fun x => decide (fr x = b)) e < sp_cnt (fun x => decide (fr x = b)) f := by
    intro e f he hlt
    have h1 := sp_cnt_le2 (p := fun x => decide (fr x = b)) (j := e + 1) (k := f) hlt
    have h2 : sp_cnt (fun x => decide (fr x = b)) (e + 1) = sp_cnt (fun x => decide (fr x = b)) e + (if decide (fr e = b) = true then 1 else 0) := rfl
    rw [if_pos (decide_eq_true he)] at h2
    omega
  by_cases h1 : e < f
  · have := key e f he h1; omega
  · by_cases h2 : f < e
    · have := key f e hf h2; omega
    · omega
theorem z_irem_N {a b : Nat} (ha : a < 2147483648) (h0 : 0 < b) (hb : b < 2147483648) : nI a - nI a / nI b * nI b = nI (a % b) := pk_rem ha h0 hb
