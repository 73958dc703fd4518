/-! words for Loops -/
abbrev wO (cI : ClassId) (lo g s dp od : Nat) (dep ord : Nat → Nat) : va_W := [(lo, .inr (2, [.ref g, .ref s, .ref dp, .ref od])), (dp, .inl (cI, 12, .inl (aN dep))), (od, .inl (cI, 24, .inl (aN ord)))]
/-- the blocks of the loop of edge e -/
def zlp (fr to : Nat → Nat) (m n e : Nat) : Nat → Bool := fun i => decide (i = to e) || sp_it (fun _ => sr_r fr to (some (to e)) m) (n - 1) (zS0 (fr e) (some (to e))) i
def zdp (dep : Nat → Nat) (S : Nat → Bool) (i : Nat) : Nat → Nat := fun x => if x < i ∧ S x = true then dep x + 1 else dep x
theorem zdp_0 (dep : Nat → Nat) (S : Nat → Bool) : zdp dep S 0 = dep := by
  funext x
  exact if_neg (fun h => by omega)
theorem zdp_at (dep : Nat → Nat) (S : Nat → Bool) (i : Nat) : zdp dep S i i = dep i := if_neg (fun h => by omega)
theorem zdp_hit {dep : Nat → Nat} {S : Nat → Bool} {i : Nat} (h : S i = true) : zdp dep S (i + 1) = va_up (zdp dep S i) i (dep i + 1) := by
  funext x
  by_cases hx : x = i
  · subst hx
    rw [sp_up_s]
    exact if_pos ⟨by omega, h⟩
  · rw [sp_up_n _ _ hx]
    show (if x < i + 1 ∧ S x = true then dep x + 1 else dep x) = (if x < i ∧ S x = true then dep x + 1 else dep x)
    by_cases hc : x < i ∧ S x = true
    · rw [if_pos hc, if_pos ⟨by omega, hc.2⟩]
    · rw [if_neg hc, if_neg (fun h2 => hc ⟨by omega, h2.2⟩)]
theorem zdp_miss {dep : Nat → Nat} {S : Nat → Bool} {i : Nat} (h : S i = false) : zdp dep S (i + 1) = zdp dep S i := by
  funext x
  show (if x < i + 1 ∧ S x = true then dep x + 1 else dep x) = (if x < i ∧ S x = true then dep x + 1 else dep x)
  by_cases hc : x < i ∧ S x = true
  · rw [if_pos hc, if_pos ⟨by omega, hc.2⟩]
  · rw [if_neg hc, if_neg (fun h2 => hc ⟨by
      by_cases hx : x = i
      · rw [hx, h] at h2; exact absurd h2.2 (by decide)
      · omega, h2.2⟩)]
def zde (fr to : Nat → Nat) (bk : Nat → Bool) (m n e : Nat) (d : Nat → Nat) : Nat → Nat := if bk e = true then zdp d (zlp fr to m n e) n else d
theorem zde_le (fr to : Nat → Nat) (bk : Nat → Bool) (m n : Nat) : ∀ e x, sp_it (zde fr to bk m n) e (fun _ => 0) x ≤ e := by
  intro e
  induction e with
  | zero => intro x; exact Nat.le_refl 0
  | succ e ih =>
    intro x
    have h := ih x
    show zde fr to bk m n e (sp_it (zde fr to bk m n) e (fun _ => 0)) x ≤ e + 1
    unfold zde
    split
    · show (if x < n ∧ _ then _ else _) ≤ e + 1
      split
      · exact Nat.succ_le_succ h
      · exact Nat.le_succ_of_le h
    · exact Nat.le_succ_of_le h
def zwt (fr to dep : Nat → Nat) (e : Nat) : Nat := min (dep (fr e)) (dep (to e))
theorem zmin {a b : Nat} (ha : a < 2147483648) (hb : b < 2147483648) : (if nI b < nI a then nI b else nI a) = nI (min a b) := by
  by_cases h : b < a
  · rw [if_pos ((nI_ltI hb ha).mpr h), Nat.min_eq_right (by omega)]
  · rw [if_neg (fun hc => h ((nI_ltI hb ha).mp hc)), Nat.min_eq_left (by omega)]
abbrev so_t (w : Nat → Nat) (m j : Nat) (o : Nat → Nat) : (Nat → Nat) × Nat := sp_it (fun j t => sp_it (so_in w (m - j)) m t) j (o, 0)
theorem so_inner {w : Nat → Nat} {m j : Nat} (hj : j ≤ m) (t : (Nat → Nat) × Nat) (ht : t.2 = sp_cnt (fun f => decide (m < w f + j)) m) : ∀ e, e ≤ m → (sp_it (so_in w (m - j)) e t).2 = sp_cnt (fun f => decide (m - j < w f ∨ (w f = m - j ∧ f < e))) m := by
  intro e
  induction e with
  | zero =>
    intro _
    show t.2 = _
    rw [ht]
    exact sp_cnt_congr (fun f _ => decide_eq_decide.mpr (by omega))
  | succ e ih =>
    intro he
    have h1 := ih (by omega)
    show (so_in w (m - j) e (sp_it (so_in w (m - j)) e t)).2 = _
    generalize sp_it (so_in w (m - j)) e t = u at h1 ⊢
    unfold so_in
    by_cases hwi : w e = m - j
    · rw [if_pos hwi]
      show _ + 1 = _
      rw [h1]
      exact (sp_cnt_up (p := fun f => decide (m - j < w f ∨ (w f = m - j ∧ f < e))) (q := fun f => decide (m - j < w f ∨ (w f = m - j ∧ f < e + 1))) (show e < m by omega) (decide_eq_false (by omega)) (decide_eq_true (by omega)) (fun f _ hf => decide_eq_decide.mpr (by omega))).symm
    · rw [if_neg hwi, h1]
      refine sp_cnt_congr (fun f _ => decide_eq_decide.mpr ?_)
      by_cases hfe : f = e
      · rw [hfe]; omega
      · omega
theorem so_outer {w : Nat → Nat} {m : Nat} (hw : ∀ f, f < m → w f ≤ m) (o : Nat → Nat) : ∀ j, j ≤ m + 1 → (so_t w m j o).2 = sp_cnt (fun f => decide (m < w f + j)) m := by
  intro j
  induction j with
  | zero =>
    intro _
    show 0 = _
    rw [sp_cnt_none (fun f hf => decide_eq_false (by have := hw f hf; omega))]
  | succ j ih =>
    intro hj
    show (sp_it (so_in w (m - j)) m (so_t w m j o)).2 = _
    rw [so_inner (by omega) _ (ih (by omega)) m (Nat.le_refl m)]
    exact sp_cnt_congr (fun f hf => decide_eq_decide.mpr (by omega))
/-- at the place of writing there is room -/
theorem so_room {w : Nat → Nat} {m : Nat} (hw : ∀ f, f < m → w f ≤ m) (o : Nat → Nat) {j e : Nat} (hj : j ≤ m) (he : e < m) (hwe : w e = m - j) : (sp_it (so_in w (m - j)) e (so_t w m j o)).2 < m := by
  rw [so_inner hj _ (so_outer hw o j (by omega)) e (by omega)]
  have h := sp_cnt_lt (p := fun f => decide (m - j < w f ∨ (w f = m - j ∧ f < e))) (q := fun _ => true) (k := m) (j := e) (fun _ _ _ => rfl) he rfl (fun hc => by have := of_decide_eq_true hc; omega)
  rw [sp_cnt_true] at h
  exact h
def zdn (m j : Nat) : Int32 := if j ≤ m then nI (m - j) else -1
theorem zdn_in {m j : Nat} (h : j ≤ m) : zdn m j = nI (m - j) := if_pos h
theorem zdn_lt {m j : Nat} (hm : m < 2147483648) : zdn m j < 0 ↔ m < j := by
  unfold zdn
  by_cases h : j ≤ m
  · rw [if_pos h]
    exact ⟨fun hc => absurd hc (nI_pos (by omega)), fun hc => absurd h (by omega)⟩
  · rw [if_neg h]
    exact ⟨fun _ => by omega, fun _ => by decide⟩
theorem zdn_dec {m j : Nat} (h : j ≤ m) : nI (m - j) + Int32.ofInt (-1) = zdn m (j + 1) := by
  unfold zdn
  by_cases h2 : j + 1 ≤ m
  · rw [if_pos h2, zi_pred (by omega)]
    rfl
  · rw [if_neg h2, show m - j = 0 by omega]
    decide
