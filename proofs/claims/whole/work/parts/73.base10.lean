/-! words for the reference's links -/
def sl_nx (p : Nat → Bool) : Nat → Nat → Nat
  | 0, e => e
  | k + 1, e => if p e = true then e else sl_nx p k (e + 1)
theorem sl_nx_hit {p : Nat → Bool} {N i : Nat} (hi : i < N) (hf : p i = true) : sl_nx p (N - i) i = i := by
  obtain ⟨k, hk⟩ : ∃ k, N - i = k + 1 := ⟨N - i - 1, by omega⟩
  rw [hk]
  show (if p i = true then i else _) = i
  rw [if_pos hf]
theorem sl_nx_miss {p : Nat → Bool} {N i : Nat} (hi : i < N) (hf : p i = false) : sl_nx p (N - i) i = sl_nx p (N - (i + 1)) (i + 1) := by
  obtain ⟨k, hk⟩ : ∃ k, N - i = k + 1 := ⟨N - i - 1, by omega⟩
  rw [hk, show N - (i + 1) = k by omega]
  show (if p i = true then i else _) = _
  rw [if_neg (by rw [hf]; decide)]
theorem sl_nx_end {p : Nat → Bool} {N i : Nat} (hi : N ≤ i) : sl_nx p (N - i) i = i := by
  rw [show N - i = 0 by omega]
  rfl
theorem sl_nx_spec (p : Nat → Bool) : ∀ k e, e ≤ sl_nx p k e ∧ sl_nx p k e ≤ e + k ∧ (∀ j, e ≤ j → j < sl_nx p k e → p j = false) ∧ (sl_nx p k e < e + k → p (sl_nx p k e) = true)
  | 0, e => ⟨Nat.le_refl _, Nat.le_refl _, fun j h1 h2 => by simp [sl_nx] at h2; omega, fun h => by simp [sl_nx] at h⟩
  | k + 1, e => by
    by_cases he : p e = true
    · have h1 : sl_nx p (k + 1) e = e := by simp [sl_nx, he]
      rw [h1]
      exact ⟨Nat.le_refl _, by omega, fun j h2 h3 => by omega, fun _ => he⟩
    · have h1 : sl_nx p (k + 1) e = sl_nx p k (e + 1) := by simp [sl_nx, he]
      obtain ⟨a1, a2, a3, a4⟩ := sl_nx_spec p k (e + 1)
      rw [h1]
      refine ⟨by omega, by omega, fun j h2 h3 => ?_, fun h2 => a4 (by omega)⟩
      by_cases hj : j = e
      · subst hj
        cases hp : p j with
        | true => exact absurd hp he
        | false => rfl
      · exact a3 j (by omega) h3
abbrev zlk (isL : Nat → Bool) (lf : Nat → Nat) (b l : Nat) : Bool := isL l && decide (lf l = b)
theorem zL_1 (t : Nat) : zL t + nI 1 = nI t := by
  cases t with
  | zero => decide
  | succ t => rw [zL_s, nI_add]
