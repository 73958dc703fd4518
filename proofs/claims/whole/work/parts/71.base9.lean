/-! words for the reference's search -/
def zmk (S : Nat → Bool) (i : Nat) : Nat → Bool := fun x => if x < i then decide (x = 1) else S x
theorem zmk_0 (S : Nat → Bool) : zmk S 0 = S := by
  funext x
  exact if_neg (by omega)
theorem zmk_up (S : Nat → Bool) (i : Nat) : zmk S (i + 1) = va_up (zmk S i) i (decide (i = 1)) := by
  funext x
  by_cases h : x = i
  · subst h; rw [sp_up_s]; exact if_pos (by omega)
  · rw [sp_up_n _ _ h]
    show (if x < i + 1 then decide (x = 1) else S x) = (if x < i then decide (x = 1) else S x)
    by_cases hc : x < i
    · rw [if_pos hc, if_pos (by omega)]
    · rw [if_neg hc, if_neg (by omega)]
def zcb (T : Nat → Bool) (met : Nat → Nat) (i : Nat) : Bool := decide (∀ b, b < i → T b = true ∧ met b = 2)
theorem zcb_t {T : Nat → Bool} {met : Nat → Nat} {i : Nat} (h : zcb T met i = true) (h1 : T i = true) (h2 : met i = 2) : zcb T met (i + 1) = true := by
  have h0 := of_decide_eq_true h
  refine decide_eq_true (fun b hb => ?_)
  by_cases hbi : b = i
  · rw [hbi]; exact ⟨h1, h2⟩
  · exact h0 b (by omega)
theorem zcb_f {T : Nat → Bool} {met : Nat → Nat} {i : Nat} (h : ¬ (zcb T met i = true ∧ T i = true ∧ met i = 2)) : zcb T met (i + 1) = false := by
  refine decide_eq_false (fun hc => h ⟨decide_eq_true (fun b hb => hc b (by omega)), hc i (by omega)⟩)
