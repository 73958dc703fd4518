/-! pure side: values of STARTs; where a way begins and goes on (draft of 2026-11-15, not built yet) -/
def sv_st (to R : Nat → Nat) (bk : Nat → Bool) (e : Nat) (s : (Nat → Nat) × Nat) : (Nat → Nat) × Nat := if bk e = true then (va_up s.1 e s.2, s.2 + R (to e)) else s
theorem sv_st_spec (to R : Nat → Nat) (bk : Nat → Bool) (m : Nat) (SV : Nat → Nat) (r0 : Nat) : (sp_it (sv_st to R bk) m (SV, r0)).2 = r0 + sl_S to bk R m ∧ ∀ e, e < m → bk e = true → (sp_it (sv_st to R bk) m (SV, r0)).1 e = r0 + sl_S to bk R e := by
  refine sp_it_inv (I := fun i (s : (Nat → Nat) × Nat) => s.2 = r0 + sl_S to bk R i ∧ ∀ e, e < i → bk e = true → s.1 e = r0 + sl_S to bk R e) ⟨rfl, fun e he => by omega⟩ m ?_
  intro i s _ hs
  obtain ⟨h1, h2⟩ := hs
  have h5 : sl_S to bk R (i + 1) = sl_S to bk R i + (if bk i = true then R (to i) else 0) := rfl
  unfold sv_st
  by_cases hb : bk i = true
  · rw [if_pos hb]
    refine ⟨?_, fun e he hbe => ?_⟩
    · show s.2 + R (to i) = _
      rw [h5, if_pos hb, h1]; omega
    · show va_up s.1 i s.2 e = _
      by_cases hei : e = i
      · rw [hei, sp_up_s, h1]
      · rw [sp_up_n _ _ hei]; exact h2 e (by omega) hbe
  · rw [if_neg hb]
    refine ⟨by rw [h5, if_neg hb, h1]; rfl, fun e he hbe => ?_⟩
    have hei : e ≠ i := fun hc => hb (by rw [← hc]; exact hbe)
    exact h2 e (by omega) hbe
/-- the first link of a row with a given number is the last one whose value is not above it -/
theorem sw_pick {n N : Nat} {isL : Nat → Bool} {lf lt R rho : Nat → Nat} (H : sw_H n N isL lf lt R rho) {b l : Nat} {r : List Nat} (hb : b < n) (hC : sw_C N isL lf lt b (l :: r) 1) : sw_V isL lf lt R l ≤ sw_n (sw_V isL lf lt R) (l :: r) ∧ ∀ x, l < x → x < N → isL x = true → lf x = b → ¬ sw_V isL lf lt R x ≤ sw_n (sw_V isL lf lt R) (l :: r) := by
  obtain ⟨c1, c2, c3, c4⟩ := hC
  have h1 := sw_lt H r (lt l) (H.2.2.1 l c1 c2).2.2.1 c4
  have e1 : sw_n (sw_V isL lf lt R) (l :: r) = sw_W isL lf lt R (lf l) l + sw_n (sw_V isL lf lt R) r := rfl
  refine ⟨by rw [e1]; show sw_W isL lf lt R (lf l) l ≤ _; omega, fun x hx hxN hi hf hc => ?_⟩
  have h2 := sw_W_at (isL := isL) (lf := lf) (lt := lt) (R := R) (b := b) hx c2 c3
  have e2 : sw_V isL lf lt R x = sw_W isL lf lt R b x := by show sw_W isL lf lt R (lf x) x = _; rw [hf]
  rw [e1, e2, c3] at hc
  omega
