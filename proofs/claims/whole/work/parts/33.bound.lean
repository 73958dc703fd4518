/-! pure side: rows stay small; the reference's rounds find them (draft of 2026-11-15, not built yet) -/
theorem sp_sum_bound {f : Nat → Nat} {p : Nat → Bool} {M k : Nat} (h : ∀ i, i < k → f i ≤ if p i = true then M else 0) : sp_sum f k ≤ sp_cnt p k * M := by
  induction k with
  | zero => exact Nat.zero_le _
  | succ k ih =>
    have h1 := ih (fun i hi => h i (by omega))
    have h2 := h k (by omega)
    show sp_sum f k + f k ≤ (sp_cnt p k + (if p k = true then 1 else 0)) * M
    by_cases hp : p k = true
    · rw [if_pos hp] at h2 ⊢
      rw [Nat.add_mul, Nat.one_mul]; omega
    · rw [if_neg hp] at h2 ⊢
      rw [Nat.add_zero]; omega
theorem sp_cnt_split {p q r : Nat → Bool} {k : Nat} (h : ∀ i, i < k → (r i = true ↔ p i = true ∨ q i = true)) (hd : ∀ i, i < k → ¬ (p i = true ∧ q i = true)) : sp_cnt r k = sp_cnt p k + sp_cnt q k := by
  induction k with
  | zero => rfl
  | succ k ih =>
    have h1 := ih (fun i hi => h i (by omega)) (fun i hi => hd i (by omega))
    have h2 := h k (by omega)
    have h3 := hd k (by omega)
    show sp_cnt r k + _ = sp_cnt p k + _ + (sp_cnt q k + _)
    by_cases hp : p k = true
    · have hq : ¬ q k = true := fun hq => h3 ⟨hp, hq⟩
      rw [if_pos hp, if_neg hq, if_pos (h2.mpr (Or.inl hp))]; omega
    · by_cases hq : q k = true
      · rw [if_neg hp, if_pos hq, if_pos (h2.mpr (Or.inr hq))]; omega
      · have hr : ¬ r k = true := fun hr => by
          rcases h2.mp hr with h4 | h4
          · exact hp h4
          · exact hq h4
        rw [if_neg hp, if_neg hq, if_neg hr]; omega
theorem sp_le_two_pow (d : Nat) : d ≤ 2 ^ d := Nat.le_of_lt Nat.lt_two_pow_self
theorem sv_bound {n m : Nat} {fr tg fin R : Nat → Nat} (hO : sv_O n m fr tg fin) (h1 : R 1 = 1) (h : ∀ b, b < n → b ≠ 1 → R b = sv_W fr tg R b m) : ∀ b, b < n → R b ≤ 2 ^ m := by
  obtain ⟨hlt, hinj, hsur, hlk⟩ := hO
  have key : ∀ i, i < n → R (fin i) ≤ 2 ^ sp_cnt (fun e => sp_dec (∃ a, a < i + 1 ∧ fin a = fr e)) m := by
    intro i
    induction i using Nat.strongRecOn with
    | _ i ih =>
      intro hi
      by_cases hf : fin i = 1
      · rw [hf, h1]; exact Nat.one_le_two_pow
      · rw [h (fin i) (hlt i hi) hf]
        have hb : sv_W fr tg R (fin i) m ≤ sp_cnt (fun e => decide (fr e = fin i)) m * 2 ^ sp_cnt (fun e => sp_dec (∃ a, a < i ∧ fin a = fr e)) m := by
          refine sp_sum_bound (fun e he => ?_)
          by_cases hfe : fr e = fin i
          · rw [if_pos hfe, if_pos (decide_eq_true hfe)]
            rcases (hlk e he).2 with ht | ⟨a, c, hac, hcn, hfa, hfc⟩
            · rw [ht, h1]; exact Nat.one_le_two_pow
            · have hci : c = i := hinj c i hcn hi (by rw [hfc, hfe])
              rw [← hfa]
              refine Nat.le_trans (ih a (by omega) (by omega)) (Nat.pow_le_pow_right (by decide) ?_)
              refine sp_cnt_mono (fun x _ hx => ?_)
              obtain ⟨a2, h2, h3⟩ := sp_dec_iff.mp hx
              exact sp_dec_iff.mpr ⟨a2, by omega, h3⟩
          · rw [if_neg hfe, if_neg (fun hc => hfe (of_decide_eq_true hc))]; exact Nat.le_refl 0
        have hs := sp_cnt_split (p := fun e => decide (fr e = fin i)) (q := fun e => sp_dec (∃ a, a < i ∧ fin a = fr e)) (r := fun e => sp_dec (∃ a, a < i + 1 ∧ fin a = fr e)) (k := m) (fun e _ => by
            constructor
            · intro hx
              obtain ⟨a2, h2, h3⟩ := sp_dec_iff.mp hx
              by_cases hai : a2 = i
              · left; exact decide_eq_true (by rw [← h3, hai])
              · right; exact sp_dec_iff.mpr ⟨a2, by omega, h3⟩
            · rintro (hx | hx)
              · exact sp_dec_iff.mpr ⟨i, by omega, (of_decide_eq_true hx).symm⟩
              · obtain ⟨a2, h2, h3⟩ := sp_dec_iff.mp hx
                exact sp_dec_iff.mpr ⟨a2, by omega, h3⟩) (fun e _ hx => by
            obtain ⟨h4, h5⟩ := hx
            obtain ⟨a2, h2, h3⟩ := sp_dec_iff.mp h5
            have := hinj a2 i (by omega) hi (by rw [h3, of_decide_eq_true h4])
            omega)
        rw [hs, Nat.pow_add]
        exact Nat.le_trans hb (Nat.mul_le_mul_right _ (sp_le_two_pow _))
  intro b hb
  obtain ⟨i, hi, rfl⟩ := hsur b hb
  exact Nat.le_trans (key i hi) (Nat.pow_le_pow_right (by decide) (sp_cnt_le _ _))
theorem sl_bound {n m : Nat} {to R : Nat → Nat} {bk : Nat → Bool} (hm : m ≤ 24) (hn : 1 ≤ n) (hto : ∀ e, e < m → to e < n) (hR : ∀ b, b < n → R b ≤ 2 ^ m) : ∀ b, b < n → sl_R m to bk R b ≤ 419430400 := by
  have hp : 2 ^ m ≤ 16777216 := Nat.le_trans (Nat.pow_le_pow_right (by decide) hm) (Nat.le_refl (2 ^ 24))
  have hS : sl_S to bk R m ≤ 24 * 16777216 := by
    have h1 := sp_sum_bound (f := fun x => if bk x = true then R (to x) else 0) (p := bk) (M := 16777216) (k := m) (fun e he => by
      by_cases hb : bk e = true
      · rw [if_pos hb, if_pos hb]; exact Nat.le_trans (hR _ (hto e he)) hp
      · rw [if_neg hb, if_neg hb]; exact Nat.le_refl 0)
    have h2 := sp_cnt_le bk m
    have h3 : sp_cnt bk m * 16777216 ≤ 24 * 16777216 := Nat.mul_le_mul_right _ (by omega)
    exact Nat.le_trans h1 h3
  intro b hb
  have h4 := hR b hb
  have h5 := hR 0 (by omega)
  unfold sl_R
  by_cases h0 : b = 0
  · rw [if_pos h0]; omega
  · rw [if_neg h0]; omega
/-- the reference's rounds over rows -/
def sl_rd (n N : Nat) (isL : Nat → Bool) (lf lt : Nat → Nat) (rows : Nat → Nat) : Nat → Nat := sp_it (fun b r => va_up r b (if b = 1 then 1 else sw_W isL lf lt r b N)) n rows
theorem sl_rounds {n N : Nat} {isL : Nat → Bool} {lf lt R rho : Nat → Nat} (H : sw_H n N isL lf lt R rho) (hrho : ∀ b, b < n → rho b ≤ n) : ∀ b, b < n → sp_it (fun _ => sl_rd n N isL lf lt) n (fun b => if b = 1 then 1 else 0) b = R b := by
  have hW : ∀ (rows : Nat → Nat) b r, b < n → b ≠ 1 → rho b ≤ r + 1 → (∀ x, x < n → rho x ≤ r → rows x = R x) → sw_W isL lf lt rows b N = R b := by
    intro rows b r hb hb1 hr hrows
    rw [H.2.1 b hb hb1]
    refine sp_sum_congr (fun l hl => ?_)
    by_cases hc : isL l = true ∧ lf l = b
    · rw [if_pos hc, if_pos hc]
      obtain ⟨g1, g2, g3, g4⟩ := H.2.2.1 l hl hc.1
      rw [hc.2] at g4
      exact hrows _ g3 (by omega)
    · rw [if_neg hc, if_neg hc]
  have key : ∀ x, x < n → rho x ≤ n → sp_it (fun _ => sl_rd n N isL lf lt) n (fun b => if b = 1 then 1 else 0) x = R x := by
    refine sp_it_inv (I := fun r (rows : Nat → Nat) => ∀ x, x < n → rho x ≤ r → rows x = R x) ?_ n ?_
    · intro x hx hr
      by_cases hx1 : x = 1
      · rw [if_pos hx1, hx1, H.1]
      · obtain ⟨l, hl, hi, hf⟩ := H.2.2.2 x hx hx1
        have := (H.2.2.1 l hl hi).2.2.2
        rw [hf] at this
        omega
    · intro r rows _ hrows
      have h2 : (∀ x, x < n → rho x ≤ r → sl_rd n N isL lf lt rows x = R x) ∧ ∀ x, x < n → rho x ≤ r + 1 → sl_rd n N isL lf lt rows x = R x := by
        refine sp_it_inv (I := fun i (rows : Nat → Nat) => (∀ x, x < n → rho x ≤ r → rows x = R x) ∧ ∀ x, x < i → rho x ≤ r + 1 → rows x = R x) ⟨hrows, fun x hx => by omega⟩ n ?_
        intro i rows hi hI
        obtain ⟨i1, i2⟩ := hI
        have hv : rho i ≤ r + 1 → (if i = 1 then 1 else sw_W isL lf lt rows i N) = R i := by
          intro hr
          by_cases h1 : i = 1
          · rw [if_pos h1, h1, H.1]
          · rw [if_neg h1]; exact hW rows i r hi h1 hr i1
        refine ⟨fun x hx hr => ?_, fun x hx hr => ?_⟩
        · by_cases hxi : x = i
          · rw [hxi, sp_up_s]; exact hv (by rw [← hxi]; omega)
          · rw [sp_up_n _ _ hxi]; exact i1 x hx hr
        · by_cases hxi : x = i
          · rw [hxi, sp_up_s]; exact hv (by rw [← hxi]; exact hr)
          · rw [sp_up_n _ _ hxi]; exact i2 x (by omega) hr
      exact h2.2
  intro b hb
  exact key b hb (hrho b hb)
