/-! pure side: the blocks behind an edge of the tree; the blocks that reach a block (draft of 2026-11-15) -/
def sb_s (fr to : Nat → Nat) (has : Nat → Bool) (cut e : Nat) (S : Nat → Bool) : Nat → Bool := if has e = true ∧ e ≠ cut ∧ (S (fr e) = true ∨ S (to e) = true) then va_up (va_up S (fr e) true) (to e) true else S
def sb_r (fr to : Nat → Nat) (has : Nat → Bool) (cut m : Nat) (S : Nat → Bool) : Nat → Bool := sp_it (sb_s fr to has cut) m S
def sb_near (fr to : Nat → Nat) (has : Nat → Bool) (cut m n : Nat) : Nat → Bool := sp_it (fun _ => sb_r fr to has cut m) (n - 1) (fun b => decide (b = 0 ∨ b = 1))
theorem sb_s_grow (fr to : Nat → Nat) (has : Nat → Bool) (cut e : Nat) (S : Nat → Bool) : sp_le S (sb_s fr to has cut e S) := by
  unfold sb_s
  split
  · exact sp_le_trans (sp_up_le (fun _ => rfl)) (sp_up_le (fun _ => rfl))
  · exact sp_le_refl S
theorem sb_r_in {fr to : Nat → Nat} {has : Nat → Bool} {cut m n : Nat} (hok : ∀ e, e < m → fr e < n ∧ to e < n) {S : Nat → Bool} (hS : ∀ b, S b = true → b < n) : ∀ b, sb_r fr to has cut m S b = true → b < n := by
  refine sp_it_inv (I := fun _ (T : Nat → Bool) => ∀ b, T b = true → b < n) hS m ?_
  intro e T he hT b hb
  simp only [sb_s] at hb
  split at hb
  · by_cases h2 : b = to e
    · rw [h2]; exact (hok e he).2
    · rw [sp_up_n _ _ h2] at hb
      by_cases h3 : b = fr e
      · rw [h3]; exact (hok e he).1
      · rw [sp_up_n _ _ h3] at hb; exact hT b hb
  · exact hT b hb
/-- cut is an edge of the tree, S a set that it alone of the tree crosses: then so is what is near -/
theorem sb_cut {n m cut : Nat} {fr to : Nat → Nat} {has : Nat → Bool} (hn : 2 ≤ n) (hok : ∀ e, e < m → fr e < n ∧ to e < n) (hcm : cut < m) {S : Nat → Bool} (h0 : S 0 = false) (h1 : S 1 = false) (hc : S (fr cut) ≠ S (to cut)) (hS : ∀ e, e < m → has e = true → e ≠ cut → S (fr e) = S (to e)) (hspan : ∀ T : Nat → Bool, T 0 = T 1 → (∀ e, e < m → has e = true → T (fr e) = T (to e)) → ∀ b, b < n → T b = T 0) : sb_near fr to has cut m n 0 = true ∧ sb_near fr to has cut m n 1 = true ∧ (∀ b, sb_near fr to has cut m n b = true → b < n) ∧ (∀ e, e < m → has e = true → e ≠ cut → sb_near fr to has cut m n (fr e) = sb_near fr to has cut m n (to e)) ∧ sb_near fr to has cut m n (fr cut) ≠ sb_near fr to has cut m n (to cut) := by
  have hin : ∀ b, (fun b => decide (b = 0 ∨ b = 1)) b = true → b < n := fun b hb => by have := of_decide_eq_true hb; omega
  have hg : ∀ T, sp_le T (sb_r fr to has cut m T) := fun T => sp_it_grow (sb_s_grow fr to has cut) T m
  have hfix := sp_rest (F := sb_r fr to has cut m) (st := fun S => S) (n := n) (I := fun S => ∀ b, S b = true → b < n) (fun S hS => sb_r_in hok hS) (fun S b _ hb => hg S b hb) (fun S b hS hb => hS b hb) (fun S _ hb => funext hb) (a := fun b => decide (b = 0 ∨ b = 1)) hin (sp_cnt_pos (j := 0) (by omega) (by simp))
  have hgx : sp_le (fun b => decide (b = 0 ∨ b = 1)) (sb_near fr to has cut m n) := sp_it_grow (f := fun _ => sb_r fr to has cut m) (fun _ S => hg S) _ (n - 1)
  have hlt : ∀ b, sb_near fr to has cut m n b = true → b < n := sp_it_inv (I := fun _ (T : Nat → Bool) => ∀ b, T b = true → b < n) hin (n - 1) (fun _ T _ hT => sb_r_in hok hT)
  have hout : ∀ b, sb_near fr to has cut m n b = true → S b = false := by
    refine sp_it_inv (I := fun _ (T : Nat → Bool) => ∀ b, T b = true → S b = false) ?_ (n - 1) ?_
    · intro b hb
      rcases of_decide_eq_true hb with h | h
      · rw [h]; exact h0
      · rw [h]; exact h1
    · intro _ T _ hT
      refine sp_it_inv (I := fun _ (T : Nat → Bool) => ∀ b, T b = true → S b = false) hT m ?_
      intro e U he hU b hb
      simp only [sb_s] at hb
      split at hb
      · next hcond =>
        obtain ⟨c1, c2, c3⟩ := hcond
        have hee := hS e he c1 c2
        have hf : S (fr e) = false := by
          rcases c3 with c3 | c3
          · exact hU _ c3
          · rw [hee]; exact hU _ c3
        by_cases h2 : b = to e
        · rw [h2, ← hee]; exact hf
        · rw [sp_up_n _ _ h2] at hb
          by_cases h3 : b = fr e
          · rw [h3]; exact hf
          · rw [sp_up_n _ _ h3] at hb; exact hU b hb
      · exact hU b hb
  have hfix : sb_r fr to has cut m (sb_near fr to has cut m n) = sb_near fr to has cut m n := hfix
  generalize sb_near fr to has cut m n = N at hfix hgx hlt hout ⊢
  have hcl : ∀ e, e < m → has e = true → e ≠ cut → N (fr e) = N (to e) := by
    intro e he c1 c2
    have h3 := sp_it_fix (sb_s_grow fr to has cut) hfix e he
    by_cases c3 : N (fr e) = true ∨ N (to e) = true
    · have h4 : sb_s fr to has cut e N = va_up (va_up N (fr e) true) (to e) true := by
        unfold sb_s; rw [if_pos ⟨c1, c2, c3⟩]
      have h5 : N (to e) = true := by rw [← h3, h4, sp_up_s]
      have h6 : N (fr e) = true := by
        rw [← h3, h4]
        by_cases h7 : fr e = to e
        · rw [h7, sp_up_s]
        · rw [sp_up_n _ _ h7, sp_up_s]
      rw [h5, h6]
    · have h5 : N (fr e) = false := by
        cases h : N (fr e) with
        | true => exact absurd (Or.inl h) c3
        | false => rfl
      have h6 : N (to e) = false := by
        cases h : N (to e) with
        | true => exact absurd (Or.inr h) c3
        | false => rfl
      rw [h5, h6]
  have hN0 : N 0 = true := hgx 0 (by simp)
  have hN1 : N 1 = true := hgx 1 (by simp)
  refine ⟨hN0, hN1, hlt, hcl, ?_⟩
  intro heq
  have hall := hspan N (by rw [hN0, hN1]) (fun e he hh => by
    by_cases hec : e = cut
    · rw [hec]; exact heq
    · exact hcl e he hh hec)
  have hf := hout _ ((hall (fr cut) (hok cut hcm).1).trans hN0)
  have ht := hout _ ((hall (to cut) (hok cut hcm).2).trans hN0)
  exact hc (by rw [hf, ht])
/-- the blocks that reach a block, never being at bar: a round, edges in their order -/
def sr_s (fr to : Nat → Nat) (bar : Option Nat) (e : Nat) (S : Nat → Bool) : Nat → Bool := if S (to e) = true ∧ some (fr e) ≠ bar then va_up S (fr e) true else S
def sr_r (fr to : Nat → Nat) (bar : Option Nat) (m : Nat) (S : Nat → Bool) : Nat → Bool := sp_it (sr_s fr to bar) m S
theorem sr_s_grow (fr to : Nat → Nat) (bar : Option Nat) (e : Nat) (S : Nat → Bool) : sp_le S (sr_s fr to bar e S) := by
  unfold sr_s
  split
  · exact sp_up_le (fun _ => rfl)
  · exact sp_le_refl S
theorem sr_r_in {fr to : Nat → Nat} {bar : Option Nat} {m n : Nat} (hok : ∀ e, e < m → fr e < n ∧ to e < n) {S : Nat → Bool} (hS : ∀ b, S b = true → b < n) : ∀ b, sr_r fr to bar m S b = true → b < n := by
  refine sp_it_inv (I := fun _ (T : Nat → Bool) => ∀ b, T b = true → b < n) hS m ?_
  intro e T he hT b hb
  simp only [sr_s] at hb
  split at hb
  · by_cases h3 : b = fr e
    · rw [h3]; exact (hok e he).1
    · rw [sp_up_n _ _ h3] at hb; exact hT b hb
  · exact hT b hb
/-- n rounds (the reference) or n - 1 (the system): one set; S has a block, or none at all -/
theorem sr_same {fr to : Nat → Nat} {bar : Option Nat} {m n : Nat} (hn : 1 ≤ n) (hok : ∀ e, e < m → fr e < n ∧ to e < n) {S : Nat → Bool} (hS : ∀ b, S b = true → b < n) : sp_it (fun _ => sr_r fr to bar m) n S = sp_it (fun _ => sr_r fr to bar m) (n - 1) S := by
  have hg : ∀ T, sp_le T (sr_r fr to bar m T) := fun T => sp_it_grow (sr_s_grow fr to bar) T m
  by_cases h : ∃ b, S b = true
  · obtain ⟨b, hb⟩ := h
    exact sp_rest_n hn (sp_rest (F := sr_r fr to bar m) (st := fun S => S) (n := n) (I := fun S => ∀ b, S b = true → b < n) (fun S hS => sr_r_in hok hS) (fun S b _ hb => hg S b hb) (fun S b hS hb => hS b hb) (fun S _ hb => funext hb) hS (sp_cnt_pos (hS b hb) hb))
  · have he : S = fun _ => false := by
      funext b
      cases hb : S b with
      | true => exact absurd ⟨b, hb⟩ h
      | false => rfl
    subst he
    have h1 : sr_r fr to bar m (fun _ => false) = fun _ => false := by
      refine sp_it_inv (I := fun _ (T : Nat → Bool) => T = fun _ => false) rfl m ?_
      intro e T _ hT
      subst hT
      unfold sr_s
      rw [if_neg (fun hc => by have := hc.1; simp at this)]
    have h2 : ∀ k, sp_it (fun _ => sr_r fr to bar m) k (fun _ => false) = fun _ => false := by
      intro k
      induction k with
      | zero => rfl
      | succ k ih => show sr_r fr to bar m (sp_it (fun _ => sr_r fr to bar m) k (fun _ => false)) = _; rw [ih, h1]
    rw [h2, h2]
