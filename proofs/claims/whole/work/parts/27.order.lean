/-! pure side: the order of edges; bases (draft of 2026-11-15, not built yet) -/
/-- f comes before e -/
def so_b (w : Nat → Nat) (e f : Nat) : Bool := decide (w e < w f ∨ (w f = w e ∧ f < e))
def so_rk (w : Nat → Nat) (m e : Nat) : Nat := sp_cnt (so_b w e) m
theorem sp_cnt_true (k : Nat) : sp_cnt (fun _ => true) k = k := by
  induction k with
  | zero => rfl
  | succ k ih => show sp_cnt (fun _ => true) k + 1 = k + 1; rw [ih]
theorem so_rk_mono {w : Nat → Nat} {m e f : Nat} (hf : f < m) (h : so_b w e f = true) : so_rk w m f < so_rk w m e := by
  have h1 := of_decide_eq_true h
  refine sp_cnt_lt (fun i _ hi => ?_) hf h ?_
  · have h2 := of_decide_eq_true hi
    exact decide_eq_true (by omega)
  · intro hc
    have := of_decide_eq_true hc
    omega
theorem so_rk_inj {w : Nat → Nat} {m e f : Nat} (he : e < m) (hf : f < m) (h : so_rk w m e = so_rk w m f) : e = f := by
  by_cases hef : e = f
  · exact hef
  · by_cases hb : so_b w e f = true
    · have := so_rk_mono (w := w) (m := m) hf hb
      omega
    · have h1 : ¬ (w e < w f ∨ (w f = w e ∧ f < e)) := fun hc => hb (decide_eq_true hc)
      have h2 : so_b w f e = true := decide_eq_true (by omega)
      have := so_rk_mono (w := w) (m := m) he h2
      omega
theorem so_rk_in {w : Nat → Nat} {m e : Nat} (he : e < m) : so_rk w m e < m := by
  have h := sp_cnt_lt (p := so_b w e) (q := fun _ => true) (k := m) (fun _ _ _ => rfl) he rfl (fun hc => by have := of_decide_eq_true hc; omega)
  rw [sp_cnt_true] at h
  exact h
/-- the reference's order -/
def so_ref (w : Nat → Nat) (m : Nat) (s : Nat → Nat) : Nat → Nat := sp_it (fun e s => va_up s (so_rk w m e) e) m s
theorem so_ref_spec (w : Nat → Nat) (m : Nat) (s : Nat → Nat) : ∀ e, e < m → so_ref w m s (so_rk w m e) = e := by
  have key : ∀ i, i ≤ m → ∀ e, e < i → sp_it (fun e s => va_up s (so_rk w m e) e) i s (so_rk w m e) = e := by
    intro i
    induction i with
    | zero => intro _ e he; omega
    | succ i ih =>
      intro hi e he
      show va_up (sp_it (fun e s => va_up s (so_rk w m e) e) i s) (so_rk w m i) i (so_rk w m e) = e
      by_cases hei : e = i
      · rw [hei, sp_up_s]
      · rw [sp_up_n _ _ (fun hc => hei (so_rk_inj (by omega) (by omega) hc))]
        exact ih (by omega) e (by omega)
  exact key m (Nat.le_refl m)
/-- the system's: weights from m down, edges up -/
def so_in (w : Nat → Nat) (W e : Nat) (s : (Nat → Nat) × Nat) : (Nat → Nat) × Nat := if w e = W then (va_up s.1 s.2 e, s.2 + 1) else s
def so_sys (w : Nat → Nat) (m : Nat) (s : Nat → Nat) : (Nat → Nat) × Nat := sp_it (fun j t => sp_it (so_in w (m - j)) m t) (m + 1) (s, 0)
theorem so_sys_spec {w : Nat → Nat} {m : Nat} (hw : ∀ f, f < m → w f ≤ m) (s : Nat → Nat) : (so_sys w m s).2 = m ∧ ∀ x, x < m → ∃ e, e < m ∧ (so_sys w m s).1 x = e ∧ so_rk w m e = x := by
  have key : (so_sys w m s).2 = sp_cnt (fun f => decide (m < w f + (m + 1))) m ∧ ∀ x, x < (so_sys w m s).2 → ∃ e, e < m ∧ (so_sys w m s).1 x = e ∧ so_rk w m e = x := by
    refine sp_it_inv (I := fun j (t : (Nat → Nat) × Nat) => t.2 = sp_cnt (fun f => decide (m < w f + j)) m ∧ ∀ x, x < t.2 → ∃ e, e < m ∧ t.1 x = e ∧ so_rk w m e = x) ⟨?_, fun x hx => by simp at hx⟩ (m + 1) ?_
    · show 0 = _
      rw [sp_cnt_none (fun f hf => decide_eq_false (by have := hw f hf; omega))]
    · intro j t hj ht
      have h2 : (sp_it (so_in w (m - j)) m t).2 = sp_cnt (fun f => decide (m - j < w f ∨ (w f = m - j ∧ f < m))) m ∧ ∀ x, x < (sp_it (so_in w (m - j)) m t).2 → ∃ e, e < m ∧ (sp_it (so_in w (m - j)) m t).1 x = e ∧ so_rk w m e = x := by
        refine sp_it_inv (I := fun i (t : (Nat → Nat) × Nat) => t.2 = sp_cnt (fun f => decide (m - j < w f ∨ (w f = m - j ∧ f < i))) m ∧ ∀ x, x < t.2 → ∃ e, e < m ∧ t.1 x = e ∧ so_rk w m e = x) ⟨?_, ht.2⟩ m ?_
        · rw [ht.1]
          exact sp_cnt_congr (fun f _ => decide_eq_decide.mpr (by omega))
        · intro i u hi hu
          obtain ⟨u1, u2⟩ := hu
          unfold so_in
          by_cases hwi : w i = m - j
          · rw [if_pos hwi]
            have hrk : u.2 = so_rk w m i := by
              rw [u1]
              exact sp_cnt_congr (fun f _ => decide_eq_decide.mpr (by omega))
            refine ⟨?_, fun x hx => ?_⟩
            · show u.2 + 1 = _
              rw [u1]
              exact (sp_cnt_up (p := fun f => decide (m - j < w f ∨ (w f = m - j ∧ f < i))) (q := fun f => decide (m - j < w f ∨ (w f = m - j ∧ f < i + 1))) hi (decide_eq_false (by omega)) (decide_eq_true (by omega)) (fun f _ hf => decide_eq_decide.mpr (by omega))).symm
            · have hx : x < u.2 + 1 := hx
              by_cases hxu : x = u.2
              · exact ⟨i, hi, by rw [hxu]; exact sp_up_s _ _ _, by rw [hxu, hrk]⟩
              · obtain ⟨e, he, h3, h4⟩ := u2 x (by omega)
                exact ⟨e, he, by rw [← h3]; exact sp_up_n _ _ hxu, h4⟩
          · rw [if_neg hwi]
            refine ⟨?_, u2⟩
            rw [u1]
            refine sp_cnt_congr (fun f _ => decide_eq_decide.mpr ?_)
            by_cases hfi : f = i
            · rw [hfi]; omega
            · omega
      refine ⟨?_, h2.2⟩
      rw [h2.1]
      exact sp_cnt_congr (fun f hf => decide_eq_decide.mpr (by omega))
  have hm : (so_sys w m s).2 = m := by
    rw [key.1, sp_cnt_congr (q := fun _ => true) (fun f _ => decide_eq_true (by omega)), sp_cnt_true]
  refine ⟨hm, fun x hx => key.2 x (by omega)⟩
/-- both are one order -/
theorem so_same {w : Nat → Nat} {m : Nat} (hw : ∀ f, f < m → w f ≤ m) (s t : Nat → Nat) : ∀ x, x < m → (so_sys w m s).1 x = so_ref w m t x ∧ so_ref w m t x < m := by
  intro x hx
  obtain ⟨e, he, h1, h2⟩ := (so_sys_spec hw s).2 x hx
  have h3 := so_ref_spec w m t e he
  rw [h2] at h3
  rw [h1, h3]
  exact ⟨rfl, he⟩
/-! bases -/
theorem sp_it_fix2 {α : Type} {f : Nat → α → α} {st : α → Nat → Bool} (hf : ∀ i a, sp_le (st a) (st (f i a))) (hi : ∀ i a, st (f i a) = st a → f i a = a) (k : Nat) : ∀ a, sp_le (st a) (st (sp_it f k a)) ∧ (st (sp_it f k a) = st a → sp_it f k a = a) := by
  induction k with
  | zero => intro a; exact ⟨sp_le_refl _, fun _ => rfl⟩
  | succ k ih =>
    intro a
    obtain ⟨h1, h2⟩ := ih a
    have h3 : sp_le (st (sp_it f k a)) (st (sp_it f (k + 1) a)) := hf k _
    refine ⟨sp_le_trans h1 h3, fun h => ?_⟩
    rw [h] at h3
    have h4 := h2 (sp_le_eq h3 h1)
    have h5 : sp_it f (k + 1) a = f k (sp_it f k a) := rfl
    rw [h5, h4] at h
    rw [h5, h4]
    exact hi k a h
theorem sp_it_beyond {α : Type} {f : Nat → α → α} {a : α} {m k : Nat} (hmk : m ≤ k) (h : ∀ i x, m ≤ i → i < k → f i x = x) : sp_it f k a = sp_it f m a := by
  induction k with
  | zero => have : m = 0 := by omega
            subst this; rfl
  | succ k ih =>
    by_cases hm : m = k + 1
    · rw [hm]
    · show f k (sp_it f k a) = _
      rw [h k _ (by omega) (by omega)]
      exact ih (by omega) (fun i x h1 h2 => h i x h1 (by omega))
abbrev sa_T : Type := (Nat → Bool) × (Nat → Int)
def sa_s (fr to : Nat → Nat) (has : Nat → Bool) (V : Nat → Int) (e : Nat) (s : sa_T) : sa_T := if has e = true then (if s.1 (fr e) = true ∧ s.1 (to e) = false then (va_up s.1 (to e) true, va_up s.2 (to e) (s.2 (fr e) + V e)) else if s.1 (to e) = true ∧ s.1 (fr e) = false then (va_up s.1 (fr e) true, va_up s.2 (fr e) (s.2 (to e) - V e)) else s) else s
def sa_r (fr to : Nat → Nat) (has : Nat → Bool) (V : Nat → Int) (m : Nat) (s : sa_T) : sa_T := sp_it (sa_s fr to has V) m s
theorem sa_s_grow (fr to : Nat → Nat) (has : Nat → Bool) (V : Nat → Int) (e : Nat) (s : sa_T) : sp_le s.1 (sa_s fr to has V e s).1 ∧ ((sa_s fr to has V e s).1 = s.1 → sa_s fr to has V e s = s) := by
  unfold sa_s
  by_cases h0 : has e = true
  · rw [if_pos h0]
    by_cases h1 : s.1 (fr e) = true ∧ s.1 (to e) = false
    · rw [if_pos h1]
      refine ⟨sp_up_le (fun _ => rfl), fun h => ?_⟩
      have h2 := congrFun h (to e)
      rw [show (va_up s.1 (to e) true, va_up s.2 (to e) (s.2 (fr e) + V e)).1 (to e) = true from sp_up_s _ _ _, h1.2] at h2
      cases h2
    · rw [if_neg h1]
      by_cases h3 : s.1 (to e) = true ∧ s.1 (fr e) = false
      · rw [if_pos h3]
        refine ⟨sp_up_le (fun _ => rfl), fun h => ?_⟩
        have h2 := congrFun h (fr e)
        rw [show (va_up s.1 (fr e) true, va_up s.2 (fr e) (s.2 (to e) - V e)).1 (fr e) = true from sp_up_s _ _ _, h3.2] at h2
        cases h2
      · rw [if_neg h3]
        exact ⟨sp_le_refl _, fun _ => rfl⟩
  · rw [if_neg h0]
    exact ⟨sp_le_refl _, fun _ => rfl⟩
theorem sa_s_in {fr to : Nat → Nat} {has : Nat → Bool} {V : Nat → Int} {e n : Nat} (he : fr e < n ∧ to e < n) {s : sa_T} (hs : ∀ b, s.1 b = true → b < n) : ∀ b, (sa_s fr to has V e s).1 b = true → b < n := by
  unfold sa_s
  intro b hb
  by_cases h0 : has e = true
  · rw [if_pos h0] at hb
    by_cases h1 : s.1 (fr e) = true ∧ s.1 (to e) = false
    · rw [if_pos h1] at hb
      by_cases h2 : b = to e
      · rw [h2]; exact he.2
      · exact hs b (by rw [← sp_up_n s.1 true h2]; exact hb)
    · rw [if_neg h1] at hb
      by_cases h3 : s.1 (to e) = true ∧ s.1 (fr e) = false
      · rw [if_pos h3] at hb
        by_cases h2 : b = fr e
        · rw [h2]; exact he.1
        · exact hs b (by rw [← sp_up_n s.1 true h2]; exact hb)
      · rw [if_neg h3] at hb; exact hs b hb
  · rw [if_neg h0] at hb; exact hs b hb
/-- n rounds or n - 1: the same bases -/
theorem sa_same {fr to : Nat → Nat} {has : Nat → Bool} {V : Nat → Int} {m n : Nat} (hn : 2 ≤ n) (hok : ∀ e, e < m → fr e < n ∧ to e < n) {s : sa_T} (hs : ∀ b, s.1 b = true → b < n) (h0 : s.1 0 = true) : sp_it (fun _ => sa_r fr to has V m) n s = sp_it (fun _ => sa_r fr to has V m) (n - 1) s := by
  have hin : ∀ t : sa_T, (∀ b, t.1 b = true → b < n) → ∀ b, (sa_r fr to has V m t).1 b = true → b < n := fun t ht => sp_it_inv (I := fun _ (t : sa_T) => ∀ b, t.1 b = true → b < n) ht m (fun i x hi hx => sa_s_in (hok i hi) hx)
  have hg := fun t : sa_T => sp_it_fix2 (f := sa_s fr to has V) (st := fun t : sa_T => t.1) (fun i a => (sa_s_grow fr to has V i a).1) (fun i a => (sa_s_grow fr to has V i a).2) m t
  refine sp_rest_n (by omega) (sp_rest (F := sa_r fr to has V m) (st := fun t : sa_T => t.1) (n := n) (I := fun t : sa_T => ∀ b, t.1 b = true → b < n) hin (fun t b _ hb => (hg t).1 b hb) (fun t b ht hb => ht b hb) (fun t _ hb => (hg t).2 (funext hb)) hs (sp_cnt_pos (j := 0) (by omega) h0))
theorem sa_zero {fr to : Nat → Nat} {has : Nat → Bool} {V : Nat → Int} {m : Nat} (k : Nat) {s : sa_T} (h0 : s.1 0 = true) (h1 : s.1 1 = true) : (sp_it (fun _ => sa_r fr to has V m) k s).2 0 = s.2 0 ∧ (sp_it (fun _ => sa_r fr to has V m) k s).2 1 = s.2 1 := by
  have hstep : ∀ e (t : sa_T), t.1 0 = true ∧ t.1 1 = true ∧ t.2 0 = s.2 0 ∧ t.2 1 = s.2 1 → (sa_s fr to has V e t).1 0 = true ∧ (sa_s fr to has V e t).1 1 = true ∧ (sa_s fr to has V e t).2 0 = s.2 0 ∧ (sa_s fr to has V e t).2 1 = s.2 1 := by
    intro e t ht
    obtain ⟨t0, t1, t2, t3⟩ := ht
    have gen : ∀ x v, t.1 x = false → va_up t.1 x true 0 = true ∧ va_up t.1 x true 1 = true ∧ va_up t.2 x v 0 = s.2 0 ∧ va_up t.2 x v 1 = s.2 1 := by
      intro x v hx
      have hx0 : 0 ≠ x := fun hc => by rw [← hc, t0] at hx; cases hx
      have hx1 : 1 ≠ x := fun hc => by rw [← hc, t1] at hx; cases hx
      rw [sp_up_n _ _ hx0, sp_up_n _ _ hx1, sp_up_n _ _ hx0, sp_up_n _ _ hx1]
      exact ⟨t0, t1, t2, t3⟩
    unfold sa_s
    by_cases c0 : has e = true
    · rw [if_pos c0]
      by_cases c1 : t.1 (fr e) = true ∧ t.1 (to e) = false
      · rw [if_pos c1]; exact gen _ _ c1.2
      · rw [if_neg c1]
        by_cases c2 : t.1 (to e) = true ∧ t.1 (fr e) = false
        · rw [if_pos c2]; exact gen _ _ c2.2
        · rw [if_neg c2]; exact ⟨t0, t1, t2, t3⟩
    · rw [if_neg c0]; exact ⟨t0, t1, t2, t3⟩
  have key : (sp_it (fun _ => sa_r fr to has V m) k s).1 0 = true ∧ (sp_it (fun _ => sa_r fr to has V m) k s).1 1 = true ∧ (sp_it (fun _ => sa_r fr to has V m) k s).2 0 = s.2 0 ∧ (sp_it (fun _ => sa_r fr to has V m) k s).2 1 = s.2 1 := by
    refine sp_it_inv (I := fun _ (t : sa_T) => t.1 0 = true ∧ t.1 1 = true ∧ t.2 0 = s.2 0 ∧ t.2 1 = s.2 1) ⟨h0, h1, rfl, rfl⟩ k ?_
    intro _ t _ ht
    exact sp_it_inv (I := fun _ (t : sa_T) => t.1 0 = true ∧ t.1 1 = true ∧ t.2 0 = s.2 0 ∧ t.2 1 = s.2 1) ht m (fun e x _ hx => hstep e x hx)
  exact key.2.2
