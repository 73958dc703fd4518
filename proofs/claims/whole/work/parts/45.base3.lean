/-! words for trees -/
abbrev wT (cI cZ : ClassId) (tr g hs gr : Nat) (has : Nat → Bool) (grp : Nat → Nat) : va_W := [(tr, .inr (3, [.ref g, .ref hs, .ref gr])), (hs, .inl (cZ, 24, .inl (aB has))), (gr, .inl (cI, 12, .inl (aN grp)))]
def zjf (g : Nat → Nat) (kept gone i : Nat) : Nat → Nat := fun x => if x < i ∧ g x = gone then kept else g x
theorem zjf_0 (g : Nat → Nat) (kept gone : Nat) : zjf g kept gone 0 = g := by
  funext x
  exact if_neg (fun h => by omega)
theorem zjf_at (g : Nat → Nat) (kept gone i : Nat) : zjf g kept gone i i = g i := if_neg (fun h => by omega)
theorem zjf_hit {g : Nat → Nat} {kept gone i : Nat} (h : g i = gone) : zjf g kept gone (i + 1) = va_up (zjf g kept gone i) i kept := by
  funext x
  by_cases hx : x = i
  · subst hx
    rw [sp_up_s]
    exact if_pos ⟨by omega, h⟩
  · rw [sp_up_n _ _ hx]
    show (if x < i + 1 ∧ g x = gone then kept else g x) = (if x < i ∧ g x = gone then kept else g x)
    by_cases hc : x < i ∧ g x = gone
    · rw [if_pos hc, if_pos ⟨by omega, hc.2⟩]
    · rw [if_neg hc, if_neg (fun h2 => hc ⟨by omega, h2.2⟩)]
theorem zjf_miss {g : Nat → Nat} {kept gone i : Nat} (h : ¬ g i = gone) : zjf g kept gone (i + 1) = zjf g kept gone i := by
  funext x
  show (if x < i + 1 ∧ g x = gone then kept else g x) = (if x < i ∧ g x = gone then kept else g x)
  by_cases hc : x < i ∧ g x = gone
  · rw [if_pos hc, if_pos ⟨by omega, hc.2⟩]
  · rw [if_neg hc, if_neg (fun h2 => hc ⟨by
      by_cases hx : x = i
      · rw [hx] at h2; exact absurd h2.2 h
      · omega, h2.2⟩)]
def zid (g : Nat → Nat) (i : Nat) : Nat → Nat := fun x => if x < i then x else g x
theorem zid_0 (g : Nat → Nat) : zid g 0 = g := by
  funext x
  exact if_neg (by omega)
theorem zid_up (g : Nat → Nat) (i : Nat) : zid g (i + 1) = va_up (zid g i) i i := by
  funext x
  by_cases hx : x = i
  · subst hx; rw [sp_up_s]; exact if_pos (by omega)
  · rw [sp_up_n _ _ hx]
    show (if x < i + 1 then x else g x) = (if x < i then x else g x)
    by_cases hc : x < i
    · rw [if_pos hc, if_pos (by omega)]
    · rw [if_neg hc, if_neg (by omega)]
theorem zid_in {g : Nat → Nat} {n x : Nat} (h : x < n) : zid g n x = x := if_pos h
theorem sj_lab {n a b : Nat} {g : Nat → Nat} (ha : a < n) (hg : ∀ x, x < n → g x < n) : ∀ x, x < n → sj_join n g a b x < n := by
  intro x hx
  show (if x < n ∧ g x = g b then g a else g x) < n
  split
  · exact hg a ha
  · exact hg x hx
theorem st_lab {n k : Nat} {fr to ord : Nat → Nat} (hin : ∀ i, i < k → fr (ord i) < n ∧ to (ord i) < n) {g : Nat → Nat} {has : Nat → Bool} (hg : ∀ x, x < n → g x < n) : ∀ i, i ≤ k → ∀ x, x < n → (sp_it (st_g fr to ord n) i (g, has)).1 x < n := by
  intro i
  induction i with
  | zero => intro _ x hx; exact hg x hx
  | succ i ih =>
    intro hi x hx
    exact sj_lab (hin i (by omega)).1 (ih (by omega)) x hx
theorem bS_or2 (S : Nat → Bool) (a b : Nat) : bS S ||| bS (fun i => decide (i = a) || decide (i = b)) = bS (va_up (va_up S a true) b true) := by
  rw [bS_or]
  refine bS_congr (fun i _ => ?_)
  by_cases h1 : i = b
  · subst h1; rw [sp_up_s]; simp
  · rw [sp_up_n _ _ h1]
    by_cases h2 : i = a
    · subst h2; rw [sp_up_s]; simp
    · rw [sp_up_n _ _ h2]; simp [h1, h2]
theorem bS_meet {S : Nat → Bool} {a b : Nat} (ha : a < 31) (hb : b < 31) : bS S &&& bS (fun i => decide (i = a) || decide (i = b)) = 0 ↔ ¬ (S a = true ∨ S b = true) := by
  rw [bS_and, ← bS_none, bS_eq]
  constructor
  · intro h hc
    rcases hc with hc | hc
    · have := h a ha
      simp [hc] at this
    · have := h b hb
      simp [hc] at this
  · intro h i _
    cases hs : S i with
    | false => rfl
    | true =>
      have h1 : ¬ i = a := fun hc => h (Or.inl (by rw [← hc]; exact hs))
      have h2 : ¬ i = b := fun hc => h (Or.inr (by rw [← hc]; exact hs))
      simp [h1, h2]
theorem bS_01 : bS (fun i => decide (i = 0)) ||| bS (fun i => decide (i = 1)) = bS (fun b => decide (b = 0 ∨ b = 1)) := by
  rw [bS_or]
  refine bS_congr (fun i _ => ?_)
  by_cases h0 : i = 0
  · simp [h0]
  · by_cases h1 : i = 1
    · simp [h1]
    · simp [h0, h1]
