/-! pure side: loops from 0 up, counting, sums, rounds (draft of 2026-11-15) -/
def sp_it {α : Type} (f : Nat → α → α) : Nat → α → α
  | 0, a => a
  | k + 1, a => f k (sp_it f k a)
theorem sp_it_inv {α : Type} {f : Nat → α → α} {I : Nat → α → Prop} {a : α} (h0 : I 0 a) (k : Nat) (hs : ∀ i x, i < k → I i x → I (i + 1) (f i x)) : I k (sp_it f k a) := by
  induction k with
  | zero => exact h0
  | succ k ih => exact hs k _ (Nat.lt_succ_self k) (ih (fun i x hi hx => hs i x (Nat.lt_succ_of_lt hi) hx))
theorem sp_it_rel {α β : Type} {f : Nat → α → α} {g : Nat → β → β} {I : Nat → α → β → Prop} {a : α} {b : β} (h0 : I 0 a b) (k : Nat) (hs : ∀ i x y, i < k → I i x y → I (i + 1) (f i x) (g i y)) : I k (sp_it f k a) (sp_it g k b) := by
  induction k with
  | zero => exact h0
  | succ k ih => exact hs k _ _ (Nat.lt_succ_self k) (ih (fun i x y hi hx => hs i x y (Nat.lt_succ_of_lt hi) hx))
theorem sp_it_congr {α : Type} {f g : Nat → α → α} {a : α} (k : Nat) (h : ∀ i x, i < k → f i x = g i x) : sp_it f k a = sp_it g k a := by
  refine sp_it_rel (I := fun _ x y => x = y) rfl k ?_
  intro i x y hi hxy
  subst hxy
  exact h i x hi
/-- how many i below k have p -/
def sp_cnt (p : Nat → Bool) : Nat → Nat
  | 0 => 0
  | k + 1 => sp_cnt p k + (if p k = true then 1 else 0)
theorem sp_cnt_le (p : Nat → Bool) (k : Nat) : sp_cnt p k ≤ k := by
  induction k with
  | zero => exact Nat.le_refl 0
  | succ k ih =>
    show sp_cnt p k + _ ≤ k + 1
    split <;> omega
theorem sp_cnt_mono {p q : Nat → Bool} {k : Nat} (h : ∀ i, i < k → p i = true → q i = true) : sp_cnt p k ≤ sp_cnt q k := by
  induction k with
  | zero => exact Nat.le_refl 0
  | succ k ih =>
    have h1 := ih (fun i hi => h i (Nat.lt_succ_of_lt hi))
    have h2 := h k (Nat.lt_succ_self k)
    show sp_cnt p k + _ ≤ sp_cnt q k + _
    by_cases hp : p k = true
    · rw [if_pos hp, if_pos (h2 hp)]; omega
    · rw [if_neg hp]; split <;> omega
theorem sp_cnt_lt {p q : Nat → Bool} {k : Nat} (h : ∀ i, i < k → p i = true → q i = true) {j : Nat} (hj : j < k) (hq : q j = true) (hp : ¬ p j = true) : sp_cnt p k < sp_cnt q k := by
  induction k with
  | zero => omega
  | succ k ih =>
    show sp_cnt p k + _ < sp_cnt q k + _
    by_cases hjk : j = k
    · subst hjk
      have h1 := sp_cnt_mono (p := p) (q := q) (k := j) (fun i hi => h i (Nat.lt_succ_of_lt hi))
      rw [if_neg hp, if_pos hq]; omega
    · have h1 := ih (fun i hi => h i (Nat.lt_succ_of_lt hi)) (by omega)
      by_cases hpk : p k = true
      · rw [if_pos hpk, if_pos (h k (Nat.lt_succ_self k) hpk)]; omega
      · rw [if_neg hpk]; split <;> omega
theorem sp_cnt_all {p : Nat → Bool} {k : Nat} (h : k ≤ sp_cnt p k) : ∀ i, i < k → p i = true := by
  induction k with
  | zero => intro i hi; omega
  | succ k ih =>
    have h1 := sp_cnt_le p k
    have h2 : k + 1 ≤ sp_cnt p k + (if p k = true then 1 else 0) := h
    by_cases hp : p k = true
    · rw [if_pos hp] at h2
      intro i hi
      by_cases hik : i = k
      · subst hik; exact hp
      · exact ih (by omega) i (by omega)
    · rw [if_neg hp] at h2; omega
theorem sp_cnt_pos {p : Nat → Bool} {k j : Nat} (hj : j < k) (hp : p j = true) : 1 ≤ sp_cnt p k := by
  have h := sp_cnt_lt (p := fun _ => false) (q := p) (k := k) (fun i _ hf => by cases hf) hj hp (by decide)
  omega
theorem sp_cnt_congr {p q : Nat → Bool} {k : Nat} (h : ∀ i, i < k → p i = q i) : sp_cnt p k = sp_cnt q k := by
  apply Nat.le_antisymm
  · exact sp_cnt_mono (fun i hi hp => by rw [← h i hi]; exact hp)
  · exact sp_cnt_mono (fun i hi hp => by rw [h i hi]; exact hp)
/-- the sum of f below k -/
def sp_sum (f : Nat → Nat) : Nat → Nat
  | 0 => 0
  | k + 1 => sp_sum f k + f k
theorem sp_sum_congr {f g : Nat → Nat} {k : Nat} (h : ∀ i, i < k → f i = g i) : sp_sum f k = sp_sum g k := by
  induction k with
  | zero => rfl
  | succ k ih =>
    show sp_sum f k + f k = sp_sum g k + g k
    rw [ih (fun i hi => h i (Nat.lt_succ_of_lt hi)), h k (Nat.lt_succ_self k)]
theorem sp_sum_mono {f : Nat → Nat} {j k : Nat} (h : j ≤ k) : sp_sum f j ≤ sp_sum f k := by
  induction k with
  | zero => have : j = 0 := by omega
            subst this; exact Nat.le_refl _
  | succ k ih =>
    by_cases hj : j = k + 1
    · subst hj; exact Nat.le_refl _
    · have := ih (by omega)
      show sp_sum f j ≤ sp_sum f k + f k
      omega
theorem sp_sum_ge {f : Nat → Nat} {j k : Nat} (h : j < k) : sp_sum f j + f j ≤ sp_sum f k := sp_sum_mono (f := f) (j := j + 1) h
theorem sp_sum_zero {f : Nat → Nat} {k : Nat} (h : ∀ i, i < k → f i = 0) : sp_sum f k = 0 := by
  induction k with
  | zero => rfl
  | succ k ih =>
    show sp_sum f k + f k = 0
    rw [ih (fun i hi => h i (Nat.lt_succ_of_lt hi)), h k (Nat.lt_succ_self k)]
/-- rounds: a growing round over sets of blocks below n comes to rest -/
theorem sp_rounds {α : Type} {F : α → α} {st : α → Nat → Bool} {n : Nat} {I : α → Prop} (hI : ∀ a, I a → I (F a)) (hg : ∀ a b, I a → st a b = true → st (F a) b = true) (hn : ∀ a b, I a → st a b = true → b < n) (hfix : ∀ a, I a → (∀ b, st (F a) b = st a b) → F a = a) {a : α} (ha : I a) (k : Nat) : I (sp_it (fun _ => F) k a) ∧ (F (sp_it (fun _ => F) k a) = sp_it (fun _ => F) k a ∨ sp_cnt (st a) n + k ≤ sp_cnt (st (sp_it (fun _ => F) k a)) n) := by
  induction k with
  | zero => exact ⟨ha, Or.inr (Nat.le_refl _)⟩
  | succ k ih =>
    obtain ⟨i1, i2⟩ := ih
    refine ⟨hI _ i1, ?_⟩
    show F (F (sp_it (fun _ => F) k a)) = F (sp_it (fun _ => F) k a) ∨ sp_cnt (st a) n + (k + 1) ≤ sp_cnt (st (F (sp_it (fun _ => F) k a))) n
    generalize sp_it (fun _ => F) k a = x at i1 i2 ⊢
    rcases i2 with i2 | i2
    · left; rw [i2, i2]
    · by_cases hx : ∀ b, st (F x) b = st x b
      · left; rw [hfix x i1 hx, hfix x i1 hx]
      · right
        have ⟨b, hb⟩ : ∃ b, ¬ st (F x) b = st x b := Classical.byContradiction (fun hc => hx (fun b => Classical.byContradiction (fun hb => hc ⟨b, hb⟩)))
        have h1 : ¬ st x b = true := fun h => hb (by rw [h, hg x b i1 h])
        have h2 : st (F x) b = true := by
          cases h3 : st (F x) b with
          | true => rfl
          | false =>
            cases h4 : st x b with
            | true => exact absurd h4 h1
            | false => exact absurd (h3.trans h4.symm) hb
        have h5 := sp_cnt_lt (p := st x) (q := st (F x)) (k := n) (fun i _ h => hg x i i1 h) (hn _ b (hI _ i1) h2) h2 h1
        omega
/-- with one block at the start n - 1 rounds are enough: one more changes nothing -/
theorem sp_rest {α : Type} {F : α → α} {st : α → Nat → Bool} {n : Nat} {I : α → Prop} (hI : ∀ a, I a → I (F a)) (hg : ∀ a b, I a → st a b = true → st (F a) b = true) (hn : ∀ a b, I a → st a b = true → b < n) (hfix : ∀ a, I a → (∀ b, st (F a) b = st a b) → F a = a) {a : α} (ha : I a) (h1 : 1 ≤ sp_cnt (st a) n) : F (sp_it (fun _ => F) (n - 1) a) = sp_it (fun _ => F) (n - 1) a := by
  obtain ⟨i1, i2⟩ := sp_rounds hI hg hn hfix ha (n - 1)
  generalize sp_it (fun _ => F) (n - 1) a = x at i1 i2 ⊢
  rcases i2 with i2 | i2
  · exact i2
  · have h2 := sp_cnt_all (p := st x) (k := n) (by omega)
    refine hfix x i1 (fun b => ?_)
    by_cases hb : b < n
    · rw [h2 b hb, hg x b i1 (h2 b hb)]
    · have h3 : ¬ st x b = true := fun h => hb (hn x b i1 h)
      have h4 : ¬ st (F x) b = true := fun h => hb (hn _ b (hI _ i1) h)
      cases h5 : st (F x) b with
      | true => exact absurd h5 h4
      | false =>
        cases h6 : st x b with
        | true => exact absurd h6 h3
        | false => rfl
theorem sp_rest_n {α : Type} {F : α → α} {n : Nat} {a : α} (hn : 1 ≤ n) (h : F (sp_it (fun _ => F) (n - 1) a) = sp_it (fun _ => F) (n - 1) a) : sp_it (fun _ => F) n a = sp_it (fun _ => F) (n - 1) a := by
  obtain ⟨k, rfl⟩ : ∃ k, n = k + 1 := ⟨n - 1, by omega⟩
  exact h
