/-! pure side: rows of links and values (draft of 2026-11-15) -/
/-- the rows that begin with a link from b among the first e edges -/
def sv_W (fr tg R : Nat → Nat) (b e : Nat) : Nat := sp_sum (fun x => if fr x = b then R (tg x) else 0) e
theorem sv_W_succ (fr tg R : Nat → Nat) (b e : Nat) : sv_W fr tg R b (e + 1) = sv_W fr tg R b e + (if fr e = b then R (tg e) else 0) := rfl
theorem sv_W_congr {fr tg R R' : Nat → Nat} {b e : Nat} (h : ∀ x, x < e → fr x = b → R' (tg x) = R (tg x)) : sv_W fr tg R' b e = sv_W fr tg R b e := by
  refine sp_sum_congr (fun x hx => ?_)
  by_cases hf : fr x = b
  · rw [if_pos hf, if_pos hf]; exact h x hx hf
  · rw [if_neg hf, if_neg hf]
/-- the system's numberFrom: values and rows of one block -/
def sv_from (fr tg R : Nat → Nat) (b m : Nat) (V : Nat → Nat) : (Nat → Nat) × Nat := sp_it (fun e (s : (Nat → Nat) × Nat) => if fr e = b then (va_up s.1 e s.2, s.2 + R (tg e)) else s) m (V, 0)
theorem sv_from_spec (fr tg R : Nat → Nat) (b m : Nat) (V : Nat → Nat) : (sv_from fr tg R b m V).2 = sv_W fr tg R b m ∧ ∀ e, (sv_from fr tg R b m V).1 e = if e < m ∧ fr e = b then sv_W fr tg R b e else V e := by
  refine sp_it_inv (I := fun i (s : (Nat → Nat) × Nat) => s.2 = sv_W fr tg R b i ∧ ∀ e, s.1 e = if e < i ∧ fr e = b then sv_W fr tg R b e else V e) ⟨rfl, fun e => by rw [if_neg (fun h => by omega)]⟩ m ?_
  intro i s _ hs
  obtain ⟨h1, h2⟩ := hs
  by_cases hf : fr i = b
  · rw [if_pos hf]
    refine ⟨?_, fun e => ?_⟩
    · show s.2 + R (tg i) = _
      rw [sv_W_succ, if_pos hf, h1]
    · show va_up s.1 i s.2 e = _
      by_cases he : e = i
      · rw [he, sp_up_s, if_pos ⟨by omega, hf⟩, h1]
      · rw [sp_up_n _ _ he, h2 e]
        by_cases hc : e < i ∧ fr e = b
        · rw [if_pos hc, if_pos ⟨by omega, hc.2⟩]
        · rw [if_neg hc, if_neg (fun h => hc ⟨by omega, h.2⟩)]
  · rw [if_neg hf]
    refine ⟨?_, fun e => ?_⟩
    · rw [sv_W_succ, if_neg hf, h1]; rfl
    · rw [h2 e]
      by_cases hc : e < i ∧ fr e = b
      · rw [if_pos hc, if_pos ⟨by omega, hc.2⟩]
      · rw [if_neg hc, if_neg (fun h => hc ⟨by
            by_cases he : e = i
            · rw [he] at h; exact absurd h.2 hf
            · omega, h.2⟩)]
/-- an order in which links lead to blocks that came earlier, or to EXIT -/
def sv_O (n m : Nat) (fr tg fin : Nat → Nat) : Prop := (∀ i, i < n → fin i < n) ∧ (∀ i j, i < n → j < n → fin i = fin j → i = j) ∧ (∀ b, b < n → ∃ i, i < n ∧ fin i = b) ∧ ∀ e, e < m → fr e ≠ 1 ∧ (tg e = 1 ∨ ∃ i j, i < j ∧ j < n ∧ fin i = tg e ∧ fin j = fr e)
/-- what rows and values are -/
def sv_R (n m : Nat) (fr tg R V : Nat → Nat) : Prop := R 1 = 1 ∧ (∀ b, b < n → b ≠ 1 → R b = sv_W fr tg R b m) ∧ ∀ e, e < m → V e = sv_W fr tg R (fr e) e
def sv_num (fr tg fin : Nat → Nat) (m n : Nat) (V R : Nat → Nat) : (Nat → Nat) × (Nat → Nat) := sp_it (fun i (s : (Nat → Nat) × (Nat → Nat)) => if fin i = 1 then s else ((sv_from fr tg s.2 (fin i) m s.1).1, va_up s.2 (fin i) (sv_from fr tg s.2 (fin i) m s.1).2)) n (V, va_up R 1 1)
theorem sv_num_spec {n m : Nat} {fr tg fin : Nat → Nat} (hO : sv_O n m fr tg fin) (hfr : ∀ e, e < m → fr e < n) (V0 R0 : Nat → Nat) : sv_R n m fr tg (sv_num fr tg fin m n V0 R0).2 (sv_num fr tg fin m n V0 R0).1 := by
  obtain ⟨hlt, hinj, hsur, hlk⟩ := hO
  have key : (sv_num fr tg fin m n V0 R0).2 1 = 1 ∧ ∀ j, j < n → fin j ≠ 1 → (sv_num fr tg fin m n V0 R0).2 (fin j) = sv_W fr tg (sv_num fr tg fin m n V0 R0).2 (fin j) m ∧ ∀ e, e < m → fr e = fin j → (sv_num fr tg fin m n V0 R0).1 e = sv_W fr tg (sv_num fr tg fin m n V0 R0).2 (fin j) e := by
    refine sp_it_inv (I := fun i (s : (Nat → Nat) × (Nat → Nat)) => s.2 1 = 1 ∧ ∀ j, j < i → fin j ≠ 1 → s.2 (fin j) = sv_W fr tg s.2 (fin j) m ∧ ∀ e, e < m → fr e = fin j → s.1 e = sv_W fr tg s.2 (fin j) e) ⟨sp_up_s R0 1 1, fun j hj => by omega⟩ n ?_
    intro i s hi hs
    obtain ⟨V, R⟩ := s
    obtain ⟨h1, h2⟩ := hs
    simp only at h1 h2
    by_cases hfi : fin i = 1
    · rw [if_pos hfi]
      refine ⟨h1, fun j hj hj1 => ?_⟩
      have hji : j ≠ i := fun hc => hj1 (by rw [hc]; exact hfi)
      exact h2 j (by omega) hj1
    · rw [if_neg hfi]
      obtain ⟨f1, f2⟩ := sv_from_spec fr tg R (fin i) m V
      have hW : ∀ v j e, j ≤ i → e ≤ m → sv_W fr tg (va_up R (fin i) v) (fin j) e = sv_W fr tg R (fin j) e := by
        intro v j e hj he
        refine sv_W_congr (fun x hx hfx => sp_up_n R v ?_)
        rcases (hlk x (by omega)).2 with ht | ⟨a, c, hac, hcn, hfa, hfc⟩
        · rw [ht]; exact fun hc => hfi hc.symm
        · have : c = j := hinj c j hcn (by omega) (by rw [hfc, hfx])
          intro hc
          have := hinj a i (by omega) hi (by rw [hfa, hc])
          omega
      simp only
      rw [f1]
      refine ⟨?_, fun j hj hj1 => ?_⟩
      · rw [sp_up_n R _ (fun hc => hfi hc.symm)]; exact h1
      · by_cases hji : j = i
        · subst hji
          refine ⟨?_, fun e he hfe => ?_⟩
          · rw [sp_up_s, hW _ j m (Nat.le_refl _) (Nat.le_refl _)]
          · rw [f2 e, if_pos ⟨he, hfe⟩, hW _ j e (Nat.le_refl _) (by omega)]
        · obtain ⟨g1, g2⟩ := h2 j (by omega) hj1
          have hne : fin j ≠ fin i := fun hc => hji (hinj j i (by omega) hi hc)
          refine ⟨?_, fun e he hfe => ?_⟩
          · rw [sp_up_n R _ hne, hW _ j m (by omega) (Nat.le_refl _)]; exact g1
          · rw [f2 e, if_neg (fun hc => hne (hfe.symm.trans hc.2)), hW _ j e (by omega) (by omega)]; exact g2 e he hfe
  generalize (sv_num fr tg fin m n V0 R0) = s at key ⊢
  obtain ⟨k1, k2⟩ := key
  refine ⟨k1, fun b hb hb1 => ?_, fun e he => ?_⟩
  · obtain ⟨j, hj, rfl⟩ := hsur b hb
    exact (k2 j hj hb1).1
  · obtain ⟨j, hj, hfj⟩ := hsur (fr e) (hfr e he)
    rw [← hfj]
    exact (k2 j hj (by rw [hfj]; exact (hlk e he).1)).2 e he hfj.symm
/-- rows are of one kind only: two that both hold agree -/
theorem sv_R_uniq {n m : Nat} {fr tg fin R R' : Nat → Nat} (hO : sv_O n m fr tg fin) (h1 : R 1 = R' 1) (h : ∀ b, b < n → b ≠ 1 → R b = sv_W fr tg R b m) (h' : ∀ b, b < n → b ≠ 1 → R' b = sv_W fr tg R' b m) : ∀ b, b < n → R b = R' b := by
  obtain ⟨hlt, hinj, hsur, hlk⟩ := hO
  have key : ∀ j, j < n → R (fin j) = R' (fin j) := by
    intro j
    induction j using Nat.strongRecOn with
    | _ j ih =>
      intro hj
      by_cases hf : fin j = 1
      · rw [hf]; exact h1
      · rw [h (fin j) (hlt j hj) hf, h' (fin j) (hlt j hj) hf]
        refine sv_W_congr (fun x hx hfx => ?_)
        rcases (hlk x hx).2 with ht | ⟨a, c, hac, hcn, hfa, hfc⟩
        · rw [ht]; exact h1
        · have hcj : c = j := hinj c j hcn hj (by rw [hfc, hfx])
          rw [← hfa]; exact ih a (by omega) (by omega)
  intro b hb
  obtain ⟨j, hj, rfl⟩ := hsur b hb
  exact key j hj
