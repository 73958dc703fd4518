/-! pure side: the search runs to its end (draft of 2026-11-15, not built yet) -/
theorem sp_cnt_none {p : Nat → Bool} {k : Nat} (h : ∀ i, i < k → p i = false) : sp_cnt p k = 0 := by
  induction k with
  | zero => rfl
  | succ k ih =>
    show sp_cnt p k + _ = 0
    rw [ih (fun i hi => h i (by omega)), h k (by omega)]; rfl
theorem ss_step_eq (fr to : Nat → Nat) (m : Nat) (met look st : Nat → Nat) (h : Nat) (bk : Nat → Bool) (fin : Nat → Nat) (k b e : Nat) (hb : st h = b) (he : sg_nx fr b (m - look b) (look b) = e) : ss_step fr to m (met, look, st, h + 1, bk, fin, k) = if m ≤ e then (va_up met b 2, look, st, h, bk, va_up fin k b, k + 1) else if met (to e) = 0 then (va_up met (to e) 1, va_up (va_up look b (e + 1)) (to e) 0, va_up st (h + 1) (to e), h + 2, va_up bk e false, fin, k) else (met, va_up look b (e + 1), st, h + 1, va_up bk e (decide (met (to e) = 1)), fin, k) := by
  subst hb
  subst he
  rfl
theorem ss_step_0 (fr to : Nat → Nat) (m : Nat) (met look st : Nat → Nat) (bk : Nat → Bool) (fin : Nat → Nat) (k : Nat) : ss_step fr to m (met, look, st, 0, bk, fin, k) = (met, look, st, 0, bk, fin, k) := by
  rfl
def ss_J (n m : Nat) (fr to : Nat → Nat) (s : ss_T) : Prop := ss_I n m fr to s.1 s.2.1 s.2.2.1 s.2.2.2.1 s.2.2.2.2.1 s.2.2.2.2.2.1 s.2.2.2.2.2.2
def ss_mu (n m : Nat) (fr met look : Nat → Nat) : Nat := sp_cnt (fun b => decide (met b ≠ 2)) n + sp_cnt (fun e => decide (met (fr e) ≠ 2 ∧ ¬ (met (fr e) = 1 ∧ e < look (fr e)))) m
theorem ss_start {n m : Nat} {fr to look st fin : Nat → Nat} {bk : Nat → Bool} (hn : 2 ≤ n) (h0 : look 0 = 0) (hs : st 0 = 0) : ss_I n m fr to (va_up (fun _ => 0) 0 1) look st 1 bk fin 0 := by
  have hv : ∀ b, va_up (fun _ => 0) 0 1 b ≠ 0 → b = 0 := by
    intro b hb
    by_cases h : b = 0
    · exact h
    · rw [sp_up_n _ _ h] at hb; exact absurd rfl hb
  have hL : ∀ e, ¬ ss_L fr (va_up (fun _ => 0) 0 1) look e := by
    intro e hl
    rcases hl with h1 | ⟨h1, h2⟩
    · have h3 := hv (fr e) (by omega)
      rw [h3, sp_up_s] at h1; omega
    · have h3 := hv (fr e) (by omega)
      rw [h3, h0] at h2; omega
  refine ⟨?_, ?_, ?_, ?_, ?_, ?_, ?_, ?_, ?_, ?_, ?_, ?_, ?_⟩
  · intro i hi
    have : i = 0 := by omega
    subst this
    rw [hs, sp_up_s]; exact ⟨by omega, rfl⟩
  · intro i j hi hj _; omega
  · intro b _ h1
    exact ⟨0, by omega, by rw [hs, hv b (by omega)]⟩
  · intro i hi; omega
  · intro i j hi; omega
  · intro b _ h1
    have h3 := hv b (by omega)
    rw [h3, sp_up_s] at h1; omega
  · intro b _ h1
    rw [hv b (by omega), h0]; omega
  · intro b _
    by_cases h : b = 0
    · rw [h, sp_up_s]; omega
    · rw [sp_up_n _ _ h]; omega
  · intro e _ hl; exact absurd hl (hL e)
  · intro e _ hl; exact absurd hl (hL e)
  · intro b _ h1 S _
    rw [hv b h1]
  · have h1 := sp_cnt_up (p := fun _ => false) (q := fun b => decide (va_up (fun _ => 0) 0 1 b = 1)) (k := n) (j := 0) (by omega) rfl (by simp [va_up]) (fun i _ hi => by simp [va_up, hi])
    have h2 := sp_cnt_none (p := fun _ => false) (k := n) (fun _ _ => rfl)
    omega
  · have h2 := sp_cnt_none (p := fun b => decide (va_up (fun _ => 0) 0 1 b = 2)) (k := n) (fun b _ => by
      by_cases h : b = 0
      · simp [va_up, h]
      · simp [va_up, h])
    omega
/-- a step keeps what holds, and goes down -/
theorem ss_keep {n m : Nat} {fr to : Nat → Nat} (ht : ∀ e, e < m → fr e < n ∧ to e < n) (s : ss_T) (hJ : ss_J n m fr to s) : ss_J n m fr to (ss_step fr to m s) ∧ (s.2.2.2.1 ≠ 0 → ss_mu n m fr (ss_step fr to m s).1 (ss_step fr to m s).2.1 + 1 ≤ ss_mu n m fr s.1 s.2.1) := by
  obtain ⟨met, look, st, h, bk, fin, k⟩ := s
  have I : ss_I n m fr to met look st h bk fin k := hJ
  cases h with
  | zero =>
    rw [ss_step_0]
    exact ⟨hJ, fun hc => absurd rfl hc⟩
  | succ h =>
    obtain ⟨b, hb⟩ : ∃ b, st h = b := ⟨_, rfl⟩
    obtain ⟨e0, he⟩ : ∃ e, sg_nx fr b (m - look b) (look b) = e := ⟨_, rfl⟩
    rw [ss_step_eq fr to m met look st h bk fin k b e0 hb he]
    have hst := I.1 h (by omega)
    rw [hb] at hst
    obtain ⟨hbn, hb1⟩ := hst
    have hlm := I.2.2.2.2.2.2.1 b hbn hb1
    obtain ⟨x1, x2, x3, x4⟩ := sg_nx_spec fr b (m - look b) (look b)
    rw [he] at x1 x2 x3 x4
    by_cases hc : m ≤ e0
    · rw [if_pos hc]
      have hall : ∀ e, e < m → fr e = b → e < look b := by
        intro e hem hf
        by_cases hl : e < look b
        · exact hl
        · exact absurd hf (x3 e (by omega) (by omega))
      refine ⟨ss_pop ht I hb hall, fun _ => ?_⟩
      show ss_mu n m fr (va_up met b 2) look + 1 ≤ ss_mu n m fr met look
      have h1 := sp_cnt_up (p := fun x => decide (va_up met b 2 x ≠ 2)) (q := fun x => decide (met x ≠ 2)) (k := n) (j := b) hbn (by simp [va_up]) (by simp [hb1]) (fun i _ hi => by simp [va_up, hi])
      have h2 := sp_cnt_mono (p := fun e => decide (va_up met b 2 (fr e) ≠ 2 ∧ ¬ (va_up met b 2 (fr e) = 1 ∧ e < look (fr e)))) (q := fun e => decide (met (fr e) ≠ 2 ∧ ¬ (met (fr e) = 1 ∧ e < look (fr e)))) (k := m) (fun e _ hp => by
        by_cases hf : fr e = b
        · have hp := of_decide_eq_true hp
          rw [hf, sp_up_s] at hp
          exact absurd rfl hp.1
        · rw [sp_up_n met 2 hf] at hp; exact hp)
      unfold ss_mu
      omega
    · rw [if_neg hc]
      have hf0 : fr e0 = b := x4 (by omega)
      have hno : ∀ e, look b ≤ e → e < e0 → fr e ≠ b := fun e h1 h2 => x3 e h1 h2
      by_cases hm : met (to e0) = 0
      · rw [if_pos hm]
        refine ⟨ss_push I hb (by omega) hf0 x1 hno hm ht, fun _ => ?_⟩
        show ss_mu n m fr (va_up met (to e0) 1) (va_up (va_up look b (e0 + 1)) (to e0) 0) + 1 ≤ ss_mu n m fr met look
        have htb : b ≠ to e0 := fun hc2 => by rw [← hc2] at hm; omega
        have h1 : sp_cnt (fun x => decide (va_up met (to e0) 1 x ≠ 2)) n = sp_cnt (fun x => decide (met x ≠ 2)) n := sp_cnt_congr (fun i _ => by
          by_cases hi : i = to e0
          · simp [va_up, hi, hm]
          · simp [va_up, hi])
        have h2 := sp_cnt_lt (p := fun e => decide (va_up met (to e0) 1 (fr e) ≠ 2 ∧ ¬ (va_up met (to e0) 1 (fr e) = 1 ∧ e < va_up (va_up look b (e0 + 1)) (to e0) 0 (fr e)))) (q := fun e => decide (met (fr e) ≠ 2 ∧ ¬ (met (fr e) = 1 ∧ e < look (fr e)))) (k := m) (j := e0) (fun e _ hp => by
            have hp := of_decide_eq_true hp
            apply decide_eq_true
            by_cases hft : fr e = to e0
            · rw [hft, hm]; exact ⟨by decide, fun hx => by omega⟩
            · rw [sp_up_n met 1 hft, sp_up_n _ 0 hft] at hp
              by_cases hf : fr e = b
              · rw [hf, hb1, sp_up_s] at hp
                rw [hf, hb1]
                refine ⟨by decide, fun hx => hp.2 ⟨rfl, by omega⟩⟩
              · rw [sp_up_n look _ hf] at hp; exact hp) (by omega) (decide_eq_true (by rw [hf0, hb1]; exact ⟨by decide, fun hx => by omega⟩)) (fun hx => by
            have hx := of_decide_eq_true hx
            rw [hf0, sp_up_n met 1 htb, sp_up_n _ 0 htb, sp_up_s, hb1] at hx
            exact hx.2 ⟨rfl, by omega⟩)
        unfold ss_mu
        omega
      · rw [if_neg hm]
        refine ⟨ss_see I hb (by omega) hf0 x1 hno hm ht, fun _ => ?_⟩
        show ss_mu n m fr met (va_up look b (e0 + 1)) + 1 ≤ ss_mu n m fr met look
        have h2 := sp_cnt_lt (p := fun e => decide (met (fr e) ≠ 2 ∧ ¬ (met (fr e) = 1 ∧ e < va_up look b (e0 + 1) (fr e)))) (q := fun e => decide (met (fr e) ≠ 2 ∧ ¬ (met (fr e) = 1 ∧ e < look (fr e)))) (k := m) (j := e0) (fun e _ hp => by
            have hp := of_decide_eq_true hp
            apply decide_eq_true
            by_cases hf : fr e = b
            · rw [hf, hb1, sp_up_s] at hp
              rw [hf, hb1]
              refine ⟨by decide, fun hx => hp.2 ⟨rfl, by omega⟩⟩
            · rw [sp_up_n look _ hf] at hp; exact hp) (by omega) (decide_eq_true (by rw [hf0, hb1]; exact ⟨by decide, fun hx => by omega⟩)) (fun hx => by
            have hx := of_decide_eq_true hx
            rw [hf0, sp_up_s, hb1] at hx
            exact hx.2 ⟨rfl, by omega⟩)
        unfold ss_mu
        omega
theorem ss_top {n m : Nat} {fr to : Nat → Nat} (s : ss_T) (hJ : ss_J n m fr to s) (hh : s.2.2.2.1 ≠ 0) : 1 ≤ ss_mu n m fr s.1 s.2.1 := by
  obtain ⟨met, look, st, h, bk, fin, k⟩ := s
  have I : ss_I n m fr to met look st h bk fin k := hJ
  have h0 : h ≠ 0 := hh
  obtain ⟨h1, h2⟩ := I.1 0 (by omega)
  have h3 := sp_cnt_pos (p := fun b => decide (met b ≠ 2)) (k := n) (j := st 0) h1 (by simp [h2])
  show 1 ≤ ss_mu n m fr met look
  unfold ss_mu
  omega
abbrev ss_run (fr to : Nat → Nat) (m i : Nat) (s : ss_T) : ss_T := sp_it (fun _ => ss_step fr to m) i s
theorem ss_run_J {n m : Nat} {fr to : Nat → Nat} (ht : ∀ e, e < m → fr e < n ∧ to e < n) {s : ss_T} (hJ : ss_J n m fr to s) (i : Nat) : ss_J n m fr to (ss_run fr to m i s) ∧ ((ss_run fr to m i s).2.2.2.1 = 0 ∨ ss_mu n m fr (ss_run fr to m i s).1 (ss_run fr to m i s).2.1 + i ≤ ss_mu n m fr s.1 s.2.1) := by
  induction i with
  | zero => exact ⟨hJ, Or.inr (Nat.le_refl _)⟩
  | succ i ih =>
    obtain ⟨i1, i2⟩ := ih
    have e1 : ss_run fr to m (i + 1) s = ss_step fr to m (ss_run fr to m i s) := rfl
    rw [e1]
    generalize ss_run fr to m i s = x at i1 i2 ⊢
    obtain ⟨k1, k2⟩ := ss_keep ht x i1
    refine ⟨k1, ?_⟩
    by_cases hx : x.2.2.2.1 = 0
    · left
      obtain ⟨met, look, st, h, bk, fin, k⟩ := x
      have hx : h = 0 := hx
      subst hx
      rw [ss_step_0]
    · right
      have := k2 hx
      rcases i2 with i2 | i2
      · exact absurd i2 hx
      · omega
theorem ss_stay {fr to : Nat → Nat} {m : Nat} {s : ss_T} (hh : s.2.2.2.1 = 0) (i : Nat) : ss_run fr to m i s = s := by
  induction i with
  | zero => rfl
  | succ i ih =>
    have e1 : ss_run fr to m (i + 1) s = ss_step fr to m (ss_run fr to m i s) := rfl
    rw [e1, ih]
    obtain ⟨met, look, st, h, bk, fin, k⟩ := s
    have hx : h = 0 := hh
    subst hx
    exact ss_step_0 fr to m met look st bk fin k
theorem ss_run_add (fr to : Nat → Nat) (m i j : Nat) (s : ss_T) : ss_run fr to m (i + j) s = ss_run fr to m j (ss_run fr to m i s) := by
  induction j with
  | zero => rfl
  | succ j ih =>
    have e1 : ss_run fr to m (i + (j + 1)) s = ss_step fr to m (ss_run fr to m (i + j) s) := rfl
    rw [e1, ih]
    rfl
/-- the search has ended after n + m steps -/
theorem ss_over {n m : Nat} {fr to : Nat → Nat} (ht : ∀ e, e < m → fr e < n ∧ to e < n) {s : ss_T} (hJ : ss_J n m fr to s) : (ss_run fr to m (n + m) s).2.2.2.1 = 0 := by
  obtain ⟨i1, i2⟩ := ss_run_J ht hJ (n + m)
  have hle : ss_mu n m fr s.1 s.2.1 ≤ n + m := by
    have h1 := sp_cnt_le (fun b => decide (s.1 b ≠ 2)) n
    have h2 := sp_cnt_le (fun e => decide (s.1 (fr e) ≠ 2 ∧ ¬ (s.1 (fr e) = 1 ∧ e < s.2.1 (fr e)))) m
    unfold ss_mu
    omega
  generalize ss_run fr to m (n + m) s = x at i1 i2 ⊢
  by_cases hx : x.2.2.2.1 = 0
  · exact hx
  · have := ss_top x i1 hx
    rcases i2 with i2 | i2
    · exact i2
    · omega
/-- wherever the stack is found empty: that is the end -/
theorem ss_same {n m : Nat} {fr to : Nat → Nat} (ht : ∀ e, e < m → fr e < n ∧ to e < n) {s : ss_T} (hJ : ss_J n m fr to s) {i : Nat} (h : (ss_run fr to m i s).2.2.2.1 = 0) : ss_run fr to m i s = ss_run fr to m (n + m) s := by
  by_cases hi : i ≤ n + m
  · obtain ⟨j, hj⟩ : ∃ j, n + m = i + j := ⟨n + m - i, by omega⟩
    rw [hj, ss_run_add, ss_stay h]
  · obtain ⟨j, hj⟩ : ∃ j, i = n + m + j := ⟨i - (n + m), by omega⟩
    rw [hj, ss_run_add, ss_stay (ss_over ht hJ)]
/-- what holds at the end, if every block was met -/
theorem ss_good {n m : Nat} {fr to met look st fin : Nat → Nat} {bk : Nat → Bool} {k : Nat} (hfr : ∀ e, e < m → fr e < n ∧ to e < n ∧ fr e ≠ 1 ∧ to e ≠ 0) (I : ss_I n m fr to met look st 0 bk fin k) (hall : ∀ b, b < n → met b ≠ 0) : k = n ∧ (∀ b, b < n → met b = 2) ∧ sv_O n m fr (fun e => if bk e = true then 1 else to e) fin ∧ ∀ b, b < n → ∀ S : Nat → Bool, (∀ e, e < m → bk e = false → S (fr e) = S (to e)) → S b = S 0 := by
  obtain ⟨iA, iB, iC, iD, iE, iF, iG, iH, iJ, iK, iM, iN, iO⟩ := I
  have h2 : ∀ b, b < n → met b = 2 := by
    intro b hb
    have h3 := iH b hb
    have h4 := hall b hb
    by_cases h5 : met b = 1
    · obtain ⟨i, hi, _⟩ := iC b hb h5
      omega
    · omega
  have hk : k = n := by
    have h3 := sp_cnt_congr (p := fun b => decide (met b = 2)) (q := fun _ => true) (k := n) (fun b hb => by simp [h2 b hb])
    have h4 : ∀ k, sp_cnt (fun _ => true) k = k := by
      intro k
      induction k with
      | zero => rfl
      | succ k ih => show sp_cnt (fun _ => true) k + 1 = k + 1; rw [ih]
    rw [iO, h3, h4]
  have hL : ∀ e, e < m → ss_L fr met look e := fun e he => Or.inl (h2 _ (hfr e he).1)
  subst hk
  refine ⟨rfl, h2, ⟨fun i hi => (iD i hi).1, iE, fun b hb => iF b hb (h2 b hb), fun e he => ⟨(hfr e he).2.2.1, ?_⟩⟩, fun b hb S hS => iM b hb (hall b hb) S (fun e he _ hbk => hS e he hbk)⟩
  by_cases hbk : bk e = true
  · left; exact if_pos hbk
  · right
    have hbf : bk e = false := by
      cases h : bk e with
      | true => exact absurd h hbk
      | false => rfl
    have e9 : (fun e => if bk e = true then 1 else to e) e = to e := if_neg hbk
    rw [e9]
    rcases iK e he (hL e he) hbf with ⟨h3, h4⟩ | ⟨i, j, _, hj, _⟩
    · obtain ⟨j, hj, hfj⟩ := iF (fr e) (hfr e he).1 (h2 _ (hfr e he).1)
      obtain ⟨i, hij, hfi⟩ := h4 j hj hfj
      exact ⟨i, j, hij, hj, hfi, hfj⟩
    · omega
