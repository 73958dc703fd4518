/-! pure side: no back edge leads to EXIT; the reference's search beside the system's (draft of 2026-11-15, not built yet) -/
def ss_K (m : Nat) (fr to met look st : Nat → Nat) (h : Nat) (bk : Nat → Bool) : Prop := (∀ i, i + 1 < h → st i ≠ 1) ∧ ∀ e, e < m → ss_L fr met look e → bk e = true → to e ≠ 1
theorem ss_L_pop {m : Nat} {fr met look : Nat → Nat} {b : Nat} (hb1 : met b = 1) (hall : ∀ e, e < m → fr e = b → e < look b) {e : Nat} (he : e < m) (hl : ss_L fr (va_up met b 2) look e) : ss_L fr met look e := by
  by_cases hf : fr e = b
  · right; rw [hf]; exact ⟨hb1, hall e he hf⟩
  · simpa only [ss_L, sp_up_n met 2 hf] using hl
theorem ss_L_see {fr met look : Nat → Nat} {b e0 : Nat} (hb1 : met b = 1) (hno : ∀ e, look b ≤ e → e < e0 → fr e ≠ b) {e : Nat} (hl : ss_L fr met (va_up look b (e0 + 1)) e) : ss_L fr met look e ∨ e = e0 := by
  by_cases hf : fr e = b
  · simp only [ss_L, hf, sp_up_s, hb1] at hl ⊢
    rcases hl with h1 | ⟨-, h1⟩
    · omega
    · by_cases h2 : e < look b
      · left; right; exact ⟨trivial, h2⟩
      · by_cases h3 : e = e0
        · right; exact h3
        · exact absurd hf (hno e (by omega) (by omega))
  · left
    simpa only [ss_L, sp_up_n look (e0 + 1) hf] using hl
theorem ss_L_push {fr met look : Nat → Nat} {b e0 t : Nat} (hb1 : met b = 1) (hm : met t = 0) (hno : ∀ e, look b ≤ e → e < e0 → fr e ≠ b) {e : Nat} (hl : ss_L fr (va_up met t 1) (va_up (va_up look b (e0 + 1)) t 0) e) : ss_L fr met look e ∨ e = e0 := by
  by_cases hft : fr e = t
  · simp only [ss_L, hft, sp_up_s] at hl
    rcases hl with h1 | ⟨-, h1⟩ <;> omega
  · have hl2 : ss_L fr met (va_up look b (e0 + 1)) e := by
      simpa only [ss_L, sp_up_n met 1 hft, sp_up_n (va_up look b (e0 + 1)) 0 hft] using hl
    exact ss_L_see hb1 hno hl2
/-- what a step does, case by case -/
theorem ss_cases {n m : Nat} {fr to : Nat → Nat} {met look st : Nat → Nat} {h : Nat} {bk : Nat → Bool} {fin : Nat → Nat} {k : Nat} (I : ss_I n m fr to met look st (h + 1) bk fin k) : ∃ b e, st h = b ∧ b < n ∧ met b = 1 ∧ sg_nx fr b (m - look b) (look b) = e ∧ look b ≤ e ∧ (∀ x, look b ≤ x → x < e → fr x ≠ b) ∧ ((m ≤ e ∧ (∀ x, x < m → fr x = b → x < look b)) ∨ (e < m ∧ fr e = b)) := by
  have hst := I.1 h (by omega)
  have hlm := I.2.2.2.2.2.2.1 (st h) hst.1 hst.2
  obtain ⟨x1, x2, x3, x4⟩ := sg_nx_spec fr (st h) (m - look (st h)) (look (st h))
  refine ⟨st h, _, rfl, hst.1, hst.2, rfl, x1, x3, ?_⟩
  generalize sg_nx fr (st h) (m - look (st h)) (look (st h)) = e at x1 x2 x3 x4
  by_cases hc : m ≤ e
  · left
    refine ⟨hc, fun x hx hf => ?_⟩
    by_cases hl : x < look (st h)
    · exact hl
    · exact absurd hf (x3 x (by omega) (by omega))
  · right
    exact ⟨by omega, x4 (by omega)⟩
theorem ss_K_keep {n m : Nat} {fr to : Nat → Nat} (hn : 2 ≤ n) (hfr : ∀ e, e < m → fr e ≠ 1) (s : ss_T) (hJ : ss_J n m fr to s) (hK : ss_K m fr to s.1 s.2.1 s.2.2.1 s.2.2.2.1 s.2.2.2.2.1) : ss_K m fr to (ss_step fr to m s).1 (ss_step fr to m s).2.1 (ss_step fr to m s).2.2.1 (ss_step fr to m s).2.2.2.1 (ss_step fr to m s).2.2.2.2.1 := by
  obtain ⟨met, look, st, h, bk, fin, k⟩ := s
  have I : ss_I n m fr to met look st h bk fin k := hJ
  have hK : ss_K m fr to met look st h bk := hK
  cases h with
  | zero => rw [ss_step_0]; exact hK
  | succ h =>
    obtain ⟨b, e0, hb, hbn, hb1, he, hlo, hno, hcase⟩ := ss_cases I
    rw [ss_step_eq fr to m met look st h bk fin k b e0 hb he]
    obtain ⟨k1, k2⟩ := hK
    rcases hcase with ⟨hc, hall⟩ | ⟨hc, hf0⟩
    · rw [if_pos hc]
      exact ⟨fun i hi => k1 i (by have : i + 1 < h := hi; omega), fun e he2 hl hbk => k2 e he2 (ss_L_pop hb1 hall he2 hl) hbk⟩
    · rw [if_neg (by omega)]
      have hb01 : b ≠ 1 := by rw [← hf0]; exact hfr e0 hc
      by_cases hm : met (to e0) = 0
      · rw [if_pos hm]
        refine ⟨fun i hi => ?_, fun e he2 hl hbk => ?_⟩
        · have hi : i + 1 < h + 2 := hi
          show va_up st (h + 1) (to e0) i ≠ 1
          rw [sp_up_n st _ (by omega)]
          by_cases hih : i = h
          · rw [hih, hb]; exact hb01
          · exact k1 i (by omega)
        · have hbk : va_up bk e0 false e = true := hbk
          rcases ss_L_push hb1 hm hno hl with h1 | h1
          · by_cases h2 : e = e0
            · rw [h2, sp_up_s] at hbk; cases hbk
            · rw [sp_up_n bk _ h2] at hbk; exact k2 e he2 h1 hbk
          · rw [h1, sp_up_s] at hbk; cases hbk
      · rw [if_neg hm]
        refine ⟨k1, fun e he2 hl hbk => ?_⟩
        have hbk : va_up bk e0 (decide (met (to e0) = 1)) e = true := hbk
        by_cases h2 : e = e0
        · rw [h2, sp_up_s] at hbk
          have h3 := of_decide_eq_true hbk
          rw [h2]
          intro h4
          rw [h4] at h3
          obtain ⟨i, hi, hs⟩ := I.2.2.1 1 (by omega) h3
          by_cases hih : i = h
          · rw [hih, hb] at hs; exact hb01 hs
          · exact k1 i (by omega) hs
        · rw [sp_up_n bk _ h2] at hbk
          rcases ss_L_see hb1 hno hl with h1 | h1
          · exact k2 e he2 h1 hbk
          · exact absurd h1 h2
theorem ss_run_K {n m : Nat} {fr to : Nat → Nat} (hn : 2 ≤ n) (hfr : ∀ e, e < m → fr e ≠ 1) (ht : ∀ e, e < m → fr e < n ∧ to e < n) {s : ss_T} (hJ : ss_J n m fr to s) (hK : ss_K m fr to s.1 s.2.1 s.2.2.1 s.2.2.2.1 s.2.2.2.2.1) (i : Nat) : ss_K m fr to (ss_run fr to m i s).1 (ss_run fr to m i s).2.1 (ss_run fr to m i s).2.2.1 (ss_run fr to m i s).2.2.2.1 (ss_run fr to m i s).2.2.2.2.1 := by
  induction i with
  | zero => exact hK
  | succ i ih => exact ss_K_keep hn hfr _ (ss_run_J ht hJ i).1 ih
/-- the reference's search: met, next edges, path, its height, back -/
abbrev sq_T : Type := (Nat → Nat) × (Nat → Nat) × (Nat → Nat) × Nat × (Nat → Bool)
def sq_step (fr to : Nat → Nat) (m : Nat) : sq_T → sq_T := fun r => match r with
  | (met, nx, st, h, bk) =>
    if h = 0 then (met, nx, st, h, bk)
    else if m ≤ sg_nx fr (st (h - 1)) (m - nx (st (h - 1))) (nx (st (h - 1))) then (va_up met (st (h - 1)) 2, va_up nx (st (h - 1)) (sg_nx fr (st (h - 1)) (m - nx (st (h - 1))) (nx (st (h - 1))) + 1), st, h - 1, bk)
    else if met (to (sg_nx fr (st (h - 1)) (m - nx (st (h - 1))) (nx (st (h - 1))))) = 0 then
      (va_up met (to (sg_nx fr (st (h - 1)) (m - nx (st (h - 1))) (nx (st (h - 1))))) 1, va_up nx (st (h - 1)) (sg_nx fr (st (h - 1)) (m - nx (st (h - 1))) (nx (st (h - 1))) + 1), va_up st h (to (sg_nx fr (st (h - 1)) (m - nx (st (h - 1))) (nx (st (h - 1))))), h + 1, va_up bk (sg_nx fr (st (h - 1)) (m - nx (st (h - 1))) (nx (st (h - 1)))) false)
    else (met, va_up nx (st (h - 1)) (sg_nx fr (st (h - 1)) (m - nx (st (h - 1))) (nx (st (h - 1))) + 1), st, h, va_up bk (sg_nx fr (st (h - 1)) (m - nx (st (h - 1))) (nx (st (h - 1)))) (decide (met (to (sg_nx fr (st (h - 1)) (m - nx (st (h - 1))) (nx (st (h - 1))))) = 1)))
theorem sq_step_eq (fr to : Nat → Nat) (m : Nat) (met nx st : Nat → Nat) (h : Nat) (bk : Nat → Bool) (b e : Nat) (hb : st h = b) (he : sg_nx fr b (m - nx b) (nx b) = e) : sq_step fr to m (met, nx, st, h + 1, bk) = if m ≤ e then (va_up met b 2, va_up nx b (e + 1), st, h, bk) else if met (to e) = 0 then (va_up met (to e) 1, va_up nx b (e + 1), va_up st (h + 1) (to e), h + 2, va_up bk e false) else (met, va_up nx b (e + 1), st, h + 1, va_up bk e (decide (met (to e) = 1))) := by
  subst hb
  subst he
  rfl
theorem sq_step_0 (fr to : Nat → Nat) (m : Nat) (met nx st : Nat → Nat) (bk : Nat → Bool) : sq_step fr to m (met, nx, st, 0, bk) = (met, nx, st, 0, bk) := by
  rfl
def sq_R (n m : Nat) (fr : Nat → Nat) (s : ss_T) (r : sq_T) : Prop := (∀ b, b < n → r.1 b = s.1 b) ∧ r.2.2.2.1 = s.2.2.2.1 ∧ (∀ i, i < s.2.2.2.1 → r.2.2.1 i = s.2.2.1 i) ∧ (∀ b, b < n → s.1 b = 1 → r.2.1 b = s.2.1 b) ∧ (∀ b, b < n → s.1 b = 0 → r.2.1 b = 0) ∧ ∀ e, e < m → ss_L fr s.1 s.2.1 e → r.2.2.2.2 e = s.2.2.2.2.1 e
theorem sq_keep {n m : Nat} {fr to : Nat → Nat} (ht : ∀ e, e < m → fr e < n ∧ to e < n) (s : ss_T) (r : sq_T) (hJ : ss_J n m fr to s) (hR : sq_R n m fr s r) : sq_R n m fr (ss_step fr to m s) (sq_step fr to m r) := by
  obtain ⟨met, look, st, h, bk, fin, k⟩ := s
  obtain ⟨met', nx, st', h', bk'⟩ := r
  have I : ss_I n m fr to met look st h bk fin k := hJ
  obtain ⟨r1, r2, r3, r4, r5, r6⟩ := hR
  have r1 : ∀ b, b < n → met' b = met b := r1
  have r2 : h' = h := r2
  have r3 : ∀ i, i < h → st' i = st i := r3
  have r4 : ∀ b, b < n → met b = 1 → nx b = look b := r4
  have r5 : ∀ b, b < n → met b = 0 → nx b = 0 := r5
  have r6 : ∀ e, e < m → ss_L fr met look e → bk' e = bk e := r6
  subst r2
  cases h' with
  | zero => rw [ss_step_0, sq_step_0]; exact ⟨r1, rfl, r3, r4, r5, r6⟩
  | succ h =>
    obtain ⟨b, e0, hb, hbn, hb1, he, hlo, hno, hcase⟩ := ss_cases I
    have hnx : nx b = look b := r4 b hbn hb1
    rw [ss_step_eq fr to m met look st h bk fin k b e0 hb he, sq_step_eq fr to m met' nx st' h bk' b e0 (by rw [r3 h (by omega)]; exact hb) (by rw [hnx]; exact he)]
    rcases hcase with ⟨hc, hall⟩ | ⟨hc, hf0⟩
    · rw [if_pos hc, if_pos hc]
      refine ⟨fun x hx => ?_, rfl, fun i hi => r3 i (by have : i < h := hi; omega), fun x hx h1 => ?_, fun x hx h1 => ?_, fun e he2 hl => r6 e he2 (ss_L_pop hb1 hall he2 hl)⟩
      · show va_up met' b 2 x = va_up met b 2 x
        by_cases hxb : x = b
        · rw [hxb, sp_up_s, sp_up_s]
        · rw [sp_up_n _ _ hxb, sp_up_n _ _ hxb]; exact r1 x hx
      · have h1 : va_up met b 2 x = 1 := h1
        show va_up nx b (e0 + 1) x = look x
        by_cases hxb : x = b
        · rw [hxb, sp_up_s] at h1; omega
        · rw [sp_up_n _ _ hxb] at h1; rw [sp_up_n _ _ hxb]; exact r4 x hx h1
      · have h1 : va_up met b 2 x = 0 := h1
        show va_up nx b (e0 + 1) x = 0
        by_cases hxb : x = b
        · rw [hxb, sp_up_s] at h1; omega
        · rw [sp_up_n _ _ hxb] at h1; rw [sp_up_n _ _ hxb]; exact r5 x hx h1
    · rw [if_neg (show ¬ m ≤ e0 by omega), if_neg (show ¬ m ≤ e0 by omega)]
      have htn := (ht e0 hc).2
      have hm0 : met' (to e0) = met (to e0) := r1 (to e0) htn
      rw [hm0]
      have hbk0 : ∀ (v : Bool) e, e < m → (ss_L fr met look e ∨ e = e0) → va_up bk' e0 v e = va_up bk e0 v e := by
        intro v e he2 hl
        by_cases h2 : e = e0
        · rw [h2, sp_up_s, sp_up_s]
        · rw [sp_up_n _ _ h2, sp_up_n _ _ h2]
          rcases hl with hl | hl
          · exact r6 e he2 hl
          · exact absurd hl h2
      by_cases hm : met (to e0) = 0
      · rw [if_pos hm, if_pos hm]
        have htb : to e0 ≠ b := fun hc2 => by rw [hc2] at hm; omega
        refine ⟨fun x hx => ?_, rfl, fun i hi => ?_, fun x hx h1 => ?_, fun x hx h1 => ?_, fun e he2 hl => hbk0 false e he2 (ss_L_push hb1 hm hno hl)⟩
        · show va_up met' (to e0) 1 x = va_up met (to e0) 1 x
          by_cases hxb : x = to e0
          · rw [hxb, sp_up_s, sp_up_s]
          · rw [sp_up_n _ _ hxb, sp_up_n _ _ hxb]; exact r1 x hx
        · have hi : i < h + 2 := hi
          show va_up st' (h + 1) (to e0) i = va_up st (h + 1) (to e0) i
          by_cases hih : i = h + 1
          · rw [hih, sp_up_s, sp_up_s]
          · rw [sp_up_n _ _ hih, sp_up_n _ _ hih]; exact r3 i (by omega)
        · have h1 : va_up met (to e0) 1 x = 1 := h1
          show va_up nx b (e0 + 1) x = va_up (va_up look b (e0 + 1)) (to e0) 0 x
          by_cases hxt : x = to e0
          · rw [hxt, sp_up_s, sp_up_n _ _ htb]; exact r5 _ htn hm
          · rw [sp_up_n _ _ hxt] at h1
            rw [sp_up_n _ 0 hxt]
            by_cases hxb : x = b
            · rw [hxb, sp_up_s, sp_up_s]
            · rw [sp_up_n _ _ hxb, sp_up_n _ _ hxb]; exact r4 x hx h1
        · have h1 : va_up met (to e0) 1 x = 0 := h1
          show va_up nx b (e0 + 1) x = 0
          by_cases hxt : x = to e0
          · rw [hxt, sp_up_s] at h1; omega
          · rw [sp_up_n _ _ hxt] at h1
            by_cases hxb : x = b
            · rw [hxb] at h1; omega
            · rw [sp_up_n _ _ hxb]; exact r5 x hx h1
      · rw [if_neg hm, if_neg hm]
        refine ⟨r1, rfl, r3, fun x hx h1 => ?_, fun x hx h1 => ?_, fun e he2 hl => hbk0 _ e he2 (ss_L_see hb1 hno hl)⟩
        · have h1 : met x = 1 := h1
          show va_up nx b (e0 + 1) x = va_up look b (e0 + 1) x
          by_cases hxb : x = b
          · rw [hxb, sp_up_s, sp_up_s]
          · rw [sp_up_n _ _ hxb, sp_up_n _ _ hxb]; exact r4 x hx h1
        · have h1 : met x = 0 := h1
          show va_up nx b (e0 + 1) x = 0
          by_cases hxb : x = b
          · rw [hxb] at h1; omega
          · rw [sp_up_n _ _ hxb]; exact r5 x hx h1
