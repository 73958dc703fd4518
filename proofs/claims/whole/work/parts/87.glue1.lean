/-! glue: search and connectivity -/
theorem sr_s_congr {fr to : Nat → Nat} {bar : Option Nat} {e n : Nat} {S T : Nat → Bool} (he : fr e < n ∧ to e < n) (h : ∀ b, b < n → S b = T b) : ∀ b, b < n → sr_s fr to bar e S b = sr_s fr to bar e T b := by
  intro b hb
  have h2 := h _ he.2
  unfold sr_s
  by_cases hc : T (to e) = true ∧ some (fr e) ≠ bar
  · rw [if_pos hc, if_pos (show S (to e) = true ∧ some (fr e) ≠ bar from ⟨h2.trans hc.1, hc.2⟩)]
    by_cases hx : b = fr e
    · rw [hx, sp_up_s, sp_up_s]
    · rw [sp_up_n _ _ hx, sp_up_n _ _ hx]; exact h b hb
  · rw [if_neg hc, if_neg (show ¬ (S (to e) = true ∧ some (fr e) ≠ bar) from fun hh => hc ⟨h2.symm.trans hh.1, hh.2⟩)]
    exact h b hb
theorem sr_congr {fr to : Nat → Nat} {bar : Option Nat} {m n : Nat} {S T : Nat → Bool} (hok : ∀ e, e < m → fr e < n ∧ to e < n) (h : ∀ b, b < n → S b = T b) (k : Nat) : ∀ b, b < n → sp_it (fun _ => sr_r fr to bar m) k S b = sp_it (fun _ => sr_r fr to bar m) k T b :=
  sp_it_rel (f := fun _ => sr_r fr to bar m) (g := fun _ => sr_r fr to bar m) (I := fun _ (x y : Nat → Bool) => ∀ b, b < n → x b = y b) h k (fun _ x y _ hxy => sp_it_rel (f := sr_s fr to bar) (g := sr_s fr to bar) (I := fun _ (x y : Nat → Bool) => ∀ b, b < n → x b = y b) hxy m (fun e x y he hxy => sr_s_congr (hok e he) hxy))
theorem zS0_1 : zS0 1 none = fun i => decide (i = 1) := if_neg (fun h => by cases h)
theorem zcn {n m : Nat} {fr to : Nat → Nat} (hn : 2 ≤ n) (hok : ∀ e, e < m → fr e < n ∧ to e < n) (S : Nat → Bool) : ∀ b, b < n → sp_it (fun _ => sr_r fr to none m) n (zmk S n) b = sp_it (fun _ => sr_r fr to none m) (n - 1) (zS0 1 none) b := by
  intro b hb
  have h1 : ∀ x, x < n → zmk S n x = zS0 1 none x := fun x hx => by
    rw [zS0_1]
    exact if_pos hx
  rw [sr_congr hok h1 n b hb, sr_same (by omega) hok (zpick_S0 (bar := none) (tg := 1) (by omega))]
theorem zout {m : Nat} {fr to : Nat → Nat} (k : Nat) : ∀ b, sp_it (fun _ => sr_r fr to none m) k (zS0 1 none) b = true → b = 1 ∨ ∃ e, e < m ∧ fr e = b := by
  refine sp_it_inv (f := fun _ => sr_r fr to none m) (I := fun _ (S : Nat → Bool) => ∀ b, S b = true → b = 1 ∨ ∃ e, e < m ∧ fr e = b) ?_ k (fun _ S _ hS => sp_it_inv (f := sr_s fr to none) (I := fun _ (S : Nat → Bool) => ∀ b, S b = true → b = 1 ∨ ∃ e, e < m ∧ fr e = b) hS m (fun e T he hT => ?_))
  · intro b hb
    rw [zS0_1] at hb
    exact Or.inl (of_decide_eq_true hb)
  · intro b hb
    unfold sr_s at hb
    by_cases hc : T (to e) = true ∧ some (fr e) ≠ none
    · rw [if_pos hc] at hb
      by_cases hx : b = fr e
      · exact Or.inr ⟨e, he, hx.symm⟩
      · rw [sp_up_n _ _ hx] at hb; exact hT b hb
    · rw [if_neg hc] at hb; exact hT b hb
abbrev zst (lk st fin : Nat → Nat) (bk : Nat → Bool) : ss_T := (va_up (fun _ => 0) 0 1, va_up lk 0 0, va_up st 0 0, 1, bk, fin, 0)
theorem zst_J {n m : Nat} {fr to : Nat → Nat} (lk st fin : Nat → Nat) (bk : Nat → Bool) (hn : 2 ≤ n) : ss_J n m fr to (zst lk st fin bk) := ss_start (look := va_up lk 0 0) (st := va_up st 0 0) hn (sp_up_s _ _ _) (sp_up_s _ _ _)
theorem zst_L {fr : Nat → Nat} (lk : Nat → Nat) (e : Nat) : ¬ ss_L fr (va_up (fun _ => 0) 0 1) (va_up lk 0 0) e := by
  intro hl
  rcases hl with h1 | ⟨h1, h2⟩
  · by_cases h : fr e = 0
    · rw [h, sp_up_s] at h1; cases h1
    · rw [sp_up_n _ _ h] at h1; cases h1
  · by_cases h : fr e = 0
    · rw [h, sp_up_s] at h2; exact absurd h2 (Nat.not_lt_zero _)
    · rw [sp_up_n _ _ h] at h1; cases h1
theorem zq_rel2 {n m : Nat} {fr to mt nx pa : Nat → Nat} {bk0 : Nat → Bool} (lk st fin : Nat → Nat) (bk : Nat → Bool) (hn : 2 ≤ n) (hok : ∀ e, e < m → fr e < n ∧ to e < n) : ∀ i, sq_R n m fr (ss_run fr to m i (zst lk st fin bk)) (sq_run fr to m i (zq0 n mt nx pa bk0)) := by
  have hJ0 : ss_J n m fr to (zst lk st fin bk) := zst_J lk st fin bk hn
  intro i
  induction i with
  | zero =>
    refine ⟨fun b hb => ?_, rfl, fun i hi => ?_, fun b hb h1 => ?_, fun b hb h1 => ?_, fun e he hl => ?_⟩
    · show va_up (zfill mt 0 n) 0 1 b = va_up (fun _ => 0) 0 1 b
      by_cases h : b = 0
      · rw [h, sp_up_s, sp_up_s]
      · rw [sp_up_n _ _ h, sp_up_n _ _ h]; exact if_pos hb
    · have hi : i < 1 := hi
      rw [show i = 0 by omega]
      show va_up pa 0 0 0 = va_up st 0 0 0
      rw [sp_up_s, sp_up_s]
    · have h1 : va_up (fun _ => 0) 0 1 b = 1 := h1
      have hb0 : b = 0 := by
        by_cases h : b = 0
        · exact h
        · rw [sp_up_n _ _ h] at h1
          exact absurd (show (0 : Nat) = 1 from h1) (by decide)
      show zfill nx 0 n b = va_up lk 0 0 b
      rw [hb0, sp_up_s]
      exact if_pos (by omega)
    · exact if_pos hb
    · exact absurd hl (zst_L lk e)
  | succ i ih => exact sq_keep hok _ _ (ss_run_J hok hJ0 i).1 ih
theorem zse {n m : Nat} {fr to mt nx pa : Nat → Nat} {bk0 : Nat → Bool} {lk st fin : Nat → Nat} {bk : Nat → Bool} {met look sq fq : Nat → Nat} {hq k : Nat} {bq : Nat → Bool} {met2 nx2 pa2 : Nat → Nat} {h2 : Nat} {bk2 : Nat → Bool} (hg : sg_ok n m fr to) (h1 : ss_run fr to m (n + m) (zst lk st fin bk) = (met, look, sq, hq, bq, fq, k)) (h3 : sq_run fr to m (n + m) (zq0 n mt nx pa bk0) = (met2, nx2, pa2, h2, bk2)) : (∀ b, b < n → met2 b = met b) ∧ (∀ b, b < n → met b ≤ 2) ∧ (∀ b, b < n → met b ≠ 1) ∧ ((∀ b, b < n → met b ≠ 0) → k = n ∧ (∀ e, e < m → bk2 e = bq e) ∧ sv_O n m fr (ztg bq to) fq ∧ (∀ b, b < n → ∀ S : Nat → Bool, (∀ e, e < m → bq e = false → S (fr e) = S (to e)) → S b = S 0) ∧ ∀ e, e < m → bq e = true → to e ≠ 1) := by
  obtain ⟨hn, hn2, hm, hgo⟩ := hg
  have hok : ∀ e, e < m → fr e < n ∧ to e < n := fun e he => ⟨(hgo e he).1, (hgo e he).2.1⟩
  have hJ0 : ss_J n m fr to (zst lk st fin bk) := zst_J lk st fin bk hn
  have hJ := (ss_run_J hok hJ0 (n + m)).1
  have hov := ss_over hok hJ0
  have hR := zq_rel2 (mt := mt) (nx := nx) (pa := pa) (bk0 := bk0) lk st fin bk hn hok (n + m)
  have hK0 : ss_K m fr to (zst lk st fin bk).1 (zst lk st fin bk).2.1 (zst lk st fin bk).2.2.1 (zst lk st fin bk).2.2.2.1 (zst lk st fin bk).2.2.2.2.1 := by
    refine ⟨fun i hi => ?_, fun e he hl => absurd hl (zst_L lk e)⟩
    have hi : i + 1 < 1 := hi
    omega
  have hK := ss_run_K hn (fun e he => (hgo e he).2.2.1) hok hJ0 hK0 (n + m)
  rw [h1] at hJ hov hR hK
  rw [h3] at hR
  have hq0 : hq = 0 := hov
  subst hq0
  have I : ss_I n m fr to met look sq 0 bq fq k := hJ
  obtain ⟨r1, r2, r3, r4, r5, r6⟩ := hR
  have r1 : ∀ b, b < n → met2 b = met b := r1
  have hne1 : ∀ b, b < n → met b ≠ 1 := fun b hb hc => by
    obtain ⟨i, hi, _⟩ := I.2.2.1 b hb hc
    exact absurd hi (Nat.not_lt_zero _)
  refine ⟨r1, I.2.2.2.2.2.2.2.1, hne1, fun hall => ?_⟩
  obtain ⟨g1, g2, g3, g4⟩ := ss_good hgo I hall
  have hL : ∀ e, e < m → ss_L fr met look e := fun e he => Or.inl (g2 _ (hok e he).1)
  exact ⟨g1, fun e he => r6 e he (hL e he), g3, g4, fun e he hb => hK.2 e he (hL e he) hb⟩
