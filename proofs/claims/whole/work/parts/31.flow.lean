/-! pure side: what flows into a set of blocks flows out of it, or was left there (draft of 2026-11-15, not built yet) -/
def sf_sum (f : Nat → Int) : Nat → Int
  | 0 => 0
  | k + 1 => sf_sum f k + f k
theorem sf_sum_congr {f g : Nat → Int} {k : Nat} (h : ∀ i, i < k → f i = g i) : sf_sum f k = sf_sum g k := by
  induction k with
  | zero => rfl
  | succ k ih =>
    show sf_sum f k + f k = sf_sum g k + g k
    rw [ih (fun i hi => h i (by omega)), h k (by omega)]
theorem sf_sum_zero {f : Nat → Int} {k : Nat} (h : ∀ i, i < k → f i = 0) : sf_sum f k = 0 := by
  induction k with
  | zero => rfl
  | succ k ih =>
    show sf_sum f k + f k = 0
    rw [ih (fun i hi => h i (by omega)), h k (by omega)]; rfl
theorem sf_sum_up {f g : Nat → Int} {k j : Nat} (hj : j < k) (h : ∀ i, i < k → i ≠ j → g i = f i) : sf_sum g k = sf_sum f k + (g j - f j) := by
  induction k with
  | zero => omega
  | succ k ih =>
    show sf_sum g k + g k = sf_sum f k + f k + (g j - f j)
    by_cases hjk : j = k
    · subst hjk
      rw [sf_sum_congr (f := g) (g := f) (fun i hi => h i (by omega) (by omega))]
      omega
    · rw [ih (by omega) (fun i hi => h i (by omega)), h k (by omega) (fun hc => hjk hc.symm)]
      omega
theorem sf_sum_add (f g : Nat → Int) (k : Nat) : sf_sum (fun i => f i + g i) k = sf_sum f k + sf_sum g k := by
  induction k with
  | zero => rfl
  | succ k ih =>
    show sf_sum (fun i => f i + g i) k + (f k + g k) = sf_sum f k + f k + (sf_sum g k + g k)
    rw [ih]; omega
theorem sf_sum_sub (f g : Nat → Int) (k : Nat) : sf_sum (fun i => f i - g i) k = sf_sum f k - sf_sum g k := by
  induction k with
  | zero => rfl
  | succ k ih =>
    show sf_sum (fun i => f i - g i) k + (f k - g k) = sf_sum f k + f k - (sf_sum g k + g k)
    rw [ih]; omega
def sf_c (x : Bool) (v : Int) : Int := if x = true then v else 0
theorem sf_c_t (v : Int) : sf_c true v = v := rfl
theorem sf_c_f (v : Int) : sf_c false v = 0 := rfl
/-- C: passes of edges, S: stops at blocks; run: a run is under way, at pl -/
def sf_F (n m : Nat) (fr to : Nat → Nat) (C S : Nat → Int) (run : Bool) (pl : Nat) : Prop := ∀ B : Nat → Bool, B 0 = false → B 1 = false → sf_sum (fun e => sf_c (B (to e)) (C e) - sf_c (B (fr e)) (C e)) m = sf_sum (fun b => sf_c (B b) (S b)) n + sf_c (run && B pl) 1
theorem sf_none {n m : Nat} {fr to : Nat → Nat} {C S : Nat → Int} {pl : Nat} (hC : ∀ e, e < m → C e = 0) (hS : ∀ b, b < n → S b = 0) : sf_F n m fr to C S false pl := by
  intro B _ _
  rw [sf_sum_zero (fun e he => by rw [hC e he]; cases B (to e) <;> cases B (fr e) <;> rfl), sf_sum_zero (fun b hb => by rw [hS b hb]; cases B b <;> rfl)]
  rfl
theorem sf_start {n m : Nat} {fr to : Nat → Nat} {C S : Nat → Int} {pl : Nat} (h : sf_F n m fr to C S false pl) : sf_F n m fr to C S true 0 := by
  intro B h0 h1
  rw [h B h0 h1, h0]
  rfl
theorem sf_pass {n m : Nat} {fr to : Nat → Nat} {C S : Nat → Int} {e0 : Nat} {run : Bool} (he : e0 < m) (h : sf_F n m fr to C S true (fr e0)) (hr : run = true ∨ to e0 = 1) : sf_F n m fr to (va_up C e0 (C e0 + 1)) S run (to e0) := by
  intro B h0 h1
  have h2 := h B h0 h1
  have h3 := sf_sum_up (f := fun e => sf_c (B (to e)) (C e) - sf_c (B (fr e)) (C e)) (g := fun e => sf_c (B (to e)) (va_up C e0 (C e0 + 1) e) - sf_c (B (fr e)) (va_up C e0 (C e0 + 1) e)) (k := m) (j := e0) he (fun i _ hi => by rw [sp_up_n C _ hi])
  simp only [sp_up_s] at h3
  rw [h3, h2]
  have h4 : sf_c (run && B (to e0)) 1 = sf_c (B (to e0)) 1 := by
    rcases hr with hr | hr
    · rw [hr, Bool.true_and]
    · rw [hr, h1, Bool.and_false]
  rw [h4, Bool.true_and]
  cases B (to e0) <;> cases B (fr e0) <;> simp only [sf_c_t, sf_c_f] <;> omega
theorem sf_stop {n m : Nat} {fr to : Nat → Nat} {C S : Nat → Int} {pl : Nat} (hp : pl < n) (h : sf_F n m fr to C S true pl) (x : Nat) : sf_F n m fr to C (va_up S pl (S pl + 1)) false x := by
  intro B h0 h1
  have h3 := sf_sum_up (f := fun b => sf_c (B b) (S b)) (g := fun b => sf_c (B b) (va_up S pl (S pl + 1) b)) (k := n) (j := pl) hp (fun i _ hi => by rw [sp_up_n S _ hi])
  simp only [sp_up_s] at h3
  rw [h B h0 h1, h3, Bool.true_and, Bool.false_and]
  cases B pl <;> simp only [sf_c_t, sf_c_f] <;> omega
/-- the passes of an edge e0 of the tree out of hits outside of it; B: the blocks behind e0 -/
theorem sf_cut {n m : Nat} {fr to : Nat → Nat} {C S H : Nat → Int} {run : Bool} {pl e0 : Nat} {has B : Nat → Bool} (hF : sf_F n m fr to C S run pl) (he : e0 < m) (h0 : B 0 = false) (h1 : B 1 = false) (hh : has e0 = true) (hx : B (fr e0) ≠ B (to e0)) (hB : ∀ e, e < m → has e = true → e ≠ e0 → B (fr e) = B (to e)) (hH : ∀ e, e < m → H e = if has e = true then 0 else C e) : C e0 = if B (to e0) = true then sf_c (run && B pl) 1 + sf_sum (fun b => sf_c (B b) (S b)) n + sf_sum (fun e => sf_c (B (fr e)) (H e) - sf_c (B (to e)) (H e)) m else -(sf_c (run && B pl) 1 + sf_sum (fun b => sf_c (B b) (S b)) n + sf_sum (fun e => sf_c (B (fr e)) (H e) - sf_c (B (to e)) (H e)) m) := by
  have h2 := hF B h0 h1
  have h3 : sf_sum (fun e => sf_c (B (to e)) (C e) - sf_c (B (fr e)) (C e)) m = sf_sum (fun e => (0 - (sf_c (B (fr e)) (H e) - sf_c (B (to e)) (H e))) + (if e = e0 then sf_c (B (to e0)) (C e0) - sf_c (B (fr e0)) (C e0) else 0)) m := by
    refine sf_sum_congr (fun e hem => ?_)
    by_cases hee : e = e0
    · subst hee
      rw [if_pos rfl, hH e hem, if_pos hh]
      cases B (to e) <;> cases B (fr e) <;> simp only [sf_c_t, sf_c_f] <;> omega
    · rw [if_neg hee, hH e hem]
      by_cases hhe : has e = true
      · rw [if_pos hhe, hB e hem hhe hee]
        cases B (to e) <;> simp only [sf_c_t, sf_c_f] <;> omega
      · rw [if_neg hhe]
        cases B (to e) <;> cases B (fr e) <;> simp only [sf_c_t, sf_c_f] <;> omega
  have h4 := sf_sum_add (fun e => 0 - (sf_c (B (fr e)) (H e) - sf_c (B (to e)) (H e))) (fun e => if e = e0 then sf_c (B (to e0)) (C e0) - sf_c (B (fr e0)) (C e0) else 0) m
  have h5 := sf_sum_sub (fun _ => 0) (fun e => sf_c (B (fr e)) (H e) - sf_c (B (to e)) (H e)) m
  have h6 := sf_sum_zero (f := fun _ => 0) (k := m) (fun _ _ => rfl)
  have h7 := sf_sum_up (f := fun _ => 0) (g := fun e => if e = e0 then sf_c (B (to e0)) (C e0) - sf_c (B (fr e0)) (C e0) else 0) (k := m) (j := e0) he (fun i _ hi => if_neg hi)
  simp only [if_true, eq_self_iff_true] at h7
  rw [h3, h4, h5, h6, h7, h6] at h2
  cases hbt : B (to e0) <;> cases hbf : B (fr e0) <;> simp only [hbt, hbf, sf_c_t, sf_c_f] at h2 hx ⊢
  · exact absurd rfl hx
  · rw [if_neg (by decide)]; omega
  · rw [if_pos trivial]; omega
  · exact absurd rfl hx
/-- visits of blocks, runs and ends -/
def sf_G (n m : Nat) (to : Nat → Nat) (C S K : Nat → Int) (runs ends : Int) (run : Bool) : Prop := (∀ b, b < n → b ≠ 0 → K b = sf_sum (fun e => sf_c (decide (to e = b)) (C e)) m) ∧ K 0 = runs ∧ K 1 = ends ∧ runs = ends + sf_sum S n + sf_c run 1
theorem sf_G_none {n m : Nat} {to : Nat → Nat} {C S K : Nat → Int} (hn : 2 ≤ n) (hC : ∀ e, e < m → C e = 0) (hS : ∀ b, b < n → S b = 0) (hK : ∀ b, b < n → K b = 0) : sf_G n m to C S K 0 0 false := by
  refine ⟨fun b hb _ => ?_, hK 0 (by omega), hK 1 (by omega), ?_⟩
  · rw [hK b hb, sf_sum_zero (fun e he => by rw [hC e he]; unfold sf_c; split <;> rfl)]
  · rw [sf_sum_zero hS]; rfl
theorem sf_G_start {n m : Nat} {to : Nat → Nat} {C S K : Nat → Int} {runs ends : Int} (h : sf_G n m to C S K runs ends false) : sf_G n m to C S (va_up K 0 (K 0 + 1)) (runs + 1) ends true := by
  obtain ⟨h1, h2, h3, h4⟩ := h
  refine ⟨fun b hb hb0 => ?_, ?_, ?_, ?_⟩
  · rw [sp_up_n K _ hb0]; exact h1 b hb hb0
  · rw [sp_up_s, h2]
  · rw [sp_up_n K _ (by decide)]; exact h3
  · rw [h4, sf_c_f, sf_c_t]; omega
theorem sf_G_pass {n m : Nat} {to : Nat → Nat} {C S K : Nat → Int} {runs ends : Int} {e0 : Nat} (he : e0 < m) (ht0 : to e0 ≠ 0) (h : sf_G n m to C S K runs ends true) : sf_G n m to (va_up C e0 (C e0 + 1)) S (va_up K (to e0) (K (to e0) + 1)) runs (if to e0 = 1 then ends + 1 else ends) (decide (to e0 ≠ 1)) := by
  obtain ⟨h1, h2, h3, h4⟩ := h
  refine ⟨fun b hb hb0 => ?_, ?_, ?_, ?_⟩
  · have h5 := sf_sum_up (f := fun e => sf_c (decide (to e = b)) (C e)) (g := fun e => sf_c (decide (to e = b)) (va_up C e0 (C e0 + 1) e)) (k := m) (j := e0) he (fun i _ hi => by rw [sp_up_n C _ hi])
    simp only [sp_up_s] at h5
    rw [h5, ← h1 b hb hb0]
    by_cases hbt : b = to e0
    · rw [hbt, sp_up_s, decide_eq_true rfl, sf_c_t, sf_c_t]; omega
    · rw [sp_up_n K _ hbt, decide_eq_false (fun hc => hbt hc.symm), sf_c_f, sf_c_f]; omega
  · rw [sp_up_n K _ (fun hc => ht0 hc.symm)]; exact h2
  · by_cases h6 : to e0 = 1
    · rw [if_pos h6, h6, sp_up_s, h3]
    · rw [if_neg h6, sp_up_n K _ (fun hc => h6 hc.symm)]; exact h3
  · by_cases h6 : to e0 = 1
    · rw [if_pos h6, decide_eq_false (fun hc => hc h6), sf_c_f, h4, sf_c_t]; omega
    · rw [if_neg h6, decide_eq_true h6]; exact h4
theorem sf_G_stop {n m : Nat} {to : Nat → Nat} {C S K : Nat → Int} {runs ends : Int} {pl : Nat} (hp : pl < n) (h : sf_G n m to C S K runs ends true) : sf_G n m to C (va_up S pl (S pl + 1)) K runs ends false := by
  obtain ⟨h1, h2, h3, h4⟩ := h
  refine ⟨h1, h2, h3, ?_⟩
  have h5 := sf_sum_up (f := S) (g := va_up S pl (S pl + 1)) (k := n) (j := pl) hp (fun i _ hi => sp_up_n S _ hi)
  rw [sp_up_s] at h5
  rw [h5, h4, sf_c_f, sf_c_t]; omega
