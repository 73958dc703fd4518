/-! pure side: the graph, the search (draft of 2026-11-15) -/
theorem sp_up_s {α : Type} (f : Nat → α) (k : Nat) (v : α) : va_up f k v k = v := by simp [va_up]
theorem sp_up_n {α : Type} (f : Nat → α) {k j : Nat} (v : α) (h : j ≠ k) : va_up f k v j = f j := by simp [va_up, h]
theorem sp_cnt_up {p q : Nat → Bool} {k j : Nat} (hj : j < k) (hp : p j = false) (hq : q j = true) (h : ∀ i, i < k → i ≠ j → q i = p i) : sp_cnt q k = sp_cnt p k + 1 := by
  induction k with
  | zero => omega
  | succ k ih =>
    show sp_cnt q k + _ = sp_cnt p k + _ + 1
    by_cases hjk : j = k
    · subst hjk
      have h1 : sp_cnt q j = sp_cnt p j := sp_cnt_congr (fun i hi => h i (by omega) (by omega))
      rw [hp, hq, h1]; simp
    · have h1 := ih (by omega) (fun i hi => h i (by omega))
      have h2 := h k (by omega) (by omega)
      rw [h1, h2]; omega
def sg_ok (n m : Nat) (fr to : Nat → Nat) : Prop := 2 ≤ n ∧ n ≤ 12 ∧ m ≤ 24 ∧ ∀ e, e < m → fr e < n ∧ to e < n ∧ fr e ≠ 1 ∧ to e ≠ 0
/-- the first edge from b among e, e + 1, .., e + k - 1; e + k if there is none -/
def sg_nx (fr : Nat → Nat) (b : Nat) : Nat → Nat → Nat
  | 0, e => e
  | k + 1, e => if fr e = b then e else sg_nx fr b k (e + 1)
theorem sg_nx_spec (fr : Nat → Nat) (b : Nat) : ∀ k e, e ≤ sg_nx fr b k e ∧ sg_nx fr b k e ≤ e + k ∧ (∀ j, e ≤ j → j < sg_nx fr b k e → fr j ≠ b) ∧ (sg_nx fr b k e < e + k → fr (sg_nx fr b k e) = b)
  | 0, e => ⟨Nat.le_refl _, Nat.le_refl _, fun j h1 h2 => by simp [sg_nx] at h2; omega, fun h => by simp [sg_nx] at h⟩
  | k + 1, e => by
    by_cases he : fr e = b
    · have h1 : sg_nx fr b (k + 1) e = e := by simp [sg_nx, he]
      rw [h1]
      exact ⟨Nat.le_refl _, by omega, fun j h2 h3 => by omega, fun _ => he⟩
    · have h1 : sg_nx fr b (k + 1) e = sg_nx fr b k (e + 1) := by simp [sg_nx, he]
      obtain ⟨a1, a2, a3, a4⟩ := sg_nx_spec fr b k (e + 1)
      rw [h1]
      refine ⟨by omega, by omega, fun j h2 h3 => ?_, fun h2 => a4 (by omega)⟩
      by_cases hj : j = e
      · subst hj; exact he
      · exact a3 j (by omega) h3
/-- edge e was looked at -/
def ss_L (fr met look : Nat → Nat) (e : Nat) : Prop := met (fr e) = 2 ∨ (met (fr e) = 1 ∧ e < look (fr e))
/-- what holds all along the search: met is 0 (not met), 1 (not come back from) or 2; st the stack of height h; fin the k blocks come back from -/
def ss_I (n m : Nat) (fr to met look st : Nat → Nat) (h : Nat) (bk : Nat → Bool) (fin : Nat → Nat) (k : Nat) : Prop :=
  (∀ i, i < h → st i < n ∧ met (st i) = 1) ∧
  (∀ i j, i < h → j < h → st i = st j → i = j) ∧
  (∀ b, b < n → met b = 1 → ∃ i, i < h ∧ st i = b) ∧
  (∀ i, i < k → fin i < n ∧ met (fin i) = 2) ∧
  (∀ i j, i < k → j < k → fin i = fin j → i = j) ∧
  (∀ b, b < n → met b = 2 → ∃ i, i < k ∧ fin i = b) ∧
  (∀ b, b < n → met b = 1 → look b ≤ m) ∧
  (∀ b, b < n → met b ≤ 2) ∧
  (∀ e, e < m → ss_L fr met look e → met (to e) ≠ 0) ∧
  (∀ e, e < m → ss_L fr met look e → bk e = false → (met (to e) = 2 ∧ ∀ j, j < k → fin j = fr e → ∃ i, i < j ∧ fin i = to e) ∨ ∃ i j, i < j ∧ j < h ∧ st i = fr e ∧ st j = to e) ∧
  (∀ b, b < n → met b ≠ 0 → ∀ S : Nat → Bool, (∀ e, e < m → ss_L fr met look e → bk e = false → S (fr e) = S (to e)) → S b = S 0) ∧
  h = sp_cnt (fun b => decide (met b = 1)) n ∧
  k = sp_cnt (fun b => decide (met b = 2)) n
/-- one step: the state is (met, look, st, h, bk, fin, k) -/
abbrev ss_T : Type := (Nat → Nat) × (Nat → Nat) × (Nat → Nat) × Nat × (Nat → Bool) × (Nat → Nat) × Nat
def ss_step (fr to : Nat → Nat) (m : Nat) : ss_T → ss_T := fun s => match s with
  | (met, look, st, h, bk, fin, k) =>
    if h = 0 then (met, look, st, h, bk, fin, k)
    else if m ≤ sg_nx fr (st (h - 1)) (m - look (st (h - 1))) (look (st (h - 1))) then (va_up met (st (h - 1)) 2, look, st, h - 1, bk, va_up fin k (st (h - 1)), k + 1)
    else if met (to (sg_nx fr (st (h - 1)) (m - look (st (h - 1))) (look (st (h - 1))))) = 0 then
      (va_up met (to (sg_nx fr (st (h - 1)) (m - look (st (h - 1))) (look (st (h - 1))))) 1,
       va_up (va_up look (st (h - 1)) (sg_nx fr (st (h - 1)) (m - look (st (h - 1))) (look (st (h - 1))) + 1)) (to (sg_nx fr (st (h - 1)) (m - look (st (h - 1))) (look (st (h - 1))))) 0,
       va_up st h (to (sg_nx fr (st (h - 1)) (m - look (st (h - 1))) (look (st (h - 1))))), h + 1,
       va_up bk (sg_nx fr (st (h - 1)) (m - look (st (h - 1))) (look (st (h - 1)))) false, fin, k)
    else (met, va_up look (st (h - 1)) (sg_nx fr (st (h - 1)) (m - look (st (h - 1))) (look (st (h - 1))) + 1), st, h,
       va_up bk (sg_nx fr (st (h - 1)) (m - look (st (h - 1))) (look (st (h - 1)))) (decide (met (to (sg_nx fr (st (h - 1)) (m - look (st (h - 1))) (look (st (h - 1))))) = 1)), fin, k)
/-- come back from b -/
theorem ss_pop {n m : Nat} {fr to met look st fin : Nat → Nat} {h k b : Nat} {bk : Nat → Bool} (ht : ∀ e, e < m → fr e < n ∧ to e < n) (I : ss_I n m fr to met look st (h + 1) bk fin k) (hb : st h = b) (hall : ∀ e, e < m → fr e = b → e < look b) : ss_I n m fr to (va_up met b 2) look st h bk (va_up fin k b) (k + 1) := by
  obtain ⟨iA, iB, iC, iD, iE, iF, iG, iH, iJ, iK, iM, iN, iO⟩ := I
  obtain ⟨hbn, hb1⟩ := iA h (by omega)
  rw [hb] at hbn hb1
  have hL : ∀ e, e < m → (ss_L fr (va_up met b 2) look e ↔ ss_L fr met look e) := by
    intro e he
    by_cases hf : fr e = b
    · constructor
      · intro _; right; rw [hf]; exact ⟨hb1, hall e he hf⟩
      · intro _; left; rw [hf, sp_up_s]
    · simp only [ss_L, sp_up_n met 2 hf]
  refine ⟨?_, ?_, ?_, ?_, ?_, ?_, ?_, ?_, ?_, ?_, ?_, ?_, ?_⟩
  · intro i hi
    have h1 := iA i (by omega)
    have h2 : st i ≠ b := fun hc => by have := iB i h (by omega) (by omega) (by rw [hc, hb]); omega
    rw [sp_up_n met 2 h2]; exact h1
  · intro i j hi hj; exact iB i j (by omega) (by omega)
  · intro x hx h1
    have h2 : x ≠ b := fun hc => by rw [hc, sp_up_s] at h1; omega
    rw [sp_up_n met 2 h2] at h1
    obtain ⟨i, hi, hs⟩ := iC x hx h1
    refine ⟨i, ?_, hs⟩
    by_cases hih : i = h
    · subst hih; exact absurd (hs.symm.trans hb) h2
    · omega
  · intro i hi
    by_cases hik : i = k
    · subst hik; rw [sp_up_s, sp_up_s]; exact ⟨hbn, rfl⟩
    · rw [sp_up_n fin b hik]
      have h1 := iD i (by omega)
      refine ⟨h1.1, ?_⟩
      by_cases hx : fin i = b
      · rw [hx, sp_up_s]
      · rw [sp_up_n met 2 hx]; exact h1.2
  · intro i j hi hj hij
    have key : ∀ x, x < k → fin x ≠ b := fun x hx hc => by have := (iD x hx).2; rw [hc] at this; omega
    by_cases hik : i = k
    · by_cases hjk : j = k
      · omega
      · rw [hik, sp_up_s, sp_up_n fin b hjk] at hij; exact absurd hij.symm (key j (by omega))
    · by_cases hjk : j = k
      · rw [hjk, sp_up_s, sp_up_n fin b hik] at hij; exact absurd hij (key i (by omega))
      · rw [sp_up_n fin b hik, sp_up_n fin b hjk] at hij; exact iE i j (by omega) (by omega) hij
  · intro x hx h2
    by_cases hxb : x = b
    · exact ⟨k, by omega, by rw [sp_up_s, hxb]⟩
    · rw [sp_up_n met 2 hxb] at h2
      obtain ⟨i, hi, hs⟩ := iF x hx h2
      exact ⟨i, by omega, by rw [sp_up_n fin b (by omega)]; exact hs⟩
  · intro x hx h1
    have h2 : x ≠ b := fun hc => by rw [hc, sp_up_s] at h1; omega
    rw [sp_up_n met 2 h2] at h1
    exact iG x hx h1
  · intro x hx
    by_cases hxb : x = b
    · rw [hxb, sp_up_s]; exact Nat.le_refl 2
    · rw [sp_up_n met 2 hxb]; exact iH x hx
  · intro e he hl
    have h1 := iJ e he ((hL e he).mp hl)
    by_cases hxb : to e = b
    · rw [hxb, sp_up_s]; decide
    · rw [sp_up_n met 2 hxb]; exact h1
  · intro e he hl hbk
    rcases iK e he ((hL e he).mp hl) hbk with ⟨h1, h2⟩ | ⟨i, j, h1, h2, h3, h4⟩
    · left
      refine ⟨?_, ?_⟩
      · by_cases hxb : to e = b
        · rw [hxb, sp_up_s]
        · rw [sp_up_n met 2 hxb]; exact h1
      · intro j hj hfj
        by_cases hjk : j = k
        · rw [hjk]
          obtain ⟨i, hi, hs⟩ := iF (to e) (ht e he).2 h1
          exact ⟨i, hi, by rw [sp_up_n fin b (by omega)]; exact hs⟩
        · rw [sp_up_n fin b hjk] at hfj
          obtain ⟨i, hi, hs⟩ := h2 j (by omega) hfj
          exact ⟨i, hi, by rw [sp_up_n fin b (by omega)]; exact hs⟩
    · by_cases hjh : j = h
      · left
        have hte : to e = b := by rw [← h4, hjh]; exact hb
        refine ⟨by rw [hte, sp_up_s], ?_⟩
        intro x hx hfx
        have hm1 := (iA i (by omega)).2
        rw [h3] at hm1
        by_cases hxk : x = k
        · rw [hxk, sp_up_s] at hfx
          have := iB i h (by omega) (by omega) (by rw [h3, ← hfx, hb])
          omega
        · rw [sp_up_n fin b hxk] at hfx
          have := (iD x (by omega)).2
          rw [hfx] at this
          omega
      · right; exact ⟨i, j, h1, by omega, h3, h4⟩
  · intro x hx h1 S hS
    refine iM x hx ?_ S (fun e he hl hbk => hS e he ((hL e he).mpr hl) hbk)
    by_cases hxb : x = b
    · rw [hxb]; omega
    · rw [sp_up_n met 2 hxb] at h1; exact h1
  · have := sp_cnt_up (p := fun x => decide (va_up met b 2 x = 1)) (q := fun x => decide (met x = 1)) (k := n) (j := b) hbn (by simp [va_up]) (by simp [hb1]) (fun i _ hi => by simp [va_up, hi])
    omega
  · have := sp_cnt_up (p := fun x => decide (met x = 2)) (q := fun x => decide (va_up met b 2 x = 2)) (k := n) (j := b) hbn (by simp [hb1]) (by simp [va_up]) (fun i _ hi => by simp [va_up, hi])
    omega
/-- an edge e from the block b on top is looked at; it leads to a block met before -/
theorem ss_see {n m : Nat} {fr to met look st fin : Nat → Nat} {h k b e0 : Nat} {bk : Nat → Bool} (I : ss_I n m fr to met look st (h + 1) bk fin k) (hb : st h = b) (he0 : e0 < m) (hf0 : fr e0 = b) (hlo : look b ≤ e0) (hno : ∀ e, look b ≤ e → e < e0 → fr e ≠ b) (hm : met (to e0) ≠ 0) (ht : ∀ e, e < m → fr e < n ∧ to e < n) : ss_I n m fr to met (va_up look b (e0 + 1)) st (h + 1) (va_up bk e0 (decide (met (to e0) = 1))) fin k := by
  obtain ⟨iA, iB, iC, iD, iE, iF, iG, iH, iJ, iK, iM, iN, iO⟩ := I
  obtain ⟨hbn, hb1⟩ := iA h (by omega)
  rw [hb] at hbn hb1
  have hL : ∀ e, e < m → (ss_L fr met (va_up look b (e0 + 1)) e ↔ ss_L fr met look e ∨ e = e0) := by
    intro e he
    by_cases hf : fr e = b
    · simp only [ss_L, hf, sp_up_s, hb1]
      constructor
      · rintro (h1 | ⟨-, h1⟩)
        · omega
        · by_cases h2 : e < look b
          · left; right; exact ⟨trivial, h2⟩
          · by_cases h3 : e = e0
            · right; exact h3
            · exact absurd hf (hno e (by omega) (by omega))
      · rintro ((h1 | ⟨-, h1⟩) | h1)
        · omega
        · right; exact ⟨trivial, by omega⟩
        · right; exact ⟨trivial, by omega⟩
    · simp only [ss_L, sp_up_n look (e0 + 1) hf]
      constructor
      · intro h1; left; exact h1
      · rintro (h1 | h1)
        · exact h1
        · subst h1; exact absurd hf0 hf
  have hn0 : ¬ ss_L fr met look e0 := by
    simp only [ss_L, hf0, hb1]; omega
  refine ⟨iA, iB, iC, iD, iE, iF, ?_, iH, ?_, ?_, ?_, iN, iO⟩
  · intro x hx h1
    by_cases hxb : x = b
    · rw [hxb, sp_up_s]; omega
    · rw [sp_up_n look (e0 + 1) hxb]; exact iG x hx h1
  · intro e he hl
    rcases (hL e he).mp hl with h1 | h1
    · exact iJ e he h1
    · rw [h1]; exact hm
  · intro e he hl hbk
    rcases (hL e he).mp hl with h1 | h1
    · have hne : e ≠ e0 := fun hc => hn0 (by rw [← hc]; exact h1)
      rw [sp_up_n bk _ hne] at hbk
      exact iK e he h1 hbk
    · subst h1
      rw [sp_up_s] at hbk
      have h2 : met (to e) ≠ 1 := of_decide_eq_false hbk
      have h3 := iH (to e) (ht e he).2
      left
      refine ⟨by omega, ?_⟩
      intro j hj hfj
      have h4 := (iD j hj).2
      rw [hfj, hf0] at h4
      omega
  · intro x hx h1 S hS
    refine iM x hx h1 S (fun e he hl hbk => ?_)
    have hne : e ≠ e0 := fun hc => hn0 (by rw [← hc]; exact hl)
    exact hS e he ((hL e he).mpr (Or.inl hl)) (by rw [sp_up_n bk _ hne]; exact hbk)
/-- the same; it leads to a block not met so far, which is entered -/
theorem ss_push {n m : Nat} {fr to met look st fin : Nat → Nat} {h k b e0 : Nat} {bk : Nat → Bool} (I : ss_I n m fr to met look st (h + 1) bk fin k) (hb : st h = b) (he0 : e0 < m) (hf0 : fr e0 = b) (hlo : look b ≤ e0) (hno : ∀ e, look b ≤ e → e < e0 → fr e ≠ b) (hm : met (to e0) = 0) (ht : ∀ e, e < m → fr e < n ∧ to e < n) : ss_I n m fr to (va_up met (to e0) 1) (va_up (va_up look b (e0 + 1)) (to e0) 0) (va_up st (h + 1) (to e0)) (h + 2) (va_up bk e0 false) fin k := by
  obtain ⟨iA, iB, iC, iD, iE, iF, iG, iH, iJ, iK, iM, iN, iO⟩ := I
  obtain ⟨hbn, hb1⟩ := iA h (by omega)
  rw [hb] at hbn hb1
  have htn : to e0 < n := (ht e0 he0).2
  generalize hte : to e0 = t at hm htn ⊢
  have htb : t ≠ b := fun hc => by rw [hc] at hm; omega
  have hL : ∀ e, e < m → (ss_L fr (va_up met t 1) (va_up (va_up look b (e0 + 1)) t 0) e ↔ ss_L fr met look e ∨ e = e0) := by
    intro e he
    by_cases hft : fr e = t
    · simp only [ss_L, hft, sp_up_s, hm]
      constructor
      · rintro (h1 | ⟨-, h1⟩) <;> omega
      · rintro ((h1 | ⟨h1, -⟩) | h1)
        · omega
        · omega
        · subst h1; exact absurd (hft.symm.trans hf0) htb
    · simp only [ss_L, sp_up_n met 1 hft, sp_up_n (va_up look b (e0 + 1)) 0 hft]
      by_cases hf : fr e = b
      · simp only [hf, sp_up_s, hb1]
        constructor
        · rintro (h1 | ⟨-, h1⟩)
          · omega
          · by_cases h2 : e < look b
            · left; right; exact ⟨trivial, h2⟩
            · by_cases h3 : e = e0
              · right; exact h3
              · exact absurd hf (hno e (by omega) (by omega))
        · rintro ((h1 | ⟨-, h1⟩) | h1)
          · omega
          · right; exact ⟨trivial, by omega⟩
          · right; exact ⟨trivial, by omega⟩
      · simp only [sp_up_n look (e0 + 1) hf]
        constructor
        · intro h1; left; exact h1
        · rintro (h1 | h1)
          · exact h1
          · subst h1; exact absurd hf0 hf
  have hn0 : ¬ ss_L fr met look e0 := by
    simp only [ss_L, hf0, hb1]; omega
  have hmet : ∀ x, met x ≠ 0 → va_up met t 1 x = met x := fun x hx => sp_up_n met 1 (fun hc => hx (by rw [hc]; exact hm))
  refine ⟨?_, ?_, ?_, ?_, iE, ?_, ?_, ?_, ?_, ?_, ?_, ?_, ?_⟩
  · intro i hi
    by_cases hih : i = h + 1
    · rw [hih, sp_up_s, sp_up_s]; exact ⟨htn, rfl⟩
    · rw [sp_up_n st t hih]
      have h1 := iA i (by omega)
      rw [hmet _ (by omega)]; exact h1
  · intro i j hi hj hij
    have key : ∀ x, x < h + 1 → st x ≠ t := fun x hx hc => by have := (iA x hx).2; rw [hc] at this; omega
    by_cases hih : i = h + 1
    · by_cases hjh : j = h + 1
      · omega
      · rw [hih, sp_up_s, sp_up_n st t hjh] at hij; exact absurd hij.symm (key j (by omega))
    · by_cases hjh : j = h + 1
      · rw [hjh, sp_up_s, sp_up_n st t hih] at hij; exact absurd hij (key i (by omega))
      · rw [sp_up_n st t hih, sp_up_n st t hjh] at hij; exact iB i j (by omega) (by omega) hij
  · intro x hx h1
    by_cases hxt : x = t
    · exact ⟨h + 1, by omega, by rw [sp_up_s, hxt]⟩
    · rw [sp_up_n met 1 hxt] at h1
      obtain ⟨i, hi, hs⟩ := iC x hx h1
      exact ⟨i, by omega, by rw [sp_up_n st t (by omega)]; exact hs⟩
  · intro i hi
    have h1 := iD i hi
    rw [hmet _ (by omega)]; exact h1
  · intro x hx h2
    have hxt : x ≠ t := fun hc => by rw [hc, sp_up_s] at h2; omega
    rw [sp_up_n met 1 hxt] at h2
    exact iF x hx h2
  · intro x hx h1
    by_cases hxt : x = t
    · rw [hxt, sp_up_s]; exact Nat.zero_le m
    · rw [sp_up_n met 1 hxt] at h1
      rw [sp_up_n _ 0 hxt]
      by_cases hxb : x = b
      · rw [hxb, sp_up_s]; omega
      · rw [sp_up_n look (e0 + 1) hxb]; exact iG x hx h1
  · intro x hx
    by_cases hxt : x = t
    · rw [hxt, sp_up_s]; decide
    · rw [sp_up_n met 1 hxt]; exact iH x hx
  · intro e he hl
    rcases (hL e he).mp hl with h1 | h1
    · have h2 := iJ e he h1
      rw [hmet _ h2]; exact h2
    · rw [h1, hte, sp_up_s]; decide
  · intro e he hl hbk
    rcases (hL e he).mp hl with h1 | h1
    · have hne : e ≠ e0 := fun hc => hn0 (by rw [← hc]; exact h1)
      rw [sp_up_n bk _ hne] at hbk
      rcases iK e he h1 hbk with ⟨h2, h3⟩ | ⟨i, j, h2, h3, h4, h5⟩
      · left; exact ⟨by rw [hmet _ (by omega)]; exact h2, h3⟩
      · right
        exact ⟨i, j, h2, by omega, by rw [sp_up_n st t (by omega)]; exact h4, by rw [sp_up_n st t (by omega)]; exact h5⟩
    · subst h1
      right
      exact ⟨h, h + 1, by omega, by omega, by rw [sp_up_n st t (by omega), hb, hf0], by rw [sp_up_s, hte]⟩
  · intro x hx h1 S hS
    have hold : ∀ y, y < n → met y ≠ 0 → S y = S 0 := fun y hy h2 => iM y hy h2 S (fun e he hl hbk => by
      have hne : e ≠ e0 := fun hc => hn0 (by rw [← hc]; exact hl)
      exact hS e he ((hL e he).mpr (Or.inl hl)) (by rw [sp_up_n bk _ hne]; exact hbk))
    by_cases hxt : x = t
    · have h3 := hS e0 he0 ((hL e0 he0).mpr (Or.inr rfl)) (by rw [sp_up_s])
      rw [hf0, hte] at h3
      rw [hxt, ← h3]
      exact hold b hbn (by omega)
    · rw [sp_up_n met 1 hxt] at h1
      exact hold x hx h1
  · have := sp_cnt_up (p := fun x => decide (met x = 1)) (q := fun x => decide (va_up met t 1 x = 1)) (k := n) (j := t) htn (by simp [hm]) (by simp [va_up]) (fun i _ hi => by simp [va_up, hi])
    omega
  · have := sp_cnt_congr (p := fun x => decide (va_up met t 1 x = 2)) (q := fun x => decide (met x = 2)) (k := n) (fun i _ => by
      by_cases hi : i = t
      · simp [va_up, hi, hm]
      · simp [va_up, hi])
    omega
