/-! pure side: ways and their numbers (draft of 2026-11-15, not built yet) -/
theorem sp_sum_gap {f : Nat → Nat} {j k : Nat} (h : j ≤ k) (hz : ∀ i, j ≤ i → i < k → f i = 0) : sp_sum f k = sp_sum f j := by
  induction k with
  | zero => have : j = 0 := by omega
            subst this; rfl
  | succ k ih =>
    by_cases hj : j = k + 1
    · rw [hj]
    · show sp_sum f k + f k = _
      rw [hz k (by omega) (by omega), ih (by omega) (fun i h1 h2 => hz i h1 (by omega))]; rfl
def sw_W (isL : Nat → Bool) (lf lt R : Nat → Nat) (b l : Nat) : Nat := sp_sum (fun x => if isL x = true ∧ lf x = b then R (lt x) else 0) l
theorem sw_W_at {isL : Nat → Bool} {lf lt R : Nat → Nat} {b l k : Nat} (h : l < k) (hl : isL l = true) (hb : lf l = b) : sw_W isL lf lt R b l + R (lt l) ≤ sw_W isL lf lt R b k := by
  have h1 := sp_sum_ge (f := fun x => if isL x = true ∧ lf x = b then R (lt x) else 0) h
  have h2 : (if isL l = true ∧ lf l = b then R (lt l) else 0) = R (lt l) := if_pos ⟨hl, hb⟩
  have h3 : sp_sum (fun x => if isL x = true ∧ lf x = b then R (lt x) else 0) l + (if isL l = true ∧ lf l = b then R (lt l) else 0) ≤ sp_sum (fun x => if isL x = true ∧ lf x = b then R (lt x) else 0) k := h1
  rw [h2] at h3
  exact h3
theorem sw_W_gap {isL : Nat → Bool} {lf lt R : Nat → Nat} {b j k : Nat} (h : j ≤ k) (hz : ∀ x, j ≤ x → x < k → ¬ (isL x = true ∧ lf x = b)) : sw_W isL lf lt R b k = sw_W isL lf lt R b j := sp_sum_gap h (fun x h1 h2 => if_neg (hz x h1 h2))
theorem sw_W_next {isL : Nat → Bool} {lf lt R : Nat → Nat} {b l k : Nat} (h : l < k) (hl : isL l = true) (hb : lf l = b) (hz : ∀ x, l < x → x < k → ¬ (isL x = true ∧ lf x = b)) : sw_W isL lf lt R b k = sw_W isL lf lt R b l + R (lt l) := by
  rw [sw_W_gap (j := l + 1) h (fun x h1 h2 => hz x h1 h2)]
  show sp_sum _ l + (if isL l = true ∧ lf l = b then R (lt l) else 0) = _
  rw [if_pos ⟨hl, hb⟩]
  rfl
def sw_H (n N : Nat) (isL : Nat → Bool) (lf lt R rho : Nat → Nat) : Prop := R 1 = 1 ∧ (∀ b, b < n → b ≠ 1 → R b = sw_W isL lf lt R b N) ∧ (∀ l, l < N → isL l = true → lf l < n ∧ lf l ≠ 1 ∧ lt l < n ∧ rho (lt l) < rho (lf l)) ∧ (∀ b, b < n → b ≠ 1 → ∃ l, l < N ∧ isL l = true ∧ lf l = b)
abbrev sw_V (isL : Nat → Bool) (lf lt R : Nat → Nat) (l : Nat) : Nat := sw_W isL lf lt R (lf l) l
def sw_C (N : Nat) (isL : Nat → Bool) (lf lt : Nat → Nat) : Nat → List Nat → Nat → Prop
  | b, [], c => b = c
  | b, l :: r, c => l < N ∧ isL l = true ∧ lf l = b ∧ sw_C N isL lf lt (lt l) r c
def sw_n (V : Nat → Nat) : List Nat → Nat
  | [] => 0
  | l :: r => V l + sw_n V r
theorem sw_pos {n N : Nat} {isL : Nat → Bool} {lf lt R rho : Nat → Nat} (H : sw_H n N isL lf lt R rho) : ∀ k b, rho b ≤ k → b < n → 1 ≤ R b := by
  obtain ⟨h1, h2, h3, h4⟩ := H
  intro k
  induction k with
  | zero =>
    intro b hk hb
    by_cases hb1 : b = 1
    · rw [hb1, h1]; exact Nat.le_refl 1
    · obtain ⟨l, hl, hi, hf⟩ := h4 b hb hb1
      have := (h3 l hl hi).2.2.2
      rw [hf] at this
      omega
  | succ k ih =>
    intro b hk hb
    by_cases hb1 : b = 1
    · rw [hb1, h1]; exact Nat.le_refl 1
    · obtain ⟨l, hl, hi, hf⟩ := h4 b hb hb1
      obtain ⟨_, _, h5, h6⟩ := h3 l hl hi
      rw [hf] at h6
      have h7 := ih (lt l) (by omega) h5
      have h8 := sw_W_at (lt := lt) (R := R) hl hi hf
      rw [h2 b hb hb1]
      omega
theorem sw_lt {n N : Nat} {isL : Nat → Bool} {lf lt R rho : Nat → Nat} (H : sw_H n N isL lf lt R rho) : ∀ p b, b < n → sw_C N isL lf lt b p 1 → sw_n (sw_V isL lf lt R) p < R b := by
  obtain ⟨h1, h2, h3, h4⟩ := H
  intro p
  induction p with
  | nil =>
    intro b hb hc
    have hc : b = 1 := hc
    rw [hc, h1]; exact Nat.lt_succ_self 0
  | cons l r ih =>
    intro b hb hc
    obtain ⟨c1, c2, c3, c4⟩ := hc
    obtain ⟨d1, d2, d3, d4⟩ := h3 l c1 c2
    have h5 := ih (lt l) d3 c4
    have h6 := sw_W_at (lt := lt) (R := R) c1 c2 c3
    rw [h2 b hb (by rw [← c3]; exact d2)]
    show sw_W isL lf lt R (lf l) l + _ < _
    rw [c3]
    omega
theorem sw_uniq {n N : Nat} {isL : Nat → Bool} {lf lt R rho : Nat → Nat} (H : sw_H n N isL lf lt R rho) : ∀ p q b, b < n → sw_C N isL lf lt b p 1 → sw_C N isL lf lt b q 1 → sw_n (sw_V isL lf lt R) p = sw_n (sw_V isL lf lt R) q → p = q := by
  intro p
  induction p with
  | nil =>
    intro q b hb hp hq _
    cases q with
    | nil => rfl
    | cons l r =>
      have hp : b = 1 := hp
      obtain ⟨c1, c2, c3, c4⟩ := hq
      exact absurd (c3.trans hp) (H.2.2.1 l c1 c2).2.1
  | cons l r ih =>
    intro q b hb hp hq hn
    obtain ⟨c1, c2, c3, c4⟩ := hp
    cases q with
    | nil =>
      have hq : b = 1 := hq
      exact absurd (c3.trans hq) (H.2.2.1 l c1 c2).2.1
    | cons l' r' =>
      obtain ⟨e1, e2, e3, e4⟩ := hq
      have hn : sw_W isL lf lt R (lf l) l + sw_n (sw_V isL lf lt R) r = sw_W isL lf lt R (lf l') l' + sw_n (sw_V isL lf lt R) r' := hn
      rw [c3, e3] at hn
      have k1 := sw_lt H r (lt l) (H.2.2.1 l c1 c2).2.2.1 c4
      have k2 := sw_lt H r' (lt l') (H.2.2.1 l' e1 e2).2.2.1 e4
      by_cases h : l < l'
      · have := sw_W_at (lt := lt) (R := R) h c2 c3
        omega
      · by_cases h' : l' < l
        · have := sw_W_at (lt := lt) (R := R) h' e2 e3
          omega
        · have hl : l = l' := by omega
          subst hl
          rw [ih r' (lt l) (H.2.2.1 l c1 c2).2.2.1 c4 e4 (by omega)]
theorem sw_app {N : Nat} {isL : Nat → Bool} {lf lt : Nat → Nat} : ∀ p q b c, sw_C N isL lf lt b (p ++ q) c ↔ ∃ d, sw_C N isL lf lt b p d ∧ sw_C N isL lf lt d q c := by
  intro p
  induction p with
  | nil =>
    intro q b c
    constructor
    · intro h; exact ⟨b, rfl, h⟩
    · rintro ⟨d, h1, h2⟩
      have h1 : b = d := h1
      rw [h1]; exact h2
  | cons l r ih =>
    intro q b c
    constructor
    · rintro ⟨h1, h2, h3, h4⟩
      obtain ⟨d, h5, h6⟩ := (ih q (lt l) c).mp h4
      exact ⟨d, ⟨h1, h2, h3, h5⟩, h6⟩
    · rintro ⟨d, ⟨h1, h2, h3, h5⟩, h6⟩
      exact ⟨h1, h2, h3, (ih q (lt l) c).mpr ⟨d, h5, h6⟩⟩
theorem sw_n_app (V : Nat → Nat) (p q : List Nat) : sw_n V (p ++ q) = sw_n V p + sw_n V q := by
  induction p with
  | nil => show sw_n V q = 0 + _; omega
  | cons l r ih => show V l + sw_n V (r ++ q) = V l + sw_n V r + _; omega
theorem sw_len {n N : Nat} {isL : Nat → Bool} {lf lt R rho : Nat → Nat} (H : sw_H n N isL lf lt R rho) : ∀ p b c, sw_C N isL lf lt b p c → p.length + rho c ≤ rho b := by
  intro p
  induction p with
  | nil =>
    intro b c h
    have h : b = c := h
    rw [h]; show 0 + _ ≤ _; omega
  | cons l r ih =>
    intro b c h
    obtain ⟨h1, h2, h3, h4⟩ := h
    have h5 := ih _ _ h4
    have h6 := (H.2.2.1 l h1 h2).2.2.2
    rw [h3] at h6
    show r.length + 1 + _ ≤ _
    omega
theorem sw_C_in {n N : Nat} {isL : Nat → Bool} {lf lt R rho : Nat → Nat} (H : sw_H n N isL lf lt R rho) : ∀ p b c, b < n → sw_C N isL lf lt b p c → c < n := by
  intro p
  induction p with
  | nil =>
    intro b c hb h
    have h : b = c := h
    rw [← h]; exact hb
  | cons l r ih =>
    intro b c _ h
    obtain ⟨h1, h2, h3, h4⟩ := h
    exact ih _ _ (H.2.2.1 l h1 h2).2.2.1 h4
/-- the list that an array holds in its first places -/
def sw_l (f : Nat → Nat) : Nat → List Nat
  | 0 => []
  | k + 1 => sw_l f k ++ [f k]
theorem sw_l_len (f : Nat → Nat) (k : Nat) : (sw_l f k).length = k := by
  induction k with
  | zero => rfl
  | succ k ih =>
    show (sw_l f k ++ [f k]).length = k + 1
    rw [List.length_append, ih]; rfl
theorem sw_l_congr {f g : Nat → Nat} {k : Nat} (h : ∀ i, i < k → f i = g i) : sw_l f k = sw_l g k := by
  induction k with
  | zero => rfl
  | succ k ih =>
    show sw_l f k ++ [f k] = sw_l g k ++ [g k]
    rw [ih (fun i hi => h i (by omega)), h k (by omega)]
theorem sw_l_up {f : Nat → Nat} {j k v : Nat} (h : k ≤ j) : sw_l (va_up f j v) k = sw_l f k := sw_l_congr (fun i hi => sp_up_n f v (by omega))
theorem sw_l_eq {f g : Nat → Nat} {j k : Nat} : sw_l f k = sw_l g j ↔ k = j ∧ ∀ i, i < k → f i = g i := by
  constructor
  · intro h
    have hk : k = j := by
      have := congrArg List.length h
      rw [sw_l_len, sw_l_len] at this
      exact this
    subst hk
    refine ⟨rfl, ?_⟩
    induction k with
    | zero => intro i hi; omega
    | succ k ih =>
      have h : sw_l f k ++ [f k] = sw_l g k ++ [g k] := h
      obtain ⟨h1, h2⟩ := List.append_inj h (by rw [sw_l_len, sw_l_len])
      intro i hi
      by_cases hik : i = k
      · subst hik
        have h2 : f i :: [] = g i :: [] := h2
        exact (List.cons.inj h2).1
      · exact ih h1 i (by omega)
  · rintro ⟨rfl, h⟩
    exact sw_l_congr h
theorem sw_l_get (f : Nat → Nat) (k i : Nat) : (sw_l f k)[i]? = if i < k then some (f i) else none := by
  induction k with
  | zero => rw [if_neg (by omega)]; rfl
  | succ k ih =>
    show (sw_l f k ++ [f k])[i]? = _
    by_cases hi : i < k
    · rw [List.getElem?_append_left (by rw [sw_l_len]; exact hi), ih, if_pos hi, if_pos (by omega)]
    · rw [List.getElem?_append_right (by rw [sw_l_len]; omega), sw_l_len]
      by_cases hik : i = k
      · subst hik
        rw [Nat.sub_self, if_pos (by omega)]; rfl
      · rw [if_neg (by omega), List.getElem?_eq_none (by show 1 ≤ i - k; omega)]
/-- a row goes on: its first links -/
theorem sw_grow {n N : Nat} {isL : Nat → Bool} {lf lt R rho : Nat → Nat} (H : sw_H n N isL lf lt R rho) {f : Nat → Nat} {k c l : Nat} (hC : sw_C N isL lf lt 0 (sw_l f k) c) (hl : l < N) (hi : isL l = true) (hf : lf l = c) (hz : ∀ x, x < l → ¬ (isL x = true ∧ lf x = c)) : sw_C N isL lf lt 0 (sw_l (va_up f k l) (k + 1)) (lt l) ∧ sw_n (sw_V isL lf lt R) (sw_l (va_up f k l) (k + 1)) = sw_n (sw_V isL lf lt R) (sw_l f k) := by
  have e1 : sw_l (va_up f k l) (k + 1) = sw_l f k ++ [l] := by
    show sw_l (va_up f k l) k ++ [va_up f k l k] = _
    rw [sw_l_up (Nat.le_refl k), sp_up_s]
  rw [e1]
  refine ⟨(sw_app _ _ _ _).mpr ⟨c, hC, hl, hi, hf, rfl⟩, ?_⟩
  rw [sw_n_app]
  show _ + (sw_W isL lf lt R (lf l) l + 0) = _
  rw [hf, sw_W_gap (j := 0) (Nat.zero_le l) (fun x _ hx => hz x hx)]
  show _ + (0 + 0) = _
  omega
/-- the last link of a row gives way to the next one from its block -/
theorem sw_turn {n N : Nat} {isL : Nat → Bool} {lf lt R rho : Nat → Nat} (H : sw_H n N isL lf lt R rho) {f : Nat → Nat} {k c o K : Nat} (hC : sw_C N isL lf lt 0 (sw_l f (k + 1)) c) (hK : sw_n (sw_V isL lf lt R) (sw_l f (k + 1)) + R c = K + 1) (ho : o < N) (hi : isL o = true) (hf : lf o = lf (f k)) (hlt : f k < o) (hz : ∀ x, f k < x → x < o → ¬ (isL x = true ∧ lf x = lf (f k))) : sw_C N isL lf lt 0 (sw_l (va_up f k o) (k + 1)) (lt o) ∧ sw_n (sw_V isL lf lt R) (sw_l (va_up f k o) (k + 1)) = K + 1 := by
  have e1 : sw_l (va_up f k o) (k + 1) = sw_l f k ++ [o] := by
    show sw_l (va_up f k o) k ++ [va_up f k o k] = _
    rw [sw_l_up (Nat.le_refl k), sp_up_s]
  have e2 : sw_l f (k + 1) = sw_l f k ++ [f k] := rfl
  rw [e2] at hC hK
  rw [e1]
  obtain ⟨d, h1, h2, h3, h4, h5⟩ := (sw_app _ _ _ _).mp hC
  have h5 : lt (f k) = c := h5
  refine ⟨(sw_app _ _ _ _).mpr ⟨d, h1, ho, hi, hf.trans h4, rfl⟩, ?_⟩
  rw [sw_n_app] at hK ⊢
  have h6 : sw_n (sw_V isL lf lt R) [f k] = sw_W isL lf lt R (lf (f k)) (f k) + 0 := rfl
  have h7 : sw_n (sw_V isL lf lt R) [o] = sw_W isL lf lt R (lf o) o + 0 := rfl
  rw [h6] at hK
  rw [h7, hf, sw_W_next hlt h3 rfl hz, h5]
  omega
/-- no next one: the row is shortened -/
theorem sw_back {n N : Nat} {isL : Nat → Bool} {lf lt R rho : Nat → Nat} (H : sw_H n N isL lf lt R rho) {f : Nat → Nat} {k c K : Nat} (hC : sw_C N isL lf lt 0 (sw_l f (k + 1)) c) (hK : sw_n (sw_V isL lf lt R) (sw_l f (k + 1)) + R c = K + 1) (hz : ∀ x, f k < x → x < N → ¬ (isL x = true ∧ lf x = lf (f k))) : sw_C N isL lf lt 0 (sw_l f k) (lf (f k)) ∧ sw_n (sw_V isL lf lt R) (sw_l f k) + R (lf (f k)) = K + 1 := by
  have e2 : sw_l f (k + 1) = sw_l f k ++ [f k] := rfl
  rw [e2] at hC hK
  obtain ⟨d, h1, h2, h3, h4, h5⟩ := (sw_app _ _ _ _).mp hC
  have h5 : lt (f k) = c := h5
  obtain ⟨g1, g2, g3, g4⟩ := H.2.2.1 (f k) h2 h3
  refine ⟨by rw [h4]; exact h1, ?_⟩
  rw [sw_n_app] at hK
  have h6 : sw_n (sw_V isL lf lt R) [f k] = sw_W isL lf lt R (lf (f k)) (f k) + 0 := rfl
  rw [h6] at hK
  rw [H.2.1 _ g1 g2, sw_W_next h2 h3 rfl hz, h5]
  omega
/-- the last place below k where p holds, and one more; 0 if there is none -/
def sw_last (p : Nat → Bool) (k : Nat) : Nat := sp_it (fun i z => if p i = true then i + 1 else z) k 0
theorem sw_last_at {p : Nat → Bool} {l k : Nat} (h : l < k) (hp : p l = true) (hz : ∀ x, l < x → x < k → ¬ p x = true) : sw_last p k = l + 1 := by
  induction k with
  | zero => omega
  | succ k ih =>
    show (if p k = true then k + 1 else sw_last p k) = l + 1
    by_cases hlk : l = k
    · subst hlk; rw [if_pos hp]
    · rw [if_neg (hz k (by omega) (by omega))]
      exact ih (by omega) (fun x h1 h2 => hz x h1 (by omega))
theorem sw_last_no {p : Nat → Bool} {k : Nat} (hz : ∀ x, x < k → ¬ p x = true) : sw_last p k = 0 := by
  induction k with
  | zero => rfl
  | succ k ih =>
    show (if p k = true then k + 1 else sw_last p k) = 0
    rw [if_neg (hz k (by omega))]
    exact ih (fun x hx => hz x (by omega))
noncomputable def sp_dec (p : Prop) : Bool := @decide p (Classical.propDecidable p)
theorem sp_dec_iff {p : Prop} : sp_dec p = true ↔ p := by
  unfold sp_dec
  exact @decide_eq_true_iff p (Classical.propDecidable p)
/-- a height for blocks, over which links lead down -/
theorem sw_rho {n m : Nat} {fr tg fin : Nat → Nat} (hn : 2 ≤ n) (hO : sv_O n m fr tg fin) (htg : ∀ e, e < m → tg e < n) : ∃ rho : Nat → Nat, rho 1 = 0 ∧ (∀ b, b < n → rho b + 1 ≤ n) ∧ ∀ e, e < m → rho (tg e) < rho (fr e) := by
  obtain ⟨hlt, hinj, hsur, hlk⟩ := hO
  have hbf : ∀ x, ¬ ∃ i j, i < j ∧ j < n ∧ fin i = x ∧ fin j = x := by
    rintro x ⟨i, j, h1, h2, h3, h4⟩
    have := hinj i j (by omega) h2 (by rw [h3, h4])
    omega
  refine ⟨fun b => if b = 1 then 0 else 1 + sp_cnt (fun x => sp_dec (x ≠ 1 ∧ ∃ i j, i < j ∧ j < n ∧ fin i = x ∧ fin j = b)) n, if_pos rfl, fun b hb => ?_, fun e he => ?_⟩
  · by_cases hb1 : b = 1
    · show (if b = 1 then 0 else _) + 1 ≤ n
      rw [if_pos hb1]; omega
    · show (if b = 1 then 0 else _) + 1 ≤ n
      rw [if_neg hb1]
      have h1 := sp_cnt_lt (p := fun x => sp_dec (x ≠ 1 ∧ ∃ i j, i < j ∧ j < n ∧ fin i = x ∧ fin j = b)) (q := fun x => decide (x ≠ 1)) (k := n) (j := b) (fun i _ hi => by
        have := sp_dec_iff.mp hi
        exact decide_eq_true this.1) hb (decide_eq_true hb1) (fun hc => hbf b (sp_dec_iff.mp hc).2)
      have h2 := sp_cnt_lt (p := fun x => decide (x ≠ 1)) (q := fun _ => true) (k := n) (j := 1) (fun _ _ _ => rfl) (by omega) rfl (by decide)
      rw [sp_cnt_true] at h2
      omega
  · have hf1 := (hlk e he).1
    show (if tg e = 1 then 0 else _) < (if fr e = 1 then 0 else _)
    rw [if_neg hf1]
    by_cases ht1 : tg e = 1
    · rw [if_pos ht1]; omega
    · rw [if_neg ht1]
      rcases (hlk e he).2 with h | ⟨i, j, hij, hj, hi1, hj1⟩
      · exact absurd h ht1
      · have h1 := sp_cnt_lt (p := fun x => sp_dec (x ≠ 1 ∧ ∃ i j, i < j ∧ j < n ∧ fin i = x ∧ fin j = tg e)) (q := fun x => sp_dec (x ≠ 1 ∧ ∃ i j, i < j ∧ j < n ∧ fin i = x ∧ fin j = fr e)) (k := n) (j := tg e) (fun x _ hx => by
          obtain ⟨hx1, a, c, hac, hcn, hfa, hfc⟩ := sp_dec_iff.mp hx
          have hci : c = i := hinj c i hcn (by omega) (by rw [hfc, hi1])
          exact sp_dec_iff.mpr ⟨hx1, a, j, by omega, hj, hfa, hj1⟩) (htg e he) (sp_dec_iff.mpr ⟨ht1, i, j, hij, hj, hi1, hj1⟩) (fun hc => hbf _ (sp_dec_iff.mp hc).2)
        omega
/-! the links of a graph: an edge's own one (a back edge's END) has the edge's number, a START 24 more -/
def sl_is (m : Nat) (bk : Nat → Bool) (l : Nat) : Bool := if l < 24 then decide (l < m) else decide (l - 24 < m) && bk (l - 24)
def sl_f (fr : Nat → Nat) (l : Nat) : Nat := if l < 24 then fr l else 0
def sl_t (tg to : Nat → Nat) (l : Nat) : Nat := if l < 24 then tg l else to (l - 24)
/-- the rows that begin with a START of the first e edges -/
def sl_S (to : Nat → Nat) (bk : Nat → Bool) (R : Nat → Nat) (e : Nat) : Nat := sp_sum (fun x => if bk x = true then R (to x) else 0) e
def sl_R (m : Nat) (to : Nat → Nat) (bk : Nat → Bool) (R : Nat → Nat) (b : Nat) : Nat := if b = 0 then R 0 + sl_S to bk R m else R b
theorem sl_low {m : Nat} {fr tg to R : Nat → Nat} {bk : Nat → Bool} (hm : m ≤ 24) (htg : ∀ e, e < m → tg e ≠ 0) {b l : Nat} (hl : l ≤ m) : sw_W (sl_is m bk) (sl_f fr) (sl_t tg to) (sl_R m to bk R) b l = sv_W fr tg R b l := by
  refine sp_sum_congr (fun x hx => ?_)
  have h1 : sl_is m bk x = true := by
    unfold sl_is
    rw [if_pos (by omega)]
    exact decide_eq_true (by omega)
  have h2 : sl_f fr x = fr x := if_pos (by omega)
  have h3 : sl_t tg to x = tg x := if_pos (by omega)
  have h4 : sl_R m to bk R (tg x) = R (tg x) := if_neg (htg x (by omega))
  rw [h1, h2, h3, h4]
  by_cases hf : fr x = b
  · rw [if_pos ⟨rfl, hf⟩, if_pos hf]
  · rw [if_neg (fun hc => hf hc.2), if_neg hf]
theorem sl_mid {m : Nat} {fr tg to R : Nat → Nat} {bk : Nat → Bool} (hm : m ≤ 24) (htg : ∀ e, e < m → tg e ≠ 0) {b l : Nat} (h1 : m ≤ l) (h2 : l ≤ 24) : sw_W (sl_is m bk) (sl_f fr) (sl_t tg to) (sl_R m to bk R) b l = sv_W fr tg R b m := by
  rw [sw_W_gap h1 (fun x h3 h4 hc => ?_), sl_low hm htg (Nat.le_refl m)]
  have h5 := hc.1
  unfold sl_is at h5
  rw [if_pos (by omega)] at h5
  have := of_decide_eq_true h5
  omega
theorem sl_S_le {m e : Nat} {to R : Nat → Nat} {bk : Nat → Bool} (h : e ≤ m) : sl_S to bk R e ≤ sl_S to bk R m := sp_sum_mono h
theorem sl_hi {m : Nat} {fr tg to R : Nat → Nat} {bk : Nat → Bool} (hm : m ≤ 24) (htg : ∀ e, e < m → tg e ≠ 0) (hto : ∀ e, e < m → to e ≠ 0) {b j : Nat} (hj : j ≤ m) : sw_W (sl_is m bk) (sl_f fr) (sl_t tg to) (sl_R m to bk R) b (24 + j) = sv_W fr tg R b m + (if b = 0 then sl_S to bk R j else 0) := by
  induction j with
  | zero =>
    rw [sl_mid hm htg (by omega) (Nat.le_refl 24)]
    by_cases hb : b = 0
    · rw [if_pos hb]; rfl
    · rw [if_neg hb]; rfl
  | succ j ih =>
    show sw_W (sl_is m bk) (sl_f fr) (sl_t tg to) (sl_R m to bk R) b (24 + j) + (if sl_is m bk (24 + j) = true ∧ sl_f fr (24 + j) = b then sl_R m to bk R (sl_t tg to (24 + j)) else 0) = _
    rw [ih (by omega)]
    have h1 : sl_is m bk (24 + j) = bk j := by
      unfold sl_is
      rw [if_neg (by omega), show 24 + j - 24 = j by omega, decide_eq_true (show j < m by omega), Bool.true_and]
    have h2 : sl_f fr (24 + j) = 0 := if_neg (by omega)
    have h3 : sl_t tg to (24 + j) = to j := by
      unfold sl_t
      rw [if_neg (by omega), show 24 + j - 24 = j by omega]
    have h4 : sl_R m to bk R (to j) = R (to j) := if_neg (hto j (by omega))
    have h5 : sl_S to bk R (j + 1) = sl_S to bk R j + (if bk j = true then R (to j) else 0) := rfl
    rw [h1, h2, h3, h4]
    by_cases hb : b = 0
    · rw [if_pos hb, if_pos hb, h5]
      by_cases hk : bk j = true
      · rw [if_pos ⟨hk, hb.symm⟩, if_pos hk]; omega
      · rw [if_neg (fun hc => hk hc.1), if_neg hk]; try omega
    · rw [if_neg hb, if_neg hb, if_neg (fun hc => hb hc.2.symm)]; try omega
theorem sl_all {m : Nat} {fr tg to R : Nat → Nat} {bk : Nat → Bool} (hm : m ≤ 24) (htg : ∀ e, e < m → tg e ≠ 0) (hto : ∀ e, e < m → to e ≠ 0) {b : Nat} : sw_W (sl_is m bk) (sl_f fr) (sl_t tg to) (sl_R m to bk R) b 48 = sv_W fr tg R b m + (if b = 0 then sl_S to bk R m else 0) := by
  rw [← sl_hi hm htg hto (Nat.le_refl m)]
  refine sw_W_gap (by omega) (fun x h1 h2 hc => ?_)
  have h5 := hc.1
  unfold sl_is at h5
  rw [if_neg (by omega)] at h5
  have h6 : decide (x - 24 < m) = false := decide_eq_false (by omega)
  rw [h6, Bool.false_and] at h5
  cases h5
/-- the links of a good graph are links in the sense of the ways -/
theorem sl_H {n m : Nat} {fr tg to fin R V : Nat → Nat} {bk : Nat → Bool} (hn : 2 ≤ n) (hm : m ≤ 24) (hto : ∀ e, e < m → to e < n ∧ to e ≠ 0) (hfr : ∀ e, e < m → fr e < n ∧ fr e ≠ 1) (htg : ∀ e, e < m → tg e < n ∧ tg e ≠ 0) (hO : sv_O n m fr tg fin) (hR : sv_R n m fr tg R V) (hout : ∀ b, b < n → b ≠ 1 → ∃ e, e < m ∧ fr e = b) : ∃ rho : Nat → Nat, rho 1 = 0 ∧ rho 0 = n ∧ (∀ b, b < n → b ≠ 0 → rho b + 1 ≤ n) ∧ sw_H n 48 (sl_is m bk) (sl_f fr) (sl_t tg to) (sl_R m to bk R) rho := by
  obtain ⟨rho, r1, r2, r3⟩ := sw_rho hn hO (fun e he => (htg e he).1)
  obtain ⟨rh, hrh⟩ : ∃ f : Nat → Nat, ∀ b, f b = if b = 0 then n else rho b := ⟨_, fun _ => rfl⟩
  have e0 : ∀ b, b ≠ 0 → rh b = rho b := fun b hb => by rw [hrh, if_neg hb]
  have e1 : rh 0 = n := by rw [hrh, if_pos rfl]
  refine ⟨rh, by rw [e0 1 (by decide)]; exact r1, e1, fun b hb hb0 => by rw [e0 b hb0]; exact r2 b hb, ?_, ?_, ?_, ?_⟩
  · show (if 1 = 0 then _ else R 1) = 1
    rw [if_neg (by decide)]; exact hR.1
  · intro b hb hb1
    rw [sl_all hm (fun e he => (htg e he).2) (fun e he => (hto e he).2), ← hR.2.1 b hb hb1]
    unfold sl_R
    by_cases h0 : b = 0
    · rw [if_pos h0, if_pos h0, h0]
    · rw [if_neg h0, if_neg h0]; rfl
  · intro l hl hi
    by_cases h24 : l < 24
    · have h1 : l < m := by
        unfold sl_is at hi
        rw [if_pos h24] at hi
        exact of_decide_eq_true hi
      have h2 : sl_f fr l = fr l := if_pos h24
      have h3 : sl_t tg to l = tg l := if_pos h24
      rw [h2, h3]
      refine ⟨(hfr l h1).1, (hfr l h1).2, (htg l h1).1, ?_⟩
      rw [e0 _ (htg l h1).2]
      by_cases hf0 : fr l = 0
      · rw [hf0, e1]
        have := r2 (tg l) (htg l h1).1
        omega
      · rw [e0 _ hf0]; exact r3 l h1
    · have h1 : l - 24 < m := by
        unfold sl_is at hi
        rw [if_neg h24] at hi
        by_cases hx : l - 24 < m
        · exact hx
        · rw [decide_eq_false hx, Bool.false_and] at hi; cases hi
      have h2 : sl_f fr l = 0 := if_neg h24
      have h3 : sl_t tg to l = to (l - 24) := if_neg h24
      rw [h2, h3]
      refine ⟨by omega, by decide, (hto _ h1).1, ?_⟩
      rw [e0 _ (hto _ h1).2, e1]
      have := r2 (to (l - 24)) (hto _ h1).1
      omega
  · intro b hb hb1
    obtain ⟨e, he, hf⟩ := hout b hb hb1
    refine ⟨e, by omega, ?_, ?_⟩
    · unfold sl_is
      rw [if_pos (by omega)]
      exact decide_eq_true he
    · rw [show sl_f fr e = fr e from if_pos (by omega)]; exact hf
