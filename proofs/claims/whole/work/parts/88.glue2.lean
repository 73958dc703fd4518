/-! glue: links and rows -/
abbrev zAI (m : Nat) (bk : Nat → Bool) (I0 : Nat → Bool) : Nat → Bool := sp_it (zl (fun _ => true) (fun i => decide (i < m)) (fun i => decide (i < m) && bk i)) 24 I0
abbrev zAF (m : Nat) (fr : Nat → Nat) (F0 : Nat → Nat) : Nat → Nat := sp_it (zl (fun i => decide (i < m)) fr (fun _ => 0)) 24 F0
abbrev zAT (m : Nat) (to : Nat → Nat) (bk : Nat → Bool) (T0 : Nat → Nat) : Nat → Nat := sp_it (zl (fun i => decide (i < m)) (fun i => if bk i = true then 1 else to i) to) 24 T0
abbrev zAR (n : Nat) (isL : Nat → Bool) (lf lt R0 : Nat → Nat) : Nat → Nat := sp_it (fun _ R => sp_it (zlr isL lf lt) n R) n (sp_it zr1 n R0)
theorem zIL {m : Nat} {bk bk2 : Nat → Bool} (hb : ∀ e, e < m → bk2 e = bk e) (I0 : Nat → Bool) {l : Nat} (hl : l < 48) : zAI m bk2 I0 l = sl_is m bk l := by
  show sp_it (zl (fun _ => true) (fun i => decide (i < m)) (fun i => decide (i < m) && bk2 i)) 24 I0 l = _
  rw [zl_spec _ _ _ _ _ 24 (Nat.le_refl _)]
  unfold sl_is
  by_cases h1 : l < 24
  · rw [if_pos (show l < 24 ∧ true = true from ⟨h1, rfl⟩), if_pos h1]
  · rw [if_neg (show ¬ (l < 24 ∧ true = true) from fun hc => h1 hc.1), if_pos (show 24 ≤ l ∧ l < 24 + 24 ∧ true = true from ⟨by omega, by omega, rfl⟩), if_neg h1]
    by_cases h2 : l - 24 < m
    · rw [hb _ h2]
    · rw [decide_eq_false h2, Bool.false_and, Bool.false_and]
theorem zLF {m : Nat} {fr : Nat → Nat} {bk : Nat → Bool} (F0 : Nat → Nat) {l : Nat} (hl : l < 48) (h : sl_is m bk l = true) : zAF m fr F0 l = sl_f fr l := by
  show sp_it (zl (fun i => decide (i < m)) fr (fun _ => 0)) 24 F0 l = _
  rw [zl_spec _ _ _ _ _ 24 (Nat.le_refl _)]
  unfold sl_is at h
  unfold sl_f
  by_cases h1 : l < 24
  · rw [if_pos h1] at h
    rw [if_pos (show l < 24 ∧ decide (l < m) = true from ⟨h1, h⟩), if_pos h1]
  · rw [if_neg h1, Bool.and_eq_true] at h
    rw [if_neg (show ¬ (l < 24 ∧ decide (l < m) = true) from fun hc => h1 hc.1), if_pos (show 24 ≤ l ∧ l < 24 + 24 ∧ decide (l - 24 < m) = true from ⟨by omega, by omega, h.1⟩), if_neg h1]
theorem zLT {m : Nat} {to : Nat → Nat} {bk bk2 : Nat → Bool} (hb : ∀ e, e < m → bk2 e = bk e) (T0 : Nat → Nat) {l : Nat} (hl : l < 48) (h : sl_is m bk l = true) : zAT m to bk2 T0 l = sl_t (ztg bk to) to l := by
  show sp_it (zl (fun i => decide (i < m)) (fun i => if bk2 i = true then 1 else to i) to) 24 T0 l = _
  rw [zl_spec _ _ _ _ _ 24 (Nat.le_refl _)]
  unfold sl_is at h
  unfold sl_t
  by_cases h1 : l < 24
  · rw [if_pos h1] at h
    rw [if_pos (show l < 24 ∧ decide (l < m) = true from ⟨h1, h⟩), if_pos h1]
    unfold ztg
    rw [hb l (of_decide_eq_true h)]
  · rw [if_neg h1, Bool.and_eq_true] at h
    rw [if_neg (show ¬ (l < 24 ∧ decide (l < m) = true) from fun hc => h1 hc.1), if_pos (show 24 ≤ l ∧ l < 24 + 24 ∧ decide (l - 24 < m) = true from ⟨by omega, by omega, h.1⟩), if_neg h1]
theorem sw_Wc {isL isL' : Nat → Bool} {lf lf' lt lt' R R' : Nat → Nat} {b k : Nat} (h : ∀ l, l < k → isL l = isL' l ∧ (isL' l = true → lf l = lf' l ∧ R (lt l) = R' (lt' l))) : sw_W isL lf lt R b k = sw_W isL' lf' lt' R' b k := by
  refine sp_sum_congr (fun i hi => ?_)
  obtain ⟨h1, h2⟩ := h i hi
  show (if isL i = true ∧ lf i = b then R (lt i) else 0) = (if isL' i = true ∧ lf' i = b then R' (lt' i) else 0)
  by_cases hc : isL' i = true
  · obtain ⟨h3, h4⟩ := h2 hc
    rw [h3, h4, h1]
  · rw [if_neg (show ¬ (isL i = true ∧ lf i = b) from fun hh => hc (h1.symm.trans hh.1)), if_neg (show ¬ (isL' i = true ∧ lf' i = b) from fun hh => hc hh.1)]
theorem zrow {n : Nat} {isL isL' : Nat → Bool} {lf lf' lt lt' R rho : Nat → Nat} (H : sw_H n 48 isL' lf' lt' R rho) (hrho : ∀ b, b < n → rho b ≤ n) (hc : ∀ l, l < 48 → isL l = isL' l ∧ (isL' l = true → lf l = lf' l ∧ lt l = lt' l)) (R0 : Nat → Nat) : ∀ b, b < n → zAR n isL lf lt R0 b = R b := by
  intro b hb
  rw [← sl_rounds H hrho b hb]
  refine sp_it_rel (f := fun _ R => sp_it (zlr isL lf lt) n R) (g := fun _ => sl_rd n 48 isL' lf' lt') (I := fun _ (x y : Nat → Nat) => ∀ b, b < n → x b = y b) ?_ n (fun i x y _ hxy => ?_) b hb
  · have h0 : ∀ k, k ≤ n → ∀ x, x < k → sp_it zr1 k R0 x = if x = 1 then 1 else 0 := by
      intro k
      induction k with
      | zero => intro _ x hx; omega
      | succ k ih =>
        intro hk x hx
        show va_up (sp_it zr1 k R0) k (if k = 1 then 1 else 0) x = _
        by_cases h : x = k
        · rw [h, sp_up_s]
        · rw [sp_up_n _ _ h]; exact ih (by omega) x (by omega)
    exact fun x hx => h0 n (Nat.le_refl _) x hx
  · refine sp_it_rel (f := zlr isL lf lt) (g := fun b r => va_up r b (if b = 1 then 1 else sw_W isL' lf' lt' r b 48)) (I := fun _ (x y : Nat → Nat) => ∀ b, b < n → x b = y b) hxy n (fun c x y hc2 hxy2 => ?_)
    intro b hb
    show va_up x c (if c = 1 then 1 else sw_W isL lf lt x c 48) b = va_up y c (if c = 1 then 1 else sw_W isL' lf' lt' y c 48) b
    have hw : sw_W isL lf lt x c 48 = sw_W isL' lf' lt' y c 48 := sw_Wc (fun l hl => by
      obtain ⟨q1, q2⟩ := hc l hl
      refine ⟨q1, fun h => ?_⟩
      obtain ⟨q3, q4⟩ := q2 h
      refine ⟨q3, ?_⟩
      rw [q4]
      exact hxy2 _ (H.2.2.1 l hl h).2.2.1)
    rw [hw]
    by_cases h : b = c
    · rw [h, sp_up_s, sp_up_s]
    · rw [sp_up_n _ _ h, sp_up_n _ _ h]; exact hxy2 b hb
theorem sw_Hc {n : Nat} {isL isL' : Nat → Bool} {lf lf' lt lt' R R' rho : Nat → Nat} (H : sw_H n 48 isL' lf' lt' R' rho) (hn : 2 ≤ n) (hc : ∀ l, l < 48 → isL l = isL' l ∧ (isL' l = true → lf l = lf' l ∧ lt l = lt' l)) (hR : ∀ b, b < n → R b = R' b) : sw_H n 48 isL lf lt R rho ∧ ∀ l, l < 48 → isL l = true → sw_V isL lf lt R l = sw_V isL' lf' lt' R' l := by
  obtain ⟨h1, h2, h3, h4⟩ := H
  have hw : ∀ b k, k ≤ 48 → sw_W isL lf lt R b k = sw_W isL' lf' lt' R' b k := fun b k hk => sw_Wc (fun l hl => by
    obtain ⟨q1, q2⟩ := hc l (by omega)
    refine ⟨q1, fun h => ?_⟩
    obtain ⟨q3, q4⟩ := q2 h
    exact ⟨q3, by rw [q4]; exact hR _ (h3 l (by omega) h).2.2.1⟩)
  refine ⟨⟨(hR 1 (by omega)).trans h1, fun b hb hb1 => ?_, fun l hl hi => ?_, fun b hb hb1 => ?_⟩, fun l hl hi => ?_⟩
  · rw [hw b 48 (Nat.le_refl _), hR b hb]; exact h2 b hb hb1
  · obtain ⟨q1, q2⟩ := hc l hl
    have hi' := q1.symm.trans hi
    obtain ⟨q3, q4⟩ := q2 hi'
    rw [q3, q4]
    exact h3 l hl hi'
  · obtain ⟨l, g1, g2, g3⟩ := h4 b hb hb1
    obtain ⟨q1, q2⟩ := hc l g1
    exact ⟨l, g1, q1.trans g2, (q2 g2).1.trans g3⟩
  · obtain ⟨q1, q2⟩ := hc l hl
    show sw_W isL lf lt R (lf l) l = sw_W isL' lf' lt' R' (lf' l) l
    rw [hw _ l (by omega), (q2 (q1.symm.trans hi)).1]
theorem zlinks {n m : Nat} {fr to fin R V : Nat → Nat} {bk bk2 : Nat → Bool} (hg : sg_ok n m fr to) (hb : ∀ e, e < m → bk2 e = bk e) (hO : sv_O n m fr (ztg bk to) fin) (hR : sv_R n m fr (ztg bk to) R V) (hout : ∀ b, b < n → b ≠ 1 → ∃ e, e < m ∧ fr e = b) (I0 : Nat → Bool) (F0 T0 R0 : Nat → Nat) : ∃ rho : Nat → Nat, rho 1 = 0 ∧ rho 0 = n ∧ (∀ b, b < n → rho b ≤ n) ∧ sw_H n 48 (zAI m bk2 I0) (zAF m fr F0) (zAT m to bk2 T0) (zAR n (zAI m bk2 I0) (zAF m fr F0) (zAT m to bk2 T0) R0) rho ∧ (∀ b, b < n → zAR n (zAI m bk2 I0) (zAF m fr F0) (zAT m to bk2 T0) R0 b = sl_R m to bk R b) ∧ (∀ e, e < m → sw_V (zAI m bk2 I0) (zAF m fr F0) (zAT m to bk2 T0) (zAR n (zAI m bk2 I0) (zAF m fr F0) (zAT m to bk2 T0) R0) e = V e) ∧ (∀ e, e < m → bk e = true → sw_V (zAI m bk2 I0) (zAF m fr F0) (zAT m to bk2 T0) (zAR n (zAI m bk2 I0) (zAF m fr F0) (zAT m to bk2 T0) R0) (24 + e) = R 0 + sl_S to bk R e) := by
  obtain ⟨hn, hn2, hm, hgo⟩ := hg
  have htg : ∀ e, e < m → ztg bk to e < n ∧ ztg bk to e ≠ 0 := fun e he => by
    have h9 := hgo e he
    unfold ztg
    by_cases h : bk e = true
    · rw [if_pos h]; omega
    · rw [if_neg h]; exact ⟨h9.2.1, h9.2.2.2⟩
  obtain ⟨rho, p1, p2, p3, H⟩ := sl_H (bk := bk) hn hm (fun e he => ⟨(hgo e he).2.1, (hgo e he).2.2.2⟩) (fun e he => ⟨(hgo e he).1, (hgo e he).2.2.1⟩) htg hO hR hout
  have hrho : ∀ b, b < n → rho b ≤ n := fun b hb => by
    by_cases h : b = 0
    · rw [h, p2]; exact Nat.le_refl _
    · have := p3 b hb h; omega
  have hc : ∀ l, l < 48 → zAI m bk2 I0 l = sl_is m bk l ∧ (sl_is m bk l = true → zAF m fr F0 l = sl_f fr l ∧ zAT m to bk2 T0 l = sl_t (ztg bk to) to l) := fun l hl => ⟨zIL hb I0 hl, fun h => ⟨zLF F0 hl h, zLT hb T0 hl h⟩⟩
  have hr := zrow H hrho hc R0
  obtain ⟨H2, hV⟩ := sw_Hc H hn hc hr
  refine ⟨rho, p1, p2, hrho, H2, hr, fun e he => ?_, fun e he hbe => ?_⟩
  · have hi : zAI m bk2 I0 e = true := by
      rw [(hc e (by omega)).1]
      unfold sl_is
      rw [if_pos (by omega)]
      exact decide_eq_true he
    rw [hV e (by omega) hi]
    show sw_W (sl_is m bk) (sl_f fr) (sl_t (ztg bk to) to) (sl_R m to bk R) (sl_f fr e) e = V e
    rw [sl_low hm (fun e he => (htg e he).2) (by omega), hR.2.2 e he, show sl_f fr e = fr e from if_pos (by omega)]
  · have hi : zAI m bk2 I0 (24 + e) = true := by
      rw [(hc (24 + e) (by omega)).1]
      unfold sl_is
      rw [if_neg (by omega), Nat.add_sub_cancel_left, decide_eq_true he, hbe]
      rfl
    rw [hV (24 + e) (by omega) hi]
    show sw_W (sl_is m bk) (sl_f fr) (sl_t (ztg bk to) to) (sl_R m to bk R) (sl_f fr (24 + e)) (24 + e) = _
    rw [show sl_f fr (24 + e) = 0 from if_neg (by omega), sl_hi hm (fun e he => (htg e he).2) (fun e he => (hgo e he).2.2.2) (by omega), if_pos rfl, ← hR.2.1 0 (by omega) (by decide)]
