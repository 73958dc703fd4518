/-! pure side: trees grown over an order; without back edges; spanning and cuts (draft of 2026-11-15, not built yet) -/
theorem sj_G_congr {A B : Nat → Nat} {k n : Nat} {g g' : Nat → Nat} (h : ∀ b, b < n → g b = g' b) (hG : sj_G A B k n g) : sj_G A B k n g' := by
  intro x y hx hy
  rw [← h x hx, ← h y hy]
  exact hG x y hx hy
def st_g (fr to ord : Nat → Nat) (n i : Nat) (s : (Nat → Nat) × (Nat → Bool)) : (Nat → Nat) × (Nat → Bool) := (sj_join n s.1 (fr (ord i)) (to (ord i)), va_up s.2 (ord i) (decide (s.1 (fr (ord i)) ≠ s.1 (to (ord i)))))
theorem st_grow {n k : Nat} {fr to ord : Nat → Nat} (hn : 2 ≤ n) (hin : ∀ i, i < k → fr (ord i) < n ∧ to (ord i) < n) (hinj : ∀ i j, i < k → j < k → ord i = ord j → i = j) {g0 : Nat → Nat} (hg : ∀ b, b < n → g0 b = b) (has0 : Nat → Bool) :
    sj_G (fun i => fr (ord i)) (fun i => to (ord i)) k n (sp_it (st_g fr to ord n) k (sj_join n g0 0 1, has0)).1 ∧ (∀ x, x < k → ((sp_it (st_g fr to ord n) k (sj_join n g0 0 1, has0)).2 (ord x) = true ↔ sj_T (fun i => fr (ord i)) (fun i => to (ord i)) x)) ∧ ∀ e, (∀ x, x < k → ord x ≠ e) → (sp_it (st_g fr to ord n) k (sj_join n g0 0 1, has0)).2 e = has0 e := by
  have h0 : sj_G (fun i => fr (ord i)) (fun i => to (ord i)) 0 n (sj_join n g0 0 1) := by
    refine sj_G_congr (fun b hb => ?_) (sj_G_0 hn)
    show (if b < n ∧ b = 1 then 0 else b) = (if b < n ∧ g0 b = g0 1 then g0 0 else g0 b)
    rw [hg b hb, hg 1 (by omega), hg 0 (by omega)]
  refine sp_it_inv (I := fun i (s : (Nat → Nat) × (Nat → Bool)) => sj_G (fun i => fr (ord i)) (fun i => to (ord i)) i n s.1 ∧ (∀ x, x < i → (s.2 (ord x) = true ↔ sj_T (fun i => fr (ord i)) (fun i => to (ord i)) x)) ∧ ∀ e, (∀ x, x < i → ord x ≠ e) → s.2 e = has0 e) ⟨h0, fun x hx => by omega, fun e _ => rfl⟩ k ?_
  intro i s hi hs
  obtain ⟨h1, h2, h3⟩ := hs
  refine ⟨sj_G_step hn (fun x hx => hin x (by omega)) h1, fun x hx => ?_, fun e he => ?_⟩
  · show va_up s.2 (ord i) _ (ord x) = true ↔ _
    by_cases hxi : x = i
    · subst hxi
      rw [sp_up_s]
      obtain ⟨g1, g2⟩ := hin x hi
      have g3 := h1 (fr (ord x)) (to (ord x)) g1 g2
      constructor
      · intro hd hc
        exact (of_decide_eq_true hd) (g3.mpr hc)
      · intro hT
        exact decide_eq_true (fun hc => hT (g3.mp hc))
    · rw [sp_up_n _ _ (fun hc => hxi (hinj x i (by omega) hi hc))]
      exact h2 x (by omega)
  · show va_up s.2 (ord i) _ e = has0 e
    rw [sp_up_n _ _ (fun hc => he i (by omega) hc.symm)]
    exact h3 e (fun x hx => he x (by omega))
def st_f (bk : Nat → Bool) (ord : Nat → Nat) (i : Nat) (s : (Nat → Nat) × Nat) : (Nat → Nat) × Nat := if bk (ord i) = true then s else (va_up s.1 s.2 (ord i), s.2 + 1)
theorem st_filter {m : Nat} {bk : Nat → Bool} {ord : Nat → Nat} (hinj : ∀ i j, i < m → j < m → ord i = ord j → i = j) (o0 : Nat → Nat) : (sp_it (st_f bk ord) m (o0, 0)).2 ≤ m ∧ (∀ x, x < (sp_it (st_f bk ord) m (o0, 0)).2 → ∃ i, i < m ∧ ord i = (sp_it (st_f bk ord) m (o0, 0)).1 x ∧ bk (ord i) = false) ∧ (∀ i, i < m → bk (ord i) = false → ∃ x, x < (sp_it (st_f bk ord) m (o0, 0)).2 ∧ (sp_it (st_f bk ord) m (o0, 0)).1 x = ord i) ∧ ∀ x y, x < (sp_it (st_f bk ord) m (o0, 0)).2 → y < (sp_it (st_f bk ord) m (o0, 0)).2 → (sp_it (st_f bk ord) m (o0, 0)).1 x = (sp_it (st_f bk ord) m (o0, 0)).1 y → x = y := by
  have key : ∀ k, k ≤ m → (sp_it (st_f bk ord) k (o0, 0)).2 ≤ k ∧ (∀ x, x < (sp_it (st_f bk ord) k (o0, 0)).2 → ∃ i, i < k ∧ ord i = (sp_it (st_f bk ord) k (o0, 0)).1 x ∧ bk (ord i) = false) ∧ (∀ i, i < k → bk (ord i) = false → ∃ x, x < (sp_it (st_f bk ord) k (o0, 0)).2 ∧ (sp_it (st_f bk ord) k (o0, 0)).1 x = ord i) ∧ ∀ x y, x < (sp_it (st_f bk ord) k (o0, 0)).2 → y < (sp_it (st_f bk ord) k (o0, 0)).2 → (sp_it (st_f bk ord) k (o0, 0)).1 x = (sp_it (st_f bk ord) k (o0, 0)).1 y → x = y := by
    intro k
    induction k with
    | zero =>
      intro _
      exact ⟨Nat.le_refl 0, fun x hx => absurd hx (Nat.not_lt_zero x), fun i hi => absurd hi (Nat.not_lt_zero i), fun x _ hx => absurd hx (Nat.not_lt_zero x)⟩
    | succ k ih =>
      intro hk
      obtain ⟨h1, h2, h3, h4⟩ := ih (by omega)
      have e1 : sp_it (st_f bk ord) (k + 1) (o0, 0) = st_f bk ord k (sp_it (st_f bk ord) k (o0, 0)) := rfl
      rw [e1]
      generalize sp_it (st_f bk ord) k (o0, 0) = s at h1 h2 h3 h4 ⊢
      unfold st_f
      by_cases hb : bk (ord k) = true
      · rw [if_pos hb]
        refine ⟨by omega, fun x hx => ?_, fun i hi hbi => ?_, h4⟩
        · obtain ⟨i, g1, g2, g3⟩ := h2 x hx
          exact ⟨i, by omega, g2, g3⟩
        · have hik : i ≠ k := fun hc => by rw [hc, hb] at hbi; cases hbi
          exact h3 i (by omega) hbi
      · rw [if_neg hb]
        have hbf : bk (ord k) = false := by
          cases h : bk (ord k) with
          | true => exact absurd h hb
          | false => rfl
        refine ⟨by show s.2 + 1 ≤ k + 1; omega, fun x hx => ?_, fun i hi hbi => ?_, fun x y hx hy hxy => ?_⟩
        · have hx : x < s.2 + 1 := hx
          by_cases hxs : x = s.2
          · exact ⟨k, by omega, by rw [hxs]; exact (sp_up_s _ _ _).symm, hbf⟩
          · obtain ⟨i, g1, g2, g3⟩ := h2 x (by omega)
            exact ⟨i, by omega, by rw [g2]; exact (sp_up_n _ _ hxs).symm, g3⟩
        · by_cases hik : i = k
          · exact ⟨s.2, by show s.2 < s.2 + 1; omega, by rw [hik]; exact sp_up_s _ _ _⟩
          · obtain ⟨x, g1, g2⟩ := h3 i (by omega) hbi
            exact ⟨x, by show x < s.2 + 1; omega, by rw [← g2]; exact sp_up_n _ _ (by omega)⟩
        · have hx : x < s.2 + 1 := hx
          have hy : y < s.2 + 1 := hy
          have hxy : va_up s.1 s.2 (ord k) x = va_up s.1 s.2 (ord k) y := hxy
          have no : ∀ z, z < s.2 → s.1 z ≠ ord k := by
            intro z hz hc
            obtain ⟨i, g1, g2, _⟩ := h2 z hz
            have := hinj i k (by omega) (by omega) (by rw [g2, hc])
            omega
          by_cases hxs : x = s.2
          · by_cases hys : y = s.2
            · omega
            · rw [hxs, sp_up_s, sp_up_n _ _ hys] at hxy
              exact absurd hxy.symm (no y (by omega))
          · by_cases hys : y = s.2
            · rw [hys, sp_up_s, sp_up_n _ _ hxs] at hxy
              exact absurd hxy (no x (by omega))
            · rw [sp_up_n _ _ hxs, sp_up_n _ _ hys] at hxy
              exact h4 x y (by omega) (by omega) hxy
  exact key m (Nat.le_refl m)
/-- pairs among which all edges are that are not back join every block with ENTRY -/
theorem st_span {n m k : Nat} {fr to ord : Nat → Nat} {bk : Nat → Bool} (hall : ∀ e, e < m → bk e = false → ∃ x, x < k ∧ ord x = e) (hjoin : ∀ b, b < n → ∀ S : Nat → Bool, (∀ e, e < m → bk e = false → S (fr e) = S (to e)) → S b = S 0) : ∀ b, b < n → sj_C (fun i => fr (ord i)) (fun i => to (ord i)) k b 0 := by
  intro b hb S _ hS
  refine hjoin b hb S (fun e he hbk => ?_)
  obtain ⟨x, hx, ho⟩ := hall e he hbk
  have := hS x hx
  rw [← ho]
  exact this
/-- the cut of an edge of the tree: what is near -/
theorem st_cut {n m cut : Nat} {fr to ord : Nat → Nat} {has : Nat → Bool} (hn : 2 ≤ n) (hok : ∀ e, e < m → fr e < n ∧ to e < n) (hord : ∀ x, x < m → ord x < m) (hsur : ∀ e, e < m → ∃ x, x < m ∧ ord x = e) (hhas : ∀ x, x < m → (has (ord x) = true ↔ sj_T (fun i => fr (ord i)) (fun i => to (ord i)) x)) (hspan : ∀ b, b < n → sj_C (fun i => fr (ord i)) (fun i => to (ord i)) m b 0) (hcm : cut < m) (hcut : has cut = true) : sb_near fr to has cut m n 0 = true ∧ sb_near fr to has cut m n 1 = true ∧ (∀ b, sb_near fr to has cut m n b = true → b < n) ∧ (∀ e, e < m → has e = true → e ≠ cut → sb_near fr to has cut m n (fr e) = sb_near fr to has cut m n (to e)) ∧ sb_near fr to has cut m n (fr cut) ≠ sb_near fr to has cut m n (to cut) := by
  obtain ⟨i, hi, hoi⟩ := hsur cut hcm
  have hT : sj_T (fun i => fr (ord i)) (fun i => to (ord i)) i := (hhas i hi).mp (by rw [hoi]; exact hcut)
  obtain ⟨S, s0, s1, s2⟩ := sj_cut (A := fun i => fr (ord i)) (B := fun i => to (ord i)) m i hi hT
  have hspan2 : ∀ T : Nat → Bool, T 0 = T 1 → (∀ e, e < m → has e = true → T (fr e) = T (to e)) → ∀ b, b < n → T b = T 0 := by
    intro T h0 hT2 b hb
    exact hspan b hb T h0 (sj_span (A := fun i => fr (ord i)) (B := fun i => to (ord i)) h0 (fun j hj hTj => hT2 (ord j) (hord j hj) ((hhas j hj).mpr hTj)))
  have main : ∀ S : Nat → Bool, S 0 = S 1 → S (fr cut) ≠ S (to cut) → (∀ e, e < m → has e = true → e ≠ cut → S (fr e) = S (to e)) → S 0 = false → sb_near fr to has cut m n 0 = true ∧ sb_near fr to has cut m n 1 = true ∧ (∀ b, sb_near fr to has cut m n b = true → b < n) ∧ (∀ e, e < m → has e = true → e ≠ cut → sb_near fr to has cut m n (fr e) = sb_near fr to has cut m n (to e)) ∧ sb_near fr to has cut m n (fr cut) ≠ sb_near fr to has cut m n (to cut) := fun S h01 hx hS h0 => sb_cut hn hok hcm h0 (by rw [← h01]; exact h0) hx hS hspan2
  have s1 : S (fr cut) ≠ S (to cut) := by rw [← hoi]; exact s1
  have s2 : ∀ e, e < m → has e = true → e ≠ cut → S (fr e) = S (to e) := by
    intro e he hh hec
    obtain ⟨j, hj, hoj⟩ := hsur e he
    have := s2 j hj ((hhas j hj).mp (by rw [hoj]; exact hh)) (fun hc => hec (by rw [← hoj, hc, hoi]))
    rw [← hoj]
    exact this
  cases h0 : S 0 with
  | false => exact main S s0 s1 s2 h0
  | true =>
    refine main (fun b => !S b) (by show (!S 0) = (!S 1); rw [s0]) (fun hc => s1 ?_) (fun e he hh hec => by show (!S (fr e)) = (!S (to e)); rw [s2 e he hh hec]) (by show (!S 0) = false; rw [h0]; rfl)
    have hc : (!S (fr cut)) = (!S (to cut)) := hc
    cases ha : S (fr cut) <;> cases hb : S (to cut) <;> simp [ha, hb] at hc ⊢
