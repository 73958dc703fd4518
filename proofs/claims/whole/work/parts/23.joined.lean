/-! pure side: growing steps, joined blocks, trees, cuts (draft of 2026-11-15) -/
def sp_le (S T : Nat → Bool) : Prop := ∀ b, S b = true → T b = true
theorem sp_le_refl (S : Nat → Bool) : sp_le S S := fun _ h => h
theorem sp_le_trans {S T U : Nat → Bool} (h1 : sp_le S T) (h2 : sp_le T U) : sp_le S U := fun b h => h2 b (h1 b h)
theorem sp_le_eq {S T : Nat → Bool} (h1 : sp_le S T) (h2 : sp_le T S) : S = T := by
  funext b
  cases hs : S b with
  | true => exact (h1 b hs).symm
  | false =>
    cases ht : T b with
    | true => rw [h2 b ht] at hs; exact hs.symm
    | false => rfl
theorem sp_it_grow {f : Nat → (Nat → Bool) → (Nat → Bool)} (hf : ∀ i S, sp_le S (f i S)) (S : Nat → Bool) (k : Nat) : sp_le S (sp_it f k S) := by
  induction k with
  | zero => exact sp_le_refl S
  | succ k ih => exact sp_le_trans ih (hf k _)
theorem sp_it_grow2 {f : Nat → (Nat → Bool) → (Nat → Bool)} (hf : ∀ i S, sp_le S (f i S)) (S : Nat → Bool) {i k : Nat} (h : i ≤ k) : sp_le (sp_it f i S) (sp_it f k S) := by
  induction k with
  | zero => have : i = 0 := by omega
            subst this; exact sp_le_refl _
  | succ k ih =>
    by_cases hi : i = k + 1
    · subst hi; exact sp_le_refl _
    · exact sp_le_trans (ih (by omega)) (hf k _)
/-- growing steps that change nothing all together change nothing one by one -/
theorem sp_it_fix {f : Nat → (Nat → Bool) → (Nat → Bool)} (hf : ∀ i S, sp_le S (f i S)) {S : Nat → Bool} {k : Nat} (h : sp_it f k S = S) : ∀ i, i < k → f i S = S := by
  have hall : ∀ i, i ≤ k → sp_it f i S = S := fun i hi => sp_le_eq (by have := sp_it_grow2 hf S hi; rw [h] at this; exact this) (sp_it_grow hf S i)
  intro i hi
  have h1 := hall (i + 1) hi
  have h2 := hall i (by omega)
  have h3 : sp_it f (i + 1) S = f i (sp_it f i S) := rfl
  rw [h2] at h3
  rw [← h3]; exact h1
theorem sp_up_le {S : Nat → Bool} {k : Nat} {v : Bool} (h : S k = true → v = true) : sp_le S (va_up S k v) := by
  intro b hb
  by_cases hk : b = k
  · subst hk; rw [sp_up_s]; exact h hb
  · rw [sp_up_n S v hk]; exact hb
/-- x and y are joined by the first k pairs, 0 and 1 being joined always -/
def sj_C (A B : Nat → Nat) (k x y : Nat) : Prop := ∀ S : Nat → Bool, S 0 = S 1 → (∀ i, i < k → S (A i) = S (B i)) → S x = S y
theorem sj_C_refl {A B : Nat → Nat} {k x : Nat} : sj_C A B k x x := fun _ _ _ => rfl
theorem sj_C_symm {A B : Nat → Nat} {k x y : Nat} (h : sj_C A B k x y) : sj_C A B k y x := fun S h0 hS => (h S h0 hS).symm
theorem sj_C_trans {A B : Nat → Nat} {k x y z : Nat} (h : sj_C A B k x y) (h2 : sj_C A B k y z) : sj_C A B k x z := fun S h0 hS => (h S h0 hS).trans (h2 S h0 hS)
theorem sj_C_pair {A B : Nat → Nat} {k i : Nat} (h : i < k) : sj_C A B k (A i) (B i) := fun _ _ hS => hS i h
theorem sj_C_gate {A B : Nat → Nat} {k : Nat} : sj_C A B k 0 1 := fun _ h0 _ => h0
theorem sj_C_more {A B : Nat → Nat} {j k x y : Nat} (h : j ≤ k) (hc : sj_C A B j x y) : sj_C A B k x y := fun S h0 hS => hc S h0 (fun i hi => hS i (by omega))
theorem sj_C_congr {A B A' B' : Nat → Nat} {k x y : Nat} (hA : ∀ i, i < k → A' i = A i) (hB : ∀ i, i < k → B' i = B i) (hc : sj_C A B k x y) : sj_C A' B' k x y := fun S h0 hS => hc S h0 (fun i hi => by rw [← hA i hi, ← hB i hi]; exact hS i hi)
/-- the reference's round: pairs one by one, then 0 and 1 -/
def sj_p (A B : Nat → Nat) (i : Nat) (S : Nat → Bool) : Nat → Bool := va_up (va_up S (A i) (S (A i) || S (B i))) (B i) (S (A i) || S (B i))
def sj_g (S : Nat → Bool) : Nat → Bool := va_up (va_up S 0 (S 0 || S 1)) 1 (S 0 || S 1)
def sj_r (A B : Nat → Nat) (k : Nat) (S : Nat → Bool) : Nat → Bool := sj_g (sp_it (sj_p A B) k S)
theorem sj_p_grow (A B : Nat → Nat) (i : Nat) (S : Nat → Bool) : sp_le S (sj_p A B i S) := by
  intro b hb
  simp only [sj_p, va_up]
  split
  · next h => subst h; simp [hb]
  · split
    · next h => subst h; simp [hb]
    · exact hb
theorem sj_g_grow (S : Nat → Bool) : sp_le S (sj_g S) := by
  intro b hb
  simp only [sj_g, va_up]
  split
  · next h => subst h; simp [hb]
  · split
    · next h => subst h; simp [hb]
    · exact hb
theorem sj_r_grow (A B : Nat → Nat) (k : Nat) (S : Nat → Bool) : sp_le S (sj_r A B k S) := sp_le_trans (sp_it_grow (sj_p_grow A B) S k) (sj_g_grow _)
theorem sj_r_fix {A B : Nat → Nat} {k : Nat} {S : Nat → Bool} (h : sj_r A B k S = S) : S 0 = S 1 ∧ ∀ i, i < k → S (A i) = S (B i) := by
  have h1 : sp_it (sj_p A B) k S = S := sp_le_eq (by have := sj_g_grow (sp_it (sj_p A B) k S); rw [show sj_g (sp_it (sj_p A B) k S) = S from h] at this; exact this) (sp_it_grow (sj_p_grow A B) S k)
  have h2 : sj_g S = S := by have := h; unfold sj_r at this; rw [h1] at this; exact this
  constructor
  · have e0 : sj_g S 0 = S 0 := congrFun h2 0
    have e1 : sj_g S 1 = S 1 := congrFun h2 1
    simp only [sj_g, va_up] at e0 e1
    cases h3 : S 0 <;> cases h4 : S 1 <;> simp [h3, h4] at e0 e1 ⊢
  · intro i hi
    have h3 := sp_it_fix (sj_p_grow A B) h1 i hi
    have eA : sj_p A B i S (A i) = S (A i) := congrFun h3 (A i)
    have eB : sj_p A B i S (B i) = S (B i) := congrFun h3 (B i)
    by_cases hab : A i = B i
    · rw [hab]
    · have eA' : sj_p A B i S (A i) = (S (A i) || S (B i)) := by
        simp only [sj_p]; rw [sp_up_n _ _ hab, sp_up_s]
      have eB' : sj_p A B i S (B i) = (S (A i) || S (B i)) := by
        simp only [sj_p]; rw [sp_up_s]
      rw [← eA, ← eB, eA', eB']
theorem sj_r_in {A B : Nat → Nat} {k n : Nat} (hn : 2 ≤ n) (hA : ∀ i, i < k → A i < n ∧ B i < n) {S : Nat → Bool} (hS : ∀ b, S b = true → b < n) : ∀ b, sj_r A B k S b = true → b < n := by
  have h1 : ∀ b, sp_it (sj_p A B) k S b = true → b < n := by
    refine sp_it_inv (I := fun _ (T : Nat → Bool) => ∀ b, T b = true → b < n) hS k ?_
    intro i T hi hT b hb
    simp only [sj_p, va_up] at hb
    by_cases h2 : b = B i
    · rw [h2]; exact (hA i hi).2
    · by_cases h3 : b = A i
      · rw [h3]; exact (hA i hi).1
      · rw [if_neg h2, if_neg h3] at hb; exact hT b hb
  intro b hb
  simp only [sj_r, sj_g, va_up] at hb
  by_cases h2 : b = 1
  · omega
  · by_cases h3 : b = 0
    · omega
    · rw [if_neg h2, if_neg h3] at hb; exact h1 b hb
/-- what the reference's 'joined' finds is what is joined -/
theorem sj_joined {A B : Nat → Nat} {k n x y : Nat} (hn : 2 ≤ n) (hA : ∀ i, i < k → A i < n ∧ B i < n) (hx : x < n) : sp_it (fun _ => sj_r A B k) n (fun b => decide (b = x)) y = true ↔ sj_C A B k x y := by
  have hin : ∀ b, (fun b => decide (b = x)) b = true → b < n := fun b hb => by have := of_decide_eq_true hb; omega
  constructor
  · intro h S h0 hS
    have key : ∀ b, sp_it (fun _ => sj_r A B k) n (fun b => decide (b = x)) b = true → S b = S x := by
      refine sp_it_inv (I := fun _ (T : Nat → Bool) => ∀ b, T b = true → S b = S x) (fun b hb => by rw [of_decide_eq_true hb]) n ?_
      intro _ T _ hT
      have h1 : ∀ b, sp_it (sj_p A B) k T b = true → S b = S x := by
        refine sp_it_inv (I := fun _ (T : Nat → Bool) => ∀ b, T b = true → S b = S x) hT k ?_
        intro i U hi hU b hb
        have hAB : (U (A i) || U (B i)) = true → S (A i) = S x := by
          intro hor
          cases hua : U (A i) with
          | true => exact hU _ hua
          | false =>
            rw [hua, Bool.false_or] at hor
            rw [hS i hi]; exact hU _ hor
        simp only [sj_p, va_up] at hb
        by_cases h2 : b = B i
        · rw [if_pos h2] at hb; rw [h2, ← hS i hi]; exact hAB hb
        · by_cases h3 : b = A i
          · rw [if_neg h2, if_pos h3] at hb; rw [h3]; exact hAB hb
          · rw [if_neg h2, if_neg h3] at hb; exact hU b hb
      intro b hb
      simp only [sj_r] at hb
      generalize sp_it (sj_p A B) k T = V at h1 hb
      have hG : (V 0 || V 1) = true → S 0 = S x := by
        intro hor
        cases hv : V 0 with
        | true => exact h1 _ hv
        | false =>
          rw [hv, Bool.false_or] at hor
          rw [h0]; exact h1 _ hor
      simp only [sj_g, va_up] at hb
      by_cases h2 : b = 1
      · rw [if_pos h2] at hb; rw [h2, ← h0]; exact hG hb
      · by_cases h3 : b = 0
        · rw [if_neg h2, if_pos h3] at hb; rw [h3]; exact hG hb
        · rw [if_neg h2, if_neg h3] at hb; exact h1 b hb
    exact (key y h).symm
  · intro hc
    have hfix := sp_rest (F := sj_r A B k) (st := fun S => S) (n := n) (I := fun S => ∀ b, S b = true → b < n) (fun S hS => sj_r_in hn hA hS) (fun S b _ hb => sj_r_grow A B k S b hb) (fun S b hS hb => hS b hb) (fun S _ hb => funext hb) (a := fun b => decide (b = x)) hin (sp_cnt_pos hx (by simp))
    have hrn := sp_rest_n (by omega) hfix
    rw [hrn]
    have hgx : sp_le (fun b => decide (b = x)) (sp_it (fun _ => sj_r A B k) (n - 1) (fun b => decide (b = x))) := sp_it_grow (f := fun _ => sj_r A B k) (fun _ S => sj_r_grow A B k S) _ (n - 1)
    generalize sp_it (fun _ => sj_r A B k) (n - 1) (fun b => decide (b = x)) = M at hfix hgx ⊢
    obtain ⟨h1, h2⟩ := sj_r_fix hfix
    rw [← hc M h1 h2]
    exact hgx x (by simp)
/-- labels of groups: x and y have one label iff they are joined -/
def sj_G (A B : Nat → Nat) (k n : Nat) (g : Nat → Nat) : Prop := ∀ x y, x < n → y < n → (g x = g y ↔ sj_C A B k x y)
def sj_join (n : Nat) (g : Nat → Nat) (a b : Nat) : Nat → Nat := fun i => if i < n ∧ g i = g b then g a else g i
theorem sj_G_0 {A B : Nat → Nat} {n : Nat} (_hn : 2 ≤ n) : sj_G A B 0 n (sj_join n (fun b => b) 0 1) := by
  intro x y hx hy
  simp only [sj_join, hx, hy, true_and]
  constructor
  · intro h S h0 _
    by_cases h1 : x = 1
    · by_cases h2 : y = 1
      · rw [h1, h2]
      · rw [if_pos h1, if_neg h2] at h; rw [h1, ← h, h0]
    · by_cases h2 : y = 1
      · rw [if_neg h1, if_pos h2] at h; rw [h2, h, h0]
      · rw [if_neg h1, if_neg h2] at h; rw [h]
  · intro hc
    have h1 := hc (fun b => decide ((if b = 1 then 0 else b) = (if x = 1 then 0 else x))) (by simp) (fun i hi => by omega)
    simp only [decide_true] at h1
    exact (of_decide_eq_true h1.symm).symm
theorem sj_G_step {A B : Nat → Nat} {k n : Nat} {g : Nat → Nat} (hn : 2 ≤ n) (hA : ∀ i, i < k + 1 → A i < n ∧ B i < n) (hG : sj_G A B k n g) : sj_G A B (k + 1) n (sj_join n g (A k) (B k)) := by
  obtain ⟨ha, hb⟩ := hA k (by omega)
  have hjb : sj_join n g (A k) (B k) (B k) = g (A k) := by simp [sj_join, hb]
  have hja : sj_join n g (A k) (B k) (A k) = g (A k) := by simp only [sj_join]; split <;> rfl
  have hold : ∀ x y, x < n → y < n → g x = g y → sj_join n g (A k) (B k) x = sj_join n g (A k) (B k) y := by
    intro x y hx hy hxy
    simp only [sj_join, hx, hy, true_and, hxy]
  intro x y hx hy
  constructor
  · intro h S h0 hS
    have hS' : ∀ i, i < k → S (A i) = S (B i) := fun i hi => hS i (by omega)
    have hg : ∀ u v, u < n → v < n → g u = g v → S u = S v := fun u v hu hv huv => (hG u v hu hv).mp huv S h0 hS'
    have hab : S (A k) = S (B k) := hS k (by omega)
    simp only [sj_join, hx, hy, true_and] at h
    by_cases h1 : g x = g (B k)
    · by_cases h2 : g y = g (B k)
      · exact hg x y hx hy (h1.trans h2.symm)
      · rw [if_pos h1, if_neg h2] at h
        rw [hg x (B k) hx hb h1, ← hab, hg (A k) y ha hy h]
    · by_cases h2 : g y = g (B k)
      · rw [if_neg h1, if_pos h2] at h
        rw [hg y (B k) hy hb h2, ← hab, hg x (A k) hx ha h]
      · rw [if_neg h1, if_neg h2] at h
        exact hg x y hx hy h
  · intro hc
    have h1 := hc (fun u => decide (sj_join n g (A k) (B k) u = sj_join n g (A k) (B k) x)) (by
        have := hold 0 1 (by omega) (by omega) ((hG 0 1 (by omega) (by omega)).mpr sj_C_gate)
        simp only [this]) (fun i hi => by
        obtain ⟨h2, h3⟩ := hA i hi
        by_cases hik : i = k
        · subst hik; simp only [hja, hjb]
        · have := hold (A i) (B i) h2 h3 ((hG _ _ h2 h3).mpr (sj_C_pair (by omega)))
          simp only [this])
    simp only [decide_true] at h1
    exact (of_decide_eq_true h1.symm).symm
/-- a pair is of the tree if its ends are not joined by those before it -/
def sj_T (A B : Nat → Nat) (i : Nat) : Prop := ¬ sj_C A B i (A i) (B i)
/-- every pair of the tree has a set that it alone of the tree crosses -/
theorem sj_cut {A B : Nat → Nat} (k : Nat) : ∀ i, i < k → sj_T A B i → ∃ S : Nat → Bool, S 0 = S 1 ∧ S (A i) ≠ S (B i) ∧ ∀ j, j < k → sj_T A B j → j ≠ i → S (A j) = S (B j) := by
  induction k with
  | zero => intro i hi; omega
  | succ k ih =>
    have hcl : ∀ u v, sj_C A B k u v → (@decide (sj_C A B k (B k) u) (Classical.propDecidable _)) = (@decide (sj_C A B k (B k) v) (Classical.propDecidable _)) := by
      intro u v huv
      by_cases h : sj_C A B k (B k) u
      · have h2 := sj_C_trans h huv
        simp [h, h2]
      · have h2 : ¬ sj_C A B k (B k) v := fun hc => h (sj_C_trans hc (sj_C_symm huv))
        simp [h, h2]
    intro i hi hTi
    by_cases hT : sj_T A B k
    · have hna : ¬ sj_C A B k (B k) (A k) := fun hc => hT (sj_C_symm hc)
      by_cases hik : i = k
      · subst hik
        refine ⟨fun u => @decide (sj_C A B i (B i) u) (Classical.propDecidable _), hcl 0 1 sj_C_gate, ?_, ?_⟩
        · simp [hna, sj_C_refl]
        · intro j hj _ hji
          exact hcl _ _ (sj_C_pair (by omega))
      · obtain ⟨S, h0, h1, h2⟩ := ih i (by omega) hTi
        by_cases hS : S (A k) = S (B k)
        · refine ⟨S, h0, h1, ?_⟩
          intro j hj hTj hji
          by_cases hjk : j = k
          · subst hjk; exact hS
          · exact h2 j (by omega) hTj hji
        · refine ⟨fun u => S u ^^ @decide (sj_C A B k (B k) u) (Classical.propDecidable _), ?_, ?_, ?_⟩
          · show (S 0 ^^ _) = (S 1 ^^ _)
            rw [h0, hcl 0 1 sj_C_gate]
          · show (S (A i) ^^ _) ≠ (S (B i) ^^ _)
            rw [hcl _ _ (sj_C_pair (i := i) (by omega))]
            intro hc
            apply h1
            have := congrArg (fun z => z ^^ (@decide (sj_C A B k (B k) (B i)) (Classical.propDecidable _))) hc
            simpa using this
          · intro j hj hTj hji
            show (S (A j) ^^ _) = (S (B j) ^^ _)
            by_cases hjk : j = k
            · subst hjk
              have e1 : @decide (sj_C A B j (B j) (A j)) (Classical.propDecidable _) = false := by simp [hna]
              have e2 : @decide (sj_C A B j (B j) (B j)) (Classical.propDecidable _) = true := by simp [sj_C_refl]
              rw [e1, e2]
              cases h3 : S (A j) <;> cases h4 : S (B j) <;> simp [h3, h4] at hS ⊢
            · rw [h2 j (by omega) hTj hji, hcl _ _ (sj_C_pair (i := j) (by omega))]
    · have hne : i ≠ k := fun hc => hT (by rw [← hc]; exact hTi)
      obtain ⟨S, h0, h1, h2⟩ := ih i (by omega) hTi
      refine ⟨S, h0, h1, ?_⟩
      intro j hj hTj hji
      by_cases hjk : j = k
      · subst hjk; exact absurd hTj hT
      · exact h2 j (by omega) hTj hji
/-- a set that no pair of the tree crosses is crossed by no pair -/
theorem sj_span {A B : Nat → Nat} {k : Nat} {S : Nat → Bool} (h0 : S 0 = S 1) (h : ∀ j, j < k → sj_T A B j → S (A j) = S (B j)) : ∀ j, j < k → S (A j) = S (B j) := by
  intro j
  induction j using Nat.strongRecOn with
  | _ j ih =>
    intro hj
    by_cases hT : sj_T A B j
    · exact h j hj hT
    · exact (Classical.not_not.mp hT) S h0 (fun i hi => ih i hi (by omega))
