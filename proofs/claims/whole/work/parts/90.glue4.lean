/-! glue: depths, trees, bases -/
theorem zS0_t {a b : Nat} (h : a = b) (x : Nat) : zS0 a (some b) x = false := by
  rw [show zS0 a (some b) = fun _ => false from if_pos (by rw [h])]
theorem zS0_f {a b : Nat} (h : a ≠ b) (x : Nat) : zS0 a (some b) x = decide (x = a) := by
  rw [show zS0 a (some b) = fun i => decide (i = a) from if_neg (fun hc => h (Option.some.inj hc))]
theorem zrT_eq {n m : Nat} {fr to : Nat → Nat} (hn : 2 ≤ n) (hok : ∀ e, e < m → fr e < n ∧ to e < n) (S : Nat → Bool) {e : Nat} (he : e < m) : ∀ b, b < n → zrT fr to m n e S b = zlp fr to m n e b := by
  intro b hb
  have h1 : ∀ x, x < n → zm0 fr to S e n x = zS0 (fr e) (some (to e)) x := fun x hx => by
    have h0 : zm0 fr to S e n x = decide (x = fr e ∧ x ≠ to e) := if_pos hx
    rw [h0]
    by_cases hc : fr e = to e
    · rw [zS0_t hc]
      exact decide_eq_false (fun hh => hh.2 (hh.1.trans hc))
    · rw [zS0_f hc]
      by_cases hx2 : x = fr e
      · rw [decide_eq_true (show x = fr e ∧ x ≠ to e from ⟨hx2, fun hh => hc (hx2.symm.trans hh)⟩), decide_eq_true hx2]
      · rw [decide_eq_false (show ¬ (x = fr e ∧ x ≠ to e) from fun hh => hx2 hh.1), decide_eq_false hx2]
  show va_up (sp_it (fun _ => sr_r fr to (some (to e)) m) n (zm0 fr to S e n)) (to e) true b = (decide (b = to e) || sp_it (fun _ => sr_r fr to (some (to e)) m) (n - 1) (zS0 (fr e) (some (to e))) b)
  by_cases hb2 : b = to e
  · rw [hb2, sp_up_s, decide_eq_true rfl, Bool.true_or]
  · rw [sp_up_n _ _ hb2, decide_eq_false hb2, Bool.false_or, sr_congr hok h1 n b hb, sr_same (by omega) hok (zpick_S0 (hok e he).1)]
theorem zdep {n m : Nat} {fr to : Nat → Nat} {bk bk2 : Nat → Bool} (hn : 2 ≤ n) (hok : ∀ e, e < m → fr e < n ∧ to e < n) (hb : ∀ e, e < m → bk2 e = bk e) (S0 : Nat → Bool) : (sp_it (zrd fr to bk2 m n) m (zfill (fun _ => 0) 0 n, S0)).1 = sp_it (zde fr to bk m n) m (fun _ => 0) := by
  have hz : zfill (fun _ => (0 : Nat)) 0 n = fun _ => 0 := by
    funext y
    show (if y < n then (0 : Nat) else 0) = 0
    by_cases h : y < n
    · rw [if_pos h]
    · rw [if_neg h]
  rw [hz]
  refine sp_it_rel (f := zrd fr to bk2 m n) (g := zde fr to bk m n) (I := fun _ (x : (Nat → Nat) × (Nat → Bool)) (y : Nat → Nat) => x.1 = y) rfl m (fun e x y he hxy => ?_)
  show (if bk2 e = true then (zdp x.1 (zrT fr to m n e x.2) n, zrT fr to m n e x.2) else x).1 = (if bk e = true then zdp y (zlp fr to m n e) n else y)
  rw [hb e he]
  by_cases h : bk e = true
  · rw [if_pos h, if_pos h]
    show zdp x.1 (zrT fr to m n e x.2) n = zdp y (zlp fr to m n e) n
    rw [hxy]
    funext b
    show (if b < n ∧ zrT fr to m n e x.2 b = true then y b + 1 else y b) = (if b < n ∧ zlp fr to m n e b = true then y b + 1 else y b)
    by_cases hb2 : b < n
    · rw [zrT_eq hn hok x.2 he b hb2]
    · rw [if_neg (show ¬ (b < n ∧ zrT fr to m n e x.2 b = true) from fun hh => hb2 hh.1), if_neg (show ¬ (b < n ∧ zlp fr to m n e b = true) from fun hh => hb2 hh.1)]
  · rw [if_neg h, if_neg h]; exact hxy
theorem sj_pc {S T : Nat → Bool} {a c n : Nat} (h : a < n ∧ c < n) (hS : ∀ b, b < n → S b = T b) : ∀ b, b < n → va_up (va_up S a (S a || S c)) c (S a || S c) b = va_up (va_up T a (T a || T c)) c (T a || T c) b := by
  intro b hb
  rw [hS _ h.1, hS _ h.2]
  by_cases h1 : b = c
  · rw [h1, sp_up_s, sp_up_s]
  · rw [sp_up_n _ _ h1, sp_up_n _ _ h1]
    by_cases h2 : b = a
    · rw [h2, sp_up_s, sp_up_s]
    · rw [sp_up_n _ _ h2, sp_up_n _ _ h2]; exact hS b hb
theorem sj_rc {A B : Nat → Nat} {k n : Nat} (hn : 2 ≤ n) (hA : ∀ i, i < k → A i < n ∧ B i < n) {S T : Nat → Bool} (hS : ∀ b, b < n → S b = T b) : ∀ b, b < n → sj_r A B k S b = sj_r A B k T b := by
  have h1 : ∀ b, b < n → sp_it (sj_p A B) k S b = sp_it (sj_p A B) k T b := sp_it_rel (f := sj_p A B) (g := sj_p A B) (I := fun _ (p q : Nat → Bool) => ∀ b, b < n → p b = q b) hS k (fun i p q hi hpq => sj_pc (hA i hi) hpq)
  exact sj_pc (a := 0) (c := 1) ⟨by omega, by omega⟩ h1
theorem zgM_iff {n x y k : Nat} {A B : Nat → Nat} (hn : 2 ≤ n) (hA : ∀ i, i < k → A i < n ∧ B i < n) (hx : x < n) (hy : y < n) (S : Nat → Bool) : zgM n x k A B S y = true ↔ sj_C A B k x y := by
  have h1 : zgM n x k A B S y = sp_it (fun _ => sj_r A B k) n (fun b => decide (b = x)) y := sp_it_rel (f := fun _ => sj_r A B k) (g := fun _ => sj_r A B k) (I := fun _ (p q : Nat → Bool) => ∀ b, b < n → p b = q b) (fun b hb => if_pos hb) n (fun _ p q _ hpq => sj_rc hn hA hpq) y hy
  rw [h1]
  exact sj_joined hn hA hx
theorem zgbit {n x y k : Nat} {A B : Nat → Nat} (hn : 2 ≤ n) (hA : ∀ i, i < k → A i < n ∧ B i < n) (hx : x < n) (hy : y < n) (S : Nat → Bool) : (!(zgM n x k A B S) y) = true ↔ ¬ sj_C A B k x y := by
  have hz := zgM_iff hn hA hx hy S
  constructor
  · intro h hC
    rw [hz.mpr hC] at h
    cases h
  · intro h
    cases hb : zgM n x k A B S y with
    | false => rfl
    | true => exact absurd (hz.mp hb) h
theorem sj_Tc {A B A' B' : Nat → Nat} {j : Nat} (h : ∀ i, i ≤ j → A' i = A i ∧ B' i = B i) : sj_T A' B' j ↔ sj_T A B j := by
  unfold sj_T
  rw [(h j (Nat.le_refl _)).1, (h j (Nat.le_refl _)).2]
  exact not_congr ⟨sj_C_congr (fun i hi => (h i (by omega)).1.symm) (fun i hi => (h i (by omega)).2.symm), sj_C_congr (fun i hi => (h i (by omega)).1) (fun i hi => (h i (by omega)).2)⟩
theorem zg1_spec {n m : Nat} {fr to so : Nat → Nat} (hn : 2 ≤ n) (hin : ∀ i, i < m → fr (so i) < n ∧ to (so i) < n) (hinj : ∀ i j, i < m → j < m → so i = so j → i = j) (A0 B0 : Nat → Nat) (S0 T0 : Nat → Bool) : ∀ j, j < m → ((sp_it (zg1 fr to so n) m (0, A0, B0, S0, T0)).2.2.2.2 (so j) = true ↔ sj_T (fun i => fr (so i)) (fun i => to (so i)) j) := by
  refine (sp_it_inv (f := zg1 fr to so n) (I := fun i (s : zgT) => s.1 = i ∧ (∀ j, j < i → s.2.1 j = fr (so j) ∧ s.2.2.1 j = to (so j)) ∧ ∀ j, j < i → (s.2.2.2.2 (so j) = true ↔ sj_T (fun i => fr (so i)) (fun i => to (so i)) j)) ⟨rfl, fun j hj => absurd hj (Nat.not_lt_zero _), fun j hj => absurd hj (Nat.not_lt_zero _)⟩ m (fun i s hi hs => ?_)).2.2
  obtain ⟨k, A, B, S, T⟩ := s
  obtain ⟨h1, h2, h3⟩ := hs
  have h1 : k = i := h1
  subst h1
  have h2 : ∀ j, j < k → A j = fr (so j) ∧ B j = to (so j) := h2
  have hA : ∀ i, i < k → A i < n ∧ B i < n := fun i hi2 => by rw [(h2 i hi2).1, (h2 i hi2).2]; exact hin i (by omega)
  refine ⟨rfl, fun j hj => ?_, fun j hj => ?_⟩
  · show va_up A k (fr (so k)) j = fr (so j) ∧ va_up B k (to (so k)) j = to (so j)
    by_cases hjk : j = k
    · rw [hjk, sp_up_s, sp_up_s]; exact ⟨rfl, rfl⟩
    · rw [sp_up_n _ _ hjk, sp_up_n _ _ hjk]; exact h2 j (by omega)
  · show va_up T (so k) (!(zgM n (fr (so k)) k A B S) (to (so k))) (so j) = true ↔ _
    by_cases hjk : j = k
    · subst hjk
      rw [sp_up_s, zgbit hn hA (hin j hi).1 (hin j hi).2 S]
      exact not_congr ⟨sj_C_congr (fun i hi => (h2 i hi).1.symm) (fun i hi => (h2 i hi).2.symm), sj_C_congr (fun i hi => (h2 i hi).1) (fun i hi => (h2 i hi).2)⟩
    · rw [sp_up_n _ _ (fun hh => hjk (hinj j k (by omega) (by omega) hh))]
      exact h3 j (by omega)
theorem zg2_spec {n m : Nat} {fr to so : Nat → Nat} {bk bk2 : Nat → Bool} (hn : 2 ≤ n) (hb : ∀ e, e < m → bk2 e = bk e) (hsm : ∀ i, i < m → so i < m) (hin : ∀ i, i < m → fr (so i) < n ∧ to (so i) < n) (hinj : ∀ i j, i < m → j < m → so i = so j → i = j) (A0 B0 : Nat → Nat) (S0 T0 : Nat → Bool) (o2 : Nat → Nat) : (sp_it (zg2 fr to so bk2 n) m (0, A0, B0, S0, T0)).1 = (sp_it (st_f bk so) m (o2, 0)).2 ∧ (∀ j, j < (sp_it (st_f bk so) m (o2, 0)).2 → (sp_it (zg2 fr to so bk2 n) m (0, A0, B0, S0, T0)).2.1 j = fr ((sp_it (st_f bk so) m (o2, 0)).1 j) ∧ (sp_it (zg2 fr to so bk2 n) m (0, A0, B0, S0, T0)).2.2.1 j = to ((sp_it (st_f bk so) m (o2, 0)).1 j)) ∧ (∀ j, j < (sp_it (st_f bk so) m (o2, 0)).2 → ((sp_it (zg2 fr to so bk2 n) m (0, A0, B0, S0, T0)).2.2.2.2 ((sp_it (st_f bk so) m (o2, 0)).1 j) = true ↔ sj_T (fun i => fr ((sp_it (st_f bk so) m (o2, 0)).1 i)) (fun i => to ((sp_it (st_f bk so) m (o2, 0)).1 i)) j)) ∧ ∀ j, j < (sp_it (st_f bk so) m (o2, 0)).2 → ∃ x, x < m ∧ (sp_it (st_f bk so) m (o2, 0)).1 j = so x := by
  refine sp_it_rel (f := zg2 fr to so bk2 n) (g := st_f bk so) (I := fun i (s : zgT) (y : (Nat → Nat) × Nat) => s.1 = y.2 ∧ (∀ j, j < y.2 → s.2.1 j = fr (y.1 j) ∧ s.2.2.1 j = to (y.1 j)) ∧ (∀ j, j < y.2 → (s.2.2.2.2 (y.1 j) = true ↔ sj_T (fun i => fr (y.1 i)) (fun i => to (y.1 i)) j)) ∧ ∀ j, j < y.2 → ∃ x, x < i ∧ y.1 j = so x) ⟨rfl, fun j hj => absurd hj (Nat.not_lt_zero _), fun j hj => absurd hj (Nat.not_lt_zero _), fun j hj => absurd hj (Nat.not_lt_zero _)⟩ m (fun i s y hi hs => ?_)
  obtain ⟨k, A, B, S, T⟩ := s
  obtain ⟨o, q⟩ := y
  obtain ⟨h1, h2, h3, h4⟩ := hs
  have h1 : k = q := h1
  subst h1
  have h2 : ∀ j, j < k → A j = fr (o j) ∧ B j = to (o j) := h2
  have h3 : ∀ j, j < k → (T (o j) = true ↔ sj_T (fun i => fr (o i)) (fun i => to (o i)) j) := h3
  have h4 : ∀ j, j < k → ∃ x, x < i ∧ o j = so x := h4
  by_cases hbk : bk (so i) = true
  · rw [show zg2 fr to so bk2 n i (k, A, B, S, T) = (k, A, B, S, T) from if_pos ((hb _ (hsm i hi)).trans hbk), show st_f bk so i (o, k) = (o, k) from if_pos hbk]
    exact ⟨rfl, h2, h3, fun j hj => by obtain ⟨x, hx1, hx2⟩ := h4 j hj; exact ⟨x, by omega, hx2⟩⟩
  · rw [show zg2 fr to so bk2 n i (k, A, B, S, T) = zgs n (fr (so i)) (to (so i)) (so i) (k, A, B, S, T) from if_neg (fun hc => hbk ((hb _ (hsm i hi)).symm.trans hc)), show st_f bk so i (o, k) = (va_up o k (so i), k + 1) from if_neg hbk]
    have hA : ∀ i, i < k → A i < n ∧ B i < n := fun j hj => by
      obtain ⟨x, hx1, hx2⟩ := h4 j hj
      rw [(h2 j hj).1, (h2 j hj).2, hx2]
      exact hin x (by omega)
    refine ⟨rfl, fun j hj => ?_, fun j hj => ?_, fun j hj => ?_⟩
    · have hj : j < k + 1 := hj
      show va_up A k (fr (so i)) j = fr (va_up o k (so i) j) ∧ va_up B k (to (so i)) j = to (va_up o k (so i) j)
      by_cases hjk : j = k
      · rw [hjk, sp_up_s, sp_up_s, sp_up_s]; exact ⟨rfl, rfl⟩
      · rw [sp_up_n _ _ hjk, sp_up_n _ _ hjk, sp_up_n _ _ hjk]; exact h2 j (by omega)
    · have hj : j < k + 1 := hj
      show va_up T (so i) (!(zgM n (fr (so i)) k A B S) (to (so i))) (va_up o k (so i) j) = true ↔ sj_T (fun x => fr (va_up o k (so i) x)) (fun x => to (va_up o k (so i) x)) j
      by_cases hjk : j = k
      · subst hjk
        rw [sp_up_s, sp_up_s, zgbit hn hA (hin i hi).1 (hin i hi).2 S]
        show _ ↔ ¬ sj_C (fun x => fr (va_up o j (so i) x)) (fun x => to (va_up o j (so i) x)) j (fr (va_up o j (so i) j)) (to (va_up o j (so i) j))
        rw [sp_up_s]
        exact not_congr ⟨sj_C_congr (fun x hx => by show fr (va_up o j (so i) x) = A x; rw [sp_up_n _ _ (by omega)]; exact (h2 x hx).1.symm) (fun x hx => by show to (va_up o j (so i) x) = B x; rw [sp_up_n _ _ (by omega)]; exact (h2 x hx).2.symm), sj_C_congr (fun x hx => by show A x = fr (va_up o j (so i) x); rw [sp_up_n _ _ (by omega)]; exact (h2 x hx).1) (fun x hx => by show B x = to (va_up o j (so i) x); rw [sp_up_n _ _ (by omega)]; exact (h2 x hx).2)⟩
      · obtain ⟨x, hx1, hx2⟩ := h4 j (by omega)
        rw [sp_up_n o _ hjk, sp_up_n T _ (fun hh => by have := hinj x i (by omega) hi (hx2.symm.trans hh); omega), h3 j (by omega)]
        exact sj_Tc (fun y hy => by
          show fr (o y) = fr (va_up o k (so i) y) ∧ to (o y) = to (va_up o k (so i) y)
          rw [sp_up_n _ _ (by omega)]
          exact ⟨rfl, rfl⟩)
    · have hj : j < k + 1 := hj
      show ∃ x, x < i + 1 ∧ va_up o k (so i) j = so x
      by_cases hjk : j = k
      · rw [hjk, sp_up_s]; exact ⟨i, by omega, rfl⟩
      · rw [sp_up_n _ _ hjk]
        obtain ⟨x, hx1, hx2⟩ := h4 j (by omega)
        exact ⟨x, by omega, hx2⟩
def zgJ (n : Nat) (s : zgT) : Prop := (∀ i, i < s.1 → s.2.1 i < n ∧ s.2.2.1 i < n) ∧ ∀ b, b < n → sj_C s.2.1 s.2.2.1 s.1 b 0
theorem zgs_J {n x y l : Nat} {s : zgT} (hn : 2 ≤ n) (hx : x < n) (hy : y < n) (h : zgJ n s) : zgJ n (zgs n x y l s) ∧ (zgs n x y l s).2.2.2.2 = va_up s.2.2.2.2 l false := by
  obtain ⟨k, A, B, S, T⟩ := s
  obtain ⟨h1, h2⟩ := h
  have h1 : ∀ i, i < k → A i < n ∧ B i < n := h1
  have h2 : ∀ b, b < n → sj_C A B k b 0 := h2
  refine ⟨⟨fun i hi => ?_, fun b hb => ?_⟩, ?_⟩
  · have hi : i < k + 1 := hi
    show va_up A k x i < n ∧ va_up B k y i < n
    by_cases hik : i = k
    · rw [hik, sp_up_s, sp_up_s]; exact ⟨hx, hy⟩
    · rw [sp_up_n _ _ hik, sp_up_n _ _ hik]; exact h1 i (by omega)
  · show sj_C (va_up A k x) (va_up B k y) (k + 1) b 0
    exact sj_C_more (Nat.le_succ k) (sj_C_congr (fun i hi => sp_up_n _ _ (by omega)) (fun i hi => sp_up_n _ _ (by omega)) (h2 b hb))
  · show va_up T l (!(zgM n x k A B S) y) = va_up T l false
    rw [(zgM_iff hn h1 hx hy S).mpr (sj_C_trans (h2 x hx) (sj_C_symm (h2 y hy)))]
    rfl
theorem zg3_spec {n m : Nat} {fr to : Nat → Nat} {bk bk2 : Nat → Bool} (hg : sg_ok n m fr to) (hb : ∀ e, e < m → bk2 e = bk e) {s2 s3 s4 : zgT} (h2 : zgJ n s2) (h3 : sp_it (zg3 to bk2 n) m s2 = s3) (h4 : sp_it (zg4 fr bk2 n) m s3 = s4) : (∀ e, e < m → bk e = false → s4.2.2.2.2 e = s2.2.2.2.2 e) ∧ (∀ e, e < m → bk e = true → s4.2.2.2.2 e = false) ∧ ∀ e, e < m → bk e = true → s4.2.2.2.2 (24 + e) = false := by
  obtain ⟨hn, hn2, hm, hgo⟩ := hg
  have g3 : zgJ n s3 ∧ (∀ e, e < 24 → s3.2.2.2.2 e = s2.2.2.2.2 e) ∧ ∀ e, e < m → bk e = true → s3.2.2.2.2 (24 + e) = false := by
    rw [← h3]
    refine sp_it_inv (f := zg3 to bk2 n) (I := fun i (s : zgT) => zgJ n s ∧ (∀ e, e < 24 → s.2.2.2.2 e = s2.2.2.2.2 e) ∧ ∀ e, e < i → bk e = true → s.2.2.2.2 (24 + e) = false) ⟨h2, fun e he => rfl, fun e he => absurd he (Nat.not_lt_zero _)⟩ m (fun i s hi hs => ?_)
    obtain ⟨q1, q2, q3⟩ := hs
    by_cases hc : bk i = true
    · rw [show zg3 to bk2 n i s = zgs n 0 (to i) (24 + i) s from if_pos ((hb i hi).trans hc)]
      obtain ⟨p1, p2⟩ := zgs_J (l := 24 + i) hn (show 0 < n by omega) (hgo i hi).2.1 q1
      refine ⟨p1, fun e he => ?_, fun e he hbe => ?_⟩
      · rw [p2, sp_up_n _ _ (by omega)]; exact q2 e he
      · rw [p2]
        by_cases hei : e = i
        · rw [hei, sp_up_s]
        · rw [sp_up_n _ _ (by omega)]; exact q3 e (by omega) hbe
    · rw [show zg3 to bk2 n i s = s from if_neg (fun hh => hc ((hb i hi).symm.trans hh))]
      exact ⟨q1, q2, fun e he hbe => by
        by_cases hei : e = i
        · rw [hei] at hbe; exact absurd hbe hc
        · exact q3 e (by omega) hbe⟩
  have g4 : zgJ n s4 ∧ (∀ e, e < m → bk e = false → s4.2.2.2.2 e = s3.2.2.2.2 e) ∧ (∀ e, e < m → bk e = true → s4.2.2.2.2 e = false) ∧ ∀ e, s4.2.2.2.2 (24 + e) = s3.2.2.2.2 (24 + e) := by
    rw [← h4]
    refine sp_it_inv (f := zg4 fr bk2 n) (I := fun i (s : zgT) => zgJ n s ∧ (∀ e, e < m → bk e = false → s.2.2.2.2 e = s3.2.2.2.2 e) ∧ (∀ e, e < i → bk e = true → s.2.2.2.2 e = false) ∧ ∀ e, s.2.2.2.2 (24 + e) = s3.2.2.2.2 (24 + e)) ⟨g3.1, fun e he _ => rfl, fun e he => absurd he (Nat.not_lt_zero _), fun e => rfl⟩ m (fun i s hi hs => ?_)
    obtain ⟨q1, q2, q3, q4⟩ := hs
    by_cases hc : bk i = true
    · rw [show zg4 fr bk2 n i s = zgs n (fr i) 1 i s from if_pos ((hb i hi).trans hc)]
      obtain ⟨p1, p2⟩ := zgs_J (l := i) hn (hgo i hi).1 (show 1 < n by omega) q1
      refine ⟨p1, fun e he hbe => ?_, fun e he hbe => ?_, fun e => ?_⟩
      · rw [p2, sp_up_n _ _ (fun hh => by rw [hh, hc] at hbe; cases hbe)]; exact q2 e he hbe
      · rw [p2]
        by_cases hei : e = i
        · rw [hei, sp_up_s]
        · rw [sp_up_n _ _ hei]; exact q3 e (by omega) hbe
      · rw [p2, sp_up_n _ _ (by omega)]; exact q4 e
    · rw [show zg4 fr bk2 n i s = s from if_neg (fun hh => hc ((hb i hi).symm.trans hh))]
      exact ⟨q1, q2, fun e he hbe => by
        by_cases hei : e = i
        · rw [hei] at hbe; exact absurd hbe hc
        · exact q3 e (by omega) hbe, q4⟩
  refine ⟨fun e he hbe => (g4.2.1 e he hbe).trans (g3.2.1 e (by omega)), g4.2.2.1, fun e he hbe => (g4.2.2.2 e).trans (g3.2.2 e he hbe)⟩
theorem zbool_eq {a b : Bool} {P : Prop} (h1 : a = true ↔ P) (h2 : b = true ↔ P) : a = b := by
  cases ha : a with
  | true => exact (h2.mpr (h1.mp ha)).symm
  | false =>
    cases hb : b with
    | false => rfl
    | true => exact absurd (h1.mpr (h2.mp hb)) (by rw [ha]; decide)
theorem st_g_c {fr to ord so : Nat → Nat} {n m : Nat} (h : ∀ i, i < m → ord i = so i) (s : (Nat → Nat) × (Nat → Bool)) : sp_it (st_g fr to ord n) m s = sp_it (st_g fr to so n) m s := sp_it_congr m (fun i x hi => by unfold st_g; rw [h i hi])
theorem st_f_c {ord so : Nat → Nat} {bk : Nat → Bool} {m : Nat} (h : ∀ i, i < m → ord i = so i) (s : (Nat → Nat) × Nat) : sp_it (st_f bk ord) m s = sp_it (st_f bk so) m s := sp_it_congr m (fun i x hi => by unfold st_f; rw [h i hi])
theorem ztrees {n m : Nat} {fr to so o2 grp grp2 : Nat → Nat} {bk bk2 : Nat → Bool} (hg : sg_ok n m fr to) (hb : ∀ e, e < m → bk2 e = bk e) (hsm : ∀ i, i < m → so i < m) (hinj : ∀ i j, i < m → j < m → so i = so j → i = j) (hsur : ∀ e, e < m → ∃ x, x < m ∧ so x = e) (hjoin : ∀ b, b < n → ∀ S : Nat → Bool, (∀ e, e < m → bk e = false → S (fr e) = S (to e)) → S b = S 0) {A0 B0 A1 B1 : Nat → Nat} {S0 T0 S1 L0 : Nat → Bool} {s1 s2 s3 s4 : zgT} (h1 : sp_it (zg1 fr to so n) m (0, A0, B0, S0, T0) = s1) (h2 : sp_it (zg2 fr to so bk2 n) m (0, A1, B1, S1, L0) = s2) (h3 : sp_it (zg3 to bk2 n) m s2 = s3) (h4 : sp_it (zg4 fr bk2 n) m s3 = s4) : (∀ e, e < m → s1.2.2.2.2 e = (sp_it (st_g fr to so n) m (sj_join n (zid grp n) 0 1, fun _ => false)).2 e) ∧ (∀ e, e < m → s4.2.2.2.2 e = (sp_it (st_g fr to (sp_it (st_f bk so) m (o2, 0)).1 n) (sp_it (st_f bk so) m (o2, 0)).2 (sj_join n (zid grp2 n) 0 1, fun _ => false)).2 e) ∧ (∀ e, e < m → bk e = true → s4.2.2.2.2 (24 + e) = false ∧ s4.2.2.2.2 e = false) ∧ (∀ x, x < m → ((sp_it (st_g fr to so n) m (sj_join n (zid grp n) 0 1, fun _ => false)).2 (so x) = true ↔ sj_T (fun i => fr (so i)) (fun i => to (so i)) x)) ∧ ∀ b, b < n → sj_C (fun i => fr (so i)) (fun i => to (so i)) m b 0 := by
  have hg0 := hg
  obtain ⟨hn, hn2, hm, hgo⟩ := hg0
  have hin : ∀ i, i < m → fr (so i) < n ∧ to (so i) < n := fun i hi => ⟨(hgo _ (hsm i hi)).1, (hgo _ (hsm i hi)).2.1⟩
  have t1 := zg1_spec hn hin hinj A0 B0 S0 T0
  rw [h1] at t1
  have c1 := st_grow (fr := fr) (to := to) hn hin hinj (g0 := zid grp n) (fun b hb => zid_in hb) (fun _ => false)
  obtain ⟨u1, u2, u3, u4⟩ := zg2_spec hn hb hsm hin hinj A1 B1 S1 L0 o2
  rw [h2] at u1 u2 u3
  obtain ⟨f1, f2, f3, f4⟩ := st_filter (bk := bk) hinj o2
  have hin2 : ∀ i, i < (sp_it (st_f bk so) m (o2, 0)).2 → fr ((sp_it (st_f bk so) m (o2, 0)).1 i) < n ∧ to ((sp_it (st_f bk so) m (o2, 0)).1 i) < n := fun i hi => by
    obtain ⟨x, hx1, hx2⟩ := u4 i hi
    rw [hx2]
    exact hin x hx1
  have c2 := st_grow (fr := fr) (to := to) hn hin2 f4 (g0 := zid grp2 n) (fun b hb => zid_in hb) (fun _ => false)
  have hall : ∀ e, e < m → bk e = false → ∃ x, x < (sp_it (st_f bk so) m (o2, 0)).2 ∧ (sp_it (st_f bk so) m (o2, 0)).1 x = e := fun e he hbe => by
    obtain ⟨x, hx1, hx2⟩ := hsur e he
    rw [← hx2] at hbe
    obtain ⟨y, hy1, hy2⟩ := f3 x hx1 hbe
    exact ⟨y, hy1, hy2.trans hx2⟩
  have sp2 := st_span (fr := fr) (to := to) hall hjoin
  have hJ2 : zgJ n s2 := by
    refine ⟨fun i hi => ?_, fun b hb => ?_⟩
    · rw [u1] at hi
      rw [(u2 i hi).1, (u2 i hi).2]
      exact hin2 i hi
    · rw [u1]
      exact sj_C_congr (fun i hi => (u2 i hi).1) (fun i hi => (u2 i hi).2) (sp2 b hb)
  obtain ⟨v1, v2, v3⟩ := zg3_spec hg hb hJ2 h3 h4
  refine ⟨fun e he => ?_, fun e he => ?_, fun e he hbe => ⟨v3 e he hbe, v2 e he hbe⟩, c1.2.1, ?_⟩
  · obtain ⟨x, hx1, hx2⟩ := hsur e he
    rw [← hx2]
    exact zbool_eq (t1 x hx1) (c1.2.1 x hx1)
  · cases hbe : bk e with
    | false =>
      rw [v1 e he hbe]
      obtain ⟨y, hy1, hy2⟩ := hall e he hbe
      rw [← hy2]
      exact zbool_eq (u3 y hy1) (c2.2.1 y hy1)
    | true =>
      rw [v2 e he hbe]
      refine (c2.2.2 e (fun x hx hh => ?_)).symm
      obtain ⟨i, hi1, hi2, hi3⟩ := f2 x hx
      rw [hi2, hh, hbe] at hi3
      cases hi3
  · exact st_span (bk := fun _ => false) (fun e he _ => hsur e he) (fun b hb S hS => hjoin b hb S (fun e he _ => hS e he rfl))
theorem zb2_eq {n : Nat} (hn : 2 ≤ n) : sp_it zb2 n (fun _ => false) = fun b => decide (b = 0 ∨ b = 1) := by
  have h : ∀ k x, sp_it zb2 k (fun _ => false) x = decide (x < k ∧ x < 2) := by
    intro k
    induction k with
    | zero => intro x; exact (decide_eq_false (by omega)).symm
    | succ k ih =>
      intro x
      show va_up (sp_it zb2 k (fun _ => false)) k (decide (k < 2)) x = _
      by_cases hx : x = k
      · rw [hx, sp_up_s]
        exact decide_eq_decide.mpr ⟨fun h => ⟨by omega, h⟩, fun h => h.2⟩
      · rw [sp_up_n _ _ hx, ih x]
        exact decide_eq_decide.mpr ⟨fun h => ⟨by omega, h.2⟩, fun h => ⟨by omega, h.2⟩⟩
  funext b
  rw [h n b]
  exact decide_eq_decide.mpr ⟨fun h => by omega, fun h => by omega⟩
theorem zbz0_eq (n : Nat) : sp_it zbz0 n (fun _ => 0) = fun _ => 0 := by
  induction n with
  | zero => rfl
  | succ k ih =>
    show va_up (sp_it zbz0 k (fun _ => 0)) k 0 = _
    rw [ih]
    exact va_up_same (fun _ => (0 : Int)) k
theorem zbase {n m : Nat} {fr to V lf lt Rw : Nat → Nat} {isL lT has2 : Nat → Bool} (hn : 2 ≤ n) (hm : m ≤ 48) (hok : ∀ e, e < m → fr e < n ∧ to e < n) (hlo : ∀ q, q < m → isL q = true ∧ lT q = has2 q) (hhi : ∀ q, m ≤ q → q < 48 → isL q = true → lT q = false) (heq : ∀ q, q < m → has2 q = true → lf q = fr q ∧ lt q = to q ∧ sw_V isL lf lt Rw q = V q) : sp_it (fun _ p => sp_it (zfb isL lT lf lt Rw) 48 p) n (sp_it zb2 n (fun _ => false), sp_it zbz0 n (fun _ => 0)) = sp_it (fun _ => sa_r fr to has2 (fun x => (V x : Int)) m) (n - 1) ((fun b => decide (b = 0 ∨ b = 1)), fun _ => 0) := by
  rw [zb2_eq hn, zbz0_eq]
  have h1 : ∀ p, sp_it (zfb isL lT lf lt Rw) 48 p = sa_r fr to has2 (fun x => (V x : Int)) m p := by
    intro p
    rw [sp_it_beyond (f := zfb isL lT lf lt Rw) (a := p) hm (fun i x h1 h2 => if_neg (fun hc => by rw [hhi i h1 h2 hc.1] at hc; cases hc.2))]
    refine sp_it_congr m (fun q x hq => ?_)
    obtain ⟨g1, g2⟩ := hlo q hq
    by_cases hc : has2 q = true
    · obtain ⟨e1, e2, e3⟩ := heq q hq hc
      unfold zfb sa_s
      rw [if_pos (show isL q = true ∧ lT q = true from ⟨g1, g2.trans hc⟩), if_pos hc, e1, e2, e3]
    · unfold zfb sa_s
      rw [if_neg (show ¬ (isL q = true ∧ lT q = true) from fun hh => hc (g2.symm.trans hh.2)), if_neg hc]
  rw [sp_it_congr (f := fun _ p => sp_it (zfb isL lT lf lt Rw) 48 p) (g := fun _ => sa_r fr to has2 (fun x => (V x : Int)) m) n (fun i x _ => h1 x)]
  exact sa_same hn hok (fun b hb => by
    have hb : decide (b = 0 ∨ b = 1) = true := hb
    have := of_decide_eq_true hb
    omega) rfl
