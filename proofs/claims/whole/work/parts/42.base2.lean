/-! more words: signs of numbers, sets of all blocks; the cells of a Search -/
theorem zi_eq0 {a : Nat} (h : a < 2147483648) : nI a = 0 ↔ a = 0 := by
  rw [← nI_0]; exact nI_eq h (by omega)
theorem zi_le0 {a : Nat} (h : a < 2147483648) : nI a ≤ 0 ↔ a = 0 := by
  rw [← nI_0, nI_leI h (by omega)]; omega
theorem zi_gt0 {a : Nat} (h : a < 2147483648) : 0 < nI a ↔ 0 < a := by
  rw [← nI_0]; exact nI_ltI (by omega) h
theorem zi_ge0 {a : Nat} (h : a < 2147483648) : 0 ≤ nI a := by
  rw [← nI_0]; exact (nI_leI (by omega) h).mpr (Nat.zero_le a)
theorem zi_pred {a : Nat} (h : 0 < a) : nI a + Int32.ofInt (-1) = nI (a - 1) := by
  obtain ⟨b, rfl⟩ : ∃ b, a = b + 1 := ⟨a - 1, by omega⟩
  exact pk_m1 b
theorem zE_ge {m e : Nat} (hm : m < 2147483648) : 0 ≤ zE m e ↔ e < m := by
  by_cases h : e < m
  · rw [zE_in h]
    exact ⟨fun _ => h, fun _ => zi_ge0 (by omega)⟩
  · rw [zE_out (by omega)]
    exact ⟨fun hc => absurd hc (by decide), fun hc => absurd hc h⟩
def zallb (n : Nat) (S : Nat → Bool) : Bool := decide (∀ b, b < n → S b = true)
theorem zall_iff {n : Nat} {S : Nat → Bool} (hn : n < 31) (hS : ∀ b, S b = true → b < n) : bS S = bS (fun i => decide (i < n)) ↔ ∀ b, b < n → S b = true := by
  rw [bS_eq]
  constructor
  · intro h b hb
    rw [h b (by omega)]
    exact decide_eq_true hb
  · intro h i _
    by_cases hi : i < n
    · rw [h i hi, decide_eq_true hi]
    · rw [decide_eq_false hi]
      cases hs : S i with
      | true => exact absurd (hS i hs) hi
      | false => rfl
theorem zpick_S0 {tg n : Nat} {bar : Option Nat} (h : tg < n) : ∀ b, zS0 tg bar b = true → b < n := by
  intro b hb
  unfold zS0 at hb
  split at hb
  · cases hb
  · have := of_decide_eq_true hb
    omega
theorem sr_in {fr to : Nat → Nat} {bar : Option Nat} {m n : Nat} (hok : ∀ e, e < m → fr e < n ∧ to e < n) {S : Nat → Bool} (hS : ∀ b, S b = true → b < n) (k : Nat) : ∀ b, sp_it (fun _ => sr_r fr to bar m) k S b = true → b < n := sp_it_inv (I := fun _ (T : Nat → Bool) => ∀ b, T b = true → b < n) hS k (fun _ T _ hT => sr_r_in hok hT)
def zpick (fr : Nat → Nat) (b m pl : Nat) : Int32 := if sg_deg fr b m = 0 then -1 else nI (sg_pk fr b m (pl % sg_deg fr b m))
abbrev wS (cI cZ : ClassId) (s g ib fi sk lu : Nat) (Mt Op : Nat → Bool) (h : Nat) (bk : Nat → Bool) (fin st lk : Nat → Nat) : va_W := [(s, .inr (1, [.ref g, .ref ib, .ref fi, .ref sk, .ref lu, .int (bS Mt), .int (bS Op), .int (nI h)])), (ib, .inl (cZ, 24, .inl (aB bk))), (fi, .inl (cI, 12, .inl (aN fin))), (sk, .inl (cI, 12, .inl (aN st))), (lu, .inl (cI, 12, .inl (aN lk)))]
theorem ss_bounds {n m : Nat} {fr to met look st : Nat → Nat} {h : Nat} {bk : Nat → Bool} {fin : Nat → Nat} {k : Nat} (I : ss_I n m fr to met look st (h + 1) bk fin k) : h + 1 ≤ n ∧ k < n := by
  obtain ⟨iA, iB, iC, iD, iE, iF, iG, iH, iJ, iK, iM, iN, iO⟩ := I
  have h1 := sp_cnt_le (fun b => decide (met b = 1)) n
  have h2 := iA 0 (by omega)
  have h3 := sp_cnt_lt (p := fun b => decide (met b = 2)) (q := fun _ => true) (k := n) (j := st 0) (fun _ _ _ => rfl) h2.1 rfl (fun hc => by have := of_decide_eq_true hc; omega)
  rw [sp_cnt_true] at h3
  exact ⟨by omega, by omega⟩
theorem ss_room {n m : Nat} {fr to met look st : Nat → Nat} {h : Nat} {bk : Nat → Bool} {fin : Nat → Nat} {k t : Nat} (I : ss_I n m fr to met look st h bk fin k) (ht : t < n) (hm : met t = 0) : h < n := by
  obtain ⟨iA, iB, iC, iD, iE, iF, iG, iH, iJ, iK, iM, iN, iO⟩ := I
  have h3 := sp_cnt_lt (p := fun b => decide (met b = 1)) (q := fun _ => true) (k := n) (j := t) (fun _ _ _ => rfl) ht rfl (fun hc => by have := of_decide_eq_true hc; omega)
  rw [sp_cnt_true] at h3
  omega
theorem zm_pop0 (met : Nat → Nat) {b : Nat} (hb : met b = 1) : (fun x => decide (va_up met b 2 x ≠ 0)) = (fun x => decide (met x ≠ 0)) := by
  funext x
  by_cases h : x = b
  · subst h; rw [sp_up_s, hb]; rfl
  · rw [sp_up_n _ _ h]
theorem zm_pop1 (met : Nat → Nat) (b : Nat) : (fun x => decide (va_up met b 2 x = 1)) = va_up (fun x => decide (met x = 1)) b false := by
  funext x
  by_cases h : x = b
  · subst h; rw [sp_up_s, sp_up_s]; rfl
  · rw [sp_up_n _ _ h, sp_up_n _ _ h]
theorem zm_push0 (met : Nat → Nat) (b : Nat) : (fun x => decide (va_up met b 1 x ≠ 0)) = va_up (fun x => decide (met x ≠ 0)) b true := by
  funext x
  by_cases h : x = b
  · subst h; rw [sp_up_s, sp_up_s]; rfl
  · rw [sp_up_n _ _ h, sp_up_n _ _ h]
theorem zm_push1 (met : Nat → Nat) (b : Nat) : (fun x => decide (va_up met b 1 x = 1)) = va_up (fun x => decide (met x = 1)) b true := by
  funext x
  by_cases h : x = b
  · subst h; rw [sp_up_s, sp_up_s]; rfl
  · rw [sp_up_n _ _ h, sp_up_n _ _ h]
theorem zm_start0 : (fun x => decide (va_up (fun _ => 0) 0 1 x ≠ 0)) = va_up (fun _ => false) 0 true := by
  rw [zm_push0]; rfl
theorem zm_start1 : (fun x => decide (va_up (fun _ => 0) 0 1 x = 1)) = va_up (fun _ => false) 0 true := by
  rw [zm_push1]; rfl
