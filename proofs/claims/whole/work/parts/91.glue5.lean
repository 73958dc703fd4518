/-! glue: a passage, in both -/
abbrev zcT : Type := Option Nat × Int × (Nat → Int) × (Nat → Int)
def zGa (isL : Nat → Bool) (lf lt Rw : Nat → Nat) (B : Nat → Int) (tc : Nat → Nat) (j : Nat) : Int := (sw_V isL lf lt Rw (tc j) : Int) + B (lf (tc j)) - B (lt (tc j))
def zSt (n m : Nat) (fr to : Nat → Nat) (bk : Nat → Bool) (V SV : Nat → Nat) (B : Nat → Int) (isL : Nat → Bool) (lf lt Rw wl wk rho : Nat → Nat) (bk2 : Nat → Bool) : Prop :=
  sg_ok n m fr to ∧ (∀ e, e < m → bk2 e = bk e) ∧ sw_H n 48 isL lf lt Rw rho ∧ rho 1 = 0 ∧ rho 0 = n ∧
  (∀ e, e < m → isL e = true ∧ lf e = fr e ∧ lt e = ztg bk to e ∧ sw_V isL lf lt Rw e = V e) ∧
  (∀ e, e < m → bk e = true → isL (24 + e) = true ∧ lf (24 + e) = 0 ∧ lt (24 + e) = to e ∧ sw_V isL lf lt Rw (24 + e) = SV e ∧ to e ≠ 1) ∧
  B 0 = 0 ∧ B 1 = 0 ∧ Rw 0 ≤ 200 ∧ zwF isL lf lt Rw (Rw 0) wl wk ∧ ∀ b, b < n → b ≠ 1 → ∃ e, e < m ∧ fr e = b
def zDy (n m : Nat) (fr to : Nat → Nat) (has isL : Nat → Bool) (lf lt Rw : Nat → Nat) (B : Nat → Int) (sc : Nat → Int) (rs : Int) : zcT → zwT → Prop := fun c s => match c, s with
  | (wh, sm, H, Cm), (tc, ec, bc, wc, ru, pl, pk, es) => Cm = wc ∧ wh = (if ru = true then some pl else none) ∧ (ru = false → sm = 0) ∧ (ru = true → pl < n ∧ pl ≠ 1 ∧ sw_C 48 isL lf lt 0 (sw_l tc pk) pl ∧ sm = sf_sum (zGa isL lf lt Rw B tc) pk) ∧ (∀ e, e < m → H e = if has e = true then 0 else ec e) ∧ sf_F n m fr to ec sc ru pl ∧ sf_G n m to ec sc bc rs es ru ∧ (∀ w, Rw 0 ≤ w → wc w = 0) ∧ pl < n ∧ ∃ c, sw_C 48 isL lf lt 0 (sw_l tc pk) c
def zcE (to : Nat → Nat) (bk : Nat → Bool) (e : Nat) : Option Nat := if bk e = true then some (to e) else if to e = 1 then none else some (to e)
def zcS (fr to : Nat → Nat) (bk : Nat → Bool) (V SV : Nat → Nat) (B : Nat → Int) (e : Nat) (sm : Int) : Int := if bk e = true then SV e + B 0 - B (to e) else if to e = 1 then 0 else sm + (V e + B (fr e) - B (ztg bk to e))
def zcH (has : Nat → Bool) (e : Nat) (H : Nat → Int) : Nat → Int := if has e = true then H else va_up H e (H e + 1)
def zcC (fr to : Nat → Nat) (bk : Nat → Bool) (V : Nat → Nat) (B : Nat → Int) (sd : Bool) (wy e : Nat) (sm : Int) (Cm : Nat → Int) : Nat → Int := if bk e = true ∨ to e = 1 then zcw sd wy (sm + (V e + B (fr e) - B (ztg bk to e))) Cm else Cm
theorem zsum {isL : Nat → Bool} {lf lt Rw : Nat → Nat} {B : Nat → Int} {tc : Nat → Nat} : ∀ k c, sw_C 48 isL lf lt 0 (sw_l tc k) c → sf_sum (zGa isL lf lt Rw B tc) k = (sw_n (sw_V isL lf lt Rw) (sw_l tc k) : Int) + B 0 - B c := by
  intro k
  induction k with
  | zero =>
    intro c h
    have hc : 0 = c := h
    subst hc
    show (0 : Int) = ((0 : Nat) : Int) + B 0 - B 0
    omega
  | succ k ih =>
    intro c h
    obtain ⟨g1, g2, g3, g4⟩ := sw_lastC h
    have h1 := ih _ g3
    have h2 : sw_n (sw_V isL lf lt Rw) (sw_l tc (k + 1)) = sw_n (sw_V isL lf lt Rw) (sw_l tc k) + (sw_V isL lf lt Rw (tc k) + 0) := sw_n_app _ _ _
    show sf_sum (zGa isL lf lt Rw B tc) k + ((sw_V isL lf lt Rw (tc k) : Int) + B (lf (tc k)) - B (lt (tc k))) = _
    rw [h1, h2, g4]
    omega
theorem zcwy_one {wl wk t : Nat → Nat} {k w N : Nat} {wc : Nat → Int} (hz : ∀ v, v < N → (zsm wl wk t k v k = true ↔ v = w)) : ∀ j, j ≤ N → sp_it (zcwy wl wk t k) j wc = if w < j then va_up wc w (wc w + 1) else wc := by
  intro j
  induction j with
  | zero => intro _; exact (if_neg (Nat.not_lt_zero _)).symm
  | succ j ih =>
    intro hj
    have ih := ih (by omega)
    show va_up (sp_it (zcwy wl wk t k) j wc) j (if zsm wl wk t k j k = true then (sp_it (zcwy wl wk t k) j wc) j + 1 else (sp_it (zcwy wl wk t k) j wc) j) = _
    by_cases h1 : j = w
    · subst h1
      rw [if_neg (Nat.lt_irrefl _)] at ih
      rw [ih, if_pos ((hz j (by omega)).mpr rfl), if_pos (Nat.lt_succ_self _)]
    · rw [if_neg (show ¬ zsm wl wk t k j k = true from fun h => h1 ((hz j (by omega)).mp h)), va_up_same, ih]
      by_cases h2 : w < j
      · rw [if_pos h2, if_pos (by omega)]
      · rw [if_neg h2, if_neg (by omega)]
theorem zcount {n : Nat} {isL : Nat → Bool} {lf lt Rw rho wl wk t : Nat → Nat} {k : Nat} (H : sw_H n 48 isL lf lt Rw rho) (hn : 0 < n) (h200 : Rw 0 ≤ 200) (hF : zwF isL lf lt Rw (Rw 0) wl wk) (hC : sw_C 48 isL lf lt 0 (sw_l t k) 1) {s : Int} (hs : s = (sw_n (sw_V isL lf lt Rw) (sw_l t k) : Int)) (wc : Nat → Int) (h0 : ∀ w, Rw 0 ≤ w → wc w = 0) : zcw true (Rw 0) s wc = sp_it (zcwy wl wk t k) (Rw 0) wc ∧ ∀ w, Rw 0 ≤ w → zcw true (Rw 0) s wc w = 0 := by
  have hw := sw_lt H _ 0 hn hC
  obtain ⟨w, hw0⟩ : ∃ w, sw_n (sw_V isL lf lt Rw) (sw_l t k) = w := ⟨_, rfl⟩
  rw [hw0] at hw hs
  have hz : ∀ v, v < Rw 0 → (zsm wl wk t k v k = true ↔ v = w) := by
    intro v hv
    obtain ⟨g1, g2, g3⟩ := hF.1 v hv
    constructor
    · intro h
      have h : wl v = k ∧ ∀ j, j < k → wk (16 * v + j) = t j := of_decide_eq_true h
      have h5 : sw_l (fun i => wk (16 * v + i)) (wl v) = sw_l t k := sw_l_eq.mpr ⟨h.1, fun i hi => h.2 i (by rw [← h.1]; exact hi)⟩
      rw [h5, hw0] at g3
      exact g3.symm
    · intro h
      have h5 : sw_l (fun i => wk (16 * v + i)) (wl v) = sw_l t k := sw_uniq H _ _ 0 hn g2 hC (by rw [g3, hw0, h])
      have h6 := sw_l_eq.mp h5
      exact decide_eq_true ⟨h6.1, fun j hj => h6.2 j (by rw [h6.1]; exact hj)⟩
  have hx : Int32.ofInt s = nI w := by rw [hs, zi_of]
  have hr : zcw true (Rw 0) s wc = va_up wc w (wc w + 1) := by
    unfold zcw
    rw [hx, zin_nI hw (by omega), nI_clamp (show w < 2 ^ 31 by omega)]
    exact if_pos rfl
  refine ⟨?_, fun v hv => ?_⟩
  · rw [hr, zcwy_one hz (Rw 0) (Nat.le_refl _), if_pos hw]
  · rw [hr, sp_up_n _ _ (by omega)]
    exact h0 v hv
theorem zpass {n m : Nat} {fr to : Nat → Nat} {bk has : Nat → Bool} {V SV : Nat → Nat} {B : Nat → Int} {isL : Nat → Bool} {lf lt Rw wl wk rho : Nat → Nat} {bk2 : Nat → Bool} (hS : zSt n m fr to bk V SV B isL lf lt Rw wl wk rho bk2) {sc : Nat → Int} {rs : Int} {wh : Option Nat} {sm : Int} {H Cm : Nat → Int} {tc : Nat → Nat} {ec bc wc : Nat → Int} {pl pk : Nat} {es : Int} {e : Nat} (he : e < m) (hf : fr e = pl) (hD : zDy n m fr to has isL lf lt Rw B sc rs (wh, sm, H, Cm) (tc, ec, bc, wc, true, pl, pk, es)) : zDy n m fr to has isL lf lt Rw B sc rs (zcE to bk e, zcS fr to bk V SV B e sm, zcH has e H, zcC fr to bk V B true (Rw 0) e sm Cm) (zws to bk2 wl wk (Rw 0) e (tc, ec, bc, wc, true, pl, pk, es)) := by
  obtain ⟨hg, hb, H1, hr1, hr0, hlo, hhi, hB0, hB1, h200, hF, hout⟩ := hS
  obtain ⟨hn, hn2, hm, hgo⟩ := hg
  subst hf
  obtain ⟨d1, d2, d3, d4, d5, d6, d7, d8, d9, d10⟩ := hD
  obtain ⟨p1, p2, p3, p4⟩ := d4 rfl
  obtain ⟨e1, e2, e3, e4⟩ := hlo e he
  have hbe := hb e he
  have hge := hgo e he
  have hC : sw_C 48 isL lf lt 0 (sw_l (va_up tc pk e) (pk + 1)) (ztg bk to e) := by
    show sw_C 48 isL lf lt 0 (sw_l (va_up tc pk e) pk ++ [va_up tc pk e pk]) _
    rw [sw_l_up (Nat.le_refl _), sp_up_s]
    exact (sw_app _ _ _ _).mpr ⟨fr e, p3, by omega, e1, e2, e3⟩
  have hsm : sm + (V e + B (fr e) - B (ztg bk to e)) = sf_sum (zGa isL lf lt Rw B (va_up tc pk e)) (pk + 1) := by
    show _ = sf_sum (zGa isL lf lt Rw B (va_up tc pk e)) pk + ((sw_V isL lf lt Rw (va_up tc pk e pk) : Int) + B (lf (va_up tc pk e pk)) - B (lt (va_up tc pk e pk)))
    rw [sf_sum_congr (f := zGa isL lf lt Rw B (va_up tc pk e)) (g := zGa isL lf lt Rw B tc) (fun j hj => by unfold zGa; rw [sp_up_n _ _ (by omega)]), ← p4, sp_up_s, e2, e3, e4]
  have hcnt : ztg bk to e = 1 → zcw true (Rw 0) (sm + (V e + B (fr e) - B (ztg bk to e))) Cm = sp_it (zcwy wl wk (va_up tc pk e) (pk + 1)) (Rw 0) wc ∧ ∀ w, Rw 0 ≤ w → zcw true (Rw 0) (sm + (V e + B (fr e) - B (ztg bk to e))) Cm w = 0 := by
    intro h1
    have hC1 := hC
    rw [h1] at hC1
    have h2 := zsum (Rw := Rw) (B := B) (pk + 1) 1 hC1
    rw [← hsm, hB0, hB1] at h2
    rw [d1]
    exact zcount H1 (by omega) h200 hF hC1 (by rw [h2]; omega) wc d8
  have hH : ∀ x, x < m → zcH has e H x = if has x = true then 0 else va_up ec e (ec e + 1) x := by
    intro x hx
    unfold zcH
    by_cases hh : has e = true
    · rw [if_pos hh, d5 x hx]
      by_cases hxe : x = e
      · rw [hxe, if_pos hh, if_pos hh]
      · rw [sp_up_n _ _ hxe]
    · rw [if_neg hh]
      by_cases hxe : x = e
      · rw [hxe, sp_up_s, sp_up_s, if_neg hh, d5 e he, if_neg hh]
      · rw [sp_up_n _ _ hxe, sp_up_n _ _ hxe]; exact d5 x hx
  have hfin : ∀ (wh' : Option Nat) (sm' : Int) (Cm' : Nat → Int) (tc' : Nat → Nat) (wc' : Nat → Int) (ru' : Bool) (pk' : Nat) (es' : Int), zcE to bk e = wh' → zcS fr to bk V SV B e sm = sm' → zcC fr to bk V B true (Rw 0) e sm Cm = Cm' → zpT (bk2 e) tc pk e = tc' → zpC (bk2 e) (to e) wl wk tc pk (Rw 0) wc e = wc' → zpR (bk2 e) (to e) true = ru' → zpK (bk2 e) pk = pk' → zpE (bk2 e) (to e) es = es' → Cm' = wc' → wh' = (if ru' = true then some (to e) else none) → (ru' = false → sm' = 0) → (ru' = true → to e ≠ 1 ∧ sw_C 48 isL lf lt 0 (sw_l tc' pk') (to e) ∧ sm' = sf_sum (zGa isL lf lt Rw B tc') pk') → ru' = decide (to e ≠ 1) → es' = (if to e = 1 then es + 1 else es) → (∀ w, Rw 0 ≤ w → wc' w = 0) → (∃ c, sw_C 48 isL lf lt 0 (sw_l tc' pk') c) → zDy n m fr to has isL lf lt Rw B sc rs (zcE to bk e, zcS fr to bk V SV B e sm, zcH has e H, zcC fr to bk V B true (Rw 0) e sm Cm) (zws to bk2 wl wk (Rw 0) e (tc, ec, bc, wc, true, fr e, pk, es)) := by
    intro wh' sm' Cm' tc' wc' ru' pk' es' q1 q2 q3 q4 q5 q6 q7 q8 k1 k2 k3 k4 k5 k6 k7 k8
    show zDy n m fr to has isL lf lt Rw B sc rs (zcE to bk e, zcS fr to bk V SV B e sm, zcH has e H, zcC fr to bk V B true (Rw 0) e sm Cm) (zpT (bk2 e) tc pk e, va_up ec e (ec e + 1), va_up bc (to e) (bc (to e) + 1), zpC (bk2 e) (to e) wl wk tc pk (Rw 0) wc e, zpR (bk2 e) (to e) true, to e, zpK (bk2 e) pk, zpE (bk2 e) (to e) es)
    rw [q1, q2, q3, q4, q5, q6, q7, q8]
    refine ⟨k1, k2, k3, fun h => ⟨hge.2.1, k4 h⟩, hH, ?_, ?_, k7, hge.2.1, k8⟩
    · refine sf_pass he d6 ?_
      rw [k5]
      by_cases ht : to e = 1
      · exact Or.inr ht
      · exact Or.inl (decide_eq_true ht)
    · rw [k5, k6]
      exact sf_G_pass he hge.2.2.2 d7
  cases hbk : bk e with
  | true =>
    obtain ⟨f1, f2, f3, f4, f5⟩ := hhi e he hbk
    obtain ⟨c1, c2⟩ := hcnt (ztg_t hbk)
    rw [hbk] at hbe
    have hp1 : sw_C 48 isL lf lt 0 (sw_l (va_up (va_up tc pk e) 0 (24 + e)) (0 + 1)) (to e) := by
      show sw_C 48 isL lf lt 0 [va_up (va_up tc pk e) 0 (24 + e) 0] (to e)
      rw [sp_up_s]
      exact ⟨by omega, f1, f2, f3⟩
    refine hfin (some (to e)) (SV e + B 0 - B (to e)) (zcw true (Rw 0) (sm + (V e + B (fr e) - B (ztg bk to e))) Cm) (va_up (va_up tc pk e) 0 (24 + e)) (sp_it (zcwy wl wk (va_up tc pk e) (pk + 1)) (Rw 0) wc) true (0 + 1) es (if_pos hbk) (if_pos hbk) (if_pos (Or.inl hbk)) (if_pos hbe) (if_pos (Or.inl hbe)) (if_neg (fun hc => zbf hbe hc.1)) (if_pos hbe) (if_neg (fun hc => zbf hbe hc.1)) c1 (if_pos rfl).symm (fun hc => by cases hc) (fun _ => ⟨f5, hp1, ?_⟩) (decide_eq_true f5).symm (if_neg f5).symm (fun w hw => by rw [← c1]; exact c2 w hw) ⟨_, hp1⟩
    · show _ = (0 : Int) + ((sw_V isL lf lt Rw (va_up (va_up tc pk e) 0 (24 + e) 0) : Int) + B (lf (va_up (va_up tc pk e) 0 (24 + e) 0)) - B (lt (va_up (va_up tc pk e) 0 (24 + e) 0)))
      rw [sp_up_s, f2, f3, f4, Int.zero_add]
  | false =>
    rw [hbk] at hbe
    have hzt := ztg_f (to := to) hbk
    by_cases ht : to e = 1
    · obtain ⟨c1, c2⟩ := hcnt (hzt.trans ht)
      exact hfin none 0 (zcw true (Rw 0) (sm + (V e + B (fr e) - B (ztg bk to e))) Cm) (va_up tc pk e) (sp_it (zcwy wl wk (va_up tc pk e) (pk + 1)) (Rw 0) wc) false (pk + 1) (es + 1) ((if_neg (fun hc => zbf hc hbk)).trans (if_pos ht)) ((if_neg (fun hc => zbf hc hbk)).trans (if_pos ht)) (if_pos (Or.inr ht)) (if_neg (fun hc => zbf hc hbe)) (if_pos (Or.inr ht)) (if_pos ⟨hbe, ht⟩) (if_neg (fun hc => zbf hc hbe)) (if_pos ⟨hbe, ht⟩) c1 (if_neg (by decide)).symm (fun _ => rfl) (fun hc => by cases hc) (decide_eq_false (fun hc => hc ht)).symm (if_pos ht).symm (fun w hw => by rw [← c1]; exact c2 w hw) ⟨_, hC⟩
    · exact hfin (some (to e)) (sm + (V e + B (fr e) - B (ztg bk to e))) Cm (va_up tc pk e) wc true (pk + 1) es ((if_neg (fun hc => zbf hc hbk)).trans (if_neg ht)) ((if_neg (fun hc => zbf hc hbk)).trans (if_neg ht)) (if_neg (fun hc => hc.elim (fun a => zbf a hbk) ht)) (if_neg (fun hc => zbf hc hbe)) (if_neg (fun hc => hc.elim (fun a => zbf a hbe) ht)) (if_neg (fun hc => ht hc.2)) (if_neg (fun hc => zbf hc hbe)) (if_neg (fun hc => ht hc.2)) d1 (if_pos rfl).symm (fun hc => by cases hc) (fun _ => ⟨ht, by rw [← hzt]; exact hC, hsm⟩) (decide_eq_true ht).symm (if_neg ht).symm d8 ⟨_, hC⟩
theorem zroom {n m : Nat} {fr to : Nat → Nat} {bk has : Nat → Bool} {V SV : Nat → Nat} {B : Nat → Int} {isL : Nat → Bool} {lf lt Rw wl wk rho : Nat → Nat} {bk2 : Nat → Bool} (hS : zSt n m fr to bk V SV B isL lf lt Rw wl wk rho bk2) {sc : Nat → Int} {rs : Int} {wh : Option Nat} {sm : Int} {H Cm : Nat → Int} {tc : Nat → Nat} {ec bc wc : Nat → Int} {pl pk : Nat} {es : Int} (hD : zDy n m fr to has isL lf lt Rw B sc rs (wh, sm, H, Cm) (tc, ec, bc, wc, true, pl, pk, es)) : wh = some pl ∧ pk < 16 ∧ pl < n ∧ pl ≠ 1 ∧ 0 < sg_deg fr pl m ∧ ∀ i, i < pk → tc i < 48 ∧ lf (tc i) < 12 ∧ lt (tc i) < 12 := by
  obtain ⟨hg, hb, H1, hr1, hr0, hlo, hhi, hB0, hB1, h200, hF, hout⟩ := hS
  obtain ⟨hn, hn2, hm, hgo⟩ := hg
  obtain ⟨d1, d2, d3, d4, d5, d6, d7, d8, d9, d10⟩ := hD
  obtain ⟨p1, p2, p3, p4⟩ := d4 rfl
  obtain ⟨g1, g2⟩ := zw_b H1 hr1 hr0 hn2 p3
  refine ⟨d2, by omega, p1, p2, ?_, fun i hi => ?_⟩
  · obtain ⟨x, x1, x2⟩ := hout pl p1 p2
    exact sp_cnt_pos (p := fun e => decide (fr e = pl)) x1 (decide_eq_true x2)
  · obtain ⟨q1, q2, q3⟩ := g2 i hi
    have q4 := H1.2.2.1 _ q1 q2
    exact ⟨q1, by omega, by omega⟩
