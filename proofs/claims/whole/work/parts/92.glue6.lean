/-! glue: walks, counts, ways link by link -/
def zcs (fr to : Nat → Nat) (bk has : Nat → Bool) (V SV : Nat → Nat) (B : Nat → Int) (sd : Bool) (wy e : Nat) : zcT → zcT := fun c => match c with
  | (_, sm, H, Cm) => (zcE to bk e, zcS fr to bk V SV B e sm, zcH has e H, zcC fr to bk V B sd wy e sm Cm)
def zcg (fr to : Nat → Nat) (bk has : Nat → Bool) (V SV : Nat → Nat) (B : Nat → Int) (sd : Bool) (m wy : Nat) : Nat → Int32 → zcT → Nat × zcT
  | 0, _, c => (0, c)
  | k + 1, x, c => match c.1 with
    | none => (0, c)
    | some p => ((zcg fr to bk has V SV B sd m wy k (zsr x) (zcs fr to bk has V SV B sd wy (sg_pk fr p m (zt3 x % sg_deg fr p m)) c)).1 + 1, (zcg fr to bk has V SV B sd m wy k (zsr x) (zcs fr to bk has V SV B sd wy (sg_pk fr p m (zt3 x % sg_deg fr p m)) c)).2)
theorem zcg_none {fr to : Nat → Nat} {bk has : Nat → Bool} {V SV : Nat → Nat} {B : Nat → Int} {sd : Bool} {m wy k : Nat} {x : Int32} {sm : Int} {H Cm : Nat → Int} : zcg fr to bk has V SV B sd m wy k x (none, sm, H, Cm) = (0, (none, sm, H, Cm)) := by
  cases k with
  | zero => rfl
  | succ k => rfl
theorem zcg_go {fr to : Nat → Nat} {bk has : Nat → Bool} {V SV : Nat → Nat} {B : Nat → Int} {sd : Bool} {m wy k : Nat} {x : Int32} {p e : Nat} {sm : Int} {H Cm : Nat → Int} (he : sg_pk fr p m (zt3 x % sg_deg fr p m) = e) : zcg fr to bk has V SV B sd m wy (k + 1) x (some p, sm, H, Cm) = ((zcg fr to bk has V SV B sd m wy k (zsr x) (zcE to bk e, zcS fr to bk V SV B e sm, zcH has e H, zcC fr to bk V B sd wy e sm Cm)).1 + 1, (zcg fr to bk has V SV B sd m wy k (zsr x) (zcE to bk e, zcS fr to bk V SV B e sm, zcH has e H, zcC fr to bk V B sd wy e sm Cm)).2) := by
  subst he
  rfl
theorem zwalk {n m : Nat} {fr to : Nat → Nat} {bk has : Nat → Bool} {V SV : Nat → Nat} {B : Nat → Int} {isL : Nat → Bool} {lf lt Rw wl wk rho : Nat → Nat} {bk2 : Nat → Bool} (hS : zSt n m fr to bk V SV B isL lf lt Rw wl wk rho bk2) {sc : Nat → Int} {rs : Int} : ∀ k x c s, zDy n m fr to has isL lf lt Rw B sc rs c s → (zcg fr to bk has V SV B true m (Rw 0) k x c).1 = (zwg fr to bk2 wl wk m (Rw 0) k x s).1 ∧ zDy n m fr to has isL lf lt Rw B sc rs (zcg fr to bk has V SV B true m (Rw 0) k x c).2 (zwg fr to bk2 wl wk m (Rw 0) k x s).2 := by
  intro k
  induction k with
  | zero => intro x c s h; exact ⟨rfl, h⟩
  | succ k ih =>
    intro x c s h
    obtain ⟨wh, sm, H, Cm⟩ := c
    obtain ⟨tc, ec, bc, wc, ru, pl, pk, es⟩ := s
    cases ru with
    | false =>
      have hw : wh = none := h.2.1
      subst hw
      rw [zcg_none, zwg_stop rfl]
      exact ⟨rfl, h⟩
    | true =>
      obtain ⟨r1, r2, r3, r4, r5, r6⟩ := zroom hS h
      subst r1
      obtain ⟨p1, p2, p3⟩ := sg_pk_spec (fr := fr) (b := pl) (m := m) (zt3 x % sg_deg fr pl m) (Nat.mod_lt _ r5)
      obtain ⟨e, he⟩ : ∃ e, sg_pk fr pl m (zt3 x % sg_deg fr pl m) = e := ⟨_, rfl⟩
      rw [he] at p1 p2
      have hp := zpass hS p1 p2 h
      obtain ⟨q1, q2⟩ := ih (zsr x) _ _ hp
      rw [zcg_go he, zwg_go (s := (tc, ec, bc, wc, true, pl, pk, es)) rfl he]
      exact ⟨congrArg (· + 1) q1, q2⟩
def zBh (m : Nat) (fr to : Nat → Nat) (has : Nat → Bool) (Bh : Nat → Nat → Bool) : Prop := ∀ e, e < m → has e = true → Bh e 0 = false ∧ Bh e 1 = false ∧ Bh e (fr e) ≠ Bh e (to e) ∧ ∀ x, x < m → has x = true → x ≠ e → Bh e (fr x) = Bh e (to x)
theorem zw0_eq (B : Nat → Bool) (ru : Bool) (pl : Nat) : zw0 B (if ru = true then some pl else none) = sf_c (ru && B pl) 1 := by
  cases ru with
  | false => rfl
  | true => rfl
theorem zpo_eq {n m : Nat} {fr to : Nat → Nat} {has : Nat → Bool} {Bh : Nat → Nat → Bool} {H ec sc : Nat → Int} {ru : Bool} {pl : Nat} (hB : zBh m fr to has Bh) (hH : ∀ e, e < m → H e = if has e = true then 0 else ec e) (hF : sf_F n m fr to ec sc ru pl) : ∀ e, e < m → zpo fr to n m has Bh H sc (if ru = true then some pl else none) e = ec e := by
  intro e he
  unfold zpo
  by_cases hh : has e = true
  · obtain ⟨b1, b2, b3, b4⟩ := hB e he hh
    rw [if_pos hh, sf_cut hF he b1 b2 hh b3 b4 hH]
    unfold zrl zho
    rw [zw0_eq]
  · rw [if_neg hh, hH e he, if_neg hh]
theorem zvi_eq {n m : Nat} {fr to : Nat → Nat} {has : Nat → Bool} {Bh : Nat → Nat → Bool} {H ec sc bc : Nat → Int} {ru : Bool} {pl : Nat} {rs es : Int} (hn : 2 ≤ n) (hpl : ru = true → pl < n) (hB : zBh m fr to has Bh) (hH : ∀ e, e < m → H e = if has e = true then 0 else ec e) (hF : sf_F n m fr to ec sc ru pl) (hG : sf_G n m to ec sc bc rs es ru) : (∀ b, b < n → zvi fr to n m has Bh H sc (if ru = true then some pl else none) b = bc b) ∧ bc 0 = rs ∧ bc 1 = es := by
  obtain ⟨g1, g2, g3, g4⟩ := hG
  have hp : ∀ b, b < n → b ≠ 0 → zpi fr to n m has Bh H sc (if ru = true then some pl else none) b = bc b := by
    intro b hb hb0
    unfold zpi
    rw [sf_sum_congr (g := fun e => sf_c (decide (to e = b)) (ec e)) (fun e he => by rw [zpo_eq hB hH hF e he])]
    exact (g1 b hb hb0).symm
  refine ⟨fun b hb => ?_, g2, g3⟩
  unfold zvi
  by_cases h0 : b = 0
  · rw [if_pos h0, hp 1 (by omega) (by decide), h0, g2, g3]
    unfold zrl
    rw [zw0_eq, sf_sum_congr (f := fun b => sf_c (decide (b < n)) (sc b)) (g := sc) (fun i hi => by rw [decide_eq_true hi]; rfl)]
    have h9 : sf_c (ru && decide (pl < n)) 1 = sf_c ru 1 := by
      cases ru with
      | false => rfl
      | true => rw [decide_eq_true (hpl rfl)]; rfl
    rw [h9, g4]
    omega
  · rw [if_neg h0]
    exact hp b hb h0
theorem zpc_eq {f g : Nat → Int} {k : Nat} (h : ∀ i, i < k → f i = g i) : zpc f k = sp_cnt (zpg g) k := sp_cnt_congr (fun i hi => by unfold zpg; rw [h i hi])
theorem zpc_ways {g : Nat → Int} {k N : Nat} (hk : k ≤ N) (h : ∀ w, k ≤ w → g w = 0) : zpc g N = sp_cnt (zpg g) k := by
  have h1 : zpc g N = sp_cnt (zpg g) N := zpc_eq (fun _ _ => rfl)
  rw [h1]
  exact sp_cnt_gap hk (fun i hi _ => by unfold zpg; rw [h i hi]; decide)
def zcl (m : Nat) (bk isL : Nat → Bool) (lt : Nat → Nat) : Prop := (∀ l, l < 48 → isL l = true → l < m ∨ ∃ e, e < m ∧ l = 24 + e ∧ bk e = true) ∧ ∀ l, l < 48 → isL l = true → lt l ≠ 0
theorem zedges {m : Nat} {bk isL : Nat → Bool} {lf lt : Nat → Nat} (hc : zcl m bk isL lt) (hz : ∀ e, e < m → bk e = true → lf (24 + e) = 0) : ∀ q b c, b ≠ 0 → sw_C 48 isL lf lt b q c → ∀ l ∈ q, l < m := by
  intro q
  induction q with
  | nil => intro b c _ _ l hl; cases hl
  | cons a q ih =>
    intro b c hb h l hl
    obtain ⟨g1, g2, g3, g4⟩ := h
    rcases List.mem_cons.mp hl with h1 | h1
    · subst h1
      rcases hc.1 l g1 g2 with h2 | ⟨e, h2, h3, h5⟩
      · exact h2
      · rw [h3, hz e h2 h5] at g3
        exact absurd g3.symm hb
    · exact ih (lt a) c (hc.2 a g1 g2) g4 l h1
theorem zgo_ok {n m : Nat} {fr to V : Nat → Nat} {bk isL : Nat → Bool} {lf lt Rw rho : Nat → Nat} (H : sw_H n 48 isL lf lt Rw rho) (hm : m ≤ 24) (hlo : ∀ e, e < m → isL e = true ∧ lf e = fr e ∧ lt e = ztg bk to e ∧ sw_V isL lf lt Rw e = V e) : ∀ q b r s i j, sw_C 48 isL lf lt b q 1 → sw_n (sw_V isL lf lt Rw) q = r → b < n → (∀ l ∈ q, l < m) → q.length ≤ s → i ≤ j → j < 2147483648 → zgo fr (ztg bk to) V m (nI j) s i b r = match q[j - i]? with
    | some l => nI l
    | none => -2147483648 := by
  intro q
  induction q with
  | nil =>
    intro b r s i j h1 h2 h3 h4 h5 h6 h7
    have hb : b = 1 := h1
    cases s with
    | zero => rfl
    | succ s => rw [zgo_1 hb]; rfl
  | cons l q ih =>
    intro b r s i j h1 h2 h3 h4 h5 h6 h7
    obtain ⟨g1, g2⟩ := sw_pick H h3 h1
    obtain ⟨k1, k2, k3, k4⟩ := h1
    have hlm := h4 l (List.mem_cons_self ..)
    obtain ⟨e1, e2, e3, e4⟩ := hlo l hlm
    have hl9 := H.2.2.1 l k1 k2
    have hb1 : ¬ b = 1 := by rw [← k3]; exact hl9.2.1
    have hla : sw_last (zpl fr V b r) m = l + 1 := by
      refine sw_last_at hlm ?_ (fun x hx1 hx2 hx3 => ?_)
      · show (decide (fr l = b) && decide (V l ≤ r)) = true
        rw [decide_eq_true (e2.symm.trans k3), decide_eq_true (show V l ≤ r by rw [← e4, ← h2]; exact g1)]
        rfl
      · have hx3 : (decide (fr x = b) && decide (V x ≤ r)) = true := hx3
        rw [Bool.and_eq_true] at hx3
        obtain ⟨y1, y2, y3, y4⟩ := hlo x hx2
        refine g2 x hx1 (by omega) y1 (y2.trans (of_decide_eq_true hx3.1)) ?_
        rw [y4, h2]
        exact of_decide_eq_true hx3.2
    obtain ⟨s, rfl⟩ : ∃ s', s = s' + 1 := ⟨s - 1, by simp at h5; omega⟩
    by_cases hij : i = j
    · subst hij
      rw [zgo_hit hb1 hla rfl, Nat.sub_self]
      rfl
    · rw [zgo_next hb1 hla (fun hc => hij ((nI_eq (a := i) (b := j) (by omega) (by omega)).mp hc))]
      have hr : sw_n (sw_V isL lf lt Rw) q = r - V l := by
        have h9 : sw_V isL lf lt Rw l + sw_n (sw_V isL lf lt Rw) q = r := h2
        omega
      rw [ih (ztg bk to l) (r - V l) s (i + 1) j (by rw [← e3]; exact k4) hr (by rw [← e3]; exact hl9.2.2.1) (fun x hx => h4 x (List.mem_cons_of_mem _ hx)) (by simp at h5; omega) (by omega) h7, show j - i = (j - (i + 1)) + 1 by omega]
      rfl
theorem sw_len2 {m : Nat} {fr to : Nat → Nat} {bk isL : Nat → Bool} {lf lt rr : Nat → Nat} (hlo : ∀ e, e < m → lf e = fr e ∧ lt e = ztg bk to e) (hrr : ∀ e, e < m → rr (ztg bk to e) < rr (fr e)) : ∀ q b c, sw_C 48 isL lf lt b q c → (∀ l ∈ q, l < m) → q.length + rr c ≤ rr b := by
  intro q
  induction q with
  | nil =>
    intro b c h _
    have h : b = c := h
    rw [h, List.length_nil]
    omega
  | cons l q ih =>
    intro b c h hl
    obtain ⟨g1, g2, g3, g4⟩ := h
    have hlm := hl l (List.mem_cons_self ..)
    have h1 := ih (lt l) c g4 (fun x hx => hl x (List.mem_cons_of_mem _ hx))
    have h2 := hrr l hlm
    rw [← (hlo l hlm).1, ← (hlo l hlm).2, g3] at h2
    rw [List.length_cons]
    omega
theorem zalong {n m : Nat} {fr to : Nat → Nat} {bk : Nat → Bool} {V SV : Nat → Nat} {B : Nat → Int} {isL : Nat → Bool} {lf lt Rw wl wk rho : Nat → Nat} {bk2 : Nat → Bool} (hS : zSt n m fr to bk V SV B isL lf lt Rw wl wk rho bk2) (hc : zcl m bk isL lt) {rr : Nat → Nat} (hrr0 : ∀ b, b < n → rr b + 1 ≤ n) (hrr : ∀ e, e < m → rr (ztg bk to e) < rr (fr e)) {w j : Nat} (hw : w < Rw 0) (hj : j < 2147483648) : (if nI j = 0 then zL (sw_last (zps bk SV w) m) else zgo fr (ztg bk to) V m (nI j) (n - 1) 1 (zb0 to (sw_last (zps bk SV w) m)) (zr0 SV w (sw_last (zps bk SV w) m))) = zal wl wk w j := by
  obtain ⟨hg, hb, H1, hr1, hr0, hlo, hhi, hB0, hB1, h200, hF, hout⟩ := hS
  obtain ⟨hn, hn2, hm, hgo⟩ := hg
  obtain ⟨f1, f2, f3⟩ := hF.1 w hw
  have hlen := sw_len H1 _ _ _ f2
  rw [sw_l_len, hr1, hr0] at hlen
  have hget := fun i => sw_l_get (fun i => wk (16 * w + i)) (wl w) i
  obtain ⟨p, hp⟩ : ∃ p, sw_l (fun i => wk (16 * w + i)) (wl w) = p := ⟨_, rfl⟩
  have hpl : p.length = wl w := by rw [← hp, sw_l_len]
  rw [hp] at f2 f3 hget
  have hz : ∀ e, e < m → bk e = true → lf (24 + e) = 0 := fun e he hbe => (hhi e he hbe).2.1
  cases p with
  | nil =>
    have h9 : (0 : Nat) = 1 := f2
    cases h9
  | cons a q =>
    have hL : wl w = q.length + 1 := by rw [← hpl]; rfl
    obtain ⟨g1, g2⟩ := sw_pick H1 (show 0 < n by omega) f2
    obtain ⟨k1, k2, k3, k4⟩ := f2
    have ha : a = wk (16 * w) := by
      have h9 := hget 0
      rw [if_pos (by omega)] at h9
      exact Option.some.inj h9
    have hq0 : ∀ l ∈ q, l < m := zedges hc hz q (lt a) 1 (hc.2 a k1 k2) k4
    have hj0 : nI j = 0 ↔ j = 0 := zi_eq0 hj
    have hmod : ∀ i, zal wl wk w (i + 1) = match (a :: q)[if 24 ≤ a then i + 1 else i]? with
      | some l => nI l
      | none => -2147483648 := by
      intro i
      obtain ⟨q0, hqq⟩ : ∃ q0, (if 24 ≤ a then i + 1 else i) = q0 := ⟨_, rfl⟩
      have h8 := hget q0
      have h7 : zal wl wk w (i + 1) = if wl w ≤ q0 then -2147483648 else nI (wk (16 * w + q0)) := by
        unfold zal
        rw [if_neg (Nat.succ_ne_zero i), ← ha, Nat.add_sub_cancel, hqq]
      rw [h7, hqq, h8]
      by_cases hc2 : wl w ≤ q0
      · rw [if_pos hc2, if_neg (show ¬ q0 < wl w by omega)]
      · rw [if_neg hc2, if_pos (show q0 < wl w by omega)]
    have hz0 : zal wl wk w 0 = if 24 ≤ a then nI (a - 24) else -1 := by
      unfold zal
      rw [if_pos rfl, ha]
    rcases hc.1 a k1 k2 with h2 | ⟨e, h2, h3, h5⟩
    · have hla : sw_last (zps bk SV w) m = 0 := by
        refine sw_last_no (fun x hx hx3 => ?_)
        have hx3 : (bk x && decide (SV x ≤ w)) = true := hx3
        rw [Bool.and_eq_true] at hx3
        obtain ⟨y1, y2, y3, y4, y5⟩ := hhi x hx hx3.1
        refine g2 (24 + x) (by omega) (by omega) y1 y2 ?_
        rw [y4, f3]
        exact of_decide_eq_true hx3.2
      rw [hla]
      cases j with
      | zero =>
        rw [if_pos (hj0.mpr rfl), hz0, if_neg (by omega)]
        rfl
      | succ i =>
        rw [if_neg (fun hh => Nat.succ_ne_zero i (hj0.mp hh)), hmod i, if_neg (show ¬ 24 ≤ a by omega)]
        have h9 := zgo_ok H1 hm hlo (a :: q) 0 w (n - 1) 1 (i + 1) ⟨k1, k2, k3, k4⟩ f3 (by omega) (fun l hl => (List.mem_cons.mp hl).elim (fun h => by rw [h]; exact h2) (hq0 l)) (by have h7 := sw_len2 (fun e he => ⟨(hlo e he).2.1, (hlo e he).2.2.1⟩) hrr (a :: q) 0 1 ⟨k1, k2, k3, k4⟩ (fun l hl => (List.mem_cons.mp hl).elim (fun h => by rw [h]; exact h2) (hq0 l)); have h6 := hrr0 0 (by omega); omega) (by omega) hj
        rw [Nat.add_sub_cancel] at h9
        exact h9
    · have hbe := hhi e h2 h5
      have hla : sw_last (zps bk SV w) m = e + 1 := by
        refine sw_last_at h2 ?_ (fun x hx1 hx2 hx3 => ?_)
        · show (bk e && decide (SV e ≤ w)) = true
          rw [h5, decide_eq_true (show SV e ≤ w by rw [← hbe.2.2.2.1, ← h3, ← f3]; exact g1)]
          rfl
        · have hx3 : (bk x && decide (SV x ≤ w)) = true := hx3
          rw [Bool.and_eq_true] at hx3
          obtain ⟨y1, y2, y3, y4, y5⟩ := hhi x hx2 hx3.1
          refine g2 (24 + x) (by omega) (by omega) y1 y2 ?_
          rw [y4, f3]
          exact of_decide_eq_true hx3.2
      rw [hla]
      cases j with
      | zero =>
        rw [if_pos (hj0.mpr rfl), hz0, if_pos (by omega), zL_s, h3, Nat.add_sub_cancel_left]
      | succ i =>
        rw [if_neg (fun hh => Nat.succ_ne_zero i (hj0.mp hh)), hmod i, if_pos (show 24 ≤ a by omega)]
        have hb0 : zb0 to (e + 1) = to e := rfl
        have hr0' : zr0 SV w (e + 1) = w - SV e := rfl
        rw [hb0, hr0']
        have hk4 : sw_C 48 isL lf lt (to e) q 1 := by rw [← hbe.2.2.1, ← h3]; exact k4
        have hsn : sw_n (sw_V isL lf lt Rw) q = w - SV e := by
          have h9 : sw_V isL lf lt Rw a + sw_n (sw_V isL lf lt Rw) q = w := f3
          rw [h3, hbe.2.2.2.1] at h9
          omega
        have h9 := zgo_ok H1 hm hlo q (to e) (w - SV e) (n - 1) 1 (i + 1) hk4 hsn (hgo e h2).2.1 hq0 (by omega) (by omega) hj
        rw [Nat.add_sub_cancel] at h9
        exact h9
