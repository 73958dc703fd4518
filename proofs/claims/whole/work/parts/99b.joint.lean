/-! the joint invariant of class and reference -/
def zJ (n : Nat) (m : Nat) (fr : Nat → Nat) (to : Nat → Nat) (sd : Bool) (wh : Option Nat) (sm : Int) (bk : Nat → Bool) (dep : Nat → Nat) (has : Nat → Bool) (V : Nat → Nat) (SV : Nat → Nat) (B : Nat → Int) (wy : Nat) (has2 : Nat → Bool) (Bh : Nat → Nat → Bool) (H : Nat → Int) (St : Nat → Int) (Cm : Nat → Int) (wy2 : Nat) (ru : Bool) (pl : Nat) (pk : Nat) (rs : Int) (es : Int) (bk2 : Nat → Bool) (dep2 : Nat → Nat) (it : Nat → Bool) (isL : Nat → Bool) (lf : Nat → Nat) (lt : Nat → Nat) (Rw : Nat → Nat) (bd : Nat → Bool) (B2 : Nat → Int) (wl : Nat → Nat) (wk : Nat → Nat) (tc : Nat → Nat) (ec : Nat → Int) (bc : Nat → Int) (wc : Nat → Int) (sc : Nat → Int) : Prop :=
  sg_ok n m fr to ∧ St = sc ∧ Cm = wc ∧ wy < 2147483648 ∧ wy2 ≤ 200 ∧ pk < 16 ∧ pl < n ∧ (∀ l, lf l < 12 ∧ lt l < 12) ∧ (∀ i, i < pk → tc i < 48) ∧ (∀ w, w < wy2 → wl w ≤ 16) ∧ (∀ i, wk i < 48) ∧ wh = (if ru = true then some pl else none) ∧
  (sd = false → ru = false ∧ sm = 0 ∧ pk = 0 ∧ dep = (fun _ => 0) ∧ has = (fun _ => false) ∧ has2 = (fun _ => false) ∧ B = (fun _ => 0) ∧ H = (fun _ => 0) ∧ St = (fun _ => 0) ∧ Cm = (fun _ => 0) ∧ dep2 = (fun _ => 0) ∧ bd = (fun _ => false) ∧ B2 = (fun _ => 0) ∧ wy2 = 0 ∧ ec = (fun _ => 0) ∧ bc = (fun _ => 0) ∧ rs = 0 ∧ es = 0) ∧ (sd = true → (∃ rho rr : Nat → Nat, zSt n m fr to bk V SV B isL lf lt Rw wl wk rho bk2 ∧ zcl m bk isL lt ∧ (∀ b, b < n → rr b + 1 ≤ n) ∧ (∀ e, e < m → rr (ztg bk to e) < rr (fr e)) ∧ dep2 = dep ∧ (∀ e, e < m → it e = has e) ∧ B2 = B ∧ wy = Rw 0 ∧ wy2 = Rw 0 ∧ zBh m fr to has Bh ∧ (∀ e, e < m → V e < 2147483648) ∧ (∀ e, e < m → bk e = true → SV e < 2147483648)) ∧ zDy n m fr to has isL lf lt Rw B (sc) (rs) (wh, sm, H, Cm) (tc, ec, bc, wc, ru, pl, pk, es))
theorem zJ_hok {n : Nat} {m : Nat} {fr : Nat → Nat} {to : Nat → Nat} {sd : Bool} {wh : Option Nat} {sm : Int} {bk : Nat → Bool} {dep : Nat → Nat} {has : Nat → Bool} {V : Nat → Nat} {SV : Nat → Nat} {B : Nat → Int} {wy : Nat} {has2 : Nat → Bool} {Bh : Nat → Nat → Bool} {H : Nat → Int} {St : Nat → Int} {Cm : Nat → Int} {wy2 : Nat} {ru : Bool} {pl : Nat} {pk : Nat} {rs : Int} {es : Int} {bk2 : Nat → Bool} {dep2 : Nat → Nat} {it : Nat → Bool} {isL : Nat → Bool} {lf : Nat → Nat} {lt : Nat → Nat} {Rw : Nat → Nat} {bd : Nat → Bool} {B2 : Nat → Int} {wl : Nat → Nat} {wk : Nat → Nat} {tc : Nat → Nat} {ec : Nat → Int} {bc : Nat → Int} {wc : Nat → Int} {sc : Nat → Int} (hJ : zJ (n) (m) (fr) (to) (sd) (wh) (sm) (bk) (dep) (has) (V) (SV) (B) (wy) (has2) (Bh) (H) (St) (Cm) (wy2) (ru) (pl) (pk) (rs) (es) (bk2) (dep2) (it) (isL) (lf) (lt) (Rw) (bd) (B2) (wl) (wk) (tc) (ec) (bc) (wc) (sc)) : (2 ≤ n ∧ n ≤ 12) ∧ m ≤ 24 ∧ (∀ e, e < m → fr e < n ∧ to e < n) ∧ (∀ e, e < m → fr e < n) ∧ (∀ e, e < m → to e < n) := by
  obtain ⟨⟨h1, h2, h3, h4⟩, _⟩ := hJ
  exact ⟨⟨h1, h2⟩, h3, fun e he => ⟨(h4 e he).1, (h4 e he).2.1⟩, fun e he => (h4 e he).1, fun e he => (h4 e he).2.1⟩
theorem zJ_wh {n : Nat} {m : Nat} {fr : Nat → Nat} {to : Nat → Nat} {sd : Bool} {wh : Option Nat} {sm : Int} {bk : Nat → Bool} {dep : Nat → Nat} {has : Nat → Bool} {V : Nat → Nat} {SV : Nat → Nat} {B : Nat → Int} {wy : Nat} {has2 : Nat → Bool} {Bh : Nat → Nat → Bool} {H : Nat → Int} {St : Nat → Int} {Cm : Nat → Int} {wy2 : Nat} {ru : Bool} {pl : Nat} {pk : Nat} {rs : Int} {es : Int} {bk2 : Nat → Bool} {dep2 : Nat → Nat} {it : Nat → Bool} {isL : Nat → Bool} {lf : Nat → Nat} {lt : Nat → Nat} {Rw : Nat → Nat} {bd : Nat → Bool} {B2 : Nat → Int} {wl : Nat → Nat} {wk : Nat → Nat} {tc : Nat → Nat} {ec : Nat → Int} {bc : Nat → Int} {wc : Nat → Int} {sc : Nat → Int} (hJ : zJ (n) (m) (fr) (to) (sd) (wh) (sm) (bk) (dep) (has) (V) (SV) (B) (wy) (has2) (Bh) (H) (St) (Cm) (wy2) (ru) (pl) (pk) (rs) (es) (bk2) (dep2) (it) (isL) (lf) (lt) (Rw) (bd) (B2) (wl) (wk) (tc) (ec) (bc) (wc) (sc)) : ∀ p, wh = some p → p < n := by
  obtain ⟨c1, c2, c3, c4, c5, c6, c7, c8, c9, c10, c11, c12, c13, c14⟩ := hJ
  intro p hp
  rw [c12] at hp
  cases ru with
  | false => cases hp
  | true =>
    have h9 : some pl = some p := hp
    rw [← Option.some.inj h9]
    exact c7
theorem zJ_zun {n : Nat} {m : Nat} {fr : Nat → Nat} {to : Nat → Nat} {sd : Bool} {wh : Option Nat} {sm : Int} {bk : Nat → Bool} {dep : Nat → Nat} {has : Nat → Bool} {V : Nat → Nat} {SV : Nat → Nat} {B : Nat → Int} {wy : Nat} {has2 : Nat → Bool} {Bh : Nat → Nat → Bool} {H : Nat → Int} {St : Nat → Int} {Cm : Nat → Int} {wy2 : Nat} {ru : Bool} {pl : Nat} {pk : Nat} {rs : Int} {es : Int} {bk2 : Nat → Bool} {dep2 : Nat → Nat} {it : Nat → Bool} {isL : Nat → Bool} {lf : Nat → Nat} {lt : Nat → Nat} {Rw : Nat → Nat} {bd : Nat → Bool} {B2 : Nat → Int} {wl : Nat → Nat} {wk : Nat → Nat} {tc : Nat → Nat} {ec : Nat → Int} {bc : Nat → Int} {wc : Nat → Int} {sc : Nat → Int} (hJ : zJ (n) (m) (fr) (to) (sd) (wh) (sm) (bk) (dep) (has) (V) (SV) (B) (wy) (has2) (Bh) (H) (St) (Cm) (wy2) (ru) (pl) (pk) (rs) (es) (bk2) (dep2) (it) (isL) (lf) (lt) (Rw) (bd) (B2) (wl) (wk) (tc) (ec) (bc) (wc) (sc)) : zun wh = ru := by
  obtain ⟨c1, c2, c3, c4, c5, c6, c7, c8, c9, c10, c11, c12, c13, c14⟩ := hJ
  rw [c12]
  cases ru with
  | false => rfl
  | true => rfl
theorem zJ_run {n : Nat} {m : Nat} {fr : Nat → Nat} {to : Nat → Nat} {sd : Bool} {wh : Option Nat} {sm : Int} {bk : Nat → Bool} {dep : Nat → Nat} {has : Nat → Bool} {V : Nat → Nat} {SV : Nat → Nat} {B : Nat → Int} {wy : Nat} {has2 : Nat → Bool} {Bh : Nat → Nat → Bool} {H : Nat → Int} {St : Nat → Int} {Cm : Nat → Int} {wy2 : Nat} {ru : Bool} {pl : Nat} {pk : Nat} {rs : Int} {es : Int} {bk2 : Nat → Bool} {dep2 : Nat → Nat} {it : Nat → Bool} {isL : Nat → Bool} {lf : Nat → Nat} {lt : Nat → Nat} {Rw : Nat → Nat} {bd : Nat → Bool} {B2 : Nat → Int} {wl : Nat → Nat} {wk : Nat → Nat} {tc : Nat → Nat} {ec : Nat → Int} {bc : Nat → Int} {wc : Nat → Int} {sc : Nat → Int} (hJ : zJ (n) (m) (fr) (to) (sd) (wh) (sm) (bk) (dep) (has) (V) (SV) (B) (wy) (has2) (Bh) (H) (St) (Cm) (wy2) (ru) (pl) (pk) (rs) (es) (bk2) (dep2) (it) (isL) (lf) (lt) (Rw) (bd) (B2) (wl) (wk) (tc) (ec) (bc) (wc) (sc)) (hr : ru = true) : sd = true := by
  obtain ⟨c1, c2, c3, c4, c5, c6, c7, c8, c9, c10, c11, c12, c13, c14⟩ := hJ
  cases sd with
  | true => rfl
  | false => exact zbf hr (c13 rfl).1
theorem zJ_edge {n : Nat} {m : Nat} {fr : Nat → Nat} {to : Nat → Nat} {sd : Bool} {wh : Option Nat} {sm : Int} {bk : Nat → Bool} {dep : Nat → Nat} {has : Nat → Bool} {V : Nat → Nat} {SV : Nat → Nat} {B : Nat → Int} {wy : Nat} {has2 : Nat → Bool} {Bh : Nat → Nat → Bool} {H : Nat → Int} {St : Nat → Int} {Cm : Nat → Int} {wy2 : Nat} {ru : Bool} {pl : Nat} {pk : Nat} {rs : Int} {es : Int} {bk2 : Nat → Bool} {dep2 : Nat → Nat} {it : Nat → Bool} {isL : Nat → Bool} {lf : Nat → Nat} {lt : Nat → Nat} {Rw : Nat → Nat} {bd : Nat → Bool} {B2 : Nat → Int} {wl : Nat → Nat} {wk : Nat → Nat} {tc : Nat → Nat} {ec : Nat → Int} {bc : Nat → Int} {wc : Nat → Int} {sc : Nat → Int} (hJ : zJ (n) (m) (fr) (to) (sd) (wh) (sm) (bk) (dep) (has) (V) (SV) (B) (wy) (has2) (Bh) (H) (St) (Cm) (wy2) (ru) (pl) (pk) (rs) (es) (bk2) (dep2) (it) (isL) (lf) (lt) (Rw) (bd) (B2) (wl) (wk) (tc) (ec) (bc) (wc) (sc)) (hsd : sd = false) (hm : m < 24) {a b : Nat} (ha : a < n) (hb : b < n) (ha1 : a ≠ 1) (hb0 : b ≠ 0) : zJ (n) (m + 1) (va_up fr m a) (va_up to m b) (sd) (wh) (sm) (bk) (dep) (has) (V) (SV) (B) (wy) (has2) (Bh) (H) (St) (Cm) (wy2) (ru) (pl) (pk) (rs) (es) (bk2) (dep2) (it) (isL) (lf) (lt) (Rw) (bd) (B2) (wl) (wk) (tc) (ec) (bc) (wc) (sc) := by
  obtain ⟨c1, c2, c3, c4, c5, c6, c7, c8, c9, c10, c11, c12, c13, c14⟩ := hJ
  refine ⟨⟨c1.1, c1.2.1, by omega, fun e he => ?_⟩, c2, c3, c4, c5, c6, c7, c8, c9, c10, c11, c12, c13, fun hc => zbf hc hsd⟩
  by_cases h : e = m
  · rw [h, sp_up_s, sp_up_s]; exact ⟨ha, hb, ha1, hb0⟩
  · rw [sp_up_n _ _ h, sp_up_n _ _ h]; exact c1.2.2.2 e (by omega)
theorem zJ_start {n : Nat} {m : Nat} {fr : Nat → Nat} {to : Nat → Nat} {sd : Bool} {wh : Option Nat} {sm : Int} {bk : Nat → Bool} {dep : Nat → Nat} {has : Nat → Bool} {V : Nat → Nat} {SV : Nat → Nat} {B : Nat → Int} {wy : Nat} {has2 : Nat → Bool} {Bh : Nat → Nat → Bool} {H : Nat → Int} {St : Nat → Int} {Cm : Nat → Int} {wy2 : Nat} {ru : Bool} {pl : Nat} {pk : Nat} {rs : Int} {es : Int} {bk2 : Nat → Bool} {dep2 : Nat → Nat} {it : Nat → Bool} {isL : Nat → Bool} {lf : Nat → Nat} {lt : Nat → Nat} {Rw : Nat → Nat} {bd : Nat → Bool} {B2 : Nat → Int} {wl : Nat → Nat} {wk : Nat → Nat} {tc : Nat → Nat} {ec : Nat → Int} {bc : Nat → Int} {wc : Nat → Int} {sc : Nat → Int} (hJ : zJ (n) (m) (fr) (to) (sd) (wh) (sm) (bk) (dep) (has) (V) (SV) (B) (wy) (has2) (Bh) (H) (St) (Cm) (wy2) (ru) (pl) (pk) (rs) (es) (bk2) (dep2) (it) (isL) (lf) (lt) (Rw) (bd) (B2) (wl) (wk) (tc) (ec) (bc) (wc) (sc)) (hsd : sd = true) (hr : ru = false) : zJ (n) (m) (fr) (to) (sd) (some 0) (sm) (bk) (dep) (has) (V) (SV) (B) (wy) (has2) (Bh) (H) (St) (Cm) (wy2) (true) (0) (0) (rs + 1) (es) (bk2) (dep2) (it) (isL) (lf) (lt) (Rw) (bd) (B2) (wl) (wk) (tc) (ec) (va_up bc 0 (bc 0 + 1)) (wc) (sc) := by
  obtain ⟨c1, c2, c3, c4, c5, c6, c7, c8, c9, c10, c11, c12, c13, c14⟩ := hJ
  obtain ⟨hS, hD⟩ := c14 hsd
  subst hr
  obtain ⟨d1, d2, d3, d4, d5, d6, d7, d8, d9, d10⟩ := hD
  have hn := c1.1
  refine ⟨c1, c2, c3, c4, c5, by omega, by omega, c8, fun i hi => absurd hi (Nat.not_lt_zero _), c10, c11, rfl, fun hc => zbf hsd hc, fun _ => ⟨hS, ?_⟩⟩
  exact ⟨d1, rfl, fun hc => (by cases hc), fun _ => ⟨by omega, by decide, rfl, d3 rfl⟩, d5, sf_start d6, sf_G_start d7, d8, by omega, ⟨0, rfl⟩⟩
theorem zJ_dy {n : Nat} {m : Nat} {fr : Nat → Nat} {to : Nat → Nat} {sd : Bool} {wh : Option Nat} {sm : Int} {bk : Nat → Bool} {dep : Nat → Nat} {has : Nat → Bool} {V : Nat → Nat} {SV : Nat → Nat} {B : Nat → Int} {wy : Nat} {has2 : Nat → Bool} {Bh : Nat → Nat → Bool} {H : Nat → Int} {St : Nat → Int} {Cm : Nat → Int} {wy2 : Nat} {ru : Bool} {pl : Nat} {pk : Nat} {rs : Int} {es : Int} {bk2 : Nat → Bool} {dep2 : Nat → Nat} {it : Nat → Bool} {isL : Nat → Bool} {lf : Nat → Nat} {lt : Nat → Nat} {Rw : Nat → Nat} {bd : Nat → Bool} {B2 : Nat → Int} {wl : Nat → Nat} {wk : Nat → Nat} {tc : Nat → Nat} {ec : Nat → Int} {bc : Nat → Int} {wc : Nat → Int} {sc : Nat → Int} (hJ : zJ (n) (m) (fr) (to) (sd) (wh) (sm) (bk) (dep) (has) (V) (SV) (B) (wy) (has2) (Bh) (H) (St) (Cm) (wy2) (ru) (pl) (pk) (rs) (es) (bk2) (dep2) (it) (isL) (lf) (lt) (Rw) (bd) (B2) (wl) (wk) (tc) (ec) (bc) (wc) (sc)) (hsd : sd = true) {wq : Option Nat} {mq : Int} {Hq Cq : Nat → Int} {tq : Nat → Nat} {eq bq qq : Nat → Int} {rq : Bool} {lq kq : Nat} {sq : Int} (hD : zDy n m fr to has isL lf lt Rw B (sc) (rs) (wq, mq, Hq, Cq) (tq, eq, bq, qq, rq, lq, kq, sq)) : zJ (n) (m) (fr) (to) (sd) (wq) (mq) (bk) (dep) (has) (V) (SV) (B) (wy) (has2) (Bh) (Hq) (St) (Cq) (wy2) (rq) (lq) (kq) (rs) (sq) (bk2) (dep2) (it) (isL) (lf) (lt) (Rw) (bd) (B2) (wl) (wk) (tq) (eq) (bq) (qq) (sc) := by
  obtain ⟨c1, c2, c3, c4, c5, c6, c7, c8, c9, c10, c11, c12, c13, c14⟩ := hJ
  obtain ⟨hS, hD0⟩ := c14 hsd
  have hD1 := hD
  obtain ⟨d1, d2, d3, d4, d5, d6, d7, d8, d9, c, d10⟩ := hD1
  obtain ⟨rho, rr, s1, s2⟩ := hS
  obtain ⟨hg, hb, H1, hr1, hr0, hlo, hhi, hB0, hB1, h200, hF, hout⟩ := s1
  obtain ⟨g1, g2⟩ := zw_b H1 hr1 hr0 c1.2.1 d10
  exact ⟨c1, c2, d1, c4, c5, by omega, d9, c8, fun i hi => (g2 i hi).1, c10, c11, d2, fun hc => zbf hsd hc, fun _ => ⟨⟨rho, rr, ⟨hg, hb, H1, hr1, hr0, hlo, hhi, hB0, hB1, h200, hF, hout⟩, s2⟩, hD⟩⟩
theorem zJ_pass {n : Nat} {m : Nat} {fr : Nat → Nat} {to : Nat → Nat} {sd : Bool} {wh : Option Nat} {sm : Int} {bk : Nat → Bool} {dep : Nat → Nat} {has : Nat → Bool} {V : Nat → Nat} {SV : Nat → Nat} {B : Nat → Int} {wy : Nat} {has2 : Nat → Bool} {Bh : Nat → Nat → Bool} {H : Nat → Int} {St : Nat → Int} {Cm : Nat → Int} {wy2 : Nat} {ru : Bool} {pl : Nat} {pk : Nat} {rs : Int} {es : Int} {bk2 : Nat → Bool} {dep2 : Nat → Nat} {it : Nat → Bool} {isL : Nat → Bool} {lf : Nat → Nat} {lt : Nat → Nat} {Rw : Nat → Nat} {bd : Nat → Bool} {B2 : Nat → Int} {wl : Nat → Nat} {wk : Nat → Nat} {tc : Nat → Nat} {ec : Nat → Int} {bc : Nat → Int} {wc : Nat → Int} {sc : Nat → Int} (hJ : zJ (n) (m) (fr) (to) (sd) (wh) (sm) (bk) (dep) (has) (V) (SV) (B) (wy) (has2) (Bh) (H) (St) (Cm) (wy2) (ru) (pl) (pk) (rs) (es) (bk2) (dep2) (it) (isL) (lf) (lt) (Rw) (bd) (B2) (wl) (wk) (tc) (ec) (bc) (wc) (sc)) (hr : ru = true) {e : Nat} (he : e < m) (hf : fr e = pl) : zJ (n) (m) (fr) (to) (sd) (zcE to bk e) (zcS fr to bk V SV B e sm) (bk) (dep) (has) (V) (SV) (B) (wy) (has2) (Bh) (zcH has e H) (St) (zcC fr to bk V B sd wy e sm Cm) (wy2) (zpR (bk2 e) (to e) ru) (to e) (zpK (bk2 e) pk) (rs) (zpE (bk2 e) (to e) es) (bk2) (dep2) (it) (isL) (lf) (lt) (Rw) (bd) (B2) (wl) (wk) (zpT (bk2 e) tc pk e) (va_up ec e (ec e + 1)) (va_up bc (to e) (bc (to e) + 1)) (zpC (bk2 e) (to e) wl wk tc pk wy2 wc e) (sc) := by
  have hsd := zJ_run hJ hr
  have hJ0 := hJ
  obtain ⟨c1, c2, c3, c4, c5, c6, c7, c8, c9, c10, c11, c12, c13, c14⟩ := hJ
  obtain ⟨⟨rho, rr, s1, s2, s3, s4, s5, s6, s7, s8, s9, s10⟩, hD⟩ := c14 hsd
  subst hr
  subst hsd
  subst s8
  subst s9
  have h9 : zDy n m fr to has isL lf lt Rw B (sc) (rs) (zcE to bk e, zcS fr to bk V SV B e sm, zcH has e H, zcC fr to bk V B true (Rw 0) e sm Cm) (zpT (bk2 e) tc pk e, va_up ec e (ec e + 1), va_up bc (to e) (bc (to e) + 1), zpC (bk2 e) (to e) wl wk tc pk (Rw 0) wc e, zpR (bk2 e) (to e) true, to e, zpK (bk2 e) pk, zpE (bk2 e) (to e) es) := zpass s1 he hf hD
  exact zJ_dy hJ0 rfl h9
theorem zJ_walk {n : Nat} {m : Nat} {fr : Nat → Nat} {to : Nat → Nat} {sd : Bool} {wh : Option Nat} {sm : Int} {bk : Nat → Bool} {dep : Nat → Nat} {has : Nat → Bool} {V : Nat → Nat} {SV : Nat → Nat} {B : Nat → Int} {wy : Nat} {has2 : Nat → Bool} {Bh : Nat → Nat → Bool} {H : Nat → Int} {St : Nat → Int} {Cm : Nat → Int} {wy2 : Nat} {ru : Bool} {pl : Nat} {pk : Nat} {rs : Int} {es : Int} {bk2 : Nat → Bool} {dep2 : Nat → Nat} {it : Nat → Bool} {isL : Nat → Bool} {lf : Nat → Nat} {lt : Nat → Nat} {Rw : Nat → Nat} {bd : Nat → Bool} {B2 : Nat → Int} {wl : Nat → Nat} {wk : Nat → Nat} {tc : Nat → Nat} {ec : Nat → Int} {bc : Nat → Int} {wc : Nat → Int} {sc : Nat → Int} (hJ : zJ (n) (m) (fr) (to) (sd) (wh) (sm) (bk) (dep) (has) (V) (SV) (B) (wy) (has2) (Bh) (H) (St) (Cm) (wy2) (ru) (pl) (pk) (rs) (es) (bk2) (dep2) (it) (isL) (lf) (lt) (Rw) (bd) (B2) (wl) (wk) (tc) (ec) (bc) (wc) (sc)) (hr : ru = true) {N : Nat} {x : Int32} {wq : Option Nat} {mq : Int} {Hq Cq : Nat → Int} {tq : Nat → Nat} {eq bq qq : Nat → Int} {rq : Bool} {lq kq : Nat} {sq : Int} (h1 : (zcg fr to bk has V SV B sd m wy N x (wh, sm, H, Cm)).2 = (wq, mq, Hq, Cq)) (h2 : (zwg fr to bk2 wl wk m wy2 N x (tc, ec, bc, wc, ru, pl, pk, es)).2 = (tq, eq, bq, qq, rq, lq, kq, sq)) : (zcg fr to bk has V SV B sd m wy N x (wh, sm, H, Cm)).1 = (zwg fr to bk2 wl wk m wy2 N x (tc, ec, bc, wc, ru, pl, pk, es)).1 ∧ zJ (n) (m) (fr) (to) (sd) (wq) (mq) (bk) (dep) (has) (V) (SV) (B) (wy) (has2) (Bh) (Hq) (St) (Cq) (wy2) (rq) (lq) (kq) (rs) (sq) (bk2) (dep2) (it) (isL) (lf) (lt) (Rw) (bd) (B2) (wl) (wk) (tq) (eq) (bq) (qq) (sc) := by
  have hsd := zJ_run hJ hr
  have hJ0 := hJ
  obtain ⟨c1, c2, c3, c4, c5, c6, c7, c8, c9, c10, c11, c12, c13, c14⟩ := hJ
  obtain ⟨⟨rho, rr, s1, s2, s3, s4, s5, s6, s7, s8, s9, s10⟩, hD⟩ := c14 hsd
  subst hsd
  subst s8
  subst s9
  obtain ⟨q1, q2⟩ := zwalk s1 N x _ _ hD
  rw [h1, h2] at q2
  exact ⟨q1, zJ_dy hJ0 rfl q2⟩
theorem zJ_stop {n : Nat} {m : Nat} {fr : Nat → Nat} {to : Nat → Nat} {sd : Bool} {wh : Option Nat} {sm : Int} {bk : Nat → Bool} {dep : Nat → Nat} {has : Nat → Bool} {V : Nat → Nat} {SV : Nat → Nat} {B : Nat → Int} {wy : Nat} {has2 : Nat → Bool} {Bh : Nat → Nat → Bool} {H : Nat → Int} {St : Nat → Int} {Cm : Nat → Int} {wy2 : Nat} {ru : Bool} {pl : Nat} {pk : Nat} {rs : Int} {es : Int} {bk2 : Nat → Bool} {dep2 : Nat → Nat} {it : Nat → Bool} {isL : Nat → Bool} {lf : Nat → Nat} {lt : Nat → Nat} {Rw : Nat → Nat} {bd : Nat → Bool} {B2 : Nat → Int} {wl : Nat → Nat} {wk : Nat → Nat} {tc : Nat → Nat} {ec : Nat → Int} {bc : Nat → Int} {wc : Nat → Int} {sc : Nat → Int} (hJ : zJ (n) (m) (fr) (to) (sd) (wh) (sm) (bk) (dep) (has) (V) (SV) (B) (wy) (has2) (Bh) (H) (St) (Cm) (wy2) (ru) (pl) (pk) (rs) (es) (bk2) (dep2) (it) (isL) (lf) (lt) (Rw) (bd) (B2) (wl) (wk) (tc) (ec) (bc) (wc) (sc)) (hr : ru = true) : zJ (n) (m) (fr) (to) (sd) (none) (0) (bk) (dep) (has) (V) (SV) (B) (wy) (has2) (Bh) (H) (va_up St pl (St pl + 1)) (Cm) (wy2) (false) (pl) (pk) (rs) (es) (bk2) (dep2) (it) (isL) (lf) (lt) (Rw) (bd) (B2) (wl) (wk) (tc) (ec) (bc) (wc) (va_up sc pl (sc pl + 1)) := by
  have hsd := zJ_run hJ hr
  obtain ⟨c1, c2, c3, c4, c5, c6, c7, c8, c9, c10, c11, c12, c13, c14⟩ := hJ
  obtain ⟨hS, hD⟩ := c14 hsd
  subst hr
  obtain ⟨d1, d2, d3, d4, d5, d6, d7, d8, d9, d10⟩ := hD
  refine ⟨c1, by rw [c2], c3, c4, c5, c6, c7, c8, c9, c10, c11, rfl, fun hc => zbf hsd hc, fun _ => ⟨hS, ?_⟩⟩
  exact ⟨d1, rfl, fun _ => rfl, fun hc => (by cases hc), d5, sf_stop c7 d6 pl, sf_G_stop c7 d7, d8, d9, d10⟩
theorem zfill_z (k : Nat) : zfill (fun _ => (0 : Int)) 0 k = fun _ => 0 := by
  funext y
  show (if y < k then (0 : Int) else 0) = 0
  by_cases h : y < k
  · rw [if_pos h]
  · rw [if_neg h]
theorem zfill_in {f : Nat → Int} {k y : Nat} (h : y < k) : zfill f 0 k y = 0 := if_pos h
theorem zJ_clear {n : Nat} {m : Nat} {fr : Nat → Nat} {to : Nat → Nat} {sd : Bool} {wh : Option Nat} {sm : Int} {bk : Nat → Bool} {dep : Nat → Nat} {has : Nat → Bool} {V : Nat → Nat} {SV : Nat → Nat} {B : Nat → Int} {wy : Nat} {has2 : Nat → Bool} {Bh : Nat → Nat → Bool} {H : Nat → Int} {St : Nat → Int} {Cm : Nat → Int} {wy2 : Nat} {ru : Bool} {pl : Nat} {pk : Nat} {rs : Int} {es : Int} {bk2 : Nat → Bool} {dep2 : Nat → Nat} {it : Nat → Bool} {isL : Nat → Bool} {lf : Nat → Nat} {lt : Nat → Nat} {Rw : Nat → Nat} {bd : Nat → Bool} {B2 : Nat → Int} {wl : Nat → Nat} {wk : Nat → Nat} {tc : Nat → Nat} {ec : Nat → Int} {bc : Nat → Int} {wc : Nat → Int} {sc : Nat → Int} (hJ : zJ (n) (m) (fr) (to) (sd) (wh) (sm) (bk) (dep) (has) (V) (SV) (B) (wy) (has2) (Bh) (H) (St) (Cm) (wy2) (ru) (pl) (pk) (rs) (es) (bk2) (dep2) (it) (isL) (lf) (lt) (Rw) (bd) (B2) (wl) (wk) (tc) (ec) (bc) (wc) (sc)) : zJ (n) (m) (fr) (to) (sd) (none) (0) (bk) (dep) (has) (V) (SV) (B) (wy) (has2) (Bh) (zfill H 0 24) (zfill St 0 12) (zfill Cm 0 200) (wy2) (false) (pl) (pk) (0) (0) (bk2) (dep2) (it) (isL) (lf) (lt) (Rw) (bd) (B2) (wl) (wk) (tc) (zfill ec 0 24) (zfill bc 0 12) (zfill wc 0 200) (zfill sc 0 12) := by
  obtain ⟨c1, c2, c3, c4, c5, c6, c7, c8, c9, c10, c11, c12, c13, c14⟩ := hJ
  refine ⟨c1, by rw [c2], by rw [c3], c4, c5, c6, c7, c8, c9, c10, c11, rfl, fun hc => ?_, fun hc => ?_⟩
  · obtain ⟨u1, u2, u3, u4, u5, u6, u7, u8, u9, u10, u11, u12, u13, u14, u15, u16, u17, u18⟩ := c13 hc
    refine ⟨rfl, rfl, u3, u4, u5, u6, u7, ?_, ?_, ?_, u11, u12, u13, u14, ?_, ?_, rfl, rfl⟩
    · rw [u8, zfill_z]
    · rw [u9, zfill_z]
    · rw [u10, zfill_z]
    · rw [u15, zfill_z]
    · rw [u16, zfill_z]
  · obtain ⟨hS, hD⟩ := c14 hc
    obtain ⟨d1, d2, d3, d4, d5, d6, d7, d8, d9, d10⟩ := hD
    obtain ⟨g1, g2, g3, g4⟩ := c1
    refine ⟨hS, by rw [c3], rfl, fun _ => rfl, fun hc => (by cases hc), fun e he => ?_, ?_, ?_, fun w hw => ?_, d9, d10⟩
    · rw [zfill_in (by omega), zfill_in (by omega)]
      by_cases hh : has e = true
      · rw [if_pos hh]
      · rw [if_neg hh]
    · exact sf_none (fun e he => zfill_in (by omega)) (fun b hb => zfill_in (by omega))
    · exact sf_G_none g1 (fun e he => zfill_in (by omega)) (fun b hb => zfill_in (by omega)) (fun b hb => zfill_in (by omega))
    · show (if w < 200 then 0 else wc w) = 0
      by_cases h : w < 200
      · rw [if_pos h]
      · rw [if_neg h]; exact d8 w hw
theorem zJ_back {n : Nat} {m : Nat} {fr : Nat → Nat} {to : Nat → Nat} {sd : Bool} {wh : Option Nat} {sm : Int} {bk : Nat → Bool} {dep : Nat → Nat} {has : Nat → Bool} {V : Nat → Nat} {SV : Nat → Nat} {B : Nat → Int} {wy : Nat} {has2 : Nat → Bool} {Bh : Nat → Nat → Bool} {H : Nat → Int} {St : Nat → Int} {Cm : Nat → Int} {wy2 : Nat} {ru : Bool} {pl : Nat} {pk : Nat} {rs : Int} {es : Int} {bk2 : Nat → Bool} {dep2 : Nat → Nat} {it : Nat → Bool} {isL : Nat → Bool} {lf : Nat → Nat} {lt : Nat → Nat} {Rw : Nat → Nat} {bd : Nat → Bool} {B2 : Nat → Int} {wl : Nat → Nat} {wk : Nat → Nat} {tc : Nat → Nat} {ec : Nat → Int} {bc : Nat → Int} {wc : Nat → Int} {sc : Nat → Int} (hJ : zJ (n) (m) (fr) (to) (sd) (wh) (sm) (bk) (dep) (has) (V) (SV) (B) (wy) (has2) (Bh) (H) (St) (Cm) (wy2) (ru) (pl) (pk) (rs) (es) (bk2) (dep2) (it) (isL) (lf) (lt) (Rw) (bd) (B2) (wl) (wk) (tc) (ec) (bc) (wc) (sc)) (hsd : sd = true) : ∀ i, i < m → bN (bk i) = bN (bk2 i) := by
  obtain ⟨c1, c2, c3, c4, c5, c6, c7, c8, c9, c10, c11, c12, c13, c14⟩ := hJ
  obtain ⟨⟨rho, rr, s1, s2⟩, hD⟩ := c14 hsd
  exact fun i hi => by rw [s1.2.1 i hi]
theorem zJ_depth {n : Nat} {m : Nat} {fr : Nat → Nat} {to : Nat → Nat} {sd : Bool} {wh : Option Nat} {sm : Int} {bk : Nat → Bool} {dep : Nat → Nat} {has : Nat → Bool} {V : Nat → Nat} {SV : Nat → Nat} {B : Nat → Int} {wy : Nat} {has2 : Nat → Bool} {Bh : Nat → Nat → Bool} {H : Nat → Int} {St : Nat → Int} {Cm : Nat → Int} {wy2 : Nat} {ru : Bool} {pl : Nat} {pk : Nat} {rs : Int} {es : Int} {bk2 : Nat → Bool} {dep2 : Nat → Nat} {it : Nat → Bool} {isL : Nat → Bool} {lf : Nat → Nat} {lt : Nat → Nat} {Rw : Nat → Nat} {bd : Nat → Bool} {B2 : Nat → Int} {wl : Nat → Nat} {wk : Nat → Nat} {tc : Nat → Nat} {ec : Nat → Int} {bc : Nat → Int} {wc : Nat → Int} {sc : Nat → Int} (hJ : zJ (n) (m) (fr) (to) (sd) (wh) (sm) (bk) (dep) (has) (V) (SV) (B) (wy) (has2) (Bh) (H) (St) (Cm) (wy2) (ru) (pl) (pk) (rs) (es) (bk2) (dep2) (it) (isL) (lf) (lt) (Rw) (bd) (B2) (wl) (wk) (tc) (ec) (bc) (wc) (sc)) (hsd : sd = true) : ∀ i, i < n → nI (dep i) = nI (dep2 i) := by
  obtain ⟨c1, c2, c3, c4, c5, c6, c7, c8, c9, c10, c11, c12, c13, c14⟩ := hJ
  obtain ⟨⟨rho, rr, s1, s2, s3, s4, s5, s6⟩, hD⟩ := c14 hsd
  exact fun i hi => by rw [s5]
theorem zJ_probe {n : Nat} {m : Nat} {fr : Nat → Nat} {to : Nat → Nat} {sd : Bool} {wh : Option Nat} {sm : Int} {bk : Nat → Bool} {dep : Nat → Nat} {has : Nat → Bool} {V : Nat → Nat} {SV : Nat → Nat} {B : Nat → Int} {wy : Nat} {has2 : Nat → Bool} {Bh : Nat → Nat → Bool} {H : Nat → Int} {St : Nat → Int} {Cm : Nat → Int} {wy2 : Nat} {ru : Bool} {pl : Nat} {pk : Nat} {rs : Int} {es : Int} {bk2 : Nat → Bool} {dep2 : Nat → Nat} {it : Nat → Bool} {isL : Nat → Bool} {lf : Nat → Nat} {lt : Nat → Nat} {Rw : Nat → Nat} {bd : Nat → Bool} {B2 : Nat → Int} {wl : Nat → Nat} {wk : Nat → Nat} {tc : Nat → Nat} {ec : Nat → Int} {bc : Nat → Int} {wc : Nat → Int} {sc : Nat → Int} (hJ : zJ (n) (m) (fr) (to) (sd) (wh) (sm) (bk) (dep) (has) (V) (SV) (B) (wy) (has2) (Bh) (H) (St) (Cm) (wy2) (ru) (pl) (pk) (rs) (es) (bk2) (dep2) (it) (isL) (lf) (lt) (Rw) (bd) (B2) (wl) (wk) (tc) (ec) (bc) (wc) (sc)) (hsd : sd = true) : ∀ i, i < m → bN (!has i) = bN (!it i) := by
  obtain ⟨c1, c2, c3, c4, c5, c6, c7, c8, c9, c10, c11, c12, c13, c14⟩ := hJ
  obtain ⟨⟨rho, rr, s1, s2, s3, s4, s5, s6, s7⟩, hD⟩ := c14 hsd
  exact fun i hi => by rw [s6 i hi]
theorem zJ_inc {n : Nat} {m : Nat} {fr : Nat → Nat} {to : Nat → Nat} {sd : Bool} {wh : Option Nat} {sm : Int} {bk : Nat → Bool} {dep : Nat → Nat} {has : Nat → Bool} {V : Nat → Nat} {SV : Nat → Nat} {B : Nat → Int} {wy : Nat} {has2 : Nat → Bool} {Bh : Nat → Nat → Bool} {H : Nat → Int} {St : Nat → Int} {Cm : Nat → Int} {wy2 : Nat} {ru : Bool} {pl : Nat} {pk : Nat} {rs : Int} {es : Int} {bk2 : Nat → Bool} {dep2 : Nat → Nat} {it : Nat → Bool} {isL : Nat → Bool} {lf : Nat → Nat} {lt : Nat → Nat} {Rw : Nat → Nat} {bd : Nat → Bool} {B2 : Nat → Int} {wl : Nat → Nat} {wk : Nat → Nat} {tc : Nat → Nat} {ec : Nat → Int} {bc : Nat → Int} {wc : Nat → Int} {sc : Nat → Int} (hJ : zJ (n) (m) (fr) (to) (sd) (wh) (sm) (bk) (dep) (has) (V) (SV) (B) (wy) (has2) (Bh) (H) (St) (Cm) (wy2) (ru) (pl) (pk) (rs) (es) (bk2) (dep2) (it) (isL) (lf) (lt) (Rw) (bd) (B2) (wl) (wk) (tc) (ec) (bc) (wc) (sc)) (hsd : sd = true) : ∀ i, i < m → Int32.ofInt (V i + B (fr i) - B (ztg bk to i)) = Int32.ofInt (sw_V isL lf lt Rw i + B2 (lf i) - B2 (lt i)) := by
  obtain ⟨c1, c2, c3, c4, c5, c6, c7, c8, c9, c10, c11, c12, c13, c14⟩ := hJ
  obtain ⟨⟨rho, rr, s1, s2, s3, s4, s5, s6, s7, s8⟩, hD⟩ := c14 hsd
  intro i hi
  obtain ⟨e1, e2, e3, e4⟩ := s1.2.2.2.2.2.1 i hi
  rw [e2, e3, e4, s7]
theorem zJ_reset {n : Nat} {m : Nat} {fr : Nat → Nat} {to : Nat → Nat} {sd : Bool} {wh : Option Nat} {sm : Int} {bk : Nat → Bool} {dep : Nat → Nat} {has : Nat → Bool} {V : Nat → Nat} {SV : Nat → Nat} {B : Nat → Int} {wy : Nat} {has2 : Nat → Bool} {Bh : Nat → Nat → Bool} {H : Nat → Int} {St : Nat → Int} {Cm : Nat → Int} {wy2 : Nat} {ru : Bool} {pl : Nat} {pk : Nat} {rs : Int} {es : Int} {bk2 : Nat → Bool} {dep2 : Nat → Nat} {it : Nat → Bool} {isL : Nat → Bool} {lf : Nat → Nat} {lt : Nat → Nat} {Rw : Nat → Nat} {bd : Nat → Bool} {B2 : Nat → Int} {wl : Nat → Nat} {wk : Nat → Nat} {tc : Nat → Nat} {ec : Nat → Int} {bc : Nat → Int} {wc : Nat → Int} {sc : Nat → Int} (hJ : zJ (n) (m) (fr) (to) (sd) (wh) (sm) (bk) (dep) (has) (V) (SV) (B) (wy) (has2) (Bh) (H) (St) (Cm) (wy2) (ru) (pl) (pk) (rs) (es) (bk2) (dep2) (it) (isL) (lf) (lt) (Rw) (bd) (B2) (wl) (wk) (tc) (ec) (bc) (wc) (sc)) (hsd : sd = true) : ∀ i, i < m → (if bk i = true then Int32.ofInt (SV i + B 0 - B (to i)) else -2147483648) = (if bk2 i = true then Int32.ofInt (sw_V isL lf lt Rw (24 + i) + B2 (lf (24 + i)) - B2 (lt (24 + i))) else -2147483648) := by
  obtain ⟨c1, c2, c3, c4, c5, c6, c7, c8, c9, c10, c11, c12, c13, c14⟩ := hJ
  obtain ⟨⟨rho, rr, s1, s2, s3, s4, s5, s6, s7, s8⟩, hD⟩ := c14 hsd
  intro i hi
  rw [s1.2.1 i hi]
  by_cases hb : bk i = true
  · obtain ⟨e1, e2, e3, e4, e5⟩ := s1.2.2.2.2.2.2.1 i hi hb
    rw [if_pos hb, if_pos hb, e2, e3, e4, s7]
  · rw [if_neg hb, if_neg hb]
theorem zJ_cnt {n : Nat} {m : Nat} {fr : Nat → Nat} {to : Nat → Nat} {sd : Bool} {wh : Option Nat} {sm : Int} {bk : Nat → Bool} {dep : Nat → Nat} {has : Nat → Bool} {V : Nat → Nat} {SV : Nat → Nat} {B : Nat → Int} {wy : Nat} {has2 : Nat → Bool} {Bh : Nat → Nat → Bool} {H : Nat → Int} {St : Nat → Int} {Cm : Nat → Int} {wy2 : Nat} {ru : Bool} {pl : Nat} {pk : Nat} {rs : Int} {es : Int} {bk2 : Nat → Bool} {dep2 : Nat → Nat} {it : Nat → Bool} {isL : Nat → Bool} {lf : Nat → Nat} {lt : Nat → Nat} {Rw : Nat → Nat} {bd : Nat → Bool} {B2 : Nat → Int} {wl : Nat → Nat} {wk : Nat → Nat} {tc : Nat → Nat} {ec : Nat → Int} {bc : Nat → Int} {wc : Nat → Int} {sc : Nat → Int} (hJ : zJ (n) (m) (fr) (to) (sd) (wh) (sm) (bk) (dep) (has) (V) (SV) (B) (wy) (has2) (Bh) (H) (St) (Cm) (wy2) (ru) (pl) (pk) (rs) (es) (bk2) (dep2) (it) (isL) (lf) (lt) (Rw) (bd) (B2) (wl) (wk) (tc) (ec) (bc) (wc) (sc)) (hsd : sd = true) : (∀ i, i < m → zpo fr to n m has Bh H St wh i = ec i) ∧ (∀ b, b < n → zvi fr to n m has Bh H St wh b = bc b) ∧ bc 0 = rs ∧ bc 1 = es ∧ (∀ w, wy2 ≤ w → Cm w = 0) ∧ wy = wy2 := by
  obtain ⟨c1, c2, c3, c4, c5, c6, c7, c8, c9, c10, c11, c12, c13, c14⟩ := hJ
  obtain ⟨⟨rho, rr, s1, s2, s3, s4, s5, s6, s7, s8, s9, s10, s11⟩, hD⟩ := c14 hsd
  obtain ⟨d1, d2, d3, d4, d5, d6, d7, d8, d9, d10⟩ := hD
  obtain ⟨v1, v2, v3⟩ := zvi_eq c1.1 (fun _ => d9) s10 d5 d6 d7
  rw [c12, c2, c3, s9]
  exact ⟨zpo_eq s10 d5 d6, v1, v2, v3, d8, s8⟩
theorem zJ_reg {n : Nat} {m : Nat} {fr : Nat → Nat} {to : Nat → Nat} {sd : Bool} {wh : Option Nat} {sm : Int} {bk : Nat → Bool} {dep : Nat → Nat} {has : Nat → Bool} {V : Nat → Nat} {SV : Nat → Nat} {B : Nat → Int} {wy : Nat} {has2 : Nat → Bool} {Bh : Nat → Nat → Bool} {H : Nat → Int} {St : Nat → Int} {Cm : Nat → Int} {wy2 : Nat} {ru : Bool} {pl : Nat} {pk : Nat} {rs : Int} {es : Int} {bk2 : Nat → Bool} {dep2 : Nat → Nat} {it : Nat → Bool} {isL : Nat → Bool} {lf : Nat → Nat} {lt : Nat → Nat} {Rw : Nat → Nat} {bd : Nat → Bool} {B2 : Nat → Int} {wl : Nat → Nat} {wk : Nat → Nat} {tc : Nat → Nat} {ec : Nat → Int} {bc : Nat → Int} {wc : Nat → Int} {sc : Nat → Int} (hJ : zJ (n) (m) (fr) (to) (sd) (wh) (sm) (bk) (dep) (has) (V) (SV) (B) (wy) (has2) (Bh) (H) (St) (Cm) (wy2) (ru) (pl) (pk) (rs) (es) (bk2) (dep2) (it) (isL) (lf) (lt) (Rw) (bd) (B2) (wl) (wk) (tc) (ec) (bc) (wc) (sc)) : Int32.ofInt sm = Int32.ofInt (if ru = true then sf_sum (fun j => sw_V isL lf lt Rw (tc j) + B2 (lf (tc j)) - B2 (lt (tc j))) pk else 0) := by
  obtain ⟨c1, c2, c3, c4, c5, c6, c7, c8, c9, c10, c11, c12, c13, c14⟩ := hJ
  cases hsd : sd with
  | false =>
    obtain ⟨u1, u2, u3⟩ := c13 hsd
    rw [u1, u2]
    rfl
  | true =>
    obtain ⟨⟨rho, rr, s1, s2, s3, s4, s5, s6, s7, s8⟩, hD⟩ := c14 hsd
    obtain ⟨d1, d2, d3, d4, d5⟩ := hD
    cases ru with
    | false => rw [d3 rfl]; rfl
    | true =>
      rw [if_pos rfl, (d4 rfl).2.2.2, s7]
      rfl
theorem zJ_along {n : Nat} {m : Nat} {fr : Nat → Nat} {to : Nat → Nat} {sd : Bool} {wh : Option Nat} {sm : Int} {bk : Nat → Bool} {dep : Nat → Nat} {has : Nat → Bool} {V : Nat → Nat} {SV : Nat → Nat} {B : Nat → Int} {wy : Nat} {has2 : Nat → Bool} {Bh : Nat → Nat → Bool} {H : Nat → Int} {St : Nat → Int} {Cm : Nat → Int} {wy2 : Nat} {ru : Bool} {pl : Nat} {pk : Nat} {rs : Int} {es : Int} {bk2 : Nat → Bool} {dep2 : Nat → Nat} {it : Nat → Bool} {isL : Nat → Bool} {lf : Nat → Nat} {lt : Nat → Nat} {Rw : Nat → Nat} {bd : Nat → Bool} {B2 : Nat → Int} {wl : Nat → Nat} {wk : Nat → Nat} {tc : Nat → Nat} {ec : Nat → Int} {bc : Nat → Int} {wc : Nat → Int} {sc : Nat → Int} (hJ : zJ (n) (m) (fr) (to) (sd) (wh) (sm) (bk) (dep) (has) (V) (SV) (B) (wy) (has2) (Bh) (H) (St) (Cm) (wy2) (ru) (pl) (pk) (rs) (es) (bk2) (dep2) (it) (isL) (lf) (lt) (Rw) (bd) (B2) (wl) (wk) (tc) (ec) (bc) (wc) (sc)) (hsd : sd = true) {w j : Nat} (hw : w < wy2) (hj : j < 2147483648) : (if nI j = 0 then zL (sw_last (zps bk SV w) m) else zgo fr (ztg bk to) V m (nI j) (n - 1) 1 (zb0 to (sw_last (zps bk SV w) m)) (zr0 SV w (sw_last (zps bk SV w) m))) = zal wl wk w j := by
  obtain ⟨c1, c2, c3, c4, c5, c6, c7, c8, c9, c10, c11, c12, c13, c14⟩ := hJ
  obtain ⟨⟨rho, rr, s1, s2, s3, s4, s5, s6, s7, s8, s9, s10⟩, hD⟩ := c14 hsd
  rw [s9] at hw
  exact zalong s1 s2 s3 s4 hw hj
theorem zR_int {c : Bool} {x : Int32} {n : Nat} {d : Int32} {g : Nat → Int32} {v : Option Value} (hn : n < 2147483648) (h : zR c x n d g v) : ∃ a, v = some (.int a) := by
  cases hc : (c && zin x n) with
  | false => exact ⟨_, h.1 hc⟩
  | true =>
    obtain ⟨h1, i, hi, hx⟩ := zkn hn hc
    exact ⟨_, h.2 i hi hx h1⟩
theorem zR_eq {c : Bool} {x : Int32} {n n2 : Nat} {d : Int32} {g g2 : Nat → Int32} {a a2 : Int32} (hn : n < 2147483648) (hn2 : n2 < 2147483648) (h : zR c x n d g (some (.int a))) (h2 : zR c x n2 d g2 (some (.int a2))) (he : c = true → n = n2 ∧ ∀ i, i < n → g i = g2 i) : a = a2 := by
  cases hcc : c with
  | false =>
    have h3 := h.1 (by rw [hcc]; rfl)
    have h4 := h2.1 (by rw [hcc]; rfl)
    cases h3
    cases h4
    rfl
  | true =>
    obtain ⟨e1, e2⟩ := he hcc
    subst e1
    cases hc : (c && zin x n) with
    | false =>
      have h3 := h.1 hc
      have h4 := h2.1 hc
      cases h3
      cases h4
      rfl
    | true =>
      obtain ⟨h1, i, hi, hx⟩ := zkn hn hc
      have h3 := h.2 i hi hx h1
      have h4 := h2.2 i hi hx h1
      rw [e2 i hi] at h3
      cases h3
      cases h4
      rfl
