/-! the joint invariant: the beginning, walks -/
theorem zJ_init {n : Nat} (hn : 2 ≤ n ∧ n ≤ 12) : zJ (n) (0) (fun _ => 0) (fun _ => 0) (false) (none) (0) (fun _ => false) (fun _ => 0) (fun _ => false) (fun _ => 0) (fun _ => 0) (fun _ => 0) (0) (fun _ => false) (fun _ _ => false) (fun _ => 0) (fun _ => 0) (fun _ => 0) (0) (false) (0) (0) (0) (0) (fun _ => false) (fun _ => 0) (fun _ => false) (fun _ => false) (fun _ => 0) (fun _ => 0) (fun _ => 0) (fun _ => false) (fun _ => 0) (fun _ => 0) (fun _ => 0) (fun _ => 0) (fun _ => 0) (fun _ => 0) (fun _ => 0) (fun _ => 0) := by
  refine ⟨⟨hn.1, hn.2, by omega, fun e he => absurd he (Nat.not_lt_zero _)⟩, rfl, rfl, by omega, by omega, by omega, by omega, fun l => ⟨show (0 : Nat) < 12 by decide, show (0 : Nat) < 12 by decide⟩, fun i hi => absurd hi (Nat.not_lt_zero _), fun w hw => absurd hw (Nat.not_lt_zero _), fun i => show (0 : Nat) < 48 by decide, rfl, fun _ => ?_, fun hc => (by cases hc)⟩
  exact ⟨rfl, rfl, rfl, rfl, rfl, rfl, rfl, rfl, rfl, rfl, rfl, rfl, rfl, rfl, rfl, rfl, rfl, rfl⟩
theorem zJ_pl {n : Nat} {m : Nat} {fr : Nat → Nat} {to : Nat → Nat} {sd : Bool} {wh : Option Nat} {sm : Int} {bk : Nat → Bool} {dep : Nat → Nat} {has : Nat → Bool} {V : Nat → Nat} {SV : Nat → Nat} {B : Nat → Int} {wy : Nat} {has2 : Nat → Bool} {Bh : Nat → Nat → Bool} {H : Nat → Int} {St : Nat → Int} {Cm : Nat → Int} {wy2 : Nat} {ru : Bool} {pl : Nat} {pk : Nat} {rs : Int} {es : Int} {bk2 : Nat → Bool} {dep2 : Nat → Nat} {it : Nat → Bool} {isL : Nat → Bool} {lf : Nat → Nat} {lt : Nat → Nat} {Rw : Nat → Nat} {bd : Nat → Bool} {B2 : Nat → Int} {wl : Nat → Nat} {wk : Nat → Nat} {tc : Nat → Nat} {ec : Nat → Int} {bc : Nat → Int} {wc : Nat → Int} {sc : Nat → Int} (hJ : zJ (n) (m) (fr) (to) (sd) (wh) (sm) (bk) (dep) (has) (V) (SV) (B) (wy) (has2) (Bh) (H) (St) (Cm) (wy2) (ru) (pl) (pk) (rs) (es) (bk2) (dep2) (it) (isL) (lf) (lt) (Rw) (bd) (B2) (wl) (wk) (tc) (ec) (bc) (wc) (sc)) {p : Nat} (hp : wh = some p) : ru = true ∧ p = pl := by
  obtain ⟨c1, c2, c3, c4, c5, c6, c7, c8, c9, c10, c11, c12, c13, c14⟩ := hJ
  rw [c12] at hp
  cases ru with
  | false => cases hp
  | true =>
    have h9 : some pl = some p := hp
    exact ⟨rfl, (Option.some.inj h9).symm⟩
theorem zDy_ru {n m : Nat} {fr to : Nat → Nat} {has isL : Nat → Bool} {lf lt Rw : Nat → Nat} {B sc : Nat → Int} {rs : Int} {p : Nat} {mq : Int} {Hq cq : Nat → Int} {s : zwT} (h : zDy n m fr to has isL lf lt Rw B sc rs (some p, mq, Hq, cq) s) : ∃ tc ec bc wc pk es, s = (tc, ec, bc, wc, true, p, pk, es) := by
  obtain ⟨tc, ec, bc, wc, ru, pl, pk, es⟩ := s
  have h2 : some p = (if ru = true then some pl else none) := h.2.1
  cases ru with
  | false => cases h2
  | true =>
    have h9 : some p = some pl := h2
    have h8 := Option.some.inj h9
    subst h8
    exact ⟨tc, ec, bc, wc, pk, es, rfl⟩
theorem zJ_wc {n : Nat} {m : Nat} {fr : Nat → Nat} {to : Nat → Nat} {sd : Bool} {wh : Option Nat} {sm : Int} {bk : Nat → Bool} {dep : Nat → Nat} {has : Nat → Bool} {V : Nat → Nat} {SV : Nat → Nat} {B : Nat → Int} {wy : Nat} {has2 : Nat → Bool} {Bh : Nat → Nat → Bool} {H : Nat → Int} {St : Nat → Int} {Cm : Nat → Int} {wy2 : Nat} {ru : Bool} {pl : Nat} {pk : Nat} {rs : Int} {es : Int} {bk2 : Nat → Bool} {dep2 : Nat → Nat} {it : Nat → Bool} {isL : Nat → Bool} {lf : Nat → Nat} {lt : Nat → Nat} {Rw : Nat → Nat} {bd : Nat → Bool} {B2 : Nat → Int} {wl : Nat → Nat} {wk : Nat → Nat} {tc : Nat → Nat} {ec : Nat → Int} {bc : Nat → Int} {wc : Nat → Int} {sc : Nat → Int} (hJ : zJ (n) (m) (fr) (to) (sd) (wh) (sm) (bk) (dep) (has) (V) (SV) (B) (wy) (has2) (Bh) (H) (St) (Cm) (wy2) (ru) (pl) (pk) (rs) (es) (bk2) (dep2) (it) (isL) (lf) (lt) (Rw) (bd) (B2) (wl) (wk) (tc) (ec) (bc) (wc) (sc)) : ∃ I : zcT → Prop, I (wh, sm, H, Cm) ∧ (∀ p mq Hq cq e, I (some p, mq, Hq, cq) → e < m → fr e = p → I (zcE to bk e, zcS fr to bk V SV B e (mq), zcH has e (Hq), zcC fr to bk V B sd wy e (mq) (cq))) ∧ ∀ p mq Hq cq, I (some p, mq, Hq, cq) → p < n ∧ 0 < sg_deg fr p m ∧ wy ≤ 200 := by
  obtain ⟨c1, c2, c3, c4, c5, c6, c7, c8, c9, c10, c11, c12, c13, c14⟩ := hJ
  rcases zbft sd with hsd | hsd
  · obtain ⟨⟨rho, rr, s1, s2, s3, s4, s5, s6, s7, s8, s9, s10⟩, hD⟩ := c14 hsd
    subst hsd
    subst s8
    subst s9
    refine ⟨fun c => ∃ s, zDy n m fr to has isL lf lt Rw B sc rs c s, ⟨_, hD⟩, fun p mq Hq cq e hI he hf => ?_, fun p mq Hq cq hI => ?_⟩
    · obtain ⟨s, hs⟩ := hI
      obtain ⟨tq, eq, bq, qq, kq, sq, rfl⟩ := zDy_ru hs
      exact ⟨_, zpass s1 he hf hs⟩
    · obtain ⟨s, hs⟩ := hI
      obtain ⟨tq, eq, bq, qq, kq, sq, rfl⟩ := zDy_ru hs
      obtain ⟨r1, r2, r3, r4, r5, r6⟩ := zroom s1 hs
      exact ⟨r3, r5, c5⟩
  · obtain ⟨u1, u2⟩ := c13 hsd
    refine ⟨fun c => c.1 = none, ?_, fun p mq Hq cq e hI => ?_, fun p mq Hq cq hI => ?_⟩
    · show wh = none
      rw [c12, u1]
      rfl
    · cases hI
    · cases hI
theorem zJ_wm {n : Nat} {m : Nat} {fr : Nat → Nat} {to : Nat → Nat} {sd : Bool} {wh : Option Nat} {sm : Int} {bk : Nat → Bool} {dep : Nat → Nat} {has : Nat → Bool} {V : Nat → Nat} {SV : Nat → Nat} {B : Nat → Int} {wy : Nat} {has2 : Nat → Bool} {Bh : Nat → Nat → Bool} {H : Nat → Int} {St : Nat → Int} {Cm : Nat → Int} {wy2 : Nat} {ru : Bool} {pl : Nat} {pk : Nat} {rs : Int} {es : Int} {bk2 : Nat → Bool} {dep2 : Nat → Nat} {it : Nat → Bool} {isL : Nat → Bool} {lf : Nat → Nat} {lt : Nat → Nat} {Rw : Nat → Nat} {bd : Nat → Bool} {B2 : Nat → Int} {wl : Nat → Nat} {wk : Nat → Nat} {tc : Nat → Nat} {ec : Nat → Int} {bc : Nat → Int} {wc : Nat → Int} {sc : Nat → Int} (hJ : zJ (n) (m) (fr) (to) (sd) (wh) (sm) (bk) (dep) (has) (V) (SV) (B) (wy) (has2) (Bh) (H) (St) (Cm) (wy2) (ru) (pl) (pk) (rs) (es) (bk2) (dep2) (it) (isL) (lf) (lt) (Rw) (bd) (B2) (wl) (wk) (tc) (ec) (bc) (wc) (sc)) : ∃ I : zwT → Prop, I (tc, ec, bc, wc, ru, pl, pk, es) ∧ (∀ (s : zwT) e, I s → s.2.2.2.2.1 = true → e < m → fr e = s.2.2.2.2.2.1 → I (zws to bk2 wl wk wy2 e s)) ∧ ∀ tq cq bq wq lq kq sq, I (tq, cq, bq, wq, true, lq, kq, sq) → kq < 16 ∧ lq < 12 ∧ 0 < sg_deg fr lq m ∧ ∀ i, i < kq → tq i < 2147483648 := by
  obtain ⟨c1, c2, c3, c4, c5, c6, c7, c8, c9, c10, c11, c12, c13, c14⟩ := hJ
  rcases zbft sd with hsd | hsd
  · obtain ⟨⟨rho, rr, s1, s2, s3, s4, s5, s6, s7, s8, s9, s10⟩, hD⟩ := c14 hsd
    subst s9
    refine ⟨fun s => ∃ wq mq Hq Cq, zDy n m fr to has isL lf lt Rw B sc rs (wq, mq, Hq, Cq) s, ⟨_, _, _, _, hD⟩, fun s e hI h1 he hf => ?_, fun tq cq bq wq lq kq sq hI => ?_⟩
    · obtain ⟨wq, mq, Hq, Cq, hs⟩ := hI
      obtain ⟨tq, eq, bq, qq, rq, lq, kq, sq⟩ := s
      have h1 : rq = true := h1
      subst h1
      exact ⟨_, _, _, _, zpass s1 he hf hs⟩
    · obtain ⟨wq, mq, Hq, Cq, hs⟩ := hI
      obtain ⟨r1, r2, r3, r4, r5, r6⟩ := zroom s1 hs
      have hn2 := c1.2.1
      exact ⟨r2, by omega, r5, fun i hi => by have := (r6 i hi).1; omega⟩
  · obtain ⟨u1, u2⟩ := c13 hsd
    refine ⟨fun s => s.2.2.2.2.1 = false, u1, fun s e hI h1 => zbf h1 hI, fun tq cq bq wq lq kq sq hI => ?_⟩
    cases hI
