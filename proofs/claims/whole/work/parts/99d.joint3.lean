/-! sealing, in both -/
theorem sa_s_V {fr to : Nat → Nat} {has : Nat → Bool} {V V2 : Nat → Int} {e : Nat} {s : sa_T} (h : V e = V2 e) : sa_s fr to has V e s = sa_s fr to has V2 e s := by
  unfold sa_s
  rw [h]
theorem zseal_c {n m : Nat} {fr to : Nat → Nat} {lq st fin : Nat → Nat} {bk0 : Nat → Bool} {met look sq fq : Nat → Nat} {hq k : Nat} {bq : Nat → Bool} {mt nx pa : Nat → Nat} {bk1 : Nat → Bool} {met2 nx2 pa2 : Nat → Nat} {h2 : Nat} {bq2 : Nat → Bool} (hg : sg_ok n m fr to) (h1 : ss_run fr to m (n + m) (zst lq st fin bk0) = (met, look, sq, hq, bq, fq, k)) (h3 : sq_run fr to m (n + m) (zq0 n mt nx pa bk1) = (met2, nx2, pa2, h2, bq2)) (S0 : Nat → Bool) : (zallb n (fun x => decide (met x ≠ 0)) && zallb n (sp_it (fun _ => sr_r fr to none m) (n - 1) (zS0 1 none))) = zcb (sp_it (fun _ => sr_r fr to none m) n (zmk S0 n)) met2 n := by
  obtain ⟨r1, r2, r3, r4⟩ := zse hg h1 h3
  have hok : ∀ e, e < m → fr e < n ∧ to e < n := fun e he => ⟨(hg.2.2.2 e he).1, (hg.2.2.2 e he).2.1⟩
  have hT := zcn hg.1 hok S0
  refine zbool_eq (P := ∀ b, b < n → met b ≠ 0 ∧ (sp_it (fun _ => sr_r fr to none m) (n - 1) (zS0 1 none)) b = true) ?_ ?_
  · rw [Bool.and_eq_true]
    constructor
    · intro h b hb
      have g1 : ∀ b, b < n → decide (met b ≠ 0) = true := of_decide_eq_true h.1
      have g2 : ∀ b, b < n → (sp_it (fun _ => sr_r fr to none m) (n - 1) (zS0 1 none)) b = true := of_decide_eq_true h.2
      exact ⟨of_decide_eq_true (g1 b hb), g2 b hb⟩
    · intro h
      refine ⟨decide_eq_true (fun b hb => decide_eq_true (h b hb).1), decide_eq_true (fun b hb => (h b hb).2)⟩
  · constructor
    · intro h b hb
      have g1 : ∀ b, b < n → (sp_it (fun _ => sr_r fr to none m) n (zmk S0 n)) b = true ∧ met2 b = 2 := of_decide_eq_true h
      refine ⟨?_, by rw [← hT b hb]; exact (g1 b hb).1⟩
      rw [← r1 b hb, (g1 b hb).2]
      decide
    · intro h
      refine decide_eq_true (fun b hb => ⟨by rw [hT b hb]; exact (h b hb).2, ?_⟩)
      have g1 := r2 b hb
      have g2 := r3 b hb
      have g3 := (h b hb).1
      rw [r1 b hb]
      omega
theorem zAF_lt {m : Nat} {fr F0 : Nat → Nat} (h1 : ∀ e, e < m → fr e < 12) (h2 : ∀ l, F0 l < 12) : ∀ l, zAF m fr F0 l < 12 := by
  intro l
  show sp_it (zl (fun i => decide (i < m)) fr (fun _ => 0)) 24 F0 l < 12
  rw [zl_spec _ _ _ _ _ 24 (Nat.le_refl _)]
  by_cases c1 : l < 24 ∧ decide (l < m) = true
  · rw [if_pos c1]; exact h1 l (of_decide_eq_true c1.2)
  · rw [if_neg c1]
    by_cases c2 : 24 ≤ l ∧ l < 24 + 24 ∧ decide (l - 24 < m) = true
    · rw [if_pos c2]; decide
    · rw [if_neg c2]; exact h2 l
theorem zAT_lt {m : Nat} {to U0 : Nat → Nat} {bk : Nat → Bool} (h1 : ∀ e, e < m → to e < 12) (h2 : ∀ l, U0 l < 12) : ∀ l, zAT m to bk U0 l < 12 := by
  intro l
  show sp_it (zl (fun i => decide (i < m)) (fun i => if bk i = true then 1 else to i) to) 24 U0 l < 12
  rw [zl_spec _ _ _ _ _ 24 (Nat.le_refl _)]
  by_cases c1 : l < 24 ∧ decide (l < m) = true
  · rw [if_pos c1]
    by_cases hb : bk l = true
    · rw [if_pos hb]; decide
    · rw [if_neg hb]; exact h1 l (of_decide_eq_true c1.2)
  · rw [if_neg c1]
    by_cases c2 : 24 ≤ l ∧ l < 24 + 24 ∧ decide (l - 24 < m) = true
    · rw [if_pos c2]; exact h1 _ (of_decide_eq_true c2.2.2)
    · rw [if_neg c2]; exact h2 l
theorem zJ_un {n : Nat} {m : Nat} {fr : Nat → Nat} {to : Nat → Nat} {sd : Bool} {wh : Option Nat} {sm : Int} {bk : Nat → Bool} {dep : Nat → Nat} {has : Nat → Bool} {V : Nat → Nat} {SV : Nat → Nat} {B : Nat → Int} {wy : Nat} {has2 : Nat → Bool} {Bh : Nat → Nat → Bool} {H : Nat → Int} {St : Nat → Int} {Cm : Nat → Int} {wy2 : Nat} {ru : Bool} {pl : Nat} {pk : Nat} {rs : Int} {es : Int} {bk2 : Nat → Bool} {dep2 : Nat → Nat} {it : Nat → Bool} {isL : Nat → Bool} {lf : Nat → Nat} {lt : Nat → Nat} {Rw : Nat → Nat} {bd : Nat → Bool} {B2 : Nat → Int} {wl : Nat → Nat} {wk : Nat → Nat} {tc : Nat → Nat} {ec : Nat → Int} {bc : Nat → Int} {wc : Nat → Int} {sc : Nat → Int} (hJ : zJ (n) (m) (fr) (to) (sd) (wh) (sm) (bk) (dep) (has) (V) (SV) (B) (wy) (has2) (Bh) (H) (St) (Cm) (wy2) (ru) (pl) (pk) (rs) (es) (bk2) (dep2) (it) (isL) (lf) (lt) (Rw) (bd) (B2) (wl) (wk) (tc) (ec) (bc) (wc) (sc)) (hsd : sd = false) {bk' bk2' : Nat → Bool} {V' SV' : Nat → Nat} {wy' : Nat} {isL' : Nat → Bool} {lf' lt' Rw' : Nat → Nat} (hw : wy' < 2147483648) (hl : ∀ l, lf' l < 12 ∧ lt' l < 12) : zJ (n) (m) (fr) (to) (sd) (wh) (sm) (bk') (dep) (has) (V') (SV') (B) (wy') (has2) (Bh) (H) (St) (Cm) (wy2) (ru) (pl) (pk) (rs) (es) (bk2') (dep2) (it) (isL') (lf') (lt') (Rw') (bd) (B2) (wl) (wk) (tc) (ec) (bc) (wc) (sc) := by
  obtain ⟨c1, c2, c3, c4, c5, c6, c7, c8, c9, c10, c11, c12, c13, c14⟩ := hJ
  exact ⟨c1, c2, c3, hw, c5, c6, c7, hl, c9, c10, c11, c12, c13, fun hc => zbf hc hsd⟩
theorem zseal_W {n m : Nat} {fr to : Nat → Nat} {lq st fin : Nat → Nat} {bk0 : Nat → Bool} {met look sq fq : Nat → Nat} {hq k : Nat} {bq : Nat → Bool} {mt nx pa : Nat → Nat} {bk1 : Nat → Bool} {met2 nx2 pa2 : Nat → Nat} {h2 : Nat} {bq2 : Nat → Bool} (hg : sg_ok n m fr to) (h1 : ss_run fr to m (n + m) (zst lq st fin bk0) = (met, look, sq, hq, bq, fq, k)) (h3 : sq_run fr to m (n + m) (zq0 n mt nx pa bk1) = (met2, nx2, pa2, h2, bq2)) (hcon : (zallb n (fun x => decide (met x ≠ 0)) && zallb n (sp_it (fun _ => sr_r fr to none m) (n - 1) (zS0 1 none))) = true) {V R V1 R1 SV SV1 : Nat → Nat} {W1 : Nat} (hN : sv_num fr (ztg bq to) fq m n V R = (V1, R1)) (hS : sp_it (sv_st to R1 bq) m (SV, R1 0) = (SV1, W1)) (I0 : Nat → Bool) (F0 U0 R0 : Nat → Nat) : W1 = (zAR n (zAI m bq2 I0) (zAF m fr F0) (zAT m to bq2 U0) R0) 0 ∧ W1 < 2147483648 ∧ (∀ e, e < m → V1 e < 2147483648) ∧ (∀ e, e < m → bq e = true → SV1 e < 2147483648) ∧ (∀ e, e < m → bq2 e = bq e) ∧ sv_O n m fr (ztg bq to) fq ∧ (∀ b, b < n → ∀ S : Nat → Bool, (∀ e, e < m → bq e = false → S (fr e) = S (to e)) → S b = S 0) ∧ (∀ e, e < m → bq e = true → to e ≠ 1) ∧ (∀ b, b < n → b ≠ 1 → ∃ e, e < m ∧ fr e = b) ∧ ∃ rho : Nat → Nat, rho 1 = 0 ∧ rho 0 = n ∧ (∀ b, b < n → rho b ≤ n) ∧ sw_H n 48 (zAI m bq2 I0) (zAF m fr F0) (zAT m to bq2 U0) (zAR n (zAI m bq2 I0) (zAF m fr F0) (zAT m to bq2 U0) R0) rho ∧ (∀ e, e < m → sw_V (zAI m bq2 I0) (zAF m fr F0) (zAT m to bq2 U0) (zAR n (zAI m bq2 I0) (zAF m fr F0) (zAT m to bq2 U0) R0) e = V1 e) ∧ (∀ e, e < m → bq e = true → sw_V (zAI m bq2 I0) (zAF m fr F0) (zAT m to bq2 U0) (zAR n (zAI m bq2 I0) (zAF m fr F0) (zAT m to bq2 U0) R0) (24 + e) = SV1 e) := by
  obtain ⟨r1, r2, r3, r4⟩ := zse hg h1 h3
  rw [Bool.and_eq_true] at hcon
  have g1 : ∀ b, b < n → decide (met b ≠ 0) = true := of_decide_eq_true hcon.1
  have g2 : ∀ b, b < n → (sp_it (fun _ => sr_r fr to none m) (n - 1) (zS0 1 none)) b = true := of_decide_eq_true hcon.2
  obtain ⟨k1, k2, k3, k4, k5⟩ := r4 (fun b hb => of_decide_eq_true (g1 b hb))
  have hout : ∀ b, b < n → b ≠ 1 → ∃ e, e < m ∧ fr e = b := fun b hb hb1 => by
    rcases zout (n - 1) b (g2 b hb) with h | h
    · exact absurd h hb1
    · exact h
  obtain ⟨w1, w2, w3, w4, w5, w6⟩ := zwy_b hg k3 hN hS
  obtain ⟨rho, p1, p2, p3, p4, p5, p6, p7⟩ := zlinks hg k2 k3 w1 hout I0 F0 U0 R0
  have hn := hg.1
  refine ⟨w2.trans (p5 0 (by omega)).symm, by omega, w5, w6, k2, k3, k4, k5, hout, rho, p1, p2, p3, p4, p6, fun e he hbe => ?_⟩
  rw [p7 e he hbe, w4 e he hbe]
theorem zJ_seal {n : Nat} {m : Nat} {fr : Nat → Nat} {to : Nat → Nat} {sd : Bool} {wh : Option Nat} {sm : Int} {bk : Nat → Bool} {dep : Nat → Nat} {has : Nat → Bool} {V : Nat → Nat} {SV : Nat → Nat} {B : Nat → Int} {wy : Nat} {has2 : Nat → Bool} {Bh : Nat → Nat → Bool} {H : Nat → Int} {St : Nat → Int} {Cm : Nat → Int} {wy2 : Nat} {ru : Bool} {pl : Nat} {pk : Nat} {rs : Int} {es : Int} {bk2 : Nat → Bool} {dep2 : Nat → Nat} {it : Nat → Bool} {isL : Nat → Bool} {lf : Nat → Nat} {lt : Nat → Nat} {Rw : Nat → Nat} {bd : Nat → Bool} {B2 : Nat → Int} {wl : Nat → Nat} {wk : Nat → Nat} {tc : Nat → Nat} {ec : Nat → Int} {bc : Nat → Int} {wc : Nat → Int} {sc : Nat → Int} (hJ : zJ (n) (m) (fr) (to) (sd) (wh) (sm) (bk) (dep) (has) (V) (SV) (B) (wy) (has2) (Bh) (H) (St) (Cm) (wy2) (ru) (pl) (pk) (rs) (es) (bk2) (dep2) (it) (isL) (lf) (lt) (Rw) (bd) (B2) (wl) (wk) (tc) (ec) (bc) (wc) (sc)) (hsd : sd = false) {lq st fin : Nat → Nat} {bk0 : Nat → Bool} {met look sq fq : Nat → Nat} {hq k : Nat} {bq : Nat → Bool} {mt nx pa : Nat → Nat} {bk1 : Nat → Bool} {met2 nx2 pa2 : Nat → Nat} {h2 : Nat} {bq2 : Nat → Bool} (h1 : ss_run fr to m (n + m) (zst lq st fin bk0) = (met, look, sq, hq, bq, fq, k)) (h3 : sq_run fr to m (n + m) (zq0 n mt nx pa bk1) = (met2, nx2, pa2, h2, bq2)) (hcon : (zallb n (fun x => decide (met x ≠ 0)) && zallb n (sp_it (fun _ => sr_r fr to none m) (n - 1) (zS0 1 none))) = true) {R V1 R1 SV1 : Nat → Nat} {W1 : Nat} (hN : sv_num fr (ztg bq to) fq m n V R = (V1, R1)) (hS : sp_it (sv_st to R1 bq) m (SV, R1 0) = (SV1, W1)) (h200 : W1 ≤ 200) {dep1 ord ord1 grp grp1 o2 O2 grp2 grp3 : Nat → Nat} {has1 has3 Sq : Nat → Bool} {M2 : Nat} {Bq : Nat → Int} (hq0 : sp_it (zde fr to bq m n) m (fun _ => 0) = dep1) (hq1 : (so_sys (zwt fr to dep1) m ord).1 = ord1) (hq2 : sp_it (st_g fr to ord1 n) m (sj_join n (zid grp n) 0 1, fun _ => false) = (grp1, has1)) (hq3 : sp_it (st_f bq ord1) m (o2, 0) = (O2, M2)) (hq4 : sp_it (st_g fr to O2 n) M2 (sj_join n (zid grp2 n) 0 1, fun _ => false) = (grp3, has3)) (hq5 : sp_it (fun _ => sa_r fr to has3 (fun x => (V1 x : Int)) m) (n - 1) ((fun b => decide (b = 0 ∨ b = 1)), fun _ => 0) = (Sq, Bq)) {I0 : Nat → Bool} {F0 U0 R0 : Nat → Nat} (hF0 : ∀ l, F0 l < 12) (hU0 : ∀ l, U0 l < 12) {d : Nat → Nat} {T1 S5 : Nat → Bool} {B5 : Nat → Int} {L K : Nat → Nat} (hM : zMS n m fr to bq2 (zAI m bq2 I0) (zAF m fr F0) (zAT m to bq2 U0) (zAR n (zAI m bq2 I0) (zAF m fr F0) (zAT m to bq2 U0) R0) d T1 B5) (hw : zwF (zAI m bq2 I0) (zAF m fr F0) (zAT m to bq2 U0) (zAR n (zAI m bq2 I0) (zAF m fr F0) (zAT m to bq2 U0) R0) ((zAR n (zAI m bq2 I0) (zAF m fr F0) (zAT m to bq2 U0) R0) 0) L K) : zJ (n) (m) (fr) (to) (true) (wh) (sm) (bq) (dep1) (has1) (V1) (SV1) (Bq) (W1) (has3) (fun x => if x < m then zbh fr to n m has1 x else Bh x) (H) (St) (Cm) ((zAR n (zAI m bq2 I0) (zAF m fr F0) (zAT m to bq2 U0) R0) 0) (ru) (pl) (pk) (rs) (es) (bq2) (d) (T1) (zAI m bq2 I0) (zAF m fr F0) (zAT m to bq2 U0) (zAR n (zAI m bq2 I0) (zAF m fr F0) (zAT m to bq2 U0) R0) (S5) (B5) (L) (K) (tc) (ec) (bc) (wc) (sc) := by
  obtain ⟨c1, c2, c3, c4, c5, c6, c7, c8, c9, c10, c11, c12, c13, c14⟩ := hJ
  obtain ⟨w1, w2, w3, w4, k2, hO, hjoin, hto1, hout, rho, p1, p2, p3, p4, p6, p7⟩ := zseal_W c1 h1 h3 hcon hN hS I0 F0 U0 R0
  obtain ⟨q1, q2, q3⟩ := zlinks2 c1 k2 I0 F0 U0
  obtain ⟨u1, u2, u3, u4, u5, u6, u7, u8, u9, u10, u11, u12, u13, u14, u15, u16, u17, u18⟩ := c13 hsd
  obtain ⟨hn, hn2, hm, hgo⟩ := c1
  have hg : sg_ok n m fr to := ⟨hn, hn2, hm, hgo⟩
  have hok : ∀ e, e < m → fr e < n ∧ to e < n := fun e he => ⟨(hgo e he).1, (hgo e he).2.1⟩
  obtain ⟨rr, y1, y2, y3⟩ := sw_rho hn hO (fun e he => ztg_lt hn (hok e he).2)
  obtain ⟨m1, so, m2, m3, m4, m5, m6, m7⟩ := hM
  have hd : d = dep1 := by
    rw [m1, ← hq0]
    exact sp_it_congr m (fun i x hi => by unfold zde; rw [k2 i hi])
  have hso : ∀ x, x < m → ord1 x = so x := fun x hx => by
    rw [← hq1, ← hd]
    exact m2 ord x hx
  have hT : ∀ e, e < m → T1 e = has1 e := fun e he => by
    rw [m6 grp e he, ← st_g_c hso, hq2]
  have hst : sp_it (st_f bq2 so) m (o2, 0) = (O2, M2) := by
    rw [← hq3]
    exact sp_it_congr m (fun i x hi => by unfold st_f; rw [hso i hi, k2 _ (m3 i hi)])
  have hB : B5 = Bq := by
    have h9 := m7 o2 grp2
    rw [hst] at h9
    have h8 : B5 = (sp_it (fun _ => sa_r fr to (sp_it (st_g fr to O2 n) M2 (sj_join n (zid grp2 n) 0 1, fun _ => false)).2 (fun x => (sw_V (zAI m bq2 I0) (zAF m fr F0) (zAT m to bq2 U0) (zAR n (zAI m bq2 I0) (zAF m fr F0) (zAT m to bq2 U0) R0) x : Int)) m) (n - 1) ((fun b => decide (b = 0 ∨ b = 1)), fun _ => 0)).2 := h9
    rw [hq4] at h8
    have h7 : sp_it (fun _ => sa_r fr to has3 (fun x => (sw_V (zAI m bq2 I0) (zAF m fr F0) (zAT m to bq2 U0) (zAR n (zAI m bq2 I0) (zAF m fr F0) (zAT m to bq2 U0) R0) x : Int)) m) (n - 1) ((fun b => decide (b = 0 ∨ b = 1)), fun _ => 0) = sp_it (fun _ => sa_r fr to has3 (fun x => (V1 x : Int)) m) (n - 1) ((fun b => decide (b = 0 ∨ b = 1)), fun _ => 0) := sp_it_congr (n - 1) (fun i x _ => sp_it_congr m (fun q y hq => sa_s_V (congrArg Int.ofNat (p6 q hq))))
    have h6 : B5 = (sp_it (fun _ => sa_r fr to has3 (fun x => (sw_V (zAI m bq2 I0) (zAF m fr F0) (zAT m to bq2 U0) (zAR n (zAI m bq2 I0) (zAF m fr F0) (zAT m to bq2 U0) R0) x : Int)) m) (n - 1) ((fun b => decide (b = 0 ∨ b = 1)), fun _ => 0)).2 := h8
    rw [h7, hq5] at h6
    exact h6
  have hB01 : Bq 0 = 0 ∧ Bq 1 = 0 := by
    have h9 := sa_zero (fr := fr) (to := to) (has := has3) (V := fun x => (V1 x : Int)) (m := m) (n - 1) (s := ((fun b => decide (b = 0 ∨ b = 1)), fun _ => 0)) rfl rfl
    rw [hq5] at h9
    exact h9
  have hcut : zBh m fr to has1 (fun x => if x < m then zbh fr to n m has1 x else Bh x) := by
    refine zcutok (ord := ord1) (grp := grp) hg (fun x hx => by rw [hso x hx]; exact m3 x hx) (fun i j hi hj hij => by rw [hso i hi, hso j hj] at hij; exact m4 i j hi hj hij) (fun e he => ?_) hjoin (by rw [hq2]) Bh
    obtain ⟨x, x1, x2⟩ := m5 e he
    exact ⟨x, x1, (hso x x1).trans x2⟩
  have hSt : zSt n m fr to bq V1 SV1 Bq (zAI m bq2 I0) (zAF m fr F0) (zAT m to bq2 U0) (zAR n (zAI m bq2 I0) (zAF m fr F0) (zAT m to bq2 U0) R0) L K rho bq2 := by
    refine ⟨hg, k2, p4, p1, p2, fun e he => ⟨(q1 e he).1, (q1 e he).2.1, (q1 e he).2.2, p6 e he⟩, fun e he hbe => ⟨(q2 e he hbe).1, (q2 e he hbe).2.1, (q2 e he hbe).2.2, p7 e he hbe, hto1 e he hbe⟩, hB01.1, hB01.2, by rw [← w1]; exact h200, hw, hout⟩
  refine ⟨hg, c2, c3, w2, by rw [← w1]; exact h200, c6, c7, fun l => ⟨zAF_lt (fun e he => by have := hok e he; omega) hF0 l, zAT_lt (fun e he => by have := hok e he; omega) hU0 l⟩, c9, fun w hw2 => (hw.1 w hw2).1, hw.2, c12, fun hc => (by cases hc), fun _ => ⟨⟨rho, rr, hSt, q3, y2, y3, hd, hT, hB, w1, rfl, hcut, w3, w4⟩, ?_⟩⟩
  subst u1
  refine ⟨c3, c12, fun _ => u2, fun hc => (by cases hc), fun e he => ?_, ?_, ?_, fun w _ => by rw [← c3, u10], c7, ⟨0, by rw [u3]; rfl⟩⟩
  · rw [u8, u15]
    by_cases hh : has1 e = true
    · rw [if_pos hh]
    · rw [if_neg hh]
  · rw [u15, ← c2, u9]
    exact sf_none (fun _ _ => rfl) (fun _ _ => rfl)
  · rw [u15, u16, u17, u18, ← c2, u9]
    exact sf_G_none hn (fun _ _ => rfl) (fun _ _ => rfl) (fun _ _ => rfl)
