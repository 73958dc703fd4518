/-! the reference: walk, listWays -/
def zt3 (x : Int32) : Nat := (if bt x 0 = true then 1 else 0) + (if bt x 1 = true then 2 else 0)
theorem zt3_lt (x : Int32) : zt3 x < 4 := by
  unfold zt3
  cases bt x 0 <;> cases bt x 1 <;> decide
theorem zt3_b : ∀ (a b : Bool) (i : Nat), i < 32 → bt (nI ((if a = true then 1 else 0) + (if b = true then 2 else 0))) i = ((decide (i = 0) && a) || (decide (i = 1) && b)) := by decide +kernel
theorem zt3_3 : ∀ i, i < 32 → bt (nI 3) i = decide (i < 2) := by decide +kernel
theorem zt3_eq (x : Int32) : x &&& nI 3 = nI (zt3 x) := b_ext (fun i hi => by
  rw [b_and, zt3_3 i hi]
  unfold zt3
  rw [zt3_b _ _ i hi]
  by_cases h0 : i = 0
  · subst h0
    simp
  · by_cases h1 : i = 1
    · subst h1
      simp
    · rw [decide_eq_false h0, decide_eq_false h1, decide_eq_false (show ¬ i < 2 by omega), Bool.and_false, Bool.false_and, Bool.false_and]
      rfl)
def zsr (x : Int32) : Int32 := (x.toUInt32 >>> ((nI 2).toUInt32 &&& Int32.toUInt32 31)).toInt32
abbrev zwT : Type := (Nat → Nat) × (Nat → Int) × (Nat → Int) × (Nat → Int) × Bool × Nat × Nat × Int
def zws (to : Nat → Nat) (bk : Nat → Bool) (wl wk : Nat → Nat) (wy e : Nat) : zwT → zwT := fun s => match s with
  | (tc, ec, bc, wc, ru, _, pk, es) => (zpT (bk e) tc pk e, va_up ec e (ec e + 1), va_up bc (to e) (bc (to e) + 1), zpC (bk e) (to e) wl wk tc pk wy wc e, zpR (bk e) (to e) ru, to e, zpK (bk e) pk, zpE (bk e) (to e) es)
def zwg (fr to : Nat → Nat) (bk : Nat → Bool) (wl wk : Nat → Nat) (m wy : Nat) : Nat → Int32 → zwT → Nat × zwT
  | 0, _, s => (0, s)
  | k + 1, x, s => if s.2.2.2.2.1 = true then ((zwg fr to bk wl wk m wy k (zsr x) (zws to bk wl wk wy (sg_pk fr s.2.2.2.2.2.1 m (zt3 x % sg_deg fr s.2.2.2.2.2.1 m)) s)).1 + 1, (zwg fr to bk wl wk m wy k (zsr x) (zws to bk wl wk wy (sg_pk fr s.2.2.2.2.2.1 m (zt3 x % sg_deg fr s.2.2.2.2.2.1 m)) s)).2) else (0, s)
theorem zwg_stop {fr to : Nat → Nat} {bk : Nat → Bool} {wl wk : Nat → Nat} {m wy k : Nat} {x : Int32} {s : zwT} (h : s.2.2.2.2.1 = false) : zwg fr to bk wl wk m wy k x s = (0, s) := by
  cases k with
  | zero => rfl
  | succ k => exact if_neg (fun hc => zbf hc h)
theorem zwg_go {fr to : Nat → Nat} {bk : Nat → Bool} {wl wk : Nat → Nat} {m wy k : Nat} {x : Int32} {s : zwT} {e : Nat} (h : s.2.2.2.2.1 = true) (he : sg_pk fr s.2.2.2.2.2.1 m (zt3 x % sg_deg fr s.2.2.2.2.2.1 m) = e) : zwg fr to bk wl wk m wy (k + 1) x s = ((zwg fr to bk wl wk m wy k (zsr x) (zws to bk wl wk wy e s)).1 + 1, (zwg fr to bk wl wk m wy k (zsr x) (zws to bk wl wk wy e s)).2) := by
  subst he
  exact if_pos h
set_option maxHeartbeats 400000 in
set_option maxRecDepth 100000 in
theorem kM_walk (l : Launch) (D : va_G) (cI cZ : ClassId) (ax : Nat) (r : Nat → Nat) (n m : Nat) (sl : Bool) (pr wy fo : Nat) (ru : Bool) (pl pk : Nat) (rs es : Int) (fr : Nat → Nat) (to : Nat → Nat) (bk : Nat → Bool) (wl wk tc : Nat → Nat) (ec bc wc : Nat → Int) (x y : Int32) (hm : m ≤ 24) (hn : n ≤ 12) (hfr : ∀ e, e < m → fr e < n) (hto : ∀ e, e < m → to e < n) (hwy : wy ≤ 200) (hwl : ∀ w, w < wy → wl w ≤ 16) (hwk : ∀ w i, w < wy → i < 16 → wk (16 * w + i) < 2147483648) (I : zwT → Prop) (hI0 : I (tc, ec, bc, wc, ru, pl, pk, es)) (hIs : ∀ (s : zwT) e, I s → s.2.2.2.2.1 = true → e < m → fr e = s.2.2.2.2.2.1 → I (zws to bk wl wk wy e s)) (hIb : ∀ tq cq bq wq lq kq sq, I (tq, cq, bq, wq, true, lq, kq, sq) → kq < 16 ∧ lq < 12 ∧ 0 < sg_deg fr lq m ∧ ∀ i, i < kq → tq i < 2147483648) : zM l yM_walk wM_walk rM_walk D zCl (zTy cI cZ) zNW 0 0 [.ref ax, .int x, .int y] ([mO ax r (n) (m) (sl) (pr) (wy) (fo) (ru) (pl) (pk) (rs) (es), (r 2, .inl (cI, 24, .inl (aN (fr)))), (r 3, .inl (cI, 24, .inl (aN (to)))), (r 8, .inl (cZ, 24, .inl (aB (bk)))), (r 24, .inl (cI, 200, .inl (aN (wl)))), (r 25, .inl (cI, 3200, .inl (aN (wk)))), (r 31, .inl (cI, 16, .inl (aN (tc)))), (r 32, .inl (cI, 24, .inl (aI (ec)))), (r 33, .inl (cI, 12, .inl (aI (bc)))), (r 34, .inl (cI, 200, .inl (aI (wc))))]) (fun v wn => ((∀ N, N ≤ 16 → y = nI N → ru = true → False) → v = some (.int (-1)) ∧ wn = [mO ax r (n) (m) (sl) (pr) (wy) (fo) (ru) (pl) (pk) (rs) (es), (r 2, .inl (cI, 24, .inl (aN (fr)))), (r 3, .inl (cI, 24, .inl (aN (to)))), (r 8, .inl (cZ, 24, .inl (aB (bk)))), (r 24, .inl (cI, 200, .inl (aN (wl)))), (r 25, .inl (cI, 3200, .inl (aN (wk)))), (r 31, .inl (cI, 16, .inl (aN (tc)))), (r 32, .inl (cI, 24, .inl (aI (ec)))), (r 33, .inl (cI, 12, .inl (aI (bc)))), (r 34, .inl (cI, 200, .inl (aI (wc))))]) ∧ ∀ N, N ≤ 16 → y = nI N → ru = true → ∃ tq cq bq wq rq lq kq sq, (zwg fr to bk wl wk m wy (N) (x) (tc, ec, bc, wc, ru, pl, pk, es)).2 = (tq, cq, bq, wq, rq, lq, kq, sq) ∧ v = some (.int (nI (zwg fr to bk wl wk m wy (N) (x) (tc, ec, bc, wc, ru, pl, pk, es)).1)) ∧ wn = [mO ax r (n) (m) (sl) (pr) (wy) (fo) (rq) (lq) (kq) (rs) (sq), (r 2, .inl (cI, 24, .inl (aN (fr)))), (r 3, .inl (cI, 24, .inl (aN (to)))), (r 8, .inl (cZ, 24, .inl (aB (bk)))), (r 24, .inl (cI, 200, .inl (aN (wl)))), (r 25, .inl (cI, 3200, .inl (aN (wk)))), (r 31, .inl (cI, 16, .inl (aN (tq)))), (r 32, .inl (cI, 24, .inl (aI (cq)))), (r 33, .inl (cI, 12, .inl (aI (bq)))), (r 34, .inl (cI, 200, .inl (aI (wq))))]) := by
  refine z_met2 cM_walk 6 (some .int) rfl rfl (Nat.le_of_ble_eq_true rfl) rfl (fun Z hX => ?_)
  show Z 0 0 0 [some (.ref ax), some (.int x), some (.int y), none, none, none] [] ([mO ax r (n) (m) (sl) (pr) (wy) (fo) (ru) (pl) (pk) (rs) (es), (r 2, .inl (cI, 24, .inl (aN (fr)))), (r 3, .inl (cI, 24, .inl (aN (to)))), (r 8, .inl (cZ, 24, .inl (aB (bk)))), (r 24, .inl (cI, 200, .inl (aN (wl)))), (r 25, .inl (cI, 3200, .inl (aN (wk)))), (r 31, .inl (cI, 16, .inl (aN (tc)))), (r 32, .inl (cI, 24, .inl (aI (ec)))), (r 33, .inl (cI, 12, .inl (aI (bc)))), (r 34, .inl (cI, 200, .inl (aI (wc))))])
  refine z_aload_n hX 0 dM_walk_0 rfl rfl ?_
  refine z_get hX 0 28 rfl rfl (zu inM) (by decide) (List.mem_cons_of_mem _ mw_580) rfl dM_walk_1 ?_
  refine z_if_eqB hX 17 dM_walk_4 rfl (fun h4 => ?_) (fun h4 => ?_)
  · have hE : ∀ N1, N1 ≤ 16 → y = nI N1 → ru = true → False := by
      intro N g1 g2 g3
      exact zbf g3 h4
    refine z_iconst hX (-1) dM_walk_17 rfl ?_
    refine z_iret hX rfl rfl rfl rfl dM_walk_18 ?_
    exact ⟨fun _ => ⟨rfl, rfl⟩, fun N1 g1 g2 g3 => (hE N1 g1 g2 g3).elim⟩
  · refine z_iload_n hX 2 dM_walk_7 rfl rfl ?_
    refine z_if_lt hX 17 dM_walk_8 rfl (fun h8 => ?_) (fun h8 => ?_)
    · have hE : ∀ N1, N1 ≤ 16 → y = nI N1 → ru = true → False := by
        intro N g1 g2 g3
        rw [g2] at h8
        exact absurd h8 (Int32.not_lt.mpr (zi_ge0 (by omega)))
      refine z_iconst hX (-1) dM_walk_17 rfl ?_
      refine z_iret hX rfl rfl rfl rfl dM_walk_18 ?_
      exact ⟨fun _ => ⟨rfl, rfl⟩, fun N1 g1 g2 g3 => (hE N1 g1 g2 g3).elim⟩
    · obtain ⟨N, hN, rfl⟩ := zn_of h8
      refine z_iload_n hX 2 dM_walk_11 rfl rfl ?_
      refine z_bipush hX (nI 16) dM_walk_12 (by decide) ?_
      refine z_icmp_leN hX 19 (by omega) (by omega) dM_walk_14 rfl (fun h14 => ?_) (fun h14 => ?_)
      · refine z_iload_n hX 1 dM_walk_19 rfl rfl ?_
        refine z_istore_n hX 3 dM_walk_20 rfl (by decide) ?_
        refine z_iconst hX (nI 0) dM_walk_21 rfl ?_
        refine z_istore hX 4 dM_walk_22 (by decide) ?_
        have hloop : ∀ d, d ≤ N → ∀ xq tq cq bq wq rq lq kq sq, I (tq, cq, bq, wq, rq, lq, kq, sq) → (zwg fr to bk wl wk m wy (N - d) (xq) (tq, cq, bq, wq, rq, lq, kq, sq)).1 + d = (zwg fr to bk wl wk m wy (N) (x) (tc, ec, bc, wc, ru, pl, pk, es)).1 → (zwg fr to bk wl wk m wy (N - d) (xq) (tq, cq, bq, wq, rq, lq, kq, sq)).2 = (zwg fr to bk wl wk m wy (N) (x) (tc, ec, bc, wc, ru, pl, pk, es)).2 → Z 0 0 24 [some (.ref ax), some (.int x), some (.int (nI N)), some (.int xq), some (.int (nI d)), none] [] ([mO ax r (n) (m) (sl) (pr) (wy) (fo) (rq) (lq) (kq) (rs) (sq), (r 2, .inl (cI, 24, .inl (aN (fr)))), (r 3, .inl (cI, 24, .inl (aN (to)))), (r 8, .inl (cZ, 24, .inl (aB (bk)))), (r 24, .inl (cI, 200, .inl (aN (wl)))), (r 25, .inl (cI, 3200, .inl (aN (wk)))), (r 31, .inl (cI, 16, .inl (aN (tq)))), (r 32, .inl (cI, 24, .inl (aI (cq)))), (r 33, .inl (cI, 12, .inl (aI (bq)))), (r 34, .inl (cI, 200, .inl (aI (wq))))]) := by
          refine zloop (P := fun d => ∀ xq tq cq bq wq rq lq kq sq, I (tq, cq, bq, wq, rq, lq, kq, sq) → (zwg fr to bk wl wk m wy (N - d) (xq) (tq, cq, bq, wq, rq, lq, kq, sq)).1 + d = (zwg fr to bk wl wk m wy (N) (x) (tc, ec, bc, wc, ru, pl, pk, es)).1 → (zwg fr to bk wl wk m wy (N - d) (xq) (tq, cq, bq, wq, rq, lq, kq, sq)).2 = (zwg fr to bk wl wk m wy (N) (x) (tc, ec, bc, wc, ru, pl, pk, es)).2 → Z 0 0 24 [some (.ref ax), some (.int x), some (.int (nI N)), some (.int xq), some (.int (nI d)), none] [] ([mO ax r (n) (m) (sl) (pr) (wy) (fo) (rq) (lq) (kq) (rs) (sq), (r 2, .inl (cI, 24, .inl (aN (fr)))), (r 3, .inl (cI, 24, .inl (aN (to)))), (r 8, .inl (cZ, 24, .inl (aB (bk)))), (r 24, .inl (cI, 200, .inl (aN (wl)))), (r 25, .inl (cI, 3200, .inl (aN (wk)))), (r 31, .inl (cI, 16, .inl (aN (tq)))), (r 32, .inl (cI, 24, .inl (aI (cq)))), (r 33, .inl (cI, 12, .inl (aI (bq)))), (r 34, .inl (cI, 200, .inl (aI (wq))))])) N (fun d hd ih => ?_)
          intro xq tq cq bq wq rq lq kq sq hI ha hb
          refine z_iload hX 4 dM_walk_24 rfl ?_
          refine z_iload_n hX 2 dM_walk_26 rfl rfl ?_
          refine z_icmp_geN hX 65 (by omega) (by omega) dM_walk_27 rfl (fun h27 => ?_) (fun h27 => ?_)
          · have hz : zwg fr to bk wl wk m wy (N - d) (xq) (tq, cq, bq, wq, rq, lq, kq, sq) = (0, (tq, cq, bq, wq, rq, lq, kq, sq)) := by rw [show N - d = 0 by omega]; rfl
            refine z_iload hX 4 dM_walk_65 rfl ?_
            refine z_iret hX rfl rfl rfl rfl dM_walk_67 ?_
            rw [hz] at ha hb
            have ha3 : 0 + d = (zwg fr to bk wl wk m wy (N) (x) (tc, ec, bc, wc, ru, pl, pk, es)).1 := ha
            refine ⟨fun hc => (hc N h14 rfl h4).elim, fun N1 g1 g2 g3 => ?_⟩
            have e1 := (nI_eq (a := N) (b := N1) (by omega) (by omega)).mp g2
            subst e1
            exact ⟨tq, cq, bq, wq, rq, lq, kq, sq, hb.symm, by rw [← ha3, Nat.zero_add], rfl⟩
          · refine z_aload_n hX 0 dM_walk_30 rfl rfl ?_
            refine z_get hX 0 28 rfl rfl (zu inM) (by decide) (List.mem_cons_of_mem _ mw_580) rfl dM_walk_31 ?_
            refine z_if_eqB hX 65 dM_walk_34 rfl (fun h34 => ?_) (fun h34 => ?_)
            · have hz : zwg fr to bk wl wk m wy (N - d) (xq) (tq, cq, bq, wq, rq, lq, kq, sq) = (0, (tq, cq, bq, wq, rq, lq, kq, sq)) := zwg_stop h34
              refine z_iload hX 4 dM_walk_65 rfl ?_
              refine z_iret hX rfl rfl rfl rfl dM_walk_67 ?_
              rw [hz] at ha hb
              have ha3 : 0 + d = (zwg fr to bk wl wk m wy (N) (x) (tc, ec, bc, wc, ru, pl, pk, es)).1 := ha
              refine ⟨fun hc => (hc N h14 rfl h4).elim, fun N1 g1 g2 g3 => ?_⟩
              have e1 := (nI_eq (a := N) (b := N1) (by omega) (by omega)).mp g2
              subst e1
              exact ⟨tq, cq, bq, wq, rq, lq, kq, sq, hb.symm, by rw [← ha3, Nat.zero_add], rfl⟩
            · subst h34
              have hIq := hIb _ _ _ _ _ _ _ hI
              have hz3 := zt3_lt xq
              obtain ⟨e, hpe⟩ : ∃ e, sg_pk fr lq m (zt3 xq % sg_deg fr lq m) = e := ⟨_, rfl⟩
              obtain ⟨p1, p2, p3⟩ := sg_pk_spec (fr := fr) (b := lq) (m := m) (zt3 xq % sg_deg fr lq m) (Nat.mod_lt _ hIq.2.2.1)
              rw [hpe] at p1 p2
              have he : e < m := p1
              have hI2 : I (zpT (bk e) tq kq e, va_up cq e (cq e + 1), va_up bq (to e) (bq (to e) + 1), zpC (bk e) (to e) wl wk tq kq wy wq e, zpR (bk e) (to e) true, to e, zpK (bk e) kq, zpE (bk e) (to e) sq) := hIs (tq, cq, bq, wq, true, lq, kq, sq) e hI rfl he p2
              obtain ⟨k1, hk1⟩ : ∃ k1, N - d = k1 + 1 := ⟨N - d - 1, by omega⟩
              have hk2 : N - (d + 1) = k1 := by omega
              have hgo := zwg_go (fr := fr) (to := to) (bk := bk) (wl := wl) (wk := wk) (m := m) (wy := wy) (k := k1) (x := xq) (s := (tq, cq, bq, wq, true, lq, kq, sq)) (e := e) rfl hpe
              rw [hk1, hgo] at ha hb
              have ha1 : (zwg fr to bk wl wk m wy (k1) (zsr xq) (zpT (bk e) tq kq e, va_up cq e (cq e + 1), va_up bq (to e) (bq (to e) + 1), zpC (bk e) (to e) wl wk tq kq wy wq e, zpR (bk e) (to e) true, to e, zpK (bk e) kq, zpE (bk e) (to e) sq)).1 + 1 + d = (zwg fr to bk wl wk m wy (N) (x) (tc, ec, bc, wc, ru, pl, pk, es)).1 := ha
              have hb1 : (zwg fr to bk wl wk m wy (k1) (zsr xq) (zpT (bk e) tq kq e, va_up cq e (cq e + 1), va_up bq (to e) (bq (to e) + 1), zpC (bk e) (to e) wl wk tq kq wy wq e, zpR (bk e) (to e) true, to e, zpK (bk e) kq, zpE (bk e) (to e) sq)).2 = (zwg fr to bk wl wk m wy (N) (x) (tc, ec, bc, wc, ru, pl, pk, es)).2 := hb
              have ha2 : (zwg fr to bk wl wk m wy (N - (d + 1)) (zsr xq) (zpT (bk e) tq kq e, va_up cq e (cq e + 1), va_up bq (to e) (bq (to e) + 1), zpC (bk e) (to e) wl wk tq kq wy wq e, zpR (bk e) (to e) true, to e, zpK (bk e) kq, zpE (bk e) (to e) sq)).1 + (d + 1) = (zwg fr to bk wl wk m wy (N) (x) (tc, ec, bc, wc, ru, pl, pk, es)).1 := by rw [hk2]; omega
              have hb2 : (zwg fr to bk wl wk m wy (N - (d + 1)) (zsr xq) (zpT (bk e) tq kq e, va_up cq e (cq e + 1), va_up bq (to e) (bq (to e) + 1), zpC (bk e) (to e) wl wk tq kq wy wq e, zpR (bk e) (to e) true, to e, zpK (bk e) kq, zpE (bk e) (to e) sq)).2 = (zwg fr to bk wl wk m wy (N) (x) (tc, ec, bc, wc, ru, pl, pk, es)).2 := by rw [hk2]; exact hb1
              refine z_aload_n hX 0 dM_walk_37 rfl rfl ?_
              refine z_iload_n hX 3 dM_walk_38 rfl rfl ?_
              refine z_iconst hX (nI 3) dM_walk_39 rfl ?_
              refine z_iand hX dM_walk_40 ?_
              rw [zt3_eq]
              refine z_Vr hX (kM_pick l D cI cZ ax r (n) (m) (sl) (pr) (wy) (fo) (true) (lq) (kq) (rs) (sq) fr (zt3 xq) (by omega) hm (fun e he => by have := hfr e he; omega) hIq.2.1 hIq.2.2.1) mw_804 mw_806 mp_3_14 mw_9 mw_807 rfl rfl ⟨rfl, by decide, by decide, rfl⟩ (by decide) 0 rfl rfl rfl rfl (Nat.le_of_ble_eq_true rfl) dM_walk_41 (by decide) [0, 1] rfl rfl (fun v wn hv => ?_)
              obtain ⟨rfl, rfl⟩ := hv
              refine ⟨rfl, ?_⟩
              rw [hpe]
              refine z_istore hX 5 dM_walk_44 (by decide) ?_
              refine z_aload_n hX 0 dM_walk_46 rfl rfl ?_
              refine z_iload hX 5 dM_walk_47 rfl ?_
              refine z_Vy hX (kM_pass l D cI cZ ax r (n) (m) (sl) (pr) (wy) (fo) (true) (lq) (kq) (rs) (sq) to bk wl wk tq cq bq wq e he hm hn hIq.1 hto hwy hwl hwk hIq.2.2.2) mw_788 mw_790 mp_3_11 mw_9 mw_791 rfl rfl ⟨rfl, by decide, by decide, rfl⟩ (by decide) 0 rfl rfl rfl rfl (Nat.le_of_ble_eq_true rfl) dM_walk_49 (by decide) [0, 2, 3, 4, 5, 6, 7, 8, 9] rfl rfl [1] 10 (by decide) (by decide) (fun v wn hv => ?_)
              obtain ⟨rfl, rfl⟩ := hv
              refine ⟨[mO ax r (n) (m) (sl) (pr) (wy) (fo) (zpR (bk e) (to e) true) (to e) (zpK (bk e) kq) (rs) (zpE (bk e) (to e) sq), (r 2, .inl (cI, 24, .inl (aN (fr)))), (r 3, .inl (cI, 24, .inl (aN (to)))), (r 8, .inl (cZ, 24, .inl (aB (bk)))), (r 24, .inl (cI, 200, .inl (aN (wl)))), (r 25, .inl (cI, 3200, .inl (aN (wk)))), (r 31, .inl (cI, 16, .inl (aN (zpT (bk e) tq kq e)))), (r 32, .inl (cI, 24, .inl (aI (va_up cq e (cq e + 1))))), (r 33, .inl (cI, 12, .inl (aI (va_up bq (to e) (bq (to e) + 1))))), (r 34, .inl (cI, 200, .inl (aI (zpC (bk e) (to e) wl wk tq kq wy wq e))))], rfl, (And.intro ⟨_, rfl, rfl⟩ trivial), rfl, ?_⟩
              refine z_iload_n hX 3 dM_walk_52 rfl rfl ?_
              refine z_iconst hX (nI 2) dM_walk_53 rfl ?_
              refine z_iushr hX dM_walk_54 (v := zsr xq) rfl ?_
              refine z_istore_n hX 3 dM_walk_55 rfl (by decide) ?_
              refine z_iload hX 4 dM_walk_56 rfl ?_
              refine z_iconst hX (nI 1) dM_walk_58 rfl ?_
              refine z_iaddN hX dM_walk_59 ?_
              refine z_istore hX 4 dM_walk_60 (by decide) ?_
              refine z_goto hX 24 dM_walk_62 rfl ?_
              exact z_le2 hX (ih h27 (zsr xq) _ _ _ _ _ _ _ _ hI2 ha2 hb2) (And.intro rfl (And.intro rfl (And.intro rfl (And.intro rfl (And.intro rfl trivial)))))
        exact hloop 0 (Nat.zero_le _) x _ _ _ _ _ _ _ _ hI0 rfl rfl
      · have hE : ∀ N1, N1 ≤ 16 → nI N = nI N1 → ru = true → False := by
          intro N1 g1 g2 g3
          have e1 := (nI_eq (a := N) (b := N1) (by omega) (by omega)).mp g2
          omega
        refine z_iconst hX (-1) dM_walk_17 rfl ?_
        refine z_iret hX rfl rfl rfl rfl dM_walk_18 ?_
        exact ⟨fun _ => ⟨rfl, rfl⟩, fun N1 g1 g2 g3 => (hE N1 g1 g2 g3).elim⟩


set_option maxHeartbeats 400000 in
set_option maxRecDepth 100000 in
theorem kM_listWays (l : Launch) (D : va_G) (cI cZ : ClassId) (ax : Nat) (r : Nat → Nat) (n m : Nat) (sl : Bool) (pr wy fo : Nat) (ru : Bool) (pl pk : Nat) (rs es : Int) (isL : Nat → Bool) (lf lt : Nat → Nat) (rk : Nat → Nat) (tr : Nat → Nat) (hn : n ≤ 12) (hlk : ∀ l, l < 48 → isL l = true → lf l < n ∧ lt l < n ∧ rk (lt l) < rk (lf l)) (hout : ∀ b, b < n → b ≠ 1 → ∃ l, l < 48 ∧ isL l = true ∧ lf l = b) (wl wk : Nat → Nat) (hn2 : 2 ≤ n) (hrk0 : rk 0 ≤ 16) (I F : Nat → Nat → (Nat → Nat) → (Nat → Nat) → (Nat → Nat) → Prop) (hI0 : I 0 (zcm isL lf lt 16 (zb1 lt 0 tr) 0 tr).1 (zcm isL lf lt 16 (zb1 lt 0 tr) 0 tr).2 wl wk) (hIb : ∀ w f u L K, I w f u L K → w < 200 ∧ f ≤ 16 ∧ ∀ i, i < f → u i < 48 ∧ isL (u i) = true ∧ i + rk (lf (u i)) ≤ 16) (hIs : ∀ w f u L K, I w f u L K → ((zav isL lf lt f u).1 = true → I (w + 1) (zav isL lf lt f u).2.1 (zav isL lf lt f u).2.2 (va_up L w f) (sp_it (fun i K => va_up K (16 * w + i) (u i)) f K)) ∧ ((zav isL lf lt f u).1 = false → F (w + 1) (zav isL lf lt f u).2.1 (zav isL lf lt f u).2.2 (va_up L w f) (sp_it (fun i K => va_up K (16 * w + i) (u i)) f K))) : zM l yM_listWays wM_listWays rM_listWays D zCl (zTy cI cZ) zNW 0 0 [.ref ax] ([mO ax r (n) (m) (sl) (pr) (wy) (fo) (ru) (pl) (pk) (rs) (es), (r 13, .inl (cZ, 48, .inl (aB (isL)))), (r 14, .inl (cI, 48, .inl (aN (lf)))), (r 15, .inl (cI, 48, .inl (aN (lt)))), (r 27, .inl (cI, 16, .inl (aN (tr)))), (r 24, .inl (cI, 200, .inl (aN (wl)))), (r 25, .inl (cI, 3200, .inl (aN (wk))))]) (fun v wn => v = none ∧ ∃ w f u L K, F w f u L K ∧ wn = [mO ax r (n) (m) (sl) (pr) (w) (f) (ru) (pl) (pk) (rs) (es), (r 13, .inl (cZ, 48, .inl (aB (isL)))), (r 14, .inl (cI, 48, .inl (aN (lf)))), (r 15, .inl (cI, 48, .inl (aN (lt)))), (r 27, .inl (cI, 16, .inl (aN (u)))), (r 24, .inl (cI, 200, .inl (aN (L)))), (r 25, .inl (cI, 3200, .inl (aN (K))))]) := by
  refine z_met2 cM_listWays 3 none rfl rfl (Nat.le_of_ble_eq_true rfl) rfl (fun Z hX => ?_)
  show Z 0 0 0 [some (.ref ax), none, none] [] ([mO ax r (n) (m) (sl) (pr) (wy) (fo) (ru) (pl) (pk) (rs) (es), (r 13, .inl (cZ, 48, .inl (aB (isL)))), (r 14, .inl (cI, 48, .inl (aN (lf)))), (r 15, .inl (cI, 48, .inl (aN (lt)))), (r 27, .inl (cI, 16, .inl (aN (tr)))), (r 24, .inl (cI, 200, .inl (aN (wl)))), (r 25, .inl (cI, 3200, .inl (aN (wk))))])
  refine z_aload_n hX 0 dM_listWays_0 rfl rfl ?_
  refine z_iconst hX (nI 0) dM_listWays_1 rfl ?_
  refine z_put hX 0 23 rfl rfl (zu inM) tyM tyM_ok nmM (by decide) (List.mem_cons_of_mem _ mw_575) (Or.inl rfl) rfl rfl rfl (Nat.le_of_ble_eq_true rfl) dM_listWays_2 ?_
  refine z_aload_n hX 0 dM_listWays_5 rfl rfl ?_
  refine z_iconst hX (nI 0) dM_listWays_6 rfl ?_
  refine z_put hX 0 26 rfl rfl (zu inM) tyM tyM_ok nmM (by decide) (List.mem_cons_of_mem _ mw_578) (Or.inl rfl) rfl rfl rfl (Nat.le_of_ble_eq_true rfl) dM_listWays_7 ?_
  refine z_aload_n hX 0 dM_listWays_10 rfl rfl ?_
  refine z_Vy hX (kM_complete l D cI cZ ax r (n) (m) (sl) (pr) (0) (0) (ru) (pl) (pk) (rs) (es) isL lf lt rk tr hn hlk hout (by omega) (fun hc => absurd rfl hc) (show 0 < n by omega) (show 0 + rk 0 ≤ 16 by omega)) mw_739 mw_741 mp_3_6 mw_9 mw_742 rfl rfl ⟨rfl, by decide, by decide, rfl⟩ (by decide) 0 rfl rfl rfl rfl (Nat.le_of_ble_eq_true rfl) dM_listWays_11 (by decide) [0, 1, 2, 3, 4] rfl rfl [5, 6] 7 (by decide) (by decide) (fun v wn hv => ?_)
  obtain ⟨rfl, rfl⟩ := hv
  refine ⟨[mO ax r (n) (m) (sl) (pr) (0) ((zcm isL lf lt 16 (zb1 lt 0 tr) 0 tr).1) (ru) (pl) (pk) (rs) (es), (r 13, .inl (cZ, 48, .inl (aB (isL)))), (r 14, .inl (cI, 48, .inl (aN (lf)))), (r 15, .inl (cI, 48, .inl (aN (lt)))), (r 27, .inl (cI, 16, .inl (aN ((zcm isL lf lt 16 (zb1 lt 0 tr) 0 tr).2)))), (r 24, .inl (cI, 200, .inl (aN (wl)))), (r 25, .inl (cI, 3200, .inl (aN (wk))))], rfl, (And.intro ⟨_, rfl, rfl⟩ (And.intro ⟨_, rfl, rfl⟩ trivial)), rfl, ?_⟩
  refine z_iconst hX (bN true) dM_listWays_14 rfl ?_
  refine z_istore_n hX 1 dM_listWays_15 rfl (by decide) ?_
  have hdone : ∀ w f u L K, F w f u L K → Z 0 0 16 [some (.ref ax), some (.int (bN false)), none] [] ([mO ax r (n) (m) (sl) (pr) (w) (f) (ru) (pl) (pk) (rs) (es), (r 13, .inl (cZ, 48, .inl (aB (isL)))), (r 14, .inl (cI, 48, .inl (aN (lf)))), (r 15, .inl (cI, 48, .inl (aN (lt)))), (r 27, .inl (cI, 16, .inl (aN (u)))), (r 24, .inl (cI, 200, .inl (aN (L)))), (r 25, .inl (cI, 3200, .inl (aN (K))))]) := by
    intro w f u L K hF
    refine z_iload_n hX 1 dM_listWays_16 rfl rfl ?_
    refine z_if_eqB hX 97 dM_listWays_17 rfl (fun h17 => ?_) (fun h17 => ?_)
    · refine z_vret hX rfl rfl rfl dM_listWays_97 ?_
      exact ⟨rfl, w, f, u, L, K, hF, rfl⟩
    · cases h17
  have hloop : ∀ w, w ≤ 200 → ∀ f u L K, I w f u L K → Z 0 0 16 [some (.ref ax), some (.int (bN true)), none] [] ([mO ax r (n) (m) (sl) (pr) (w) (f) (ru) (pl) (pk) (rs) (es), (r 13, .inl (cZ, 48, .inl (aB (isL)))), (r 14, .inl (cI, 48, .inl (aN (lf)))), (r 15, .inl (cI, 48, .inl (aN (lt)))), (r 27, .inl (cI, 16, .inl (aN (u)))), (r 24, .inl (cI, 200, .inl (aN (L)))), (r 25, .inl (cI, 3200, .inl (aN (K))))]) := by
    refine zloop (P := fun w => ∀ f u L K, I w f u L K → Z 0 0 16 [some (.ref ax), some (.int (bN true)), none] [] ([mO ax r (n) (m) (sl) (pr) (w) (f) (ru) (pl) (pk) (rs) (es), (r 13, .inl (cZ, 48, .inl (aB (isL)))), (r 14, .inl (cI, 48, .inl (aN (lf)))), (r 15, .inl (cI, 48, .inl (aN (lt)))), (r 27, .inl (cI, 16, .inl (aN (u)))), (r 24, .inl (cI, 200, .inl (aN (L)))), (r 25, .inl (cI, 3200, .inl (aN (K))))])) 200 (fun w hw ih => ?_)
    intro f u L K hI
    have hIw := hIb _ _ _ _ _ hI
    refine z_iload_n hX 1 dM_listWays_16 rfl rfl ?_
    refine z_if_eqB hX 97 dM_listWays_17 rfl (fun h17 => ?_) (fun h17 => ?_)
    · cases h17
    · refine z_aload_n hX 0 dM_listWays_20 rfl rfl ?_
      refine z_get hX 0 23 rfl rfl (zu inM) (by decide) (List.mem_cons_of_mem _ mw_575) rfl dM_listWays_21 ?_
      refine z_sipush hX (nI 200) dM_listWays_24 (by decide) ?_
      refine z_icmp_geN hX 97 (by omega) (by omega) dM_listWays_27 rfl (fun h27 => ?_) (fun h27 => ?_)
      · exact absurd h27 (by omega)
      · refine z_aload_n hX 0 dM_listWays_30 rfl rfl ?_
        refine z_get hX 0 24 rfl rfl (zu inM) (by decide) (List.mem_cons_of_mem _ mw_576) rfl dM_listWays_31 ?_
        refine z_aload_n hX 0 dM_listWays_34 rfl rfl ?_
        refine z_get hX 0 23 rfl rfl (zu inM) (by decide) (List.mem_cons_of_mem _ mw_575) rfl dM_listWays_35 ?_
        refine z_aload_n hX 0 dM_listWays_38 rfl rfl ?_
        refine z_get hX 0 26 rfl rfl (zu inM) (by decide) (List.mem_cons_of_mem _ mw_578) rfl dM_listWays_39 ?_
        refine z_stN hX 5 0 _ _ rfl rfl rfl rfl (by omega) (by decide) dM_listWays_42 ?_
        refine z_iconst hX (nI 0) dM_listWays_43 rfl ?_
        refine z_istore_n hX 2 dM_listWays_44 rfl (by decide) ?_
        refine zloop (P := fun i => Z 0 0 45 [some (.ref ax), some (.int (bN true)), some (.int (nI i))] [] ([mO ax r (n) (m) (sl) (pr) (w) (f) (ru) (pl) (pk) (rs) (es), (r 13, .inl (cZ, 48, .inl (aB (isL)))), (r 14, .inl (cI, 48, .inl (aN (lf)))), (r 15, .inl (cI, 48, .inl (aN (lt)))), (r 27, .inl (cI, 16, .inl (aN (u)))), (r 24, .inl (cI, 200, .inl (aN (va_up L w f)))), (r 25, .inl (cI, 3200, .inl (aN (sp_it (fun i K => va_up K (16 * w + i) (u i)) i K))))])) f (fun i hi ih2 => ?_) 0 (Nat.zero_le _)
        refine z_iload_n hX 2 dM_listWays_45 rfl rfl ?_
        refine z_aload_n hX 0 dM_listWays_46 rfl rfl ?_
        refine z_get hX 0 26 rfl rfl (zu inM) (by decide) (List.mem_cons_of_mem _ mw_578) rfl dM_listWays_47 ?_
        refine z_icmp_geN hX 79 (by omega) (by omega) dM_listWays_50 rfl (fun h50 => ?_) (fun h50 => ?_)
        · have hif : i = f := by omega
          rw [hif]
          refine z_aload_n hX 0 dM_listWays_79 rfl rfl ?_
          refine z_aload_n hX 0 dM_listWays_80 rfl rfl ?_
          refine z_get hX 0 23 rfl rfl (zu inM) (by decide) (List.mem_cons_of_mem _ mw_575) rfl dM_listWays_81 ?_
          refine z_iconst hX (nI 1) dM_listWays_84 rfl ?_
          refine z_iaddN hX dM_listWays_85 ?_
          refine z_put hX 0 23 rfl rfl (zu inM) tyM tyM_ok nmM (by decide) (List.mem_cons_of_mem _ mw_575) (Or.inl rfl) rfl rfl rfl (Nat.le_of_ble_eq_true rfl) dM_listWays_86 ?_
          refine z_aload_n hX 0 dM_listWays_89 rfl rfl ?_
          refine z_Vy hX (kM_advance l D cI cZ ax r (n) (m) (sl) (pr) (w + 1) (f) (ru) (pl) (pk) (rs) (es) isL lf lt rk u hn hlk hout hIw.2.1 hIw.2.2) mw_747 mw_749 mp_3_8 mw_9 mw_750 rfl rfl ⟨rfl, by decide, by decide, rfl⟩ (by decide) 0 rfl rfl rfl rfl (Nat.le_of_ble_eq_true rfl) dM_listWays_90 (by decide) [0, 1, 2, 3, 4] rfl rfl [5, 6] 7 (by decide) (by decide) (fun v wn hv => ?_)
          obtain ⟨rfl, rfl⟩ := hv
          refine ⟨[mO ax r (n) (m) (sl) (pr) (w + 1) ((zav isL lf lt f u).2.1) (ru) (pl) (pk) (rs) (es), (r 13, .inl (cZ, 48, .inl (aB (isL)))), (r 14, .inl (cI, 48, .inl (aN (lf)))), (r 15, .inl (cI, 48, .inl (aN (lt)))), (r 27, .inl (cI, 16, .inl (aN ((zav isL lf lt f u).2.2)))), (r 24, .inl (cI, 200, .inl (aN (va_up L w f)))), (r 25, .inl (cI, 3200, .inl (aN (sp_it (fun i K => va_up K (16 * w + i) (u i)) f K))))], rfl, (And.intro ⟨_, rfl, rfl⟩ (And.intro ⟨_, rfl, rfl⟩ trivial)), rfl, ?_⟩
          refine z_istore_n hX 1 dM_listWays_93 rfl (by decide) ?_
          refine z_goto hX 16 dM_listWays_94 rfl ?_
          have hz := hIs w f u L K hI
          cases hb : (zav isL lf lt f u).1 with
          | true => exact z_le2 hX (ih (by omega) _ _ _ _ (hz.1 hb)) (And.intro rfl (And.intro rfl trivial))
          | false => exact z_le2 hX (hdone _ _ _ _ _ (hz.2 hb)) (And.intro rfl (And.intro rfl trivial))
        · refine z_aload_n hX 0 dM_listWays_53 rfl rfl ?_
          refine z_get hX 0 25 rfl rfl (zu inM) (by decide) (List.mem_cons_of_mem _ mw_577) rfl dM_listWays_54 ?_
          refine z_bipush hX (nI 16) dM_listWays_57 (by decide) ?_
          refine z_aload_n hX 0 dM_listWays_59 rfl rfl ?_
          refine z_get hX 0 23 rfl rfl (zu inM) (by decide) (List.mem_cons_of_mem _ mw_575) rfl dM_listWays_60 ?_
          refine z_imul hX dM_listWays_63 ?_
          rw [nI_mul]
          refine z_iload_n hX 2 dM_listWays_64 rfl rfl ?_
          refine z_iaddN hX dM_listWays_65 ?_
          refine z_aload_n hX 0 dM_listWays_66 rfl rfl ?_
          refine z_get hX 0 27 rfl rfl (zu inM) (by decide) (List.mem_cons_of_mem _ mw_579) rfl dM_listWays_67 ?_
          refine z_iload_n hX 2 dM_listWays_70 rfl rfl ?_
          refine z_ldN hX 4 0 _ rfl rfl rfl (by omega) (by decide) dM_listWays_71 ?_
          refine z_stN hX 6 0 _ _ rfl rfl rfl rfl (by omega) (by decide) dM_listWays_72 ?_
          refine z_iinc hX 2 dM_listWays_73 rfl (zi_1 _) (by decide) ?_
          refine z_goto hX 45 dM_listWays_76 rfl ?_
          exact ih2 (by omega)
  exact hloop 0 (Nat.zero_le _) _ _ _ _ hI0

