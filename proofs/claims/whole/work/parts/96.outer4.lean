/-! the outer object: take, walk, covered -/
theorem kA_pass2 (l : Launch) (D : va_G) (cI cZ : ClassId) (ax g s lo tr lk ct : Nat) (sd : Bool) (wh : Option Nat) (sm : Int) (f t n m : Nat) (fr to : Nat → Nat) (ib fi sk lu : Nat) (Mt Op : Nat → Bool) (h : Nat) (bk : Nat → Bool) (fin st lq : Nat → Nat) (dp od : Nat) (dep ord : Nat → Nat) (hs gr : Nat) (has : Nat → Bool) (grp : Nat → Nat) (kt rw vl sv bs ko : Nat) (R V SV : Nat → Nat) (B : Nat → Int) (o2 : Nat → Nat) (wy : Nat) (hs2 gr2 : Nat) (has2 : Nat → Bool) (grp2 : Nat → Nat) (bh ht sp cp : Nat) (Bh : Nat → Nat → Bool) (H St Cm : Nat → Int) (e : Nat) (he : e < m) (hwy : wy ≤ 200) (hn : 2 ≤ n ∧ n ≤ 12) (hm : m ≤ 24) (hok : ∀ e, e < m → fr e < n ∧ to e < n) : zM l yA_pass wA_pass rA_pass D zCl (zTy cI cZ) zNW 0 0 [.ref ax, .int (nI e)] (wA ax g s lo tr lk ct (sd) (wh) (sm) ++ wG cI g f t n m fr to ++ wS cI cZ s g ib fi sk lu Mt Op h bk fin st lq ++ wO cI lo g s dp od dep ord ++ wT cI cZ tr g hs gr has grp ++ wK cI lk g s kt rw vl sv bs ko R V SV B o2 wy ++ wT cI cZ kt g hs2 gr2 has2 grp2 ++ wC cI ct g tr bh ht sp cp Bh (H) (St) (Cm)) (fun v wn => v = none ∧ wn = wA ax g s lo tr lk ct (sd) (zcE to bk e) (zcS fr to bk V SV B e (sm)) ++ wG cI g f t n m fr to ++ wS cI cZ s g ib fi sk lu Mt Op h bk fin st lq ++ wO cI lo g s dp od dep ord ++ wT cI cZ tr g hs gr has grp ++ wK cI lk g s kt rw vl sv bs ko R V SV B o2 wy ++ wT cI cZ kt g hs2 gr2 has2 grp2 ++ wC cI ct g tr bh ht sp cp Bh (zcH has e (H)) (St) (zcC fr to bk V B sd wy e (sm) (Cm))) := by
  refine z_weak (fun v wn hE => ?_) (kA_pass l D cI cZ ax g s lo tr lk ct sd wh sm f t n m fr to ib fi sk lu Mt Op h bk fin st lq dp od dep ord hs gr has grp kt rw vl sv bs ko R V SV B o2 wy hs2 gr2 has2 grp2 bh ht sp cp Bh H St Cm e he hwy hn hm hok)
  obtain ⟨h1, h2⟩ := hE
  refine ⟨h1, h2.trans ?_⟩
  have hH : zcH has e H = if has e = true then H else va_up H e (H e + 1) := rfl
  cases hbk : bk e with
  | true =>
    rw [if_pos rfl, show zcE to bk e = some (to e) from if_pos hbk, show zcS fr to bk V SV B e sm = SV e + B 0 - B (to e) from if_pos hbk, show zcC fr to bk V B sd wy e sm Cm = zcw sd wy (sm + (V e + B (fr e) - B (ztg bk to e))) Cm from if_pos (Or.inl hbk), hH]
  | false =>
    rw [if_neg (by decide)]
    by_cases ht1 : to e = 1
    · rw [if_pos ht1, show zcE to bk e = none from (if_neg (fun hc => zbf hc hbk)).trans (if_pos ht1), show zcS fr to bk V SV B e sm = 0 from (if_neg (fun hc => zbf hc hbk)).trans (if_pos ht1), show zcC fr to bk V B sd wy e sm Cm = zcw sd wy (sm + (V e + B (fr e) - B (ztg bk to e))) Cm from if_pos (Or.inr ht1), hH]
    · rw [if_neg ht1, show zcE to bk e = some (to e) from (if_neg (fun hc => zbf hc hbk)).trans (if_neg ht1), show zcS fr to bk V SV B e sm = sm + (V e + B (fr e) - B (ztg bk to e)) from (if_neg (fun hc => zbf hc hbk)).trans (if_neg ht1), show zcC fr to bk V B sd wy e sm Cm = Cm from if_neg (fun hc => hc.elim (fun a => zbf a hbk) ht1), hH]
set_option maxHeartbeats 400000 in
set_option maxRecDepth 100000 in
theorem kA_take (l : Launch) (D : va_G) (cI cZ : ClassId) (ax g s lo tr lk ct : Nat) (sd : Bool) (wh : Option Nat) (sm : Int) (f t n m : Nat) (fr to : Nat → Nat) (ib fi sk lu : Nat) (Mt Op : Nat → Bool) (h : Nat) (bk : Nat → Bool) (fin st lq : Nat → Nat) (dp od : Nat) (dep ord : Nat → Nat) (hs gr : Nat) (has : Nat → Bool) (grp : Nat → Nat) (kt rw vl sv bs ko : Nat) (R V SV : Nat → Nat) (B : Nat → Int) (o2 : Nat → Nat) (wy : Nat) (hs2 gr2 : Nat) (has2 : Nat → Bool) (grp2 : Nat → Nat) (bh ht sp cp : Nat) (Bh : Nat → Nat → Bool) (H St Cm : Nat → Int) (x : Int32) (hwy : ∀ p, wh = some p → wy ≤ 200) (hwh : ∀ p, wh = some p → p < n) (hn : 2 ≤ n ∧ n ≤ 12) (hm : m ≤ 24) (hok : ∀ e, e < m → fr e < n ∧ to e < n) : zM l yA_take wA_take rA_take D zCl (zTy cI cZ) zNW 0 0 [.ref ax, .int x] (wA ax g s lo tr lk ct (sd) (wh) (sm) ++ wG cI g f t n m fr to ++ wS cI cZ s g ib fi sk lu Mt Op h bk fin st lq ++ wO cI lo g s dp od dep ord ++ wT cI cZ tr g hs gr has grp ++ wK cI lk g s kt rw vl sv bs ko R V SV B o2 wy ++ wT cI cZ kt g hs2 gr2 has2 grp2 ++ wC cI ct g tr bh ht sp cp Bh (H) (St) (Cm)) (fun v wn => ((∀ i p, i < m → x = nI i → wh = some p → fr i ≠ p) → v = some (.int (-1)) ∧ wn = wA ax g s lo tr lk ct (sd) (wh) (sm) ++ wG cI g f t n m fr to ++ wS cI cZ s g ib fi sk lu Mt Op h bk fin st lq ++ wO cI lo g s dp od dep ord ++ wT cI cZ tr g hs gr has grp ++ wK cI lk g s kt rw vl sv bs ko R V SV B o2 wy ++ wT cI cZ kt g hs2 gr2 has2 grp2 ++ wC cI ct g tr bh ht sp cp Bh (H) (St) (Cm)) ∧ ∀ i p, i < m → x = nI i → wh = some p → fr i = p → v = some (.int (nI (to i))) ∧ wn = wA ax g s lo tr lk ct (sd) (zcE to bk i) (zcS fr to bk V SV B i (sm)) ++ wG cI g f t n m fr to ++ wS cI cZ s g ib fi sk lu Mt Op h bk fin st lq ++ wO cI lo g s dp od dep ord ++ wT cI cZ tr g hs gr has grp ++ wK cI lk g s kt rw vl sv bs ko R V SV B o2 wy ++ wT cI cZ kt g hs2 gr2 has2 grp2 ++ wC cI ct g tr bh ht sp cp Bh (zcH has i (H)) (St) (zcC fr to bk V B sd wy i (sm) (Cm))) := by
  refine z_met2 cA_take 2 (some .int) rfl rfl (Nat.le_of_ble_eq_true rfl) rfl (fun Z hX => ?_)
  show Z 0 0 0 [some (.ref ax), some (.int x)] [] (wA ax g s lo tr lk ct (sd) (wh) (sm) ++ wG cI g f t n m fr to ++ wS cI cZ s g ib fi sk lu Mt Op h bk fin st lq ++ wO cI lo g s dp od dep ord ++ wT cI cZ tr g hs gr has grp ++ wK cI lk g s kt rw vl sv bs ko R V SV B o2 wy ++ wT cI cZ kt g hs2 gr2 has2 grp2 ++ wC cI ct g tr bh ht sp cp Bh (H) (St) (Cm))
  refine z_aload_n hX 0 dA_take_0 rfl rfl ?_
  refine z_Vr hX (kA_isUnderWay l D cI cZ ax g s lo tr lk ct sd wh sm (fun p hp => by have := hwh p hp; omega)) mw_410 mw_412 mp_1_13 mw_1 mw_413 rfl rfl ⟨rfl, by decide, by decide, rfl⟩ (by decide) 0 rfl rfl rfl rfl (Nat.le_of_ble_eq_true rfl) dA_take_1 (by decide) [0] rfl rfl (fun v wn hv => ?_)
  obtain ⟨rfl, rfl⟩ := hv
  refine ⟨rfl, ?_⟩
  refine z_if_eqB hX 34 dA_take_4 rfl (fun h4 => ?_) (fun h4 => ?_)
  · have hw0 := zun_f h4
    have hE : ∀ i p, i < m → x = nI i → wh = some p → fr i = p → False := fun i p _ _ g3 _ => by rw [hw0] at g3; cases g3
    refine z_iconst hX (-1) dA_take_34 rfl ?_
    refine z_iret hX rfl rfl rfl rfl dA_take_35 ?_
    exact ⟨fun _ => ⟨rfl, rfl⟩, fun i2 p2 g1 g2 g3 g4 => (hE i2 p2 g1 g2 g3 g4).elim⟩
  · obtain ⟨p, rfl⟩ := zun_t h4
    have hp := hwh p rfl
    refine z_aload_n hX 0 dA_take_7 rfl rfl ?_
    refine z_get hX 0 0 rfl rfl (zu inA) (by decide) (List.mem_cons_of_mem _ mw_207) rfl dA_take_8 ?_
    refine z_iload_n hX 1 dA_take_11 rfl rfl ?_
    refine z_Vr hX (kG_hasEdge l D cI cZ g f t n m fr to x) mw_373 mw_374 mw_375 mw_2 mw_376 rfl rfl ⟨rfl, by decide, by decide, rfl⟩ (by decide) 1 rfl rfl rfl rfl (Nat.le_of_ble_eq_true rfl) dA_take_12 (by decide) [1, 2, 3] rfl rfl (fun v wn hv => ?_)
    obtain ⟨rfl, rfl⟩ := hv
    refine ⟨rfl, ?_⟩
    refine z_if_eqB hX 34 dA_take_15 rfl (fun h15 => ?_) (fun h15 => ?_)
    · have hE : ∀ i p2, i < m → x = nI i → some p = some p2 → fr i = p2 → False := fun i p2 g1 g2 _ _ => by rw [g2, zin_nI g1 (by omega)] at h15; cases h15
      refine z_iconst hX (-1) dA_take_34 rfl ?_
      refine z_iret hX rfl rfl rfl rfl dA_take_35 ?_
      exact ⟨fun _ => ⟨rfl, rfl⟩, fun i2 p2 g1 g2 g3 g4 => (hE i2 p2 g1 g2 g3 g4).elim⟩
    · obtain ⟨i, hi, rfl⟩ := zin_of (by omega) h15
      have hoki := hok i hi
      refine z_aload_n hX 0 dA_take_18 rfl rfl ?_
      refine z_get hX 0 0 rfl rfl (zu inA) (by decide) (List.mem_cons_of_mem _ mw_207) rfl dA_take_19 ?_
      refine z_get hX 1 1 rfl rfl (zu inG) (by decide) (List.mem_cons_of_mem _ mw_42) rfl dA_take_22 ?_
      refine z_iload_n hX 1 dA_take_25 rfl rfl ?_
      refine z_ldN hX 2 0 _ rfl rfl rfl (by omega) (by decide) dA_take_26 ?_
      refine z_aload_n hX 0 dA_take_27 rfl rfl ?_
      refine z_get hX 0 7 rfl rfl (zu inA) (by decide) (List.mem_cons_of_mem _ mw_214) rfl dA_take_28 ?_
      refine z_icmp_eqN hX 36 (by omega) (by omega) dA_take_31 rfl (fun h31 => ?_) (fun h31 => ?_)
      · refine z_aload_n hX 0 dA_take_36 rfl rfl ?_
        refine z_iload_n hX 1 dA_take_37 rfl rfl ?_
        refine z_Vy hX (kA_pass2 l D cI cZ (ax) (g) (s) (lo) (tr) (lk) (ct) (sd) (some p) (sm) (f) (t) (n) (m) (fr) (to) (ib) (fi) (sk) (lu) (Mt) (Op) (h) (bk) (fin) (st) (lq) (dp) (od) (dep) (ord) (hs) (gr) (has) (grp) (kt) (rw) (vl) (sv) (bs) (ko) (R) (V) (SV) (B) (o2) (wy) (hs2) (gr2) (has2) (grp2) (bh) (ht) (sp) (cp) (Bh) (H) (St) (Cm) i hi (hwy p rfl) hn hm hok) mw_418 mw_420 mp_1_14 mw_1 mw_421 rfl rfl ⟨rfl, by decide, by decide, rfl⟩ (by decide) 0 rfl rfl rfl rfl (Nat.le_of_ble_eq_true rfl) dA_take_38 (by decide) [0, 1, 2, 3, 4, 5, 6, 7, 8, 9, 10, 11, 12, 13, 14, 15, 16, 17, 18, 19, 20, 21, 22, 23, 24, 25, 26, 27, 28] rfl rfl [] 29 (by decide) (by decide) (fun v wn hv => ?_)
        obtain ⟨rfl, rfl⟩ := hv
        refine ⟨wA ax g s lo tr lk ct (sd) (zcE to bk i) (zcS fr to bk V SV B i (sm)) ++ wG cI g f t n m fr to ++ wS cI cZ s g ib fi sk lu Mt Op h bk fin st lq ++ wO cI lo g s dp od dep ord ++ wT cI cZ tr g hs gr has grp ++ wK cI lk g s kt rw vl sv bs ko R V SV B o2 wy ++ wT cI cZ kt g hs2 gr2 has2 grp2 ++ wC cI ct g tr bh ht sp cp Bh (zcH has i (H)) (St) (zcC fr to bk V B sd wy i (sm) (Cm)), rfl, trivial, rfl, ?_⟩
        refine z_aload_n hX 0 dA_take_41 rfl rfl ?_
        refine z_get hX 0 0 rfl rfl (zu inA) (by decide) (List.mem_cons_of_mem _ mw_207) rfl dA_take_42 ?_
        refine z_get hX 1 2 rfl rfl (zu inG) (by decide) (List.mem_cons_of_mem _ mw_49) rfl dA_take_45 ?_
        refine z_iload_n hX 1 dA_take_48 rfl rfl ?_
        refine z_ldN hX 3 0 _ rfl rfl rfl (by omega) (by decide) dA_take_49 ?_
        refine z_iret hX rfl rfl rfl rfl dA_take_50 ?_
        refine ⟨fun hc => absurd h31 (hc i p hi rfl rfl), fun i2 p2 g1 g2 g3 g4 => ?_⟩
        have e1 := (nI_eq (a := i) (b := i2) (by omega) (by omega)).mp g2
        subst e1
        exact ⟨rfl, rfl⟩
      · have hE : ∀ i2 p2, i2 < m → nI i = nI i2 → some p = some p2 → fr i2 = p2 → False := fun i2 p2 g1 g2 g3 g4 => by
          have e1 := (nI_eq (a := i) (b := i2) (by omega) (by omega)).mp g2
          have e2 := Option.some.inj g3
          subst e1
          subst e2
          exact h31 g4
        refine z_iconst hX (-1) dA_take_34 rfl ?_
        refine z_iret hX rfl rfl rfl rfl dA_take_35 ?_
        exact ⟨fun _ => ⟨rfl, rfl⟩, fun i2 p2 g1 g2 g3 g4 => (hE i2 p2 g1 g2 g3 g4).elim⟩

set_option maxHeartbeats 400000 in
set_option maxRecDepth 100000 in
theorem kA_walk (l : Launch) (D : va_G) (cI cZ : ClassId) (ax g s lo tr lk ct : Nat) (sd : Bool) (wh : Option Nat) (sm : Int) (f t n m : Nat) (fr to : Nat → Nat) (ib fi sk lu : Nat) (Mt Op : Nat → Bool) (h : Nat) (bk : Nat → Bool) (fin st lq : Nat → Nat) (dp od : Nat) (dep ord : Nat → Nat) (hs gr : Nat) (has : Nat → Bool) (grp : Nat → Nat) (kt rw vl sv bs ko : Nat) (R V SV : Nat → Nat) (B : Nat → Int) (o2 : Nat → Nat) (wy : Nat) (hs2 gr2 : Nat) (has2 : Nat → Bool) (grp2 : Nat → Nat) (bh ht sp cp : Nat) (Bh : Nat → Nat → Bool) (H St Cm : Nat → Int) (x y : Int32) (hn : 2 ≤ n ∧ n ≤ 12) (hm : m ≤ 24) (hok : ∀ e, e < m → fr e < n ∧ to e < n) (I : zcT → Prop) (hI0 : I (wh, sm, H, Cm)) (hIs : ∀ p mq Hq cq e, I (some p, mq, Hq, cq) → e < m → fr e = p → I (zcE to bk e, zcS fr to bk V SV B e (mq), zcH has e (Hq), zcC fr to bk V B sd wy e (mq) (cq))) (hIb : ∀ p mq Hq cq, I (some p, mq, Hq, cq) → p < n ∧ 0 < sg_deg fr p m ∧ wy ≤ 200) : zM l yA_walk wA_walk rA_walk D zCl (zTy cI cZ) zNW 0 0 [.ref ax, .int x, .int y] (wA ax g s lo tr lk ct (sd) (wh) (sm) ++ wG cI g f t n m fr to ++ wS cI cZ s g ib fi sk lu Mt Op h bk fin st lq ++ wO cI lo g s dp od dep ord ++ wT cI cZ tr g hs gr has grp ++ wK cI lk g s kt rw vl sv bs ko R V SV B o2 wy ++ wT cI cZ kt g hs2 gr2 has2 grp2 ++ wC cI ct g tr bh ht sp cp Bh (H) (St) (Cm)) (fun v wn => ((∀ N, N ≤ 16 → y = nI N → zun wh = true → False) → v = some (.int (-1)) ∧ wn = wA ax g s lo tr lk ct (sd) (wh) (sm) ++ wG cI g f t n m fr to ++ wS cI cZ s g ib fi sk lu Mt Op h bk fin st lq ++ wO cI lo g s dp od dep ord ++ wT cI cZ tr g hs gr has grp ++ wK cI lk g s kt rw vl sv bs ko R V SV B o2 wy ++ wT cI cZ kt g hs2 gr2 has2 grp2 ++ wC cI ct g tr bh ht sp cp Bh (H) (St) (Cm)) ∧ ∀ N, N ≤ 16 → y = nI N → zun wh = true → ∃ wq mq Hq cq, (zcg fr to bk has V SV B sd m wy (N) (x) (wh, sm, H, Cm)).2 = (wq, mq, Hq, cq) ∧ v = some (.int (nI (zcg fr to bk has V SV B sd m wy (N) (x) (wh, sm, H, Cm)).1)) ∧ wn = wA ax g s lo tr lk ct (sd) (wq) (mq) ++ wG cI g f t n m fr to ++ wS cI cZ s g ib fi sk lu Mt Op h bk fin st lq ++ wO cI lo g s dp od dep ord ++ wT cI cZ tr g hs gr has grp ++ wK cI lk g s kt rw vl sv bs ko R V SV B o2 wy ++ wT cI cZ kt g hs2 gr2 has2 grp2 ++ wC cI ct g tr bh ht sp cp Bh (Hq) (St) (cq)) := by
  refine z_met2 cA_walk 6 (some .int) rfl rfl (Nat.le_of_ble_eq_true rfl) rfl (fun Z hX => ?_)
  show Z 0 0 0 [some (.ref ax), some (.int x), some (.int y), none, none, none] [] (wA ax g s lo tr lk ct (sd) (wh) (sm) ++ wG cI g f t n m fr to ++ wS cI cZ s g ib fi sk lu Mt Op h bk fin st lq ++ wO cI lo g s dp od dep ord ++ wT cI cZ tr g hs gr has grp ++ wK cI lk g s kt rw vl sv bs ko R V SV B o2 wy ++ wT cI cZ kt g hs2 gr2 has2 grp2 ++ wC cI ct g tr bh ht sp cp Bh (H) (St) (Cm))
  refine z_aload_n hX 0 dA_walk_0 rfl rfl ?_
  refine z_Vr hX (kA_isUnderWay l D cI cZ ax g s lo tr lk ct sd wh sm (fun p hp => by subst hp; have := hIb _ _ _ _ hI0; omega)) mw_410 mw_412 mp_1_13 mw_1 mw_413 rfl rfl ⟨rfl, by decide, by decide, rfl⟩ (by decide) 0 rfl rfl rfl rfl (Nat.le_of_ble_eq_true rfl) dA_walk_1 (by decide) [0] rfl rfl (fun v wn hv => ?_)
  obtain ⟨rfl, rfl⟩ := hv
  refine ⟨rfl, ?_⟩
  refine z_if_eqB hX 17 dA_walk_4 rfl (fun h4 => ?_) (fun h4 => ?_)
  · have hE : ∀ N1, N1 ≤ 16 → y = nI N1 → zun wh = true → False := by
      intro N g1 g2 g3
      exact zbf g3 h4
    refine z_iconst hX (-1) dA_walk_17 rfl ?_
    refine z_iret hX rfl rfl rfl rfl dA_walk_18 ?_
    exact ⟨fun _ => ⟨rfl, rfl⟩, fun N1 g1 g2 g3 => (hE N1 g1 g2 g3).elim⟩
  · refine z_iload_n hX 2 dA_walk_7 rfl rfl ?_
    refine z_if_lt hX 17 dA_walk_8 rfl (fun h8 => ?_) (fun h8 => ?_)
    · have hE : ∀ N1, N1 ≤ 16 → y = nI N1 → zun wh = true → False := by
        intro N g1 g2 g3
        rw [g2] at h8
        exact absurd h8 (Int32.not_lt.mpr (zi_ge0 (by omega)))
      refine z_iconst hX (-1) dA_walk_17 rfl ?_
      refine z_iret hX rfl rfl rfl rfl dA_walk_18 ?_
      exact ⟨fun _ => ⟨rfl, rfl⟩, fun N1 g1 g2 g3 => (hE N1 g1 g2 g3).elim⟩
    · obtain ⟨N, hN, rfl⟩ := zn_of h8
      refine z_iload_n hX 2 dA_walk_11 rfl rfl ?_
      refine z_bipush hX (nI 16) dA_walk_12 (by decide) ?_
      refine z_icmp_leN hX 19 (by omega) (by omega) dA_walk_14 rfl (fun h14 => ?_) (fun h14 => ?_)
      · refine z_iload_n hX 1 dA_walk_19 rfl rfl ?_
        refine z_istore_n hX 3 dA_walk_20 rfl (by decide) ?_
        refine z_iconst hX (nI 0) dA_walk_21 rfl ?_
        refine z_istore hX 4 dA_walk_22 (by decide) ?_
        have hloop : ∀ d, d ≤ N → ∀ xq wq mq Hq cq, I (wq, mq, Hq, cq) → (zcg fr to bk has V SV B sd m wy (N - d) (xq) (wq, mq, Hq, cq)).1 + d = (zcg fr to bk has V SV B sd m wy (N) (x) (wh, sm, H, Cm)).1 → (zcg fr to bk has V SV B sd m wy (N - d) (xq) (wq, mq, Hq, cq)).2 = (zcg fr to bk has V SV B sd m wy (N) (x) (wh, sm, H, Cm)).2 → Z 0 0 24 [some (.ref ax), some (.int x), some (.int (nI N)), some (.int xq), some (.int (nI d)), none] [] (wA ax g s lo tr lk ct (sd) (wq) (mq) ++ wG cI g f t n m fr to ++ wS cI cZ s g ib fi sk lu Mt Op h bk fin st lq ++ wO cI lo g s dp od dep ord ++ wT cI cZ tr g hs gr has grp ++ wK cI lk g s kt rw vl sv bs ko R V SV B o2 wy ++ wT cI cZ kt g hs2 gr2 has2 grp2 ++ wC cI ct g tr bh ht sp cp Bh (Hq) (St) (cq)) := by
          refine zloop (P := fun d => ∀ xq wq mq Hq cq, I (wq, mq, Hq, cq) → (zcg fr to bk has V SV B sd m wy (N - d) (xq) (wq, mq, Hq, cq)).1 + d = (zcg fr to bk has V SV B sd m wy (N) (x) (wh, sm, H, Cm)).1 → (zcg fr to bk has V SV B sd m wy (N - d) (xq) (wq, mq, Hq, cq)).2 = (zcg fr to bk has V SV B sd m wy (N) (x) (wh, sm, H, Cm)).2 → Z 0 0 24 [some (.ref ax), some (.int x), some (.int (nI N)), some (.int xq), some (.int (nI d)), none] [] (wA ax g s lo tr lk ct (sd) (wq) (mq) ++ wG cI g f t n m fr to ++ wS cI cZ s g ib fi sk lu Mt Op h bk fin st lq ++ wO cI lo g s dp od dep ord ++ wT cI cZ tr g hs gr has grp ++ wK cI lk g s kt rw vl sv bs ko R V SV B o2 wy ++ wT cI cZ kt g hs2 gr2 has2 grp2 ++ wC cI ct g tr bh ht sp cp Bh (Hq) (St) (cq))) N (fun d hd ih => ?_)
          intro xq wq mq Hq cq hI ha hb
          refine z_iload hX 4 dA_walk_24 rfl ?_
          refine z_iload_n hX 2 dA_walk_26 rfl rfl ?_
          refine z_icmp_geN hX 81 (by omega) (by omega) dA_walk_27 rfl (fun h27 => ?_) (fun h27 => ?_)
          · have hdN : d = N := by omega
            have hz : zcg fr to bk has V SV B sd m wy (N - d) (xq) (wq, mq, Hq, cq) = (0, (wq, mq, Hq, cq)) := by rw [show N - d = 0 by omega]; rfl
            refine z_iload_n hX 2 dA_walk_81 rfl rfl ?_
            refine z_iret hX rfl rfl rfl rfl dA_walk_82 ?_
            rw [hz] at ha hb
            have ha3 : 0 + d = (zcg fr to bk has V SV B sd m wy (N) (x) (wh, sm, H, Cm)).1 := ha
            refine ⟨fun hc => (hc N h14 rfl h4).elim, fun N1 g1 g2 g3 => ?_⟩
            have e1 := (nI_eq (a := N) (b := N1) (by omega) (by omega)).mp g2
            subst e1
            exact ⟨_, _, _, _, hb.symm, by rw [← ha3, Nat.zero_add, hdN], rfl⟩
          · refine z_aload_n hX 0 dA_walk_30 rfl rfl ?_
            refine z_Vr hX (kA_isUnderWay l D cI cZ ax g s lo tr lk ct sd wq mq (fun p hp => by subst hp; have := hIb _ _ _ _ hI; omega)) mw_410 mw_412 mp_1_13 mw_1 mw_413 rfl rfl ⟨rfl, by decide, by decide, rfl⟩ (by decide) 0 rfl rfl rfl rfl (Nat.le_of_ble_eq_true rfl) dA_walk_31 (by decide) [0] rfl rfl (fun v wn hv => ?_)
            obtain ⟨rfl, rfl⟩ := hv
            refine ⟨rfl, ?_⟩
            refine z_if_eqB hX 54 dA_walk_34 rfl (fun h34 => ?_) (fun h34 => ?_)
            · have hwn := zun_f h34
              subst hwn
              have hz : zcg fr to bk has V SV B sd m wy (N - d) (xq) (none, mq, Hq, cq) = (0, (none, mq, Hq, cq)) := zcg_none
              refine z_iconst hX (-1) dA_walk_54 rfl ?_
              refine z_istore hX 5 dA_walk_55 (by decide) ?_
              refine z_iload hX 5 dA_walk_57 rfl ?_
              refine z_if_ge hX 65 dA_walk_59 rfl (fun h59 => ?_) (fun h59 => ?_)
              · exact absurd h59 (by decide)
              · refine z_iload hX 4 dA_walk_62 rfl ?_
                refine z_iret hX rfl rfl rfl rfl dA_walk_64 ?_
                rw [hz] at ha hb
                have ha3 : 0 + d = (zcg fr to bk has V SV B sd m wy (N) (x) (wh, sm, H, Cm)).1 := ha
                refine ⟨fun hc => (hc N h14 rfl h4).elim, fun N1 g1 g2 g3 => ?_⟩
                have e1 := (nI_eq (a := N) (b := N1) (by omega) (by omega)).mp g2
                subst e1
                exact ⟨_, _, _, _, hb.symm, by rw [← ha3, Nat.zero_add], rfl⟩
            · obtain ⟨p, rfl⟩ := zun_t h34
              have hIq := hIb _ _ _ _ hI
              have hz3 := zt3_lt xq
              obtain ⟨e, hpe⟩ : ∃ e, sg_pk fr p m (zt3 xq % sg_deg fr p m) = e := ⟨_, rfl⟩
              obtain ⟨p1, p2, p3⟩ := sg_pk_spec (fr := fr) (b := p) (m := m) (zt3 xq % sg_deg fr p m) (Nat.mod_lt _ hIq.2.1)
              rw [hpe] at p1 p2
              have he : e < m := p1
              have hzp : zpick fr p m (zt3 xq) = nI e := by rw [← hpe]; exact if_neg (by omega)
              have hI2 : I (zcE to bk e, zcS fr to bk V SV B e (mq), zcH has e (Hq), zcC fr to bk V B sd wy e (mq) (cq)) := hIs _ _ _ _ e hI he p2
              obtain ⟨k1, hk1⟩ : ∃ k1, N - d = k1 + 1 := ⟨N - d - 1, by omega⟩
              have hk2 : N - (d + 1) = k1 := by omega
              have hgo := zcg_go (fr := fr) (to := to) (bk := bk) (has := has) (V := V) (SV := SV) (B := B) (sd := sd) (m := m) (wy := wy) (k := k1) (x := xq) (p := p) (e := e) (sm := mq) (H := Hq) (Cm := cq) hpe
              rw [hk1, hgo] at ha hb
              have ha1 : (zcg fr to bk has V SV B sd m wy (k1) (zsr xq) (zcE to bk e, zcS fr to bk V SV B e (mq), zcH has e (Hq), zcC fr to bk V B sd wy e (mq) (cq))).1 + 1 + d = (zcg fr to bk has V SV B sd m wy (N) (x) (wh, sm, H, Cm)).1 := ha
              have hb1 : (zcg fr to bk has V SV B sd m wy (k1) (zsr xq) (zcE to bk e, zcS fr to bk V SV B e (mq), zcH has e (Hq), zcC fr to bk V B sd wy e (mq) (cq))).2 = (zcg fr to bk has V SV B sd m wy (N) (x) (wh, sm, H, Cm)).2 := hb
              have ha2 : (zcg fr to bk has V SV B sd m wy (N - (d + 1)) (zsr xq) (zcE to bk e, zcS fr to bk V SV B e (mq), zcH has e (Hq), zcC fr to bk V B sd wy e (mq) (cq))).1 + (d + 1) = (zcg fr to bk has V SV B sd m wy (N) (x) (wh, sm, H, Cm)).1 := by rw [hk2]; omega
              have hb2 : (zcg fr to bk has V SV B sd m wy (N - (d + 1)) (zsr xq) (zcE to bk e, zcS fr to bk V SV B e (mq), zcH has e (Hq), zcC fr to bk V B sd wy e (mq) (cq))).2 = (zcg fr to bk has V SV B sd m wy (N) (x) (wh, sm, H, Cm)).2 := by rw [hk2]; exact hb1
              refine z_aload_n hX 0 dA_walk_37 rfl rfl ?_
              refine z_get hX 0 0 rfl rfl (zu inA) (by decide) (List.mem_cons_of_mem _ mw_207) rfl dA_walk_38 ?_
              refine z_aload_n hX 0 dA_walk_41 rfl rfl ?_
              refine z_get hX 0 7 rfl rfl (zu inA) (by decide) (List.mem_cons_of_mem _ mw_214) rfl dA_walk_42 ?_
              refine z_iload_n hX 3 dA_walk_45 rfl rfl ?_
              refine z_iconst hX (nI 3) dA_walk_46 rfl ?_
              refine z_iand hX dA_walk_47 ?_
              rw [zt3_eq]
              refine z_Vr hX (kG_pickFrom l D cI cZ g f t n m fr to p (zt3 xq) (by omega) (by omega) hn hm hok) mw_442 mw_443 mw_444 mw_2 mw_445 rfl rfl ⟨rfl, by decide, by decide, rfl⟩ (by decide) 1 rfl rfl rfl rfl (Nat.le_of_ble_eq_true rfl) dA_walk_48 (by decide) [1, 2, 3] rfl rfl (fun v wn hv => ?_)
              obtain ⟨rfl, rfl⟩ := hv
              refine ⟨rfl, ?_⟩
              rw [hzp]
              refine z_goto hX 55 dA_walk_51 rfl ?_
              refine z_istore hX 5 dA_walk_55 (by decide) ?_
              refine z_iload hX 5 dA_walk_57 rfl ?_
              refine z_if_ge hX 65 dA_walk_59 rfl (fun h59 => ?_) (fun h59 => ?_)
              · refine z_aload_n hX 0 dA_walk_65 rfl rfl ?_
                refine z_iload hX 5 dA_walk_66 rfl ?_
                refine z_Vy hX (kA_pass2 l D cI cZ (ax) (g) (s) (lo) (tr) (lk) (ct) (sd) (some p) (mq) (f) (t) (n) (m) (fr) (to) (ib) (fi) (sk) (lu) (Mt) (Op) (h) (bk) (fin) (st) (lq) (dp) (od) (dep) (ord) (hs) (gr) (has) (grp) (kt) (rw) (vl) (sv) (bs) (ko) (R) (V) (SV) (B) (o2) (wy) (hs2) (gr2) (has2) (grp2) (bh) (ht) (sp) (cp) (Bh) (Hq) (St) (cq) e he hIq.2.2 hn hm hok) mw_418 mw_420 mp_1_14 mw_1 mw_421 rfl rfl ⟨rfl, by decide, by decide, rfl⟩ (by decide) 0 rfl rfl rfl rfl (Nat.le_of_ble_eq_true rfl) dA_walk_68 (by decide) [0, 1, 2, 3, 4, 5, 6, 7, 8, 9, 10, 11, 12, 13, 14, 15, 16, 17, 18, 19, 20, 21, 22, 23, 24, 25, 26, 27, 28] rfl rfl [] 29 (by decide) (by decide) (fun v wn hv => ?_)
                obtain ⟨rfl, rfl⟩ := hv
                refine ⟨wA ax g s lo tr lk ct (sd) (zcE to bk e) (zcS fr to bk V SV B e (mq)) ++ wG cI g f t n m fr to ++ wS cI cZ s g ib fi sk lu Mt Op h bk fin st lq ++ wO cI lo g s dp od dep ord ++ wT cI cZ tr g hs gr has grp ++ wK cI lk g s kt rw vl sv bs ko R V SV B o2 wy ++ wT cI cZ kt g hs2 gr2 has2 grp2 ++ wC cI ct g tr bh ht sp cp Bh (zcH has e (Hq)) (St) (zcC fr to bk V B sd wy e (mq) (cq)), rfl, trivial, rfl, ?_⟩
                refine z_iload_n hX 3 dA_walk_71 rfl rfl ?_
                refine z_iconst hX (nI 2) dA_walk_72 rfl ?_
                refine z_iushr hX dA_walk_73 (v := zsr xq) rfl ?_
                refine z_istore_n hX 3 dA_walk_74 rfl (by decide) ?_
                refine z_iinc hX 4 dA_walk_75 rfl (zi_1 _) (by decide) ?_
                refine z_goto hX 24 dA_walk_78 rfl ?_
                exact z_le2 hX (ih h27 (zsr xq) _ _ _ _ hI2 ha2 hb2) (And.intro rfl (And.intro rfl (And.intro rfl (And.intro rfl (And.intro rfl trivial)))))
              · exact absurd (zi_ge0 (by omega)) h59
        exact hloop 0 (Nat.zero_le _) x _ _ _ _ hI0 rfl rfl
      · have hE : ∀ N1, N1 ≤ 16 → nI N = nI N1 → zun wh = true → False := by
          intro N1 g1 g2 g3
          have e1 := (nI_eq (a := N) (b := N1) (by omega) (by omega)).mp g2
          omega
        refine z_iconst hX (-1) dA_walk_17 rfl ?_
        refine z_iret hX rfl rfl rfl rfl dA_walk_18 ?_
        exact ⟨fun _ => ⟨rfl, rfl⟩, fun N1 g1 g2 g3 => (hE N1 g1 g2 g3).elim⟩

set_option maxHeartbeats 400000 in
set_option maxRecDepth 100000 in
theorem kA_covered (l : Launch) (D : va_G) (cI cZ : ClassId) (ax g s lo tr lk ct : Nat) (sd : Bool) (wh : Option Nat) (sm : Int) (f t n m : Nat) (fr to : Nat → Nat) (ib fi sk lu : Nat) (Mt Op : Nat → Bool) (h : Nat) (bk : Nat → Bool) (fin st lq : Nat → Nat) (dp od : Nat) (dep ord : Nat → Nat) (hs gr : Nat) (has : Nat → Bool) (grp : Nat → Nat) (kt rw vl sv bs ko : Nat) (R V SV : Nat → Nat) (B : Nat → Int) (o2 : Nat → Nat) (wy : Nat) (hs2 gr2 : Nat) (has2 : Nat → Bool) (grp2 : Nat → Nat) (bh ht sp cp : Nat) (Bh : Nat → Nat → Bool) (H St Cm : Nat → Int) (x : Int32) (hwh : ∀ p, wh = some p → p < n) (hn : 2 ≤ n ∧ n ≤ 12) (hm : m ≤ 24) (hok : ∀ e, e < m → fr e < n ∧ to e < n) : zM l yA_covered wA_covered rA_covered D zCl (zTy cI cZ) zNW 0 0 [.ref ax, .int x] (wA ax g s lo tr lk ct (sd) (wh) (sm) ++ wG cI g f t n m fr to ++ wS cI cZ s g ib fi sk lu Mt Op h bk fin st lq ++ wO cI lo g s dp od dep ord ++ wT cI cZ tr g hs gr has grp ++ wK cI lk g s kt rw vl sv bs ko R V SV B o2 wy ++ wT cI cZ kt g hs2 gr2 has2 grp2 ++ wC cI ct g tr bh ht sp cp Bh (H) (St) (Cm)) (fun v wn => wn = wA ax g s lo tr lk ct (sd) (wh) (sm) ++ wG cI g f t n m fr to ++ wS cI cZ s g ib fi sk lu Mt Op h bk fin st lq ++ wO cI lo g s dp od dep ord ++ wT cI cZ tr g hs gr has grp ++ wK cI lk g s kt rw vl sv bs ko R V SV B o2 wy ++ wT cI cZ kt g hs2 gr2 has2 grp2 ++ wC cI ct g tr bh ht sp cp Bh (H) (St) (Cm) ∧ (sd = false → v = some (.int (-1))) ∧ (sd = true → ((∀ i, i < 5 → x ≠ nI i) → v = some (.int (-1))) ∧ (x = nI 0 → v = some (.int (nI (zpc (zvi fr to n m has Bh H St wh) n)))) ∧ (x = nI 1 → v = some (.int (nI (zpc (zpo fr to n m has Bh H St wh) m)))) ∧ (x = nI 2 → v = some (.int (nI (zpc Cm 200)))) ∧ (x = nI 3 → v = some (.int (Int32.ofInt (zvi fr to n m has Bh H St wh 0)))) ∧ (x = nI 4 → v = some (.int (Int32.ofInt (zvi fr to n m has Bh H St wh 1)))))) := by
  refine z_met2 cA_covered 2 (some .int) rfl rfl (Nat.le_of_ble_eq_true rfl) rfl (fun Z hX => ?_)
  show Z 0 0 0 [some (.ref ax), some (.int x)] [] (wA ax g s lo tr lk ct (sd) (wh) (sm) ++ wG cI g f t n m fr to ++ wS cI cZ s g ib fi sk lu Mt Op h bk fin st lq ++ wO cI lo g s dp od dep ord ++ wT cI cZ tr g hs gr has grp ++ wK cI lk g s kt rw vl sv bs ko R V SV B o2 wy ++ wT cI cZ kt g hs2 gr2 has2 grp2 ++ wC cI ct g tr bh ht sp cp Bh (H) (St) (Cm))
  refine z_aload_n hX 0 dA_covered_0 rfl rfl ?_
  refine z_get hX 0 6 rfl rfl (zu inA) (by decide) (List.mem_cons_of_mem _ mw_213) rfl dA_covered_1 ?_
  refine z_if_neB hX 9 dA_covered_4 rfl (fun h4 => ?_) (fun h4 => ?_)
  · refine z_iload_n hX 1 dA_covered_9 rfl rfl ?_
    refine z_tab hX 5 102 (fun i => [44, 56, 68, 76, 89].getD i 0) dA_covered_10 rfl rfl (by decide) (by decide) (fun hno => ?_) (fun i hi hxi => ?_)
    rotate_left
    obtain h5 | h5 | h5 | h5 | h5 : i = 0 ∨ i = 1 ∨ i = 2 ∨ i = 3 ∨ i = 4 := by omega
    · subst h5
      show Z 0 0 44 [some (.ref ax), some (.int x)] [] (wA ax g s lo tr lk ct (sd) (wh) (sm) ++ wG cI g f t n m fr to ++ wS cI cZ s g ib fi sk lu Mt Op h bk fin st lq ++ wO cI lo g s dp od dep ord ++ wT cI cZ tr g hs gr has grp ++ wK cI lk g s kt rw vl sv bs ko R V SV B o2 wy ++ wT cI cZ kt g hs2 gr2 has2 grp2 ++ wC cI ct g tr bh ht sp cp Bh (H) (St) (Cm))
      refine z_aload_n hX 0 dA_covered_44 rfl rfl ?_
      refine z_get hX 0 5 rfl rfl (zu inA) (by decide) (List.mem_cons_of_mem _ mw_212) rfl dA_covered_45 ?_
      refine z_aload_n hX 0 dA_covered_48 rfl rfl ?_
      refine z_get hX 0 7 rfl rfl (zu inA) (by decide) (List.mem_cons_of_mem _ mw_214) rfl dA_covered_49 ?_
      refine z_Vr hX (kC_blocksVisited l D cI cZ ct g tr bh ht sp cp Bh H St Cm hs gr has grp f t n m fr to wh hwh hn hm hok) mw_519 mw_520 mw_521 mw_8 mw_522 rfl rfl ⟨rfl, by decide, by decide, rfl⟩ (by decide) 24 rfl rfl rfl rfl (Nat.le_of_ble_eq_true rfl) dA_covered_52 (by decide) [24, 25, 26, 27, 28, 12, 13, 14, 1, 2, 3] rfl rfl (fun v wn hv => ?_)
      obtain ⟨rfl, rfl⟩ := hv
      refine ⟨rfl, ?_⟩
      refine z_iret hX rfl rfl rfl rfl dA_covered_55 ?_
      refine ⟨rfl, fun hc => zbf h4 hc, fun _ => ⟨fun hc => absurd hxi (hc 0 (by decide)), fun _ => rfl, fun hc => absurd (hxi.symm.trans hc) (by decide), fun hc => absurd (hxi.symm.trans hc) (by decide), fun hc => absurd (hxi.symm.trans hc) (by decide), fun hc => absurd (hxi.symm.trans hc) (by decide)⟩⟩
    · subst h5
      show Z 0 0 56 [some (.ref ax), some (.int x)] [] (wA ax g s lo tr lk ct (sd) (wh) (sm) ++ wG cI g f t n m fr to ++ wS cI cZ s g ib fi sk lu Mt Op h bk fin st lq ++ wO cI lo g s dp od dep ord ++ wT cI cZ tr g hs gr has grp ++ wK cI lk g s kt rw vl sv bs ko R V SV B o2 wy ++ wT cI cZ kt g hs2 gr2 has2 grp2 ++ wC cI ct g tr bh ht sp cp Bh (H) (St) (Cm))
      refine z_aload_n hX 0 dA_covered_56 rfl rfl ?_
      refine z_get hX 0 5 rfl rfl (zu inA) (by decide) (List.mem_cons_of_mem _ mw_212) rfl dA_covered_57 ?_
      refine z_aload_n hX 0 dA_covered_60 rfl rfl ?_
      refine z_get hX 0 7 rfl rfl (zu inA) (by decide) (List.mem_cons_of_mem _ mw_214) rfl dA_covered_61 ?_
      refine z_Vr hX (kC_edgesPassed l D cI cZ ct g tr bh ht sp cp Bh H St Cm hs gr has grp f t n m fr to wh hwh hn hm hok) mw_524 mw_525 mw_526 mw_8 mw_527 rfl rfl ⟨rfl, by decide, by decide, rfl⟩ (by decide) 24 rfl rfl rfl rfl (Nat.le_of_ble_eq_true rfl) dA_covered_64 (by decide) [24, 25, 26, 27, 28, 12, 13, 14, 1, 2, 3] rfl rfl (fun v wn hv => ?_)
      obtain ⟨rfl, rfl⟩ := hv
      refine ⟨rfl, ?_⟩
      refine z_iret hX rfl rfl rfl rfl dA_covered_67 ?_
      refine ⟨rfl, fun hc => zbf h4 hc, fun _ => ⟨fun hc => absurd hxi (hc 1 (by decide)), fun hc => absurd (hxi.symm.trans hc) (by decide), fun _ => rfl, fun hc => absurd (hxi.symm.trans hc) (by decide), fun hc => absurd (hxi.symm.trans hc) (by decide), fun hc => absurd (hxi.symm.trans hc) (by decide)⟩⟩
    · subst h5
      show Z 0 0 68 [some (.ref ax), some (.int x)] [] (wA ax g s lo tr lk ct (sd) (wh) (sm) ++ wG cI g f t n m fr to ++ wS cI cZ s g ib fi sk lu Mt Op h bk fin st lq ++ wO cI lo g s dp od dep ord ++ wT cI cZ tr g hs gr has grp ++ wK cI lk g s kt rw vl sv bs ko R V SV B o2 wy ++ wT cI cZ kt g hs2 gr2 has2 grp2 ++ wC cI ct g tr bh ht sp cp Bh (H) (St) (Cm))
      refine z_aload_n hX 0 dA_covered_68 rfl rfl ?_
      refine z_get hX 0 5 rfl rfl (zu inA) (by decide) (List.mem_cons_of_mem _ mw_212) rfl dA_covered_69 ?_
      refine z_Vr hX (kC_waysCompleted l D cI cZ ct g tr bh ht sp cp Bh H St Cm hs gr has grp f t n m fr to) mw_528 mw_529 mw_530 mw_8 mw_531 rfl rfl ⟨rfl, by decide, by decide, rfl⟩ (by decide) 24 rfl rfl rfl rfl (Nat.le_of_ble_eq_true rfl) dA_covered_72 (by decide) [24, 25, 26, 27, 28, 12, 13, 14, 1, 2, 3] rfl rfl (fun v wn hv => ?_)
      obtain ⟨rfl, rfl⟩ := hv
      refine ⟨rfl, ?_⟩
      refine z_iret hX rfl rfl rfl rfl dA_covered_75 ?_
      refine ⟨rfl, fun hc => zbf h4 hc, fun _ => ⟨fun hc => absurd hxi (hc 2 (by decide)), fun hc => absurd (hxi.symm.trans hc) (by decide), fun hc => absurd (hxi.symm.trans hc) (by decide), fun _ => rfl, fun hc => absurd (hxi.symm.trans hc) (by decide), fun hc => absurd (hxi.symm.trans hc) (by decide)⟩⟩
    · subst h5
      show Z 0 0 76 [some (.ref ax), some (.int x)] [] (wA ax g s lo tr lk ct (sd) (wh) (sm) ++ wG cI g f t n m fr to ++ wS cI cZ s g ib fi sk lu Mt Op h bk fin st lq ++ wO cI lo g s dp od dep ord ++ wT cI cZ tr g hs gr has grp ++ wK cI lk g s kt rw vl sv bs ko R V SV B o2 wy ++ wT cI cZ kt g hs2 gr2 has2 grp2 ++ wC cI ct g tr bh ht sp cp Bh (H) (St) (Cm))
      refine z_aload_n hX 0 dA_covered_76 rfl rfl ?_
      refine z_get hX 0 5 rfl rfl (zu inA) (by decide) (List.mem_cons_of_mem _ mw_212) rfl dA_covered_77 ?_
      refine z_iconst hX (nI 0) dA_covered_80 rfl ?_
      refine z_aload_n hX 0 dA_covered_81 rfl rfl ?_
      refine z_get hX 0 7 rfl rfl (zu inA) (by decide) (List.mem_cons_of_mem _ mw_214) rfl dA_covered_82 ?_
      refine z_Vr hX (kC_visitsOf l D cI cZ ct g tr bh ht sp cp Bh H St Cm hs gr has grp f t n m fr to 0 (by omega) wh hwh hn hm hok) mw_480 mw_481 mw_482 mw_8 mw_483 rfl rfl ⟨rfl, by decide, by decide, rfl⟩ (by decide) 24 rfl rfl rfl rfl (Nat.le_of_ble_eq_true rfl) dA_covered_85 (by decide) [24, 25, 26, 27, 28, 12, 13, 14, 1, 2, 3] rfl rfl (fun v wn hv => ?_)
      obtain ⟨rfl, rfl⟩ := hv
      refine ⟨rfl, ?_⟩
      refine z_iret hX rfl rfl rfl rfl dA_covered_88 ?_
      refine ⟨rfl, fun hc => zbf h4 hc, fun _ => ⟨fun hc => absurd hxi (hc 3 (by decide)), fun hc => absurd (hxi.symm.trans hc) (by decide), fun hc => absurd (hxi.symm.trans hc) (by decide), fun hc => absurd (hxi.symm.trans hc) (by decide), fun _ => rfl, fun hc => absurd (hxi.symm.trans hc) (by decide)⟩⟩
    · subst h5
      show Z 0 0 89 [some (.ref ax), some (.int x)] [] (wA ax g s lo tr lk ct (sd) (wh) (sm) ++ wG cI g f t n m fr to ++ wS cI cZ s g ib fi sk lu Mt Op h bk fin st lq ++ wO cI lo g s dp od dep ord ++ wT cI cZ tr g hs gr has grp ++ wK cI lk g s kt rw vl sv bs ko R V SV B o2 wy ++ wT cI cZ kt g hs2 gr2 has2 grp2 ++ wC cI ct g tr bh ht sp cp Bh (H) (St) (Cm))
      refine z_aload_n hX 0 dA_covered_89 rfl rfl ?_
      refine z_get hX 0 5 rfl rfl (zu inA) (by decide) (List.mem_cons_of_mem _ mw_212) rfl dA_covered_90 ?_
      refine z_iconst hX (nI 1) dA_covered_93 rfl ?_
      refine z_aload_n hX 0 dA_covered_94 rfl rfl ?_
      refine z_get hX 0 7 rfl rfl (zu inA) (by decide) (List.mem_cons_of_mem _ mw_214) rfl dA_covered_95 ?_
      refine z_Vr hX (kC_visitsOf l D cI cZ ct g tr bh ht sp cp Bh H St Cm hs gr has grp f t n m fr to 1 (by omega) wh hwh hn hm hok) mw_480 mw_481 mw_482 mw_8 mw_483 rfl rfl ⟨rfl, by decide, by decide, rfl⟩ (by decide) 24 rfl rfl rfl rfl (Nat.le_of_ble_eq_true rfl) dA_covered_98 (by decide) [24, 25, 26, 27, 28, 12, 13, 14, 1, 2, 3] rfl rfl (fun v wn hv => ?_)
      obtain ⟨rfl, rfl⟩ := hv
      refine ⟨rfl, ?_⟩
      refine z_iret hX rfl rfl rfl rfl dA_covered_101 ?_
      refine ⟨rfl, fun hc => zbf h4 hc, fun _ => ⟨fun hc => absurd hxi (hc 4 (by decide)), fun hc => absurd (hxi.symm.trans hc) (by decide), fun hc => absurd (hxi.symm.trans hc) (by decide), fun hc => absurd (hxi.symm.trans hc) (by decide), fun hc => absurd (hxi.symm.trans hc) (by decide), fun _ => rfl⟩⟩
    · skip
      refine z_iconst hX (-1) dA_covered_102 rfl ?_
      refine z_iret hX rfl rfl rfl rfl dA_covered_103 ?_
      exact ⟨rfl, fun _ => rfl, fun _ => ⟨fun _ => rfl, fun hc => absurd hc (hno 0 (by decide)), fun hc => absurd hc (hno 1 (by decide)), fun hc => absurd hc (hno 2 (by decide)), fun hc => absurd hc (hno 3 (by decide)), fun hc => absurd hc (hno 4 (by decide))⟩⟩
  · refine z_iconst hX (-1) dA_covered_7 rfl ?_
    refine z_iret hX rfl rfl rfl rfl dA_covered_8 ?_
    exact ⟨rfl, fun _ => rfl, fun hc => zbf hc h4⟩

