/-! the outer object: seal -/
set_option maxHeartbeats 400000 in
set_option maxRecDepth 100000 in
theorem kA_seal (l : Launch) (D : va_G) (cI cZ : ClassId) (ax g s lo tr lk ct : Nat) (sd : Bool) (wh : Option Nat) (sm : Int) (f t n m : Nat) (fr to : Nat → Nat) (ib fi sk lu : Nat) (Mt Op : Nat → Bool) (h : Nat) (bk : Nat → Bool) (fin st lq : Nat → Nat) (dp od : Nat) (ord : Nat → Nat) (hs gr : Nat) (grp : Nat → Nat) (kt rw vl sv bs ko : Nat) (R V SV : Nat → Nat) (o2 : Nat → Nat) (wy : Nat) (hs2 gr2 : Nat) (grp2 : Nat → Nat) (bh ht sp cp : Nat) (Bh : Nat → Nat → Bool) (H St Cm : Nat → Int) (hg : sg_ok n m fr to) : zM l yA_seal wA_seal rA_seal D zCl (zTy cI cZ) zNW 0 0 [.ref ax] (wA ax g s lo tr lk ct (sd) (wh) (sm) ++ wG cI g f t n m fr to ++ wS cI cZ s g ib fi sk lu (Mt) (Op) (h) (bk) (fin) (st) (lq) ++ wO cI lo g s dp od (fun _ => 0) (ord) ++ wT cI cZ tr g hs gr (fun _ => false) (grp) ++ wK cI lk g s kt rw vl sv bs ko (R) (V) (SV) (fun _ => 0) (o2) (wy) ++ wT cI cZ kt g hs2 gr2 (fun _ => false) (grp2) ++ wC cI ct g tr bh ht sp cp (Bh) (H) (St) (Cm)) (fun v wn => (sd = true → v = some (.int (-1)) ∧ wn = wA ax g s lo tr lk ct (sd) (wh) (sm) ++ wG cI g f t n m fr to ++ wS cI cZ s g ib fi sk lu (Mt) (Op) (h) (bk) (fin) (st) (lq) ++ wO cI lo g s dp od (fun _ => 0) (ord) ++ wT cI cZ tr g hs gr (fun _ => false) (grp) ++ wK cI lk g s kt rw vl sv bs ko (R) (V) (SV) (fun _ => 0) (o2) (wy) ++ wT cI cZ kt g hs2 gr2 (fun _ => false) (grp2) ++ wC cI ct g tr bh ht sp cp (Bh) (H) (St) (Cm)) ∧ (sd = false → ∃ met look sq hq bq fq k, ss_run fr to m (n + m) (zst lq st fin bk) = (met, look, sq, hq, bq, fq, k) ∧ ((zallb n (fun x => decide (met x ≠ 0)) && zallb n (sp_it (fun _ => sr_r fr to none m) (n - 1) (zS0 1 none))) = false → v = some (.int (-2)) ∧ wn = wA ax g s lo tr lk ct (sd) (wh) (sm) ++ wG cI g f t n m fr to ++ wS cI cZ s g ib fi sk lu (fun x => decide (met x ≠ 0)) (fun x => decide (met x = 1)) (hq) (bq) (fq) (sq) (look) ++ wO cI lo g s dp od (fun _ => 0) (ord) ++ wT cI cZ tr g hs gr (fun _ => false) (grp) ++ wK cI lk g s kt rw vl sv bs ko (R) (V) (SV) (fun _ => 0) (o2) (wy) ++ wT cI cZ kt g hs2 gr2 (fun _ => false) (grp2) ++ wC cI ct g tr bh ht sp cp (Bh) (H) (St) (Cm)) ∧ ((zallb n (fun x => decide (met x ≠ 0)) && zallb n (sp_it (fun _ => sr_r fr to none m) (n - 1) (zS0 1 none))) = true → ∃ V1 R1 SV1 W1, sv_num fr (ztg bq to) fq m n V R = (V1, R1) ∧ sp_it (sv_st to R1 bq) m (SV, R1 0) = (SV1, W1) ∧ (200 < W1 → v = some (.int (-3)) ∧ wn = wA ax g s lo tr lk ct (sd) (wh) (sm) ++ wG cI g f t n m fr to ++ wS cI cZ s g ib fi sk lu (fun x => decide (met x ≠ 0)) (fun x => decide (met x = 1)) (hq) (bq) (fq) (sq) (look) ++ wO cI lo g s dp od (fun _ => 0) (ord) ++ wT cI cZ tr g hs gr (fun _ => false) (grp) ++ wK cI lk g s kt rw vl sv bs ko (R1) (V1) (SV1) (fun _ => 0) (o2) (W1) ++ wT cI cZ kt g hs2 gr2 (fun _ => false) (grp2) ++ wC cI ct g tr bh ht sp cp (Bh) (H) (St) (Cm)) ∧ (W1 ≤ 200 → ∃ dep1 ord1 grp1 has1 O2 M2 grp3 has3 S5 B1, sp_it (zde fr to bq m n) m (fun _ => 0) = dep1 ∧ (so_sys (zwt fr to dep1) m ord).1 = ord1 ∧ sp_it (st_g fr to ord1 n) m (sj_join n (zid grp n) 0 1, fun _ => false) = (grp1, has1) ∧ sp_it (st_f bq ord1) m (o2, 0) = (O2, M2) ∧ sp_it (st_g fr to O2 n) M2 (sj_join n (zid grp2 n) 0 1, fun _ => false) = (grp3, has3) ∧ sp_it (fun _ => sa_r fr to has3 (fun x => (V1 x : Int)) m) (n - 1) ((fun b => decide (b = 0 ∨ b = 1)), fun _ => 0) = (S5, B1) ∧ v = some (.int (nI W1)) ∧ wn = wA ax g s lo tr lk ct (true) (wh) (sm) ++ wG cI g f t n m fr to ++ wS cI cZ s g ib fi sk lu (fun x => decide (met x ≠ 0)) (fun x => decide (met x = 1)) (hq) (bq) (fq) (sq) (look) ++ wO cI lo g s dp od (dep1) (ord1) ++ wT cI cZ tr g hs gr (has1) (grp1) ++ wK cI lk g s kt rw vl sv bs ko (R1) (V1) (SV1) (B1) (O2) (W1) ++ wT cI cZ kt g hs2 gr2 (has3) (grp3) ++ wC cI ct g tr bh ht sp cp (fun x => if x < m then zbh fr to n m has1 x else Bh x) (H) (St) (Cm))))) := by
  have hn : 2 ≤ n ∧ n ≤ 12 := ⟨hg.1, hg.2.1⟩
  have hm : m ≤ 24 := hg.2.2.1
  have hok : ∀ e, e < m → fr e < n ∧ to e < n := fun e he => ⟨(hg.2.2.2 e he).1, (hg.2.2.2 e he).2.1⟩
  refine z_met2 cA_seal 1 (some .int) rfl rfl (Nat.le_of_ble_eq_true rfl) rfl (fun Z hX => ?_)
  show Z 0 0 0 [some (.ref ax)] [] (wA ax g s lo tr lk ct (sd) (wh) (sm) ++ wG cI g f t n m fr to ++ wS cI cZ s g ib fi sk lu (Mt) (Op) (h) (bk) (fin) (st) (lq) ++ wO cI lo g s dp od (fun _ => 0) (ord) ++ wT cI cZ tr g hs gr (fun _ => false) (grp) ++ wK cI lk g s kt rw vl sv bs ko (R) (V) (SV) (fun _ => 0) (o2) (wy) ++ wT cI cZ kt g hs2 gr2 (fun _ => false) (grp2) ++ wC cI ct g tr bh ht sp cp (Bh) (H) (St) (Cm))
  refine z_aload_n hX 0 dA_seal_0 rfl rfl ?_
  refine z_get hX 0 6 rfl rfl (zu inA) (by decide) (List.mem_cons_of_mem _ mw_213) rfl dA_seal_1 ?_
  refine z_if_eqB hX 9 dA_seal_4 rfl (fun h4 => ?_) (fun h4 => ?_)
  · refine z_aload_n hX 0 dA_seal_9 rfl rfl ?_
    refine z_get hX 0 1 rfl rfl (zu inA) (by decide) (List.mem_cons_of_mem _ mw_208) rfl dA_seal_10 ?_
    refine z_Vy hX (kS_explore l D cI cZ s g ib fi sk lu Mt Op h bk fin st lq f t n m fr to hn hm hok) mw_251 mw_252 mw_253 mw_4 mw_254 rfl rfl ⟨rfl, by decide, by decide, rfl⟩ (by decide) 4 rfl rfl rfl rfl (Nat.le_of_ble_eq_true rfl) dA_seal_13 (by decide) [4, 5, 6, 7, 8, 1, 2, 3] rfl rfl [0, 9, 10, 11, 12, 13, 14, 15, 16, 17, 18, 19, 20, 21, 22, 23, 24, 25, 26, 27, 28] 29 (by decide) (by decide) (fun v wn hv => ?_)
    obtain ⟨hv1, met, look, sq, hq, bq, fq, k, hrun, hv2⟩ := hv
    have hv := And.intro hv1 hv2
    have hrun : ss_run fr to m (n + m) (zst lq st fin bk) = (met, look, sq, hq, bq, fq, k) := hrun
    obtain ⟨hmi, hcl⟩ := zcls hg hrun
    obtain ⟨rfl, rfl⟩ := hv
    refine ⟨wA ax g s lo tr lk ct (sd) (wh) (sm) ++ wG cI g f t n m fr to ++ wS cI cZ s g ib fi sk lu (fun x => decide (met x ≠ 0)) (fun x => decide (met x = 1)) (hq) (bq) (fq) (sq) (look) ++ wO cI lo g s dp od (fun _ => 0) (ord) ++ wT cI cZ tr g hs gr (fun _ => false) (grp) ++ wK cI lk g s kt rw vl sv bs ko (R) (V) (SV) (fun _ => 0) (o2) (wy) ++ wT cI cZ kt g hs2 gr2 (fun _ => false) (grp2) ++ wC cI ct g tr bh ht sp cp (Bh) (H) (St) (Cm), rfl, (And.intro ⟨_, rfl, rfl⟩ (And.intro ⟨_, rfl, rfl⟩ (And.intro ⟨_, rfl, rfl⟩ (And.intro ⟨_, rfl, rfl⟩ (And.intro ⟨_, rfl, rfl⟩ (And.intro ⟨_, rfl, rfl⟩ (And.intro ⟨_, rfl, rfl⟩ (And.intro ⟨_, rfl, rfl⟩ (And.intro ⟨_, rfl, rfl⟩ (And.intro ⟨_, rfl, rfl⟩ (And.intro ⟨_, rfl, rfl⟩ (And.intro ⟨_, rfl, rfl⟩ (And.intro ⟨_, rfl, rfl⟩ (And.intro ⟨_, rfl, rfl⟩ (And.intro ⟨_, rfl, rfl⟩ (And.intro ⟨_, rfl, rfl⟩ (And.intro ⟨_, rfl, rfl⟩ (And.intro ⟨_, rfl, rfl⟩ (And.intro ⟨_, rfl, rfl⟩ (And.intro ⟨_, rfl, rfl⟩ (And.intro ⟨_, rfl, rfl⟩ trivial))))))))))))))))))))), rfl, ?_⟩
    refine z_aload_n hX 0 dA_seal_16 rfl rfl ?_
    refine z_get hX 0 1 rfl rfl (zu inA) (by decide) (List.mem_cons_of_mem _ mw_208) rfl dA_seal_17 ?_
    refine z_Vr hX (kS_metAll l D cI cZ s g ib fi sk lu (fun x => decide (met x ≠ 0)) (fun x => decide (met x = 1)) hq bq fq sq look f t n m fr to hn.2 (fun b hb => hmi b (of_decide_eq_true hb))) mw_273 mw_274 mw_275 mw_4 mw_276 rfl rfl ⟨rfl, by decide, by decide, rfl⟩ (by decide) 4 rfl rfl rfl rfl (Nat.le_of_ble_eq_true rfl) dA_seal_20 (by decide) [4, 5, 6, 7, 8, 1, 2, 3] rfl rfl (fun v wn hv => ?_)
    obtain ⟨rfl, rfl⟩ := hv
    refine ⟨rfl, ?_⟩
    refine z_if_eqB hX 36 dA_seal_23 rfl (fun h23 => ?_) (fun h23 => ?_)
    · have hcc : (zallb n (fun x => decide (met x ≠ 0)) && zallb n (sp_it (fun _ => sr_r fr to none m) (n - 1) (zS0 1 none))) = false := by rw [h23, Bool.false_and]
      refine z_bipush hX (-2) dA_seal_36 (by decide) ?_
      refine z_iret hX rfl rfl rfl rfl dA_seal_38 ?_
      exact ⟨fun hc => zbf hc h4, fun _ => ⟨met, look, sq, hq, bq, fq, k, hrun, fun _ => ⟨rfl, rfl⟩, fun hc => zbf hc hcc⟩⟩
    · refine z_aload_n hX 0 dA_seal_26 rfl rfl ?_
      refine z_get hX 0 0 rfl rfl (zu inA) (by decide) (List.mem_cons_of_mem _ mw_207) rfl dA_seal_27 ?_
      refine z_Vr hX (kG_allReachExit l D cI cZ g f t n m fr to hn hm hok) mw_282 mw_283 mw_284 mw_2 mw_285 rfl rfl ⟨rfl, by decide, by decide, rfl⟩ (by decide) 1 rfl rfl rfl rfl (Nat.le_of_ble_eq_true rfl) dA_seal_30 (by decide) [1, 2, 3] rfl rfl (fun v wn hv => ?_)
      obtain ⟨rfl, rfl⟩ := hv
      refine ⟨rfl, ?_⟩
      refine z_if_neB hX 39 dA_seal_33 rfl (fun h33 => ?_) (fun h33 => ?_)
      · have hcc : (zallb n (fun x => decide (met x ≠ 0)) && zallb n (sp_it (fun _ => sr_r fr to none m) (n - 1) (zS0 1 none))) = true := by rw [h23, h33]; rfl
        have hall : ∀ b, b < n → met b ≠ 0 := fun b hb => by
          have h9 : ∀ b, b < n → decide (met b ≠ 0) = true := of_decide_eq_true h23
          exact of_decide_eq_true (h9 b hb)
        obtain ⟨hO, hjoin, hto1⟩ := hcl hall
        refine z_aload_n hX 0 dA_seal_39 rfl rfl ?_
        refine z_get hX 0 4 rfl rfl (zu inA) (by decide) (List.mem_cons_of_mem _ mw_211) rfl dA_seal_40 ?_
        refine z_Vy hX (kK_number l D cI cZ lk g s kt rw vl sv bs ko R V SV (fun _ => 0) o2 wy f t n m fr to ib fi sk lu (fun x => decide (met x ≠ 0)) (fun x => decide (met x = 1)) hq bq fq sq look hn hm hok (fun i hi => by have := hO.1 i hi; omega)) mw_292 mw_293 mw_294 mw_7 mw_295 rfl rfl ⟨rfl, by decide, by decide, rfl⟩ (by decide) 15 rfl rfl rfl rfl (Nat.le_of_ble_eq_true rfl) dA_seal_43 (by decide) [15, 16, 17, 18, 19, 20, 1, 2, 3, 4, 5, 6, 7, 8] rfl rfl [0, 9, 10, 11, 12, 13, 14, 21, 22, 23, 24, 25, 26, 27, 28] 29 (by decide) (by decide) (fun v wn hv => ?_)
        obtain ⟨⟨V1, R1⟩, hN⟩ : ∃ z, sv_num fr (ztg bq to) fq m n V R = z := ⟨_, rfl⟩
        rw [hN] at hv
        obtain ⟨⟨SV1, W1⟩, hSV⟩ : ∃ z, sp_it (sv_st to R1 bq) m (SV, R1 0) = z := ⟨_, rfl⟩
        have hSV2 : sp_it (sv_st to (V1, R1).2 bq) m (SV, (V1, R1).2 0) = (SV1, W1) := hSV
        rw [hSV2] at hv
        obtain ⟨hR, hW1, hWb, hsv, hvb, hsb⟩ := zwy_b hg hO hN hSV
        obtain ⟨rfl, rfl⟩ := hv
        refine ⟨wA ax g s lo tr lk ct (sd) (wh) (sm) ++ wG cI g f t n m fr to ++ wS cI cZ s g ib fi sk lu (fun x => decide (met x ≠ 0)) (fun x => decide (met x = 1)) (hq) (bq) (fq) (sq) (look) ++ wO cI lo g s dp od (fun _ => 0) (ord) ++ wT cI cZ tr g hs gr (fun _ => false) (grp) ++ wK cI lk g s kt rw vl sv bs ko (R1) (V1) (SV1) (fun _ => 0) (o2) (W1) ++ wT cI cZ kt g hs2 gr2 (fun _ => false) (grp2) ++ wC cI ct g tr bh ht sp cp (Bh) (H) (St) (Cm), rfl, (And.intro ⟨_, rfl, rfl⟩ (And.intro ⟨_, rfl, rfl⟩ (And.intro ⟨_, rfl, rfl⟩ (And.intro ⟨_, rfl, rfl⟩ (And.intro ⟨_, rfl, rfl⟩ (And.intro ⟨_, rfl, rfl⟩ (And.intro ⟨_, rfl, rfl⟩ (And.intro ⟨_, rfl, rfl⟩ (And.intro ⟨_, rfl, rfl⟩ (And.intro ⟨_, rfl, rfl⟩ (And.intro ⟨_, rfl, rfl⟩ (And.intro ⟨_, rfl, rfl⟩ (And.intro ⟨_, rfl, rfl⟩ (And.intro ⟨_, rfl, rfl⟩ (And.intro ⟨_, rfl, rfl⟩ trivial))))))))))))))), rfl, ?_⟩
        refine z_aload_n hX 0 dA_seal_46 rfl rfl ?_
        refine z_get hX 0 4 rfl rfl (zu inA) (by decide) (List.mem_cons_of_mem _ mw_211) rfl dA_seal_47 ?_
        refine z_get hX 15 8 rfl rfl (zu inK) (by decide) (List.mem_cons_of_mem _ mw_160) rfl dA_seal_50 ?_
        refine z_sipush hX (nI 200) dA_seal_53 (by decide) ?_
        refine z_icmp_leN hX 62 (by omega) (by omega) dA_seal_56 rfl (fun h56 => ?_) (fun h56 => ?_)
        · refine z_aload_n hX 0 dA_seal_62 rfl rfl ?_
          refine z_get hX 0 2 rfl rfl (zu inA) (by decide) (List.mem_cons_of_mem _ mw_209) rfl dA_seal_63 ?_
          refine z_Vy hX (kO_measure l D cI cZ lo g s dp od ord f t n m fr to ib fi sk lu (fun x => decide (met x ≠ 0)) (fun x => decide (met x = 1)) hq bq fq sq look hn hm hok) mw_308 mw_309 mw_310 mw_5 mw_311 rfl rfl ⟨rfl, by decide, by decide, rfl⟩ (by decide) 9 rfl rfl rfl rfl (Nat.le_of_ble_eq_true rfl) dA_seal_66 (by decide) [9, 10, 11, 1, 2, 3, 4, 5, 6, 7, 8] rfl rfl [0, 12, 13, 14, 15, 16, 17, 18, 19, 20, 21, 22, 23, 24, 25, 26, 27, 28] 29 (by decide) (by decide) (fun v wn hv => ?_)
          obtain ⟨dep1, hdep⟩ : ∃ z, sp_it (zde fr to bq m n) m (fun _ => 0) = z := ⟨_, rfl⟩
          rw [hdep] at hv
          obtain ⟨ord1, hord⟩ : ∃ z, (so_sys (zwt fr to dep1) m ord).1 = z := ⟨_, rfl⟩
          rw [hord] at hv
          have hwl : ∀ f, f < m → zwt fr to dep1 f ≤ m := fun f _ => by rw [← hdep]; exact zdle f
          obtain ⟨o1, o2_, o3, o4⟩ := zord hwl ord
          have hoo : ∀ x, x < m → ord1 x < m := fun x hx => by rw [← hord, o4 ord x hx]; exact o1 x hx
          obtain ⟨rfl, rfl⟩ := hv
          refine ⟨wA ax g s lo tr lk ct (sd) (wh) (sm) ++ wG cI g f t n m fr to ++ wS cI cZ s g ib fi sk lu (fun x => decide (met x ≠ 0)) (fun x => decide (met x = 1)) (hq) (bq) (fq) (sq) (look) ++ wO cI lo g s dp od (dep1) (ord1) ++ wT cI cZ tr g hs gr (fun _ => false) (grp) ++ wK cI lk g s kt rw vl sv bs ko (R1) (V1) (SV1) (fun _ => 0) (o2) (W1) ++ wT cI cZ kt g hs2 gr2 (fun _ => false) (grp2) ++ wC cI ct g tr bh ht sp cp (Bh) (H) (St) (Cm), rfl, (And.intro ⟨_, rfl, rfl⟩ (And.intro ⟨_, rfl, rfl⟩ (And.intro ⟨_, rfl, rfl⟩ (And.intro ⟨_, rfl, rfl⟩ (And.intro ⟨_, rfl, rfl⟩ (And.intro ⟨_, rfl, rfl⟩ (And.intro ⟨_, rfl, rfl⟩ (And.intro ⟨_, rfl, rfl⟩ (And.intro ⟨_, rfl, rfl⟩ (And.intro ⟨_, rfl, rfl⟩ (And.intro ⟨_, rfl, rfl⟩ (And.intro ⟨_, rfl, rfl⟩ (And.intro ⟨_, rfl, rfl⟩ (And.intro ⟨_, rfl, rfl⟩ (And.intro ⟨_, rfl, rfl⟩ (And.intro ⟨_, rfl, rfl⟩ (And.intro ⟨_, rfl, rfl⟩ (And.intro ⟨_, rfl, rfl⟩ trivial)))))))))))))))))), rfl, ?_⟩
          refine z_aload_n hX 0 dA_seal_69 rfl rfl ?_
          refine z_get hX 0 3 rfl rfl (zu inA) (by decide) (List.mem_cons_of_mem _ mw_210) rfl dA_seal_70 ?_
          refine z_aload_n hX 0 dA_seal_73 rfl rfl ?_
          refine z_get hX 0 2 rfl rfl (zu inA) (by decide) (List.mem_cons_of_mem _ mw_209) rfl dA_seal_74 ?_
          refine z_get hX 9 3 rfl rfl (zu inO) (by decide) (List.mem_cons_of_mem _ mw_114) rfl dA_seal_77 ?_
          refine z_aload_n hX 0 dA_seal_80 rfl rfl ?_
          refine z_get hX 0 0 rfl rfl (zu inA) (by decide) (List.mem_cons_of_mem _ mw_207) rfl dA_seal_81 ?_
          refine z_get hX 1 3 rfl rfl (zu inG) (by decide) (List.mem_cons_of_mem _ mw_52) rfl dA_seal_84 ?_
          refine z_Vy hX (kT_grow l D cI cZ tr g hs gr (fun _ => false) grp f t n m fr to od ord1 m hn hm (fun i hi => by have h1 := hoo i hi; have h2 := hok _ h1; omega)) mw_332 mw_333 mw_334 mw_6 mw_335 rfl rfl ⟨rfl, by decide, by decide, rfl⟩ (by decide) 12 rfl rfl rfl rfl (Nat.le_of_ble_eq_true rfl) dA_seal_87 (by decide) [12, 13, 14, 1, 2, 3, 11] rfl rfl [0, 4, 5, 6, 7, 8, 9, 10, 15, 16, 17, 18, 19, 20, 21, 22, 23, 24, 25, 26, 27, 28] 29 (by decide) (by decide) (fun v wn hv => ?_)
          obtain ⟨⟨grp1, has1⟩, hgw⟩ : ∃ z, sp_it (st_g fr to ord1 n) m (sj_join n (zid grp n) 0 1, fun _ => false) = z := ⟨_, rfl⟩
          rw [hgw] at hv
          obtain ⟨rfl, rfl⟩ := hv
          refine ⟨wA ax g s lo tr lk ct (sd) (wh) (sm) ++ wG cI g f t n m fr to ++ wS cI cZ s g ib fi sk lu (fun x => decide (met x ≠ 0)) (fun x => decide (met x = 1)) (hq) (bq) (fq) (sq) (look) ++ wO cI lo g s dp od (dep1) (ord1) ++ wT cI cZ tr g hs gr (has1) (grp1) ++ wK cI lk g s kt rw vl sv bs ko (R1) (V1) (SV1) (fun _ => 0) (o2) (W1) ++ wT cI cZ kt g hs2 gr2 (fun _ => false) (grp2) ++ wC cI ct g tr bh ht sp cp (Bh) (H) (St) (Cm), rfl, (And.intro ⟨_, rfl, rfl⟩ (And.intro ⟨_, rfl, rfl⟩ (And.intro ⟨_, rfl, rfl⟩ (And.intro ⟨_, rfl, rfl⟩ (And.intro ⟨_, rfl, rfl⟩ (And.intro ⟨_, rfl, rfl⟩ (And.intro ⟨_, rfl, rfl⟩ (And.intro ⟨_, rfl, rfl⟩ (And.intro ⟨_, rfl, rfl⟩ (And.intro ⟨_, rfl, rfl⟩ (And.intro ⟨_, rfl, rfl⟩ (And.intro ⟨_, rfl, rfl⟩ (And.intro ⟨_, rfl, rfl⟩ (And.intro ⟨_, rfl, rfl⟩ (And.intro ⟨_, rfl, rfl⟩ (And.intro ⟨_, rfl, rfl⟩ (And.intro ⟨_, rfl, rfl⟩ (And.intro ⟨_, rfl, rfl⟩ (And.intro ⟨_, rfl, rfl⟩ (And.intro ⟨_, rfl, rfl⟩ (And.intro ⟨_, rfl, rfl⟩ (And.intro ⟨_, rfl, rfl⟩ trivial)))))))))))))))))))))), rfl, ?_⟩
          refine z_aload_n hX 0 dA_seal_90 rfl rfl ?_
          refine z_get hX 0 5 rfl rfl (zu inA) (by decide) (List.mem_cons_of_mem _ mw_212) rfl dA_seal_91 ?_
          refine z_Vy hX (kC_cut l D cI cZ ct g tr bh ht sp cp Bh H St Cm hs gr has1 grp1 f t n m fr to hn hm hok) mw_340 mw_341 mw_342 mw_8 mw_343 rfl rfl ⟨rfl, by decide, by decide, rfl⟩ (by decide) 24 rfl rfl rfl rfl (Nat.le_of_ble_eq_true rfl) dA_seal_94 (by decide) [24, 25, 26, 27, 28, 12, 13, 14, 1, 2, 3] rfl rfl [0, 4, 5, 6, 7, 8, 9, 10, 11, 15, 16, 17, 18, 19, 20, 21, 22, 23] 29 (by decide) (by decide) (fun v wn hv => ?_)
          obtain ⟨rfl, rfl⟩ := hv
          refine ⟨wA ax g s lo tr lk ct (sd) (wh) (sm) ++ wG cI g f t n m fr to ++ wS cI cZ s g ib fi sk lu (fun x => decide (met x ≠ 0)) (fun x => decide (met x = 1)) (hq) (bq) (fq) (sq) (look) ++ wO cI lo g s dp od (dep1) (ord1) ++ wT cI cZ tr g hs gr (has1) (grp1) ++ wK cI lk g s kt rw vl sv bs ko (R1) (V1) (SV1) (fun _ => 0) (o2) (W1) ++ wT cI cZ kt g hs2 gr2 (fun _ => false) (grp2) ++ wC cI ct g tr bh ht sp cp (fun x => if x < m then zbh fr to n m has1 x else Bh x) (H) (St) (Cm), rfl, (And.intro ⟨_, rfl, rfl⟩ (And.intro ⟨_, rfl, rfl⟩ (And.intro ⟨_, rfl, rfl⟩ (And.intro ⟨_, rfl, rfl⟩ (And.intro ⟨_, rfl, rfl⟩ (And.intro ⟨_, rfl, rfl⟩ (And.intro ⟨_, rfl, rfl⟩ (And.intro ⟨_, rfl, rfl⟩ (And.intro ⟨_, rfl, rfl⟩ (And.intro ⟨_, rfl, rfl⟩ (And.intro ⟨_, rfl, rfl⟩ (And.intro ⟨_, rfl, rfl⟩ (And.intro ⟨_, rfl, rfl⟩ (And.intro ⟨_, rfl, rfl⟩ (And.intro ⟨_, rfl, rfl⟩ (And.intro ⟨_, rfl, rfl⟩ (And.intro ⟨_, rfl, rfl⟩ (And.intro ⟨_, rfl, rfl⟩ trivial)))))))))))))))))), rfl, ?_⟩
          refine z_aload_n hX 0 dA_seal_97 rfl rfl ?_
          refine z_get hX 0 4 rfl rfl (zu inA) (by decide) (List.mem_cons_of_mem _ mw_211) rfl dA_seal_98 ?_
          refine z_aload_n hX 0 dA_seal_101 rfl rfl ?_
          refine z_get hX 0 2 rfl rfl (zu inA) (by decide) (List.mem_cons_of_mem _ mw_209) rfl dA_seal_102 ?_
          refine z_get hX 9 3 rfl rfl (zu inO) (by decide) (List.mem_cons_of_mem _ mw_114) rfl dA_seal_105 ?_
          refine z_Vy hX (kK_spread l D cI cZ lk g s kt rw vl sv bs ko R1 V1 SV1 (fun _ => 0) o2 W1 f t n m fr to ib fi sk lu (fun x => decide (met x ≠ 0)) (fun x => decide (met x = 1)) hq bq fq sq look hs2 gr2 (fun _ => false) grp2 od ord1 hn hm hok hoo) mw_350 mw_351 mw_352 mw_7 mw_353 rfl rfl ⟨rfl, by decide, by decide, rfl⟩ (by decide) 15 rfl rfl rfl rfl (Nat.le_of_ble_eq_true rfl) dA_seal_108 (by decide) [15, 16, 17, 18, 19, 20, 1, 2, 3, 4, 5, 6, 7, 8, 21, 22, 23, 11] rfl rfl [0, 9, 10, 12, 13, 14, 24, 25, 26, 27, 28] 29 (by decide) (by decide) (fun v wn hv => ?_)
          obtain ⟨⟨O2, M2⟩, hst⟩ : ∃ z, sp_it (st_f bq ord1) m (o2, 0) = z := ⟨_, rfl⟩
          rw [hst] at hv
          obtain ⟨⟨grp3, has3⟩, hg3⟩ : ∃ z, sp_it (st_g fr to O2 n) M2 (sj_join n (zid grp2 n) 0 1, fun _ => false) = z := ⟨_, rfl⟩
          have hg4 : sp_it (st_g fr to (O2, M2).1 n) (O2, M2).2 (sj_join n (zid grp2 n) 0 1, fun _ => false) = (grp3, has3) := hg3
          rw [hg4] at hv
          obtain ⟨⟨S5, B1⟩, hsa⟩ : ∃ z, sp_it (fun _ => sa_r fr to has3 (fun x => (V1 x : Int)) m) (n - 1) ((fun b => decide (b = 0 ∨ b = 1)), fun _ => 0) = z := ⟨_, rfl⟩
          have hsa2 : sp_it (fun _ => sa_r fr to (grp3, has3).2 (fun x => (V1 x : Int)) m) (n - 1) ((fun b => decide (b = 0 ∨ b = 1)), fun _ => 0) = (S5, B1) := hsa
          rw [hsa2] at hv
          obtain ⟨rfl, rfl⟩ := hv
          refine ⟨wA ax g s lo tr lk ct (sd) (wh) (sm) ++ wG cI g f t n m fr to ++ wS cI cZ s g ib fi sk lu (fun x => decide (met x ≠ 0)) (fun x => decide (met x = 1)) (hq) (bq) (fq) (sq) (look) ++ wO cI lo g s dp od (dep1) (ord1) ++ wT cI cZ tr g hs gr (has1) (grp1) ++ wK cI lk g s kt rw vl sv bs ko (R1) (V1) (SV1) (B1) (O2) (W1) ++ wT cI cZ kt g hs2 gr2 (has3) (grp3) ++ wC cI ct g tr bh ht sp cp (fun x => if x < m then zbh fr to n m has1 x else Bh x) (H) (St) (Cm), rfl, (And.intro ⟨_, rfl, rfl⟩ (And.intro ⟨_, rfl, rfl⟩ (And.intro ⟨_, rfl, rfl⟩ (And.intro ⟨_, rfl, rfl⟩ (And.intro ⟨_, rfl, rfl⟩ (And.intro ⟨_, rfl, rfl⟩ (And.intro ⟨_, rfl, rfl⟩ (And.intro ⟨_, rfl, rfl⟩ (And.intro ⟨_, rfl, rfl⟩ (And.intro ⟨_, rfl, rfl⟩ (And.intro ⟨_, rfl, rfl⟩ trivial))))))))))), rfl, ?_⟩
          refine z_aload_n hX 0 dA_seal_111 rfl rfl ?_
          refine z_iconst hX (bN true) dA_seal_112 rfl ?_
          refine z_put hX 0 6 rfl rfl (zu inA) tyA tyA_ok nmA (by decide) (List.mem_cons_of_mem _ mw_213) (Or.inl rfl) rfl (bN_n _) (bN_f _) (Nat.le_of_ble_eq_true rfl) dA_seal_113 ?_
          refine z_aload_n hX 0 dA_seal_116 rfl rfl ?_
          refine z_get hX 0 4 rfl rfl (zu inA) (by decide) (List.mem_cons_of_mem _ mw_211) rfl dA_seal_117 ?_
          refine z_get hX 15 8 rfl rfl (zu inK) (by decide) (List.mem_cons_of_mem _ mw_160) rfl dA_seal_120 ?_
          refine z_iret hX rfl rfl rfl rfl dA_seal_123 ?_
          exact ⟨fun hc => zbf hc h4, fun _ => ⟨met, look, sq, hq, bq, fq, k, hrun, fun hc => zbf hcc hc, fun _ => ⟨V1, R1, SV1, W1, hN, hSV, fun hc => absurd hc (by omega), fun _ => ⟨dep1, ord1, grp1, has1, O2, M2, grp3, has3, S5, B1, hdep, hord, hgw, hst, hg3, hsa, rfl, rfl⟩⟩⟩⟩
        · refine z_bipush hX (-3) dA_seal_59 (by decide) ?_
          refine z_iret hX rfl rfl rfl rfl dA_seal_61 ?_
          exact ⟨fun hc => zbf hc h4, fun _ => ⟨met, look, sq, hq, bq, fq, k, hrun, fun hc => zbf hcc hc, fun _ => ⟨V1, R1, SV1, W1, hN, hSV, fun _ => ⟨rfl, rfl⟩, fun hc => absurd hc (by omega)⟩⟩⟩
      · have hcc : (zallb n (fun x => decide (met x ≠ 0)) && zallb n (sp_it (fun _ => sr_r fr to none m) (n - 1) (zS0 1 none))) = false := by rw [h33, Bool.and_false]
        refine z_bipush hX (-2) dA_seal_36 (by decide) ?_
        refine z_iret hX rfl rfl rfl rfl dA_seal_38 ?_
        exact ⟨fun hc => zbf hc h4, fun _ => ⟨met, look, sq, hq, bq, fq, k, hrun, fun _ => ⟨rfl, rfl⟩, fun hc => zbf hc hcc⟩⟩
  · refine z_iconst hX (-1) dA_seal_7 rfl ?_
    refine z_iret hX rfl rfl rfl rfl dA_seal_8 ?_
    exact ⟨fun _ => ⟨rfl, rfl⟩, fun hc => zbf h4 hc⟩

