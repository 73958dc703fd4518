/-! Links.spread -/
set_option maxHeartbeats 400000 in
set_option maxRecDepth 100000 in
theorem kK_spread (l : Launch) (D : va_G) (cI cZ : ClassId) (lk g s kt rw vl sv bs ko : Nat) (R V SV : Nat → Nat) (B : Nat → Int) (o2 : Nat → Nat) (wy : Nat) (f t n m : Nat) (fr to : Nat → Nat) (ib fi sk lu : Nat) (Mt Op : Nat → Bool) (h : Nat) (bk : Nat → Bool) (fin st lq : Nat → Nat) (hs gr : Nat) (has : Nat → Bool) (grp : Nat → Nat) (eo : Nat) (eord : Nat → Nat) (hn : 2 ≤ n ∧ n ≤ 12) (hm : m ≤ 24) (hok : ∀ e, e < m → fr e < n ∧ to e < n) (heo : ∀ i, i < m → eord i < m) : zM l yK_spread wK_spread rK_spread D zCl (zTy cI cZ) zNW 0 0 [.ref lk, .ref eo] (wK cI lk g s kt rw vl sv bs ko (R) (V) (SV) (B) (o2) (wy) ++ wG cI g f t n m fr to ++ wS cI cZ s g ib fi sk lu Mt Op h bk fin st lq ++ wT cI cZ kt g hs gr (has) (grp) ++ [(eo, .inl (cI, 24, .inl (aN eord)))]) (fun v wn => v = none ∧ wn = wK cI lk g s kt rw vl sv bs ko (R) (V) (SV) ((sp_it (fun _ => sa_r fr to (sp_it (st_g fr to (sp_it (st_f bk eord) m (o2, 0)).1 n) (sp_it (st_f bk eord) m (o2, 0)).2 (sj_join n (zid grp n) 0 1, has)).2 (fun x => (V x : Int)) m) (n - 1) ((fun b => decide (b = 0 ∨ b = 1)), B)).2) ((sp_it (st_f bk eord) m (o2, 0)).1) (wy) ++ wG cI g f t n m fr to ++ wS cI cZ s g ib fi sk lu Mt Op h bk fin st lq ++ wT cI cZ kt g hs gr ((sp_it (st_g fr to (sp_it (st_f bk eord) m (o2, 0)).1 n) (sp_it (st_f bk eord) m (o2, 0)).2 (sj_join n (zid grp n) 0 1, has)).2) ((sp_it (st_g fr to (sp_it (st_f bk eord) m (o2, 0)).1 n) (sp_it (st_f bk eord) m (o2, 0)).2 (sj_join n (zid grp n) 0 1, has)).1) ++ [(eo, .inl (cI, 24, .inl (aN eord)))]) := by
  have hmany : (sp_it (st_f bk eord) m (o2, 0)).2 ≤ m := st_f_le bk eord o2 m
  have ho2 : ∀ i, i < (sp_it (st_f bk eord) m (o2, 0)).2 → (sp_it (st_f bk eord) m (o2, 0)).1 i < 24 ∧ fr ((sp_it (st_f bk eord) m (o2, 0)).1 i) < n ∧ to ((sp_it (st_f bk eord) m (o2, 0)).1 i) < n := st_f_in (P := fun x => x < 24 ∧ fr x < n ∧ to x < n) (fun i hi => by
    have h1 := heo i hi
    have h2 := hok _ h1
    exact ⟨by omega, h2.1, h2.2⟩) m (Nat.le_refl m)
  refine z_met2 cK_spread 5 none rfl rfl (Nat.le_of_ble_eq_true rfl) rfl (fun Z hX => ?_)
  show Z 0 0 0 [some (.ref lk), some (.ref eo), none, none, none] [] (wK cI lk g s kt rw vl sv bs ko (R) (V) (SV) (B) (o2) (wy) ++ wG cI g f t n m fr to ++ wS cI cZ s g ib fi sk lu Mt Op h bk fin st lq ++ wT cI cZ kt g hs gr (has) (grp) ++ [(eo, .inl (cI, 24, .inl (aN eord)))])
  refine z_aload_n hX 0 dK_spread_0 rfl rfl ?_
  refine z_get hX 0 2 rfl rfl (zu inK) (by decide) (List.mem_cons_of_mem _ mw_153) rfl dK_spread_1 ?_
  refine z_aload_n hX 0 dK_spread_4 rfl rfl ?_
  refine z_get hX 0 7 rfl rfl (zu inK) (by decide) (List.mem_cons_of_mem _ mw_158) rfl dK_spread_5 ?_
  refine z_aload_n hX 0 dK_spread_8 rfl rfl ?_
  refine z_aload_n hX 1 dK_spread_9 rfl rfl ?_
  refine z_Vy hX (kK_leaveOutBack l D cI cZ lk g s kt rw vl sv bs ko (R) (V) (SV) (B) (o2) (wy) f t n m fr to ib fi sk lu Mt Op h bk fin st lq eo eord hn hm hok (fun i hi => by have := heo i hi; omega)) mw_354 mw_356 mp_1_9 mw_7 mw_357 rfl rfl ⟨rfl, by decide, by decide, rfl⟩ (by decide) 0 rfl rfl rfl rfl (Nat.le_of_ble_eq_true rfl) dK_spread_10 (by decide) [0, 1, 2, 3, 4, 5, 6, 7, 8, 9, 10, 11, 12, 13, 17] rfl rfl [14, 15, 16] 18 (by decide) (by decide) (fun v wn hv => ?_)
  obtain ⟨rfl, rfl⟩ := hv
  refine ⟨wK cI lk g s kt rw vl sv bs ko (R) (V) (SV) (B) ((sp_it (st_f bk eord) m (o2, 0)).1) (wy) ++ wG cI g f t n m fr to ++ wS cI cZ s g ib fi sk lu Mt Op h bk fin st lq ++ wT cI cZ kt g hs gr (has) (grp) ++ [(eo, .inl (cI, 24, .inl (aN eord)))], rfl, (And.intro ⟨_, rfl, rfl⟩ (And.intro ⟨_, rfl, rfl⟩ (And.intro ⟨_, rfl, rfl⟩ trivial))), rfl, ?_⟩
  refine z_Vy hX (kT_grow l D cI cZ kt g hs gr has grp f t n m fr to ko (sp_it (st_f bk eord) m (o2, 0)).1 (sp_it (st_f bk eord) m (o2, 0)).2 hn (Nat.le_trans hmany hm) ho2) mw_358 mw_333 mw_334 mw_6 mw_335 rfl rfl ⟨rfl, by decide, by decide, rfl⟩ (by decide) 14 rfl rfl rfl rfl (Nat.le_of_ble_eq_true rfl) dK_spread_13 (by decide) [14, 15, 16, 6, 7, 8, 5] rfl rfl [0, 1, 2, 3, 4, 9, 10, 11, 12, 13, 17] 18 (by decide) (by decide) (fun v wn hv => ?_)
  obtain ⟨rfl, rfl⟩ := hv
  refine ⟨wK cI lk g s kt rw vl sv bs ko (R) (V) (SV) (B) ((sp_it (st_f bk eord) m (o2, 0)).1) (wy) ++ wG cI g f t n m fr to ++ wS cI cZ s g ib fi sk lu Mt Op h bk fin st lq ++ wT cI cZ kt g hs gr ((sp_it (st_g fr to (sp_it (st_f bk eord) m (o2, 0)).1 n) (sp_it (st_f bk eord) m (o2, 0)).2 (sj_join n (zid grp n) 0 1, has)).2) ((sp_it (st_g fr to (sp_it (st_f bk eord) m (o2, 0)).1 n) (sp_it (st_f bk eord) m (o2, 0)).2 (sj_join n (zid grp n) 0 1, has)).1) ++ [(eo, .inl (cI, 24, .inl (aN eord)))], rfl, (And.intro ⟨_, rfl, rfl⟩ (And.intro ⟨_, rfl, rfl⟩ (And.intro ⟨_, rfl, rfl⟩ (And.intro ⟨_, rfl, rfl⟩ (And.intro ⟨_, rfl, rfl⟩ (And.intro ⟨_, rfl, rfl⟩ (And.intro ⟨_, rfl, rfl⟩ (And.intro ⟨_, rfl, rfl⟩ (And.intro ⟨_, rfl, rfl⟩ (And.intro ⟨_, rfl, rfl⟩ (And.intro ⟨_, rfl, rfl⟩ trivial))))))))))), rfl, ?_⟩
  have key : ∀ (hs2 : Nat → Bool) (gp2 : Nat → Nat), hs2 = (sp_it (st_g fr to (sp_it (st_f bk eord) m (o2, 0)).1 n) (sp_it (st_f bk eord) m (o2, 0)).2 (sj_join n (zid grp n) 0 1, has)).2 → gp2 = (sp_it (st_g fr to (sp_it (st_f bk eord) m (o2, 0)).1 n) (sp_it (st_f bk eord) m (o2, 0)).2 (sj_join n (zid grp n) 0 1, has)).1 → Z 0 0 16 [some (.ref lk), some (.ref eo), none, none, none] [] (wK cI lk g s kt rw vl sv bs ko (R) (V) (SV) (B) ((sp_it (st_f bk eord) m (o2, 0)).1) (wy) ++ wG cI g f t n m fr to ++ wS cI cZ s g ib fi sk lu Mt Op h bk fin st lq ++ wT cI cZ kt g hs gr (hs2) (gp2) ++ [(eo, .inl (cI, 24, .inl (aN eord)))]) := by
    intro hs2 gp2 e1 e2
    refine z_iconst hX (nI 0) dK_spread_16 rfl ?_
    refine z_Nr hX (kA_bit l D cI cZ 0 (by omega)) "SpanningProbes" mw_261 (by decide) mw_1 mw_260 rfl rfl ⟨by decide, by decide, rfl⟩ (by decide) rfl rfl (Nat.le_of_ble_eq_true rfl) dK_spread_17 (by decide) [] rfl rfl (fun v wn hv => ?_)
    obtain ⟨rfl, rfl⟩ := hv
    refine ⟨rfl, ?_⟩
    refine z_iconst hX (nI 1) dK_spread_20 rfl ?_
    refine z_Nr hX (kA_bit l D cI cZ 1 (by omega)) "SpanningProbes" mw_261 (by decide) mw_1 mw_260 rfl rfl ⟨by decide, by decide, rfl⟩ (by decide) rfl rfl (Nat.le_of_ble_eq_true rfl) dK_spread_21 (by decide) [] rfl rfl (fun v wn hv => ?_)
    obtain ⟨rfl, rfl⟩ := hv
    refine ⟨rfl, ?_⟩
    refine z_ior hX dK_spread_24 ?_
    rw [bS_01]
    refine z_istore_n hX 2 dK_spread_25 rfl (by decide) ?_
    refine z_iconst hX (nI 1) dK_spread_26 rfl ?_
    refine z_istore_n hX 3 dK_spread_27 rfl (by decide) ?_
    have hloop : ∀ j, j ≤ n - 1 → ∀ Sj Bj, sp_it (fun _ => sa_r fr to hs2 (fun x => (V x : Int)) m) j ((fun b => decide (b = 0 ∨ b = 1)), B) = (Sj, Bj) → Z 0 0 28 [some (.ref lk), some (.ref eo), some (.int (bS Sj)), some (.int (nI (j + 1))), none] [] (wK cI lk g s kt rw vl sv bs ko (R) (V) (SV) (Bj) ((sp_it (st_f bk eord) m (o2, 0)).1) (wy) ++ wG cI g f t n m fr to ++ wS cI cZ s g ib fi sk lu Mt Op h bk fin st lq ++ wT cI cZ kt g hs gr (hs2) (gp2) ++ [(eo, .inl (cI, 24, .inl (aN eord)))]) := by
      refine zloop (P := fun j => ∀ Sj Bj, sp_it (fun _ => sa_r fr to hs2 (fun x => (V x : Int)) m) j ((fun b => decide (b = 0 ∨ b = 1)), B) = (Sj, Bj) → Z 0 0 28 [some (.ref lk), some (.ref eo), some (.int (bS Sj)), some (.int (nI (j + 1))), none] [] (wK cI lk g s kt rw vl sv bs ko (R) (V) (SV) (Bj) ((sp_it (st_f bk eord) m (o2, 0)).1) (wy) ++ wG cI g f t n m fr to ++ wS cI cZ s g ib fi sk lu Mt Op h bk fin st lq ++ wT cI cZ kt g hs gr (hs2) (gp2) ++ [(eo, .inl (cI, 24, .inl (aN eord)))])) (n - 1) (fun j hj ih => ?_)
      intro Sj Bj hx
      refine z_iload_n hX 3 dK_spread_28 rfl rfl ?_
      refine z_aload_n hX 0 dK_spread_29 rfl rfl ?_
      refine z_get hX 0 0 rfl rfl (zu inK) (by decide) (List.mem_cons_of_mem _ mw_151) rfl dK_spread_30 ?_
      refine z_get hX 6 0 rfl rfl (zu inG) (by decide) (List.mem_cons_of_mem _ mw_35) rfl dK_spread_33 ?_
      refine z_icmp_geN hX 87 (by omega) (by omega) dK_spread_36 rfl (fun h36 => ?_) (fun h36 => ?_)
      · refine z_vret hX rfl rfl rfl dK_spread_87 ?_
        refine ⟨rfl, ?_⟩
        rw [← e1, ← e2, show n - 1 = j by omega, hx]
      · refine z_iconst hX (nI 0) dK_spread_39 rfl ?_
        refine z_istore hX 4 dK_spread_40 (by decide) ?_
        have hloop2 : ∀ e, e ≤ m → ∀ Se Be, sp_it (sa_s fr to hs2 (fun x => (V x : Int))) e (sp_it (fun _ => sa_r fr to hs2 (fun x => (V x : Int)) m) j ((fun b => decide (b = 0 ∨ b = 1)), B)) = (Se, Be) → Z 0 0 42 [some (.ref lk), some (.ref eo), some (.int (bS Se)), some (.int (nI (j + 1))), some (.int (nI e))] [] (wK cI lk g s kt rw vl sv bs ko (R) (V) (SV) (Be) ((sp_it (st_f bk eord) m (o2, 0)).1) (wy) ++ wG cI g f t n m fr to ++ wS cI cZ s g ib fi sk lu Mt Op h bk fin st lq ++ wT cI cZ kt g hs gr (hs2) (gp2) ++ [(eo, .inl (cI, 24, .inl (aN eord)))]) := by
          refine zloop (P := fun e => ∀ Se Be, sp_it (sa_s fr to hs2 (fun x => (V x : Int))) e (sp_it (fun _ => sa_r fr to hs2 (fun x => (V x : Int)) m) j ((fun b => decide (b = 0 ∨ b = 1)), B)) = (Se, Be) → Z 0 0 42 [some (.ref lk), some (.ref eo), some (.int (bS Se)), some (.int (nI (j + 1))), some (.int (nI e))] [] (wK cI lk g s kt rw vl sv bs ko (R) (V) (SV) (Be) ((sp_it (st_f bk eord) m (o2, 0)).1) (wy) ++ wG cI g f t n m fr to ++ wS cI cZ s g ib fi sk lu Mt Op h bk fin st lq ++ wT cI cZ kt g hs gr (hs2) (gp2) ++ [(eo, .inl (cI, 24, .inl (aN eord)))])) m (fun e he ih2 => ?_)
          intro Se Be hx2
          refine z_iload hX 4 dK_spread_42 rfl ?_
          refine z_aload_n hX 0 dK_spread_44 rfl rfl ?_
          refine z_get hX 0 0 rfl rfl (zu inK) (by decide) (List.mem_cons_of_mem _ mw_151) rfl dK_spread_45 ?_
          refine z_get hX 6 3 rfl rfl (zu inG) (by decide) (List.mem_cons_of_mem _ mw_56) rfl dK_spread_48 ?_
          refine z_icmp_geN hX 81 (by omega) (by omega) dK_spread_51 rfl (fun h51 => ?_) (fun h51 => ?_)
          · refine z_iinc hX 3 dK_spread_81 rfl (zi_1 _) (by decide) ?_
            refine z_goto hX 28 dK_spread_84 rfl ?_
            refine z_le2 hX (ih (by omega) Se Be ?_) (And.intro rfl (And.intro rfl (And.intro rfl (And.intro rfl trivial))))
            rw [← hx2, show e = m by omega]
            rfl
          · refine z_aload_n hX 0 dK_spread_54 rfl rfl ?_
            refine z_get hX 0 2 rfl rfl (zu inK) (by decide) (List.mem_cons_of_mem _ mw_153) rfl dK_spread_55 ?_
            refine z_get hX 14 1 rfl rfl (zu inT) (by decide) (List.mem_cons_of_mem _ mw_134) rfl dK_spread_58 ?_
            refine z_iload hX 4 dK_spread_61 rfl ?_
            refine z_ldB hX 15 1 _ rfl rfl rfl (by omega) (by decide) dK_spread_63 ?_
            refine z_if_eqB hX 75 dK_spread_64 rfl (fun h64 => ?_) (fun h64 => ?_)
            · have hs3 : sp_it (sa_s fr to hs2 (fun x => (V x : Int))) (e + 1) (sp_it (fun _ => sa_r fr to hs2 (fun x => (V x : Int)) m) j ((fun b => decide (b = 0 ∨ b = 1)), B)) = (Se, Be) := (za_no h64).trans hx2
              refine z_iinc hX 4 dK_spread_75 rfl (zi_1 _) (by decide) ?_
              refine z_goto hX 42 dK_spread_78 rfl ?_
              exact ih2 (by omega) _ _ hs3
            · refine z_aload_n hX 0 dK_spread_67 rfl rfl ?_
              refine z_iload hX 4 dK_spread_68 rfl ?_
              refine z_iload_n hX 2 dK_spread_70 rfl rfl ?_
              refine z_Vy hX (kK_spreadOver l D cI cZ lk g s kt rw vl sv bs ko (R) (V) (SV) (Be) ((sp_it (st_f bk eord) m (o2, 0)).1) (wy) f t n m fr to ib fi sk lu Mt Op h bk fin st lq e (by omega) Se hn hm hok) mw_360 mw_362 mp_1_10 mw_7 mw_363 rfl rfl ⟨rfl, by decide, by decide, rfl⟩ (by decide) 0 rfl rfl rfl rfl (Nat.le_of_ble_eq_true rfl) dK_spread_71 (by decide) [0, 1, 2, 3, 4, 5, 6, 7, 8, 9, 10, 11, 12, 13] rfl rfl [14, 15, 16, 17] 18 (by decide) (by decide) (fun v wn hv => ?_)
              obtain ⟨S3, B3, h3⟩ : ∃ S3 B3, za fr to V e (Se, Be) = (S3, B3) := ⟨_, _, rfl⟩
              rw [h3] at hv
              obtain ⟨rfl, rfl⟩ := hv
              refine ⟨wK cI lk g s kt rw vl sv bs ko (R) (V) (SV) (B3) ((sp_it (st_f bk eord) m (o2, 0)).1) (wy) ++ wG cI g f t n m fr to ++ wS cI cZ s g ib fi sk lu Mt Op h bk fin st lq ++ wT cI cZ kt g hs gr (hs2) (gp2) ++ [(eo, .inl (cI, 24, .inl (aN eord)))], rfl, (And.intro ⟨_, rfl, rfl⟩ (And.intro ⟨_, rfl, rfl⟩ (And.intro ⟨_, rfl, rfl⟩ (And.intro ⟨_, rfl, rfl⟩ trivial)))), rfl, ?_⟩
              have hs3 : sp_it (sa_s fr to hs2 (fun x => (V x : Int))) (e + 1) (sp_it (fun _ => sa_r fr to hs2 (fun x => (V x : Int)) m) j ((fun b => decide (b = 0 ∨ b = 1)), B)) = (S3, B3) := by
                rw [← h3, ← hx2]
                exact za_has h64
              refine z_istore_n hX 2 dK_spread_74 rfl (by decide) ?_
              refine z_iinc hX 4 dK_spread_75 rfl (zi_1 _) (by decide) ?_
              refine z_goto hX 42 dK_spread_78 rfl ?_
              exact ih2 (by omega) _ _ hs3
        exact hloop2 0 (Nat.zero_le _) _ _ hx
    exact hloop 0 (Nat.zero_le _) _ _ rfl
  exact key _ _ rfl rfl

