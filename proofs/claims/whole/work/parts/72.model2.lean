/-! the reference: look, spread, connected -/
set_option maxHeartbeats 400000 in
set_option maxRecDepth 100000 in
theorem kM_look (l : Launch) (D : va_G) (cI cZ : ClassId) (ax : Nat) (r : Nat → Nat) (n m : Nat) (sl : Bool) (pr wy fo : Nat) (ru : Bool) (pl pk : Nat) (rs es : Int) (fr nx : Nat → Nat) (b : Nat) (hb : b < 12) (hm : m ≤ 24) (hfr : ∀ e, e < m → fr e < 2147483648) (hnx : nx b ≤ m) : zM l yM_look wM_look rM_look D zCl (zTy cI cZ) zNW 0 0 [.ref ax, .int (nI b)] ([mO ax r (n) (m) (sl) (pr) (wy) (fo) (ru) (pl) (pk) (rs) (es), (r 2, .inl (cI, 24, .inl (aN (fr)))), (r 6, .inl (cI, 12, .inl (aN (nx))))]) (fun v wn => v = some (.int (nI (sg_nx fr b (m - nx b) (nx b)))) ∧ wn = [mO ax r (n) (m) (sl) (pr) (wy) (fo) (ru) (pl) (pk) (rs) (es), (r 2, .inl (cI, 24, .inl (aN (fr)))), (r 6, .inl (cI, 12, .inl (aN (va_up nx b (sg_nx fr b (m - nx b) (nx b) + 1)))))]) := by
  refine z_met2 cM_look 3 (some .int) rfl rfl (Nat.le_of_ble_eq_true rfl) rfl (fun Z hX => ?_)
  show Z 0 0 0 [some (.ref ax), some (.int (nI b)), none] [] ([mO ax r (n) (m) (sl) (pr) (wy) (fo) (ru) (pl) (pk) (rs) (es), (r 2, .inl (cI, 24, .inl (aN (fr)))), (r 6, .inl (cI, 12, .inl (aN (nx))))])
  refine z_aload_n hX 0 dM_look_0 rfl rfl ?_
  refine z_get hX 0 6 rfl rfl (zu inM) (by decide) (List.mem_cons_of_mem _ mw_558) rfl dM_look_1 ?_
  refine z_iload_n hX 1 dM_look_4 rfl rfl ?_
  refine z_ldN hX 2 0 _ rfl rfl rfl (by omega) (by decide) dM_look_5 ?_
  refine z_istore_n hX 2 dM_look_6 rfl (by decide) ?_
  have hloop : ∀ i, i ≤ m → nx b ≤ i → sg_nx fr b (m - i) i = sg_nx fr b (m - nx b) (nx b) → Z 0 0 7 [some (.ref ax), some (.int (nI b)), some (.int (nI i))] [] ([mO ax r (n) (m) (sl) (pr) (wy) (fo) (ru) (pl) (pk) (rs) (es), (r 2, .inl (cI, 24, .inl (aN (fr)))), (r 6, .inl (cI, 12, .inl (aN (nx))))]) := by
    refine zloop (P := fun i => nx b ≤ i → sg_nx fr b (m - i) i = sg_nx fr b (m - nx b) (nx b) → Z 0 0 7 [some (.ref ax), some (.int (nI b)), some (.int (nI i))] [] ([mO ax r (n) (m) (sl) (pr) (wy) (fo) (ru) (pl) (pk) (rs) (es), (r 2, .inl (cI, 24, .inl (aN (fr)))), (r 6, .inl (cI, 12, .inl (aN (nx))))])) m (fun i hi ih hlo hg => ?_)
    refine z_iload_n hX 2 dM_look_7 rfl rfl ?_
    refine z_aload_n hX 0 dM_look_8 rfl rfl ?_
    refine z_get hX 0 1 rfl rfl (zu inM) (by decide) (List.mem_cons_of_mem _ mw_553) rfl dM_look_9 ?_
    refine z_icmp_geN hX 32 (by omega) (by omega) dM_look_12 rfl (fun h12 => ?_) (fun h12 => ?_)
    · have hG : sg_nx fr b (m - nx b) (nx b) = i := by rw [← hg, sg_nx_end h12]
      refine z_aload_n hX 0 dM_look_32 rfl rfl ?_
      refine z_get hX 0 6 rfl rfl (zu inM) (by decide) (List.mem_cons_of_mem _ mw_558) rfl dM_look_33 ?_
      refine z_iload_n hX 1 dM_look_36 rfl rfl ?_
      refine z_iload_n hX 2 dM_look_37 rfl rfl ?_
      refine z_iconst hX (nI 1) dM_look_38 rfl ?_
      refine z_iaddN hX dM_look_39 ?_
      refine z_stN hX 2 0 _ _ rfl rfl rfl rfl (by omega) (by decide) dM_look_40 ?_
      refine z_iload_n hX 2 dM_look_41 rfl rfl ?_
      refine z_iret hX rfl rfl rfl rfl dM_look_42 ?_
      rw [hG]
      exact ⟨rfl, rfl⟩
    · have hfi := hfr i h12
      refine z_aload_n hX 0 dM_look_15 rfl rfl ?_
      refine z_get hX 0 2 rfl rfl (zu inM) (by decide) (List.mem_cons_of_mem _ mw_554) rfl dM_look_16 ?_
      refine z_iload_n hX 2 dM_look_19 rfl rfl ?_
      refine z_ldN hX 1 0 _ rfl rfl rfl (by omega) (by decide) dM_look_20 ?_
      refine z_iload_n hX 1 dM_look_21 rfl rfl ?_
      refine z_icmp_eqN hX 32 (by omega) (by omega) dM_look_22 rfl (fun h22 => ?_) (fun h22 => ?_)
      · have hG : sg_nx fr b (m - nx b) (nx b) = i := by rw [← hg, sg_nx_hit h12 h22]
        refine z_aload_n hX 0 dM_look_32 rfl rfl ?_
        refine z_get hX 0 6 rfl rfl (zu inM) (by decide) (List.mem_cons_of_mem _ mw_558) rfl dM_look_33 ?_
        refine z_iload_n hX 1 dM_look_36 rfl rfl ?_
        refine z_iload_n hX 2 dM_look_37 rfl rfl ?_
        refine z_iconst hX (nI 1) dM_look_38 rfl ?_
        refine z_iaddN hX dM_look_39 ?_
        refine z_stN hX 2 0 _ _ rfl rfl rfl rfl (by omega) (by decide) dM_look_40 ?_
        refine z_iload_n hX 2 dM_look_41 rfl rfl ?_
        refine z_iret hX rfl rfl rfl rfl dM_look_42 ?_
        rw [hG]
        exact ⟨rfl, rfl⟩
      · refine z_iload_n hX 2 dM_look_25 rfl rfl ?_
        refine z_iconst hX (nI 1) dM_look_26 rfl ?_
        refine z_iaddN hX dM_look_27 ?_
        refine z_istore_n hX 2 dM_look_28 rfl (by decide) ?_
        refine z_goto hX 7 dM_look_29 rfl ?_
        exact ih h12 (by omega) (by rw [← hg, sg_nx_miss h12 h22])
  exact hloop (nx b) hnx (Nat.le_refl _) rfl

set_option maxHeartbeats 400000 in
set_option maxRecDepth 100000 in
theorem kM_spread (l : Launch) (D : va_G) (cI cZ : ClassId) (ax : Nat) (r : Nat → Nat) (n m : Nat) (sl : Bool) (pr wy fo : Nat) (ru : Bool) (pl pk : Nat) (rs es : Int) (fr to : Nat → Nat) (S : Nat → Bool) (bar : Option Nat) (hbar : ∀ b, bar = some b → b < 2147483648) (hn : 2 ≤ n ∧ n ≤ 12) (hm : m ≤ 24) (hok : ∀ e, e < m → fr e < n ∧ to e < n) : zM l yM_spread wM_spread rM_spread D zCl (zTy cI cZ) zNW 0 0 [.ref ax, .int (zbar bar)] ([mO ax r (n) (m) (sl) (pr) (wy) (fo) (ru) (pl) (pk) (rs) (es), (r 2, .inl (cI, 24, .inl (aN (fr)))), (r 3, .inl (cI, 24, .inl (aN (to)))), (r 9, .inl (cZ, 12, .inl (aB (S))))]) (fun v wn => v = none ∧ wn = [mO ax r (n) (m) (sl) (pr) (wy) (fo) (ru) (pl) (pk) (rs) (es), (r 2, .inl (cI, 24, .inl (aN (fr)))), (r 3, .inl (cI, 24, .inl (aN (to)))), (r 9, .inl (cZ, 12, .inl (aB (sp_it (fun _ => sr_r fr to bar m) n S))))]) := by
  refine z_met2 cM_spread 4 none rfl rfl (Nat.le_of_ble_eq_true rfl) rfl (fun Z hX => ?_)
  show Z 0 0 0 [some (.ref ax), some (.int (zbar bar)), none, none] [] ([mO ax r (n) (m) (sl) (pr) (wy) (fo) (ru) (pl) (pk) (rs) (es), (r 2, .inl (cI, 24, .inl (aN (fr)))), (r 3, .inl (cI, 24, .inl (aN (to)))), (r 9, .inl (cZ, 12, .inl (aB (S))))])
  refine z_iconst hX (nI 0) dM_spread_0 rfl ?_
  refine z_istore_n hX 2 dM_spread_1 rfl (by decide) ?_
  refine zloop (P := fun j => Z 0 0 2 [some (.ref ax), some (.int (zbar bar)), some (.int (nI j)), none] [] ([mO ax r (n) (m) (sl) (pr) (wy) (fo) (ru) (pl) (pk) (rs) (es), (r 2, .inl (cI, 24, .inl (aN (fr)))), (r 3, .inl (cI, 24, .inl (aN (to)))), (r 9, .inl (cZ, 12, .inl (aB (sp_it (fun _ => sr_r fr to bar m) j S))))])) n (fun j hj ih => ?_) 0 (Nat.zero_le _)
  refine z_iload_n hX 2 dM_spread_2 rfl rfl ?_
  refine z_aload_n hX 0 dM_spread_3 rfl rfl ?_
  refine z_get hX 0 0 rfl rfl (zu inM) (by decide) (List.mem_cons_of_mem _ mw_552) rfl dM_spread_4 ?_
  refine z_icmp_geN hX 68 (by omega) (by omega) dM_spread_7 rfl (fun h7 => ?_) (fun h7 => ?_)
  · refine z_vret hX rfl rfl rfl dM_spread_68 ?_
    have him : j = n := by omega
    subst him
    exact ⟨rfl, rfl⟩
  · refine z_iconst hX (nI 0) dM_spread_10 rfl ?_
    refine z_istore_n hX 3 dM_spread_11 rfl (by decide) ?_
    refine zloop (P := fun e => Z 0 0 12 [some (.ref ax), some (.int (zbar bar)), some (.int (nI j)), some (.int (nI e))] [] ([mO ax r (n) (m) (sl) (pr) (wy) (fo) (ru) (pl) (pk) (rs) (es), (r 2, .inl (cI, 24, .inl (aN (fr)))), (r 3, .inl (cI, 24, .inl (aN (to)))), (r 9, .inl (cZ, 12, .inl (aB (sp_it (sr_s fr to bar) e (sp_it (fun _ => sr_r fr to bar m) j S)))))])) m (fun e he ih2 => ?_) 0 (Nat.zero_le _)
    refine z_iload_n hX 3 dM_spread_12 rfl rfl ?_
    refine z_aload_n hX 0 dM_spread_13 rfl rfl ?_
    refine z_get hX 0 1 rfl rfl (zu inM) (by decide) (List.mem_cons_of_mem _ mw_553) rfl dM_spread_14 ?_
    refine z_icmp_geN hX 62 (by omega) (by omega) dM_spread_17 rfl (fun h17 => ?_) (fun h17 => ?_)
    · refine z_iinc hX 2 dM_spread_62 rfl (zi_1 _) (by decide) ?_
      refine z_goto hX 2 dM_spread_65 rfl ?_
      have hz := ih (by omega)
      have hje : sp_it (fun _ => sr_r fr to bar m) (j + 1) S = sp_it (sr_s fr to bar) e (sp_it (fun _ => sr_r fr to bar m) j S) := by rw [show e = m by omega]; rfl
      rw [hje] at hz
      exact z_le2 hX hz (And.intro rfl (And.intro rfl (And.intro rfl trivial)))
    · have hoke := hok e (by omega)
      refine z_aload_n hX 0 dM_spread_20 rfl rfl ?_
      refine z_get hX 0 2 rfl rfl (zu inM) (by decide) (List.mem_cons_of_mem _ mw_554) rfl dM_spread_21 ?_
      refine z_iload_n hX 3 dM_spread_24 rfl rfl ?_
      refine z_ldN hX 1 0 _ rfl rfl rfl (by omega) (by decide) dM_spread_25 ?_
      refine z_iload_n hX 1 dM_spread_26 rfl rfl ?_
      refine z_icmp_eq hX 56 dM_spread_27 rfl (fun h27 => ?_) (fun h27 => ?_)
      · have hs2 : sp_it (sr_s fr to bar) (e + 1) (sp_it (fun _ => sr_r fr to bar m) j S) = sp_it (sr_s fr to bar) e (sp_it (fun _ => sr_r fr to bar m) j S) := if_neg (fun hc => hc.2 ((zbar_eq (by omega) hbar).mp h27))
        refine z_iinc hX 3 dM_spread_56 rfl (zi_1 _) (by decide) ?_
        refine z_goto hX 12 dM_spread_59 rfl ?_
        have hz := ih2 (by omega)
        rw [hs2] at hz
        exact hz
      · refine z_aload_n hX 0 dM_spread_30 rfl rfl ?_
        refine z_get hX 0 9 rfl rfl (zu inM) (by decide) (List.mem_cons_of_mem _ mw_561) rfl dM_spread_31 ?_
        refine z_aload_n hX 0 dM_spread_34 rfl rfl ?_
        refine z_get hX 0 3 rfl rfl (zu inM) (by decide) (List.mem_cons_of_mem _ mw_555) rfl dM_spread_35 ?_
        refine z_iload_n hX 3 dM_spread_38 rfl rfl ?_
        refine z_ldN hX 2 0 _ rfl rfl rfl (by omega) (by decide) dM_spread_39 ?_
        refine z_ldB hX 3 1 _ rfl rfl rfl (by omega) (by decide) dM_spread_40 ?_
        refine z_if_eqB hX 56 dM_spread_41 rfl (fun h41 => ?_) (fun h41 => ?_)
        · have hs2 : sp_it (sr_s fr to bar) (e + 1) (sp_it (fun _ => sr_r fr to bar m) j S) = sp_it (sr_s fr to bar) e (sp_it (fun _ => sr_r fr to bar m) j S) := if_neg (fun hc => by rw [h41] at hc; exact absurd hc.1 (by decide))
          refine z_iinc hX 3 dM_spread_56 rfl (zi_1 _) (by decide) ?_
          refine z_goto hX 12 dM_spread_59 rfl ?_
          have hz := ih2 (by omega)
          rw [hs2] at hz
          exact hz
        · have hs2 : sp_it (sr_s fr to bar) (e + 1) (sp_it (fun _ => sr_r fr to bar m) j S) = va_up (sp_it (sr_s fr to bar) e (sp_it (fun _ => sr_r fr to bar m) j S)) (fr e) true := if_pos ⟨h41, fun hc => h27 ((zbar_eq (by omega) hbar).mpr hc)⟩
          refine z_aload_n hX 0 dM_spread_44 rfl rfl ?_
          refine z_get hX 0 9 rfl rfl (zu inM) (by decide) (List.mem_cons_of_mem _ mw_561) rfl dM_spread_45 ?_
          refine z_aload_n hX 0 dM_spread_48 rfl rfl ?_
          refine z_get hX 0 2 rfl rfl (zu inM) (by decide) (List.mem_cons_of_mem _ mw_554) rfl dM_spread_49 ?_
          refine z_iload_n hX 3 dM_spread_52 rfl rfl ?_
          refine z_ldN hX 1 0 _ rfl rfl rfl (by omega) (by decide) dM_spread_53 ?_
          refine z_iconst hX (bN true) dM_spread_54 rfl ?_
          refine z_stB hX 3 1 _ _ rfl rfl rfl rfl (by omega) (by decide) dM_spread_55 ?_
          refine z_iinc hX 3 dM_spread_56 rfl (zi_1 _) (by decide) ?_
          refine z_goto hX 12 dM_spread_59 rfl ?_
          have hz := ih2 (by omega)
          rw [hs2] at hz
          exact hz

set_option maxHeartbeats 400000 in
set_option maxRecDepth 100000 in
theorem kM_connected (l : Launch) (D : va_G) (cI cZ : ClassId) (ax : Nat) (r : Nat → Nat) (n m : Nat) (sl : Bool) (pr wy fo : Nat) (ru : Bool) (pl pk : Nat) (rs es : Int) (fr to met : Nat → Nat) (S : Nat → Bool) (hmet : ∀ b, b < n → met b < 2147483648) (hn : 2 ≤ n ∧ n ≤ 12) (hm : m ≤ 24) (hok : ∀ e, e < m → fr e < n ∧ to e < n) : zM l yM_connected wM_connected rM_connected D zCl (zTy cI cZ) zNW 0 0 [.ref ax] ([mO ax r (n) (m) (sl) (pr) (wy) (fo) (ru) (pl) (pk) (rs) (es), (r 2, .inl (cI, 24, .inl (aN (fr)))), (r 3, .inl (cI, 24, .inl (aN (to)))), (r 9, .inl (cZ, 12, .inl (aB (S)))), (r 5, .inl (cI, 12, .inl (aN (met))))]) (fun v wn => v = some (.int (bN (zcb (sp_it (fun _ => sr_r fr to none m) n (zmk S n)) met n))) ∧ wn = [mO ax r (n) (m) (sl) (pr) (wy) (fo) (ru) (pl) (pk) (rs) (es), (r 2, .inl (cI, 24, .inl (aN (fr)))), (r 3, .inl (cI, 24, .inl (aN (to)))), (r 9, .inl (cZ, 12, .inl (aB (sp_it (fun _ => sr_r fr to none m) n (zmk S n))))), (r 5, .inl (cI, 12, .inl (aN (met))))]) := by
  refine z_met2 cM_connected 3 (some .boolean) rfl rfl (Nat.le_of_ble_eq_true rfl) rfl (fun Z hX => ?_)
  show Z 0 0 0 [some (.ref ax), none, none] [] ([mO ax r (n) (m) (sl) (pr) (wy) (fo) (ru) (pl) (pk) (rs) (es), (r 2, .inl (cI, 24, .inl (aN (fr)))), (r 3, .inl (cI, 24, .inl (aN (to)))), (r 9, .inl (cZ, 12, .inl (aB (S)))), (r 5, .inl (cI, 12, .inl (aN (met))))])
  refine z_iconst hX (bN true) dM_connected_0 rfl ?_
  refine z_istore_n hX 1 dM_connected_1 rfl (by decide) ?_
  refine z_iconst hX (nI 0) dM_connected_2 rfl ?_
  refine z_istore_n hX 2 dM_connected_3 rfl (by decide) ?_
  have hloop : ∀ i, i ≤ n → Z 0 0 4 [some (.ref ax), some (.int (bN true)), some (.int (nI i))] [] ([mO ax r (n) (m) (sl) (pr) (wy) (fo) (ru) (pl) (pk) (rs) (es), (r 2, .inl (cI, 24, .inl (aN (fr)))), (r 3, .inl (cI, 24, .inl (aN (to)))), (r 9, .inl (cZ, 12, .inl (aB (zmk S i)))), (r 5, .inl (cI, 12, .inl (aN (met))))]) := by
    refine zloop (P := fun i => Z 0 0 4 [some (.ref ax), some (.int (bN true)), some (.int (nI i))] [] ([mO ax r (n) (m) (sl) (pr) (wy) (fo) (ru) (pl) (pk) (rs) (es), (r 2, .inl (cI, 24, .inl (aN (fr)))), (r 3, .inl (cI, 24, .inl (aN (to)))), (r 9, .inl (cZ, 12, .inl (aB (zmk S i)))), (r 5, .inl (cI, 12, .inl (aN (met))))])) n (fun i hi ih => ?_)
    refine z_iload_n hX 2 dM_connected_4 rfl rfl ?_
    refine z_aload_n hX 0 dM_connected_5 rfl rfl ?_
    refine z_get hX 0 0 rfl rfl (zu inM) (by decide) (List.mem_cons_of_mem _ mw_552) rfl dM_connected_6 ?_
    refine z_icmp_geN hX 34 (by omega) (by omega) dM_connected_9 rfl (fun h9 => ?_) (fun h9 => ?_)
    · have him : i = n := by omega
      rw [him]
      refine z_aload_n hX 0 dM_connected_34 rfl rfl ?_
      refine z_iconst hX (-1) dM_connected_35 rfl ?_
      refine z_Vy hX (kM_spread l D cI cZ ax r n m sl pr wy fo ru pl pk rs es fr to (zmk S n) none (fun b hb => by cases hb) hn hm hok) mw_691 mw_693 mp_2_10 mw_9 mw_694 rfl rfl ⟨rfl, by decide, by decide, rfl⟩ (by decide) 0 rfl rfl rfl rfl (Nat.le_of_ble_eq_true rfl) dM_connected_36 (by decide) [0, 1, 2, 3] rfl rfl [4] 5 (by decide) (by decide) (fun v wn hv => ?_)
      obtain ⟨rfl, rfl⟩ := hv
      refine ⟨[mO ax r (n) (m) (sl) (pr) (wy) (fo) (ru) (pl) (pk) (rs) (es), (r 2, .inl (cI, 24, .inl (aN (fr)))), (r 3, .inl (cI, 24, .inl (aN (to)))), (r 9, .inl (cZ, 12, .inl (aB (sp_it (fun _ => sr_r fr to none m) n (zmk S n))))), (r 5, .inl (cI, 12, .inl (aN (met))))], rfl, (And.intro ⟨_, rfl, rfl⟩ trivial), rfl, ?_⟩
      refine z_iconst hX (nI 0) dM_connected_39 rfl ?_
      refine z_istore_n hX 2 dM_connected_40 rfl (by decide) ?_
      refine zloop (P := fun i => Z 0 0 41 [some (.ref ax), some (.int (bN (zcb (sp_it (fun _ => sr_r fr to none m) n (zmk S n)) met i))), some (.int (nI i))] [] ([mO ax r (n) (m) (sl) (pr) (wy) (fo) (ru) (pl) (pk) (rs) (es), (r 2, .inl (cI, 24, .inl (aN (fr)))), (r 3, .inl (cI, 24, .inl (aN (to)))), (r 9, .inl (cZ, 12, .inl (aB (sp_it (fun _ => sr_r fr to none m) n (zmk S n))))), (r 5, .inl (cI, 12, .inl (aN (met))))])) n (fun i hi2 ih2 => ?_) 0 (Nat.zero_le _)
      refine z_iload_n hX 2 dM_connected_41 rfl rfl ?_
      refine z_aload_n hX 0 dM_connected_42 rfl rfl ?_
      refine z_get hX 0 0 rfl rfl (zu inM) (by decide) (List.mem_cons_of_mem _ mw_552) rfl dM_connected_43 ?_
      refine z_icmp_geN hX 84 (by omega) (by omega) dM_connected_46 rfl (fun h46 => ?_) (fun h46 => ?_)
      · refine z_iload_n hX 1 dM_connected_84 rfl rfl ?_
        refine z_iret hX rfl (bN_n _) rfl rfl dM_connected_85 ?_
        have him2 : i = n := by omega
        subst him2
        exact ⟨rfl, rfl⟩
      · have hmi := hmet i (by omega)
        refine z_iload_n hX 1 dM_connected_49 rfl rfl ?_
        refine z_if_eqB hX 76 dM_connected_50 rfl (fun h50 => ?_) (fun h50 => ?_)
        · have hs2 : zcb (sp_it (fun _ => sr_r fr to none m) n (zmk S n)) met (i + 1) = false := zcb_f (fun hc => by rw [h50] at hc; exact absurd hc.1 (by decide))
          refine z_iconst hX (bN false) dM_connected_76 rfl ?_
          refine z_istore_n hX 1 dM_connected_77 rfl (by decide) ?_
          refine z_iinc hX 2 dM_connected_78 rfl (zi_1 _) (by decide) ?_
          refine z_goto hX 41 dM_connected_81 rfl ?_
          have hz := ih2 (by omega)
          rw [hs2] at hz
          exact hz
        · refine z_aload_n hX 0 dM_connected_53 rfl rfl ?_
          refine z_get hX 0 9 rfl rfl (zu inM) (by decide) (List.mem_cons_of_mem _ mw_561) rfl dM_connected_54 ?_
          refine z_iload_n hX 2 dM_connected_57 rfl rfl ?_
          refine z_ldB hX 3 1 _ rfl rfl rfl (by omega) (by decide) dM_connected_58 ?_
          refine z_if_eqB hX 76 dM_connected_59 rfl (fun h59 => ?_) (fun h59 => ?_)
          · have hs2 : zcb (sp_it (fun _ => sr_r fr to none m) n (zmk S n)) met (i + 1) = false := zcb_f (fun hc => by rw [h59] at hc; exact absurd hc.2.1 (by decide))
            refine z_iconst hX (bN false) dM_connected_76 rfl ?_
            refine z_istore_n hX 1 dM_connected_77 rfl (by decide) ?_
            refine z_iinc hX 2 dM_connected_78 rfl (zi_1 _) (by decide) ?_
            refine z_goto hX 41 dM_connected_81 rfl ?_
            have hz := ih2 (by omega)
            rw [hs2] at hz
            exact hz
          · refine z_aload_n hX 0 dM_connected_62 rfl rfl ?_
            refine z_get hX 0 5 rfl rfl (zu inM) (by decide) (List.mem_cons_of_mem _ mw_557) rfl dM_connected_63 ?_
            refine z_iload_n hX 2 dM_connected_66 rfl rfl ?_
            refine z_ldN hX 4 0 _ rfl rfl rfl (by omega) (by decide) dM_connected_67 ?_
            refine z_iconst hX (nI 2) dM_connected_68 rfl ?_
            refine z_icmp_neN hX 76 (by omega) (by omega) dM_connected_69 rfl (fun h69 => ?_) (fun h69 => ?_)
            · have hs2 : zcb (sp_it (fun _ => sr_r fr to none m) n (zmk S n)) met (i + 1) = false := zcb_f (fun hc => h69 hc.2.2)
              refine z_iconst hX (bN false) dM_connected_76 rfl ?_
              refine z_istore_n hX 1 dM_connected_77 rfl (by decide) ?_
              refine z_iinc hX 2 dM_connected_78 rfl (zi_1 _) (by decide) ?_
              refine z_goto hX 41 dM_connected_81 rfl ?_
              have hz := ih2 (by omega)
              rw [hs2] at hz
              exact hz
            · have hs2 : zcb (sp_it (fun _ => sr_r fr to none m) n (zmk S n)) met (i + 1) = true := zcb_t h50 h59 h69
              refine z_iconst hX (bN true) dM_connected_72 rfl ?_
              refine z_goto hX 77 dM_connected_73 rfl ?_
              refine z_istore_n hX 1 dM_connected_77 rfl (by decide) ?_
              refine z_iinc hX 2 dM_connected_78 rfl (zi_1 _) (by decide) ?_
              refine z_goto hX 41 dM_connected_81 rfl ?_
              have hz := ih2 (by omega)
              rw [hs2] at hz
              exact hz
    · refine z_aload_n hX 0 dM_connected_12 rfl rfl ?_
      refine z_get hX 0 9 rfl rfl (zu inM) (by decide) (List.mem_cons_of_mem _ mw_561) rfl dM_connected_13 ?_
      refine z_iload_n hX 2 dM_connected_16 rfl rfl ?_
      refine z_iload_n hX 2 dM_connected_17 rfl rfl ?_
      refine z_iconst hX (nI 1) dM_connected_18 rfl ?_
      refine z_icmp_neN hX 26 (by omega) (by omega) dM_connected_19 rfl (fun h19 => ?_) (fun h19 => ?_)
      · have hd1 : decide (i = 1) = false := decide_eq_false h19
        refine z_iconst hX (bN false) dM_connected_26 rfl ?_
        refine z_stB hX 3 1 _ _ rfl rfl rfl rfl (by omega) (by decide) dM_connected_27 ?_
        refine z_iinc hX 2 dM_connected_28 rfl (zi_1 _) (by decide) ?_
        refine z_goto hX 4 dM_connected_31 rfl ?_
        have hz := ih (by omega)
        rw [zmk_up, hd1] at hz
        exact hz
      · have hd1 : decide (i = 1) = true := decide_eq_true h19
        refine z_iconst hX (bN true) dM_connected_22 rfl ?_
        refine z_goto hX 27 dM_connected_23 rfl ?_
        refine z_stB hX 3 1 _ _ rfl rfl rfl rfl (by omega) (by decide) dM_connected_27 ?_
        refine z_iinc hX 2 dM_connected_28 rfl (zi_1 _) (by decide) ?_
        refine z_goto hX 4 dM_connected_31 rfl ?_
        have hz := ih (by omega)
        rw [zmk_up, hd1] at hz
        exact hz
  have hz := hloop 0 (Nat.zero_le _)
  rw [zmk_0] at hz
  exact hz

