/-! the reference: weight, sort, links, note, start, stop -/
set_option maxHeartbeats 400000 in
set_option maxRecDepth 100000 in
theorem kM_weight (l : Launch) (D : va_G) (cI cZ : ClassId) (ax : Nat) (r : Nat → Nat) (n m : Nat) (sl : Bool) (pr wy fo : Nat) (ru : Bool) (pl pk : Nat) (rs es : Int) (fr to dep : Nat → Nat) (e : Nat) (he : e < 24) (h1 : fr e < 12) (h2 : to e < 12) (hd1 : dep (fr e) < 2147483648) (hd2 : dep (to e) < 2147483648) : zM l yM_weight wM_weight rM_weight D zCl (zTy cI cZ) zNW 0 0 [.ref ax, .int (nI e)] ([mO ax r (n) (m) (sl) (pr) (wy) (fo) (ru) (pl) (pk) (rs) (es), (r 2, .inl (cI, 24, .inl (aN (fr)))), (r 3, .inl (cI, 24, .inl (aN (to)))), (r 10, .inl (cI, 12, .inl (aN (dep))))]) (fun v wn => v = some (.int (nI (zwt fr to dep e))) ∧ wn = [mO ax r (n) (m) (sl) (pr) (wy) (fo) (ru) (pl) (pk) (rs) (es), (r 2, .inl (cI, 24, .inl (aN (fr)))), (r 3, .inl (cI, 24, .inl (aN (to)))), (r 10, .inl (cI, 12, .inl (aN (dep))))]) := by
  refine z_met2 cM_weight 4 (some .int) rfl rfl (Nat.le_of_ble_eq_true rfl) rfl (fun Z hX => ?_)
  show Z 0 0 0 [some (.ref ax), some (.int (nI e)), none, none] [] ([mO ax r (n) (m) (sl) (pr) (wy) (fo) (ru) (pl) (pk) (rs) (es), (r 2, .inl (cI, 24, .inl (aN (fr)))), (r 3, .inl (cI, 24, .inl (aN (to)))), (r 10, .inl (cI, 12, .inl (aN (dep))))])
  refine z_aload_n hX 0 dM_weight_0 rfl rfl ?_
  refine z_get hX 0 10 rfl rfl (zu inM) (by decide) (List.mem_cons_of_mem _ mw_562) rfl dM_weight_1 ?_
  refine z_aload_n hX 0 dM_weight_4 rfl rfl ?_
  refine z_get hX 0 2 rfl rfl (zu inM) (by decide) (List.mem_cons_of_mem _ mw_554) rfl dM_weight_5 ?_
  refine z_iload_n hX 1 dM_weight_8 rfl rfl ?_
  refine z_ldN hX 1 0 _ rfl rfl rfl (by omega) (by decide) dM_weight_9 ?_
  refine z_ldN hX 3 0 _ rfl rfl rfl (by omega) (by decide) dM_weight_10 ?_
  refine z_istore_n hX 2 dM_weight_11 rfl (by decide) ?_
  refine z_aload_n hX 0 dM_weight_12 rfl rfl ?_
  refine z_get hX 0 10 rfl rfl (zu inM) (by decide) (List.mem_cons_of_mem _ mw_562) rfl dM_weight_13 ?_
  refine z_aload_n hX 0 dM_weight_16 rfl rfl ?_
  refine z_get hX 0 3 rfl rfl (zu inM) (by decide) (List.mem_cons_of_mem _ mw_555) rfl dM_weight_17 ?_
  refine z_iload_n hX 1 dM_weight_20 rfl rfl ?_
  refine z_ldN hX 2 0 _ rfl rfl rfl (by omega) (by decide) dM_weight_21 ?_
  refine z_ldN hX 3 0 _ rfl rfl rfl (by omega) (by decide) dM_weight_22 ?_
  refine z_istore_n hX 3 dM_weight_23 rfl (by decide) ?_
  refine z_iload_n hX 2 dM_weight_24 rfl rfl ?_
  refine z_iload_n hX 3 dM_weight_25 rfl rfl ?_
  refine z_icmp_geN hX 33 (by omega) (by omega) dM_weight_26 rfl (fun h26 => ?_) (fun h26 => ?_)
  · have hr : zwt fr to dep e = dep (to e) := Nat.min_eq_right h26
    refine z_iload_n hX 3 dM_weight_33 rfl rfl ?_
    refine z_iret hX rfl rfl rfl rfl dM_weight_34 ?_
    exact ⟨by rw [hr], rfl⟩
  · have hr : zwt fr to dep e = dep (fr e) := Nat.min_eq_left (by omega)
    refine z_iload_n hX 2 dM_weight_29 rfl rfl ?_
    refine z_goto hX 34 dM_weight_30 rfl ?_
    refine z_iret hX rfl rfl rfl rfl dM_weight_34 ?_
    exact ⟨by rw [hr], rfl⟩

set_option maxHeartbeats 400000 in
set_option maxRecDepth 100000 in
theorem kM_sort (l : Launch) (D : va_G) (cI cZ : ClassId) (ax : Nat) (r : Nat → Nat) (n m : Nat) (sl : Bool) (pr wy fo : Nat) (ru : Bool) (pl pk : Nat) (rs es : Int) (fr to dep so : Nat → Nat) (hd : ∀ x, x < n → dep x ≤ 24) (hn : 2 ≤ n ∧ n ≤ 12) (hm : m ≤ 24) (hok : ∀ e, e < m → fr e < n ∧ to e < n) : zM l yM_sort wM_sort rM_sort D zCl (zTy cI cZ) zNW 0 0 [.ref ax] ([mO ax r (n) (m) (sl) (pr) (wy) (fo) (ru) (pl) (pk) (rs) (es), (r 2, .inl (cI, 24, .inl (aN (fr)))), (r 3, .inl (cI, 24, .inl (aN (to)))), (r 10, .inl (cI, 12, .inl (aN (dep)))), (r 11, .inl (cI, 24, .inl (aN (so))))]) (fun v wn => v = none ∧ wn = [mO ax r (n) (m) (sl) (pr) (wy) (fo) (ru) (pl) (pk) (rs) (es), (r 2, .inl (cI, 24, .inl (aN (fr)))), (r 3, .inl (cI, 24, .inl (aN (to)))), (r 10, .inl (cI, 12, .inl (aN (dep)))), (r 11, .inl (cI, 24, .inl (aN (so_ref (zwt fr to dep) m so))))]) := by
  refine z_met2 cM_sort 6 none rfl rfl (Nat.le_of_ble_eq_true rfl) rfl (fun Z hX => ?_)
  show Z 0 0 0 [some (.ref ax), none, none, none, none, none] [] ([mO ax r (n) (m) (sl) (pr) (wy) (fo) (ru) (pl) (pk) (rs) (es), (r 2, .inl (cI, 24, .inl (aN (fr)))), (r 3, .inl (cI, 24, .inl (aN (to)))), (r 10, .inl (cI, 12, .inl (aN (dep)))), (r 11, .inl (cI, 24, .inl (aN (so))))])
  refine z_iconst hX (nI 0) dM_sort_0 rfl ?_
  refine z_istore_n hX 1 dM_sort_1 rfl (by decide) ?_
  refine zloop (P := fun e => Z 0 0 2 [some (.ref ax), some (.int (nI e)), none, none, none, none] [] ([mO ax r (n) (m) (sl) (pr) (wy) (fo) (ru) (pl) (pk) (rs) (es), (r 2, .inl (cI, 24, .inl (aN (fr)))), (r 3, .inl (cI, 24, .inl (aN (to)))), (r 10, .inl (cI, 12, .inl (aN (dep)))), (r 11, .inl (cI, 24, .inl (aN (sp_it (fun e s => va_up s (so_rk (zwt fr to dep) m e) e) e so))))])) m (fun e he ih => ?_) 0 (Nat.zero_le _)
  refine z_iload_n hX 1 dM_sort_2 rfl rfl ?_
  refine z_aload_n hX 0 dM_sort_3 rfl rfl ?_
  refine z_get hX 0 1 rfl rfl (zu inM) (by decide) (List.mem_cons_of_mem _ mw_553) rfl dM_sort_4 ?_
  refine z_icmp_geN hX 83 (by omega) (by omega) dM_sort_7 rfl (fun h7 => ?_) (fun h7 => ?_)
  · refine z_vret hX rfl rfl rfl dM_sort_83 ?_
    have hem : e = m := by omega
    subst hem
    exact ⟨rfl, rfl⟩
  · have hwl : ∀ x, x < m → zwt fr to dep x ≤ 24 := fun x hx => by
      have h9 := hd (fr x) (hok x hx).1
      have h8 : zwt fr to dep x ≤ dep (fr x) := Nat.min_le_left _ _
      omega
    have hwe := hwl e (by omega)
    refine z_iconst hX (nI 0) dM_sort_10 rfl ?_
    refine z_istore_n hX 2 dM_sort_11 rfl (by decide) ?_
    refine z_aload_n hX 0 dM_sort_12 rfl rfl ?_
    refine z_iload_n hX 1 dM_sort_13 rfl rfl ?_
    refine z_Vr hX (kM_weight l D cI cZ ax r n m sl pr wy fo ru pl pk rs es fr to dep (e) (by omega) (by have := hok (e) (by omega); omega) (by have := hok (e) (by omega); omega) (by have := hd _ (hok (e) (by omega)).1; omega) (by have := hd _ (hok (e) (by omega)).2; omega)) mw_711 mw_713 mp_2_15 mw_9 mw_714 rfl rfl ⟨rfl, by decide, by decide, rfl⟩ (by decide) 0 rfl rfl rfl rfl (Nat.le_of_ble_eq_true rfl) dM_sort_14 (by decide) [0, 1, 2, 3] rfl rfl (fun v wn hv => ?_)
    obtain ⟨rfl, rfl⟩ := hv
    refine ⟨rfl, ?_⟩
    refine z_istore_n hX 3 dM_sort_17 rfl (by decide) ?_
    refine z_iconst hX (nI 0) dM_sort_18 rfl ?_
    refine z_istore hX 4 dM_sort_19 (by decide) ?_
    refine zloop (P := fun q => Z 0 0 21 [some (.ref ax), some (.int (nI e)), some (.int (nI (sp_cnt (so_b (zwt fr to dep) e) q))), some (.int (nI (zwt fr to dep e))), some (.int (nI q)), none] [] ([mO ax r (n) (m) (sl) (pr) (wy) (fo) (ru) (pl) (pk) (rs) (es), (r 2, .inl (cI, 24, .inl (aN (fr)))), (r 3, .inl (cI, 24, .inl (aN (to)))), (r 10, .inl (cI, 12, .inl (aN (dep)))), (r 11, .inl (cI, 24, .inl (aN (sp_it (fun e s => va_up s (so_rk (zwt fr to dep) m e) e) e so))))])) m (fun q hq ih2 => ?_) 0 (Nat.zero_le _)
    refine z_iload hX 4 dM_sort_21 rfl ?_
    refine z_aload_n hX 0 dM_sort_23 rfl rfl ?_
    refine z_get hX 0 1 rfl rfl (zu inM) (by decide) (List.mem_cons_of_mem _ mw_553) rfl dM_sort_24 ?_
    refine z_icmp_geN hX 70 (by omega) (by omega) dM_sort_27 rfl (fun h27 => ?_) (fun h27 => ?_)
    · have hqm : q = m := by omega
      subst hqm
      have hrk := so_rk_in (w := (zwt fr to dep)) (m := q) (e := e) (by omega)
      refine z_aload_n hX 0 dM_sort_70 rfl rfl ?_
      refine z_get hX 0 11 rfl rfl (zu inM) (by decide) (List.mem_cons_of_mem _ mw_563) rfl dM_sort_71 ?_
      refine z_iload_n hX 2 dM_sort_74 rfl rfl ?_
      refine z_iload_n hX 1 dM_sort_75 rfl rfl ?_
      refine z_stN hX 4 0 (so_rk (zwt fr to dep) q e) _ rfl rfl rfl rfl (by omega) (by decide) dM_sort_76 ?_
      refine z_iinc hX 1 dM_sort_77 rfl (zi_1 _) (by decide) ?_
      refine z_goto hX 2 dM_sort_80 rfl ?_
      exact z_le2 hX (ih (by omega)) (And.intro rfl (And.intro rfl trivial))
    · refine z_aload_n hX 0 dM_sort_30 rfl rfl ?_
      refine z_iload hX 4 dM_sort_31 rfl ?_
      refine z_Vr hX (kM_weight l D cI cZ ax r n m sl pr wy fo ru pl pk rs es fr to dep (q) (by omega) (by have := hok (q) (by omega); omega) (by have := hok (q) (by omega); omega) (by have := hd _ (hok (q) (by omega)).1; omega) (by have := hd _ (hok (q) (by omega)).2; omega)) mw_711 mw_713 mp_2_15 mw_9 mw_714 rfl rfl ⟨rfl, by decide, by decide, rfl⟩ (by decide) 0 rfl rfl rfl rfl (Nat.le_of_ble_eq_true rfl) dM_sort_33 (by decide) [0, 1, 2, 3] rfl rfl (fun v wn hv => ?_)
      obtain ⟨rfl, rfl⟩ := hv
      refine ⟨rfl, ?_⟩
      refine z_istore hX 5 dM_sort_36 (by decide) ?_
      have hwq := hwl q (by omega)
      refine z_iload hX 5 dM_sort_38 rfl ?_
      refine z_iload_n hX 3 dM_sort_40 rfl rfl ?_
      refine z_icmp_gtN hX 56 (by omega) (by omega) dM_sort_41 rfl (fun h41 => ?_) (fun h41 => ?_)
      · have hs2 : sp_cnt (so_b (zwt fr to dep) e) (q + 1) = sp_cnt (so_b (zwt fr to dep) e) q + 1 := by show _ + (if so_b (zwt fr to dep) e q = true then 1 else 0) = _; rw [if_pos (show so_b (zwt fr to dep) e q = true from decide_eq_true (by omega))]
        refine z_iload_n hX 2 dM_sort_56 rfl rfl ?_
        refine z_iconst hX (nI 1) dM_sort_57 rfl ?_
        refine z_iaddN hX dM_sort_58 ?_
        refine z_goto hX 63 dM_sort_59 rfl ?_
        refine z_istore_n hX 2 dM_sort_63 rfl (by decide) ?_
        refine z_iinc hX 4 dM_sort_64 rfl (zi_1 _) (by decide) ?_
        refine z_goto hX 21 dM_sort_67 rfl ?_
        have hz := ih2 (by omega)
        rw [hs2] at hz
        exact z_le2 hX hz (And.intro rfl (And.intro rfl (And.intro rfl (And.intro rfl (And.intro rfl trivial)))))
      · refine z_iload hX 5 dM_sort_44 rfl ?_
        refine z_iload_n hX 3 dM_sort_46 rfl rfl ?_
        refine z_icmp_neN hX 62 (by omega) (by omega) dM_sort_47 rfl (fun h47 => ?_) (fun h47 => ?_)
        · have hs2 : sp_cnt (so_b (zwt fr to dep) e) (q + 1) = sp_cnt (so_b (zwt fr to dep) e) q := by show _ + (if so_b (zwt fr to dep) e q = true then 1 else 0) = _; rw [if_neg (fun hc => by have := of_decide_eq_true hc; omega)]; rfl
          refine z_iload_n hX 2 dM_sort_62 rfl rfl ?_
          refine z_istore_n hX 2 dM_sort_63 rfl (by decide) ?_
          refine z_iinc hX 4 dM_sort_64 rfl (zi_1 _) (by decide) ?_
          refine z_goto hX 21 dM_sort_67 rfl ?_
          have hz := ih2 (by omega)
          rw [hs2] at hz
          exact z_le2 hX hz (And.intro rfl (And.intro rfl (And.intro rfl (And.intro rfl (And.intro rfl trivial)))))
        · refine z_iload hX 4 dM_sort_50 rfl ?_
          refine z_iload_n hX 1 dM_sort_52 rfl rfl ?_
          refine z_icmp_geN hX 62 (by omega) (by omega) dM_sort_53 rfl (fun h53 => ?_) (fun h53 => ?_)
          · have hs2 : sp_cnt (so_b (zwt fr to dep) e) (q + 1) = sp_cnt (so_b (zwt fr to dep) e) q := by show _ + (if so_b (zwt fr to dep) e q = true then 1 else 0) = _; rw [if_neg (fun hc => by have := of_decide_eq_true hc; omega)]; rfl
            refine z_iload_n hX 2 dM_sort_62 rfl rfl ?_
            refine z_istore_n hX 2 dM_sort_63 rfl (by decide) ?_
            refine z_iinc hX 4 dM_sort_64 rfl (zi_1 _) (by decide) ?_
            refine z_goto hX 21 dM_sort_67 rfl ?_
            have hz := ih2 (by omega)
            rw [hs2] at hz
            exact z_le2 hX hz (And.intro rfl (And.intro rfl (And.intro rfl (And.intro rfl (And.intro rfl trivial)))))
          · have hs2 : sp_cnt (so_b (zwt fr to dep) e) (q + 1) = sp_cnt (so_b (zwt fr to dep) e) q + 1 := by show _ + (if so_b (zwt fr to dep) e q = true then 1 else 0) = _; rw [if_pos (show so_b (zwt fr to dep) e q = true from decide_eq_true (by omega))]
            refine z_iload_n hX 2 dM_sort_56 rfl rfl ?_
            refine z_iconst hX (nI 1) dM_sort_57 rfl ?_
            refine z_iaddN hX dM_sort_58 ?_
            refine z_goto hX 63 dM_sort_59 rfl ?_
            refine z_istore_n hX 2 dM_sort_63 rfl (by decide) ?_
            refine z_iinc hX 4 dM_sort_64 rfl (zi_1 _) (by decide) ?_
            refine z_goto hX 21 dM_sort_67 rfl ?_
            have hz := ih2 (by omega)
            rw [hs2] at hz
            exact z_le2 hX hz (And.intro rfl (And.intro rfl (And.intro rfl (And.intro rfl (And.intro rfl trivial)))))

set_option maxHeartbeats 400000 in
set_option maxRecDepth 100000 in
theorem kM_rowsBefore (l : Launch) (D : va_G) (cI cZ : ClassId) (ax : Nat) (r : Nat → Nat) (n m : Nat) (sl : Bool) (pr wy fo : Nat) (ru : Bool) (pl pk : Nat) (rs es : Int) (isL : Nat → Bool) (lf lt Rw : Nat → Nat) (b k : Nat) (hb : b < 2147483648) (hk : k ≤ 48) (hlk : ∀ l, l < 48 → isL l = true → lf l < 12 ∧ lt l < 12) : zM l yM_rowsBefore wM_rowsBefore rM_rowsBefore D zCl (zTy cI cZ) zNW 0 0 [.ref ax, .int (nI b), .int (nI k)] ([mO ax r (n) (m) (sl) (pr) (wy) (fo) (ru) (pl) (pk) (rs) (es), (r 13, .inl (cZ, 48, .inl (aB (isL)))), (r 14, .inl (cI, 48, .inl (aN (lf)))), (r 15, .inl (cI, 48, .inl (aN (lt)))), (r 16, .inl (cI, 12, .inl (aN (Rw))))]) (fun v wn => v = some (.int (nI (sw_W isL lf lt Rw b k))) ∧ wn = [mO ax r (n) (m) (sl) (pr) (wy) (fo) (ru) (pl) (pk) (rs) (es), (r 13, .inl (cZ, 48, .inl (aB (isL)))), (r 14, .inl (cI, 48, .inl (aN (lf)))), (r 15, .inl (cI, 48, .inl (aN (lt)))), (r 16, .inl (cI, 12, .inl (aN (Rw))))]) := by
  refine z_met2 cM_rowsBefore 5 (some .int) rfl rfl (Nat.le_of_ble_eq_true rfl) rfl (fun Z hX => ?_)
  show Z 0 0 0 [some (.ref ax), some (.int (nI b)), some (.int (nI k)), none, none] [] ([mO ax r (n) (m) (sl) (pr) (wy) (fo) (ru) (pl) (pk) (rs) (es), (r 13, .inl (cZ, 48, .inl (aB (isL)))), (r 14, .inl (cI, 48, .inl (aN (lf)))), (r 15, .inl (cI, 48, .inl (aN (lt)))), (r 16, .inl (cI, 12, .inl (aN (Rw))))])
  refine z_iconst hX (nI 0) dM_rowsBefore_0 rfl ?_
  refine z_istore_n hX 3 dM_rowsBefore_1 rfl (by decide) ?_
  refine z_iconst hX (nI 0) dM_rowsBefore_2 rfl ?_
  refine z_istore hX 4 dM_rowsBefore_3 (by decide) ?_
  refine zloop (P := fun q => Z 0 0 5 [some (.ref ax), some (.int (nI b)), some (.int (nI k)), some (.int (nI (sw_W isL lf lt Rw b q))), some (.int (nI q))] [] ([mO ax r (n) (m) (sl) (pr) (wy) (fo) (ru) (pl) (pk) (rs) (es), (r 13, .inl (cZ, 48, .inl (aB (isL)))), (r 14, .inl (cI, 48, .inl (aN (lf)))), (r 15, .inl (cI, 48, .inl (aN (lt)))), (r 16, .inl (cI, 12, .inl (aN (Rw))))])) k (fun q hq ih => ?_) 0 (Nat.zero_le _)
  refine z_iload hX 4 dM_rowsBefore_5 rfl ?_
  refine z_iload_n hX 2 dM_rowsBefore_7 rfl rfl ?_
  refine z_icmp_geN hX 53 (by omega) (by omega) dM_rowsBefore_8 rfl (fun h8 => ?_) (fun h8 => ?_)
  · refine z_iload_n hX 3 dM_rowsBefore_53 rfl rfl ?_
    refine z_iret hX rfl rfl rfl rfl dM_rowsBefore_54 ?_
    have hqk : q = k := by omega
    subst hqk
    exact ⟨rfl, rfl⟩
  · refine z_aload_n hX 0 dM_rowsBefore_11 rfl rfl ?_
    refine z_get hX 0 13 rfl rfl (zu inM) (by decide) (List.mem_cons_of_mem _ mw_565) rfl dM_rowsBefore_12 ?_
    refine z_iload hX 4 dM_rowsBefore_15 rfl ?_
    refine z_ldB hX 1 1 _ rfl rfl rfl (by omega) (by decide) dM_rowsBefore_17 ?_
    refine z_if_eqB hX 47 dM_rowsBefore_18 rfl (fun h18 => ?_) (fun h18 => ?_)
    · have hs2 : sw_W isL lf lt Rw b (q + 1) = sw_W isL lf lt Rw b q := by show _ + (if isL q = true ∧ lf q = b then _ else 0) = _; rw [if_neg (fun hc => by rw [h18] at hc; exact absurd hc.1 (by decide))]; rfl
      refine z_iinc hX 4 dM_rowsBefore_47 rfl (zi_1 _) (by decide) ?_
      refine z_goto hX 5 dM_rowsBefore_50 rfl ?_
      have hz := ih (by omega)
      rw [hs2] at hz
      exact hz
    · have hlq := hlk q (by omega) h18
      refine z_aload_n hX 0 dM_rowsBefore_21 rfl rfl ?_
      refine z_get hX 0 14 rfl rfl (zu inM) (by decide) (List.mem_cons_of_mem _ mw_566) rfl dM_rowsBefore_22 ?_
      refine z_iload hX 4 dM_rowsBefore_25 rfl ?_
      refine z_ldN hX 2 0 _ rfl rfl rfl (by omega) (by decide) dM_rowsBefore_27 ?_
      refine z_iload_n hX 1 dM_rowsBefore_28 rfl rfl ?_
      refine z_icmp_neN hX 47 (by omega) (by omega) dM_rowsBefore_29 rfl (fun h29 => ?_) (fun h29 => ?_)
      · have hs2 : sw_W isL lf lt Rw b (q + 1) = sw_W isL lf lt Rw b q := by show _ + (if isL q = true ∧ lf q = b then _ else 0) = _; rw [if_neg (fun hc => h29 hc.2)]; rfl
        refine z_iinc hX 4 dM_rowsBefore_47 rfl (zi_1 _) (by decide) ?_
        refine z_goto hX 5 dM_rowsBefore_50 rfl ?_
        have hz := ih (by omega)
        rw [hs2] at hz
        exact hz
      · have hs2 : sw_W isL lf lt Rw b (q + 1) = sw_W isL lf lt Rw b q + Rw (lt q) := by show _ + (if isL q = true ∧ lf q = b then _ else 0) = _; rw [if_pos ⟨h18, h29⟩]; rfl
        refine z_iload_n hX 3 dM_rowsBefore_32 rfl rfl ?_
        refine z_aload_n hX 0 dM_rowsBefore_33 rfl rfl ?_
        refine z_get hX 0 16 rfl rfl (zu inM) (by decide) (List.mem_cons_of_mem _ mw_568) rfl dM_rowsBefore_34 ?_
        refine z_aload_n hX 0 dM_rowsBefore_37 rfl rfl ?_
        refine z_get hX 0 15 rfl rfl (zu inM) (by decide) (List.mem_cons_of_mem _ mw_567) rfl dM_rowsBefore_38 ?_
        refine z_iload hX 4 dM_rowsBefore_41 rfl ?_
        refine z_ldN hX 3 0 _ rfl rfl rfl (by omega) (by decide) dM_rowsBefore_43 ?_
        refine z_ldN hX 4 0 _ rfl rfl rfl (by omega) (by decide) dM_rowsBefore_44 ?_
        refine z_iaddN hX dM_rowsBefore_45 ?_
        refine z_istore_n hX 3 dM_rowsBefore_46 rfl (by decide) ?_
        refine z_iinc hX 4 dM_rowsBefore_47 rfl (zi_1 _) (by decide) ?_
        refine z_goto hX 5 dM_rowsBefore_50 rfl ?_
        have hz := ih (by omega)
        rw [hs2] at hz
        exact hz

set_option maxHeartbeats 400000 in
set_option maxRecDepth 100000 in
theorem kM_value (l : Launch) (D : va_G) (cI cZ : ClassId) (ax : Nat) (r : Nat → Nat) (n m : Nat) (sl : Bool) (pr wy fo : Nat) (ru : Bool) (pl pk : Nat) (rs es : Int) (isL : Nat → Bool) (lf lt Rw : Nat → Nat) (q : Nat) (hq : q < 48) (hlf : lf q < 12) (hlk : ∀ l, l < 48 → isL l = true → lf l < 12 ∧ lt l < 12) : zM l yM_value wM_value rM_value D zCl (zTy cI cZ) zNW 0 0 [.ref ax, .int (nI q)] ([mO ax r (n) (m) (sl) (pr) (wy) (fo) (ru) (pl) (pk) (rs) (es), (r 13, .inl (cZ, 48, .inl (aB (isL)))), (r 14, .inl (cI, 48, .inl (aN (lf)))), (r 15, .inl (cI, 48, .inl (aN (lt)))), (r 16, .inl (cI, 12, .inl (aN (Rw))))]) (fun v wn => v = some (.int (nI (sw_V isL lf lt Rw q))) ∧ wn = [mO ax r (n) (m) (sl) (pr) (wy) (fo) (ru) (pl) (pk) (rs) (es), (r 13, .inl (cZ, 48, .inl (aB (isL)))), (r 14, .inl (cI, 48, .inl (aN (lf)))), (r 15, .inl (cI, 48, .inl (aN (lt)))), (r 16, .inl (cI, 12, .inl (aN (Rw))))]) := by
  refine z_met2 cM_value 2 (some .int) rfl rfl (Nat.le_of_ble_eq_true rfl) rfl (fun Z hX => ?_)
  show Z 0 0 0 [some (.ref ax), some (.int (nI q))] [] ([mO ax r (n) (m) (sl) (pr) (wy) (fo) (ru) (pl) (pk) (rs) (es), (r 13, .inl (cZ, 48, .inl (aB (isL)))), (r 14, .inl (cI, 48, .inl (aN (lf)))), (r 15, .inl (cI, 48, .inl (aN (lt)))), (r 16, .inl (cI, 12, .inl (aN (Rw))))])
  refine z_aload_n hX 0 dM_value_0 rfl rfl ?_
  refine z_aload_n hX 0 dM_value_1 rfl rfl ?_
  refine z_get hX 0 14 rfl rfl (zu inM) (by decide) (List.mem_cons_of_mem _ mw_566) rfl dM_value_2 ?_
  refine z_iload_n hX 1 dM_value_5 rfl rfl ?_
  refine z_ldN hX 2 0 _ rfl rfl rfl (by omega) (by decide) dM_value_6 ?_
  refine z_iload_n hX 1 dM_value_7 rfl rfl ?_
  refine z_Vr hX (kM_rowsBefore l D cI cZ ax r n m sl pr wy fo ru pl pk rs es isL lf lt Rw (lf q) q (by omega) (by omega) hlk) mw_699 mw_701 mp_2_12 mw_9 mw_702 rfl rfl ⟨rfl, by decide, by decide, rfl⟩ (by decide) 0 rfl rfl rfl rfl (Nat.le_of_ble_eq_true rfl) dM_value_8 (by decide) [0, 1, 2, 3, 4] rfl rfl (fun v wn hv => ?_)
  obtain ⟨rfl, rfl⟩ := hv
  refine ⟨rfl, ?_⟩
  refine z_iret hX rfl rfl rfl rfl dM_value_11 ?_
  exact ⟨rfl, rfl⟩

set_option maxHeartbeats 400000 in
set_option maxRecDepth 100000 in
theorem kM_added (l : Launch) (D : va_G) (cI cZ : ClassId) (ax : Nat) (r : Nat → Nat) (n m : Nat) (sl : Bool) (pr wy fo : Nat) (ru : Bool) (pl pk : Nat) (rs es : Int) (isL : Nat → Bool) (lf lt Rw : Nat → Nat) (B : Nat → Int) (q : Nat) (hq : q < 48) (hlf : lf q < 12) (hlt : lt q < 12) (hlk : ∀ l, l < 48 → isL l = true → lf l < 12 ∧ lt l < 12) : zM l yM_added wM_added rM_added D zCl (zTy cI cZ) zNW 0 0 [.ref ax, .int (nI q)] ([mO ax r (n) (m) (sl) (pr) (wy) (fo) (ru) (pl) (pk) (rs) (es), (r 13, .inl (cZ, 48, .inl (aB (isL)))), (r 14, .inl (cI, 48, .inl (aN (lf)))), (r 15, .inl (cI, 48, .inl (aN (lt)))), (r 16, .inl (cI, 12, .inl (aN (Rw)))), (r 19, .inl (cI, 12, .inl (aI (B))))]) (fun v wn => v = some (.int (Int32.ofInt (sw_V isL lf lt Rw q + B (lf q) - B (lt q)))) ∧ wn = [mO ax r (n) (m) (sl) (pr) (wy) (fo) (ru) (pl) (pk) (rs) (es), (r 13, .inl (cZ, 48, .inl (aB (isL)))), (r 14, .inl (cI, 48, .inl (aN (lf)))), (r 15, .inl (cI, 48, .inl (aN (lt)))), (r 16, .inl (cI, 12, .inl (aN (Rw)))), (r 19, .inl (cI, 12, .inl (aI (B))))]) := by
  refine z_met2 cM_added 2 (some .int) rfl rfl (Nat.le_of_ble_eq_true rfl) rfl (fun Z hX => ?_)
  show Z 0 0 0 [some (.ref ax), some (.int (nI q))] [] ([mO ax r (n) (m) (sl) (pr) (wy) (fo) (ru) (pl) (pk) (rs) (es), (r 13, .inl (cZ, 48, .inl (aB (isL)))), (r 14, .inl (cI, 48, .inl (aN (lf)))), (r 15, .inl (cI, 48, .inl (aN (lt)))), (r 16, .inl (cI, 12, .inl (aN (Rw)))), (r 19, .inl (cI, 12, .inl (aI (B))))])
  refine z_aload_n hX 0 dM_added_0 rfl rfl ?_
  refine z_iload_n hX 1 dM_added_1 rfl rfl ?_
  refine z_Vr hX (kM_value l D cI cZ ax r n m sl pr wy fo ru pl pk rs es isL lf lt Rw q hq hlf hlk) mw_731 mw_733 mp_3_4 mw_9 mw_734 rfl rfl ⟨rfl, by decide, by decide, rfl⟩ (by decide) 0 rfl rfl rfl rfl (Nat.le_of_ble_eq_true rfl) dM_added_2 (by decide) [0, 1, 2, 3, 4] rfl rfl (fun v wn hv => ?_)
  obtain ⟨rfl, rfl⟩ := hv
  refine ⟨rfl, ?_⟩
  refine z_aload_n hX 0 dM_added_5 rfl rfl ?_
  refine z_get hX 0 19 rfl rfl (zu inM) (by decide) (List.mem_cons_of_mem _ mw_571) rfl dM_added_6 ?_
  refine z_aload_n hX 0 dM_added_9 rfl rfl ?_
  refine z_get hX 0 14 rfl rfl (zu inM) (by decide) (List.mem_cons_of_mem _ mw_566) rfl dM_added_10 ?_
  refine z_iload_n hX 1 dM_added_13 rfl rfl ?_
  refine z_ldN hX 2 0 _ rfl rfl rfl (by omega) (by decide) dM_added_14 ?_
  refine z_ldI hX 5 0 _ rfl rfl rfl (by omega) (by decide) dM_added_15 ?_
  refine z_iaddI hX (sw_V isL lf lt Rw q : Int) (B (lf q)) (zi_of _) rfl dM_added_16 ?_
  refine z_aload_n hX 0 dM_added_17 rfl rfl ?_
  refine z_get hX 0 19 rfl rfl (zu inM) (by decide) (List.mem_cons_of_mem _ mw_571) rfl dM_added_18 ?_
  refine z_aload_n hX 0 dM_added_21 rfl rfl ?_
  refine z_get hX 0 15 rfl rfl (zu inM) (by decide) (List.mem_cons_of_mem _ mw_567) rfl dM_added_22 ?_
  refine z_iload_n hX 1 dM_added_25 rfl rfl ?_
  refine z_ldN hX 3 0 _ rfl rfl rfl (by omega) (by decide) dM_added_26 ?_
  refine z_ldI hX 5 0 _ rfl rfl rfl (by omega) (by decide) dM_added_27 ?_
  refine z_isubI hX _ _ rfl rfl dM_added_28 ?_
  refine z_iret hX rfl rfl rfl rfl dM_added_29 ?_
  exact ⟨rfl, rfl⟩

set_option maxHeartbeats 400000 in
set_option maxRecDepth 100000 in
theorem kM_linkAfter (l : Launch) (D : va_G) (cI cZ : ClassId) (ax : Nat) (r : Nat → Nat) (n m : Nat) (sl : Bool) (pr wy fo : Nat) (ru : Bool) (pl pk : Nat) (rs es : Int) (isL : Nat → Bool) (lf : Nat → Nat) (b t : Nat) (hb : b < 2147483648) (ht : t ≤ 48) (hlk : ∀ l, l < 48 → isL l = true → lf l < 2147483648) : zM l yM_linkAfter wM_linkAfter rM_linkAfter D zCl (zTy cI cZ) zNW 0 0 [.ref ax, .int (nI b), .int (zL t)] ([mO ax r (n) (m) (sl) (pr) (wy) (fo) (ru) (pl) (pk) (rs) (es), (r 13, .inl (cZ, 48, .inl (aB (isL)))), (r 14, .inl (cI, 48, .inl (aN (lf))))]) (fun v wn => v = some (.int (nI (sl_nx (zlk isL lf b) (48 - t) t))) ∧ wn = [mO ax r (n) (m) (sl) (pr) (wy) (fo) (ru) (pl) (pk) (rs) (es), (r 13, .inl (cZ, 48, .inl (aB (isL)))), (r 14, .inl (cI, 48, .inl (aN (lf))))]) := by
  refine z_met2 cM_linkAfter 4 (some .int) rfl rfl (Nat.le_of_ble_eq_true rfl) rfl (fun Z hX => ?_)
  show Z 0 0 0 [some (.ref ax), some (.int (nI b)), some (.int (zL t)), none] [] ([mO ax r (n) (m) (sl) (pr) (wy) (fo) (ru) (pl) (pk) (rs) (es), (r 13, .inl (cZ, 48, .inl (aB (isL)))), (r 14, .inl (cI, 48, .inl (aN (lf))))])
  refine z_iload_n hX 2 dM_linkAfter_0 rfl rfl ?_
  refine z_iconst hX (nI 1) dM_linkAfter_1 rfl ?_
  refine z_iadd hX dM_linkAfter_2 ?_
  rw [zL_1]
  refine z_istore_n hX 3 dM_linkAfter_3 rfl (by decide) ?_
  have hloop : ∀ i, i ≤ 48 → t ≤ i → sl_nx (zlk isL lf b) (48 - i) i = sl_nx (zlk isL lf b) (48 - t) t → Z 0 0 4 [some (.ref ax), some (.int (nI b)), some (.int (zL t)), some (.int (nI i))] [] ([mO ax r (n) (m) (sl) (pr) (wy) (fo) (ru) (pl) (pk) (rs) (es), (r 13, .inl (cZ, 48, .inl (aB (isL)))), (r 14, .inl (cI, 48, .inl (aN (lf))))]) := by
    refine zloop (P := fun i => t ≤ i → sl_nx (zlk isL lf b) (48 - i) i = sl_nx (zlk isL lf b) (48 - t) t → Z 0 0 4 [some (.ref ax), some (.int (nI b)), some (.int (zL t)), some (.int (nI i))] [] ([mO ax r (n) (m) (sl) (pr) (wy) (fo) (ru) (pl) (pk) (rs) (es), (r 13, .inl (cZ, 48, .inl (aB (isL)))), (r 14, .inl (cI, 48, .inl (aN (lf))))])) 48 (fun i hi ih hlo hg => ?_)
    refine z_iload_n hX 3 dM_linkAfter_4 rfl rfl ?_
    refine z_bipush hX (nI 48) dM_linkAfter_5 (by decide) ?_
    refine z_icmp_geN hX 36 (by omega) (by omega) dM_linkAfter_7 rfl (fun h7 => ?_) (fun h7 => ?_)
    · have hG : sl_nx (zlk isL lf b) (48 - t) t = i := by rw [← hg, sl_nx_end h7]
      refine z_iload_n hX 3 dM_linkAfter_36 rfl rfl ?_
      refine z_iret hX rfl rfl rfl rfl dM_linkAfter_37 ?_
      rw [hG]
      exact ⟨rfl, rfl⟩
    · refine z_aload_n hX 0 dM_linkAfter_10 rfl rfl ?_
      refine z_get hX 0 13 rfl rfl (zu inM) (by decide) (List.mem_cons_of_mem _ mw_565) rfl dM_linkAfter_11 ?_
      refine z_iload_n hX 3 dM_linkAfter_14 rfl rfl ?_
      refine z_ldB hX 1 1 _ rfl rfl rfl (by omega) (by decide) dM_linkAfter_15 ?_
      refine z_if_eqB hX 29 dM_linkAfter_16 rfl (fun h16 => ?_) (fun h16 => ?_)
      · have hm : zlk isL lf b i = false := by simp [zlk, h16]
        refine z_iload_n hX 3 dM_linkAfter_29 rfl rfl ?_
        refine z_iconst hX (nI 1) dM_linkAfter_30 rfl ?_
        refine z_iaddN hX dM_linkAfter_31 ?_
        refine z_istore_n hX 3 dM_linkAfter_32 rfl (by decide) ?_
        refine z_goto hX 4 dM_linkAfter_33 rfl ?_
        exact ih h7 (by omega) (by rw [← hg, sl_nx_miss h7 hm])
      · have hli := hlk i h7 h16
        refine z_aload_n hX 0 dM_linkAfter_19 rfl rfl ?_
        refine z_get hX 0 14 rfl rfl (zu inM) (by decide) (List.mem_cons_of_mem _ mw_566) rfl dM_linkAfter_20 ?_
        refine z_iload_n hX 3 dM_linkAfter_23 rfl rfl ?_
        refine z_ldN hX 2 0 _ rfl rfl rfl (by omega) (by decide) dM_linkAfter_24 ?_
        refine z_iload_n hX 1 dM_linkAfter_25 rfl rfl ?_
        refine z_icmp_eqN hX 36 (by omega) (by omega) dM_linkAfter_26 rfl (fun h26 => ?_) (fun h26 => ?_)
        · have hG : sl_nx (zlk isL lf b) (48 - t) t = i := by rw [← hg, sl_nx_hit h7 (by simp [zlk, h16, h26])]
          refine z_iload_n hX 3 dM_linkAfter_36 rfl rfl ?_
          refine z_iret hX rfl rfl rfl rfl dM_linkAfter_37 ?_
          rw [hG]
          exact ⟨rfl, rfl⟩
        · have hm : zlk isL lf b i = false := by simp [zlk, h26]
          refine z_iload_n hX 3 dM_linkAfter_29 rfl rfl ?_
          refine z_iconst hX (nI 1) dM_linkAfter_30 rfl ?_
          refine z_iaddN hX dM_linkAfter_31 ?_
          refine z_istore_n hX 3 dM_linkAfter_32 rfl (by decide) ?_
          refine z_goto hX 4 dM_linkAfter_33 rfl ?_
          exact ih h7 (by omega) (by rw [← hg, sl_nx_miss h7 hm])
  exact hloop t ht (Nat.le_refl _) rfl

set_option maxHeartbeats 400000 in
set_option maxRecDepth 100000 in
theorem kM_note (l : Launch) (D : va_G) (cI cZ : ClassId) (ax : Nat) (r : Nat → Nat) (n m : Nat) (sl : Bool) (pr wy fo : Nat) (ru : Bool) (pl pk : Nat) (rs es : Int) (tc : Nat → Nat) (q : Nat) (hpk : pk < 16) : zM l yM_note wM_note rM_note D zCl (zTy cI cZ) zNW 0 0 [.ref ax, .int (nI q)] ([mO ax r (n) (m) (sl) (pr) (wy) (fo) (ru) (pl) (pk) (rs) (es), (r 31, .inl (cI, 16, .inl (aN (tc))))]) (fun v wn => v = none ∧ wn = [mO ax r (n) (m) (sl) (pr) (wy) (fo) (ru) (pl) (pk + 1) (rs) (es), (r 31, .inl (cI, 16, .inl (aN (va_up tc pk q))))]) := by
  refine z_met2 cM_note 2 none rfl rfl (Nat.le_of_ble_eq_true rfl) rfl (fun Z hX => ?_)
  show Z 0 0 0 [some (.ref ax), some (.int (nI q))] [] ([mO ax r (n) (m) (sl) (pr) (wy) (fo) (ru) (pl) (pk) (rs) (es), (r 31, .inl (cI, 16, .inl (aN (tc))))])
  refine z_aload_n hX 0 dM_note_0 rfl rfl ?_
  refine z_get hX 0 31 rfl rfl (zu inM) (by decide) (List.mem_cons_of_mem _ mw_583) rfl dM_note_1 ?_
  refine z_aload_n hX 0 dM_note_4 rfl rfl ?_
  refine z_get hX 0 30 rfl rfl (zu inM) (by decide) (List.mem_cons_of_mem _ mw_582) rfl dM_note_5 ?_
  refine z_iload_n hX 1 dM_note_8 rfl rfl ?_
  refine z_stN hX 1 0 _ _ rfl rfl rfl rfl (by omega) (by decide) dM_note_9 ?_
  refine z_aload_n hX 0 dM_note_10 rfl rfl ?_
  refine z_aload_n hX 0 dM_note_11 rfl rfl ?_
  refine z_get hX 0 30 rfl rfl (zu inM) (by decide) (List.mem_cons_of_mem _ mw_582) rfl dM_note_12 ?_
  refine z_iconst hX (nI 1) dM_note_15 rfl ?_
  refine z_iaddN hX dM_note_16 ?_
  refine z_put hX 0 30 rfl rfl (zu inM) tyM tyM_ok nmM (by decide) (List.mem_cons_of_mem _ mw_582) (Or.inl rfl) rfl rfl rfl (Nat.le_of_ble_eq_true rfl) dM_note_17 ?_
  refine z_vret hX rfl rfl rfl dM_note_20 ?_
  exact ⟨rfl, rfl⟩

set_option maxHeartbeats 400000 in
set_option maxRecDepth 100000 in
theorem kM_start (l : Launch) (D : va_G) (cI cZ : ClassId) (ax : Nat) (r : Nat → Nat) (n m : Nat) (sl : Bool) (pr wy fo : Nat) (ru : Bool) (pl pk : Nat) (rs es : Int) (bc : Nat → Int) : zM l yM_start wM_start rM_start D zCl (zTy cI cZ) zNW 0 0 [.ref ax] ([mO ax r (n) (m) (sl) (pr) (wy) (fo) (ru) (pl) (pk) (rs) (es), (r 33, .inl (cI, 12, .inl (aI (bc))))]) (fun v wn => v = some (.int (bN (sl && !ru))) ∧ ((sl && !ru) = false → wn = [mO ax r (n) (m) (sl) (pr) (wy) (fo) (ru) (pl) (pk) (rs) (es), (r 33, .inl (cI, 12, .inl (aI (bc))))]) ∧ ((sl && !ru) = true → wn = [mO ax r (n) (m) (sl) (pr) (wy) (fo) (true) (0) (0) (rs + 1) (es), (r 33, .inl (cI, 12, .inl (aI (va_up bc 0 (bc 0 + 1)))))])) := by
  refine z_met2 cM_start 1 (some .boolean) rfl rfl (Nat.le_of_ble_eq_true rfl) rfl (fun Z hX => ?_)
  show Z 0 0 0 [some (.ref ax)] [] ([mO ax r (n) (m) (sl) (pr) (wy) (fo) (ru) (pl) (pk) (rs) (es), (r 33, .inl (cI, 12, .inl (aI (bc))))])
  refine z_aload_n hX 0 dM_start_0 rfl rfl ?_
  refine z_get hX 0 4 rfl rfl (zu inM) (by decide) (List.mem_cons_of_mem _ mw_556) rfl dM_start_1 ?_
  refine z_if_eqB hX 14 dM_start_4 rfl (fun h4 => ?_) (fun h4 => ?_)
  · have hr : (sl && !ru) = false := by rw [h4]; rfl
    refine z_iconst hX (bN false) dM_start_14 rfl ?_
    refine z_iret hX rfl (bN_n _) rfl rfl dM_start_15 ?_
    exact ⟨by rw [hr], fun _ => rfl, fun hc => (by rw [hr] at hc; cases hc)⟩
  · refine z_aload_n hX 0 dM_start_7 rfl rfl ?_
    refine z_get hX 0 28 rfl rfl (zu inM) (by decide) (List.mem_cons_of_mem _ mw_580) rfl dM_start_8 ?_
    refine z_if_eqB hX 16 dM_start_11 rfl (fun h11 => ?_) (fun h11 => ?_)
    · have hr : (sl && !ru) = true := by rw [h4, h11]; rfl
      refine z_aload_n hX 0 dM_start_16 rfl rfl ?_
      refine z_iconst hX (bN true) dM_start_17 rfl ?_
      refine z_put hX 0 28 rfl rfl (zu inM) tyM tyM_ok nmM (by decide) (List.mem_cons_of_mem _ mw_580) (Or.inl rfl) rfl (bN_n _) (bN_f _) (Nat.le_of_ble_eq_true rfl) dM_start_18 ?_
      refine z_aload_n hX 0 dM_start_21 rfl rfl ?_
      refine z_iconst hX (nI 0) dM_start_22 rfl ?_
      refine z_put hX 0 29 rfl rfl (zu inM) tyM tyM_ok nmM (by decide) (List.mem_cons_of_mem _ mw_581) (Or.inl rfl) rfl rfl rfl (Nat.le_of_ble_eq_true rfl) dM_start_23 ?_
      refine z_aload_n hX 0 dM_start_26 rfl rfl ?_
      refine z_iconst hX (nI 0) dM_start_27 rfl ?_
      refine z_put hX 0 30 rfl rfl (zu inM) tyM tyM_ok nmM (by decide) (List.mem_cons_of_mem _ mw_582) (Or.inl rfl) rfl rfl rfl (Nat.le_of_ble_eq_true rfl) dM_start_28 ?_
      refine z_aload_n hX 0 dM_start_31 rfl rfl ?_
      refine z_aload_n hX 0 dM_start_32 rfl rfl ?_
      refine z_get hX 0 36 rfl rfl (zu inM) (by decide) (List.mem_cons_of_mem _ mw_588) rfl dM_start_33 ?_
      refine z_iconst hX (nI 1) dM_start_36 rfl ?_
      refine z_iaddI hX rs 1 rfl rfl dM_start_37 ?_
      refine z_put hX 0 36 rfl rfl (zu inM) tyM tyM_ok nmM (by decide) (List.mem_cons_of_mem _ mw_588) (Or.inl rfl) rfl rfl rfl (Nat.le_of_ble_eq_true rfl) dM_start_38 ?_
      refine z_aload_n hX 0 dM_start_41 rfl rfl ?_
      refine z_get hX 0 33 rfl rfl (zu inM) (by decide) (List.mem_cons_of_mem _ mw_585) rfl dM_start_42 ?_
      refine z_iconst hX (nI 0) dM_start_45 rfl ?_
      refine z_aload_n hX 0 dM_start_46 rfl rfl ?_
      refine z_get hX 0 33 rfl rfl (zu inM) (by decide) (List.mem_cons_of_mem _ mw_585) rfl dM_start_47 ?_
      refine z_iconst hX (nI 0) dM_start_50 rfl ?_
      refine z_ldI hX 1 0 _ rfl rfl rfl (by omega) (by decide) dM_start_51 ?_
      refine z_iconst hX (nI 1) dM_start_52 rfl ?_
      refine z_iaddI hX (bc 0) 1 rfl rfl dM_start_53 ?_
      refine z_stI hX 1 0 _ _ rfl rfl rfl rfl (by omega) (by decide) dM_start_54 ?_
      refine z_iconst hX (bN true) dM_start_55 rfl ?_
      refine z_iret hX rfl (bN_n _) rfl rfl dM_start_56 ?_
      exact ⟨by rw [hr], fun hc => (by rw [hr] at hc; cases hc), fun _ => rfl⟩
    · have hr : (sl && !ru) = false := by rw [h11, Bool.not_true, Bool.and_false]
      refine z_iconst hX (bN false) dM_start_14 rfl ?_
      refine z_iret hX rfl (bN_n _) rfl rfl dM_start_15 ?_
      exact ⟨by rw [hr], fun _ => rfl, fun hc => (by rw [hr] at hc; cases hc)⟩

set_option maxHeartbeats 400000 in
set_option maxRecDepth 100000 in
theorem kM_stop (l : Launch) (D : va_G) (cI cZ : ClassId) (ax : Nat) (r : Nat → Nat) (n m : Nat) (sl : Bool) (pr wy fo : Nat) (ru : Bool) (pl pk : Nat) (rs es : Int) (sc : Nat → Int) (hpl : pl < 12) : zM l yM_stop wM_stop rM_stop D zCl (zTy cI cZ) zNW 0 0 [.ref ax] ([mO ax r (n) (m) (sl) (pr) (wy) (fo) (ru) (pl) (pk) (rs) (es), (r 35, .inl (cI, 12, .inl (aI (sc))))]) (fun v wn => (ru = false → v = some (.int (-1)) ∧ wn = [mO ax r (n) (m) (sl) (pr) (wy) (fo) (ru) (pl) (pk) (rs) (es), (r 35, .inl (cI, 12, .inl (aI (sc))))]) ∧ (ru = true → v = some (.int (nI pl)) ∧ wn = [mO ax r (n) (m) (sl) (pr) (wy) (fo) (false) (pl) (pk) (rs) (es), (r 35, .inl (cI, 12, .inl (aI (va_up sc pl (sc pl + 1)))))])) := by
  refine z_met2 cM_stop 1 (some .int) rfl rfl (Nat.le_of_ble_eq_true rfl) rfl (fun Z hX => ?_)
  show Z 0 0 0 [some (.ref ax)] [] ([mO ax r (n) (m) (sl) (pr) (wy) (fo) (ru) (pl) (pk) (rs) (es), (r 35, .inl (cI, 12, .inl (aI (sc))))])
  refine z_aload_n hX 0 dM_stop_0 rfl rfl ?_
  refine z_get hX 0 28 rfl rfl (zu inM) (by decide) (List.mem_cons_of_mem _ mw_580) rfl dM_stop_1 ?_
  refine z_if_neB hX 9 dM_stop_4 rfl (fun h4 => ?_) (fun h4 => ?_)
  · refine z_aload_n hX 0 dM_stop_9 rfl rfl ?_
    refine z_iconst hX (bN false) dM_stop_10 rfl ?_
    refine z_put hX 0 28 rfl rfl (zu inM) tyM tyM_ok nmM (by decide) (List.mem_cons_of_mem _ mw_580) (Or.inl rfl) rfl (bN_n _) (bN_f _) (Nat.le_of_ble_eq_true rfl) dM_stop_11 ?_
    refine z_aload_n hX 0 dM_stop_14 rfl rfl ?_
    refine z_get hX 0 35 rfl rfl (zu inM) (by decide) (List.mem_cons_of_mem _ mw_587) rfl dM_stop_15 ?_
    refine z_aload_n hX 0 dM_stop_18 rfl rfl ?_
    refine z_get hX 0 29 rfl rfl (zu inM) (by decide) (List.mem_cons_of_mem _ mw_581) rfl dM_stop_19 ?_
    refine z_aload_n hX 0 dM_stop_22 rfl rfl ?_
    refine z_get hX 0 35 rfl rfl (zu inM) (by decide) (List.mem_cons_of_mem _ mw_587) rfl dM_stop_23 ?_
    refine z_aload_n hX 0 dM_stop_26 rfl rfl ?_
    refine z_get hX 0 29 rfl rfl (zu inM) (by decide) (List.mem_cons_of_mem _ mw_581) rfl dM_stop_27 ?_
    refine z_ldI hX 1 0 _ rfl rfl rfl (by omega) (by decide) dM_stop_30 ?_
    refine z_iconst hX (nI 1) dM_stop_31 rfl ?_
    refine z_iaddI hX (sc pl) 1 rfl rfl dM_stop_32 ?_
    refine z_stI hX 1 0 _ _ rfl rfl rfl rfl (by omega) (by decide) dM_stop_33 ?_
    refine z_aload_n hX 0 dM_stop_34 rfl rfl ?_
    refine z_get hX 0 29 rfl rfl (zu inM) (by decide) (List.mem_cons_of_mem _ mw_581) rfl dM_stop_35 ?_
    refine z_iret hX rfl rfl rfl rfl dM_stop_38 ?_
    exact ⟨fun hc => (by rw [h4] at hc; cases hc), fun _ => ⟨rfl, rfl⟩⟩
  · refine z_iconst hX (-1) dM_stop_7 rfl ?_
    refine z_iret hX rfl rfl rfl rfl dM_stop_8 ?_
    exact ⟨fun _ => ⟨rfl, rfl⟩, fun hc => (by rw [h4] at hc; cases hc)⟩

