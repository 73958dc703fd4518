/-! Loops -/
set_option maxHeartbeats 1000000 in
set_option maxRecDepth 100000 in
theorem kO_loopOf (l : Launch) (D : va_G) (cI cZ : ClassId) (lo g s dp od : Nat) (dep ord : Nat → Nat) (f t n m : Nat) (fr to : Nat → Nat) (e : Nat) (he : e < m) (hn : 2 ≤ n ∧ n ≤ 12) (hm : m ≤ 24) (hok : ∀ e, e < m → fr e < n ∧ to e < n) : zM l yO_loopOf wO_loopOf rO_loopOf D zCl (zTy cI cZ) zNW 0 0 [.ref lo, .int (nI e)] (wO cI lo g s dp od (dep) (ord) ++ wG cI g f t n m fr to) (fun v wn => v = some (.int (bS (zlp fr to m n e))) ∧ wn = wO cI lo g s dp od (dep) (ord) ++ wG cI g f t n m fr to) := by
  have hoke := hok e he
  refine z_met2 cO_loopOf 3 (some .int) rfl rfl (Nat.le_of_ble_eq_true rfl) rfl (fun Z hX => ?_)
  show Z 0 0 0 [some (.ref lo), some (.int (nI e)), none] [] (wO cI lo g s dp od (dep) (ord) ++ wG cI g f t n m fr to)
  refine z_aload_n hX 0 dO_loopOf_0 rfl rfl ?_
  refine z_get hX 0 0 rfl rfl (zu inO) (by decide) (List.mem_cons_of_mem _ mw_109) rfl dO_loopOf_1 ?_
  refine z_get hX 3 2 rfl rfl (zu inG) (by decide) (List.mem_cons_of_mem _ mw_46) rfl dO_loopOf_4 ?_
  refine z_iload_n hX 1 dO_loopOf_7 rfl rfl ?_
  refine z_ldN hX 5 0 _ rfl rfl rfl (by omega) (by decide) dO_loopOf_8 ?_
  refine z_istore_n hX 2 dO_loopOf_9 rfl (by decide) ?_
  refine z_iload_n hX 2 dO_loopOf_10 rfl rfl ?_
  refine z_Nr hX (kA_bit l D cI cZ (to e) (by omega)) "SpanningProbes" mw_261 (by decide) mw_1 mw_260 rfl rfl ⟨by decide, by decide, rfl⟩ (by decide) rfl rfl (Nat.le_of_ble_eq_true rfl) dO_loopOf_11 (by decide) [] rfl rfl (fun v wn hv => ?_)
  obtain ⟨rfl, rfl⟩ := hv
  refine ⟨rfl, ?_⟩
  refine z_aload_n hX 0 dO_loopOf_14 rfl rfl ?_
  refine z_get hX 0 0 rfl rfl (zu inO) (by decide) (List.mem_cons_of_mem _ mw_109) rfl dO_loopOf_15 ?_
  refine z_aload_n hX 0 dO_loopOf_18 rfl rfl ?_
  refine z_get hX 0 0 rfl rfl (zu inO) (by decide) (List.mem_cons_of_mem _ mw_109) rfl dO_loopOf_19 ?_
  refine z_get hX 3 1 rfl rfl (zu inG) (by decide) (List.mem_cons_of_mem _ mw_40) rfl dO_loopOf_22 ?_
  refine z_iload_n hX 1 dO_loopOf_25 rfl rfl ?_
  refine z_ldN hX 4 0 _ rfl rfl rfl (by omega) (by decide) dO_loopOf_26 ?_
  refine z_iload_n hX 2 dO_loopOf_27 rfl rfl ?_
  refine z_Vr hX (kG_blocksReaching l D cI cZ g f t n m fr to (fr e) (some (to e)) hn hm hok (by omega) (fun b hb => by cases hb; omega)) mw_317 mw_287 mw_288 mw_2 mw_289 rfl rfl ⟨rfl, by decide, by decide, rfl⟩ (by decide) 3 rfl rfl rfl rfl (Nat.le_of_ble_eq_true rfl) dO_loopOf_28 (by decide) [3, 4, 5] rfl rfl (fun v wn hv => ?_)
  obtain ⟨rfl, rfl⟩ := hv
  refine ⟨rfl, ?_⟩
  refine z_ior hX dO_loopOf_31 ?_
  rw [bS_or]
  refine z_iret hX rfl rfl rfl rfl dO_loopOf_32 ?_
  exact ⟨rfl, rfl⟩

set_option maxHeartbeats 1000000 in
set_option maxRecDepth 100000 in
theorem kO_deepen (l : Launch) (D : va_G) (cI cZ : ClassId) (lo g s dp od : Nat) (dep ord : Nat → Nat) (f t n m : Nat) (fr to : Nat → Nat) (S : Nat → Bool) (hn : n ≤ 12) : zM l yO_deepen wO_deepen rO_deepen D zCl (zTy cI cZ) zNW 0 0 [.ref lo, .int (bS S)] (wO cI lo g s dp od (dep) (ord) ++ wG cI g f t n m fr to) (fun v wn => v = none ∧ wn = wO cI lo g s dp od (zdp dep S n) (ord) ++ wG cI g f t n m fr to) := by
  refine z_met2 cO_deepen 3 none rfl rfl (Nat.le_of_ble_eq_true rfl) rfl (fun Z hX => ?_)
  show Z 0 0 0 [some (.ref lo), some (.int (bS S)), none] [] (wO cI lo g s dp od (dep) (ord) ++ wG cI g f t n m fr to)
  refine z_iconst hX (nI 0) dO_deepen_0 rfl ?_
  refine z_istore_n hX 2 dO_deepen_1 rfl (by decide) ?_
  have hloop : ∀ i, i ≤ n → Z 0 0 2 [some (.ref lo), some (.int (bS S)), some (.int (nI i))] [] (wO cI lo g s dp od (zdp dep S i) (ord) ++ wG cI g f t n m fr to) := by
    refine zloop (P := fun i => Z 0 0 2 [some (.ref lo), some (.int (bS S)), some (.int (nI i))] [] (wO cI lo g s dp od (zdp dep S i) (ord) ++ wG cI g f t n m fr to)) n (fun i hi ih => ?_)
    refine z_iload_n hX 2 dO_deepen_2 rfl rfl ?_
    refine z_aload_n hX 0 dO_deepen_3 rfl rfl ?_
    refine z_get hX 0 0 rfl rfl (zu inO) (by decide) (List.mem_cons_of_mem _ mw_109) rfl dO_deepen_4 ?_
    refine z_get hX 3 0 rfl rfl (zu inG) (by decide) (List.mem_cons_of_mem _ mw_34) rfl dO_deepen_7 ?_
    refine z_icmp_geN hX 37 (by omega) (by omega) dO_deepen_10 rfl (fun h10 => ?_) (fun h10 => ?_)
    · refine z_vret hX rfl rfl rfl dO_deepen_37 ?_
      rw [show n = i by omega]
      exact ⟨rfl, rfl⟩
    · refine z_iload_n hX 1 dO_deepen_13 rfl rfl ?_
      refine z_iload_n hX 2 dO_deepen_14 rfl rfl ?_
      refine z_Nr hX (kA_isIn l D cI cZ S i (by omega)) "SpanningProbes" mw_272 (by decide) mw_1 mw_271 rfl rfl ⟨by decide, by decide, rfl⟩ (by decide) rfl rfl (Nat.le_of_ble_eq_true rfl) dO_deepen_15 (by decide) [] rfl rfl (fun v wn hv => ?_)
      obtain ⟨rfl, rfl⟩ := hv
      refine ⟨rfl, ?_⟩
      refine z_if_eqB hX 31 dO_deepen_18 rfl (fun h18 => ?_) (fun h18 => ?_)
      · have hs2 := zdp_miss (dep := dep) h18
        refine z_iinc hX 2 dO_deepen_31 rfl (zi_1 _) (by decide) ?_
        refine z_goto hX 2 dO_deepen_34 rfl ?_
        have hz := ih (by omega)
        rw [hs2] at hz
        exact hz
      · have hs2 := zdp_hit (dep := dep) h18
        refine z_aload_n hX 0 dO_deepen_21 rfl rfl ?_
        refine z_get hX 0 2 rfl rfl (zu inO) (by decide) (List.mem_cons_of_mem _ mw_111) rfl dO_deepen_22 ?_
        refine z_iload_n hX 2 dO_deepen_25 rfl rfl ?_
        refine z_dup2 hX dO_deepen_26 rfl rfl ?_
        refine z_ldN hX 1 0 _ rfl rfl rfl (by omega) (by decide) dO_deepen_27 ?_
        rw [zdp_at]
        refine z_iconst hX (nI 1) dO_deepen_28 rfl ?_
        refine z_iaddN hX dO_deepen_29 ?_
        refine z_stN hX 1 0 _ _ rfl rfl rfl rfl (by omega) (by decide) dO_deepen_30 ?_
        refine z_iinc hX 2 dO_deepen_31 rfl (zi_1 _) (by decide) ?_
        refine z_goto hX 2 dO_deepen_34 rfl ?_
        have hz := ih (by omega)
        rw [hs2] at hz
        exact hz
  have hz := hloop 0 (Nat.zero_le _)
  rw [zdp_0] at hz
  exact hz

set_option maxHeartbeats 1000000 in
set_option maxRecDepth 100000 in
theorem kO_weightOf (l : Launch) (D : va_G) (cI cZ : ClassId) (lo g s dp od : Nat) (dep ord : Nat → Nat) (f t n m : Nat) (fr to : Nat → Nat) (e : Nat) (he : e < 24) (h1 : fr e < 12) (h2 : to e < 12) (hd1 : dep (fr e) < 2147483648) (hd2 : dep (to e) < 2147483648) : zM l yO_weightOf wO_weightOf rO_weightOf D zCl (zTy cI cZ) zNW 0 0 [.ref lo, .int (nI e)] (wO cI lo g s dp od (dep) (ord) ++ wG cI g f t n m fr to) (fun v wn => v = some (.int (nI (zwt fr to dep e))) ∧ wn = wO cI lo g s dp od (dep) (ord) ++ wG cI g f t n m fr to) := by
  refine z_met2 cO_weightOf 2 (some .int) rfl rfl (Nat.le_of_ble_eq_true rfl) rfl (fun Z hX => ?_)
  show Z 0 0 0 [some (.ref lo), some (.int (nI e))] [] (wO cI lo g s dp od (dep) (ord) ++ wG cI g f t n m fr to)
  refine z_aload_n hX 0 dO_weightOf_0 rfl rfl ?_
  refine z_get hX 0 2 rfl rfl (zu inO) (by decide) (List.mem_cons_of_mem _ mw_111) rfl dO_weightOf_1 ?_
  refine z_aload_n hX 0 dO_weightOf_4 rfl rfl ?_
  refine z_get hX 0 0 rfl rfl (zu inO) (by decide) (List.mem_cons_of_mem _ mw_109) rfl dO_weightOf_5 ?_
  refine z_get hX 3 1 rfl rfl (zu inG) (by decide) (List.mem_cons_of_mem _ mw_40) rfl dO_weightOf_8 ?_
  refine z_iload_n hX 1 dO_weightOf_11 rfl rfl ?_
  refine z_ldN hX 4 0 _ rfl rfl rfl (by omega) (by decide) dO_weightOf_12 ?_
  refine z_ldN hX 1 0 _ rfl rfl rfl (by omega) (by decide) dO_weightOf_13 ?_
  refine z_aload_n hX 0 dO_weightOf_14 rfl rfl ?_
  refine z_get hX 0 2 rfl rfl (zu inO) (by decide) (List.mem_cons_of_mem _ mw_111) rfl dO_weightOf_15 ?_
  refine z_aload_n hX 0 dO_weightOf_18 rfl rfl ?_
  refine z_get hX 0 0 rfl rfl (zu inO) (by decide) (List.mem_cons_of_mem _ mw_109) rfl dO_weightOf_19 ?_
  refine z_get hX 3 2 rfl rfl (zu inG) (by decide) (List.mem_cons_of_mem _ mw_46) rfl dO_weightOf_22 ?_
  refine z_iload_n hX 1 dO_weightOf_25 rfl rfl ?_
  refine z_ldN hX 5 0 _ rfl rfl rfl (by omega) (by decide) dO_weightOf_26 ?_
  refine z_ldN hX 1 0 _ rfl rfl rfl (by omega) (by decide) dO_weightOf_27 ?_
  refine z_mmin hX (List.mem_cons_of_mem _ mw_331) (List.mem_cons_of_mem _ mw_22) (List.mem_cons_of_mem _ mw_3) (List.mem_cons_of_mem _ mw_23) (by decide) (Nat.le_of_ble_eq_true rfl) (by decide) (by decide) dO_weightOf_28 ?_
  rw [zmin hd1 hd2]
  refine z_iret hX rfl rfl rfl rfl dO_weightOf_31 ?_
  exact ⟨rfl, rfl⟩

set_option maxHeartbeats 1000000 in
set_option maxRecDepth 100000 in
theorem kO_putInOrder (l : Launch) (D : va_G) (cI cZ : ClassId) (lo g s dp od : Nat) (dep ord : Nat → Nat) (f t n m : Nat) (fr to : Nat → Nat) (hn : 2 ≤ n ∧ n ≤ 12) (hm : m ≤ 24) (hok : ∀ e, e < m → fr e < n ∧ to e < n) (hd : ∀ x, x < n → dep x ≤ m) : zM l yO_putInOrder wO_putInOrder rO_putInOrder D zCl (zTy cI cZ) zNW 0 0 [.ref lo] (wO cI lo g s dp od (dep) (ord) ++ wG cI g f t n m fr to) (fun v wn => v = none ∧ wn = wO cI lo g s dp od (dep) ((so_sys (zwt fr to dep) m ord).1) ++ wG cI g f t n m fr to) := by
  have hw : ∀ x, x < m → zwt fr to dep x ≤ m := fun x hx => by
    have h9 := hd (fr x) (hok x hx).1
    have h8 : zwt fr to dep x ≤ dep (fr x) := Nat.min_le_left _ _
    omega
  refine z_met2 cO_putInOrder 4 none rfl rfl (Nat.le_of_ble_eq_true rfl) rfl (fun Z hX => ?_)
  show Z 0 0 0 [some (.ref lo), none, none, none] [] (wO cI lo g s dp od (dep) (ord) ++ wG cI g f t n m fr to)
  refine z_iconst hX (nI 0) dO_putInOrder_0 rfl ?_
  refine z_istore_n hX 1 dO_putInOrder_1 rfl (by decide) ?_
  refine z_aload_n hX 0 dO_putInOrder_2 rfl rfl ?_
  refine z_get hX 0 0 rfl rfl (zu inO) (by decide) (List.mem_cons_of_mem _ mw_109) rfl dO_putInOrder_3 ?_
  refine z_get hX 3 3 rfl rfl (zu inG) (by decide) (List.mem_cons_of_mem _ mw_51) rfl dO_putInOrder_6 ?_
  refine z_istore_n hX 2 dO_putInOrder_9 rfl (by decide) ?_
  refine zloop (P := fun j => Z 0 0 10 [some (.ref lo), some (.int (nI (so_t (zwt fr to dep) m j ord).2)), some (.int (zdn m j)), none] [] (wO cI lo g s dp od (dep) ((so_t (zwt fr to dep) m j ord).1) ++ wG cI g f t n m fr to)) (m + 1) (fun j hj ih => ?_) 0 (Nat.zero_le _)
  refine z_iload_n hX 2 dO_putInOrder_10 rfl rfl ?_
  refine z_if_lt hX 58 dO_putInOrder_11 rfl (fun h11 => ?_) (fun h11 => ?_)
  · have hjm := (zdn_lt (by omega)).mp h11
    refine z_vret hX rfl rfl rfl dO_putInOrder_58 ?_
    have hj1 : j = m + 1 := by omega
    subst hj1
    exact ⟨rfl, rfl⟩
  · have hjm : j ≤ m := by
      by_cases hc : j ≤ m
      · exact hc
      · exact absurd ((zdn_lt (by omega)).mpr (by omega)) h11
    rw [zdn_in hjm]
    refine z_iconst hX (nI 0) dO_putInOrder_14 rfl ?_
    refine z_istore_n hX 3 dO_putInOrder_15 rfl (by decide) ?_
    refine zloop (P := fun e => Z 0 0 16 [some (.ref lo), some (.int (nI (sp_it (so_in (zwt fr to dep) (m - j)) e (so_t (zwt fr to dep) m j ord)).2)), some (.int (nI (m - j))), some (.int (nI e))] [] (wO cI lo g s dp od (dep) ((sp_it (so_in (zwt fr to dep) (m - j)) e (so_t (zwt fr to dep) m j ord)).1) ++ wG cI g f t n m fr to)) m (fun e he ih2 => ?_) 0 (Nat.zero_le _)
    refine z_iload_n hX 3 dO_putInOrder_16 rfl rfl ?_
    refine z_aload_n hX 0 dO_putInOrder_17 rfl rfl ?_
    refine z_get hX 0 0 rfl rfl (zu inO) (by decide) (List.mem_cons_of_mem _ mw_109) rfl dO_putInOrder_18 ?_
    refine z_get hX 3 3 rfl rfl (zu inG) (by decide) (List.mem_cons_of_mem _ mw_51) rfl dO_putInOrder_21 ?_
    refine z_icmp_geN hX 52 (by omega) (by omega) dO_putInOrder_24 rfl (fun h24 => ?_) (fun h24 => ?_)
    · refine z_iinc hX 2 dO_putInOrder_52 rfl (zdn_dec hjm) (by decide) ?_
      refine z_goto hX 10 dO_putInOrder_55 rfl ?_
      have hz := ih (by omega)
      have hje : so_t (zwt fr to dep) m (j + 1) ord = sp_it (so_in (zwt fr to dep) (m - j)) e (so_t (zwt fr to dep) m j ord) := by rw [show e = m by omega]; rfl
      rw [hje] at hz
      exact z_le2 hX hz (And.intro rfl (And.intro rfl (And.intro rfl trivial)))
    · have hoke := hok e (by omega)
      have hwe := hw e (by omega)
      refine z_aload_n hX 0 dO_putInOrder_27 rfl rfl ?_
      refine z_iload_n hX 3 dO_putInOrder_28 rfl rfl ?_
      refine z_Vr hX (kO_weightOf l D cI cZ lo g s dp od dep (sp_it (so_in (zwt fr to dep) (m - j)) e (so_t (zwt fr to dep) m j ord)).1 f t n m fr to e (by omega) (by omega) (by omega) (by have := hd _ hoke.1; omega) (by have := hd _ hoke.2; omega)) mw_327 mw_329 mp_1_7 mw_5 mw_330 rfl rfl ⟨rfl, by decide, by decide, rfl⟩ (by decide) 0 rfl rfl rfl rfl (Nat.le_of_ble_eq_true rfl) dO_putInOrder_29 (by decide) [0, 1, 2, 3, 4, 5] rfl rfl (fun v wn hv => ?_)
      obtain ⟨rfl, rfl⟩ := hv
      refine ⟨rfl, ?_⟩
      refine z_iload_n hX 2 dO_putInOrder_32 rfl rfl ?_
      refine z_icmp_neN hX 46 (by omega) (by omega) dO_putInOrder_33 rfl (fun h33 => ?_) (fun h33 => ?_)
      · have hs2 : sp_it (so_in (zwt fr to dep) (m - j)) (e + 1) (so_t (zwt fr to dep) m j ord) = sp_it (so_in (zwt fr to dep) (m - j)) e (so_t (zwt fr to dep) m j ord) := if_neg h33
        refine z_iinc hX 3 dO_putInOrder_46 rfl (zi_1 _) (by decide) ?_
        refine z_goto hX 16 dO_putInOrder_49 rfl ?_
        have hz := ih2 (by omega)
        rw [hs2] at hz
        exact hz
      · have hs2 : sp_it (so_in (zwt fr to dep) (m - j)) (e + 1) (so_t (zwt fr to dep) m j ord) = (va_up (sp_it (so_in (zwt fr to dep) (m - j)) e (so_t (zwt fr to dep) m j ord)).1 (sp_it (so_in (zwt fr to dep) (m - j)) e (so_t (zwt fr to dep) m j ord)).2 e, (sp_it (so_in (zwt fr to dep) (m - j)) e (so_t (zwt fr to dep) m j ord)).2 + 1) := if_pos h33
        have hroom := so_room hw ord (j := j) (e := e) hjm (by omega) h33
        refine z_aload_n hX 0 dO_putInOrder_36 rfl rfl ?_
        refine z_get hX 0 3 rfl rfl (zu inO) (by decide) (List.mem_cons_of_mem _ mw_113) rfl dO_putInOrder_37 ?_
        refine z_iload_n hX 1 dO_putInOrder_40 rfl rfl ?_
        refine z_iload_n hX 3 dO_putInOrder_41 rfl rfl ?_
        refine z_stN hX 2 0 _ _ rfl rfl rfl rfl (by omega) (by decide) dO_putInOrder_42 ?_
        refine z_iinc hX 1 dO_putInOrder_43 rfl (zi_1 _) (by decide) ?_
        refine z_iinc hX 3 dO_putInOrder_46 rfl (zi_1 _) (by decide) ?_
        refine z_goto hX 16 dO_putInOrder_49 rfl ?_
        have hz := ih2 (by omega)
        rw [hs2] at hz
        exact hz

set_option maxHeartbeats 1000000 in
set_option maxRecDepth 100000 in
theorem kO_measure (l : Launch) (D : va_G) (cI cZ : ClassId) (lo g s dp od : Nat) (ord : Nat → Nat) (f t n m : Nat) (fr to : Nat → Nat) (ib fi sk lu : Nat) (Mt Op : Nat → Bool) (h : Nat) (bk : Nat → Bool) (fin st lk : Nat → Nat) (hn : 2 ≤ n ∧ n ≤ 12) (hm : m ≤ 24) (hok : ∀ e, e < m → fr e < n ∧ to e < n) : zM l yO_measure wO_measure rO_measure D zCl (zTy cI cZ) zNW 0 0 [.ref lo] (wO cI lo g s dp od (fun _ => 0) (ord) ++ wG cI g f t n m fr to ++ wS cI cZ s g ib fi sk lu Mt Op h bk fin st lk) (fun v wn => v = none ∧ wn = wO cI lo g s dp od (sp_it (zde fr to bk m n) m (fun _ => 0)) ((so_sys (zwt fr to (sp_it (zde fr to bk m n) m (fun _ => 0))) m ord).1) ++ wG cI g f t n m fr to ++ wS cI cZ s g ib fi sk lu Mt Op h bk fin st lk) := by
  refine z_met2 cO_measure 2 none rfl rfl (Nat.le_of_ble_eq_true rfl) rfl (fun Z hX => ?_)
  show Z 0 0 0 [some (.ref lo), none] [] (wO cI lo g s dp od (fun _ => 0) (ord) ++ wG cI g f t n m fr to ++ wS cI cZ s g ib fi sk lu Mt Op h bk fin st lk)
  refine z_iconst hX (nI 0) dO_measure_0 rfl ?_
  refine z_istore_n hX 1 dO_measure_1 rfl (by decide) ?_
  refine zloop (P := fun e => Z 0 0 2 [some (.ref lo), some (.int (nI e))] [] (wO cI lo g s dp od (sp_it (zde fr to bk m n) e (fun _ => 0)) (ord) ++ wG cI g f t n m fr to ++ wS cI cZ s g ib fi sk lu Mt Op h bk fin st lk)) m (fun e he ih => ?_) 0 (Nat.zero_le _)
  refine z_iload_n hX 1 dO_measure_2 rfl rfl ?_
  refine z_aload_n hX 0 dO_measure_3 rfl rfl ?_
  refine z_get hX 0 0 rfl rfl (zu inO) (by decide) (List.mem_cons_of_mem _ mw_109) rfl dO_measure_4 ?_
  refine z_get hX 3 3 rfl rfl (zu inG) (by decide) (List.mem_cons_of_mem _ mw_51) rfl dO_measure_7 ?_
  refine z_icmp_geN hX 40 (by omega) (by omega) dO_measure_10 rfl (fun h10 => ?_) (fun h10 => ?_)
  · rw [show e = m by omega]
    refine z_aload_n hX 0 dO_measure_40 rfl rfl ?_
    refine z_Vm hX (kO_putInOrder l D cI cZ lo g s dp od (sp_it (zde fr to bk m n) m (fun _ => 0)) ord f t n m fr to hn hm hok (fun x _ => zde_le fr to bk m n m x)) mw_323 mw_325 mp_1_6 mw_5 mw_326 rfl rfl ⟨rfl, by decide, by decide, rfl⟩ (by decide) 0 rfl rfl rfl rfl (Nat.le_of_ble_eq_true rfl) dO_measure_41 (by decide) [0, 1, 2, 3, 4, 5] rfl rfl (fun v wn hv => ?_)
    obtain ⟨rfl, rfl⟩ := hv
    refine ⟨by simp, ?_⟩
    refine z_vret hX rfl rfl rfl dO_measure_44 ?_
    exact ⟨rfl, rfl⟩
  · refine z_aload_n hX 0 dO_measure_13 rfl rfl ?_
    refine z_get hX 0 1 rfl rfl (zu inO) (by decide) (List.mem_cons_of_mem _ mw_110) rfl dO_measure_14 ?_
    refine z_get hX 6 1 rfl rfl (zu inS) (by decide) (List.mem_cons_of_mem _ mw_76) rfl dO_measure_17 ?_
    refine z_iload_n hX 1 dO_measure_20 rfl rfl ?_
    refine z_ldB hX 7 1 _ rfl rfl rfl (by omega) (by decide) dO_measure_21 ?_
    refine z_if_eqB hX 34 dO_measure_22 rfl (fun h22 => ?_) (fun h22 => ?_)
    · have hs2 : sp_it (zde fr to bk m n) (e + 1) (fun _ => 0) = sp_it (zde fr to bk m n) e (fun _ => 0) := if_neg (by rw [h22]; decide)
      refine z_iinc hX 1 dO_measure_34 rfl (zi_1 _) (by decide) ?_
      refine z_goto hX 2 dO_measure_37 rfl ?_
      have hz := ih (by omega)
      rw [hs2] at hz
      exact hz
    · have hs2 : sp_it (zde fr to bk m n) (e + 1) (fun _ => 0) = zdp (sp_it (zde fr to bk m n) e (fun _ => 0)) (zlp fr to m n e) n := if_pos h22
      refine z_aload_n hX 0 dO_measure_25 rfl rfl ?_
      refine z_aload_n hX 0 dO_measure_26 rfl rfl ?_
      refine z_iload_n hX 1 dO_measure_27 rfl rfl ?_
      refine z_Vr hX (kO_loopOf l D cI cZ lo g s dp od (sp_it (zde fr to bk m n) e (fun _ => 0)) ord f t n m fr to e (by omega) hn hm hok) mw_312 mw_314 mp_1_4 mw_5 mw_315 rfl rfl ⟨rfl, by decide, by decide, rfl⟩ (by decide) 0 rfl rfl rfl rfl (Nat.le_of_ble_eq_true rfl) dO_measure_28 (by decide) [0, 1, 2, 3, 4, 5] rfl rfl (fun v wn hv => ?_)
      obtain ⟨rfl, rfl⟩ := hv
      refine ⟨rfl, ?_⟩
      refine z_Vm hX (kO_deepen l D cI cZ lo g s dp od (sp_it (zde fr to bk m n) e (fun _ => 0)) ord f t n m fr to (zlp fr to m n e) (by omega)) mw_318 mw_320 mp_1_5 mw_5 mw_321 rfl rfl ⟨rfl, by decide, by decide, rfl⟩ (by decide) 0 rfl rfl rfl rfl (Nat.le_of_ble_eq_true rfl) dO_measure_31 (by decide) [0, 1, 2, 3, 4, 5] rfl rfl (fun v wn hv => ?_)
      obtain ⟨rfl, rfl⟩ := hv
      refine ⟨by simp, ?_⟩
      refine z_iinc hX 1 dO_measure_34 rfl (zi_1 _) (by decide) ?_
      refine z_goto hX 2 dO_measure_37 rfl ?_
      have hz := ih (by omega)
      rw [hs2] at hz
      exact hz

