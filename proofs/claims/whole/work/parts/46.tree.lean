/-! Tree -/
set_option maxHeartbeats 1000000 in
set_option maxRecDepth 100000 in
theorem kT_join (l : Launch) (D : va_G) (cI cZ : ClassId) (tr g hs gr : Nat) (has : Nat → Bool) (grp : Nat → Nat) (f t n m : Nat) (fr to : Nat → Nat) (a b : Nat) (ha : a < n) (hb : b < n) (hn : n ≤ 12) (hg : ∀ x, x < n → grp x < 2147483648) : zM l yT_join wT_join rT_join D zCl (zTy cI cZ) zNW 0 0 [.ref tr, .int (nI a), .int (nI b)] (wT cI cZ tr g hs gr (has) (grp) ++ wG cI g f t n m fr to) (fun v wn => v = some (.int (bN (decide (grp a ≠ grp b)))) ∧ wn = wT cI cZ tr g hs gr (has) (sj_join n grp a b) ++ wG cI g f t n m fr to) := by
  have hga := hg a ha
  have hgb := hg b hb
  refine z_met2 cT_join 6 (some .boolean) rfl rfl (Nat.le_of_ble_eq_true rfl) rfl (fun Z hX => ?_)
  show Z 0 0 0 [some (.ref tr), some (.int (nI a)), some (.int (nI b)), none, none, none] [] (wT cI cZ tr g hs gr (has) (grp) ++ wG cI g f t n m fr to)
  refine z_aload_n hX 0 dT_join_0 rfl rfl ?_
  refine z_get hX 0 2 rfl rfl (zu inT) (by decide) (List.mem_cons_of_mem _ mw_135) rfl dT_join_1 ?_
  refine z_iload_n hX 1 dT_join_4 rfl rfl ?_
  refine z_ldN hX 2 0 _ rfl rfl rfl (by omega) (by decide) dT_join_5 ?_
  refine z_istore_n hX 3 dT_join_6 rfl (by decide) ?_
  refine z_aload_n hX 0 dT_join_7 rfl rfl ?_
  refine z_get hX 0 2 rfl rfl (zu inT) (by decide) (List.mem_cons_of_mem _ mw_135) rfl dT_join_8 ?_
  refine z_iload_n hX 2 dT_join_11 rfl rfl ?_
  refine z_ldN hX 2 0 _ rfl rfl rfl (by omega) (by decide) dT_join_12 ?_
  refine z_istore hX 4 dT_join_13 (by decide) ?_
  refine z_iconst hX (nI 0) dT_join_15 rfl ?_
  refine z_istore hX 5 dT_join_16 (by decide) ?_
  have hloop : ∀ i, i ≤ n → Z 0 0 18 [some (.ref tr), some (.int (nI a)), some (.int (nI b)), some (.int (nI (grp a))), some (.int (nI (grp b))), some (.int (nI i))] [] (wT cI cZ tr g hs gr (has) (zjf grp (grp a) (grp b) i) ++ wG cI g f t n m fr to) := by
    refine zloop (P := fun i => Z 0 0 18 [some (.ref tr), some (.int (nI a)), some (.int (nI b)), some (.int (nI (grp a))), some (.int (nI (grp b))), some (.int (nI i))] [] (wT cI cZ tr g hs gr (has) (zjf grp (grp a) (grp b) i) ++ wG cI g f t n m fr to)) n (fun i hi ih => ?_)
    refine z_iload hX 5 dT_join_18 rfl ?_
    refine z_aload_n hX 0 dT_join_20 rfl rfl ?_
    refine z_get hX 0 0 rfl rfl (zu inT) (by decide) (List.mem_cons_of_mem _ mw_130) rfl dT_join_21 ?_
    refine z_get hX 3 0 rfl rfl (zu inG) (by decide) (List.mem_cons_of_mem _ mw_32) rfl dT_join_24 ?_
    refine z_icmp_geN hX 56 (by omega) (by omega) dT_join_27 rfl (fun h27 => ?_) (fun h27 => ?_)
    · have him : i = n := by omega
      subst him
      refine z_iload_n hX 3 dT_join_56 rfl rfl ?_
      refine z_iload hX 4 dT_join_57 rfl ?_
      refine z_icmp_eqN hX 66 (by omega) (by omega) dT_join_59 rfl (fun h59 => ?_) (fun h59 => ?_)
      · have hr : decide (grp a ≠ grp b) = false := decide_eq_false (fun hc => hc h59)
        refine z_iconst hX (bN false) dT_join_66 rfl ?_
        refine z_iret hX rfl (bN_n _) rfl rfl dT_join_67 ?_
        exact ⟨by rw [hr], rfl⟩
      · have hr : decide (grp a ≠ grp b) = true := decide_eq_true h59
        refine z_iconst hX (bN true) dT_join_62 rfl ?_
        refine z_goto hX 67 dT_join_63 rfl ?_
        refine z_iret hX rfl (bN_n _) rfl rfl dT_join_67 ?_
        exact ⟨by rw [hr], rfl⟩
    · have hgi := hg i (by omega)
      refine z_aload_n hX 0 dT_join_30 rfl rfl ?_
      refine z_get hX 0 2 rfl rfl (zu inT) (by decide) (List.mem_cons_of_mem _ mw_135) rfl dT_join_31 ?_
      refine z_iload hX 5 dT_join_34 rfl ?_
      refine z_ldN hX 2 0 _ rfl rfl rfl (by omega) (by decide) dT_join_36 ?_
      rw [zjf_at]
      refine z_iload hX 4 dT_join_37 rfl ?_
      refine z_icmp_neN hX 50 (by omega) (by omega) dT_join_39 rfl (fun h39 => ?_) (fun h39 => ?_)
      · have hs2 := zjf_miss (g := grp) (kept := grp a) (gone := grp b) h39
        refine z_iinc hX 5 dT_join_50 rfl (zi_1 _) (by decide) ?_
        refine z_goto hX 18 dT_join_53 rfl ?_
        have hz := ih (by omega)
        rw [hs2] at hz
        exact hz
      · have hs2 := zjf_hit (g := grp) (kept := grp a) (gone := grp b) h39
        refine z_aload_n hX 0 dT_join_42 rfl rfl ?_
        refine z_get hX 0 2 rfl rfl (zu inT) (by decide) (List.mem_cons_of_mem _ mw_135) rfl dT_join_43 ?_
        refine z_iload hX 5 dT_join_46 rfl ?_
        refine z_iload_n hX 3 dT_join_48 rfl rfl ?_
        refine z_stN hX 2 0 _ _ rfl rfl rfl rfl (by omega) (by decide) dT_join_49 ?_
        refine z_iinc hX 5 dT_join_50 rfl (zi_1 _) (by decide) ?_
        refine z_goto hX 18 dT_join_53 rfl ?_
        have hz := ih (by omega)
        rw [hs2] at hz
        exact hz
  have hz := hloop 0 (Nat.zero_le _)
  rw [zjf_0] at hz
  exact hz

set_option maxHeartbeats 1000000 in
set_option maxRecDepth 100000 in
theorem kT_grow (l : Launch) (D : va_G) (cI cZ : ClassId) (tr g hs gr : Nat) (has : Nat → Bool) (grp : Nat → Nat) (f t n m : Nat) (fr to : Nat → Nat) (od : Nat) (ord : Nat → Nat) (many : Nat) (hn : 2 ≤ n ∧ n ≤ 12) (hmany : many ≤ 24) (hin : ∀ i, i < many → ord i < 24 ∧ fr (ord i) < n ∧ to (ord i) < n) : zM l yT_grow wT_grow rT_grow D zCl (zTy cI cZ) zNW 0 0 [.ref tr, .ref od, .int (nI many)] (wT cI cZ tr g hs gr (has) (grp) ++ wG cI g f t n m fr to ++ [(od, .inl (cI, 24, .inl (aN ord)))]) (fun v wn => v = none ∧ wn = wT cI cZ tr g hs gr ((sp_it (st_g fr to ord n) many (sj_join n (zid grp n) 0 1, has)).2) ((sp_it (st_g fr to ord n) many (sj_join n (zid grp n) 0 1, has)).1) ++ wG cI g f t n m fr to ++ [(od, .inl (cI, 24, .inl (aN ord)))]) := by
  have hl0 : ∀ x, x < n → zid grp n x < n := fun x hx => by rw [zid_in hx]; exact hx
  have hl1 : ∀ x, x < n → sj_join n (zid grp n) 0 1 x < n := sj_lab (by omega) hl0
  have hlab := st_lab (k := many) (fun i hi => (hin i hi).2) (has := has) hl1
  refine z_met2 cT_grow 5 none rfl rfl (Nat.le_of_ble_eq_true rfl) rfl (fun Z hX => ?_)
  show Z 0 0 0 [some (.ref tr), some (.ref od), some (.int (nI many)), none, none] [] (wT cI cZ tr g hs gr (has) (grp) ++ wG cI g f t n m fr to ++ [(od, .inl (cI, 24, .inl (aN ord)))])
  refine z_iconst hX (nI 0) dT_grow_0 rfl ?_
  refine z_istore_n hX 3 dT_grow_1 rfl (by decide) ?_
  have hloop : ∀ i, i ≤ n → Z 0 0 2 [some (.ref tr), some (.ref od), some (.int (nI many)), some (.int (nI i)), none] [] (wT cI cZ tr g hs gr (has) (zid grp i) ++ wG cI g f t n m fr to ++ [(od, .inl (cI, 24, .inl (aN ord)))]) := by
    refine zloop (P := fun i => Z 0 0 2 [some (.ref tr), some (.ref od), some (.int (nI many)), some (.int (nI i)), none] [] (wT cI cZ tr g hs gr (has) (zid grp i) ++ wG cI g f t n m fr to ++ [(od, .inl (cI, 24, .inl (aN ord)))])) n (fun i hi ih => ?_)
    refine z_iload_n hX 3 dT_grow_2 rfl rfl ?_
    refine z_aload_n hX 0 dT_grow_3 rfl rfl ?_
    refine z_get hX 0 0 rfl rfl (zu inT) (by decide) (List.mem_cons_of_mem _ mw_130) rfl dT_grow_4 ?_
    refine z_get hX 3 0 rfl rfl (zu inG) (by decide) (List.mem_cons_of_mem _ mw_32) rfl dT_grow_7 ?_
    refine z_icmp_geN hX 26 (by omega) (by omega) dT_grow_10 rfl (fun h10 => ?_) (fun h10 => ?_)
    · have him : i = n := by omega
      rw [him]
      refine z_aload_n hX 0 dT_grow_26 rfl rfl ?_
      refine z_iconst hX (nI 0) dT_grow_27 rfl ?_
      refine z_iconst hX (nI 1) dT_grow_28 rfl ?_
      refine z_Vm hX (kT_join l D cI cZ tr g hs gr has (zid grp n) f t n m fr to 0 1 (by omega) (by omega) (by omega) (fun x hx => by have := hl0 x hx; omega)) mw_336 mw_338 mp_1_8 mw_6 mw_339 rfl rfl ⟨rfl, by decide, by decide, rfl⟩ (by decide) 0 rfl rfl rfl rfl (Nat.le_of_ble_eq_true rfl) dT_grow_29 (by decide) [0, 1, 2, 3, 4, 5] rfl rfl (fun v wn hv => ?_)
      obtain ⟨rfl, rfl⟩ := hv
      refine ⟨by simp, ?_⟩
      refine z_pop hX dT_grow_32 rfl ?_
      refine z_iconst hX (nI 0) dT_grow_33 rfl ?_
      refine z_istore_n hX 3 dT_grow_34 rfl (by decide) ?_
      refine zloop (P := fun i => Z 0 0 35 [some (.ref tr), some (.ref od), some (.int (nI many)), some (.int (nI i)), none] [] (wT cI cZ tr g hs gr ((sp_it (st_g fr to ord n) i (sj_join n (zid grp n) 0 1, has)).2) ((sp_it (st_g fr to ord n) i (sj_join n (zid grp n) 0 1, has)).1) ++ wG cI g f t n m fr to ++ [(od, .inl (cI, 24, .inl (aN ord)))])) many (fun i hi2 ih2 => ?_) 0 (Nat.zero_le _)
      refine z_iload_n hX 3 dT_grow_35 rfl rfl ?_
      refine z_iload_n hX 2 dT_grow_36 rfl rfl ?_
      refine z_icmp_geN hX 82 (by omega) (by omega) dT_grow_37 rfl (fun h37 => ?_) (fun h37 => ?_)
      · refine z_vret hX rfl rfl rfl dT_grow_82 ?_
        rw [show many = i by omega]
        exact ⟨rfl, rfl⟩
      · have hini := hin i (by omega)
        refine z_aload_n hX 1 dT_grow_40 rfl rfl ?_
        refine z_iload_n hX 3 dT_grow_41 rfl rfl ?_
        refine z_ldN hX 6 0 _ rfl rfl rfl (by omega) (by decide) dT_grow_42 ?_
        refine z_istore hX 4 dT_grow_43 (by decide) ?_
        refine z_aload_n hX 0 dT_grow_45 rfl rfl ?_
        refine z_get hX 0 1 rfl rfl (zu inT) (by decide) (List.mem_cons_of_mem _ mw_131) rfl dT_grow_46 ?_
        refine z_iload hX 4 dT_grow_49 rfl ?_
        refine z_aload_n hX 0 dT_grow_51 rfl rfl ?_
        refine z_aload_n hX 0 dT_grow_52 rfl rfl ?_
        refine z_get hX 0 0 rfl rfl (zu inT) (by decide) (List.mem_cons_of_mem _ mw_130) rfl dT_grow_53 ?_
        refine z_get hX 3 1 rfl rfl (zu inG) (by decide) (List.mem_cons_of_mem _ mw_38) rfl dT_grow_56 ?_
        refine z_iload hX 4 dT_grow_59 rfl ?_
        refine z_ldN hX 4 0 _ rfl rfl rfl (by omega) (by decide) dT_grow_61 ?_
        refine z_aload_n hX 0 dT_grow_62 rfl rfl ?_
        refine z_get hX 0 0 rfl rfl (zu inT) (by decide) (List.mem_cons_of_mem _ mw_130) rfl dT_grow_63 ?_
        refine z_get hX 3 2 rfl rfl (zu inG) (by decide) (List.mem_cons_of_mem _ mw_45) rfl dT_grow_66 ?_
        refine z_iload hX 4 dT_grow_69 rfl ?_
        refine z_ldN hX 5 0 _ rfl rfl rfl (by omega) (by decide) dT_grow_71 ?_
        refine z_Vm hX (kT_join l D cI cZ tr g hs gr (sp_it (st_g fr to ord n) i (sj_join n (zid grp n) 0 1, has)).2 (sp_it (st_g fr to ord n) i (sj_join n (zid grp n) 0 1, has)).1 f t n m fr to (fr (ord i)) (to (ord i)) (by omega) (by omega) (by omega) (fun x hx => by have := hlab i (by omega) x hx; omega)) mw_336 mw_338 mp_1_8 mw_6 mw_339 rfl rfl ⟨rfl, by decide, by decide, rfl⟩ (by decide) 0 rfl rfl rfl rfl (Nat.le_of_ble_eq_true rfl) dT_grow_72 (by decide) [0, 1, 2, 3, 4, 5] rfl rfl (fun v wn hv => ?_)
        obtain ⟨rfl, rfl⟩ := hv
        refine ⟨by simp, ?_⟩
        refine z_stB hX 1 1 _ _ rfl rfl rfl rfl (by omega) (by decide) dT_grow_75 ?_
        refine z_iinc hX 3 dT_grow_76 rfl (zi_1 _) (by decide) ?_
        refine z_goto hX 35 dT_grow_79 rfl ?_
        exact z_le2 hX (ih2 (by omega)) (And.intro rfl (And.intro rfl (And.intro rfl (And.intro rfl trivial))))
    · refine z_aload_n hX 0 dT_grow_13 rfl rfl ?_
      refine z_get hX 0 2 rfl rfl (zu inT) (by decide) (List.mem_cons_of_mem _ mw_135) rfl dT_grow_14 ?_
      refine z_iload_n hX 3 dT_grow_17 rfl rfl ?_
      refine z_iload_n hX 3 dT_grow_18 rfl rfl ?_
      refine z_stN hX 2 0 _ _ rfl rfl rfl rfl (by omega) (by decide) dT_grow_19 ?_
      refine z_iinc hX 3 dT_grow_20 rfl (zi_1 _) (by decide) ?_
      refine z_goto hX 2 dT_grow_23 rfl ?_
      have hz := ih (by omega)
      rw [zid_up] at hz
      exact hz
  have hz := hloop 0 (Nat.zero_le _)
  rw [zid_0] at hz
  exact hz

set_option maxHeartbeats 1000000 in
set_option maxRecDepth 100000 in
theorem kT_blocksBehind (l : Launch) (D : va_G) (cI cZ : ClassId) (tr g hs gr : Nat) (has : Nat → Bool) (grp : Nat → Nat) (f t n m : Nat) (fr to : Nat → Nat) (cut : Nat) (hc24 : cut < 24) (hn : 2 ≤ n ∧ n ≤ 12) (hm : m ≤ 24) (hok : ∀ e, e < m → fr e < n ∧ to e < n) : zM l yT_blocksBehind wT_blocksBehind rT_blocksBehind D zCl (zTy cI cZ) zNW 0 0 [.ref tr, .int (nI cut)] (wT cI cZ tr g hs gr (has) (grp) ++ wG cI g f t n m fr to) (fun v wn => v = some (.int (bS (fun i => decide (i < n) && !sb_near fr to has cut m n i))) ∧ wn = wT cI cZ tr g hs gr (has) (grp) ++ wG cI g f t n m fr to) := by
  refine z_met2 cT_blocksBehind 6 (some .int) rfl rfl (Nat.le_of_ble_eq_true rfl) rfl (fun Z hX => ?_)
  show Z 0 0 0 [some (.ref tr), some (.int (nI cut)), none, none, none, none] [] (wT cI cZ tr g hs gr (has) (grp) ++ wG cI g f t n m fr to)
  refine z_iconst hX (nI 0) dT_blocksBehind_0 rfl ?_
  refine z_Nr hX (kA_bit l D cI cZ 0 (by omega)) "SpanningProbes" mw_261 (by decide) mw_1 mw_260 rfl rfl ⟨by decide, by decide, rfl⟩ (by decide) rfl rfl (Nat.le_of_ble_eq_true rfl) dT_blocksBehind_1 (by decide) [] rfl rfl (fun v wn hv => ?_)
  obtain ⟨rfl, rfl⟩ := hv
  refine ⟨rfl, ?_⟩
  refine z_iconst hX (nI 1) dT_blocksBehind_4 rfl ?_
  refine z_Nr hX (kA_bit l D cI cZ 1 (by omega)) "SpanningProbes" mw_261 (by decide) mw_1 mw_260 rfl rfl ⟨by decide, by decide, rfl⟩ (by decide) rfl rfl (Nat.le_of_ble_eq_true rfl) dT_blocksBehind_5 (by decide) [] rfl rfl (fun v wn hv => ?_)
  obtain ⟨rfl, rfl⟩ := hv
  refine ⟨rfl, ?_⟩
  refine z_ior hX dT_blocksBehind_8 ?_
  rw [bS_01]
  refine z_istore_n hX 2 dT_blocksBehind_9 rfl (by decide) ?_
  refine z_iconst hX (nI 1) dT_blocksBehind_10 rfl ?_
  refine z_istore_n hX 3 dT_blocksBehind_11 rfl (by decide) ?_
  refine zloop (P := fun j => Z 0 0 12 [some (.ref tr), some (.int (nI cut)), some (.int (bS (sp_it (fun _ => sb_r fr to has cut m) j (fun b => decide (b = 0 ∨ b = 1))))), some (.int (nI (j + 1))), none, none] [] (wT cI cZ tr g hs gr (has) (grp) ++ wG cI g f t n m fr to)) (n - 1) (fun j hj ih => ?_) 0 (Nat.zero_le _)
  refine z_iload_n hX 3 dT_blocksBehind_12 rfl rfl ?_
  refine z_aload_n hX 0 dT_blocksBehind_13 rfl rfl ?_
  refine z_get hX 0 0 rfl rfl (zu inT) (by decide) (List.mem_cons_of_mem _ mw_130) rfl dT_blocksBehind_14 ?_
  refine z_get hX 3 0 rfl rfl (zu inG) (by decide) (List.mem_cons_of_mem _ mw_32) rfl dT_blocksBehind_17 ?_
  refine z_icmp_geN hX 107 (by omega) (by omega) dT_blocksBehind_20 rfl (fun h20 => ?_) (fun h20 => ?_)
  · refine z_aload_n hX 0 dT_blocksBehind_107 rfl rfl ?_
    refine z_get hX 0 0 rfl rfl (zu inT) (by decide) (List.mem_cons_of_mem _ mw_130) rfl dT_blocksBehind_108 ?_
    refine z_Vr hX (kG_allBlocks l D cI cZ g f t n m fr to (by omega)) mw_349 mw_278 mw_279 mw_2 mw_280 rfl rfl ⟨rfl, by decide, by decide, rfl⟩ (by decide) 3 rfl rfl rfl rfl (Nat.le_of_ble_eq_true rfl) dT_blocksBehind_111 (by decide) [3, 4, 5] rfl rfl (fun v wn hv => ?_)
    obtain ⟨rfl, rfl⟩ := hv
    refine ⟨rfl, ?_⟩
    refine z_iload_n hX 2 dT_blocksBehind_114 rfl rfl ?_
    refine z_iconst hX (-1) dT_blocksBehind_115 rfl ?_
    refine z_ixor hX dT_blocksBehind_116 ?_
    refine z_iand hX dT_blocksBehind_117 ?_
    rw [bS_andn]
    refine z_iret hX rfl rfl rfl rfl dT_blocksBehind_118 ?_
    rw [show j = n - 1 by omega]
    exact ⟨rfl, rfl⟩
  · refine z_iconst hX (nI 0) dT_blocksBehind_23 rfl ?_
    refine z_istore hX 4 dT_blocksBehind_24 (by decide) ?_
    refine zloop (P := fun e => Z 0 0 26 [some (.ref tr), some (.int (nI cut)), some (.int (bS (sp_it (sb_s fr to has cut) e (sp_it (fun _ => sb_r fr to has cut m) j (fun b => decide (b = 0 ∨ b = 1)))))), some (.int (nI (j + 1))), some (.int (nI e)), none] [] (wT cI cZ tr g hs gr (has) (grp) ++ wG cI g f t n m fr to)) m (fun e he ih2 => ?_) 0 (Nat.zero_le _)
    refine z_iload hX 4 dT_blocksBehind_26 rfl ?_
    refine z_aload_n hX 0 dT_blocksBehind_28 rfl rfl ?_
    refine z_get hX 0 0 rfl rfl (zu inT) (by decide) (List.mem_cons_of_mem _ mw_130) rfl dT_blocksBehind_29 ?_
    refine z_get hX 3 3 rfl rfl (zu inG) (by decide) (List.mem_cons_of_mem _ mw_55) rfl dT_blocksBehind_32 ?_
    refine z_icmp_geN hX 101 (by omega) (by omega) dT_blocksBehind_35 rfl (fun h35 => ?_) (fun h35 => ?_)
    · refine z_iinc hX 3 dT_blocksBehind_101 rfl (zi_1 _) (by decide) ?_
      refine z_goto hX 12 dT_blocksBehind_104 rfl ?_
      refine z_le2 hX (ih (by omega)) (And.intro rfl (And.intro rfl (And.intro ?_ (And.intro rfl trivial))))
      rw [show m = e by omega]
      rfl
    · have hoke := hok e (by omega)
      refine z_aload_n hX 0 dT_blocksBehind_38 rfl rfl ?_
      refine z_get hX 0 0 rfl rfl (zu inT) (by decide) (List.mem_cons_of_mem _ mw_130) rfl dT_blocksBehind_39 ?_
      refine z_get hX 3 1 rfl rfl (zu inG) (by decide) (List.mem_cons_of_mem _ mw_38) rfl dT_blocksBehind_42 ?_
      refine z_iload hX 4 dT_blocksBehind_45 rfl ?_
      refine z_ldN hX 4 0 _ rfl rfl rfl (by omega) (by decide) dT_blocksBehind_47 ?_
      refine z_Nr hX (kA_bit l D cI cZ (fr e) (by omega)) "SpanningProbes" mw_261 (by decide) mw_1 mw_260 rfl rfl ⟨by decide, by decide, rfl⟩ (by decide) rfl rfl (Nat.le_of_ble_eq_true rfl) dT_blocksBehind_48 (by decide) [] rfl rfl (fun v wn hv => ?_)
      obtain ⟨rfl, rfl⟩ := hv
      refine ⟨rfl, ?_⟩
      refine z_aload_n hX 0 dT_blocksBehind_51 rfl rfl ?_
      refine z_get hX 0 0 rfl rfl (zu inT) (by decide) (List.mem_cons_of_mem _ mw_130) rfl dT_blocksBehind_52 ?_
      refine z_get hX 3 2 rfl rfl (zu inG) (by decide) (List.mem_cons_of_mem _ mw_45) rfl dT_blocksBehind_55 ?_
      refine z_iload hX 4 dT_blocksBehind_58 rfl ?_
      refine z_ldN hX 5 0 _ rfl rfl rfl (by omega) (by decide) dT_blocksBehind_60 ?_
      refine z_Nr hX (kA_bit l D cI cZ (to e) (by omega)) "SpanningProbes" mw_261 (by decide) mw_1 mw_260 rfl rfl ⟨by decide, by decide, rfl⟩ (by decide) rfl rfl (Nat.le_of_ble_eq_true rfl) dT_blocksBehind_61 (by decide) [] rfl rfl (fun v wn hv => ?_)
      obtain ⟨rfl, rfl⟩ := hv
      refine ⟨rfl, ?_⟩
      refine z_ior hX dT_blocksBehind_64 ?_
      rw [bS_or]
      refine z_istore hX 5 dT_blocksBehind_65 (by decide) ?_
      refine z_aload_n hX 0 dT_blocksBehind_67 rfl rfl ?_
      refine z_get hX 0 1 rfl rfl (zu inT) (by decide) (List.mem_cons_of_mem _ mw_131) rfl dT_blocksBehind_68 ?_
      refine z_iload hX 4 dT_blocksBehind_71 rfl ?_
      refine z_ldB hX 1 1 _ rfl rfl rfl (by omega) (by decide) dT_blocksBehind_73 ?_
      refine z_if_eqB hX 95 dT_blocksBehind_74 rfl (fun h74 => ?_) (fun h74 => ?_)
      · have hs2 : sp_it (sb_s fr to has cut) (e + 1) (sp_it (fun _ => sb_r fr to has cut m) j (fun b => decide (b = 0 ∨ b = 1))) = sp_it (sb_s fr to has cut) e (sp_it (fun _ => sb_r fr to has cut m) j (fun b => decide (b = 0 ∨ b = 1))) := if_neg (fun hc => by rw [h74] at hc; exact absurd hc.1 (by decide))
        refine z_iinc hX 4 dT_blocksBehind_95 rfl (zi_1 _) (by decide) ?_
        refine z_goto hX 26 dT_blocksBehind_98 rfl ?_
        have hz := ih2 (by omega)
        rw [hs2] at hz
        exact z_le2 hX hz (And.intro rfl (And.intro rfl (And.intro rfl (And.intro rfl (And.intro rfl trivial)))))
      · refine z_iload hX 4 dT_blocksBehind_77 rfl ?_
        refine z_iload_n hX 1 dT_blocksBehind_79 rfl rfl ?_
        refine z_icmp_eqN hX 95 (by omega) (by omega) dT_blocksBehind_80 rfl (fun h80 => ?_) (fun h80 => ?_)
        · have hs2 : sp_it (sb_s fr to has cut) (e + 1) (sp_it (fun _ => sb_r fr to has cut m) j (fun b => decide (b = 0 ∨ b = 1))) = sp_it (sb_s fr to has cut) e (sp_it (fun _ => sb_r fr to has cut m) j (fun b => decide (b = 0 ∨ b = 1))) := if_neg (fun hc => hc.2.1 h80)
          refine z_iinc hX 4 dT_blocksBehind_95 rfl (zi_1 _) (by decide) ?_
          refine z_goto hX 26 dT_blocksBehind_98 rfl ?_
          have hz := ih2 (by omega)
          rw [hs2] at hz
          exact z_le2 hX hz (And.intro rfl (And.intro rfl (And.intro rfl (And.intro rfl (And.intro rfl trivial)))))
        · refine z_iload_n hX 2 dT_blocksBehind_83 rfl rfl ?_
          refine z_iload hX 5 dT_blocksBehind_84 rfl ?_
          refine z_iand hX dT_blocksBehind_86 ?_
          refine z_if_eq hX 95 dT_blocksBehind_87 rfl (fun h87 => ?_) (fun h87 => ?_)
          · have hs2 : sp_it (sb_s fr to has cut) (e + 1) (sp_it (fun _ => sb_r fr to has cut m) j (fun b => decide (b = 0 ∨ b = 1))) = sp_it (sb_s fr to has cut) e (sp_it (fun _ => sb_r fr to has cut m) j (fun b => decide (b = 0 ∨ b = 1))) := if_neg (fun hc => (bS_meet (by omega) (by omega)).mp h87 hc.2.2)
            refine z_iinc hX 4 dT_blocksBehind_95 rfl (zi_1 _) (by decide) ?_
            refine z_goto hX 26 dT_blocksBehind_98 rfl ?_
            have hz := ih2 (by omega)
            rw [hs2] at hz
            exact z_le2 hX hz (And.intro rfl (And.intro rfl (And.intro rfl (And.intro rfl (And.intro rfl trivial)))))
          · have hs2 : sp_it (sb_s fr to has cut) (e + 1) (sp_it (fun _ => sb_r fr to has cut m) j (fun b => decide (b = 0 ∨ b = 1))) = va_up (va_up (sp_it (sb_s fr to has cut) e (sp_it (fun _ => sb_r fr to has cut m) j (fun b => decide (b = 0 ∨ b = 1)))) (fr e) true) (to e) true := if_pos ⟨h74, h80, Classical.byContradiction (fun hc => h87 ((bS_meet (by omega) (by omega)).mpr hc))⟩
            refine z_iload_n hX 2 dT_blocksBehind_90 rfl rfl ?_
            refine z_iload hX 5 dT_blocksBehind_91 rfl ?_
            refine z_ior hX dT_blocksBehind_93 ?_
            rw [bS_or2]
            refine z_istore_n hX 2 dT_blocksBehind_94 rfl (by decide) ?_
            refine z_iinc hX 4 dT_blocksBehind_95 rfl (zi_1 _) (by decide) ?_
            refine z_goto hX 26 dT_blocksBehind_98 rfl ?_
            have hz := ih2 (by omega)
            rw [hs2] at hz
            exact z_le2 hX hz (And.intro rfl (And.intro rfl (And.intro rfl (And.intro rfl (And.intro rfl trivial)))))

