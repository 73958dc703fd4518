/-! Graph.allReachExit, pickFrom; Search -/
set_option maxHeartbeats 1000000 in
set_option maxRecDepth 100000 in
theorem kG_allReachExit (l : Launch) (D : va_G) (cI cZ : ClassId) (g f t n m : Nat) (fr to : Nat → Nat) (hn : 2 ≤ n ∧ n ≤ 12) (hm : m ≤ 24) (hok : ∀ e, e < m → fr e < n ∧ to e < n) : zM l yG_allReachExit wG_allReachExit rG_allReachExit D zCl (zTy cI cZ) zNW 0 0 [.ref g] (wG cI g f t n m fr to) (fun v wn => v = some (.int (bN (zallb n (sp_it (fun _ => sr_r fr to none m) (n - 1) (zS0 1 none))))) ∧ wn = wG cI g f t n m fr to) := by
  have hin := sr_in (bar := none) hok (zpick_S0 (tg := 1) (bar := none) (n := n) (by omega)) (n - 1)
  refine z_met2 cG_allReachExit 1 (some .boolean) rfl rfl (Nat.le_of_ble_eq_true rfl) rfl (fun Z hX => ?_)
  show Z 0 0 0 [some (.ref g)] [] (wG cI g f t n m fr to)
  refine z_aload_n hX 0 dG_allReachExit_0 rfl rfl ?_
  refine z_iconst hX (nI 1) dG_allReachExit_1 rfl ?_
  refine z_iconst hX (-1) dG_allReachExit_2 rfl ?_
  refine z_Vr hX (kG_blocksReaching l D cI cZ g f t n m fr to 1 none hn hm hok (by omega) (fun b hb => by cases hb)) mw_286 mw_287 mw_288 mw_2 mw_289 rfl rfl ⟨rfl, by decide, by decide, rfl⟩ (by decide) 0 rfl rfl rfl rfl (Nat.le_of_ble_eq_true rfl) dG_allReachExit_3 (by decide) [0, 1, 2] rfl rfl (fun v wn hv => ?_)
  obtain ⟨rfl, rfl⟩ := hv
  refine ⟨rfl, ?_⟩
  refine z_aload_n hX 0 dG_allReachExit_6 rfl rfl ?_
  refine z_Vr hX (kG_allBlocks l D cI cZ g f t n m fr to (by omega)) mw_291 mw_278 mw_279 mw_2 mw_280 rfl rfl ⟨rfl, by decide, by decide, rfl⟩ (by decide) 0 rfl rfl rfl rfl (Nat.le_of_ble_eq_true rfl) dG_allReachExit_7 (by decide) [0, 1, 2] rfl rfl (fun v wn hv => ?_)
  obtain ⟨rfl, rfl⟩ := hv
  refine ⟨rfl, ?_⟩
  refine z_icmp_ne hX 17 dG_allReachExit_10 rfl (fun h10 => ?_) (fun h10 => ?_)
  · have hr : zallb n (sp_it (fun _ => sr_r fr to none m) (n - 1) (zS0 1 none)) = false := decide_eq_false (fun hc => h10 ((zall_iff (by omega) hin).mpr hc))
    refine z_iconst hX (bN false) dG_allReachExit_17 rfl ?_
    refine z_iret hX rfl (bN_n _) rfl rfl dG_allReachExit_18 ?_
    exact ⟨by rw [hr], rfl⟩
  · have hr : zallb n (sp_it (fun _ => sr_r fr to none m) (n - 1) (zS0 1 none)) = true := decide_eq_true ((zall_iff (by omega) hin).mp h10)
    refine z_iconst hX (bN true) dG_allReachExit_13 rfl ?_
    refine z_goto hX 18 dG_allReachExit_14 rfl ?_
    refine z_iret hX rfl (bN_n _) rfl rfl dG_allReachExit_18 ?_
    exact ⟨by rw [hr], rfl⟩

set_option maxHeartbeats 1000000 in
set_option maxRecDepth 100000 in
theorem kG_pickFrom (l : Launch) (D : va_G) (cI cZ : ClassId) (g f t n m : Nat) (fr to : Nat → Nat) (b pl : Nat) (hb : b < 2147483648) (hpl : pl < 2147483648) (hn : 2 ≤ n ∧ n ≤ 12) (hm : m ≤ 24) (hok : ∀ e, e < m → fr e < n ∧ to e < n) : zM l yG_pickFrom wG_pickFrom rG_pickFrom D zCl (zTy cI cZ) zNW 0 0 [.ref g, .int (nI b), .int (nI pl)] (wG cI g f t n m fr to) (fun v wn => v = some (.int (zpick fr b m pl)) ∧ wn = wG cI g f t n m fr to) := by
  refine z_met2 cG_pickFrom 6 (some .int) rfl rfl (Nat.le_of_ble_eq_true rfl) rfl (fun Z hX => ?_)
  show Z 0 0 0 [some (.ref g), some (.int (nI b)), some (.int (nI pl)), none, none, none] [] (wG cI g f t n m fr to)
  refine z_iconst hX (nI 0) dG_pickFrom_0 rfl ?_
  refine z_istore_n hX 3 dG_pickFrom_1 rfl (by decide) ?_
  refine z_iconst hX (nI 0) dG_pickFrom_2 rfl ?_
  refine z_istore hX 4 dG_pickFrom_3 (by decide) ?_
  refine zloop (P := fun i => Z 0 0 5 [some (.ref g), some (.int (nI b)), some (.int (nI pl)), some (.int (nI (sp_cnt (fun e => decide (fr e = b)) i))), some (.int (nI i)), none] [] (wG cI g f t n m fr to)) m (fun i hi ih => ?_) 0 (Nat.zero_le _)
  refine z_iload hX 4 dG_pickFrom_5 rfl ?_
  refine z_aload_n hX 0 dG_pickFrom_7 rfl rfl ?_
  refine z_get hX 0 3 rfl rfl (zu inG) (by decide) (List.mem_cons_of_mem _ mw_50) rfl dG_pickFrom_8 ?_
  refine z_icmp_geN hX 34 (by omega) (by omega) dG_pickFrom_11 rfl (fun h11 => ?_) (fun h11 => ?_)
  · have him : i = m := by omega
    rw [him]
    have hdd : sp_cnt (fun e => decide (fr e = b)) m = sg_deg fr b m := rfl
    rw [hdd]
    have hdl : sg_deg fr b m ≤ m := sp_cnt_le _ _
    refine z_iload_n hX 3 dG_pickFrom_34 rfl rfl ?_
    refine z_if_ne hX 40 dG_pickFrom_35 rfl (fun h35 => ?_) (fun h35 => ?_)
    · have hd0 : 0 < sg_deg fr b m := by
        have := (zi_eq0 (a := sg_deg fr b m) (by omega)).mpr
        by_cases hc : sg_deg fr b m = 0
        · exact absurd (this hc) h35
        · omega
      have hml := Nat.mod_lt pl hd0
      have hk := fun t ht => sg_pk_spec (fr := fr) (b := b) (m := m) t ht
      refine z_aload_n hX 0 dG_pickFrom_40 rfl rfl ?_
      refine z_iload_n hX 1 dG_pickFrom_41 rfl rfl ?_
      refine z_iconst hX (nI 0) dG_pickFrom_42 rfl ?_
      refine z_Vr hX (kG_nextFrom l D cI cZ g f t n m fr to b 0 hb (fun e he => by have := hok e he; omega) hm (Nat.zero_le _)) mw_446 mw_263 mw_264 mw_2 mw_265 rfl rfl ⟨rfl, by decide, by decide, rfl⟩ (by decide) 0 rfl rfl rfl rfl (Nat.le_of_ble_eq_true rfl) dG_pickFrom_43 (by decide) [0, 1, 2] rfl rfl (fun v wn hv => ?_)
      obtain ⟨rfl, rfl⟩ := hv
      refine ⟨rfl, ?_⟩
      rw [show zE m (sg_nx fr b (m - 0) 0) = nI (sg_pk fr b m 0) from zE_in (hk 0 hd0).1]
      refine z_istore hX 4 dG_pickFrom_46 (by decide) ?_
      refine z_iload_n hX 2 dG_pickFrom_48 rfl rfl ?_
      refine z_iload_n hX 3 dG_pickFrom_49 rfl rfl ?_
      refine z_irem hX dG_pickFrom_50 (fun hc => by have := (zi_eq0 (a := sg_deg fr b m) (by omega)).mp hc; omega) ?_
      rw [pk_rem (by omega) hd0 (by omega)]
      refine z_istore hX 5 dG_pickFrom_51 (by decide) ?_
      refine zloop (P := fun i => Z 0 0 53 [some (.ref g), some (.int (nI b)), some (.int (nI pl)), some (.int (nI (sg_deg fr b m))), some (.int (nI (sg_pk fr b m i))), some (.int (nI (pl % sg_deg fr b m - i)))] [] (wG cI g f t n m fr to)) (pl % sg_deg fr b m) (fun i hi2 ih2 => ?_) 0 (Nat.zero_le _)
      refine z_iload hX 5 dG_pickFrom_53 rfl ?_
      refine z_if_le hX 75 dG_pickFrom_55 rfl (fun h55 => ?_) (fun h55 => ?_)
      · have hz0 := (zi_le0 (a := pl % sg_deg fr b m - i) (by omega)).mp h55
        refine z_iload hX 4 dG_pickFrom_75 rfl ?_
        refine z_iret hX rfl rfl rfl rfl dG_pickFrom_77 ?_
        exact ⟨by unfold zpick; rw [if_neg (by omega), show pl % sg_deg fr b m = i by omega], rfl⟩
      · have hz0 : ¬ (pl % sg_deg fr b m - i = 0) := fun hc => h55 ((zi_le0 (by omega)).mpr hc)
        have hki := hk i (by omega)
        have hkj := hk (i + 1) (by omega)
        refine z_aload_n hX 0 dG_pickFrom_58 rfl rfl ?_
        refine z_iload_n hX 1 dG_pickFrom_59 rfl rfl ?_
        refine z_iload hX 4 dG_pickFrom_60 rfl ?_
        refine z_iconst hX (nI 1) dG_pickFrom_62 rfl ?_
        refine z_iaddN hX dG_pickFrom_63 ?_
        refine z_Vr hX (kG_nextFrom l D cI cZ g f t n m fr to b (sg_pk fr b m i + 1) hb (fun e he => by have := hok e he; omega) hm (by omega)) mw_446 mw_263 mw_264 mw_2 mw_265 rfl rfl ⟨rfl, by decide, by decide, rfl⟩ (by decide) 0 rfl rfl rfl rfl (Nat.le_of_ble_eq_true rfl) dG_pickFrom_64 (by decide) [0, 1, 2] rfl rfl (fun v wn hv => ?_)
        obtain ⟨rfl, rfl⟩ := hv
        refine ⟨rfl, ?_⟩
        rw [show zE m (sg_nx fr b (m - (sg_pk fr b m i + 1)) (sg_pk fr b m i + 1)) = nI (sg_pk fr b m (i + 1)) from zE_in hkj.1]
        refine z_istore hX 4 dG_pickFrom_67 (by decide) ?_
        refine z_iinc hX 5 dG_pickFrom_69 rfl (zi_pred (by omega)) (by decide) ?_
        refine z_goto hX 53 dG_pickFrom_72 rfl ?_
        exact ih2 (by omega)
    · have hd0 := (zi_eq0 (a := sg_deg fr b m) (by omega)).mp h35
      refine z_iconst hX (-1) dG_pickFrom_38 rfl ?_
      refine z_iret hX rfl rfl rfl rfl dG_pickFrom_39 ?_
      exact ⟨by unfold zpick; rw [if_pos hd0], rfl⟩
  · have hoke := hok i (by omega)
    refine z_aload_n hX 0 dG_pickFrom_14 rfl rfl ?_
    refine z_get hX 0 1 rfl rfl (zu inG) (by decide) (List.mem_cons_of_mem _ mw_37) rfl dG_pickFrom_15 ?_
    refine z_iload hX 4 dG_pickFrom_18 rfl ?_
    refine z_ldN hX 1 0 _ rfl rfl rfl (by omega) (by decide) dG_pickFrom_20 ?_
    refine z_iload_n hX 1 dG_pickFrom_21 rfl rfl ?_
    refine z_icmp_neN hX 28 (by omega) (by omega) dG_pickFrom_22 rfl (fun h22 => ?_) (fun h22 => ?_)
    · have hs : sp_cnt (fun e => decide (fr e = b)) (i + 1) = sp_cnt (fun e => decide (fr e = b)) i := by show _ + (if decide (fr i = b) = true then 1 else 0) = _; rw [decide_eq_false h22]; rfl
      refine z_iinc hX 4 dG_pickFrom_28 rfl (zi_1 _) (by decide) ?_
      refine z_goto hX 5 dG_pickFrom_31 rfl ?_
      have hz := ih (by omega)
      rw [hs] at hz
      exact hz
    · have hs : sp_cnt (fun e => decide (fr e = b)) (i + 1) = sp_cnt (fun e => decide (fr e = b)) i + 1 := by show _ + (if decide (fr i = b) = true then 1 else 0) = _; rw [decide_eq_true h22]; rfl
      refine z_iinc hX 3 dG_pickFrom_25 rfl (zi_1 _) (by decide) ?_
      refine z_iinc hX 4 dG_pickFrom_28 rfl (zi_1 _) (by decide) ?_
      refine z_goto hX 5 dG_pickFrom_31 rfl ?_
      have hz := ih (by omega)
      rw [hs] at hz
      exact hz

set_option maxHeartbeats 1000000 in
set_option maxRecDepth 100000 in
theorem kS_enter (l : Launch) (D : va_G) (cI cZ : ClassId) (s g ib fi sk lu : Nat) (Mt Op : Nat → Bool) (h : Nat) (bk : Nat → Bool) (fin st lk : Nat → Nat) (b : Nat) (hb : b < 12) (hh : h < 12) : zM l yS_enter wS_enter rS_enter D zCl (zTy cI cZ) zNW 0 0 [.ref s, .int (nI b)] (wS cI cZ s g ib fi sk lu Mt Op h bk fin st lk) (fun v wn => v = none ∧ wn = wS cI cZ s g ib fi sk lu (va_up Mt b true) (va_up Op b true) (h + 1) bk fin (va_up st h b) (va_up lk b 0)) := by
  refine z_met2 cS_enter 2 none rfl rfl (Nat.le_of_ble_eq_true rfl) rfl (fun Z hX => ?_)
  show Z 0 0 0 [some (.ref s), some (.int (nI b))] [] (wS cI cZ s g ib fi sk lu Mt Op h bk fin st lk)
  refine z_aload_n hX 0 dS_enter_0 rfl rfl ?_
  refine z_dup hX dS_enter_1 rfl ?_
  refine z_get hX 0 5 rfl rfl (zu inS) (by decide) (List.mem_cons_of_mem _ mw_82) rfl dS_enter_2 ?_
  refine z_iload_n hX 1 dS_enter_5 rfl rfl ?_
  refine z_Nr hX (kA_bit l D cI cZ b (by omega)) "SpanningProbes" mw_261 (by decide) mw_1 mw_260 rfl rfl ⟨by decide, by decide, rfl⟩ (by decide) rfl rfl (Nat.le_of_ble_eq_true rfl) dS_enter_6 (by decide) [] rfl rfl (fun v wn hv => ?_)
  obtain ⟨rfl, rfl⟩ := hv
  refine ⟨rfl, ?_⟩
  refine z_ior hX dS_enter_9 ?_
  rw [bS_put]
  refine z_put hX 0 5 rfl rfl (zu inS) tyS tyS_ok nmS (by decide) (List.mem_cons_of_mem _ mw_82) (Or.inl rfl) rfl rfl rfl (Nat.le_of_ble_eq_true rfl) dS_enter_10 ?_
  refine z_aload_n hX 0 dS_enter_13 rfl rfl ?_
  refine z_dup hX dS_enter_14 rfl ?_
  refine z_get hX 0 6 rfl rfl (zu inS) (by decide) (List.mem_cons_of_mem _ mw_83) rfl dS_enter_15 ?_
  refine z_iload_n hX 1 dS_enter_18 rfl rfl ?_
  refine z_Nr hX (kA_bit l D cI cZ b (by omega)) "SpanningProbes" mw_261 (by decide) mw_1 mw_260 rfl rfl ⟨by decide, by decide, rfl⟩ (by decide) rfl rfl (Nat.le_of_ble_eq_true rfl) dS_enter_19 (by decide) [] rfl rfl (fun v wn hv => ?_)
  obtain ⟨rfl, rfl⟩ := hv
  refine ⟨rfl, ?_⟩
  refine z_ior hX dS_enter_22 ?_
  rw [bS_put]
  refine z_put hX 0 6 rfl rfl (zu inS) tyS tyS_ok nmS (by decide) (List.mem_cons_of_mem _ mw_83) (Or.inl rfl) rfl rfl rfl (Nat.le_of_ble_eq_true rfl) dS_enter_23 ?_
  refine z_aload_n hX 0 dS_enter_26 rfl rfl ?_
  refine z_get hX 0 4 rfl rfl (zu inS) (by decide) (List.mem_cons_of_mem _ mw_81) rfl dS_enter_27 ?_
  refine z_iload_n hX 1 dS_enter_30 rfl rfl ?_
  refine z_iconst hX (nI 0) dS_enter_31 rfl ?_
  refine z_stN hX 4 0 _ _ rfl rfl rfl rfl (by omega) (by decide) dS_enter_32 ?_
  refine z_aload_n hX 0 dS_enter_33 rfl rfl ?_
  refine z_get hX 0 3 rfl rfl (zu inS) (by decide) (List.mem_cons_of_mem _ mw_80) rfl dS_enter_34 ?_
  refine z_aload_n hX 0 dS_enter_37 rfl rfl ?_
  refine z_get hX 0 7 rfl rfl (zu inS) (by decide) (List.mem_cons_of_mem _ mw_84) rfl dS_enter_38 ?_
  refine z_iload_n hX 1 dS_enter_41 rfl rfl ?_
  refine z_stN hX 3 0 _ _ rfl rfl rfl rfl (by omega) (by decide) dS_enter_42 ?_
  refine z_aload_n hX 0 dS_enter_43 rfl rfl ?_
  refine z_dup hX dS_enter_44 rfl ?_
  refine z_get hX 0 7 rfl rfl (zu inS) (by decide) (List.mem_cons_of_mem _ mw_84) rfl dS_enter_45 ?_
  refine z_iconst hX (nI 1) dS_enter_48 rfl ?_
  refine z_iaddN hX dS_enter_49 ?_
  refine z_put hX 0 7 rfl rfl (zu inS) tyS tyS_ok nmS (by decide) (List.mem_cons_of_mem _ mw_84) (Or.inl rfl) rfl rfl rfl (Nat.le_of_ble_eq_true rfl) dS_enter_50 ?_
  refine z_vret hX rfl rfl rfl dS_enter_53 ?_
  exact ⟨rfl, rfl⟩

set_option maxHeartbeats 1000000 in
set_option maxRecDepth 100000 in
theorem kS_lookAt (l : Launch) (D : va_G) (cI cZ : ClassId) (s g ib fi sk lu : Nat) (Mt Op : Nat → Bool) (h : Nat) (bk : Nat → Bool) (fin st lk : Nat → Nat) (f t n m : Nat) (fr to : Nat → Nat) (e : Nat) (he : e < 24) (ht : to e < 12) (hh : Mt (to e) = false → h < 12) : zM l yS_lookAt wS_lookAt rS_lookAt D zCl (zTy cI cZ) zNW 0 0 [.ref s, .int (nI e)] (wS cI cZ s g ib fi sk lu Mt Op h bk fin st lk ++ wG cI g f t n m fr to) (fun v wn => v = none ∧ wn = (if Mt (to e) = true then wS cI cZ s g ib fi sk lu Mt Op h (va_up bk e (Op (to e))) fin st lk else wS cI cZ s g ib fi sk lu (va_up Mt (to e) true) (va_up Op (to e) true) (h + 1) (va_up bk e (Op (to e))) fin (va_up st h (to e)) (va_up lk (to e) 0)) ++ wG cI g f t n m fr to) := by
  refine z_met2 cS_lookAt 3 none rfl rfl (Nat.le_of_ble_eq_true rfl) rfl (fun Z hX => ?_)
  show Z 0 0 0 [some (.ref s), some (.int (nI e)), none] [] (wS cI cZ s g ib fi sk lu Mt Op h bk fin st lk ++ wG cI g f t n m fr to)
  refine z_aload_n hX 0 dS_lookAt_0 rfl rfl ?_
  refine z_get hX 0 0 rfl rfl (zu inS) (by decide) (List.mem_cons_of_mem _ mw_73) rfl dS_lookAt_1 ?_
  refine z_get hX 5 2 rfl rfl (zu inG) (by decide) (List.mem_cons_of_mem _ mw_47) rfl dS_lookAt_4 ?_
  refine z_iload_n hX 1 dS_lookAt_7 rfl rfl ?_
  refine z_ldN hX 7 0 _ rfl rfl rfl (by omega) (by decide) dS_lookAt_8 ?_
  refine z_istore_n hX 2 dS_lookAt_9 rfl (by decide) ?_
  refine z_aload_n hX 0 dS_lookAt_10 rfl rfl ?_
  refine z_get hX 0 1 rfl rfl (zu inS) (by decide) (List.mem_cons_of_mem _ mw_74) rfl dS_lookAt_11 ?_
  refine z_iload_n hX 1 dS_lookAt_14 rfl rfl ?_
  refine z_aload_n hX 0 dS_lookAt_15 rfl rfl ?_
  refine z_get hX 0 6 rfl rfl (zu inS) (by decide) (List.mem_cons_of_mem _ mw_83) rfl dS_lookAt_16 ?_
  refine z_iload_n hX 2 dS_lookAt_19 rfl rfl ?_
  refine z_Nr hX (kA_isIn l D cI cZ Op (to e) (by omega)) "SpanningProbes" mw_272 (by decide) mw_1 mw_271 rfl rfl ⟨by decide, by decide, rfl⟩ (by decide) rfl rfl (Nat.le_of_ble_eq_true rfl) dS_lookAt_20 (by decide) [] rfl rfl (fun v wn hv => ?_)
  obtain ⟨rfl, rfl⟩ := hv
  refine ⟨rfl, ?_⟩
  refine z_stB hX 1 1 _ _ rfl rfl rfl rfl (by omega) (by decide) dS_lookAt_23 ?_
  refine z_aload_n hX 0 dS_lookAt_24 rfl rfl ?_
  refine z_get hX 0 5 rfl rfl (zu inS) (by decide) (List.mem_cons_of_mem _ mw_82) rfl dS_lookAt_25 ?_
  refine z_iload_n hX 2 dS_lookAt_28 rfl rfl ?_
  refine z_Nr hX (kA_isIn l D cI cZ Mt (to e) (by omega)) "SpanningProbes" mw_272 (by decide) mw_1 mw_271 rfl rfl ⟨by decide, by decide, rfl⟩ (by decide) rfl rfl (Nat.le_of_ble_eq_true rfl) dS_lookAt_29 (by decide) [] rfl rfl (fun v wn hv => ?_)
  obtain ⟨rfl, rfl⟩ := hv
  refine ⟨rfl, ?_⟩
  refine z_if_neB hX 40 dS_lookAt_32 rfl (fun h32 => ?_) (fun h32 => ?_)
  · refine z_vret hX rfl rfl rfl dS_lookAt_40 ?_
    exact ⟨rfl, by rw [h32]; rfl⟩
  · refine z_aload_n hX 0 dS_lookAt_35 rfl rfl ?_
    refine z_iload_n hX 2 dS_lookAt_36 rfl rfl ?_
    refine z_Vm hX (kS_enter l D cI cZ s g ib fi sk lu Mt Op h (va_up bk e (Op (to e))) fin st lk (to e) ht (hh h32)) mw_255 mw_257 mp_1_0 mw_4 mw_258 rfl rfl ⟨rfl, by decide, by decide, rfl⟩ (by decide) 0 rfl rfl rfl rfl (Nat.le_of_ble_eq_true rfl) dS_lookAt_37 (by decide) [0, 1, 2, 3, 4] rfl rfl (fun v wn hv => ?_)
    obtain ⟨rfl, rfl⟩ := hv
    refine ⟨by simp, ?_⟩
    refine z_vret hX rfl rfl rfl dS_lookAt_40 ?_
    exact ⟨rfl, by rw [h32]; rfl⟩

