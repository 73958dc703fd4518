/-! Links: numbers, bases -/
set_option maxHeartbeats 1000000 in
set_option maxRecDepth 100000 in
theorem kK_targetOf (l : Launch) (D : va_G) (cI cZ : ClassId) (lk g s kt rw vl sv bs ko : Nat) (R V SV : Nat → Nat) (B : Nat → Int) (o2 : Nat → Nat) (wy : Nat) (f t n m : Nat) (fr to : Nat → Nat) (ib fi sk lu : Nat) (Mt Op : Nat → Bool) (h : Nat) (bk : Nat → Bool) (fin st lq : Nat → Nat) (e : Nat) (he : e < 24) : zM l yK_targetOf wK_targetOf rK_targetOf D zCl (zTy cI cZ) zNW 0 0 [.ref lk, .int (nI e)] (wK cI lk g s kt rw vl sv bs ko (R) (V) (SV) (B) (o2) (wy) ++ wG cI g f t n m fr to ++ wS cI cZ s g ib fi sk lu Mt Op h bk fin st lq) (fun v wn => v = some (.int (nI (ztg bk to e))) ∧ wn = wK cI lk g s kt rw vl sv bs ko (R) (V) (SV) (B) (o2) (wy) ++ wG cI g f t n m fr to ++ wS cI cZ s g ib fi sk lu Mt Op h bk fin st lq) := by
  refine z_met2 cK_targetOf 2 (some .int) rfl rfl (Nat.le_of_ble_eq_true rfl) rfl (fun Z hX => ?_)
  show Z 0 0 0 [some (.ref lk), some (.int (nI e))] [] (wK cI lk g s kt rw vl sv bs ko (R) (V) (SV) (B) (o2) (wy) ++ wG cI g f t n m fr to ++ wS cI cZ s g ib fi sk lu Mt Op h bk fin st lq)
  refine z_aload_n hX 0 dK_targetOf_0 rfl rfl ?_
  refine z_get hX 0 1 rfl rfl (zu inK) (by decide) (List.mem_cons_of_mem _ mw_152) rfl dK_targetOf_1 ?_
  refine z_get hX 9 1 rfl rfl (zu inS) (by decide) (List.mem_cons_of_mem _ mw_75) rfl dK_targetOf_4 ?_
  refine z_iload_n hX 1 dK_targetOf_7 rfl rfl ?_
  refine z_ldB hX 10 1 _ rfl rfl rfl (by omega) (by decide) dK_targetOf_8 ?_
  refine z_if_eqB hX 16 dK_targetOf_9 rfl (fun h9 => ?_) (fun h9 => ?_)
  · have hr := ztg_f (to := to) h9
    refine z_aload_n hX 0 dK_targetOf_16 rfl rfl ?_
    refine z_get hX 0 0 rfl rfl (zu inK) (by decide) (List.mem_cons_of_mem _ mw_151) rfl dK_targetOf_17 ?_
    refine z_get hX 6 2 rfl rfl (zu inG) (by decide) (List.mem_cons_of_mem _ mw_44) rfl dK_targetOf_20 ?_
    refine z_iload_n hX 1 dK_targetOf_23 rfl rfl ?_
    refine z_ldN hX 8 0 _ rfl rfl rfl (by omega) (by decide) dK_targetOf_24 ?_
    refine z_iret hX rfl rfl rfl rfl dK_targetOf_25 ?_
    exact ⟨by rw [hr], rfl⟩
  · have hr := ztg_t (to := to) h9
    refine z_iconst hX (nI 1) dK_targetOf_12 rfl ?_
    refine z_goto hX 25 dK_targetOf_13 rfl ?_
    refine z_iret hX rfl rfl rfl rfl dK_targetOf_25 ?_
    exact ⟨by rw [hr], rfl⟩

set_option maxHeartbeats 1000000 in
set_option maxRecDepth 100000 in
theorem kK_incrementOf (l : Launch) (D : va_G) (cI cZ : ClassId) (lk g s kt rw vl sv bs ko : Nat) (R V SV : Nat → Nat) (B : Nat → Int) (o2 : Nat → Nat) (wy : Nat) (f t n m : Nat) (fr to : Nat → Nat) (ib fi sk lu : Nat) (Mt Op : Nat → Bool) (h : Nat) (bk : Nat → Bool) (fin st lq : Nat → Nat) (e : Nat) (he : e < m) (hn : 2 ≤ n ∧ n ≤ 12) (hm : m ≤ 24) (hok : ∀ e, e < m → fr e < n ∧ to e < n) : zM l yK_incrementOf wK_incrementOf rK_incrementOf D zCl (zTy cI cZ) zNW 0 0 [.ref lk, .int (nI e)] (wK cI lk g s kt rw vl sv bs ko (R) (V) (SV) (B) (o2) (wy) ++ wG cI g f t n m fr to ++ wS cI cZ s g ib fi sk lu Mt Op h bk fin st lq) (fun v wn => v = some (.int (Int32.ofInt (V e + B (fr e) - B (ztg bk to e)))) ∧ wn = wK cI lk g s kt rw vl sv bs ko (R) (V) (SV) (B) (o2) (wy) ++ wG cI g f t n m fr to ++ wS cI cZ s g ib fi sk lu Mt Op h bk fin st lq) := by
  have hoke := hok e he
  have htg := ztg_lt (bk := bk) hn.1 hoke.2
  refine z_met2 cK_incrementOf 2 (some .int) rfl rfl (Nat.le_of_ble_eq_true rfl) rfl (fun Z hX => ?_)
  show Z 0 0 0 [some (.ref lk), some (.int (nI e))] [] (wK cI lk g s kt rw vl sv bs ko (R) (V) (SV) (B) (o2) (wy) ++ wG cI g f t n m fr to ++ wS cI cZ s g ib fi sk lu Mt Op h bk fin st lq)
  refine z_aload_n hX 0 dK_incrementOf_0 rfl rfl ?_
  refine z_get hX 0 4 rfl rfl (zu inK) (by decide) (List.mem_cons_of_mem _ mw_155) rfl dK_incrementOf_1 ?_
  refine z_iload_n hX 1 dK_incrementOf_4 rfl rfl ?_
  refine z_ldN hX 2 0 _ rfl rfl rfl (by omega) (by decide) dK_incrementOf_5 ?_
  refine z_aload_n hX 0 dK_incrementOf_6 rfl rfl ?_
  refine z_get hX 0 6 rfl rfl (zu inK) (by decide) (List.mem_cons_of_mem _ mw_157) rfl dK_incrementOf_7 ?_
  refine z_aload_n hX 0 dK_incrementOf_10 rfl rfl ?_
  refine z_get hX 0 0 rfl rfl (zu inK) (by decide) (List.mem_cons_of_mem _ mw_151) rfl dK_incrementOf_11 ?_
  refine z_get hX 6 1 rfl rfl (zu inG) (by decide) (List.mem_cons_of_mem _ mw_39) rfl dK_incrementOf_14 ?_
  refine z_iload_n hX 1 dK_incrementOf_17 rfl rfl ?_
  refine z_ldN hX 7 0 _ rfl rfl rfl (by omega) (by decide) dK_incrementOf_18 ?_
  refine z_ldI hX 4 0 _ rfl rfl rfl (by omega) (by decide) dK_incrementOf_19 ?_
  refine z_iaddI hX (V e : Int) (B (fr e)) (zi_of _) rfl dK_incrementOf_20 ?_
  refine z_aload_n hX 0 dK_incrementOf_21 rfl rfl ?_
  refine z_get hX 0 6 rfl rfl (zu inK) (by decide) (List.mem_cons_of_mem _ mw_157) rfl dK_incrementOf_22 ?_
  refine z_aload_n hX 0 dK_incrementOf_25 rfl rfl ?_
  refine z_iload_n hX 1 dK_incrementOf_26 rfl rfl ?_
  refine z_Vr hX (kK_targetOf l D cI cZ lk g s kt rw vl sv bs ko (R) (V) (SV) (B) (o2) (wy) f t n m fr to ib fi sk lu Mt Op h bk fin st lq (e) (by omega)) mw_300 mw_301 mw_302 mw_7 mw_303 rfl rfl ⟨rfl, by decide, by decide, rfl⟩ (by decide) 0 rfl rfl rfl rfl (Nat.le_of_ble_eq_true rfl) dK_incrementOf_27 (by decide) [0, 1, 2, 3, 4, 5, 6, 7, 8, 9, 10, 11, 12, 13] rfl rfl (fun v wn hv => ?_)
  obtain ⟨rfl, rfl⟩ := hv
  refine ⟨rfl, ?_⟩
  refine z_ldI hX 4 0 _ rfl rfl rfl (by omega) (by decide) dK_incrementOf_30 ?_
  refine z_isubI hX _ _ rfl rfl dK_incrementOf_31 ?_
  refine z_iret hX rfl rfl rfl rfl dK_incrementOf_32 ?_
  exact ⟨rfl, rfl⟩

set_option maxHeartbeats 1000000 in
set_option maxRecDepth 100000 in
theorem kK_startIncrementOf (l : Launch) (D : va_G) (cI cZ : ClassId) (lk g s kt rw vl sv bs ko : Nat) (R V SV : Nat → Nat) (B : Nat → Int) (o2 : Nat → Nat) (wy : Nat) (f t n m : Nat) (fr to : Nat → Nat) (ib fi sk lu : Nat) (Mt Op : Nat → Bool) (h : Nat) (bk : Nat → Bool) (fin st lq : Nat → Nat) (e : Nat) (he : e < m) (hn : 2 ≤ n ∧ n ≤ 12) (hm : m ≤ 24) (hok : ∀ e, e < m → fr e < n ∧ to e < n) : zM l yK_startIncrementOf wK_startIncrementOf rK_startIncrementOf D zCl (zTy cI cZ) zNW 0 0 [.ref lk, .int (nI e)] (wK cI lk g s kt rw vl sv bs ko (R) (V) (SV) (B) (o2) (wy) ++ wG cI g f t n m fr to ++ wS cI cZ s g ib fi sk lu Mt Op h bk fin st lq) (fun v wn => v = some (.int (Int32.ofInt (SV e + B 0 - B (to e)))) ∧ wn = wK cI lk g s kt rw vl sv bs ko (R) (V) (SV) (B) (o2) (wy) ++ wG cI g f t n m fr to ++ wS cI cZ s g ib fi sk lu Mt Op h bk fin st lq) := by
  have hoke := hok e he
  refine z_met2 cK_startIncrementOf 2 (some .int) rfl rfl (Nat.le_of_ble_eq_true rfl) rfl (fun Z hX => ?_)
  show Z 0 0 0 [some (.ref lk), some (.int (nI e))] [] (wK cI lk g s kt rw vl sv bs ko (R) (V) (SV) (B) (o2) (wy) ++ wG cI g f t n m fr to ++ wS cI cZ s g ib fi sk lu Mt Op h bk fin st lq)
  refine z_aload_n hX 0 dK_startIncrementOf_0 rfl rfl ?_
  refine z_get hX 0 5 rfl rfl (zu inK) (by decide) (List.mem_cons_of_mem _ mw_156) rfl dK_startIncrementOf_1 ?_
  refine z_iload_n hX 1 dK_startIncrementOf_4 rfl rfl ?_
  refine z_ldN hX 3 0 _ rfl rfl rfl (by omega) (by decide) dK_startIncrementOf_5 ?_
  refine z_aload_n hX 0 dK_startIncrementOf_6 rfl rfl ?_
  refine z_get hX 0 6 rfl rfl (zu inK) (by decide) (List.mem_cons_of_mem _ mw_157) rfl dK_startIncrementOf_7 ?_
  refine z_iconst hX (nI 0) dK_startIncrementOf_10 rfl ?_
  refine z_ldI hX 4 0 _ rfl rfl rfl (by omega) (by decide) dK_startIncrementOf_11 ?_
  refine z_iaddI hX (SV e : Int) (B 0) (zi_of _) rfl dK_startIncrementOf_12 ?_
  refine z_aload_n hX 0 dK_startIncrementOf_13 rfl rfl ?_
  refine z_get hX 0 6 rfl rfl (zu inK) (by decide) (List.mem_cons_of_mem _ mw_157) rfl dK_startIncrementOf_14 ?_
  refine z_aload_n hX 0 dK_startIncrementOf_17 rfl rfl ?_
  refine z_get hX 0 0 rfl rfl (zu inK) (by decide) (List.mem_cons_of_mem _ mw_151) rfl dK_startIncrementOf_18 ?_
  refine z_get hX 6 2 rfl rfl (zu inG) (by decide) (List.mem_cons_of_mem _ mw_44) rfl dK_startIncrementOf_21 ?_
  refine z_iload_n hX 1 dK_startIncrementOf_24 rfl rfl ?_
  refine z_ldN hX 8 0 _ rfl rfl rfl (by omega) (by decide) dK_startIncrementOf_25 ?_
  refine z_ldI hX 4 0 _ rfl rfl rfl (by omega) (by decide) dK_startIncrementOf_26 ?_
  refine z_isubI hX _ _ rfl rfl dK_startIncrementOf_27 ?_
  refine z_iret hX rfl rfl rfl rfl dK_startIncrementOf_28 ?_
  exact ⟨rfl, rfl⟩

set_option maxHeartbeats 1000000 in
set_option maxRecDepth 100000 in
theorem kK_numberFrom (l : Launch) (D : va_G) (cI cZ : ClassId) (lk g s kt rw vl sv bs ko : Nat) (R V SV : Nat → Nat) (B : Nat → Int) (o2 : Nat → Nat) (wy : Nat) (f t n m : Nat) (fr to : Nat → Nat) (ib fi sk lu : Nat) (Mt Op : Nat → Bool) (h : Nat) (bk : Nat → Bool) (fin st lq : Nat → Nat) (b : Nat) (hb : b < 12) (hn : 2 ≤ n ∧ n ≤ 12) (hm : m ≤ 24) (hok : ∀ e, e < m → fr e < n ∧ to e < n) : zM l yK_numberFrom wK_numberFrom rK_numberFrom D zCl (zTy cI cZ) zNW 0 0 [.ref lk, .int (nI b)] (wK cI lk g s kt rw vl sv bs ko (R) (V) (SV) (B) (o2) (wy) ++ wG cI g f t n m fr to ++ wS cI cZ s g ib fi sk lu Mt Op h bk fin st lq) (fun v wn => v = some (.int (nI (sv_from fr (ztg bk to) R b m V).2)) ∧ wn = wK cI lk g s kt rw vl sv bs ko (R) ((sv_from fr (ztg bk to) R b m V).1) (SV) (B) (o2) (wy) ++ wG cI g f t n m fr to ++ wS cI cZ s g ib fi sk lu Mt Op h bk fin st lq) := by
  refine z_met2 cK_numberFrom 4 (some .int) rfl rfl (Nat.le_of_ble_eq_true rfl) rfl (fun Z hX => ?_)
  show Z 0 0 0 [some (.ref lk), some (.int (nI b)), none, none] [] (wK cI lk g s kt rw vl sv bs ko (R) (V) (SV) (B) (o2) (wy) ++ wG cI g f t n m fr to ++ wS cI cZ s g ib fi sk lu Mt Op h bk fin st lq)
  refine z_iconst hX (nI 0) dK_numberFrom_0 rfl ?_
  refine z_istore_n hX 2 dK_numberFrom_1 rfl (by decide) ?_
  refine z_iconst hX (nI 0) dK_numberFrom_2 rfl ?_
  refine z_istore_n hX 3 dK_numberFrom_3 rfl (by decide) ?_
  refine zloop (P := fun e => Z 0 0 4 [some (.ref lk), some (.int (nI b)), some (.int (nI (sp_it (sv_fs fr (ztg bk to) R b) e (V, 0)).2)), some (.int (nI e))] [] (wK cI lk g s kt rw vl sv bs ko (R) ((sp_it (sv_fs fr (ztg bk to) R b) e (V, 0)).1) (SV) (B) (o2) (wy) ++ wG cI g f t n m fr to ++ wS cI cZ s g ib fi sk lu Mt Op h bk fin st lq)) m (fun e he ih => ?_) 0 (Nat.zero_le _)
  refine z_iload_n hX 3 dK_numberFrom_4 rfl rfl ?_
  refine z_aload_n hX 0 dK_numberFrom_5 rfl rfl ?_
  refine z_get hX 0 0 rfl rfl (zu inK) (by decide) (List.mem_cons_of_mem _ mw_151) rfl dK_numberFrom_6 ?_
  refine z_get hX 6 3 rfl rfl (zu inG) (by decide) (List.mem_cons_of_mem _ mw_56) rfl dK_numberFrom_9 ?_
  refine z_icmp_geN hX 54 (by omega) (by omega) dK_numberFrom_12 rfl (fun h12 => ?_) (fun h12 => ?_)
  · refine z_iload_n hX 2 dK_numberFrom_54 rfl rfl ?_
    refine z_iret hX rfl rfl rfl rfl dK_numberFrom_55 ?_
    have hem : e = m := by omega
    subst hem
    exact ⟨rfl, rfl⟩
  · have hoke := hok e (by omega)
    have htg := ztg_lt (bk := bk) hn.1 hoke.2
    refine z_aload_n hX 0 dK_numberFrom_15 rfl rfl ?_
    refine z_get hX 0 0 rfl rfl (zu inK) (by decide) (List.mem_cons_of_mem _ mw_151) rfl dK_numberFrom_16 ?_
    refine z_get hX 6 1 rfl rfl (zu inG) (by decide) (List.mem_cons_of_mem _ mw_39) rfl dK_numberFrom_19 ?_
    refine z_iload_n hX 3 dK_numberFrom_22 rfl rfl ?_
    refine z_ldN hX 7 0 _ rfl rfl rfl (by omega) (by decide) dK_numberFrom_23 ?_
    refine z_iload_n hX 1 dK_numberFrom_24 rfl rfl ?_
    refine z_icmp_neN hX 48 (by omega) (by omega) dK_numberFrom_25 rfl (fun h25 => ?_) (fun h25 => ?_)
    · have hs2 : sp_it (sv_fs fr (ztg bk to) R b) (e + 1) (V, 0) = sp_it (sv_fs fr (ztg bk to) R b) e (V, 0) := if_neg h25
      refine z_iinc hX 3 dK_numberFrom_48 rfl (zi_1 _) (by decide) ?_
      refine z_goto hX 4 dK_numberFrom_51 rfl ?_
      have hz := ih (by omega)
      rw [hs2] at hz
      exact hz
    · have hs2 : sp_it (sv_fs fr (ztg bk to) R b) (e + 1) (V, 0) = (va_up (sp_it (sv_fs fr (ztg bk to) R b) e (V, 0)).1 e (sp_it (sv_fs fr (ztg bk to) R b) e (V, 0)).2, (sp_it (sv_fs fr (ztg bk to) R b) e (V, 0)).2 + R (ztg bk to e)) := if_pos h25
      refine z_aload_n hX 0 dK_numberFrom_28 rfl rfl ?_
      refine z_get hX 0 4 rfl rfl (zu inK) (by decide) (List.mem_cons_of_mem _ mw_155) rfl dK_numberFrom_29 ?_
      refine z_iload_n hX 3 dK_numberFrom_32 rfl rfl ?_
      refine z_iload_n hX 2 dK_numberFrom_33 rfl rfl ?_
      refine z_stN hX 2 0 _ _ rfl rfl rfl rfl (by omega) (by decide) dK_numberFrom_34 ?_
      refine z_iload_n hX 2 dK_numberFrom_35 rfl rfl ?_
      refine z_aload_n hX 0 dK_numberFrom_36 rfl rfl ?_
      refine z_get hX 0 3 rfl rfl (zu inK) (by decide) (List.mem_cons_of_mem _ mw_154) rfl dK_numberFrom_37 ?_
      refine z_aload_n hX 0 dK_numberFrom_40 rfl rfl ?_
      refine z_iload_n hX 3 dK_numberFrom_41 rfl rfl ?_
      refine z_Vr hX (kK_targetOf l D cI cZ lk g s kt rw vl sv bs ko (R) (va_up (sp_it (sv_fs fr (ztg bk to) R b) e (V, 0)).1 e (sp_it (sv_fs fr (ztg bk to) R b) e (V, 0)).2) (SV) (B) (o2) (wy) f t n m fr to ib fi sk lu Mt Op h bk fin st lq (e) (by omega)) mw_300 mw_301 mw_302 mw_7 mw_303 rfl rfl ⟨rfl, by decide, by decide, rfl⟩ (by decide) 0 rfl rfl rfl rfl (Nat.le_of_ble_eq_true rfl) dK_numberFrom_42 (by decide) [0, 1, 2, 3, 4, 5, 6, 7, 8, 9, 10, 11, 12, 13] rfl rfl (fun v wn hv => ?_)
      obtain ⟨rfl, rfl⟩ := hv
      refine ⟨rfl, ?_⟩
      refine z_ldN hX 1 0 _ rfl rfl rfl (by omega) (by decide) dK_numberFrom_45 ?_
      refine z_iaddN hX dK_numberFrom_46 ?_
      refine z_istore_n hX 2 dK_numberFrom_47 rfl (by decide) ?_
      refine z_iinc hX 3 dK_numberFrom_48 rfl (zi_1 _) (by decide) ?_
      refine z_goto hX 4 dK_numberFrom_51 rfl ?_
      have hz := ih (by omega)
      rw [hs2] at hz
      exact hz

set_option maxHeartbeats 1000000 in
set_option maxRecDepth 100000 in
theorem kK_numberStarts (l : Launch) (D : va_G) (cI cZ : ClassId) (lk g s kt rw vl sv bs ko : Nat) (R V SV : Nat → Nat) (B : Nat → Int) (o2 : Nat → Nat) (wy : Nat) (f t n m : Nat) (fr to : Nat → Nat) (ib fi sk lu : Nat) (Mt Op : Nat → Bool) (h : Nat) (bk : Nat → Bool) (fin st lq : Nat → Nat) (r0 : Nat) (hn : 2 ≤ n ∧ n ≤ 12) (hm : m ≤ 24) (hok : ∀ e, e < m → fr e < n ∧ to e < n) : zM l yK_numberStarts wK_numberStarts rK_numberStarts D zCl (zTy cI cZ) zNW 0 0 [.ref lk, .int (nI r0)] (wK cI lk g s kt rw vl sv bs ko (R) (V) (SV) (B) (o2) (wy) ++ wG cI g f t n m fr to ++ wS cI cZ s g ib fi sk lu Mt Op h bk fin st lq) (fun v wn => v = some (.int (nI (sp_it (sv_st to R bk) m (SV, r0)).2)) ∧ wn = wK cI lk g s kt rw vl sv bs ko (R) (V) ((sp_it (sv_st to R bk) m (SV, r0)).1) (B) (o2) (wy) ++ wG cI g f t n m fr to ++ wS cI cZ s g ib fi sk lu Mt Op h bk fin st lq) := by
  refine z_met2 cK_numberStarts 4 (some .int) rfl rfl (Nat.le_of_ble_eq_true rfl) rfl (fun Z hX => ?_)
  show Z 0 0 0 [some (.ref lk), some (.int (nI r0)), none, none] [] (wK cI lk g s kt rw vl sv bs ko (R) (V) (SV) (B) (o2) (wy) ++ wG cI g f t n m fr to ++ wS cI cZ s g ib fi sk lu Mt Op h bk fin st lq)
  refine z_iload_n hX 1 dK_numberStarts_0 rfl rfl ?_
  refine z_istore_n hX 2 dK_numberStarts_1 rfl (by decide) ?_
  refine z_iconst hX (nI 0) dK_numberStarts_2 rfl ?_
  refine z_istore_n hX 3 dK_numberStarts_3 rfl (by decide) ?_
  refine zloop (P := fun e => Z 0 0 4 [some (.ref lk), some (.int (nI r0)), some (.int (nI (sp_it (sv_st to R bk) e (SV, r0)).2)), some (.int (nI e))] [] (wK cI lk g s kt rw vl sv bs ko (R) (V) ((sp_it (sv_st to R bk) e (SV, r0)).1) (B) (o2) (wy) ++ wG cI g f t n m fr to ++ wS cI cZ s g ib fi sk lu Mt Op h bk fin st lq)) m (fun e he ih => ?_) 0 (Nat.zero_le _)
  refine z_iload_n hX 3 dK_numberStarts_4 rfl rfl ?_
  refine z_aload_n hX 0 dK_numberStarts_5 rfl rfl ?_
  refine z_get hX 0 0 rfl rfl (zu inK) (by decide) (List.mem_cons_of_mem _ mw_151) rfl dK_numberStarts_6 ?_
  refine z_get hX 6 3 rfl rfl (zu inG) (by decide) (List.mem_cons_of_mem _ mw_56) rfl dK_numberStarts_9 ?_
  refine z_icmp_geN hX 57 (by omega) (by omega) dK_numberStarts_12 rfl (fun h12 => ?_) (fun h12 => ?_)
  · refine z_iload_n hX 2 dK_numberStarts_57 rfl rfl ?_
    refine z_iret hX rfl rfl rfl rfl dK_numberStarts_58 ?_
    have hem : e = m := by omega
    subst hem
    exact ⟨rfl, rfl⟩
  · have hoke := hok e (by omega)
    refine z_aload_n hX 0 dK_numberStarts_15 rfl rfl ?_
    refine z_get hX 0 1 rfl rfl (zu inK) (by decide) (List.mem_cons_of_mem _ mw_152) rfl dK_numberStarts_16 ?_
    refine z_get hX 9 1 rfl rfl (zu inS) (by decide) (List.mem_cons_of_mem _ mw_75) rfl dK_numberStarts_19 ?_
    refine z_iload_n hX 3 dK_numberStarts_22 rfl rfl ?_
    refine z_ldB hX 10 1 _ rfl rfl rfl (by omega) (by decide) dK_numberStarts_23 ?_
    refine z_if_eqB hX 51 dK_numberStarts_24 rfl (fun h24 => ?_) (fun h24 => ?_)
    · have hs2 : sp_it (sv_st to R bk) (e + 1) (SV, r0) = sp_it (sv_st to R bk) e (SV, r0) := if_neg (by rw [h24]; decide)
      refine z_iinc hX 3 dK_numberStarts_51 rfl (zi_1 _) (by decide) ?_
      refine z_goto hX 4 dK_numberStarts_54 rfl ?_
      have hz := ih (by omega)
      rw [hs2] at hz
      exact hz
    · have hs2 : sp_it (sv_st to R bk) (e + 1) (SV, r0) = (va_up (sp_it (sv_st to R bk) e (SV, r0)).1 e (sp_it (sv_st to R bk) e (SV, r0)).2, (sp_it (sv_st to R bk) e (SV, r0)).2 + R (to e)) := if_pos h24
      refine z_aload_n hX 0 dK_numberStarts_27 rfl rfl ?_
      refine z_get hX 0 5 rfl rfl (zu inK) (by decide) (List.mem_cons_of_mem _ mw_156) rfl dK_numberStarts_28 ?_
      refine z_iload_n hX 3 dK_numberStarts_31 rfl rfl ?_
      refine z_iload_n hX 2 dK_numberStarts_32 rfl rfl ?_
      refine z_stN hX 3 0 _ _ rfl rfl rfl rfl (by omega) (by decide) dK_numberStarts_33 ?_
      refine z_iload_n hX 2 dK_numberStarts_34 rfl rfl ?_
      refine z_aload_n hX 0 dK_numberStarts_35 rfl rfl ?_
      refine z_get hX 0 3 rfl rfl (zu inK) (by decide) (List.mem_cons_of_mem _ mw_154) rfl dK_numberStarts_36 ?_
      refine z_aload_n hX 0 dK_numberStarts_39 rfl rfl ?_
      refine z_get hX 0 0 rfl rfl (zu inK) (by decide) (List.mem_cons_of_mem _ mw_151) rfl dK_numberStarts_40 ?_
      refine z_get hX 6 2 rfl rfl (zu inG) (by decide) (List.mem_cons_of_mem _ mw_44) rfl dK_numberStarts_43 ?_
      refine z_iload_n hX 3 dK_numberStarts_46 rfl rfl ?_
      refine z_ldN hX 8 0 _ rfl rfl rfl (by omega) (by decide) dK_numberStarts_47 ?_
      refine z_ldN hX 1 0 _ rfl rfl rfl (by omega) (by decide) dK_numberStarts_48 ?_
      refine z_iaddN hX dK_numberStarts_49 ?_
      refine z_istore_n hX 2 dK_numberStarts_50 rfl (by decide) ?_
      refine z_iinc hX 3 dK_numberStarts_51 rfl (zi_1 _) (by decide) ?_
      refine z_goto hX 4 dK_numberStarts_54 rfl ?_
      have hz := ih (by omega)
      rw [hs2] at hz
      exact hz

set_option maxHeartbeats 1000000 in
set_option maxRecDepth 100000 in
theorem kK_number (l : Launch) (D : va_G) (cI cZ : ClassId) (lk g s kt rw vl sv bs ko : Nat) (R V SV : Nat → Nat) (B : Nat → Int) (o2 : Nat → Nat) (wy : Nat) (f t n m : Nat) (fr to : Nat → Nat) (ib fi sk lu : Nat) (Mt Op : Nat → Bool) (h : Nat) (bk : Nat → Bool) (fin st lq : Nat → Nat) (hn : 2 ≤ n ∧ n ≤ 12) (hm : m ≤ 24) (hok : ∀ e, e < m → fr e < n ∧ to e < n) (hfin : ∀ i, i < n → fin i < 12) : zM l yK_number wK_number rK_number D zCl (zTy cI cZ) zNW 0 0 [.ref lk] (wK cI lk g s kt rw vl sv bs ko (R) (V) (SV) (B) (o2) (wy) ++ wG cI g f t n m fr to ++ wS cI cZ s g ib fi sk lu Mt Op h bk fin st lq) (fun v wn => v = none ∧ wn = wK cI lk g s kt rw vl sv bs ko ((sv_num fr (ztg bk to) fin m n V R).2) ((sv_num fr (ztg bk to) fin m n V R).1) ((sp_it (sv_st to ((sv_num fr (ztg bk to) fin m n V R).2) bk) m (SV, ((sv_num fr (ztg bk to) fin m n V R).2) 0)).1) (B) (o2) ((sp_it (sv_st to ((sv_num fr (ztg bk to) fin m n V R).2) bk) m (SV, ((sv_num fr (ztg bk to) fin m n V R).2) 0)).2) ++ wG cI g f t n m fr to ++ wS cI cZ s g ib fi sk lu Mt Op h bk fin st lq) := by
  refine z_met2 cK_number 3 none rfl rfl (Nat.le_of_ble_eq_true rfl) rfl (fun Z hX => ?_)
  show Z 0 0 0 [some (.ref lk), none, none] [] (wK cI lk g s kt rw vl sv bs ko (R) (V) (SV) (B) (o2) (wy) ++ wG cI g f t n m fr to ++ wS cI cZ s g ib fi sk lu Mt Op h bk fin st lq)
  refine z_aload_n hX 0 dK_number_0 rfl rfl ?_
  refine z_get hX 0 3 rfl rfl (zu inK) (by decide) (List.mem_cons_of_mem _ mw_154) rfl dK_number_1 ?_
  refine z_iconst hX (nI 1) dK_number_4 rfl ?_
  refine z_iconst hX (nI 1) dK_number_5 rfl ?_
  refine z_stN hX 1 0 _ _ rfl rfl rfl rfl (by omega) (by decide) dK_number_6 ?_
  refine z_iconst hX (nI 0) dK_number_7 rfl ?_
  refine z_istore_n hX 1 dK_number_8 rfl (by decide) ?_
  refine zloop (P := fun i => Z 0 0 9 [some (.ref lk), some (.int (nI i)), none] [] (wK cI lk g s kt rw vl sv bs ko ((sp_it (sv_ns fr (ztg bk to) fin m) i (V, va_up R 1 1)).2) ((sp_it (sv_ns fr (ztg bk to) fin m) i (V, va_up R 1 1)).1) (SV) (B) (o2) (wy) ++ wG cI g f t n m fr to ++ wS cI cZ s g ib fi sk lu Mt Op h bk fin st lq)) n (fun i hi ih => ?_) 0 (Nat.zero_le _)
  refine z_iload_n hX 1 dK_number_9 rfl rfl ?_
  refine z_aload_n hX 0 dK_number_10 rfl rfl ?_
  refine z_get hX 0 0 rfl rfl (zu inK) (by decide) (List.mem_cons_of_mem _ mw_151) rfl dK_number_11 ?_
  refine z_get hX 6 0 rfl rfl (zu inG) (by decide) (List.mem_cons_of_mem _ mw_35) rfl dK_number_14 ?_
  refine z_icmp_geN hX 52 (by omega) (by omega) dK_number_17 rfl (fun h17 => ?_) (fun h17 => ?_)
  · have him : i = n := by omega
    rw [him]
    have hnn : sp_it (sv_ns fr (ztg bk to) fin m) n (V, va_up R 1 1) = sv_num fr (ztg bk to) fin m n V R := rfl
    rw [hnn]
    refine z_aload_n hX 0 dK_number_52 rfl rfl ?_
    refine z_aload_n hX 0 dK_number_53 rfl rfl ?_
    refine z_aload_n hX 0 dK_number_54 rfl rfl ?_
    refine z_get hX 0 3 rfl rfl (zu inK) (by decide) (List.mem_cons_of_mem _ mw_154) rfl dK_number_55 ?_
    refine z_iconst hX (nI 0) dK_number_58 rfl ?_
    refine z_ldN hX 1 0 _ rfl rfl rfl (by omega) (by decide) dK_number_59 ?_
    refine z_Vm hX (kK_numberStarts l D cI cZ lk g s kt rw vl sv bs ko ((sv_num fr (ztg bk to) fin m n V R).2) ((sv_num fr (ztg bk to) fin m n V R).1) (SV) (B) (o2) (wy) f t n m fr to ib fi sk lu Mt Op h bk fin st lq (((sv_num fr (ztg bk to) fin m n V R).2) 0) hn hm hok) mw_304 mw_306 mp_1_3 mw_7 mw_307 rfl rfl ⟨rfl, by decide, by decide, rfl⟩ (by decide) 0 rfl rfl rfl rfl (Nat.le_of_ble_eq_true rfl) dK_number_60 (by decide) [0, 1, 2, 3, 4, 5, 6, 7, 8, 9, 10, 11, 12, 13] rfl rfl (fun v wn hv => ?_)
    obtain ⟨rfl, rfl⟩ := hv
    refine ⟨by simp, ?_⟩
    refine z_put hX 0 8 rfl rfl (zu inK) tyK tyK_ok nmK (by decide) (List.mem_cons_of_mem _ mw_159) (Or.inl rfl) rfl rfl rfl (Nat.le_of_ble_eq_true rfl) dK_number_63 ?_
    refine z_vret hX rfl rfl rfl dK_number_66 ?_
    exact ⟨rfl, rfl⟩
  · have hfi := hfin i (by omega)
    refine z_aload_n hX 0 dK_number_20 rfl rfl ?_
    refine z_get hX 0 1 rfl rfl (zu inK) (by decide) (List.mem_cons_of_mem _ mw_152) rfl dK_number_21 ?_
    refine z_get hX 9 2 rfl rfl (zu inS) (by decide) (List.mem_cons_of_mem _ mw_79) rfl dK_number_24 ?_
    refine z_iload_n hX 1 dK_number_27 rfl rfl ?_
    refine z_ldN hX 11 0 _ rfl rfl rfl (by omega) (by decide) dK_number_28 ?_
    refine z_istore_n hX 2 dK_number_29 rfl (by decide) ?_
    refine z_iload_n hX 2 dK_number_30 rfl rfl ?_
    refine z_iconst hX (nI 1) dK_number_31 rfl ?_
    refine z_icmp_eqN hX 46 (by omega) (by omega) dK_number_32 rfl (fun h32 => ?_) (fun h32 => ?_)
    · have hs2 : sp_it (sv_ns fr (ztg bk to) fin m) (i + 1) (V, va_up R 1 1) = sp_it (sv_ns fr (ztg bk to) fin m) i (V, va_up R 1 1) := if_pos h32
      refine z_iinc hX 1 dK_number_46 rfl (zi_1 _) (by decide) ?_
      refine z_goto hX 9 dK_number_49 rfl ?_
      have hz := ih (by omega)
      rw [hs2] at hz
      exact z_le2 hX hz (And.intro rfl (And.intro rfl trivial))
    · have hs2 : sp_it (sv_ns fr (ztg bk to) fin m) (i + 1) (V, va_up R 1 1) = ((sv_from fr (ztg bk to) (sp_it (sv_ns fr (ztg bk to) fin m) i (V, va_up R 1 1)).2 (fin i) m (sp_it (sv_ns fr (ztg bk to) fin m) i (V, va_up R 1 1)).1).1, va_up (sp_it (sv_ns fr (ztg bk to) fin m) i (V, va_up R 1 1)).2 (fin i) (sv_from fr (ztg bk to) (sp_it (sv_ns fr (ztg bk to) fin m) i (V, va_up R 1 1)).2 (fin i) m (sp_it (sv_ns fr (ztg bk to) fin m) i (V, va_up R 1 1)).1).2) := if_neg h32
      refine z_aload_n hX 0 dK_number_35 rfl rfl ?_
      refine z_get hX 0 3 rfl rfl (zu inK) (by decide) (List.mem_cons_of_mem _ mw_154) rfl dK_number_36 ?_
      refine z_iload_n hX 2 dK_number_39 rfl rfl ?_
      refine z_aload_n hX 0 dK_number_40 rfl rfl ?_
      refine z_iload_n hX 2 dK_number_41 rfl rfl ?_
      refine z_Vm hX (kK_numberFrom l D cI cZ lk g s kt rw vl sv bs ko ((sp_it (sv_ns fr (ztg bk to) fin m) i (V, va_up R 1 1)).2) ((sp_it (sv_ns fr (ztg bk to) fin m) i (V, va_up R 1 1)).1) (SV) (B) (o2) (wy) f t n m fr to ib fi sk lu Mt Op h bk fin st lq (fin i) (by omega) hn hm hok) mw_296 mw_298 mp_1_2 mw_7 mw_299 rfl rfl ⟨rfl, by decide, by decide, rfl⟩ (by decide) 0 rfl rfl rfl rfl (Nat.le_of_ble_eq_true rfl) dK_number_42 (by decide) [0, 1, 2, 3, 4, 5, 6, 7, 8, 9, 10, 11, 12, 13] rfl rfl (fun v wn hv => ?_)
      obtain ⟨rfl, rfl⟩ := hv
      refine ⟨by simp, ?_⟩
      refine z_stN hX 1 0 _ _ rfl rfl rfl rfl (by omega) (by decide) dK_number_45 ?_
      refine z_iinc hX 1 dK_number_46 rfl (zi_1 _) (by decide) ?_
      refine z_goto hX 9 dK_number_49 rfl ?_
      have hz := ih (by omega)
      rw [hs2] at hz
      exact z_le2 hX hz (And.intro rfl (And.intro rfl trivial))

set_option maxHeartbeats 1000000 in
set_option maxRecDepth 100000 in
theorem kK_leaveOutBack (l : Launch) (D : va_G) (cI cZ : ClassId) (lk g s kt rw vl sv bs ko : Nat) (R V SV : Nat → Nat) (B : Nat → Int) (o2 : Nat → Nat) (wy : Nat) (f t n m : Nat) (fr to : Nat → Nat) (ib fi sk lu : Nat) (Mt Op : Nat → Bool) (h : Nat) (bk : Nat → Bool) (fin st lq : Nat → Nat) (eo : Nat) (eord : Nat → Nat) (hn : 2 ≤ n ∧ n ≤ 12) (hm : m ≤ 24) (hok : ∀ e, e < m → fr e < n ∧ to e < n) (heo : ∀ i, i < m → eord i < 24) : zM l yK_leaveOutBack wK_leaveOutBack rK_leaveOutBack D zCl (zTy cI cZ) zNW 0 0 [.ref lk, .ref eo] (wK cI lk g s kt rw vl sv bs ko (R) (V) (SV) (B) (o2) (wy) ++ wG cI g f t n m fr to ++ wS cI cZ s g ib fi sk lu Mt Op h bk fin st lq ++ [(eo, .inl (cI, 24, .inl (aN eord)))]) (fun v wn => v = some (.int (nI (sp_it (st_f bk eord) m (o2, 0)).2)) ∧ wn = wK cI lk g s kt rw vl sv bs ko (R) (V) (SV) (B) ((sp_it (st_f bk eord) m (o2, 0)).1) (wy) ++ wG cI g f t n m fr to ++ wS cI cZ s g ib fi sk lu Mt Op h bk fin st lq ++ [(eo, .inl (cI, 24, .inl (aN eord)))]) := by
  refine z_met2 cK_leaveOutBack 4 (some .int) rfl rfl (Nat.le_of_ble_eq_true rfl) rfl (fun Z hX => ?_)
  show Z 0 0 0 [some (.ref lk), some (.ref eo), none, none] [] (wK cI lk g s kt rw vl sv bs ko (R) (V) (SV) (B) (o2) (wy) ++ wG cI g f t n m fr to ++ wS cI cZ s g ib fi sk lu Mt Op h bk fin st lq ++ [(eo, .inl (cI, 24, .inl (aN eord)))])
  refine z_iconst hX (nI 0) dK_leaveOutBack_0 rfl ?_
  refine z_istore_n hX 2 dK_leaveOutBack_1 rfl (by decide) ?_
  refine z_iconst hX (nI 0) dK_leaveOutBack_2 rfl ?_
  refine z_istore_n hX 3 dK_leaveOutBack_3 rfl (by decide) ?_
  refine zloop (P := fun i => Z 0 0 4 [some (.ref lk), some (.ref eo), some (.int (nI (sp_it (st_f bk eord) i (o2, 0)).2)), some (.int (nI i))] [] (wK cI lk g s kt rw vl sv bs ko (R) (V) (SV) (B) ((sp_it (st_f bk eord) i (o2, 0)).1) (wy) ++ wG cI g f t n m fr to ++ wS cI cZ s g ib fi sk lu Mt Op h bk fin st lq ++ [(eo, .inl (cI, 24, .inl (aN eord)))])) m (fun i hi ih => ?_) 0 (Nat.zero_le _)
  refine z_iload_n hX 3 dK_leaveOutBack_4 rfl rfl ?_
  refine z_aload_n hX 0 dK_leaveOutBack_5 rfl rfl ?_
  refine z_get hX 0 0 rfl rfl (zu inK) (by decide) (List.mem_cons_of_mem _ mw_151) rfl dK_leaveOutBack_6 ?_
  refine z_get hX 6 3 rfl rfl (zu inG) (by decide) (List.mem_cons_of_mem _ mw_56) rfl dK_leaveOutBack_9 ?_
  refine z_icmp_geN hX 47 (by omega) (by omega) dK_leaveOutBack_12 rfl (fun h12 => ?_) (fun h12 => ?_)
  · refine z_iload_n hX 2 dK_leaveOutBack_47 rfl rfl ?_
    refine z_iret hX rfl rfl rfl rfl dK_leaveOutBack_48 ?_
    have him : i = m := by omega
    subst him
    exact ⟨rfl, rfl⟩
  · have heoi := heo i (by omega)
    have hle := st_f_le bk eord o2 i
    refine z_aload_n hX 0 dK_leaveOutBack_15 rfl rfl ?_
    refine z_get hX 0 1 rfl rfl (zu inK) (by decide) (List.mem_cons_of_mem _ mw_152) rfl dK_leaveOutBack_16 ?_
    refine z_get hX 9 1 rfl rfl (zu inS) (by decide) (List.mem_cons_of_mem _ mw_75) rfl dK_leaveOutBack_19 ?_
    refine z_aload_n hX 1 dK_leaveOutBack_22 rfl rfl ?_
    refine z_iload_n hX 3 dK_leaveOutBack_23 rfl rfl ?_
    refine z_ldN hX 14 0 _ rfl rfl rfl (by omega) (by decide) dK_leaveOutBack_24 ?_
    refine z_ldB hX 10 1 _ rfl rfl rfl (by omega) (by decide) dK_leaveOutBack_25 ?_
    refine z_if_neB hX 41 dK_leaveOutBack_26 rfl (fun h26 => ?_) (fun h26 => ?_)
    · have hs2 : sp_it (st_f bk eord) (i + 1) (o2, 0) = sp_it (st_f bk eord) i (o2, 0) := if_pos h26
      refine z_iinc hX 3 dK_leaveOutBack_41 rfl (zi_1 _) (by decide) ?_
      refine z_goto hX 4 dK_leaveOutBack_44 rfl ?_
      have hz := ih (by omega)
      rw [hs2] at hz
      exact hz
    · have hs2 : sp_it (st_f bk eord) (i + 1) (o2, 0) = (va_up (sp_it (st_f bk eord) i (o2, 0)).1 (sp_it (st_f bk eord) i (o2, 0)).2 (eord i), (sp_it (st_f bk eord) i (o2, 0)).2 + 1) := if_neg (by rw [h26]; decide)
      refine z_aload_n hX 0 dK_leaveOutBack_29 rfl rfl ?_
      refine z_get hX 0 7 rfl rfl (zu inK) (by decide) (List.mem_cons_of_mem _ mw_158) rfl dK_leaveOutBack_30 ?_
      refine z_iload_n hX 2 dK_leaveOutBack_33 rfl rfl ?_
      refine z_aload_n hX 1 dK_leaveOutBack_34 rfl rfl ?_
      refine z_iload_n hX 3 dK_leaveOutBack_35 rfl rfl ?_
      refine z_ldN hX 14 0 _ rfl rfl rfl (by omega) (by decide) dK_leaveOutBack_36 ?_
      refine z_stN hX 5 0 _ _ rfl rfl rfl rfl (by omega) (by decide) dK_leaveOutBack_37 ?_
      refine z_iinc hX 2 dK_leaveOutBack_38 rfl (zi_1 _) (by decide) ?_
      refine z_iinc hX 3 dK_leaveOutBack_41 rfl (zi_1 _) (by decide) ?_
      refine z_goto hX 4 dK_leaveOutBack_44 rfl ?_
      have hz := ih (by omega)
      rw [hs2] at hz
      exact hz

set_option maxHeartbeats 1000000 in
set_option maxRecDepth 100000 in
theorem kK_spreadOver (l : Launch) (D : va_G) (cI cZ : ClassId) (lk g s kt rw vl sv bs ko : Nat) (R V SV : Nat → Nat) (B : Nat → Int) (o2 : Nat → Nat) (wy : Nat) (f t n m : Nat) (fr to : Nat → Nat) (ib fi sk lu : Nat) (Mt Op : Nat → Bool) (h : Nat) (bk : Nat → Bool) (fin st lq : Nat → Nat) (e : Nat) (he : e < m) (S : Nat → Bool) (hn : 2 ≤ n ∧ n ≤ 12) (hm : m ≤ 24) (hok : ∀ e, e < m → fr e < n ∧ to e < n) : zM l yK_spreadOver wK_spreadOver rK_spreadOver D zCl (zTy cI cZ) zNW 0 0 [.ref lk, .int (nI e), .int (bS S)] (wK cI lk g s kt rw vl sv bs ko (R) (V) (SV) (B) (o2) (wy) ++ wG cI g f t n m fr to ++ wS cI cZ s g ib fi sk lu Mt Op h bk fin st lq) (fun v wn => v = some (.int (bS (za fr to V e (S, B)).1)) ∧ wn = wK cI lk g s kt rw vl sv bs ko (R) (V) (SV) ((za fr to V e (S, B)).2) (o2) (wy) ++ wG cI g f t n m fr to ++ wS cI cZ s g ib fi sk lu Mt Op h bk fin st lq) := by
  have hoke := hok e he
  refine z_met2 cK_spreadOver 5 (some .int) rfl rfl (Nat.le_of_ble_eq_true rfl) rfl (fun Z hX => ?_)
  show Z 0 0 0 [some (.ref lk), some (.int (nI e)), some (.int (bS S)), none, none] [] (wK cI lk g s kt rw vl sv bs ko (R) (V) (SV) (B) (o2) (wy) ++ wG cI g f t n m fr to ++ wS cI cZ s g ib fi sk lu Mt Op h bk fin st lq)
  refine z_aload_n hX 0 dK_spreadOver_0 rfl rfl ?_
  refine z_get hX 0 0 rfl rfl (zu inK) (by decide) (List.mem_cons_of_mem _ mw_151) rfl dK_spreadOver_1 ?_
  refine z_get hX 6 1 rfl rfl (zu inG) (by decide) (List.mem_cons_of_mem _ mw_39) rfl dK_spreadOver_4 ?_
  refine z_iload_n hX 1 dK_spreadOver_7 rfl rfl ?_
  refine z_ldN hX 7 0 _ rfl rfl rfl (by omega) (by decide) dK_spreadOver_8 ?_
  refine z_istore_n hX 3 dK_spreadOver_9 rfl (by decide) ?_
  refine z_aload_n hX 0 dK_spreadOver_10 rfl rfl ?_
  refine z_get hX 0 0 rfl rfl (zu inK) (by decide) (List.mem_cons_of_mem _ mw_151) rfl dK_spreadOver_11 ?_
  refine z_get hX 6 2 rfl rfl (zu inG) (by decide) (List.mem_cons_of_mem _ mw_44) rfl dK_spreadOver_14 ?_
  refine z_iload_n hX 1 dK_spreadOver_17 rfl rfl ?_
  refine z_ldN hX 8 0 _ rfl rfl rfl (by omega) (by decide) dK_spreadOver_18 ?_
  refine z_istore hX 4 dK_spreadOver_19 (by decide) ?_
  refine z_iload_n hX 2 dK_spreadOver_21 rfl rfl ?_
  refine z_iload_n hX 3 dK_spreadOver_22 rfl rfl ?_
  refine z_Nr hX (kA_isIn l D cI cZ S (fr e) (by omega)) "SpanningProbes" mw_272 (by decide) mw_1 mw_271 rfl rfl ⟨by decide, by decide, rfl⟩ (by decide) rfl rfl (Nat.le_of_ble_eq_true rfl) dK_spreadOver_23 (by decide) [] rfl rfl (fun v wn hv => ?_)
  obtain ⟨rfl, rfl⟩ := hv
  refine ⟨rfl, ?_⟩
  refine z_if_eqB hX 61 dK_spreadOver_26 rfl (fun h26 => ?_) (fun h26 => ?_)
  · refine z_iload_n hX 2 dK_spreadOver_61 rfl rfl ?_
    refine z_iload hX 4 dK_spreadOver_62 rfl ?_
    refine z_Nr hX (kA_isIn l D cI cZ S (to e) (by omega)) "SpanningProbes" mw_272 (by decide) mw_1 mw_271 rfl rfl ⟨by decide, by decide, rfl⟩ (by decide) rfl rfl (Nat.le_of_ble_eq_true rfl) dK_spreadOver_64 (by decide) [] rfl rfl (fun v wn hv => ?_)
    obtain ⟨rfl, rfl⟩ := hv
    refine ⟨rfl, ?_⟩
    refine z_if_eqB hX 101 dK_spreadOver_67 rfl (fun h67 => ?_) (fun h67 => ?_)
    · have hr : za fr to V e (S, B) = (S, B) := za_3 (show S (fr e) = S (to e) by rw [h67]; first | exact h26 | (rw [h35] at h67; cases h67))
      refine z_iload_n hX 2 dK_spreadOver_101 rfl rfl ?_
      refine z_iret hX rfl rfl rfl rfl dK_spreadOver_102 ?_
      rw [hr]
      exact ⟨rfl, rfl⟩
    · refine z_iload_n hX 2 dK_spreadOver_70 rfl rfl ?_
      refine z_iload_n hX 3 dK_spreadOver_71 rfl rfl ?_
      refine z_Nr hX (kA_isIn l D cI cZ S (fr e) (by omega)) "SpanningProbes" mw_272 (by decide) mw_1 mw_271 rfl rfl ⟨by decide, by decide, rfl⟩ (by decide) rfl rfl (Nat.le_of_ble_eq_true rfl) dK_spreadOver_72 (by decide) [] rfl rfl (fun v wn hv => ?_)
      obtain ⟨rfl, rfl⟩ := hv
      refine ⟨rfl, ?_⟩
      refine z_if_neB hX 101 dK_spreadOver_75 rfl (fun h75 => ?_) (fun h75 => ?_)
      · have hr : za fr to V e (S, B) = (S, B) := za_3 (show S (fr e) = S (to e) by rw [h67, h75])
        refine z_iload_n hX 2 dK_spreadOver_101 rfl rfl ?_
        refine z_iret hX rfl rfl rfl rfl dK_spreadOver_102 ?_
        rw [hr]
        exact ⟨rfl, rfl⟩
      · have hr : za fr to V e (S, B) = (va_up S (fr e) true, va_up B (fr e) (B (to e) - V e)) := za_2 h67 h75
        have hx2 : va_up (va_up S (fr e) true) (to e) true = va_up S (fr e) true := va_up_id (by
          by_cases hc : to e = fr e
          · rw [hc, sp_up_s]
          · rw [sp_up_n _ _ hc]; exact h67)
        refine z_aload_n hX 0 dK_spreadOver_78 rfl rfl ?_
        refine z_get hX 0 6 rfl rfl (zu inK) (by decide) (List.mem_cons_of_mem _ mw_157) rfl dK_spreadOver_79 ?_
        refine z_iload_n hX 3 dK_spreadOver_82 rfl rfl ?_
        refine z_aload_n hX 0 dK_spreadOver_83 rfl rfl ?_
        refine z_get hX 0 6 rfl rfl (zu inK) (by decide) (List.mem_cons_of_mem _ mw_157) rfl dK_spreadOver_84 ?_
        refine z_iload hX 4 dK_spreadOver_87 rfl ?_
        refine z_ldI hX 4 0 _ rfl rfl rfl (by omega) (by decide) dK_spreadOver_89 ?_
        refine z_aload_n hX 0 dK_spreadOver_90 rfl rfl ?_
        refine z_get hX 0 4 rfl rfl (zu inK) (by decide) (List.mem_cons_of_mem _ mw_155) rfl dK_spreadOver_91 ?_
        refine z_iload_n hX 1 dK_spreadOver_94 rfl rfl ?_
        refine z_ldN hX 2 0 _ rfl rfl rfl (by omega) (by decide) dK_spreadOver_95 ?_
        refine z_isubI hX (B (to e)) (V e : Int) rfl (zi_of _) dK_spreadOver_96 ?_
        refine z_stI hX 4 0 _ _ rfl rfl rfl rfl (by omega) (by decide) dK_spreadOver_97 ?_
        refine z_goto hX 103 dK_spreadOver_98 rfl ?_
        refine z_iload_n hX 2 dK_spreadOver_103 rfl rfl ?_
        refine z_iload_n hX 3 dK_spreadOver_104 rfl rfl ?_
        refine z_Nr hX (kA_bit l D cI cZ (fr e) (by omega)) "SpanningProbes" mw_261 (by decide) mw_1 mw_260 rfl rfl ⟨by decide, by decide, rfl⟩ (by decide) rfl rfl (Nat.le_of_ble_eq_true rfl) dK_spreadOver_105 (by decide) [] rfl rfl (fun v wn hv => ?_)
        obtain ⟨rfl, rfl⟩ := hv
        refine ⟨rfl, ?_⟩
        refine z_ior hX dK_spreadOver_108 ?_
        rw [bS_put]
        refine z_iload hX 4 dK_spreadOver_109 rfl ?_
        refine z_Nr hX (kA_bit l D cI cZ (to e) (by omega)) "SpanningProbes" mw_261 (by decide) mw_1 mw_260 rfl rfl ⟨by decide, by decide, rfl⟩ (by decide) rfl rfl (Nat.le_of_ble_eq_true rfl) dK_spreadOver_111 (by decide) [] rfl rfl (fun v wn hv => ?_)
        obtain ⟨rfl, rfl⟩ := hv
        refine ⟨rfl, ?_⟩
        refine z_ior hX dK_spreadOver_114 ?_
        rw [bS_put, hx2]
        refine z_iret hX rfl rfl rfl rfl dK_spreadOver_115 ?_
        rw [hr]
        exact ⟨rfl, rfl⟩
  · refine z_iload_n hX 2 dK_spreadOver_29 rfl rfl ?_
    refine z_iload hX 4 dK_spreadOver_30 rfl ?_
    refine z_Nr hX (kA_isIn l D cI cZ S (to e) (by omega)) "SpanningProbes" mw_272 (by decide) mw_1 mw_271 rfl rfl ⟨by decide, by decide, rfl⟩ (by decide) rfl rfl (Nat.le_of_ble_eq_true rfl) dK_spreadOver_32 (by decide) [] rfl rfl (fun v wn hv => ?_)
    obtain ⟨rfl, rfl⟩ := hv
    refine ⟨rfl, ?_⟩
    refine z_if_neB hX 61 dK_spreadOver_35 rfl (fun h35 => ?_) (fun h35 => ?_)
    · refine z_iload_n hX 2 dK_spreadOver_61 rfl rfl ?_
      refine z_iload hX 4 dK_spreadOver_62 rfl ?_
      refine z_Nr hX (kA_isIn l D cI cZ S (to e) (by omega)) "SpanningProbes" mw_272 (by decide) mw_1 mw_271 rfl rfl ⟨by decide, by decide, rfl⟩ (by decide) rfl rfl (Nat.le_of_ble_eq_true rfl) dK_spreadOver_64 (by decide) [] rfl rfl (fun v wn hv => ?_)
      obtain ⟨rfl, rfl⟩ := hv
      refine ⟨rfl, ?_⟩
      refine z_if_eqB hX 101 dK_spreadOver_67 rfl (fun h67 => ?_) (fun h67 => ?_)
      · have hr : za fr to V e (S, B) = (S, B) := za_3 (show S (fr e) = S (to e) by rw [h67]; first | exact h26 | (rw [h35] at h67; cases h67))
        refine z_iload_n hX 2 dK_spreadOver_101 rfl rfl ?_
        refine z_iret hX rfl rfl rfl rfl dK_spreadOver_102 ?_
        rw [hr]
        exact ⟨rfl, rfl⟩
      · refine z_iload_n hX 2 dK_spreadOver_70 rfl rfl ?_
        refine z_iload_n hX 3 dK_spreadOver_71 rfl rfl ?_
        refine z_Nr hX (kA_isIn l D cI cZ S (fr e) (by omega)) "SpanningProbes" mw_272 (by decide) mw_1 mw_271 rfl rfl ⟨by decide, by decide, rfl⟩ (by decide) rfl rfl (Nat.le_of_ble_eq_true rfl) dK_spreadOver_72 (by decide) [] rfl rfl (fun v wn hv => ?_)
        obtain ⟨rfl, rfl⟩ := hv
        refine ⟨rfl, ?_⟩
        refine z_if_neB hX 101 dK_spreadOver_75 rfl (fun h75 => ?_) (fun h75 => ?_)
        · have hr : za fr to V e (S, B) = (S, B) := za_3 (show S (fr e) = S (to e) by rw [h67, h75])
          refine z_iload_n hX 2 dK_spreadOver_101 rfl rfl ?_
          refine z_iret hX rfl rfl rfl rfl dK_spreadOver_102 ?_
          rw [hr]
          exact ⟨rfl, rfl⟩
        · have hr : za fr to V e (S, B) = (va_up S (fr e) true, va_up B (fr e) (B (to e) - V e)) := za_2 h67 h75
          have hx2 : va_up (va_up S (fr e) true) (to e) true = va_up S (fr e) true := va_up_id (by
            by_cases hc : to e = fr e
            · rw [hc, sp_up_s]
            · rw [sp_up_n _ _ hc]; exact h67)
          refine z_aload_n hX 0 dK_spreadOver_78 rfl rfl ?_
          refine z_get hX 0 6 rfl rfl (zu inK) (by decide) (List.mem_cons_of_mem _ mw_157) rfl dK_spreadOver_79 ?_
          refine z_iload_n hX 3 dK_spreadOver_82 rfl rfl ?_
          refine z_aload_n hX 0 dK_spreadOver_83 rfl rfl ?_
          refine z_get hX 0 6 rfl rfl (zu inK) (by decide) (List.mem_cons_of_mem _ mw_157) rfl dK_spreadOver_84 ?_
          refine z_iload hX 4 dK_spreadOver_87 rfl ?_
          refine z_ldI hX 4 0 _ rfl rfl rfl (by omega) (by decide) dK_spreadOver_89 ?_
          refine z_aload_n hX 0 dK_spreadOver_90 rfl rfl ?_
          refine z_get hX 0 4 rfl rfl (zu inK) (by decide) (List.mem_cons_of_mem _ mw_155) rfl dK_spreadOver_91 ?_
          refine z_iload_n hX 1 dK_spreadOver_94 rfl rfl ?_
          refine z_ldN hX 2 0 _ rfl rfl rfl (by omega) (by decide) dK_spreadOver_95 ?_
          refine z_isubI hX (B (to e)) (V e : Int) rfl (zi_of _) dK_spreadOver_96 ?_
          refine z_stI hX 4 0 _ _ rfl rfl rfl rfl (by omega) (by decide) dK_spreadOver_97 ?_
          refine z_goto hX 103 dK_spreadOver_98 rfl ?_
          refine z_iload_n hX 2 dK_spreadOver_103 rfl rfl ?_
          refine z_iload_n hX 3 dK_spreadOver_104 rfl rfl ?_
          refine z_Nr hX (kA_bit l D cI cZ (fr e) (by omega)) "SpanningProbes" mw_261 (by decide) mw_1 mw_260 rfl rfl ⟨by decide, by decide, rfl⟩ (by decide) rfl rfl (Nat.le_of_ble_eq_true rfl) dK_spreadOver_105 (by decide) [] rfl rfl (fun v wn hv => ?_)
          obtain ⟨rfl, rfl⟩ := hv
          refine ⟨rfl, ?_⟩
          refine z_ior hX dK_spreadOver_108 ?_
          rw [bS_put]
          refine z_iload hX 4 dK_spreadOver_109 rfl ?_
          refine z_Nr hX (kA_bit l D cI cZ (to e) (by omega)) "SpanningProbes" mw_261 (by decide) mw_1 mw_260 rfl rfl ⟨by decide, by decide, rfl⟩ (by decide) rfl rfl (Nat.le_of_ble_eq_true rfl) dK_spreadOver_111 (by decide) [] rfl rfl (fun v wn hv => ?_)
          obtain ⟨rfl, rfl⟩ := hv
          refine ⟨rfl, ?_⟩
          refine z_ior hX dK_spreadOver_114 ?_
          rw [bS_put, hx2]
          refine z_iret hX rfl rfl rfl rfl dK_spreadOver_115 ?_
          rw [hr]
          exact ⟨rfl, rfl⟩
    · have hr : za fr to V e (S, B) = (va_up S (to e) true, va_up B (to e) (B (fr e) + V e)) := za_1 h26 h35
      have hx2 : va_up (va_up S (fr e) true) (to e) true = va_up S (to e) true := by rw [va_up_id h26]
      refine z_aload_n hX 0 dK_spreadOver_38 rfl rfl ?_
      refine z_get hX 0 6 rfl rfl (zu inK) (by decide) (List.mem_cons_of_mem _ mw_157) rfl dK_spreadOver_39 ?_
      refine z_iload hX 4 dK_spreadOver_42 rfl ?_
      refine z_aload_n hX 0 dK_spreadOver_44 rfl rfl ?_
      refine z_get hX 0 6 rfl rfl (zu inK) (by decide) (List.mem_cons_of_mem _ mw_157) rfl dK_spreadOver_45 ?_
      refine z_iload_n hX 3 dK_spreadOver_48 rfl rfl ?_
      refine z_ldI hX 4 0 _ rfl rfl rfl (by omega) (by decide) dK_spreadOver_49 ?_
      refine z_aload_n hX 0 dK_spreadOver_50 rfl rfl ?_
      refine z_get hX 0 4 rfl rfl (zu inK) (by decide) (List.mem_cons_of_mem _ mw_155) rfl dK_spreadOver_51 ?_
      refine z_iload_n hX 1 dK_spreadOver_54 rfl rfl ?_
      refine z_ldN hX 2 0 _ rfl rfl rfl (by omega) (by decide) dK_spreadOver_55 ?_
      refine z_iaddI hX (B (fr e)) (V e : Int) rfl (zi_of _) dK_spreadOver_56 ?_
      refine z_stI hX 4 0 _ _ rfl rfl rfl rfl (by omega) (by decide) dK_spreadOver_57 ?_
      refine z_goto hX 103 dK_spreadOver_58 rfl ?_
      refine z_iload_n hX 2 dK_spreadOver_103 rfl rfl ?_
      refine z_iload_n hX 3 dK_spreadOver_104 rfl rfl ?_
      refine z_Nr hX (kA_bit l D cI cZ (fr e) (by omega)) "SpanningProbes" mw_261 (by decide) mw_1 mw_260 rfl rfl ⟨by decide, by decide, rfl⟩ (by decide) rfl rfl (Nat.le_of_ble_eq_true rfl) dK_spreadOver_105 (by decide) [] rfl rfl (fun v wn hv => ?_)
      obtain ⟨rfl, rfl⟩ := hv
      refine ⟨rfl, ?_⟩
      refine z_ior hX dK_spreadOver_108 ?_
      rw [bS_put]
      refine z_iload hX 4 dK_spreadOver_109 rfl ?_
      refine z_Nr hX (kA_bit l D cI cZ (to e) (by omega)) "SpanningProbes" mw_261 (by decide) mw_1 mw_260 rfl rfl ⟨by decide, by decide, rfl⟩ (by decide) rfl rfl (Nat.le_of_ble_eq_true rfl) dK_spreadOver_111 (by decide) [] rfl rfl (fun v wn hv => ?_)
      obtain ⟨rfl, rfl⟩ := hv
      refine ⟨rfl, ?_⟩
      refine z_ior hX dK_spreadOver_114 ?_
      rw [bS_put, hx2]
      refine z_iret hX rfl rfl rfl rfl dK_spreadOver_115 ?_
      rw [hr]
      exact ⟨rfl, rfl⟩

