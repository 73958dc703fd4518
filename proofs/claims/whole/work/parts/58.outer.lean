/-! the outer object: what reads -/
set_option maxHeartbeats 400000 in
set_option maxRecDepth 100000 in
theorem kA_isUnderWay (l : Launch) (D : va_G) (cI cZ : ClassId) (ax g s lo tr lk ct : Nat) (sd : Bool) (wh : Option Nat) (sm : Int) (hwh : ∀ p, wh = some p → p < 2147483648) : zM l yA_isUnderWay wA_isUnderWay rA_isUnderWay D zCl (zTy cI cZ) zNW 0 0 [.ref ax] (wA ax g s lo tr lk ct (sd) (wh) (sm)) (fun v wn => v = some (.int (bN (zun wh))) ∧ wn = wA ax g s lo tr lk ct (sd) (wh) (sm)) := by
  refine z_met2 cA_isUnderWay 1 (some .boolean) rfl rfl (Nat.le_of_ble_eq_true rfl) rfl (fun Z hX => ?_)
  show Z 0 0 0 [some (.ref ax)] [] (wA ax g s lo tr lk ct (sd) (wh) (sm))
  refine z_aload_n hX 0 dA_isUnderWay_0 rfl rfl ?_
  refine z_get hX 0 7 rfl rfl (zu inA) (by decide) (List.mem_cons_of_mem _ mw_214) rfl dA_isUnderWay_1 ?_
  refine z_iconst hX (-1) dA_isUnderWay_4 rfl ?_
  refine z_icmp_eq hX 12 dA_isUnderWay_5 rfl (fun h5 => ?_) (fun h5 => ?_)
  · have hr : zun wh = false := by rw [zbar_none hwh h5]; rfl
    refine z_iconst hX (bN false) dA_isUnderWay_12 rfl ?_
    refine z_iret hX rfl (bN_n _) rfl rfl dA_isUnderWay_13 ?_
    exact ⟨by rw [hr], rfl⟩
  · have hr : zun wh = true := by
      cases wh with
      | none => exact absurd rfl h5
      | some p => rfl
    refine z_iconst hX (bN true) dA_isUnderWay_8 rfl ?_
    refine z_goto hX 13 dA_isUnderWay_9 rfl ?_
    refine z_iret hX rfl (bN_n _) rfl rfl dA_isUnderWay_13 ?_
    exact ⟨by rw [hr], rfl⟩

set_option maxHeartbeats 400000 in
set_option maxRecDepth 100000 in
theorem kA_endRun (l : Launch) (D : va_G) (cI cZ : ClassId) (ax g s lo tr lk ct : Nat) (sd : Bool) (wh : Option Nat) (sm : Int) : zM l yA_endRun wA_endRun rA_endRun D zCl (zTy cI cZ) zNW 0 0 [.ref ax] (wA ax g s lo tr lk ct (sd) (wh) (sm)) (fun v wn => v = none ∧ wn = wA ax g s lo tr lk ct (sd) (none) (0)) := by
  refine z_met2 cA_endRun 1 none rfl rfl (Nat.le_of_ble_eq_true rfl) rfl (fun Z hX => ?_)
  show Z 0 0 0 [some (.ref ax)] [] (wA ax g s lo tr lk ct (sd) (wh) (sm))
  refine z_aload_n hX 0 dA_endRun_0 rfl rfl ?_
  refine z_iconst hX (-1) dA_endRun_1 rfl ?_
  refine z_put hX 0 7 rfl rfl (zu inA) tyA tyA_ok nmA (by decide) (List.mem_cons_of_mem _ mw_214) (Or.inl rfl) rfl rfl rfl (Nat.le_of_ble_eq_true rfl) dA_endRun_2 ?_
  refine z_aload_n hX 0 dA_endRun_5 rfl rfl ?_
  refine z_iconst hX (nI 0) dA_endRun_6 rfl ?_
  refine z_put hX 0 8 rfl rfl (zu inA) tyA tyA_ok nmA (by decide) (List.mem_cons_of_mem _ mw_215) (Or.inl rfl) rfl rfl rfl (Nat.le_of_ble_eq_true rfl) dA_endRun_7 ?_
  refine z_vret hX rfl rfl rfl dA_endRun_10 ?_
  exact ⟨rfl, rfl⟩

set_option maxHeartbeats 400000 in
set_option maxRecDepth 100000 in
theorem kA_knowsEdge (l : Launch) (D : va_G) (cI cZ : ClassId) (ax g s lo tr lk ct : Nat) (sd : Bool) (wh : Option Nat) (sm : Int) (f t n m : Nat) (fr to : Nat → Nat) (x : Int32) : zM l yA_knowsEdge wA_knowsEdge rA_knowsEdge D zCl (zTy cI cZ) zNW 0 0 [.ref ax, .int x] (wA ax g s lo tr lk ct (sd) (wh) (sm) ++ wG cI g f t n m fr to) (fun v wn => v = some (.int (bN (sd && zin x m))) ∧ wn = wA ax g s lo tr lk ct (sd) (wh) (sm) ++ wG cI g f t n m fr to) := by
  refine z_met2 cA_knowsEdge 2 (some .boolean) rfl rfl (Nat.le_of_ble_eq_true rfl) rfl (fun Z hX => ?_)
  show Z 0 0 0 [some (.ref ax), some (.int x)] [] (wA ax g s lo tr lk ct (sd) (wh) (sm) ++ wG cI g f t n m fr to)
  refine z_aload_n hX 0 dA_knowsEdge_0 rfl rfl ?_
  refine z_get hX 0 6 rfl rfl (zu inA) (by decide) (List.mem_cons_of_mem _ mw_213) rfl dA_knowsEdge_1 ?_
  refine z_if_eqB hX 22 dA_knowsEdge_4 rfl (fun h4 => ?_) (fun h4 => ?_)
  · have hr : (sd && zin x m) = false := by rw [h4]; rfl
    refine z_iconst hX (bN false) dA_knowsEdge_22 rfl ?_
    refine z_iret hX rfl (bN_n _) rfl rfl dA_knowsEdge_23 ?_
    exact ⟨by rw [hr], rfl⟩
  · refine z_aload_n hX 0 dA_knowsEdge_7 rfl rfl ?_
    refine z_get hX 0 0 rfl rfl (zu inA) (by decide) (List.mem_cons_of_mem _ mw_207) rfl dA_knowsEdge_8 ?_
    refine z_iload_n hX 1 dA_knowsEdge_11 rfl rfl ?_
    refine z_Vr hX (kG_hasEdge l D cI cZ g f t n m fr to x) mw_373 mw_374 mw_375 mw_2 mw_376 rfl rfl ⟨rfl, by decide, by decide, rfl⟩ (by decide) 1 rfl rfl rfl rfl (Nat.le_of_ble_eq_true rfl) dA_knowsEdge_12 (by decide) [1, 2, 3] rfl rfl (fun v wn hv => ?_)
    obtain ⟨rfl, rfl⟩ := hv
    refine ⟨rfl, ?_⟩
    refine z_if_eqB hX 22 dA_knowsEdge_15 rfl (fun h15 => ?_) (fun h15 => ?_)
    · have hr : (sd && zin x m) = false := by rw [h15, Bool.and_false]
      refine z_iconst hX (bN false) dA_knowsEdge_22 rfl ?_
      refine z_iret hX rfl (bN_n _) rfl rfl dA_knowsEdge_23 ?_
      exact ⟨by rw [hr], rfl⟩
    · have hr : (sd && zin x m) = true := by rw [h4, h15]; rfl
      refine z_iconst hX (bN true) dA_knowsEdge_18 rfl ?_
      refine z_goto hX 23 dA_knowsEdge_19 rfl ?_
      refine z_iret hX rfl (bN_n _) rfl rfl dA_knowsEdge_23 ?_
      exact ⟨by rw [hr], rfl⟩

set_option maxHeartbeats 400000 in
set_option maxRecDepth 100000 in
theorem kA_knowsBlock (l : Launch) (D : va_G) (cI cZ : ClassId) (ax g s lo tr lk ct : Nat) (sd : Bool) (wh : Option Nat) (sm : Int) (f t n m : Nat) (fr to : Nat → Nat) (x : Int32) : zM l yA_knowsBlock wA_knowsBlock rA_knowsBlock D zCl (zTy cI cZ) zNW 0 0 [.ref ax, .int x] (wA ax g s lo tr lk ct (sd) (wh) (sm) ++ wG cI g f t n m fr to) (fun v wn => v = some (.int (bN (sd && zin x n))) ∧ wn = wA ax g s lo tr lk ct (sd) (wh) (sm) ++ wG cI g f t n m fr to) := by
  refine z_met2 cA_knowsBlock 2 (some .boolean) rfl rfl (Nat.le_of_ble_eq_true rfl) rfl (fun Z hX => ?_)
  show Z 0 0 0 [some (.ref ax), some (.int x)] [] (wA ax g s lo tr lk ct (sd) (wh) (sm) ++ wG cI g f t n m fr to)
  refine z_aload_n hX 0 dA_knowsBlock_0 rfl rfl ?_
  refine z_get hX 0 6 rfl rfl (zu inA) (by decide) (List.mem_cons_of_mem _ mw_213) rfl dA_knowsBlock_1 ?_
  refine z_if_eqB hX 22 dA_knowsBlock_4 rfl (fun h4 => ?_) (fun h4 => ?_)
  · have hr : (sd && zin x n) = false := by rw [h4]; rfl
    refine z_iconst hX (bN false) dA_knowsBlock_22 rfl ?_
    refine z_iret hX rfl (bN_n _) rfl rfl dA_knowsBlock_23 ?_
    exact ⟨by rw [hr], rfl⟩
  · refine z_aload_n hX 0 dA_knowsBlock_7 rfl rfl ?_
    refine z_get hX 0 0 rfl rfl (zu inA) (by decide) (List.mem_cons_of_mem _ mw_207) rfl dA_knowsBlock_8 ?_
    refine z_iload_n hX 1 dA_knowsBlock_11 rfl rfl ?_
    refine z_Vr hX (kG_hasBlock l D cI cZ g f t n m fr to x) mw_239 mw_240 mw_241 mw_2 mw_242 rfl rfl ⟨rfl, by decide, by decide, rfl⟩ (by decide) 1 rfl rfl rfl rfl (Nat.le_of_ble_eq_true rfl) dA_knowsBlock_12 (by decide) [1, 2, 3] rfl rfl (fun v wn hv => ?_)
    obtain ⟨rfl, rfl⟩ := hv
    refine ⟨rfl, ?_⟩
    refine z_if_eqB hX 22 dA_knowsBlock_15 rfl (fun h15 => ?_) (fun h15 => ?_)
    · have hr : (sd && zin x n) = false := by rw [h15, Bool.and_false]
      refine z_iconst hX (bN false) dA_knowsBlock_22 rfl ?_
      refine z_iret hX rfl (bN_n _) rfl rfl dA_knowsBlock_23 ?_
      exact ⟨by rw [hr], rfl⟩
    · have hr : (sd && zin x n) = true := by rw [h4, h15]; rfl
      refine z_iconst hX (bN true) dA_knowsBlock_18 rfl ?_
      refine z_goto hX 23 dA_knowsBlock_19 rfl ?_
      refine z_iret hX rfl (bN_n _) rfl rfl dA_knowsBlock_23 ?_
      exact ⟨by rw [hr], rfl⟩

set_option maxHeartbeats 400000 in
set_option maxRecDepth 100000 in
theorem kA_knowsWay (l : Launch) (D : va_G) (cI cZ : ClassId) (ax g s lo tr lk ct : Nat) (sd : Bool) (wh : Option Nat) (sm : Int) (kt rw vl sv bs ko : Nat) (R V SV : Nat → Nat) (B : Nat → Int) (o2 : Nat → Nat) (wy : Nat) (x : Int32) : zM l yA_knowsWay wA_knowsWay rA_knowsWay D zCl (zTy cI cZ) zNW 0 0 [.ref ax, .int x] (wA ax g s lo tr lk ct (sd) (wh) (sm) ++ wK cI lk g s kt rw vl sv bs ko R V SV B o2 wy) (fun v wn => v = some (.int (bN (sd && zin x wy))) ∧ wn = wA ax g s lo tr lk ct (sd) (wh) (sm) ++ wK cI lk g s kt rw vl sv bs ko R V SV B o2 wy) := by
  refine z_met2 cA_knowsWay 2 (some .boolean) rfl rfl (Nat.le_of_ble_eq_true rfl) rfl (fun Z hX => ?_)
  show Z 0 0 0 [some (.ref ax), some (.int x)] [] (wA ax g s lo tr lk ct (sd) (wh) (sm) ++ wK cI lk g s kt rw vl sv bs ko R V SV B o2 wy)
  refine z_aload_n hX 0 dA_knowsWay_0 rfl rfl ?_
  refine z_get hX 0 6 rfl rfl (zu inA) (by decide) (List.mem_cons_of_mem _ mw_213) rfl dA_knowsWay_1 ?_
  refine z_if_eqB hX 26 dA_knowsWay_4 rfl (fun h4 => ?_) (fun h4 => ?_)
  · have hr : (sd && zin x wy) = false := by rw [h4]; rfl
    refine z_iconst hX (bN false) dA_knowsWay_26 rfl ?_
    refine z_iret hX rfl (bN_n _) rfl rfl dA_knowsWay_27 ?_
    exact ⟨by rw [hr], rfl⟩
  · refine z_iload_n hX 1 dA_knowsWay_7 rfl rfl ?_
    refine z_if_lt hX 26 dA_knowsWay_8 rfl (fun h8 => ?_) (fun h8 => ?_)
    · have hr : (sd && zin x wy) = false := by rw [zin_lt h8, Bool.and_false]
      refine z_iconst hX (bN false) dA_knowsWay_26 rfl ?_
      refine z_iret hX rfl (bN_n _) rfl rfl dA_knowsWay_27 ?_
      exact ⟨by rw [hr], rfl⟩
    · refine z_iload_n hX 1 dA_knowsWay_11 rfl rfl ?_
      refine z_aload_n hX 0 dA_knowsWay_12 rfl rfl ?_
      refine z_get hX 0 4 rfl rfl (zu inA) (by decide) (List.mem_cons_of_mem _ mw_211) rfl dA_knowsWay_13 ?_
      refine z_get hX 1 8 rfl rfl (zu inK) (by decide) (List.mem_cons_of_mem _ mw_160) rfl dA_knowsWay_16 ?_
      refine z_icmp_ge hX 26 dA_knowsWay_19 rfl (fun h19 => ?_) (fun h19 => ?_)
      · have hr : (sd && zin x wy) = false := by rw [zin_ge h19, Bool.and_false]
        refine z_iconst hX (bN false) dA_knowsWay_26 rfl ?_
        refine z_iret hX rfl (bN_n _) rfl rfl dA_knowsWay_27 ?_
        exact ⟨by rw [hr], rfl⟩
      · have hr : (sd && zin x wy) = true := by rw [h4, zin_in h8 h19]; rfl
        refine z_iconst hX (bN true) dA_knowsWay_22 rfl ?_
        refine z_goto hX 27 dA_knowsWay_23 rfl ?_
        refine z_iret hX rfl (bN_n _) rfl rfl dA_knowsWay_27 ?_
        exact ⟨by rw [hr], rfl⟩

set_option maxHeartbeats 400000 in
set_option maxRecDepth 100000 in
theorem kA_at (l : Launch) (D : va_G) (cI cZ : ClassId) (ax g s lo tr lk ct : Nat) (sd : Bool) (wh : Option Nat) (sm : Int) : zM l yA_at wA_at rA_at D zCl (zTy cI cZ) zNW 0 0 [.ref ax] (wA ax g s lo tr lk ct (sd) (wh) (sm)) (fun v wn => v = some (.int (zbar wh)) ∧ wn = wA ax g s lo tr lk ct (sd) (wh) (sm)) := by
  refine z_met2 cA_at 1 (some .int) rfl rfl (Nat.le_of_ble_eq_true rfl) rfl (fun Z hX => ?_)
  show Z 0 0 0 [some (.ref ax)] [] (wA ax g s lo tr lk ct (sd) (wh) (sm))
  refine z_aload_n hX 0 dA_at_0 rfl rfl ?_
  refine z_get hX 0 7 rfl rfl (zu inA) (by decide) (List.mem_cons_of_mem _ mw_214) rfl dA_at_1 ?_
  refine z_iret hX rfl rfl rfl rfl dA_at_4 ?_
  exact ⟨rfl, rfl⟩

set_option maxHeartbeats 400000 in
set_option maxRecDepth 100000 in
theorem kA_register (l : Launch) (D : va_G) (cI cZ : ClassId) (ax g s lo tr lk ct : Nat) (sd : Bool) (wh : Option Nat) (sm : Int) : zM l yA_register wA_register rA_register D zCl (zTy cI cZ) zNW 0 0 [.ref ax] (wA ax g s lo tr lk ct (sd) (wh) (sm)) (fun v wn => v = some (.int (Int32.ofInt sm)) ∧ wn = wA ax g s lo tr lk ct (sd) (wh) (sm)) := by
  refine z_met2 cA_register 1 (some .int) rfl rfl (Nat.le_of_ble_eq_true rfl) rfl (fun Z hX => ?_)
  show Z 0 0 0 [some (.ref ax)] [] (wA ax g s lo tr lk ct (sd) (wh) (sm))
  refine z_aload_n hX 0 dA_register_0 rfl rfl ?_
  refine z_get hX 0 8 rfl rfl (zu inA) (by decide) (List.mem_cons_of_mem _ mw_215) rfl dA_register_1 ?_
  refine z_iret hX rfl rfl rfl rfl dA_register_4 ?_
  exact ⟨rfl, rfl⟩

set_option maxHeartbeats 400000 in
set_option maxRecDepth 100000 in
theorem kA_start (l : Launch) (D : va_G) (cI cZ : ClassId) (ax g s lo tr lk ct : Nat) (sd : Bool) (wh : Option Nat) (sm : Int) (hwh : ∀ p, wh = some p → p < 2147483648) : zM l yA_start wA_start rA_start D zCl (zTy cI cZ) zNW 0 0 [.ref ax] (wA ax g s lo tr lk ct (sd) (wh) (sm)) (fun v wn => v = some (.int (bN (sd && !zun wh))) ∧ wn = wA ax g s lo tr lk ct (sd) (if (sd && !zun wh) = true then some 0 else wh) (sm)) := by
  refine z_met2 cA_start 1 (some .boolean) rfl rfl (Nat.le_of_ble_eq_true rfl) rfl (fun Z hX => ?_)
  show Z 0 0 0 [some (.ref ax)] [] (wA ax g s lo tr lk ct (sd) (wh) (sm))
  refine z_aload_n hX 0 dA_start_0 rfl rfl ?_
  refine z_get hX 0 6 rfl rfl (zu inA) (by decide) (List.mem_cons_of_mem _ mw_213) rfl dA_start_1 ?_
  refine z_if_eqB hX 14 dA_start_4 rfl (fun h4 => ?_) (fun h4 => ?_)
  · have hr : (sd && !zun wh) = false := by rw [h4]; rfl
    refine z_iconst hX (bN false) dA_start_14 rfl ?_
    refine z_iret hX rfl (bN_n _) rfl rfl dA_start_15 ?_
    rw [hr]
    exact ⟨rfl, rfl⟩
  · refine z_aload_n hX 0 dA_start_7 rfl rfl ?_
    refine z_Vr hX (kA_isUnderWay l D cI cZ ax g s lo tr lk ct sd wh sm hwh) mw_410 mw_412 mp_1_13 mw_1 mw_413 rfl rfl ⟨rfl, by decide, by decide, rfl⟩ (by decide) 0 rfl rfl rfl rfl (Nat.le_of_ble_eq_true rfl) dA_start_8 (by decide) [0] rfl rfl (fun v wn hv => ?_)
    obtain ⟨rfl, rfl⟩ := hv
    refine ⟨rfl, ?_⟩
    refine z_if_eqB hX 16 dA_start_11 rfl (fun h11 => ?_) (fun h11 => ?_)
    · have hr : (sd && !zun wh) = true := by rw [h4, h11]; rfl
      refine z_aload_n hX 0 dA_start_16 rfl rfl ?_
      refine z_iconst hX (zbar (some 0)) dA_start_17 rfl ?_
      refine z_put hX 0 7 rfl rfl (zu inA) tyA tyA_ok nmA (by decide) (List.mem_cons_of_mem _ mw_214) (Or.inl rfl) rfl rfl rfl (Nat.le_of_ble_eq_true rfl) dA_start_18 ?_
      refine z_iconst hX (bN true) dA_start_21 rfl ?_
      refine z_iret hX rfl (bN_n _) rfl rfl dA_start_22 ?_
      rw [hr]
      exact ⟨rfl, rfl⟩
    · have hr : (sd && !zun wh) = false := by rw [h11, Bool.not_true, Bool.and_false]
      refine z_iconst hX (bN false) dA_start_14 rfl ?_
      refine z_iret hX rfl (bN_n _) rfl rfl dA_start_15 ?_
      rw [hr]
      exact ⟨rfl, rfl⟩

set_option maxHeartbeats 400000 in
set_option maxRecDepth 100000 in
theorem kA_depth (l : Launch) (D : va_G) (cI cZ : ClassId) (ax g s lo tr lk ct : Nat) (sd : Bool) (wh : Option Nat) (sm : Int) (f t n m : Nat) (fr to : Nat → Nat) (ib fi sk lu : Nat) (Mt Op : Nat → Bool) (h : Nat) (bk : Nat → Bool) (fin st lq : Nat → Nat) (dp od : Nat) (dep ord : Nat → Nat) (hs gr : Nat) (has : Nat → Bool) (grp : Nat → Nat) (kt rw vl sv bs ko : Nat) (R V SV : Nat → Nat) (B : Nat → Int) (o2 : Nat → Nat) (wy : Nat) (hs2 gr2 : Nat) (has2 : Nat → Bool) (grp2 : Nat → Nat) (bh ht sp cp : Nat) (Bh : Nat → Nat → Bool) (H St Cm : Nat → Int) (x : Int32) (hn : 2 ≤ n ∧ n ≤ 12) (hm : m ≤ 24) (hok : ∀ e, e < m → fr e < n ∧ to e < n)  : zM l yA_depth wA_depth rA_depth D zCl (zTy cI cZ) zNW 0 0 [.ref ax, .int x] (wA ax g s lo tr lk ct (sd) (wh) (sm) ++ wG cI g f t n m fr to ++ wS cI cZ s g ib fi sk lu Mt Op h bk fin st lq ++ wO cI lo g s dp od dep ord ++ wT cI cZ tr g hs gr has grp ++ wK cI lk g s kt rw vl sv bs ko R V SV B o2 wy ++ wT cI cZ kt g hs2 gr2 has2 grp2 ++ wC cI ct g tr bh ht sp cp Bh (H) (St) (Cm)) (fun v wn => wn = wA ax g s lo tr lk ct (sd) (wh) (sm) ++ wG cI g f t n m fr to ++ wS cI cZ s g ib fi sk lu Mt Op h bk fin st lq ++ wO cI lo g s dp od dep ord ++ wT cI cZ tr g hs gr has grp ++ wK cI lk g s kt rw vl sv bs ko R V SV B o2 wy ++ wT cI cZ kt g hs2 gr2 has2 grp2 ++ wC cI ct g tr bh ht sp cp Bh (H) (St) (Cm) ∧ zR sd x n (-1) (fun i => nI (dep i)) v) := by
  refine z_met2 cA_depth 2 (some .int) rfl rfl (Nat.le_of_ble_eq_true rfl) rfl (fun Z hX => ?_)
  show Z 0 0 0 [some (.ref ax), some (.int x)] [] (wA ax g s lo tr lk ct (sd) (wh) (sm) ++ wG cI g f t n m fr to ++ wS cI cZ s g ib fi sk lu Mt Op h bk fin st lq ++ wO cI lo g s dp od dep ord ++ wT cI cZ tr g hs gr has grp ++ wK cI lk g s kt rw vl sv bs ko R V SV B o2 wy ++ wT cI cZ kt g hs2 gr2 has2 grp2 ++ wC cI ct g tr bh ht sp cp Bh (H) (St) (Cm))
  refine z_aload_n hX 0 dA_depth_0 rfl rfl ?_
  refine z_iload_n hX 1 dA_depth_1 rfl rfl ?_
  refine z_Vr hX (kA_knowsBlock l D cI cZ ax g s lo tr lk ct sd wh sm f t n m fr to x) mw_381 mw_383 mp_1_12 mw_1 mw_384 rfl rfl ⟨rfl, by decide, by decide, rfl⟩ (by decide) 0 rfl rfl rfl rfl (Nat.le_of_ble_eq_true rfl) dA_depth_2 (by decide) [0, 1, 2, 3] rfl rfl (fun v wn hv => ?_)
  obtain ⟨rfl, rfl⟩ := hv
  refine ⟨rfl, ?_⟩
  refine z_if_eqB hX 20 dA_depth_5 rfl (fun h5 => ?_) (fun h5 => ?_)
  · refine z_iconst hX (-1) dA_depth_20 rfl ?_
    refine z_iret hX rfl rfl rfl rfl dA_depth_21 ?_
    first
      | exact ⟨rfl, zR_out (by omega) h5⟩
      | exact ⟨rfl, zR_in (by omega) hsd hi (rfl)⟩
  · obtain ⟨hsd, i, hi, rfl⟩ := zkn (by omega) h5
    refine z_aload_n hX 0 dA_depth_8 rfl rfl ?_
    refine z_get hX 0 2 rfl rfl (zu inA) (by decide) (List.mem_cons_of_mem _ mw_209) rfl dA_depth_9 ?_
    refine z_get hX 9 2 rfl rfl (zu inO) (by decide) (List.mem_cons_of_mem _ mw_112) rfl dA_depth_12 ?_
    refine z_iload_n hX 1 dA_depth_15 rfl rfl ?_
    refine z_ldN hX 10 0 _ rfl rfl rfl (by omega) (by decide) dA_depth_16 ?_
    refine z_goto hX 21 dA_depth_17 rfl ?_
    refine z_iret hX rfl rfl rfl rfl dA_depth_21 ?_
    first
      | exact ⟨rfl, zR_out (by omega) h5⟩
      | exact ⟨rfl, zR_in (by omega) hsd hi (rfl)⟩

set_option maxHeartbeats 400000 in
set_option maxRecDepth 100000 in
theorem kA_back (l : Launch) (D : va_G) (cI cZ : ClassId) (ax g s lo tr lk ct : Nat) (sd : Bool) (wh : Option Nat) (sm : Int) (f t n m : Nat) (fr to : Nat → Nat) (ib fi sk lu : Nat) (Mt Op : Nat → Bool) (h : Nat) (bk : Nat → Bool) (fin st lq : Nat → Nat) (dp od : Nat) (dep ord : Nat → Nat) (hs gr : Nat) (has : Nat → Bool) (grp : Nat → Nat) (kt rw vl sv bs ko : Nat) (R V SV : Nat → Nat) (B : Nat → Int) (o2 : Nat → Nat) (wy : Nat) (hs2 gr2 : Nat) (has2 : Nat → Bool) (grp2 : Nat → Nat) (bh ht sp cp : Nat) (Bh : Nat → Nat → Bool) (H St Cm : Nat → Int) (x : Int32) (hn : 2 ≤ n ∧ n ≤ 12) (hm : m ≤ 24) (hok : ∀ e, e < m → fr e < n ∧ to e < n)  : zM l yA_back wA_back rA_back D zCl (zTy cI cZ) zNW 0 0 [.ref ax, .int x] (wA ax g s lo tr lk ct (sd) (wh) (sm) ++ wG cI g f t n m fr to ++ wS cI cZ s g ib fi sk lu Mt Op h bk fin st lq ++ wO cI lo g s dp od dep ord ++ wT cI cZ tr g hs gr has grp ++ wK cI lk g s kt rw vl sv bs ko R V SV B o2 wy ++ wT cI cZ kt g hs2 gr2 has2 grp2 ++ wC cI ct g tr bh ht sp cp Bh (H) (St) (Cm)) (fun v wn => wn = wA ax g s lo tr lk ct (sd) (wh) (sm) ++ wG cI g f t n m fr to ++ wS cI cZ s g ib fi sk lu Mt Op h bk fin st lq ++ wO cI lo g s dp od dep ord ++ wT cI cZ tr g hs gr has grp ++ wK cI lk g s kt rw vl sv bs ko R V SV B o2 wy ++ wT cI cZ kt g hs2 gr2 has2 grp2 ++ wC cI ct g tr bh ht sp cp Bh (H) (St) (Cm) ∧ zR sd x m (bN false) (fun i => bN (bk i)) v) := by
  refine z_met2 cA_back 2 (some .boolean) rfl rfl (Nat.le_of_ble_eq_true rfl) rfl (fun Z hX => ?_)
  show Z 0 0 0 [some (.ref ax), some (.int x)] [] (wA ax g s lo tr lk ct (sd) (wh) (sm) ++ wG cI g f t n m fr to ++ wS cI cZ s g ib fi sk lu Mt Op h bk fin st lq ++ wO cI lo g s dp od dep ord ++ wT cI cZ tr g hs gr has grp ++ wK cI lk g s kt rw vl sv bs ko R V SV B o2 wy ++ wT cI cZ kt g hs2 gr2 has2 grp2 ++ wC cI ct g tr bh ht sp cp Bh (H) (St) (Cm))
  refine z_aload_n hX 0 dA_back_0 rfl rfl ?_
  refine z_iload_n hX 1 dA_back_1 rfl rfl ?_
  refine z_Vr hX (kA_knowsEdge l D cI cZ ax g s lo tr lk ct sd wh sm f t n m fr to x) mw_369 mw_371 mp_1_11 mw_1 mw_372 rfl rfl ⟨rfl, by decide, by decide, rfl⟩ (by decide) 0 rfl rfl rfl rfl (Nat.le_of_ble_eq_true rfl) dA_back_2 (by decide) [0, 1, 2, 3] rfl rfl (fun v wn hv => ?_)
  obtain ⟨rfl, rfl⟩ := hv
  refine ⟨rfl, ?_⟩
  refine z_if_eqB hX 24 dA_back_5 rfl (fun h5 => ?_) (fun h5 => ?_)
  · refine z_iconst hX (bN false) dA_back_24 rfl ?_
    refine z_iret hX rfl (bN_n _) rfl rfl dA_back_25 ?_
    first
      | exact ⟨rfl, zR_out (by omega) h5⟩
      | exact ⟨rfl, zR_in (by omega) hsd hi (hr)⟩
  · obtain ⟨hsd, i, hi, rfl⟩ := zkn (by omega) h5
    refine z_aload_n hX 0 dA_back_8 rfl rfl ?_
    refine z_get hX 0 1 rfl rfl (zu inA) (by decide) (List.mem_cons_of_mem _ mw_208) rfl dA_back_9 ?_
    refine z_get hX 4 1 rfl rfl (zu inS) (by decide) (List.mem_cons_of_mem _ mw_77) rfl dA_back_12 ?_
    refine z_iload_n hX 1 dA_back_15 rfl rfl ?_
    refine z_ldB hX 5 1 _ rfl rfl rfl (by omega) (by decide) dA_back_16 ?_
    refine z_if_eqB hX 24 dA_back_17 rfl (fun h17 => ?_) (fun h17 => ?_)
    · have hr : bN (bk i) = bN false := by rw [h17]
      refine z_iconst hX (bN false) dA_back_24 rfl ?_
      refine z_iret hX rfl (bN_n _) rfl rfl dA_back_25 ?_
      first
        | exact ⟨rfl, zR_out (by omega) h5⟩
        | exact ⟨rfl, zR_in (by omega) hsd hi (hr)⟩
    · have hr : bN (bk i) = bN true := by rw [h17]
      refine z_iconst hX (bN true) dA_back_20 rfl ?_
      refine z_goto hX 25 dA_back_21 rfl ?_
      refine z_iret hX rfl (bN_n _) rfl rfl dA_back_25 ?_
      first
        | exact ⟨rfl, zR_out (by omega) h5⟩
        | exact ⟨rfl, zR_in (by omega) hsd hi (hr)⟩

set_option maxHeartbeats 400000 in
set_option maxRecDepth 100000 in
theorem kA_probe (l : Launch) (D : va_G) (cI cZ : ClassId) (ax g s lo tr lk ct : Nat) (sd : Bool) (wh : Option Nat) (sm : Int) (f t n m : Nat) (fr to : Nat → Nat) (ib fi sk lu : Nat) (Mt Op : Nat → Bool) (h : Nat) (bk : Nat → Bool) (fin st lq : Nat → Nat) (dp od : Nat) (dep ord : Nat → Nat) (hs gr : Nat) (has : Nat → Bool) (grp : Nat → Nat) (kt rw vl sv bs ko : Nat) (R V SV : Nat → Nat) (B : Nat → Int) (o2 : Nat → Nat) (wy : Nat) (hs2 gr2 : Nat) (has2 : Nat → Bool) (grp2 : Nat → Nat) (bh ht sp cp : Nat) (Bh : Nat → Nat → Bool) (H St Cm : Nat → Int) (x : Int32) (hn : 2 ≤ n ∧ n ≤ 12) (hm : m ≤ 24) (hok : ∀ e, e < m → fr e < n ∧ to e < n)  : zM l yA_probe wA_probe rA_probe D zCl (zTy cI cZ) zNW 0 0 [.ref ax, .int x] (wA ax g s lo tr lk ct (sd) (wh) (sm) ++ wG cI g f t n m fr to ++ wS cI cZ s g ib fi sk lu Mt Op h bk fin st lq ++ wO cI lo g s dp od dep ord ++ wT cI cZ tr g hs gr has grp ++ wK cI lk g s kt rw vl sv bs ko R V SV B o2 wy ++ wT cI cZ kt g hs2 gr2 has2 grp2 ++ wC cI ct g tr bh ht sp cp Bh (H) (St) (Cm)) (fun v wn => wn = wA ax g s lo tr lk ct (sd) (wh) (sm) ++ wG cI g f t n m fr to ++ wS cI cZ s g ib fi sk lu Mt Op h bk fin st lq ++ wO cI lo g s dp od dep ord ++ wT cI cZ tr g hs gr has grp ++ wK cI lk g s kt rw vl sv bs ko R V SV B o2 wy ++ wT cI cZ kt g hs2 gr2 has2 grp2 ++ wC cI ct g tr bh ht sp cp Bh (H) (St) (Cm) ∧ zR sd x m (bN false) (fun i => bN (!has i)) v) := by
  refine z_met2 cA_probe 2 (some .boolean) rfl rfl (Nat.le_of_ble_eq_true rfl) rfl (fun Z hX => ?_)
  show Z 0 0 0 [some (.ref ax), some (.int x)] [] (wA ax g s lo tr lk ct (sd) (wh) (sm) ++ wG cI g f t n m fr to ++ wS cI cZ s g ib fi sk lu Mt Op h bk fin st lq ++ wO cI lo g s dp od dep ord ++ wT cI cZ tr g hs gr has grp ++ wK cI lk g s kt rw vl sv bs ko R V SV B o2 wy ++ wT cI cZ kt g hs2 gr2 has2 grp2 ++ wC cI ct g tr bh ht sp cp Bh (H) (St) (Cm))
  refine z_aload_n hX 0 dA_probe_0 rfl rfl ?_
  refine z_iload_n hX 1 dA_probe_1 rfl rfl ?_
  refine z_Vr hX (kA_knowsEdge l D cI cZ ax g s lo tr lk ct sd wh sm f t n m fr to x) mw_369 mw_371 mp_1_11 mw_1 mw_372 rfl rfl ⟨rfl, by decide, by decide, rfl⟩ (by decide) 0 rfl rfl rfl rfl (Nat.le_of_ble_eq_true rfl) dA_probe_2 (by decide) [0, 1, 2, 3] rfl rfl (fun v wn hv => ?_)
  obtain ⟨rfl, rfl⟩ := hv
  refine ⟨rfl, ?_⟩
  refine z_if_eqB hX 24 dA_probe_5 rfl (fun h5 => ?_) (fun h5 => ?_)
  · refine z_iconst hX (bN false) dA_probe_24 rfl ?_
    refine z_iret hX rfl (bN_n _) rfl rfl dA_probe_25 ?_
    first
      | exact ⟨rfl, zR_out (by omega) h5⟩
      | exact ⟨rfl, zR_in (by omega) hsd hi (hr)⟩
  · obtain ⟨hsd, i, hi, rfl⟩ := zkn (by omega) h5
    refine z_aload_n hX 0 dA_probe_8 rfl rfl ?_
    refine z_get hX 0 3 rfl rfl (zu inA) (by decide) (List.mem_cons_of_mem _ mw_210) rfl dA_probe_9 ?_
    refine z_get hX 12 1 rfl rfl (zu inT) (by decide) (List.mem_cons_of_mem _ mw_133) rfl dA_probe_12 ?_
    refine z_iload_n hX 1 dA_probe_15 rfl rfl ?_
    refine z_ldB hX 13 1 _ rfl rfl rfl (by omega) (by decide) dA_probe_16 ?_
    refine z_if_neB hX 24 dA_probe_17 rfl (fun h17 => ?_) (fun h17 => ?_)
    · have hr : bN (!has i) = bN false := by rw [h17]; rfl
      refine z_iconst hX (bN false) dA_probe_24 rfl ?_
      refine z_iret hX rfl (bN_n _) rfl rfl dA_probe_25 ?_
      first
        | exact ⟨rfl, zR_out (by omega) h5⟩
        | exact ⟨rfl, zR_in (by omega) hsd hi (hr)⟩
    · have hr : bN (!has i) = bN true := by rw [h17]; rfl
      refine z_iconst hX (bN true) dA_probe_20 rfl ?_
      refine z_goto hX 25 dA_probe_21 rfl ?_
      refine z_iret hX rfl (bN_n _) rfl rfl dA_probe_25 ?_
      first
        | exact ⟨rfl, zR_out (by omega) h5⟩
        | exact ⟨rfl, zR_in (by omega) hsd hi (hr)⟩

set_option maxHeartbeats 400000 in
set_option maxRecDepth 100000 in
theorem kA_increment (l : Launch) (D : va_G) (cI cZ : ClassId) (ax g s lo tr lk ct : Nat) (sd : Bool) (wh : Option Nat) (sm : Int) (f t n m : Nat) (fr to : Nat → Nat) (ib fi sk lu : Nat) (Mt Op : Nat → Bool) (h : Nat) (bk : Nat → Bool) (fin st lq : Nat → Nat) (dp od : Nat) (dep ord : Nat → Nat) (hs gr : Nat) (has : Nat → Bool) (grp : Nat → Nat) (kt rw vl sv bs ko : Nat) (R V SV : Nat → Nat) (B : Nat → Int) (o2 : Nat → Nat) (wy : Nat) (hs2 gr2 : Nat) (has2 : Nat → Bool) (grp2 : Nat → Nat) (bh ht sp cp : Nat) (Bh : Nat → Nat → Bool) (H St Cm : Nat → Int) (x : Int32) (hn : 2 ≤ n ∧ n ≤ 12) (hm : m ≤ 24) (hok : ∀ e, e < m → fr e < n ∧ to e < n)  : zM l yA_increment wA_increment rA_increment D zCl (zTy cI cZ) zNW 0 0 [.ref ax, .int x] (wA ax g s lo tr lk ct (sd) (wh) (sm) ++ wG cI g f t n m fr to ++ wS cI cZ s g ib fi sk lu Mt Op h bk fin st lq ++ wO cI lo g s dp od dep ord ++ wT cI cZ tr g hs gr has grp ++ wK cI lk g s kt rw vl sv bs ko R V SV B o2 wy ++ wT cI cZ kt g hs2 gr2 has2 grp2 ++ wC cI ct g tr bh ht sp cp Bh (H) (St) (Cm)) (fun v wn => wn = wA ax g s lo tr lk ct (sd) (wh) (sm) ++ wG cI g f t n m fr to ++ wS cI cZ s g ib fi sk lu Mt Op h bk fin st lq ++ wO cI lo g s dp od dep ord ++ wT cI cZ tr g hs gr has grp ++ wK cI lk g s kt rw vl sv bs ko R V SV B o2 wy ++ wT cI cZ kt g hs2 gr2 has2 grp2 ++ wC cI ct g tr bh ht sp cp Bh (H) (St) (Cm) ∧ zR sd x m (-2147483648) (fun e => Int32.ofInt (V e + B (fr e) - B (ztg bk to e))) v) := by
  refine z_met2 cA_increment 2 (some .int) rfl rfl (Nat.le_of_ble_eq_true rfl) rfl (fun Z hX => ?_)
  show Z 0 0 0 [some (.ref ax), some (.int x)] [] (wA ax g s lo tr lk ct (sd) (wh) (sm) ++ wG cI g f t n m fr to ++ wS cI cZ s g ib fi sk lu Mt Op h bk fin st lq ++ wO cI lo g s dp od dep ord ++ wT cI cZ tr g hs gr has grp ++ wK cI lk g s kt rw vl sv bs ko R V SV B o2 wy ++ wT cI cZ kt g hs2 gr2 has2 grp2 ++ wC cI ct g tr bh ht sp cp Bh (H) (St) (Cm))
  refine z_aload_n hX 0 dA_increment_0 rfl rfl ?_
  refine z_iload_n hX 1 dA_increment_1 rfl rfl ?_
  refine z_Vr hX (kA_knowsEdge l D cI cZ ax g s lo tr lk ct sd wh sm f t n m fr to x) mw_369 mw_371 mp_1_11 mw_1 mw_372 rfl rfl ⟨rfl, by decide, by decide, rfl⟩ (by decide) 0 rfl rfl rfl rfl (Nat.le_of_ble_eq_true rfl) dA_increment_2 (by decide) [0, 1, 2, 3] rfl rfl (fun v wn hv => ?_)
  obtain ⟨rfl, rfl⟩ := hv
  refine ⟨rfl, ?_⟩
  refine z_if_eqB hX 19 dA_increment_5 rfl (fun h5 => ?_) (fun h5 => ?_)
  · refine z_ldc hX (-2147483648) (List.mem_cons_of_mem _ mw_397) dA_increment_19 ?_
    refine z_iret hX rfl rfl rfl rfl dA_increment_21 ?_
    first
      | exact ⟨rfl, zR_out (by omega) h5⟩
      | exact ⟨rfl, zR_in (by omega) hsd hi (rfl)⟩
  · obtain ⟨hsd, i, hi, rfl⟩ := zkn (by omega) h5
    refine z_aload_n hX 0 dA_increment_8 rfl rfl ?_
    refine z_get hX 0 4 rfl rfl (zu inA) (by decide) (List.mem_cons_of_mem _ mw_211) rfl dA_increment_9 ?_
    refine z_iload_n hX 1 dA_increment_12 rfl rfl ?_
    refine z_Vr hX (kK_incrementOf l D cI cZ lk g s kt rw vl sv bs ko R V SV B o2 wy f t n m fr to ib fi sk lu Mt Op h bk fin st lq i hi hn hm hok) mw_393 mw_394 mw_395 mw_7 mw_396 rfl rfl ⟨rfl, by decide, by decide, rfl⟩ (by decide) 15 rfl rfl rfl rfl (Nat.le_of_ble_eq_true rfl) dA_increment_13 (by decide) [15, 16, 17, 18, 19, 20, 1, 2, 3, 4, 5, 6, 7, 8] rfl rfl (fun v wn hv => ?_)
    obtain ⟨rfl, rfl⟩ := hv
    refine ⟨rfl, ?_⟩
    refine z_goto hX 21 dA_increment_16 rfl ?_
    refine z_iret hX rfl rfl rfl rfl dA_increment_21 ?_
    first
      | exact ⟨rfl, zR_out (by omega) h5⟩
      | exact ⟨rfl, zR_in (by omega) hsd hi (rfl)⟩

set_option maxHeartbeats 400000 in
set_option maxRecDepth 100000 in
theorem kA_reset (l : Launch) (D : va_G) (cI cZ : ClassId) (ax g s lo tr lk ct : Nat) (sd : Bool) (wh : Option Nat) (sm : Int) (f t n m : Nat) (fr to : Nat → Nat) (ib fi sk lu : Nat) (Mt Op : Nat → Bool) (h : Nat) (bk : Nat → Bool) (fin st lq : Nat → Nat) (dp od : Nat) (dep ord : Nat → Nat) (hs gr : Nat) (has : Nat → Bool) (grp : Nat → Nat) (kt rw vl sv bs ko : Nat) (R V SV : Nat → Nat) (B : Nat → Int) (o2 : Nat → Nat) (wy : Nat) (hs2 gr2 : Nat) (has2 : Nat → Bool) (grp2 : Nat → Nat) (bh ht sp cp : Nat) (Bh : Nat → Nat → Bool) (H St Cm : Nat → Int) (x : Int32) (hn : 2 ≤ n ∧ n ≤ 12) (hm : m ≤ 24) (hok : ∀ e, e < m → fr e < n ∧ to e < n)  : zM l yA_reset wA_reset rA_reset D zCl (zTy cI cZ) zNW 0 0 [.ref ax, .int x] (wA ax g s lo tr lk ct (sd) (wh) (sm) ++ wG cI g f t n m fr to ++ wS cI cZ s g ib fi sk lu Mt Op h bk fin st lq ++ wO cI lo g s dp od dep ord ++ wT cI cZ tr g hs gr has grp ++ wK cI lk g s kt rw vl sv bs ko R V SV B o2 wy ++ wT cI cZ kt g hs2 gr2 has2 grp2 ++ wC cI ct g tr bh ht sp cp Bh (H) (St) (Cm)) (fun v wn => wn = wA ax g s lo tr lk ct (sd) (wh) (sm) ++ wG cI g f t n m fr to ++ wS cI cZ s g ib fi sk lu Mt Op h bk fin st lq ++ wO cI lo g s dp od dep ord ++ wT cI cZ tr g hs gr has grp ++ wK cI lk g s kt rw vl sv bs ko R V SV B o2 wy ++ wT cI cZ kt g hs2 gr2 has2 grp2 ++ wC cI ct g tr bh ht sp cp Bh (H) (St) (Cm) ∧ zR sd x m (-2147483648) (fun e => if bk e = true then Int32.ofInt (SV e + B 0 - B (to e)) else -2147483648) v) := by
  refine z_met2 cA_reset 2 (some .int) rfl rfl (Nat.le_of_ble_eq_true rfl) rfl (fun Z hX => ?_)
  show Z 0 0 0 [some (.ref ax), some (.int x)] [] (wA ax g s lo tr lk ct (sd) (wh) (sm) ++ wG cI g f t n m fr to ++ wS cI cZ s g ib fi sk lu Mt Op h bk fin st lq ++ wO cI lo g s dp od dep ord ++ wT cI cZ tr g hs gr has grp ++ wK cI lk g s kt rw vl sv bs ko R V SV B o2 wy ++ wT cI cZ kt g hs2 gr2 has2 grp2 ++ wC cI ct g tr bh ht sp cp Bh (H) (St) (Cm))
  refine z_aload_n hX 0 dA_reset_0 rfl rfl ?_
  refine z_iload_n hX 1 dA_reset_1 rfl rfl ?_
  refine z_Vr hX (kA_knowsEdge l D cI cZ ax g s lo tr lk ct sd wh sm f t n m fr to x) mw_369 mw_371 mp_1_11 mw_1 mw_372 rfl rfl ⟨rfl, by decide, by decide, rfl⟩ (by decide) 0 rfl rfl rfl rfl (Nat.le_of_ble_eq_true rfl) dA_reset_2 (by decide) [0, 1, 2, 3] rfl rfl (fun v wn hv => ?_)
  obtain ⟨rfl, rfl⟩ := hv
  refine ⟨rfl, ?_⟩
  refine z_if_eqB hX 31 dA_reset_5 rfl (fun h5 => ?_) (fun h5 => ?_)
  · refine z_ldc hX (-2147483648) (List.mem_cons_of_mem _ mw_397) dA_reset_31 ?_
    refine z_iret hX rfl rfl rfl rfl dA_reset_33 ?_
    first
      | exact ⟨rfl, zR_out (by omega) h5⟩
      | exact ⟨rfl, zR_in (by omega) hsd hi (hr)⟩
  · obtain ⟨hsd, i, hi, rfl⟩ := zkn (by omega) h5
    refine z_aload_n hX 0 dA_reset_8 rfl rfl ?_
    refine z_get hX 0 1 rfl rfl (zu inA) (by decide) (List.mem_cons_of_mem _ mw_208) rfl dA_reset_9 ?_
    refine z_get hX 4 1 rfl rfl (zu inS) (by decide) (List.mem_cons_of_mem _ mw_77) rfl dA_reset_12 ?_
    refine z_iload_n hX 1 dA_reset_15 rfl rfl ?_
    refine z_ldB hX 5 1 _ rfl rfl rfl (by omega) (by decide) dA_reset_16 ?_
    refine z_if_eqB hX 31 dA_reset_17 rfl (fun h17 => ?_) (fun h17 => ?_)
    · have hr : (if bk i = true then Int32.ofInt (SV i + B 0 - B (to i)) else -2147483648) = -2147483648 := if_neg (by rw [h17]; decide)
      refine z_ldc hX (-2147483648) (List.mem_cons_of_mem _ mw_397) dA_reset_31 ?_
      refine z_iret hX rfl rfl rfl rfl dA_reset_33 ?_
      first
        | exact ⟨rfl, zR_out (by omega) h5⟩
        | exact ⟨rfl, zR_in (by omega) hsd hi (hr)⟩
    · have hr : (if bk i = true then Int32.ofInt (SV i + B 0 - B (to i)) else -2147483648) = Int32.ofInt (SV i + B 0 - B (to i)) := if_pos h17
      refine z_aload_n hX 0 dA_reset_20 rfl rfl ?_
      refine z_get hX 0 4 rfl rfl (zu inA) (by decide) (List.mem_cons_of_mem _ mw_211) rfl dA_reset_21 ?_
      refine z_iload_n hX 1 dA_reset_24 rfl rfl ?_
      refine z_Vr hX (kK_startIncrementOf l D cI cZ lk g s kt rw vl sv bs ko R V SV B o2 wy f t n m fr to ib fi sk lu Mt Op h bk fin st lq i hi hn hm hok) mw_402 mw_403 mw_404 mw_7 mw_405 rfl rfl ⟨rfl, by decide, by decide, rfl⟩ (by decide) 15 rfl rfl rfl rfl (Nat.le_of_ble_eq_true rfl) dA_reset_25 (by decide) [15, 16, 17, 18, 19, 20, 1, 2, 3, 4, 5, 6, 7, 8] rfl rfl (fun v wn hv => ?_)
      obtain ⟨rfl, rfl⟩ := hv
      refine ⟨rfl, ?_⟩
      refine z_goto hX 33 dA_reset_28 rfl ?_
      refine z_iret hX rfl rfl rfl rfl dA_reset_33 ?_
      first
        | exact ⟨rfl, zR_out (by omega) h5⟩
        | exact ⟨rfl, zR_in (by omega) hsd hi (hr)⟩

set_option maxHeartbeats 400000 in
set_option maxRecDepth 100000 in
theorem kA_count (l : Launch) (D : va_G) (cI cZ : ClassId) (ax g s lo tr lk ct : Nat) (sd : Bool) (wh : Option Nat) (sm : Int) (f t n m : Nat) (fr to : Nat → Nat) (ib fi sk lu : Nat) (Mt Op : Nat → Bool) (h : Nat) (bk : Nat → Bool) (fin st lq : Nat → Nat) (dp od : Nat) (dep ord : Nat → Nat) (hs gr : Nat) (has : Nat → Bool) (grp : Nat → Nat) (kt rw vl sv bs ko : Nat) (R V SV : Nat → Nat) (B : Nat → Int) (o2 : Nat → Nat) (wy : Nat) (hs2 gr2 : Nat) (has2 : Nat → Bool) (grp2 : Nat → Nat) (bh ht sp cp : Nat) (Bh : Nat → Nat → Bool) (H St Cm : Nat → Int) (x : Int32) (hn : 2 ≤ n ∧ n ≤ 12) (hm : m ≤ 24) (hok : ∀ e, e < m → fr e < n ∧ to e < n) (hwh : ∀ p, wh = some p → p < n) : zM l yA_count wA_count rA_count D zCl (zTy cI cZ) zNW 0 0 [.ref ax, .int x] (wA ax g s lo tr lk ct (sd) (wh) (sm) ++ wG cI g f t n m fr to ++ wS cI cZ s g ib fi sk lu Mt Op h bk fin st lq ++ wO cI lo g s dp od dep ord ++ wT cI cZ tr g hs gr has grp ++ wK cI lk g s kt rw vl sv bs ko R V SV B o2 wy ++ wT cI cZ kt g hs2 gr2 has2 grp2 ++ wC cI ct g tr bh ht sp cp Bh (H) (St) (Cm)) (fun v wn => wn = wA ax g s lo tr lk ct (sd) (wh) (sm) ++ wG cI g f t n m fr to ++ wS cI cZ s g ib fi sk lu Mt Op h bk fin st lq ++ wO cI lo g s dp od dep ord ++ wT cI cZ tr g hs gr has grp ++ wK cI lk g s kt rw vl sv bs ko R V SV B o2 wy ++ wT cI cZ kt g hs2 gr2 has2 grp2 ++ wC cI ct g tr bh ht sp cp Bh (H) (St) (Cm) ∧ zR sd x m (-1) (fun e => Int32.ofInt (zpo fr to n m has Bh H St wh e)) v) := by
  refine z_met2 cA_count 2 (some .int) rfl rfl (Nat.le_of_ble_eq_true rfl) rfl (fun Z hX => ?_)
  show Z 0 0 0 [some (.ref ax), some (.int x)] [] (wA ax g s lo tr lk ct (sd) (wh) (sm) ++ wG cI g f t n m fr to ++ wS cI cZ s g ib fi sk lu Mt Op h bk fin st lq ++ wO cI lo g s dp od dep ord ++ wT cI cZ tr g hs gr has grp ++ wK cI lk g s kt rw vl sv bs ko R V SV B o2 wy ++ wT cI cZ kt g hs2 gr2 has2 grp2 ++ wC cI ct g tr bh ht sp cp Bh (H) (St) (Cm))
  refine z_aload_n hX 0 dA_count_0 rfl rfl ?_
  refine z_iload_n hX 1 dA_count_1 rfl rfl ?_
  refine z_Vr hX (kA_knowsEdge l D cI cZ ax g s lo tr lk ct sd wh sm f t n m fr to x) mw_369 mw_371 mp_1_11 mw_1 mw_372 rfl rfl ⟨rfl, by decide, by decide, rfl⟩ (by decide) 0 rfl rfl rfl rfl (Nat.le_of_ble_eq_true rfl) dA_count_2 (by decide) [0, 1, 2, 3] rfl rfl (fun v wn hv => ?_)
  obtain ⟨rfl, rfl⟩ := hv
  refine ⟨rfl, ?_⟩
  refine z_if_eqB hX 23 dA_count_5 rfl (fun h5 => ?_) (fun h5 => ?_)
  · refine z_iconst hX (-1) dA_count_23 rfl ?_
    refine z_iret hX rfl rfl rfl rfl dA_count_24 ?_
    first
      | exact ⟨rfl, zR_out (by omega) h5⟩
      | exact ⟨rfl, zR_in (by omega) hsd hi (rfl)⟩
  · obtain ⟨hsd, i, hi, rfl⟩ := zkn (by omega) h5
    refine z_aload_n hX 0 dA_count_8 rfl rfl ?_
    refine z_get hX 0 5 rfl rfl (zu inA) (by decide) (List.mem_cons_of_mem _ mw_212) rfl dA_count_9 ?_
    refine z_iload_n hX 1 dA_count_12 rfl rfl ?_
    refine z_aload_n hX 0 dA_count_13 rfl rfl ?_
    refine z_get hX 0 7 rfl rfl (zu inA) (by decide) (List.mem_cons_of_mem _ mw_214) rfl dA_count_14 ?_
    refine z_Vr hX (kC_passesOf l D cI cZ ct g tr bh ht sp cp Bh H St Cm hs gr has grp f t n m fr to i hi wh hwh hn hm hok) mw_463 mw_464 mw_465 mw_8 mw_466 rfl rfl ⟨rfl, by decide, by decide, rfl⟩ (by decide) 24 rfl rfl rfl rfl (Nat.le_of_ble_eq_true rfl) dA_count_17 (by decide) [24, 25, 26, 27, 28, 12, 13, 14, 1, 2, 3] rfl rfl (fun v wn hv => ?_)
    obtain ⟨rfl, rfl⟩ := hv
    refine ⟨rfl, ?_⟩
    refine z_goto hX 24 dA_count_20 rfl ?_
    refine z_iret hX rfl rfl rfl rfl dA_count_24 ?_
    first
      | exact ⟨rfl, zR_out (by omega) h5⟩
      | exact ⟨rfl, zR_in (by omega) hsd hi (rfl)⟩

set_option maxHeartbeats 400000 in
set_option maxRecDepth 100000 in
theorem kA_visits (l : Launch) (D : va_G) (cI cZ : ClassId) (ax g s lo tr lk ct : Nat) (sd : Bool) (wh : Option Nat) (sm : Int) (f t n m : Nat) (fr to : Nat → Nat) (ib fi sk lu : Nat) (Mt Op : Nat → Bool) (h : Nat) (bk : Nat → Bool) (fin st lq : Nat → Nat) (dp od : Nat) (dep ord : Nat → Nat) (hs gr : Nat) (has : Nat → Bool) (grp : Nat → Nat) (kt rw vl sv bs ko : Nat) (R V SV : Nat → Nat) (B : Nat → Int) (o2 : Nat → Nat) (wy : Nat) (hs2 gr2 : Nat) (has2 : Nat → Bool) (grp2 : Nat → Nat) (bh ht sp cp : Nat) (Bh : Nat → Nat → Bool) (H St Cm : Nat → Int) (x : Int32) (hn : 2 ≤ n ∧ n ≤ 12) (hm : m ≤ 24) (hok : ∀ e, e < m → fr e < n ∧ to e < n) (hwh : ∀ p, wh = some p → p < n) : zM l yA_visits wA_visits rA_visits D zCl (zTy cI cZ) zNW 0 0 [.ref ax, .int x] (wA ax g s lo tr lk ct (sd) (wh) (sm) ++ wG cI g f t n m fr to ++ wS cI cZ s g ib fi sk lu Mt Op h bk fin st lq ++ wO cI lo g s dp od dep ord ++ wT cI cZ tr g hs gr has grp ++ wK cI lk g s kt rw vl sv bs ko R V SV B o2 wy ++ wT cI cZ kt g hs2 gr2 has2 grp2 ++ wC cI ct g tr bh ht sp cp Bh (H) (St) (Cm)) (fun v wn => wn = wA ax g s lo tr lk ct (sd) (wh) (sm) ++ wG cI g f t n m fr to ++ wS cI cZ s g ib fi sk lu Mt Op h bk fin st lq ++ wO cI lo g s dp od dep ord ++ wT cI cZ tr g hs gr has grp ++ wK cI lk g s kt rw vl sv bs ko R V SV B o2 wy ++ wT cI cZ kt g hs2 gr2 has2 grp2 ++ wC cI ct g tr bh ht sp cp Bh (H) (St) (Cm) ∧ zR sd x n (-1) (fun b => Int32.ofInt (zvi fr to n m has Bh H St wh b)) v) := by
  refine z_met2 cA_visits 2 (some .int) rfl rfl (Nat.le_of_ble_eq_true rfl) rfl (fun Z hX => ?_)
  show Z 0 0 0 [some (.ref ax), some (.int x)] [] (wA ax g s lo tr lk ct (sd) (wh) (sm) ++ wG cI g f t n m fr to ++ wS cI cZ s g ib fi sk lu Mt Op h bk fin st lq ++ wO cI lo g s dp od dep ord ++ wT cI cZ tr g hs gr has grp ++ wK cI lk g s kt rw vl sv bs ko R V SV B o2 wy ++ wT cI cZ kt g hs2 gr2 has2 grp2 ++ wC cI ct g tr bh ht sp cp Bh (H) (St) (Cm))
  refine z_aload_n hX 0 dA_visits_0 rfl rfl ?_
  refine z_iload_n hX 1 dA_visits_1 rfl rfl ?_
  refine z_Vr hX (kA_knowsBlock l D cI cZ ax g s lo tr lk ct sd wh sm f t n m fr to x) mw_381 mw_383 mp_1_12 mw_1 mw_384 rfl rfl ⟨rfl, by decide, by decide, rfl⟩ (by decide) 0 rfl rfl rfl rfl (Nat.le_of_ble_eq_true rfl) dA_visits_2 (by decide) [0, 1, 2, 3] rfl rfl (fun v wn hv => ?_)
  obtain ⟨rfl, rfl⟩ := hv
  refine ⟨rfl, ?_⟩
  refine z_if_eqB hX 23 dA_visits_5 rfl (fun h5 => ?_) (fun h5 => ?_)
  · refine z_iconst hX (-1) dA_visits_23 rfl ?_
    refine z_iret hX rfl rfl rfl rfl dA_visits_24 ?_
    first
      | exact ⟨rfl, zR_out (by omega) h5⟩
      | exact ⟨rfl, zR_in (by omega) hsd hi (rfl)⟩
  · obtain ⟨hsd, i, hi, rfl⟩ := zkn (by omega) h5
    refine z_aload_n hX 0 dA_visits_8 rfl rfl ?_
    refine z_get hX 0 5 rfl rfl (zu inA) (by decide) (List.mem_cons_of_mem _ mw_212) rfl dA_visits_9 ?_
    refine z_iload_n hX 1 dA_visits_12 rfl rfl ?_
    refine z_aload_n hX 0 dA_visits_13 rfl rfl ?_
    refine z_get hX 0 7 rfl rfl (zu inA) (by decide) (List.mem_cons_of_mem _ mw_214) rfl dA_visits_14 ?_
    refine z_Vr hX (kC_visitsOf l D cI cZ ct g tr bh ht sp cp Bh H St Cm hs gr has grp f t n m fr to i (by omega) wh hwh hn hm hok) mw_480 mw_481 mw_482 mw_8 mw_483 rfl rfl ⟨rfl, by decide, by decide, rfl⟩ (by decide) 24 rfl rfl rfl rfl (Nat.le_of_ble_eq_true rfl) dA_visits_17 (by decide) [24, 25, 26, 27, 28, 12, 13, 14, 1, 2, 3] rfl rfl (fun v wn hv => ?_)
    obtain ⟨rfl, rfl⟩ := hv
    refine ⟨rfl, ?_⟩
    refine z_goto hX 24 dA_visits_20 rfl ?_
    refine z_iret hX rfl rfl rfl rfl dA_visits_24 ?_
    first
      | exact ⟨rfl, zR_out (by omega) h5⟩
      | exact ⟨rfl, zR_in (by omega) hsd hi (rfl)⟩

set_option maxHeartbeats 400000 in
set_option maxRecDepth 100000 in
theorem kA_passed (l : Launch) (D : va_G) (cI cZ : ClassId) (ax g s lo tr lk ct : Nat) (sd : Bool) (wh : Option Nat) (sm : Int) (f t n m : Nat) (fr to : Nat → Nat) (ib fi sk lu : Nat) (Mt Op : Nat → Bool) (h : Nat) (bk : Nat → Bool) (fin st lq : Nat → Nat) (dp od : Nat) (dep ord : Nat → Nat) (hs gr : Nat) (has : Nat → Bool) (grp : Nat → Nat) (kt rw vl sv bs ko : Nat) (R V SV : Nat → Nat) (B : Nat → Int) (o2 : Nat → Nat) (wy : Nat) (hs2 gr2 : Nat) (has2 : Nat → Bool) (grp2 : Nat → Nat) (bh ht sp cp : Nat) (Bh : Nat → Nat → Bool) (H St Cm : Nat → Int) (x : Int32) (hn : 2 ≤ n ∧ n ≤ 12) (hm : m ≤ 24) (hok : ∀ e, e < m → fr e < n ∧ to e < n) (hwy : sd = true → wy ≤ 200) (hwy2 : wy < 2147483648) : zM l yA_passed wA_passed rA_passed D zCl (zTy cI cZ) zNW 0 0 [.ref ax, .int x] (wA ax g s lo tr lk ct (sd) (wh) (sm) ++ wG cI g f t n m fr to ++ wS cI cZ s g ib fi sk lu Mt Op h bk fin st lq ++ wO cI lo g s dp od dep ord ++ wT cI cZ tr g hs gr has grp ++ wK cI lk g s kt rw vl sv bs ko R V SV B o2 wy ++ wT cI cZ kt g hs2 gr2 has2 grp2 ++ wC cI ct g tr bh ht sp cp Bh (H) (St) (Cm)) (fun v wn => wn = wA ax g s lo tr lk ct (sd) (wh) (sm) ++ wG cI g f t n m fr to ++ wS cI cZ s g ib fi sk lu Mt Op h bk fin st lq ++ wO cI lo g s dp od dep ord ++ wT cI cZ tr g hs gr has grp ++ wK cI lk g s kt rw vl sv bs ko R V SV B o2 wy ++ wT cI cZ kt g hs2 gr2 has2 grp2 ++ wC cI ct g tr bh ht sp cp Bh (H) (St) (Cm) ∧ zR sd x wy (-1) (fun w => Int32.ofInt (Cm w)) v) := by
  refine z_met2 cA_passed 2 (some .int) rfl rfl (Nat.le_of_ble_eq_true rfl) rfl (fun Z hX => ?_)
  show Z 0 0 0 [some (.ref ax), some (.int x)] [] (wA ax g s lo tr lk ct (sd) (wh) (sm) ++ wG cI g f t n m fr to ++ wS cI cZ s g ib fi sk lu Mt Op h bk fin st lq ++ wO cI lo g s dp od dep ord ++ wT cI cZ tr g hs gr has grp ++ wK cI lk g s kt rw vl sv bs ko R V SV B o2 wy ++ wT cI cZ kt g hs2 gr2 has2 grp2 ++ wC cI ct g tr bh ht sp cp Bh (H) (St) (Cm))
  refine z_aload_n hX 0 dA_passed_0 rfl rfl ?_
  refine z_iload_n hX 1 dA_passed_1 rfl rfl ?_
  refine z_Vr hX (kA_knowsWay l D cI cZ ax g s lo tr lk ct sd wh sm kt rw vl sv bs ko R V SV B o2 wy x) mw_430 mw_432 mp_2_0 mw_1 mw_433 rfl rfl ⟨rfl, by decide, by decide, rfl⟩ (by decide) 0 rfl rfl rfl rfl (Nat.le_of_ble_eq_true rfl) dA_passed_2 (by decide) [0, 15, 16, 17, 18, 19, 20] rfl rfl (fun v wn hv => ?_)
  obtain ⟨rfl, rfl⟩ := hv
  refine ⟨rfl, ?_⟩
  refine z_if_eqB hX 20 dA_passed_5 rfl (fun h5 => ?_) (fun h5 => ?_)
  · refine z_iconst hX (-1) dA_passed_20 rfl ?_
    refine z_iret hX rfl rfl rfl rfl dA_passed_21 ?_
    first
      | exact ⟨rfl, zR_out (by omega) h5⟩
      | exact ⟨rfl, zR_in (by omega) hsd hi (rfl)⟩
  · obtain ⟨hsd, i, hi, rfl⟩ := zkn (by omega) h5
    have hwy9 := hwy hsd
    refine z_aload_n hX 0 dA_passed_8 rfl rfl ?_
    refine z_get hX 0 5 rfl rfl (zu inA) (by decide) (List.mem_cons_of_mem _ mw_212) rfl dA_passed_9 ?_
    refine z_get hX 24 5 rfl rfl (zu inC) (by decide) (List.mem_cons_of_mem _ mw_193) rfl dA_passed_12 ?_
    refine z_iload_n hX 1 dA_passed_15 rfl rfl ?_
    refine z_ldI hX 28 0 _ rfl rfl rfl (by omega) (by decide) dA_passed_16 ?_
    refine z_goto hX 21 dA_passed_17 rfl ?_
    refine z_iret hX rfl rfl rfl rfl dA_passed_21 ?_
    first
      | exact ⟨rfl, zR_out (by omega) h5⟩
      | exact ⟨rfl, zR_in (by omega) hsd hi (rfl)⟩

set_option maxHeartbeats 400000 in
set_option maxRecDepth 100000 in
theorem kA_stopped (l : Launch) (D : va_G) (cI cZ : ClassId) (ax g s lo tr lk ct : Nat) (sd : Bool) (wh : Option Nat) (sm : Int) (f t n m : Nat) (fr to : Nat → Nat) (ib fi sk lu : Nat) (Mt Op : Nat → Bool) (h : Nat) (bk : Nat → Bool) (fin st lq : Nat → Nat) (dp od : Nat) (dep ord : Nat → Nat) (hs gr : Nat) (has : Nat → Bool) (grp : Nat → Nat) (kt rw vl sv bs ko : Nat) (R V SV : Nat → Nat) (B : Nat → Int) (o2 : Nat → Nat) (wy : Nat) (hs2 gr2 : Nat) (has2 : Nat → Bool) (grp2 : Nat → Nat) (bh ht sp cp : Nat) (Bh : Nat → Nat → Bool) (H St Cm : Nat → Int) (x : Int32) (hn : 2 ≤ n ∧ n ≤ 12) (hm : m ≤ 24) (hok : ∀ e, e < m → fr e < n ∧ to e < n)  : zM l yA_stopped wA_stopped rA_stopped D zCl (zTy cI cZ) zNW 0 0 [.ref ax, .int x] (wA ax g s lo tr lk ct (sd) (wh) (sm) ++ wG cI g f t n m fr to ++ wS cI cZ s g ib fi sk lu Mt Op h bk fin st lq ++ wO cI lo g s dp od dep ord ++ wT cI cZ tr g hs gr has grp ++ wK cI lk g s kt rw vl sv bs ko R V SV B o2 wy ++ wT cI cZ kt g hs2 gr2 has2 grp2 ++ wC cI ct g tr bh ht sp cp Bh (H) (St) (Cm)) (fun v wn => wn = wA ax g s lo tr lk ct (sd) (wh) (sm) ++ wG cI g f t n m fr to ++ wS cI cZ s g ib fi sk lu Mt Op h bk fin st lq ++ wO cI lo g s dp od dep ord ++ wT cI cZ tr g hs gr has grp ++ wK cI lk g s kt rw vl sv bs ko R V SV B o2 wy ++ wT cI cZ kt g hs2 gr2 has2 grp2 ++ wC cI ct g tr bh ht sp cp Bh (H) (St) (Cm) ∧ zR sd x n (-1) (fun b => Int32.ofInt (St b)) v) := by
  refine z_met2 cA_stopped 2 (some .int) rfl rfl (Nat.le_of_ble_eq_true rfl) rfl (fun Z hX => ?_)
  show Z 0 0 0 [some (.ref ax), some (.int x)] [] (wA ax g s lo tr lk ct (sd) (wh) (sm) ++ wG cI g f t n m fr to ++ wS cI cZ s g ib fi sk lu Mt Op h bk fin st lq ++ wO cI lo g s dp od dep ord ++ wT cI cZ tr g hs gr has grp ++ wK cI lk g s kt rw vl sv bs ko R V SV B o2 wy ++ wT cI cZ kt g hs2 gr2 has2 grp2 ++ wC cI ct g tr bh ht sp cp Bh (H) (St) (Cm))
  refine z_aload_n hX 0 dA_stopped_0 rfl rfl ?_
  refine z_iload_n hX 1 dA_stopped_1 rfl rfl ?_
  refine z_Vr hX (kA_knowsBlock l D cI cZ ax g s lo tr lk ct sd wh sm f t n m fr to x) mw_381 mw_383 mp_1_12 mw_1 mw_384 rfl rfl ⟨rfl, by decide, by decide, rfl⟩ (by decide) 0 rfl rfl rfl rfl (Nat.le_of_ble_eq_true rfl) dA_stopped_2 (by decide) [0, 1, 2, 3] rfl rfl (fun v wn hv => ?_)
  obtain ⟨rfl, rfl⟩ := hv
  refine ⟨rfl, ?_⟩
  refine z_if_eqB hX 20 dA_stopped_5 rfl (fun h5 => ?_) (fun h5 => ?_)
  · refine z_iconst hX (-1) dA_stopped_20 rfl ?_
    refine z_iret hX rfl rfl rfl rfl dA_stopped_21 ?_
    first
      | exact ⟨rfl, zR_out (by omega) h5⟩
      | exact ⟨rfl, zR_in (by omega) hsd hi (rfl)⟩
  · obtain ⟨hsd, i, hi, rfl⟩ := zkn (by omega) h5
    refine z_aload_n hX 0 dA_stopped_8 rfl rfl ?_
    refine z_get hX 0 5 rfl rfl (zu inA) (by decide) (List.mem_cons_of_mem _ mw_212) rfl dA_stopped_9 ?_
    refine z_get hX 24 4 rfl rfl (zu inC) (by decide) (List.mem_cons_of_mem _ mw_191) rfl dA_stopped_12 ?_
    refine z_iload_n hX 1 dA_stopped_15 rfl rfl ?_
    refine z_ldI hX 27 0 _ rfl rfl rfl (by omega) (by decide) dA_stopped_16 ?_
    refine z_goto hX 21 dA_stopped_17 rfl ?_
    refine z_iret hX rfl rfl rfl rfl dA_stopped_21 ?_
    first
      | exact ⟨rfl, zR_out (by omega) h5⟩
      | exact ⟨rfl, zR_in (by omega) hsd hi (rfl)⟩

