/-! constructors -/
theorem zaS0 : aS (fun _ => (fun _ => false)) = fun _ => 0 := funext (fun _ => bS_none)
set_option maxHeartbeats 400000 in
set_option maxRecDepth 100000 in
theorem kG_init (l : Launch) (D : va_G) (cI cZ : ClassId) (g : Nat) (n : Nat) : zM l yG_init wG_init rG_init D zCl (zTy cI cZ) zNW 2 48 [.ref g, .int (nI n)] ([(g, .inr (0, [.int 0, .null, .null, .int 0]))]) (fun v wn => v = none ∧ ∃ f t, wn = wG cI g f t n 0 (fun _ => 0) (fun _ => 0)) := by
  refine z_met2 cG_init 2 none rfl rfl (Nat.le_of_ble_eq_true rfl) rfl (fun Z hX => ?_)
  show Z 0 0 0 [some (.ref g), some (.int (nI n))] [] ([(g, .inr (0, [.int 0, .null, .null, .int 0]))])
  refine z_aload_n hX 0 dG_init_0 rfl rfl ?_
  refine z_objInit hX (List.mem_cons_of_mem _ mw_30) (List.mem_cons_of_mem _ mw_17) (List.mem_cons_of_mem _ mw_18) (by decide) (by decide) dG_init_1 ?_
  refine z_aload_n hX 0 dG_init_4 rfl rfl ?_
  refine z_iload_n hX 1 dG_init_5 rfl rfl ?_
  refine z_put hX 0 0 rfl rfl (zu inG) tyG tyG_ok nmG (by decide) (List.mem_cons_of_mem _ mw_31) (Or.inr ⟨rfl, rfl, rfl⟩) rfl rfl rfl (Nat.le_of_ble_eq_true rfl) dG_init_6 ?_
  refine z_aload_n hX 0 dG_init_9 rfl rfl ?_
  refine z_bipush hX (nI 24) dG_init_10 (by decide) ?_
  refine z_newi hX 0 24 rfl (List.mem_cons_of_mem _ mw_66) rfl (by decide) (by decide) (by decide) dG_init_12 (fun q12 => ?_)
  refine z_put hX 0 1 rfl rfl (zu inG) tyG tyG_ok nmG (by decide) (List.mem_cons_of_mem _ mw_37) (Or.inr ⟨rfl, rfl, rfl⟩) rfl rfl rfl (Nat.le_of_ble_eq_true rfl) dG_init_14 ?_
  refine z_aload_n hX 0 dG_init_17 rfl rfl ?_
  refine z_bipush hX (nI 24) dG_init_18 (by decide) ?_
  refine z_newi hX 0 24 rfl (List.mem_cons_of_mem _ mw_66) rfl (by decide) (by decide) (by decide) dG_init_20 (fun q20 => ?_)
  refine z_put hX 0 2 rfl rfl (zu inG) tyG tyG_ok nmG (by decide) (List.mem_cons_of_mem _ mw_43) (Or.inr ⟨rfl, rfl, rfl⟩) rfl rfl rfl (Nat.le_of_ble_eq_true rfl) dG_init_22 ?_
  refine z_aload_n hX 0 dG_init_25 rfl rfl ?_
  refine z_iconst hX (nI 0) dG_init_26 rfl ?_
  refine z_put hX 0 3 rfl rfl (zu inG) tyG tyG_ok nmG (by decide) (List.mem_cons_of_mem _ mw_50) (Or.inl rfl) rfl rfl rfl (Nat.le_of_ble_eq_true rfl) dG_init_27 ?_
  refine z_vret hX rfl rfl rfl dG_init_30 ?_
  exact ⟨rfl, q12, q20, rfl⟩

set_option maxHeartbeats 400000 in
set_option maxRecDepth 100000 in
theorem kS_init (l : Launch) (D : va_G) (cI cZ : ClassId) (s : Nat) (g : Nat) : zM l yS_init wS_init rS_init D zCl (zTy cI cZ) zNW 4 60 [.ref s, .ref g] ([(s, .inr (1, [.null, .null, .null, .null, .null, .int 0, .int 0, .int 0]))]) (fun v wn => v = none ∧ ∃ ib fi sk lu, wn = wS cI cZ s g ib fi sk lu (fun _ => false) (fun _ => false) 0 (fun _ => false) (fun _ => 0) (fun _ => 0) (fun _ => 0)) := by
  refine z_met2 cS_init 2 none rfl rfl (Nat.le_of_ble_eq_true rfl) rfl (fun Z hX => ?_)
  show Z 0 0 0 [some (.ref s), some (.ref g)] [] ([(s, .inr (1, [.null, .null, .null, .null, .null, .int 0, .int 0, .int 0]))])
  refine z_aload_n hX 0 dS_init_0 rfl rfl ?_
  refine z_objInit hX (List.mem_cons_of_mem _ mw_72) (List.mem_cons_of_mem _ mw_17) (List.mem_cons_of_mem _ mw_18) (by decide) (by decide) dS_init_1 ?_
  refine z_aload_n hX 0 dS_init_4 rfl rfl ?_
  refine z_aload_n hX 1 dS_init_5 rfl rfl ?_
  refine z_put hX 0 0 rfl rfl (zu inS) tyS tyS_ok nmS (by decide) (List.mem_cons_of_mem _ mw_73) (Or.inr ⟨rfl, rfl, rfl⟩) rfl rfl rfl (Nat.le_of_ble_eq_true rfl) dS_init_6 ?_
  refine z_aload_n hX 0 dS_init_9 rfl rfl ?_
  refine z_bipush hX (nI 24) dS_init_10 (by decide) ?_
  refine z_newz hX 1 24 rfl (List.mem_cons_of_mem _ mw_102) rfl (by decide) (by decide) (by decide) dS_init_12 (fun q12 => ?_)
  refine z_put hX 0 1 rfl rfl (zu inS) tyS tyS_ok nmS (by decide) (List.mem_cons_of_mem _ mw_74) (Or.inr ⟨rfl, rfl, rfl⟩) rfl rfl rfl (Nat.le_of_ble_eq_true rfl) dS_init_14 ?_
  refine z_aload_n hX 0 dS_init_17 rfl rfl ?_
  refine z_bipush hX (nI 12) dS_init_18 (by decide) ?_
  refine z_newi hX 0 12 rfl (List.mem_cons_of_mem _ mw_66) rfl (by decide) (by decide) (by decide) dS_init_20 (fun q20 => ?_)
  refine z_put hX 0 2 rfl rfl (zu inS) tyS tyS_ok nmS (by decide) (List.mem_cons_of_mem _ mw_78) (Or.inr ⟨rfl, rfl, rfl⟩) rfl rfl rfl (Nat.le_of_ble_eq_true rfl) dS_init_22 ?_
  refine z_aload_n hX 0 dS_init_25 rfl rfl ?_
  refine z_bipush hX (nI 12) dS_init_26 (by decide) ?_
  refine z_newi hX 0 12 rfl (List.mem_cons_of_mem _ mw_66) rfl (by decide) (by decide) (by decide) dS_init_28 (fun q28 => ?_)
  refine z_put hX 0 3 rfl rfl (zu inS) tyS tyS_ok nmS (by decide) (List.mem_cons_of_mem _ mw_80) (Or.inr ⟨rfl, rfl, rfl⟩) rfl rfl rfl (Nat.le_of_ble_eq_true rfl) dS_init_30 ?_
  refine z_aload_n hX 0 dS_init_33 rfl rfl ?_
  refine z_bipush hX (nI 12) dS_init_34 (by decide) ?_
  refine z_newi hX 0 12 rfl (List.mem_cons_of_mem _ mw_66) rfl (by decide) (by decide) (by decide) dS_init_36 (fun q36 => ?_)
  refine z_put hX 0 4 rfl rfl (zu inS) tyS tyS_ok nmS (by decide) (List.mem_cons_of_mem _ mw_81) (Or.inr ⟨rfl, rfl, rfl⟩) rfl rfl rfl (Nat.le_of_ble_eq_true rfl) dS_init_38 ?_
  refine z_aload_n hX 0 dS_init_41 rfl rfl ?_
  refine z_iconst hX (nI 0) dS_init_42 rfl ?_
  refine z_put hX 0 5 rfl rfl (zu inS) tyS tyS_ok nmS (by decide) (List.mem_cons_of_mem _ mw_82) (Or.inl rfl) rfl rfl rfl (Nat.le_of_ble_eq_true rfl) dS_init_43 ?_
  refine z_aload_n hX 0 dS_init_46 rfl rfl ?_
  refine z_iconst hX (nI 0) dS_init_47 rfl ?_
  refine z_put hX 0 6 rfl rfl (zu inS) tyS tyS_ok nmS (by decide) (List.mem_cons_of_mem _ mw_83) (Or.inl rfl) rfl rfl rfl (Nat.le_of_ble_eq_true rfl) dS_init_48 ?_
  refine z_aload_n hX 0 dS_init_51 rfl rfl ?_
  refine z_iconst hX (nI 0) dS_init_52 rfl ?_
  refine z_put hX 0 7 rfl rfl (zu inS) tyS tyS_ok nmS (by decide) (List.mem_cons_of_mem _ mw_84) (Or.inl rfl) rfl rfl rfl (Nat.le_of_ble_eq_true rfl) dS_init_53 ?_
  refine z_vret hX rfl rfl rfl dS_init_56 ?_
  exact ⟨rfl, q12, q20, q28, q36, rfl⟩

set_option maxHeartbeats 400000 in
set_option maxRecDepth 100000 in
theorem kO_init (l : Launch) (D : va_G) (cI cZ : ClassId) (lo : Nat) (g s : Nat) : zM l yO_init wO_init rO_init D zCl (zTy cI cZ) zNW 2 36 [.ref lo, .ref g, .ref s] ([(lo, .inr (2, [.null, .null, .null, .null]))]) (fun v wn => v = none ∧ ∃ dp od, wn = wO cI lo g s dp od (fun _ => 0) (fun _ => 0)) := by
  refine z_met2 cO_init 3 none rfl rfl (Nat.le_of_ble_eq_true rfl) rfl (fun Z hX => ?_)
  show Z 0 0 0 [some (.ref lo), some (.ref g), some (.ref s)] [] ([(lo, .inr (2, [.null, .null, .null, .null]))])
  refine z_aload_n hX 0 dO_init_0 rfl rfl ?_
  refine z_objInit hX (List.mem_cons_of_mem _ mw_108) (List.mem_cons_of_mem _ mw_17) (List.mem_cons_of_mem _ mw_18) (by decide) (by decide) dO_init_1 ?_
  refine z_aload_n hX 0 dO_init_4 rfl rfl ?_
  refine z_aload_n hX 1 dO_init_5 rfl rfl ?_
  refine z_put hX 0 0 rfl rfl (zu inO) tyO tyO_ok nmO (by decide) (List.mem_cons_of_mem _ mw_109) (Or.inr ⟨rfl, rfl, rfl⟩) rfl rfl rfl (Nat.le_of_ble_eq_true rfl) dO_init_6 ?_
  refine z_aload_n hX 0 dO_init_9 rfl rfl ?_
  refine z_aload_n hX 2 dO_init_10 rfl rfl ?_
  refine z_put hX 0 1 rfl rfl (zu inO) tyO tyO_ok nmO (by decide) (List.mem_cons_of_mem _ mw_110) (Or.inr ⟨rfl, rfl, rfl⟩) rfl rfl rfl (Nat.le_of_ble_eq_true rfl) dO_init_11 ?_
  refine z_aload_n hX 0 dO_init_14 rfl rfl ?_
  refine z_bipush hX (nI 12) dO_init_15 (by decide) ?_
  refine z_newi hX 0 12 rfl (List.mem_cons_of_mem _ mw_66) rfl (by decide) (by decide) (by decide) dO_init_17 (fun q17 => ?_)
  refine z_put hX 0 2 rfl rfl (zu inO) tyO tyO_ok nmO (by decide) (List.mem_cons_of_mem _ mw_111) (Or.inr ⟨rfl, rfl, rfl⟩) rfl rfl rfl (Nat.le_of_ble_eq_true rfl) dO_init_19 ?_
  refine z_aload_n hX 0 dO_init_22 rfl rfl ?_
  refine z_bipush hX (nI 24) dO_init_23 (by decide) ?_
  refine z_newi hX 0 24 rfl (List.mem_cons_of_mem _ mw_66) rfl (by decide) (by decide) (by decide) dO_init_25 (fun q25 => ?_)
  refine z_put hX 0 3 rfl rfl (zu inO) tyO tyO_ok nmO (by decide) (List.mem_cons_of_mem _ mw_113) (Or.inr ⟨rfl, rfl, rfl⟩) rfl rfl rfl (Nat.le_of_ble_eq_true rfl) dO_init_27 ?_
  refine z_vret hX rfl rfl rfl dO_init_30 ?_
  exact ⟨rfl, q17, q25, rfl⟩

set_option maxHeartbeats 400000 in
set_option maxRecDepth 100000 in
theorem kT_init (l : Launch) (D : va_G) (cI cZ : ClassId) (tr : Nat) (g : Nat) : zM l yT_init wT_init rT_init D zCl (zTy cI cZ) zNW 2 36 [.ref tr, .ref g] ([(tr, .inr (3, [.null, .null, .null]))]) (fun v wn => v = none ∧ ∃ hs gr, wn = wT cI cZ tr g hs gr (fun _ => false) (fun _ => 0)) := by
  refine z_met2 cT_init 2 none rfl rfl (Nat.le_of_ble_eq_true rfl) rfl (fun Z hX => ?_)
  show Z 0 0 0 [some (.ref tr), some (.ref g)] [] ([(tr, .inr (3, [.null, .null, .null]))])
  refine z_aload_n hX 0 dT_init_0 rfl rfl ?_
  refine z_objInit hX (List.mem_cons_of_mem _ mw_129) (List.mem_cons_of_mem _ mw_17) (List.mem_cons_of_mem _ mw_18) (by decide) (by decide) dT_init_1 ?_
  refine z_aload_n hX 0 dT_init_4 rfl rfl ?_
  refine z_aload_n hX 1 dT_init_5 rfl rfl ?_
  refine z_put hX 0 0 rfl rfl (zu inT) tyT tyT_ok nmT (by decide) (List.mem_cons_of_mem _ mw_130) (Or.inr ⟨rfl, rfl, rfl⟩) rfl rfl rfl (Nat.le_of_ble_eq_true rfl) dT_init_6 ?_
  refine z_aload_n hX 0 dT_init_9 rfl rfl ?_
  refine z_bipush hX (nI 24) dT_init_10 (by decide) ?_
  refine z_newz hX 1 24 rfl (List.mem_cons_of_mem _ mw_102) rfl (by decide) (by decide) (by decide) dT_init_12 (fun q12 => ?_)
  refine z_put hX 0 1 rfl rfl (zu inT) tyT tyT_ok nmT (by decide) (List.mem_cons_of_mem _ mw_131) (Or.inr ⟨rfl, rfl, rfl⟩) rfl rfl rfl (Nat.le_of_ble_eq_true rfl) dT_init_14 ?_
  refine z_aload_n hX 0 dT_init_17 rfl rfl ?_
  refine z_bipush hX (nI 12) dT_init_18 (by decide) ?_
  refine z_newi hX 0 12 rfl (List.mem_cons_of_mem _ mw_66) rfl (by decide) (by decide) (by decide) dT_init_20 (fun q20 => ?_)
  refine z_put hX 0 2 rfl rfl (zu inT) tyT tyT_ok nmT (by decide) (List.mem_cons_of_mem _ mw_135) (Or.inr ⟨rfl, rfl, rfl⟩) rfl rfl rfl (Nat.le_of_ble_eq_true rfl) dT_init_22 ?_
  refine z_vret hX rfl rfl rfl dT_init_25 ?_
  exact ⟨rfl, q12, q20, rfl⟩

set_option maxHeartbeats 400000 in
set_option maxRecDepth 100000 in
theorem kC_init (l : Launch) (D : va_G) (cI cZ : ClassId) (ct : Nat) (g tr : Nat) : zM l yC_init wC_init rC_init D zCl (zTy cI cZ) zNW 4 260 [.ref ct, .ref g, .ref tr] ([(ct, .inr (5, [.null, .null, .null, .null, .null, .null]))]) (fun v wn => v = none ∧ ∃ bh ht sp cp, wn = wC cI ct g tr bh ht sp cp (fun _ => (fun _ => false)) (fun _ => 0) (fun _ => 0) (fun _ => 0)) := by
  refine z_met2 cC_init 3 none rfl rfl (Nat.le_of_ble_eq_true rfl) rfl (fun Z hX => ?_)
  show Z 0 0 0 [some (.ref ct), some (.ref g), some (.ref tr)] [] ([(ct, .inr (5, [.null, .null, .null, .null, .null, .null]))])
  refine z_aload_n hX 0 dC_init_0 rfl rfl ?_
  refine z_objInit hX (List.mem_cons_of_mem _ mw_185) (List.mem_cons_of_mem _ mw_17) (List.mem_cons_of_mem _ mw_18) (by decide) (by decide) dC_init_1 ?_
  refine z_aload_n hX 0 dC_init_4 rfl rfl ?_
  refine z_aload_n hX 1 dC_init_5 rfl rfl ?_
  refine z_put hX 0 0 rfl rfl (zu inC) tyC tyC_ok nmC (by decide) (List.mem_cons_of_mem _ mw_186) (Or.inr ⟨rfl, rfl, rfl⟩) rfl rfl rfl (Nat.le_of_ble_eq_true rfl) dC_init_6 ?_
  refine z_aload_n hX 0 dC_init_9 rfl rfl ?_
  refine z_aload_n hX 2 dC_init_10 rfl rfl ?_
  refine z_put hX 0 1 rfl rfl (zu inC) tyC tyC_ok nmC (by decide) (List.mem_cons_of_mem _ mw_187) (Or.inr ⟨rfl, rfl, rfl⟩) rfl rfl rfl (Nat.le_of_ble_eq_true rfl) dC_init_11 ?_
  refine z_aload_n hX 0 dC_init_14 rfl rfl ?_
  refine z_bipush hX (nI 24) dC_init_15 (by decide) ?_
  refine z_newi hX 0 24 rfl (List.mem_cons_of_mem _ mw_66) rfl (by decide) (by decide) (by decide) dC_init_17 (fun q17 => ?_)
  refine z_put hX 0 2 rfl rfl (zu inC) tyC tyC_ok nmC (by decide) (List.mem_cons_of_mem _ mw_188) (Or.inr ⟨rfl, rfl, rfl⟩) rfl rfl rfl (Nat.le_of_ble_eq_true rfl) dC_init_19 ?_
  refine z_aload_n hX 0 dC_init_22 rfl rfl ?_
  refine z_bipush hX (nI 24) dC_init_23 (by decide) ?_
  refine z_newi hX 0 24 rfl (List.mem_cons_of_mem _ mw_66) rfl (by decide) (by decide) (by decide) dC_init_25 (fun q25 => ?_)
  refine z_put hX 0 3 rfl rfl (zu inC) tyC tyC_ok nmC (by decide) (List.mem_cons_of_mem _ mw_189) (Or.inr ⟨rfl, rfl, rfl⟩) rfl rfl rfl (Nat.le_of_ble_eq_true rfl) dC_init_27 ?_
  refine z_aload_n hX 0 dC_init_30 rfl rfl ?_
  refine z_bipush hX (nI 12) dC_init_31 (by decide) ?_
  refine z_newi hX 0 12 rfl (List.mem_cons_of_mem _ mw_66) rfl (by decide) (by decide) (by decide) dC_init_33 (fun q33 => ?_)
  refine z_put hX 0 4 rfl rfl (zu inC) tyC tyC_ok nmC (by decide) (List.mem_cons_of_mem _ mw_190) (Or.inr ⟨rfl, rfl, rfl⟩) rfl rfl rfl (Nat.le_of_ble_eq_true rfl) dC_init_35 ?_
  refine z_aload_n hX 0 dC_init_38 rfl rfl ?_
  refine z_sipush hX (nI 200) dC_init_39 (by decide) ?_
  refine z_newi hX 0 200 rfl (List.mem_cons_of_mem _ mw_66) rfl (by decide) (by decide) (by decide) dC_init_42 (fun q42 => ?_)
  refine z_put hX 0 5 rfl rfl (zu inC) tyC tyC_ok nmC (by decide) (List.mem_cons_of_mem _ mw_192) (Or.inr ⟨rfl, rfl, rfl⟩) rfl rfl rfl (Nat.le_of_ble_eq_true rfl) dC_init_44 ?_
  refine z_vret hX rfl rfl rfl dC_init_47 ?_
  refine ⟨rfl, q17, q25, q33, q42, ?_⟩
  unfold wC
  rw [zaS0]
  rfl

set_option maxHeartbeats 400000 in
set_option maxRecDepth 100000 in
theorem kK_init (l : Launch) (D : va_G) (cI cZ : ClassId) (lk g s : Nat) : zM l yK_init wK_init rK_init D zCl (zTy cI cZ) zNW 8 135 [.ref lk, .ref g, .ref s] ([(lk, .inr (4, [.null, .null, .null, .null, .null, .null, .null, .null, .int 0]))]) (fun v wn => v = none ∧ ∃ kt hs2 gr2 rw vl sv bs ko, wn = [(lk, .inr (4, [.ref g, .ref s, .ref kt, .ref rw, .ref vl, .ref sv, .ref bs, .ref ko, .int (nI 0)]))] ++ wT cI cZ kt g hs2 gr2 (fun _ => false) (fun _ => 0) ++ [(rw, .inl (cI, 12, .inl (aN (fun _ => 0)))), (vl, .inl (cI, 24, .inl (aN (fun _ => 0)))), (sv, .inl (cI, 24, .inl (aN (fun _ => 0)))), (bs, .inl (cI, 12, .inl (aI (fun _ => 0)))), (ko, .inl (cI, 24, .inl (aN (fun _ => 0))))]) := by
  refine z_met2 cK_init 3 none rfl rfl (Nat.le_of_ble_eq_true rfl) rfl (fun Z hX => ?_)
  show Z 0 0 0 [some (.ref lk), some (.ref g), some (.ref s)] [] ([(lk, .inr (4, [.null, .null, .null, .null, .null, .null, .null, .null, .int 0]))])
  refine z_aload_n hX 0 dK_init_0 rfl rfl ?_
  refine z_objInit hX (List.mem_cons_of_mem _ mw_148) (List.mem_cons_of_mem _ mw_17) (List.mem_cons_of_mem _ mw_18) (by decide) (by decide) dK_init_1 ?_
  refine z_aload_n hX 0 dK_init_4 rfl rfl ?_
  refine z_aload_n hX 1 dK_init_5 rfl rfl ?_
  refine z_put hX 0 0 rfl rfl (zu inK) tyK tyK_ok nmK (by decide) (List.mem_cons_of_mem _ mw_151) (Or.inr ⟨rfl, rfl, rfl⟩) rfl rfl rfl (Nat.le_of_ble_eq_true rfl) dK_init_6 ?_
  refine z_aload_n hX 0 dK_init_9 rfl rfl ?_
  refine z_aload_n hX 2 dK_init_10 rfl rfl ?_
  refine z_put hX 0 1 rfl rfl (zu inK) tyK tyK_ok nmK (by decide) (List.mem_cons_of_mem _ mw_152) (Or.inr ⟨rfl, rfl, rfl⟩) rfl rfl rfl (Nat.le_of_ble_eq_true rfl) dK_init_11 ?_
  refine z_aload_n hX 0 dK_init_14 rfl rfl ?_
  refine z_new hX (ci := 3) (fs := [.null, .null, .null]) rfl (zu inT) tyT tyT_ok (List.mem_cons_of_mem _ mw_149) (List.mem_cons_of_mem _ mw_125) (List.mem_cons_of_mem _ mw_6) (by intro a ha; match a, ha with | 0, _ => rfl | 1, _ => rfl | 2, _ => rfl | (k + 3), h => exact absurd h (by omega)) (by decide) (by decide) dK_init_15 (fun q15 => ?_)
  refine z_dup hX dK_init_18 rfl ?_
  refine z_aload_n hX 1 dK_init_19 rfl rfl ?_
  refine z_callI hX (kT_init l D cI cZ q15 g) (zG mw_128) rfl rfl rfl (List.mem_cons_of_mem _ mw_6) (List.mem_cons_of_mem _ mw_150) (List.mem_cons_of_mem _ mw_127) rfl ⟨by decide, by decide, rfl⟩ (by decide) rfl rfl (Nat.le_of_ble_eq_true rfl) dK_init_20 (by decide) [1] rfl rfl (fun v wn hv => ?_)
  obtain ⟨hv1, hs2, gr2, hv2⟩ := hv
  have hv := And.intro hv1 hv2
  obtain ⟨rfl, rfl⟩ := hv
  refine ⟨[(lk, .inr (4, [.ref g, .ref s, .null, .null, .null, .null, .null, .null, .int 0]))] ++ wT cI cZ q15 g hs2 gr2 (fun _ => false) (fun _ => 0), [1, 2, 3], [0], 4, ⟨rfl, rfl, rfl, by decide, by decide⟩, ?_⟩
  refine z_put hX 0 2 rfl rfl (zu inK) tyK tyK_ok nmK (by decide) (List.mem_cons_of_mem _ mw_153) (Or.inr ⟨rfl, rfl, rfl⟩) rfl rfl rfl (Nat.le_of_ble_eq_true rfl) dK_init_23 ?_
  refine z_aload_n hX 0 dK_init_26 rfl rfl ?_
  refine z_bipush hX (nI 12) dK_init_27 (by decide) ?_
  refine z_newi hX 0 12 rfl (List.mem_cons_of_mem _ mw_66) rfl (by decide) (by decide) (by decide) dK_init_29 (fun q29 => ?_)
  refine z_put hX 0 3 rfl rfl (zu inK) tyK tyK_ok nmK (by decide) (List.mem_cons_of_mem _ mw_154) (Or.inr ⟨rfl, rfl, rfl⟩) rfl rfl rfl (Nat.le_of_ble_eq_true rfl) dK_init_31 ?_
  refine z_aload_n hX 0 dK_init_34 rfl rfl ?_
  refine z_bipush hX (nI 24) dK_init_35 (by decide) ?_
  refine z_newi hX 0 24 rfl (List.mem_cons_of_mem _ mw_66) rfl (by decide) (by decide) (by decide) dK_init_37 (fun q37 => ?_)
  refine z_put hX 0 4 rfl rfl (zu inK) tyK tyK_ok nmK (by decide) (List.mem_cons_of_mem _ mw_155) (Or.inr ⟨rfl, rfl, rfl⟩) rfl rfl rfl (Nat.le_of_ble_eq_true rfl) dK_init_39 ?_
  refine z_aload_n hX 0 dK_init_42 rfl rfl ?_
  refine z_bipush hX (nI 24) dK_init_43 (by decide) ?_
  refine z_newi hX 0 24 rfl (List.mem_cons_of_mem _ mw_66) rfl (by decide) (by decide) (by decide) dK_init_45 (fun q45 => ?_)
  refine z_put hX 0 5 rfl rfl (zu inK) tyK tyK_ok nmK (by decide) (List.mem_cons_of_mem _ mw_156) (Or.inr ⟨rfl, rfl, rfl⟩) rfl rfl rfl (Nat.le_of_ble_eq_true rfl) dK_init_47 ?_
  refine z_aload_n hX 0 dK_init_50 rfl rfl ?_
  refine z_bipush hX (nI 12) dK_init_51 (by decide) ?_
  refine z_newi hX 0 12 rfl (List.mem_cons_of_mem _ mw_66) rfl (by decide) (by decide) (by decide) dK_init_53 (fun q53 => ?_)
  refine z_put hX 0 6 rfl rfl (zu inK) tyK tyK_ok nmK (by decide) (List.mem_cons_of_mem _ mw_157) (Or.inr ⟨rfl, rfl, rfl⟩) rfl rfl rfl (Nat.le_of_ble_eq_true rfl) dK_init_55 ?_
  refine z_aload_n hX 0 dK_init_58 rfl rfl ?_
  refine z_bipush hX (nI 24) dK_init_59 (by decide) ?_
  refine z_newi hX 0 24 rfl (List.mem_cons_of_mem _ mw_66) rfl (by decide) (by decide) (by decide) dK_init_61 (fun q61 => ?_)
  refine z_put hX 0 7 rfl rfl (zu inK) tyK tyK_ok nmK (by decide) (List.mem_cons_of_mem _ mw_158) (Or.inr ⟨rfl, rfl, rfl⟩) rfl rfl rfl (Nat.le_of_ble_eq_true rfl) dK_init_63 ?_
  refine z_aload_n hX 0 dK_init_66 rfl rfl ?_
  refine z_iconst hX (nI 0) dK_init_67 rfl ?_
  refine z_put hX 0 8 rfl rfl (zu inK) tyK tyK_ok nmK (by decide) (List.mem_cons_of_mem _ mw_159) (Or.inl rfl) rfl rfl rfl (Nat.le_of_ble_eq_true rfl) dK_init_68 ?_
  refine z_vret hX rfl rfl rfl dK_init_71 ?_
  exact ⟨rfl, q15, hs2, gr2, q29, q37, q45, q53, q61, rfl⟩

theorem zclamp_mm (x : Int32) : (if nI 2 < (if x < nI 12 then x else nI 12) then (if x < nI 12 then x else nI 12) else nI 2) = nI (zclamp x) := by
  by_cases h1 : x < nI 2
  · have h2 : x < nI 12 := Int32.lt_trans h1 (by decide)
    rw [if_pos h2, if_neg (fun hc => Int32.lt_irrefl (Int32.lt_trans hc h1)), show zclamp x = 2 from if_pos h1]
  · by_cases h2 : nI 12 < x
    · rw [if_neg (fun hc => Int32.lt_irrefl (Int32.lt_trans hc h2)), if_pos (by decide), show zclamp x = 12 from (if_neg h1).trans (if_pos h2)]
    · obtain ⟨g1, g2, g3⟩ := zclamp_eq h1 h2
      obtain ⟨j, hj⟩ : ∃ j, zclamp x = j := ⟨_, rfl⟩
      rw [hj] at g1 g2 g3 ⊢
      subst g1
      by_cases h3 : j = 12
      · subst h3
        rw [if_neg (show ¬ nI 12 < nI 12 by decide), if_pos (show nI 2 < nI 12 by decide)]
      · rw [if_pos ((nI_ltI (by omega) (by omega)).mpr (by omega))]
        by_cases h4 : j = 2
        · subst h4
          rw [if_neg (by decide)]
        · rw [if_pos ((nI_ltI (by omega) (by omega)).mpr (by omega))]
set_option maxHeartbeats 400000 in
set_option maxRecDepth 100000 in
theorem kA_init (l : Launch) (D : va_G) (cI cZ : ClassId) (ax : Nat) (x : Int32) : zM l yA_init wA_init rA_init D zCl (zTy cI cZ) zNW 28 609 [.ref ax, .int x] ([(ax, .inr (6, [.null, .null, .null, .null, .null, .null, .int 0, .int 0, .int 0]))]) (fun v wn => v = none ∧ ∃ g s lo tr lk ct f t ib fi sk lu dp od hs gr kt rw vl sv bs ko hs2 gr2 bh ht sp cp, wn = wA ax g s lo tr lk ct false none 0 ++ wG cI g f t (zclamp x) 0 (fun _ => 0) (fun _ => 0) ++ wS cI cZ s g ib fi sk lu (fun _ => false) (fun _ => false) 0 (fun _ => false) (fun _ => 0) (fun _ => 0) (fun _ => 0) ++ wO cI lo g s dp od (fun _ => 0) (fun _ => 0) ++ wT cI cZ tr g hs gr (fun _ => false) (fun _ => 0) ++ wK cI lk g s kt rw vl sv bs ko (fun _ => 0) (fun _ => 0) (fun _ => 0) (fun _ => 0) (fun _ => 0) 0 ++ wT cI cZ kt g hs2 gr2 (fun _ => false) (fun _ => 0) ++ wC cI ct g tr bh ht sp cp (fun _ => (fun _ => false)) (fun _ => 0) (fun _ => 0) (fun _ => 0)) := by
  refine z_met2 cA_init 2 none rfl rfl (Nat.le_of_ble_eq_true rfl) rfl (fun Z hX => ?_)
  show Z 0 0 0 [some (.ref ax), some (.int x)] [] ([(ax, .inr (6, [.null, .null, .null, .null, .null, .null, .int 0, .int 0, .int 0]))])
  refine z_aload_n hX 0 dA_init_0 rfl rfl ?_
  refine z_objInit hX (List.mem_cons_of_mem _ mw_16) (List.mem_cons_of_mem _ mw_17) (List.mem_cons_of_mem _ mw_18) (by decide) (by decide) dA_init_1 ?_
  refine z_aload_n hX 0 dA_init_4 rfl rfl ?_
  refine z_new hX (ci := 0) (fs := [.int 0, .null, .null, .int 0]) rfl (zu inG) tyG tyG_ok (List.mem_cons_of_mem _ mw_19) (List.mem_cons_of_mem _ mw_20) (List.mem_cons_of_mem _ mw_2) (by intro a ha; match a, ha with | 0, _ => rfl | 1, _ => rfl | 2, _ => rfl | 3, _ => rfl | (k + 4), h => exact absurd h (by omega)) (by decide) (by decide) dA_init_5 (fun q5 => ?_)
  refine z_dup hX dA_init_8 rfl ?_
  refine z_iconst hX (nI 2) dA_init_9 rfl ?_
  refine z_bipush hX (nI 12) dA_init_10 (by decide) ?_
  refine z_iload_n hX 1 dA_init_12 rfl rfl ?_
  refine z_mmin hX (List.mem_cons_of_mem _ mw_21) (List.mem_cons_of_mem _ mw_22) (List.mem_cons_of_mem _ mw_3) (List.mem_cons_of_mem _ mw_23) (by decide) (Nat.le_of_ble_eq_true rfl) (by decide) (by decide) dA_init_13 ?_
  refine z_mmax hX (List.mem_cons_of_mem _ mw_24) (List.mem_cons_of_mem _ mw_25) (List.mem_cons_of_mem _ mw_3) (List.mem_cons_of_mem _ mw_26) (by decide) (Nat.le_of_ble_eq_true rfl) (by decide) (by decide) dA_init_16 ?_
  rw [zclamp_mm]
  refine z_callI hX (kG_init l D cI cZ q5 (zclamp x)) (zG mw_29) rfl rfl rfl (List.mem_cons_of_mem _ mw_2) (List.mem_cons_of_mem _ mw_27) (List.mem_cons_of_mem _ mw_28) rfl ⟨by decide, by decide, rfl⟩ (by decide) rfl rfl (Nat.le_of_ble_eq_true rfl) dA_init_19 (by decide) [1] rfl rfl (fun v wn hv => ?_)
  obtain ⟨hv1, f, t, hv2⟩ := hv
  have hv := And.intro hv1 hv2
  obtain ⟨rfl, rfl⟩ := hv
  refine ⟨[(ax, .inr (6, [.null, .null, .null, .null, .null, .null, .int 0, .int 0, .int 0]))] ++ wG cI q5 f t (zclamp x) 0 (fun _ => 0) (fun _ => 0), [1, 2, 3], [0], 4, ⟨rfl, rfl, rfl, by decide, by decide⟩, ?_⟩
  refine z_put hX 0 0 rfl rfl (zu inA) tyA tyA_ok nmA (by decide) (List.mem_cons_of_mem _ mw_207) (Or.inr ⟨rfl, rfl, rfl⟩) rfl rfl rfl (Nat.le_of_ble_eq_true rfl) dA_init_22 ?_
  refine z_aload_n hX 0 dA_init_25 rfl rfl ?_
  refine z_new hX (ci := 1) (fs := [.null, .null, .null, .null, .null, .int 0, .int 0, .int 0]) rfl (zu inS) tyS tyS_ok (List.mem_cons_of_mem _ mw_67) (List.mem_cons_of_mem _ mw_68) (List.mem_cons_of_mem _ mw_4) (by intro a ha; match a, ha with | 0, _ => rfl | 1, _ => rfl | 2, _ => rfl | 3, _ => rfl | 4, _ => rfl | 5, _ => rfl | 6, _ => rfl | 7, _ => rfl | (k + 8), h => exact absurd h (by omega)) (by decide) (by decide) dA_init_26 (fun q26 => ?_)
  refine z_dup hX dA_init_29 rfl ?_
  refine z_aload_n hX 0 dA_init_30 rfl rfl ?_
  refine z_get hX 0 0 rfl rfl (zu inA) (by decide) (List.mem_cons_of_mem _ mw_207) rfl dA_init_31 ?_
  refine z_callI hX (kS_init l D cI cZ q26 q5) (zG mw_71) rfl rfl rfl (List.mem_cons_of_mem _ mw_4) (List.mem_cons_of_mem _ mw_69) (List.mem_cons_of_mem _ mw_70) rfl ⟨by decide, by decide, rfl⟩ (by decide) rfl rfl (Nat.le_of_ble_eq_true rfl) dA_init_34 (by decide) [4] rfl rfl (fun v wn hv => ?_)
  obtain ⟨hv1, ib, fi, sk, lu, hv2⟩ := hv
  have hv := And.intro hv1 hv2
  obtain ⟨rfl, rfl⟩ := hv
  refine ⟨[(ax, .inr (6, [.ref q5, .null, .null, .null, .null, .null, .int 0, .int 0, .int 0]))] ++ wG cI q5 f t (zclamp x) 0 (fun _ => 0) (fun _ => 0) ++ wS cI cZ q26 q5 ib fi sk lu (fun _ => false) (fun _ => false) 0 (fun _ => false) (fun _ => 0) (fun _ => 0) (fun _ => 0), [4, 5, 6, 7, 8], [0, 1, 2, 3], 9, ⟨rfl, rfl, rfl, by decide, by decide⟩, ?_⟩
  refine z_put hX 0 1 rfl rfl (zu inA) tyA tyA_ok nmA (by decide) (List.mem_cons_of_mem _ mw_208) (Or.inr ⟨rfl, rfl, rfl⟩) rfl rfl rfl (Nat.le_of_ble_eq_true rfl) dA_init_37 ?_
  refine z_aload_n hX 0 dA_init_40 rfl rfl ?_
  refine z_new hX (ci := 2) (fs := [.null, .null, .null, .null]) rfl (zu inO) tyO tyO_ok (List.mem_cons_of_mem _ mw_103) (List.mem_cons_of_mem _ mw_104) (List.mem_cons_of_mem _ mw_5) (by intro a ha; match a, ha with | 0, _ => rfl | 1, _ => rfl | 2, _ => rfl | 3, _ => rfl | (k + 4), h => exact absurd h (by omega)) (by decide) (by decide) dA_init_41 (fun q41 => ?_)
  refine z_dup hX dA_init_44 rfl ?_
  refine z_aload_n hX 0 dA_init_45 rfl rfl ?_
  refine z_get hX 0 0 rfl rfl (zu inA) (by decide) (List.mem_cons_of_mem _ mw_207) rfl dA_init_46 ?_
  refine z_aload_n hX 0 dA_init_49 rfl rfl ?_
  refine z_get hX 0 1 rfl rfl (zu inA) (by decide) (List.mem_cons_of_mem _ mw_208) rfl dA_init_50 ?_
  refine z_callI hX (kO_init l D cI cZ q41 q5 q26) (zG mw_107) rfl rfl rfl (List.mem_cons_of_mem _ mw_5) (List.mem_cons_of_mem _ mw_105) (List.mem_cons_of_mem _ mw_106) rfl ⟨by decide, by decide, rfl⟩ (by decide) rfl rfl (Nat.le_of_ble_eq_true rfl) dA_init_53 (by decide) [9] rfl rfl (fun v wn hv => ?_)
  obtain ⟨hv1, dp, od, hv2⟩ := hv
  have hv := And.intro hv1 hv2
  obtain ⟨rfl, rfl⟩ := hv
  refine ⟨[(ax, .inr (6, [.ref q5, .ref q26, .null, .null, .null, .null, .int 0, .int 0, .int 0]))] ++ wG cI q5 f t (zclamp x) 0 (fun _ => 0) (fun _ => 0) ++ wS cI cZ q26 q5 ib fi sk lu (fun _ => false) (fun _ => false) 0 (fun _ => false) (fun _ => 0) (fun _ => 0) (fun _ => 0) ++ wO cI q41 q5 q26 dp od (fun _ => 0) (fun _ => 0), [9, 10, 11], [0, 1, 2, 3, 4, 5, 6, 7, 8], 12, ⟨rfl, rfl, rfl, by decide, by decide⟩, ?_⟩
  refine z_put hX 0 2 rfl rfl (zu inA) tyA tyA_ok nmA (by decide) (List.mem_cons_of_mem _ mw_209) (Or.inr ⟨rfl, rfl, rfl⟩) rfl rfl rfl (Nat.le_of_ble_eq_true rfl) dA_init_56 ?_
  refine z_aload_n hX 0 dA_init_59 rfl rfl ?_
  refine z_new hX (ci := 3) (fs := [.null, .null, .null]) rfl (zu inT) tyT tyT_ok (List.mem_cons_of_mem _ mw_124) (List.mem_cons_of_mem _ mw_125) (List.mem_cons_of_mem _ mw_6) (by intro a ha; match a, ha with | 0, _ => rfl | 1, _ => rfl | 2, _ => rfl | (k + 3), h => exact absurd h (by omega)) (by decide) (by decide) dA_init_60 (fun q60 => ?_)
  refine z_dup hX dA_init_63 rfl ?_
  refine z_aload_n hX 0 dA_init_64 rfl rfl ?_
  refine z_get hX 0 0 rfl rfl (zu inA) (by decide) (List.mem_cons_of_mem _ mw_207) rfl dA_init_65 ?_
  refine z_callI hX (kT_init l D cI cZ q60 q5) (zG mw_128) rfl rfl rfl (List.mem_cons_of_mem _ mw_6) (List.mem_cons_of_mem _ mw_126) (List.mem_cons_of_mem _ mw_127) rfl ⟨by decide, by decide, rfl⟩ (by decide) rfl rfl (Nat.le_of_ble_eq_true rfl) dA_init_68 (by decide) [12] rfl rfl (fun v wn hv => ?_)
  obtain ⟨hv1, hs, gr, hv2⟩ := hv
  have hv := And.intro hv1 hv2
  obtain ⟨rfl, rfl⟩ := hv
  refine ⟨[(ax, .inr (6, [.ref q5, .ref q26, .ref q41, .null, .null, .null, .int 0, .int 0, .int 0]))] ++ wG cI q5 f t (zclamp x) 0 (fun _ => 0) (fun _ => 0) ++ wS cI cZ q26 q5 ib fi sk lu (fun _ => false) (fun _ => false) 0 (fun _ => false) (fun _ => 0) (fun _ => 0) (fun _ => 0) ++ wO cI q41 q5 q26 dp od (fun _ => 0) (fun _ => 0) ++ wT cI cZ q60 q5 hs gr (fun _ => false) (fun _ => 0), [12, 13, 14], [0, 1, 2, 3, 4, 5, 6, 7, 8, 9, 10, 11], 15, ⟨rfl, rfl, rfl, by decide, by decide⟩, ?_⟩
  refine z_put hX 0 3 rfl rfl (zu inA) tyA tyA_ok nmA (by decide) (List.mem_cons_of_mem _ mw_210) (Or.inr ⟨rfl, rfl, rfl⟩) rfl rfl rfl (Nat.le_of_ble_eq_true rfl) dA_init_71 ?_
  refine z_aload_n hX 0 dA_init_74 rfl rfl ?_
  refine z_new hX (ci := 4) (fs := [.null, .null, .null, .null, .null, .null, .null, .null, .int 0]) rfl (zu inK) tyK tyK_ok (List.mem_cons_of_mem _ mw_143) (List.mem_cons_of_mem _ mw_144) (List.mem_cons_of_mem _ mw_7) (by intro a ha; match a, ha with | 0, _ => rfl | 1, _ => rfl | 2, _ => rfl | 3, _ => rfl | 4, _ => rfl | 5, _ => rfl | 6, _ => rfl | 7, _ => rfl | 8, _ => rfl | (k + 9), h => exact absurd h (by omega)) (by decide) (by decide) dA_init_75 (fun q75 => ?_)
  refine z_dup hX dA_init_78 rfl ?_
  refine z_aload_n hX 0 dA_init_79 rfl rfl ?_
  refine z_get hX 0 0 rfl rfl (zu inA) (by decide) (List.mem_cons_of_mem _ mw_207) rfl dA_init_80 ?_
  refine z_aload_n hX 0 dA_init_83 rfl rfl ?_
  refine z_get hX 0 1 rfl rfl (zu inA) (by decide) (List.mem_cons_of_mem _ mw_208) rfl dA_init_84 ?_
  refine z_callI hX (kK_init l D cI cZ q75 q5 q26) (zG mw_147) rfl rfl rfl (List.mem_cons_of_mem _ mw_7) (List.mem_cons_of_mem _ mw_145) (List.mem_cons_of_mem _ mw_146) rfl ⟨by decide, by decide, rfl⟩ (by decide) rfl rfl (Nat.le_of_ble_eq_true rfl) dA_init_87 (by decide) [15] rfl rfl (fun v wn hv => ?_)
  obtain ⟨hv1, kt, hs2, gr2, rw, vl, sv, bs, ko, hv2⟩ := hv
  have hv := And.intro hv1 hv2
  obtain ⟨rfl, rfl⟩ := hv
  refine ⟨[(ax, .inr (6, [.ref q5, .ref q26, .ref q41, .ref q60, .null, .null, .int 0, .int 0, .int 0]))] ++ wG cI q5 f t (zclamp x) 0 (fun _ => 0) (fun _ => 0) ++ wS cI cZ q26 q5 ib fi sk lu (fun _ => false) (fun _ => false) 0 (fun _ => false) (fun _ => 0) (fun _ => 0) (fun _ => 0) ++ wO cI q41 q5 q26 dp od (fun _ => 0) (fun _ => 0) ++ wT cI cZ q60 q5 hs gr (fun _ => false) (fun _ => 0) ++ wK cI q75 q5 q26 kt rw vl sv bs ko (fun _ => 0) (fun _ => 0) (fun _ => 0) (fun _ => 0) (fun _ => 0) 0 ++ wT cI cZ kt q5 hs2 gr2 (fun _ => false) (fun _ => 0), [15, 21, 22, 23, 16, 17, 18, 19, 20], [0, 1, 2, 3, 4, 5, 6, 7, 8, 9, 10, 11, 12, 13, 14], 24, ⟨rfl, rfl, rfl, by decide, by decide⟩, ?_⟩
  refine z_put hX 0 4 rfl rfl (zu inA) tyA tyA_ok nmA (by decide) (List.mem_cons_of_mem _ mw_211) (Or.inr ⟨rfl, rfl, rfl⟩) rfl rfl rfl (Nat.le_of_ble_eq_true rfl) dA_init_90 ?_
  refine z_aload_n hX 0 dA_init_93 rfl rfl ?_
  refine z_new hX (ci := 5) (fs := [.null, .null, .null, .null, .null, .null]) rfl (zu inC) tyC tyC_ok (List.mem_cons_of_mem _ mw_180) (List.mem_cons_of_mem _ mw_181) (List.mem_cons_of_mem _ mw_8) (by intro a ha; match a, ha with | 0, _ => rfl | 1, _ => rfl | 2, _ => rfl | 3, _ => rfl | 4, _ => rfl | 5, _ => rfl | (k + 6), h => exact absurd h (by omega)) (by decide) (by decide) dA_init_94 (fun q94 => ?_)
  refine z_dup hX dA_init_97 rfl ?_
  refine z_aload_n hX 0 dA_init_98 rfl rfl ?_
  refine z_get hX 0 0 rfl rfl (zu inA) (by decide) (List.mem_cons_of_mem _ mw_207) rfl dA_init_99 ?_
  refine z_aload_n hX 0 dA_init_102 rfl rfl ?_
  refine z_get hX 0 3 rfl rfl (zu inA) (by decide) (List.mem_cons_of_mem _ mw_210) rfl dA_init_103 ?_
  refine z_callI hX (kC_init l D cI cZ q94 q5 q60) (zG mw_184) rfl rfl rfl (List.mem_cons_of_mem _ mw_8) (List.mem_cons_of_mem _ mw_182) (List.mem_cons_of_mem _ mw_183) rfl ⟨by decide, by decide, rfl⟩ (by decide) rfl rfl (Nat.le_of_ble_eq_true rfl) dA_init_106 (by decide) [24] rfl rfl (fun v wn hv => ?_)
  obtain ⟨hv1, bh, ht, sp, cp, hv2⟩ := hv
  have hv := And.intro hv1 hv2
  obtain ⟨rfl, rfl⟩ := hv
  refine ⟨[(ax, .inr (6, [.ref q5, .ref q26, .ref q41, .ref q60, .ref q75, .null, .int 0, .int 0, .int 0]))] ++ wG cI q5 f t (zclamp x) 0 (fun _ => 0) (fun _ => 0) ++ wS cI cZ q26 q5 ib fi sk lu (fun _ => false) (fun _ => false) 0 (fun _ => false) (fun _ => 0) (fun _ => 0) (fun _ => 0) ++ wO cI q41 q5 q26 dp od (fun _ => 0) (fun _ => 0) ++ wT cI cZ q60 q5 hs gr (fun _ => false) (fun _ => 0) ++ wK cI q75 q5 q26 kt rw vl sv bs ko (fun _ => 0) (fun _ => 0) (fun _ => 0) (fun _ => 0) (fun _ => 0) 0 ++ wT cI cZ kt q5 hs2 gr2 (fun _ => false) (fun _ => 0) ++ wC cI q94 q5 q60 bh ht sp cp (fun _ => (fun _ => false)) (fun _ => 0) (fun _ => 0) (fun _ => 0), [24, 25, 26, 27, 28], [0, 1, 2, 3, 4, 5, 6, 7, 8, 9, 10, 11, 12, 13, 14, 15, 16, 17, 18, 19, 20, 21, 22, 23], 29, ⟨rfl, rfl, rfl, by decide, by decide⟩, ?_⟩
  refine z_put hX 0 5 rfl rfl (zu inA) tyA tyA_ok nmA (by decide) (List.mem_cons_of_mem _ mw_212) (Or.inr ⟨rfl, rfl, rfl⟩) rfl rfl rfl (Nat.le_of_ble_eq_true rfl) dA_init_109 ?_
  refine z_aload_n hX 0 dA_init_112 rfl rfl ?_
  refine z_iconst hX (bN false) dA_init_113 rfl ?_
  refine z_put hX 0 6 rfl rfl (zu inA) tyA tyA_ok nmA (by decide) (List.mem_cons_of_mem _ mw_213) (Or.inl rfl) rfl (bN_n _) (bN_f _) (Nat.le_of_ble_eq_true rfl) dA_init_114 ?_
  refine z_aload_n hX 0 dA_init_117 rfl rfl ?_
  refine z_iconst hX (-1) dA_init_118 rfl ?_
  refine z_put hX 0 7 rfl rfl (zu inA) tyA tyA_ok nmA (by decide) (List.mem_cons_of_mem _ mw_214) (Or.inl rfl) rfl rfl rfl (Nat.le_of_ble_eq_true rfl) dA_init_119 ?_
  refine z_aload_n hX 0 dA_init_122 rfl rfl ?_
  refine z_iconst hX (nI 0) dA_init_123 rfl ?_
  refine z_put hX 0 8 rfl rfl (zu inA) tyA tyA_ok nmA (by decide) (List.mem_cons_of_mem _ mw_215) (Or.inl rfl) rfl rfl rfl (Nat.le_of_ble_eq_true rfl) dA_init_124 ?_
  refine z_vret hX rfl rfl rfl dA_init_127 ?_
  exact ⟨rfl, q5, q26, q41, q60, q75, q94, f, t, ib, fi, sk, lu, dp, od, hs, gr, kt, rw, vl, sv, bs, ko, hs2, gr2, bh, ht, sp, cp, rfl⟩

