/-! along before sealing, seal once sealed -/
set_option maxHeartbeats 400000 in
set_option maxRecDepth 100000 in
theorem kA_along0 (l : Launch) (D : va_G) (cI cZ : ClassId) (ax g s lo tr lk ct : Nat) (sd : Bool) (wh : Option Nat) (sm : Int) (kt rw vl sv bs ko : Nat) (R V SV : Nat → Nat) (B : Nat → Int) (o2 : Nat → Nat) (wy : Nat) (x k : Int32) (hsd : sd = false) : zM l yA_along wA_along rA_along D zCl (zTy cI cZ) zNW 0 0 [.ref ax, .int x, .int k] (wA ax g s lo tr lk ct (sd) (wh) (sm) ++ wK cI lk g s kt rw vl sv bs ko R V SV B o2 wy) (fun v wn => v = some (.int (-2147483648)) ∧ wn = wA ax g s lo tr lk ct (sd) (wh) (sm) ++ wK cI lk g s kt rw vl sv bs ko R V SV B o2 wy) := by
  refine z_met2 cA_along 4 (some .int) rfl rfl (Nat.le_of_ble_eq_true rfl) rfl (fun Z hX => ?_)
  show Z 0 0 0 [some (.ref ax), some (.int x), some (.int k), none] [] (wA ax g s lo tr lk ct (sd) (wh) (sm) ++ wK cI lk g s kt rw vl sv bs ko R V SV B o2 wy)
  refine z_aload_n hX 0 dA_along_0 rfl rfl ?_
  refine z_iload_n hX 1 dA_along_1 rfl rfl ?_
  refine z_Vr hX (kA_knowsWay l D cI cZ ax g s lo tr lk ct sd wh sm kt rw vl sv bs ko R V SV B o2 wy x) mw_430 mw_432 mp_2_0 mw_1 mw_433 rfl rfl ⟨rfl, by decide, by decide, rfl⟩ (by decide) 0 rfl rfl rfl rfl (Nat.le_of_ble_eq_true rfl) dA_along_2 (by decide) [0, 1, 2, 3, 4, 5, 6] rfl rfl (fun v wn hv => ?_)
  obtain ⟨rfl, rfl⟩ := hv
  refine ⟨rfl, ?_⟩
  refine z_if_eqB hX 12 dA_along_5 rfl (fun h5 => ?_) (fun h5 => ?_)
  · refine z_ldc hX (-2147483648) (List.mem_cons_of_mem _ mw_397) dA_along_12 ?_
    refine z_iret hX rfl rfl rfl rfl dA_along_14 ?_
    exact ⟨rfl, rfl⟩
  · rw [hsd] at h5
    cases h5

set_option maxHeartbeats 400000 in
set_option maxRecDepth 100000 in
theorem kA_seal0 (l : Launch) (D : va_G) (cI cZ : ClassId) (ax g s lo tr lk ct : Nat) (sd : Bool) (wh : Option Nat) (sm : Int) (hsd : sd = true) : zM l yA_seal wA_seal rA_seal D zCl (zTy cI cZ) zNW 0 0 [.ref ax] (wA ax g s lo tr lk ct (sd) (wh) (sm)) (fun v wn => v = some (.int (-1)) ∧ wn = wA ax g s lo tr lk ct (sd) (wh) (sm)) := by
  refine z_met2 cA_seal 1 (some .int) rfl rfl (Nat.le_of_ble_eq_true rfl) rfl (fun Z hX => ?_)
  show Z 0 0 0 [some (.ref ax)] [] (wA ax g s lo tr lk ct (sd) (wh) (sm))
  refine z_aload_n hX 0 dA_seal_0 rfl rfl ?_
  refine z_get hX 0 6 rfl rfl (zu inA) (by decide) (List.mem_cons_of_mem _ mw_213) rfl dA_seal_1 ?_
  refine z_if_eqB hX 9 dA_seal_4 rfl (fun h4 => ?_) (fun h4 => ?_)
  · exact zbf hsd h4
  · refine z_iconst hX (-1) dA_seal_7 rfl ?_
    refine z_iret hX rfl rfl rfl rfl dA_seal_8 ?_
    exact ⟨rfl, rfl⟩

set_option maxHeartbeats 400000 in
set_option maxRecDepth 100000 in
theorem kM_seal0 (l : Launch) (D : va_G) (cI cZ : ClassId) (ax : Nat) (r : Nat → Nat) (n m : Nat) (sl : Bool) (pr wy fo : Nat) (ru : Bool) (pl pk : Nat) (rs es : Int) (hsl : sl = true) : zM l yM_seal wM_seal rM_seal D zCl (zTy cI cZ) zNW 0 0 [.ref ax] ([mO ax r (n) (m) (sl) (pr) (wy) (fo) (ru) (pl) (pk) (rs) (es)]) (fun v wn => v = some (.int (-1)) ∧ wn = [mO ax r (n) (m) (sl) (pr) (wy) (fo) (ru) (pl) (pk) (rs) (es)]) := by
  refine z_met2 cM_seal 1 (some .int) rfl rfl (Nat.le_of_ble_eq_true rfl) rfl (fun Z hX => ?_)
  show Z 0 0 0 [some (.ref ax)] [] ([mO ax r (n) (m) (sl) (pr) (wy) (fo) (ru) (pl) (pk) (rs) (es)])
  refine z_aload_n hX 0 dM_seal_0 rfl rfl ?_
  refine z_get hX 0 4 rfl rfl (zu inM) (by decide) (List.mem_cons_of_mem _ mw_556) rfl dM_seal_1 ?_
  refine z_if_eqB hX 9 dM_seal_4 rfl (fun h4 => ?_) (fun h4 => ?_)
  · exact zbf hsl h4
  · refine z_iconst hX (-1) dM_seal_7 rfl ?_
    refine z_iret hX rfl rfl rfl rfl dM_seal_8 ?_
    exact ⟨rfl, rfl⟩

