/-! the reference: small methods -/
abbrev mO (ax : Nat) (r : Nat → Nat) (n m : Nat) (sl : Bool) (pr wy fo : Nat) (ru : Bool) (pl pk : Nat) (rs es : Int) : Nat × va_E := (ax, .inr (7, [.int (nI n), .int (nI m), .ref (r 2), .ref (r 3), .int (bN sl), .ref (r 5), .ref (r 6), .ref (r 7), .ref (r 8), .ref (r 9), .ref (r 10), .ref (r 11), .ref (r 12), .ref (r 13), .ref (r 14), .ref (r 15), .ref (r 16), .ref (r 17), .ref (r 18), .ref (r 19), .int (nI pr), .ref (r 21), .ref (r 22), .int (nI wy), .ref (r 24), .ref (r 25), .int (nI fo), .ref (r 27), .int (bN ru), .int (nI pl), .int (nI pk), .ref (r 31), .ref (r 32), .ref (r 33), .ref (r 34), .ref (r 35), .int (Int32.ofInt rs), .int (Int32.ofInt es)]))
set_option maxHeartbeats 400000 in
set_option maxRecDepth 100000 in
theorem kM_block (l : Launch) (D : va_G) (cI cZ : ClassId) (ax : Nat) (r : Nat → Nat) (n m : Nat) (sl : Bool) (pr wy fo : Nat) (ru : Bool) (pl pk : Nat) (rs es : Int) (x : Int32) : zM l yM_block wM_block rM_block D zCl (zTy cI cZ) zNW 0 0 [.ref ax, .int x] ([mO ax r (n) (m) (sl) (pr) (wy) (fo) (ru) (pl) (pk) (rs) (es)]) (fun v wn => v = some (.int (bN (zin x n))) ∧ wn = [mO ax r (n) (m) (sl) (pr) (wy) (fo) (ru) (pl) (pk) (rs) (es)]) := by
  refine z_met2 cM_block 2 (some .boolean) rfl rfl (Nat.le_of_ble_eq_true rfl) rfl (fun Z hX => ?_)
  show Z 0 0 0 [some (.ref ax), some (.int x)] [] ([mO ax r (n) (m) (sl) (pr) (wy) (fo) (ru) (pl) (pk) (rs) (es)])
  refine z_iload_n hX 1 dM_block_0 rfl rfl ?_
  refine z_if_lt hX 16 dM_block_1 rfl (fun h1 => ?_) (fun h1 => ?_)
  · refine z_iconst hX (bN false) dM_block_16 rfl ?_
    refine z_iret hX rfl (bN_n _) rfl rfl dM_block_17 ?_
    refine ⟨?_, rfl⟩
    first
      | rw [zin_lt h1]
      | rw [zin_ge h9]
      | rw [zin_in h1 h9]
  · refine z_iload_n hX 1 dM_block_4 rfl rfl ?_
    refine z_aload_n hX 0 dM_block_5 rfl rfl ?_
    refine z_get hX 0 0 rfl rfl (zu inM) (by decide) (List.mem_cons_of_mem _ mw_552) rfl dM_block_6 ?_
    refine z_icmp_ge hX 16 dM_block_9 rfl (fun h9 => ?_) (fun h9 => ?_)
    · refine z_iconst hX (bN false) dM_block_16 rfl ?_
      refine z_iret hX rfl (bN_n _) rfl rfl dM_block_17 ?_
      refine ⟨?_, rfl⟩
      first
        | rw [zin_lt h1]
        | rw [zin_ge h9]
        | rw [zin_in h1 h9]
    · refine z_iconst hX (bN true) dM_block_12 rfl ?_
      refine z_goto hX 17 dM_block_13 rfl ?_
      refine z_iret hX rfl (bN_n _) rfl rfl dM_block_17 ?_
      refine ⟨?_, rfl⟩
      first
        | rw [zin_lt h1]
        | rw [zin_ge h9]
        | rw [zin_in h1 h9]

set_option maxHeartbeats 400000 in
set_option maxRecDepth 100000 in
theorem kM_known (l : Launch) (D : va_G) (cI cZ : ClassId) (ax : Nat) (r : Nat → Nat) (n m : Nat) (sl : Bool) (pr wy fo : Nat) (ru : Bool) (pl pk : Nat) (rs es : Int) (x : Int32) : zM l yM_known wM_known rM_known D zCl (zTy cI cZ) zNW 0 0 [.ref ax, .int x] ([mO ax r (n) (m) (sl) (pr) (wy) (fo) (ru) (pl) (pk) (rs) (es)]) (fun v wn => v = some (.int (bN (sl && zin x m))) ∧ wn = [mO ax r (n) (m) (sl) (pr) (wy) (fo) (ru) (pl) (pk) (rs) (es)]) := by
  refine z_met2 cM_known 2 (some .boolean) rfl rfl (Nat.le_of_ble_eq_true rfl) rfl (fun Z hX => ?_)
  show Z 0 0 0 [some (.ref ax), some (.int x)] [] ([mO ax r (n) (m) (sl) (pr) (wy) (fo) (ru) (pl) (pk) (rs) (es)])
  refine z_aload_n hX 0 dM_known_0 rfl rfl ?_
  refine z_get hX 0 4 rfl rfl (zu inM) (by decide) (List.mem_cons_of_mem _ mw_556) rfl dM_known_1 ?_
  refine z_if_eqB hX 23 dM_known_4 rfl (fun h4 => ?_) (fun h4 => ?_)
  · have hr : (sl && zin x m) = false := by rw [h4]; rfl
    refine z_iconst hX (bN false) dM_known_23 rfl ?_
    refine z_iret hX rfl (bN_n _) rfl rfl dM_known_24 ?_
    exact ⟨by rw [hr], rfl⟩
  · refine z_iload_n hX 1 dM_known_7 rfl rfl ?_
    refine z_if_lt hX 23 dM_known_8 rfl (fun h8 => ?_) (fun h8 => ?_)
    · have hr : (sl && zin x m) = false := by rw [zin_lt h8, Bool.and_false]
      refine z_iconst hX (bN false) dM_known_23 rfl ?_
      refine z_iret hX rfl (bN_n _) rfl rfl dM_known_24 ?_
      exact ⟨by rw [hr], rfl⟩
    · refine z_iload_n hX 1 dM_known_11 rfl rfl ?_
      refine z_aload_n hX 0 dM_known_12 rfl rfl ?_
      refine z_get hX 0 1 rfl rfl (zu inM) (by decide) (List.mem_cons_of_mem _ mw_553) rfl dM_known_13 ?_
      refine z_icmp_ge hX 23 dM_known_16 rfl (fun h16 => ?_) (fun h16 => ?_)
      · have hr : (sl && zin x m) = false := by rw [zin_ge h16, Bool.and_false]
        refine z_iconst hX (bN false) dM_known_23 rfl ?_
        refine z_iret hX rfl (bN_n _) rfl rfl dM_known_24 ?_
        exact ⟨by rw [hr], rfl⟩
      · have hr : (sl && zin x m) = true := by rw [h4, zin_in h8 h16]; rfl
        refine z_iconst hX (bN true) dM_known_19 rfl ?_
        refine z_goto hX 24 dM_known_20 rfl ?_
        refine z_iret hX rfl (bN_n _) rfl rfl dM_known_24 ?_
        exact ⟨by rw [hr], rfl⟩

set_option maxHeartbeats 400000 in
set_option maxRecDepth 100000 in
theorem kM_at (l : Launch) (D : va_G) (cI cZ : ClassId) (ax : Nat) (r : Nat → Nat) (n m : Nat) (sl : Bool) (pr wy fo : Nat) (ru : Bool) (pl pk : Nat) (rs es : Int) : zM l yM_at wM_at rM_at D zCl (zTy cI cZ) zNW 0 0 [.ref ax] ([mO ax r (n) (m) (sl) (pr) (wy) (fo) (ru) (pl) (pk) (rs) (es)]) (fun v wn => v = some (.int (zbar (if ru = true then some pl else none))) ∧ wn = [mO ax r (n) (m) (sl) (pr) (wy) (fo) (ru) (pl) (pk) (rs) (es)]) := by
  refine z_met2 cM_at 1 (some .int) rfl rfl (Nat.le_of_ble_eq_true rfl) rfl (fun Z hX => ?_)
  show Z 0 0 0 [some (.ref ax)] [] ([mO ax r (n) (m) (sl) (pr) (wy) (fo) (ru) (pl) (pk) (rs) (es)])
  refine z_aload_n hX 0 dM_at_0 rfl rfl ?_
  refine z_get hX 0 28 rfl rfl (zu inM) (by decide) (List.mem_cons_of_mem _ mw_580) rfl dM_at_1 ?_
  refine z_if_eqB hX 14 dM_at_4 rfl (fun h4 => ?_) (fun h4 => ?_)
  · have hr : (if ru = true then some pl else none) = none := if_neg (by rw [h4]; decide)
    refine z_iconst hX (-1) dM_at_14 rfl ?_
    refine z_iret hX rfl rfl rfl rfl dM_at_15 ?_
    rw [hr]
    exact ⟨rfl, rfl⟩
  · have hr : (if ru = true then some pl else none) = some pl := if_pos h4
    refine z_aload_n hX 0 dM_at_7 rfl rfl ?_
    refine z_get hX 0 29 rfl rfl (zu inM) (by decide) (List.mem_cons_of_mem _ mw_581) rfl dM_at_8 ?_
    refine z_goto hX 15 dM_at_11 rfl ?_
    refine z_iret hX rfl rfl rfl rfl dM_at_15 ?_
    rw [hr]
    exact ⟨rfl, rfl⟩

set_option maxHeartbeats 400000 in
set_option maxRecDepth 100000 in
theorem kM_back (l : Launch) (D : va_G) (cI cZ : ClassId) (ax : Nat) (r : Nat → Nat) (n m : Nat) (sl : Bool) (pr wy fo : Nat) (ru : Bool) (pl pk : Nat) (rs es : Int) (bk : Nat → Bool) (x : Int32) (hm : m ≤ 24) : zM l yM_back wM_back rM_back D zCl (zTy cI cZ) zNW 0 0 [.ref ax, .int x] ([mO ax r (n) (m) (sl) (pr) (wy) (fo) (ru) (pl) (pk) (rs) (es), (r 8, .inl (cZ, 24, .inl (aB (bk))))]) (fun v wn => wn = [mO ax r (n) (m) (sl) (pr) (wy) (fo) (ru) (pl) (pk) (rs) (es), (r 8, .inl (cZ, 24, .inl (aB (bk))))] ∧ zR sl x m (bN false) (fun i => bN (bk i)) v) := by
  refine z_met2 cM_back 2 (some .boolean) rfl rfl (Nat.le_of_ble_eq_true rfl) rfl (fun Z hX => ?_)
  show Z 0 0 0 [some (.ref ax), some (.int x)] [] ([mO ax r (n) (m) (sl) (pr) (wy) (fo) (ru) (pl) (pk) (rs) (es), (r 8, .inl (cZ, 24, .inl (aB (bk))))])
  refine z_aload_n hX 0 dM_back_0 rfl rfl ?_
  refine z_iload_n hX 1 dM_back_1 rfl rfl ?_
  refine z_Vr hX (kM_known l D cI cZ ax r n m sl pr wy fo ru pl pk rs es x) mw_755 mw_757 mp_3_9 mw_9 mw_758 rfl rfl ⟨rfl, by decide, by decide, rfl⟩ (by decide) 0 rfl rfl rfl rfl (Nat.le_of_ble_eq_true rfl) dM_back_2 (by decide) [0] rfl rfl (fun v wn hv => ?_)
  obtain ⟨rfl, rfl⟩ := hv
  refine ⟨rfl, ?_⟩
  refine z_if_eqB hX 21 dM_back_5 rfl (fun h5 => ?_) (fun h5 => ?_)
  · refine z_iconst hX (bN false) dM_back_21 rfl ?_
    refine z_iret hX rfl (bN_n _) rfl rfl dM_back_22 ?_
    first
      | exact ⟨rfl, zR_out (by omega) h5⟩
      | exact ⟨rfl, zR_in (by omega) hsd hi (hr)⟩
  · obtain ⟨hsd, i, hi, rfl⟩ := zkn (by omega) h5
    refine z_aload_n hX 0 dM_back_8 rfl rfl ?_
    refine z_get hX 0 8 rfl rfl (zu inM) (by decide) (List.mem_cons_of_mem _ mw_560) rfl dM_back_9 ?_
    refine z_iload_n hX 1 dM_back_12 rfl rfl ?_
    refine z_ldB hX 1 1 _ rfl rfl rfl (by omega) (by decide) dM_back_13 ?_
    refine z_if_eqB hX 21 dM_back_14 rfl (fun h14 => ?_) (fun h14 => ?_)
    · have hr : bN (bk i) = bN false := by rw [h14]
      refine z_iconst hX (bN false) dM_back_21 rfl ?_
      refine z_iret hX rfl (bN_n _) rfl rfl dM_back_22 ?_
      first
        | exact ⟨rfl, zR_out (by omega) h5⟩
        | exact ⟨rfl, zR_in (by omega) hsd hi (hr)⟩
    · have hr : bN (bk i) = bN true := by rw [h14]
      refine z_iconst hX (bN true) dM_back_17 rfl ?_
      refine z_goto hX 22 dM_back_18 rfl ?_
      refine z_iret hX rfl (bN_n _) rfl rfl dM_back_22 ?_
      first
        | exact ⟨rfl, zR_out (by omega) h5⟩
        | exact ⟨rfl, zR_in (by omega) hsd hi (hr)⟩

set_option maxHeartbeats 400000 in
set_option maxRecDepth 100000 in
theorem kM_probe (l : Launch) (D : va_G) (cI cZ : ClassId) (ax : Nat) (r : Nat → Nat) (n m : Nat) (sl : Bool) (pr wy fo : Nat) (ru : Bool) (pl pk : Nat) (rs es : Int) (it : Nat → Bool) (x : Int32) (hm : m ≤ 24) : zM l yM_probe wM_probe rM_probe D zCl (zTy cI cZ) zNW 0 0 [.ref ax, .int x] ([mO ax r (n) (m) (sl) (pr) (wy) (fo) (ru) (pl) (pk) (rs) (es), (r 12, .inl (cZ, 24, .inl (aB (it))))]) (fun v wn => wn = [mO ax r (n) (m) (sl) (pr) (wy) (fo) (ru) (pl) (pk) (rs) (es), (r 12, .inl (cZ, 24, .inl (aB (it))))] ∧ zR sl x m (bN false) (fun i => bN (!it i)) v) := by
  refine z_met2 cM_probe 2 (some .boolean) rfl rfl (Nat.le_of_ble_eq_true rfl) rfl (fun Z hX => ?_)
  show Z 0 0 0 [some (.ref ax), some (.int x)] [] ([mO ax r (n) (m) (sl) (pr) (wy) (fo) (ru) (pl) (pk) (rs) (es), (r 12, .inl (cZ, 24, .inl (aB (it))))])
  refine z_aload_n hX 0 dM_probe_0 rfl rfl ?_
  refine z_iload_n hX 1 dM_probe_1 rfl rfl ?_
  refine z_Vr hX (kM_known l D cI cZ ax r n m sl pr wy fo ru pl pk rs es x) mw_755 mw_757 mp_3_9 mw_9 mw_758 rfl rfl ⟨rfl, by decide, by decide, rfl⟩ (by decide) 0 rfl rfl rfl rfl (Nat.le_of_ble_eq_true rfl) dM_probe_2 (by decide) [0] rfl rfl (fun v wn hv => ?_)
  obtain ⟨rfl, rfl⟩ := hv
  refine ⟨rfl, ?_⟩
  refine z_if_eqB hX 21 dM_probe_5 rfl (fun h5 => ?_) (fun h5 => ?_)
  · refine z_iconst hX (bN false) dM_probe_21 rfl ?_
    refine z_iret hX rfl (bN_n _) rfl rfl dM_probe_22 ?_
    first
      | exact ⟨rfl, zR_out (by omega) h5⟩
      | exact ⟨rfl, zR_in (by omega) hsd hi (hr)⟩
  · obtain ⟨hsd, i, hi, rfl⟩ := zkn (by omega) h5
    refine z_aload_n hX 0 dM_probe_8 rfl rfl ?_
    refine z_get hX 0 12 rfl rfl (zu inM) (by decide) (List.mem_cons_of_mem _ mw_564) rfl dM_probe_9 ?_
    refine z_iload_n hX 1 dM_probe_12 rfl rfl ?_
    refine z_ldB hX 1 1 _ rfl rfl rfl (by omega) (by decide) dM_probe_13 ?_
    refine z_if_neB hX 21 dM_probe_14 rfl (fun h14 => ?_) (fun h14 => ?_)
    · have hr : bN (!it i) = bN false := by rw [h14]; rfl
      refine z_iconst hX (bN false) dM_probe_21 rfl ?_
      refine z_iret hX rfl (bN_n _) rfl rfl dM_probe_22 ?_
      first
        | exact ⟨rfl, zR_out (by omega) h5⟩
        | exact ⟨rfl, zR_in (by omega) hsd hi (hr)⟩
    · have hr : bN (!it i) = bN true := by rw [h14]; rfl
      refine z_iconst hX (bN true) dM_probe_17 rfl ?_
      refine z_goto hX 22 dM_probe_18 rfl ?_
      refine z_iret hX rfl (bN_n _) rfl rfl dM_probe_22 ?_
      first
        | exact ⟨rfl, zR_out (by omega) h5⟩
        | exact ⟨rfl, zR_in (by omega) hsd hi (hr)⟩

set_option maxHeartbeats 400000 in
set_option maxRecDepth 100000 in
theorem kM_count (l : Launch) (D : va_G) (cI cZ : ClassId) (ax : Nat) (r : Nat → Nat) (n m : Nat) (sl : Bool) (pr wy fo : Nat) (ru : Bool) (pl pk : Nat) (rs es : Int) (ec : Nat → Int) (x : Int32) (hm : m ≤ 24) : zM l yM_count wM_count rM_count D zCl (zTy cI cZ) zNW 0 0 [.ref ax, .int x] ([mO ax r (n) (m) (sl) (pr) (wy) (fo) (ru) (pl) (pk) (rs) (es), (r 32, .inl (cI, 24, .inl (aI (ec))))]) (fun v wn => wn = [mO ax r (n) (m) (sl) (pr) (wy) (fo) (ru) (pl) (pk) (rs) (es), (r 32, .inl (cI, 24, .inl (aI (ec))))] ∧ zR sl x m (-1) (fun i => Int32.ofInt (ec i)) v) := by
  refine z_met2 cM_count 2 (some .int) rfl rfl (Nat.le_of_ble_eq_true rfl) rfl (fun Z hX => ?_)
  show Z 0 0 0 [some (.ref ax), some (.int x)] [] ([mO ax r (n) (m) (sl) (pr) (wy) (fo) (ru) (pl) (pk) (rs) (es), (r 32, .inl (cI, 24, .inl (aI (ec))))])
  refine z_aload_n hX 0 dM_count_0 rfl rfl ?_
  refine z_iload_n hX 1 dM_count_1 rfl rfl ?_
  refine z_Vr hX (kM_known l D cI cZ ax r n m sl pr wy fo ru pl pk rs es x) mw_755 mw_757 mp_3_9 mw_9 mw_758 rfl rfl ⟨rfl, by decide, by decide, rfl⟩ (by decide) 0 rfl rfl rfl rfl (Nat.le_of_ble_eq_true rfl) dM_count_2 (by decide) [0] rfl rfl (fun v wn hv => ?_)
  obtain ⟨rfl, rfl⟩ := hv
  refine ⟨rfl, ?_⟩
  refine z_if_eqB hX 17 dM_count_5 rfl (fun h5 => ?_) (fun h5 => ?_)
  · refine z_iconst hX (-1) dM_count_17 rfl ?_
    refine z_iret hX rfl rfl rfl rfl dM_count_18 ?_
    first
      | exact ⟨rfl, zR_out (by omega) h5⟩
      | exact ⟨rfl, zR_in (by omega) hsd hi (rfl)⟩
  · obtain ⟨hsd, i, hi, rfl⟩ := zkn (by omega) h5
    refine z_aload_n hX 0 dM_count_8 rfl rfl ?_
    refine z_get hX 0 32 rfl rfl (zu inM) (by decide) (List.mem_cons_of_mem _ mw_584) rfl dM_count_9 ?_
    refine z_iload_n hX 1 dM_count_12 rfl rfl ?_
    refine z_ldI hX 1 0 _ rfl rfl rfl (by omega) (by decide) dM_count_13 ?_
    refine z_goto hX 18 dM_count_14 rfl ?_
    refine z_iret hX rfl rfl rfl rfl dM_count_18 ?_
    first
      | exact ⟨rfl, zR_out (by omega) h5⟩
      | exact ⟨rfl, zR_in (by omega) hsd hi (rfl)⟩

set_option maxHeartbeats 400000 in
set_option maxRecDepth 100000 in
theorem kM_depth (l : Launch) (D : va_G) (cI cZ : ClassId) (ax : Nat) (r : Nat → Nat) (n m : Nat) (sl : Bool) (pr wy fo : Nat) (ru : Bool) (pl pk : Nat) (rs es : Int) (dp : Nat → Nat) (x : Int32) (hn : n ≤ 12) : zM l yM_depth wM_depth rM_depth D zCl (zTy cI cZ) zNW 0 0 [.ref ax, .int x] ([mO ax r (n) (m) (sl) (pr) (wy) (fo) (ru) (pl) (pk) (rs) (es), (r 10, .inl (cI, 12, .inl (aN (dp))))]) (fun v wn => wn = [mO ax r (n) (m) (sl) (pr) (wy) (fo) (ru) (pl) (pk) (rs) (es), (r 10, .inl (cI, 12, .inl (aN (dp))))] ∧ zR sl x n (-1) (fun i => nI (dp i)) v) := by
  refine z_met2 cM_depth 2 (some .int) rfl rfl (Nat.le_of_ble_eq_true rfl) rfl (fun Z hX => ?_)
  show Z 0 0 0 [some (.ref ax), some (.int x)] [] ([mO ax r (n) (m) (sl) (pr) (wy) (fo) (ru) (pl) (pk) (rs) (es), (r 10, .inl (cI, 12, .inl (aN (dp))))])
  refine z_aload_n hX 0 dM_depth_0 rfl rfl ?_
  refine z_get hX 0 4 rfl rfl (zu inM) (by decide) (List.mem_cons_of_mem _ mw_556) rfl dM_depth_1 ?_
  refine z_if_eqB hX 24 dM_depth_4 rfl (fun h4 => ?_) (fun h4 => ?_)
  · have h5 : (sl && zin x n) = false := by rw [h4]; rfl
    refine z_iconst hX (-1) dM_depth_24 rfl ?_
    refine z_iret hX rfl rfl rfl rfl dM_depth_25 ?_
    first
      | exact ⟨rfl, zR_out (by omega) h5⟩
      | exact ⟨rfl, zR_in (by omega) hsd hi (rfl)⟩
  · refine z_aload_n hX 0 dM_depth_7 rfl rfl ?_
    refine z_iload_n hX 1 dM_depth_8 rfl rfl ?_
    refine z_Vr hX (kM_block l D cI cZ ax r n m sl pr wy fo ru pl pk rs es x) mw_671 mw_673 mp_2_6 mw_9 mw_674 rfl rfl ⟨rfl, by decide, by decide, rfl⟩ (by decide) 0 rfl rfl rfl rfl (Nat.le_of_ble_eq_true rfl) dM_depth_9 (by decide) [0] rfl rfl (fun v wn hv => ?_)
    obtain ⟨rfl, rfl⟩ := hv
    refine ⟨rfl, ?_⟩
    refine z_if_eqB hX 24 dM_depth_12 rfl (fun h12 => ?_) (fun h12 => ?_)
    · have h5 : (sl && zin x n) = false := by rw [h12, Bool.and_false]
      refine z_iconst hX (-1) dM_depth_24 rfl ?_
      refine z_iret hX rfl rfl rfl rfl dM_depth_25 ?_
      first
        | exact ⟨rfl, zR_out (by omega) h5⟩
        | exact ⟨rfl, zR_in (by omega) hsd hi (rfl)⟩
    · obtain ⟨i, hi, rfl⟩ := zin_of (by omega) h12
      have hsd := h4
      refine z_aload_n hX 0 dM_depth_15 rfl rfl ?_
      refine z_get hX 0 10 rfl rfl (zu inM) (by decide) (List.mem_cons_of_mem _ mw_562) rfl dM_depth_16 ?_
      refine z_iload_n hX 1 dM_depth_19 rfl rfl ?_
      refine z_ldN hX 1 0 _ rfl rfl rfl (by omega) (by decide) dM_depth_20 ?_
      refine z_goto hX 25 dM_depth_21 rfl ?_
      refine z_iret hX rfl rfl rfl rfl dM_depth_25 ?_
      first
        | exact ⟨rfl, zR_out (by omega) h5⟩
        | exact ⟨rfl, zR_in (by omega) hsd hi (rfl)⟩

set_option maxHeartbeats 400000 in
set_option maxRecDepth 100000 in
theorem kM_visits (l : Launch) (D : va_G) (cI cZ : ClassId) (ax : Nat) (r : Nat → Nat) (n m : Nat) (sl : Bool) (pr wy fo : Nat) (ru : Bool) (pl pk : Nat) (rs es : Int) (bc : Nat → Int) (x : Int32) (hn : n ≤ 12) : zM l yM_visits wM_visits rM_visits D zCl (zTy cI cZ) zNW 0 0 [.ref ax, .int x] ([mO ax r (n) (m) (sl) (pr) (wy) (fo) (ru) (pl) (pk) (rs) (es), (r 33, .inl (cI, 12, .inl (aI (bc))))]) (fun v wn => wn = [mO ax r (n) (m) (sl) (pr) (wy) (fo) (ru) (pl) (pk) (rs) (es), (r 33, .inl (cI, 12, .inl (aI (bc))))] ∧ zR sl x n (-1) (fun i => Int32.ofInt (bc i)) v) := by
  refine z_met2 cM_visits 2 (some .int) rfl rfl (Nat.le_of_ble_eq_true rfl) rfl (fun Z hX => ?_)
  show Z 0 0 0 [some (.ref ax), some (.int x)] [] ([mO ax r (n) (m) (sl) (pr) (wy) (fo) (ru) (pl) (pk) (rs) (es), (r 33, .inl (cI, 12, .inl (aI (bc))))])
  refine z_aload_n hX 0 dM_visits_0 rfl rfl ?_
  refine z_get hX 0 4 rfl rfl (zu inM) (by decide) (List.mem_cons_of_mem _ mw_556) rfl dM_visits_1 ?_
  refine z_if_eqB hX 24 dM_visits_4 rfl (fun h4 => ?_) (fun h4 => ?_)
  · have h5 : (sl && zin x n) = false := by rw [h4]; rfl
    refine z_iconst hX (-1) dM_visits_24 rfl ?_
    refine z_iret hX rfl rfl rfl rfl dM_visits_25 ?_
    first
      | exact ⟨rfl, zR_out (by omega) h5⟩
      | exact ⟨rfl, zR_in (by omega) hsd hi (rfl)⟩
  · refine z_aload_n hX 0 dM_visits_7 rfl rfl ?_
    refine z_iload_n hX 1 dM_visits_8 rfl rfl ?_
    refine z_Vr hX (kM_block l D cI cZ ax r n m sl pr wy fo ru pl pk rs es x) mw_671 mw_673 mp_2_6 mw_9 mw_674 rfl rfl ⟨rfl, by decide, by decide, rfl⟩ (by decide) 0 rfl rfl rfl rfl (Nat.le_of_ble_eq_true rfl) dM_visits_9 (by decide) [0] rfl rfl (fun v wn hv => ?_)
    obtain ⟨rfl, rfl⟩ := hv
    refine ⟨rfl, ?_⟩
    refine z_if_eqB hX 24 dM_visits_12 rfl (fun h12 => ?_) (fun h12 => ?_)
    · have h5 : (sl && zin x n) = false := by rw [h12, Bool.and_false]
      refine z_iconst hX (-1) dM_visits_24 rfl ?_
      refine z_iret hX rfl rfl rfl rfl dM_visits_25 ?_
      first
        | exact ⟨rfl, zR_out (by omega) h5⟩
        | exact ⟨rfl, zR_in (by omega) hsd hi (rfl)⟩
    · obtain ⟨i, hi, rfl⟩ := zin_of (by omega) h12
      have hsd := h4
      refine z_aload_n hX 0 dM_visits_15 rfl rfl ?_
      refine z_get hX 0 33 rfl rfl (zu inM) (by decide) (List.mem_cons_of_mem _ mw_585) rfl dM_visits_16 ?_
      refine z_iload_n hX 1 dM_visits_19 rfl rfl ?_
      refine z_ldI hX 1 0 _ rfl rfl rfl (by omega) (by decide) dM_visits_20 ?_
      refine z_goto hX 25 dM_visits_21 rfl ?_
      refine z_iret hX rfl rfl rfl rfl dM_visits_25 ?_
      first
        | exact ⟨rfl, zR_out (by omega) h5⟩
        | exact ⟨rfl, zR_in (by omega) hsd hi (rfl)⟩

set_option maxHeartbeats 400000 in
set_option maxRecDepth 100000 in
theorem kM_stopped (l : Launch) (D : va_G) (cI cZ : ClassId) (ax : Nat) (r : Nat → Nat) (n m : Nat) (sl : Bool) (pr wy fo : Nat) (ru : Bool) (pl pk : Nat) (rs es : Int) (sc : Nat → Int) (x : Int32) (hn : n ≤ 12) : zM l yM_stopped wM_stopped rM_stopped D zCl (zTy cI cZ) zNW 0 0 [.ref ax, .int x] ([mO ax r (n) (m) (sl) (pr) (wy) (fo) (ru) (pl) (pk) (rs) (es), (r 35, .inl (cI, 12, .inl (aI (sc))))]) (fun v wn => wn = [mO ax r (n) (m) (sl) (pr) (wy) (fo) (ru) (pl) (pk) (rs) (es), (r 35, .inl (cI, 12, .inl (aI (sc))))] ∧ zR sl x n (-1) (fun i => Int32.ofInt (sc i)) v) := by
  refine z_met2 cM_stopped 2 (some .int) rfl rfl (Nat.le_of_ble_eq_true rfl) rfl (fun Z hX => ?_)
  show Z 0 0 0 [some (.ref ax), some (.int x)] [] ([mO ax r (n) (m) (sl) (pr) (wy) (fo) (ru) (pl) (pk) (rs) (es), (r 35, .inl (cI, 12, .inl (aI (sc))))])
  refine z_aload_n hX 0 dM_stopped_0 rfl rfl ?_
  refine z_get hX 0 4 rfl rfl (zu inM) (by decide) (List.mem_cons_of_mem _ mw_556) rfl dM_stopped_1 ?_
  refine z_if_eqB hX 24 dM_stopped_4 rfl (fun h4 => ?_) (fun h4 => ?_)
  · have h5 : (sl && zin x n) = false := by rw [h4]; rfl
    refine z_iconst hX (-1) dM_stopped_24 rfl ?_
    refine z_iret hX rfl rfl rfl rfl dM_stopped_25 ?_
    first
      | exact ⟨rfl, zR_out (by omega) h5⟩
      | exact ⟨rfl, zR_in (by omega) hsd hi (rfl)⟩
  · refine z_aload_n hX 0 dM_stopped_7 rfl rfl ?_
    refine z_iload_n hX 1 dM_stopped_8 rfl rfl ?_
    refine z_Vr hX (kM_block l D cI cZ ax r n m sl pr wy fo ru pl pk rs es x) mw_671 mw_673 mp_2_6 mw_9 mw_674 rfl rfl ⟨rfl, by decide, by decide, rfl⟩ (by decide) 0 rfl rfl rfl rfl (Nat.le_of_ble_eq_true rfl) dM_stopped_9 (by decide) [0] rfl rfl (fun v wn hv => ?_)
    obtain ⟨rfl, rfl⟩ := hv
    refine ⟨rfl, ?_⟩
    refine z_if_eqB hX 24 dM_stopped_12 rfl (fun h12 => ?_) (fun h12 => ?_)
    · have h5 : (sl && zin x n) = false := by rw [h12, Bool.and_false]
      refine z_iconst hX (-1) dM_stopped_24 rfl ?_
      refine z_iret hX rfl rfl rfl rfl dM_stopped_25 ?_
      first
        | exact ⟨rfl, zR_out (by omega) h5⟩
        | exact ⟨rfl, zR_in (by omega) hsd hi (rfl)⟩
    · obtain ⟨i, hi, rfl⟩ := zin_of (by omega) h12
      have hsd := h4
      refine z_aload_n hX 0 dM_stopped_15 rfl rfl ?_
      refine z_get hX 0 35 rfl rfl (zu inM) (by decide) (List.mem_cons_of_mem _ mw_587) rfl dM_stopped_16 ?_
      refine z_iload_n hX 1 dM_stopped_19 rfl rfl ?_
      refine z_ldI hX 1 0 _ rfl rfl rfl (by omega) (by decide) dM_stopped_20 ?_
      refine z_goto hX 25 dM_stopped_21 rfl ?_
      refine z_iret hX rfl rfl rfl rfl dM_stopped_25 ?_
      first
        | exact ⟨rfl, zR_out (by omega) h5⟩
        | exact ⟨rfl, zR_in (by omega) hsd hi (rfl)⟩

set_option maxHeartbeats 400000 in
set_option maxRecDepth 100000 in
theorem kM_passed (l : Launch) (D : va_G) (cI cZ : ClassId) (ax : Nat) (r : Nat → Nat) (n m : Nat) (sl : Bool) (pr wy fo : Nat) (ru : Bool) (pl pk : Nat) (rs es : Int) (wc : Nat → Int) (x : Int32) (hwy : wy ≤ 200) : zM l yM_passed wM_passed rM_passed D zCl (zTy cI cZ) zNW 0 0 [.ref ax, .int x] ([mO ax r (n) (m) (sl) (pr) (wy) (fo) (ru) (pl) (pk) (rs) (es), (r 34, .inl (cI, 200, .inl (aI (wc))))]) (fun v wn => wn = [mO ax r (n) (m) (sl) (pr) (wy) (fo) (ru) (pl) (pk) (rs) (es), (r 34, .inl (cI, 200, .inl (aI (wc))))] ∧ zR sl x wy (-1) (fun i => Int32.ofInt (wc i)) v) := by
  refine z_met2 cM_passed 2 (some .int) rfl rfl (Nat.le_of_ble_eq_true rfl) rfl (fun Z hX => ?_)
  show Z 0 0 0 [some (.ref ax), some (.int x)] [] ([mO ax r (n) (m) (sl) (pr) (wy) (fo) (ru) (pl) (pk) (rs) (es), (r 34, .inl (cI, 200, .inl (aI (wc))))])
  refine z_aload_n hX 0 dM_passed_0 rfl rfl ?_
  refine z_get hX 0 4 rfl rfl (zu inM) (by decide) (List.mem_cons_of_mem _ mw_556) rfl dM_passed_1 ?_
  refine z_if_eqB hX 28 dM_passed_4 rfl (fun h4 => ?_) (fun h4 => ?_)
  · have h5 : (sl && zin x wy) = false := by rw [h4]; rfl
    refine z_iconst hX (-1) dM_passed_28 rfl ?_
    refine z_iret hX rfl rfl rfl rfl dM_passed_29 ?_
    first
      | exact ⟨rfl, zR_out (by omega) h5⟩
      | exact ⟨rfl, zR_in (by omega) hsd hi (rfl)⟩
  · refine z_iload_n hX 1 dM_passed_7 rfl rfl ?_
    refine z_if_lt hX 28 dM_passed_8 rfl (fun h8 => ?_) (fun h8 => ?_)
    · have h5 : (sl && zin x wy) = false := by rw [zin_lt h8, Bool.and_false]
      refine z_iconst hX (-1) dM_passed_28 rfl ?_
      refine z_iret hX rfl rfl rfl rfl dM_passed_29 ?_
      first
        | exact ⟨rfl, zR_out (by omega) h5⟩
        | exact ⟨rfl, zR_in (by omega) hsd hi (rfl)⟩
    · refine z_iload_n hX 1 dM_passed_11 rfl rfl ?_
      refine z_aload_n hX 0 dM_passed_12 rfl rfl ?_
      refine z_get hX 0 23 rfl rfl (zu inM) (by decide) (List.mem_cons_of_mem _ mw_575) rfl dM_passed_13 ?_
      refine z_icmp_ge hX 28 dM_passed_16 rfl (fun h16 => ?_) (fun h16 => ?_)
      · have h5 : (sl && zin x wy) = false := by rw [zin_ge h16, Bool.and_false]
        refine z_iconst hX (-1) dM_passed_28 rfl ?_
        refine z_iret hX rfl rfl rfl rfl dM_passed_29 ?_
        first
          | exact ⟨rfl, zR_out (by omega) h5⟩
          | exact ⟨rfl, zR_in (by omega) hsd hi (rfl)⟩
      · obtain ⟨i, hi, rfl⟩ := zin_of (by omega) (zin_in h8 h16)
        have hsd := h4
        refine z_aload_n hX 0 dM_passed_19 rfl rfl ?_
        refine z_get hX 0 34 rfl rfl (zu inM) (by decide) (List.mem_cons_of_mem _ mw_586) rfl dM_passed_20 ?_
        refine z_iload_n hX 1 dM_passed_23 rfl rfl ?_
        refine z_ldI hX 1 0 _ rfl rfl rfl (by omega) (by decide) dM_passed_24 ?_
        refine z_goto hX 29 dM_passed_25 rfl ?_
        refine z_iret hX rfl rfl rfl rfl dM_passed_29 ?_
        first
          | exact ⟨rfl, zR_out (by omega) h5⟩
          | exact ⟨rfl, zR_in (by omega) hsd hi (rfl)⟩

set_option maxHeartbeats 400000 in
set_option maxRecDepth 100000 in
theorem kM_edge (l : Launch) (D : va_G) (cI cZ : ClassId) (ax : Nat) (r : Nat → Nat) (n m : Nat) (sl : Bool) (pr wy fo : Nat) (ru : Bool) (pl pk : Nat) (rs es : Int) (fr to : Nat → Nat) (x z : Int32) (hn : 2 ≤ n ∧ n ≤ 12) (hm : m ≤ 24) : zM l yM_edge wM_edge rM_edge D zCl (zTy cI cZ) zNW 0 0 [.ref ax, .int x, .int z] ([mO ax r (n) (m) (sl) (pr) (wy) (fo) (ru) (pl) (pk) (rs) (es), (r 2, .inl (cI, 24, .inl (aN (fr)))), (r 3, .inl (cI, 24, .inl (aN (to))))]) (fun v wn => ((sl = true ∨ zin x n = false ∨ zin z n = false ∨ x = 1 ∨ z = 0) → v = some (.int (-1)) ∧ wn = [mO ax r (n) (m) (sl) (pr) (wy) (fo) (ru) (pl) (pk) (rs) (es), (r 2, .inl (cI, 24, .inl (aN (fr)))), (r 3, .inl (cI, 24, .inl (aN (to))))]) ∧ ∀ a b, sl = false → a < n → b < n → x = nI a → z = nI b → a ≠ 1 → b ≠ 0 → (m = 24 → v = some (.int (-2)) ∧ wn = [mO ax r (n) (m) (sl) (pr) (wy) (fo) (ru) (pl) (pk) (rs) (es), (r 2, .inl (cI, 24, .inl (aN (fr)))), (r 3, .inl (cI, 24, .inl (aN (to))))]) ∧ (m < 24 → v = some (.int (nI m)) ∧ wn = [mO ax r (n) (m + 1) (sl) (pr) (wy) (fo) (ru) (pl) (pk) (rs) (es), (r 2, .inl (cI, 24, .inl (aN (va_up fr m a)))), (r 3, .inl (cI, 24, .inl (aN (va_up to m b))))])) := by
  refine z_met2 cM_edge 3 (some .int) rfl rfl (Nat.le_of_ble_eq_true rfl) rfl (fun Z hX => ?_)
  show Z 0 0 0 [some (.ref ax), some (.int x), some (.int z)] [] ([mO ax r (n) (m) (sl) (pr) (wy) (fo) (ru) (pl) (pk) (rs) (es), (r 2, .inl (cI, 24, .inl (aN (fr)))), (r 3, .inl (cI, 24, .inl (aN (to))))])
  refine z_aload_n hX 0 dM_edge_0 rfl rfl ?_
  refine z_get hX 0 4 rfl rfl (zu inM) (by decide) (List.mem_cons_of_mem _ mw_556) rfl dM_edge_1 ?_
  refine z_if_neB hX 32 dM_edge_4 rfl (fun h4 => ?_) (fun h4 => ?_)
  · refine z_iconst hX (-1) dM_edge_32 rfl ?_
    refine z_iret hX rfl rfl rfl rfl dM_edge_33 ?_
    refine ⟨fun _ => ⟨rfl, rfl⟩, fun a1 b1 h1 h2 h3 h8 h5 h6 h7 => ?_⟩
    first
      | exact absurd (h1.symm.trans h4) (by decide)
      | exact absurd (h12.symm.trans (h8 ▸ zin_nI h2 (by omega))) (by decide)
      | exact absurd (h20.symm.trans (h5 ▸ zin_nI h3 (by omega))) (by decide)
      | exact absurd (((nI_eq (by omega) (by omega)).mp h8).symm.trans h25) h6
      | exact absurd ((nI_eq (a := b1) (b := b) (by omega) (by omega)).mp h5.symm ▸ (zi_eq0 (a := b) (by omega)).mp h29) h7
  · refine z_aload_n hX 0 dM_edge_7 rfl rfl ?_
    refine z_iload_n hX 1 dM_edge_8 rfl rfl ?_
    refine z_Vr hX (kM_block l D cI cZ ax r n m sl pr wy fo ru pl pk rs es x) mw_671 mw_673 mp_2_6 mw_9 mw_674 rfl rfl ⟨rfl, by decide, by decide, rfl⟩ (by decide) 0 rfl rfl rfl rfl (Nat.le_of_ble_eq_true rfl) dM_edge_9 (by decide) [0] rfl rfl (fun v wn hv => ?_)
    obtain ⟨rfl, rfl⟩ := hv
    refine ⟨rfl, ?_⟩
    refine z_if_eqB hX 32 dM_edge_12 rfl (fun h12 => ?_) (fun h12 => ?_)
    · refine z_iconst hX (-1) dM_edge_32 rfl ?_
      refine z_iret hX rfl rfl rfl rfl dM_edge_33 ?_
      refine ⟨fun _ => ⟨rfl, rfl⟩, fun a1 b1 h1 h2 h3 h8 h5 h6 h7 => ?_⟩
      first
        | exact absurd (h1.symm.trans h4) (by decide)
        | exact absurd (h12.symm.trans (h8 ▸ zin_nI h2 (by omega))) (by decide)
        | exact absurd (h20.symm.trans (h5 ▸ zin_nI h3 (by omega))) (by decide)
        | exact absurd (((nI_eq (by omega) (by omega)).mp h8).symm.trans h25) h6
        | exact absurd ((nI_eq (a := b1) (b := b) (by omega) (by omega)).mp h5.symm ▸ (zi_eq0 (a := b) (by omega)).mp h29) h7
    · refine z_aload_n hX 0 dM_edge_15 rfl rfl ?_
      refine z_iload_n hX 2 dM_edge_16 rfl rfl ?_
      refine z_Vr hX (kM_block l D cI cZ ax r n m sl pr wy fo ru pl pk rs es z) mw_671 mw_673 mp_2_6 mw_9 mw_674 rfl rfl ⟨rfl, by decide, by decide, rfl⟩ (by decide) 0 rfl rfl rfl rfl (Nat.le_of_ble_eq_true rfl) dM_edge_17 (by decide) [0] rfl rfl (fun v wn hv => ?_)
      obtain ⟨rfl, rfl⟩ := hv
      refine ⟨rfl, ?_⟩
      refine z_if_eqB hX 32 dM_edge_20 rfl (fun h20 => ?_) (fun h20 => ?_)
      · refine z_iconst hX (-1) dM_edge_32 rfl ?_
        refine z_iret hX rfl rfl rfl rfl dM_edge_33 ?_
        refine ⟨fun _ => ⟨rfl, rfl⟩, fun a1 b1 h1 h2 h3 h8 h5 h6 h7 => ?_⟩
        first
          | exact absurd (h1.symm.trans h4) (by decide)
          | exact absurd (h12.symm.trans (h8 ▸ zin_nI h2 (by omega))) (by decide)
          | exact absurd (h20.symm.trans (h5 ▸ zin_nI h3 (by omega))) (by decide)
          | exact absurd (((nI_eq (by omega) (by omega)).mp h8).symm.trans h25) h6
          | exact absurd ((nI_eq (a := b1) (b := b) (by omega) (by omega)).mp h5.symm ▸ (zi_eq0 (a := b) (by omega)).mp h29) h7
      · obtain ⟨a, ha, rfl⟩ := zin_of (by omega) h12
        obtain ⟨b, hb, rfl⟩ := zin_of (by omega) h20
        refine z_iload_n hX 1 dM_edge_23 rfl rfl ?_
        refine z_iconst hX (nI 1) dM_edge_24 rfl ?_
        refine z_icmp_eqN hX 32 (by omega) (by omega) dM_edge_25 rfl (fun h25 => ?_) (fun h25 => ?_)
        · refine z_iconst hX (-1) dM_edge_32 rfl ?_
          refine z_iret hX rfl rfl rfl rfl dM_edge_33 ?_
          refine ⟨fun _ => ⟨rfl, rfl⟩, fun a1 b1 h1 h2 h3 h8 h5 h6 h7 => ?_⟩
          first
            | exact absurd (h1.symm.trans h4) (by decide)
            | exact absurd (h12.symm.trans (h8 ▸ zin_nI h2 (by omega))) (by decide)
            | exact absurd (h20.symm.trans (h5 ▸ zin_nI h3 (by omega))) (by decide)
            | exact absurd (((nI_eq (by omega) (by omega)).mp h8).symm.trans h25) h6
            | exact absurd ((nI_eq (a := b1) (b := b) (by omega) (by omega)).mp h5.symm ▸ (zi_eq0 (a := b) (by omega)).mp h29) h7
        · refine z_iload_n hX 2 dM_edge_28 rfl rfl ?_
          refine z_if_ne hX 34 dM_edge_29 rfl (fun h29 => ?_) (fun h29 => ?_)
          · have hb0 : b ≠ 0 := fun hc => h29 (by rw [hc]; rfl)
            refine z_aload_n hX 0 dM_edge_34 rfl rfl ?_
            refine z_get hX 0 1 rfl rfl (zu inM) (by decide) (List.mem_cons_of_mem _ mw_553) rfl dM_edge_35 ?_
            refine z_bipush hX (nI 24) dM_edge_38 (by decide) ?_
            refine z_icmp_neN hX 46 (by omega) (by omega) dM_edge_40 rfl (fun h40 => ?_) (fun h40 => ?_)
            · refine z_aload_n hX 0 dM_edge_46 rfl rfl ?_
              refine z_get hX 0 2 rfl rfl (zu inM) (by decide) (List.mem_cons_of_mem _ mw_554) rfl dM_edge_47 ?_
              refine z_aload_n hX 0 dM_edge_50 rfl rfl ?_
              refine z_get hX 0 1 rfl rfl (zu inM) (by decide) (List.mem_cons_of_mem _ mw_553) rfl dM_edge_51 ?_
              refine z_iload_n hX 1 dM_edge_54 rfl rfl ?_
              refine z_stN hX 1 0 _ _ rfl rfl rfl rfl (by omega) (by decide) dM_edge_55 ?_
              refine z_aload_n hX 0 dM_edge_56 rfl rfl ?_
              refine z_get hX 0 3 rfl rfl (zu inM) (by decide) (List.mem_cons_of_mem _ mw_555) rfl dM_edge_57 ?_
              refine z_aload_n hX 0 dM_edge_60 rfl rfl ?_
              refine z_get hX 0 1 rfl rfl (zu inM) (by decide) (List.mem_cons_of_mem _ mw_553) rfl dM_edge_61 ?_
              refine z_iload_n hX 2 dM_edge_64 rfl rfl ?_
              refine z_stN hX 2 0 _ _ rfl rfl rfl rfl (by omega) (by decide) dM_edge_65 ?_
              refine z_aload_n hX 0 dM_edge_66 rfl rfl ?_
              refine z_aload_n hX 0 dM_edge_67 rfl rfl ?_
              refine z_get hX 0 1 rfl rfl (zu inM) (by decide) (List.mem_cons_of_mem _ mw_553) rfl dM_edge_68 ?_
              refine z_iconst hX (nI 1) dM_edge_71 rfl ?_
              refine z_iaddN hX dM_edge_72 ?_
              refine z_put hX 0 1 rfl rfl (zu inM) tyM tyM_ok nmM (by decide) (List.mem_cons_of_mem _ mw_553) (Or.inl rfl) rfl rfl rfl (Nat.le_of_ble_eq_true rfl) dM_edge_73 ?_
              refine z_aload_n hX 0 dM_edge_76 rfl rfl ?_
              refine z_get hX 0 1 rfl rfl (zu inM) (by decide) (List.mem_cons_of_mem _ mw_553) rfl dM_edge_77 ?_
              refine z_iconst hX (nI 1) dM_edge_80 rfl ?_
              refine z_isubN hX (by omega) dM_edge_81 ?_
              refine z_iret hX rfl rfl rfl rfl dM_edge_82 ?_
              refine ⟨fun h => ?_, fun a1 b1 h1 h2 h3 h8 h5 h6 h7 => ?_⟩
              · exfalso
                rcases h with h | h | h | h | h
                · rw [h] at h4; cases h4
                · rw [h] at h12; cases h12
                · rw [h] at h20; cases h20
                · exact h25 ((nI_eq (a := a) (b := 1) (by omega) (by omega)).mp h)
                · exact h29 h
              · have ea := (nI_eq (a := a) (b := a1) (by omega) (by omega)).mp h8
                have eb := (nI_eq (a := b) (b := b1) (by omega) (by omega)).mp h5
                subst ea
                subst eb
                exact ⟨fun h9 => absurd h9 (by omega), fun _ => ⟨rfl, rfl⟩⟩
            · refine z_bipush hX (-2) dM_edge_43 (by decide) ?_
              refine z_iret hX rfl rfl rfl rfl dM_edge_45 ?_
              refine ⟨fun h => ?_, fun a1 b1 h1 h2 h3 h8 h5 h6 h7 => ⟨fun _ => ⟨rfl, rfl⟩, fun h9 => absurd h9 (by omega)⟩⟩
              exfalso
              rcases h with h | h | h | h | h
              · rw [h] at h4; cases h4
              · rw [h] at h12; cases h12
              · rw [h] at h20; cases h20
              · exact h25 ((nI_eq (a := a) (b := 1) (by omega) (by omega)).mp h)
              · exact h29 h
          · refine z_iconst hX (-1) dM_edge_32 rfl ?_
            refine z_iret hX rfl rfl rfl rfl dM_edge_33 ?_
            refine ⟨fun _ => ⟨rfl, rfl⟩, fun a1 b1 h1 h2 h3 h8 h5 h6 h7 => ?_⟩
            first
              | exact absurd (h1.symm.trans h4) (by decide)
              | exact absurd (h12.symm.trans (h8 ▸ zin_nI h2 (by omega))) (by decide)
              | exact absurd (h20.symm.trans (h5 ▸ zin_nI h3 (by omega))) (by decide)
              | exact absurd (((nI_eq (by omega) (by omega)).mp h8).symm.trans h25) h6
              | exact absurd ((nI_eq (a := b1) (b := b) (by omega) (by omega)).mp h5.symm ▸ (zi_eq0 (a := b) (by omega)).mp h29) h7

