/-! bit, isIn, Graph -/
set_option maxHeartbeats 4000000 in
set_option maxRecDepth 100000 in
theorem kA_bit (l : Launch) (D : va_G) (cI cZ : ClassId) (b : Nat) (hb : b < 31) : zM l yA_bit wA_bit rA_bit D zCl (zTy cI cZ) zNW 0 0 [.int (nI b)] ([]) (fun v wn => v = some (.int (bS (fun i => decide (i = b)))) ∧ wn = []) := by
  refine z_met2 cA_bit 1 (some .int) rfl rfl (Nat.le_of_ble_eq_true rfl) rfl (fun Z hX => ?_)
  show Z 0 0 0 [some (.int (nI b))] [] ([])
  refine z_iconst hX (nI 1) dA_bit_0 rfl ?_
  refine z_iload_n hX 0 dA_bit_1 rfl rfl ?_
  refine z_ishl hX dA_bit_2 ?_
  refine z_iret hX rfl rfl rfl rfl dA_bit_3 ?_
  exact ⟨by rw [show (nI 1 : Int32) = 1 from rfl, bS_bit hb], rfl⟩

set_option maxHeartbeats 4000000 in
set_option maxRecDepth 100000 in
theorem kA_isIn (l : Launch) (D : va_G) (cI cZ : ClassId) (S : Nat → Bool) (b : Nat) (hb : b < 31) : zM l yA_isIn wA_isIn rA_isIn D zCl (zTy cI cZ) zNW 0 0 [.int (bS S), .int (nI b)] ([]) (fun v wn => v = some (.int (bN (S b))) ∧ wn = []) := by
  refine z_met2 cA_isIn 2 (some .boolean) rfl rfl (Nat.le_of_ble_eq_true rfl) rfl (fun Z hX => ?_)
  show Z 0 0 0 [some (.int (bS S)), some (.int (nI b))] [] ([])
  refine z_iload_n hX 0 dA_isIn_0 rfl rfl ?_
  refine z_iload_n hX 1 dA_isIn_1 rfl rfl ?_
  refine z_ishr hX dA_isIn_2 ?_
  refine z_iconst hX (nI 1) dA_isIn_3 rfl ?_
  refine z_iand hX dA_isIn_4 ?_
  rw [show (nI 1 : Int32) = 1 from rfl, bS_in S hb]
  refine z_if_eqB hX 12 dA_isIn_5 rfl (fun h5 => ?_) (fun h5 => ?_)
  · refine z_iconst hX (bN false) dA_isIn_12 rfl ?_
    refine z_iret hX rfl (bN_n _) rfl rfl dA_isIn_13 ?_
    exact ⟨by rw [h5], rfl⟩
  · refine z_iconst hX (bN true) dA_isIn_8 rfl ?_
    refine z_goto hX 13 dA_isIn_9 rfl ?_
    refine z_iret hX rfl (bN_n _) rfl rfl dA_isIn_13 ?_
    exact ⟨by rw [h5], rfl⟩

set_option maxHeartbeats 4000000 in
set_option maxRecDepth 100000 in
theorem kG_hasBlock (l : Launch) (D : va_G) (cI cZ : ClassId) (g f t n m : Nat) (fr to : Nat → Nat) (x : Int32) : zM l yG_hasBlock wG_hasBlock rG_hasBlock D zCl (zTy cI cZ) zNW 0 0 [.ref g, .int x] (wG cI g f t n m fr to) (fun v wn => v = some (.int (bN (zin x n))) ∧ wn = wG cI g f t n m fr to) := by
  refine z_met2 cG_hasBlock 2 (some .boolean) rfl rfl (Nat.le_of_ble_eq_true rfl) rfl (fun Z hX => ?_)
  show Z 0 0 0 [some (.ref g), some (.int x)] [] (wG cI g f t n m fr to)
  refine z_iload_n hX 1 dG_hasBlock_0 rfl rfl ?_
  refine z_if_lt hX 16 dG_hasBlock_1 rfl (fun h1 => ?_) (fun h1 => ?_)
  · refine z_iconst hX (bN false) dG_hasBlock_16 rfl ?_
    refine z_iret hX rfl (bN_n _) rfl rfl dG_hasBlock_17 ?_
    exact ⟨by first | rw [zin_lt h1] | rw [zin_ge h9] | rw [zin_in h1 h9], rfl⟩
  · refine z_iload_n hX 1 dG_hasBlock_4 rfl rfl ?_
    refine z_aload_n hX 0 dG_hasBlock_5 rfl rfl ?_
    refine z_get hX 0 0 rfl rfl (zu inG) (by decide) (List.mem_cons_of_mem _ mw_31) rfl dG_hasBlock_6 ?_
    refine z_icmp_ge hX 16 dG_hasBlock_9 rfl (fun h9 => ?_) (fun h9 => ?_)
    · refine z_iconst hX (bN false) dG_hasBlock_16 rfl ?_
      refine z_iret hX rfl (bN_n _) rfl rfl dG_hasBlock_17 ?_
      exact ⟨by first | rw [zin_lt h1] | rw [zin_ge h9] | rw [zin_in h1 h9], rfl⟩
    · refine z_iconst hX (bN true) dG_hasBlock_12 rfl ?_
      refine z_goto hX 17 dG_hasBlock_13 rfl ?_
      refine z_iret hX rfl (bN_n _) rfl rfl dG_hasBlock_17 ?_
      exact ⟨by first | rw [zin_lt h1] | rw [zin_ge h9] | rw [zin_in h1 h9], rfl⟩

set_option maxHeartbeats 4000000 in
set_option maxRecDepth 100000 in
theorem kG_hasEdge (l : Launch) (D : va_G) (cI cZ : ClassId) (g f t n m : Nat) (fr to : Nat → Nat) (x : Int32) : zM l yG_hasEdge wG_hasEdge rG_hasEdge D zCl (zTy cI cZ) zNW 0 0 [.ref g, .int x] (wG cI g f t n m fr to) (fun v wn => v = some (.int (bN (zin x m))) ∧ wn = wG cI g f t n m fr to) := by
  refine z_met2 cG_hasEdge 2 (some .boolean) rfl rfl (Nat.le_of_ble_eq_true rfl) rfl (fun Z hX => ?_)
  show Z 0 0 0 [some (.ref g), some (.int x)] [] (wG cI g f t n m fr to)
  refine z_iload_n hX 1 dG_hasEdge_0 rfl rfl ?_
  refine z_if_lt hX 16 dG_hasEdge_1 rfl (fun h1 => ?_) (fun h1 => ?_)
  · refine z_iconst hX (bN false) dG_hasEdge_16 rfl ?_
    refine z_iret hX rfl (bN_n _) rfl rfl dG_hasEdge_17 ?_
    exact ⟨by first | rw [zin_lt h1] | rw [zin_ge h9] | rw [zin_in h1 h9], rfl⟩
  · refine z_iload_n hX 1 dG_hasEdge_4 rfl rfl ?_
    refine z_aload_n hX 0 dG_hasEdge_5 rfl rfl ?_
    refine z_get hX 0 3 rfl rfl (zu inG) (by decide) (List.mem_cons_of_mem _ mw_50) rfl dG_hasEdge_6 ?_
    refine z_icmp_ge hX 16 dG_hasEdge_9 rfl (fun h9 => ?_) (fun h9 => ?_)
    · refine z_iconst hX (bN false) dG_hasEdge_16 rfl ?_
      refine z_iret hX rfl (bN_n _) rfl rfl dG_hasEdge_17 ?_
      exact ⟨by first | rw [zin_lt h1] | rw [zin_ge h9] | rw [zin_in h1 h9], rfl⟩
    · refine z_iconst hX (bN true) dG_hasEdge_12 rfl ?_
      refine z_goto hX 17 dG_hasEdge_13 rfl ?_
      refine z_iret hX rfl (bN_n _) rfl rfl dG_hasEdge_17 ?_
      exact ⟨by first | rw [zin_lt h1] | rw [zin_ge h9] | rw [zin_in h1 h9], rfl⟩

set_option maxHeartbeats 4000000 in
set_option maxRecDepth 100000 in
theorem kG_nextFrom (l : Launch) (D : va_G) (cI cZ : ClassId) (g f t n m : Nat) (fr to : Nat → Nat) (b low : Nat) (hb : b < 2147483648) (hfr : ∀ e, e < m → fr e < 2147483648) (hm : m ≤ 24) (hlow : low ≤ m) : zM l yG_nextFrom wG_nextFrom rG_nextFrom D zCl (zTy cI cZ) zNW 0 0 [.ref g, .int (nI b), .int (nI low)] (wG cI g f t n m fr to) (fun v wn => v = some (.int (zE m (sg_nx fr b (m - low) low))) ∧ wn = wG cI g f t n m fr to) := by
  refine z_met2 cG_nextFrom 4 (some .int) rfl rfl (Nat.le_of_ble_eq_true rfl) rfl (fun Z hX => ?_)
  show Z 0 0 0 [some (.ref g), some (.int (nI b)), some (.int (nI low)), none] [] (wG cI g f t n m fr to)
  refine z_iload_n hX 2 dG_nextFrom_0 rfl rfl ?_
  refine z_istore_n hX 3 dG_nextFrom_1 rfl (by decide) ?_
  refine zloop (P := fun i => low ≤ i → sg_nx fr b (m - i) i = sg_nx fr b (m - low) low → Z 0 0 2 [some (.ref g), some (.int (nI b)), some (.int (nI low)), some (.int (nI i))] [] (wG cI g f t n m fr to)) m (fun i hi ih hl hs => ?_) low hlow (Nat.le_refl _) rfl
  refine z_iload_n hX 3 dG_nextFrom_2 rfl rfl ?_
  refine z_aload_n hX 0 dG_nextFrom_3 rfl rfl ?_
  refine z_get hX 0 3 rfl rfl (zu inG) (by decide) (List.mem_cons_of_mem _ mw_50) rfl dG_nextFrom_4 ?_
  refine z_icmp_geN hX 28 (by omega) (by omega) dG_nextFrom_7 rfl (fun h7 => ?_) (fun h7 => ?_)
  · refine z_iconst hX (-1) dG_nextFrom_28 rfl ?_
    refine z_iret hX rfl rfl rfl rfl dG_nextFrom_29 ?_
    exact ⟨by rw [← hs, sg_nx_end h7, zE_out h7], rfl⟩
  · refine z_aload_n hX 0 dG_nextFrom_10 rfl rfl ?_
    refine z_get hX 0 1 rfl rfl (zu inG) (by decide) (List.mem_cons_of_mem _ mw_37) rfl dG_nextFrom_11 ?_
    refine z_iload_n hX 3 dG_nextFrom_14 rfl rfl ?_
    refine z_ldN hX 1 0 _ rfl rfl rfl (by omega) (by decide) dG_nextFrom_15 ?_
    refine z_iload_n hX 1 dG_nextFrom_16 rfl rfl ?_
    have hfi := hfr i (by omega)
    refine z_icmp_neN hX 22 (by omega) (by omega) dG_nextFrom_17 rfl (fun h17 => ?_) (fun h17 => ?_)
    · refine z_iinc hX 3 dG_nextFrom_22 rfl (zi_1 _) (by decide) ?_
      refine z_goto hX 2 dG_nextFrom_25 rfl ?_
      exact ih h7 (by omega) (by rw [← hs, sg_nx_miss h7 h17])
    · refine z_iload_n hX 3 dG_nextFrom_20 rfl rfl ?_
      refine z_iret hX rfl rfl rfl rfl dG_nextFrom_21 ?_
      exact ⟨by rw [← hs, sg_nx_hit h7 h17, zE_in h7], rfl⟩

