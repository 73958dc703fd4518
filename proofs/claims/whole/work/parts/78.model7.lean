/-! the reference: increment, reset, countWay -/
theorem nI_mul (a b : Nat) : nI a * nI b = nI (a * b) := by
  rw [zi_of, zi_of, zi_of, ← Int32.ofInt_mul, Int.natCast_mul]
def zsm (wl wk tc : Nat → Nat) (pk w i : Nat) : Bool := decide (wl w = pk ∧ ∀ j, j < i → wk (16 * w + j) = tc j)
theorem zsm_f {wl wk tc : Nat → Nat} {pk w i k : Nat} (h : zsm wl wk tc pk w i = false) (hk : i ≤ k) : zsm wl wk tc pk w k = false := by
  refine decide_eq_false (fun hc => ?_)
  exact of_decide_eq_false h ⟨hc.1, fun j hj => hc.2 j (by omega)⟩
theorem zsm_t {wl wk tc : Nat → Nat} {pk w i : Nat} (h : zsm wl wk tc pk w i = true) (he : wk (16 * w + i) = tc i) : zsm wl wk tc pk w (i + 1) = true := by
  have h1 := of_decide_eq_true h
  refine decide_eq_true ⟨h1.1, fun j hj => ?_⟩
  by_cases hj2 : j = i
  · rw [hj2]; exact he
  · exact h1.2 j (by omega)
theorem zsm_n {wl wk tc : Nat → Nat} {pk w i : Nat} (he : wk (16 * w + i) ≠ tc i) : zsm wl wk tc pk w (i + 1) = false :=
  decide_eq_false (fun hc => he (hc.2 i (by omega)))
def zcwy (wl wk tc : Nat → Nat) (pk w : Nat) (s : Nat → Int) : Nat → Int := va_up s w (if zsm wl wk tc pk w pk = true then s w + 1 else s w)
set_option maxHeartbeats 400000 in
set_option maxRecDepth 100000 in
theorem kM_increment (l : Launch) (D : va_G) (cI cZ : ClassId) (ax : Nat) (r : Nat → Nat) (n m : Nat) (sl : Bool) (pr wy fo : Nat) (ru : Bool) (pl pk : Nat) (rs es : Int) (isL : Nat → Bool) (lf lt Rw : Nat → Nat) (B : Nat → Int) (bk : Nat → Bool) (x : Int32) (hm : m ≤ 24) (ho : ∀ q, q < m → lf q < 12 ∧ lt q < 12) (hlk : ∀ l, l < 48 → isL l = true → lf l < 12 ∧ lt l < 12) : zM l yM_increment wM_increment rM_increment D zCl (zTy cI cZ) zNW 0 0 [.ref ax, .int x] ([mO ax r (n) (m) (sl) (pr) (wy) (fo) (ru) (pl) (pk) (rs) (es), (r 13, .inl (cZ, 48, .inl (aB (isL)))), (r 14, .inl (cI, 48, .inl (aN (lf)))), (r 15, .inl (cI, 48, .inl (aN (lt)))), (r 16, .inl (cI, 12, .inl (aN (Rw)))), (r 19, .inl (cI, 12, .inl (aI (B)))), (r 8, .inl (cZ, 24, .inl (aB (bk))))]) (fun v wn => wn = [mO ax r (n) (m) (sl) (pr) (wy) (fo) (ru) (pl) (pk) (rs) (es), (r 13, .inl (cZ, 48, .inl (aB (isL)))), (r 14, .inl (cI, 48, .inl (aN (lf)))), (r 15, .inl (cI, 48, .inl (aN (lt)))), (r 16, .inl (cI, 12, .inl (aN (Rw)))), (r 19, .inl (cI, 12, .inl (aI (B)))), (r 8, .inl (cZ, 24, .inl (aB (bk))))] ∧ zR sl x m (-2147483648) (fun i => Int32.ofInt (sw_V isL lf lt Rw (i) + B (lf (i)) - B (lt (i)))) v) := by
  refine z_met2 cM_increment 2 (some .int) rfl rfl (Nat.le_of_ble_eq_true rfl) rfl (fun Z hX => ?_)
  show Z 0 0 0 [some (.ref ax), some (.int x)] [] ([mO ax r (n) (m) (sl) (pr) (wy) (fo) (ru) (pl) (pk) (rs) (es), (r 13, .inl (cZ, 48, .inl (aB (isL)))), (r 14, .inl (cI, 48, .inl (aN (lf)))), (r 15, .inl (cI, 48, .inl (aN (lt)))), (r 16, .inl (cI, 12, .inl (aN (Rw)))), (r 19, .inl (cI, 12, .inl (aI (B)))), (r 8, .inl (cZ, 24, .inl (aB (bk))))])
  refine z_aload_n hX 0 dM_increment_0 rfl rfl ?_
  refine z_iload_n hX 1 dM_increment_1 rfl rfl ?_
  refine z_Vr hX (kM_known l D cI cZ ax r n m sl pr wy fo ru pl pk rs es x) mw_755 mw_757 mp_3_9 mw_9 mw_758 rfl rfl ⟨rfl, by decide, by decide, rfl⟩ (by decide) 0 rfl rfl rfl rfl (Nat.le_of_ble_eq_true rfl) dM_increment_2 (by decide) [0] rfl rfl (fun v wn hv => ?_)
  obtain ⟨rfl, rfl⟩ := hv
  refine ⟨rfl, ?_⟩
  refine z_if_eqB hX 16 dM_increment_5 rfl (fun h5 => ?_) (fun h5 => ?_)
  · refine z_ldc hX (-2147483648) (List.mem_cons_of_mem _ mw_775) dM_increment_16 ?_
    refine z_iret hX rfl rfl rfl rfl dM_increment_18 ?_
    first
      | exact ⟨rfl, zR_out (by omega) h5⟩
      | exact ⟨rfl, zR_in (by omega) hsd hi (rfl)⟩
  · obtain ⟨hsd, i, hi, rfl⟩ := zkn (by omega) h5
    refine z_aload_n hX 0 dM_increment_8 rfl rfl ?_
    refine z_iload_n hX 1 dM_increment_9 rfl rfl ?_
    refine z_Vr hX (kM_added l D cI cZ ax r n m sl pr wy fo ru pl pk rs es isL lf lt Rw B (i) (by omega) (ho i hi).1 (ho i hi).2 hlk) mw_771 mw_773 mp_3_10 mw_9 mw_774 rfl rfl ⟨rfl, by decide, by decide, rfl⟩ (by decide) 0 rfl rfl rfl rfl (Nat.le_of_ble_eq_true rfl) dM_increment_10 (by decide) [0, 1, 2, 3, 4, 5] rfl rfl (fun v wn hv => ?_)
    obtain ⟨rfl, rfl⟩ := hv
    refine ⟨rfl, ?_⟩
    refine z_goto hX 18 dM_increment_13 rfl ?_
    refine z_iret hX rfl rfl rfl rfl dM_increment_18 ?_
    first
      | exact ⟨rfl, zR_out (by omega) h5⟩
      | exact ⟨rfl, zR_in (by omega) hsd hi (rfl)⟩

set_option maxHeartbeats 400000 in
set_option maxRecDepth 100000 in
theorem kM_reset (l : Launch) (D : va_G) (cI cZ : ClassId) (ax : Nat) (r : Nat → Nat) (n m : Nat) (sl : Bool) (pr wy fo : Nat) (ru : Bool) (pl pk : Nat) (rs es : Int) (isL : Nat → Bool) (lf lt Rw : Nat → Nat) (B : Nat → Int) (bk : Nat → Bool) (x : Int32) (hm : m ≤ 24) (ho : ∀ q, q < m → bk q = true → lf (24 + q) < 12 ∧ lt (24 + q) < 12) (hlk : ∀ l, l < 48 → isL l = true → lf l < 12 ∧ lt l < 12) : zM l yM_reset wM_reset rM_reset D zCl (zTy cI cZ) zNW 0 0 [.ref ax, .int x] ([mO ax r (n) (m) (sl) (pr) (wy) (fo) (ru) (pl) (pk) (rs) (es), (r 13, .inl (cZ, 48, .inl (aB (isL)))), (r 14, .inl (cI, 48, .inl (aN (lf)))), (r 15, .inl (cI, 48, .inl (aN (lt)))), (r 16, .inl (cI, 12, .inl (aN (Rw)))), (r 19, .inl (cI, 12, .inl (aI (B)))), (r 8, .inl (cZ, 24, .inl (aB (bk))))]) (fun v wn => wn = [mO ax r (n) (m) (sl) (pr) (wy) (fo) (ru) (pl) (pk) (rs) (es), (r 13, .inl (cZ, 48, .inl (aB (isL)))), (r 14, .inl (cI, 48, .inl (aN (lf)))), (r 15, .inl (cI, 48, .inl (aN (lt)))), (r 16, .inl (cI, 12, .inl (aN (Rw)))), (r 19, .inl (cI, 12, .inl (aI (B)))), (r 8, .inl (cZ, 24, .inl (aB (bk))))] ∧ zR sl x m (-2147483648) (fun i => if bk i = true then Int32.ofInt (sw_V isL lf lt Rw (24 + i) + B (lf (24 + i)) - B (lt (24 + i))) else -2147483648) v) := by
  refine z_met2 cM_reset 2 (some .int) rfl rfl (Nat.le_of_ble_eq_true rfl) rfl (fun Z hX => ?_)
  show Z 0 0 0 [some (.ref ax), some (.int x)] [] ([mO ax r (n) (m) (sl) (pr) (wy) (fo) (ru) (pl) (pk) (rs) (es), (r 13, .inl (cZ, 48, .inl (aB (isL)))), (r 14, .inl (cI, 48, .inl (aN (lf)))), (r 15, .inl (cI, 48, .inl (aN (lt)))), (r 16, .inl (cI, 12, .inl (aN (Rw)))), (r 19, .inl (cI, 12, .inl (aI (B)))), (r 8, .inl (cZ, 24, .inl (aB (bk))))])
  refine z_aload_n hX 0 dM_reset_0 rfl rfl ?_
  refine z_iload_n hX 1 dM_reset_1 rfl rfl ?_
  refine z_Vr hX (kM_known l D cI cZ ax r n m sl pr wy fo ru pl pk rs es x) mw_755 mw_757 mp_3_9 mw_9 mw_758 rfl rfl ⟨rfl, by decide, by decide, rfl⟩ (by decide) 0 rfl rfl rfl rfl (Nat.le_of_ble_eq_true rfl) dM_reset_2 (by decide) [0] rfl rfl (fun v wn hv => ?_)
  obtain ⟨rfl, rfl⟩ := hv
  refine ⟨rfl, ?_⟩
  refine z_if_eqB hX 28 dM_reset_5 rfl (fun h5 => ?_) (fun h5 => ?_)
  · refine z_ldc hX (-2147483648) (List.mem_cons_of_mem _ mw_775) dM_reset_28 ?_
    refine z_iret hX rfl rfl rfl rfl dM_reset_30 ?_
    first
      | exact ⟨rfl, zR_out (by omega) h5⟩
      | exact ⟨rfl, zR_in (by omega) hsd hi (hr)⟩
  · obtain ⟨hsd, i, hi, rfl⟩ := zkn (by omega) h5
    refine z_aload_n hX 0 dM_reset_8 rfl rfl ?_
    refine z_get hX 0 8 rfl rfl (zu inM) (by decide) (List.mem_cons_of_mem _ mw_560) rfl dM_reset_9 ?_
    refine z_iload_n hX 1 dM_reset_12 rfl rfl ?_
    refine z_ldB hX 6 1 _ rfl rfl rfl (by omega) (by decide) dM_reset_13 ?_
    refine z_if_eqB hX 28 dM_reset_14 rfl (fun h14 => ?_) (fun h14 => ?_)
    · have hr : (if bk i = true then Int32.ofInt (sw_V isL lf lt Rw (24 + i) + B (lf (24 + i)) - B (lt (24 + i))) else -2147483648) = -2147483648 := if_neg (by rw [h14]; decide)
      refine z_ldc hX (-2147483648) (List.mem_cons_of_mem _ mw_775) dM_reset_28 ?_
      refine z_iret hX rfl rfl rfl rfl dM_reset_30 ?_
      first
        | exact ⟨rfl, zR_out (by omega) h5⟩
        | exact ⟨rfl, zR_in (by omega) hsd hi (hr)⟩
    · have hr : (if bk i = true then Int32.ofInt (sw_V isL lf lt Rw (24 + i) + B (lf (24 + i)) - B (lt (24 + i))) else -2147483648) = Int32.ofInt (sw_V isL lf lt Rw (24 + i) + B (lf (24 + i)) - B (lt (24 + i))) := if_pos h14
      refine z_aload_n hX 0 dM_reset_17 rfl rfl ?_
      refine z_bipush hX (nI 24) dM_reset_18 (by decide) ?_
      refine z_iload_n hX 1 dM_reset_20 rfl rfl ?_
      refine z_iaddN hX dM_reset_21 ?_
      refine z_Vr hX (kM_added l D cI cZ ax r n m sl pr wy fo ru pl pk rs es isL lf lt Rw B (24 + i) (by omega) (ho i hi h14).1 (ho i hi h14).2 hlk) mw_771 mw_773 mp_3_10 mw_9 mw_774 rfl rfl ⟨rfl, by decide, by decide, rfl⟩ (by decide) 0 rfl rfl rfl rfl (Nat.le_of_ble_eq_true rfl) dM_reset_22 (by decide) [0, 1, 2, 3, 4, 5] rfl rfl (fun v wn hv => ?_)
      obtain ⟨rfl, rfl⟩ := hv
      refine ⟨rfl, ?_⟩
      refine z_goto hX 30 dM_reset_25 rfl ?_
      refine z_iret hX rfl rfl rfl rfl dM_reset_30 ?_
      first
        | exact ⟨rfl, zR_out (by omega) h5⟩
        | exact ⟨rfl, zR_in (by omega) hsd hi (hr)⟩

set_option maxHeartbeats 400000 in
set_option maxRecDepth 100000 in
theorem kM_countWay (l : Launch) (D : va_G) (cI cZ : ClassId) (ax : Nat) (r : Nat → Nat) (n m : Nat) (sl : Bool) (pr wy fo : Nat) (ru : Bool) (pl pk : Nat) (rs es : Int) (wl wk tc : Nat → Nat) (wc : Nat → Int) (hwy : wy ≤ 200) (hpk : pk ≤ 16) (hwl : ∀ w, w < wy → wl w ≤ 16) (hwk : ∀ w i, w < wy → i < 16 → wk (16 * w + i) < 2147483648) (htc : ∀ i, i < pk → tc i < 2147483648) : zM l yM_countWay wM_countWay rM_countWay D zCl (zTy cI cZ) zNW 0 0 [.ref ax] ([mO ax r (n) (m) (sl) (pr) (wy) (fo) (ru) (pl) (pk) (rs) (es), (r 24, .inl (cI, 200, .inl (aN (wl)))), (r 25, .inl (cI, 3200, .inl (aN (wk)))), (r 31, .inl (cI, 16, .inl (aN (tc)))), (r 34, .inl (cI, 200, .inl (aI (wc))))]) (fun v wn => v = none ∧ wn = [mO ax r (n) (m) (sl) (pr) (wy) (fo) (ru) (pl) (pk) (rs) (es), (r 24, .inl (cI, 200, .inl (aN (wl)))), (r 25, .inl (cI, 3200, .inl (aN (wk)))), (r 31, .inl (cI, 16, .inl (aN (tc)))), (r 34, .inl (cI, 200, .inl (aI (sp_it (zcwy wl wk tc pk) wy wc))))]) := by
  refine z_met2 cM_countWay 4 none rfl rfl (Nat.le_of_ble_eq_true rfl) rfl (fun Z hX => ?_)
  show Z 0 0 0 [some (.ref ax), none, none, none] [] ([mO ax r (n) (m) (sl) (pr) (wy) (fo) (ru) (pl) (pk) (rs) (es), (r 24, .inl (cI, 200, .inl (aN (wl)))), (r 25, .inl (cI, 3200, .inl (aN (wk)))), (r 31, .inl (cI, 16, .inl (aN (tc)))), (r 34, .inl (cI, 200, .inl (aI (wc))))])
  refine z_iconst hX (nI 0) dM_countWay_0 rfl ?_
  refine z_istore_n hX 1 dM_countWay_1 rfl (by decide) ?_
  refine zloop (P := fun w => Z 0 0 2 [some (.ref ax), some (.int (nI w)), none, none] [] ([mO ax r (n) (m) (sl) (pr) (wy) (fo) (ru) (pl) (pk) (rs) (es), (r 24, .inl (cI, 200, .inl (aN (wl)))), (r 25, .inl (cI, 3200, .inl (aN (wk)))), (r 31, .inl (cI, 16, .inl (aN (tc)))), (r 34, .inl (cI, 200, .inl (aI (sp_it (zcwy wl wk tc pk) w wc))))])) wy (fun w hw ih => ?_) 0 (Nat.zero_le _)
  refine z_iload_n hX 1 dM_countWay_2 rfl rfl ?_
  refine z_aload_n hX 0 dM_countWay_3 rfl rfl ?_
  refine z_get hX 0 23 rfl rfl (zu inM) (by decide) (List.mem_cons_of_mem _ mw_575) rfl dM_countWay_4 ?_
  refine z_icmp_geN hX 108 (by omega) (by omega) dM_countWay_7 rfl (fun h7 => ?_) (fun h7 => ?_)
  · refine z_vret hX rfl rfl rfl dM_countWay_108 ?_
    have hem : w = wy := by omega
    subst hem
    exact ⟨rfl, rfl⟩
  · have cut28 : Z 0 0 28 [some (.ref ax), some (.int (nI w)), none, none] [.int (bN (zsm wl wk tc pk w 0))] ([mO ax r (n) (m) (sl) (pr) (wy) (fo) (ru) (pl) (pk) (rs) (es), (r 24, .inl (cI, 200, .inl (aN (wl)))), (r 25, .inl (cI, 3200, .inl (aN (wk)))), (r 31, .inl (cI, 16, .inl (aN (tc)))), (r 34, .inl (cI, 200, .inl (aI (sp_it (zcwy wl wk tc pk) w wc))))]) := by
      refine z_istore_n hX 2 dM_countWay_28 rfl (by decide) ?_
      have cut75 : Z 0 0 75 [some (.ref ax), some (.int (nI w)), some (.int (bN (zsm wl wk tc pk w pk))), none] [] ([mO ax r (n) (m) (sl) (pr) (wy) (fo) (ru) (pl) (pk) (rs) (es), (r 24, .inl (cI, 200, .inl (aN (wl)))), (r 25, .inl (cI, 3200, .inl (aN (wk)))), (r 31, .inl (cI, 16, .inl (aN (tc)))), (r 34, .inl (cI, 200, .inl (aI (sp_it (zcwy wl wk tc pk) w wc))))]) := by
        refine z_aload_n hX 0 dM_countWay_75 rfl rfl ?_
        refine z_get hX 0 34 rfl rfl (zu inM) (by decide) (List.mem_cons_of_mem _ mw_586) rfl dM_countWay_76 ?_
        refine z_iload_n hX 1 dM_countWay_79 rfl rfl ?_
        refine z_iload_n hX 2 dM_countWay_80 rfl rfl ?_
        refine z_if_eqB hX 95 dM_countWay_81 rfl (fun h81 => ?_) (fun h81 => ?_)
        · have hs2 : zcwy wl wk tc pk w (sp_it (zcwy wl wk tc pk) w wc) = va_up (sp_it (zcwy wl wk tc pk) w wc) w ((sp_it (zcwy wl wk tc pk) w wc) w) := by
            show va_up _ w (if _ then _ else _) = _
            rw [if_neg (by rw [h81]; decide)]
          refine z_aload_n hX 0 dM_countWay_95 rfl rfl ?_
          refine z_get hX 0 34 rfl rfl (zu inM) (by decide) (List.mem_cons_of_mem _ mw_586) rfl dM_countWay_96 ?_
          refine z_iload_n hX 1 dM_countWay_99 rfl rfl ?_
          refine z_ldI hX 4 0 _ rfl rfl rfl (by omega) (by decide) dM_countWay_100 ?_
          refine z_stI hX 4 0 _ _ rfl rfl rfl rfl (by omega) (by decide) dM_countWay_101 ?_
          refine z_iinc hX 1 dM_countWay_102 rfl (zi_1 _) (by decide) ?_
          refine z_goto hX 2 dM_countWay_105 rfl ?_
          have hz := ih (by omega)
          rw [show sp_it (zcwy wl wk tc pk) (w + 1) wc = _ from hs2] at hz
          exact z_le2 hX hz (And.intro rfl (And.intro rfl trivial))
        · have hs2 : zcwy wl wk tc pk w (sp_it (zcwy wl wk tc pk) w wc) = va_up (sp_it (zcwy wl wk tc pk) w wc) w ((sp_it (zcwy wl wk tc pk) w wc) w + 1) := by
            show va_up _ w (if _ then _ else _) = _
            rw [if_pos h81]
          refine z_aload_n hX 0 dM_countWay_84 rfl rfl ?_
          refine z_get hX 0 34 rfl rfl (zu inM) (by decide) (List.mem_cons_of_mem _ mw_586) rfl dM_countWay_85 ?_
          refine z_iload_n hX 1 dM_countWay_88 rfl rfl ?_
          refine z_ldI hX 4 0 _ rfl rfl rfl (by omega) (by decide) dM_countWay_89 ?_
          refine z_iconst hX (nI 1) dM_countWay_90 rfl ?_
          refine z_iaddI hX ((sp_it (zcwy wl wk tc pk) w wc) w) 1 rfl rfl dM_countWay_91 ?_
          refine z_goto hX 101 dM_countWay_92 rfl ?_
          refine z_stI hX 4 0 _ _ rfl rfl rfl rfl (by omega) (by decide) dM_countWay_101 ?_
          refine z_iinc hX 1 dM_countWay_102 rfl (zi_1 _) (by decide) ?_
          refine z_goto hX 2 dM_countWay_105 rfl ?_
          have hz := ih (by omega)
          rw [show sp_it (zcwy wl wk tc pk) (w + 1) wc = _ from hs2] at hz
          exact z_le2 hX hz (And.intro rfl (And.intro rfl trivial))
      refine z_iconst hX (nI 0) dM_countWay_29 rfl ?_
      refine z_istore_n hX 3 dM_countWay_30 rfl (by decide) ?_
      refine zloop (P := fun i => Z 0 0 31 [some (.ref ax), some (.int (nI w)), some (.int (bN (zsm wl wk tc pk w i))), some (.int (nI i))] [] ([mO ax r (n) (m) (sl) (pr) (wy) (fo) (ru) (pl) (pk) (rs) (es), (r 24, .inl (cI, 200, .inl (aN (wl)))), (r 25, .inl (cI, 3200, .inl (aN (wk)))), (r 31, .inl (cI, 16, .inl (aN (tc)))), (r 34, .inl (cI, 200, .inl (aI (sp_it (zcwy wl wk tc pk) w wc))))])) pk (fun i hi ih2 => ?_) 0 (Nat.zero_le _)
      refine z_iload_n hX 3 dM_countWay_31 rfl rfl ?_
      refine z_aload_n hX 0 dM_countWay_32 rfl rfl ?_
      refine z_get hX 0 30 rfl rfl (zu inM) (by decide) (List.mem_cons_of_mem _ mw_582) rfl dM_countWay_33 ?_
      refine z_icmp_geN hX 75 (by omega) (by omega) dM_countWay_36 rfl (fun h36 => ?_) (fun h36 => ?_)
      · have hr : zsm wl wk tc pk w i = zsm wl wk tc pk w pk := by rw [show i = pk by omega]
        rw [← hr] at cut75
        exact z_le2 hX cut75 (And.intro rfl (And.intro rfl (And.intro rfl trivial)))
      · refine z_iload_n hX 2 dM_countWay_39 rfl rfl ?_
        refine z_if_eqB hX 75 dM_countWay_40 rfl (fun h40 => ?_) (fun h40 => ?_)
        · have hr : zsm wl wk tc pk w i = zsm wl wk tc pk w pk := by rw [h40, zsm_f h40 (by omega)]
          rw [← hr] at cut75
          exact z_le2 hX cut75 (And.intro rfl (And.intro rfl (And.intro rfl trivial)))
        · refine z_aload_n hX 0 dM_countWay_43 rfl rfl ?_
          refine z_get hX 0 25 rfl rfl (zu inM) (by decide) (List.mem_cons_of_mem _ mw_577) rfl dM_countWay_44 ?_
          refine z_bipush hX (nI 16) dM_countWay_47 (by decide) ?_
          refine z_iload_n hX 1 dM_countWay_49 rfl rfl ?_
          refine z_imul hX dM_countWay_50 ?_
          rw [nI_mul]
          refine z_iload_n hX 3 dM_countWay_51 rfl rfl ?_
          refine z_iaddN hX dM_countWay_52 ?_
          have hq1 := hwk w i (by omega) (by omega)
          have hq2 := htc i (by omega)
          refine z_ldN hX 2 0 _ rfl rfl rfl (by omega) (by decide) dM_countWay_53 ?_
          refine z_aload_n hX 0 dM_countWay_54 rfl rfl ?_
          refine z_get hX 0 31 rfl rfl (zu inM) (by decide) (List.mem_cons_of_mem _ mw_583) rfl dM_countWay_55 ?_
          refine z_iload_n hX 3 dM_countWay_58 rfl rfl ?_
          refine z_ldN hX 3 0 _ rfl rfl rfl (by omega) (by decide) dM_countWay_59 ?_
          refine z_icmp_neN hX 67 (by omega) (by omega) dM_countWay_60 rfl (fun h60 => ?_) (fun h60 => ?_)
          · have hr : zsm wl wk tc pk w (i + 1) = false := zsm_n h60
            refine z_iconst hX (bN false) dM_countWay_67 rfl ?_
            refine z_istore_n hX 2 dM_countWay_68 rfl (by decide) ?_
            refine z_iinc hX 3 dM_countWay_69 rfl (zi_1 _) (by decide) ?_
            refine z_goto hX 31 dM_countWay_72 rfl ?_
            have hz := ih2 (by omega)
            rw [hr] at hz
            exact hz
          · have hr : zsm wl wk tc pk w (i + 1) = true := zsm_t h40 h60
            refine z_iconst hX (bN true) dM_countWay_63 rfl ?_
            refine z_goto hX 68 dM_countWay_64 rfl ?_
            refine z_istore_n hX 2 dM_countWay_68 rfl (by decide) ?_
            refine z_iinc hX 3 dM_countWay_69 rfl (zi_1 _) (by decide) ?_
            refine z_goto hX 31 dM_countWay_72 rfl ?_
            have hz := ih2 (by omega)
            rw [hr] at hz
            exact hz
    refine z_aload_n hX 0 dM_countWay_10 rfl rfl ?_
    refine z_get hX 0 24 rfl rfl (zu inM) (by decide) (List.mem_cons_of_mem _ mw_576) rfl dM_countWay_11 ?_
    refine z_iload_n hX 1 dM_countWay_14 rfl rfl ?_
    refine z_ldN hX 1 0 _ rfl rfl rfl (by omega) (by decide) dM_countWay_15 ?_
    have hwlw := hwl w (by omega)
    refine z_aload_n hX 0 dM_countWay_16 rfl rfl ?_
    refine z_get hX 0 30 rfl rfl (zu inM) (by decide) (List.mem_cons_of_mem _ mw_582) rfl dM_countWay_17 ?_
    refine z_icmp_neN hX 27 (by omega) (by omega) dM_countWay_20 rfl (fun h20 => ?_) (fun h20 => ?_)
    · have hr : zsm wl wk tc pk w 0 = false := decide_eq_false (fun hc => h20 hc.1)
      refine z_iconst hX (bN false) dM_countWay_27 rfl ?_
      rw [hr] at cut28
      exact cut28
    · have hr : zsm wl wk tc pk w 0 = true := decide_eq_true ⟨h20, fun j hj => absurd hj (by omega)⟩
      refine z_iconst hX (bN true) dM_countWay_23 rfl ?_
      refine z_goto hX 28 dM_countWay_24 rfl ?_
      rw [hr] at cut28
      exact cut28

