/-! Links: spread, ways -/
set_option maxHeartbeats 1000000 in
set_option maxRecDepth 100000 in
theorem kK_startOfWay (l : Launch) (D : va_G) (cI cZ : ClassId) (lk g s kt rw vl sv bs ko : Nat) (R V SV : Nat → Nat) (B : Nat → Int) (o2 : Nat → Nat) (wy : Nat) (f t n m : Nat) (fr to : Nat → Nat) (ib fi sk lu : Nat) (Mt Op : Nat → Bool) (h : Nat) (bk : Nat → Bool) (fin st lq : Nat → Nat) (w : Nat) (hw : w < 2147483648) (hsv : ∀ e, e < m → bk e = true → SV e < 2147483648) (hn : 2 ≤ n ∧ n ≤ 12) (hm : m ≤ 24) (hok : ∀ e, e < m → fr e < n ∧ to e < n) : zM l yK_startOfWay wK_startOfWay rK_startOfWay D zCl (zTy cI cZ) zNW 0 0 [.ref lk, .int (nI w)] (wK cI lk g s kt rw vl sv bs ko (R) (V) (SV) (B) (o2) (wy) ++ wG cI g f t n m fr to ++ wS cI cZ s g ib fi sk lu Mt Op h bk fin st lq) (fun v wn => v = some (.int (zL (sw_last (zps bk SV w) m))) ∧ wn = wK cI lk g s kt rw vl sv bs ko (R) (V) (SV) (B) (o2) (wy) ++ wG cI g f t n m fr to ++ wS cI cZ s g ib fi sk lu Mt Op h bk fin st lq) := by
  refine z_met2 cK_startOfWay 4 (some .int) rfl rfl (Nat.le_of_ble_eq_true rfl) rfl (fun Z hX => ?_)
  show Z 0 0 0 [some (.ref lk), some (.int (nI w)), none, none] [] (wK cI lk g s kt rw vl sv bs ko (R) (V) (SV) (B) (o2) (wy) ++ wG cI g f t n m fr to ++ wS cI cZ s g ib fi sk lu Mt Op h bk fin st lq)
  refine z_iconst hX (-1) dK_startOfWay_0 rfl ?_
  refine z_istore_n hX 2 dK_startOfWay_1 rfl (by decide) ?_
  refine z_iconst hX (nI 0) dK_startOfWay_2 rfl ?_
  refine z_istore_n hX 3 dK_startOfWay_3 rfl (by decide) ?_
  refine zloop (P := fun e => Z 0 0 4 [some (.ref lk), some (.int (nI w)), some (.int (zL (sw_last (zps bk SV w) e))), some (.int (nI e))] [] (wK cI lk g s kt rw vl sv bs ko (R) (V) (SV) (B) (o2) (wy) ++ wG cI g f t n m fr to ++ wS cI cZ s g ib fi sk lu Mt Op h bk fin st lq)) m (fun e he ih => ?_) 0 (Nat.zero_le _)
  refine z_iload_n hX 3 dK_startOfWay_4 rfl rfl ?_
  refine z_aload_n hX 0 dK_startOfWay_5 rfl rfl ?_
  refine z_get hX 0 0 rfl rfl (zu inK) (by decide) (List.mem_cons_of_mem _ mw_151) rfl dK_startOfWay_6 ?_
  refine z_get hX 6 3 rfl rfl (zu inG) (by decide) (List.mem_cons_of_mem _ mw_56) rfl dK_startOfWay_9 ?_
  refine z_icmp_geN hX 45 (by omega) (by omega) dK_startOfWay_12 rfl (fun h12 => ?_) (fun h12 => ?_)
  · refine z_iload_n hX 2 dK_startOfWay_45 rfl rfl ?_
    refine z_iret hX rfl rfl rfl rfl dK_startOfWay_46 ?_
    have hem : e = m := by omega
    subst hem
    exact ⟨rfl, rfl⟩
  · refine z_aload_n hX 0 dK_startOfWay_15 rfl rfl ?_
    refine z_get hX 0 1 rfl rfl (zu inK) (by decide) (List.mem_cons_of_mem _ mw_152) rfl dK_startOfWay_16 ?_
    refine z_get hX 9 1 rfl rfl (zu inS) (by decide) (List.mem_cons_of_mem _ mw_75) rfl dK_startOfWay_19 ?_
    refine z_iload_n hX 3 dK_startOfWay_22 rfl rfl ?_
    refine z_ldB hX 10 1 _ rfl rfl rfl (by omega) (by decide) dK_startOfWay_23 ?_
    refine z_if_eqB hX 39 dK_startOfWay_24 rfl (fun h24 => ?_) (fun h24 => ?_)
    · have hs2 : sw_last (zps bk SV w) (e + 1) = sw_last (zps bk SV w) e := if_neg (fun hc => by simp [zps, h24] at hc)
      refine z_iinc hX 3 dK_startOfWay_39 rfl (zi_1 _) (by decide) ?_
      refine z_goto hX 4 dK_startOfWay_42 rfl ?_
      have hz := ih (by omega)
      rw [hs2] at hz
      exact hz
    · have hsve := hsv e (by omega) h24
      refine z_aload_n hX 0 dK_startOfWay_27 rfl rfl ?_
      refine z_get hX 0 5 rfl rfl (zu inK) (by decide) (List.mem_cons_of_mem _ mw_156) rfl dK_startOfWay_28 ?_
      refine z_iload_n hX 3 dK_startOfWay_31 rfl rfl ?_
      refine z_ldN hX 3 0 _ rfl rfl rfl (by omega) (by decide) dK_startOfWay_32 ?_
      refine z_iload_n hX 1 dK_startOfWay_33 rfl rfl ?_
      refine z_icmp_gtN hX 39 (by omega) (by omega) dK_startOfWay_34 rfl (fun h34 => ?_) (fun h34 => ?_)
      · have hs2 : sw_last (zps bk SV w) (e + 1) = sw_last (zps bk SV w) e := if_neg (fun hc => by simp [zps, h24] at hc; omega)
        refine z_iinc hX 3 dK_startOfWay_39 rfl (zi_1 _) (by decide) ?_
        refine z_goto hX 4 dK_startOfWay_42 rfl ?_
        have hz := ih (by omega)
        rw [hs2] at hz
        exact hz
      · have hs2 : sw_last (zps bk SV w) (e + 1) = e + 1 := if_pos (by simp [zps, h24]; omega)
        refine z_iload_n hX 3 dK_startOfWay_37 rfl rfl ?_
        refine z_istore_n hX 2 dK_startOfWay_38 rfl (by decide) ?_
        refine z_iinc hX 3 dK_startOfWay_39 rfl (zi_1 _) (by decide) ?_
        refine z_goto hX 4 dK_startOfWay_42 rfl ?_
        have hz := ih (by omega)
        rw [hs2] at hz
        exact hz

set_option maxHeartbeats 1000000 in
set_option maxRecDepth 100000 in
theorem kK_linkFrom (l : Launch) (D : va_G) (cI cZ : ClassId) (lk g s kt rw vl sv bs ko : Nat) (R V SV : Nat → Nat) (B : Nat → Int) (o2 : Nat → Nat) (wy : Nat) (f t n m : Nat) (fr to : Nat → Nat) (ib fi sk lu : Nat) (Mt Op : Nat → Bool) (h : Nat) (bk : Nat → Bool) (fin st lq : Nat → Nat) (b r : Nat) (hb : b < 12) (hr : r < 2147483648) (hv : ∀ e, e < m → V e < 2147483648) (hn : 2 ≤ n ∧ n ≤ 12) (hm : m ≤ 24) (hok : ∀ e, e < m → fr e < n ∧ to e < n) : zM l yK_linkFrom wK_linkFrom rK_linkFrom D zCl (zTy cI cZ) zNW 0 0 [.ref lk, .int (nI b), .int (nI r)] (wK cI lk g s kt rw vl sv bs ko (R) (V) (SV) (B) (o2) (wy) ++ wG cI g f t n m fr to ++ wS cI cZ s g ib fi sk lu Mt Op h bk fin st lq) (fun v wn => v = some (.int (zL (sw_last (zpl fr V b r) m))) ∧ wn = wK cI lk g s kt rw vl sv bs ko (R) (V) (SV) (B) (o2) (wy) ++ wG cI g f t n m fr to ++ wS cI cZ s g ib fi sk lu Mt Op h bk fin st lq) := by
  refine z_met2 cK_linkFrom 5 (some .int) rfl rfl (Nat.le_of_ble_eq_true rfl) rfl (fun Z hX => ?_)
  show Z 0 0 0 [some (.ref lk), some (.int (nI b)), some (.int (nI r)), none, none] [] (wK cI lk g s kt rw vl sv bs ko (R) (V) (SV) (B) (o2) (wy) ++ wG cI g f t n m fr to ++ wS cI cZ s g ib fi sk lu Mt Op h bk fin st lq)
  refine z_iconst hX (-1) dK_linkFrom_0 rfl ?_
  refine z_istore_n hX 3 dK_linkFrom_1 rfl (by decide) ?_
  refine z_iconst hX (nI 0) dK_linkFrom_2 rfl ?_
  refine z_istore hX 4 dK_linkFrom_3 (by decide) ?_
  refine zloop (P := fun e => Z 0 0 5 [some (.ref lk), some (.int (nI b)), some (.int (nI r)), some (.int (zL (sw_last (zpl fr V b r) e))), some (.int (nI e))] [] (wK cI lk g s kt rw vl sv bs ko (R) (V) (SV) (B) (o2) (wy) ++ wG cI g f t n m fr to ++ wS cI cZ s g ib fi sk lu Mt Op h bk fin st lq)) m (fun e he ih => ?_) 0 (Nat.zero_le _)
  refine z_iload hX 4 dK_linkFrom_5 rfl ?_
  refine z_aload_n hX 0 dK_linkFrom_7 rfl rfl ?_
  refine z_get hX 0 0 rfl rfl (zu inK) (by decide) (List.mem_cons_of_mem _ mw_151) rfl dK_linkFrom_8 ?_
  refine z_get hX 6 3 rfl rfl (zu inG) (by decide) (List.mem_cons_of_mem _ mw_56) rfl dK_linkFrom_11 ?_
  refine z_icmp_geN hX 51 (by omega) (by omega) dK_linkFrom_14 rfl (fun h14 => ?_) (fun h14 => ?_)
  · refine z_iload_n hX 3 dK_linkFrom_51 rfl rfl ?_
    refine z_iret hX rfl rfl rfl rfl dK_linkFrom_52 ?_
    have hem : e = m := by omega
    subst hem
    exact ⟨rfl, rfl⟩
  · have hoke := hok e (by omega)
    have hve := hv e (by omega)
    refine z_aload_n hX 0 dK_linkFrom_17 rfl rfl ?_
    refine z_get hX 0 0 rfl rfl (zu inK) (by decide) (List.mem_cons_of_mem _ mw_151) rfl dK_linkFrom_18 ?_
    refine z_get hX 6 1 rfl rfl (zu inG) (by decide) (List.mem_cons_of_mem _ mw_39) rfl dK_linkFrom_21 ?_
    refine z_iload hX 4 dK_linkFrom_24 rfl ?_
    refine z_ldN hX 7 0 _ rfl rfl rfl (by omega) (by decide) dK_linkFrom_26 ?_
    refine z_iload_n hX 1 dK_linkFrom_27 rfl rfl ?_
    refine z_icmp_neN hX 45 (by omega) (by omega) dK_linkFrom_28 rfl (fun h28 => ?_) (fun h28 => ?_)
    · have hs2 : sw_last (zpl fr V b r) (e + 1) = sw_last (zpl fr V b r) e := if_neg (fun hc => by simp [zpl, h28] at hc)
      refine z_iinc hX 4 dK_linkFrom_45 rfl (zi_1 _) (by decide) ?_
      refine z_goto hX 5 dK_linkFrom_48 rfl ?_
      have hz := ih (by omega)
      rw [hs2] at hz
      exact hz
    · refine z_aload_n hX 0 dK_linkFrom_31 rfl rfl ?_
      refine z_get hX 0 4 rfl rfl (zu inK) (by decide) (List.mem_cons_of_mem _ mw_155) rfl dK_linkFrom_32 ?_
      refine z_iload hX 4 dK_linkFrom_35 rfl ?_
      refine z_ldN hX 2 0 _ rfl rfl rfl (by omega) (by decide) dK_linkFrom_37 ?_
      refine z_iload_n hX 2 dK_linkFrom_38 rfl rfl ?_
      refine z_icmp_gtN hX 45 (by omega) (by omega) dK_linkFrom_39 rfl (fun h39 => ?_) (fun h39 => ?_)
      · have hs2 : sw_last (zpl fr V b r) (e + 1) = sw_last (zpl fr V b r) e := if_neg (fun hc => by simp [zpl, h28] at hc; omega)
        refine z_iinc hX 4 dK_linkFrom_45 rfl (zi_1 _) (by decide) ?_
        refine z_goto hX 5 dK_linkFrom_48 rfl ?_
        have hz := ih (by omega)
        rw [hs2] at hz
        exact hz
      · have hs2 : sw_last (zpl fr V b r) (e + 1) = e + 1 := if_pos (by simp [zpl, h28]; omega)
        refine z_iload hX 4 dK_linkFrom_42 rfl ?_
        refine z_istore_n hX 3 dK_linkFrom_44 rfl (by decide) ?_
        refine z_iinc hX 4 dK_linkFrom_45 rfl (zi_1 _) (by decide) ?_
        refine z_goto hX 5 dK_linkFrom_48 rfl ?_
        have hz := ih (by omega)
        rw [hs2] at hz
        exact hz

