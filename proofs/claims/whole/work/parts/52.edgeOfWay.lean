/-! words for the ways of Links -/
theorem zgo_1 {fr tg V : Nat → Nat} {m : Nat} {k : Int32} {s i b r : Nat} (h : b = 1) : zgo fr tg V m k (s + 1) i b r = -2147483648 := if_pos h
theorem zgo_0 {fr tg V : Nat → Nat} {m : Nat} {k : Int32} {s i b r : Nat} (h : ¬ b = 1) (h0 : sw_last (zpl fr V b r) m = 0) : zgo fr tg V m k (s + 1) i b r = -2147483648 := by
  show (if b = 1 then _ else _) = _
  rw [if_neg h, if_pos h0]
theorem zgo_hit {fr tg V : Nat → Nat} {m : Nat} {k : Int32} {s i b r e : Nat} (h : ¬ b = 1) (h0 : sw_last (zpl fr V b r) m = e + 1) (hk : nI i = k) : zgo fr tg V m k (s + 1) i b r = nI e := by
  show (if b = 1 then _ else _) = _
  rw [if_neg h, h0, if_neg (Nat.succ_ne_zero e), if_pos hk]
  rfl
theorem zgo_next {fr tg V : Nat → Nat} {m : Nat} {k : Int32} {s i b r e : Nat} (h : ¬ b = 1) (h0 : sw_last (zpl fr V b r) m = e + 1) (hk : ¬ nI i = k) : zgo fr tg V m k (s + 1) i b r = zgo fr tg V m k s (i + 1) (tg e) (r - V e) := by
  show (if b = 1 then _ else _) = _
  rw [if_neg h, h0, if_neg (Nat.succ_ne_zero e), if_neg hk]
  rfl
def zb0 (to : Nat → Nat) (t0 : Nat) : Nat := if t0 = 0 then 0 else to (t0 - 1)
def zr0 (SV : Nat → Nat) (w t0 : Nat) : Nat := if t0 = 0 then w else w - SV (t0 - 1)
set_option maxHeartbeats 1000000 in
set_option maxRecDepth 100000 in
theorem kK_edgeOfWay (l : Launch) (D : va_G) (cI cZ : ClassId) (lk g s kt rw vl sv bs ko : Nat) (R V SV : Nat → Nat) (B : Nat → Int) (o2 : Nat → Nat) (wy : Nat) (f t n m : Nat) (fr to : Nat → Nat) (ib fi sk lu : Nat) (Mt Op : Nat → Bool) (h : Nat) (bk : Nat → Bool) (fin st lq : Nat → Nat) (w t0 : Nat) (k : Int32) (hw : w < 2147483648) (ht0 : t0 ≤ m) (hsv : t0 ≠ 0 → SV (t0 - 1) ≤ w) (hv : ∀ e, e < m → V e < 2147483648) (hn : 2 ≤ n ∧ n ≤ 12) (hm : m ≤ 24) (hok : ∀ e, e < m → fr e < n ∧ to e < n) : zM l yK_edgeOfWay wK_edgeOfWay rK_edgeOfWay D zCl (zTy cI cZ) zNW 0 0 [.ref lk, .int (nI w), .int (zL t0), .int k] (wK cI lk g s kt rw vl sv bs ko (R) (V) (SV) (B) (o2) (wy) ++ wG cI g f t n m fr to ++ wS cI cZ s g ib fi sk lu Mt Op h bk fin st lq) (fun v wn => v = some (.int (zgo fr (ztg bk to) V m k (n - 1) (1) (zb0 to t0) (zr0 SV w t0))) ∧ wn = wK cI lk g s kt rw vl sv bs ko (R) (V) (SV) (B) (o2) (wy) ++ wG cI g f t n m fr to ++ wS cI cZ s g ib fi sk lu Mt Op h bk fin st lq) := by
  have hb0 : zb0 to t0 < 12 := by
    unfold zb0
    split
    · omega
    · have := hok (t0 - 1) (by omega)
      omega
  have hr0 : zr0 SV w t0 < 2147483648 := by
    unfold zr0
    split
    · exact hw
    · omega
  refine z_met2 cK_edgeOfWay 8 (some .int) rfl rfl (Nat.le_of_ble_eq_true rfl) rfl (fun Z hX => ?_)
  show Z 0 0 0 [some (.ref lk), some (.int (nI w)), some (.int (zL t0)), some (.int k), none, none, none, none] [] (wK cI lk g s kt rw vl sv bs ko (R) (V) (SV) (B) (o2) (wy) ++ wG cI g f t n m fr to ++ wS cI cZ s g ib fi sk lu Mt Op h bk fin st lq)
  refine z_iload_n hX 2 dK_edgeOfWay_0 rfl rfl ?_
  have cut17 : Z 0 0 17 [some (.ref lk), some (.int (nI w)), some (.int (zL t0)), some (.int k), none, none, none, none] [.int (nI (zb0 to t0))] (wK cI lk g s kt rw vl sv bs ko (R) (V) (SV) (B) (o2) (wy) ++ wG cI g f t n m fr to ++ wS cI cZ s g ib fi sk lu Mt Op h bk fin st lq) := by
    refine z_istore hX 4 dK_edgeOfWay_17 (by decide) ?_
    refine z_iload_n hX 2 dK_edgeOfWay_19 rfl rfl ?_
    have cut35 : Z 0 0 35 [some (.ref lk), some (.int (nI w)), some (.int (zL t0)), some (.int k), some (.int (nI (zb0 to t0))), none, none, none] [.int (nI (zr0 SV w t0))] (wK cI lk g s kt rw vl sv bs ko (R) (V) (SV) (B) (o2) (wy) ++ wG cI g f t n m fr to ++ wS cI cZ s g ib fi sk lu Mt Op h bk fin st lq) := by
      refine z_istore hX 5 dK_edgeOfWay_35 (by decide) ?_
      refine z_iconst hX (nI 1) dK_edgeOfWay_37 rfl ?_
      refine z_istore hX 6 dK_edgeOfWay_38 (by decide) ?_
      have hloop : ∀ j, j ≤ n - 1 → ∀ b r, b < 12 → r < 2147483648 → zgo fr (ztg bk to) V m k (n - 1 - j) (j + 1) (b) (r) = zgo fr (ztg bk to) V m k (n - 1) (1) (zb0 to t0) (zr0 SV w t0) → Z 0 0 40 [some (.ref lk), some (.int (nI w)), some (.int (zL t0)), some (.int k), some (.int (nI b)), some (.int (nI r)), some (.int (nI (j + 1))), none] [] (wK cI lk g s kt rw vl sv bs ko (R) (V) (SV) (B) (o2) (wy) ++ wG cI g f t n m fr to ++ wS cI cZ s g ib fi sk lu Mt Op h bk fin st lq) := by
        refine zloop (P := fun j => ∀ b r, b < 12 → r < 2147483648 → zgo fr (ztg bk to) V m k (n - 1 - j) (j + 1) (b) (r) = zgo fr (ztg bk to) V m k (n - 1) (1) (zb0 to t0) (zr0 SV w t0) → Z 0 0 40 [some (.ref lk), some (.int (nI w)), some (.int (zL t0)), some (.int k), some (.int (nI b)), some (.int (nI r)), some (.int (nI (j + 1))), none] [] (wK cI lk g s kt rw vl sv bs ko (R) (V) (SV) (B) (o2) (wy) ++ wG cI g f t n m fr to ++ wS cI cZ s g ib fi sk lu Mt Op h bk fin st lq)) (n - 1) (fun j hj ih => ?_)
        intro b r hb hr hg
        refine z_iload hX 6 dK_edgeOfWay_40 rfl ?_
        refine z_aload_n hX 0 dK_edgeOfWay_42 rfl rfl ?_
        refine z_get hX 0 0 rfl rfl (zu inK) (by decide) (List.mem_cons_of_mem _ mw_151) rfl dK_edgeOfWay_43 ?_
        refine z_get hX 6 0 rfl rfl (zu inG) (by decide) (List.mem_cons_of_mem _ mw_35) rfl dK_edgeOfWay_46 ?_
        refine z_icmp_geN hX 118 (by omega) (by omega) dK_edgeOfWay_49 rfl (fun h49 => ?_) (fun h49 => ?_)
        · refine z_ldc hX (-2147483648) (List.mem_cons_of_mem _ mw_510) dK_edgeOfWay_118 ?_
          refine z_iret hX rfl rfl rfl rfl dK_edgeOfWay_120 ?_
          first
            | (refine ⟨?_, rfl⟩; rw [← hg, hs1, zgo_1 h55])
            | (refine ⟨?_, rfl⟩; rw [← hg, show n - 1 - j = 0 by omega]; rfl)
        · have hs1 : n - 1 - j = (n - 1 - j - 1) + 1 := by omega
          refine z_iload hX 4 dK_edgeOfWay_52 rfl ?_
          refine z_iconst hX (nI 1) dK_edgeOfWay_54 rfl ?_
          refine z_icmp_eqN hX 118 (by omega) (by omega) dK_edgeOfWay_55 rfl (fun h55 => ?_) (fun h55 => ?_)
          · refine z_ldc hX (-2147483648) (List.mem_cons_of_mem _ mw_510) dK_edgeOfWay_118 ?_
            refine z_iret hX rfl rfl rfl rfl dK_edgeOfWay_120 ?_
            first
              | (refine ⟨?_, rfl⟩; rw [← hg, hs1, zgo_1 h55])
              | (refine ⟨?_, rfl⟩; rw [← hg, show n - 1 - j = 0 by omega]; rfl)
          · refine z_aload_n hX 0 dK_edgeOfWay_58 rfl rfl ?_
            refine z_iload hX 4 dK_edgeOfWay_59 rfl ?_
            refine z_iload hX 5 dK_edgeOfWay_61 rfl ?_
            refine z_Vr hX (kK_linkFrom l D cI cZ lk g s kt rw vl sv bs ko (R) (V) (SV) (B) (o2) (wy) f t n m fr to ib fi sk lu Mt Op h bk fin st lq b r hb hr hv hn hm hok) mw_506 mw_508 mp_2_5 mw_7 mw_509 rfl rfl ⟨rfl, by decide, by decide, rfl⟩ (by decide) 0 rfl rfl rfl rfl (Nat.le_of_ble_eq_true rfl) dK_edgeOfWay_63 (by decide) [0, 1, 2, 3, 4, 5, 6, 7, 8, 9, 10, 11, 12, 13] rfl rfl (fun v wn hv => ?_)
            obtain ⟨rfl, rfl⟩ := hv
            refine ⟨rfl, ?_⟩
            have hTle := sw_last_le (zpl fr V b r) m
            generalize hTT : sw_last (zpl fr V b r) m = T at hTle
            refine z_istore hX 7 dK_edgeOfWay_66 (by decide) ?_
            refine z_iload hX 7 dK_edgeOfWay_68 rfl ?_
            refine z_if_lt hX 79 dK_edgeOfWay_70 rfl (fun h70 => ?_) (fun h70 => ?_)
            · have hT0 : T = 0 := (zL_lt (by omega)).mp h70
              refine z_iload hX 7 dK_edgeOfWay_79 rfl ?_
              refine z_if_ge hX 89 dK_edgeOfWay_81 rfl (fun h81 => ?_) (fun h81 => ?_)
              · refine z_iload hX 7 dK_edgeOfWay_89 rfl ?_
                refine z_iret hX rfl rfl rfl rfl dK_edgeOfWay_91 ?_
                first
                  | exact absurd hT0 ((zL_ge (by omega)).mp h81)
                  | (refine ⟨?_, rfl⟩; rw [← hg, hs1, zgo_0 h55 (hTT.trans hT0)])
                  | exact absurd (zi_ge0 (by omega)) h81
                  | (refine ⟨?_, rfl⟩; rw [← hg, hs1, zgo_hit h55 hTT h76])
              · refine z_ldc hX (-2147483648) (List.mem_cons_of_mem _ mw_510) dK_edgeOfWay_84 ?_
                refine z_goto hX 91 dK_edgeOfWay_86 rfl ?_
                refine z_iret hX rfl rfl rfl rfl dK_edgeOfWay_91 ?_
                first
                  | exact absurd hT0 ((zL_ge (by omega)).mp h81)
                  | (refine ⟨?_, rfl⟩; rw [← hg, hs1, zgo_0 h55 (hTT.trans hT0)])
                  | exact absurd (zi_ge0 (by omega)) h81
                  | (refine ⟨?_, rfl⟩; rw [← hg, hs1, zgo_hit h55 hTT h76])
            · have hTn : ¬ T = 0 := fun hc => h70 ((zL_lt (by omega)).mpr hc)
              obtain ⟨e1, rfl⟩ : ∃ e1, T = e1 + 1 := ⟨T - 1, by omega⟩
              rw [zL_s]
              have hp := sw_last_p hTT
              have hp2 : V e1 ≤ r := by
                simp [zpl] at hp
                exact hp.2
              have hoke := hok e1 (by omega)
              have htg : ztg bk to e1 < 12 := by
                have := ztg_lt (bk := bk) hn.1 hoke.2
                omega
              refine z_iload hX 6 dK_edgeOfWay_73 rfl ?_
              refine z_iload_n hX 3 dK_edgeOfWay_75 rfl rfl ?_
              refine z_icmp_ne hX 92 dK_edgeOfWay_76 rfl (fun h76 => ?_) (fun h76 => ?_)
              · refine z_iload hX 5 dK_edgeOfWay_92 rfl ?_
                refine z_aload_n hX 0 dK_edgeOfWay_94 rfl rfl ?_
                refine z_get hX 0 4 rfl rfl (zu inK) (by decide) (List.mem_cons_of_mem _ mw_155) rfl dK_edgeOfWay_95 ?_
                refine z_iload hX 7 dK_edgeOfWay_98 rfl ?_
                refine z_ldN hX 2 0 _ rfl rfl rfl (by omega) (by decide) dK_edgeOfWay_100 ?_
                refine z_isubN hX hp2 dK_edgeOfWay_101 ?_
                refine z_istore hX 5 dK_edgeOfWay_102 (by decide) ?_
                refine z_aload_n hX 0 dK_edgeOfWay_104 rfl rfl ?_
                refine z_iload hX 7 dK_edgeOfWay_105 rfl ?_
                refine z_Vr hX (kK_targetOf l D cI cZ lk g s kt rw vl sv bs ko (R) (V) (SV) (B) (o2) (wy) f t n m fr to ib fi sk lu Mt Op h bk fin st lq e1 (by omega)) mw_300 mw_301 mw_302 mw_7 mw_303 rfl rfl ⟨rfl, by decide, by decide, rfl⟩ (by decide) 0 rfl rfl rfl rfl (Nat.le_of_ble_eq_true rfl) dK_edgeOfWay_107 (by decide) [0, 1, 2, 3, 4, 5, 6, 7, 8, 9, 10, 11, 12, 13] rfl rfl (fun v wn hv => ?_)
                obtain ⟨rfl, rfl⟩ := hv
                refine ⟨rfl, ?_⟩
                refine z_istore hX 4 dK_edgeOfWay_110 (by decide) ?_
                refine z_iinc hX 6 dK_edgeOfWay_112 rfl (zi_1 _) (by decide) ?_
                refine z_goto hX 40 dK_edgeOfWay_115 rfl ?_
                exact z_le2 hX (ih (by omega) _ _ htg (by omega) (by rw [← hg, hs1, zgo_next h55 hTT h76, show n - 1 - (j + 1) = n - 1 - j - 1 by omega])) (And.intro rfl (And.intro rfl (And.intro rfl (And.intro rfl (And.intro rfl (And.intro rfl (And.intro rfl trivial)))))))
              · refine z_iload hX 7 dK_edgeOfWay_79 rfl ?_
                refine z_if_ge hX 89 dK_edgeOfWay_81 rfl (fun h81 => ?_) (fun h81 => ?_)
                · refine z_iload hX 7 dK_edgeOfWay_89 rfl ?_
                  refine z_iret hX rfl rfl rfl rfl dK_edgeOfWay_91 ?_
                  first
                    | exact absurd hT0 ((zL_ge (by omega)).mp h81)
                    | (refine ⟨?_, rfl⟩; rw [← hg, hs1, zgo_0 h55 (hTT.trans hT0)])
                    | exact absurd (zi_ge0 (by omega)) h81
                    | (refine ⟨?_, rfl⟩; rw [← hg, hs1, zgo_hit h55 hTT h76])
                · refine z_ldc hX (-2147483648) (List.mem_cons_of_mem _ mw_510) dK_edgeOfWay_84 ?_
                  refine z_goto hX 91 dK_edgeOfWay_86 rfl ?_
                  refine z_iret hX rfl rfl rfl rfl dK_edgeOfWay_91 ?_
                  first
                    | exact absurd hT0 ((zL_ge (by omega)).mp h81)
                    | (refine ⟨?_, rfl⟩; rw [← hg, hs1, zgo_0 h55 (hTT.trans hT0)])
                    | exact absurd (zi_ge0 (by omega)) h81
                    | (refine ⟨?_, rfl⟩; rw [← hg, hs1, zgo_hit h55 hTT h76])
      exact hloop 0 (Nat.zero_le _) _ _ hb0 hr0 rfl
    refine z_if_ge hX 27 dK_edgeOfWay_20 rfl (fun h20 => ?_) (fun h20 => ?_)
    · obtain ⟨t1, rfl⟩ : ∃ t1, t0 = t1 + 1 := ⟨t0 - 1, by have := (zL_ge (t := t0) (by omega)).mp h20; omega⟩
      rw [zL_s]
      have hsv1 : SV t1 ≤ w := hsv (by omega)
      refine z_iload_n hX 1 dK_edgeOfWay_27 rfl rfl ?_
      refine z_aload_n hX 0 dK_edgeOfWay_28 rfl rfl ?_
      refine z_get hX 0 5 rfl rfl (zu inK) (by decide) (List.mem_cons_of_mem _ mw_156) rfl dK_edgeOfWay_29 ?_
      refine z_iload_n hX 2 dK_edgeOfWay_32 rfl rfl ?_
      refine z_ldN hX 3 0 _ rfl rfl rfl (by omega) (by decide) dK_edgeOfWay_33 ?_
      refine z_isubN hX hsv1 dK_edgeOfWay_34 ?_
      exact cut35
    · have ht : t0 = 0 := Classical.byContradiction (fun hc => h20 ((zL_ge (by omega)).mpr hc))
      subst ht
      refine z_iload_n hX 1 dK_edgeOfWay_23 rfl rfl ?_
      refine z_goto hX 35 dK_edgeOfWay_24 rfl ?_
      exact cut35
  refine z_if_ge hX 8 dK_edgeOfWay_1 rfl (fun h1 => ?_) (fun h1 => ?_)
  · obtain ⟨t1, rfl⟩ : ∃ t1, t0 = t1 + 1 := ⟨t0 - 1, by have := (zL_ge (t := t0) (by omega)).mp h1; omega⟩
    rw [zL_s]
    refine z_aload_n hX 0 dK_edgeOfWay_8 rfl rfl ?_
    refine z_get hX 0 0 rfl rfl (zu inK) (by decide) (List.mem_cons_of_mem _ mw_151) rfl dK_edgeOfWay_9 ?_
    refine z_get hX 6 2 rfl rfl (zu inG) (by decide) (List.mem_cons_of_mem _ mw_44) rfl dK_edgeOfWay_12 ?_
    refine z_iload_n hX 2 dK_edgeOfWay_15 rfl rfl ?_
    refine z_ldN hX 8 0 _ rfl rfl rfl (by omega) (by decide) dK_edgeOfWay_16 ?_
    exact cut17
  · have ht : t0 = 0 := Classical.byContradiction (fun hc => h1 ((zL_ge (by omega)).mpr hc))
    subst ht
    refine z_iconst hX (nI 0) dK_edgeOfWay_4 rfl ?_
    refine z_goto hX 17 dK_edgeOfWay_5 rfl ?_
    exact cut17

