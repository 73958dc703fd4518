/-! the law: its operations -/
set_option maxHeartbeats 400000 in
set_option maxRecDepth 100000 in
theorem kL_edge (l : Launch) (D : va_G) (cI cZ : ClassId) {Z : zF} (scr ax g s lo tr lk ct f t ib fi sk lu dp od hs gr kt rw vl sv bs ko hs2 gr2 bh ht sp cp mx : Nat) (r : Nat → Nat) {L : Nat} {xs : Nat → Int32} {nm : String} (hX : zLX Z l D cI cZ nm) (hsl : zSL Z scr L xs) (hL : L ≤ 1537) (n m : Nat) (fr to : Nat → Nat) (sd : Bool) (wh : Option Nat) (sm : Int) (Mt Op : Nat → Bool) (h : Nat) (bk : Nat → Bool) (fin st lq dep ord : Nat → Nat) (has : Nat → Bool) (grp R V SV : Nat → Nat) (B : Nat → Int) (o2 : Nat → Nat) (wy : Nat) (has2 : Nat → Bool) (grp2 : Nat → Nat) (Bh : Nat → Nat → Bool) (H St Cm : Nat → Int) (pr wy2 fo : Nat) (ru : Bool) (pl pk : Nat) (rs es : Int) (mt nx pa : Nat → Nat) (bk2 mk : Nat → Bool) (dep2 so : Nat → Nat) (it isL : Nat → Bool) (lf lt Rw : Nat → Nat) (lT bd : Nat → Bool) (B2 : Nat → Int) (pA pB wl wk tr2 tc : Nat → Nat) (ec bc wc sc : Nat → Int) (i : Nat) (hi : i + 2 < L) (hk : zLP Z cI cZ scr ax g s lo tr lk ct f t ib fi sk lu dp od hs gr kt rw vl sv bs ko hs2 gr2 bh ht sp cp mx r L xs i) (hJ : zJ (n) (m) (fr) (to) (sd) (wh) (sm) (bk) (dep) (has) (V) (SV) (B) (wy) (has2) (Bh) (H) (St) (Cm) (wy2) (ru) (pl) (pk) (rs) (es) (bk2) (dep2) (it) (isL) (lf) (lt) (Rw) (bd) (B2) (wl) (wk) (tc) (ec) (bc) (wc) (sc))  : Z 57 4840 136 [some (.ref scr), some (.ref ax), some (.ref mx), some (.int (nI i))] [] ([(ax, .inr (6, [.ref g, .ref s, .ref lo, .ref tr, .ref lk, .ref ct, .int (bN (sd)), .int (zbar (wh)), .int (Int32.ofInt (sm))])), (g, .inr (0, [.int (nI (n)), .ref f, .ref t, .int (nI (m))])), (f, .inl (cI, 24, .inl (aN (fr)))), (t, .inl (cI, 24, .inl (aN (to)))), (s, .inr (1, [.ref g, .ref ib, .ref fi, .ref sk, .ref lu, .int (bS (Mt)), .int (bS (Op)), .int (nI (h))])), (ib, .inl (cZ, 24, .inl (aB (bk)))), (fi, .inl (cI, 12, .inl (aN (fin)))), (sk, .inl (cI, 12, .inl (aN (st)))), (lu, .inl (cI, 12, .inl (aN (lq)))), (lo, .inr (2, [.ref g, .ref s, .ref dp, .ref od])), (dp, .inl (cI, 12, .inl (aN (dep)))), (od, .inl (cI, 24, .inl (aN (ord)))), (tr, .inr (3, [.ref g, .ref hs, .ref gr])), (hs, .inl (cZ, 24, .inl (aB (has)))), (gr, .inl (cI, 12, .inl (aN (grp)))), (lk, .inr (4, [.ref g, .ref s, .ref kt, .ref rw, .ref vl, .ref sv, .ref bs, .ref ko, .int (nI (wy))])), (rw, .inl (cI, 12, .inl (aN (R)))), (vl, .inl (cI, 24, .inl (aN (V)))), (sv, .inl (cI, 24, .inl (aN (SV)))), (bs, .inl (cI, 12, .inl (aI (B)))), (ko, .inl (cI, 24, .inl (aN (o2)))), (kt, .inr (3, [.ref g, .ref hs2, .ref gr2])), (hs2, .inl (cZ, 24, .inl (aB (has2)))), (gr2, .inl (cI, 12, .inl (aN (grp2)))), (ct, .inr (5, [.ref g, .ref tr, .ref bh, .ref ht, .ref sp, .ref cp])), (bh, .inl (cI, 24, .inl (aS (Bh)))), (ht, .inl (cI, 24, .inl (aI (H)))), (sp, .inl (cI, 12, .inl (aI (St)))), (cp, .inl (cI, 200, .inl (aI (Cm)))), mO mx r (n) (m) (sd) (pr) (wy2) (fo) (ru) (pl) (pk) (rs) (es), (r 2, .inl (cI, 24, .inl (aN (fr)))), (r 3, .inl (cI, 24, .inl (aN (to)))), (r 5, .inl (cI, 12, .inl (aN (mt)))), (r 6, .inl (cI, 12, .inl (aN (nx)))), (r 7, .inl (cI, 12, .inl (aN (pa)))), (r 8, .inl (cZ, 24, .inl (aB (bk2)))), (r 9, .inl (cZ, 12, .inl (aB (mk)))), (r 10, .inl (cI, 12, .inl (aN (dep2)))), (r 11, .inl (cI, 24, .inl (aN (so)))), (r 12, .inl (cZ, 24, .inl (aB (it)))), (r 13, .inl (cZ, 48, .inl (aB (isL)))), (r 14, .inl (cI, 48, .inl (aN (lf)))), (r 15, .inl (cI, 48, .inl (aN (lt)))), (r 16, .inl (cI, 12, .inl (aN (Rw)))), (r 17, .inl (cZ, 48, .inl (aB (lT)))), (r 18, .inl (cZ, 12, .inl (aB (bd)))), (r 19, .inl (cI, 12, .inl (aI (B2)))), (r 21, .inl (cI, 48, .inl (aN (pA)))), (r 22, .inl (cI, 48, .inl (aN (pB)))), (r 24, .inl (cI, 200, .inl (aN (wl)))), (r 25, .inl (cI, 3200, .inl (aN (wk)))), (r 27, .inl (cI, 16, .inl (aN (tr2)))), (r 31, .inl (cI, 16, .inl (aN (tc)))), (r 32, .inl (cI, 24, .inl (aI (ec)))), (r 33, .inl (cI, 12, .inl (aI (bc)))), (r 34, .inl (cI, 200, .inl (aI (wc)))), (r 35, .inl (cI, 12, .inl (aI (sc))))]) := by
  obtain ⟨hn, hm, hok, hfr, hto⟩ := zJ_hok hJ
  have hwh := zJ_wh hJ
  have hzu := zJ_zun hJ
  have hJc := hJ
  obtain ⟨c1, c2, c3, c4, c5, c6, c7, c8, c9, c10, c11, c12, c13, c14⟩ := hJc
  rcases zecase (xs (i + 1)) (xs (i + 2)) n sd (by omega) with hbad | ⟨a, b, hsd, ha, hb, hxa, hzb, ha1, hb0⟩
  · skip
    refine z_aload_n hX 1 dL_law_136 rfl rfl ?_
    refine z_aload_n hX 0 dL_law_137 rfl rfl ?_
    refine z_iload_n hX 3 dL_law_138 rfl rfl ?_
    refine z_iconst hX (nI 1) dL_law_139 rfl ?_
    refine z_iaddN hX dL_law_140 ?_
    refine hsl.1 _ _ _ _ _ _ (i + 1) (by omega) dL_law_141 ?_
    refine z_aload_n hX 0 dL_law_142 rfl rfl ?_
    refine z_iload_n hX 3 dL_law_143 rfl rfl ?_
    refine z_iconst hX (nI 2) dL_law_144 rfl ?_
    refine z_iaddN hX dL_law_145 ?_
    refine hsl.1 _ _ _ _ _ _ (i + 2) (by omega) dL_law_146 ?_
    refine z_Vr hX (kA_edge l D cI cZ ax g s lo tr lk ct sd wh sm f t n m fr to (xs (i + 1)) (xs (i + 2)) hn hm) mw_235 mw_236 mw_237 mw_1 mw_238 rfl rfl ⟨rfl, by decide, by decide, rfl⟩ (by decide) 0 rfl rfl rfl rfl (Nat.le_of_ble_eq_true rfl) dL_law_147 (by decide) [0, 1, 2, 3] rfl rfl (fun v wn hv => ?_)
    have hv := hv.1 hbad
    obtain ⟨rfl, rfl⟩ := hv
    refine ⟨rfl, ?_⟩
    refine z_aload_n hX 2 dL_law_150 rfl rfl ?_
    refine z_aload_n hX 0 dL_law_151 rfl rfl ?_
    refine z_iload_n hX 3 dL_law_152 rfl rfl ?_
    refine z_iconst hX (nI 1) dL_law_153 rfl ?_
    refine z_iaddN hX dL_law_154 ?_
    refine hsl.1 _ _ _ _ _ _ (i + 1) (by omega) dL_law_155 ?_
    refine z_aload_n hX 0 dL_law_156 rfl rfl ?_
    refine z_iload_n hX 3 dL_law_157 rfl rfl ?_
    refine z_iconst hX (nI 2) dL_law_158 rfl ?_
    refine z_iaddN hX dL_law_159 ?_
    refine hsl.1 _ _ _ _ _ _ (i + 2) (by omega) dL_law_160 ?_
    refine z_Vr hX (kM_edge l D cI cZ mx r (n) (m) (sd) (pr) (wy2) (fo) (ru) (pl) (pk) (rs) (es) fr to (xs (i + 1)) (xs (i + 2)) hn hm) mw_667 mw_668 mw_669 mw_9 mw_670 rfl rfl ⟨rfl, by decide, by decide, rfl⟩ (by decide) 29 rfl rfl rfl rfl (Nat.le_of_ble_eq_true rfl) dL_law_161 (by decide) [29, 30, 31] rfl rfl (fun v wn hv => ?_)
    have hv := hv.1 hbad
    obtain ⟨rfl, rfl⟩ := hv
    refine ⟨rfl, ?_⟩
    refine z_icmp_eq hX 564 dL_law_164 rfl (fun h164 => ?_) (fun h164 => ?_)
    · have hJ2 := hJ
      exact hk _ _ _ _ _ _ _ _ _ _ _ _ _ _ _ _ _ _ _ _ _ _ _ _ _ _ _ _ _ _ _ _ _ _ _ _ _ _ _ _ _ _ _ _ _ _ _ _ _ _ _ _ _ _ _ _ _ _ _ _ _ _ _ hJ2
    · exact absurd (rfl) h164
  · rcases Nat.lt_or_ge m 24 with hml | hml
    · skip
      refine z_aload_n hX 1 dL_law_136 rfl rfl ?_
      refine z_aload_n hX 0 dL_law_137 rfl rfl ?_
      refine z_iload_n hX 3 dL_law_138 rfl rfl ?_
      refine z_iconst hX (nI 1) dL_law_139 rfl ?_
      refine z_iaddN hX dL_law_140 ?_
      refine hsl.1 _ _ _ _ _ _ (i + 1) (by omega) dL_law_141 ?_
      refine z_aload_n hX 0 dL_law_142 rfl rfl ?_
      refine z_iload_n hX 3 dL_law_143 rfl rfl ?_
      refine z_iconst hX (nI 2) dL_law_144 rfl ?_
      refine z_iaddN hX dL_law_145 ?_
      refine hsl.1 _ _ _ _ _ _ (i + 2) (by omega) dL_law_146 ?_
      refine z_Vy hX (kA_edge l D cI cZ ax g s lo tr lk ct sd wh sm f t n m fr to (xs (i + 1)) (xs (i + 2)) hn hm) mw_235 mw_236 mw_237 mw_1 mw_238 rfl rfl ⟨rfl, by decide, by decide, rfl⟩ (by decide) 0 rfl rfl rfl rfl (Nat.le_of_ble_eq_true rfl) dL_law_147 (by decide) [0, 1, 2, 3] rfl rfl [4, 5, 6, 7, 8, 9, 10, 11, 12, 13, 14, 15, 16, 17, 18, 19, 20, 21, 22, 23, 24, 25, 26, 27, 28, 29, 30, 31, 32, 33, 34, 35, 36, 37, 38, 39, 40, 41, 42, 43, 44, 45, 46, 47, 48, 49, 50, 51, 52, 53, 54, 55, 56] 57 (by decide) (by decide) (fun v wn hv => ?_)
      have hv := (hv.2 a b hsd ha hb hxa hzb ha1 hb0).2 hml
      obtain ⟨rfl, rfl⟩ := hv
      refine ⟨[(ax, .inr (6, [.ref g, .ref s, .ref lo, .ref tr, .ref lk, .ref ct, .int (bN (sd)), .int (zbar (wh)), .int (Int32.ofInt (sm))])), (g, .inr (0, [.int (nI (n)), .ref f, .ref t, .int (nI (m + 1))])), (f, .inl (cI, 24, .inl (aN (va_up fr m a)))), (t, .inl (cI, 24, .inl (aN (va_up to m b)))), (s, .inr (1, [.ref g, .ref ib, .ref fi, .ref sk, .ref lu, .int (bS (Mt)), .int (bS (Op)), .int (nI (h))])), (ib, .inl (cZ, 24, .inl (aB (bk)))), (fi, .inl (cI, 12, .inl (aN (fin)))), (sk, .inl (cI, 12, .inl (aN (st)))), (lu, .inl (cI, 12, .inl (aN (lq)))), (lo, .inr (2, [.ref g, .ref s, .ref dp, .ref od])), (dp, .inl (cI, 12, .inl (aN (dep)))), (od, .inl (cI, 24, .inl (aN (ord)))), (tr, .inr (3, [.ref g, .ref hs, .ref gr])), (hs, .inl (cZ, 24, .inl (aB (has)))), (gr, .inl (cI, 12, .inl (aN (grp)))), (lk, .inr (4, [.ref g, .ref s, .ref kt, .ref rw, .ref vl, .ref sv, .ref bs, .ref ko, .int (nI (wy))])), (rw, .inl (cI, 12, .inl (aN (R)))), (vl, .inl (cI, 24, .inl (aN (V)))), (sv, .inl (cI, 24, .inl (aN (SV)))), (bs, .inl (cI, 12, .inl (aI (B)))), (ko, .inl (cI, 24, .inl (aN (o2)))), (kt, .inr (3, [.ref g, .ref hs2, .ref gr2])), (hs2, .inl (cZ, 24, .inl (aB (has2)))), (gr2, .inl (cI, 12, .inl (aN (grp2)))), (ct, .inr (5, [.ref g, .ref tr, .ref bh, .ref ht, .ref sp, .ref cp])), (bh, .inl (cI, 24, .inl (aS (Bh)))), (ht, .inl (cI, 24, .inl (aI (H)))), (sp, .inl (cI, 12, .inl (aI (St)))), (cp, .inl (cI, 200, .inl (aI (Cm)))), mO mx r (n) (m) (sd) (pr) (wy2) (fo) (ru) (pl) (pk) (rs) (es), (r 2, .inl (cI, 24, .inl (aN (fr)))), (r 3, .inl (cI, 24, .inl (aN (to)))), (r 5, .inl (cI, 12, .inl (aN (mt)))), (r 6, .inl (cI, 12, .inl (aN (nx)))), (r 7, .inl (cI, 12, .inl (aN (pa)))), (r 8, .inl (cZ, 24, .inl (aB (bk2)))), (r 9, .inl (cZ, 12, .inl (aB (mk)))), (r 10, .inl (cI, 12, .inl (aN (dep2)))), (r 11, .inl (cI, 24, .inl (aN (so)))), (r 12, .inl (cZ, 24, .inl (aB (it)))), (r 13, .inl (cZ, 48, .inl (aB (isL)))), (r 14, .inl (cI, 48, .inl (aN (lf)))), (r 15, .inl (cI, 48, .inl (aN (lt)))), (r 16, .inl (cI, 12, .inl (aN (Rw)))), (r 17, .inl (cZ, 48, .inl (aB (lT)))), (r 18, .inl (cZ, 12, .inl (aB (bd)))), (r 19, .inl (cI, 12, .inl (aI (B2)))), (r 21, .inl (cI, 48, .inl (aN (pA)))), (r 22, .inl (cI, 48, .inl (aN (pB)))), (r 24, .inl (cI, 200, .inl (aN (wl)))), (r 25, .inl (cI, 3200, .inl (aN (wk)))), (r 27, .inl (cI, 16, .inl (aN (tr2)))), (r 31, .inl (cI, 16, .inl (aN (tc)))), (r 32, .inl (cI, 24, .inl (aI (ec)))), (r 33, .inl (cI, 12, .inl (aI (bc)))), (r 34, .inl (cI, 200, .inl (aI (wc)))), (r 35, .inl (cI, 12, .inl (aI (sc))))], rfl, (And.intro ⟨_, rfl, rfl⟩ (And.intro ⟨_, rfl, rfl⟩ (And.intro ⟨_, rfl, rfl⟩ (And.intro ⟨_, rfl, rfl⟩ (And.intro ⟨_, rfl, rfl⟩ (And.intro ⟨_, rfl, rfl⟩ (And.intro ⟨_, rfl, rfl⟩ (And.intro ⟨_, rfl, rfl⟩ (And.intro ⟨_, rfl, rfl⟩ (And.intro ⟨_, rfl, rfl⟩ (And.intro ⟨_, rfl, rfl⟩ (And.intro ⟨_, rfl, rfl⟩ (And.intro ⟨_, rfl, rfl⟩ (And.intro ⟨_, rfl, rfl⟩ (And.intro ⟨_, rfl, rfl⟩ (And.intro ⟨_, rfl, rfl⟩ (And.intro ⟨_, rfl, rfl⟩ (And.intro ⟨_, rfl, rfl⟩ (And.intro ⟨_, rfl, rfl⟩ (And.intro ⟨_, rfl, rfl⟩ (And.intro ⟨_, rfl, rfl⟩ (And.intro ⟨_, rfl, rfl⟩ (And.intro ⟨_, rfl, rfl⟩ (And.intro ⟨_, rfl, rfl⟩ (And.intro ⟨_, rfl, rfl⟩ (And.intro ⟨_, rfl, rfl⟩ (And.intro ⟨_, rfl, rfl⟩ (And.intro ⟨_, rfl, rfl⟩ (And.intro ⟨_, rfl, rfl⟩ (And.intro ⟨_, rfl, rfl⟩ (And.intro ⟨_, rfl, rfl⟩ (And.intro ⟨_, rfl, rfl⟩ (And.intro ⟨_, rfl, rfl⟩ (And.intro ⟨_, rfl, rfl⟩ (And.intro ⟨_, rfl, rfl⟩ (And.intro ⟨_, rfl, rfl⟩ (And.intro ⟨_, rfl, rfl⟩ (And.intro ⟨_, rfl, rfl⟩ (And.intro ⟨_, rfl, rfl⟩ (And.intro ⟨_, rfl, rfl⟩ (And.intro ⟨_, rfl, rfl⟩ (And.intro ⟨_, rfl, rfl⟩ (And.intro ⟨_, rfl, rfl⟩ (And.intro ⟨_, rfl, rfl⟩ (And.intro ⟨_, rfl, rfl⟩ (And.intro ⟨_, rfl, rfl⟩ (And.intro ⟨_, rfl, rfl⟩ (And.intro ⟨_, rfl, rfl⟩ (And.intro ⟨_, rfl, rfl⟩ (And.intro ⟨_, rfl, rfl⟩ (And.intro ⟨_, rfl, rfl⟩ (And.intro ⟨_, rfl, rfl⟩ (And.intro ⟨_, rfl, rfl⟩ trivial))))))))))))))))))))))))))))))))))))))))))))))))))))), rfl, ?_⟩
      refine z_aload_n hX 2 dL_law_150 rfl rfl ?_
      refine z_aload_n hX 0 dL_law_151 rfl rfl ?_
      refine z_iload_n hX 3 dL_law_152 rfl rfl ?_
      refine z_iconst hX (nI 1) dL_law_153 rfl ?_
      refine z_iaddN hX dL_law_154 ?_
      refine hsl.1 _ _ _ _ _ _ (i + 1) (by omega) dL_law_155 ?_
      refine z_aload_n hX 0 dL_law_156 rfl rfl ?_
      refine z_iload_n hX 3 dL_law_157 rfl rfl ?_
      refine z_iconst hX (nI 2) dL_law_158 rfl ?_
      refine z_iaddN hX dL_law_159 ?_
      refine hsl.1 _ _ _ _ _ _ (i + 2) (by omega) dL_law_160 ?_
      refine z_Vy hX (kM_edge l D cI cZ mx r (n) (m) (sd) (pr) (wy2) (fo) (ru) (pl) (pk) (rs) (es) fr to (xs (i + 1)) (xs (i + 2)) hn hm) mw_667 mw_668 mw_669 mw_9 mw_670 rfl rfl ⟨rfl, by decide, by decide, rfl⟩ (by decide) 29 rfl rfl rfl rfl (Nat.le_of_ble_eq_true rfl) dL_law_161 (by decide) [29, 30, 31] rfl rfl [0, 1, 2, 3, 4, 5, 6, 7, 8, 9, 10, 11, 12, 13, 14, 15, 16, 17, 18, 19, 20, 21, 22, 23, 24, 25, 26, 27, 28, 32, 33, 34, 35, 36, 37, 38, 39, 40, 41, 42, 43, 44, 45, 46, 47, 48, 49, 50, 51, 52, 53, 54, 55, 56] 57 (by decide) (by decide) (fun v wn hv => ?_)
      have hv := (hv.2 a b hsd ha hb hxa hzb ha1 hb0).2 hml
      obtain ⟨rfl, rfl⟩ := hv
      refine ⟨[(ax, .inr (6, [.ref g, .ref s, .ref lo, .ref tr, .ref lk, .ref ct, .int (bN (sd)), .int (zbar (wh)), .int (Int32.ofInt (sm))])), (g, .inr (0, [.int (nI (n)), .ref f, .ref t, .int (nI (m + 1))])), (f, .inl (cI, 24, .inl (aN (va_up fr m a)))), (t, .inl (cI, 24, .inl (aN (va_up to m b)))), (s, .inr (1, [.ref g, .ref ib, .ref fi, .ref sk, .ref lu, .int (bS (Mt)), .int (bS (Op)), .int (nI (h))])), (ib, .inl (cZ, 24, .inl (aB (bk)))), (fi, .inl (cI, 12, .inl (aN (fin)))), (sk, .inl (cI, 12, .inl (aN (st)))), (lu, .inl (cI, 12, .inl (aN (lq)))), (lo, .inr (2, [.ref g, .ref s, .ref dp, .ref od])), (dp, .inl (cI, 12, .inl (aN (dep)))), (od, .inl (cI, 24, .inl (aN (ord)))), (tr, .inr (3, [.ref g, .ref hs, .ref gr])), (hs, .inl (cZ, 24, .inl (aB (has)))), (gr, .inl (cI, 12, .inl (aN (grp)))), (lk, .inr (4, [.ref g, .ref s, .ref kt, .ref rw, .ref vl, .ref sv, .ref bs, .ref ko, .int (nI (wy))])), (rw, .inl (cI, 12, .inl (aN (R)))), (vl, .inl (cI, 24, .inl (aN (V)))), (sv, .inl (cI, 24, .inl (aN (SV)))), (bs, .inl (cI, 12, .inl (aI (B)))), (ko, .inl (cI, 24, .inl (aN (o2)))), (kt, .inr (3, [.ref g, .ref hs2, .ref gr2])), (hs2, .inl (cZ, 24, .inl (aB (has2)))), (gr2, .inl (cI, 12, .inl (aN (grp2)))), (ct, .inr (5, [.ref g, .ref tr, .ref bh, .ref ht, .ref sp, .ref cp])), (bh, .inl (cI, 24, .inl (aS (Bh)))), (ht, .inl (cI, 24, .inl (aI (H)))), (sp, .inl (cI, 12, .inl (aI (St)))), (cp, .inl (cI, 200, .inl (aI (Cm)))), mO mx r (n) (m + 1) (sd) (pr) (wy2) (fo) (ru) (pl) (pk) (rs) (es), (r 2, .inl (cI, 24, .inl (aN (va_up fr m a)))), (r 3, .inl (cI, 24, .inl (aN (va_up to m b)))), (r 5, .inl (cI, 12, .inl (aN (mt)))), (r 6, .inl (cI, 12, .inl (aN (nx)))), (r 7, .inl (cI, 12, .inl (aN (pa)))), (r 8, .inl (cZ, 24, .inl (aB (bk2)))), (r 9, .inl (cZ, 12, .inl (aB (mk)))), (r 10, .inl (cI, 12, .inl (aN (dep2)))), (r 11, .inl (cI, 24, .inl (aN (so)))), (r 12, .inl (cZ, 24, .inl (aB (it)))), (r 13, .inl (cZ, 48, .inl (aB (isL)))), (r 14, .inl (cI, 48, .inl (aN (lf)))), (r 15, .inl (cI, 48, .inl (aN (lt)))), (r 16, .inl (cI, 12, .inl (aN (Rw)))), (r 17, .inl (cZ, 48, .inl (aB (lT)))), (r 18, .inl (cZ, 12, .inl (aB (bd)))), (r 19, .inl (cI, 12, .inl (aI (B2)))), (r 21, .inl (cI, 48, .inl (aN (pA)))), (r 22, .inl (cI, 48, .inl (aN (pB)))), (r 24, .inl (cI, 200, .inl (aN (wl)))), (r 25, .inl (cI, 3200, .inl (aN (wk)))), (r 27, .inl (cI, 16, .inl (aN (tr2)))), (r 31, .inl (cI, 16, .inl (aN (tc)))), (r 32, .inl (cI, 24, .inl (aI (ec)))), (r 33, .inl (cI, 12, .inl (aI (bc)))), (r 34, .inl (cI, 200, .inl (aI (wc)))), (r 35, .inl (cI, 12, .inl (aI (sc))))], rfl, (And.intro ⟨_, rfl, rfl⟩ (And.intro ⟨_, rfl, rfl⟩ (And.intro ⟨_, rfl, rfl⟩ (And.intro ⟨_, rfl, rfl⟩ (And.intro ⟨_, rfl, rfl⟩ (And.intro ⟨_, rfl, rfl⟩ (And.intro ⟨_, rfl, rfl⟩ (And.intro ⟨_, rfl, rfl⟩ (And.intro ⟨_, rfl, rfl⟩ (And.intro ⟨_, rfl, rfl⟩ (And.intro ⟨_, rfl, rfl⟩ (And.intro ⟨_, rfl, rfl⟩ (And.intro ⟨_, rfl, rfl⟩ (And.intro ⟨_, rfl, rfl⟩ (And.intro ⟨_, rfl, rfl⟩ (And.intro ⟨_, rfl, rfl⟩ (And.intro ⟨_, rfl, rfl⟩ (And.intro ⟨_, rfl, rfl⟩ (And.intro ⟨_, rfl, rfl⟩ (And.intro ⟨_, rfl, rfl⟩ (And.intro ⟨_, rfl, rfl⟩ (And.intro ⟨_, rfl, rfl⟩ (And.intro ⟨_, rfl, rfl⟩ (And.intro ⟨_, rfl, rfl⟩ (And.intro ⟨_, rfl, rfl⟩ (And.intro ⟨_, rfl, rfl⟩ (And.intro ⟨_, rfl, rfl⟩ (And.intro ⟨_, rfl, rfl⟩ (And.intro ⟨_, rfl, rfl⟩ (And.intro ⟨_, rfl, rfl⟩ (And.intro ⟨_, rfl, rfl⟩ (And.intro ⟨_, rfl, rfl⟩ (And.intro ⟨_, rfl, rfl⟩ (And.intro ⟨_, rfl, rfl⟩ (And.intro ⟨_, rfl, rfl⟩ (And.intro ⟨_, rfl, rfl⟩ (And.intro ⟨_, rfl, rfl⟩ (And.intro ⟨_, rfl, rfl⟩ (And.intro ⟨_, rfl, rfl⟩ (And.intro ⟨_, rfl, rfl⟩ (And.intro ⟨_, rfl, rfl⟩ (And.intro ⟨_, rfl, rfl⟩ (And.intro ⟨_, rfl, rfl⟩ (And.intro ⟨_, rfl, rfl⟩ (And.intro ⟨_, rfl, rfl⟩ (And.intro ⟨_, rfl, rfl⟩ (And.intro ⟨_, rfl, rfl⟩ (And.intro ⟨_, rfl, rfl⟩ (And.intro ⟨_, rfl, rfl⟩ (And.intro ⟨_, rfl, rfl⟩ (And.intro ⟨_, rfl, rfl⟩ (And.intro ⟨_, rfl, rfl⟩ (And.intro ⟨_, rfl, rfl⟩ (And.intro ⟨_, rfl, rfl⟩ trivial)))))))))))))))))))))))))))))))))))))))))))))))))))))), rfl, ?_⟩
      refine z_icmp_eq hX 564 dL_law_164 rfl (fun h164 => ?_) (fun h164 => ?_)
      · have hJ2 := zJ_edge hJ hsd hml ha hb ha1 hb0
        exact hk _ _ _ _ _ _ _ _ _ _ _ _ _ _ _ _ _ _ _ _ _ _ _ _ _ _ _ _ _ _ _ _ _ _ _ _ _ _ _ _ _ _ _ _ _ _ _ _ _ _ _ _ _ _ _ _ _ _ _ _ _ _ _ hJ2
      · exact absurd (rfl) h164
    · have hm24 : m = 24 := by omega
      refine z_aload_n hX 1 dL_law_136 rfl rfl ?_
      refine z_aload_n hX 0 dL_law_137 rfl rfl ?_
      refine z_iload_n hX 3 dL_law_138 rfl rfl ?_
      refine z_iconst hX (nI 1) dL_law_139 rfl ?_
      refine z_iaddN hX dL_law_140 ?_
      refine hsl.1 _ _ _ _ _ _ (i + 1) (by omega) dL_law_141 ?_
      refine z_aload_n hX 0 dL_law_142 rfl rfl ?_
      refine z_iload_n hX 3 dL_law_143 rfl rfl ?_
      refine z_iconst hX (nI 2) dL_law_144 rfl ?_
      refine z_iaddN hX dL_law_145 ?_
      refine hsl.1 _ _ _ _ _ _ (i + 2) (by omega) dL_law_146 ?_
      refine z_Vr hX (kA_edge l D cI cZ ax g s lo tr lk ct sd wh sm f t n m fr to (xs (i + 1)) (xs (i + 2)) hn hm) mw_235 mw_236 mw_237 mw_1 mw_238 rfl rfl ⟨rfl, by decide, by decide, rfl⟩ (by decide) 0 rfl rfl rfl rfl (Nat.le_of_ble_eq_true rfl) dL_law_147 (by decide) [0, 1, 2, 3] rfl rfl (fun v wn hv => ?_)
      have hv := (hv.2 a b hsd ha hb hxa hzb ha1 hb0).1 hm24
      obtain ⟨rfl, rfl⟩ := hv
      refine ⟨rfl, ?_⟩
      refine z_aload_n hX 2 dL_law_150 rfl rfl ?_
      refine z_aload_n hX 0 dL_law_151 rfl rfl ?_
      refine z_iload_n hX 3 dL_law_152 rfl rfl ?_
      refine z_iconst hX (nI 1) dL_law_153 rfl ?_
      refine z_iaddN hX dL_law_154 ?_
      refine hsl.1 _ _ _ _ _ _ (i + 1) (by omega) dL_law_155 ?_
      refine z_aload_n hX 0 dL_law_156 rfl rfl ?_
      refine z_iload_n hX 3 dL_law_157 rfl rfl ?_
      refine z_iconst hX (nI 2) dL_law_158 rfl ?_
      refine z_iaddN hX dL_law_159 ?_
      refine hsl.1 _ _ _ _ _ _ (i + 2) (by omega) dL_law_160 ?_
      refine z_Vr hX (kM_edge l D cI cZ mx r (n) (m) (sd) (pr) (wy2) (fo) (ru) (pl) (pk) (rs) (es) fr to (xs (i + 1)) (xs (i + 2)) hn hm) mw_667 mw_668 mw_669 mw_9 mw_670 rfl rfl ⟨rfl, by decide, by decide, rfl⟩ (by decide) 29 rfl rfl rfl rfl (Nat.le_of_ble_eq_true rfl) dL_law_161 (by decide) [29, 30, 31] rfl rfl (fun v wn hv => ?_)
      have hv := (hv.2 a b hsd ha hb hxa hzb ha1 hb0).1 hm24
      obtain ⟨rfl, rfl⟩ := hv
      refine ⟨rfl, ?_⟩
      refine z_icmp_eq hX 564 dL_law_164 rfl (fun h164 => ?_) (fun h164 => ?_)
      · have hJ2 := hJ
        exact hk _ _ _ _ _ _ _ _ _ _ _ _ _ _ _ _ _ _ _ _ _ _ _ _ _ _ _ _ _ _ _ _ _ _ _ _ _ _ _ _ _ _ _ _ _ _ _ _ _ _ _ _ _ _ _ _ _ _ _ _ _ _ _ hJ2
      · exact absurd (rfl) h164

