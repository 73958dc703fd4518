/-! the law: its operations -/
set_option maxHeartbeats 400000 in
set_option maxRecDepth 100000 in
theorem kL_back (l : Launch) (D : va_G) (cI cZ : ClassId) {Z : zF} (scr ax g s lo tr lk ct f t ib fi sk lu dp od hs gr kt rw vl sv bs ko hs2 gr2 bh ht sp cp mx : Nat) (r : Nat → Nat) {L : Nat} {xs : Nat → Int32} {nm : String} (hX : zLX Z l D cI cZ nm) (hsl : zSL Z scr L xs) (hL : L ≤ 1537) (n m : Nat) (fr to : Nat → Nat) (sd : Bool) (wh : Option Nat) (sm : Int) (Mt Op : Nat → Bool) (h : Nat) (bk : Nat → Bool) (fin st lq dep ord : Nat → Nat) (has : Nat → Bool) (grp R V SV : Nat → Nat) (B : Nat → Int) (o2 : Nat → Nat) (wy : Nat) (has2 : Nat → Bool) (grp2 : Nat → Nat) (Bh : Nat → Nat → Bool) (H St Cm : Nat → Int) (pr wy2 fo : Nat) (ru : Bool) (pl pk : Nat) (rs es : Int) (mt nx pa : Nat → Nat) (bk2 mk : Nat → Bool) (dep2 so : Nat → Nat) (it isL : Nat → Bool) (lf lt Rw : Nat → Nat) (lT bd : Nat → Bool) (B2 : Nat → Int) (pA pB wl wk tr2 tc : Nat → Nat) (ec bc wc sc : Nat → Int) (i : Nat) (hi : i + 2 < L) (hk : zLP Z cI cZ scr ax g s lo tr lk ct f t ib fi sk lu dp od hs gr kt rw vl sv bs ko hs2 gr2 bh ht sp cp mx r L xs i) (hJ : zJ (n) (m) (fr) (to) (sd) (wh) (sm) (bk) (dep) (has) (V) (SV) (B) (wy) (has2) (Bh) (H) (St) (Cm) (wy2) (ru) (pl) (pk) (rs) (es) (bk2) (dep2) (it) (isL) (lf) (lt) (Rw) (bd) (B2) (wl) (wk) (tc) (ec) (bc) (wc) (sc))  : Z 57 4840 182 [some (.ref scr), some (.ref ax), some (.ref mx), some (.int (nI i))] [] ([(ax, .inr (6, [.ref g, .ref s, .ref lo, .ref tr, .ref lk, .ref ct, .int (bN (sd)), .int (zbar (wh)), .int (Int32.ofInt (sm))])), (g, .inr (0, [.int (nI (n)), .ref f, .ref t, .int (nI (m))])), (f, .inl (cI, 24, .inl (aN (fr)))), (t, .inl (cI, 24, .inl (aN (to)))), (s, .inr (1, [.ref g, .ref ib, .ref fi, .ref sk, .ref lu, .int (bS (Mt)), .int (bS (Op)), .int (nI (h))])), (ib, .inl (cZ, 24, .inl (aB (bk)))), (fi, .inl (cI, 12, .inl (aN (fin)))), (sk, .inl (cI, 12, .inl (aN (st)))), (lu, .inl (cI, 12, .inl (aN (lq)))), (lo, .inr (2, [.ref g, .ref s, .ref dp, .ref od])), (dp, .inl (cI, 12, .inl (aN (dep)))), (od, .inl (cI, 24, .inl (aN (ord)))), (tr, .inr (3, [.ref g, .ref hs, .ref gr])), (hs, .inl (cZ, 24, .inl (aB (has)))), (gr, .inl (cI, 12, .inl (aN (grp)))), (lk, .inr (4, [.ref g, .ref s, .ref kt, .ref rw, .ref vl, .ref sv, .ref bs, .ref ko, .int (nI (wy))])), (rw, .inl (cI, 12, .inl (aN (R)))), (vl, .inl (cI, 24, .inl (aN (V)))), (sv, .inl (cI, 24, .inl (aN (SV)))), (bs, .inl (cI, 12, .inl (aI (B)))), (ko, .inl (cI, 24, .inl (aN (o2)))), (kt, .inr (3, [.ref g, .ref hs2, .ref gr2])), (hs2, .inl (cZ, 24, .inl (aB (has2)))), (gr2, .inl (cI, 12, .inl (aN (grp2)))), (ct, .inr (5, [.ref g, .ref tr, .ref bh, .ref ht, .ref sp, .ref cp])), (bh, .inl (cI, 24, .inl (aS (Bh)))), (ht, .inl (cI, 24, .inl (aI (H)))), (sp, .inl (cI, 12, .inl (aI (St)))), (cp, .inl (cI, 200, .inl (aI (Cm)))), mO mx r (n) (m) (sd) (pr) (wy2) (fo) (ru) (pl) (pk) (rs) (es), (r 2, .inl (cI, 24, .inl (aN (fr)))), (r 3, .inl (cI, 24, .inl (aN (to)))), (r 5, .inl (cI, 12, .inl (aN (mt)))), (r 6, .inl (cI, 12, .inl (aN (nx)))), (r 7, .inl (cI, 12, .inl (aN (pa)))), (r 8, .inl (cZ, 24, .inl (aB (bk2)))), (r 9, .inl (cZ, 12, .inl (aB (mk)))), (r 10, .inl (cI, 12, .inl (aN (dep2)))), (r 11, .inl (cI, 24, .inl (aN (so)))), (r 12, .inl (cZ, 24, .inl (aB (it)))), (r 13, .inl (cZ, 48, .inl (aB (isL)))), (r 14, .inl (cI, 48, .inl (aN (lf)))), (r 15, .inl (cI, 48, .inl (aN (lt)))), (r 16, .inl (cI, 12, .inl (aN (Rw)))), (r 17, .inl (cZ, 48, .inl (aB (lT)))), (r 18, .inl (cZ, 12, .inl (aB (bd)))), (r 19, .inl (cI, 12, .inl (aI (B2)))), (r 21, .inl (cI, 48, .inl (aN (pA)))), (r 22, .inl (cI, 48, .inl (aN (pB)))), (r 24, .inl (cI, 200, .inl (aN (wl)))), (r 25, .inl (cI, 3200, .inl (aN (wk)))), (r 27, .inl (cI, 16, .inl (aN (tr2)))), (r 31, .inl (cI, 16, .inl (aN (tc)))), (r 32, .inl (cI, 24, .inl (aI (ec)))), (r 33, .inl (cI, 12, .inl (aI (bc)))), (r 34, .inl (cI, 200, .inl (aI (wc)))), (r 35, .inl (cI, 12, .inl (aI (sc))))]) := by
  obtain ⟨hn, hm, hok, hfr, hto⟩ := zJ_hok hJ
  have hwh := zJ_wh hJ
  have hzu := zJ_zun hJ
  have hJc := hJ
  obtain ⟨c1, c2, c3, c4, c5, c6, c7, c8, c9, c10, c11, c12, c13, c14⟩ := hJc
  refine z_aload_n hX 1 dL_law_182 rfl rfl ?_
  refine z_aload_n hX 0 dL_law_183 rfl rfl ?_
  refine z_iload_n hX 3 dL_law_184 rfl rfl ?_
  refine z_iconst hX (nI 1) dL_law_185 rfl ?_
  refine z_iaddN hX dL_law_186 ?_
  refine hsl.1 _ _ _ _ _ _ (i + 1) (by omega) dL_law_187 ?_
  refine z_Vr hX (kA_back l D cI cZ ax g s lo tr lk ct sd wh sm f t n m fr to ib fi sk lu Mt Op h bk fin st lq dp od dep ord hs gr has grp kt rw vl sv bs ko R V SV B o2 wy hs2 gr2 has2 grp2 bh ht sp cp Bh H St Cm (xs (i + 1)) hn hm hok ) mw_365 mw_366 mw_367 mw_1 mw_368 rfl rfl ⟨rfl, by decide, by decide, rfl⟩ (by decide) 0 rfl rfl rfl rfl (Nat.le_of_ble_eq_true rfl) dL_law_188 (by decide) [0, 1, 2, 3, 4, 5, 6, 7, 8, 9, 10, 11, 12, 13, 14, 15, 16, 17, 18, 19, 20, 21, 22, 23, 24, 25, 26, 27, 28] rfl rfl (fun v wn hv => ?_)
  obtain ⟨rfl, hz1⟩ := hv
  obtain ⟨a1, rfl⟩ := zR_int (n := m) (by omega) hz1
  refine ⟨rfl, ?_⟩
  refine z_aload_n hX 2 dL_law_191 rfl rfl ?_
  refine z_aload_n hX 0 dL_law_192 rfl rfl ?_
  refine z_iload_n hX 3 dL_law_193 rfl rfl ?_
  refine z_iconst hX (nI 1) dL_law_194 rfl ?_
  refine z_iaddN hX dL_law_195 ?_
  refine hsl.1 _ _ _ _ _ _ (i + 1) (by omega) dL_law_196 ?_
  refine z_Vr hX (kM_back l D cI cZ mx r (n) (m) (sd) (pr) (wy2) (fo) (ru) (pl) (pk) (rs) (es) bk2 (xs (i + 1)) hm) mw_751 mw_752 mw_753 mw_9 mw_754 rfl rfl ⟨rfl, by decide, by decide, rfl⟩ (by decide) 29 rfl rfl rfl rfl (Nat.le_of_ble_eq_true rfl) dL_law_197 (by decide) [29, 35] rfl rfl (fun v wn hv => ?_)
  obtain ⟨rfl, hz2⟩ := hv
  obtain ⟨a2, rfl⟩ := zR_int (n := m) (by omega) hz2
  refine ⟨rfl, ?_⟩
  refine z_icmp_eq hX 564 dL_law_200 rfl (fun h200 => ?_) (fun h200 => ?_)
  · have hJ2 := hJ
    exact hk _ _ _ _ _ _ _ _ _ _ _ _ _ _ _ _ _ _ _ _ _ _ _ _ _ _ _ _ _ _ _ _ _ _ _ _ _ _ _ _ _ _ _ _ _ _ _ _ _ _ _ _ _ _ _ _ _ _ _ _ _ _ _ hJ2
  · exact absurd (zR_eq (by omega) (by omega) hz1 hz2 (fun hs => ⟨rfl, zJ_back hJ hs⟩)) h200

set_option maxHeartbeats 400000 in
set_option maxRecDepth 100000 in
theorem kL_depth (l : Launch) (D : va_G) (cI cZ : ClassId) {Z : zF} (scr ax g s lo tr lk ct f t ib fi sk lu dp od hs gr kt rw vl sv bs ko hs2 gr2 bh ht sp cp mx : Nat) (r : Nat → Nat) {L : Nat} {xs : Nat → Int32} {nm : String} (hX : zLX Z l D cI cZ nm) (hsl : zSL Z scr L xs) (hL : L ≤ 1537) (n m : Nat) (fr to : Nat → Nat) (sd : Bool) (wh : Option Nat) (sm : Int) (Mt Op : Nat → Bool) (h : Nat) (bk : Nat → Bool) (fin st lq dep ord : Nat → Nat) (has : Nat → Bool) (grp R V SV : Nat → Nat) (B : Nat → Int) (o2 : Nat → Nat) (wy : Nat) (has2 : Nat → Bool) (grp2 : Nat → Nat) (Bh : Nat → Nat → Bool) (H St Cm : Nat → Int) (pr wy2 fo : Nat) (ru : Bool) (pl pk : Nat) (rs es : Int) (mt nx pa : Nat → Nat) (bk2 mk : Nat → Bool) (dep2 so : Nat → Nat) (it isL : Nat → Bool) (lf lt Rw : Nat → Nat) (lT bd : Nat → Bool) (B2 : Nat → Int) (pA pB wl wk tr2 tc : Nat → Nat) (ec bc wc sc : Nat → Int) (i : Nat) (hi : i + 2 < L) (hk : zLP Z cI cZ scr ax g s lo tr lk ct f t ib fi sk lu dp od hs gr kt rw vl sv bs ko hs2 gr2 bh ht sp cp mx r L xs i) (hJ : zJ (n) (m) (fr) (to) (sd) (wh) (sm) (bk) (dep) (has) (V) (SV) (B) (wy) (has2) (Bh) (H) (St) (Cm) (wy2) (ru) (pl) (pk) (rs) (es) (bk2) (dep2) (it) (isL) (lf) (lt) (Rw) (bd) (B2) (wl) (wk) (tc) (ec) (bc) (wc) (sc))  : Z 57 4840 205 [some (.ref scr), some (.ref ax), some (.ref mx), some (.int (nI i))] [] ([(ax, .inr (6, [.ref g, .ref s, .ref lo, .ref tr, .ref lk, .ref ct, .int (bN (sd)), .int (zbar (wh)), .int (Int32.ofInt (sm))])), (g, .inr (0, [.int (nI (n)), .ref f, .ref t, .int (nI (m))])), (f, .inl (cI, 24, .inl (aN (fr)))), (t, .inl (cI, 24, .inl (aN (to)))), (s, .inr (1, [.ref g, .ref ib, .ref fi, .ref sk, .ref lu, .int (bS (Mt)), .int (bS (Op)), .int (nI (h))])), (ib, .inl (cZ, 24, .inl (aB (bk)))), (fi, .inl (cI, 12, .inl (aN (fin)))), (sk, .inl (cI, 12, .inl (aN (st)))), (lu, .inl (cI, 12, .inl (aN (lq)))), (lo, .inr (2, [.ref g, .ref s, .ref dp, .ref od])), (dp, .inl (cI, 12, .inl (aN (dep)))), (od, .inl (cI, 24, .inl (aN (ord)))), (tr, .inr (3, [.ref g, .ref hs, .ref gr])), (hs, .inl (cZ, 24, .inl (aB (has)))), (gr, .inl (cI, 12, .inl (aN (grp)))), (lk, .inr (4, [.ref g, .ref s, .ref kt, .ref rw, .ref vl, .ref sv, .ref bs, .ref ko, .int (nI (wy))])), (rw, .inl (cI, 12, .inl (aN (R)))), (vl, .inl (cI, 24, .inl (aN (V)))), (sv, .inl (cI, 24, .inl (aN (SV)))), (bs, .inl (cI, 12, .inl (aI (B)))), (ko, .inl (cI, 24, .inl (aN (o2)))), (kt, .inr (3, [.ref g, .ref hs2, .ref gr2])), (hs2, .inl (cZ, 24, .inl (aB (has2)))), (gr2, .inl (cI, 12, .inl (aN (grp2)))), (ct, .inr (5, [.ref g, .ref tr, .ref bh, .ref ht, .ref sp, .ref cp])), (bh, .inl (cI, 24, .inl (aS (Bh)))), (ht, .inl (cI, 24, .inl (aI (H)))), (sp, .inl (cI, 12, .inl (aI (St)))), (cp, .inl (cI, 200, .inl (aI (Cm)))), mO mx r (n) (m) (sd) (pr) (wy2) (fo) (ru) (pl) (pk) (rs) (es), (r 2, .inl (cI, 24, .inl (aN (fr)))), (r 3, .inl (cI, 24, .inl (aN (to)))), (r 5, .inl (cI, 12, .inl (aN (mt)))), (r 6, .inl (cI, 12, .inl (aN (nx)))), (r 7, .inl (cI, 12, .inl (aN (pa)))), (r 8, .inl (cZ, 24, .inl (aB (bk2)))), (r 9, .inl (cZ, 12, .inl (aB (mk)))), (r 10, .inl (cI, 12, .inl (aN (dep2)))), (r 11, .inl (cI, 24, .inl (aN (so)))), (r 12, .inl (cZ, 24, .inl (aB (it)))), (r 13, .inl (cZ, 48, .inl (aB (isL)))), (r 14, .inl (cI, 48, .inl (aN (lf)))), (r 15, .inl (cI, 48, .inl (aN (lt)))), (r 16, .inl (cI, 12, .inl (aN (Rw)))), (r 17, .inl (cZ, 48, .inl (aB (lT)))), (r 18, .inl (cZ, 12, .inl (aB (bd)))), (r 19, .inl (cI, 12, .inl (aI (B2)))), (r 21, .inl (cI, 48, .inl (aN (pA)))), (r 22, .inl (cI, 48, .inl (aN (pB)))), (r 24, .inl (cI, 200, .inl (aN (wl)))), (r 25, .inl (cI, 3200, .inl (aN (wk)))), (r 27, .inl (cI, 16, .inl (aN (tr2)))), (r 31, .inl (cI, 16, .inl (aN (tc)))), (r 32, .inl (cI, 24, .inl (aI (ec)))), (r 33, .inl (cI, 12, .inl (aI (bc)))), (r 34, .inl (cI, 200, .inl (aI (wc)))), (r 35, .inl (cI, 12, .inl (aI (sc))))]) := by
  obtain ⟨hn, hm, hok, hfr, hto⟩ := zJ_hok hJ
  have hwh := zJ_wh hJ
  have hzu := zJ_zun hJ
  have hJc := hJ
  obtain ⟨c1, c2, c3, c4, c5, c6, c7, c8, c9, c10, c11, c12, c13, c14⟩ := hJc
  refine z_aload_n hX 1 dL_law_205 rfl rfl ?_
  refine z_aload_n hX 0 dL_law_206 rfl rfl ?_
  refine z_iload_n hX 3 dL_law_207 rfl rfl ?_
  refine z_iconst hX (nI 1) dL_law_208 rfl ?_
  refine z_iaddN hX dL_law_209 ?_
  refine hsl.1 _ _ _ _ _ _ (i + 1) (by omega) dL_law_210 ?_
  refine z_Vr hX (kA_depth l D cI cZ ax g s lo tr lk ct sd wh sm f t n m fr to ib fi sk lu Mt Op h bk fin st lq dp od dep ord hs gr has grp kt rw vl sv bs ko R V SV B o2 wy hs2 gr2 has2 grp2 bh ht sp cp Bh H St Cm (xs (i + 1)) hn hm hok ) mw_377 mw_378 mw_379 mw_1 mw_380 rfl rfl ⟨rfl, by decide, by decide, rfl⟩ (by decide) 0 rfl rfl rfl rfl (Nat.le_of_ble_eq_true rfl) dL_law_211 (by decide) [0, 1, 2, 3, 4, 5, 6, 7, 8, 9, 10, 11, 12, 13, 14, 15, 16, 17, 18, 19, 20, 21, 22, 23, 24, 25, 26, 27, 28] rfl rfl (fun v wn hv => ?_)
  obtain ⟨rfl, hz1⟩ := hv
  obtain ⟨a1, rfl⟩ := zR_int (n := n) (by omega) hz1
  refine ⟨rfl, ?_⟩
  refine z_aload_n hX 2 dL_law_214 rfl rfl ?_
  refine z_aload_n hX 0 dL_law_215 rfl rfl ?_
  refine z_iload_n hX 3 dL_law_216 rfl rfl ?_
  refine z_iconst hX (nI 1) dL_law_217 rfl ?_
  refine z_iaddN hX dL_law_218 ?_
  refine hsl.1 _ _ _ _ _ _ (i + 1) (by omega) dL_law_219 ?_
  refine z_Vr hX (kM_depth l D cI cZ mx r (n) (m) (sd) (pr) (wy2) (fo) (ru) (pl) (pk) (rs) (es) dep2 (xs (i + 1)) (by omega)) mw_759 mw_760 mw_761 mw_9 mw_762 rfl rfl ⟨rfl, by decide, by decide, rfl⟩ (by decide) 29 rfl rfl rfl rfl (Nat.le_of_ble_eq_true rfl) dL_law_220 (by decide) [29, 37] rfl rfl (fun v wn hv => ?_)
  obtain ⟨rfl, hz2⟩ := hv
  obtain ⟨a2, rfl⟩ := zR_int (n := n) (by omega) hz2
  refine ⟨rfl, ?_⟩
  refine z_icmp_eq hX 564 dL_law_223 rfl (fun h223 => ?_) (fun h223 => ?_)
  · have hJ2 := hJ
    exact hk _ _ _ _ _ _ _ _ _ _ _ _ _ _ _ _ _ _ _ _ _ _ _ _ _ _ _ _ _ _ _ _ _ _ _ _ _ _ _ _ _ _ _ _ _ _ _ _ _ _ _ _ _ _ _ _ _ _ _ _ _ _ _ hJ2
  · exact absurd (zR_eq (by omega) (by omega) hz1 hz2 (fun hs => ⟨rfl, zJ_depth hJ hs⟩)) h223

set_option maxHeartbeats 400000 in
set_option maxRecDepth 100000 in
theorem kL_probe (l : Launch) (D : va_G) (cI cZ : ClassId) {Z : zF} (scr ax g s lo tr lk ct f t ib fi sk lu dp od hs gr kt rw vl sv bs ko hs2 gr2 bh ht sp cp mx : Nat) (r : Nat → Nat) {L : Nat} {xs : Nat → Int32} {nm : String} (hX : zLX Z l D cI cZ nm) (hsl : zSL Z scr L xs) (hL : L ≤ 1537) (n m : Nat) (fr to : Nat → Nat) (sd : Bool) (wh : Option Nat) (sm : Int) (Mt Op : Nat → Bool) (h : Nat) (bk : Nat → Bool) (fin st lq dep ord : Nat → Nat) (has : Nat → Bool) (grp R V SV : Nat → Nat) (B : Nat → Int) (o2 : Nat → Nat) (wy : Nat) (has2 : Nat → Bool) (grp2 : Nat → Nat) (Bh : Nat → Nat → Bool) (H St Cm : Nat → Int) (pr wy2 fo : Nat) (ru : Bool) (pl pk : Nat) (rs es : Int) (mt nx pa : Nat → Nat) (bk2 mk : Nat → Bool) (dep2 so : Nat → Nat) (it isL : Nat → Bool) (lf lt Rw : Nat → Nat) (lT bd : Nat → Bool) (B2 : Nat → Int) (pA pB wl wk tr2 tc : Nat → Nat) (ec bc wc sc : Nat → Int) (i : Nat) (hi : i + 2 < L) (hk : zLP Z cI cZ scr ax g s lo tr lk ct f t ib fi sk lu dp od hs gr kt rw vl sv bs ko hs2 gr2 bh ht sp cp mx r L xs i) (hJ : zJ (n) (m) (fr) (to) (sd) (wh) (sm) (bk) (dep) (has) (V) (SV) (B) (wy) (has2) (Bh) (H) (St) (Cm) (wy2) (ru) (pl) (pk) (rs) (es) (bk2) (dep2) (it) (isL) (lf) (lt) (Rw) (bd) (B2) (wl) (wk) (tc) (ec) (bc) (wc) (sc))  : Z 57 4840 228 [some (.ref scr), some (.ref ax), some (.ref mx), some (.int (nI i))] [] ([(ax, .inr (6, [.ref g, .ref s, .ref lo, .ref tr, .ref lk, .ref ct, .int (bN (sd)), .int (zbar (wh)), .int (Int32.ofInt (sm))])), (g, .inr (0, [.int (nI (n)), .ref f, .ref t, .int (nI (m))])), (f, .inl (cI, 24, .inl (aN (fr)))), (t, .inl (cI, 24, .inl (aN (to)))), (s, .inr (1, [.ref g, .ref ib, .ref fi, .ref sk, .ref lu, .int (bS (Mt)), .int (bS (Op)), .int (nI (h))])), (ib, .inl (cZ, 24, .inl (aB (bk)))), (fi, .inl (cI, 12, .inl (aN (fin)))), (sk, .inl (cI, 12, .inl (aN (st)))), (lu, .inl (cI, 12, .inl (aN (lq)))), (lo, .inr (2, [.ref g, .ref s, .ref dp, .ref od])), (dp, .inl (cI, 12, .inl (aN (dep)))), (od, .inl (cI, 24, .inl (aN (ord)))), (tr, .inr (3, [.ref g, .ref hs, .ref gr])), (hs, .inl (cZ, 24, .inl (aB (has)))), (gr, .inl (cI, 12, .inl (aN (grp)))), (lk, .inr (4, [.ref g, .ref s, .ref kt, .ref rw, .ref vl, .ref sv, .ref bs, .ref ko, .int (nI (wy))])), (rw, .inl (cI, 12, .inl (aN (R)))), (vl, .inl (cI, 24, .inl (aN (V)))), (sv, .inl (cI, 24, .inl (aN (SV)))), (bs, .inl (cI, 12, .inl (aI (B)))), (ko, .inl (cI, 24, .inl (aN (o2)))), (kt, .inr (3, [.ref g, .ref hs2, .ref gr2])), (hs2, .inl (cZ, 24, .inl (aB (has2)))), (gr2, .inl (cI, 12, .inl (aN (grp2)))), (ct, .inr (5, [.ref g, .ref tr, .ref bh, .ref ht, .ref sp, .ref cp])), (bh, .inl (cI, 24, .inl (aS (Bh)))), (ht, .inl (cI, 24, .inl (aI (H)))), (sp, .inl (cI, 12, .inl (aI (St)))), (cp, .inl (cI, 200, .inl (aI (Cm)))), mO mx r (n) (m) (sd) (pr) (wy2) (fo) (ru) (pl) (pk) (rs) (es), (r 2, .inl (cI, 24, .inl (aN (fr)))), (r 3, .inl (cI, 24, .inl (aN (to)))), (r 5, .inl (cI, 12, .inl (aN (mt)))), (r 6, .inl (cI, 12, .inl (aN (nx)))), (r 7, .inl (cI, 12, .inl (aN (pa)))), (r 8, .inl (cZ, 24, .inl (aB (bk2)))), (r 9, .inl (cZ, 12, .inl (aB (mk)))), (r 10, .inl (cI, 12, .inl (aN (dep2)))), (r 11, .inl (cI, 24, .inl (aN (so)))), (r 12, .inl (cZ, 24, .inl (aB (it)))), (r 13, .inl (cZ, 48, .inl (aB (isL)))), (r 14, .inl (cI, 48, .inl (aN (lf)))), (r 15, .inl (cI, 48, .inl (aN (lt)))), (r 16, .inl (cI, 12, .inl (aN (Rw)))), (r 17, .inl (cZ, 48, .inl (aB (lT)))), (r 18, .inl (cZ, 12, .inl (aB (bd)))), (r 19, .inl (cI, 12, .inl (aI (B2)))), (r 21, .inl (cI, 48, .inl (aN (pA)))), (r 22, .inl (cI, 48, .inl (aN (pB)))), (r 24, .inl (cI, 200, .inl (aN (wl)))), (r 25, .inl (cI, 3200, .inl (aN (wk)))), (r 27, .inl (cI, 16, .inl (aN (tr2)))), (r 31, .inl (cI, 16, .inl (aN (tc)))), (r 32, .inl (cI, 24, .inl (aI (ec)))), (r 33, .inl (cI, 12, .inl (aI (bc)))), (r 34, .inl (cI, 200, .inl (aI (wc)))), (r 35, .inl (cI, 12, .inl (aI (sc))))]) := by
  obtain ⟨hn, hm, hok, hfr, hto⟩ := zJ_hok hJ
  have hwh := zJ_wh hJ
  have hzu := zJ_zun hJ
  have hJc := hJ
  obtain ⟨c1, c2, c3, c4, c5, c6, c7, c8, c9, c10, c11, c12, c13, c14⟩ := hJc
  refine z_aload_n hX 1 dL_law_228 rfl rfl ?_
  refine z_aload_n hX 0 dL_law_229 rfl rfl ?_
  refine z_iload_n hX 3 dL_law_230 rfl rfl ?_
  refine z_iconst hX (nI 1) dL_law_231 rfl ?_
  refine z_iaddN hX dL_law_232 ?_
  refine hsl.1 _ _ _ _ _ _ (i + 1) (by omega) dL_law_233 ?_
  refine z_Vr hX (kA_probe l D cI cZ ax g s lo tr lk ct sd wh sm f t n m fr to ib fi sk lu Mt Op h bk fin st lq dp od dep ord hs gr has grp kt rw vl sv bs ko R V SV B o2 wy hs2 gr2 has2 grp2 bh ht sp cp Bh H St Cm (xs (i + 1)) hn hm hok ) mw_385 mw_386 mw_387 mw_1 mw_388 rfl rfl ⟨rfl, by decide, by decide, rfl⟩ (by decide) 0 rfl rfl rfl rfl (Nat.le_of_ble_eq_true rfl) dL_law_234 (by decide) [0, 1, 2, 3, 4, 5, 6, 7, 8, 9, 10, 11, 12, 13, 14, 15, 16, 17, 18, 19, 20, 21, 22, 23, 24, 25, 26, 27, 28] rfl rfl (fun v wn hv => ?_)
  obtain ⟨rfl, hz1⟩ := hv
  obtain ⟨a1, rfl⟩ := zR_int (n := m) (by omega) hz1
  refine ⟨rfl, ?_⟩
  refine z_aload_n hX 2 dL_law_237 rfl rfl ?_
  refine z_aload_n hX 0 dL_law_238 rfl rfl ?_
  refine z_iload_n hX 3 dL_law_239 rfl rfl ?_
  refine z_iconst hX (nI 1) dL_law_240 rfl ?_
  refine z_iaddN hX dL_law_241 ?_
  refine hsl.1 _ _ _ _ _ _ (i + 1) (by omega) dL_law_242 ?_
  refine z_Vr hX (kM_probe l D cI cZ mx r (n) (m) (sd) (pr) (wy2) (fo) (ru) (pl) (pk) (rs) (es) it (xs (i + 1)) hm) mw_763 mw_764 mw_765 mw_9 mw_766 rfl rfl ⟨rfl, by decide, by decide, rfl⟩ (by decide) 29 rfl rfl rfl rfl (Nat.le_of_ble_eq_true rfl) dL_law_243 (by decide) [29, 39] rfl rfl (fun v wn hv => ?_)
  obtain ⟨rfl, hz2⟩ := hv
  obtain ⟨a2, rfl⟩ := zR_int (n := m) (by omega) hz2
  refine ⟨rfl, ?_⟩
  refine z_icmp_eq hX 564 dL_law_246 rfl (fun h246 => ?_) (fun h246 => ?_)
  · have hJ2 := hJ
    exact hk _ _ _ _ _ _ _ _ _ _ _ _ _ _ _ _ _ _ _ _ _ _ _ _ _ _ _ _ _ _ _ _ _ _ _ _ _ _ _ _ _ _ _ _ _ _ _ _ _ _ _ _ _ _ _ _ _ _ _ _ _ _ _ hJ2
  · exact absurd (zR_eq (by omega) (by omega) hz1 hz2 (fun hs => ⟨rfl, zJ_probe hJ hs⟩)) h246

set_option maxHeartbeats 400000 in
set_option maxRecDepth 100000 in
theorem kL_increment (l : Launch) (D : va_G) (cI cZ : ClassId) {Z : zF} (scr ax g s lo tr lk ct f t ib fi sk lu dp od hs gr kt rw vl sv bs ko hs2 gr2 bh ht sp cp mx : Nat) (r : Nat → Nat) {L : Nat} {xs : Nat → Int32} {nm : String} (hX : zLX Z l D cI cZ nm) (hsl : zSL Z scr L xs) (hL : L ≤ 1537) (n m : Nat) (fr to : Nat → Nat) (sd : Bool) (wh : Option Nat) (sm : Int) (Mt Op : Nat → Bool) (h : Nat) (bk : Nat → Bool) (fin st lq dep ord : Nat → Nat) (has : Nat → Bool) (grp R V SV : Nat → Nat) (B : Nat → Int) (o2 : Nat → Nat) (wy : Nat) (has2 : Nat → Bool) (grp2 : Nat → Nat) (Bh : Nat → Nat → Bool) (H St Cm : Nat → Int) (pr wy2 fo : Nat) (ru : Bool) (pl pk : Nat) (rs es : Int) (mt nx pa : Nat → Nat) (bk2 mk : Nat → Bool) (dep2 so : Nat → Nat) (it isL : Nat → Bool) (lf lt Rw : Nat → Nat) (lT bd : Nat → Bool) (B2 : Nat → Int) (pA pB wl wk tr2 tc : Nat → Nat) (ec bc wc sc : Nat → Int) (i : Nat) (hi : i + 2 < L) (hk : zLP Z cI cZ scr ax g s lo tr lk ct f t ib fi sk lu dp od hs gr kt rw vl sv bs ko hs2 gr2 bh ht sp cp mx r L xs i) (hJ : zJ (n) (m) (fr) (to) (sd) (wh) (sm) (bk) (dep) (has) (V) (SV) (B) (wy) (has2) (Bh) (H) (St) (Cm) (wy2) (ru) (pl) (pk) (rs) (es) (bk2) (dep2) (it) (isL) (lf) (lt) (Rw) (bd) (B2) (wl) (wk) (tc) (ec) (bc) (wc) (sc))  : Z 57 4840 251 [some (.ref scr), some (.ref ax), some (.ref mx), some (.int (nI i))] [] ([(ax, .inr (6, [.ref g, .ref s, .ref lo, .ref tr, .ref lk, .ref ct, .int (bN (sd)), .int (zbar (wh)), .int (Int32.ofInt (sm))])), (g, .inr (0, [.int (nI (n)), .ref f, .ref t, .int (nI (m))])), (f, .inl (cI, 24, .inl (aN (fr)))), (t, .inl (cI, 24, .inl (aN (to)))), (s, .inr (1, [.ref g, .ref ib, .ref fi, .ref sk, .ref lu, .int (bS (Mt)), .int (bS (Op)), .int (nI (h))])), (ib, .inl (cZ, 24, .inl (aB (bk)))), (fi, .inl (cI, 12, .inl (aN (fin)))), (sk, .inl (cI, 12, .inl (aN (st)))), (lu, .inl (cI, 12, .inl (aN (lq)))), (lo, .inr (2, [.ref g, .ref s, .ref dp, .ref od])), (dp, .inl (cI, 12, .inl (aN (dep)))), (od, .inl (cI, 24, .inl (aN (ord)))), (tr, .inr (3, [.ref g, .ref hs, .ref gr])), (hs, .inl (cZ, 24, .inl (aB (has)))), (gr, .inl (cI, 12, .inl (aN (grp)))), (lk, .inr (4, [.ref g, .ref s, .ref kt, .ref rw, .ref vl, .ref sv, .ref bs, .ref ko, .int (nI (wy))])), (rw, .inl (cI, 12, .inl (aN (R)))), (vl, .inl (cI, 24, .inl (aN (V)))), (sv, .inl (cI, 24, .inl (aN (SV)))), (bs, .inl (cI, 12, .inl (aI (B)))), (ko, .inl (cI, 24, .inl (aN (o2)))), (kt, .inr (3, [.ref g, .ref hs2, .ref gr2])), (hs2, .inl (cZ, 24, .inl (aB (has2)))), (gr2, .inl (cI, 12, .inl (aN (grp2)))), (ct, .inr (5, [.ref g, .ref tr, .ref bh, .ref ht, .ref sp, .ref cp])), (bh, .inl (cI, 24, .inl (aS (Bh)))), (ht, .inl (cI, 24, .inl (aI (H)))), (sp, .inl (cI, 12, .inl (aI (St)))), (cp, .inl (cI, 200, .inl (aI (Cm)))), mO mx r (n) (m) (sd) (pr) (wy2) (fo) (ru) (pl) (pk) (rs) (es), (r 2, .inl (cI, 24, .inl (aN (fr)))), (r 3, .inl (cI, 24, .inl (aN (to)))), (r 5, .inl (cI, 12, .inl (aN (mt)))), (r 6, .inl (cI, 12, .inl (aN (nx)))), (r 7, .inl (cI, 12, .inl (aN (pa)))), (r 8, .inl (cZ, 24, .inl (aB (bk2)))), (r 9, .inl (cZ, 12, .inl (aB (mk)))), (r 10, .inl (cI, 12, .inl (aN (dep2)))), (r 11, .inl (cI, 24, .inl (aN (so)))), (r 12, .inl (cZ, 24, .inl (aB (it)))), (r 13, .inl (cZ, 48, .inl (aB (isL)))), (r 14, .inl (cI, 48, .inl (aN (lf)))), (r 15, .inl (cI, 48, .inl (aN (lt)))), (r 16, .inl (cI, 12, .inl (aN (Rw)))), (r 17, .inl (cZ, 48, .inl (aB (lT)))), (r 18, .inl (cZ, 12, .inl (aB (bd)))), (r 19, .inl (cI, 12, .inl (aI (B2)))), (r 21, .inl (cI, 48, .inl (aN (pA)))), (r 22, .inl (cI, 48, .inl (aN (pB)))), (r 24, .inl (cI, 200, .inl (aN (wl)))), (r 25, .inl (cI, 3200, .inl (aN (wk)))), (r 27, .inl (cI, 16, .inl (aN (tr2)))), (r 31, .inl (cI, 16, .inl (aN (tc)))), (r 32, .inl (cI, 24, .inl (aI (ec)))), (r 33, .inl (cI, 12, .inl (aI (bc)))), (r 34, .inl (cI, 200, .inl (aI (wc)))), (r 35, .inl (cI, 12, .inl (aI (sc))))]) := by
  obtain ⟨hn, hm, hok, hfr, hto⟩ := zJ_hok hJ
  have hwh := zJ_wh hJ
  have hzu := zJ_zun hJ
  have hJc := hJ
  obtain ⟨c1, c2, c3, c4, c5, c6, c7, c8, c9, c10, c11, c12, c13, c14⟩ := hJc
  refine z_aload_n hX 1 dL_law_251 rfl rfl ?_
  refine z_aload_n hX 0 dL_law_252 rfl rfl ?_
  refine z_iload_n hX 3 dL_law_253 rfl rfl ?_
  refine z_iconst hX (nI 1) dL_law_254 rfl ?_
  refine z_iaddN hX dL_law_255 ?_
  refine hsl.1 _ _ _ _ _ _ (i + 1) (by omega) dL_law_256 ?_
  refine z_Vr hX (kA_increment l D cI cZ ax g s lo tr lk ct sd wh sm f t n m fr to ib fi sk lu Mt Op h bk fin st lq dp od dep ord hs gr has grp kt rw vl sv bs ko R V SV B o2 wy hs2 gr2 has2 grp2 bh ht sp cp Bh H St Cm (xs (i + 1)) hn hm hok ) mw_389 mw_390 mw_391 mw_1 mw_392 rfl rfl ⟨rfl, by decide, by decide, rfl⟩ (by decide) 0 rfl rfl rfl rfl (Nat.le_of_ble_eq_true rfl) dL_law_257 (by decide) [0, 1, 2, 3, 4, 5, 6, 7, 8, 9, 10, 11, 12, 13, 14, 15, 16, 17, 18, 19, 20, 21, 22, 23, 24, 25, 26, 27, 28] rfl rfl (fun v wn hv => ?_)
  obtain ⟨rfl, hz1⟩ := hv
  obtain ⟨a1, rfl⟩ := zR_int (n := m) (by omega) hz1
  refine ⟨rfl, ?_⟩
  refine z_aload_n hX 2 dL_law_260 rfl rfl ?_
  refine z_aload_n hX 0 dL_law_261 rfl rfl ?_
  refine z_iload_n hX 3 dL_law_262 rfl rfl ?_
  refine z_iconst hX (nI 1) dL_law_263 rfl ?_
  refine z_iaddN hX dL_law_264 ?_
  refine hsl.1 _ _ _ _ _ _ (i + 1) (by omega) dL_law_265 ?_
  refine z_Vr hX (kM_increment l D cI cZ mx r (n) (m) (sd) (pr) (wy2) (fo) (ru) (pl) (pk) (rs) (es) isL lf lt Rw B2 bk2 (xs (i + 1)) hm (fun q _ => c8 q) (fun q _ _ => c8 q)) mw_767 mw_768 mw_769 mw_9 mw_770 rfl rfl ⟨rfl, by decide, by decide, rfl⟩ (by decide) 29 rfl rfl rfl rfl (Nat.le_of_ble_eq_true rfl) dL_law_266 (by decide) [29, 40, 41, 42, 43, 46, 35] rfl rfl (fun v wn hv => ?_)
  obtain ⟨rfl, hz2⟩ := hv
  obtain ⟨a2, rfl⟩ := zR_int (n := m) (by omega) hz2
  refine ⟨rfl, ?_⟩
  refine z_icmp_eq hX 564 dL_law_269 rfl (fun h269 => ?_) (fun h269 => ?_)
  · have hJ2 := hJ
    exact hk _ _ _ _ _ _ _ _ _ _ _ _ _ _ _ _ _ _ _ _ _ _ _ _ _ _ _ _ _ _ _ _ _ _ _ _ _ _ _ _ _ _ _ _ _ _ _ _ _ _ _ _ _ _ _ _ _ _ _ _ _ _ _ hJ2
  · exact absurd (zR_eq (by omega) (by omega) hz1 hz2 (fun hs => ⟨rfl, zJ_inc hJ hs⟩)) h269

set_option maxHeartbeats 400000 in
set_option maxRecDepth 100000 in
theorem kL_reset (l : Launch) (D : va_G) (cI cZ : ClassId) {Z : zF} (scr ax g s lo tr lk ct f t ib fi sk lu dp od hs gr kt rw vl sv bs ko hs2 gr2 bh ht sp cp mx : Nat) (r : Nat → Nat) {L : Nat} {xs : Nat → Int32} {nm : String} (hX : zLX Z l D cI cZ nm) (hsl : zSL Z scr L xs) (hL : L ≤ 1537) (n m : Nat) (fr to : Nat → Nat) (sd : Bool) (wh : Option Nat) (sm : Int) (Mt Op : Nat → Bool) (h : Nat) (bk : Nat → Bool) (fin st lq dep ord : Nat → Nat) (has : Nat → Bool) (grp R V SV : Nat → Nat) (B : Nat → Int) (o2 : Nat → Nat) (wy : Nat) (has2 : Nat → Bool) (grp2 : Nat → Nat) (Bh : Nat → Nat → Bool) (H St Cm : Nat → Int) (pr wy2 fo : Nat) (ru : Bool) (pl pk : Nat) (rs es : Int) (mt nx pa : Nat → Nat) (bk2 mk : Nat → Bool) (dep2 so : Nat → Nat) (it isL : Nat → Bool) (lf lt Rw : Nat → Nat) (lT bd : Nat → Bool) (B2 : Nat → Int) (pA pB wl wk tr2 tc : Nat → Nat) (ec bc wc sc : Nat → Int) (i : Nat) (hi : i + 2 < L) (hk : zLP Z cI cZ scr ax g s lo tr lk ct f t ib fi sk lu dp od hs gr kt rw vl sv bs ko hs2 gr2 bh ht sp cp mx r L xs i) (hJ : zJ (n) (m) (fr) (to) (sd) (wh) (sm) (bk) (dep) (has) (V) (SV) (B) (wy) (has2) (Bh) (H) (St) (Cm) (wy2) (ru) (pl) (pk) (rs) (es) (bk2) (dep2) (it) (isL) (lf) (lt) (Rw) (bd) (B2) (wl) (wk) (tc) (ec) (bc) (wc) (sc))  : Z 57 4840 274 [some (.ref scr), some (.ref ax), some (.ref mx), some (.int (nI i))] [] ([(ax, .inr (6, [.ref g, .ref s, .ref lo, .ref tr, .ref lk, .ref ct, .int (bN (sd)), .int (zbar (wh)), .int (Int32.ofInt (sm))])), (g, .inr (0, [.int (nI (n)), .ref f, .ref t, .int (nI (m))])), (f, .inl (cI, 24, .inl (aN (fr)))), (t, .inl (cI, 24, .inl (aN (to)))), (s, .inr (1, [.ref g, .ref ib, .ref fi, .ref sk, .ref lu, .int (bS (Mt)), .int (bS (Op)), .int (nI (h))])), (ib, .inl (cZ, 24, .inl (aB (bk)))), (fi, .inl (cI, 12, .inl (aN (fin)))), (sk, .inl (cI, 12, .inl (aN (st)))), (lu, .inl (cI, 12, .inl (aN (lq)))), (lo, .inr (2, [.ref g, .ref s, .ref dp, .ref od])), (dp, .inl (cI, 12, .inl (aN (dep)))), (od, .inl (cI, 24, .inl (aN (ord)))), (tr, .inr (3, [.ref g, .ref hs, .ref gr])), (hs, .inl (cZ, 24, .inl (aB (has)))), (gr, .inl (cI, 12, .inl (aN (grp)))), (lk, .inr (4, [.ref g, .ref s, .ref kt, .ref rw, .ref vl, .ref sv, .ref bs, .ref ko, .int (nI (wy))])), (rw, .inl (cI, 12, .inl (aN (R)))), (vl, .inl (cI, 24, .inl (aN (V)))), (sv, .inl (cI, 24, .inl (aN (SV)))), (bs, .inl (cI, 12, .inl (aI (B)))), (ko, .inl (cI, 24, .inl (aN (o2)))), (kt, .inr (3, [.ref g, .ref hs2, .ref gr2])), (hs2, .inl (cZ, 24, .inl (aB (has2)))), (gr2, .inl (cI, 12, .inl (aN (grp2)))), (ct, .inr (5, [.ref g, .ref tr, .ref bh, .ref ht, .ref sp, .ref cp])), (bh, .inl (cI, 24, .inl (aS (Bh)))), (ht, .inl (cI, 24, .inl (aI (H)))), (sp, .inl (cI, 12, .inl (aI (St)))), (cp, .inl (cI, 200, .inl (aI (Cm)))), mO mx r (n) (m) (sd) (pr) (wy2) (fo) (ru) (pl) (pk) (rs) (es), (r 2, .inl (cI, 24, .inl (aN (fr)))), (r 3, .inl (cI, 24, .inl (aN (to)))), (r 5, .inl (cI, 12, .inl (aN (mt)))), (r 6, .inl (cI, 12, .inl (aN (nx)))), (r 7, .inl (cI, 12, .inl (aN (pa)))), (r 8, .inl (cZ, 24, .inl (aB (bk2)))), (r 9, .inl (cZ, 12, .inl (aB (mk)))), (r 10, .inl (cI, 12, .inl (aN (dep2)))), (r 11, .inl (cI, 24, .inl (aN (so)))), (r 12, .inl (cZ, 24, .inl (aB (it)))), (r 13, .inl (cZ, 48, .inl (aB (isL)))), (r 14, .inl (cI, 48, .inl (aN (lf)))), (r 15, .inl (cI, 48, .inl (aN (lt)))), (r 16, .inl (cI, 12, .inl (aN (Rw)))), (r 17, .inl (cZ, 48, .inl (aB (lT)))), (r 18, .inl (cZ, 12, .inl (aB (bd)))), (r 19, .inl (cI, 12, .inl (aI (B2)))), (r 21, .inl (cI, 48, .inl (aN (pA)))), (r 22, .inl (cI, 48, .inl (aN (pB)))), (r 24, .inl (cI, 200, .inl (aN (wl)))), (r 25, .inl (cI, 3200, .inl (aN (wk)))), (r 27, .inl (cI, 16, .inl (aN (tr2)))), (r 31, .inl (cI, 16, .inl (aN (tc)))), (r 32, .inl (cI, 24, .inl (aI (ec)))), (r 33, .inl (cI, 12, .inl (aI (bc)))), (r 34, .inl (cI, 200, .inl (aI (wc)))), (r 35, .inl (cI, 12, .inl (aI (sc))))]) := by
  obtain ⟨hn, hm, hok, hfr, hto⟩ := zJ_hok hJ
  have hwh := zJ_wh hJ
  have hzu := zJ_zun hJ
  have hJc := hJ
  obtain ⟨c1, c2, c3, c4, c5, c6, c7, c8, c9, c10, c11, c12, c13, c14⟩ := hJc
  refine z_aload_n hX 1 dL_law_274 rfl rfl ?_
  refine z_aload_n hX 0 dL_law_275 rfl rfl ?_
  refine z_iload_n hX 3 dL_law_276 rfl rfl ?_
  refine z_iconst hX (nI 1) dL_law_277 rfl ?_
  refine z_iaddN hX dL_law_278 ?_
  refine hsl.1 _ _ _ _ _ _ (i + 1) (by omega) dL_law_279 ?_
  refine z_Vr hX (kA_reset l D cI cZ ax g s lo tr lk ct sd wh sm f t n m fr to ib fi sk lu Mt Op h bk fin st lq dp od dep ord hs gr has grp kt rw vl sv bs ko R V SV B o2 wy hs2 gr2 has2 grp2 bh ht sp cp Bh H St Cm (xs (i + 1)) hn hm hok ) mw_398 mw_399 mw_400 mw_1 mw_401 rfl rfl ⟨rfl, by decide, by decide, rfl⟩ (by decide) 0 rfl rfl rfl rfl (Nat.le_of_ble_eq_true rfl) dL_law_280 (by decide) [0, 1, 2, 3, 4, 5, 6, 7, 8, 9, 10, 11, 12, 13, 14, 15, 16, 17, 18, 19, 20, 21, 22, 23, 24, 25, 26, 27, 28] rfl rfl (fun v wn hv => ?_)
  obtain ⟨rfl, hz1⟩ := hv
  obtain ⟨a1, rfl⟩ := zR_int (n := m) (by omega) hz1
  refine ⟨rfl, ?_⟩
  refine z_aload_n hX 2 dL_law_283 rfl rfl ?_
  refine z_aload_n hX 0 dL_law_284 rfl rfl ?_
  refine z_iload_n hX 3 dL_law_285 rfl rfl ?_
  refine z_iconst hX (nI 1) dL_law_286 rfl ?_
  refine z_iaddN hX dL_law_287 ?_
  refine hsl.1 _ _ _ _ _ _ (i + 1) (by omega) dL_law_288 ?_
  refine z_Vr hX (kM_reset l D cI cZ mx r (n) (m) (sd) (pr) (wy2) (fo) (ru) (pl) (pk) (rs) (es) isL lf lt Rw B2 bk2 (xs (i + 1)) hm (fun q _ _ => c8 (24 + q)) (fun q _ _ => c8 q)) mw_776 mw_777 mw_778 mw_9 mw_779 rfl rfl ⟨rfl, by decide, by decide, rfl⟩ (by decide) 29 rfl rfl rfl rfl (Nat.le_of_ble_eq_true rfl) dL_law_289 (by decide) [29, 40, 41, 42, 43, 46, 35] rfl rfl (fun v wn hv => ?_)
  obtain ⟨rfl, hz2⟩ := hv
  obtain ⟨a2, rfl⟩ := zR_int (n := m) (by omega) hz2
  refine ⟨rfl, ?_⟩
  refine z_icmp_eq hX 564 dL_law_292 rfl (fun h292 => ?_) (fun h292 => ?_)
  · have hJ2 := hJ
    exact hk _ _ _ _ _ _ _ _ _ _ _ _ _ _ _ _ _ _ _ _ _ _ _ _ _ _ _ _ _ _ _ _ _ _ _ _ _ _ _ _ _ _ _ _ _ _ _ _ _ _ _ _ _ _ _ _ _ _ _ _ _ _ _ hJ2
  · exact absurd (zR_eq (by omega) (by omega) hz1 hz2 (fun hs => ⟨rfl, zJ_reset hJ hs⟩)) h292

