/-! the law: its operations -/
set_option maxHeartbeats 400000 in
set_option maxRecDepth 100000 in
theorem kL_count (l : Launch) (D : va_G) (cI cZ : ClassId) {Z : zF} (scr ax g s lo tr lk ct f t ib fi sk lu dp od hs gr kt rw vl sv bs ko hs2 gr2 bh ht sp cp mx : Nat) (r : Nat → Nat) {L : Nat} {xs : Nat → Int32} {nm : String} (hX : zLX Z l D cI cZ nm) (hsl : zSL Z scr L xs) (hL : L ≤ 1537) (n m : Nat) (fr to : Nat → Nat) (sd : Bool) (wh : Option Nat) (sm : Int) (Mt Op : Nat → Bool) (h : Nat) (bk : Nat → Bool) (fin st lq dep ord : Nat → Nat) (has : Nat → Bool) (grp R V SV : Nat → Nat) (B : Nat → Int) (o2 : Nat → Nat) (wy : Nat) (has2 : Nat → Bool) (grp2 : Nat → Nat) (Bh : Nat → Nat → Bool) (H St Cm : Nat → Int) (pr wy2 fo : Nat) (ru : Bool) (pl pk : Nat) (rs es : Int) (mt nx pa : Nat → Nat) (bk2 mk : Nat → Bool) (dep2 so : Nat → Nat) (it isL : Nat → Bool) (lf lt Rw : Nat → Nat) (lT bd : Nat → Bool) (B2 : Nat → Int) (pA pB wl wk tr2 tc : Nat → Nat) (ec bc wc sc : Nat → Int) (i : Nat) (hi : i + 2 < L) (hk : zLP Z cI cZ scr ax g s lo tr lk ct f t ib fi sk lu dp od hs gr kt rw vl sv bs ko hs2 gr2 bh ht sp cp mx r L xs i) (hJ : zJ (n) (m) (fr) (to) (sd) (wh) (sm) (bk) (dep) (has) (V) (SV) (B) (wy) (has2) (Bh) (H) (St) (Cm) (wy2) (ru) (pl) (pk) (rs) (es) (bk2) (dep2) (it) (isL) (lf) (lt) (Rw) (bd) (B2) (wl) (wk) (tc) (ec) (bc) (wc) (sc))  : Z 57 4840 405 [some (.ref scr), some (.ref ax), some (.ref mx), some (.int (nI i))] [] ([(ax, .inr (6, [.ref g, .ref s, .ref lo, .ref tr, .ref lk, .ref ct, .int (bN (sd)), .int (zbar (wh)), .int (Int32.ofInt (sm))])), (g, .inr (0, [.int (nI (n)), .ref f, .ref t, .int (nI (m))])), (f, .inl (cI, 24, .inl (aN (fr)))), (t, .inl (cI, 24, .inl (aN (to)))), (s, .inr (1, [.ref g, .ref ib, .ref fi, .ref sk, .ref lu, .int (bS (Mt)), .int (bS (Op)), .int (nI (h))])), (ib, .inl (cZ, 24, .inl (aB (bk)))), (fi, .inl (cI, 12, .inl (aN (fin)))), (sk, .inl (cI, 12, .inl (aN (st)))), (lu, .inl (cI, 12, .inl (aN (lq)))), (lo, .inr (2, [.ref g, .ref s, .ref dp, .ref od])), (dp, .inl (cI, 12, .inl (aN (dep)))), (od, .inl (cI, 24, .inl (aN (ord)))), (tr, .inr (3, [.ref g, .ref hs, .ref gr])), (hs, .inl (cZ, 24, .inl (aB (has)))), (gr, .inl (cI, 12, .inl (aN (grp)))), (lk, .inr (4, [.ref g, .ref s, .ref kt, .ref rw, .ref vl, .ref sv, .ref bs, .ref ko, .int (nI (wy))])), (rw, .inl (cI, 12, .inl (aN (R)))), (vl, .inl (cI, 24, .inl (aN (V)))), (sv, .inl (cI, 24, .inl (aN (SV)))), (bs, .inl (cI, 12, .inl (aI (B)))), (ko, .inl (cI, 24, .inl (aN (o2)))), (kt, .inr (3, [.ref g, .ref hs2, .ref gr2])), (hs2, .inl (cZ, 24, .inl (aB (has2)))), (gr2, .inl (cI, 12, .inl (aN (grp2)))), (ct, .inr (5, [.ref g, .ref tr, .ref bh, .ref ht, .ref sp, .ref cp])), (bh, .inl (cI, 24, .inl (aS (Bh)))), (ht, .inl (cI, 24, .inl (aI (H)))), (sp, .inl (cI, 12, .inl (aI (St)))), (cp, .inl (cI, 200, .inl (aI (Cm)))), mO mx r (n) (m) (sd) (pr) (wy2) (fo) (ru) (pl) (pk) (rs) (es), (r 2, .inl (cI, 24, .inl (aN (fr)))), (r 3, .inl (cI, 24, .inl (aN (to)))), (r 5, .inl (cI, 12, .inl (aN (mt)))), (r 6, .inl (cI, 12, .inl (aN (nx)))), (r 7, .inl (cI, 12, .inl (aN (pa)))), (r 8, .inl (cZ, 24, .inl (aB (bk2)))), (r 9, .inl (cZ, 12, .inl (aB (mk)))), (r 10, .inl (cI, 12, .inl (aN (dep2)))), (r 11, .inl (cI, 24, .inl (aN (so)))), (r 12, .inl (cZ, 24, .inl (aB (it)))), (r 13, .inl (cZ, 48, .inl (aB (isL)))), (r 14, .inl (cI, 48, .inl (aN (lf)))), (r 15, .inl (cI, 48, .inl (aN (lt)))), (r 16, .inl (cI, 12, .inl (aN (Rw)))), (r 17, .inl (cZ, 48, .inl (aB (lT)))), (r 18, .inl (cZ, 12, .inl (aB (bd)))), (r 19, .inl (cI, 12, .inl (aI (B2)))), (r 21, .inl (cI, 48, .inl (aN (pA)))), (r 22, .inl (cI, 48, .inl (aN (pB)))), (r 24, .inl (cI, 200, .inl (aN (wl)))), (r 25, .inl (cI, 3200, .inl (aN (wk)))), (r 27, .inl (cI, 16, .inl (aN (tr2)))), (r 31, .inl (cI, 16, .inl (aN (tc)))), (r 32, .inl (cI, 24, .inl (aI (ec)))), (r 33, .inl (cI, 12, .inl (aI (bc)))), (r 34, .inl (cI, 200, .inl (aI (wc)))), (r 35, .inl (cI, 12, .inl (aI (sc))))]) := by
  obtain ⟨hn, hm, hok, hfr, hto⟩ := zJ_hok hJ
  have hwh := zJ_wh hJ
  have hzu := zJ_zun hJ
  have hJc := hJ
  obtain ⟨c1, c2, c3, c4, c5, c6, c7, c8, c9, c10, c11, c12, c13, c14⟩ := hJc
  refine z_aload_n hX 1 dL_law_405 rfl rfl ?_
  refine z_aload_n hX 0 dL_law_406 rfl rfl ?_
  refine z_iload_n hX 3 dL_law_407 rfl rfl ?_
  refine z_iconst hX (nI 1) dL_law_408 rfl ?_
  refine z_iaddN hX dL_law_409 ?_
  refine hsl.1 _ _ _ _ _ _ (i + 1) (by omega) dL_law_410 ?_
  refine z_Vr hX (kA_count l D cI cZ ax g s lo tr lk ct sd wh sm f t n m fr to ib fi sk lu Mt Op h bk fin st lq dp od dep ord hs gr has grp kt rw vl sv bs ko R V SV B o2 wy hs2 gr2 has2 grp2 bh ht sp cp Bh H St Cm (xs (i + 1)) hn hm hok hwh) mw_459 mw_460 mw_461 mw_1 mw_462 rfl rfl ⟨rfl, by decide, by decide, rfl⟩ (by decide) 0 rfl rfl rfl rfl (Nat.le_of_ble_eq_true rfl) dL_law_411 (by decide) [0, 1, 2, 3, 4, 5, 6, 7, 8, 9, 10, 11, 12, 13, 14, 15, 16, 17, 18, 19, 20, 21, 22, 23, 24, 25, 26, 27, 28] rfl rfl (fun v wn hv => ?_)
  obtain ⟨rfl, hz1⟩ := hv
  obtain ⟨a1, rfl⟩ := zR_int (n := m) (by omega) hz1
  refine ⟨rfl, ?_⟩
  refine z_aload_n hX 2 dL_law_414 rfl rfl ?_
  refine z_aload_n hX 0 dL_law_415 rfl rfl ?_
  refine z_iload_n hX 3 dL_law_416 rfl rfl ?_
  refine z_iconst hX (nI 1) dL_law_417 rfl ?_
  refine z_iaddN hX dL_law_418 ?_
  refine hsl.1 _ _ _ _ _ _ (i + 1) (by omega) dL_law_419 ?_
  refine z_Vr hX (kM_count l D cI cZ mx r (n) (m) (sd) (pr) (wy2) (fo) (ru) (pl) (pk) (rs) (es) ec (xs (i + 1)) hm) mw_820 mw_821 mw_822 mw_9 mw_823 rfl rfl ⟨rfl, by decide, by decide, rfl⟩ (by decide) 29 rfl rfl rfl rfl (Nat.le_of_ble_eq_true rfl) dL_law_420 (by decide) [29, 53] rfl rfl (fun v wn hv => ?_)
  obtain ⟨rfl, hz2⟩ := hv
  obtain ⟨a2, rfl⟩ := zR_int (n := m) (by omega) hz2
  refine ⟨rfl, ?_⟩
  refine z_icmp_eq hX 564 dL_law_423 rfl (fun h423 => ?_) (fun h423 => ?_)
  · have hJ2 := hJ
    exact hk _ _ _ _ _ _ _ _ _ _ _ _ _ _ _ _ _ _ _ _ _ _ _ _ _ _ _ _ _ _ _ _ _ _ _ _ _ _ _ _ _ _ _ _ _ _ _ _ _ _ _ _ _ _ _ _ _ _ _ _ _ _ _ hJ2
  · exact absurd (zR_eq (by omega) (by omega) hz1 hz2 (fun hs => ⟨rfl, fun q hq => by rw [(zJ_cnt hJ hs).1 q hq]⟩)) h423

set_option maxHeartbeats 400000 in
set_option maxRecDepth 100000 in
theorem kL_visits (l : Launch) (D : va_G) (cI cZ : ClassId) {Z : zF} (scr ax g s lo tr lk ct f t ib fi sk lu dp od hs gr kt rw vl sv bs ko hs2 gr2 bh ht sp cp mx : Nat) (r : Nat → Nat) {L : Nat} {xs : Nat → Int32} {nm : String} (hX : zLX Z l D cI cZ nm) (hsl : zSL Z scr L xs) (hL : L ≤ 1537) (n m : Nat) (fr to : Nat → Nat) (sd : Bool) (wh : Option Nat) (sm : Int) (Mt Op : Nat → Bool) (h : Nat) (bk : Nat → Bool) (fin st lq dep ord : Nat → Nat) (has : Nat → Bool) (grp R V SV : Nat → Nat) (B : Nat → Int) (o2 : Nat → Nat) (wy : Nat) (has2 : Nat → Bool) (grp2 : Nat → Nat) (Bh : Nat → Nat → Bool) (H St Cm : Nat → Int) (pr wy2 fo : Nat) (ru : Bool) (pl pk : Nat) (rs es : Int) (mt nx pa : Nat → Nat) (bk2 mk : Nat → Bool) (dep2 so : Nat → Nat) (it isL : Nat → Bool) (lf lt Rw : Nat → Nat) (lT bd : Nat → Bool) (B2 : Nat → Int) (pA pB wl wk tr2 tc : Nat → Nat) (ec bc wc sc : Nat → Int) (i : Nat) (hi : i + 2 < L) (hk : zLP Z cI cZ scr ax g s lo tr lk ct f t ib fi sk lu dp od hs gr kt rw vl sv bs ko hs2 gr2 bh ht sp cp mx r L xs i) (hJ : zJ (n) (m) (fr) (to) (sd) (wh) (sm) (bk) (dep) (has) (V) (SV) (B) (wy) (has2) (Bh) (H) (St) (Cm) (wy2) (ru) (pl) (pk) (rs) (es) (bk2) (dep2) (it) (isL) (lf) (lt) (Rw) (bd) (B2) (wl) (wk) (tc) (ec) (bc) (wc) (sc))  : Z 57 4840 428 [some (.ref scr), some (.ref ax), some (.ref mx), some (.int (nI i))] [] ([(ax, .inr (6, [.ref g, .ref s, .ref lo, .ref tr, .ref lk, .ref ct, .int (bN (sd)), .int (zbar (wh)), .int (Int32.ofInt (sm))])), (g, .inr (0, [.int (nI (n)), .ref f, .ref t, .int (nI (m))])), (f, .inl (cI, 24, .inl (aN (fr)))), (t, .inl (cI, 24, .inl (aN (to)))), (s, .inr (1, [.ref g, .ref ib, .ref fi, .ref sk, .ref lu, .int (bS (Mt)), .int (bS (Op)), .int (nI (h))])), (ib, .inl (cZ, 24, .inl (aB (bk)))), (fi, .inl (cI, 12, .inl (aN (fin)))), (sk, .inl (cI, 12, .inl (aN (st)))), (lu, .inl (cI, 12, .inl (aN (lq)))), (lo, .inr (2, [.ref g, .ref s, .ref dp, .ref od])), (dp, .inl (cI, 12, .inl (aN (dep)))), (od, .inl (cI, 24, .inl (aN (ord)))), (tr, .inr (3, [.ref g, .ref hs, .ref gr])), (hs, .inl (cZ, 24, .inl (aB (has)))), (gr, .inl (cI, 12, .inl (aN (grp)))), (lk, .inr (4, [.ref g, .ref s, .ref kt, .ref rw, .ref vl, .ref sv, .ref bs, .ref ko, .int (nI (wy))])), (rw, .inl (cI, 12, .inl (aN (R)))), (vl, .inl (cI, 24, .inl (aN (V)))), (sv, .inl (cI, 24, .inl (aN (SV)))), (bs, .inl (cI, 12, .inl (aI (B)))), (ko, .inl (cI, 24, .inl (aN (o2)))), (kt, .inr (3, [.ref g, .ref hs2, .ref gr2])), (hs2, .inl (cZ, 24, .inl (aB (has2)))), (gr2, .inl (cI, 12, .inl (aN (grp2)))), (ct, .inr (5, [.ref g, .ref tr, .ref bh, .ref ht, .ref sp, .ref cp])), (bh, .inl (cI, 24, .inl (aS (Bh)))), (ht, .inl (cI, 24, .inl (aI (H)))), (sp, .inl (cI, 12, .inl (aI (St)))), (cp, .inl (cI, 200, .inl (aI (Cm)))), mO mx r (n) (m) (sd) (pr) (wy2) (fo) (ru) (pl) (pk) (rs) (es), (r 2, .inl (cI, 24, .inl (aN (fr)))), (r 3, .inl (cI, 24, .inl (aN (to)))), (r 5, .inl (cI, 12, .inl (aN (mt)))), (r 6, .inl (cI, 12, .inl (aN (nx)))), (r 7, .inl (cI, 12, .inl (aN (pa)))), (r 8, .inl (cZ, 24, .inl (aB (bk2)))), (r 9, .inl (cZ, 12, .inl (aB (mk)))), (r 10, .inl (cI, 12, .inl (aN (dep2)))), (r 11, .inl (cI, 24, .inl (aN (so)))), (r 12, .inl (cZ, 24, .inl (aB (it)))), (r 13, .inl (cZ, 48, .inl (aB (isL)))), (r 14, .inl (cI, 48, .inl (aN (lf)))), (r 15, .inl (cI, 48, .inl (aN (lt)))), (r 16, .inl (cI, 12, .inl (aN (Rw)))), (r 17, .inl (cZ, 48, .inl (aB (lT)))), (r 18, .inl (cZ, 12, .inl (aB (bd)))), (r 19, .inl (cI, 12, .inl (aI (B2)))), (r 21, .inl (cI, 48, .inl (aN (pA)))), (r 22, .inl (cI, 48, .inl (aN (pB)))), (r 24, .inl (cI, 200, .inl (aN (wl)))), (r 25, .inl (cI, 3200, .inl (aN (wk)))), (r 27, .inl (cI, 16, .inl (aN (tr2)))), (r 31, .inl (cI, 16, .inl (aN (tc)))), (r 32, .inl (cI, 24, .inl (aI (ec)))), (r 33, .inl (cI, 12, .inl (aI (bc)))), (r 34, .inl (cI, 200, .inl (aI (wc)))), (r 35, .inl (cI, 12, .inl (aI (sc))))]) := by
  obtain ⟨hn, hm, hok, hfr, hto⟩ := zJ_hok hJ
  have hwh := zJ_wh hJ
  have hzu := zJ_zun hJ
  have hJc := hJ
  obtain ⟨c1, c2, c3, c4, c5, c6, c7, c8, c9, c10, c11, c12, c13, c14⟩ := hJc
  refine z_aload_n hX 1 dL_law_428 rfl rfl ?_
  refine z_aload_n hX 0 dL_law_429 rfl rfl ?_
  refine z_iload_n hX 3 dL_law_430 rfl rfl ?_
  refine z_iconst hX (nI 1) dL_law_431 rfl ?_
  refine z_iaddN hX dL_law_432 ?_
  refine hsl.1 _ _ _ _ _ _ (i + 1) (by omega) dL_law_433 ?_
  refine z_Vr hX (kA_visits l D cI cZ ax g s lo tr lk ct sd wh sm f t n m fr to ib fi sk lu Mt Op h bk fin st lq dp od dep ord hs gr has grp kt rw vl sv bs ko R V SV B o2 wy hs2 gr2 has2 grp2 bh ht sp cp Bh H St Cm (xs (i + 1)) hn hm hok hwh) mw_476 mw_477 mw_478 mw_1 mw_479 rfl rfl ⟨rfl, by decide, by decide, rfl⟩ (by decide) 0 rfl rfl rfl rfl (Nat.le_of_ble_eq_true rfl) dL_law_434 (by decide) [0, 1, 2, 3, 4, 5, 6, 7, 8, 9, 10, 11, 12, 13, 14, 15, 16, 17, 18, 19, 20, 21, 22, 23, 24, 25, 26, 27, 28] rfl rfl (fun v wn hv => ?_)
  obtain ⟨rfl, hz1⟩ := hv
  obtain ⟨a1, rfl⟩ := zR_int (n := n) (by omega) hz1
  refine ⟨rfl, ?_⟩
  refine z_aload_n hX 2 dL_law_437 rfl rfl ?_
  refine z_aload_n hX 0 dL_law_438 rfl rfl ?_
  refine z_iload_n hX 3 dL_law_439 rfl rfl ?_
  refine z_iconst hX (nI 1) dL_law_440 rfl ?_
  refine z_iaddN hX dL_law_441 ?_
  refine hsl.1 _ _ _ _ _ _ (i + 1) (by omega) dL_law_442 ?_
  refine z_Vr hX (kM_visits l D cI cZ mx r (n) (m) (sd) (pr) (wy2) (fo) (ru) (pl) (pk) (rs) (es) bc (xs (i + 1)) (by omega)) mw_824 mw_825 mw_826 mw_9 mw_827 rfl rfl ⟨rfl, by decide, by decide, rfl⟩ (by decide) 29 rfl rfl rfl rfl (Nat.le_of_ble_eq_true rfl) dL_law_443 (by decide) [29, 54] rfl rfl (fun v wn hv => ?_)
  obtain ⟨rfl, hz2⟩ := hv
  obtain ⟨a2, rfl⟩ := zR_int (n := n) (by omega) hz2
  refine ⟨rfl, ?_⟩
  refine z_icmp_eq hX 564 dL_law_446 rfl (fun h446 => ?_) (fun h446 => ?_)
  · have hJ2 := hJ
    exact hk _ _ _ _ _ _ _ _ _ _ _ _ _ _ _ _ _ _ _ _ _ _ _ _ _ _ _ _ _ _ _ _ _ _ _ _ _ _ _ _ _ _ _ _ _ _ _ _ _ _ _ _ _ _ _ _ _ _ _ _ _ _ _ hJ2
  · exact absurd (zR_eq (by omega) (by omega) hz1 hz2 (fun hs => ⟨rfl, fun q hq => by rw [(zJ_cnt hJ hs).2.1 q hq]⟩)) h446

set_option maxHeartbeats 400000 in
set_option maxRecDepth 100000 in
theorem kL_passed (l : Launch) (D : va_G) (cI cZ : ClassId) {Z : zF} (scr ax g s lo tr lk ct f t ib fi sk lu dp od hs gr kt rw vl sv bs ko hs2 gr2 bh ht sp cp mx : Nat) (r : Nat → Nat) {L : Nat} {xs : Nat → Int32} {nm : String} (hX : zLX Z l D cI cZ nm) (hsl : zSL Z scr L xs) (hL : L ≤ 1537) (n m : Nat) (fr to : Nat → Nat) (sd : Bool) (wh : Option Nat) (sm : Int) (Mt Op : Nat → Bool) (h : Nat) (bk : Nat → Bool) (fin st lq dep ord : Nat → Nat) (has : Nat → Bool) (grp R V SV : Nat → Nat) (B : Nat → Int) (o2 : Nat → Nat) (wy : Nat) (has2 : Nat → Bool) (grp2 : Nat → Nat) (Bh : Nat → Nat → Bool) (H St Cm : Nat → Int) (pr wy2 fo : Nat) (ru : Bool) (pl pk : Nat) (rs es : Int) (mt nx pa : Nat → Nat) (bk2 mk : Nat → Bool) (dep2 so : Nat → Nat) (it isL : Nat → Bool) (lf lt Rw : Nat → Nat) (lT bd : Nat → Bool) (B2 : Nat → Int) (pA pB wl wk tr2 tc : Nat → Nat) (ec bc wc sc : Nat → Int) (i : Nat) (hi : i + 2 < L) (hk : zLP Z cI cZ scr ax g s lo tr lk ct f t ib fi sk lu dp od hs gr kt rw vl sv bs ko hs2 gr2 bh ht sp cp mx r L xs i) (hJ : zJ (n) (m) (fr) (to) (sd) (wh) (sm) (bk) (dep) (has) (V) (SV) (B) (wy) (has2) (Bh) (H) (St) (Cm) (wy2) (ru) (pl) (pk) (rs) (es) (bk2) (dep2) (it) (isL) (lf) (lt) (Rw) (bd) (B2) (wl) (wk) (tc) (ec) (bc) (wc) (sc))  : Z 57 4840 451 [some (.ref scr), some (.ref ax), some (.ref mx), some (.int (nI i))] [] ([(ax, .inr (6, [.ref g, .ref s, .ref lo, .ref tr, .ref lk, .ref ct, .int (bN (sd)), .int (zbar (wh)), .int (Int32.ofInt (sm))])), (g, .inr (0, [.int (nI (n)), .ref f, .ref t, .int (nI (m))])), (f, .inl (cI, 24, .inl (aN (fr)))), (t, .inl (cI, 24, .inl (aN (to)))), (s, .inr (1, [.ref g, .ref ib, .ref fi, .ref sk, .ref lu, .int (bS (Mt)), .int (bS (Op)), .int (nI (h))])), (ib, .inl (cZ, 24, .inl (aB (bk)))), (fi, .inl (cI, 12, .inl (aN (fin)))), (sk, .inl (cI, 12, .inl (aN (st)))), (lu, .inl (cI, 12, .inl (aN (lq)))), (lo, .inr (2, [.ref g, .ref s, .ref dp, .ref od])), (dp, .inl (cI, 12, .inl (aN (dep)))), (od, .inl (cI, 24, .inl (aN (ord)))), (tr, .inr (3, [.ref g, .ref hs, .ref gr])), (hs, .inl (cZ, 24, .inl (aB (has)))), (gr, .inl (cI, 12, .inl (aN (grp)))), (lk, .inr (4, [.ref g, .ref s, .ref kt, .ref rw, .ref vl, .ref sv, .ref bs, .ref ko, .int (nI (wy))])), (rw, .inl (cI, 12, .inl (aN (R)))), (vl, .inl (cI, 24, .inl (aN (V)))), (sv, .inl (cI, 24, .inl (aN (SV)))), (bs, .inl (cI, 12, .inl (aI (B)))), (ko, .inl (cI, 24, .inl (aN (o2)))), (kt, .inr (3, [.ref g, .ref hs2, .ref gr2])), (hs2, .inl (cZ, 24, .inl (aB (has2)))), (gr2, .inl (cI, 12, .inl (aN (grp2)))), (ct, .inr (5, [.ref g, .ref tr, .ref bh, .ref ht, .ref sp, .ref cp])), (bh, .inl (cI, 24, .inl (aS (Bh)))), (ht, .inl (cI, 24, .inl (aI (H)))), (sp, .inl (cI, 12, .inl (aI (St)))), (cp, .inl (cI, 200, .inl (aI (Cm)))), mO mx r (n) (m) (sd) (pr) (wy2) (fo) (ru) (pl) (pk) (rs) (es), (r 2, .inl (cI, 24, .inl (aN (fr)))), (r 3, .inl (cI, 24, .inl (aN (to)))), (r 5, .inl (cI, 12, .inl (aN (mt)))), (r 6, .inl (cI, 12, .inl (aN (nx)))), (r 7, .inl (cI, 12, .inl (aN (pa)))), (r 8, .inl (cZ, 24, .inl (aB (bk2)))), (r 9, .inl (cZ, 12, .inl (aB (mk)))), (r 10, .inl (cI, 12, .inl (aN (dep2)))), (r 11, .inl (cI, 24, .inl (aN (so)))), (r 12, .inl (cZ, 24, .inl (aB (it)))), (r 13, .inl (cZ, 48, .inl (aB (isL)))), (r 14, .inl (cI, 48, .inl (aN (lf)))), (r 15, .inl (cI, 48, .inl (aN (lt)))), (r 16, .inl (cI, 12, .inl (aN (Rw)))), (r 17, .inl (cZ, 48, .inl (aB (lT)))), (r 18, .inl (cZ, 12, .inl (aB (bd)))), (r 19, .inl (cI, 12, .inl (aI (B2)))), (r 21, .inl (cI, 48, .inl (aN (pA)))), (r 22, .inl (cI, 48, .inl (aN (pB)))), (r 24, .inl (cI, 200, .inl (aN (wl)))), (r 25, .inl (cI, 3200, .inl (aN (wk)))), (r 27, .inl (cI, 16, .inl (aN (tr2)))), (r 31, .inl (cI, 16, .inl (aN (tc)))), (r 32, .inl (cI, 24, .inl (aI (ec)))), (r 33, .inl (cI, 12, .inl (aI (bc)))), (r 34, .inl (cI, 200, .inl (aI (wc)))), (r 35, .inl (cI, 12, .inl (aI (sc))))]) := by
  obtain ⟨hn, hm, hok, hfr, hto⟩ := zJ_hok hJ
  have hwh := zJ_wh hJ
  have hzu := zJ_zun hJ
  have hJc := hJ
  obtain ⟨c1, c2, c3, c4, c5, c6, c7, c8, c9, c10, c11, c12, c13, c14⟩ := hJc
  refine z_aload_n hX 1 dL_law_451 rfl rfl ?_
  refine z_aload_n hX 0 dL_law_452 rfl rfl ?_
  refine z_iload_n hX 3 dL_law_453 rfl rfl ?_
  refine z_iconst hX (nI 1) dL_law_454 rfl ?_
  refine z_iaddN hX dL_law_455 ?_
  refine hsl.1 _ _ _ _ _ _ (i + 1) (by omega) dL_law_456 ?_
  refine z_Vr hX (kA_passed l D cI cZ ax g s lo tr lk ct sd wh sm f t n m fr to ib fi sk lu Mt Op h bk fin st lq dp od dep ord hs gr has grp kt rw vl sv bs ko R V SV B o2 wy hs2 gr2 has2 grp2 bh ht sp cp Bh H St Cm (xs (i + 1)) hn hm hok (fun hs => by rw [(zJ_cnt hJ hs).2.2.2.2.2]; exact c5) c4) mw_490 mw_491 mw_492 mw_1 mw_493 rfl rfl ⟨rfl, by decide, by decide, rfl⟩ (by decide) 0 rfl rfl rfl rfl (Nat.le_of_ble_eq_true rfl) dL_law_457 (by decide) [0, 1, 2, 3, 4, 5, 6, 7, 8, 9, 10, 11, 12, 13, 14, 15, 16, 17, 18, 19, 20, 21, 22, 23, 24, 25, 26, 27, 28] rfl rfl (fun v wn hv => ?_)
  obtain ⟨rfl, hz1⟩ := hv
  obtain ⟨a1, rfl⟩ := zR_int (n := wy) (by omega) hz1
  refine ⟨rfl, ?_⟩
  refine z_aload_n hX 2 dL_law_460 rfl rfl ?_
  refine z_aload_n hX 0 dL_law_461 rfl rfl ?_
  refine z_iload_n hX 3 dL_law_462 rfl rfl ?_
  refine z_iconst hX (nI 1) dL_law_463 rfl ?_
  refine z_iaddN hX dL_law_464 ?_
  refine hsl.1 _ _ _ _ _ _ (i + 1) (by omega) dL_law_465 ?_
  refine z_Vr hX (kM_passed l D cI cZ mx r (n) (m) (sd) (pr) (wy2) (fo) (ru) (pl) (pk) (rs) (es) wc (xs (i + 1)) c5) mw_828 mw_829 mw_830 mw_9 mw_831 rfl rfl ⟨rfl, by decide, by decide, rfl⟩ (by decide) 29 rfl rfl rfl rfl (Nat.le_of_ble_eq_true rfl) dL_law_466 (by decide) [29, 55] rfl rfl (fun v wn hv => ?_)
  obtain ⟨rfl, hz2⟩ := hv
  obtain ⟨a2, rfl⟩ := zR_int (n := wy2) (by omega) hz2
  refine ⟨rfl, ?_⟩
  refine z_icmp_eq hX 564 dL_law_469 rfl (fun h469 => ?_) (fun h469 => ?_)
  · have hJ2 := hJ
    exact hk _ _ _ _ _ _ _ _ _ _ _ _ _ _ _ _ _ _ _ _ _ _ _ _ _ _ _ _ _ _ _ _ _ _ _ _ _ _ _ _ _ _ _ _ _ _ _ _ _ _ _ _ _ _ _ _ _ _ _ _ _ _ _ hJ2
  · exact absurd (zR_eq (by omega) (by omega) hz1 hz2 (fun hs => ⟨(zJ_cnt hJ hs).2.2.2.2.2, fun q hq => by rw [c3]⟩)) h469

set_option maxHeartbeats 400000 in
set_option maxRecDepth 100000 in
theorem kL_stopped (l : Launch) (D : va_G) (cI cZ : ClassId) {Z : zF} (scr ax g s lo tr lk ct f t ib fi sk lu dp od hs gr kt rw vl sv bs ko hs2 gr2 bh ht sp cp mx : Nat) (r : Nat → Nat) {L : Nat} {xs : Nat → Int32} {nm : String} (hX : zLX Z l D cI cZ nm) (hsl : zSL Z scr L xs) (hL : L ≤ 1537) (n m : Nat) (fr to : Nat → Nat) (sd : Bool) (wh : Option Nat) (sm : Int) (Mt Op : Nat → Bool) (h : Nat) (bk : Nat → Bool) (fin st lq dep ord : Nat → Nat) (has : Nat → Bool) (grp R V SV : Nat → Nat) (B : Nat → Int) (o2 : Nat → Nat) (wy : Nat) (has2 : Nat → Bool) (grp2 : Nat → Nat) (Bh : Nat → Nat → Bool) (H St Cm : Nat → Int) (pr wy2 fo : Nat) (ru : Bool) (pl pk : Nat) (rs es : Int) (mt nx pa : Nat → Nat) (bk2 mk : Nat → Bool) (dep2 so : Nat → Nat) (it isL : Nat → Bool) (lf lt Rw : Nat → Nat) (lT bd : Nat → Bool) (B2 : Nat → Int) (pA pB wl wk tr2 tc : Nat → Nat) (ec bc wc sc : Nat → Int) (i : Nat) (hi : i + 2 < L) (hk : zLP Z cI cZ scr ax g s lo tr lk ct f t ib fi sk lu dp od hs gr kt rw vl sv bs ko hs2 gr2 bh ht sp cp mx r L xs i) (hJ : zJ (n) (m) (fr) (to) (sd) (wh) (sm) (bk) (dep) (has) (V) (SV) (B) (wy) (has2) (Bh) (H) (St) (Cm) (wy2) (ru) (pl) (pk) (rs) (es) (bk2) (dep2) (it) (isL) (lf) (lt) (Rw) (bd) (B2) (wl) (wk) (tc) (ec) (bc) (wc) (sc))  : Z 57 4840 507 [some (.ref scr), some (.ref ax), some (.ref mx), some (.int (nI i))] [] ([(ax, .inr (6, [.ref g, .ref s, .ref lo, .ref tr, .ref lk, .ref ct, .int (bN (sd)), .int (zbar (wh)), .int (Int32.ofInt (sm))])), (g, .inr (0, [.int (nI (n)), .ref f, .ref t, .int (nI (m))])), (f, .inl (cI, 24, .inl (aN (fr)))), (t, .inl (cI, 24, .inl (aN (to)))), (s, .inr (1, [.ref g, .ref ib, .ref fi, .ref sk, .ref lu, .int (bS (Mt)), .int (bS (Op)), .int (nI (h))])), (ib, .inl (cZ, 24, .inl (aB (bk)))), (fi, .inl (cI, 12, .inl (aN (fin)))), (sk, .inl (cI, 12, .inl (aN (st)))), (lu, .inl (cI, 12, .inl (aN (lq)))), (lo, .inr (2, [.ref g, .ref s, .ref dp, .ref od])), (dp, .inl (cI, 12, .inl (aN (dep)))), (od, .inl (cI, 24, .inl (aN (ord)))), (tr, .inr (3, [.ref g, .ref hs, .ref gr])), (hs, .inl (cZ, 24, .inl (aB (has)))), (gr, .inl (cI, 12, .inl (aN (grp)))), (lk, .inr (4, [.ref g, .ref s, .ref kt, .ref rw, .ref vl, .ref sv, .ref bs, .ref ko, .int (nI (wy))])), (rw, .inl (cI, 12, .inl (aN (R)))), (vl, .inl (cI, 24, .inl (aN (V)))), (sv, .inl (cI, 24, .inl (aN (SV)))), (bs, .inl (cI, 12, .inl (aI (B)))), (ko, .inl (cI, 24, .inl (aN (o2)))), (kt, .inr (3, [.ref g, .ref hs2, .ref gr2])), (hs2, .inl (cZ, 24, .inl (aB (has2)))), (gr2, .inl (cI, 12, .inl (aN (grp2)))), (ct, .inr (5, [.ref g, .ref tr, .ref bh, .ref ht, .ref sp, .ref cp])), (bh, .inl (cI, 24, .inl (aS (Bh)))), (ht, .inl (cI, 24, .inl (aI (H)))), (sp, .inl (cI, 12, .inl (aI (St)))), (cp, .inl (cI, 200, .inl (aI (Cm)))), mO mx r (n) (m) (sd) (pr) (wy2) (fo) (ru) (pl) (pk) (rs) (es), (r 2, .inl (cI, 24, .inl (aN (fr)))), (r 3, .inl (cI, 24, .inl (aN (to)))), (r 5, .inl (cI, 12, .inl (aN (mt)))), (r 6, .inl (cI, 12, .inl (aN (nx)))), (r 7, .inl (cI, 12, .inl (aN (pa)))), (r 8, .inl (cZ, 24, .inl (aB (bk2)))), (r 9, .inl (cZ, 12, .inl (aB (mk)))), (r 10, .inl (cI, 12, .inl (aN (dep2)))), (r 11, .inl (cI, 24, .inl (aN (so)))), (r 12, .inl (cZ, 24, .inl (aB (it)))), (r 13, .inl (cZ, 48, .inl (aB (isL)))), (r 14, .inl (cI, 48, .inl (aN (lf)))), (r 15, .inl (cI, 48, .inl (aN (lt)))), (r 16, .inl (cI, 12, .inl (aN (Rw)))), (r 17, .inl (cZ, 48, .inl (aB (lT)))), (r 18, .inl (cZ, 12, .inl (aB (bd)))), (r 19, .inl (cI, 12, .inl (aI (B2)))), (r 21, .inl (cI, 48, .inl (aN (pA)))), (r 22, .inl (cI, 48, .inl (aN (pB)))), (r 24, .inl (cI, 200, .inl (aN (wl)))), (r 25, .inl (cI, 3200, .inl (aN (wk)))), (r 27, .inl (cI, 16, .inl (aN (tr2)))), (r 31, .inl (cI, 16, .inl (aN (tc)))), (r 32, .inl (cI, 24, .inl (aI (ec)))), (r 33, .inl (cI, 12, .inl (aI (bc)))), (r 34, .inl (cI, 200, .inl (aI (wc)))), (r 35, .inl (cI, 12, .inl (aI (sc))))]) := by
  obtain ⟨hn, hm, hok, hfr, hto⟩ := zJ_hok hJ
  have hwh := zJ_wh hJ
  have hzu := zJ_zun hJ
  have hJc := hJ
  obtain ⟨c1, c2, c3, c4, c5, c6, c7, c8, c9, c10, c11, c12, c13, c14⟩ := hJc
  refine z_aload_n hX 1 dL_law_507 rfl rfl ?_
  refine z_aload_n hX 0 dL_law_508 rfl rfl ?_
  refine z_iload_n hX 3 dL_law_509 rfl rfl ?_
  refine z_iconst hX (nI 1) dL_law_510 rfl ?_
  refine z_iaddN hX dL_law_511 ?_
  refine hsl.1 _ _ _ _ _ _ (i + 1) (by omega) dL_law_512 ?_
  refine z_Vr hX (kA_stopped l D cI cZ ax g s lo tr lk ct sd wh sm f t n m fr to ib fi sk lu Mt Op h bk fin st lq dp od dep ord hs gr has grp kt rw vl sv bs ko R V SV B o2 wy hs2 gr2 has2 grp2 bh ht sp cp Bh H St Cm (xs (i + 1)) hn hm hok ) mw_511 mw_512 mw_513 mw_1 mw_514 rfl rfl ⟨rfl, by decide, by decide, rfl⟩ (by decide) 0 rfl rfl rfl rfl (Nat.le_of_ble_eq_true rfl) dL_law_513 (by decide) [0, 1, 2, 3, 4, 5, 6, 7, 8, 9, 10, 11, 12, 13, 14, 15, 16, 17, 18, 19, 20, 21, 22, 23, 24, 25, 26, 27, 28] rfl rfl (fun v wn hv => ?_)
  obtain ⟨rfl, hz1⟩ := hv
  obtain ⟨a1, rfl⟩ := zR_int (n := n) (by omega) hz1
  refine ⟨rfl, ?_⟩
  refine z_aload_n hX 2 dL_law_516 rfl rfl ?_
  refine z_aload_n hX 0 dL_law_517 rfl rfl ?_
  refine z_iload_n hX 3 dL_law_518 rfl rfl ?_
  refine z_iconst hX (nI 1) dL_law_519 rfl ?_
  refine z_iaddN hX dL_law_520 ?_
  refine hsl.1 _ _ _ _ _ _ (i + 1) (by omega) dL_law_521 ?_
  refine z_Vr hX (kM_stopped l D cI cZ mx r (n) (m) (sd) (pr) (wy2) (fo) (ru) (pl) (pk) (rs) (es) sc (xs (i + 1)) (by omega)) mw_836 mw_837 mw_838 mw_9 mw_839 rfl rfl ⟨rfl, by decide, by decide, rfl⟩ (by decide) 29 rfl rfl rfl rfl (Nat.le_of_ble_eq_true rfl) dL_law_522 (by decide) [29, 56] rfl rfl (fun v wn hv => ?_)
  obtain ⟨rfl, hz2⟩ := hv
  obtain ⟨a2, rfl⟩ := zR_int (n := n) (by omega) hz2
  refine ⟨rfl, ?_⟩
  refine z_icmp_eq hX 564 dL_law_525 rfl (fun h525 => ?_) (fun h525 => ?_)
  · have hJ2 := hJ
    exact hk _ _ _ _ _ _ _ _ _ _ _ _ _ _ _ _ _ _ _ _ _ _ _ _ _ _ _ _ _ _ _ _ _ _ _ _ _ _ _ _ _ _ _ _ _ _ _ _ _ _ _ _ _ _ _ _ _ _ _ _ _ _ _ hJ2
  · exact absurd (zR_eq (by omega) (by omega) hz1 hz2 (fun hs => ⟨rfl, fun q hq => by rw [c2]⟩)) h525

set_option maxHeartbeats 400000 in
set_option maxRecDepth 100000 in
theorem kL_at (l : Launch) (D : va_G) (cI cZ : ClassId) {Z : zF} (scr ax g s lo tr lk ct f t ib fi sk lu dp od hs gr kt rw vl sv bs ko hs2 gr2 bh ht sp cp mx : Nat) (r : Nat → Nat) {L : Nat} {xs : Nat → Int32} {nm : String} (hX : zLX Z l D cI cZ nm) (hsl : zSL Z scr L xs) (hL : L ≤ 1537) (n m : Nat) (fr to : Nat → Nat) (sd : Bool) (wh : Option Nat) (sm : Int) (Mt Op : Nat → Bool) (h : Nat) (bk : Nat → Bool) (fin st lq dep ord : Nat → Nat) (has : Nat → Bool) (grp R V SV : Nat → Nat) (B : Nat → Int) (o2 : Nat → Nat) (wy : Nat) (has2 : Nat → Bool) (grp2 : Nat → Nat) (Bh : Nat → Nat → Bool) (H St Cm : Nat → Int) (pr wy2 fo : Nat) (ru : Bool) (pl pk : Nat) (rs es : Int) (mt nx pa : Nat → Nat) (bk2 mk : Nat → Bool) (dep2 so : Nat → Nat) (it isL : Nat → Bool) (lf lt Rw : Nat → Nat) (lT bd : Nat → Bool) (B2 : Nat → Int) (pA pB wl wk tr2 tc : Nat → Nat) (ec bc wc sc : Nat → Int) (i : Nat) (hi : i + 2 < L) (hk : zLP Z cI cZ scr ax g s lo tr lk ct f t ib fi sk lu dp od hs gr kt rw vl sv bs ko hs2 gr2 bh ht sp cp mx r L xs i) (hJ : zJ (n) (m) (fr) (to) (sd) (wh) (sm) (bk) (dep) (has) (V) (SV) (B) (wy) (has2) (Bh) (H) (St) (Cm) (wy2) (ru) (pl) (pk) (rs) (es) (bk2) (dep2) (it) (isL) (lf) (lt) (Rw) (bd) (B2) (wl) (wk) (tc) (ec) (bc) (wc) (sc))  : Z 57 4840 379 [some (.ref scr), some (.ref ax), some (.ref mx), some (.int (nI i))] [] ([(ax, .inr (6, [.ref g, .ref s, .ref lo, .ref tr, .ref lk, .ref ct, .int (bN (sd)), .int (zbar (wh)), .int (Int32.ofInt (sm))])), (g, .inr (0, [.int (nI (n)), .ref f, .ref t, .int (nI (m))])), (f, .inl (cI, 24, .inl (aN (fr)))), (t, .inl (cI, 24, .inl (aN (to)))), (s, .inr (1, [.ref g, .ref ib, .ref fi, .ref sk, .ref lu, .int (bS (Mt)), .int (bS (Op)), .int (nI (h))])), (ib, .inl (cZ, 24, .inl (aB (bk)))), (fi, .inl (cI, 12, .inl (aN (fin)))), (sk, .inl (cI, 12, .inl (aN (st)))), (lu, .inl (cI, 12, .inl (aN (lq)))), (lo, .inr (2, [.ref g, .ref s, .ref dp, .ref od])), (dp, .inl (cI, 12, .inl (aN (dep)))), (od, .inl (cI, 24, .inl (aN (ord)))), (tr, .inr (3, [.ref g, .ref hs, .ref gr])), (hs, .inl (cZ, 24, .inl (aB (has)))), (gr, .inl (cI, 12, .inl (aN (grp)))), (lk, .inr (4, [.ref g, .ref s, .ref kt, .ref rw, .ref vl, .ref sv, .ref bs, .ref ko, .int (nI (wy))])), (rw, .inl (cI, 12, .inl (aN (R)))), (vl, .inl (cI, 24, .inl (aN (V)))), (sv, .inl (cI, 24, .inl (aN (SV)))), (bs, .inl (cI, 12, .inl (aI (B)))), (ko, .inl (cI, 24, .inl (aN (o2)))), (kt, .inr (3, [.ref g, .ref hs2, .ref gr2])), (hs2, .inl (cZ, 24, .inl (aB (has2)))), (gr2, .inl (cI, 12, .inl (aN (grp2)))), (ct, .inr (5, [.ref g, .ref tr, .ref bh, .ref ht, .ref sp, .ref cp])), (bh, .inl (cI, 24, .inl (aS (Bh)))), (ht, .inl (cI, 24, .inl (aI (H)))), (sp, .inl (cI, 12, .inl (aI (St)))), (cp, .inl (cI, 200, .inl (aI (Cm)))), mO mx r (n) (m) (sd) (pr) (wy2) (fo) (ru) (pl) (pk) (rs) (es), (r 2, .inl (cI, 24, .inl (aN (fr)))), (r 3, .inl (cI, 24, .inl (aN (to)))), (r 5, .inl (cI, 12, .inl (aN (mt)))), (r 6, .inl (cI, 12, .inl (aN (nx)))), (r 7, .inl (cI, 12, .inl (aN (pa)))), (r 8, .inl (cZ, 24, .inl (aB (bk2)))), (r 9, .inl (cZ, 12, .inl (aB (mk)))), (r 10, .inl (cI, 12, .inl (aN (dep2)))), (r 11, .inl (cI, 24, .inl (aN (so)))), (r 12, .inl (cZ, 24, .inl (aB (it)))), (r 13, .inl (cZ, 48, .inl (aB (isL)))), (r 14, .inl (cI, 48, .inl (aN (lf)))), (r 15, .inl (cI, 48, .inl (aN (lt)))), (r 16, .inl (cI, 12, .inl (aN (Rw)))), (r 17, .inl (cZ, 48, .inl (aB (lT)))), (r 18, .inl (cZ, 12, .inl (aB (bd)))), (r 19, .inl (cI, 12, .inl (aI (B2)))), (r 21, .inl (cI, 48, .inl (aN (pA)))), (r 22, .inl (cI, 48, .inl (aN (pB)))), (r 24, .inl (cI, 200, .inl (aN (wl)))), (r 25, .inl (cI, 3200, .inl (aN (wk)))), (r 27, .inl (cI, 16, .inl (aN (tr2)))), (r 31, .inl (cI, 16, .inl (aN (tc)))), (r 32, .inl (cI, 24, .inl (aI (ec)))), (r 33, .inl (cI, 12, .inl (aI (bc)))), (r 34, .inl (cI, 200, .inl (aI (wc)))), (r 35, .inl (cI, 12, .inl (aI (sc))))]) := by
  obtain ⟨hn, hm, hok, hfr, hto⟩ := zJ_hok hJ
  have hwh := zJ_wh hJ
  have hzu := zJ_zun hJ
  have hJc := hJ
  obtain ⟨c1, c2, c3, c4, c5, c6, c7, c8, c9, c10, c11, c12, c13, c14⟩ := hJc
  refine z_aload_n hX 1 dL_law_379 rfl rfl ?_
  refine z_Vr hX (kA_at l D cI cZ ax g s lo tr lk ct sd wh sm) mw_451 mw_452 mw_453 mw_1 mw_454 rfl rfl ⟨rfl, by decide, by decide, rfl⟩ (by decide) 0 rfl rfl rfl rfl (Nat.le_of_ble_eq_true rfl) dL_law_380 (by decide) [0] rfl rfl (fun v wn hv => ?_)
  obtain ⟨rfl, rfl⟩ := hv
  refine ⟨rfl, ?_⟩
  refine z_aload_n hX 2 dL_law_383 rfl rfl ?_
  refine z_Vr hX (kM_at l D cI cZ mx r (n) (m) (sd) (pr) (wy2) (fo) (ru) (pl) (pk) (rs) (es) ) mw_812 mw_813 mw_814 mw_9 mw_815 rfl rfl ⟨rfl, by decide, by decide, rfl⟩ (by decide) 29 rfl rfl rfl rfl (Nat.le_of_ble_eq_true rfl) dL_law_384 (by decide) [29] rfl rfl (fun v wn hv => ?_)
  obtain ⟨rfl, rfl⟩ := hv
  refine ⟨rfl, ?_⟩
  refine z_icmp_eq hX 564 dL_law_387 rfl (fun h387 => ?_) (fun h387 => ?_)
  · have hJ2 := hJ
    exact hk _ _ _ _ _ _ _ _ _ _ _ _ _ _ _ _ _ _ _ _ _ _ _ _ _ _ _ _ _ _ _ _ _ _ _ _ _ _ _ _ _ _ _ _ _ _ _ _ _ _ _ _ _ _ _ _ _ _ _ _ _ _ _ hJ2
  · exact absurd (by rw [c12]) h387

set_option maxHeartbeats 400000 in
set_option maxRecDepth 100000 in
theorem kL_register (l : Launch) (D : va_G) (cI cZ : ClassId) {Z : zF} (scr ax g s lo tr lk ct f t ib fi sk lu dp od hs gr kt rw vl sv bs ko hs2 gr2 bh ht sp cp mx : Nat) (r : Nat → Nat) {L : Nat} {xs : Nat → Int32} {nm : String} (hX : zLX Z l D cI cZ nm) (hsl : zSL Z scr L xs) (hL : L ≤ 1537) (n m : Nat) (fr to : Nat → Nat) (sd : Bool) (wh : Option Nat) (sm : Int) (Mt Op : Nat → Bool) (h : Nat) (bk : Nat → Bool) (fin st lq dep ord : Nat → Nat) (has : Nat → Bool) (grp R V SV : Nat → Nat) (B : Nat → Int) (o2 : Nat → Nat) (wy : Nat) (has2 : Nat → Bool) (grp2 : Nat → Nat) (Bh : Nat → Nat → Bool) (H St Cm : Nat → Int) (pr wy2 fo : Nat) (ru : Bool) (pl pk : Nat) (rs es : Int) (mt nx pa : Nat → Nat) (bk2 mk : Nat → Bool) (dep2 so : Nat → Nat) (it isL : Nat → Bool) (lf lt Rw : Nat → Nat) (lT bd : Nat → Bool) (B2 : Nat → Int) (pA pB wl wk tr2 tc : Nat → Nat) (ec bc wc sc : Nat → Int) (i : Nat) (hi : i + 2 < L) (hk : zLP Z cI cZ scr ax g s lo tr lk ct f t ib fi sk lu dp od hs gr kt rw vl sv bs ko hs2 gr2 bh ht sp cp mx r L xs i) (hJ : zJ (n) (m) (fr) (to) (sd) (wh) (sm) (bk) (dep) (has) (V) (SV) (B) (wy) (has2) (Bh) (H) (St) (Cm) (wy2) (ru) (pl) (pk) (rs) (es) (bk2) (dep2) (it) (isL) (lf) (lt) (Rw) (bd) (B2) (wl) (wk) (tc) (ec) (bc) (wc) (sc))  : Z 57 4840 392 [some (.ref scr), some (.ref ax), some (.ref mx), some (.int (nI i))] [] ([(ax, .inr (6, [.ref g, .ref s, .ref lo, .ref tr, .ref lk, .ref ct, .int (bN (sd)), .int (zbar (wh)), .int (Int32.ofInt (sm))])), (g, .inr (0, [.int (nI (n)), .ref f, .ref t, .int (nI (m))])), (f, .inl (cI, 24, .inl (aN (fr)))), (t, .inl (cI, 24, .inl (aN (to)))), (s, .inr (1, [.ref g, .ref ib, .ref fi, .ref sk, .ref lu, .int (bS (Mt)), .int (bS (Op)), .int (nI (h))])), (ib, .inl (cZ, 24, .inl (aB (bk)))), (fi, .inl (cI, 12, .inl (aN (fin)))), (sk, .inl (cI, 12, .inl (aN (st)))), (lu, .inl (cI, 12, .inl (aN (lq)))), (lo, .inr (2, [.ref g, .ref s, .ref dp, .ref od])), (dp, .inl (cI, 12, .inl (aN (dep)))), (od, .inl (cI, 24, .inl (aN (ord)))), (tr, .inr (3, [.ref g, .ref hs, .ref gr])), (hs, .inl (cZ, 24, .inl (aB (has)))), (gr, .inl (cI, 12, .inl (aN (grp)))), (lk, .inr (4, [.ref g, .ref s, .ref kt, .ref rw, .ref vl, .ref sv, .ref bs, .ref ko, .int (nI (wy))])), (rw, .inl (cI, 12, .inl (aN (R)))), (vl, .inl (cI, 24, .inl (aN (V)))), (sv, .inl (cI, 24, .inl (aN (SV)))), (bs, .inl (cI, 12, .inl (aI (B)))), (ko, .inl (cI, 24, .inl (aN (o2)))), (kt, .inr (3, [.ref g, .ref hs2, .ref gr2])), (hs2, .inl (cZ, 24, .inl (aB (has2)))), (gr2, .inl (cI, 12, .inl (aN (grp2)))), (ct, .inr (5, [.ref g, .ref tr, .ref bh, .ref ht, .ref sp, .ref cp])), (bh, .inl (cI, 24, .inl (aS (Bh)))), (ht, .inl (cI, 24, .inl (aI (H)))), (sp, .inl (cI, 12, .inl (aI (St)))), (cp, .inl (cI, 200, .inl (aI (Cm)))), mO mx r (n) (m) (sd) (pr) (wy2) (fo) (ru) (pl) (pk) (rs) (es), (r 2, .inl (cI, 24, .inl (aN (fr)))), (r 3, .inl (cI, 24, .inl (aN (to)))), (r 5, .inl (cI, 12, .inl (aN (mt)))), (r 6, .inl (cI, 12, .inl (aN (nx)))), (r 7, .inl (cI, 12, .inl (aN (pa)))), (r 8, .inl (cZ, 24, .inl (aB (bk2)))), (r 9, .inl (cZ, 12, .inl (aB (mk)))), (r 10, .inl (cI, 12, .inl (aN (dep2)))), (r 11, .inl (cI, 24, .inl (aN (so)))), (r 12, .inl (cZ, 24, .inl (aB (it)))), (r 13, .inl (cZ, 48, .inl (aB (isL)))), (r 14, .inl (cI, 48, .inl (aN (lf)))), (r 15, .inl (cI, 48, .inl (aN (lt)))), (r 16, .inl (cI, 12, .inl (aN (Rw)))), (r 17, .inl (cZ, 48, .inl (aB (lT)))), (r 18, .inl (cZ, 12, .inl (aB (bd)))), (r 19, .inl (cI, 12, .inl (aI (B2)))), (r 21, .inl (cI, 48, .inl (aN (pA)))), (r 22, .inl (cI, 48, .inl (aN (pB)))), (r 24, .inl (cI, 200, .inl (aN (wl)))), (r 25, .inl (cI, 3200, .inl (aN (wk)))), (r 27, .inl (cI, 16, .inl (aN (tr2)))), (r 31, .inl (cI, 16, .inl (aN (tc)))), (r 32, .inl (cI, 24, .inl (aI (ec)))), (r 33, .inl (cI, 12, .inl (aI (bc)))), (r 34, .inl (cI, 200, .inl (aI (wc)))), (r 35, .inl (cI, 12, .inl (aI (sc))))]) := by
  obtain ⟨hn, hm, hok, hfr, hto⟩ := zJ_hok hJ
  have hwh := zJ_wh hJ
  have hzu := zJ_zun hJ
  have hJc := hJ
  obtain ⟨c1, c2, c3, c4, c5, c6, c7, c8, c9, c10, c11, c12, c13, c14⟩ := hJc
  refine z_aload_n hX 1 dL_law_392 rfl rfl ?_
  refine z_Vr hX (kA_register l D cI cZ ax g s lo tr lk ct sd wh sm) mw_455 mw_456 mw_457 mw_1 mw_458 rfl rfl ⟨rfl, by decide, by decide, rfl⟩ (by decide) 0 rfl rfl rfl rfl (Nat.le_of_ble_eq_true rfl) dL_law_393 (by decide) [0] rfl rfl (fun v wn hv => ?_)
  obtain ⟨rfl, rfl⟩ := hv
  refine ⟨rfl, ?_⟩
  refine z_aload_n hX 2 dL_law_396 rfl rfl ?_
  refine z_Vr hX (kM_register l D cI cZ mx r (n) (m) (sd) (pr) (wy2) (fo) (ru) (pl) (pk) (rs) (es) isL lf lt Rw B2 tc (by omega) (fun q hq => ⟨c9 q hq, c8 _⟩) (fun q _ _ => c8 q)) mw_816 mw_817 mw_818 mw_9 mw_819 rfl rfl ⟨rfl, by decide, by decide, rfl⟩ (by decide) 29 rfl rfl rfl rfl (Nat.le_of_ble_eq_true rfl) dL_law_397 (by decide) [29, 40, 41, 42, 43, 46, 52] rfl rfl (fun v wn hv => ?_)
  obtain ⟨rfl, rfl⟩ := hv
  refine ⟨rfl, ?_⟩
  refine z_icmp_eq hX 564 dL_law_400 rfl (fun h400 => ?_) (fun h400 => ?_)
  · have hJ2 := hJ
    exact hk _ _ _ _ _ _ _ _ _ _ _ _ _ _ _ _ _ _ _ _ _ _ _ _ _ _ _ _ _ _ _ _ _ _ _ _ _ _ _ _ _ _ _ _ _ _ _ _ _ _ _ _ _ _ _ _ _ _ _ _ _ _ _ hJ2
  · exact absurd (zJ_reg hJ) h400

