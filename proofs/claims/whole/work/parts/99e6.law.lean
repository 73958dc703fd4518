/-! the law: its operations -/
set_option maxHeartbeats 400000 in
set_option maxRecDepth 100000 in
theorem kL_along (l : Launch) (D : va_G) (cI cZ : ClassId) {Z : zF} (scr ax g s lo tr lk ct f t ib fi sk lu dp od hs gr kt rw vl sv bs ko hs2 gr2 bh ht sp cp mx : Nat) (r : Nat → Nat) {L : Nat} {xs : Nat → Int32} {nm : String} (hX : zLX Z l D cI cZ nm) (hsl : zSL Z scr L xs) (hL : L ≤ 1537) (n m : Nat) (fr to : Nat → Nat) (sd : Bool) (wh : Option Nat) (sm : Int) (Mt Op : Nat → Bool) (h : Nat) (bk : Nat → Bool) (fin st lq dep ord : Nat → Nat) (has : Nat → Bool) (grp R V SV : Nat → Nat) (B : Nat → Int) (o2 : Nat → Nat) (wy : Nat) (has2 : Nat → Bool) (grp2 : Nat → Nat) (Bh : Nat → Nat → Bool) (H St Cm : Nat → Int) (pr wy2 fo : Nat) (ru : Bool) (pl pk : Nat) (rs es : Int) (mt nx pa : Nat → Nat) (bk2 mk : Nat → Bool) (dep2 so : Nat → Nat) (it isL : Nat → Bool) (lf lt Rw : Nat → Nat) (lT bd : Nat → Bool) (B2 : Nat → Int) (pA pB wl wk tr2 tc : Nat → Nat) (ec bc wc sc : Nat → Int) (i : Nat) (hi : i + 2 < L) (hk : zLP Z cI cZ scr ax g s lo tr lk ct f t ib fi sk lu dp od hs gr kt rw vl sv bs ko hs2 gr2 bh ht sp cp mx r L xs i) (hJ : zJ (n) (m) (fr) (to) (sd) (wh) (sm) (bk) (dep) (has) (V) (SV) (B) (wy) (has2) (Bh) (H) (St) (Cm) (wy2) (ru) (pl) (pk) (rs) (es) (bk2) (dep2) (it) (isL) (lf) (lt) (Rw) (bd) (B2) (wl) (wk) (tc) (ec) (bc) (wc) (sc))  : Z 57 4840 474 [some (.ref scr), some (.ref ax), some (.ref mx), some (.int (nI i))] [] ([(ax, .inr (6, [.ref g, .ref s, .ref lo, .ref tr, .ref lk, .ref ct, .int (bN (sd)), .int (zbar (wh)), .int (Int32.ofInt (sm))])), (g, .inr (0, [.int (nI (n)), .ref f, .ref t, .int (nI (m))])), (f, .inl (cI, 24, .inl (aN (fr)))), (t, .inl (cI, 24, .inl (aN (to)))), (s, .inr (1, [.ref g, .ref ib, .ref fi, .ref sk, .ref lu, .int (bS (Mt)), .int (bS (Op)), .int (nI (h))])), (ib, .inl (cZ, 24, .inl (aB (bk)))), (fi, .inl (cI, 12, .inl (aN (fin)))), (sk, .inl (cI, 12, .inl (aN (st)))), (lu, .inl (cI, 12, .inl (aN (lq)))), (lo, .inr (2, [.ref g, .ref s, .ref dp, .ref od])), (dp, .inl (cI, 12, .inl (aN (dep)))), (od, .inl (cI, 24, .inl (aN (ord)))), (tr, .inr (3, [.ref g, .ref hs, .ref gr])), (hs, .inl (cZ, 24, .inl (aB (has)))), (gr, .inl (cI, 12, .inl (aN (grp)))), (lk, .inr (4, [.ref g, .ref s, .ref kt, .ref rw, .ref vl, .ref sv, .ref bs, .ref ko, .int (nI (wy))])), (rw, .inl (cI, 12, .inl (aN (R)))), (vl, .inl (cI, 24, .inl (aN (V)))), (sv, .inl (cI, 24, .inl (aN (SV)))), (bs, .inl (cI, 12, .inl (aI (B)))), (ko, .inl (cI, 24, .inl (aN (o2)))), (kt, .inr (3, [.ref g, .ref hs2, .ref gr2])), (hs2, .inl (cZ, 24, .inl (aB (has2)))), (gr2, .inl (cI, 12, .inl (aN (grp2)))), (ct, .inr (5, [.ref g, .ref tr, .ref bh, .ref ht, .ref sp, .ref cp])), (bh, .inl (cI, 24, .inl (aS (Bh)))), (ht, .inl (cI, 24, .inl (aI (H)))), (sp, .inl (cI, 12, .inl (aI (St)))), (cp, .inl (cI, 200, .inl (aI (Cm)))), mO mx r (n) (m) (sd) (pr) (wy2) (fo) (ru) (pl) (pk) (rs) (es), (r 2, .inl (cI, 24, .inl (aN (fr)))), (r 3, .inl (cI, 24, .inl (aN (to)))), (r 5, .inl (cI, 12, .inl (aN (mt)))), (r 6, .inl (cI, 12, .inl (aN (nx)))), (r 7, .inl (cI, 12, .inl (aN (pa)))), (r 8, .inl (cZ, 24, .inl (aB (bk2)))), (r 9, .inl (cZ, 12, .inl (aB (mk)))), (r 10, .inl (cI, 12, .inl (aN (dep2)))), (r 11, .inl (cI, 24, .inl (aN (so)))), (r 12, .inl (cZ, 24, .inl (aB (it)))), (r 13, .inl (cZ, 48, .inl (aB (isL)))), (r 14, .inl (cI, 48, .inl (aN (lf)))), (r 15, .inl (cI, 48, .inl (aN (lt)))), (r 16, .inl (cI, 12, .inl (aN (Rw)))), (r 17, .inl (cZ, 48, .inl (aB (lT)))), (r 18, .inl (cZ, 12, .inl (aB (bd)))), (r 19, .inl (cI, 12, .inl (aI (B2)))), (r 21, .inl (cI, 48, .inl (aN (pA)))), (r 22, .inl (cI, 48, .inl (aN (pB)))), (r 24, .inl (cI, 200, .inl (aN (wl)))), (r 25, .inl (cI, 3200, .inl (aN (wk)))), (r 27, .inl (cI, 16, .inl (aN (tr2)))), (r 31, .inl (cI, 16, .inl (aN (tc)))), (r 32, .inl (cI, 24, .inl (aI (ec)))), (r 33, .inl (cI, 12, .inl (aI (bc)))), (r 34, .inl (cI, 200, .inl (aI (wc)))), (r 35, .inl (cI, 12, .inl (aI (sc))))]) := by
  obtain ⟨hn, hm, hok, hfr, hto⟩ := zJ_hok hJ
  have hwh := zJ_wh hJ
  have hzu := zJ_zun hJ
  have hJc := hJ
  obtain ⟨c1, c2, c3, c4, c5, c6, c7, c8, c9, c10, c11, c12, c13, c14⟩ := hJc
  rcases zbft sd with hsd | hsd
  · rcases Classical.em (∃ w q, w < wy2 ∧ q < 2147483648 ∧ (xs (i + 1)) = nI w ∧ (xs (i + 2)) = nI q) with hgood | hbad
    · obtain ⟨⟨rho, rr, s1, s2, s3, s4, s5, s6, s7, s8, s9, s10, hvv, hsv⟩, hD⟩ := c14 hsd
      obtain ⟨w, q, hw, hq, hxw, hkq⟩ := hgood
      have hw2 : w < wy := by rw [s8.trans s9.symm]; exact hw
      have hkn : ¬ (xs (i + 2)) < 0 := by rw [hkq]; exact Int32.not_lt.mpr (zi_ge0 hq)
      refine z_aload_n hX 1 dL_law_474 rfl rfl ?_
      refine z_aload_n hX 0 dL_law_475 rfl rfl ?_
      refine z_iload_n hX 3 dL_law_476 rfl rfl ?_
      refine z_iconst hX (nI 1) dL_law_477 rfl ?_
      refine z_iaddN hX dL_law_478 ?_
      refine hsl.1 _ _ _ _ _ _ (i + 1) (by omega) dL_law_479 ?_
      refine z_aload_n hX 0 dL_law_480 rfl rfl ?_
      refine z_iload_n hX 3 dL_law_481 rfl rfl ?_
      refine z_iconst hX (nI 2) dL_law_482 rfl ?_
      refine z_iaddN hX dL_law_483 ?_
      refine hsl.1 _ _ _ _ _ _ (i + 2) (by omega) dL_law_484 ?_
      refine z_Vr hX (kA_along l D cI cZ ax g s lo tr lk ct sd wh sm kt rw vl sv bs ko R V SV B o2 wy f t n m fr to ib fi sk lu Mt Op h bk fin st lq (xs (i + 1)) (xs (i + 2)) hn hm hok c4 hsv hvv) mw_494 mw_495 mw_496 mw_1 mw_497 rfl rfl ⟨rfl, by decide, by decide, rfl⟩ (by decide) 0 rfl rfl rfl rfl (Nat.le_of_ble_eq_true rfl) dL_law_485 (by decide) [0, 15, 16, 17, 18, 19, 20, 1, 2, 3, 4, 5, 6, 7, 8] rfl rfl (fun v wn hv => ?_)
      obtain ⟨hw_, hv_⟩ := hv
      have hv := And.intro (hv_.2 w hw2 hxw hsd hkn) hw_
      obtain ⟨rfl, rfl⟩ := hv
      refine ⟨rfl, ?_⟩
      refine z_aload_n hX 2 dL_law_488 rfl rfl ?_
      refine z_aload_n hX 0 dL_law_489 rfl rfl ?_
      refine z_iload_n hX 3 dL_law_490 rfl rfl ?_
      refine z_iconst hX (nI 1) dL_law_491 rfl ?_
      refine z_iaddN hX dL_law_492 ?_
      refine hsl.1 _ _ _ _ _ _ (i + 1) (by omega) dL_law_493 ?_
      refine z_aload_n hX 0 dL_law_494 rfl rfl ?_
      refine z_iload_n hX 3 dL_law_495 rfl rfl ?_
      refine z_iconst hX (nI 2) dL_law_496 rfl ?_
      refine z_iaddN hX dL_law_497 ?_
      refine hsl.1 _ _ _ _ _ _ (i + 2) (by omega) dL_law_498 ?_
      refine z_Vr hX (kM_along l D cI cZ mx r (n) (m) (sd) (pr) (wy2) (fo) (ru) (pl) (pk) (rs) (es) wl wk (xs (i + 1)) (xs (i + 2)) c5 c10 (fun w q _ _ => by have := c11 (16 * w + q); omega)) mw_832 mw_833 mw_834 mw_9 mw_835 rfl rfl ⟨rfl, by decide, by decide, rfl⟩ (by decide) 29 rfl rfl rfl rfl (Nat.le_of_ble_eq_true rfl) dL_law_499 (by decide) [29, 49, 50] rfl rfl (fun v wn hv => ?_)
      obtain ⟨hw_, hv_⟩ := hv
      have hv := And.intro (hv_.2 w q hw hq hxw hkq hsd) hw_
      obtain ⟨rfl, rfl⟩ := hv
      refine ⟨rfl, ?_⟩
      refine z_icmp_eq hX 564 dL_law_502 rfl (fun h502 => ?_) (fun h502 => ?_)
      · have hJ2 := hJ
        exact hk _ _ _ _ _ _ _ _ _ _ _ _ _ _ _ _ _ _ _ _ _ _ _ _ _ _ _ _ _ _ _ _ _ _ _ _ _ _ _ _ _ _ _ _ _ _ _ _ _ _ _ _ _ _ _ _ _ _ _ _ _ _ _ hJ2
      · exact absurd (by rw [hkq]; exact zJ_along hJ hsd hw hq) h502
    · obtain ⟨⟨rho, rr, s1, s2, s3, s4, s5, s6, s7, s8, s9, s10, hvv, hsv⟩, hD⟩ := c14 hsd
      have hno : (sd && zin (xs (i + 1)) wy) = false ∨ (xs (i + 2)) < 0 := by
        by_cases hk0 : (xs (i + 2)) < 0
        · exact Or.inr hk0
        · refine Or.inl ?_
          cases hzz : (sd && zin (xs (i + 1)) wy) with
          | false => rfl
          | true =>
            obtain ⟨_, w, hw, hxw⟩ := zkn (by omega) hzz
            obtain ⟨q, hq, hkq⟩ := zn_of hk0
            exact absurd ⟨w, q, by rw [s9, ← s8]; exact hw, hq, hxw, hkq⟩ hbad
      have hno2 := hno
      rw [s8.trans s9.symm] at hno2
      refine z_aload_n hX 1 dL_law_474 rfl rfl ?_
      refine z_aload_n hX 0 dL_law_475 rfl rfl ?_
      refine z_iload_n hX 3 dL_law_476 rfl rfl ?_
      refine z_iconst hX (nI 1) dL_law_477 rfl ?_
      refine z_iaddN hX dL_law_478 ?_
      refine hsl.1 _ _ _ _ _ _ (i + 1) (by omega) dL_law_479 ?_
      refine z_aload_n hX 0 dL_law_480 rfl rfl ?_
      refine z_iload_n hX 3 dL_law_481 rfl rfl ?_
      refine z_iconst hX (nI 2) dL_law_482 rfl ?_
      refine z_iaddN hX dL_law_483 ?_
      refine hsl.1 _ _ _ _ _ _ (i + 2) (by omega) dL_law_484 ?_
      refine z_Vr hX (kA_along l D cI cZ ax g s lo tr lk ct sd wh sm kt rw vl sv bs ko R V SV B o2 wy f t n m fr to ib fi sk lu Mt Op h bk fin st lq (xs (i + 1)) (xs (i + 2)) hn hm hok c4 hsv hvv) mw_494 mw_495 mw_496 mw_1 mw_497 rfl rfl ⟨rfl, by decide, by decide, rfl⟩ (by decide) 0 rfl rfl rfl rfl (Nat.le_of_ble_eq_true rfl) dL_law_485 (by decide) [0, 15, 16, 17, 18, 19, 20, 1, 2, 3, 4, 5, 6, 7, 8] rfl rfl (fun v wn hv => ?_)
      obtain ⟨hw_, hv_⟩ := hv
      have hv := And.intro (hv_.1 hno) hw_
      obtain ⟨rfl, rfl⟩ := hv
      refine ⟨rfl, ?_⟩
      refine z_aload_n hX 2 dL_law_488 rfl rfl ?_
      refine z_aload_n hX 0 dL_law_489 rfl rfl ?_
      refine z_iload_n hX 3 dL_law_490 rfl rfl ?_
      refine z_iconst hX (nI 1) dL_law_491 rfl ?_
      refine z_iaddN hX dL_law_492 ?_
      refine hsl.1 _ _ _ _ _ _ (i + 1) (by omega) dL_law_493 ?_
      refine z_aload_n hX 0 dL_law_494 rfl rfl ?_
      refine z_iload_n hX 3 dL_law_495 rfl rfl ?_
      refine z_iconst hX (nI 2) dL_law_496 rfl ?_
      refine z_iaddN hX dL_law_497 ?_
      refine hsl.1 _ _ _ _ _ _ (i + 2) (by omega) dL_law_498 ?_
      refine z_Vr hX (kM_along l D cI cZ mx r (n) (m) (sd) (pr) (wy2) (fo) (ru) (pl) (pk) (rs) (es) wl wk (xs (i + 1)) (xs (i + 2)) c5 c10 (fun w q _ _ => by have := c11 (16 * w + q); omega)) mw_832 mw_833 mw_834 mw_9 mw_835 rfl rfl ⟨rfl, by decide, by decide, rfl⟩ (by decide) 29 rfl rfl rfl rfl (Nat.le_of_ble_eq_true rfl) dL_law_499 (by decide) [29, 49, 50] rfl rfl (fun v wn hv => ?_)
      obtain ⟨hw_, hv_⟩ := hv
      have hv := And.intro (hv_.1 hno2) hw_
      obtain ⟨rfl, rfl⟩ := hv
      refine ⟨rfl, ?_⟩
      refine z_icmp_eq hX 564 dL_law_502 rfl (fun h502 => ?_) (fun h502 => ?_)
      · have hJ2 := hJ
        exact hk _ _ _ _ _ _ _ _ _ _ _ _ _ _ _ _ _ _ _ _ _ _ _ _ _ _ _ _ _ _ _ _ _ _ _ _ _ _ _ _ _ _ _ _ _ _ _ _ _ _ _ _ _ _ _ _ _ _ _ _ _ _ _ hJ2
      · exact absurd (rfl) h502
  · skip
    refine z_aload_n hX 1 dL_law_474 rfl rfl ?_
    refine z_aload_n hX 0 dL_law_475 rfl rfl ?_
    refine z_iload_n hX 3 dL_law_476 rfl rfl ?_
    refine z_iconst hX (nI 1) dL_law_477 rfl ?_
    refine z_iaddN hX dL_law_478 ?_
    refine hsl.1 _ _ _ _ _ _ (i + 1) (by omega) dL_law_479 ?_
    refine z_aload_n hX 0 dL_law_480 rfl rfl ?_
    refine z_iload_n hX 3 dL_law_481 rfl rfl ?_
    refine z_iconst hX (nI 2) dL_law_482 rfl ?_
    refine z_iaddN hX dL_law_483 ?_
    refine hsl.1 _ _ _ _ _ _ (i + 2) (by omega) dL_law_484 ?_
    refine z_Vr hX (kA_along0 l D cI cZ ax g s lo tr lk ct sd wh sm kt rw vl sv bs ko R V SV B o2 wy (xs (i + 1)) (xs (i + 2)) hsd) mw_494 mw_495 mw_496 mw_1 mw_497 rfl rfl ⟨rfl, by decide, by decide, rfl⟩ (by decide) 0 rfl rfl rfl rfl (Nat.le_of_ble_eq_true rfl) dL_law_485 (by decide) [0, 15, 16, 17, 18, 19, 20] rfl rfl (fun v wn hv => ?_)
    obtain ⟨rfl, rfl⟩ := hv
    refine ⟨rfl, ?_⟩
    refine z_aload_n hX 2 dL_law_488 rfl rfl ?_
    refine z_aload_n hX 0 dL_law_489 rfl rfl ?_
    refine z_iload_n hX 3 dL_law_490 rfl rfl ?_
    refine z_iconst hX (nI 1) dL_law_491 rfl ?_
    refine z_iaddN hX dL_law_492 ?_
    refine hsl.1 _ _ _ _ _ _ (i + 1) (by omega) dL_law_493 ?_
    refine z_aload_n hX 0 dL_law_494 rfl rfl ?_
    refine z_iload_n hX 3 dL_law_495 rfl rfl ?_
    refine z_iconst hX (nI 2) dL_law_496 rfl ?_
    refine z_iaddN hX dL_law_497 ?_
    refine hsl.1 _ _ _ _ _ _ (i + 2) (by omega) dL_law_498 ?_
    refine z_Vr hX (kM_along l D cI cZ mx r (n) (m) (sd) (pr) (wy2) (fo) (ru) (pl) (pk) (rs) (es) wl wk (xs (i + 1)) (xs (i + 2)) c5 c10 (fun w q _ _ => by have := c11 (16 * w + q); omega)) mw_832 mw_833 mw_834 mw_9 mw_835 rfl rfl ⟨rfl, by decide, by decide, rfl⟩ (by decide) 29 rfl rfl rfl rfl (Nat.le_of_ble_eq_true rfl) dL_law_499 (by decide) [29, 49, 50] rfl rfl (fun v wn hv => ?_)
    obtain ⟨hw_, hv_⟩ := hv
    have hv := And.intro (hv_.1 (Or.inl (by rw [hsd]; rfl))) hw_
    obtain ⟨rfl, rfl⟩ := hv
    refine ⟨rfl, ?_⟩
    refine z_icmp_eq hX 564 dL_law_502 rfl (fun h502 => ?_) (fun h502 => ?_)
    · have hJ2 := hJ
      exact hk _ _ _ _ _ _ _ _ _ _ _ _ _ _ _ _ _ _ _ _ _ _ _ _ _ _ _ _ _ _ _ _ _ _ _ _ _ _ _ _ _ _ _ _ _ _ _ _ _ _ _ _ _ _ _ _ _ _ _ _ _ _ _ hJ2
    · exact absurd (rfl) h502

set_option maxHeartbeats 400000 in
set_option maxRecDepth 100000 in
theorem kL_covered (l : Launch) (D : va_G) (cI cZ : ClassId) {Z : zF} (scr ax g s lo tr lk ct f t ib fi sk lu dp od hs gr kt rw vl sv bs ko hs2 gr2 bh ht sp cp mx : Nat) (r : Nat → Nat) {L : Nat} {xs : Nat → Int32} {nm : String} (hX : zLX Z l D cI cZ nm) (hsl : zSL Z scr L xs) (hL : L ≤ 1537) (n m : Nat) (fr to : Nat → Nat) (sd : Bool) (wh : Option Nat) (sm : Int) (Mt Op : Nat → Bool) (h : Nat) (bk : Nat → Bool) (fin st lq dep ord : Nat → Nat) (has : Nat → Bool) (grp R V SV : Nat → Nat) (B : Nat → Int) (o2 : Nat → Nat) (wy : Nat) (has2 : Nat → Bool) (grp2 : Nat → Nat) (Bh : Nat → Nat → Bool) (H St Cm : Nat → Int) (pr wy2 fo : Nat) (ru : Bool) (pl pk : Nat) (rs es : Int) (mt nx pa : Nat → Nat) (bk2 mk : Nat → Bool) (dep2 so : Nat → Nat) (it isL : Nat → Bool) (lf lt Rw : Nat → Nat) (lT bd : Nat → Bool) (B2 : Nat → Int) (pA pB wl wk tr2 tc : Nat → Nat) (ec bc wc sc : Nat → Int) (i : Nat) (hi : i + 2 < L) (hk : zLP Z cI cZ scr ax g s lo tr lk ct f t ib fi sk lu dp od hs gr kt rw vl sv bs ko hs2 gr2 bh ht sp cp mx r L xs i) (hJ : zJ (n) (m) (fr) (to) (sd) (wh) (sm) (bk) (dep) (has) (V) (SV) (B) (wy) (has2) (Bh) (H) (St) (Cm) (wy2) (ru) (pl) (pk) (rs) (es) (bk2) (dep2) (it) (isL) (lf) (lt) (Rw) (bd) (B2) (wl) (wk) (tc) (ec) (bc) (wc) (sc))  : Z 57 4840 530 [some (.ref scr), some (.ref ax), some (.ref mx), some (.int (nI i))] [] ([(ax, .inr (6, [.ref g, .ref s, .ref lo, .ref tr, .ref lk, .ref ct, .int (bN (sd)), .int (zbar (wh)), .int (Int32.ofInt (sm))])), (g, .inr (0, [.int (nI (n)), .ref f, .ref t, .int (nI (m))])), (f, .inl (cI, 24, .inl (aN (fr)))), (t, .inl (cI, 24, .inl (aN (to)))), (s, .inr (1, [.ref g, .ref ib, .ref fi, .ref sk, .ref lu, .int (bS (Mt)), .int (bS (Op)), .int (nI (h))])), (ib, .inl (cZ, 24, .inl (aB (bk)))), (fi, .inl (cI, 12, .inl (aN (fin)))), (sk, .inl (cI, 12, .inl (aN (st)))), (lu, .inl (cI, 12, .inl (aN (lq)))), (lo, .inr (2, [.ref g, .ref s, .ref dp, .ref od])), (dp, .inl (cI, 12, .inl (aN (dep)))), (od, .inl (cI, 24, .inl (aN (ord)))), (tr, .inr (3, [.ref g, .ref hs, .ref gr])), (hs, .inl (cZ, 24, .inl (aB (has)))), (gr, .inl (cI, 12, .inl (aN (grp)))), (lk, .inr (4, [.ref g, .ref s, .ref kt, .ref rw, .ref vl, .ref sv, .ref bs, .ref ko, .int (nI (wy))])), (rw, .inl (cI, 12, .inl (aN (R)))), (vl, .inl (cI, 24, .inl (aN (V)))), (sv, .inl (cI, 24, .inl (aN (SV)))), (bs, .inl (cI, 12, .inl (aI (B)))), (ko, .inl (cI, 24, .inl (aN (o2)))), (kt, .inr (3, [.ref g, .ref hs2, .ref gr2])), (hs2, .inl (cZ, 24, .inl (aB (has2)))), (gr2, .inl (cI, 12, .inl (aN (grp2)))), (ct, .inr (5, [.ref g, .ref tr, .ref bh, .ref ht, .ref sp, .ref cp])), (bh, .inl (cI, 24, .inl (aS (Bh)))), (ht, .inl (cI, 24, .inl (aI (H)))), (sp, .inl (cI, 12, .inl (aI (St)))), (cp, .inl (cI, 200, .inl (aI (Cm)))), mO mx r (n) (m) (sd) (pr) (wy2) (fo) (ru) (pl) (pk) (rs) (es), (r 2, .inl (cI, 24, .inl (aN (fr)))), (r 3, .inl (cI, 24, .inl (aN (to)))), (r 5, .inl (cI, 12, .inl (aN (mt)))), (r 6, .inl (cI, 12, .inl (aN (nx)))), (r 7, .inl (cI, 12, .inl (aN (pa)))), (r 8, .inl (cZ, 24, .inl (aB (bk2)))), (r 9, .inl (cZ, 12, .inl (aB (mk)))), (r 10, .inl (cI, 12, .inl (aN (dep2)))), (r 11, .inl (cI, 24, .inl (aN (so)))), (r 12, .inl (cZ, 24, .inl (aB (it)))), (r 13, .inl (cZ, 48, .inl (aB (isL)))), (r 14, .inl (cI, 48, .inl (aN (lf)))), (r 15, .inl (cI, 48, .inl (aN (lt)))), (r 16, .inl (cI, 12, .inl (aN (Rw)))), (r 17, .inl (cZ, 48, .inl (aB (lT)))), (r 18, .inl (cZ, 12, .inl (aB (bd)))), (r 19, .inl (cI, 12, .inl (aI (B2)))), (r 21, .inl (cI, 48, .inl (aN (pA)))), (r 22, .inl (cI, 48, .inl (aN (pB)))), (r 24, .inl (cI, 200, .inl (aN (wl)))), (r 25, .inl (cI, 3200, .inl (aN (wk)))), (r 27, .inl (cI, 16, .inl (aN (tr2)))), (r 31, .inl (cI, 16, .inl (aN (tc)))), (r 32, .inl (cI, 24, .inl (aI (ec)))), (r 33, .inl (cI, 12, .inl (aI (bc)))), (r 34, .inl (cI, 200, .inl (aI (wc)))), (r 35, .inl (cI, 12, .inl (aI (sc))))]) := by
  obtain ⟨hn, hm, hok, hfr, hto⟩ := zJ_hok hJ
  have hwh := zJ_wh hJ
  have hzu := zJ_zun hJ
  have hJc := hJ
  obtain ⟨c1, c2, c3, c4, c5, c6, c7, c8, c9, c10, c11, c12, c13, c14⟩ := hJc
  rcases zbft sd with hsd | hsd
  · obtain ⟨k1, k2, k3, k4, k5, k6⟩ := zJ_cnt hJ hsd
    rcases Classical.em ((xs (i + 1)) < 0) with hx0 | hx0
    · have hno : ∀ q, q < 5 → (xs (i + 1)) ≠ nI q := fun q hq hc => by rw [hc] at hx0; exact absurd hx0 (Int32.not_lt.mpr (zi_ge0 (by omega)))
      refine z_aload_n hX 1 dL_law_530 rfl rfl ?_
      refine z_aload_n hX 0 dL_law_531 rfl rfl ?_
      refine z_iload_n hX 3 dL_law_532 rfl rfl ?_
      refine z_iconst hX (nI 1) dL_law_533 rfl ?_
      refine z_iaddN hX dL_law_534 ?_
      refine hsl.1 _ _ _ _ _ _ (i + 1) (by omega) dL_law_535 ?_
      refine z_Vr hX (kA_covered l D cI cZ ax g s lo tr lk ct sd wh sm f t n m fr to ib fi sk lu Mt Op h bk fin st lq dp od dep ord hs gr has grp kt rw vl sv bs ko R V SV B o2 wy hs2 gr2 has2 grp2 bh ht sp cp Bh H St Cm (xs (i + 1)) hwh hn hm hok) mw_515 mw_516 mw_517 mw_1 mw_518 rfl rfl ⟨rfl, by decide, by decide, rfl⟩ (by decide) 0 rfl rfl rfl rfl (Nat.le_of_ble_eq_true rfl) dL_law_536 (by decide) [0, 1, 2, 3, 4, 5, 6, 7, 8, 9, 10, 11, 12, 13, 14, 15, 16, 17, 18, 19, 20, 21, 22, 23, 24, 25, 26, 27, 28] rfl rfl (fun v wn hv => ?_)
      obtain ⟨hw_, hv_⟩ := hv
      have hv := And.intro ((hv_.2 hsd).1 hno) hw_
      obtain ⟨rfl, rfl⟩ := hv
      refine ⟨rfl, ?_⟩
      refine z_aload_n hX 2 dL_law_539 rfl rfl ?_
      refine z_aload_n hX 0 dL_law_540 rfl rfl ?_
      refine z_iload_n hX 3 dL_law_541 rfl rfl ?_
      refine z_iconst hX (nI 1) dL_law_542 rfl ?_
      refine z_iaddN hX dL_law_543 ?_
      refine hsl.1 _ _ _ _ _ _ (i + 1) (by omega) dL_law_544 ?_
      refine z_Vr hX (kM_covered l D cI cZ mx r (n) (m) (sd) (pr) (wy2) (fo) (ru) (pl) (pk) (rs) (es) ec bc wc (xs (i + 1)) hn hm c5) mw_840 mw_841 mw_842 mw_9 mw_843 rfl rfl ⟨rfl, by decide, by decide, rfl⟩ (by decide) 29 rfl rfl rfl rfl (Nat.le_of_ble_eq_true rfl) dL_law_545 (by decide) [29, 53, 54, 55] rfl rfl (fun v wn hv => ?_)
      obtain ⟨hw_, hv_⟩ := hv
      have hv := And.intro (hv_.1 (Or.inr hx0)) hw_
      obtain ⟨rfl, rfl⟩ := hv
      refine ⟨rfl, ?_⟩
      refine z_icmp_eq hX 564 dL_law_548 rfl (fun h548 => ?_) (fun h548 => ?_)
      · have hJ2 := hJ
        exact hk _ _ _ _ _ _ _ _ _ _ _ _ _ _ _ _ _ _ _ _ _ _ _ _ _ _ _ _ _ _ _ _ _ _ _ _ _ _ _ _ _ _ _ _ _ _ _ _ _ _ _ _ _ _ _ _ _ _ _ _ _ _ _ hJ2
      · exact absurd (rfl) h548
    · obtain ⟨j, hj, hxj⟩ := zn_of hx0
      rcases Nat.lt_or_ge 4 j with hj4 | hj4
      · have hno : ∀ q, q < 5 → (xs (i + 1)) ≠ nI q := fun q hq hc => by have h9 := (nI_eq (a := j) (b := q) (by omega) (by omega)).mp (hxj.symm.trans hc); omega
        refine z_aload_n hX 1 dL_law_530 rfl rfl ?_
        refine z_aload_n hX 0 dL_law_531 rfl rfl ?_
        refine z_iload_n hX 3 dL_law_532 rfl rfl ?_
        refine z_iconst hX (nI 1) dL_law_533 rfl ?_
        refine z_iaddN hX dL_law_534 ?_
        refine hsl.1 _ _ _ _ _ _ (i + 1) (by omega) dL_law_535 ?_
        refine z_Vr hX (kA_covered l D cI cZ ax g s lo tr lk ct sd wh sm f t n m fr to ib fi sk lu Mt Op h bk fin st lq dp od dep ord hs gr has grp kt rw vl sv bs ko R V SV B o2 wy hs2 gr2 has2 grp2 bh ht sp cp Bh H St Cm (xs (i + 1)) hwh hn hm hok) mw_515 mw_516 mw_517 mw_1 mw_518 rfl rfl ⟨rfl, by decide, by decide, rfl⟩ (by decide) 0 rfl rfl rfl rfl (Nat.le_of_ble_eq_true rfl) dL_law_536 (by decide) [0, 1, 2, 3, 4, 5, 6, 7, 8, 9, 10, 11, 12, 13, 14, 15, 16, 17, 18, 19, 20, 21, 22, 23, 24, 25, 26, 27, 28] rfl rfl (fun v wn hv => ?_)
        obtain ⟨hw_, hv_⟩ := hv
        have hv := And.intro ((hv_.2 hsd).1 hno) hw_
        obtain ⟨rfl, rfl⟩ := hv
        refine ⟨rfl, ?_⟩
        refine z_aload_n hX 2 dL_law_539 rfl rfl ?_
        refine z_aload_n hX 0 dL_law_540 rfl rfl ?_
        refine z_iload_n hX 3 dL_law_541 rfl rfl ?_
        refine z_iconst hX (nI 1) dL_law_542 rfl ?_
        refine z_iaddN hX dL_law_543 ?_
        refine hsl.1 _ _ _ _ _ _ (i + 1) (by omega) dL_law_544 ?_
        refine z_Vr hX (kM_covered l D cI cZ mx r (n) (m) (sd) (pr) (wy2) (fo) (ru) (pl) (pk) (rs) (es) ec bc wc (xs (i + 1)) hn hm c5) mw_840 mw_841 mw_842 mw_9 mw_843 rfl rfl ⟨rfl, by decide, by decide, rfl⟩ (by decide) 29 rfl rfl rfl rfl (Nat.le_of_ble_eq_true rfl) dL_law_545 (by decide) [29, 53, 54, 55] rfl rfl (fun v wn hv => ?_)
        obtain ⟨hw_, hv_⟩ := hv
        have hv := And.intro (hv_.2 hsd j hj hxj) hw_
        obtain ⟨rfl, rfl⟩ := hv
        refine ⟨rfl, ?_⟩
        refine z_icmp_eq hX 564 dL_law_548 rfl (fun h548 => ?_) (fun h548 => ?_)
        · have hJ2 := hJ
          exact hk _ _ _ _ _ _ _ _ _ _ _ _ _ _ _ _ _ _ _ _ _ _ _ _ _ _ _ _ _ _ _ _ _ _ _ _ _ _ _ _ _ _ _ _ _ _ _ _ _ _ _ _ _ _ _ _ _ _ _ _ _ _ _ hJ2
        · exact absurd ((if_pos hj4).symm) h548
      · obtain h5 | h5 | h5 | h5 | h5 : j = 0 ∨ j = 1 ∨ j = 2 ∨ j = 3 ∨ j = 4 := by omega
        · subst h5
          refine z_aload_n hX 1 dL_law_530 rfl rfl ?_
          refine z_aload_n hX 0 dL_law_531 rfl rfl ?_
          refine z_iload_n hX 3 dL_law_532 rfl rfl ?_
          refine z_iconst hX (nI 1) dL_law_533 rfl ?_
          refine z_iaddN hX dL_law_534 ?_
          refine hsl.1 _ _ _ _ _ _ (i + 1) (by omega) dL_law_535 ?_
          refine z_Vr hX (kA_covered l D cI cZ ax g s lo tr lk ct sd wh sm f t n m fr to ib fi sk lu Mt Op h bk fin st lq dp od dep ord hs gr has grp kt rw vl sv bs ko R V SV B o2 wy hs2 gr2 has2 grp2 bh ht sp cp Bh H St Cm (xs (i + 1)) hwh hn hm hok) mw_515 mw_516 mw_517 mw_1 mw_518 rfl rfl ⟨rfl, by decide, by decide, rfl⟩ (by decide) 0 rfl rfl rfl rfl (Nat.le_of_ble_eq_true rfl) dL_law_536 (by decide) [0, 1, 2, 3, 4, 5, 6, 7, 8, 9, 10, 11, 12, 13, 14, 15, 16, 17, 18, 19, 20, 21, 22, 23, 24, 25, 26, 27, 28] rfl rfl (fun v wn hv => ?_)
          obtain ⟨hw_, hv_⟩ := hv
          have hv := And.intro ((hv_.2 hsd).2.1 hxj) hw_
          obtain ⟨rfl, rfl⟩ := hv
          refine ⟨rfl, ?_⟩
          refine z_aload_n hX 2 dL_law_539 rfl rfl ?_
          refine z_aload_n hX 0 dL_law_540 rfl rfl ?_
          refine z_iload_n hX 3 dL_law_541 rfl rfl ?_
          refine z_iconst hX (nI 1) dL_law_542 rfl ?_
          refine z_iaddN hX dL_law_543 ?_
          refine hsl.1 _ _ _ _ _ _ (i + 1) (by omega) dL_law_544 ?_
          refine z_Vr hX (kM_covered l D cI cZ mx r (n) (m) (sd) (pr) (wy2) (fo) (ru) (pl) (pk) (rs) (es) ec bc wc (xs (i + 1)) hn hm c5) mw_840 mw_841 mw_842 mw_9 mw_843 rfl rfl ⟨rfl, by decide, by decide, rfl⟩ (by decide) 29 rfl rfl rfl rfl (Nat.le_of_ble_eq_true rfl) dL_law_545 (by decide) [29, 53, 54, 55] rfl rfl (fun v wn hv => ?_)
          obtain ⟨hw_, hv_⟩ := hv
          have hv := And.intro (hv_.2 hsd 0 hj hxj) hw_
          obtain ⟨rfl, rfl⟩ := hv
          refine ⟨rfl, ?_⟩
          refine z_icmp_eq hX 564 dL_law_548 rfl (fun h548 => ?_) (fun h548 => ?_)
          · have hJ2 := hJ
            exact hk _ _ _ _ _ _ _ _ _ _ _ _ _ _ _ _ _ _ _ _ _ _ _ _ _ _ _ _ _ _ _ _ _ _ _ _ _ _ _ _ _ _ _ _ _ _ _ _ _ _ _ _ _ _ _ _ _ _ _ _ _ _ _ hJ2
          · exact absurd (by rw [zcv_c (by omega)]; exact congrArg nI (by rw [zpc_eq k2]; rfl)) h548
        · subst h5
          refine z_aload_n hX 1 dL_law_530 rfl rfl ?_
          refine z_aload_n hX 0 dL_law_531 rfl rfl ?_
          refine z_iload_n hX 3 dL_law_532 rfl rfl ?_
          refine z_iconst hX (nI 1) dL_law_533 rfl ?_
          refine z_iaddN hX dL_law_534 ?_
          refine hsl.1 _ _ _ _ _ _ (i + 1) (by omega) dL_law_535 ?_
          refine z_Vr hX (kA_covered l D cI cZ ax g s lo tr lk ct sd wh sm f t n m fr to ib fi sk lu Mt Op h bk fin st lq dp od dep ord hs gr has grp kt rw vl sv bs ko R V SV B o2 wy hs2 gr2 has2 grp2 bh ht sp cp Bh H St Cm (xs (i + 1)) hwh hn hm hok) mw_515 mw_516 mw_517 mw_1 mw_518 rfl rfl ⟨rfl, by decide, by decide, rfl⟩ (by decide) 0 rfl rfl rfl rfl (Nat.le_of_ble_eq_true rfl) dL_law_536 (by decide) [0, 1, 2, 3, 4, 5, 6, 7, 8, 9, 10, 11, 12, 13, 14, 15, 16, 17, 18, 19, 20, 21, 22, 23, 24, 25, 26, 27, 28] rfl rfl (fun v wn hv => ?_)
          obtain ⟨hw_, hv_⟩ := hv
          have hv := And.intro ((hv_.2 hsd).2.2.1 hxj) hw_
          obtain ⟨rfl, rfl⟩ := hv
          refine ⟨rfl, ?_⟩
          refine z_aload_n hX 2 dL_law_539 rfl rfl ?_
          refine z_aload_n hX 0 dL_law_540 rfl rfl ?_
          refine z_iload_n hX 3 dL_law_541 rfl rfl ?_
          refine z_iconst hX (nI 1) dL_law_542 rfl ?_
          refine z_iaddN hX dL_law_543 ?_
          refine hsl.1 _ _ _ _ _ _ (i + 1) (by omega) dL_law_544 ?_
          refine z_Vr hX (kM_covered l D cI cZ mx r (n) (m) (sd) (pr) (wy2) (fo) (ru) (pl) (pk) (rs) (es) ec bc wc (xs (i + 1)) hn hm c5) mw_840 mw_841 mw_842 mw_9 mw_843 rfl rfl ⟨rfl, by decide, by decide, rfl⟩ (by decide) 29 rfl rfl rfl rfl (Nat.le_of_ble_eq_true rfl) dL_law_545 (by decide) [29, 53, 54, 55] rfl rfl (fun v wn hv => ?_)
          obtain ⟨hw_, hv_⟩ := hv
          have hv := And.intro (hv_.2 hsd 1 hj hxj) hw_
          obtain ⟨rfl, rfl⟩ := hv
          refine ⟨rfl, ?_⟩
          refine z_icmp_eq hX 564 dL_law_548 rfl (fun h548 => ?_) (fun h548 => ?_)
          · have hJ2 := hJ
            exact hk _ _ _ _ _ _ _ _ _ _ _ _ _ _ _ _ _ _ _ _ _ _ _ _ _ _ _ _ _ _ _ _ _ _ _ _ _ _ _ _ _ _ _ _ _ _ _ _ _ _ _ _ _ _ _ _ _ _ _ _ _ _ _ hJ2
          · exact absurd (by rw [zcv_c (by omega)]; exact congrArg nI (by rw [zpc_eq k1]; show sp_cnt (zpg ec) m = 0 + sp_cnt (zpg ec) m + 0; omega)) h548
        · subst h5
          refine z_aload_n hX 1 dL_law_530 rfl rfl ?_
          refine z_aload_n hX 0 dL_law_531 rfl rfl ?_
          refine z_iload_n hX 3 dL_law_532 rfl rfl ?_
          refine z_iconst hX (nI 1) dL_law_533 rfl ?_
          refine z_iaddN hX dL_law_534 ?_
          refine hsl.1 _ _ _ _ _ _ (i + 1) (by omega) dL_law_535 ?_
          refine z_Vr hX (kA_covered l D cI cZ ax g s lo tr lk ct sd wh sm f t n m fr to ib fi sk lu Mt Op h bk fin st lq dp od dep ord hs gr has grp kt rw vl sv bs ko R V SV B o2 wy hs2 gr2 has2 grp2 bh ht sp cp Bh H St Cm (xs (i + 1)) hwh hn hm hok) mw_515 mw_516 mw_517 mw_1 mw_518 rfl rfl ⟨rfl, by decide, by decide, rfl⟩ (by decide) 0 rfl rfl rfl rfl (Nat.le_of_ble_eq_true rfl) dL_law_536 (by decide) [0, 1, 2, 3, 4, 5, 6, 7, 8, 9, 10, 11, 12, 13, 14, 15, 16, 17, 18, 19, 20, 21, 22, 23, 24, 25, 26, 27, 28] rfl rfl (fun v wn hv => ?_)
          obtain ⟨hw_, hv_⟩ := hv
          have hv := And.intro ((hv_.2 hsd).2.2.2.1 hxj) hw_
          obtain ⟨rfl, rfl⟩ := hv
          refine ⟨rfl, ?_⟩
          refine z_aload_n hX 2 dL_law_539 rfl rfl ?_
          refine z_aload_n hX 0 dL_law_540 rfl rfl ?_
          refine z_iload_n hX 3 dL_law_541 rfl rfl ?_
          refine z_iconst hX (nI 1) dL_law_542 rfl ?_
          refine z_iaddN hX dL_law_543 ?_
          refine hsl.1 _ _ _ _ _ _ (i + 1) (by omega) dL_law_544 ?_
          refine z_Vr hX (kM_covered l D cI cZ mx r (n) (m) (sd) (pr) (wy2) (fo) (ru) (pl) (pk) (rs) (es) ec bc wc (xs (i + 1)) hn hm c5) mw_840 mw_841 mw_842 mw_9 mw_843 rfl rfl ⟨rfl, by decide, by decide, rfl⟩ (by decide) 29 rfl rfl rfl rfl (Nat.le_of_ble_eq_true rfl) dL_law_545 (by decide) [29, 53, 54, 55] rfl rfl (fun v wn hv => ?_)
          obtain ⟨hw_, hv_⟩ := hv
          have hv := And.intro (hv_.2 hsd 2 hj hxj) hw_
          obtain ⟨rfl, rfl⟩ := hv
          refine ⟨rfl, ?_⟩
          refine z_icmp_eq hX 564 dL_law_548 rfl (fun h548 => ?_) (fun h548 => ?_)
          · have hJ2 := hJ
            exact hk _ _ _ _ _ _ _ _ _ _ _ _ _ _ _ _ _ _ _ _ _ _ _ _ _ _ _ _ _ _ _ _ _ _ _ _ _ _ _ _ _ _ _ _ _ _ _ _ _ _ _ _ _ _ _ _ _ _ _ _ _ _ _ hJ2
          · exact absurd (by rw [zcv_c (by omega)]; exact congrArg nI (by rw [zpc_ways c5 k5, c3]; show sp_cnt (zpg wc) wy2 = 0 + 0 + sp_cnt (zpg wc) wy2; omega)) h548
        · subst h5
          refine z_aload_n hX 1 dL_law_530 rfl rfl ?_
          refine z_aload_n hX 0 dL_law_531 rfl rfl ?_
          refine z_iload_n hX 3 dL_law_532 rfl rfl ?_
          refine z_iconst hX (nI 1) dL_law_533 rfl ?_
          refine z_iaddN hX dL_law_534 ?_
          refine hsl.1 _ _ _ _ _ _ (i + 1) (by omega) dL_law_535 ?_
          refine z_Vr hX (kA_covered l D cI cZ ax g s lo tr lk ct sd wh sm f t n m fr to ib fi sk lu Mt Op h bk fin st lq dp od dep ord hs gr has grp kt rw vl sv bs ko R V SV B o2 wy hs2 gr2 has2 grp2 bh ht sp cp Bh H St Cm (xs (i + 1)) hwh hn hm hok) mw_515 mw_516 mw_517 mw_1 mw_518 rfl rfl ⟨rfl, by decide, by decide, rfl⟩ (by decide) 0 rfl rfl rfl rfl (Nat.le_of_ble_eq_true rfl) dL_law_536 (by decide) [0, 1, 2, 3, 4, 5, 6, 7, 8, 9, 10, 11, 12, 13, 14, 15, 16, 17, 18, 19, 20, 21, 22, 23, 24, 25, 26, 27, 28] rfl rfl (fun v wn hv => ?_)
          obtain ⟨hw_, hv_⟩ := hv
          have hv := And.intro ((hv_.2 hsd).2.2.2.2.1 hxj) hw_
          obtain ⟨rfl, rfl⟩ := hv
          refine ⟨rfl, ?_⟩
          refine z_aload_n hX 2 dL_law_539 rfl rfl ?_
          refine z_aload_n hX 0 dL_law_540 rfl rfl ?_
          refine z_iload_n hX 3 dL_law_541 rfl rfl ?_
          refine z_iconst hX (nI 1) dL_law_542 rfl ?_
          refine z_iaddN hX dL_law_543 ?_
          refine hsl.1 _ _ _ _ _ _ (i + 1) (by omega) dL_law_544 ?_
          refine z_Vr hX (kM_covered l D cI cZ mx r (n) (m) (sd) (pr) (wy2) (fo) (ru) (pl) (pk) (rs) (es) ec bc wc (xs (i + 1)) hn hm c5) mw_840 mw_841 mw_842 mw_9 mw_843 rfl rfl ⟨rfl, by decide, by decide, rfl⟩ (by decide) 29 rfl rfl rfl rfl (Nat.le_of_ble_eq_true rfl) dL_law_545 (by decide) [29, 53, 54, 55] rfl rfl (fun v wn hv => ?_)
          obtain ⟨hw_, hv_⟩ := hv
          have hv := And.intro (hv_.2 hsd 3 hj hxj) hw_
          obtain ⟨rfl, rfl⟩ := hv
          refine ⟨rfl, ?_⟩
          refine z_icmp_eq hX 564 dL_law_548 rfl (fun h548 => ?_) (fun h548 => ?_)
          · have hJ2 := hJ
            exact hk _ _ _ _ _ _ _ _ _ _ _ _ _ _ _ _ _ _ _ _ _ _ _ _ _ _ _ _ _ _ _ _ _ _ _ _ _ _ _ _ _ _ _ _ _ _ _ _ _ _ _ _ _ _ _ _ _ _ _ _ _ _ _ hJ2
          · exact absurd (by rw [k2 0 (by omega), k3]; rfl) h548
        · subst h5
          refine z_aload_n hX 1 dL_law_530 rfl rfl ?_
          refine z_aload_n hX 0 dL_law_531 rfl rfl ?_
          refine z_iload_n hX 3 dL_law_532 rfl rfl ?_
          refine z_iconst hX (nI 1) dL_law_533 rfl ?_
          refine z_iaddN hX dL_law_534 ?_
          refine hsl.1 _ _ _ _ _ _ (i + 1) (by omega) dL_law_535 ?_
          refine z_Vr hX (kA_covered l D cI cZ ax g s lo tr lk ct sd wh sm f t n m fr to ib fi sk lu Mt Op h bk fin st lq dp od dep ord hs gr has grp kt rw vl sv bs ko R V SV B o2 wy hs2 gr2 has2 grp2 bh ht sp cp Bh H St Cm (xs (i + 1)) hwh hn hm hok) mw_515 mw_516 mw_517 mw_1 mw_518 rfl rfl ⟨rfl, by decide, by decide, rfl⟩ (by decide) 0 rfl rfl rfl rfl (Nat.le_of_ble_eq_true rfl) dL_law_536 (by decide) [0, 1, 2, 3, 4, 5, 6, 7, 8, 9, 10, 11, 12, 13, 14, 15, 16, 17, 18, 19, 20, 21, 22, 23, 24, 25, 26, 27, 28] rfl rfl (fun v wn hv => ?_)
          obtain ⟨hw_, hv_⟩ := hv
          have hv := And.intro ((hv_.2 hsd).2.2.2.2.2 hxj) hw_
          obtain ⟨rfl, rfl⟩ := hv
          refine ⟨rfl, ?_⟩
          refine z_aload_n hX 2 dL_law_539 rfl rfl ?_
          refine z_aload_n hX 0 dL_law_540 rfl rfl ?_
          refine z_iload_n hX 3 dL_law_541 rfl rfl ?_
          refine z_iconst hX (nI 1) dL_law_542 rfl ?_
          refine z_iaddN hX dL_law_543 ?_
          refine hsl.1 _ _ _ _ _ _ (i + 1) (by omega) dL_law_544 ?_
          refine z_Vr hX (kM_covered l D cI cZ mx r (n) (m) (sd) (pr) (wy2) (fo) (ru) (pl) (pk) (rs) (es) ec bc wc (xs (i + 1)) hn hm c5) mw_840 mw_841 mw_842 mw_9 mw_843 rfl rfl ⟨rfl, by decide, by decide, rfl⟩ (by decide) 29 rfl rfl rfl rfl (Nat.le_of_ble_eq_true rfl) dL_law_545 (by decide) [29, 53, 54, 55] rfl rfl (fun v wn hv => ?_)
          obtain ⟨hw_, hv_⟩ := hv
          have hv := And.intro (hv_.2 hsd 4 hj hxj) hw_
          obtain ⟨rfl, rfl⟩ := hv
          refine ⟨rfl, ?_⟩
          refine z_icmp_eq hX 564 dL_law_548 rfl (fun h548 => ?_) (fun h548 => ?_)
          · have hJ2 := hJ
            exact hk _ _ _ _ _ _ _ _ _ _ _ _ _ _ _ _ _ _ _ _ _ _ _ _ _ _ _ _ _ _ _ _ _ _ _ _ _ _ _ _ _ _ _ _ _ _ _ _ _ _ _ _ _ _ _ _ _ _ _ _ _ _ _ hJ2
          · exact absurd (by rw [k2 1 (by omega), k4]; rfl) h548
  · skip
    refine z_aload_n hX 1 dL_law_530 rfl rfl ?_
    refine z_aload_n hX 0 dL_law_531 rfl rfl ?_
    refine z_iload_n hX 3 dL_law_532 rfl rfl ?_
    refine z_iconst hX (nI 1) dL_law_533 rfl ?_
    refine z_iaddN hX dL_law_534 ?_
    refine hsl.1 _ _ _ _ _ _ (i + 1) (by omega) dL_law_535 ?_
    refine z_Vr hX (kA_covered l D cI cZ ax g s lo tr lk ct sd wh sm f t n m fr to ib fi sk lu Mt Op h bk fin st lq dp od dep ord hs gr has grp kt rw vl sv bs ko R V SV B o2 wy hs2 gr2 has2 grp2 bh ht sp cp Bh H St Cm (xs (i + 1)) hwh hn hm hok) mw_515 mw_516 mw_517 mw_1 mw_518 rfl rfl ⟨rfl, by decide, by decide, rfl⟩ (by decide) 0 rfl rfl rfl rfl (Nat.le_of_ble_eq_true rfl) dL_law_536 (by decide) [0, 1, 2, 3, 4, 5, 6, 7, 8, 9, 10, 11, 12, 13, 14, 15, 16, 17, 18, 19, 20, 21, 22, 23, 24, 25, 26, 27, 28] rfl rfl (fun v wn hv => ?_)
    obtain ⟨hw_, hv_⟩ := hv
    have hv := And.intro (hv_.1 hsd) hw_
    obtain ⟨rfl, rfl⟩ := hv
    refine ⟨rfl, ?_⟩
    refine z_aload_n hX 2 dL_law_539 rfl rfl ?_
    refine z_aload_n hX 0 dL_law_540 rfl rfl ?_
    refine z_iload_n hX 3 dL_law_541 rfl rfl ?_
    refine z_iconst hX (nI 1) dL_law_542 rfl ?_
    refine z_iaddN hX dL_law_543 ?_
    refine hsl.1 _ _ _ _ _ _ (i + 1) (by omega) dL_law_544 ?_
    refine z_Vr hX (kM_covered l D cI cZ mx r (n) (m) (sd) (pr) (wy2) (fo) (ru) (pl) (pk) (rs) (es) ec bc wc (xs (i + 1)) hn hm c5) mw_840 mw_841 mw_842 mw_9 mw_843 rfl rfl ⟨rfl, by decide, by decide, rfl⟩ (by decide) 29 rfl rfl rfl rfl (Nat.le_of_ble_eq_true rfl) dL_law_545 (by decide) [29, 53, 54, 55] rfl rfl (fun v wn hv => ?_)
    obtain ⟨hw_, hv_⟩ := hv
    have hv := And.intro (hv_.1 (Or.inl hsd)) hw_
    obtain ⟨rfl, rfl⟩ := hv
    refine ⟨rfl, ?_⟩
    refine z_icmp_eq hX 564 dL_law_548 rfl (fun h548 => ?_) (fun h548 => ?_)
    · have hJ2 := hJ
      exact hk _ _ _ _ _ _ _ _ _ _ _ _ _ _ _ _ _ _ _ _ _ _ _ _ _ _ _ _ _ _ _ _ _ _ _ _ _ _ _ _ _ _ _ _ _ _ _ _ _ _ _ _ _ _ _ _ _ _ _ _ _ _ _ hJ2
    · exact absurd (rfl) h548

