/-! the reference: clear, along -/
theorem zn_of {k : Int32} (h : ¬ k < 0) : ∃ j, j < 2147483648 ∧ k = nI j := by
  have h0 : 0 ≤ k.toInt := by
    have h1 := fun hc => h (Int32.lt_iff_toInt_lt.mpr hc)
    have h2 : (0 : Int32).toInt = 0 := rfl
    rw [h2] at h1
    exact Int.not_lt.mp h1
  refine ⟨k.toInt.toNat, ?_, ?_⟩
  · have := Int32.toInt_lt k
    omega
  · rw [zi_of, Int.toNat_of_nonneg h0, Int32.ofInt_toInt]
def zal (wl wk : Nat → Nat) (i j : Nat) : Int32 := if j = 0 then (if 24 ≤ wk (16 * i) then nI (wk (16 * i) - 24) else -1) else if wl i ≤ (if 24 ≤ wk (16 * i) then j else j - 1) then -2147483648 else nI (wk (16 * i + (if 24 ≤ wk (16 * i) then j else j - 1)))
theorem zal_q {wl wk : Nat → Nat} {i j q : Nat} (hj : j ≠ 0) (hq : (if 24 ≤ wk (16 * i) then j else j - 1) = q) (h : ¬ wl i ≤ q) : zal wl wk i j = nI (wk (16 * i + q)) := by
  unfold zal
  rw [if_neg hj, hq, if_neg h]
set_option maxHeartbeats 400000 in
set_option maxRecDepth 100000 in
theorem kM_clear (l : Launch) (D : va_G) (cI cZ : ClassId) (ax : Nat) (r : Nat → Nat) (n m : Nat) (sl : Bool) (pr wy fo : Nat) (ru : Bool) (pl pk : Nat) (rs es : Int) (ec bc wc sc : Nat → Int) : zM l yM_clear wM_clear rM_clear D zCl (zTy cI cZ) zNW 0 0 [.ref ax] ([mO ax r (n) (m) (sl) (pr) (wy) (fo) (ru) (pl) (pk) (rs) (es), (r 32, .inl (cI, 24, .inl (aI (ec)))), (r 33, .inl (cI, 12, .inl (aI (bc)))), (r 34, .inl (cI, 200, .inl (aI (wc)))), (r 35, .inl (cI, 12, .inl (aI (sc))))]) (fun v wn => v = none ∧ wn = [mO ax r (n) (m) (sl) (pr) (wy) (fo) (false) (pl) (pk) (0) (0), (r 32, .inl (cI, 24, .inl (aI (zfill ec 0 24)))), (r 33, .inl (cI, 12, .inl (aI (zfill bc 0 12)))), (r 34, .inl (cI, 200, .inl (aI (zfill wc 0 200)))), (r 35, .inl (cI, 12, .inl (aI (zfill sc 0 12))))]) := by
  refine z_met2 cM_clear 2 none rfl rfl (Nat.le_of_ble_eq_true rfl) rfl (fun Z hX => ?_)
  show Z 0 0 0 [some (.ref ax), none] [] ([mO ax r (n) (m) (sl) (pr) (wy) (fo) (ru) (pl) (pk) (rs) (es), (r 32, .inl (cI, 24, .inl (aI (ec)))), (r 33, .inl (cI, 12, .inl (aI (bc)))), (r 34, .inl (cI, 200, .inl (aI (wc)))), (r 35, .inl (cI, 12, .inl (aI (sc))))])
  refine z_iconst hX (nI 0) dM_clear_0 rfl ?_
  refine z_istore_n hX 1 dM_clear_1 rfl (by decide) ?_
  have hl2 : ∀ i, i ≤ 24 → Z 0 0 2 [some (.ref ax), some (.int (nI i))] [] ([mO ax r (n) (m) (sl) (pr) (wy) (fo) (ru) (pl) (pk) (rs) (es), (r 32, .inl (cI, 24, .inl (aI (zfill ec 0 i)))), (r 33, .inl (cI, 12, .inl (aI (bc)))), (r 34, .inl (cI, 200, .inl (aI (wc)))), (r 35, .inl (cI, 12, .inl (aI (sc))))]) := by
    refine zloop (P := fun i => Z 0 0 2 [some (.ref ax), some (.int (nI i))] [] ([mO ax r (n) (m) (sl) (pr) (wy) (fo) (ru) (pl) (pk) (rs) (es), (r 32, .inl (cI, 24, .inl (aI (zfill ec 0 i)))), (r 33, .inl (cI, 12, .inl (aI (bc)))), (r 34, .inl (cI, 200, .inl (aI (wc)))), (r 35, .inl (cI, 12, .inl (aI (sc))))])) 24 (fun i hi ihi => ?_)
    refine z_iload_n hX 1 dM_clear_2 rfl rfl ?_
    refine z_bipush hX (nI 24) dM_clear_3 (by decide) ?_
    refine z_icmp_geN hX 21 (by omega) (by omega) dM_clear_5 rfl (fun h5 => ?_) (fun h5 => ?_)
    · have hi24 : i = 24 := by omega
      rw [hi24]
      refine z_iconst hX (nI 0) dM_clear_21 rfl ?_
      refine z_istore_n hX 1 dM_clear_22 rfl (by decide) ?_
      have hl23 : ∀ j, j ≤ 12 → Z 0 0 23 [some (.ref ax), some (.int (nI j))] [] ([mO ax r (n) (m) (sl) (pr) (wy) (fo) (ru) (pl) (pk) (rs) (es), (r 32, .inl (cI, 24, .inl (aI (zfill ec 0 24)))), (r 33, .inl (cI, 12, .inl (aI (zfill bc 0 j)))), (r 34, .inl (cI, 200, .inl (aI (wc)))), (r 35, .inl (cI, 12, .inl (aI (zfill sc 0 j))))]) := by
        refine zloop (P := fun j => Z 0 0 23 [some (.ref ax), some (.int (nI j))] [] ([mO ax r (n) (m) (sl) (pr) (wy) (fo) (ru) (pl) (pk) (rs) (es), (r 32, .inl (cI, 24, .inl (aI (zfill ec 0 24)))), (r 33, .inl (cI, 12, .inl (aI (zfill bc 0 j)))), (r 34, .inl (cI, 200, .inl (aI (wc)))), (r 35, .inl (cI, 12, .inl (aI (zfill sc 0 j))))])) 12 (fun j hj ihj => ?_)
        refine z_iload_n hX 1 dM_clear_23 rfl rfl ?_
        refine z_bipush hX (nI 12) dM_clear_24 (by decide) ?_
        refine z_icmp_geN hX 49 (by omega) (by omega) dM_clear_26 rfl (fun h26 => ?_) (fun h26 => ?_)
        · have hj12 : j = 12 := by omega
          rw [hj12]
          refine z_iconst hX (nI 0) dM_clear_49 rfl ?_
          refine z_istore_n hX 1 dM_clear_50 rfl (by decide) ?_
          have hl51 : ∀ k, k ≤ 200 → Z 0 0 51 [some (.ref ax), some (.int (nI k))] [] ([mO ax r (n) (m) (sl) (pr) (wy) (fo) (ru) (pl) (pk) (rs) (es), (r 32, .inl (cI, 24, .inl (aI (zfill ec 0 24)))), (r 33, .inl (cI, 12, .inl (aI (zfill bc 0 12)))), (r 34, .inl (cI, 200, .inl (aI (zfill wc 0 k)))), (r 35, .inl (cI, 12, .inl (aI (zfill sc 0 12))))]) := by
            refine zloop (P := fun k => Z 0 0 51 [some (.ref ax), some (.int (nI k))] [] ([mO ax r (n) (m) (sl) (pr) (wy) (fo) (ru) (pl) (pk) (rs) (es), (r 32, .inl (cI, 24, .inl (aI (zfill ec 0 24)))), (r 33, .inl (cI, 12, .inl (aI (zfill bc 0 12)))), (r 34, .inl (cI, 200, .inl (aI (zfill wc 0 k)))), (r 35, .inl (cI, 12, .inl (aI (zfill sc 0 12))))])) 200 (fun k hk ihk => ?_)
            refine z_iload_n hX 1 dM_clear_51 rfl rfl ?_
            refine z_sipush hX (nI 200) dM_clear_52 (by decide) ?_
            refine z_icmp_geN hX 71 (by omega) (by omega) dM_clear_55 rfl (fun h55 => ?_) (fun h55 => ?_)
            · have hk200 : k = 200 := by omega
              rw [hk200]
              refine z_aload_n hX 0 dM_clear_71 rfl rfl ?_
              refine z_iconst hX (Int32.ofInt 0) dM_clear_72 rfl ?_
              refine z_put hX 0 36 rfl rfl (zu inM) tyM tyM_ok nmM (by decide) (List.mem_cons_of_mem _ mw_588) (Or.inl rfl) rfl rfl rfl (Nat.le_of_ble_eq_true rfl) dM_clear_73 ?_
              refine z_aload_n hX 0 dM_clear_76 rfl rfl ?_
              refine z_iconst hX (Int32.ofInt 0) dM_clear_77 rfl ?_
              refine z_put hX 0 37 rfl rfl (zu inM) tyM tyM_ok nmM (by decide) (List.mem_cons_of_mem _ mw_589) (Or.inl rfl) rfl rfl rfl (Nat.le_of_ble_eq_true rfl) dM_clear_78 ?_
              refine z_aload_n hX 0 dM_clear_81 rfl rfl ?_
              refine z_iconst hX (bN false) dM_clear_82 rfl ?_
              refine z_put hX 0 28 rfl rfl (zu inM) tyM tyM_ok nmM (by decide) (List.mem_cons_of_mem _ mw_580) (Or.inl rfl) rfl (bN_n _) (bN_f _) (Nat.le_of_ble_eq_true rfl) dM_clear_83 ?_
              refine z_vret hX rfl rfl rfl dM_clear_86 ?_
              exact ⟨rfl, rfl⟩
            · refine z_aload_n hX 0 dM_clear_58 rfl rfl ?_
              refine z_get hX 0 34 rfl rfl (zu inM) (by decide) (List.mem_cons_of_mem _ mw_586) rfl dM_clear_59 ?_
              refine z_iload_n hX 1 dM_clear_62 rfl rfl ?_
              refine z_iconst hX (Int32.ofInt 0) dM_clear_63 rfl ?_
              refine z_stI hX 3 0 _ _ rfl rfl rfl rfl (by omega) (by decide) dM_clear_64 ?_
              refine z_iinc hX 1 dM_clear_65 rfl (zi_1 _) (by decide) ?_
              refine z_goto hX 51 dM_clear_68 rfl ?_
              have hz := ihk (by omega)
              rw [zfillN_up wc 0 k] at hz
              exact hz
          have hz := hl51 0 (Nat.zero_le _)
          rw [zfill_0 wc] at hz
          exact hz
        · refine z_aload_n hX 0 dM_clear_29 rfl rfl ?_
          refine z_get hX 0 33 rfl rfl (zu inM) (by decide) (List.mem_cons_of_mem _ mw_585) rfl dM_clear_30 ?_
          refine z_iload_n hX 1 dM_clear_33 rfl rfl ?_
          refine z_iconst hX (Int32.ofInt 0) dM_clear_34 rfl ?_
          refine z_stI hX 2 0 _ _ rfl rfl rfl rfl (by omega) (by decide) dM_clear_35 ?_
          refine z_aload_n hX 0 dM_clear_36 rfl rfl ?_
          refine z_get hX 0 35 rfl rfl (zu inM) (by decide) (List.mem_cons_of_mem _ mw_587) rfl dM_clear_37 ?_
          refine z_iload_n hX 1 dM_clear_40 rfl rfl ?_
          refine z_iconst hX (Int32.ofInt 0) dM_clear_41 rfl ?_
          refine z_stI hX 4 0 _ _ rfl rfl rfl rfl (by omega) (by decide) dM_clear_42 ?_
          refine z_iinc hX 1 dM_clear_43 rfl (zi_1 _) (by decide) ?_
          refine z_goto hX 23 dM_clear_46 rfl ?_
          have hz := ihj (by omega)
          rw [zfillN_up bc 0 j, zfillN_up sc 0 j] at hz
          exact hz
      have hz := hl23 0 (Nat.zero_le _)
      rw [zfill_0 bc, zfill_0 sc] at hz
      exact hz
    · refine z_aload_n hX 0 dM_clear_8 rfl rfl ?_
      refine z_get hX 0 32 rfl rfl (zu inM) (by decide) (List.mem_cons_of_mem _ mw_584) rfl dM_clear_9 ?_
      refine z_iload_n hX 1 dM_clear_12 rfl rfl ?_
      refine z_iconst hX (Int32.ofInt 0) dM_clear_13 rfl ?_
      refine z_stI hX 1 0 _ _ rfl rfl rfl rfl (by omega) (by decide) dM_clear_14 ?_
      refine z_iinc hX 1 dM_clear_15 rfl (zi_1 _) (by decide) ?_
      refine z_goto hX 2 dM_clear_18 rfl ?_
      have hz := ihi (by omega)
      rw [zfillN_up ec 0 i] at hz
      exact hz
  have hz := hl2 0 (Nat.zero_le _)
  rw [zfill_0 ec] at hz
  exact hz

set_option maxHeartbeats 400000 in
set_option maxRecDepth 100000 in
theorem kM_along (l : Launch) (D : va_G) (cI cZ : ClassId) (ax : Nat) (r : Nat → Nat) (n m : Nat) (sl : Bool) (pr wy fo : Nat) (ru : Bool) (pl pk : Nat) (rs es : Int) (wl wk : Nat → Nat) (x k : Int32) (hwy : wy ≤ 200) (hwl : ∀ w, w < wy → wl w ≤ 16) (hwk : ∀ w i, w < wy → i < 16 → wk (16 * w + i) < 2147483648) : zM l yM_along wM_along rM_along D zCl (zTy cI cZ) zNW 0 0 [.ref ax, .int x, .int k] ([mO ax r (n) (m) (sl) (pr) (wy) (fo) (ru) (pl) (pk) (rs) (es), (r 24, .inl (cI, 200, .inl (aN (wl)))), (r 25, .inl (cI, 3200, .inl (aN (wk))))]) (fun v wn => wn = [mO ax r (n) (m) (sl) (pr) (wy) (fo) (ru) (pl) (pk) (rs) (es), (r 24, .inl (cI, 200, .inl (aN (wl)))), (r 25, .inl (cI, 3200, .inl (aN (wk))))] ∧ (((sl && zin x wy) = false ∨ k < 0) → v = some (.int (-2147483648))) ∧ ∀ i j, i < wy → j < 2147483648 → x = nI i → k = nI j → sl = true → v = some (.int (zal wl wk i j))) := by
  refine z_met2 cM_along 5 (some .int) rfl rfl (Nat.le_of_ble_eq_true rfl) rfl (fun Z hX => ?_)
  show Z 0 0 0 [some (.ref ax), some (.int x), some (.int k), none, none] [] ([mO ax r (n) (m) (sl) (pr) (wy) (fo) (ru) (pl) (pk) (rs) (es), (r 24, .inl (cI, 200, .inl (aN (wl)))), (r 25, .inl (cI, 3200, .inl (aN (wk))))])
  refine z_aload_n hX 0 dM_along_0 rfl rfl ?_
  refine z_get hX 0 4 rfl rfl (zu inM) (by decide) (List.mem_cons_of_mem _ mw_556) rfl dM_along_1 ?_
  refine z_if_eqB hX 23 dM_along_4 rfl (fun h4 => ?_) (fun h4 => ?_)
  · have h5 : (sl && zin x wy) = false := by rw [h4]; rfl
    refine z_ldc hX (-2147483648) (List.mem_cons_of_mem _ mw_775) dM_along_23 ?_
    refine z_iret hX rfl rfl rfl rfl dM_along_25 ?_
    refine ⟨rfl, fun _ => rfl, fun i1 j1 g1 g2 g3 g4 g5 => ?_⟩
    first
      | exact zbf (show (sl && zin x wy) = true by rw [g5, g3, zin_nI g1 (by omega)]; rfl) h5
      | exact absurd (g4 ▸ hk0) (Int32.not_lt.mpr (zi_ge0 g2))
  · refine z_iload_n hX 1 dM_along_7 rfl rfl ?_
    refine z_if_lt hX 23 dM_along_8 rfl (fun h8 => ?_) (fun h8 => ?_)
    · have h5 : (sl && zin x wy) = false := by rw [zin_lt h8, Bool.and_false]
      refine z_ldc hX (-2147483648) (List.mem_cons_of_mem _ mw_775) dM_along_23 ?_
      refine z_iret hX rfl rfl rfl rfl dM_along_25 ?_
      refine ⟨rfl, fun _ => rfl, fun i1 j1 g1 g2 g3 g4 g5 => ?_⟩
      first
        | exact zbf (show (sl && zin x wy) = true by rw [g5, g3, zin_nI g1 (by omega)]; rfl) h5
        | exact absurd (g4 ▸ hk0) (Int32.not_lt.mpr (zi_ge0 g2))
    · refine z_iload_n hX 1 dM_along_11 rfl rfl ?_
      refine z_aload_n hX 0 dM_along_12 rfl rfl ?_
      refine z_get hX 0 23 rfl rfl (zu inM) (by decide) (List.mem_cons_of_mem _ mw_575) rfl dM_along_13 ?_
      refine z_icmp_ge hX 23 dM_along_16 rfl (fun h16 => ?_) (fun h16 => ?_)
      · have h5 : (sl && zin x wy) = false := by rw [zin_ge h16, Bool.and_false]
        refine z_ldc hX (-2147483648) (List.mem_cons_of_mem _ mw_775) dM_along_23 ?_
        refine z_iret hX rfl rfl rfl rfl dM_along_25 ?_
        refine ⟨rfl, fun _ => rfl, fun i1 j1 g1 g2 g3 g4 g5 => ?_⟩
        first
          | exact zbf (show (sl && zin x wy) = true by rw [g5, g3, zin_nI g1 (by omega)]; rfl) h5
          | exact absurd (g4 ▸ hk0) (Int32.not_lt.mpr (zi_ge0 g2))
      · have hzi := zin_in h8 h16
        obtain ⟨i, hi, rfl⟩ := zin_of (by omega) hzi
        have hsd := h4
        have h5 : (sl && zin (nI i) wy) = true := by rw [hsd, hzi]; rfl
        refine z_iload_n hX 2 dM_along_19 rfl rfl ?_
        refine z_if_ge hX 26 dM_along_20 rfl (fun h20 => ?_) (fun h20 => ?_)
        · have hk0 : ¬ k < 0 := Int32.not_lt.mpr h20
          obtain ⟨j, hj, rfl⟩ := zn_of hk0
          have hw0 := hwk i 0 hi (by omega)
          have hwli := hwl i hi
          rw [Nat.add_zero] at hw0
          refine z_aload_n hX 0 dM_along_26 rfl rfl ?_
          refine z_get hX 0 25 rfl rfl (zu inM) (by decide) (List.mem_cons_of_mem _ mw_577) rfl dM_along_27 ?_
          refine z_bipush hX (nI 16) dM_along_30 (by decide) ?_
          refine z_iload_n hX 1 dM_along_32 rfl rfl ?_
          refine z_imul hX dM_along_33 ?_
          rw [nI_mul]
          refine z_ldN hX 2 0 _ rfl rfl rfl (by omega) (by decide) dM_along_34 ?_
          refine z_istore_n hX 3 dM_along_35 rfl (by decide) ?_
          refine z_iload_n hX 2 dM_along_36 rfl rfl ?_
          refine z_if_ne hX 55 dM_along_37 rfl (fun h37 => ?_) (fun h37 => ?_)
          · have hj0 : j ≠ 0 := fun hc => h37 ((zi_eq0 (a := j) (by omega)).mpr hc)
            refine z_iload_n hX 3 dM_along_55 rfl rfl ?_
            refine z_bipush hX (nI 24) dM_along_56 (by decide) ?_
            refine z_icmp_ltN hX 65 (by omega) (by omega) dM_along_58 rfl (fun h58 => ?_) (fun h58 => ?_)
            · have hq : (if 24 ≤ wk (16 * i) then j else j - 1) = j - 1 := if_neg (by omega)
              refine z_iload_n hX 2 dM_along_65 rfl rfl ?_
              refine z_iconst hX (nI 1) dM_along_66 rfl ?_
              refine z_isubN hX (by omega) dM_along_67 ?_
              refine z_istore hX 4 dM_along_68 (by decide) ?_
              refine z_iload hX 4 dM_along_70 rfl ?_
              refine z_aload_n hX 0 dM_along_72 rfl rfl ?_
              refine z_get hX 0 24 rfl rfl (zu inM) (by decide) (List.mem_cons_of_mem _ mw_576) rfl dM_along_73 ?_
              refine z_iload_n hX 1 dM_along_76 rfl rfl ?_
              refine z_ldN hX 1 0 _ rfl rfl rfl (by omega) (by decide) dM_along_77 ?_
              refine z_icmp_geN hX 96 (by omega) (by omega) dM_along_78 rfl (fun h78 => ?_) (fun h78 => ?_)
              · have hr : zal wl wk i j = -2147483648 := (if_neg hj0).trans (if_pos (by rw [hq]; omega))
                refine z_ldc hX (-2147483648) (List.mem_cons_of_mem _ mw_775) dM_along_96 ?_
                refine z_iret hX rfl rfl rfl rfl dM_along_98 ?_
                refine ⟨rfl, fun hc => ?_, fun i1 j1 g1 g2 g3 g4 g5 => ?_⟩
                · rcases hc with hc | hc
                  · exact zbf h5 hc
                  · exact absurd hc hk0
                · have e1 := (nI_eq (a := i) (b := i1) (by omega) (by omega)).mp g3
                  have e2 := (nI_eq (a := j) (b := j1) (by omega) (by omega)).mp g4
                  subst e1
                  subst e2
                  rw [hr]
              · have hr := zal_q (wl := wl) hj0 hq (by omega)
                refine z_aload_n hX 0 dM_along_81 rfl rfl ?_
                refine z_get hX 0 25 rfl rfl (zu inM) (by decide) (List.mem_cons_of_mem _ mw_577) rfl dM_along_82 ?_
                refine z_bipush hX (nI 16) dM_along_85 (by decide) ?_
                refine z_iload_n hX 1 dM_along_87 rfl rfl ?_
                refine z_imul hX dM_along_88 ?_
                rw [nI_mul]
                refine z_iload hX 4 dM_along_89 rfl ?_
                refine z_iaddN hX dM_along_91 ?_
                refine z_ldN hX 2 0 _ rfl rfl rfl (by omega) (by decide) dM_along_92 ?_
                refine z_goto hX 98 dM_along_93 rfl ?_
                refine z_iret hX rfl rfl rfl rfl dM_along_98 ?_
                refine ⟨rfl, fun hc => ?_, fun i1 j1 g1 g2 g3 g4 g5 => ?_⟩
                · rcases hc with hc | hc
                  · exact zbf h5 hc
                  · exact absurd hc hk0
                · have e1 := (nI_eq (a := i) (b := i1) (by omega) (by omega)).mp g3
                  have e2 := (nI_eq (a := j) (b := j1) (by omega) (by omega)).mp g4
                  subst e1
                  subst e2
                  rw [hr]
            · have hq : (if 24 ≤ wk (16 * i) then j else j - 1) = j := if_pos (by omega)
              refine z_iload_n hX 2 dM_along_61 rfl rfl ?_
              refine z_goto hX 68 dM_along_62 rfl ?_
              refine z_istore hX 4 dM_along_68 (by decide) ?_
              refine z_iload hX 4 dM_along_70 rfl ?_
              refine z_aload_n hX 0 dM_along_72 rfl rfl ?_
              refine z_get hX 0 24 rfl rfl (zu inM) (by decide) (List.mem_cons_of_mem _ mw_576) rfl dM_along_73 ?_
              refine z_iload_n hX 1 dM_along_76 rfl rfl ?_
              refine z_ldN hX 1 0 _ rfl rfl rfl (by omega) (by decide) dM_along_77 ?_
              refine z_icmp_geN hX 96 (by omega) (by omega) dM_along_78 rfl (fun h78 => ?_) (fun h78 => ?_)
              · have hr : zal wl wk i j = -2147483648 := (if_neg hj0).trans (if_pos (by rw [hq]; omega))
                refine z_ldc hX (-2147483648) (List.mem_cons_of_mem _ mw_775) dM_along_96 ?_
                refine z_iret hX rfl rfl rfl rfl dM_along_98 ?_
                refine ⟨rfl, fun hc => ?_, fun i1 j1 g1 g2 g3 g4 g5 => ?_⟩
                · rcases hc with hc | hc
                  · exact zbf h5 hc
                  · exact absurd hc hk0
                · have e1 := (nI_eq (a := i) (b := i1) (by omega) (by omega)).mp g3
                  have e2 := (nI_eq (a := j) (b := j1) (by omega) (by omega)).mp g4
                  subst e1
                  subst e2
                  rw [hr]
              · have hr := zal_q (wl := wl) hj0 hq (by omega)
                refine z_aload_n hX 0 dM_along_81 rfl rfl ?_
                refine z_get hX 0 25 rfl rfl (zu inM) (by decide) (List.mem_cons_of_mem _ mw_577) rfl dM_along_82 ?_
                refine z_bipush hX (nI 16) dM_along_85 (by decide) ?_
                refine z_iload_n hX 1 dM_along_87 rfl rfl ?_
                refine z_imul hX dM_along_88 ?_
                rw [nI_mul]
                refine z_iload hX 4 dM_along_89 rfl ?_
                refine z_iaddN hX dM_along_91 ?_
                refine z_ldN hX 2 0 _ rfl rfl rfl (by omega) (by decide) dM_along_92 ?_
                refine z_goto hX 98 dM_along_93 rfl ?_
                refine z_iret hX rfl rfl rfl rfl dM_along_98 ?_
                refine ⟨rfl, fun hc => ?_, fun i1 j1 g1 g2 g3 g4 g5 => ?_⟩
                · rcases hc with hc | hc
                  · exact zbf h5 hc
                  · exact absurd hc hk0
                · have e1 := (nI_eq (a := i) (b := i1) (by omega) (by omega)).mp g3
                  have e2 := (nI_eq (a := j) (b := j1) (by omega) (by omega)).mp g4
                  subst e1
                  subst e2
                  rw [hr]
          · have hj0 : j = 0 := (zi_eq0 (a := j) (by omega)).mp h37
            refine z_iload_n hX 3 dM_along_40 rfl rfl ?_
            refine z_bipush hX (nI 24) dM_along_41 (by decide) ?_
            refine z_icmp_ltN hX 53 (by omega) (by omega) dM_along_43 rfl (fun h43 => ?_) (fun h43 => ?_)
            · have hr : zal wl wk i j = -1 := (if_pos hj0).trans (if_neg (by omega))
              refine z_iconst hX (-1) dM_along_53 rfl ?_
              refine z_iret hX rfl rfl rfl rfl dM_along_54 ?_
              refine ⟨rfl, fun hc => ?_, fun i1 j1 g1 g2 g3 g4 g5 => ?_⟩
              · rcases hc with hc | hc
                · exact zbf h5 hc
                · exact absurd hc hk0
              · have e1 := (nI_eq (a := i) (b := i1) (by omega) (by omega)).mp g3
                have e2 := (nI_eq (a := j) (b := j1) (by omega) (by omega)).mp g4
                subst e1
                subst e2
                rw [hr]
            · have hr : zal wl wk i j = nI (wk (16 * i) - 24) := (if_pos hj0).trans (if_pos (by omega))
              refine z_iload_n hX 3 dM_along_46 rfl rfl ?_
              refine z_bipush hX (nI 24) dM_along_47 (by decide) ?_
              refine z_isubN hX (by omega) dM_along_49 ?_
              refine z_goto hX 54 dM_along_50 rfl ?_
              refine z_iret hX rfl rfl rfl rfl dM_along_54 ?_
              refine ⟨rfl, fun hc => ?_, fun i1 j1 g1 g2 g3 g4 g5 => ?_⟩
              · rcases hc with hc | hc
                · exact zbf h5 hc
                · exact absurd hc hk0
              · have e1 := (nI_eq (a := i) (b := i1) (by omega) (by omega)).mp g3
                have e2 := (nI_eq (a := j) (b := j1) (by omega) (by omega)).mp g4
                subst e1
                subst e2
                rw [hr]
        · have hk0 : k < 0 := Classical.byContradiction (fun hc => h20 (Int32.not_lt.mp hc))
          refine z_ldc hX (-2147483648) (List.mem_cons_of_mem _ mw_775) dM_along_23 ?_
          refine z_iret hX rfl rfl rfl rfl dM_along_25 ?_
          refine ⟨rfl, fun _ => rfl, fun i1 j1 g1 g2 g3 g4 g5 => ?_⟩
          first
            | exact zbf (show (sl && zin x wy) = true by rw [g5, g3, zin_nI g1 (by omega)]; rfl) h5
            | exact absurd (g4 ▸ hk0) (Int32.not_lt.mpr (zi_ge0 g2))

