/-! the reference: covered -/
def zpg (g : Nat → Int) (i : Nat) : Bool := decide (¬ Int32.ofInt (g i) ≤ 0)
def zcv (ec bc wc : Nat → Int) (n m wy : Nat) (rs es : Int) (j : Nat) : Int32 := if 4 < j then -1 else if j = 3 then Int32.ofInt rs else if j = 4 then Int32.ofInt es else nI ((if j = 0 then sp_cnt (zpg bc) n else 0) + (if j = 1 then sp_cnt (zpg ec) m else 0) + (if j = 2 then sp_cnt (zpg wc) wy else 0))
theorem zcv_c {ec bc wc : Nat → Int} {n m wy : Nat} {rs es : Int} {j : Nat} (h : j ≤ 2) : zcv ec bc wc n m wy rs es j = nI ((if j = 0 then sp_cnt (zpg bc) n else 0) + (if j = 1 then sp_cnt (zpg ec) m else 0) + (if j = 2 then sp_cnt (zpg wc) wy else 0)) := by
  unfold zcv
  rw [if_neg (by omega), if_neg (by omega), if_neg (by omega)]
theorem zci {j c i N : Nat} {p : Nat → Bool} (hi : i ≤ N) (h0 : j ≠ c → i = 0) (hN : N ≤ i ∨ j ≠ c) : (if j = c then sp_cnt p N else 0) = sp_cnt p i := by
  by_cases hj : j = c
  · rcases hN with h | h
    · rw [if_pos hj, show N = i by omega]
    · exact absurd hj h
  · rw [if_neg hj, h0 hj]; rfl
set_option maxHeartbeats 400000 in
set_option maxRecDepth 100000 in
theorem kM_covered (l : Launch) (D : va_G) (cI cZ : ClassId) (ax : Nat) (r : Nat → Nat) (n m : Nat) (sl : Bool) (pr wy fo : Nat) (ru : Bool) (pl pk : Nat) (rs es : Int) (ec bc wc : Nat → Int) (x : Int32) (hn : 2 ≤ n ∧ n ≤ 12) (hm : m ≤ 24) (hwy : wy ≤ 200) : zM l yM_covered wM_covered rM_covered D zCl (zTy cI cZ) zNW 0 0 [.ref ax, .int x] ([mO ax r (n) (m) (sl) (pr) (wy) (fo) (ru) (pl) (pk) (rs) (es), (r 32, .inl (cI, 24, .inl (aI (ec)))), (r 33, .inl (cI, 12, .inl (aI (bc)))), (r 34, .inl (cI, 200, .inl (aI (wc))))]) (fun v wn => wn = [mO ax r (n) (m) (sl) (pr) (wy) (fo) (ru) (pl) (pk) (rs) (es), (r 32, .inl (cI, 24, .inl (aI (ec)))), (r 33, .inl (cI, 12, .inl (aI (bc)))), (r 34, .inl (cI, 200, .inl (aI (wc))))] ∧ ((sl = false ∨ x < 0) → v = some (.int (-1))) ∧ (sl = true → ∀ j, j < 2147483648 → x = nI j → v = some (.int (zcv ec bc wc n m wy rs es j)))) := by
  refine z_met2 cM_covered 4 (some .int) rfl rfl (Nat.le_of_ble_eq_true rfl) rfl (fun Z hX => ?_)
  show Z 0 0 0 [some (.ref ax), some (.int x), none, none] [] ([mO ax r (n) (m) (sl) (pr) (wy) (fo) (ru) (pl) (pk) (rs) (es), (r 32, .inl (cI, 24, .inl (aI (ec)))), (r 33, .inl (cI, 12, .inl (aI (bc)))), (r 34, .inl (cI, 200, .inl (aI (wc))))])
  refine z_aload_n hX 0 dM_covered_0 rfl rfl ?_
  refine z_get hX 0 4 rfl rfl (zu inM) (by decide) (List.mem_cons_of_mem _ mw_556) rfl dM_covered_1 ?_
  refine z_if_eqB hX 16 dM_covered_4 rfl (fun h4 => ?_) (fun h4 => ?_)
  · have hE : sl = true → ∀ j1, j1 < 2147483648 → x = nI j1 → (-1 : Int32) = zcv ec bc wc n m wy rs es j1 := by
      intro g1 j1 g2 g3
      exact zbf g1 h4
    refine z_iconst hX (-1) dM_covered_16 rfl ?_
    refine z_iret hX rfl rfl rfl rfl dM_covered_17 ?_
    refine ⟨rfl, fun _ => rfl, fun g1 j1 g2 g3 => ?_⟩
    rw [← hE g1 j1 g2 g3]
  · refine z_iload_n hX 1 dM_covered_7 rfl rfl ?_
    refine z_if_lt hX 16 dM_covered_8 rfl (fun h8 => ?_) (fun h8 => ?_)
    · have hE : sl = true → ∀ j1, j1 < 2147483648 → x = nI j1 → (-1 : Int32) = zcv ec bc wc n m wy rs es j1 := by
        intro g1 j1 g2 g3
        rw [g3] at h8
        exact absurd h8 (Int32.not_lt.mpr (zi_ge0 g2))
      refine z_iconst hX (-1) dM_covered_16 rfl ?_
      refine z_iret hX rfl rfl rfl rfl dM_covered_17 ?_
      refine ⟨rfl, fun _ => rfl, fun g1 j1 g2 g3 => ?_⟩
      rw [← hE g1 j1 g2 g3]
    · obtain ⟨j, hj, rfl⟩ := zn_of h8
      refine z_iload_n hX 1 dM_covered_11 rfl rfl ?_
      refine z_iconst hX (nI 4) dM_covered_12 rfl ?_
      refine z_icmp_leN hX 18 (by omega) (by omega) dM_covered_13 rfl (fun h13 => ?_) (fun h13 => ?_)
      · refine z_iload_n hX 1 dM_covered_18 rfl rfl ?_
        refine z_iconst hX (nI 2) dM_covered_19 rfl ?_
        refine z_icmp_leN hX 40 (by omega) (by omega) dM_covered_20 rfl (fun h20 => ?_) (fun h20 => ?_)
        · refine z_iconst hX (nI 0) dM_covered_40 rfl ?_
          refine z_istore_n hX 2 dM_covered_41 rfl (by decide) ?_
          have cut79 : Z 0 0 79 [some (.ref ax), some (.int (nI j)), some (.int (nI ((if j = 0 then sp_cnt (zpg bc) n else 0)))), none] [] ([mO ax r (n) (m) (sl) (pr) (wy) (fo) (ru) (pl) (pk) (rs) (es), (r 32, .inl (cI, 24, .inl (aI (ec)))), (r 33, .inl (cI, 12, .inl (aI (bc)))), (r 34, .inl (cI, 200, .inl (aI (wc))))]) := by
            have cut117 : Z 0 0 117 [some (.ref ax), some (.int (nI j)), some (.int (nI ((if j = 0 then sp_cnt (zpg bc) n else 0) + (if j = 1 then sp_cnt (zpg ec) m else 0)))), none] [] ([mO ax r (n) (m) (sl) (pr) (wy) (fo) (ru) (pl) (pk) (rs) (es), (r 32, .inl (cI, 24, .inl (aI (ec)))), (r 33, .inl (cI, 12, .inl (aI (bc)))), (r 34, .inl (cI, 200, .inl (aI (wc))))]) := by
              have cut155 : Z 0 0 155 [some (.ref ax), some (.int (nI j)), some (.int (nI ((if j = 0 then sp_cnt (zpg bc) n else 0) + (if j = 1 then sp_cnt (zpg ec) m else 0) + (if j = 2 then sp_cnt (zpg wc) wy else 0)))), none] [] ([mO ax r (n) (m) (sl) (pr) (wy) (fo) (ru) (pl) (pk) (rs) (es), (r 32, .inl (cI, 24, .inl (aI (ec)))), (r 33, .inl (cI, 12, .inl (aI (bc)))), (r 34, .inl (cI, 200, .inl (aI (wc))))]) := by
                refine z_iload_n hX 2 dM_covered_155 rfl rfl ?_
                refine z_iret hX rfl rfl rfl rfl dM_covered_156 ?_
                have hr := zcv_c (ec := ec) (bc := bc) (wc := wc) (n := n) (m := m) (wy := wy) (rs := rs) (es := es) (j := j) (by omega)
                refine ⟨rfl, fun hc => ?_, fun g1 j1 g2 g3 => ?_⟩
                · rcases hc with hc | hc
                  · exact zbf h4 hc
                  · exact absurd hc h8
                · have e1 := (nI_eq (a := j) (b := j1) (by omega) (by omega)).mp g3
                  subst e1
                  rw [hr]
              refine z_iconst hX (nI 0) dM_covered_117 rfl ?_
              refine z_istore_n hX 3 dM_covered_118 rfl (by decide) ?_
              have hl2 : ∀ i2, i2 ≤ wy → (j ≠ 2 → i2 = 0) → Z 0 0 119 [some (.ref ax), some (.int (nI j)), some (.int (nI ((if j = 0 then sp_cnt (zpg bc) n else 0) + (if j = 1 then sp_cnt (zpg ec) m else 0) + sp_cnt (zpg wc) i2))), some (.int (nI (i2)))] [] ([mO ax r (n) (m) (sl) (pr) (wy) (fo) (ru) (pl) (pk) (rs) (es), (r 32, .inl (cI, 24, .inl (aI (ec)))), (r 33, .inl (cI, 12, .inl (aI (bc)))), (r 34, .inl (cI, 200, .inl (aI (wc))))]) := by
                refine zloop (P := fun i2 => (j ≠ 2 → i2 = 0) → Z 0 0 119 [some (.ref ax), some (.int (nI j)), some (.int (nI ((if j = 0 then sp_cnt (zpg bc) n else 0) + (if j = 1 then sp_cnt (zpg ec) m else 0) + sp_cnt (zpg wc) i2))), some (.int (nI (i2)))] [] ([mO ax r (n) (m) (sl) (pr) (wy) (fo) (ru) (pl) (pk) (rs) (es), (r 32, .inl (cI, 24, .inl (aI (ec)))), (r 33, .inl (cI, 12, .inl (aI (bc)))), (r 34, .inl (cI, 200, .inl (aI (wc))))])) wy (fun i2 hi2 ih2 => ?_)
                intro hz2
                refine z_iload_n hX 3 dM_covered_119 rfl rfl ?_
                refine z_aload_n hX 0 dM_covered_120 rfl rfl ?_
                refine z_get hX 0 23 rfl rfl (zu inM) (by decide) (List.mem_cons_of_mem _ mw_575) rfl dM_covered_121 ?_
                refine z_icmp_geN hX 155 (by omega) (by omega) dM_covered_124 rfl (fun h124 => ?_) (fun h124 => ?_)
                · have hr : (if j = 2 then sp_cnt (zpg wc) wy else 0) = sp_cnt (zpg wc) i2 := zci hi2 hz2 (Or.inl (by omega))
                  rw [hr] at cut155
                  exact z_le2 hX cut155 (And.intro rfl (And.intro rfl (And.intro rfl trivial)))
                · refine z_iload_n hX 1 dM_covered_127 rfl rfl ?_
                  refine z_iconst hX (nI 2) dM_covered_128 rfl ?_
                  refine z_icmp_neN hX 155 (by omega) (by omega) dM_covered_129 rfl (fun h129 => ?_) (fun h129 => ?_)
                  · have hr : (if j = 2 then sp_cnt (zpg wc) wy else 0) = sp_cnt (zpg wc) i2 := zci hi2 hz2 (Or.inr h129)
                    rw [hr] at cut155
                    exact z_le2 hX cut155 (And.intro rfl (And.intro rfl (And.intro rfl trivial)))
                  · have hj2 := h129
                    refine z_aload_n hX 0 dM_covered_132 rfl rfl ?_
                    refine z_get hX 0 34 rfl rfl (zu inM) (by decide) (List.mem_cons_of_mem _ mw_586) rfl dM_covered_133 ?_
                    refine z_iload_n hX 3 dM_covered_136 rfl rfl ?_
                    refine z_ldI hX 3 0 _ rfl rfl rfl (by omega) (by decide) dM_covered_137 ?_
                    refine z_if_le hX 147 dM_covered_138 rfl (fun h138 => ?_) (fun h138 => ?_)
                    · have hs : (if j = 0 then sp_cnt (zpg bc) n else 0) + (if j = 1 then sp_cnt (zpg ec) m else 0) + sp_cnt (zpg wc) (i2 + 1) = (if j = 0 then sp_cnt (zpg bc) n else 0) + (if j = 1 then sp_cnt (zpg ec) m else 0) + sp_cnt (zpg wc) i2 := by rw [sp_cnt_f (p := zpg wc) (i := i2) (decide_eq_false (fun hc => hc h138))]
                      refine z_iload_n hX 2 dM_covered_147 rfl rfl ?_
                      refine z_istore_n hX 2 dM_covered_148 rfl (by decide) ?_
                      refine z_iinc hX 3 dM_covered_149 rfl (zi_1 _) (by decide) ?_
                      refine z_goto hX 119 dM_covered_152 rfl ?_
                      have hz := ih2 (by omega) (fun hc => absurd hj2 hc)
                      rw [hs] at hz
                      exact hz
                    · have hs : (if j = 0 then sp_cnt (zpg bc) n else 0) + (if j = 1 then sp_cnt (zpg ec) m else 0) + sp_cnt (zpg wc) (i2 + 1) = (if j = 0 then sp_cnt (zpg bc) n else 0) + (if j = 1 then sp_cnt (zpg ec) m else 0) + sp_cnt (zpg wc) i2 + 1 := by rw [sp_cnt_t (p := zpg wc) (i := i2) (decide_eq_true h138)]; omega
                      refine z_iload_n hX 2 dM_covered_141 rfl rfl ?_
                      refine z_iconst hX (nI 1) dM_covered_142 rfl ?_
                      refine z_iaddN hX dM_covered_143 ?_
                      refine z_goto hX 148 dM_covered_144 rfl ?_
                      refine z_istore_n hX 2 dM_covered_148 rfl (by decide) ?_
                      refine z_iinc hX 3 dM_covered_149 rfl (zi_1 _) (by decide) ?_
                      refine z_goto hX 119 dM_covered_152 rfl ?_
                      have hz := ih2 (by omega) (fun hc => absurd hj2 hc)
                      rw [hs] at hz
                      exact hz
              exact hl2 0 (Nat.zero_le _) (fun _ => rfl)
            refine z_iconst hX (nI 0) dM_covered_79 rfl ?_
            refine z_istore_n hX 3 dM_covered_80 rfl (by decide) ?_
            have hl1 : ∀ i1, i1 ≤ m → (j ≠ 1 → i1 = 0) → Z 0 0 81 [some (.ref ax), some (.int (nI j)), some (.int (nI ((if j = 0 then sp_cnt (zpg bc) n else 0) + sp_cnt (zpg ec) i1))), some (.int (nI (i1)))] [] ([mO ax r (n) (m) (sl) (pr) (wy) (fo) (ru) (pl) (pk) (rs) (es), (r 32, .inl (cI, 24, .inl (aI (ec)))), (r 33, .inl (cI, 12, .inl (aI (bc)))), (r 34, .inl (cI, 200, .inl (aI (wc))))]) := by
              refine zloop (P := fun i1 => (j ≠ 1 → i1 = 0) → Z 0 0 81 [some (.ref ax), some (.int (nI j)), some (.int (nI ((if j = 0 then sp_cnt (zpg bc) n else 0) + sp_cnt (zpg ec) i1))), some (.int (nI (i1)))] [] ([mO ax r (n) (m) (sl) (pr) (wy) (fo) (ru) (pl) (pk) (rs) (es), (r 32, .inl (cI, 24, .inl (aI (ec)))), (r 33, .inl (cI, 12, .inl (aI (bc)))), (r 34, .inl (cI, 200, .inl (aI (wc))))])) m (fun i1 hi1 ih1 => ?_)
              intro hz1
              refine z_iload_n hX 3 dM_covered_81 rfl rfl ?_
              refine z_aload_n hX 0 dM_covered_82 rfl rfl ?_
              refine z_get hX 0 1 rfl rfl (zu inM) (by decide) (List.mem_cons_of_mem _ mw_553) rfl dM_covered_83 ?_
              refine z_icmp_geN hX 117 (by omega) (by omega) dM_covered_86 rfl (fun h86 => ?_) (fun h86 => ?_)
              · have hr : (if j = 1 then sp_cnt (zpg ec) m else 0) = sp_cnt (zpg ec) i1 := zci hi1 hz1 (Or.inl (by omega))
                rw [hr] at cut117
                exact z_le2 hX cut117 (And.intro rfl (And.intro rfl (And.intro rfl trivial)))
              · refine z_iload_n hX 1 dM_covered_89 rfl rfl ?_
                refine z_iconst hX (nI 1) dM_covered_90 rfl ?_
                refine z_icmp_neN hX 117 (by omega) (by omega) dM_covered_91 rfl (fun h91 => ?_) (fun h91 => ?_)
                · have hr : (if j = 1 then sp_cnt (zpg ec) m else 0) = sp_cnt (zpg ec) i1 := zci hi1 hz1 (Or.inr h91)
                  rw [hr] at cut117
                  exact z_le2 hX cut117 (And.intro rfl (And.intro rfl (And.intro rfl trivial)))
                · have hj1 := h91
                  refine z_aload_n hX 0 dM_covered_94 rfl rfl ?_
                  refine z_get hX 0 32 rfl rfl (zu inM) (by decide) (List.mem_cons_of_mem _ mw_584) rfl dM_covered_95 ?_
                  refine z_iload_n hX 3 dM_covered_98 rfl rfl ?_
                  refine z_ldI hX 1 0 _ rfl rfl rfl (by omega) (by decide) dM_covered_99 ?_
                  refine z_if_le hX 109 dM_covered_100 rfl (fun h100 => ?_) (fun h100 => ?_)
                  · have hs : (if j = 0 then sp_cnt (zpg bc) n else 0) + sp_cnt (zpg ec) (i1 + 1) = (if j = 0 then sp_cnt (zpg bc) n else 0) + sp_cnt (zpg ec) i1 := by rw [sp_cnt_f (p := zpg ec) (i := i1) (decide_eq_false (fun hc => hc h100))]
                    refine z_iload_n hX 2 dM_covered_109 rfl rfl ?_
                    refine z_istore_n hX 2 dM_covered_110 rfl (by decide) ?_
                    refine z_iinc hX 3 dM_covered_111 rfl (zi_1 _) (by decide) ?_
                    refine z_goto hX 81 dM_covered_114 rfl ?_
                    have hz := ih1 (by omega) (fun hc => absurd hj1 hc)
                    rw [hs] at hz
                    exact hz
                  · have hs : (if j = 0 then sp_cnt (zpg bc) n else 0) + sp_cnt (zpg ec) (i1 + 1) = (if j = 0 then sp_cnt (zpg bc) n else 0) + sp_cnt (zpg ec) i1 + 1 := by rw [sp_cnt_t (p := zpg ec) (i := i1) (decide_eq_true h100)]; omega
                    refine z_iload_n hX 2 dM_covered_103 rfl rfl ?_
                    refine z_iconst hX (nI 1) dM_covered_104 rfl ?_
                    refine z_iaddN hX dM_covered_105 ?_
                    refine z_goto hX 110 dM_covered_106 rfl ?_
                    refine z_istore_n hX 2 dM_covered_110 rfl (by decide) ?_
                    refine z_iinc hX 3 dM_covered_111 rfl (zi_1 _) (by decide) ?_
                    refine z_goto hX 81 dM_covered_114 rfl ?_
                    have hz := ih1 (by omega) (fun hc => absurd hj1 hc)
                    rw [hs] at hz
                    exact hz
            exact hl1 0 (Nat.zero_le _) (fun _ => rfl)
          refine z_iconst hX (nI 0) dM_covered_42 rfl ?_
          refine z_istore_n hX 3 dM_covered_43 rfl (by decide) ?_
          have hl0 : ∀ i0, i0 ≤ n → (j ≠ 0 → i0 = 0) → Z 0 0 44 [some (.ref ax), some (.int (nI j)), some (.int (nI (sp_cnt (zpg bc) i0))), some (.int (nI (i0)))] [] ([mO ax r (n) (m) (sl) (pr) (wy) (fo) (ru) (pl) (pk) (rs) (es), (r 32, .inl (cI, 24, .inl (aI (ec)))), (r 33, .inl (cI, 12, .inl (aI (bc)))), (r 34, .inl (cI, 200, .inl (aI (wc))))]) := by
            refine zloop (P := fun i0 => (j ≠ 0 → i0 = 0) → Z 0 0 44 [some (.ref ax), some (.int (nI j)), some (.int (nI (sp_cnt (zpg bc) i0))), some (.int (nI (i0)))] [] ([mO ax r (n) (m) (sl) (pr) (wy) (fo) (ru) (pl) (pk) (rs) (es), (r 32, .inl (cI, 24, .inl (aI (ec)))), (r 33, .inl (cI, 12, .inl (aI (bc)))), (r 34, .inl (cI, 200, .inl (aI (wc))))])) n (fun i0 hi0 ih0 => ?_)
            intro hz0
            refine z_iload_n hX 3 dM_covered_44 rfl rfl ?_
            refine z_aload_n hX 0 dM_covered_45 rfl rfl ?_
            refine z_get hX 0 0 rfl rfl (zu inM) (by decide) (List.mem_cons_of_mem _ mw_552) rfl dM_covered_46 ?_
            refine z_icmp_geN hX 79 (by omega) (by omega) dM_covered_49 rfl (fun h49 => ?_) (fun h49 => ?_)
            · have hr : (if j = 0 then sp_cnt (zpg bc) n else 0) = sp_cnt (zpg bc) i0 := zci hi0 hz0 (Or.inl (by omega))
              rw [hr] at cut79
              exact z_le2 hX cut79 (And.intro rfl (And.intro rfl (And.intro rfl trivial)))
            · refine z_iload_n hX 1 dM_covered_52 rfl rfl ?_
              refine z_if_ne hX 79 dM_covered_53 rfl (fun h53 => ?_) (fun h53 => ?_)
              · have hr : (if j = 0 then sp_cnt (zpg bc) n else 0) = sp_cnt (zpg bc) i0 := zci hi0 hz0 (Or.inr (fun hc => h53 ((zi_eq0 (a := j) (by omega)).mpr hc)))
                rw [hr] at cut79
                exact z_le2 hX cut79 (And.intro rfl (And.intro rfl (And.intro rfl trivial)))
              · have hj0 : j = 0 := (zi_eq0 (a := j) (by omega)).mp h53
                refine z_aload_n hX 0 dM_covered_56 rfl rfl ?_
                refine z_get hX 0 33 rfl rfl (zu inM) (by decide) (List.mem_cons_of_mem _ mw_585) rfl dM_covered_57 ?_
                refine z_iload_n hX 3 dM_covered_60 rfl rfl ?_
                refine z_ldI hX 2 0 _ rfl rfl rfl (by omega) (by decide) dM_covered_61 ?_
                refine z_if_le hX 71 dM_covered_62 rfl (fun h62 => ?_) (fun h62 => ?_)
                · have hs : sp_cnt (zpg bc) (i0 + 1) = sp_cnt (zpg bc) i0 := by rw [sp_cnt_f (p := zpg bc) (i := i0) (decide_eq_false (fun hc => hc h62))]
                  refine z_iload_n hX 2 dM_covered_71 rfl rfl ?_
                  refine z_istore_n hX 2 dM_covered_72 rfl (by decide) ?_
                  refine z_iinc hX 3 dM_covered_73 rfl (zi_1 _) (by decide) ?_
                  refine z_goto hX 44 dM_covered_76 rfl ?_
                  have hz := ih0 (by omega) (fun hc => absurd hj0 hc)
                  rw [hs] at hz
                  exact hz
                · have hs : sp_cnt (zpg bc) (i0 + 1) = sp_cnt (zpg bc) i0 + 1 := by rw [sp_cnt_t (p := zpg bc) (i := i0) (decide_eq_true h62)]
                  refine z_iload_n hX 2 dM_covered_65 rfl rfl ?_
                  refine z_iconst hX (nI 1) dM_covered_66 rfl ?_
                  refine z_iaddN hX dM_covered_67 ?_
                  refine z_goto hX 72 dM_covered_68 rfl ?_
                  refine z_istore_n hX 2 dM_covered_72 rfl (by decide) ?_
                  refine z_iinc hX 3 dM_covered_73 rfl (zi_1 _) (by decide) ?_
                  refine z_goto hX 44 dM_covered_76 rfl ?_
                  have hz := ih0 (by omega) (fun hc => absurd hj0 hc)
                  rw [hs] at hz
                  exact hz
          exact hl0 0 (Nat.zero_le _) (fun _ => rfl)
        · refine z_iload_n hX 1 dM_covered_23 rfl rfl ?_
          refine z_iconst hX (nI 3) dM_covered_24 rfl ?_
          refine z_icmp_neN hX 35 (by omega) (by omega) dM_covered_25 rfl (fun h25 => ?_) (fun h25 => ?_)
          · have hr : zcv ec bc wc n m wy rs es j = Int32.ofInt es := by unfold zcv; rw [if_neg (by omega), if_neg (by omega), if_pos (by omega)]
            refine z_aload_n hX 0 dM_covered_35 rfl rfl ?_
            refine z_get hX 0 37 rfl rfl (zu inM) (by decide) (List.mem_cons_of_mem _ mw_589) rfl dM_covered_36 ?_
            refine z_iret hX rfl rfl rfl rfl dM_covered_39 ?_
            refine ⟨rfl, fun hc => ?_, fun g1 j1 g2 g3 => ?_⟩
            · rcases hc with hc | hc
              · exact zbf h4 hc
              · exact absurd hc h8
            · have e1 := (nI_eq (a := j) (b := j1) (by omega) (by omega)).mp g3
              subst e1
              rw [hr]
          · have hr : zcv ec bc wc n m wy rs es j = Int32.ofInt rs := by unfold zcv; rw [if_neg (by omega), if_pos h25]
            refine z_aload_n hX 0 dM_covered_28 rfl rfl ?_
            refine z_get hX 0 36 rfl rfl (zu inM) (by decide) (List.mem_cons_of_mem _ mw_588) rfl dM_covered_29 ?_
            refine z_goto hX 39 dM_covered_32 rfl ?_
            refine z_iret hX rfl rfl rfl rfl dM_covered_39 ?_
            refine ⟨rfl, fun hc => ?_, fun g1 j1 g2 g3 => ?_⟩
            · rcases hc with hc | hc
              · exact zbf h4 hc
              · exact absurd hc h8
            · have e1 := (nI_eq (a := j) (b := j1) (by omega) (by omega)).mp g3
              subst e1
              rw [hr]
      · have hE : sl = true → ∀ j1, j1 < 2147483648 → nI j = nI j1 → (-1 : Int32) = zcv ec bc wc n m wy rs es j1 := by
          intro g1 j1 g2 g3
          rw [← (nI_eq (a := j) (b := j1) (by omega) (by omega)).mp g3]
          exact (if_pos (by omega) : zcv ec bc wc n m wy rs es j = -1).symm
        refine z_iconst hX (-1) dM_covered_16 rfl ?_
        refine z_iret hX rfl rfl rfl rfl dM_covered_17 ?_
        refine ⟨rfl, fun _ => rfl, fun g1 j1 g2 g3 => ?_⟩
        rw [← hE g1 j1 g2 g3]

