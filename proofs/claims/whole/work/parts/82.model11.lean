/-! the reference: growTrees -/
abbrev zgT := Nat × (Nat → Nat) × (Nat → Nat) × (Nat → Bool) × (Nat → Bool)
def zgM (n x k : Nat) (A B : Nat → Nat) (S : Nat → Bool) : Nat → Bool := sp_it (fun _ => sj_r A B k) n (zmx S x n)
def zgs (n x y l : Nat) (s : zgT) : zgT := (s.1 + 1, va_up s.2.1 s.1 x, va_up s.2.2.1 s.1 y, zgM n x s.1 s.2.1 s.2.2.1 s.2.2.2.1, va_up s.2.2.2.2 l (!(zgM n x s.1 s.2.1 s.2.2.1 s.2.2.2.1) y))
def zg1 (fr to so : Nat → Nat) (n i : Nat) (s : zgT) : zgT := zgs n (fr (so i)) (to (so i)) (so i) s
def zg2 (fr to so : Nat → Nat) (bk : Nat → Bool) (n i : Nat) (s : zgT) : zgT := if bk (so i) = true then s else zgs n (fr (so i)) (to (so i)) (so i) s
def zg3 (to : Nat → Nat) (bk : Nat → Bool) (n i : Nat) (s : zgT) : zgT := if bk i = true then zgs n 0 (to i) (24 + i) s else s
def zg4 (fr : Nat → Nat) (bk : Nat → Bool) (n i : Nat) (s : zgT) : zgT := if bk i = true then zgs n (fr i) 1 i s else s
def zgab (k : Nat) (A B : Nat → Nat) : Prop := ∀ i, i < k → A i < 12 ∧ B i < 12
theorem zgab_up {k x y : Nat} {A B : Nat → Nat} (h : zgab k A B) (hx : x < 12) (hy : y < 12) : zgab (k + 1) (va_up A k x) (va_up B k y) := by
  intro i hi
  by_cases hc : i = k
  · rw [hc, sp_up_s, sp_up_s]; exact ⟨hx, hy⟩
  · rw [sp_up_n _ _ hc, sp_up_n _ _ hc]; exact h i (by omega)
theorem sp_cnt_t {p : Nat → Bool} {i : Nat} (h : p i = true) : sp_cnt p (i + 1) = sp_cnt p i + 1 := by
  show sp_cnt p i + (if p i = true then 1 else 0) = _
  rw [if_pos h]
theorem sp_cnt_f {p : Nat → Bool} {i : Nat} (h : p i = false) : sp_cnt p (i + 1) = sp_cnt p i := by
  show sp_cnt p i + (if p i = true then 1 else 0) = _
  rw [if_neg (by rw [h]; decide)]
  rfl
set_option maxHeartbeats 400000 in
set_option maxRecDepth 100000 in
theorem kM_growTrees (l : Launch) (D : va_G) (cI cZ : ClassId) (ax : Nat) (r : Nat → Nat) (n m : Nat) (sl : Bool) (pr wy fo : Nat) (ru : Bool) (pl pk : Nat) (rs es : Int) (fr to so : Nat → Nat) (bk S0 : Nat → Bool) (A0 B0 : Nat → Nat) (T0 L0 : Nat → Bool) (hn : 2 ≤ n ∧ n ≤ 12) (hm : m ≤ 24) (hok : ∀ e, e < m → fr e < n ∧ to e < n) (hso : ∀ i, i < m → so i < m) (hcnt : sp_cnt (fun i => !bk (so i)) m + 2 * sp_cnt bk m ≤ 48) : zM l yM_growTrees wM_growTrees rM_growTrees D zCl (zTy cI cZ) zNW 0 0 [.ref ax] ([mO ax r (n) (m) (sl) (pr) (wy) (fo) (ru) (pl) (pk) (rs) (es), (r 2, .inl (cI, 24, .inl (aN (fr)))), (r 3, .inl (cI, 24, .inl (aN (to)))), (r 8, .inl (cZ, 24, .inl (aB (bk)))), (r 11, .inl (cI, 24, .inl (aN (so)))), (r 9, .inl (cZ, 12, .inl (aB (S0)))), (r 21, .inl (cI, 48, .inl (aN (A0)))), (r 22, .inl (cI, 48, .inl (aN (B0)))), (r 12, .inl (cZ, 24, .inl (aB (T0)))), (r 17, .inl (cZ, 48, .inl (aB (L0))))]) (fun v wn => v = none ∧ ∃ k1 A1 B1 S1 T1 k2 A2 B2 S2 T2 k3 A3 B3 S3 T3 k4 A4 B4 S4 T4, sp_it (zg1 fr to so n) m (0, A0, B0, S0, T0) = (k1, A1, B1, S1, T1) ∧ sp_it (zg2 fr to so bk n) m (0, A1, B1, S1, L0) = (k2, A2, B2, S2, T2) ∧ sp_it (zg3 to bk n) m (k2, A2, B2, S2, T2) = (k3, A3, B3, S3, T3) ∧ sp_it (zg4 fr bk n) m (k3, A3, B3, S3, T3) = (k4, A4, B4, S4, T4) ∧ wn = [mO ax r (n) (m) (sl) (k4) (wy) (fo) (ru) (pl) (pk) (rs) (es), (r 2, .inl (cI, 24, .inl (aN (fr)))), (r 3, .inl (cI, 24, .inl (aN (to)))), (r 8, .inl (cZ, 24, .inl (aB (bk)))), (r 11, .inl (cI, 24, .inl (aN (so)))), (r 9, .inl (cZ, 12, .inl (aB (S4)))), (r 21, .inl (cI, 48, .inl (aN (A4)))), (r 22, .inl (cI, 48, .inl (aN (B4)))), (r 12, .inl (cZ, 24, .inl (aB (T1)))), (r 17, .inl (cZ, 48, .inl (aB (T4))))]) := by
  refine z_met2 cM_growTrees 3 none rfl rfl (Nat.le_of_ble_eq_true rfl) rfl (fun Z hX => ?_)
  show Z 0 0 0 [some (.ref ax), none, none] [] ([mO ax r (n) (m) (sl) (pr) (wy) (fo) (ru) (pl) (pk) (rs) (es), (r 2, .inl (cI, 24, .inl (aN (fr)))), (r 3, .inl (cI, 24, .inl (aN (to)))), (r 8, .inl (cZ, 24, .inl (aB (bk)))), (r 11, .inl (cI, 24, .inl (aN (so)))), (r 9, .inl (cZ, 12, .inl (aB (S0)))), (r 21, .inl (cI, 48, .inl (aN (A0)))), (r 22, .inl (cI, 48, .inl (aN (B0)))), (r 12, .inl (cZ, 24, .inl (aB (T0)))), (r 17, .inl (cZ, 48, .inl (aB (L0))))])
  refine z_aload_n hX 0 dM_growTrees_0 rfl rfl ?_
  refine z_iconst hX (nI 0) dM_growTrees_1 rfl ?_
  refine z_put hX 0 20 rfl rfl (zu inM) tyM tyM_ok nmM (by decide) (List.mem_cons_of_mem _ mw_572) (Or.inl rfl) rfl rfl rfl (Nat.le_of_ble_eq_true rfl) dM_growTrees_2 ?_
  refine z_iconst hX (nI 0) dM_growTrees_5 rfl ?_
  refine z_istore_n hX 1 dM_growTrees_6 rfl (by decide) ?_
  have hl1 : ∀ i1, i1 ≤ m → ∀ k1 A1 B1 S1 T1, sp_it (zg1 fr to so n) i1 (0, A0, B0, S0, T0) = (k1, A1, B1, S1, T1) → k1 = i1 → zgab k1 A1 B1 → Z 0 0 7 [some (.ref ax), some (.int (nI i1)), none] [] ([mO ax r (n) (m) (sl) (k1) (wy) (fo) (ru) (pl) (pk) (rs) (es), (r 2, .inl (cI, 24, .inl (aN (fr)))), (r 3, .inl (cI, 24, .inl (aN (to)))), (r 8, .inl (cZ, 24, .inl (aB (bk)))), (r 11, .inl (cI, 24, .inl (aN (so)))), (r 9, .inl (cZ, 12, .inl (aB (S1)))), (r 21, .inl (cI, 48, .inl (aN (A1)))), (r 22, .inl (cI, 48, .inl (aN (B1)))), (r 12, .inl (cZ, 24, .inl (aB (T1)))), (r 17, .inl (cZ, 48, .inl (aB (L0))))]) := by
    refine zloop (P := fun i1 => ∀ k1 A1 B1 S1 T1, sp_it (zg1 fr to so n) i1 (0, A0, B0, S0, T0) = (k1, A1, B1, S1, T1) → k1 = i1 → zgab k1 A1 B1 → Z 0 0 7 [some (.ref ax), some (.int (nI i1)), none] [] ([mO ax r (n) (m) (sl) (k1) (wy) (fo) (ru) (pl) (pk) (rs) (es), (r 2, .inl (cI, 24, .inl (aN (fr)))), (r 3, .inl (cI, 24, .inl (aN (to)))), (r 8, .inl (cZ, 24, .inl (aB (bk)))), (r 11, .inl (cI, 24, .inl (aN (so)))), (r 9, .inl (cZ, 12, .inl (aB (S1)))), (r 21, .inl (cI, 48, .inl (aN (A1)))), (r 22, .inl (cI, 48, .inl (aN (B1)))), (r 12, .inl (cZ, 24, .inl (aB (T1)))), (r 17, .inl (cZ, 48, .inl (aB (L0))))])) m (fun i1 hi1 ih1 => ?_)
    intro k1 A1 B1 S1 T1 hx1 hk1 hab1
    refine z_iload_n hX 1 dM_growTrees_7 rfl rfl ?_
    refine z_aload_n hX 0 dM_growTrees_8 rfl rfl ?_
    refine z_get hX 0 1 rfl rfl (zu inM) (by decide) (List.mem_cons_of_mem _ mw_553) rfl dM_growTrees_9 ?_
    refine z_icmp_geN hX 50 (by omega) (by omega) dM_growTrees_12 rfl (fun h12 => ?_) (fun h12 => ?_)
    · have hm1 : i1 = m := by omega
      refine z_aload_n hX 0 dM_growTrees_50 rfl rfl ?_
      refine z_iconst hX (nI 0) dM_growTrees_51 rfl ?_
      refine z_put hX 0 20 rfl rfl (zu inM) tyM tyM_ok nmM (by decide) (List.mem_cons_of_mem _ mw_572) (Or.inl rfl) rfl rfl rfl (Nat.le_of_ble_eq_true rfl) dM_growTrees_52 ?_
      refine z_iconst hX (nI 0) dM_growTrees_55 rfl ?_
      refine z_istore_n hX 1 dM_growTrees_56 rfl (by decide) ?_
      have hl2 : ∀ i2, i2 ≤ m → ∀ k2 A2 B2 S2 T2, sp_it (zg2 fr to so bk n) i2 (0, A1, B1, S1, L0) = (k2, A2, B2, S2, T2) → k2 = sp_cnt (fun i => !bk (so i)) i2 → zgab k2 A2 B2 → Z 0 0 57 [some (.ref ax), some (.int (nI i2)), none] [] ([mO ax r (n) (m) (sl) (k2) (wy) (fo) (ru) (pl) (pk) (rs) (es), (r 2, .inl (cI, 24, .inl (aN (fr)))), (r 3, .inl (cI, 24, .inl (aN (to)))), (r 8, .inl (cZ, 24, .inl (aB (bk)))), (r 11, .inl (cI, 24, .inl (aN (so)))), (r 9, .inl (cZ, 12, .inl (aB (S2)))), (r 21, .inl (cI, 48, .inl (aN (A2)))), (r 22, .inl (cI, 48, .inl (aN (B2)))), (r 12, .inl (cZ, 24, .inl (aB (T1)))), (r 17, .inl (cZ, 48, .inl (aB (T2))))]) := by
        refine zloop (P := fun i2 => ∀ k2 A2 B2 S2 T2, sp_it (zg2 fr to so bk n) i2 (0, A1, B1, S1, L0) = (k2, A2, B2, S2, T2) → k2 = sp_cnt (fun i => !bk (so i)) i2 → zgab k2 A2 B2 → Z 0 0 57 [some (.ref ax), some (.int (nI i2)), none] [] ([mO ax r (n) (m) (sl) (k2) (wy) (fo) (ru) (pl) (pk) (rs) (es), (r 2, .inl (cI, 24, .inl (aN (fr)))), (r 3, .inl (cI, 24, .inl (aN (to)))), (r 8, .inl (cZ, 24, .inl (aB (bk)))), (r 11, .inl (cI, 24, .inl (aN (so)))), (r 9, .inl (cZ, 12, .inl (aB (S2)))), (r 21, .inl (cI, 48, .inl (aN (A2)))), (r 22, .inl (cI, 48, .inl (aN (B2)))), (r 12, .inl (cZ, 24, .inl (aB (T1)))), (r 17, .inl (cZ, 48, .inl (aB (T2))))])) m (fun i2 hi2 ih2 => ?_)
        intro k2 A2 B2 S2 T2 hx2 hk2 hab2
        refine z_iload_n hX 1 dM_growTrees_57 rfl rfl ?_
        refine z_aload_n hX 0 dM_growTrees_58 rfl rfl ?_
        refine z_get hX 0 1 rfl rfl (zu inM) (by decide) (List.mem_cons_of_mem _ mw_553) rfl dM_growTrees_59 ?_
        refine z_icmp_geN hX 109 (by omega) (by omega) dM_growTrees_62 rfl (fun h62 => ?_) (fun h62 => ?_)
        · have hm2 : i2 = m := by omega
          refine z_iconst hX (nI 0) dM_growTrees_109 rfl ?_
          refine z_istore_n hX 1 dM_growTrees_110 rfl (by decide) ?_
          have hl3 : ∀ i3, i3 ≤ m → ∀ k3 A3 B3 S3 T3, sp_it (zg3 to bk n) i3 (k2, A2, B2, S2, T2) = (k3, A3, B3, S3, T3) → k3 = sp_cnt (fun i => !bk (so i)) m + sp_cnt bk i3 → zgab k3 A3 B3 → Z 0 0 111 [some (.ref ax), some (.int (nI i3)), none] [] ([mO ax r (n) (m) (sl) (k3) (wy) (fo) (ru) (pl) (pk) (rs) (es), (r 2, .inl (cI, 24, .inl (aN (fr)))), (r 3, .inl (cI, 24, .inl (aN (to)))), (r 8, .inl (cZ, 24, .inl (aB (bk)))), (r 11, .inl (cI, 24, .inl (aN (so)))), (r 9, .inl (cZ, 12, .inl (aB (S3)))), (r 21, .inl (cI, 48, .inl (aN (A3)))), (r 22, .inl (cI, 48, .inl (aN (B3)))), (r 12, .inl (cZ, 24, .inl (aB (T1)))), (r 17, .inl (cZ, 48, .inl (aB (T3))))]) := by
            refine zloop (P := fun i3 => ∀ k3 A3 B3 S3 T3, sp_it (zg3 to bk n) i3 (k2, A2, B2, S2, T2) = (k3, A3, B3, S3, T3) → k3 = sp_cnt (fun i => !bk (so i)) m + sp_cnt bk i3 → zgab k3 A3 B3 → Z 0 0 111 [some (.ref ax), some (.int (nI i3)), none] [] ([mO ax r (n) (m) (sl) (k3) (wy) (fo) (ru) (pl) (pk) (rs) (es), (r 2, .inl (cI, 24, .inl (aN (fr)))), (r 3, .inl (cI, 24, .inl (aN (to)))), (r 8, .inl (cZ, 24, .inl (aB (bk)))), (r 11, .inl (cI, 24, .inl (aN (so)))), (r 9, .inl (cZ, 12, .inl (aB (S3)))), (r 21, .inl (cI, 48, .inl (aN (A3)))), (r 22, .inl (cI, 48, .inl (aN (B3)))), (r 12, .inl (cZ, 24, .inl (aB (T1)))), (r 17, .inl (cZ, 48, .inl (aB (T3))))])) m (fun i3 hi3 ih3 => ?_)
            intro k3 A3 B3 S3 T3 hx3 hk3 hab3
            refine z_iload_n hX 1 dM_growTrees_111 rfl rfl ?_
            refine z_aload_n hX 0 dM_growTrees_112 rfl rfl ?_
            refine z_get hX 0 1 rfl rfl (zu inM) (by decide) (List.mem_cons_of_mem _ mw_553) rfl dM_growTrees_113 ?_
            refine z_icmp_geN hX 154 (by omega) (by omega) dM_growTrees_116 rfl (fun h116 => ?_) (fun h116 => ?_)
            · have hm3 : i3 = m := by omega
              refine z_iconst hX (nI 0) dM_growTrees_154 rfl ?_
              refine z_istore_n hX 1 dM_growTrees_155 rfl (by decide) ?_
              have hl4 : ∀ i4, i4 ≤ m → ∀ k4 A4 B4 S4 T4, sp_it (zg4 fr bk n) i4 (k3, A3, B3, S3, T3) = (k4, A4, B4, S4, T4) → k4 = sp_cnt (fun i => !bk (so i)) m + sp_cnt bk m + sp_cnt bk i4 → zgab k4 A4 B4 → Z 0 0 156 [some (.ref ax), some (.int (nI i4)), none] [] ([mO ax r (n) (m) (sl) (k4) (wy) (fo) (ru) (pl) (pk) (rs) (es), (r 2, .inl (cI, 24, .inl (aN (fr)))), (r 3, .inl (cI, 24, .inl (aN (to)))), (r 8, .inl (cZ, 24, .inl (aB (bk)))), (r 11, .inl (cI, 24, .inl (aN (so)))), (r 9, .inl (cZ, 12, .inl (aB (S4)))), (r 21, .inl (cI, 48, .inl (aN (A4)))), (r 22, .inl (cI, 48, .inl (aN (B4)))), (r 12, .inl (cZ, 24, .inl (aB (T1)))), (r 17, .inl (cZ, 48, .inl (aB (T4))))]) := by
                refine zloop (P := fun i4 => ∀ k4 A4 B4 S4 T4, sp_it (zg4 fr bk n) i4 (k3, A3, B3, S3, T3) = (k4, A4, B4, S4, T4) → k4 = sp_cnt (fun i => !bk (so i)) m + sp_cnt bk m + sp_cnt bk i4 → zgab k4 A4 B4 → Z 0 0 156 [some (.ref ax), some (.int (nI i4)), none] [] ([mO ax r (n) (m) (sl) (k4) (wy) (fo) (ru) (pl) (pk) (rs) (es), (r 2, .inl (cI, 24, .inl (aN (fr)))), (r 3, .inl (cI, 24, .inl (aN (to)))), (r 8, .inl (cZ, 24, .inl (aB (bk)))), (r 11, .inl (cI, 24, .inl (aN (so)))), (r 9, .inl (cZ, 12, .inl (aB (S4)))), (r 21, .inl (cI, 48, .inl (aN (A4)))), (r 22, .inl (cI, 48, .inl (aN (B4)))), (r 12, .inl (cZ, 24, .inl (aB (T1)))), (r 17, .inl (cZ, 48, .inl (aB (T4))))])) m (fun i4 hi4 ih4 => ?_)
                intro k4 A4 B4 S4 T4 hx4 hk4 hab4
                refine z_iload_n hX 1 dM_growTrees_156 rfl rfl ?_
                refine z_aload_n hX 0 dM_growTrees_157 rfl rfl ?_
                refine z_get hX 0 1 rfl rfl (zu inM) (by decide) (List.mem_cons_of_mem _ mw_553) rfl dM_growTrees_158 ?_
                refine z_icmp_geN hX 196 (by omega) (by omega) dM_growTrees_161 rfl (fun h161 => ?_) (fun h161 => ?_)
                · refine z_vret hX rfl rfl rfl dM_growTrees_196 ?_
                  have hm4 : i4 = m := by omega
                  rw [hm1] at hx1
                  rw [hm2] at hx2
                  rw [hm3] at hx3
                  rw [hm4] at hx4
                  exact ⟨rfl, k1, A1, B1, S1, T1, k2, A2, B2, S2, T2, k3, A3, B3, S3, T3, k4, A4, B4, S4, T4, hx1, hx2, hx3, hx4, rfl⟩
                · have ho4 := hok i4 (by omega)
                  have hc4 := sp_cnt_le2 (p := bk) (j := i4 + 1) (k := m) (by omega)
                  refine z_aload_n hX 0 dM_growTrees_164 rfl rfl ?_
                  refine z_get hX 0 8 rfl rfl (zu inM) (by decide) (List.mem_cons_of_mem _ mw_560) rfl dM_growTrees_165 ?_
                  refine z_iload_n hX 1 dM_growTrees_168 rfl rfl ?_
                  refine z_ldB hX 3 1 _ rfl rfl rfl (by omega) (by decide) dM_growTrees_169 ?_
                  refine z_if_eqB hX 190 dM_growTrees_170 rfl (fun h170 => ?_) (fun h170 => ?_)
                  · have hnext : sp_it (zg4 fr bk n) (i4 + 1) (k3, A3, B3, S3, T3) = (k4, A4, B4, S4, T4) := (congrArg (zg4 fr bk n i4) hx4).trans (if_neg (fun hc => zbf hc h170))
                    have habn := hab4
                    have hkn : k4 = sp_cnt (fun i => !bk (so i)) m + sp_cnt bk m + sp_cnt bk (i4 + 1) := by rw [sp_cnt_f (p := bk) (i := i4) h170]; exact hk4
                    refine z_iinc hX 1 dM_growTrees_190 rfl (zi_1 _) (by decide) ?_
                    refine z_goto hX 156 dM_growTrees_193 rfl ?_
                    exact z_le2 hX (ih4 (by omega) _ _ _ _ _ hnext hkn habn) (And.intro rfl (And.intro rfl trivial))
                  · have hb4 := sp_cnt_t (p := bk) (i := i4) h170
                    have hnext : sp_it (zg4 fr bk n) (i4 + 1) (k3, A3, B3, S3, T3) = (k4 + 1, va_up A4 k4 (fr i4), va_up B4 k4 (1), zgM n (fr i4) k4 A4 B4 S4, va_up T4 (i4) (!(zgM n (fr i4) k4 A4 B4 S4) (1))) := (congrArg (zg4 fr bk n i4) hx4).trans (if_pos h170)
                    have habn := zgab_up hab4 (x := fr i4) (y := 1) (by omega) (by omega)
                    have hkn : k4 + 1 = sp_cnt (fun i => !bk (so i)) m + sp_cnt bk m + sp_cnt bk (i4 + 1) := by rw [hb4, hk4]; omega
                    refine z_aload_n hX 0 dM_growTrees_173 rfl rfl ?_
                    refine z_get hX 0 17 rfl rfl (zu inM) (by decide) (List.mem_cons_of_mem _ mw_569) rfl dM_growTrees_174 ?_
                    refine z_iload_n hX 1 dM_growTrees_177 rfl rfl ?_
                    refine z_aload_n hX 0 dM_growTrees_178 rfl rfl ?_
                    refine z_aload_n hX 0 dM_growTrees_179 rfl rfl ?_
                    refine z_get hX 0 2 rfl rfl (zu inM) (by decide) (List.mem_cons_of_mem _ mw_554) rfl dM_growTrees_180 ?_
                    refine z_iload_n hX 1 dM_growTrees_183 rfl rfl ?_
                    refine z_ldN hX 1 0 _ rfl rfl rfl (by omega) (by decide) dM_growTrees_184 ?_
                    refine z_iconst hX (nI 1) dM_growTrees_185 rfl ?_
                    refine z_Vy hX (kM_join l D cI cZ ax r (n) (m) (sl) (k4) (wy) (fo) (ru) (pl) (pk) (rs) (es) S4 A4 B4 (fr i4) (1) (by omega) (by omega) hn (by omega) hab4) mw_719 mw_721 mp_3_1 mw_9 mw_722 rfl rfl ⟨rfl, by decide, by decide, rfl⟩ (by decide) 0 rfl rfl rfl rfl (Nat.le_of_ble_eq_true rfl) dM_growTrees_186 (by decide) [0, 5, 6, 7] rfl rfl [1, 2, 3, 4, 8, 9] 10 (by decide) (by decide) (fun v wn hv => ?_)
                    obtain ⟨rfl, rfl⟩ := hv
                    refine ⟨[mO ax r (n) (m) (sl) (k4 + 1) (wy) (fo) (ru) (pl) (pk) (rs) (es), (r 2, .inl (cI, 24, .inl (aN (fr)))), (r 3, .inl (cI, 24, .inl (aN (to)))), (r 8, .inl (cZ, 24, .inl (aB (bk)))), (r 11, .inl (cI, 24, .inl (aN (so)))), (r 9, .inl (cZ, 12, .inl (aB (zgM n (fr i4) k4 A4 B4 S4)))), (r 21, .inl (cI, 48, .inl (aN (va_up A4 k4 (fr i4))))), (r 22, .inl (cI, 48, .inl (aN (va_up B4 k4 (1))))), (r 12, .inl (cZ, 24, .inl (aB (T1)))), (r 17, .inl (cZ, 48, .inl (aB (T4))))], rfl, (And.intro ⟨_, rfl, rfl⟩ (And.intro ⟨_, rfl, rfl⟩ (And.intro ⟨_, rfl, rfl⟩ (And.intro ⟨_, rfl, rfl⟩ (And.intro ⟨_, rfl, rfl⟩ (And.intro ⟨_, rfl, rfl⟩ trivial)))))), rfl, ?_⟩
                    refine z_stB hX 9 1 _ _ rfl rfl rfl rfl (by omega) (by decide) dM_growTrees_189 ?_
                    refine z_iinc hX 1 dM_growTrees_190 rfl (zi_1 _) (by decide) ?_
                    refine z_goto hX 156 dM_growTrees_193 rfl ?_
                    exact z_le2 hX (ih4 (by omega) _ _ _ _ _ hnext hkn habn) (And.intro rfl (And.intro rfl trivial))
              exact hl4 0 (Nat.zero_le _) _ _ _ _ _ rfl (by rw [hk3, hm3]; rfl) hab3
            · have ho3 := hok i3 (by omega)
              have hc3 := sp_cnt_le2 (p := bk) (j := i3 + 1) (k := m) (by omega)
              refine z_aload_n hX 0 dM_growTrees_119 rfl rfl ?_
              refine z_get hX 0 8 rfl rfl (zu inM) (by decide) (List.mem_cons_of_mem _ mw_560) rfl dM_growTrees_120 ?_
              refine z_iload_n hX 1 dM_growTrees_123 rfl rfl ?_
              refine z_ldB hX 3 1 _ rfl rfl rfl (by omega) (by decide) dM_growTrees_124 ?_
              refine z_if_eqB hX 148 dM_growTrees_125 rfl (fun h125 => ?_) (fun h125 => ?_)
              · have hnext : sp_it (zg3 to bk n) (i3 + 1) (k2, A2, B2, S2, T2) = (k3, A3, B3, S3, T3) := (congrArg (zg3 to bk n i3) hx3).trans (if_neg (fun hc => zbf hc h125))
                have habn := hab3
                have hkn : k3 = sp_cnt (fun i => !bk (so i)) m + sp_cnt bk (i3 + 1) := by rw [sp_cnt_f (p := bk) (i := i3) h125]; exact hk3
                refine z_iinc hX 1 dM_growTrees_148 rfl (zi_1 _) (by decide) ?_
                refine z_goto hX 111 dM_growTrees_151 rfl ?_
                exact z_le2 hX (ih3 (by omega) _ _ _ _ _ hnext hkn habn) (And.intro rfl (And.intro rfl trivial))
              · have hb3 := sp_cnt_t (p := bk) (i := i3) h125
                have hnext : sp_it (zg3 to bk n) (i3 + 1) (k2, A2, B2, S2, T2) = (k3 + 1, va_up A3 k3 (0), va_up B3 k3 (to i3), zgM n (0) k3 A3 B3 S3, va_up T3 (24 + i3) (!(zgM n (0) k3 A3 B3 S3) (to i3))) := (congrArg (zg3 to bk n i3) hx3).trans (if_pos h125)
                have habn := zgab_up hab3 (x := 0) (y := to i3) (by omega) (by omega)
                have hkn : k3 + 1 = sp_cnt (fun i => !bk (so i)) m + sp_cnt bk (i3 + 1) := by rw [hb3, hk3]; omega
                refine z_aload_n hX 0 dM_growTrees_128 rfl rfl ?_
                refine z_get hX 0 17 rfl rfl (zu inM) (by decide) (List.mem_cons_of_mem _ mw_569) rfl dM_growTrees_129 ?_
                refine z_bipush hX (nI 24) dM_growTrees_132 (by decide) ?_
                refine z_iload_n hX 1 dM_growTrees_134 rfl rfl ?_
                refine z_iaddN hX dM_growTrees_135 ?_
                refine z_aload_n hX 0 dM_growTrees_136 rfl rfl ?_
                refine z_iconst hX (nI 0) dM_growTrees_137 rfl ?_
                refine z_aload_n hX 0 dM_growTrees_138 rfl rfl ?_
                refine z_get hX 0 3 rfl rfl (zu inM) (by decide) (List.mem_cons_of_mem _ mw_555) rfl dM_growTrees_139 ?_
                refine z_iload_n hX 1 dM_growTrees_142 rfl rfl ?_
                refine z_ldN hX 2 0 _ rfl rfl rfl (by omega) (by decide) dM_growTrees_143 ?_
                refine z_Vy hX (kM_join l D cI cZ ax r (n) (m) (sl) (k3) (wy) (fo) (ru) (pl) (pk) (rs) (es) S3 A3 B3 (0) (to i3) (by omega) (by omega) hn (by omega) hab3) mw_719 mw_721 mp_3_1 mw_9 mw_722 rfl rfl ⟨rfl, by decide, by decide, rfl⟩ (by decide) 0 rfl rfl rfl rfl (Nat.le_of_ble_eq_true rfl) dM_growTrees_144 (by decide) [0, 5, 6, 7] rfl rfl [1, 2, 3, 4, 8, 9] 10 (by decide) (by decide) (fun v wn hv => ?_)
                obtain ⟨rfl, rfl⟩ := hv
                refine ⟨[mO ax r (n) (m) (sl) (k3 + 1) (wy) (fo) (ru) (pl) (pk) (rs) (es), (r 2, .inl (cI, 24, .inl (aN (fr)))), (r 3, .inl (cI, 24, .inl (aN (to)))), (r 8, .inl (cZ, 24, .inl (aB (bk)))), (r 11, .inl (cI, 24, .inl (aN (so)))), (r 9, .inl (cZ, 12, .inl (aB (zgM n (0) k3 A3 B3 S3)))), (r 21, .inl (cI, 48, .inl (aN (va_up A3 k3 (0))))), (r 22, .inl (cI, 48, .inl (aN (va_up B3 k3 (to i3))))), (r 12, .inl (cZ, 24, .inl (aB (T1)))), (r 17, .inl (cZ, 48, .inl (aB (T3))))], rfl, (And.intro ⟨_, rfl, rfl⟩ (And.intro ⟨_, rfl, rfl⟩ (And.intro ⟨_, rfl, rfl⟩ (And.intro ⟨_, rfl, rfl⟩ (And.intro ⟨_, rfl, rfl⟩ (And.intro ⟨_, rfl, rfl⟩ trivial)))))), rfl, ?_⟩
                refine z_stB hX 9 1 _ _ rfl rfl rfl rfl (by omega) (by decide) dM_growTrees_147 ?_
                refine z_iinc hX 1 dM_growTrees_148 rfl (zi_1 _) (by decide) ?_
                refine z_goto hX 111 dM_growTrees_151 rfl ?_
                exact z_le2 hX (ih3 (by omega) _ _ _ _ _ hnext hkn habn) (And.intro rfl (And.intro rfl trivial))
          exact hl3 0 (Nat.zero_le _) _ _ _ _ _ rfl (by rw [hk2, hm2]; rfl) hab2
        · have hs2 := hso i2 (by omega)
          have ho2 := hok (so i2) hs2
          have hl2c : sp_cnt (fun i => !bk (so i)) i2 ≤ i2 := sp_cnt_le _ _
          refine z_aload_n hX 0 dM_growTrees_65 rfl rfl ?_
          refine z_get hX 0 11 rfl rfl (zu inM) (by decide) (List.mem_cons_of_mem _ mw_563) rfl dM_growTrees_66 ?_
          refine z_iload_n hX 1 dM_growTrees_69 rfl rfl ?_
          refine z_ldN hX 4 0 _ rfl rfl rfl (by omega) (by decide) dM_growTrees_70 ?_
          refine z_istore_n hX 2 dM_growTrees_71 rfl (by decide) ?_
          refine z_aload_n hX 0 dM_growTrees_72 rfl rfl ?_
          refine z_get hX 0 8 rfl rfl (zu inM) (by decide) (List.mem_cons_of_mem _ mw_560) rfl dM_growTrees_73 ?_
          refine z_iload_n hX 2 dM_growTrees_76 rfl rfl ?_
          refine z_ldB hX 3 1 _ rfl rfl rfl (by omega) (by decide) dM_growTrees_77 ?_
          refine z_if_neB hX 103 dM_growTrees_78 rfl (fun h78 => ?_) (fun h78 => ?_)
          · have hnext : sp_it (zg2 fr to so bk n) (i2 + 1) (0, A1, B1, S1, L0) = (k2, A2, B2, S2, T2) := (congrArg (zg2 fr to so bk n i2) hx2).trans (if_pos h78)
            have habn := hab2
            have hkn : k2 = sp_cnt (fun i => !bk (so i)) (i2 + 1) := by rw [sp_cnt_f (p := fun i => !bk (so i)) (i := i2) (by rw [h78]; rfl)]; exact hk2
            refine z_iinc hX 1 dM_growTrees_103 rfl (zi_1 _) (by decide) ?_
            refine z_goto hX 57 dM_growTrees_106 rfl ?_
            exact z_le2 hX (ih2 (by omega) _ _ _ _ _ hnext hkn habn) (And.intro rfl (And.intro rfl trivial))
          · have hnext : sp_it (zg2 fr to so bk n) (i2 + 1) (0, A1, B1, S1, L0) = (k2 + 1, va_up A2 k2 (fr (so i2)), va_up B2 k2 (to (so i2)), zgM n (fr (so i2)) k2 A2 B2 S2, va_up T2 (so i2) (!(zgM n (fr (so i2)) k2 A2 B2 S2) (to (so i2)))) := (congrArg (zg2 fr to so bk n i2) hx2).trans (if_neg (fun hc => zbf hc h78))
            have habn := zgab_up hab2 (x := fr (so i2)) (y := to (so i2)) (by omega) (by omega)
            have hkn : k2 + 1 = sp_cnt (fun i => !bk (so i)) (i2 + 1) := by rw [sp_cnt_t (p := fun i => !bk (so i)) (i := i2) (by rw [h78]; rfl), hk2]
            refine z_aload_n hX 0 dM_growTrees_81 rfl rfl ?_
            refine z_get hX 0 17 rfl rfl (zu inM) (by decide) (List.mem_cons_of_mem _ mw_569) rfl dM_growTrees_82 ?_
            refine z_iload_n hX 2 dM_growTrees_85 rfl rfl ?_
            refine z_aload_n hX 0 dM_growTrees_86 rfl rfl ?_
            refine z_aload_n hX 0 dM_growTrees_87 rfl rfl ?_
            refine z_get hX 0 2 rfl rfl (zu inM) (by decide) (List.mem_cons_of_mem _ mw_554) rfl dM_growTrees_88 ?_
            refine z_iload_n hX 2 dM_growTrees_91 rfl rfl ?_
            refine z_ldN hX 1 0 _ rfl rfl rfl (by omega) (by decide) dM_growTrees_92 ?_
            refine z_aload_n hX 0 dM_growTrees_93 rfl rfl ?_
            refine z_get hX 0 3 rfl rfl (zu inM) (by decide) (List.mem_cons_of_mem _ mw_555) rfl dM_growTrees_94 ?_
            refine z_iload_n hX 2 dM_growTrees_97 rfl rfl ?_
            refine z_ldN hX 2 0 _ rfl rfl rfl (by omega) (by decide) dM_growTrees_98 ?_
            refine z_Vy hX (kM_join l D cI cZ ax r (n) (m) (sl) (k2) (wy) (fo) (ru) (pl) (pk) (rs) (es) S2 A2 B2 (fr (so i2)) (to (so i2)) (by omega) (by omega) hn (by omega) hab2) mw_719 mw_721 mp_3_1 mw_9 mw_722 rfl rfl ⟨rfl, by decide, by decide, rfl⟩ (by decide) 0 rfl rfl rfl rfl (Nat.le_of_ble_eq_true rfl) dM_growTrees_99 (by decide) [0, 5, 6, 7] rfl rfl [1, 2, 3, 4, 8, 9] 10 (by decide) (by decide) (fun v wn hv => ?_)
            obtain ⟨rfl, rfl⟩ := hv
            refine ⟨[mO ax r (n) (m) (sl) (k2 + 1) (wy) (fo) (ru) (pl) (pk) (rs) (es), (r 2, .inl (cI, 24, .inl (aN (fr)))), (r 3, .inl (cI, 24, .inl (aN (to)))), (r 8, .inl (cZ, 24, .inl (aB (bk)))), (r 11, .inl (cI, 24, .inl (aN (so)))), (r 9, .inl (cZ, 12, .inl (aB (zgM n (fr (so i2)) k2 A2 B2 S2)))), (r 21, .inl (cI, 48, .inl (aN (va_up A2 k2 (fr (so i2)))))), (r 22, .inl (cI, 48, .inl (aN (va_up B2 k2 (to (so i2)))))), (r 12, .inl (cZ, 24, .inl (aB (T1)))), (r 17, .inl (cZ, 48, .inl (aB (T2))))], rfl, (And.intro ⟨_, rfl, rfl⟩ (And.intro ⟨_, rfl, rfl⟩ (And.intro ⟨_, rfl, rfl⟩ (And.intro ⟨_, rfl, rfl⟩ (And.intro ⟨_, rfl, rfl⟩ (And.intro ⟨_, rfl, rfl⟩ trivial)))))), rfl, ?_⟩
            refine z_stB hX 9 1 _ _ rfl rfl rfl rfl (by omega) (by decide) dM_growTrees_102 ?_
            refine z_iinc hX 1 dM_growTrees_103 rfl (zi_1 _) (by decide) ?_
            refine z_goto hX 57 dM_growTrees_106 rfl ?_
            exact z_le2 hX (ih2 (by omega) _ _ _ _ _ hnext hkn habn) (And.intro rfl (And.intro rfl trivial))
      exact hl2 0 (Nat.zero_le _) _ _ _ _ _ rfl rfl (fun x hx => absurd hx (by omega))
    · have hs1 := hso i1 (by omega)
      have ho1 := hok (so i1) hs1
      refine z_aload_n hX 0 dM_growTrees_15 rfl rfl ?_
      refine z_get hX 0 11 rfl rfl (zu inM) (by decide) (List.mem_cons_of_mem _ mw_563) rfl dM_growTrees_16 ?_
      refine z_iload_n hX 1 dM_growTrees_19 rfl rfl ?_
      refine z_ldN hX 4 0 _ rfl rfl rfl (by omega) (by decide) dM_growTrees_20 ?_
      refine z_istore_n hX 2 dM_growTrees_21 rfl (by decide) ?_
      refine z_aload_n hX 0 dM_growTrees_22 rfl rfl ?_
      refine z_get hX 0 12 rfl rfl (zu inM) (by decide) (List.mem_cons_of_mem _ mw_564) rfl dM_growTrees_23 ?_
      refine z_iload_n hX 2 dM_growTrees_26 rfl rfl ?_
      refine z_aload_n hX 0 dM_growTrees_27 rfl rfl ?_
      refine z_aload_n hX 0 dM_growTrees_28 rfl rfl ?_
      refine z_get hX 0 2 rfl rfl (zu inM) (by decide) (List.mem_cons_of_mem _ mw_554) rfl dM_growTrees_29 ?_
      refine z_iload_n hX 2 dM_growTrees_32 rfl rfl ?_
      refine z_ldN hX 1 0 _ rfl rfl rfl (by omega) (by decide) dM_growTrees_33 ?_
      refine z_aload_n hX 0 dM_growTrees_34 rfl rfl ?_
      refine z_get hX 0 3 rfl rfl (zu inM) (by decide) (List.mem_cons_of_mem _ mw_555) rfl dM_growTrees_35 ?_
      refine z_iload_n hX 2 dM_growTrees_38 rfl rfl ?_
      refine z_ldN hX 2 0 _ rfl rfl rfl (by omega) (by decide) dM_growTrees_39 ?_
      refine z_Vy hX (kM_join l D cI cZ ax r (n) (m) (sl) (k1) (wy) (fo) (ru) (pl) (pk) (rs) (es) S1 A1 B1 (fr (so i1)) (to (so i1)) (by omega) (by omega) hn (by omega) hab1) mw_719 mw_721 mp_3_1 mw_9 mw_722 rfl rfl ⟨rfl, by decide, by decide, rfl⟩ (by decide) 0 rfl rfl rfl rfl (Nat.le_of_ble_eq_true rfl) dM_growTrees_40 (by decide) [0, 5, 6, 7] rfl rfl [1, 2, 3, 4, 8, 9] 10 (by decide) (by decide) (fun v wn hv => ?_)
      obtain ⟨rfl, rfl⟩ := hv
      refine ⟨[mO ax r (n) (m) (sl) (k1 + 1) (wy) (fo) (ru) (pl) (pk) (rs) (es), (r 2, .inl (cI, 24, .inl (aN (fr)))), (r 3, .inl (cI, 24, .inl (aN (to)))), (r 8, .inl (cZ, 24, .inl (aB (bk)))), (r 11, .inl (cI, 24, .inl (aN (so)))), (r 9, .inl (cZ, 12, .inl (aB (zgM n (fr (so i1)) k1 A1 B1 S1)))), (r 21, .inl (cI, 48, .inl (aN (va_up A1 k1 (fr (so i1)))))), (r 22, .inl (cI, 48, .inl (aN (va_up B1 k1 (to (so i1)))))), (r 12, .inl (cZ, 24, .inl (aB (T1)))), (r 17, .inl (cZ, 48, .inl (aB (L0))))], rfl, (And.intro ⟨_, rfl, rfl⟩ (And.intro ⟨_, rfl, rfl⟩ (And.intro ⟨_, rfl, rfl⟩ (And.intro ⟨_, rfl, rfl⟩ (And.intro ⟨_, rfl, rfl⟩ (And.intro ⟨_, rfl, rfl⟩ trivial)))))), rfl, ?_⟩
      refine z_stB hX 8 1 _ _ rfl rfl rfl rfl (by omega) (by decide) dM_growTrees_43 ?_
      have hnext : sp_it (zg1 fr to so n) (i1 + 1) (0, A0, B0, S0, T0) = (k1 + 1, va_up A1 k1 (fr (so i1)), va_up B1 k1 (to (so i1)), zgM n (fr (so i1)) k1 A1 B1 S1, va_up T1 (so i1) (!(zgM n (fr (so i1)) k1 A1 B1 S1) (to (so i1)))) := (congrArg (zg1 fr to so n i1) hx1).trans (rfl)
      have habn := zgab_up hab1 (x := fr (so i1)) (y := to (so i1)) (by omega) (by omega)
      have hkn : k1 + 1 = i1 + 1 := by omega
      refine z_iinc hX 1 dM_growTrees_44 rfl (zi_1 _) (by decide) ?_
      refine z_goto hX 7 dM_growTrees_47 rfl ?_
      exact z_le2 hX (ih1 (by omega) _ _ _ _ _ hnext hkn habn) (And.intro rfl (And.intro rfl trivial))
  exact hl1 0 (Nat.zero_le _) _ _ _ _ _ rfl rfl (fun x hx => absurd hx (by omega))

