/-! the reference: layLinks -/
def zl {α : Type} (c : Nat → Bool) (g h : Nat → α) (i : Nat) (F : Nat → α) : Nat → α := if c i = true then va_up (va_up F i (g i)) (24 + i) (h i) else F
theorem zl_spec {α : Type} (c : Nat → Bool) (g h : Nat → α) (F0 : Nat → α) (l : Nat) : ∀ k, k ≤ 24 → sp_it (zl c g h) k F0 l = if l < k ∧ c l = true then g l else if 24 ≤ l ∧ l < 24 + k ∧ c (l - 24) = true then h (l - 24) else F0 l
  | 0, _ => by
    rw [if_neg (by omega), if_neg (by omega)]
    rfl
  | k + 1, hk => by
    have ih := zl_spec c g h F0 l k (by omega)
    show (if c k = true then va_up (va_up (sp_it (zl c g h) k F0) k (g k)) (24 + k) (h k) else sp_it (zl c g h) k F0) l = _
    cases hc : c k with
    | false =>
      rw [if_neg (by decide), ih]
      by_cases h3 : l < k ∧ c l = true
      · rw [if_pos h3, if_pos (show l < k + 1 ∧ c l = true from ⟨by omega, h3.2⟩)]
      · have q1 : ¬ (l < k + 1 ∧ c l = true) := fun hh => h3 ⟨by
          by_cases hl : l = k
          · rw [hl, hc] at hh; cases hh.2
          · omega, hh.2⟩
        rw [if_neg h3, if_neg q1]
        by_cases h4 : 24 ≤ l ∧ l < 24 + k ∧ c (l - 24) = true
        · rw [if_pos h4, if_pos (show 24 ≤ l ∧ l < 24 + (k + 1) ∧ c (l - 24) = true from ⟨h4.1, by omega, h4.2.2⟩)]
        · have q2 : ¬ (24 ≤ l ∧ l < 24 + (k + 1) ∧ c (l - 24) = true) := fun hh => h4 ⟨hh.1, by
            by_cases hl : l - 24 = k
            · rw [hl, hc] at hh; cases hh.2.2
            · omega, hh.2.2⟩
          rw [if_neg h4, if_neg q2]
    | true =>
      rw [if_pos rfl]
      by_cases h1 : l = 24 + k
      · rw [h1, sp_up_s, if_neg (show ¬ (24 + k < k + 1 ∧ c (24 + k) = true) from fun hh => absurd hh.1 (by omega)), show 24 + k - 24 = k by omega, if_pos (show 24 ≤ 24 + k ∧ 24 + k < 24 + (k + 1) ∧ c k = true from ⟨by omega, by omega, hc⟩)]
      · rw [sp_up_n _ _ h1]
        by_cases h2 : l = k
        · rw [h2, sp_up_s, if_pos (show k < k + 1 ∧ c k = true from ⟨by omega, hc⟩)]
        · rw [sp_up_n _ _ h2, ih]
          by_cases h3 : l < k ∧ c l = true
          · rw [if_pos h3, if_pos (show l < k + 1 ∧ c l = true from ⟨by omega, h3.2⟩)]
          · have q1 : ¬ (l < k + 1 ∧ c l = true) := fun hh => h3 ⟨by omega, hh.2⟩
            rw [if_neg h3, if_neg q1]
            by_cases h4 : 24 ≤ l ∧ l < 24 + k ∧ c (l - 24) = true
            · rw [if_pos h4, if_pos (show 24 ≤ l ∧ l < 24 + (k + 1) ∧ c (l - 24) = true from ⟨h4.1, by omega, h4.2.2⟩)]
            · have q2 : ¬ (24 ≤ l ∧ l < 24 + (k + 1) ∧ c (l - 24) = true) := fun hh => h4 ⟨hh.1, by omega, hh.2.2⟩
              rw [if_neg h4, if_neg q2]
theorem zl_t {α : Type} (c : Nat → Bool) (g h : Nat → α) (F0 : Nat → α) (k : Nat) (hc : c k = true) : sp_it (zl c g h) (k + 1) F0 = va_up (va_up (sp_it (zl c g h) k F0) k (g k)) (24 + k) (h k) := if_pos hc
def zr1 (i : Nat) (R : Nat → Nat) : Nat → Nat := va_up R i (if i = 1 then 1 else 0)
def zlr (isL : Nat → Bool) (lf lt : Nat → Nat) (b : Nat) (R : Nat → Nat) : Nat → Nat := va_up R b (if b = 1 then 1 else sw_W isL lf lt R b 48)
theorem zl_ok {n m : Nat} {fr to : Nat → Nat} {bk : Nat → Bool} (I0 : Nat → Bool) (F0 T0 : Nat → Nat) (hn : 2 ≤ n ∧ n ≤ 12) (hm : m ≤ 24) (hok : ∀ e, e < m → fr e < n ∧ to e < n) : ∀ l, l < 48 → (sp_it (zl (fun _ => true) (fun i => decide (i < m)) (fun i => decide (i < m) && bk i)) 24 I0) l = true → (sp_it (zl (fun i => decide (i < m)) fr (fun _ => 0)) 24 F0) l < 12 ∧ (sp_it (zl (fun i => decide (i < m)) (fun i => if bk i = true then 1 else to i) to) 24 T0) l < 12 := by
  intro l hl h
  rw [zl_spec _ _ _ _ _ 24 (Nat.le_refl _)] at h
  rw [zl_spec _ _ _ _ _ 24 (Nat.le_refl _), zl_spec _ _ _ _ _ 24 (Nat.le_refl _)]
  by_cases h1 : l < 24
  · rw [if_pos ⟨h1, rfl⟩] at h
    have h2 := of_decide_eq_true h
    have h3 := hok l h2
    rw [if_pos ⟨h1, h⟩, if_pos ⟨h1, h⟩]
    refine ⟨by omega, ?_⟩
    by_cases hb : bk l = true
    · rw [if_pos hb]; omega
    · rw [if_neg hb]; omega
  · have g1 : ∀ c : Nat → Bool, ¬ (l < 24 ∧ c l = true) := fun c hc => h1 hc.1
    rw [if_neg (g1 (fun _ => true)), if_pos (show 24 ≤ l ∧ l < 24 + 24 ∧ true = true from ⟨by omega, by omega, rfl⟩), Bool.and_eq_true] at h
    have h3 := hok (l - 24) (of_decide_eq_true h.1)
    have g2 : 24 ≤ l ∧ l < 24 + 24 ∧ decide (l - 24 < m) = true := ⟨by omega, by omega, h.1⟩
    rw [if_neg (g1 (fun i => decide (i < m))), if_neg (g1 (fun i => decide (i < m))), if_pos g2, if_pos g2]
    omega
set_option maxHeartbeats 400000 in
set_option maxRecDepth 100000 in
theorem kM_layLinks (l : Launch) (D : va_G) (cI cZ : ClassId) (ax : Nat) (r : Nat → Nat) (n m : Nat) (sl : Bool) (pr wy fo : Nat) (ru : Bool) (pl pk : Nat) (rs es : Int) (fr to : Nat → Nat) (bk I0 : Nat → Bool) (F0 T0 R0 : Nat → Nat) (hn : 2 ≤ n ∧ n ≤ 12) (hm : m ≤ 24) (hok : ∀ e, e < m → fr e < n ∧ to e < n) : zM l yM_layLinks wM_layLinks rM_layLinks D zCl (zTy cI cZ) zNW 0 0 [.ref ax] ([mO ax r (n) (m) (sl) (pr) (wy) (fo) (ru) (pl) (pk) (rs) (es), (r 2, .inl (cI, 24, .inl (aN (fr)))), (r 3, .inl (cI, 24, .inl (aN (to)))), (r 8, .inl (cZ, 24, .inl (aB (bk)))), (r 13, .inl (cZ, 48, .inl (aB (I0)))), (r 14, .inl (cI, 48, .inl (aN (F0)))), (r 15, .inl (cI, 48, .inl (aN (T0)))), (r 16, .inl (cI, 12, .inl (aN (R0))))]) (fun v wn => v = none ∧ wn = [mO ax r (n) (m) (sl) (pr) (wy) (fo) (ru) (pl) (pk) (rs) (es), (r 2, .inl (cI, 24, .inl (aN (fr)))), (r 3, .inl (cI, 24, .inl (aN (to)))), (r 8, .inl (cZ, 24, .inl (aB (bk)))), (r 13, .inl (cZ, 48, .inl (aB (sp_it (zl (fun _ => true) (fun i => decide (i < m)) (fun i => decide (i < m) && bk i)) 24 I0)))), (r 14, .inl (cI, 48, .inl (aN (sp_it (zl (fun i => decide (i < m)) fr (fun _ => 0)) 24 F0)))), (r 15, .inl (cI, 48, .inl (aN (sp_it (zl (fun i => decide (i < m)) (fun i => if bk i = true then 1 else to i) to) 24 T0)))), (r 16, .inl (cI, 12, .inl (aN (sp_it (fun _ R => sp_it (zlr (sp_it (zl (fun _ => true) (fun i => decide (i < m)) (fun i => decide (i < m) && bk i)) 24 I0) (sp_it (zl (fun i => decide (i < m)) fr (fun _ => 0)) 24 F0) (sp_it (zl (fun i => decide (i < m)) (fun i => if bk i = true then 1 else to i) to) 24 T0)) n R) n (sp_it zr1 n R0)))))]) := by
  have hlk := zl_ok (bk := bk) I0 F0 T0 hn hm hok
  refine z_met2 cM_layLinks 3 none rfl rfl (Nat.le_of_ble_eq_true rfl) rfl (fun Z hX => ?_)
  show Z 0 0 0 [some (.ref ax), none, none] [] ([mO ax r (n) (m) (sl) (pr) (wy) (fo) (ru) (pl) (pk) (rs) (es), (r 2, .inl (cI, 24, .inl (aN (fr)))), (r 3, .inl (cI, 24, .inl (aN (to)))), (r 8, .inl (cZ, 24, .inl (aB (bk)))), (r 13, .inl (cZ, 48, .inl (aB (I0)))), (r 14, .inl (cI, 48, .inl (aN (F0)))), (r 15, .inl (cI, 48, .inl (aN (T0)))), (r 16, .inl (cI, 12, .inl (aN (R0))))])
  refine z_iconst hX (nI 0) dM_layLinks_0 rfl ?_
  refine z_istore_n hX 1 dM_layLinks_1 rfl (by decide) ?_
  refine zloop (P := fun i => Z 0 0 2 [some (.ref ax), some (.int (nI i)), none] [] ([mO ax r (n) (m) (sl) (pr) (wy) (fo) (ru) (pl) (pk) (rs) (es), (r 2, .inl (cI, 24, .inl (aN (fr)))), (r 3, .inl (cI, 24, .inl (aN (to)))), (r 8, .inl (cZ, 24, .inl (aB (bk)))), (r 13, .inl (cZ, 48, .inl (aB (sp_it (zl (fun _ => true) (fun i => decide (i < m)) (fun i => decide (i < m) && bk i)) i I0)))), (r 14, .inl (cI, 48, .inl (aN (sp_it (zl (fun i => decide (i < m)) fr (fun _ => 0)) i F0)))), (r 15, .inl (cI, 48, .inl (aN (sp_it (zl (fun i => decide (i < m)) (fun i => if bk i = true then 1 else to i) to) i T0)))), (r 16, .inl (cI, 12, .inl (aN (R0))))])) 24 (fun i hi ih => ?_) 0 (Nat.zero_le _)
  refine z_iload_n hX 1 dM_layLinks_2 rfl rfl ?_
  refine z_bipush hX (nI 24) dM_layLinks_3 (by decide) ?_
  refine z_icmp_geN hX 134 (by omega) (by omega) dM_layLinks_5 rfl (fun h5 => ?_) (fun h5 => ?_)
  · have hi24 : i = 24 := by omega
    rw [hi24]
    refine z_iconst hX (nI 0) dM_layLinks_134 rfl ?_
    refine z_istore_n hX 1 dM_layLinks_135 rfl (by decide) ?_
    refine zloop (P := fun i => Z 0 0 136 [some (.ref ax), some (.int (nI i)), none] [] ([mO ax r (n) (m) (sl) (pr) (wy) (fo) (ru) (pl) (pk) (rs) (es), (r 2, .inl (cI, 24, .inl (aN (fr)))), (r 3, .inl (cI, 24, .inl (aN (to)))), (r 8, .inl (cZ, 24, .inl (aB (bk)))), (r 13, .inl (cZ, 48, .inl (aB (sp_it (zl (fun _ => true) (fun i => decide (i < m)) (fun i => decide (i < m) && bk i)) 24 I0)))), (r 14, .inl (cI, 48, .inl (aN (sp_it (zl (fun i => decide (i < m)) fr (fun _ => 0)) 24 F0)))), (r 15, .inl (cI, 48, .inl (aN (sp_it (zl (fun i => decide (i < m)) (fun i => if bk i = true then 1 else to i) to) 24 T0)))), (r 16, .inl (cI, 12, .inl (aN (sp_it zr1 i R0))))])) n (fun i hi ih => ?_) 0 (Nat.zero_le _)
    refine z_iload_n hX 1 dM_layLinks_136 rfl rfl ?_
    refine z_aload_n hX 0 dM_layLinks_137 rfl rfl ?_
    refine z_get hX 0 0 rfl rfl (zu inM) (by decide) (List.mem_cons_of_mem _ mw_552) rfl dM_layLinks_138 ?_
    refine z_icmp_geN hX 166 (by omega) (by omega) dM_layLinks_141 rfl (fun h141 => ?_) (fun h141 => ?_)
    · have hin : i = n := by omega
      rw [hin]
      refine z_iconst hX (nI 0) dM_layLinks_166 rfl ?_
      refine z_istore_n hX 1 dM_layLinks_167 rfl (by decide) ?_
      refine zloop (P := fun j => Z 0 0 168 [some (.ref ax), some (.int (nI j)), none] [] ([mO ax r (n) (m) (sl) (pr) (wy) (fo) (ru) (pl) (pk) (rs) (es), (r 2, .inl (cI, 24, .inl (aN (fr)))), (r 3, .inl (cI, 24, .inl (aN (to)))), (r 8, .inl (cZ, 24, .inl (aB (bk)))), (r 13, .inl (cZ, 48, .inl (aB (sp_it (zl (fun _ => true) (fun i => decide (i < m)) (fun i => decide (i < m) && bk i)) 24 I0)))), (r 14, .inl (cI, 48, .inl (aN (sp_it (zl (fun i => decide (i < m)) fr (fun _ => 0)) 24 F0)))), (r 15, .inl (cI, 48, .inl (aN (sp_it (zl (fun i => decide (i < m)) (fun i => if bk i = true then 1 else to i) to) 24 T0)))), (r 16, .inl (cI, 12, .inl (aN (sp_it (fun _ R => sp_it (zlr (sp_it (zl (fun _ => true) (fun i => decide (i < m)) (fun i => decide (i < m) && bk i)) 24 I0) (sp_it (zl (fun i => decide (i < m)) fr (fun _ => 0)) 24 F0) (sp_it (zl (fun i => decide (i < m)) (fun i => if bk i = true then 1 else to i) to) 24 T0)) n R) j (sp_it zr1 n R0)))))])) n (fun j hj ih => ?_) 0 (Nat.zero_le _)
      refine z_iload_n hX 1 dM_layLinks_168 rfl rfl ?_
      refine z_aload_n hX 0 dM_layLinks_169 rfl rfl ?_
      refine z_get hX 0 0 rfl rfl (zu inM) (by decide) (List.mem_cons_of_mem _ mw_552) rfl dM_layLinks_170 ?_
      refine z_icmp_geN hX 220 (by omega) (by omega) dM_layLinks_173 rfl (fun h173 => ?_) (fun h173 => ?_)
      · refine z_vret hX rfl rfl rfl dM_layLinks_220 ?_
        have hjn : j = n := by omega
        rw [hjn]
        exact ⟨rfl, rfl⟩
      · refine z_iconst hX (nI 0) dM_layLinks_176 rfl ?_
        refine z_istore_n hX 2 dM_layLinks_177 rfl (by decide) ?_
        refine zloop (P := fun b => Z 0 0 178 [some (.ref ax), some (.int (nI j)), some (.int (nI b))] [] ([mO ax r (n) (m) (sl) (pr) (wy) (fo) (ru) (pl) (pk) (rs) (es), (r 2, .inl (cI, 24, .inl (aN (fr)))), (r 3, .inl (cI, 24, .inl (aN (to)))), (r 8, .inl (cZ, 24, .inl (aB (bk)))), (r 13, .inl (cZ, 48, .inl (aB (sp_it (zl (fun _ => true) (fun i => decide (i < m)) (fun i => decide (i < m) && bk i)) 24 I0)))), (r 14, .inl (cI, 48, .inl (aN (sp_it (zl (fun i => decide (i < m)) fr (fun _ => 0)) 24 F0)))), (r 15, .inl (cI, 48, .inl (aN (sp_it (zl (fun i => decide (i < m)) (fun i => if bk i = true then 1 else to i) to) 24 T0)))), (r 16, .inl (cI, 12, .inl (aN (sp_it (zlr (sp_it (zl (fun _ => true) (fun i => decide (i < m)) (fun i => decide (i < m) && bk i)) 24 I0) (sp_it (zl (fun i => decide (i < m)) fr (fun _ => 0)) 24 F0) (sp_it (zl (fun i => decide (i < m)) (fun i => if bk i = true then 1 else to i) to) 24 T0)) b (sp_it (fun _ R => sp_it (zlr (sp_it (zl (fun _ => true) (fun i => decide (i < m)) (fun i => decide (i < m) && bk i)) 24 I0) (sp_it (zl (fun i => decide (i < m)) fr (fun _ => 0)) 24 F0) (sp_it (zl (fun i => decide (i < m)) (fun i => if bk i = true then 1 else to i) to) 24 T0)) n R) j (sp_it zr1 n R0))))))])) n (fun b hb ih2 => ?_) 0 (Nat.zero_le _)
        refine z_iload_n hX 2 dM_layLinks_178 rfl rfl ?_
        refine z_aload_n hX 0 dM_layLinks_179 rfl rfl ?_
        refine z_get hX 0 0 rfl rfl (zu inM) (by decide) (List.mem_cons_of_mem _ mw_552) rfl dM_layLinks_180 ?_
        refine z_icmp_geN hX 214 (by omega) (by omega) dM_layLinks_183 rfl (fun h183 => ?_) (fun h183 => ?_)
        · have hbn : b = n := by omega
          rw [hbn]
          refine z_iinc hX 1 dM_layLinks_214 rfl (zi_1 _) (by decide) ?_
          refine z_goto hX 168 dM_layLinks_217 rfl ?_
          exact z_le2 hX (ih (by omega)) (And.intro rfl (And.intro rfl trivial))
        · refine z_aload_n hX 0 dM_layLinks_186 rfl rfl ?_
          refine z_get hX 0 16 rfl rfl (zu inM) (by decide) (List.mem_cons_of_mem _ mw_568) rfl dM_layLinks_187 ?_
          refine z_iload_n hX 2 dM_layLinks_190 rfl rfl ?_
          refine z_iload_n hX 2 dM_layLinks_191 rfl rfl ?_
          refine z_iconst hX (nI 1) dM_layLinks_192 rfl ?_
          refine z_icmp_neN hX 200 (by omega) (by omega) dM_layLinks_193 rfl (fun h193 => ?_) (fun h193 => ?_)
          · have hs : sp_it (zlr (sp_it (zl (fun _ => true) (fun i => decide (i < m)) (fun i => decide (i < m) && bk i)) 24 I0) (sp_it (zl (fun i => decide (i < m)) fr (fun _ => 0)) 24 F0) (sp_it (zl (fun i => decide (i < m)) (fun i => if bk i = true then 1 else to i) to) 24 T0)) (b + 1) (sp_it (fun _ R => sp_it (zlr (sp_it (zl (fun _ => true) (fun i => decide (i < m)) (fun i => decide (i < m) && bk i)) 24 I0) (sp_it (zl (fun i => decide (i < m)) fr (fun _ => 0)) 24 F0) (sp_it (zl (fun i => decide (i < m)) (fun i => if bk i = true then 1 else to i) to) 24 T0)) n R) j (sp_it zr1 n R0)) = va_up (sp_it (zlr (sp_it (zl (fun _ => true) (fun i => decide (i < m)) (fun i => decide (i < m) && bk i)) 24 I0) (sp_it (zl (fun i => decide (i < m)) fr (fun _ => 0)) 24 F0) (sp_it (zl (fun i => decide (i < m)) (fun i => if bk i = true then 1 else to i) to) 24 T0)) b (sp_it (fun _ R => sp_it (zlr (sp_it (zl (fun _ => true) (fun i => decide (i < m)) (fun i => decide (i < m) && bk i)) 24 I0) (sp_it (zl (fun i => decide (i < m)) fr (fun _ => 0)) 24 F0) (sp_it (zl (fun i => decide (i < m)) (fun i => if bk i = true then 1 else to i) to) 24 T0)) n R) j (sp_it zr1 n R0))) b (sw_W (sp_it (zl (fun _ => true) (fun i => decide (i < m)) (fun i => decide (i < m) && bk i)) 24 I0) (sp_it (zl (fun i => decide (i < m)) fr (fun _ => 0)) 24 F0) (sp_it (zl (fun i => decide (i < m)) (fun i => if bk i = true then 1 else to i) to) 24 T0) (sp_it (zlr (sp_it (zl (fun _ => true) (fun i => decide (i < m)) (fun i => decide (i < m) && bk i)) 24 I0) (sp_it (zl (fun i => decide (i < m)) fr (fun _ => 0)) 24 F0) (sp_it (zl (fun i => decide (i < m)) (fun i => if bk i = true then 1 else to i) to) 24 T0)) b (sp_it (fun _ R => sp_it (zlr (sp_it (zl (fun _ => true) (fun i => decide (i < m)) (fun i => decide (i < m) && bk i)) 24 I0) (sp_it (zl (fun i => decide (i < m)) fr (fun _ => 0)) 24 F0) (sp_it (zl (fun i => decide (i < m)) (fun i => if bk i = true then 1 else to i) to) 24 T0)) n R) j (sp_it zr1 n R0))) b 48) := by show va_up _ b (if b = 1 then 1 else _) = _; rw [if_neg h193]
            refine z_aload_n hX 0 dM_layLinks_200 rfl rfl ?_
            refine z_iload_n hX 2 dM_layLinks_201 rfl rfl ?_
            refine z_bipush hX (nI 48) dM_layLinks_202 (by decide) ?_
            refine z_Vr hX (kM_rowsBefore l D cI cZ ax r n m sl pr wy fo ru pl pk rs es (sp_it (zl (fun _ => true) (fun i => decide (i < m)) (fun i => decide (i < m) && bk i)) 24 I0) (sp_it (zl (fun i => decide (i < m)) fr (fun _ => 0)) 24 F0) (sp_it (zl (fun i => decide (i < m)) (fun i => if bk i = true then 1 else to i) to) 24 T0) (sp_it (zlr (sp_it (zl (fun _ => true) (fun i => decide (i < m)) (fun i => decide (i < m) && bk i)) 24 I0) (sp_it (zl (fun i => decide (i < m)) fr (fun _ => 0)) 24 F0) (sp_it (zl (fun i => decide (i < m)) (fun i => if bk i = true then 1 else to i) to) 24 T0)) b (sp_it (fun _ R => sp_it (zlr (sp_it (zl (fun _ => true) (fun i => decide (i < m)) (fun i => decide (i < m) && bk i)) 24 I0) (sp_it (zl (fun i => decide (i < m)) fr (fun _ => 0)) 24 F0) (sp_it (zl (fun i => decide (i < m)) (fun i => if bk i = true then 1 else to i) to) 24 T0)) n R) j (sp_it zr1 n R0))) b 48 (by omega) (Nat.le_refl _) hlk) mw_699 mw_701 mp_2_12 mw_9 mw_702 rfl rfl ⟨rfl, by decide, by decide, rfl⟩ (by decide) 0 rfl rfl rfl rfl (Nat.le_of_ble_eq_true rfl) dM_layLinks_204 (by decide) [0, 4, 5, 6, 7] rfl rfl (fun v wn hv => ?_)
            obtain ⟨rfl, rfl⟩ := hv
            refine ⟨rfl, ?_⟩
            refine z_stN hX 7 0 _ _ rfl rfl rfl rfl (by omega) (by decide) dM_layLinks_207 ?_
            refine z_iinc hX 2 dM_layLinks_208 rfl (zi_1 _) (by decide) ?_
            refine z_goto hX 178 dM_layLinks_211 rfl ?_
            have hz := ih2 (by omega)
            rw [hs] at hz
            exact hz
          · have hs : sp_it (zlr (sp_it (zl (fun _ => true) (fun i => decide (i < m)) (fun i => decide (i < m) && bk i)) 24 I0) (sp_it (zl (fun i => decide (i < m)) fr (fun _ => 0)) 24 F0) (sp_it (zl (fun i => decide (i < m)) (fun i => if bk i = true then 1 else to i) to) 24 T0)) (b + 1) (sp_it (fun _ R => sp_it (zlr (sp_it (zl (fun _ => true) (fun i => decide (i < m)) (fun i => decide (i < m) && bk i)) 24 I0) (sp_it (zl (fun i => decide (i < m)) fr (fun _ => 0)) 24 F0) (sp_it (zl (fun i => decide (i < m)) (fun i => if bk i = true then 1 else to i) to) 24 T0)) n R) j (sp_it zr1 n R0)) = va_up (sp_it (zlr (sp_it (zl (fun _ => true) (fun i => decide (i < m)) (fun i => decide (i < m) && bk i)) 24 I0) (sp_it (zl (fun i => decide (i < m)) fr (fun _ => 0)) 24 F0) (sp_it (zl (fun i => decide (i < m)) (fun i => if bk i = true then 1 else to i) to) 24 T0)) b (sp_it (fun _ R => sp_it (zlr (sp_it (zl (fun _ => true) (fun i => decide (i < m)) (fun i => decide (i < m) && bk i)) 24 I0) (sp_it (zl (fun i => decide (i < m)) fr (fun _ => 0)) 24 F0) (sp_it (zl (fun i => decide (i < m)) (fun i => if bk i = true then 1 else to i) to) 24 T0)) n R) j (sp_it zr1 n R0))) b 1 := by show va_up _ b (if b = 1 then 1 else _) = _; rw [if_pos h193]
            refine z_iconst hX (nI 1) dM_layLinks_196 rfl ?_
            refine z_goto hX 207 dM_layLinks_197 rfl ?_
            refine z_stN hX 7 0 _ _ rfl rfl rfl rfl (by omega) (by decide) dM_layLinks_207 ?_
            refine z_iinc hX 2 dM_layLinks_208 rfl (zi_1 _) (by decide) ?_
            refine z_goto hX 178 dM_layLinks_211 rfl ?_
            have hz := ih2 (by omega)
            rw [hs] at hz
            exact hz
    · refine z_aload_n hX 0 dM_layLinks_144 rfl rfl ?_
      refine z_get hX 0 16 rfl rfl (zu inM) (by decide) (List.mem_cons_of_mem _ mw_568) rfl dM_layLinks_145 ?_
      refine z_iload_n hX 1 dM_layLinks_148 rfl rfl ?_
      refine z_iload_n hX 1 dM_layLinks_149 rfl rfl ?_
      refine z_iconst hX (nI 1) dM_layLinks_150 rfl ?_
      refine z_icmp_neN hX 158 (by omega) (by omega) dM_layLinks_151 rfl (fun h151 => ?_) (fun h151 => ?_)
      · have hs : sp_it zr1 (i + 1) R0 = va_up (sp_it zr1 i R0) i 0 := by show va_up _ i (if i = 1 then 1 else 0) = _; rw [if_neg h151]
        refine z_iconst hX (nI 0) dM_layLinks_158 rfl ?_
        refine z_stN hX 7 0 _ _ rfl rfl rfl rfl (by omega) (by decide) dM_layLinks_159 ?_
        refine z_iinc hX 1 dM_layLinks_160 rfl (zi_1 _) (by decide) ?_
        refine z_goto hX 136 dM_layLinks_163 rfl ?_
        have hz := ih (by omega)
        rw [hs] at hz
        exact hz
      · have hs : sp_it zr1 (i + 1) R0 = va_up (sp_it zr1 i R0) i 1 := by show va_up _ i (if i = 1 then 1 else 0) = _; rw [if_pos h151]
        refine z_iconst hX (nI 1) dM_layLinks_154 rfl ?_
        refine z_goto hX 159 dM_layLinks_155 rfl ?_
        refine z_stN hX 7 0 _ _ rfl rfl rfl rfl (by omega) (by decide) dM_layLinks_159 ?_
        refine z_iinc hX 1 dM_layLinks_160 rfl (zi_1 _) (by decide) ?_
        refine z_goto hX 136 dM_layLinks_163 rfl ?_
        have hz := ih (by omega)
        rw [hs] at hz
        exact hz
  · have cut26 : Z 0 0 26 [some (.ref ax), some (.int (nI i)), none] [.int (bN (decide (i < m))), .int (nI i), .ref (r 13)] ([mO ax r (n) (m) (sl) (pr) (wy) (fo) (ru) (pl) (pk) (rs) (es), (r 2, .inl (cI, 24, .inl (aN (fr)))), (r 3, .inl (cI, 24, .inl (aN (to)))), (r 8, .inl (cZ, 24, .inl (aB (bk)))), (r 13, .inl (cZ, 48, .inl (aB (sp_it (zl (fun _ => true) (fun i => decide (i < m)) (fun i => decide (i < m) && bk i)) i I0)))), (r 14, .inl (cI, 48, .inl (aN (sp_it (zl (fun i => decide (i < m)) fr (fun _ => 0)) i F0)))), (r 15, .inl (cI, 48, .inl (aN (sp_it (zl (fun i => decide (i < m)) (fun i => if bk i = true then 1 else to i) to) i T0)))), (r 16, .inl (cI, 12, .inl (aN (R0))))]) := by
      refine z_stB hX 4 1 _ _ rfl rfl rfl rfl (by omega) (by decide) dM_layLinks_26 ?_
      have cut57 : Z 0 0 57 [some (.ref ax), some (.int (nI i)), none] [.int (bN (decide (i < m) && bk i)), .int (nI (24 + i)), .ref (r 13)] ([mO ax r (n) (m) (sl) (pr) (wy) (fo) (ru) (pl) (pk) (rs) (es), (r 2, .inl (cI, 24, .inl (aN (fr)))), (r 3, .inl (cI, 24, .inl (aN (to)))), (r 8, .inl (cZ, 24, .inl (aB (bk)))), (r 13, .inl (cZ, 48, .inl (aB (va_up (sp_it (zl (fun _ => true) (fun i => decide (i < m)) (fun i => decide (i < m) && bk i)) i I0) i (decide (i < m)))))), (r 14, .inl (cI, 48, .inl (aN (sp_it (zl (fun i => decide (i < m)) fr (fun _ => 0)) i F0)))), (r 15, .inl (cI, 48, .inl (aN (sp_it (zl (fun i => decide (i < m)) (fun i => if bk i = true then 1 else to i) to) i T0)))), (r 16, .inl (cI, 12, .inl (aN (R0))))]) := by
        refine z_stB hX 4 1 _ _ rfl rfl rfl rfl (by omega) (by decide) dM_layLinks_57 ?_
        refine z_iload_n hX 1 dM_layLinks_58 rfl rfl ?_
        refine z_aload_n hX 0 dM_layLinks_59 rfl rfl ?_
        refine z_get hX 0 1 rfl rfl (zu inM) (by decide) (List.mem_cons_of_mem _ mw_553) rfl dM_layLinks_60 ?_
        refine z_icmp_geN hX 128 (by omega) (by omega) dM_layLinks_63 rfl (fun h63 => ?_) (fun h63 => ?_)
        · have hsI : sp_it (zl (fun _ => true) (fun i => decide (i < m)) (fun i => decide (i < m) && bk i)) (i + 1) I0 = va_up (va_up (sp_it (zl (fun _ => true) (fun i => decide (i < m)) (fun i => decide (i < m) && bk i)) i I0) i (decide (i < m))) (24 + i) (decide (i < m) && bk i) := zl_t _ _ _ _ _ rfl
          have hsF : sp_it (zl (fun i => decide (i < m)) fr (fun _ => 0)) (i + 1) F0 = sp_it (zl (fun i => decide (i < m)) fr (fun _ => 0)) i F0 := if_neg (fun hc => absurd (of_decide_eq_true hc) (by omega))
          have hsT : sp_it (zl (fun i => decide (i < m)) (fun i => if bk i = true then 1 else to i) to) (i + 1) T0 = sp_it (zl (fun i => decide (i < m)) (fun i => if bk i = true then 1 else to i) to) i T0 := if_neg (fun hc => absurd (of_decide_eq_true hc) (by omega))
          refine z_iinc hX 1 dM_layLinks_128 rfl (zi_1 _) (by decide) ?_
          refine z_goto hX 2 dM_layLinks_131 rfl ?_
          have hz := ih (by omega)
          rw [hsI, hsF, hsT] at hz
          exact hz
        · have hoki := hok i (by omega)
          have hsI : sp_it (zl (fun _ => true) (fun i => decide (i < m)) (fun i => decide (i < m) && bk i)) (i + 1) I0 = va_up (va_up (sp_it (zl (fun _ => true) (fun i => decide (i < m)) (fun i => decide (i < m) && bk i)) i I0) i (decide (i < m))) (24 + i) (decide (i < m) && bk i) := zl_t _ _ _ _ _ rfl
          have hsF : sp_it (zl (fun i => decide (i < m)) fr (fun _ => 0)) (i + 1) F0 = va_up (va_up (sp_it (zl (fun i => decide (i < m)) fr (fun _ => 0)) i F0) i (fr i)) (24 + i) 0 := if_pos (decide_eq_true (by omega))
          have hsT : sp_it (zl (fun i => decide (i < m)) (fun i => if bk i = true then 1 else to i) to) (i + 1) T0 = va_up (va_up (sp_it (zl (fun i => decide (i < m)) (fun i => if bk i = true then 1 else to i) to) i T0) i (if bk i = true then 1 else to i)) (24 + i) (to i) := if_pos (decide_eq_true (by omega))
          refine z_aload_n hX 0 dM_layLinks_66 rfl rfl ?_
          refine z_get hX 0 14 rfl rfl (zu inM) (by decide) (List.mem_cons_of_mem _ mw_566) rfl dM_layLinks_67 ?_
          refine z_iload_n hX 1 dM_layLinks_70 rfl rfl ?_
          refine z_aload_n hX 0 dM_layLinks_71 rfl rfl ?_
          refine z_get hX 0 2 rfl rfl (zu inM) (by decide) (List.mem_cons_of_mem _ mw_554) rfl dM_layLinks_72 ?_
          refine z_iload_n hX 1 dM_layLinks_75 rfl rfl ?_
          refine z_ldN hX 1 0 _ rfl rfl rfl (by omega) (by decide) dM_layLinks_76 ?_
          refine z_stN hX 5 0 _ _ rfl rfl rfl rfl (by omega) (by decide) dM_layLinks_77 ?_
          have cut102 : Z 0 0 102 [some (.ref ax), some (.int (nI i)), none] [.int (nI (if bk i = true then 1 else to i)), .int (nI i), .ref (r 15)] ([mO ax r (n) (m) (sl) (pr) (wy) (fo) (ru) (pl) (pk) (rs) (es), (r 2, .inl (cI, 24, .inl (aN (fr)))), (r 3, .inl (cI, 24, .inl (aN (to)))), (r 8, .inl (cZ, 24, .inl (aB (bk)))), (r 13, .inl (cZ, 48, .inl (aB (va_up (va_up (sp_it (zl (fun _ => true) (fun i => decide (i < m)) (fun i => decide (i < m) && bk i)) i I0) i (decide (i < m))) (24 + i) (decide (i < m) && bk i))))), (r 14, .inl (cI, 48, .inl (aN (va_up (sp_it (zl (fun i => decide (i < m)) fr (fun _ => 0)) i F0) i (fr i))))), (r 15, .inl (cI, 48, .inl (aN (sp_it (zl (fun i => decide (i < m)) (fun i => if bk i = true then 1 else to i) to) i T0)))), (r 16, .inl (cI, 12, .inl (aN (R0))))]) := by
            refine z_stN hX 6 0 _ _ rfl rfl rfl rfl (by omega) (by decide) dM_layLinks_102 ?_
            refine z_aload_n hX 0 dM_layLinks_103 rfl rfl ?_
            refine z_get hX 0 14 rfl rfl (zu inM) (by decide) (List.mem_cons_of_mem _ mw_566) rfl dM_layLinks_104 ?_
            refine z_bipush hX (nI 24) dM_layLinks_107 (by decide) ?_
            refine z_iload_n hX 1 dM_layLinks_109 rfl rfl ?_
            refine z_iaddN hX dM_layLinks_110 ?_
            refine z_iconst hX (nI 0) dM_layLinks_111 rfl ?_
            refine z_stN hX 5 0 _ _ rfl rfl rfl rfl (by omega) (by decide) dM_layLinks_112 ?_
            refine z_aload_n hX 0 dM_layLinks_113 rfl rfl ?_
            refine z_get hX 0 15 rfl rfl (zu inM) (by decide) (List.mem_cons_of_mem _ mw_567) rfl dM_layLinks_114 ?_
            refine z_bipush hX (nI 24) dM_layLinks_117 (by decide) ?_
            refine z_iload_n hX 1 dM_layLinks_119 rfl rfl ?_
            refine z_iaddN hX dM_layLinks_120 ?_
            refine z_aload_n hX 0 dM_layLinks_121 rfl rfl ?_
            refine z_get hX 0 3 rfl rfl (zu inM) (by decide) (List.mem_cons_of_mem _ mw_555) rfl dM_layLinks_122 ?_
            refine z_iload_n hX 1 dM_layLinks_125 rfl rfl ?_
            refine z_ldN hX 2 0 _ rfl rfl rfl (by omega) (by decide) dM_layLinks_126 ?_
            refine z_stN hX 6 0 _ _ rfl rfl rfl rfl (by omega) (by decide) dM_layLinks_127 ?_
            refine z_iinc hX 1 dM_layLinks_128 rfl (zi_1 _) (by decide) ?_
            refine z_goto hX 2 dM_layLinks_131 rfl ?_
            have hz := ih (by omega)
            rw [hsI, hsF, hsT] at hz
            exact hz
          refine z_aload_n hX 0 dM_layLinks_78 rfl rfl ?_
          refine z_get hX 0 15 rfl rfl (zu inM) (by decide) (List.mem_cons_of_mem _ mw_567) rfl dM_layLinks_79 ?_
          refine z_iload_n hX 1 dM_layLinks_82 rfl rfl ?_
          refine z_aload_n hX 0 dM_layLinks_83 rfl rfl ?_
          refine z_get hX 0 8 rfl rfl (zu inM) (by decide) (List.mem_cons_of_mem _ mw_560) rfl dM_layLinks_84 ?_
          refine z_iload_n hX 1 dM_layLinks_87 rfl rfl ?_
          refine z_ldB hX 3 1 _ rfl rfl rfl (by omega) (by decide) dM_layLinks_88 ?_
          refine z_if_eqB hX 96 dM_layLinks_89 rfl (fun h89 => ?_) (fun h89 => ?_)
          · have hr : (if bk i = true then 1 else to i) = to i := if_neg (by rw [h89]; decide)
            refine z_aload_n hX 0 dM_layLinks_96 rfl rfl ?_
            refine z_get hX 0 3 rfl rfl (zu inM) (by decide) (List.mem_cons_of_mem _ mw_555) rfl dM_layLinks_97 ?_
            refine z_iload_n hX 1 dM_layLinks_100 rfl rfl ?_
            refine z_ldN hX 2 0 _ rfl rfl rfl (by omega) (by decide) dM_layLinks_101 ?_
            rw [hr] at cut102
            exact cut102
          · have hr : (if bk i = true then 1 else to i) = 1 := if_pos h89
            refine z_iconst hX (nI 1) dM_layLinks_92 rfl ?_
            refine z_goto hX 102 dM_layLinks_93 rfl ?_
            rw [hr] at cut102
            exact cut102
      refine z_aload_n hX 0 dM_layLinks_27 rfl rfl ?_
      refine z_get hX 0 13 rfl rfl (zu inM) (by decide) (List.mem_cons_of_mem _ mw_565) rfl dM_layLinks_28 ?_
      refine z_bipush hX (nI 24) dM_layLinks_31 (by decide) ?_
      refine z_iload_n hX 1 dM_layLinks_33 rfl rfl ?_
      refine z_iaddN hX dM_layLinks_34 ?_
      refine z_iload_n hX 1 dM_layLinks_35 rfl rfl ?_
      refine z_aload_n hX 0 dM_layLinks_36 rfl rfl ?_
      refine z_get hX 0 1 rfl rfl (zu inM) (by decide) (List.mem_cons_of_mem _ mw_553) rfl dM_layLinks_37 ?_
      refine z_icmp_geN hX 56 (by omega) (by omega) dM_layLinks_40 rfl (fun h40 => ?_) (fun h40 => ?_)
      · have hr : (decide (i < m) && bk i) = false := by rw [decide_eq_false (by omega)]; rfl
        refine z_iconst hX (bN false) dM_layLinks_56 rfl ?_
        rw [hr] at cut57
        exact cut57
      · refine z_aload_n hX 0 dM_layLinks_43 rfl rfl ?_
        refine z_get hX 0 8 rfl rfl (zu inM) (by decide) (List.mem_cons_of_mem _ mw_560) rfl dM_layLinks_44 ?_
        refine z_iload_n hX 1 dM_layLinks_47 rfl rfl ?_
        refine z_ldB hX 3 1 _ rfl rfl rfl (by omega) (by decide) dM_layLinks_48 ?_
        refine z_if_eqB hX 56 dM_layLinks_49 rfl (fun h49 => ?_) (fun h49 => ?_)
        · have hr : (decide (i < m) && bk i) = false := by rw [h49, Bool.and_false]
          refine z_iconst hX (bN false) dM_layLinks_56 rfl ?_
          rw [hr] at cut57
          exact cut57
        · have hr : (decide (i < m) && bk i) = true := by rw [decide_eq_true (show i < m by omega), h49]; rfl
          refine z_iconst hX (bN true) dM_layLinks_52 rfl ?_
          refine z_goto hX 57 dM_layLinks_53 rfl ?_
          rw [hr] at cut57
          exact cut57
    refine z_aload_n hX 0 dM_layLinks_8 rfl rfl ?_
    refine z_get hX 0 13 rfl rfl (zu inM) (by decide) (List.mem_cons_of_mem _ mw_565) rfl dM_layLinks_9 ?_
    refine z_iload_n hX 1 dM_layLinks_12 rfl rfl ?_
    refine z_iload_n hX 1 dM_layLinks_13 rfl rfl ?_
    refine z_aload_n hX 0 dM_layLinks_14 rfl rfl ?_
    refine z_get hX 0 1 rfl rfl (zu inM) (by decide) (List.mem_cons_of_mem _ mw_553) rfl dM_layLinks_15 ?_
    refine z_icmp_geN hX 25 (by omega) (by omega) dM_layLinks_18 rfl (fun h18 => ?_) (fun h18 => ?_)
    · have hr : decide (i < m) = false := decide_eq_false (by omega)
      refine z_iconst hX (bN false) dM_layLinks_25 rfl ?_
      rw [hr] at cut26
      exact cut26
    · have hr : decide (i < m) = true := decide_eq_true h18
      refine z_iconst hX (bN true) dM_layLinks_21 rfl ?_
      refine z_goto hX 26 dM_layLinks_22 rfl ?_
      rw [hr] at cut26
      exact cut26

