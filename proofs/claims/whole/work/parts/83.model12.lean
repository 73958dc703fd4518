/-! the reference: complete, advance -/
theorem znat {P : Nat → Prop} (h : ∀ k, (∀ j, j < k → P j) → P k) (k : Nat) : P k := Nat.strongRecOn k h
def znx (isL : Nat → Bool) (lf : Nat → Nat) (b t : Nat) : Nat := sl_nx (zlk isL lf b) (48 - t) t
theorem znx_in {isL : Nat → Bool} {lf : Nat → Nat} {b t : Nat} (ht : t ≤ 48) (h : znx isL lf b t < 48) : isL (znx isL lf b t) = true ∧ lf (znx isL lf b t) = b := by
  obtain ⟨_, _, _, a4⟩ := sl_nx_spec (zlk isL lf b) (48 - t) t
  have h1 : zlk isL lf b (znx isL lf b t) = true := a4 (by unfold znx at h; omega)
  have h2 := (Bool.and_eq_true _ _).mp h1
  exact ⟨h2.1, of_decide_eq_true h2.2⟩
theorem znx_lt {isL : Nat → Bool} {lf : Nat → Nat} {b : Nat} (h : ∃ l, l < 48 ∧ isL l = true ∧ lf l = b) : znx isL lf b 0 < 48 := by
  obtain ⟨l, h1, h2, h3⟩ := h
  obtain ⟨_, a2, a3, _⟩ := sl_nx_spec (zlk isL lf b) (48 - 0) 0
  by_cases hc : znx isL lf b 0 < 48
  · exact hc
  · have h5 := a3 l (by omega) (by unfold znx at hc; omega)
    rw [show zlk isL lf b l = true by simp [zlk, h2, h3]] at h5
    cases h5
def zcm (isL : Nat → Bool) (lf lt : Nat → Nat) : Nat → Nat → Nat → (Nat → Nat) → Nat × (Nat → Nat)
  | 0, _, f, u => (f, u)
  | k + 1, b, f, u => if b = 1 then (f, u) else zcm isL lf lt k (lt (znx isL lf b 0)) (f + 1) (va_up u f (znx isL lf b 0))
theorem zcm_1 (isL : Nat → Bool) (lf lt : Nat → Nat) (k f : Nat) (u : Nat → Nat) : zcm isL lf lt k 1 f u = (f, u) := by
  cases k with
  | zero => rfl
  | succ k => exact if_pos rfl
theorem zcm_s {isL : Nat → Bool} {lf lt : Nat → Nat} {k b f : Nat} {u : Nat → Nat} (hb : b ≠ 1) : zcm isL lf lt (k + 1) b f u = zcm isL lf lt k (lt (znx isL lf b 0)) (f + 1) (va_up u f (znx isL lf b 0)) := if_neg hb
def zb1 (lt : Nat → Nat) (f : Nat) (u : Nat → Nat) : Nat := if f = 0 then 0 else lt (u (f - 1))
theorem zb1_s (lt : Nat → Nat) (f : Nat) (u : Nat → Nat) (q : Nat) : zb1 lt (f + 1) (va_up u f q) = lt q := by
  show lt (va_up u f q (f + 1 - 1)) = _
  rw [Nat.add_sub_cancel, sp_up_s]
def zav (isL : Nat → Bool) (lf lt : Nat → Nat) : Nat → (Nat → Nat) → Bool × Nat × (Nat → Nat)
  | 0, u => (false, 0, u)
  | f + 1, u => if znx isL lf (lf (u f)) (u f + 1) < 48 then (true, zcm isL lf lt 16 (zb1 lt (f + 1) (va_up u f (znx isL lf (lf (u f)) (u f + 1)))) (f + 1) (va_up u f (znx isL lf (lf (u f)) (u f + 1)))) else zav isL lf lt f u
set_option maxHeartbeats 400000 in
set_option maxRecDepth 100000 in
theorem kM_complete (l : Launch) (D : va_G) (cI cZ : ClassId) (ax : Nat) (r : Nat → Nat) (n m : Nat) (sl : Bool) (pr wy fo : Nat) (ru : Bool) (pl pk : Nat) (rs es : Int) (isL : Nat → Bool) (lf lt : Nat → Nat) (rk : Nat → Nat) (tr : Nat → Nat) (hn : n ≤ 12) (hlk : ∀ l, l < 48 → isL l = true → lf l < n ∧ lt l < n ∧ rk (lt l) < rk (lf l)) (hout : ∀ b, b < n → b ≠ 1 → ∃ l, l < 48 ∧ isL l = true ∧ lf l = b) (hfo : fo ≤ 16) (htr : fo ≠ 0 → tr (fo - 1) < 48) (hb0 : zb1 lt fo tr < n) (hb1 : fo + rk (zb1 lt fo tr) ≤ 16) : zM l yM_complete wM_complete rM_complete D zCl (zTy cI cZ) zNW 0 0 [.ref ax] ([mO ax r (n) (m) (sl) (pr) (wy) (fo) (ru) (pl) (pk) (rs) (es), (r 13, .inl (cZ, 48, .inl (aB (isL)))), (r 14, .inl (cI, 48, .inl (aN (lf)))), (r 15, .inl (cI, 48, .inl (aN (lt)))), (r 27, .inl (cI, 16, .inl (aN (tr))))]) (fun v wn => v = none ∧ wn = [mO ax r (n) (m) (sl) (pr) (wy) ((zcm isL lf lt 16 (zb1 lt fo tr) fo tr).1) (ru) (pl) (pk) (rs) (es), (r 13, .inl (cZ, 48, .inl (aB (isL)))), (r 14, .inl (cI, 48, .inl (aN (lf)))), (r 15, .inl (cI, 48, .inl (aN (lt)))), (r 27, .inl (cI, 16, .inl (aN ((zcm isL lf lt 16 (zb1 lt fo tr) fo tr).2))))]) := by
  refine z_met2 cM_complete 3 none rfl rfl (Nat.le_of_ble_eq_true rfl) rfl (fun Z hX => ?_)
  show Z 0 0 0 [some (.ref ax), none, none] [] ([mO ax r (n) (m) (sl) (pr) (wy) (fo) (ru) (pl) (pk) (rs) (es), (r 13, .inl (cZ, 48, .inl (aB (isL)))), (r 14, .inl (cI, 48, .inl (aN (lf)))), (r 15, .inl (cI, 48, .inl (aN (lt)))), (r 27, .inl (cI, 16, .inl (aN (tr))))])
  have cut27 : Z 0 0 27 [some (.ref ax), none, none] [.int (nI (zb1 lt fo tr))] ([mO ax r (n) (m) (sl) (pr) (wy) (fo) (ru) (pl) (pk) (rs) (es), (r 13, .inl (cZ, 48, .inl (aB (isL)))), (r 14, .inl (cI, 48, .inl (aN (lf)))), (r 15, .inl (cI, 48, .inl (aN (lt)))), (r 27, .inl (cI, 16, .inl (aN (tr))))]) := by
    refine z_istore_n hX 1 dM_complete_27 rfl (by decide) ?_
    have hloop : ∀ k, ∀ b f u, rk b ≤ k → b < n → f + rk b ≤ 16 → zcm isL lf lt k b f u = zcm isL lf lt 16 (zb1 lt fo tr) fo tr → Z 0 0 28 [some (.ref ax), some (.int (nI b)), none] [] ([mO ax r (n) (m) (sl) (pr) (wy) (f) (ru) (pl) (pk) (rs) (es), (r 13, .inl (cZ, 48, .inl (aB (isL)))), (r 14, .inl (cI, 48, .inl (aN (lf)))), (r 15, .inl (cI, 48, .inl (aN (lt)))), (r 27, .inl (cI, 16, .inl (aN (u))))]) := by
      refine znat (P := fun k => ∀ b f u, rk b ≤ k → b < n → f + rk b ≤ 16 → zcm isL lf lt k b f u = zcm isL lf lt 16 (zb1 lt fo tr) fo tr → Z 0 0 28 [some (.ref ax), some (.int (nI b)), none] [] ([mO ax r (n) (m) (sl) (pr) (wy) (f) (ru) (pl) (pk) (rs) (es), (r 13, .inl (cZ, 48, .inl (aB (isL)))), (r 14, .inl (cI, 48, .inl (aN (lf)))), (r 15, .inl (cI, 48, .inl (aN (lt)))), (r 27, .inl (cI, 16, .inl (aN (u))))])) (fun k ih => ?_)
      intro b f u h1 h2 h3 hg
      refine z_iload_n hX 1 dM_complete_28 rfl rfl ?_
      refine z_iconst hX (nI 1) dM_complete_29 rfl ?_
      refine z_icmp_eqN hX 70 (by omega) (by omega) dM_complete_30 rfl (fun h30 => ?_) (fun h30 => ?_)
      · rw [h30, zcm_1] at hg
        refine z_vret hX rfl rfl rfl dM_complete_70 ?_
        rw [← hg]
        exact ⟨rfl, rfl⟩
      · have hlk1 : ∀ l, l < 48 → isL l = true → lf l < 2147483648 := fun l a c => by have := hlk l a c; omega
        have hnl := znx_lt (hout b h2 h30)
        obtain ⟨n1, n2⟩ := znx_in (isL := isL) (lf := lf) (b := b) (t := 0) (by omega) hnl
        obtain ⟨n3, n4, n5⟩ := hlk _ hnl n1
        rw [n2] at n5
        obtain ⟨k1, hk1⟩ : ∃ k1, k = k1 + 1 := ⟨k - 1, by omega⟩
        have hg2 : zcm isL lf lt k1 (lt (znx isL lf b 0)) (f + 1) (va_up u f (znx isL lf b 0)) = zcm isL lf lt 16 (zb1 lt fo tr) fo tr := by rw [← hg, hk1, zcm_s h30]
        refine z_aload_n hX 0 dM_complete_33 rfl rfl ?_
        refine z_iload_n hX 1 dM_complete_34 rfl rfl ?_
        refine z_iconst hX (zL 0) dM_complete_35 rfl ?_
        refine z_Vr hX (kM_linkAfter l D cI cZ ax r (n) (m) (sl) (pr) (wy) (f) (ru) (pl) (pk) (rs) (es) isL lf b 0 (by omega) (by omega) hlk1) mw_743 mw_745 mp_3_7 mw_9 mw_746 rfl rfl ⟨rfl, by decide, by decide, rfl⟩ (by decide) 0 rfl rfl rfl rfl (Nat.le_of_ble_eq_true rfl) dM_complete_36 (by decide) [0, 1, 2] rfl rfl (fun v wn hv => ?_)
        obtain ⟨rfl, rfl⟩ := hv
        refine ⟨rfl, ?_⟩
        rw [show sl_nx (zlk isL lf b) (48 - 0) 0 = znx isL lf b 0 from rfl]
        refine z_istore_n hX 2 dM_complete_39 rfl (by decide) ?_
        refine z_aload_n hX 0 dM_complete_40 rfl rfl ?_
        refine z_get hX 0 27 rfl rfl (zu inM) (by decide) (List.mem_cons_of_mem _ mw_579) rfl dM_complete_41 ?_
        refine z_aload_n hX 0 dM_complete_44 rfl rfl ?_
        refine z_get hX 0 26 rfl rfl (zu inM) (by decide) (List.mem_cons_of_mem _ mw_578) rfl dM_complete_45 ?_
        refine z_iload_n hX 2 dM_complete_48 rfl rfl ?_
        refine z_stN hX 4 0 _ _ rfl rfl rfl rfl (by omega) (by decide) dM_complete_49 ?_
        refine z_aload_n hX 0 dM_complete_50 rfl rfl ?_
        refine z_aload_n hX 0 dM_complete_51 rfl rfl ?_
        refine z_get hX 0 26 rfl rfl (zu inM) (by decide) (List.mem_cons_of_mem _ mw_578) rfl dM_complete_52 ?_
        refine z_iconst hX (nI 1) dM_complete_55 rfl ?_
        refine z_iaddN hX dM_complete_56 ?_
        refine z_put hX 0 26 rfl rfl (zu inM) tyM tyM_ok nmM (by decide) (List.mem_cons_of_mem _ mw_578) (Or.inl rfl) rfl rfl rfl (Nat.le_of_ble_eq_true rfl) dM_complete_57 ?_
        refine z_aload_n hX 0 dM_complete_60 rfl rfl ?_
        refine z_get hX 0 15 rfl rfl (zu inM) (by decide) (List.mem_cons_of_mem _ mw_567) rfl dM_complete_61 ?_
        refine z_iload_n hX 2 dM_complete_64 rfl rfl ?_
        refine z_ldN hX 3 0 _ rfl rfl rfl (by omega) (by decide) dM_complete_65 ?_
        refine z_istore_n hX 1 dM_complete_66 rfl (by decide) ?_
        refine z_goto hX 28 dM_complete_67 rfl ?_
        exact z_le2 hX (ih k1 (by omega) _ _ _ (by omega) (by omega) (by omega) hg2) (And.intro rfl (And.intro rfl trivial))
    exact hloop 16 _ _ _ (by omega) hb0 hb1 rfl
  refine z_aload_n hX 0 dM_complete_0 rfl rfl ?_
  refine z_get hX 0 26 rfl rfl (zu inM) (by decide) (List.mem_cons_of_mem _ mw_578) rfl dM_complete_1 ?_
  refine z_if_ne hX 11 dM_complete_4 rfl (fun h4 => ?_) (fun h4 => ?_)
  · have hf0 : fo ≠ 0 := fun hc => h4 ((zi_eq0 (a := fo) (by omega)).mpr hc)
    have hr : zb1 lt fo tr = lt (tr (fo - 1)) := if_neg hf0
    have htr1 := htr hf0
    refine z_aload_n hX 0 dM_complete_11 rfl rfl ?_
    refine z_get hX 0 15 rfl rfl (zu inM) (by decide) (List.mem_cons_of_mem _ mw_567) rfl dM_complete_12 ?_
    refine z_aload_n hX 0 dM_complete_15 rfl rfl ?_
    refine z_get hX 0 27 rfl rfl (zu inM) (by decide) (List.mem_cons_of_mem _ mw_579) rfl dM_complete_16 ?_
    refine z_aload_n hX 0 dM_complete_19 rfl rfl ?_
    refine z_get hX 0 26 rfl rfl (zu inM) (by decide) (List.mem_cons_of_mem _ mw_578) rfl dM_complete_20 ?_
    refine z_iconst hX (nI 1) dM_complete_23 rfl ?_
    refine z_isubN hX (by omega) dM_complete_24 ?_
    refine z_ldN hX 4 0 _ rfl rfl rfl (by omega) (by decide) dM_complete_25 ?_
    refine z_ldN hX 3 0 _ rfl rfl rfl (by omega) (by decide) dM_complete_26 ?_
    rw [hr] at cut27
    exact cut27
  · have hr : zb1 lt fo tr = 0 := if_pos ((zi_eq0 (a := fo) (by omega)).mp h4)
    refine z_iconst hX (nI 0) dM_complete_7 rfl ?_
    refine z_goto hX 27 dM_complete_8 rfl ?_
    rw [hr] at cut27
    exact cut27

set_option maxHeartbeats 400000 in
set_option maxRecDepth 100000 in
theorem kM_advance (l : Launch) (D : va_G) (cI cZ : ClassId) (ax : Nat) (r : Nat → Nat) (n m : Nat) (sl : Bool) (pr wy fo : Nat) (ru : Bool) (pl pk : Nat) (rs es : Int) (isL : Nat → Bool) (lf lt : Nat → Nat) (rk : Nat → Nat) (tr : Nat → Nat) (hn : n ≤ 12) (hlk : ∀ l, l < 48 → isL l = true → lf l < n ∧ lt l < n ∧ rk (lt l) < rk (lf l)) (hout : ∀ b, b < n → b ≠ 1 → ∃ l, l < 48 ∧ isL l = true ∧ lf l = b) (hfo : fo ≤ 16) (htr : ∀ i, i < fo → tr i < 48 ∧ isL (tr i) = true ∧ i + rk (lf (tr i)) ≤ 16) : zM l yM_advance wM_advance rM_advance D zCl (zTy cI cZ) zNW 0 0 [.ref ax] ([mO ax r (n) (m) (sl) (pr) (wy) (fo) (ru) (pl) (pk) (rs) (es), (r 13, .inl (cZ, 48, .inl (aB (isL)))), (r 14, .inl (cI, 48, .inl (aN (lf)))), (r 15, .inl (cI, 48, .inl (aN (lt)))), (r 27, .inl (cI, 16, .inl (aN (tr))))]) (fun v wn => v = some (.int (bN (zav isL lf lt fo tr).1)) ∧ wn = [mO ax r (n) (m) (sl) (pr) (wy) ((zav isL lf lt fo tr).2.1) (ru) (pl) (pk) (rs) (es), (r 13, .inl (cZ, 48, .inl (aB (isL)))), (r 14, .inl (cI, 48, .inl (aN (lf)))), (r 15, .inl (cI, 48, .inl (aN (lt)))), (r 27, .inl (cI, 16, .inl (aN ((zav isL lf lt fo tr).2.2))))]) := by
  refine z_met2 cM_advance 3 (some .boolean) rfl rfl (Nat.le_of_ble_eq_true rfl) rfl (fun Z hX => ?_)
  show Z 0 0 0 [some (.ref ax), none, none] [] ([mO ax r (n) (m) (sl) (pr) (wy) (fo) (ru) (pl) (pk) (rs) (es), (r 13, .inl (cZ, 48, .inl (aB (isL)))), (r 14, .inl (cI, 48, .inl (aN (lf)))), (r 15, .inl (cI, 48, .inl (aN (lt)))), (r 27, .inl (cI, 16, .inl (aN (tr))))])
  have hloop : ∀ f, f ≤ fo → zav isL lf lt f tr = zav isL lf lt fo tr → Z 0 0 0 [some (.ref ax), none, none] [] ([mO ax r (n) (m) (sl) (pr) (wy) (f) (ru) (pl) (pk) (rs) (es), (r 13, .inl (cZ, 48, .inl (aB (isL)))), (r 14, .inl (cI, 48, .inl (aN (lf)))), (r 15, .inl (cI, 48, .inl (aN (lt)))), (r 27, .inl (cI, 16, .inl (aN (tr))))]) := by
    refine znat (P := fun f => f ≤ fo → zav isL lf lt f tr = zav isL lf lt fo tr → Z 0 0 0 [some (.ref ax), none, none] [] ([mO ax r (n) (m) (sl) (pr) (wy) (f) (ru) (pl) (pk) (rs) (es), (r 13, .inl (cZ, 48, .inl (aB (isL)))), (r 14, .inl (cI, 48, .inl (aN (lf)))), (r 15, .inl (cI, 48, .inl (aN (lt)))), (r 27, .inl (cI, 16, .inl (aN (tr))))])) (fun f ih => ?_)
    intro h1 hg
    refine z_aload_n hX 0 dM_advance_0 rfl rfl ?_
    refine z_get hX 0 26 rfl rfl (zu inM) (by decide) (List.mem_cons_of_mem _ mw_578) rfl dM_advance_1 ?_
    refine z_if_le hX 68 dM_advance_4 rfl (fun h4 => ?_) (fun h4 => ?_)
    · have hf0 := (zi_le0 (a := f) (by omega)).mp h4
      subst hf0
      refine z_iconst hX (bN false) dM_advance_68 rfl ?_
      refine z_iret hX rfl (bN_n _) rfl rfl dM_advance_69 ?_
      rw [← hg]
      exact ⟨rfl, rfl⟩
    · obtain ⟨g, hg0⟩ : ∃ g, f = g + 1 := by
        have hf1 : f ≠ 0 := fun hc => h4 ((zi_le0 (a := f) (by omega)).mpr hc)
        exact ⟨f - 1, by omega⟩
      subst hg0
      have htg := htr g (by omega)
      have hlg := hlk _ htg.1 htg.2.1
      have hlk1 : ∀ l, l < 48 → isL l = true → lf l < 2147483648 := fun l a c => by have := hlk l a c; omega
      refine z_aload_n hX 0 dM_advance_7 rfl rfl ?_
      refine z_get hX 0 27 rfl rfl (zu inM) (by decide) (List.mem_cons_of_mem _ mw_579) rfl dM_advance_8 ?_
      refine z_aload_n hX 0 dM_advance_11 rfl rfl ?_
      refine z_get hX 0 26 rfl rfl (zu inM) (by decide) (List.mem_cons_of_mem _ mw_578) rfl dM_advance_12 ?_
      refine z_iconst hX (nI 1) dM_advance_15 rfl ?_
      refine z_isubN hX (by omega) dM_advance_16 ?_
      rw [Nat.add_sub_cancel]
      refine z_ldN hX 4 0 _ rfl rfl rfl (by omega) (by decide) dM_advance_17 ?_
      refine z_istore_n hX 1 dM_advance_18 rfl (by decide) ?_
      refine z_aload_n hX 0 dM_advance_19 rfl rfl ?_
      refine z_aload_n hX 0 dM_advance_20 rfl rfl ?_
      refine z_get hX 0 14 rfl rfl (zu inM) (by decide) (List.mem_cons_of_mem _ mw_566) rfl dM_advance_21 ?_
      refine z_iload_n hX 1 dM_advance_24 rfl rfl ?_
      refine z_ldN hX 2 0 _ rfl rfl rfl (by omega) (by decide) dM_advance_25 ?_
      refine z_iload_n hX 1 dM_advance_26 rfl rfl ?_
      refine z_Vr hX (kM_linkAfter l D cI cZ ax r (n) (m) (sl) (pr) (wy) (g + 1) (ru) (pl) (pk) (rs) (es) isL lf (lf (tr g)) (tr g + 1) (by omega) (by omega) hlk1) mw_743 mw_745 mp_3_7 mw_9 mw_746 rfl rfl ⟨rfl, by decide, by decide, rfl⟩ (by decide) 0 rfl rfl rfl rfl (Nat.le_of_ble_eq_true rfl) dM_advance_27 (by decide) [0, 1, 2] rfl rfl (fun v wn hv => ?_)
      obtain ⟨rfl, rfl⟩ := hv
      refine ⟨rfl, ?_⟩
      rw [show sl_nx (zlk isL lf (lf (tr g))) (48 - (tr g + 1)) (tr g + 1) = znx isL lf (lf (tr g)) (tr g + 1) from rfl]
      refine z_istore_n hX 2 dM_advance_30 rfl (by decide) ?_
      have hNl : znx isL lf (lf (tr g)) (tr g + 1) ≤ 48 := by
        obtain ⟨_, a2, _, _⟩ := sl_nx_spec (zlk isL lf (lf (tr g))) (48 - (tr g + 1)) (tr g + 1)
        unfold znx
        omega
      refine z_iload_n hX 2 dM_advance_31 rfl rfl ?_
      refine z_bipush hX (nI 48) dM_advance_32 (by decide) ?_
      refine z_icmp_geN hX 55 (by omega) (by omega) dM_advance_34 rfl (fun h34 => ?_) (fun h34 => ?_)
      · have hg2 : zav isL lf lt g tr = zav isL lf lt fo tr := by
          rw [← hg]
          show _ = if znx isL lf (lf (tr g)) (tr g + 1) < 48 then _ else _
          rw [if_neg (by omega)]
        refine z_aload_n hX 0 dM_advance_55 rfl rfl ?_
        refine z_aload_n hX 0 dM_advance_56 rfl rfl ?_
        refine z_get hX 0 26 rfl rfl (zu inM) (by decide) (List.mem_cons_of_mem _ mw_578) rfl dM_advance_57 ?_
        refine z_iconst hX (nI 1) dM_advance_60 rfl ?_
        refine z_isubN hX (by omega) dM_advance_61 ?_
        rw [Nat.add_sub_cancel]
        refine z_put hX 0 26 rfl rfl (zu inM) tyM tyM_ok nmM (by decide) (List.mem_cons_of_mem _ mw_578) (Or.inl rfl) rfl rfl rfl (Nat.le_of_ble_eq_true rfl) dM_advance_62 ?_
        refine z_goto hX 0 dM_advance_65 rfl ?_
        exact z_le2 hX (ih g (by omega) (by omega) hg2) (And.intro rfl trivial)
      · obtain ⟨n1, n2⟩ := znx_in (isL := isL) (lf := lf) (b := lf (tr g)) (t := tr g + 1) (by omega) h34
        obtain ⟨n3, n4, n5⟩ := hlk _ h34 n1
        rw [n2] at n5
        have hr : zav isL lf lt fo tr = (true, zcm isL lf lt 16 (zb1 lt (g + 1) (va_up tr g (znx isL lf (lf (tr g)) (tr g + 1)))) (g + 1) (va_up tr g (znx isL lf (lf (tr g)) (tr g + 1)))) := hg.symm.trans (if_pos h34)
        refine z_aload_n hX 0 dM_advance_37 rfl rfl ?_
        refine z_get hX 0 27 rfl rfl (zu inM) (by decide) (List.mem_cons_of_mem _ mw_579) rfl dM_advance_38 ?_
        refine z_aload_n hX 0 dM_advance_41 rfl rfl ?_
        refine z_get hX 0 26 rfl rfl (zu inM) (by decide) (List.mem_cons_of_mem _ mw_578) rfl dM_advance_42 ?_
        refine z_iconst hX (nI 1) dM_advance_45 rfl ?_
        refine z_isubN hX (by omega) dM_advance_46 ?_
        rw [Nat.add_sub_cancel]
        refine z_iload_n hX 2 dM_advance_47 rfl rfl ?_
        refine z_stN hX 4 0 _ _ rfl rfl rfl rfl (by omega) (by decide) dM_advance_48 ?_
        refine z_aload_n hX 0 dM_advance_49 rfl rfl ?_
        refine z_Vy hX (kM_complete l D cI cZ ax r (n) (m) (sl) (pr) (wy) (g + 1) (ru) (pl) (pk) (rs) (es) isL lf lt rk (va_up tr g (znx isL lf (lf (tr g)) (tr g + 1))) hn hlk hout (by omega) (fun _ => by rw [Nat.add_sub_cancel, sp_up_s]; exact h34) (by rw [zb1_s]; exact n4) (by rw [zb1_s]; omega)) mw_739 mw_741 mp_3_6 mw_9 mw_742 rfl rfl ⟨rfl, by decide, by decide, rfl⟩ (by decide) 0 rfl rfl rfl rfl (Nat.le_of_ble_eq_true rfl) dM_advance_50 (by decide) [0, 1, 2, 3, 4] rfl rfl [] 5 (by decide) (by decide) (fun v wn hv => ?_)
        obtain ⟨rfl, rfl⟩ := hv
        refine ⟨[mO ax r (n) (m) (sl) (pr) (wy) ((zcm isL lf lt 16 (zb1 lt (g + 1) (va_up tr g (znx isL lf (lf (tr g)) (tr g + 1)))) (g + 1) (va_up tr g (znx isL lf (lf (tr g)) (tr g + 1)))).1) (ru) (pl) (pk) (rs) (es), (r 13, .inl (cZ, 48, .inl (aB (isL)))), (r 14, .inl (cI, 48, .inl (aN (lf)))), (r 15, .inl (cI, 48, .inl (aN (lt)))), (r 27, .inl (cI, 16, .inl (aN ((zcm isL lf lt 16 (zb1 lt (g + 1) (va_up tr g (znx isL lf (lf (tr g)) (tr g + 1)))) (g + 1) (va_up tr g (znx isL lf (lf (tr g)) (tr g + 1)))).2))))], rfl, trivial, rfl, ?_⟩
        refine z_iconst hX (bN true) dM_advance_53 rfl ?_
        refine z_iret hX rfl (bN_n _) rfl rfl dM_advance_54 ?_
        rw [hr]
        exact ⟨rfl, rfl⟩
  exact hloop fo (Nat.le_refl _) rfl

