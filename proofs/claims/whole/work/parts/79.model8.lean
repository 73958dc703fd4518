/-! the reference: pass, register, pick, take -/
theorem zbf {b : Bool} {P : Prop} (h : b = true) (h2 : b = false) : P := by
  rw [h] at h2
  cases h2
def zpT (b : Bool) (tc : Nat → Nat) (pk e : Nat) : Nat → Nat := if b = true then va_up (va_up tc pk e) 0 (24 + e) else va_up tc pk e
def zpK (b : Bool) (pk : Nat) : Nat := if b = true then 0 + 1 else pk + 1
def zpC (b : Bool) (t : Nat) (wl wk tc : Nat → Nat) (pk wy : Nat) (wc : Nat → Int) (e : Nat) : Nat → Int := if b = true ∨ t = 1 then sp_it (zcwy wl wk (va_up tc pk e) (pk + 1)) wy wc else wc
def zpR (b : Bool) (t : Nat) (ru : Bool) : Bool := if b = false ∧ t = 1 then false else ru
def zpE (b : Bool) (t : Nat) (es : Int) : Int := if b = false ∧ t = 1 then es + 1 else es
set_option maxHeartbeats 400000 in
set_option maxRecDepth 100000 in
theorem kM_pass (l : Launch) (D : va_G) (cI cZ : ClassId) (ax : Nat) (r : Nat → Nat) (n m : Nat) (sl : Bool) (pr wy fo : Nat) (ru : Bool) (pl pk : Nat) (rs es : Int) (to : Nat → Nat) (bk : Nat → Bool) (wl wk tc : Nat → Nat) (ec bc wc : Nat → Int) (e : Nat) (he : e < m) (hm : m ≤ 24) (hn : n ≤ 12) (hpk : pk < 16) (hto : ∀ e, e < m → to e < n) (hwy : wy ≤ 200) (hwl : ∀ w, w < wy → wl w ≤ 16) (hwk : ∀ w i, w < wy → i < 16 → wk (16 * w + i) < 2147483648) (htc : ∀ i, i < pk → tc i < 2147483648) : zM l yM_pass wM_pass rM_pass D zCl (zTy cI cZ) zNW 0 0 [.ref ax, .int (nI e)] ([mO ax r (n) (m) (sl) (pr) (wy) (fo) (ru) (pl) (pk) (rs) (es), (r 3, .inl (cI, 24, .inl (aN (to)))), (r 8, .inl (cZ, 24, .inl (aB (bk)))), (r 24, .inl (cI, 200, .inl (aN (wl)))), (r 25, .inl (cI, 3200, .inl (aN (wk)))), (r 31, .inl (cI, 16, .inl (aN (tc)))), (r 32, .inl (cI, 24, .inl (aI (ec)))), (r 33, .inl (cI, 12, .inl (aI (bc)))), (r 34, .inl (cI, 200, .inl (aI (wc))))]) (fun v wn => v = none ∧ wn = [mO ax r (n) (m) (sl) (pr) (wy) (fo) (zpR (bk e) (to e) ru) (to e) (zpK (bk e) pk) (rs) (zpE (bk e) (to e) es), (r 3, .inl (cI, 24, .inl (aN (to)))), (r 8, .inl (cZ, 24, .inl (aB (bk)))), (r 24, .inl (cI, 200, .inl (aN (wl)))), (r 25, .inl (cI, 3200, .inl (aN (wk)))), (r 31, .inl (cI, 16, .inl (aN (zpT (bk e) tc pk e)))), (r 32, .inl (cI, 24, .inl (aI (va_up ec e (ec e + 1))))), (r 33, .inl (cI, 12, .inl (aI (va_up bc (to e) (bc (to e) + 1))))), (r 34, .inl (cI, 200, .inl (aI (zpC (bk e) (to e) wl wk tc pk wy wc e))))]) := by
  have htoe := hto e he
  have htc2 : ∀ i, i < pk + 1 → va_up tc pk e i < 2147483648 := fun i hi => by
    by_cases h : i = pk
    · subst h; rw [sp_up_s]; omega
    · rw [sp_up_n _ _ h]; exact htc i (by omega)
  refine z_met2 cM_pass 2 none rfl rfl (Nat.le_of_ble_eq_true rfl) rfl (fun Z hX => ?_)
  show Z 0 0 0 [some (.ref ax), some (.int (nI e))] [] ([mO ax r (n) (m) (sl) (pr) (wy) (fo) (ru) (pl) (pk) (rs) (es), (r 3, .inl (cI, 24, .inl (aN (to)))), (r 8, .inl (cZ, 24, .inl (aB (bk)))), (r 24, .inl (cI, 200, .inl (aN (wl)))), (r 25, .inl (cI, 3200, .inl (aN (wk)))), (r 31, .inl (cI, 16, .inl (aN (tc)))), (r 32, .inl (cI, 24, .inl (aI (ec)))), (r 33, .inl (cI, 12, .inl (aI (bc)))), (r 34, .inl (cI, 200, .inl (aI (wc))))])
  refine z_aload_n hX 0 dM_pass_0 rfl rfl ?_
  refine z_get hX 0 32 rfl rfl (zu inM) (by decide) (List.mem_cons_of_mem _ mw_584) rfl dM_pass_1 ?_
  refine z_iload_n hX 1 dM_pass_4 rfl rfl ?_
  refine z_aload_n hX 0 dM_pass_5 rfl rfl ?_
  refine z_get hX 0 32 rfl rfl (zu inM) (by decide) (List.mem_cons_of_mem _ mw_584) rfl dM_pass_6 ?_
  refine z_iload_n hX 1 dM_pass_9 rfl rfl ?_
  refine z_ldI hX 6 0 _ rfl rfl rfl (by omega) (by decide) dM_pass_10 ?_
  refine z_iconst hX (nI 1) dM_pass_11 rfl ?_
  refine z_iaddI hX (ec e) 1 rfl rfl dM_pass_12 ?_
  refine z_stI hX 6 0 _ _ rfl rfl rfl rfl (by omega) (by decide) dM_pass_13 ?_
  refine z_aload_n hX 0 dM_pass_14 rfl rfl ?_
  refine z_aload_n hX 0 dM_pass_15 rfl rfl ?_
  refine z_get hX 0 3 rfl rfl (zu inM) (by decide) (List.mem_cons_of_mem _ mw_555) rfl dM_pass_16 ?_
  refine z_iload_n hX 1 dM_pass_19 rfl rfl ?_
  refine z_ldN hX 1 0 _ rfl rfl rfl (by omega) (by decide) dM_pass_20 ?_
  refine z_put hX 0 29 rfl rfl (zu inM) tyM tyM_ok nmM (by decide) (List.mem_cons_of_mem _ mw_581) (Or.inl rfl) rfl rfl rfl (Nat.le_of_ble_eq_true rfl) dM_pass_21 ?_
  refine z_aload_n hX 0 dM_pass_24 rfl rfl ?_
  refine z_get hX 0 33 rfl rfl (zu inM) (by decide) (List.mem_cons_of_mem _ mw_585) rfl dM_pass_25 ?_
  refine z_aload_n hX 0 dM_pass_28 rfl rfl ?_
  refine z_get hX 0 29 rfl rfl (zu inM) (by decide) (List.mem_cons_of_mem _ mw_581) rfl dM_pass_29 ?_
  refine z_aload_n hX 0 dM_pass_32 rfl rfl ?_
  refine z_get hX 0 33 rfl rfl (zu inM) (by decide) (List.mem_cons_of_mem _ mw_585) rfl dM_pass_33 ?_
  refine z_aload_n hX 0 dM_pass_36 rfl rfl ?_
  refine z_get hX 0 29 rfl rfl (zu inM) (by decide) (List.mem_cons_of_mem _ mw_581) rfl dM_pass_37 ?_
  refine z_ldI hX 7 0 _ rfl rfl rfl (by omega) (by decide) dM_pass_40 ?_
  refine z_iconst hX (nI 1) dM_pass_41 rfl ?_
  refine z_iaddI hX (bc (to e)) 1 rfl rfl dM_pass_42 ?_
  refine z_stI hX 7 0 _ _ rfl rfl rfl rfl (by omega) (by decide) dM_pass_43 ?_
  refine z_aload_n hX 0 dM_pass_44 rfl rfl ?_
  refine z_iload_n hX 1 dM_pass_45 rfl rfl ?_
  refine z_Vy hX (kM_note l D cI cZ ax r (n) (m) (sl) (pr) (wy) (fo) (ru) (to e) (pk) (rs) (es) tc e hpk) mw_792 mw_794 mp_3_12 mw_9 mw_795 rfl rfl ⟨rfl, by decide, by decide, rfl⟩ (by decide) 0 rfl rfl rfl rfl (Nat.le_of_ble_eq_true rfl) dM_pass_46 (by decide) [0, 5] rfl rfl [1, 2, 3, 4, 6, 7, 8] 9 (by decide) (by decide) (fun v wn hv => ?_)
  obtain ⟨rfl, rfl⟩ := hv
  refine ⟨[mO ax r (n) (m) (sl) (pr) (wy) (fo) (ru) (to e) (pk + 1) (rs) (es), (r 3, .inl (cI, 24, .inl (aN (to)))), (r 8, .inl (cZ, 24, .inl (aB (bk)))), (r 24, .inl (cI, 200, .inl (aN (wl)))), (r 25, .inl (cI, 3200, .inl (aN (wk)))), (r 31, .inl (cI, 16, .inl (aN (va_up tc pk e)))), (r 32, .inl (cI, 24, .inl (aI (va_up ec e (ec e + 1))))), (r 33, .inl (cI, 12, .inl (aI (va_up bc (to e) (bc (to e) + 1))))), (r 34, .inl (cI, 200, .inl (aI (wc))))], rfl, (And.intro ⟨_, rfl, rfl⟩ (And.intro ⟨_, rfl, rfl⟩ (And.intro ⟨_, rfl, rfl⟩ (And.intro ⟨_, rfl, rfl⟩ (And.intro ⟨_, rfl, rfl⟩ (And.intro ⟨_, rfl, rfl⟩ (And.intro ⟨_, rfl, rfl⟩ trivial))))))), rfl, ?_⟩
  refine z_aload_n hX 0 dM_pass_49 rfl rfl ?_
  refine z_get hX 0 8 rfl rfl (zu inM) (by decide) (List.mem_cons_of_mem _ mw_560) rfl dM_pass_50 ?_
  refine z_iload_n hX 1 dM_pass_53 rfl rfl ?_
  refine z_ldB hX 2 1 _ rfl rfl rfl (by omega) (by decide) dM_pass_54 ?_
  refine z_if_eqB hX 78 dM_pass_55 rfl (fun h55 => ?_) (fun h55 => ?_)
  · refine z_aload_n hX 0 dM_pass_78 rfl rfl ?_
    refine z_get hX 0 29 rfl rfl (zu inM) (by decide) (List.mem_cons_of_mem _ mw_581) rfl dM_pass_79 ?_
    refine z_iconst hX (nI 1) dM_pass_82 rfl ?_
    refine z_icmp_neN hX 105 (by omega) (by omega) dM_pass_83 rfl (fun h83 => ?_) (fun h83 => ?_)
    · have hrT : zpT (bk e) tc pk e = va_up tc pk e := if_neg (fun hc => zbf hc h55)
      have hrK : zpK (bk e) pk = pk + 1 := if_neg (fun hc => zbf hc h55)
      have hrC : zpC (bk e) (to e) wl wk tc pk wy wc e = wc := if_neg (fun hc => hc.elim (fun a => zbf a h55) h83)
      have hrR : zpR (bk e) (to e) ru = ru := if_neg (fun hc => h83 hc.2)
      have hrE : zpE (bk e) (to e) es = es := if_neg (fun hc => h83 hc.2)
      refine z_vret hX rfl rfl rfl dM_pass_105 ?_
      refine ⟨rfl, ?_⟩
      rw [hrT, hrK, hrC, hrR, hrE]
      all_goals rfl
    · have hrT : zpT (bk e) tc pk e = va_up tc pk e := if_neg (fun hc => zbf hc h55)
      have hrK : zpK (bk e) pk = pk + 1 := if_neg (fun hc => zbf hc h55)
      have hrC : zpC (bk e) (to e) wl wk tc pk wy wc e = sp_it (zcwy wl wk (va_up tc pk e) (pk + 1)) wy wc := if_pos (Or.inr h83)
      have hrR : zpR (bk e) (to e) ru = false := if_pos ⟨h55, h83⟩
      have hrE : zpE (bk e) (to e) es = es + 1 := if_pos ⟨h55, h83⟩
      refine z_aload_n hX 0 dM_pass_86 rfl rfl ?_
      refine z_Vy hX (kM_countWay l D cI cZ ax r (n) (m) (sl) (pr) (wy) (fo) (ru) (to e) (pk + 1) (rs) (es) wl wk (va_up tc pk e) wc hwy (by omega) hwl hwk htc2) mw_796 mw_798 mp_3_13 mw_9 mw_799 rfl rfl ⟨rfl, by decide, by decide, rfl⟩ (by decide) 0 rfl rfl rfl rfl (Nat.le_of_ble_eq_true rfl) dM_pass_87 (by decide) [0, 3, 4, 5, 8] rfl rfl [1, 2, 6, 7] 9 (by decide) (by decide) (fun v wn hv => ?_)
      obtain ⟨rfl, rfl⟩ := hv
      refine ⟨[mO ax r (n) (m) (sl) (pr) (wy) (fo) (ru) (to e) (pk + 1) (rs) (es), (r 3, .inl (cI, 24, .inl (aN (to)))), (r 8, .inl (cZ, 24, .inl (aB (bk)))), (r 24, .inl (cI, 200, .inl (aN (wl)))), (r 25, .inl (cI, 3200, .inl (aN (wk)))), (r 31, .inl (cI, 16, .inl (aN (va_up tc pk e)))), (r 32, .inl (cI, 24, .inl (aI (va_up ec e (ec e + 1))))), (r 33, .inl (cI, 12, .inl (aI (va_up bc (to e) (bc (to e) + 1))))), (r 34, .inl (cI, 200, .inl (aI (sp_it (zcwy wl wk (va_up tc pk e) (pk + 1)) wy wc))))], rfl, (And.intro ⟨_, rfl, rfl⟩ (And.intro ⟨_, rfl, rfl⟩ (And.intro ⟨_, rfl, rfl⟩ (And.intro ⟨_, rfl, rfl⟩ trivial)))), rfl, ?_⟩
      refine z_aload_n hX 0 dM_pass_90 rfl rfl ?_
      refine z_iconst hX (bN false) dM_pass_91 rfl ?_
      refine z_put hX 0 28 rfl rfl (zu inM) tyM tyM_ok nmM (by decide) (List.mem_cons_of_mem _ mw_580) (Or.inl rfl) rfl (bN_n _) (bN_f _) (Nat.le_of_ble_eq_true rfl) dM_pass_92 ?_
      refine z_aload_n hX 0 dM_pass_95 rfl rfl ?_
      refine z_aload_n hX 0 dM_pass_96 rfl rfl ?_
      refine z_get hX 0 37 rfl rfl (zu inM) (by decide) (List.mem_cons_of_mem _ mw_589) rfl dM_pass_97 ?_
      refine z_iconst hX (nI 1) dM_pass_100 rfl ?_
      refine z_iaddI hX es 1 rfl rfl dM_pass_101 ?_
      refine z_put hX 0 37 rfl rfl (zu inM) tyM tyM_ok nmM (by decide) (List.mem_cons_of_mem _ mw_589) (Or.inl rfl) rfl rfl rfl (Nat.le_of_ble_eq_true rfl) dM_pass_102 ?_
      refine z_vret hX rfl rfl rfl dM_pass_105 ?_
      refine ⟨rfl, ?_⟩
      rw [hrT, hrK, hrC, hrR, hrE]
      all_goals rfl
  · have hrT : zpT (bk e) tc pk e = va_up (va_up tc pk e) 0 (24 + e) := if_pos h55
    have hrK : zpK (bk e) pk = 0 + 1 := if_pos h55
    have hrC : zpC (bk e) (to e) wl wk tc pk wy wc e = sp_it (zcwy wl wk (va_up tc pk e) (pk + 1)) wy wc := if_pos (Or.inl h55)
    have hrR : zpR (bk e) (to e) ru = ru := if_neg (fun hc => zbf h55 hc.1)
    have hrE : zpE (bk e) (to e) es = es := if_neg (fun hc => zbf h55 hc.1)
    refine z_aload_n hX 0 dM_pass_58 rfl rfl ?_
    refine z_Vy hX (kM_countWay l D cI cZ ax r (n) (m) (sl) (pr) (wy) (fo) (ru) (to e) (pk + 1) (rs) (es) wl wk (va_up tc pk e) wc hwy (by omega) hwl hwk htc2) mw_796 mw_798 mp_3_13 mw_9 mw_799 rfl rfl ⟨rfl, by decide, by decide, rfl⟩ (by decide) 0 rfl rfl rfl rfl (Nat.le_of_ble_eq_true rfl) dM_pass_59 (by decide) [0, 3, 4, 5, 8] rfl rfl [1, 2, 6, 7] 9 (by decide) (by decide) (fun v wn hv => ?_)
    obtain ⟨rfl, rfl⟩ := hv
    refine ⟨[mO ax r (n) (m) (sl) (pr) (wy) (fo) (ru) (to e) (pk + 1) (rs) (es), (r 3, .inl (cI, 24, .inl (aN (to)))), (r 8, .inl (cZ, 24, .inl (aB (bk)))), (r 24, .inl (cI, 200, .inl (aN (wl)))), (r 25, .inl (cI, 3200, .inl (aN (wk)))), (r 31, .inl (cI, 16, .inl (aN (va_up tc pk e)))), (r 32, .inl (cI, 24, .inl (aI (va_up ec e (ec e + 1))))), (r 33, .inl (cI, 12, .inl (aI (va_up bc (to e) (bc (to e) + 1))))), (r 34, .inl (cI, 200, .inl (aI (sp_it (zcwy wl wk (va_up tc pk e) (pk + 1)) wy wc))))], rfl, (And.intro ⟨_, rfl, rfl⟩ (And.intro ⟨_, rfl, rfl⟩ (And.intro ⟨_, rfl, rfl⟩ (And.intro ⟨_, rfl, rfl⟩ trivial)))), rfl, ?_⟩
    refine z_aload_n hX 0 dM_pass_62 rfl rfl ?_
    refine z_iconst hX (nI 0) dM_pass_63 rfl ?_
    refine z_put hX 0 30 rfl rfl (zu inM) tyM tyM_ok nmM (by decide) (List.mem_cons_of_mem _ mw_582) (Or.inl rfl) rfl rfl rfl (Nat.le_of_ble_eq_true rfl) dM_pass_64 ?_
    refine z_aload_n hX 0 dM_pass_67 rfl rfl ?_
    refine z_bipush hX (nI 24) dM_pass_68 (by decide) ?_
    refine z_iload_n hX 1 dM_pass_70 rfl rfl ?_
    refine z_iaddN hX dM_pass_71 ?_
    refine z_Vy hX (kM_note l D cI cZ ax r (n) (m) (sl) (pr) (wy) (fo) (ru) (to e) (0) (rs) (es) (va_up tc pk e) (24 + e) (by omega)) mw_792 mw_794 mp_3_12 mw_9 mw_795 rfl rfl ⟨rfl, by decide, by decide, rfl⟩ (by decide) 0 rfl rfl rfl rfl (Nat.le_of_ble_eq_true rfl) dM_pass_72 (by decide) [0, 5] rfl rfl [1, 2, 3, 4, 6, 7, 8] 9 (by decide) (by decide) (fun v wn hv => ?_)
    obtain ⟨rfl, rfl⟩ := hv
    refine ⟨[mO ax r (n) (m) (sl) (pr) (wy) (fo) (ru) (to e) (0 + 1) (rs) (es), (r 3, .inl (cI, 24, .inl (aN (to)))), (r 8, .inl (cZ, 24, .inl (aB (bk)))), (r 24, .inl (cI, 200, .inl (aN (wl)))), (r 25, .inl (cI, 3200, .inl (aN (wk)))), (r 31, .inl (cI, 16, .inl (aN (va_up (va_up tc pk e) 0 (24 + e))))), (r 32, .inl (cI, 24, .inl (aI (va_up ec e (ec e + 1))))), (r 33, .inl (cI, 12, .inl (aI (va_up bc (to e) (bc (to e) + 1))))), (r 34, .inl (cI, 200, .inl (aI (sp_it (zcwy wl wk (va_up tc pk e) (pk + 1)) wy wc))))], rfl, (And.intro ⟨_, rfl, rfl⟩ (And.intro ⟨_, rfl, rfl⟩ (And.intro ⟨_, rfl, rfl⟩ (And.intro ⟨_, rfl, rfl⟩ (And.intro ⟨_, rfl, rfl⟩ (And.intro ⟨_, rfl, rfl⟩ (And.intro ⟨_, rfl, rfl⟩ trivial))))))), rfl, ?_⟩
    refine z_goto hX 105 dM_pass_75 rfl ?_
    refine z_vret hX rfl rfl rfl dM_pass_105 ?_
    refine ⟨rfl, ?_⟩
    rw [hrT, hrK, hrC, hrR, hrE]
    all_goals rfl

set_option maxHeartbeats 400000 in
set_option maxRecDepth 100000 in
theorem kM_register (l : Launch) (D : va_G) (cI cZ : ClassId) (ax : Nat) (r : Nat → Nat) (n m : Nat) (sl : Bool) (pr wy fo : Nat) (ru : Bool) (pl pk : Nat) (rs es : Int) (isL : Nat → Bool) (lf lt Rw : Nat → Nat) (B : Nat → Int) (tc : Nat → Nat) (hpk : pk ≤ 16) (htc : ∀ i, i < pk → tc i < 48 ∧ lf (tc i) < 12 ∧ lt (tc i) < 12) (hlk : ∀ l, l < 48 → isL l = true → lf l < 12 ∧ lt l < 12) : zM l yM_register wM_register rM_register D zCl (zTy cI cZ) zNW 0 0 [.ref ax] ([mO ax r (n) (m) (sl) (pr) (wy) (fo) (ru) (pl) (pk) (rs) (es), (r 13, .inl (cZ, 48, .inl (aB (isL)))), (r 14, .inl (cI, 48, .inl (aN (lf)))), (r 15, .inl (cI, 48, .inl (aN (lt)))), (r 16, .inl (cI, 12, .inl (aN (Rw)))), (r 19, .inl (cI, 12, .inl (aI (B)))), (r 31, .inl (cI, 16, .inl (aN (tc))))]) (fun v wn => v = some (.int (Int32.ofInt (if ru = true then sf_sum (fun j => sw_V isL lf lt Rw (tc j) + B (lf (tc j)) - B (lt (tc j))) pk else 0))) ∧ wn = [mO ax r (n) (m) (sl) (pr) (wy) (fo) (ru) (pl) (pk) (rs) (es), (r 13, .inl (cZ, 48, .inl (aB (isL)))), (r 14, .inl (cI, 48, .inl (aN (lf)))), (r 15, .inl (cI, 48, .inl (aN (lt)))), (r 16, .inl (cI, 12, .inl (aN (Rw)))), (r 19, .inl (cI, 12, .inl (aI (B)))), (r 31, .inl (cI, 16, .inl (aN (tc))))]) := by
  refine z_met2 cM_register 3 (some .int) rfl rfl (Nat.le_of_ble_eq_true rfl) rfl (fun Z hX => ?_)
  show Z 0 0 0 [some (.ref ax), none, none] [] ([mO ax r (n) (m) (sl) (pr) (wy) (fo) (ru) (pl) (pk) (rs) (es), (r 13, .inl (cZ, 48, .inl (aB (isL)))), (r 14, .inl (cI, 48, .inl (aN (lf)))), (r 15, .inl (cI, 48, .inl (aN (lt)))), (r 16, .inl (cI, 12, .inl (aN (Rw)))), (r 19, .inl (cI, 12, .inl (aI (B)))), (r 31, .inl (cI, 16, .inl (aN (tc))))])
  refine z_iconst hX (Int32.ofInt 0) dM_register_0 rfl ?_
  refine z_istore_n hX 1 dM_register_1 rfl (by decide) ?_
  refine z_iconst hX (nI 0) dM_register_2 rfl ?_
  refine z_istore_n hX 2 dM_register_3 rfl (by decide) ?_
  refine zloop (P := fun i => Z 0 0 4 [some (.ref ax), some (.int (Int32.ofInt (sf_sum (fun j => sw_V isL lf lt Rw (tc j) + B (lf (tc j)) - B (lt (tc j))) i))), some (.int (nI i))] [] ([mO ax r (n) (m) (sl) (pr) (wy) (fo) (ru) (pl) (pk) (rs) (es), (r 13, .inl (cZ, 48, .inl (aB (isL)))), (r 14, .inl (cI, 48, .inl (aN (lf)))), (r 15, .inl (cI, 48, .inl (aN (lt)))), (r 16, .inl (cI, 12, .inl (aN (Rw)))), (r 19, .inl (cI, 12, .inl (aI (B)))), (r 31, .inl (cI, 16, .inl (aN (tc))))])) pk (fun i hi ih => ?_) 0 (Nat.zero_le _)
  refine z_iload_n hX 2 dM_register_4 rfl rfl ?_
  refine z_aload_n hX 0 dM_register_5 rfl rfl ?_
  refine z_get hX 0 30 rfl rfl (zu inM) (by decide) (List.mem_cons_of_mem _ mw_582) rfl dM_register_6 ?_
  refine z_icmp_geN hX 31 (by omega) (by omega) dM_register_9 rfl (fun h9 => ?_) (fun h9 => ?_)
  · refine z_aload_n hX 0 dM_register_31 rfl rfl ?_
    refine z_get hX 0 28 rfl rfl (zu inM) (by decide) (List.mem_cons_of_mem _ mw_580) rfl dM_register_32 ?_
    refine z_if_eqB hX 42 dM_register_35 rfl (fun h35 => ?_) (fun h35 => ?_)
    · have hr : (if ru = true then sf_sum (fun j => sw_V isL lf lt Rw (tc j) + B (lf (tc j)) - B (lt (tc j))) pk else 0) = 0 := if_neg (by rw [h35]; decide)
      refine z_iconst hX (Int32.ofInt 0) dM_register_42 rfl ?_
      refine z_iret hX rfl rfl rfl rfl dM_register_43 ?_
      rw [hr]
      exact ⟨rfl, rfl⟩
    · have hip : i = pk := by omega
      have hr : (if ru = true then sf_sum (fun j => sw_V isL lf lt Rw (tc j) + B (lf (tc j)) - B (lt (tc j))) pk else 0) = sf_sum (fun j => sw_V isL lf lt Rw (tc j) + B (lf (tc j)) - B (lt (tc j))) i := by rw [hip]; exact if_pos h35
      refine z_iload_n hX 1 dM_register_38 rfl rfl ?_
      refine z_goto hX 43 dM_register_39 rfl ?_
      refine z_iret hX rfl rfl rfl rfl dM_register_43 ?_
      rw [hr]
      exact ⟨rfl, rfl⟩
  · have htci := htc i (by omega)
    refine z_iload_n hX 1 dM_register_12 rfl rfl ?_
    refine z_aload_n hX 0 dM_register_13 rfl rfl ?_
    refine z_aload_n hX 0 dM_register_14 rfl rfl ?_
    refine z_get hX 0 31 rfl rfl (zu inM) (by decide) (List.mem_cons_of_mem _ mw_583) rfl dM_register_15 ?_
    refine z_iload_n hX 2 dM_register_18 rfl rfl ?_
    refine z_ldN hX 6 0 _ rfl rfl rfl (by omega) (by decide) dM_register_19 ?_
    refine z_Vr hX (kM_added l D cI cZ ax r n m sl pr wy fo ru pl pk rs es isL lf lt Rw B (tc i) htci.1 htci.2.1 htci.2.2 hlk) mw_771 mw_773 mp_3_10 mw_9 mw_774 rfl rfl ⟨rfl, by decide, by decide, rfl⟩ (by decide) 0 rfl rfl rfl rfl (Nat.le_of_ble_eq_true rfl) dM_register_20 (by decide) [0, 1, 2, 3, 4, 5] rfl rfl (fun v wn hv => ?_)
    obtain ⟨rfl, rfl⟩ := hv
    refine ⟨rfl, ?_⟩
    refine z_iaddI hX (sf_sum (fun j => sw_V isL lf lt Rw (tc j) + B (lf (tc j)) - B (lt (tc j))) i) (sw_V isL lf lt Rw (tc i) + B (lf (tc i)) - B (lt (tc i))) rfl rfl dM_register_23 ?_
    refine z_istore_n hX 1 dM_register_24 rfl (by decide) ?_
    refine z_iinc hX 2 dM_register_25 rfl (zi_1 _) (by decide) ?_
    refine z_goto hX 4 dM_register_28 rfl ?_
    exact ih (by omega)

set_option maxHeartbeats 400000 in
set_option maxRecDepth 100000 in
theorem kM_pick (l : Launch) (D : va_G) (cI cZ : ClassId) (ax : Nat) (r : Nat → Nat) (n m : Nat) (sl : Bool) (pr wy fo : Nat) (ru : Bool) (pl pk : Nat) (rs es : Int) (fr : Nat → Nat) (t : Nat) (ht : t < 2147483648) (hm : m ≤ 24) (hfr : ∀ e, e < m → fr e < 12) (hpl : pl < 12) (hd0 : 0 < sg_deg fr pl m) : zM l yM_pick wM_pick rM_pick D zCl (zTy cI cZ) zNW 0 0 [.ref ax, .int (nI t)] ([mO ax r (n) (m) (sl) (pr) (wy) (fo) (ru) (pl) (pk) (rs) (es), (r 2, .inl (cI, 24, .inl (aN (fr))))]) (fun v wn => v = some (.int (nI (sg_pk fr pl m (t % sg_deg fr pl m)))) ∧ wn = [mO ax r (n) (m) (sl) (pr) (wy) (fo) (ru) (pl) (pk) (rs) (es), (r 2, .inl (cI, 24, .inl (aN (fr))))]) := by
  obtain ⟨k1, k2, k3⟩ := sg_pk_spec (fr := fr) (b := pl) (m := m) (t % sg_deg fr pl m) (Nat.mod_lt _ hd0)
  have hdl : sg_deg fr pl m ≤ m := sp_cnt_le _ _
  have hTl : t % sg_deg fr pl m < sg_deg fr pl m := Nat.mod_lt _ hd0
  refine z_met2 cM_pick 5 (some .int) rfl rfl (Nat.le_of_ble_eq_true rfl) rfl (fun Z hX => ?_)
  show Z 0 0 0 [some (.ref ax), some (.int (nI t)), none, none, none] [] ([mO ax r (n) (m) (sl) (pr) (wy) (fo) (ru) (pl) (pk) (rs) (es), (r 2, .inl (cI, 24, .inl (aN (fr))))])
  refine z_iconst hX (nI 0) dM_pick_0 rfl ?_
  refine z_istore_n hX 2 dM_pick_1 rfl (by decide) ?_
  have cut39 : Z 0 0 39 [some (.ref ax), some (.int (nI t)), some (.int (nI (sg_deg fr pl m))), none, none] [] ([mO ax r (n) (m) (sl) (pr) (wy) (fo) (ru) (pl) (pk) (rs) (es), (r 2, .inl (cI, 24, .inl (aN (fr))))]) := by
    refine z_iload_n hX 1 dM_pick_39 rfl rfl ?_
    refine z_iload_n hX 2 dM_pick_40 rfl rfl ?_
    refine z_irem hX dM_pick_41 (fun hc => by have := (zi_eq0 (a := sg_deg fr pl m) (by omega)).mp hc; omega) ?_
    rw [pk_rem ht hd0 (by omega)]
    refine z_istore_n hX 3 dM_pick_42 rfl (by decide) ?_
    refine z_iconst hX (nI 0) dM_pick_43 rfl ?_
    refine z_istore hX 4 dM_pick_44 (by decide) ?_
    refine zloop (P := fun e => Z 0 0 46 [some (.ref ax), some (.int (nI t)), some (.int (nI (sg_deg fr pl m))), some (.int (nI ((t % sg_deg fr pl m) - sp_cnt (fun e => decide (fr e = pl)) e))), some (.int (nI e))] [] ([mO ax r (n) (m) (sl) (pr) (wy) (fo) (ru) (pl) (pk) (rs) (es), (r 2, .inl (cI, 24, .inl (aN (fr))))])) (sg_pk fr pl m (t % sg_deg fr pl m)) (fun e he ih => ?_) 0 (Nat.zero_le _)
    have hfe := hfr e (by omega)
    have hcl : sp_cnt (fun e => decide (fr e = pl)) e ≤ (t % sg_deg fr pl m) := by
      have h9 := sp_cnt_le2 (p := fun e => decide (fr e = pl)) he
      omega
    refine z_aload_n hX 0 dM_pick_46 rfl rfl ?_
    refine z_get hX 0 2 rfl rfl (zu inM) (by decide) (List.mem_cons_of_mem _ mw_554) rfl dM_pick_47 ?_
    refine z_iload hX 4 dM_pick_50 rfl ?_
    refine z_ldN hX 1 0 _ rfl rfl rfl (by omega) (by decide) dM_pick_52 ?_
    refine z_aload_n hX 0 dM_pick_53 rfl rfl ?_
    refine z_get hX 0 29 rfl rfl (zu inM) (by decide) (List.mem_cons_of_mem _ mw_581) rfl dM_pick_54 ?_
    refine z_icmp_neN hX 64 (by omega) (by omega) dM_pick_57 rfl (fun h57 => ?_) (fun h57 => ?_)
    · have hne1 := h57
      have hlt : e < sg_pk fr pl m (t % sg_deg fr pl m) := by
        by_cases hc : e = sg_pk fr pl m (t % sg_deg fr pl m)
        · rw [hc] at h57; exact absurd k2 h57
        · omega
      refine z_aload_n hX 0 dM_pick_64 rfl rfl ?_
      refine z_get hX 0 2 rfl rfl (zu inM) (by decide) (List.mem_cons_of_mem _ mw_554) rfl dM_pick_65 ?_
      refine z_iload hX 4 dM_pick_68 rfl ?_
      refine z_ldN hX 1 0 _ rfl rfl rfl (by omega) (by decide) dM_pick_70 ?_
      refine z_aload_n hX 0 dM_pick_71 rfl rfl ?_
      refine z_get hX 0 29 rfl rfl (zu inM) (by decide) (List.mem_cons_of_mem _ mw_581) rfl dM_pick_72 ?_
      refine z_icmp_neN hX 84 (by omega) (by omega) dM_pick_75 rfl (fun h75 => ?_) (fun h75 => ?_)
      · have hs : (t % sg_deg fr pl m) - sp_cnt (fun e => decide (fr e = pl)) (e + 1) = (t % sg_deg fr pl m) - sp_cnt (fun e => decide (fr e = pl)) e := by
          have h8 : sp_cnt (fun e => decide (fr e = pl)) (e + 1) = sp_cnt (fun e => decide (fr e = pl)) e + (if decide (fr e = pl) = true then 1 else 0) := rfl
          rw [h8, if_neg (fun hc => h75 (of_decide_eq_true hc))]; rfl
        refine z_iload_n hX 3 dM_pick_84 rfl rfl ?_
        refine z_istore_n hX 3 dM_pick_85 rfl (by decide) ?_
        refine z_iload hX 4 dM_pick_86 rfl ?_
        refine z_iconst hX (nI 1) dM_pick_88 rfl ?_
        refine z_iaddN hX dM_pick_89 ?_
        refine z_istore hX 4 dM_pick_90 (by decide) ?_
        refine z_goto hX 46 dM_pick_92 rfl ?_
        have hz := ih hlt
        rw [hs] at hz
        exact hz
      · have h0 : 1 ≤ (t % sg_deg fr pl m) - sp_cnt (fun e => decide (fr e = pl)) e := by
          first
            | exact absurd h75 hne1
            | omega
        have hs : (t % sg_deg fr pl m) - sp_cnt (fun e => decide (fr e = pl)) (e + 1) = (t % sg_deg fr pl m) - sp_cnt (fun e => decide (fr e = pl)) e - 1 := by
          have h8 : sp_cnt (fun e => decide (fr e = pl)) (e + 1) = sp_cnt (fun e => decide (fr e = pl)) e + (if decide (fr e = pl) = true then 1 else 0) := rfl
          rw [h8, if_pos (decide_eq_true h75)]; omega
        refine z_iload_n hX 3 dM_pick_78 rfl rfl ?_
        refine z_iconst hX (nI 1) dM_pick_79 rfl ?_
        refine z_isubN hX (by omega) dM_pick_80 ?_
        refine z_goto hX 85 dM_pick_81 rfl ?_
        refine z_istore_n hX 3 dM_pick_85 rfl (by decide) ?_
        refine z_iload hX 4 dM_pick_86 rfl ?_
        refine z_iconst hX (nI 1) dM_pick_88 rfl ?_
        refine z_iaddN hX dM_pick_89 ?_
        refine z_istore hX 4 dM_pick_90 (by decide) ?_
        refine z_goto hX 46 dM_pick_92 rfl ?_
        have hz := ih hlt
        rw [hs] at hz
        exact hz
    · refine z_iload_n hX 3 dM_pick_60 rfl rfl ?_
      refine z_if_le hX 95 dM_pick_61 rfl (fun h61 => ?_) (fun h61 => ?_)
      · have h0 := (zi_le0 (a := (t % sg_deg fr pl m) - sp_cnt (fun e => decide (fr e = pl)) e) (by omega)).mp h61
        have heq : e = sg_pk fr pl m (t % sg_deg fr pl m) := sg_pk_uniq h57 k2 (by omega)
        refine z_iload hX 4 dM_pick_95 rfl ?_
        refine z_iret hX rfl rfl rfl rfl dM_pick_97 ?_
        rw [heq]
        exact ⟨rfl, rfl⟩
      · have h0 : ¬ ((t % sg_deg fr pl m) - sp_cnt (fun e => decide (fr e = pl)) e = 0) := fun hc => h61 ((zi_le0 (a := (t % sg_deg fr pl m) - sp_cnt (fun e => decide (fr e = pl)) e) (by omega)).mpr hc)
        have hlt : e < sg_pk fr pl m (t % sg_deg fr pl m) := by
          by_cases hc : e = sg_pk fr pl m (t % sg_deg fr pl m)
          · rw [← hc] at k3; omega
          · omega
        refine z_aload_n hX 0 dM_pick_64 rfl rfl ?_
        refine z_get hX 0 2 rfl rfl (zu inM) (by decide) (List.mem_cons_of_mem _ mw_554) rfl dM_pick_65 ?_
        refine z_iload hX 4 dM_pick_68 rfl ?_
        refine z_ldN hX 1 0 _ rfl rfl rfl (by omega) (by decide) dM_pick_70 ?_
        refine z_aload_n hX 0 dM_pick_71 rfl rfl ?_
        refine z_get hX 0 29 rfl rfl (zu inM) (by decide) (List.mem_cons_of_mem _ mw_581) rfl dM_pick_72 ?_
        refine z_icmp_neN hX 84 (by omega) (by omega) dM_pick_75 rfl (fun h75 => ?_) (fun h75 => ?_)
        · have hs : (t % sg_deg fr pl m) - sp_cnt (fun e => decide (fr e = pl)) (e + 1) = (t % sg_deg fr pl m) - sp_cnt (fun e => decide (fr e = pl)) e := by
            have h8 : sp_cnt (fun e => decide (fr e = pl)) (e + 1) = sp_cnt (fun e => decide (fr e = pl)) e + (if decide (fr e = pl) = true then 1 else 0) := rfl
            rw [h8, if_neg (fun hc => h75 (of_decide_eq_true hc))]; rfl
          refine z_iload_n hX 3 dM_pick_84 rfl rfl ?_
          refine z_istore_n hX 3 dM_pick_85 rfl (by decide) ?_
          refine z_iload hX 4 dM_pick_86 rfl ?_
          refine z_iconst hX (nI 1) dM_pick_88 rfl ?_
          refine z_iaddN hX dM_pick_89 ?_
          refine z_istore hX 4 dM_pick_90 (by decide) ?_
          refine z_goto hX 46 dM_pick_92 rfl ?_
          have hz := ih hlt
          rw [hs] at hz
          exact hz
        · have h0 : 1 ≤ (t % sg_deg fr pl m) - sp_cnt (fun e => decide (fr e = pl)) e := by
            first
              | exact absurd h75 hne1
              | omega
          have hs : (t % sg_deg fr pl m) - sp_cnt (fun e => decide (fr e = pl)) (e + 1) = (t % sg_deg fr pl m) - sp_cnt (fun e => decide (fr e = pl)) e - 1 := by
            have h8 : sp_cnt (fun e => decide (fr e = pl)) (e + 1) = sp_cnt (fun e => decide (fr e = pl)) e + (if decide (fr e = pl) = true then 1 else 0) := rfl
            rw [h8, if_pos (decide_eq_true h75)]; omega
          refine z_iload_n hX 3 dM_pick_78 rfl rfl ?_
          refine z_iconst hX (nI 1) dM_pick_79 rfl ?_
          refine z_isubN hX (by omega) dM_pick_80 ?_
          refine z_goto hX 85 dM_pick_81 rfl ?_
          refine z_istore_n hX 3 dM_pick_85 rfl (by decide) ?_
          refine z_iload hX 4 dM_pick_86 rfl ?_
          refine z_iconst hX (nI 1) dM_pick_88 rfl ?_
          refine z_iaddN hX dM_pick_89 ?_
          refine z_istore hX 4 dM_pick_90 (by decide) ?_
          refine z_goto hX 46 dM_pick_92 rfl ?_
          have hz := ih hlt
          rw [hs] at hz
          exact hz
  refine z_iconst hX (nI 0) dM_pick_2 rfl ?_
  refine z_istore_n hX 3 dM_pick_3 rfl (by decide) ?_
  refine zloop (P := fun e => Z 0 0 4 [some (.ref ax), some (.int (nI t)), some (.int (nI (sp_cnt (fun e => decide (fr e = pl)) e))), some (.int (nI e)), none] [] ([mO ax r (n) (m) (sl) (pr) (wy) (fo) (ru) (pl) (pk) (rs) (es), (r 2, .inl (cI, 24, .inl (aN (fr))))])) m (fun e he ih => ?_) 0 (Nat.zero_le _)
  refine z_iload_n hX 3 dM_pick_4 rfl rfl ?_
  refine z_aload_n hX 0 dM_pick_5 rfl rfl ?_
  refine z_get hX 0 1 rfl rfl (zu inM) (by decide) (List.mem_cons_of_mem _ mw_553) rfl dM_pick_6 ?_
  refine z_icmp_geN hX 39 (by omega) (by omega) dM_pick_9 rfl (fun h9 => ?_) (fun h9 => ?_)
  · have hem : e = m := by omega
    rw [hem]
    exact z_le2 hX cut39 (And.intro rfl (And.intro rfl (And.intro rfl trivial)))
  · have hfe := hfr e (by omega)
    refine z_aload_n hX 0 dM_pick_12 rfl rfl ?_
    refine z_get hX 0 2 rfl rfl (zu inM) (by decide) (List.mem_cons_of_mem _ mw_554) rfl dM_pick_13 ?_
    refine z_iload_n hX 3 dM_pick_16 rfl rfl ?_
    refine z_ldN hX 1 0 _ rfl rfl rfl (by omega) (by decide) dM_pick_17 ?_
    refine z_aload_n hX 0 dM_pick_18 rfl rfl ?_
    refine z_get hX 0 29 rfl rfl (zu inM) (by decide) (List.mem_cons_of_mem _ mw_581) rfl dM_pick_19 ?_
    refine z_icmp_neN hX 31 (by omega) (by omega) dM_pick_22 rfl (fun h22 => ?_) (fun h22 => ?_)
    · have hs : sp_cnt (fun e => decide (fr e = pl)) (e + 1) = sp_cnt (fun e => decide (fr e = pl)) e := by show _ + (if decide (fr e = pl) = true then 1 else 0) = _; rw [if_neg (fun hc => h22 (of_decide_eq_true hc))]; rfl
      refine z_iload_n hX 2 dM_pick_31 rfl rfl ?_
      refine z_istore_n hX 2 dM_pick_32 rfl (by decide) ?_
      refine z_iinc hX 3 dM_pick_33 rfl (zi_1 _) (by decide) ?_
      refine z_goto hX 4 dM_pick_36 rfl ?_
      have hz := ih (by omega)
      rw [hs] at hz
      exact hz
    · have hs : sp_cnt (fun e => decide (fr e = pl)) (e + 1) = sp_cnt (fun e => decide (fr e = pl)) e + 1 := by show _ + (if decide (fr e = pl) = true then 1 else 0) = _; rw [if_pos (decide_eq_true h22)]
      refine z_iload_n hX 2 dM_pick_25 rfl rfl ?_
      refine z_iconst hX (nI 1) dM_pick_26 rfl ?_
      refine z_iaddN hX dM_pick_27 ?_
      refine z_goto hX 32 dM_pick_28 rfl ?_
      refine z_istore_n hX 2 dM_pick_32 rfl (by decide) ?_
      refine z_iinc hX 3 dM_pick_33 rfl (zi_1 _) (by decide) ?_
      refine z_goto hX 4 dM_pick_36 rfl ?_
      have hz := ih (by omega)
      rw [hs] at hz
      exact hz

set_option maxHeartbeats 400000 in
set_option maxRecDepth 100000 in
theorem kM_take (l : Launch) (D : va_G) (cI cZ : ClassId) (ax : Nat) (r : Nat → Nat) (n m : Nat) (sl : Bool) (pr wy fo : Nat) (ru : Bool) (pl pk : Nat) (rs es : Int) (fr : Nat → Nat) (to : Nat → Nat) (bk : Nat → Bool) (wl wk tc : Nat → Nat) (ec bc wc : Nat → Int) (x : Int32) (hpl : pl < 12) (hfr : ∀ e, e < m → fr e < n) (hm : m ≤ 24) (hn : n ≤ 12) (hpk : pk < 16) (hto : ∀ e, e < m → to e < n) (hwy : wy ≤ 200) (hwl : ∀ w, w < wy → wl w ≤ 16) (hwk : ∀ w i, w < wy → i < 16 → wk (16 * w + i) < 2147483648) (htc : ∀ i, i < pk → tc i < 2147483648) : zM l yM_take wM_take rM_take D zCl (zTy cI cZ) zNW 0 0 [.ref ax, .int x] ([mO ax r (n) (m) (sl) (pr) (wy) (fo) (ru) (pl) (pk) (rs) (es), (r 2, .inl (cI, 24, .inl (aN (fr)))), (r 3, .inl (cI, 24, .inl (aN (to)))), (r 8, .inl (cZ, 24, .inl (aB (bk)))), (r 24, .inl (cI, 200, .inl (aN (wl)))), (r 25, .inl (cI, 3200, .inl (aN (wk)))), (r 31, .inl (cI, 16, .inl (aN (tc)))), (r 32, .inl (cI, 24, .inl (aI (ec)))), (r 33, .inl (cI, 12, .inl (aI (bc)))), (r 34, .inl (cI, 200, .inl (aI (wc))))]) (fun v wn => ((∀ i, i < m → x = nI i → sl = true → ru = true → fr i ≠ pl) → v = some (.int (-1)) ∧ wn = [mO ax r (n) (m) (sl) (pr) (wy) (fo) (ru) (pl) (pk) (rs) (es), (r 2, .inl (cI, 24, .inl (aN (fr)))), (r 3, .inl (cI, 24, .inl (aN (to)))), (r 8, .inl (cZ, 24, .inl (aB (bk)))), (r 24, .inl (cI, 200, .inl (aN (wl)))), (r 25, .inl (cI, 3200, .inl (aN (wk)))), (r 31, .inl (cI, 16, .inl (aN (tc)))), (r 32, .inl (cI, 24, .inl (aI (ec)))), (r 33, .inl (cI, 12, .inl (aI (bc)))), (r 34, .inl (cI, 200, .inl (aI (wc))))]) ∧ ∀ i, i < m → x = nI i → sl = true → ru = true → fr i = pl → v = some (.int (nI (to i))) ∧ wn = [mO ax r (n) (m) (sl) (pr) (wy) (fo) (zpR (bk i) (to i) ru) (to i) (zpK (bk i) pk) (rs) (zpE (bk i) (to i) es), (r 2, .inl (cI, 24, .inl (aN (fr)))), (r 3, .inl (cI, 24, .inl (aN (to)))), (r 8, .inl (cZ, 24, .inl (aB (bk)))), (r 24, .inl (cI, 200, .inl (aN (wl)))), (r 25, .inl (cI, 3200, .inl (aN (wk)))), (r 31, .inl (cI, 16, .inl (aN (zpT (bk i) tc pk i)))), (r 32, .inl (cI, 24, .inl (aI (va_up ec i (ec i + 1))))), (r 33, .inl (cI, 12, .inl (aI (va_up bc (to i) (bc (to i) + 1))))), (r 34, .inl (cI, 200, .inl (aI (zpC (bk i) (to i) wl wk tc pk wy wc i))))]) := by
  refine z_met2 cM_take 2 (some .int) rfl rfl (Nat.le_of_ble_eq_true rfl) rfl (fun Z hX => ?_)
  show Z 0 0 0 [some (.ref ax), some (.int x)] [] ([mO ax r (n) (m) (sl) (pr) (wy) (fo) (ru) (pl) (pk) (rs) (es), (r 2, .inl (cI, 24, .inl (aN (fr)))), (r 3, .inl (cI, 24, .inl (aN (to)))), (r 8, .inl (cZ, 24, .inl (aB (bk)))), (r 24, .inl (cI, 200, .inl (aN (wl)))), (r 25, .inl (cI, 3200, .inl (aN (wk)))), (r 31, .inl (cI, 16, .inl (aN (tc)))), (r 32, .inl (cI, 24, .inl (aI (ec)))), (r 33, .inl (cI, 12, .inl (aI (bc)))), (r 34, .inl (cI, 200, .inl (aI (wc))))])
  refine z_aload_n hX 0 dM_take_0 rfl rfl ?_
  refine z_get hX 0 28 rfl rfl (zu inM) (by decide) (List.mem_cons_of_mem _ mw_580) rfl dM_take_1 ?_
  refine z_if_eqB hX 28 dM_take_4 rfl (fun h4 => ?_) (fun h4 => ?_)
  · refine z_iconst hX (-1) dM_take_28 rfl ?_
    refine z_iret hX rfl rfl rfl rfl dM_take_29 ?_
    refine ⟨fun _ => ⟨rfl, rfl⟩, fun j hj hx h1 h2 h3 => ?_⟩
    first
      | exact zbf h2 h4
      | exact zbf (show (sl && zin x m) = true by rw [h1, hx, zin_nI hj (by omega)]; rfl) h12
      | exact absurd ((nI_eq (a := i) (b := j) (by omega) (by omega)).mp hx ▸ h3) h25
  · refine z_aload_n hX 0 dM_take_7 rfl rfl ?_
    refine z_iload_n hX 1 dM_take_8 rfl rfl ?_
    refine z_Vr hX (kM_known l D cI cZ ax r n m sl pr wy fo ru pl pk rs es x) mw_755 mw_757 mp_3_9 mw_9 mw_758 rfl rfl ⟨rfl, by decide, by decide, rfl⟩ (by decide) 0 rfl rfl rfl rfl (Nat.le_of_ble_eq_true rfl) dM_take_9 (by decide) [0] rfl rfl (fun v wn hv => ?_)
    obtain ⟨rfl, rfl⟩ := hv
    refine ⟨rfl, ?_⟩
    refine z_if_eqB hX 28 dM_take_12 rfl (fun h12 => ?_) (fun h12 => ?_)
    · refine z_iconst hX (-1) dM_take_28 rfl ?_
      refine z_iret hX rfl rfl rfl rfl dM_take_29 ?_
      refine ⟨fun _ => ⟨rfl, rfl⟩, fun j hj hx h1 h2 h3 => ?_⟩
      first
        | exact zbf h2 h4
        | exact zbf (show (sl && zin x m) = true by rw [h1, hx, zin_nI hj (by omega)]; rfl) h12
        | exact absurd ((nI_eq (a := i) (b := j) (by omega) (by omega)).mp hx ▸ h3) h25
    · obtain ⟨hsd, i, hi, rfl⟩ := zkn (by omega) h12
      have hfi := hfr i hi
      have htoi := hto i hi
      refine z_aload_n hX 0 dM_take_15 rfl rfl ?_
      refine z_get hX 0 2 rfl rfl (zu inM) (by decide) (List.mem_cons_of_mem _ mw_554) rfl dM_take_16 ?_
      refine z_iload_n hX 1 dM_take_19 rfl rfl ?_
      refine z_ldN hX 1 0 _ rfl rfl rfl (by omega) (by decide) dM_take_20 ?_
      refine z_aload_n hX 0 dM_take_21 rfl rfl ?_
      refine z_get hX 0 29 rfl rfl (zu inM) (by decide) (List.mem_cons_of_mem _ mw_581) rfl dM_take_22 ?_
      refine z_icmp_eqN hX 30 (by omega) (by omega) dM_take_25 rfl (fun h25 => ?_) (fun h25 => ?_)
      · refine z_aload_n hX 0 dM_take_30 rfl rfl ?_
        refine z_iload_n hX 1 dM_take_31 rfl rfl ?_
        refine z_Vy hX (kM_pass l D cI cZ ax r n m sl pr wy fo ru pl pk rs es to bk wl wk tc ec bc wc i hi hm hn hpk hto hwy hwl hwk htc) mw_788 mw_790 mp_3_11 mw_9 mw_791 rfl rfl ⟨rfl, by decide, by decide, rfl⟩ (by decide) 0 rfl rfl rfl rfl (Nat.le_of_ble_eq_true rfl) dM_take_32 (by decide) [0, 2, 3, 4, 5, 6, 7, 8, 9] rfl rfl [1] 10 (by decide) (by decide) (fun v wn hv => ?_)
        obtain ⟨rfl, rfl⟩ := hv
        refine ⟨[mO ax r (n) (m) (sl) (pr) (wy) (fo) (zpR (bk i) (to i) ru) (to i) (zpK (bk i) pk) (rs) (zpE (bk i) (to i) es), (r 2, .inl (cI, 24, .inl (aN (fr)))), (r 3, .inl (cI, 24, .inl (aN (to)))), (r 8, .inl (cZ, 24, .inl (aB (bk)))), (r 24, .inl (cI, 200, .inl (aN (wl)))), (r 25, .inl (cI, 3200, .inl (aN (wk)))), (r 31, .inl (cI, 16, .inl (aN (zpT (bk i) tc pk i)))), (r 32, .inl (cI, 24, .inl (aI (va_up ec i (ec i + 1))))), (r 33, .inl (cI, 12, .inl (aI (va_up bc (to i) (bc (to i) + 1))))), (r 34, .inl (cI, 200, .inl (aI (zpC (bk i) (to i) wl wk tc pk wy wc i))))], rfl, (And.intro ⟨_, rfl, rfl⟩ trivial), rfl, ?_⟩
        refine z_aload_n hX 0 dM_take_35 rfl rfl ?_
        refine z_get hX 0 3 rfl rfl (zu inM) (by decide) (List.mem_cons_of_mem _ mw_555) rfl dM_take_36 ?_
        refine z_iload_n hX 1 dM_take_39 rfl rfl ?_
        refine z_ldN hX 2 0 _ rfl rfl rfl (by omega) (by decide) dM_take_40 ?_
        refine z_iret hX rfl rfl rfl rfl dM_take_41 ?_
        refine ⟨fun hc => absurd h25 (hc i hi rfl hsd h4), fun j hj hx h1 h2 h3 => ?_⟩
        have hij := (nI_eq (a := i) (b := j) (by omega) (by omega)).mp hx
        subst hij
        exact ⟨rfl, rfl⟩
      · refine z_iconst hX (-1) dM_take_28 rfl ?_
        refine z_iret hX rfl rfl rfl rfl dM_take_29 ?_
        refine ⟨fun _ => ⟨rfl, rfl⟩, fun j hj hx h1 h2 h3 => ?_⟩
        first
          | exact zbf h2 h4
          | exact zbf (show (sl && zin x m) = true by rw [h1, hx, zin_nI hj (by omega)]; rfl) h12
          | exact absurd ((nI_eq (a := i) (b := j) (by omega) (by omega)).mp hx ▸ h3) h25

