/-! the reference: deepen -/
def zm0 (fr to : Nat → Nat) (S : Nat → Bool) (e i : Nat) : Nat → Bool := fun y => if y < i then decide (y = fr e ∧ y ≠ to e) else S y
theorem zm0_0 (fr to : Nat → Nat) (S : Nat → Bool) (e : Nat) : zm0 fr to S e 0 = S := by
  funext y
  exact if_neg (by omega)
theorem zm0_up (fr to : Nat → Nat) (S : Nat → Bool) (e i : Nat) : zm0 fr to S e (i + 1) = va_up (zm0 fr to S e i) i (decide (i = fr e ∧ i ≠ to e)) := by
  funext y
  by_cases h : y = i
  · subst h; rw [sp_up_s]; exact if_pos (by omega)
  · rw [sp_up_n _ _ h]
    show (if y < i + 1 then decide (y = fr e ∧ y ≠ to e) else S y) = (if y < i then decide (y = fr e ∧ y ≠ to e) else S y)
    by_cases hc : y < i
    · rw [if_pos hc, if_pos (by omega)]
    · rw [if_neg hc, if_neg (by omega)]
theorem va_up_same {α : Type} (f : Nat → α) (i : Nat) : va_up f i (f i) = f := by
  funext x
  by_cases h : x = i
  · subst h; rw [sp_up_s]
  · rw [sp_up_n _ _ h]
def zrT (fr to : Nat → Nat) (m n e : Nat) (S : Nat → Bool) : Nat → Bool := va_up (sp_it (fun _ => sr_r fr to (some (to e)) m) n (zm0 fr to S e n)) (to e) true
def zrd (fr to : Nat → Nat) (bk : Nat → Bool) (m n e : Nat) (s : (Nat → Nat) × (Nat → Bool)) : (Nat → Nat) × (Nat → Bool) := if bk e = true then (zdp s.1 (zrT fr to m n e s.2) n, zrT fr to m n e s.2) else s
set_option maxHeartbeats 400000 in
set_option maxRecDepth 100000 in
theorem kM_deepen (l : Launch) (D : va_G) (cI cZ : ClassId) (ax : Nat) (r : Nat → Nat) (n m : Nat) (sl : Bool) (pr wy fo : Nat) (ru : Bool) (pl pk : Nat) (rs es : Int) (fr to : Nat → Nat) (bk S0 : Nat → Bool) (dep : Nat → Nat) (hn : 2 ≤ n ∧ n ≤ 12) (hm : m ≤ 24) (hok : ∀ e, e < m → fr e < n ∧ to e < n) : zM l yM_deepen wM_deepen rM_deepen D zCl (zTy cI cZ) zNW 0 0 [.ref ax] ([mO ax r (n) (m) (sl) (pr) (wy) (fo) (ru) (pl) (pk) (rs) (es), (r 2, .inl (cI, 24, .inl (aN (fr)))), (r 3, .inl (cI, 24, .inl (aN (to)))), (r 8, .inl (cZ, 24, .inl (aB (bk)))), (r 9, .inl (cZ, 12, .inl (aB (S0)))), (r 10, .inl (cI, 12, .inl (aN (dep))))]) (fun v wn => v = none ∧ ∃ d S, sp_it (zrd fr to bk m n) m (zfill dep 0 n, S0) = (d, S) ∧ wn = [mO ax r (n) (m) (sl) (pr) (wy) (fo) (ru) (pl) (pk) (rs) (es), (r 2, .inl (cI, 24, .inl (aN (fr)))), (r 3, .inl (cI, 24, .inl (aN (to)))), (r 8, .inl (cZ, 24, .inl (aB (bk)))), (r 9, .inl (cZ, 12, .inl (aB (S)))), (r 10, .inl (cI, 12, .inl (aN (d))))]) := by
  refine z_met2 cM_deepen 4 none rfl rfl (Nat.le_of_ble_eq_true rfl) rfl (fun Z hX => ?_)
  show Z 0 0 0 [some (.ref ax), none, none, none] [] ([mO ax r (n) (m) (sl) (pr) (wy) (fo) (ru) (pl) (pk) (rs) (es), (r 2, .inl (cI, 24, .inl (aN (fr)))), (r 3, .inl (cI, 24, .inl (aN (to)))), (r 8, .inl (cZ, 24, .inl (aB (bk)))), (r 9, .inl (cZ, 12, .inl (aB (S0)))), (r 10, .inl (cI, 12, .inl (aN (dep))))])
  refine z_iconst hX (nI 0) dM_deepen_0 rfl ?_
  refine z_istore_n hX 1 dM_deepen_1 rfl (by decide) ?_
  have hloop : ∀ i, i ≤ n → Z 0 0 2 [some (.ref ax), some (.int (nI i)), none, none] [] ([mO ax r (n) (m) (sl) (pr) (wy) (fo) (ru) (pl) (pk) (rs) (es), (r 2, .inl (cI, 24, .inl (aN (fr)))), (r 3, .inl (cI, 24, .inl (aN (to)))), (r 8, .inl (cZ, 24, .inl (aB (bk)))), (r 9, .inl (cZ, 12, .inl (aB (S0)))), (r 10, .inl (cI, 12, .inl (aN (zfill dep 0 i))))]) := by
    refine zloop (P := fun i => Z 0 0 2 [some (.ref ax), some (.int (nI i)), none, none] [] ([mO ax r (n) (m) (sl) (pr) (wy) (fo) (ru) (pl) (pk) (rs) (es), (r 2, .inl (cI, 24, .inl (aN (fr)))), (r 3, .inl (cI, 24, .inl (aN (to)))), (r 8, .inl (cZ, 24, .inl (aB (bk)))), (r 9, .inl (cZ, 12, .inl (aB (S0)))), (r 10, .inl (cI, 12, .inl (aN (zfill dep 0 i))))])) n (fun i hi ih => ?_)
    refine z_iload_n hX 1 dM_deepen_2 rfl rfl ?_
    refine z_aload_n hX 0 dM_deepen_3 rfl rfl ?_
    refine z_get hX 0 0 rfl rfl (zu inM) (by decide) (List.mem_cons_of_mem _ mw_552) rfl dM_deepen_4 ?_
    refine z_icmp_geN hX 23 (by omega) (by omega) dM_deepen_7 rfl (fun h7 => ?_) (fun h7 => ?_)
    · have him : i = n := by omega
      rw [him]
      refine z_iconst hX (nI 0) dM_deepen_23 rfl ?_
      refine z_istore_n hX 1 dM_deepen_24 rfl (by decide) ?_
      have hloop2 : ∀ e, e ≤ m → ∀ d S, sp_it (zrd fr to bk m n) e (zfill dep 0 n, S0) = (d, S) → Z 0 0 25 [some (.ref ax), some (.int (nI e)), none, none] [] ([mO ax r (n) (m) (sl) (pr) (wy) (fo) (ru) (pl) (pk) (rs) (es), (r 2, .inl (cI, 24, .inl (aN (fr)))), (r 3, .inl (cI, 24, .inl (aN (to)))), (r 8, .inl (cZ, 24, .inl (aB (bk)))), (r 9, .inl (cZ, 12, .inl (aB (S)))), (r 10, .inl (cI, 12, .inl (aN (d))))]) := by
        refine zloop (P := fun e => ∀ d S, sp_it (zrd fr to bk m n) e (zfill dep 0 n, S0) = (d, S) → Z 0 0 25 [some (.ref ax), some (.int (nI e)), none, none] [] ([mO ax r (n) (m) (sl) (pr) (wy) (fo) (ru) (pl) (pk) (rs) (es), (r 2, .inl (cI, 24, .inl (aN (fr)))), (r 3, .inl (cI, 24, .inl (aN (to)))), (r 8, .inl (cZ, 24, .inl (aB (bk)))), (r 9, .inl (cZ, 12, .inl (aB (S)))), (r 10, .inl (cI, 12, .inl (aN (d))))])) m (fun e he ih2 => ?_)
        intro d S hx
        refine z_iload_n hX 1 dM_deepen_25 rfl rfl ?_
        refine z_aload_n hX 0 dM_deepen_26 rfl rfl ?_
        refine z_get hX 0 1 rfl rfl (zu inM) (by decide) (List.mem_cons_of_mem _ mw_553) rfl dM_deepen_27 ?_
        refine z_icmp_geN hX 157 (by omega) (by omega) dM_deepen_30 rfl (fun h30 => ?_) (fun h30 => ?_)
        · refine z_vret hX rfl rfl rfl dM_deepen_157 ?_
          have hem : e = m := by omega
          subst hem
          exact ⟨rfl, d, S, hx, rfl⟩
        · have hoke := hok e (by omega)
          refine z_aload_n hX 0 dM_deepen_33 rfl rfl ?_
          refine z_get hX 0 8 rfl rfl (zu inM) (by decide) (List.mem_cons_of_mem _ mw_560) rfl dM_deepen_34 ?_
          refine z_iload_n hX 1 dM_deepen_37 rfl rfl ?_
          refine z_ldB hX 3 1 _ rfl rfl rfl (by omega) (by decide) dM_deepen_38 ?_
          refine z_if_eqB hX 151 dM_deepen_39 rfl (fun h39 => ?_) (fun h39 => ?_)
          · have hnext : sp_it (zrd fr to bk m n) (e + 1) (zfill dep 0 n, S0) = (d, S) := (if_neg (by rw [h39]; decide)).trans hx
            first
              | rw [show q = n by omega]
              | skip
            refine z_iinc hX 1 dM_deepen_151 rfl (zi_1 _) (by decide) ?_
            refine z_goto hX 25 dM_deepen_154 rfl ?_
            exact z_le2 hX (ih2 (by omega) _ _ hnext) (And.intro rfl (And.intro rfl trivial))
          · have hnext : sp_it (zrd fr to bk m n) (e + 1) (zfill dep 0 n, S0) = (zdp d (zrT fr to m n e S) n, zrT fr to m n e S) := by
              have h9 := congrArg (zrd fr to bk m n e) hx
              exact h9.trans (if_pos h39)
            refine z_aload_n hX 0 dM_deepen_42 rfl rfl ?_
            refine z_get hX 0 3 rfl rfl (zu inM) (by decide) (List.mem_cons_of_mem _ mw_555) rfl dM_deepen_43 ?_
            refine z_iload_n hX 1 dM_deepen_46 rfl rfl ?_
            refine z_ldN hX 2 0 _ rfl rfl rfl (by omega) (by decide) dM_deepen_47 ?_
            refine z_istore_n hX 2 dM_deepen_48 rfl (by decide) ?_
            refine z_iconst hX (nI 0) dM_deepen_49 rfl ?_
            refine z_istore_n hX 3 dM_deepen_50 rfl (by decide) ?_
            have hloop3 : ∀ i, i ≤ n → Z 0 0 51 [some (.ref ax), some (.int (nI e)), some (.int (nI (to e))), some (.int (nI i))] [] ([mO ax r (n) (m) (sl) (pr) (wy) (fo) (ru) (pl) (pk) (rs) (es), (r 2, .inl (cI, 24, .inl (aN (fr)))), (r 3, .inl (cI, 24, .inl (aN (to)))), (r 8, .inl (cZ, 24, .inl (aB (bk)))), (r 9, .inl (cZ, 12, .inl (aB (zm0 fr to S e i)))), (r 10, .inl (cI, 12, .inl (aN (d))))]) := by
              refine zloop (P := fun i => Z 0 0 51 [some (.ref ax), some (.int (nI e)), some (.int (nI (to e))), some (.int (nI i))] [] ([mO ax r (n) (m) (sl) (pr) (wy) (fo) (ru) (pl) (pk) (rs) (es), (r 2, .inl (cI, 24, .inl (aN (fr)))), (r 3, .inl (cI, 24, .inl (aN (to)))), (r 8, .inl (cZ, 24, .inl (aB (bk)))), (r 9, .inl (cZ, 12, .inl (aB (zm0 fr to S e i)))), (r 10, .inl (cI, 12, .inl (aN (d))))])) n (fun i hi3 ih3 => ?_)
              refine z_iload_n hX 3 dM_deepen_51 rfl rfl ?_
              refine z_aload_n hX 0 dM_deepen_52 rfl rfl ?_
              refine z_get hX 0 0 rfl rfl (zu inM) (by decide) (List.mem_cons_of_mem _ mw_552) rfl dM_deepen_53 ?_
              refine z_icmp_geN hX 91 (by omega) (by omega) dM_deepen_56 rfl (fun h56 => ?_) (fun h56 => ?_)
              · have hin3 : i = n := by omega
                rw [hin3]
                refine z_aload_n hX 0 dM_deepen_91 rfl rfl ?_
                refine z_iload_n hX 2 dM_deepen_92 rfl rfl ?_
                refine z_Vy hX (kM_spread l D cI cZ ax r n m sl pr wy fo ru pl pk rs es fr to (zm0 fr to S e n) (some (to e)) (fun b hb => by cases hb; omega) hn hm hok) mw_691 mw_693 mp_2_10 mw_9 mw_694 rfl rfl ⟨rfl, by decide, by decide, rfl⟩ (by decide) 0 rfl rfl rfl rfl (Nat.le_of_ble_eq_true rfl) dM_deepen_93 (by decide) [0, 1, 2, 4] rfl rfl [3, 5] 6 (by decide) (by decide) (fun v wn hv => ?_)
                obtain ⟨rfl, rfl⟩ := hv
                refine ⟨[mO ax r (n) (m) (sl) (pr) (wy) (fo) (ru) (pl) (pk) (rs) (es), (r 2, .inl (cI, 24, .inl (aN (fr)))), (r 3, .inl (cI, 24, .inl (aN (to)))), (r 8, .inl (cZ, 24, .inl (aB (bk)))), (r 9, .inl (cZ, 12, .inl (aB (sp_it (fun _ => sr_r fr to (some (to e)) m) n (zm0 fr to S e n))))), (r 10, .inl (cI, 12, .inl (aN (d))))], rfl, (And.intro ⟨_, rfl, rfl⟩ (And.intro ⟨_, rfl, rfl⟩ trivial)), rfl, ?_⟩
                refine z_aload_n hX 0 dM_deepen_96 rfl rfl ?_
                refine z_get hX 0 9 rfl rfl (zu inM) (by decide) (List.mem_cons_of_mem _ mw_561) rfl dM_deepen_97 ?_
                refine z_iload_n hX 2 dM_deepen_100 rfl rfl ?_
                refine z_iconst hX (bN true) dM_deepen_101 rfl ?_
                refine z_stB hX 4 1 _ _ rfl rfl rfl rfl (by omega) (by decide) dM_deepen_102 ?_
                refine z_iconst hX (nI 0) dM_deepen_103 rfl ?_
                refine z_istore_n hX 3 dM_deepen_104 rfl (by decide) ?_
                have hloop4 : ∀ q, q ≤ n → Z 0 0 105 [some (.ref ax), some (.int (nI e)), some (.int (nI (to e))), some (.int (nI q))] [] ([mO ax r (n) (m) (sl) (pr) (wy) (fo) (ru) (pl) (pk) (rs) (es), (r 2, .inl (cI, 24, .inl (aN (fr)))), (r 3, .inl (cI, 24, .inl (aN (to)))), (r 8, .inl (cZ, 24, .inl (aB (bk)))), (r 9, .inl (cZ, 12, .inl (aB (zrT fr to m n e S)))), (r 10, .inl (cI, 12, .inl (aN (zdp d (zrT fr to m n e S) q))))]) := by
                  refine zloop (P := fun q => Z 0 0 105 [some (.ref ax), some (.int (nI e)), some (.int (nI (to e))), some (.int (nI q))] [] ([mO ax r (n) (m) (sl) (pr) (wy) (fo) (ru) (pl) (pk) (rs) (es), (r 2, .inl (cI, 24, .inl (aN (fr)))), (r 3, .inl (cI, 24, .inl (aN (to)))), (r 8, .inl (cZ, 24, .inl (aB (bk)))), (r 9, .inl (cZ, 12, .inl (aB (zrT fr to m n e S)))), (r 10, .inl (cI, 12, .inl (aN (zdp d (zrT fr to m n e S) q))))])) n (fun q hq4 ih4 => ?_)
                  refine z_iload_n hX 3 dM_deepen_105 rfl rfl ?_
                  refine z_aload_n hX 0 dM_deepen_106 rfl rfl ?_
                  refine z_get hX 0 0 rfl rfl (zu inM) (by decide) (List.mem_cons_of_mem _ mw_552) rfl dM_deepen_107 ?_
                  refine z_icmp_geN hX 151 (by omega) (by omega) dM_deepen_110 rfl (fun h110 => ?_) (fun h110 => ?_)
                  · first
                      | rw [show q = n by omega]
                      | skip
                    refine z_iinc hX 1 dM_deepen_151 rfl (zi_1 _) (by decide) ?_
                    refine z_goto hX 25 dM_deepen_154 rfl ?_
                    exact z_le2 hX (ih2 (by omega) _ _ hnext) (And.intro rfl (And.intro rfl trivial))
                  · refine z_aload_n hX 0 dM_deepen_113 rfl rfl ?_
                    refine z_get hX 0 10 rfl rfl (zu inM) (by decide) (List.mem_cons_of_mem _ mw_562) rfl dM_deepen_114 ?_
                    refine z_iload_n hX 3 dM_deepen_117 rfl rfl ?_
                    refine z_aload_n hX 0 dM_deepen_118 rfl rfl ?_
                    refine z_get hX 0 9 rfl rfl (zu inM) (by decide) (List.mem_cons_of_mem _ mw_561) rfl dM_deepen_119 ?_
                    refine z_iload_n hX 3 dM_deepen_122 rfl rfl ?_
                    refine z_ldB hX 4 1 _ rfl rfl rfl (by omega) (by decide) dM_deepen_123 ?_
                    refine z_if_eqB hX 138 dM_deepen_124 rfl (fun h124 => ?_) (fun h124 => ?_)
                    · have hs2 : zdp d (zrT fr to m n e S) (q + 1) = va_up (zdp d (zrT fr to m n e S) q) q (zdp d (zrT fr to m n e S) q q) := by rw [zdp_miss h124, va_up_same]
                      refine z_aload_n hX 0 dM_deepen_138 rfl rfl ?_
                      refine z_get hX 0 10 rfl rfl (zu inM) (by decide) (List.mem_cons_of_mem _ mw_562) rfl dM_deepen_139 ?_
                      refine z_iload_n hX 3 dM_deepen_142 rfl rfl ?_
                      refine z_ldN hX 5 0 _ rfl rfl rfl (by omega) (by decide) dM_deepen_143 ?_
                      refine z_stN hX 5 0 _ _ rfl rfl rfl rfl (by omega) (by decide) dM_deepen_144 ?_
                      refine z_iinc hX 3 dM_deepen_145 rfl (zi_1 _) (by decide) ?_
                      refine z_goto hX 105 dM_deepen_148 rfl ?_
                      have hz := ih4 (by omega)
                      rw [hs2] at hz
                      exact hz
                    · have hs2 : zdp d (zrT fr to m n e S) (q + 1) = va_up (zdp d (zrT fr to m n e S) q) q (zdp d (zrT fr to m n e S) q q + 1) := by rw [zdp_hit h124, zdp_at]
                      refine z_aload_n hX 0 dM_deepen_127 rfl rfl ?_
                      refine z_get hX 0 10 rfl rfl (zu inM) (by decide) (List.mem_cons_of_mem _ mw_562) rfl dM_deepen_128 ?_
                      refine z_iload_n hX 3 dM_deepen_131 rfl rfl ?_
                      refine z_ldN hX 5 0 _ rfl rfl rfl (by omega) (by decide) dM_deepen_132 ?_
                      refine z_iconst hX (nI 1) dM_deepen_133 rfl ?_
                      refine z_iaddN hX dM_deepen_134 ?_
                      refine z_goto hX 144 dM_deepen_135 rfl ?_
                      refine z_stN hX 5 0 _ _ rfl rfl rfl rfl (by omega) (by decide) dM_deepen_144 ?_
                      refine z_iinc hX 3 dM_deepen_145 rfl (zi_1 _) (by decide) ?_
                      refine z_goto hX 105 dM_deepen_148 rfl ?_
                      have hz := ih4 (by omega)
                      rw [hs2] at hz
                      exact hz
                have hz := hloop4 0 (Nat.zero_le _)
                rw [zdp_0] at hz
                exact hz
              · refine z_aload_n hX 0 dM_deepen_59 rfl rfl ?_
                refine z_get hX 0 9 rfl rfl (zu inM) (by decide) (List.mem_cons_of_mem _ mw_561) rfl dM_deepen_60 ?_
                refine z_iload_n hX 3 dM_deepen_63 rfl rfl ?_
                refine z_iload_n hX 3 dM_deepen_64 rfl rfl ?_
                refine z_aload_n hX 0 dM_deepen_65 rfl rfl ?_
                refine z_get hX 0 2 rfl rfl (zu inM) (by decide) (List.mem_cons_of_mem _ mw_554) rfl dM_deepen_66 ?_
                refine z_iload_n hX 1 dM_deepen_69 rfl rfl ?_
                refine z_ldN hX 1 0 _ rfl rfl rfl (by omega) (by decide) dM_deepen_70 ?_
                refine z_icmp_neN hX 83 (by omega) (by omega) dM_deepen_71 rfl (fun h71 => ?_) (fun h71 => ?_)
                · have hd1 : decide (i = fr e ∧ i ≠ to e) = false := decide_eq_false (fun hc => h71 hc.1)
                  refine z_iconst hX (bN false) dM_deepen_83 rfl ?_
                  refine z_stB hX 4 1 _ _ rfl rfl rfl rfl (by omega) (by decide) dM_deepen_84 ?_
                  refine z_iinc hX 3 dM_deepen_85 rfl (zi_1 _) (by decide) ?_
                  refine z_goto hX 51 dM_deepen_88 rfl ?_
                  have hz := ih3 (by omega)
                  rw [zm0_up, hd1] at hz
                  exact hz
                · refine z_iload_n hX 3 dM_deepen_74 rfl rfl ?_
                  refine z_iload_n hX 2 dM_deepen_75 rfl rfl ?_
                  refine z_icmp_eqN hX 83 (by omega) (by omega) dM_deepen_76 rfl (fun h76 => ?_) (fun h76 => ?_)
                  · have hd1 : decide (i = fr e ∧ i ≠ to e) = false := decide_eq_false (fun hc => hc.2 h76)
                    refine z_iconst hX (bN false) dM_deepen_83 rfl ?_
                    refine z_stB hX 4 1 _ _ rfl rfl rfl rfl (by omega) (by decide) dM_deepen_84 ?_
                    refine z_iinc hX 3 dM_deepen_85 rfl (zi_1 _) (by decide) ?_
                    refine z_goto hX 51 dM_deepen_88 rfl ?_
                    have hz := ih3 (by omega)
                    rw [zm0_up, hd1] at hz
                    exact hz
                  · have hd1 : decide (i = fr e ∧ i ≠ to e) = true := decide_eq_true ⟨h71, h76⟩
                    refine z_iconst hX (bN true) dM_deepen_79 rfl ?_
                    refine z_goto hX 84 dM_deepen_80 rfl ?_
                    refine z_stB hX 4 1 _ _ rfl rfl rfl rfl (by omega) (by decide) dM_deepen_84 ?_
                    refine z_iinc hX 3 dM_deepen_85 rfl (zi_1 _) (by decide) ?_
                    refine z_goto hX 51 dM_deepen_88 rfl ?_
                    have hz := ih3 (by omega)
                    rw [zm0_up, hd1] at hz
                    exact hz
            have hz := hloop3 0 (Nat.zero_le _)
            rw [zm0_0] at hz
            exact hz
      exact hloop2 0 (Nat.zero_le _) _ _ rfl
    · refine z_aload_n hX 0 dM_deepen_10 rfl rfl ?_
      refine z_get hX 0 10 rfl rfl (zu inM) (by decide) (List.mem_cons_of_mem _ mw_562) rfl dM_deepen_11 ?_
      refine z_iload_n hX 1 dM_deepen_14 rfl rfl ?_
      refine z_iconst hX (nI 0) dM_deepen_15 rfl ?_
      refine z_stN hX 5 0 _ _ rfl rfl rfl rfl (by omega) (by decide) dM_deepen_16 ?_
      refine z_iinc hX 1 dM_deepen_17 rfl (zi_1 _) (by decide) ?_
      refine z_goto hX 2 dM_deepen_20 rfl ?_
      have hz := ih (by omega)
      rw [zfillN_up] at hz
      exact hz
  have hz := hloop 0 (Nat.zero_le _)
  rw [zfill_0] at hz
  exact hz

