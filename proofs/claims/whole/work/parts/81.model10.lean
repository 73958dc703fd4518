/-! the reference: findBases -/
def zb2 (i : Nat) (S : Nat → Bool) : Nat → Bool := va_up S i (decide (i < 2))
def zbz0 (i : Nat) (B : Nat → Int) : Nat → Int := va_up B i 0
def zfb (isL lT : Nat → Bool) (lf lt Rw : Nat → Nat) (q : Nat) (s : (Nat → Bool) × (Nat → Int)) : (Nat → Bool) × (Nat → Int) :=
  if isL q = true ∧ lT q = true then
    if s.1 (lf q) = true ∧ s.1 (lt q) = false then (va_up s.1 (lt q) true, va_up s.2 (lt q) (s.2 (lf q) + (sw_V isL lf lt Rw q : Int)))
    else if s.1 (lt q) = true ∧ s.1 (lf q) = false then (va_up s.1 (lf q) true, va_up s.2 (lf q) (s.2 (lt q) - (sw_V isL lf lt Rw q : Int)))
    else s
  else s
set_option maxHeartbeats 400000 in
set_option maxRecDepth 100000 in
theorem kM_findBases (l : Launch) (D : va_G) (cI cZ : ClassId) (ax : Nat) (r : Nat → Nat) (n m : Nat) (sl : Bool) (pr wy fo : Nat) (ru : Bool) (pl pk : Nat) (rs es : Int) (isL lT : Nat → Bool) (lf lt Rw : Nat → Nat) (S0 : Nat → Bool) (B0 : Nat → Int) (hn : 2 ≤ n ∧ n ≤ 12) (hlk : ∀ l, l < 48 → isL l = true → lf l < 12 ∧ lt l < 12) : zM l yM_findBases wM_findBases rM_findBases D zCl (zTy cI cZ) zNW 0 0 [.ref ax] ([mO ax r (n) (m) (sl) (pr) (wy) (fo) (ru) (pl) (pk) (rs) (es), (r 13, .inl (cZ, 48, .inl (aB (isL)))), (r 14, .inl (cI, 48, .inl (aN (lf)))), (r 15, .inl (cI, 48, .inl (aN (lt)))), (r 16, .inl (cI, 12, .inl (aN (Rw)))), (r 17, .inl (cZ, 48, .inl (aB (lT)))), (r 18, .inl (cZ, 12, .inl (aB (S0)))), (r 19, .inl (cI, 12, .inl (aI (B0))))]) (fun v wn => v = none ∧ ∃ S B, sp_it (fun _ p => sp_it (zfb isL lT lf lt Rw) 48 p) n (sp_it zb2 n S0, sp_it zbz0 n B0) = (S, B) ∧ wn = [mO ax r (n) (m) (sl) (pr) (wy) (fo) (ru) (pl) (pk) (rs) (es), (r 13, .inl (cZ, 48, .inl (aB (isL)))), (r 14, .inl (cI, 48, .inl (aN (lf)))), (r 15, .inl (cI, 48, .inl (aN (lt)))), (r 16, .inl (cI, 12, .inl (aN (Rw)))), (r 17, .inl (cZ, 48, .inl (aB (lT)))), (r 18, .inl (cZ, 12, .inl (aB (S)))), (r 19, .inl (cI, 12, .inl (aI (B))))]) := by
  refine z_met2 cM_findBases 5 none rfl rfl (Nat.le_of_ble_eq_true rfl) rfl (fun Z hX => ?_)
  show Z 0 0 0 [some (.ref ax), none, none, none, none] [] ([mO ax r (n) (m) (sl) (pr) (wy) (fo) (ru) (pl) (pk) (rs) (es), (r 13, .inl (cZ, 48, .inl (aB (isL)))), (r 14, .inl (cI, 48, .inl (aN (lf)))), (r 15, .inl (cI, 48, .inl (aN (lt)))), (r 16, .inl (cI, 12, .inl (aN (Rw)))), (r 17, .inl (cZ, 48, .inl (aB (lT)))), (r 18, .inl (cZ, 12, .inl (aB (S0)))), (r 19, .inl (cI, 12, .inl (aI (B0))))])
  refine z_iconst hX (nI 0) dM_findBases_0 rfl ?_
  refine z_istore_n hX 1 dM_findBases_1 rfl (by decide) ?_
  refine zloop (P := fun i => Z 0 0 2 [some (.ref ax), some (.int (nI i)), none, none, none] [] ([mO ax r (n) (m) (sl) (pr) (wy) (fo) (ru) (pl) (pk) (rs) (es), (r 13, .inl (cZ, 48, .inl (aB (isL)))), (r 14, .inl (cI, 48, .inl (aN (lf)))), (r 15, .inl (cI, 48, .inl (aN (lt)))), (r 16, .inl (cI, 12, .inl (aN (Rw)))), (r 17, .inl (cZ, 48, .inl (aB (lT)))), (r 18, .inl (cZ, 12, .inl (aB (sp_it zb2 i S0)))), (r 19, .inl (cI, 12, .inl (aI (sp_it zbz0 i B0))))])) n (fun i hi ih => ?_) 0 (Nat.zero_le _)
  refine z_iload_n hX 1 dM_findBases_2 rfl rfl ?_
  refine z_aload_n hX 0 dM_findBases_3 rfl rfl ?_
  refine z_get hX 0 0 rfl rfl (zu inM) (by decide) (List.mem_cons_of_mem _ mw_552) rfl dM_findBases_4 ?_
  refine z_icmp_geN hX 39 (by omega) (by omega) dM_findBases_7 rfl (fun h7 => ?_) (fun h7 => ?_)
  · have hin : i = n := by omega
    rw [hin]
    refine z_iconst hX (nI 0) dM_findBases_39 rfl ?_
    refine z_istore_n hX 1 dM_findBases_40 rfl (by decide) ?_
    have hloop : ∀ j, j ≤ n → ∀ S B, sp_it (fun _ p => sp_it (zfb isL lT lf lt Rw) 48 p) j (sp_it zb2 n S0, sp_it zbz0 n B0) = (S, B) → Z 0 0 41 [some (.ref ax), some (.int (nI j)), none, none, none] [] ([mO ax r (n) (m) (sl) (pr) (wy) (fo) (ru) (pl) (pk) (rs) (es), (r 13, .inl (cZ, 48, .inl (aB (isL)))), (r 14, .inl (cI, 48, .inl (aN (lf)))), (r 15, .inl (cI, 48, .inl (aN (lt)))), (r 16, .inl (cI, 12, .inl (aN (Rw)))), (r 17, .inl (cZ, 48, .inl (aB (lT)))), (r 18, .inl (cZ, 12, .inl (aB (S)))), (r 19, .inl (cI, 12, .inl (aI (B))))]) := by
      refine zloop (P := fun j => ∀ S B, sp_it (fun _ p => sp_it (zfb isL lT lf lt Rw) 48 p) j (sp_it zb2 n S0, sp_it zbz0 n B0) = (S, B) → Z 0 0 41 [some (.ref ax), some (.int (nI j)), none, none, none] [] ([mO ax r (n) (m) (sl) (pr) (wy) (fo) (ru) (pl) (pk) (rs) (es), (r 13, .inl (cZ, 48, .inl (aB (isL)))), (r 14, .inl (cI, 48, .inl (aN (lf)))), (r 15, .inl (cI, 48, .inl (aN (lt)))), (r 16, .inl (cI, 12, .inl (aN (Rw)))), (r 17, .inl (cZ, 48, .inl (aB (lT)))), (r 18, .inl (cZ, 12, .inl (aB (S)))), (r 19, .inl (cI, 12, .inl (aI (B))))])) n (fun j hj ih2 => ?_)
      intro S B hx
      refine z_iload_n hX 1 dM_findBases_41 rfl rfl ?_
      refine z_aload_n hX 0 dM_findBases_42 rfl rfl ?_
      refine z_get hX 0 0 rfl rfl (zu inM) (by decide) (List.mem_cons_of_mem _ mw_552) rfl dM_findBases_43 ?_
      refine z_icmp_geN hX 196 (by omega) (by omega) dM_findBases_46 rfl (fun h46 => ?_) (fun h46 => ?_)
      · refine z_vret hX rfl rfl rfl dM_findBases_196 ?_
        have hjn : j = n := by omega
        rw [hjn] at hx
        exact ⟨rfl, S, B, hx, rfl⟩
      · refine z_iconst hX (nI 0) dM_findBases_49 rfl ?_
        refine z_istore_n hX 2 dM_findBases_50 rfl (by decide) ?_
        have hloop2 : ∀ q, q ≤ 48 → ∀ S1 B1, sp_it (zfb isL lT lf lt Rw) q (S, B) = (S1, B1) → Z 0 0 51 [some (.ref ax), some (.int (nI j)), some (.int (nI q)), none, none] [] ([mO ax r (n) (m) (sl) (pr) (wy) (fo) (ru) (pl) (pk) (rs) (es), (r 13, .inl (cZ, 48, .inl (aB (isL)))), (r 14, .inl (cI, 48, .inl (aN (lf)))), (r 15, .inl (cI, 48, .inl (aN (lt)))), (r 16, .inl (cI, 12, .inl (aN (Rw)))), (r 17, .inl (cZ, 48, .inl (aB (lT)))), (r 18, .inl (cZ, 12, .inl (aB (S1)))), (r 19, .inl (cI, 12, .inl (aI (B1))))]) := by
          refine zloop (P := fun q => ∀ S1 B1, sp_it (zfb isL lT lf lt Rw) q (S, B) = (S1, B1) → Z 0 0 51 [some (.ref ax), some (.int (nI j)), some (.int (nI q)), none, none] [] ([mO ax r (n) (m) (sl) (pr) (wy) (fo) (ru) (pl) (pk) (rs) (es), (r 13, .inl (cZ, 48, .inl (aB (isL)))), (r 14, .inl (cI, 48, .inl (aN (lf)))), (r 15, .inl (cI, 48, .inl (aN (lt)))), (r 16, .inl (cI, 12, .inl (aN (Rw)))), (r 17, .inl (cZ, 48, .inl (aB (lT)))), (r 18, .inl (cZ, 12, .inl (aB (S1)))), (r 19, .inl (cI, 12, .inl (aI (B1))))])) 48 (fun q hq ih3 => ?_)
          intro S1 B1 hy
          refine z_iload_n hX 2 dM_findBases_51 rfl rfl ?_
          refine z_bipush hX (nI 48) dM_findBases_52 (by decide) ?_
          refine z_icmp_geN hX 190 (by omega) (by omega) dM_findBases_54 rfl (fun h54 => ?_) (fun h54 => ?_)
          · have hq48 : q = 48 := by omega
            rw [hq48] at hy
            have hnext2 : sp_it (fun _ p => sp_it (zfb isL lT lf lt Rw) 48 p) (j + 1) (sp_it zb2 n S0, sp_it zbz0 n B0) = (S1, B1) := (congrArg (fun p => sp_it (zfb isL lT lf lt Rw) 48 p) hx).trans hy
            refine z_iinc hX 1 dM_findBases_190 rfl (zi_1 _) (by decide) ?_
            refine z_goto hX 41 dM_findBases_193 rfl ?_
            exact z_le2 hX (ih2 (by omega) _ _ hnext2) (And.intro rfl (And.intro rfl trivial))
          · have h9 := congrArg (zfb isL lT lf lt Rw q) hy
            refine z_aload_n hX 0 dM_findBases_57 rfl rfl ?_
            refine z_get hX 0 13 rfl rfl (zu inM) (by decide) (List.mem_cons_of_mem _ mw_565) rfl dM_findBases_58 ?_
            refine z_iload_n hX 2 dM_findBases_61 rfl rfl ?_
            refine z_ldB hX 1 1 _ rfl rfl rfl (by omega) (by decide) dM_findBases_62 ?_
            refine z_if_eqB hX 184 dM_findBases_63 rfl (fun h63 => ?_) (fun h63 => ?_)
            · have hnext : sp_it (zfb isL lT lf lt Rw) (q + 1) (S, B) = (S1, B1) := h9.trans (if_neg (fun hc => zbf hc.1 h63))
              refine z_iinc hX 2 dM_findBases_184 rfl (zi_1 _) (by decide) ?_
              refine z_goto hX 51 dM_findBases_187 rfl ?_
              exact z_le2 hX (ih3 (by omega) _ _ hnext) (And.intro rfl (And.intro rfl (And.intro rfl trivial)))
            · have hlq := hlk q (by omega) h63
              refine z_aload_n hX 0 dM_findBases_66 rfl rfl ?_
              refine z_get hX 0 17 rfl rfl (zu inM) (by decide) (List.mem_cons_of_mem _ mw_569) rfl dM_findBases_67 ?_
              refine z_iload_n hX 2 dM_findBases_70 rfl rfl ?_
              refine z_ldB hX 5 1 _ rfl rfl rfl (by omega) (by decide) dM_findBases_71 ?_
              refine z_if_eqB hX 184 dM_findBases_72 rfl (fun h72 => ?_) (fun h72 => ?_)
              · have hnext : sp_it (zfb isL lT lf lt Rw) (q + 1) (S, B) = (S1, B1) := h9.trans (if_neg (fun hc => zbf hc.2 h72))
                refine z_iinc hX 2 dM_findBases_184 rfl (zi_1 _) (by decide) ?_
                refine z_goto hX 51 dM_findBases_187 rfl ?_
                exact z_le2 hX (ih3 (by omega) _ _ hnext) (And.intro rfl (And.intro rfl (And.intro rfl trivial)))
              · refine z_aload_n hX 0 dM_findBases_75 rfl rfl ?_
                refine z_get hX 0 14 rfl rfl (zu inM) (by decide) (List.mem_cons_of_mem _ mw_566) rfl dM_findBases_76 ?_
                refine z_iload_n hX 2 dM_findBases_79 rfl rfl ?_
                refine z_ldN hX 2 0 _ rfl rfl rfl (by omega) (by decide) dM_findBases_80 ?_
                refine z_istore_n hX 3 dM_findBases_81 rfl (by decide) ?_
                refine z_aload_n hX 0 dM_findBases_82 rfl rfl ?_
                refine z_get hX 0 15 rfl rfl (zu inM) (by decide) (List.mem_cons_of_mem _ mw_567) rfl dM_findBases_83 ?_
                refine z_iload_n hX 2 dM_findBases_86 rfl rfl ?_
                refine z_ldN hX 3 0 _ rfl rfl rfl (by omega) (by decide) dM_findBases_87 ?_
                refine z_istore hX 4 dM_findBases_88 (by decide) ?_
                refine z_aload_n hX 0 dM_findBases_90 rfl rfl ?_
                refine z_get hX 0 18 rfl rfl (zu inM) (by decide) (List.mem_cons_of_mem _ mw_570) rfl dM_findBases_91 ?_
                refine z_iload_n hX 3 dM_findBases_94 rfl rfl ?_
                refine z_ldB hX 6 1 _ rfl rfl rfl (by omega) (by decide) dM_findBases_95 ?_
                refine z_if_eqB hX 139 dM_findBases_96 rfl (fun h96 => ?_) (fun h96 => ?_)
                · have hn1 : ¬ (S1 (lf q) = true ∧ S1 (lt q) = false) := fun hc => zbf hc.1 h96
                  refine z_aload_n hX 0 dM_findBases_139 rfl rfl ?_
                  refine z_get hX 0 18 rfl rfl (zu inM) (by decide) (List.mem_cons_of_mem _ mw_570) rfl dM_findBases_140 ?_
                  refine z_iload hX 4 dM_findBases_143 rfl ?_
                  refine z_ldB hX 6 1 _ rfl rfl rfl (by omega) (by decide) dM_findBases_145 ?_
                  refine z_if_eqB hX 184 dM_findBases_146 rfl (fun h146 => ?_) (fun h146 => ?_)
                  · have hnext : sp_it (zfb isL lT lf lt Rw) (q + 1) (S, B) = (S1, B1) := h9.trans ((if_pos ⟨h63, h72⟩).trans ((if_neg hn1).trans (if_neg (fun hc => zbf hc.1 h146))))
                    refine z_iinc hX 2 dM_findBases_184 rfl (zi_1 _) (by decide) ?_
                    refine z_goto hX 51 dM_findBases_187 rfl ?_
                    exact z_le2 hX (ih3 (by omega) _ _ hnext) (And.intro rfl (And.intro rfl (And.intro rfl trivial)))
                  · refine z_aload_n hX 0 dM_findBases_149 rfl rfl ?_
                    refine z_get hX 0 18 rfl rfl (zu inM) (by decide) (List.mem_cons_of_mem _ mw_570) rfl dM_findBases_150 ?_
                    refine z_iload_n hX 3 dM_findBases_153 rfl rfl ?_
                    refine z_ldB hX 6 1 _ rfl rfl rfl (by omega) (by decide) dM_findBases_154 ?_
                    refine z_if_neB hX 184 dM_findBases_155 rfl (fun h155 => ?_) (fun h155 => ?_)
                    · have hnext : sp_it (zfb isL lT lf lt Rw) (q + 1) (S, B) = (S1, B1) := h9.trans ((if_pos ⟨h63, h72⟩).trans ((if_neg hn1).trans (if_neg (fun hc => zbf h155 hc.2))))
                      refine z_iinc hX 2 dM_findBases_184 rfl (zi_1 _) (by decide) ?_
                      refine z_goto hX 51 dM_findBases_187 rfl ?_
                      exact z_le2 hX (ih3 (by omega) _ _ hnext) (And.intro rfl (And.intro rfl (And.intro rfl trivial)))
                    · have hnext : sp_it (zfb isL lT lf lt Rw) (q + 1) (S, B) = (va_up S1 (lf q) true, va_up B1 (lf q) (B1 (lt q) - (sw_V isL lf lt Rw q : Int))) := h9.trans ((if_pos ⟨h63, h72⟩).trans ((if_neg hn1).trans (if_pos ⟨h146, h155⟩)))
                      refine z_aload_n hX 0 dM_findBases_158 rfl rfl ?_
                      refine z_get hX 0 19 rfl rfl (zu inM) (by decide) (List.mem_cons_of_mem _ mw_571) rfl dM_findBases_159 ?_
                      refine z_iload_n hX 3 dM_findBases_162 rfl rfl ?_
                      refine z_aload_n hX 0 dM_findBases_163 rfl rfl ?_
                      refine z_get hX 0 19 rfl rfl (zu inM) (by decide) (List.mem_cons_of_mem _ mw_571) rfl dM_findBases_164 ?_
                      refine z_iload hX 4 dM_findBases_167 rfl ?_
                      refine z_ldI hX 7 0 _ rfl rfl rfl (by omega) (by decide) dM_findBases_169 ?_
                      refine z_aload_n hX 0 dM_findBases_170 rfl rfl ?_
                      refine z_iload_n hX 2 dM_findBases_171 rfl rfl ?_
                      refine z_Vr hX (kM_value l D cI cZ ax r n m sl pr wy fo ru pl pk rs es isL lf lt Rw q (by omega) (by omega) hlk) mw_731 mw_733 mp_3_4 mw_9 mw_734 rfl rfl ⟨rfl, by decide, by decide, rfl⟩ (by decide) 0 rfl rfl rfl rfl (Nat.le_of_ble_eq_true rfl) dM_findBases_172 (by decide) [0, 1, 2, 3, 4] rfl rfl (fun v wn hv => ?_)
                      obtain ⟨rfl, rfl⟩ := hv
                      refine ⟨rfl, ?_⟩
                      refine z_isubI hX (B1 (lt q)) (sw_V isL lf lt Rw q : Int) rfl (zi_of _) dM_findBases_175 ?_
                      refine z_stI hX 7 0 _ _ rfl rfl rfl rfl (by omega) (by decide) dM_findBases_176 ?_
                      refine z_aload_n hX 0 dM_findBases_177 rfl rfl ?_
                      refine z_get hX 0 18 rfl rfl (zu inM) (by decide) (List.mem_cons_of_mem _ mw_570) rfl dM_findBases_178 ?_
                      refine z_iload_n hX 3 dM_findBases_181 rfl rfl ?_
                      refine z_iconst hX (bN true) dM_findBases_182 rfl ?_
                      refine z_stB hX 6 1 _ _ rfl rfl rfl rfl (by omega) (by decide) dM_findBases_183 ?_
                      refine z_iinc hX 2 dM_findBases_184 rfl (zi_1 _) (by decide) ?_
                      refine z_goto hX 51 dM_findBases_187 rfl ?_
                      exact z_le2 hX (ih3 (by omega) _ _ hnext) (And.intro rfl (And.intro rfl (And.intro rfl trivial)))
                · refine z_aload_n hX 0 dM_findBases_99 rfl rfl ?_
                  refine z_get hX 0 18 rfl rfl (zu inM) (by decide) (List.mem_cons_of_mem _ mw_570) rfl dM_findBases_100 ?_
                  refine z_iload hX 4 dM_findBases_103 rfl ?_
                  refine z_ldB hX 6 1 _ rfl rfl rfl (by omega) (by decide) dM_findBases_105 ?_
                  refine z_if_neB hX 139 dM_findBases_106 rfl (fun h106 => ?_) (fun h106 => ?_)
                  · have hn1 : ¬ (S1 (lf q) = true ∧ S1 (lt q) = false) := fun hc => zbf h106 hc.2
                    refine z_aload_n hX 0 dM_findBases_139 rfl rfl ?_
                    refine z_get hX 0 18 rfl rfl (zu inM) (by decide) (List.mem_cons_of_mem _ mw_570) rfl dM_findBases_140 ?_
                    refine z_iload hX 4 dM_findBases_143 rfl ?_
                    refine z_ldB hX 6 1 _ rfl rfl rfl (by omega) (by decide) dM_findBases_145 ?_
                    refine z_if_eqB hX 184 dM_findBases_146 rfl (fun h146 => ?_) (fun h146 => ?_)
                    · have hnext : sp_it (zfb isL lT lf lt Rw) (q + 1) (S, B) = (S1, B1) := h9.trans ((if_pos ⟨h63, h72⟩).trans ((if_neg hn1).trans (if_neg (fun hc => zbf hc.1 h146))))
                      refine z_iinc hX 2 dM_findBases_184 rfl (zi_1 _) (by decide) ?_
                      refine z_goto hX 51 dM_findBases_187 rfl ?_
                      exact z_le2 hX (ih3 (by omega) _ _ hnext) (And.intro rfl (And.intro rfl (And.intro rfl trivial)))
                    · refine z_aload_n hX 0 dM_findBases_149 rfl rfl ?_
                      refine z_get hX 0 18 rfl rfl (zu inM) (by decide) (List.mem_cons_of_mem _ mw_570) rfl dM_findBases_150 ?_
                      refine z_iload_n hX 3 dM_findBases_153 rfl rfl ?_
                      refine z_ldB hX 6 1 _ rfl rfl rfl (by omega) (by decide) dM_findBases_154 ?_
                      refine z_if_neB hX 184 dM_findBases_155 rfl (fun h155 => ?_) (fun h155 => ?_)
                      · have hnext : sp_it (zfb isL lT lf lt Rw) (q + 1) (S, B) = (S1, B1) := h9.trans ((if_pos ⟨h63, h72⟩).trans ((if_neg hn1).trans (if_neg (fun hc => zbf h155 hc.2))))
                        refine z_iinc hX 2 dM_findBases_184 rfl (zi_1 _) (by decide) ?_
                        refine z_goto hX 51 dM_findBases_187 rfl ?_
                        exact z_le2 hX (ih3 (by omega) _ _ hnext) (And.intro rfl (And.intro rfl (And.intro rfl trivial)))
                      · have hnext : sp_it (zfb isL lT lf lt Rw) (q + 1) (S, B) = (va_up S1 (lf q) true, va_up B1 (lf q) (B1 (lt q) - (sw_V isL lf lt Rw q : Int))) := h9.trans ((if_pos ⟨h63, h72⟩).trans ((if_neg hn1).trans (if_pos ⟨h146, h155⟩)))
                        refine z_aload_n hX 0 dM_findBases_158 rfl rfl ?_
                        refine z_get hX 0 19 rfl rfl (zu inM) (by decide) (List.mem_cons_of_mem _ mw_571) rfl dM_findBases_159 ?_
                        refine z_iload_n hX 3 dM_findBases_162 rfl rfl ?_
                        refine z_aload_n hX 0 dM_findBases_163 rfl rfl ?_
                        refine z_get hX 0 19 rfl rfl (zu inM) (by decide) (List.mem_cons_of_mem _ mw_571) rfl dM_findBases_164 ?_
                        refine z_iload hX 4 dM_findBases_167 rfl ?_
                        refine z_ldI hX 7 0 _ rfl rfl rfl (by omega) (by decide) dM_findBases_169 ?_
                        refine z_aload_n hX 0 dM_findBases_170 rfl rfl ?_
                        refine z_iload_n hX 2 dM_findBases_171 rfl rfl ?_
                        refine z_Vr hX (kM_value l D cI cZ ax r n m sl pr wy fo ru pl pk rs es isL lf lt Rw q (by omega) (by omega) hlk) mw_731 mw_733 mp_3_4 mw_9 mw_734 rfl rfl ⟨rfl, by decide, by decide, rfl⟩ (by decide) 0 rfl rfl rfl rfl (Nat.le_of_ble_eq_true rfl) dM_findBases_172 (by decide) [0, 1, 2, 3, 4] rfl rfl (fun v wn hv => ?_)
                        obtain ⟨rfl, rfl⟩ := hv
                        refine ⟨rfl, ?_⟩
                        refine z_isubI hX (B1 (lt q)) (sw_V isL lf lt Rw q : Int) rfl (zi_of _) dM_findBases_175 ?_
                        refine z_stI hX 7 0 _ _ rfl rfl rfl rfl (by omega) (by decide) dM_findBases_176 ?_
                        refine z_aload_n hX 0 dM_findBases_177 rfl rfl ?_
                        refine z_get hX 0 18 rfl rfl (zu inM) (by decide) (List.mem_cons_of_mem _ mw_570) rfl dM_findBases_178 ?_
                        refine z_iload_n hX 3 dM_findBases_181 rfl rfl ?_
                        refine z_iconst hX (bN true) dM_findBases_182 rfl ?_
                        refine z_stB hX 6 1 _ _ rfl rfl rfl rfl (by omega) (by decide) dM_findBases_183 ?_
                        refine z_iinc hX 2 dM_findBases_184 rfl (zi_1 _) (by decide) ?_
                        refine z_goto hX 51 dM_findBases_187 rfl ?_
                        exact z_le2 hX (ih3 (by omega) _ _ hnext) (And.intro rfl (And.intro rfl (And.intro rfl trivial)))
                  · have hnext : sp_it (zfb isL lT lf lt Rw) (q + 1) (S, B) = (va_up S1 (lt q) true, va_up B1 (lt q) (B1 (lf q) + (sw_V isL lf lt Rw q : Int))) := h9.trans ((if_pos ⟨h63, h72⟩).trans (if_pos ⟨h96, h106⟩))
                    refine z_aload_n hX 0 dM_findBases_109 rfl rfl ?_
                    refine z_get hX 0 19 rfl rfl (zu inM) (by decide) (List.mem_cons_of_mem _ mw_571) rfl dM_findBases_110 ?_
                    refine z_iload hX 4 dM_findBases_113 rfl ?_
                    refine z_aload_n hX 0 dM_findBases_115 rfl rfl ?_
                    refine z_get hX 0 19 rfl rfl (zu inM) (by decide) (List.mem_cons_of_mem _ mw_571) rfl dM_findBases_116 ?_
                    refine z_iload_n hX 3 dM_findBases_119 rfl rfl ?_
                    refine z_ldI hX 7 0 _ rfl rfl rfl (by omega) (by decide) dM_findBases_120 ?_
                    refine z_aload_n hX 0 dM_findBases_121 rfl rfl ?_
                    refine z_iload_n hX 2 dM_findBases_122 rfl rfl ?_
                    refine z_Vr hX (kM_value l D cI cZ ax r n m sl pr wy fo ru pl pk rs es isL lf lt Rw q (by omega) (by omega) hlk) mw_731 mw_733 mp_3_4 mw_9 mw_734 rfl rfl ⟨rfl, by decide, by decide, rfl⟩ (by decide) 0 rfl rfl rfl rfl (Nat.le_of_ble_eq_true rfl) dM_findBases_123 (by decide) [0, 1, 2, 3, 4] rfl rfl (fun v wn hv => ?_)
                    obtain ⟨rfl, rfl⟩ := hv
                    refine ⟨rfl, ?_⟩
                    refine z_iaddI hX (B1 (lf q)) (sw_V isL lf lt Rw q : Int) rfl (zi_of _) dM_findBases_126 ?_
                    refine z_stI hX 7 0 _ _ rfl rfl rfl rfl (by omega) (by decide) dM_findBases_127 ?_
                    refine z_aload_n hX 0 dM_findBases_128 rfl rfl ?_
                    refine z_get hX 0 18 rfl rfl (zu inM) (by decide) (List.mem_cons_of_mem _ mw_570) rfl dM_findBases_129 ?_
                    refine z_iload hX 4 dM_findBases_132 rfl ?_
                    refine z_iconst hX (bN true) dM_findBases_134 rfl ?_
                    refine z_stB hX 6 1 _ _ rfl rfl rfl rfl (by omega) (by decide) dM_findBases_135 ?_
                    refine z_goto hX 184 dM_findBases_136 rfl ?_
                    refine z_iinc hX 2 dM_findBases_184 rfl (zi_1 _) (by decide) ?_
                    refine z_goto hX 51 dM_findBases_187 rfl ?_
                    exact z_le2 hX (ih3 (by omega) _ _ hnext) (And.intro rfl (And.intro rfl (And.intro rfl trivial)))
        exact hloop2 0 (Nat.zero_le _) _ _ rfl
    exact hloop 0 (Nat.zero_le _) _ _ rfl
  · refine z_aload_n hX 0 dM_findBases_10 rfl rfl ?_
    refine z_get hX 0 18 rfl rfl (zu inM) (by decide) (List.mem_cons_of_mem _ mw_570) rfl dM_findBases_11 ?_
    refine z_iload_n hX 1 dM_findBases_14 rfl rfl ?_
    refine z_iload_n hX 1 dM_findBases_15 rfl rfl ?_
    refine z_iconst hX (nI 2) dM_findBases_16 rfl ?_
    refine z_icmp_geN hX 24 (by omega) (by omega) dM_findBases_17 rfl (fun h17 => ?_) (fun h17 => ?_)
    · have hs1 : sp_it zb2 (i + 1) S0 = va_up (sp_it zb2 i S0) i false := by show va_up _ i (decide (i < 2)) = _; rw [decide_eq_false (by omega)]
      have hs2 : sp_it zbz0 (i + 1) B0 = va_up (sp_it zbz0 i B0) i 0 := rfl
      refine z_iconst hX (bN false) dM_findBases_24 rfl ?_
      refine z_stB hX 6 1 _ _ rfl rfl rfl rfl (by omega) (by decide) dM_findBases_25 ?_
      refine z_aload_n hX 0 dM_findBases_26 rfl rfl ?_
      refine z_get hX 0 19 rfl rfl (zu inM) (by decide) (List.mem_cons_of_mem _ mw_571) rfl dM_findBases_27 ?_
      refine z_iload_n hX 1 dM_findBases_30 rfl rfl ?_
      refine z_iconst hX (Int32.ofInt 0) dM_findBases_31 rfl ?_
      refine z_stI hX 7 0 _ _ rfl rfl rfl rfl (by omega) (by decide) dM_findBases_32 ?_
      refine z_iinc hX 1 dM_findBases_33 rfl (zi_1 _) (by decide) ?_
      refine z_goto hX 2 dM_findBases_36 rfl ?_
      have hz := ih (by omega)
      rw [hs1, hs2] at hz
      exact hz
    · have hs1 : sp_it zb2 (i + 1) S0 = va_up (sp_it zb2 i S0) i true := by show va_up _ i (decide (i < 2)) = _; rw [decide_eq_true (by omega)]
      have hs2 : sp_it zbz0 (i + 1) B0 = va_up (sp_it zbz0 i B0) i 0 := rfl
      refine z_iconst hX (bN true) dM_findBases_20 rfl ?_
      refine z_goto hX 25 dM_findBases_21 rfl ?_
      refine z_stB hX 6 1 _ _ rfl rfl rfl rfl (by omega) (by decide) dM_findBases_25 ?_
      refine z_aload_n hX 0 dM_findBases_26 rfl rfl ?_
      refine z_get hX 0 19 rfl rfl (zu inM) (by decide) (List.mem_cons_of_mem _ mw_571) rfl dM_findBases_27 ?_
      refine z_iload_n hX 1 dM_findBases_30 rfl rfl ?_
      refine z_iconst hX (Int32.ofInt 0) dM_findBases_31 rfl ?_
      refine z_stI hX 7 0 _ _ rfl rfl rfl rfl (by omega) (by decide) dM_findBases_32 ?_
      refine z_iinc hX 1 dM_findBases_33 rfl (zi_1 _) (by decide) ?_
      refine z_goto hX 2 dM_findBases_36 rfl ?_
      have hz := ih (by omega)
      rw [hs1, hs2] at hz
      exact hz

