/-! the reference: joined, join -/
def zmx (S : Nat → Bool) (x i : Nat) : Nat → Bool := fun y => if y < i then decide (y = x) else S y
theorem zmx_0 (S : Nat → Bool) (x : Nat) : zmx S x 0 = S := by
  funext y
  exact if_neg (by omega)
theorem zmx_up (S : Nat → Bool) (x i : Nat) : zmx S x (i + 1) = va_up (zmx S x i) i (decide (i = x)) := by
  funext y
  by_cases h : y = i
  · subst h; rw [sp_up_s]; exact if_pos (by omega)
  · rw [sp_up_n _ _ h]
    show (if y < i + 1 then decide (y = x) else S y) = (if y < i then decide (y = x) else S y)
    by_cases hc : y < i
    · rw [if_pos hc, if_pos (by omega)]
    · rw [if_neg hc, if_neg (by omega)]
set_option maxHeartbeats 400000 in
set_option maxRecDepth 100000 in
theorem kM_joined (l : Launch) (D : va_G) (cI cZ : ClassId) (ax : Nat) (r : Nat → Nat) (n m : Nat) (sl : Bool) (pr wy fo : Nat) (ru : Bool) (pl pk : Nat) (rs es : Int) (S : Nat → Bool) (A B : Nat → Nat) (x y : Nat) (hx : x < 12) (hy : y < 12) (hn : 2 ≤ n ∧ n ≤ 12) (hpr : pr ≤ 48) (hab : ∀ i, i < pr → A i < 12 ∧ B i < 12) : zM l yM_joined wM_joined rM_joined D zCl (zTy cI cZ) zNW 0 0 [.ref ax, .int (nI x), .int (nI y)] ([mO ax r (n) (m) (sl) (pr) (wy) (fo) (ru) (pl) (pk) (rs) (es), (r 9, .inl (cZ, 12, .inl (aB (S)))), (r 21, .inl (cI, 48, .inl (aN (A)))), (r 22, .inl (cI, 48, .inl (aN (B))))]) (fun v wn => v = some (.int (bN ((sp_it (fun _ => sj_r A B pr) n (zmx S x n)) y))) ∧ wn = [mO ax r (n) (m) (sl) (pr) (wy) (fo) (ru) (pl) (pk) (rs) (es), (r 9, .inl (cZ, 12, .inl (aB (sp_it (fun _ => sj_r A B pr) n (zmx S x n))))), (r 21, .inl (cI, 48, .inl (aN (A)))), (r 22, .inl (cI, 48, .inl (aN (B))))]) := by
  refine z_met2 cM_joined 6 (some .boolean) rfl rfl (Nat.le_of_ble_eq_true rfl) rfl (fun Z hX => ?_)
  show Z 0 0 0 [some (.ref ax), some (.int (nI x)), some (.int (nI y)), none, none, none] [] ([mO ax r (n) (m) (sl) (pr) (wy) (fo) (ru) (pl) (pk) (rs) (es), (r 9, .inl (cZ, 12, .inl (aB (S)))), (r 21, .inl (cI, 48, .inl (aN (A)))), (r 22, .inl (cI, 48, .inl (aN (B))))])
  refine z_iconst hX (nI 0) dM_joined_0 rfl ?_
  refine z_istore_n hX 3 dM_joined_1 rfl (by decide) ?_
  have hloop : ∀ i, i ≤ n → Z 0 0 2 [some (.ref ax), some (.int (nI x)), some (.int (nI y)), some (.int (nI i)), none, none] [] ([mO ax r (n) (m) (sl) (pr) (wy) (fo) (ru) (pl) (pk) (rs) (es), (r 9, .inl (cZ, 12, .inl (aB (zmx S x i)))), (r 21, .inl (cI, 48, .inl (aN (A)))), (r 22, .inl (cI, 48, .inl (aN (B))))]) := by
    refine zloop (P := fun i => Z 0 0 2 [some (.ref ax), some (.int (nI x)), some (.int (nI y)), some (.int (nI i)), none, none] [] ([mO ax r (n) (m) (sl) (pr) (wy) (fo) (ru) (pl) (pk) (rs) (es), (r 9, .inl (cZ, 12, .inl (aB (zmx S x i)))), (r 21, .inl (cI, 48, .inl (aN (A)))), (r 22, .inl (cI, 48, .inl (aN (B))))])) n (fun i hi ih => ?_)
    refine z_iload_n hX 3 dM_joined_2 rfl rfl ?_
    refine z_aload_n hX 0 dM_joined_3 rfl rfl ?_
    refine z_get hX 0 0 rfl rfl (zu inM) (by decide) (List.mem_cons_of_mem _ mw_552) rfl dM_joined_4 ?_
    refine z_icmp_geN hX 32 (by omega) (by omega) dM_joined_7 rfl (fun h7 => ?_) (fun h7 => ?_)
    · have him : i = n := by omega
      rw [him]
      refine z_iconst hX (nI 0) dM_joined_32 rfl ?_
      refine z_istore_n hX 3 dM_joined_33 rfl (by decide) ?_
      refine zloop (P := fun j => Z 0 0 34 [some (.ref ax), some (.int (nI x)), some (.int (nI y)), some (.int (nI j)), none, none] [] ([mO ax r (n) (m) (sl) (pr) (wy) (fo) (ru) (pl) (pk) (rs) (es), (r 9, .inl (cZ, 12, .inl (aB (sp_it (fun _ => sj_r A B pr) j (zmx S x n))))), (r 21, .inl (cI, 48, .inl (aN (A)))), (r 22, .inl (cI, 48, .inl (aN (B))))])) n (fun j hj ih2 => ?_) 0 (Nat.zero_le _)
      refine z_iload_n hX 3 dM_joined_34 rfl rfl ?_
      refine z_aload_n hX 0 dM_joined_35 rfl rfl ?_
      refine z_get hX 0 0 rfl rfl (zu inM) (by decide) (List.mem_cons_of_mem _ mw_552) rfl dM_joined_36 ?_
      refine z_icmp_geN hX 172 (by omega) (by omega) dM_joined_39 rfl (fun h39 => ?_) (fun h39 => ?_)
      · have hjn : j = n := by omega
        rw [hjn]
        refine z_aload_n hX 0 dM_joined_172 rfl rfl ?_
        refine z_get hX 0 9 rfl rfl (zu inM) (by decide) (List.mem_cons_of_mem _ mw_561) rfl dM_joined_173 ?_
        refine z_iload_n hX 2 dM_joined_176 rfl rfl ?_
        refine z_ldB hX 1 1 _ rfl rfl rfl (by omega) (by decide) dM_joined_177 ?_
        refine z_iret hX rfl (bN_n _) rfl rfl dM_joined_178 ?_
        exact ⟨rfl, rfl⟩
      · refine z_iconst hX (nI 0) dM_joined_42 rfl ?_
        refine z_istore hX 4 dM_joined_43 (by decide) ?_
        refine zloop (P := fun q => Z 0 0 45 [some (.ref ax), some (.int (nI x)), some (.int (nI y)), some (.int (nI j)), some (.int (nI q)), none] [] ([mO ax r (n) (m) (sl) (pr) (wy) (fo) (ru) (pl) (pk) (rs) (es), (r 9, .inl (cZ, 12, .inl (aB (sp_it (sj_p A B) q (sp_it (fun _ => sj_r A B pr) j (zmx S x n)))))), (r 21, .inl (cI, 48, .inl (aN (A)))), (r 22, .inl (cI, 48, .inl (aN (B))))])) pr (fun q hq ih3 => ?_) 0 (Nat.zero_le _)
        refine z_iload hX 4 dM_joined_45 rfl ?_
        refine z_aload_n hX 0 dM_joined_47 rfl rfl ?_
        refine z_get hX 0 20 rfl rfl (zu inM) (by decide) (List.mem_cons_of_mem _ mw_572) rfl dM_joined_48 ?_
        refine z_icmp_geN hX 125 (by omega) (by omega) dM_joined_51 rfl (fun h51 => ?_) (fun h51 => ?_)
        · have hqp : q = pr := by omega
          rw [hqp]
          refine z_aload_n hX 0 dM_joined_125 rfl rfl ?_
          refine z_get hX 0 9 rfl rfl (zu inM) (by decide) (List.mem_cons_of_mem _ mw_561) rfl dM_joined_126 ?_
          refine z_iconst hX (nI 0) dM_joined_129 rfl ?_
          refine z_ldB hX 1 1 _ rfl rfl rfl (by omega) (by decide) dM_joined_130 ?_
          have cut148 : Z 0 0 148 [some (.ref ax), some (.int (nI x)), some (.int (nI y)), some (.int (nI j)), none, none] [.int (bN ((sp_it (sj_p A B) pr (sp_it (fun _ => sj_r A B pr) j (zmx S x n))) 0 || (sp_it (sj_p A B) pr (sp_it (fun _ => sj_r A B pr) j (zmx S x n))) 1))] ([mO ax r (n) (m) (sl) (pr) (wy) (fo) (ru) (pl) (pk) (rs) (es), (r 9, .inl (cZ, 12, .inl (aB (sp_it (sj_p A B) pr (sp_it (fun _ => sj_r A B pr) j (zmx S x n)))))), (r 21, .inl (cI, 48, .inl (aN (A)))), (r 22, .inl (cI, 48, .inl (aN (B))))]) := by
            refine z_istore hX 4 dM_joined_148 (by decide) ?_
            refine z_aload_n hX 0 dM_joined_150 rfl rfl ?_
            refine z_get hX 0 9 rfl rfl (zu inM) (by decide) (List.mem_cons_of_mem _ mw_561) rfl dM_joined_151 ?_
            refine z_iconst hX (nI 0) dM_joined_154 rfl ?_
            refine z_iload hX 4 dM_joined_155 rfl ?_
            refine z_stB hX 1 1 _ _ rfl rfl rfl rfl (by omega) (by decide) dM_joined_157 ?_
            refine z_aload_n hX 0 dM_joined_158 rfl rfl ?_
            refine z_get hX 0 9 rfl rfl (zu inM) (by decide) (List.mem_cons_of_mem _ mw_561) rfl dM_joined_159 ?_
            refine z_iconst hX (nI 1) dM_joined_162 rfl ?_
            refine z_iload hX 4 dM_joined_163 rfl ?_
            refine z_stB hX 1 1 _ _ rfl rfl rfl rfl (by omega) (by decide) dM_joined_165 ?_
            refine z_iinc hX 3 dM_joined_166 rfl (zi_1 _) (by decide) ?_
            refine z_goto hX 34 dM_joined_169 rfl ?_
            exact z_le2 hX (ih2 (by omega)) (And.intro rfl (And.intro rfl (And.intro rfl (And.intro rfl trivial))))
          refine z_if_neB hX 143 dM_joined_131 rfl (fun h131 => ?_) (fun h131 => ?_)
          · have hr : ((sp_it (sj_p A B) pr (sp_it (fun _ => sj_r A B pr) j (zmx S x n))) 0 || (sp_it (sj_p A B) pr (sp_it (fun _ => sj_r A B pr) j (zmx S x n))) 1) = true := by rw [h131, Bool.true_or]
            refine z_iconst hX (bN true) dM_joined_143 rfl ?_
            refine z_goto hX 148 dM_joined_144 rfl ?_
            rw [hr] at cut148
            exact z_le2 hX cut148 (And.intro rfl (And.intro rfl (And.intro rfl (And.intro rfl trivial))))
          · refine z_aload_n hX 0 dM_joined_134 rfl rfl ?_
            refine z_get hX 0 9 rfl rfl (zu inM) (by decide) (List.mem_cons_of_mem _ mw_561) rfl dM_joined_135 ?_
            refine z_iconst hX (nI 1) dM_joined_138 rfl ?_
            refine z_ldB hX 1 1 _ rfl rfl rfl (by omega) (by decide) dM_joined_139 ?_
            refine z_if_eqB hX 147 dM_joined_140 rfl (fun h140 => ?_) (fun h140 => ?_)
            · have hr : ((sp_it (sj_p A B) pr (sp_it (fun _ => sj_r A B pr) j (zmx S x n))) 0 || (sp_it (sj_p A B) pr (sp_it (fun _ => sj_r A B pr) j (zmx S x n))) 1) = false := by rw [h131, h140]; rfl
              refine z_iconst hX (bN false) dM_joined_147 rfl ?_
              rw [hr] at cut148
              exact z_le2 hX cut148 (And.intro rfl (And.intro rfl (And.intro rfl (And.intro rfl trivial))))
            · have hr : ((sp_it (sj_p A B) pr (sp_it (fun _ => sj_r A B pr) j (zmx S x n))) 0 || (sp_it (sj_p A B) pr (sp_it (fun _ => sj_r A B pr) j (zmx S x n))) 1) = true := by rw [h140, Bool.or_true]
              refine z_iconst hX (bN true) dM_joined_143 rfl ?_
              refine z_goto hX 148 dM_joined_144 rfl ?_
              rw [hr] at cut148
              exact z_le2 hX cut148 (And.intro rfl (And.intro rfl (And.intro rfl (And.intro rfl trivial))))
        · have habq := hab q (by omega)
          refine z_aload_n hX 0 dM_joined_54 rfl rfl ?_
          refine z_get hX 0 9 rfl rfl (zu inM) (by decide) (List.mem_cons_of_mem _ mw_561) rfl dM_joined_55 ?_
          refine z_aload_n hX 0 dM_joined_58 rfl rfl ?_
          refine z_get hX 0 21 rfl rfl (zu inM) (by decide) (List.mem_cons_of_mem _ mw_573) rfl dM_joined_59 ?_
          refine z_iload hX 4 dM_joined_62 rfl ?_
          refine z_ldN hX 2 0 _ rfl rfl rfl (by omega) (by decide) dM_joined_64 ?_
          refine z_ldB hX 1 1 _ rfl rfl rfl (by omega) (by decide) dM_joined_65 ?_
          have cut89 : Z 0 0 89 [some (.ref ax), some (.int (nI x)), some (.int (nI y)), some (.int (nI j)), some (.int (nI q)), none] [.int (bN ((sp_it (sj_p A B) q (sp_it (fun _ => sj_r A B pr) j (zmx S x n))) (A q) || (sp_it (sj_p A B) q (sp_it (fun _ => sj_r A B pr) j (zmx S x n))) (B q)))] ([mO ax r (n) (m) (sl) (pr) (wy) (fo) (ru) (pl) (pk) (rs) (es), (r 9, .inl (cZ, 12, .inl (aB (sp_it (sj_p A B) q (sp_it (fun _ => sj_r A B pr) j (zmx S x n)))))), (r 21, .inl (cI, 48, .inl (aN (A)))), (r 22, .inl (cI, 48, .inl (aN (B))))]) := by
            refine z_istore hX 5 dM_joined_89 (by decide) ?_
            refine z_aload_n hX 0 dM_joined_91 rfl rfl ?_
            refine z_get hX 0 9 rfl rfl (zu inM) (by decide) (List.mem_cons_of_mem _ mw_561) rfl dM_joined_92 ?_
            refine z_aload_n hX 0 dM_joined_95 rfl rfl ?_
            refine z_get hX 0 21 rfl rfl (zu inM) (by decide) (List.mem_cons_of_mem _ mw_573) rfl dM_joined_96 ?_
            refine z_iload hX 4 dM_joined_99 rfl ?_
            refine z_ldN hX 2 0 _ rfl rfl rfl (by omega) (by decide) dM_joined_101 ?_
            refine z_iload hX 5 dM_joined_102 rfl ?_
            refine z_stB hX 1 1 _ _ rfl rfl rfl rfl (by omega) (by decide) dM_joined_104 ?_
            refine z_aload_n hX 0 dM_joined_105 rfl rfl ?_
            refine z_get hX 0 9 rfl rfl (zu inM) (by decide) (List.mem_cons_of_mem _ mw_561) rfl dM_joined_106 ?_
            refine z_aload_n hX 0 dM_joined_109 rfl rfl ?_
            refine z_get hX 0 22 rfl rfl (zu inM) (by decide) (List.mem_cons_of_mem _ mw_574) rfl dM_joined_110 ?_
            refine z_iload hX 4 dM_joined_113 rfl ?_
            refine z_ldN hX 3 0 _ rfl rfl rfl (by omega) (by decide) dM_joined_115 ?_
            refine z_iload hX 5 dM_joined_116 rfl ?_
            refine z_stB hX 1 1 _ _ rfl rfl rfl rfl (by omega) (by decide) dM_joined_118 ?_
            refine z_iinc hX 4 dM_joined_119 rfl (zi_1 _) (by decide) ?_
            refine z_goto hX 45 dM_joined_122 rfl ?_
            exact z_le2 hX (ih3 (by omega)) (And.intro rfl (And.intro rfl (And.intro rfl (And.intro rfl (And.intro rfl trivial)))))
          refine z_if_neB hX 84 dM_joined_66 rfl (fun h66 => ?_) (fun h66 => ?_)
          · have hr : ((sp_it (sj_p A B) q (sp_it (fun _ => sj_r A B pr) j (zmx S x n))) (A q) || (sp_it (sj_p A B) q (sp_it (fun _ => sj_r A B pr) j (zmx S x n))) (B q)) = true := by rw [h66, Bool.true_or]
            refine z_iconst hX (bN true) dM_joined_84 rfl ?_
            refine z_goto hX 89 dM_joined_85 rfl ?_
            rw [hr] at cut89
            exact cut89
          · refine z_aload_n hX 0 dM_joined_69 rfl rfl ?_
            refine z_get hX 0 9 rfl rfl (zu inM) (by decide) (List.mem_cons_of_mem _ mw_561) rfl dM_joined_70 ?_
            refine z_aload_n hX 0 dM_joined_73 rfl rfl ?_
            refine z_get hX 0 22 rfl rfl (zu inM) (by decide) (List.mem_cons_of_mem _ mw_574) rfl dM_joined_74 ?_
            refine z_iload hX 4 dM_joined_77 rfl ?_
            refine z_ldN hX 3 0 _ rfl rfl rfl (by omega) (by decide) dM_joined_79 ?_
            refine z_ldB hX 1 1 _ rfl rfl rfl (by omega) (by decide) dM_joined_80 ?_
            refine z_if_eqB hX 88 dM_joined_81 rfl (fun h81 => ?_) (fun h81 => ?_)
            · have hr : ((sp_it (sj_p A B) q (sp_it (fun _ => sj_r A B pr) j (zmx S x n))) (A q) || (sp_it (sj_p A B) q (sp_it (fun _ => sj_r A B pr) j (zmx S x n))) (B q)) = false := by rw [h66, h81]; rfl
              refine z_iconst hX (bN false) dM_joined_88 rfl ?_
              rw [hr] at cut89
              exact cut89
            · have hr : ((sp_it (sj_p A B) q (sp_it (fun _ => sj_r A B pr) j (zmx S x n))) (A q) || (sp_it (sj_p A B) q (sp_it (fun _ => sj_r A B pr) j (zmx S x n))) (B q)) = true := by rw [h81, Bool.or_true]
              refine z_iconst hX (bN true) dM_joined_84 rfl ?_
              refine z_goto hX 89 dM_joined_85 rfl ?_
              rw [hr] at cut89
              exact cut89
    · refine z_aload_n hX 0 dM_joined_10 rfl rfl ?_
      refine z_get hX 0 9 rfl rfl (zu inM) (by decide) (List.mem_cons_of_mem _ mw_561) rfl dM_joined_11 ?_
      refine z_iload_n hX 3 dM_joined_14 rfl rfl ?_
      refine z_iload_n hX 3 dM_joined_15 rfl rfl ?_
      refine z_iload_n hX 1 dM_joined_16 rfl rfl ?_
      refine z_icmp_neN hX 24 (by omega) (by omega) dM_joined_17 rfl (fun h17 => ?_) (fun h17 => ?_)
      · have hd1 : decide (i = x) = false := decide_eq_false h17
        refine z_iconst hX (bN false) dM_joined_24 rfl ?_
        refine z_stB hX 1 1 _ _ rfl rfl rfl rfl (by omega) (by decide) dM_joined_25 ?_
        refine z_iinc hX 3 dM_joined_26 rfl (zi_1 _) (by decide) ?_
        refine z_goto hX 2 dM_joined_29 rfl ?_
        have hz := ih (by omega)
        rw [zmx_up, hd1] at hz
        exact hz
      · have hd1 : decide (i = x) = true := decide_eq_true h17
        refine z_iconst hX (bN true) dM_joined_20 rfl ?_
        refine z_goto hX 25 dM_joined_21 rfl ?_
        refine z_stB hX 1 1 _ _ rfl rfl rfl rfl (by omega) (by decide) dM_joined_25 ?_
        refine z_iinc hX 3 dM_joined_26 rfl (zi_1 _) (by decide) ?_
        refine z_goto hX 2 dM_joined_29 rfl ?_
        have hz := ih (by omega)
        rw [zmx_up, hd1] at hz
        exact hz
  have hz := hloop 0 (Nat.zero_le _)
  rw [zmx_0] at hz
  exact hz

set_option maxHeartbeats 400000 in
set_option maxRecDepth 100000 in
theorem kM_join (l : Launch) (D : va_G) (cI cZ : ClassId) (ax : Nat) (r : Nat → Nat) (n m : Nat) (sl : Bool) (pr wy fo : Nat) (ru : Bool) (pl pk : Nat) (rs es : Int) (S : Nat → Bool) (A B : Nat → Nat) (x y : Nat) (hx : x < 12) (hy : y < 12) (hn : 2 ≤ n ∧ n ≤ 12) (hpr : pr < 48) (hab : ∀ i, i < pr → A i < 12 ∧ B i < 12) : zM l yM_join wM_join rM_join D zCl (zTy cI cZ) zNW 0 0 [.ref ax, .int (nI x), .int (nI y)] ([mO ax r (n) (m) (sl) (pr) (wy) (fo) (ru) (pl) (pk) (rs) (es), (r 9, .inl (cZ, 12, .inl (aB (S)))), (r 21, .inl (cI, 48, .inl (aN (A)))), (r 22, .inl (cI, 48, .inl (aN (B))))]) (fun v wn => v = some (.int (bN (!(sp_it (fun _ => sj_r A B pr) n (zmx S x n)) y))) ∧ wn = [mO ax r (n) (m) (sl) (pr + 1) (wy) (fo) (ru) (pl) (pk) (rs) (es), (r 9, .inl (cZ, 12, .inl (aB (sp_it (fun _ => sj_r A B pr) n (zmx S x n))))), (r 21, .inl (cI, 48, .inl (aN (va_up A pr x)))), (r 22, .inl (cI, 48, .inl (aN (va_up B pr y))))]) := by
  refine z_met2 cM_join 4 (some .boolean) rfl rfl (Nat.le_of_ble_eq_true rfl) rfl (fun Z hX => ?_)
  show Z 0 0 0 [some (.ref ax), some (.int (nI x)), some (.int (nI y)), none] [] ([mO ax r (n) (m) (sl) (pr) (wy) (fo) (ru) (pl) (pk) (rs) (es), (r 9, .inl (cZ, 12, .inl (aB (S)))), (r 21, .inl (cI, 48, .inl (aN (A)))), (r 22, .inl (cI, 48, .inl (aN (B))))])
  refine z_aload_n hX 0 dM_join_0 rfl rfl ?_
  refine z_iload_n hX 1 dM_join_1 rfl rfl ?_
  refine z_iload_n hX 2 dM_join_2 rfl rfl ?_
  refine z_Vy hX (kM_joined l D cI cZ ax r n m sl pr wy fo ru pl pk rs es S A B x y hx hy hn (by omega) hab) mw_723 mw_725 mp_3_2 mw_9 mw_726 rfl rfl ⟨rfl, by decide, by decide, rfl⟩ (by decide) 0 rfl rfl rfl rfl (Nat.le_of_ble_eq_true rfl) dM_join_3 (by decide) [0, 1, 2, 3] rfl rfl [] 4 (by decide) (by decide) (fun v wn hv => ?_)
  obtain ⟨rfl, rfl⟩ := hv
  refine ⟨[mO ax r (n) (m) (sl) (pr) (wy) (fo) (ru) (pl) (pk) (rs) (es), (r 9, .inl (cZ, 12, .inl (aB (sp_it (fun _ => sj_r A B pr) n (zmx S x n))))), (r 21, .inl (cI, 48, .inl (aN (A)))), (r 22, .inl (cI, 48, .inl (aN (B))))], rfl, trivial, rfl, ?_⟩
  refine z_istore_n hX 3 dM_join_6 rfl (by decide) ?_
  refine z_aload_n hX 0 dM_join_7 rfl rfl ?_
  refine z_get hX 0 21 rfl rfl (zu inM) (by decide) (List.mem_cons_of_mem _ mw_573) rfl dM_join_8 ?_
  refine z_aload_n hX 0 dM_join_11 rfl rfl ?_
  refine z_get hX 0 20 rfl rfl (zu inM) (by decide) (List.mem_cons_of_mem _ mw_572) rfl dM_join_12 ?_
  refine z_iload_n hX 1 dM_join_15 rfl rfl ?_
  refine z_stN hX 2 0 _ _ rfl rfl rfl rfl (by omega) (by decide) dM_join_16 ?_
  refine z_aload_n hX 0 dM_join_17 rfl rfl ?_
  refine z_get hX 0 22 rfl rfl (zu inM) (by decide) (List.mem_cons_of_mem _ mw_574) rfl dM_join_18 ?_
  refine z_aload_n hX 0 dM_join_21 rfl rfl ?_
  refine z_get hX 0 20 rfl rfl (zu inM) (by decide) (List.mem_cons_of_mem _ mw_572) rfl dM_join_22 ?_
  refine z_iload_n hX 2 dM_join_25 rfl rfl ?_
  refine z_stN hX 3 0 _ _ rfl rfl rfl rfl (by omega) (by decide) dM_join_26 ?_
  refine z_aload_n hX 0 dM_join_27 rfl rfl ?_
  refine z_aload_n hX 0 dM_join_28 rfl rfl ?_
  refine z_get hX 0 20 rfl rfl (zu inM) (by decide) (List.mem_cons_of_mem _ mw_572) rfl dM_join_29 ?_
  refine z_iconst hX (nI 1) dM_join_32 rfl ?_
  refine z_iaddN hX dM_join_33 ?_
  refine z_put hX 0 20 rfl rfl (zu inM) tyM tyM_ok nmM (by decide) (List.mem_cons_of_mem _ mw_572) (Or.inl rfl) rfl rfl rfl (Nat.le_of_ble_eq_true rfl) dM_join_34 ?_
  refine z_iload_n hX 3 dM_join_37 rfl rfl ?_
  refine z_if_neB hX 45 dM_join_38 rfl (fun h38 => ?_) (fun h38 => ?_)
  · have hr := h38
    refine z_iconst hX (bN false) dM_join_45 rfl ?_
    refine z_iret hX rfl (bN_n _) rfl rfl dM_join_46 ?_
    exact ⟨by rw [hr]; rfl, rfl⟩
  · have hr := h38
    refine z_iconst hX (bN true) dM_join_41 rfl ?_
    refine z_goto hX 46 dM_join_42 rfl ?_
    refine z_iret hX rfl (bN_n _) rfl rfl dM_join_46 ?_
    exact ⟨by rw [hr]; rfl, rfl⟩

