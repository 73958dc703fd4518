/-! the rest of Graph -/
set_option maxHeartbeats 4000000 in
set_option maxRecDepth 100000 in
theorem kG_add (l : Launch) (D : va_G) (cI cZ : ClassId) (g f t n m : Nat) (fr to : Nat → Nat) (a b : Nat) (hm : m < 24) : zM l yG_add wG_add rG_add D zCl (zTy cI cZ) zNW 0 0 [.ref g, .int (nI a), .int (nI b)] (wG cI g f t n m fr to) (fun v wn => v = some (.int (nI m)) ∧ wn = wG cI g f t n (m + 1) (va_up fr m a) (va_up to m b)) := by
  refine z_met2 cG_add 3 (some .int) rfl rfl (Nat.le_of_ble_eq_true rfl) rfl (fun Z hX => ?_)
  show Z 0 0 0 [some (.ref g), some (.int (nI a)), some (.int (nI b))] [] (wG cI g f t n m fr to)
  refine z_aload_n hX 0 dG_add_0 rfl rfl ?_
  refine z_get hX 0 1 rfl rfl (zu inG) (by decide) (List.mem_cons_of_mem _ mw_37) rfl dG_add_1 ?_
  refine z_aload_n hX 0 dG_add_4 rfl rfl ?_
  refine z_get hX 0 3 rfl rfl (zu inG) (by decide) (List.mem_cons_of_mem _ mw_50) rfl dG_add_5 ?_
  refine z_iload_n hX 1 dG_add_8 rfl rfl ?_
  refine z_stN hX 1 0 _ _ rfl rfl rfl rfl (by omega) (by decide) dG_add_9 ?_
  refine z_aload_n hX 0 dG_add_10 rfl rfl ?_
  refine z_get hX 0 2 rfl rfl (zu inG) (by decide) (List.mem_cons_of_mem _ mw_43) rfl dG_add_11 ?_
  refine z_aload_n hX 0 dG_add_14 rfl rfl ?_
  refine z_get hX 0 3 rfl rfl (zu inG) (by decide) (List.mem_cons_of_mem _ mw_50) rfl dG_add_15 ?_
  refine z_iload_n hX 2 dG_add_18 rfl rfl ?_
  refine z_stN hX 2 0 _ _ rfl rfl rfl rfl (by omega) (by decide) dG_add_19 ?_
  refine z_aload_n hX 0 dG_add_20 rfl rfl ?_
  refine z_dup hX dG_add_21 rfl ?_
  refine z_get hX 0 3 rfl rfl (zu inG) (by decide) (List.mem_cons_of_mem _ mw_50) rfl dG_add_22 ?_
  refine z_iconst hX (nI 1) dG_add_25 rfl ?_
  refine z_iaddN hX dG_add_26 ?_
  refine z_put hX 0 3 rfl rfl (zu inG) tyG tyG_ok nmG (by decide) (List.mem_cons_of_mem _ mw_50) (Or.inl rfl) rfl rfl rfl (Nat.le_of_ble_eq_true rfl) dG_add_27 ?_
  refine z_aload_n hX 0 dG_add_30 rfl rfl ?_
  refine z_get hX 0 3 rfl rfl (zu inG) (by decide) (List.mem_cons_of_mem _ mw_50) rfl dG_add_31 ?_
  refine z_iconst hX (nI 1) dG_add_34 rfl ?_
  refine z_isubN hX (by omega) dG_add_35 ?_
  refine z_iret hX rfl rfl rfl rfl dG_add_36 ?_
  exact ⟨rfl, rfl⟩

set_option maxHeartbeats 4000000 in
set_option maxRecDepth 100000 in
theorem kG_allBlocks (l : Launch) (D : va_G) (cI cZ : ClassId) (g f t n m : Nat) (fr to : Nat → Nat) (hn : n < 13) : zM l yG_allBlocks wG_allBlocks rG_allBlocks D zCl (zTy cI cZ) zNW 0 0 [.ref g] (wG cI g f t n m fr to) (fun v wn => v = some (.int (bS (fun i => decide (i < n)))) ∧ wn = wG cI g f t n m fr to) := by
  refine z_met2 cG_allBlocks 1 (some .int) rfl rfl (Nat.le_of_ble_eq_true rfl) rfl (fun Z hX => ?_)
  show Z 0 0 0 [some (.ref g)] [] (wG cI g f t n m fr to)
  refine z_aload_n hX 0 dG_allBlocks_0 rfl rfl ?_
  refine z_get hX 0 0 rfl rfl (zu inG) (by decide) (List.mem_cons_of_mem _ mw_31) rfl dG_allBlocks_1 ?_
  refine z_Nr hX (kA_bit l D cI cZ n (by omega)) "SpanningProbes" mw_261 (by decide) mw_1 mw_260 rfl rfl ⟨by decide, by decide, rfl⟩ (by decide) rfl rfl (Nat.le_of_ble_eq_true rfl) dG_allBlocks_4 (by decide) [] rfl rfl (fun v wn hv => ?_)
  obtain ⟨rfl, rfl⟩ := hv
  refine ⟨rfl, ?_⟩
  refine z_iconst hX (nI 1) dG_allBlocks_7 rfl ?_
  refine z_isub hX dG_allBlocks_8 ?_
  refine z_iret hX rfl rfl rfl rfl dG_allBlocks_9 ?_
  exact ⟨by rw [bS_all2 hn], rfl⟩

set_option maxHeartbeats 4000000 in
set_option maxRecDepth 100000 in
theorem kG_blocksReaching (l : Launch) (D : va_G) (cI cZ : ClassId) (g f t n m : Nat) (fr to : Nat → Nat) (tg : Nat) (bar : Option Nat) (hn : 2 ≤ n ∧ n ≤ 12) (hm : m ≤ 24) (hok : ∀ e, e < m → fr e < n ∧ to e < n) (htg : tg < n) (hbar : ∀ b, bar = some b → b < 2147483648) : zM l yG_blocksReaching wG_blocksReaching rG_blocksReaching D zCl (zTy cI cZ) zNW 0 0 [.ref g, .int (nI tg), .int (zbar bar)] (wG cI g f t n m fr to) (fun v wn => v = some (.int (bS (sp_it (fun _ => sr_r fr to bar m) (n - 1) (zS0 tg bar)))) ∧ wn = wG cI g f t n m fr to) := by
  refine z_met2 cG_blocksReaching 6 (some .int) rfl rfl (Nat.le_of_ble_eq_true rfl) rfl (fun Z hX => ?_)
  show Z 0 0 0 [some (.ref g), some (.int (nI tg)), some (.int (zbar bar)), none, none, none] [] (wG cI g f t n m fr to)
  refine z_iload_n hX 1 dG_blocksReaching_0 rfl rfl ?_
  refine z_iload_n hX 2 dG_blocksReaching_1 rfl rfl ?_
  have cut : Z 0 0 13 [some (.ref g), some (.int (nI tg)), some (.int (zbar bar)), none, none, none] [.int (bS (zS0 tg bar))] (wG cI g f t n m fr to) := by
    refine z_istore_n hX 3 dG_blocksReaching_13 rfl (by decide) ?_
    refine z_iconst hX (nI 1) dG_blocksReaching_14 rfl ?_
    refine z_istore hX 4 dG_blocksReaching_15 (by decide) ?_
    refine z_le hX [some (.ref g), some (.int (nI tg)), some (.int (zbar bar)), some (.int (bS (zS0 tg bar))), some (.int (nI 1)), none] (And.intro rfl (And.intro rfl (And.intro rfl (And.intro rfl (And.intro rfl trivial))))) ?_
    refine zloop (P := fun j => Z 0 0 17 [some (.ref g), some (.int (nI tg)), some (.int (zbar bar)), some (.int (bS (sp_it (fun _ => sr_r fr to bar m) j (zS0 tg bar)))), some (.int (nI (j + 1))), none] [] (wG cI g f t n m fr to)) (n - 1) (fun j hj ih => ?_) 0 (Nat.zero_le _)
    refine z_iload hX 4 dG_blocksReaching_17 rfl ?_
    refine z_aload_n hX 0 dG_blocksReaching_19 rfl rfl ?_
    refine z_get hX 0 0 rfl rfl (zu inG) (by decide) (List.mem_cons_of_mem _ mw_31) rfl dG_blocksReaching_20 ?_
    refine z_icmp_geN hX 88 (by omega) (by omega) dG_blocksReaching_23 rfl (fun h23 => ?_) (fun h23 => ?_)
    · refine z_iload_n hX 3 dG_blocksReaching_88 rfl rfl ?_
      refine z_iret hX rfl rfl rfl rfl dG_blocksReaching_89 ?_
      rw [show n - 1 = j by omega]
      exact ⟨rfl, rfl⟩
    · refine z_iconst hX (nI 0) dG_blocksReaching_26 rfl ?_
      refine z_istore hX 5 dG_blocksReaching_27 (by decide) ?_
      refine zloop (P := fun e => Z 0 0 29 [some (.ref g), some (.int (nI tg)), some (.int (zbar bar)), some (.int (bS (sp_it (sr_s fr to bar) e (sp_it (fun _ => sr_r fr to bar m) j (zS0 tg bar))))), some (.int (nI (j + 1))), some (.int (nI e))] [] (wG cI g f t n m fr to)) m (fun e he ih2 => ?_) 0 (Nat.zero_le _)
      refine z_iload hX 5 dG_blocksReaching_29 rfl ?_
      refine z_aload_n hX 0 dG_blocksReaching_31 rfl rfl ?_
      refine z_get hX 0 3 rfl rfl (zu inG) (by decide) (List.mem_cons_of_mem _ mw_50) rfl dG_blocksReaching_32 ?_
      refine z_icmp_geN hX 82 (by omega) (by omega) dG_blocksReaching_35 rfl (fun h35 => ?_) (fun h35 => ?_)
      · refine z_iinc hX 4 dG_blocksReaching_82 rfl (zi_1 _) (by decide) ?_
        refine z_goto hX 17 dG_blocksReaching_85 rfl ?_
        refine z_le hX [some (.ref g), some (.int (nI tg)), some (.int (zbar bar)), some (.int (bS (sp_it (fun _ => sr_r fr to bar m) (j + 1) (zS0 tg bar)))), some (.int (nI (j + 1 + 1))), none] (And.intro rfl (And.intro rfl (And.intro rfl (And.intro ?_ (And.intro rfl trivial))))) (ih (by omega))
        rw [show m = e by omega]
        rfl
      · have hoke := hok e (by omega)
        refine z_iload_n hX 3 dG_blocksReaching_38 rfl rfl ?_
        refine z_aload_n hX 0 dG_blocksReaching_39 rfl rfl ?_
        refine z_get hX 0 2 rfl rfl (zu inG) (by decide) (List.mem_cons_of_mem _ mw_43) rfl dG_blocksReaching_40 ?_
        refine z_iload hX 5 dG_blocksReaching_43 rfl ?_
        refine z_ldN hX 2 0 _ rfl rfl rfl (by omega) (by decide) dG_blocksReaching_45 ?_
        refine z_Nr hX (kA_isIn l D cI cZ _ (to e) (by omega)) "SpanningProbes" mw_272 (by decide) mw_1 mw_271 rfl rfl ⟨by decide, by decide, rfl⟩ (by decide) rfl rfl (Nat.le_of_ble_eq_true rfl) dG_blocksReaching_46 (by decide) [] rfl rfl (fun v wn hv => ?_)
        obtain ⟨rfl, rfl⟩ := hv
        refine ⟨rfl, ?_⟩
        refine z_if_eqB hX 76 dG_blocksReaching_49 rfl (fun h49 => ?_) (fun h49 => ?_)
        · have hs : sp_it (sr_s fr to bar) (e + 1) (sp_it (fun _ => sr_r fr to bar m) j (zS0 tg bar)) = sp_it (sr_s fr to bar) e (sp_it (fun _ => sr_r fr to bar m) j (zS0 tg bar)) := if_neg (fun hc => by rw [h49] at hc; exact absurd hc.1 (by decide))
          refine z_iinc hX 5 dG_blocksReaching_76 rfl (zi_1 _) (by decide) ?_
          refine z_goto hX 29 dG_blocksReaching_79 rfl ?_
          have hz := ih2 (by omega)
          rw [hs] at hz
          exact hz
        · refine z_aload_n hX 0 dG_blocksReaching_52 rfl rfl ?_
          refine z_get hX 0 1 rfl rfl (zu inG) (by decide) (List.mem_cons_of_mem _ mw_37) rfl dG_blocksReaching_53 ?_
          refine z_iload hX 5 dG_blocksReaching_56 rfl ?_
          refine z_ldN hX 1 0 _ rfl rfl rfl (by omega) (by decide) dG_blocksReaching_58 ?_
          refine z_iload_n hX 2 dG_blocksReaching_59 rfl rfl ?_
          refine z_icmp_eq hX 76 dG_blocksReaching_60 rfl (fun h60 => ?_) (fun h60 => ?_)
          · have hs : sp_it (sr_s fr to bar) (e + 1) (sp_it (fun _ => sr_r fr to bar m) j (zS0 tg bar)) = sp_it (sr_s fr to bar) e (sp_it (fun _ => sr_r fr to bar m) j (zS0 tg bar)) := if_neg (fun hc => hc.2 ((zbar_eq (by omega) hbar).mp h60))
            refine z_iinc hX 5 dG_blocksReaching_76 rfl (zi_1 _) (by decide) ?_
            refine z_goto hX 29 dG_blocksReaching_79 rfl ?_
            have hz := ih2 (by omega)
            rw [hs] at hz
            exact hz
          · have hs : sp_it (sr_s fr to bar) (e + 1) (sp_it (fun _ => sr_r fr to bar m) j (zS0 tg bar)) = va_up (sp_it (sr_s fr to bar) e (sp_it (fun _ => sr_r fr to bar m) j (zS0 tg bar))) (fr e) true := if_pos ⟨h49, fun hc => h60 ((zbar_eq (by omega) hbar).mpr hc)⟩
            refine z_iload_n hX 3 dG_blocksReaching_63 rfl rfl ?_
            refine z_aload_n hX 0 dG_blocksReaching_64 rfl rfl ?_
            refine z_get hX 0 1 rfl rfl (zu inG) (by decide) (List.mem_cons_of_mem _ mw_37) rfl dG_blocksReaching_65 ?_
            refine z_iload hX 5 dG_blocksReaching_68 rfl ?_
            refine z_ldN hX 1 0 _ rfl rfl rfl (by omega) (by decide) dG_blocksReaching_70 ?_
            refine z_Nr hX (kA_bit l D cI cZ (fr e) (by omega)) "SpanningProbes" mw_261 (by decide) mw_1 mw_260 rfl rfl ⟨by decide, by decide, rfl⟩ (by decide) rfl rfl (Nat.le_of_ble_eq_true rfl) dG_blocksReaching_71 (by decide) [] rfl rfl (fun v wn hv => ?_)
            obtain ⟨rfl, rfl⟩ := hv
            refine ⟨rfl, ?_⟩
            refine z_ior hX dG_blocksReaching_74 ?_
            rw [bS_put]
            refine z_istore_n hX 3 dG_blocksReaching_75 rfl (by decide) ?_
            refine z_iinc hX 5 dG_blocksReaching_76 rfl (zi_1 _) (by decide) ?_
            refine z_goto hX 29 dG_blocksReaching_79 rfl ?_
            have hz := ih2 (by omega)
            rw [hs] at hz
            exact hz
  refine z_icmp_ne hX 9 dG_blocksReaching_2 rfl (fun h2 => ?_) (fun h2 => ?_)
  · refine z_iload_n hX 1 dG_blocksReaching_9 rfl rfl ?_
    refine z_Nr hX (kA_bit l D cI cZ tg (by omega)) "SpanningProbes" mw_261 (by decide) mw_1 mw_260 rfl rfl ⟨by decide, by decide, rfl⟩ (by decide) rfl rfl (Nat.le_of_ble_eq_true rfl) dG_blocksReaching_10 (by decide) [] rfl rfl (fun v wn hv => ?_)
    obtain ⟨rfl, rfl⟩ := hv
    refine ⟨rfl, ?_⟩
    rw [show (fun i => decide (i = tg)) = zS0 tg bar from (if_neg (fun hc => h2 ((zbar_eq (by omega) hbar).mpr hc))).symm]
    exact cut
  · refine z_iconst hX (bS (zS0 tg bar)) dG_blocksReaching_5 (by rw [show zS0 tg bar = (fun _ => false) from if_pos ((zbar_eq (by omega) hbar).mp h2), bS_none]; rfl) ?_
    refine z_goto hX 13 dG_blocksReaching_6 rfl ?_
    exact cut

