/-! Search.metAll, explore -/
theorem z_le2 {Z : zF} {l : Launch} {R : Room} {D : va_G} {cl : List vw_C} {tys : List (ClassId × FieldType)} {NW : List (String × Nat × MethodName × String)} {cc : ByteArray} {nL : Nat} {own : String} {Ts : List Cond} {mc ms : Nat} {ret : Option FieldType} {nm : String} {E : Option Value → va_W → Prop} {k j pc : Nat} {lv lv2 : List (Option Value)} {st : List Value} {ws : va_W} (hX : zX Z l R D cl tys NW cc nL own Ts mc ms ret nm E) (kk : Z k j pc lv st ws) (h : zl_le lv lv2) : Z k j pc lv2 st ws := z_le hX lv h kk
set_option maxHeartbeats 1000000 in
set_option maxRecDepth 100000 in
theorem kS_metAll (l : Launch) (D : va_G) (cI cZ : ClassId) (s g ib fi sk lu : Nat) (Mt Op : Nat → Bool) (h : Nat) (bk : Nat → Bool) (fin st lk : Nat → Nat) (f t n m : Nat) (fr to : Nat → Nat) (hn : n ≤ 12) (hMt : ∀ b, Mt b = true → b < n) : zM l yS_metAll wS_metAll rS_metAll D zCl (zTy cI cZ) zNW 0 0 [.ref s] (wS cI cZ s g ib fi sk lu Mt Op h bk fin st lk ++ wG cI g f t n m fr to) (fun v wn => v = some (.int (bN (zallb n Mt))) ∧ wn = wS cI cZ s g ib fi sk lu Mt Op h bk fin st lk ++ wG cI g f t n m fr to) := by
  refine z_met2 cS_metAll 1 (some .boolean) rfl rfl (Nat.le_of_ble_eq_true rfl) rfl (fun Z hX => ?_)
  show Z 0 0 0 [some (.ref s)] [] (wS cI cZ s g ib fi sk lu Mt Op h bk fin st lk ++ wG cI g f t n m fr to)
  refine z_aload_n hX 0 dS_metAll_0 rfl rfl ?_
  refine z_get hX 0 5 rfl rfl (zu inS) (by decide) (List.mem_cons_of_mem _ mw_82) rfl dS_metAll_1 ?_
  refine z_aload_n hX 0 dS_metAll_4 rfl rfl ?_
  refine z_get hX 0 0 rfl rfl (zu inS) (by decide) (List.mem_cons_of_mem _ mw_73) rfl dS_metAll_5 ?_
  refine z_Vr hX (kG_allBlocks l D cI cZ g f t n m fr to (by omega)) mw_277 mw_278 mw_279 mw_2 mw_280 rfl rfl ⟨rfl, by decide, by decide, rfl⟩ (by decide) 5 rfl rfl rfl rfl (Nat.le_of_ble_eq_true rfl) dS_metAll_8 (by decide) [5, 6, 7] rfl rfl (fun v wn hv => ?_)
  obtain ⟨rfl, rfl⟩ := hv
  refine ⟨rfl, ?_⟩
  refine z_icmp_ne hX 18 dS_metAll_11 rfl (fun h11 => ?_) (fun h11 => ?_)
  · have hr : zallb n Mt = false := decide_eq_false (fun hc => h11 ((zall_iff (by omega) hMt).mpr hc))
    refine z_iconst hX (bN false) dS_metAll_18 rfl ?_
    refine z_iret hX rfl (bN_n _) rfl rfl dS_metAll_19 ?_
    exact ⟨by rw [hr], rfl⟩
  · have hr : zallb n Mt = true := decide_eq_true ((zall_iff (by omega) hMt).mp h11)
    refine z_iconst hX (bN true) dS_metAll_14 rfl ?_
    refine z_goto hX 19 dS_metAll_15 rfl ?_
    refine z_iret hX rfl (bN_n _) rfl rfl dS_metAll_19 ?_
    exact ⟨by rw [hr], rfl⟩

set_option maxHeartbeats 1000000 in
set_option maxRecDepth 100000 in
theorem kS_explore (l : Launch) (D : va_G) (cI cZ : ClassId) (s g ib fi sk lu : Nat) (Mt Op : Nat → Bool) (h : Nat) (bk : Nat → Bool) (fin st lk : Nat → Nat) (f t n m : Nat) (fr to : Nat → Nat) (hn : 2 ≤ n ∧ n ≤ 12) (hm : m ≤ 24) (hok : ∀ e, e < m → fr e < n ∧ to e < n) : zM l yS_explore wS_explore rS_explore D zCl (zTy cI cZ) zNW 0 0 [.ref s] (wS cI cZ s g ib fi sk lu Mt Op h bk fin st lk ++ wG cI g f t n m fr to) (fun v wn => v = none ∧ ∃ met look sq hq bq fq k, ss_run fr to m (n + m) ((va_up (fun _ => 0) 0 1, va_up lk 0 0, va_up st 0 0, 1, bk, fin, 0)) = (met, look, sq, hq, bq, fq, k) ∧ wn = wS cI cZ s g ib fi sk lu (fun x => decide (met x ≠ 0)) (fun x => decide (met x = 1)) hq bq fq sq look ++ wG cI g f t n m fr to) := by
  have hJ0 : ss_J n m fr to ((va_up (fun _ => 0) 0 1, va_up lk 0 0, va_up st 0 0, 1, bk, fin, 0)) := ss_start (look := va_up lk 0 0) (st := va_up st 0 0) hn.1 (sp_up_s lk 0 0) (sp_up_s st 0 0)
  refine z_met2 cS_explore 6 none rfl rfl (Nat.le_of_ble_eq_true rfl) rfl (fun Z hX => ?_)
  show Z 0 0 0 [some (.ref s), none, none, none, none, none] [] (wS cI cZ s g ib fi sk lu Mt Op h bk fin st lk ++ wG cI g f t n m fr to)
  refine z_aload_n hX 0 dS_explore_0 rfl rfl ?_
  refine z_iconst hX (bS (fun _ => false)) dS_explore_1 (by rw [bS_none]; rfl) ?_
  refine z_put hX 0 5 rfl rfl (zu inS) tyS tyS_ok nmS (by decide) (List.mem_cons_of_mem _ mw_82) (Or.inl rfl) rfl rfl rfl (Nat.le_of_ble_eq_true rfl) dS_explore_2 ?_
  refine z_aload_n hX 0 dS_explore_5 rfl rfl ?_
  refine z_iconst hX (bS (fun _ => false)) dS_explore_6 (by rw [bS_none]; rfl) ?_
  refine z_put hX 0 6 rfl rfl (zu inS) tyS tyS_ok nmS (by decide) (List.mem_cons_of_mem _ mw_83) (Or.inl rfl) rfl rfl rfl (Nat.le_of_ble_eq_true rfl) dS_explore_7 ?_
  refine z_aload_n hX 0 dS_explore_10 rfl rfl ?_
  refine z_iconst hX (nI 0) dS_explore_11 rfl ?_
  refine z_put hX 0 7 rfl rfl (zu inS) tyS tyS_ok nmS (by decide) (List.mem_cons_of_mem _ mw_84) (Or.inl rfl) rfl rfl rfl (Nat.le_of_ble_eq_true rfl) dS_explore_12 ?_
  refine z_iconst hX (nI 0) dS_explore_15 rfl ?_
  refine z_istore_n hX 1 dS_explore_16 rfl (by decide) ?_
  refine z_aload_n hX 0 dS_explore_17 rfl rfl ?_
  refine z_iconst hX (nI 0) dS_explore_18 rfl ?_
  refine z_Vm hX (kS_enter l D cI cZ s g ib fi sk lu (fun _ => false) (fun _ => false) 0 bk fin st lk 0 (by omega) (by omega)) mw_255 mw_257 mp_1_0 mw_4 mw_258 rfl rfl ⟨rfl, by decide, by decide, rfl⟩ (by decide) 0 rfl rfl rfl rfl (Nat.le_of_ble_eq_true rfl) dS_explore_19 (by decide) [0, 1, 2, 3, 4] rfl rfl (fun v wn hv => ?_)
  obtain ⟨rfl, rfl⟩ := hv
  refine ⟨by simp, ?_⟩
  refine z_aload_n hX 0 dS_explore_22 rfl rfl ?_
  refine z_get hX 0 0 rfl rfl (zu inS) (by decide) (List.mem_cons_of_mem _ mw_73) rfl dS_explore_23 ?_
  refine z_get hX 5 3 rfl rfl (zu inG) (by decide) (List.mem_cons_of_mem _ mw_54) rfl dS_explore_26 ?_
  refine z_aload_n hX 0 dS_explore_29 rfl rfl ?_
  refine z_get hX 0 0 rfl rfl (zu inS) (by decide) (List.mem_cons_of_mem _ mw_73) rfl dS_explore_30 ?_
  refine z_get hX 5 0 rfl rfl (zu inG) (by decide) (List.mem_cons_of_mem _ mw_33) rfl dS_explore_33 ?_
  refine z_iaddN hX dS_explore_36 ?_
  refine z_istore_n hX 2 dS_explore_37 rfl (by decide) ?_
  refine z_iconst hX (nI 0) dS_explore_38 rfl ?_
  refine z_istore_n hX 3 dS_explore_39 rfl (by decide) ?_
  have hloop : ∀ i, i ≤ m + n → ∀ met look sq hq bq fq k, ss_run fr to m i ((va_up (fun _ => 0) 0 1, va_up lk 0 0, va_up st 0 0, 1, bk, fin, 0)) = (met, look, sq, hq, bq, fq, k) → Z 0 0 40 [some (.ref s), some (.int (nI (k))), some (.int (nI (m + n))), some (.int (nI (i))), none, none] [] (wS cI cZ s g ib fi sk lu (fun x => decide (met x ≠ 0)) (fun x => decide (met x = 1)) hq bq fq sq look ++ wG cI g f t n m fr to) := by
    refine zloop (P := fun i => ∀ met look sq hq bq fq k, ss_run fr to m i ((va_up (fun _ => 0) 0 1, va_up lk 0 0, va_up st 0 0, 1, bk, fin, 0)) = (met, look, sq, hq, bq, fq, k) → Z 0 0 40 [some (.ref s), some (.int (nI (k))), some (.int (nI (m + n))), some (.int (nI (i))), none, none] [] (wS cI cZ s g ib fi sk lu (fun x => decide (met x ≠ 0)) (fun x => decide (met x = 1)) hq bq fq sq look ++ wG cI g f t n m fr to)) (m + n) (fun i hi ih => ?_)
    intro met look sq hq bq fq k hx
    have hJ := (ss_run_J (fun e he => hok e he) hJ0 i).1
    rw [hx] at hJ
    have I : ss_I n m fr to met look sq hq bq fq k := hJ
    refine z_iload_n hX 3 dS_explore_40 rfl rfl ?_
    refine z_iload_n hX 2 dS_explore_41 rfl rfl ?_
    refine z_icmp_geN hX 151 (by omega) (by omega) dS_explore_42 rfl (fun h42 => ?_) (fun h42 => ?_)
    · have hfin : ss_run fr to m (n + m) ((va_up (fun _ => 0) 0 1, va_up lk 0 0, va_up st 0 0, 1, bk, fin, 0)) = (met, look, sq, hq, bq, fq, k) := by rw [show n + m = i by omega]; exact hx
      refine z_vret hX rfl rfl rfl dS_explore_151 ?_
      exact ⟨rfl, met, look, sq, _, bq, fq, k, hfin, rfl⟩
    · refine z_aload_n hX 0 dS_explore_45 rfl rfl ?_
      refine z_get hX 0 7 rfl rfl (zu inS) (by decide) (List.mem_cons_of_mem _ mw_84) rfl dS_explore_46 ?_
      refine z_if_le hX 151 dS_explore_49 rfl (fun h49 => ?_) (fun h49 => ?_)
      · have hq0 : hq = 0 := (zi_le0 (by have := I.2.2.2.2.2.2.2.2.2.2.2.1; have := sp_cnt_le (fun b => decide (met b = 1)) n; omega)).mp h49
        have hfin : ss_run fr to m (n + m) ((va_up (fun _ => 0) 0 1, va_up lk 0 0, va_up st 0 0, 1, bk, fin, 0)) = (met, look, sq, hq, bq, fq, k) := by rw [← ss_same (fun e he => hok e he) hJ0 (i := i) (by rw [hx]; exact hq0)]; exact hx
        refine z_vret hX rfl rfl rfl dS_explore_151 ?_
        exact ⟨rfl, met, look, sq, _, bq, fq, k, hfin, rfl⟩
      · have hqn : ¬ hq = 0 := fun hc => h49 (by rw [hc]; decide)
        obtain ⟨hp, rfl⟩ : ∃ hp, hq = hp + 1 := ⟨hq - 1, by omega⟩
        have hbd := ss_bounds I
        obtain ⟨b, e0, hb, hbn, hb1, hge, hlo, hno, hcase⟩ := ss_cases I
        have hlkm := I.2.2.2.2.2.2.1 b hbn hb1
        refine z_aload_n hX 0 dS_explore_52 rfl rfl ?_
        refine z_get hX 0 3 rfl rfl (zu inS) (by decide) (List.mem_cons_of_mem _ mw_80) rfl dS_explore_53 ?_
        refine z_aload_n hX 0 dS_explore_56 rfl rfl ?_
        refine z_get hX 0 7 rfl rfl (zu inS) (by decide) (List.mem_cons_of_mem _ mw_84) rfl dS_explore_57 ?_
        refine z_iconst hX (nI 1) dS_explore_60 rfl ?_
        refine z_isubN hX (by omega) dS_explore_61 ?_
        rw [Nat.add_sub_cancel]
        refine z_ldN hX 3 0 _ rfl rfl rfl (by omega) (by decide) dS_explore_62 ?_
        rw [hb]
        refine z_istore hX 4 dS_explore_63 (by decide) ?_
        refine z_aload_n hX 0 dS_explore_65 rfl rfl ?_
        refine z_get hX 0 0 rfl rfl (zu inS) (by decide) (List.mem_cons_of_mem _ mw_73) rfl dS_explore_66 ?_
        refine z_iload hX 4 dS_explore_69 rfl ?_
        refine z_aload_n hX 0 dS_explore_71 rfl rfl ?_
        refine z_get hX 0 4 rfl rfl (zu inS) (by decide) (List.mem_cons_of_mem _ mw_81) rfl dS_explore_72 ?_
        refine z_iload hX 4 dS_explore_75 rfl ?_
        refine z_ldN hX 4 0 _ rfl rfl rfl (by omega) (by decide) dS_explore_77 ?_
        refine z_Vr hX (kG_nextFrom l D cI cZ g f t n m fr to b (look b) (by omega) (fun e he => by have := hok e he; omega) hm hlkm) mw_262 mw_263 mw_264 mw_2 mw_265 rfl rfl ⟨rfl, by decide, by decide, rfl⟩ (by decide) 5 rfl rfl rfl rfl (Nat.le_of_ble_eq_true rfl) dS_explore_78 (by decide) [5, 6, 7] rfl rfl (fun v wn hv => ?_)
        obtain ⟨rfl, rfl⟩ := hv
        refine ⟨rfl, ?_⟩
        rw [hge]
        refine z_istore hX 5 dS_explore_81 (by decide) ?_
        refine z_iload hX 5 dS_explore_83 rfl ?_
        refine z_if_ge hX 128 dS_explore_85 rfl (fun h85 => ?_) (fun h85 => ?_)
        · have hc := (zE_ge (m := m) (e := e0) (by omega)).mp h85
          rw [zE_in hc]
          have hoke := hok e0 hc
          have hroom : decide (met (to e0) ≠ 0) = false → hp + 1 < 12 := fun hc2 => by
            have h0 : met (to e0) = 0 := by
              by_cases h0 : met (to e0) = 0
              · exact h0
              · rw [decide_eq_true h0] at hc2; cases hc2
            have := ss_room I hoke.2 h0
            omega
          refine z_aload_n hX 0 dS_explore_128 rfl rfl ?_
          refine z_get hX 0 4 rfl rfl (zu inS) (by decide) (List.mem_cons_of_mem _ mw_81) rfl dS_explore_129 ?_
          refine z_iload hX 4 dS_explore_132 rfl ?_
          refine z_iload hX 5 dS_explore_134 rfl ?_
          refine z_iconst hX (nI 1) dS_explore_136 rfl ?_
          refine z_iaddN hX dS_explore_137 ?_
          refine z_stN hX 4 0 _ _ rfl rfl rfl rfl (by omega) (by decide) dS_explore_138 ?_
          refine z_aload_n hX 0 dS_explore_139 rfl rfl ?_
          refine z_iload hX 5 dS_explore_140 rfl ?_
          refine z_Vm hX (kS_lookAt l D cI cZ s g ib fi sk lu (fun x => decide (met x ≠ 0)) (fun x => decide (met x = 1)) (hp + 1) bq fq sq (va_up look b (e0 + 1)) f t n m fr to e0 (by omega) (by omega) hroom) mw_266 mw_268 mp_1_1 mw_4 mw_269 rfl rfl ⟨rfl, by decide, by decide, rfl⟩ (by decide) 0 rfl rfl rfl rfl (Nat.le_of_ble_eq_true rfl) dS_explore_142 (by decide) [0, 1, 2, 3, 4, 5, 6, 7] rfl rfl (fun v wn hv => ?_)
          obtain ⟨rfl, rfl⟩ := hv
          refine ⟨by split <;> simp, ?_⟩
          have hback : ∀ ws2 : va_W, ws2 = zset (wS cI cZ s g ib fi sk lu (fun x => decide (met x ≠ 0)) (fun x => decide (met x = 1)) (hp + 1) bq fq sq (va_up look b (e0 + 1)) ++ wG cI g f t n m fr to) [0, 1, 2, 3, 4, 5, 6, 7] ((if decide (met (to e0) ≠ 0) = true then wS cI cZ s g ib fi sk lu (fun x => decide (met x ≠ 0)) (fun x => decide (met x = 1)) (hp + 1) (va_up bq e0 (decide (met (to e0) = 1))) fq sq (va_up look b (e0 + 1)) else wS cI cZ s g ib fi sk lu (va_up (fun x => decide (met x ≠ 0)) (to e0) true) (va_up (fun x => decide (met x = 1)) (to e0) true) (hp + 1 + 1) (va_up bq e0 (decide (met (to e0) = 1))) fq (va_up sq (hp + 1) (to e0)) (va_up (va_up look b (e0 + 1)) (to e0) 0)) ++ wG cI g f t n m fr to) → Z 0 0 40 [some (.ref s), some (.int (nI (k))), some (.int (nI (m + n))), some (.int (nI (i + 1))), none, none] [] ws2 := by
            intro ws2 hw2
            subst hw2
            have hse := ss_step_eq fr to m met look sq hp bq fq k b e0 hb hge
            rw [if_neg (by omega)] at hse
            by_cases hm0 : met (to e0) = 0
            · rw [if_pos hm0] at hse
              rw [if_neg (fun hc => (of_decide_eq_true hc) hm0)]
              have hz := ih (by omega) _ _ _ _ _ _ _ ((congrArg (ss_step fr to m) hx).trans hse)
              rw [zm_push0, zm_push1] at hz
              rw [show decide (met (to e0) = 1) = false from decide_eq_false (by omega)]
              exact hz
            · rw [if_neg hm0] at hse
              rw [if_pos (decide_eq_true hm0)]
              exact ih (by omega) _ _ _ _ _ _ _ ((congrArg (ss_step fr to m) hx).trans hse)
          refine z_iinc hX 3 dS_explore_145 rfl (zi_1 _) (by decide) ?_
          refine z_goto hX 40 dS_explore_148 rfl ?_
          exact z_le2 hX (hback _ rfl) (And.intro rfl (And.intro rfl (And.intro rfl (And.intro rfl trivial))))
        · have hc : m ≤ e0 := by
            by_cases hc : e0 < m
            · exact absurd ((zE_ge (by omega)).mpr hc) h85
            · omega
          refine z_aload_n hX 0 dS_explore_88 rfl rfl ?_
          refine z_dup hX dS_explore_89 rfl ?_
          refine z_get hX 0 7 rfl rfl (zu inS) (by decide) (List.mem_cons_of_mem _ mw_84) rfl dS_explore_90 ?_
          refine z_iconst hX (nI 1) dS_explore_93 rfl ?_
          refine z_isubN hX (by omega) dS_explore_94 ?_
          rw [Nat.add_sub_cancel]
          refine z_put hX 0 7 rfl rfl (zu inS) tyS tyS_ok nmS (by decide) (List.mem_cons_of_mem _ mw_84) (Or.inl rfl) rfl rfl rfl (Nat.le_of_ble_eq_true rfl) dS_explore_95 ?_
          refine z_aload_n hX 0 dS_explore_98 rfl rfl ?_
          refine z_dup hX dS_explore_99 rfl ?_
          refine z_get hX 0 6 rfl rfl (zu inS) (by decide) (List.mem_cons_of_mem _ mw_83) rfl dS_explore_100 ?_
          refine z_iload hX 4 dS_explore_103 rfl ?_
          refine z_Nr hX (kA_bit l D cI cZ b (by omega)) "SpanningProbes" mw_261 (by decide) mw_1 mw_260 rfl rfl ⟨by decide, by decide, rfl⟩ (by decide) rfl rfl (Nat.le_of_ble_eq_true rfl) dS_explore_105 (by decide) [] rfl rfl (fun v wn hv => ?_)
          obtain ⟨rfl, rfl⟩ := hv
          refine ⟨rfl, ?_⟩
          refine z_iconst hX (-1) dS_explore_108 rfl ?_
          refine z_ixor hX dS_explore_109 ?_
          refine z_iand hX dS_explore_110 ?_
          rw [bS_cut]
          refine z_put hX 0 6 rfl rfl (zu inS) tyS tyS_ok nmS (by decide) (List.mem_cons_of_mem _ mw_83) (Or.inl rfl) rfl rfl rfl (Nat.le_of_ble_eq_true rfl) dS_explore_111 ?_
          refine z_aload_n hX 0 dS_explore_114 rfl rfl ?_
          refine z_get hX 0 2 rfl rfl (zu inS) (by decide) (List.mem_cons_of_mem _ mw_78) rfl dS_explore_115 ?_
          refine z_iload_n hX 1 dS_explore_118 rfl rfl ?_
          refine z_iload hX 4 dS_explore_119 rfl ?_
          refine z_stN hX 2 0 _ _ rfl rfl rfl rfl (by omega) (by decide) dS_explore_121 ?_
          refine z_iinc hX 1 dS_explore_122 rfl (zi_1 _) (by decide) ?_
          have hback : ∀ ws2 : va_W, ws2 = wS cI cZ s g ib fi sk lu (fun x => decide (met x ≠ 0)) (va_up (fun x => decide (met x = 1)) b false) hp bq (va_up fq k b) sq look ++ wG cI g f t n m fr to → Z 0 0 40 [some (.ref s), some (.int (nI (k + 1))), some (.int (nI (m + n))), some (.int (nI (i + 1))), none, none] [] ws2 := by
            intro ws2 hw2
            subst hw2
            have hse := ss_step_eq fr to m met look sq hp bq fq k b e0 hb hge
            rw [if_pos hc] at hse
            have hz := ih (by omega) _ _ _ _ _ _ _ ((congrArg (ss_step fr to m) hx).trans hse)
            rw [zm_pop0 met hb1, zm_pop1] at hz
            exact hz
          refine z_goto hX 145 dS_explore_125 rfl ?_
          refine z_iinc hX 3 dS_explore_145 rfl (zi_1 _) (by decide) ?_
          refine z_goto hX 40 dS_explore_148 rfl ?_
          exact z_le2 hX (hback _ rfl) (And.intro rfl (And.intro rfl (And.intro rfl (And.intro rfl trivial))))
  have hz := hloop 0 (Nat.zero_le _) _ _ _ _ _ _ _ rfl
  rw [zm_start0, zm_start1] at hz
  refine z_le hX [some (.ref s), some (.int (nI (0))), some (.int (nI (m + n))), some (.int (nI (0))), none, none] (And.intro rfl (And.intro rfl (And.intro ?_ (And.intro rfl trivial)))) hz
  rfl

