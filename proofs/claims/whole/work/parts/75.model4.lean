/-! the reference: search -/
theorem zfillN_up {α : Type} (f : Nat → α) (x : α) (i : Nat) : zfill f x (i + 1) = va_up (zfill f x i) i x := by
  funext y
  by_cases h : y = i
  · subst h; rw [sp_up_s]; exact if_pos (by omega)
  · rw [sp_up_n _ _ h]
    show (if y < i + 1 then x else f y) = (if y < i then x else f y)
    by_cases hc : y < i
    · rw [if_pos hc, if_pos (by omega)]
    · rw [if_neg hc, if_neg (by omega)]
abbrev sq_run (fr to : Nat → Nat) (m i : Nat) (r : sq_T) : sq_T := sp_it (fun _ => sq_step fr to m) i r
theorem sq_stay {fr to : Nat → Nat} {m : Nat} {r : sq_T} (hh : r.2.2.2.1 = 0) : sq_step fr to m r = r := by
  obtain ⟨met, nx, st, h, bk⟩ := r
  have hx : h = 0 := hh
  subst hx
  exact sq_step_0 fr to m met nx st bk
theorem sq_end {fr to : Nat → Nat} {m i : Nat} {r : sq_T} (hh : (sq_run fr to m i r).2.2.2.1 = 0) : ∀ k, sq_run fr to m (i + k) r = sq_run fr to m i r := by
  intro k
  induction k with
  | zero => rfl
  | succ k ih =>
    have e1 : sq_run fr to m (i + (k + 1)) r = sq_step fr to m (sq_run fr to m (i + k) r) := rfl
    rw [e1, ih]
    exact sq_stay hh
abbrev zs0 : ss_T := (va_up (fun _ => 0) 0 1, fun _ => 0, fun _ => 0, 1, fun _ => false, fun _ => 0, 0)
abbrev zq0 (n : Nat) (mt nx pa : Nat → Nat) (bk : Nat → Bool) : sq_T := (va_up (zfill mt 0 n) 0 1, zfill nx 0 n, va_up pa 0 0, 1, bk)
theorem zq_rel {n m : Nat} {fr to mt nx pa : Nat → Nat} {bk : Nat → Bool} (hn : 2 ≤ n) (hok : ∀ e, e < m → fr e < n ∧ to e < n) : ∀ i, sq_R n m fr (ss_run fr to m i zs0) (sq_run fr to m i (zq0 n mt nx pa bk)) := by
  have hJ0 : ss_J n m fr to zs0 := ss_start (look := fun _ => 0) (st := fun _ => 0) hn rfl rfl
  intro i
  induction i with
  | zero =>
    refine ⟨fun b hb => ?_, rfl, fun i hi => ?_, fun b hb h1 => ?_, fun b hb h1 => ?_, fun e he hl => ?_⟩
    · show va_up (zfill mt 0 n) 0 1 b = va_up (fun _ => 0) 0 1 b
      by_cases h : b = 0
      · rw [h, sp_up_s, sp_up_s]
      · rw [sp_up_n _ _ h, sp_up_n _ _ h]; exact if_pos hb
    · have hi : i < 1 := hi
      rw [show i = 0 by omega]
      exact sp_up_s pa 0 0
    · exact if_pos hb
    · exact if_pos hb
    · exfalso
      have hl : ss_L fr (va_up (fun _ => 0) 0 1) (fun _ => 0) e := hl
      rcases hl with h1 | ⟨_, h1⟩
      · by_cases h : fr e = 0
        · rw [h, sp_up_s] at h1; cases h1
        · rw [sp_up_n _ _ h] at h1; cases h1
      · exact absurd h1 (Nat.not_lt_zero _)
  | succ i ih => exact sq_keep hok _ _ (ss_run_J hok hJ0 i).1 ih
set_option maxHeartbeats 400000 in
set_option maxRecDepth 100000 in
theorem kM_search (l : Launch) (D : va_G) (cI cZ : ClassId) (ax : Nat) (r : Nat → Nat) (n m : Nat) (sl : Bool) (pr wy fo : Nat) (ru : Bool) (pl pk : Nat) (rs es : Int) (fr to mt nx0 pa0 : Nat → Nat) (bk0 : Nat → Bool) (hn : 2 ≤ n ∧ n ≤ 12) (hm : m ≤ 24) (hok : ∀ e, e < m → fr e < n ∧ to e < n) : zM l yM_search wM_search rM_search D zCl (zTy cI cZ) zNW 0 0 [.ref ax] ([mO ax r (n) (m) (sl) (pr) (wy) (fo) (ru) (pl) (pk) (rs) (es), (r 2, .inl (cI, 24, .inl (aN (fr)))), (r 3, .inl (cI, 24, .inl (aN (to)))), (r 5, .inl (cI, 12, .inl (aN (mt)))), (r 6, .inl (cI, 12, .inl (aN (nx0)))), (r 7, .inl (cI, 12, .inl (aN (pa0)))), (r 8, .inl (cZ, 24, .inl (aB (bk0))))]) (fun v wn => v = none ∧ ∃ met nx pa h bk, sq_run fr to m (n + m) (zq0 n mt nx0 pa0 bk0) = (met, nx, pa, h, bk) ∧ wn = [mO ax r (n) (m) (sl) (pr) (wy) (fo) (ru) (pl) (pk) (rs) (es), (r 2, .inl (cI, 24, .inl (aN (fr)))), (r 3, .inl (cI, 24, .inl (aN (to)))), (r 5, .inl (cI, 12, .inl (aN (met)))), (r 6, .inl (cI, 12, .inl (aN (nx)))), (r 7, .inl (cI, 12, .inl (aN (pa)))), (r 8, .inl (cZ, 24, .inl (aB (bk))))]) := by
  have hJ0 : ss_J n m fr to zs0 := ss_start (look := fun _ => 0) (st := fun _ => 0) hn.1 rfl rfl
  have hrel := zq_rel (mt := mt) (nx := nx0) (pa := pa0) (bk := bk0) hn.1 hok
  refine z_met2 cM_search 5 none rfl rfl (Nat.le_of_ble_eq_true rfl) rfl (fun Z hX => ?_)
  show Z 0 0 0 [some (.ref ax), none, none, none, none] [] ([mO ax r (n) (m) (sl) (pr) (wy) (fo) (ru) (pl) (pk) (rs) (es), (r 2, .inl (cI, 24, .inl (aN (fr)))), (r 3, .inl (cI, 24, .inl (aN (to)))), (r 5, .inl (cI, 12, .inl (aN (mt)))), (r 6, .inl (cI, 12, .inl (aN (nx0)))), (r 7, .inl (cI, 12, .inl (aN (pa0)))), (r 8, .inl (cZ, 24, .inl (aB (bk0))))])
  refine z_iconst hX (nI 0) dM_search_0 rfl ?_
  refine z_istore_n hX 1 dM_search_1 rfl (by decide) ?_
  have hloop : ∀ i, i ≤ n → Z 0 0 2 [some (.ref ax), some (.int (nI i)), none, none, none] [] ([mO ax r (n) (m) (sl) (pr) (wy) (fo) (ru) (pl) (pk) (rs) (es), (r 2, .inl (cI, 24, .inl (aN (fr)))), (r 3, .inl (cI, 24, .inl (aN (to)))), (r 5, .inl (cI, 12, .inl (aN (zfill mt 0 i)))), (r 6, .inl (cI, 12, .inl (aN (zfill nx0 0 i)))), (r 7, .inl (cI, 12, .inl (aN (pa0)))), (r 8, .inl (cZ, 24, .inl (aB (bk0))))]) := by
    refine zloop (P := fun i => Z 0 0 2 [some (.ref ax), some (.int (nI i)), none, none, none] [] ([mO ax r (n) (m) (sl) (pr) (wy) (fo) (ru) (pl) (pk) (rs) (es), (r 2, .inl (cI, 24, .inl (aN (fr)))), (r 3, .inl (cI, 24, .inl (aN (to)))), (r 5, .inl (cI, 12, .inl (aN (zfill mt 0 i)))), (r 6, .inl (cI, 12, .inl (aN (zfill nx0 0 i)))), (r 7, .inl (cI, 12, .inl (aN (pa0)))), (r 8, .inl (cZ, 24, .inl (aB (bk0))))])) n (fun i hi ih => ?_)
    refine z_iload_n hX 1 dM_search_2 rfl rfl ?_
    refine z_aload_n hX 0 dM_search_3 rfl rfl ?_
    refine z_get hX 0 0 rfl rfl (zu inM) (by decide) (List.mem_cons_of_mem _ mw_552) rfl dM_search_4 ?_
    refine z_icmp_geN hX 30 (by omega) (by omega) dM_search_7 rfl (fun h7 => ?_) (fun h7 => ?_)
    · have him : i = n := by omega
      rw [him]
      refine z_iconst hX (nI 1) dM_search_30 rfl ?_
      refine z_istore_n hX 1 dM_search_31 rfl (by decide) ?_
      refine z_aload_n hX 0 dM_search_32 rfl rfl ?_
      refine z_get hX 0 7 rfl rfl (zu inM) (by decide) (List.mem_cons_of_mem _ mw_559) rfl dM_search_33 ?_
      refine z_iconst hX (nI 0) dM_search_36 rfl ?_
      refine z_iconst hX (nI 0) dM_search_37 rfl ?_
      refine z_stN hX 5 0 _ _ rfl rfl rfl rfl (by omega) (by decide) dM_search_38 ?_
      refine z_aload_n hX 0 dM_search_39 rfl rfl ?_
      refine z_get hX 0 5 rfl rfl (zu inM) (by decide) (List.mem_cons_of_mem _ mw_557) rfl dM_search_40 ?_
      refine z_iconst hX (nI 0) dM_search_43 rfl ?_
      refine z_iconst hX (nI 1) dM_search_44 rfl ?_
      refine z_stN hX 3 0 _ _ rfl rfl rfl rfl (by omega) (by decide) dM_search_45 ?_
      have hloop2 : ∀ i, i ≤ n + m → ∀ met nx pa h bk, sq_run fr to m i (zq0 n mt nx0 pa0 bk0) = (met, nx, pa, h, bk) → Z 0 0 46 [some (.ref ax), some (.int (nI h)), none, none, none] [] ([mO ax r (n) (m) (sl) (pr) (wy) (fo) (ru) (pl) (pk) (rs) (es), (r 2, .inl (cI, 24, .inl (aN (fr)))), (r 3, .inl (cI, 24, .inl (aN (to)))), (r 5, .inl (cI, 12, .inl (aN (met)))), (r 6, .inl (cI, 12, .inl (aN (nx)))), (r 7, .inl (cI, 12, .inl (aN (pa)))), (r 8, .inl (cZ, 24, .inl (aB (bk))))]) := by
        refine zloop (P := fun i => ∀ met nx pa h bk, sq_run fr to m i (zq0 n mt nx0 pa0 bk0) = (met, nx, pa, h, bk) → Z 0 0 46 [some (.ref ax), some (.int (nI h)), none, none, none] [] ([mO ax r (n) (m) (sl) (pr) (wy) (fo) (ru) (pl) (pk) (rs) (es), (r 2, .inl (cI, 24, .inl (aN (fr)))), (r 3, .inl (cI, 24, .inl (aN (to)))), (r 5, .inl (cI, 12, .inl (aN (met)))), (r 6, .inl (cI, 12, .inl (aN (nx)))), (r 7, .inl (cI, 12, .inl (aN (pa)))), (r 8, .inl (cZ, 24, .inl (aB (bk))))])) (n + m) (fun i hi2 ih2 => ?_)
        intro met nx pa h bk hx
        have hRi := hrel i
        have hJi := (ss_run_J hok hJ0 i).1
        have hov := ss_over hok hJ0
        have hri2 : (ss_run fr to m i zs0).2.2.2.1 = h := by rw [hx] at hRi; exact hRi.2.1.symm
        refine z_iload_n hX 1 dM_search_46 rfl rfl ?_
        refine z_if_le hX 150 dM_search_47 rfl (fun h47 => ?_) (fun h47 => ?_)
        · have hle : h ≤ n := by
            have h9 := hJi.2.2.2.2.2.2.2.2.2.2.2.1
            rw [hri2] at h9
            have h8 := sp_cnt_le (fun b => decide ((ss_run fr to m i zs0).1 b = 1)) n
            omega
          have h0 : h = 0 := (zi_le0 (by omega)).mp h47
          have hfin : sq_run fr to m (n + m) (zq0 n mt nx0 pa0 bk0) = (met, nx, pa, h, bk) := by
            have h9 := sq_end (fr := fr) (to := to) (m := m) (i := i) (r := (zq0 n mt nx0 pa0 bk0)) (by rw [hx]; exact h0) (n + m - i)
            rw [show i + (n + m - i) = n + m by omega] at h9
            rw [h9, hx]
          refine z_vret hX rfl rfl rfl dM_search_150 ?_
          exact ⟨rfl, met, nx, pa, h, bk, hfin, rfl⟩
        · have hqn : ¬ h = 0 := fun hc => h47 (by rw [hc]; decide)
          obtain ⟨hp, rfl⟩ : ∃ hp, h = hp + 1 := ⟨h - 1, by omega⟩
          have hlt : i < n + m := by
            by_cases hc : i < n + m
            · exact hc
            · rw [show i = n + m by omega, hov] at hri2; omega
          obtain ⟨⟨pm, plk, pst, ph, pbk, pfin, pk2⟩, hs⟩ : ∃ x, ss_run fr to m i zs0 = x := ⟨_, rfl⟩
          rw [hs] at hri2 hRi hJi
          rw [hx] at hRi
          have hph : ph = hp + 1 := hri2
          subst hph
          have I : ss_I n m fr to pm plk pst (hp + 1) pbk pfin pk2 := hJi
          obtain ⟨r1, r2, r3, r4, r5, r6⟩ := hRi
          have r1 : ∀ b, b < n → met b = pm b := r1
          have hbd := ss_bounds I
          obtain ⟨b, e0, hb, hbn, hb1, hge, hlo, hno, hcase⟩ := ss_cases I
          have hpa : pa hp = b := by rw [← hb]; exact r3 hp (show hp < hp + 1 by omega)
          have hnxb : nx b = plk b := r4 b hbn hb1
          have hnxm : nx b ≤ m := by rw [hnxb]; exact I.2.2.2.2.2.2.1 b hbn hb1
          have hge2 : sg_nx fr b (m - nx b) (nx b) = e0 := by rw [hnxb]; exact hge
          have hse := sq_step_eq fr to m met nx pa hp bk b e0 hpa hge2
          refine z_aload_n hX 0 dM_search_50 rfl rfl ?_
          refine z_get hX 0 7 rfl rfl (zu inM) (by decide) (List.mem_cons_of_mem _ mw_559) rfl dM_search_51 ?_
          refine z_iload_n hX 1 dM_search_54 rfl rfl ?_
          refine z_iconst hX (nI 1) dM_search_55 rfl ?_
          refine z_isubN hX (by omega) dM_search_56 ?_
          rw [Nat.add_sub_cancel]
          refine z_ldN hX 5 0 _ rfl rfl rfl (by omega) (by decide) dM_search_57 ?_
          rw [hpa]
          refine z_istore_n hX 2 dM_search_58 rfl (by decide) ?_
          refine z_aload_n hX 0 dM_search_59 rfl rfl ?_
          refine z_iload_n hX 2 dM_search_60 rfl rfl ?_
          refine z_Vy hX (kM_look l D cI cZ ax r n m sl pr wy fo ru pl pk rs es fr nx b (by omega) hm (fun e he => by have := hok e he; omega) hnxm) mw_683 mw_685 mp_2_8 mw_9 mw_686 rfl rfl ⟨rfl, by decide, by decide, rfl⟩ (by decide) 0 rfl rfl rfl rfl (Nat.le_of_ble_eq_true rfl) dM_search_61 (by decide) [0, 1, 4] rfl rfl [2, 3, 5, 6] 7 (by decide) (by decide) (fun v wn hv => ?_)
          rw [hge2] at hv
          obtain ⟨rfl, rfl⟩ := hv
          refine ⟨[mO ax r (n) (m) (sl) (pr) (wy) (fo) (ru) (pl) (pk) (rs) (es), (r 2, .inl (cI, 24, .inl (aN (fr)))), (r 3, .inl (cI, 24, .inl (aN (to)))), (r 5, .inl (cI, 12, .inl (aN (met)))), (r 6, .inl (cI, 12, .inl (aN (va_up nx b (e0 + 1))))), (r 7, .inl (cI, 12, .inl (aN (pa)))), (r 8, .inl (cZ, 24, .inl (aB (bk))))], rfl, (And.intro ⟨_, rfl, rfl⟩ (And.intro ⟨_, rfl, rfl⟩ (And.intro ⟨_, rfl, rfl⟩ (And.intro ⟨_, rfl, rfl⟩ trivial)))), rfl, ?_⟩
          refine z_istore_n hX 3 dM_search_64 rfl (by decide) ?_
          refine z_iload_n hX 3 dM_search_65 rfl rfl ?_
          have he0m : e0 ≤ m := by
            obtain ⟨_, x2, _, _⟩ := sg_nx_spec fr b (m - nx b) (nx b)
            rw [hge2] at x2
            omega
          refine z_aload_n hX 0 dM_search_66 rfl rfl ?_
          refine z_get hX 0 1 rfl rfl (zu inM) (by decide) (List.mem_cons_of_mem _ mw_553) rfl dM_search_67 ?_
          refine z_icmp_ltN hX 87 (by omega) (by omega) dM_search_70 rfl (fun h70 => ?_) (fun h70 => ?_)
          · have hoke := hok e0 h70
            rw [if_neg (by omega)] at hse
            have hmt : met (to e0) ≤ 2 := by rw [r1 _ hoke.2]; exact I.2.2.2.2.2.2.2.1 _ hoke.2
            refine z_aload_n hX 0 dM_search_87 rfl rfl ?_
            refine z_get hX 0 3 rfl rfl (zu inM) (by decide) (List.mem_cons_of_mem _ mw_555) rfl dM_search_88 ?_
            refine z_iload_n hX 3 dM_search_91 rfl rfl ?_
            refine z_ldN hX 2 0 _ rfl rfl rfl (by omega) (by decide) dM_search_92 ?_
            refine z_istore hX 4 dM_search_93 (by decide) ?_
            refine z_aload_n hX 0 dM_search_95 rfl rfl ?_
            refine z_get hX 0 8 rfl rfl (zu inM) (by decide) (List.mem_cons_of_mem _ mw_560) rfl dM_search_96 ?_
            refine z_iload_n hX 3 dM_search_99 rfl rfl ?_
            refine z_aload_n hX 0 dM_search_100 rfl rfl ?_
            refine z_get hX 0 5 rfl rfl (zu inM) (by decide) (List.mem_cons_of_mem _ mw_557) rfl dM_search_101 ?_
            refine z_iload hX 4 dM_search_104 rfl ?_
            refine z_ldN hX 3 0 _ rfl rfl rfl (by omega) (by decide) dM_search_106 ?_
            refine z_iconst hX (nI 1) dM_search_107 rfl ?_
            refine z_icmp_neN hX 115 (by omega) (by omega) dM_search_108 rfl (fun h108 => ?_) (fun h108 => ?_)
            · have hd9 : ¬ met (to e0) = 1 := h108
              have hdd : decide (met (to e0) = 1) = false := decide_eq_false h108
              refine z_iconst hX (bN false) dM_search_115 rfl ?_
              refine z_stB hX 6 1 _ _ rfl rfl rfl rfl (by omega) (by decide) dM_search_116 ?_
              refine z_aload_n hX 0 dM_search_117 rfl rfl ?_
              refine z_get hX 0 5 rfl rfl (zu inM) (by decide) (List.mem_cons_of_mem _ mw_557) rfl dM_search_118 ?_
              refine z_iload hX 4 dM_search_121 rfl ?_
              refine z_ldN hX 3 0 _ rfl rfl rfl (by omega) (by decide) dM_search_123 ?_
              refine z_if_ne hX 147 dM_search_124 rfl (fun h124 => ?_) (fun h124 => ?_)
              · have hm0 : ¬ met (to e0) = 0 := fun hc => h124 ((zi_eq0 (by omega)).mpr hc)
                rw [if_neg hm0, hdd] at hse
                have hnext : sq_run fr to m (i + 1) (zq0 n mt nx0 pa0 bk0) = _ := (congrArg (sq_step fr to m) hx).trans hse
                refine z_goto hX 46 dM_search_147 rfl ?_
                first
                  | exact absurd hd9 hne
                  | exact z_le2 hX (ih2 hlt _ _ _ _ _ hnext) (And.intro rfl (And.intro rfl trivial))
              · have hm0 : met (to e0) = 0 := (zi_eq0 (by omega)).mp h124
                have hne : ¬ met (to e0) = 1 := by omega
                have hroom := ss_room I hoke.2 (by rw [← r1 _ hoke.2]; exact hm0)
                rw [if_pos hm0] at hse
                have hnext : sq_run fr to m (i + 1) (zq0 n mt nx0 pa0 bk0) = (va_up met (to e0) 1, va_up nx b (e0 + 1), va_up pa (hp + 1) (to e0), hp + 2, va_up bk e0 false) := (congrArg (sq_step fr to m) hx).trans hse
                refine z_aload_n hX 0 dM_search_127 rfl rfl ?_
                refine z_get hX 0 5 rfl rfl (zu inM) (by decide) (List.mem_cons_of_mem _ mw_557) rfl dM_search_128 ?_
                refine z_iload hX 4 dM_search_131 rfl ?_
                refine z_iconst hX (nI 1) dM_search_133 rfl ?_
                refine z_stN hX 3 0 _ _ rfl rfl rfl rfl (by omega) (by decide) dM_search_134 ?_
                refine z_aload_n hX 0 dM_search_135 rfl rfl ?_
                refine z_get hX 0 7 rfl rfl (zu inM) (by decide) (List.mem_cons_of_mem _ mw_559) rfl dM_search_136 ?_
                refine z_iload_n hX 1 dM_search_139 rfl rfl ?_
                refine z_iload hX 4 dM_search_140 rfl ?_
                refine z_stN hX 5 0 _ _ rfl rfl rfl rfl (by omega) (by decide) dM_search_142 ?_
                refine z_iload_n hX 1 dM_search_143 rfl rfl ?_
                refine z_iconst hX (nI 1) dM_search_144 rfl ?_
                refine z_iaddN hX dM_search_145 ?_
                refine z_istore_n hX 1 dM_search_146 rfl (by decide) ?_
                refine z_goto hX 46 dM_search_147 rfl ?_
                first
                  | exact absurd hd9 hne
                  | exact z_le2 hX (ih2 hlt _ _ _ _ _ hnext) (And.intro rfl (And.intro rfl trivial))
            · have hd9 : met (to e0) = 1 := h108
              have hdd : decide (met (to e0) = 1) = true := decide_eq_true h108
              refine z_iconst hX (bN true) dM_search_111 rfl ?_
              refine z_goto hX 116 dM_search_112 rfl ?_
              refine z_stB hX 6 1 _ _ rfl rfl rfl rfl (by omega) (by decide) dM_search_116 ?_
              refine z_aload_n hX 0 dM_search_117 rfl rfl ?_
              refine z_get hX 0 5 rfl rfl (zu inM) (by decide) (List.mem_cons_of_mem _ mw_557) rfl dM_search_118 ?_
              refine z_iload hX 4 dM_search_121 rfl ?_
              refine z_ldN hX 3 0 _ rfl rfl rfl (by omega) (by decide) dM_search_123 ?_
              refine z_if_ne hX 147 dM_search_124 rfl (fun h124 => ?_) (fun h124 => ?_)
              · have hm0 : ¬ met (to e0) = 0 := fun hc => h124 ((zi_eq0 (by omega)).mpr hc)
                rw [if_neg hm0, hdd] at hse
                have hnext : sq_run fr to m (i + 1) (zq0 n mt nx0 pa0 bk0) = _ := (congrArg (sq_step fr to m) hx).trans hse
                refine z_goto hX 46 dM_search_147 rfl ?_
                first
                  | exact absurd hd9 hne
                  | exact z_le2 hX (ih2 hlt _ _ _ _ _ hnext) (And.intro rfl (And.intro rfl trivial))
              · have hm0 : met (to e0) = 0 := (zi_eq0 (by omega)).mp h124
                have hne : ¬ met (to e0) = 1 := by omega
                have hroom := ss_room I hoke.2 (by rw [← r1 _ hoke.2]; exact hm0)
                rw [if_pos hm0] at hse
                have hnext : sq_run fr to m (i + 1) (zq0 n mt nx0 pa0 bk0) = (va_up met (to e0) 1, va_up nx b (e0 + 1), va_up pa (hp + 1) (to e0), hp + 2, va_up bk e0 false) := (congrArg (sq_step fr to m) hx).trans hse
                refine z_aload_n hX 0 dM_search_127 rfl rfl ?_
                refine z_get hX 0 5 rfl rfl (zu inM) (by decide) (List.mem_cons_of_mem _ mw_557) rfl dM_search_128 ?_
                refine z_iload hX 4 dM_search_131 rfl ?_
                refine z_iconst hX (nI 1) dM_search_133 rfl ?_
                refine z_stN hX 3 0 _ _ rfl rfl rfl rfl (by omega) (by decide) dM_search_134 ?_
                refine z_aload_n hX 0 dM_search_135 rfl rfl ?_
                refine z_get hX 0 7 rfl rfl (zu inM) (by decide) (List.mem_cons_of_mem _ mw_559) rfl dM_search_136 ?_
                refine z_iload_n hX 1 dM_search_139 rfl rfl ?_
                refine z_iload hX 4 dM_search_140 rfl ?_
                refine z_stN hX 5 0 _ _ rfl rfl rfl rfl (by omega) (by decide) dM_search_142 ?_
                refine z_iload_n hX 1 dM_search_143 rfl rfl ?_
                refine z_iconst hX (nI 1) dM_search_144 rfl ?_
                refine z_iaddN hX dM_search_145 ?_
                refine z_istore_n hX 1 dM_search_146 rfl (by decide) ?_
                refine z_goto hX 46 dM_search_147 rfl ?_
                first
                  | exact absurd hd9 hne
                  | exact z_le2 hX (ih2 hlt _ _ _ _ _ hnext) (And.intro rfl (And.intro rfl trivial))
          · rw [if_pos h70] at hse
            have hnext : sq_run fr to m (i + 1) (zq0 n mt nx0 pa0 bk0) = (va_up met b 2, va_up nx b (e0 + 1), pa, hp, bk) := (congrArg (sq_step fr to m) hx).trans hse
            refine z_aload_n hX 0 dM_search_73 rfl rfl ?_
            refine z_get hX 0 5 rfl rfl (zu inM) (by decide) (List.mem_cons_of_mem _ mw_557) rfl dM_search_74 ?_
            refine z_iload_n hX 2 dM_search_77 rfl rfl ?_
            refine z_iconst hX (nI 2) dM_search_78 rfl ?_
            refine z_stN hX 3 0 _ _ rfl rfl rfl rfl (by omega) (by decide) dM_search_79 ?_
            refine z_iload_n hX 1 dM_search_80 rfl rfl ?_
            refine z_iconst hX (nI 1) dM_search_81 rfl ?_
            refine z_isubN hX (by omega) dM_search_82 ?_
            rw [Nat.add_sub_cancel]
            refine z_istore_n hX 1 dM_search_83 rfl (by decide) ?_
            refine z_goto hX 147 dM_search_84 rfl ?_
            refine z_goto hX 46 dM_search_147 rfl ?_
            first
              | exact absurd hd9 hne
              | exact z_le2 hX (ih2 hlt _ _ _ _ _ hnext) (And.intro rfl (And.intro rfl trivial))
      exact hloop2 0 (Nat.zero_le _) _ _ _ _ _ rfl
    · refine z_aload_n hX 0 dM_search_10 rfl rfl ?_
      refine z_get hX 0 5 rfl rfl (zu inM) (by decide) (List.mem_cons_of_mem _ mw_557) rfl dM_search_11 ?_
      refine z_iload_n hX 1 dM_search_14 rfl rfl ?_
      refine z_iconst hX (nI 0) dM_search_15 rfl ?_
      refine z_stN hX 3 0 _ _ rfl rfl rfl rfl (by omega) (by decide) dM_search_16 ?_
      refine z_aload_n hX 0 dM_search_17 rfl rfl ?_
      refine z_get hX 0 6 rfl rfl (zu inM) (by decide) (List.mem_cons_of_mem _ mw_558) rfl dM_search_18 ?_
      refine z_iload_n hX 1 dM_search_21 rfl rfl ?_
      refine z_iconst hX (nI 0) dM_search_22 rfl ?_
      refine z_stN hX 4 0 _ _ rfl rfl rfl rfl (by omega) (by decide) dM_search_23 ?_
      refine z_iinc hX 1 dM_search_24 rfl (zi_1 _) (by decide) ?_
      refine z_goto hX 2 dM_search_27 rfl ?_
      have hz := ih (by omega)
      rw [zfillN_up, zfillN_up] at hz
      exact hz
  have hz := hloop 0 (Nat.zero_le _)
  rw [zfill_0, zfill_0] at hz
  exact hz

