/-! the outer object: what writes -/
set_option maxHeartbeats 400000 in
set_option maxRecDepth 100000 in
theorem kA_edge (l : Launch) (D : va_G) (cI cZ : ClassId) (ax g s lo tr lk ct : Nat) (sd : Bool) (wh : Option Nat) (sm : Int) (f t n m : Nat) (fr to : Nat → Nat) (x z : Int32) (hn : 2 ≤ n ∧ n ≤ 12) (hm : m ≤ 24) : zM l yA_edge wA_edge rA_edge D zCl (zTy cI cZ) zNW 0 0 [.ref ax, .int x, .int z] (wA ax g s lo tr lk ct (sd) (wh) (sm) ++ wG cI g f t n m fr to) (fun v wn => ((sd = true ∨ zin x n = false ∨ zin z n = false ∨ x = 1 ∨ z = 0) → v = some (.int (-1)) ∧ wn = wA ax g s lo tr lk ct (sd) (wh) (sm) ++ wG cI g f t n m fr to) ∧ ∀ a b, sd = false → a < n → b < n → x = nI a → z = nI b → a ≠ 1 → b ≠ 0 → (m = 24 → v = some (.int (-2)) ∧ wn = wA ax g s lo tr lk ct (sd) (wh) (sm) ++ wG cI g f t n m fr to) ∧ (m < 24 → v = some (.int (nI m)) ∧ wn = wA ax g s lo tr lk ct (sd) (wh) (sm) ++ wG cI g f t n (m + 1) (va_up fr m a) (va_up to m b))) := by
  refine z_met2 cA_edge 3 (some .int) rfl rfl (Nat.le_of_ble_eq_true rfl) rfl (fun Z hX => ?_)
  show Z 0 0 0 [some (.ref ax), some (.int x), some (.int z)] [] (wA ax g s lo tr lk ct (sd) (wh) (sm) ++ wG cI g f t n m fr to)
  refine z_aload_n hX 0 dA_edge_0 rfl rfl ?_
  refine z_get hX 0 6 rfl rfl (zu inA) (by decide) (List.mem_cons_of_mem _ mw_213) rfl dA_edge_1 ?_
  refine z_if_neB hX 29 dA_edge_4 rfl (fun h4 => ?_) (fun h4 => ?_)
  · refine z_iconst hX (-1) dA_edge_29 rfl ?_
    refine z_iret hX rfl rfl rfl rfl dA_edge_30 ?_
    refine ⟨fun _ => ⟨rfl, rfl⟩, fun a b h1 h2 h3 h8 h5 h6 h7 => ?_⟩
    subst h8
    subst h5
    first
      | exact absurd (h1.symm.trans h4) (by decide)
      | exact absurd (h15.symm.trans (zin_nI h2 (by omega))) (by decide)
      | exact absurd (h26.symm.trans (zin_nI h3 (by omega))) (by decide)
  · refine z_aload_n hX 0 dA_edge_7 rfl rfl ?_
    refine z_get hX 0 0 rfl rfl (zu inA) (by decide) (List.mem_cons_of_mem _ mw_207) rfl dA_edge_8 ?_
    refine z_iload_n hX 1 dA_edge_11 rfl rfl ?_
    refine z_Vr hX (kG_hasBlock l D cI cZ g f t n m fr to x) mw_239 mw_240 mw_241 mw_2 mw_242 rfl rfl ⟨rfl, by decide, by decide, rfl⟩ (by decide) 1 rfl rfl rfl rfl (Nat.le_of_ble_eq_true rfl) dA_edge_12 (by decide) [1, 2, 3] rfl rfl (fun v wn hv => ?_)
    obtain ⟨rfl, rfl⟩ := hv
    refine ⟨rfl, ?_⟩
    refine z_if_eqB hX 29 dA_edge_15 rfl (fun h15 => ?_) (fun h15 => ?_)
    · refine z_iconst hX (-1) dA_edge_29 rfl ?_
      refine z_iret hX rfl rfl rfl rfl dA_edge_30 ?_
      refine ⟨fun _ => ⟨rfl, rfl⟩, fun a b h1 h2 h3 h8 h5 h6 h7 => ?_⟩
      subst h8
      subst h5
      first
        | exact absurd (h1.symm.trans h4) (by decide)
        | exact absurd (h15.symm.trans (zin_nI h2 (by omega))) (by decide)
        | exact absurd (h26.symm.trans (zin_nI h3 (by omega))) (by decide)
    · refine z_aload_n hX 0 dA_edge_18 rfl rfl ?_
      refine z_get hX 0 0 rfl rfl (zu inA) (by decide) (List.mem_cons_of_mem _ mw_207) rfl dA_edge_19 ?_
      refine z_iload_n hX 2 dA_edge_22 rfl rfl ?_
      refine z_Vr hX (kG_hasBlock l D cI cZ g f t n m fr to z) mw_239 mw_240 mw_241 mw_2 mw_242 rfl rfl ⟨rfl, by decide, by decide, rfl⟩ (by decide) 1 rfl rfl rfl rfl (Nat.le_of_ble_eq_true rfl) dA_edge_23 (by decide) [1, 2, 3] rfl rfl (fun v wn hv => ?_)
      obtain ⟨rfl, rfl⟩ := hv
      refine ⟨rfl, ?_⟩
      refine z_if_neB hX 31 dA_edge_26 rfl (fun h26 => ?_) (fun h26 => ?_)
      · obtain ⟨a, ha, rfl⟩ := zin_of (by omega) h15
        obtain ⟨b, hb, rfl⟩ := zin_of (by omega) h26
        refine z_iload_n hX 1 dA_edge_31 rfl rfl ?_
        refine z_iconst hX (nI 1) dA_edge_32 rfl ?_
        refine z_icmp_eqN hX 40 (by omega) (by omega) dA_edge_33 rfl (fun h33 => ?_) (fun h33 => ?_)
        · refine z_iconst hX (-1) dA_edge_40 rfl ?_
          refine z_iret hX rfl rfl rfl rfl dA_edge_41 ?_
          refine ⟨fun _ => ⟨rfl, rfl⟩, fun a1 b1 h1 h2 h3 h8 h5 h6 h7 => ?_⟩
          first
            | exact absurd (((nI_eq (by omega) (by omega)).mp h8).symm.trans h33) h6
            | exact absurd ((nI_eq (a := b1) (b := b) (by omega) (by omega)).mp h5.symm ▸ (zi_eq0 (a := b) (by omega)).mp h37) h7
        · refine z_iload_n hX 2 dA_edge_36 rfl rfl ?_
          refine z_if_ne hX 42 dA_edge_37 rfl (fun h37 => ?_) (fun h37 => ?_)
          · have hb0 : b ≠ 0 := fun hc => h37 (by rw [hc]; rfl)
            refine z_aload_n hX 0 dA_edge_42 rfl rfl ?_
            refine z_get hX 0 0 rfl rfl (zu inA) (by decide) (List.mem_cons_of_mem _ mw_207) rfl dA_edge_43 ?_
            refine z_get hX 1 3 rfl rfl (zu inG) (by decide) (List.mem_cons_of_mem _ mw_52) rfl dA_edge_46 ?_
            refine z_bipush hX (nI 24) dA_edge_49 (by decide) ?_
            refine z_icmp_geN hX 66 (by omega) (by omega) dA_edge_51 rfl (fun h51 => ?_) (fun h51 => ?_)
            · have hm24 : m = 24 := by omega
              refine z_bipush hX (-2) dA_edge_66 (by decide) ?_
              refine z_iret hX rfl rfl rfl rfl dA_edge_68 ?_
              refine ⟨fun h => ?_, fun a1 b1 h1 h2 h3 h8 h5 h6 h7 => ?_⟩
              · exfalso
                rcases h with h | h | h | h | h
                · rw [h] at h4; cases h4
                · rw [h] at h15; cases h15
                · rw [h] at h26; cases h26
                · exact h33 ((nI_eq (a := a) (b := 1) (by omega) (by omega)).mp h)
                · exact h37 h
              · have ea := (nI_eq (a := a) (b := a1) (by omega) (by omega)).mp h8
                have eb := (nI_eq (a := b) (b := b1) (by omega) (by omega)).mp h5
                subst ea
                subst eb
                first
                  | exact ⟨fun _ => ⟨rfl, rfl⟩, fun h9 => absurd h9 (by omega)⟩
                  | exact ⟨fun h9 => absurd h9 (by omega), fun _ => ⟨rfl, rfl⟩⟩
            · refine z_aload_n hX 0 dA_edge_54 rfl rfl ?_
              refine z_get hX 0 0 rfl rfl (zu inA) (by decide) (List.mem_cons_of_mem _ mw_207) rfl dA_edge_55 ?_
              refine z_iload_n hX 1 dA_edge_58 rfl rfl ?_
              refine z_iload_n hX 2 dA_edge_59 rfl rfl ?_
              refine z_Vy hX (kG_add l D cI cZ g f t n m fr to a b (by omega)) mw_243 mw_244 mw_245 mw_2 mw_246 rfl rfl ⟨rfl, by decide, by decide, rfl⟩ (by decide) 1 rfl rfl rfl rfl (Nat.le_of_ble_eq_true rfl) dA_edge_60 (by decide) [1, 2, 3] rfl rfl [0] 4 (by decide) (by decide) (fun v wn hv => ?_)
              obtain ⟨rfl, rfl⟩ := hv
              refine ⟨wA ax g s lo tr lk ct (sd) (wh) (sm) ++ wG cI g f t n (m + 1) (va_up fr m a) (va_up to m b), rfl, (And.intro ⟨_, rfl, rfl⟩ trivial), rfl, ?_⟩
              refine z_goto hX 68 dA_edge_63 rfl ?_
              refine z_iret hX rfl rfl rfl rfl dA_edge_68 ?_
              refine ⟨fun h => ?_, fun a1 b1 h1 h2 h3 h8 h5 h6 h7 => ?_⟩
              · exfalso
                rcases h with h | h | h | h | h
                · rw [h] at h4; cases h4
                · rw [h] at h15; cases h15
                · rw [h] at h26; cases h26
                · exact h33 ((nI_eq (a := a) (b := 1) (by omega) (by omega)).mp h)
                · exact h37 h
              · have ea := (nI_eq (a := a) (b := a1) (by omega) (by omega)).mp h8
                have eb := (nI_eq (a := b) (b := b1) (by omega) (by omega)).mp h5
                subst ea
                subst eb
                first
                  | exact ⟨fun _ => ⟨rfl, rfl⟩, fun h9 => absurd h9 (by omega)⟩
                  | exact ⟨fun h9 => absurd h9 (by omega), fun _ => ⟨rfl, rfl⟩⟩
          · refine z_iconst hX (-1) dA_edge_40 rfl ?_
            refine z_iret hX rfl rfl rfl rfl dA_edge_41 ?_
            refine ⟨fun _ => ⟨rfl, rfl⟩, fun a1 b1 h1 h2 h3 h8 h5 h6 h7 => ?_⟩
            first
              | exact absurd (((nI_eq (by omega) (by omega)).mp h8).symm.trans h33) h6
              | exact absurd ((nI_eq (a := b1) (b := b) (by omega) (by omega)).mp h5.symm ▸ (zi_eq0 (a := b) (by omega)).mp h37) h7
      · refine z_iconst hX (-1) dA_edge_29 rfl ?_
        refine z_iret hX rfl rfl rfl rfl dA_edge_30 ?_
        refine ⟨fun _ => ⟨rfl, rfl⟩, fun a b h1 h2 h3 h8 h5 h6 h7 => ?_⟩
        subst h8
        subst h5
        first
          | exact absurd (h1.symm.trans h4) (by decide)
          | exact absurd (h15.symm.trans (zin_nI h2 (by omega))) (by decide)
          | exact absurd (h26.symm.trans (zin_nI h3 (by omega))) (by decide)

set_option maxHeartbeats 400000 in
set_option maxRecDepth 100000 in
theorem kA_stop (l : Launch) (D : va_G) (cI cZ : ClassId) (ax g s lo tr lk ct : Nat) (sd : Bool) (wh : Option Nat) (sm : Int) (bh ht sp cp : Nat) (Bh : Nat → Nat → Bool) (H St Cm : Nat → Int) (hwh : ∀ p, wh = some p → p < 12) : zM l yA_stop wA_stop rA_stop D zCl (zTy cI cZ) zNW 0 0 [.ref ax] (wA ax g s lo tr lk ct (sd) (wh) (sm) ++ wC cI ct g tr bh ht sp cp Bh (H) (St) (Cm)) (fun v wn => (wh = none → v = some (.int (-1)) ∧ wn = wA ax g s lo tr lk ct (sd) (wh) (sm) ++ wC cI ct g tr bh ht sp cp Bh (H) (St) (Cm)) ∧ ∀ p, wh = some p → v = some (.int (nI p)) ∧ wn = wA ax g s lo tr lk ct (sd) (none) (0) ++ wC cI ct g tr bh ht sp cp Bh (H) (va_up St p (St p + 1)) (Cm)) := by
  refine z_met2 cA_stop 2 (some .int) rfl rfl (Nat.le_of_ble_eq_true rfl) rfl (fun Z hX => ?_)
  show Z 0 0 0 [some (.ref ax), none] [] (wA ax g s lo tr lk ct (sd) (wh) (sm) ++ wC cI ct g tr bh ht sp cp Bh (H) (St) (Cm))
  refine z_aload_n hX 0 dA_stop_0 rfl rfl ?_
  refine z_Vr hX (kA_isUnderWay l D cI cZ ax g s lo tr lk ct sd wh sm (fun p hp => by have := hwh p hp; omega)) mw_410 mw_412 mp_1_13 mw_1 mw_413 rfl rfl ⟨rfl, by decide, by decide, rfl⟩ (by decide) 0 rfl rfl rfl rfl (Nat.le_of_ble_eq_true rfl) dA_stop_1 (by decide) [0] rfl rfl (fun v wn hv => ?_)
  obtain ⟨rfl, rfl⟩ := hv
  refine ⟨rfl, ?_⟩
  refine z_if_neB hX 9 dA_stop_4 rfl (fun h4 => ?_) (fun h4 => ?_)
  · obtain ⟨p, rfl⟩ := zun_t h4
    have hp := hwh p rfl
    refine z_aload_n hX 0 dA_stop_9 rfl rfl ?_
    refine z_get hX 0 7 rfl rfl (zu inA) (by decide) (List.mem_cons_of_mem _ mw_214) rfl dA_stop_10 ?_
    refine z_istore_n hX 1 dA_stop_13 rfl (by decide) ?_
    refine z_aload_n hX 0 dA_stop_14 rfl rfl ?_
    refine z_get hX 0 5 rfl rfl (zu inA) (by decide) (List.mem_cons_of_mem _ mw_212) rfl dA_stop_15 ?_
    refine z_get hX 1 4 rfl rfl (zu inC) (by decide) (List.mem_cons_of_mem _ mw_191) rfl dA_stop_18 ?_
    refine z_iload_n hX 1 dA_stop_21 rfl rfl ?_
    refine z_dup2 hX dA_stop_22 rfl rfl ?_
    refine z_ldI hX 4 0 p rfl rfl rfl (by omega) (by decide) dA_stop_23 ?_
    refine z_iconst hX (nI 1) dA_stop_24 rfl ?_
    refine z_iaddI hX (St p) 1 rfl rfl dA_stop_25 ?_
    refine z_stI hX 4 0 p _ rfl rfl rfl rfl (by omega) (by decide) dA_stop_26 ?_
    refine z_aload_n hX 0 dA_stop_27 rfl rfl ?_
    refine z_Vy hX (kA_endRun l D cI cZ ax g s lo tr lk ct sd (some p) sm) mw_434 mw_436 mp_2_1 mw_1 mw_437 rfl rfl ⟨rfl, by decide, by decide, rfl⟩ (by decide) 0 rfl rfl rfl rfl (Nat.le_of_ble_eq_true rfl) dA_stop_28 (by decide) [0] rfl rfl [1, 2, 3, 4, 5] 6 (by decide) (by decide) (fun v wn hv => ?_)
    obtain ⟨rfl, rfl⟩ := hv
    refine ⟨wA ax g s lo tr lk ct (sd) (none) (0) ++ wC cI ct g tr bh ht sp cp Bh (H) (va_up St p (St p + 1)) (Cm), rfl, (And.intro ⟨_, rfl, rfl⟩ (And.intro ⟨_, rfl, rfl⟩ (And.intro ⟨_, rfl, rfl⟩ (And.intro ⟨_, rfl, rfl⟩ (And.intro ⟨_, rfl, rfl⟩ trivial))))), rfl, ?_⟩
    refine z_iload_n hX 1 dA_stop_31 rfl rfl ?_
    refine z_iret hX rfl rfl rfl rfl dA_stop_32 ?_
    refine ⟨fun hc => ?_, fun q hq => ?_⟩
    · cases hc
    · cases hq
      exact ⟨rfl, rfl⟩
  · have hw0 := zun_f h4
    refine z_iconst hX (-1) dA_stop_7 rfl ?_
    refine z_iret hX rfl rfl rfl rfl dA_stop_8 ?_
    exact ⟨fun _ => ⟨rfl, rfl⟩, fun p hp => by rw [hw0] at hp; cases hp⟩

set_option maxHeartbeats 400000 in
set_option maxRecDepth 100000 in
theorem kA_clear (l : Launch) (D : va_G) (cI cZ : ClassId) (ax g s lo tr lk ct : Nat) (sd : Bool) (wh : Option Nat) (sm : Int) (bh ht sp cp : Nat) (Bh : Nat → Nat → Bool) (H St Cm : Nat → Int) (hs gr : Nat) (has : Nat → Bool) (grp : Nat → Nat) (f t n m : Nat) (fr to : Nat → Nat) : zM l yA_clear wA_clear rA_clear D zCl (zTy cI cZ) zNW 0 0 [.ref ax] (wA ax g s lo tr lk ct (sd) (wh) (sm) ++ wC cI ct g tr bh ht sp cp Bh (H) (St) (Cm) ++ wT cI cZ tr g hs gr has grp ++ wG cI g f t n m fr to) (fun v wn => v = none ∧ wn = wA ax g s lo tr lk ct (sd) (none) (0) ++ wC cI ct g tr bh ht sp cp Bh (zfill H 0 24) (zfill St 0 12) (zfill Cm 0 200) ++ wT cI cZ tr g hs gr has grp ++ wG cI g f t n m fr to) := by
  refine z_met2 cA_clear 1 none rfl rfl (Nat.le_of_ble_eq_true rfl) rfl (fun Z hX => ?_)
  show Z 0 0 0 [some (.ref ax)] [] (wA ax g s lo tr lk ct (sd) (wh) (sm) ++ wC cI ct g tr bh ht sp cp Bh (H) (St) (Cm) ++ wT cI cZ tr g hs gr has grp ++ wG cI g f t n m fr to)
  refine z_aload_n hX 0 dA_clear_0 rfl rfl ?_
  refine z_get hX 0 5 rfl rfl (zu inA) (by decide) (List.mem_cons_of_mem _ mw_212) rfl dA_clear_1 ?_
  refine z_Vy hX (kC_forget l D cI cZ ct g tr bh ht sp cp Bh H St Cm hs gr has grp f t n m fr to) mw_536 mw_537 mw_538 mw_8 mw_539 rfl rfl ⟨rfl, by decide, by decide, rfl⟩ (by decide) 1 rfl rfl rfl rfl (Nat.le_of_ble_eq_true rfl) dA_clear_4 (by decide) [1, 2, 3, 4, 5, 6, 7, 8, 9, 10, 11] rfl rfl [0] 12 (by decide) (by decide) (fun v wn hv => ?_)
  obtain ⟨rfl, rfl⟩ := hv
  refine ⟨wA ax g s lo tr lk ct (sd) (wh) (sm) ++ wC cI ct g tr bh ht sp cp Bh (zfill H 0 24) (zfill St 0 12) (zfill Cm 0 200) ++ wT cI cZ tr g hs gr has grp ++ wG cI g f t n m fr to, rfl, (And.intro ⟨_, rfl, rfl⟩ trivial), rfl, ?_⟩
  refine z_aload_n hX 0 dA_clear_7 rfl rfl ?_
  refine z_Vy hX (kA_endRun l D cI cZ ax g s lo tr lk ct sd wh sm) mw_434 mw_436 mp_2_1 mw_1 mw_437 rfl rfl ⟨rfl, by decide, by decide, rfl⟩ (by decide) 0 rfl rfl rfl rfl (Nat.le_of_ble_eq_true rfl) dA_clear_8 (by decide) [0] rfl rfl [1, 2, 3, 4, 5, 6, 7, 8, 9, 10, 11] 12 (by decide) (by decide) (fun v wn hv => ?_)
  obtain ⟨rfl, rfl⟩ := hv
  refine ⟨wA ax g s lo tr lk ct (sd) (none) (0) ++ wC cI ct g tr bh ht sp cp Bh (zfill H 0 24) (zfill St 0 12) (zfill Cm 0 200) ++ wT cI cZ tr g hs gr has grp ++ wG cI g f t n m fr to, rfl, (And.intro ⟨_, rfl, rfl⟩ (And.intro ⟨_, rfl, rfl⟩ (And.intro ⟨_, rfl, rfl⟩ (And.intro ⟨_, rfl, rfl⟩ (And.intro ⟨_, rfl, rfl⟩ (And.intro ⟨_, rfl, rfl⟩ (And.intro ⟨_, rfl, rfl⟩ (And.intro ⟨_, rfl, rfl⟩ (And.intro ⟨_, rfl, rfl⟩ (And.intro ⟨_, rfl, rfl⟩ (And.intro ⟨_, rfl, rfl⟩ trivial))))))))))), rfl, ?_⟩
  refine z_vret hX rfl rfl rfl dA_clear_11 ?_
  exact ⟨rfl, rfl⟩

set_option maxHeartbeats 400000 in
set_option maxRecDepth 100000 in
theorem kA_completeWay (l : Launch) (D : va_G) (cI cZ : ClassId) (ax g s lo tr lk ct : Nat) (sd : Bool) (wh : Option Nat) (sm : Int) (kt rw vl sv bs ko : Nat) (R V SV : Nat → Nat) (B : Nat → Int) (o2 : Nat → Nat) (wy : Nat) (bh ht sp cp : Nat) (Bh : Nat → Nat → Bool) (H St Cm : Nat → Int) (hwy : wy ≤ 200) : zM l yA_completeWay wA_completeWay rA_completeWay D zCl (zTy cI cZ) zNW 0 0 [.ref ax] (wA ax g s lo tr lk ct (sd) (wh) (sm) ++ wK cI lk g s kt rw vl sv bs ko R V SV B o2 wy ++ wC cI ct g tr bh ht sp cp Bh (H) (St) (Cm)) (fun v wn => v = none ∧ ((sd && zin (Int32.ofInt sm) wy) = false → wn = wA ax g s lo tr lk ct (sd) (wh) (sm) ++ wK cI lk g s kt rw vl sv bs ko R V SV B o2 wy ++ wC cI ct g tr bh ht sp cp Bh (H) (St) (Cm)) ∧ ∀ i, i < wy → Int32.ofInt sm = nI i → sd = true → wn = wA ax g s lo tr lk ct (sd) (wh) (sm) ++ wK cI lk g s kt rw vl sv bs ko R V SV B o2 wy ++ wC cI ct g tr bh ht sp cp Bh (H) (St) (va_up Cm i (Cm i + 1))) := by
  refine z_met2 cA_completeWay 1 none rfl rfl (Nat.le_of_ble_eq_true rfl) rfl (fun Z hX => ?_)
  show Z 0 0 0 [some (.ref ax)] [] (wA ax g s lo tr lk ct (sd) (wh) (sm) ++ wK cI lk g s kt rw vl sv bs ko R V SV B o2 wy ++ wC cI ct g tr bh ht sp cp Bh (H) (St) (Cm))
  refine z_aload_n hX 0 dA_completeWay_0 rfl rfl ?_
  refine z_aload_n hX 0 dA_completeWay_1 rfl rfl ?_
  refine z_get hX 0 8 rfl rfl (zu inA) (by decide) (List.mem_cons_of_mem _ mw_215) rfl dA_completeWay_2 ?_
  refine z_Vr hX (kA_knowsWay l D cI cZ ax g s lo tr lk ct sd wh sm kt rw vl sv bs ko R V SV B o2 wy (Int32.ofInt sm)) mw_430 mw_432 mp_2_0 mw_1 mw_433 rfl rfl ⟨rfl, by decide, by decide, rfl⟩ (by decide) 0 rfl rfl rfl rfl (Nat.le_of_ble_eq_true rfl) dA_completeWay_5 (by decide) [0, 1, 2, 3, 4, 5, 6] rfl rfl (fun v wn hv => ?_)
  obtain ⟨rfl, rfl⟩ := hv
  refine ⟨rfl, ?_⟩
  refine z_if_eqB hX 27 dA_completeWay_8 rfl (fun h8 => ?_) (fun h8 => ?_)
  · refine z_vret hX rfl rfl rfl dA_completeWay_27 ?_
    first
      | exact ⟨rfl, fun hc => absurd hc (by rw [h8]; decide), fun j hj hx _ => by rw [show j = i from (nI_eq (a := j) (b := i) (by omega) (by omega)).mp (hx.symm.trans hsm)]; rfl⟩
      | exact ⟨rfl, fun _ => rfl, fun j hj hx hc => by rw [hc, hx, zin_nI hj (by omega)] at h8; cases h8⟩
  · obtain ⟨hsd, i, hi, hsm⟩ := zkn (by omega) h8
    refine z_aload_n hX 0 dA_completeWay_11 rfl rfl ?_
    refine z_get hX 0 5 rfl rfl (zu inA) (by decide) (List.mem_cons_of_mem _ mw_212) rfl dA_completeWay_12 ?_
    refine z_get hX 7 5 rfl rfl (zu inC) (by decide) (List.mem_cons_of_mem _ mw_193) rfl dA_completeWay_15 ?_
    refine z_aload_n hX 0 dA_completeWay_18 rfl rfl ?_
    refine z_get hX 0 8 rfl rfl (zu inA) (by decide) (List.mem_cons_of_mem _ mw_215) rfl dA_completeWay_19 ?_
    refine z_dup2 hX dA_completeWay_22 rfl rfl ?_
    refine z_ldI hX 11 0 i rfl rfl hsm (by omega) (by decide) dA_completeWay_23 ?_
    refine z_iconst hX (nI 1) dA_completeWay_24 rfl ?_
    refine z_iaddI hX (Cm i) 1 rfl rfl dA_completeWay_25 ?_
    refine z_stI hX 11 0 i _ rfl rfl hsm rfl (by omega) (by decide) dA_completeWay_26 ?_
    refine z_vret hX rfl rfl rfl dA_completeWay_27 ?_
    first
      | exact ⟨rfl, fun hc => absurd hc (by rw [h8]; decide), fun j hj hx _ => by rw [show j = i from (nI_eq (a := j) (b := i) (by omega) (by omega)).mp (hx.symm.trans hsm)]; rfl⟩
      | exact ⟨rfl, fun _ => rfl, fun j hj hx hc => by rw [hc, hx, zin_nI hj (by omega)] at h8; cases h8⟩

set_option maxHeartbeats 400000 in
set_option maxRecDepth 100000 in
theorem kA_along (l : Launch) (D : va_G) (cI cZ : ClassId) (ax g s lo tr lk ct : Nat) (sd : Bool) (wh : Option Nat) (sm : Int) (kt rw vl sv bs ko : Nat) (R V SV : Nat → Nat) (B : Nat → Int) (o2 : Nat → Nat) (wy : Nat) (f t n m : Nat) (fr to : Nat → Nat) (ib fi sk lu : Nat) (Mt Op : Nat → Bool) (h : Nat) (bk : Nat → Bool) (fin st lq : Nat → Nat) (x k : Int32) (hn : 2 ≤ n ∧ n ≤ 12) (hm : m ≤ 24) (hok : ∀ e, e < m → fr e < n ∧ to e < n) (hwy : wy < 2147483648) (hsv : ∀ e, e < m → bk e = true → SV e < 2147483648) (hv : ∀ e, e < m → V e < 2147483648) : zM l yA_along wA_along rA_along D zCl (zTy cI cZ) zNW 0 0 [.ref ax, .int x, .int k] (wA ax g s lo tr lk ct (sd) (wh) (sm) ++ wK cI lk g s kt rw vl sv bs ko R V SV B o2 wy ++ wG cI g f t n m fr to ++ wS cI cZ s g ib fi sk lu Mt Op h bk fin st lq) (fun v wn => wn = wA ax g s lo tr lk ct (sd) (wh) (sm) ++ wK cI lk g s kt rw vl sv bs ko R V SV B o2 wy ++ wG cI g f t n m fr to ++ wS cI cZ s g ib fi sk lu Mt Op h bk fin st lq ∧ (((sd && zin x wy) = false ∨ k < 0) → v = some (.int (-2147483648))) ∧ ∀ w, w < wy → x = nI w → sd = true → ¬ k < 0 → v = some (.int (if k = 0 then zL (sw_last (zps bk SV (w)) m) else zgo fr (ztg bk to) V m k (n - 1) 1 (zb0 to (sw_last (zps bk SV (w)) m)) (zr0 SV w (sw_last (zps bk SV (w)) m))))) := by
  refine z_met2 cA_along 4 (some .int) rfl rfl (Nat.le_of_ble_eq_true rfl) rfl (fun Z hX => ?_)
  show Z 0 0 0 [some (.ref ax), some (.int x), some (.int k), none] [] (wA ax g s lo tr lk ct (sd) (wh) (sm) ++ wK cI lk g s kt rw vl sv bs ko R V SV B o2 wy ++ wG cI g f t n m fr to ++ wS cI cZ s g ib fi sk lu Mt Op h bk fin st lq)
  refine z_aload_n hX 0 dA_along_0 rfl rfl ?_
  refine z_iload_n hX 1 dA_along_1 rfl rfl ?_
  refine z_Vr hX (kA_knowsWay l D cI cZ ax g s lo tr lk ct sd wh sm kt rw vl sv bs ko R V SV B o2 wy x) mw_430 mw_432 mp_2_0 mw_1 mw_433 rfl rfl ⟨rfl, by decide, by decide, rfl⟩ (by decide) 0 rfl rfl rfl rfl (Nat.le_of_ble_eq_true rfl) dA_along_2 (by decide) [0, 1, 2, 3, 4, 5, 6] rfl rfl (fun v wn hv => ?_)
  obtain ⟨rfl, rfl⟩ := hv
  refine ⟨rfl, ?_⟩
  refine z_if_eqB hX 12 dA_along_5 rfl (fun h5 => ?_) (fun h5 => ?_)
  · refine z_ldc hX (-2147483648) (List.mem_cons_of_mem _ mw_397) dA_along_12 ?_
    refine z_iret hX rfl rfl rfl rfl dA_along_14 ?_
    refine ⟨rfl, fun _ => rfl, fun w1 h1 h2 h3 h8 => ?_⟩
    first
      | exact absurd hk0 h8
      | exact absurd (h5.symm.trans (show (sd && zin x wy) = true by rw [h3, h2, zin_nI h1 hwy]; rfl)) (by decide)
  · obtain ⟨hsd, w, hw, rfl⟩ := zkn (by omega) h5
    refine z_iload_n hX 2 dA_along_8 rfl rfl ?_
    refine z_if_ge hX 15 dA_along_9 rfl (fun h9 => ?_) (fun h9 => ?_)
    · have hk0 : ¬ k < 0 := Int32.not_lt.mpr h9
      have hlast : sw_last (zps bk SV (w)) m ≠ 0 → SV (sw_last (zps bk SV (w)) m - 1) ≤ w := fun hc => by
        obtain ⟨e1, he1⟩ : ∃ e1, sw_last (zps bk SV (w)) m = e1 + 1 := ⟨sw_last (zps bk SV (w)) m - 1, by omega⟩
        have := sw_last_p he1
        simp [zps] at this
        rw [he1]
        exact this.2
      refine z_aload_n hX 0 dA_along_15 rfl rfl ?_
      refine z_get hX 0 4 rfl rfl (zu inA) (by decide) (List.mem_cons_of_mem _ mw_211) rfl dA_along_16 ?_
      refine z_iload_n hX 1 dA_along_19 rfl rfl ?_
      refine z_Vr hX (kK_startOfWay l D cI cZ lk g s kt rw vl sv bs ko R V SV B o2 wy f t n m fr to ib fi sk lu Mt Op h bk fin st lq w (by omega) hsv hn hm hok) mw_498 mw_499 mw_500 mw_7 mw_501 rfl rfl ⟨rfl, by decide, by decide, rfl⟩ (by decide) 1 rfl rfl rfl rfl (Nat.le_of_ble_eq_true rfl) dA_along_20 (by decide) [1, 2, 3, 4, 5, 6, 7, 8, 9, 10, 11, 12, 13, 14] rfl rfl (fun v wn hv => ?_)
      obtain ⟨rfl, rfl⟩ := hv
      refine ⟨rfl, ?_⟩
      refine z_istore_n hX 3 dA_along_23 rfl (by decide) ?_
      refine z_iload_n hX 2 dA_along_24 rfl rfl ?_
      refine z_if_ne hX 32 dA_along_25 rfl (fun h25 => ?_) (fun h25 => ?_)
      · refine z_aload_n hX 0 dA_along_32 rfl rfl ?_
        refine z_get hX 0 4 rfl rfl (zu inA) (by decide) (List.mem_cons_of_mem _ mw_211) rfl dA_along_33 ?_
        refine z_iload_n hX 1 dA_along_36 rfl rfl ?_
        refine z_iload_n hX 3 dA_along_37 rfl rfl ?_
        refine z_iload_n hX 2 dA_along_38 rfl rfl ?_
        refine z_Vr hX (kK_edgeOfWay l D cI cZ lk g s kt rw vl sv bs ko R V SV B o2 wy f t n m fr to ib fi sk lu Mt Op h bk fin st lq w (sw_last (zps bk SV (w)) m) k (by omega) (sw_last_le _ _) hlast hv hn hm hok) mw_502 mw_503 mw_504 mw_7 mw_505 rfl rfl ⟨rfl, by decide, by decide, rfl⟩ (by decide) 1 rfl rfl rfl rfl (Nat.le_of_ble_eq_true rfl) dA_along_39 (by decide) [1, 2, 3, 4, 5, 6, 7, 8, 9, 10, 11, 12, 13, 14] rfl rfl (fun v wn hv => ?_)
        obtain ⟨rfl, rfl⟩ := hv
        refine ⟨rfl, ?_⟩
        refine z_iret hX rfl rfl rfl rfl dA_along_42 ?_
        refine ⟨rfl, fun hc => ?_, fun w1 h1 h2 h3 h8 => ?_⟩
        · rcases hc with hc | hc
          · rw [h5] at hc; cases hc
          · exact absurd hc hk0
        · have ew := (nI_eq (a := w) (b := w1) (by omega) (by omega)).mp h2
          subst ew
          first
            | rw [if_pos h25]
            | rw [if_neg h25]
      · refine z_iload_n hX 3 dA_along_28 rfl rfl ?_
        refine z_goto hX 42 dA_along_29 rfl ?_
        refine z_iret hX rfl rfl rfl rfl dA_along_42 ?_
        refine ⟨rfl, fun hc => ?_, fun w1 h1 h2 h3 h8 => ?_⟩
        · rcases hc with hc | hc
          · rw [h5] at hc; cases hc
          · exact absurd hc hk0
        · have ew := (nI_eq (a := w) (b := w1) (by omega) (by omega)).mp h2
          subst ew
          first
            | rw [if_pos h25]
            | rw [if_neg h25]
    · have hk0 : k < 0 := Classical.byContradiction (fun hc => h9 (Int32.not_lt.mp hc))
      refine z_ldc hX (-2147483648) (List.mem_cons_of_mem _ mw_397) dA_along_12 ?_
      refine z_iret hX rfl rfl rfl rfl dA_along_14 ?_
      refine ⟨rfl, fun _ => rfl, fun w1 h1 h2 h3 h8 => ?_⟩
      first
        | exact absurd hk0 h8
        | exact absurd (h5.symm.trans (show (sd && zin x wy) = true by rw [h3, h2, zin_nI h1 hwy]; rfl)) (by decide)

