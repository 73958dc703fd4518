/-! Counters -/
set_option maxHeartbeats 1000000 in
set_option maxRecDepth 100000 in
theorem kC_runsLeftIn (l : Launch) (D : va_G) (cI cZ : ClassId) (ct g tr bh ht sp cp : Nat) (Bh : Nat → Nat → Bool) (H St Cm : Nat → Int) (hs gr : Nat) (has : Nat → Bool) (grp : Nat → Nat) (f t n m : Nat) (fr to : Nat → Nat) (B : Nat → Bool) (wh : Option Nat) (hwh : ∀ p, wh = some p → p < n) (hn : 2 ≤ n ∧ n ≤ 12) (hm : m ≤ 24) (hok : ∀ e, e < m → fr e < n ∧ to e < n) : zM l yC_runsLeftIn wC_runsLeftIn rC_runsLeftIn D zCl (zTy cI cZ) zNW 0 0 [.ref ct, .int (bS B), .int (zbar wh)] (wC cI ct g tr bh ht sp cp (Bh) (H) (St) (Cm) ++ wT cI cZ tr g hs gr has grp ++ wG cI g f t n m fr to) (fun v wn => v = some (.int (Int32.ofInt (zrl B wh St n))) ∧ wn = wC cI ct g tr bh ht sp cp (Bh) (H) (St) (Cm) ++ wT cI cZ tr g hs gr has grp ++ wG cI g f t n m fr to) := by
  refine z_met2 cC_runsLeftIn 5 (some .int) rfl rfl (Nat.le_of_ble_eq_true rfl) rfl (fun Z hX => ?_)
  show Z 0 0 0 [some (.ref ct), some (.int (bS B)), some (.int (zbar wh)), none, none] [] (wC cI ct g tr bh ht sp cp (Bh) (H) (St) (Cm) ++ wT cI cZ tr g hs gr has grp ++ wG cI g f t n m fr to)
  refine z_iload_n hX 2 dC_runsLeftIn_0 rfl rfl ?_
  refine z_iconst hX (-1) dC_runsLeftIn_1 rfl ?_
  have cut18 : Z 0 0 18 [some (.ref ct), some (.int (bS B)), some (.int (zbar wh)), none, none] [.int (Int32.ofInt (zw0 B wh))] (wC cI ct g tr bh ht sp cp (Bh) (H) (St) (Cm) ++ wT cI cZ tr g hs gr has grp ++ wG cI g f t n m fr to) := by
    refine z_istore_n hX 3 dC_runsLeftIn_18 rfl (by decide) ?_
    refine z_iconst hX (nI 0) dC_runsLeftIn_19 rfl ?_
    refine z_istore hX 4 dC_runsLeftIn_20 (by decide) ?_
    have hloop : ∀ i, i ≤ n → Z 0 0 22 [some (.ref ct), some (.int (bS B)), some (.int (zbar wh)), some (.int (Int32.ofInt (zw0 B wh + sf_sum (fun b => sf_c (B b) (St b)) i))), some (.int (nI i))] [] (wC cI ct g tr bh ht sp cp (Bh) (H) (St) (Cm) ++ wT cI cZ tr g hs gr has grp ++ wG cI g f t n m fr to) := by
      refine zloop (P := fun i => Z 0 0 22 [some (.ref ct), some (.int (bS B)), some (.int (zbar wh)), some (.int (Int32.ofInt (zw0 B wh + sf_sum (fun b => sf_c (B b) (St b)) i))), some (.int (nI i))] [] (wC cI ct g tr bh ht sp cp (Bh) (H) (St) (Cm) ++ wT cI cZ tr g hs gr has grp ++ wG cI g f t n m fr to)) n (fun i hi ih => ?_)
      refine z_iload hX 4 dC_runsLeftIn_22 rfl ?_
      refine z_aload_n hX 0 dC_runsLeftIn_24 rfl rfl ?_
      refine z_get hX 0 0 rfl rfl (zu inC) (by decide) (List.mem_cons_of_mem _ mw_186) rfl dC_runsLeftIn_25 ?_
      refine z_get hX 8 0 rfl rfl (zu inG) (by decide) (List.mem_cons_of_mem _ mw_36) rfl dC_runsLeftIn_28 ?_
      refine z_icmp_geN hX 59 (by omega) (by omega) dC_runsLeftIn_31 rfl (fun h31 => ?_) (fun h31 => ?_)
      · refine z_iload_n hX 3 dC_runsLeftIn_59 rfl rfl ?_
        refine z_iret hX rfl rfl rfl rfl dC_runsLeftIn_60 ?_
        have him : i = n := by omega
        subst him
        exact ⟨rfl, rfl⟩
      · refine z_iload_n hX 1 dC_runsLeftIn_34 rfl rfl ?_
        refine z_iload hX 4 dC_runsLeftIn_35 rfl ?_
        refine z_Nr hX (kA_isIn l D cI cZ B i (by omega)) "SpanningProbes" mw_272 (by decide) mw_1 mw_271 rfl rfl ⟨by decide, by decide, rfl⟩ (by decide) rfl rfl (Nat.le_of_ble_eq_true rfl) dC_runsLeftIn_37 (by decide) [] rfl rfl (fun v wn hv => ?_)
        obtain ⟨rfl, rfl⟩ := hv
        refine ⟨rfl, ?_⟩
        refine z_if_eqB hX 53 dC_runsLeftIn_40 rfl (fun h40 => ?_) (fun h40 => ?_)
        · have hs2 : zw0 B wh + sf_sum (fun b => sf_c (B b) (St b)) (i + 1) = zw0 B wh + sf_sum (fun b => sf_c (B b) (St b)) i := by show _ + (_ + sf_c (B i) (St i)) = _; rw [h40, sf_c_f]; omega
          refine z_iinc hX 4 dC_runsLeftIn_53 rfl (zi_1 _) (by decide) ?_
          refine z_goto hX 22 dC_runsLeftIn_56 rfl ?_
          have hz := ih (by omega)
          rw [hs2] at hz
          exact hz
        · have hs2 : zw0 B wh + sf_sum (fun b => sf_c (B b) (St b)) (i + 1) = zw0 B wh + sf_sum (fun b => sf_c (B b) (St b)) i + St i := by show _ + (_ + sf_c (B i) (St i)) = _; rw [h40, sf_c_t]; omega
          refine z_iload_n hX 3 dC_runsLeftIn_43 rfl rfl ?_
          refine z_aload_n hX 0 dC_runsLeftIn_44 rfl rfl ?_
          refine z_get hX 0 4 rfl rfl (zu inC) (by decide) (List.mem_cons_of_mem _ mw_190) rfl dC_runsLeftIn_45 ?_
          refine z_iload hX 4 dC_runsLeftIn_48 rfl ?_
          refine z_ldI hX 3 0 _ rfl rfl rfl (by omega) (by decide) dC_runsLeftIn_50 ?_
          refine z_iaddI hX _ _ rfl rfl dC_runsLeftIn_51 ?_
          refine z_istore_n hX 3 dC_runsLeftIn_52 rfl (by decide) ?_
          refine z_iinc hX 4 dC_runsLeftIn_53 rfl (zi_1 _) (by decide) ?_
          refine z_goto hX 22 dC_runsLeftIn_56 rfl ?_
          have hz := ih (by omega)
          rw [hs2] at hz
          exact hz
    have hz := hloop 0 (Nat.zero_le _)
    rw [show zw0 B wh + sf_sum (fun b => sf_c (B b) (St b)) 0 = zw0 B wh from Int.add_zero _] at hz
    exact hz
  refine z_icmp_eq hX 17 dC_runsLeftIn_2 rfl (fun h2 => ?_) (fun h2 => ?_)
  · have hw0 : zw0 B wh = 0 := by rw [zbar_none (fun b hb => by have := hwh b hb; omega) h2]; rfl
    refine z_iconst hX (Int32.ofInt (zw0 B _)) dC_runsLeftIn_17 (by rw [hw0]) ?_
    exact cut18
  · obtain ⟨p, rfl⟩ : ∃ p, wh = some p := by
      cases wh with
      | none => exact absurd rfl h2
      | some p => exact ⟨p, rfl⟩
    have hp := hwh p rfl
    refine z_iload_n hX 1 dC_runsLeftIn_5 rfl rfl ?_
    refine z_iload_n hX 2 dC_runsLeftIn_6 rfl rfl ?_
    refine z_Nr hX (kA_isIn l D cI cZ B p (by omega)) "SpanningProbes" mw_272 (by decide) mw_1 mw_271 rfl rfl ⟨by decide, by decide, rfl⟩ (by decide) rfl rfl (Nat.le_of_ble_eq_true rfl) dC_runsLeftIn_7 (by decide) [] rfl rfl (fun v wn hv => ?_)
    obtain ⟨rfl, rfl⟩ := hv
    refine ⟨rfl, ?_⟩
    refine z_if_eqB hX 17 dC_runsLeftIn_10 rfl (fun h10 => ?_) (fun h10 => ?_)
    · have hw0 : zw0 B (some p) = 0 := by show sf_c (B p) 1 = 0; rw [h10]; rfl
      refine z_iconst hX (Int32.ofInt (zw0 B _)) dC_runsLeftIn_17 (by rw [hw0]) ?_
      exact cut18
    · have hw1 : zw0 B (some p) = 1 := by show sf_c (B p) 1 = 1; rw [h10]; rfl
      refine z_iconst hX (Int32.ofInt (zw0 B (some p))) dC_runsLeftIn_13 (by rw [hw1]) ?_
      refine z_goto hX 18 dC_runsLeftIn_14 rfl ?_
      exact cut18

set_option maxHeartbeats 1000000 in
set_option maxRecDepth 100000 in
theorem kC_hitsOutOf (l : Launch) (D : va_G) (cI cZ : ClassId) (ct g tr bh ht sp cp : Nat) (Bh : Nat → Nat → Bool) (H St Cm : Nat → Int) (hs gr : Nat) (has : Nat → Bool) (grp : Nat → Nat) (f t n m : Nat) (fr to : Nat → Nat) (B : Nat → Bool) (hn : 2 ≤ n ∧ n ≤ 12) (hm : m ≤ 24) (hok : ∀ e, e < m → fr e < n ∧ to e < n) : zM l yC_hitsOutOf wC_hitsOutOf rC_hitsOutOf D zCl (zTy cI cZ) zNW 0 0 [.ref ct, .int (bS B)] (wC cI ct g tr bh ht sp cp (Bh) (H) (St) (Cm) ++ wT cI cZ tr g hs gr has grp ++ wG cI g f t n m fr to) (fun v wn => v = some (.int (Int32.ofInt (zho fr to B H m))) ∧ wn = wC cI ct g tr bh ht sp cp (Bh) (H) (St) (Cm) ++ wT cI cZ tr g hs gr has grp ++ wG cI g f t n m fr to) := by
  refine z_met2 cC_hitsOutOf 4 (some .int) rfl rfl (Nat.le_of_ble_eq_true rfl) rfl (fun Z hX => ?_)
  show Z 0 0 0 [some (.ref ct), some (.int (bS B)), none, none] [] (wC cI ct g tr bh ht sp cp (Bh) (H) (St) (Cm) ++ wT cI cZ tr g hs gr has grp ++ wG cI g f t n m fr to)
  refine z_iconst hX (Int32.ofInt 0) dC_hitsOutOf_0 rfl ?_
  refine z_istore_n hX 2 dC_hitsOutOf_1 rfl (by decide) ?_
  refine z_iconst hX (nI 0) dC_hitsOutOf_2 rfl ?_
  refine z_istore_n hX 3 dC_hitsOutOf_3 rfl (by decide) ?_
  refine zloop (P := fun e => Z 0 0 4 [some (.ref ct), some (.int (bS B)), some (.int (Int32.ofInt (sf_sum (fun e => sf_c (B (fr e)) (H e) - sf_c (B (to e)) (H e)) e))), some (.int (nI e))] [] (wC cI ct g tr bh ht sp cp (Bh) (H) (St) (Cm) ++ wT cI cZ tr g hs gr has grp ++ wG cI g f t n m fr to)) m (fun e he ih => ?_) 0 (Nat.zero_le _)
  refine z_iload_n hX 3 dC_hitsOutOf_4 rfl rfl ?_
  refine z_aload_n hX 0 dC_hitsOutOf_5 rfl rfl ?_
  refine z_get hX 0 0 rfl rfl (zu inC) (by decide) (List.mem_cons_of_mem _ mw_186) rfl dC_hitsOutOf_6 ?_
  refine z_get hX 8 3 rfl rfl (zu inG) (by decide) (List.mem_cons_of_mem _ mw_53) rfl dC_hitsOutOf_9 ?_
  refine z_icmp_geN hX 79 (by omega) (by omega) dC_hitsOutOf_12 rfl (fun h12 => ?_) (fun h12 => ?_)
  · refine z_iload_n hX 2 dC_hitsOutOf_79 rfl rfl ?_
    refine z_iret hX rfl rfl rfl rfl dC_hitsOutOf_80 ?_
    have him : e = m := by omega
    subst him
    exact ⟨rfl, rfl⟩
  · have hoke := hok e (by omega)
    refine z_iload_n hX 2 dC_hitsOutOf_15 rfl rfl ?_
    refine z_iload_n hX 1 dC_hitsOutOf_16 rfl rfl ?_
    refine z_aload_n hX 0 dC_hitsOutOf_17 rfl rfl ?_
    refine z_get hX 0 0 rfl rfl (zu inC) (by decide) (List.mem_cons_of_mem _ mw_186) rfl dC_hitsOutOf_18 ?_
    refine z_get hX 8 1 rfl rfl (zu inG) (by decide) (List.mem_cons_of_mem _ mw_41) rfl dC_hitsOutOf_21 ?_
    refine z_iload_n hX 3 dC_hitsOutOf_24 rfl rfl ?_
    refine z_ldN hX 9 0 _ rfl rfl rfl (by omega) (by decide) dC_hitsOutOf_25 ?_
    refine z_Nr hX (kA_isIn l D cI cZ B (fr e) (by omega)) "SpanningProbes" mw_272 (by decide) mw_1 mw_271 rfl rfl ⟨by decide, by decide, rfl⟩ (by decide) rfl rfl (Nat.le_of_ble_eq_true rfl) dC_hitsOutOf_26 (by decide) [] rfl rfl (fun v wn hv => ?_)
    obtain ⟨rfl, rfl⟩ := hv
    refine ⟨rfl, ?_⟩
    have cut42 : Z 0 0 42 [some (.ref ct), some (.int (bS B)), some (.int (Int32.ofInt (sf_sum (fun e => sf_c (B (fr e)) (H e) - sf_c (B (to e)) (H e)) e))), some (.int (nI e))] [.int (Int32.ofInt (sf_c (B (fr e)) (H e))), .int (Int32.ofInt (sf_sum (fun e => sf_c (B (fr e)) (H e) - sf_c (B (to e)) (H e)) e))] (wC cI ct g tr bh ht sp cp (Bh) (H) (St) (Cm) ++ wT cI cZ tr g hs gr has grp ++ wG cI g f t n m fr to) := by
      refine z_iaddI hX _ _ rfl rfl dC_hitsOutOf_42 ?_
      refine z_istore_n hX 2 dC_hitsOutOf_43 rfl (by decide) ?_
      refine z_iload_n hX 2 dC_hitsOutOf_44 rfl rfl ?_
      refine z_iload_n hX 1 dC_hitsOutOf_45 rfl rfl ?_
      refine z_aload_n hX 0 dC_hitsOutOf_46 rfl rfl ?_
      refine z_get hX 0 0 rfl rfl (zu inC) (by decide) (List.mem_cons_of_mem _ mw_186) rfl dC_hitsOutOf_47 ?_
      refine z_get hX 8 2 rfl rfl (zu inG) (by decide) (List.mem_cons_of_mem _ mw_48) rfl dC_hitsOutOf_50 ?_
      refine z_iload_n hX 3 dC_hitsOutOf_53 rfl rfl ?_
      refine z_ldN hX 10 0 _ rfl rfl rfl (by omega) (by decide) dC_hitsOutOf_54 ?_
      refine z_Nr hX (kA_isIn l D cI cZ B (to e) (by omega)) "SpanningProbes" mw_272 (by decide) mw_1 mw_271 rfl rfl ⟨by decide, by decide, rfl⟩ (by decide) rfl rfl (Nat.le_of_ble_eq_true rfl) dC_hitsOutOf_55 (by decide) [] rfl rfl (fun v wn hv => ?_)
      obtain ⟨rfl, rfl⟩ := hv
      refine ⟨rfl, ?_⟩
      have cut71 : Z 0 0 71 [some (.ref ct), some (.int (bS B)), some (.int (Int32.ofInt (sf_sum (fun e => sf_c (B (fr e)) (H e) - sf_c (B (to e)) (H e)) e + sf_c (B (fr e)) (H e)))), some (.int (nI e))] [.int (Int32.ofInt (sf_c (B (to e)) (H e))), .int (Int32.ofInt (sf_sum (fun e => sf_c (B (fr e)) (H e) - sf_c (B (to e)) (H e)) e + sf_c (B (fr e)) (H e)))] (wC cI ct g tr bh ht sp cp (Bh) (H) (St) (Cm) ++ wT cI cZ tr g hs gr has grp ++ wG cI g f t n m fr to) := by
        refine z_isubI hX _ _ rfl rfl dC_hitsOutOf_71 ?_
        refine z_istore_n hX 2 dC_hitsOutOf_72 rfl (by decide) ?_
        refine z_iinc hX 3 dC_hitsOutOf_73 rfl (zi_1 _) (by decide) ?_
        refine z_goto hX 4 dC_hitsOutOf_76 rfl ?_
        have hz := ih (by omega)
        rw [show sf_sum (fun e => sf_c (B (fr e)) (H e) - sf_c (B (to e)) (H e)) (e + 1) = sf_sum (fun e => sf_c (B (fr e)) (H e) - sf_c (B (to e)) (H e)) e + sf_c (B (fr e)) (H e) - sf_c (B (to e)) (H e) by show _ + (_ - _) = _; omega] at hz
        exact hz
      refine z_if_eqB hX 70 dC_hitsOutOf_58 rfl (fun h58 => ?_) (fun h58 => ?_)
      · refine z_iconst hX (Int32.ofInt 0) dC_hitsOutOf_70 rfl ?_
        first
          | (rw [h58, sf_c_t] at cut71; exact cut71)
          | (rw [h58, sf_c_f] at cut71; exact cut71)
      · refine z_aload_n hX 0 dC_hitsOutOf_61 rfl rfl ?_
        refine z_get hX 0 3 rfl rfl (zu inC) (by decide) (List.mem_cons_of_mem _ mw_189) rfl dC_hitsOutOf_62 ?_
        refine z_iload_n hX 3 dC_hitsOutOf_65 rfl rfl ?_
        refine z_ldI hX 2 0 _ rfl rfl rfl (by omega) (by decide) dC_hitsOutOf_66 ?_
        refine z_goto hX 71 dC_hitsOutOf_67 rfl ?_
        first
          | (rw [h58, sf_c_t] at cut71; exact cut71)
          | (rw [h58, sf_c_f] at cut71; exact cut71)
    refine z_if_eqB hX 41 dC_hitsOutOf_29 rfl (fun h29 => ?_) (fun h29 => ?_)
    · refine z_iconst hX (Int32.ofInt 0) dC_hitsOutOf_41 rfl ?_
      first
        | (rw [h29, sf_c_t] at cut42; exact cut42)
        | (rw [h29, sf_c_f] at cut42; exact cut42)
    · refine z_aload_n hX 0 dC_hitsOutOf_32 rfl rfl ?_
      refine z_get hX 0 3 rfl rfl (zu inC) (by decide) (List.mem_cons_of_mem _ mw_189) rfl dC_hitsOutOf_33 ?_
      refine z_iload_n hX 3 dC_hitsOutOf_36 rfl rfl ?_
      refine z_ldI hX 2 0 _ rfl rfl rfl (by omega) (by decide) dC_hitsOutOf_37 ?_
      refine z_goto hX 42 dC_hitsOutOf_38 rfl ?_
      first
        | (rw [h29, sf_c_t] at cut42; exact cut42)
        | (rw [h29, sf_c_f] at cut42; exact cut42)

set_option maxHeartbeats 1000000 in
set_option maxRecDepth 100000 in
theorem kC_passesOf (l : Launch) (D : va_G) (cI cZ : ClassId) (ct g tr bh ht sp cp : Nat) (Bh : Nat → Nat → Bool) (H St Cm : Nat → Int) (hs gr : Nat) (has : Nat → Bool) (grp : Nat → Nat) (f t n m : Nat) (fr to : Nat → Nat) (e : Nat) (he : e < m) (wh : Option Nat) (hwh : ∀ p, wh = some p → p < n) (hn : 2 ≤ n ∧ n ≤ 12) (hm : m ≤ 24) (hok : ∀ e, e < m → fr e < n ∧ to e < n) : zM l yC_passesOf wC_passesOf rC_passesOf D zCl (zTy cI cZ) zNW 0 0 [.ref ct, .int (nI e), .int (zbar wh)] (wC cI ct g tr bh ht sp cp (Bh) (H) (St) (Cm) ++ wT cI cZ tr g hs gr has grp ++ wG cI g f t n m fr to) (fun v wn => v = some (.int (Int32.ofInt (zpo fr to n m has Bh H St wh e))) ∧ wn = wC cI ct g tr bh ht sp cp (Bh) (H) (St) (Cm) ++ wT cI cZ tr g hs gr has grp ++ wG cI g f t n m fr to) := by
  have hoke := hok e he
  refine z_met2 cC_passesOf 4 (some .int) rfl rfl (Nat.le_of_ble_eq_true rfl) rfl (fun Z hX => ?_)
  show Z 0 0 0 [some (.ref ct), some (.int (nI e)), some (.int (zbar wh)), none] [] (wC cI ct g tr bh ht sp cp (Bh) (H) (St) (Cm) ++ wT cI cZ tr g hs gr has grp ++ wG cI g f t n m fr to)
  refine z_aload_n hX 0 dC_passesOf_0 rfl rfl ?_
  refine z_get hX 0 1 rfl rfl (zu inC) (by decide) (List.mem_cons_of_mem _ mw_187) rfl dC_passesOf_1 ?_
  refine z_get hX 5 1 rfl rfl (zu inT) (by decide) (List.mem_cons_of_mem _ mw_132) rfl dC_passesOf_4 ?_
  refine z_iload_n hX 1 dC_passesOf_7 rfl rfl ?_
  refine z_ldB hX 6 1 _ rfl rfl rfl (by omega) (by decide) dC_passesOf_8 ?_
  refine z_if_neB hX 19 dC_passesOf_9 rfl (fun h9 => ?_) (fun h9 => ?_)
  · refine z_aload_n hX 0 dC_passesOf_19 rfl rfl ?_
    refine z_aload_n hX 0 dC_passesOf_20 rfl rfl ?_
    refine z_get hX 0 2 rfl rfl (zu inC) (by decide) (List.mem_cons_of_mem _ mw_188) rfl dC_passesOf_21 ?_
    refine z_iload_n hX 1 dC_passesOf_24 rfl rfl ?_
    refine z_ldS hX 1 0 _ rfl rfl rfl (by omega) (by decide) dC_passesOf_25 ?_
    refine z_iload_n hX 2 dC_passesOf_26 rfl rfl ?_
    refine z_Vr hX (kC_runsLeftIn l D cI cZ ct g tr bh ht sp cp Bh H St Cm hs gr has grp f t n m fr to (Bh e) wh hwh hn hm hok) mw_467 mw_469 mp_2_2 mw_8 mw_470 rfl rfl ⟨rfl, by decide, by decide, rfl⟩ (by decide) 0 rfl rfl rfl rfl (Nat.le_of_ble_eq_true rfl) dC_passesOf_27 (by decide) [0, 1, 2, 3, 4, 5, 6, 7, 8, 9, 10] rfl rfl (fun v wn hv => ?_)
    obtain ⟨rfl, rfl⟩ := hv
    refine ⟨rfl, ?_⟩
    refine z_aload_n hX 0 dC_passesOf_30 rfl rfl ?_
    refine z_aload_n hX 0 dC_passesOf_31 rfl rfl ?_
    refine z_get hX 0 2 rfl rfl (zu inC) (by decide) (List.mem_cons_of_mem _ mw_188) rfl dC_passesOf_32 ?_
    refine z_iload_n hX 1 dC_passesOf_35 rfl rfl ?_
    refine z_ldS hX 1 0 _ rfl rfl rfl (by omega) (by decide) dC_passesOf_36 ?_
    refine z_Vr hX (kC_hitsOutOf l D cI cZ ct g tr bh ht sp cp Bh H St Cm hs gr has grp f t n m fr to (Bh e) hn hm hok) mw_472 mw_474 mp_2_3 mw_8 mw_475 rfl rfl ⟨rfl, by decide, by decide, rfl⟩ (by decide) 0 rfl rfl rfl rfl (Nat.le_of_ble_eq_true rfl) dC_passesOf_37 (by decide) [0, 1, 2, 3, 4, 5, 6, 7, 8, 9, 10] rfl rfl (fun v wn hv => ?_)
    obtain ⟨rfl, rfl⟩ := hv
    refine ⟨rfl, ?_⟩
    refine z_iaddI hX _ _ rfl rfl dC_passesOf_40 ?_
    refine z_istore_n hX 3 dC_passesOf_41 rfl (by decide) ?_
    refine z_aload_n hX 0 dC_passesOf_42 rfl rfl ?_
    refine z_get hX 0 2 rfl rfl (zu inC) (by decide) (List.mem_cons_of_mem _ mw_188) rfl dC_passesOf_43 ?_
    refine z_iload_n hX 1 dC_passesOf_46 rfl rfl ?_
    refine z_ldS hX 1 0 _ rfl rfl rfl (by omega) (by decide) dC_passesOf_47 ?_
    refine z_aload_n hX 0 dC_passesOf_48 rfl rfl ?_
    refine z_get hX 0 0 rfl rfl (zu inC) (by decide) (List.mem_cons_of_mem _ mw_186) rfl dC_passesOf_49 ?_
    refine z_get hX 8 2 rfl rfl (zu inG) (by decide) (List.mem_cons_of_mem _ mw_48) rfl dC_passesOf_52 ?_
    refine z_iload_n hX 1 dC_passesOf_55 rfl rfl ?_
    refine z_ldN hX 10 0 _ rfl rfl rfl (by omega) (by decide) dC_passesOf_56 ?_
    refine z_Nr hX (kA_isIn l D cI cZ (Bh e) (to e) (by omega)) "SpanningProbes" mw_272 (by decide) mw_1 mw_271 rfl rfl ⟨by decide, by decide, rfl⟩ (by decide) rfl rfl (Nat.le_of_ble_eq_true rfl) dC_passesOf_57 (by decide) [] rfl rfl (fun v wn hv => ?_)
    obtain ⟨rfl, rfl⟩ := hv
    refine ⟨rfl, ?_⟩
    refine z_if_eqB hX 67 dC_passesOf_60 rfl (fun h60 => ?_) (fun h60 => ?_)
    · have hr : zpo fr to n m has Bh H St wh e = -(zrl (Bh e) wh St n + zho fr to (Bh e) H m) := by unfold zpo; rw [if_pos h9, if_neg (by rw [h60]; decide)]
      refine z_iload_n hX 3 dC_passesOf_67 rfl rfl ?_
      refine z_ineg hX dC_passesOf_68 ?_
      rw [← Int32.ofInt_neg]
      refine z_iret hX rfl rfl rfl rfl dC_passesOf_69 ?_
      exact ⟨by rw [hr], rfl⟩
    · have hr : zpo fr to n m has Bh H St wh e = (zrl (Bh e) wh St n + zho fr to (Bh e) H m) := by unfold zpo; rw [if_pos h9, if_pos h60]
      refine z_iload_n hX 3 dC_passesOf_63 rfl rfl ?_
      refine z_goto hX 69 dC_passesOf_64 rfl ?_
      refine z_iret hX rfl rfl rfl rfl dC_passesOf_69 ?_
      exact ⟨by rw [hr], rfl⟩
  · refine z_aload_n hX 0 dC_passesOf_12 rfl rfl ?_
    refine z_get hX 0 3 rfl rfl (zu inC) (by decide) (List.mem_cons_of_mem _ mw_189) rfl dC_passesOf_13 ?_
    refine z_iload_n hX 1 dC_passesOf_16 rfl rfl ?_
    refine z_ldI hX 2 0 _ rfl rfl rfl (by omega) (by decide) dC_passesOf_17 ?_
    refine z_iret hX rfl rfl rfl rfl dC_passesOf_18 ?_
    exact ⟨by unfold zpo; rw [if_neg (by rw [h9]; decide)], rfl⟩

set_option maxHeartbeats 1000000 in
set_option maxRecDepth 100000 in
theorem kC_passesInto (l : Launch) (D : va_G) (cI cZ : ClassId) (ct g tr bh ht sp cp : Nat) (Bh : Nat → Nat → Bool) (H St Cm : Nat → Int) (hs gr : Nat) (has : Nat → Bool) (grp : Nat → Nat) (f t n m : Nat) (fr to : Nat → Nat) (b : Nat) (hb : b < 2147483648) (wh : Option Nat) (hwh : ∀ p, wh = some p → p < n) (hn : 2 ≤ n ∧ n ≤ 12) (hm : m ≤ 24) (hok : ∀ e, e < m → fr e < n ∧ to e < n) : zM l yC_passesInto wC_passesInto rC_passesInto D zCl (zTy cI cZ) zNW 0 0 [.ref ct, .int (nI b), .int (zbar wh)] (wC cI ct g tr bh ht sp cp (Bh) (H) (St) (Cm) ++ wT cI cZ tr g hs gr has grp ++ wG cI g f t n m fr to) (fun v wn => v = some (.int (Int32.ofInt (zpi fr to n m has Bh H St wh b))) ∧ wn = wC cI ct g tr bh ht sp cp (Bh) (H) (St) (Cm) ++ wT cI cZ tr g hs gr has grp ++ wG cI g f t n m fr to) := by
  refine z_met2 cC_passesInto 5 (some .int) rfl rfl (Nat.le_of_ble_eq_true rfl) rfl (fun Z hX => ?_)
  show Z 0 0 0 [some (.ref ct), some (.int (nI b)), some (.int (zbar wh)), none, none] [] (wC cI ct g tr bh ht sp cp (Bh) (H) (St) (Cm) ++ wT cI cZ tr g hs gr has grp ++ wG cI g f t n m fr to)
  refine z_iconst hX (Int32.ofInt 0) dC_passesInto_0 rfl ?_
  refine z_istore_n hX 3 dC_passesInto_1 rfl (by decide) ?_
  refine z_iconst hX (nI 0) dC_passesInto_2 rfl ?_
  refine z_istore hX 4 dC_passesInto_3 (by decide) ?_
  refine zloop (P := fun e => Z 0 0 5 [some (.ref ct), some (.int (nI b)), some (.int (zbar wh)), some (.int (Int32.ofInt (sf_sum (fun e => sf_c (decide (to e = b)) (zpo fr to n m has Bh H St wh e)) e))), some (.int (nI e))] [] (wC cI ct g tr bh ht sp cp (Bh) (H) (St) (Cm) ++ wT cI cZ tr g hs gr has grp ++ wG cI g f t n m fr to)) m (fun e he ih => ?_) 0 (Nat.zero_le _)
  refine z_iload hX 4 dC_passesInto_5 rfl ?_
  refine z_aload_n hX 0 dC_passesInto_7 rfl rfl ?_
  refine z_get hX 0 0 rfl rfl (zu inC) (by decide) (List.mem_cons_of_mem _ mw_186) rfl dC_passesInto_8 ?_
  refine z_get hX 8 3 rfl rfl (zu inG) (by decide) (List.mem_cons_of_mem _ mw_53) rfl dC_passesInto_11 ?_
  refine z_icmp_geN hX 47 (by omega) (by omega) dC_passesInto_14 rfl (fun h14 => ?_) (fun h14 => ?_)
  · refine z_iload_n hX 3 dC_passesInto_47 rfl rfl ?_
    refine z_iret hX rfl rfl rfl rfl dC_passesInto_48 ?_
    have him : e = m := by omega
    subst him
    exact ⟨rfl, rfl⟩
  · have hoke := hok e (by omega)
    refine z_aload_n hX 0 dC_passesInto_17 rfl rfl ?_
    refine z_get hX 0 0 rfl rfl (zu inC) (by decide) (List.mem_cons_of_mem _ mw_186) rfl dC_passesInto_18 ?_
    refine z_get hX 8 2 rfl rfl (zu inG) (by decide) (List.mem_cons_of_mem _ mw_48) rfl dC_passesInto_21 ?_
    refine z_iload hX 4 dC_passesInto_24 rfl ?_
    refine z_ldN hX 10 0 _ rfl rfl rfl (by omega) (by decide) dC_passesInto_26 ?_
    refine z_iload_n hX 1 dC_passesInto_27 rfl rfl ?_
    refine z_icmp_neN hX 41 (by omega) (by omega) dC_passesInto_28 rfl (fun h28 => ?_) (fun h28 => ?_)
    · have hs2 : sf_sum (fun e => sf_c (decide (to e = b)) (zpo fr to n m has Bh H St wh e)) (e + 1) = sf_sum (fun e => sf_c (decide (to e = b)) (zpo fr to n m has Bh H St wh e)) e := by show _ + sf_c (decide (to e = b)) _ = _; rw [decide_eq_false h28, sf_c_f]; omega
      refine z_iinc hX 4 dC_passesInto_41 rfl (zi_1 _) (by decide) ?_
      refine z_goto hX 5 dC_passesInto_44 rfl ?_
      have hz := ih (by omega)
      rw [hs2] at hz
      exact hz
    · have hs2 : sf_sum (fun e => sf_c (decide (to e = b)) (zpo fr to n m has Bh H St wh e)) (e + 1) = sf_sum (fun e => sf_c (decide (to e = b)) (zpo fr to n m has Bh H St wh e)) e + zpo fr to n m has Bh H St wh e := by show _ + sf_c (decide (to e = b)) _ = _; rw [decide_eq_true h28, sf_c_t]
      refine z_iload_n hX 3 dC_passesInto_31 rfl rfl ?_
      refine z_aload_n hX 0 dC_passesInto_32 rfl rfl ?_
      refine z_iload hX 4 dC_passesInto_33 rfl ?_
      refine z_iload_n hX 2 dC_passesInto_35 rfl rfl ?_
      refine z_Vr hX (kC_passesOf l D cI cZ ct g tr bh ht sp cp Bh H St Cm hs gr has grp f t n m fr to e (by omega) wh hwh hn hm hok) mw_488 mw_464 mw_465 mw_8 mw_466 rfl rfl ⟨rfl, by decide, by decide, rfl⟩ (by decide) 0 rfl rfl rfl rfl (Nat.le_of_ble_eq_true rfl) dC_passesInto_36 (by decide) [0, 1, 2, 3, 4, 5, 6, 7, 8, 9, 10] rfl rfl (fun v wn hv => ?_)
      obtain ⟨rfl, rfl⟩ := hv
      refine ⟨rfl, ?_⟩
      refine z_iaddI hX _ _ rfl rfl dC_passesInto_39 ?_
      refine z_istore_n hX 3 dC_passesInto_40 rfl (by decide) ?_
      refine z_iinc hX 4 dC_passesInto_41 rfl (zi_1 _) (by decide) ?_
      refine z_goto hX 5 dC_passesInto_44 rfl ?_
      have hz := ih (by omega)
      rw [hs2] at hz
      exact hz

set_option maxHeartbeats 1000000 in
set_option maxRecDepth 100000 in
theorem kC_visitsOf (l : Launch) (D : va_G) (cI cZ : ClassId) (ct g tr bh ht sp cp : Nat) (Bh : Nat → Nat → Bool) (H St Cm : Nat → Int) (hs gr : Nat) (has : Nat → Bool) (grp : Nat → Nat) (f t n m : Nat) (fr to : Nat → Nat) (b : Nat) (hb : b < 2147483648) (wh : Option Nat) (hwh : ∀ p, wh = some p → p < n) (hn : 2 ≤ n ∧ n ≤ 12) (hm : m ≤ 24) (hok : ∀ e, e < m → fr e < n ∧ to e < n) : zM l yC_visitsOf wC_visitsOf rC_visitsOf D zCl (zTy cI cZ) zNW 0 0 [.ref ct, .int (nI b), .int (zbar wh)] (wC cI ct g tr bh ht sp cp (Bh) (H) (St) (Cm) ++ wT cI cZ tr g hs gr has grp ++ wG cI g f t n m fr to) (fun v wn => v = some (.int (Int32.ofInt (zvi fr to n m has Bh H St wh b))) ∧ wn = wC cI ct g tr bh ht sp cp (Bh) (H) (St) (Cm) ++ wT cI cZ tr g hs gr has grp ++ wG cI g f t n m fr to) := by
  refine z_met2 cC_visitsOf 3 (some .int) rfl rfl (Nat.le_of_ble_eq_true rfl) rfl (fun Z hX => ?_)
  show Z 0 0 0 [some (.ref ct), some (.int (nI b)), some (.int (zbar wh))] [] (wC cI ct g tr bh ht sp cp (Bh) (H) (St) (Cm) ++ wT cI cZ tr g hs gr has grp ++ wG cI g f t n m fr to)
  refine z_iload_n hX 1 dC_visitsOf_0 rfl rfl ?_
  refine z_if_ne hX 24 dC_visitsOf_1 rfl (fun h1 => ?_) (fun h1 => ?_)
  · refine z_aload_n hX 0 dC_visitsOf_24 rfl rfl ?_
    refine z_iload_n hX 1 dC_visitsOf_25 rfl rfl ?_
    refine z_iload_n hX 2 dC_visitsOf_26 rfl rfl ?_
    refine z_Vr hX (kC_passesInto l D cI cZ ct g tr bh ht sp cp Bh H St Cm hs gr has grp f t n m fr to b hb wh hwh hn hm hok) mw_484 mw_486 mp_2_4 mw_8 mw_487 rfl rfl ⟨rfl, by decide, by decide, rfl⟩ (by decide) 0 rfl rfl rfl rfl (Nat.le_of_ble_eq_true rfl) dC_visitsOf_27 (by decide) [0, 1, 2, 3, 4, 5, 6, 7, 8, 9, 10] rfl rfl (fun v wn hv => ?_)
    obtain ⟨rfl, rfl⟩ := hv
    refine ⟨rfl, ?_⟩
    refine z_iret hX rfl rfl rfl rfl dC_visitsOf_30 ?_
    exact ⟨by unfold zvi; rw [if_neg (fun hc => h1 ((zi_eq0 hb).mpr hc))], rfl⟩
  · refine z_aload_n hX 0 dC_visitsOf_4 rfl rfl ?_
    refine z_iconst hX (nI 1) dC_visitsOf_5 rfl ?_
    refine z_iload_n hX 2 dC_visitsOf_6 rfl rfl ?_
    refine z_Vr hX (kC_passesInto l D cI cZ ct g tr bh ht sp cp Bh H St Cm hs gr has grp f t n m fr to 1 (by omega) wh hwh hn hm hok) mw_484 mw_486 mp_2_4 mw_8 mw_487 rfl rfl ⟨rfl, by decide, by decide, rfl⟩ (by decide) 0 rfl rfl rfl rfl (Nat.le_of_ble_eq_true rfl) dC_visitsOf_7 (by decide) [0, 1, 2, 3, 4, 5, 6, 7, 8, 9, 10] rfl rfl (fun v wn hv => ?_)
    obtain ⟨rfl, rfl⟩ := hv
    refine ⟨rfl, ?_⟩
    refine z_aload_n hX 0 dC_visitsOf_10 rfl rfl ?_
    refine z_aload_n hX 0 dC_visitsOf_11 rfl rfl ?_
    refine z_get hX 0 0 rfl rfl (zu inC) (by decide) (List.mem_cons_of_mem _ mw_186) rfl dC_visitsOf_12 ?_
    refine z_Vr hX (kG_allBlocks l D cI cZ g f t n m fr to (by omega)) mw_489 mw_278 mw_279 mw_2 mw_280 rfl rfl ⟨rfl, by decide, by decide, rfl⟩ (by decide) 8 rfl rfl rfl rfl (Nat.le_of_ble_eq_true rfl) dC_visitsOf_15 (by decide) [8, 9, 10] rfl rfl (fun v wn hv => ?_)
    obtain ⟨rfl, rfl⟩ := hv
    refine ⟨rfl, ?_⟩
    refine z_iload_n hX 2 dC_visitsOf_18 rfl rfl ?_
    refine z_Vr hX (kC_runsLeftIn l D cI cZ ct g tr bh ht sp cp Bh H St Cm hs gr has grp f t n m fr to (fun i => decide (i < n)) wh hwh hn hm hok) mw_467 mw_469 mp_2_2 mw_8 mw_470 rfl rfl ⟨rfl, by decide, by decide, rfl⟩ (by decide) 0 rfl rfl rfl rfl (Nat.le_of_ble_eq_true rfl) dC_visitsOf_19 (by decide) [0, 1, 2, 3, 4, 5, 6, 7, 8, 9, 10] rfl rfl (fun v wn hv => ?_)
    obtain ⟨rfl, rfl⟩ := hv
    refine ⟨rfl, ?_⟩
    refine z_iaddI hX _ _ rfl rfl dC_visitsOf_22 ?_
    refine z_iret hX rfl rfl rfl rfl dC_visitsOf_23 ?_
    exact ⟨by unfold zvi; rw [if_pos ((zi_eq0 hb).mp h1)], rfl⟩

set_option maxHeartbeats 1000000 in
set_option maxRecDepth 100000 in
theorem kC_blocksVisited (l : Launch) (D : va_G) (cI cZ : ClassId) (ct g tr bh ht sp cp : Nat) (Bh : Nat → Nat → Bool) (H St Cm : Nat → Int) (hs gr : Nat) (has : Nat → Bool) (grp : Nat → Nat) (f t n m : Nat) (fr to : Nat → Nat) (wh : Option Nat) (hwh : ∀ p, wh = some p → p < n) (hn : 2 ≤ n ∧ n ≤ 12) (hm : m ≤ 24) (hok : ∀ e, e < m → fr e < n ∧ to e < n) : zM l yC_blocksVisited wC_blocksVisited rC_blocksVisited D zCl (zTy cI cZ) zNW 0 0 [.ref ct, .int (zbar wh)] (wC cI ct g tr bh ht sp cp (Bh) (H) (St) (Cm) ++ wT cI cZ tr g hs gr has grp ++ wG cI g f t n m fr to) (fun v wn => v = some (.int (nI (zpc (zvi fr to n m has Bh H St wh) n))) ∧ wn = wC cI ct g tr bh ht sp cp (Bh) (H) (St) (Cm) ++ wT cI cZ tr g hs gr has grp ++ wG cI g f t n m fr to) := by
  refine z_met2 cC_blocksVisited 4 (some .int) rfl rfl (Nat.le_of_ble_eq_true rfl) rfl (fun Z hX => ?_)
  show Z 0 0 0 [some (.ref ct), some (.int (zbar wh)), none, none] [] (wC cI ct g tr bh ht sp cp (Bh) (H) (St) (Cm) ++ wT cI cZ tr g hs gr has grp ++ wG cI g f t n m fr to)
  refine z_iconst hX (nI 0) dC_blocksVisited_0 rfl ?_
  refine z_istore_n hX 2 dC_blocksVisited_1 rfl (by decide) ?_
  refine z_iconst hX (nI 0) dC_blocksVisited_2 rfl ?_
  refine z_istore_n hX 3 dC_blocksVisited_3 rfl (by decide) ?_
  refine zloop (P := fun i => Z 0 0 4 [some (.ref ct), some (.int (zbar wh)), some (.int (nI (zpc (zvi fr to n m has Bh H St wh) i))), some (.int (nI i))] [] (wC cI ct g tr bh ht sp cp (Bh) (H) (St) (Cm) ++ wT cI cZ tr g hs gr has grp ++ wG cI g f t n m fr to)) n (fun i hi ih => ?_) 0 (Nat.zero_le _)
  refine z_iload_n hX 3 dC_blocksVisited_4 rfl rfl ?_
  refine z_aload_n hX 0 dC_blocksVisited_5 rfl rfl ?_
  refine z_get hX 0 0 rfl rfl (zu inC) (by decide) (List.mem_cons_of_mem _ mw_186) rfl dC_blocksVisited_6 ?_
  refine z_get hX 8 0 rfl rfl (zu inG) (by decide) (List.mem_cons_of_mem _ mw_36) rfl dC_blocksVisited_9 ?_
  refine z_icmp_geN hX 33 (by omega) (by omega) dC_blocksVisited_12 rfl (fun h12 => ?_) (fun h12 => ?_)
  · refine z_iload_n hX 2 dC_blocksVisited_33 rfl rfl ?_
    refine z_iret hX rfl rfl rfl rfl dC_blocksVisited_34 ?_
    have him : i = n := by omega
    subst him
    exact ⟨rfl, rfl⟩
  · refine z_aload_n hX 0 dC_blocksVisited_15 rfl rfl ?_
    refine z_iload_n hX 3 dC_blocksVisited_16 rfl rfl ?_
    refine z_iload_n hX 1 dC_blocksVisited_17 rfl rfl ?_
    refine z_Vr hX (kC_visitsOf l D cI cZ ct g tr bh ht sp cp Bh H St Cm hs gr has grp f t n m fr to i (by omega) wh hwh hn hm hok) mw_523 mw_481 mw_482 mw_8 mw_483 rfl rfl ⟨rfl, by decide, by decide, rfl⟩ (by decide) 0 rfl rfl rfl rfl (Nat.le_of_ble_eq_true rfl) dC_blocksVisited_18 (by decide) [0, 1, 2, 3, 4, 5, 6, 7, 8, 9, 10] rfl rfl (fun v wn hv => ?_)
    obtain ⟨rfl, rfl⟩ := hv
    refine ⟨rfl, ?_⟩
    refine z_if_le hX 27 dC_blocksVisited_21 rfl (fun h21 => ?_) (fun h21 => ?_)
    · have hs2 := zpc_f (f := zvi fr to n m has Bh H St wh) h21
      refine z_iinc hX 3 dC_blocksVisited_27 rfl (zi_1 _) (by decide) ?_
      refine z_goto hX 4 dC_blocksVisited_30 rfl ?_
      have hz := ih (by omega)
      rw [hs2] at hz
      exact hz
    · have hs2 := zpc_t (f := zvi fr to n m has Bh H St wh) h21
      refine z_iinc hX 2 dC_blocksVisited_24 rfl (zi_1 _) (by decide) ?_
      refine z_iinc hX 3 dC_blocksVisited_27 rfl (zi_1 _) (by decide) ?_
      refine z_goto hX 4 dC_blocksVisited_30 rfl ?_
      have hz := ih (by omega)
      rw [hs2] at hz
      exact hz

set_option maxHeartbeats 1000000 in
set_option maxRecDepth 100000 in
theorem kC_edgesPassed (l : Launch) (D : va_G) (cI cZ : ClassId) (ct g tr bh ht sp cp : Nat) (Bh : Nat → Nat → Bool) (H St Cm : Nat → Int) (hs gr : Nat) (has : Nat → Bool) (grp : Nat → Nat) (f t n m : Nat) (fr to : Nat → Nat) (wh : Option Nat) (hwh : ∀ p, wh = some p → p < n) (hn : 2 ≤ n ∧ n ≤ 12) (hm : m ≤ 24) (hok : ∀ e, e < m → fr e < n ∧ to e < n) : zM l yC_edgesPassed wC_edgesPassed rC_edgesPassed D zCl (zTy cI cZ) zNW 0 0 [.ref ct, .int (zbar wh)] (wC cI ct g tr bh ht sp cp (Bh) (H) (St) (Cm) ++ wT cI cZ tr g hs gr has grp ++ wG cI g f t n m fr to) (fun v wn => v = some (.int (nI (zpc (zpo fr to n m has Bh H St wh) m))) ∧ wn = wC cI ct g tr bh ht sp cp (Bh) (H) (St) (Cm) ++ wT cI cZ tr g hs gr has grp ++ wG cI g f t n m fr to) := by
  refine z_met2 cC_edgesPassed 4 (some .int) rfl rfl (Nat.le_of_ble_eq_true rfl) rfl (fun Z hX => ?_)
  show Z 0 0 0 [some (.ref ct), some (.int (zbar wh)), none, none] [] (wC cI ct g tr bh ht sp cp (Bh) (H) (St) (Cm) ++ wT cI cZ tr g hs gr has grp ++ wG cI g f t n m fr to)
  refine z_iconst hX (nI 0) dC_edgesPassed_0 rfl ?_
  refine z_istore_n hX 2 dC_edgesPassed_1 rfl (by decide) ?_
  refine z_iconst hX (nI 0) dC_edgesPassed_2 rfl ?_
  refine z_istore_n hX 3 dC_edgesPassed_3 rfl (by decide) ?_
  refine zloop (P := fun i => Z 0 0 4 [some (.ref ct), some (.int (zbar wh)), some (.int (nI (zpc (zpo fr to n m has Bh H St wh) i))), some (.int (nI i))] [] (wC cI ct g tr bh ht sp cp (Bh) (H) (St) (Cm) ++ wT cI cZ tr g hs gr has grp ++ wG cI g f t n m fr to)) m (fun i hi ih => ?_) 0 (Nat.zero_le _)
  refine z_iload_n hX 3 dC_edgesPassed_4 rfl rfl ?_
  refine z_aload_n hX 0 dC_edgesPassed_5 rfl rfl ?_
  refine z_get hX 0 0 rfl rfl (zu inC) (by decide) (List.mem_cons_of_mem _ mw_186) rfl dC_edgesPassed_6 ?_
  refine z_get hX 8 3 rfl rfl (zu inG) (by decide) (List.mem_cons_of_mem _ mw_53) rfl dC_edgesPassed_9 ?_
  refine z_icmp_geN hX 33 (by omega) (by omega) dC_edgesPassed_12 rfl (fun h12 => ?_) (fun h12 => ?_)
  · refine z_iload_n hX 2 dC_edgesPassed_33 rfl rfl ?_
    refine z_iret hX rfl rfl rfl rfl dC_edgesPassed_34 ?_
    have him : i = m := by omega
    subst him
    exact ⟨rfl, rfl⟩
  · refine z_aload_n hX 0 dC_edgesPassed_15 rfl rfl ?_
    refine z_iload_n hX 3 dC_edgesPassed_16 rfl rfl ?_
    refine z_iload_n hX 1 dC_edgesPassed_17 rfl rfl ?_
    refine z_Vr hX (kC_passesOf l D cI cZ ct g tr bh ht sp cp Bh H St Cm hs gr has grp f t n m fr to i (by omega) wh hwh hn hm hok) mw_488 mw_464 mw_465 mw_8 mw_466 rfl rfl ⟨rfl, by decide, by decide, rfl⟩ (by decide) 0 rfl rfl rfl rfl (Nat.le_of_ble_eq_true rfl) dC_edgesPassed_18 (by decide) [0, 1, 2, 3, 4, 5, 6, 7, 8, 9, 10] rfl rfl (fun v wn hv => ?_)
    obtain ⟨rfl, rfl⟩ := hv
    refine ⟨rfl, ?_⟩
    refine z_if_le hX 27 dC_edgesPassed_21 rfl (fun h21 => ?_) (fun h21 => ?_)
    · have hs2 := zpc_f (f := zpo fr to n m has Bh H St wh) h21
      refine z_iinc hX 3 dC_edgesPassed_27 rfl (zi_1 _) (by decide) ?_
      refine z_goto hX 4 dC_edgesPassed_30 rfl ?_
      have hz := ih (by omega)
      rw [hs2] at hz
      exact hz
    · have hs2 := zpc_t (f := zpo fr to n m has Bh H St wh) h21
      refine z_iinc hX 2 dC_edgesPassed_24 rfl (zi_1 _) (by decide) ?_
      refine z_iinc hX 3 dC_edgesPassed_27 rfl (zi_1 _) (by decide) ?_
      refine z_goto hX 4 dC_edgesPassed_30 rfl ?_
      have hz := ih (by omega)
      rw [hs2] at hz
      exact hz

set_option maxHeartbeats 1000000 in
set_option maxRecDepth 100000 in
theorem kC_waysCompleted (l : Launch) (D : va_G) (cI cZ : ClassId) (ct g tr bh ht sp cp : Nat) (Bh : Nat → Nat → Bool) (H St Cm : Nat → Int) (hs gr : Nat) (has : Nat → Bool) (grp : Nat → Nat) (f t n m : Nat) (fr to : Nat → Nat) : zM l yC_waysCompleted wC_waysCompleted rC_waysCompleted D zCl (zTy cI cZ) zNW 0 0 [.ref ct] (wC cI ct g tr bh ht sp cp (Bh) (H) (St) (Cm) ++ wT cI cZ tr g hs gr has grp ++ wG cI g f t n m fr to) (fun v wn => v = some (.int (nI (zpc Cm 200))) ∧ wn = wC cI ct g tr bh ht sp cp (Bh) (H) (St) (Cm) ++ wT cI cZ tr g hs gr has grp ++ wG cI g f t n m fr to) := by
  refine z_met2 cC_waysCompleted 3 (some .int) rfl rfl (Nat.le_of_ble_eq_true rfl) rfl (fun Z hX => ?_)
  show Z 0 0 0 [some (.ref ct), none, none] [] (wC cI ct g tr bh ht sp cp (Bh) (H) (St) (Cm) ++ wT cI cZ tr g hs gr has grp ++ wG cI g f t n m fr to)
  refine z_iconst hX (nI 0) dC_waysCompleted_0 rfl ?_
  refine z_istore_n hX 1 dC_waysCompleted_1 rfl (by decide) ?_
  refine z_iconst hX (nI 0) dC_waysCompleted_2 rfl ?_
  refine z_istore_n hX 2 dC_waysCompleted_3 rfl (by decide) ?_
  refine zloop (P := fun i => Z 0 0 4 [some (.ref ct), some (.int (nI (zpc Cm i))), some (.int (nI i))] [] (wC cI ct g tr bh ht sp cp (Bh) (H) (St) (Cm) ++ wT cI cZ tr g hs gr has grp ++ wG cI g f t n m fr to)) 200 (fun i hi ih => ?_) 0 (Nat.zero_le _)
  refine z_iload_n hX 2 dC_waysCompleted_4 rfl rfl ?_
  refine z_sipush hX (nI 200) dC_waysCompleted_5 (by decide) ?_
  refine z_icmp_geN hX 29 (by omega) (by omega) dC_waysCompleted_8 rfl (fun h8 => ?_) (fun h8 => ?_)
  · refine z_iload_n hX 1 dC_waysCompleted_29 rfl rfl ?_
    refine z_iret hX rfl rfl rfl rfl dC_waysCompleted_30 ?_
    have him : i = 200 := by omega
    subst him
    exact ⟨rfl, rfl⟩
  · refine z_aload_n hX 0 dC_waysCompleted_11 rfl rfl ?_
    refine z_get hX 0 5 rfl rfl (zu inC) (by decide) (List.mem_cons_of_mem _ mw_192) rfl dC_waysCompleted_12 ?_
    refine z_iload_n hX 2 dC_waysCompleted_15 rfl rfl ?_
    refine z_ldI hX 4 0 _ rfl rfl rfl (by omega) (by decide) dC_waysCompleted_16 ?_
    refine z_if_le hX 23 dC_waysCompleted_17 rfl (fun h17 => ?_) (fun h17 => ?_)
    · have hs2 := zpc_f (f := Cm) h17
      refine z_iinc hX 2 dC_waysCompleted_23 rfl (zi_1 _) (by decide) ?_
      refine z_goto hX 4 dC_waysCompleted_26 rfl ?_
      have hz := ih (by omega)
      rw [hs2] at hz
      exact hz
    · have hs2 := zpc_t (f := Cm) h17
      refine z_iinc hX 1 dC_waysCompleted_20 rfl (zi_1 _) (by decide) ?_
      refine z_iinc hX 2 dC_waysCompleted_23 rfl (zi_1 _) (by decide) ?_
      refine z_goto hX 4 dC_waysCompleted_26 rfl ?_
      have hz := ih (by omega)
      rw [hs2] at hz
      exact hz

