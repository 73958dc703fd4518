/-! Arrays.fill; Counters.forget, cut, hit -/
abbrev yJ_fill : MethodName := { cls := "java/util/Arrays", name := "fill", desc := "([II)V" }
abbrev cJ_fill : ByteArray := prog_11_method_103_code
abbrev wJ_fill : List Cond := Cond.code yJ_fill cJ_fill 4 none :: zWW
abbrev rJ_fill : Room := { frames := 1, cells := 0, slots := 0, locals := 20 }
theorem dJ_fill_0 : decode cJ_fill 0 = .ok (.iconst 0, 1) := by decide +kernel
theorem dJ_fill_1 : decode cJ_fill 1 = .ok (.istore_n 2, 1) := by decide +kernel
theorem dJ_fill_2 : decode cJ_fill 2 = .ok (.aload_n 0, 1) := by decide +kernel
theorem dJ_fill_3 : decode cJ_fill 3 = .ok (.arraylength, 1) := by decide +kernel
theorem dJ_fill_4 : decode cJ_fill 4 = .ok (.istore_n 3, 1) := by decide +kernel
theorem dJ_fill_5 : decode cJ_fill 5 = .ok (.iload_n 2, 1) := by decide +kernel
theorem dJ_fill_6 : decode cJ_fill 6 = .ok (.iload_n 3, 1) := by decide +kernel
theorem dJ_fill_7 : decode cJ_fill 7 = .ok (.if_icmp .ge 13, 3) := by decide +kernel
theorem dJ_fill_10 : decode cJ_fill 10 = .ok (.aload_n 0, 1) := by decide +kernel
theorem dJ_fill_11 : decode cJ_fill 11 = .ok (.iload_n 2, 1) := by decide +kernel
theorem dJ_fill_12 : decode cJ_fill 12 = .ok (.iload_n 1, 1) := by decide +kernel
theorem dJ_fill_13 : decode cJ_fill 13 = .ok (.iastore, 1) := by decide +kernel
theorem dJ_fill_14 : decode cJ_fill 14 = .ok (.iinc 2 1, 3) := by decide +kernel
theorem dJ_fill_17 : decode cJ_fill 17 = .ok (.goto (-12), 3) := by decide +kernel
theorem dJ_fill_20 : decode cJ_fill 20 = .ok (.return_, 1) := by decide +kernel
def zfill {α : Type} (f : Nat → α) (x : α) (i : Nat) : Nat → α := fun y => if y < i then x else f y
theorem zfill_0 {α : Type} (f : Nat → α) (x : α) : zfill f x 0 = f := by
  funext y
  exact if_neg (by omega)
theorem zfill_up (f : Nat → Int32) (x : Int32) (i : Nat) : upd (zfill f x i) i x = zfill f x (i + 1) := by
  funext y
  by_cases h : y = i
  · subst h; rw [pk_us]; exact (if_pos (by omega)).symm
  · rw [pk_un h]
    show (if y < i then x else f y) = (if y < i + 1 then x else f y)
    by_cases hc : y < i
    · rw [if_pos hc, if_pos (by omega)]
    · rw [if_neg hc, if_neg (by omega)]
theorem zfill_I (f : Nat → Int) (k : Nat) : zfill (aI f) (nI 0) k = aI (zfill f 0 k) := by
  funext y
  show (if y < k then nI 0 else Int32.ofInt (f y)) = Int32.ofInt (if y < k then 0 else f y)
  by_cases hc : y < k
  · rw [if_pos hc, if_pos hc]; rfl
  · rw [if_neg hc, if_neg hc]
theorem zGS {c0 c1 : Cond} {own : String} {ix : Nat} {y : MethodName} (m1 : Cond.methodLink own ix y ∈ zWW) (m2 : Cond.static y ∈ zWW) (m4 : Cond.initialized y.cls ∈ zWW) (m5 : c1 ∈ zWW) : GoodIn (c0 :: zWW) (va_wsS own ix y (c1 :: zWW)) := by
  intro w hw
  rcases List.mem_append.mp hw with h | h
  · have hz : w ∈ zWW := by
      rcases List.mem_cons.mp h with rfl | h
      · exact m1
      · rcases List.mem_cons.mp h with rfl | h
        · exact m2
        · rcases List.mem_cons.mp h with rfl | h
          · exact m4
          · cases h
    exact ⟨List.mem_cons_of_mem _ hz, zw_good hz⟩
  · exact zG m5 w h
section ZJ
variable {Z : zF} {l : Launch} {R : Room} {D : va_G} {cl : List vw_C} {tys : List (ClassId × FieldType)} {NW : List (String × Nat × MethodName × String)} {cc : ByteArray} {nL : Nat} {own : String} {c0 : Cond} {mc ms : Nat} {ret : Option FieldType} {nm : String} {E : Option Value → va_W → Prop} {k j pc : Nat} {lv : List (Option Value)} {st st0 : List Value} {ws wc : va_W}
variable {y : MethodName} {rm : Room} {n ix : Nat} {bytes : ByteArray} {maxL : Nat} {r : Option FieldType} {As : List Value} {Ey : Option Value → va_W → Prop}
theorem z_alen (hX : zX Z l R D cl tys NW cc nL own (c0 :: zWW) mc ms ret nm E) {cA : ClassId} {N a : Nat} {f : Nat → Int32} (q0 t0 : Nat) {ty : FieldType} (ha : ws[q0]? = some (a, .inl (cA, N, .inl f))) (ht : tys[t0]? = some (cA, ty)) (hd : decode cc pc = .ok (.arraylength, 1)) (kk : Z k j (pc + 1) lv (.int (nI N) :: st) ws) : Z k j pc lv (.ref a :: st) ws := by
  obtain ⟨p, e, s, m, args, below, meth, c, A, H0, Qc, hZ, hx, hb, hml, hown, hts, hK, hA, hN, hnm, hret, hlk, hend⟩ := hX
  exact (hZ _ _ _ _ _ _).mpr (fun ls H locs hl hP hD hS => va_alen hx hb hK hP q0 t0 ha ht rfl hd ((hZ _ _ _ _ _ _).mp kk ls H locs hl hP hD hS))
theorem z_Jy (hX : zX Z l R D cl tys NW cc nL own (c0 :: zWW) mc ms ret nm E) (hM : zM l y (Cond.code y bytes maxL r :: zWW) rm D cl tys NW 0 0 As wc Ey) (m1 : Cond.methodLink own ix y ∈ zWW) (m2 : Cond.static y ∈ zWW) (m4 : Cond.initialized y.cls ∈ zWW) (m5 : Cond.code y bytes maxL r ∈ zWW) (hrc : rm.cells = 0) (hrs : rm.slots = 0) (hd0 : y.cls ≠ "java/lang/invoke/MethodHandle" ∧ y.cls ≠ "java/lang/invoke/VarHandle" ∧ (parseMethodDescriptor y.desc).map (fun d => d.parameters.length) = some n) (hR : rm.frames + 1 ≤ R.frames ∧ 8 + (maxL + 11) + rm.locals ≤ R.locals) (hn : As.length = n) (hst : st0 = As.reverse ++ st) (hcat : (st.map fun v => v.category).sum ≤ 8) (hd : decode cc pc = .ok (.invokestatic ix, 3)) (hf : k ≤ R.cells ∧ j ≤ R.slots) (isC : List Nat) (hC : isC.map (fun i => ws[i]?) = wc.map some) (hnd : va_nd isC = true) (isR : List Nat) (L : Nat) (hL : ∀ i, i < L → i ∈ isC ∨ i ∈ isR) (hRC : ∀ i ∈ isR, i ∉ isC) (kk : ∀ (v : Option Value) (wn : va_W), Ey v wn → ∃ ws2 : va_W, isC.map (fun i => ws2[i]?) = wn.map some ∧ zKs ws ws2 isR ∧ ws2.length = L ∧ Z k j (pc + 3) lv (v.toList ++ st) ws2) : Z k j pc lv st0 ws := by
  obtain ⟨p, e, s, m, args, below, meth, c, A, H0, Qc, hZ, hx, hb, hml, hown, hts, hK, hA, hN, hnm, hret, hlk, hend⟩ := hX
  refine (hZ _ _ _ _ _ _).mpr (fun ls H locs hl hP hD hS => ?_)
  have run := va_runS (e := e) (below := below) (meth := meth) (H := H) (locs := locs) (cells := k) (slots := j) (As := As) (rest := st) (g := F0 m pc ls st0) ⟨hx, hb, hml, hown, hts⟩ (hM H.size) (va_cwS (R := R) n hts (zGS m1 m2 m4 m5) rfl hrc hrs hd0 hR) ⟨z_blind, z_pre hP hD hK hN hC hnd⟩ rfl hn hl.1 hst (lv_room hcat) hd hf
  refine z_core run hP hD hS (va_free hD hS hA isC hC) hC (fun v wn hE => ?_)
  obtain ⟨ws2, e1, e2, e3, e4⟩ := kk v wn hE
  exact ⟨ws2, isC, isR, L, ⟨e1, zKs_map e2, e3, hL, hRC⟩, fun H1 locs1 hP1 hD1 hS1 => (hZ _ _ _ _ _ _).mp e4 ls H1 locs1 hl hP1 hD1 hS1⟩
end ZJ
set_option maxHeartbeats 1000000 in
set_option maxRecDepth 100000 in
theorem kJ_fill (l : Launch) (D : va_G) (cI cZ : ClassId) (a N : Nat) (g : Nat → Int32) (x : Int32) (hN : N < 2147483648) : zM l yJ_fill wJ_fill rJ_fill D zCl (zTy cI cZ) zNW 0 0 [.ref a, .int x] ([(a, .inl (cI, N, .inl (g)))]) (fun v wn => v = none ∧ wn = [(a, .inl (cI, N, .inl (zfill g x N)))]) := by
  refine z_met2 cJ_fill 4 none rfl rfl (Nat.le_of_ble_eq_true rfl) rfl (fun Z hX => ?_)
  show Z 0 0 0 [some (.ref a), some (.int x), none, none] [] ([(a, .inl (cI, N, .inl (g)))])
  refine z_iconst hX (nI 0) dJ_fill_0 rfl ?_
  refine z_istore_n hX 2 dJ_fill_1 rfl (by decide) ?_
  refine z_aload_n hX 0 dJ_fill_2 rfl rfl ?_
  refine z_alen hX 0 0 rfl rfl dJ_fill_3 ?_
  refine z_istore_n hX 3 dJ_fill_4 rfl (by decide) ?_
  have hloop : ∀ i, i ≤ N → Z 0 0 5 [some (.ref a), some (.int x), some (.int (nI i)), some (.int (nI N))] [] ([(a, .inl (cI, N, .inl (zfill g x i)))]) := by
    refine zloop (P := fun i => Z 0 0 5 [some (.ref a), some (.int x), some (.int (nI i)), some (.int (nI N))] [] ([(a, .inl (cI, N, .inl (zfill g x i)))])) N (fun i hi ih => ?_)
    refine z_iload_n hX 2 dJ_fill_5 rfl rfl ?_
    refine z_iload_n hX 3 dJ_fill_6 rfl rfl ?_
    refine z_icmp_geN hX 20 (by omega) (by omega) dJ_fill_7 rfl (fun h7 => ?_) (fun h7 => ?_)
    · refine z_vret hX rfl rfl rfl dJ_fill_20 ?_
      have him : i = N := by omega
      subst him
      exact ⟨rfl, rfl⟩
    · refine z_aload_n hX 0 dJ_fill_10 rfl rfl ?_
      refine z_iload_n hX 2 dJ_fill_11 rfl rfl ?_
      refine z_iload_n hX 1 dJ_fill_12 rfl rfl ?_
      refine z_iast hX 0 0 _ rfl rfl rfl (by omega) hN dJ_fill_13 (zfill_up _ _ _) ?_
      refine z_iinc hX 2 dJ_fill_14 rfl (zi_1 _) (by decide) ?_
      refine z_goto hX 5 dJ_fill_17 rfl ?_
      exact ih (by omega)
  have hz := hloop 0 (Nat.zero_le _)
  rw [zfill_0] at hz
  exact hz

set_option maxHeartbeats 1000000 in
set_option maxRecDepth 100000 in
theorem kC_forget (l : Launch) (D : va_G) (cI cZ : ClassId) (ct g tr bh ht sp cp : Nat) (Bh : Nat → Nat → Bool) (H St Cm : Nat → Int) (hs gr : Nat) (has : Nat → Bool) (grp : Nat → Nat) (f t n m : Nat) (fr to : Nat → Nat) : zM l yC_forget wC_forget rC_forget D zCl (zTy cI cZ) zNW 0 0 [.ref ct] (wC cI ct g tr bh ht sp cp (Bh) (H) (St) (Cm) ++ wT cI cZ tr g hs gr has grp ++ wG cI g f t n m fr to) (fun v wn => v = none ∧ wn = wC cI ct g tr bh ht sp cp (Bh) (zfill H 0 24) (zfill St 0 12) (zfill Cm 0 200) ++ wT cI cZ tr g hs gr has grp ++ wG cI g f t n m fr to) := by
  refine z_met2 cC_forget 1 none rfl rfl (Nat.le_of_ble_eq_true rfl) rfl (fun Z hX => ?_)
  show Z 0 0 0 [some (.ref ct)] [] (wC cI ct g tr bh ht sp cp (Bh) (H) (St) (Cm) ++ wT cI cZ tr g hs gr has grp ++ wG cI g f t n m fr to)
  refine z_aload_n hX 0 dC_forget_0 rfl rfl ?_
  refine z_get hX 0 3 rfl rfl (zu inC) (by decide) (List.mem_cons_of_mem _ mw_189) rfl dC_forget_1 ?_
  refine z_iconst hX (nI 0) dC_forget_4 rfl ?_
  refine z_Jy hX (kJ_fill l D cI cZ ht 24 (aI H) (nI 0) (by decide)) mw_540 mw_541 mw_10 mw_542 rfl rfl ⟨by decide, by decide, rfl⟩ (by decide) rfl rfl (Nat.le_of_ble_eq_true rfl) dC_forget_5 (by decide) [2] rfl rfl [0, 1, 3, 4, 5, 6, 7, 8, 9, 10] 11 (by decide) (by decide) (fun v wn hv => ?_)
  rw [zfill_I] at hv
  obtain ⟨rfl, rfl⟩ := hv
  refine ⟨wC cI ct g tr bh ht sp cp (Bh) (zfill H 0 24) (St) (Cm) ++ wT cI cZ tr g hs gr has grp ++ wG cI g f t n m fr to, rfl, (And.intro ⟨_, rfl, rfl⟩ (And.intro ⟨_, rfl, rfl⟩ (And.intro ⟨_, rfl, rfl⟩ (And.intro ⟨_, rfl, rfl⟩ (And.intro ⟨_, rfl, rfl⟩ (And.intro ⟨_, rfl, rfl⟩ (And.intro ⟨_, rfl, rfl⟩ (And.intro ⟨_, rfl, rfl⟩ (And.intro ⟨_, rfl, rfl⟩ (And.intro ⟨_, rfl, rfl⟩ trivial)))))))))), rfl, ?_⟩
  refine z_aload_n hX 0 dC_forget_8 rfl rfl ?_
  refine z_get hX 0 4 rfl rfl (zu inC) (by decide) (List.mem_cons_of_mem _ mw_190) rfl dC_forget_9 ?_
  refine z_iconst hX (nI 0) dC_forget_12 rfl ?_
  refine z_Jy hX (kJ_fill l D cI cZ sp 12 (aI St) (nI 0) (by decide)) mw_540 mw_541 mw_10 mw_542 rfl rfl ⟨by decide, by decide, rfl⟩ (by decide) rfl rfl (Nat.le_of_ble_eq_true rfl) dC_forget_13 (by decide) [3] rfl rfl [0, 1, 2, 4, 5, 6, 7, 8, 9, 10] 11 (by decide) (by decide) (fun v wn hv => ?_)
  rw [zfill_I] at hv
  obtain ⟨rfl, rfl⟩ := hv
  refine ⟨wC cI ct g tr bh ht sp cp (Bh) (zfill H 0 24) (zfill St 0 12) (Cm) ++ wT cI cZ tr g hs gr has grp ++ wG cI g f t n m fr to, rfl, (And.intro ⟨_, rfl, rfl⟩ (And.intro ⟨_, rfl, rfl⟩ (And.intro ⟨_, rfl, rfl⟩ (And.intro ⟨_, rfl, rfl⟩ (And.intro ⟨_, rfl, rfl⟩ (And.intro ⟨_, rfl, rfl⟩ (And.intro ⟨_, rfl, rfl⟩ (And.intro ⟨_, rfl, rfl⟩ (And.intro ⟨_, rfl, rfl⟩ (And.intro ⟨_, rfl, rfl⟩ trivial)))))))))), rfl, ?_⟩
  refine z_aload_n hX 0 dC_forget_16 rfl rfl ?_
  refine z_get hX 0 5 rfl rfl (zu inC) (by decide) (List.mem_cons_of_mem _ mw_192) rfl dC_forget_17 ?_
  refine z_iconst hX (nI 0) dC_forget_20 rfl ?_
  refine z_Jy hX (kJ_fill l D cI cZ cp 200 (aI Cm) (nI 0) (by decide)) mw_540 mw_541 mw_10 mw_542 rfl rfl ⟨by decide, by decide, rfl⟩ (by decide) rfl rfl (Nat.le_of_ble_eq_true rfl) dC_forget_21 (by decide) [4] rfl rfl [0, 1, 2, 3, 5, 6, 7, 8, 9, 10] 11 (by decide) (by decide) (fun v wn hv => ?_)
  rw [zfill_I] at hv
  obtain ⟨rfl, rfl⟩ := hv
  refine ⟨wC cI ct g tr bh ht sp cp (Bh) (zfill H 0 24) (zfill St 0 12) (zfill Cm 0 200) ++ wT cI cZ tr g hs gr has grp ++ wG cI g f t n m fr to, rfl, (And.intro ⟨_, rfl, rfl⟩ (And.intro ⟨_, rfl, rfl⟩ (And.intro ⟨_, rfl, rfl⟩ (And.intro ⟨_, rfl, rfl⟩ (And.intro ⟨_, rfl, rfl⟩ (And.intro ⟨_, rfl, rfl⟩ (And.intro ⟨_, rfl, rfl⟩ (And.intro ⟨_, rfl, rfl⟩ (And.intro ⟨_, rfl, rfl⟩ (And.intro ⟨_, rfl, rfl⟩ trivial)))))))))), rfl, ?_⟩
  refine z_vret hX rfl rfl rfl dC_forget_24 ?_
  exact ⟨rfl, rfl⟩

def zbh (fr to : Nat → Nat) (n m : Nat) (has : Nat → Bool) (e : Nat) : Nat → Bool := if has e = true then (fun i => decide (i < n) && !sb_near fr to has e m n i) else (fun _ => false)
theorem zbh_up (fr to : Nat → Nat) (n m : Nat) (has : Nat → Bool) (Bh : Nat → Nat → Bool) (i : Nat) : va_up (fun x => if x < i then zbh fr to n m has x else Bh x) i (zbh fr to n m has i) = (fun x => if x < i + 1 then zbh fr to n m has x else Bh x) := by
  funext x
  by_cases h : x = i
  · subst h; rw [sp_up_s, if_pos (by omega)]
  · rw [sp_up_n _ _ h]
    by_cases hc : x < i
    · rw [if_pos hc, if_pos (by omega)]
    · rw [if_neg hc, if_neg (by omega)]
set_option maxHeartbeats 1000000 in
set_option maxRecDepth 100000 in
theorem kC_cut (l : Launch) (D : va_G) (cI cZ : ClassId) (ct g tr bh ht sp cp : Nat) (Bh : Nat → Nat → Bool) (H St Cm : Nat → Int) (hs gr : Nat) (has : Nat → Bool) (grp : Nat → Nat) (f t n m : Nat) (fr to : Nat → Nat) (hn : 2 ≤ n ∧ n ≤ 12) (hm : m ≤ 24) (hok : ∀ e, e < m → fr e < n ∧ to e < n) : zM l yC_cut wC_cut rC_cut D zCl (zTy cI cZ) zNW 0 0 [.ref ct] (wC cI ct g tr bh ht sp cp (Bh) (H) (St) (Cm) ++ wT cI cZ tr g hs gr has grp ++ wG cI g f t n m fr to) (fun v wn => v = none ∧ wn = wC cI ct g tr bh ht sp cp ((fun x => if x < m then zbh fr to n m has x else Bh x)) (H) (St) (Cm) ++ wT cI cZ tr g hs gr has grp ++ wG cI g f t n m fr to) := by
  refine z_met2 cC_cut 2 none rfl rfl (Nat.le_of_ble_eq_true rfl) rfl (fun Z hX => ?_)
  show Z 0 0 0 [some (.ref ct), none] [] (wC cI ct g tr bh ht sp cp (Bh) (H) (St) (Cm) ++ wT cI cZ tr g hs gr has grp ++ wG cI g f t n m fr to)
  refine z_iconst hX (nI 0) dC_cut_0 rfl ?_
  refine z_istore_n hX 1 dC_cut_1 rfl (by decide) ?_
  have hloop : ∀ i, i ≤ m → Z 0 0 2 [some (.ref ct), some (.int (nI i))] [] (wC cI ct g tr bh ht sp cp ((fun x => if x < i then zbh fr to n m has x else Bh x)) (H) (St) (Cm) ++ wT cI cZ tr g hs gr has grp ++ wG cI g f t n m fr to) := by
    refine zloop (P := fun i => Z 0 0 2 [some (.ref ct), some (.int (nI i))] [] (wC cI ct g tr bh ht sp cp ((fun x => if x < i then zbh fr to n m has x else Bh x)) (H) (St) (Cm) ++ wT cI cZ tr g hs gr has grp ++ wG cI g f t n m fr to)) m (fun i hi ih => ?_)
    refine z_iload_n hX 1 dC_cut_2 rfl rfl ?_
    refine z_aload_n hX 0 dC_cut_3 rfl rfl ?_
    refine z_get hX 0 0 rfl rfl (zu inC) (by decide) (List.mem_cons_of_mem _ mw_186) rfl dC_cut_4 ?_
    refine z_get hX 8 3 rfl rfl (zu inG) (by decide) (List.mem_cons_of_mem _ mw_53) rfl dC_cut_7 ?_
    refine z_icmp_geN hX 49 (by omega) (by omega) dC_cut_10 rfl (fun h10 => ?_) (fun h10 => ?_)
    · refine z_vret hX rfl rfl rfl dC_cut_49 ?_
      have him : i = m := by omega
      subst him
      exact ⟨rfl, rfl⟩
    · refine z_aload_n hX 0 dC_cut_13 rfl rfl ?_
      refine z_get hX 0 2 rfl rfl (zu inC) (by decide) (List.mem_cons_of_mem _ mw_188) rfl dC_cut_14 ?_
      refine z_iload_n hX 1 dC_cut_17 rfl rfl ?_
      refine z_aload_n hX 0 dC_cut_18 rfl rfl ?_
      refine z_get hX 0 1 rfl rfl (zu inC) (by decide) (List.mem_cons_of_mem _ mw_187) rfl dC_cut_19 ?_
      refine z_get hX 5 1 rfl rfl (zu inT) (by decide) (List.mem_cons_of_mem _ mw_132) rfl dC_cut_22 ?_
      refine z_iload_n hX 1 dC_cut_25 rfl rfl ?_
      refine z_ldB hX 6 1 _ rfl rfl rfl (by omega) (by decide) dC_cut_26 ?_
      have cut42 : Z 0 0 42 [some (.ref ct), some (.int (nI i))] [.int (bS (zbh fr to n m has i)), .int (nI i), .ref bh] (wC cI ct g tr bh ht sp cp ((fun x => if x < i then zbh fr to n m has x else Bh x)) (H) (St) (Cm) ++ wT cI cZ tr g hs gr has grp ++ wG cI g f t n m fr to) := by
        refine z_stS hX 1 0 _ _ rfl rfl rfl rfl (by omega) (by decide) dC_cut_42 ?_
        refine z_iinc hX 1 dC_cut_43 rfl (zi_1 _) (by decide) ?_
        refine z_goto hX 2 dC_cut_46 rfl ?_
        have hz := ih (by omega)
        rw [← zbh_up] at hz
        exact hz
      refine z_if_eqB hX 41 dC_cut_27 rfl (fun h27 => ?_) (fun h27 => ?_)
      · have hr : zbh fr to n m has i = (fun _ => false) := if_neg (by rw [h27]; decide)
        refine z_iconst hX (bS (fun _ => false)) dC_cut_41 (by rw [bS_none]; rfl) ?_
        rw [hr] at cut42
        exact cut42
      · have hr : zbh fr to n m has i = (fun x => decide (x < n) && !sb_near fr to has i m n x) := if_pos h27
        refine z_aload_n hX 0 dC_cut_30 rfl rfl ?_
        refine z_get hX 0 1 rfl rfl (zu inC) (by decide) (List.mem_cons_of_mem _ mw_187) rfl dC_cut_31 ?_
        refine z_iload_n hX 1 dC_cut_34 rfl rfl ?_
        refine z_Vr hX (kT_blocksBehind l D cI cZ tr g hs gr has grp f t n m fr to i (by omega) hn hm hok) mw_344 mw_345 mw_346 mw_6 mw_347 rfl rfl ⟨rfl, by decide, by decide, rfl⟩ (by decide) 5 rfl rfl rfl rfl (Nat.le_of_ble_eq_true rfl) dC_cut_35 (by decide) [5, 6, 7, 8, 9, 10] rfl rfl (fun v wn hv => ?_)
        obtain ⟨rfl, rfl⟩ := hv
        refine ⟨rfl, ?_⟩
        refine z_goto hX 42 dC_cut_38 rfl ?_
        rw [hr] at cut42
        exact cut42
  have hz := hloop 0 (Nat.zero_le _)
  rw [show (fun x => if x < 0 then zbh fr to n m has x else Bh x) = Bh from funext (fun x => if_neg (by omega))] at hz
  exact hz

set_option maxHeartbeats 1000000 in
set_option maxRecDepth 100000 in
theorem kC_hit (l : Launch) (D : va_G) (cI cZ : ClassId) (ct g tr bh ht sp cp : Nat) (Bh : Nat → Nat → Bool) (H St Cm : Nat → Int) (hs gr : Nat) (has : Nat → Bool) (grp : Nat → Nat) (f t n m : Nat) (fr to : Nat → Nat) (e : Nat) (he : e < 24) : zM l yC_hit wC_hit rC_hit D zCl (zTy cI cZ) zNW 0 0 [.ref ct, .int (nI e)] (wC cI ct g tr bh ht sp cp (Bh) (H) (St) (Cm) ++ wT cI cZ tr g hs gr has grp ++ wG cI g f t n m fr to) (fun v wn => v = none ∧ wn = wC cI ct g tr bh ht sp cp (Bh) (if has e = true then H else va_up H e (H e + 1)) (St) (Cm) ++ wT cI cZ tr g hs gr has grp ++ wG cI g f t n m fr to) := by
  refine z_met2 cC_hit 2 none rfl rfl (Nat.le_of_ble_eq_true rfl) rfl (fun Z hX => ?_)
  show Z 0 0 0 [some (.ref ct), some (.int (nI e))] [] (wC cI ct g tr bh ht sp cp (Bh) (H) (St) (Cm) ++ wT cI cZ tr g hs gr has grp ++ wG cI g f t n m fr to)
  refine z_aload_n hX 0 dC_hit_0 rfl rfl ?_
  refine z_get hX 0 1 rfl rfl (zu inC) (by decide) (List.mem_cons_of_mem _ mw_187) rfl dC_hit_1 ?_
  refine z_get hX 5 1 rfl rfl (zu inT) (by decide) (List.mem_cons_of_mem _ mw_132) rfl dC_hit_4 ?_
  refine z_iload_n hX 1 dC_hit_7 rfl rfl ?_
  refine z_ldB hX 6 1 _ rfl rfl rfl (by omega) (by decide) dC_hit_8 ?_
  refine z_if_neB hX 22 dC_hit_9 rfl (fun h9 => ?_) (fun h9 => ?_)
  · refine z_vret hX rfl rfl rfl dC_hit_22 ?_
    refine ⟨rfl, ?_⟩
    first
      | (rw [if_pos h9])
      | (rw [if_neg (by rw [h9]; decide)]; rfl)
  · refine z_aload_n hX 0 dC_hit_12 rfl rfl ?_
    refine z_get hX 0 3 rfl rfl (zu inC) (by decide) (List.mem_cons_of_mem _ mw_189) rfl dC_hit_13 ?_
    refine z_iload_n hX 1 dC_hit_16 rfl rfl ?_
    refine z_dup2 hX dC_hit_17 rfl rfl ?_
    refine z_ldI hX 2 0 _ rfl rfl rfl (by omega) (by decide) dC_hit_18 ?_
    refine z_iconst hX (nI 1) dC_hit_19 rfl ?_
    refine z_iaddI hX (H e) 1 rfl rfl dC_hit_20 ?_
    refine z_stI hX 2 0 _ _ rfl rfl rfl rfl (by omega) (by decide) dC_hit_21 ?_
    refine z_vret hX rfl rfl rfl dC_hit_22 ?_
    refine ⟨rfl, ?_⟩
    first
      | (rw [if_pos h9])
      | (rw [if_neg (by rw [h9]; decide)]; rfl)

