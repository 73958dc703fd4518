/-! calls, new objects and arrays -/
/-- ws2: the world behind a call: at isW what came back, at isR what was not given -/
def zPut (ws : va_W) (isC : List Nat) (wn ws2 : va_W) (isW isR : List Nat) (L : Nat) : Prop := isW.map (fun i => ws2[i]?) = wn.map some ∧ isR.map (fun i => ws2[i]?) = isR.map (fun i => ws[i]?) ∧ ws2.length = L ∧ (∀ i, i < L → i ∈ isW ∨ i ∈ isR) ∧ (∀ i ∈ isR, i ∉ isC)
theorem zC_get {ws wc : va_W} {is : List Nat} (h : is.map (fun i => ws[i]?) = wc.map some) {a : Nat} {q : Nat × va_E} (hq : wc[a]? = some q) : ∃ i : Nat, is[a]? = some i ∧ ws[i]? = some q := by
  have h1 : (is.map (fun i => ws[i]?))[a]? = some (some q) := by rw [h, List.getElem?_map, hq]; rfl
  rw [List.getElem?_map] at h1
  cases hi : is[a]? with
  | none => rw [hi] at h1; cases h1
  | some i => rw [hi] at h1; exact ⟨i, rfl, Option.some.inj h1⟩
theorem zC_of {ws wc : va_W} {is : List Nat} (h : is.map (fun i => ws[i]?) = wc.map some) {i : Nat} {q : Nat × va_E} (hi : i ∈ is) (hq : ws[i]? = some q) : ∃ a : Nat, is[a]? = some i ∧ wc[a]? = some q := by
  obtain ⟨a, ha⟩ := List.getElem?_of_mem hi
  have h1 : (is.map (fun i => ws[i]?))[a]? = some (some q) := by rw [List.getElem?_map, ha, ← hq]; rfl
  rw [h, List.getElem?_map] at h1
  cases hw : wc[a]? with
  | none => rw [hw] at h1; cases h1
  | some x => rw [hw] at h1; exact ⟨a, ha, by rw [hw]; exact Option.some.inj h1⟩
theorem zR_same {ws ws2 : va_W} {is : List Nat} (h : is.map (fun i => ws2[i]?) = is.map (fun i => ws[i]?)) {i : Nat} (hi : i ∈ is) : ws2[i]? = ws[i]? := by
  obtain ⟨a, ha⟩ := List.getElem?_of_mem hi
  have h1 : (is.map (fun i => ws2[i]?))[a]? = some (ws2[i]?) := by rw [List.getElem?_map, ha]; rfl
  have h2 : (is.map (fun i => ws[i]?))[a]? = some (ws[i]?) := by rw [List.getElem?_map, ha]; rfl
  rw [h, h2] at h1
  exact (Option.some.inj h1).symm
theorem zPut_ok {D : va_G} {cl : List vw_C} {A : Nat → Prop} {ws wc wn ws2 : va_W} {isC isW isR : List Nat} {L : Nat} {H H1 : Heap} (hP : va_P D cl ws H) (hD : va_D A ws) (hC : isC.map (fun i => ws[i]?) = wc.map some) (hput : zPut ws isC wn ws2 isW isR L) (hk : ∀ q : Nat, q < H.size → ¬ va_A wc H.size q → H1[q]? = H[q]?) (hF : ∀ q, va_A wc H.size q → A q) (hP1 : va_P D cl wn H1) (hD1 : va_D (va_A wc H.size) wn) : va_P D cl ws2 H1 ∧ va_D A ws2 := by
  obtain ⟨p1, p2, p3, p4, p5⟩ := hput
  have side : ∀ (i : Nat) (q : Nat × va_E), ws2[i]? = some q → (∃ a : Nat, isW[a]? = some i ∧ wn[a]? = some q) ∨ (i ∈ isR ∧ ws[i]? = some q ∧ q.1 < H.size ∧ ¬ va_A wc H.size q.1) := by
    intro i q hq
    have hi : i < ws2.length := (List.getElem?_eq_some_iff.mp hq).1
    rcases p4 i (by omega) with h | h
    · exact Or.inl (zC_of p1 h hq)
    · have h1 : ws[i]? = some q := by rw [← zR_same p2 h]; exact hq
      have h2 := (hP i q h1).lt
      refine Or.inr ⟨h, h1, h2, fun hc => ?_⟩
      rcases hc with ⟨b, x, hb⟩ | hc
      · obtain ⟨i2, g1, g2⟩ := zC_get hC hb
        have := hD.1 i i2 q (q.1, x) h1 g2 rfl
        subst this
        exact p5 i h (List.mem_of_getElem? g1)
      · omega
  refine ⟨fun i q hq => ?_, fun i1 i2 q1 q2 h1 h2 h12 => ?_, fun i q hq => ?_⟩
  · rcases side i q hq with ⟨a, _, h2⟩ | ⟨_, h1, h2, h3⟩
    · exact hP1 a q h2
    · exact (hP i q h1).kept (hk q.1 h2 h3)
  · rcases side i1 q1 h1 with ⟨a1, x1, y1⟩ | ⟨_, x1, y1, z1⟩
    · rcases side i2 q2 h2 with ⟨a2, x2, y2⟩ | ⟨_, x2, y2, z2⟩
      · have := hD1.1 a1 a2 q1 q2 y1 y2 h12
        subst this
        rw [x1] at x2
        exact Option.some.inj x2
      · exact absurd (by rw [← h12]; exact hD1.2 a1 q1 y1) z2
    · rcases side i2 q2 h2 with ⟨a2, x2, y2⟩ | ⟨_, x2, y2, z2⟩
      · exact absurd (by rw [h12]; exact hD1.2 a2 q2 y2) z1
      · exact hD.1 i1 i2 q1 q2 x1 x2 h12
  · rcases side i q hq with ⟨a, _, h2⟩ | ⟨_, h1, _, _⟩
    · exact hF _ (hD1.2 a q h2)
    · exact hD.2 i q h1
section ZG
variable {p : Program} {l : Launch} {e : Env} {R : Room} {s : State} {m : MethodId} {args : Array Value} {below : List Frame} {meth : Method} {c : Code} {H H0 : Heap} {locs : List Loc} {k j mc1 ms1 : Nat} {Q : State → Prop} {A : Nat → Prop} {D : va_G} {cl : List vw_C} {tys : List (ClassId × FieldType)} {ls : Array Slot} {pc : Nat} {st st0 : List Value} {ws wc : va_W} {Ey : Option Value → va_W → Prop} {isC : List Nat} {a : Array Value}
theorem z_core (run : va_Run p l e R s m args below meth c H locs k j mc1 ms1 (F0 m pc ls st0) st (fun st oc t => (∃ (v : Option Value) (wn : va_W), oc = .returned v ∧ Ey v wn ∧ va_P D cl wn t.heap ∧ va_K D cl tys t ∧ va_D (va_A wc H.size) wn) ∧ va_F (va_A wc H.size) st t) (va_A wc H.size)) (hP : va_P D cl ws H) (hD : va_D A ws) (hS : va_S A H0 H locs) (hF : ∀ q, va_A wc H.size q → A q) (hC : isC.map (fun i => ws[i]?) = wc.map some)
    (kk : ∀ (v : Option Value) (wn : va_W), Ey v wn → ∃ (ws2 : va_W) (isW isR : List Nat) (L : Nat), zPut ws isC wn ws2 isW isR L ∧ ∀ (H1 : Heap) (locs1 : List Loc), va_P D cl ws2 H1 → va_D A ws2 → va_S A H0 H1 locs1 → W p l e R s m args below meth c H1 locs1 (k + mc1) (j + ms1) Q (F0 m (pc + 3) ls (v.toList ++ st))) : W p l e R s m args below meth c H locs k j Q (F0 m pc ls st0) := by
  intro T hT X
  obtain ⟨v, st₀, t, T', L, h0, X', hL, e1, e2, ⟨⟨v', wn, hv, hE, hP1, hK1, hD1⟩, hz, hk⟩, stp⟩ := run T hT X
  cases hv
  rw [h0] at hz hk
  obtain ⟨ws2, isW, isR, n, hput, hW⟩ := kk v wn hE
  obtain ⟨q1, q2⟩ := zPut_ok hP hD hC hput hk hF hP1 hD1
  obtain ⟨t2, a1, b1⟩ := hW T'.heap (locs ++ L) (by rw [e1]; exact q1) q2
    ⟨Nat.le_trans hS.1 (by rw [e1]; exact hz), fun q h1 h2 => by rw [e1, hk q (Nat.lt_of_lt_of_le h1 hS.1) (fun z => h2 (hF q z))]; exact hS.2.1 q h1 h2, fun q hq => by
      rcases List.mem_append.mp hq with h | h
      · exact hS.2.2 q h
      · exact hF _ (hL q h)⟩ T' rfl X'
  exact ⟨t2, stp t2 a1, b1⟩
theorem z_blind {av : List Value} {sz : Nat} {NW : List (String × Nat × MethodName × String)} : FrameBlind (va_Pc av (fun U => U.heap.size = sz ∧ va_P D cl wc U.heap ∧ va_K D cl tys U ∧ va_D (fun _ => True) wc ∧ zN NW U)) := by
  intro a U g mk q
  obtain ⟨q0, q1, qP, qK, qD, qN⟩ := q
  exact ⟨q0, q1, qP, va_K.moved (u := U) (U := U.calling g mk a) (Vm.Alike.refl U.vm) qK, qD, qN.calling⟩
theorem z_pre {av : List Value} {NW : List (String × Nat × MethodName × String)} (hP : va_P D cl ws H) (hD : va_D A ws) (hK : va_K D cl tys s) (hN : zN NW s) (hC : isC.map (fun i => ws[i]?) = wc.map some) (hnd : va_nd isC = true) : ∀ U : State, U.heap = H → s.WarmedH U.vm → va_Pc av (fun U => U.heap.size = H.size ∧ va_P D cl wc U.heap ∧ va_K D cl tys U ∧ va_D (fun _ => True) wc ∧ zN NW U) av.toArray U := by
  intro U hU hW
  refine ⟨rfl, by rw [hU], ?_, va_K.moved hW.alike hK, (hD.sub isC hnd hC).weaken (fun _ _ _ _ => trivial), hN.warm hW⟩
  rw [hU]
  intro b q hq
  obtain ⟨i, _, h2⟩ := zC_get hC hq
  exact hP i q h2
end ZG
section ZK
variable {Z : zF} {l : Launch} {R : Room} {D : va_G} {cl : List vw_C} {tys : List (ClassId × FieldType)} {NW : List (String × Nat × MethodName × String)} {cc : ByteArray} {nL : Nat} {own : String} {Ts : List Cond} {mc ms : Nat} {ret : Option FieldType} {nm : String} {E : Option Value → va_W → Prop} {k j pc : Nat} {lv : List (Option Value)} {st st0 : List Value} {ws wc : va_W}
variable {y : MethodName} {wy wy' : List Cond} {rm : Room} {mc1 ms1 n ix : Nat} {bytes : ByteArray} {maxL : Nat} {r : Option FieldType} {As : List Value} {Ey : Option Value → va_W → Prop}
theorem z_callV (hX : zX Z l R D cl tys NW cc nL own Ts mc ms ret nm E) {b ci N : Nat} {fs : List Value} {T : u_T} {C : String} (hM : zM l y wy rm D cl tys NW mc1 ms1 (.ref b :: As) wc Ey) (hG : GoodIn Ts (wsV own ix C y wy)) (hw : wy = Cond.code y bytes maxL r :: wy') (hrc : rm.cells = mc1) (hrs : rm.slots = ms1) (hd0 : y.cls = C ∧ y.cls ≠ "java/lang/invoke/MethodHandle" ∧ y.cls ≠ "java/lang/invoke/VarHandle" ∧ (parseMethodDescriptor y.desc).map (fun d => d.parameters.length) = some n) (hR : rm.frames + 1 ≤ R.frames ∧ 8 + (maxL + 11) + rm.locals ≤ R.locals) (q0 : Nat) (he : ws[q0]? = some (b, .inr (ci, fs))) (hc : cl[ci]? = some (C, T, N)) (hn : As.length = n) (hst : st0 = As.reverse ++ .ref b :: st) (hcat : (st.map fun v => v.category).sum ≤ 8) (hd : decode cc pc = .ok (.invokevirtual ix, 3)) (hf : k + mc1 ≤ R.cells ∧ j + ms1 ≤ R.slots) (isC : List Nat) (hC : isC.map (fun i => ws[i]?) = wc.map some) (hnd : va_nd isC = true) (kk : ∀ (v : Option Value) (wn : va_W), Ey v wn → ∃ (ws2 : va_W) (isW isR : List Nat) (L : Nat), zPut ws isC wn ws2 isW isR L ∧ Z (k + mc1) (j + ms1) (pc + 3) lv (v.toList ++ st) ws2) : Z k j pc lv st0 ws := by
  obtain ⟨p, e, s, m, args, below, meth, c, A, H0, Qc, hZ, hx, hb, hml, hown, hts, hK, hA, hN, hnm, hret, hlk, hend⟩ := hX
  refine (hZ _ _ _ _ _ _).mpr (fun ls H locs hl hP hD hS => ?_)
  have run := va_runV (e := e) (below := below) (meth := meth) (H := H) (locs := locs) (cells := k) (slots := j) (As := As) (rest := st) (g := F0 m pc ls st0) ⟨hx, hb, hml, hown, hts⟩ (hM H.size) (cwV (R := R) n hts hG hw hrc hrs hd0 hR) ⟨z_blind, va_recv hK hP hc he, z_pre hP hD hK hN hC hnd⟩ rfl hn hl.1 hst (lv_room hcat) hd hf
  refine z_core run hP hD hS (va_free hD hS hA isC hC) hC (fun v wn hE => ?_)
  obtain ⟨ws2, isW, isR, L, h1, h2⟩ := kk v wn hE
  exact ⟨ws2, isW, isR, L, h1, fun H1 locs1 hP1 hD1 hS1 => (hZ _ _ _ _ _ _).mp h2 ls H1 locs1 hl hP1 hD1 hS1⟩
theorem z_callS (hX : zX Z l R D cl tys NW cc nL own Ts mc ms ret nm E) (hM : zM l y wy rm D cl tys NW mc1 ms1 As wc Ey) (hG : GoodIn Ts (wsS own ix y wy)) (hw : wy = Cond.code y bytes maxL r :: wy') (hrc : rm.cells = mc1) (hrs : rm.slots = ms1) (hd0 : y.cls = own ∧ y.cls ≠ "java/lang/invoke/MethodHandle" ∧ y.cls ≠ "java/lang/invoke/VarHandle" ∧ (parseMethodDescriptor y.desc).map (fun d => d.parameters.length) = some n) (hR : rm.frames + 1 ≤ R.frames ∧ 8 + (maxL + 11) + rm.locals ≤ R.locals) (hn : As.length = n) (hst : st0 = As.reverse ++ st) (hcat : (st.map fun v => v.category).sum ≤ 8) (hd : decode cc pc = .ok (.invokestatic ix, 3)) (hf : k + mc1 ≤ R.cells ∧ j + ms1 ≤ R.slots) (isC : List Nat) (hC : isC.map (fun i => ws[i]?) = wc.map some) (hnd : va_nd isC = true) (kk : ∀ (v : Option Value) (wn : va_W), Ey v wn → ∃ (ws2 : va_W) (isW isR : List Nat) (L : Nat), zPut ws isC wn ws2 isW isR L ∧ Z (k + mc1) (j + ms1) (pc + 3) lv (v.toList ++ st) ws2) : Z k j pc lv st0 ws := by
  obtain ⟨p, e, s, m, args, below, meth, c, A, H0, Qc, hZ, hx, hb, hml, hown, hts, hK, hA, hN, hnm, hret, hlk, hend⟩ := hX
  refine (hZ _ _ _ _ _ _).mpr (fun ls H locs hl hP hD hS => ?_)
  have run := va_runS (e := e) (below := below) (meth := meth) (H := H) (locs := locs) (cells := k) (slots := j) (As := As) (rest := st) (g := F0 m pc ls st0) ⟨hx, hb, hml, hown, hts⟩ (hM H.size) (cwS (R := R) n hts hG hw hrc hrs hd0 hR) ⟨z_blind, z_pre hP hD hK hN hC hnd⟩ rfl hn hl.1 hst (lv_room hcat) hd hf
  refine z_core run hP hD hS (va_free hD hS hA isC hC) hC (fun v wn hE => ?_)
  obtain ⟨ws2, isW, isR, L, h1, h2⟩ := kk v wn hE
  exact ⟨ws2, isW, isR, L, h1, fun H1 locs1 hP1 hD1 hS1 => (hZ _ _ _ _ _ _).mp h2 ls H1 locs1 hl hP1 hD1 hS1⟩
theorem z_callN (hX : zX Z l R D cl tys NW cc nL own Ts mc ms ret nm E) (host : String) (hM : zM l y wy rm D cl tys NW mc1 ms1 As wc Ey) (hG : GoodIn Ts wy) (hw : wy = Cond.code y bytes maxL r :: wy') (hrc : rm.cells = mc1) (hrs : rm.slots = ms1) (hnw : (own, ix, y, host) ∈ NW) (hini : Cond.initialized y.cls ∈ Ts) (hsta : Cond.static y ∈ Ts) (hd0 : y.cls ≠ "java/lang/invoke/MethodHandle" ∧ y.cls ≠ "java/lang/invoke/VarHandle" ∧ (parseMethodDescriptor y.desc).map (fun d => d.parameters.length) = some n) (hR : rm.frames + 1 ≤ R.frames ∧ 8 + (maxL + 11) + rm.locals ≤ R.locals) (hn : As.length = n) (hst : st0 = As.reverse ++ st) (hcat : (st.map fun v => v.category).sum ≤ 8) (hd : decode cc pc = .ok (.invokestatic ix, 3)) (hf : k + mc1 ≤ R.cells ∧ j + ms1 ≤ R.slots) (isC : List Nat) (hC : isC.map (fun i => ws[i]?) = wc.map some) (hnd : va_nd isC = true) (kk : ∀ (v : Option Value) (wn : va_W), Ey v wn → ∃ (ws2 : va_W) (isW isR : List Nat) (L : Nat), zPut ws isC wn ws2 isW isR L ∧ Z (k + mc1) (j + ms1) (pc + 3) lv (v.toList ++ st) ws2) : Z k j pc lv st0 ws := by
  obtain ⟨p, e, s, m, args, below, meth, c, A, H0, Qc, hZ, hx, hb, hml, hown, hts, hK, hA, hN, hnm, hret, hlk, hend⟩ := hX
  refine (hZ _ _ _ _ _ _).mpr (fun ls H locs hl hP hD hS => ?_)
  have run := va_runSN (e := e) (below := below) (meth := meth) (H := H) (locs := locs) (cells := k) (slots := j) (As := As) (rest := st) (g := F0 m pc ls st0) ⟨hx, hb, hml, hown, hts⟩ (hM H.size) ⟨va_cnB (R := R) n hts hG hw hrc hrs (hN _ hnw) (hts _ hini) hd0 hR, hts _ hsta, trivial⟩ ⟨z_blind, z_pre hP hD hK hN hC hnd⟩ rfl hn hl.1 hst (lv_room hcat) hd hf
  refine z_core run hP hD hS (va_free hD hS hA isC hC) hC (fun v wn hE => ?_)
  obtain ⟨ws2, isW, isR, L, h1, h2⟩ := kk v wn hE
  exact ⟨ws2, isW, isR, L, h1, fun H1 locs1 hP1 hD1 hS1 => (hZ _ _ _ _ _ _).mp h2 ls H1 locs1 hl hP1 hD1 hS1⟩
theorem z_callI (hX : zX Z l R D cl tys NW cc nL own Ts mc ms ret nm E) {b : Nat} (hM : zM l y wy rm D cl tys NW mc1 ms1 (.ref b :: As) wc Ey) (hG : GoodIn Ts wy) (hw : wy = Cond.code y bytes maxL none :: wy') (hrc : rm.cells = mc1) (hrs : rm.slots = ms1) (hini : Cond.initialized y.cls ∈ Ts) (hlink : Cond.methodLink own ix y ∈ Ts) (hins : Cond.instanceMethod y ∈ Ts) (hy1 : y.name = "<init>") (hd0 : y.cls ≠ "java/lang/invoke/MethodHandle" ∧ y.cls ≠ "java/lang/invoke/VarHandle" ∧ (parseMethodDescriptor y.desc).map (fun d => d.parameters.length) = some n) (hR : rm.frames + 1 ≤ R.frames ∧ 8 + (maxL + 11) + rm.locals ≤ R.locals) (hn : As.length = n) (hst : st0 = As.reverse ++ .ref b :: st) (hcat : (st.map fun v => v.category).sum ≤ 8) (hd : decode cc pc = .ok (.invokespecial ix, 3)) (hf : k + mc1 ≤ R.cells ∧ j + ms1 ≤ R.slots) (isC : List Nat) (hC : isC.map (fun i => ws[i]?) = wc.map some) (hnd : va_nd isC = true) (kk : ∀ (v : Option Value) (wn : va_W), Ey v wn → ∃ (ws2 : va_W) (isW isR : List Nat) (L : Nat), zPut ws isC wn ws2 isW isR L ∧ Z (k + mc1) (j + ms1) (pc + 3) lv (v.toList ++ st) ws2) : Z k j pc lv st0 ws := by
  obtain ⟨p, e, s, m, args, below, meth, c, A, H0, Qc, hZ, hx, hb, hml, hown, hts, hK, hA, hN, hnm, hret, hlk, hend⟩ := hX
  refine (hZ _ _ _ _ _ _).mpr (fun ls H locs hl hP hD hS => ?_)
  have run := va_runI (e := e) (below := below) (meth := meth) (H := H) (locs := locs) (cells := k) (slots := j) (As := As) (rest := st) (g := F0 m pc ls st0) ⟨hx, hb, hml, hown, hts⟩ (hM H.size) (cwI (R := R) n hts hG hw hrc hrs (hts _ hini) (hts _ hlink) (hts _ hins) hy1 hd0 hR) ⟨z_blind, z_pre hP hD hK hN hC hnd⟩ rfl hn hl.1 hst (lv_room hcat) hd hf
  refine z_core run hP hD hS (va_free hD hS hA isC hC) hC (fun v wn hE => ?_)
  obtain ⟨ws2, isW, isR, L, h1, h2⟩ := kk v wn hE
  exact ⟨ws2, isW, isR, L, h1, fun H1 locs1 hP1 hD1 hS1 => (hZ _ _ _ _ _ _).mp h2 ls H1 locs1 hl hP1 hD1 hS1⟩
theorem z_objInit (hX : zX Z l R D cl tys NW cc nL own Ts mc ms ret nm E) {a : Nat} (h1 : Cond.methodLink own ix Lib.objectInit ∈ Ts) (h2 : Cond.instanceMethod Lib.objectInit ∈ Ts) (h3 : Cond.code Lib.objectInit ⟨#[0xb1]⟩ 1 none ∈ Ts) (hfr : 1 ≤ R.frames) (hlo : (st.map fun v => v.category).sum + 12 ≤ R.locals) (hd : decode cc pc = .ok (.invokespecial ix, 3)) (kk : Z k j (pc + 3) lv st ws) : Z k j pc lv (.ref a :: st) ws := by
  obtain ⟨p, e, s, m, args, below, meth, c, A, H0, Qc, hZ, hx, hb, hml, hown, hts, hK, hA, hN, hnm, hret, hlk, hend⟩ := hX
  exact (hZ _ _ _ _ _ _).mpr (fun ls H locs hl hP hD hS => W.objInit hx hb hown (hts _ h1) (hts _ h2) (hts _ h3) (g := F0 m pc ls (.ref a :: st)) rfl (by rw [hml]; exact hl.1) rfl hd hfr (by show 2 * 0 + _ + 12 ≤ _; omega) ((hZ _ _ _ _ _ _).mp kk ls H locs hl hP hD hS))
theorem z_new (hX : zX Z l R D cl tys NW cc nL own Ts mc ms ret nm E) {C : String} {T : u_T} {N ci : Nat} {fs : List Value} (hc : cl[ci]? = some (C, T, N)) (hin : ∀ w ∈ u_ws C T N, w ∈ Ts) (ty0 : Nat → FieldType) (hty : ∀ k, k < N → parseFieldDescriptor (T k).2.2.1 = some (ty0 k)) (hlink : Cond.classLink own ix C ∈ Ts) (hins : Cond.instantiable C N ∈ Ts) (hini : Cond.initialized C ∈ Ts) (hfs : ∀ a, a < N → defaultValue (ty0 a) = vp_V fs a) (hce : k + 1 ≤ R.cells) (hsl : j + N ≤ R.slots) (hd : decode cc pc = .ok (.new ix, 3)) (kk : ∀ q : Nat, Z (k + 1) (j + N) (pc + 3) lv (.ref q :: st) (ws ++ [(q, .inr (ci, fs))])) : Z k j pc lv st ws := by
  obtain ⟨p, e, s, m, args, below, meth, c, A, H0, Qc, hZ, hx, hb, hml, hown, hts, hK, hA, hN, hnm, hret, hlk, hend⟩ := hX
  exact (hZ _ _ _ _ _ _).mpr (fun ls H locs hl hP hD hS => va_new hx hb hts hin ty0 hty hown (hts _ hlink) (hts _ hins) (hts _ hini) hK hP hD hS hA hc hfs hce hsl hd (fun q H1 hP1 hD1 hS1 => (hZ _ _ _ _ _ _).mp (kk q) ls H1 locs hl hP1 hD1 hS1))
theorem z_newi (hX : zX Z l R D cl tys NW cc nL own Ts mc ms ret nm E) {cA : ClassId} {x : Int32} (t0 i : Nat) (ht : tys[t0]? = some (cA, .int)) (harr : Cond.arrayClass .int ∈ Ts) (hx0 : x = nI i) (hi : i ≤ 100000) (hce : k + 1 ≤ R.cells) (hsl : j + i ≤ R.slots) (hd : decode cc pc = .ok (.newarray .int, 2)) (kk : ∀ q : Nat, Z (k + 1) (j + i) (pc + 2) lv (.ref q :: st) (ws ++ [(q, .inl (cA, i, .inl (fun _ => 0)))])) : Z k j pc lv (.int x :: st) ws := by
  obtain ⟨p, e, s, m, args, below, meth, c, A, H0, Qc, hZ, hx, hb, hml, hown, hts, hK, hA, hN, hnm, hret, hlk, hend⟩ := hX
  subst hx0
  refine (hZ _ _ _ _ _ _).mpr (fun ls H locs hl hP hD hS => va_newa (atype := .int) (ty := .int) (a0 := (i, .inl (fun _ => 0))) hx hb (hts _ harr) rfl hK hP hD hS hA (fun _ => rfl) (nI_pos (by omega)) (nI_clamp (by omega)) (by show i * 4 ≤ _; omega) hce hsl hd (fun q cB H1 hK1 hP1 hD1 hS1 => ?_))
  have e1 : s.vm.findClass ("[" ++ FieldType.int.toString) = some cB := (hK1.2 tys.length (cB, .int) (by rw [List.getElem?_append_right (Nat.le_refl _), Nat.sub_self]; rfl)).2
  have e2 : s.vm.findClass ("[" ++ FieldType.int.toString) = some cA := (hK.2 t0 _ ht).2
  rw [e1] at e2
  cases e2
  exact (hZ _ _ _ _ _ _).mp (kk q) ls H1 locs hl hP1 hD1 hS1
theorem z_newz (hX : zX Z l R D cl tys NW cc nL own Ts mc ms ret nm E) {cA : ClassId} {x : Int32} (t0 i : Nat) (ht : tys[t0]? = some (cA, .boolean)) (harr : Cond.arrayClass .boolean ∈ Ts) (hx0 : x = nI i) (hi : i ≤ 100000) (hce : k + 1 ≤ R.cells) (hsl : j + i ≤ R.slots) (hd : decode cc pc = .ok (.newarray .boolean, 2)) (kk : ∀ q : Nat, Z (k + 1) (j + i) (pc + 2) lv (.ref q :: st) (ws ++ [(q, .inl (cA, i, .inl (fun _ => 0)))])) : Z k j pc lv (.int x :: st) ws := by
  obtain ⟨p, e, s, m, args, below, meth, c, A, H0, Qc, hZ, hx, hb, hml, hown, hts, hK, hA, hN, hnm, hret, hlk, hend⟩ := hX
  subst hx0
  refine (hZ _ _ _ _ _ _).mpr (fun ls H locs hl hP hD hS => va_newa (atype := .boolean) (ty := .boolean) (a0 := (i, .inl (fun _ => 0))) hx hb (hts _ harr) rfl hK hP hD hS hA (fun _ => rfl) (nI_pos (by omega)) (nI_clamp (by omega)) (by show i * 1 ≤ _; omega) hce hsl hd (fun q cB H1 hK1 hP1 hD1 hS1 => ?_))
  have e1 : s.vm.findClass ("[" ++ FieldType.boolean.toString) = some cB := (hK1.2 tys.length (cB, .boolean) (by rw [List.getElem?_append_right (Nat.le_refl _), Nat.sub_self]; rfl)).2
  have e2 : s.vm.findClass ("[" ++ FieldType.boolean.toString) = some cA := (hK.2 t0 _ ht).2
  rw [e1] at e2
  cases e2
  exact (hZ _ _ _ _ _ _).mp (kk q) ls H1 locs hl hP1 hD1 hS1
theorem z_dup2 (hX : zX Z l R D cl tys NW cc nL own Ts mc ms ret nm E) {v w : Value} (hd : decode cc pc = .ok (.dup2, 1)) (hv : v.category = 1) (hw : w.category = 1) (kk : Z k j (pc + 1) lv (v :: w :: v :: w :: st) ws) : Z k j pc lv (v :: w :: st) ws := by
  obtain ⟨p, e, s, m, args, below, meth, c, A, H0, Qc, hZ, hx, hb, hml, hown, hts, hK, hA, hN, hnm, hret, hlk, hend⟩ := hX
  exact (hZ _ _ _ _ _ _).mpr (fun ls H locs hl hP hD hS => lv_dup2_11 hx hb hd hv hw ((hZ _ _ _ _ _ _).mp kk ls H locs hl hP hD hS))
theorem z_mmax (hX : zX Z l R D cl tys NW cc nL own Ts mc ms ret nm E) {x z : Int32} (hlink : Cond.methodLink own ix Lib.Math.max.name ∈ Ts) (hsta : Cond.static Lib.Math.max.name ∈ Ts) (hini : Cond.initialized "java/lang/Math" ∈ Ts) (hcode : Cond.code Lib.Math.max.name Lib.Math.max.code 2 (some .int) ∈ Ts) (hfr : 1 ≤ R.frames) (hlo : (st.map fun v => v.category).sum + 13 ≤ R.locals) (hce : k ≤ R.cells) (hsl : j ≤ R.slots) (hd : decode cc pc = .ok (.invokestatic ix, 3)) (kk : Z k j (pc + 3) lv (.int (if x < z then z else x) :: st) ws) : Z k j pc lv (.int z :: .int x :: st) ws := by
  obtain ⟨p, e, s, m, args, below, meth, c, A, H0, Qc, hZ, hx, hb, hml, hown, hts, hK, hA, hN, hnm, hret, hlk, hend⟩ := hX
  exact (hZ _ _ _ _ _ _).mpr (fun ls H locs hl hP hD hS => va_mmax hx hb (by rw [hml]; exact hl.1.symm) hown (hts _ hlink) (hts _ hsta) (hts _ hini) (hts _ hcode) hfr hlo hce hsl hd ((hZ _ _ _ _ _ _).mp kk ls H locs hl hP hD hS))
theorem z_mmin (hX : zX Z l R D cl tys NW cc nL own Ts mc ms ret nm E) {x z : Int32} (hlink : Cond.methodLink own ix Lib.Math.min.name ∈ Ts) (hsta : Cond.static Lib.Math.min.name ∈ Ts) (hini : Cond.initialized "java/lang/Math" ∈ Ts) (hcode : Cond.code Lib.Math.min.name Lib.Math.min.code 2 (some .int) ∈ Ts) (hfr : 1 ≤ R.frames) (hlo : (st.map fun v => v.category).sum + 13 ≤ R.locals) (hce : k ≤ R.cells) (hsl : j ≤ R.slots) (hd : decode cc pc = .ok (.invokestatic ix, 3)) (kk : Z k j (pc + 3) lv (.int (if z < x then z else x) :: st) ws) : Z k j pc lv (.int z :: .int x :: st) ws := by
  obtain ⟨p, e, s, m, args, below, meth, c, A, H0, Qc, hZ, hx, hb, hml, hown, hts, hK, hA, hN, hnm, hret, hlk, hend⟩ := hX
  exact (hZ _ _ _ _ _ _).mpr (fun ls H locs hl hP hD hS => va_mmin hx hb (by rw [hml]; exact hl.1.symm) hown (hts _ hlink) (hts _ hsta) (hts _ hini) (hts _ hcode) hfr hlo hce hsl hd ((hZ _ _ _ _ _ _).mp kk ls H locs hl hP hD hS))
end ZK
