/-! calls over the one list of words: those that only read, those that write in place; sums of numbers -/
def zset : va_W → List Nat → va_W → va_W
  | ws, i :: is, q :: qs => zset (ws.set i q) is qs
  | ws, _, _ => ws
theorem zset_len : ∀ (is : List Nat) (ws qs : va_W), (zset ws is qs).length = ws.length := by
  intro is
  induction is with
  | nil => intro ws qs; cases qs <;> rfl
  | cons i is ih =>
    intro ws qs
    cases qs with
    | nil => rfl
    | cons q qs =>
      show (zset (ws.set i q) is qs).length = _
      rw [ih, List.length_set]
theorem zset_out : ∀ (is : List Nat) (ws qs : va_W) (j : Nat), j ∉ is → (zset ws is qs)[j]? = ws[j]? := by
  intro is
  induction is with
  | nil => intro ws qs j _; cases qs <;> rfl
  | cons i is ih =>
    intro ws qs j hj
    cases qs with
    | nil => rfl
    | cons q qs =>
      show (zset (ws.set i q) is qs)[j]? = _
      rw [ih _ _ _ (fun h => hj (List.mem_cons_of_mem _ h)), List.getElem?_set_ne (fun h => hj (by rw [h]; exact List.mem_cons_self))]
theorem zset_in : ∀ (is : List Nat) (ws qs : va_W), is.length = qs.length → (∀ i ∈ is, i < ws.length) → is.Nodup → is.map (fun i => (zset ws is qs)[i]?) = qs.map some := by
  intro is
  induction is with
  | nil =>
    intro ws qs h _ _
    cases qs with
    | nil => rfl
    | cons q qs => cases h
  | cons i is ih =>
    intro ws qs h hlt hnd
    cases qs with
    | nil => cases h
    | cons q qs =>
      have hnd2 := List.nodup_cons.mp hnd
      show (zset (ws.set i q) is qs)[i]? :: is.map (fun x => (zset (ws.set i q) is qs)[x]?) = some q :: qs.map some
      rw [ih (ws.set i q) qs (by simpa using h) (fun x hx => by rw [List.length_set]; exact hlt x (List.mem_cons_of_mem _ hx)) hnd2.2, zset_out _ _ _ _ hnd2.1, List.getElem?_set_self (hlt i List.mem_cons_self)]
theorem zPut_set {ws wc wn : va_W} {isC : List Nat} (hC : isC.map (fun i => ws[i]?) = wc.map some) (hnd : isC.Nodup) (hl : wn.length = wc.length) : zPut ws isC wn (zset ws isC wn) isC ((List.range ws.length).filter (fun i => !isC.contains i)) ws.length := by
  have hlen : isC.length = wc.length := by
    have := congrArg List.length hC
    simpa using this
  have hlt : ∀ i ∈ isC, i < ws.length := by
    intro i hi
    obtain ⟨a, ha⟩ := List.getElem?_of_mem hi
    have hal : a < wc.length := by rw [← hlen]; exact (List.getElem?_eq_some_iff.mp ha).1
    obtain ⟨q, hq⟩ : ∃ q, wc[a]? = some q := ⟨_, List.getElem?_eq_getElem hal⟩
    obtain ⟨i2, g1, g2⟩ := zC_get hC hq
    rw [ha] at g1
    cases g1
    exact (List.getElem?_eq_some_iff.mp g2).1
  refine ⟨zset_in isC ws wn (by omega) hlt hnd, ?_, zset_len _ _ _, fun i hi => ?_, fun i hi hc => ?_⟩
  · refine List.map_congr_left (fun i hi => ?_)
    have h1 := (List.mem_filter.mp hi).2
    exact zset_out _ _ _ _ (fun hc => by rw [List.contains_iff_mem.mpr hc] at h1; cases h1)
  · by_cases hc : i ∈ isC
    · exact Or.inl hc
    · exact Or.inr (List.mem_filter.mpr ⟨List.mem_range.mpr hi, by
        cases h : isC.contains i with
        | true => exact absurd (List.contains_iff_mem.mp h) hc
        | false => rfl⟩)
  · have h1 := (List.mem_filter.mp hi).2
    rw [List.contains_iff_mem.mpr hc] at h1
    cases h1
theorem zPut_same {ws wc : va_W} {isC : List Nat} (hC : isC.map (fun i => ws[i]?) = wc.map some) : zPut ws isC wc ws isC ((List.range ws.length).filter (fun i => !isC.contains i)) ws.length := by
  refine ⟨hC, rfl, rfl, fun i hi => ?_, fun i hi hc => ?_⟩
  · by_cases hc : i ∈ isC
    · exact Or.inl hc
    · exact Or.inr (List.mem_filter.mpr ⟨List.mem_range.mpr hi, by
        cases h : isC.contains i with
        | true => exact absurd (List.contains_iff_mem.mp h) hc
        | false => rfl⟩)
  · have h1 := (List.mem_filter.mp hi).2
    rw [List.contains_iff_mem.mpr hc] at h1
    cases h1
theorem zu {c0 : Cond} {ws : List Cond} (h : ∀ w ∈ ws, w ∈ zWW) : ∀ w ∈ ws, w ∈ c0 :: zWW := fun w hw => List.mem_cons_of_mem _ (h w hw)
theorem zG {c0 c1 : Cond} (h : c1 ∈ zWW) : GoodIn (c0 :: zWW) (c1 :: zWW) := fun w hw => (List.mem_cons.mp hw).elim (fun e => by rw [e]; exact ⟨List.mem_cons_of_mem _ h, zw_good h⟩) (fun h2 => ⟨List.mem_cons_of_mem _ h2, zw_good h2⟩)
theorem zGV {c0 c1 : Cond} {own C : String} {ix : Nat} {y : MethodName} (m1 : Cond.methodLink own ix y ∈ zWW) (m2 : Cond.instanceMethod y ∈ zWW) (m3 : Cond.selects C y y ∈ zWW) (m4 : Cond.initialized C ∈ zWW) (m5 : c1 ∈ zWW) : GoodIn (c0 :: zWW) (wsV own ix C y (c1 :: zWW)) := by
  intro w hw
  rcases List.mem_append.mp hw with h | h
  · have hz : w ∈ zWW := by
      rcases List.mem_cons.mp h with rfl | h
      · exact m1
      · rcases List.mem_cons.mp h with rfl | h
        · exact m2
        · rcases List.mem_cons.mp h with rfl | h
          · exact m3
          · rcases List.mem_cons.mp h with rfl | h
            · exact m4
            · cases h
    exact ⟨List.mem_cons_of_mem _ hz, zw_good hz⟩
  · exact zG m5 w h
theorem zi_1 (a : Nat) : nI a + Int32.ofInt 1 = nI (a + 1) := nI_1 a
theorem zi_m1 (a : Nat) : nI (a + 1) + Int32.ofInt (-1) = nI a := pk_m1 a
theorem zi_of (a : Nat) : nI a = Int32.ofInt (a : Int) := Int32.ofInt_eq_ofNat.symm
theorem bN_f (b : Bool) : fits .boolean (.int (bN b)) = true := by cases b <;> decide
theorem bN_t : (1 : Int32) = bN true := rfl
theorem bN_ff : (0 : Int32) = bN false := rfl
section ZU
variable {Z : zF} {l : Launch} {R : Room} {D : va_G} {cl : List vw_C} {tys : List (ClassId × FieldType)} {NW : List (String × Nat × MethodName × String)} {cc : ByteArray} {nL : Nat} {own : String} {c0 : Cond} {mc ms : Nat} {ret : Option FieldType} {nm : String} {E : Option Value → va_W → Prop} {k j pc : Nat} {lv : List (Option Value)} {st st0 : List Value} {ws wc : va_W}
variable {y : MethodName} {rm : Room} {n ix : Nat} {bytes : ByteArray} {maxL : Nat} {r : Option FieldType} {As : List Value} {Ey : Option Value → va_W → Prop}
theorem zN_nd : ∀ {is : List Nat}, va_nd is = true → is.Nodup := by
  intro is
  induction is with
  | nil => intro _; exact List.nodup_nil
  | cons i is ih =>
    intro h
    have h : (decide (i ∉ is) && va_nd is) = true := h
    rw [Bool.and_eq_true] at h
    exact List.nodup_cons.mpr ⟨of_decide_eq_true h.1, ih h.2⟩
theorem z_Vr (hX : zX Z l R D cl tys NW cc nL own (c0 :: zWW) mc ms ret nm E) {b ci N : Nat} {fs : List Value} {T : u_T} {C : String} (hM : zM l y (Cond.code y bytes maxL r :: zWW) rm D cl tys NW 0 0 (.ref b :: As) wc Ey) (m1 : Cond.methodLink own ix y ∈ zWW) (m2 : Cond.instanceMethod y ∈ zWW) (m3 : Cond.selects C y y ∈ zWW) (m4 : Cond.initialized C ∈ zWW) (m5 : Cond.code y bytes maxL r ∈ zWW) (hrc : rm.cells = 0) (hrs : rm.slots = 0) (hd0 : y.cls = C ∧ y.cls ≠ "java/lang/invoke/MethodHandle" ∧ y.cls ≠ "java/lang/invoke/VarHandle" ∧ (parseMethodDescriptor y.desc).map (fun d => d.parameters.length) = some n) (hR : rm.frames + 1 ≤ R.frames ∧ 8 + (maxL + 11) + rm.locals ≤ R.locals) (q0 : Nat) (he : ws[q0]? = some (b, .inr (ci, fs))) (hc : cl[ci]? = some (C, T, N)) (hn : As.length = n) (hst : st0 = As.reverse ++ .ref b :: st) (hcat : (st.map fun v => v.category).sum ≤ 8) (hd : decode cc pc = .ok (.invokevirtual ix, 3)) (hf : k ≤ R.cells ∧ j ≤ R.slots) (isC : List Nat) (hC : isC.map (fun i => ws[i]?) = wc.map some) (hnd : va_nd isC = true) (kk : ∀ (v : Option Value) (wn : va_W), Ey v wn → wn = wc ∧ Z k j (pc + 3) lv (v.toList ++ st) ws) : Z k j pc lv st0 ws := by
  exact z_callV hX hM (zGV m1 m2 m3 m4 m5) rfl hrc hrs hd0 hR q0 he hc hn hst hcat hd hf isC hC hnd (fun v wn h => by
    obtain ⟨e1, e2⟩ := kk v wn h
    exact ⟨ws, isC, _, ws.length, by rw [e1]; exact zPut_same hC, e2⟩)
theorem z_Vm (hX : zX Z l R D cl tys NW cc nL own (c0 :: zWW) mc ms ret nm E) {b ci N : Nat} {fs : List Value} {T : u_T} {C : String} (hM : zM l y (Cond.code y bytes maxL r :: zWW) rm D cl tys NW 0 0 (.ref b :: As) wc Ey) (m1 : Cond.methodLink own ix y ∈ zWW) (m2 : Cond.instanceMethod y ∈ zWW) (m3 : Cond.selects C y y ∈ zWW) (m4 : Cond.initialized C ∈ zWW) (m5 : Cond.code y bytes maxL r ∈ zWW) (hrc : rm.cells = 0) (hrs : rm.slots = 0) (hd0 : y.cls = C ∧ y.cls ≠ "java/lang/invoke/MethodHandle" ∧ y.cls ≠ "java/lang/invoke/VarHandle" ∧ (parseMethodDescriptor y.desc).map (fun d => d.parameters.length) = some n) (hR : rm.frames + 1 ≤ R.frames ∧ 8 + (maxL + 11) + rm.locals ≤ R.locals) (q0 : Nat) (he : ws[q0]? = some (b, .inr (ci, fs))) (hc : cl[ci]? = some (C, T, N)) (hn : As.length = n) (hst : st0 = As.reverse ++ .ref b :: st) (hcat : (st.map fun v => v.category).sum ≤ 8) (hd : decode cc pc = .ok (.invokevirtual ix, 3)) (hf : k ≤ R.cells ∧ j ≤ R.slots) (isC : List Nat) (hC : isC.map (fun i => ws[i]?) = wc.map some) (hnd : va_nd isC = true) (kk : ∀ (v : Option Value) (wn : va_W), Ey v wn → wn.length = wc.length ∧ Z k j (pc + 3) lv (v.toList ++ st) (zset ws isC wn)) : Z k j pc lv st0 ws := by
  exact z_callV hX hM (zGV m1 m2 m3 m4 m5) rfl hrc hrs hd0 hR q0 he hc hn hst hcat hd hf isC hC hnd (fun v wn h => by
    obtain ⟨e1, e2⟩ := kk v wn h
    exact ⟨zset ws isC wn, isC, _, ws.length, zPut_set hC (zN_nd hnd) e1, e2⟩)
theorem z_Nr (hX : zX Z l R D cl tys NW cc nL own (c0 :: zWW) mc ms ret nm E) (hM : zM l y (Cond.code y bytes maxL r :: zWW) rm D cl tys NW 0 0 As wc Ey) (host : String) (m5 : Cond.code y bytes maxL r ∈ zWW) (hnw : (own, ix, y, host) ∈ NW) (m4 : Cond.initialized y.cls ∈ zWW) (m2 : Cond.static y ∈ zWW) (hrc : rm.cells = 0) (hrs : rm.slots = 0) (hd0 : y.cls ≠ "java/lang/invoke/MethodHandle" ∧ y.cls ≠ "java/lang/invoke/VarHandle" ∧ (parseMethodDescriptor y.desc).map (fun d => d.parameters.length) = some n) (hR : rm.frames + 1 ≤ R.frames ∧ 8 + (maxL + 11) + rm.locals ≤ R.locals) (hn : As.length = n) (hst : st0 = As.reverse ++ st) (hcat : (st.map fun v => v.category).sum ≤ 8) (hd : decode cc pc = .ok (.invokestatic ix, 3)) (hf : k ≤ R.cells ∧ j ≤ R.slots) (isC : List Nat) (hC : isC.map (fun i => ws[i]?) = wc.map some) (hnd : va_nd isC = true) (kk : ∀ (v : Option Value) (wn : va_W), Ey v wn → wn = wc ∧ Z k j (pc + 3) lv (v.toList ++ st) ws) : Z k j pc lv st0 ws := by
  exact z_callN hX host hM (zG m5) rfl hrc hrs hnw (List.mem_cons_of_mem _ m4) (List.mem_cons_of_mem _ m2) hd0 hR hn hst hcat hd hf isC hC hnd (fun v wn h => by
    obtain ⟨e1, e2⟩ := kk v wn h
    exact ⟨ws, isC, _, ws.length, by rw [e1]; exact zPut_same hC, e2⟩)
theorem z_Nm (hX : zX Z l R D cl tys NW cc nL own (c0 :: zWW) mc ms ret nm E) (hM : zM l y (Cond.code y bytes maxL r :: zWW) rm D cl tys NW 0 0 As wc Ey) (host : String) (m5 : Cond.code y bytes maxL r ∈ zWW) (hnw : (own, ix, y, host) ∈ NW) (m4 : Cond.initialized y.cls ∈ zWW) (m2 : Cond.static y ∈ zWW) (hrc : rm.cells = 0) (hrs : rm.slots = 0) (hd0 : y.cls ≠ "java/lang/invoke/MethodHandle" ∧ y.cls ≠ "java/lang/invoke/VarHandle" ∧ (parseMethodDescriptor y.desc).map (fun d => d.parameters.length) = some n) (hR : rm.frames + 1 ≤ R.frames ∧ 8 + (maxL + 11) + rm.locals ≤ R.locals) (hn : As.length = n) (hst : st0 = As.reverse ++ st) (hcat : (st.map fun v => v.category).sum ≤ 8) (hd : decode cc pc = .ok (.invokestatic ix, 3)) (hf : k ≤ R.cells ∧ j ≤ R.slots) (isC : List Nat) (hC : isC.map (fun i => ws[i]?) = wc.map some) (hnd : va_nd isC = true) (kk : ∀ (v : Option Value) (wn : va_W), Ey v wn → wn.length = wc.length ∧ Z k j (pc + 3) lv (v.toList ++ st) (zset ws isC wn)) : Z k j pc lv st0 ws := by
  exact z_callN hX host hM (zG m5) rfl hrc hrs hnw (List.mem_cons_of_mem _ m4) (List.mem_cons_of_mem _ m2) hd0 hR hn hst hcat hd hf isC hC hnd (fun v wn h => by
    obtain ⟨e1, e2⟩ := kk v wn h
    exact ⟨zset ws isC wn, isC, _, ws.length, zPut_set hC (zN_nd hnd) e1, e2⟩)
theorem z_iaddN (hX : zX Z l R D cl tys NW cc nL own (c0 :: zWW) mc ms ret nm E) {a b : Nat} (hd : decode cc pc = .ok (.iadd, 1)) (kk : Z k j (pc + 1) lv (.int (nI (a + b)) :: st) ws) : Z k j pc lv (.int (nI b) :: .int (nI a) :: st) ws := z_iadd hX hd (by rw [nI_add]; exact kk)
theorem z_isubN (hX : zX Z l R D cl tys NW cc nL own (c0 :: zWW) mc ms ret nm E) {a b : Nat} (h : b ≤ a) (hd : decode cc pc = .ok (.isub, 1)) (kk : Z k j (pc + 1) lv (.int (nI (a - b)) :: st) ws) : Z k j pc lv (.int (nI b) :: .int (nI a) :: st) ws := z_isub hX hd (by rw [pk_sub h]; exact kk)
theorem z_iaddI (hX : zX Z l R D cl tys NW cc nL own (c0 :: zWW) mc ms ret nm E) {x y : Int32} (a b : Int) (hx : x = Int32.ofInt a) (hy : y = Int32.ofInt b) (hd : decode cc pc = .ok (.iadd, 1)) (kk : Z k j (pc + 1) lv (.int (Int32.ofInt (a + b)) :: st) ws) : Z k j pc lv (.int y :: .int x :: st) ws := z_iadd hX hd (by rw [hx, hy, ← Int32.ofInt_add]; exact kk)
theorem z_isubI (hX : zX Z l R D cl tys NW cc nL own (c0 :: zWW) mc ms ret nm E) {x y : Int32} (a b : Int) (hx : x = Int32.ofInt a) (hy : y = Int32.ofInt b) (hd : decode cc pc = .ok (.isub, 1)) (kk : Z k j (pc + 1) lv (.int (Int32.ofInt (a - b)) :: st) ws) : Z k j pc lv (.int y :: .int x :: st) ws := z_isub hX hd (by rw [hx, hy, ← Int32.ofInt_sub]; exact kk)
end ZU
