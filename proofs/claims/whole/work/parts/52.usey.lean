/-! calls that write: the world behind them is given, and held against the old one cell by cell -/
def zKs (ws ws2 : va_W) : List Nat → Prop
  | [] => True
  | i :: is => (∃ c : Nat × va_E, ws2[i]? = some c ∧ ws[i]? = some c) ∧ zKs ws ws2 is
theorem zKs_map {ws ws2 : va_W} : ∀ {is : List Nat}, zKs ws ws2 is → is.map (fun i => ws2[i]?) = is.map (fun i => ws[i]?) := by
  intro is
  induction is with
  | nil => intro _; rfl
  | cons i is ih =>
    intro h
    obtain ⟨⟨c, h1, h2⟩, h3⟩ := h
    rw [List.map_cons, List.map_cons, ih h3, h1, h2]
section ZY
variable {Z : zF} {l : Launch} {R : Room} {D : va_G} {cl : List vw_C} {tys : List (ClassId × FieldType)} {NW : List (String × Nat × MethodName × String)} {cc : ByteArray} {nL : Nat} {own : String} {c0 : Cond} {mc ms : Nat} {ret : Option FieldType} {nm : String} {E : Option Value → va_W → Prop} {k j pc : Nat} {lv : List (Option Value)} {st st0 : List Value} {ws wc : va_W}
variable {y : MethodName} {rm : Room} {n ix : Nat} {bytes : ByteArray} {maxL : Nat} {r : Option FieldType} {As : List Value} {Ey : Option Value → va_W → Prop}
theorem z_Vy (hX : zX Z l R D cl tys NW cc nL own (c0 :: zWW) mc ms ret nm E) {b ci N : Nat} {fs : List Value} {T : u_T} {C : String} (hM : zM l y (Cond.code y bytes maxL r :: zWW) rm D cl tys NW 0 0 (.ref b :: As) wc Ey) (m1 : Cond.methodLink own ix y ∈ zWW) (m2 : Cond.instanceMethod y ∈ zWW) (m3 : Cond.selects C y y ∈ zWW) (m4 : Cond.initialized C ∈ zWW) (m5 : Cond.code y bytes maxL r ∈ zWW) (hrc : rm.cells = 0) (hrs : rm.slots = 0) (hd0 : y.cls = C ∧ y.cls ≠ "java/lang/invoke/MethodHandle" ∧ y.cls ≠ "java/lang/invoke/VarHandle" ∧ (parseMethodDescriptor y.desc).map (fun d => d.parameters.length) = some n) (hR : rm.frames + 1 ≤ R.frames ∧ 8 + (maxL + 11) + rm.locals ≤ R.locals) (q0 : Nat) (he : ws[q0]? = some (b, .inr (ci, fs))) (hc : cl[ci]? = some (C, T, N)) (hn : As.length = n) (hst : st0 = As.reverse ++ .ref b :: st) (hcat : (st.map fun v => v.category).sum ≤ 8) (hd : decode cc pc = .ok (.invokevirtual ix, 3)) (hf : k ≤ R.cells ∧ j ≤ R.slots) (isC : List Nat) (hC : isC.map (fun i => ws[i]?) = wc.map some) (hnd : va_nd isC = true) (isR : List Nat) (L : Nat) (hL : ∀ i, i < L → i ∈ isC ∨ i ∈ isR) (hRC : ∀ i ∈ isR, i ∉ isC) (kk : ∀ (v : Option Value) (wn : va_W), Ey v wn → ∃ ws2 : va_W, isC.map (fun i => ws2[i]?) = wn.map some ∧ zKs ws ws2 isR ∧ ws2.length = L ∧ Z k j (pc + 3) lv (v.toList ++ st) ws2) : Z k j pc lv st0 ws := by
  exact z_callV hX hM (zGV m1 m2 m3 m4 m5) rfl hrc hrs hd0 hR q0 he hc hn hst hcat hd hf isC hC hnd (fun v wn h => by
    obtain ⟨ws2, e1, e2, e3, e4⟩ := kk v wn h
    exact ⟨ws2, isC, isR, L, ⟨e1, zKs_map e2, e3, hL, hRC⟩, e4⟩)
end ZY
