/-! the walk: a family Z of places (cells and slots made so far, pc, locals, stack, world) from which the machine comes to the method's end -/
def zl_from : Nat → List (Option Value) → List (Nat × Value)
  | _, [] => []
  | k, none :: r => zl_from (k + 1) r
  | k, some v :: r => (k, v) :: zl_from (k + 1) r
theorem zl_mem : ∀ (lv : List (Option Value)) (k : Nat) (q : Nat × Value), q ∈ zl_from k lv ↔ ∃ i, q.1 = k + i ∧ lv[i]? = some (some q.2) := by
  intro lv
  induction lv with
  | nil => intro k q; simp [zl_from]
  | cons o r ih =>
    intro k q
    cases o with
    | none =>
      show q ∈ zl_from (k + 1) r ↔ _
      rw [ih]
      constructor
      · rintro ⟨i, h1, h2⟩
        exact ⟨i + 1, by omega, by simpa using h2⟩
      · rintro ⟨i, h1, h2⟩
        cases i with
        | zero => simp at h2
        | succ i => exact ⟨i, by omega, by simpa using h2⟩
    | some v =>
      show q ∈ (k, v) :: zl_from (k + 1) r ↔ _
      rw [List.mem_cons, ih]
      constructor
      · rintro (h | ⟨i, h1, h2⟩)
        · exact ⟨0, by rw [h]; rfl, by rw [h]; rfl⟩
        · exact ⟨i + 1, by omega, by simpa using h2⟩
      · rintro ⟨i, h1, h2⟩
        cases i with
        | zero =>
          left
          have h3 : some (some v) = some (some q.2) := h2
          have h4 : v = q.2 := Option.some.inj (Option.some.inj h3)
          exact Prod.ext h1 h4.symm
        | succ i => exact Or.inr ⟨i, by omega, by simpa using h2⟩
def zl_has (ls : Array Slot) (nL : Nat) (lv : List (Option Value)) : Prop := ls.size = nL ∧ lv_wf ls ∧ ∀ (i : Nat) (v : Value), lv[i]? = some (some v) → v.category = 1 ∧ ls[i]? = some (.val v)
theorem zl_to {ls : Array Slot} {nL : Nat} {lv : List (Option Value)} (h : zl_has ls nL lv) : lv_has ls nL (zl_from 0 lv) := by
  refine ⟨h.1, h.2.1, fun q hq => ?_⟩
  obtain ⟨i, h1, h2⟩ := (zl_mem lv 0 q).mp hq
  rw [show q.1 = i by omega]
  exact (h.2.2 i q.2 h2).2
theorem zl_set {ls ls' : Array Slot} {nL i : Nat} {lv : List (Option Value)} {v : Value} (h0 : zl_has ls nL lv) (hv : v.category = 1) (h : lv_has ls' nL ((i, v) :: (zl_from 0 lv).filter (fun q => !(q.1 == i) && !(q.1 + 1 == i && q.2.category == 2)))) : zl_has ls' nL (lv.set i (some v)) := by
  refine ⟨h.1, h.2.1, fun a w ha => ?_⟩
  rw [List.getElem?_set] at ha
  by_cases hia : i = a
  · rw [if_pos hia] at ha
    by_cases hl : i < lv.length
    · rw [if_pos hl] at ha
      have hw : v = w := Option.some.inj (Option.some.inj ha)
      subst hw
      subst hia
      exact ⟨hv, h.2.2 (i, v) List.mem_cons_self⟩
    · rw [if_neg hl] at ha; cases ha
  · rw [if_neg hia] at ha
    have hc := (h0.2.2 a w ha).1
    refine ⟨hc, h.2.2 (a, w) (List.mem_cons_of_mem _ (List.mem_filter.mpr ⟨(zl_mem lv 0 (a, w)).mpr ⟨a, by show a = 0 + a; omega, ha⟩, ?_⟩))⟩
    have h1 : (a == i) = false := by simp; omega
    have h2 : (w.category == 2) = false := by simp [hc]
    simp only [h1, h2, Bool.and_false, Bool.not_false, Bool.and_self]
theorem zl_get {ls : Array Slot} {nL i : Nat} {lv : List (Option Value)} {v : Value} (h : zl_has ls nL lv) (hv : lv[i]? = some (some v)) : ls[i]? = some (.val v) := (h.2.2 i v hv).2
theorem zl_less {ls : Array Slot} {nL : Nat} {lv lv' : List (Option Value)} (h : zl_has ls nL lv) (hl : ∀ (i : Nat) (v : Value), lv'[i]? = some (some v) → lv[i]? = some (some v)) : zl_has ls nL lv' := ⟨h.1, h.2.1, fun i v hv => h.2.2 i v (hl i v hv)⟩
/-- links to private members of nest mates, which no word list holds -/
def zN (NW : List (String × Nat × MethodName × String)) (U : State) : Prop := ∀ q ∈ NW, va_Nw (.methodLinkNest q.1 q.2.1 q.2.2.1 q.2.2.2) U
theorem zN.warm {NW : List (String × Nat × MethodName × String)} {s U : State} (hW : s.WarmedH U.vm) (h : zN NW s) : zN NW U := fun q hq => va_Nw.warmM hW (h q hq)
theorem zN.calling {NW : List (String × Nat × MethodName × String)} {U : State} {g : JFrame} {mk : MethodId} {a : Array Value} (h : zN NW U) : zN NW (U.calling g mk a) := fun q hq => va_Nw.same (u := U) rfl rfl (h q hq)
abbrev zF : Type := Nat → Nat → Nat → List (Option Value) → List Value → va_W → Prop
/-- a method's contract: called with av over the cells wc it returns; its answer and its cells then have E -/
def zM (l : Launch) (y : MethodName) (wy : List Cond) (rm : Room) (D : va_G) (cl : List vw_C) (tys : List (ClassId × FieldType)) (NW : List (String × Nat × MethodName × String)) (mc ms : Nat) (av : List Value) (wc : va_W) (E : Option Value → va_W → Prop) : Prop := ∀ sz : Nat, Met l y wy rm (va_Pc av (fun U => U.heap.size = sz ∧ va_P D cl wc U.heap ∧ va_K D cl tys U ∧ va_D (fun _ => True) wc ∧ zN NW U)) (fun _ st oc t => (∃ (v : Option Value) (wn : va_W), oc = .returned v ∧ E v wn ∧ va_P D cl wn t.heap ∧ va_K D cl tys t ∧ va_D (va_A wc sz) wn) ∧ va_F (va_A wc sz) st t) mc ms (va_A wc sz)
def zX (Z : zF) (l : Launch) (R : Room) (D : va_G) (cl : List vw_C) (tys : List (ClassId × FieldType)) (NW : List (String × Nat × MethodName × String)) (cc : ByteArray) (nL : Nat) (own : String) (Ts : List Cond) (mc ms : Nat) (ret : Option FieldType) (nm : String) (E : Option Value → va_W → Prop) : Prop :=
  ∃ (p : Program) (e : Env) (s : State) (m : MethodId) (args : Array Value) (below : List Frame) (meth : Method) (c : Code) (A : Nat → Prop) (H0 : Heap) (Qc : Array Value → State → Outcome → State → Prop),
    (∀ k j pc lv st ws, Z k j pc lv st ws ↔ ∀ (ls : Array Slot) (H : Heap) (locs : List Loc), zl_has ls nL lv → va_P D cl ws H → va_D A ws → va_S A H0 H locs → W p l e R s m args below meth c H locs k j (MQ below Qc args s mc ms A) (F0 m pc ls st)) ∧
    p.tables.exec = Jvm.exec ∧ c.code = cc ∧ c.maxLocals = nL ∧ s.vm.findClass own = some m.cls ∧ (∀ w ∈ Ts, w.before args s = true) ∧ va_K D cl tys s ∧ (∀ q, H0.size ≤ q → A q) ∧ zN NW s ∧ meth.name = nm ∧ meth.sig.returnType = ret ∧ meth.locks = false ∧
    (∀ (t : State) (v : Option Value) (ws : va_W) (H : Heap) (locs : List Loc), E v ws → va_P D cl ws H → va_D A ws → va_S A H0 H locs → t.heap = H → s.WarmedH t.vm → Qc args s (.returned v) t)
theorem z_args : ∀ (av : List Value) (k : Nat), (∀ v ∈ av, v.category = 1) → ∀ (i : Nat) (v : Value), av[i]? = some v → (k + i, v) ∈ lv_args k av := by
  intro av
  induction av with
  | nil => intro k _ i v h; simp at h
  | cons a r ih =>
    intro k hc i v h
    have ha : ¬ a.category = 2 := by rw [hc a List.mem_cons_self]; decide
    cases i with
    | zero =>
      have h1 : some a = some v := h
      cases h1
      exact List.mem_cons_self
    | succ i =>
      have h1 := ih (k + 1) (fun w hw => hc w (List.mem_cons_of_mem _ hw)) i v (by simpa using h)
      rw [show k + 1 + i = k + (i + 1) by omega] at h1
      show (k + (i + 1), v) ∈ (k, a) :: lv_args (if a.category = 2 then k + 2 else k + 1) r
      rw [if_neg ha]
      exact List.mem_cons_of_mem _ h1
/-- a contract out of a walk -/
theorem z_met {l : Launch} {y : MethodName} {wy wy' : List Cond} {rm : Room} {D : va_G} {cl : List vw_C} {tys : List (ClassId × FieldType)} {NW : List (String × Nat × MethodName × String)} {mc ms : Nat} {av : List Value} {wc : va_W} {E : Option Value → va_W → Prop} (cc : ByteArray) (nL : Nat) (ret : Option FieldType) (hy : plainName y.cls = true) (hw : wy = Cond.code y cc nL ret :: wy') (hav : (lg_sl av).length ≤ nL) (hcat : ∀ v ∈ av, v.category = 1)
    (body : ∀ Z : zF, zX Z l rm D cl tys NW cc nL y.cls wy mc ms ret y.name E → Z 0 0 0 (av.map some ++ List.replicate (nL - av.length) none) [] wc) : zM l y wy rm D cl tys NW mc ms av wc E := by
  intro sz
  refine Met.ofW (cc := cc) (maxL := nL) (ret := ret) hy hw ?_
  intro p e s m args below meth c s₁ B hml hv
  obtain ⟨rfl, hsz, hP, hK, hD0, hN⟩ := hv
  have hts := atoms_spec (ws := wy) B.pre
  have hown : s.vm.findClass y.cls = some m.cls := findClass_of_methodNamed B.named
  have hin : meth.name = y.name := (name_of_methodNamed B.named B.method).1
  subst hsz
  have hD := hD0.self (sz := s.heap.size)
  have hA : ∀ q : Nat, s.heap.size ≤ q → va_A wc s.heap.size q := fun q h => Or.inr h
  have hl := lv_entry av (n := nL) hav
  rw [lg_entry_eq]
  generalize (lg_sl av ++ List.replicate (nL - (lg_sl av).length) Slot.unset).toArray = ls at hl ⊢
  have hb := body (fun k j pc lv st ws => ∀ (ls : Array Slot) (H : Heap) (locs : List Loc), zl_has ls nL lv → va_P D cl ws H → va_D (va_A wc s.heap.size) ws → va_S (va_A wc s.heap.size) s.heap H locs → W p l e (headSpec wy rm).room s m av.toArray below meth c H locs k j (MQ below (fun _ st oc t => (∃ (v : Option Value) (wn : va_W), oc = .returned v ∧ E v wn ∧ va_P D cl wn t.heap ∧ va_K D cl tys t ∧ va_D (va_A wc s.heap.size) wn) ∧ va_F (va_A wc s.heap.size) st t) av.toArray s mc ms (va_A wc s.heap.size)) (F0 m pc ls st))
    ⟨p, e, s, m, av.toArray, below, meth, c, va_A wc s.heap.size, s.heap, _, fun _ _ _ _ _ _ => Iff.rfl, B.exec, B.bytes, hml, hown, hts, hK, hA, hN, hin, B.returns, B.notSynchronized, fun t v ws H locs hE hP1 hD1 hS1 ht hW => ⟨⟨v, ws, rfl, hE, by rw [ht]; exact hP1, va_K.moved hW.alike hK, hD1⟩, hS1.F ht⟩⟩
  refine hb ls s.heap [] ?_ hP hD va_S.rf
  refine ⟨hl.1, hl.2.1, fun i v hi => ?_⟩
  have hiv : av[i]? = some v := by
    by_cases hlt : i < av.length
    · rw [List.getElem?_append_left (by rw [List.length_map]; exact hlt), List.getElem?_map] at hi
      cases ha : av[i]? with
      | none => rw [ha] at hi; cases hi
      | some x =>
        rw [ha] at hi
        have h9 : some (some x) = some (some v) := hi
        rw [Option.some.inj h9]
    · rw [List.getElem?_append_right (by rw [List.length_map]; omega), List.getElem?_replicate] at hi
      split at hi
      · cases hi
      · cases hi
  refine ⟨hcat v (List.mem_of_getElem? hiv), ?_⟩
  have h8 := z_args av 0 hcat i v hiv
  rw [Nat.zero_add] at h8
  exact hl.2.2 (i, v) h8

section ZR
variable {Z : zF} {l : Launch} {R : Room} {D : va_G} {cl : List vw_C} {tys : List (ClassId × FieldType)} {NW : List (String × Nat × MethodName × String)} {cc : ByteArray} {nL : Nat} {own : String} {Ts : List Cond} {mc ms : Nat} {ret : Option FieldType} {nm : String} {E : Option Value → va_W → Prop} {k j pc : Nat} {lv : List (Option Value)} {st : List Value} {ws : va_W}
theorem z_iadd (hX : zX Z l R D cl tys NW cc nL own Ts mc ms ret nm E) {x y : Int32} (hd : decode cc pc = .ok (.iadd, 1))  (kk : Z k j (pc + 1) lv (.int (x + y) :: st) ws) : Z k j pc lv (.int y :: .int x :: st) ws := by
  obtain ⟨p, e, s, m, args, below, meth, c, A, H0, Qc, hZ, hx, hb, hml, hown, hts, hK, hA, hN, hnm, hret, hlk, hend⟩ := hX
  exact (hZ _ _ _ _ _ _).mpr (fun ls H locs hl hP hD hS => lv_iadd hx hb hd  ((hZ _ _ _ _ _ _).mp kk ls H locs hl hP hD hS))
theorem z_isub (hX : zX Z l R D cl tys NW cc nL own Ts mc ms ret nm E) {x y : Int32} (hd : decode cc pc = .ok (.isub, 1))  (kk : Z k j (pc + 1) lv (.int (x - y) :: st) ws) : Z k j pc lv (.int y :: .int x :: st) ws := by
  obtain ⟨p, e, s, m, args, below, meth, c, A, H0, Qc, hZ, hx, hb, hml, hown, hts, hK, hA, hN, hnm, hret, hlk, hend⟩ := hX
  exact (hZ _ _ _ _ _ _).mpr (fun ls H locs hl hP hD hS => lv_isub hx hb hd  ((hZ _ _ _ _ _ _).mp kk ls H locs hl hP hD hS))
theorem z_imul (hX : zX Z l R D cl tys NW cc nL own Ts mc ms ret nm E) {x y : Int32} (hd : decode cc pc = .ok (.imul, 1))  (kk : Z k j (pc + 1) lv (.int (x * y) :: st) ws) : Z k j pc lv (.int y :: .int x :: st) ws := by
  obtain ⟨p, e, s, m, args, below, meth, c, A, H0, Qc, hZ, hx, hb, hml, hown, hts, hK, hA, hN, hnm, hret, hlk, hend⟩ := hX
  exact (hZ _ _ _ _ _ _).mpr (fun ls H locs hl hP hD hS => lv_imul hx hb hd  ((hZ _ _ _ _ _ _).mp kk ls H locs hl hP hD hS))
theorem z_iand (hX : zX Z l R D cl tys NW cc nL own Ts mc ms ret nm E) {x y : Int32} (hd : decode cc pc = .ok (.iand, 1))  (kk : Z k j (pc + 1) lv (.int (x &&& y) :: st) ws) : Z k j pc lv (.int y :: .int x :: st) ws := by
  obtain ⟨p, e, s, m, args, below, meth, c, A, H0, Qc, hZ, hx, hb, hml, hown, hts, hK, hA, hN, hnm, hret, hlk, hend⟩ := hX
  exact (hZ _ _ _ _ _ _).mpr (fun ls H locs hl hP hD hS => lv_iand hx hb hd  ((hZ _ _ _ _ _ _).mp kk ls H locs hl hP hD hS))
theorem z_ior (hX : zX Z l R D cl tys NW cc nL own Ts mc ms ret nm E) {x y : Int32} (hd : decode cc pc = .ok (.ior, 1))  (kk : Z k j (pc + 1) lv (.int (x ||| y) :: st) ws) : Z k j pc lv (.int y :: .int x :: st) ws := by
  obtain ⟨p, e, s, m, args, below, meth, c, A, H0, Qc, hZ, hx, hb, hml, hown, hts, hK, hA, hN, hnm, hret, hlk, hend⟩ := hX
  exact (hZ _ _ _ _ _ _).mpr (fun ls H locs hl hP hD hS => lv_ior hx hb hd  ((hZ _ _ _ _ _ _).mp kk ls H locs hl hP hD hS))
theorem z_ixor (hX : zX Z l R D cl tys NW cc nL own Ts mc ms ret nm E) {x y : Int32} (hd : decode cc pc = .ok (.ixor, 1))  (kk : Z k j (pc + 1) lv (.int (x ^^^ y) :: st) ws) : Z k j pc lv (.int y :: .int x :: st) ws := by
  obtain ⟨p, e, s, m, args, below, meth, c, A, H0, Qc, hZ, hx, hb, hml, hown, hts, hK, hA, hN, hnm, hret, hlk, hend⟩ := hX
  exact (hZ _ _ _ _ _ _).mpr (fun ls H locs hl hP hD hS => lv_ixor hx hb hd  ((hZ _ _ _ _ _ _).mp kk ls H locs hl hP hD hS))
theorem z_ishl (hX : zX Z l R D cl tys NW cc nL own Ts mc ms ret nm E) {x y : Int32} (hd : decode cc pc = .ok (.ishl, 1))  (kk : Z k j (pc + 1) lv (.int (x <<< (y &&& 31)) :: st) ws) : Z k j pc lv (.int y :: .int x :: st) ws := by
  obtain ⟨p, e, s, m, args, below, meth, c, A, H0, Qc, hZ, hx, hb, hml, hown, hts, hK, hA, hN, hnm, hret, hlk, hend⟩ := hX
  exact (hZ _ _ _ _ _ _).mpr (fun ls H locs hl hP hD hS => lv_ishl hx hb hd  ((hZ _ _ _ _ _ _).mp kk ls H locs hl hP hD hS))
theorem z_ishr (hX : zX Z l R D cl tys NW cc nL own Ts mc ms ret nm E) {x y : Int32} (hd : decode cc pc = .ok (.ishr, 1))  (kk : Z k j (pc + 1) lv (.int (x >>> (y &&& 31)) :: st) ws) : Z k j pc lv (.int y :: .int x :: st) ws := by
  obtain ⟨p, e, s, m, args, below, meth, c, A, H0, Qc, hZ, hx, hb, hml, hown, hts, hK, hA, hN, hnm, hret, hlk, hend⟩ := hX
  exact (hZ _ _ _ _ _ _).mpr (fun ls H locs hl hP hD hS => lv_ishr hx hb hd  ((hZ _ _ _ _ _ _).mp kk ls H locs hl hP hD hS))
theorem z_irem (hX : zX Z l R D cl tys NW cc nL own Ts mc ms ret nm E) {x y : Int32} (hd : decode cc pc = .ok (.irem, 1)) (hne : ¬ y = 0) (kk : Z k j (pc + 1) lv (.int (x - x / y * y) :: st) ws) : Z k j pc lv (.int y :: .int x :: st) ws := by
  obtain ⟨p, e, s, m, args, below, meth, c, A, H0, Qc, hZ, hx, hb, hml, hown, hts, hK, hA, hN, hnm, hret, hlk, hend⟩ := hX
  exact (hZ _ _ _ _ _ _).mpr (fun ls H locs hl hP hD hS => lv_irem hx hb hd hne ((hZ _ _ _ _ _ _).mp kk ls H locs hl hP hD hS))
theorem z_iushr (hX : zX Z l R D cl tys NW cc nL own Ts mc ms ret nm E) {x y : Int32} (hd : decode cc pc = .ok (.iushr, 1)) {v : Int32} (hv : (x.toUInt32 >>> (y.toUInt32 &&& Int32.toUInt32 31)).toInt32 = v) (kk : Z k j (pc + 1) lv (.int v :: st) ws) : Z k j pc lv (.int y :: .int x :: st) ws := by
  obtain ⟨p, e, s, m, args, below, meth, c, A, H0, Qc, hZ, hx, hb, hml, hown, hts, hK, hA, hN, hnm, hret, hlk, hend⟩ := hX
  exact (hZ _ _ _ _ _ _).mpr (fun ls H locs hl hP hD hS => lv_iushr hx hb hd hv ((hZ _ _ _ _ _ _).mp kk ls H locs hl hP hD hS))
theorem z_ineg (hX : zX Z l R D cl tys NW cc nL own Ts mc ms ret nm E) {x : Int32} (hd : decode cc pc = .ok (.ineg, 1)) (kk : Z k j (pc + 1) lv (.int (-x) :: st) ws) : Z k j pc lv (.int x :: st) ws := by
  obtain ⟨p, e, s, m, args, below, meth, c, A, H0, Qc, hZ, hx, hb, hml, hown, hts, hK, hA, hN, hnm, hret, hlk, hend⟩ := hX
  exact (hZ _ _ _ _ _ _).mpr (fun ls H locs hl hP hD hS => lv_ineg hx hb hd ((hZ _ _ _ _ _ _).mp kk ls H locs hl hP hD hS))
theorem z_iconst (hX : zX Z l R D cl tys NW cc nL own Ts mc ms ret nm E) {n : Int} (v : Int32) (hd : decode cc pc = .ok (.iconst n, 1)) (hv : Int32.ofInt n = v) (kk : Z k j (pc + 1) lv (.int v :: st) ws) : Z k j pc lv st ws := by
  obtain ⟨p, e, s, m, args, below, meth, c, A, H0, Qc, hZ, hx, hb, hml, hown, hts, hK, hA, hN, hnm, hret, hlk, hend⟩ := hX
  exact (hZ _ _ _ _ _ _).mpr (fun ls H locs hl hP hD hS => lv_iconst hx hb hd hv ((hZ _ _ _ _ _ _).mp kk ls H locs hl hP hD hS))
theorem z_bipush (hX : zX Z l R D cl tys NW cc nL own Ts mc ms ret nm E) {n : Int} (v : Int32) (hd : decode cc pc = .ok (.bipush n, 2)) (hv : (Int8.ofInt n).toInt32 = v) (kk : Z k j (pc + 2) lv (.int v :: st) ws) : Z k j pc lv st ws := by
  obtain ⟨p, e, s, m, args, below, meth, c, A, H0, Qc, hZ, hx, hb, hml, hown, hts, hK, hA, hN, hnm, hret, hlk, hend⟩ := hX
  exact (hZ _ _ _ _ _ _).mpr (fun ls H locs hl hP hD hS => lv_bipush hx hb hd hv ((hZ _ _ _ _ _ _).mp kk ls H locs hl hP hD hS))
theorem z_sipush (hX : zX Z l R D cl tys NW cc nL own Ts mc ms ret nm E) {n : Int} (v : Int32) (hd : decode cc pc = .ok (.sipush n, 3)) (hv : (Int16.ofInt n).toInt32 = v) (kk : Z k j (pc + 3) lv (.int v :: st) ws) : Z k j pc lv st ws := by
  obtain ⟨p, e, s, m, args, below, meth, c, A, H0, Qc, hZ, hx, hb, hml, hown, hts, hK, hA, hN, hnm, hret, hlk, hend⟩ := hX
  exact (hZ _ _ _ _ _ _).mpr (fun ls H locs hl hP hD hS => lv_sipush hx hb hd hv ((hZ _ _ _ _ _ _).mp kk ls H locs hl hP hD hS))
theorem z_ldc (hX : zX Z l R D cl tys NW cc nL own Ts mc ms ret nm E) {ix : Nat} (v : Int32) (hc : Cond.constant own ix v ∈ Ts) (hd : decode cc pc = .ok (.ldc ix, 2)) (kk : Z k j (pc + 2) lv (.int v :: st) ws) : Z k j pc lv st ws := by
  obtain ⟨p, e, s, m, args, below, meth, c, A, H0, Qc, hZ, hx, hb, hml, hown, hts, hK, hA, hN, hnm, hret, hlk, hend⟩ := hX
  exact (hZ _ _ _ _ _ _).mpr (fun ls H locs hl hP hD hS => lv_ldc hx hb hown (hts _ hc) hd ((hZ _ _ _ _ _ _).mp kk ls H locs hl hP hD hS))
theorem z_dup (hX : zX Z l R D cl tys NW cc nL own Ts mc ms ret nm E) {v : Value} (hd : decode cc pc = .ok (.dup, 1)) (hv : v.category = 1) (kk : Z k j (pc + 1) lv (v :: v :: st) ws) : Z k j pc lv (v :: st) ws := by
  obtain ⟨p, e, s, m, args, below, meth, c, A, H0, Qc, hZ, hx, hb, hml, hown, hts, hK, hA, hN, hnm, hret, hlk, hend⟩ := hX
  exact (hZ _ _ _ _ _ _).mpr (fun ls H locs hl hP hD hS => lv_dup hx hb hd hv ((hZ _ _ _ _ _ _).mp kk ls H locs hl hP hD hS))
theorem z_pop (hX : zX Z l R D cl tys NW cc nL own Ts mc ms ret nm E) {v : Value} (hd : decode cc pc = .ok (.pop, 1)) (hv : v.category = 1) (kk : Z k j (pc + 1) lv st ws) : Z k j pc lv (v :: st) ws := by
  obtain ⟨p, e, s, m, args, below, meth, c, A, H0, Qc, hZ, hx, hb, hml, hown, hts, hK, hA, hN, hnm, hret, hlk, hend⟩ := hX
  exact (hZ _ _ _ _ _ _).mpr (fun ls H locs hl hP hD hS => lv_pop hx hb hd hv ((hZ _ _ _ _ _ _).mp kk ls H locs hl hP hD hS))
theorem z_iload_n (hX : zX Z l R D cl tys NW cc nL own Ts mc ms ret nm E) {q : Fin 4} (i : Nat) {x : Int32} (hd : decode cc pc = .ok (.iload_n q, 1)) (hi : (q : Nat) = i) (hv : lv[i]? = some (some (.int x))) (kk : Z k j (pc + 1) lv (.int x :: st) ws) : Z k j pc lv st ws := by
  obtain ⟨p, e, s, m, args, below, meth, c, A, H0, Qc, hZ, hx, hb, hml, hown, hts, hK, hA, hN, hnm, hret, hlk, hend⟩ := hX
  exact (hZ _ _ _ _ _ _).mpr (fun ls H locs hl hP hD hS => lv_iload_n hx hb hd hi (zl_get hl hv) ((hZ _ _ _ _ _ _).mp kk ls H locs hl hP hD hS))
theorem z_iload (hX : zX Z l R D cl tys NW cc nL own Ts mc ms ret nm E) (i : Nat) {x : Int32} (hd : decode cc pc = .ok (.iload i, 2)) (hv : lv[i]? = some (some (.int x))) (kk : Z k j (pc + 2) lv (.int x :: st) ws) : Z k j pc lv st ws := by
  obtain ⟨p, e, s, m, args, below, meth, c, A, H0, Qc, hZ, hx, hb, hml, hown, hts, hK, hA, hN, hnm, hret, hlk, hend⟩ := hX
  exact (hZ _ _ _ _ _ _).mpr (fun ls H locs hl hP hD hS => lv_iload hx hb hd (zl_get hl hv) ((hZ _ _ _ _ _ _).mp kk ls H locs hl hP hD hS))
theorem z_istore_n (hX : zX Z l R D cl tys NW cc nL own Ts mc ms ret nm E) {q : Fin 4} (i : Nat) {x : Int32} (hd : decode cc pc = .ok (.istore_n q, 1)) (hi : (q : Nat) = i) (hn : i < nL) (kk : Z k j (pc + 1) (lv.set i (some (.int x))) st ws) : Z k j pc lv (.int x :: st) ws := by
  obtain ⟨p, e, s, m, args, below, meth, c, A, H0, Qc, hZ, hx, hb, hml, hown, hts, hK, hA, hN, hnm, hret, hlk, hend⟩ := hX
  exact (hZ _ _ _ _ _ _).mpr (fun ls H locs hl hP hD hS => lv_istore_n hx hb hd hi (zl_to hl) hn rfl (fun ls1 hl1 => (hZ _ _ _ _ _ _).mp kk ls1 H locs (zl_set hl rfl hl1) hP hD hS))
theorem z_istore (hX : zX Z l R D cl tys NW cc nL own Ts mc ms ret nm E) (i : Nat) {x : Int32} (hd : decode cc pc = .ok (.istore i, 2)) (hn : i < nL) (kk : Z k j (pc + 2) (lv.set i (some (.int x))) st ws) : Z k j pc lv (.int x :: st) ws := by
  obtain ⟨p, e, s, m, args, below, meth, c, A, H0, Qc, hZ, hx, hb, hml, hown, hts, hK, hA, hN, hnm, hret, hlk, hend⟩ := hX
  exact (hZ _ _ _ _ _ _).mpr (fun ls H locs hl hP hD hS => lv_istore hx hb hd (zl_to hl) hn rfl (fun ls1 hl1 => (hZ _ _ _ _ _ _).mp kk ls1 H locs (zl_set hl rfl hl1) hP hD hS))
theorem z_aload_n (hX : zX Z l R D cl tys NW cc nL own Ts mc ms ret nm E) {q : Fin 4} (i : Nat) {x : Nat} (hd : decode cc pc = .ok (.aload_n q, 1)) (hi : (q : Nat) = i) (hv : lv[i]? = some (some (.ref x))) (kk : Z k j (pc + 1) lv (.ref x :: st) ws) : Z k j pc lv st ws := by
  obtain ⟨p, e, s, m, args, below, meth, c, A, H0, Qc, hZ, hx, hb, hml, hown, hts, hK, hA, hN, hnm, hret, hlk, hend⟩ := hX
  exact (hZ _ _ _ _ _ _).mpr (fun ls H locs hl hP hD hS => lv_aload_n hx hb hd hi (zl_get hl hv) ((hZ _ _ _ _ _ _).mp kk ls H locs hl hP hD hS))
theorem z_aload (hX : zX Z l R D cl tys NW cc nL own Ts mc ms ret nm E) (i : Nat) {x : Nat} (hd : decode cc pc = .ok (.aload i, 2)) (hv : lv[i]? = some (some (.ref x))) (kk : Z k j (pc + 2) lv (.ref x :: st) ws) : Z k j pc lv st ws := by
  obtain ⟨p, e, s, m, args, below, meth, c, A, H0, Qc, hZ, hx, hb, hml, hown, hts, hK, hA, hN, hnm, hret, hlk, hend⟩ := hX
  exact (hZ _ _ _ _ _ _).mpr (fun ls H locs hl hP hD hS => lv_aload hx hb hd (zl_get hl hv) ((hZ _ _ _ _ _ _).mp kk ls H locs hl hP hD hS))
theorem z_astore_n (hX : zX Z l R D cl tys NW cc nL own Ts mc ms ret nm E) {q : Fin 4} (i : Nat) {x : Nat} (hd : decode cc pc = .ok (.astore_n q, 1)) (hi : (q : Nat) = i) (hn : i < nL) (kk : Z k j (pc + 1) (lv.set i (some (.ref x))) st ws) : Z k j pc lv (.ref x :: st) ws := by
  obtain ⟨p, e, s, m, args, below, meth, c, A, H0, Qc, hZ, hx, hb, hml, hown, hts, hK, hA, hN, hnm, hret, hlk, hend⟩ := hX
  exact (hZ _ _ _ _ _ _).mpr (fun ls H locs hl hP hD hS => lv_astore_n hx hb hd hi (zl_to hl) hn rfl (fun ls1 hl1 => (hZ _ _ _ _ _ _).mp kk ls1 H locs (zl_set hl rfl hl1) hP hD hS))
theorem z_astore (hX : zX Z l R D cl tys NW cc nL own Ts mc ms ret nm E) (i : Nat) {x : Nat} (hd : decode cc pc = .ok (.astore i, 2)) (hn : i < nL) (kk : Z k j (pc + 2) (lv.set i (some (.ref x))) st ws) : Z k j pc lv (.ref x :: st) ws := by
  obtain ⟨p, e, s, m, args, below, meth, c, A, H0, Qc, hZ, hx, hb, hml, hown, hts, hK, hA, hN, hnm, hret, hlk, hend⟩ := hX
  exact (hZ _ _ _ _ _ _).mpr (fun ls H locs hl hP hD hS => lv_astore hx hb hd (zl_to hl) hn rfl (fun ls1 hl1 => (hZ _ _ _ _ _ _).mp kk ls1 H locs (zl_set hl rfl hl1) hP hD hS))
theorem z_iinc (hX : zX Z l R D cl tys NW cc nL own Ts mc ms ret nm E) (i : Nat) {n : Int} {x v : Int32} (hd : decode cc pc = .ok (.iinc i n, 3)) (hv : lv[i]? = some (some (.int x))) (he : x + Int32.ofInt n = v) (hn : i < nL) (kk : Z k j (pc + 3) (lv.set i (some (.int v))) st ws) : Z k j pc lv st ws := by
  obtain ⟨p, e, s, m, args, below, meth, c, A, H0, Qc, hZ, hx, hb, hml, hown, hts, hK, hA, hN, hnm, hret, hlk, hend⟩ := hX
  refine (hZ _ _ _ _ _ _).mpr (fun ls H locs hl hP hD hS => ?_)
  obtain ⟨k0, hk0⟩ := List.getElem?_of_mem ((zl_mem lv 0 (i, .int x)).mpr ⟨i, by show i = 0 + i; omega, hv⟩)
  exact lv_iinc hx hb hd (zl_to hl) hk0 he hn rfl (fun ls1 hl1 => (hZ _ _ _ _ _ _).mp kk ls1 H locs (zl_set hl rfl hl1) hP hD hS)
theorem z_if_eq (hX : zX Z l R D cl tys NW cc nL own Ts mc ms ret nm E) {x : Int32} {off : Int} (tgt : Nat) (hd : decode cc pc = .ok (.ifCond .eq off, 3)) (ht : (pc : Int) + off = (tgt : Int)) (kt : x = 0 → Z k j tgt lv st ws) (kf : ¬ x = 0 → Z k j (pc + 3) lv st ws) : Z k j pc lv (.int x :: st) ws := by
  obtain ⟨p, e, s, m, args, below, meth, c, A, H0, Qc, hZ, hx, hb, hml, hown, hts, hK, hA, hN, hnm, hret, hlk, hend⟩ := hX
  exact (hZ _ _ _ _ _ _).mpr (fun ls H locs hl hP hD hS => lv_if_eq hx hb hd ht (fun h => (hZ _ _ _ _ _ _).mp (kt h) ls H locs hl hP hD hS) (fun h => (hZ _ _ _ _ _ _).mp (kf h) ls H locs hl hP hD hS))
theorem z_if_ne (hX : zX Z l R D cl tys NW cc nL own Ts mc ms ret nm E) {x : Int32} {off : Int} (tgt : Nat) (hd : decode cc pc = .ok (.ifCond .ne off, 3)) (ht : (pc : Int) + off = (tgt : Int)) (kt : ¬ x = 0 → Z k j tgt lv st ws) (kf : x = 0 → Z k j (pc + 3) lv st ws) : Z k j pc lv (.int x :: st) ws := by
  obtain ⟨p, e, s, m, args, below, meth, c, A, H0, Qc, hZ, hx, hb, hml, hown, hts, hK, hA, hN, hnm, hret, hlk, hend⟩ := hX
  exact (hZ _ _ _ _ _ _).mpr (fun ls H locs hl hP hD hS => lv_if_ne hx hb hd ht (fun h => (hZ _ _ _ _ _ _).mp (kt h) ls H locs hl hP hD hS) (fun h => (hZ _ _ _ _ _ _).mp (kf h) ls H locs hl hP hD hS))
theorem z_if_lt (hX : zX Z l R D cl tys NW cc nL own Ts mc ms ret nm E) {x : Int32} {off : Int} (tgt : Nat) (hd : decode cc pc = .ok (.ifCond .lt off, 3)) (ht : (pc : Int) + off = (tgt : Int)) (kt : x < 0 → Z k j tgt lv st ws) (kf : ¬ x < 0 → Z k j (pc + 3) lv st ws) : Z k j pc lv (.int x :: st) ws := by
  obtain ⟨p, e, s, m, args, below, meth, c, A, H0, Qc, hZ, hx, hb, hml, hown, hts, hK, hA, hN, hnm, hret, hlk, hend⟩ := hX
  exact (hZ _ _ _ _ _ _).mpr (fun ls H locs hl hP hD hS => lv_if_lt hx hb hd ht (fun h => (hZ _ _ _ _ _ _).mp (kt h) ls H locs hl hP hD hS) (fun h => (hZ _ _ _ _ _ _).mp (kf h) ls H locs hl hP hD hS))
theorem z_if_ge (hX : zX Z l R D cl tys NW cc nL own Ts mc ms ret nm E) {x : Int32} {off : Int} (tgt : Nat) (hd : decode cc pc = .ok (.ifCond .ge off, 3)) (ht : (pc : Int) + off = (tgt : Int)) (kt : 0 ≤ x → Z k j tgt lv st ws) (kf : ¬ 0 ≤ x → Z k j (pc + 3) lv st ws) : Z k j pc lv (.int x :: st) ws := by
  obtain ⟨p, e, s, m, args, below, meth, c, A, H0, Qc, hZ, hx, hb, hml, hown, hts, hK, hA, hN, hnm, hret, hlk, hend⟩ := hX
  exact (hZ _ _ _ _ _ _).mpr (fun ls H locs hl hP hD hS => lv_if_ge hx hb hd ht (fun h => (hZ _ _ _ _ _ _).mp (kt h) ls H locs hl hP hD hS) (fun h => (hZ _ _ _ _ _ _).mp (kf h) ls H locs hl hP hD hS))
theorem z_if_gt (hX : zX Z l R D cl tys NW cc nL own Ts mc ms ret nm E) {x : Int32} {off : Int} (tgt : Nat) (hd : decode cc pc = .ok (.ifCond .gt off, 3)) (ht : (pc : Int) + off = (tgt : Int)) (kt : 0 < x → Z k j tgt lv st ws) (kf : ¬ 0 < x → Z k j (pc + 3) lv st ws) : Z k j pc lv (.int x :: st) ws := by
  obtain ⟨p, e, s, m, args, below, meth, c, A, H0, Qc, hZ, hx, hb, hml, hown, hts, hK, hA, hN, hnm, hret, hlk, hend⟩ := hX
  exact (hZ _ _ _ _ _ _).mpr (fun ls H locs hl hP hD hS => lv_if_gt hx hb hd ht (fun h => (hZ _ _ _ _ _ _).mp (kt h) ls H locs hl hP hD hS) (fun h => (hZ _ _ _ _ _ _).mp (kf h) ls H locs hl hP hD hS))
theorem z_if_le (hX : zX Z l R D cl tys NW cc nL own Ts mc ms ret nm E) {x : Int32} {off : Int} (tgt : Nat) (hd : decode cc pc = .ok (.ifCond .le off, 3)) (ht : (pc : Int) + off = (tgt : Int)) (kt : x ≤ 0 → Z k j tgt lv st ws) (kf : ¬ x ≤ 0 → Z k j (pc + 3) lv st ws) : Z k j pc lv (.int x :: st) ws := by
  obtain ⟨p, e, s, m, args, below, meth, c, A, H0, Qc, hZ, hx, hb, hml, hown, hts, hK, hA, hN, hnm, hret, hlk, hend⟩ := hX
  exact (hZ _ _ _ _ _ _).mpr (fun ls H locs hl hP hD hS => lv_if_le hx hb hd ht (fun h => (hZ _ _ _ _ _ _).mp (kt h) ls H locs hl hP hD hS) (fun h => (hZ _ _ _ _ _ _).mp (kf h) ls H locs hl hP hD hS))
theorem z_icmp_eq (hX : zX Z l R D cl tys NW cc nL own Ts mc ms ret nm E) {x y : Int32} {off : Int} (tgt : Nat) (hd : decode cc pc = .ok (.if_icmp .eq off, 3)) (ht : (pc : Int) + off = (tgt : Int)) (kt : x = y → Z k j tgt lv st ws) (kf : ¬ x = y → Z k j (pc + 3) lv st ws) : Z k j pc lv (.int y :: .int x :: st) ws := by
  obtain ⟨p, e, s, m, args, below, meth, c, A, H0, Qc, hZ, hx, hb, hml, hown, hts, hK, hA, hN, hnm, hret, hlk, hend⟩ := hX
  exact (hZ _ _ _ _ _ _).mpr (fun ls H locs hl hP hD hS => lv_icmp_eq hx hb hd ht (fun h => (hZ _ _ _ _ _ _).mp (kt h) ls H locs hl hP hD hS) (fun h => (hZ _ _ _ _ _ _).mp (kf h) ls H locs hl hP hD hS))
theorem z_icmp_ne (hX : zX Z l R D cl tys NW cc nL own Ts mc ms ret nm E) {x y : Int32} {off : Int} (tgt : Nat) (hd : decode cc pc = .ok (.if_icmp .ne off, 3)) (ht : (pc : Int) + off = (tgt : Int)) (kt : ¬ x = y → Z k j tgt lv st ws) (kf : x = y → Z k j (pc + 3) lv st ws) : Z k j pc lv (.int y :: .int x :: st) ws := by
  obtain ⟨p, e, s, m, args, below, meth, c, A, H0, Qc, hZ, hx, hb, hml, hown, hts, hK, hA, hN, hnm, hret, hlk, hend⟩ := hX
  exact (hZ _ _ _ _ _ _).mpr (fun ls H locs hl hP hD hS => lv_icmp_ne hx hb hd ht (fun h => (hZ _ _ _ _ _ _).mp (kt h) ls H locs hl hP hD hS) (fun h => (hZ _ _ _ _ _ _).mp (kf h) ls H locs hl hP hD hS))
theorem z_icmp_lt (hX : zX Z l R D cl tys NW cc nL own Ts mc ms ret nm E) {x y : Int32} {off : Int} (tgt : Nat) (hd : decode cc pc = .ok (.if_icmp .lt off, 3)) (ht : (pc : Int) + off = (tgt : Int)) (kt : x < y → Z k j tgt lv st ws) (kf : ¬ x < y → Z k j (pc + 3) lv st ws) : Z k j pc lv (.int y :: .int x :: st) ws := by
  obtain ⟨p, e, s, m, args, below, meth, c, A, H0, Qc, hZ, hx, hb, hml, hown, hts, hK, hA, hN, hnm, hret, hlk, hend⟩ := hX
  exact (hZ _ _ _ _ _ _).mpr (fun ls H locs hl hP hD hS => lv_icmp_lt hx hb hd ht (fun h => (hZ _ _ _ _ _ _).mp (kt h) ls H locs hl hP hD hS) (fun h => (hZ _ _ _ _ _ _).mp (kf h) ls H locs hl hP hD hS))
theorem z_icmp_ge (hX : zX Z l R D cl tys NW cc nL own Ts mc ms ret nm E) {x y : Int32} {off : Int} (tgt : Nat) (hd : decode cc pc = .ok (.if_icmp .ge off, 3)) (ht : (pc : Int) + off = (tgt : Int)) (kt : y ≤ x → Z k j tgt lv st ws) (kf : ¬ y ≤ x → Z k j (pc + 3) lv st ws) : Z k j pc lv (.int y :: .int x :: st) ws := by
  obtain ⟨p, e, s, m, args, below, meth, c, A, H0, Qc, hZ, hx, hb, hml, hown, hts, hK, hA, hN, hnm, hret, hlk, hend⟩ := hX
  exact (hZ _ _ _ _ _ _).mpr (fun ls H locs hl hP hD hS => lv_icmp_ge hx hb hd ht (fun h => (hZ _ _ _ _ _ _).mp (kt h) ls H locs hl hP hD hS) (fun h => (hZ _ _ _ _ _ _).mp (kf h) ls H locs hl hP hD hS))
theorem z_icmp_gt (hX : zX Z l R D cl tys NW cc nL own Ts mc ms ret nm E) {x y : Int32} {off : Int} (tgt : Nat) (hd : decode cc pc = .ok (.if_icmp .gt off, 3)) (ht : (pc : Int) + off = (tgt : Int)) (kt : y < x → Z k j tgt lv st ws) (kf : ¬ y < x → Z k j (pc + 3) lv st ws) : Z k j pc lv (.int y :: .int x :: st) ws := by
  obtain ⟨p, e, s, m, args, below, meth, c, A, H0, Qc, hZ, hx, hb, hml, hown, hts, hK, hA, hN, hnm, hret, hlk, hend⟩ := hX
  exact (hZ _ _ _ _ _ _).mpr (fun ls H locs hl hP hD hS => lv_icmp_gt hx hb hd ht (fun h => (hZ _ _ _ _ _ _).mp (kt h) ls H locs hl hP hD hS) (fun h => (hZ _ _ _ _ _ _).mp (kf h) ls H locs hl hP hD hS))
theorem z_icmp_le (hX : zX Z l R D cl tys NW cc nL own Ts mc ms ret nm E) {x y : Int32} {off : Int} (tgt : Nat) (hd : decode cc pc = .ok (.if_icmp .le off, 3)) (ht : (pc : Int) + off = (tgt : Int)) (kt : x ≤ y → Z k j tgt lv st ws) (kf : ¬ x ≤ y → Z k j (pc + 3) lv st ws) : Z k j pc lv (.int y :: .int x :: st) ws := by
  obtain ⟨p, e, s, m, args, below, meth, c, A, H0, Qc, hZ, hx, hb, hml, hown, hts, hK, hA, hN, hnm, hret, hlk, hend⟩ := hX
  exact (hZ _ _ _ _ _ _).mpr (fun ls H locs hl hP hD hS => lv_icmp_le hx hb hd ht (fun h => (hZ _ _ _ _ _ _).mp (kt h) ls H locs hl hP hD hS) (fun h => (hZ _ _ _ _ _ _).mp (kf h) ls H locs hl hP hD hS))
theorem z_goto (hX : zX Z l R D cl tys NW cc nL own Ts mc ms ret nm E) {off : Int} (tgt : Nat) (hd : decode cc pc = .ok (.goto off, 3)) (ht : (pc : Int) + off = (tgt : Int)) (kk : Z k j tgt lv st ws) : Z k j pc lv st ws := by
  obtain ⟨p, e, s, m, args, below, meth, c, A, H0, Qc, hZ, hx, hb, hml, hown, hts, hK, hA, hN, hnm, hret, hlk, hend⟩ := hX
  exact (hZ _ _ _ _ _ _).mpr (fun ls H locs hl hP hD hS => lv_goto hx hb hd ht ((hZ _ _ _ _ _ _).mp kk ls H locs hl hP hD hS))
theorem z_get (hX : zX Z l R D cl tys NW cc nL own Ts mc ms ret nm E) {C : String} {T : u_T} {N ci ix a : Nat} {fs : List Value} {v : Value} (q0 f : Nat) (he : ws[q0]? = some (a, .inr (ci, fs))) (hc : cl[ci]? = some (C, T, N)) (hin : ∀ w ∈ u_ws C T N, w ∈ Ts) (hf : f < N) (hlink : Cond.fieldLink own ix (T f).1 (T f).2.1 (T f).2.2.1 ∈ Ts) (hv : fs[f]? = some v) (hd : decode cc pc = .ok (.getfield ix, 3)) (kk : Z k j (pc + 3) lv (v :: st) ws) : Z k j pc lv (.ref a :: st) ws := by
  obtain ⟨p, e, s, m, args, below, meth, c, A, H0, Qc, hZ, hx, hb, hml, hown, hts, hK, hA, hN, hnm, hret, hlk, hend⟩ := hX
  exact (hZ _ _ _ _ _ _).mpr (fun ls H locs hl hP hD hS => va_get hx hb hts hin hown hK hP q0 he hc f hf (hts _ hlink) (fun _ h9 => h9) hv hd ((hZ _ _ _ _ _ _).mp kk ls H locs hl hP hD hS))
theorem z_put (hX : zX Z l R D cl tys NW cc nL own Ts mc ms ret nm E) {C : String} {T : u_T} {N ci ix a : Nat} {fs : List Value} {v : Value} {ty : FieldType} (q0 f : Nat) (he : ws[q0]? = some (a, .inr (ci, fs))) (hc : cl[ci]? = some (C, T, N)) (hin : ∀ w ∈ u_ws C T N, w ∈ Ts) (ty0 : Nat → FieldType) (hty : ∀ k, k < N → parseFieldDescriptor (T k).2.2.1 = some (ty0 k)) (hnn : ∀ a, a < N → ∀ b, b < N → a ≠ b → (T a).2.1 ≠ (T b).2.1) (hf : f < N) (hlink : Cond.fieldLink own ix (T f).1 (T f).2.1 (T f).2.2.1 ∈ Ts) (hfin : (T f).2.2.2 = false ∨ ((T f).2.2.2 = true ∧ nm = "<init>" ∧ (T f).1 = own)) (hdt : parseFieldDescriptor (T f).2.2.1 = some ty) (hn : narrow ty v = v) (hfit : fits ty v = true) (hl0 : f < fs.length) (hd : decode cc pc = .ok (.putfield ix, 3)) (kk : Z k j (pc + 3) lv st (ws.set q0 (a, .inr (ci, fs.set f v)))) : Z k j pc lv (v :: .ref a :: st) ws := by
  obtain ⟨p, e, s, m, args, below, meth, c, A, H0, Qc, hZ, hx, hb, hml, hown, hts, hK, hA, hN, hnm, hret, hlk, hend⟩ := hX
  refine (hZ _ _ _ _ _ _).mpr (fun ls H locs hl hP hD hS => ?_)
  rcases hfin with hfin | ⟨hfin, hi, ho⟩
  · exact va_put hx hb hts hin ty0 hty hnn hown hK hP hD hS q0 he hc f hf (hts _ hlink) (fun _ h9 => h9) hfin hdt hn hfit hl0 hd (fun H1 locs1 hP1 hD1 hS1 => (hZ _ _ _ _ _ _).mp kk ls H1 locs1 hl hP1 hD1 hS1)
  · exact va_putF hx hb hts hin ty0 hty hnn hown hK hP hD hS q0 he hc f hf (hts _ hlink) (fun _ h9 => h9) hfin (hnm.trans hi) ho hdt hn hfit hl0 hd (fun H1 locs1 hP1 hD1 hS1 => (hZ _ _ _ _ _ _).mp kk ls H1 locs1 hl hP1 hD1 hS1)
theorem z_iald (hX : zX Z l R D cl tys NW cc nL own Ts mc ms ret nm E) {cA : ClassId} {n a : Nat} {f : Nat → Int32} (q0 t0 i : Nat) {x : Int32} (ha : ws[q0]? = some (a, .inl (cA, n, .inl f))) (ht : tys[t0]? = some (cA, .int)) (hx0 : x = nI i) (hi : i < n) (hn : n < 2147483648) (hd : decode cc pc = .ok (.iaload, 1)) (kk : Z k j (pc + 1) lv (.int (f i) :: st) ws) : Z k j pc lv (.int x :: .ref a :: st) ws := by
  obtain ⟨p, e, s, m, args, below, meth, c, A, H0, Qc, hZ, hx, hb, hml, hown, hts, hK, hA, hN, hnm, hret, hlk, hend⟩ := hX
  subst hx0
  refine (hZ _ _ _ _ _ _).mpr (fun ls H locs hl hP hD hS => va_iald hx hb hK hP q0 t0 ha ht (vp_in_nI hi hn) hd ?_)
  rw [nI_clamp (show i < 2 ^ 31 by omega)]
  exact ((hZ _ _ _ _ _ _).mp kk ls H locs hl hP hD hS)
theorem z_zald (hX : zX Z l R D cl tys NW cc nL own Ts mc ms ret nm E) {cA : ClassId} {n a : Nat} {f : Nat → Int32} (q0 t0 i : Nat) {x : Int32} (ha : ws[q0]? = some (a, .inl (cA, n, .inl f))) (ht : tys[t0]? = some (cA, .boolean)) (hx0 : x = nI i) (hi : i < n) (hn : n < 2147483648) (hd : decode cc pc = .ok (.baload, 1)) (kk : Z k j (pc + 1) lv (.int (f i) :: st) ws) : Z k j pc lv (.int x :: .ref a :: st) ws := by
  obtain ⟨p, e, s, m, args, below, meth, c, A, H0, Qc, hZ, hx, hb, hml, hown, hts, hK, hA, hN, hnm, hret, hlk, hend⟩ := hX
  subst hx0
  refine (hZ _ _ _ _ _ _).mpr (fun ls H locs hl hP hD hS => va_zald hx hb hK hP q0 t0 ha ht (vp_in_nI hi hn) hd ?_)
  rw [nI_clamp (show i < 2 ^ 31 by omega)]
  exact ((hZ _ _ _ _ _ _).mp kk ls H locs hl hP hD hS)
theorem z_iast (hX : zX Z l R D cl tys NW cc nL own Ts mc ms ret nm E) {cA : ClassId} {n a : Nat} {f f' : Nat → Int32} (q0 t0 i : Nat) {x y : Int32} (ha : ws[q0]? = some (a, .inl (cA, n, .inl f))) (ht : tys[t0]? = some (cA, .int)) (hx0 : x = nI i) (hi : i < n) (hn : n < 2147483648) (hd : decode cc pc = .ok (.iastore, 1)) (hf : upd f i y = f') (kk : Z k j (pc + 1) lv st (ws.set q0 (a, .inl (cA, n, .inl f')))) : Z k j pc lv (.int y :: .int x :: .ref a :: st) ws := by
  obtain ⟨p, e, s, m, args, below, meth, c, A, H0, Qc, hZ, hx, hb, hml, hown, hts, hK, hA, hN, hnm, hret, hlk, hend⟩ := hX
  subst hx0
  subst hf
  refine (hZ _ _ _ _ _ _).mpr (fun ls H locs hl hP hD hS => va_iast hx hb hK hP hD hS q0 t0 ha ht (vp_in_nI hi hn) hd (fun H1 locs1 hP1 hD1 hS1 => ?_))
  rw [nI_clamp (show i < 2 ^ 31 by omega)] at hP1 hD1
  exact (hZ _ _ _ _ _ _).mp kk ls H1 locs1 hl hP1 hD1 hS1
theorem z_zast (hX : zX Z l R D cl tys NW cc nL own Ts mc ms ret nm E) {cA : ClassId} {n a : Nat} {f f' : Nat → Int32} (q0 t0 i : Nat) {x y : Int32} (ha : ws[q0]? = some (a, .inl (cA, n, .inl f))) (ht : tys[t0]? = some (cA, .boolean)) (hx0 : x = nI i) (hi : i < n) (hn : n < 2147483648) (hd : decode cc pc = .ok (.bastore, 1)) (hf : upd f i (vp_nar .boolean y) = f') (kk : Z k j (pc + 1) lv st (ws.set q0 (a, .inl (cA, n, .inl f')))) : Z k j pc lv (.int y :: .int x :: .ref a :: st) ws := by
  obtain ⟨p, e, s, m, args, below, meth, c, A, H0, Qc, hZ, hx, hb, hml, hown, hts, hK, hA, hN, hnm, hret, hlk, hend⟩ := hX
  subst hx0
  subst hf
  refine (hZ _ _ _ _ _ _).mpr (fun ls H locs hl hP hD hS => va_zast hx hb hK hP hD hS q0 t0 ha ht (vp_in_nI hi hn) hd (fun H1 locs1 hP1 hD1 hS1 => ?_))
  rw [nI_clamp (show i < 2 ^ 31 by omega)] at hP1 hD1
  exact (hZ _ _ _ _ _ _).mp kk ls H1 locs1 hl hP1 hD1 hS1
theorem z_less (hX : zX Z l R D cl tys NW cc nL own Ts mc ms ret nm E) (lv2 : List (Option Value)) (h : ∀ (i : Nat) (v : Value), lv[i]? = some (some v) → lv2[i]? = some (some v)) (kk : Z k j pc lv st ws) : Z k j pc lv2 st ws := by
  obtain ⟨p, e, s, m, args, below, meth, c, A, H0, Qc, hZ, hx, hb, hml, hown, hts, hK, hA, hN, hnm, hret, hlk, hend⟩ := hX
  exact (hZ _ _ _ _ _ _).mpr (fun ls H locs hl hP hD hS => (hZ _ _ _ _ _ _).mp kk ls H locs (zl_less hl h) hP hD hS)
theorem z_wide (hX : zX Z l R D cl tys NW cc nL own Ts mc ms ret nm E) (k2 j2 : Nat) (hk : k ≤ k2) (hj : j ≤ j2) (kk : Z k2 j2 pc lv st ws) : Z k j pc lv st ws := by
  obtain ⟨p, e, s, m, args, below, meth, c, A, H0, Qc, hZ, hx, hb, hml, hown, hts, hK, hA, hN, hnm, hret, hlk, hend⟩ := hX
  exact (hZ _ _ _ _ _ _).mpr (fun ls H locs hl hP hD hS => W.widen hk hj ((hZ _ _ _ _ _ _).mp kk ls H locs hl hP hD hS))
theorem z_iret (hX : zX Z l R D cl tys NW cc nL own Ts mc ms ret nm E) {v : Int32} {ty : FieldType} (hr : ret = some ty) (hn : narrow ty (.int v) = .int v) (hk : k = mc) (hj : j = ms) (hd : decode cc pc = .ok (.ireturn, 1)) (hE : E (some (.int v)) ws) : Z k j pc lv [.int v] ws := by
  obtain ⟨p, e, s, m, args, below, meth, c, A, H0, Qc, hZ, hx, hb, hml, hown, hts, hK, hA, hN, hnm, hret, hlk, hend⟩ := hX
  subst hk
  subst hj
  exact (hZ _ _ _ _ _ _).mpr (fun ls H locs hl hP hD hS => W.zret hx hb (hret.trans hr) hn (fun t ht hW => hend t _ ws H locs hE hP hD hS ht hW) hS.2.2 hd hlk)
theorem z_vret (hX : zX Z l R D cl tys NW cc nL own Ts mc ms ret nm E) (hr : ret = none) (hk : k = mc) (hj : j = ms) (hd : decode cc pc = .ok (.return_, 1)) (hE : E none ws) : Z k j pc lv [] ws := by
  obtain ⟨p, e, s, m, args, below, meth, c, A, H0, Qc, hZ, hx, hb, hml, hown, hts, hK, hA, hN, hnm, hret, hlk, hend⟩ := hX
  subst hk
  subst hj
  exact (hZ _ _ _ _ _ _).mpr (fun ls H locs hl hP hD hS => W.vret hx hb (hret.trans hr) (fun t ht hW => hend t _ ws H locs hE hP hD hS ht hW) hS.2.2 hd hlk)
end ZR
