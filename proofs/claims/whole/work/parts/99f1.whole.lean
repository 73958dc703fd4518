/-! THE CLAIM OUT OF ONE WALK OF THE LAW'S BODY. Your part is whole_start (and what it stands on); all else here is the same for every law, but numbers. -/
def R_law : String := "SpanningProbesLaw"
def lw_P (b : Addr) (xs : List Int32) (args : Array Value) (s : State) : Prop := args = #[.ref b] ∧ s.IntsAt b xs ∧ xs.length ≤ 1537 ∧ (Jvm.Cond.and given_1 narrow_1).before args s = true
def lw_Q (_ : Array Value) (s : State) (o : Outcome) (t : State) : Prop := o = .returned (some (.int 1)) ∧ Framed s o t [] 57 4840
def lw_Z (below : List Frame) (a : Array Value) (s : State) : State → Prop := fun t => ∃ o, t.status = .running ∧ Ended t below o ∧ lw_Q a s o t
/-- the law's own end, with 1 on the stack, nothing written that was there before, its room as the claim has it -/
theorem lw_ret {p : Program} {l : Launch} {e : Env} {s : State} {m : MethodId} {below : List Frame} {meth : Method} {c : Code} {b : Nat} (hx : p.tables.exec = Jvm.exec) (hb : c.code = code) (hr : meth.sig.returnType = ret) (hlocks : meth.locks = false) {pc : Nat} {H : Heap} {ls : Array Slot} (hdg : decode code pc = .ok (.ireturn, 1)) : W p l e room_1 s m #[Value.ref b] below meth c H [] 57 4840 (lw_Z below #[Value.ref b] s) (F0 m pc ls [.int 1]) := by
  intro T hT X
  obtain ⟨fs, hret, hrun, hended, hW, hframe⟩ := X.leave (v := some (.int 1)) (hlocks := hlocks) (fun h => by rw [hr] at h; cases h)
  have hmeth' : T.vm.method? m = some meth := X.method'
  refine ⟨T.setFrames fs, ?_, .returned (some (.int 1)), hrun, hended, rfl, ⟨_, rfl⟩, hW, hframe⟩
  jvm_step X.here [X.here.top, hx, hb, hdg, hmeth', hr, ret, narrow_b1]
  (try refine ⟨rfl, ?_⟩); (try refine ⟨rfl, ?_⟩)
  first | (intro acts; rw [hret _ acts rfl rfl rfl]) | rw [hret _ _ rfl rfl rfl]
  exact Steps.refl _
/-- what holds at the law's entry: the machine, the code, the tables' words (any of lw_tbl by 'hts w (by decide +kernel)'), the script of L ints xs at the cell b, what the Statement gives of the start (any of its parts by flat_of_before) -/
def lw_At (p : Program) (s : State) (m : MethodId) (meth : Method) (c : Code) (b L : Nat) (xs : Nat → Int32) : Prop :=
  p.tables.exec = Jvm.exec ∧ c.code = code ∧ meth.sig.returnType = ret ∧ c.maxLocals = 4 ∧ s.vm.findClass R_law = some m.cls ∧ (∀ w ∈ lw_tbl, w.before #[Value.ref b] s = true) ∧ va_X b L xs s s.heap ∧ b < s.heap.size ∧ meth.locks = false ∧ (Jvm.Cond.and given_1 narrow_1).before #[Value.ref b] s = true
set_option maxHeartbeats 400000 in
set_option maxRecDepth 100000 in
theorem whole_start {p : Program} {e : Env} {s : State} {m : MethodId} {below : List Frame} {meth : Method} {c : Code} (l : Launch) {b L : Nat} {xs : Nat → Int32} (hL : L ≤ 1537) (C0 : lw_At p s m meth c b L xs) : W p l e room_1 s m #[Value.ref b] below meth c s.heap [] 0 0 (lw_Z below #[Value.ref b] s) (entryFrame m ([Value.ref b] : List Value).toArray 4) := by
  obtain ⟨hx, hb, hr, hml, hown, hts, hXs, hbl, hlk, hgv⟩ := C0
  have hzw : ∀ w ∈ zWW, w.before #[Value.ref b] s = true := fun w hw => hts w (List.mem_filter.mp hw).1
  obtain ⟨cG, iG, kG⟩ := u_known (C := RG) (T := TG) (N := 4) hzw inG (hzw _ mw_20)
  obtain ⟨cS, iS, kS⟩ := u_known (C := RS) (T := TS) (N := 8) hzw inS (hzw _ mw_68)
  obtain ⟨cO, iO, kO⟩ := u_known (C := RO) (T := TO) (N := 4) hzw inO (hzw _ mw_104)
  obtain ⟨cT, iT, kT⟩ := u_known (C := RT) (T := TT) (N := 3) hzw inT (hzw _ mw_125)
  obtain ⟨cK, iK, kK⟩ := u_known (C := RK) (T := TK) (N := 9) hzw inK (hzw _ mw_144)
  obtain ⟨cC, iC, kC⟩ := u_known (C := RC) (T := TC) (N := 6) hzw inC (hzw _ mw_181)
  obtain ⟨cA, iA, kA⟩ := u_known (C := RA) (T := TA) (N := 9) hzw inA (hzw _ mw_12)
  obtain ⟨cM, iM, kM⟩ := u_known (C := RM) (T := TM) (N := 38) hzw inM (hzw _ mw_547)
  obtain ⟨cI, aI1, aI2⟩ := z_arr (hzw _ mw_66) (fun C h => by cases h)
  obtain ⟨cZ, aZ1, aZ2⟩ := z_arr (hzw _ mw_102) (fun C h => by cases h)
  obtain ⟨D, hD⟩ : ∃ D : va_G, D = (fun k => [cG, cS, cO, cT, cK, cC, cA, cM].getD k cG, fun k => [iG, iS, iO, iT, iK, iC, iA, iM].getD k iG) := ⟨_, rfl⟩
  have hK : va_K D zCl (zTy cI cZ) s := by
    subst hD
    refine ⟨fun k q hq => ?_, fun k q hq => ?_⟩
    · match k, hq with
      | 0, hq => cases hq; exact kG
      | 1, hq => cases hq; exact kS
      | 2, hq => cases hq; exact kO
      | 3, hq => cases hq; exact kT
      | 4, hq => cases hq; exact kK
      | 5, hq => cases hq; exact kC
      | 6, hq => cases hq; exact kA
      | 7, hq => cases hq; exact kM
      | (k + 8), hq => cases hq
    · match k, hq with
      | 0, hq => cases hq; exact ⟨aI1, aI2⟩
      | 1, hq => cases hq; exact ⟨aZ1, aZ2⟩
      | (k + 2), hq => cases hq
  have hN : zN zNW s := fun q hq => va_Nw.of rfl (hts _ (List.mem_append_right _ (zNW_tab q hq)))
  have hTs : ∀ w ∈ zc0 :: zWW, w.before #[Value.ref b] s = true := fun w hw => (List.mem_cons.mp hw).elim (fun e => by rw [e]; exact hzw _ mw_0) (hzw w)
  have hnb : ¬ (s.heap.size ≤ b) := Nat.not_le.mpr hbl
  have hX : zLX (fun k j pc lv st ws => ∀ (ls : Array Slot) (H : Heap) (locs : List Loc), zl_has ls 4 lv → va_P D zCl ws H → va_D (fun q => s.heap.size ≤ q) ws → va_S (fun q => s.heap.size ≤ q) s.heap H locs → W p l e room_1 s m #[Value.ref b] below meth c H locs k j (MQ below (fun _ _ oc _ => oc = .returned (some (.int 1))) #[Value.ref b] s 57 4840 (fun q => s.heap.size ≤ q)) (F0 m pc ls st)) l D cI cZ meth.name := ⟨p, e, s, m, #[Value.ref b], below, meth, c, (fun q => s.heap.size ≤ q), s.heap, (fun _ _ oc _ => oc = .returned (some (.int 1))), fun _ _ _ _ _ _ => Iff.rfl, hx, hb, hml, hown, hTs, hK, fun _ h => h, hN, rfl, hr, hlk, fun t v ws H locs hE _ _ _ _ _ => by rw [hE]⟩
  have hsl : zSL (fun k j pc lv st ws => ∀ (ls : Array Slot) (H : Heap) (locs : List Loc), zl_has ls 4 lv → va_P D zCl ws H → va_D (fun q => s.heap.size ≤ q) ws → va_S (fun q => s.heap.size ≤ q) s.heap H locs → W p l e room_1 s m #[Value.ref b] below meth c H locs k j (MQ below (fun _ _ oc _ => oc = .returned (some (.int 1))) #[Value.ref b] s 57 4840 (fun q => s.heap.size ≤ q)) (F0 m pc ls st)) b L xs := by
    refine ⟨fun k j pc lv st ws q hq hd kk => ?_, fun k j pc lv st ws hd kk => ?_, fun k j pc lv st ws hk hj hcat hd kk => ?_⟩
    · intro ls H locs hl hP hD hS
      refine va_sld hx hb hXs hbl hnb hS (vp_in_nI hq (by omega)) hd ?_
      rw [nI_clamp (show q < 2 ^ 31 by omega)]
      exact kk ls H locs hl hP hD hS
    · intro ls H locs hl hP hD hS
      exact va_slen hx hb hXs hbl hnb hS hd (kk ls H locs hl hP hD hS)
    · intro ls H locs hl hP hD hS
      have hXH : va_X b L xs s H := hXs.kept (hS.2.1 b hbl hnb)
      refine W.callR (r := if 0 < L then xs 0 else 0) (a := #[Value.ref b, .int (nI 0)]) (g := F0 m pc ls (.int (nI 0) :: .ref b :: st)) (rest := st) (W.runS (As := [Value.ref b, .int (nI 0)]) ⟨hx, hb, hml, hown, hTs⟩ (kL_cell l (b := b) (xs := xs) (show L < 2147483648 by omega)) (cwS 2 hTs (zGSt mw_543 mw_544 mw_0 mw_545) rfl rfl rfl ⟨rfl, by decide, by decide, rfl⟩ (by decide)) ⟨fun a U g mk h => ⟨h.1, va_X.moved (u := U) (U := U.calling g mk a) (Vm.Alike.refl U.vm) h.2⟩, fun U hU hW => ⟨rfl, by show va_X b L xs U U.heap; rw [hU]; exact hXH.moved hW.alike⟩⟩ rfl rfl hl.1 rfl (lv_room hcat) hd ⟨hk, hj⟩) ?_
      exact kk ls H locs hl hP hD hS
  have hbody := kL_body l D cI cZ b hX hsl hL
  have hl := lv_entry [Value.ref b] (n := 4) (Nat.le_of_ble_eq_true rfl)
  rw [lg_entry_eq]
  generalize (lg_sl [Value.ref b] ++ List.replicate (4 - (lg_sl [Value.ref b]).length) Slot.unset).toArray = ls at hl ⊢
  have hlh : zl_has ls 4 [some (.ref b), none, none, none] := by
    refine ⟨hl.1, hl.2.1, fun i v hi => ?_⟩
    match i, hi with
    | 0, hi => cases hi; exact ⟨rfl, hl.2.2 (0, .ref b) (List.mem_of_getElem? (i := 0) rfl)⟩
    | 1, hi => cases hi
    | 2, hi => cases hi
    | 3, hi => cases hi
    | (k + 4), hi => cases hi
  have hrun := hbody ls s.heap [] hlh (fun k q hq => by cases hq) ⟨fun i j p q hp => (by cases hp), fun k q hq => (by cases hq)⟩ va_S.rf
  intro T hT X
  obtain ⟨t, t1, oc, t2, t3, t4, L2, t5, t6⟩ := hrun T hT X
  exact ⟨t, t1, oc, t2, t3, t4, t5.1, t5.2.1, z_noLoc t5.2.2 t6⟩
