/-! the law: its cell -/
theorem kL_cell (l : Launch) {b L : Nat} {xs : Nat → Int32} (hL : L < 2147483648) : Met l yL_cell wL_cell rL_cell (va_Pc [.ref b, .int (nI 0)] (fun U => va_X b L xs U U.heap)) (QcRead (if 0 < L then xs 0 else 0)) 0 0 (fun _ => False) := by
  refine Met.ofW (cc := cL_cell) (maxL := 2) (ret := some .int) rfl rfl ?_
  intro p e s m args below meth c s₁ B hml hv
  obtain ⟨rfl, hX⟩ := hv
  have hx := B.exec
  have hb := B.bytes
  have hl := lv_entry [Value.ref b, .int (nI 0)] (n := 2) (Nat.le_of_ble_eq_true rfl)
  rw [lg_entry_eq]
  generalize (lg_sl [Value.ref b, .int (nI 0)] ++ List.replicate (2 - (lg_sl [Value.ref b, .int (nI 0)]).length) Slot.unset).toArray = ls at hl ⊢
  have h0 : ls[0]? = some (.val (.ref b)) := hl.2.2 (0, .ref b) (List.mem_of_getElem? (i := 0) rfl)
  have h1 : ls[1]? = some (.val (.int (nI 0))) := hl.2.2 (1, .int (nI 0)) (List.mem_of_getElem? (i := 1) rfl)
  have hbl : b < s.heap.size := by
    obtain ⟨scr, g1, _⟩ := hX
    exact (Array.getElem?_eq_some_iff.mp g1).1
  have hS : va_S (fun _ => False) s.heap s.heap [] := va_S.rf
  refine lv_iload_n hx hb dL_cell_0 rfl h1 ?_
  refine lv_aload_n hx hb dL_cell_1 rfl h0 ?_
  refine va_slen hx hb hX hbl (fun h => h) hS dL_cell_2 ?_
  refine lv_icmp_ge hx hb dL_cell_3 (tgt := 12) rfl (fun h3 => ?_) (fun h3 => ?_)
  · have h4 : nI L ≤ nI 0 := h3
    have hr : (if 0 < L then xs 0 else 0) = 0 := if_neg (fun hc => by
      have := (nI_leI (a := L) (b := 0) hL (by omega)).mp h4
      omega)
    refine lv_iconst hx hb dL_cell_12 rfl ?_
    exact W.iret hx hb B.returns (fun t ht _ => ⟨by rw [hr]; rfl, ht⟩) (fun q hq => by cases hq) dL_cell_13 B.notSynchronized
  · have h4 : ¬ nI L ≤ nI 0 := h3
    have h5 : 0 < L := by
      have := fun hc => h4 ((nI_leI (a := L) (b := 0) hL (by omega)).mpr hc)
      by_cases hc : L ≤ 0
      · exact absurd hc this
      · omega
    have hr : (if 0 < L then xs 0 else 0) = xs (nI 0).toNatClampNeg := if_pos h5
    refine lv_aload_n hx hb dL_cell_6 rfl h0 ?_
    refine lv_iload_n hx hb dL_cell_7 rfl h1 ?_
    refine va_sld hx hb hX hbl (fun h => h) hS (vp_in_nI h5 hL) dL_cell_8 ?_
    refine lv_goto hx hb dL_cell_9 (tgt := 13) rfl ?_
    exact W.iret hx hb B.returns (fun t ht _ => ⟨by rw [hr], ht⟩) (fun q hq => by cases hq) dL_cell_13 B.notSynchronized
theorem z_noLoc {s t : State} {L : List Loc} {k n : Nat} (h : s.sameButNew t L k n) (hL : ∀ q ∈ L, s.heap.size ≤ q.base) : s.sameButNew t [] k n := by
  obtain ⟨h1, h2, h3, h4, h5, h6⟩ := h
  refine ⟨h1, h2, h3, h4, h5, fun a c hc => ?_⟩
  obtain ⟨c', g1, g2, g3, g4⟩ := h6 a c hc
  refine ⟨c', g1, g2, g3, fun i _ => g4 i (fun hm => ?_)⟩
  have h7 : s.heap.size ≤ a := hL _ hm
  have h8 := (Array.getElem?_eq_some_iff.mp hc).1
  exact absurd h8 (Nat.not_lt.mpr h7)
theorem z_arr {s : State} {args : Array Value} {ty : FieldType} (h : (Cond.arrayClass ty).before args s = true) (hk : ∀ C, ty ≠ .object C) : ∃ cA, ArrOfT s cA ty ∧ va_RA s cA ty := by
  obtain ⟨cA, kA, comp, h1, h2, h3⟩ := Cond.arrayClass_spec h
  refine ⟨cA, fun n z => ⟨fun k h => (by cases h), kA, h2, comp, h3⟩, ?_⟩
  cases ty with
  | object C => exact absurd rfl (hk C)
  | _ => exact h1
