/-! a switch over a table that begins with 0 -/
section ZTB
variable {Z : zF} {l : Launch} {R : Room} {D : va_G} {cl : List vw_C} {tys : List (ClassId × FieldType)} {NW : List (String × Nat × MethodName × String)} {cc : ByteArray} {nL : Nat} {own : String} {Ts : List Cond} {mc ms : Nat} {ret : Option FieldType} {nm : String} {E : Option Value → va_W → Prop} {k j pc : Nat} {lv : List (Option Value)} {st : List Value} {ws : va_W}
theorem z_tab (hX : zX Z l R D cl tys NW cc nL own Ts mc ms ret nm E) {dflt hi : Int} {offs : Array Int} {len : Nat} {x : Int32} (N td : Nat) (tg : Nat → Nat) (hd : decode cc pc = .ok (.tableswitch dflt 0 hi offs, len)) (hhi : hi + 1 = (N : Int)) (htd : (pc : Int) + dflt = (td : Int)) (htg : ∀ i, i < N → offs[i]? = some ((tg i : Int) - (pc : Int))) (hN : N ≤ 1000) (kd : (∀ i, i < N → x ≠ nI i) → Z k j td lv st ws) (ki : ∀ i, i < N → x = nI i → Z k j (tg i) lv st ws) : Z k j pc lv (.int x :: st) ws := by
  obtain ⟨p, e, s, m, args, below, meth, c, A, H0, Qc, hZ, hx, hb, hml, hown, hts, hK, hA, hNN, hnm, hret, hlk, hend⟩ := hX
  refine (hZ _ _ _ _ _ _).mpr (fun ls H locs hl hP hD hS => ?_)
  by_cases h : x.toInt < 0 ∨ hi < x.toInt
  · refine lv_tableOut hx hb hd h htd ((hZ _ _ _ _ _ _).mp (kd (fun i hi2 hc => ?_)) ls H locs hl hP hD hS)
    rw [hc, nI_toInt (show i < 2 ^ 31 by omega)] at h
    omega
  · have h1 : ¬ x.toInt < 0 := fun hc => h (Or.inl hc)
    have h2 : ¬ hi < x.toInt := fun hc => h (Or.inr hc)
    have h3 : ¬ x < 0 := fun hc => h1 (by rw [Int32.lt_iff_toInt_lt, Int32.toInt_zero] at hc; exact hc)
    obtain ⟨i, hi1, hi2⟩ := nI_of h3
    have h4 : x.toInt = (i : Int) := by rw [hi2, nI_toInt hi1]
    have h5 : i < N := by omega
    refine lv_tableIn hx hb hd h1 h2 (off := (tg i : Int) - (pc : Int)) ?_ (tgt := tg i) (by omega) ((hZ _ _ _ _ _ _).mp (ki i h5 hi2) ls H locs hl hP hD hS)
    rw [h4, show ((i : Int) - 0).toNat = i by omega]
    exact htg i h5
end ZTB
theorem dA_covered_10 : decode cA_covered 10 = .ok (.tableswitch 92 0 4 #[34, 46, 58, 66, 79], 34) := by decide +kernel
def zclamp (x : Int32) : Nat := if x < nI 2 then 2 else if nI 12 < x then 12 else x.toNatClampNeg
theorem zclamp_eq {x : Int32} (h1 : ¬ x < nI 2) (h2 : ¬ nI 12 < x) : x = nI (zclamp x) ∧ 2 ≤ zclamp x ∧ zclamp x ≤ 12 := by
  have h0 : ¬ x < 0 := fun hc => h1 (Int32.lt_trans hc (by decide))
  obtain ⟨j, hj, rfl⟩ := zn_of h0
  have hz : zclamp (nI j) = j := by
    unfold zclamp
    rw [if_neg h1, if_neg h2, nI_clamp (show j < 2 ^ 31 by omega)]
  rw [hz]
  have g1 : ¬ j < 2 := fun hc => h1 ((nI_ltI (a := j) (b := 2) hj (by omega)).mpr hc)
  have g2 : ¬ 12 < j := fun hc => h2 ((nI_ltI (a := 12) (b := j) (by omega) hj).mpr hc)
  exact ⟨rfl, by omega, by omega⟩
theorem zclamp_b (x : Int32) : 2 ≤ zclamp x ∧ zclamp x ≤ 12 := by
  by_cases h1 : x < nI 2
  · rw [show zclamp x = 2 from if_pos h1]; omega
  · by_cases h2 : nI 12 < x
    · rw [show zclamp x = 12 from (if_neg h1).trans (if_pos h2)]; omega
    · exact (zclamp_eq h1 h2).2
theorem zbft (b : Bool) : b = true ∨ b = false := by
  cases b with
  | false => exact Or.inr rfl
  | true => exact Or.inl rfl
