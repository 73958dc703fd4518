/-! words for the outer object -/
abbrev wA (ax g s lo tr lk ct : Nat) (sd : Bool) (wh : Option Nat) (sm : Int) : va_W := [(ax, .inr (6, [.ref g, .ref s, .ref lo, .ref tr, .ref lk, .ref ct, .int (bN sd), .int (zbar wh), .int (Int32.ofInt sm)]))]
/-- an answer that is d unless c holds and x is a number below n, and g of that number else -/
def zR (c : Bool) (x : Int32) (n : Nat) (d : Int32) (g : Nat → Int32) (v : Option Value) : Prop := ((c && zin x n) = false → v = some (.int d)) ∧ ∀ i, i < n → x = nI i → c = true → v = some (.int (g i))
theorem zR_out {c : Bool} {x : Int32} {n : Nat} {d : Int32} {g : Nat → Int32} (hn : n < 2147483648) (h : (c && zin x n) = false) : zR c x n d g (some (.int d)) := by
  refine ⟨fun _ => rfl, fun i hi hx hc => ?_⟩
  rw [hc, hx, zin_nI hi hn] at h
  cases h
theorem zR_in {c : Bool} {n i : Nat} {d r : Int32} {g : Nat → Int32} (hn : n < 2147483648) (hc : c = true) (hi : i < n) (hr : g i = r) : zR c (nI i) n d g (some (.int r)) := by
  refine ⟨fun h => ?_, fun j hj hx _ => ?_⟩
  · rw [hc, zin_nI hi hn] at h; cases h
  · have := (nI_eq (a := i) (b := j) (by omega) (by omega)).mp hx
    rw [← this, hr]
theorem zkn {c : Bool} {x : Int32} {n : Nat} (hn : n < 2147483648) (h : (c && zin x n) = true) : c = true ∧ ∃ i, i < n ∧ x = nI i := by
  rw [Bool.and_eq_true] at h
  exact ⟨h.1, zin_of hn h.2⟩
def zun (wh : Option Nat) : Bool := wh.isSome
theorem zun_f {wh : Option Nat} (h : zun wh = false) : wh = none := by
  cases wh with
  | none => rfl
  | some p => cases h
theorem zun_t {wh : Option Nat} (h : zun wh = true) : ∃ p, wh = some p := by
  cases wh with
  | none => cases h
  | some p => exact ⟨p, rfl⟩
