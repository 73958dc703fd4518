/-! words for contracts; loops -/
abbrev zTy (cI cZ : ClassId) : List (ClassId × FieldType) := [(cI, .int), (cZ, .boolean)]
theorem z_met2 {l : Launch} {y : MethodName} {wy wy' : List Cond} {rm : Room} {D : va_G} {cl : List vw_C} {tys : List (ClassId × FieldType)} {NW : List (String × Nat × MethodName × String)} {mc ms : Nat} {av : List Value} {wc : va_W} {E : Option Value → va_W → Prop} (cc : ByteArray) (nL : Nat) (ret : Option FieldType) (hy : plainName y.cls = true) (hw : wy = Cond.code y cc nL ret :: wy') (hav : (lg_sl av).length ≤ nL) (hcat : (av.all fun v => v.category == 1) = true)
    (body : ∀ Z : zF, zX Z l rm D cl tys NW cc nL y.cls wy mc ms ret y.name E → Z 0 0 0 (av.map some ++ List.replicate (nL - av.length) none) [] wc) : zM l y wy rm D cl tys NW mc ms av wc E := z_met cc nL ret hy hw hav (fun v hv => by simpa using List.all_eq_true.mp hcat v hv) body
theorem zloop {P : Nat → Prop} (N : Nat) (h : ∀ i, i ≤ N → (i < N → P (i + 1)) → P i) (i : Nat) (hi : i ≤ N) : P i := by
  obtain ⟨k, hk⟩ : ∃ k, N = i + k := ⟨N - i, by omega⟩
  induction k generalizing i with
  | zero => exact h i hi (fun hc => by omega)
  | succ k ih => exact h i hi (fun hc => ih (i + 1) (by omega) (by omega))
def zl_le : List (Option Value) → List (Option Value) → Prop
  | [], _ => True
  | none :: r, s => zl_le r s.tail
  | some v :: r, s => s.head? = some (some v) ∧ zl_le r s.tail
theorem zl_le_get : ∀ (a b : List (Option Value)), zl_le a b → ∀ (i : Nat) (v : Value), a[i]? = some (some v) → b[i]? = some (some v) := by
  intro a
  induction a with
  | nil => intro b _ i v h; simp at h
  | cons o r ih =>
    intro b hb i v h
    have ht : zl_le r b.tail := by
      cases o with
      | none => exact hb
      | some w => exact hb.2
    cases i with
    | zero =>
      have h1 : some o = some (some v) := h
      cases h1
      rw [← List.head?_eq_getElem?]
      exact hb.1
    | succ i =>
      have h2 := ih b.tail ht i v (by simpa using h)
      rw [List.getElem?_tail] at h2
      exact h2
theorem z_le {Z : zF} {l : Launch} {R : Room} {D : va_G} {cl : List vw_C} {tys : List (ClassId × FieldType)} {NW : List (String × Nat × MethodName × String)} {cc : ByteArray} {nL : Nat} {own : String} {Ts : List Cond} {mc ms : Nat} {ret : Option FieldType} {nm : String} {E : Option Value → va_W → Prop} {k j pc : Nat} {lv2 : List (Option Value)} {st : List Value} {ws : va_W} (hX : zX Z l R D cl tys NW cc nL own Ts mc ms ret nm E) (lv : List (Option Value)) (h : zl_le lv lv2) (kk : Z k j pc lv st ws) : Z k j pc lv2 st ws := z_less hX lv2 (zl_le_get lv lv2 h) kk
/-- an edge's number, or -1 -/
def zE (m e : Nat) : Int32 := if e < m then nI e else -1
theorem zE_in {m e : Nat} (h : e < m) : zE m e = nI e := if_pos h
theorem zE_out {m e : Nat} (h : m ≤ e) : zE m e = -1 := if_neg (by omega)
def zin (x : Int32) (n : Nat) : Bool := decide (¬ x < 0 ∧ ¬ nI n ≤ x)
theorem zin_lt {x : Int32} {n : Nat} (h : x < 0) : zin x n = false := decide_eq_false (fun hc => hc.1 h)
theorem zin_ge {x : Int32} {n : Nat} (h : nI n ≤ x) : zin x n = false := decide_eq_false (fun hc => hc.2 h)
theorem zin_in {x : Int32} {n : Nat} (h : ¬ x < 0) (h2 : ¬ nI n ≤ x) : zin x n = true := decide_eq_true ⟨h, h2⟩
theorem zin_of {x : Int32} {n : Nat} (hn : n < 2147483648) (h : zin x n = true) : ∃ i, i < n ∧ x = nI i := by
  obtain ⟨h1, h2⟩ := of_decide_eq_true h
  rcases pk_ix x (n := n) hn with h3 | h3 | h3
  · exact absurd h3 h1
  · exact absurd h3 h2
  · exact h3
theorem zin_nI {i n : Nat} (hi : i < n) (hn : n < 2147483648) : zin (nI i) n = true := zin_in (nI_pos (by omega)) (fun h => by
  have := (nI_leI (a := n) (b := i) hn (by omega)).mp h
  omega)
theorem sg_nx_hit {fr : Nat → Nat} {b m i : Nat} (hi : i < m) (hf : fr i = b) : sg_nx fr b (m - i) i = i := by
  obtain ⟨k, hk⟩ : ∃ k, m - i = k + 1 := ⟨m - i - 1, by omega⟩
  rw [hk]
  show (if fr i = b then i else _) = i
  rw [if_pos hf]
theorem sg_nx_miss {fr : Nat → Nat} {b m i : Nat} (hi : i < m) (hf : ¬ fr i = b) : sg_nx fr b (m - i) i = sg_nx fr b (m - (i + 1)) (i + 1) := by
  obtain ⟨k, hk⟩ : ∃ k, m - i = k + 1 := ⟨m - i - 1, by omega⟩
  rw [hk, show m - (i + 1) = k by omega]
  show (if fr i = b then i else _) = _
  rw [if_neg hf]
theorem sg_nx_end {fr : Nat → Nat} {b m i : Nat} (hi : m ≤ i) : sg_nx fr b (m - i) i = i := by
  rw [show m - i = 0 by omega]
  rfl
/-- the cells of a Graph -/
abbrev wG (cI : ClassId) (g f t n m : Nat) (fr to : Nat → Nat) : va_W := [(g, .inr (0, [.int (nI n), .ref f, .ref t, .int (nI m)])), (f, .inl (cI, 24, .inl (aN fr))), (t, .inl (cI, 24, .inl (aN to)))]
