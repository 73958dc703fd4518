/-! words for Counters -/
def aS (g : Nat → Nat → Bool) : Nat → Int32 := fun x => bS (g x)
theorem aS_up (g : Nat → Nat → Bool) (i : Nat) (v : Nat → Bool) : upd (aS g) i (bS v) = aS (va_up g i v) := by
  funext x
  by_cases h : x = i
  · subst h; rw [pk_us]; show _ = bS _; rw [va_up_self]
  · rw [pk_un h]; show bS _ = bS _; rw [va_up_ne _ _ h]
section ZS
variable {Z : zF} {l : Launch} {R : Room} {D : va_G} {cl : List vw_C} {tys : List (ClassId × FieldType)} {NW : List (String × Nat × MethodName × String)} {cc : ByteArray} {nL : Nat} {own : String} {Ts : List Cond} {mc ms : Nat} {ret : Option FieldType} {nm : String} {E : Option Value → va_W → Prop} {k j pc : Nat} {lv : List (Option Value)} {st : List Value} {ws : va_W}
theorem z_ldS (hX : zX Z l R D cl tys NW cc nL own Ts mc ms ret nm E) {cA : ClassId} {n a : Nat} {g : Nat → Nat → Bool} (q0 t0 i : Nat) {x : Int32} (ha : ws[q0]? = some (a, .inl (cA, n, .inl (aS g)))) (ht : tys[t0]? = some (cA, .int)) (hx0 : x = nI i) (hi : i < n) (hn : n < 2147483648) (hd : decode cc pc = .ok (.iaload, 1)) (kk : Z k j (pc + 1) lv (.int (bS (g i)) :: st) ws) : Z k j pc lv (.int x :: .ref a :: st) ws := z_iald hX q0 t0 i ha ht hx0 hi hn hd kk
theorem z_stS (hX : zX Z l R D cl tys NW cc nL own Ts mc ms ret nm E) {cA : ClassId} {n a : Nat} {g : Nat → Nat → Bool} (q0 t0 i : Nat) (v : Nat → Bool) {x y : Int32} (ha : ws[q0]? = some (a, .inl (cA, n, .inl (aS g)))) (ht : tys[t0]? = some (cA, .int)) (hx0 : x = nI i) (hy0 : y = bS v) (hi : i < n) (hn : n < 2147483648) (hd : decode cc pc = .ok (.iastore, 1)) (kk : Z k j (pc + 1) lv st (ws.set q0 (a, .inl (cA, n, .inl (aS (va_up g i v)))))) : Z k j pc lv (.int y :: .int x :: .ref a :: st) ws := by
  subst hy0
  exact z_iast hX q0 t0 i ha ht hx0 hi hn hd (aS_up g i v) kk
end ZS
abbrev wC (cI : ClassId) (ct g tr bh ht sp cp : Nat) (Bh : Nat → Nat → Bool) (H St Cm : Nat → Int) : va_W := [(ct, .inr (5, [.ref g, .ref tr, .ref bh, .ref ht, .ref sp, .ref cp])), (bh, .inl (cI, 24, .inl (aS Bh))), (ht, .inl (cI, 24, .inl (aI H))), (sp, .inl (cI, 12, .inl (aI St))), (cp, .inl (cI, 200, .inl (aI Cm)))]
def zw0 (B : Nat → Bool) : Option Nat → Int
  | none => 0
  | some p => sf_c (B p) 1
def zrl (B : Nat → Bool) (wh : Option Nat) (St : Nat → Int) (n : Nat) : Int := zw0 B wh + sf_sum (fun b => sf_c (B b) (St b)) n
def zho (fr to : Nat → Nat) (B : Nat → Bool) (H : Nat → Int) (m : Nat) : Int := sf_sum (fun e => sf_c (B (fr e)) (H e) - sf_c (B (to e)) (H e)) m
def zpo (fr to : Nat → Nat) (n m : Nat) (has : Nat → Bool) (Bh : Nat → Nat → Bool) (H St : Nat → Int) (wh : Option Nat) (e : Nat) : Int := if has e = true then (if Bh e (to e) = true then zrl (Bh e) wh St n + zho fr to (Bh e) H m else -(zrl (Bh e) wh St n + zho fr to (Bh e) H m)) else H e
def zpi (fr to : Nat → Nat) (n m : Nat) (has : Nat → Bool) (Bh : Nat → Nat → Bool) (H St : Nat → Int) (wh : Option Nat) (b : Nat) : Int := sf_sum (fun e => sf_c (decide (to e = b)) (zpo fr to n m has Bh H St wh e)) m
def zvi (fr to : Nat → Nat) (n m : Nat) (has : Nat → Bool) (Bh : Nat → Nat → Bool) (H St : Nat → Int) (wh : Option Nat) (b : Nat) : Int := if b = 0 then zpi fr to n m has Bh H St wh 1 + zrl (fun i => decide (i < n)) wh St n else zpi fr to n m has Bh H St wh b
def zpc (f : Nat → Int) (k : Nat) : Nat := sp_cnt (fun x => decide (¬ Int32.ofInt (f x) ≤ 0)) k
theorem zpc_t {f : Nat → Int} {k : Nat} (h : ¬ Int32.ofInt (f k) ≤ 0) : zpc f (k + 1) = zpc f k + 1 := by
  show _ + (if decide (¬ Int32.ofInt (f k) ≤ 0) = true then 1 else 0) = _
  rw [if_pos (decide_eq_true h)]; rfl
theorem zpc_f {f : Nat → Int} {k : Nat} (h : Int32.ofInt (f k) ≤ 0) : zpc f (k + 1) = zpc f k := by
  show _ + (if decide (¬ Int32.ofInt (f k) ≤ 0) = true then 1 else 0) = _
  rw [if_neg (fun hc => (of_decide_eq_true hc) h)]; rfl
theorem zbar_none {wh : Option Nat} (hb : ∀ b, wh = some b → b < 2147483648) (h : zbar wh = -1) : wh = none := by
  cases wh with
  | none => rfl
  | some b =>
    have h1 := nI_pos (n := b) (hb b rfl)
    rw [show nI b = -1 from h] at h1
    exact absurd (by decide) h1
