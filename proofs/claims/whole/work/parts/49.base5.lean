/-! words for Links -/
abbrev wK (cI : ClassId) (lk g s kt rw vl sv bs ko : Nat) (R V SV : Nat → Nat) (B : Nat → Int) (o2 : Nat → Nat) (wy : Nat) : va_W := [(lk, .inr (4, [.ref g, .ref s, .ref kt, .ref rw, .ref vl, .ref sv, .ref bs, .ref ko, .int (nI wy)])), (rw, .inl (cI, 12, .inl (aN R))), (vl, .inl (cI, 24, .inl (aN V))), (sv, .inl (cI, 24, .inl (aN SV))), (bs, .inl (cI, 12, .inl (aI B))), (ko, .inl (cI, 24, .inl (aN o2)))]
def ztg (bk : Nat → Bool) (to : Nat → Nat) (e : Nat) : Nat := if bk e = true then 1 else to e
theorem ztg_t {bk : Nat → Bool} {to : Nat → Nat} {e : Nat} (h : bk e = true) : ztg bk to e = 1 := if_pos h
theorem ztg_f {bk : Nat → Bool} {to : Nat → Nat} {e : Nat} (h : bk e = false) : ztg bk to e = to e := if_neg (by rw [h]; decide)
theorem ztg_lt {bk : Nat → Bool} {to : Nat → Nat} {e n : Nat} (hn : 2 ≤ n) (h : to e < n) : ztg bk to e < n := by
  unfold ztg
  split
  · omega
  · exact h
abbrev sv_fs (fr tg R : Nat → Nat) (b : Nat) : Nat → (Nat → Nat) × Nat → (Nat → Nat) × Nat := fun e s => if fr e = b then (va_up s.1 e s.2, s.2 + R (tg e)) else s
abbrev sv_ns (fr tg fin : Nat → Nat) (m : Nat) : Nat → (Nat → Nat) × (Nat → Nat) → (Nat → Nat) × (Nat → Nat) := fun i s => if fin i = 1 then s else ((sv_from fr tg s.2 (fin i) m s.1).1, va_up s.2 (fin i) (sv_from fr tg s.2 (fin i) m s.1).2)
theorem st_f_le (bk : Nat → Bool) (ord o0 : Nat → Nat) : ∀ i, (sp_it (st_f bk ord) i (o0, 0)).2 ≤ i := by
  intro i
  induction i with
  | zero => exact Nat.le_refl 0
  | succ i ih =>
    show (st_f bk ord i (sp_it (st_f bk ord) i (o0, 0))).2 ≤ i + 1
    generalize sp_it (st_f bk ord) i (o0, 0) = u at ih ⊢
    unfold st_f
    split
    · omega
    · show u.2 + 1 ≤ i + 1; omega
theorem st_f_in {bk : Nat → Bool} {ord o0 : Nat → Nat} {m : Nat} {P : Nat → Prop} (h : ∀ i, i < m → P (ord i)) : ∀ i, i ≤ m → ∀ x, x < (sp_it (st_f bk ord) i (o0, 0)).2 → P ((sp_it (st_f bk ord) i (o0, 0)).1 x) := by
  intro i
  induction i with
  | zero => intro _ x hx; exact absurd hx (Nat.not_lt_zero x)
  | succ i ih =>
    intro hi x hx
    have ih := ih (by omega)
    have hx : x < (st_f bk ord i (sp_it (st_f bk ord) i (o0, 0))).2 := hx
    show P ((st_f bk ord i (sp_it (st_f bk ord) i (o0, 0))).1 x)
    generalize sp_it (st_f bk ord) i (o0, 0) = u at ih hx ⊢
    unfold st_f at hx ⊢
    by_cases hb : bk (ord i) = true
    · rw [if_pos hb] at hx ⊢; exact ih x hx
    · rw [if_neg hb] at hx ⊢
      have hx : x < u.2 + 1 := hx
      show P (va_up u.1 u.2 (ord i) x)
      by_cases hxu : x = u.2
      · rw [hxu, sp_up_s]; exact h i (by omega)
      · rw [sp_up_n _ _ hxu]; exact ih x (by omega)
theorem va_up_id {S : Nat → Bool} {a : Nat} (h : S a = true) : va_up S a true = S := by
  funext x
  by_cases hx : x = a
  · subst hx; rw [sp_up_s, h]
  · rw [sp_up_n _ _ hx]
abbrev za (fr to : Nat → Nat) (V : Nat → Nat) (e : Nat) (s : sa_T) : sa_T := sa_s fr to (fun _ => true) (fun x => (V x : Int)) e s
theorem za_1 {fr to V : Nat → Nat} {e : Nat} {s : sa_T} (h1 : s.1 (fr e) = true) (h2 : s.1 (to e) = false) : za fr to V e s = (va_up s.1 (to e) true, va_up s.2 (to e) (s.2 (fr e) + V e)) := by
  show (if true = true then _ else _) = _
  rw [if_pos rfl, if_pos ⟨h1, h2⟩]
theorem za_2 {fr to V : Nat → Nat} {e : Nat} {s : sa_T} (h1 : s.1 (to e) = true) (h2 : s.1 (fr e) = false) : za fr to V e s = (va_up s.1 (fr e) true, va_up s.2 (fr e) (s.2 (to e) - V e)) := by
  show (if true = true then _ else _) = _
  rw [if_pos rfl, if_neg (fun hc => by rw [h2] at hc; exact absurd hc.1 (by decide)), if_pos ⟨h1, h2⟩]
theorem za_3 {fr to V : Nat → Nat} {e : Nat} {s : sa_T} (h : s.1 (fr e) = s.1 (to e)) : za fr to V e s = s := by
  show (if true = true then _ else _) = _
  rw [if_pos rfl, if_neg (fun hc => by rw [← h, hc.1] at hc; exact absurd hc.2 (by decide)), if_neg (fun hc => by rw [h, hc.1] at hc; exact absurd hc.2 (by decide))]
theorem za_has {fr to V : Nat → Nat} {has : Nat → Bool} {e : Nat} {s : sa_T} (h : has e = true) : sa_s fr to has (fun x => (V x : Int)) e s = za fr to V e s := by
  show (if has e = true then _ else _) = (if true = true then _ else _)
  rw [if_pos h, if_pos rfl]
theorem za_no {fr to V : Nat → Nat} {has : Nat → Bool} {e : Nat} {s : sa_T} (h : has e = false) : sa_s fr to has (fun x => (V x : Int)) e s = s := if_neg (by rw [h]; decide)
def zL (t : Nat) : Int32 := if t = 0 then -1 else nI (t - 1)
theorem zL_0 : zL 0 = -1 := rfl
theorem zL_s (e : Nat) : zL (e + 1) = nI e := rfl
theorem zL_ge {t : Nat} (h : t < 2147483648) : 0 ≤ zL t ↔ t ≠ 0 := by
  cases t with
  | zero => exact ⟨fun hc => absurd hc (by decide), fun hc => absurd rfl hc⟩
  | succ t => exact ⟨fun _ => Nat.succ_ne_zero t, fun _ => zi_ge0 (by omega)⟩
theorem zL_lt {t : Nat} (h : t < 2147483648) : zL t < 0 ↔ t = 0 := by
  cases t with
  | zero => exact ⟨fun _ => rfl, fun _ => by decide⟩
  | succ t => exact ⟨fun hc => absurd hc (nI_pos (by omega)), fun hc => absurd hc (Nat.succ_ne_zero t)⟩
theorem sw_last_le (p : Nat → Bool) (k : Nat) : sw_last p k ≤ k := by
  induction k with
  | zero => exact Nat.le_refl 0
  | succ k ih =>
    show (if p k = true then k + 1 else sw_last p k) ≤ k + 1
    split
    · exact Nat.le_refl _
    · omega
theorem sw_last_p {p : Nat → Bool} {k e : Nat} (h : sw_last p k = e + 1) : p e = true := by
  induction k with
  | zero => exact absurd h (by show ¬ 0 = e + 1; omega)
  | succ k ih =>
    have h : (if p k = true then k + 1 else sw_last p k) = e + 1 := h
    by_cases hp : p k = true
    · rw [if_pos hp] at h
      rw [show e = k by omega]; exact hp
    · rw [if_neg hp] at h; exact ih h
abbrev zps (bk : Nat → Bool) (SV : Nat → Nat) (w e : Nat) : Bool := bk e && decide (SV e ≤ w)
abbrev zpl (fr V : Nat → Nat) (b r e : Nat) : Bool := decide (fr e = b) && decide (V e ≤ r)
/-- the edge of the k-th link: s steps left, the i-th link is looked for, from b, with rest r -/
def zgo (fr tg V : Nat → Nat) (m : Nat) (k : Int32) : Nat → Nat → Nat → Nat → Int32
  | 0, _, _, _ => -2147483648
  | s + 1, i, b, r => if b = 1 then -2147483648 else if sw_last (zpl fr V b r) m = 0 then -2147483648 else if nI i = k then nI (sw_last (zpl fr V b r) m - 1) else zgo fr tg V m k s (i + 1) (tg (sw_last (zpl fr V b r) m - 1)) (r - V (sw_last (zpl fr V b r) m - 1))
