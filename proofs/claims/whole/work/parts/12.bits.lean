/-! sets of blocks as bits of an int; arrays of numbers -/
def bt (x : Int32) (i : Nat) : Bool := x.toBitVec.getLsbD i
theorem b_ext {x y : Int32} (h : ∀ i, i < 32 → bt x i = bt y i) : x = y := Int32.toBitVec_inj.mp (BitVec.eq_of_getLsbD_eq (fun i hi => h i hi))
theorem b_or (x y : Int32) (i : Nat) : bt (x ||| y) i = (bt x i || bt y i) := by unfold bt; rw [Int32.toBitVec_or, BitVec.getLsbD_or]
theorem b_and (x y : Int32) (i : Nat) : bt (x &&& y) i = (bt x i && bt y i) := by unfold bt; rw [Int32.toBitVec_and, BitVec.getLsbD_and]
theorem b_xor (x y : Int32) (i : Nat) : bt (x ^^^ y) i = (bt x i ^^ bt y i) := by unfold bt; rw [Int32.toBitVec_xor, BitVec.getLsbD_xor]
theorem b_big {x : Int32} {i : Nat} (h : 32 ≤ i) : bt x i = false := BitVec.getLsbD_of_ge _ _ h
theorem b_m1 : ∀ i, i < 32 → bt (-1) i = true := by decide +kernel
theorem b_0 (i : Nat) : bt 0 i = false := BitVec.getLsbD_zero
theorem s_l : ∀ n, n < 32 → ((nI n &&& 31).toBitVec.smod 32).toNat = n := by decide +kernel
theorem b_shl (n : Nat) (hn : n < 32) (x : Int32) {i : Nat} (hi : i < 32) : bt (x <<< (nI n &&& 31)) i = (decide (n ≤ i) && bt x (i - n)) := by
  unfold bt
  rw [Int32.toBitVec_shiftLeft]
  show (x.toBitVec <<< ((nI n &&& 31).toBitVec.smod 32).toNat).getLsbD i = _
  rw [s_l n hn, BitVec.getLsbD_shiftLeft]
  rcases Nat.lt_or_ge i n with h | h
  · simp [h, Nat.not_le.mpr h]
  · simp [hi, h, Nat.not_lt.mpr h]
theorem b_sshr (n : Nat) (hn : n < 32) (x : Int32) {i : Nat} (hi : i < 32) : bt (x >>> (nI n &&& 31)) i = if n + i < 32 then bt x (n + i) else bt x 31 := by
  unfold bt
  rw [Int32.toBitVec_shiftRight]
  show (x.toBitVec.sshiftRight ((nI n &&& 31).toBitVec.smod 32).toNat).getLsbD i = _
  rw [s_l n hn, BitVec.getLsbD_sshiftRight, BitVec.msb_eq_getLsbD_last]
  simp [hi]
theorem b_1 (i : Nat) : bt 1 i = decide (i = 0) := by
  rcases Nat.lt_or_ge i 32 with h | h
  · exact (by decide +kernel : ∀ i, i < 32 → bt 1 i = decide (i = 0)) i h
  · rw [b_big h, decide_eq_false (by omega)]
def zb_n (S : Nat → Bool) : Nat → Nat
  | 0 => 0
  | k + 1 => 2 ^ k * (S k).toNat + zb_n S k
theorem zb_lt (S : Nat → Bool) (k : Nat) : zb_n S k < 2 ^ k := by
  induction k with
  | zero => exact Nat.lt_succ_self 0
  | succ k ih =>
    show 2 ^ k * (S k).toNat + zb_n S k < 2 ^ (k + 1)
    rw [Nat.pow_succ]
    generalize 2 ^ k = P at ih ⊢
    cases S k
    · show P * 0 + _ < _; omega
    · show P * 1 + _ < _; omega
theorem zb_tb (S : Nat → Bool) (k i : Nat) : (zb_n S k).testBit i = (decide (i < k) && S i) := by
  induction k with
  | zero =>
    rw [decide_eq_false (Nat.not_lt_zero i), Bool.false_and]
    exact Nat.zero_testBit i
  | succ k ih =>
    show (2 ^ k * (S k).toNat + zb_n S k).testBit i = _
    rw [Nat.testBit_two_pow_mul_add _ (zb_lt S k), ih]
    by_cases h1 : i < k
    · rw [if_pos h1, decide_eq_true h1, decide_eq_true (show i < k + 1 by omega)]
    · rw [if_neg h1]
      by_cases h2 : i = k
      · subst h2
        rw [Nat.sub_self, decide_eq_true (show i < i + 1 by omega), Bool.true_and]
        cases S i <;> decide
      · rw [decide_eq_false (show ¬ i < k + 1 by omega), Bool.false_and]
        obtain ⟨t, ht⟩ : ∃ t, i - k = t + 1 := ⟨i - k - 1, by omega⟩
        rw [ht]
        cases S k
        · exact Nat.zero_testBit _
        · show Nat.testBit 1 (t + 1) = false
          rw [Nat.testBit_succ]
          exact Nat.zero_testBit _
/-- the int of a set of blocks below 31 -/
def bS (S : Nat → Bool) : Int32 := nI (zb_n S 31)
theorem bS_bt (S : Nat → Bool) (i : Nat) : bt (bS S) i = (decide (i < 31) && S i) := by
  show (BitVec.ofNat 32 (zb_n S 31)).getLsbD i = _
  rw [BitVec.getLsbD_ofNat, zb_tb]
  by_cases h : i < 31
  · rw [decide_eq_true h, decide_eq_true (show i < 32 by omega), Bool.true_and]
  · rw [decide_eq_false h, Bool.false_and, Bool.and_false]
theorem bS_congr {S T : Nat → Bool} (h : ∀ i, i < 31 → S i = T i) : bS S = bS T := b_ext (fun i _ => by
  rw [bS_bt, bS_bt]
  by_cases hi : i < 31
  · rw [h i hi]
  · rw [decide_eq_false hi, Bool.false_and, Bool.false_and])
theorem bS_eq {S T : Nat → Bool} : bS S = bS T ↔ ∀ i, i < 31 → S i = T i := by
  constructor
  · intro h i hi
    have h1 := congrArg (fun x => bt x i) h
    simp only [bS_bt, decide_eq_true hi, Bool.true_and] at h1
    exact h1
  · exact bS_congr
theorem bS_or (S T : Nat → Bool) : bS S ||| bS T = bS (fun i => S i || T i) := b_ext (fun i _ => by
  rw [b_or, bS_bt, bS_bt, bS_bt]
  cases decide (i < 31) <;> rfl)
theorem bS_and (S T : Nat → Bool) : bS S &&& bS T = bS (fun i => S i && T i) := b_ext (fun i _ => by
  rw [b_and, bS_bt, bS_bt, bS_bt]
  cases decide (i < 31) <;> rfl)
theorem bS_andn (S T : Nat → Bool) : bS S &&& (bS T ^^^ (-1)) = bS (fun i => S i && !T i) := b_ext (fun i hi => by
  rw [b_and, b_xor, bS_bt, bS_bt, bS_bt, b_m1 i hi]
  cases decide (i < 31) <;> cases S i <;> cases T i <;> rfl)
theorem bS_bit {b : Nat} (hb : b < 31) : (1 : Int32) <<< (nI b &&& 31) = bS (fun i => decide (i = b)) := b_ext (fun i hi => by
  rw [b_shl b (by omega) 1 hi, bS_bt, b_1]
  by_cases h : i = b
  · subst h
    rw [decide_eq_true (Nat.le_refl i), decide_eq_true hb, Nat.sub_self]
    simp
  · rw [decide_eq_false h, Bool.and_false]
    by_cases h2 : b ≤ i
    · rw [decide_eq_false (show ¬ i - b = 0 by omega), Bool.and_false]
    · rw [decide_eq_false h2, Bool.false_and])
theorem bS_put (S : Nat → Bool) (b : Nat) : bS S ||| bS (fun i => decide (i = b)) = bS (va_up S b true) := by
  rw [bS_or]
  refine bS_congr (fun i _ => ?_)
  by_cases h : i = b
  · simp [va_up, h]
  · simp [va_up, h]
theorem bS_cut (S : Nat → Bool) (b : Nat) : bS S &&& (bS (fun i => decide (i = b)) ^^^ (-1)) = bS (va_up S b false) := by
  rw [bS_andn]
  refine bS_congr (fun i _ => ?_)
  by_cases h : i = b
  · simp [va_up, h]
  · simp [va_up, h]
def bN (b : Bool) : Int32 := if b = true then 1 else 0
theorem bS_in (S : Nat → Bool) {b : Nat} (hb : b < 31) : (bS S >>> (nI b &&& 31)) &&& 1 = bN (S b) := b_ext (fun i hi => by
  rw [b_and, b_sshr b (by omega) _ hi, b_1]
  by_cases h : i = 0
  · subst h
    rw [if_pos (by omega), Nat.add_zero, bS_bt, decide_eq_true hb]
    cases S b <;> decide
  · rw [decide_eq_false h, Bool.and_false]
    unfold bN
    cases S b
    · show false = bt 0 i; rw [b_0]
    · show false = bt 1 i; rw [b_1, decide_eq_false h])
theorem bS_all : ∀ n, n < 13 → ((1 : Int32) <<< (nI n &&& 31)) - 1 = bS (fun i => decide (i < n)) := by decide +kernel
theorem bS_none : bS (fun _ => false) = 0 := by decide +kernel
theorem bN_0 (b : Bool) : bN b = 0 ↔ b = false := by cases b <;> decide
theorem bN_n (b : Bool) : narrow .boolean (.int (bN b)) = .int (bN b) := by cases b <;> decide
theorem bN_v (b : Bool) : vp_nar .boolean (bN b) = bN b := by cases b <;> decide
/-- arrays of naturals, integers, truth values -/
def aN (g : Nat → Nat) : Nat → Int32 := fun x => nI (g x)
def aI (g : Nat → Int) : Nat → Int32 := fun x => Int32.ofInt (g x)
def aB (g : Nat → Bool) : Nat → Int32 := fun x => bN (g x)
theorem aN_up (g : Nat → Nat) (i v : Nat) : upd (aN g) i (nI v) = aN (va_up g i v) := by
  funext x
  by_cases h : x = i
  · subst h; rw [pk_us]; show _ = nI _; rw [va_up_self]
  · rw [pk_un h]; show nI _ = nI _; rw [va_up_ne _ _ h]
theorem aI_up (g : Nat → Int) (i : Nat) (v : Int) : upd (aI g) i (Int32.ofInt v) = aI (va_up g i v) := by
  funext x
  by_cases h : x = i
  · subst h; rw [pk_us]; show _ = Int32.ofInt _; rw [va_up_self]
  · rw [pk_un h]; show Int32.ofInt _ = Int32.ofInt _; rw [va_up_ne _ _ h]
theorem aB_up (g : Nat → Bool) (i : Nat) (v : Bool) : upd (aB g) i (vp_nar .boolean (bN v)) = aB (va_up g i v) := by
  rw [bN_v]
  funext x
  by_cases h : x = i
  · subst h; rw [pk_us]; show _ = bN _; rw [va_up_self]
  · rw [pk_un h]; show bN _ = bN _; rw [va_up_ne _ _ h]
theorem aN_0 : (fun _ => 0 : Nat → Int32) = aN (fun _ => 0) := rfl
theorem aI_0 : (fun _ => 0 : Nat → Int32) = aI (fun _ => 0) := rfl
theorem aB_0 : (fun _ => 0 : Nat → Int32) = aB (fun _ => false) := rfl
section ZA
variable {Z : zF} {l : Launch} {R : Room} {D : va_G} {cl : List vw_C} {tys : List (ClassId × FieldType)} {NW : List (String × Nat × MethodName × String)} {cc : ByteArray} {nL : Nat} {own : String} {Ts : List Cond} {mc ms : Nat} {ret : Option FieldType} {nm : String} {E : Option Value → va_W → Prop} {k j pc : Nat} {lv : List (Option Value)} {st : List Value} {ws : va_W}
theorem z_ldN (hX : zX Z l R D cl tys NW cc nL own Ts mc ms ret nm E) {cA : ClassId} {n a : Nat} {g : Nat → Nat} (q0 t0 i : Nat) {x : Int32} (ha : ws[q0]? = some (a, .inl (cA, n, .inl (aN g)))) (ht : tys[t0]? = some (cA, .int)) (hx0 : x = nI i) (hi : i < n) (hn : n < 2147483648) (hd : decode cc pc = .ok (.iaload, 1)) (kk : Z k j (pc + 1) lv (.int (nI (g i)) :: st) ws) : Z k j pc lv (.int x :: .ref a :: st) ws := z_iald hX q0 t0 i ha ht hx0 hi hn hd kk
theorem z_stN (hX : zX Z l R D cl tys NW cc nL own Ts mc ms ret nm E) {cA : ClassId} {n a : Nat} {g : Nat → Nat} (q0 t0 i : Nat) (v : Nat) {x y : Int32} (ha : ws[q0]? = some (a, .inl (cA, n, .inl (aN g)))) (ht : tys[t0]? = some (cA, .int)) (hx0 : x = nI i) (hy0 : y = nI v) (hi : i < n) (hn : n < 2147483648) (hd : decode cc pc = .ok (.iastore, 1)) (kk : Z k j (pc + 1) lv st (ws.set q0 (a, .inl (cA, n, .inl (aN (va_up g i v)))))) : Z k j pc lv (.int y :: .int x :: .ref a :: st) ws := by
  subst hy0
  exact z_iast hX q0 t0 i ha ht hx0 hi hn hd (aN_up g i v) kk
theorem z_ldI (hX : zX Z l R D cl tys NW cc nL own Ts mc ms ret nm E) {cA : ClassId} {n a : Nat} {g : Nat → Int} (q0 t0 i : Nat) {x : Int32} (ha : ws[q0]? = some (a, .inl (cA, n, .inl (aI g)))) (ht : tys[t0]? = some (cA, .int)) (hx0 : x = nI i) (hi : i < n) (hn : n < 2147483648) (hd : decode cc pc = .ok (.iaload, 1)) (kk : Z k j (pc + 1) lv (.int (Int32.ofInt (g i)) :: st) ws) : Z k j pc lv (.int x :: .ref a :: st) ws := z_iald hX q0 t0 i ha ht hx0 hi hn hd kk
theorem z_stI (hX : zX Z l R D cl tys NW cc nL own Ts mc ms ret nm E) {cA : ClassId} {n a : Nat} {g : Nat → Int} (q0 t0 i : Nat) (v : Int) {x y : Int32} (ha : ws[q0]? = some (a, .inl (cA, n, .inl (aI g)))) (ht : tys[t0]? = some (cA, .int)) (hx0 : x = nI i) (hy0 : y = Int32.ofInt v) (hi : i < n) (hn : n < 2147483648) (hd : decode cc pc = .ok (.iastore, 1)) (kk : Z k j (pc + 1) lv st (ws.set q0 (a, .inl (cA, n, .inl (aI (va_up g i v)))))) : Z k j pc lv (.int y :: .int x :: .ref a :: st) ws := by
  subst hy0
  exact z_iast hX q0 t0 i ha ht hx0 hi hn hd (aI_up g i v) kk
theorem z_ldB (hX : zX Z l R D cl tys NW cc nL own Ts mc ms ret nm E) {cA : ClassId} {n a : Nat} {g : Nat → Bool} (q0 t0 i : Nat) {x : Int32} (ha : ws[q0]? = some (a, .inl (cA, n, .inl (aB g)))) (ht : tys[t0]? = some (cA, .boolean)) (hx0 : x = nI i) (hi : i < n) (hn : n < 2147483648) (hd : decode cc pc = .ok (.baload, 1)) (kk : Z k j (pc + 1) lv (.int (bN (g i)) :: st) ws) : Z k j pc lv (.int x :: .ref a :: st) ws := z_zald hX q0 t0 i ha ht hx0 hi hn hd kk
theorem z_stB (hX : zX Z l R D cl tys NW cc nL own Ts mc ms ret nm E) {cA : ClassId} {n a : Nat} {g : Nat → Bool} (q0 t0 i : Nat) (v : Bool) {x y : Int32} (ha : ws[q0]? = some (a, .inl (cA, n, .inl (aB g)))) (ht : tys[t0]? = some (cA, .boolean)) (hx0 : x = nI i) (hy0 : y = bN v) (hi : i < n) (hn : n < 2147483648) (hd : decode cc pc = .ok (.bastore, 1)) (kk : Z k j (pc + 1) lv st (ws.set q0 (a, .inl (cA, n, .inl (aB (va_up g i v)))))) : Z k j pc lv (.int y :: .int x :: .ref a :: st) ws := by
  subst hy0
  exact z_zast hX q0 t0 i ha ht hx0 hi hn hd (aB_up g i v) kk
theorem z_icmp_eqN (hX : zX Z l R D cl tys NW cc nL own Ts mc ms ret nm E) {a b : Nat} {off : Int} (tgt : Nat) (ha : a < 2147483648) (hb : b < 2147483648) (hd : decode cc pc = .ok (.if_icmp .eq off, 3)) (ht : (pc : Int) + off = (tgt : Int)) (kt : a = b → Z k j tgt lv st ws) (kf : ¬ a = b → Z k j (pc + 3) lv st ws) : Z k j pc lv (.int (nI b) :: .int (nI a) :: st) ws := z_icmp_eq hX tgt hd ht (fun h => kt ((nI_eq ha hb).mp h)) (fun h => kf (fun h2 => h ((nI_eq ha hb).mpr h2)))
theorem z_icmp_neN (hX : zX Z l R D cl tys NW cc nL own Ts mc ms ret nm E) {a b : Nat} {off : Int} (tgt : Nat) (ha : a < 2147483648) (hb : b < 2147483648) (hd : decode cc pc = .ok (.if_icmp .ne off, 3)) (ht : (pc : Int) + off = (tgt : Int)) (kt : ¬ a = b → Z k j tgt lv st ws) (kf : a = b → Z k j (pc + 3) lv st ws) : Z k j pc lv (.int (nI b) :: .int (nI a) :: st) ws := z_icmp_ne hX tgt hd ht (fun h => kt (fun h2 => h ((nI_eq ha hb).mpr h2))) (fun h => kf ((nI_eq ha hb).mp h))
theorem z_icmp_ltN (hX : zX Z l R D cl tys NW cc nL own Ts mc ms ret nm E) {a b : Nat} {off : Int} (tgt : Nat) (ha : a < 2147483648) (hb : b < 2147483648) (hd : decode cc pc = .ok (.if_icmp .lt off, 3)) (ht : (pc : Int) + off = (tgt : Int)) (kt : a < b → Z k j tgt lv st ws) (kf : b ≤ a → Z k j (pc + 3) lv st ws) : Z k j pc lv (.int (nI b) :: .int (nI a) :: st) ws := z_icmp_lt hX tgt hd ht (fun h => kt ((nI_ltI ha hb).mp h)) (fun h => kf (Nat.not_lt.mp (fun h2 => h ((nI_ltI ha hb).mpr h2))))
theorem z_icmp_geN (hX : zX Z l R D cl tys NW cc nL own Ts mc ms ret nm E) {a b : Nat} {off : Int} (tgt : Nat) (ha : a < 2147483648) (hb : b < 2147483648) (hd : decode cc pc = .ok (.if_icmp .ge off, 3)) (ht : (pc : Int) + off = (tgt : Int)) (kt : b ≤ a → Z k j tgt lv st ws) (kf : a < b → Z k j (pc + 3) lv st ws) : Z k j pc lv (.int (nI b) :: .int (nI a) :: st) ws := z_icmp_ge hX tgt hd ht (fun h => kt ((nI_leI hb ha).mp h)) (fun h => kf (Nat.not_le.mp (fun h2 => h ((nI_leI hb ha).mpr h2))))
theorem z_icmp_gtN (hX : zX Z l R D cl tys NW cc nL own Ts mc ms ret nm E) {a b : Nat} {off : Int} (tgt : Nat) (ha : a < 2147483648) (hb : b < 2147483648) (hd : decode cc pc = .ok (.if_icmp .gt off, 3)) (ht : (pc : Int) + off = (tgt : Int)) (kt : b < a → Z k j tgt lv st ws) (kf : a ≤ b → Z k j (pc + 3) lv st ws) : Z k j pc lv (.int (nI b) :: .int (nI a) :: st) ws := z_icmp_gt hX tgt hd ht (fun h => kt ((nI_ltI hb ha).mp h)) (fun h => kf (Nat.not_lt.mp (fun h2 => h ((nI_ltI hb ha).mpr h2))))
theorem z_icmp_leN (hX : zX Z l R D cl tys NW cc nL own Ts mc ms ret nm E) {a b : Nat} {off : Int} (tgt : Nat) (ha : a < 2147483648) (hb : b < 2147483648) (hd : decode cc pc = .ok (.if_icmp .le off, 3)) (ht : (pc : Int) + off = (tgt : Int)) (kt : a ≤ b → Z k j tgt lv st ws) (kf : b < a → Z k j (pc + 3) lv st ws) : Z k j pc lv (.int (nI b) :: .int (nI a) :: st) ws := z_icmp_le hX tgt hd ht (fun h => kt ((nI_leI ha hb).mp h)) (fun h => kf (Nat.not_le.mp (fun h2 => h ((nI_leI ha hb).mpr h2))))
theorem z_if_eqB (hX : zX Z l R D cl tys NW cc nL own Ts mc ms ret nm E) {b : Bool} {off : Int} (tgt : Nat) (hd : decode cc pc = .ok (.ifCond .eq off, 3)) (ht : (pc : Int) + off = (tgt : Int)) (kt : b = false → Z k j tgt lv st ws) (kf : b = true → Z k j (pc + 3) lv st ws) : Z k j pc lv (.int (bN b) :: st) ws := z_if_eq hX tgt hd ht (fun h => kt ((bN_0 b).mp h)) (fun h => kf (by cases hb : b with
    | true => rfl
    | false => exact absurd ((bN_0 b).mpr hb) h))
theorem z_if_neB (hX : zX Z l R D cl tys NW cc nL own Ts mc ms ret nm E) {b : Bool} {off : Int} (tgt : Nat) (hd : decode cc pc = .ok (.ifCond .ne off, 3)) (ht : (pc : Int) + off = (tgt : Int)) (kt : b = true → Z k j tgt lv st ws) (kf : b = false → Z k j (pc + 3) lv st ws) : Z k j pc lv (.int (bN b) :: st) ws := z_if_ne hX tgt hd ht (fun h => kt (by cases hb : b with
    | true => rfl
    | false => exact absurd ((bN_0 b).mpr hb) h)) (fun h => kf ((bN_0 b).mp h))
end ZA
