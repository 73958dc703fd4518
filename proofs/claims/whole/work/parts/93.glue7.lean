/-! glue: sealing, the reference's half and the class's half -/
theorem zlinks2 {n m : Nat} {fr to : Nat → Nat} {bk bk2 : Nat → Bool} (hg : sg_ok n m fr to) (hb : ∀ e, e < m → bk2 e = bk e) (I0 : Nat → Bool) (F0 T0 : Nat → Nat) : (∀ e, e < m → zAI m bk2 I0 e = true ∧ zAF m fr F0 e = fr e ∧ zAT m to bk2 T0 e = ztg bk to e) ∧ (∀ e, e < m → bk e = true → zAI m bk2 I0 (24 + e) = true ∧ zAF m fr F0 (24 + e) = 0 ∧ zAT m to bk2 T0 (24 + e) = to e) ∧ zcl m bk (zAI m bk2 I0) (zAT m to bk2 T0) := by
  obtain ⟨hn, hn2, hm, hgo⟩ := hg
  have h1 : ∀ e, e < m → sl_is m bk e = true := fun e he => by
    unfold sl_is
    rw [if_pos (by omega)]
    exact decide_eq_true he
  have h2 : ∀ e, e < m → bk e = true → sl_is m bk (24 + e) = true := fun e he hbe => by
    unfold sl_is
    rw [if_neg (by omega), Nat.add_sub_cancel_left, decide_eq_true he, hbe]
    rfl
  have q1 : ∀ e, e < m → zAI m bk2 I0 e = true ∧ zAF m fr F0 e = fr e ∧ zAT m to bk2 T0 e = ztg bk to e := fun e he => by
    rw [zIL hb I0 (by omega), zLF F0 (by omega) (h1 e he), zLT hb T0 (by omega) (h1 e he)]
    exact ⟨h1 e he, if_pos (by omega), if_pos (by omega)⟩
  have q2 : ∀ e, e < m → bk e = true → zAI m bk2 I0 (24 + e) = true ∧ zAF m fr F0 (24 + e) = 0 ∧ zAT m to bk2 T0 (24 + e) = to e := fun e he hbe => by
    rw [zIL hb I0 (by omega), zLF F0 (by omega) (h2 e he hbe), zLT hb T0 (by omega) (h2 e he hbe)]
    refine ⟨h2 e he hbe, if_neg (by omega), ?_⟩
    unfold sl_t
    rw [if_neg (by omega), Nat.add_sub_cancel_left]
  have q3 : ∀ l, l < 48 → zAI m bk2 I0 l = true → l < m ∨ ∃ e, e < m ∧ l = 24 + e ∧ bk e = true := fun l hl h => by
    rw [zIL hb I0 hl] at h
    unfold sl_is at h
    by_cases hc : l < 24
    · rw [if_pos hc] at h
      exact Or.inl (of_decide_eq_true h)
    · rw [if_neg hc, Bool.and_eq_true] at h
      exact Or.inr ⟨l - 24, of_decide_eq_true h.1, by omega, h.2⟩
  refine ⟨q1, q2, q3, fun l hl h => ?_⟩
  rcases q3 l hl h with h3 | ⟨e, h3, h4, h5⟩
  · rw [(q1 l h3).2.2]
    unfold ztg
    by_cases hbl : bk l = true
    · rw [if_pos hbl]; decide
    · rw [if_neg hbl]; exact (hgo l h3).2.2.2
  · rw [h4, (q2 e h3 h5).2.2]
    exact (hgo e h3).2.2.2
theorem sp_cnt_inj {so : Nat → Nat} {m : Nat} : ∀ (k : Nat) (p : Nat → Bool), (∀ i, i < k → so i < m) → (∀ i j, i < k → j < k → so i = so j → i = j) → sp_cnt (fun i => p (so i)) k ≤ sp_cnt p m := by
  intro k
  induction k with
  | zero => intro p _ _; exact Nat.zero_le _
  | succ k ih =>
    intro p h1 h2
    cases hp : p (so k) with
    | false =>
      rw [sp_cnt_f (p := fun i => p (so i)) (i := k) hp]
      exact ih p (fun i hi => h1 i (by omega)) (fun i j hi hj => h2 i j (by omega) (by omega))
    | true =>
      rw [sp_cnt_t (p := fun i => p (so i)) (i := k) hp]
      have h3 := ih (va_up p (so k) false) (fun i hi => h1 i (by omega)) (fun i j hi hj => h2 i j (by omega) (by omega))
      have h4 : sp_cnt (fun i => va_up p (so k) false (so i)) k = sp_cnt (fun i => p (so i)) k := sp_cnt_congr (fun i hi => sp_up_n _ _ (fun hh => by have := h2 i k (by omega) (by omega) hh; omega))
      have h5 : sp_cnt p m = sp_cnt (va_up p (so k) false) m + 1 := sp_cnt_up (h1 k (by omega)) (sp_up_s _ _ _) hp (fun i _ hi => (sp_up_n _ _ hi).symm)
      omega
theorem zcnt48 {so : Nat → Nat} {bk : Nat → Bool} {m : Nat} (hm : m ≤ 24) (h1 : ∀ i, i < m → so i < m) (h2 : ∀ i j, i < m → j < m → so i = so j → i = j) : sp_cnt (fun i => !bk (so i)) m + 2 * sp_cnt bk m ≤ 48 := by
  have h3 := sp_cnt_inj m (fun e => !bk e) h1 h2
  have h4 : sp_cnt (fun _ => true) m = sp_cnt bk m + sp_cnt (fun e => !bk e) m := sp_cnt_split (fun i _ => ⟨fun _ => by cases hb : bk i with
    | true => exact Or.inl rfl
    | false => exact Or.inr rfl, fun _ => rfl⟩) (fun i _ hc => by
      have h9 := hc.2
      rw [hc.1] at h9
      cases h9)
  rw [sp_cnt_true] at h4
  have h5 := sp_cnt_le bk m
  omega
theorem zord {w : Nat → Nat} {m : Nat} (hw : ∀ f, f < m → w f ≤ m) (t : Nat → Nat) : (∀ x, x < m → so_ref w m t x < m) ∧ (∀ i j, i < m → j < m → so_ref w m t i = so_ref w m t j → i = j) ∧ (∀ e, e < m → ∃ x, x < m ∧ so_ref w m t x = e) ∧ ∀ s x, x < m → (so_sys w m s).1 x = so_ref w m t x := by
  have h1 := fun s => so_same hw s t
  have h2 := (so_sys_spec hw t).2
  have h3 : ∀ x, x < m → so_rk w m (so_ref w m t x) = x := fun x hx => by
    obtain ⟨e, e1, e2, e3⟩ := h2 x hx
    rw [← (h1 t x hx).1, e2, e3]
  exact ⟨fun x hx => (h1 t x hx).2, fun i j hi hj hij => by rw [← h3 i hi, ← h3 j hj, hij], fun e he => ⟨so_rk w m e, so_rk_in he, so_ref_spec w m t e he⟩, fun s x hx => (h1 s x hx).1⟩
theorem sv_Oc {n m : Nat} {fr tg tg' fin : Nat → Nat} (h : ∀ e, e < m → tg' e = tg e) (hO : sv_O n m fr tg fin) : sv_O n m fr tg' fin := ⟨hO.1, hO.2.1, hO.2.2.1, fun e he => by rw [h e he]; exact hO.2.2.2 e he⟩
theorem ztg_c {m : Nat} {to : Nat → Nat} {bk bk2 : Nat → Bool} (hb : ∀ e, e < m → bk2 e = bk e) : ∀ e, e < m → ztg bk2 to e = ztg bk to e := fun e he => by
  unfold ztg
  rw [hb e he]
theorem zmet {n m : Nat} {fr to mt nx pa : Nat → Nat} {bk0 : Nat → Bool} {met2 nx2 pa2 : Nat → Nat} {h2 : Nat} {bk2 : Nat → Bool} (hg : sg_ok n m fr to) (h3 : sq_run fr to m (n + m) (zq0 n mt nx pa bk0) = (met2, nx2, pa2, h2, bk2)) : (∀ b, b < n → met2 b ≤ 2) ∧ ((∀ b, b < n → met2 b ≠ 0) → (∃ fin, sv_O n m fr (ztg bk2 to) fin) ∧ (∀ b, b < n → ∀ S : Nat → Bool, (∀ e, e < m → bk2 e = false → S (fr e) = S (to e)) → S b = S 0) ∧ ∀ e, e < m → bk2 e = true → to e ≠ 1) := by
  obtain ⟨⟨met, look, sq, hq, bq, fq, k⟩, h1⟩ : ∃ x, ss_run fr to m (n + m) (zst (fun _ => 0) (fun _ => 0) (fun _ => 0) (fun _ => false)) = x := ⟨_, rfl⟩
  obtain ⟨r1, r2, r3, r4⟩ := zse hg h1 h3
  refine ⟨fun b hb => by rw [r1 b hb]; exact r2 b hb, fun hall => ?_⟩
  obtain ⟨k1, k2, k3, k4, k5⟩ := r4 (fun b hb => by rw [← r1 b hb]; exact hall b hb)
  exact ⟨⟨fq, sv_Oc (ztg_c k2) k3⟩, fun b hb S hS => k4 b hb S (fun e he hbe => hS e he ((k2 e he).trans hbe)), fun e he hbe => k5 e he ((k2 e he).symm.trans hbe)⟩
theorem zcon {n m : Nat} {fr to met : Nat → Nat} {S : Nat → Bool} (hn : 2 ≤ n) (hok : ∀ e, e < m → fr e < n ∧ to e < n) (h : zcb (sp_it (fun _ => sr_r fr to none m) n (zmk S n)) met n = true) : (∀ b, b < n → met b = 2) ∧ ∀ b, b < n → b ≠ 1 → ∃ e, e < m ∧ fr e = b := by
  have h1 : ∀ b, b < n → sp_it (fun _ => sr_r fr to none m) n (zmk S n) b = true ∧ met b = 2 := of_decide_eq_true h
  refine ⟨fun b hb => (h1 b hb).2, fun b hb hb1 => ?_⟩
  have h2 := (h1 b hb).1
  rw [zcn hn hok S b hb] at h2
  rcases zout (n - 1) b h2 with h3 | h3
  · exact absurd h3 hb1
  · exact h3
theorem zrank {n m : Nat} {fr to : Nat → Nat} {bk2 : Nat → Bool} (hg : sg_ok n m fr to) (hO : ∃ fin, sv_O n m fr (ztg bk2 to) fin) (hout : ∀ b, b < n → b ≠ 1 → ∃ e, e < m ∧ fr e = b) (I0 : Nat → Bool) (F0 T0 R0 : Nat → Nat) : ∃ rho : Nat → Nat, rho 1 = 0 ∧ rho 0 = n ∧ (∀ b, b < n → rho b ≤ n) ∧ sw_H n 48 (zAI m bk2 I0) (zAF m fr F0) (zAT m to bk2 T0) (zAR n (zAI m bk2 I0) (zAF m fr F0) (zAT m to bk2 T0) R0) rho ∧ zAR n (zAI m bk2 I0) (zAF m fr F0) (zAT m to bk2 T0) R0 0 < 2147483648 := by
  obtain ⟨fin, hO⟩ := hO
  have hR := sv_num_spec hO (fun e he => (hg.2.2.2 e he).1) (fun _ => 0) (fun _ => 0)
  obtain ⟨rho, p1, p2, p3, p4, p5, p6, p7⟩ := zlinks hg (fun _ _ => rfl) hO hR hout I0 F0 T0 R0
  refine ⟨rho, p1, p2, p3, p4, ?_⟩
  have hb := sl_bound (bk := bk2) hg.2.2.1 (by have := hg.1; omega) (fun e he => (hg.2.2.2 e he).2.1) (sv_bound hO hR.1 hR.2.1) 0 (by have := hg.1; omega)
  rw [p5 0 (by have := hg.1; omega)]
  omega
def zMS (n m : Nat) (fr to : Nat → Nat) (bk isL : Nat → Bool) (lf lt Rw d : Nat → Nat) (T : Nat → Bool) (B : Nat → Int) : Prop :=
  d = sp_it (zde fr to bk m n) m (fun _ => 0) ∧ ∃ so : Nat → Nat, (∀ t x, x < m → (so_sys (zwt fr to d) m t).1 x = so x) ∧ (∀ x, x < m → so x < m) ∧ (∀ i j, i < m → j < m → so i = so j → i = j) ∧ (∀ e, e < m → ∃ x, x < m ∧ so x = e) ∧
  (∀ grp e, e < m → T e = (sp_it (st_g fr to so n) m (sj_join n (zid grp n) 0 1, fun _ => false)).2 e) ∧
  ∀ o2 grp2, B = (sp_it (fun _ => sa_r fr to (sp_it (st_g fr to (sp_it (st_f bk so) m (o2, 0)).1 n) (sp_it (st_f bk so) m (o2, 0)).2 (sj_join n (zid grp2 n) 0 1, fun _ => false)).2 (fun x => (sw_V isL lf lt Rw x : Int)) m) (n - 1) ((fun b => decide (b = 0 ∨ b = 1)), fun _ => 0)).2
theorem zdle {n m : Nat} {fr to : Nat → Nat} {bk : Nat → Bool} : ∀ f, zwt fr to (sp_it (zde fr to bk m n) m (fun _ => 0)) f ≤ m := fun f => Nat.le_trans (Nat.min_le_left _ _) (zde_le fr to bk m n m _)
theorem zMS_of {n m : Nat} {fr to : Nat → Nat} {bk isL : Nat → Bool} {lf lt Rw d : Nat → Nat} (hg : sg_ok n m fr to) (hjoin : ∀ b, b < n → ∀ S : Nat → Bool, (∀ e, e < m → bk e = false → S (fr e) = S (to e)) → S b = S 0) (hlo : ∀ e, e < m → isL e = true ∧ lf e = fr e ∧ lt e = ztg bk to e) (hcl : ∀ l, l < 48 → isL l = true → l < m ∨ ∃ e, e < m ∧ l = 24 + e ∧ bk e = true) (hd : d = sp_it (zde fr to bk m n) m (fun _ => 0)) (so0 : Nat → Nat) {A0 B0 A1 B1 : Nat → Nat} {S0 T0 S1 L0 : Nat → Bool} {s1 s2 s3 s4 : zgT} (h1 : sp_it (zg1 fr to (so_ref (zwt fr to d) m so0) n) m (0, A0, B0, S0, T0) = s1) (h2 : sp_it (zg2 fr to (so_ref (zwt fr to d) m so0) bk n) m (0, A1, B1, S1, L0) = s2) (h3 : sp_it (zg3 to bk n) m s2 = s3) (h4 : sp_it (zg4 fr bk n) m s3 = s4) {S5 : Nat → Bool} {B5 : Nat → Int} (hB : sp_it (fun _ p => sp_it (zfb isL s4.2.2.2.2 lf lt Rw) 48 p) n (sp_it zb2 n (fun _ => false), sp_it zbz0 n (fun _ => 0)) = (S5, B5)) : zMS n m fr to bk isL lf lt Rw d s1.2.2.2.2 B5 := by
  refine ⟨hd, so_ref (zwt fr to d) m so0, ?_⟩
  have hw : ∀ f, f < m → zwt fr to d f ≤ m := fun f _ => by rw [hd]; exact zdle f
  obtain ⟨o1, o2, o3, o4⟩ := zord hw so0
  have hn := hg.1
  have hm := hg.2.2.1
  have hok : ∀ e, e < m → fr e < n ∧ to e < n := fun e he => ⟨(hg.2.2.2 e he).1, (hg.2.2.2 e he).2.1⟩
  refine ⟨o4, o1, o2, o3, fun grp => (ztrees (grp := grp) (grp2 := grp) (o2 := so0) hg (fun _ _ => rfl) o1 o2 o3 hjoin h1 h2 h3 h4).1, fun p2 grp2 => ?_⟩
  obtain ⟨t1, t2, t3, t4⟩ := ztrees (grp := grp2) (grp2 := grp2) (o2 := p2) hg (fun _ _ => rfl) o1 o2 o3 hjoin h1 h2 h3 h4
  have h9 := zbase (V := fun x => sw_V isL lf lt Rw x) hn (by omega) hok (fun q hq => ⟨(hlo q hq).1, t2 q hq⟩) (fun q hq1 hq2 hi => by
    rcases hcl q hq2 hi with h5 | ⟨e, h5, h6, h7⟩
    · omega
    · rw [h6]; exact (t3 e h5 h7).1) (fun q hq hh => by
    obtain ⟨e1, e2, e3⟩ := hlo q hq
    have hbq : bk q = false := by
      cases hbq : bk q with
      | false => rfl
      | true =>
        have h8 := (t3 q hq hbq).2
        rw [t2 q hq, hh] at h8
        cases h8
    exact ⟨e2, by rw [e3]; exact ztg_f hbq, rfl⟩)
  rw [hB] at h9
  exact congrArg Prod.snd h9
theorem zcutok {n m : Nat} {fr to ord grp : Nat → Nat} {bk : Nat → Bool} (hg : sg_ok n m fr to) (h1 : ∀ x, x < m → ord x < m) (h2 : ∀ i j, i < m → j < m → ord i = ord j → i = j) (h3 : ∀ e, e < m → ∃ x, x < m ∧ ord x = e) (hjoin : ∀ b, b < n → ∀ S : Nat → Bool, (∀ e, e < m → bk e = false → S (fr e) = S (to e)) → S b = S 0) {has : Nat → Bool} (hh : has = (sp_it (st_g fr to ord n) m (sj_join n (zid grp n) 0 1, fun _ => false)).2) (Bh : Nat → Nat → Bool) : zBh m fr to has (fun x => if x < m then zbh fr to n m has x else Bh x) := by
  obtain ⟨hn, hn2, hm, hgo⟩ := hg
  have hin : ∀ i, i < m → fr (ord i) < n ∧ to (ord i) < n := fun i hi => ⟨(hgo _ (h1 i hi)).1, (hgo _ (h1 i hi)).2.1⟩
  have hok : ∀ e, e < m → fr e < n ∧ to e < n := fun e he => ⟨(hgo e he).1, (hgo e he).2.1⟩
  have c1 := (st_grow (fr := fr) (to := to) hn hin h2 (g0 := zid grp n) (fun b hb => zid_in hb) (fun _ => false)).2.1
  rw [← hh] at c1
  have hspan := st_span (fr := fr) (to := to) (ord := ord) (bk := fun _ => false) (n := n) (m := m) (k := m) (fun e he _ => h3 e he) (fun b hb S hS => hjoin b hb S (fun e he _ => hS e he rfl))
  intro e he hhe
  obtain ⟨g1, g2, g3, g4, g5⟩ := st_cut hn hok h1 h3 c1 hspan he hhe
  have hz : ∀ b, (if e < m then zbh fr to n m has e else Bh e) b = (decide (b < n) && !sb_near fr to has e m n b) := fun b => by
    rw [if_pos he]
    unfold zbh
    rw [if_pos hhe]
  refine ⟨?_, ?_, ?_, fun x hx hhx hxe => ?_⟩
  · show (if e < m then zbh fr to n m has e else Bh e) 0 = false
    rw [hz, g1, Bool.not_true, Bool.and_false]
  · show (if e < m then zbh fr to n m has e else Bh e) 1 = false
    rw [hz, g2, Bool.not_true, Bool.and_false]
  · show (if e < m then zbh fr to n m has e else Bh e) (fr e) ≠ (if e < m then zbh fr to n m has e else Bh e) (to e)
    rw [hz, hz, decide_eq_true (hok e he).1, decide_eq_true (hok e he).2, Bool.true_and, Bool.true_and]
    intro hc
    exact g5 (Bool.not_inj hc)
  · show (if e < m then zbh fr to n m has e else Bh e) (fr x) = (if e < m then zbh fr to n m has e else Bh e) (to x)
    rw [hz, hz, decide_eq_true (hok x hx).1, decide_eq_true (hok x hx).2, g4 x hx hhx hxe]
theorem zmetin {n m : Nat} {fr to : Nat → Nat} (lk st fin : Nat → Nat) (bk : Nat → Bool) (hn : 2 ≤ n) (hok : ∀ e, e < m → fr e < n ∧ to e < n) : ∀ i b, (ss_run fr to m i (zst lk st fin bk)).1 b ≠ 0 → b < n := by
  have hJ0 : ss_J n m fr to (zst lk st fin bk) := zst_J lk st fin bk hn
  intro i
  induction i with
  | zero =>
    intro b hb
    have hb : va_up (fun _ => 0) 0 1 b ≠ 0 := hb
    by_cases h : b = 0
    · omega
    · rw [sp_up_n _ _ h] at hb; exact absurd rfl hb
  | succ i ih =>
    intro b hb
    have hJ := (ss_run_J hok hJ0 i).1
    obtain ⟨⟨met, look, sq, hq, bq, fq, k⟩, hs⟩ : ∃ x, ss_run fr to m i (zst lk st fin bk) = x := ⟨_, rfl⟩
    have e1 : ss_run fr to m (i + 1) (zst lk st fin bk) = ss_step fr to m (ss_run fr to m i (zst lk st fin bk)) := rfl
    rw [e1, hs] at hb
    rw [hs] at hJ ih
    have ih : ∀ b, met b ≠ 0 → b < n := ih
    cases hq with
    | zero => rw [ss_step_0] at hb; exact ih b hb
    | succ h =>
      have I : ss_I n m fr to met look sq (h + 1) bq fq k := hJ
      obtain ⟨c, e, h1, h2, h3, h4, h5, h6, h7⟩ := ss_cases I
      rw [ss_step_eq fr to m met look sq h bq fq k c e h1 h4] at hb
      by_cases hm : m ≤ e
      · rw [if_pos hm] at hb
        have hb : va_up met c 2 b ≠ 0 := hb
        by_cases hx : b = c
        · omega
        · rw [sp_up_n _ _ hx] at hb; exact ih b hb
      · rw [if_neg hm] at hb
        have hto := (hok e (by omega)).2
        by_cases h0 : met (to e) = 0
        · rw [if_pos h0] at hb
          have hb : va_up met (to e) 1 b ≠ 0 := hb
          by_cases hx : b = to e
          · omega
          · rw [sp_up_n _ _ hx] at hb; exact ih b hb
        · rw [if_neg h0] at hb
          exact ih b hb
theorem zcls {n m : Nat} {fr to : Nat → Nat} {lk st fin : Nat → Nat} {bk : Nat → Bool} {met look sq fq : Nat → Nat} {hq k : Nat} {bq : Nat → Bool} (hg : sg_ok n m fr to) (h1 : ss_run fr to m (n + m) (zst lk st fin bk) = (met, look, sq, hq, bq, fq, k)) : (∀ b, met b ≠ 0 → b < n) ∧ ((∀ b, b < n → met b ≠ 0) → sv_O n m fr (ztg bq to) fq ∧ (∀ b, b < n → ∀ S : Nat → Bool, (∀ e, e < m → bq e = false → S (fr e) = S (to e)) → S b = S 0) ∧ ∀ e, e < m → bq e = true → to e ≠ 1) := by
  obtain ⟨⟨met2, nx2, pa2, h2, bk2⟩, h3⟩ : ∃ x, sq_run fr to m (n + m) (zq0 n (fun _ => 0) (fun _ => 0) (fun _ => 0) (fun _ => false)) = x := ⟨_, rfl⟩
  obtain ⟨r1, r2, r3, r4⟩ := zse hg h1 h3
  refine ⟨fun b hb => ?_, fun hall => (r4 hall).2.2⟩
  have h9 := zmetin (fr := fr) (to := to) lk st fin bk hg.1 (fun e he => ⟨(hg.2.2.2 e he).1, (hg.2.2.2 e he).2.1⟩) (n + m) b
  rw [h1] at h9
  exact h9 hb
theorem zwy_b {n m : Nat} {fr to fq V R V1 R1 SV SV1 : Nat → Nat} {bq : Nat → Bool} {W1 : Nat} (hg : sg_ok n m fr to) (hO : sv_O n m fr (ztg bq to) fq) (hN : sv_num fr (ztg bq to) fq m n V R = (V1, R1)) (hS : sp_it (sv_st to R1 bq) m (SV, R1 0) = (SV1, W1)) : sv_R n m fr (ztg bq to) R1 V1 ∧ W1 = sl_R m to bq R1 0 ∧ W1 ≤ 419430400 ∧ (∀ e, e < m → bq e = true → SV1 e = R1 0 + sl_S to bq R1 e) ∧ (∀ e, e < m → V1 e < 2147483648) ∧ ∀ e, e < m → bq e = true → SV1 e < 2147483648 := by
  have hR := sv_num_spec hO (fun e he => (hg.2.2.2 e he).1) V R
  rw [hN] at hR
  have hR : sv_R n m fr (ztg bq to) R1 V1 := hR
  have hs := sv_st_spec to R1 bq m SV (R1 0)
  rw [hS] at hs
  have hn := hg.1
  have hbd := sv_bound hO hR.1 hR.2.1
  have hb := sl_bound (bk := bq) hg.2.2.1 (by omega) (fun e he => (hg.2.2.2 e he).2.1) hbd 0 (by omega)
  have hW : W1 = sl_R m to bq R1 0 := hs.1
  have hS0 : sl_R m to bq R1 0 = R1 0 + sl_S to bq R1 m := rfl
  refine ⟨hR, hW, by omega, hs.2, fun e he => ?_, fun e he hbe => ?_⟩
  · have h1 := hR.2.2 e he
    have hfe := hg.2.2.2 e he
    have h2 : sv_W fr (ztg bq to) R1 (fr e) e ≤ sv_W fr (ztg bq to) R1 (fr e) m := sp_sum_mono (by omega)
    rw [← hR.2.1 (fr e) hfe.1 hfe.2.2.1] at h2
    have h3 := hbd (fr e) hfe.1
    have h4 : 2 ^ m ≤ 2 ^ 24 := Nat.pow_le_pow_right (by omega) hg.2.2.1
    have h5 : (2 : Nat) ^ 24 = 16777216 := by decide
    show V1 e < _
    have h1 : V1 e = sv_W fr (ztg bq to) R1 (fr e) e := h1
    omega
  · have h1 : SV1 e = R1 0 + sl_S to bq R1 e := hs.2 e he hbe
    have h2 := sl_S_le (to := to) (R := R1) (bk := bq) (show e ≤ m by omega)
    omega
