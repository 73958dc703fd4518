/-! glue: the list of ways -/
theorem sw_pre {N : Nat} {isL : Nat → Bool} {lf lt u : Nat → Nat} {b : Nat} : ∀ f c, sw_C N isL lf lt b (sw_l u f) c → ∀ i, i < f → u i < N ∧ isL (u i) = true ∧ sw_C N isL lf lt b (sw_l u i) (lf (u i)) := by
  intro f
  induction f with
  | zero => intro c _ i hi; omega
  | succ f ih =>
    intro c h i hi
    obtain ⟨d, h1, h2⟩ := (sw_app (sw_l u f) [u f] b c).mp h
    obtain ⟨g1, g2, g3, g4⟩ := h2
    by_cases hx : i = f
    · subst hx
      rw [g3]
      exact ⟨g1, g2, h1⟩
    · exact ih d h1 i (by omega)
theorem sw_lastC {N : Nat} {isL : Nat → Bool} {lf lt u : Nat → Nat} {b f c : Nat} (h : sw_C N isL lf lt b (sw_l u (f + 1)) c) : u f < N ∧ isL (u f) = true ∧ sw_C N isL lf lt b (sw_l u f) (lf (u f)) ∧ lt (u f) = c := by
  obtain ⟨d, h1, h2⟩ := (sw_app (sw_l u f) [u f] b c).mp h
  obtain ⟨g1, g2, g3, g4⟩ := h2
  refine ⟨g1, g2, ?_, g4⟩
  rw [g3]
  exact h1
theorem znx_no {isL : Nat → Bool} {lf : Nat → Nat} {b t : Nat} : ∀ x, t ≤ x → x < znx isL lf b t → ¬ (isL x = true ∧ lf x = b) := by
  intro x h1 h2 h3
  obtain ⟨_, _, a3, _⟩ := sl_nx_spec (zlk isL lf b) (48 - t) t
  have h5 := a3 x h1 h2
  rw [show zlk isL lf b x = true by simp [zlk, h3.1, h3.2]] at h5
  cases h5
theorem znx_ge {isL : Nat → Bool} {lf : Nat → Nat} {b t : Nat} : t ≤ znx isL lf b t := (sl_nx_spec (zlk isL lf b) (48 - t) t).1
theorem zcm_C {n : Nat} {isL : Nat → Bool} {lf lt R rho : Nat → Nat} (H : sw_H n 48 isL lf lt R rho) : ∀ k b f u, rho b ≤ k → b < n → sw_C 48 isL lf lt 0 (sw_l u f) b → sw_C 48 isL lf lt 0 (sw_l (zcm isL lf lt k b f u).2 (zcm isL lf lt k b f u).1) 1 ∧ sw_n (sw_V isL lf lt R) (sw_l (zcm isL lf lt k b f u).2 (zcm isL lf lt k b f u).1) = sw_n (sw_V isL lf lt R) (sw_l u f) := by
  intro k
  induction k with
  | zero =>
    intro b f u h1 h2 h3
    have hb : b = 1 := by
      by_cases hc : b = 1
      · exact hc
      · obtain ⟨l, g1, g2, g3⟩ := H.2.2.2 b h2 hc
        have h9 := (H.2.2.1 l g1 g2).2.2.2
        rw [g3] at h9
        omega
    subst hb
    exact ⟨h3, rfl⟩
  | succ k ih =>
    intro b f u h1 h2 h3
    by_cases hb : b = 1
    · subst hb
      rw [zcm_1]
      exact ⟨h3, rfl⟩
    · have hnl := znx_lt (H.2.2.2 b h2 hb)
      obtain ⟨n1, n2⟩ := znx_in (isL := isL) (lf := lf) (b := b) (t := 0) (by omega) hnl
      have h9 := H.2.2.1 _ hnl n1
      rw [n2] at h9
      obtain ⟨g1, g2⟩ := sw_grow H h3 hnl n1 n2 (fun x hx => znx_no x (Nat.zero_le _) hx)
      rw [zcm_s hb]
      obtain ⟨q1, q2⟩ := ih (lt (znx isL lf b 0)) (f + 1) (va_up u f (znx isL lf b 0)) (by omega) h9.2.2.1 g1
      exact ⟨q1, q2.trans g2⟩
theorem zav_C {n : Nat} {isL : Nat → Bool} {lf lt R rho : Nat → Nat} (H : sw_H n 48 isL lf lt R rho) (hrho : ∀ b, b < n → rho b ≤ 16) : ∀ f u c w, sw_C 48 isL lf lt 0 (sw_l u f) c → sw_n (sw_V isL lf lt R) (sw_l u f) + R c = w + 1 → ((zav isL lf lt f u).1 = true → sw_C 48 isL lf lt 0 (sw_l (zav isL lf lt f u).2.2 (zav isL lf lt f u).2.1) 1 ∧ sw_n (sw_V isL lf lt R) (sw_l (zav isL lf lt f u).2.2 (zav isL lf lt f u).2.1) = w + 1) ∧ ((zav isL lf lt f u).1 = false → w + 1 = R 0) := by
  intro f
  induction f with
  | zero =>
    intro u c w h1 h2
    have hc : 0 = c := h1
    subst hc
    have h3 : 0 + R 0 = w + 1 := h2
    exact ⟨fun hh => (by cases hh), fun _ => by omega⟩
  | succ f ih =>
    intro u c w h1 h2
    obtain ⟨g1, g2, g3, g4⟩ := sw_lastC h1
    have hz : zav isL lf lt (f + 1) u = if znx isL lf (lf (u f)) (u f + 1) < 48 then (true, zcm isL lf lt 16 (zb1 lt (f + 1) (va_up u f (znx isL lf (lf (u f)) (u f + 1)))) (f + 1) (va_up u f (znx isL lf (lf (u f)) (u f + 1)))) else zav isL lf lt f u := rfl
    by_cases hx : znx isL lf (lf (u f)) (u f + 1) < 48
    · rw [if_pos hx] at hz
      obtain ⟨n1, n2⟩ := znx_in (isL := isL) (lf := lf) (b := lf (u f)) (t := u f + 1) (by omega) hx
      have hge := znx_ge (isL := isL) (lf := lf) (b := lf (u f)) (t := u f + 1)
      obtain ⟨q1, q2⟩ := sw_turn H h1 h2 hx n1 n2 (by omega) (fun x hx1 hx2 => znx_no x (by omega) hx2)
      have hlt := (H.2.2.1 _ hx n1).2.2.1
      rw [zb1_s] at hz
      obtain ⟨s1, s2⟩ := zcm_C H 16 _ (f + 1) (va_up u f (znx isL lf (lf (u f)) (u f + 1))) (hrho _ hlt) hlt q1
      rw [hz]
      exact ⟨fun _ => ⟨s1, s2.trans q2⟩, fun hh => (by cases hh)⟩
    · rw [if_neg hx] at hz
      obtain ⟨q1, q2⟩ := sw_back H h1 h2 (fun x hx1 hx2 => znx_no (t := u f + 1) x (by omega) (by omega))
      rw [hz]
      exact ih u _ w q1 q2
theorem zkw (u K : Nat → Nat) (w : Nat) : ∀ f x, sp_it (fun i K => va_up K (16 * w + i) (u i)) f K x = if 16 * w ≤ x ∧ x < 16 * w + f then u (x - 16 * w) else K x := by
  intro f
  induction f with
  | zero => intro x; exact (if_neg (by omega)).symm
  | succ f ih =>
    intro x
    show va_up (sp_it (fun i K => va_up K (16 * w + i) (u i)) f K) (16 * w + f) (u f) x = _
    by_cases hx : x = 16 * w + f
    · rw [hx, sp_up_s, if_pos (by omega), Nat.add_sub_cancel_left]
    · rw [sp_up_n _ _ hx, ih x]
      by_cases hc : 16 * w ≤ x ∧ x < 16 * w + f
      · rw [if_pos hc, if_pos (by omega)]
      · rw [if_neg hc, if_neg (by omega)]
def zwF (isL : Nat → Bool) (lf lt R : Nat → Nat) (w : Nat) (L K : Nat → Nat) : Prop := (∀ v, v < w → L v ≤ 16 ∧ sw_C 48 isL lf lt 0 (sw_l (fun i => K (16 * v + i)) (L v)) 1 ∧ sw_n (sw_V isL lf lt R) (sw_l (fun i => K (16 * v + i)) (L v)) = v) ∧ ∀ i, K i < 48
def zwI (isL : Nat → Bool) (lf lt R : Nat → Nat) (w f : Nat) (u L K : Nat → Nat) : Prop := sw_C 48 isL lf lt 0 (sw_l u f) 1 ∧ sw_n (sw_V isL lf lt R) (sw_l u f) = w ∧ zwF isL lf lt R w L K
theorem zwF_up {isL : Nat → Bool} {lf lt R : Nat → Nat} {w f : Nat} {u L K : Nat → Nat} (hf : f ≤ 16) (hu : ∀ i, i < f → u i < 48) (h : zwI isL lf lt R w f u L K) : zwF isL lf lt R (w + 1) (va_up L w f) (sp_it (fun i K => va_up K (16 * w + i) (u i)) f K) := by
  obtain ⟨h1, h2, h3, h4⟩ := h
  refine ⟨fun v hv => ?_, fun i => ?_⟩
  · by_cases hx : v = w
    · subst hx
      rw [sp_up_s, sw_l_congr (f := fun i => sp_it (fun i K => va_up K (16 * v + i) (u i)) f K (16 * v + i)) (g := u) (fun i hi => by rw [zkw, if_pos (by omega), Nat.add_sub_cancel_left])]
      exact ⟨hf, h1, h2⟩
    · obtain ⟨g1, g2, g3⟩ := h3 v (by omega)
      rw [sp_up_n _ _ hx, sw_l_congr (f := fun i => sp_it (fun i K => va_up K (16 * w + i) (u i)) f K (16 * v + i)) (g := fun i => K (16 * v + i)) (fun i hi => by rw [zkw, if_neg (by omega)])]
      exact ⟨g1, g2, g3⟩
  · rw [zkw]
    by_cases hc : 16 * w ≤ i ∧ i < 16 * w + f
    · rw [if_pos hc]; exact hu _ (by omega)
    · rw [if_neg hc]; exact h4 i
theorem zw_b {n : Nat} {isL : Nat → Bool} {lf lt R rho : Nat → Nat} (H : sw_H n 48 isL lf lt R rho) (h1 : rho 1 = 0) (h0 : rho 0 = n) (hn : n ≤ 12) {f : Nat} {u : Nat → Nat} {c : Nat} (hC : sw_C 48 isL lf lt 0 (sw_l u f) c) : f + rho c ≤ 12 ∧ ∀ i, i < f → u i < 48 ∧ isL (u i) = true ∧ i + rho (lf (u i)) ≤ 16 := by
  have hl := sw_len H _ _ _ hC
  rw [sw_l_len, h0] at hl
  refine ⟨by omega, fun i hi => ?_⟩
  obtain ⟨g1, g2, g3⟩ := sw_pre f c hC i hi
  have hl2 := sw_len H _ _ _ g3
  rw [sw_l_len, h0] at hl2
  exact ⟨g1, g2, by omega⟩
theorem zways {n : Nat} {isL : Nat → Bool} {lf lt R rho : Nat → Nat} (H : sw_H n 48 isL lf lt R rho) (h1 : rho 1 = 0) (h0 : rho 0 = n) (hrho : ∀ b, b < n → rho b ≤ n) (hn : 2 ≤ n ∧ n ≤ 12) (h200 : R 0 ≤ 200) (tr wl wk : Nat → Nat) (hwk : ∀ i, wk i < 48) : zwI isL lf lt R 0 (zcm isL lf lt 16 (zb1 lt 0 tr) 0 tr).1 (zcm isL lf lt 16 (zb1 lt 0 tr) 0 tr).2 wl wk ∧ (∀ w f u L K, zwI isL lf lt R w f u L K → w < 200 ∧ f ≤ 16 ∧ ∀ i, i < f → u i < 48 ∧ isL (u i) = true ∧ i + rho (lf (u i)) ≤ 16) ∧ ∀ w f u L K, zwI isL lf lt R w f u L K → ((zav isL lf lt f u).1 = true → zwI isL lf lt R (w + 1) (zav isL lf lt f u).2.1 (zav isL lf lt f u).2.2 (va_up L w f) (sp_it (fun i K => va_up K (16 * w + i) (u i)) f K)) ∧ ((zav isL lf lt f u).1 = false → w + 1 = R 0 ∧ zwF isL lf lt R (w + 1) (va_up L w f) (sp_it (fun i K => va_up K (16 * w + i) (u i)) f K)) := by
  have hb : ∀ w f u L K, zwI isL lf lt R w f u L K → w < 200 ∧ f ≤ 16 ∧ ∀ i, i < f → u i < 48 ∧ isL (u i) = true ∧ i + rho (lf (u i)) ≤ 16 := by
    intro w f u L K hI
    obtain ⟨g1, g2⟩ := zw_b H h1 h0 hn.2 hI.1
    have hlt := sw_lt H _ 0 (by omega) hI.1
    rw [hI.2.1] at hlt
    exact ⟨by omega, by omega, g2⟩
  refine ⟨?_, hb, fun w f u L K hI => ?_⟩
  · have hz : zb1 lt 0 tr = 0 := if_pos rfl
    rw [hz]
    have hr0 := hrho 0 (by omega)
    obtain ⟨q1, q2⟩ := zcm_C H 16 0 0 tr (by omega) (by omega) (show (0 : Nat) = 0 from rfl)
    exact ⟨q1, q2, fun v hv => absurd hv (Nat.not_lt_zero _), hwk⟩
  · obtain ⟨b1, b2, b3⟩ := hb w f u L K hI
    obtain ⟨q1, q2⟩ := zav_C H (fun b hb => by have := hrho b hb; omega) f u 1 w hI.1 (by rw [hI.2.1, H.1])
    have hF := zwF_up b2 (fun i hi => (b3 i hi).1) hI
    exact ⟨fun hh => ⟨(q1 hh).1, (q1 hh).2, hF⟩, fun hh => ⟨q2 hh, hF⟩⟩
