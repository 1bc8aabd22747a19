theorem SRy.keepM {v q t y y' : ST} {tm s s' : Nat} (h : SRy v q t y tm s') (hs : s' ≠ s) (hj : ∀ j, j ≠ 0 → j ≠ 6 → j ≠ 7 → j ≠ 9 → j ≠ 10 → y'.2 j = y.2 j) (hk : ∀ j k, j ≠ 10 → k ≠ s → y'.2 j k = y.2 j k) : SRy v q t y' tm s' :=
  h.keep (hj 1 (by omega) (by omega) (by omega) (by omega) (by omega)) (hj 2 (by omega) (by omega) (by omega) (by omega) (by omega)) (hj 3 (by omega) (by omega) (by omega) (by omega) (by omega)) (hk 4 s' (by omega) hs) (hk 5 s' (by omega) hs) (hk 6 s' (by omega) hs) (hk 7 s' (by omega) hs) (hk 0 s' (by omega) hs) (hk 9 s' (by omega) hs) (hk 8 s' (by omega) hs)
theorem SRy.keep10 {v q t y y' : ST} {tm s : Nat} (h : SRy v q t y tm s) (hj : ∀ j, j ≠ 10 → y'.2 j = y.2 j) : SRy v q t y' tm s :=
  h.keep (hj 1 (by omega)) (hj 2 (by omega)) (hj 3 (by omega)) (by rw [hj 4 (by omega)]) (by rw [hj 5 (by omega)]) (by rw [hj 6 (by omega)]) (by rw [hj 7 (by omega)]) (by rw [hj 0 (by omega)]) (by rw [hj 9 (by omega)]) (by rw [hj 8 (by omega)])
theorem SRy.sent {v' q' t' y y' : ST} {t2 s n : Nat} (hm : (y.2 7 s + n ≠ y.2 1 (512 * s + y.2 6 s) ∧ SR v' q' t' (y.2 1) (y.2 2) (y.2 3) t2 (512 * s) (y.2 4 s) (y.2 5 s) (y.2 6 s) (y.2 7 s + n) (y.2 0 s + n) ((y.2 9 s + 1) % 16) (y.2 8 s)) ∨ (y.2 7 s + n = y.2 1 (512 * s + y.2 6 s) ∧ SR v' q' t' (y.2 1) (y.2 2) (y.2 3) t2 (512 * s) (y.2 4 s) (y.2 5 s) (y.2 6 s + 1) 0 (y.2 0 s + n) ((y.2 9 s + 1) % 16) (y.2 8 s)))
    (hj : ∀ j, j ≠ 0 → j ≠ 6 → j ≠ 7 → j ≠ 9 → j ≠ 10 → y'.2 j = y.2 j) (h0 : y'.2 0 s = y.2 0 s + n) (h9 : y'.2 9 s = (y.2 9 s + 1) % 16)
    (hc : (y.2 7 s + n ≠ y.2 1 (512 * s + y.2 6 s) ∧ y'.2 7 s = y.2 7 s + n ∧ y'.2 6 s = y.2 6 s) ∨ (y.2 7 s + n = y.2 1 (512 * s + y.2 6 s) ∧ y'.2 7 s = 0 ∧ y'.2 6 s = y.2 6 s + 1)) : SRy v' q' t' y' t2 s := by
  unfold SRy
  rw [hj 1 (by omega) (by omega) (by omega) (by omega) (by omega), hj 2 (by omega) (by omega) (by omega) (by omega) (by omega), hj 3 (by omega) (by omega) (by omega) (by omega) (by omega), hj 4 (by omega) (by omega) (by omega) (by omega) (by omega), hj 5 (by omega) (by omega) (by omega) (by omega) (by omega), hj 8 (by omega) (by omega) (by omega) (by omega) (by omega), h0, h9]
  rcases hm with ⟨a1, a2⟩ | ⟨a1, a2⟩
  · rcases hc with ⟨-, b2, b3⟩ | ⟨b1, -, -⟩
    · rw [b2, b3]; exact a2
    · exact absurd b1 a1
  · rcases hc with ⟨b1, -, -⟩ | ⟨-, b2, b3⟩
    · exact absurd a1 b1
    · rw [b2, b3]; exact a2
/-- from the choice on: what class and reference send -/
theorem sim_make {x : XS} {y : ST} {tm : Nat} (h0 : SRy (x 1) (x 2) (x 3) y (tm + 1) 0) (h1 : SRy (x 4) (x 5) (x 6) y (tm + 1) 1) (h2 : SRy (x 7) (x 8) (x 9) y (tm + 1) 2) (hx : (x 0).1 6 = tm) (hc : (x 0).1 1 = y.1 1) (hc2 : y.1 1 ≤ 200) (ht : y.1 2 = tm) (ht2 : tm < 900000) :
    ∃ (z : XS) (y' : ST) (s : Nat) (k : ST), fX_chooseStream x (if tm % 8 = 0 then 1 else 0) = some s ∧ fP_clear (x 14) = some k ∧ s ≤ 3 ∧ (s = 3 → fX_putHead (va_up x 14 k) 3 (if tm % 8 = 0 then 1 else 0) 0 0 = some z) ∧ (s ≠ 3 → fX_fillPacket (va_up x 14 k) s (if tm % 8 = 0 then 1 else 0) = some z) ∧
      fM_make y = some y' ∧ y'.1 = y.1 ∧ SRy (z 1) (z 2) (z 3) y' (tm + 1) 0 ∧ SRy (z 4) (z 5) (z 6) y' (tm + 1) 1 ∧ SRy (z 7) (z 8) (z 9) y' (tm + 1) 2 ∧ Ag ((z 14).2 0) (y'.2 10) ∧ B255 (y'.2 10) ∧
      z 0 = x 0 ∧ (∀ j, j = 10 ∨ j = 11 ∨ j = 12 ∨ j = 13 ∨ j = 15 → z j = x j) ∧ (∀ j, 11 ≤ j → y'.2 j = y.2 j) ∧ y'.2 4 = y.2 4 := by
  obtain ⟨s, es, em, hs⟩ := sim_choose h0 h1 h2 hc hc2 ht ht2
  obtain ⟨k, ek, hk⟩ := eP_clear (x 14)
  have hb1 : (if tm % 8 = 0 then 1 else 0) ≤ 1 := by split <;> omega
  have hk14 : PkR ((va_up x 14 k) 14) (fun _ => 255) 0 := by rw [up_s]; exact hk
  have hx0 : ((va_up x 14 k) 0).1 6 = tm := by rw [up_n _ _ (by omega)]; exact hx
  rcases hs with hs | ⟨hs, hA, hst, hlo⟩
  · subst hs
    obtain ⟨k', e1, e2⟩ := eX_putHead (s := 3) (b := if tm % 8 = 0 then 1 else 0) (st := 0) (n := 0) hk14 hb1 (by omega) hx0 (by omega) (by omega) (by omega)
    obtain ⟨y', m1, m2, m3, m4⟩ := eM_make_3 em ht (by omega)
    refine ⟨_, y', 3, k, es, ek, by omega, fun _ => e1, fun h => absurd rfl h, m1, m2, ?_, ?_, ?_, ?_, ?_, ?_, ?_, fun j hj => m4 j (by omega), m4 4 (by omega)⟩
    · simp (disch := omega) only [ite_true, ite_false, not_true_eq_false, not_false_eq_true, up_n]; exact h0.keep10 m4
    · simp (disch := omega) only [ite_true, ite_false, not_true_eq_false, not_false_eq_true, up_n]; exact h1.keep10 m4
    · simp (disch := omega) only [ite_true, ite_false, not_true_eq_false, not_false_eq_true, up_n]; exact h2.keep10 m4
    · rw [up_s]; intro p hp; rw [e2.2 p hp, m3 p hp]
    · intro p hp; rw [m3 p hp]; exact b_hdr (fun p _ => Nat.le_refl _) (hv_le (by omega) (by omega)) p hp
    · simp (disch := omega) only [ite_true, ite_false, not_true_eq_false, not_false_eq_true, up_n]
    · intro j hj; simp (disch := omega) only [ite_true, ite_false, not_true_eq_false, not_false_eq_true, up_n]
  · have hsc : s = 0 ∨ s = 1 ∨ s = 2 := by omega
    rcases hsc with hsc | hsc | hsc
    · subst hsc
      obtain ⟨v', q', t', k', e1, e2, e3⟩ := eX_fill0 (x := va_up x 14 k) (y := y) (tm := tm) (by simp (disch := omega) only [ite_true, ite_false, not_true_eq_false, not_false_eq_true, up_n]; exact h0) hk14 hx0 (by omega) (by omega) hA hst rfl hlo
      have hnx : y.2 9 0 < 16 := h0.2.2.2.2.2.2.2.2.2.2.1
      have hsz : y.2 1 (512 * 0 + y.2 6 0) ≤ 60 := (h0.2.2.2.1 _ hA).2.1
      obtain ⟨y', m1, m2, m3, m4, m5, m6, m7, m8⟩ := eM_make_s h0 (by omega) em ht (by omega) (by omega) hA rfl
      refine ⟨_, y', 0, k, es, ek, by omega, fun h => absurd h (by omega), fun _ => e1, m1, m2, ?_, ?_, ?_, ?_, ?_, ?_, ?_, fun j hj => m4 j (by omega) (by omega) (by omega) (by omega) (by omega), m4 4 (by omega) (by omega) (by omega) (by omega) (by omega)⟩
      · simp (disch := omega) only [ite_true, ite_false, not_true_eq_false, not_false_eq_true, up_n, up_s]; exact SRy.sent e3 m4 m6 m7 m8
      · simp (disch := omega) only [ite_true, ite_false, not_true_eq_false, not_false_eq_true, up_n, up_s]; exact h1.keepM (by omega) m4 m5
      · simp (disch := omega) only [ite_true, ite_false, not_true_eq_false, not_false_eq_true, up_n, up_s]; exact h2.keepM (by omega) m4 m5
      · rw [up_s]; intro p hp; rw [e2 p hp, m3 p hp]
      · intro p hp; rw [m3 p hp]; exact b_pkt (by omega) hnx hsz p hp
      · simp (disch := omega) only [ite_true, ite_false, not_true_eq_false, not_false_eq_true, up_n]
      · intro j hj; simp (disch := omega) only [ite_true, ite_false, not_true_eq_false, not_false_eq_true, up_n]
    · subst hsc
      obtain ⟨v', q', t', k', e1, e2, e3⟩ := eX_fill1 (x := va_up x 14 k) (y := y) (tm := tm) (by simp (disch := omega) only [ite_true, ite_false, not_true_eq_false, not_false_eq_true, up_n]; exact h1) hk14 hx0 (by omega) (by omega) hA hst rfl hlo
      have hnx : y.2 9 1 < 16 := h1.2.2.2.2.2.2.2.2.2.2.1
      have hsz : y.2 1 (512 * 1 + y.2 6 1) ≤ 60 := (h1.2.2.2.1 _ hA).2.1
      obtain ⟨y', m1, m2, m3, m4, m5, m6, m7, m8⟩ := eM_make_s h1 (by omega) em ht (by omega) (by omega) hA rfl
      refine ⟨_, y', 1, k, es, ek, by omega, fun h => absurd h (by omega), fun _ => e1, m1, m2, ?_, ?_, ?_, ?_, ?_, ?_, ?_, fun j hj => m4 j (by omega) (by omega) (by omega) (by omega) (by omega), m4 4 (by omega) (by omega) (by omega) (by omega) (by omega)⟩
      · simp (disch := omega) only [ite_true, ite_false, not_true_eq_false, not_false_eq_true, up_n, up_s]; exact h0.keepM (by omega) m4 m5
      · simp (disch := omega) only [ite_true, ite_false, not_true_eq_false, not_false_eq_true, up_n, up_s]; exact SRy.sent e3 m4 m6 m7 m8
      · simp (disch := omega) only [ite_true, ite_false, not_true_eq_false, not_false_eq_true, up_n, up_s]; exact h2.keepM (by omega) m4 m5
      · rw [up_s]; intro p hp; rw [e2 p hp, m3 p hp]
      · intro p hp; rw [m3 p hp]; exact b_pkt (by omega) hnx hsz p hp
      · simp (disch := omega) only [ite_true, ite_false, not_true_eq_false, not_false_eq_true, up_n]
      · intro j hj; simp (disch := omega) only [ite_true, ite_false, not_true_eq_false, not_false_eq_true, up_n]
    · subst hsc
      obtain ⟨v', q', t', k', e1, e2, e3⟩ := eX_fill2 (x := va_up x 14 k) (y := y) (tm := tm) (by simp (disch := omega) only [ite_true, ite_false, not_true_eq_false, not_false_eq_true, up_n]; exact h2) hk14 hx0 (by omega) (by omega) hA hst rfl hlo
      have hnx : y.2 9 2 < 16 := h2.2.2.2.2.2.2.2.2.2.2.1
      have hsz : y.2 1 (512 * 2 + y.2 6 2) ≤ 60 := (h2.2.2.2.1 _ hA).2.1
      obtain ⟨y', m1, m2, m3, m4, m5, m6, m7, m8⟩ := eM_make_s h2 (by omega) em ht (by omega) (by omega) hA rfl
      refine ⟨_, y', 2, k, es, ek, by omega, fun h => absurd h (by omega), fun _ => e1, m1, m2, ?_, ?_, ?_, ?_, ?_, ?_, ?_, fun j hj => m4 j (by omega) (by omega) (by omega) (by omega) (by omega), m4 4 (by omega) (by omega) (by omega) (by omega) (by omega)⟩
      · simp (disch := omega) only [ite_true, ite_false, not_true_eq_false, not_false_eq_true, up_n, up_s]; exact h0.keepM (by omega) m4 m5
      · simp (disch := omega) only [ite_true, ite_false, not_true_eq_false, not_false_eq_true, up_n, up_s]; exact h1.keepM (by omega) m4 m5
      · simp (disch := omega) only [ite_true, ite_false, not_true_eq_false, not_false_eq_true, up_n, up_s]; exact SRy.sent e3 m4 m6 m7 m8
      · rw [up_s]; intro p hp; rw [e2 p hp, m3 p hp]
      · intro p hp; rw [m3 p hp]; exact b_pkt (by omega) hnx hsz p hp
      · simp (disch := omega) only [ite_true, ite_false, not_true_eq_false, not_false_eq_true, up_n]
      · intro j hj; simp (disch := omega) only [ite_true, ite_false, not_true_eq_false, not_false_eq_true, up_n]
theorem eM_tick_L {y y0 y1 y2 : ST} (e0 : fM_goOn y 0 = some y0) (e1 : fM_goOn y0 1 = some y1) (e2 : fM_goOn y1 2 = some y2) : fM_oneTick_L2 100 0 y = some (3, y2) := by
  rw [fM_oneTick_L2, ss_p (by omega), if_neg (by omega), e0, ob_some, fM_oneTick_L2, ss_p (by omega), if_neg (by omega), e1, ob_some, fM_oneTick_L2, ss_p (by omega), if_neg (by omega), e2, ob_some, fM_oneTick_L2, ss_p (by omega), if_pos (by omega)]
/-- one tick of the sending side -/
theorem sim_send {x : XS} {y : ST} (hI : IS x y) (ht : y.1 2 < 900000) :
    ∃ (x' : XS) (y' : ST), fX_sendPacket x = some x' ∧ fM_oneTick y = some y' ∧ IS x' y' ∧ y'.1 2 = y.1 2 + 1 ∧ (∀ j, j ≠ 2 → j ≠ 13 → y'.1 j = y.1 j) ∧ (∀ j, 11 ≤ j → y'.2 j = y.2 j) ∧ (∀ j, j = 10 ∨ j = 11 ∨ j = 12 ∨ j = 13 ∨ j = 15 → x' j = x j) ∧ y'.2 4 = y.2 4 := by
  obtain ⟨⟨h0, h1, h2⟩, ⟨a0, a1, a2, a3, a4, a5, a6⟩, -, -⟩ := hI
  generalize htm : y.1 2 = tm at h0 h1 h2 a2 ht
  obtain ⟨v0, q0, t0, y0, c0, d0, s0, f0, j0, k0⟩ := sim_goOn h0 (by omega) htm (by omega) rfl a5
  have h1' := h1.keepF (by omega) j0 k0
  have h2' := h2.keepF (by omega) j0 k0
  obtain ⟨v1, q1, t1, y1, c1, d1, s1, f1, j1, k1⟩ := sim_goOn h1' (by omega) (by rw [f0]; exact htm) (by omega) rfl (by rw [f0]; exact a5)
  have s0' := s0.keepF (by omega) j1 k1
  have h2'' := h2'.keepF (by omega) j1 k1
  obtain ⟨v2, q2, t2, y2, c2, d2, s2, f2, j2, k2⟩ := sim_goOn h2'' (by omega) (by rw [f1, f0]; exact htm) (by omega) rfl (by rw [f1, f0]; exact a5)
  have s0'' := s0'.keepF (by omega) j2 k2
  have s1' := s1.keepF (by omega) j2 k2
  have y21 : y2.1 = y.1 := by rw [f2, f1, f0]
  generalize hX : va_up (va_up (va_up (va_up (va_up (va_up (va_up (va_up (va_up x 1 v0) 2 q0) 3 t0) 4 v1) 5 q1) 6 t1) 7 v2) 8 q2) 9 t2 = X
  have X0 : X 0 = x 0 := by rw [← hX]; simp (disch := omega) only [ite_true, ite_false, not_true_eq_false, not_false_eq_true, up_n]
  have XO : ∀ j, j = 10 ∨ j = 11 ∨ j = 12 ∨ j = 13 ∨ j = 15 ∨ j = 14 → X j = x j := by intro j hj; rw [← hX]; simp (disch := omega) only [ite_true, ite_false, not_true_eq_false, not_false_eq_true, up_n]
  have r0 : SRy (X 1) (X 2) (X 3) y2 (tm + 1) 0 := by rw [← hX]; simp (disch := omega) only [ite_true, ite_false, not_true_eq_false, not_false_eq_true, up_n, up_s]; exact s0''
  have r1 : SRy (X 4) (X 5) (X 6) y2 (tm + 1) 1 := by rw [← hX]; simp (disch := omega) only [ite_true, ite_false, not_true_eq_false, not_false_eq_true, up_n, up_s]; exact s1'
  have r2 : SRy (X 7) (X 8) (X 9) y2 (tm + 1) 2 := by rw [← hX]; simp (disch := omega) only [ite_true, ite_false, not_true_eq_false, not_false_eq_true, up_n, up_s]; exact s2
  obtain ⟨z, y', s, k, g1, g2, g3, g4, g5, g6, g7, g8, g9, g10, g11, g12, g13, g14, g15, g16⟩ := sim_make r0 r1 r2 (by rw [X0]; exact a2) (by rw [X0, y21]; exact a1) (by rw [y21]; exact a6) (by rw [y21]; exact htm) ht
  rw [XO 14 (by omega)] at g2
  have hj10 : (if ¬ (tm % 8) = 0 then (some 0 : Option (Nat)) else (some 1 : Option (Nat))) = some (if tm % 8 = 0 then 1 else 0) := by
    by_cases h : tm % 8 = 0
    · rw [if_pos h, if_neg (fun h9 => h9 h)]
    · rw [if_neg h, if_pos h]
  have c1' : fS_beginTick (x 4) (x 5) (x 6) tm (y.1 0) = some (v1, q1, t1) := by rw [← c1, f0]
  have c2' : fS_beginTick (x 7) (x 8) (x 9) tm (y.1 0) = some (v2, q2, t2) := by rw [← c2, f1, f0]
  have g15' : ∀ j, 11 ≤ j → (sI (sI y' 2 (y'.1 2 + 1)) 13 1).2 j = y.2 j := fun j hj => by
    show y'.2 j = y.2 j
    rw [g15 j hj, j2 j (by omega) (by omega) (by omega) (by omega) (by omega), j1 j (by omega) (by omega) (by omega) (by omega) (by omega), j0 j (by omega) (by omega) (by omega) (by omega) (by omega)]
  have est := eisStreamN (i := s) (by omega)
  have hbr : (if (if s < 3 then 1 else 0) = 0 then lt (va_up X 14 k) (fun x25 => ob (fX_putHead x25 3 (if tm % 8 = 0 then 1 else 0) 0 0) (fun r27 => (some r27 : Option (XS)))) else lt (va_up X 14 k) (fun x29 => ob (fX_fillPacket x29 s (if tm % 8 = 0 then 1 else 0)) (fun r31 => (some r31 : Option (XS))))) = some z := by
    by_cases h3 : s = 3
    · rw [if_neg (show ¬ s < 3 by omega), if_pos rfl, lt_def, g4 h3, ob_some]
    · rw [if_pos (show s < 3 by omega), if_neg (by omega), lt_def, g5 h3, ob_some]
  refine ⟨va_up z 0 (sI (sI (z 0) 6 ((z 0).1 6 + 1)) 7 1), sI (sI y' 2 (y'.1 2 + 1)) 13 1, ?_, ?_, ⟨⟨?_, ?_, ?_⟩, ⟨?_, ?_, ?_, ?_, ?_, ?_, ?_⟩, ?_, g12⟩, ?_, ?_, g15', ?_, ?_⟩
  · unfold fX_sendPacket
    rw [a0, a2, c0, ob_some, c1', ob_some, c2', ob_some, ss_p (by omega), ss_p (by omega), hj10, ob_some, lt_def]
    rw [hX, g1, ob_some, XO 14 (by omega), g2, ob_some, est, ob_some, ss_p (by split <;> omega), hbr, ob_some]
  · unfold fM_oneTick
    rw [eM_tick_L d0 d1 d2, ob_some, g6, ob_some]
  · simp (disch := omega) only [ite_true, ite_false, not_true_eq_false, not_false_eq_true, up_n, sI_1, up_s]; rw [g7, y21, htm]; exact g8
  · simp (disch := omega) only [ite_true, ite_false, not_true_eq_false, not_false_eq_true, up_n, sI_1, up_s]; rw [g7, y21, htm]; exact g9
  · simp (disch := omega) only [ite_true, ite_false, not_true_eq_false, not_false_eq_true, up_n, sI_1, up_s]; rw [g7, y21, htm]; exact g10
  · simp (disch := omega) only [ite_true, ite_false, not_true_eq_false, not_false_eq_true, up_n, sI_1, up_s]; rw [g13, X0, g7, y21]; exact a0
  · simp (disch := omega) only [ite_true, ite_false, not_true_eq_false, not_false_eq_true, up_n, sI_1, up_s]; rw [g13, X0, g7, y21]; exact a1
  · simp (disch := omega) only [ite_true, ite_false, not_true_eq_false, not_false_eq_true, up_n, sI_1, up_s]; rw [g13, X0, g7, y21, a2, htm]
  · simp (disch := omega) only [ite_true, ite_false, not_true_eq_false, not_false_eq_true, up_n, sI_1, up_s]
  · simp (disch := omega) only [ite_true, ite_false, not_true_eq_false, not_false_eq_true, up_n, sI_1, up_s]; omega
  · simp (disch := omega) only [ite_true, ite_false, not_true_eq_false, not_false_eq_true, up_n, sI_1, up_s]; rw [g7, y21]; exact a5
  · simp (disch := omega) only [ite_true, ite_false, not_true_eq_false, not_false_eq_true, up_n, sI_1, up_s]; rw [g7, y21]; exact a6
  · simp (disch := omega) only [ite_true, ite_false, not_true_eq_false, not_false_eq_true, up_n]; exact g11
  · simp (disch := omega) only [ite_true, ite_false, not_true_eq_false, not_false_eq_true, up_n, sI_1, up_s]; rw [g7, y21, htm]
  · intro j hj2 hj13; simp (disch := omega) only [ite_true, ite_false, not_true_eq_false, not_false_eq_true, up_n, sI_1]; rw [g7, y21]
  · intro j hj; simp (disch := omega) only [ite_true, ite_false, not_true_eq_false, not_false_eq_true, up_n]; rw [g14 j hj, XO j (by omega)]
  · show y'.2 4 = y.2 4
    rw [g16, j2 4 (by omega) (by omega) (by omega) (by omega) (by omega), j1 4 (by omega) (by omega) (by omega) (by omega) (by omega), j0 4 (by omega) (by omega) (by omega) (by omega) (by omega)]
