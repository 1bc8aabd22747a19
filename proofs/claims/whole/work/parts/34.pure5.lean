/-- the same, with the numbers read off the reference -/
def SRy (v q t y : ST) (tm s : Nat) : Prop := SR v q t (y.2 1) (y.2 2) (y.2 3) tm (512 * s) (y.2 4 s) (y.2 5 s) (y.2 6 s) (y.2 7 s) (y.2 0 s) (y.2 9 s) (y.2 8 s)
theorem SRy.keep {v q t y y' : ST} {tm s : Nat} (h : SRy v q t y tm s) (h1 : y'.2 1 = y.2 1) (h2 : y'.2 2 = y.2 2) (h3 : y'.2 3 = y.2 3) (h4 : y'.2 4 s = y.2 4 s) (h5 : y'.2 5 s = y.2 5 s) (h6 : y'.2 6 s = y.2 6 s) (h7 : y'.2 7 s = y.2 7 s) (h0 : y'.2 0 s = y.2 0 s) (h9 : y'.2 9 s = y.2 9 s) (h8 : y'.2 8 s = y.2 8 s) : SRy v q t y' tm s := by
  unfold SRy at h ⊢
  rw [h1, h2, h3, h4, h5, h6, h7, h0, h9, h8]
  exact h
theorem eM_high {v q t y : ST} {t2 s : Nat} (hR : SRy v q t y t2 s) (hs : s < 3) : fM_high y s = some (y.2 7 s + sm (y.2 1) (512 * s + y.2 5 s) (y.2 6 s - y.2 5 s)) := by
  obtain ⟨-, -, ⟨i1, i2, i3, i4, i5⟩, -, -, -, ⟨s1, s2, s3, s4, s5, s6⟩⟩ := hR
  have hl := eM_high_L y s hs (y.2 6 s) rfl (by omega) 100
  by_cases hA : y.2 4 s ≤ y.2 6 s
  · have h0 := s2 (by omega)
    have e := hl 0 (y.2 5 s) i1 (by omega)
    simp (disch := omega) only [ite_true, ite_false, not_true_eq_false, not_false_eq_true, fM_high, ss_p, if_pos, ob_some, e, h0]
  · have e := hl (y.2 7 s) (y.2 5 s) i1 (by omega)
    simp (disch := omega) only [ite_true, ite_false, not_true_eq_false, not_false_eq_true, fM_high, ss_p, if_neg, ob_some, e]
theorem eM_takes {v q t y : ST} {t2 s : Nat} (hR : SRy v q t y t2 s) (hs : s < 3) (ht : y.1 2 < 1000000) (hA : y.2 6 s < y.2 4 s) : fM_takes y s = some (tk (y.1 2) (y.2 7 s) (y.2 1 (512 * s + y.2 6 s) - y.2 7 s)) := by
  obtain ⟨-, -, ⟨i1, i2, i3, i4, i5⟩, hu, -, -, ⟨s1, s2, s3, s4, s5, s6⟩⟩ := hR
  have hf := hu (y.2 6 s) hA
  have hS := s1 hA
  unfold tk
  by_cases h8 : y.1 2 % 8 = 0
  · rw [if_pos h8]
    by_cases h0 : y.2 7 s = 0
    · rw [if_pos h0]
      by_cases hl : 14 - 2 - 3 ≤ y.2 1 (512 * s + y.2 6 s) - y.2 7 s
      · rw [Nat.min_eq_left hl]
        simp (disch := omega) only [ite_true, ite_false, not_true_eq_false, not_false_eq_true, fM_takes, ss_p, if_pos, if_neg, ob_some]
      · rw [Nat.min_eq_right (by omega)]
        simp (disch := omega) only [ite_true, ite_false, not_true_eq_false, not_false_eq_true, fM_takes, ss_p, if_pos, if_neg, ob_some]
    · rw [if_neg h0]
      by_cases hl : 14 - 2 - 0 ≤ y.2 1 (512 * s + y.2 6 s) - y.2 7 s
      · rw [Nat.min_eq_left hl]
        simp (disch := omega) only [ite_true, ite_false, not_true_eq_false, not_false_eq_true, fM_takes, ss_p, if_pos, if_neg, ob_some]
      · rw [Nat.min_eq_right (by omega)]
        simp (disch := omega) only [ite_true, ite_false, not_true_eq_false, not_false_eq_true, fM_takes, ss_p, if_pos, if_neg, ob_some]
  · rw [if_neg h8]
    by_cases h0 : y.2 7 s = 0
    · rw [if_pos h0]
      by_cases hl : 14 - 0 - 3 ≤ y.2 1 (512 * s + y.2 6 s) - y.2 7 s
      · rw [Nat.min_eq_left hl]
        simp (disch := omega) only [ite_true, ite_false, not_true_eq_false, not_false_eq_true, fM_takes, ss_p, if_pos, if_neg, ob_some]
      · rw [Nat.min_eq_right (by omega)]
        simp (disch := omega) only [ite_true, ite_false, not_true_eq_false, not_false_eq_true, fM_takes, ss_p, if_pos, if_neg, ob_some]
    · rw [if_neg h0]
      by_cases hl : 14 - 0 - 0 ≤ y.2 1 (512 * s + y.2 6 s) - y.2 7 s
      · rw [Nat.min_eq_left hl]
        simp (disch := omega) only [ite_true, ite_false, not_true_eq_false, not_false_eq_true, fM_takes, ss_p, if_pos, if_neg, ob_some]
      · rw [Nat.min_eq_right (by omega)]
        simp (disch := omega) only [ite_true, ite_false, not_true_eq_false, not_false_eq_true, fM_takes, ss_p, if_pos, if_neg, ob_some]
theorem eM_ready {v q t y : ST} {t2 s : Nat} (hR : SRy v q t y t2 s) (hs : s < 3) (ht : y.1 2 < 1000000) (hcp : y.1 1 ≤ 200) :
    fM_ready y s = some (rd (y.1 2) (y.2 4 s) (y.2 5 s) (y.2 6 s) (y.2 7 s) (y.2 0 s) (y.2 7 s + sm (y.2 1) (512 * s + y.2 5 s) (y.2 6 s - y.2 5 s)) (y.2 1 (512 * s + y.2 6 s) - y.2 7 s) (y.1 1)) := by
  have eh := eM_high hR hs
  have et := eM_takes hR hs ht
  obtain ⟨-, -, ⟨i1, i2, i3, i4, i5⟩, hu, -, -, ⟨s1, s2, s3, s4, s5, s6⟩⟩ := hR
  have hsum : sm (y.2 1) (512 * s + y.2 5 s) (y.2 6 s - y.2 5 s) ≤ (y.2 6 s - y.2 5 s) * 60 := sm_le (y.2 1) 60 _ _ (fun i hi => by rw [show 512 * s + y.2 5 s + i = 512 * s + (y.2 5 s + i) by omega]; exact (hu (y.2 5 s + i) (by omega)).2.1)
  generalize hhi : sm (y.2 1) (512 * s + y.2 5 s) (y.2 6 s - y.2 5 s) = X at eh hsum ⊢
  unfold rd
  by_cases hA : y.2 6 s = y.2 4 s
  · have e0 : fM_takes y s = some 0 := by
      simp (disch := omega) only [ite_true, ite_false, not_true_eq_false, not_false_eq_true, fM_takes, ss_p, if_neg]
    rw [if_neg (by rintro ⟨h9, -⟩; omega)]
    simp (disch := omega) only [ite_true, ite_false, not_true_eq_false, not_false_eq_true, fM_ready, e0, ob_some, ss_p, if_pos]
  · have et := et (by omega)
    have hf := hu (y.2 6 s) (by omega)
    have hS := s1 (by omega)
    have htk := tk_le (y.1 2) (y.2 7 s) (y.2 1 (512 * s + y.2 6 s) - y.2 7 s)
    have htp := tk_pos (y.1 2) (y.2 7 s) (y.2 1 (512 * s + y.2 6 s) - y.2 7 s) (by omega)
    generalize tk (y.1 2) (y.2 7 s) (y.2 1 (512 * s + y.2 6 s) - y.2 7 s) = n at et htk htp ⊢
    by_cases h28 : y.2 0 s + n ≤ 28
    · by_cases hcp2 : y.2 7 s + X + n ≤ y.1 1
      · by_cases h0 : 0 < y.2 7 s
        · rw [if_pos ⟨by omega, Or.inl h0, h28, hcp2⟩]
          simp (disch := omega) only [ite_true, ite_false, not_true_eq_false, not_false_eq_true, fM_ready, et, eh, ob_some, ss_p, if_pos, if_neg]
        · by_cases h8 : y.2 6 s - y.2 5 s < 8
          · rw [if_pos ⟨by omega, Or.inr h8, h28, hcp2⟩]
            simp (disch := omega) only [ite_true, ite_false, not_true_eq_false, not_false_eq_true, fM_ready, et, eh, ob_some, ss_p, if_pos, if_neg]
          · rw [if_neg (by rintro ⟨-, h9, -⟩; omega)]
            simp (disch := omega) only [ite_true, ite_false, not_true_eq_false, not_false_eq_true, fM_ready, et, eh, ob_some, ss_p, if_pos, if_neg]
      · rw [if_neg (by rintro ⟨-, -, -, h9⟩; omega)]
        simp (disch := omega) only [ite_true, ite_false, not_true_eq_false, not_false_eq_true, fM_ready, et, eh, ob_some, ss_p, if_pos, if_neg]
    · rw [if_neg (by rintro ⟨-, -, h9, -⟩; omega)]
      simp (disch := omega) only [ite_true, ite_false, not_true_eq_false, not_false_eq_true, fM_ready, et, eh, ob_some, ss_p, if_pos, if_neg]
theorem sim_goOn {v q t y : ST} {tm s lk : Nat} (hR : SRy v q t y tm s) (hs : s < 3) (ht : y.1 2 = tm) (ht2 : tm < 1000000) (hk : y.1 0 = lk) (hk2 : lk ≤ 14) :
    ∃ v' q' t' y' : ST, fS_beginTick v q t tm lk = some (v', q', t') ∧ fM_goOn y s = some y' ∧ SRy v' q' t' y' (tm + 1) s ∧ y'.1 = y.1 ∧ (∀ j, j ≠ 0 → j ≠ 5 → j ≠ 6 → j ≠ 7 → j ≠ 8 → y'.2 j = y.2 j) ∧ (∀ j k, k ≠ s → y'.2 j k = y.2 j k) := by
  obtain ⟨v', q', t', e1, hcase⟩ := eS_begin hR ht2 hk2
  obtain ⟨-, -, ⟨i1, i2, i3, i4, i5⟩, hu, -, -, ⟨s1, s2, s3, s4, s5, s6⟩⟩ := hR
  have e0 : (if (y.1 0) ≤ ((y.2 0) s) then ((some (((y.2 0) s) - (y.1 0)) : Option (Nat))) else (some 0 : Option (Nat))) = some (y.2 0 s - lk) := by
    by_cases h : y.1 0 ≤ y.2 0 s
    · rw [if_pos h, hk]
    · rw [if_neg h, show y.2 0 s - lk = 0 by omega]
  rcases hcase with ⟨hc, hR'⟩ | ⟨hc, hLC, hR'⟩ | ⟨hc, hLC, hR'⟩
  · refine ⟨v', q', t', sA y 0 (va_up (y.2 0) s (y.2 0 s - lk)), e1, ?_, ?_, rfl, fun j h0 _ _ _ _ => by rw [sA_2, up_n _ _ h0], fun j k hk => ?_⟩
    · by_cases hA : y.2 4 s ≤ y.2 5 s
      · simp (disch := omega) only [ite_true, ite_false, not_true_eq_false, not_false_eq_true, fM_goOn, ss_p, e0, ob_some, if_pos]
      · have hg := hu (y.2 5 s) (by omega)
        have hne : ¬ y.2 2 (512 * s + y.2 5 s) = tm := fun h9 => hc ⟨by omega, h9⟩
        simp (disch := omega) only [ite_true, ite_false, not_true_eq_false, not_false_eq_true, fM_goOn, ss_p, e0, ob_some, if_pos, if_neg]
    · unfold SRy
      simp (disch := omega) only [ite_true, ite_false, not_true_eq_false, not_false_eq_true, sA_2, up_s, up_n]
      exact hR'
    · rw [sA_2]
      by_cases hj : j = 0
      · subst hj; rw [up_s, up_n _ _ hk]
      · rw [up_n _ _ hj]
  · refine ⟨v', q', t', sA (sA (sA (sA (sA y 0 (va_up (y.2 0) s (y.2 0 s - lk))) 6 (va_up (y.2 6) s (y.2 6 s + 1))) 7 (va_up (y.2 7) s 0)) 8 (va_up (y.2 8) s (y.2 8 s + 1))) 5 (va_up (y.2 5) s (y.2 5 s + 1)), e1, ?_, ?_, rfl, fun j h0 h5 h6 h7 h8 => by simp (disch := omega) only [ite_true, ite_false, not_true_eq_false, not_false_eq_true, sA_2, up_n], fun j k hk => ?_⟩
    · have hg := hu (y.2 5 s) (by omega)
      have h9 := hc.2
      simp (disch := omega) only [ite_true, ite_false, not_true_eq_false, not_false_eq_true, fM_goOn, ss_p, e0, ob_some, if_pos, if_neg, sA_2, up_n]
    · unfold SRy
      simp (disch := omega) only [ite_true, ite_false, not_true_eq_false, not_false_eq_true, sA_2, up_s, up_n]
      exact hR'
    · by_cases h5 : j = 5
      · subst h5; simp (disch := omega) only [ite_true, ite_false, not_true_eq_false, not_false_eq_true, sA_2, up_s, up_n]
      by_cases h8 : j = 8
      · subst h8; simp (disch := omega) only [ite_true, ite_false, not_true_eq_false, not_false_eq_true, sA_2, up_s, up_n]
      by_cases h7 : j = 7
      · subst h7; simp (disch := omega) only [ite_true, ite_false, not_true_eq_false, not_false_eq_true, sA_2, up_s, up_n]
      by_cases h6 : j = 6
      · subst h6; simp (disch := omega) only [ite_true, ite_false, not_true_eq_false, not_false_eq_true, sA_2, up_s, up_n]
      by_cases h0 : j = 0
      · subst h0; simp (disch := omega) only [ite_true, ite_false, not_true_eq_false, not_false_eq_true, sA_2, up_s, up_n]
      simp (disch := omega) only [ite_true, ite_false, not_true_eq_false, not_false_eq_true, sA_2, up_n]
  · refine ⟨v', q', t', sA (sA y 0 (va_up (y.2 0) s (y.2 0 s - lk))) 5 (va_up (y.2 5) s (y.2 5 s + 1)), e1, ?_, ?_, rfl, fun j h0 h5 h6 h7 h8 => by simp (disch := omega) only [ite_true, ite_false, not_true_eq_false, not_false_eq_true, sA_2, up_n], fun j k hk => ?_⟩
    · have hg := hu (y.2 5 s) (by omega)
      have h9 := hc.2
      simp (disch := omega) only [ite_true, ite_false, not_true_eq_false, not_false_eq_true, fM_goOn, ss_p, e0, ob_some, if_pos, if_neg, sA_2, up_n]
    · unfold SRy
      simp (disch := omega) only [ite_true, ite_false, not_true_eq_false, not_false_eq_true, sA_2, up_s, up_n]
      exact hR'
    · by_cases h5 : j = 5
      · subst h5; simp (disch := omega) only [ite_true, ite_false, not_true_eq_false, not_false_eq_true, sA_2, up_s, up_n]
      by_cases h0 : j = 0
      · subst h0; simp (disch := omega) only [ite_true, ite_false, not_true_eq_false, not_false_eq_true, sA_2, up_s, up_n]
      simp (disch := omega) only [ite_true, ite_false, not_true_eq_false, not_false_eq_true, sA_2, up_n]
