theorem sim_finish {r c u : ST} {s : Nat} (hr : RR r u) (hf : FinU c u s) (hs : s < 3) :
    ∃ r' c' z : ST, fR_finishUnit r c = some (r', c') ∧ fM_arrive u s = some z ∧ z.2 14 s = 0 ∧ RR r' z ∧ CRy c' z s ∧ Oth u z s ∧ z.1 = u.1 := by
  obtain ⟨r1, r2, r3, r4, r5, r6⟩ := hr
  obtain ⟨⟨c0, c1, l0, l1⟩, ⟨w1, w2, w3, w4, w5, w6⟩, c10⟩ := hf
  have hkl : ∃ c2 : ST, fC_keepAsLatest c = some c2 ∧ c2.1 0 = c.1 0 ∧ c2.1 1 = c.1 1 ∧ c2.1 2 = 0 ∧ c2.1 7 = c.1 3 ∧ c2.1 8 = c.1 4 ∧ c2.1 10 = c.1 10 + 1 ∧ c2.2 1 = c.2 0 := by
    refine ⟨_, rfl, ?_, ?_, ?_, ?_, ?_, ?_, ?_⟩ <;> simp (disch := omega) only [ite_true, ite_false, not_true_eq_false, not_false_eq_true, sA_1, sA_2, sI_1, sI_2, up_s, up_n]
  obtain ⟨c2, ekl, k0, k1, k2, k7, k8, k10, kb⟩ := hkl
  have efm : ffloorMod (nI (c2.1 8) - nI (r.1 3)) (nI 65536) = some (nI ((u.2 17 s + 65536 - r.1 3) % 65536)) := by
    rw [k8, w2]; exact efloorMod w5 r5
  -- the numbers of counts behind it
  have key : ∀ (j6 : Nat) (R2 : ST), (if (u.1 16) = 0 then (some ((va_up (u.2 23) 4 (((u.2 23) 4) + 1)) 5) : Option (Nat)) else ss ((((u.2 17) s + 65536 - (u.1 17)) % 65536) < 2147483648) ((if (((u.2 17) s + 65536 - (u.1 17)) % 65536) < 1 then (some ((va_up (u.2 23) 4 (((u.2 23) 4) + 1)) 5) : Option (Nat)) else (if 32767 < (((u.2 17) s + 65536 - (u.1 17)) % 65536) then (some ((va_up (u.2 23) 4 (((u.2 23) 4) + 1)) 5) : Option (Nat)) else (some (((va_up (u.2 23) 4 (((u.2 23) 4) + 1)) 5) + 1) : Option (Nat)))))) = some j6 →
      fR_finishUnit r c = some (R2, c2) → R2.1 = r.1 → (∀ k, k < 6 → R2.2 0 k = va_up (va_up (u.2 23) 4 (u.2 23 4 + 1)) 5 j6 k) →
      ∃ r' c' z : ST, fR_finishUnit r c = some (r', c') ∧ fM_arrive u s = some z ∧ z.2 14 s = 0 ∧ RR r' z ∧ CRy c' z s ∧ Oth u z s ∧ z.1 = u.1 := by
    intro j6 R2 hj hfin hR1 hR2
    obtain ⟨z, e1, e2, e3, e4, e5⟩ := eM_arr_L s hs 100 0 (sA (sA (sA (sA (sA u 14 (va_up (u.2 14) s 0)) 20 (va_up (u.2 20) s (u.2 16 s))) 21 (va_up (u.2 21) s (u.2 17 s))) 22 (va_up (u.2 22) s (u.2 22 s + 1))) 23 (va_up (va_up (u.2 23) 4 (u.2 23 4 + 1)) 5 j6)) (by omega) (by omega)
    refine ⟨R2, c2, z, hfin, ?_, ?_, ?_, ?_, ?_, e2⟩
    · unfold fM_arrive
      rw [ss_p hs, ss_p (by omega), ss_p (by omega), ss_p (by omega), hj, ob_some, e1, ob_some]
    · rw [e3 14 (by omega)]; simp (disch := omega) only [ite_true, ite_false, not_true_eq_false, not_false_eq_true, sA_2, up_s, up_n]
    · refine ⟨by rw [hR1, e2]; exact r1, by rw [e2]; exact r2, by rw [hR1, e2]; exact r3, by rw [e2]; exact r4, by rw [hR1]; exact r5, fun k hk => ?_⟩
      rw [e3 23 (by omega)]
      simp (disch := omega) only [ite_true, ite_false, not_true_eq_false, not_false_eq_true, sA_2, up_s]
      exact hR2 k hk
    · unfold CRy
      rw [e3 12 (by omega), e3 13 (by omega), e3 14 (by omega), e3 15 (by omega), e3 16 (by omega), e3 17 (by omega), e3 22 (by omega), e3 20 (by omega), e3 21 (by omega)]
      simp (disch := omega) only [ite_true, ite_false, not_true_eq_false, not_false_eq_true, sA_2, up_s, up_n]
      refine ⟨⟨by omega, by omega, k2, l0, l1, by omega⟩, fun h9 => by omega, by omega, fun _ => ⟨⟨by omega, by omega, w3, w4⟩, fun j hj => ?_⟩⟩
      rw [kb, e4 (60 * s + j) (by omega) (by omega)]
      simp (disch := omega) only [ite_true, ite_false, not_true_eq_false, not_false_eq_true, sA_2, up_n]
      exact w6 j hj
    · refine ⟨fun k _ _ => by rw [e2]; rfl, fun j hj => by rw [e3 j (by omega)]; simp (disch := omega) only [ite_true, ite_false, not_true_eq_false, not_false_eq_true, sA_2, up_n], fun j k2 hk2 hj => ?_, fun p hp => ⟨?_, ?_⟩⟩
      · rw [e3 j (by omega)]
        rcases hj with h | h | h | h | h | h | h | h | h <;> subst h <;> simp (disch := omega) only [ite_true, ite_false, not_true_eq_false, not_false_eq_true, sA_2, up_s, up_n]
      · rw [e3 18 (by omega)]; simp (disch := omega) only [ite_true, ite_false, not_true_eq_false, not_false_eq_true, sA_2, up_n]
      · rw [e5 p (by omega)]; simp (disch := omega) only [ite_true, ite_false, not_true_eq_false, not_false_eq_true, sA_2, up_n]
  have t4 : ∀ k, k < 6 → va_up (r.2 0) 4 (r.2 0 4 + 1) k = va_up (u.2 23) 4 (u.2 23 4 + 1) k := tal_up r6 (by omega)
  by_cases hkn : u.1 16 = 0
  · refine key _ (sA r 0 (va_up (r.2 0) 4 (r.2 0 4 + 1))) (by rw [if_pos hkn]) ?_ rfl (fun k hk => ?_)
    · simp (disch := omega) only [ite_true, ite_false, not_true_eq_false, not_false_eq_true, fR_finishUnit, ekl, efm, ob_some, ss_p, if_pos]
    · rw [up_id, sA_2, up_s]; exact t4 k hk
  · have hck := r3 (by omega)
    rw [hck] at efm
    have hlt : (u.2 17 s + 65536 - u.1 17) % 65536 < 65536 := Nat.mod_lt _ (by omega)
    generalize hah : (u.2 17 s + 65536 - u.1 17) % 65536 = ah at efm hlt key
    by_cases h1 : ah < 1
    · refine key _ (sA r 0 (va_up (r.2 0) 4 (r.2 0 4 + 1))) (by rw [if_neg hkn, ss_p (by omega), if_pos h1]) ?_ rfl (fun k hk => ?_)
      · have hx : nI ah < nI 1 := (nI_ltI (by omega) (by omega)).mpr h1
        rw [hck.symm] at efm
        simp (disch := omega) only [ite_true, ite_false, not_true_eq_false, not_false_eq_true, fR_finishUnit, ekl, efm, ob_some, ss_p, if_neg]
        all_goals rw [if_pos hx]
      · rw [up_id, sA_2, up_s]; exact t4 k hk
    · have hx1 : ¬ nI ah < nI 1 := fun h9 => h1 ((nI_ltI (by omega) (by omega)).mp h9)
      by_cases h2 : 32767 < ah
      · refine key _ (sA r 0 (va_up (r.2 0) 4 (r.2 0 4 + 1))) (by rw [if_neg hkn, ss_p (by omega), if_neg h1, if_pos h2]) ?_ rfl (fun k hk => ?_)
        · have hx : nI 32767 < nI ah := (nI_ltI (by omega) (by omega)).mpr h2
          rw [hck.symm] at efm
          simp (disch := omega) only [ite_true, ite_false, not_true_eq_false, not_false_eq_true, fR_finishUnit, ekl, efm, ob_some, ss_p, if_neg]
          all_goals (first | rw [if_neg hx1, if_pos hx] | rw [if_pos hx])
        · rw [up_id, sA_2, up_s]; exact t4 k hk
      · have hx2 : ¬ nI 32767 < nI ah := fun h9 => h2 ((nI_ltI (by omega) (by omega)).mp h9)
        refine key _ (sA r 0 (va_up (va_up (r.2 0) 4 (r.2 0 4 + 1)) 5 (va_up (r.2 0) 4 (r.2 0 4 + 1) 5 + 1))) (by rw [if_neg hkn, ss_p (by omega), if_neg h1, if_neg h2]) ?_ rfl (fun k hk => ?_)
        · rw [hck.symm] at efm
          simp (disch := omega) only [ite_true, ite_false, not_true_eq_false, not_false_eq_true, fR_finishUnit, ekl, efm, ob_some, ss_p, if_neg]
          all_goals (first | rw [if_neg hx1, if_neg hx2] | rw [if_neg hx2])
        · rw [sA_2, up_s]; exact tal_up t4 (by omega) k hk
theorem sim_begin {r c y k : ST} {s a : Nat} (hr : RR r y) (hc : CRy c y s) (hs : s < 3) (ha : a + 3 ≤ 16) (hk : ∀ j, j < 16 → k.2 0 j = y.2 11 j) (hb : ∀ j, j < 16 → y.2 11 j ≤ 255) :
    ∃ (r1 c1 r2 c2 y2 : ST) (a2 : Nat), fR_breakUnit r c = some (r1, c1) ∧ fR_beginUnit r1 c1 k a = some (r2, c2) ∧ fM_begin y s a = some (a2, y2) ∧ RR r2 y2 ∧ CRy c2 y2 s ∧ Oth y y2 s ∧ y2.1 = y.1 ∧ ((y2.2 14 s = 1 ∧ a2 = a + 3) ∨ (y2.2 14 s = 0 ∧ a2 = 16)) := by
  obtain ⟨⟨c0, c1, c2, l0, l1, l2⟩, hcl, hlast⟩ := hc
  obtain ⟨r1, r2, r3, r4, r5, r6⟩ := hr
  have b0 := hb a (by omega)
  have b1 := hb (a + 1) (by omega)
  have b2 := hb (a + 2) (by omega)
  have ebt := eP_byteAt (k := k) (i := a) (by omega)
  rw [hk a (by omega)] at ebt
  have ett := eP_timeAt (k := k) (i := a + 1) (by omega)
  rw [hk (a + 1) (by omega), show a + 1 + 1 = a + 2 by omega, hk (a + 2) (by omega)] at ett
  -- what breaking off leaves
  have hbr : ∃ (R C Y : ST), fR_breakUnit r c = some (R, C) ∧ fM_goBroken y s = some Y ∧ R.1 = r.1 ∧ (∀ k, k < 6 → R.2 0 k = Y.2 23 k) ∧ C.1 0 = y.2 12 s ∧ C.1 1 = y.2 13 s ∧ C.1 2 = 0 ∧ C.1 10 = c.1 10 ∧ C.1 7 = c.1 7 ∧ C.1 8 = c.1 8 ∧ C.2 = c.2 ∧ Y.1 = y.1 ∧ (∀ j, j ≠ 14 → j ≠ 23 → Y.2 j = y.2 j) ∧ Y.2 14 s = 0 ∧ ∀ k2, k2 ≠ s → Y.2 14 k2 = y.2 14 k2 := by
    have eB := brkC (r := r) (c := c) (by omega)
    have eM := brkM (y := y) hs l2
    by_cases h0 : y.2 14 s = 0
    · rw [if_pos (by omega)] at eB
      refine ⟨_, _, _, eB, eM, rfl, fun k hk => ?_, c0, c1, by omega, rfl, rfl, rfl, rfl, rfl, fun j h1 h2 => by simp (disch := omega) only [ite_true, ite_false, not_true_eq_false, not_false_eq_true, sA_2, up_n], by simp (disch := omega) only [ite_true, ite_false, not_true_eq_false, not_false_eq_true, sA_2, up_s, up_n], fun k2 hk2 => by simp (disch := omega) only [ite_true, ite_false, not_true_eq_false, not_false_eq_true, sA_2, up_s, up_n]⟩
      simp (disch := omega) only [ite_true, ite_false, not_true_eq_false, not_false_eq_true, sA_2, up_s, if_pos, up_id]
      exact r6 k hk
    · rw [if_neg (by omega)] at eB
      refine ⟨_, _, _, eB, eM, rfl, fun k hk => ?_, by simp (disch := omega) only [ite_true, ite_false, not_true_eq_false, not_false_eq_true, sI_1, up_n]; exact c0, by simp (disch := omega) only [ite_true, ite_false, not_true_eq_false, not_false_eq_true, sI_1, up_n]; exact c1, by simp (disch := omega) only [ite_true, ite_false, not_true_eq_false, not_false_eq_true, sI_1, up_s], by simp (disch := omega) only [ite_true, ite_false, not_true_eq_false, not_false_eq_true, sI_1, up_n], by simp (disch := omega) only [ite_true, ite_false, not_true_eq_false, not_false_eq_true, sI_1, up_n], by simp (disch := omega) only [ite_true, ite_false, not_true_eq_false, not_false_eq_true, sI_1, up_n], rfl, rfl, fun j h1 h2 => by simp (disch := omega) only [ite_true, ite_false, not_true_eq_false, not_false_eq_true, sA_2, up_n], by simp (disch := omega) only [ite_true, ite_false, not_true_eq_false, not_false_eq_true, sA_2, up_s, up_n], fun k2 hk2 => by simp (disch := omega) only [ite_true, ite_false, not_true_eq_false, not_false_eq_true, sA_2, up_s, up_n]⟩
      simp (disch := omega) only [ite_true, ite_false, not_true_eq_false, not_false_eq_true, sA_2, up_s, if_neg]
      exact tal_up r6 (by omega) k hk
  obtain ⟨R, C, Y, eB, eM, g1, g2, g3, g4, g5, g6, g7, g8, g9, g10, g11, g12, g13⟩ := hbr
  have h11 := g11 11 (by omega) (by omega)
  have ewi := ewithinN (v := y.2 11 a) (a := 1) (b := 60) (by omega) (by omega) (by omega)
  by_cases hsz : 1 ≤ y.2 11 a ∧ y.2 11 a ≤ 60
  · rw [if_pos hsz] at ewi
    refine ⟨R, C, R, sI (sI (sI (sI C 2 1) 3 (y.2 11 a)) 4 (y.2 11 (a + 1) * 256 + y.2 11 (a + 2))) 5 0, sA (sA (sA (sA Y 14 (va_up (Y.2 14) s 1)) 15 (va_up (Y.2 15) s 0)) 16 (va_up (Y.2 16) s (Y.2 11 a))) 17 (va_up (Y.2 17) s (256 * Y.2 11 (a + 1) + Y.2 11 (a + 2))), a + 3, eB, ?_, ?_, ?_, ?_, ?_, g10, Or.inl ⟨by simp (disch := omega) only [ite_true, ite_false, not_true_eq_false, not_false_eq_true, sA_2, up_s, up_n], rfl⟩⟩
    · simp (disch := omega) only [ite_true, ite_false, not_true_eq_false, not_false_eq_true, fR_beginUnit, ebt, ett, ob_some, ss_p, if_pos, if_neg, fC_begin]
    · simp (disch := omega) only [ite_true, ite_false, not_true_eq_false, not_false_eq_true, fM_begin, eM, ob_some, ss_p, h11, ewi, if_pos]
    · refine ⟨by rw [g1]; show r.1 2 = Y.1 16; rw [g10]; exact r1, by show Y.1 16 ≤ 1; rw [g10]; exact r2, by rw [g1]; show Y.1 16 = 1 → r.1 3 = Y.1 17; rw [g10]; exact r3, by show Y.1 17 < 65536; rw [g10]; exact r4, by rw [g1]; exact r5, fun k hk => ?_⟩
      simp (disch := omega) only [ite_true, ite_false, not_true_eq_false, not_false_eq_true, sA_2, up_n]
      exact g2 k hk
    · unfold CRy
      simp (disch := omega) only [ite_true, ite_false, not_true_eq_false, not_false_eq_true, sA_2, up_s, up_n, h11]
      rw [g11 12 (by omega) (by omega), g11 13 (by omega) (by omega), g11 18 (by omega) (by omega), g11 19 (by omega) (by omega), g11 22 (by omega) (by omega), g11 20 (by omega) (by omega), g11 21 (by omega) (by omega)]
      refine ⟨⟨by simp (disch := omega) only [ite_true, ite_false, not_true_eq_false, not_false_eq_true, sI_1, up_n]; exact g3, by simp (disch := omega) only [ite_true, ite_false, not_true_eq_false, not_false_eq_true, sI_1, up_n]; exact g4, by simp (disch := omega) only [ite_true, ite_false, not_true_eq_false, not_false_eq_true, sI_1, up_s, up_n], l0, l1, by omega⟩, fun _ => ⟨⟨by simp (disch := omega) only [ite_true, ite_false, not_true_eq_false, not_false_eq_true, sI_1, up_s, up_n], by simp (disch := omega) only [ite_true, ite_false, not_true_eq_false, not_false_eq_true, sI_1, up_s, up_n]; omega, by simp (disch := omega) only [ite_true, ite_false, not_true_eq_false, not_false_eq_true, sI_1, up_s], by omega, by omega, by omega⟩, fun j hj => by omega⟩, ?_⟩
      simp (disch := omega) only [ite_true, ite_false, not_true_eq_false, not_false_eq_true, sI_1, sI_2, up_n]
      rw [g6, g7, g8, g9]; exact hlast
    · refine ⟨fun k _ _ => by show Y.1 k = y.1 k; rw [g10], fun j hj => by simp (disch := omega) only [ite_true, ite_false, not_true_eq_false, not_false_eq_true, sA_2, up_n]; exact g11 j (by omega) (by omega), fun j k2 hk2 hj => ?_, fun p hp => ⟨by simp (disch := omega) only [ite_true, ite_false, not_true_eq_false, not_false_eq_true, sA_2, up_n]; rw [g11 18 (by omega) (by omega)], by simp (disch := omega) only [ite_true, ite_false, not_true_eq_false, not_false_eq_true, sA_2, up_n]; rw [g11 19 (by omega) (by omega)]⟩⟩
      rcases hj with h | h | h | h | h | h | h | h | h <;> subst h <;> simp (disch := omega) only [ite_true, ite_false, not_true_eq_false, not_false_eq_true, sA_2, up_s, up_n] <;> first | exact g13 k2 hk2 | rw [g11 _ (by omega) (by omega)]
  · rw [if_neg hsz] at ewi
    refine ⟨R, C, sA R 0 (va_up (R.2 0) 3 (R.2 0 3 + 1)), C, sA Y 23 (va_up (Y.2 23) 3 (Y.2 23 3 + 1)), 16, eB, ?_, ?_, ?_, ?_, ?_, g10, Or.inr ⟨by simp (disch := omega) only [ite_true, ite_false, not_true_eq_false, not_false_eq_true, sA_2, up_n]; exact g12, rfl⟩⟩
    · by_cases h1 : y.2 11 a < 1
      · simp (disch := omega) only [ite_true, ite_false, not_true_eq_false, not_false_eq_true, fR_beginUnit, ebt, ob_some, ss_p, if_pos]
      · simp (disch := omega) only [ite_true, ite_false, not_true_eq_false, not_false_eq_true, fR_beginUnit, ebt, ob_some, ss_p, if_neg]
    · simp (disch := omega) only [ite_true, ite_false, not_true_eq_false, not_false_eq_true, fM_begin, eM, ob_some, ss_p, h11, ewi, if_neg]
    · refine ⟨by show R.1 2 = Y.1 16; rw [g1, g10]; exact r1, by show Y.1 16 ≤ 1; rw [g10]; exact r2, by show Y.1 16 = 1 → R.1 3 = Y.1 17; rw [g1, g10]; exact r3, by show Y.1 17 < 65536; rw [g10]; exact r4, by show R.1 3 < 65536; rw [g1]; exact r5, fun k hk => ?_⟩
      simp (disch := omega) only [ite_true, ite_false, not_true_eq_false, not_false_eq_true, sA_2, up_s]
      exact tal_up g2 (by omega) k hk
    · unfold CRy
      simp (disch := omega) only [ite_true, ite_false, not_true_eq_false, not_false_eq_true, sA_2, up_n]
      rw [g12, g11 12 (by omega) (by omega), g11 13 (by omega) (by omega), g11 18 (by omega) (by omega), g11 19 (by omega) (by omega), g11 22 (by omega) (by omega), g11 20 (by omega) (by omega), g11 21 (by omega) (by omega)]
      refine ⟨⟨g3, g4, g5, l0, l1, by omega⟩, fun h9 => by omega, ?_⟩
      rw [g6, g7, g8, g9]; exact hlast
    · refine ⟨fun k _ _ => by show Y.1 k = y.1 k; rw [g10], fun j hj => by simp (disch := omega) only [ite_true, ite_false, not_true_eq_false, not_false_eq_true, sA_2, up_n]; exact g11 j (by omega) (by omega), fun j k2 hk2 hj => ?_, fun p hp => ⟨by simp (disch := omega) only [ite_true, ite_false, not_true_eq_false, not_false_eq_true, sA_2, up_n]; rw [g11 18 (by omega) (by omega)], by simp (disch := omega) only [ite_true, ite_false, not_true_eq_false, not_false_eq_true, sA_2, up_n]; rw [g11 19 (by omega) (by omega)]⟩⟩
      rcases hj with h | h | h | h | h | h | h | h | h <;> subst h <;> simp (disch := omega) only [ite_true, ite_false, not_true_eq_false, not_false_eq_true, sA_2, up_n] <;> first | exact g13 k2 hk2 | rw [g11 _ (by omega) (by omega)]
