theorem eR_adv {r y : ST} (hr : RR r y) : fR_advanceClock r = some (if y.1 16 = 0 then r else sI r 3 ((r.1 3 + 1) % 65536)) ∧ RR (if y.1 16 = 0 then r else sI r 3 ((r.1 3 + 1) % 65536)) (sI y 17 (if y.1 16 = 0 then y.1 17 else (y.1 17 + 1) % 65536)) := by
  obtain ⟨r1, r2, r3, r4, r5, r6⟩ := hr
  by_cases h : y.1 16 = 0
  · rw [if_pos h, if_pos h]
    refine ⟨by simp (disch := omega) only [ite_true, ite_false, not_true_eq_false, not_false_eq_true, fR_advanceClock, ss_p, if_pos], ?_⟩
    refine ⟨by simp (disch := omega) only [ite_true, ite_false, not_true_eq_false, not_false_eq_true, sI_1, up_n]; exact r1, by simp (disch := omega) only [ite_true, ite_false, not_true_eq_false, not_false_eq_true, sI_1, up_n]; exact r2, by simp (disch := omega) only [ite_true, ite_false, not_true_eq_false, not_false_eq_true, sI_1, up_n, up_s]; exact r3, by simp (disch := omega) only [ite_true, ite_false, not_true_eq_false, not_false_eq_true, sI_1, up_s]; exact r4, r5, r6⟩
  · rw [if_neg h, if_neg h]
    have hm := Nat.mod_lt (y.1 17 + 1) (show 65536 > 0 by omega)
    have hm2 := Nat.mod_lt (r.1 3 + 1) (show 65536 > 0 by omega)
    refine ⟨by simp (disch := omega) only [ite_true, ite_false, not_true_eq_false, not_false_eq_true, fR_advanceClock, ss_p, if_neg], ?_⟩
    refine ⟨by simp (disch := omega) only [ite_true, ite_false, not_true_eq_false, not_false_eq_true, sI_1, up_n]; exact r1, by simp (disch := omega) only [ite_true, ite_false, not_true_eq_false, not_false_eq_true, sI_1, up_n]; exact r2, fun h9 => ?_, by simp (disch := omega) only [ite_true, ite_false, not_true_eq_false, not_false_eq_true, sI_1, up_s]; exact hm, by simp (disch := omega) only [ite_true, ite_false, not_true_eq_false, not_false_eq_true, sI_1, up_s]; exact hm2, r6⟩
    simp (disch := omega) only [ite_true, ite_false, not_true_eq_false, not_false_eq_true, sI_1, up_s]
    rw [r3 (by omega)]
theorem CRy.keepI {c y y' : ST} {s : Nat} (h : CRy c y s) (h2 : y'.2 = y.2) : CRy c y' s := by
  unfold CRy at h ⊢; rw [h2]; exact h
theorem CRy.keep23 {c y : ST} {s : Nat} {g : Nat → Nat} (h : CRy c y s) : CRy c (sA y 23 g) s := by
  unfold CRy at h ⊢
  simp (disch := omega) only [ite_true, ite_false, not_true_eq_false, not_false_eq_true, sA_2, up_n]
  exact h
theorem CRy.keep11 {c y y' : ST} {s : Nat} (h : CRy c y s) (h2 : ∀ j, j ≠ 11 → y'.2 j = y.2 j) : CRy c y' s := by
  unfold CRy at h ⊢
  rw [h2 18 (by omega), h2 19 (by omega), h2 12 (by omega), h2 13 (by omega), h2 14 (by omega), h2 15 (by omega), h2 16 (by omega), h2 17 (by omega), h2 22 (by omega), h2 20 (by omega), h2 21 (by omega)]
  exact h
theorem sim_take {r c0 c1 c2 k y : ST} {pl bits : Nat} (hI : RI r c0 c1 c2 y) (hpl : pl < 16) (hk : ∀ i, i < 16 → k.2 0 i = if i = pl then y.2 10 i ^^^ bits else y.2 10 i) (hb : ∀ i, i < 16 → k.2 0 i ≤ 255) :
    ∃ r' c0' c1' c2' y' : ST, fR_take r c0 c1 c2 k = some (r', c0', c1', c2') ∧ fM_hear y pl bits = some y' ∧ RI r' c0' c1' c2' y' ∧ (∀ j, j ≠ 16 → j ≠ 17 → y'.1 j = y.1 j) ∧ (∀ j, j < 11 → y'.2 j = y.2 j) := by
  obtain ⟨hr, h0, h1, h2⟩ := hI
  obtain ⟨u, e1, e2, e3, e4⟩ := eM_hear_L pl bits hpl 100 0 y (by omega) (by omega) (fun p hp => by omega)
  have hku : ∀ j, j < 16 → k.2 0 j = u.2 11 j := fun j hj => by rw [hk j hj, e4 j hj]
  have hbu : ∀ j, j < 16 → u.2 11 j ≤ 255 := fun j hj => by rw [← hku j hj]; exact hb j hj
  have hru : RR r u := hr.keep (by rw [e2]) (by rw [e2]) (e3 23 (by omega))
  have g0 := h0.keep11 e3
  have g1 := h1.keep11 e3
  have g2 := h2.keep11 e3
  have b0 := hbu 0 (by omega)
  have b1 := hbu 1 (by omega)
  have b2 := hbu 2 (by omega)
  have b3 := hbu 3 (by omega)
  have eb0 := eP_byteAt (k := k) (i := 0) (by omega)
  rw [hku 0 (by omega)] at eb0
  have eb1 := eP_byteAt (k := k) (i := 1) (by omega)
  rw [hku 1 (by omega)] at eb1
  have et := eP_timeAt (k := k) (i := 2) (by omega)
  rw [hku 2 (by omega), show (2 + 1 : Nat) = 3 from rfl, hku 3 (by omega)] at et
  have hfr : ∀ z : ST, (∀ j, j ≠ 16 → j ≠ 17 → z.1 j = u.1 j) → (∀ j, j < 11 → z.2 j = u.2 j) → (∀ j, j ≠ 16 → j ≠ 17 → z.1 j = y.1 j) ∧ (∀ j, j < 11 → z.2 j = y.2 j) := fun z q1 q2 => ⟨fun j a b => by rw [q1 j a b, e2], fun j a => by rw [q2 j a, e3 j (by omega)]⟩
  by_cases hgood : u.2 11 0 = 71
  · -- a good first byte
    obtain ⟨hm1, hm2, hm3, hm4⟩ := bits_h (u.2 11 1) (by omega)
    -- the clock
    have hclk : ∃ (a : Nat) (r1 u1 : ST), (a = 2 ∨ a = 4) ∧ RR r1 u1 ∧ u1.2 = u.2 ∧ (∀ j, j ≠ 16 → j ≠ 17 → u1.1 j = u.1 j) ∧
        (if (u.2 11 1 &&& 64) = 0 then ob (fR_advanceClock r) (fun r11 => (some (2, r11) : Option (Nat × ST))) else ob (fP_timeAt k 2) (fun r13 => (some (4, sI (sI r 2 1) 3 r13) : Option (Nat × ST)))) = some (a, r1) ∧
        ((u.2 11 1 / 64 % 2 = 0 ∧ a = 2 ∧ u1 = sI u 17 (if u.1 16 = 0 then u.1 17 else (u.1 17 + 1) % 65536)) ∨ (u.2 11 1 / 64 % 2 = 1 ∧ a = 4 ∧ u1 = sI (sI u 16 1) 17 (256 * u.2 11 2 + u.2 11 3))) := by
      by_cases h64 : u.2 11 1 / 64 % 2 = 0
      · obtain ⟨q1, q2⟩ := eR_adv hru
        refine ⟨2, _, _, Or.inl rfl, q2, rfl, fun j _ h17 => by simp (disch := omega) only [ite_true, ite_false, not_true_eq_false, not_false_eq_true, sI_1, up_n], ?_, Or.inl ⟨h64, rfl, rfl⟩⟩
        rw [if_pos (hm1.mpr h64), q1, ob_some]
      · refine ⟨4, sI (sI r 2 1) 3 (u.2 11 2 * 256 + u.2 11 3), sI (sI u 16 1) 17 (256 * u.2 11 2 + u.2 11 3), Or.inr rfl, ?_, rfl, fun j h16 h17 => by simp (disch := omega) only [ite_true, ite_false, not_true_eq_false, not_false_eq_true, sI_1, up_n], ?_, Or.inr ⟨by omega, rfl, rfl⟩⟩
        · obtain ⟨q1, q2, q3, q4, q5, q6⟩ := hru
          refine ⟨by simp (disch := omega) only [ite_true, ite_false, not_true_eq_false, not_false_eq_true, sI_1, up_s, up_n], by simp (disch := omega) only [ite_true, ite_false, not_true_eq_false, not_false_eq_true, sI_1, up_s, up_n]; omega, fun _ => by simp (disch := omega) only [ite_true, ite_false, not_true_eq_false, not_false_eq_true, sI_1, up_s]; omega, by simp (disch := omega) only [ite_true, ite_false, not_true_eq_false, not_false_eq_true, sI_1, up_s]; omega, by simp (disch := omega) only [ite_true, ite_false, not_true_eq_false, not_false_eq_true, sI_1, up_s]; omega, q6⟩
        · rw [if_neg (fun h9 => h64 (hm1.mp h9)), et, ob_some]
    obtain ⟨a, r1, u1, ha, hr1, hu2, hu1, eclk, hcase⟩ := hclk
    have k0 := g0.keepI hu2
    have k1 := g1.keepI hu2
    have k2 := g2.keepI hu2
    have hku1 : ∀ j, j < 16 → k.2 0 j = u1.2 11 j := fun j hj => by rw [hu2]; exact hku j hj
    have hbu1 : ∀ j, j < 16 → u1.2 11 j ≤ 255 := fun j hj => by rw [hu2]; exact hbu j hj
    have hh1 : u1.2 11 1 = u.2 11 1 := by rw [hu2]
    have hs4 := Nat.mod_lt (u.2 11 1 / 16) (show 4 > 0 by omega)
    -- the reference, from the clock on
    have hM : ∀ z : ST, (if 3 ≤ u.2 11 1 / 16 % 4 then some u1 else ob (fM_note u1 (u.2 11 1 / 16 % 4) (u.2 11 1 % 16)) (fun r48 => ob (α := Nat × ST) (if u.2 11 1 ≤ 127 then (some (a, r48) : Option (Nat × ST)) else ob (fM_begin r48 (u.2 11 1 / 16 % 4) a) (fun r58 => (some (r58.1, r58.2) : Option (Nat × ST)))) (fun j51 => ob (fM_collect j51.2 (u.2 11 1 / 16 % 4) j51.1) (fun r61 => some r61)))) = some z → fM_hear y pl bits = some z := by
      intro z hz
      rcases hcase with ⟨q1, q2, q3⟩ | ⟨q1, q2, q3⟩
      · subst q2
        by_cases h16 : u.1 16 = 0
        · rw [if_pos h16] at q3
          subst q3
          have r4 := hru.2.2.2.1
          simp (disch := omega) only [ite_true, ite_false, not_true_eq_false, not_false_eq_true, fM_hear, e1, ob_some, ss_p, if_neg, if_pos]
          exact hz
        · rw [if_neg h16] at q3
          subst q3
          have r2 := hru.2.1
          have r4 := hru.2.2.2.1
          simp (disch := omega) only [ite_true, ite_false, not_true_eq_false, not_false_eq_true, fM_hear, e1, ob_some, ss_p, if_neg, if_pos]
          exact hz
      · subst q2
        subst q3
        simp (disch := omega) only [ite_true, ite_false, not_true_eq_false, not_false_eq_true, fM_hear, e1, ob_some, ss_p, if_neg]
        exact hz
    have est := eisStreamN (i := u.2 11 1 / 16 % 4) (by omega)
    by_cases hs3 : u.2 11 1 / 16 % 4 = 3
    · rw [if_neg (by omega)] at est
      refine ⟨r1, c0, c1, c2, u1, ?_, hM u1 (by rw [if_pos (by omega)]), ⟨hr1, k0, k1, k2⟩, hfr u1 hu1 (fun j _ => by rw [hu2])⟩
      unfold fR_take
      rw [eb0, ob_some, ss_p (by omega), if_pos hgood, eb1, ob_some, ss_p hm3, eclk, ob_some, ss_p (by omega), ss_p (by omega), est, ob_some, ss_p (by omega), if_pos rfl]
    · rw [if_pos (by omega)] at est
      have pre : ∀ o, (if ((u.2 11 1 / 16) % 4) = 0 then ob (fR_takeOfStream r1 c0 k a) (fun r23 => some (r23.1, r23.2, c1, c2)) else (if ((u.2 11 1 / 16) % 4) = 1 then ob (fR_takeOfStream r1 c1 k a) (fun r26 => some (r26.1, c0, r26.2, c2)) else (if ((u.2 11 1 / 16) % 4) = 2 then ob (fR_takeOfStream r1 c2 k a) (fun r29 => some (r29.1, c0, c1, r29.2)) else none))) = some o → fR_take r c0 c1 c2 k = some o := by
        intro o ho
        unfold fR_take
        rw [eb0, ob_some, ss_p (by omega), if_pos hgood, eb1, ob_some, ss_p hm3, eclk, ob_some, ss_p (by omega), ss_p (by omega), est, ob_some, ss_p (by omega), if_neg (by omega)]
        exact ho
      have fin : ∀ (s : Nat) (c : ST), u.2 11 1 / 16 % 4 = s → s < 3 → CRy c u1 s → ∃ r' c' y' : ST, fR_takeOfStream r1 c k a = some (r', c') ∧ fM_hear y pl bits = some y' ∧ RR r' y' ∧ CRy c' y' s ∧ Oth u1 y' s := by
        intro s c hs1 hs2 hcs
        obtain ⟨r', c', y1, y2, y', a2, t1, t2, t3, t4, t5, t6, t7, t8⟩ := sim_tos (h1 := u.2 11 1) hr1 hcs hs2 ha hku1 hbu1 hh1
        refine ⟨r', c', y', t1, hM y' ?_, t5, t6, t7⟩
        rw [if_neg (by omega), hs1, t2, ob_some]
        rcases t3 with ⟨w1, w2, w3⟩ | ⟨w1, w2⟩
        · subst w2
          subst w3
          rw [if_pos w1, ob_some, t4, ob_some]
        · rw [if_neg (by omega), w2, ob_some, ob_some, t4, ob_some]
      by_cases z0 : u.2 11 1 / 16 % 4 = 0
      · obtain ⟨r', c', y', t1, t2, t3, t4, t5⟩ := fin 0 c0 z0 (by omega) k0
        refine ⟨r', c', c1, c2, y', pre _ (by rw [if_pos z0, t1, ob_some]), t2, ⟨t3, t4, k1.oth t5 (by omega), k2.oth t5 (by omega)⟩, hfr y' (fun j a b => by rw [t5.1 j a b, hu1 j a b]) (fun j hj => by rw [t5.2.1 j (by omega), hu2])⟩
      · by_cases z1 : u.2 11 1 / 16 % 4 = 1
        · obtain ⟨r', c', y', t1, t2, t3, t4, t5⟩ := fin 1 c1 z1 (by omega) k1
          refine ⟨r', c0, c', c2, y', pre _ (by rw [if_neg z0, if_pos z1, t1, ob_some]), t2, ⟨t3, k0.oth t5 (by omega), t4, k2.oth t5 (by omega)⟩, hfr y' (fun j a b => by rw [t5.1 j a b, hu1 j a b]) (fun j hj => by rw [t5.2.1 j (by omega), hu2])⟩
        · obtain ⟨r', c', y', t1, t2, t3, t4, t5⟩ := fin 2 c2 (by omega) (by omega) k2
          refine ⟨r', c0, c1, c', y', pre _ (by rw [if_neg z0, if_neg z1, if_pos (by omega), t1, ob_some]), t2, ⟨t3, k0.oth t5 (by omega), k1.oth t5 (by omega), t4⟩, hfr y' (fun j a b => by rw [t5.1 j a b, hu1 j a b]) (fun j hj => by rw [t5.2.1 j (by omega), hu2])⟩
  · -- not a packet
    have hrt : RR (sA r 0 (va_up (r.2 0) 0 (r.2 0 0 + 1))) (sA u 23 (va_up (u.2 23) 0 (u.2 23 0 + 1))) := by
      obtain ⟨q1, q2, q3, q4, q5, q6⟩ := hru
      refine ⟨q1, q2, q3, q4, q5, fun k2 hk2 => ?_⟩
      simp (disch := omega) only [ite_true, ite_false, not_true_eq_false, not_false_eq_true, sA_2, up_s]
      exact tal_up q6 (by omega) k2 hk2
    obtain ⟨q1, q2⟩ := eR_adv hrt
    have hr2 := hru.2.1
    have hr4 := hru.2.2.2.1
    refine ⟨_, c0, c1, c2, sA (sI u 17 (if u.1 16 = 0 then u.1 17 else (u.1 17 + 1) % 65536)) 23 (va_up (u.2 23) 0 (u.2 23 0 + 1)), ?_, ?_, ⟨q2, (g0.keepI (y' := sI u 17 (if u.1 16 = 0 then u.1 17 else (u.1 17 + 1) % 65536)) rfl).keep23, (g1.keepI (y' := sI u 17 (if u.1 16 = 0 then u.1 17 else (u.1 17 + 1) % 65536)) rfl).keep23, (g2.keepI (y' := sI u 17 (if u.1 16 = 0 then u.1 17 else (u.1 17 + 1) % 65536)) rfl).keep23⟩, hfr _ (fun j _ h17 => by simp (disch := omega) only [ite_true, ite_false, not_true_eq_false, not_false_eq_true, sA_1, sI_1, up_n]) (fun j hj => by simp (disch := omega) only [ite_true, ite_false, not_true_eq_false, not_false_eq_true, sA_2, sI_2, up_n])⟩
    · unfold fR_take
      rw [eb0, ob_some, ss_p (by omega), if_neg hgood, q1, ob_some]
    · by_cases h16 : u.1 16 = 0
      · rw [if_pos h16]
        simp (disch := omega) only [ite_true, ite_false, not_true_eq_false, not_false_eq_true, fM_hear, e1, ob_some, ss_p, if_neg, if_pos]
        rfl
      · rw [if_neg h16]
        simp (disch := omega) only [ite_true, ite_false, not_true_eq_false, not_false_eq_true, fM_hear, e1, ob_some, ss_p, if_neg, if_pos]
        rfl
