theorem eM_make_s {v q t y : ST} {t2 s n tm : Nat} (hR : SRy v q t y t2 s) (hs : s < 3) (hch : fM_chosen y = some s) (ht : y.1 2 = tm) (ht2 : tm < 1000000) (ht3 : t2 < 1000002) (hA : y.2 6 s < y.2 4 s)
    (hn : n = tk tm (y.2 7 s) (y.2 1 (512 * s + y.2 6 s) - y.2 7 s)) :
    ∃ y' : ST, fM_make y = some y' ∧ y'.1 = y.1 ∧ Ag (y'.2 10) (pkt (fun _ => 255) s tm (y.2 7 s) (y.2 9 s) (y.2 1 (512 * s + y.2 6 s)) (y.2 2 (512 * s + y.2 6 s)) (y.2 3 (512 * s + y.2 6 s)) n) ∧
      (∀ j, j ≠ 0 → j ≠ 6 → j ≠ 7 → j ≠ 9 → j ≠ 10 → y'.2 j = y.2 j) ∧ (∀ j k, j ≠ 10 → k ≠ s → y'.2 j k = y.2 j k) ∧ y'.2 0 s = y.2 0 s + n ∧ y'.2 9 s = (y.2 9 s + 1) % 16 ∧
      ((y.2 7 s + n ≠ y.2 1 (512 * s + y.2 6 s) ∧ y'.2 7 s = y.2 7 s + n ∧ y'.2 6 s = y.2 6 s) ∨ (y.2 7 s + n = y.2 1 (512 * s + y.2 6 s) ∧ y'.2 7 s = 0 ∧ y'.2 6 s = y.2 6 s + 1)) := by
  have et := eM_takes hR hs (by omega) hA
  rw [ht, ← hn] at et
  obtain ⟨-, -, ⟨i1, i2, i3, i4, i5⟩, hu, -, -, ⟨s1, s2, s3, s4, s5, s6⟩⟩ := hR
  have hf := hu (y.2 6 s) hA
  have hS := s1 hA
  have hroom := tk_room tm (y.2 7 s) (y.2 1 (512 * s + y.2 6 s) - y.2 7 s)
  have hle := tk_le tm (y.2 7 s) (y.2 1 (512 * s + y.2 6 s) - y.2 7 s)
  rw [← hn] at hroom hle
  obtain ⟨u, hL1, u1, uo, u10⟩ := eM_make_L1 100 0 y (by omega) (by omega) (fun p hp => by omega)
  obtain ⟨b, hb⟩ : ∃ b, b = (if tm % 8 = 0 then 1 else 0) := ⟨_, rfl⟩
  obtain ⟨st, hst⟩ : ∃ st, st = (if y.2 7 s = 0 then 1 else 0) := ⟨_, rfl⟩
  obtain ⟨a, ha⟩ : ∃ a, a = (if tm % 8 = 0 then 4 else 2) := ⟨_, rfl⟩
  have hb1 : b ≤ 1 := by rw [hb]; split <;> omega
  have hst1 : st ≤ 1 := by rw [hst]; split <;> omega
  have ha4 : a ≤ 4 := by rw [ha]; split <;> omega
  have hj6 : (if ¬ (tm % 8) = 0 then (some 0 : Option (Nat)) else (some 1 : Option (Nat))) = some b := by
    rw [hb]
    by_cases h : tm % 8 = 0
    · rw [if_pos h, if_neg (fun h9 => h9 h)]
    · rw [if_neg h, if_pos h]
  have hj11 : (if 3 ≤ s then (some 0 : Option (Nat)) else ss (s < 3) (ss (((y.2 7) s) < 2147483648) ((if ¬ ((y.2 7) s) = 0 then (some 0 : Option (Nat)) else (some 1 : Option (Nat)))))) = some st := by
    rw [if_neg (by omega), ss_p hs, ss_p (by omega), hst]
    by_cases h : y.2 7 s = 0
    · rw [if_pos h, if_neg (fun h9 => h9 h)]
    · rw [if_neg h, if_pos h]
  have hj18 : (if 3 ≤ s then (some 0 : Option (Nat)) else ob (fM_takes y s) (fun r20 => (some r20 : Option (Nat)))) = some n := by
    rw [if_neg (by omega), et, ob_some]
  have hj35 : (if st = 0 then (some 0 : Option (Nat)) else (some 128 : Option (Nat))) = some (if st = 0 then 0 else 128) := by split <;> rfl
  have hj40 : (if b = 0 then (some 0 : Option (Nat)) else (some 64 : Option (Nat))) = some (if b = 0 then 0 else 64) := by split <;> rfl
  have hj44 : (if 3 ≤ s then (some 0 : Option (Nat)) else ss (s < 3) ((some ((u.2 9) s) : Option (Nat)))) = some (y.2 9 s) := by
    rw [if_neg (by omega), ss_p hs, uo 9 (by omega)]
  have hj49 : ∃ u2 : ST, (if b = 0 then (some (2, sA u 10 (va_up (va_up (u.2 10) 0 71) 1 ((((16 * s) + (if st = 0 then 0 else 128)) + (if b = 0 then 0 else 64)) + y.2 9 s))) : Option (Nat × ST)) else ss ((u.1 2) < 2147483648) (ss (((u.1 2) / 256) < 2147483648) ((some (4, sA u 10 (va_up (va_up (va_up (va_up (u.2 10) 0 71) 1 ((((16 * s) + (if st = 0 then 0 else 128)) + (if b = 0 then 0 else 64)) + y.2 9 s)) 2 (((u.1 2) / 256) % 256)) 3 ((u.1 2) % 256))) : Option (Nat × ST))))) = some (a, u2) ∧ u2.1 = u.1 ∧ (∀ j, j ≠ 10 → u2.2 j = u.2 j) ∧ u2.2 10 = hdr (u.2 10) (hv s st b (y.2 9 s)) b tm := by
    have h12 : u.1 2 = tm := by rw [u1, ht]
    by_cases h : b = 0
    · refine ⟨sA u 10 (va_up (va_up (u.2 10) 0 71) 1 ((((16 * s) + (if st = 0 then 0 else 128)) + (if b = 0 then 0 else 64)) + y.2 9 s)), ?_, rfl, fun j hj => by rw [sA_2, up_n _ _ hj], ?_⟩
      · rw [if_pos h, show a = 2 by rw [ha]; rw [hb] at h; split <;> simp_all]
      · rw [sA_2, up_s]; unfold hdr hv; rw [if_pos h, if_pos h]
    · refine ⟨sA u 10 (va_up (va_up (va_up (va_up (u.2 10) 0 71) 1 ((((16 * s) + (if st = 0 then 0 else 128)) + (if b = 0 then 0 else 64)) + y.2 9 s)) 2 (((u.1 2) / 256) % 256)) 3 ((u.1 2) % 256)), ?_, rfl, fun j hj => by rw [sA_2, up_n _ _ hj], ?_⟩
      · rw [if_neg h, ss_p (by omega), ss_p (by omega), show a = 4 by rw [ha]; rw [hb] at h; split <;> simp_all]
      · rw [sA_2, up_s, h12]; unfold hdr hv; rw [if_neg h, if_neg h]
  obtain ⟨u2, hj49, v1, vo, v10⟩ := hj49
  have hc6 : u2.2 6 s = y.2 6 s := by rw [vo 6 (by omega), uo 6 (by omega)]
  have hsz : u2.2 1 (512 * s + y.2 6 s) = y.2 1 (512 * s + y.2 6 s) := by rw [vo 1 (by omega), uo 1 (by omega)]
  have hdu : u2.2 2 (512 * s + y.2 6 s) = y.2 2 (512 * s + y.2 6 s) := by rw [vo 2 (by omega), uo 2 (by omega)]
  have hj57 : ∃ u3 : ST, (if st = 0 then (some (a, u2) : Option (Nat × ST)) else ss (((512 * s) + ((u2.2 6) s)) < 1536) (ss (a < 16) (ss (((u2.2 2) ((512 * s) + ((u2.2 6) s))) < 2147483648) (ss ((((u2.2 2) ((512 * s) + ((u2.2 6) s))) / 256) < 2147483648) (ss ((a + 1) < 16) (ss ((a + 2) < 16) ((some (a + 3, sA u2 10 (va_up (va_up (va_up (u2.2 10) a ((u2.2 1) ((512 * s) + ((u2.2 6) s)))) (a + 1) ((((u2.2 2) ((512 * s) + ((u2.2 6) s))) / 256) % 256)) (a + 2) (((u2.2 2) ((512 * s) + ((u2.2 6) s))) % 256))) : Option (Nat × ST))))))))) = some (a + (if y.2 7 s = 0 then 3 else 0), u3) ∧ u3.1 = u.1 ∧ (∀ j, j ≠ 10 → u3.2 j = u.2 j) ∧ u3.2 10 = stp (u2.2 10) a (y.2 1 (512 * s + y.2 6 s)) (y.2 2 (512 * s + y.2 6 s)) (y.2 7 s) := by
    rw [hc6, hsz, hdu]
    by_cases h : y.2 7 s = 0
    · rw [if_pos h] at hst
      refine ⟨sA u2 10 (va_up (va_up (va_up (u2.2 10) a (y.2 1 (512 * s + y.2 6 s))) (a + 1) (y.2 2 (512 * s + y.2 6 s) / 256 % 256)) (a + 2) (y.2 2 (512 * s + y.2 6 s) % 256)), ?_, v1, fun j hj => by rw [sA_2, up_n _ _ hj]; exact vo j hj, ?_⟩
      · rw [if_neg (by omega), ss_p (by omega), ss_p (by omega), ss_p (by omega), ss_p (by omega), ss_p (by omega), ss_p (by omega), if_pos h]
      · rw [sA_2, up_s]; unfold stp; rw [if_pos h]
    · rw [if_neg h] at hst
      refine ⟨u2, ?_, v1, vo, ?_⟩
      · rw [if_pos hst, if_neg h, Nat.add_zero]
      · unfold stp; rw [if_neg h]
  obtain ⟨u3, hj57, w1, wo, w10⟩ := hj57
  obtain ⟨u4, hL2, z1, zo, z10⟩ := eM_make_L2 s n (a, u2) (a + (if y.2 7 s = 0 then 3 else 0), u3) hs (by show 512 * s + u2.2 6 s < 1536; omega) (by show a + (if y.2 7 s = 0 then 3 else 0) + n ≤ 16; rw [ha]; revert hroom; split <;> split <;> omega) (y.2 3 (512 * s + y.2 6 s)) (y.2 7 s) hf.2.2.1 (by omega) 100 0 u3 (by omega) (by omega) (by show u3.2 3 (512 * s + u2.2 6 s) = _; rw [hc6, wo 3 (by omega), uo 3 (by omega)]) (by rw [wo 7 (by omega), uo 7 (by omega)])
  have x0 : ∀ j, j ≠ 10 → u4.2 j = y.2 j := fun j hj => by rw [zo j hj, wo j hj, uo j hj]
  have hag : Ag (u4.2 10) (pkt (fun _ => 255) s tm (y.2 7 s) (y.2 9 s) (y.2 1 (512 * s + y.2 6 s)) (y.2 2 (512 * s + y.2 6 s)) (y.2 3 (512 * s + y.2 6 s)) n) := by
    rw [z10, w10, v10]
    unfold pkt
    rw [← hst, ← hb, ← ha]
    exact agWrb (agStp (agHdr (fun p hp => u10 p hp) _ _ _) _ _ _ _) _ _ _ _ _
  have key : ∀ z : ST, (if ¬ ((va_up (u4.2 7) s (((u4.2 7) s) + n)) s) = ((u4.2 1) ((512 * s) + ((u2.2 6) s))) then some (sA (sA (sA u4 0 (va_up (u4.2 0) s (((u4.2 0) s) + n))) 7 (va_up (u4.2 7) s (((u4.2 7) s) + n))) 9 (va_up (u4.2 9) s ((((u4.2 9) s) + 1) % 16))) else some (sA (sA (sA (sA u4 0 (va_up (u4.2 0) s (((u4.2 0) s) + n))) 6 (va_up (u4.2 6) s (((u4.2 6) s) + 1))) 7 (va_up (va_up (u4.2 7) s (((u4.2 7) s) + n)) s 0)) 9 (va_up (u4.2 9) s ((((u4.2 9) s) + 1) % 16)))) = some z → fM_make y = some z := by
    intro z hz
    unfold fM_make
    rw [hch, ob_some, ht, ss_p (by omega), ss_p (by omega), hj6, ob_some, ss_p (by omega), hj11, ob_some, hj18, ob_some, hL1, ob_some]
    dsimp only
    rw [ss_p (by omega), hj35, ob_some, ss_p (by omega), hj40, ob_some, hj44, ob_some, hj49, ob_some]
    dsimp only
    rw [if_pos (by omega), ss_p hs, hj57, ob_some, hL2, ob_some]
    dsimp only
    rw [ss_p (by rw [x0 9 (by omega)]; omega), ss_p (by omega), ss_p (by rw [up_s, x0 7 (by omega)]; omega), ss_p (by rw [hc6, x0 1 (by omega)]; omega)]
    exact hz
  have y1 : u4.1 = y.1 := by rw [z1, w1, u1]
  by_cases hend : y.2 7 s + n = y.2 1 (512 * s + y.2 6 s)
  · refine ⟨(sA (sA (sA (sA u4 0 (va_up (u4.2 0) s (((u4.2 0) s) + n))) 6 (va_up (u4.2 6) s (((u4.2 6) s) + 1))) 7 (va_up (va_up (u4.2 7) s (((u4.2 7) s) + n)) s 0)) 9 (va_up (u4.2 9) s ((((u4.2 9) s) + 1) % 16))), key (sA (sA (sA (sA u4 0 (va_up (u4.2 0) s (((u4.2 0) s) + n))) 6 (va_up (u4.2 6) s (((u4.2 6) s) + 1))) 7 (va_up (va_up (u4.2 7) s (((u4.2 7) s) + n)) s 0)) 9 (va_up (u4.2 9) s ((((u4.2 9) s) + 1) % 16))) (by rw [if_neg (fun h9 => h9 (by rw [up_s, x0 7 (by omega), hc6, x0 1 (by omega)]; exact hend))]), y1, ?_, fun j h0 h6 h7 h9 h10 => ?_, fun j k h10 hk => ?_, ?_, ?_, Or.inr ⟨hend, ?_, ?_⟩⟩
    · simp (disch := omega) only [ite_true, ite_false, not_true_eq_false, not_false_eq_true, sA_2, up_n]; exact hag
    · simp (disch := omega) only [ite_true, ite_false, not_true_eq_false, not_false_eq_true, sA_2, up_n]; exact x0 j h10
    · by_cases h9 : j = 9
      · subst h9; simp (disch := omega) only [ite_true, ite_false, not_true_eq_false, not_false_eq_true, sA_2, up_s, up_n]; rw [x0 9 (by omega)]
      by_cases h7 : j = 7
      · subst h7; simp (disch := omega) only [ite_true, ite_false, not_true_eq_false, not_false_eq_true, sA_2, up_s, up_n]; rw [x0 7 (by omega)]
      by_cases h6 : j = 6
      · subst h6; simp (disch := omega) only [ite_true, ite_false, not_true_eq_false, not_false_eq_true, sA_2, up_s, up_n]; rw [x0 6 (by omega)]
      by_cases h0 : j = 0
      · subst h0; simp (disch := omega) only [ite_true, ite_false, not_true_eq_false, not_false_eq_true, sA_2, up_s, up_n]; rw [x0 0 (by omega)]
      simp (disch := omega) only [ite_true, ite_false, not_true_eq_false, not_false_eq_true, sA_2, up_n]; rw [x0 j h10]
    · simp (disch := omega) only [ite_true, ite_false, not_true_eq_false, not_false_eq_true, sA_2, up_s, up_n]; rw [x0 0 (by omega)]
    · simp (disch := omega) only [ite_true, ite_false, not_true_eq_false, not_false_eq_true, sA_2, up_s, up_n]; rw [x0 9 (by omega)]
    · simp (disch := omega) only [ite_true, ite_false, not_true_eq_false, not_false_eq_true, sA_2, up_s, up_n]
    · simp (disch := omega) only [ite_true, ite_false, not_true_eq_false, not_false_eq_true, sA_2, up_s, up_n]; rw [x0 6 (by omega)]
  · refine ⟨(sA (sA (sA u4 0 (va_up (u4.2 0) s (((u4.2 0) s) + n))) 7 (va_up (u4.2 7) s (((u4.2 7) s) + n))) 9 (va_up (u4.2 9) s ((((u4.2 9) s) + 1) % 16))), key (sA (sA (sA u4 0 (va_up (u4.2 0) s (((u4.2 0) s) + n))) 7 (va_up (u4.2 7) s (((u4.2 7) s) + n))) 9 (va_up (u4.2 9) s ((((u4.2 9) s) + 1) % 16))) (by rw [if_pos (by rw [up_s, x0 7 (by omega), hc6, x0 1 (by omega)]; exact hend)]), y1, ?_, fun j h0 h6 h7 h9 h10 => ?_, fun j k h10 hk => ?_, ?_, ?_, Or.inl ⟨hend, ?_, ?_⟩⟩
    · simp (disch := omega) only [ite_true, ite_false, not_true_eq_false, not_false_eq_true, sA_2, up_n]; exact hag
    · simp (disch := omega) only [ite_true, ite_false, not_true_eq_false, not_false_eq_true, sA_2, up_n]; exact x0 j h10
    · by_cases h9 : j = 9
      · subst h9; simp (disch := omega) only [ite_true, ite_false, not_true_eq_false, not_false_eq_true, sA_2, up_s, up_n]; rw [x0 9 (by omega)]
      by_cases h7 : j = 7
      · subst h7; simp (disch := omega) only [ite_true, ite_false, not_true_eq_false, not_false_eq_true, sA_2, up_s, up_n]; rw [x0 7 (by omega)]
      by_cases h0 : j = 0
      · subst h0; simp (disch := omega) only [ite_true, ite_false, not_true_eq_false, not_false_eq_true, sA_2, up_s, up_n]; rw [x0 0 (by omega)]
      simp (disch := omega) only [ite_true, ite_false, not_true_eq_false, not_false_eq_true, sA_2, up_n]; rw [x0 j h10]
    · simp (disch := omega) only [ite_true, ite_false, not_true_eq_false, not_false_eq_true, sA_2, up_s, up_n]; rw [x0 0 (by omega)]
    · simp (disch := omega) only [ite_true, ite_false, not_true_eq_false, not_false_eq_true, sA_2, up_s, up_n]; rw [x0 9 (by omega)]
    · simp (disch := omega) only [ite_true, ite_false, not_true_eq_false, not_false_eq_true, sA_2, up_s, up_n]; rw [x0 7 (by omega)]
    · simp (disch := omega) only [ite_true, ite_false, not_true_eq_false, not_false_eq_true, sA_2, up_n]; rw [x0 6 (by omega)]
theorem eM_make_3 {y : ST} {tm : Nat} (hch : fM_chosen y = some 3) (ht : y.1 2 = tm) (ht2 : tm < 1000000) :
    ∃ y' : ST, fM_make y = some y' ∧ y'.1 = y.1 ∧ Ag (y'.2 10) (hdr (fun _ => 255) (hv 3 0 (if tm % 8 = 0 then 1 else 0) 0) (if tm % 8 = 0 then 1 else 0) tm) ∧ (∀ j, j ≠ 10 → y'.2 j = y.2 j) := by
  obtain ⟨u, hL1, u1, uo, u10⟩ := eM_make_L1 100 0 y (by omega) (by omega) (fun p hp => by omega)
  obtain ⟨b, hb⟩ : ∃ b, b = (if tm % 8 = 0 then 1 else 0) := ⟨_, rfl⟩
  have hb1 : b ≤ 1 := by rw [hb]; split <;> omega
  have hj6 : (if ¬ (tm % 8) = 0 then (some 0 : Option (Nat)) else (some 1 : Option (Nat))) = some b := by
    rw [hb]
    by_cases h : tm % 8 = 0
    · rw [if_pos h, if_neg (fun h9 => h9 h)]
    · rw [if_neg h, if_pos h]
  have hj40 : (if b = 0 then (some 0 : Option (Nat)) else (some 64 : Option (Nat))) = some (if b = 0 then 0 else 64) := by split <;> rfl
  have h12 : u.1 2 = tm := by rw [u1, ht]
  rw [← hb]
  have key : ∀ p : Nat × ST, (if b = 0 then (some (2, sA u 10 (va_up (va_up (u.2 10) 0 71) 1 ((((16 * 3) + 0) + (if b = 0 then 0 else 64)) + 0))) : Option (Nat × ST)) else ss ((u.1 2) < 2147483648) (ss (((u.1 2) / 256) < 2147483648) ((some (4, sA u 10 (va_up (va_up (va_up (va_up (u.2 10) 0 71) 1 ((((16 * 3) + 0) + (if b = 0 then 0 else 64)) + 0)) 2 (((u.1 2) / 256) % 256)) 3 ((u.1 2) % 256))) : Option (Nat × ST))))) = some p → fM_make y = some p.2 := by
    intro p hp
    unfold fM_make
    rw [hch, ob_some, ht, ss_p (by omega), ss_p (by omega), hj6, ob_some, ss_p (by omega), if_pos (by omega), ob_some, if_pos (by omega), ob_some, hL1, ob_some]
    dsimp only
    rw [ss_p (by omega), if_pos rfl, ob_some, ss_p (by omega), hj40, ob_some, if_pos (by omega), ob_some, hp, ob_some, if_neg (fun h9 => h9 rfl)]
  by_cases h : b = 0
  · refine ⟨(sA u 10 (va_up (va_up (u.2 10) 0 71) 1 ((((16 * 3) + 0) + (if b = 0 then 0 else 64)) + 0))), key (2, (sA u 10 (va_up (va_up (u.2 10) 0 71) 1 ((((16 * 3) + 0) + (if b = 0 then 0 else 64)) + 0)))) (by rw [if_pos h]), u1, ?_, fun j hj => by rw [sA_2, up_n _ _ hj]; exact uo j hj⟩
    rw [sA_2, up_s]
    unfold hdr hv
    rw [if_pos h, if_pos rfl, if_pos h]
    exact agUp (agUp (fun p hp => u10 p hp) _ _) _ _
  · refine ⟨(sA u 10 (va_up (va_up (va_up (va_up (u.2 10) 0 71) 1 ((((16 * 3) + 0) + (if b = 0 then 0 else 64)) + 0)) 2 (((u.1 2) / 256) % 256)) 3 ((u.1 2) % 256))), key (4, (sA u 10 (va_up (va_up (va_up (va_up (u.2 10) 0 71) 1 ((((16 * 3) + 0) + (if b = 0 then 0 else 64)) + 0)) 2 (((u.1 2) / 256) % 256)) 3 ((u.1 2) % 256)))) (by rw [if_neg h, ss_p (by omega), ss_p (by omega)]), u1, ?_, fun j hj => by rw [sA_2, up_n _ _ hj]; exact uo j hj⟩
    rw [sA_2, up_s, h12]
    unfold hdr hv
    rw [if_neg h, if_pos rfl, if_neg h]
    exact agUp (agUp (agUp (agUp (fun p hp => u10 p hp) _ _) _ _) _ _) _ _
