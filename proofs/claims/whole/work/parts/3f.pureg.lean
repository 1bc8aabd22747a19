theorem hv_le {s st b nx : Nat} (hs : s ≤ 3) (hn : nx < 16) : hv s st b nx ≤ 255 := by
  unfold hv
  split <;> split <;> omega
def B255 (c : Nat → Nat) : Prop := ∀ p, p < 16 → c p ≤ 255
theorem B255.up {c : Nat → Nat} (h : B255 c) (k v : Nat) (hv : v ≤ 255) : B255 (va_up c k v) := by
  intro p hp
  by_cases hc : p = k
  · subst hc; rw [up_s]; exact hv
  · rw [up_n _ _ hc]; exact h p hp
theorem b_hdr {c : Nat → Nat} (h : B255 c) {v b tm : Nat} (hv : v ≤ 255) : B255 (hdr c v b tm) := by
  have m1 := Nat.mod_lt (tm / 256) (show 256 > 0 by omega)
  have m2 := Nat.mod_lt tm (show 256 > 0 by omega)
  unfold hdr
  split
  · exact (h.up _ _ (by omega)).up _ _ hv
  · exact (((h.up _ _ (by omega)).up _ _ hv).up _ _ (by omega)).up _ _ (by omega)
theorem b_pkt {s tm S nx sz du sd n : Nat} (hs : s ≤ 3) (hn : nx < 16) (hz : sz ≤ 60) : B255 (pkt (fun _ => 255) s tm S nx sz du sd n) := by
  have m1 := Nat.mod_lt (du / 256) (show 256 > 0 by omega)
  have m2 := Nat.mod_lt du (show 256 > 0 by omega)
  have h1 : ∀ (c : Nat → Nat) (a : Nat), B255 c → B255 (stp c a sz du S) := by
    intro c a hc
    unfold stp
    split
    · exact ((hc.up _ _ (by omega)).up _ _ (by omega)).up _ _ (by omega)
    · exact hc
  have h2 : ∀ (c : Nat → Nat) (a : Nat), B255 c → B255 (wrb c a 0 n sd S) := by
    intro c a hc p hp
    unfold wrb
    split
    · have := Nat.mod_lt (sd + 7 * (S + (p - a))) (show 256 > 0 by omega); omega
    · exact hc p hp
  exact h2 _ _ (h1 _ _ (b_hdr (fun p _ => Nat.le_refl _) (hv_le hs hn)))
theorem rd_le (tm A L C S lo hi left cap : Nat) : rd tm A L C S lo hi left cap < 2147483648 := by
  unfold rd; split <;> omega
theorem rd_ne {tm A L C S lo hi left cap : Nat} (h : rd tm A L C S lo hi left cap ≠ 0) : C < A ∧ (0 < S ∨ C - L < 8) ∧ lo + tk tm S left ≤ 28 := by
  unfold rd at h
  by_cases hc : C < A ∧ (0 < S ∨ C - L < 8) ∧ lo + tk tm S left ≤ 28 ∧ hi + tk tm S left ≤ cap
  · exact ⟨hc.1, hc.2.1, hc.2.2.1⟩
  · rw [if_neg hc] at h; exact absurd rfl h
/-- the sending side of class and reference -/
def IS (x : XS) (y : ST) : Prop :=
  (SRy (x 1) (x 2) (x 3) y (y.1 2) 0 ∧ SRy (x 4) (x 5) (x 6) y (y.1 2) 1 ∧ SRy (x 7) (x 8) (x 9) y (y.1 2) 2) ∧
  ((x 0).1 0 = y.1 0 ∧ (x 0).1 1 = y.1 1 ∧ (x 0).1 6 = y.1 2 ∧ (x 0).1 7 = y.1 13 ∧ y.1 13 ≤ 1 ∧ y.1 0 ≤ 14 ∧ y.1 1 ≤ 200) ∧ Ag ((x 14).2 0) (y.2 10) ∧ B255 (y.2 10)
theorem SRy.keepF {v q t y y' : ST} {tm s s' : Nat} (h : SRy v q t y tm s') (hs : s' ≠ s) (hj : ∀ j, j ≠ 0 → j ≠ 5 → j ≠ 6 → j ≠ 7 → j ≠ 8 → y'.2 j = y.2 j) (hk : ∀ j k, k ≠ s → y'.2 j k = y.2 j k) : SRy v q t y' tm s' :=
  h.keep (hj 1 (by omega) (by omega) (by omega) (by omega) (by omega)) (hj 2 (by omega) (by omega) (by omega) (by omega) (by omega)) (hj 3 (by omega) (by omega) (by omega) (by omega) (by omega)) (hk 4 s' hs) (hk 5 s' hs) (hk 6 s' hs) (hk 7 s' hs) (hk 0 s' hs) (hk 9 s' hs) (hk 8 s' hs)
theorem SRy.first {v q t y : ST} {t2 s : Nat} (h : SRy v q t y t2 s) (hA : y.2 6 s < y.2 4 s) : q.2 1 0 = y.2 2 (512 * s + y.2 6 s) ∧ y.2 2 (512 * s + y.2 6 s) ≤ t2 + 1000 ∧ y.2 6 s < 512 := by
  obtain ⟨⟨wq, -⟩, -, ⟨i1, i2, i3, i4, i5⟩, hu, -⟩ := h
  have h1 := (wq.2 0 (by omega)).2.1
  rw [Nat.add_zero] at h1
  exact ⟨h1, (hu _ hA).2.2.2, by omega⟩
/-- the choice is one -/
theorem sim_choose {x : XS} {y : ST} {tm : Nat} (h0 : SRy (x 1) (x 2) (x 3) y (tm + 1) 0) (h1 : SRy (x 4) (x 5) (x 6) y (tm + 1) 1) (h2 : SRy (x 7) (x 8) (x 9) y (tm + 1) 2) (hc : (x 0).1 1 = y.1 1) (hc2 : y.1 1 ≤ 200) (ht : y.1 2 = tm) (ht2 : tm < 900000) :
    ∃ s : Nat, fX_chooseStream x (if tm % 8 = 0 then 1 else 0) = some s ∧ fM_chosen y = some s ∧ (s = 3 ∨ (s < 3 ∧ y.2 6 s < y.2 4 s ∧ (0 < y.2 7 s ∨ y.2 6 s - y.2 5 s < 8) ∧ y.2 0 s + tk tm (y.2 7 s) (y.2 1 (512 * s + y.2 6 s) - y.2 7 s) ≤ 28)) := by
  have m0 := eM_ready h0 (by omega) (by omega) hc2
  have m1 := eM_ready h1 (by omega) (by omega) hc2
  have m2 := eM_ready h2 (by omega) (by omega) hc2
  have k0 := eS_ready (tm := tm) (b := if tm % 8 = 0 then 1 else 0) (cap := (x 0).1 1) h0 rfl (by omega)
  have k1 := eS_ready (tm := tm) (b := if tm % 8 = 0 then 1 else 0) (cap := (x 0).1 1) h1 rfl (by omega)
  have k2 := eS_ready (tm := tm) (b := if tm % 8 = 0 then 1 else 0) (cap := (x 0).1 1) h2 rfl (by omega)
  rw [hc] at k0 k1 k2
  rw [ht] at m0 m1 m2
  rw [← hc] at k0 k1 k2
  rw [← hc] at m0 m1 m2
  have n0 := fun h => rd_ne (tm := tm) (A := y.2 4 0) (L := y.2 5 0) (C := y.2 6 0) (S := y.2 7 0) (lo := y.2 0 0) (hi := y.2 7 0 + sm (y.2 1) (512 * 0 + y.2 5 0) (y.2 6 0 - y.2 5 0)) (left := y.2 1 (512 * 0 + y.2 6 0) - y.2 7 0) (cap := (x 0).1 1) h
  have n1 := fun h => rd_ne (tm := tm) (A := y.2 4 1) (L := y.2 5 1) (C := y.2 6 1) (S := y.2 7 1) (lo := y.2 0 1) (hi := y.2 7 1 + sm (y.2 1) (512 * 1 + y.2 5 1) (y.2 6 1 - y.2 5 1)) (left := y.2 1 (512 * 1 + y.2 6 1) - y.2 7 1) (cap := (x 0).1 1) h
  have n2 := fun h => rd_ne (tm := tm) (A := y.2 4 2) (L := y.2 5 2) (C := y.2 6 2) (S := y.2 7 2) (lo := y.2 0 2) (hi := y.2 7 2 + sm (y.2 1) (512 * 2 + y.2 5 2) (y.2 6 2 - y.2 5 2)) (left := y.2 1 (512 * 2 + y.2 6 2) - y.2 7 2) (cap := (x 0).1 1) h
  have b0 := rd_le tm (y.2 4 0) (y.2 5 0) (y.2 6 0) (y.2 7 0) (y.2 0 0) (y.2 7 0 + sm (y.2 1) (512 * 0 + y.2 5 0) (y.2 6 0 - y.2 5 0)) (y.2 1 (512 * 0 + y.2 6 0) - y.2 7 0) ((x 0).1 1)
  have b1 := rd_le tm (y.2 4 1) (y.2 5 1) (y.2 6 1) (y.2 7 1) (y.2 0 1) (y.2 7 1 + sm (y.2 1) (512 * 1 + y.2 5 1) (y.2 6 1 - y.2 5 1)) (y.2 1 (512 * 1 + y.2 6 1) - y.2 7 1) ((x 0).1 1)
  have b2 := rd_le tm (y.2 4 2) (y.2 5 2) (y.2 6 2) (y.2 7 2) (y.2 0 2) (y.2 7 2 + sm (y.2 1) (512 * 2 + y.2 5 2) (y.2 6 2 - y.2 5 2)) (y.2 1 (512 * 2 + y.2 6 2) - y.2 7 2) ((x 0).1 1)
  generalize rd tm (y.2 4 0) (y.2 5 0) (y.2 6 0) (y.2 7 0) (y.2 0 0) (y.2 7 0 + sm (y.2 1) (512 * 0 + y.2 5 0) (y.2 6 0 - y.2 5 0)) (y.2 1 (512 * 0 + y.2 6 0) - y.2 7 0) ((x 0).1 1) = r0 at k0 m0 n0 b0
  generalize rd tm (y.2 4 1) (y.2 5 1) (y.2 6 1) (y.2 7 1) (y.2 0 1) (y.2 7 1 + sm (y.2 1) (512 * 1 + y.2 5 1) (y.2 6 1 - y.2 5 1)) (y.2 1 (512 * 1 + y.2 6 1) - y.2 7 1) ((x 0).1 1) = r1 at k1 m1 n1 b1
  generalize rd tm (y.2 4 2) (y.2 5 2) (y.2 6 2) (y.2 7 2) (y.2 0 2) (y.2 7 2 + sm (y.2 1) (512 * 2 + y.2 5 2) (y.2 6 2 - y.2 5 2)) (y.2 1 (512 * 2 + y.2 6 2) - y.2 7 2) ((x 0).1 1) = r2 at k2 m2 n2 b2
  have e0 : r0 = 0 ∨ ((x 2).2 1 0 = y.2 2 (512 * 0 + y.2 6 0) ∧ y.2 2 (512 * 0 + y.2 6 0) < 2147483648 ∧ y.2 6 0 < 512) := by
    by_cases z : r0 = 0
    · exact Or.inl z
    · obtain ⟨q1, q2, q3⟩ := h0.first (n0 z).1; exact Or.inr ⟨q1, by omega, q3⟩
  have e1 : r1 = 0 ∨ ((x 5).2 1 0 = y.2 2 (512 * 1 + y.2 6 1) ∧ y.2 2 (512 * 1 + y.2 6 1) < 2147483648 ∧ y.2 6 1 < 512) := by
    by_cases z : r1 = 0
    · exact Or.inl z
    · obtain ⟨q1, q2, q3⟩ := h1.first (n1 z).1; exact Or.inr ⟨q1, by omega, q3⟩
  have e2 : r2 = 0 ∨ ((x 8).2 1 0 = y.2 2 (512 * 2 + y.2 6 2) ∧ y.2 2 (512 * 2 + y.2 6 2) < 2147483648 ∧ y.2 6 2 < 512) := by
    by_cases z : r2 = 0
    · exact Or.inl z
    · obtain ⟨q1, q2, q3⟩ := h2.first (n2 z).1; exact Or.inr ⟨q1, by omega, q3⟩
  have ex := eX_choose k0 k1 k2 b0 b1 b2 (by omega) (by omega) (by omega)
  have em := eM_chosen m0 m1 m2 b0 b1 b2 (by omega) (by omega) (by omega) (by omega) (by omega) (by omega)
  have ec : c3 r0 r1 r2 ((x 2).2 1 0) ((x 5).2 1 0) ((x 8).2 1 0) = c3 r0 r1 r2 (y.2 2 (512 * 0 + y.2 6 0)) (y.2 2 (512 * 1 + y.2 6 1)) (y.2 2 (512 * 2 + y.2 6 2)) := by
    unfold c3
    rw [cst_d (e0.imp id (fun h => h.1)), cst_d (e1.imp id (fun h => h.1)), cst_d (e2.imp id (fun h => h.1))]
  rw [ec] at ex
  refine ⟨_, ex, em, ?_⟩
  rcases c3_ok r0 r1 r2 (y.2 2 (512 * 0 + y.2 6 0)) (y.2 2 (512 * 1 + y.2 6 1)) (y.2 2 (512 * 2 + y.2 6 2)) with h | ⟨h, z⟩ | ⟨h, z⟩ | ⟨h, z⟩
  · exact Or.inl h
  · rw [h]; exact Or.inr ⟨by omega, n0 z⟩
  · rw [h]; exact Or.inr ⟨by omega, n1 z⟩
  · rw [h]; exact Or.inr ⟨by omega, n2 z⟩
