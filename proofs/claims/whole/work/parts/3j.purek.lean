theorem IS.keep {x x' : XS} {y y' : ST} (h : IS x y) (hx : ∀ j, j ≤ 9 ∨ j = 14 → x' j = x j) (h2 : ∀ j, j < 11 → y'.2 j = y.2 j) (h1 : ∀ j, j ≠ 16 → j ≠ 17 → y'.1 j = y.1 j) : IS x' y' := by
  obtain ⟨⟨h3, h4, h5⟩, ⟨a0, a1, a2, a3, a4, a5, a6⟩, ag, b⟩ := h
  unfold IS
  rw [hx 0 (by omega), hx 1 (by omega), hx 2 (by omega), hx 3 (by omega), hx 4 (by omega), hx 5 (by omega), hx 6 (by omega), hx 7 (by omega), hx 8 (by omega), hx 9 (by omega), hx 14 (by omega), h1 0 (by omega) (by omega), h1 1 (by omega) (by omega), h1 2 (by omega) (by omega), h1 13 (by omega) (by omega), h2 10 (by omega)]
  have kp : ∀ {v q t : ST} {tm s : Nat}, SRy v q t y tm s → SRy v q t y' tm s := fun h => h.keep (h2 1 (by omega)) (h2 2 (by omega)) (h2 3 (by omega)) (by rw [h2 4 (by omega)]) (by rw [h2 5 (by omega)]) (by rw [h2 6 (by omega)]) (by rw [h2 7 (by omega)]) (by rw [h2 0 (by omega)]) (by rw [h2 9 (by omega)]) (by rw [h2 8 (by omega)])
  exact ⟨⟨kp h3, kp h4, kp h5⟩, ⟨a0, a1, a2, a3, a4, a5, a6⟩, ag, b⟩
theorem RI.keep {r c0 c1 c2 y y' : ST} (h : RI r c0 c1 c2 y) (h2 : ∀ j, 11 ≤ j → y'.2 j = y.2 j) (h1 : ∀ j, j ≠ 2 → j ≠ 13 → y'.1 j = y.1 j) : RI r c0 c1 c2 y' := by
  obtain ⟨hr, g0, g1, g2⟩ := h
  have kc : ∀ {c : ST} {s : Nat}, CRy c y s → CRy c y' s := by
    intro c s h
    unfold CRy at h ⊢
    rw [h2 18 (by omega), h2 19 (by omega), h2 12 (by omega), h2 13 (by omega), h2 14 (by omega), h2 15 (by omega), h2 16 (by omega), h2 17 (by omega), h2 22 (by omega), h2 20 (by omega), h2 21 (by omega)]
    exact h
  exact ⟨hr.keep (h1 16 (by omega) (by omega)) (h1 17 (by omega) (by omega)) (h2 23 (by omega)), kc g0, kc g1, kc g2⟩
/-- a tick that comes through, in one step of both -/
theorem sim_one {x : XS} {y : ST} {pl bits : Nat} (hI : IS x y) (hR : RI (x 10) (x 11) (x 12) (x 13) y) (ht : y.1 2 < 900000) (hpl : pl < 16) (hbt : bits ≤ 255) :
    ∃ (x1 : XS) (y1 : ST), fX_sendPacket x = some x1 ∧ fM_oneTick y = some y1 ∧ IS x1 y1 ∧ RI (x1 10) (x1 11) (x1 12) (x1 13) y1 ∧ y1.1 2 = y.1 2 + 1 ∧ y1.2 4 = y.2 4 ∧ y1.2 22 = y.2 22 ∧
      ∀ k : ST, (∀ i, i < 16 → k.2 0 i = if i = pl then (x1 14).2 0 i ^^^ bits else (x1 14).2 0 i) → ∃ r c0 c1 c2 y2 : ST, fR_take (x1 10) (x1 11) (x1 12) (x1 13) k = some (r, c0, c1, c2) ∧ fM_hear y1 pl bits = some y2 ∧ RI r c0 c1 c2 y2 ∧ y2.1 2 = y.1 2 + 1 ∧ y2.2 4 = y.2 4 ∧ (∀ j, y2.2 22 j ≤ y.2 22 j + 1) ∧ (∀ x2 : XS, (∀ j, j ≤ 9 ∨ j = 14 → x2 j = x1 j) → IS x2 y2) := by
  obtain ⟨x1, y1, e1, e2, h1, t1, f1, f2, f3, f4⟩ := sim_send hI ht
  have hR1 : RI (x1 10) (x1 11) (x1 12) (x1 13) y1 := by
    rw [f3 10 (by omega), f3 11 (by omega), f3 12 (by omega), f3 13 (by omega)]
    exact hR.keep f2 f1
  refine ⟨x1, y1, e1, e2, h1, hR1, t1, f4, f2 22 (by omega), fun k hk => ?_⟩
  have ag := h1.2.2.1
  have b255 := h1.2.2.2
  have hk2 : ∀ i, i < 16 → k.2 0 i = if i = pl then y1.2 10 i ^^^ bits else y1.2 10 i := fun i hi => by rw [hk i hi, ag i hi]
  have hb : ∀ i, i < 16 → k.2 0 i ≤ 255 := by
    intro i hi
    rw [hk2 i hi]
    have h9 := b255 i hi
    split
    · have : y1.2 10 i ^^^ bits < 2 ^ 8 := Nat.xor_lt_two_pow (by omega) (by omega)
      omega
    · exact h9
  obtain ⟨r, c0, c1, c2, y2, g1, g2, g3, g4, g5⟩ := sim_take hR1 hpl hk2 hb
  refine ⟨r, c0, c1, c2, y2, g1, g2, g3, by rw [g4 2 (by omega) (by omega), t1], by rw [g5 4 (by omega), f4], fun j => ?_, fun x2 hx2 => h1.keep hx2 g5 g4⟩
  have := hear_inc g2 j
  rw [f2 22 (by omega)] at this
  exact this
theorem sim_tick_L (v : Int32) (N : Nat) (hN : v.toNatClampNeg = N) (hN2 : N ≤ 40) : ∀ (fu i : Nat) (x : XS) (y : ST), i ≤ N → N - i < fu → IS x y → RI (x 10) (x 11) (x 12) (x 13) y → y.1 2 + (N - i) < 900000 →
    ∃ (x' : XS) (y' : ST), fX_tick_L14 v fu i x = some (N, x') ∧ fM_ticks_L14 v 1 fu i y = some (N, y') ∧ IS x' y' ∧ RI (x' 10) (x' 11) (x' 12) (x' 13) y' ∧ y'.1 2 = y.1 2 + (N - i) ∧ y'.2 4 = y.2 4 ∧ ∀ j, y'.2 22 j ≤ y.2 22 j + (N - i) := by
  intro fu
  induction fu with
  | zero => intro i x y _ h; omega
  | succ fu ih =>
    intro i x y hi hf hI hR ht
    by_cases hc : i = N
    · subst hc
      refine ⟨x, y, ?_, ?_, hI, hR, by omega, rfl, fun j => by omega⟩
      · rw [fX_tick_L14, hN, ss_p (by omega), ss_p (by omega), if_pos (by omega)]
      · rw [fM_ticks_L14, hN, ss_p (by omega), ss_p (by omega), if_pos (by omega)]
    · obtain ⟨x1, y1, e1, e2, -, -, -, -, -, hk⟩ := sim_one (pl := 0) (bits := 0) hI hR (by omega) (by omega) (by omega)
      obtain ⟨r, c0, c1, c2, y2, g1, g2, g3, g4, g5, g6, g7⟩ := hk (x1 14) (fun i _ => by split <;> simp)
      have hI2 := g7 (va_up (va_up (va_up (va_up x1 10 r) 11 c0) 12 c1) 13 c2) (fun j hj => by rw [up_n _ _ (by omega), up_n _ _ (by omega), up_n _ _ (by omega), up_n _ _ (by omega)])
      obtain ⟨x', y', k1, k2, k3, k4, k5, k6, k7⟩ := ih (i + 1) _ y2 (by omega) (by omega) hI2 (by simp (disch := omega) only [up_n, up_s]; exact g3) (by omega)
      refine ⟨x', y', ?_, ?_, k3, k4, by omega, by rw [k6, g5], fun j => ?_⟩
      · rw [fX_tick_L14, hN, ss_p (by omega), ss_p (by omega), if_neg (by omega), e1, ob_some, g1, ob_some]
        exact k1
      · rw [fM_ticks_L14, hN, ss_p (by omega), ss_p (by omega), if_neg (by omega), e2, ob_some, ss_p (by omega), if_neg (by omega), g2, ob_some, ob_some]
        exact k2
      · have a1 := k7 j
        have a2 := g6 j
        omega
theorem sim_lose_L (v : Int32) (N : Nat) (hN : v.toNatClampNeg = N) (hN2 : N ≤ 40) : ∀ (fu i : Nat) (x : XS) (y : ST), i ≤ N → N - i < fu → IS x y → RI (x 10) (x 11) (x 12) (x 13) y → y.1 2 + (N - i) < 900000 →
    ∃ (x' : XS) (y' : ST), fX_lose_L14 v fu i x = some (N, x') ∧ fM_ticks_L14 v 0 fu i y = some (N, y') ∧ IS x' y' ∧ RI (x' 10) (x' 11) (x' 12) (x' 13) y' ∧ y'.1 2 = y.1 2 + (N - i) ∧ y'.2 4 = y.2 4 ∧ ∀ j, y'.2 22 j ≤ y.2 22 j + (N - i) := by
  intro fu
  induction fu with
  | zero => intro i x y _ h; omega
  | succ fu ih =>
    intro i x y hi hf hI hR ht
    by_cases hc : i = N
    · subst hc
      refine ⟨x, y, ?_, ?_, hI, hR, by omega, rfl, fun j => by omega⟩
      · rw [fX_lose_L14, hN, ss_p (by omega), ss_p (by omega), if_pos (by omega)]
      · rw [fM_ticks_L14, hN, ss_p (by omega), ss_p (by omega), if_pos (by omega)]
    · obtain ⟨x1, y1, e1, e2, g1, g2, g3, g4, g5, -⟩ := sim_one (pl := 0) (bits := 0) hI hR (by omega) (by omega) (by omega)
      obtain ⟨x', y', k1, k2, k3, k4, k5, k6, k7⟩ := ih (i + 1) x1 y1 (by omega) (by omega) g1 g2 (by omega)
      refine ⟨x', y', ?_, ?_, k3, k4, by omega, by rw [k6, g4], fun j => ?_⟩
      · rw [fX_lose_L14, hN, ss_p (by omega), ss_p (by omega), if_neg (by omega), e1, ob_some]
        exact k1
      · rw [fM_ticks_L14, hN, ss_p (by omega), ss_p (by omega), if_neg (by omega), e2, ob_some, ss_p (by omega), if_pos (by omega), ob_some]
        exact k2
      · have a1 := k7 j
        rw [g5] at a1
        omega
theorem Inv.step {x x' : XS} {y y' : ST} {k n : Nat} (h : Inv x y k) (h1 : IS x' y') (h2 : RI (x' 10) (x' 11) (x' 12) (x' 13) y') (hn : n ≤ 40) (h3 : y'.1 2 = y.1 2 + n) (h4 : y'.2 4 = y.2 4) (h5 : ∀ j, y'.2 22 j ≤ y.2 22 j + n) : Inv x' y' (k + 1) := by
  obtain ⟨-, -, b1, b2, b3⟩ := h
  exact ⟨h1, h2, by omega, fun s hs => by rw [h4]; have := b2 s hs; omega, fun s hs => by have := b3 s hs; have := h5 s; omega⟩
theorem sim_tick {x : XS} {y : ST} {k : Nat} (v : Int32) (h : Inv x y k) (hk : k < 512) : ∃ r x' y', fX_tick x v = some (r, x') ∧ fM_tick y v = some (r, y') ∧ Inv x' y' (k + 1) := by
  have h0 := h
  obtain ⟨hI, hR, b1, b2, b3⟩ := h
  unfold fX_tick fM_tick fM_ticks
  rcases rng v 40 (by omega) with ⟨j, hj, -, h1, h2, h3, h4, h5⟩ | ⟨h1, h2⟩ | ⟨h1, h2, h3, h4⟩
  · obtain ⟨x', y', k1, k2, k3, k4, k5, k6, k7⟩ := sim_tick_L v j h2 (by omega) 100 0 x y (by omega) (by omega) hI hR (by omega)
    refine ⟨nI ((x' 0).1 6), x', y', by rw [if_neg h1, if_pos h5, ss_p h1, k1, ob_some], ?_, h0.step k3 k4 (n := j) (by omega) (by omega) k6 (fun j2 => by have := k7 j2; omega)⟩
    rw [h4, ob_some, ss_p (by omega), if_pos (by omega), ss_p h1, k2, ob_some, ob_some, k3.2.1.2.2.1]
  · exact ⟨-1, x, y, by rw [if_pos h1], by rw [h2, ob_some, ss_p (by omega), if_neg (by omega), ob_some], h0.le (by omega)⟩
  · exact ⟨-1, x, y, by rw [if_neg h1, if_neg h4], by rw [h3, ob_some, ss_p (by omega), if_neg (by omega), ob_some], h0.le (by omega)⟩
theorem sim_lose {x : XS} {y : ST} {k : Nat} (v : Int32) (h : Inv x y k) (hk : k < 512) : ∃ r x' y', fX_lose x v = some (r, x') ∧ fM_lose y v = some (r, y') ∧ Inv x' y' (k + 1) := by
  have h0 := h
  obtain ⟨hI, hR, b1, b2, b3⟩ := h
  unfold fX_lose fM_lose fM_ticks
  rcases rng v 40 (by omega) with ⟨j, hj, -, h1, h2, h3, h4, h5⟩ | ⟨h1, h2⟩ | ⟨h1, h2, h3, h4⟩
  · obtain ⟨x', y', k1, k2, k3, k4, k5, k6, k7⟩ := sim_lose_L v j h2 (by omega) 100 0 x y (by omega) (by omega) hI hR (by omega)
    refine ⟨nI ((x' 0).1 6), x', y', by rw [if_neg h1, if_pos h5, ss_p h1, k1, ob_some], ?_, h0.step k3 k4 (n := j) (by omega) (by omega) k6 (fun j2 => by have := k7 j2; omega)⟩
    rw [h4, ob_some, ss_p (by omega), if_pos (by omega), ss_p h1, k2, ob_some, ob_some, k3.2.1.2.2.1]
  · exact ⟨-1, x, y, by rw [if_pos h1], by rw [h2, ob_some, ss_p (by omega), if_neg (by omega), ob_some], h0.le (by omega)⟩
  · exact ⟨-1, x, y, by rw [if_neg h1, if_neg h4], by rw [h3, ob_some, ss_p (by omega), if_neg (by omega), ob_some], h0.le (by omega)⟩
theorem sim_spoil {x : XS} {y : ST} {k : Nat} (v w : Int32) (h : Inv x y k) (hk : k < 512) : ∃ r x' y', fX_spoil x v w = some (r, x') ∧ fM_spoil y v w = some (r, y') ∧ Inv x' y' (k + 1) := by
  have h0 := h
  obtain ⟨hI, hR, b1, b2, b3⟩ := h
  unfold fX_spoil fM_spoil
  rw [ispI, ob_some]
  rcases rng v 15 (by omega) with ⟨j, hj, -, h1, h2, h3, h4, h5⟩ | ⟨h1, h2⟩ | ⟨h1, h2, h3, h4⟩
  · rcases rng w 255 (by omega) with ⟨i, hi, -, g1, g2, g3, g4, g5⟩ | ⟨g1, g2⟩ | ⟨g1, g2, g3, g4⟩
    · obtain ⟨x1, y1, e1, e2, -, -, -, -, -, hk⟩ := sim_one (pl := j) (bits := i) hI hR (by omega) (by omega) (by omega)
      obtain ⟨kc, c1, c2⟩ := eP_copyFrom (x1 15) (x1 14)
      obtain ⟨r, c0, c1', c2', y2, q1, q2, q3, q4, q5, q6, q7⟩ := hk (sA kc 0 (va_up (kc.2 0) j (kc.2 0 j ^^^ i))) (fun p hp => by
        rw [sA_2, up_s]
        by_cases hpj : p = j
        · subst hpj; rw [up_s, if_pos rfl, c2 p hp]
        · rw [up_n _ _ hpj, if_neg hpj]; exact c2 p hp)
      have hI2 := q7 (va_up (va_up (va_up (va_up (va_up x1 10 r) 11 c0) 12 c1') 13 c2') 15 (sA kc 0 (va_up (kc.2 0) j (kc.2 0 j ^^^ i)))) (fun j hj => by rw [up_n _ _ (by omega), up_n _ _ (by omega), up_n _ _ (by omega), up_n _ _ (by omega), up_n _ _ (by omega)])
      refine ⟨nI ((x1 0).1 6), _, y2, ?_, ?_, h0.step hI2 ?_ (n := 1) (by omega) q4 q5 q6⟩
      · rw [if_neg (fun h9 => h9.elim h1 h3), ss_p (by omega), if_neg (by omega), if_neg g1, if_pos g5, ss_p h1, ss_p g1, e1, ob_some, c1, ob_some, h2, g2, eP_flip (by omega), ob_some, q1, ob_some]
      · have e6 := hI2.2.1.2.2.1
        simp (disch := omega) only [up_n] at e6
        rw [h4, ob_some, ss_p (by omega), if_neg (by omega), g4, ob_some, ss_p (by omega), if_pos (by omega), ss_p h1, ss_p g1, e2, ob_some, h2, g2, q2, ob_some, e6]
      · simp (disch := omega) only [up_n, up_s]; exact q3
    · exact ⟨-1, x, y, by rw [if_neg (fun h9 => h9.elim h1 h3), ss_p (by omega), if_neg (by omega), if_pos g1], by rw [h4, ob_some, ss_p (by omega), if_neg (by omega), g2, ob_some, ss_p (by omega), if_neg (by omega)], h0.le (by omega)⟩
    · exact ⟨-1, x, y, by rw [if_neg (fun h9 => h9.elim h1 h3), ss_p (by omega), if_neg (by omega), if_neg g1, if_neg g4], by rw [h4, ob_some, ss_p (by omega), if_neg (by omega), g3, ob_some, ss_p (by omega), if_neg (by omega)], h0.le (by omega)⟩
  · exact ⟨-1, x, y, by rw [if_pos (Or.inl h1), ss_p (by omega), if_pos rfl], by rw [h2, ob_some, ss_p (by omega), if_pos rfl], h0.le (by omega)⟩
  · exact ⟨-1, x, y, by rw [if_pos (Or.inr h2), ss_p (by omega), if_pos rfl], by rw [h3, ob_some, ss_p (by omega), if_pos rfl], h0.le (by omega)⟩
