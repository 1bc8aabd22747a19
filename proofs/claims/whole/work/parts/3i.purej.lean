theorem sim_clock {x : XS} {y : ST} (h : RR (x 10) y) : ∃ r, fX_clock x = some r ∧ fM_clock y = some r := by
  obtain ⟨r1, r2, r3, r4, r5, r6⟩ := h
  unfold fX_clock fM_clock
  rw [r1, ss_p (by omega)]
  by_cases h0 : y.1 16 = 0
  · exact ⟨-1, by rw [if_pos h0], by rw [ss_p (by omega), if_pos h0]⟩
  · exact ⟨_, by rw [if_neg h0], by rw [ss_p (by omega), if_neg h0, r3 (by omega)]⟩
/-- a number within 0 .. n - 1, or not -/
theorem rng (v : Int32) (n : Nat) (hn : n < 2147483647) : (∃ j, j < n + 1 ∧ v = nI j ∧ ¬ v < 0 ∧ v.toNatClampNeg = j ∧ ¬ nI (n + 1) ≤ v ∧ fwithin v (nI 0) (nI n) = some 1 ∧ v ≤ nI n) ∨ (v < 0 ∧ fwithin v (nI 0) (nI n) = some 0) ∨ (¬ v < 0 ∧ nI (n + 1) ≤ v ∧ fwithin v (nI 0) (nI n) = some 0 ∧ ¬ v ≤ nI n) := by
  rcases pk_ix v (n := n + 1) (by omega) with h | h | ⟨j, hj, h⟩
  · right; left
    exact ⟨h, by rw [ewithin, if_pos (Or.inl (show v < nI 0 from h))]⟩
  · right; right
    have a : (nI n).toInt = n := nI_toInt (by omega)
    have b : (nI (n + 1)).toInt = ((n + 1 : Nat) : Int) := nI_toInt (by omega)
    have c : (0 : Int32).toInt = 0 := by decide
    have h' := Int32.le_iff_toInt_le.mp h
    have h2 : nI n < v := by rw [Int32.lt_iff_toInt_lt]; omega
    refine ⟨fun h9 => ?_, h, by rw [ewithin, if_pos (Or.inr h2)], fun h9 => ?_⟩
    · rw [Int32.lt_iff_toInt_lt] at h9; omega
    · rw [Int32.le_iff_toInt_le] at h9; omega
  · left
    subst h
    refine ⟨j, hj, rfl, nI_pos (by omega), nI_clamp (by omega), fun h9 => ?_, ?_, (nI_leI (by omega) (by omega)).mpr (by omega)⟩
    · have := (nI_leI (by omega) (by omega)).mp h9; omega
    · rw [ewithinN (by omega) (by omega) (by omega), if_pos (by omega)]
theorem sim_count {x : XS} {y : ST} (v : Int32) (h : RR (x 10) y) : ∃ r, fX_count x v = some r ∧ fM_count y v = some r := by
  obtain ⟨r1, r2, r3, r4, r5, r6⟩ := h
  unfold fX_count fM_count
  rcases rng v 5 (by omega) with ⟨j, hj, -, h1, h2, h3, h4, -⟩ | ⟨h1, h2⟩ | ⟨h1, h2, h3, -⟩
  · refine ⟨_, by rw [if_neg h1, if_neg h3, ss_p h1, h2, ss_p (by omega)], ?_⟩
    rw [h4, ob_some, ss_p (by omega), if_neg (by omega), ss_p h1, h2, ss_p (by omega), r6 j (by omega)]
  · exact ⟨-1, by rw [if_pos h1], by rw [h2, ob_some, ss_p (by omega), if_pos rfl]⟩
  · exact ⟨-1, by rw [if_neg h1, if_pos h2], by rw [h3, ob_some, ss_p (by omega), if_pos rfl]⟩
theorem ispI (v : Int32) : fisPacketIndexI v = some (if v < 0 ∨ nI 16 ≤ v then 0 else 1) := by
  unfold fisPacketIndexI
  by_cases h : v < 0
  · rw [if_pos h, if_pos (Or.inl h)]
  · by_cases h2 : nI 16 ≤ v
    · rw [if_neg h, if_pos h2, if_pos (Or.inr h2)]
    · rw [if_neg h, if_neg h2, if_neg (fun h9 => h9.elim h h2)]
theorem sim_packet {x : XS} {y : ST} (v : Int32) (h : IS x y) : ∃ r, fX_packet x v = some r ∧ fM_packet y v = some r := by
  obtain ⟨-, ⟨a0, a1, a2, a3, a4, a5, a6⟩, ag, -⟩ := h
  unfold fX_packet fM_packet
  rw [ispI, ob_some, ss_p (show y.1 13 < 2147483648 by omega)]
  rcases rng v 15 (by omega) with ⟨j, hj, -, h1, h2, h3, h4, -⟩ | ⟨h1, h2⟩ | ⟨h1, h2, h3, -⟩
  · rw [if_neg (fun h9 => h9.elim h1 h3), ss_p (by omega), if_neg (by omega), a3, ss_p (by omega)]
    by_cases h0 : y.1 13 = 0
    · exact ⟨-1, by rw [if_neg (fun h9 => h9 h0)], by rw [if_pos h0]⟩
    · refine ⟨_, by rw [if_pos h0, ss_p h1, h2, eP_byteAt (by omega), ob_some], ?_⟩
      rw [if_neg h0, h4, ob_some, ss_p (by omega), if_neg (by omega), ss_p h1, h2, ss_p (by omega), ag j (by omega)]
  · refine ⟨-1, by rw [if_pos (Or.inl h1), ss_p (by omega), if_pos rfl], ?_⟩
    by_cases h0 : y.1 13 = 0
    · rw [if_pos h0]
    · rw [if_neg h0, h2, ob_some, ss_p (by omega), if_pos rfl]
  · refine ⟨-1, by rw [if_pos (Or.inr h2), ss_p (by omega), if_pos rfl], ?_⟩
    by_cases h0 : y.1 13 = 0
    · rw [if_pos h0]
    · rw [if_neg h0, h3, ob_some, ss_p (by omega), if_pos rfl]
/-- latest of one stream, in the words of both -/
theorem lat1 {c y : ST} {s : Nat} (v : Int32) (h : CRy c y s) (hb : y.2 22 s < 2147483648) :
    ∃ r, ss ((c.1 10) < 2147483648) ((if ¬ (c.1 10) = 0 then (if v = nI 0 then some (nI (c.1 7)) else (if v = nI 1 then some (nI (c.1 8)) else (if v = nI 2 then some (nI (c.1 10)) else some (-1)))) else some (-1))) = some r ∧
      ss (((y.2 22) s) < 2147483648) ((if ((y.2 22) s) = 0 then some (-1) else ob (fwithin v (nI 0) (nI 2)) (fun r9 => ss (r9 < 2147483648) ((if ¬ r9 = 0 then (if ¬ v = 0 then (if ¬ v = (nI 1) then some (nI ((y.2 22) s)) else some (nI ((y.2 21) s))) else some (nI ((y.2 20) s))) else some (-1)))))) = some r := by
  obtain ⟨-, -, c10, hl⟩ := h
  rw [c10, ss_p hb]
  by_cases h0 : y.2 22 s = 0
  · exact ⟨-1, by rw [if_neg (fun h9 => h9 h0)], by rw [ss_p hb, if_pos h0]⟩
  · obtain ⟨⟨l1, l2, -, -⟩, -⟩ := hl (by omega)
    rw [if_pos h0, ss_p hb, if_neg h0]
    rcases strm v with ⟨hc, e1, e2⟩ | ⟨e1, e2⟩
    · rcases hc with rfl | rfl | rfl
      · refine ⟨_, by rw [if_pos rfl], ?_⟩
        rw [e2, ob_some, ss_p (by omega), if_pos (by omega), if_neg (fun h9 => h9 (by decide)), l1]
      · refine ⟨_, by rw [if_neg (by decide), if_pos rfl], ?_⟩
        rw [e2, ob_some, ss_p (by omega), if_pos (by omega), if_pos (by decide), if_neg (fun h9 => h9 rfl), l2]
      · refine ⟨_, by rw [if_neg (by decide), if_neg (by decide), if_pos rfl], ?_⟩
        rw [e2, ob_some, ss_p (by omega), if_pos (by omega), if_pos (by decide), if_pos (by decide)]
    · have z0 : ¬ v = nI 0 := fun h9 => by subst h9; exact absurd e1 (by decide)
      have z1 : ¬ v = nI 1 := fun h9 => by subst h9; exact absurd e1 (by decide)
      have z2 : ¬ v = nI 2 := fun h9 => by subst h9; exact absurd e1 (by decide)
      refine ⟨-1, by rw [if_neg z0, if_neg z1, if_neg z2], ?_⟩
      rw [e2, ob_some, ss_p (by omega), if_neg (by omega)]
theorem sim_latest {x : XS} {y : ST} (v w : Int32) (h : RI (x 10) (x 11) (x 12) (x 13) y) (hb : ∀ s, s < 3 → y.2 22 s < 2147483648) : ∃ r, fX_latest x v w = some r ∧ fM_latest y v w = some r := by
  obtain ⟨-, h0, h1, h2⟩ := h
  unfold fX_latest fM_latest
  rcases strm v with ⟨hc, e1, e2⟩ | ⟨e1, e2⟩
  · rcases hc with rfl | rfl | rfl
    · obtain ⟨r, g1, g2⟩ := lat1 w h0 (hb 0 (by omega))
      exact ⟨r, by rw [e1, ob_some, ss_p (by omega), if_neg (by omega), if_pos rfl]; exact g1, by rw [e2, ob_some, ss_p (by omega), if_neg (by omega), ss_p ps0, cl0, ss_p (by omega)]; exact g2⟩
    · obtain ⟨r, g1, g2⟩ := lat1 w h1 (hb 1 (by omega))
      exact ⟨r, by rw [e1, ob_some, ss_p (by omega), if_neg (by omega), if_neg (by decide), if_pos rfl]; exact g1, by rw [e2, ob_some, ss_p (by omega), if_neg (by omega), ss_p ps1, cl1, ss_p (by omega)]; exact g2⟩
    · obtain ⟨r, g1, g2⟩ := lat1 w h2 (hb 2 (by omega))
      exact ⟨r, by rw [e1, ob_some, ss_p (by omega), if_neg (by omega), if_neg (by decide), if_neg (by decide), if_pos rfl]; exact g1, by rw [e2, ob_some, ss_p (by omega), if_neg (by omega), ss_p ps2, cl2, ss_p (by omega)]; exact g2⟩
  · exact ⟨-1, by rw [e1, ob_some, ss_p (by omega), if_pos rfl], by rw [e2, ob_some, ss_p (by omega), if_pos rfl]⟩
theorem let1 {c y : ST} {s : Nat} (v : Int32) (h : CRy c y s) (hs : s < 3) (hb : y.2 22 s < 2147483648) :
    ∃ r, ss ((c.1 10) < 2147483648) ((if ¬ (c.1 10) = 0 then (if v < 0 then some (-1) else (if (nI (c.1 7)) ≤ v then some (-1) else ss (¬ v < 0) (ss (v.toNatClampNeg < 60) (some (nI ((c.2 1) v.toNatClampNeg)))))) else some (-1))) = some r ∧
      ss (((y.2 22) s) < 2147483648) ((if ((y.2 22) s) = 0 then some (-1) else ss (1 ≤ ((y.2 20) s)) (ob (fwithin v (nI 0) (nI (((y.2 20) s) - 1))) (fun r10 => ss (r10 < 2147483648) ((if ¬ r10 = 0 then ss (¬ v < 0) (ss (((60 * s) + v.toNatClampNeg) < 180) (some (nI ((y.2 19) ((60 * s) + v.toNatClampNeg))))) else some (-1))))))) = some r := by
  obtain ⟨-, -, c10, hl⟩ := h
  rw [c10, ss_p hb]
  by_cases h0 : y.2 22 s = 0
  · exact ⟨-1, by rw [if_neg (fun h9 => h9 h0)], by rw [ss_p hb, if_pos h0]⟩
  · obtain ⟨⟨l1, l2, l3, l4⟩, l5⟩ := hl (by omega)
    rw [if_pos h0, ss_p hb, if_neg h0, ss_p l3, l1]
    have e20 : y.2 20 s = (y.2 20 s - 1) + 1 := by omega
    rcases rng v (y.2 20 s - 1) (by omega) with ⟨j, hj, -, h1, h2, h3, h4, -⟩ | ⟨h1, h2⟩ | ⟨h1, h2, h3, -⟩
    · rw [← e20] at h3
      refine ⟨_, by rw [if_neg h1, if_neg h3, ss_p h1, h2, ss_p (by omega)], ?_⟩
      rw [h4, ob_some, ss_p (by omega), if_pos (by omega), ss_p h1, h2, ss_p (by omega), l5 j (by omega)]
    · exact ⟨-1, by rw [if_pos h1], by rw [h2, ob_some, ss_p (by omega), if_neg (by omega)]⟩
    · rw [← e20] at h2
      exact ⟨-1, by rw [if_neg h1, if_pos h2], by rw [h3, ob_some, ss_p (by omega), if_neg (by omega)]⟩
theorem sim_letter {x : XS} {y : ST} (v w : Int32) (h : RI (x 10) (x 11) (x 12) (x 13) y) (hb : ∀ s, s < 3 → y.2 22 s < 2147483648) : ∃ r, fX_letter x v w = some r ∧ fM_letter y v w = some r := by
  obtain ⟨-, h0, h1, h2⟩ := h
  unfold fX_letter fM_letter
  rcases strm v with ⟨hc, e1, e2⟩ | ⟨e1, e2⟩
  · rcases hc with rfl | rfl | rfl
    · obtain ⟨r, g1, g2⟩ := let1 w h0 (by omega) (hb 0 (by omega))
      exact ⟨r, by rw [e1, ob_some, ss_p (by omega), if_neg (by omega), if_pos rfl]; exact g1, by rw [e2, ob_some, ss_p (by omega), if_neg (by omega), ss_p ps0, cl0, ss_p (by omega)]; exact g2⟩
    · obtain ⟨r, g1, g2⟩ := let1 w h1 (by omega) (hb 1 (by omega))
      exact ⟨r, by rw [e1, ob_some, ss_p (by omega), if_neg (by omega), if_neg (by decide), if_pos rfl]; exact g1, by rw [e2, ob_some, ss_p (by omega), if_neg (by omega), ss_p ps1, cl1, ss_p (by omega)]; exact g2⟩
    · obtain ⟨r, g1, g2⟩ := let1 w h2 (by omega) (hb 2 (by omega))
      exact ⟨r, by rw [e1, ob_some, ss_p (by omega), if_neg (by omega), if_neg (by decide), if_neg (by decide), if_pos rfl]; exact g1, by rw [e2, ob_some, ss_p (by omega), if_neg (by omega), ss_p ps2, cl2, ss_p (by omega)]; exact g2⟩
  · exact ⟨-1, by rw [e1, ob_some, ss_p (by omega), if_pos rfl], by rw [e2, ob_some, ss_p (by omega), if_pos rfl]⟩
