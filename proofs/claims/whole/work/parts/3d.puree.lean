/-- two packets agree on their sixteen bytes -/
def Ag (c c' : Nat → Nat) : Prop := ∀ p, p < 16 → c p = c' p
theorem agUp {c c' : Nat → Nat} (h : Ag c c') (k v : Nat) : Ag (va_up c k v) (va_up c' k v) := by
  intro p hp
  by_cases hc : p = k
  · subst hc; rw [up_s, up_s]
  · rw [up_n _ _ hc, up_n _ _ hc]; exact h p hp
theorem agWrb {c c' : Nat → Nat} (h : Ag c c') (a i n sd S : Nat) : Ag (wrb c a i n sd S) (wrb c' a i n sd S) := by
  intro p hp
  unfold wrb
  split
  · rfl
  · exact h p hp
def hdr (c : Nat → Nat) (hv b tm : Nat) : Nat → Nat := if b = 0 then va_up (va_up c 0 71) 1 hv else va_up (va_up (va_up (va_up c 0 71) 1 hv) 2 (tm / 256 % 256)) 3 (tm % 256)
def stp (c : Nat → Nat) (a sz du S : Nat) : Nat → Nat := if S = 0 then va_up (va_up (va_up c a sz) (a + 1) (du / 256 % 256)) (a + 2) (du % 256) else c
theorem agHdr {c c' : Nat → Nat} (h : Ag c c') (hv b tm : Nat) : Ag (hdr c hv b tm) (hdr c' hv b tm) := by
  unfold hdr
  split
  · exact agUp (agUp h _ _) _ _
  · exact agUp (agUp (agUp (agUp h _ _) _ _) _ _) _ _
theorem agStp {c c' : Nat → Nat} (h : Ag c c') (a sz du S : Nat) : Ag (stp c a sz du S) (stp c' a sz du S) := by
  unfold stp
  split
  · exact agUp (agUp (agUp h _ _) _ _) _ _
  · exact h
/-- the second byte -/
def hv (s st b nx : Nat) : Nat := 16 * s + (if st = 0 then 0 else 128) + (if b = 0 then 0 else 64) + nx
theorem eX_putHead {x : XS} {c : Nat → Nat} {s b st n tm : Nat} (hk : PkR (x 14) c 0) (hb : b ≤ 1) (hst : st ≤ 1) (ht : (x 0).1 6 = tm) (ht2 : tm < 1000000) (hs : s ≤ 3) (hn : n < 16) :
    ∃ k' : ST, fX_putHead x s b st n = some (va_up x 14 k') ∧ PkR k' (hdr c (hv s st b n) b tm) (if b = 0 then 2 else 4) := by
  obtain ⟨k1, e1, h1⟩ := eP_put 71 hk (by omega)
  have e71 : (71 : Nat) % 256 = 71 := rfl
  rw [e71] at h1
  have hj5 : (if st = 0 then (some 0 : Option (Nat)) else (some 128 : Option (Nat))) = some (if st = 0 then 0 else 128) := by split <;> rfl
  have hj10 : (if b = 0 then (some 0 : Option (Nat)) else (some 64 : Option (Nat))) = some (if b = 0 then 0 else 64) := by split <;> rfl
  obtain ⟨k2, e2, h2⟩ := eP_put ((if st = 0 then 0 else 128) + (if b = 0 then 0 else 64) + 16 * s + n) h1 (by omega)
  have ehv : ((if st = 0 then 0 else 128) + (if b = 0 then 0 else 64) + 16 * s + n) % 256 = hv s st b n := by
    unfold hv
    rw [Nat.mod_eq_of_lt (by split <;> split <;> omega)]; omega
  rw [ehv] at h2
  by_cases h0 : b = 0
  · refine ⟨k2, ?_, ?_⟩
    · unfold fX_putHead
      rw [e1, ob_some, ss_p (by omega), hj5, ob_some, ss_p (by omega), hj10, ob_some, e2, ob_some, if_pos h0]
    · unfold hdr
      rw [if_pos h0, if_pos h0]; exact h2
  · obtain ⟨k3, e3, h3⟩ := eP_putTime (x := tm) (by omega) h2 (by omega)
    refine ⟨k3, ?_, ?_⟩
    · unfold fX_putHead
      rw [e1, ob_some, ss_p (by omega), hj5, ob_some, ss_p (by omega), hj10, ob_some, e2, ob_some, if_neg h0, ht, e3, ob_some]
    · unfold hdr
      rw [if_neg h0, if_neg h0]; exact h3
/-- a packet of a unit -/
def pkt (c : Nat → Nat) (s tm S nx sz du sd n : Nat) : Nat → Nat :=
  wrb (stp (hdr c (hv s (if S = 0 then 1 else 0) (if tm % 8 = 0 then 1 else 0) nx) (if tm % 8 = 0 then 1 else 0) tm) (if tm % 8 = 0 then 4 else 2) sz du S) ((if tm % 8 = 0 then 4 else 2) + (if S = 0 then 3 else 0)) 0 n sd S
theorem agPkt {c c' : Nat → Nat} (h : Ag c c') (s tm S nx sz du sd n : Nat) : Ag (pkt c s tm S nx sz du sd n) (pkt c' s tm S nx sz du sd n) := agWrb (agStp (agHdr h _ _ _) _ _ _ _) _ _ _ _ _
theorem eX_fill0 {x : XS} {c : Nat → Nat} {y : ST} {t2 tm n : Nat} (hR : SRy (x 1) (x 2) (x 3) y t2 0) (hk : PkR (x 14) c 0) (ht : (x 0).1 6 = tm) (ht2 : tm < 1000000) (ht3 : t2 < 1000002) (hA : y.2 6 0 < y.2 4 0) (hst : 0 < y.2 7 0 ∨ y.2 6 0 - y.2 5 0 < 8)
    (hn : n = tk tm (y.2 7 0) (y.2 1 (512 * 0 + y.2 6 0) - y.2 7 0)) (hlo : y.2 0 0 + n ≤ 28) :
    ∃ v' q' t' k' : ST, fX_fillPacket x 0 (if tm % 8 = 0 then 1 else 0) = some (va_up (va_up (va_up (va_up (va_up (va_up x 1 (sI (x 1) 5 ((y.2 9 0 + 1) % 16))) 14 k') 1 v') 2 q') 3 t') 14 k') ∧
      Ag (k'.2 0) (pkt c 0 tm (y.2 7 0) (y.2 9 0) (y.2 1 (512 * 0 + y.2 6 0)) (y.2 2 (512 * 0 + y.2 6 0)) (y.2 3 (512 * 0 + y.2 6 0)) n) ∧
      ((y.2 7 0 + n ≠ y.2 1 (512 * 0 + y.2 6 0) ∧ SR v' q' t' (y.2 1) (y.2 2) (y.2 3) t2 (512 * 0) (y.2 4 0) (y.2 5 0) (y.2 6 0) (y.2 7 0 + n) (y.2 0 0 + n) ((y.2 9 0 + 1) % 16) (y.2 8 0)) ∨
       (y.2 7 0 + n = y.2 1 (512 * 0 + y.2 6 0) ∧ SR v' q' t' (y.2 1) (y.2 2) (y.2 3) t2 (512 * 0) (y.2 4 0) (y.2 5 0) (y.2 6 0 + 1) 0 (y.2 0 0 + n) ((y.2 9 0 + 1) % 16) (y.2 8 0))) := by
  unfold SRy at hR
  have hR0 := hR
  obtain ⟨⟨wq, wt⟩, ⟨e2, e3, e4, e5, e6, e7⟩, ⟨i1, i2, i3, i4, i5⟩, hu, hm, hd, ⟨s1, s2, s3, s4, s5, s6⟩⟩ := hR
  obtain ⟨qf, qg, qh⟩ := wq.2 0 (by omega)
  rw [Nat.add_zero] at qf qg qh
  have hf := hu (y.2 6 0) hA
  have hS := s1 hA
  have hroom := tk_room tm (y.2 7 0) (y.2 1 (512 * 0 + y.2 6 0) - y.2 7 0)
  have hle := tk_le tm (y.2 7 0) (y.2 1 (512 * 0 + y.2 6 0) - y.2 7 0)
  have hpos := tk_pos tm (y.2 7 0) (y.2 1 (512 * 0 + y.2 6 0) - y.2 7 0) (by omega)
  rw [← hn] at hroom hle hpos
  have est := eS_isAtStart (v := x 1) (by omega)
  rw [e2] at est
  have etc : fS_takeCounter (x 1) = some (y.2 9 0, sI (x 1) 5 ((y.2 9 0 + 1) % 16)) := by
    unfold fS_takeCounter
    rw [ss_p (by omega), e5]
  have hb1 : (if tm % 8 = 0 then 1 else 0) ≤ 1 := by split <;> omega
  have hst1 : (if y.2 7 0 = 0 then 1 else 0) ≤ 1 := by split <;> omega
  obtain ⟨k1, e8, h8⟩ := eX_putHead (x := va_up x 1 (sI (x 1) 5 ((y.2 9 0 + 1) % 16))) (s := 0) (n := y.2 9 0) (tm := tm) (by rw [up_n _ _ (by omega)]; exact hk) hb1 hst1 (by rw [up_n _ _ (by omega)]; exact ht) ht2 (by omega) s5
  -- the cells behind the head
  generalize hx8 : va_up (va_up x 1 (sI (x 1) 5 ((y.2 9 0 + 1) % 16))) 14 k1 = x8 at e8
  have g1 : x8 1 = sI (x 1) 5 ((y.2 9 0 + 1) % 16) := by rw [← hx8, up_n _ _ (by omega), up_s]
  have g2 : x8 2 = x 2 := by rw [← hx8, up_n _ _ (by omega), up_n _ _ (by omega)]
  have g3 : x8 3 = x 3 := by rw [← hx8, up_n _ _ (by omega), up_n _ _ (by omega)]
  have g14 : x8 14 = k1 := by rw [← hx8, up_s]
  have hv2 : (x8 1).1 2 = y.2 7 0 := by rw [g1, sI_1, up_n _ _ (by omega), e2]
  have est2 := eS_isAtStart (v := x8 1) (by omega)
  rw [hv2] at est2
  have ep := eS_portion (v := x8 1) (u := x8 2) (tm := tm) rfl (by rw [hv2, g2, qf]; omega) (by rw [g2, qf]; omega)
  have q8 : (x8 2).2 0 0 = y.2 1 (512 * 0 + y.2 6 0) := by rw [g2, qf]
  rw [hv2, q8, ← hn] at ep
  -- the start
  have hstart : ∃ k2 : ST, (if (if y.2 7 0 = 0 then 1 else 0) = 0 then (some (x8 14) : Option (ST)) else ob (fU_firstSize (x8 2)) (fun r16 => ob (fP_put (x8 14) r16) (fun r18 => ob (fU_firstDue (x8 2)) (fun r20 => ob (fP_putTime r18 r20) (fun r22 => (some r22 : Option (ST))))))) = some k2 ∧
      PkR k2 (stp (hdr c (hv 0 (if y.2 7 0 = 0 then 1 else 0) (if tm % 8 = 0 then 1 else 0) (y.2 9 0)) (if tm % 8 = 0 then 1 else 0) tm) (if tm % 8 = 0 then 4 else 2) (y.2 1 (512 * 0 + y.2 6 0)) (y.2 2 (512 * 0 + y.2 6 0)) (y.2 7 0)) ((if tm % 8 = 0 then 4 else 2) + (if y.2 7 0 = 0 then 3 else 0)) := by
    have ea : (if (if tm % 8 = 0 then 1 else 0) = 0 then 2 else 4) = (if tm % 8 = 0 then 4 else 2) := by
      by_cases h9 : tm % 8 = 0
      · rw [if_pos h9, if_pos h9]; rfl
      · rw [if_neg h9, if_neg h9]; rfl
    rw [ea] at h8
    generalize hH : hdr c (hv 0 (if y.2 7 0 = 0 then 1 else 0) (if tm % 8 = 0 then 1 else 0) (y.2 9 0)) (if tm % 8 = 0 then 1 else 0) tm = hd8 at h8 ⊢
    generalize ha : (if tm % 8 = 0 then 4 else 2) = a8 at h8 ⊢
    have ha2 : a8 ≤ 4 := by rw [← ha]; split <;> omega
    unfold stp
    by_cases h0 : y.2 7 0 = 0
    · rw [if_pos h0, if_pos h0, if_pos h0, if_neg (by omega)]
      obtain ⟨k2, f1, f2⟩ := eP_put (y.2 1 (512 * 0 + y.2 6 0)) h8 (by omega)
      rw [Nat.mod_eq_of_lt (by omega)] at f2
      obtain ⟨k3, f3, f4⟩ := eP_putTime (x := y.2 2 (512 * 0 + y.2 6 0)) (by omega) f2 (by omega)
      refine ⟨k3, ?_, f4⟩
      unfold fU_firstSize fU_firstDue
      rw [ob_some, g2, qf, g14, f1, ob_some, ob_some, qg, f3, ob_some]
    · rw [if_neg h0, if_neg h0, if_neg h0, if_pos rfl]
      exact ⟨k1, by rw [g14], h8⟩
  obtain ⟨k2, f5, f6⟩ := hstart
  have hR1 : SR (x8 1) (x8 2) (x8 3) (y.2 1) (y.2 2) (y.2 3) t2 (512 * 0) (y.2 4 0) (y.2 5 0) (y.2 6 0) (y.2 7 0) (y.2 0 0) ((y.2 9 0 + 1) % 16) (y.2 8 0) := by
    rw [g1, g2, g3]
    refine ⟨⟨wq, wt⟩, ⟨by rw [sI_1, up_n _ _ (by omega)]; exact e2, by rw [sI_1, up_n _ _ (by omega)]; exact e3, by rw [sI_1, up_n _ _ (by omega)]; exact e4, by rw [sI_1, up_s], by rw [sI_1, up_n _ _ (by omega)]; exact e6, by rw [sI_1, up_n _ _ (by omega)]; exact e7⟩, ⟨i1, i2, i3, i4, i5⟩, hu, hm, hd, ⟨s1, s2, s3, s4, Nat.mod_lt _ (by omega), s6⟩⟩
  obtain ⟨v', q', t', k', m1, m2, m3⟩ := eS_send hR1 hA hst hle hpos hlo f6 (by
    revert hroom
    split <;> split <;> omega)
  refine ⟨v', q', t', k', ?_, ?_, m3⟩
  · unfold fX_fillPacket
    rw [if_pos rfl]
    rw [est, ob_some, etc, ob_some, lt_def, e8, ob_some, est2, ob_some, ss_p (by split <;> omega), f5, ob_some, ep, ob_some, m1, ob_some]
    rw [← hx8]
    congr 1
    funext j
    by_cases j14 : j = 14
    · subst j14; rw [up_s, up_s]
    rw [up_n _ _ j14, up_n _ _ j14]
    by_cases j3 : j = 3
    · subst j3; rw [up_s, up_s]
    rw [up_n _ _ j3, up_n _ _ j3]
    by_cases j2 : j = 2
    · subst j2; rw [up_s, up_s]
    rw [up_n _ _ j2, up_n _ _ j2]
    by_cases j1 : j = 1
    · subst j1; rw [up_s, up_s]
    rw [up_n _ _ j1, up_n _ _ j1, up_n _ _ j14, up_n _ _ j14]
  · intro p hp
    exact m2.2 p hp
theorem eX_fill1 {x : XS} {c : Nat → Nat} {y : ST} {t2 tm n : Nat} (hR : SRy (x 4) (x 5) (x 6) y t2 1) (hk : PkR (x 14) c 0) (ht : (x 0).1 6 = tm) (ht2 : tm < 1000000) (ht3 : t2 < 1000002) (hA : y.2 6 1 < y.2 4 1) (hst : 0 < y.2 7 1 ∨ y.2 6 1 - y.2 5 1 < 8)
    (hn : n = tk tm (y.2 7 1) (y.2 1 (512 * 1 + y.2 6 1) - y.2 7 1)) (hlo : y.2 0 1 + n ≤ 28) :
    ∃ v' q' t' k' : ST, fX_fillPacket x 1 (if tm % 8 = 0 then 1 else 0) = some (va_up (va_up (va_up (va_up (va_up (va_up x 4 (sI (x 4) 5 ((y.2 9 1 + 1) % 16))) 14 k') 4 v') 5 q') 6 t') 14 k') ∧
      Ag (k'.2 0) (pkt c 1 tm (y.2 7 1) (y.2 9 1) (y.2 1 (512 * 1 + y.2 6 1)) (y.2 2 (512 * 1 + y.2 6 1)) (y.2 3 (512 * 1 + y.2 6 1)) n) ∧
      ((y.2 7 1 + n ≠ y.2 1 (512 * 1 + y.2 6 1) ∧ SR v' q' t' (y.2 1) (y.2 2) (y.2 3) t2 (512 * 1) (y.2 4 1) (y.2 5 1) (y.2 6 1) (y.2 7 1 + n) (y.2 0 1 + n) ((y.2 9 1 + 1) % 16) (y.2 8 1)) ∨
       (y.2 7 1 + n = y.2 1 (512 * 1 + y.2 6 1) ∧ SR v' q' t' (y.2 1) (y.2 2) (y.2 3) t2 (512 * 1) (y.2 4 1) (y.2 5 1) (y.2 6 1 + 1) 0 (y.2 0 1 + n) ((y.2 9 1 + 1) % 16) (y.2 8 1))) := by
  unfold SRy at hR
  have hR0 := hR
  obtain ⟨⟨wq, wt⟩, ⟨e2, e3, e4, e5, e6, e7⟩, ⟨i1, i2, i3, i4, i5⟩, hu, hm, hd, ⟨s1, s2, s3, s4, s5, s6⟩⟩ := hR
  obtain ⟨qf, qg, qh⟩ := wq.2 0 (by omega)
  rw [Nat.add_zero] at qf qg qh
  have hf := hu (y.2 6 1) hA
  have hS := s1 hA
  have hroom := tk_room tm (y.2 7 1) (y.2 1 (512 * 1 + y.2 6 1) - y.2 7 1)
  have hle := tk_le tm (y.2 7 1) (y.2 1 (512 * 1 + y.2 6 1) - y.2 7 1)
  have hpos := tk_pos tm (y.2 7 1) (y.2 1 (512 * 1 + y.2 6 1) - y.2 7 1) (by omega)
  rw [← hn] at hroom hle hpos
  have est := eS_isAtStart (v := x 4) (by omega)
  rw [e2] at est
  have etc : fS_takeCounter (x 4) = some (y.2 9 1, sI (x 4) 5 ((y.2 9 1 + 1) % 16)) := by
    unfold fS_takeCounter
    rw [ss_p (by omega), e5]
  have hb1 : (if tm % 8 = 0 then 1 else 0) ≤ 1 := by split <;> omega
  have hst1 : (if y.2 7 1 = 0 then 1 else 0) ≤ 1 := by split <;> omega
  obtain ⟨k1, e8, h8⟩ := eX_putHead (x := va_up x 4 (sI (x 4) 5 ((y.2 9 1 + 1) % 16))) (s := 1) (n := y.2 9 1) (tm := tm) (by rw [up_n _ _ (by omega)]; exact hk) hb1 hst1 (by rw [up_n _ _ (by omega)]; exact ht) ht2 (by omega) s5
  -- the cells behind the head
  generalize hx8 : va_up (va_up x 4 (sI (x 4) 5 ((y.2 9 1 + 1) % 16))) 14 k1 = x8 at e8
  have g1 : x8 4 = sI (x 4) 5 ((y.2 9 1 + 1) % 16) := by rw [← hx8, up_n _ _ (by omega), up_s]
  have g2 : x8 5 = x 5 := by rw [← hx8, up_n _ _ (by omega), up_n _ _ (by omega)]
  have g3 : x8 6 = x 6 := by rw [← hx8, up_n _ _ (by omega), up_n _ _ (by omega)]
  have g14 : x8 14 = k1 := by rw [← hx8, up_s]
  have hv2 : (x8 4).1 2 = y.2 7 1 := by rw [g1, sI_1, up_n _ _ (by omega), e2]
  have est2 := eS_isAtStart (v := x8 4) (by omega)
  rw [hv2] at est2
  have ep := eS_portion (v := x8 4) (u := x8 5) (tm := tm) rfl (by rw [hv2, g2, qf]; omega) (by rw [g2, qf]; omega)
  have q8 : (x8 5).2 0 0 = y.2 1 (512 * 1 + y.2 6 1) := by rw [g2, qf]
  rw [hv2, q8, ← hn] at ep
  -- the start
  have hstart : ∃ k2 : ST, (if (if y.2 7 1 = 0 then 1 else 0) = 0 then (some (x8 14) : Option (ST)) else ob (fU_firstSize (x8 5)) (fun r16 => ob (fP_put (x8 14) r16) (fun r18 => ob (fU_firstDue (x8 5)) (fun r20 => ob (fP_putTime r18 r20) (fun r22 => (some r22 : Option (ST))))))) = some k2 ∧
      PkR k2 (stp (hdr c (hv 1 (if y.2 7 1 = 0 then 1 else 0) (if tm % 8 = 0 then 1 else 0) (y.2 9 1)) (if tm % 8 = 0 then 1 else 0) tm) (if tm % 8 = 0 then 4 else 2) (y.2 1 (512 * 1 + y.2 6 1)) (y.2 2 (512 * 1 + y.2 6 1)) (y.2 7 1)) ((if tm % 8 = 0 then 4 else 2) + (if y.2 7 1 = 0 then 3 else 0)) := by
    have ea : (if (if tm % 8 = 0 then 1 else 0) = 0 then 2 else 4) = (if tm % 8 = 0 then 4 else 2) := by
      by_cases h9 : tm % 8 = 0
      · rw [if_pos h9, if_pos h9]; rfl
      · rw [if_neg h9, if_neg h9]; rfl
    rw [ea] at h8
    generalize hH : hdr c (hv 1 (if y.2 7 1 = 0 then 1 else 0) (if tm % 8 = 0 then 1 else 0) (y.2 9 1)) (if tm % 8 = 0 then 1 else 0) tm = hd8 at h8 ⊢
    generalize ha : (if tm % 8 = 0 then 4 else 2) = a8 at h8 ⊢
    have ha2 : a8 ≤ 4 := by rw [← ha]; split <;> omega
    unfold stp
    by_cases h0 : y.2 7 1 = 0
    · rw [if_pos h0, if_pos h0, if_pos h0, if_neg (by omega)]
      obtain ⟨k2, f1, f2⟩ := eP_put (y.2 1 (512 * 1 + y.2 6 1)) h8 (by omega)
      rw [Nat.mod_eq_of_lt (by omega)] at f2
      obtain ⟨k3, f3, f4⟩ := eP_putTime (x := y.2 2 (512 * 1 + y.2 6 1)) (by omega) f2 (by omega)
      refine ⟨k3, ?_, f4⟩
      unfold fU_firstSize fU_firstDue
      rw [ob_some, g2, qf, g14, f1, ob_some, ob_some, qg, f3, ob_some]
    · rw [if_neg h0, if_neg h0, if_neg h0, if_pos rfl]
      exact ⟨k1, by rw [g14], h8⟩
  obtain ⟨k2, f5, f6⟩ := hstart
  have hR1 : SR (x8 4) (x8 5) (x8 6) (y.2 1) (y.2 2) (y.2 3) t2 (512 * 1) (y.2 4 1) (y.2 5 1) (y.2 6 1) (y.2 7 1) (y.2 0 1) ((y.2 9 1 + 1) % 16) (y.2 8 1) := by
    rw [g1, g2, g3]
    refine ⟨⟨wq, wt⟩, ⟨by rw [sI_1, up_n _ _ (by omega)]; exact e2, by rw [sI_1, up_n _ _ (by omega)]; exact e3, by rw [sI_1, up_n _ _ (by omega)]; exact e4, by rw [sI_1, up_s], by rw [sI_1, up_n _ _ (by omega)]; exact e6, by rw [sI_1, up_n _ _ (by omega)]; exact e7⟩, ⟨i1, i2, i3, i4, i5⟩, hu, hm, hd, ⟨s1, s2, s3, s4, Nat.mod_lt _ (by omega), s6⟩⟩
  obtain ⟨v', q', t', k', m1, m2, m3⟩ := eS_send hR1 hA hst hle hpos hlo f6 (by
    revert hroom
    split <;> split <;> omega)
  refine ⟨v', q', t', k', ?_, ?_, m3⟩
  · unfold fX_fillPacket
    rw [if_neg (by omega), if_pos rfl]
    rw [est, ob_some, etc, ob_some, lt_def, e8, ob_some, est2, ob_some, ss_p (by split <;> omega), f5, ob_some, ep, ob_some, m1, ob_some]
    rw [← hx8]
    congr 1
    funext j
    by_cases j14 : j = 14
    · subst j14; rw [up_s, up_s]
    rw [up_n _ _ j14, up_n _ _ j14]
    by_cases j3 : j = 6
    · subst j3; rw [up_s, up_s]
    rw [up_n _ _ j3, up_n _ _ j3]
    by_cases j2 : j = 5
    · subst j2; rw [up_s, up_s]
    rw [up_n _ _ j2, up_n _ _ j2]
    by_cases j1 : j = 4
    · subst j1; rw [up_s, up_s]
    rw [up_n _ _ j1, up_n _ _ j1, up_n _ _ j14, up_n _ _ j14]
  · intro p hp
    exact m2.2 p hp
theorem eX_fill2 {x : XS} {c : Nat → Nat} {y : ST} {t2 tm n : Nat} (hR : SRy (x 7) (x 8) (x 9) y t2 2) (hk : PkR (x 14) c 0) (ht : (x 0).1 6 = tm) (ht2 : tm < 1000000) (ht3 : t2 < 1000002) (hA : y.2 6 2 < y.2 4 2) (hst : 0 < y.2 7 2 ∨ y.2 6 2 - y.2 5 2 < 8)
    (hn : n = tk tm (y.2 7 2) (y.2 1 (512 * 2 + y.2 6 2) - y.2 7 2)) (hlo : y.2 0 2 + n ≤ 28) :
    ∃ v' q' t' k' : ST, fX_fillPacket x 2 (if tm % 8 = 0 then 1 else 0) = some (va_up (va_up (va_up (va_up (va_up (va_up x 7 (sI (x 7) 5 ((y.2 9 2 + 1) % 16))) 14 k') 7 v') 8 q') 9 t') 14 k') ∧
      Ag (k'.2 0) (pkt c 2 tm (y.2 7 2) (y.2 9 2) (y.2 1 (512 * 2 + y.2 6 2)) (y.2 2 (512 * 2 + y.2 6 2)) (y.2 3 (512 * 2 + y.2 6 2)) n) ∧
      ((y.2 7 2 + n ≠ y.2 1 (512 * 2 + y.2 6 2) ∧ SR v' q' t' (y.2 1) (y.2 2) (y.2 3) t2 (512 * 2) (y.2 4 2) (y.2 5 2) (y.2 6 2) (y.2 7 2 + n) (y.2 0 2 + n) ((y.2 9 2 + 1) % 16) (y.2 8 2)) ∨
       (y.2 7 2 + n = y.2 1 (512 * 2 + y.2 6 2) ∧ SR v' q' t' (y.2 1) (y.2 2) (y.2 3) t2 (512 * 2) (y.2 4 2) (y.2 5 2) (y.2 6 2 + 1) 0 (y.2 0 2 + n) ((y.2 9 2 + 1) % 16) (y.2 8 2))) := by
  unfold SRy at hR
  have hR0 := hR
  obtain ⟨⟨wq, wt⟩, ⟨e2, e3, e4, e5, e6, e7⟩, ⟨i1, i2, i3, i4, i5⟩, hu, hm, hd, ⟨s1, s2, s3, s4, s5, s6⟩⟩ := hR
  obtain ⟨qf, qg, qh⟩ := wq.2 0 (by omega)
  rw [Nat.add_zero] at qf qg qh
  have hf := hu (y.2 6 2) hA
  have hS := s1 hA
  have hroom := tk_room tm (y.2 7 2) (y.2 1 (512 * 2 + y.2 6 2) - y.2 7 2)
  have hle := tk_le tm (y.2 7 2) (y.2 1 (512 * 2 + y.2 6 2) - y.2 7 2)
  have hpos := tk_pos tm (y.2 7 2) (y.2 1 (512 * 2 + y.2 6 2) - y.2 7 2) (by omega)
  rw [← hn] at hroom hle hpos
  have est := eS_isAtStart (v := x 7) (by omega)
  rw [e2] at est
  have etc : fS_takeCounter (x 7) = some (y.2 9 2, sI (x 7) 5 ((y.2 9 2 + 1) % 16)) := by
    unfold fS_takeCounter
    rw [ss_p (by omega), e5]
  have hb1 : (if tm % 8 = 0 then 1 else 0) ≤ 1 := by split <;> omega
  have hst1 : (if y.2 7 2 = 0 then 1 else 0) ≤ 1 := by split <;> omega
  obtain ⟨k1, e8, h8⟩ := eX_putHead (x := va_up x 7 (sI (x 7) 5 ((y.2 9 2 + 1) % 16))) (s := 2) (n := y.2 9 2) (tm := tm) (by rw [up_n _ _ (by omega)]; exact hk) hb1 hst1 (by rw [up_n _ _ (by omega)]; exact ht) ht2 (by omega) s5
  -- the cells behind the head
  generalize hx8 : va_up (va_up x 7 (sI (x 7) 5 ((y.2 9 2 + 1) % 16))) 14 k1 = x8 at e8
  have g1 : x8 7 = sI (x 7) 5 ((y.2 9 2 + 1) % 16) := by rw [← hx8, up_n _ _ (by omega), up_s]
  have g2 : x8 8 = x 8 := by rw [← hx8, up_n _ _ (by omega), up_n _ _ (by omega)]
  have g3 : x8 9 = x 9 := by rw [← hx8, up_n _ _ (by omega), up_n _ _ (by omega)]
  have g14 : x8 14 = k1 := by rw [← hx8, up_s]
  have hv2 : (x8 7).1 2 = y.2 7 2 := by rw [g1, sI_1, up_n _ _ (by omega), e2]
  have est2 := eS_isAtStart (v := x8 7) (by omega)
  rw [hv2] at est2
  have ep := eS_portion (v := x8 7) (u := x8 8) (tm := tm) rfl (by rw [hv2, g2, qf]; omega) (by rw [g2, qf]; omega)
  have q8 : (x8 8).2 0 0 = y.2 1 (512 * 2 + y.2 6 2) := by rw [g2, qf]
  rw [hv2, q8, ← hn] at ep
  -- the start
  have hstart : ∃ k2 : ST, (if (if y.2 7 2 = 0 then 1 else 0) = 0 then (some (x8 14) : Option (ST)) else ob (fU_firstSize (x8 8)) (fun r16 => ob (fP_put (x8 14) r16) (fun r18 => ob (fU_firstDue (x8 8)) (fun r20 => ob (fP_putTime r18 r20) (fun r22 => (some r22 : Option (ST))))))) = some k2 ∧
      PkR k2 (stp (hdr c (hv 2 (if y.2 7 2 = 0 then 1 else 0) (if tm % 8 = 0 then 1 else 0) (y.2 9 2)) (if tm % 8 = 0 then 1 else 0) tm) (if tm % 8 = 0 then 4 else 2) (y.2 1 (512 * 2 + y.2 6 2)) (y.2 2 (512 * 2 + y.2 6 2)) (y.2 7 2)) ((if tm % 8 = 0 then 4 else 2) + (if y.2 7 2 = 0 then 3 else 0)) := by
    have ea : (if (if tm % 8 = 0 then 1 else 0) = 0 then 2 else 4) = (if tm % 8 = 0 then 4 else 2) := by
      by_cases h9 : tm % 8 = 0
      · rw [if_pos h9, if_pos h9]; rfl
      · rw [if_neg h9, if_neg h9]; rfl
    rw [ea] at h8
    generalize hH : hdr c (hv 2 (if y.2 7 2 = 0 then 1 else 0) (if tm % 8 = 0 then 1 else 0) (y.2 9 2)) (if tm % 8 = 0 then 1 else 0) tm = hd8 at h8 ⊢
    generalize ha : (if tm % 8 = 0 then 4 else 2) = a8 at h8 ⊢
    have ha2 : a8 ≤ 4 := by rw [← ha]; split <;> omega
    unfold stp
    by_cases h0 : y.2 7 2 = 0
    · rw [if_pos h0, if_pos h0, if_pos h0, if_neg (by omega)]
      obtain ⟨k2, f1, f2⟩ := eP_put (y.2 1 (512 * 2 + y.2 6 2)) h8 (by omega)
      rw [Nat.mod_eq_of_lt (by omega)] at f2
      obtain ⟨k3, f3, f4⟩ := eP_putTime (x := y.2 2 (512 * 2 + y.2 6 2)) (by omega) f2 (by omega)
      refine ⟨k3, ?_, f4⟩
      unfold fU_firstSize fU_firstDue
      rw [ob_some, g2, qf, g14, f1, ob_some, ob_some, qg, f3, ob_some]
    · rw [if_neg h0, if_neg h0, if_neg h0, if_pos rfl]
      exact ⟨k1, by rw [g14], h8⟩
  obtain ⟨k2, f5, f6⟩ := hstart
  have hR1 : SR (x8 7) (x8 8) (x8 9) (y.2 1) (y.2 2) (y.2 3) t2 (512 * 2) (y.2 4 2) (y.2 5 2) (y.2 6 2) (y.2 7 2) (y.2 0 2) ((y.2 9 2 + 1) % 16) (y.2 8 2) := by
    rw [g1, g2, g3]
    refine ⟨⟨wq, wt⟩, ⟨by rw [sI_1, up_n _ _ (by omega)]; exact e2, by rw [sI_1, up_n _ _ (by omega)]; exact e3, by rw [sI_1, up_n _ _ (by omega)]; exact e4, by rw [sI_1, up_s], by rw [sI_1, up_n _ _ (by omega)]; exact e6, by rw [sI_1, up_n _ _ (by omega)]; exact e7⟩, ⟨i1, i2, i3, i4, i5⟩, hu, hm, hd, ⟨s1, s2, s3, s4, Nat.mod_lt _ (by omega), s6⟩⟩
  obtain ⟨v', q', t', k', m1, m2, m3⟩ := eS_send hR1 hA hst hle hpos hlo f6 (by
    revert hroom
    split <;> split <;> omega)
  refine ⟨v', q', t', k', ?_, ?_, m3⟩
  · unfold fX_fillPacket
    rw [if_neg (by omega), if_neg (by omega), if_pos rfl]
    rw [est, ob_some, etc, ob_some, lt_def, e8, ob_some, est2, ob_some, ss_p (by split <;> omega), f5, ob_some, ep, ob_some, m1, ob_some]
    rw [← hx8]
    congr 1
    funext j
    by_cases j14 : j = 14
    · subst j14; rw [up_s, up_s]
    rw [up_n _ _ j14, up_n _ _ j14]
    by_cases j3 : j = 9
    · subst j3; rw [up_s, up_s]
    rw [up_n _ _ j3, up_n _ _ j3]
    by_cases j2 : j = 8
    · subst j2; rw [up_s, up_s]
    rw [up_n _ _ j2, up_n _ _ j2]
    by_cases j1 : j = 7
    · subst j1; rw [up_s, up_s]
    rw [up_n _ _ j1, up_n _ _ j1, up_n _ _ j14, up_n _ _ j14]
  · intro p hp
    exact m2.2 p hp
