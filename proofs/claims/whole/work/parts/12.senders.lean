def fS_isAtStart (v : ST)  : Option (Nat) := ss ((v.1 2) < 2147483648) ((if ¬ (v.1 2) = 0 then some 0 else some 1))
abbrev rm_S_isAtStart : Room := { frames := 0, cells := 0, slots := 0, locals := 0 }
set_option maxHeartbeats 4000000 in
set_option maxRecDepth 100000 in
theorem cS_isAtStart (l : Launch) (D : va_G) (ci : Nat → ClassId) (h : Nat) (q0 : Nat) (t0 : Nat) (v : ST)  (o : Nat) (hF : fS_isAtStart v = some o) : CtI l y_S_isAtStart w_S_isAtStart rm_S_isAtStart D vwCl (tyC ci) [.ref h] [(h, .inr (3, [.ref q0, .ref t0, .int (nI (v.1 2)), .int (nI (v.1 3)), .int (nI (v.1 4)), .int (nI (v.1 5)), .int (nI (v.1 6)), .int (nI (v.1 7))]))] (nI o) [(h, .inr (3, [.ref q0, .ref t0, .int (nI (v.1 2)), .int (nI (v.1 3)), .int (nI (v.1 4)), .int (nI (v.1 5)), .int (nI (v.1 6)), .int (nI (v.1 7))]))] := by
  refine ct_i (cc := b_S_isAtStart) (maxL := 1) (plainFor_of_name (by decide)) rfl (Nat.le_of_ble_eq_true rfl) (fun p9 e9 s9 m9 args9 be9 me9 c9 A9 Q9 ls H0 hx hb hml hts hown hK hN hl hP hD hS hA kR => ?_)
  replace hl : lv_has ls 1 [(0, .ref h)] := hl
  replace hP : va_P D vwCl [(h, .inr (3, [.ref q0, .ref t0, .int (nI (v.1 2)), .int (nI (v.1 3)), .int (nI (v.1 4)), .int (nI (v.1 5)), .int (nI (v.1 6)), .int (nI (v.1 7))]))] H0 := hP
  replace hD : va_D A9 [(h, .inr (3, [.ref q0, .ref t0, .int (nI (v.1 2)), .int (nI (v.1 3)), .int (nI (v.1 4)), .int (nI (v.1 5)), .int (nI (v.1 6)), .int (nI (v.1 7))]))] := hD
  replace hown : s9.vm.findClass R_S = some m9.cls := hown
  have hT : ∀ w ∈ lw_ok, w.before args9 s9 = true := fun w h => hts w (List.mem_cons_of_mem _ h)
  rw [fS_isAtStart] at hF
  generalize hH : H0 = H at hP ⊢
  replace hS : va_S A9 H0 H [] := by rw [← hH]; exact hS
  clear hH
  generalize ([] : List Loc) = locs at hS ⊢
  refine lv_aload_n hx hb d_S_isAtStart_0 rfl (lv_at hl 0 rfl) ?_
  refine va_get (D := D) (ci := 3) (v := .int (nI (v.1 2))) (C := R_S) (T := F_S) (N := 8) hx hb hT in_S hown hK hP 0 rfl rfl 2 (by decide) (hT _ wd_55) (fun _ h9 => h9) rfl d_S_isAtStart_1 ?_
  obtain ⟨b1, hF⟩ := ss_s hF
  refine ln_if_ne hx hb b1 11 d_S_isAtStart_4 (by decide) (fun h2 => ?_) (fun h2 => ?_)
  · have hF := it_p hF h2
    refine lv_iconst (v := nI 0) hx hb d_S_isAtStart_11 (by decide) ?_
    obtain rfl := Option.some.inj hF
    exact kR _ _ _ _ d_S_isAtStart_12 (nar_b (x := 0) (by decide)) hP hD hS
  · have hF := it_n hF h2
    refine lv_iconst (v := nI 1) hx hb d_S_isAtStart_7 (by decide) ?_
    refine lv_goto (tgt := 12) hx hb d_S_isAtStart_8 (by decide) ?_
    obtain rfl := Option.some.inj hF
    exact kR _ _ _ _ d_S_isAtStart_12 (nar_b (x := 1) (by decide)) hP hD hS
def fS_takeCounter (v : ST)  : Option (Nat × ST) := ss (((v.1 5) + 1) < 2147483648) (some (v.1 5, sI v 5 (((v.1 5) + 1) % 16)))
abbrev rm_S_takeCounter : Room := { frames := 0, cells := 0, slots := 0, locals := 0 }
set_option maxHeartbeats 4000000 in
set_option maxRecDepth 100000 in
theorem cS_takeCounter (l : Launch) (D : va_G) (ci : Nat → ClassId) (h : Nat) (q0 : Nat) (t0 : Nat) (v : ST)  (o : Nat × ST) (hF : fS_takeCounter v = some o) : CtI l y_S_takeCounter w_S_takeCounter rm_S_takeCounter D vwCl (tyC ci) [.ref h] [(h, .inr (3, [.ref q0, .ref t0, .int (nI (v.1 2)), .int (nI (v.1 3)), .int (nI (v.1 4)), .int (nI (v.1 5)), .int (nI (v.1 6)), .int (nI (v.1 7))]))] (nI o.1) [(h, .inr (3, [.ref q0, .ref t0, .int (nI (o.2.1 2)), .int (nI (o.2.1 3)), .int (nI (o.2.1 4)), .int (nI (o.2.1 5)), .int (nI (o.2.1 6)), .int (nI (o.2.1 7))]))] := by
  refine ct_i (cc := b_S_takeCounter) (maxL := 2) (plainFor_of_name (by decide)) rfl (Nat.le_of_ble_eq_true rfl) (fun p9 e9 s9 m9 args9 be9 me9 c9 A9 Q9 ls H0 hx hb hml hts hown hK hN hl hP hD hS hA kR => ?_)
  replace hl : lv_has ls 2 [(0, .ref h)] := hl
  replace hP : va_P D vwCl [(h, .inr (3, [.ref q0, .ref t0, .int (nI (v.1 2)), .int (nI (v.1 3)), .int (nI (v.1 4)), .int (nI (v.1 5)), .int (nI (v.1 6)), .int (nI (v.1 7))]))] H0 := hP
  replace hD : va_D A9 [(h, .inr (3, [.ref q0, .ref t0, .int (nI (v.1 2)), .int (nI (v.1 3)), .int (nI (v.1 4)), .int (nI (v.1 5)), .int (nI (v.1 6)), .int (nI (v.1 7))]))] := hD
  replace hown : s9.vm.findClass R_S = some m9.cls := hown
  have hT : ∀ w ∈ lw_ok, w.before args9 s9 = true := fun w h => hts w (List.mem_cons_of_mem _ h)
  rw [fS_takeCounter] at hF
  generalize hH : H0 = H at hP ⊢
  replace hS : va_S A9 H0 H [] := by rw [← hH]; exact hS
  clear hH
  generalize ([] : List Loc) = locs at hS ⊢
  refine lv_aload_n hx hb d_S_takeCounter_0 rfl (lv_at hl 0 rfl) ?_
  refine va_get (D := D) (ci := 3) (v := .int (nI (v.1 5))) (C := R_S) (T := F_S) (N := 8) hx hb hT in_S hown hK hP 0 rfl rfl 5 (by decide) (hT _ wd_60) (fun _ h9 => h9) rfl d_S_takeCounter_1 ?_
  refine lv_istore_n hx hb d_S_takeCounter_4 rfl hl (by decide) rfl (fun ls hl => ?_)
  replace hl : lv_has ls 2 [(1, .int (nI (v.1 5))), (0, .ref h)] := hl
  refine lv_aload_n hx hb d_S_takeCounter_5 rfl (lv_at hl 1 rfl) ?_
  refine lv_iload_n hx hb d_S_takeCounter_6 rfl (lv_at hl 0 rfl) ?_
  refine lv_iconst (v := nI 1) hx hb d_S_takeCounter_7 (by decide) ?_
  refine ln_iadd hx hb d_S_takeCounter_8 ?_
  refine lv_bipush (v := nI 16) hx hb d_S_takeCounter_9 (by decide) ?_
  obtain ⟨b1, hF⟩ := ss_s hF
  refine ln_irem hx hb b1 (by decide) (by decide) d_S_takeCounter_11 ?_
  refine va_put (D := D) (ci := 3) (v := .int (nI (((v.1 5) + 1) % 16))) (ty := .int) (C := R_S) (T := F_S) (N := 8) hx hb hT in_S t_S ty_S nm_S hown hK hP hD hS 0 rfl rfl 5 (by decide) (hT _ wd_60) (fun _ h9 => h9) rfl (by decide +kernel) rfl rfl (Nat.le_of_ble_eq_true rfl) d_S_takeCounter_12 (fun H locs hP hD hS => ?_)
  replace hP : va_P D vwCl [(h, .inr (3, [.ref q0, .ref t0, .int (nI (v.1 2)), .int (nI (v.1 3)), .int (nI (v.1 4)), .int (nI (((v.1 5) + 1) % 16)), .int (nI (v.1 6)), .int (nI (v.1 7))]))] H := hP
  replace hD : va_D A9 [(h, .inr (3, [.ref q0, .ref t0, .int (nI (v.1 2)), .int (nI (v.1 3)), .int (nI (v.1 4)), .int (nI (((v.1 5) + 1) % 16)), .int (nI (v.1 6)), .int (nI (v.1 7))]))] := hD
  refine lv_iload_n hx hb d_S_takeCounter_15 rfl (lv_at hl 0 rfl) ?_
  obtain rfl := Option.some.inj hF
  exact kR _ _ _ _ d_S_takeCounter_16 rfl hP hD hS
def fS_dropCurrent (v : ST) (u : ST)  : Option (ST × ST) := ob (fU_dropFirst u) (fun r1 => some (sI v 2 0, r1))
abbrev rm_S_dropCurrent : Room := { frames := 2, cells := 0, slots := 0, locals := 41 }
set_option maxHeartbeats 4000000 in
set_option maxRecDepth 100000 in
theorem cS_dropCurrent (l : Launch) (D : va_G) (ci : Nat → ClassId) (h : Nat) (q0 : Nat) (q1 : Nat) (q2 : Nat) (q3 : Nat) (t0 : Nat) (v : ST) (u : ST)  (o : ST × ST) (hF : fS_dropCurrent v u = some o) : CtV l y_S_dropCurrent w_S_dropCurrent rm_S_dropCurrent D vwCl (tyC ci) [.ref h] [(h, .inr (3, [.ref q0, .ref t0, .int (nI (v.1 2)), .int (nI (v.1 3)), .int (nI (v.1 4)), .int (nI (v.1 5)), .int (nI (v.1 6)), .int (nI (v.1 7))])), (q0, .inr (4, [.ref q1, .ref q2, .ref q3, .int (nI (u.1 3))])), (q1, .inl (ci 0, 8, .inl (nF (u.2 0)))), (q2, .inl (ci 0, 8, .inl (nF (u.2 1)))), (q3, .inl (ci 0, 8, .inl (nF (u.2 2))))] [(h, .inr (3, [.ref q0, .ref t0, .int (nI (o.1.1 2)), .int (nI (o.1.1 3)), .int (nI (o.1.1 4)), .int (nI (o.1.1 5)), .int (nI (o.1.1 6)), .int (nI (o.1.1 7))])), (q0, .inr (4, [.ref q1, .ref q2, .ref q3, .int (nI (o.2.1 3))])), (q1, .inl (ci 0, 8, .inl (nF (o.2.2 0)))), (q2, .inl (ci 0, 8, .inl (nF (o.2.2 1)))), (q3, .inl (ci 0, 8, .inl (nF (o.2.2 2))))] := by
  refine ct_v (cc := b_S_dropCurrent) (maxL := 1) (plainFor_of_name (by decide)) rfl (Nat.le_of_ble_eq_true rfl) (fun p9 e9 s9 m9 args9 be9 me9 c9 A9 Q9 ls H0 hx hb hml hts hown hK hN hl hP hD hS hA kR => ?_)
  replace hl : lv_has ls 1 [(0, .ref h)] := hl
  replace hP : va_P D vwCl [(h, .inr (3, [.ref q0, .ref t0, .int (nI (v.1 2)), .int (nI (v.1 3)), .int (nI (v.1 4)), .int (nI (v.1 5)), .int (nI (v.1 6)), .int (nI (v.1 7))])), (q0, .inr (4, [.ref q1, .ref q2, .ref q3, .int (nI (u.1 3))])), (q1, .inl (ci 0, 8, .inl (nF (u.2 0)))), (q2, .inl (ci 0, 8, .inl (nF (u.2 1)))), (q3, .inl (ci 0, 8, .inl (nF (u.2 2))))] H0 := hP
  replace hD : va_D A9 [(h, .inr (3, [.ref q0, .ref t0, .int (nI (v.1 2)), .int (nI (v.1 3)), .int (nI (v.1 4)), .int (nI (v.1 5)), .int (nI (v.1 6)), .int (nI (v.1 7))])), (q0, .inr (4, [.ref q1, .ref q2, .ref q3, .int (nI (u.1 3))])), (q1, .inl (ci 0, 8, .inl (nF (u.2 0)))), (q2, .inl (ci 0, 8, .inl (nF (u.2 1)))), (q3, .inl (ci 0, 8, .inl (nF (u.2 2))))] := hD
  replace hown : s9.vm.findClass R_S = some m9.cls := hown
  have hT : ∀ w ∈ lw_ok, w.before args9 s9 = true := fun w h => hts w (List.mem_cons_of_mem _ h)
  rw [fS_dropCurrent] at hF
  generalize hH : H0 = H at hP ⊢
  replace hS : va_S A9 H0 H [] := by rw [← hH]; exact hS
  clear hH
  generalize ([] : List Loc) = locs at hS ⊢
  refine lv_aload_n hx hb d_S_dropCurrent_0 rfl (lv_at hl 0 rfl) ?_
  refine va_get (D := D) (ci := 3) (v := .ref q0) (C := R_S) (T := F_S) (N := 8) hx hb hT in_S hown hK hP 0 rfl rfl 0 (by decide) (hT _ wd_51) (fun _ h9 => h9) rfl d_S_dropCurrent_1 ?_
  obtain ⟨r1, g2, hF⟩ := ob_s hF
  refine ln_gov (va_runV (As := []) (rest := []) ⟨hx, hb, hml, hown, hT⟩ (cU_dropFirst l D ci q0 q1 q2 q3 u  _ g2 H.size) (cw_V 0 hT wd_230 wd_4 wd_233 wd_231 wd_232 (by decide +kernel) (by decide) (by decide)) (ln_preV 1 hK hN hP rfl rfl (hP.subM [1, 2, 3, 4] rfl) (hD.sub [1, 2, 3, 4] (by decide) rfl)) rfl rfl hl.1 rfl (lv_room (Nat.le_of_ble_eq_true rfl)) d_S_dropCurrent_4 ⟨Nat.zero_le _, Nat.zero_le _⟩) hP hD hS hA [1, 2, 3, 4] [0] [0, 1, 2, 3, 4] rfl rfl rfl (by decide) (by decide) (wn := [(h, .inr (3, [.ref q0, .ref t0, .int (nI (v.1 2)), .int (nI (v.1 3)), .int (nI (v.1 4)), .int (nI (v.1 5)), .int (nI (v.1 6)), .int (nI (v.1 7))])), (q0, .inr (4, [.ref q1, .ref q2, .ref q3, .int (nI (r1.1 3))])), (q1, .inl (ci 0, 8, .inl (nF (r1.2 0)))), (q2, .inl (ci 0, 8, .inl (nF (r1.2 1)))), (q3, .inl (ci 0, 8, .inl (nF (r1.2 2))))]) rfl (by decide) (fun H locs hP hD hS => ?_)
  refine lv_aload_n hx hb d_S_dropCurrent_7 rfl (lv_at hl 0 rfl) ?_
  refine lv_iconst (v := nI 0) hx hb d_S_dropCurrent_8 (by decide) ?_
  refine va_put (D := D) (ci := 3) (v := .int (nI 0)) (ty := .int) (C := R_S) (T := F_S) (N := 8) hx hb hT in_S t_S ty_S nm_S hown hK hP hD hS 0 rfl rfl 2 (by decide) (hT _ wd_55) (fun _ h9 => h9) rfl (by decide +kernel) rfl rfl (Nat.le_of_ble_eq_true rfl) d_S_dropCurrent_9 (fun H locs hP hD hS => ?_)
  replace hP : va_P D vwCl [(h, .inr (3, [.ref q0, .ref t0, .int (nI 0), .int (nI (v.1 3)), .int (nI (v.1 4)), .int (nI (v.1 5)), .int (nI (v.1 6)), .int (nI (v.1 7))])), (q0, .inr (4, [.ref q1, .ref q2, .ref q3, .int (nI (r1.1 3))])), (q1, .inl (ci 0, 8, .inl (nF (r1.2 0)))), (q2, .inl (ci 0, 8, .inl (nF (r1.2 1)))), (q3, .inl (ci 0, 8, .inl (nF (r1.2 2))))] H := hP
  replace hD : va_D A9 [(h, .inr (3, [.ref q0, .ref t0, .int (nI 0), .int (nI (v.1 3)), .int (nI (v.1 4)), .int (nI (v.1 5)), .int (nI (v.1 6)), .int (nI (v.1 7))])), (q0, .inr (4, [.ref q1, .ref q2, .ref q3, .int (nI (r1.1 3))])), (q1, .inl (ci 0, 8, .inl (nF (r1.2 0)))), (q2, .inl (ci 0, 8, .inl (nF (r1.2 1)))), (q3, .inl (ci 0, 8, .inl (nF (r1.2 2))))] := hD
  obtain rfl := Option.some.inj hF
  exact kR _ _ _ _ d_S_dropCurrent_12 hP hD hS
def fS_portion (v : ST) (u : ST) (b : Nat) : Option (Nat) := ss (b < 2147483648) (ob (α := Nat) (if b = 0 then (some 0 : Option (Nat)) else (some 2 : Option (Nat))) (fun j3 => ss (j3 ≤ 14) (ob (fS_isAtStart v) (fun r7 => ss (r7 < 2147483648) (ob (α := Nat) (if r7 = 0 then (some 0 : Option (Nat)) else (some 3 : Option (Nat))) (fun j11 => ss (j11 ≤ (14 - j3)) (ob (fU_firstSize u) (fun r15 => ss ((v.1 2) ≤ r15) (ss (((14 - j3) - j11) < 2147483648) (ss ((r15 - (v.1 2)) < 2147483648) (some (min ((14 - j3) - j11) (r15 - (v.1 2))))))))))))))
abbrev rm_S_portion : Room := { frames := 1, cells := 0, slots := 0, locals := 21 }
set_option maxHeartbeats 4000000 in
set_option maxRecDepth 100000 in
theorem cS_portion (l : Launch) (D : va_G) (ci : Nat → ClassId) (h : Nat) (q0 : Nat) (q1 : Nat) (q2 : Nat) (q3 : Nat) (t0 : Nat) (v : ST) (u : ST) (b : Nat) (o : Nat) (hF : fS_portion v u b = some o) : CtI l y_S_portion w_S_portion rm_S_portion D vwCl (tyC ci) [.ref h, .int (nI b)] [(h, .inr (3, [.ref q0, .ref t0, .int (nI (v.1 2)), .int (nI (v.1 3)), .int (nI (v.1 4)), .int (nI (v.1 5)), .int (nI (v.1 6)), .int (nI (v.1 7))])), (q0, .inr (4, [.ref q1, .ref q2, .ref q3, .int (nI (u.1 3))])), (q1, .inl (ci 0, 8, .inl (nF (u.2 0)))), (q2, .inl (ci 0, 8, .inl (nF (u.2 1)))), (q3, .inl (ci 0, 8, .inl (nF (u.2 2))))] (nI o) [(h, .inr (3, [.ref q0, .ref t0, .int (nI (v.1 2)), .int (nI (v.1 3)), .int (nI (v.1 4)), .int (nI (v.1 5)), .int (nI (v.1 6)), .int (nI (v.1 7))])), (q0, .inr (4, [.ref q1, .ref q2, .ref q3, .int (nI (u.1 3))])), (q1, .inl (ci 0, 8, .inl (nF (u.2 0)))), (q2, .inl (ci 0, 8, .inl (nF (u.2 1)))), (q3, .inl (ci 0, 8, .inl (nF (u.2 2))))] := by
  refine ct_i (cc := b_S_portion) (maxL := 3) (plainFor_of_name (by decide)) rfl (Nat.le_of_ble_eq_true rfl) (fun p9 e9 s9 m9 args9 be9 me9 c9 A9 Q9 ls H0 hx hb hml hts hown hK hN hl hP hD hS hA kR => ?_)
  replace hl : lv_has ls 3 [(0, .ref h), (1, .int (nI b))] := hl
  replace hP : va_P D vwCl [(h, .inr (3, [.ref q0, .ref t0, .int (nI (v.1 2)), .int (nI (v.1 3)), .int (nI (v.1 4)), .int (nI (v.1 5)), .int (nI (v.1 6)), .int (nI (v.1 7))])), (q0, .inr (4, [.ref q1, .ref q2, .ref q3, .int (nI (u.1 3))])), (q1, .inl (ci 0, 8, .inl (nF (u.2 0)))), (q2, .inl (ci 0, 8, .inl (nF (u.2 1)))), (q3, .inl (ci 0, 8, .inl (nF (u.2 2))))] H0 := hP
  replace hD : va_D A9 [(h, .inr (3, [.ref q0, .ref t0, .int (nI (v.1 2)), .int (nI (v.1 3)), .int (nI (v.1 4)), .int (nI (v.1 5)), .int (nI (v.1 6)), .int (nI (v.1 7))])), (q0, .inr (4, [.ref q1, .ref q2, .ref q3, .int (nI (u.1 3))])), (q1, .inl (ci 0, 8, .inl (nF (u.2 0)))), (q2, .inl (ci 0, 8, .inl (nF (u.2 1)))), (q3, .inl (ci 0, 8, .inl (nF (u.2 2))))] := hD
  replace hown : s9.vm.findClass R_S = some m9.cls := hown
  have hT : ∀ w ∈ lw_ok, w.before args9 s9 = true := fun w h => hts w (List.mem_cons_of_mem _ h)
  rw [fS_portion] at hF
  generalize hH : H0 = H at hP ⊢
  replace hS : va_S A9 H0 H [] := by rw [← hH]; exact hS
  clear hH
  generalize ([] : List Loc) = locs at hS ⊢
  refine lv_bipush (v := nI 14) hx hb d_S_portion_0 (by decide) ?_
  refine lv_iload_n hx hb d_S_portion_2 rfl (lv_at hl 1 rfl) ?_
  obtain ⟨b1, hF⟩ := ss_s hF
  obtain ⟨j3, g5, hF⟩ := ob_s hF
  have k4 : ∀ (ls : Array Slot) (H : Heap) (locs : List Loc), lv_has ls 3 [(0, .ref h), (1, .int (nI b))] → va_P D vwCl [(h, .inr (3, [.ref q0, .ref t0, .int (nI (v.1 2)), .int (nI (v.1 3)), .int (nI (v.1 4)), .int (nI (v.1 5)), .int (nI (v.1 6)), .int (nI (v.1 7))])), (q0, .inr (4, [.ref q1, .ref q2, .ref q3, .int (nI (u.1 3))])), (q1, .inl (ci 0, 8, .inl (nF (u.2 0)))), (q2, .inl (ci 0, 8, .inl (nF (u.2 1)))), (q3, .inl (ci 0, 8, .inl (nF (u.2 2))))] H → va_D A9 [(h, .inr (3, [.ref q0, .ref t0, .int (nI (v.1 2)), .int (nI (v.1 3)), .int (nI (v.1 4)), .int (nI (v.1 5)), .int (nI (v.1 6)), .int (nI (v.1 7))])), (q0, .inr (4, [.ref q1, .ref q2, .ref q3, .int (nI (u.1 3))])), (q1, .inl (ci 0, 8, .inl (nF (u.2 0)))), (q2, .inl (ci 0, 8, .inl (nF (u.2 1)))), (q3, .inl (ci 0, 8, .inl (nF (u.2 2))))] → va_S A9 H0 H locs → W p9 l e9 rm_S_portion s9 m9 args9 be9 me9 c9 H locs 0 0 Q9 (F0 m9 11 ls [.int (nI j3), .int (nI 14)]) := by
    intro ls H locs hl hP hD hS
    obtain ⟨b6, hF⟩ := ss_s hF
    refine ln_isub hx hb b6 d_S_portion_11 ?_
    refine lv_aload_n hx hb d_S_portion_12 rfl (lv_at hl 0 rfl) ?_
    obtain ⟨r7, g8, hF⟩ := ob_s hF
    refine ln_goi (va_runV (As := []) (rest := [.int (nI (14 - j3))]) ⟨hx, hb, hml, hown, hT⟩ (cS_isAtStart l D ci h q0 t0 v  _ g8 H.size) (cw_V 0 hT wd_247 wd_3 wd_250 wd_248 wd_249 (by decide +kernel) (by decide) (by decide)) (ln_preV 0 hK hN hP rfl rfl (hP.subM [0] rfl) (hD.sub [0] (by decide) rfl)) rfl rfl hl.1 rfl (lv_room (Nat.le_of_ble_eq_true rfl)) d_S_portion_13 ⟨Nat.zero_le _, Nat.zero_le _⟩) hP hD hS hA [0] [1, 2, 3, 4] [4, 0, 1, 2, 3] rfl rfl rfl (by decide) (by decide) (wn := [(h, .inr (3, [.ref q0, .ref t0, .int (nI (v.1 2)), .int (nI (v.1 3)), .int (nI (v.1 4)), .int (nI (v.1 5)), .int (nI (v.1 6)), .int (nI (v.1 7))])), (q0, .inr (4, [.ref q1, .ref q2, .ref q3, .int (nI (u.1 3))])), (q1, .inl (ci 0, 8, .inl (nF (u.2 0)))), (q2, .inl (ci 0, 8, .inl (nF (u.2 1)))), (q3, .inl (ci 0, 8, .inl (nF (u.2 2))))]) rfl (by decide) (fun H locs hP hD hS => ?_)
    obtain ⟨b9, hF⟩ := ss_s hF
    obtain ⟨j11, g13, hF⟩ := ob_s hF
    have k12 : ∀ (ls : Array Slot) (H : Heap) (locs : List Loc), lv_has ls 3 [(0, .ref h), (1, .int (nI b))] → va_P D vwCl [(h, .inr (3, [.ref q0, .ref t0, .int (nI (v.1 2)), .int (nI (v.1 3)), .int (nI (v.1 4)), .int (nI (v.1 5)), .int (nI (v.1 6)), .int (nI (v.1 7))])), (q0, .inr (4, [.ref q1, .ref q2, .ref q3, .int (nI (u.1 3))])), (q1, .inl (ci 0, 8, .inl (nF (u.2 0)))), (q2, .inl (ci 0, 8, .inl (nF (u.2 1)))), (q3, .inl (ci 0, 8, .inl (nF (u.2 2))))] H → va_D A9 [(h, .inr (3, [.ref q0, .ref t0, .int (nI (v.1 2)), .int (nI (v.1 3)), .int (nI (v.1 4)), .int (nI (v.1 5)), .int (nI (v.1 6)), .int (nI (v.1 7))])), (q0, .inr (4, [.ref q1, .ref q2, .ref q3, .int (nI (u.1 3))])), (q1, .inl (ci 0, 8, .inl (nF (u.2 0)))), (q2, .inl (ci 0, 8, .inl (nF (u.2 1)))), (q3, .inl (ci 0, 8, .inl (nF (u.2 2))))] → va_S A9 H0 H locs → W p9 l e9 rm_S_portion s9 m9 args9 be9 me9 c9 H locs 0 0 Q9 (F0 m9 24 ls [.int (nI j11), .int (nI (14 - j3))]) := by
      intro ls H locs hl hP hD hS
      obtain ⟨b14, hF⟩ := ss_s hF
      refine ln_isub hx hb b14 d_S_portion_24 ?_
      refine lv_istore_n hx hb d_S_portion_25 rfl hl (by decide) rfl (fun ls hl => ?_)
      replace hl : lv_has ls 3 [(2, .int (nI ((14 - j3) - j11))), (0, .ref h), (1, .int (nI b))] := hl
      refine lv_iload_n hx hb d_S_portion_26 rfl (lv_at hl 0 rfl) ?_
      refine lv_aload_n hx hb d_S_portion_27 rfl (lv_at hl 1 rfl) ?_
      refine va_get (D := D) (ci := 3) (v := .ref q0) (C := R_S) (T := F_S) (N := 8) hx hb hT in_S hown hK hP 0 rfl rfl 0 (by decide) (hT _ wd_51) (fun _ h9 => h9) rfl d_S_portion_28 ?_
      obtain ⟨r15, g16, hF⟩ := ob_s hF
      refine ln_goi (va_runV (As := []) (rest := [.int (nI ((14 - j3) - j11))]) ⟨hx, hb, hml, hown, hT⟩ (cU_firstSize l D ci q0 q1 q2 q3 u  _ g16 H.size) (cw_V 0 hT wd_226 wd_4 wd_229 wd_227 wd_228 (by decide +kernel) (by decide) (by decide)) (ln_preV 1 hK hN hP rfl rfl (hP.subM [1, 2, 3, 4] rfl) (hD.sub [1, 2, 3, 4] (by decide) rfl)) rfl rfl hl.1 rfl (lv_room (Nat.le_of_ble_eq_true rfl)) d_S_portion_31 ⟨Nat.zero_le _, Nat.zero_le _⟩) hP hD hS hA [1, 2, 3, 4] [0] [0, 1, 2, 3, 4] rfl rfl rfl (by decide) (by decide) (wn := [(h, .inr (3, [.ref q0, .ref t0, .int (nI (v.1 2)), .int (nI (v.1 3)), .int (nI (v.1 4)), .int (nI (v.1 5)), .int (nI (v.1 6)), .int (nI (v.1 7))])), (q0, .inr (4, [.ref q1, .ref q2, .ref q3, .int (nI (u.1 3))])), (q1, .inl (ci 0, 8, .inl (nF (u.2 0)))), (q2, .inl (ci 0, 8, .inl (nF (u.2 1)))), (q3, .inl (ci 0, 8, .inl (nF (u.2 2))))]) rfl (by decide) (fun H locs hP hD hS => ?_)
      refine lv_aload_n hx hb d_S_portion_34 rfl (lv_at hl 1 rfl) ?_
      refine va_get (D := D) (ci := 3) (v := .int (nI (v.1 2))) (C := R_S) (T := F_S) (N := 8) hx hb hT in_S hown hK hP 0 rfl rfl 2 (by decide) (hT _ wd_55) (fun _ h9 => h9) rfl d_S_portion_35 ?_
      obtain ⟨b17, hF⟩ := ss_s hF
      refine ln_isub hx hb b17 d_S_portion_38 ?_
      obtain ⟨b18, hF⟩ := ss_s hF
      obtain ⟨b19, hF⟩ := ss_s hF
      refine ln_mmin hx hb (hml.trans hl.1.symm) hown (hT _ wd_256) (hT _ wd_18) (hT _ wd_2) (hT _ wd_19) (by decide) (Nat.le_of_ble_eq_true rfl) (by decide) (by decide) b18 b19 d_S_portion_39 ?_
      obtain rfl := Option.some.inj hF
      exact kR _ _ _ _ d_S_portion_42 rfl hP hD hS
    have hF := g13
    refine ln_if_eq hx hb b9 23 d_S_portion_16 (by decide) (fun h10 => ?_) (fun h10 => ?_)
    · have hF := it_p hF h10
      refine lv_iconst (v := nI 0) hx hb d_S_portion_23 (by decide) ?_
      obtain rfl := Option.some.inj hF
      have hl := lv_sub hl [0, 1] rfl
      exact k12 _ _ _ hl hP hD hS
    · have hF := it_n hF h10
      refine lv_iconst (v := nI 3) hx hb d_S_portion_19 (by decide) ?_
      refine lv_goto (tgt := 24) hx hb d_S_portion_20 (by decide) ?_
      obtain rfl := Option.some.inj hF
      have hl := lv_sub hl [0, 1] rfl
      exact k12 _ _ _ hl hP hD hS
  have hF := g5
  refine ln_if_eq hx hb b1 10 d_S_portion_3 (by decide) (fun h2 => ?_) (fun h2 => ?_)
  · have hF := it_p hF h2
    refine lv_iconst (v := nI 0) hx hb d_S_portion_10 (by decide) ?_
    obtain rfl := Option.some.inj hF
    have hl := lv_sub hl [0, 1] rfl
    exact k4 _ _ _ hl hP hD hS
  · have hF := it_n hF h2
    refine lv_iconst (v := nI 2) hx hb d_S_portion_6 (by decide) ?_
    refine lv_goto (tgt := 11) hx hb d_S_portion_7 (by decide) ?_
    obtain rfl := Option.some.inj hF
    have hl := lv_sub hl [0, 1] rfl
    exact k4 _ _ _ hl hP hD hS
def fS_isReady (v : ST) (u : ST) (w : ST) (b : Nat) (cap : Nat) : Option (Nat) := ob (fU_isEmpty u) (fun r1 => ss (r1 < 2147483648) ((if ¬ r1 = 0 then some 0 else ob (fS_isAtStart v) (fun r5 => ss (r5 < 2147483648) ((if r5 = 0 then ob (fS_portion v u b) (fun r9 => ss (((v.1 3) + r9) < 2147483648) ((if 28 < ((v.1 3) + r9) then some 0 else ss (((v.1 4) + r9) < 2147483648) (ss (cap < 2147483648) ((if cap < ((v.1 4) + r9) then some 0 else some 1)))))) else ob (fU_isFull w) (fun r16 => ss (r16 < 2147483648) ((if r16 = 0 then ob (fS_portion v u b) (fun r20 => ss (((v.1 3) + r20) < 2147483648) ((if 28 < ((v.1 3) + r20) then some 0 else ss (((v.1 4) + r20) < 2147483648) (ss (cap < 2147483648) ((if cap < ((v.1 4) + r20) then some 0 else some 1)))))) else some 0)))))))))
abbrev rm_S_isReady : Room := { frames := 2, cells := 0, slots := 0, locals := 43 }
set_option maxHeartbeats 4000000 in
set_option maxRecDepth 100000 in
theorem cS_isReady (l : Launch) (D : va_G) (ci : Nat → ClassId) (h : Nat) (q0 : Nat) (q1 : Nat) (q2 : Nat) (q3 : Nat) (t0 : Nat) (t1 : Nat) (t2 : Nat) (t3 : Nat) (v : ST) (u : ST) (w : ST) (b : Nat) (cap : Nat) (o : Nat) (hF : fS_isReady v u w b cap = some o) : CtI l y_S_isReady w_S_isReady rm_S_isReady D vwCl (tyC ci) [.ref h, .int (nI b), .int (nI cap)] [(h, .inr (3, [.ref q0, .ref t0, .int (nI (v.1 2)), .int (nI (v.1 3)), .int (nI (v.1 4)), .int (nI (v.1 5)), .int (nI (v.1 6)), .int (nI (v.1 7))])), (q0, .inr (4, [.ref q1, .ref q2, .ref q3, .int (nI (u.1 3))])), (q1, .inl (ci 0, 8, .inl (nF (u.2 0)))), (q2, .inl (ci 0, 8, .inl (nF (u.2 1)))), (q3, .inl (ci 0, 8, .inl (nF (u.2 2)))), (t0, .inr (4, [.ref t1, .ref t2, .ref t3, .int (nI (w.1 3))])), (t1, .inl (ci 0, 8, .inl (nF (w.2 0)))), (t2, .inl (ci 0, 8, .inl (nF (w.2 1)))), (t3, .inl (ci 0, 8, .inl (nF (w.2 2))))] (nI o) [(h, .inr (3, [.ref q0, .ref t0, .int (nI (v.1 2)), .int (nI (v.1 3)), .int (nI (v.1 4)), .int (nI (v.1 5)), .int (nI (v.1 6)), .int (nI (v.1 7))])), (q0, .inr (4, [.ref q1, .ref q2, .ref q3, .int (nI (u.1 3))])), (q1, .inl (ci 0, 8, .inl (nF (u.2 0)))), (q2, .inl (ci 0, 8, .inl (nF (u.2 1)))), (q3, .inl (ci 0, 8, .inl (nF (u.2 2)))), (t0, .inr (4, [.ref t1, .ref t2, .ref t3, .int (nI (w.1 3))])), (t1, .inl (ci 0, 8, .inl (nF (w.2 0)))), (t2, .inl (ci 0, 8, .inl (nF (w.2 1)))), (t3, .inl (ci 0, 8, .inl (nF (w.2 2))))] := by
  refine ct_i (cc := b_S_isReady) (maxL := 4) (plainFor_of_name (by decide)) rfl (Nat.le_of_ble_eq_true rfl) (fun p9 e9 s9 m9 args9 be9 me9 c9 A9 Q9 ls H0 hx hb hml hts hown hK hN hl hP hD hS hA kR => ?_)
  replace hl : lv_has ls 4 [(0, .ref h), (1, .int (nI b)), (2, .int (nI cap))] := hl
  replace hP : va_P D vwCl [(h, .inr (3, [.ref q0, .ref t0, .int (nI (v.1 2)), .int (nI (v.1 3)), .int (nI (v.1 4)), .int (nI (v.1 5)), .int (nI (v.1 6)), .int (nI (v.1 7))])), (q0, .inr (4, [.ref q1, .ref q2, .ref q3, .int (nI (u.1 3))])), (q1, .inl (ci 0, 8, .inl (nF (u.2 0)))), (q2, .inl (ci 0, 8, .inl (nF (u.2 1)))), (q3, .inl (ci 0, 8, .inl (nF (u.2 2)))), (t0, .inr (4, [.ref t1, .ref t2, .ref t3, .int (nI (w.1 3))])), (t1, .inl (ci 0, 8, .inl (nF (w.2 0)))), (t2, .inl (ci 0, 8, .inl (nF (w.2 1)))), (t3, .inl (ci 0, 8, .inl (nF (w.2 2))))] H0 := hP
  replace hD : va_D A9 [(h, .inr (3, [.ref q0, .ref t0, .int (nI (v.1 2)), .int (nI (v.1 3)), .int (nI (v.1 4)), .int (nI (v.1 5)), .int (nI (v.1 6)), .int (nI (v.1 7))])), (q0, .inr (4, [.ref q1, .ref q2, .ref q3, .int (nI (u.1 3))])), (q1, .inl (ci 0, 8, .inl (nF (u.2 0)))), (q2, .inl (ci 0, 8, .inl (nF (u.2 1)))), (q3, .inl (ci 0, 8, .inl (nF (u.2 2)))), (t0, .inr (4, [.ref t1, .ref t2, .ref t3, .int (nI (w.1 3))])), (t1, .inl (ci 0, 8, .inl (nF (w.2 0)))), (t2, .inl (ci 0, 8, .inl (nF (w.2 1)))), (t3, .inl (ci 0, 8, .inl (nF (w.2 2))))] := hD
  replace hown : s9.vm.findClass R_S = some m9.cls := hown
  have hT : ∀ w ∈ lw_ok, w.before args9 s9 = true := fun w h => hts w (List.mem_cons_of_mem _ h)
  rw [fS_isReady] at hF
  generalize hH : H0 = H at hP ⊢
  replace hS : va_S A9 H0 H [] := by rw [← hH]; exact hS
  clear hH
  generalize ([] : List Loc) = locs at hS ⊢
  refine lv_aload_n hx hb d_S_isReady_0 rfl (lv_at hl 0 rfl) ?_
  refine va_get (D := D) (ci := 3) (v := .ref q0) (C := R_S) (T := F_S) (N := 8) hx hb hT in_S hown hK hP 0 rfl rfl 0 (by decide) (hT _ wd_51) (fun _ h9 => h9) rfl d_S_isReady_1 ?_
  obtain ⟨r1, g2, hF⟩ := ob_s hF
  refine ln_goi (va_runV (As := []) (rest := []) ⟨hx, hb, hml, hown, hT⟩ (cU_isEmpty l D ci q0 q1 q2 q3 u  _ g2 H.size) (cw_V 0 hT wd_246 wd_4 wd_225 wd_223 wd_224 (by decide +kernel) (by decide) (by decide)) (ln_preV 1 hK hN hP rfl rfl (hP.subM [1, 2, 3, 4] rfl) (hD.sub [1, 2, 3, 4] (by decide) rfl)) rfl rfl hl.1 rfl (lv_room (Nat.le_of_ble_eq_true rfl)) d_S_isReady_4 ⟨Nat.zero_le _, Nat.zero_le _⟩) hP hD hS hA [1, 2, 3, 4] [0, 5, 6, 7, 8] [0, 5, 6, 7, 8, 1, 2, 3, 4] rfl rfl rfl (by decide) (by decide) (wn := [(h, .inr (3, [.ref q0, .ref t0, .int (nI (v.1 2)), .int (nI (v.1 3)), .int (nI (v.1 4)), .int (nI (v.1 5)), .int (nI (v.1 6)), .int (nI (v.1 7))])), (q0, .inr (4, [.ref q1, .ref q2, .ref q3, .int (nI (u.1 3))])), (q1, .inl (ci 0, 8, .inl (nF (u.2 0)))), (q2, .inl (ci 0, 8, .inl (nF (u.2 1)))), (q3, .inl (ci 0, 8, .inl (nF (u.2 2)))), (t0, .inr (4, [.ref t1, .ref t2, .ref t3, .int (nI (w.1 3))])), (t1, .inl (ci 0, 8, .inl (nF (w.2 0)))), (t2, .inl (ci 0, 8, .inl (nF (w.2 1)))), (t3, .inl (ci 0, 8, .inl (nF (w.2 2))))]) rfl (by decide) (fun H locs hP hD hS => ?_)
  obtain ⟨b3, hF⟩ := ss_s hF
  refine ln_if_ne hx hb b3 27 d_S_isReady_7 (by decide) (fun h4 => ?_) (fun h4 => ?_)
  · have hF := it_p hF h4
    refine lv_iconst (v := nI 0) hx hb d_S_isReady_27 (by decide) ?_
    obtain rfl := Option.some.inj hF
    exact kR _ _ _ _ d_S_isReady_28 (nar_b (x := 0) (by decide)) hP hD hS
  · have hF := it_n hF h4
    refine lv_aload_n hx hb d_S_isReady_10 rfl (lv_at hl 0 rfl) ?_
    obtain ⟨r5, g6, hF⟩ := ob_s hF
    refine ln_goi (va_runV (As := []) (rest := []) ⟨hx, hb, hml, hown, hT⟩ (cS_isAtStart l D ci h q0 t0 v  _ g6 H.size) (cw_V 0 hT wd_247 wd_3 wd_250 wd_248 wd_249 (by decide +kernel) (by decide) (by decide)) (ln_preV 0 hK hN hP rfl rfl (hP.subM [0] rfl) (hD.sub [0] (by decide) rfl)) rfl rfl hl.1 rfl (lv_room (Nat.le_of_ble_eq_true rfl)) d_S_isReady_11 ⟨Nat.zero_le _, Nat.zero_le _⟩) hP hD hS hA [0] [1, 2, 3, 4, 5, 6, 7, 8] [8, 0, 1, 2, 3, 4, 5, 6, 7] rfl rfl rfl (by decide) (by decide) (wn := [(h, .inr (3, [.ref q0, .ref t0, .int (nI (v.1 2)), .int (nI (v.1 3)), .int (nI (v.1 4)), .int (nI (v.1 5)), .int (nI (v.1 6)), .int (nI (v.1 7))])), (q0, .inr (4, [.ref q1, .ref q2, .ref q3, .int (nI (u.1 3))])), (q1, .inl (ci 0, 8, .inl (nF (u.2 0)))), (q2, .inl (ci 0, 8, .inl (nF (u.2 1)))), (q3, .inl (ci 0, 8, .inl (nF (u.2 2)))), (t0, .inr (4, [.ref t1, .ref t2, .ref t3, .int (nI (w.1 3))])), (t1, .inl (ci 0, 8, .inl (nF (w.2 0)))), (t2, .inl (ci 0, 8, .inl (nF (w.2 1)))), (t3, .inl (ci 0, 8, .inl (nF (w.2 2))))]) rfl (by decide) (fun H locs hP hD hS => ?_)
    obtain ⟨b7, hF⟩ := ss_s hF
    refine ln_if_eq hx hb b7 29 d_S_isReady_14 (by decide) (fun h8 => ?_) (fun h8 => ?_)
    · have hF := it_p hF h8
      refine lv_aload_n hx hb d_S_isReady_29 rfl (lv_at hl 0 rfl) ?_
      refine lv_iload_n hx hb d_S_isReady_30 rfl (lv_at hl 1 rfl) ?_
      obtain ⟨r9, g10, hF⟩ := ob_s hF
      refine ln_goi (va_runV (As := [.int (nI b)]) (rest := []) ⟨hx, hb, hml, hown, hT⟩ (cS_portion l D ci h q0 q1 q2 q3 t0 v u b _ g10 H.size) (cw_V 1 hT wd_252 wd_3 wd_255 wd_253 wd_254 (by decide +kernel) (by decide) (by decide)) (ln_preV 0 hK hN hP rfl rfl (hP.subM [0, 1, 2, 3, 4] rfl) (hD.sub [0, 1, 2, 3, 4] (by decide) rfl)) rfl rfl hl.1 rfl (lv_room (Nat.le_of_ble_eq_true rfl)) d_S_isReady_31 ⟨Nat.zero_le _, Nat.zero_le _⟩) hP hD hS hA [0, 1, 2, 3, 4] [5, 6, 7, 8] [4, 5, 6, 7, 8, 0, 1, 2, 3] rfl rfl rfl (by decide) (by decide) (wn := [(h, .inr (3, [.ref q0, .ref t0, .int (nI (v.1 2)), .int (nI (v.1 3)), .int (nI (v.1 4)), .int (nI (v.1 5)), .int (nI (v.1 6)), .int (nI (v.1 7))])), (q0, .inr (4, [.ref q1, .ref q2, .ref q3, .int (nI (u.1 3))])), (q1, .inl (ci 0, 8, .inl (nF (u.2 0)))), (q2, .inl (ci 0, 8, .inl (nF (u.2 1)))), (q3, .inl (ci 0, 8, .inl (nF (u.2 2)))), (t0, .inr (4, [.ref t1, .ref t2, .ref t3, .int (nI (w.1 3))])), (t1, .inl (ci 0, 8, .inl (nF (w.2 0)))), (t2, .inl (ci 0, 8, .inl (nF (w.2 1)))), (t3, .inl (ci 0, 8, .inl (nF (w.2 2))))]) rfl (by decide) (fun H locs hP hD hS => ?_)
      refine lv_istore_n hx hb d_S_isReady_34 rfl hl (by decide) rfl (fun ls hl => ?_)
      replace hl : lv_has ls 4 [(3, .int (nI r9)), (0, .ref h), (1, .int (nI b)), (2, .int (nI cap))] := hl
      refine lv_aload_n hx hb d_S_isReady_35 rfl (lv_at hl 1 rfl) ?_
      refine va_get (D := D) (ci := 3) (v := .int (nI (v.1 3))) (C := R_S) (T := F_S) (N := 8) hx hb hT in_S hown hK hP 0 rfl rfl 3 (by decide) (hT _ wd_56) (fun _ h9 => h9) rfl d_S_isReady_36 ?_
      refine lv_iload_n hx hb d_S_isReady_39 rfl (lv_at hl 0 rfl) ?_
      refine ln_iadd hx hb d_S_isReady_40 ?_
      refine lv_bipush (v := nI 28) hx hb d_S_isReady_41 (by decide) ?_
      obtain ⟨b11, hF⟩ := ss_s hF
      refine ln_icmp_gt hx hb b11 (by decide) 60 d_S_isReady_43 (by decide) (fun h12 => ?_) (fun h12 => ?_)
      · have hF := it_p hF h12
        refine lv_iconst (v := nI 0) hx hb d_S_isReady_60 (by decide) ?_
        obtain rfl := Option.some.inj hF
        exact kR _ _ _ _ d_S_isReady_61 (nar_b (x := 0) (by decide)) hP hD hS
      · have hF := it_n hF h12
        refine lv_aload_n hx hb d_S_isReady_46 rfl (lv_at hl 1 rfl) ?_
        refine va_get (D := D) (ci := 3) (v := .int (nI (v.1 4))) (C := R_S) (T := F_S) (N := 8) hx hb hT in_S hown hK hP 0 rfl rfl 4 (by decide) (hT _ wd_58) (fun _ h9 => h9) rfl d_S_isReady_47 ?_
        refine lv_iload_n hx hb d_S_isReady_50 rfl (lv_at hl 0 rfl) ?_
        refine ln_iadd hx hb d_S_isReady_51 ?_
        refine lv_iload_n hx hb d_S_isReady_52 rfl (lv_at hl 3 rfl) ?_
        obtain ⟨b13, hF⟩ := ss_s hF
        obtain ⟨b14, hF⟩ := ss_s hF
        refine ln_icmp_gt hx hb b13 b14 60 d_S_isReady_53 (by decide) (fun h15 => ?_) (fun h15 => ?_)
        · have hF := it_p hF h15
          refine lv_iconst (v := nI 0) hx hb d_S_isReady_60 (by decide) ?_
          obtain rfl := Option.some.inj hF
          exact kR _ _ _ _ d_S_isReady_61 (nar_b (x := 0) (by decide)) hP hD hS
        · have hF := it_n hF h15
          refine lv_iconst (v := nI 1) hx hb d_S_isReady_56 (by decide) ?_
          refine lv_goto (tgt := 61) hx hb d_S_isReady_57 (by decide) ?_
          obtain rfl := Option.some.inj hF
          exact kR _ _ _ _ d_S_isReady_61 (nar_b (x := 1) (by decide)) hP hD hS
    · have hF := it_n hF h8
      refine lv_aload_n hx hb d_S_isReady_17 rfl (lv_at hl 0 rfl) ?_
      refine va_get (D := D) (ci := 3) (v := .ref t0) (C := R_S) (T := F_S) (N := 8) hx hb hT in_S hown hK hP 0 rfl rfl 1 (by decide) (hT _ wd_53) (fun _ h9 => h9) rfl d_S_isReady_18 ?_
      obtain ⟨r16, g17, hF⟩ := ob_s hF
      refine ln_goi (va_runV (As := []) (rest := []) ⟨hx, hb, hml, hown, hT⟩ (cU_isFull l D ci t0 t1 t2 t3 w  _ g17 H.size) (cw_V 0 hT wd_251 wd_4 wd_199 wd_197 wd_198 (by decide +kernel) (by decide) (by decide)) (ln_preV 5 hK hN hP rfl rfl (hP.subM [5, 6, 7, 8] rfl) (hD.sub [5, 6, 7, 8] (by decide) rfl)) rfl rfl hl.1 rfl (lv_room (Nat.le_of_ble_eq_true rfl)) d_S_isReady_21 ⟨Nat.zero_le _, Nat.zero_le _⟩) hP hD hS hA [5, 6, 7, 8] [0, 1, 2, 3, 4] [0, 1, 2, 3, 4, 5, 6, 7, 8] rfl rfl rfl (by decide) (by decide) (wn := [(h, .inr (3, [.ref q0, .ref t0, .int (nI (v.1 2)), .int (nI (v.1 3)), .int (nI (v.1 4)), .int (nI (v.1 5)), .int (nI (v.1 6)), .int (nI (v.1 7))])), (q0, .inr (4, [.ref q1, .ref q2, .ref q3, .int (nI (u.1 3))])), (q1, .inl (ci 0, 8, .inl (nF (u.2 0)))), (q2, .inl (ci 0, 8, .inl (nF (u.2 1)))), (q3, .inl (ci 0, 8, .inl (nF (u.2 2)))), (t0, .inr (4, [.ref t1, .ref t2, .ref t3, .int (nI (w.1 3))])), (t1, .inl (ci 0, 8, .inl (nF (w.2 0)))), (t2, .inl (ci 0, 8, .inl (nF (w.2 1)))), (t3, .inl (ci 0, 8, .inl (nF (w.2 2))))]) rfl (by decide) (fun H locs hP hD hS => ?_)
      obtain ⟨b18, hF⟩ := ss_s hF
      refine ln_if_eq hx hb b18 29 d_S_isReady_24 (by decide) (fun h19 => ?_) (fun h19 => ?_)
      · have hF := it_p hF h19
        refine lv_aload_n hx hb d_S_isReady_29 rfl (lv_at hl 0 rfl) ?_
        refine lv_iload_n hx hb d_S_isReady_30 rfl (lv_at hl 1 rfl) ?_
        obtain ⟨r20, g21, hF⟩ := ob_s hF
        refine ln_goi (va_runV (As := [.int (nI b)]) (rest := []) ⟨hx, hb, hml, hown, hT⟩ (cS_portion l D ci h q0 q1 q2 q3 t0 v u b _ g21 H.size) (cw_V 1 hT wd_252 wd_3 wd_255 wd_253 wd_254 (by decide +kernel) (by decide) (by decide)) (ln_preV 0 hK hN hP rfl rfl (hP.subM [0, 1, 2, 3, 4] rfl) (hD.sub [0, 1, 2, 3, 4] (by decide) rfl)) rfl rfl hl.1 rfl (lv_room (Nat.le_of_ble_eq_true rfl)) d_S_isReady_31 ⟨Nat.zero_le _, Nat.zero_le _⟩) hP hD hS hA [0, 1, 2, 3, 4] [5, 6, 7, 8] [4, 5, 6, 7, 8, 0, 1, 2, 3] rfl rfl rfl (by decide) (by decide) (wn := [(h, .inr (3, [.ref q0, .ref t0, .int (nI (v.1 2)), .int (nI (v.1 3)), .int (nI (v.1 4)), .int (nI (v.1 5)), .int (nI (v.1 6)), .int (nI (v.1 7))])), (q0, .inr (4, [.ref q1, .ref q2, .ref q3, .int (nI (u.1 3))])), (q1, .inl (ci 0, 8, .inl (nF (u.2 0)))), (q2, .inl (ci 0, 8, .inl (nF (u.2 1)))), (q3, .inl (ci 0, 8, .inl (nF (u.2 2)))), (t0, .inr (4, [.ref t1, .ref t2, .ref t3, .int (nI (w.1 3))])), (t1, .inl (ci 0, 8, .inl (nF (w.2 0)))), (t2, .inl (ci 0, 8, .inl (nF (w.2 1)))), (t3, .inl (ci 0, 8, .inl (nF (w.2 2))))]) rfl (by decide) (fun H locs hP hD hS => ?_)
        refine lv_istore_n hx hb d_S_isReady_34 rfl hl (by decide) rfl (fun ls hl => ?_)
        replace hl : lv_has ls 4 [(3, .int (nI r20)), (0, .ref h), (1, .int (nI b)), (2, .int (nI cap))] := hl
        refine lv_aload_n hx hb d_S_isReady_35 rfl (lv_at hl 1 rfl) ?_
        refine va_get (D := D) (ci := 3) (v := .int (nI (v.1 3))) (C := R_S) (T := F_S) (N := 8) hx hb hT in_S hown hK hP 0 rfl rfl 3 (by decide) (hT _ wd_56) (fun _ h9 => h9) rfl d_S_isReady_36 ?_
        refine lv_iload_n hx hb d_S_isReady_39 rfl (lv_at hl 0 rfl) ?_
        refine ln_iadd hx hb d_S_isReady_40 ?_
        refine lv_bipush (v := nI 28) hx hb d_S_isReady_41 (by decide) ?_
        obtain ⟨b22, hF⟩ := ss_s hF
        refine ln_icmp_gt hx hb b22 (by decide) 60 d_S_isReady_43 (by decide) (fun h23 => ?_) (fun h23 => ?_)
        · have hF := it_p hF h23
          refine lv_iconst (v := nI 0) hx hb d_S_isReady_60 (by decide) ?_
          obtain rfl := Option.some.inj hF
          exact kR _ _ _ _ d_S_isReady_61 (nar_b (x := 0) (by decide)) hP hD hS
        · have hF := it_n hF h23
          refine lv_aload_n hx hb d_S_isReady_46 rfl (lv_at hl 1 rfl) ?_
          refine va_get (D := D) (ci := 3) (v := .int (nI (v.1 4))) (C := R_S) (T := F_S) (N := 8) hx hb hT in_S hown hK hP 0 rfl rfl 4 (by decide) (hT _ wd_58) (fun _ h9 => h9) rfl d_S_isReady_47 ?_
          refine lv_iload_n hx hb d_S_isReady_50 rfl (lv_at hl 0 rfl) ?_
          refine ln_iadd hx hb d_S_isReady_51 ?_
          refine lv_iload_n hx hb d_S_isReady_52 rfl (lv_at hl 3 rfl) ?_
          obtain ⟨b24, hF⟩ := ss_s hF
          obtain ⟨b25, hF⟩ := ss_s hF
          refine ln_icmp_gt hx hb b24 b25 60 d_S_isReady_53 (by decide) (fun h26 => ?_) (fun h26 => ?_)
          · have hF := it_p hF h26
            refine lv_iconst (v := nI 0) hx hb d_S_isReady_60 (by decide) ?_
            obtain rfl := Option.some.inj hF
            exact kR _ _ _ _ d_S_isReady_61 (nar_b (x := 0) (by decide)) hP hD hS
          · have hF := it_n hF h26
            refine lv_iconst (v := nI 1) hx hb d_S_isReady_56 (by decide) ?_
            refine lv_goto (tgt := 61) hx hb d_S_isReady_57 (by decide) ?_
            obtain rfl := Option.some.inj hF
            exact kR _ _ _ _ d_S_isReady_61 (nar_b (x := 1) (by decide)) hP hD hS
      · have hF := it_n hF h19
        refine lv_iconst (v := nI 0) hx hb d_S_isReady_27 (by decide) ?_
        obtain rfl := Option.some.inj hF
        exact kR _ _ _ _ d_S_isReady_28 (nar_b (x := 0) (by decide)) hP hD hS
def fS_beginTick (v : ST) (u : ST) (w : ST) (t : Nat) (lk : Nat) : Option (ST × ST × ST) := ss ((v.1 3) < 1073741824) (ss (lk < 1073741824) (ob (fU_isFirstDueAt w t) (fun r3 => ss (r3 < 2147483648) (ob (α := ST × ST) (if r3 = 0 then (some (sI v 3 ((v.1 3) - lk), w) : Option (ST × ST)) else ob (fU_firstSize w) (fun r9 => ss (r9 ≤ (v.1 4)) (ob (fU_dropFirst w) (fun r12 => (some (sI (sI v 3 ((v.1 3) - lk)) 4 ((v.1 4) - r9), r12) : Option (ST × ST)))))) (fun j7 => ob (fU_isFirstDueAt u t) (fun r15 => ss (r15 < 2147483648) ((if r15 = 0 then some (j7.1, u, j7.2) else ss ((j7.1.1 2) ≤ (j7.1.1 4)) (ob (fS_dropCurrent (sI (sI j7.1 4 ((j7.1.1 4) - (j7.1.1 2))) 6 ((j7.1.1 6) + 1)) u) (fun r20 => some (r20.1, r20.2, j7.2)))))))))))
abbrev rm_S_beginTick : Room := { frames := 3, cells := 0, slots := 0, locals := 61 }
set_option maxHeartbeats 4000000 in
set_option maxRecDepth 100000 in
theorem cS_beginTick (l : Launch) (D : va_G) (ci : Nat → ClassId) (h : Nat) (q0 : Nat) (q1 : Nat) (q2 : Nat) (q3 : Nat) (t0 : Nat) (t1 : Nat) (t2 : Nat) (t3 : Nat) (v : ST) (u : ST) (w : ST) (t : Nat) (lk : Nat) (o : ST × ST × ST) (hF : fS_beginTick v u w t lk = some o) : CtV l y_S_beginTick w_S_beginTick rm_S_beginTick D vwCl (tyC ci) [.ref h, .int (nI t), .int (nI lk)] [(h, .inr (3, [.ref q0, .ref t0, .int (nI (v.1 2)), .int (nI (v.1 3)), .int (nI (v.1 4)), .int (nI (v.1 5)), .int (nI (v.1 6)), .int (nI (v.1 7))])), (q0, .inr (4, [.ref q1, .ref q2, .ref q3, .int (nI (u.1 3))])), (q1, .inl (ci 0, 8, .inl (nF (u.2 0)))), (q2, .inl (ci 0, 8, .inl (nF (u.2 1)))), (q3, .inl (ci 0, 8, .inl (nF (u.2 2)))), (t0, .inr (4, [.ref t1, .ref t2, .ref t3, .int (nI (w.1 3))])), (t1, .inl (ci 0, 8, .inl (nF (w.2 0)))), (t2, .inl (ci 0, 8, .inl (nF (w.2 1)))), (t3, .inl (ci 0, 8, .inl (nF (w.2 2))))] [(h, .inr (3, [.ref q0, .ref t0, .int (nI (o.1.1 2)), .int (nI (o.1.1 3)), .int (nI (o.1.1 4)), .int (nI (o.1.1 5)), .int (nI (o.1.1 6)), .int (nI (o.1.1 7))])), (q0, .inr (4, [.ref q1, .ref q2, .ref q3, .int (nI (o.2.1.1 3))])), (q1, .inl (ci 0, 8, .inl (nF (o.2.1.2 0)))), (q2, .inl (ci 0, 8, .inl (nF (o.2.1.2 1)))), (q3, .inl (ci 0, 8, .inl (nF (o.2.1.2 2)))), (t0, .inr (4, [.ref t1, .ref t2, .ref t3, .int (nI (o.2.2.1 3))])), (t1, .inl (ci 0, 8, .inl (nF (o.2.2.2 0)))), (t2, .inl (ci 0, 8, .inl (nF (o.2.2.2 1)))), (t3, .inl (ci 0, 8, .inl (nF (o.2.2.2 2))))] := by
  refine ct_v (cc := b_S_beginTick) (maxL := 3) (plainFor_of_name (by decide)) rfl (Nat.le_of_ble_eq_true rfl) (fun p9 e9 s9 m9 args9 be9 me9 c9 A9 Q9 ls H0 hx hb hml hts hown hK hN hl hP hD hS hA kR => ?_)
  replace hl : lv_has ls 3 [(0, .ref h), (1, .int (nI t)), (2, .int (nI lk))] := hl
  replace hP : va_P D vwCl [(h, .inr (3, [.ref q0, .ref t0, .int (nI (v.1 2)), .int (nI (v.1 3)), .int (nI (v.1 4)), .int (nI (v.1 5)), .int (nI (v.1 6)), .int (nI (v.1 7))])), (q0, .inr (4, [.ref q1, .ref q2, .ref q3, .int (nI (u.1 3))])), (q1, .inl (ci 0, 8, .inl (nF (u.2 0)))), (q2, .inl (ci 0, 8, .inl (nF (u.2 1)))), (q3, .inl (ci 0, 8, .inl (nF (u.2 2)))), (t0, .inr (4, [.ref t1, .ref t2, .ref t3, .int (nI (w.1 3))])), (t1, .inl (ci 0, 8, .inl (nF (w.2 0)))), (t2, .inl (ci 0, 8, .inl (nF (w.2 1)))), (t3, .inl (ci 0, 8, .inl (nF (w.2 2))))] H0 := hP
  replace hD : va_D A9 [(h, .inr (3, [.ref q0, .ref t0, .int (nI (v.1 2)), .int (nI (v.1 3)), .int (nI (v.1 4)), .int (nI (v.1 5)), .int (nI (v.1 6)), .int (nI (v.1 7))])), (q0, .inr (4, [.ref q1, .ref q2, .ref q3, .int (nI (u.1 3))])), (q1, .inl (ci 0, 8, .inl (nF (u.2 0)))), (q2, .inl (ci 0, 8, .inl (nF (u.2 1)))), (q3, .inl (ci 0, 8, .inl (nF (u.2 2)))), (t0, .inr (4, [.ref t1, .ref t2, .ref t3, .int (nI (w.1 3))])), (t1, .inl (ci 0, 8, .inl (nF (w.2 0)))), (t2, .inl (ci 0, 8, .inl (nF (w.2 1)))), (t3, .inl (ci 0, 8, .inl (nF (w.2 2))))] := hD
  replace hown : s9.vm.findClass R_S = some m9.cls := hown
  have hT : ∀ w ∈ lw_ok, w.before args9 s9 = true := fun w h => hts w (List.mem_cons_of_mem _ h)
  rw [fS_beginTick] at hF
  generalize hH : H0 = H at hP ⊢
  replace hS : va_S A9 H0 H [] := by rw [← hH]; exact hS
  clear hH
  generalize ([] : List Loc) = locs at hS ⊢
  refine lv_aload_n hx hb d_S_beginTick_0 rfl (lv_at hl 0 rfl) ?_
  refine lv_iconst (v := nI 0) hx hb d_S_beginTick_1 (by decide) ?_
  refine lv_aload_n hx hb d_S_beginTick_2 rfl (lv_at hl 0 rfl) ?_
  refine va_get (D := D) (ci := 3) (v := .int (nI (v.1 3))) (C := R_S) (T := F_S) (N := 8) hx hb hT in_S hown hK hP 0 rfl rfl 3 (by decide) (hT _ wd_56) (fun _ h9 => h9) rfl d_S_beginTick_3 ?_
  refine lv_iload_n hx hb d_S_beginTick_6 rfl (lv_at hl 2 rfl) ?_
  refine lv_isub hx hb d_S_beginTick_7 ?_
  obtain ⟨b1, hF⟩ := ss_s hF
  obtain ⟨b2, hF⟩ := ss_s hF
  refine ln_mmax0 hx hb (hml.trans hl.1.symm) hown (hT _ wd_217) (hT _ wd_21) (hT _ wd_2) (hT _ wd_22) (by decide) (Nat.le_of_ble_eq_true rfl) (by decide) (by decide) b1 b2 d_S_beginTick_8 ?_
  refine va_put (D := D) (ci := 3) (v := .int (nI ((v.1 3) - lk))) (ty := .int) (C := R_S) (T := F_S) (N := 8) hx hb hT in_S t_S ty_S nm_S hown hK hP hD hS 0 rfl rfl 3 (by decide) (hT _ wd_56) (fun _ h9 => h9) rfl (by decide +kernel) rfl rfl (Nat.le_of_ble_eq_true rfl) d_S_beginTick_11 (fun H locs hP hD hS => ?_)
  replace hP : va_P D vwCl [(h, .inr (3, [.ref q0, .ref t0, .int (nI (v.1 2)), .int (nI ((v.1 3) - lk)), .int (nI (v.1 4)), .int (nI (v.1 5)), .int (nI (v.1 6)), .int (nI (v.1 7))])), (q0, .inr (4, [.ref q1, .ref q2, .ref q3, .int (nI (u.1 3))])), (q1, .inl (ci 0, 8, .inl (nF (u.2 0)))), (q2, .inl (ci 0, 8, .inl (nF (u.2 1)))), (q3, .inl (ci 0, 8, .inl (nF (u.2 2)))), (t0, .inr (4, [.ref t1, .ref t2, .ref t3, .int (nI (w.1 3))])), (t1, .inl (ci 0, 8, .inl (nF (w.2 0)))), (t2, .inl (ci 0, 8, .inl (nF (w.2 1)))), (t3, .inl (ci 0, 8, .inl (nF (w.2 2))))] H := hP
  replace hD : va_D A9 [(h, .inr (3, [.ref q0, .ref t0, .int (nI (v.1 2)), .int (nI ((v.1 3) - lk)), .int (nI (v.1 4)), .int (nI (v.1 5)), .int (nI (v.1 6)), .int (nI (v.1 7))])), (q0, .inr (4, [.ref q1, .ref q2, .ref q3, .int (nI (u.1 3))])), (q1, .inl (ci 0, 8, .inl (nF (u.2 0)))), (q2, .inl (ci 0, 8, .inl (nF (u.2 1)))), (q3, .inl (ci 0, 8, .inl (nF (u.2 2)))), (t0, .inr (4, [.ref t1, .ref t2, .ref t3, .int (nI (w.1 3))])), (t1, .inl (ci 0, 8, .inl (nF (w.2 0)))), (t2, .inl (ci 0, 8, .inl (nF (w.2 1)))), (t3, .inl (ci 0, 8, .inl (nF (w.2 2))))] := hD
  refine lv_aload_n hx hb d_S_beginTick_14 rfl (lv_at hl 0 rfl) ?_
  refine va_get (D := D) (ci := 3) (v := .ref t0) (C := R_S) (T := F_S) (N := 8) hx hb hT in_S hown hK hP 0 rfl rfl 1 (by decide) (hT _ wd_53) (fun _ h9 => h9) rfl d_S_beginTick_15 ?_
  refine lv_iload_n hx hb d_S_beginTick_18 rfl (lv_at hl 1 rfl) ?_
  obtain ⟨r3, g4, hF⟩ := ob_s hF
  refine ln_goi (va_runV (As := [.int (nI t)]) (rest := []) ⟨hx, hb, hml, hown, hT⟩ (cU_isFirstDueAt l D ci t0 t1 t2 t3 w t _ g4 H.size) (cw_V 1 hT wd_218 wd_4 wd_221 wd_219 wd_220 (by decide +kernel) (by decide) (by decide)) (ln_preV 5 hK hN hP rfl rfl (hP.subM [5, 6, 7, 8] rfl) (hD.sub [5, 6, 7, 8] (by decide) rfl)) rfl rfl hl.1 rfl (lv_room (Nat.le_of_ble_eq_true rfl)) d_S_beginTick_19 ⟨Nat.zero_le _, Nat.zero_le _⟩) hP hD hS hA [5, 6, 7, 8] [0, 1, 2, 3, 4] [0, 1, 2, 3, 4, 5, 6, 7, 8] rfl rfl rfl (by decide) (by decide) (wn := [(h, .inr (3, [.ref q0, .ref t0, .int (nI (v.1 2)), .int (nI ((v.1 3) - lk)), .int (nI (v.1 4)), .int (nI (v.1 5)), .int (nI (v.1 6)), .int (nI (v.1 7))])), (q0, .inr (4, [.ref q1, .ref q2, .ref q3, .int (nI (u.1 3))])), (q1, .inl (ci 0, 8, .inl (nF (u.2 0)))), (q2, .inl (ci 0, 8, .inl (nF (u.2 1)))), (q3, .inl (ci 0, 8, .inl (nF (u.2 2)))), (t0, .inr (4, [.ref t1, .ref t2, .ref t3, .int (nI (w.1 3))])), (t1, .inl (ci 0, 8, .inl (nF (w.2 0)))), (t2, .inl (ci 0, 8, .inl (nF (w.2 1)))), (t3, .inl (ci 0, 8, .inl (nF (w.2 2))))]) rfl (by decide) (fun H locs hP hD hS => ?_)
  obtain ⟨b5, hF⟩ := ss_s hF
  obtain ⟨j7, g14, hF⟩ := ob_s hF
  have k8 : ∀ (ls : Array Slot) (H : Heap) (locs : List Loc), lv_has ls 3 [(0, .ref h), (1, .int (nI t)), (2, .int (nI lk))] → va_P D vwCl [(h, .inr (3, [.ref q0, .ref t0, .int (nI (j7.1.1 2)), .int (nI (j7.1.1 3)), .int (nI (j7.1.1 4)), .int (nI (j7.1.1 5)), .int (nI (j7.1.1 6)), .int (nI (j7.1.1 7))])), (q0, .inr (4, [.ref q1, .ref q2, .ref q3, .int (nI (u.1 3))])), (q1, .inl (ci 0, 8, .inl (nF (u.2 0)))), (q2, .inl (ci 0, 8, .inl (nF (u.2 1)))), (q3, .inl (ci 0, 8, .inl (nF (u.2 2)))), (t0, .inr (4, [.ref t1, .ref t2, .ref t3, .int (nI (j7.2.1 3))])), (t1, .inl (ci 0, 8, .inl (nF (j7.2.2 0)))), (t2, .inl (ci 0, 8, .inl (nF (j7.2.2 1)))), (t3, .inl (ci 0, 8, .inl (nF (j7.2.2 2))))] H → va_D A9 [(h, .inr (3, [.ref q0, .ref t0, .int (nI (j7.1.1 2)), .int (nI (j7.1.1 3)), .int (nI (j7.1.1 4)), .int (nI (j7.1.1 5)), .int (nI (j7.1.1 6)), .int (nI (j7.1.1 7))])), (q0, .inr (4, [.ref q1, .ref q2, .ref q3, .int (nI (u.1 3))])), (q1, .inl (ci 0, 8, .inl (nF (u.2 0)))), (q2, .inl (ci 0, 8, .inl (nF (u.2 1)))), (q3, .inl (ci 0, 8, .inl (nF (u.2 2)))), (t0, .inr (4, [.ref t1, .ref t2, .ref t3, .int (nI (j7.2.1 3))])), (t1, .inl (ci 0, 8, .inl (nF (j7.2.2 0)))), (t2, .inl (ci 0, 8, .inl (nF (j7.2.2 1)))), (t3, .inl (ci 0, 8, .inl (nF (j7.2.2 2))))] → va_S A9 H0 H locs → W p9 l e9 rm_S_beginTick s9 m9 args9 be9 me9 c9 H locs 0 0 Q9 (F0 m9 48 ls []) := by
    intro ls H locs hl hP hD hS
    refine lv_aload_n hx hb d_S_beginTick_48 rfl (lv_at hl 0 rfl) ?_
    refine va_get (D := D) (ci := 3) (v := .ref q0) (C := R_S) (T := F_S) (N := 8) hx hb hT in_S hown hK hP 0 rfl rfl 0 (by decide) (hT _ wd_51) (fun _ h9 => h9) rfl d_S_beginTick_49 ?_
    refine lv_iload_n hx hb d_S_beginTick_52 rfl (lv_at hl 1 rfl) ?_
    obtain ⟨r15, g16, hF⟩ := ob_s hF
    refine ln_goi (va_runV (As := [.int (nI t)]) (rest := []) ⟨hx, hb, hml, hown, hT⟩ (cU_isFirstDueAt l D ci q0 q1 q2 q3 u t _ g16 H.size) (cw_V 1 hT wd_218 wd_4 wd_221 wd_219 wd_220 (by decide +kernel) (by decide) (by decide)) (ln_preV 1 hK hN hP rfl rfl (hP.subM [1, 2, 3, 4] rfl) (hD.sub [1, 2, 3, 4] (by decide) rfl)) rfl rfl hl.1 rfl (lv_room (Nat.le_of_ble_eq_true rfl)) d_S_beginTick_53 ⟨Nat.zero_le _, Nat.zero_le _⟩) hP hD hS hA [1, 2, 3, 4] [0, 5, 6, 7, 8] [0, 5, 6, 7, 8, 1, 2, 3, 4] rfl rfl rfl (by decide) (by decide) (wn := [(h, .inr (3, [.ref q0, .ref t0, .int (nI (j7.1.1 2)), .int (nI (j7.1.1 3)), .int (nI (j7.1.1 4)), .int (nI (j7.1.1 5)), .int (nI (j7.1.1 6)), .int (nI (j7.1.1 7))])), (q0, .inr (4, [.ref q1, .ref q2, .ref q3, .int (nI (u.1 3))])), (q1, .inl (ci 0, 8, .inl (nF (u.2 0)))), (q2, .inl (ci 0, 8, .inl (nF (u.2 1)))), (q3, .inl (ci 0, 8, .inl (nF (u.2 2)))), (t0, .inr (4, [.ref t1, .ref t2, .ref t3, .int (nI (j7.2.1 3))])), (t1, .inl (ci 0, 8, .inl (nF (j7.2.2 0)))), (t2, .inl (ci 0, 8, .inl (nF (j7.2.2 1)))), (t3, .inl (ci 0, 8, .inl (nF (j7.2.2 2))))]) rfl (by decide) (fun H locs hP hD hS => ?_)
    obtain ⟨b17, hF⟩ := ss_s hF
    refine ln_if_eq hx hb b17 86 d_S_beginTick_56 (by decide) (fun h18 => ?_) (fun h18 => ?_)
    · have hF := it_p hF h18
      obtain rfl := Option.some.inj hF
      exact kR _ _ _ _ d_S_beginTick_86 hP hD hS
    · have hF := it_n hF h18
      refine lv_aload_n hx hb d_S_beginTick_59 rfl (lv_at hl 0 rfl) ?_
      refine lv_dup hx hb d_S_beginTick_60 rfl ?_
      refine va_get (D := D) (ci := 3) (v := .int (nI (j7.1.1 4))) (C := R_S) (T := F_S) (N := 8) hx hb hT in_S hown hK hP 0 rfl rfl 4 (by decide) (hT _ wd_58) (fun _ h9 => h9) rfl d_S_beginTick_61 ?_
      refine lv_aload_n hx hb d_S_beginTick_64 rfl (lv_at hl 0 rfl) ?_
      refine va_get (D := D) (ci := 3) (v := .int (nI (j7.1.1 2))) (C := R_S) (T := F_S) (N := 8) hx hb hT in_S hown hK hP 0 rfl rfl 2 (by decide) (hT _ wd_55) (fun _ h9 => h9) rfl d_S_beginTick_65 ?_
      obtain ⟨b19, hF⟩ := ss_s hF
      refine ln_isub hx hb b19 d_S_beginTick_68 ?_
      refine va_put (D := D) (ci := 3) (v := .int (nI ((j7.1.1 4) - (j7.1.1 2)))) (ty := .int) (C := R_S) (T := F_S) (N := 8) hx hb hT in_S t_S ty_S nm_S hown hK hP hD hS 0 rfl rfl 4 (by decide) (hT _ wd_58) (fun _ h9 => h9) rfl (by decide +kernel) rfl rfl (Nat.le_of_ble_eq_true rfl) d_S_beginTick_69 (fun H locs hP hD hS => ?_)
      replace hP : va_P D vwCl [(h, .inr (3, [.ref q0, .ref t0, .int (nI (j7.1.1 2)), .int (nI (j7.1.1 3)), .int (nI ((j7.1.1 4) - (j7.1.1 2))), .int (nI (j7.1.1 5)), .int (nI (j7.1.1 6)), .int (nI (j7.1.1 7))])), (q0, .inr (4, [.ref q1, .ref q2, .ref q3, .int (nI (u.1 3))])), (q1, .inl (ci 0, 8, .inl (nF (u.2 0)))), (q2, .inl (ci 0, 8, .inl (nF (u.2 1)))), (q3, .inl (ci 0, 8, .inl (nF (u.2 2)))), (t0, .inr (4, [.ref t1, .ref t2, .ref t3, .int (nI (j7.2.1 3))])), (t1, .inl (ci 0, 8, .inl (nF (j7.2.2 0)))), (t2, .inl (ci 0, 8, .inl (nF (j7.2.2 1)))), (t3, .inl (ci 0, 8, .inl (nF (j7.2.2 2))))] H := hP
      replace hD : va_D A9 [(h, .inr (3, [.ref q0, .ref t0, .int (nI (j7.1.1 2)), .int (nI (j7.1.1 3)), .int (nI ((j7.1.1 4) - (j7.1.1 2))), .int (nI (j7.1.1 5)), .int (nI (j7.1.1 6)), .int (nI (j7.1.1 7))])), (q0, .inr (4, [.ref q1, .ref q2, .ref q3, .int (nI (u.1 3))])), (q1, .inl (ci 0, 8, .inl (nF (u.2 0)))), (q2, .inl (ci 0, 8, .inl (nF (u.2 1)))), (q3, .inl (ci 0, 8, .inl (nF (u.2 2)))), (t0, .inr (4, [.ref t1, .ref t2, .ref t3, .int (nI (j7.2.1 3))])), (t1, .inl (ci 0, 8, .inl (nF (j7.2.2 0)))), (t2, .inl (ci 0, 8, .inl (nF (j7.2.2 1)))), (t3, .inl (ci 0, 8, .inl (nF (j7.2.2 2))))] := hD
      refine lv_aload_n hx hb d_S_beginTick_72 rfl (lv_at hl 0 rfl) ?_
      refine lv_dup hx hb d_S_beginTick_73 rfl ?_
      refine va_get (D := D) (ci := 3) (v := .int (nI (j7.1.1 6))) (C := R_S) (T := F_S) (N := 8) hx hb hT in_S hown hK hP 0 rfl rfl 6 (by decide) (hT _ wd_61) (fun _ h9 => h9) rfl d_S_beginTick_74 ?_
      refine lv_iconst (v := nI 1) hx hb d_S_beginTick_77 (by decide) ?_
      refine ln_iadd hx hb d_S_beginTick_78 ?_
      refine va_put (D := D) (ci := 3) (v := .int (nI ((j7.1.1 6) + 1))) (ty := .int) (C := R_S) (T := F_S) (N := 8) hx hb hT in_S t_S ty_S nm_S hown hK hP hD hS 0 rfl rfl 6 (by decide) (hT _ wd_61) (fun _ h9 => h9) rfl (by decide +kernel) rfl rfl (Nat.le_of_ble_eq_true rfl) d_S_beginTick_79 (fun H locs hP hD hS => ?_)
      replace hP : va_P D vwCl [(h, .inr (3, [.ref q0, .ref t0, .int (nI (j7.1.1 2)), .int (nI (j7.1.1 3)), .int (nI ((j7.1.1 4) - (j7.1.1 2))), .int (nI (j7.1.1 5)), .int (nI ((j7.1.1 6) + 1)), .int (nI (j7.1.1 7))])), (q0, .inr (4, [.ref q1, .ref q2, .ref q3, .int (nI (u.1 3))])), (q1, .inl (ci 0, 8, .inl (nF (u.2 0)))), (q2, .inl (ci 0, 8, .inl (nF (u.2 1)))), (q3, .inl (ci 0, 8, .inl (nF (u.2 2)))), (t0, .inr (4, [.ref t1, .ref t2, .ref t3, .int (nI (j7.2.1 3))])), (t1, .inl (ci 0, 8, .inl (nF (j7.2.2 0)))), (t2, .inl (ci 0, 8, .inl (nF (j7.2.2 1)))), (t3, .inl (ci 0, 8, .inl (nF (j7.2.2 2))))] H := hP
      replace hD : va_D A9 [(h, .inr (3, [.ref q0, .ref t0, .int (nI (j7.1.1 2)), .int (nI (j7.1.1 3)), .int (nI ((j7.1.1 4) - (j7.1.1 2))), .int (nI (j7.1.1 5)), .int (nI ((j7.1.1 6) + 1)), .int (nI (j7.1.1 7))])), (q0, .inr (4, [.ref q1, .ref q2, .ref q3, .int (nI (u.1 3))])), (q1, .inl (ci 0, 8, .inl (nF (u.2 0)))), (q2, .inl (ci 0, 8, .inl (nF (u.2 1)))), (q3, .inl (ci 0, 8, .inl (nF (u.2 2)))), (t0, .inr (4, [.ref t1, .ref t2, .ref t3, .int (nI (j7.2.1 3))])), (t1, .inl (ci 0, 8, .inl (nF (j7.2.2 0)))), (t2, .inl (ci 0, 8, .inl (nF (j7.2.2 1)))), (t3, .inl (ci 0, 8, .inl (nF (j7.2.2 2))))] := hD
      refine lv_aload_n hx hb d_S_beginTick_82 rfl (lv_at hl 0 rfl) ?_
      obtain ⟨r20, g21, hF⟩ := ob_s hF
      refine ln_gov (va_runV (As := []) (rest := []) ⟨hx, hb, hml, hown, hT⟩ (cS_dropCurrent l D ci h q0 q1 q2 q3 t0 (sI (sI j7.1 4 ((j7.1.1 4) - (j7.1.1 2))) 6 ((j7.1.1 6) + 1)) u  _ g21 H.size) (cw_V 0 hT wd_234 wd_3 wd_237 wd_236 ws_S_dropCurrent (by decide +kernel) (by decide) (by decide)) (ln_preV 0 hK hN hP rfl rfl (hP.subM [0, 1, 2, 3, 4] rfl) (hD.sub [0, 1, 2, 3, 4] (by decide) rfl)) rfl rfl hl.1 rfl (lv_room (Nat.le_of_ble_eq_true rfl)) d_S_beginTick_83 ⟨Nat.zero_le _, Nat.zero_le _⟩) hP hD hS hA [0, 1, 2, 3, 4] [5, 6, 7, 8] [4, 5, 6, 7, 8, 0, 1, 2, 3] rfl rfl rfl (by decide) (by decide) (wn := [(h, .inr (3, [.ref q0, .ref t0, .int (nI (r20.1.1 2)), .int (nI (r20.1.1 3)), .int (nI (r20.1.1 4)), .int (nI (r20.1.1 5)), .int (nI (r20.1.1 6)), .int (nI (r20.1.1 7))])), (q0, .inr (4, [.ref q1, .ref q2, .ref q3, .int (nI (r20.2.1 3))])), (q1, .inl (ci 0, 8, .inl (nF (r20.2.2 0)))), (q2, .inl (ci 0, 8, .inl (nF (r20.2.2 1)))), (q3, .inl (ci 0, 8, .inl (nF (r20.2.2 2)))), (t0, .inr (4, [.ref t1, .ref t2, .ref t3, .int (nI (j7.2.1 3))])), (t1, .inl (ci 0, 8, .inl (nF (j7.2.2 0)))), (t2, .inl (ci 0, 8, .inl (nF (j7.2.2 1)))), (t3, .inl (ci 0, 8, .inl (nF (j7.2.2 2))))]) rfl (by decide) (fun H locs hP hD hS => ?_)
      obtain rfl := Option.some.inj hF
      exact kR _ _ _ _ d_S_beginTick_86 hP hD hS
  have hF := g14
  refine ln_if_eq hx hb b5 48 d_S_beginTick_22 (by decide) (fun h6 => ?_) (fun h6 => ?_)
  · have hF := it_p hF h6
    obtain rfl := Option.some.inj hF
    have hl := lv_sub hl [0, 1, 2] rfl
    exact k8 _ _ _ hl hP hD hS
  · have hF := it_n hF h6
    refine lv_aload_n hx hb d_S_beginTick_25 rfl (lv_at hl 0 rfl) ?_
    refine lv_dup hx hb d_S_beginTick_26 rfl ?_
    refine va_get (D := D) (ci := 3) (v := .int (nI (v.1 4))) (C := R_S) (T := F_S) (N := 8) hx hb hT in_S hown hK hP 0 rfl rfl 4 (by decide) (hT _ wd_58) (fun _ h9 => h9) rfl d_S_beginTick_27 ?_
    refine lv_aload_n hx hb d_S_beginTick_30 rfl (lv_at hl 0 rfl) ?_
    refine va_get (D := D) (ci := 3) (v := .ref t0) (C := R_S) (T := F_S) (N := 8) hx hb hT in_S hown hK hP 0 rfl rfl 1 (by decide) (hT _ wd_53) (fun _ h9 => h9) rfl d_S_beginTick_31 ?_
    obtain ⟨r9, g10, hF⟩ := ob_s hF
    refine ln_goi (va_runV (As := []) (rest := [.int (nI (v.1 4)), .ref h]) ⟨hx, hb, hml, hown, hT⟩ (cU_firstSize l D ci t0 t1 t2 t3 w  _ g10 H.size) (cw_V 0 hT wd_226 wd_4 wd_229 wd_227 wd_228 (by decide +kernel) (by decide) (by decide)) (ln_preV 5 hK hN hP rfl rfl (hP.subM [5, 6, 7, 8] rfl) (hD.sub [5, 6, 7, 8] (by decide) rfl)) rfl rfl hl.1 rfl (lv_room (Nat.le_of_ble_eq_true rfl)) d_S_beginTick_34 ⟨Nat.zero_le _, Nat.zero_le _⟩) hP hD hS hA [5, 6, 7, 8] [0, 1, 2, 3, 4] [0, 1, 2, 3, 4, 5, 6, 7, 8] rfl rfl rfl (by decide) (by decide) (wn := [(h, .inr (3, [.ref q0, .ref t0, .int (nI (v.1 2)), .int (nI ((v.1 3) - lk)), .int (nI (v.1 4)), .int (nI (v.1 5)), .int (nI (v.1 6)), .int (nI (v.1 7))])), (q0, .inr (4, [.ref q1, .ref q2, .ref q3, .int (nI (u.1 3))])), (q1, .inl (ci 0, 8, .inl (nF (u.2 0)))), (q2, .inl (ci 0, 8, .inl (nF (u.2 1)))), (q3, .inl (ci 0, 8, .inl (nF (u.2 2)))), (t0, .inr (4, [.ref t1, .ref t2, .ref t3, .int (nI (w.1 3))])), (t1, .inl (ci 0, 8, .inl (nF (w.2 0)))), (t2, .inl (ci 0, 8, .inl (nF (w.2 1)))), (t3, .inl (ci 0, 8, .inl (nF (w.2 2))))]) rfl (by decide) (fun H locs hP hD hS => ?_)
    obtain ⟨b11, hF⟩ := ss_s hF
    refine ln_isub hx hb b11 d_S_beginTick_37 ?_
    refine va_put (D := D) (ci := 3) (v := .int (nI ((v.1 4) - r9))) (ty := .int) (C := R_S) (T := F_S) (N := 8) hx hb hT in_S t_S ty_S nm_S hown hK hP hD hS 0 rfl rfl 4 (by decide) (hT _ wd_58) (fun _ h9 => h9) rfl (by decide +kernel) rfl rfl (Nat.le_of_ble_eq_true rfl) d_S_beginTick_38 (fun H locs hP hD hS => ?_)
    replace hP : va_P D vwCl [(h, .inr (3, [.ref q0, .ref t0, .int (nI (v.1 2)), .int (nI ((v.1 3) - lk)), .int (nI ((v.1 4) - r9)), .int (nI (v.1 5)), .int (nI (v.1 6)), .int (nI (v.1 7))])), (q0, .inr (4, [.ref q1, .ref q2, .ref q3, .int (nI (u.1 3))])), (q1, .inl (ci 0, 8, .inl (nF (u.2 0)))), (q2, .inl (ci 0, 8, .inl (nF (u.2 1)))), (q3, .inl (ci 0, 8, .inl (nF (u.2 2)))), (t0, .inr (4, [.ref t1, .ref t2, .ref t3, .int (nI (w.1 3))])), (t1, .inl (ci 0, 8, .inl (nF (w.2 0)))), (t2, .inl (ci 0, 8, .inl (nF (w.2 1)))), (t3, .inl (ci 0, 8, .inl (nF (w.2 2))))] H := hP
    replace hD : va_D A9 [(h, .inr (3, [.ref q0, .ref t0, .int (nI (v.1 2)), .int (nI ((v.1 3) - lk)), .int (nI ((v.1 4) - r9)), .int (nI (v.1 5)), .int (nI (v.1 6)), .int (nI (v.1 7))])), (q0, .inr (4, [.ref q1, .ref q2, .ref q3, .int (nI (u.1 3))])), (q1, .inl (ci 0, 8, .inl (nF (u.2 0)))), (q2, .inl (ci 0, 8, .inl (nF (u.2 1)))), (q3, .inl (ci 0, 8, .inl (nF (u.2 2)))), (t0, .inr (4, [.ref t1, .ref t2, .ref t3, .int (nI (w.1 3))])), (t1, .inl (ci 0, 8, .inl (nF (w.2 0)))), (t2, .inl (ci 0, 8, .inl (nF (w.2 1)))), (t3, .inl (ci 0, 8, .inl (nF (w.2 2))))] := hD
    refine lv_aload_n hx hb d_S_beginTick_41 rfl (lv_at hl 0 rfl) ?_
    refine va_get (D := D) (ci := 3) (v := .ref t0) (C := R_S) (T := F_S) (N := 8) hx hb hT in_S hown hK hP 0 rfl rfl 1 (by decide) (hT _ wd_53) (fun _ h9 => h9) rfl d_S_beginTick_42 ?_
    obtain ⟨r12, g13, hF⟩ := ob_s hF
    refine ln_gov (va_runV (As := []) (rest := []) ⟨hx, hb, hml, hown, hT⟩ (cU_dropFirst l D ci t0 t1 t2 t3 w  _ g13 H.size) (cw_V 0 hT wd_230 wd_4 wd_233 wd_231 wd_232 (by decide +kernel) (by decide) (by decide)) (ln_preV 5 hK hN hP rfl rfl (hP.subM [5, 6, 7, 8] rfl) (hD.sub [5, 6, 7, 8] (by decide) rfl)) rfl rfl hl.1 rfl (lv_room (Nat.le_of_ble_eq_true rfl)) d_S_beginTick_45 ⟨Nat.zero_le _, Nat.zero_le _⟩) hP hD hS hA [5, 6, 7, 8] [0, 1, 2, 3, 4] [0, 1, 2, 3, 4, 5, 6, 7, 8] rfl rfl rfl (by decide) (by decide) (wn := [(h, .inr (3, [.ref q0, .ref t0, .int (nI (v.1 2)), .int (nI ((v.1 3) - lk)), .int (nI ((v.1 4) - r9)), .int (nI (v.1 5)), .int (nI (v.1 6)), .int (nI (v.1 7))])), (q0, .inr (4, [.ref q1, .ref q2, .ref q3, .int (nI (u.1 3))])), (q1, .inl (ci 0, 8, .inl (nF (u.2 0)))), (q2, .inl (ci 0, 8, .inl (nF (u.2 1)))), (q3, .inl (ci 0, 8, .inl (nF (u.2 2)))), (t0, .inr (4, [.ref t1, .ref t2, .ref t3, .int (nI (r12.1 3))])), (t1, .inl (ci 0, 8, .inl (nF (r12.2 0)))), (t2, .inl (ci 0, 8, .inl (nF (r12.2 1)))), (t3, .inl (ci 0, 8, .inl (nF (r12.2 2))))]) rfl (by decide) (fun H locs hP hD hS => ?_)
    obtain rfl := Option.some.inj hF
    have hl := lv_sub hl [0, 1, 2] rfl
    exact k8 _ _ _ hl hP hD hS
def fS_sendBytes_L2 (v : ST) (u : ST) (n : Nat) : Nat → Nat → ST → Option (Nat × ST)
  | 0, _, _ => none
  | fu + 1, i1, u2 => ss (i1 < 2147483648) (ss (n < 2147483648) ((if n ≤ i1 then some (i1, u2) else ob (fU_firstSeed u) (fun r9 => ob (fP_put u2 (r9 + (7 * ((v.1 2) + i1)))) (fun r11 => fS_sendBytes_L2 v u n fu (i1 + 1) r11)))))
def fS_sendBytes (v : ST) (u : ST) (w : ST) (k : ST) (n : Nat) : Option (ST × ST × ST × ST) := ob (fS_sendBytes_L2 v u n 100 0 k) (fun o3 => ob (fU_firstSize u) (fun r15 => ss (((v.1 2) + n) < 2147483648) (ss (r15 < 2147483648) ((if ((v.1 2) + n) < r15 then some (sI (sI (sI v 2 ((v.1 2) + n)) 3 ((v.1 3) + n)) 4 ((v.1 4) + n), u, w, o3.2) else ob (fU_firstSize u) (fun r20 => ob (fU_firstDue u) (fun r22 => ob (fU_firstSeed u) (fun r24 => ob (fU_append w r20 r22 r24) (fun r26 => ob (fS_dropCurrent (sI (sI (sI v 2 ((v.1 2) + n)) 3 ((v.1 3) + n)) 4 ((v.1 4) + n)) u) (fun r28 => some (r28.1, r28.2, r26, o3.2)))))))))))
abbrev rm_S_sendBytes : Room := { frames := 3, cells := 0, slots := 0, locals := 61 }
set_option maxHeartbeats 4000000 in
set_option maxRecDepth 100000 in
theorem cS_sendBytes (l : Launch) (D : va_G) (ci : Nat → ClassId) (h : Nat) (q0 : Nat) (q1 : Nat) (q2 : Nat) (q3 : Nat) (t0 : Nat) (t1 : Nat) (t2 : Nat) (t3 : Nat) (hp : Nat) (bp : Nat) (v : ST) (u : ST) (w : ST) (k : ST) (n : Nat) (o : ST × ST × ST × ST) (hF : fS_sendBytes v u w k n = some o) : CtV l y_S_sendBytes w_S_sendBytes rm_S_sendBytes D vwCl (tyC ci) [.ref h, .int (nI n), .ref hp] [(h, .inr (3, [.ref q0, .ref t0, .int (nI (v.1 2)), .int (nI (v.1 3)), .int (nI (v.1 4)), .int (nI (v.1 5)), .int (nI (v.1 6)), .int (nI (v.1 7))])), (q0, .inr (4, [.ref q1, .ref q2, .ref q3, .int (nI (u.1 3))])), (q1, .inl (ci 0, 8, .inl (nF (u.2 0)))), (q2, .inl (ci 0, 8, .inl (nF (u.2 1)))), (q3, .inl (ci 0, 8, .inl (nF (u.2 2)))), (t0, .inr (4, [.ref t1, .ref t2, .ref t3, .int (nI (w.1 3))])), (t1, .inl (ci 0, 8, .inl (nF (w.2 0)))), (t2, .inl (ci 0, 8, .inl (nF (w.2 1)))), (t3, .inl (ci 0, 8, .inl (nF (w.2 2)))), (hp, .inr (1, [.ref bp, .int (nI (k.1 1))])), (bp, .inl (ci 0, 16, .inl (nF (k.2 0))))] [(h, .inr (3, [.ref q0, .ref t0, .int (nI (o.1.1 2)), .int (nI (o.1.1 3)), .int (nI (o.1.1 4)), .int (nI (o.1.1 5)), .int (nI (o.1.1 6)), .int (nI (o.1.1 7))])), (q0, .inr (4, [.ref q1, .ref q2, .ref q3, .int (nI (o.2.1.1 3))])), (q1, .inl (ci 0, 8, .inl (nF (o.2.1.2 0)))), (q2, .inl (ci 0, 8, .inl (nF (o.2.1.2 1)))), (q3, .inl (ci 0, 8, .inl (nF (o.2.1.2 2)))), (t0, .inr (4, [.ref t1, .ref t2, .ref t3, .int (nI (o.2.2.1.1 3))])), (t1, .inl (ci 0, 8, .inl (nF (o.2.2.1.2 0)))), (t2, .inl (ci 0, 8, .inl (nF (o.2.2.1.2 1)))), (t3, .inl (ci 0, 8, .inl (nF (o.2.2.1.2 2)))), (hp, .inr (1, [.ref bp, .int (nI (o.2.2.2.1 1))])), (bp, .inl (ci 0, 16, .inl (nF (o.2.2.2.2 0))))] := by
  refine ct_v (cc := b_S_sendBytes) (maxL := 4) (plainFor_of_name (by decide)) rfl (Nat.le_of_ble_eq_true rfl) (fun p9 e9 s9 m9 args9 be9 me9 c9 A9 Q9 ls H0 hx hb hml hts hown hK hN hl hP hD hS hA kR => ?_)
  replace hl : lv_has ls 4 [(0, .ref h), (1, .int (nI n)), (2, .ref hp)] := hl
  replace hP : va_P D vwCl [(h, .inr (3, [.ref q0, .ref t0, .int (nI (v.1 2)), .int (nI (v.1 3)), .int (nI (v.1 4)), .int (nI (v.1 5)), .int (nI (v.1 6)), .int (nI (v.1 7))])), (q0, .inr (4, [.ref q1, .ref q2, .ref q3, .int (nI (u.1 3))])), (q1, .inl (ci 0, 8, .inl (nF (u.2 0)))), (q2, .inl (ci 0, 8, .inl (nF (u.2 1)))), (q3, .inl (ci 0, 8, .inl (nF (u.2 2)))), (t0, .inr (4, [.ref t1, .ref t2, .ref t3, .int (nI (w.1 3))])), (t1, .inl (ci 0, 8, .inl (nF (w.2 0)))), (t2, .inl (ci 0, 8, .inl (nF (w.2 1)))), (t3, .inl (ci 0, 8, .inl (nF (w.2 2)))), (hp, .inr (1, [.ref bp, .int (nI (k.1 1))])), (bp, .inl (ci 0, 16, .inl (nF (k.2 0))))] H0 := hP
  replace hD : va_D A9 [(h, .inr (3, [.ref q0, .ref t0, .int (nI (v.1 2)), .int (nI (v.1 3)), .int (nI (v.1 4)), .int (nI (v.1 5)), .int (nI (v.1 6)), .int (nI (v.1 7))])), (q0, .inr (4, [.ref q1, .ref q2, .ref q3, .int (nI (u.1 3))])), (q1, .inl (ci 0, 8, .inl (nF (u.2 0)))), (q2, .inl (ci 0, 8, .inl (nF (u.2 1)))), (q3, .inl (ci 0, 8, .inl (nF (u.2 2)))), (t0, .inr (4, [.ref t1, .ref t2, .ref t3, .int (nI (w.1 3))])), (t1, .inl (ci 0, 8, .inl (nF (w.2 0)))), (t2, .inl (ci 0, 8, .inl (nF (w.2 1)))), (t3, .inl (ci 0, 8, .inl (nF (w.2 2)))), (hp, .inr (1, [.ref bp, .int (nI (k.1 1))])), (bp, .inl (ci 0, 16, .inl (nF (k.2 0))))] := hD
  replace hown : s9.vm.findClass R_S = some m9.cls := hown
  have hT : ∀ w ∈ lw_ok, w.before args9 s9 = true := fun w h => hts w (List.mem_cons_of_mem _ h)
  rw [fS_sendBytes] at hF
  generalize hH : H0 = H at hP ⊢
  replace hS : va_S A9 H0 H [] := by rw [← hH]; exact hS
  clear hH
  generalize ([] : List Loc) = locs at hS ⊢
  refine lv_iconst (v := nI 0) hx hb d_S_sendBytes_0 (by decide) ?_
  refine lv_istore_n hx hb d_S_sendBytes_1 rfl hl (by decide) rfl (fun ls hl => ?_)
  replace hl : lv_has ls 4 [(3, .int (nI 0)), (0, .ref h), (1, .int (nI n)), (2, .ref hp)] := hl
  have L13 : ∀ (fu : Nat) (i1 : Nat) (u2 : ST) (o3 : Nat × ST) (ls : Array Slot) (H : Heap) (locs : List Loc), fS_sendBytes_L2 v u n fu i1 u2 = some o3 → lv_has ls 4 [(0, .ref h), (1, .int (nI n)), (2, .ref hp), (3, .int (nI i1))] → va_P D vwCl [(h, .inr (3, [.ref q0, .ref t0, .int (nI (v.1 2)), .int (nI (v.1 3)), .int (nI (v.1 4)), .int (nI (v.1 5)), .int (nI (v.1 6)), .int (nI (v.1 7))])), (q0, .inr (4, [.ref q1, .ref q2, .ref q3, .int (nI (u.1 3))])), (q1, .inl (ci 0, 8, .inl (nF (u.2 0)))), (q2, .inl (ci 0, 8, .inl (nF (u.2 1)))), (q3, .inl (ci 0, 8, .inl (nF (u.2 2)))), (t0, .inr (4, [.ref t1, .ref t2, .ref t3, .int (nI (w.1 3))])), (t1, .inl (ci 0, 8, .inl (nF (w.2 0)))), (t2, .inl (ci 0, 8, .inl (nF (w.2 1)))), (t3, .inl (ci 0, 8, .inl (nF (w.2 2)))), (hp, .inr (1, [.ref bp, .int (nI (u2.1 1))])), (bp, .inl (ci 0, 16, .inl (nF (u2.2 0))))] H → va_D A9 [(h, .inr (3, [.ref q0, .ref t0, .int (nI (v.1 2)), .int (nI (v.1 3)), .int (nI (v.1 4)), .int (nI (v.1 5)), .int (nI (v.1 6)), .int (nI (v.1 7))])), (q0, .inr (4, [.ref q1, .ref q2, .ref q3, .int (nI (u.1 3))])), (q1, .inl (ci 0, 8, .inl (nF (u.2 0)))), (q2, .inl (ci 0, 8, .inl (nF (u.2 1)))), (q3, .inl (ci 0, 8, .inl (nF (u.2 2)))), (t0, .inr (4, [.ref t1, .ref t2, .ref t3, .int (nI (w.1 3))])), (t1, .inl (ci 0, 8, .inl (nF (w.2 0)))), (t2, .inl (ci 0, 8, .inl (nF (w.2 1)))), (t3, .inl (ci 0, 8, .inl (nF (w.2 2)))), (hp, .inr (1, [.ref bp, .int (nI (u2.1 1))])), (bp, .inl (ci 0, 16, .inl (nF (u2.2 0))))] → va_S A9 H0 H locs → (∀ (ls : Array Slot) (H : Heap) (locs : List Loc), lv_has ls 4 [(0, .ref h), (1, .int (nI n)), (2, .ref hp), (3, .int (nI o3.1))] → va_P D vwCl [(h, .inr (3, [.ref q0, .ref t0, .int (nI (v.1 2)), .int (nI (v.1 3)), .int (nI (v.1 4)), .int (nI (v.1 5)), .int (nI (v.1 6)), .int (nI (v.1 7))])), (q0, .inr (4, [.ref q1, .ref q2, .ref q3, .int (nI (u.1 3))])), (q1, .inl (ci 0, 8, .inl (nF (u.2 0)))), (q2, .inl (ci 0, 8, .inl (nF (u.2 1)))), (q3, .inl (ci 0, 8, .inl (nF (u.2 2)))), (t0, .inr (4, [.ref t1, .ref t2, .ref t3, .int (nI (w.1 3))])), (t1, .inl (ci 0, 8, .inl (nF (w.2 0)))), (t2, .inl (ci 0, 8, .inl (nF (w.2 1)))), (t3, .inl (ci 0, 8, .inl (nF (w.2 2)))), (hp, .inr (1, [.ref bp, .int (nI (o3.2.1 1))])), (bp, .inl (ci 0, 16, .inl (nF (o3.2.2 0))))] H → va_D A9 [(h, .inr (3, [.ref q0, .ref t0, .int (nI (v.1 2)), .int (nI (v.1 3)), .int (nI (v.1 4)), .int (nI (v.1 5)), .int (nI (v.1 6)), .int (nI (v.1 7))])), (q0, .inr (4, [.ref q1, .ref q2, .ref q3, .int (nI (u.1 3))])), (q1, .inl (ci 0, 8, .inl (nF (u.2 0)))), (q2, .inl (ci 0, 8, .inl (nF (u.2 1)))), (q3, .inl (ci 0, 8, .inl (nF (u.2 2)))), (t0, .inr (4, [.ref t1, .ref t2, .ref t3, .int (nI (w.1 3))])), (t1, .inl (ci 0, 8, .inl (nF (w.2 0)))), (t2, .inl (ci 0, 8, .inl (nF (w.2 1)))), (t3, .inl (ci 0, 8, .inl (nF (w.2 2)))), (hp, .inr (1, [.ref bp, .int (nI (o3.2.1 1))])), (bp, .inl (ci 0, 16, .inl (nF (o3.2.2 0))))] → va_S A9 H0 H locs → W p9 l e9 rm_S_sendBytes s9 m9 args9 be9 me9 c9 H locs 0 0 Q9 (F0 m9 34 ls [])) → W p9 l e9 rm_S_sendBytes s9 m9 args9 be9 me9 c9 H locs 0 0 Q9 (F0 m9 2 ls []) := by
    intro fu
    induction fu with
    | zero => intro i1 u2 o3 ls H locs hF; rw [fS_sendBytes_L2] at hF; cases hF
    | succ fu ih4 =>
      intro i1 u2 o3 ls H locs hF hl hP hD hS k5
      rw [fS_sendBytes_L2] at hF
      refine lv_iload_n hx hb d_S_sendBytes_2 rfl (lv_at hl 3 rfl) ?_
      refine lv_iload_n hx hb d_S_sendBytes_3 rfl (lv_at hl 1 rfl) ?_
      obtain ⟨b6, hF⟩ := ss_s hF
      obtain ⟨b7, hF⟩ := ss_s hF
      refine ln_icmp_ge hx hb b6 b7 34 d_S_sendBytes_4 (by decide) (fun h8 => ?_) (fun h8 => ?_)
      · have hF := it_p hF h8
        obtain rfl := Option.some.inj hF
        have hl := lv_sub hl [0, 1, 2, 3] rfl
        exact k5 _ _ _ hl hP hD hS
      · have hF := it_n hF h8
        refine lv_aload_n hx hb d_S_sendBytes_7 rfl (lv_at hl 2 rfl) ?_
        refine lv_aload_n hx hb d_S_sendBytes_8 rfl (lv_at hl 0 rfl) ?_
        refine va_get (D := D) (ci := 3) (v := .ref q0) (C := R_S) (T := F_S) (N := 8) hx hb hT in_S hown hK hP 0 rfl rfl 0 (by decide) (hT _ wd_51) (fun _ h9 => h9) rfl d_S_sendBytes_9 ?_
        obtain ⟨r9, g10, hF⟩ := ob_s hF
        refine ln_goi (va_runV (As := []) (rest := [.ref hp]) ⟨hx, hb, hml, hown, hT⟩ (cU_firstSeed l D ci q0 q1 q2 q3 u  _ g10 H.size) (cw_V 0 hT wd_293 wd_4 wd_296 wd_294 wd_295 (by decide +kernel) (by decide) (by decide)) (ln_preV 1 hK hN hP rfl rfl (hP.subM [1, 2, 3, 4] rfl) (hD.sub [1, 2, 3, 4] (by decide) rfl)) rfl rfl hl.1 rfl (lv_room (Nat.le_of_ble_eq_true rfl)) d_S_sendBytes_12 ⟨Nat.zero_le _, Nat.zero_le _⟩) hP hD hS hA [1, 2, 3, 4] [0, 5, 6, 7, 8, 9, 10] [0, 7, 8, 9, 10, 1, 2, 3, 4, 5, 6] rfl rfl rfl (by decide) (by decide) (wn := [(h, .inr (3, [.ref q0, .ref t0, .int (nI (v.1 2)), .int (nI (v.1 3)), .int (nI (v.1 4)), .int (nI (v.1 5)), .int (nI (v.1 6)), .int (nI (v.1 7))])), (q0, .inr (4, [.ref q1, .ref q2, .ref q3, .int (nI (u.1 3))])), (q1, .inl (ci 0, 8, .inl (nF (u.2 0)))), (q2, .inl (ci 0, 8, .inl (nF (u.2 1)))), (q3, .inl (ci 0, 8, .inl (nF (u.2 2)))), (t0, .inr (4, [.ref t1, .ref t2, .ref t3, .int (nI (w.1 3))])), (t1, .inl (ci 0, 8, .inl (nF (w.2 0)))), (t2, .inl (ci 0, 8, .inl (nF (w.2 1)))), (t3, .inl (ci 0, 8, .inl (nF (w.2 2)))), (hp, .inr (1, [.ref bp, .int (nI (u2.1 1))])), (bp, .inl (ci 0, 16, .inl (nF (u2.2 0))))]) rfl (by decide) (fun H locs hP hD hS => ?_)
        refine lv_bipush (v := nI 7) hx hb d_S_sendBytes_15 (by decide) ?_
        refine lv_aload_n hx hb d_S_sendBytes_17 rfl (lv_at hl 0 rfl) ?_
        refine va_get (D := D) (ci := 3) (v := .int (nI (v.1 2))) (C := R_S) (T := F_S) (N := 8) hx hb hT in_S hown hK hP 0 rfl rfl 2 (by decide) (hT _ wd_55) (fun _ h9 => h9) rfl d_S_sendBytes_18 ?_
        refine lv_iload_n hx hb d_S_sendBytes_21 rfl (lv_at hl 3 rfl) ?_
        refine ln_iadd hx hb d_S_sendBytes_22 ?_
        refine ln_imul hx hb d_S_sendBytes_23 ?_
        refine ln_iadd hx hb d_S_sendBytes_24 ?_
        obtain ⟨r11, g12, hF⟩ := ob_s hF
        refine ln_gov (va_runV (As := [.int (nI (r9 + (7 * ((v.1 2) + i1))))]) (rest := []) ⟨hx, hb, hml, hown, hT⟩ (cP_put l D ci hp bp u2 (r9 + (7 * ((v.1 2) + i1))) _ g12 H.size) (cw_V 1 hT wd_297 wd_7 wd_281 wd_279 wd_280 (by decide +kernel) (by decide) (by decide)) (ln_preV 9 hK hN hP rfl rfl (hP.subM [9, 10] rfl) (hD.sub [9, 10] (by decide) rfl)) rfl rfl hl.1 rfl (lv_room (Nat.le_of_ble_eq_true rfl)) d_S_sendBytes_25 ⟨Nat.zero_le _, Nat.zero_le _⟩) hP hD hS hA [9, 10] [0, 1, 2, 3, 4, 5, 6, 7, 8] [0, 1, 2, 3, 4, 5, 6, 7, 8, 9, 10] rfl rfl rfl (by decide) (by decide) (wn := [(h, .inr (3, [.ref q0, .ref t0, .int (nI (v.1 2)), .int (nI (v.1 3)), .int (nI (v.1 4)), .int (nI (v.1 5)), .int (nI (v.1 6)), .int (nI (v.1 7))])), (q0, .inr (4, [.ref q1, .ref q2, .ref q3, .int (nI (u.1 3))])), (q1, .inl (ci 0, 8, .inl (nF (u.2 0)))), (q2, .inl (ci 0, 8, .inl (nF (u.2 1)))), (q3, .inl (ci 0, 8, .inl (nF (u.2 2)))), (t0, .inr (4, [.ref t1, .ref t2, .ref t3, .int (nI (w.1 3))])), (t1, .inl (ci 0, 8, .inl (nF (w.2 0)))), (t2, .inl (ci 0, 8, .inl (nF (w.2 1)))), (t3, .inl (ci 0, 8, .inl (nF (w.2 2)))), (hp, .inr (1, [.ref bp, .int (nI (r11.1 1))])), (bp, .inl (ci 0, 16, .inl (nF (r11.2 0))))]) rfl (by decide) (fun H locs hP hD hS => ?_)
        refine ln_iinc (k := 3) (y := i1 + 1) hx hb d_S_sendBytes_28 hl rfl (nI_inc _) (by decide) rfl (fun ls hl => ?_)
        replace hl : lv_has ls 4 [(3, .int (nI (i1 + 1))), (0, .ref h), (1, .int (nI n)), (2, .ref hp)] := hl
        refine lv_goto (tgt := 2) hx hb d_S_sendBytes_31 (by decide) ?_
        have hl := lv_sub hl [1, 2, 3, 0] rfl
        exact ih4 _ _ _ _ _ _ hF hl hP hD hS k5
  obtain ⟨o3, g14, hF⟩ := ob_s hF
  have hl := lv_sub hl [1, 2, 3, 0] rfl
  refine L13 _ _ _ _ _ _ _ g14 hl hP hD hS (fun ls H locs hl hP hD hS => ?_)
  refine lv_aload_n hx hb d_S_sendBytes_34 rfl (lv_at hl 0 rfl) ?_
  refine lv_dup hx hb d_S_sendBytes_35 rfl ?_
  refine va_get (D := D) (ci := 3) (v := .int (nI (v.1 2))) (C := R_S) (T := F_S) (N := 8) hx hb hT in_S hown hK hP 0 rfl rfl 2 (by decide) (hT _ wd_55) (fun _ h9 => h9) rfl d_S_sendBytes_36 ?_
  refine lv_iload_n hx hb d_S_sendBytes_39 rfl (lv_at hl 1 rfl) ?_
  refine ln_iadd hx hb d_S_sendBytes_40 ?_
  refine va_put (D := D) (ci := 3) (v := .int (nI ((v.1 2) + n))) (ty := .int) (C := R_S) (T := F_S) (N := 8) hx hb hT in_S t_S ty_S nm_S hown hK hP hD hS 0 rfl rfl 2 (by decide) (hT _ wd_55) (fun _ h9 => h9) rfl (by decide +kernel) rfl rfl (Nat.le_of_ble_eq_true rfl) d_S_sendBytes_41 (fun H locs hP hD hS => ?_)
  replace hP : va_P D vwCl [(h, .inr (3, [.ref q0, .ref t0, .int (nI ((v.1 2) + n)), .int (nI (v.1 3)), .int (nI (v.1 4)), .int (nI (v.1 5)), .int (nI (v.1 6)), .int (nI (v.1 7))])), (q0, .inr (4, [.ref q1, .ref q2, .ref q3, .int (nI (u.1 3))])), (q1, .inl (ci 0, 8, .inl (nF (u.2 0)))), (q2, .inl (ci 0, 8, .inl (nF (u.2 1)))), (q3, .inl (ci 0, 8, .inl (nF (u.2 2)))), (t0, .inr (4, [.ref t1, .ref t2, .ref t3, .int (nI (w.1 3))])), (t1, .inl (ci 0, 8, .inl (nF (w.2 0)))), (t2, .inl (ci 0, 8, .inl (nF (w.2 1)))), (t3, .inl (ci 0, 8, .inl (nF (w.2 2)))), (hp, .inr (1, [.ref bp, .int (nI (o3.2.1 1))])), (bp, .inl (ci 0, 16, .inl (nF (o3.2.2 0))))] H := hP
  replace hD : va_D A9 [(h, .inr (3, [.ref q0, .ref t0, .int (nI ((v.1 2) + n)), .int (nI (v.1 3)), .int (nI (v.1 4)), .int (nI (v.1 5)), .int (nI (v.1 6)), .int (nI (v.1 7))])), (q0, .inr (4, [.ref q1, .ref q2, .ref q3, .int (nI (u.1 3))])), (q1, .inl (ci 0, 8, .inl (nF (u.2 0)))), (q2, .inl (ci 0, 8, .inl (nF (u.2 1)))), (q3, .inl (ci 0, 8, .inl (nF (u.2 2)))), (t0, .inr (4, [.ref t1, .ref t2, .ref t3, .int (nI (w.1 3))])), (t1, .inl (ci 0, 8, .inl (nF (w.2 0)))), (t2, .inl (ci 0, 8, .inl (nF (w.2 1)))), (t3, .inl (ci 0, 8, .inl (nF (w.2 2)))), (hp, .inr (1, [.ref bp, .int (nI (o3.2.1 1))])), (bp, .inl (ci 0, 16, .inl (nF (o3.2.2 0))))] := hD
  refine lv_aload_n hx hb d_S_sendBytes_44 rfl (lv_at hl 0 rfl) ?_
  refine lv_dup hx hb d_S_sendBytes_45 rfl ?_
  refine va_get (D := D) (ci := 3) (v := .int (nI (v.1 3))) (C := R_S) (T := F_S) (N := 8) hx hb hT in_S hown hK hP 0 rfl rfl 3 (by decide) (hT _ wd_56) (fun _ h9 => h9) rfl d_S_sendBytes_46 ?_
  refine lv_iload_n hx hb d_S_sendBytes_49 rfl (lv_at hl 1 rfl) ?_
  refine ln_iadd hx hb d_S_sendBytes_50 ?_
  refine va_put (D := D) (ci := 3) (v := .int (nI ((v.1 3) + n))) (ty := .int) (C := R_S) (T := F_S) (N := 8) hx hb hT in_S t_S ty_S nm_S hown hK hP hD hS 0 rfl rfl 3 (by decide) (hT _ wd_56) (fun _ h9 => h9) rfl (by decide +kernel) rfl rfl (Nat.le_of_ble_eq_true rfl) d_S_sendBytes_51 (fun H locs hP hD hS => ?_)
  replace hP : va_P D vwCl [(h, .inr (3, [.ref q0, .ref t0, .int (nI ((v.1 2) + n)), .int (nI ((v.1 3) + n)), .int (nI (v.1 4)), .int (nI (v.1 5)), .int (nI (v.1 6)), .int (nI (v.1 7))])), (q0, .inr (4, [.ref q1, .ref q2, .ref q3, .int (nI (u.1 3))])), (q1, .inl (ci 0, 8, .inl (nF (u.2 0)))), (q2, .inl (ci 0, 8, .inl (nF (u.2 1)))), (q3, .inl (ci 0, 8, .inl (nF (u.2 2)))), (t0, .inr (4, [.ref t1, .ref t2, .ref t3, .int (nI (w.1 3))])), (t1, .inl (ci 0, 8, .inl (nF (w.2 0)))), (t2, .inl (ci 0, 8, .inl (nF (w.2 1)))), (t3, .inl (ci 0, 8, .inl (nF (w.2 2)))), (hp, .inr (1, [.ref bp, .int (nI (o3.2.1 1))])), (bp, .inl (ci 0, 16, .inl (nF (o3.2.2 0))))] H := hP
  replace hD : va_D A9 [(h, .inr (3, [.ref q0, .ref t0, .int (nI ((v.1 2) + n)), .int (nI ((v.1 3) + n)), .int (nI (v.1 4)), .int (nI (v.1 5)), .int (nI (v.1 6)), .int (nI (v.1 7))])), (q0, .inr (4, [.ref q1, .ref q2, .ref q3, .int (nI (u.1 3))])), (q1, .inl (ci 0, 8, .inl (nF (u.2 0)))), (q2, .inl (ci 0, 8, .inl (nF (u.2 1)))), (q3, .inl (ci 0, 8, .inl (nF (u.2 2)))), (t0, .inr (4, [.ref t1, .ref t2, .ref t3, .int (nI (w.1 3))])), (t1, .inl (ci 0, 8, .inl (nF (w.2 0)))), (t2, .inl (ci 0, 8, .inl (nF (w.2 1)))), (t3, .inl (ci 0, 8, .inl (nF (w.2 2)))), (hp, .inr (1, [.ref bp, .int (nI (o3.2.1 1))])), (bp, .inl (ci 0, 16, .inl (nF (o3.2.2 0))))] := hD
  refine lv_aload_n hx hb d_S_sendBytes_54 rfl (lv_at hl 0 rfl) ?_
  refine lv_dup hx hb d_S_sendBytes_55 rfl ?_
  refine va_get (D := D) (ci := 3) (v := .int (nI (v.1 4))) (C := R_S) (T := F_S) (N := 8) hx hb hT in_S hown hK hP 0 rfl rfl 4 (by decide) (hT _ wd_58) (fun _ h9 => h9) rfl d_S_sendBytes_56 ?_
  refine lv_iload_n hx hb d_S_sendBytes_59 rfl (lv_at hl 1 rfl) ?_
  refine ln_iadd hx hb d_S_sendBytes_60 ?_
  refine va_put (D := D) (ci := 3) (v := .int (nI ((v.1 4) + n))) (ty := .int) (C := R_S) (T := F_S) (N := 8) hx hb hT in_S t_S ty_S nm_S hown hK hP hD hS 0 rfl rfl 4 (by decide) (hT _ wd_58) (fun _ h9 => h9) rfl (by decide +kernel) rfl rfl (Nat.le_of_ble_eq_true rfl) d_S_sendBytes_61 (fun H locs hP hD hS => ?_)
  replace hP : va_P D vwCl [(h, .inr (3, [.ref q0, .ref t0, .int (nI ((v.1 2) + n)), .int (nI ((v.1 3) + n)), .int (nI ((v.1 4) + n)), .int (nI (v.1 5)), .int (nI (v.1 6)), .int (nI (v.1 7))])), (q0, .inr (4, [.ref q1, .ref q2, .ref q3, .int (nI (u.1 3))])), (q1, .inl (ci 0, 8, .inl (nF (u.2 0)))), (q2, .inl (ci 0, 8, .inl (nF (u.2 1)))), (q3, .inl (ci 0, 8, .inl (nF (u.2 2)))), (t0, .inr (4, [.ref t1, .ref t2, .ref t3, .int (nI (w.1 3))])), (t1, .inl (ci 0, 8, .inl (nF (w.2 0)))), (t2, .inl (ci 0, 8, .inl (nF (w.2 1)))), (t3, .inl (ci 0, 8, .inl (nF (w.2 2)))), (hp, .inr (1, [.ref bp, .int (nI (o3.2.1 1))])), (bp, .inl (ci 0, 16, .inl (nF (o3.2.2 0))))] H := hP
  replace hD : va_D A9 [(h, .inr (3, [.ref q0, .ref t0, .int (nI ((v.1 2) + n)), .int (nI ((v.1 3) + n)), .int (nI ((v.1 4) + n)), .int (nI (v.1 5)), .int (nI (v.1 6)), .int (nI (v.1 7))])), (q0, .inr (4, [.ref q1, .ref q2, .ref q3, .int (nI (u.1 3))])), (q1, .inl (ci 0, 8, .inl (nF (u.2 0)))), (q2, .inl (ci 0, 8, .inl (nF (u.2 1)))), (q3, .inl (ci 0, 8, .inl (nF (u.2 2)))), (t0, .inr (4, [.ref t1, .ref t2, .ref t3, .int (nI (w.1 3))])), (t1, .inl (ci 0, 8, .inl (nF (w.2 0)))), (t2, .inl (ci 0, 8, .inl (nF (w.2 1)))), (t3, .inl (ci 0, 8, .inl (nF (w.2 2)))), (hp, .inr (1, [.ref bp, .int (nI (o3.2.1 1))])), (bp, .inl (ci 0, 16, .inl (nF (o3.2.2 0))))] := hD
  refine lv_aload_n hx hb d_S_sendBytes_64 rfl (lv_at hl 0 rfl) ?_
  refine va_get (D := D) (ci := 3) (v := .int (nI ((v.1 2) + n))) (C := R_S) (T := F_S) (N := 8) hx hb hT in_S hown hK hP 0 rfl rfl 2 (by decide) (hT _ wd_55) (fun _ h9 => h9) rfl d_S_sendBytes_65 ?_
  refine lv_aload_n hx hb d_S_sendBytes_68 rfl (lv_at hl 0 rfl) ?_
  refine va_get (D := D) (ci := 3) (v := .ref q0) (C := R_S) (T := F_S) (N := 8) hx hb hT in_S hown hK hP 0 rfl rfl 0 (by decide) (hT _ wd_51) (fun _ h9 => h9) rfl d_S_sendBytes_69 ?_
  obtain ⟨r15, g16, hF⟩ := ob_s hF
  refine ln_goi (va_runV (As := []) (rest := [.int (nI ((v.1 2) + n))]) ⟨hx, hb, hml, hown, hT⟩ (cU_firstSize l D ci q0 q1 q2 q3 u  _ g16 H.size) (cw_V 0 hT wd_226 wd_4 wd_229 wd_227 wd_228 (by decide +kernel) (by decide) (by decide)) (ln_preV 1 hK hN hP rfl rfl (hP.subM [1, 2, 3, 4] rfl) (hD.sub [1, 2, 3, 4] (by decide) rfl)) rfl rfl hl.1 rfl (lv_room (Nat.le_of_ble_eq_true rfl)) d_S_sendBytes_72 ⟨Nat.zero_le _, Nat.zero_le _⟩) hP hD hS hA [1, 2, 3, 4] [0, 5, 6, 7, 8, 9, 10] [0, 7, 8, 9, 10, 1, 2, 3, 4, 5, 6] rfl rfl rfl (by decide) (by decide) (wn := [(h, .inr (3, [.ref q0, .ref t0, .int (nI ((v.1 2) + n)), .int (nI ((v.1 3) + n)), .int (nI ((v.1 4) + n)), .int (nI (v.1 5)), .int (nI (v.1 6)), .int (nI (v.1 7))])), (q0, .inr (4, [.ref q1, .ref q2, .ref q3, .int (nI (u.1 3))])), (q1, .inl (ci 0, 8, .inl (nF (u.2 0)))), (q2, .inl (ci 0, 8, .inl (nF (u.2 1)))), (q3, .inl (ci 0, 8, .inl (nF (u.2 2)))), (t0, .inr (4, [.ref t1, .ref t2, .ref t3, .int (nI (w.1 3))])), (t1, .inl (ci 0, 8, .inl (nF (w.2 0)))), (t2, .inl (ci 0, 8, .inl (nF (w.2 1)))), (t3, .inl (ci 0, 8, .inl (nF (w.2 2)))), (hp, .inr (1, [.ref bp, .int (nI (o3.2.1 1))])), (bp, .inl (ci 0, 16, .inl (nF (o3.2.2 0))))]) rfl (by decide) (fun H locs hP hD hS => ?_)
  obtain ⟨b17, hF⟩ := ss_s hF
  obtain ⟨b18, hF⟩ := ss_s hF
  refine ln_icmp_lt hx hb b17 b18 110 d_S_sendBytes_75 (by decide) (fun h19 => ?_) (fun h19 => ?_)
  · have hF := it_p hF h19
    obtain rfl := Option.some.inj hF
    exact kR _ _ _ _ d_S_sendBytes_110 hP hD hS
  · have hF := it_n hF h19
    refine lv_aload_n hx hb d_S_sendBytes_78 rfl (lv_at hl 0 rfl) ?_
    refine va_get (D := D) (ci := 3) (v := .ref t0) (C := R_S) (T := F_S) (N := 8) hx hb hT in_S hown hK hP 0 rfl rfl 1 (by decide) (hT _ wd_53) (fun _ h9 => h9) rfl d_S_sendBytes_79 ?_
    refine lv_aload_n hx hb d_S_sendBytes_82 rfl (lv_at hl 0 rfl) ?_
    refine va_get (D := D) (ci := 3) (v := .ref q0) (C := R_S) (T := F_S) (N := 8) hx hb hT in_S hown hK hP 0 rfl rfl 0 (by decide) (hT _ wd_51) (fun _ h9 => h9) rfl d_S_sendBytes_83 ?_
    obtain ⟨r20, g21, hF⟩ := ob_s hF
    refine ln_goi (va_runV (As := []) (rest := [.ref t0]) ⟨hx, hb, hml, hown, hT⟩ (cU_firstSize l D ci q0 q1 q2 q3 u  _ g21 H.size) (cw_V 0 hT wd_226 wd_4 wd_229 wd_227 wd_228 (by decide +kernel) (by decide) (by decide)) (ln_preV 1 hK hN hP rfl rfl (hP.subM [1, 2, 3, 4] rfl) (hD.sub [1, 2, 3, 4] (by decide) rfl)) rfl rfl hl.1 rfl (lv_room (Nat.le_of_ble_eq_true rfl)) d_S_sendBytes_86 ⟨Nat.zero_le _, Nat.zero_le _⟩) hP hD hS hA [1, 2, 3, 4] [0, 5, 6, 7, 8, 9, 10] [0, 7, 8, 9, 10, 1, 2, 3, 4, 5, 6] rfl rfl rfl (by decide) (by decide) (wn := [(h, .inr (3, [.ref q0, .ref t0, .int (nI ((v.1 2) + n)), .int (nI ((v.1 3) + n)), .int (nI ((v.1 4) + n)), .int (nI (v.1 5)), .int (nI (v.1 6)), .int (nI (v.1 7))])), (q0, .inr (4, [.ref q1, .ref q2, .ref q3, .int (nI (u.1 3))])), (q1, .inl (ci 0, 8, .inl (nF (u.2 0)))), (q2, .inl (ci 0, 8, .inl (nF (u.2 1)))), (q3, .inl (ci 0, 8, .inl (nF (u.2 2)))), (t0, .inr (4, [.ref t1, .ref t2, .ref t3, .int (nI (w.1 3))])), (t1, .inl (ci 0, 8, .inl (nF (w.2 0)))), (t2, .inl (ci 0, 8, .inl (nF (w.2 1)))), (t3, .inl (ci 0, 8, .inl (nF (w.2 2)))), (hp, .inr (1, [.ref bp, .int (nI (o3.2.1 1))])), (bp, .inl (ci 0, 16, .inl (nF (o3.2.2 0))))]) rfl (by decide) (fun H locs hP hD hS => ?_)
    refine lv_aload_n hx hb d_S_sendBytes_89 rfl (lv_at hl 0 rfl) ?_
    refine va_get (D := D) (ci := 3) (v := .ref q0) (C := R_S) (T := F_S) (N := 8) hx hb hT in_S hown hK hP 0 rfl rfl 0 (by decide) (hT _ wd_51) (fun _ h9 => h9) rfl d_S_sendBytes_90 ?_
    obtain ⟨r22, g23, hF⟩ := ob_s hF
    refine ln_goi (va_runV (As := []) (rest := [.int (nI r20), .ref t0]) ⟨hx, hb, hml, hown, hT⟩ (cU_firstDue l D ci q0 q1 q2 q3 u  _ g23 H.size) (cw_V 0 hT wd_298 wd_4 wd_260 wd_258 wd_259 (by decide +kernel) (by decide) (by decide)) (ln_preV 1 hK hN hP rfl rfl (hP.subM [1, 2, 3, 4] rfl) (hD.sub [1, 2, 3, 4] (by decide) rfl)) rfl rfl hl.1 rfl (lv_room (Nat.le_of_ble_eq_true rfl)) d_S_sendBytes_93 ⟨Nat.zero_le _, Nat.zero_le _⟩) hP hD hS hA [1, 2, 3, 4] [0, 5, 6, 7, 8, 9, 10] [0, 7, 8, 9, 10, 1, 2, 3, 4, 5, 6] rfl rfl rfl (by decide) (by decide) (wn := [(h, .inr (3, [.ref q0, .ref t0, .int (nI ((v.1 2) + n)), .int (nI ((v.1 3) + n)), .int (nI ((v.1 4) + n)), .int (nI (v.1 5)), .int (nI (v.1 6)), .int (nI (v.1 7))])), (q0, .inr (4, [.ref q1, .ref q2, .ref q3, .int (nI (u.1 3))])), (q1, .inl (ci 0, 8, .inl (nF (u.2 0)))), (q2, .inl (ci 0, 8, .inl (nF (u.2 1)))), (q3, .inl (ci 0, 8, .inl (nF (u.2 2)))), (t0, .inr (4, [.ref t1, .ref t2, .ref t3, .int (nI (w.1 3))])), (t1, .inl (ci 0, 8, .inl (nF (w.2 0)))), (t2, .inl (ci 0, 8, .inl (nF (w.2 1)))), (t3, .inl (ci 0, 8, .inl (nF (w.2 2)))), (hp, .inr (1, [.ref bp, .int (nI (o3.2.1 1))])), (bp, .inl (ci 0, 16, .inl (nF (o3.2.2 0))))]) rfl (by decide) (fun H locs hP hD hS => ?_)
    refine lv_aload_n hx hb d_S_sendBytes_96 rfl (lv_at hl 0 rfl) ?_
    refine va_get (D := D) (ci := 3) (v := .ref q0) (C := R_S) (T := F_S) (N := 8) hx hb hT in_S hown hK hP 0 rfl rfl 0 (by decide) (hT _ wd_51) (fun _ h9 => h9) rfl d_S_sendBytes_97 ?_
    obtain ⟨r24, g25, hF⟩ := ob_s hF
    refine ln_goi (va_runV (As := []) (rest := [.int (nI r22), .int (nI r20), .ref t0]) ⟨hx, hb, hml, hown, hT⟩ (cU_firstSeed l D ci q0 q1 q2 q3 u  _ g25 H.size) (cw_V 0 hT wd_293 wd_4 wd_296 wd_294 wd_295 (by decide +kernel) (by decide) (by decide)) (ln_preV 1 hK hN hP rfl rfl (hP.subM [1, 2, 3, 4] rfl) (hD.sub [1, 2, 3, 4] (by decide) rfl)) rfl rfl hl.1 rfl (lv_room (Nat.le_of_ble_eq_true rfl)) d_S_sendBytes_100 ⟨Nat.zero_le _, Nat.zero_le _⟩) hP hD hS hA [1, 2, 3, 4] [0, 5, 6, 7, 8, 9, 10] [0, 7, 8, 9, 10, 1, 2, 3, 4, 5, 6] rfl rfl rfl (by decide) (by decide) (wn := [(h, .inr (3, [.ref q0, .ref t0, .int (nI ((v.1 2) + n)), .int (nI ((v.1 3) + n)), .int (nI ((v.1 4) + n)), .int (nI (v.1 5)), .int (nI (v.1 6)), .int (nI (v.1 7))])), (q0, .inr (4, [.ref q1, .ref q2, .ref q3, .int (nI (u.1 3))])), (q1, .inl (ci 0, 8, .inl (nF (u.2 0)))), (q2, .inl (ci 0, 8, .inl (nF (u.2 1)))), (q3, .inl (ci 0, 8, .inl (nF (u.2 2)))), (t0, .inr (4, [.ref t1, .ref t2, .ref t3, .int (nI (w.1 3))])), (t1, .inl (ci 0, 8, .inl (nF (w.2 0)))), (t2, .inl (ci 0, 8, .inl (nF (w.2 1)))), (t3, .inl (ci 0, 8, .inl (nF (w.2 2)))), (hp, .inr (1, [.ref bp, .int (nI (o3.2.1 1))])), (bp, .inl (ci 0, 16, .inl (nF (o3.2.2 0))))]) rfl (by decide) (fun H locs hP hD hS => ?_)
    obtain ⟨r26, g27, hF⟩ := ob_s hF
    refine ln_gov (va_runV (As := [.int (nI r20), .int (nI r22), .int (nI r24)]) (rest := []) ⟨hx, hb, hml, hown, hT⟩ (cU_append l D ci t0 t1 t2 t3 w r20 r22 r24 _ g27 H.size) (cw_V 3 hT wd_299 wd_4 wd_203 wd_201 wd_202 (by decide +kernel) (by decide) (by decide)) (ln_preV 5 hK hN hP rfl rfl (hP.subM [5, 6, 7, 8] rfl) (hD.sub [5, 6, 7, 8] (by decide) rfl)) rfl rfl hl.1 rfl (lv_room (Nat.le_of_ble_eq_true rfl)) d_S_sendBytes_103 ⟨Nat.zero_le _, Nat.zero_le _⟩) hP hD hS hA [5, 6, 7, 8] [0, 1, 2, 3, 4, 9, 10] [0, 1, 2, 3, 4, 7, 8, 9, 10, 5, 6] rfl rfl rfl (by decide) (by decide) (wn := [(h, .inr (3, [.ref q0, .ref t0, .int (nI ((v.1 2) + n)), .int (nI ((v.1 3) + n)), .int (nI ((v.1 4) + n)), .int (nI (v.1 5)), .int (nI (v.1 6)), .int (nI (v.1 7))])), (q0, .inr (4, [.ref q1, .ref q2, .ref q3, .int (nI (u.1 3))])), (q1, .inl (ci 0, 8, .inl (nF (u.2 0)))), (q2, .inl (ci 0, 8, .inl (nF (u.2 1)))), (q3, .inl (ci 0, 8, .inl (nF (u.2 2)))), (t0, .inr (4, [.ref t1, .ref t2, .ref t3, .int (nI (r26.1 3))])), (t1, .inl (ci 0, 8, .inl (nF (r26.2 0)))), (t2, .inl (ci 0, 8, .inl (nF (r26.2 1)))), (t3, .inl (ci 0, 8, .inl (nF (r26.2 2)))), (hp, .inr (1, [.ref bp, .int (nI (o3.2.1 1))])), (bp, .inl (ci 0, 16, .inl (nF (o3.2.2 0))))]) rfl (by decide) (fun H locs hP hD hS => ?_)
    refine lv_aload_n hx hb d_S_sendBytes_106 rfl (lv_at hl 0 rfl) ?_
    obtain ⟨r28, g29, hF⟩ := ob_s hF
    refine ln_gov (va_runV (As := []) (rest := []) ⟨hx, hb, hml, hown, hT⟩ (cS_dropCurrent l D ci h q0 q1 q2 q3 t0 (sI (sI (sI v 2 ((v.1 2) + n)) 3 ((v.1 3) + n)) 4 ((v.1 4) + n)) u  _ g29 H.size) (cw_V 0 hT wd_234 wd_3 wd_237 wd_236 ws_S_dropCurrent (by decide +kernel) (by decide) (by decide)) (ln_preV 0 hK hN hP rfl rfl (hP.subM [0, 1, 2, 3, 4] rfl) (hD.sub [0, 1, 2, 3, 4] (by decide) rfl)) rfl rfl hl.1 rfl (lv_room (Nat.le_of_ble_eq_true rfl)) d_S_sendBytes_107 ⟨Nat.zero_le _, Nat.zero_le _⟩) hP hD hS hA [0, 1, 2, 3, 4] [5, 6, 7, 8, 9, 10] [6, 7, 8, 9, 10, 0, 1, 2, 3, 4, 5] rfl rfl rfl (by decide) (by decide) (wn := [(h, .inr (3, [.ref q0, .ref t0, .int (nI (r28.1.1 2)), .int (nI (r28.1.1 3)), .int (nI (r28.1.1 4)), .int (nI (r28.1.1 5)), .int (nI (r28.1.1 6)), .int (nI (r28.1.1 7))])), (q0, .inr (4, [.ref q1, .ref q2, .ref q3, .int (nI (r28.2.1 3))])), (q1, .inl (ci 0, 8, .inl (nF (r28.2.2 0)))), (q2, .inl (ci 0, 8, .inl (nF (r28.2.2 1)))), (q3, .inl (ci 0, 8, .inl (nF (r28.2.2 2)))), (t0, .inr (4, [.ref t1, .ref t2, .ref t3, .int (nI (r26.1 3))])), (t1, .inl (ci 0, 8, .inl (nF (r26.2 0)))), (t2, .inl (ci 0, 8, .inl (nF (r26.2 1)))), (t3, .inl (ci 0, 8, .inl (nF (r26.2 2)))), (hp, .inr (1, [.ref bp, .int (nI (o3.2.1 1))])), (bp, .inl (ci 0, 16, .inl (nF (o3.2.2 0))))]) rfl (by decide) (fun H locs hP hD hS => ?_)
    obtain rfl := Option.some.inj hF
    exact kR _ _ _ _ d_S_sendBytes_110 hP hD hS
