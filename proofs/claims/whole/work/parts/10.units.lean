def fisStreamN  (i : Nat) : Option (Nat) := ss (i < 2147483648) ((if 3 ≤ i then some 0 else some 1))
abbrev rm_isStreamN : Room := { frames := 0, cells := 0, slots := 0, locals := 0 }
set_option maxHeartbeats 4000000 in
set_option maxRecDepth 100000 in
theorem cisStreamN (l : Launch) (D : va_G) (ci : Nat → ClassId)   (i : Nat) (o : Nat) (hF : fisStreamN i = some o) : CtI l y_X_isStream w_X_isStream rm_isStreamN D vwCl (tyC ci) [.int (nI i)] [] (nI o) [] := by
  refine ct_i (cc := b_X_isStream) (maxL := 1) (plainFor_of_name (by decide)) rfl (Nat.le_of_ble_eq_true rfl) (fun p9 e9 s9 m9 args9 be9 me9 c9 A9 Q9 ls H0 hx hb hml hts hown hK hN hl hP hD hS hA kR => ?_)
  replace hl : lv_has ls 1 [(0, .int (nI i))] := hl
  replace hP : va_P D vwCl [] H0 := hP
  replace hD : va_D A9 [] := hD
  replace hown : s9.vm.findClass R_X = some m9.cls := hown
  have hT : ∀ w ∈ lw_ok, w.before args9 s9 = true := fun w h => hts w (List.mem_cons_of_mem _ h)
  rw [fisStreamN] at hF
  generalize hH : H0 = H at hP ⊢
  replace hS : va_S A9 H0 H [] := by rw [← hH]; exact hS
  clear hH
  generalize ([] : List Loc) = locs at hS ⊢
  refine lv_iload_n hx hb d_X_isStream_0 rfl (lv_at hl 0 rfl) ?_
  obtain ⟨b1, hF⟩ := ss_s hF
  refine lv_if_lt (tgt := 13) hx hb d_X_isStream_1 (by decide) (fun h9 => absurd h9 (nI_pos b1)) (fun _ => ?_)
  refine lv_iload_n hx hb d_X_isStream_4 rfl (lv_at hl 0 rfl) ?_
  refine lv_iconst (v := nI 3) hx hb d_X_isStream_5 (by decide) ?_
  refine ln_icmp_ge hx hb b1 (by decide) 13 d_X_isStream_6 (by decide) (fun h2 => ?_) (fun h2 => ?_)
  · have hF := it_p hF h2
    refine lv_iconst (v := nI 0) hx hb d_X_isStream_13 (by decide) ?_
    obtain rfl := Option.some.inj hF
    exact kR _ _ _ _ d_X_isStream_14 (nar_b (x := 0) (by decide)) hP hD hS
  · have hF := it_n hF h2
    refine lv_iconst (v := nI 1) hx hb d_X_isStream_9 (by decide) ?_
    refine lv_goto (tgt := 14) hx hb d_X_isStream_10 (by decide) ?_
    obtain rfl := Option.some.inj hF
    exact kR _ _ _ _ d_X_isStream_14 (nar_b (x := 1) (by decide)) hP hD hS
def fisPacketIndexN  (i : Nat) : Option (Nat) := ss (i < 2147483648) ((if 16 ≤ i then some 0 else some 1))
abbrev rm_isPacketIndexN : Room := { frames := 0, cells := 0, slots := 0, locals := 0 }
set_option maxHeartbeats 4000000 in
set_option maxRecDepth 100000 in
theorem cisPacketIndexN (l : Launch) (D : va_G) (ci : Nat → ClassId)   (i : Nat) (o : Nat) (hF : fisPacketIndexN i = some o) : CtI l y_X_isPacketIndex w_X_isPacketIndex rm_isPacketIndexN D vwCl (tyC ci) [.int (nI i)] [] (nI o) [] := by
  refine ct_i (cc := b_X_isPacketIndex) (maxL := 1) (plainFor_of_name (by decide)) rfl (Nat.le_of_ble_eq_true rfl) (fun p9 e9 s9 m9 args9 be9 me9 c9 A9 Q9 ls H0 hx hb hml hts hown hK hN hl hP hD hS hA kR => ?_)
  replace hl : lv_has ls 1 [(0, .int (nI i))] := hl
  replace hP : va_P D vwCl [] H0 := hP
  replace hD : va_D A9 [] := hD
  replace hown : s9.vm.findClass R_X = some m9.cls := hown
  have hT : ∀ w ∈ lw_ok, w.before args9 s9 = true := fun w h => hts w (List.mem_cons_of_mem _ h)
  rw [fisPacketIndexN] at hF
  generalize hH : H0 = H at hP ⊢
  replace hS : va_S A9 H0 H [] := by rw [← hH]; exact hS
  clear hH
  generalize ([] : List Loc) = locs at hS ⊢
  refine lv_iload_n hx hb d_X_isPacketIndex_0 rfl (lv_at hl 0 rfl) ?_
  obtain ⟨b1, hF⟩ := ss_s hF
  refine lv_if_lt (tgt := 14) hx hb d_X_isPacketIndex_1 (by decide) (fun h9 => absurd h9 (nI_pos b1)) (fun _ => ?_)
  refine lv_iload_n hx hb d_X_isPacketIndex_4 rfl (lv_at hl 0 rfl) ?_
  refine lv_bipush (v := nI 16) hx hb d_X_isPacketIndex_5 (by decide) ?_
  refine ln_icmp_ge hx hb b1 (by decide) 14 d_X_isPacketIndex_7 (by decide) (fun h2 => ?_) (fun h2 => ?_)
  · have hF := it_p hF h2
    refine lv_iconst (v := nI 0) hx hb d_X_isPacketIndex_14 (by decide) ?_
    obtain rfl := Option.some.inj hF
    exact kR _ _ _ _ d_X_isPacketIndex_15 (nar_b (x := 0) (by decide)) hP hD hS
  · have hF := it_n hF h2
    refine lv_iconst (v := nI 1) hx hb d_X_isPacketIndex_10 (by decide) ?_
    refine lv_goto (tgt := 15) hx hb d_X_isPacketIndex_11 (by decide) ?_
    obtain rfl := Option.some.inj hF
    exact kR _ _ _ _ d_X_isPacketIndex_15 (nar_b (x := 1) (by decide)) hP hD hS
def fisStreamI  (i : Int32) : Option (Nat) := (if i < 0 then some 0 else (if (nI 3) ≤ i then some 0 else some 1))
abbrev rm_isStreamI : Room := { frames := 0, cells := 0, slots := 0, locals := 0 }
set_option maxHeartbeats 4000000 in
set_option maxRecDepth 100000 in
theorem cisStreamI (l : Launch) (D : va_G) (ci : Nat → ClassId)   (i : Int32) (o : Nat) (hF : fisStreamI i = some o) : CtI l y_X_isStream w_X_isStream rm_isStreamI D vwCl (tyC ci) [.int i] [] (nI o) [] := by
  refine ct_i (cc := b_X_isStream) (maxL := 1) (plainFor_of_name (by decide)) rfl (Nat.le_of_ble_eq_true rfl) (fun p9 e9 s9 m9 args9 be9 me9 c9 A9 Q9 ls H0 hx hb hml hts hown hK hN hl hP hD hS hA kR => ?_)
  replace hl : lv_has ls 1 [(0, .int i)] := hl
  replace hP : va_P D vwCl [] H0 := hP
  replace hD : va_D A9 [] := hD
  replace hown : s9.vm.findClass R_X = some m9.cls := hown
  have hT : ∀ w ∈ lw_ok, w.before args9 s9 = true := fun w h => hts w (List.mem_cons_of_mem _ h)
  rw [fisStreamI] at hF
  generalize hH : H0 = H at hP ⊢
  replace hS : va_S A9 H0 H [] := by rw [← hH]; exact hS
  clear hH
  generalize ([] : List Loc) = locs at hS ⊢
  refine lv_iload_n hx hb d_X_isStream_0 rfl (lv_at hl 0 rfl) ?_
  refine lv_if_lt (tgt := 13) hx hb d_X_isStream_1 (by decide) (fun h1 => ?_) (fun h1 => ?_)
  · have hF := it_p hF h1
    refine lv_iconst (v := nI 0) hx hb d_X_isStream_13 (by decide) ?_
    obtain rfl := Option.some.inj hF
    exact kR _ _ _ _ d_X_isStream_14 (nar_b (x := 0) (by decide)) hP hD hS
  · have hF := it_n hF h1
    refine lv_iload_n hx hb d_X_isStream_4 rfl (lv_at hl 0 rfl) ?_
    refine lv_iconst (v := nI 3) hx hb d_X_isStream_5 (by decide) ?_
    refine lv_icmp_ge (tgt := 13) hx hb d_X_isStream_6 (by decide) (fun h2 => ?_) (fun h2 => ?_)
    · have hF := it_p hF h2
      refine lv_iconst (v := nI 0) hx hb d_X_isStream_13 (by decide) ?_
      obtain rfl := Option.some.inj hF
      exact kR _ _ _ _ d_X_isStream_14 (nar_b (x := 0) (by decide)) hP hD hS
    · have hF := it_n hF h2
      refine lv_iconst (v := nI 1) hx hb d_X_isStream_9 (by decide) ?_
      refine lv_goto (tgt := 14) hx hb d_X_isStream_10 (by decide) ?_
      obtain rfl := Option.some.inj hF
      exact kR _ _ _ _ d_X_isStream_14 (nar_b (x := 1) (by decide)) hP hD hS
def fisPacketIndexI  (i : Int32) : Option (Nat) := (if i < 0 then some 0 else (if (nI 16) ≤ i then some 0 else some 1))
abbrev rm_isPacketIndexI : Room := { frames := 0, cells := 0, slots := 0, locals := 0 }
set_option maxHeartbeats 4000000 in
set_option maxRecDepth 100000 in
theorem cisPacketIndexI (l : Launch) (D : va_G) (ci : Nat → ClassId)   (i : Int32) (o : Nat) (hF : fisPacketIndexI i = some o) : CtI l y_X_isPacketIndex w_X_isPacketIndex rm_isPacketIndexI D vwCl (tyC ci) [.int i] [] (nI o) [] := by
  refine ct_i (cc := b_X_isPacketIndex) (maxL := 1) (plainFor_of_name (by decide)) rfl (Nat.le_of_ble_eq_true rfl) (fun p9 e9 s9 m9 args9 be9 me9 c9 A9 Q9 ls H0 hx hb hml hts hown hK hN hl hP hD hS hA kR => ?_)
  replace hl : lv_has ls 1 [(0, .int i)] := hl
  replace hP : va_P D vwCl [] H0 := hP
  replace hD : va_D A9 [] := hD
  replace hown : s9.vm.findClass R_X = some m9.cls := hown
  have hT : ∀ w ∈ lw_ok, w.before args9 s9 = true := fun w h => hts w (List.mem_cons_of_mem _ h)
  rw [fisPacketIndexI] at hF
  generalize hH : H0 = H at hP ⊢
  replace hS : va_S A9 H0 H [] := by rw [← hH]; exact hS
  clear hH
  generalize ([] : List Loc) = locs at hS ⊢
  refine lv_iload_n hx hb d_X_isPacketIndex_0 rfl (lv_at hl 0 rfl) ?_
  refine lv_if_lt (tgt := 14) hx hb d_X_isPacketIndex_1 (by decide) (fun h1 => ?_) (fun h1 => ?_)
  · have hF := it_p hF h1
    refine lv_iconst (v := nI 0) hx hb d_X_isPacketIndex_14 (by decide) ?_
    obtain rfl := Option.some.inj hF
    exact kR _ _ _ _ d_X_isPacketIndex_15 (nar_b (x := 0) (by decide)) hP hD hS
  · have hF := it_n hF h1
    refine lv_iload_n hx hb d_X_isPacketIndex_4 rfl (lv_at hl 0 rfl) ?_
    refine lv_bipush (v := nI 16) hx hb d_X_isPacketIndex_5 (by decide) ?_
    refine lv_icmp_ge (tgt := 14) hx hb d_X_isPacketIndex_7 (by decide) (fun h2 => ?_) (fun h2 => ?_)
    · have hF := it_p hF h2
      refine lv_iconst (v := nI 0) hx hb d_X_isPacketIndex_14 (by decide) ?_
      obtain rfl := Option.some.inj hF
      exact kR _ _ _ _ d_X_isPacketIndex_15 (nar_b (x := 0) (by decide)) hP hD hS
    · have hF := it_n hF h2
      refine lv_iconst (v := nI 1) hx hb d_X_isPacketIndex_10 (by decide) ?_
      refine lv_goto (tgt := 15) hx hb d_X_isPacketIndex_11 (by decide) ?_
      obtain rfl := Option.some.inj hF
      exact kR _ _ _ _ d_X_isPacketIndex_15 (nar_b (x := 1) (by decide)) hP hD hS
def fU_isFull (u : ST)  : Option (Nat) := ss ((u.1 3) < 2147483648) ((if (u.1 3) < 8 then some 0 else some 1))
abbrev rm_U_isFull : Room := { frames := 0, cells := 0, slots := 0, locals := 0 }
set_option maxHeartbeats 4000000 in
set_option maxRecDepth 100000 in
theorem cU_isFull (l : Launch) (D : va_G) (ci : Nat → ClassId) (a0 : Nat) (a1 : Nat) (a2 : Nat) (a3 : Nat) (u : ST)  (o : Nat) (hF : fU_isFull u = some o) : CtI l y_U_isFull w_U_isFull rm_U_isFull D vwCl (tyC ci) [.ref a0] [(a0, .inr (4, [.ref a1, .ref a2, .ref a3, .int (nI (u.1 3))])), (a1, .inl (ci 0, 8, .inl (nF (u.2 0)))), (a2, .inl (ci 0, 8, .inl (nF (u.2 1)))), (a3, .inl (ci 0, 8, .inl (nF (u.2 2))))] (nI o) [(a0, .inr (4, [.ref a1, .ref a2, .ref a3, .int (nI (u.1 3))])), (a1, .inl (ci 0, 8, .inl (nF (u.2 0)))), (a2, .inl (ci 0, 8, .inl (nF (u.2 1)))), (a3, .inl (ci 0, 8, .inl (nF (u.2 2))))] := by
  refine ct_i (cc := b_U_isFull) (maxL := 1) (plainFor_of_name (by decide)) rfl (Nat.le_of_ble_eq_true rfl) (fun p9 e9 s9 m9 args9 be9 me9 c9 A9 Q9 ls H0 hx hb hml hts hown hK hN hl hP hD hS hA kR => ?_)
  replace hl : lv_has ls 1 [(0, .ref a0)] := hl
  replace hP : va_P D vwCl [(a0, .inr (4, [.ref a1, .ref a2, .ref a3, .int (nI (u.1 3))])), (a1, .inl (ci 0, 8, .inl (nF (u.2 0)))), (a2, .inl (ci 0, 8, .inl (nF (u.2 1)))), (a3, .inl (ci 0, 8, .inl (nF (u.2 2))))] H0 := hP
  replace hD : va_D A9 [(a0, .inr (4, [.ref a1, .ref a2, .ref a3, .int (nI (u.1 3))])), (a1, .inl (ci 0, 8, .inl (nF (u.2 0)))), (a2, .inl (ci 0, 8, .inl (nF (u.2 1)))), (a3, .inl (ci 0, 8, .inl (nF (u.2 2))))] := hD
  replace hown : s9.vm.findClass R_U = some m9.cls := hown
  have hT : ∀ w ∈ lw_ok, w.before args9 s9 = true := fun w h => hts w (List.mem_cons_of_mem _ h)
  rw [fU_isFull] at hF
  generalize hH : H0 = H at hP ⊢
  replace hS : va_S A9 H0 H [] := by rw [← hH]; exact hS
  clear hH
  generalize ([] : List Loc) = locs at hS ⊢
  refine lv_aload_n hx hb d_U_isFull_0 rfl (lv_at hl 0 rfl) ?_
  refine va_get (D := D) (ci := 4) (v := .int (nI (u.1 3))) (C := R_U) (T := F_U) (N := 4) hx hb hT in_U hown hK hP 0 rfl rfl 3 (by decide) (hT _ wd_39) (fun _ h9 => h9) rfl d_U_isFull_1 ?_
  refine lv_bipush (v := nI 8) hx hb d_U_isFull_4 (by decide) ?_
  obtain ⟨b1, hF⟩ := ss_s hF
  refine ln_icmp_lt hx hb b1 (by decide) 13 d_U_isFull_6 (by decide) (fun h2 => ?_) (fun h2 => ?_)
  · have hF := it_p hF h2
    refine lv_iconst (v := nI 0) hx hb d_U_isFull_13 (by decide) ?_
    obtain rfl := Option.some.inj hF
    exact kR _ _ _ _ d_U_isFull_14 (nar_b (x := 0) (by decide)) hP hD hS
  · have hF := it_n hF h2
    refine lv_iconst (v := nI 1) hx hb d_U_isFull_9 (by decide) ?_
    refine lv_goto (tgt := 14) hx hb d_U_isFull_10 (by decide) ?_
    obtain rfl := Option.some.inj hF
    exact kR _ _ _ _ d_U_isFull_14 (nar_b (x := 1) (by decide)) hP hD hS
def fU_isEmpty (u : ST)  : Option (Nat) := ss ((u.1 3) < 2147483648) ((if ¬ (u.1 3) = 0 then some 0 else some 1))
abbrev rm_U_isEmpty : Room := { frames := 0, cells := 0, slots := 0, locals := 0 }
set_option maxHeartbeats 4000000 in
set_option maxRecDepth 100000 in
theorem cU_isEmpty (l : Launch) (D : va_G) (ci : Nat → ClassId) (a0 : Nat) (a1 : Nat) (a2 : Nat) (a3 : Nat) (u : ST)  (o : Nat) (hF : fU_isEmpty u = some o) : CtI l y_U_isEmpty w_U_isEmpty rm_U_isEmpty D vwCl (tyC ci) [.ref a0] [(a0, .inr (4, [.ref a1, .ref a2, .ref a3, .int (nI (u.1 3))])), (a1, .inl (ci 0, 8, .inl (nF (u.2 0)))), (a2, .inl (ci 0, 8, .inl (nF (u.2 1)))), (a3, .inl (ci 0, 8, .inl (nF (u.2 2))))] (nI o) [(a0, .inr (4, [.ref a1, .ref a2, .ref a3, .int (nI (u.1 3))])), (a1, .inl (ci 0, 8, .inl (nF (u.2 0)))), (a2, .inl (ci 0, 8, .inl (nF (u.2 1)))), (a3, .inl (ci 0, 8, .inl (nF (u.2 2))))] := by
  refine ct_i (cc := b_U_isEmpty) (maxL := 1) (plainFor_of_name (by decide)) rfl (Nat.le_of_ble_eq_true rfl) (fun p9 e9 s9 m9 args9 be9 me9 c9 A9 Q9 ls H0 hx hb hml hts hown hK hN hl hP hD hS hA kR => ?_)
  replace hl : lv_has ls 1 [(0, .ref a0)] := hl
  replace hP : va_P D vwCl [(a0, .inr (4, [.ref a1, .ref a2, .ref a3, .int (nI (u.1 3))])), (a1, .inl (ci 0, 8, .inl (nF (u.2 0)))), (a2, .inl (ci 0, 8, .inl (nF (u.2 1)))), (a3, .inl (ci 0, 8, .inl (nF (u.2 2))))] H0 := hP
  replace hD : va_D A9 [(a0, .inr (4, [.ref a1, .ref a2, .ref a3, .int (nI (u.1 3))])), (a1, .inl (ci 0, 8, .inl (nF (u.2 0)))), (a2, .inl (ci 0, 8, .inl (nF (u.2 1)))), (a3, .inl (ci 0, 8, .inl (nF (u.2 2))))] := hD
  replace hown : s9.vm.findClass R_U = some m9.cls := hown
  have hT : ∀ w ∈ lw_ok, w.before args9 s9 = true := fun w h => hts w (List.mem_cons_of_mem _ h)
  rw [fU_isEmpty] at hF
  generalize hH : H0 = H at hP ⊢
  replace hS : va_S A9 H0 H [] := by rw [← hH]; exact hS
  clear hH
  generalize ([] : List Loc) = locs at hS ⊢
  refine lv_aload_n hx hb d_U_isEmpty_0 rfl (lv_at hl 0 rfl) ?_
  refine va_get (D := D) (ci := 4) (v := .int (nI (u.1 3))) (C := R_U) (T := F_U) (N := 4) hx hb hT in_U hown hK hP 0 rfl rfl 3 (by decide) (hT _ wd_39) (fun _ h9 => h9) rfl d_U_isEmpty_1 ?_
  obtain ⟨b1, hF⟩ := ss_s hF
  refine ln_if_ne hx hb b1 11 d_U_isEmpty_4 (by decide) (fun h2 => ?_) (fun h2 => ?_)
  · have hF := it_p hF h2
    refine lv_iconst (v := nI 0) hx hb d_U_isEmpty_11 (by decide) ?_
    obtain rfl := Option.some.inj hF
    exact kR _ _ _ _ d_U_isEmpty_12 (nar_b (x := 0) (by decide)) hP hD hS
  · have hF := it_n hF h2
    refine lv_iconst (v := nI 1) hx hb d_U_isEmpty_7 (by decide) ?_
    refine lv_goto (tgt := 12) hx hb d_U_isEmpty_8 (by decide) ?_
    obtain rfl := Option.some.inj hF
    exact kR _ _ _ _ d_U_isEmpty_12 (nar_b (x := 1) (by decide)) hP hD hS
def fU_append (u : ST) (x : Nat) (y : Nat) (z : Nat) : Option (ST) := ob (fU_isFull u) (fun r1 => ss (r1 < 2147483648) ((if r1 = 0 then ss ((u.1 3) < 8) (some (sA (sA (sA (sI u 3 ((u.1 3) + 1)) 0 (va_up (u.2 0) (u.1 3) x)) 1 (va_up (u.2 1) (u.1 3) y)) 2 (va_up (u.2 2) (u.1 3) z))) else some u)))
abbrev rm_U_append : Room := { frames := 1, cells := 0, slots := 0, locals := 20 }
set_option maxHeartbeats 4000000 in
set_option maxRecDepth 100000 in
theorem cU_append (l : Launch) (D : va_G) (ci : Nat → ClassId) (a0 : Nat) (a1 : Nat) (a2 : Nat) (a3 : Nat) (u : ST) (x : Nat) (y : Nat) (z : Nat) (o : ST) (hF : fU_append u x y z = some o) : CtV l y_U_append w_U_append rm_U_append D vwCl (tyC ci) [.ref a0, .int (nI x), .int (nI y), .int (nI z)] [(a0, .inr (4, [.ref a1, .ref a2, .ref a3, .int (nI (u.1 3))])), (a1, .inl (ci 0, 8, .inl (nF (u.2 0)))), (a2, .inl (ci 0, 8, .inl (nF (u.2 1)))), (a3, .inl (ci 0, 8, .inl (nF (u.2 2))))] [(a0, .inr (4, [.ref a1, .ref a2, .ref a3, .int (nI (o.1 3))])), (a1, .inl (ci 0, 8, .inl (nF (o.2 0)))), (a2, .inl (ci 0, 8, .inl (nF (o.2 1)))), (a3, .inl (ci 0, 8, .inl (nF (o.2 2))))] := by
  refine ct_v (cc := b_U_append) (maxL := 4) (plainFor_of_name (by decide)) rfl (Nat.le_of_ble_eq_true rfl) (fun p9 e9 s9 m9 args9 be9 me9 c9 A9 Q9 ls H0 hx hb hml hts hown hK hN hl hP hD hS hA kR => ?_)
  replace hl : lv_has ls 4 [(0, .ref a0), (1, .int (nI x)), (2, .int (nI y)), (3, .int (nI z))] := hl
  replace hP : va_P D vwCl [(a0, .inr (4, [.ref a1, .ref a2, .ref a3, .int (nI (u.1 3))])), (a1, .inl (ci 0, 8, .inl (nF (u.2 0)))), (a2, .inl (ci 0, 8, .inl (nF (u.2 1)))), (a3, .inl (ci 0, 8, .inl (nF (u.2 2))))] H0 := hP
  replace hD : va_D A9 [(a0, .inr (4, [.ref a1, .ref a2, .ref a3, .int (nI (u.1 3))])), (a1, .inl (ci 0, 8, .inl (nF (u.2 0)))), (a2, .inl (ci 0, 8, .inl (nF (u.2 1)))), (a3, .inl (ci 0, 8, .inl (nF (u.2 2))))] := hD
  replace hown : s9.vm.findClass R_U = some m9.cls := hown
  have hT : ∀ w ∈ lw_ok, w.before args9 s9 = true := fun w h => hts w (List.mem_cons_of_mem _ h)
  rw [fU_append] at hF
  generalize hH : H0 = H at hP ⊢
  replace hS : va_S A9 H0 H [] := by rw [← hH]; exact hS
  clear hH
  generalize ([] : List Loc) = locs at hS ⊢
  refine lv_aload_n hx hb d_U_append_0 rfl (lv_at hl 0 rfl) ?_
  obtain ⟨r1, g2, hF⟩ := ob_s hF
  refine ln_goi (va_runV (As := []) (rest := []) ⟨hx, hb, hml, hown, hT⟩ (cU_isFull l D ci a0 a1 a2 a3 u  _ g2 H.size) (cw_V 0 hT wd_204 wd_4 wd_199 wd_197 wd_198 (by decide +kernel) (by decide) (by decide)) (ln_preV 0 hK hN hP rfl rfl (hP.subM [0, 1, 2, 3] rfl) (hD.sub [0, 1, 2, 3] (by decide) rfl)) rfl rfl hl.1 rfl (lv_room (Nat.le_of_ble_eq_true rfl)) d_U_append_1 ⟨Nat.zero_le _, Nat.zero_le _⟩) hP hD hS hA [0, 1, 2, 3] [] [0, 1, 2, 3] rfl rfl rfl (by decide) (by decide) (wn := [(a0, .inr (4, [.ref a1, .ref a2, .ref a3, .int (nI (u.1 3))])), (a1, .inl (ci 0, 8, .inl (nF (u.2 0)))), (a2, .inl (ci 0, 8, .inl (nF (u.2 1)))), (a3, .inl (ci 0, 8, .inl (nF (u.2 2))))]) rfl (by decide) (fun H locs hP hD hS => ?_)
  obtain ⟨b3, hF⟩ := ss_s hF
  refine ln_if_eq hx hb b3 8 d_U_append_4 (by decide) (fun h4 => ?_) (fun h4 => ?_)
  · have hF := it_p hF h4
    refine lv_aload_n hx hb d_U_append_8 rfl (lv_at hl 0 rfl) ?_
    refine va_get (D := D) (ci := 4) (v := .ref a1) (C := R_U) (T := F_U) (N := 4) hx hb hT in_U hown hK hP 0 rfl rfl 0 (by decide) (hT _ wd_36) (fun _ h9 => h9) rfl d_U_append_9 ?_
    refine lv_aload_n hx hb d_U_append_12 rfl (lv_at hl 0 rfl) ?_
    refine va_get (D := D) (ci := 4) (v := .int (nI (u.1 3))) (C := R_U) (T := F_U) (N := 4) hx hb hT in_U hown hK hP 0 rfl rfl 3 (by decide) (hT _ wd_39) (fun _ h9 => h9) rfl d_U_append_13 ?_
    refine lv_iload_n hx hb d_U_append_16 rfl (lv_at hl 1 rfl) ?_
    obtain ⟨b5, hF⟩ := ss_s hF
    refine ln_ast hx hb hK hP hD hS 1 0 rfl rfl b5 (by decide) d_U_append_17 (fun H locs hP hD hS => ?_)
    replace hP : va_P D vwCl [(a0, .inr (4, [.ref a1, .ref a2, .ref a3, .int (nI (u.1 3))])), (a1, .inl (ci 0, 8, .inl (nF (va_up (u.2 0) (u.1 3) x)))), (a2, .inl (ci 0, 8, .inl (nF (u.2 1)))), (a3, .inl (ci 0, 8, .inl (nF (u.2 2))))] H := hP
    replace hD : va_D A9 [(a0, .inr (4, [.ref a1, .ref a2, .ref a3, .int (nI (u.1 3))])), (a1, .inl (ci 0, 8, .inl (nF (va_up (u.2 0) (u.1 3) x)))), (a2, .inl (ci 0, 8, .inl (nF (u.2 1)))), (a3, .inl (ci 0, 8, .inl (nF (u.2 2))))] := hD
    refine lv_aload_n hx hb d_U_append_18 rfl (lv_at hl 0 rfl) ?_
    refine va_get (D := D) (ci := 4) (v := .ref a2) (C := R_U) (T := F_U) (N := 4) hx hb hT in_U hown hK hP 0 rfl rfl 1 (by decide) (hT _ wd_37) (fun _ h9 => h9) rfl d_U_append_19 ?_
    refine lv_aload_n hx hb d_U_append_22 rfl (lv_at hl 0 rfl) ?_
    refine va_get (D := D) (ci := 4) (v := .int (nI (u.1 3))) (C := R_U) (T := F_U) (N := 4) hx hb hT in_U hown hK hP 0 rfl rfl 3 (by decide) (hT _ wd_39) (fun _ h9 => h9) rfl d_U_append_23 ?_
    refine lv_iload_n hx hb d_U_append_26 rfl (lv_at hl 2 rfl) ?_
    refine ln_ast hx hb hK hP hD hS 2 0 rfl rfl b5 (by decide) d_U_append_27 (fun H locs hP hD hS => ?_)
    replace hP : va_P D vwCl [(a0, .inr (4, [.ref a1, .ref a2, .ref a3, .int (nI (u.1 3))])), (a1, .inl (ci 0, 8, .inl (nF (va_up (u.2 0) (u.1 3) x)))), (a2, .inl (ci 0, 8, .inl (nF (va_up (u.2 1) (u.1 3) y)))), (a3, .inl (ci 0, 8, .inl (nF (u.2 2))))] H := hP
    replace hD : va_D A9 [(a0, .inr (4, [.ref a1, .ref a2, .ref a3, .int (nI (u.1 3))])), (a1, .inl (ci 0, 8, .inl (nF (va_up (u.2 0) (u.1 3) x)))), (a2, .inl (ci 0, 8, .inl (nF (va_up (u.2 1) (u.1 3) y)))), (a3, .inl (ci 0, 8, .inl (nF (u.2 2))))] := hD
    refine lv_aload_n hx hb d_U_append_28 rfl (lv_at hl 0 rfl) ?_
    refine va_get (D := D) (ci := 4) (v := .ref a3) (C := R_U) (T := F_U) (N := 4) hx hb hT in_U hown hK hP 0 rfl rfl 2 (by decide) (hT _ wd_38) (fun _ h9 => h9) rfl d_U_append_29 ?_
    refine lv_aload_n hx hb d_U_append_32 rfl (lv_at hl 0 rfl) ?_
    refine va_get (D := D) (ci := 4) (v := .int (nI (u.1 3))) (C := R_U) (T := F_U) (N := 4) hx hb hT in_U hown hK hP 0 rfl rfl 3 (by decide) (hT _ wd_39) (fun _ h9 => h9) rfl d_U_append_33 ?_
    refine lv_iload_n hx hb d_U_append_36 rfl (lv_at hl 3 rfl) ?_
    refine ln_ast hx hb hK hP hD hS 3 0 rfl rfl b5 (by decide) d_U_append_37 (fun H locs hP hD hS => ?_)
    replace hP : va_P D vwCl [(a0, .inr (4, [.ref a1, .ref a2, .ref a3, .int (nI (u.1 3))])), (a1, .inl (ci 0, 8, .inl (nF (va_up (u.2 0) (u.1 3) x)))), (a2, .inl (ci 0, 8, .inl (nF (va_up (u.2 1) (u.1 3) y)))), (a3, .inl (ci 0, 8, .inl (nF (va_up (u.2 2) (u.1 3) z))))] H := hP
    replace hD : va_D A9 [(a0, .inr (4, [.ref a1, .ref a2, .ref a3, .int (nI (u.1 3))])), (a1, .inl (ci 0, 8, .inl (nF (va_up (u.2 0) (u.1 3) x)))), (a2, .inl (ci 0, 8, .inl (nF (va_up (u.2 1) (u.1 3) y)))), (a3, .inl (ci 0, 8, .inl (nF (va_up (u.2 2) (u.1 3) z))))] := hD
    refine lv_aload_n hx hb d_U_append_38 rfl (lv_at hl 0 rfl) ?_
    refine lv_dup hx hb d_U_append_39 rfl ?_
    refine va_get (D := D) (ci := 4) (v := .int (nI (u.1 3))) (C := R_U) (T := F_U) (N := 4) hx hb hT in_U hown hK hP 0 rfl rfl 3 (by decide) (hT _ wd_39) (fun _ h9 => h9) rfl d_U_append_40 ?_
    refine lv_iconst (v := nI 1) hx hb d_U_append_43 (by decide) ?_
    refine ln_iadd hx hb d_U_append_44 ?_
    refine va_put (D := D) (ci := 4) (v := .int (nI ((u.1 3) + 1))) (ty := .int) (C := R_U) (T := F_U) (N := 4) hx hb hT in_U t_U ty_U nm_U hown hK hP hD hS 0 rfl rfl 3 (by decide) (hT _ wd_39) (fun _ h9 => h9) rfl (by decide +kernel) rfl rfl (Nat.le_of_ble_eq_true rfl) d_U_append_45 (fun H locs hP hD hS => ?_)
    replace hP : va_P D vwCl [(a0, .inr (4, [.ref a1, .ref a2, .ref a3, .int (nI ((u.1 3) + 1))])), (a1, .inl (ci 0, 8, .inl (nF (va_up (u.2 0) (u.1 3) x)))), (a2, .inl (ci 0, 8, .inl (nF (va_up (u.2 1) (u.1 3) y)))), (a3, .inl (ci 0, 8, .inl (nF (va_up (u.2 2) (u.1 3) z))))] H := hP
    replace hD : va_D A9 [(a0, .inr (4, [.ref a1, .ref a2, .ref a3, .int (nI ((u.1 3) + 1))])), (a1, .inl (ci 0, 8, .inl (nF (va_up (u.2 0) (u.1 3) x)))), (a2, .inl (ci 0, 8, .inl (nF (va_up (u.2 1) (u.1 3) y)))), (a3, .inl (ci 0, 8, .inl (nF (va_up (u.2 2) (u.1 3) z))))] := hD
    obtain rfl := Option.some.inj hF
    exact kR _ _ _ _ d_U_append_48 hP hD hS
  · have hF := it_n hF h4
    obtain rfl := Option.some.inj hF
    exact kR _ _ _ _ d_U_append_7 hP hD hS
def fU_firstSize (u : ST)  : Option (Nat) := some ((u.2 0) 0)
abbrev rm_U_firstSize : Room := { frames := 0, cells := 0, slots := 0, locals := 0 }
set_option maxHeartbeats 4000000 in
set_option maxRecDepth 100000 in
theorem cU_firstSize (l : Launch) (D : va_G) (ci : Nat → ClassId) (a0 : Nat) (a1 : Nat) (a2 : Nat) (a3 : Nat) (u : ST)  (o : Nat) (hF : fU_firstSize u = some o) : CtI l y_U_firstSize w_U_firstSize rm_U_firstSize D vwCl (tyC ci) [.ref a0] [(a0, .inr (4, [.ref a1, .ref a2, .ref a3, .int (nI (u.1 3))])), (a1, .inl (ci 0, 8, .inl (nF (u.2 0)))), (a2, .inl (ci 0, 8, .inl (nF (u.2 1)))), (a3, .inl (ci 0, 8, .inl (nF (u.2 2))))] (nI o) [(a0, .inr (4, [.ref a1, .ref a2, .ref a3, .int (nI (u.1 3))])), (a1, .inl (ci 0, 8, .inl (nF (u.2 0)))), (a2, .inl (ci 0, 8, .inl (nF (u.2 1)))), (a3, .inl (ci 0, 8, .inl (nF (u.2 2))))] := by
  refine ct_i (cc := b_U_firstSize) (maxL := 1) (plainFor_of_name (by decide)) rfl (Nat.le_of_ble_eq_true rfl) (fun p9 e9 s9 m9 args9 be9 me9 c9 A9 Q9 ls H0 hx hb hml hts hown hK hN hl hP hD hS hA kR => ?_)
  replace hl : lv_has ls 1 [(0, .ref a0)] := hl
  replace hP : va_P D vwCl [(a0, .inr (4, [.ref a1, .ref a2, .ref a3, .int (nI (u.1 3))])), (a1, .inl (ci 0, 8, .inl (nF (u.2 0)))), (a2, .inl (ci 0, 8, .inl (nF (u.2 1)))), (a3, .inl (ci 0, 8, .inl (nF (u.2 2))))] H0 := hP
  replace hD : va_D A9 [(a0, .inr (4, [.ref a1, .ref a2, .ref a3, .int (nI (u.1 3))])), (a1, .inl (ci 0, 8, .inl (nF (u.2 0)))), (a2, .inl (ci 0, 8, .inl (nF (u.2 1)))), (a3, .inl (ci 0, 8, .inl (nF (u.2 2))))] := hD
  replace hown : s9.vm.findClass R_U = some m9.cls := hown
  have hT : ∀ w ∈ lw_ok, w.before args9 s9 = true := fun w h => hts w (List.mem_cons_of_mem _ h)
  rw [fU_firstSize] at hF
  generalize hH : H0 = H at hP ⊢
  replace hS : va_S A9 H0 H [] := by rw [← hH]; exact hS
  clear hH
  generalize ([] : List Loc) = locs at hS ⊢
  refine lv_aload_n hx hb d_U_firstSize_0 rfl (lv_at hl 0 rfl) ?_
  refine va_get (D := D) (ci := 4) (v := .ref a1) (C := R_U) (T := F_U) (N := 4) hx hb hT in_U hown hK hP 0 rfl rfl 0 (by decide) (hT _ wd_36) (fun _ h9 => h9) rfl d_U_firstSize_1 ?_
  refine lv_iconst (v := nI 0) hx hb d_U_firstSize_4 (by decide) ?_
  refine ln_ald hx hb hK hP 1 0 rfl rfl (by decide) (by decide) d_U_firstSize_5 ?_
  obtain rfl := Option.some.inj hF
  exact kR _ _ _ _ d_U_firstSize_6 rfl hP hD hS
def fU_firstDue (u : ST)  : Option (Nat) := some ((u.2 1) 0)
abbrev rm_U_firstDue : Room := { frames := 0, cells := 0, slots := 0, locals := 0 }
set_option maxHeartbeats 4000000 in
set_option maxRecDepth 100000 in
theorem cU_firstDue (l : Launch) (D : va_G) (ci : Nat → ClassId) (a0 : Nat) (a1 : Nat) (a2 : Nat) (a3 : Nat) (u : ST)  (o : Nat) (hF : fU_firstDue u = some o) : CtI l y_U_firstDue w_U_firstDue rm_U_firstDue D vwCl (tyC ci) [.ref a0] [(a0, .inr (4, [.ref a1, .ref a2, .ref a3, .int (nI (u.1 3))])), (a1, .inl (ci 0, 8, .inl (nF (u.2 0)))), (a2, .inl (ci 0, 8, .inl (nF (u.2 1)))), (a3, .inl (ci 0, 8, .inl (nF (u.2 2))))] (nI o) [(a0, .inr (4, [.ref a1, .ref a2, .ref a3, .int (nI (u.1 3))])), (a1, .inl (ci 0, 8, .inl (nF (u.2 0)))), (a2, .inl (ci 0, 8, .inl (nF (u.2 1)))), (a3, .inl (ci 0, 8, .inl (nF (u.2 2))))] := by
  refine ct_i (cc := b_U_firstDue) (maxL := 1) (plainFor_of_name (by decide)) rfl (Nat.le_of_ble_eq_true rfl) (fun p9 e9 s9 m9 args9 be9 me9 c9 A9 Q9 ls H0 hx hb hml hts hown hK hN hl hP hD hS hA kR => ?_)
  replace hl : lv_has ls 1 [(0, .ref a0)] := hl
  replace hP : va_P D vwCl [(a0, .inr (4, [.ref a1, .ref a2, .ref a3, .int (nI (u.1 3))])), (a1, .inl (ci 0, 8, .inl (nF (u.2 0)))), (a2, .inl (ci 0, 8, .inl (nF (u.2 1)))), (a3, .inl (ci 0, 8, .inl (nF (u.2 2))))] H0 := hP
  replace hD : va_D A9 [(a0, .inr (4, [.ref a1, .ref a2, .ref a3, .int (nI (u.1 3))])), (a1, .inl (ci 0, 8, .inl (nF (u.2 0)))), (a2, .inl (ci 0, 8, .inl (nF (u.2 1)))), (a3, .inl (ci 0, 8, .inl (nF (u.2 2))))] := hD
  replace hown : s9.vm.findClass R_U = some m9.cls := hown
  have hT : ∀ w ∈ lw_ok, w.before args9 s9 = true := fun w h => hts w (List.mem_cons_of_mem _ h)
  rw [fU_firstDue] at hF
  generalize hH : H0 = H at hP ⊢
  replace hS : va_S A9 H0 H [] := by rw [← hH]; exact hS
  clear hH
  generalize ([] : List Loc) = locs at hS ⊢
  refine lv_aload_n hx hb d_U_firstDue_0 rfl (lv_at hl 0 rfl) ?_
  refine va_get (D := D) (ci := 4) (v := .ref a2) (C := R_U) (T := F_U) (N := 4) hx hb hT in_U hown hK hP 0 rfl rfl 1 (by decide) (hT _ wd_37) (fun _ h9 => h9) rfl d_U_firstDue_1 ?_
  refine lv_iconst (v := nI 0) hx hb d_U_firstDue_4 (by decide) ?_
  refine ln_ald hx hb hK hP 2 0 rfl rfl (by decide) (by decide) d_U_firstDue_5 ?_
  obtain rfl := Option.some.inj hF
  exact kR _ _ _ _ d_U_firstDue_6 rfl hP hD hS
def fU_firstSeed (u : ST)  : Option (Nat) := some ((u.2 2) 0)
abbrev rm_U_firstSeed : Room := { frames := 0, cells := 0, slots := 0, locals := 0 }
set_option maxHeartbeats 4000000 in
set_option maxRecDepth 100000 in
theorem cU_firstSeed (l : Launch) (D : va_G) (ci : Nat → ClassId) (a0 : Nat) (a1 : Nat) (a2 : Nat) (a3 : Nat) (u : ST)  (o : Nat) (hF : fU_firstSeed u = some o) : CtI l y_U_firstSeed w_U_firstSeed rm_U_firstSeed D vwCl (tyC ci) [.ref a0] [(a0, .inr (4, [.ref a1, .ref a2, .ref a3, .int (nI (u.1 3))])), (a1, .inl (ci 0, 8, .inl (nF (u.2 0)))), (a2, .inl (ci 0, 8, .inl (nF (u.2 1)))), (a3, .inl (ci 0, 8, .inl (nF (u.2 2))))] (nI o) [(a0, .inr (4, [.ref a1, .ref a2, .ref a3, .int (nI (u.1 3))])), (a1, .inl (ci 0, 8, .inl (nF (u.2 0)))), (a2, .inl (ci 0, 8, .inl (nF (u.2 1)))), (a3, .inl (ci 0, 8, .inl (nF (u.2 2))))] := by
  refine ct_i (cc := b_U_firstSeed) (maxL := 1) (plainFor_of_name (by decide)) rfl (Nat.le_of_ble_eq_true rfl) (fun p9 e9 s9 m9 args9 be9 me9 c9 A9 Q9 ls H0 hx hb hml hts hown hK hN hl hP hD hS hA kR => ?_)
  replace hl : lv_has ls 1 [(0, .ref a0)] := hl
  replace hP : va_P D vwCl [(a0, .inr (4, [.ref a1, .ref a2, .ref a3, .int (nI (u.1 3))])), (a1, .inl (ci 0, 8, .inl (nF (u.2 0)))), (a2, .inl (ci 0, 8, .inl (nF (u.2 1)))), (a3, .inl (ci 0, 8, .inl (nF (u.2 2))))] H0 := hP
  replace hD : va_D A9 [(a0, .inr (4, [.ref a1, .ref a2, .ref a3, .int (nI (u.1 3))])), (a1, .inl (ci 0, 8, .inl (nF (u.2 0)))), (a2, .inl (ci 0, 8, .inl (nF (u.2 1)))), (a3, .inl (ci 0, 8, .inl (nF (u.2 2))))] := hD
  replace hown : s9.vm.findClass R_U = some m9.cls := hown
  have hT : ∀ w ∈ lw_ok, w.before args9 s9 = true := fun w h => hts w (List.mem_cons_of_mem _ h)
  rw [fU_firstSeed] at hF
  generalize hH : H0 = H at hP ⊢
  replace hS : va_S A9 H0 H [] := by rw [← hH]; exact hS
  clear hH
  generalize ([] : List Loc) = locs at hS ⊢
  refine lv_aload_n hx hb d_U_firstSeed_0 rfl (lv_at hl 0 rfl) ?_
  refine va_get (D := D) (ci := 4) (v := .ref a3) (C := R_U) (T := F_U) (N := 4) hx hb hT in_U hown hK hP 0 rfl rfl 2 (by decide) (hT _ wd_38) (fun _ h9 => h9) rfl d_U_firstSeed_1 ?_
  refine lv_iconst (v := nI 0) hx hb d_U_firstSeed_4 (by decide) ?_
  refine ln_ald hx hb hK hP 3 0 rfl rfl (by decide) (by decide) d_U_firstSeed_5 ?_
  obtain rfl := Option.some.inj hF
  exact kR _ _ _ _ d_U_firstSeed_6 rfl hP hD hS
def fU_isFirstDueAt (u : ST) (t : Nat) : Option (Nat) := ob (fU_isEmpty u) (fun r1 => ss (r1 < 2147483648) ((if ¬ r1 = 0 then some 0 else ss (((u.2 1) 0) < 2147483648) (ss (t < 2147483648) ((if ¬ ((u.2 1) 0) = t then some 0 else some 1))))))
abbrev rm_U_isFirstDueAt : Room := { frames := 1, cells := 0, slots := 0, locals := 20 }
set_option maxHeartbeats 4000000 in
set_option maxRecDepth 100000 in
theorem cU_isFirstDueAt (l : Launch) (D : va_G) (ci : Nat → ClassId) (a0 : Nat) (a1 : Nat) (a2 : Nat) (a3 : Nat) (u : ST) (t : Nat) (o : Nat) (hF : fU_isFirstDueAt u t = some o) : CtI l y_U_isFirstDueAt w_U_isFirstDueAt rm_U_isFirstDueAt D vwCl (tyC ci) [.ref a0, .int (nI t)] [(a0, .inr (4, [.ref a1, .ref a2, .ref a3, .int (nI (u.1 3))])), (a1, .inl (ci 0, 8, .inl (nF (u.2 0)))), (a2, .inl (ci 0, 8, .inl (nF (u.2 1)))), (a3, .inl (ci 0, 8, .inl (nF (u.2 2))))] (nI o) [(a0, .inr (4, [.ref a1, .ref a2, .ref a3, .int (nI (u.1 3))])), (a1, .inl (ci 0, 8, .inl (nF (u.2 0)))), (a2, .inl (ci 0, 8, .inl (nF (u.2 1)))), (a3, .inl (ci 0, 8, .inl (nF (u.2 2))))] := by
  refine ct_i (cc := b_U_isFirstDueAt) (maxL := 2) (plainFor_of_name (by decide)) rfl (Nat.le_of_ble_eq_true rfl) (fun p9 e9 s9 m9 args9 be9 me9 c9 A9 Q9 ls H0 hx hb hml hts hown hK hN hl hP hD hS hA kR => ?_)
  replace hl : lv_has ls 2 [(0, .ref a0), (1, .int (nI t))] := hl
  replace hP : va_P D vwCl [(a0, .inr (4, [.ref a1, .ref a2, .ref a3, .int (nI (u.1 3))])), (a1, .inl (ci 0, 8, .inl (nF (u.2 0)))), (a2, .inl (ci 0, 8, .inl (nF (u.2 1)))), (a3, .inl (ci 0, 8, .inl (nF (u.2 2))))] H0 := hP
  replace hD : va_D A9 [(a0, .inr (4, [.ref a1, .ref a2, .ref a3, .int (nI (u.1 3))])), (a1, .inl (ci 0, 8, .inl (nF (u.2 0)))), (a2, .inl (ci 0, 8, .inl (nF (u.2 1)))), (a3, .inl (ci 0, 8, .inl (nF (u.2 2))))] := hD
  replace hown : s9.vm.findClass R_U = some m9.cls := hown
  have hT : ∀ w ∈ lw_ok, w.before args9 s9 = true := fun w h => hts w (List.mem_cons_of_mem _ h)
  rw [fU_isFirstDueAt] at hF
  generalize hH : H0 = H at hP ⊢
  replace hS : va_S A9 H0 H [] := by rw [← hH]; exact hS
  clear hH
  generalize ([] : List Loc) = locs at hS ⊢
  refine lv_aload_n hx hb d_U_isFirstDueAt_0 rfl (lv_at hl 0 rfl) ?_
  obtain ⟨r1, g2, hF⟩ := ob_s hF
  refine ln_goi (va_runV (As := []) (rest := []) ⟨hx, hb, hml, hown, hT⟩ (cU_isEmpty l D ci a0 a1 a2 a3 u  _ g2 H.size) (cw_V 0 hT wd_222 wd_4 wd_225 wd_223 wd_224 (by decide +kernel) (by decide) (by decide)) (ln_preV 0 hK hN hP rfl rfl (hP.subM [0, 1, 2, 3] rfl) (hD.sub [0, 1, 2, 3] (by decide) rfl)) rfl rfl hl.1 rfl (lv_room (Nat.le_of_ble_eq_true rfl)) d_U_isFirstDueAt_1 ⟨Nat.zero_le _, Nat.zero_le _⟩) hP hD hS hA [0, 1, 2, 3] [] [0, 1, 2, 3] rfl rfl rfl (by decide) (by decide) (wn := [(a0, .inr (4, [.ref a1, .ref a2, .ref a3, .int (nI (u.1 3))])), (a1, .inl (ci 0, 8, .inl (nF (u.2 0)))), (a2, .inl (ci 0, 8, .inl (nF (u.2 1)))), (a3, .inl (ci 0, 8, .inl (nF (u.2 2))))]) rfl (by decide) (fun H locs hP hD hS => ?_)
  obtain ⟨b3, hF⟩ := ss_s hF
  refine ln_if_ne hx hb b3 21 d_U_isFirstDueAt_4 (by decide) (fun h4 => ?_) (fun h4 => ?_)
  · have hF := it_p hF h4
    refine lv_iconst (v := nI 0) hx hb d_U_isFirstDueAt_21 (by decide) ?_
    obtain rfl := Option.some.inj hF
    exact kR _ _ _ _ d_U_isFirstDueAt_22 (nar_b (x := 0) (by decide)) hP hD hS
  · have hF := it_n hF h4
    refine lv_aload_n hx hb d_U_isFirstDueAt_7 rfl (lv_at hl 0 rfl) ?_
    refine va_get (D := D) (ci := 4) (v := .ref a2) (C := R_U) (T := F_U) (N := 4) hx hb hT in_U hown hK hP 0 rfl rfl 1 (by decide) (hT _ wd_37) (fun _ h9 => h9) rfl d_U_isFirstDueAt_8 ?_
    refine lv_iconst (v := nI 0) hx hb d_U_isFirstDueAt_11 (by decide) ?_
    refine ln_ald hx hb hK hP 2 0 rfl rfl (by decide) (by decide) d_U_isFirstDueAt_12 ?_
    refine lv_iload_n hx hb d_U_isFirstDueAt_13 rfl (lv_at hl 1 rfl) ?_
    obtain ⟨b5, hF⟩ := ss_s hF
    obtain ⟨b6, hF⟩ := ss_s hF
    refine ln_icmp_ne hx hb b5 b6 21 d_U_isFirstDueAt_14 (by decide) (fun h7 => ?_) (fun h7 => ?_)
    · have hF := it_p hF h7
      refine lv_iconst (v := nI 0) hx hb d_U_isFirstDueAt_21 (by decide) ?_
      obtain rfl := Option.some.inj hF
      exact kR _ _ _ _ d_U_isFirstDueAt_22 (nar_b (x := 0) (by decide)) hP hD hS
    · have hF := it_n hF h7
      refine lv_iconst (v := nI 1) hx hb d_U_isFirstDueAt_17 (by decide) ?_
      refine lv_goto (tgt := 22) hx hb d_U_isFirstDueAt_18 (by decide) ?_
      obtain rfl := Option.some.inj hF
      exact kR _ _ _ _ d_U_isFirstDueAt_22 (nar_b (x := 1) (by decide)) hP hD hS
def fU_dropFirst_L20  : Nat → Nat → ST → Option (Nat × ST)
  | 0, _, _ => none
  | fu + 1, i6, u7 => ss (i6 < 2147483648) (ss ((u7.1 3) < 2147483648) ((if (u7.1 3) ≤ i6 then some (i6, u7) else ss ((i6 + 1) < 8) (ss (i6 < 8) (fU_dropFirst_L20 fu (i6 + 1) (sA (sA (sA u7 0 (va_up (u7.2 0) i6 ((u7.2 0) (i6 + 1)))) 1 (va_up (u7.2 1) i6 ((u7.2 1) (i6 + 1)))) 2 (va_up (u7.2 2) i6 ((u7.2 2) (i6 + 1)))))))))
def fU_dropFirst (u : ST)  : Option (ST) := ob (fU_isEmpty u) (fun r1 => ss (r1 < 2147483648) ((if r1 = 0 then ss (1 ≤ (u.1 3)) (ob (fU_dropFirst_L20  100 0 (sI u 3 ((u.1 3) - 1))) (fun o8 => some o8.2)) else some u)))
abbrev rm_U_dropFirst : Room := { frames := 1, cells := 0, slots := 0, locals := 20 }
set_option maxHeartbeats 4000000 in
set_option maxRecDepth 100000 in
theorem cU_dropFirst (l : Launch) (D : va_G) (ci : Nat → ClassId) (a0 : Nat) (a1 : Nat) (a2 : Nat) (a3 : Nat) (u : ST)  (o : ST) (hF : fU_dropFirst u = some o) : CtV l y_U_dropFirst w_U_dropFirst rm_U_dropFirst D vwCl (tyC ci) [.ref a0] [(a0, .inr (4, [.ref a1, .ref a2, .ref a3, .int (nI (u.1 3))])), (a1, .inl (ci 0, 8, .inl (nF (u.2 0)))), (a2, .inl (ci 0, 8, .inl (nF (u.2 1)))), (a3, .inl (ci 0, 8, .inl (nF (u.2 2))))] [(a0, .inr (4, [.ref a1, .ref a2, .ref a3, .int (nI (o.1 3))])), (a1, .inl (ci 0, 8, .inl (nF (o.2 0)))), (a2, .inl (ci 0, 8, .inl (nF (o.2 1)))), (a3, .inl (ci 0, 8, .inl (nF (o.2 2))))] := by
  refine ct_v (cc := b_U_dropFirst) (maxL := 2) (plainFor_of_name (by decide)) rfl (Nat.le_of_ble_eq_true rfl) (fun p9 e9 s9 m9 args9 be9 me9 c9 A9 Q9 ls H0 hx hb hml hts hown hK hN hl hP hD hS hA kR => ?_)
  replace hl : lv_has ls 2 [(0, .ref a0)] := hl
  replace hP : va_P D vwCl [(a0, .inr (4, [.ref a1, .ref a2, .ref a3, .int (nI (u.1 3))])), (a1, .inl (ci 0, 8, .inl (nF (u.2 0)))), (a2, .inl (ci 0, 8, .inl (nF (u.2 1)))), (a3, .inl (ci 0, 8, .inl (nF (u.2 2))))] H0 := hP
  replace hD : va_D A9 [(a0, .inr (4, [.ref a1, .ref a2, .ref a3, .int (nI (u.1 3))])), (a1, .inl (ci 0, 8, .inl (nF (u.2 0)))), (a2, .inl (ci 0, 8, .inl (nF (u.2 1)))), (a3, .inl (ci 0, 8, .inl (nF (u.2 2))))] := hD
  replace hown : s9.vm.findClass R_U = some m9.cls := hown
  have hT : ∀ w ∈ lw_ok, w.before args9 s9 = true := fun w h => hts w (List.mem_cons_of_mem _ h)
  rw [fU_dropFirst] at hF
  generalize hH : H0 = H at hP ⊢
  replace hS : va_S A9 H0 H [] := by rw [← hH]; exact hS
  clear hH
  generalize ([] : List Loc) = locs at hS ⊢
  refine lv_aload_n hx hb d_U_dropFirst_0 rfl (lv_at hl 0 rfl) ?_
  obtain ⟨r1, g2, hF⟩ := ob_s hF
  refine ln_goi (va_runV (As := []) (rest := []) ⟨hx, hb, hml, hown, hT⟩ (cU_isEmpty l D ci a0 a1 a2 a3 u  _ g2 H.size) (cw_V 0 hT wd_222 wd_4 wd_225 wd_223 wd_224 (by decide +kernel) (by decide) (by decide)) (ln_preV 0 hK hN hP rfl rfl (hP.subM [0, 1, 2, 3] rfl) (hD.sub [0, 1, 2, 3] (by decide) rfl)) rfl rfl hl.1 rfl (lv_room (Nat.le_of_ble_eq_true rfl)) d_U_dropFirst_1 ⟨Nat.zero_le _, Nat.zero_le _⟩) hP hD hS hA [0, 1, 2, 3] [] [0, 1, 2, 3] rfl rfl rfl (by decide) (by decide) (wn := [(a0, .inr (4, [.ref a1, .ref a2, .ref a3, .int (nI (u.1 3))])), (a1, .inl (ci 0, 8, .inl (nF (u.2 0)))), (a2, .inl (ci 0, 8, .inl (nF (u.2 1)))), (a3, .inl (ci 0, 8, .inl (nF (u.2 2))))]) rfl (by decide) (fun H locs hP hD hS => ?_)
  obtain ⟨b3, hF⟩ := ss_s hF
  refine ln_if_eq hx hb b3 8 d_U_dropFirst_4 (by decide) (fun h4 => ?_) (fun h4 => ?_)
  · have hF := it_p hF h4
    refine lv_aload_n hx hb d_U_dropFirst_8 rfl (lv_at hl 0 rfl) ?_
    refine lv_dup hx hb d_U_dropFirst_9 rfl ?_
    refine va_get (D := D) (ci := 4) (v := .int (nI (u.1 3))) (C := R_U) (T := F_U) (N := 4) hx hb hT in_U hown hK hP 0 rfl rfl 3 (by decide) (hT _ wd_39) (fun _ h9 => h9) rfl d_U_dropFirst_10 ?_
    refine lv_iconst (v := nI 1) hx hb d_U_dropFirst_13 (by decide) ?_
    obtain ⟨b5, hF⟩ := ss_s hF
    refine ln_isub hx hb b5 d_U_dropFirst_14 ?_
    refine va_put (D := D) (ci := 4) (v := .int (nI ((u.1 3) - 1))) (ty := .int) (C := R_U) (T := F_U) (N := 4) hx hb hT in_U t_U ty_U nm_U hown hK hP hD hS 0 rfl rfl 3 (by decide) (hT _ wd_39) (fun _ h9 => h9) rfl (by decide +kernel) rfl rfl (Nat.le_of_ble_eq_true rfl) d_U_dropFirst_15 (fun H locs hP hD hS => ?_)
    replace hP : va_P D vwCl [(a0, .inr (4, [.ref a1, .ref a2, .ref a3, .int (nI ((u.1 3) - 1))])), (a1, .inl (ci 0, 8, .inl (nF (u.2 0)))), (a2, .inl (ci 0, 8, .inl (nF (u.2 1)))), (a3, .inl (ci 0, 8, .inl (nF (u.2 2))))] H := hP
    replace hD : va_D A9 [(a0, .inr (4, [.ref a1, .ref a2, .ref a3, .int (nI ((u.1 3) - 1))])), (a1, .inl (ci 0, 8, .inl (nF (u.2 0)))), (a2, .inl (ci 0, 8, .inl (nF (u.2 1)))), (a3, .inl (ci 0, 8, .inl (nF (u.2 2))))] := hD
    refine lv_iconst (v := nI 0) hx hb d_U_dropFirst_18 (by decide) ?_
    refine lv_istore_n hx hb d_U_dropFirst_19 rfl hl (by decide) rfl (fun ls hl => ?_)
    replace hl : lv_has ls 2 [(1, .int (nI 0)), (0, .ref a0)] := hl
    have L16 : ∀ (fu : Nat) (i6 : Nat) (u7 : ST) (o8 : Nat × ST) (ls : Array Slot) (H : Heap) (locs : List Loc), fU_dropFirst_L20  fu i6 u7 = some o8 → lv_has ls 2 [(0, .ref a0), (1, .int (nI i6))] → va_P D vwCl [(a0, .inr (4, [.ref a1, .ref a2, .ref a3, .int (nI (u7.1 3))])), (a1, .inl (ci 0, 8, .inl (nF (u7.2 0)))), (a2, .inl (ci 0, 8, .inl (nF (u7.2 1)))), (a3, .inl (ci 0, 8, .inl (nF (u7.2 2))))] H → va_D A9 [(a0, .inr (4, [.ref a1, .ref a2, .ref a3, .int (nI (u7.1 3))])), (a1, .inl (ci 0, 8, .inl (nF (u7.2 0)))), (a2, .inl (ci 0, 8, .inl (nF (u7.2 1)))), (a3, .inl (ci 0, 8, .inl (nF (u7.2 2))))] → va_S A9 H0 H locs → (∀ (ls : Array Slot) (H : Heap) (locs : List Loc), lv_has ls 2 [(0, .ref a0), (1, .int (nI o8.1))] → va_P D vwCl [(a0, .inr (4, [.ref a1, .ref a2, .ref a3, .int (nI (o8.2.1 3))])), (a1, .inl (ci 0, 8, .inl (nF (o8.2.2 0)))), (a2, .inl (ci 0, 8, .inl (nF (o8.2.2 1)))), (a3, .inl (ci 0, 8, .inl (nF (o8.2.2 2))))] H → va_D A9 [(a0, .inr (4, [.ref a1, .ref a2, .ref a3, .int (nI (o8.2.1 3))])), (a1, .inl (ci 0, 8, .inl (nF (o8.2.2 0)))), (a2, .inl (ci 0, 8, .inl (nF (o8.2.2 1)))), (a3, .inl (ci 0, 8, .inl (nF (o8.2.2 2))))] → va_S A9 H0 H locs → W p9 l e9 rm_U_dropFirst s9 m9 args9 be9 me9 c9 H locs 0 0 Q9 (F0 m9 76 ls [])) → W p9 l e9 rm_U_dropFirst s9 m9 args9 be9 me9 c9 H locs 0 0 Q9 (F0 m9 20 ls []) := by
      intro fu
      induction fu with
      | zero => intro i6 u7 o8 ls H locs hF; rw [fU_dropFirst_L20] at hF; cases hF
      | succ fu ih9 =>
        intro i6 u7 o8 ls H locs hF hl hP hD hS k10
        rw [fU_dropFirst_L20] at hF
        refine lv_iload_n hx hb d_U_dropFirst_20 rfl (lv_at hl 1 rfl) ?_
        refine lv_aload_n hx hb d_U_dropFirst_21 rfl (lv_at hl 0 rfl) ?_
        refine va_get (D := D) (ci := 4) (v := .int (nI (u7.1 3))) (C := R_U) (T := F_U) (N := 4) hx hb hT in_U hown hK hP 0 rfl rfl 3 (by decide) (hT _ wd_39) (fun _ h9 => h9) rfl d_U_dropFirst_22 ?_
        obtain ⟨b11, hF⟩ := ss_s hF
        obtain ⟨b12, hF⟩ := ss_s hF
        refine ln_icmp_ge hx hb b11 b12 76 d_U_dropFirst_25 (by decide) (fun h13 => ?_) (fun h13 => ?_)
        · have hF := it_p hF h13
          obtain rfl := Option.some.inj hF
          have hl := lv_sub hl [0, 1] rfl
          exact k10 _ _ _ hl hP hD hS
        · have hF := it_n hF h13
          refine lv_aload_n hx hb d_U_dropFirst_28 rfl (lv_at hl 0 rfl) ?_
          refine va_get (D := D) (ci := 4) (v := .ref a1) (C := R_U) (T := F_U) (N := 4) hx hb hT in_U hown hK hP 0 rfl rfl 0 (by decide) (hT _ wd_36) (fun _ h9 => h9) rfl d_U_dropFirst_29 ?_
          refine lv_iload_n hx hb d_U_dropFirst_32 rfl (lv_at hl 1 rfl) ?_
          refine lv_aload_n hx hb d_U_dropFirst_33 rfl (lv_at hl 0 rfl) ?_
          refine va_get (D := D) (ci := 4) (v := .ref a1) (C := R_U) (T := F_U) (N := 4) hx hb hT in_U hown hK hP 0 rfl rfl 0 (by decide) (hT _ wd_36) (fun _ h9 => h9) rfl d_U_dropFirst_34 ?_
          refine lv_iload_n hx hb d_U_dropFirst_37 rfl (lv_at hl 1 rfl) ?_
          refine lv_iconst (v := nI 1) hx hb d_U_dropFirst_38 (by decide) ?_
          refine ln_iadd hx hb d_U_dropFirst_39 ?_
          obtain ⟨b14, hF⟩ := ss_s hF
          refine ln_ald hx hb hK hP 1 0 rfl rfl b14 (by decide) d_U_dropFirst_40 ?_
          obtain ⟨b15, hF⟩ := ss_s hF
          refine ln_ast hx hb hK hP hD hS 1 0 rfl rfl b15 (by decide) d_U_dropFirst_41 (fun H locs hP hD hS => ?_)
          replace hP : va_P D vwCl [(a0, .inr (4, [.ref a1, .ref a2, .ref a3, .int (nI (u7.1 3))])), (a1, .inl (ci 0, 8, .inl (nF (va_up (u7.2 0) i6 ((u7.2 0) (i6 + 1)))))), (a2, .inl (ci 0, 8, .inl (nF (u7.2 1)))), (a3, .inl (ci 0, 8, .inl (nF (u7.2 2))))] H := hP
          replace hD : va_D A9 [(a0, .inr (4, [.ref a1, .ref a2, .ref a3, .int (nI (u7.1 3))])), (a1, .inl (ci 0, 8, .inl (nF (va_up (u7.2 0) i6 ((u7.2 0) (i6 + 1)))))), (a2, .inl (ci 0, 8, .inl (nF (u7.2 1)))), (a3, .inl (ci 0, 8, .inl (nF (u7.2 2))))] := hD
          refine lv_aload_n hx hb d_U_dropFirst_42 rfl (lv_at hl 0 rfl) ?_
          refine va_get (D := D) (ci := 4) (v := .ref a2) (C := R_U) (T := F_U) (N := 4) hx hb hT in_U hown hK hP 0 rfl rfl 1 (by decide) (hT _ wd_37) (fun _ h9 => h9) rfl d_U_dropFirst_43 ?_
          refine lv_iload_n hx hb d_U_dropFirst_46 rfl (lv_at hl 1 rfl) ?_
          refine lv_aload_n hx hb d_U_dropFirst_47 rfl (lv_at hl 0 rfl) ?_
          refine va_get (D := D) (ci := 4) (v := .ref a2) (C := R_U) (T := F_U) (N := 4) hx hb hT in_U hown hK hP 0 rfl rfl 1 (by decide) (hT _ wd_37) (fun _ h9 => h9) rfl d_U_dropFirst_48 ?_
          refine lv_iload_n hx hb d_U_dropFirst_51 rfl (lv_at hl 1 rfl) ?_
          refine lv_iconst (v := nI 1) hx hb d_U_dropFirst_52 (by decide) ?_
          refine ln_iadd hx hb d_U_dropFirst_53 ?_
          refine ln_ald hx hb hK hP 2 0 rfl rfl b14 (by decide) d_U_dropFirst_54 ?_
          refine ln_ast hx hb hK hP hD hS 2 0 rfl rfl b15 (by decide) d_U_dropFirst_55 (fun H locs hP hD hS => ?_)
          replace hP : va_P D vwCl [(a0, .inr (4, [.ref a1, .ref a2, .ref a3, .int (nI (u7.1 3))])), (a1, .inl (ci 0, 8, .inl (nF (va_up (u7.2 0) i6 ((u7.2 0) (i6 + 1)))))), (a2, .inl (ci 0, 8, .inl (nF (va_up (u7.2 1) i6 ((u7.2 1) (i6 + 1)))))), (a3, .inl (ci 0, 8, .inl (nF (u7.2 2))))] H := hP
          replace hD : va_D A9 [(a0, .inr (4, [.ref a1, .ref a2, .ref a3, .int (nI (u7.1 3))])), (a1, .inl (ci 0, 8, .inl (nF (va_up (u7.2 0) i6 ((u7.2 0) (i6 + 1)))))), (a2, .inl (ci 0, 8, .inl (nF (va_up (u7.2 1) i6 ((u7.2 1) (i6 + 1)))))), (a3, .inl (ci 0, 8, .inl (nF (u7.2 2))))] := hD
          refine lv_aload_n hx hb d_U_dropFirst_56 rfl (lv_at hl 0 rfl) ?_
          refine va_get (D := D) (ci := 4) (v := .ref a3) (C := R_U) (T := F_U) (N := 4) hx hb hT in_U hown hK hP 0 rfl rfl 2 (by decide) (hT _ wd_38) (fun _ h9 => h9) rfl d_U_dropFirst_57 ?_
          refine lv_iload_n hx hb d_U_dropFirst_60 rfl (lv_at hl 1 rfl) ?_
          refine lv_aload_n hx hb d_U_dropFirst_61 rfl (lv_at hl 0 rfl) ?_
          refine va_get (D := D) (ci := 4) (v := .ref a3) (C := R_U) (T := F_U) (N := 4) hx hb hT in_U hown hK hP 0 rfl rfl 2 (by decide) (hT _ wd_38) (fun _ h9 => h9) rfl d_U_dropFirst_62 ?_
          refine lv_iload_n hx hb d_U_dropFirst_65 rfl (lv_at hl 1 rfl) ?_
          refine lv_iconst (v := nI 1) hx hb d_U_dropFirst_66 (by decide) ?_
          refine ln_iadd hx hb d_U_dropFirst_67 ?_
          refine ln_ald hx hb hK hP 3 0 rfl rfl b14 (by decide) d_U_dropFirst_68 ?_
          refine ln_ast hx hb hK hP hD hS 3 0 rfl rfl b15 (by decide) d_U_dropFirst_69 (fun H locs hP hD hS => ?_)
          replace hP : va_P D vwCl [(a0, .inr (4, [.ref a1, .ref a2, .ref a3, .int (nI (u7.1 3))])), (a1, .inl (ci 0, 8, .inl (nF (va_up (u7.2 0) i6 ((u7.2 0) (i6 + 1)))))), (a2, .inl (ci 0, 8, .inl (nF (va_up (u7.2 1) i6 ((u7.2 1) (i6 + 1)))))), (a3, .inl (ci 0, 8, .inl (nF (va_up (u7.2 2) i6 ((u7.2 2) (i6 + 1))))))] H := hP
          replace hD : va_D A9 [(a0, .inr (4, [.ref a1, .ref a2, .ref a3, .int (nI (u7.1 3))])), (a1, .inl (ci 0, 8, .inl (nF (va_up (u7.2 0) i6 ((u7.2 0) (i6 + 1)))))), (a2, .inl (ci 0, 8, .inl (nF (va_up (u7.2 1) i6 ((u7.2 1) (i6 + 1)))))), (a3, .inl (ci 0, 8, .inl (nF (va_up (u7.2 2) i6 ((u7.2 2) (i6 + 1))))))] := hD
          refine ln_iinc (k := 1) (y := i6 + 1) hx hb d_U_dropFirst_70 hl rfl (nI_inc _) (by decide) rfl (fun ls hl => ?_)
          replace hl : lv_has ls 2 [(1, .int (nI (i6 + 1))), (0, .ref a0)] := hl
          refine lv_goto (tgt := 20) hx hb d_U_dropFirst_73 (by decide) ?_
          have hl := lv_sub hl [1, 0] rfl
          exact ih9 _ _ _ _ _ _ hF hl hP hD hS k10
    obtain ⟨o8, g17, hF⟩ := ob_s hF
    have hl := lv_sub hl [1, 0] rfl
    refine L16 _ _ _ _ _ _ _ g17 hl hP hD hS (fun ls H locs hl hP hD hS => ?_)
    obtain rfl := Option.some.inj hF
    exact kR _ _ _ _ d_U_dropFirst_76 hP hD hS
  · have hF := it_n hF h4
    obtain rfl := Option.some.inj hF
    exact kR _ _ _ _ d_U_dropFirst_7 hP hD hS
