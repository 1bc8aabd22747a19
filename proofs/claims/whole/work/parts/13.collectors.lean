def fC_reset (c : ST)  : Option (ST) := some (sI (sI (sI c 0 0) 2 0) 10 0)
abbrev rm_C_reset : Room := { frames := 0, cells := 0, slots := 0, locals := 0 }
set_option maxHeartbeats 4000000 in
set_option maxRecDepth 100000 in
theorem cC_reset (l : Launch) (D : va_G) (ci : Nat → ClassId) (h : Nat) (c : ST)  (o : ST) (hF : fC_reset c = some o) : CtV l y_C_reset w_C_reset rm_C_reset D vwCl (tyC ci) [.ref h] [(h, .inr (0, [.int (nI (c.1 0)), .int (nI (c.1 1)), .int (nI (c.1 2)), .int (nI (c.1 3)), .int (nI (c.1 4)), .int (nI (c.1 5)), .ref (c.1 6), .int (nI (c.1 7)), .int (nI (c.1 8)), .ref (c.1 9), .int (nI (c.1 10))])), (c.1 6, .inl (ci 0, 60, .inl (nF (c.2 0)))), (c.1 9, .inl (ci 0, 60, .inl (nF (c.2 1))))] [(h, .inr (0, [.int (nI (o.1 0)), .int (nI (o.1 1)), .int (nI (o.1 2)), .int (nI (o.1 3)), .int (nI (o.1 4)), .int (nI (o.1 5)), .ref (o.1 6), .int (nI (o.1 7)), .int (nI (o.1 8)), .ref (o.1 9), .int (nI (o.1 10))])), (o.1 6, .inl (ci 0, 60, .inl (nF (o.2 0)))), (o.1 9, .inl (ci 0, 60, .inl (nF (o.2 1))))] := by
  refine ct_v (cc := b_C_reset) (maxL := 1) (plainFor_of_name (by decide)) rfl (Nat.le_of_ble_eq_true rfl) (fun p9 e9 s9 m9 args9 be9 me9 c9 A9 Q9 ls H0 hx hb hml hts hown hK hN hl hP hD hS hA kR => ?_)
  replace hl : lv_has ls 1 [(0, .ref h)] := hl
  replace hP : va_P D vwCl [(h, .inr (0, [.int (nI (c.1 0)), .int (nI (c.1 1)), .int (nI (c.1 2)), .int (nI (c.1 3)), .int (nI (c.1 4)), .int (nI (c.1 5)), .ref (c.1 6), .int (nI (c.1 7)), .int (nI (c.1 8)), .ref (c.1 9), .int (nI (c.1 10))])), (c.1 6, .inl (ci 0, 60, .inl (nF (c.2 0)))), (c.1 9, .inl (ci 0, 60, .inl (nF (c.2 1))))] H0 := hP
  replace hD : va_D A9 [(h, .inr (0, [.int (nI (c.1 0)), .int (nI (c.1 1)), .int (nI (c.1 2)), .int (nI (c.1 3)), .int (nI (c.1 4)), .int (nI (c.1 5)), .ref (c.1 6), .int (nI (c.1 7)), .int (nI (c.1 8)), .ref (c.1 9), .int (nI (c.1 10))])), (c.1 6, .inl (ci 0, 60, .inl (nF (c.2 0)))), (c.1 9, .inl (ci 0, 60, .inl (nF (c.2 1))))] := hD
  replace hown : s9.vm.findClass R_C = some m9.cls := hown
  have hT : ∀ w ∈ lw_ok, w.before args9 s9 = true := fun w h => hts w (List.mem_cons_of_mem _ h)
  rw [fC_reset] at hF
  generalize hH : H0 = H at hP ⊢
  replace hS : va_S A9 H0 H [] := by rw [← hH]; exact hS
  clear hH
  generalize ([] : List Loc) = locs at hS ⊢
  refine lv_aload_n hx hb d_C_reset_0 rfl (lv_at hl 0 rfl) ?_
  refine lv_iconst (v := nI 0) hx hb d_C_reset_1 (by decide) ?_
  refine va_put (D := D) (ci := 0) (v := .int (nI 0)) (ty := .boolean) (C := R_C) (T := F_C) (N := 11) hx hb hT in_C t_C ty_C nm_C hown hK hP hD hS 0 rfl rfl 0 (by decide) (hT _ wd_94) (fun _ h9 => h9) rfl (by decide +kernel) (by decide) (by decide) (Nat.le_of_ble_eq_true rfl) d_C_reset_2 (fun H locs hP hD hS => ?_)
  replace hP : va_P D vwCl [(h, .inr (0, [.int (nI 0), .int (nI (c.1 1)), .int (nI (c.1 2)), .int (nI (c.1 3)), .int (nI (c.1 4)), .int (nI (c.1 5)), .ref (c.1 6), .int (nI (c.1 7)), .int (nI (c.1 8)), .ref (c.1 9), .int (nI (c.1 10))])), (c.1 6, .inl (ci 0, 60, .inl (nF (c.2 0)))), (c.1 9, .inl (ci 0, 60, .inl (nF (c.2 1))))] H := hP
  replace hD : va_D A9 [(h, .inr (0, [.int (nI 0), .int (nI (c.1 1)), .int (nI (c.1 2)), .int (nI (c.1 3)), .int (nI (c.1 4)), .int (nI (c.1 5)), .ref (c.1 6), .int (nI (c.1 7)), .int (nI (c.1 8)), .ref (c.1 9), .int (nI (c.1 10))])), (c.1 6, .inl (ci 0, 60, .inl (nF (c.2 0)))), (c.1 9, .inl (ci 0, 60, .inl (nF (c.2 1))))] := hD
  refine lv_aload_n hx hb d_C_reset_5 rfl (lv_at hl 0 rfl) ?_
  refine lv_iconst (v := nI 0) hx hb d_C_reset_6 (by decide) ?_
  refine va_put (D := D) (ci := 0) (v := .int (nI 0)) (ty := .boolean) (C := R_C) (T := F_C) (N := 11) hx hb hT in_C t_C ty_C nm_C hown hK hP hD hS 0 rfl rfl 2 (by decide) (hT _ wd_96) (fun _ h9 => h9) rfl (by decide +kernel) (by decide) (by decide) (Nat.le_of_ble_eq_true rfl) d_C_reset_7 (fun H locs hP hD hS => ?_)
  replace hP : va_P D vwCl [(h, .inr (0, [.int (nI 0), .int (nI (c.1 1)), .int (nI 0), .int (nI (c.1 3)), .int (nI (c.1 4)), .int (nI (c.1 5)), .ref (c.1 6), .int (nI (c.1 7)), .int (nI (c.1 8)), .ref (c.1 9), .int (nI (c.1 10))])), (c.1 6, .inl (ci 0, 60, .inl (nF (c.2 0)))), (c.1 9, .inl (ci 0, 60, .inl (nF (c.2 1))))] H := hP
  replace hD : va_D A9 [(h, .inr (0, [.int (nI 0), .int (nI (c.1 1)), .int (nI 0), .int (nI (c.1 3)), .int (nI (c.1 4)), .int (nI (c.1 5)), .ref (c.1 6), .int (nI (c.1 7)), .int (nI (c.1 8)), .ref (c.1 9), .int (nI (c.1 10))])), (c.1 6, .inl (ci 0, 60, .inl (nF (c.2 0)))), (c.1 9, .inl (ci 0, 60, .inl (nF (c.2 1))))] := hD
  refine lv_aload_n hx hb d_C_reset_10 rfl (lv_at hl 0 rfl) ?_
  refine lv_iconst (v := nI 0) hx hb d_C_reset_11 (by decide) ?_
  refine va_put (D := D) (ci := 0) (v := .int (nI 0)) (ty := .int) (C := R_C) (T := F_C) (N := 11) hx hb hT in_C t_C ty_C nm_C hown hK hP hD hS 0 rfl rfl 10 (by decide) (hT _ wd_109) (fun _ h9 => h9) rfl (by decide +kernel) rfl rfl (Nat.le_of_ble_eq_true rfl) d_C_reset_12 (fun H locs hP hD hS => ?_)
  replace hP : va_P D vwCl [(h, .inr (0, [.int (nI 0), .int (nI (c.1 1)), .int (nI 0), .int (nI (c.1 3)), .int (nI (c.1 4)), .int (nI (c.1 5)), .ref (c.1 6), .int (nI (c.1 7)), .int (nI (c.1 8)), .ref (c.1 9), .int (nI 0)])), (c.1 6, .inl (ci 0, 60, .inl (nF (c.2 0)))), (c.1 9, .inl (ci 0, 60, .inl (nF (c.2 1))))] H := hP
  replace hD : va_D A9 [(h, .inr (0, [.int (nI 0), .int (nI (c.1 1)), .int (nI 0), .int (nI (c.1 3)), .int (nI (c.1 4)), .int (nI (c.1 5)), .ref (c.1 6), .int (nI (c.1 7)), .int (nI (c.1 8)), .ref (c.1 9), .int (nI 0)])), (c.1 6, .inl (ci 0, 60, .inl (nF (c.2 0)))), (c.1 9, .inl (ci 0, 60, .inl (nF (c.2 1))))] := hD
  obtain rfl := Option.some.inj hF
  exact kR _ _ _ _ d_C_reset_15 hP hD hS
def fC_noteCounter (c : ST) (x : Nat) : Option (Nat × ST) := ss ((c.1 0) < 2147483648) (ob (α := Nat) (if (c.1 0) = 0 then (some 0 : Option (Nat)) else ss (((c.1 1) + 1) < 2147483648) (ss (x < 2147483648) (ss ((((c.1 1) + 1) % 16) < 2147483648) ((if x = (((c.1 1) + 1) % 16) then (some 0 : Option (Nat)) else (some 1 : Option (Nat))))))) (fun j3 => ss (j3 ≤ 1) (some (j3, sI (sI c 0 1) 1 x))))
abbrev rm_C_noteCounter : Room := { frames := 0, cells := 0, slots := 0, locals := 0 }
set_option maxHeartbeats 4000000 in
set_option maxRecDepth 100000 in
theorem cC_noteCounter (l : Launch) (D : va_G) (ci : Nat → ClassId) (h : Nat) (c : ST) (x : Nat) (o : Nat × ST) (hF : fC_noteCounter c x = some o) : CtI l y_C_noteCounter w_C_noteCounter rm_C_noteCounter D vwCl (tyC ci) [.ref h, .int (nI x)] [(h, .inr (0, [.int (nI (c.1 0)), .int (nI (c.1 1)), .int (nI (c.1 2)), .int (nI (c.1 3)), .int (nI (c.1 4)), .int (nI (c.1 5)), .ref (c.1 6), .int (nI (c.1 7)), .int (nI (c.1 8)), .ref (c.1 9), .int (nI (c.1 10))])), (c.1 6, .inl (ci 0, 60, .inl (nF (c.2 0)))), (c.1 9, .inl (ci 0, 60, .inl (nF (c.2 1))))] (nI o.1) [(h, .inr (0, [.int (nI (o.2.1 0)), .int (nI (o.2.1 1)), .int (nI (o.2.1 2)), .int (nI (o.2.1 3)), .int (nI (o.2.1 4)), .int (nI (o.2.1 5)), .ref (o.2.1 6), .int (nI (o.2.1 7)), .int (nI (o.2.1 8)), .ref (o.2.1 9), .int (nI (o.2.1 10))])), (o.2.1 6, .inl (ci 0, 60, .inl (nF (o.2.2 0)))), (o.2.1 9, .inl (ci 0, 60, .inl (nF (o.2.2 1))))] := by
  refine ct_i (cc := b_C_noteCounter) (maxL := 3) (plainFor_of_name (by decide)) rfl (Nat.le_of_ble_eq_true rfl) (fun p9 e9 s9 m9 args9 be9 me9 c9 A9 Q9 ls H0 hx hb hml hts hown hK hN hl hP hD hS hA kR => ?_)
  replace hl : lv_has ls 3 [(0, .ref h), (1, .int (nI x))] := hl
  replace hP : va_P D vwCl [(h, .inr (0, [.int (nI (c.1 0)), .int (nI (c.1 1)), .int (nI (c.1 2)), .int (nI (c.1 3)), .int (nI (c.1 4)), .int (nI (c.1 5)), .ref (c.1 6), .int (nI (c.1 7)), .int (nI (c.1 8)), .ref (c.1 9), .int (nI (c.1 10))])), (c.1 6, .inl (ci 0, 60, .inl (nF (c.2 0)))), (c.1 9, .inl (ci 0, 60, .inl (nF (c.2 1))))] H0 := hP
  replace hD : va_D A9 [(h, .inr (0, [.int (nI (c.1 0)), .int (nI (c.1 1)), .int (nI (c.1 2)), .int (nI (c.1 3)), .int (nI (c.1 4)), .int (nI (c.1 5)), .ref (c.1 6), .int (nI (c.1 7)), .int (nI (c.1 8)), .ref (c.1 9), .int (nI (c.1 10))])), (c.1 6, .inl (ci 0, 60, .inl (nF (c.2 0)))), (c.1 9, .inl (ci 0, 60, .inl (nF (c.2 1))))] := hD
  replace hown : s9.vm.findClass R_C = some m9.cls := hown
  have hT : ∀ w ∈ lw_ok, w.before args9 s9 = true := fun w h => hts w (List.mem_cons_of_mem _ h)
  rw [fC_noteCounter] at hF
  generalize hH : H0 = H at hP ⊢
  replace hS : va_S A9 H0 H [] := by rw [← hH]; exact hS
  clear hH
  generalize ([] : List Loc) = locs at hS ⊢
  refine lv_aload_n hx hb d_C_noteCounter_0 rfl (lv_at hl 0 rfl) ?_
  refine va_get (D := D) (ci := 0) (v := .int (nI (c.1 0))) (C := R_C) (T := F_C) (N := 11) hx hb hT in_C hown hK hP 0 rfl rfl 0 (by decide) (hT _ wd_94) (fun _ h9 => h9) rfl d_C_noteCounter_1 ?_
  obtain ⟨b1, hF⟩ := ss_s hF
  obtain ⟨j3, g9, hF⟩ := ob_s hF
  have k4 : ∀ (ls : Array Slot) (H : Heap) (locs : List Loc), lv_has ls 3 [(0, .ref h), (1, .int (nI x))] → va_P D vwCl [(h, .inr (0, [.int (nI (c.1 0)), .int (nI (c.1 1)), .int (nI (c.1 2)), .int (nI (c.1 3)), .int (nI (c.1 4)), .int (nI (c.1 5)), .ref (c.1 6), .int (nI (c.1 7)), .int (nI (c.1 8)), .ref (c.1 9), .int (nI (c.1 10))])), (c.1 6, .inl (ci 0, 60, .inl (nF (c.2 0)))), (c.1 9, .inl (ci 0, 60, .inl (nF (c.2 1))))] H → va_D A9 [(h, .inr (0, [.int (nI (c.1 0)), .int (nI (c.1 1)), .int (nI (c.1 2)), .int (nI (c.1 3)), .int (nI (c.1 4)), .int (nI (c.1 5)), .ref (c.1 6), .int (nI (c.1 7)), .int (nI (c.1 8)), .ref (c.1 9), .int (nI (c.1 10))])), (c.1 6, .inl (ci 0, 60, .inl (nF (c.2 0)))), (c.1 9, .inl (ci 0, 60, .inl (nF (c.2 1))))] → va_S A9 H0 H locs → W p9 l e9 rm_C_noteCounter s9 m9 args9 be9 me9 c9 H locs 0 0 Q9 (F0 m9 25 ls [.int (nI j3)]) := by
    intro ls H locs hl hP hD hS
    refine lv_istore_n hx hb d_C_noteCounter_25 rfl hl (by decide) rfl (fun ls hl => ?_)
    replace hl : lv_has ls 3 [(2, .int (nI j3)), (0, .ref h), (1, .int (nI x))] := hl
    refine lv_aload_n hx hb d_C_noteCounter_26 rfl (lv_at hl 1 rfl) ?_
    refine lv_iconst (v := nI 1) hx hb d_C_noteCounter_27 (by decide) ?_
    refine va_put (D := D) (ci := 0) (v := .int (nI 1)) (ty := .boolean) (C := R_C) (T := F_C) (N := 11) hx hb hT in_C t_C ty_C nm_C hown hK hP hD hS 0 rfl rfl 0 (by decide) (hT _ wd_94) (fun _ h9 => h9) rfl (by decide +kernel) (by decide) (by decide) (Nat.le_of_ble_eq_true rfl) d_C_noteCounter_28 (fun H locs hP hD hS => ?_)
    replace hP : va_P D vwCl [(h, .inr (0, [.int (nI 1), .int (nI (c.1 1)), .int (nI (c.1 2)), .int (nI (c.1 3)), .int (nI (c.1 4)), .int (nI (c.1 5)), .ref (c.1 6), .int (nI (c.1 7)), .int (nI (c.1 8)), .ref (c.1 9), .int (nI (c.1 10))])), (c.1 6, .inl (ci 0, 60, .inl (nF (c.2 0)))), (c.1 9, .inl (ci 0, 60, .inl (nF (c.2 1))))] H := hP
    replace hD : va_D A9 [(h, .inr (0, [.int (nI 1), .int (nI (c.1 1)), .int (nI (c.1 2)), .int (nI (c.1 3)), .int (nI (c.1 4)), .int (nI (c.1 5)), .ref (c.1 6), .int (nI (c.1 7)), .int (nI (c.1 8)), .ref (c.1 9), .int (nI (c.1 10))])), (c.1 6, .inl (ci 0, 60, .inl (nF (c.2 0)))), (c.1 9, .inl (ci 0, 60, .inl (nF (c.2 1))))] := hD
    refine lv_aload_n hx hb d_C_noteCounter_31 rfl (lv_at hl 1 rfl) ?_
    refine lv_iload_n hx hb d_C_noteCounter_32 rfl (lv_at hl 2 rfl) ?_
    refine va_put (D := D) (ci := 0) (v := .int (nI x)) (ty := .int) (C := R_C) (T := F_C) (N := 11) hx hb hT in_C t_C ty_C nm_C hown hK hP hD hS 0 rfl rfl 1 (by decide) (hT _ wd_95) (fun _ h9 => h9) rfl (by decide +kernel) rfl rfl (Nat.le_of_ble_eq_true rfl) d_C_noteCounter_33 (fun H locs hP hD hS => ?_)
    replace hP : va_P D vwCl [(h, .inr (0, [.int (nI 1), .int (nI x), .int (nI (c.1 2)), .int (nI (c.1 3)), .int (nI (c.1 4)), .int (nI (c.1 5)), .ref (c.1 6), .int (nI (c.1 7)), .int (nI (c.1 8)), .ref (c.1 9), .int (nI (c.1 10))])), (c.1 6, .inl (ci 0, 60, .inl (nF (c.2 0)))), (c.1 9, .inl (ci 0, 60, .inl (nF (c.2 1))))] H := hP
    replace hD : va_D A9 [(h, .inr (0, [.int (nI 1), .int (nI x), .int (nI (c.1 2)), .int (nI (c.1 3)), .int (nI (c.1 4)), .int (nI (c.1 5)), .ref (c.1 6), .int (nI (c.1 7)), .int (nI (c.1 8)), .ref (c.1 9), .int (nI (c.1 10))])), (c.1 6, .inl (ci 0, 60, .inl (nF (c.2 0)))), (c.1 9, .inl (ci 0, 60, .inl (nF (c.2 1))))] := hD
    refine lv_iload_n hx hb d_C_noteCounter_36 rfl (lv_at hl 0 rfl) ?_
    obtain ⟨b10, hF⟩ := ss_s hF
    obtain rfl := Option.some.inj hF
    exact kR _ _ _ _ d_C_noteCounter_37 (nar_b (x := j3) b10) hP hD hS
  have hF := g9
  refine ln_if_eq hx hb b1 24 d_C_noteCounter_4 (by decide) (fun h2 => ?_) (fun h2 => ?_)
  · have hF := it_p hF h2
    refine lv_iconst (v := nI 0) hx hb d_C_noteCounter_24 (by decide) ?_
    obtain rfl := Option.some.inj hF
    have hl := lv_sub hl [0, 1] rfl
    exact k4 _ _ _ hl hP hD hS
  · have hF := it_n hF h2
    refine lv_iload_n hx hb d_C_noteCounter_7 rfl (lv_at hl 1 rfl) ?_
    refine lv_aload_n hx hb d_C_noteCounter_8 rfl (lv_at hl 0 rfl) ?_
    refine va_get (D := D) (ci := 0) (v := .int (nI (c.1 1))) (C := R_C) (T := F_C) (N := 11) hx hb hT in_C hown hK hP 0 rfl rfl 1 (by decide) (hT _ wd_95) (fun _ h9 => h9) rfl d_C_noteCounter_9 ?_
    refine lv_iconst (v := nI 1) hx hb d_C_noteCounter_12 (by decide) ?_
    refine ln_iadd hx hb d_C_noteCounter_13 ?_
    refine lv_bipush (v := nI 16) hx hb d_C_noteCounter_14 (by decide) ?_
    obtain ⟨b5, hF⟩ := ss_s hF
    refine ln_irem hx hb b5 (by decide) (by decide) d_C_noteCounter_16 ?_
    obtain ⟨b6, hF⟩ := ss_s hF
    obtain ⟨b7, hF⟩ := ss_s hF
    refine ln_icmp_eq hx hb b6 b7 24 d_C_noteCounter_17 (by decide) (fun h8 => ?_) (fun h8 => ?_)
    · have hF := it_p hF h8
      refine lv_iconst (v := nI 0) hx hb d_C_noteCounter_24 (by decide) ?_
      obtain rfl := Option.some.inj hF
      have hl := lv_sub hl [0, 1] rfl
      exact k4 _ _ _ hl hP hD hS
    · have hF := it_n hF h8
      refine lv_iconst (v := nI 1) hx hb d_C_noteCounter_20 (by decide) ?_
      refine lv_goto (tgt := 25) hx hb d_C_noteCounter_21 (by decide) ?_
      obtain rfl := Option.some.inj hF
      have hl := lv_sub hl [0, 1] rfl
      exact k4 _ _ _ hl hP hD hS
def fC_begin (c : ST) (x : Nat) (y : Nat) : Option (ST) := some (sI (sI (sI (sI c 2 1) 3 x) 4 y) 5 0)
abbrev rm_C_begin : Room := { frames := 0, cells := 0, slots := 0, locals := 0 }
set_option maxHeartbeats 4000000 in
set_option maxRecDepth 100000 in
theorem cC_begin (l : Launch) (D : va_G) (ci : Nat → ClassId) (h : Nat) (c : ST) (x : Nat) (y : Nat) (o : ST) (hF : fC_begin c x y = some o) : CtV l y_C_begin w_C_begin rm_C_begin D vwCl (tyC ci) [.ref h, .int (nI x), .int (nI y)] [(h, .inr (0, [.int (nI (c.1 0)), .int (nI (c.1 1)), .int (nI (c.1 2)), .int (nI (c.1 3)), .int (nI (c.1 4)), .int (nI (c.1 5)), .ref (c.1 6), .int (nI (c.1 7)), .int (nI (c.1 8)), .ref (c.1 9), .int (nI (c.1 10))])), (c.1 6, .inl (ci 0, 60, .inl (nF (c.2 0)))), (c.1 9, .inl (ci 0, 60, .inl (nF (c.2 1))))] [(h, .inr (0, [.int (nI (o.1 0)), .int (nI (o.1 1)), .int (nI (o.1 2)), .int (nI (o.1 3)), .int (nI (o.1 4)), .int (nI (o.1 5)), .ref (o.1 6), .int (nI (o.1 7)), .int (nI (o.1 8)), .ref (o.1 9), .int (nI (o.1 10))])), (o.1 6, .inl (ci 0, 60, .inl (nF (o.2 0)))), (o.1 9, .inl (ci 0, 60, .inl (nF (o.2 1))))] := by
  refine ct_v (cc := b_C_begin) (maxL := 3) (plainFor_of_name (by decide)) rfl (Nat.le_of_ble_eq_true rfl) (fun p9 e9 s9 m9 args9 be9 me9 c9 A9 Q9 ls H0 hx hb hml hts hown hK hN hl hP hD hS hA kR => ?_)
  replace hl : lv_has ls 3 [(0, .ref h), (1, .int (nI x)), (2, .int (nI y))] := hl
  replace hP : va_P D vwCl [(h, .inr (0, [.int (nI (c.1 0)), .int (nI (c.1 1)), .int (nI (c.1 2)), .int (nI (c.1 3)), .int (nI (c.1 4)), .int (nI (c.1 5)), .ref (c.1 6), .int (nI (c.1 7)), .int (nI (c.1 8)), .ref (c.1 9), .int (nI (c.1 10))])), (c.1 6, .inl (ci 0, 60, .inl (nF (c.2 0)))), (c.1 9, .inl (ci 0, 60, .inl (nF (c.2 1))))] H0 := hP
  replace hD : va_D A9 [(h, .inr (0, [.int (nI (c.1 0)), .int (nI (c.1 1)), .int (nI (c.1 2)), .int (nI (c.1 3)), .int (nI (c.1 4)), .int (nI (c.1 5)), .ref (c.1 6), .int (nI (c.1 7)), .int (nI (c.1 8)), .ref (c.1 9), .int (nI (c.1 10))])), (c.1 6, .inl (ci 0, 60, .inl (nF (c.2 0)))), (c.1 9, .inl (ci 0, 60, .inl (nF (c.2 1))))] := hD
  replace hown : s9.vm.findClass R_C = some m9.cls := hown
  have hT : ∀ w ∈ lw_ok, w.before args9 s9 = true := fun w h => hts w (List.mem_cons_of_mem _ h)
  rw [fC_begin] at hF
  generalize hH : H0 = H at hP ⊢
  replace hS : va_S A9 H0 H [] := by rw [← hH]; exact hS
  clear hH
  generalize ([] : List Loc) = locs at hS ⊢
  refine lv_aload_n hx hb d_C_begin_0 rfl (lv_at hl 0 rfl) ?_
  refine lv_iconst (v := nI 1) hx hb d_C_begin_1 (by decide) ?_
  refine va_put (D := D) (ci := 0) (v := .int (nI 1)) (ty := .boolean) (C := R_C) (T := F_C) (N := 11) hx hb hT in_C t_C ty_C nm_C hown hK hP hD hS 0 rfl rfl 2 (by decide) (hT _ wd_96) (fun _ h9 => h9) rfl (by decide +kernel) (by decide) (by decide) (Nat.le_of_ble_eq_true rfl) d_C_begin_2 (fun H locs hP hD hS => ?_)
  replace hP : va_P D vwCl [(h, .inr (0, [.int (nI (c.1 0)), .int (nI (c.1 1)), .int (nI 1), .int (nI (c.1 3)), .int (nI (c.1 4)), .int (nI (c.1 5)), .ref (c.1 6), .int (nI (c.1 7)), .int (nI (c.1 8)), .ref (c.1 9), .int (nI (c.1 10))])), (c.1 6, .inl (ci 0, 60, .inl (nF (c.2 0)))), (c.1 9, .inl (ci 0, 60, .inl (nF (c.2 1))))] H := hP
  replace hD : va_D A9 [(h, .inr (0, [.int (nI (c.1 0)), .int (nI (c.1 1)), .int (nI 1), .int (nI (c.1 3)), .int (nI (c.1 4)), .int (nI (c.1 5)), .ref (c.1 6), .int (nI (c.1 7)), .int (nI (c.1 8)), .ref (c.1 9), .int (nI (c.1 10))])), (c.1 6, .inl (ci 0, 60, .inl (nF (c.2 0)))), (c.1 9, .inl (ci 0, 60, .inl (nF (c.2 1))))] := hD
  refine lv_aload_n hx hb d_C_begin_5 rfl (lv_at hl 0 rfl) ?_
  refine lv_iload_n hx hb d_C_begin_6 rfl (lv_at hl 1 rfl) ?_
  refine va_put (D := D) (ci := 0) (v := .int (nI x)) (ty := .int) (C := R_C) (T := F_C) (N := 11) hx hb hT in_C t_C ty_C nm_C hown hK hP hD hS 0 rfl rfl 3 (by decide) (hT _ wd_98) (fun _ h9 => h9) rfl (by decide +kernel) rfl rfl (Nat.le_of_ble_eq_true rfl) d_C_begin_7 (fun H locs hP hD hS => ?_)
  replace hP : va_P D vwCl [(h, .inr (0, [.int (nI (c.1 0)), .int (nI (c.1 1)), .int (nI 1), .int (nI x), .int (nI (c.1 4)), .int (nI (c.1 5)), .ref (c.1 6), .int (nI (c.1 7)), .int (nI (c.1 8)), .ref (c.1 9), .int (nI (c.1 10))])), (c.1 6, .inl (ci 0, 60, .inl (nF (c.2 0)))), (c.1 9, .inl (ci 0, 60, .inl (nF (c.2 1))))] H := hP
  replace hD : va_D A9 [(h, .inr (0, [.int (nI (c.1 0)), .int (nI (c.1 1)), .int (nI 1), .int (nI x), .int (nI (c.1 4)), .int (nI (c.1 5)), .ref (c.1 6), .int (nI (c.1 7)), .int (nI (c.1 8)), .ref (c.1 9), .int (nI (c.1 10))])), (c.1 6, .inl (ci 0, 60, .inl (nF (c.2 0)))), (c.1 9, .inl (ci 0, 60, .inl (nF (c.2 1))))] := hD
  refine lv_aload_n hx hb d_C_begin_10 rfl (lv_at hl 0 rfl) ?_
  refine lv_iload_n hx hb d_C_begin_11 rfl (lv_at hl 2 rfl) ?_
  refine va_put (D := D) (ci := 0) (v := .int (nI y)) (ty := .int) (C := R_C) (T := F_C) (N := 11) hx hb hT in_C t_C ty_C nm_C hown hK hP hD hS 0 rfl rfl 4 (by decide) (hT _ wd_99) (fun _ h9 => h9) rfl (by decide +kernel) rfl rfl (Nat.le_of_ble_eq_true rfl) d_C_begin_12 (fun H locs hP hD hS => ?_)
  replace hP : va_P D vwCl [(h, .inr (0, [.int (nI (c.1 0)), .int (nI (c.1 1)), .int (nI 1), .int (nI x), .int (nI y), .int (nI (c.1 5)), .ref (c.1 6), .int (nI (c.1 7)), .int (nI (c.1 8)), .ref (c.1 9), .int (nI (c.1 10))])), (c.1 6, .inl (ci 0, 60, .inl (nF (c.2 0)))), (c.1 9, .inl (ci 0, 60, .inl (nF (c.2 1))))] H := hP
  replace hD : va_D A9 [(h, .inr (0, [.int (nI (c.1 0)), .int (nI (c.1 1)), .int (nI 1), .int (nI x), .int (nI y), .int (nI (c.1 5)), .ref (c.1 6), .int (nI (c.1 7)), .int (nI (c.1 8)), .ref (c.1 9), .int (nI (c.1 10))])), (c.1 6, .inl (ci 0, 60, .inl (nF (c.2 0)))), (c.1 9, .inl (ci 0, 60, .inl (nF (c.2 1))))] := hD
  refine lv_aload_n hx hb d_C_begin_15 rfl (lv_at hl 0 rfl) ?_
  refine lv_iconst (v := nI 0) hx hb d_C_begin_16 (by decide) ?_
  refine va_put (D := D) (ci := 0) (v := .int (nI 0)) (ty := .int) (C := R_C) (T := F_C) (N := 11) hx hb hT in_C t_C ty_C nm_C hown hK hP hD hS 0 rfl rfl 5 (by decide) (hT _ wd_100) (fun _ h9 => h9) rfl (by decide +kernel) rfl rfl (Nat.le_of_ble_eq_true rfl) d_C_begin_17 (fun H locs hP hD hS => ?_)
  replace hP : va_P D vwCl [(h, .inr (0, [.int (nI (c.1 0)), .int (nI (c.1 1)), .int (nI 1), .int (nI x), .int (nI y), .int (nI 0), .ref (c.1 6), .int (nI (c.1 7)), .int (nI (c.1 8)), .ref (c.1 9), .int (nI (c.1 10))])), (c.1 6, .inl (ci 0, 60, .inl (nF (c.2 0)))), (c.1 9, .inl (ci 0, 60, .inl (nF (c.2 1))))] H := hP
  replace hD : va_D A9 [(h, .inr (0, [.int (nI (c.1 0)), .int (nI (c.1 1)), .int (nI 1), .int (nI x), .int (nI y), .int (nI 0), .ref (c.1 6), .int (nI (c.1 7)), .int (nI (c.1 8)), .ref (c.1 9), .int (nI (c.1 10))])), (c.1 6, .inl (ci 0, 60, .inl (nF (c.2 0)))), (c.1 9, .inl (ci 0, 60, .inl (nF (c.2 1))))] := hD
  obtain rfl := Option.some.inj hF
  exact kR _ _ _ _ d_C_begin_20 hP hD hS
def fC_fill_L2 (k : ST) : Nat → Nat → ST → Option (Nat × ST)
  | 0, _, _ => none
  | fu + 1, i1, u2 => ss (i1 < 2147483648) ((if 16 ≤ i1 then some (i1, u2) else ss ((u2.1 5) < 2147483648) (ss ((u2.1 3) < 2147483648) ((if (u2.1 3) ≤ (u2.1 5) then some (i1, u2) else (if 60 ≤ (u2.1 5) then some (i1, u2) else ob (fP_byteAt k i1) (fun r12 => ss ((u2.1 5) < 60) (fC_fill_L2 k fu (i1 + 1) (sA (sI u2 5 ((u2.1 5) + 1)) 0 (va_up (u2.2 0) (u2.1 5) r12))))))))))
def fC_fill (c : ST) (k : ST) (x : Nat) : Option (Nat × ST) := ob (fC_fill_L2 k 100 x c) (fun o3 => ss ((o3.2.1 5) < 2147483648) (ss ((o3.2.1 3) < 2147483648) ((if (o3.2.1 5) < (o3.2.1 3) then some (0, o3.2) else some (1, o3.2)))))
abbrev rm_C_fill : Room := { frames := 2, cells := 0, slots := 0, locals := 41 }
set_option maxHeartbeats 4000000 in
set_option maxRecDepth 100000 in
theorem cC_fill (l : Launch) (D : va_G) (ci : Nat → ClassId) (h : Nat) (hp : Nat) (bp : Nat) (c : ST) (k : ST) (x : Nat) (o : Nat × ST) (hF : fC_fill c k x = some o) : CtI l y_C_fill w_C_fill rm_C_fill D vwCl (tyC ci) [.ref h, .ref hp, .int (nI x)] [(h, .inr (0, [.int (nI (c.1 0)), .int (nI (c.1 1)), .int (nI (c.1 2)), .int (nI (c.1 3)), .int (nI (c.1 4)), .int (nI (c.1 5)), .ref (c.1 6), .int (nI (c.1 7)), .int (nI (c.1 8)), .ref (c.1 9), .int (nI (c.1 10))])), (c.1 6, .inl (ci 0, 60, .inl (nF (c.2 0)))), (c.1 9, .inl (ci 0, 60, .inl (nF (c.2 1)))), (hp, .inr (1, [.ref bp, .int (nI (k.1 1))])), (bp, .inl (ci 0, 16, .inl (nF (k.2 0))))] (nI o.1) [(h, .inr (0, [.int (nI (o.2.1 0)), .int (nI (o.2.1 1)), .int (nI (o.2.1 2)), .int (nI (o.2.1 3)), .int (nI (o.2.1 4)), .int (nI (o.2.1 5)), .ref (o.2.1 6), .int (nI (o.2.1 7)), .int (nI (o.2.1 8)), .ref (o.2.1 9), .int (nI (o.2.1 10))])), (o.2.1 6, .inl (ci 0, 60, .inl (nF (o.2.2 0)))), (o.2.1 9, .inl (ci 0, 60, .inl (nF (o.2.2 1)))), (hp, .inr (1, [.ref bp, .int (nI (k.1 1))])), (bp, .inl (ci 0, 16, .inl (nF (k.2 0))))] := by
  refine ct_i (cc := b_C_fill) (maxL := 4) (plainFor_of_name (by decide)) rfl (Nat.le_of_ble_eq_true rfl) (fun p9 e9 s9 m9 args9 be9 me9 c9 A9 Q9 ls H0 hx hb hml hts hown hK hN hl hP hD hS hA kR => ?_)
  replace hl : lv_has ls 4 [(0, .ref h), (1, .ref hp), (2, .int (nI x))] := hl
  replace hP : va_P D vwCl [(h, .inr (0, [.int (nI (c.1 0)), .int (nI (c.1 1)), .int (nI (c.1 2)), .int (nI (c.1 3)), .int (nI (c.1 4)), .int (nI (c.1 5)), .ref (c.1 6), .int (nI (c.1 7)), .int (nI (c.1 8)), .ref (c.1 9), .int (nI (c.1 10))])), (c.1 6, .inl (ci 0, 60, .inl (nF (c.2 0)))), (c.1 9, .inl (ci 0, 60, .inl (nF (c.2 1)))), (hp, .inr (1, [.ref bp, .int (nI (k.1 1))])), (bp, .inl (ci 0, 16, .inl (nF (k.2 0))))] H0 := hP
  replace hD : va_D A9 [(h, .inr (0, [.int (nI (c.1 0)), .int (nI (c.1 1)), .int (nI (c.1 2)), .int (nI (c.1 3)), .int (nI (c.1 4)), .int (nI (c.1 5)), .ref (c.1 6), .int (nI (c.1 7)), .int (nI (c.1 8)), .ref (c.1 9), .int (nI (c.1 10))])), (c.1 6, .inl (ci 0, 60, .inl (nF (c.2 0)))), (c.1 9, .inl (ci 0, 60, .inl (nF (c.2 1)))), (hp, .inr (1, [.ref bp, .int (nI (k.1 1))])), (bp, .inl (ci 0, 16, .inl (nF (k.2 0))))] := hD
  replace hown : s9.vm.findClass R_C = some m9.cls := hown
  have hT : ∀ w ∈ lw_ok, w.before args9 s9 = true := fun w h => hts w (List.mem_cons_of_mem _ h)
  rw [fC_fill] at hF
  generalize hH : H0 = H at hP ⊢
  replace hS : va_S A9 H0 H [] := by rw [← hH]; exact hS
  clear hH
  generalize ([] : List Loc) = locs at hS ⊢
  refine lv_iload_n hx hb d_C_fill_0 rfl (lv_at hl 2 rfl) ?_
  refine lv_istore_n hx hb d_C_fill_1 rfl hl (by decide) rfl (fun ls hl => ?_)
  replace hl : lv_has ls 4 [(3, .int (nI x)), (0, .ref h), (1, .ref hp), (2, .int (nI x))] := hl
  have L15 : ∀ (fu : Nat) (i1 : Nat) (u2 : ST) (o3 : Nat × ST) (ls : Array Slot) (H : Heap) (locs : List Loc), fC_fill_L2 k fu i1 u2 = some o3 → lv_has ls 4 [(0, .ref h), (1, .ref hp), (2, .int (nI x)), (3, .int (nI i1))] → va_P D vwCl [(h, .inr (0, [.int (nI (u2.1 0)), .int (nI (u2.1 1)), .int (nI (u2.1 2)), .int (nI (u2.1 3)), .int (nI (u2.1 4)), .int (nI (u2.1 5)), .ref (u2.1 6), .int (nI (u2.1 7)), .int (nI (u2.1 8)), .ref (u2.1 9), .int (nI (u2.1 10))])), (u2.1 6, .inl (ci 0, 60, .inl (nF (u2.2 0)))), (u2.1 9, .inl (ci 0, 60, .inl (nF (u2.2 1)))), (hp, .inr (1, [.ref bp, .int (nI (k.1 1))])), (bp, .inl (ci 0, 16, .inl (nF (k.2 0))))] H → va_D A9 [(h, .inr (0, [.int (nI (u2.1 0)), .int (nI (u2.1 1)), .int (nI (u2.1 2)), .int (nI (u2.1 3)), .int (nI (u2.1 4)), .int (nI (u2.1 5)), .ref (u2.1 6), .int (nI (u2.1 7)), .int (nI (u2.1 8)), .ref (u2.1 9), .int (nI (u2.1 10))])), (u2.1 6, .inl (ci 0, 60, .inl (nF (u2.2 0)))), (u2.1 9, .inl (ci 0, 60, .inl (nF (u2.2 1)))), (hp, .inr (1, [.ref bp, .int (nI (k.1 1))])), (bp, .inl (ci 0, 16, .inl (nF (k.2 0))))] → va_S A9 H0 H locs → (∀ (ls : Array Slot) (H : Heap) (locs : List Loc), lv_has ls 4 [(0, .ref h), (1, .ref hp), (2, .int (nI x)), (3, .int (nI o3.1))] → va_P D vwCl [(h, .inr (0, [.int (nI (o3.2.1 0)), .int (nI (o3.2.1 1)), .int (nI (o3.2.1 2)), .int (nI (o3.2.1 3)), .int (nI (o3.2.1 4)), .int (nI (o3.2.1 5)), .ref (o3.2.1 6), .int (nI (o3.2.1 7)), .int (nI (o3.2.1 8)), .ref (o3.2.1 9), .int (nI (o3.2.1 10))])), (o3.2.1 6, .inl (ci 0, 60, .inl (nF (o3.2.2 0)))), (o3.2.1 9, .inl (ci 0, 60, .inl (nF (o3.2.2 1)))), (hp, .inr (1, [.ref bp, .int (nI (k.1 1))])), (bp, .inl (ci 0, 16, .inl (nF (k.2 0))))] H → va_D A9 [(h, .inr (0, [.int (nI (o3.2.1 0)), .int (nI (o3.2.1 1)), .int (nI (o3.2.1 2)), .int (nI (o3.2.1 3)), .int (nI (o3.2.1 4)), .int (nI (o3.2.1 5)), .ref (o3.2.1 6), .int (nI (o3.2.1 7)), .int (nI (o3.2.1 8)), .ref (o3.2.1 9), .int (nI (o3.2.1 10))])), (o3.2.1 6, .inl (ci 0, 60, .inl (nF (o3.2.2 0)))), (o3.2.1 9, .inl (ci 0, 60, .inl (nF (o3.2.2 1)))), (hp, .inr (1, [.ref bp, .int (nI (k.1 1))])), (bp, .inl (ci 0, 16, .inl (nF (k.2 0))))] → va_S A9 H0 H locs → W p9 l e9 rm_C_fill s9 m9 args9 be9 me9 c9 H locs 0 0 Q9 (F0 m9 58 ls [])) → W p9 l e9 rm_C_fill s9 m9 args9 be9 me9 c9 H locs 0 0 Q9 (F0 m9 2 ls []) := by
    intro fu
    induction fu with
    | zero => intro i1 u2 o3 ls H locs hF; rw [fC_fill_L2] at hF; cases hF
    | succ fu ih4 =>
      intro i1 u2 o3 ls H locs hF hl hP hD hS k5
      rw [fC_fill_L2] at hF
      refine lv_iload_n hx hb d_C_fill_2 rfl (lv_at hl 3 rfl) ?_
      refine lv_bipush (v := nI 16) hx hb d_C_fill_3 (by decide) ?_
      obtain ⟨b6, hF⟩ := ss_s hF
      refine ln_icmp_ge hx hb b6 (by decide) 58 d_C_fill_5 (by decide) (fun h7 => ?_) (fun h7 => ?_)
      · have hF := it_p hF h7
        obtain rfl := Option.some.inj hF
        have hl := lv_sub hl [0, 1, 2, 3] rfl
        exact k5 _ _ _ hl hP hD hS
      · have hF := it_n hF h7
        refine lv_aload_n hx hb d_C_fill_8 rfl (lv_at hl 0 rfl) ?_
        refine va_get (D := D) (ci := 0) (v := .int (nI (u2.1 5))) (C := R_C) (T := F_C) (N := 11) hx hb hT in_C hown hK hP 0 rfl rfl 5 (by decide) (hT _ wd_100) (fun _ h9 => h9) rfl d_C_fill_9 ?_
        refine lv_aload_n hx hb d_C_fill_12 rfl (lv_at hl 0 rfl) ?_
        refine va_get (D := D) (ci := 0) (v := .int (nI (u2.1 3))) (C := R_C) (T := F_C) (N := 11) hx hb hT in_C hown hK hP 0 rfl rfl 3 (by decide) (hT _ wd_98) (fun _ h9 => h9) rfl d_C_fill_13 ?_
        obtain ⟨b8, hF⟩ := ss_s hF
        obtain ⟨b9, hF⟩ := ss_s hF
        refine ln_icmp_ge hx hb b8 b9 58 d_C_fill_16 (by decide) (fun h10 => ?_) (fun h10 => ?_)
        · have hF := it_p hF h10
          obtain rfl := Option.some.inj hF
          have hl := lv_sub hl [0, 1, 2, 3] rfl
          exact k5 _ _ _ hl hP hD hS
        · have hF := it_n hF h10
          refine lv_aload_n hx hb d_C_fill_19 rfl (lv_at hl 0 rfl) ?_
          refine va_get (D := D) (ci := 0) (v := .int (nI (u2.1 5))) (C := R_C) (T := F_C) (N := 11) hx hb hT in_C hown hK hP 0 rfl rfl 5 (by decide) (hT _ wd_100) (fun _ h9 => h9) rfl d_C_fill_20 ?_
          refine lv_bipush (v := nI 60) hx hb d_C_fill_23 (by decide) ?_
          refine ln_icmp_ge hx hb b8 (by decide) 58 d_C_fill_25 (by decide) (fun h11 => ?_) (fun h11 => ?_)
          · have hF := it_p hF h11
            obtain rfl := Option.some.inj hF
            have hl := lv_sub hl [0, 1, 2, 3] rfl
            exact k5 _ _ _ hl hP hD hS
          · have hF := it_n hF h11
            refine lv_aload_n hx hb d_C_fill_28 rfl (lv_at hl 0 rfl) ?_
            refine va_get (D := D) (ci := 0) (v := .ref (u2.1 6)) (C := R_C) (T := F_C) (N := 11) hx hb hT in_C hown hK hP 0 rfl rfl 6 (by decide) (hT _ wd_101) (fun _ h9 => h9) rfl d_C_fill_29 ?_
            refine lv_aload_n hx hb d_C_fill_32 rfl (lv_at hl 0 rfl) ?_
            refine va_get (D := D) (ci := 0) (v := .int (nI (u2.1 5))) (C := R_C) (T := F_C) (N := 11) hx hb hT in_C hown hK hP 0 rfl rfl 5 (by decide) (hT _ wd_100) (fun _ h9 => h9) rfl d_C_fill_33 ?_
            refine lv_aload_n hx hb d_C_fill_36 rfl (lv_at hl 1 rfl) ?_
            refine lv_iload_n hx hb d_C_fill_37 rfl (lv_at hl 3 rfl) ?_
            obtain ⟨r12, g13, hF⟩ := ob_s hF
            refine ln_goi (va_runV (As := [.int (nI i1)]) (rest := [.int (nI (u2.1 5)), .ref (u2.1 6)]) ⟨hx, hb, hml, hown, hT⟩ (cP_byteAt l D ci hp bp k i1 _ g13 H.size) (cw_V 1 hT wd_346 wd_7 wd_307 wd_305 wd_306 (by decide +kernel) (by decide) (by decide)) (ln_preV 3 hK hN hP rfl rfl (hP.subM [3, 4] rfl) (hD.sub [3, 4] (by decide) rfl)) rfl rfl hl.1 rfl (lv_room (Nat.le_of_ble_eq_true rfl)) d_C_fill_38 ⟨Nat.zero_le _, Nat.zero_le _⟩) hP hD hS hA [3, 4] [0, 1, 2] [0, 1, 2, 3, 4] rfl rfl rfl (by decide) (by decide) (wn := [(h, .inr (0, [.int (nI (u2.1 0)), .int (nI (u2.1 1)), .int (nI (u2.1 2)), .int (nI (u2.1 3)), .int (nI (u2.1 4)), .int (nI (u2.1 5)), .ref (u2.1 6), .int (nI (u2.1 7)), .int (nI (u2.1 8)), .ref (u2.1 9), .int (nI (u2.1 10))])), (u2.1 6, .inl (ci 0, 60, .inl (nF (u2.2 0)))), (u2.1 9, .inl (ci 0, 60, .inl (nF (u2.2 1)))), (hp, .inr (1, [.ref bp, .int (nI (k.1 1))])), (bp, .inl (ci 0, 16, .inl (nF (k.2 0))))]) rfl (by decide) (fun H locs hP hD hS => ?_)
            obtain ⟨b14, hF⟩ := ss_s hF
            refine ln_ast hx hb hK hP hD hS 1 0 rfl rfl b14 (by decide) d_C_fill_41 (fun H locs hP hD hS => ?_)
            replace hP : va_P D vwCl [(h, .inr (0, [.int (nI (u2.1 0)), .int (nI (u2.1 1)), .int (nI (u2.1 2)), .int (nI (u2.1 3)), .int (nI (u2.1 4)), .int (nI (u2.1 5)), .ref (u2.1 6), .int (nI (u2.1 7)), .int (nI (u2.1 8)), .ref (u2.1 9), .int (nI (u2.1 10))])), (u2.1 6, .inl (ci 0, 60, .inl (nF (va_up (u2.2 0) (u2.1 5) r12)))), (u2.1 9, .inl (ci 0, 60, .inl (nF (u2.2 1)))), (hp, .inr (1, [.ref bp, .int (nI (k.1 1))])), (bp, .inl (ci 0, 16, .inl (nF (k.2 0))))] H := hP
            replace hD : va_D A9 [(h, .inr (0, [.int (nI (u2.1 0)), .int (nI (u2.1 1)), .int (nI (u2.1 2)), .int (nI (u2.1 3)), .int (nI (u2.1 4)), .int (nI (u2.1 5)), .ref (u2.1 6), .int (nI (u2.1 7)), .int (nI (u2.1 8)), .ref (u2.1 9), .int (nI (u2.1 10))])), (u2.1 6, .inl (ci 0, 60, .inl (nF (va_up (u2.2 0) (u2.1 5) r12)))), (u2.1 9, .inl (ci 0, 60, .inl (nF (u2.2 1)))), (hp, .inr (1, [.ref bp, .int (nI (k.1 1))])), (bp, .inl (ci 0, 16, .inl (nF (k.2 0))))] := hD
            refine lv_aload_n hx hb d_C_fill_42 rfl (lv_at hl 0 rfl) ?_
            refine lv_dup hx hb d_C_fill_43 rfl ?_
            refine va_get (D := D) (ci := 0) (v := .int (nI (u2.1 5))) (C := R_C) (T := F_C) (N := 11) hx hb hT in_C hown hK hP 0 rfl rfl 5 (by decide) (hT _ wd_100) (fun _ h9 => h9) rfl d_C_fill_44 ?_
            refine lv_iconst (v := nI 1) hx hb d_C_fill_47 (by decide) ?_
            refine ln_iadd hx hb d_C_fill_48 ?_
            refine va_put (D := D) (ci := 0) (v := .int (nI ((u2.1 5) + 1))) (ty := .int) (C := R_C) (T := F_C) (N := 11) hx hb hT in_C t_C ty_C nm_C hown hK hP hD hS 0 rfl rfl 5 (by decide) (hT _ wd_100) (fun _ h9 => h9) rfl (by decide +kernel) rfl rfl (Nat.le_of_ble_eq_true rfl) d_C_fill_49 (fun H locs hP hD hS => ?_)
            replace hP : va_P D vwCl [(h, .inr (0, [.int (nI (u2.1 0)), .int (nI (u2.1 1)), .int (nI (u2.1 2)), .int (nI (u2.1 3)), .int (nI (u2.1 4)), .int (nI ((u2.1 5) + 1)), .ref (u2.1 6), .int (nI (u2.1 7)), .int (nI (u2.1 8)), .ref (u2.1 9), .int (nI (u2.1 10))])), (u2.1 6, .inl (ci 0, 60, .inl (nF (va_up (u2.2 0) (u2.1 5) r12)))), (u2.1 9, .inl (ci 0, 60, .inl (nF (u2.2 1)))), (hp, .inr (1, [.ref bp, .int (nI (k.1 1))])), (bp, .inl (ci 0, 16, .inl (nF (k.2 0))))] H := hP
            replace hD : va_D A9 [(h, .inr (0, [.int (nI (u2.1 0)), .int (nI (u2.1 1)), .int (nI (u2.1 2)), .int (nI (u2.1 3)), .int (nI (u2.1 4)), .int (nI ((u2.1 5) + 1)), .ref (u2.1 6), .int (nI (u2.1 7)), .int (nI (u2.1 8)), .ref (u2.1 9), .int (nI (u2.1 10))])), (u2.1 6, .inl (ci 0, 60, .inl (nF (va_up (u2.2 0) (u2.1 5) r12)))), (u2.1 9, .inl (ci 0, 60, .inl (nF (u2.2 1)))), (hp, .inr (1, [.ref bp, .int (nI (k.1 1))])), (bp, .inl (ci 0, 16, .inl (nF (k.2 0))))] := hD
            refine ln_iinc (k := 3) (y := i1 + 1) hx hb d_C_fill_52 hl rfl (nI_inc _) (by decide) rfl (fun ls hl => ?_)
            replace hl : lv_has ls 4 [(3, .int (nI (i1 + 1))), (0, .ref h), (1, .ref hp), (2, .int (nI x))] := hl
            refine lv_goto (tgt := 2) hx hb d_C_fill_55 (by decide) ?_
            have hl := lv_sub hl [1, 2, 3, 0] rfl
            exact ih4 _ _ _ _ _ _ hF hl hP hD hS k5
  obtain ⟨o3, g16, hF⟩ := ob_s hF
  have hl := lv_sub hl [1, 2, 3, 0] rfl
  refine L15 _ _ _ _ _ _ _ g16 hl hP hD hS (fun ls H locs hl hP hD hS => ?_)
  refine lv_aload_n hx hb d_C_fill_58 rfl (lv_at hl 0 rfl) ?_
  refine va_get (D := D) (ci := 0) (v := .int (nI (o3.2.1 5))) (C := R_C) (T := F_C) (N := 11) hx hb hT in_C hown hK hP 0 rfl rfl 5 (by decide) (hT _ wd_100) (fun _ h9 => h9) rfl d_C_fill_59 ?_
  refine lv_aload_n hx hb d_C_fill_62 rfl (lv_at hl 0 rfl) ?_
  refine va_get (D := D) (ci := 0) (v := .int (nI (o3.2.1 3))) (C := R_C) (T := F_C) (N := 11) hx hb hT in_C hown hK hP 0 rfl rfl 3 (by decide) (hT _ wd_98) (fun _ h9 => h9) rfl d_C_fill_63 ?_
  obtain ⟨b17, hF⟩ := ss_s hF
  obtain ⟨b18, hF⟩ := ss_s hF
  refine ln_icmp_lt hx hb b17 b18 73 d_C_fill_66 (by decide) (fun h19 => ?_) (fun h19 => ?_)
  · have hF := it_p hF h19
    refine lv_iconst (v := nI 0) hx hb d_C_fill_73 (by decide) ?_
    obtain rfl := Option.some.inj hF
    exact kR _ _ _ _ d_C_fill_74 (nar_b (x := 0) (by decide)) hP hD hS
  · have hF := it_n hF h19
    refine lv_iconst (v := nI 1) hx hb d_C_fill_69 (by decide) ?_
    refine lv_goto (tgt := 74) hx hb d_C_fill_70 (by decide) ?_
    obtain rfl := Option.some.inj hF
    exact kR _ _ _ _ d_C_fill_74 (nar_b (x := 1) (by decide)) hP hD hS
def fC_keepAsLatest (c : ST)  : Option (ST) := some (sA (sA (sI (sI (sI (sI (sI (sI c 2 0) 6 (c.1 9)) 7 (c.1 3)) 8 (c.1 4)) 9 (c.1 6)) 10 ((c.1 10) + 1)) 0 (c.2 1)) 1 (c.2 0))
abbrev rm_C_keepAsLatest : Room := { frames := 0, cells := 0, slots := 0, locals := 0 }
set_option maxHeartbeats 4000000 in
set_option maxRecDepth 100000 in
theorem cC_keepAsLatest (l : Launch) (D : va_G) (ci : Nat → ClassId) (h : Nat) (c : ST)  (o : ST) (hF : fC_keepAsLatest c = some o) : CtV l y_C_keepAsLatest w_C_keepAsLatest rm_C_keepAsLatest D vwCl (tyC ci) [.ref h] [(h, .inr (0, [.int (nI (c.1 0)), .int (nI (c.1 1)), .int (nI (c.1 2)), .int (nI (c.1 3)), .int (nI (c.1 4)), .int (nI (c.1 5)), .ref (c.1 6), .int (nI (c.1 7)), .int (nI (c.1 8)), .ref (c.1 9), .int (nI (c.1 10))])), (c.1 6, .inl (ci 0, 60, .inl (nF (c.2 0)))), (c.1 9, .inl (ci 0, 60, .inl (nF (c.2 1))))] [(h, .inr (0, [.int (nI (o.1 0)), .int (nI (o.1 1)), .int (nI (o.1 2)), .int (nI (o.1 3)), .int (nI (o.1 4)), .int (nI (o.1 5)), .ref (o.1 6), .int (nI (o.1 7)), .int (nI (o.1 8)), .ref (o.1 9), .int (nI (o.1 10))])), (o.1 6, .inl (ci 0, 60, .inl (nF (o.2 0)))), (o.1 9, .inl (ci 0, 60, .inl (nF (o.2 1))))] := by
  refine ct_v (cc := b_C_keepAsLatest) (maxL := 2) (plainFor_of_name (by decide)) rfl (Nat.le_of_ble_eq_true rfl) (fun p9 e9 s9 m9 args9 be9 me9 c9 A9 Q9 ls H0 hx hb hml hts hown hK hN hl hP hD hS hA kR => ?_)
  replace hl : lv_has ls 2 [(0, .ref h)] := hl
  replace hP : va_P D vwCl [(h, .inr (0, [.int (nI (c.1 0)), .int (nI (c.1 1)), .int (nI (c.1 2)), .int (nI (c.1 3)), .int (nI (c.1 4)), .int (nI (c.1 5)), .ref (c.1 6), .int (nI (c.1 7)), .int (nI (c.1 8)), .ref (c.1 9), .int (nI (c.1 10))])), (c.1 6, .inl (ci 0, 60, .inl (nF (c.2 0)))), (c.1 9, .inl (ci 0, 60, .inl (nF (c.2 1))))] H0 := hP
  replace hD : va_D A9 [(h, .inr (0, [.int (nI (c.1 0)), .int (nI (c.1 1)), .int (nI (c.1 2)), .int (nI (c.1 3)), .int (nI (c.1 4)), .int (nI (c.1 5)), .ref (c.1 6), .int (nI (c.1 7)), .int (nI (c.1 8)), .ref (c.1 9), .int (nI (c.1 10))])), (c.1 6, .inl (ci 0, 60, .inl (nF (c.2 0)))), (c.1 9, .inl (ci 0, 60, .inl (nF (c.2 1))))] := hD
  replace hown : s9.vm.findClass R_C = some m9.cls := hown
  have hT : ∀ w ∈ lw_ok, w.before args9 s9 = true := fun w h => hts w (List.mem_cons_of_mem _ h)
  rw [fC_keepAsLatest] at hF
  generalize hH : H0 = H at hP ⊢
  replace hS : va_S A9 H0 H [] := by rw [← hH]; exact hS
  clear hH
  generalize ([] : List Loc) = locs at hS ⊢
  refine lv_aload_n hx hb d_C_keepAsLatest_0 rfl (lv_at hl 0 rfl) ?_
  refine va_get (D := D) (ci := 0) (v := .ref (c.1 9)) (C := R_C) (T := F_C) (N := 11) hx hb hT in_C hown hK hP 0 rfl rfl 9 (by decide) (hT _ wd_107) (fun _ h9 => h9) rfl d_C_keepAsLatest_1 ?_
  refine lv_astore_n hx hb d_C_keepAsLatest_4 rfl hl (by decide) rfl (fun ls hl => ?_)
  replace hl : lv_has ls 2 [(1, .ref (c.1 9)), (0, .ref h)] := hl
  refine lv_aload_n hx hb d_C_keepAsLatest_5 rfl (lv_at hl 1 rfl) ?_
  refine lv_aload_n hx hb d_C_keepAsLatest_6 rfl (lv_at hl 1 rfl) ?_
  refine va_get (D := D) (ci := 0) (v := .ref (c.1 6)) (C := R_C) (T := F_C) (N := 11) hx hb hT in_C hown hK hP 0 rfl rfl 6 (by decide) (hT _ wd_101) (fun _ h9 => h9) rfl d_C_keepAsLatest_7 ?_
  refine va_put (D := D) (ci := 0) (v := .ref (c.1 6)) (ty := (.array .int)) (C := R_C) (T := F_C) (N := 11) hx hb hT in_C t_C ty_C nm_C hown hK hP hD hS 0 rfl rfl 9 (by decide) (hT _ wd_107) (fun _ h9 => h9) rfl (by decide +kernel) rfl rfl (Nat.le_of_ble_eq_true rfl) d_C_keepAsLatest_10 (fun H locs hP hD hS => ?_)
  replace hP : va_P D vwCl [(h, .inr (0, [.int (nI (c.1 0)), .int (nI (c.1 1)), .int (nI (c.1 2)), .int (nI (c.1 3)), .int (nI (c.1 4)), .int (nI (c.1 5)), .ref (c.1 6), .int (nI (c.1 7)), .int (nI (c.1 8)), .ref (c.1 6), .int (nI (c.1 10))])), (c.1 6, .inl (ci 0, 60, .inl (nF (c.2 0)))), (c.1 9, .inl (ci 0, 60, .inl (nF (c.2 1))))] H := hP
  replace hD : va_D A9 [(h, .inr (0, [.int (nI (c.1 0)), .int (nI (c.1 1)), .int (nI (c.1 2)), .int (nI (c.1 3)), .int (nI (c.1 4)), .int (nI (c.1 5)), .ref (c.1 6), .int (nI (c.1 7)), .int (nI (c.1 8)), .ref (c.1 6), .int (nI (c.1 10))])), (c.1 6, .inl (ci 0, 60, .inl (nF (c.2 0)))), (c.1 9, .inl (ci 0, 60, .inl (nF (c.2 1))))] := hD
  refine lv_aload_n hx hb d_C_keepAsLatest_13 rfl (lv_at hl 1 rfl) ?_
  refine lv_aload_n hx hb d_C_keepAsLatest_14 rfl (lv_at hl 0 rfl) ?_
  refine va_put (D := D) (ci := 0) (v := .ref (c.1 9)) (ty := (.array .int)) (C := R_C) (T := F_C) (N := 11) hx hb hT in_C t_C ty_C nm_C hown hK hP hD hS 0 rfl rfl 6 (by decide) (hT _ wd_101) (fun _ h9 => h9) rfl (by decide +kernel) rfl rfl (Nat.le_of_ble_eq_true rfl) d_C_keepAsLatest_15 (fun H locs hP hD hS => ?_)
  replace hP : va_P D vwCl [(h, .inr (0, [.int (nI (c.1 0)), .int (nI (c.1 1)), .int (nI (c.1 2)), .int (nI (c.1 3)), .int (nI (c.1 4)), .int (nI (c.1 5)), .ref (c.1 9), .int (nI (c.1 7)), .int (nI (c.1 8)), .ref (c.1 6), .int (nI (c.1 10))])), (c.1 6, .inl (ci 0, 60, .inl (nF (c.2 0)))), (c.1 9, .inl (ci 0, 60, .inl (nF (c.2 1))))] H := hP
  replace hD : va_D A9 [(h, .inr (0, [.int (nI (c.1 0)), .int (nI (c.1 1)), .int (nI (c.1 2)), .int (nI (c.1 3)), .int (nI (c.1 4)), .int (nI (c.1 5)), .ref (c.1 9), .int (nI (c.1 7)), .int (nI (c.1 8)), .ref (c.1 6), .int (nI (c.1 10))])), (c.1 6, .inl (ci 0, 60, .inl (nF (c.2 0)))), (c.1 9, .inl (ci 0, 60, .inl (nF (c.2 1))))] := hD
  refine lv_aload_n hx hb d_C_keepAsLatest_18 rfl (lv_at hl 1 rfl) ?_
  refine lv_aload_n hx hb d_C_keepAsLatest_19 rfl (lv_at hl 1 rfl) ?_
  refine va_get (D := D) (ci := 0) (v := .int (nI (c.1 3))) (C := R_C) (T := F_C) (N := 11) hx hb hT in_C hown hK hP 0 rfl rfl 3 (by decide) (hT _ wd_98) (fun _ h9 => h9) rfl d_C_keepAsLatest_20 ?_
  refine va_put (D := D) (ci := 0) (v := .int (nI (c.1 3))) (ty := .int) (C := R_C) (T := F_C) (N := 11) hx hb hT in_C t_C ty_C nm_C hown hK hP hD hS 0 rfl rfl 7 (by decide) (hT _ wd_102) (fun _ h9 => h9) rfl (by decide +kernel) rfl rfl (Nat.le_of_ble_eq_true rfl) d_C_keepAsLatest_23 (fun H locs hP hD hS => ?_)
  replace hP : va_P D vwCl [(h, .inr (0, [.int (nI (c.1 0)), .int (nI (c.1 1)), .int (nI (c.1 2)), .int (nI (c.1 3)), .int (nI (c.1 4)), .int (nI (c.1 5)), .ref (c.1 9), .int (nI (c.1 3)), .int (nI (c.1 8)), .ref (c.1 6), .int (nI (c.1 10))])), (c.1 6, .inl (ci 0, 60, .inl (nF (c.2 0)))), (c.1 9, .inl (ci 0, 60, .inl (nF (c.2 1))))] H := hP
  replace hD : va_D A9 [(h, .inr (0, [.int (nI (c.1 0)), .int (nI (c.1 1)), .int (nI (c.1 2)), .int (nI (c.1 3)), .int (nI (c.1 4)), .int (nI (c.1 5)), .ref (c.1 9), .int (nI (c.1 3)), .int (nI (c.1 8)), .ref (c.1 6), .int (nI (c.1 10))])), (c.1 6, .inl (ci 0, 60, .inl (nF (c.2 0)))), (c.1 9, .inl (ci 0, 60, .inl (nF (c.2 1))))] := hD
  refine lv_aload_n hx hb d_C_keepAsLatest_26 rfl (lv_at hl 1 rfl) ?_
  refine lv_aload_n hx hb d_C_keepAsLatest_27 rfl (lv_at hl 1 rfl) ?_
  refine va_get (D := D) (ci := 0) (v := .int (nI (c.1 4))) (C := R_C) (T := F_C) (N := 11) hx hb hT in_C hown hK hP 0 rfl rfl 4 (by decide) (hT _ wd_99) (fun _ h9 => h9) rfl d_C_keepAsLatest_28 ?_
  refine va_put (D := D) (ci := 0) (v := .int (nI (c.1 4))) (ty := .int) (C := R_C) (T := F_C) (N := 11) hx hb hT in_C t_C ty_C nm_C hown hK hP hD hS 0 rfl rfl 8 (by decide) (hT _ wd_104) (fun _ h9 => h9) rfl (by decide +kernel) rfl rfl (Nat.le_of_ble_eq_true rfl) d_C_keepAsLatest_31 (fun H locs hP hD hS => ?_)
  replace hP : va_P D vwCl [(h, .inr (0, [.int (nI (c.1 0)), .int (nI (c.1 1)), .int (nI (c.1 2)), .int (nI (c.1 3)), .int (nI (c.1 4)), .int (nI (c.1 5)), .ref (c.1 9), .int (nI (c.1 3)), .int (nI (c.1 4)), .ref (c.1 6), .int (nI (c.1 10))])), (c.1 6, .inl (ci 0, 60, .inl (nF (c.2 0)))), (c.1 9, .inl (ci 0, 60, .inl (nF (c.2 1))))] H := hP
  replace hD : va_D A9 [(h, .inr (0, [.int (nI (c.1 0)), .int (nI (c.1 1)), .int (nI (c.1 2)), .int (nI (c.1 3)), .int (nI (c.1 4)), .int (nI (c.1 5)), .ref (c.1 9), .int (nI (c.1 3)), .int (nI (c.1 4)), .ref (c.1 6), .int (nI (c.1 10))])), (c.1 6, .inl (ci 0, 60, .inl (nF (c.2 0)))), (c.1 9, .inl (ci 0, 60, .inl (nF (c.2 1))))] := hD
  refine lv_aload_n hx hb d_C_keepAsLatest_34 rfl (lv_at hl 1 rfl) ?_
  refine lv_dup hx hb d_C_keepAsLatest_35 rfl ?_
  refine va_get (D := D) (ci := 0) (v := .int (nI (c.1 10))) (C := R_C) (T := F_C) (N := 11) hx hb hT in_C hown hK hP 0 rfl rfl 10 (by decide) (hT _ wd_109) (fun _ h9 => h9) rfl d_C_keepAsLatest_36 ?_
  refine lv_iconst (v := nI 1) hx hb d_C_keepAsLatest_39 (by decide) ?_
  refine ln_iadd hx hb d_C_keepAsLatest_40 ?_
  refine va_put (D := D) (ci := 0) (v := .int (nI ((c.1 10) + 1))) (ty := .int) (C := R_C) (T := F_C) (N := 11) hx hb hT in_C t_C ty_C nm_C hown hK hP hD hS 0 rfl rfl 10 (by decide) (hT _ wd_109) (fun _ h9 => h9) rfl (by decide +kernel) rfl rfl (Nat.le_of_ble_eq_true rfl) d_C_keepAsLatest_41 (fun H locs hP hD hS => ?_)
  replace hP : va_P D vwCl [(h, .inr (0, [.int (nI (c.1 0)), .int (nI (c.1 1)), .int (nI (c.1 2)), .int (nI (c.1 3)), .int (nI (c.1 4)), .int (nI (c.1 5)), .ref (c.1 9), .int (nI (c.1 3)), .int (nI (c.1 4)), .ref (c.1 6), .int (nI ((c.1 10) + 1))])), (c.1 6, .inl (ci 0, 60, .inl (nF (c.2 0)))), (c.1 9, .inl (ci 0, 60, .inl (nF (c.2 1))))] H := hP
  replace hD : va_D A9 [(h, .inr (0, [.int (nI (c.1 0)), .int (nI (c.1 1)), .int (nI (c.1 2)), .int (nI (c.1 3)), .int (nI (c.1 4)), .int (nI (c.1 5)), .ref (c.1 9), .int (nI (c.1 3)), .int (nI (c.1 4)), .ref (c.1 6), .int (nI ((c.1 10) + 1))])), (c.1 6, .inl (ci 0, 60, .inl (nF (c.2 0)))), (c.1 9, .inl (ci 0, 60, .inl (nF (c.2 1))))] := hD
  refine lv_aload_n hx hb d_C_keepAsLatest_44 rfl (lv_at hl 1 rfl) ?_
  refine lv_iconst (v := nI 0) hx hb d_C_keepAsLatest_45 (by decide) ?_
  refine va_put (D := D) (ci := 0) (v := .int (nI 0)) (ty := .boolean) (C := R_C) (T := F_C) (N := 11) hx hb hT in_C t_C ty_C nm_C hown hK hP hD hS 0 rfl rfl 2 (by decide) (hT _ wd_96) (fun _ h9 => h9) rfl (by decide +kernel) (by decide) (by decide) (Nat.le_of_ble_eq_true rfl) d_C_keepAsLatest_46 (fun H locs hP hD hS => ?_)
  replace hP : va_P D vwCl [(h, .inr (0, [.int (nI (c.1 0)), .int (nI (c.1 1)), .int (nI 0), .int (nI (c.1 3)), .int (nI (c.1 4)), .int (nI (c.1 5)), .ref (c.1 9), .int (nI (c.1 3)), .int (nI (c.1 4)), .ref (c.1 6), .int (nI ((c.1 10) + 1))])), (c.1 6, .inl (ci 0, 60, .inl (nF (c.2 0)))), (c.1 9, .inl (ci 0, 60, .inl (nF (c.2 1))))] H := hP
  replace hD : va_D A9 [(h, .inr (0, [.int (nI (c.1 0)), .int (nI (c.1 1)), .int (nI 0), .int (nI (c.1 3)), .int (nI (c.1 4)), .int (nI (c.1 5)), .ref (c.1 9), .int (nI (c.1 3)), .int (nI (c.1 4)), .ref (c.1 6), .int (nI ((c.1 10) + 1))])), (c.1 6, .inl (ci 0, 60, .inl (nF (c.2 0)))), (c.1 9, .inl (ci 0, 60, .inl (nF (c.2 1))))] := hD
  obtain rfl := Option.some.inj hF
  have hP : va_P D vwCl [(h, .inr (0, [.int (nI (c.1 0)), .int (nI (c.1 1)), .int (nI 0), .int (nI (c.1 3)), .int (nI (c.1 4)), .int (nI (c.1 5)), .ref (c.1 9), .int (nI (c.1 3)), .int (nI (c.1 4)), .ref (c.1 6), .int (nI ((c.1 10) + 1))])), (c.1 9, .inl (ci 0, 60, .inl (nF (c.2 1)))), (c.1 6, .inl (ci 0, 60, .inl (nF (c.2 0))))] H := hP.subM [0, 2, 1] rfl
  have hD : va_D A9 [(h, .inr (0, [.int (nI (c.1 0)), .int (nI (c.1 1)), .int (nI 0), .int (nI (c.1 3)), .int (nI (c.1 4)), .int (nI (c.1 5)), .ref (c.1 9), .int (nI (c.1 3)), .int (nI (c.1 4)), .ref (c.1 6), .int (nI ((c.1 10) + 1))])), (c.1 9, .inl (ci 0, 60, .inl (nF (c.2 1)))), (c.1 6, .inl (ci 0, 60, .inl (nF (c.2 0))))] := hD.sub [0, 2, 1] (by decide) rfl
  exact kR _ _ _ _ d_C_keepAsLatest_49 hP hD hS
