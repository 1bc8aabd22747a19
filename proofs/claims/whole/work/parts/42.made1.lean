abbrev rm_U_init : Room := { frames := 1, cells := 3, slots := 24, locals := 20 }
set_option maxHeartbeats 4000000 in
set_option maxRecDepth 100000 in
theorem cU_init (l : Launch) (D : va_G) (ci : Nat → ClassId) (h : Nat)  : CtN l y_U_init w_U_init rm_U_init D vwCl (tyC ci) [.ref h] [(h, .inr (4, [.null, .null, .null, .int (nI 0)]))] 3 24 (fun _ => True) (fun u => [(h, .inr (4, [.ref (u 1), .ref (u 2), .ref (u 3), .int (nI 0)])), ((u 1), .inl (ci 0, 8, .inl (nF (fun _ => 0)))), ((u 2), .inl (ci 0, 8, .inl (nF (fun _ => 0)))), ((u 3), .inl (ci 0, 8, .inl (nF (fun _ => 0))))]) := by
  refine ct_n (cc := b_U_init) (maxL := 1) (plainFor_of_name (by decide)) rfl (Nat.le_of_ble_eq_true rfl) (fun p9 e9 s9 m9 args9 be9 me9 c9 A9 Q9 ls H0 hx hb hml hts hown hin hK hN hO hl hP hD hS hA kR => ?_)
  replace hl : lv_has ls 1 [(0, .ref h)] := hl
  replace hP : va_P D vwCl [(h, .inr (4, [.null, .null, .null, .int (nI 0)]))] H0 := hP
  replace hD : va_D A9 [(h, .inr (4, [.null, .null, .null, .int (nI 0)]))] := hD
  replace hown : s9.vm.findClass R_U = some m9.cls := hown
  replace hin : me9.name = "<init>" := hin
  have hT : ∀ w ∈ lw_ok, w.before args9 s9 = true := fun w h => hts w (List.mem_cons_of_mem _ h)
  generalize hH : H0 = H at hP ⊢
  replace hS : va_S A9 H0 H [] := by rw [← hH]; exact hS
  clear hH
  generalize ([] : List Loc) = locs at hS ⊢
  refine lv_aload_n hx hb d_U_init_0 rfl (lv_at hl 0 rfl) ?_
  refine W.objInit hx hb hown (hT _ wd_35) (hT _ wd_15) (hT _ wd_16) rfl (hl.1.trans hml.symm) rfl d_U_init_1 (Nat.le_of_ble_eq_true rfl) (Nat.le_of_ble_eq_true rfl) ?_
  refine W.eq (g2 := F0 m9 4 ls []) rfl ?_
  refine lv_aload_n hx hb d_U_init_4 rfl (lv_at hl 0 rfl) ?_
  refine lv_bipush (v := nI 8) hx hb d_U_init_5 (by decide) ?_
  refine ln_newI hx hb (hT _ wd_50) hK hP hD hS hA (by decide) (by decide) (by decide) d_U_init_7 (fun q1 H hP hD hS => ?_)
  replace hP : va_P D vwCl [(h, .inr (4, [.null, .null, .null, .int (nI 0)])), (q1, .inl (ci 0, 8, .inl (nF (fun _ => 0))))] H := hP
  replace hD : va_D A9 [(h, .inr (4, [.null, .null, .null, .int (nI 0)])), (q1, .inl (ci 0, 8, .inl (nF (fun _ => 0))))] := hD
  refine va_putF (D := D) (ci := 4) (v := .ref q1) (ty := t_U 0) (C := R_U) (T := F_U) (N := 4) hx hb hT in_U t_U ty_U nm_U hown hK hP hD hS 0 rfl rfl 0 (by decide) (hT _ wd_36) (fun _ h9 => h9) rfl hin rfl (by decide +kernel) rfl rfl (Nat.le_of_ble_eq_true rfl) d_U_init_9 (fun H locs hP hD hS => ?_)
  replace hP : va_P D vwCl [(h, .inr (4, [.ref q1, .null, .null, .int (nI 0)])), (q1, .inl (ci 0, 8, .inl (nF (fun _ => 0))))] H := hP
  replace hD : va_D A9 [(h, .inr (4, [.ref q1, .null, .null, .int (nI 0)])), (q1, .inl (ci 0, 8, .inl (nF (fun _ => 0))))] := hD
  refine lv_aload_n hx hb d_U_init_12 rfl (lv_at hl 0 rfl) ?_
  refine lv_bipush (v := nI 8) hx hb d_U_init_13 (by decide) ?_
  refine ln_newI hx hb (hT _ wd_50) hK hP hD hS hA (by decide) (by decide) (by decide) d_U_init_15 (fun q2 H hP hD hS => ?_)
  replace hP : va_P D vwCl [(h, .inr (4, [.ref q1, .null, .null, .int (nI 0)])), (q1, .inl (ci 0, 8, .inl (nF (fun _ => 0)))), (q2, .inl (ci 0, 8, .inl (nF (fun _ => 0))))] H := hP
  replace hD : va_D A9 [(h, .inr (4, [.ref q1, .null, .null, .int (nI 0)])), (q1, .inl (ci 0, 8, .inl (nF (fun _ => 0)))), (q2, .inl (ci 0, 8, .inl (nF (fun _ => 0))))] := hD
  refine va_putF (D := D) (ci := 4) (v := .ref q2) (ty := t_U 1) (C := R_U) (T := F_U) (N := 4) hx hb hT in_U t_U ty_U nm_U hown hK hP hD hS 0 rfl rfl 1 (by decide) (hT _ wd_37) (fun _ h9 => h9) rfl hin rfl (by decide +kernel) rfl rfl (Nat.le_of_ble_eq_true rfl) d_U_init_17 (fun H locs hP hD hS => ?_)
  replace hP : va_P D vwCl [(h, .inr (4, [.ref q1, .ref q2, .null, .int (nI 0)])), (q1, .inl (ci 0, 8, .inl (nF (fun _ => 0)))), (q2, .inl (ci 0, 8, .inl (nF (fun _ => 0))))] H := hP
  replace hD : va_D A9 [(h, .inr (4, [.ref q1, .ref q2, .null, .int (nI 0)])), (q1, .inl (ci 0, 8, .inl (nF (fun _ => 0)))), (q2, .inl (ci 0, 8, .inl (nF (fun _ => 0))))] := hD
  refine lv_aload_n hx hb d_U_init_20 rfl (lv_at hl 0 rfl) ?_
  refine lv_bipush (v := nI 8) hx hb d_U_init_21 (by decide) ?_
  refine ln_newI hx hb (hT _ wd_50) hK hP hD hS hA (by decide) (by decide) (by decide) d_U_init_23 (fun q3 H hP hD hS => ?_)
  replace hP : va_P D vwCl [(h, .inr (4, [.ref q1, .ref q2, .null, .int (nI 0)])), (q1, .inl (ci 0, 8, .inl (nF (fun _ => 0)))), (q2, .inl (ci 0, 8, .inl (nF (fun _ => 0)))), (q3, .inl (ci 0, 8, .inl (nF (fun _ => 0))))] H := hP
  replace hD : va_D A9 [(h, .inr (4, [.ref q1, .ref q2, .null, .int (nI 0)])), (q1, .inl (ci 0, 8, .inl (nF (fun _ => 0)))), (q2, .inl (ci 0, 8, .inl (nF (fun _ => 0)))), (q3, .inl (ci 0, 8, .inl (nF (fun _ => 0))))] := hD
  refine va_putF (D := D) (ci := 4) (v := .ref q3) (ty := t_U 2) (C := R_U) (T := F_U) (N := 4) hx hb hT in_U t_U ty_U nm_U hown hK hP hD hS 0 rfl rfl 2 (by decide) (hT _ wd_38) (fun _ h9 => h9) rfl hin rfl (by decide +kernel) rfl rfl (Nat.le_of_ble_eq_true rfl) d_U_init_25 (fun H locs hP hD hS => ?_)
  replace hP : va_P D vwCl [(h, .inr (4, [.ref q1, .ref q2, .ref q3, .int (nI 0)])), (q1, .inl (ci 0, 8, .inl (nF (fun _ => 0)))), (q2, .inl (ci 0, 8, .inl (nF (fun _ => 0)))), (q3, .inl (ci 0, 8, .inl (nF (fun _ => 0))))] H := hP
  replace hD : va_D A9 [(h, .inr (4, [.ref q1, .ref q2, .ref q3, .int (nI 0)])), (q1, .inl (ci 0, 8, .inl (nF (fun _ => 0)))), (q2, .inl (ci 0, 8, .inl (nF (fun _ => 0)))), (q3, .inl (ci 0, 8, .inl (nF (fun _ => 0))))] := hD
  exact kR _ _ _ _ (fun k => ([h, q1, q2, q3] : List Nat).getD k 0) d_U_init_28 trivial hP hD hS
abbrev rm_S_init : Room := { frames := 2, cells := 8, slots := 56, locals := 40 }
set_option maxHeartbeats 4000000 in
set_option maxRecDepth 100000 in
theorem cS_init (l : Launch) (D : va_G) (ci : Nat → ClassId) (h : Nat)  : CtN l y_S_init w_S_init rm_S_init D vwCl (tyC ci) [.ref h] [(h, .inr (3, [.null, .null, .int (nI 0), .int (nI 0), .int (nI 0), .int (nI 0), .int (nI 0), .int (nI 0)]))] 8 56 (fun _ => True) (fun u => [(h, .inr (3, [.ref (u 1), .ref (u 5), .int (nI 0), .int (nI 0), .int (nI 0), .int (nI 0), .int (nI 0), .int (nI 0)])), ((u 1), .inr (4, [.ref (u 2), .ref (u 3), .ref (u 4), .int (nI 0)])), ((u 2), .inl (ci 0, 8, .inl (nF (fun _ => 0)))), ((u 3), .inl (ci 0, 8, .inl (nF (fun _ => 0)))), ((u 4), .inl (ci 0, 8, .inl (nF (fun _ => 0)))), ((u 5), .inr (4, [.ref (u 6), .ref (u 7), .ref (u 8), .int (nI 0)])), ((u 6), .inl (ci 0, 8, .inl (nF (fun _ => 0)))), ((u 7), .inl (ci 0, 8, .inl (nF (fun _ => 0)))), ((u 8), .inl (ci 0, 8, .inl (nF (fun _ => 0))))]) := by
  refine ct_n (cc := b_S_init) (maxL := 1) (plainFor_of_name (by decide)) rfl (Nat.le_of_ble_eq_true rfl) (fun p9 e9 s9 m9 args9 be9 me9 c9 A9 Q9 ls H0 hx hb hml hts hown hin hK hN hO hl hP hD hS hA kR => ?_)
  replace hl : lv_has ls 1 [(0, .ref h)] := hl
  replace hP : va_P D vwCl [(h, .inr (3, [.null, .null, .int (nI 0), .int (nI 0), .int (nI 0), .int (nI 0), .int (nI 0), .int (nI 0)]))] H0 := hP
  replace hD : va_D A9 [(h, .inr (3, [.null, .null, .int (nI 0), .int (nI 0), .int (nI 0), .int (nI 0), .int (nI 0), .int (nI 0)]))] := hD
  replace hown : s9.vm.findClass R_S = some m9.cls := hown
  replace hin : me9.name = "<init>" := hin
  have hT : ∀ w ∈ lw_ok, w.before args9 s9 = true := fun w h => hts w (List.mem_cons_of_mem _ h)
  generalize hH : H0 = H at hP ⊢
  replace hS : va_S A9 H0 H [] := by rw [← hH]; exact hS
  clear hH
  generalize ([] : List Loc) = locs at hS ⊢
  refine lv_aload_n hx hb d_S_init_0 rfl (lv_at hl 0 rfl) ?_
  refine W.objInit hx hb hown (hT _ wd_29) (hT _ wd_15) (hT _ wd_16) rfl (hl.1.trans hml.symm) rfl d_S_init_1 (Nat.le_of_ble_eq_true rfl) (Nat.le_of_ble_eq_true rfl) ?_
  refine W.eq (g2 := F0 m9 4 ls []) rfl ?_
  refine lv_aload_n hx hb d_S_init_4 rfl (lv_at hl 0 rfl) ?_
  refine va_new (ci := 4) (fs := [.null, .null, .null, .int (nI 0)]) (C := R_U) (T := F_U) (N := 4) hx hb hT in_U t_U ty_U hown (hT _ wd_30) (hT _ wd_31) (hT _ wd_4) hK hP hD hS hA rfl df_U (by decide) (by decide) d_S_init_5 (fun q1 H hP hD hS => ?_)
  replace hP : va_P D vwCl [(h, .inr (3, [.null, .null, .int (nI 0), .int (nI 0), .int (nI 0), .int (nI 0), .int (nI 0), .int (nI 0)])), (q1, .inr (4, [.null, .null, .null, .int (nI 0)]))] H := hP
  replace hD : va_D A9 [(h, .inr (3, [.null, .null, .int (nI 0), .int (nI 0), .int (nI 0), .int (nI 0), .int (nI 0), .int (nI 0)])), (q1, .inr (4, [.null, .null, .null, .int (nI 0)]))] := hD
  refine lv_dup hx hb d_S_init_8 rfl ?_
  refine ln_gon (va_runIN (As := []) (rest := [.ref q1, .ref h]) ⟨hx, hb, hml, hown, hT⟩ (cU_init l D ci q1 H.size) (cw_IN 0 hT (hO.2.2 _ nn_32) wd_4 wd_34 wd_33 rfl (by decide +kernel) (by decide) (by decide)) (ln_preN hK hN hO (hP.subM [1] rfl) (hD.sub [1] (by decide) rfl)) rfl rfl hl.1 rfl (lv_room (Nat.le_of_ble_eq_true rfl)) d_S_init_9 ⟨by decide, by decide⟩) hP hD hS hA [1] [0] rfl rfl rfl (by decide +kernel) (by decide +kernel) (fun u2 H locs hu hP hD hS => ?_)
  replace hP : va_P D vwCl [(h, .inr (3, [.null, .null, .int (nI 0), .int (nI 0), .int (nI 0), .int (nI 0), .int (nI 0), .int (nI 0)])), (q1, .inr (4, [.ref (u2 1), .ref (u2 2), .ref (u2 3), .int (nI 0)])), ((u2 1), .inl (ci 0, 8, .inl (nF (fun _ => 0)))), ((u2 2), .inl (ci 0, 8, .inl (nF (fun _ => 0)))), ((u2 3), .inl (ci 0, 8, .inl (nF (fun _ => 0))))] H := hP
  replace hD : va_D A9 [(h, .inr (3, [.null, .null, .int (nI 0), .int (nI 0), .int (nI 0), .int (nI 0), .int (nI 0), .int (nI 0)])), (q1, .inr (4, [.ref (u2 1), .ref (u2 2), .ref (u2 3), .int (nI 0)])), ((u2 1), .inl (ci 0, 8, .inl (nF (fun _ => 0)))), ((u2 2), .inl (ci 0, 8, .inl (nF (fun _ => 0)))), ((u2 3), .inl (ci 0, 8, .inl (nF (fun _ => 0))))] := hD
  refine va_putF (D := D) (ci := 3) (v := .ref q1) (ty := t_S 0) (C := R_S) (T := F_S) (N := 8) hx hb hT in_S t_S ty_S nm_S hown hK hP hD hS 0 rfl rfl 0 (by decide) (hT _ wd_51) (fun _ h9 => h9) rfl hin rfl (by decide +kernel) rfl rfl (Nat.le_of_ble_eq_true rfl) d_S_init_12 (fun H locs hP hD hS => ?_)
  replace hP : va_P D vwCl [(h, .inr (3, [.ref q1, .null, .int (nI 0), .int (nI 0), .int (nI 0), .int (nI 0), .int (nI 0), .int (nI 0)])), (q1, .inr (4, [.ref (u2 1), .ref (u2 2), .ref (u2 3), .int (nI 0)])), ((u2 1), .inl (ci 0, 8, .inl (nF (fun _ => 0)))), ((u2 2), .inl (ci 0, 8, .inl (nF (fun _ => 0)))), ((u2 3), .inl (ci 0, 8, .inl (nF (fun _ => 0))))] H := hP
  replace hD : va_D A9 [(h, .inr (3, [.ref q1, .null, .int (nI 0), .int (nI 0), .int (nI 0), .int (nI 0), .int (nI 0), .int (nI 0)])), (q1, .inr (4, [.ref (u2 1), .ref (u2 2), .ref (u2 3), .int (nI 0)])), ((u2 1), .inl (ci 0, 8, .inl (nF (fun _ => 0)))), ((u2 2), .inl (ci 0, 8, .inl (nF (fun _ => 0)))), ((u2 3), .inl (ci 0, 8, .inl (nF (fun _ => 0))))] := hD
  refine lv_aload_n hx hb d_S_init_15 rfl (lv_at hl 0 rfl) ?_
  refine va_new (ci := 4) (fs := [.null, .null, .null, .int (nI 0)]) (C := R_U) (T := F_U) (N := 4) hx hb hT in_U t_U ty_U hown (hT _ wd_30) (hT _ wd_31) (hT _ wd_4) hK hP hD hS hA rfl df_U (by decide) (by decide) d_S_init_16 (fun q3 H hP hD hS => ?_)
  replace hP : va_P D vwCl [(h, .inr (3, [.ref q1, .null, .int (nI 0), .int (nI 0), .int (nI 0), .int (nI 0), .int (nI 0), .int (nI 0)])), (q1, .inr (4, [.ref (u2 1), .ref (u2 2), .ref (u2 3), .int (nI 0)])), ((u2 1), .inl (ci 0, 8, .inl (nF (fun _ => 0)))), ((u2 2), .inl (ci 0, 8, .inl (nF (fun _ => 0)))), ((u2 3), .inl (ci 0, 8, .inl (nF (fun _ => 0)))), (q3, .inr (4, [.null, .null, .null, .int (nI 0)]))] H := hP
  replace hD : va_D A9 [(h, .inr (3, [.ref q1, .null, .int (nI 0), .int (nI 0), .int (nI 0), .int (nI 0), .int (nI 0), .int (nI 0)])), (q1, .inr (4, [.ref (u2 1), .ref (u2 2), .ref (u2 3), .int (nI 0)])), ((u2 1), .inl (ci 0, 8, .inl (nF (fun _ => 0)))), ((u2 2), .inl (ci 0, 8, .inl (nF (fun _ => 0)))), ((u2 3), .inl (ci 0, 8, .inl (nF (fun _ => 0)))), (q3, .inr (4, [.null, .null, .null, .int (nI 0)]))] := hD
  refine lv_dup hx hb d_S_init_19 rfl ?_
  refine ln_gon (va_runIN (As := []) (rest := [.ref q3, .ref h]) ⟨hx, hb, hml, hown, hT⟩ (cU_init l D ci q3 H.size) (cw_IN 0 hT (hO.2.2 _ nn_32) wd_4 wd_34 wd_33 rfl (by decide +kernel) (by decide) (by decide)) (ln_preN hK hN hO (hP.subM [5] rfl) (hD.sub [5] (by decide) rfl)) rfl rfl hl.1 rfl (lv_room (Nat.le_of_ble_eq_true rfl)) d_S_init_20 ⟨by decide, by decide⟩) hP hD hS hA [5] [0, 1, 2, 3, 4] rfl rfl rfl (by decide +kernel) (by decide +kernel) (fun u4 H locs hu hP hD hS => ?_)
  replace hP : va_P D vwCl [(h, .inr (3, [.ref q1, .null, .int (nI 0), .int (nI 0), .int (nI 0), .int (nI 0), .int (nI 0), .int (nI 0)])), (q1, .inr (4, [.ref (u2 1), .ref (u2 2), .ref (u2 3), .int (nI 0)])), ((u2 1), .inl (ci 0, 8, .inl (nF (fun _ => 0)))), ((u2 2), .inl (ci 0, 8, .inl (nF (fun _ => 0)))), ((u2 3), .inl (ci 0, 8, .inl (nF (fun _ => 0)))), (q3, .inr (4, [.ref (u4 1), .ref (u4 2), .ref (u4 3), .int (nI 0)])), ((u4 1), .inl (ci 0, 8, .inl (nF (fun _ => 0)))), ((u4 2), .inl (ci 0, 8, .inl (nF (fun _ => 0)))), ((u4 3), .inl (ci 0, 8, .inl (nF (fun _ => 0))))] H := hP
  replace hD : va_D A9 [(h, .inr (3, [.ref q1, .null, .int (nI 0), .int (nI 0), .int (nI 0), .int (nI 0), .int (nI 0), .int (nI 0)])), (q1, .inr (4, [.ref (u2 1), .ref (u2 2), .ref (u2 3), .int (nI 0)])), ((u2 1), .inl (ci 0, 8, .inl (nF (fun _ => 0)))), ((u2 2), .inl (ci 0, 8, .inl (nF (fun _ => 0)))), ((u2 3), .inl (ci 0, 8, .inl (nF (fun _ => 0)))), (q3, .inr (4, [.ref (u4 1), .ref (u4 2), .ref (u4 3), .int (nI 0)])), ((u4 1), .inl (ci 0, 8, .inl (nF (fun _ => 0)))), ((u4 2), .inl (ci 0, 8, .inl (nF (fun _ => 0)))), ((u4 3), .inl (ci 0, 8, .inl (nF (fun _ => 0))))] := hD
  refine va_putF (D := D) (ci := 3) (v := .ref q3) (ty := t_S 1) (C := R_S) (T := F_S) (N := 8) hx hb hT in_S t_S ty_S nm_S hown hK hP hD hS 0 rfl rfl 1 (by decide) (hT _ wd_53) (fun _ h9 => h9) rfl hin rfl (by decide +kernel) rfl rfl (Nat.le_of_ble_eq_true rfl) d_S_init_23 (fun H locs hP hD hS => ?_)
  replace hP : va_P D vwCl [(h, .inr (3, [.ref q1, .ref q3, .int (nI 0), .int (nI 0), .int (nI 0), .int (nI 0), .int (nI 0), .int (nI 0)])), (q1, .inr (4, [.ref (u2 1), .ref (u2 2), .ref (u2 3), .int (nI 0)])), ((u2 1), .inl (ci 0, 8, .inl (nF (fun _ => 0)))), ((u2 2), .inl (ci 0, 8, .inl (nF (fun _ => 0)))), ((u2 3), .inl (ci 0, 8, .inl (nF (fun _ => 0)))), (q3, .inr (4, [.ref (u4 1), .ref (u4 2), .ref (u4 3), .int (nI 0)])), ((u4 1), .inl (ci 0, 8, .inl (nF (fun _ => 0)))), ((u4 2), .inl (ci 0, 8, .inl (nF (fun _ => 0)))), ((u4 3), .inl (ci 0, 8, .inl (nF (fun _ => 0))))] H := hP
  replace hD : va_D A9 [(h, .inr (3, [.ref q1, .ref q3, .int (nI 0), .int (nI 0), .int (nI 0), .int (nI 0), .int (nI 0), .int (nI 0)])), (q1, .inr (4, [.ref (u2 1), .ref (u2 2), .ref (u2 3), .int (nI 0)])), ((u2 1), .inl (ci 0, 8, .inl (nF (fun _ => 0)))), ((u2 2), .inl (ci 0, 8, .inl (nF (fun _ => 0)))), ((u2 3), .inl (ci 0, 8, .inl (nF (fun _ => 0)))), (q3, .inr (4, [.ref (u4 1), .ref (u4 2), .ref (u4 3), .int (nI 0)])), ((u4 1), .inl (ci 0, 8, .inl (nF (fun _ => 0)))), ((u4 2), .inl (ci 0, 8, .inl (nF (fun _ => 0)))), ((u4 3), .inl (ci 0, 8, .inl (nF (fun _ => 0))))] := hD
  exact kR _ _ _ _ (fun k => ([h, q1, (u2 1), (u2 2), (u2 3), q3, (u4 1), (u4 2), (u4 3)] : List Nat).getD k 0) d_S_init_26 trivial hP hD hS
abbrev rm_P_init : Room := { frames := 1, cells := 1, slots := 16, locals := 20 }
set_option maxHeartbeats 4000000 in
set_option maxRecDepth 100000 in
theorem cP_init (l : Launch) (D : va_G) (ci : Nat → ClassId) (h : Nat)  : CtN l y_P_init w_P_init rm_P_init D vwCl (tyC ci) [.ref h] [(h, .inr (1, [.null, .int (nI 0)]))] 1 16 (fun _ => True) (fun u => [(h, .inr (1, [.ref (u 1), .int (nI 0)])), ((u 1), .inl (ci 0, 16, .inl (nF (fun _ => 0))))]) := by
  refine ct_n (cc := b_P_init) (maxL := 1) (plainFor_of_name (by decide)) rfl (Nat.le_of_ble_eq_true rfl) (fun p9 e9 s9 m9 args9 be9 me9 c9 A9 Q9 ls H0 hx hb hml hts hown hin hK hN hO hl hP hD hS hA kR => ?_)
  replace hl : lv_has ls 1 [(0, .ref h)] := hl
  replace hP : va_P D vwCl [(h, .inr (1, [.null, .int (nI 0)]))] H0 := hP
  replace hD : va_D A9 [(h, .inr (1, [.null, .int (nI 0)]))] := hD
  replace hown : s9.vm.findClass R_P = some m9.cls := hown
  replace hin : me9.name = "<init>" := hin
  have hT : ∀ w ∈ lw_ok, w.before args9 s9 = true := fun w h => hts w (List.mem_cons_of_mem _ h)
  generalize hH : H0 = H at hP ⊢
  replace hS : va_S A9 H0 H [] := by rw [← hH]; exact hS
  clear hH
  generalize ([] : List Loc) = locs at hS ⊢
  refine lv_aload_n hx hb d_P_init_0 rfl (lv_at hl 0 rfl) ?_
  refine W.objInit hx hb hown (hT _ wd_156) (hT _ wd_15) (hT _ wd_16) rfl (hl.1.trans hml.symm) rfl d_P_init_1 (Nat.le_of_ble_eq_true rfl) (Nat.le_of_ble_eq_true rfl) ?_
  refine W.eq (g2 := F0 m9 4 ls []) rfl ?_
  refine lv_aload_n hx hb d_P_init_4 rfl (lv_at hl 0 rfl) ?_
  refine lv_bipush (v := nI 16) hx hb d_P_init_5 (by decide) ?_
  refine ln_newI hx hb (hT _ wd_50) hK hP hD hS hA (by decide) (by decide) (by decide) d_P_init_7 (fun q1 H hP hD hS => ?_)
  replace hP : va_P D vwCl [(h, .inr (1, [.null, .int (nI 0)])), (q1, .inl (ci 0, 16, .inl (nF (fun _ => 0))))] H := hP
  replace hD : va_D A9 [(h, .inr (1, [.null, .int (nI 0)])), (q1, .inl (ci 0, 16, .inl (nF (fun _ => 0))))] := hD
  refine va_putF (D := D) (ci := 1) (v := .ref q1) (ty := t_P 0) (C := R_P) (T := F_P) (N := 2) hx hb hT in_P t_P ty_P nm_P hown hK hP hD hS 0 rfl rfl 0 (by decide) (hT _ wd_157) (fun _ h9 => h9) rfl hin rfl (by decide +kernel) rfl rfl (Nat.le_of_ble_eq_true rfl) d_P_init_9 (fun H locs hP hD hS => ?_)
  replace hP : va_P D vwCl [(h, .inr (1, [.ref q1, .int (nI 0)])), (q1, .inl (ci 0, 16, .inl (nF (fun _ => 0))))] H := hP
  replace hD : va_D A9 [(h, .inr (1, [.ref q1, .int (nI 0)])), (q1, .inl (ci 0, 16, .inl (nF (fun _ => 0))))] := hD
  exact kR _ _ _ _ (fun k => ([h, q1] : List Nat).getD k 0) d_P_init_12 trivial hP hD hS
abbrev rm_C_init : Room := { frames := 1, cells := 2, slots := 120, locals := 20 }
set_option maxHeartbeats 4000000 in
set_option maxRecDepth 100000 in
theorem cC_init (l : Launch) (D : va_G) (ci : Nat → ClassId) (h : Nat)  : CtN l y_C_init w_C_init rm_C_init D vwCl (tyC ci) [.ref h] [(h, .inr (0, [.int (nI 0), .int (nI 0), .int (nI 0), .int (nI 0), .int (nI 0), .int (nI 0), .null, .int (nI 0), .int (nI 0), .null, .int (nI 0)]))] 2 120 (fun _ => True) (fun u => [(h, .inr (0, [.int (nI 0), .int (nI 0), .int (nI 0), .int (nI 0), .int (nI 0), .int (nI 0), .ref (u 1), .int (nI 0), .int (nI 0), .ref (u 2), .int (nI 0)])), ((u 1), .inl (ci 0, 60, .inl (nF (fun _ => 0)))), ((u 2), .inl (ci 0, 60, .inl (nF (fun _ => 0))))]) := by
  refine ct_n (cc := b_C_init) (maxL := 1) (plainFor_of_name (by decide)) rfl (Nat.le_of_ble_eq_true rfl) (fun p9 e9 s9 m9 args9 be9 me9 c9 A9 Q9 ls H0 hx hb hml hts hown hin hK hN hO hl hP hD hS hA kR => ?_)
  replace hl : lv_has ls 1 [(0, .ref h)] := hl
  replace hP : va_P D vwCl [(h, .inr (0, [.int (nI 0), .int (nI 0), .int (nI 0), .int (nI 0), .int (nI 0), .int (nI 0), .null, .int (nI 0), .int (nI 0), .null, .int (nI 0)]))] H0 := hP
  replace hD : va_D A9 [(h, .inr (0, [.int (nI 0), .int (nI 0), .int (nI 0), .int (nI 0), .int (nI 0), .int (nI 0), .null, .int (nI 0), .int (nI 0), .null, .int (nI 0)]))] := hD
  replace hown : s9.vm.findClass R_C = some m9.cls := hown
  replace hin : me9.name = "<init>" := hin
  have hT : ∀ w ∈ lw_ok, w.before args9 s9 = true := fun w h => hts w (List.mem_cons_of_mem _ h)
  generalize hH : H0 = H at hP ⊢
  replace hS : va_S A9 H0 H [] := by rw [← hH]; exact hS
  clear hH
  generalize ([] : List Loc) = locs at hS ⊢
  refine lv_aload_n hx hb d_C_init_0 rfl (lv_at hl 0 rfl) ?_
  refine W.objInit hx hb hown (hT _ wd_93) (hT _ wd_15) (hT _ wd_16) rfl (hl.1.trans hml.symm) rfl d_C_init_1 (Nat.le_of_ble_eq_true rfl) (Nat.le_of_ble_eq_true rfl) ?_
  refine W.eq (g2 := F0 m9 4 ls []) rfl ?_
  refine lv_aload_n hx hb d_C_init_4 rfl (lv_at hl 0 rfl) ?_
  refine lv_bipush (v := nI 60) hx hb d_C_init_5 (by decide) ?_
  refine ln_newI hx hb (hT _ wd_50) hK hP hD hS hA (by decide) (by decide) (by decide) d_C_init_7 (fun q1 H hP hD hS => ?_)
  replace hP : va_P D vwCl [(h, .inr (0, [.int (nI 0), .int (nI 0), .int (nI 0), .int (nI 0), .int (nI 0), .int (nI 0), .null, .int (nI 0), .int (nI 0), .null, .int (nI 0)])), (q1, .inl (ci 0, 60, .inl (nF (fun _ => 0))))] H := hP
  replace hD : va_D A9 [(h, .inr (0, [.int (nI 0), .int (nI 0), .int (nI 0), .int (nI 0), .int (nI 0), .int (nI 0), .null, .int (nI 0), .int (nI 0), .null, .int (nI 0)])), (q1, .inl (ci 0, 60, .inl (nF (fun _ => 0))))] := hD
  refine va_put (D := D) (ci := 0) (v := .ref q1) (ty := (.array .int)) (C := R_C) (T := F_C) (N := 11) hx hb hT in_C t_C ty_C nm_C hown hK hP hD hS 0 rfl rfl 6 (by decide) (hT _ wd_101) (fun _ h9 => h9) rfl (by decide +kernel) rfl rfl (Nat.le_of_ble_eq_true rfl) d_C_init_9 (fun H locs hP hD hS => ?_)
  replace hP : va_P D vwCl [(h, .inr (0, [.int (nI 0), .int (nI 0), .int (nI 0), .int (nI 0), .int (nI 0), .int (nI 0), .ref q1, .int (nI 0), .int (nI 0), .null, .int (nI 0)])), (q1, .inl (ci 0, 60, .inl (nF (fun _ => 0))))] H := hP
  replace hD : va_D A9 [(h, .inr (0, [.int (nI 0), .int (nI 0), .int (nI 0), .int (nI 0), .int (nI 0), .int (nI 0), .ref q1, .int (nI 0), .int (nI 0), .null, .int (nI 0)])), (q1, .inl (ci 0, 60, .inl (nF (fun _ => 0))))] := hD
  refine lv_aload_n hx hb d_C_init_12 rfl (lv_at hl 0 rfl) ?_
  refine lv_bipush (v := nI 60) hx hb d_C_init_13 (by decide) ?_
  refine ln_newI hx hb (hT _ wd_50) hK hP hD hS hA (by decide) (by decide) (by decide) d_C_init_15 (fun q2 H hP hD hS => ?_)
  replace hP : va_P D vwCl [(h, .inr (0, [.int (nI 0), .int (nI 0), .int (nI 0), .int (nI 0), .int (nI 0), .int (nI 0), .ref q1, .int (nI 0), .int (nI 0), .null, .int (nI 0)])), (q1, .inl (ci 0, 60, .inl (nF (fun _ => 0)))), (q2, .inl (ci 0, 60, .inl (nF (fun _ => 0))))] H := hP
  replace hD : va_D A9 [(h, .inr (0, [.int (nI 0), .int (nI 0), .int (nI 0), .int (nI 0), .int (nI 0), .int (nI 0), .ref q1, .int (nI 0), .int (nI 0), .null, .int (nI 0)])), (q1, .inl (ci 0, 60, .inl (nF (fun _ => 0)))), (q2, .inl (ci 0, 60, .inl (nF (fun _ => 0))))] := hD
  refine va_put (D := D) (ci := 0) (v := .ref q2) (ty := (.array .int)) (C := R_C) (T := F_C) (N := 11) hx hb hT in_C t_C ty_C nm_C hown hK hP hD hS 0 rfl rfl 9 (by decide) (hT _ wd_107) (fun _ h9 => h9) rfl (by decide +kernel) rfl rfl (Nat.le_of_ble_eq_true rfl) d_C_init_17 (fun H locs hP hD hS => ?_)
  replace hP : va_P D vwCl [(h, .inr (0, [.int (nI 0), .int (nI 0), .int (nI 0), .int (nI 0), .int (nI 0), .int (nI 0), .ref q1, .int (nI 0), .int (nI 0), .ref q2, .int (nI 0)])), (q1, .inl (ci 0, 60, .inl (nF (fun _ => 0)))), (q2, .inl (ci 0, 60, .inl (nF (fun _ => 0))))] H := hP
  replace hD : va_D A9 [(h, .inr (0, [.int (nI 0), .int (nI 0), .int (nI 0), .int (nI 0), .int (nI 0), .int (nI 0), .ref q1, .int (nI 0), .int (nI 0), .ref q2, .int (nI 0)])), (q1, .inl (ci 0, 60, .inl (nF (fun _ => 0)))), (q2, .inl (ci 0, 60, .inl (nF (fun _ => 0))))] := hD
  exact kR _ _ _ _ (fun k => ([h, q1, q2] : List Nat).getD k 0) d_C_init_20 trivial hP hD hS
abbrev rm_R_init : Room := { frames := 2, cells := 11, slots := 402, locals := 40 }
set_option maxHeartbeats 4000000 in
set_option maxRecDepth 100000 in
theorem cR_init (l : Launch) (D : va_G) (ci : Nat → ClassId) (h : Nat)  : CtN l y_R_init w_R_init rm_R_init D vwCl (tyC ci) [.ref h] [(h, .inr (2, [.null, .null, .int (nI 0), .int (nI 0)]))] 11 402 (fun _ => True) (fun u => [(h, .inr (2, [.ref (u 1), .ref (u 2), .int (nI 0), .int (nI 0)])), ((u 1), .inl (ci 3, 3, .inr (.inr (.inr (.inr (fun i => if i = 0 then some (u 3) else if i = 1 then some (u 6) else some (u 9))))))), ((u 2), .inl (ci 0, 6, .inl (nF (fun _ => 0)))), ((u 3), .inr (0, [.int (nI 0), .int (nI 0), .int (nI 0), .int (nI 0), .int (nI 0), .int (nI 0), .ref (u 4), .int (nI 0), .int (nI 0), .ref (u 5), .int (nI 0)])), ((u 4), .inl (ci 0, 60, .inl (nF (fun _ => 0)))), ((u 5), .inl (ci 0, 60, .inl (nF (fun _ => 0)))), ((u 6), .inr (0, [.int (nI 0), .int (nI 0), .int (nI 0), .int (nI 0), .int (nI 0), .int (nI 0), .ref (u 7), .int (nI 0), .int (nI 0), .ref (u 8), .int (nI 0)])), ((u 7), .inl (ci 0, 60, .inl (nF (fun _ => 0)))), ((u 8), .inl (ci 0, 60, .inl (nF (fun _ => 0)))), ((u 9), .inr (0, [.int (nI 0), .int (nI 0), .int (nI 0), .int (nI 0), .int (nI 0), .int (nI 0), .ref (u 10), .int (nI 0), .int (nI 0), .ref (u 11), .int (nI 0)])), ((u 10), .inl (ci 0, 60, .inl (nF (fun _ => 0)))), ((u 11), .inl (ci 0, 60, .inl (nF (fun _ => 0))))]) := by
  refine ct_n (cc := b_R_init) (maxL := 2) (plainFor_of_name (by decide)) rfl (Nat.le_of_ble_eq_true rfl) (fun p9 e9 s9 m9 args9 be9 me9 c9 A9 Q9 ls H0 hx hb hml hts hown hin hK hN hO hl hP hD hS hA kR => ?_)
  replace hl : lv_has ls 2 [(0, .ref h)] := hl
  replace hP : va_P D vwCl [(h, .inr (2, [.null, .null, .int (nI 0), .int (nI 0)]))] H0 := hP
  replace hD : va_D A9 [(h, .inr (2, [.null, .null, .int (nI 0), .int (nI 0)]))] := hD
  replace hown : s9.vm.findClass R_R = some m9.cls := hown
  replace hin : me9.name = "<init>" := hin
  have hT : ∀ w ∈ lw_ok, w.before args9 s9 = true := fun w h => hts w (List.mem_cons_of_mem _ h)
  generalize hH : H0 = H at hP ⊢
  replace hS : va_S A9 H0 H [] := by rw [← hH]; exact hS
  clear hH
  generalize ([] : List Loc) = locs at hS ⊢
  refine lv_aload_n hx hb d_R_init_0 rfl (lv_at hl 0 rfl) ?_
  refine W.objInit hx hb hown (hT _ wd_86) (hT _ wd_15) (hT _ wd_16) rfl (hl.1.trans hml.symm) rfl d_R_init_1 (Nat.le_of_ble_eq_true rfl) (Nat.le_of_ble_eq_true rfl) ?_
  refine W.eq (g2 := F0 m9 4 ls []) rfl ?_
  refine lv_aload_n hx hb d_R_init_4 rfl (lv_at hl 0 rfl) ?_
  refine lv_iconst (v := nI 3) hx hb d_R_init_5 (by decide) ?_
  refine ln_newR (C := R_C) (j0 := 3) hx hb rfl hown (hT _ wd_87) hO.2.1 hK hP hD hS hA (by decide) (by decide) (by decide) d_R_init_6 (fun q1 H hP hD hS => ?_)
  replace hP : va_P D vwCl [(h, .inr (2, [.null, .null, .int (nI 0), .int (nI 0)])), (q1, .inl (ci 3, 3, .inr (.inr (.inr (.inr (fun _ => none))))))] H := hP
  replace hD : va_D A9 [(h, .inr (2, [.null, .null, .int (nI 0), .int (nI 0)])), (q1, .inl (ci 3, 3, .inr (.inr (.inr (.inr (fun _ => none))))))] := hD
  refine va_putF (D := D) (ci := 2) (v := .ref q1) (ty := t_R 0) (C := R_R) (T := F_R) (N := 4) hx hb hT in_R t_R ty_R nm_R hown hK hP hD hS 0 rfl rfl 0 (by decide) (hT _ wd_134) (fun _ h9 => h9) rfl hin rfl (by decide +kernel) rfl rfl (Nat.le_of_ble_eq_true rfl) d_R_init_9 (fun H locs hP hD hS => ?_)
  replace hP : va_P D vwCl [(h, .inr (2, [.ref q1, .null, .int (nI 0), .int (nI 0)])), (q1, .inl (ci 3, 3, .inr (.inr (.inr (.inr (fun _ => none))))))] H := hP
  replace hD : va_D A9 [(h, .inr (2, [.ref q1, .null, .int (nI 0), .int (nI 0)])), (q1, .inl (ci 3, 3, .inr (.inr (.inr (.inr (fun _ => none))))))] := hD
  refine lv_aload_n hx hb d_R_init_12 rfl (lv_at hl 0 rfl) ?_
  refine lv_bipush (v := nI 6) hx hb d_R_init_13 (by decide) ?_
  refine ln_newI hx hb (hT _ wd_50) hK hP hD hS hA (by decide) (by decide) (by decide) d_R_init_15 (fun q2 H hP hD hS => ?_)
  replace hP : va_P D vwCl [(h, .inr (2, [.ref q1, .null, .int (nI 0), .int (nI 0)])), (q1, .inl (ci 3, 3, .inr (.inr (.inr (.inr (fun _ => none)))))), (q2, .inl (ci 0, 6, .inl (nF (fun _ => 0))))] H := hP
  replace hD : va_D A9 [(h, .inr (2, [.ref q1, .null, .int (nI 0), .int (nI 0)])), (q1, .inl (ci 3, 3, .inr (.inr (.inr (.inr (fun _ => none)))))), (q2, .inl (ci 0, 6, .inl (nF (fun _ => 0))))] := hD
  refine va_putF (D := D) (ci := 2) (v := .ref q2) (ty := t_R 1) (C := R_R) (T := F_R) (N := 4) hx hb hT in_R t_R ty_R nm_R hown hK hP hD hS 0 rfl rfl 1 (by decide) (hT _ wd_136) (fun _ h9 => h9) rfl hin rfl (by decide +kernel) rfl rfl (Nat.le_of_ble_eq_true rfl) d_R_init_17 (fun H locs hP hD hS => ?_)
  replace hP : va_P D vwCl [(h, .inr (2, [.ref q1, .ref q2, .int (nI 0), .int (nI 0)])), (q1, .inl (ci 3, 3, .inr (.inr (.inr (.inr (fun _ => none)))))), (q2, .inl (ci 0, 6, .inl (nF (fun _ => 0))))] H := hP
  replace hD : va_D A9 [(h, .inr (2, [.ref q1, .ref q2, .int (nI 0), .int (nI 0)])), (q1, .inl (ci 3, 3, .inr (.inr (.inr (.inr (fun _ => none)))))), (q2, .inl (ci 0, 6, .inl (nF (fun _ => 0))))] := hD
  refine lv_iconst (v := nI 0) hx hb d_R_init_20 (by decide) ?_
  refine lv_istore_n hx hb d_R_init_21 rfl hl (by decide) rfl (fun ls hl => ?_)
  replace hl : lv_has ls 2 [(1, .int (nI 0)), (0, .ref h)] := hl
  refine lv_iload_n hx hb d_R_init_22 rfl (lv_at hl 0 rfl) ?_
  refine lv_iconst (v := nI 3) hx hb d_R_init_23 (by decide) ?_
  refine ln_icmp_ge hx hb (by decide) (by decide) 46 d_R_init_24 (by decide) (fun h9 => absurd h9 (by decide)) (fun _ => ?_)
  refine lv_aload_n hx hb d_R_init_27 rfl (lv_at hl 1 rfl) ?_
  refine va_get (D := D) (ci := 2) (v := .ref q1) (C := R_R) (T := F_R) (N := 4) hx hb hT in_R hown hK hP 0 rfl rfl 0 (by decide) (hT _ wd_134) (fun _ h9 => h9) rfl d_R_init_28 ?_
  refine lv_iload_n hx hb d_R_init_31 rfl (lv_at hl 0 rfl) ?_
  refine va_new (ci := 0) (fs := [.int (nI 0), .int (nI 0), .int (nI 0), .int (nI 0), .int (nI 0), .int (nI 0), .null, .int (nI 0), .int (nI 0), .null, .int (nI 0)]) (C := R_C) (T := F_C) (N := 11) hx hb hT in_C t_C ty_C hown (hT _ wd_87) (hT _ wd_89) (hT _ wd_6) hK hP hD hS hA rfl df_C (by decide) (by decide) d_R_init_32 (fun q3 H hP hD hS => ?_)
  replace hP : va_P D vwCl [(h, .inr (2, [.ref q1, .ref q2, .int (nI 0), .int (nI 0)])), (q1, .inl (ci 3, 3, .inr (.inr (.inr (.inr (fun _ => none)))))), (q2, .inl (ci 0, 6, .inl (nF (fun _ => 0)))), (q3, .inr (0, [.int (nI 0), .int (nI 0), .int (nI 0), .int (nI 0), .int (nI 0), .int (nI 0), .null, .int (nI 0), .int (nI 0), .null, .int (nI 0)]))] H := hP
  replace hD : va_D A9 [(h, .inr (2, [.ref q1, .ref q2, .int (nI 0), .int (nI 0)])), (q1, .inl (ci 3, 3, .inr (.inr (.inr (.inr (fun _ => none)))))), (q2, .inl (ci 0, 6, .inl (nF (fun _ => 0)))), (q3, .inr (0, [.int (nI 0), .int (nI 0), .int (nI 0), .int (nI 0), .int (nI 0), .int (nI 0), .null, .int (nI 0), .int (nI 0), .null, .int (nI 0)]))] := hD
  refine lv_dup hx hb d_R_init_35 rfl ?_
  refine ln_gon (va_runIN (As := []) (rest := [.ref q3, .int (nI 0), .ref q1]) ⟨hx, hb, hml, hown, hT⟩ (cC_init l D ci q3 H.size) (cw_IN 0 hT (hO.2.2 _ nn_90) wd_6 wd_92 wd_91 rfl (by decide +kernel) (by decide) (by decide)) (ln_preN hK hN hO (hP.subM [3] rfl) (hD.sub [3] (by decide) rfl)) rfl rfl hl.1 rfl (lv_room (Nat.le_of_ble_eq_true rfl)) d_R_init_36 ⟨by decide, by decide⟩) hP hD hS hA [3] [0, 1, 2] rfl rfl rfl (by decide +kernel) (by decide +kernel) (fun u4 H locs hu hP hD hS => ?_)
  replace hP : va_P D vwCl [(h, .inr (2, [.ref q1, .ref q2, .int (nI 0), .int (nI 0)])), (q1, .inl (ci 3, 3, .inr (.inr (.inr (.inr (fun _ => none)))))), (q2, .inl (ci 0, 6, .inl (nF (fun _ => 0)))), (q3, .inr (0, [.int (nI 0), .int (nI 0), .int (nI 0), .int (nI 0), .int (nI 0), .int (nI 0), .ref (u4 1), .int (nI 0), .int (nI 0), .ref (u4 2), .int (nI 0)])), ((u4 1), .inl (ci 0, 60, .inl (nF (fun _ => 0)))), ((u4 2), .inl (ci 0, 60, .inl (nF (fun _ => 0))))] H := hP
  replace hD : va_D A9 [(h, .inr (2, [.ref q1, .ref q2, .int (nI 0), .int (nI 0)])), (q1, .inl (ci 3, 3, .inr (.inr (.inr (.inr (fun _ => none)))))), (q2, .inl (ci 0, 6, .inl (nF (fun _ => 0)))), (q3, .inr (0, [.int (nI 0), .int (nI 0), .int (nI 0), .int (nI 0), .int (nI 0), .int (nI 0), .ref (u4 1), .int (nI 0), .int (nI 0), .ref (u4 2), .int (nI 0)])), ((u4 1), .inl (ci 0, 60, .inl (nF (fun _ => 0)))), ((u4 2), .inl (ci 0, 60, .inl (nF (fun _ => 0))))] := hD
  refine ln_rast hx hb hK hP hD hS 1 3 3 0 rfl rfl rfl rfl (by decide) (by decide) d_R_init_39 (fun H locs hP hD hS => ?_)
  replace hP : va_P D vwCl [(h, .inr (2, [.ref q1, .ref q2, .int (nI 0), .int (nI 0)])), (q1, .inl (ci 3, 3, .inr (.inr (.inr (.inr (va_up (fun _ => none) 0 (some q3))))))), (q2, .inl (ci 0, 6, .inl (nF (fun _ => 0)))), (q3, .inr (0, [.int (nI 0), .int (nI 0), .int (nI 0), .int (nI 0), .int (nI 0), .int (nI 0), .ref (u4 1), .int (nI 0), .int (nI 0), .ref (u4 2), .int (nI 0)])), ((u4 1), .inl (ci 0, 60, .inl (nF (fun _ => 0)))), ((u4 2), .inl (ci 0, 60, .inl (nF (fun _ => 0))))] H := hP
  replace hD : va_D A9 [(h, .inr (2, [.ref q1, .ref q2, .int (nI 0), .int (nI 0)])), (q1, .inl (ci 3, 3, .inr (.inr (.inr (.inr (va_up (fun _ => none) 0 (some q3))))))), (q2, .inl (ci 0, 6, .inl (nF (fun _ => 0)))), (q3, .inr (0, [.int (nI 0), .int (nI 0), .int (nI 0), .int (nI 0), .int (nI 0), .int (nI 0), .ref (u4 1), .int (nI 0), .int (nI 0), .ref (u4 2), .int (nI 0)])), ((u4 1), .inl (ci 0, 60, .inl (nF (fun _ => 0)))), ((u4 2), .inl (ci 0, 60, .inl (nF (fun _ => 0))))] := hD
  refine ln_iinc (k := 0) (y := 1) hx hb d_R_init_40 hl rfl (by decide) (by decide) rfl (fun ls hl => ?_)
  replace hl : lv_has ls 2 [(1, .int (nI 1)), (0, .ref h)] := hl
  refine lv_goto (tgt := 22) hx hb d_R_init_43 (by decide) ?_
  refine lv_iload_n hx hb d_R_init_22 rfl (lv_at hl 0 rfl) ?_
  refine lv_iconst (v := nI 3) hx hb d_R_init_23 (by decide) ?_
  refine ln_icmp_ge hx hb (by decide) (by decide) 46 d_R_init_24 (by decide) (fun h9 => absurd h9 (by decide)) (fun _ => ?_)
  refine lv_aload_n hx hb d_R_init_27 rfl (lv_at hl 1 rfl) ?_
  refine va_get (D := D) (ci := 2) (v := .ref q1) (C := R_R) (T := F_R) (N := 4) hx hb hT in_R hown hK hP 0 rfl rfl 0 (by decide) (hT _ wd_134) (fun _ h9 => h9) rfl d_R_init_28 ?_
  refine lv_iload_n hx hb d_R_init_31 rfl (lv_at hl 0 rfl) ?_
  refine va_new (ci := 0) (fs := [.int (nI 0), .int (nI 0), .int (nI 0), .int (nI 0), .int (nI 0), .int (nI 0), .null, .int (nI 0), .int (nI 0), .null, .int (nI 0)]) (C := R_C) (T := F_C) (N := 11) hx hb hT in_C t_C ty_C hown (hT _ wd_87) (hT _ wd_89) (hT _ wd_6) hK hP hD hS hA rfl df_C (by decide) (by decide) d_R_init_32 (fun q5 H hP hD hS => ?_)
  replace hP : va_P D vwCl [(h, .inr (2, [.ref q1, .ref q2, .int (nI 0), .int (nI 0)])), (q1, .inl (ci 3, 3, .inr (.inr (.inr (.inr (va_up (fun _ => none) 0 (some q3))))))), (q2, .inl (ci 0, 6, .inl (nF (fun _ => 0)))), (q3, .inr (0, [.int (nI 0), .int (nI 0), .int (nI 0), .int (nI 0), .int (nI 0), .int (nI 0), .ref (u4 1), .int (nI 0), .int (nI 0), .ref (u4 2), .int (nI 0)])), ((u4 1), .inl (ci 0, 60, .inl (nF (fun _ => 0)))), ((u4 2), .inl (ci 0, 60, .inl (nF (fun _ => 0)))), (q5, .inr (0, [.int (nI 0), .int (nI 0), .int (nI 0), .int (nI 0), .int (nI 0), .int (nI 0), .null, .int (nI 0), .int (nI 0), .null, .int (nI 0)]))] H := hP
  replace hD : va_D A9 [(h, .inr (2, [.ref q1, .ref q2, .int (nI 0), .int (nI 0)])), (q1, .inl (ci 3, 3, .inr (.inr (.inr (.inr (va_up (fun _ => none) 0 (some q3))))))), (q2, .inl (ci 0, 6, .inl (nF (fun _ => 0)))), (q3, .inr (0, [.int (nI 0), .int (nI 0), .int (nI 0), .int (nI 0), .int (nI 0), .int (nI 0), .ref (u4 1), .int (nI 0), .int (nI 0), .ref (u4 2), .int (nI 0)])), ((u4 1), .inl (ci 0, 60, .inl (nF (fun _ => 0)))), ((u4 2), .inl (ci 0, 60, .inl (nF (fun _ => 0)))), (q5, .inr (0, [.int (nI 0), .int (nI 0), .int (nI 0), .int (nI 0), .int (nI 0), .int (nI 0), .null, .int (nI 0), .int (nI 0), .null, .int (nI 0)]))] := hD
  refine lv_dup hx hb d_R_init_35 rfl ?_
  refine ln_gon (va_runIN (As := []) (rest := [.ref q5, .int (nI 1), .ref q1]) ⟨hx, hb, hml, hown, hT⟩ (cC_init l D ci q5 H.size) (cw_IN 0 hT (hO.2.2 _ nn_90) wd_6 wd_92 wd_91 rfl (by decide +kernel) (by decide) (by decide)) (ln_preN hK hN hO (hP.subM [6] rfl) (hD.sub [6] (by decide) rfl)) rfl rfl hl.1 rfl (lv_room (Nat.le_of_ble_eq_true rfl)) d_R_init_36 ⟨by decide, by decide⟩) hP hD hS hA [6] [0, 1, 2, 3, 4, 5] rfl rfl rfl (by decide +kernel) (by decide +kernel) (fun u6 H locs hu hP hD hS => ?_)
  replace hP : va_P D vwCl [(h, .inr (2, [.ref q1, .ref q2, .int (nI 0), .int (nI 0)])), (q1, .inl (ci 3, 3, .inr (.inr (.inr (.inr (va_up (fun _ => none) 0 (some q3))))))), (q2, .inl (ci 0, 6, .inl (nF (fun _ => 0)))), (q3, .inr (0, [.int (nI 0), .int (nI 0), .int (nI 0), .int (nI 0), .int (nI 0), .int (nI 0), .ref (u4 1), .int (nI 0), .int (nI 0), .ref (u4 2), .int (nI 0)])), ((u4 1), .inl (ci 0, 60, .inl (nF (fun _ => 0)))), ((u4 2), .inl (ci 0, 60, .inl (nF (fun _ => 0)))), (q5, .inr (0, [.int (nI 0), .int (nI 0), .int (nI 0), .int (nI 0), .int (nI 0), .int (nI 0), .ref (u6 1), .int (nI 0), .int (nI 0), .ref (u6 2), .int (nI 0)])), ((u6 1), .inl (ci 0, 60, .inl (nF (fun _ => 0)))), ((u6 2), .inl (ci 0, 60, .inl (nF (fun _ => 0))))] H := hP
  replace hD : va_D A9 [(h, .inr (2, [.ref q1, .ref q2, .int (nI 0), .int (nI 0)])), (q1, .inl (ci 3, 3, .inr (.inr (.inr (.inr (va_up (fun _ => none) 0 (some q3))))))), (q2, .inl (ci 0, 6, .inl (nF (fun _ => 0)))), (q3, .inr (0, [.int (nI 0), .int (nI 0), .int (nI 0), .int (nI 0), .int (nI 0), .int (nI 0), .ref (u4 1), .int (nI 0), .int (nI 0), .ref (u4 2), .int (nI 0)])), ((u4 1), .inl (ci 0, 60, .inl (nF (fun _ => 0)))), ((u4 2), .inl (ci 0, 60, .inl (nF (fun _ => 0)))), (q5, .inr (0, [.int (nI 0), .int (nI 0), .int (nI 0), .int (nI 0), .int (nI 0), .int (nI 0), .ref (u6 1), .int (nI 0), .int (nI 0), .ref (u6 2), .int (nI 0)])), ((u6 1), .inl (ci 0, 60, .inl (nF (fun _ => 0)))), ((u6 2), .inl (ci 0, 60, .inl (nF (fun _ => 0))))] := hD
  refine ln_rast hx hb hK hP hD hS 1 3 6 0 rfl rfl rfl rfl (by decide) (by decide) d_R_init_39 (fun H locs hP hD hS => ?_)
  replace hP : va_P D vwCl [(h, .inr (2, [.ref q1, .ref q2, .int (nI 0), .int (nI 0)])), (q1, .inl (ci 3, 3, .inr (.inr (.inr (.inr (va_up (va_up (fun _ => none) 0 (some q3)) 1 (some q5))))))), (q2, .inl (ci 0, 6, .inl (nF (fun _ => 0)))), (q3, .inr (0, [.int (nI 0), .int (nI 0), .int (nI 0), .int (nI 0), .int (nI 0), .int (nI 0), .ref (u4 1), .int (nI 0), .int (nI 0), .ref (u4 2), .int (nI 0)])), ((u4 1), .inl (ci 0, 60, .inl (nF (fun _ => 0)))), ((u4 2), .inl (ci 0, 60, .inl (nF (fun _ => 0)))), (q5, .inr (0, [.int (nI 0), .int (nI 0), .int (nI 0), .int (nI 0), .int (nI 0), .int (nI 0), .ref (u6 1), .int (nI 0), .int (nI 0), .ref (u6 2), .int (nI 0)])), ((u6 1), .inl (ci 0, 60, .inl (nF (fun _ => 0)))), ((u6 2), .inl (ci 0, 60, .inl (nF (fun _ => 0))))] H := hP
  replace hD : va_D A9 [(h, .inr (2, [.ref q1, .ref q2, .int (nI 0), .int (nI 0)])), (q1, .inl (ci 3, 3, .inr (.inr (.inr (.inr (va_up (va_up (fun _ => none) 0 (some q3)) 1 (some q5))))))), (q2, .inl (ci 0, 6, .inl (nF (fun _ => 0)))), (q3, .inr (0, [.int (nI 0), .int (nI 0), .int (nI 0), .int (nI 0), .int (nI 0), .int (nI 0), .ref (u4 1), .int (nI 0), .int (nI 0), .ref (u4 2), .int (nI 0)])), ((u4 1), .inl (ci 0, 60, .inl (nF (fun _ => 0)))), ((u4 2), .inl (ci 0, 60, .inl (nF (fun _ => 0)))), (q5, .inr (0, [.int (nI 0), .int (nI 0), .int (nI 0), .int (nI 0), .int (nI 0), .int (nI 0), .ref (u6 1), .int (nI 0), .int (nI 0), .ref (u6 2), .int (nI 0)])), ((u6 1), .inl (ci 0, 60, .inl (nF (fun _ => 0)))), ((u6 2), .inl (ci 0, 60, .inl (nF (fun _ => 0))))] := hD
  refine ln_iinc (k := 0) (y := 2) hx hb d_R_init_40 hl rfl (by decide) (by decide) rfl (fun ls hl => ?_)
  replace hl : lv_has ls 2 [(1, .int (nI 2)), (0, .ref h)] := hl
  refine lv_goto (tgt := 22) hx hb d_R_init_43 (by decide) ?_
  refine lv_iload_n hx hb d_R_init_22 rfl (lv_at hl 0 rfl) ?_
  refine lv_iconst (v := nI 3) hx hb d_R_init_23 (by decide) ?_
  refine ln_icmp_ge hx hb (by decide) (by decide) 46 d_R_init_24 (by decide) (fun h9 => absurd h9 (by decide)) (fun _ => ?_)
  refine lv_aload_n hx hb d_R_init_27 rfl (lv_at hl 1 rfl) ?_
  refine va_get (D := D) (ci := 2) (v := .ref q1) (C := R_R) (T := F_R) (N := 4) hx hb hT in_R hown hK hP 0 rfl rfl 0 (by decide) (hT _ wd_134) (fun _ h9 => h9) rfl d_R_init_28 ?_
  refine lv_iload_n hx hb d_R_init_31 rfl (lv_at hl 0 rfl) ?_
  refine va_new (ci := 0) (fs := [.int (nI 0), .int (nI 0), .int (nI 0), .int (nI 0), .int (nI 0), .int (nI 0), .null, .int (nI 0), .int (nI 0), .null, .int (nI 0)]) (C := R_C) (T := F_C) (N := 11) hx hb hT in_C t_C ty_C hown (hT _ wd_87) (hT _ wd_89) (hT _ wd_6) hK hP hD hS hA rfl df_C (by decide) (by decide) d_R_init_32 (fun q7 H hP hD hS => ?_)
  replace hP : va_P D vwCl [(h, .inr (2, [.ref q1, .ref q2, .int (nI 0), .int (nI 0)])), (q1, .inl (ci 3, 3, .inr (.inr (.inr (.inr (va_up (va_up (fun _ => none) 0 (some q3)) 1 (some q5))))))), (q2, .inl (ci 0, 6, .inl (nF (fun _ => 0)))), (q3, .inr (0, [.int (nI 0), .int (nI 0), .int (nI 0), .int (nI 0), .int (nI 0), .int (nI 0), .ref (u4 1), .int (nI 0), .int (nI 0), .ref (u4 2), .int (nI 0)])), ((u4 1), .inl (ci 0, 60, .inl (nF (fun _ => 0)))), ((u4 2), .inl (ci 0, 60, .inl (nF (fun _ => 0)))), (q5, .inr (0, [.int (nI 0), .int (nI 0), .int (nI 0), .int (nI 0), .int (nI 0), .int (nI 0), .ref (u6 1), .int (nI 0), .int (nI 0), .ref (u6 2), .int (nI 0)])), ((u6 1), .inl (ci 0, 60, .inl (nF (fun _ => 0)))), ((u6 2), .inl (ci 0, 60, .inl (nF (fun _ => 0)))), (q7, .inr (0, [.int (nI 0), .int (nI 0), .int (nI 0), .int (nI 0), .int (nI 0), .int (nI 0), .null, .int (nI 0), .int (nI 0), .null, .int (nI 0)]))] H := hP
  replace hD : va_D A9 [(h, .inr (2, [.ref q1, .ref q2, .int (nI 0), .int (nI 0)])), (q1, .inl (ci 3, 3, .inr (.inr (.inr (.inr (va_up (va_up (fun _ => none) 0 (some q3)) 1 (some q5))))))), (q2, .inl (ci 0, 6, .inl (nF (fun _ => 0)))), (q3, .inr (0, [.int (nI 0), .int (nI 0), .int (nI 0), .int (nI 0), .int (nI 0), .int (nI 0), .ref (u4 1), .int (nI 0), .int (nI 0), .ref (u4 2), .int (nI 0)])), ((u4 1), .inl (ci 0, 60, .inl (nF (fun _ => 0)))), ((u4 2), .inl (ci 0, 60, .inl (nF (fun _ => 0)))), (q5, .inr (0, [.int (nI 0), .int (nI 0), .int (nI 0), .int (nI 0), .int (nI 0), .int (nI 0), .ref (u6 1), .int (nI 0), .int (nI 0), .ref (u6 2), .int (nI 0)])), ((u6 1), .inl (ci 0, 60, .inl (nF (fun _ => 0)))), ((u6 2), .inl (ci 0, 60, .inl (nF (fun _ => 0)))), (q7, .inr (0, [.int (nI 0), .int (nI 0), .int (nI 0), .int (nI 0), .int (nI 0), .int (nI 0), .null, .int (nI 0), .int (nI 0), .null, .int (nI 0)]))] := hD
  refine lv_dup hx hb d_R_init_35 rfl ?_
  refine ln_gon (va_runIN (As := []) (rest := [.ref q7, .int (nI 2), .ref q1]) ⟨hx, hb, hml, hown, hT⟩ (cC_init l D ci q7 H.size) (cw_IN 0 hT (hO.2.2 _ nn_90) wd_6 wd_92 wd_91 rfl (by decide +kernel) (by decide) (by decide)) (ln_preN hK hN hO (hP.subM [9] rfl) (hD.sub [9] (by decide) rfl)) rfl rfl hl.1 rfl (lv_room (Nat.le_of_ble_eq_true rfl)) d_R_init_36 ⟨by decide, by decide⟩) hP hD hS hA [9] [0, 1, 2, 3, 4, 5, 6, 7, 8] rfl rfl rfl (by decide +kernel) (by decide +kernel) (fun u8 H locs hu hP hD hS => ?_)
  replace hP : va_P D vwCl [(h, .inr (2, [.ref q1, .ref q2, .int (nI 0), .int (nI 0)])), (q1, .inl (ci 3, 3, .inr (.inr (.inr (.inr (va_up (va_up (fun _ => none) 0 (some q3)) 1 (some q5))))))), (q2, .inl (ci 0, 6, .inl (nF (fun _ => 0)))), (q3, .inr (0, [.int (nI 0), .int (nI 0), .int (nI 0), .int (nI 0), .int (nI 0), .int (nI 0), .ref (u4 1), .int (nI 0), .int (nI 0), .ref (u4 2), .int (nI 0)])), ((u4 1), .inl (ci 0, 60, .inl (nF (fun _ => 0)))), ((u4 2), .inl (ci 0, 60, .inl (nF (fun _ => 0)))), (q5, .inr (0, [.int (nI 0), .int (nI 0), .int (nI 0), .int (nI 0), .int (nI 0), .int (nI 0), .ref (u6 1), .int (nI 0), .int (nI 0), .ref (u6 2), .int (nI 0)])), ((u6 1), .inl (ci 0, 60, .inl (nF (fun _ => 0)))), ((u6 2), .inl (ci 0, 60, .inl (nF (fun _ => 0)))), (q7, .inr (0, [.int (nI 0), .int (nI 0), .int (nI 0), .int (nI 0), .int (nI 0), .int (nI 0), .ref (u8 1), .int (nI 0), .int (nI 0), .ref (u8 2), .int (nI 0)])), ((u8 1), .inl (ci 0, 60, .inl (nF (fun _ => 0)))), ((u8 2), .inl (ci 0, 60, .inl (nF (fun _ => 0))))] H := hP
  replace hD : va_D A9 [(h, .inr (2, [.ref q1, .ref q2, .int (nI 0), .int (nI 0)])), (q1, .inl (ci 3, 3, .inr (.inr (.inr (.inr (va_up (va_up (fun _ => none) 0 (some q3)) 1 (some q5))))))), (q2, .inl (ci 0, 6, .inl (nF (fun _ => 0)))), (q3, .inr (0, [.int (nI 0), .int (nI 0), .int (nI 0), .int (nI 0), .int (nI 0), .int (nI 0), .ref (u4 1), .int (nI 0), .int (nI 0), .ref (u4 2), .int (nI 0)])), ((u4 1), .inl (ci 0, 60, .inl (nF (fun _ => 0)))), ((u4 2), .inl (ci 0, 60, .inl (nF (fun _ => 0)))), (q5, .inr (0, [.int (nI 0), .int (nI 0), .int (nI 0), .int (nI 0), .int (nI 0), .int (nI 0), .ref (u6 1), .int (nI 0), .int (nI 0), .ref (u6 2), .int (nI 0)])), ((u6 1), .inl (ci 0, 60, .inl (nF (fun _ => 0)))), ((u6 2), .inl (ci 0, 60, .inl (nF (fun _ => 0)))), (q7, .inr (0, [.int (nI 0), .int (nI 0), .int (nI 0), .int (nI 0), .int (nI 0), .int (nI 0), .ref (u8 1), .int (nI 0), .int (nI 0), .ref (u8 2), .int (nI 0)])), ((u8 1), .inl (ci 0, 60, .inl (nF (fun _ => 0)))), ((u8 2), .inl (ci 0, 60, .inl (nF (fun _ => 0))))] := hD
  refine ln_rast hx hb hK hP hD hS 1 3 9 0 rfl rfl rfl rfl (by decide) (by decide) d_R_init_39 (fun H locs hP hD hS => ?_)
  replace hP : va_P D vwCl [(h, .inr (2, [.ref q1, .ref q2, .int (nI 0), .int (nI 0)])), (q1, .inl (ci 3, 3, .inr (.inr (.inr (.inr (va_up (va_up (va_up (fun _ => none) 0 (some q3)) 1 (some q5)) 2 (some q7))))))), (q2, .inl (ci 0, 6, .inl (nF (fun _ => 0)))), (q3, .inr (0, [.int (nI 0), .int (nI 0), .int (nI 0), .int (nI 0), .int (nI 0), .int (nI 0), .ref (u4 1), .int (nI 0), .int (nI 0), .ref (u4 2), .int (nI 0)])), ((u4 1), .inl (ci 0, 60, .inl (nF (fun _ => 0)))), ((u4 2), .inl (ci 0, 60, .inl (nF (fun _ => 0)))), (q5, .inr (0, [.int (nI 0), .int (nI 0), .int (nI 0), .int (nI 0), .int (nI 0), .int (nI 0), .ref (u6 1), .int (nI 0), .int (nI 0), .ref (u6 2), .int (nI 0)])), ((u6 1), .inl (ci 0, 60, .inl (nF (fun _ => 0)))), ((u6 2), .inl (ci 0, 60, .inl (nF (fun _ => 0)))), (q7, .inr (0, [.int (nI 0), .int (nI 0), .int (nI 0), .int (nI 0), .int (nI 0), .int (nI 0), .ref (u8 1), .int (nI 0), .int (nI 0), .ref (u8 2), .int (nI 0)])), ((u8 1), .inl (ci 0, 60, .inl (nF (fun _ => 0)))), ((u8 2), .inl (ci 0, 60, .inl (nF (fun _ => 0))))] H := hP
  replace hD : va_D A9 [(h, .inr (2, [.ref q1, .ref q2, .int (nI 0), .int (nI 0)])), (q1, .inl (ci 3, 3, .inr (.inr (.inr (.inr (va_up (va_up (va_up (fun _ => none) 0 (some q3)) 1 (some q5)) 2 (some q7))))))), (q2, .inl (ci 0, 6, .inl (nF (fun _ => 0)))), (q3, .inr (0, [.int (nI 0), .int (nI 0), .int (nI 0), .int (nI 0), .int (nI 0), .int (nI 0), .ref (u4 1), .int (nI 0), .int (nI 0), .ref (u4 2), .int (nI 0)])), ((u4 1), .inl (ci 0, 60, .inl (nF (fun _ => 0)))), ((u4 2), .inl (ci 0, 60, .inl (nF (fun _ => 0)))), (q5, .inr (0, [.int (nI 0), .int (nI 0), .int (nI 0), .int (nI 0), .int (nI 0), .int (nI 0), .ref (u6 1), .int (nI 0), .int (nI 0), .ref (u6 2), .int (nI 0)])), ((u6 1), .inl (ci 0, 60, .inl (nF (fun _ => 0)))), ((u6 2), .inl (ci 0, 60, .inl (nF (fun _ => 0)))), (q7, .inr (0, [.int (nI 0), .int (nI 0), .int (nI 0), .int (nI 0), .int (nI 0), .int (nI 0), .ref (u8 1), .int (nI 0), .int (nI 0), .ref (u8 2), .int (nI 0)])), ((u8 1), .inl (ci 0, 60, .inl (nF (fun _ => 0)))), ((u8 2), .inl (ci 0, 60, .inl (nF (fun _ => 0))))] := hD
  refine ln_iinc (k := 0) (y := 3) hx hb d_R_init_40 hl rfl (by decide) (by decide) rfl (fun ls hl => ?_)
  replace hl : lv_has ls 2 [(1, .int (nI 3)), (0, .ref h)] := hl
  refine lv_goto (tgt := 22) hx hb d_R_init_43 (by decide) ?_
  refine lv_iload_n hx hb d_R_init_22 rfl (lv_at hl 0 rfl) ?_
  refine lv_iconst (v := nI 3) hx hb d_R_init_23 (by decide) ?_
  refine ln_icmp_ge hx hb (by decide) (by decide) 46 d_R_init_24 (by decide) (fun _ => ?_) (fun h9 => absurd (by decide) h9)
  replace hP : va_P D vwCl [(h, .inr (2, [.ref q1, .ref q2, .int (nI 0), .int (nI 0)])), (q1, .inl (ci 3, 3, .inr (.inr (.inr (.inr (fun i => if i = 0 then some q3 else if i = 1 then some q5 else some q7)))))), (q2, .inl (ci 0, 6, .inl (nF (fun _ => 0)))), (q3, .inr (0, [.int (nI 0), .int (nI 0), .int (nI 0), .int (nI 0), .int (nI 0), .int (nI 0), .ref (u4 1), .int (nI 0), .int (nI 0), .ref (u4 2), .int (nI 0)])), ((u4 1), .inl (ci 0, 60, .inl (nF (fun _ => 0)))), ((u4 2), .inl (ci 0, 60, .inl (nF (fun _ => 0)))), (q5, .inr (0, [.int (nI 0), .int (nI 0), .int (nI 0), .int (nI 0), .int (nI 0), .int (nI 0), .ref (u6 1), .int (nI 0), .int (nI 0), .ref (u6 2), .int (nI 0)])), ((u6 1), .inl (ci 0, 60, .inl (nF (fun _ => 0)))), ((u6 2), .inl (ci 0, 60, .inl (nF (fun _ => 0)))), (q7, .inr (0, [.int (nI 0), .int (nI 0), .int (nI 0), .int (nI 0), .int (nI 0), .int (nI 0), .ref (u8 1), .int (nI 0), .int (nI 0), .ref (u8 2), .int (nI 0)])), ((u8 1), .inl (ci 0, 60, .inl (nF (fun _ => 0)))), ((u8 2), .inl (ci 0, 60, .inl (nF (fun _ => 0))))] H := hP.setq 1 rfl (fun j hj => by rcases (show j = 0 ∨ j = 1 ∨ j = 2 by omega) with rfl | rfl | rfl <;> rfl)
  replace hD : va_D A9 [(h, .inr (2, [.ref q1, .ref q2, .int (nI 0), .int (nI 0)])), (q1, .inl (ci 3, 3, .inr (.inr (.inr (.inr (fun i => if i = 0 then some q3 else if i = 1 then some q5 else some q7)))))), (q2, .inl (ci 0, 6, .inl (nF (fun _ => 0)))), (q3, .inr (0, [.int (nI 0), .int (nI 0), .int (nI 0), .int (nI 0), .int (nI 0), .int (nI 0), .ref (u4 1), .int (nI 0), .int (nI 0), .ref (u4 2), .int (nI 0)])), ((u4 1), .inl (ci 0, 60, .inl (nF (fun _ => 0)))), ((u4 2), .inl (ci 0, 60, .inl (nF (fun _ => 0)))), (q5, .inr (0, [.int (nI 0), .int (nI 0), .int (nI 0), .int (nI 0), .int (nI 0), .int (nI 0), .ref (u6 1), .int (nI 0), .int (nI 0), .ref (u6 2), .int (nI 0)])), ((u6 1), .inl (ci 0, 60, .inl (nF (fun _ => 0)))), ((u6 2), .inl (ci 0, 60, .inl (nF (fun _ => 0)))), (q7, .inr (0, [.int (nI 0), .int (nI 0), .int (nI 0), .int (nI 0), .int (nI 0), .int (nI 0), .ref (u8 1), .int (nI 0), .int (nI 0), .ref (u8 2), .int (nI 0)])), ((u8 1), .inl (ci 0, 60, .inl (nF (fun _ => 0)))), ((u8 2), .inl (ci 0, 60, .inl (nF (fun _ => 0))))] := hD.set (p := 1) rfl
  exact kR _ _ _ _ (fun k => ([h, q1, q2, q3, (u4 1), (u4 2), q5, (u6 1), (u6 2), q7, (u8 1), (u8 2)] : List Nat).getD k 0) d_R_init_46 trivial hP hD hS
