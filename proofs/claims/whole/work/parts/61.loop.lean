set_option maxHeartbeats 4000000 in
set_option maxRecDepth 100000 in
theorem law_loop {p : Program} {e : Env} {s : State} {m : MethodId} {below : List Frame} {meth : Method} {c : Code} (l : Launch) {b L : Nat} {xs : Nat → Int32} (hL : L ≤ 2562) (hx : p.tables.exec = Jvm.exec) (hb : c.code = code) (hr : meth.sig.returnType = ret) (hml : c.maxLocals = 4) (hown : s.vm.findClass R_L = some m.cls) (hT : ∀ w ∈ lw_ok, w.before #[Value.ref b] s = true) (hX : va_X b L xs s s.heap) (hbl : b < s.heap.size) (hlocks : meth.locks = false) (D : va_G) (ci : Nat → ClassId) (hK : va_K D vwCl (tyC ci) s) (hN : NW s) (ad am : Nat → Nat) :
    ∀ (n k : Nat) (x : XS) (y : ST) (ls : Array Slot) (H : Heap) (locs : List Loc), k ≤ 512 → 512 - k < n → lv_has ls 4 [(0, .ref b), (1, .ref (ad 0)), (2, .ref (am 0)), (3, .int (nI (2 + 5 * k)))] → va_P D vwCl (wX ad ci x ++ wM am ci y) H → va_D (fun q => s.heap.size ≤ q) (wX ad ci x ++ wM am ci y) → va_S (fun q => s.heap.size ≤ q) s.heap H locs → Inv x y k → W p l e room_1 s m #[Value.ref b] below meth c H locs 600000 7302249 (lw_Z below #[Value.ref b] s) (F0 m 38 ls []) := by
  intro n
  induction n with
  | zero => intro k x y ls H locs _ h; omega
  | succ n ih =>
    intro k x y ls H locs hk hn hl hP hD hS hI
    have hbA : ¬ s.heap.size ≤ b := by omega
    have hA : ∀ q, s.heap.size ≤ q → s.heap.size ≤ q := fun q h => h
    refine lv_iload_n hx hb d_L_law_38 rfl (lv_at hl 3 rfl) ?_
    refine lv_aload_n hx hb d_L_law_39 rfl (lv_at hl 0 rfl) ?_
    refine va_slen hx hb hX hbl hbA hS d_L_law_40 ?_
    refine lv_iconst (v := nI 5) hx hb d_L_law_41 (by decide) ?_
    refine lv_isub hx hb d_L_law_42 ?_
    have hL5 : (nI L - nI 5).toInt = (L : Int) - ((5 : Nat) : Int) := pk_sub_toInt (by omega) (by omega)
    have hi5 : (nI (2 + 5 * k)).toInt = ((2 + 5 * k : Nat) : Int) := nI_toInt (by omega)
    refine lv_icmp_gt (tgt := 490) hx hb d_L_law_43 (by decide) (fun hgt => ?_) (fun hgt => ?_)
    · refine lv_iconst (v := 1) hx hb d_L_law_490 (by decide) ?_
      refine va_forget (fun q hq => hS.2.2 q hq) ?_
      exact lw_ret hx hb hr hlocks d_L_law_491
    · have hle : 2 + 5 * k + 5 ≤ L := by
        have h9 : ¬ (nI L - nI 5).toInt < (nI (2 + 5 * k)).toInt := fun h8 => hgt (Int32.lt_iff_toInt_lt.mpr h8)
        omega
      have next : ∀ (x : XS) (y : ST) (H : Heap) (locs : List Loc), va_P D vwCl (wX ad ci x ++ wM am ci y) H → va_D (fun q => s.heap.size ≤ q) (wX ad ci x ++ wM am ci y) → va_S (fun q => s.heap.size ≤ q) s.heap H locs → Inv x y (k + 1) → W p l e room_1 s m #[Value.ref b] below meth c H locs 600000 7302249 (lw_Z below #[Value.ref b] s) (F0 m 484 ls []) := by
        intro x y H locs hP hD hS hI
        refine ln_iinc (k := 3) (y := 2 + 5 * (k + 1)) hx hb d_L_law_484 hl rfl (nI_inc5 _) (by decide) rfl (fun ls hl => ?_)
        refine lv_goto (tgt := 38) hx hb d_L_law_487 (by decide) ?_
        have hl := lv_sub hl [1, 2, 3, 0] rfl
        exact ih (k + 1) x y _ _ _ (by omega) (by omega) hl hP hD hS hI
      refine lv_aload_n hx hb d_L_law_46 rfl (lv_at hl 0 rfl) ?_
      refine lv_iload_n hx hb d_L_law_47 rfl (lv_at hl 3 rfl) ?_
      refine ln_sld hx hb hX hbl hbA hS (by omega) (by omega) d_L_law_48 ?_
      refine lv_bipush (v := nI 15) hx hb d_L_law_49 (by decide) ?_
      refine lv_iand hx hb d_L_law_51 ?_
      obtain ⟨j, hj, ej⟩ := pk_andE (xs (2 + 5 * k)) (m := nI 15) 4 (by decide)
      rw [ej]
      have hj2 : j = 0 ∨ j = 1 ∨ j = 2 ∨ j = 3 ∨ j = 4 ∨ j = 5 ∨ j = 6 ∨ j = 7 ∨ j = 8 ∨ j = 9 ∨ j = 10 ∨ j = 11 ∨ j = 12 ∨ j = 13 ∨ j = 14 ∨ j = 15 := by omega
      rcases hj2 with rfl | rfl | rfl | rfl | rfl | rfl | rfl | rfl | rfl | rfl | rfl | rfl | rfl | rfl | rfl | rfl
      · refine lv_tableIn (off := 72) (tgt := 124) hx hb d_L_law_52 (by decide) (by decide) (by decide) (by decide) ?_
        refine lv_aload_n hx hb d_L_law_124 rfl (lv_at hl 1 rfl) ?_
        obtain ⟨r, x', y', e1, e2, hI'⟩ := sim_add (xs (2 + 5 * k + 1)) (xs (2 + 5 * k + 2)) (xs (2 + 5 * k + 3)) (xs (2 + 5 * k + 4)) hI (by omega)
        refine lv_aload_n hx hb d_L_law_125 rfl (lv_at hl 0 rfl) ?_
        refine lv_iload_n hx hb d_L_law_126 rfl (lv_at hl 3 rfl) ?_
        refine lv_iconst (v := nI 1) hx hb d_L_law_127 (by decide) ?_
        refine ln_iadd hx hb d_L_law_128 ?_
        refine ln_sld hx hb hX hbl hbA hS (by omega) (by omega) d_L_law_129 ?_
        refine lv_aload_n hx hb d_L_law_130 rfl (lv_at hl 0 rfl) ?_
        refine lv_iload_n hx hb d_L_law_131 rfl (lv_at hl 3 rfl) ?_
        refine lv_iconst (v := nI 2) hx hb d_L_law_132 (by decide) ?_
        refine ln_iadd hx hb d_L_law_133 ?_
        refine ln_sld hx hb hX hbl hbA hS (by omega) (by omega) d_L_law_134 ?_
        refine lv_aload_n hx hb d_L_law_135 rfl (lv_at hl 0 rfl) ?_
        refine lv_iload_n hx hb d_L_law_136 rfl (lv_at hl 3 rfl) ?_
        refine lv_iconst (v := nI 3) hx hb d_L_law_137 (by decide) ?_
        refine ln_iadd hx hb d_L_law_138 ?_
        refine ln_sld hx hb hX hbl hbA hS (by omega) (by omega) d_L_law_139 ?_
        refine lv_aload_n hx hb d_L_law_140 rfl (lv_at hl 0 rfl) ?_
        refine lv_iload_n hx hb d_L_law_141 rfl (lv_at hl 3 rfl) ?_
        refine lv_iconst (v := nI 4) hx hb d_L_law_142 (by decide) ?_
        refine ln_iadd hx hb d_L_law_143 ?_
        refine ln_sld hx hb hX hbl hbA hS (by omega) (by omega) d_L_law_144 ?_
        refine ln_goiX (va_runV (As := [.int (xs (2 + 5 * k + 1)), .int (xs (2 + 5 * k + 2)), .int (xs (2 + 5 * k + 3)), .int (xs (2 + 5 * k + 4))]) (rest := []) ⟨hx, hb, hml, hown, hT⟩ (cX_add l D ci ad x (xs (2 + 5 * k + 1)) (xs (2 + 5 * k + 2)) (xs (2 + 5 * k + 3)) (xs (2 + 5 * k + 4)) (r, x') e1 H.size) (cw_V 4 hT wd_189 wd_1 wd_192 wd_190 wd_191 (by decide +kernel) (by decide) (by decide)) (ln_preV 0 hK hN (va_P_l hP) rfl rfl (va_P_l hP) (va_D_l hD)) rfl rfl hl.1 rfl (lv_room (Nat.le_of_ble_eq_true rfl)) d_L_law_145 ⟨by decide, by decide⟩) hP hD hS hA (fun H locs hP hD hS => ?_)
        replace hP : va_P D vwCl (wX ad ci x' ++ wM am ci y) H := hP
        replace hD : va_D (fun q => s.heap.size ≤ q) (wX ad ci x' ++ wM am ci y) := hD
        refine lv_aload_n hx hb d_L_law_148 rfl (lv_at hl 2 rfl) ?_
        refine lv_aload_n hx hb d_L_law_149 rfl (lv_at hl 0 rfl) ?_
        refine lv_iload_n hx hb d_L_law_150 rfl (lv_at hl 3 rfl) ?_
        refine lv_iconst (v := nI 1) hx hb d_L_law_151 (by decide) ?_
        refine ln_iadd hx hb d_L_law_152 ?_
        refine ln_sld hx hb hX hbl hbA hS (by omega) (by omega) d_L_law_153 ?_
        refine lv_aload_n hx hb d_L_law_154 rfl (lv_at hl 0 rfl) ?_
        refine lv_iload_n hx hb d_L_law_155 rfl (lv_at hl 3 rfl) ?_
        refine lv_iconst (v := nI 2) hx hb d_L_law_156 (by decide) ?_
        refine ln_iadd hx hb d_L_law_157 ?_
        refine ln_sld hx hb hX hbl hbA hS (by omega) (by omega) d_L_law_158 ?_
        refine lv_aload_n hx hb d_L_law_159 rfl (lv_at hl 0 rfl) ?_
        refine lv_iload_n hx hb d_L_law_160 rfl (lv_at hl 3 rfl) ?_
        refine lv_iconst (v := nI 3) hx hb d_L_law_161 (by decide) ?_
        refine ln_iadd hx hb d_L_law_162 ?_
        refine ln_sld hx hb hX hbl hbA hS (by omega) (by omega) d_L_law_163 ?_
        refine lv_aload_n hx hb d_L_law_164 rfl (lv_at hl 0 rfl) ?_
        refine lv_iload_n hx hb d_L_law_165 rfl (lv_at hl 3 rfl) ?_
        refine lv_iconst (v := nI 4) hx hb d_L_law_166 (by decide) ?_
        refine ln_iadd hx hb d_L_law_167 ?_
        refine ln_sld hx hb hX hbl hbA hS (by omega) (by omega) d_L_law_168 ?_
        refine ln_goiM (va_runV (As := [.int (xs (2 + 5 * k + 1)), .int (xs (2 + 5 * k + 2)), .int (xs (2 + 5 * k + 3)), .int (xs (2 + 5 * k + 4))]) (rest := [.int r]) ⟨hx, hb, hml, hown, hT⟩ (cM_add l D ci am y (xs (2 + 5 * k + 1)) (xs (2 + 5 * k + 2)) (xs (2 + 5 * k + 3)) (xs (2 + 5 * k + 4)) (r, y') e2 H.size) (cw_V 4 hT wd_525 wd_8 wd_528 wd_526 wd_527 (by decide +kernel) (by decide) (by decide)) (ln_preV 0 hK hN (va_P_r hP) rfl rfl (va_P_r hP) (va_D_r hD)) rfl rfl hl.1 rfl (lv_room (Nat.le_of_ble_eq_true rfl)) d_L_law_169 ⟨by decide, by decide⟩) hP hD hS hA (fun H locs hP hD hS => ?_)
        replace hP : va_P D vwCl (wX ad ci x' ++ wM am ci y') H := hP
        replace hD : va_D (fun q => s.heap.size ≤ q) (wX ad ci x' ++ wM am ci y') := hD
        exact lv_icmp_eq (tgt := 484) hx hb d_L_law_172 (by decide) (fun _ => next x' y' H locs hP hD hS hI') (fun h9 => absurd rfl h9)
      · refine lv_tableIn (off := 125) (tgt := 177) hx hb d_L_law_52 (by decide) (by decide) (by decide) (by decide) ?_
        refine lv_aload_n hx hb d_L_law_177 rfl (lv_at hl 1 rfl) ?_
        obtain ⟨r, x', y', e1, e2, hI'⟩ := sim_tick (xs (2 + 5 * k + 1)) hI (by omega)
        refine lv_aload_n hx hb d_L_law_178 rfl (lv_at hl 0 rfl) ?_
        refine lv_iload_n hx hb d_L_law_179 rfl (lv_at hl 3 rfl) ?_
        refine lv_iconst (v := nI 1) hx hb d_L_law_180 (by decide) ?_
        refine ln_iadd hx hb d_L_law_181 ?_
        refine ln_sld hx hb hX hbl hbA hS (by omega) (by omega) d_L_law_182 ?_
        refine ln_goiX (va_runV (As := [.int (xs (2 + 5 * k + 1))]) (rest := []) ⟨hx, hb, hml, hown, hT⟩ (cX_tick l D ci ad x (xs (2 + 5 * k + 1)) (r, x') e1 H.size) (cw_V 1 hT wd_205 wd_1 wd_208 wd_206 wd_207 (by decide +kernel) (by decide) (by decide)) (ln_preV 0 hK hN (va_P_l hP) rfl rfl (va_P_l hP) (va_D_l hD)) rfl rfl hl.1 rfl (lv_room (Nat.le_of_ble_eq_true rfl)) d_L_law_183 ⟨by decide, by decide⟩) hP hD hS hA (fun H locs hP hD hS => ?_)
        replace hP : va_P D vwCl (wX ad ci x' ++ wM am ci y) H := hP
        replace hD : va_D (fun q => s.heap.size ≤ q) (wX ad ci x' ++ wM am ci y) := hD
        refine lv_aload_n hx hb d_L_law_186 rfl (lv_at hl 2 rfl) ?_
        refine lv_aload_n hx hb d_L_law_187 rfl (lv_at hl 0 rfl) ?_
        refine lv_iload_n hx hb d_L_law_188 rfl (lv_at hl 3 rfl) ?_
        refine lv_iconst (v := nI 1) hx hb d_L_law_189 (by decide) ?_
        refine ln_iadd hx hb d_L_law_190 ?_
        refine ln_sld hx hb hX hbl hbA hS (by omega) (by omega) d_L_law_191 ?_
        refine ln_goiM (va_runV (As := [.int (xs (2 + 5 * k + 1))]) (rest := [.int r]) ⟨hx, hb, hml, hown, hT⟩ (cM_tick l D ci am y (xs (2 + 5 * k + 1)) (r, y') e2 H.size) (cw_V 1 hT wd_532 wd_8 wd_535 wd_533 wd_534 (by decide +kernel) (by decide) (by decide)) (ln_preV 0 hK hN (va_P_r hP) rfl rfl (va_P_r hP) (va_D_r hD)) rfl rfl hl.1 rfl (lv_room (Nat.le_of_ble_eq_true rfl)) d_L_law_192 ⟨by decide, by decide⟩) hP hD hS hA (fun H locs hP hD hS => ?_)
        replace hP : va_P D vwCl (wX ad ci x' ++ wM am ci y') H := hP
        replace hD : va_D (fun q => s.heap.size ≤ q) (wX ad ci x' ++ wM am ci y') := hD
        exact lv_icmp_eq (tgt := 484) hx hb d_L_law_195 (by decide) (fun _ => next x' y' H locs hP hD hS hI') (fun h9 => absurd rfl h9)
      · refine lv_tableIn (off := 148) (tgt := 200) hx hb d_L_law_52 (by decide) (by decide) (by decide) (by decide) ?_
        refine lv_aload_n hx hb d_L_law_200 rfl (lv_at hl 1 rfl) ?_
        obtain ⟨r, x', y', e1, e2, hI'⟩ := sim_lose (xs (2 + 5 * k + 1)) hI (by omega)
        refine lv_aload_n hx hb d_L_law_201 rfl (lv_at hl 0 rfl) ?_
        refine lv_iload_n hx hb d_L_law_202 rfl (lv_at hl 3 rfl) ?_
        refine lv_iconst (v := nI 1) hx hb d_L_law_203 (by decide) ?_
        refine ln_iadd hx hb d_L_law_204 ?_
        refine ln_sld hx hb hX hbl hbA hS (by omega) (by omega) d_L_law_205 ?_
        refine ln_goiX (va_runV (As := [.int (xs (2 + 5 * k + 1))]) (rest := []) ⟨hx, hb, hml, hown, hT⟩ (cX_lose l D ci ad x (xs (2 + 5 * k + 1)) (r, x') e1 H.size) (cw_V 1 hT wd_358 wd_1 wd_361 wd_359 wd_360 (by decide +kernel) (by decide) (by decide)) (ln_preV 0 hK hN (va_P_l hP) rfl rfl (va_P_l hP) (va_D_l hD)) rfl rfl hl.1 rfl (lv_room (Nat.le_of_ble_eq_true rfl)) d_L_law_206 ⟨by decide, by decide⟩) hP hD hS hA (fun H locs hP hD hS => ?_)
        replace hP : va_P D vwCl (wX ad ci x' ++ wM am ci y) H := hP
        replace hD : va_D (fun q => s.heap.size ≤ q) (wX ad ci x' ++ wM am ci y) := hD
        refine lv_aload_n hx hb d_L_law_209 rfl (lv_at hl 2 rfl) ?_
        refine lv_aload_n hx hb d_L_law_210 rfl (lv_at hl 0 rfl) ?_
        refine lv_iload_n hx hb d_L_law_211 rfl (lv_at hl 3 rfl) ?_
        refine lv_iconst (v := nI 1) hx hb d_L_law_212 (by decide) ?_
        refine ln_iadd hx hb d_L_law_213 ?_
        refine ln_sld hx hb hX hbl hbA hS (by omega) (by omega) d_L_law_214 ?_
        refine ln_goiM (va_runV (As := [.int (xs (2 + 5 * k + 1))]) (rest := [.int r]) ⟨hx, hb, hml, hown, hT⟩ (cM_lose l D ci am y (xs (2 + 5 * k + 1)) (r, y') e2 H.size) (cw_V 1 hT wd_593 wd_8 wd_596 wd_594 wd_595 (by decide +kernel) (by decide) (by decide)) (ln_preV 0 hK hN (va_P_r hP) rfl rfl (va_P_r hP) (va_D_r hD)) rfl rfl hl.1 rfl (lv_room (Nat.le_of_ble_eq_true rfl)) d_L_law_215 ⟨by decide, by decide⟩) hP hD hS hA (fun H locs hP hD hS => ?_)
        replace hP : va_P D vwCl (wX ad ci x' ++ wM am ci y') H := hP
        replace hD : va_D (fun q => s.heap.size ≤ q) (wX ad ci x' ++ wM am ci y') := hD
        exact lv_icmp_eq (tgt := 484) hx hb d_L_law_218 (by decide) (fun _ => next x' y' H locs hP hD hS hI') (fun h9 => absurd rfl h9)
      · refine lv_tableIn (off := 171) (tgt := 223) hx hb d_L_law_52 (by decide) (by decide) (by decide) (by decide) ?_
        refine lv_aload_n hx hb d_L_law_223 rfl (lv_at hl 1 rfl) ?_
        obtain ⟨r, x', y', e1, e2, hI'⟩ := sim_spoil (xs (2 + 5 * k + 1)) (xs (2 + 5 * k + 2)) hI (by omega)
        refine lv_aload_n hx hb d_L_law_224 rfl (lv_at hl 0 rfl) ?_
        refine lv_iload_n hx hb d_L_law_225 rfl (lv_at hl 3 rfl) ?_
        refine lv_iconst (v := nI 1) hx hb d_L_law_226 (by decide) ?_
        refine ln_iadd hx hb d_L_law_227 ?_
        refine ln_sld hx hb hX hbl hbA hS (by omega) (by omega) d_L_law_228 ?_
        refine lv_aload_n hx hb d_L_law_229 rfl (lv_at hl 0 rfl) ?_
        refine lv_iload_n hx hb d_L_law_230 rfl (lv_at hl 3 rfl) ?_
        refine lv_iconst (v := nI 2) hx hb d_L_law_231 (by decide) ?_
        refine ln_iadd hx hb d_L_law_232 ?_
        refine ln_sld hx hb hX hbl hbA hS (by omega) (by omega) d_L_law_233 ?_
        refine ln_goiX (va_runV (As := [.int (xs (2 + 5 * k + 1)), .int (xs (2 + 5 * k + 2))]) (rest := []) ⟨hx, hb, hml, hown, hT⟩ (cX_spoil l D ci ad x (xs (2 + 5 * k + 1)) (xs (2 + 5 * k + 2)) (r, x') e1 H.size) (cw_V 2 hT wd_362 wd_1 wd_365 wd_363 wd_364 (by decide +kernel) (by decide) (by decide)) (ln_preV 0 hK hN (va_P_l hP) rfl rfl (va_P_l hP) (va_D_l hD)) rfl rfl hl.1 rfl (lv_room (Nat.le_of_ble_eq_true rfl)) d_L_law_234 ⟨by decide, by decide⟩) hP hD hS hA (fun H locs hP hD hS => ?_)
        replace hP : va_P D vwCl (wX ad ci x' ++ wM am ci y) H := hP
        replace hD : va_D (fun q => s.heap.size ≤ q) (wX ad ci x' ++ wM am ci y) := hD
        refine lv_aload_n hx hb d_L_law_237 rfl (lv_at hl 2 rfl) ?_
        refine lv_aload_n hx hb d_L_law_238 rfl (lv_at hl 0 rfl) ?_
        refine lv_iload_n hx hb d_L_law_239 rfl (lv_at hl 3 rfl) ?_
        refine lv_iconst (v := nI 1) hx hb d_L_law_240 (by decide) ?_
        refine ln_iadd hx hb d_L_law_241 ?_
        refine ln_sld hx hb hX hbl hbA hS (by omega) (by omega) d_L_law_242 ?_
        refine lv_aload_n hx hb d_L_law_243 rfl (lv_at hl 0 rfl) ?_
        refine lv_iload_n hx hb d_L_law_244 rfl (lv_at hl 3 rfl) ?_
        refine lv_iconst (v := nI 2) hx hb d_L_law_245 (by decide) ?_
        refine ln_iadd hx hb d_L_law_246 ?_
        refine ln_sld hx hb hX hbl hbA hS (by omega) (by omega) d_L_law_247 ?_
        refine ln_goiM (va_runV (As := [.int (xs (2 + 5 * k + 1)), .int (xs (2 + 5 * k + 2))]) (rest := [.int r]) ⟨hx, hb, hml, hown, hT⟩ (cM_spoil l D ci am y (xs (2 + 5 * k + 1)) (xs (2 + 5 * k + 2)) (r, y') e2 H.size) (cw_V 2 hT wd_597 wd_8 wd_600 wd_598 wd_599 (by decide +kernel) (by decide) (by decide)) (ln_preV 0 hK hN (va_P_r hP) rfl rfl (va_P_r hP) (va_D_r hD)) rfl rfl hl.1 rfl (lv_room (Nat.le_of_ble_eq_true rfl)) d_L_law_248 ⟨by decide, by decide⟩) hP hD hS hA (fun H locs hP hD hS => ?_)
        replace hP : va_P D vwCl (wX ad ci x' ++ wM am ci y') H := hP
        replace hD : va_D (fun q => s.heap.size ≤ q) (wX ad ci x' ++ wM am ci y') := hD
        exact lv_icmp_eq (tgt := 484) hx hb d_L_law_251 (by decide) (fun _ => next x' y' H locs hP hD hS hI') (fun h9 => absurd rfl h9)
      · refine lv_tableIn (off := 204) (tgt := 256) hx hb d_L_law_52 (by decide) (by decide) (by decide) (by decide) ?_
        refine lv_aload_n hx hb d_L_law_256 rfl (lv_at hl 1 rfl) ?_
        obtain ⟨r, e1, e2⟩ := sim_packet (xs (2 + 5 * k + 1)) hI.1
        refine lv_aload_n hx hb d_L_law_257 rfl (lv_at hl 0 rfl) ?_
        refine lv_iload_n hx hb d_L_law_258 rfl (lv_at hl 3 rfl) ?_
        refine lv_iconst (v := nI 1) hx hb d_L_law_259 (by decide) ?_
        refine ln_iadd hx hb d_L_law_260 ?_
        refine ln_sld hx hb hX hbl hbA hS (by omega) (by omega) d_L_law_261 ?_
        refine ln_goiX (va_runV (As := [.int (xs (2 + 5 * k + 1))]) (rest := []) ⟨hx, hb, hml, hown, hT⟩ (cX_packet l D ci ad x (xs (2 + 5 * k + 1)) r e1 H.size) (cw_V 1 hT wd_375 wd_1 wd_378 wd_376 wd_377 (by decide +kernel) (by decide) (by decide)) (ln_preV 0 hK hN (va_P_l hP) rfl rfl (va_P_l hP) (va_D_l hD)) rfl rfl hl.1 rfl (lv_room (Nat.le_of_ble_eq_true rfl)) d_L_law_262 ⟨by decide, by decide⟩) hP hD hS hA (fun H locs hP hD hS => ?_)
        replace hP : va_P D vwCl (wX ad ci x ++ wM am ci y) H := hP
        replace hD : va_D (fun q => s.heap.size ≤ q) (wX ad ci x ++ wM am ci y) := hD
        refine lv_aload_n hx hb d_L_law_265 rfl (lv_at hl 2 rfl) ?_
        refine lv_aload_n hx hb d_L_law_266 rfl (lv_at hl 0 rfl) ?_
        refine lv_iload_n hx hb d_L_law_267 rfl (lv_at hl 3 rfl) ?_
        refine lv_iconst (v := nI 1) hx hb d_L_law_268 (by decide) ?_
        refine ln_iadd hx hb d_L_law_269 ?_
        refine ln_sld hx hb hX hbl hbA hS (by omega) (by omega) d_L_law_270 ?_
        refine ln_goiM (va_runV (As := [.int (xs (2 + 5 * k + 1))]) (rest := [.int r]) ⟨hx, hb, hml, hown, hT⟩ (cM_packet l D ci am y (xs (2 + 5 * k + 1)) r e2 H.size) (cw_V 1 hT wd_601 wd_8 wd_604 wd_602 wd_603 (by decide +kernel) (by decide) (by decide)) (ln_preV 0 hK hN (va_P_r hP) rfl rfl (va_P_r hP) (va_D_r hD)) rfl rfl hl.1 rfl (lv_room (Nat.le_of_ble_eq_true rfl)) d_L_law_271 ⟨by decide, by decide⟩) hP hD hS hA (fun H locs hP hD hS => ?_)
        replace hP : va_P D vwCl (wX ad ci x ++ wM am ci y) H := hP
        replace hD : va_D (fun q => s.heap.size ≤ q) (wX ad ci x ++ wM am ci y) := hD
        exact lv_icmp_eq (tgt := 484) hx hb d_L_law_274 (by decide) (fun _ => next x y H locs hP hD hS (hI.le (by omega))) (fun h9 => absurd rfl h9)
      · refine lv_tableIn (off := 227) (tgt := 279) hx hb d_L_law_52 (by decide) (by decide) (by decide) (by decide) ?_
        refine lv_aload_n hx hb d_L_law_279 rfl (lv_at hl 1 rfl) ?_
        obtain ⟨r, e1, e2⟩ := sim_waiting (xs (2 + 5 * k + 1)) hI.1
        refine lv_aload_n hx hb d_L_law_280 rfl (lv_at hl 0 rfl) ?_
        refine lv_iload_n hx hb d_L_law_281 rfl (lv_at hl 3 rfl) ?_
        refine lv_iconst (v := nI 1) hx hb d_L_law_282 (by decide) ?_
        refine ln_iadd hx hb d_L_law_283 ?_
        refine ln_sld hx hb hX hbl hbA hS (by omega) (by omega) d_L_law_284 ?_
        refine ln_goiX (va_runV (As := [.int (xs (2 + 5 * k + 1))]) (rest := []) ⟨hx, hb, hml, hown, hT⟩ (cX_waiting l D ci ad x (xs (2 + 5 * k + 1)) r e1 H.size) (cw_V 1 hT wd_380 wd_1 wd_383 wd_381 wd_382 (by decide +kernel) (by decide) (by decide)) (ln_preV 0 hK hN (va_P_l hP) rfl rfl (va_P_l hP) (va_D_l hD)) rfl rfl hl.1 rfl (lv_room (Nat.le_of_ble_eq_true rfl)) d_L_law_285 ⟨by decide, by decide⟩) hP hD hS hA (fun H locs hP hD hS => ?_)
        replace hP : va_P D vwCl (wX ad ci x ++ wM am ci y) H := hP
        replace hD : va_D (fun q => s.heap.size ≤ q) (wX ad ci x ++ wM am ci y) := hD
        refine lv_aload_n hx hb d_L_law_288 rfl (lv_at hl 2 rfl) ?_
        refine lv_aload_n hx hb d_L_law_289 rfl (lv_at hl 0 rfl) ?_
        refine lv_iload_n hx hb d_L_law_290 rfl (lv_at hl 3 rfl) ?_
        refine lv_iconst (v := nI 1) hx hb d_L_law_291 (by decide) ?_
        refine ln_iadd hx hb d_L_law_292 ?_
        refine ln_sld hx hb hX hbl hbA hS (by omega) (by omega) d_L_law_293 ?_
        refine ln_goiM (va_runV (As := [.int (xs (2 + 5 * k + 1))]) (rest := [.int r]) ⟨hx, hb, hml, hown, hT⟩ (cM_waiting l D ci am y (xs (2 + 5 * k + 1)) r e2 H.size) (cw_V 1 hT wd_609 wd_8 wd_612 wd_610 wd_611 (by decide +kernel) (by decide) (by decide)) (ln_preV 0 hK hN (va_P_r hP) rfl rfl (va_P_r hP) (va_D_r hD)) rfl rfl hl.1 rfl (lv_room (Nat.le_of_ble_eq_true rfl)) d_L_law_294 ⟨by decide, by decide⟩) hP hD hS hA (fun H locs hP hD hS => ?_)
        replace hP : va_P D vwCl (wX ad ci x ++ wM am ci y) H := hP
        replace hD : va_D (fun q => s.heap.size ≤ q) (wX ad ci x ++ wM am ci y) := hD
        exact lv_icmp_eq (tgt := 484) hx hb d_L_law_297 (by decide) (fun _ => next x y H locs hP hD hS (hI.le (by omega))) (fun h9 => absurd rfl h9)
      · refine lv_tableIn (off := 250) (tgt := 302) hx hb d_L_law_52 (by decide) (by decide) (by decide) (by decide) ?_
        refine lv_aload_n hx hb d_L_law_302 rfl (lv_at hl 1 rfl) ?_
        obtain ⟨r, e1, e2⟩ := sim_stored (xs (2 + 5 * k + 1)) hI.1
        refine lv_aload_n hx hb d_L_law_303 rfl (lv_at hl 0 rfl) ?_
        refine lv_iload_n hx hb d_L_law_304 rfl (lv_at hl 3 rfl) ?_
        refine lv_iconst (v := nI 1) hx hb d_L_law_305 (by decide) ?_
        refine ln_iadd hx hb d_L_law_306 ?_
        refine ln_sld hx hb hX hbl hbA hS (by omega) (by omega) d_L_law_307 ?_
        refine ln_goiX (va_runV (As := [.int (xs (2 + 5 * k + 1))]) (rest := []) ⟨hx, hb, hml, hown, hT⟩ (cX_stored l D ci ad x (xs (2 + 5 * k + 1)) r e1 H.size) (cw_V 1 hT wd_384 wd_1 wd_387 wd_385 wd_386 (by decide +kernel) (by decide) (by decide)) (ln_preV 0 hK hN (va_P_l hP) rfl rfl (va_P_l hP) (va_D_l hD)) rfl rfl hl.1 rfl (lv_room (Nat.le_of_ble_eq_true rfl)) d_L_law_308 ⟨by decide, by decide⟩) hP hD hS hA (fun H locs hP hD hS => ?_)
        replace hP : va_P D vwCl (wX ad ci x ++ wM am ci y) H := hP
        replace hD : va_D (fun q => s.heap.size ≤ q) (wX ad ci x ++ wM am ci y) := hD
        refine lv_aload_n hx hb d_L_law_311 rfl (lv_at hl 2 rfl) ?_
        refine lv_aload_n hx hb d_L_law_312 rfl (lv_at hl 0 rfl) ?_
        refine lv_iload_n hx hb d_L_law_313 rfl (lv_at hl 3 rfl) ?_
        refine lv_iconst (v := nI 1) hx hb d_L_law_314 (by decide) ?_
        refine ln_iadd hx hb d_L_law_315 ?_
        refine ln_sld hx hb hX hbl hbA hS (by omega) (by omega) d_L_law_316 ?_
        refine ln_goiM (va_runV (As := [.int (xs (2 + 5 * k + 1))]) (rest := [.int r]) ⟨hx, hb, hml, hown, hT⟩ (cM_stored l D ci am y (xs (2 + 5 * k + 1)) r e2 H.size) (cw_V 1 hT wd_613 wd_8 wd_616 wd_614 wd_615 (by decide +kernel) (by decide) (by decide)) (ln_preV 0 hK hN (va_P_r hP) rfl rfl (va_P_r hP) (va_D_r hD)) rfl rfl hl.1 rfl (lv_room (Nat.le_of_ble_eq_true rfl)) d_L_law_317 ⟨by decide, by decide⟩) hP hD hS hA (fun H locs hP hD hS => ?_)
        replace hP : va_P D vwCl (wX ad ci x ++ wM am ci y) H := hP
        replace hD : va_D (fun q => s.heap.size ≤ q) (wX ad ci x ++ wM am ci y) := hD
        exact lv_icmp_eq (tgt := 484) hx hb d_L_law_320 (by decide) (fun _ => next x y H locs hP hD hS (hI.le (by omega))) (fun h9 => absurd rfl h9)
      · refine lv_tableIn (off := 273) (tgt := 325) hx hb d_L_law_52 (by decide) (by decide) (by decide) (by decide) ?_
        refine lv_aload_n hx hb d_L_law_325 rfl (lv_at hl 1 rfl) ?_
        obtain ⟨r, e1, e2⟩ := sim_levels (xs (2 + 5 * k + 1)) hI.1
        refine lv_aload_n hx hb d_L_law_326 rfl (lv_at hl 0 rfl) ?_
        refine lv_iload_n hx hb d_L_law_327 rfl (lv_at hl 3 rfl) ?_
        refine lv_iconst (v := nI 1) hx hb d_L_law_328 (by decide) ?_
        refine ln_iadd hx hb d_L_law_329 ?_
        refine ln_sld hx hb hX hbl hbA hS (by omega) (by omega) d_L_law_330 ?_
        refine ln_goiX (va_runV (As := [.int (xs (2 + 5 * k + 1))]) (rest := []) ⟨hx, hb, hml, hown, hT⟩ (cX_levels l D ci ad x (xs (2 + 5 * k + 1)) r e1 H.size) (cw_V 1 hT wd_388 wd_1 wd_391 wd_389 wd_390 (by decide +kernel) (by decide) (by decide)) (ln_preV 0 hK hN (va_P_l hP) rfl rfl (va_P_l hP) (va_D_l hD)) rfl rfl hl.1 rfl (lv_room (Nat.le_of_ble_eq_true rfl)) d_L_law_331 ⟨by decide, by decide⟩) hP hD hS hA (fun H locs hP hD hS => ?_)
        replace hP : va_P D vwCl (wX ad ci x ++ wM am ci y) H := hP
        replace hD : va_D (fun q => s.heap.size ≤ q) (wX ad ci x ++ wM am ci y) := hD
        refine lv_aload_n hx hb d_L_law_334 rfl (lv_at hl 2 rfl) ?_
        refine lv_aload_n hx hb d_L_law_335 rfl (lv_at hl 0 rfl) ?_
        refine lv_iload_n hx hb d_L_law_336 rfl (lv_at hl 3 rfl) ?_
        refine lv_iconst (v := nI 1) hx hb d_L_law_337 (by decide) ?_
        refine ln_iadd hx hb d_L_law_338 ?_
        refine ln_sld hx hb hX hbl hbA hS (by omega) (by omega) d_L_law_339 ?_
        refine ln_goiM (va_runV (As := [.int (xs (2 + 5 * k + 1))]) (rest := [.int r]) ⟨hx, hb, hml, hown, hT⟩ (cM_levels l D ci am y (xs (2 + 5 * k + 1)) r e2 H.size) (cw_V 1 hT wd_617 wd_8 wd_620 wd_618 wd_619 (by decide +kernel) (by decide) (by decide)) (ln_preV 0 hK hN (va_P_r hP) rfl rfl (va_P_r hP) (va_D_r hD)) rfl rfl hl.1 rfl (lv_room (Nat.le_of_ble_eq_true rfl)) d_L_law_340 ⟨by decide, by decide⟩) hP hD hS hA (fun H locs hP hD hS => ?_)
        replace hP : va_P D vwCl (wX ad ci x ++ wM am ci y) H := hP
        replace hD : va_D (fun q => s.heap.size ≤ q) (wX ad ci x ++ wM am ci y) := hD
        exact lv_icmp_eq (tgt := 484) hx hb d_L_law_343 (by decide) (fun _ => next x y H locs hP hD hS (hI.le (by omega))) (fun h9 => absurd rfl h9)
      · refine lv_tableIn (off := 296) (tgt := 348) hx hb d_L_law_52 (by decide) (by decide) (by decide) (by decide) ?_
        refine lv_aload_n hx hb d_L_law_348 rfl (lv_at hl 1 rfl) ?_
        obtain ⟨r, e1, e2⟩ := sim_late (xs (2 + 5 * k + 1)) hI.1
        refine lv_aload_n hx hb d_L_law_349 rfl (lv_at hl 0 rfl) ?_
        refine lv_iload_n hx hb d_L_law_350 rfl (lv_at hl 3 rfl) ?_
        refine lv_iconst (v := nI 1) hx hb d_L_law_351 (by decide) ?_
        refine ln_iadd hx hb d_L_law_352 ?_
        refine ln_sld hx hb hX hbl hbA hS (by omega) (by omega) d_L_law_353 ?_
        refine ln_goiX (va_runV (As := [.int (xs (2 + 5 * k + 1))]) (rest := []) ⟨hx, hb, hml, hown, hT⟩ (cX_late l D ci ad x (xs (2 + 5 * k + 1)) r e1 H.size) (cw_V 1 hT wd_392 wd_1 wd_395 wd_393 wd_394 (by decide +kernel) (by decide) (by decide)) (ln_preV 0 hK hN (va_P_l hP) rfl rfl (va_P_l hP) (va_D_l hD)) rfl rfl hl.1 rfl (lv_room (Nat.le_of_ble_eq_true rfl)) d_L_law_354 ⟨by decide, by decide⟩) hP hD hS hA (fun H locs hP hD hS => ?_)
        replace hP : va_P D vwCl (wX ad ci x ++ wM am ci y) H := hP
        replace hD : va_D (fun q => s.heap.size ≤ q) (wX ad ci x ++ wM am ci y) := hD
        refine lv_aload_n hx hb d_L_law_357 rfl (lv_at hl 2 rfl) ?_
        refine lv_aload_n hx hb d_L_law_358 rfl (lv_at hl 0 rfl) ?_
        refine lv_iload_n hx hb d_L_law_359 rfl (lv_at hl 3 rfl) ?_
        refine lv_iconst (v := nI 1) hx hb d_L_law_360 (by decide) ?_
        refine ln_iadd hx hb d_L_law_361 ?_
        refine ln_sld hx hb hX hbl hbA hS (by omega) (by omega) d_L_law_362 ?_
        refine ln_goiM (va_runV (As := [.int (xs (2 + 5 * k + 1))]) (rest := [.int r]) ⟨hx, hb, hml, hown, hT⟩ (cM_late l D ci am y (xs (2 + 5 * k + 1)) r e2 H.size) (cw_V 1 hT wd_621 wd_8 wd_624 wd_622 wd_623 (by decide +kernel) (by decide) (by decide)) (ln_preV 0 hK hN (va_P_r hP) rfl rfl (va_P_r hP) (va_D_r hD)) rfl rfl hl.1 rfl (lv_room (Nat.le_of_ble_eq_true rfl)) d_L_law_363 ⟨by decide, by decide⟩) hP hD hS hA (fun H locs hP hD hS => ?_)
        replace hP : va_P D vwCl (wX ad ci x ++ wM am ci y) H := hP
        replace hD : va_D (fun q => s.heap.size ≤ q) (wX ad ci x ++ wM am ci y) := hD
        exact lv_icmp_eq (tgt := 484) hx hb d_L_law_366 (by decide) (fun _ => next x y H locs hP hD hS (hI.le (by omega))) (fun h9 => absurd rfl h9)
      · refine lv_tableIn (off := 319) (tgt := 371) hx hb d_L_law_52 (by decide) (by decide) (by decide) (by decide) ?_
        refine lv_aload_n hx hb d_L_law_371 rfl (lv_at hl 1 rfl) ?_
        obtain ⟨r, e1, e2⟩ := sim_clock hI.2.1.1
        refine ln_goiX (va_runV (As := []) (rest := []) ⟨hx, hb, hml, hown, hT⟩ (cX_clock l D ci ad x  r e1 H.size) (cw_V 0 hT wd_396 wd_1 wd_399 wd_397 wd_398 (by decide +kernel) (by decide) (by decide)) (ln_preV 0 hK hN (va_P_l hP) rfl rfl (va_P_l hP) (va_D_l hD)) rfl rfl hl.1 rfl (lv_room (Nat.le_of_ble_eq_true rfl)) d_L_law_372 ⟨by decide, by decide⟩) hP hD hS hA (fun H locs hP hD hS => ?_)
        replace hP : va_P D vwCl (wX ad ci x ++ wM am ci y) H := hP
        replace hD : va_D (fun q => s.heap.size ≤ q) (wX ad ci x ++ wM am ci y) := hD
        refine lv_aload_n hx hb d_L_law_375 rfl (lv_at hl 2 rfl) ?_
        refine ln_goiM (va_runV (As := []) (rest := [.int r]) ⟨hx, hb, hml, hown, hT⟩ (cM_clock l D ci am y  r e2 H.size) (cw_V 0 hT wd_625 wd_8 wd_628 wd_626 wd_627 (by decide +kernel) (by decide) (by decide)) (ln_preV 0 hK hN (va_P_r hP) rfl rfl (va_P_r hP) (va_D_r hD)) rfl rfl hl.1 rfl (lv_room (Nat.le_of_ble_eq_true rfl)) d_L_law_376 ⟨by decide, by decide⟩) hP hD hS hA (fun H locs hP hD hS => ?_)
        replace hP : va_P D vwCl (wX ad ci x ++ wM am ci y) H := hP
        replace hD : va_D (fun q => s.heap.size ≤ q) (wX ad ci x ++ wM am ci y) := hD
        exact lv_icmp_eq (tgt := 484) hx hb d_L_law_379 (by decide) (fun _ => next x y H locs hP hD hS (hI.le (by omega))) (fun h9 => absurd rfl h9)
      · refine lv_tableIn (off := 332) (tgt := 384) hx hb d_L_law_52 (by decide) (by decide) (by decide) (by decide) ?_
        refine lv_aload_n hx hb d_L_law_384 rfl (lv_at hl 1 rfl) ?_
        obtain ⟨x', y', e1, e2, hI'⟩ := sim_retune hI
        refine ln_govX (va_runV (As := []) (rest := []) ⟨hx, hb, hml, hown, hT⟩ (cX_retune l D ci ad x  x' e1 H.size) (cw_V 0 hT wd_400 wd_1 wd_403 wd_401 wd_402 (by decide +kernel) (by decide) (by decide)) (ln_preV 0 hK hN (va_P_l hP) rfl rfl (va_P_l hP) (va_D_l hD)) rfl rfl hl.1 rfl (lv_room (Nat.le_of_ble_eq_true rfl)) d_L_law_385 ⟨by decide, by decide⟩) hP hD hS hA (fun H locs hP hD hS => ?_)
        replace hP : va_P D vwCl (wX ad ci x' ++ wM am ci y) H := hP
        replace hD : va_D (fun q => s.heap.size ≤ q) (wX ad ci x' ++ wM am ci y) := hD
        refine lv_aload_n hx hb d_L_law_388 rfl (lv_at hl 2 rfl) ?_
        refine ln_govM (va_runV (As := []) (rest := []) ⟨hx, hb, hml, hown, hT⟩ (cM_retune l D ci am y  y' e2 H.size) (cw_V 0 hT wd_605 wd_8 wd_608 wd_606 wd_607 (by decide +kernel) (by decide) (by decide)) (ln_preV 0 hK hN (va_P_r hP) rfl rfl (va_P_r hP) (va_D_r hD)) rfl rfl hl.1 rfl (lv_room (Nat.le_of_ble_eq_true rfl)) d_L_law_389 ⟨by decide, by decide⟩) hP hD hS hA (fun H locs hP hD hS => ?_)
        replace hP : va_P D vwCl (wX ad ci x' ++ wM am ci y') H := hP
        replace hD : va_D (fun q => s.heap.size ≤ q) (wX ad ci x' ++ wM am ci y') := hD
        refine lv_goto (tgt := 484) hx hb d_L_law_392 (by decide) ?_
        exact next x' y' H locs hP hD hS hI'
      · refine lv_tableIn (off := 343) (tgt := 395) hx hb d_L_law_52 (by decide) (by decide) (by decide) (by decide) ?_
        refine lv_aload_n hx hb d_L_law_395 rfl (lv_at hl 1 rfl) ?_
        obtain ⟨r, e1, e2⟩ := sim_count (xs (2 + 5 * k + 1)) hI.2.1.1
        refine lv_aload_n hx hb d_L_law_396 rfl (lv_at hl 0 rfl) ?_
        refine lv_iload_n hx hb d_L_law_397 rfl (lv_at hl 3 rfl) ?_
        refine lv_iconst (v := nI 1) hx hb d_L_law_398 (by decide) ?_
        refine ln_iadd hx hb d_L_law_399 ?_
        refine ln_sld hx hb hX hbl hbA hS (by omega) (by omega) d_L_law_400 ?_
        refine ln_goiX (va_runV (As := [.int (xs (2 + 5 * k + 1))]) (rest := []) ⟨hx, hb, hml, hown, hT⟩ (cX_count l D ci ad x (xs (2 + 5 * k + 1)) r e1 H.size) (cw_V 1 hT wd_412 wd_1 wd_415 wd_413 wd_414 (by decide +kernel) (by decide) (by decide)) (ln_preV 0 hK hN (va_P_l hP) rfl rfl (va_P_l hP) (va_D_l hD)) rfl rfl hl.1 rfl (lv_room (Nat.le_of_ble_eq_true rfl)) d_L_law_401 ⟨by decide, by decide⟩) hP hD hS hA (fun H locs hP hD hS => ?_)
        replace hP : va_P D vwCl (wX ad ci x ++ wM am ci y) H := hP
        replace hD : va_D (fun q => s.heap.size ≤ q) (wX ad ci x ++ wM am ci y) := hD
        refine lv_aload_n hx hb d_L_law_404 rfl (lv_at hl 2 rfl) ?_
        refine lv_aload_n hx hb d_L_law_405 rfl (lv_at hl 0 rfl) ?_
        refine lv_iload_n hx hb d_L_law_406 rfl (lv_at hl 3 rfl) ?_
        refine lv_iconst (v := nI 1) hx hb d_L_law_407 (by decide) ?_
        refine ln_iadd hx hb d_L_law_408 ?_
        refine ln_sld hx hb hX hbl hbA hS (by omega) (by omega) d_L_law_409 ?_
        refine ln_goiM (va_runV (As := [.int (xs (2 + 5 * k + 1))]) (rest := [.int r]) ⟨hx, hb, hml, hown, hT⟩ (cM_count l D ci am y (xs (2 + 5 * k + 1)) r e2 H.size) (cw_V 1 hT wd_629 wd_8 wd_632 wd_630 wd_631 (by decide +kernel) (by decide) (by decide)) (ln_preV 0 hK hN (va_P_r hP) rfl rfl (va_P_r hP) (va_D_r hD)) rfl rfl hl.1 rfl (lv_room (Nat.le_of_ble_eq_true rfl)) d_L_law_410 ⟨by decide, by decide⟩) hP hD hS hA (fun H locs hP hD hS => ?_)
        replace hP : va_P D vwCl (wX ad ci x ++ wM am ci y) H := hP
        replace hD : va_D (fun q => s.heap.size ≤ q) (wX ad ci x ++ wM am ci y) := hD
        exact lv_icmp_eq (tgt := 484) hx hb d_L_law_413 (by decide) (fun _ => next x y H locs hP hD hS (hI.le (by omega))) (fun h9 => absurd rfl h9)
      · refine lv_tableIn (off := 366) (tgt := 418) hx hb d_L_law_52 (by decide) (by decide) (by decide) (by decide) ?_
        refine lv_aload_n hx hb d_L_law_418 rfl (lv_at hl 1 rfl) ?_
        obtain ⟨r, e1, e2⟩ := sim_latest (xs (2 + 5 * k + 1)) (xs (2 + 5 * k + 2)) hI.2.1 (fun s hs => by have := hI.2.2.2.2 s hs; omega)
        refine lv_aload_n hx hb d_L_law_419 rfl (lv_at hl 0 rfl) ?_
        refine lv_iload_n hx hb d_L_law_420 rfl (lv_at hl 3 rfl) ?_
        refine lv_iconst (v := nI 1) hx hb d_L_law_421 (by decide) ?_
        refine ln_iadd hx hb d_L_law_422 ?_
        refine ln_sld hx hb hX hbl hbA hS (by omega) (by omega) d_L_law_423 ?_
        refine lv_aload_n hx hb d_L_law_424 rfl (lv_at hl 0 rfl) ?_
        refine lv_iload_n hx hb d_L_law_425 rfl (lv_at hl 3 rfl) ?_
        refine lv_iconst (v := nI 2) hx hb d_L_law_426 (by decide) ?_
        refine ln_iadd hx hb d_L_law_427 ?_
        refine ln_sld hx hb hX hbl hbA hS (by omega) (by omega) d_L_law_428 ?_
        refine ln_goiX (va_runV (As := [.int (xs (2 + 5 * k + 1)), .int (xs (2 + 5 * k + 2))]) (rest := []) ⟨hx, hb, hml, hown, hT⟩ (cX_latest l D ci ad x (xs (2 + 5 * k + 1)) (xs (2 + 5 * k + 2)) r e1 H.size) (cw_V 2 hT wd_416 wd_1 wd_419 wd_417 wd_418 (by decide +kernel) (by decide) (by decide)) (ln_preV 0 hK hN (va_P_l hP) rfl rfl (va_P_l hP) (va_D_l hD)) rfl rfl hl.1 rfl (lv_room (Nat.le_of_ble_eq_true rfl)) d_L_law_429 ⟨by decide, by decide⟩) hP hD hS hA (fun H locs hP hD hS => ?_)
        replace hP : va_P D vwCl (wX ad ci x ++ wM am ci y) H := hP
        replace hD : va_D (fun q => s.heap.size ≤ q) (wX ad ci x ++ wM am ci y) := hD
        refine lv_aload_n hx hb d_L_law_432 rfl (lv_at hl 2 rfl) ?_
        refine lv_aload_n hx hb d_L_law_433 rfl (lv_at hl 0 rfl) ?_
        refine lv_iload_n hx hb d_L_law_434 rfl (lv_at hl 3 rfl) ?_
        refine lv_iconst (v := nI 1) hx hb d_L_law_435 (by decide) ?_
        refine ln_iadd hx hb d_L_law_436 ?_
        refine ln_sld hx hb hX hbl hbA hS (by omega) (by omega) d_L_law_437 ?_
        refine lv_aload_n hx hb d_L_law_438 rfl (lv_at hl 0 rfl) ?_
        refine lv_iload_n hx hb d_L_law_439 rfl (lv_at hl 3 rfl) ?_
        refine lv_iconst (v := nI 2) hx hb d_L_law_440 (by decide) ?_
        refine ln_iadd hx hb d_L_law_441 ?_
        refine ln_sld hx hb hX hbl hbA hS (by omega) (by omega) d_L_law_442 ?_
        refine ln_goiM (va_runV (As := [.int (xs (2 + 5 * k + 1)), .int (xs (2 + 5 * k + 2))]) (rest := [.int r]) ⟨hx, hb, hml, hown, hT⟩ (cM_latest l D ci am y (xs (2 + 5 * k + 1)) (xs (2 + 5 * k + 2)) r e2 H.size) (cw_V 2 hT wd_633 wd_8 wd_636 wd_634 wd_635 (by decide +kernel) (by decide) (by decide)) (ln_preV 0 hK hN (va_P_r hP) rfl rfl (va_P_r hP) (va_D_r hD)) rfl rfl hl.1 rfl (lv_room (Nat.le_of_ble_eq_true rfl)) d_L_law_443 ⟨by decide, by decide⟩) hP hD hS hA (fun H locs hP hD hS => ?_)
        replace hP : va_P D vwCl (wX ad ci x ++ wM am ci y) H := hP
        replace hD : va_D (fun q => s.heap.size ≤ q) (wX ad ci x ++ wM am ci y) := hD
        exact lv_icmp_eq (tgt := 484) hx hb d_L_law_446 (by decide) (fun _ => next x y H locs hP hD hS (hI.le (by omega))) (fun h9 => absurd rfl h9)
      · refine lv_tableIn (off := 399) (tgt := 451) hx hb d_L_law_52 (by decide) (by decide) (by decide) (by decide) ?_
        refine lv_aload_n hx hb d_L_law_451 rfl (lv_at hl 1 rfl) ?_
        obtain ⟨r, e1, e2⟩ := sim_letter (xs (2 + 5 * k + 1)) (xs (2 + 5 * k + 2)) hI.2.1 (fun s hs => by have := hI.2.2.2.2 s hs; omega)
        refine lv_aload_n hx hb d_L_law_452 rfl (lv_at hl 0 rfl) ?_
        refine lv_iload_n hx hb d_L_law_453 rfl (lv_at hl 3 rfl) ?_
        refine lv_iconst (v := nI 1) hx hb d_L_law_454 (by decide) ?_
        refine ln_iadd hx hb d_L_law_455 ?_
        refine ln_sld hx hb hX hbl hbA hS (by omega) (by omega) d_L_law_456 ?_
        refine lv_aload_n hx hb d_L_law_457 rfl (lv_at hl 0 rfl) ?_
        refine lv_iload_n hx hb d_L_law_458 rfl (lv_at hl 3 rfl) ?_
        refine lv_iconst (v := nI 2) hx hb d_L_law_459 (by decide) ?_
        refine ln_iadd hx hb d_L_law_460 ?_
        refine ln_sld hx hb hX hbl hbA hS (by omega) (by omega) d_L_law_461 ?_
        refine ln_goiX (va_runV (As := [.int (xs (2 + 5 * k + 1)), .int (xs (2 + 5 * k + 2))]) (rest := []) ⟨hx, hb, hml, hown, hT⟩ (cX_letter l D ci ad x (xs (2 + 5 * k + 1)) (xs (2 + 5 * k + 2)) r e1 H.size) (cw_V 2 hT wd_420 wd_1 wd_423 wd_421 wd_422 (by decide +kernel) (by decide) (by decide)) (ln_preV 0 hK hN (va_P_l hP) rfl rfl (va_P_l hP) (va_D_l hD)) rfl rfl hl.1 rfl (lv_room (Nat.le_of_ble_eq_true rfl)) d_L_law_462 ⟨by decide, by decide⟩) hP hD hS hA (fun H locs hP hD hS => ?_)
        replace hP : va_P D vwCl (wX ad ci x ++ wM am ci y) H := hP
        replace hD : va_D (fun q => s.heap.size ≤ q) (wX ad ci x ++ wM am ci y) := hD
        refine lv_aload_n hx hb d_L_law_465 rfl (lv_at hl 2 rfl) ?_
        refine lv_aload_n hx hb d_L_law_466 rfl (lv_at hl 0 rfl) ?_
        refine lv_iload_n hx hb d_L_law_467 rfl (lv_at hl 3 rfl) ?_
        refine lv_iconst (v := nI 1) hx hb d_L_law_468 (by decide) ?_
        refine ln_iadd hx hb d_L_law_469 ?_
        refine ln_sld hx hb hX hbl hbA hS (by omega) (by omega) d_L_law_470 ?_
        refine lv_aload_n hx hb d_L_law_471 rfl (lv_at hl 0 rfl) ?_
        refine lv_iload_n hx hb d_L_law_472 rfl (lv_at hl 3 rfl) ?_
        refine lv_iconst (v := nI 2) hx hb d_L_law_473 (by decide) ?_
        refine ln_iadd hx hb d_L_law_474 ?_
        refine ln_sld hx hb hX hbl hbA hS (by omega) (by omega) d_L_law_475 ?_
        refine ln_goiM (va_runV (As := [.int (xs (2 + 5 * k + 1)), .int (xs (2 + 5 * k + 2))]) (rest := [.int r]) ⟨hx, hb, hml, hown, hT⟩ (cM_letter l D ci am y (xs (2 + 5 * k + 1)) (xs (2 + 5 * k + 2)) r e2 H.size) (cw_V 2 hT wd_637 wd_8 wd_640 wd_638 wd_639 (by decide +kernel) (by decide) (by decide)) (ln_preV 0 hK hN (va_P_r hP) rfl rfl (va_P_r hP) (va_D_r hD)) rfl rfl hl.1 rfl (lv_room (Nat.le_of_ble_eq_true rfl)) d_L_law_476 ⟨by decide, by decide⟩) hP hD hS hA (fun H locs hP hD hS => ?_)
        replace hP : va_P D vwCl (wX ad ci x ++ wM am ci y) H := hP
        replace hD : va_D (fun q => s.heap.size ≤ q) (wX ad ci x ++ wM am ci y) := hD
        exact lv_icmp_eq (tgt := 484) hx hb d_L_law_479 (by decide) (fun _ => next x y H locs hP hD hS (hI.le (by omega))) (fun h9 => absurd rfl h9)
      · refine lv_tableOut (tgt := 484) hx hb d_L_law_52 (Or.inr (by decide)) (by decide) ?_
        exact next x y H locs hP hD hS (hI.le (by omega))
      · refine lv_tableOut (tgt := 484) hx hb d_L_law_52 (Or.inr (by decide)) (by decide) ?_
        exact next x y H locs hP hD hS (hI.le (by omega))
